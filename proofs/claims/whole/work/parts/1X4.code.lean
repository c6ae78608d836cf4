theorem dX4_init_0 : decode cX4_init 0 = .ok (.aload_n 0, 1) := by decide +kernel
theorem dX4_init_1 : decode cX4_init 1 = .ok (.invokespecial 5, 3) := by decide +kernel
theorem dX4_init_4 : decode cX4_init 4 = .ok (.aload_n 0, 1) := by decide +kernel
theorem dX4_init_5 : decode cX4_init 5 = .ok (.new 11, 3) := by decide +kernel
theorem dX4_init_8 : decode cX4_init 8 = .ok (.dup, 1) := by decide +kernel
theorem dX4_init_9 : decode cX4_init 9 = .ok (.invokespecial 13, 3) := by decide +kernel
theorem dX4_init_12 : decode cX4_init 12 = .ok (.putfield 14, 3) := by decide +kernel
theorem dX4_init_15 : decode cX4_init 15 = .ok (.aload_n 0, 1) := by decide +kernel
theorem dX4_init_16 : decode cX4_init 16 = .ok (.bipush 15, 2) := by decide +kernel
theorem dX4_init_18 : decode cX4_init 18 = .ok (.newarray .int, 2) := by decide +kernel
theorem dX4_init_20 : decode cX4_init 20 = .ok (.putfield 18, 3) := by decide +kernel
theorem dX4_init_23 : decode cX4_init 23 = .ok (.return_, 1) := by decide +kernel
def B_X4_init_0 (X : Nat × (Nat → Int32)) (J : Nat → zCf) (R : zRt) : zCf := oALOAD 0 (oOBJ (oALOAD 0 (oNEW 1 (oDUP (oINI X M_X1_init (oPUTR 4 0 (oALOAD 0 (oPI (zj (15)) (oNEWAI 15 (oPUTR 4 1 (oVRET R)))))))))))
set_option maxRecDepth 100000 in
theorem vb_X4_init_0 {X : Nat × (Nat → Int32)} {R : zRt} : ∀ ls st h, B_X4_init_0 X (fun t => zV X M_X4_init (zQm M_X4_init R) (if t ≤ 18 then 0 else 13) (if t ≤ 18 then 0 else 95) t) R ls st h → zV X M_X4_init (zQm M_X4_init R) 0 0 0 ls st h := sd_aload_n dX4_init_0 rfl (sd_obj dX4_init_1 (zmt (zt1 (i := 181) rfl) rfl) (zmt (zt1 (i := 28) rfl) rfl) (zmt (zt1 (i := 29) rfl) rfl) (Nat.le_of_ble_eq_true rfl) (Nat.le_of_ble_eq_true rfl) (sd_aload_n dX4_init_4 rfl (sd_new dX4_init_5 zCl1 (by decide) (zmt (zt1 (i := 182) rfl) rfl) (zmt (zt1 (i := 74) rfl) rfl) (zmt (zt1 (i := 4) rfl) rfl) (Nat.le_of_ble_eq_true rfl) (Nat.le_of_ble_eq_true rfl) (sd_dup dX4_init_8 (sd_ini dX4_init_9 mi_X1_init na_X1_init ml_RX4_13 ⟨⟨Nat.le_of_ble_eq_true rfl, Nat.le_of_ble_eq_true rfl⟩, ⟨Nat.le_of_ble_eq_true rfl, Nat.le_of_ble_eq_true rfl⟩⟩ (sd_putr dX4_init_12 zCl4 (Nat.le_of_ble_eq_true rfl) lk_RX4_14 (Or.inl ⟨_, rfl⟩) (Or.inl rfl) (sd_aload_n dX4_init_15 rfl (sd_bipush dX4_init_16 rfl (sd_newai dX4_init_18 (zmt (zt1 (i := 155) rfl) rfl) (by decide) (Nat.le_of_ble_eq_true rfl) (Nat.le_of_ble_eq_true rfl) (sd_putr dX4_init_20 zCl4 (Nat.le_of_ble_eq_true rfl) lk_RX4_18 (Or.inr ⟨_, rfl⟩) (Or.inr ⟨rfl, rfl, rfl, (zmt (zt1 (i := 186) rfl) rfl)⟩) (sd_vret dX4_init_23 rfl (Nat.le_of_ble_eq_true rfl) (Nat.le_of_ble_eq_true rfl))))))))))))
theorem dX4_begin_0 : decode cX4_begin 0 = .ok (.aload_n 0, 1) := by decide +kernel
theorem dX4_begin_1 : decode cX4_begin 1 = .ok (.getfield 14, 3) := by decide +kernel
theorem dX4_begin_4 : decode cX4_begin 4 = .ok (.astore_n 2, 1) := by decide +kernel
theorem dX4_begin_5 : decode cX4_begin 5 = .ok (.aload_n 0, 1) := by decide +kernel
theorem dX4_begin_6 : decode cX4_begin 6 = .ok (.aload_n 1, 1) := by decide +kernel
theorem dX4_begin_7 : decode cX4_begin 7 = .ok (.putfield 14, 3) := by decide +kernel
theorem dX4_begin_10 : decode cX4_begin 10 = .ok (.iconst 0, 1) := by decide +kernel
theorem dX4_begin_11 : decode cX4_begin 11 = .ok (.istore_n 3, 1) := by decide +kernel
theorem dX4_begin_12 : decode cX4_begin 12 = .ok (.iload_n 3, 1) := by decide +kernel
theorem dX4_begin_13 : decode cX4_begin 13 = .ok (.bipush 6, 2) := by decide +kernel
theorem dX4_begin_15 : decode cX4_begin 15 = .ok (.if_icmp .ge 33, 3) := by decide +kernel
theorem dX4_begin_18 : decode cX4_begin 18 = .ok (.aload_n 0, 1) := by decide +kernel
theorem dX4_begin_19 : decode cX4_begin 19 = .ok (.getfield 18, 3) := by decide +kernel
theorem dX4_begin_22 : decode cX4_begin 22 = .ok (.iload_n 3, 1) := by decide +kernel
theorem dX4_begin_23 : decode cX4_begin 23 = .ok (.iload_n 3, 1) := by decide +kernel
theorem dX4_begin_24 : decode cX4_begin 24 = .ok (.aload_n 1, 1) := by decide +kernel
theorem dX4_begin_25 : decode cX4_begin 25 = .ok (.getfield 22, 3) := by decide +kernel
theorem dX4_begin_28 : decode cX4_begin 28 = .ok (.if_icmp .ge 12, 3) := by decide +kernel
theorem dX4_begin_31 : decode cX4_begin 31 = .ok (.aload_n 1, 1) := by decide +kernel
theorem dX4_begin_32 : decode cX4_begin 32 = .ok (.getfield 26, 3) := by decide +kernel
theorem dX4_begin_35 : decode cX4_begin 35 = .ok (.iload_n 3, 1) := by decide +kernel
theorem dX4_begin_36 : decode cX4_begin 36 = .ok (.iaload, 1) := by decide +kernel
theorem dX4_begin_37 : decode cX4_begin 37 = .ok (.goto 4, 3) := by decide +kernel
theorem dX4_begin_40 : decode cX4_begin 40 = .ok (.iconst 0, 1) := by decide +kernel
theorem dX4_begin_41 : decode cX4_begin 41 = .ok (.iastore, 1) := by decide +kernel
theorem dX4_begin_42 : decode cX4_begin 42 = .ok (.iinc 3 1, 3) := by decide +kernel
theorem dX4_begin_45 : decode cX4_begin 45 = .ok (.goto (-33), 3) := by decide +kernel
theorem dX4_begin_48 : decode cX4_begin 48 = .ok (.iconst 0, 1) := by decide +kernel
theorem dX4_begin_49 : decode cX4_begin 49 = .ok (.istore_n 3, 1) := by decide +kernel
theorem dX4_begin_50 : decode cX4_begin 50 = .ok (.iload_n 3, 1) := by decide +kernel
theorem dX4_begin_51 : decode cX4_begin 51 = .ok (.iconst 4, 1) := by decide +kernel
theorem dX4_begin_52 : decode cX4_begin 52 = .ok (.if_icmp .ge 46, 3) := by decide +kernel
theorem dX4_begin_55 : decode cX4_begin 55 = .ok (.aload_n 0, 1) := by decide +kernel
theorem dX4_begin_56 : decode cX4_begin 56 = .ok (.getfield 18, 3) := by decide +kernel
theorem dX4_begin_59 : decode cX4_begin 59 = .ok (.bipush 6, 2) := by decide +kernel
theorem dX4_begin_61 : decode cX4_begin 61 = .ok (.iload_n 3, 1) := by decide +kernel
theorem dX4_begin_62 : decode cX4_begin 62 = .ok (.iadd, 1) := by decide +kernel
theorem dX4_begin_63 : decode cX4_begin 63 = .ok (.iload_n 3, 1) := by decide +kernel
theorem dX4_begin_64 : decode cX4_begin 64 = .ok (.aload_n 1, 1) := by decide +kernel
theorem dX4_begin_65 : decode cX4_begin 65 = .ok (.getfield 29, 3) := by decide +kernel
theorem dX4_begin_68 : decode cX4_begin 68 = .ok (.if_icmp .ge 12, 3) := by decide +kernel
theorem dX4_begin_71 : decode cX4_begin 71 = .ok (.aload_n 1, 1) := by decide +kernel
theorem dX4_begin_72 : decode cX4_begin 72 = .ok (.getfield 32, 3) := by decide +kernel
theorem dX4_begin_75 : decode cX4_begin 75 = .ok (.iload_n 3, 1) := by decide +kernel
theorem dX4_begin_76 : decode cX4_begin 76 = .ok (.iaload, 1) := by decide +kernel
theorem dX4_begin_77 : decode cX4_begin 77 = .ok (.goto 4, 3) := by decide +kernel
theorem dX4_begin_80 : decode cX4_begin 80 = .ok (.iconst 0, 1) := by decide +kernel
theorem dX4_begin_81 : decode cX4_begin 81 = .ok (.iastore, 1) := by decide +kernel
theorem dX4_begin_82 : decode cX4_begin 82 = .ok (.aload_n 0, 1) := by decide +kernel
theorem dX4_begin_83 : decode cX4_begin 83 = .ok (.getfield 18, 3) := by decide +kernel
theorem dX4_begin_86 : decode cX4_begin 86 = .ok (.bipush 10, 2) := by decide +kernel
theorem dX4_begin_88 : decode cX4_begin 88 = .ok (.iload_n 3, 1) := by decide +kernel
theorem dX4_begin_89 : decode cX4_begin 89 = .ok (.iadd, 1) := by decide +kernel
theorem dX4_begin_90 : decode cX4_begin 90 = .ok (.iconst 0, 1) := by decide +kernel
theorem dX4_begin_91 : decode cX4_begin 91 = .ok (.iastore, 1) := by decide +kernel
theorem dX4_begin_92 : decode cX4_begin 92 = .ok (.iinc 3 1, 3) := by decide +kernel
theorem dX4_begin_95 : decode cX4_begin 95 = .ok (.goto (-45), 3) := by decide +kernel
theorem dX4_begin_98 : decode cX4_begin 98 = .ok (.aload_n 0, 1) := by decide +kernel
theorem dX4_begin_99 : decode cX4_begin 99 = .ok (.getfield 18, 3) := by decide +kernel
theorem dX4_begin_102 : decode cX4_begin 102 = .ok (.bipush 14, 2) := by decide +kernel
theorem dX4_begin_104 : decode cX4_begin 104 = .ok (.iconst 0, 1) := by decide +kernel
theorem dX4_begin_105 : decode cX4_begin 105 = .ok (.iastore, 1) := by decide +kernel
theorem dX4_begin_106 : decode cX4_begin 106 = .ok (.aload_n 2, 1) := by decide +kernel
theorem dX4_begin_107 : decode cX4_begin 107 = .ok (.areturn, 1) := by decide +kernel
def B_X4_begin_0 (X : Nat × (Nat → Int32)) (J : Nat → zCf) (R : zRt) : zCf := oALOAD 0 (oGETR 4 0 (oASTORE 1 2 (oALOAD 0 (oALOAD 1 (oPUTR 4 0 (oPI (zj (0)) (oISTORE 2 3 (J 12))))))))
set_option maxRecDepth 100000 in
theorem vb_X4_begin_0 {X : Nat × (Nat → Int32)} {R : zRt} : ∀ ls st h, B_X4_begin_0 X (zV X M_X4_begin (zQm M_X4_begin R) 0 0) R ls st h → zV X M_X4_begin (zQm M_X4_begin R) 0 0 0 ls st h := sd_aload_n dX4_begin_0 rfl (sd_getr dX4_begin_1 zCl4 (Nat.le_of_ble_eq_true rfl) lk_RX4_14 (Or.inl ⟨_, rfl⟩) (sd_astore_n dX4_begin_4 rfl (Nat.le_of_ble_eq_true rfl) (Or.inl rfl) (sd_aload_n dX4_begin_5 rfl (sd_aload_n dX4_begin_6 rfl (sd_putr dX4_begin_7 zCl4 (Nat.le_of_ble_eq_true rfl) lk_RX4_14 (Or.inl ⟨_, rfl⟩) (Or.inl rfl) (sd_iconst dX4_begin_10 rfl (sd_istore_n dX4_begin_11 rfl (Nat.le_of_ble_eq_true rfl) (Or.inl rfl) (fun _ _ _ h => h))))))))
def B_X4_begin_12 (X : Nat × (Nat → Int32)) (J : Nat → zCf) (R : zRt) : zCf := oILOAD 3 (oPI (zj (6)) (oICGE (J 48) (oALOAD 0 (oGETR 4 1 (oILOAD 3 (oILOAD 3 (oALOAD 1 (oGETI 1 1 (oICGE (J 40) (oALOAD 1 (oGETR 1 5 (oILOAD 3 (oIALD (J 41))))))))))))))
set_option maxRecDepth 100000 in
theorem vb_X4_begin_12 {X : Nat × (Nat → Int32)} {R : zRt} : ∀ ls st h, B_X4_begin_12 X (zV X M_X4_begin (zQm M_X4_begin R) 0 0) R ls st h → zV X M_X4_begin (zQm M_X4_begin R) 0 0 12 ls st h := sd_iload_n dX4_begin_12 rfl (sd_bipush dX4_begin_13 rfl (sd_icge dX4_begin_15 rfl (fun _ _ _ h => h) (sd_aload_n dX4_begin_18 rfl (sd_getr dX4_begin_19 zCl4 (Nat.le_of_ble_eq_true rfl) lk_RX4_18 (Or.inr ⟨_, rfl⟩) (sd_iload_n dX4_begin_22 rfl (sd_iload_n dX4_begin_23 rfl (sd_aload_n dX4_begin_24 rfl (sd_geti dX4_begin_25 zCl1 (Nat.le_of_ble_eq_true rfl) lk_RX4_22 (Or.inl rfl) (sd_icge dX4_begin_28 rfl (fun _ _ _ h => h) (sd_aload_n dX4_begin_31 rfl (sd_getr dX4_begin_32 zCl1 (Nat.le_of_ble_eq_true rfl) lk_RX4_26 (Or.inr ⟨_, rfl⟩) (sd_iload_n dX4_begin_35 rfl (sd_iald dX4_begin_36 (sd_goto dX4_begin_37 rfl (fun _ _ _ h => h)))))))))))))))
def B_X4_begin_40 (X : Nat × (Nat → Int32)) (J : Nat → zCf) (R : zRt) : zCf := oPI (zj (0)) (J 41)
set_option maxRecDepth 100000 in
theorem vb_X4_begin_40 {X : Nat × (Nat → Int32)} {R : zRt} : ∀ ls st h, B_X4_begin_40 X (zV X M_X4_begin (zQm M_X4_begin R) 0 0) R ls st h → zV X M_X4_begin (zQm M_X4_begin R) 0 0 40 ls st h := sd_iconst dX4_begin_40 rfl (fun _ _ _ h => h)
def B_X4_begin_41 (X : Nat × (Nat → Int32)) (J : Nat → zCf) (R : zRt) : zCf := oIAST (oIINC 2 3 (zj (1)) (J 12))
set_option maxRecDepth 100000 in
theorem vb_X4_begin_41 {X : Nat × (Nat → Int32)} {R : zRt} : ∀ ls st h, B_X4_begin_41 X (zV X M_X4_begin (zQm M_X4_begin R) 0 0) R ls st h → zV X M_X4_begin (zQm M_X4_begin R) 0 0 41 ls st h := sd_iast dX4_begin_41 (sd_iinc dX4_begin_42 rfl (Nat.le_of_ble_eq_true rfl) (Or.inl rfl) (sd_goto dX4_begin_45 rfl (fun _ _ _ h => h)))
def B_X4_begin_48 (X : Nat × (Nat → Int32)) (J : Nat → zCf) (R : zRt) : zCf := oPI (zj (0)) (oISTORE 2 3 (J 50))
set_option maxRecDepth 100000 in
theorem vb_X4_begin_48 {X : Nat × (Nat → Int32)} {R : zRt} : ∀ ls st h, B_X4_begin_48 X (zV X M_X4_begin (zQm M_X4_begin R) 0 0) R ls st h → zV X M_X4_begin (zQm M_X4_begin R) 0 0 48 ls st h := sd_iconst dX4_begin_48 rfl (sd_istore_n dX4_begin_49 rfl (Nat.le_of_ble_eq_true rfl) (Or.inl rfl) (fun _ _ _ h => h))
def B_X4_begin_50 (X : Nat × (Nat → Int32)) (J : Nat → zCf) (R : zRt) : zCf := oILOAD 3 (oPI (zj (4)) (oICGE (J 98) (oALOAD 0 (oGETR 4 1 (oPI (zj (6)) (oILOAD 3 (oIADD (oILOAD 3 (oALOAD 1 (oGETI 1 13 (oICGE (J 80) (oALOAD 1 (oGETR 1 15 (oILOAD 3 (oIALD (J 81))))))))))))))))
set_option maxRecDepth 100000 in
theorem vb_X4_begin_50 {X : Nat × (Nat → Int32)} {R : zRt} : ∀ ls st h, B_X4_begin_50 X (zV X M_X4_begin (zQm M_X4_begin R) 0 0) R ls st h → zV X M_X4_begin (zQm M_X4_begin R) 0 0 50 ls st h := sd_iload_n dX4_begin_50 rfl (sd_iconst dX4_begin_51 rfl (sd_icge dX4_begin_52 rfl (fun _ _ _ h => h) (sd_aload_n dX4_begin_55 rfl (sd_getr dX4_begin_56 zCl4 (Nat.le_of_ble_eq_true rfl) lk_RX4_18 (Or.inr ⟨_, rfl⟩) (sd_bipush dX4_begin_59 rfl (sd_iload_n dX4_begin_61 rfl (sd_iadd dX4_begin_62 (sd_iload_n dX4_begin_63 rfl (sd_aload_n dX4_begin_64 rfl (sd_geti dX4_begin_65 zCl1 (Nat.le_of_ble_eq_true rfl) lk_RX4_29 (Or.inl rfl) (sd_icge dX4_begin_68 rfl (fun _ _ _ h => h) (sd_aload_n dX4_begin_71 rfl (sd_getr dX4_begin_72 zCl1 (Nat.le_of_ble_eq_true rfl) lk_RX4_32 (Or.inr ⟨_, rfl⟩) (sd_iload_n dX4_begin_75 rfl (sd_iald dX4_begin_76 (sd_goto dX4_begin_77 rfl (fun _ _ _ h => h)))))))))))))))))
def B_X4_begin_80 (X : Nat × (Nat → Int32)) (J : Nat → zCf) (R : zRt) : zCf := oPI (zj (0)) (J 81)
set_option maxRecDepth 100000 in
theorem vb_X4_begin_80 {X : Nat × (Nat → Int32)} {R : zRt} : ∀ ls st h, B_X4_begin_80 X (zV X M_X4_begin (zQm M_X4_begin R) 0 0) R ls st h → zV X M_X4_begin (zQm M_X4_begin R) 0 0 80 ls st h := sd_iconst dX4_begin_80 rfl (fun _ _ _ h => h)
def B_X4_begin_81 (X : Nat × (Nat → Int32)) (J : Nat → zCf) (R : zRt) : zCf := oIAST (oALOAD 0 (oGETR 4 1 (oPI (zj (10)) (oILOAD 3 (oIADD (oPI (zj (0)) (oIAST (oIINC 2 3 (zj (1)) (J 50)))))))))
set_option maxRecDepth 100000 in
theorem vb_X4_begin_81 {X : Nat × (Nat → Int32)} {R : zRt} : ∀ ls st h, B_X4_begin_81 X (zV X M_X4_begin (zQm M_X4_begin R) 0 0) R ls st h → zV X M_X4_begin (zQm M_X4_begin R) 0 0 81 ls st h := sd_iast dX4_begin_81 (sd_aload_n dX4_begin_82 rfl (sd_getr dX4_begin_83 zCl4 (Nat.le_of_ble_eq_true rfl) lk_RX4_18 (Or.inr ⟨_, rfl⟩) (sd_bipush dX4_begin_86 rfl (sd_iload_n dX4_begin_88 rfl (sd_iadd dX4_begin_89 (sd_iconst dX4_begin_90 rfl (sd_iast dX4_begin_91 (sd_iinc dX4_begin_92 rfl (Nat.le_of_ble_eq_true rfl) (Or.inl rfl) (sd_goto dX4_begin_95 rfl (fun _ _ _ h => h))))))))))
def B_X4_begin_98 (X : Nat × (Nat → Int32)) (J : Nat → zCf) (R : zRt) : zCf := oALOAD 0 (oGETR 4 1 (oPI (zj (14)) (oPI (zj (0)) (oIAST (oALOAD 2 (oARET R))))))
set_option maxRecDepth 100000 in
theorem vb_X4_begin_98 {X : Nat × (Nat → Int32)} {R : zRt} : ∀ ls st h, B_X4_begin_98 X (zV X M_X4_begin (zQm M_X4_begin R) 0 0) R ls st h → zV X M_X4_begin (zQm M_X4_begin R) 0 0 98 ls st h := sd_aload_n dX4_begin_98 rfl (sd_getr dX4_begin_99 zCl4 (Nat.le_of_ble_eq_true rfl) lk_RX4_18 (Or.inr ⟨_, rfl⟩) (sd_bipush dX4_begin_102 rfl (sd_iconst dX4_begin_104 rfl (sd_iast dX4_begin_105 (sd_aload_n dX4_begin_106 rfl (sd_aret dX4_begin_107 rfl (Nat.le_of_ble_eq_true rfl) (Nat.le_of_ble_eq_true rfl)))))))
theorem dX4_day_0 : decode cX4_day 0 = .ok (.aload_n 0, 1) := by decide +kernel
theorem dX4_day_1 : decode cX4_day 1 = .ok (.getfield 18, 3) := by decide +kernel
theorem dX4_day_4 : decode cX4_day 4 = .ok (.bipush 14, 2) := by decide +kernel
theorem dX4_day_6 : decode cX4_day 6 = .ok (.iaload, 1) := by decide +kernel
theorem dX4_day_7 : decode cX4_day 7 = .ok (.ireturn, 1) := by decide +kernel
def B_X4_day_0 (X : Nat × (Nat → Int32)) (J : Nat → zCf) (R : zRt) : zCf := oALOAD 0 (oGETR 4 1 (oPI (zj (14)) (oIALD (oIRET R))))
set_option maxRecDepth 100000 in
theorem vb_X4_day_0 {X : Nat × (Nat → Int32)} {R : zRt} : ∀ ls st h, B_X4_day_0 X (zV X M_X4_day (zQm M_X4_day R) 0 0) R ls st h → zV X M_X4_day (zQm M_X4_day R) 0 0 0 ls st h := sd_aload_n dX4_day_0 rfl (sd_getr dX4_day_1 zCl4 (Nat.le_of_ble_eq_true rfl) lk_RX4_18 (Or.inr ⟨_, rfl⟩) (sd_bipush dX4_day_4 rfl (sd_iald dX4_day_6 (sd_iret dX4_day_7 rfl (Nat.le_of_ble_eq_true rfl) (Nat.le_of_ble_eq_true rfl)))))
theorem dX4_spotOf_0 : decode cX4_spotOf 0 = .ok (.aload_n 0, 1) := by decide +kernel
theorem dX4_spotOf_1 : decode cX4_spotOf 1 = .ok (.getfield 18, 3) := by decide +kernel
theorem dX4_spotOf_4 : decode cX4_spotOf 4 = .ok (.bipush 6, 2) := by decide +kernel
theorem dX4_spotOf_6 : decode cX4_spotOf 6 = .ok (.iload_n 1, 1) := by decide +kernel
theorem dX4_spotOf_7 : decode cX4_spotOf 7 = .ok (.iadd, 1) := by decide +kernel
theorem dX4_spotOf_8 : decode cX4_spotOf 8 = .ok (.iaload, 1) := by decide +kernel
theorem dX4_spotOf_9 : decode cX4_spotOf 9 = .ok (.ireturn, 1) := by decide +kernel
def B_X4_spotOf_0 (X : Nat × (Nat → Int32)) (J : Nat → zCf) (R : zRt) : zCf := oALOAD 0 (oGETR 4 1 (oPI (zj (6)) (oILOAD 1 (oIADD (oIALD (oIRET R))))))
set_option maxRecDepth 100000 in
theorem vb_X4_spotOf_0 {X : Nat × (Nat → Int32)} {R : zRt} : ∀ ls st h, B_X4_spotOf_0 X (zV X M_X4_spotOf (zQm M_X4_spotOf R) 0 0) R ls st h → zV X M_X4_spotOf (zQm M_X4_spotOf R) 0 0 0 ls st h := sd_aload_n dX4_spotOf_0 rfl (sd_getr dX4_spotOf_1 zCl4 (Nat.le_of_ble_eq_true rfl) lk_RX4_18 (Or.inr ⟨_, rfl⟩) (sd_bipush dX4_spotOf_4 rfl (sd_iload_n dX4_spotOf_6 rfl (sd_iadd dX4_spotOf_7 (sd_iald dX4_spotOf_8 (sd_iret dX4_spotOf_9 rfl (Nat.le_of_ble_eq_true rfl) (Nat.le_of_ble_eq_true rfl)))))))
theorem dX4_stepsOf_0 : decode cX4_stepsOf 0 = .ok (.aload_n 0, 1) := by decide +kernel
theorem dX4_stepsOf_1 : decode cX4_stepsOf 1 = .ok (.getfield 18, 3) := by decide +kernel
theorem dX4_stepsOf_4 : decode cX4_stepsOf 4 = .ok (.bipush 10, 2) := by decide +kernel
theorem dX4_stepsOf_6 : decode cX4_stepsOf 6 = .ok (.iload_n 1, 1) := by decide +kernel
theorem dX4_stepsOf_7 : decode cX4_stepsOf 7 = .ok (.iadd, 1) := by decide +kernel
theorem dX4_stepsOf_8 : decode cX4_stepsOf 8 = .ok (.iaload, 1) := by decide +kernel
theorem dX4_stepsOf_9 : decode cX4_stepsOf 9 = .ok (.ireturn, 1) := by decide +kernel
def B_X4_stepsOf_0 (X : Nat × (Nat → Int32)) (J : Nat → zCf) (R : zRt) : zCf := oALOAD 0 (oGETR 4 1 (oPI (zj (10)) (oILOAD 1 (oIADD (oIALD (oIRET R))))))
set_option maxRecDepth 100000 in
theorem vb_X4_stepsOf_0 {X : Nat × (Nat → Int32)} {R : zRt} : ∀ ls st h, B_X4_stepsOf_0 X (zV X M_X4_stepsOf (zQm M_X4_stepsOf R) 0 0) R ls st h → zV X M_X4_stepsOf (zQm M_X4_stepsOf R) 0 0 0 ls st h := sd_aload_n dX4_stepsOf_0 rfl (sd_getr dX4_stepsOf_1 zCl4 (Nat.le_of_ble_eq_true rfl) lk_RX4_18 (Or.inr ⟨_, rfl⟩) (sd_bipush dX4_stepsOf_4 rfl (sd_iload_n dX4_stepsOf_6 rfl (sd_iadd dX4_stepsOf_7 (sd_iald dX4_stepsOf_8 (sd_iret dX4_stepsOf_9 rfl (Nat.le_of_ble_eq_true rfl) (Nat.le_of_ble_eq_true rfl)))))))
theorem dX4_passDays_0 : decode cX4_passDays 0 = .ok (.aload_n 0, 1) := by decide +kernel
theorem dX4_passDays_1 : decode cX4_passDays 1 = .ok (.getfield 18, 3) := by decide +kernel
theorem dX4_passDays_4 : decode cX4_passDays 4 = .ok (.bipush 14, 2) := by decide +kernel
theorem dX4_passDays_6 : decode cX4_passDays 6 = .ok (.dup2, 1) := by decide +kernel
theorem dX4_passDays_7 : decode cX4_passDays 7 = .ok (.iaload, 1) := by decide +kernel
theorem dX4_passDays_8 : decode cX4_passDays 8 = .ok (.iload_n 1, 1) := by decide +kernel
theorem dX4_passDays_9 : decode cX4_passDays 9 = .ok (.iadd, 1) := by decide +kernel
theorem dX4_passDays_10 : decode cX4_passDays 10 = .ok (.iastore, 1) := by decide +kernel
theorem dX4_passDays_11 : decode cX4_passDays 11 = .ok (.return_, 1) := by decide +kernel
def B_X4_passDays_0 (X : Nat × (Nat → Int32)) (J : Nat → zCf) (R : zRt) : zCf := oALOAD 0 (oGETR 4 1 (oPI (zj (14)) (oDUP2 (oIALD (oILOAD 1 (oIADD (oIAST (oVRET R))))))))
set_option maxRecDepth 100000 in
theorem vb_X4_passDays_0 {X : Nat × (Nat → Int32)} {R : zRt} : ∀ ls st h, B_X4_passDays_0 X (zV X M_X4_passDays (zQm M_X4_passDays R) 0 0) R ls st h → zV X M_X4_passDays (zQm M_X4_passDays R) 0 0 0 ls st h := sd_aload_n dX4_passDays_0 rfl (sd_getr dX4_passDays_1 zCl4 (Nat.le_of_ble_eq_true rfl) lk_RX4_18 (Or.inr ⟨_, rfl⟩) (sd_bipush dX4_passDays_4 rfl (sd_dup2 dX4_passDays_6 (sd_iald dX4_passDays_7 (sd_iload_n dX4_passDays_8 rfl (sd_iadd dX4_passDays_9 (sd_iast dX4_passDays_10 (sd_vret dX4_passDays_11 rfl (Nat.le_of_ble_eq_true rfl) (Nat.le_of_ble_eq_true rfl)))))))))
theorem dX4_turnAll_0 : decode cX4_turnAll 0 = .ok (.iconst 0, 1) := by decide +kernel
theorem dX4_turnAll_1 : decode cX4_turnAll 1 = .ok (.istore_n 2, 1) := by decide +kernel
theorem dX4_turnAll_2 : decode cX4_turnAll 2 = .ok (.iload_n 2, 1) := by decide +kernel
theorem dX4_turnAll_3 : decode cX4_turnAll 3 = .ok (.aload_n 0, 1) := by decide +kernel
theorem dX4_turnAll_4 : decode cX4_turnAll 4 = .ok (.getfield 14, 3) := by decide +kernel
theorem dX4_turnAll_7 : decode cX4_turnAll 7 = .ok (.getfield 22, 3) := by decide +kernel
theorem dX4_turnAll_10 : decode cX4_turnAll 10 = .ok (.if_icmp .ge 25, 3) := by decide +kernel
theorem dX4_turnAll_13 : decode cX4_turnAll 13 = .ok (.aload_n 0, 1) := by decide +kernel
theorem dX4_turnAll_14 : decode cX4_turnAll 14 = .ok (.getfield 18, 3) := by decide +kernel
theorem dX4_turnAll_17 : decode cX4_turnAll 17 = .ok (.iload_n 2, 1) := by decide +kernel
theorem dX4_turnAll_18 : decode cX4_turnAll 18 = .ok (.aload_n 0, 1) := by decide +kernel
theorem dX4_turnAll_19 : decode cX4_turnAll 19 = .ok (.iload_n 2, 1) := by decide +kernel
theorem dX4_turnAll_20 : decode cX4_turnAll 20 = .ok (.iload_n 1, 1) := by decide +kernel
theorem dX4_turnAll_21 : decode cX4_turnAll 21 = .ok (.iload_n 1, 1) := by decide +kernel
theorem dX4_turnAll_22 : decode cX4_turnAll 22 = .ok (.invokestatic 35, 3) := by decide +kernel
theorem dX4_turnAll_25 : decode cX4_turnAll 25 = .ok (.invokevirtual 39, 3) := by decide +kernel
theorem dX4_turnAll_28 : decode cX4_turnAll 28 = .ok (.iastore, 1) := by decide +kernel
theorem dX4_turnAll_29 : decode cX4_turnAll 29 = .ok (.iinc 2 1, 3) := by decide +kernel
theorem dX4_turnAll_32 : decode cX4_turnAll 32 = .ok (.goto (-30), 3) := by decide +kernel
theorem dX4_turnAll_35 : decode cX4_turnAll 35 = .ok (.return_, 1) := by decide +kernel
def B_X4_turnAll_0 (X : Nat × (Nat → Int32)) (J : Nat → zCf) (R : zRt) : zCf := oPI (zj (0)) (oISTORE 1 2 (J 2))
set_option maxRecDepth 100000 in
theorem vb_X4_turnAll_0 {X : Nat × (Nat → Int32)} {R : zRt} : ∀ ls st h, B_X4_turnAll_0 X (zV X M_X4_turnAll (zQm M_X4_turnAll R) 0 0) R ls st h → zV X M_X4_turnAll (zQm M_X4_turnAll R) 0 0 0 ls st h := sd_iconst dX4_turnAll_0 rfl (sd_istore_n dX4_turnAll_1 rfl (Nat.le_of_ble_eq_true rfl) (Or.inl rfl) (fun _ _ _ h => h))
def B_X4_turnAll_2 (X : Nat × (Nat → Int32)) (J : Nat → zCf) (R : zRt) : zCf := oILOAD 2 (oALOAD 0 (oGETR 4 0 (oGETI 1 1 (oICGE (J 35) (oALOAD 0 (oGETR 4 1 (oILOAD 2 (oALOAD 0 (oILOAD 2 (oILOAD 1 (oILOAD 1 (oINS1 X M_X7_half (oINV3 X M_X4_cellBehind 4 (oIAST (oIINC 1 2 (zj (1)) (J 2))))))))))))))))
set_option maxRecDepth 100000 in
theorem vb_X4_turnAll_2 {X : Nat × (Nat → Int32)} {R : zRt} : ∀ ls st h, B_X4_turnAll_2 X (zV X M_X4_turnAll (zQm M_X4_turnAll R) 0 0) R ls st h → zV X M_X4_turnAll (zQm M_X4_turnAll R) 0 0 2 ls st h := sd_iload_n dX4_turnAll_2 rfl (sd_aload_n dX4_turnAll_3 rfl (sd_getr dX4_turnAll_4 zCl4 (Nat.le_of_ble_eq_true rfl) lk_RX4_14 (Or.inl ⟨_, rfl⟩) (sd_geti dX4_turnAll_7 zCl1 (Nat.le_of_ble_eq_true rfl) lk_RX4_22 (Or.inl rfl) (sd_icge dX4_turnAll_10 rfl (fun _ _ _ h => h) (sd_aload_n dX4_turnAll_13 rfl (sd_getr dX4_turnAll_14 zCl4 (Nat.le_of_ble_eq_true rfl) lk_RX4_18 (Or.inr ⟨_, rfl⟩) (sd_iload_n dX4_turnAll_17 rfl (sd_aload_n dX4_turnAll_18 rfl (sd_iload_n dX4_turnAll_19 rfl (sd_iload_n dX4_turnAll_20 rfl (sd_iload_n dX4_turnAll_21 rfl (sd_ins1 dX4_turnAll_22 ms_X7_half na_X7_half ml_RX4_35 ⟨⟨Nat.le_of_ble_eq_true rfl, Nat.le_of_ble_eq_true rfl⟩, ⟨Nat.le_of_ble_eq_true rfl, Nat.le_of_ble_eq_true rfl⟩⟩ (sd_inv3 dX4_turnAll_25 rfl mv_X4_cellBehind na_X4_cellBehind ml_RX4_39 ⟨⟨Nat.le_of_ble_eq_true rfl, Nat.le_of_ble_eq_true rfl⟩, ⟨Nat.le_of_ble_eq_true rfl, Nat.le_of_ble_eq_true rfl⟩⟩ (sd_iast dX4_turnAll_28 (sd_iinc dX4_turnAll_29 rfl (Nat.le_of_ble_eq_true rfl) (Or.inl rfl) (sd_goto dX4_turnAll_32 rfl (fun _ _ _ h => h)))))))))))))))))
def B_X4_turnAll_35 (X : Nat × (Nat → Int32)) (J : Nat → zCf) (R : zRt) : zCf := oVRET R
set_option maxRecDepth 100000 in
theorem vb_X4_turnAll_35 {X : Nat × (Nat → Int32)} {R : zRt} : ∀ ls st h, B_X4_turnAll_35 X (zV X M_X4_turnAll (zQm M_X4_turnAll R) 0 0) R ls st h → zV X M_X4_turnAll (zQm M_X4_turnAll R) 0 0 35 ls st h := sd_vret dX4_turnAll_35 rfl (Nat.le_of_ble_eq_true rfl) (Nat.le_of_ble_eq_true rfl)
theorem dX4_stepPerson_0 : decode cX4_stepPerson 0 = .ok (.aload_n 0, 1) := by decide +kernel
theorem dX4_stepPerson_1 : decode cX4_stepPerson 1 = .ok (.iload_n 1, 1) := by decide +kernel
theorem dX4_stepPerson_2 : decode cX4_stepPerson 2 = .ok (.invokevirtual 43, 3) := by decide +kernel
theorem dX4_stepPerson_5 : decode cX4_stepPerson 5 = .ok (.iload_n 2, 1) := by decide +kernel
theorem dX4_stepPerson_6 : decode cX4_stepPerson 6 = .ok (.invokestatic 46, 3) := by decide +kernel
theorem dX4_stepPerson_9 : decode cX4_stepPerson 9 = .ok (.istore_n 3, 1) := by decide +kernel
theorem dX4_stepPerson_10 : decode cX4_stepPerson 10 = .ok (.aload_n 0, 1) := by decide +kernel
theorem dX4_stepPerson_11 : decode cX4_stepPerson 11 = .ok (.iload_n 3, 1) := by decide +kernel
theorem dX4_stepPerson_12 : decode cX4_stepPerson 12 = .ok (.invokevirtual 50, 3) := by decide +kernel
theorem dX4_stepPerson_15 : decode cX4_stepPerson 15 = .ok (.istore 4, 2) := by decide +kernel
theorem dX4_stepPerson_17 : decode cX4_stepPerson 17 = .ok (.aload_n 0, 1) := by decide +kernel
theorem dX4_stepPerson_18 : decode cX4_stepPerson 18 = .ok (.getfield 18, 3) := by decide +kernel
theorem dX4_stepPerson_21 : decode cX4_stepPerson 21 = .ok (.bipush 6, 2) := by decide +kernel
theorem dX4_stepPerson_23 : decode cX4_stepPerson 23 = .ok (.iload_n 1, 1) := by decide +kernel
theorem dX4_stepPerson_24 : decode cX4_stepPerson 24 = .ok (.iadd, 1) := by decide +kernel
theorem dX4_stepPerson_25 : decode cX4_stepPerson 25 = .ok (.iload_n 3, 1) := by decide +kernel
theorem dX4_stepPerson_26 : decode cX4_stepPerson 26 = .ok (.iastore, 1) := by decide +kernel
theorem dX4_stepPerson_27 : decode cX4_stepPerson 27 = .ok (.aload_n 0, 1) := by decide +kernel
theorem dX4_stepPerson_28 : decode cX4_stepPerson 28 = .ok (.getfield 18, 3) := by decide +kernel
theorem dX4_stepPerson_31 : decode cX4_stepPerson 31 = .ok (.bipush 10, 2) := by decide +kernel
theorem dX4_stepPerson_33 : decode cX4_stepPerson 33 = .ok (.iload_n 1, 1) := by decide +kernel
theorem dX4_stepPerson_34 : decode cX4_stepPerson 34 = .ok (.iadd, 1) := by decide +kernel
theorem dX4_stepPerson_35 : decode cX4_stepPerson 35 = .ok (.dup2, 1) := by decide +kernel
theorem dX4_stepPerson_36 : decode cX4_stepPerson 36 = .ok (.iaload, 1) := by decide +kernel
theorem dX4_stepPerson_37 : decode cX4_stepPerson 37 = .ok (.iload 4, 2) := by decide +kernel
theorem dX4_stepPerson_39 : decode cX4_stepPerson 39 = .ok (.iadd, 1) := by decide +kernel
theorem dX4_stepPerson_40 : decode cX4_stepPerson 40 = .ok (.iastore, 1) := by decide +kernel
theorem dX4_stepPerson_41 : decode cX4_stepPerson 41 = .ok (.iload 4, 2) := by decide +kernel
theorem dX4_stepPerson_43 : decode cX4_stepPerson 43 = .ok (.ireturn, 1) := by decide +kernel
def B_X4_stepPerson_0 (X : Nat × (Nat → Int32)) (J : Nat → zCf) (R : zRt) : zCf := oALOAD 0 (oILOAD 1 (oINV1 X M_X4_spotOf 4 (oILOAD 2 (oINS2 X M_X7_spotBeside (oISTORE 2 3 (oALOAD 0 (oILOAD 3 (oINV1 X M_X4_stepInto 4 (oISTORE 3 4 (oALOAD 0 (oGETR 4 1 (oPI (zj (6)) (oILOAD 1 (oIADD (oILOAD 3 (oIAST (oALOAD 0 (oGETR 4 1 (oPI (zj (10)) (oILOAD 1 (oIADD (oDUP2 (oIALD (oILOAD 4 (oIADD (oIAST (oILOAD 4 (oIRET R))))))))))))))))))))))))))))
set_option maxRecDepth 100000 in
theorem vb_X4_stepPerson_0 {X : Nat × (Nat → Int32)} {R : zRt} : ∀ ls st h, B_X4_stepPerson_0 X (zV X M_X4_stepPerson (zQm M_X4_stepPerson R) 0 0) R ls st h → zV X M_X4_stepPerson (zQm M_X4_stepPerson R) 0 0 0 ls st h := sd_aload_n dX4_stepPerson_0 rfl (sd_iload_n dX4_stepPerson_1 rfl (sd_inv1 dX4_stepPerson_2 rfl mv_X4_spotOf na_X4_spotOf ml_RX4_43 ⟨⟨Nat.le_of_ble_eq_true rfl, Nat.le_of_ble_eq_true rfl⟩, ⟨Nat.le_of_ble_eq_true rfl, Nat.le_of_ble_eq_true rfl⟩⟩ (sd_iload_n dX4_stepPerson_5 rfl (sd_ins2 dX4_stepPerson_6 ms_X7_spotBeside na_X7_spotBeside ml_RX4_46 ⟨⟨Nat.le_of_ble_eq_true rfl, Nat.le_of_ble_eq_true rfl⟩, ⟨Nat.le_of_ble_eq_true rfl, Nat.le_of_ble_eq_true rfl⟩⟩ (sd_istore_n dX4_stepPerson_9 rfl (Nat.le_of_ble_eq_true rfl) (Or.inl rfl) (sd_aload_n dX4_stepPerson_10 rfl (sd_iload_n dX4_stepPerson_11 rfl (sd_inv1 dX4_stepPerson_12 rfl mv_X4_stepInto na_X4_stepInto ml_RX4_50 ⟨⟨Nat.le_of_ble_eq_true rfl, Nat.le_of_ble_eq_true rfl⟩, ⟨Nat.le_of_ble_eq_true rfl, Nat.le_of_ble_eq_true rfl⟩⟩ (sd_istore dX4_stepPerson_15 (Nat.le_of_ble_eq_true rfl) (Or.inl rfl) (sd_aload_n dX4_stepPerson_17 rfl (sd_getr dX4_stepPerson_18 zCl4 (Nat.le_of_ble_eq_true rfl) lk_RX4_18 (Or.inr ⟨_, rfl⟩) (sd_bipush dX4_stepPerson_21 rfl (sd_iload_n dX4_stepPerson_23 rfl (sd_iadd dX4_stepPerson_24 (sd_iload_n dX4_stepPerson_25 rfl (sd_iast dX4_stepPerson_26 (sd_aload_n dX4_stepPerson_27 rfl (sd_getr dX4_stepPerson_28 zCl4 (Nat.le_of_ble_eq_true rfl) lk_RX4_18 (Or.inr ⟨_, rfl⟩) (sd_bipush dX4_stepPerson_31 rfl (sd_iload_n dX4_stepPerson_33 rfl (sd_iadd dX4_stepPerson_34 (sd_dup2 dX4_stepPerson_35 (sd_iald dX4_stepPerson_36 (sd_iload dX4_stepPerson_37 (sd_iadd dX4_stepPerson_39 (sd_iast dX4_stepPerson_40 (sd_iload dX4_stepPerson_41 (sd_iret dX4_stepPerson_43 rfl (Nat.le_of_ble_eq_true rfl) (Nat.le_of_ble_eq_true rfl)))))))))))))))))))))))))))))
theorem dX4_cellBehind_0 : decode cX4_cellBehind 0 = .ok (.aload_n 0, 1) := by decide +kernel
theorem dX4_cellBehind_1 : decode cX4_cellBehind 1 = .ok (.getfield 14, 3) := by decide +kernel
theorem dX4_cellBehind_4 : decode cX4_cellBehind 4 = .ok (.iload_n 1, 1) := by decide +kernel
theorem dX4_cellBehind_5 : decode cX4_cellBehind 5 = .ok (.aload_n 0, 1) := by decide +kernel
theorem dX4_cellBehind_6 : decode cX4_cellBehind 6 = .ok (.getfield 18, 3) := by decide +kernel
theorem dX4_cellBehind_9 : decode cX4_cellBehind 9 = .ok (.iload_n 1, 1) := by decide +kernel
theorem dX4_cellBehind_10 : decode cX4_cellBehind 10 = .ok (.iaload, 1) := by decide +kernel
theorem dX4_cellBehind_11 : decode cX4_cellBehind 11 = .ok (.iload_n 2, 1) := by decide +kernel
theorem dX4_cellBehind_12 : decode cX4_cellBehind 12 = .ok (.iload_n 3, 1) := by decide +kernel
theorem dX4_cellBehind_13 : decode cX4_cellBehind 13 = .ok (.invokevirtual 53, 3) := by decide +kernel
theorem dX4_cellBehind_16 : decode cX4_cellBehind 16 = .ok (.ireturn, 1) := by decide +kernel
def B_X4_cellBehind_0 (X : Nat × (Nat → Int32)) (J : Nat → zCf) (R : zRt) : zCf := oALOAD 0 (oGETR 4 0 (oILOAD 1 (oALOAD 0 (oGETR 4 1 (oILOAD 1 (oIALD (oILOAD 2 (oILOAD 3 (oINV4 X M_X1_cellMoved 1 (oIRET R))))))))))
set_option maxRecDepth 100000 in
theorem vb_X4_cellBehind_0 {X : Nat × (Nat → Int32)} {R : zRt} : ∀ ls st h, B_X4_cellBehind_0 X (zV X M_X4_cellBehind (zQm M_X4_cellBehind R) 0 0) R ls st h → zV X M_X4_cellBehind (zQm M_X4_cellBehind R) 0 0 0 ls st h := sd_aload_n dX4_cellBehind_0 rfl (sd_getr dX4_cellBehind_1 zCl4 (Nat.le_of_ble_eq_true rfl) lk_RX4_14 (Or.inl ⟨_, rfl⟩) (sd_iload_n dX4_cellBehind_4 rfl (sd_aload_n dX4_cellBehind_5 rfl (sd_getr dX4_cellBehind_6 zCl4 (Nat.le_of_ble_eq_true rfl) lk_RX4_18 (Or.inr ⟨_, rfl⟩) (sd_iload_n dX4_cellBehind_9 rfl (sd_iald dX4_cellBehind_10 (sd_iload_n dX4_cellBehind_11 rfl (sd_iload_n dX4_cellBehind_12 rfl (sd_inv4 dX4_cellBehind_13 rfl mv_X1_cellMoved na_X1_cellMoved ml_RX4_53 ⟨⟨Nat.le_of_ble_eq_true rfl, Nat.le_of_ble_eq_true rfl⟩, ⟨Nat.le_of_ble_eq_true rfl, Nat.le_of_ble_eq_true rfl⟩⟩ (sd_iret dX4_cellBehind_16 rfl (Nat.le_of_ble_eq_true rfl) (Nat.le_of_ble_eq_true rfl)))))))))))
theorem dX4_topIn_0 : decode cX4_topIn 0 = .ok (.bipush (-2), 2) := by decide +kernel
theorem dX4_topIn_2 : decode cX4_topIn 2 = .ok (.istore 4, 2) := by decide +kernel
theorem dX4_topIn_4 : decode cX4_topIn 4 = .ok (.iconst (-1), 1) := by decide +kernel
theorem dX4_topIn_5 : decode cX4_topIn 5 = .ok (.istore 5, 2) := by decide +kernel
theorem dX4_topIn_7 : decode cX4_topIn 7 = .ok (.iconst 0, 1) := by decide +kernel
theorem dX4_topIn_8 : decode cX4_topIn 8 = .ok (.istore 6, 2) := by decide +kernel
theorem dX4_topIn_10 : decode cX4_topIn 10 = .ok (.iload 6, 2) := by decide +kernel
theorem dX4_topIn_12 : decode cX4_topIn 12 = .ok (.aload_n 0, 1) := by decide +kernel
theorem dX4_topIn_13 : decode cX4_topIn 13 = .ok (.getfield 14, 3) := by decide +kernel
theorem dX4_topIn_16 : decode cX4_topIn 16 = .ok (.getfield 22, 3) := by decide +kernel
theorem dX4_topIn_19 : decode cX4_topIn 19 = .ok (.if_icmp .ge 62, 3) := by decide +kernel
theorem dX4_topIn_22 : decode cX4_topIn 22 = .ok (.aload_n 0, 1) := by decide +kernel
theorem dX4_topIn_23 : decode cX4_topIn 23 = .ok (.getfield 14, 3) := by decide +kernel
theorem dX4_topIn_26 : decode cX4_topIn 26 = .ok (.getfield 57, 3) := by decide +kernel
theorem dX4_topIn_29 : decode cX4_topIn 29 = .ok (.iload 6, 2) := by decide +kernel
theorem dX4_topIn_31 : decode cX4_topIn 31 = .ok (.iaload, 1) := by decide +kernel
theorem dX4_topIn_32 : decode cX4_topIn 32 = .ok (.iload 5, 2) := by decide +kernel
theorem dX4_topIn_34 : decode cX4_topIn 34 = .ok (.if_icmp .le 41, 3) := by decide +kernel
theorem dX4_topIn_37 : decode cX4_topIn 37 = .ok (.aload_n 0, 1) := by decide +kernel
theorem dX4_topIn_38 : decode cX4_topIn 38 = .ok (.getfield 14, 3) := by decide +kernel
theorem dX4_topIn_41 : decode cX4_topIn 41 = .ok (.iload 6, 2) := by decide +kernel
theorem dX4_topIn_43 : decode cX4_topIn 43 = .ok (.aload_n 0, 1) := by decide +kernel
theorem dX4_topIn_44 : decode cX4_topIn 44 = .ok (.getfield 18, 3) := by decide +kernel
theorem dX4_topIn_47 : decode cX4_topIn 47 = .ok (.iload 6, 2) := by decide +kernel
theorem dX4_topIn_49 : decode cX4_topIn 49 = .ok (.iaload, 1) := by decide +kernel
theorem dX4_topIn_50 : decode cX4_topIn 50 = .ok (.iload_n 2, 1) := by decide +kernel
theorem dX4_topIn_51 : decode cX4_topIn 51 = .ok (.iload_n 3, 1) := by decide +kernel
theorem dX4_topIn_52 : decode cX4_topIn 52 = .ok (.invokevirtual 53, 3) := by decide +kernel
theorem dX4_topIn_55 : decode cX4_topIn 55 = .ok (.iload_n 1, 1) := by decide +kernel
theorem dX4_topIn_56 : decode cX4_topIn 56 = .ok (.if_icmp .ne 19, 3) := by decide +kernel
theorem dX4_topIn_59 : decode cX4_topIn 59 = .ok (.iload 6, 2) := by decide +kernel
theorem dX4_topIn_61 : decode cX4_topIn 61 = .ok (.istore 4, 2) := by decide +kernel
theorem dX4_topIn_63 : decode cX4_topIn 63 = .ok (.aload_n 0, 1) := by decide +kernel
theorem dX4_topIn_64 : decode cX4_topIn 64 = .ok (.getfield 14, 3) := by decide +kernel
theorem dX4_topIn_67 : decode cX4_topIn 67 = .ok (.getfield 57, 3) := by decide +kernel
theorem dX4_topIn_70 : decode cX4_topIn 70 = .ok (.iload 6, 2) := by decide +kernel
theorem dX4_topIn_72 : decode cX4_topIn 72 = .ok (.iaload, 1) := by decide +kernel
theorem dX4_topIn_73 : decode cX4_topIn 73 = .ok (.istore 5, 2) := by decide +kernel
theorem dX4_topIn_75 : decode cX4_topIn 75 = .ok (.iinc 6 1, 3) := by decide +kernel
theorem dX4_topIn_78 : decode cX4_topIn 78 = .ok (.goto (-68), 3) := by decide +kernel
theorem dX4_topIn_81 : decode cX4_topIn 81 = .ok (.iload 4, 2) := by decide +kernel
theorem dX4_topIn_83 : decode cX4_topIn 83 = .ok (.ireturn, 1) := by decide +kernel
def B_X4_topIn_0 (X : Nat × (Nat → Int32)) (J : Nat → zCf) (R : zRt) : zCf := oPI (zj (-2)) (oISTORE 3 4 (oPI (zj (-1)) (oISTORE 4 5 (oPI (zj (0)) (oISTORE 5 6 (J 10))))))
set_option maxRecDepth 100000 in
theorem vb_X4_topIn_0 {X : Nat × (Nat → Int32)} {R : zRt} : ∀ ls st h, B_X4_topIn_0 X (zV X M_X4_topIn (zQm M_X4_topIn R) 0 0) R ls st h → zV X M_X4_topIn (zQm M_X4_topIn R) 0 0 0 ls st h := sd_bipush dX4_topIn_0 rfl (sd_istore dX4_topIn_2 (Nat.le_of_ble_eq_true rfl) (Or.inl rfl) (sd_iconst dX4_topIn_4 rfl (sd_istore dX4_topIn_5 (Nat.le_of_ble_eq_true rfl) (Or.inl rfl) (sd_iconst dX4_topIn_7 rfl (sd_istore dX4_topIn_8 (Nat.le_of_ble_eq_true rfl) (Or.inl rfl) (fun _ _ _ h => h))))))
def B_X4_topIn_10 (X : Nat × (Nat → Int32)) (J : Nat → zCf) (R : zRt) : zCf := oILOAD 6 (oALOAD 0 (oGETR 4 0 (oGETI 1 1 (oICGE (J 81) (oALOAD 0 (oGETR 4 0 (oGETR 1 3 (oILOAD 6 (oIALD (oILOAD 5 (oICLE (J 75) (oALOAD 0 (oGETR 4 0 (oILOAD 6 (oALOAD 0 (oGETR 4 1 (oILOAD 6 (oIALD (oILOAD 2 (oILOAD 3 (oINV4 X M_X1_cellMoved 1 (oILOAD 1 (oICNE (J 75) (oILOAD 6 (oISTORE 3 4 (oALOAD 0 (oGETR 4 0 (oGETR 1 3 (oILOAD 6 (oIALD (oISTORE 4 5 (J 75))))))))))))))))))))))))))))))))
set_option maxRecDepth 100000 in
theorem vb_X4_topIn_10 {X : Nat × (Nat → Int32)} {R : zRt} : ∀ ls st h, B_X4_topIn_10 X (zV X M_X4_topIn (zQm M_X4_topIn R) 0 0) R ls st h → zV X M_X4_topIn (zQm M_X4_topIn R) 0 0 10 ls st h := sd_iload dX4_topIn_10 (sd_aload_n dX4_topIn_12 rfl (sd_getr dX4_topIn_13 zCl4 (Nat.le_of_ble_eq_true rfl) lk_RX4_14 (Or.inl ⟨_, rfl⟩) (sd_geti dX4_topIn_16 zCl1 (Nat.le_of_ble_eq_true rfl) lk_RX4_22 (Or.inl rfl) (sd_icge dX4_topIn_19 rfl (fun _ _ _ h => h) (sd_aload_n dX4_topIn_22 rfl (sd_getr dX4_topIn_23 zCl4 (Nat.le_of_ble_eq_true rfl) lk_RX4_14 (Or.inl ⟨_, rfl⟩) (sd_getr dX4_topIn_26 zCl1 (Nat.le_of_ble_eq_true rfl) lk_RX4_57 (Or.inr ⟨_, rfl⟩) (sd_iload dX4_topIn_29 (sd_iald dX4_topIn_31 (sd_iload dX4_topIn_32 (sd_icle dX4_topIn_34 rfl (fun _ _ _ h => h) (sd_aload_n dX4_topIn_37 rfl (sd_getr dX4_topIn_38 zCl4 (Nat.le_of_ble_eq_true rfl) lk_RX4_14 (Or.inl ⟨_, rfl⟩) (sd_iload dX4_topIn_41 (sd_aload_n dX4_topIn_43 rfl (sd_getr dX4_topIn_44 zCl4 (Nat.le_of_ble_eq_true rfl) lk_RX4_18 (Or.inr ⟨_, rfl⟩) (sd_iload dX4_topIn_47 (sd_iald dX4_topIn_49 (sd_iload_n dX4_topIn_50 rfl (sd_iload_n dX4_topIn_51 rfl (sd_inv4 dX4_topIn_52 rfl mv_X1_cellMoved na_X1_cellMoved ml_RX4_53 ⟨⟨Nat.le_of_ble_eq_true rfl, Nat.le_of_ble_eq_true rfl⟩, ⟨Nat.le_of_ble_eq_true rfl, Nat.le_of_ble_eq_true rfl⟩⟩ (sd_iload_n dX4_topIn_55 rfl (sd_icne dX4_topIn_56 rfl (fun _ _ _ h => h) (sd_iload dX4_topIn_59 (sd_istore dX4_topIn_61 (Nat.le_of_ble_eq_true rfl) (Or.inl rfl) (sd_aload_n dX4_topIn_63 rfl (sd_getr dX4_topIn_64 zCl4 (Nat.le_of_ble_eq_true rfl) lk_RX4_14 (Or.inl ⟨_, rfl⟩) (sd_getr dX4_topIn_67 zCl1 (Nat.le_of_ble_eq_true rfl) lk_RX4_57 (Or.inr ⟨_, rfl⟩) (sd_iload dX4_topIn_70 (sd_iald dX4_topIn_72 (sd_istore dX4_topIn_73 (Nat.le_of_ble_eq_true rfl) (Or.inl rfl) (fun _ _ _ h => h))))))))))))))))))))))))))))))))
def B_X4_topIn_75 (X : Nat × (Nat → Int32)) (J : Nat → zCf) (R : zRt) : zCf := oIINC 5 6 (zj (1)) (J 10)
set_option maxRecDepth 100000 in
theorem vb_X4_topIn_75 {X : Nat × (Nat → Int32)} {R : zRt} : ∀ ls st h, B_X4_topIn_75 X (zV X M_X4_topIn (zQm M_X4_topIn R) 0 0) R ls st h → zV X M_X4_topIn (zQm M_X4_topIn R) 0 0 75 ls st h := sd_iinc dX4_topIn_75 rfl (Nat.le_of_ble_eq_true rfl) (Or.inl rfl) (sd_goto dX4_topIn_78 rfl (fun _ _ _ h => h))
def B_X4_topIn_81 (X : Nat × (Nat → Int32)) (J : Nat → zCf) (R : zRt) : zCf := oILOAD 4 (oIRET R)
set_option maxRecDepth 100000 in
theorem vb_X4_topIn_81 {X : Nat × (Nat → Int32)} {R : zRt} : ∀ ls st h, B_X4_topIn_81 X (zV X M_X4_topIn (zQm M_X4_topIn R) 0 0) R ls st h → zV X M_X4_topIn (zQm M_X4_topIn R) 0 0 81 ls st h := sd_iload dX4_topIn_81 (sd_iret dX4_topIn_83 rfl (Nat.le_of_ble_eq_true rfl) (Nat.le_of_ble_eq_true rfl))
theorem dX4_isTop_0 : decode cX4_isTop 0 = .ok (.aload_n 0, 1) := by decide +kernel
theorem dX4_isTop_1 : decode cX4_isTop 1 = .ok (.aload_n 0, 1) := by decide +kernel
theorem dX4_isTop_2 : decode cX4_isTop 2 = .ok (.iload_n 1, 1) := by decide +kernel
theorem dX4_isTop_3 : decode cX4_isTop 3 = .ok (.iload_n 2, 1) := by decide +kernel
theorem dX4_isTop_4 : decode cX4_isTop 4 = .ok (.iload_n 3, 1) := by decide +kernel
theorem dX4_isTop_5 : decode cX4_isTop 5 = .ok (.invokevirtual 39, 3) := by decide +kernel
theorem dX4_isTop_8 : decode cX4_isTop 8 = .ok (.iload_n 2, 1) := by decide +kernel
theorem dX4_isTop_9 : decode cX4_isTop 9 = .ok (.iload_n 3, 1) := by decide +kernel
theorem dX4_isTop_10 : decode cX4_isTop 10 = .ok (.invokevirtual 60, 3) := by decide +kernel
theorem dX4_isTop_13 : decode cX4_isTop 13 = .ok (.iload_n 1, 1) := by decide +kernel
theorem dX4_isTop_14 : decode cX4_isTop 14 = .ok (.if_icmp .ne 7, 3) := by decide +kernel
theorem dX4_isTop_17 : decode cX4_isTop 17 = .ok (.iconst 1, 1) := by decide +kernel
theorem dX4_isTop_18 : decode cX4_isTop 18 = .ok (.goto 4, 3) := by decide +kernel
theorem dX4_isTop_21 : decode cX4_isTop 21 = .ok (.iconst 0, 1) := by decide +kernel
theorem dX4_isTop_22 : decode cX4_isTop 22 = .ok (.ireturn, 1) := by decide +kernel
def B_X4_isTop_0 (X : Nat × (Nat → Int32)) (J : Nat → zCf) (R : zRt) : zCf := oALOAD 0 (oALOAD 0 (oILOAD 1 (oILOAD 2 (oILOAD 3 (oINV3 X M_X4_cellBehind 4 (oILOAD 2 (oILOAD 3 (oINV3 X M_X4_topIn 4 (oILOAD 1 (oICNE (J 21) (oPI (zj (1)) (J 22))))))))))))
set_option maxRecDepth 100000 in
theorem vb_X4_isTop_0 {X : Nat × (Nat → Int32)} {R : zRt} : ∀ ls st h, B_X4_isTop_0 X (zV X M_X4_isTop (zQm M_X4_isTop R) 0 0) R ls st h → zV X M_X4_isTop (zQm M_X4_isTop R) 0 0 0 ls st h := sd_aload_n dX4_isTop_0 rfl (sd_aload_n dX4_isTop_1 rfl (sd_iload_n dX4_isTop_2 rfl (sd_iload_n dX4_isTop_3 rfl (sd_iload_n dX4_isTop_4 rfl (sd_inv3 dX4_isTop_5 rfl mv_X4_cellBehind na_X4_cellBehind ml_RX4_39 ⟨⟨Nat.le_of_ble_eq_true rfl, Nat.le_of_ble_eq_true rfl⟩, ⟨Nat.le_of_ble_eq_true rfl, Nat.le_of_ble_eq_true rfl⟩⟩ (sd_iload_n dX4_isTop_8 rfl (sd_iload_n dX4_isTop_9 rfl (sd_inv3 dX4_isTop_10 rfl mv_X4_topIn na_X4_topIn ml_RX4_60 ⟨⟨Nat.le_of_ble_eq_true rfl, Nat.le_of_ble_eq_true rfl⟩, ⟨Nat.le_of_ble_eq_true rfl, Nat.le_of_ble_eq_true rfl⟩⟩ (sd_iload_n dX4_isTop_13 rfl (sd_icne dX4_isTop_14 rfl (fun _ _ _ h => h) (sd_iconst dX4_isTop_17 rfl (sd_goto dX4_isTop_18 rfl (fun _ _ _ h => h)))))))))))))
def B_X4_isTop_21 (X : Nat × (Nat → Int32)) (J : Nat → zCf) (R : zRt) : zCf := oPI (zj (0)) (J 22)
set_option maxRecDepth 100000 in
theorem vb_X4_isTop_21 {X : Nat × (Nat → Int32)} {R : zRt} : ∀ ls st h, B_X4_isTop_21 X (zV X M_X4_isTop (zQm M_X4_isTop R) 0 0) R ls st h → zV X M_X4_isTop (zQm M_X4_isTop R) 0 0 21 ls st h := sd_iconst dX4_isTop_21 rfl (fun _ _ _ h => h)
def B_X4_isTop_22 (X : Nat × (Nat → Int32)) (J : Nat → zCf) (R : zRt) : zCf := oZRET R
set_option maxRecDepth 100000 in
theorem vb_X4_isTop_22 {X : Nat × (Nat → Int32)} {R : zRt} : ∀ ls st h, B_X4_isTop_22 X (zV X M_X4_isTop (zQm M_X4_isTop R) 0 0) R ls st h → zV X M_X4_isTop (zQm M_X4_isTop R) 0 0 22 ls st h := sd_zret dX4_isTop_22 rfl (Nat.le_of_ble_eq_true rfl) (Nat.le_of_ble_eq_true rfl)
theorem dX4_topCount_0 : decode cX4_topCount 0 = .ok (.aload_n 0, 1) := by decide +kernel
theorem dX4_topCount_1 : decode cX4_topCount 1 = .ok (.iload_n 1, 1) := by decide +kernel
theorem dX4_topCount_2 : decode cX4_topCount 2 = .ok (.iload_n 2, 1) := by decide +kernel
theorem dX4_topCount_3 : decode cX4_topCount 3 = .ok (.invokevirtual 63, 3) := by decide +kernel
theorem dX4_topCount_6 : decode cX4_topCount 6 = .ok (.invokestatic 67, 3) := by decide +kernel
theorem dX4_topCount_9 : decode cX4_topCount 9 = .ok (.ireturn, 1) := by decide +kernel
def B_X4_topCount_0 (X : Nat × (Nat → Int32)) (J : Nat → zCf) (R : zRt) : zCf := oALOAD 0 (oILOAD 1 (oILOAD 2 (oINV2 X M_X4_heldCells 4 (oINS1 X M_J6_bitCount_0f7a4 (oIRET R)))))
set_option maxRecDepth 100000 in
theorem vb_X4_topCount_0 {X : Nat × (Nat → Int32)} {R : zRt} : ∀ ls st h, B_X4_topCount_0 X (zV X M_X4_topCount (zQm M_X4_topCount R) 0 0) R ls st h → zV X M_X4_topCount (zQm M_X4_topCount R) 0 0 0 ls st h := sd_aload_n dX4_topCount_0 rfl (sd_iload_n dX4_topCount_1 rfl (sd_iload_n dX4_topCount_2 rfl (sd_inv2 dX4_topCount_3 rfl mv_X4_heldCells na_X4_heldCells ml_RX4_63 ⟨⟨Nat.le_of_ble_eq_true rfl, Nat.le_of_ble_eq_true rfl⟩, ⟨Nat.le_of_ble_eq_true rfl, Nat.le_of_ble_eq_true rfl⟩⟩ (sd_ins1 dX4_topCount_6 ms_J6_bitCount_0f7a4 na_J6_bitCount_0f7a4 ml_RX4_67 ⟨⟨Nat.le_of_ble_eq_true rfl, Nat.le_of_ble_eq_true rfl⟩, ⟨Nat.le_of_ble_eq_true rfl, Nat.le_of_ble_eq_true rfl⟩⟩ (sd_iret dX4_topCount_9 rfl (Nat.le_of_ble_eq_true rfl) (Nat.le_of_ble_eq_true rfl))))))
theorem dX4_heldCells_0 : decode cX4_heldCells 0 = .ok (.iconst 0, 1) := by decide +kernel
theorem dX4_heldCells_1 : decode cX4_heldCells 1 = .ok (.istore_n 3, 1) := by decide +kernel
theorem dX4_heldCells_2 : decode cX4_heldCells 2 = .ok (.iconst 0, 1) := by decide +kernel
theorem dX4_heldCells_3 : decode cX4_heldCells 3 = .ok (.istore 4, 2) := by decide +kernel
theorem dX4_heldCells_5 : decode cX4_heldCells 5 = .ok (.iload 4, 2) := by decide +kernel
theorem dX4_heldCells_7 : decode cX4_heldCells 7 = .ok (.aload_n 0, 1) := by decide +kernel
theorem dX4_heldCells_8 : decode cX4_heldCells 8 = .ok (.getfield 14, 3) := by decide +kernel
theorem dX4_heldCells_11 : decode cX4_heldCells 11 = .ok (.getfield 22, 3) := by decide +kernel
theorem dX4_heldCells_14 : decode cX4_heldCells 14 = .ok (.if_icmp .ge 32, 3) := by decide +kernel
theorem dX4_heldCells_17 : decode cX4_heldCells 17 = .ok (.iload_n 3, 1) := by decide +kernel
theorem dX4_heldCells_18 : decode cX4_heldCells 18 = .ok (.iconst 1, 1) := by decide +kernel
theorem dX4_heldCells_19 : decode cX4_heldCells 19 = .ok (.aload_n 0, 1) := by decide +kernel
theorem dX4_heldCells_20 : decode cX4_heldCells 20 = .ok (.getfield 14, 3) := by decide +kernel
theorem dX4_heldCells_23 : decode cX4_heldCells 23 = .ok (.iload 4, 2) := by decide +kernel
theorem dX4_heldCells_25 : decode cX4_heldCells 25 = .ok (.aload_n 0, 1) := by decide +kernel
theorem dX4_heldCells_26 : decode cX4_heldCells 26 = .ok (.getfield 18, 3) := by decide +kernel
theorem dX4_heldCells_29 : decode cX4_heldCells 29 = .ok (.iload 4, 2) := by decide +kernel
theorem dX4_heldCells_31 : decode cX4_heldCells 31 = .ok (.iaload, 1) := by decide +kernel
theorem dX4_heldCells_32 : decode cX4_heldCells 32 = .ok (.iload_n 1, 1) := by decide +kernel
theorem dX4_heldCells_33 : decode cX4_heldCells 33 = .ok (.iload_n 2, 1) := by decide +kernel
theorem dX4_heldCells_34 : decode cX4_heldCells 34 = .ok (.invokevirtual 53, 3) := by decide +kernel
theorem dX4_heldCells_37 : decode cX4_heldCells 37 = .ok (.ishl, 1) := by decide +kernel
theorem dX4_heldCells_38 : decode cX4_heldCells 38 = .ok (.ior, 1) := by decide +kernel
theorem dX4_heldCells_39 : decode cX4_heldCells 39 = .ok (.istore_n 3, 1) := by decide +kernel
theorem dX4_heldCells_40 : decode cX4_heldCells 40 = .ok (.iinc 4 1, 3) := by decide +kernel
theorem dX4_heldCells_43 : decode cX4_heldCells 43 = .ok (.goto (-38), 3) := by decide +kernel
theorem dX4_heldCells_46 : decode cX4_heldCells 46 = .ok (.iload_n 3, 1) := by decide +kernel
theorem dX4_heldCells_47 : decode cX4_heldCells 47 = .ok (.ireturn, 1) := by decide +kernel
def B_X4_heldCells_0 (X : Nat × (Nat → Int32)) (J : Nat → zCf) (R : zRt) : zCf := oPI (zj (0)) (oISTORE 2 3 (oPI (zj (0)) (oISTORE 3 4 (J 5))))
set_option maxRecDepth 100000 in
theorem vb_X4_heldCells_0 {X : Nat × (Nat → Int32)} {R : zRt} : ∀ ls st h, B_X4_heldCells_0 X (zV X M_X4_heldCells (zQm M_X4_heldCells R) 0 0) R ls st h → zV X M_X4_heldCells (zQm M_X4_heldCells R) 0 0 0 ls st h := sd_iconst dX4_heldCells_0 rfl (sd_istore_n dX4_heldCells_1 rfl (Nat.le_of_ble_eq_true rfl) (Or.inl rfl) (sd_iconst dX4_heldCells_2 rfl (sd_istore dX4_heldCells_3 (Nat.le_of_ble_eq_true rfl) (Or.inl rfl) (fun _ _ _ h => h))))
def B_X4_heldCells_5 (X : Nat × (Nat → Int32)) (J : Nat → zCf) (R : zRt) : zCf := oILOAD 4 (oALOAD 0 (oGETR 4 0 (oGETI 1 1 (oICGE (J 46) (oILOAD 3 (oPI (zj (1)) (oALOAD 0 (oGETR 4 0 (oILOAD 4 (oALOAD 0 (oGETR 4 1 (oILOAD 4 (oIALD (oILOAD 1 (oILOAD 2 (oINV4 X M_X1_cellMoved 1 (oISHL (oIOR (oISTORE 2 3 (oIINC 3 4 (zj (1)) (J 5)))))))))))))))))))))
set_option maxRecDepth 100000 in
theorem vb_X4_heldCells_5 {X : Nat × (Nat → Int32)} {R : zRt} : ∀ ls st h, B_X4_heldCells_5 X (zV X M_X4_heldCells (zQm M_X4_heldCells R) 0 0) R ls st h → zV X M_X4_heldCells (zQm M_X4_heldCells R) 0 0 5 ls st h := sd_iload dX4_heldCells_5 (sd_aload_n dX4_heldCells_7 rfl (sd_getr dX4_heldCells_8 zCl4 (Nat.le_of_ble_eq_true rfl) lk_RX4_14 (Or.inl ⟨_, rfl⟩) (sd_geti dX4_heldCells_11 zCl1 (Nat.le_of_ble_eq_true rfl) lk_RX4_22 (Or.inl rfl) (sd_icge dX4_heldCells_14 rfl (fun _ _ _ h => h) (sd_iload_n dX4_heldCells_17 rfl (sd_iconst dX4_heldCells_18 rfl (sd_aload_n dX4_heldCells_19 rfl (sd_getr dX4_heldCells_20 zCl4 (Nat.le_of_ble_eq_true rfl) lk_RX4_14 (Or.inl ⟨_, rfl⟩) (sd_iload dX4_heldCells_23 (sd_aload_n dX4_heldCells_25 rfl (sd_getr dX4_heldCells_26 zCl4 (Nat.le_of_ble_eq_true rfl) lk_RX4_18 (Or.inr ⟨_, rfl⟩) (sd_iload dX4_heldCells_29 (sd_iald dX4_heldCells_31 (sd_iload_n dX4_heldCells_32 rfl (sd_iload_n dX4_heldCells_33 rfl (sd_inv4 dX4_heldCells_34 rfl mv_X1_cellMoved na_X1_cellMoved ml_RX4_53 ⟨⟨Nat.le_of_ble_eq_true rfl, Nat.le_of_ble_eq_true rfl⟩, ⟨Nat.le_of_ble_eq_true rfl, Nat.le_of_ble_eq_true rfl⟩⟩ (sd_ishl dX4_heldCells_37 (sd_ior dX4_heldCells_38 (sd_istore_n dX4_heldCells_39 rfl (Nat.le_of_ble_eq_true rfl) (Or.inl rfl) (sd_iinc dX4_heldCells_40 rfl (Nat.le_of_ble_eq_true rfl) (Or.inl rfl) (sd_goto dX4_heldCells_43 rfl (fun _ _ _ h => h))))))))))))))))))))))
def B_X4_heldCells_46 (X : Nat × (Nat → Int32)) (J : Nat → zCf) (R : zRt) : zCf := oILOAD 3 (oIRET R)
set_option maxRecDepth 100000 in
theorem vb_X4_heldCells_46 {X : Nat × (Nat → Int32)} {R : zRt} : ∀ ls st h, B_X4_heldCells_46 X (zV X M_X4_heldCells (zQm M_X4_heldCells R) 0 0) R ls st h → zV X M_X4_heldCells (zQm M_X4_heldCells R) 0 0 46 ls st h := sd_iload_n dX4_heldCells_46 rfl (sd_iret dX4_heldCells_47 rfl (Nat.le_of_ble_eq_true rfl) (Nat.le_of_ble_eq_true rfl))
theorem dX4_bitsIn_0 : decode cX4_bitsIn 0 = .ok (.iconst 0, 1) := by decide +kernel
theorem dX4_bitsIn_1 : decode cX4_bitsIn 1 = .ok (.istore_n 2, 1) := by decide +kernel
theorem dX4_bitsIn_2 : decode cX4_bitsIn 2 = .ok (.iconst 0, 1) := by decide +kernel
theorem dX4_bitsIn_3 : decode cX4_bitsIn 3 = .ok (.istore_n 3, 1) := by decide +kernel
theorem dX4_bitsIn_4 : decode cX4_bitsIn 4 = .ok (.iload_n 3, 1) := by decide +kernel
theorem dX4_bitsIn_5 : decode cX4_bitsIn 5 = .ok (.aload_n 0, 1) := by decide +kernel
theorem dX4_bitsIn_6 : decode cX4_bitsIn 6 = .ok (.getfield 14, 3) := by decide +kernel
theorem dX4_bitsIn_9 : decode cX4_bitsIn 9 = .ok (.getfield 22, 3) := by decide +kernel
theorem dX4_bitsIn_12 : decode cX4_bitsIn 12 = .ok (.if_icmp .ge 27, 3) := by decide +kernel
theorem dX4_bitsIn_15 : decode cX4_bitsIn 15 = .ok (.aload_n 0, 1) := by decide +kernel
theorem dX4_bitsIn_16 : decode cX4_bitsIn 16 = .ok (.iload_n 3, 1) := by decide +kernel
theorem dX4_bitsIn_17 : decode cX4_bitsIn 17 = .ok (.iconst 0, 1) := by decide +kernel
theorem dX4_bitsIn_18 : decode cX4_bitsIn 18 = .ok (.iconst 0, 1) := by decide +kernel
theorem dX4_bitsIn_19 : decode cX4_bitsIn 19 = .ok (.invokevirtual 39, 3) := by decide +kernel
theorem dX4_bitsIn_22 : decode cX4_bitsIn 22 = .ok (.iload_n 1, 1) := by decide +kernel
theorem dX4_bitsIn_23 : decode cX4_bitsIn 23 = .ok (.if_icmp .ne 10, 3) := by decide +kernel
theorem dX4_bitsIn_26 : decode cX4_bitsIn 26 = .ok (.iload_n 2, 1) := by decide +kernel
theorem dX4_bitsIn_27 : decode cX4_bitsIn 27 = .ok (.iload_n 3, 1) := by decide +kernel
theorem dX4_bitsIn_28 : decode cX4_bitsIn 28 = .ok (.invokestatic 72, 3) := by decide +kernel
theorem dX4_bitsIn_31 : decode cX4_bitsIn 31 = .ok (.ior, 1) := by decide +kernel
theorem dX4_bitsIn_32 : decode cX4_bitsIn 32 = .ok (.istore_n 2, 1) := by decide +kernel
theorem dX4_bitsIn_33 : decode cX4_bitsIn 33 = .ok (.iinc 3 1, 3) := by decide +kernel
theorem dX4_bitsIn_36 : decode cX4_bitsIn 36 = .ok (.goto (-32), 3) := by decide +kernel
theorem dX4_bitsIn_39 : decode cX4_bitsIn 39 = .ok (.iload_n 2, 1) := by decide +kernel
theorem dX4_bitsIn_40 : decode cX4_bitsIn 40 = .ok (.ireturn, 1) := by decide +kernel
def B_X4_bitsIn_0 (X : Nat × (Nat → Int32)) (J : Nat → zCf) (R : zRt) : zCf := oPI (zj (0)) (oISTORE 1 2 (oPI (zj (0)) (oISTORE 2 3 (J 4))))
set_option maxRecDepth 100000 in
theorem vb_X4_bitsIn_0 {X : Nat × (Nat → Int32)} {R : zRt} : ∀ ls st h, B_X4_bitsIn_0 X (zV X M_X4_bitsIn (zQm M_X4_bitsIn R) 0 0) R ls st h → zV X M_X4_bitsIn (zQm M_X4_bitsIn R) 0 0 0 ls st h := sd_iconst dX4_bitsIn_0 rfl (sd_istore_n dX4_bitsIn_1 rfl (Nat.le_of_ble_eq_true rfl) (Or.inl rfl) (sd_iconst dX4_bitsIn_2 rfl (sd_istore_n dX4_bitsIn_3 rfl (Nat.le_of_ble_eq_true rfl) (Or.inl rfl) (fun _ _ _ h => h))))
def B_X4_bitsIn_4 (X : Nat × (Nat → Int32)) (J : Nat → zCf) (R : zRt) : zCf := oILOAD 3 (oALOAD 0 (oGETR 4 0 (oGETI 1 1 (oICGE (J 39) (oALOAD 0 (oILOAD 3 (oPI (zj (0)) (oPI (zj (0)) (oINV3 X M_X4_cellBehind 4 (oILOAD 1 (oICNE (J 33) (oILOAD 2 (oILOAD 3 (oINS1 X M_X7_asBit (oIOR (oISTORE 1 2 (J 33)))))))))))))))))
set_option maxRecDepth 100000 in
theorem vb_X4_bitsIn_4 {X : Nat × (Nat → Int32)} {R : zRt} : ∀ ls st h, B_X4_bitsIn_4 X (zV X M_X4_bitsIn (zQm M_X4_bitsIn R) 0 0) R ls st h → zV X M_X4_bitsIn (zQm M_X4_bitsIn R) 0 0 4 ls st h := sd_iload_n dX4_bitsIn_4 rfl (sd_aload_n dX4_bitsIn_5 rfl (sd_getr dX4_bitsIn_6 zCl4 (Nat.le_of_ble_eq_true rfl) lk_RX4_14 (Or.inl ⟨_, rfl⟩) (sd_geti dX4_bitsIn_9 zCl1 (Nat.le_of_ble_eq_true rfl) lk_RX4_22 (Or.inl rfl) (sd_icge dX4_bitsIn_12 rfl (fun _ _ _ h => h) (sd_aload_n dX4_bitsIn_15 rfl (sd_iload_n dX4_bitsIn_16 rfl (sd_iconst dX4_bitsIn_17 rfl (sd_iconst dX4_bitsIn_18 rfl (sd_inv3 dX4_bitsIn_19 rfl mv_X4_cellBehind na_X4_cellBehind ml_RX4_39 ⟨⟨Nat.le_of_ble_eq_true rfl, Nat.le_of_ble_eq_true rfl⟩, ⟨Nat.le_of_ble_eq_true rfl, Nat.le_of_ble_eq_true rfl⟩⟩ (sd_iload_n dX4_bitsIn_22 rfl (sd_icne dX4_bitsIn_23 rfl (fun _ _ _ h => h) (sd_iload_n dX4_bitsIn_26 rfl (sd_iload_n dX4_bitsIn_27 rfl (sd_ins1 dX4_bitsIn_28 ms_X7_asBit na_X7_asBit ml_RX4_72 ⟨⟨Nat.le_of_ble_eq_true rfl, Nat.le_of_ble_eq_true rfl⟩, ⟨Nat.le_of_ble_eq_true rfl, Nat.le_of_ble_eq_true rfl⟩⟩ (sd_ior dX4_bitsIn_31 (sd_istore_n dX4_bitsIn_32 rfl (Nat.le_of_ble_eq_true rfl) (Or.inl rfl) (fun _ _ _ h => h)))))))))))))))))
def B_X4_bitsIn_33 (X : Nat × (Nat → Int32)) (J : Nat → zCf) (R : zRt) : zCf := oIINC 2 3 (zj (1)) (J 4)
set_option maxRecDepth 100000 in
theorem vb_X4_bitsIn_33 {X : Nat × (Nat → Int32)} {R : zRt} : ∀ ls st h, B_X4_bitsIn_33 X (zV X M_X4_bitsIn (zQm M_X4_bitsIn R) 0 0) R ls st h → zV X M_X4_bitsIn (zQm M_X4_bitsIn R) 0 0 33 ls st h := sd_iinc dX4_bitsIn_33 rfl (Nat.le_of_ble_eq_true rfl) (Or.inl rfl) (sd_goto dX4_bitsIn_36 rfl (fun _ _ _ h => h))
def B_X4_bitsIn_39 (X : Nat × (Nat → Int32)) (J : Nat → zCf) (R : zRt) : zCf := oILOAD 2 (oIRET R)
set_option maxRecDepth 100000 in
theorem vb_X4_bitsIn_39 {X : Nat × (Nat → Int32)} {R : zRt} : ∀ ls st h, B_X4_bitsIn_39 X (zV X M_X4_bitsIn (zQm M_X4_bitsIn R) 0 0) R ls st h → zV X M_X4_bitsIn (zQm M_X4_bitsIn R) 0 0 39 ls st h := sd_iload_n dX4_bitsIn_39 rfl (sd_iret dX4_bitsIn_40 rfl (Nat.le_of_ble_eq_true rfl) (Nat.le_of_ble_eq_true rfl))
theorem dX4_bitsUnder_0 : decode cX4_bitsUnder 0 = .ok (.iconst 0, 1) := by decide +kernel
theorem dX4_bitsUnder_1 : decode cX4_bitsUnder 1 = .ok (.istore_n 1, 1) := by decide +kernel
theorem dX4_bitsUnder_2 : decode cX4_bitsUnder 2 = .ok (.iconst 0, 1) := by decide +kernel
theorem dX4_bitsUnder_3 : decode cX4_bitsUnder 3 = .ok (.istore_n 2, 1) := by decide +kernel
theorem dX4_bitsUnder_4 : decode cX4_bitsUnder 4 = .ok (.iload_n 2, 1) := by decide +kernel
theorem dX4_bitsUnder_5 : decode cX4_bitsUnder 5 = .ok (.aload_n 0, 1) := by decide +kernel
theorem dX4_bitsUnder_6 : decode cX4_bitsUnder 6 = .ok (.getfield 14, 3) := by decide +kernel
theorem dX4_bitsUnder_9 : decode cX4_bitsUnder 9 = .ok (.getfield 22, 3) := by decide +kernel
theorem dX4_bitsUnder_12 : decode cX4_bitsUnder 12 = .ok (.if_icmp .ge 26, 3) := by decide +kernel
theorem dX4_bitsUnder_15 : decode cX4_bitsUnder 15 = .ok (.aload_n 0, 1) := by decide +kernel
theorem dX4_bitsUnder_16 : decode cX4_bitsUnder 16 = .ok (.iload_n 2, 1) := by decide +kernel
theorem dX4_bitsUnder_17 : decode cX4_bitsUnder 17 = .ok (.iconst 0, 1) := by decide +kernel
theorem dX4_bitsUnder_18 : decode cX4_bitsUnder 18 = .ok (.iconst 0, 1) := by decide +kernel
theorem dX4_bitsUnder_19 : decode cX4_bitsUnder 19 = .ok (.invokevirtual 75, 3) := by decide +kernel
theorem dX4_bitsUnder_22 : decode cX4_bitsUnder 22 = .ok (.ifCond .ne 10, 3) := by decide +kernel
theorem dX4_bitsUnder_25 : decode cX4_bitsUnder 25 = .ok (.iload_n 1, 1) := by decide +kernel
theorem dX4_bitsUnder_26 : decode cX4_bitsUnder 26 = .ok (.iload_n 2, 1) := by decide +kernel
theorem dX4_bitsUnder_27 : decode cX4_bitsUnder 27 = .ok (.invokestatic 72, 3) := by decide +kernel
theorem dX4_bitsUnder_30 : decode cX4_bitsUnder 30 = .ok (.ior, 1) := by decide +kernel
theorem dX4_bitsUnder_31 : decode cX4_bitsUnder 31 = .ok (.istore_n 1, 1) := by decide +kernel
theorem dX4_bitsUnder_32 : decode cX4_bitsUnder 32 = .ok (.iinc 2 1, 3) := by decide +kernel
theorem dX4_bitsUnder_35 : decode cX4_bitsUnder 35 = .ok (.goto (-31), 3) := by decide +kernel
theorem dX4_bitsUnder_38 : decode cX4_bitsUnder 38 = .ok (.iload_n 1, 1) := by decide +kernel
theorem dX4_bitsUnder_39 : decode cX4_bitsUnder 39 = .ok (.ireturn, 1) := by decide +kernel
def B_X4_bitsUnder_0 (X : Nat × (Nat → Int32)) (J : Nat → zCf) (R : zRt) : zCf := oPI (zj (0)) (oISTORE 0 1 (oPI (zj (0)) (oISTORE 1 2 (J 4))))
set_option maxRecDepth 100000 in
theorem vb_X4_bitsUnder_0 {X : Nat × (Nat → Int32)} {R : zRt} : ∀ ls st h, B_X4_bitsUnder_0 X (zV X M_X4_bitsUnder (zQm M_X4_bitsUnder R) 0 0) R ls st h → zV X M_X4_bitsUnder (zQm M_X4_bitsUnder R) 0 0 0 ls st h := sd_iconst dX4_bitsUnder_0 rfl (sd_istore_n dX4_bitsUnder_1 rfl (Nat.le_of_ble_eq_true rfl) (Or.inl rfl) (sd_iconst dX4_bitsUnder_2 rfl (sd_istore_n dX4_bitsUnder_3 rfl (Nat.le_of_ble_eq_true rfl) (Or.inl rfl) (fun _ _ _ h => h))))
def B_X4_bitsUnder_4 (X : Nat × (Nat → Int32)) (J : Nat → zCf) (R : zRt) : zCf := oILOAD 2 (oALOAD 0 (oGETR 4 0 (oGETI 1 1 (oICGE (J 38) (oALOAD 0 (oILOAD 2 (oPI (zj (0)) (oPI (zj (0)) (oINV3 X M_X4_isTop 4 (oIFNE (J 32) (oILOAD 1 (oILOAD 2 (oINS1 X M_X7_asBit (oIOR (oISTORE 0 1 (J 32))))))))))))))))
set_option maxRecDepth 100000 in
theorem vb_X4_bitsUnder_4 {X : Nat × (Nat → Int32)} {R : zRt} : ∀ ls st h, B_X4_bitsUnder_4 X (zV X M_X4_bitsUnder (zQm M_X4_bitsUnder R) 0 0) R ls st h → zV X M_X4_bitsUnder (zQm M_X4_bitsUnder R) 0 0 4 ls st h := sd_iload_n dX4_bitsUnder_4 rfl (sd_aload_n dX4_bitsUnder_5 rfl (sd_getr dX4_bitsUnder_6 zCl4 (Nat.le_of_ble_eq_true rfl) lk_RX4_14 (Or.inl ⟨_, rfl⟩) (sd_geti dX4_bitsUnder_9 zCl1 (Nat.le_of_ble_eq_true rfl) lk_RX4_22 (Or.inl rfl) (sd_icge dX4_bitsUnder_12 rfl (fun _ _ _ h => h) (sd_aload_n dX4_bitsUnder_15 rfl (sd_iload_n dX4_bitsUnder_16 rfl (sd_iconst dX4_bitsUnder_17 rfl (sd_iconst dX4_bitsUnder_18 rfl (sd_inv3 dX4_bitsUnder_19 rfl mv_X4_isTop na_X4_isTop ml_RX4_75 ⟨⟨Nat.le_of_ble_eq_true rfl, Nat.le_of_ble_eq_true rfl⟩, ⟨Nat.le_of_ble_eq_true rfl, Nat.le_of_ble_eq_true rfl⟩⟩ (sd_ifne dX4_bitsUnder_22 rfl (fun _ _ _ h => h) (sd_iload_n dX4_bitsUnder_25 rfl (sd_iload_n dX4_bitsUnder_26 rfl (sd_ins1 dX4_bitsUnder_27 ms_X7_asBit na_X7_asBit ml_RX4_72 ⟨⟨Nat.le_of_ble_eq_true rfl, Nat.le_of_ble_eq_true rfl⟩, ⟨Nat.le_of_ble_eq_true rfl, Nat.le_of_ble_eq_true rfl⟩⟩ (sd_ior dX4_bitsUnder_30 (sd_istore_n dX4_bitsUnder_31 rfl (Nat.le_of_ble_eq_true rfl) (Or.inl rfl) (fun _ _ _ h => h))))))))))))))))
def B_X4_bitsUnder_32 (X : Nat × (Nat → Int32)) (J : Nat → zCf) (R : zRt) : zCf := oIINC 1 2 (zj (1)) (J 4)
set_option maxRecDepth 100000 in
theorem vb_X4_bitsUnder_32 {X : Nat × (Nat → Int32)} {R : zRt} : ∀ ls st h, B_X4_bitsUnder_32 X (zV X M_X4_bitsUnder (zQm M_X4_bitsUnder R) 0 0) R ls st h → zV X M_X4_bitsUnder (zQm M_X4_bitsUnder R) 0 0 32 ls st h := sd_iinc dX4_bitsUnder_32 rfl (Nat.le_of_ble_eq_true rfl) (Or.inl rfl) (sd_goto dX4_bitsUnder_35 rfl (fun _ _ _ h => h))
def B_X4_bitsUnder_38 (X : Nat × (Nat → Int32)) (J : Nat → zCf) (R : zRt) : zCf := oILOAD 1 (oIRET R)
set_option maxRecDepth 100000 in
theorem vb_X4_bitsUnder_38 {X : Nat × (Nat → Int32)} {R : zRt} : ∀ ls st h, B_X4_bitsUnder_38 X (zV X M_X4_bitsUnder (zQm M_X4_bitsUnder R) 0 0) R ls st h → zV X M_X4_bitsUnder (zQm M_X4_bitsUnder R) 0 0 38 ls st h := sd_iload_n dX4_bitsUnder_38 rfl (sd_iret dX4_bitsUnder_39 rfl (Nat.le_of_ble_eq_true rfl) (Nat.le_of_ble_eq_true rfl))
theorem dX4_rightBits_0 : decode cX4_rightBits 0 = .ok (.iconst 0, 1) := by decide +kernel
theorem dX4_rightBits_1 : decode cX4_rightBits 1 = .ok (.istore_n 3, 1) := by decide +kernel
theorem dX4_rightBits_2 : decode cX4_rightBits 2 = .ok (.iconst 0, 1) := by decide +kernel
theorem dX4_rightBits_3 : decode cX4_rightBits 3 = .ok (.istore 4, 2) := by decide +kernel
theorem dX4_rightBits_5 : decode cX4_rightBits 5 = .ok (.iload 4, 2) := by decide +kernel
theorem dX4_rightBits_7 : decode cX4_rightBits 7 = .ok (.aload_n 0, 1) := by decide +kernel
theorem dX4_rightBits_8 : decode cX4_rightBits 8 = .ok (.getfield 14, 3) := by decide +kernel
theorem dX4_rightBits_11 : decode cX4_rightBits 11 = .ok (.getfield 22, 3) := by decide +kernel
theorem dX4_rightBits_14 : decode cX4_rightBits 14 = .ok (.if_icmp .ge 38, 3) := by decide +kernel
theorem dX4_rightBits_17 : decode cX4_rightBits 17 = .ok (.aload_n 0, 1) := by decide +kernel
theorem dX4_rightBits_18 : decode cX4_rightBits 18 = .ok (.iload 4, 2) := by decide +kernel
theorem dX4_rightBits_20 : decode cX4_rightBits 20 = .ok (.iload_n 1, 1) := by decide +kernel
theorem dX4_rightBits_21 : decode cX4_rightBits 21 = .ok (.iload_n 2, 1) := by decide +kernel
theorem dX4_rightBits_22 : decode cX4_rightBits 22 = .ok (.invokevirtual 39, 3) := by decide +kernel
theorem dX4_rightBits_25 : decode cX4_rightBits 25 = .ok (.aload_n 0, 1) := by decide +kernel
theorem dX4_rightBits_26 : decode cX4_rightBits 26 = .ok (.getfield 14, 3) := by decide +kernel
theorem dX4_rightBits_29 : decode cX4_rightBits 29 = .ok (.getfield 79, 3) := by decide +kernel
theorem dX4_rightBits_32 : decode cX4_rightBits 32 = .ok (.iload 4, 2) := by decide +kernel
theorem dX4_rightBits_34 : decode cX4_rightBits 34 = .ok (.iaload, 1) := by decide +kernel
theorem dX4_rightBits_35 : decode cX4_rightBits 35 = .ok (.if_icmp .ne 11, 3) := by decide +kernel
theorem dX4_rightBits_38 : decode cX4_rightBits 38 = .ok (.iload_n 3, 1) := by decide +kernel
theorem dX4_rightBits_39 : decode cX4_rightBits 39 = .ok (.iload 4, 2) := by decide +kernel
theorem dX4_rightBits_41 : decode cX4_rightBits 41 = .ok (.invokestatic 72, 3) := by decide +kernel
theorem dX4_rightBits_44 : decode cX4_rightBits 44 = .ok (.ior, 1) := by decide +kernel
theorem dX4_rightBits_45 : decode cX4_rightBits 45 = .ok (.istore_n 3, 1) := by decide +kernel
theorem dX4_rightBits_46 : decode cX4_rightBits 46 = .ok (.iinc 4 1, 3) := by decide +kernel
theorem dX4_rightBits_49 : decode cX4_rightBits 49 = .ok (.goto (-44), 3) := by decide +kernel
theorem dX4_rightBits_52 : decode cX4_rightBits 52 = .ok (.iload_n 3, 1) := by decide +kernel
theorem dX4_rightBits_53 : decode cX4_rightBits 53 = .ok (.ireturn, 1) := by decide +kernel
def B_X4_rightBits_0 (X : Nat × (Nat → Int32)) (J : Nat → zCf) (R : zRt) : zCf := oPI (zj (0)) (oISTORE 2 3 (oPI (zj (0)) (oISTORE 3 4 (J 5))))
set_option maxRecDepth 100000 in
theorem vb_X4_rightBits_0 {X : Nat × (Nat → Int32)} {R : zRt} : ∀ ls st h, B_X4_rightBits_0 X (zV X M_X4_rightBits (zQm M_X4_rightBits R) 0 0) R ls st h → zV X M_X4_rightBits (zQm M_X4_rightBits R) 0 0 0 ls st h := sd_iconst dX4_rightBits_0 rfl (sd_istore_n dX4_rightBits_1 rfl (Nat.le_of_ble_eq_true rfl) (Or.inl rfl) (sd_iconst dX4_rightBits_2 rfl (sd_istore dX4_rightBits_3 (Nat.le_of_ble_eq_true rfl) (Or.inl rfl) (fun _ _ _ h => h))))
def B_X4_rightBits_5 (X : Nat × (Nat → Int32)) (J : Nat → zCf) (R : zRt) : zCf := oILOAD 4 (oALOAD 0 (oGETR 4 0 (oGETI 1 1 (oICGE (J 52) (oALOAD 0 (oILOAD 4 (oILOAD 1 (oILOAD 2 (oINV3 X M_X4_cellBehind 4 (oALOAD 0 (oGETR 4 0 (oGETR 1 6 (oILOAD 4 (oIALD (oICNE (J 46) (oILOAD 3 (oILOAD 4 (oINS1 X M_X7_asBit (oIOR (oISTORE 2 3 (J 46)))))))))))))))))))))
set_option maxRecDepth 100000 in
theorem vb_X4_rightBits_5 {X : Nat × (Nat → Int32)} {R : zRt} : ∀ ls st h, B_X4_rightBits_5 X (zV X M_X4_rightBits (zQm M_X4_rightBits R) 0 0) R ls st h → zV X M_X4_rightBits (zQm M_X4_rightBits R) 0 0 5 ls st h := sd_iload dX4_rightBits_5 (sd_aload_n dX4_rightBits_7 rfl (sd_getr dX4_rightBits_8 zCl4 (Nat.le_of_ble_eq_true rfl) lk_RX4_14 (Or.inl ⟨_, rfl⟩) (sd_geti dX4_rightBits_11 zCl1 (Nat.le_of_ble_eq_true rfl) lk_RX4_22 (Or.inl rfl) (sd_icge dX4_rightBits_14 rfl (fun _ _ _ h => h) (sd_aload_n dX4_rightBits_17 rfl (sd_iload dX4_rightBits_18 (sd_iload_n dX4_rightBits_20 rfl (sd_iload_n dX4_rightBits_21 rfl (sd_inv3 dX4_rightBits_22 rfl mv_X4_cellBehind na_X4_cellBehind ml_RX4_39 ⟨⟨Nat.le_of_ble_eq_true rfl, Nat.le_of_ble_eq_true rfl⟩, ⟨Nat.le_of_ble_eq_true rfl, Nat.le_of_ble_eq_true rfl⟩⟩ (sd_aload_n dX4_rightBits_25 rfl (sd_getr dX4_rightBits_26 zCl4 (Nat.le_of_ble_eq_true rfl) lk_RX4_14 (Or.inl ⟨_, rfl⟩) (sd_getr dX4_rightBits_29 zCl1 (Nat.le_of_ble_eq_true rfl) lk_RX4_79 (Or.inr ⟨_, rfl⟩) (sd_iload dX4_rightBits_32 (sd_iald dX4_rightBits_34 (sd_icne dX4_rightBits_35 rfl (fun _ _ _ h => h) (sd_iload_n dX4_rightBits_38 rfl (sd_iload dX4_rightBits_39 (sd_ins1 dX4_rightBits_41 ms_X7_asBit na_X7_asBit ml_RX4_72 ⟨⟨Nat.le_of_ble_eq_true rfl, Nat.le_of_ble_eq_true rfl⟩, ⟨Nat.le_of_ble_eq_true rfl, Nat.le_of_ble_eq_true rfl⟩⟩ (sd_ior dX4_rightBits_44 (sd_istore_n dX4_rightBits_45 rfl (Nat.le_of_ble_eq_true rfl) (Or.inl rfl) (fun _ _ _ h => h)))))))))))))))))))))
def B_X4_rightBits_46 (X : Nat × (Nat → Int32)) (J : Nat → zCf) (R : zRt) : zCf := oIINC 3 4 (zj (1)) (J 5)
set_option maxRecDepth 100000 in
theorem vb_X4_rightBits_46 {X : Nat × (Nat → Int32)} {R : zRt} : ∀ ls st h, B_X4_rightBits_46 X (zV X M_X4_rightBits (zQm M_X4_rightBits R) 0 0) R ls st h → zV X M_X4_rightBits (zQm M_X4_rightBits R) 0 0 46 ls st h := sd_iinc dX4_rightBits_46 rfl (Nat.le_of_ble_eq_true rfl) (Or.inl rfl) (sd_goto dX4_rightBits_49 rfl (fun _ _ _ h => h))
def B_X4_rightBits_52 (X : Nat × (Nat → Int32)) (J : Nat → zCf) (R : zRt) : zCf := oILOAD 3 (oIRET R)
set_option maxRecDepth 100000 in
theorem vb_X4_rightBits_52 {X : Nat × (Nat → Int32)} {R : zRt} : ∀ ls st h, B_X4_rightBits_52 X (zV X M_X4_rightBits (zQm M_X4_rightBits R) 0 0) R ls st h → zV X M_X4_rightBits (zQm M_X4_rightBits R) 0 0 52 ls st h := sd_iload_n dX4_rightBits_52 rfl (sd_iret dX4_rightBits_53 rfl (Nat.le_of_ble_eq_true rfl) (Nat.le_of_ble_eq_true rfl))
theorem dX4_allRight_0 : decode cX4_allRight 0 = .ok (.iconst 0, 1) := by decide +kernel
theorem dX4_allRight_1 : decode cX4_allRight 1 = .ok (.istore_n 3, 1) := by decide +kernel
theorem dX4_allRight_2 : decode cX4_allRight 2 = .ok (.iload_n 3, 1) := by decide +kernel
theorem dX4_allRight_3 : decode cX4_allRight 3 = .ok (.aload_n 0, 1) := by decide +kernel
theorem dX4_allRight_4 : decode cX4_allRight 4 = .ok (.getfield 14, 3) := by decide +kernel
theorem dX4_allRight_7 : decode cX4_allRight 7 = .ok (.getfield 22, 3) := by decide +kernel
theorem dX4_allRight_10 : decode cX4_allRight 10 = .ok (.if_icmp .ge 44, 3) := by decide +kernel
theorem dX4_allRight_13 : decode cX4_allRight 13 = .ok (.aload_n 0, 1) := by decide +kernel
theorem dX4_allRight_14 : decode cX4_allRight 14 = .ok (.getfield 14, 3) := by decide +kernel
theorem dX4_allRight_17 : decode cX4_allRight 17 = .ok (.getfield 79, 3) := by decide +kernel
theorem dX4_allRight_20 : decode cX4_allRight 20 = .ok (.iload_n 3, 1) := by decide +kernel
theorem dX4_allRight_21 : decode cX4_allRight 21 = .ok (.iaload, 1) := by decide +kernel
theorem dX4_allRight_22 : decode cX4_allRight 22 = .ok (.bipush (-2), 2) := by decide +kernel
theorem dX4_allRight_24 : decode cX4_allRight 24 = .ok (.if_icmp .eq 24, 3) := by decide +kernel
theorem dX4_allRight_27 : decode cX4_allRight 27 = .ok (.aload_n 0, 1) := by decide +kernel
theorem dX4_allRight_28 : decode cX4_allRight 28 = .ok (.iload_n 3, 1) := by decide +kernel
theorem dX4_allRight_29 : decode cX4_allRight 29 = .ok (.iload_n 1, 1) := by decide +kernel
theorem dX4_allRight_30 : decode cX4_allRight 30 = .ok (.iload_n 2, 1) := by decide +kernel
theorem dX4_allRight_31 : decode cX4_allRight 31 = .ok (.invokevirtual 39, 3) := by decide +kernel
theorem dX4_allRight_34 : decode cX4_allRight 34 = .ok (.aload_n 0, 1) := by decide +kernel
theorem dX4_allRight_35 : decode cX4_allRight 35 = .ok (.getfield 14, 3) := by decide +kernel
theorem dX4_allRight_38 : decode cX4_allRight 38 = .ok (.getfield 79, 3) := by decide +kernel
theorem dX4_allRight_41 : decode cX4_allRight 41 = .ok (.iload_n 3, 1) := by decide +kernel
theorem dX4_allRight_42 : decode cX4_allRight 42 = .ok (.iaload, 1) := by decide +kernel
theorem dX4_allRight_43 : decode cX4_allRight 43 = .ok (.if_icmp .eq 5, 3) := by decide +kernel
theorem dX4_allRight_46 : decode cX4_allRight 46 = .ok (.iconst 0, 1) := by decide +kernel
theorem dX4_allRight_47 : decode cX4_allRight 47 = .ok (.ireturn, 1) := by decide +kernel
theorem dX4_allRight_48 : decode cX4_allRight 48 = .ok (.iinc 3 1, 3) := by decide +kernel
theorem dX4_allRight_51 : decode cX4_allRight 51 = .ok (.goto (-49), 3) := by decide +kernel
theorem dX4_allRight_54 : decode cX4_allRight 54 = .ok (.iconst 1, 1) := by decide +kernel
theorem dX4_allRight_55 : decode cX4_allRight 55 = .ok (.ireturn, 1) := by decide +kernel
def B_X4_allRight_0 (X : Nat × (Nat → Int32)) (J : Nat → zCf) (R : zRt) : zCf := oPI (zj (0)) (oISTORE 2 3 (J 2))
set_option maxRecDepth 100000 in
theorem vb_X4_allRight_0 {X : Nat × (Nat → Int32)} {R : zRt} : ∀ ls st h, B_X4_allRight_0 X (zV X M_X4_allRight (zQm M_X4_allRight R) 0 0) R ls st h → zV X M_X4_allRight (zQm M_X4_allRight R) 0 0 0 ls st h := sd_iconst dX4_allRight_0 rfl (sd_istore_n dX4_allRight_1 rfl (Nat.le_of_ble_eq_true rfl) (Or.inl rfl) (fun _ _ _ h => h))
def B_X4_allRight_2 (X : Nat × (Nat → Int32)) (J : Nat → zCf) (R : zRt) : zCf := oILOAD 3 (oALOAD 0 (oGETR 4 0 (oGETI 1 1 (oICGE (J 54) (oALOAD 0 (oGETR 4 0 (oGETR 1 6 (oILOAD 3 (oIALD (oPI (zj (-2)) (oICEQ (J 48) (oALOAD 0 (oILOAD 3 (oILOAD 1 (oILOAD 2 (oINV3 X M_X4_cellBehind 4 (oALOAD 0 (oGETR 4 0 (oGETR 1 6 (oILOAD 3 (oIALD (oICEQ (J 48) (oPI (zj (0)) (oZRET R))))))))))))))))))))))))
set_option maxRecDepth 100000 in
theorem vb_X4_allRight_2 {X : Nat × (Nat → Int32)} {R : zRt} : ∀ ls st h, B_X4_allRight_2 X (zV X M_X4_allRight (zQm M_X4_allRight R) 0 0) R ls st h → zV X M_X4_allRight (zQm M_X4_allRight R) 0 0 2 ls st h := sd_iload_n dX4_allRight_2 rfl (sd_aload_n dX4_allRight_3 rfl (sd_getr dX4_allRight_4 zCl4 (Nat.le_of_ble_eq_true rfl) lk_RX4_14 (Or.inl ⟨_, rfl⟩) (sd_geti dX4_allRight_7 zCl1 (Nat.le_of_ble_eq_true rfl) lk_RX4_22 (Or.inl rfl) (sd_icge dX4_allRight_10 rfl (fun _ _ _ h => h) (sd_aload_n dX4_allRight_13 rfl (sd_getr dX4_allRight_14 zCl4 (Nat.le_of_ble_eq_true rfl) lk_RX4_14 (Or.inl ⟨_, rfl⟩) (sd_getr dX4_allRight_17 zCl1 (Nat.le_of_ble_eq_true rfl) lk_RX4_79 (Or.inr ⟨_, rfl⟩) (sd_iload_n dX4_allRight_20 rfl (sd_iald dX4_allRight_21 (sd_bipush dX4_allRight_22 rfl (sd_iceq dX4_allRight_24 rfl (fun _ _ _ h => h) (sd_aload_n dX4_allRight_27 rfl (sd_iload_n dX4_allRight_28 rfl (sd_iload_n dX4_allRight_29 rfl (sd_iload_n dX4_allRight_30 rfl (sd_inv3 dX4_allRight_31 rfl mv_X4_cellBehind na_X4_cellBehind ml_RX4_39 ⟨⟨Nat.le_of_ble_eq_true rfl, Nat.le_of_ble_eq_true rfl⟩, ⟨Nat.le_of_ble_eq_true rfl, Nat.le_of_ble_eq_true rfl⟩⟩ (sd_aload_n dX4_allRight_34 rfl (sd_getr dX4_allRight_35 zCl4 (Nat.le_of_ble_eq_true rfl) lk_RX4_14 (Or.inl ⟨_, rfl⟩) (sd_getr dX4_allRight_38 zCl1 (Nat.le_of_ble_eq_true rfl) lk_RX4_79 (Or.inr ⟨_, rfl⟩) (sd_iload_n dX4_allRight_41 rfl (sd_iald dX4_allRight_42 (sd_iceq dX4_allRight_43 rfl (fun _ _ _ h => h) (sd_iconst dX4_allRight_46 rfl (sd_zret dX4_allRight_47 rfl (Nat.le_of_ble_eq_true rfl) (Nat.le_of_ble_eq_true rfl)))))))))))))))))))))))))
def B_X4_allRight_48 (X : Nat × (Nat → Int32)) (J : Nat → zCf) (R : zRt) : zCf := oIINC 2 3 (zj (1)) (J 2)
set_option maxRecDepth 100000 in
theorem vb_X4_allRight_48 {X : Nat × (Nat → Int32)} {R : zRt} : ∀ ls st h, B_X4_allRight_48 X (zV X M_X4_allRight (zQm M_X4_allRight R) 0 0) R ls st h → zV X M_X4_allRight (zQm M_X4_allRight R) 0 0 48 ls st h := sd_iinc dX4_allRight_48 rfl (Nat.le_of_ble_eq_true rfl) (Or.inl rfl) (sd_goto dX4_allRight_51 rfl (fun _ _ _ h => h))
def B_X4_allRight_54 (X : Nat × (Nat → Int32)) (J : Nat → zCf) (R : zRt) : zCf := oPI (zj (1)) (oZRET R)
set_option maxRecDepth 100000 in
theorem vb_X4_allRight_54 {X : Nat × (Nat → Int32)} {R : zRt} : ∀ ls st h, B_X4_allRight_54 X (zV X M_X4_allRight (zQm M_X4_allRight R) 0 0) R ls st h → zV X M_X4_allRight (zQm M_X4_allRight R) 0 0 54 ls st h := sd_iconst dX4_allRight_54 rfl (sd_zret dX4_allRight_55 rfl (Nat.le_of_ble_eq_true rfl) (Nat.le_of_ble_eq_true rfl))
theorem dX4_canLie_0 : decode cX4_canLie 0 = .ok (.iload_n 2, 1) := by decide +kernel
theorem dX4_canLie_1 : decode cX4_canLie 1 = .ok (.aload_n 0, 1) := by decide +kernel
theorem dX4_canLie_2 : decode cX4_canLie 2 = .ok (.getfield 18, 3) := by decide +kernel
theorem dX4_canLie_5 : decode cX4_canLie 5 = .ok (.iload_n 1, 1) := by decide +kernel
theorem dX4_canLie_6 : decode cX4_canLie 6 = .ok (.iaload, 1) := by decide +kernel
theorem dX4_canLie_7 : decode cX4_canLie 7 = .ok (.isub, 1) := by decide +kernel
theorem dX4_canLie_8 : decode cX4_canLie 8 = .ok (.istore_n 3, 1) := by decide +kernel
theorem dX4_canLie_9 : decode cX4_canLie 9 = .ok (.aload_n 0, 1) := by decide +kernel
theorem dX4_canLie_10 : decode cX4_canLie 10 = .ok (.getfield 14, 3) := by decide +kernel
theorem dX4_canLie_13 : decode cX4_canLie 13 = .ok (.getfield 57, 3) := by decide +kernel
theorem dX4_canLie_16 : decode cX4_canLie 16 = .ok (.iload_n 1, 1) := by decide +kernel
theorem dX4_canLie_17 : decode cX4_canLie 17 = .ok (.iaload, 1) := by decide +kernel
theorem dX4_canLie_18 : decode cX4_canLie 18 = .ok (.iconst 3, 1) := by decide +kernel
theorem dX4_canLie_19 : decode cX4_canLie 19 = .ok (.if_icmp .ne 13, 3) := by decide +kernel
theorem dX4_canLie_22 : decode cX4_canLie 22 = .ok (.iload_n 3, 1) := by decide +kernel
theorem dX4_canLie_23 : decode cX4_canLie 23 = .ok (.ifCond .ne 7, 3) := by decide +kernel
theorem dX4_canLie_26 : decode cX4_canLie 26 = .ok (.iconst 1, 1) := by decide +kernel
theorem dX4_canLie_27 : decode cX4_canLie 27 = .ok (.goto 4, 3) := by decide +kernel
theorem dX4_canLie_30 : decode cX4_canLie 30 = .ok (.iconst 0, 1) := by decide +kernel
theorem dX4_canLie_31 : decode cX4_canLie 31 = .ok (.ireturn, 1) := by decide +kernel
theorem dX4_canLie_32 : decode cX4_canLie 32 = .ok (.aload_n 0, 1) := by decide +kernel
theorem dX4_canLie_33 : decode cX4_canLie 33 = .ok (.getfield 14, 3) := by decide +kernel
theorem dX4_canLie_36 : decode cX4_canLie 36 = .ok (.getfield 57, 3) := by decide +kernel
theorem dX4_canLie_39 : decode cX4_canLie 39 = .ok (.iload_n 1, 1) := by decide +kernel
theorem dX4_canLie_40 : decode cX4_canLie 40 = .ok (.iaload, 1) := by decide +kernel
theorem dX4_canLie_41 : decode cX4_canLie 41 = .ok (.ifCond .ne 9, 3) := by decide +kernel
theorem dX4_canLie_44 : decode cX4_canLie 44 = .ok (.iload_n 3, 1) := by decide +kernel
theorem dX4_canLie_45 : decode cX4_canLie 45 = .ok (.iconst 2, 1) := by decide +kernel
theorem dX4_canLie_46 : decode cX4_canLie 46 = .ok (.irem, 1) := by decide +kernel
theorem dX4_canLie_47 : decode cX4_canLie 47 = .ok (.ifCond .ne 7, 3) := by decide +kernel
theorem dX4_canLie_50 : decode cX4_canLie 50 = .ok (.iconst 1, 1) := by decide +kernel
theorem dX4_canLie_51 : decode cX4_canLie 51 = .ok (.goto 4, 3) := by decide +kernel
theorem dX4_canLie_54 : decode cX4_canLie 54 = .ok (.iconst 0, 1) := by decide +kernel
theorem dX4_canLie_55 : decode cX4_canLie 55 = .ok (.ireturn, 1) := by decide +kernel
def B_X4_canLie_0 (X : Nat × (Nat → Int32)) (J : Nat → zCf) (R : zRt) : zCf := oILOAD 2 (oALOAD 0 (oGETR 4 1 (oILOAD 1 (oIALD (oISUB (oISTORE 2 3 (oALOAD 0 (oGETR 4 0 (oGETR 1 3 (oILOAD 1 (oIALD (oPI (zj (3)) (oICNE (J 32) (oILOAD 3 (oIFNE (J 30) (oPI (zj (1)) (J 31)))))))))))))))))
set_option maxRecDepth 100000 in
theorem vb_X4_canLie_0 {X : Nat × (Nat → Int32)} {R : zRt} : ∀ ls st h, B_X4_canLie_0 X (zV X M_X4_canLie (zQm M_X4_canLie R) 0 0) R ls st h → zV X M_X4_canLie (zQm M_X4_canLie R) 0 0 0 ls st h := sd_iload_n dX4_canLie_0 rfl (sd_aload_n dX4_canLie_1 rfl (sd_getr dX4_canLie_2 zCl4 (Nat.le_of_ble_eq_true rfl) lk_RX4_18 (Or.inr ⟨_, rfl⟩) (sd_iload_n dX4_canLie_5 rfl (sd_iald dX4_canLie_6 (sd_isub dX4_canLie_7 (sd_istore_n dX4_canLie_8 rfl (Nat.le_of_ble_eq_true rfl) (Or.inl rfl) (sd_aload_n dX4_canLie_9 rfl (sd_getr dX4_canLie_10 zCl4 (Nat.le_of_ble_eq_true rfl) lk_RX4_14 (Or.inl ⟨_, rfl⟩) (sd_getr dX4_canLie_13 zCl1 (Nat.le_of_ble_eq_true rfl) lk_RX4_57 (Or.inr ⟨_, rfl⟩) (sd_iload_n dX4_canLie_16 rfl (sd_iald dX4_canLie_17 (sd_iconst dX4_canLie_18 rfl (sd_icne dX4_canLie_19 rfl (fun _ _ _ h => h) (sd_iload_n dX4_canLie_22 rfl (sd_ifne dX4_canLie_23 rfl (fun _ _ _ h => h) (sd_iconst dX4_canLie_26 rfl (sd_goto dX4_canLie_27 rfl (fun _ _ _ h => h))))))))))))))))))
def B_X4_canLie_30 (X : Nat × (Nat → Int32)) (J : Nat → zCf) (R : zRt) : zCf := oPI (zj (0)) (J 31)
set_option maxRecDepth 100000 in
theorem vb_X4_canLie_30 {X : Nat × (Nat → Int32)} {R : zRt} : ∀ ls st h, B_X4_canLie_30 X (zV X M_X4_canLie (zQm M_X4_canLie R) 0 0) R ls st h → zV X M_X4_canLie (zQm M_X4_canLie R) 0 0 30 ls st h := sd_iconst dX4_canLie_30 rfl (fun _ _ _ h => h)
def B_X4_canLie_31 (X : Nat × (Nat → Int32)) (J : Nat → zCf) (R : zRt) : zCf := oZRET R
set_option maxRecDepth 100000 in
theorem vb_X4_canLie_31 {X : Nat × (Nat → Int32)} {R : zRt} : ∀ ls st h, B_X4_canLie_31 X (zV X M_X4_canLie (zQm M_X4_canLie R) 0 0) R ls st h → zV X M_X4_canLie (zQm M_X4_canLie R) 0 0 31 ls st h := sd_zret dX4_canLie_31 rfl (Nat.le_of_ble_eq_true rfl) (Nat.le_of_ble_eq_true rfl)
def B_X4_canLie_32 (X : Nat × (Nat → Int32)) (J : Nat → zCf) (R : zRt) : zCf := oALOAD 0 (oGETR 4 0 (oGETR 1 3 (oILOAD 1 (oIALD (oIFNE (J 50) (oILOAD 3 (oPI (zj (2)) (oIREM (oIFNE (J 54) (J 50))))))))))
set_option maxRecDepth 100000 in
theorem vb_X4_canLie_32 {X : Nat × (Nat → Int32)} {R : zRt} : ∀ ls st h, B_X4_canLie_32 X (zV X M_X4_canLie (zQm M_X4_canLie R) 0 0) R ls st h → zV X M_X4_canLie (zQm M_X4_canLie R) 0 0 32 ls st h := sd_aload_n dX4_canLie_32 rfl (sd_getr dX4_canLie_33 zCl4 (Nat.le_of_ble_eq_true rfl) lk_RX4_14 (Or.inl ⟨_, rfl⟩) (sd_getr dX4_canLie_36 zCl1 (Nat.le_of_ble_eq_true rfl) lk_RX4_57 (Or.inr ⟨_, rfl⟩) (sd_iload_n dX4_canLie_39 rfl (sd_iald dX4_canLie_40 (sd_ifne dX4_canLie_41 rfl (fun _ _ _ h => h) (sd_iload_n dX4_canLie_44 rfl (sd_iconst dX4_canLie_45 rfl (sd_irem dX4_canLie_46 (sd_ifne dX4_canLie_47 rfl (fun _ _ _ h => h) (fun _ _ _ h => h))))))))))
def B_X4_canLie_50 (X : Nat × (Nat → Int32)) (J : Nat → zCf) (R : zRt) : zCf := oPI (zj (1)) (J 55)
set_option maxRecDepth 100000 in
theorem vb_X4_canLie_50 {X : Nat × (Nat → Int32)} {R : zRt} : ∀ ls st h, B_X4_canLie_50 X (zV X M_X4_canLie (zQm M_X4_canLie R) 0 0) R ls st h → zV X M_X4_canLie (zQm M_X4_canLie R) 0 0 50 ls st h := sd_iconst dX4_canLie_50 rfl (sd_goto dX4_canLie_51 rfl (fun _ _ _ h => h))
def B_X4_canLie_54 (X : Nat × (Nat → Int32)) (J : Nat → zCf) (R : zRt) : zCf := oPI (zj (0)) (J 55)
set_option maxRecDepth 100000 in
theorem vb_X4_canLie_54 {X : Nat × (Nat → Int32)} {R : zRt} : ∀ ls st h, B_X4_canLie_54 X (zV X M_X4_canLie (zQm M_X4_canLie R) 0 0) R ls st h → zV X M_X4_canLie (zQm M_X4_canLie R) 0 0 54 ls st h := sd_iconst dX4_canLie_54 rfl (fun _ _ _ h => h)
def B_X4_canLie_55 (X : Nat × (Nat → Int32)) (J : Nat → zCf) (R : zRt) : zCf := oZRET R
set_option maxRecDepth 100000 in
theorem vb_X4_canLie_55 {X : Nat × (Nat → Int32)} {R : zRt} : ∀ ls st h, B_X4_canLie_55 X (zV X M_X4_canLie (zQm M_X4_canLie R) 0 0) R ls st h → zV X M_X4_canLie (zQm M_X4_canLie R) 0 0 55 ls st h := sd_zret dX4_canLie_55 rfl (Nat.le_of_ble_eq_true rfl) (Nat.le_of_ble_eq_true rfl)
theorem dX4_shownAt_0 : decode cX4_shownAt 0 = .ok (.aload_n 0, 1) := by decide +kernel
theorem dX4_shownAt_1 : decode cX4_shownAt 1 = .ok (.iload_n 1, 1) := by decide +kernel
theorem dX4_shownAt_2 : decode cX4_shownAt 2 = .ok (.iload_n 2, 1) := by decide +kernel
theorem dX4_shownAt_3 : decode cX4_shownAt 3 = .ok (.invokestatic 82, 3) := by decide +kernel
theorem dX4_shownAt_6 : decode cX4_shownAt 6 = .ok (.iconst 0, 1) := by decide +kernel
theorem dX4_shownAt_7 : decode cX4_shownAt 7 = .ok (.iconst 0, 1) := by decide +kernel
theorem dX4_shownAt_8 : decode cX4_shownAt 8 = .ok (.invokevirtual 60, 3) := by decide +kernel
theorem dX4_shownAt_11 : decode cX4_shownAt 11 = .ok (.ireturn, 1) := by decide +kernel
def B_X4_shownAt_0 (X : Nat × (Nat → Int32)) (J : Nat → zCf) (R : zRt) : zCf := oALOAD 0 (oILOAD 1 (oILOAD 2 (oINS2 X M_X7_tubeCell (oPI (zj (0)) (oPI (zj (0)) (oINV3 X M_X4_topIn 4 (oIRET R)))))))
set_option maxRecDepth 100000 in
theorem vb_X4_shownAt_0 {X : Nat × (Nat → Int32)} {R : zRt} : ∀ ls st h, B_X4_shownAt_0 X (zV X M_X4_shownAt (zQm M_X4_shownAt R) 0 0) R ls st h → zV X M_X4_shownAt (zQm M_X4_shownAt R) 0 0 0 ls st h := sd_aload_n dX4_shownAt_0 rfl (sd_iload_n dX4_shownAt_1 rfl (sd_iload_n dX4_shownAt_2 rfl (sd_ins2 dX4_shownAt_3 ms_X7_tubeCell na_X7_tubeCell ml_RX4_82 ⟨⟨Nat.le_of_ble_eq_true rfl, Nat.le_of_ble_eq_true rfl⟩, ⟨Nat.le_of_ble_eq_true rfl, Nat.le_of_ble_eq_true rfl⟩⟩ (sd_iconst dX4_shownAt_6 rfl (sd_iconst dX4_shownAt_7 rfl (sd_inv3 dX4_shownAt_8 rfl mv_X4_topIn na_X4_topIn ml_RX4_60 ⟨⟨Nat.le_of_ble_eq_true rfl, Nat.le_of_ble_eq_true rfl⟩, ⟨Nat.le_of_ble_eq_true rfl, Nat.le_of_ble_eq_true rfl⟩⟩ (sd_iret dX4_shownAt_11 rfl (Nat.le_of_ble_eq_true rfl) (Nat.le_of_ble_eq_true rfl))))))))
theorem dX4_colourAt_0 : decode cX4_colourAt 0 = .ok (.aload_n 0, 1) := by decide +kernel
theorem dX4_colourAt_1 : decode cX4_colourAt 1 = .ok (.iload_n 1, 1) := by decide +kernel
theorem dX4_colourAt_2 : decode cX4_colourAt 2 = .ok (.iload_n 2, 1) := by decide +kernel
theorem dX4_colourAt_3 : decode cX4_colourAt 3 = .ok (.invokestatic 82, 3) := by decide +kernel
theorem dX4_colourAt_6 : decode cX4_colourAt 6 = .ok (.iconst 0, 1) := by decide +kernel
theorem dX4_colourAt_7 : decode cX4_colourAt 7 = .ok (.iconst 0, 1) := by decide +kernel
theorem dX4_colourAt_8 : decode cX4_colourAt 8 = .ok (.invokevirtual 60, 3) := by decide +kernel
theorem dX4_colourAt_11 : decode cX4_colourAt 11 = .ok (.istore_n 3, 1) := by decide +kernel
theorem dX4_colourAt_12 : decode cX4_colourAt 12 = .ok (.iload_n 3, 1) := by decide +kernel
theorem dX4_colourAt_13 : decode cX4_colourAt 13 = .ok (.ifCond .ge 7, 3) := by decide +kernel
theorem dX4_colourAt_16 : decode cX4_colourAt 16 = .ok (.lconst 0, 1) := by decide +kernel
theorem dX4_colourAt_17 : decode cX4_colourAt 17 = .ok (.goto 12, 3) := by decide +kernel
theorem dX4_colourAt_20 : decode cX4_colourAt 20 = .ok (.aload_n 0, 1) := by decide +kernel
theorem dX4_colourAt_21 : decode cX4_colourAt 21 = .ok (.getfield 14, 3) := by decide +kernel
theorem dX4_colourAt_24 : decode cX4_colourAt 24 = .ok (.getfield 85, 3) := by decide +kernel
theorem dX4_colourAt_27 : decode cX4_colourAt 27 = .ok (.iload_n 3, 1) := by decide +kernel
theorem dX4_colourAt_28 : decode cX4_colourAt 28 = .ok (.laload, 1) := by decide +kernel
theorem dX4_colourAt_29 : decode cX4_colourAt 29 = .ok (.lreturn, 1) := by decide +kernel
def B_X4_colourAt_0 (X : Nat × (Nat → Int32)) (J : Nat → zCf) (R : zRt) : zCf := oALOAD 0 (oILOAD 1 (oILOAD 2 (oINS2 X M_X7_tubeCell (oPI (zj (0)) (oPI (zj (0)) (oINV3 X M_X4_topIn 4 (oISTORE 2 3 (oILOAD 3 (oIFGE (J 20) (oPL (zk (0)) (J 29)))))))))))
set_option maxRecDepth 100000 in
theorem vb_X4_colourAt_0 {X : Nat × (Nat → Int32)} {R : zRt} : ∀ ls st h, B_X4_colourAt_0 X (zV X M_X4_colourAt (zQm M_X4_colourAt R) 0 0) R ls st h → zV X M_X4_colourAt (zQm M_X4_colourAt R) 0 0 0 ls st h := sd_aload_n dX4_colourAt_0 rfl (sd_iload_n dX4_colourAt_1 rfl (sd_iload_n dX4_colourAt_2 rfl (sd_ins2 dX4_colourAt_3 ms_X7_tubeCell na_X7_tubeCell ml_RX4_82 ⟨⟨Nat.le_of_ble_eq_true rfl, Nat.le_of_ble_eq_true rfl⟩, ⟨Nat.le_of_ble_eq_true rfl, Nat.le_of_ble_eq_true rfl⟩⟩ (sd_iconst dX4_colourAt_6 rfl (sd_iconst dX4_colourAt_7 rfl (sd_inv3 dX4_colourAt_8 rfl mv_X4_topIn na_X4_topIn ml_RX4_60 ⟨⟨Nat.le_of_ble_eq_true rfl, Nat.le_of_ble_eq_true rfl⟩, ⟨Nat.le_of_ble_eq_true rfl, Nat.le_of_ble_eq_true rfl⟩⟩ (sd_istore_n dX4_colourAt_11 rfl (Nat.le_of_ble_eq_true rfl) (Or.inl rfl) (sd_iload_n dX4_colourAt_12 rfl (sd_ifge dX4_colourAt_13 rfl (fun _ _ _ h => h) (sd_lconst dX4_colourAt_16 rfl (sd_goto dX4_colourAt_17 rfl (fun _ _ _ h => h))))))))))))
def B_X4_colourAt_20 (X : Nat × (Nat → Int32)) (J : Nat → zCf) (R : zRt) : zCf := oALOAD 0 (oGETR 4 0 (oGETR 1 4 (oILOAD 3 (oLALD (J 29)))))
set_option maxRecDepth 100000 in
theorem vb_X4_colourAt_20 {X : Nat × (Nat → Int32)} {R : zRt} : ∀ ls st h, B_X4_colourAt_20 X (zV X M_X4_colourAt (zQm M_X4_colourAt R) 0 0) R ls st h → zV X M_X4_colourAt (zQm M_X4_colourAt R) 0 0 20 ls st h := sd_aload_n dX4_colourAt_20 rfl (sd_getr dX4_colourAt_21 zCl4 (Nat.le_of_ble_eq_true rfl) lk_RX4_14 (Or.inl ⟨_, rfl⟩) (sd_getr dX4_colourAt_24 zCl1 (Nat.le_of_ble_eq_true rfl) lk_RX4_85 (Or.inr ⟨_, rfl⟩) (sd_iload_n dX4_colourAt_27 rfl (sd_lald dX4_colourAt_28 (fun _ _ _ h => h)))))
def B_X4_colourAt_29 (X : Nat × (Nat → Int32)) (J : Nat → zCf) (R : zRt) : zCf := oLRET R
set_option maxRecDepth 100000 in
theorem vb_X4_colourAt_29 {X : Nat × (Nat → Int32)} {R : zRt} : ∀ ls st h, B_X4_colourAt_29 X (zV X M_X4_colourAt (zQm M_X4_colourAt R) 0 0) R ls st h → zV X M_X4_colourAt (zQm M_X4_colourAt R) 0 0 29 ls st h := sd_lret dX4_colourAt_29 rfl (Nat.le_of_ble_eq_true rfl) (Nat.le_of_ble_eq_true rfl)
theorem dX4_firstNotMet_0 : decode cX4_firstNotMet 0 = .ok (.iconst 0, 1) := by decide +kernel
theorem dX4_firstNotMet_1 : decode cX4_firstNotMet 1 = .ok (.istore_n 2, 1) := by decide +kernel
theorem dX4_firstNotMet_2 : decode cX4_firstNotMet 2 = .ok (.iload_n 2, 1) := by decide +kernel
theorem dX4_firstNotMet_3 : decode cX4_firstNotMet 3 = .ok (.aload_n 0, 1) := by decide +kernel
theorem dX4_firstNotMet_4 : decode cX4_firstNotMet 4 = .ok (.getfield 14, 3) := by decide +kernel
theorem dX4_firstNotMet_7 : decode cX4_firstNotMet 7 = .ok (.getfield 89, 3) := by decide +kernel
theorem dX4_firstNotMet_10 : decode cX4_firstNotMet 10 = .ok (.if_icmp .ge 38, 3) := by decide +kernel
theorem dX4_firstNotMet_13 : decode cX4_firstNotMet 13 = .ok (.aload_n 0, 1) := by decide +kernel
theorem dX4_firstNotMet_14 : decode cX4_firstNotMet 14 = .ok (.iload_n 1, 1) := by decide +kernel
theorem dX4_firstNotMet_15 : decode cX4_firstNotMet 15 = .ok (.aload_n 0, 1) := by decide +kernel
theorem dX4_firstNotMet_16 : decode cX4_firstNotMet 16 = .ok (.getfield 14, 3) := by decide +kernel
theorem dX4_firstNotMet_19 : decode cX4_firstNotMet 19 = .ok (.getfield 92, 3) := by decide +kernel
theorem dX4_firstNotMet_22 : decode cX4_firstNotMet 22 = .ok (.iload_n 2, 1) := by decide +kernel
theorem dX4_firstNotMet_23 : decode cX4_firstNotMet 23 = .ok (.iaload, 1) := by decide +kernel
theorem dX4_firstNotMet_24 : decode cX4_firstNotMet 24 = .ok (.invokevirtual 95, 3) := by decide +kernel
theorem dX4_firstNotMet_27 : decode cX4_firstNotMet 27 = .ok (.aload_n 0, 1) := by decide +kernel
theorem dX4_firstNotMet_28 : decode cX4_firstNotMet 28 = .ok (.getfield 14, 3) := by decide +kernel
theorem dX4_firstNotMet_31 : decode cX4_firstNotMet 31 = .ok (.getfield 99, 3) := by decide +kernel
theorem dX4_firstNotMet_34 : decode cX4_firstNotMet 34 = .ok (.iload_n 2, 1) := by decide +kernel
theorem dX4_firstNotMet_35 : decode cX4_firstNotMet 35 = .ok (.laload, 1) := by decide +kernel
theorem dX4_firstNotMet_36 : decode cX4_firstNotMet 36 = .ok (.lcmp, 1) := by decide +kernel
theorem dX4_firstNotMet_37 : decode cX4_firstNotMet 37 = .ok (.ifCond .eq 5, 3) := by decide +kernel
theorem dX4_firstNotMet_40 : decode cX4_firstNotMet 40 = .ok (.iload_n 2, 1) := by decide +kernel
theorem dX4_firstNotMet_41 : decode cX4_firstNotMet 41 = .ok (.ireturn, 1) := by decide +kernel
theorem dX4_firstNotMet_42 : decode cX4_firstNotMet 42 = .ok (.iinc 2 1, 3) := by decide +kernel
theorem dX4_firstNotMet_45 : decode cX4_firstNotMet 45 = .ok (.goto (-43), 3) := by decide +kernel
theorem dX4_firstNotMet_48 : decode cX4_firstNotMet 48 = .ok (.bipush (-2), 2) := by decide +kernel
theorem dX4_firstNotMet_50 : decode cX4_firstNotMet 50 = .ok (.ireturn, 1) := by decide +kernel
def B_X4_firstNotMet_0 (X : Nat × (Nat → Int32)) (J : Nat → zCf) (R : zRt) : zCf := oPI (zj (0)) (oISTORE 1 2 (J 2))
set_option maxRecDepth 100000 in
theorem vb_X4_firstNotMet_0 {X : Nat × (Nat → Int32)} {R : zRt} : ∀ ls st h, B_X4_firstNotMet_0 X (zV X M_X4_firstNotMet (zQm M_X4_firstNotMet R) 0 0) R ls st h → zV X M_X4_firstNotMet (zQm M_X4_firstNotMet R) 0 0 0 ls st h := sd_iconst dX4_firstNotMet_0 rfl (sd_istore_n dX4_firstNotMet_1 rfl (Nat.le_of_ble_eq_true rfl) (Or.inl rfl) (fun _ _ _ h => h))
def B_X4_firstNotMet_2 (X : Nat × (Nat → Int32)) (J : Nat → zCf) (R : zRt) : zCf := oILOAD 2 (oALOAD 0 (oGETR 4 0 (oGETI 1 8 (oICGE (J 48) (oALOAD 0 (oILOAD 1 (oALOAD 0 (oGETR 4 0 (oGETR 1 9 (oILOAD 2 (oIALD (oINV2 X M_X4_colourAt 4 (oALOAD 0 (oGETR 4 0 (oGETR 1 10 (oILOAD 2 (oLALD (oLCMP (oIFEQ (J 42) (oILOAD 2 (oIRET R)))))))))))))))))))))
set_option maxRecDepth 100000 in
theorem vb_X4_firstNotMet_2 {X : Nat × (Nat → Int32)} {R : zRt} : ∀ ls st h, B_X4_firstNotMet_2 X (zV X M_X4_firstNotMet (zQm M_X4_firstNotMet R) 0 0) R ls st h → zV X M_X4_firstNotMet (zQm M_X4_firstNotMet R) 0 0 2 ls st h := sd_iload_n dX4_firstNotMet_2 rfl (sd_aload_n dX4_firstNotMet_3 rfl (sd_getr dX4_firstNotMet_4 zCl4 (Nat.le_of_ble_eq_true rfl) lk_RX4_14 (Or.inl ⟨_, rfl⟩) (sd_geti dX4_firstNotMet_7 zCl1 (Nat.le_of_ble_eq_true rfl) lk_RX4_89 (Or.inl rfl) (sd_icge dX4_firstNotMet_10 rfl (fun _ _ _ h => h) (sd_aload_n dX4_firstNotMet_13 rfl (sd_iload_n dX4_firstNotMet_14 rfl (sd_aload_n dX4_firstNotMet_15 rfl (sd_getr dX4_firstNotMet_16 zCl4 (Nat.le_of_ble_eq_true rfl) lk_RX4_14 (Or.inl ⟨_, rfl⟩) (sd_getr dX4_firstNotMet_19 zCl1 (Nat.le_of_ble_eq_true rfl) lk_RX4_92 (Or.inr ⟨_, rfl⟩) (sd_iload_n dX4_firstNotMet_22 rfl (sd_iald dX4_firstNotMet_23 (sd_inv2 dX4_firstNotMet_24 rfl mv_X4_colourAt na_X4_colourAt ml_RX4_95 ⟨⟨Nat.le_of_ble_eq_true rfl, Nat.le_of_ble_eq_true rfl⟩, ⟨Nat.le_of_ble_eq_true rfl, Nat.le_of_ble_eq_true rfl⟩⟩ (sd_aload_n dX4_firstNotMet_27 rfl (sd_getr dX4_firstNotMet_28 zCl4 (Nat.le_of_ble_eq_true rfl) lk_RX4_14 (Or.inl ⟨_, rfl⟩) (sd_getr dX4_firstNotMet_31 zCl1 (Nat.le_of_ble_eq_true rfl) lk_RX4_99 (Or.inr ⟨_, rfl⟩) (sd_iload_n dX4_firstNotMet_34 rfl (sd_lald dX4_firstNotMet_35 (sd_lcmp dX4_firstNotMet_36 (sd_ifeq dX4_firstNotMet_37 rfl (fun _ _ _ h => h) (sd_iload_n dX4_firstNotMet_40 rfl (sd_iret dX4_firstNotMet_41 rfl (Nat.le_of_ble_eq_true rfl) (Nat.le_of_ble_eq_true rfl))))))))))))))))))))))
def B_X4_firstNotMet_42 (X : Nat × (Nat → Int32)) (J : Nat → zCf) (R : zRt) : zCf := oIINC 1 2 (zj (1)) (J 2)
set_option maxRecDepth 100000 in
theorem vb_X4_firstNotMet_42 {X : Nat × (Nat → Int32)} {R : zRt} : ∀ ls st h, B_X4_firstNotMet_42 X (zV X M_X4_firstNotMet (zQm M_X4_firstNotMet R) 0 0) R ls st h → zV X M_X4_firstNotMet (zQm M_X4_firstNotMet R) 0 0 42 ls st h := sd_iinc dX4_firstNotMet_42 rfl (Nat.le_of_ble_eq_true rfl) (Or.inl rfl) (sd_goto dX4_firstNotMet_45 rfl (fun _ _ _ h => h))
def B_X4_firstNotMet_48 (X : Nat × (Nat → Int32)) (J : Nat → zCf) (R : zRt) : zCf := oPI (zj (-2)) (oIRET R)
set_option maxRecDepth 100000 in
theorem vb_X4_firstNotMet_48 {X : Nat × (Nat → Int32)} {R : zRt} : ∀ ls st h, B_X4_firstNotMet_48 X (zV X M_X4_firstNotMet (zQm M_X4_firstNotMet R) 0 0) R ls st h → zV X M_X4_firstNotMet (zQm M_X4_firstNotMet R) 0 0 48 ls st h := sd_bipush dX4_firstNotMet_48 rfl (sd_iret dX4_firstNotMet_50 rfl (Nat.le_of_ble_eq_true rfl) (Nat.le_of_ble_eq_true rfl))
theorem dX4_countriesMet_0 : decode cX4_countriesMet 0 = .ok (.iconst 0, 1) := by decide +kernel
theorem dX4_countriesMet_1 : decode cX4_countriesMet 1 = .ok (.istore_n 1, 1) := by decide +kernel
theorem dX4_countriesMet_2 : decode cX4_countriesMet 2 = .ok (.iconst 0, 1) := by decide +kernel
theorem dX4_countriesMet_3 : decode cX4_countriesMet 3 = .ok (.istore_n 2, 1) := by decide +kernel
theorem dX4_countriesMet_4 : decode cX4_countriesMet 4 = .ok (.iload_n 2, 1) := by decide +kernel
theorem dX4_countriesMet_5 : decode cX4_countriesMet 5 = .ok (.bipush 6, 2) := by decide +kernel
theorem dX4_countriesMet_7 : decode cX4_countriesMet 7 = .ok (.if_icmp .ge 26, 3) := by decide +kernel
theorem dX4_countriesMet_10 : decode cX4_countriesMet 10 = .ok (.aload_n 0, 1) := by decide +kernel
theorem dX4_countriesMet_11 : decode cX4_countriesMet 11 = .ok (.iload_n 2, 1) := by decide +kernel
theorem dX4_countriesMet_12 : decode cX4_countriesMet 12 = .ok (.invokevirtual 102, 3) := by decide +kernel
theorem dX4_countriesMet_15 : decode cX4_countriesMet 15 = .ok (.bipush (-2), 2) := by decide +kernel
theorem dX4_countriesMet_17 : decode cX4_countriesMet 17 = .ok (.if_icmp .ne 10, 3) := by decide +kernel
theorem dX4_countriesMet_20 : decode cX4_countriesMet 20 = .ok (.iload_n 1, 1) := by decide +kernel
theorem dX4_countriesMet_21 : decode cX4_countriesMet 21 = .ok (.iload_n 2, 1) := by decide +kernel
theorem dX4_countriesMet_22 : decode cX4_countriesMet 22 = .ok (.invokestatic 72, 3) := by decide +kernel
theorem dX4_countriesMet_25 : decode cX4_countriesMet 25 = .ok (.ior, 1) := by decide +kernel
theorem dX4_countriesMet_26 : decode cX4_countriesMet 26 = .ok (.istore_n 1, 1) := by decide +kernel
theorem dX4_countriesMet_27 : decode cX4_countriesMet 27 = .ok (.iinc 2 1, 3) := by decide +kernel
theorem dX4_countriesMet_30 : decode cX4_countriesMet 30 = .ok (.goto (-26), 3) := by decide +kernel
theorem dX4_countriesMet_33 : decode cX4_countriesMet 33 = .ok (.iload_n 1, 1) := by decide +kernel
theorem dX4_countriesMet_34 : decode cX4_countriesMet 34 = .ok (.ireturn, 1) := by decide +kernel
def B_X4_countriesMet_0 (X : Nat × (Nat → Int32)) (J : Nat → zCf) (R : zRt) : zCf := oPI (zj (0)) (oISTORE 0 1 (oPI (zj (0)) (oISTORE 1 2 (J 4))))
set_option maxRecDepth 100000 in
theorem vb_X4_countriesMet_0 {X : Nat × (Nat → Int32)} {R : zRt} : ∀ ls st h, B_X4_countriesMet_0 X (zV X M_X4_countriesMet (zQm M_X4_countriesMet R) 0 0) R ls st h → zV X M_X4_countriesMet (zQm M_X4_countriesMet R) 0 0 0 ls st h := sd_iconst dX4_countriesMet_0 rfl (sd_istore_n dX4_countriesMet_1 rfl (Nat.le_of_ble_eq_true rfl) (Or.inl rfl) (sd_iconst dX4_countriesMet_2 rfl (sd_istore_n dX4_countriesMet_3 rfl (Nat.le_of_ble_eq_true rfl) (Or.inl rfl) (fun _ _ _ h => h))))
def B_X4_countriesMet_4 (X : Nat × (Nat → Int32)) (J : Nat → zCf) (R : zRt) : zCf := oILOAD 2 (oPI (zj (6)) (oICGE (J 33) (oALOAD 0 (oILOAD 2 (oINV1 X M_X4_firstNotMet 4 (oPI (zj (-2)) (oICNE (J 27) (oILOAD 1 (oILOAD 2 (oINS1 X M_X7_asBit (oIOR (oISTORE 0 1 (J 27)))))))))))))
set_option maxRecDepth 100000 in
theorem vb_X4_countriesMet_4 {X : Nat × (Nat → Int32)} {R : zRt} : ∀ ls st h, B_X4_countriesMet_4 X (zV X M_X4_countriesMet (zQm M_X4_countriesMet R) 0 0) R ls st h → zV X M_X4_countriesMet (zQm M_X4_countriesMet R) 0 0 4 ls st h := sd_iload_n dX4_countriesMet_4 rfl (sd_bipush dX4_countriesMet_5 rfl (sd_icge dX4_countriesMet_7 rfl (fun _ _ _ h => h) (sd_aload_n dX4_countriesMet_10 rfl (sd_iload_n dX4_countriesMet_11 rfl (sd_inv1 dX4_countriesMet_12 rfl mv_X4_firstNotMet na_X4_firstNotMet ml_RX4_102 ⟨⟨Nat.le_of_ble_eq_true rfl, Nat.le_of_ble_eq_true rfl⟩, ⟨Nat.le_of_ble_eq_true rfl, Nat.le_of_ble_eq_true rfl⟩⟩ (sd_bipush dX4_countriesMet_15 rfl (sd_icne dX4_countriesMet_17 rfl (fun _ _ _ h => h) (sd_iload_n dX4_countriesMet_20 rfl (sd_iload_n dX4_countriesMet_21 rfl (sd_ins1 dX4_countriesMet_22 ms_X7_asBit na_X7_asBit ml_RX4_72 ⟨⟨Nat.le_of_ble_eq_true rfl, Nat.le_of_ble_eq_true rfl⟩, ⟨Nat.le_of_ble_eq_true rfl, Nat.le_of_ble_eq_true rfl⟩⟩ (sd_ior dX4_countriesMet_25 (sd_istore_n dX4_countriesMet_26 rfl (Nat.le_of_ble_eq_true rfl) (Or.inl rfl) (fun _ _ _ h => h)))))))))))))
def B_X4_countriesMet_27 (X : Nat × (Nat → Int32)) (J : Nat → zCf) (R : zRt) : zCf := oIINC 1 2 (zj (1)) (J 4)
set_option maxRecDepth 100000 in
theorem vb_X4_countriesMet_27 {X : Nat × (Nat → Int32)} {R : zRt} : ∀ ls st h, B_X4_countriesMet_27 X (zV X M_X4_countriesMet (zQm M_X4_countriesMet R) 0 0) R ls st h → zV X M_X4_countriesMet (zQm M_X4_countriesMet R) 0 0 27 ls st h := sd_iinc dX4_countriesMet_27 rfl (Nat.le_of_ble_eq_true rfl) (Or.inl rfl) (sd_goto dX4_countriesMet_30 rfl (fun _ _ _ h => h))
def B_X4_countriesMet_33 (X : Nat × (Nat → Int32)) (J : Nat → zCf) (R : zRt) : zCf := oILOAD 1 (oIRET R)
set_option maxRecDepth 100000 in
theorem vb_X4_countriesMet_33 {X : Nat × (Nat → Int32)} {R : zRt} : ∀ ls st h, B_X4_countriesMet_33 X (zV X M_X4_countriesMet (zQm M_X4_countriesMet R) 0 0) R ls st h → zV X M_X4_countriesMet (zQm M_X4_countriesMet R) 0 0 33 ls st h := sd_iload_n dX4_countriesMet_33 rfl (sd_iret dX4_countriesMet_34 rfl (Nat.le_of_ble_eq_true rfl) (Nat.le_of_ble_eq_true rfl))
theorem dX4_bestLook_0 : decode cX4_bestLook 0 = .ok (.bipush (-2), 2) := by decide +kernel
theorem dX4_bestLook_2 : decode cX4_bestLook 2 = .ok (.istore_n 2, 1) := by decide +kernel
theorem dX4_bestLook_3 : decode cX4_bestLook 3 = .ok (.bipush 7, 2) := by decide +kernel
theorem dX4_bestLook_5 : decode cX4_bestLook 5 = .ok (.istore_n 3, 1) := by decide +kernel
theorem dX4_bestLook_6 : decode cX4_bestLook 6 = .ok (.iconst 0, 1) := by decide +kernel
theorem dX4_bestLook_7 : decode cX4_bestLook 7 = .ok (.istore 4, 2) := by decide +kernel
theorem dX4_bestLook_9 : decode cX4_bestLook 9 = .ok (.iload_n 1, 1) := by decide +kernel
theorem dX4_bestLook_10 : decode cX4_bestLook 10 = .ok (.ifCond .eq 37, 3) := by decide +kernel
theorem dX4_bestLook_13 : decode cX4_bestLook 13 = .ok (.iload 4, 2) := by decide +kernel
theorem dX4_bestLook_15 : decode cX4_bestLook 15 = .ok (.bipush 12, 2) := by decide +kernel
theorem dX4_bestLook_17 : decode cX4_bestLook 17 = .ok (.if_icmp .ge 30, 3) := by decide +kernel
theorem dX4_bestLook_20 : decode cX4_bestLook 20 = .ok (.aload_n 0, 1) := by decide +kernel
theorem dX4_bestLook_21 : decode cX4_bestLook 21 = .ok (.iload_n 1, 1) := by decide +kernel
theorem dX4_bestLook_22 : decode cX4_bestLook 22 = .ok (.iload 4, 2) := by decide +kernel
theorem dX4_bestLook_24 : decode cX4_bestLook 24 = .ok (.invokevirtual 105, 3) := by decide +kernel
theorem dX4_bestLook_27 : decode cX4_bestLook 27 = .ok (.istore 5, 2) := by decide +kernel
theorem dX4_bestLook_29 : decode cX4_bestLook 29 = .ok (.iload 5, 2) := by decide +kernel
theorem dX4_bestLook_31 : decode cX4_bestLook 31 = .ok (.iload_n 3, 1) := by decide +kernel
theorem dX4_bestLook_32 : decode cX4_bestLook 32 = .ok (.if_icmp .ge 9, 3) := by decide +kernel
theorem dX4_bestLook_35 : decode cX4_bestLook 35 = .ok (.iload 5, 2) := by decide +kernel
theorem dX4_bestLook_37 : decode cX4_bestLook 37 = .ok (.istore_n 3, 1) := by decide +kernel
theorem dX4_bestLook_38 : decode cX4_bestLook 38 = .ok (.iload 4, 2) := by decide +kernel
theorem dX4_bestLook_40 : decode cX4_bestLook 40 = .ok (.istore_n 2, 1) := by decide +kernel
theorem dX4_bestLook_41 : decode cX4_bestLook 41 = .ok (.iinc 4 1, 3) := by decide +kernel
theorem dX4_bestLook_44 : decode cX4_bestLook 44 = .ok (.goto (-35), 3) := by decide +kernel
theorem dX4_bestLook_47 : decode cX4_bestLook 47 = .ok (.iload_n 2, 1) := by decide +kernel
theorem dX4_bestLook_48 : decode cX4_bestLook 48 = .ok (.ireturn, 1) := by decide +kernel
def B_X4_bestLook_0 (X : Nat × (Nat → Int32)) (J : Nat → zCf) (R : zRt) : zCf := oPI (zj (-2)) (oISTORE 1 2 (oPI (zj (7)) (oISTORE 2 3 (oPI (zj (0)) (oISTORE 3 4 (J 9))))))
set_option maxRecDepth 100000 in
theorem vb_X4_bestLook_0 {X : Nat × (Nat → Int32)} {R : zRt} : ∀ ls st h, B_X4_bestLook_0 X (zV X M_X4_bestLook (zQm M_X4_bestLook R) 0 0) R ls st h → zV X M_X4_bestLook (zQm M_X4_bestLook R) 0 0 0 ls st h := sd_bipush dX4_bestLook_0 rfl (sd_istore_n dX4_bestLook_2 rfl (Nat.le_of_ble_eq_true rfl) (Or.inl rfl) (sd_bipush dX4_bestLook_3 rfl (sd_istore_n dX4_bestLook_5 rfl (Nat.le_of_ble_eq_true rfl) (Or.inl rfl) (sd_iconst dX4_bestLook_6 rfl (sd_istore dX4_bestLook_7 (Nat.le_of_ble_eq_true rfl) (Or.inl rfl) (fun _ _ _ h => h))))))
def B_X4_bestLook_9 (X : Nat × (Nat → Int32)) (J : Nat → zCf) (R : zRt) : zCf := oILOAD 1 (oIFEQ (J 47) (oILOAD 4 (oPI (zj (12)) (oICGE (J 47) (oALOAD 0 (oILOAD 1 (oILOAD 4 (oINV2 X M_X4_mostLeft 4 (oISTORE 4 5 (oILOAD 5 (oILOAD 3 (oICGE (J 41) (oILOAD 5 (oISTORE 2 3 (oILOAD 4 (oISTORE 1 2 (J 41)))))))))))))))))
set_option maxRecDepth 100000 in
theorem vb_X4_bestLook_9 {X : Nat × (Nat → Int32)} {R : zRt} : ∀ ls st h, B_X4_bestLook_9 X (zV X M_X4_bestLook (zQm M_X4_bestLook R) 0 0) R ls st h → zV X M_X4_bestLook (zQm M_X4_bestLook R) 0 0 9 ls st h := sd_iload_n dX4_bestLook_9 rfl (sd_ifeq dX4_bestLook_10 rfl (fun _ _ _ h => h) (sd_iload dX4_bestLook_13 (sd_bipush dX4_bestLook_15 rfl (sd_icge dX4_bestLook_17 rfl (fun _ _ _ h => h) (sd_aload_n dX4_bestLook_20 rfl (sd_iload_n dX4_bestLook_21 rfl (sd_iload dX4_bestLook_22 (sd_inv2 dX4_bestLook_24 rfl mv_X4_mostLeft na_X4_mostLeft ml_RX4_105 ⟨⟨Nat.le_of_ble_eq_true rfl, Nat.le_of_ble_eq_true rfl⟩, ⟨Nat.le_of_ble_eq_true rfl, Nat.le_of_ble_eq_true rfl⟩⟩ (sd_istore dX4_bestLook_27 (Nat.le_of_ble_eq_true rfl) (Or.inl rfl) (sd_iload dX4_bestLook_29 (sd_iload_n dX4_bestLook_31 rfl (sd_icge dX4_bestLook_32 rfl (fun _ _ _ h => h) (sd_iload dX4_bestLook_35 (sd_istore_n dX4_bestLook_37 rfl (Nat.le_of_ble_eq_true rfl) (Or.inl rfl) (sd_iload dX4_bestLook_38 (sd_istore_n dX4_bestLook_40 rfl (Nat.le_of_ble_eq_true rfl) (Or.inl rfl) (fun _ _ _ h => h)))))))))))))))))
def B_X4_bestLook_41 (X : Nat × (Nat → Int32)) (J : Nat → zCf) (R : zRt) : zCf := oIINC 3 4 (zj (1)) (J 9)
set_option maxRecDepth 100000 in
theorem vb_X4_bestLook_41 {X : Nat × (Nat → Int32)} {R : zRt} : ∀ ls st h, B_X4_bestLook_41 X (zV X M_X4_bestLook (zQm M_X4_bestLook R) 0 0) R ls st h → zV X M_X4_bestLook (zQm M_X4_bestLook R) 0 0 41 ls st h := sd_iinc dX4_bestLook_41 rfl (Nat.le_of_ble_eq_true rfl) (Or.inl rfl) (sd_goto dX4_bestLook_44 rfl (fun _ _ _ h => h))
def B_X4_bestLook_47 (X : Nat × (Nat → Int32)) (J : Nat → zCf) (R : zRt) : zCf := oILOAD 2 (oIRET R)
set_option maxRecDepth 100000 in
theorem vb_X4_bestLook_47 {X : Nat × (Nat → Int32)} {R : zRt} : ∀ ls st h, B_X4_bestLook_47 X (zV X M_X4_bestLook (zQm M_X4_bestLook R) 0 0) R ls st h → zV X M_X4_bestLook (zQm M_X4_bestLook R) 0 0 47 ls st h := sd_iload_n dX4_bestLook_47 rfl (sd_iret dX4_bestLook_48 rfl (Nat.le_of_ble_eq_true rfl) (Nat.le_of_ble_eq_true rfl))
theorem dX4_mostLeft_0 : decode cX4_mostLeft 0 = .ok (.iconst 0, 1) := by decide +kernel
theorem dX4_mostLeft_1 : decode cX4_mostLeft 1 = .ok (.istore_n 3, 1) := by decide +kernel
theorem dX4_mostLeft_2 : decode cX4_mostLeft 2 = .ok (.iconst 0, 1) := by decide +kernel
theorem dX4_mostLeft_3 : decode cX4_mostLeft 3 = .ok (.istore 4, 2) := by decide +kernel
theorem dX4_mostLeft_5 : decode cX4_mostLeft 5 = .ok (.iload 4, 2) := by decide +kernel
theorem dX4_mostLeft_7 : decode cX4_mostLeft 7 = .ok (.bipush 6, 2) := by decide +kernel
theorem dX4_mostLeft_9 : decode cX4_mostLeft 9 = .ok (.if_icmp .ge 37, 3) := by decide +kernel
theorem dX4_mostLeft_12 : decode cX4_mostLeft 12 = .ok (.iload_n 1, 1) := by decide +kernel
theorem dX4_mostLeft_13 : decode cX4_mostLeft 13 = .ok (.iload 4, 2) := by decide +kernel
theorem dX4_mostLeft_15 : decode cX4_mostLeft 15 = .ok (.invokestatic 72, 3) := by decide +kernel
theorem dX4_mostLeft_18 : decode cX4_mostLeft 18 = .ok (.iand, 1) := by decide +kernel
theorem dX4_mostLeft_19 : decode cX4_mostLeft 19 = .ok (.ifCond .eq 21, 3) := by decide +kernel
theorem dX4_mostLeft_22 : decode cX4_mostLeft 22 = .ok (.iload_n 3, 1) := by decide +kernel
theorem dX4_mostLeft_23 : decode cX4_mostLeft 23 = .ok (.aload_n 0, 1) := by decide +kernel
theorem dX4_mostLeft_24 : decode cX4_mostLeft 24 = .ok (.iload_n 1, 1) := by decide +kernel
theorem dX4_mostLeft_25 : decode cX4_mostLeft 25 = .ok (.iload_n 2, 1) := by decide +kernel
theorem dX4_mostLeft_26 : decode cX4_mostLeft 26 = .ok (.aload_n 0, 1) := by decide +kernel
theorem dX4_mostLeft_27 : decode cX4_mostLeft 27 = .ok (.iload 4, 2) := by decide +kernel
theorem dX4_mostLeft_29 : decode cX4_mostLeft 29 = .ok (.iload_n 2, 1) := by decide +kernel
theorem dX4_mostLeft_30 : decode cX4_mostLeft 30 = .ok (.invokevirtual 95, 3) := by decide +kernel
theorem dX4_mostLeft_33 : decode cX4_mostLeft 33 = .ok (.invokevirtual 108, 3) := by decide +kernel
theorem dX4_mostLeft_36 : decode cX4_mostLeft 36 = .ok (.invokestatic 112, 3) := by decide +kernel
theorem dX4_mostLeft_39 : decode cX4_mostLeft 39 = .ok (.istore_n 3, 1) := by decide +kernel
theorem dX4_mostLeft_40 : decode cX4_mostLeft 40 = .ok (.iinc 4 1, 3) := by decide +kernel
theorem dX4_mostLeft_43 : decode cX4_mostLeft 43 = .ok (.goto (-38), 3) := by decide +kernel
theorem dX4_mostLeft_46 : decode cX4_mostLeft 46 = .ok (.iload_n 3, 1) := by decide +kernel
theorem dX4_mostLeft_47 : decode cX4_mostLeft 47 = .ok (.ireturn, 1) := by decide +kernel
def B_X4_mostLeft_0 (X : Nat × (Nat → Int32)) (J : Nat → zCf) (R : zRt) : zCf := oPI (zj (0)) (oISTORE 2 3 (oPI (zj (0)) (oISTORE 3 4 (J 5))))
set_option maxRecDepth 100000 in
theorem vb_X4_mostLeft_0 {X : Nat × (Nat → Int32)} {R : zRt} : ∀ ls st h, B_X4_mostLeft_0 X (zV X M_X4_mostLeft (zQm M_X4_mostLeft R) 0 0) R ls st h → zV X M_X4_mostLeft (zQm M_X4_mostLeft R) 0 0 0 ls st h := sd_iconst dX4_mostLeft_0 rfl (sd_istore_n dX4_mostLeft_1 rfl (Nat.le_of_ble_eq_true rfl) (Or.inl rfl) (sd_iconst dX4_mostLeft_2 rfl (sd_istore dX4_mostLeft_3 (Nat.le_of_ble_eq_true rfl) (Or.inl rfl) (fun _ _ _ h => h))))
def B_X4_mostLeft_5 (X : Nat × (Nat → Int32)) (J : Nat → zCf) (R : zRt) : zCf := oILOAD 4 (oPI (zj (6)) (oICGE (J 46) (oILOAD 1 (oILOAD 4 (oINS1 X M_X7_asBit (oIAND (oIFEQ (J 40) (oILOAD 3 (oALOAD 0 (oILOAD 1 (oILOAD 2 (oALOAD 0 (oILOAD 4 (oILOAD 2 (oINV2 X M_X4_colourAt 4 (oINV3 X M_X4_lookingLike 4 (oINS2 X M_J9_max_7cf53 (oISTORE 2 3 (J 40)))))))))))))))))))
set_option maxRecDepth 100000 in
theorem vb_X4_mostLeft_5 {X : Nat × (Nat → Int32)} {R : zRt} : ∀ ls st h, B_X4_mostLeft_5 X (zV X M_X4_mostLeft (zQm M_X4_mostLeft R) 0 0) R ls st h → zV X M_X4_mostLeft (zQm M_X4_mostLeft R) 0 0 5 ls st h := sd_iload dX4_mostLeft_5 (sd_bipush dX4_mostLeft_7 rfl (sd_icge dX4_mostLeft_9 rfl (fun _ _ _ h => h) (sd_iload_n dX4_mostLeft_12 rfl (sd_iload dX4_mostLeft_13 (sd_ins1 dX4_mostLeft_15 ms_X7_asBit na_X7_asBit ml_RX4_72 ⟨⟨Nat.le_of_ble_eq_true rfl, Nat.le_of_ble_eq_true rfl⟩, ⟨Nat.le_of_ble_eq_true rfl, Nat.le_of_ble_eq_true rfl⟩⟩ (sd_iand dX4_mostLeft_18 (sd_ifeq dX4_mostLeft_19 rfl (fun _ _ _ h => h) (sd_iload_n dX4_mostLeft_22 rfl (sd_aload_n dX4_mostLeft_23 rfl (sd_iload_n dX4_mostLeft_24 rfl (sd_iload_n dX4_mostLeft_25 rfl (sd_aload_n dX4_mostLeft_26 rfl (sd_iload dX4_mostLeft_27 (sd_iload_n dX4_mostLeft_29 rfl (sd_inv2 dX4_mostLeft_30 rfl mv_X4_colourAt na_X4_colourAt ml_RX4_95 ⟨⟨Nat.le_of_ble_eq_true rfl, Nat.le_of_ble_eq_true rfl⟩, ⟨Nat.le_of_ble_eq_true rfl, Nat.le_of_ble_eq_true rfl⟩⟩ (sd_inv3 dX4_mostLeft_33 rfl mv_X4_lookingLike na_X4_lookingLike ml_RX4_108 ⟨⟨Nat.le_of_ble_eq_true rfl, Nat.le_of_ble_eq_true rfl⟩, ⟨Nat.le_of_ble_eq_true rfl, Nat.le_of_ble_eq_true rfl⟩⟩ (sd_ins2 dX4_mostLeft_36 ms_J9_max_7cf53 na_J9_max_7cf53 ml_RX4_112 ⟨⟨Nat.le_of_ble_eq_true rfl, Nat.le_of_ble_eq_true rfl⟩, ⟨Nat.le_of_ble_eq_true rfl, Nat.le_of_ble_eq_true rfl⟩⟩ (sd_istore_n dX4_mostLeft_39 rfl (Nat.le_of_ble_eq_true rfl) (Or.inl rfl) (fun _ _ _ h => h)))))))))))))))))))
def B_X4_mostLeft_40 (X : Nat × (Nat → Int32)) (J : Nat → zCf) (R : zRt) : zCf := oIINC 3 4 (zj (1)) (J 5)
set_option maxRecDepth 100000 in
theorem vb_X4_mostLeft_40 {X : Nat × (Nat → Int32)} {R : zRt} : ∀ ls st h, B_X4_mostLeft_40 X (zV X M_X4_mostLeft (zQm M_X4_mostLeft R) 0 0) R ls st h → zV X M_X4_mostLeft (zQm M_X4_mostLeft R) 0 0 40 ls st h := sd_iinc dX4_mostLeft_40 rfl (Nat.le_of_ble_eq_true rfl) (Or.inl rfl) (sd_goto dX4_mostLeft_43 rfl (fun _ _ _ h => h))
def B_X4_mostLeft_46 (X : Nat × (Nat → Int32)) (J : Nat → zCf) (R : zRt) : zCf := oILOAD 3 (oIRET R)
set_option maxRecDepth 100000 in
theorem vb_X4_mostLeft_46 {X : Nat × (Nat → Int32)} {R : zRt} : ∀ ls st h, B_X4_mostLeft_46 X (zV X M_X4_mostLeft (zQm M_X4_mostLeft R) 0 0) R ls st h → zV X M_X4_mostLeft (zQm M_X4_mostLeft R) 0 0 46 ls st h := sd_iload_n dX4_mostLeft_46 rfl (sd_iret dX4_mostLeft_47 rfl (Nat.le_of_ble_eq_true rfl) (Nat.le_of_ble_eq_true rfl))
theorem dX4_lookingLike_0 : decode cX4_lookingLike 0 = .ok (.iconst 0, 1) := by decide +kernel
theorem dX4_lookingLike_1 : decode cX4_lookingLike 1 = .ok (.istore 5, 2) := by decide +kernel
theorem dX4_lookingLike_3 : decode cX4_lookingLike 3 = .ok (.iconst 0, 1) := by decide +kernel
theorem dX4_lookingLike_4 : decode cX4_lookingLike 4 = .ok (.istore 6, 2) := by decide +kernel
theorem dX4_lookingLike_6 : decode cX4_lookingLike 6 = .ok (.iload 6, 2) := by decide +kernel
theorem dX4_lookingLike_8 : decode cX4_lookingLike 8 = .ok (.bipush 6, 2) := by decide +kernel
theorem dX4_lookingLike_10 : decode cX4_lookingLike 10 = .ok (.if_icmp .ge 34, 3) := by decide +kernel
theorem dX4_lookingLike_13 : decode cX4_lookingLike 13 = .ok (.iload_n 1, 1) := by decide +kernel
theorem dX4_lookingLike_14 : decode cX4_lookingLike 14 = .ok (.iload 6, 2) := by decide +kernel
theorem dX4_lookingLike_16 : decode cX4_lookingLike 16 = .ok (.invokestatic 72, 3) := by decide +kernel
theorem dX4_lookingLike_19 : decode cX4_lookingLike 19 = .ok (.iand, 1) := by decide +kernel
theorem dX4_lookingLike_20 : decode cX4_lookingLike 20 = .ok (.ifCond .eq 18, 3) := by decide +kernel
theorem dX4_lookingLike_23 : decode cX4_lookingLike 23 = .ok (.aload_n 0, 1) := by decide +kernel
theorem dX4_lookingLike_24 : decode cX4_lookingLike 24 = .ok (.iload 6, 2) := by decide +kernel
theorem dX4_lookingLike_26 : decode cX4_lookingLike 26 = .ok (.iload_n 2, 1) := by decide +kernel
theorem dX4_lookingLike_27 : decode cX4_lookingLike 27 = .ok (.invokevirtual 95, 3) := by decide +kernel
theorem dX4_lookingLike_30 : decode cX4_lookingLike 30 = .ok (.lload_n 3, 1) := by decide +kernel
theorem dX4_lookingLike_31 : decode cX4_lookingLike 31 = .ok (.lcmp, 1) := by decide +kernel
theorem dX4_lookingLike_32 : decode cX4_lookingLike 32 = .ok (.ifCond .ne 6, 3) := by decide +kernel
theorem dX4_lookingLike_35 : decode cX4_lookingLike 35 = .ok (.iinc 5 1, 3) := by decide +kernel
theorem dX4_lookingLike_38 : decode cX4_lookingLike 38 = .ok (.iinc 6 1, 3) := by decide +kernel
theorem dX4_lookingLike_41 : decode cX4_lookingLike 41 = .ok (.goto (-35), 3) := by decide +kernel
theorem dX4_lookingLike_44 : decode cX4_lookingLike 44 = .ok (.iload 5, 2) := by decide +kernel
theorem dX4_lookingLike_46 : decode cX4_lookingLike 46 = .ok (.ireturn, 1) := by decide +kernel
def B_X4_lookingLike_0 (X : Nat × (Nat → Int32)) (J : Nat → zCf) (R : zRt) : zCf := oPI (zj (0)) (oISTORE 4 5 (oPI (zj (0)) (oISTORE 5 6 (J 6))))
set_option maxRecDepth 100000 in
theorem vb_X4_lookingLike_0 {X : Nat × (Nat → Int32)} {R : zRt} : ∀ ls st h, B_X4_lookingLike_0 X (zV X M_X4_lookingLike (zQm M_X4_lookingLike R) 0 0) R ls st h → zV X M_X4_lookingLike (zQm M_X4_lookingLike R) 0 0 0 ls st h := sd_iconst dX4_lookingLike_0 rfl (sd_istore dX4_lookingLike_1 (Nat.le_of_ble_eq_true rfl) (Or.inl rfl) (sd_iconst dX4_lookingLike_3 rfl (sd_istore dX4_lookingLike_4 (Nat.le_of_ble_eq_true rfl) (Or.inl rfl) (fun _ _ _ h => h))))
def B_X4_lookingLike_6 (X : Nat × (Nat → Int32)) (J : Nat → zCf) (R : zRt) : zCf := oILOAD 6 (oPI (zj (6)) (oICGE (J 44) (oILOAD 1 (oILOAD 6 (oINS1 X M_X7_asBit (oIAND (oIFEQ (J 38) (oALOAD 0 (oILOAD 6 (oILOAD 2 (oINV2 X M_X4_colourAt 4 (oLLOAD 3 (oLCMP (oIFNE (J 38) (oIINC 4 5 (zj (1)) (J 38))))))))))))))))
set_option maxRecDepth 100000 in
theorem vb_X4_lookingLike_6 {X : Nat × (Nat → Int32)} {R : zRt} : ∀ ls st h, B_X4_lookingLike_6 X (zV X M_X4_lookingLike (zQm M_X4_lookingLike R) 0 0) R ls st h → zV X M_X4_lookingLike (zQm M_X4_lookingLike R) 0 0 6 ls st h := sd_iload dX4_lookingLike_6 (sd_bipush dX4_lookingLike_8 rfl (sd_icge dX4_lookingLike_10 rfl (fun _ _ _ h => h) (sd_iload_n dX4_lookingLike_13 rfl (sd_iload dX4_lookingLike_14 (sd_ins1 dX4_lookingLike_16 ms_X7_asBit na_X7_asBit ml_RX4_72 ⟨⟨Nat.le_of_ble_eq_true rfl, Nat.le_of_ble_eq_true rfl⟩, ⟨Nat.le_of_ble_eq_true rfl, Nat.le_of_ble_eq_true rfl⟩⟩ (sd_iand dX4_lookingLike_19 (sd_ifeq dX4_lookingLike_20 rfl (fun _ _ _ h => h) (sd_aload_n dX4_lookingLike_23 rfl (sd_iload dX4_lookingLike_24 (sd_iload_n dX4_lookingLike_26 rfl (sd_inv2 dX4_lookingLike_27 rfl mv_X4_colourAt na_X4_colourAt ml_RX4_95 ⟨⟨Nat.le_of_ble_eq_true rfl, Nat.le_of_ble_eq_true rfl⟩, ⟨Nat.le_of_ble_eq_true rfl, Nat.le_of_ble_eq_true rfl⟩⟩ (sd_lload_n dX4_lookingLike_30 rfl (sd_lcmp dX4_lookingLike_31 (sd_ifne dX4_lookingLike_32 rfl (fun _ _ _ h => h) (sd_iinc dX4_lookingLike_35 rfl (Nat.le_of_ble_eq_true rfl) (Or.inl rfl) (fun _ _ _ h => h))))))))))))))))
def B_X4_lookingLike_38 (X : Nat × (Nat → Int32)) (J : Nat → zCf) (R : zRt) : zCf := oIINC 5 6 (zj (1)) (J 6)
set_option maxRecDepth 100000 in
theorem vb_X4_lookingLike_38 {X : Nat × (Nat → Int32)} {R : zRt} : ∀ ls st h, B_X4_lookingLike_38 X (zV X M_X4_lookingLike (zQm M_X4_lookingLike R) 0 0) R ls st h → zV X M_X4_lookingLike (zQm M_X4_lookingLike R) 0 0 38 ls st h := sd_iinc dX4_lookingLike_38 rfl (Nat.le_of_ble_eq_true rfl) (Or.inl rfl) (sd_goto dX4_lookingLike_41 rfl (fun _ _ _ h => h))
def B_X4_lookingLike_44 (X : Nat × (Nat → Int32)) (J : Nat → zCf) (R : zRt) : zCf := oILOAD 5 (oIRET R)
set_option maxRecDepth 100000 in
theorem vb_X4_lookingLike_44 {X : Nat × (Nat → Int32)} {R : zRt} : ∀ ls st h, B_X4_lookingLike_44 X (zV X M_X4_lookingLike (zQm M_X4_lookingLike R) 0 0) R ls st h → zV X M_X4_lookingLike (zQm M_X4_lookingLike R) 0 0 44 ls st h := sd_iload dX4_lookingLike_44 (sd_iret dX4_lookingLike_46 rfl (Nat.le_of_ble_eq_true rfl) (Nat.le_of_ble_eq_true rfl))
theorem dX4_fewestWatchers_0 : decode cX4_fewestWatchers 0 = .ok (.aload_n 0, 1) := by decide +kernel
theorem dX4_fewestWatchers_1 : decode cX4_fewestWatchers 1 = .ok (.iconst 0, 1) := by decide +kernel
theorem dX4_fewestWatchers_2 : decode cX4_fewestWatchers 2 = .ok (.iconst 0, 1) := by decide +kernel
theorem dX4_fewestWatchers_3 : decode cX4_fewestWatchers 3 = .ok (.invokevirtual 63, 3) := by decide +kernel
theorem dX4_fewestWatchers_6 : decode cX4_fewestWatchers 6 = .ok (.istore_n 2, 1) := by decide +kernel
theorem dX4_fewestWatchers_7 : decode cX4_fewestWatchers 7 = .ok (.iload_n 2, 1) := by decide +kernel
theorem dX4_fewestWatchers_8 : decode cX4_fewestWatchers 8 = .ok (.istore_n 3, 1) := by decide +kernel
theorem dX4_fewestWatchers_9 : decode cX4_fewestWatchers 9 = .ok (.iconst 1, 1) := by decide +kernel
theorem dX4_fewestWatchers_10 : decode cX4_fewestWatchers 10 = .ok (.istore 4, 2) := by decide +kernel
theorem dX4_fewestWatchers_12 : decode cX4_fewestWatchers 12 = .ok (.iload 4, 2) := by decide +kernel
theorem dX4_fewestWatchers_14 : decode cX4_fewestWatchers 14 = .ok (.sipush 4096, 3) := by decide +kernel
theorem dX4_fewestWatchers_17 : decode cX4_fewestWatchers 17 = .ok (.if_icmp .ge 54, 3) := by decide +kernel
theorem dX4_fewestWatchers_20 : decode cX4_fewestWatchers 20 = .ok (.iload 4, 2) := by decide +kernel
theorem dX4_fewestWatchers_22 : decode cX4_fewestWatchers 22 = .ok (.invokestatic 67, 3) := by decide +kernel
theorem dX4_fewestWatchers_25 : decode cX4_fewestWatchers 25 = .ok (.iload_n 3, 1) := by decide +kernel
theorem dX4_fewestWatchers_26 : decode cX4_fewestWatchers 26 = .ok (.invokestatic 67, 3) := by decide +kernel
theorem dX4_fewestWatchers_29 : decode cX4_fewestWatchers 29 = .ok (.isub, 1) := by decide +kernel
theorem dX4_fewestWatchers_30 : decode cX4_fewestWatchers 30 = .ok (.istore 5, 2) := by decide +kernel
theorem dX4_fewestWatchers_32 : decode cX4_fewestWatchers 32 = .ok (.iload 5, 2) := by decide +kernel
theorem dX4_fewestWatchers_34 : decode cX4_fewestWatchers 34 = .ok (.ifCond .lt 14, 3) := by decide +kernel
theorem dX4_fewestWatchers_37 : decode cX4_fewestWatchers 37 = .ok (.iload 5, 2) := by decide +kernel
theorem dX4_fewestWatchers_39 : decode cX4_fewestWatchers 39 = .ok (.ifCond .ne 26, 3) := by decide +kernel
theorem dX4_fewestWatchers_42 : decode cX4_fewestWatchers 42 = .ok (.iload 4, 2) := by decide +kernel
theorem dX4_fewestWatchers_44 : decode cX4_fewestWatchers 44 = .ok (.iload_n 3, 1) := by decide +kernel
theorem dX4_fewestWatchers_45 : decode cX4_fewestWatchers 45 = .ok (.if_icmp .ge 20, 3) := by decide +kernel
theorem dX4_fewestWatchers_48 : decode cX4_fewestWatchers 48 = .ok (.iload_n 2, 1) := by decide +kernel
theorem dX4_fewestWatchers_49 : decode cX4_fewestWatchers 49 = .ok (.aload_n 0, 1) := by decide +kernel
theorem dX4_fewestWatchers_50 : decode cX4_fewestWatchers 50 = .ok (.iload 4, 2) := by decide +kernel
theorem dX4_fewestWatchers_52 : decode cX4_fewestWatchers 52 = .ok (.iload_n 1, 1) := by decide +kernel
theorem dX4_fewestWatchers_53 : decode cX4_fewestWatchers 53 = .ok (.invokevirtual 117, 3) := by decide +kernel
theorem dX4_fewestWatchers_56 : decode cX4_fewestWatchers 56 = .ok (.iconst (-1), 1) := by decide +kernel
theorem dX4_fewestWatchers_57 : decode cX4_fewestWatchers 57 = .ok (.ixor, 1) := by decide +kernel
theorem dX4_fewestWatchers_58 : decode cX4_fewestWatchers 58 = .ok (.iand, 1) := by decide +kernel
theorem dX4_fewestWatchers_59 : decode cX4_fewestWatchers 59 = .ok (.ifCond .ne 6, 3) := by decide +kernel
theorem dX4_fewestWatchers_62 : decode cX4_fewestWatchers 62 = .ok (.iload 4, 2) := by decide +kernel
theorem dX4_fewestWatchers_64 : decode cX4_fewestWatchers 64 = .ok (.istore_n 3, 1) := by decide +kernel
theorem dX4_fewestWatchers_65 : decode cX4_fewestWatchers 65 = .ok (.iinc 4 1, 3) := by decide +kernel
theorem dX4_fewestWatchers_68 : decode cX4_fewestWatchers 68 = .ok (.goto (-56), 3) := by decide +kernel
theorem dX4_fewestWatchers_71 : decode cX4_fewestWatchers 71 = .ok (.iload_n 3, 1) := by decide +kernel
theorem dX4_fewestWatchers_72 : decode cX4_fewestWatchers 72 = .ok (.ireturn, 1) := by decide +kernel
def B_X4_fewestWatchers_0 (X : Nat × (Nat → Int32)) (J : Nat → zCf) (R : zRt) : zCf := oALOAD 0 (oPI (zj (0)) (oPI (zj (0)) (oINV2 X M_X4_heldCells 4 (oISTORE 1 2 (oILOAD 2 (oISTORE 2 3 (oPI (zj (1)) (oISTORE 3 4 (J 12)))))))))
set_option maxRecDepth 100000 in
theorem vb_X4_fewestWatchers_0 {X : Nat × (Nat → Int32)} {R : zRt} : ∀ ls st h, B_X4_fewestWatchers_0 X (zV X M_X4_fewestWatchers (zQm M_X4_fewestWatchers R) 0 0) R ls st h → zV X M_X4_fewestWatchers (zQm M_X4_fewestWatchers R) 0 0 0 ls st h := sd_aload_n dX4_fewestWatchers_0 rfl (sd_iconst dX4_fewestWatchers_1 rfl (sd_iconst dX4_fewestWatchers_2 rfl (sd_inv2 dX4_fewestWatchers_3 rfl mv_X4_heldCells na_X4_heldCells ml_RX4_63 ⟨⟨Nat.le_of_ble_eq_true rfl, Nat.le_of_ble_eq_true rfl⟩, ⟨Nat.le_of_ble_eq_true rfl, Nat.le_of_ble_eq_true rfl⟩⟩ (sd_istore_n dX4_fewestWatchers_6 rfl (Nat.le_of_ble_eq_true rfl) (Or.inl rfl) (sd_iload_n dX4_fewestWatchers_7 rfl (sd_istore_n dX4_fewestWatchers_8 rfl (Nat.le_of_ble_eq_true rfl) (Or.inl rfl) (sd_iconst dX4_fewestWatchers_9 rfl (sd_istore dX4_fewestWatchers_10 (Nat.le_of_ble_eq_true rfl) (Or.inl rfl) (fun _ _ _ h => h)))))))))
def B_X4_fewestWatchers_12 (X : Nat × (Nat → Int32)) (J : Nat → zCf) (R : zRt) : zCf := oILOAD 4 (oPI (zj (4096)) (oICGE (J 71) (oILOAD 4 (oINS1 X M_J6_bitCount_0f7a4 (oILOAD 3 (oINS1 X M_J6_bitCount_0f7a4 (oISUB (oISTORE 4 5 (oILOAD 5 (oIFLT (J 48) (oILOAD 5 (oIFNE (J 65) (oILOAD 4 (oILOAD 3 (oICGE (J 65) (J 48))))))))))))))))
set_option maxRecDepth 100000 in
theorem vb_X4_fewestWatchers_12 {X : Nat × (Nat → Int32)} {R : zRt} : ∀ ls st h, B_X4_fewestWatchers_12 X (zV X M_X4_fewestWatchers (zQm M_X4_fewestWatchers R) 0 0) R ls st h → zV X M_X4_fewestWatchers (zQm M_X4_fewestWatchers R) 0 0 12 ls st h := sd_iload dX4_fewestWatchers_12 (sd_sipush dX4_fewestWatchers_14 rfl (sd_icge dX4_fewestWatchers_17 rfl (fun _ _ _ h => h) (sd_iload dX4_fewestWatchers_20 (sd_ins1 dX4_fewestWatchers_22 ms_J6_bitCount_0f7a4 na_J6_bitCount_0f7a4 ml_RX4_67 ⟨⟨Nat.le_of_ble_eq_true rfl, Nat.le_of_ble_eq_true rfl⟩, ⟨Nat.le_of_ble_eq_true rfl, Nat.le_of_ble_eq_true rfl⟩⟩ (sd_iload_n dX4_fewestWatchers_25 rfl (sd_ins1 dX4_fewestWatchers_26 ms_J6_bitCount_0f7a4 na_J6_bitCount_0f7a4 ml_RX4_67 ⟨⟨Nat.le_of_ble_eq_true rfl, Nat.le_of_ble_eq_true rfl⟩, ⟨Nat.le_of_ble_eq_true rfl, Nat.le_of_ble_eq_true rfl⟩⟩ (sd_isub dX4_fewestWatchers_29 (sd_istore dX4_fewestWatchers_30 (Nat.le_of_ble_eq_true rfl) (Or.inl rfl) (sd_iload dX4_fewestWatchers_32 (sd_iflt dX4_fewestWatchers_34 rfl (fun _ _ _ h => h) (sd_iload dX4_fewestWatchers_37 (sd_ifne dX4_fewestWatchers_39 rfl (fun _ _ _ h => h) (sd_iload dX4_fewestWatchers_42 (sd_iload_n dX4_fewestWatchers_44 rfl (sd_icge dX4_fewestWatchers_45 rfl (fun _ _ _ h => h) (fun _ _ _ h => h))))))))))))))))
def B_X4_fewestWatchers_48 (X : Nat × (Nat → Int32)) (J : Nat → zCf) (R : zRt) : zCf := oILOAD 2 (oALOAD 0 (oILOAD 4 (oILOAD 1 (oINV2 X M_X4_widened 4 (oPI (zj (-1)) (oIXOR (oIAND (oIFNE (J 65) (oILOAD 4 (oISTORE 2 3 (J 65)))))))))))
set_option maxRecDepth 100000 in
theorem vb_X4_fewestWatchers_48 {X : Nat × (Nat → Int32)} {R : zRt} : ∀ ls st h, B_X4_fewestWatchers_48 X (zV X M_X4_fewestWatchers (zQm M_X4_fewestWatchers R) 0 0) R ls st h → zV X M_X4_fewestWatchers (zQm M_X4_fewestWatchers R) 0 0 48 ls st h := sd_iload_n dX4_fewestWatchers_48 rfl (sd_aload_n dX4_fewestWatchers_49 rfl (sd_iload dX4_fewestWatchers_50 (sd_iload_n dX4_fewestWatchers_52 rfl (sd_inv2 dX4_fewestWatchers_53 rfl mv_X4_widened na_X4_widened ml_RX4_117 ⟨⟨Nat.le_of_ble_eq_true rfl, Nat.le_of_ble_eq_true rfl⟩, ⟨Nat.le_of_ble_eq_true rfl, Nat.le_of_ble_eq_true rfl⟩⟩ (sd_iconst dX4_fewestWatchers_56 rfl (sd_ixor dX4_fewestWatchers_57 (sd_iand dX4_fewestWatchers_58 (sd_ifne dX4_fewestWatchers_59 rfl (fun _ _ _ h => h) (sd_iload dX4_fewestWatchers_62 (sd_istore_n dX4_fewestWatchers_64 rfl (Nat.le_of_ble_eq_true rfl) (Or.inl rfl) (fun _ _ _ h => h)))))))))))
def B_X4_fewestWatchers_65 (X : Nat × (Nat → Int32)) (J : Nat → zCf) (R : zRt) : zCf := oIINC 3 4 (zj (1)) (J 12)
set_option maxRecDepth 100000 in
theorem vb_X4_fewestWatchers_65 {X : Nat × (Nat → Int32)} {R : zRt} : ∀ ls st h, B_X4_fewestWatchers_65 X (zV X M_X4_fewestWatchers (zQm M_X4_fewestWatchers R) 0 0) R ls st h → zV X M_X4_fewestWatchers (zQm M_X4_fewestWatchers R) 0 0 65 ls st h := sd_iinc dX4_fewestWatchers_65 rfl (Nat.le_of_ble_eq_true rfl) (Or.inl rfl) (sd_goto dX4_fewestWatchers_68 rfl (fun _ _ _ h => h))
def B_X4_fewestWatchers_71 (X : Nat × (Nat → Int32)) (J : Nat → zCf) (R : zRt) : zCf := oILOAD 3 (oIRET R)
set_option maxRecDepth 100000 in
theorem vb_X4_fewestWatchers_71 {X : Nat × (Nat → Int32)} {R : zRt} : ∀ ls st h, B_X4_fewestWatchers_71 X (zV X M_X4_fewestWatchers (zQm M_X4_fewestWatchers R) 0 0) R ls st h → zV X M_X4_fewestWatchers (zQm M_X4_fewestWatchers R) 0 0 71 ls st h := sd_iload_n dX4_fewestWatchers_71 rfl (sd_iret dX4_fewestWatchers_72 rfl (Nat.le_of_ble_eq_true rfl) (Nat.le_of_ble_eq_true rfl))
theorem dX4_widened_0 : decode cX4_widened 0 = .ok (.iload_n 1, 1) := by decide +kernel
theorem dX4_widened_1 : decode cX4_widened 1 = .ok (.istore_n 3, 1) := by decide +kernel
theorem dX4_widened_2 : decode cX4_widened 2 = .ok (.iconst 1, 1) := by decide +kernel
theorem dX4_widened_3 : decode cX4_widened 3 = .ok (.istore 4, 2) := by decide +kernel
theorem dX4_widened_5 : decode cX4_widened 5 = .ok (.iload 4, 2) := by decide +kernel
theorem dX4_widened_7 : decode cX4_widened 7 = .ok (.iload_n 2, 1) := by decide +kernel
theorem dX4_widened_8 : decode cX4_widened 8 = .ok (.if_icmp .gt 37, 3) := by decide +kernel
theorem dX4_widened_11 : decode cX4_widened 11 = .ok (.iload_n 3, 1) := by decide +kernel
theorem dX4_widened_12 : decode cX4_widened 12 = .ok (.iload_n 1, 1) := by decide +kernel
theorem dX4_widened_13 : decode cX4_widened 13 = .ok (.iload 4, 2) := by decide +kernel
theorem dX4_widened_15 : decode cX4_widened 15 = .ok (.ishl, 1) := by decide +kernel
theorem dX4_widened_16 : decode cX4_widened 16 = .ok (.iload_n 1, 1) := by decide +kernel
theorem dX4_widened_17 : decode cX4_widened 17 = .ok (.bipush 12, 2) := by decide +kernel
theorem dX4_widened_19 : decode cX4_widened 19 = .ok (.iload 4, 2) := by decide +kernel
theorem dX4_widened_21 : decode cX4_widened 21 = .ok (.isub, 1) := by decide +kernel
theorem dX4_widened_22 : decode cX4_widened 22 = .ok (.ishr, 1) := by decide +kernel
theorem dX4_widened_23 : decode cX4_widened 23 = .ok (.ior, 1) := by decide +kernel
theorem dX4_widened_24 : decode cX4_widened 24 = .ok (.iload_n 1, 1) := by decide +kernel
theorem dX4_widened_25 : decode cX4_widened 25 = .ok (.iload 4, 2) := by decide +kernel
theorem dX4_widened_27 : decode cX4_widened 27 = .ok (.ishr, 1) := by decide +kernel
theorem dX4_widened_28 : decode cX4_widened 28 = .ok (.ior, 1) := by decide +kernel
theorem dX4_widened_29 : decode cX4_widened 29 = .ok (.iload_n 1, 1) := by decide +kernel
theorem dX4_widened_30 : decode cX4_widened 30 = .ok (.bipush 12, 2) := by decide +kernel
theorem dX4_widened_32 : decode cX4_widened 32 = .ok (.iload 4, 2) := by decide +kernel
theorem dX4_widened_34 : decode cX4_widened 34 = .ok (.isub, 1) := by decide +kernel
theorem dX4_widened_35 : decode cX4_widened 35 = .ok (.ishl, 1) := by decide +kernel
theorem dX4_widened_36 : decode cX4_widened 36 = .ok (.ior, 1) := by decide +kernel
theorem dX4_widened_37 : decode cX4_widened 37 = .ok (.ior, 1) := by decide +kernel
theorem dX4_widened_38 : decode cX4_widened 38 = .ok (.istore_n 3, 1) := by decide +kernel
theorem dX4_widened_39 : decode cX4_widened 39 = .ok (.iinc 4 1, 3) := by decide +kernel
theorem dX4_widened_42 : decode cX4_widened 42 = .ok (.goto (-37), 3) := by decide +kernel
theorem dX4_widened_45 : decode cX4_widened 45 = .ok (.iload_n 3, 1) := by decide +kernel
theorem dX4_widened_46 : decode cX4_widened 46 = .ok (.sipush 4095, 3) := by decide +kernel
theorem dX4_widened_49 : decode cX4_widened 49 = .ok (.iand, 1) := by decide +kernel
theorem dX4_widened_50 : decode cX4_widened 50 = .ok (.ireturn, 1) := by decide +kernel
def B_X4_widened_0 (X : Nat × (Nat → Int32)) (J : Nat → zCf) (R : zRt) : zCf := oILOAD 1 (oISTORE 2 3 (oPI (zj (1)) (oISTORE 3 4 (J 5))))
set_option maxRecDepth 100000 in
theorem vb_X4_widened_0 {X : Nat × (Nat → Int32)} {R : zRt} : ∀ ls st h, B_X4_widened_0 X (zV X M_X4_widened (zQm M_X4_widened R) 0 0) R ls st h → zV X M_X4_widened (zQm M_X4_widened R) 0 0 0 ls st h := sd_iload_n dX4_widened_0 rfl (sd_istore_n dX4_widened_1 rfl (Nat.le_of_ble_eq_true rfl) (Or.inl rfl) (sd_iconst dX4_widened_2 rfl (sd_istore dX4_widened_3 (Nat.le_of_ble_eq_true rfl) (Or.inl rfl) (fun _ _ _ h => h))))
def B_X4_widened_5 (X : Nat × (Nat → Int32)) (J : Nat → zCf) (R : zRt) : zCf := oILOAD 4 (oILOAD 2 (oICGT (J 45) (oILOAD 3 (oILOAD 1 (oILOAD 4 (oISHL (oILOAD 1 (oPI (zj (12)) (oILOAD 4 (oISUB (oISHR (oIOR (oILOAD 1 (oILOAD 4 (oISHR (oIOR (oILOAD 1 (oPI (zj (12)) (oILOAD 4 (oISUB (oISHL (oIOR (oIOR (oISTORE 2 3 (oIINC 3 4 (zj (1)) (J 5))))))))))))))))))))))))))
set_option maxRecDepth 100000 in
theorem vb_X4_widened_5 {X : Nat × (Nat → Int32)} {R : zRt} : ∀ ls st h, B_X4_widened_5 X (zV X M_X4_widened (zQm M_X4_widened R) 0 0) R ls st h → zV X M_X4_widened (zQm M_X4_widened R) 0 0 5 ls st h := sd_iload dX4_widened_5 (sd_iload_n dX4_widened_7 rfl (sd_icgt dX4_widened_8 rfl (fun _ _ _ h => h) (sd_iload_n dX4_widened_11 rfl (sd_iload_n dX4_widened_12 rfl (sd_iload dX4_widened_13 (sd_ishl dX4_widened_15 (sd_iload_n dX4_widened_16 rfl (sd_bipush dX4_widened_17 rfl (sd_iload dX4_widened_19 (sd_isub dX4_widened_21 (sd_ishr dX4_widened_22 (sd_ior dX4_widened_23 (sd_iload_n dX4_widened_24 rfl (sd_iload dX4_widened_25 (sd_ishr dX4_widened_27 (sd_ior dX4_widened_28 (sd_iload_n dX4_widened_29 rfl (sd_bipush dX4_widened_30 rfl (sd_iload dX4_widened_32 (sd_isub dX4_widened_34 (sd_ishl dX4_widened_35 (sd_ior dX4_widened_36 (sd_ior dX4_widened_37 (sd_istore_n dX4_widened_38 rfl (Nat.le_of_ble_eq_true rfl) (Or.inl rfl) (sd_iinc dX4_widened_39 rfl (Nat.le_of_ble_eq_true rfl) (Or.inl rfl) (sd_goto dX4_widened_42 rfl (fun _ _ _ h => h)))))))))))))))))))))))))))
def B_X4_widened_45 (X : Nat × (Nat → Int32)) (J : Nat → zCf) (R : zRt) : zCf := oILOAD 3 (oPI (zj (4095)) (oIAND (oIRET R)))
set_option maxRecDepth 100000 in
theorem vb_X4_widened_45 {X : Nat × (Nat → Int32)} {R : zRt} : ∀ ls st h, B_X4_widened_45 X (zV X M_X4_widened (zQm M_X4_widened R) 0 0) R ls st h → zV X M_X4_widened (zQm M_X4_widened R) 0 0 45 ls st h := sd_iload_n dX4_widened_45 rfl (sd_sipush dX4_widened_46 rfl (sd_iand dX4_widened_49 (sd_iret dX4_widened_50 rfl (Nat.le_of_ble_eq_true rfl) (Nat.le_of_ble_eq_true rfl))))
theorem dX4_stepInto_0 : decode cX4_stepInto 0 = .ok (.aload_n 0, 1) := by decide +kernel
theorem dX4_stepInto_1 : decode cX4_stepInto 1 = .ok (.iload_n 1, 1) := by decide +kernel
theorem dX4_stepInto_2 : decode cX4_stepInto 2 = .ok (.invokestatic 120, 3) := by decide +kernel
theorem dX4_stepInto_5 : decode cX4_stepInto 5 = .ok (.iload_n 1, 1) := by decide +kernel
theorem dX4_stepInto_6 : decode cX4_stepInto 6 = .ok (.invokestatic 123, 3) := by decide +kernel
theorem dX4_stepInto_9 : decode cX4_stepInto 9 = .ok (.invokestatic 82, 3) := by decide +kernel
theorem dX4_stepInto_12 : decode cX4_stepInto 12 = .ok (.iconst 0, 1) := by decide +kernel
theorem dX4_stepInto_13 : decode cX4_stepInto 13 = .ok (.iconst 0, 1) := by decide +kernel
theorem dX4_stepInto_14 : decode cX4_stepInto 14 = .ok (.invokevirtual 60, 3) := by decide +kernel
theorem dX4_stepInto_17 : decode cX4_stepInto 17 = .ok (.istore_n 2, 1) := by decide +kernel
theorem dX4_stepInto_18 : decode cX4_stepInto 18 = .ok (.iload_n 2, 1) := by decide +kernel
theorem dX4_stepInto_19 : decode cX4_stepInto 19 = .ok (.ifCond .ge 7, 3) := by decide +kernel
theorem dX4_stepInto_22 : decode cX4_stepInto 22 = .ok (.iconst 1, 1) := by decide +kernel
theorem dX4_stepInto_23 : decode cX4_stepInto 23 = .ok (.goto 13, 3) := by decide +kernel
theorem dX4_stepInto_26 : decode cX4_stepInto 26 = .ok (.iconst 1, 1) := by decide +kernel
theorem dX4_stepInto_27 : decode cX4_stepInto 27 = .ok (.aload_n 0, 1) := by decide +kernel
theorem dX4_stepInto_28 : decode cX4_stepInto 28 = .ok (.getfield 14, 3) := by decide +kernel
theorem dX4_stepInto_31 : decode cX4_stepInto 31 = .ok (.iload_n 2, 1) := by decide +kernel
theorem dX4_stepInto_32 : decode cX4_stepInto 32 = .ok (.invokevirtual 126, 3) := by decide +kernel
theorem dX4_stepInto_35 : decode cX4_stepInto 35 = .ok (.iadd, 1) := by decide +kernel
theorem dX4_stepInto_36 : decode cX4_stepInto 36 = .ok (.ireturn, 1) := by decide +kernel
def B_X4_stepInto_0 (X : Nat × (Nat → Int32)) (J : Nat → zCf) (R : zRt) : zCf := oALOAD 0 (oILOAD 1 (oINS1 X M_X7_countryAt (oILOAD 1 (oINS1 X M_X7_cellAt (oINS2 X M_X7_tubeCell (oPI (zj (0)) (oPI (zj (0)) (oINV3 X M_X4_topIn 4 (oISTORE 1 2 (oILOAD 2 (oIFGE (J 26) (oPI (zj (1)) (J 36)))))))))))))
set_option maxRecDepth 100000 in
theorem vb_X4_stepInto_0 {X : Nat × (Nat → Int32)} {R : zRt} : ∀ ls st h, B_X4_stepInto_0 X (zV X M_X4_stepInto (zQm M_X4_stepInto R) 0 0) R ls st h → zV X M_X4_stepInto (zQm M_X4_stepInto R) 0 0 0 ls st h := sd_aload_n dX4_stepInto_0 rfl (sd_iload_n dX4_stepInto_1 rfl (sd_ins1 dX4_stepInto_2 ms_X7_countryAt na_X7_countryAt ml_RX4_120 ⟨⟨Nat.le_of_ble_eq_true rfl, Nat.le_of_ble_eq_true rfl⟩, ⟨Nat.le_of_ble_eq_true rfl, Nat.le_of_ble_eq_true rfl⟩⟩ (sd_iload_n dX4_stepInto_5 rfl (sd_ins1 dX4_stepInto_6 ms_X7_cellAt na_X7_cellAt ml_RX4_123 ⟨⟨Nat.le_of_ble_eq_true rfl, Nat.le_of_ble_eq_true rfl⟩, ⟨Nat.le_of_ble_eq_true rfl, Nat.le_of_ble_eq_true rfl⟩⟩ (sd_ins2 dX4_stepInto_9 ms_X7_tubeCell na_X7_tubeCell ml_RX4_82 ⟨⟨Nat.le_of_ble_eq_true rfl, Nat.le_of_ble_eq_true rfl⟩, ⟨Nat.le_of_ble_eq_true rfl, Nat.le_of_ble_eq_true rfl⟩⟩ (sd_iconst dX4_stepInto_12 rfl (sd_iconst dX4_stepInto_13 rfl (sd_inv3 dX4_stepInto_14 rfl mv_X4_topIn na_X4_topIn ml_RX4_60 ⟨⟨Nat.le_of_ble_eq_true rfl, Nat.le_of_ble_eq_true rfl⟩, ⟨Nat.le_of_ble_eq_true rfl, Nat.le_of_ble_eq_true rfl⟩⟩ (sd_istore_n dX4_stepInto_17 rfl (Nat.le_of_ble_eq_true rfl) (Or.inl rfl) (sd_iload_n dX4_stepInto_18 rfl (sd_ifge dX4_stepInto_19 rfl (fun _ _ _ h => h) (sd_iconst dX4_stepInto_22 rfl (sd_goto dX4_stepInto_23 rfl (fun _ _ _ h => h))))))))))))))
def B_X4_stepInto_26 (X : Nat × (Nat → Int32)) (J : Nat → zCf) (R : zRt) : zCf := oPI (zj (1)) (oALOAD 0 (oGETR 4 0 (oILOAD 2 (oINV1 X M_X1_weight 1 (oIADD (J 36))))))
set_option maxRecDepth 100000 in
theorem vb_X4_stepInto_26 {X : Nat × (Nat → Int32)} {R : zRt} : ∀ ls st h, B_X4_stepInto_26 X (zV X M_X4_stepInto (zQm M_X4_stepInto R) 0 0) R ls st h → zV X M_X4_stepInto (zQm M_X4_stepInto R) 0 0 26 ls st h := sd_iconst dX4_stepInto_26 rfl (sd_aload_n dX4_stepInto_27 rfl (sd_getr dX4_stepInto_28 zCl4 (Nat.le_of_ble_eq_true rfl) lk_RX4_14 (Or.inl ⟨_, rfl⟩) (sd_iload_n dX4_stepInto_31 rfl (sd_inv1 dX4_stepInto_32 rfl mv_X1_weight na_X1_weight ml_RX4_126 ⟨⟨Nat.le_of_ble_eq_true rfl, Nat.le_of_ble_eq_true rfl⟩, ⟨Nat.le_of_ble_eq_true rfl, Nat.le_of_ble_eq_true rfl⟩⟩ (sd_iadd dX4_stepInto_35 (fun _ _ _ h => h))))))
def B_X4_stepInto_36 (X : Nat × (Nat → Int32)) (J : Nat → zCf) (R : zRt) : zCf := oIRET R
set_option maxRecDepth 100000 in
theorem vb_X4_stepInto_36 {X : Nat × (Nat → Int32)} {R : zRt} : ∀ ls st h, B_X4_stepInto_36 X (zV X M_X4_stepInto (zQm M_X4_stepInto R) 0 0) R ls st h → zV X M_X4_stepInto (zQm M_X4_stepInto R) 0 0 36 ls st h := sd_iret dX4_stepInto_36 rfl (Nat.le_of_ble_eq_true rfl) (Nat.le_of_ble_eq_true rfl)
theorem dX4_lengthTo_0 : decode cX4_lengthTo 0 = .ok (.iconst 0, 1) := by decide +kernel
theorem dX4_lengthTo_1 : decode cX4_lengthTo 1 = .ok (.istore 4, 2) := by decide +kernel
theorem dX4_lengthTo_3 : decode cX4_lengthTo 3 = .ok (.iload_n 1, 1) := by decide +kernel
theorem dX4_lengthTo_4 : decode cX4_lengthTo 4 = .ok (.istore 5, 2) := by decide +kernel
theorem dX4_lengthTo_6 : decode cX4_lengthTo 6 = .ok (.iconst 0, 1) := by decide +kernel
theorem dX4_lengthTo_7 : decode cX4_lengthTo 7 = .ok (.istore 6, 2) := by decide +kernel
theorem dX4_lengthTo_9 : decode cX4_lengthTo 9 = .ok (.iload 6, 2) := by decide +kernel
theorem dX4_lengthTo_11 : decode cX4_lengthTo 11 = .ok (.bipush 72, 2) := by decide +kernel
theorem dX4_lengthTo_13 : decode cX4_lengthTo 13 = .ok (.if_icmp .ge 34, 3) := by decide +kernel
theorem dX4_lengthTo_16 : decode cX4_lengthTo 16 = .ok (.iload 5, 2) := by decide +kernel
theorem dX4_lengthTo_18 : decode cX4_lengthTo 18 = .ok (.iload_n 2, 1) := by decide +kernel
theorem dX4_lengthTo_19 : decode cX4_lengthTo 19 = .ok (.if_icmp .eq 28, 3) := by decide +kernel
theorem dX4_lengthTo_22 : decode cX4_lengthTo 22 = .ok (.iload 5, 2) := by decide +kernel
theorem dX4_lengthTo_24 : decode cX4_lengthTo 24 = .ok (.iload_n 3, 1) := by decide +kernel
theorem dX4_lengthTo_25 : decode cX4_lengthTo 25 = .ok (.invokestatic 46, 3) := by decide +kernel
theorem dX4_lengthTo_28 : decode cX4_lengthTo 28 = .ok (.istore 5, 2) := by decide +kernel
theorem dX4_lengthTo_30 : decode cX4_lengthTo 30 = .ok (.iload 4, 2) := by decide +kernel
theorem dX4_lengthTo_32 : decode cX4_lengthTo 32 = .ok (.aload_n 0, 1) := by decide +kernel
theorem dX4_lengthTo_33 : decode cX4_lengthTo 33 = .ok (.iload 5, 2) := by decide +kernel
theorem dX4_lengthTo_35 : decode cX4_lengthTo 35 = .ok (.invokevirtual 50, 3) := by decide +kernel
theorem dX4_lengthTo_38 : decode cX4_lengthTo 38 = .ok (.iadd, 1) := by decide +kernel
theorem dX4_lengthTo_39 : decode cX4_lengthTo 39 = .ok (.istore 4, 2) := by decide +kernel
theorem dX4_lengthTo_41 : decode cX4_lengthTo 41 = .ok (.iinc 6 1, 3) := by decide +kernel
theorem dX4_lengthTo_44 : decode cX4_lengthTo 44 = .ok (.goto (-35), 3) := by decide +kernel
theorem dX4_lengthTo_47 : decode cX4_lengthTo 47 = .ok (.iload 4, 2) := by decide +kernel
theorem dX4_lengthTo_49 : decode cX4_lengthTo 49 = .ok (.ireturn, 1) := by decide +kernel
def B_X4_lengthTo_0 (X : Nat × (Nat → Int32)) (J : Nat → zCf) (R : zRt) : zCf := oPI (zj (0)) (oISTORE 3 4 (oILOAD 1 (oISTORE 4 5 (oPI (zj (0)) (oISTORE 5 6 (J 9))))))
set_option maxRecDepth 100000 in
theorem vb_X4_lengthTo_0 {X : Nat × (Nat → Int32)} {R : zRt} : ∀ ls st h, B_X4_lengthTo_0 X (zV X M_X4_lengthTo (zQm M_X4_lengthTo R) 0 0) R ls st h → zV X M_X4_lengthTo (zQm M_X4_lengthTo R) 0 0 0 ls st h := sd_iconst dX4_lengthTo_0 rfl (sd_istore dX4_lengthTo_1 (Nat.le_of_ble_eq_true rfl) (Or.inl rfl) (sd_iload_n dX4_lengthTo_3 rfl (sd_istore dX4_lengthTo_4 (Nat.le_of_ble_eq_true rfl) (Or.inl rfl) (sd_iconst dX4_lengthTo_6 rfl (sd_istore dX4_lengthTo_7 (Nat.le_of_ble_eq_true rfl) (Or.inl rfl) (fun _ _ _ h => h))))))
def B_X4_lengthTo_9 (X : Nat × (Nat → Int32)) (J : Nat → zCf) (R : zRt) : zCf := oILOAD 6 (oPI (zj (72)) (oICGE (J 47) (oILOAD 5 (oILOAD 2 (oICEQ (J 47) (oILOAD 5 (oILOAD 3 (oINS2 X M_X7_spotBeside (oISTORE 4 5 (oILOAD 4 (oALOAD 0 (oILOAD 5 (oINV1 X M_X4_stepInto 4 (oIADD (oISTORE 3 4 (oIINC 5 6 (zj (1)) (J 9)))))))))))))))))
set_option maxRecDepth 100000 in
theorem vb_X4_lengthTo_9 {X : Nat × (Nat → Int32)} {R : zRt} : ∀ ls st h, B_X4_lengthTo_9 X (zV X M_X4_lengthTo (zQm M_X4_lengthTo R) 0 0) R ls st h → zV X M_X4_lengthTo (zQm M_X4_lengthTo R) 0 0 9 ls st h := sd_iload dX4_lengthTo_9 (sd_bipush dX4_lengthTo_11 rfl (sd_icge dX4_lengthTo_13 rfl (fun _ _ _ h => h) (sd_iload dX4_lengthTo_16 (sd_iload_n dX4_lengthTo_18 rfl (sd_iceq dX4_lengthTo_19 rfl (fun _ _ _ h => h) (sd_iload dX4_lengthTo_22 (sd_iload_n dX4_lengthTo_24 rfl (sd_ins2 dX4_lengthTo_25 ms_X7_spotBeside na_X7_spotBeside ml_RX4_46 ⟨⟨Nat.le_of_ble_eq_true rfl, Nat.le_of_ble_eq_true rfl⟩, ⟨Nat.le_of_ble_eq_true rfl, Nat.le_of_ble_eq_true rfl⟩⟩ (sd_istore dX4_lengthTo_28 (Nat.le_of_ble_eq_true rfl) (Or.inl rfl) (sd_iload dX4_lengthTo_30 (sd_aload_n dX4_lengthTo_32 rfl (sd_iload dX4_lengthTo_33 (sd_inv1 dX4_lengthTo_35 rfl mv_X4_stepInto na_X4_stepInto ml_RX4_50 ⟨⟨Nat.le_of_ble_eq_true rfl, Nat.le_of_ble_eq_true rfl⟩, ⟨Nat.le_of_ble_eq_true rfl, Nat.le_of_ble_eq_true rfl⟩⟩ (sd_iadd dX4_lengthTo_38 (sd_istore dX4_lengthTo_39 (Nat.le_of_ble_eq_true rfl) (Or.inl rfl) (sd_iinc dX4_lengthTo_41 rfl (Nat.le_of_ble_eq_true rfl) (Or.inl rfl) (sd_goto dX4_lengthTo_44 rfl (fun _ _ _ h => h))))))))))))))))))
def B_X4_lengthTo_47 (X : Nat × (Nat → Int32)) (J : Nat → zCf) (R : zRt) : zCf := oILOAD 4 (oIRET R)
set_option maxRecDepth 100000 in
theorem vb_X4_lengthTo_47 {X : Nat × (Nat → Int32)} {R : zRt} : ∀ ls st h, B_X4_lengthTo_47 X (zV X M_X4_lengthTo (zQm M_X4_lengthTo R) 0 0) R ls st h → zV X M_X4_lengthTo (zQm M_X4_lengthTo R) 0 0 47 ls st h := sd_iload dX4_lengthTo_47 (sd_iret dX4_lengthTo_49 rfl (Nat.le_of_ble_eq_true rfl) (Nat.le_of_ble_eq_true rfl))
theorem dX4_wayLength_0 : decode cX4_wayLength 0 = .ok (.aload_n 0, 1) := by decide +kernel
theorem dX4_wayLength_1 : decode cX4_wayLength 1 = .ok (.iload_n 1, 1) := by decide +kernel
theorem dX4_wayLength_2 : decode cX4_wayLength 2 = .ok (.iload_n 2, 1) := by decide +kernel
theorem dX4_wayLength_3 : decode cX4_wayLength 3 = .ok (.iconst 1, 1) := by decide +kernel
theorem dX4_wayLength_4 : decode cX4_wayLength 4 = .ok (.invokevirtual 129, 3) := by decide +kernel
theorem dX4_wayLength_7 : decode cX4_wayLength 7 = .ok (.aload_n 0, 1) := by decide +kernel
theorem dX4_wayLength_8 : decode cX4_wayLength 8 = .ok (.iload_n 1, 1) := by decide +kernel
theorem dX4_wayLength_9 : decode cX4_wayLength 9 = .ok (.iload_n 2, 1) := by decide +kernel
theorem dX4_wayLength_10 : decode cX4_wayLength 10 = .ok (.iconst 0, 1) := by decide +kernel
theorem dX4_wayLength_11 : decode cX4_wayLength 11 = .ok (.invokevirtual 129, 3) := by decide +kernel
theorem dX4_wayLength_14 : decode cX4_wayLength 14 = .ok (.invokestatic 133, 3) := by decide +kernel
theorem dX4_wayLength_17 : decode cX4_wayLength 17 = .ok (.ireturn, 1) := by decide +kernel
def B_X4_wayLength_0 (X : Nat × (Nat → Int32)) (J : Nat → zCf) (R : zRt) : zCf := oALOAD 0 (oILOAD 1 (oILOAD 2 (oPI (zj (1)) (oINV3 X M_X4_lengthTo 4 (oALOAD 0 (oILOAD 1 (oILOAD 2 (oPI (zj (0)) (oINV3 X M_X4_lengthTo 4 (oINS2 X M_J9_min_7cf53 (oIRET R)))))))))))
set_option maxRecDepth 100000 in
theorem vb_X4_wayLength_0 {X : Nat × (Nat → Int32)} {R : zRt} : ∀ ls st h, B_X4_wayLength_0 X (zV X M_X4_wayLength (zQm M_X4_wayLength R) 0 0) R ls st h → zV X M_X4_wayLength (zQm M_X4_wayLength R) 0 0 0 ls st h := sd_aload_n dX4_wayLength_0 rfl (sd_iload_n dX4_wayLength_1 rfl (sd_iload_n dX4_wayLength_2 rfl (sd_iconst dX4_wayLength_3 rfl (sd_inv3 dX4_wayLength_4 rfl mv_X4_lengthTo na_X4_lengthTo ml_RX4_129 ⟨⟨Nat.le_of_ble_eq_true rfl, Nat.le_of_ble_eq_true rfl⟩, ⟨Nat.le_of_ble_eq_true rfl, Nat.le_of_ble_eq_true rfl⟩⟩ (sd_aload_n dX4_wayLength_7 rfl (sd_iload_n dX4_wayLength_8 rfl (sd_iload_n dX4_wayLength_9 rfl (sd_iconst dX4_wayLength_10 rfl (sd_inv3 dX4_wayLength_11 rfl mv_X4_lengthTo na_X4_lengthTo ml_RX4_129 ⟨⟨Nat.le_of_ble_eq_true rfl, Nat.le_of_ble_eq_true rfl⟩, ⟨Nat.le_of_ble_eq_true rfl, Nat.le_of_ble_eq_true rfl⟩⟩ (sd_ins2 dX4_wayLength_14 ms_J9_min_7cf53 na_J9_min_7cf53 ml_RX4_133 ⟨⟨Nat.le_of_ble_eq_true rfl, Nat.le_of_ble_eq_true rfl⟩, ⟨Nat.le_of_ble_eq_true rfl, Nat.le_of_ble_eq_true rfl⟩⟩ (sd_iret dX4_wayLength_17 rfl (Nat.le_of_ble_eq_true rfl) (Nat.le_of_ble_eq_true rfl))))))))))))
theorem dX4_goesUp_0 : decode cX4_goesUp 0 = .ok (.iload_n 1, 1) := by decide +kernel
theorem dX4_goesUp_1 : decode cX4_goesUp 1 = .ok (.iload_n 2, 1) := by decide +kernel
theorem dX4_goesUp_2 : decode cX4_goesUp 2 = .ok (.if_icmp .eq 24, 3) := by decide +kernel
theorem dX4_goesUp_5 : decode cX4_goesUp 5 = .ok (.aload_n 0, 1) := by decide +kernel
theorem dX4_goesUp_6 : decode cX4_goesUp 6 = .ok (.iload_n 1, 1) := by decide +kernel
theorem dX4_goesUp_7 : decode cX4_goesUp 7 = .ok (.iload_n 2, 1) := by decide +kernel
theorem dX4_goesUp_8 : decode cX4_goesUp 8 = .ok (.iconst 1, 1) := by decide +kernel
theorem dX4_goesUp_9 : decode cX4_goesUp 9 = .ok (.invokevirtual 129, 3) := by decide +kernel
theorem dX4_goesUp_12 : decode cX4_goesUp 12 = .ok (.aload_n 0, 1) := by decide +kernel
theorem dX4_goesUp_13 : decode cX4_goesUp 13 = .ok (.iload_n 1, 1) := by decide +kernel
theorem dX4_goesUp_14 : decode cX4_goesUp 14 = .ok (.iload_n 2, 1) := by decide +kernel
theorem dX4_goesUp_15 : decode cX4_goesUp 15 = .ok (.iconst 0, 1) := by decide +kernel
theorem dX4_goesUp_16 : decode cX4_goesUp 16 = .ok (.invokevirtual 129, 3) := by decide +kernel
theorem dX4_goesUp_19 : decode cX4_goesUp 19 = .ok (.if_icmp .gt 7, 3) := by decide +kernel
theorem dX4_goesUp_22 : decode cX4_goesUp 22 = .ok (.iconst 1, 1) := by decide +kernel
theorem dX4_goesUp_23 : decode cX4_goesUp 23 = .ok (.goto 4, 3) := by decide +kernel
theorem dX4_goesUp_26 : decode cX4_goesUp 26 = .ok (.iconst 0, 1) := by decide +kernel
theorem dX4_goesUp_27 : decode cX4_goesUp 27 = .ok (.ireturn, 1) := by decide +kernel
def B_X4_goesUp_0 (X : Nat × (Nat → Int32)) (J : Nat → zCf) (R : zRt) : zCf := oILOAD 1 (oILOAD 2 (oICEQ (J 26) (oALOAD 0 (oILOAD 1 (oILOAD 2 (oPI (zj (1)) (oINV3 X M_X4_lengthTo 4 (oALOAD 0 (oILOAD 1 (oILOAD 2 (oPI (zj (0)) (oINV3 X M_X4_lengthTo 4 (oICGT (J 26) (oPI (zj (1)) (J 27)))))))))))))))
set_option maxRecDepth 100000 in
theorem vb_X4_goesUp_0 {X : Nat × (Nat → Int32)} {R : zRt} : ∀ ls st h, B_X4_goesUp_0 X (zV X M_X4_goesUp (zQm M_X4_goesUp R) 0 0) R ls st h → zV X M_X4_goesUp (zQm M_X4_goesUp R) 0 0 0 ls st h := sd_iload_n dX4_goesUp_0 rfl (sd_iload_n dX4_goesUp_1 rfl (sd_iceq dX4_goesUp_2 rfl (fun _ _ _ h => h) (sd_aload_n dX4_goesUp_5 rfl (sd_iload_n dX4_goesUp_6 rfl (sd_iload_n dX4_goesUp_7 rfl (sd_iconst dX4_goesUp_8 rfl (sd_inv3 dX4_goesUp_9 rfl mv_X4_lengthTo na_X4_lengthTo ml_RX4_129 ⟨⟨Nat.le_of_ble_eq_true rfl, Nat.le_of_ble_eq_true rfl⟩, ⟨Nat.le_of_ble_eq_true rfl, Nat.le_of_ble_eq_true rfl⟩⟩ (sd_aload_n dX4_goesUp_12 rfl (sd_iload_n dX4_goesUp_13 rfl (sd_iload_n dX4_goesUp_14 rfl (sd_iconst dX4_goesUp_15 rfl (sd_inv3 dX4_goesUp_16 rfl mv_X4_lengthTo na_X4_lengthTo ml_RX4_129 ⟨⟨Nat.le_of_ble_eq_true rfl, Nat.le_of_ble_eq_true rfl⟩, ⟨Nat.le_of_ble_eq_true rfl, Nat.le_of_ble_eq_true rfl⟩⟩ (sd_icgt dX4_goesUp_19 rfl (fun _ _ _ h => h) (sd_iconst dX4_goesUp_22 rfl (sd_goto dX4_goesUp_23 rfl (fun _ _ _ h => h))))))))))))))))
def B_X4_goesUp_26 (X : Nat × (Nat → Int32)) (J : Nat → zCf) (R : zRt) : zCf := oPI (zj (0)) (J 27)
set_option maxRecDepth 100000 in
theorem vb_X4_goesUp_26 {X : Nat × (Nat → Int32)} {R : zRt} : ∀ ls st h, B_X4_goesUp_26 X (zV X M_X4_goesUp (zQm M_X4_goesUp R) 0 0) R ls st h → zV X M_X4_goesUp (zQm M_X4_goesUp R) 0 0 26 ls st h := sd_iconst dX4_goesUp_26 rfl (fun _ _ _ h => h)
def B_X4_goesUp_27 (X : Nat × (Nat → Int32)) (J : Nat → zCf) (R : zRt) : zCf := oZRET R
set_option maxRecDepth 100000 in
theorem vb_X4_goesUp_27 {X : Nat × (Nat → Int32)} {R : zRt} : ∀ ls st h, B_X4_goesUp_27 X (zV X M_X4_goesUp (zQm M_X4_goesUp R) 0 0) R ls st h → zV X M_X4_goesUp (zQm M_X4_goesUp R) 0 0 27 ls st h := sd_zret dX4_goesUp_27 rfl (Nat.le_of_ble_eq_true rfl) (Nat.le_of_ble_eq_true rfl)
theorem dX4_nearestLength_0 : decode cX4_nearestLength 0 = .ok (.aload_n 0, 1) := by decide +kernel
theorem dX4_nearestLength_1 : decode cX4_nearestLength 1 = .ok (.iload_n 2, 1) := by decide +kernel
theorem dX4_nearestLength_2 : decode cX4_nearestLength 2 = .ok (.iconst 0, 1) := by decide +kernel
theorem dX4_nearestLength_3 : decode cX4_nearestLength 3 = .ok (.iconst 0, 1) := by decide +kernel
theorem dX4_nearestLength_4 : decode cX4_nearestLength 4 = .ok (.invokevirtual 75, 3) := by decide +kernel
theorem dX4_nearestLength_7 : decode cX4_nearestLength 7 = .ok (.ifCond .ne 6, 3) := by decide +kernel
theorem dX4_nearestLength_10 : decode cX4_nearestLength 10 = .ok (.bipush (-2), 2) := by decide +kernel
theorem dX4_nearestLength_12 : decode cX4_nearestLength 12 = .ok (.ireturn, 1) := by decide +kernel
theorem dX4_nearestLength_13 : decode cX4_nearestLength 13 = .ok (.bipush (-2), 2) := by decide +kernel
theorem dX4_nearestLength_15 : decode cX4_nearestLength 15 = .ok (.istore_n 3, 1) := by decide +kernel
theorem dX4_nearestLength_16 : decode cX4_nearestLength 16 = .ok (.iconst 0, 1) := by decide +kernel
theorem dX4_nearestLength_17 : decode cX4_nearestLength 17 = .ok (.istore 4, 2) := by decide +kernel
theorem dX4_nearestLength_19 : decode cX4_nearestLength 19 = .ok (.iload 4, 2) := by decide +kernel
theorem dX4_nearestLength_21 : decode cX4_nearestLength 21 = .ok (.bipush 6, 2) := by decide +kernel
theorem dX4_nearestLength_23 : decode cX4_nearestLength 23 = .ok (.if_icmp .ge 52, 3) := by decide +kernel
theorem dX4_nearestLength_26 : decode cX4_nearestLength 26 = .ok (.iload 4, 2) := by decide +kernel
theorem dX4_nearestLength_28 : decode cX4_nearestLength 28 = .ok (.aload_n 0, 1) := by decide +kernel
theorem dX4_nearestLength_29 : decode cX4_nearestLength 29 = .ok (.iload_n 2, 1) := by decide +kernel
theorem dX4_nearestLength_30 : decode cX4_nearestLength 30 = .ok (.iconst 0, 1) := by decide +kernel
theorem dX4_nearestLength_31 : decode cX4_nearestLength 31 = .ok (.iconst 0, 1) := by decide +kernel
theorem dX4_nearestLength_32 : decode cX4_nearestLength 32 = .ok (.invokevirtual 39, 3) := by decide +kernel
theorem dX4_nearestLength_35 : decode cX4_nearestLength 35 = .ok (.invokestatic 136, 3) := by decide +kernel
theorem dX4_nearestLength_38 : decode cX4_nearestLength 38 = .ok (.istore 5, 2) := by decide +kernel
theorem dX4_nearestLength_40 : decode cX4_nearestLength 40 = .ok (.aload_n 0, 1) := by decide +kernel
theorem dX4_nearestLength_41 : decode cX4_nearestLength 41 = .ok (.iload_n 1, 1) := by decide +kernel
theorem dX4_nearestLength_42 : decode cX4_nearestLength 42 = .ok (.iload 4, 2) := by decide +kernel
theorem dX4_nearestLength_44 : decode cX4_nearestLength 44 = .ok (.iload 5, 2) := by decide +kernel
theorem dX4_nearestLength_46 : decode cX4_nearestLength 46 = .ok (.invokestatic 139, 3) := by decide +kernel
theorem dX4_nearestLength_49 : decode cX4_nearestLength 49 = .ok (.invokevirtual 142, 3) := by decide +kernel
theorem dX4_nearestLength_52 : decode cX4_nearestLength 52 = .ok (.istore 6, 2) := by decide +kernel
theorem dX4_nearestLength_54 : decode cX4_nearestLength 54 = .ok (.iload_n 3, 1) := by decide +kernel
theorem dX4_nearestLength_55 : decode cX4_nearestLength 55 = .ok (.bipush (-2), 2) := by decide +kernel
theorem dX4_nearestLength_57 : decode cX4_nearestLength 57 = .ok (.if_icmp .eq 9, 3) := by decide +kernel
theorem dX4_nearestLength_60 : decode cX4_nearestLength 60 = .ok (.iload 6, 2) := by decide +kernel
theorem dX4_nearestLength_62 : decode cX4_nearestLength 62 = .ok (.iload_n 3, 1) := by decide +kernel
theorem dX4_nearestLength_63 : decode cX4_nearestLength 63 = .ok (.if_icmp .ge 6, 3) := by decide +kernel
theorem dX4_nearestLength_66 : decode cX4_nearestLength 66 = .ok (.iload 6, 2) := by decide +kernel
theorem dX4_nearestLength_68 : decode cX4_nearestLength 68 = .ok (.istore_n 3, 1) := by decide +kernel
theorem dX4_nearestLength_69 : decode cX4_nearestLength 69 = .ok (.iinc 4 1, 3) := by decide +kernel
theorem dX4_nearestLength_72 : decode cX4_nearestLength 72 = .ok (.goto (-53), 3) := by decide +kernel
theorem dX4_nearestLength_75 : decode cX4_nearestLength 75 = .ok (.iload_n 3, 1) := by decide +kernel
theorem dX4_nearestLength_76 : decode cX4_nearestLength 76 = .ok (.ireturn, 1) := by decide +kernel
def B_X4_nearestLength_0 (X : Nat × (Nat → Int32)) (J : Nat → zCf) (R : zRt) : zCf := oALOAD 0 (oILOAD 2 (oPI (zj (0)) (oPI (zj (0)) (oINV3 X M_X4_isTop 4 (oIFNE (J 13) (oPI (zj (-2)) (oIRET R)))))))
set_option maxRecDepth 100000 in
theorem vb_X4_nearestLength_0 {X : Nat × (Nat → Int32)} {R : zRt} : ∀ ls st h, B_X4_nearestLength_0 X (zV X M_X4_nearestLength (zQm M_X4_nearestLength R) 0 0) R ls st h → zV X M_X4_nearestLength (zQm M_X4_nearestLength R) 0 0 0 ls st h := sd_aload_n dX4_nearestLength_0 rfl (sd_iload_n dX4_nearestLength_1 rfl (sd_iconst dX4_nearestLength_2 rfl (sd_iconst dX4_nearestLength_3 rfl (sd_inv3 dX4_nearestLength_4 rfl mv_X4_isTop na_X4_isTop ml_RX4_75 ⟨⟨Nat.le_of_ble_eq_true rfl, Nat.le_of_ble_eq_true rfl⟩, ⟨Nat.le_of_ble_eq_true rfl, Nat.le_of_ble_eq_true rfl⟩⟩ (sd_ifne dX4_nearestLength_7 rfl (fun _ _ _ h => h) (sd_bipush dX4_nearestLength_10 rfl (sd_iret dX4_nearestLength_12 rfl (Nat.le_of_ble_eq_true rfl) (Nat.le_of_ble_eq_true rfl))))))))
def B_X4_nearestLength_13 (X : Nat × (Nat → Int32)) (J : Nat → zCf) (R : zRt) : zCf := oPI (zj (-2)) (oISTORE 2 3 (oPI (zj (0)) (oISTORE 3 4 (J 19))))
set_option maxRecDepth 100000 in
theorem vb_X4_nearestLength_13 {X : Nat × (Nat → Int32)} {R : zRt} : ∀ ls st h, B_X4_nearestLength_13 X (zV X M_X4_nearestLength (zQm M_X4_nearestLength R) 0 0) R ls st h → zV X M_X4_nearestLength (zQm M_X4_nearestLength R) 0 0 13 ls st h := sd_bipush dX4_nearestLength_13 rfl (sd_istore_n dX4_nearestLength_15 rfl (Nat.le_of_ble_eq_true rfl) (Or.inl rfl) (sd_iconst dX4_nearestLength_16 rfl (sd_istore dX4_nearestLength_17 (Nat.le_of_ble_eq_true rfl) (Or.inl rfl) (fun _ _ _ h => h))))
def B_X4_nearestLength_19 (X : Nat × (Nat → Int32)) (J : Nat → zCf) (R : zRt) : zCf := oILOAD 4 (oPI (zj (6)) (oICGE (J 75) (oILOAD 4 (oALOAD 0 (oILOAD 2 (oPI (zj (0)) (oPI (zj (0)) (oINV3 X M_X4_cellBehind 4 (oINS2 X M_X7_mirroredCell (oISTORE 4 5 (oALOAD 0 (oILOAD 1 (oILOAD 4 (oILOAD 5 (oINS2 X M_X7_spotAt (oINV2 X M_X4_wayLength 4 (oISTORE 5 6 (oILOAD 3 (oPI (zj (-2)) (oICEQ (J 66) (oILOAD 6 (oILOAD 3 (oICGE (J 69) (J 66))))))))))))))))))))))))
set_option maxRecDepth 100000 in
theorem vb_X4_nearestLength_19 {X : Nat × (Nat → Int32)} {R : zRt} : ∀ ls st h, B_X4_nearestLength_19 X (zV X M_X4_nearestLength (zQm M_X4_nearestLength R) 0 0) R ls st h → zV X M_X4_nearestLength (zQm M_X4_nearestLength R) 0 0 19 ls st h := sd_iload dX4_nearestLength_19 (sd_bipush dX4_nearestLength_21 rfl (sd_icge dX4_nearestLength_23 rfl (fun _ _ _ h => h) (sd_iload dX4_nearestLength_26 (sd_aload_n dX4_nearestLength_28 rfl (sd_iload_n dX4_nearestLength_29 rfl (sd_iconst dX4_nearestLength_30 rfl (sd_iconst dX4_nearestLength_31 rfl (sd_inv3 dX4_nearestLength_32 rfl mv_X4_cellBehind na_X4_cellBehind ml_RX4_39 ⟨⟨Nat.le_of_ble_eq_true rfl, Nat.le_of_ble_eq_true rfl⟩, ⟨Nat.le_of_ble_eq_true rfl, Nat.le_of_ble_eq_true rfl⟩⟩ (sd_ins2 dX4_nearestLength_35 ms_X7_mirroredCell na_X7_mirroredCell ml_RX4_136 ⟨⟨Nat.le_of_ble_eq_true rfl, Nat.le_of_ble_eq_true rfl⟩, ⟨Nat.le_of_ble_eq_true rfl, Nat.le_of_ble_eq_true rfl⟩⟩ (sd_istore dX4_nearestLength_38 (Nat.le_of_ble_eq_true rfl) (Or.inl rfl) (sd_aload_n dX4_nearestLength_40 rfl (sd_iload_n dX4_nearestLength_41 rfl (sd_iload dX4_nearestLength_42 (sd_iload dX4_nearestLength_44 (sd_ins2 dX4_nearestLength_46 ms_X7_spotAt na_X7_spotAt ml_RX4_139 ⟨⟨Nat.le_of_ble_eq_true rfl, Nat.le_of_ble_eq_true rfl⟩, ⟨Nat.le_of_ble_eq_true rfl, Nat.le_of_ble_eq_true rfl⟩⟩ (sd_inv2 dX4_nearestLength_49 rfl mv_X4_wayLength na_X4_wayLength ml_RX4_142 ⟨⟨Nat.le_of_ble_eq_true rfl, Nat.le_of_ble_eq_true rfl⟩, ⟨Nat.le_of_ble_eq_true rfl, Nat.le_of_ble_eq_true rfl⟩⟩ (sd_istore dX4_nearestLength_52 (Nat.le_of_ble_eq_true rfl) (Or.inl rfl) (sd_iload_n dX4_nearestLength_54 rfl (sd_bipush dX4_nearestLength_55 rfl (sd_iceq dX4_nearestLength_57 rfl (fun _ _ _ h => h) (sd_iload dX4_nearestLength_60 (sd_iload_n dX4_nearestLength_62 rfl (sd_icge dX4_nearestLength_63 rfl (fun _ _ _ h => h) (fun _ _ _ h => h))))))))))))))))))))))))
def B_X4_nearestLength_66 (X : Nat × (Nat → Int32)) (J : Nat → zCf) (R : zRt) : zCf := oILOAD 6 (oISTORE 2 3 (J 69))
set_option maxRecDepth 100000 in
theorem vb_X4_nearestLength_66 {X : Nat × (Nat → Int32)} {R : zRt} : ∀ ls st h, B_X4_nearestLength_66 X (zV X M_X4_nearestLength (zQm M_X4_nearestLength R) 0 0) R ls st h → zV X M_X4_nearestLength (zQm M_X4_nearestLength R) 0 0 66 ls st h := sd_iload dX4_nearestLength_66 (sd_istore_n dX4_nearestLength_68 rfl (Nat.le_of_ble_eq_true rfl) (Or.inl rfl) (fun _ _ _ h => h))
def B_X4_nearestLength_69 (X : Nat × (Nat → Int32)) (J : Nat → zCf) (R : zRt) : zCf := oIINC 3 4 (zj (1)) (J 19)
set_option maxRecDepth 100000 in
theorem vb_X4_nearestLength_69 {X : Nat × (Nat → Int32)} {R : zRt} : ∀ ls st h, B_X4_nearestLength_69 X (zV X M_X4_nearestLength (zQm M_X4_nearestLength R) 0 0) R ls st h → zV X M_X4_nearestLength (zQm M_X4_nearestLength R) 0 0 69 ls st h := sd_iinc dX4_nearestLength_69 rfl (Nat.le_of_ble_eq_true rfl) (Or.inl rfl) (sd_goto dX4_nearestLength_72 rfl (fun _ _ _ h => h))
def B_X4_nearestLength_75 (X : Nat × (Nat → Int32)) (J : Nat → zCf) (R : zRt) : zCf := oILOAD 3 (oIRET R)
set_option maxRecDepth 100000 in
theorem vb_X4_nearestLength_75 {X : Nat × (Nat → Int32)} {R : zRt} : ∀ ls st h, B_X4_nearestLength_75 X (zV X M_X4_nearestLength (zQm M_X4_nearestLength R) 0 0) R ls st h → zV X M_X4_nearestLength (zQm M_X4_nearestLength R) 0 0 75 ls st h := sd_iload_n dX4_nearestLength_75 rfl (sd_iret dX4_nearestLength_76 rfl (Nat.le_of_ble_eq_true rfl) (Nat.le_of_ble_eq_true rfl))
theorem dX4_farthestCountry_0 : decode cX4_farthestCountry 0 = .ok (.iconst 0, 1) := by decide +kernel
theorem dX4_farthestCountry_1 : decode cX4_farthestCountry 1 = .ok (.istore_n 2, 1) := by decide +kernel
theorem dX4_farthestCountry_2 : decode cX4_farthestCountry 2 = .ok (.iconst (-1), 1) := by decide +kernel
theorem dX4_farthestCountry_3 : decode cX4_farthestCountry 3 = .ok (.istore_n 3, 1) := by decide +kernel
theorem dX4_farthestCountry_4 : decode cX4_farthestCountry 4 = .ok (.iconst 0, 1) := by decide +kernel
theorem dX4_farthestCountry_5 : decode cX4_farthestCountry 5 = .ok (.istore 4, 2) := by decide +kernel
theorem dX4_farthestCountry_7 : decode cX4_farthestCountry 7 = .ok (.iload 4, 2) := by decide +kernel
theorem dX4_farthestCountry_9 : decode cX4_farthestCountry 9 = .ok (.bipush 6, 2) := by decide +kernel
theorem dX4_farthestCountry_11 : decode cX4_farthestCountry 11 = .ok (.if_icmp .ge 34, 3) := by decide +kernel
theorem dX4_farthestCountry_14 : decode cX4_farthestCountry 14 = .ok (.aload_n 0, 1) := by decide +kernel
theorem dX4_farthestCountry_15 : decode cX4_farthestCountry 15 = .ok (.iload_n 1, 1) := by decide +kernel
theorem dX4_farthestCountry_16 : decode cX4_farthestCountry 16 = .ok (.iload 4, 2) := by decide +kernel
theorem dX4_farthestCountry_18 : decode cX4_farthestCountry 18 = .ok (.iconst 0, 1) := by decide +kernel
theorem dX4_farthestCountry_19 : decode cX4_farthestCountry 19 = .ok (.invokestatic 139, 3) := by decide +kernel
theorem dX4_farthestCountry_22 : decode cX4_farthestCountry 22 = .ok (.invokevirtual 142, 3) := by decide +kernel
theorem dX4_farthestCountry_25 : decode cX4_farthestCountry 25 = .ok (.istore 5, 2) := by decide +kernel
theorem dX4_farthestCountry_27 : decode cX4_farthestCountry 27 = .ok (.iload 5, 2) := by decide +kernel
theorem dX4_farthestCountry_29 : decode cX4_farthestCountry 29 = .ok (.iload_n 3, 1) := by decide +kernel
theorem dX4_farthestCountry_30 : decode cX4_farthestCountry 30 = .ok (.if_icmp .le 9, 3) := by decide +kernel
theorem dX4_farthestCountry_33 : decode cX4_farthestCountry 33 = .ok (.iload 5, 2) := by decide +kernel
theorem dX4_farthestCountry_35 : decode cX4_farthestCountry 35 = .ok (.istore_n 3, 1) := by decide +kernel
theorem dX4_farthestCountry_36 : decode cX4_farthestCountry 36 = .ok (.iload 4, 2) := by decide +kernel
theorem dX4_farthestCountry_38 : decode cX4_farthestCountry 38 = .ok (.istore_n 2, 1) := by decide +kernel
theorem dX4_farthestCountry_39 : decode cX4_farthestCountry 39 = .ok (.iinc 4 1, 3) := by decide +kernel
theorem dX4_farthestCountry_42 : decode cX4_farthestCountry 42 = .ok (.goto (-35), 3) := by decide +kernel
theorem dX4_farthestCountry_45 : decode cX4_farthestCountry 45 = .ok (.iload_n 2, 1) := by decide +kernel
theorem dX4_farthestCountry_46 : decode cX4_farthestCountry 46 = .ok (.ireturn, 1) := by decide +kernel
def B_X4_farthestCountry_0 (X : Nat × (Nat → Int32)) (J : Nat → zCf) (R : zRt) : zCf := oPI (zj (0)) (oISTORE 1 2 (oPI (zj (-1)) (oISTORE 2 3 (oPI (zj (0)) (oISTORE 3 4 (J 7))))))
set_option maxRecDepth 100000 in
theorem vb_X4_farthestCountry_0 {X : Nat × (Nat → Int32)} {R : zRt} : ∀ ls st h, B_X4_farthestCountry_0 X (zV X M_X4_farthestCountry (zQm M_X4_farthestCountry R) 0 0) R ls st h → zV X M_X4_farthestCountry (zQm M_X4_farthestCountry R) 0 0 0 ls st h := sd_iconst dX4_farthestCountry_0 rfl (sd_istore_n dX4_farthestCountry_1 rfl (Nat.le_of_ble_eq_true rfl) (Or.inl rfl) (sd_iconst dX4_farthestCountry_2 rfl (sd_istore_n dX4_farthestCountry_3 rfl (Nat.le_of_ble_eq_true rfl) (Or.inl rfl) (sd_iconst dX4_farthestCountry_4 rfl (sd_istore dX4_farthestCountry_5 (Nat.le_of_ble_eq_true rfl) (Or.inl rfl) (fun _ _ _ h => h))))))
def B_X4_farthestCountry_7 (X : Nat × (Nat → Int32)) (J : Nat → zCf) (R : zRt) : zCf := oILOAD 4 (oPI (zj (6)) (oICGE (J 45) (oALOAD 0 (oILOAD 1 (oILOAD 4 (oPI (zj (0)) (oINS2 X M_X7_spotAt (oINV2 X M_X4_wayLength 4 (oISTORE 4 5 (oILOAD 5 (oILOAD 3 (oICLE (J 39) (oILOAD 5 (oISTORE 2 3 (oILOAD 4 (oISTORE 1 2 (J 39)))))))))))))))))
set_option maxRecDepth 100000 in
theorem vb_X4_farthestCountry_7 {X : Nat × (Nat → Int32)} {R : zRt} : ∀ ls st h, B_X4_farthestCountry_7 X (zV X M_X4_farthestCountry (zQm M_X4_farthestCountry R) 0 0) R ls st h → zV X M_X4_farthestCountry (zQm M_X4_farthestCountry R) 0 0 7 ls st h := sd_iload dX4_farthestCountry_7 (sd_bipush dX4_farthestCountry_9 rfl (sd_icge dX4_farthestCountry_11 rfl (fun _ _ _ h => h) (sd_aload_n dX4_farthestCountry_14 rfl (sd_iload_n dX4_farthestCountry_15 rfl (sd_iload dX4_farthestCountry_16 (sd_iconst dX4_farthestCountry_18 rfl (sd_ins2 dX4_farthestCountry_19 ms_X7_spotAt na_X7_spotAt ml_RX4_139 ⟨⟨Nat.le_of_ble_eq_true rfl, Nat.le_of_ble_eq_true rfl⟩, ⟨Nat.le_of_ble_eq_true rfl, Nat.le_of_ble_eq_true rfl⟩⟩ (sd_inv2 dX4_farthestCountry_22 rfl mv_X4_wayLength na_X4_wayLength ml_RX4_142 ⟨⟨Nat.le_of_ble_eq_true rfl, Nat.le_of_ble_eq_true rfl⟩, ⟨Nat.le_of_ble_eq_true rfl, Nat.le_of_ble_eq_true rfl⟩⟩ (sd_istore dX4_farthestCountry_25 (Nat.le_of_ble_eq_true rfl) (Or.inl rfl) (sd_iload dX4_farthestCountry_27 (sd_iload_n dX4_farthestCountry_29 rfl (sd_icle dX4_farthestCountry_30 rfl (fun _ _ _ h => h) (sd_iload dX4_farthestCountry_33 (sd_istore_n dX4_farthestCountry_35 rfl (Nat.le_of_ble_eq_true rfl) (Or.inl rfl) (sd_iload dX4_farthestCountry_36 (sd_istore_n dX4_farthestCountry_38 rfl (Nat.le_of_ble_eq_true rfl) (Or.inl rfl) (fun _ _ _ h => h)))))))))))))))))
def B_X4_farthestCountry_39 (X : Nat × (Nat → Int32)) (J : Nat → zCf) (R : zRt) : zCf := oIINC 3 4 (zj (1)) (J 7)
set_option maxRecDepth 100000 in
theorem vb_X4_farthestCountry_39 {X : Nat × (Nat → Int32)} {R : zRt} : ∀ ls st h, B_X4_farthestCountry_39 X (zV X M_X4_farthestCountry (zQm M_X4_farthestCountry R) 0 0) R ls st h → zV X M_X4_farthestCountry (zQm M_X4_farthestCountry R) 0 0 39 ls st h := sd_iinc dX4_farthestCountry_39 rfl (Nat.le_of_ble_eq_true rfl) (Or.inl rfl) (sd_goto dX4_farthestCountry_42 rfl (fun _ _ _ h => h))
def B_X4_farthestCountry_45 (X : Nat × (Nat → Int32)) (J : Nat → zCf) (R : zRt) : zCf := oILOAD 2 (oIRET R)
set_option maxRecDepth 100000 in
theorem vb_X4_farthestCountry_45 {X : Nat × (Nat → Int32)} {R : zRt} : ∀ ls st h, B_X4_farthestCountry_45 X (zV X M_X4_farthestCountry (zQm M_X4_farthestCountry R) 0 0) R ls st h → zV X M_X4_farthestCountry (zQm M_X4_farthestCountry R) 0 0 45 ls st h := sd_iload_n dX4_farthestCountry_45 rfl (sd_iret dX4_farthestCountry_46 rfl (Nat.le_of_ble_eq_true rfl) (Nat.le_of_ble_eq_true rfl))
