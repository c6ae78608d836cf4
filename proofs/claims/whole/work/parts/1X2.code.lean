theorem dX2_init_0 : decode cX2_init 0 = .ok (.aload_n 0, 1) := by decide +kernel
theorem dX2_init_1 : decode cX2_init 1 = .ok (.invokespecial 3, 3) := by decide +kernel
theorem dX2_init_4 : decode cX2_init 4 = .ok (.aload_n 0, 1) := by decide +kernel
theorem dX2_init_5 : decode cX2_init 5 = .ok (.new 9, 3) := by decide +kernel
theorem dX2_init_8 : decode cX2_init 8 = .ok (.dup, 1) := by decide +kernel
theorem dX2_init_9 : decode cX2_init 9 = .ok (.invokespecial 11, 3) := by decide +kernel
theorem dX2_init_12 : decode cX2_init 12 = .ok (.putfield 12, 3) := by decide +kernel
theorem dX2_init_15 : decode cX2_init 15 = .ok (.aload_n 0, 1) := by decide +kernel
theorem dX2_init_16 : decode cX2_init 16 = .ok (.new 18, 3) := by decide +kernel
theorem dX2_init_19 : decode cX2_init 19 = .ok (.dup, 1) := by decide +kernel
theorem dX2_init_20 : decode cX2_init 20 = .ok (.invokespecial 20, 3) := by decide +kernel
theorem dX2_init_23 : decode cX2_init 23 = .ok (.putfield 21, 3) := by decide +kernel
theorem dX2_init_26 : decode cX2_init 26 = .ok (.return_, 1) := by decide +kernel
def B_X2_init_0 (X : Nat × (Nat → Int32)) (J : Nat → zCf) (R : zRt) : zCf := oALOAD 0 (oOBJ (oALOAD 0 (oNEW 6 (oDUP (oINI X M_X6_init (oPUTR 2 0 (oALOAD 0 (oNEW 1 (oDUP (oINI X M_X1_init (oPUTR 2 1 (oVRET R))))))))))))
set_option maxRecDepth 100000 in
theorem vb_X2_init_0 {X : Nat × (Nat → Int32)} {R : zRt} : ∀ ls st h, B_X2_init_0 X (fun t => zV X M_X2_init (zQm M_X2_init R) (if t ≤ 20 then 0 else 14) (if t ≤ 20 then 0 else 888) t) R ls st h → zV X M_X2_init (zQm M_X2_init R) 0 0 0 ls st h := sd_aload_n dX2_init_0 rfl (sd_obj dX2_init_1 (zmt (zt1 (i := 35) rfl) rfl) (zmt (zt1 (i := 28) rfl) rfl) (zmt (zt1 (i := 29) rfl) rfl) (Nat.le_of_ble_eq_true rfl) (Nat.le_of_ble_eq_true rfl) (sd_aload_n dX2_init_4 rfl (sd_new dX2_init_5 zCl6 (by decide) (zmt (zt1 (i := 36) rfl) rfl) (zmt (zt1 (i := 37) rfl) rfl) (zmt (zt1 (i := 3) rfl) rfl) (Nat.le_of_ble_eq_true rfl) (Nat.le_of_ble_eq_true rfl) (sd_dup dX2_init_8 (sd_ini dX2_init_9 mi_X6_init na_X6_init ml_RX2_11 ⟨⟨Nat.le_of_ble_eq_true rfl, Nat.le_of_ble_eq_true rfl⟩, ⟨Nat.le_of_ble_eq_true rfl, Nat.le_of_ble_eq_true rfl⟩⟩ (sd_putr dX2_init_12 zCl2 (Nat.le_of_ble_eq_true rfl) lk_RX2_12 (Or.inl ⟨_, rfl⟩) (Or.inr ⟨rfl, rfl, rfl, (zmt (zt1 (i := 156) rfl) rfl)⟩) (sd_aload_n dX2_init_15 rfl (sd_new dX2_init_16 zCl1 (by decide) (zmt (zt1 (i := 73) rfl) rfl) (zmt (zt1 (i := 74) rfl) rfl) (zmt (zt1 (i := 4) rfl) rfl) (Nat.le_of_ble_eq_true rfl) (Nat.le_of_ble_eq_true rfl) (sd_dup dX2_init_19 (sd_ini dX2_init_20 mi_X1_init na_X1_init ml_RX2_20 ⟨⟨Nat.le_of_ble_eq_true rfl, Nat.le_of_ble_eq_true rfl⟩, ⟨Nat.le_of_ble_eq_true rfl, Nat.le_of_ble_eq_true rfl⟩⟩ (sd_putr dX2_init_23 zCl2 (Nat.le_of_ble_eq_true rfl) lk_RX2_21 (Or.inl ⟨_, rfl⟩) (Or.inl rfl) (sd_vret dX2_init_26 rfl (Nat.le_of_ble_eq_true rfl) (Nat.le_of_ble_eq_true rfl)))))))))))))
theorem dX2_reads_0 : decode cX2_reads 0 = .ok (.aload_n 0, 1) := by decide +kernel
theorem dX2_reads_1 : decode cX2_reads 1 = .ok (.getfield 12, 3) := by decide +kernel
theorem dX2_reads_4 : decode cX2_reads 4 = .ok (.iload_n 1, 1) := by decide +kernel
theorem dX2_reads_5 : decode cX2_reads 5 = .ok (.invokevirtual 25, 3) := by decide +kernel
theorem dX2_reads_8 : decode cX2_reads 8 = .ok (.aload_n 0, 1) := by decide +kernel
theorem dX2_reads_9 : decode cX2_reads 9 = .ok (.getfield 21, 3) := by decide +kernel
theorem dX2_reads_12 : decode cX2_reads 12 = .ok (.invokevirtual 29, 3) := by decide +kernel
theorem dX2_reads_15 : decode cX2_reads 15 = .ok (.aload_n 0, 1) := by decide +kernel
theorem dX2_reads_16 : decode cX2_reads 16 = .ok (.iconst 0, 1) := by decide +kernel
theorem dX2_reads_17 : decode cX2_reads 17 = .ok (.putfield 32, 3) := by decide +kernel
theorem dX2_reads_20 : decode cX2_reads 20 = .ok (.aload_n 0, 1) := by decide +kernel
theorem dX2_reads_21 : decode cX2_reads 21 = .ok (.iconst 0, 1) := by decide +kernel
theorem dX2_reads_22 : decode cX2_reads 22 = .ok (.putfield 36, 3) := by decide +kernel
theorem dX2_reads_25 : decode cX2_reads 25 = .ok (.iconst 0, 1) := by decide +kernel
theorem dX2_reads_26 : decode cX2_reads 26 = .ok (.istore_n 2, 1) := by decide +kernel
theorem dX2_reads_27 : decode cX2_reads 27 = .ok (.iload_n 2, 1) := by decide +kernel
theorem dX2_reads_28 : decode cX2_reads 28 = .ok (.sipush 800, 3) := by decide +kernel
theorem dX2_reads_31 : decode cX2_reads 31 = .ok (.if_icmp .gt 77, 3) := by decide +kernel
theorem dX2_reads_34 : decode cX2_reads 34 = .ok (.aload_n 0, 1) := by decide +kernel
theorem dX2_reads_35 : decode cX2_reads 35 = .ok (.invokevirtual 40, 3) := by decide +kernel
theorem dX2_reads_38 : decode cX2_reads 38 = .ok (.ifCond .ne 5, 3) := by decide +kernel
theorem dX2_reads_41 : decode cX2_reads 41 = .ok (.iconst 0, 1) := by decide +kernel
theorem dX2_reads_42 : decode cX2_reads 42 = .ok (.ireturn, 1) := by decide +kernel
theorem dX2_reads_43 : decode cX2_reads 43 = .ok (.aload_n 0, 1) := by decide +kernel
theorem dX2_reads_44 : decode cX2_reads 44 = .ok (.getfield 12, 3) := by decide +kernel
theorem dX2_reads_47 : decode cX2_reads 47 = .ok (.invokevirtual 44, 3) := by decide +kernel
theorem dX2_reads_50 : decode cX2_reads 50 = .ok (.aload_n 0, 1) := by decide +kernel
theorem dX2_reads_51 : decode cX2_reads 51 = .ok (.getfield 12, 3) := by decide +kernel
theorem dX2_reads_54 : decode cX2_reads 54 = .ok (.getfield 47, 3) := by decide +kernel
theorem dX2_reads_57 : decode cX2_reads 57 = .ok (.ifCond .ne 28, 3) := by decide +kernel
theorem dX2_reads_60 : decode cX2_reads 60 = .ok (.aload_n 0, 1) := by decide +kernel
theorem dX2_reads_61 : decode cX2_reads 61 = .ok (.getfield 21, 3) := by decide +kernel
theorem dX2_reads_64 : decode cX2_reads 64 = .ok (.getfield 50, 3) := by decide +kernel
theorem dX2_reads_67 : decode cX2_reads 67 = .ok (.ifCond .gt 12, 3) := by decide +kernel
theorem dX2_reads_70 : decode cX2_reads 70 = .ok (.aload_n 0, 1) := by decide +kernel
theorem dX2_reads_71 : decode cX2_reads 71 = .ok (.bipush 6, 2) := by decide +kernel
theorem dX2_reads_73 : decode cX2_reads 73 = .ok (.invokevirtual 53, 3) := by decide +kernel
theorem dX2_reads_76 : decode cX2_reads 76 = .ok (.ifCond .eq 7, 3) := by decide +kernel
theorem dX2_reads_79 : decode cX2_reads 79 = .ok (.iconst 1, 1) := by decide +kernel
theorem dX2_reads_80 : decode cX2_reads 80 = .ok (.goto 4, 3) := by decide +kernel
theorem dX2_reads_83 : decode cX2_reads 83 = .ok (.iconst 0, 1) := by decide +kernel
theorem dX2_reads_84 : decode cX2_reads 84 = .ok (.ireturn, 1) := by decide +kernel
theorem dX2_reads_85 : decode cX2_reads 85 = .ok (.aload_n 0, 1) := by decide +kernel
theorem dX2_reads_86 : decode cX2_reads 86 = .ok (.getfield 12, 3) := by decide +kernel
theorem dX2_reads_89 : decode cX2_reads 89 = .ok (.getfield 47, 3) := by decide +kernel
theorem dX2_reads_92 : decode cX2_reads 92 = .ok (.iconst 3, 1) := by decide +kernel
theorem dX2_reads_93 : decode cX2_reads 93 = .ok (.if_icmp .eq 9, 3) := by decide +kernel
theorem dX2_reads_96 : decode cX2_reads 96 = .ok (.aload_n 0, 1) := by decide +kernel
theorem dX2_reads_97 : decode cX2_reads 97 = .ok (.iconst 1, 1) := by decide +kernel
theorem dX2_reads_98 : decode cX2_reads 98 = .ok (.invokevirtual 53, 3) := by decide +kernel
theorem dX2_reads_101 : decode cX2_reads 101 = .ok (.ireturn, 1) := by decide +kernel
theorem dX2_reads_102 : decode cX2_reads 102 = .ok (.iinc 2 1, 3) := by decide +kernel
theorem dX2_reads_105 : decode cX2_reads 105 = .ok (.goto (-78), 3) := by decide +kernel
theorem dX2_reads_108 : decode cX2_reads 108 = .ok (.aload_n 0, 1) := by decide +kernel
theorem dX2_reads_109 : decode cX2_reads 109 = .ok (.iconst 1, 1) := by decide +kernel
theorem dX2_reads_110 : decode cX2_reads 110 = .ok (.invokevirtual 53, 3) := by decide +kernel
theorem dX2_reads_113 : decode cX2_reads 113 = .ok (.ireturn, 1) := by decide +kernel
def B_X2_reads_0 (X : Nat × (Nat → Int32)) (J : Nat → zCf) (R : zRt) : zCf := oALOAD 0 (oGETR 2 0 (oILOAD 1 (oINV1 X M_X6_startOver 6 (oALOAD 0 (oGETR 2 1 (oINV0 X M_X1_clear 1 (oALOAD 0 (oPI (zj (0)) (oPUTZ 2 2 (oALOAD 0 (oPI (zj (0)) (oPUTI 2 3 (oPI (zj (0)) (oISTORE 1 2 (J 27)))))))))))))))
set_option maxRecDepth 100000 in
theorem vb_X2_reads_0 {X : Nat × (Nat → Int32)} {R : zRt} : ∀ ls st h, B_X2_reads_0 X (zV X M_X2_reads (zQm M_X2_reads R) 0 0) R ls st h → zV X M_X2_reads (zQm M_X2_reads R) 0 0 0 ls st h := sd_aload_n dX2_reads_0 rfl (sd_getr dX2_reads_1 zCl2 (Nat.le_of_ble_eq_true rfl) lk_RX2_12 (Or.inl ⟨_, rfl⟩) (sd_iload_n dX2_reads_4 rfl (sd_inv1 dX2_reads_5 rfl mv_X6_startOver na_X6_startOver ml_RX2_25 ⟨⟨Nat.le_of_ble_eq_true rfl, Nat.le_of_ble_eq_true rfl⟩, ⟨Nat.le_of_ble_eq_true rfl, Nat.le_of_ble_eq_true rfl⟩⟩ (sd_aload_n dX2_reads_8 rfl (sd_getr dX2_reads_9 zCl2 (Nat.le_of_ble_eq_true rfl) lk_RX2_21 (Or.inl ⟨_, rfl⟩) (sd_inv0 dX2_reads_12 rfl mv_X1_clear na_X1_clear ml_RX2_29 ⟨⟨Nat.le_of_ble_eq_true rfl, Nat.le_of_ble_eq_true rfl⟩, ⟨Nat.le_of_ble_eq_true rfl, Nat.le_of_ble_eq_true rfl⟩⟩ (sd_aload_n dX2_reads_15 rfl (sd_iconst dX2_reads_16 rfl (sd_putz dX2_reads_17 zCl2 (Nat.le_of_ble_eq_true rfl) lk_RX2_32 rfl (Or.inl rfl) (sd_aload_n dX2_reads_20 rfl (sd_iconst dX2_reads_21 rfl (sd_puti dX2_reads_22 zCl2 (Nat.le_of_ble_eq_true rfl) lk_RX2_36 rfl (Or.inl rfl) (sd_iconst dX2_reads_25 rfl (sd_istore_n dX2_reads_26 rfl (Nat.le_of_ble_eq_true rfl) (Or.inl rfl) (fun _ _ _ h => h)))))))))))))))
def B_X2_reads_27 (X : Nat × (Nat → Int32)) (J : Nat → zCf) (R : zRt) : zCf := oILOAD 2 (oPI (zj (800)) (oICGT (J 108) (oALOAD 0 (oINV0 X M_X2_readsLine 2 (oIFNE (J 43) (oPI (zj (0)) (oZRET R)))))))
set_option maxRecDepth 100000 in
theorem vb_X2_reads_27 {X : Nat × (Nat → Int32)} {R : zRt} : ∀ ls st h, B_X2_reads_27 X (zV X M_X2_reads (zQm M_X2_reads R) 0 0) R ls st h → zV X M_X2_reads (zQm M_X2_reads R) 0 0 27 ls st h := sd_iload_n dX2_reads_27 rfl (sd_sipush dX2_reads_28 rfl (sd_icgt dX2_reads_31 rfl (fun _ _ _ h => h) (sd_aload_n dX2_reads_34 rfl (sd_inv0 dX2_reads_35 rfl mv_X2_readsLine na_X2_readsLine ml_RX2_40 ⟨⟨Nat.le_of_ble_eq_true rfl, Nat.le_of_ble_eq_true rfl⟩, ⟨Nat.le_of_ble_eq_true rfl, Nat.le_of_ble_eq_true rfl⟩⟩ (sd_ifne dX2_reads_38 rfl (fun _ _ _ h => h) (sd_iconst dX2_reads_41 rfl (sd_zret dX2_reads_42 rfl (Nat.le_of_ble_eq_true rfl) (Nat.le_of_ble_eq_true rfl))))))))
def B_X2_reads_43 (X : Nat × (Nat → Int32)) (J : Nat → zCf) (R : zRt) : zCf := oALOAD 0 (oGETR 2 0 (oINV0 X M_X6_next 6 (oALOAD 0 (oGETR 2 0 (oGETI 6 4 (oIFNE (J 85) (oALOAD 0 (oGETR 2 1 (oGETI 1 1 (oIFGT (J 79) (oALOAD 0 (oPI (zj (6)) (oINV1 X M_X2_fails 2 (oIFEQ (J 83) (J 79)))))))))))))))
set_option maxRecDepth 100000 in
theorem vb_X2_reads_43 {X : Nat × (Nat → Int32)} {R : zRt} : ∀ ls st h, B_X2_reads_43 X (zV X M_X2_reads (zQm M_X2_reads R) 0 0) R ls st h → zV X M_X2_reads (zQm M_X2_reads R) 0 0 43 ls st h := sd_aload_n dX2_reads_43 rfl (sd_getr dX2_reads_44 zCl2 (Nat.le_of_ble_eq_true rfl) lk_RX2_12 (Or.inl ⟨_, rfl⟩) (sd_inv0 dX2_reads_47 rfl mv_X6_next na_X6_next ml_RX2_44 ⟨⟨Nat.le_of_ble_eq_true rfl, Nat.le_of_ble_eq_true rfl⟩, ⟨Nat.le_of_ble_eq_true rfl, Nat.le_of_ble_eq_true rfl⟩⟩ (sd_aload_n dX2_reads_50 rfl (sd_getr dX2_reads_51 zCl2 (Nat.le_of_ble_eq_true rfl) lk_RX2_12 (Or.inl ⟨_, rfl⟩) (sd_geti dX2_reads_54 zCl6 (Nat.le_of_ble_eq_true rfl) lk_RX2_47 (Or.inl rfl) (sd_ifne dX2_reads_57 rfl (fun _ _ _ h => h) (sd_aload_n dX2_reads_60 rfl (sd_getr dX2_reads_61 zCl2 (Nat.le_of_ble_eq_true rfl) lk_RX2_21 (Or.inl ⟨_, rfl⟩) (sd_geti dX2_reads_64 zCl1 (Nat.le_of_ble_eq_true rfl) lk_RX2_50 (Or.inl rfl) (sd_ifgt dX2_reads_67 rfl (fun _ _ _ h => h) (sd_aload_n dX2_reads_70 rfl (sd_bipush dX2_reads_71 rfl (sd_inv1 dX2_reads_73 rfl mv_X2_fails na_X2_fails ml_RX2_53 ⟨⟨Nat.le_of_ble_eq_true rfl, Nat.le_of_ble_eq_true rfl⟩, ⟨Nat.le_of_ble_eq_true rfl, Nat.le_of_ble_eq_true rfl⟩⟩ (sd_ifeq dX2_reads_76 rfl (fun _ _ _ h => h) (fun _ _ _ h => h)))))))))))))))
def B_X2_reads_79 (X : Nat × (Nat → Int32)) (J : Nat → zCf) (R : zRt) : zCf := oPI (zj (1)) (J 84)
set_option maxRecDepth 100000 in
theorem vb_X2_reads_79 {X : Nat × (Nat → Int32)} {R : zRt} : ∀ ls st h, B_X2_reads_79 X (zV X M_X2_reads (zQm M_X2_reads R) 0 0) R ls st h → zV X M_X2_reads (zQm M_X2_reads R) 0 0 79 ls st h := sd_iconst dX2_reads_79 rfl (sd_goto dX2_reads_80 rfl (fun _ _ _ h => h))
def B_X2_reads_83 (X : Nat × (Nat → Int32)) (J : Nat → zCf) (R : zRt) : zCf := oPI (zj (0)) (J 84)
set_option maxRecDepth 100000 in
theorem vb_X2_reads_83 {X : Nat × (Nat → Int32)} {R : zRt} : ∀ ls st h, B_X2_reads_83 X (zV X M_X2_reads (zQm M_X2_reads R) 0 0) R ls st h → zV X M_X2_reads (zQm M_X2_reads R) 0 0 83 ls st h := sd_iconst dX2_reads_83 rfl (fun _ _ _ h => h)
def B_X2_reads_84 (X : Nat × (Nat → Int32)) (J : Nat → zCf) (R : zRt) : zCf := oZRET R
set_option maxRecDepth 100000 in
theorem vb_X2_reads_84 {X : Nat × (Nat → Int32)} {R : zRt} : ∀ ls st h, B_X2_reads_84 X (zV X M_X2_reads (zQm M_X2_reads R) 0 0) R ls st h → zV X M_X2_reads (zQm M_X2_reads R) 0 0 84 ls st h := sd_zret dX2_reads_84 rfl (Nat.le_of_ble_eq_true rfl) (Nat.le_of_ble_eq_true rfl)
def B_X2_reads_85 (X : Nat × (Nat → Int32)) (J : Nat → zCf) (R : zRt) : zCf := oALOAD 0 (oGETR 2 0 (oGETI 6 4 (oPI (zj (3)) (oICEQ (J 102) (oALOAD 0 (oPI (zj (1)) (oINV1 X M_X2_fails 2 (oZRET R))))))))
set_option maxRecDepth 100000 in
theorem vb_X2_reads_85 {X : Nat × (Nat → Int32)} {R : zRt} : ∀ ls st h, B_X2_reads_85 X (zV X M_X2_reads (zQm M_X2_reads R) 0 0) R ls st h → zV X M_X2_reads (zQm M_X2_reads R) 0 0 85 ls st h := sd_aload_n dX2_reads_85 rfl (sd_getr dX2_reads_86 zCl2 (Nat.le_of_ble_eq_true rfl) lk_RX2_12 (Or.inl ⟨_, rfl⟩) (sd_geti dX2_reads_89 zCl6 (Nat.le_of_ble_eq_true rfl) lk_RX2_47 (Or.inl rfl) (sd_iconst dX2_reads_92 rfl (sd_iceq dX2_reads_93 rfl (fun _ _ _ h => h) (sd_aload_n dX2_reads_96 rfl (sd_iconst dX2_reads_97 rfl (sd_inv1 dX2_reads_98 rfl mv_X2_fails na_X2_fails ml_RX2_53 ⟨⟨Nat.le_of_ble_eq_true rfl, Nat.le_of_ble_eq_true rfl⟩, ⟨Nat.le_of_ble_eq_true rfl, Nat.le_of_ble_eq_true rfl⟩⟩ (sd_zret dX2_reads_101 rfl (Nat.le_of_ble_eq_true rfl) (Nat.le_of_ble_eq_true rfl)))))))))
def B_X2_reads_102 (X : Nat × (Nat → Int32)) (J : Nat → zCf) (R : zRt) : zCf := oIINC 1 2 (zj (1)) (J 27)
set_option maxRecDepth 100000 in
theorem vb_X2_reads_102 {X : Nat × (Nat → Int32)} {R : zRt} : ∀ ls st h, B_X2_reads_102 X (zV X M_X2_reads (zQm M_X2_reads R) 0 0) R ls st h → zV X M_X2_reads (zQm M_X2_reads R) 0 0 102 ls st h := sd_iinc dX2_reads_102 rfl (Nat.le_of_ble_eq_true rfl) (Or.inl rfl) (sd_goto dX2_reads_105 rfl (fun _ _ _ h => h))
def B_X2_reads_108 (X : Nat × (Nat → Int32)) (J : Nat → zCf) (R : zRt) : zCf := oALOAD 0 (oPI (zj (1)) (oINV1 X M_X2_fails 2 (oZRET R)))
set_option maxRecDepth 100000 in
theorem vb_X2_reads_108 {X : Nat × (Nat → Int32)} {R : zRt} : ∀ ls st h, B_X2_reads_108 X (zV X M_X2_reads (zQm M_X2_reads R) 0 0) R ls st h → zV X M_X2_reads (zQm M_X2_reads R) 0 0 108 ls st h := sd_aload_n dX2_reads_108 rfl (sd_iconst dX2_reads_109 rfl (sd_inv1 dX2_reads_110 rfl mv_X2_fails na_X2_fails ml_RX2_53 ⟨⟨Nat.le_of_ble_eq_true rfl, Nat.le_of_ble_eq_true rfl⟩, ⟨Nat.le_of_ble_eq_true rfl, Nat.le_of_ble_eq_true rfl⟩⟩ (sd_zret dX2_reads_113 rfl (Nat.le_of_ble_eq_true rfl) (Nat.le_of_ble_eq_true rfl))))
theorem dX2_fails_0 : decode cX2_fails 0 = .ok (.aload_n 0, 1) := by decide +kernel
theorem dX2_fails_1 : decode cX2_fails 1 = .ok (.iload_n 1, 1) := by decide +kernel
theorem dX2_fails_2 : decode cX2_fails 2 = .ok (.putfield 36, 3) := by decide +kernel
theorem dX2_fails_5 : decode cX2_fails 5 = .ok (.aload_n 0, 1) := by decide +kernel
theorem dX2_fails_6 : decode cX2_fails 6 = .ok (.aload_n 0, 1) := by decide +kernel
theorem dX2_fails_7 : decode cX2_fails 7 = .ok (.getfield 12, 3) := by decide +kernel
theorem dX2_fails_10 : decode cX2_fails 10 = .ok (.getfield 57, 3) := by decide +kernel
theorem dX2_fails_13 : decode cX2_fails 13 = .ok (.putfield 60, 3) := by decide +kernel
theorem dX2_fails_16 : decode cX2_fails 16 = .ok (.iconst 0, 1) := by decide +kernel
theorem dX2_fails_17 : decode cX2_fails 17 = .ok (.ireturn, 1) := by decide +kernel
def B_X2_fails_0 (X : Nat × (Nat → Int32)) (J : Nat → zCf) (R : zRt) : zCf := oALOAD 0 (oILOAD 1 (oPUTI 2 3 (oALOAD 0 (oALOAD 0 (oGETR 2 0 (oGETI 6 5 (oPUTI 2 4 (oPI (zj (0)) (oZRET R)))))))))
set_option maxRecDepth 100000 in
theorem vb_X2_fails_0 {X : Nat × (Nat → Int32)} {R : zRt} : ∀ ls st h, B_X2_fails_0 X (zV X M_X2_fails (zQm M_X2_fails R) 0 0) R ls st h → zV X M_X2_fails (zQm M_X2_fails R) 0 0 0 ls st h := sd_aload_n dX2_fails_0 rfl (sd_iload_n dX2_fails_1 rfl (sd_puti dX2_fails_2 zCl2 (Nat.le_of_ble_eq_true rfl) lk_RX2_36 rfl (Or.inl rfl) (sd_aload_n dX2_fails_5 rfl (sd_aload_n dX2_fails_6 rfl (sd_getr dX2_fails_7 zCl2 (Nat.le_of_ble_eq_true rfl) lk_RX2_12 (Or.inl ⟨_, rfl⟩) (sd_geti dX2_fails_10 zCl6 (Nat.le_of_ble_eq_true rfl) lk_RX2_57 (Or.inl rfl) (sd_puti dX2_fails_13 zCl2 (Nat.le_of_ble_eq_true rfl) lk_RX2_60 rfl (Or.inl rfl) (sd_iconst dX2_fails_16 rfl (sd_zret dX2_fails_17 rfl (Nat.le_of_ble_eq_true rfl) (Nat.le_of_ble_eq_true rfl))))))))))
theorem dX2_readsLine_0 : decode cX2_readsLine 0 = .ok (.aload_n 0, 1) := by decide +kernel
theorem dX2_readsLine_1 : decode cX2_readsLine 1 = .ok (.getfield 12, 3) := by decide +kernel
theorem dX2_readsLine_4 : decode cX2_readsLine 4 = .ok (.invokevirtual 44, 3) := by decide +kernel
theorem dX2_readsLine_7 : decode cX2_readsLine 7 = .ok (.aload_n 0, 1) := by decide +kernel
theorem dX2_readsLine_8 : decode cX2_readsLine 8 = .ok (.getfield 12, 3) := by decide +kernel
theorem dX2_readsLine_11 : decode cX2_readsLine 11 = .ok (.getfield 47, 3) := by decide +kernel
theorem dX2_readsLine_14 : decode cX2_readsLine 14 = .ok (.iconst 1, 1) := by decide +kernel
theorem dX2_readsLine_15 : decode cX2_readsLine 15 = .ok (.if_icmp .ne 10, 3) := by decide +kernel
theorem dX2_readsLine_18 : decode cX2_readsLine 18 = .ok (.aload_n 0, 1) := by decide +kernel
theorem dX2_readsLine_19 : decode cX2_readsLine 19 = .ok (.invokevirtual 63, 3) := by decide +kernel
theorem dX2_readsLine_22 : decode cX2_readsLine 22 = .ok (.ifCond .ne 9, 3) := by decide +kernel
theorem dX2_readsLine_25 : decode cX2_readsLine 25 = .ok (.aload_n 0, 1) := by decide +kernel
theorem dX2_readsLine_26 : decode cX2_readsLine 26 = .ok (.iconst 1, 1) := by decide +kernel
theorem dX2_readsLine_27 : decode cX2_readsLine 27 = .ok (.invokevirtual 53, 3) := by decide +kernel
theorem dX2_readsLine_30 : decode cX2_readsLine 30 = .ok (.ireturn, 1) := by decide +kernel
theorem dX2_readsLine_31 : decode cX2_readsLine 31 = .ok (.aload_n 0, 1) := by decide +kernel
theorem dX2_readsLine_32 : decode cX2_readsLine 32 = .ok (.getfield 12, 3) := by decide +kernel
theorem dX2_readsLine_35 : decode cX2_readsLine 35 = .ok (.ldc2_w 66, 3) := by decide +kernel
theorem dX2_readsLine_38 : decode cX2_readsLine 38 = .ok (.invokevirtual 68, 3) := by decide +kernel
theorem dX2_readsLine_41 : decode cX2_readsLine 41 = .ok (.ifCond .eq 8, 3) := by decide +kernel
theorem dX2_readsLine_44 : decode cX2_readsLine 44 = .ok (.aload_n 0, 1) := by decide +kernel
theorem dX2_readsLine_45 : decode cX2_readsLine 45 = .ok (.invokevirtual 72, 3) := by decide +kernel
theorem dX2_readsLine_48 : decode cX2_readsLine 48 = .ok (.ireturn, 1) := by decide +kernel
theorem dX2_readsLine_49 : decode cX2_readsLine 49 = .ok (.aload_n 0, 1) := by decide +kernel
theorem dX2_readsLine_50 : decode cX2_readsLine 50 = .ok (.getfield 32, 3) := by decide +kernel
theorem dX2_readsLine_53 : decode cX2_readsLine 53 = .ok (.ifCond .ne 10, 3) := by decide +kernel
theorem dX2_readsLine_56 : decode cX2_readsLine 56 = .ok (.aload_n 0, 1) := by decide +kernel
theorem dX2_readsLine_57 : decode cX2_readsLine 57 = .ok (.bipush 6, 2) := by decide +kernel
theorem dX2_readsLine_59 : decode cX2_readsLine 59 = .ok (.invokevirtual 53, 3) := by decide +kernel
theorem dX2_readsLine_62 : decode cX2_readsLine 62 = .ok (.ireturn, 1) := by decide +kernel
theorem dX2_readsLine_63 : decode cX2_readsLine 63 = .ok (.aload_n 0, 1) := by decide +kernel
theorem dX2_readsLine_64 : decode cX2_readsLine 64 = .ok (.getfield 12, 3) := by decide +kernel
theorem dX2_readsLine_67 : decode cX2_readsLine 67 = .ok (.ldc2_w 75, 3) := by decide +kernel
theorem dX2_readsLine_70 : decode cX2_readsLine 70 = .ok (.invokevirtual 68, 3) := by decide +kernel
theorem dX2_readsLine_73 : decode cX2_readsLine 73 = .ok (.ifCond .eq 8, 3) := by decide +kernel
theorem dX2_readsLine_76 : decode cX2_readsLine 76 = .ok (.aload_n 0, 1) := by decide +kernel
theorem dX2_readsLine_77 : decode cX2_readsLine 77 = .ok (.invokevirtual 77, 3) := by decide +kernel
theorem dX2_readsLine_80 : decode cX2_readsLine 80 = .ok (.ireturn, 1) := by decide +kernel
theorem dX2_readsLine_81 : decode cX2_readsLine 81 = .ok (.aload_n 0, 1) := by decide +kernel
theorem dX2_readsLine_82 : decode cX2_readsLine 82 = .ok (.getfield 12, 3) := by decide +kernel
theorem dX2_readsLine_85 : decode cX2_readsLine 85 = .ok (.ldc2_w 80, 3) := by decide +kernel
theorem dX2_readsLine_88 : decode cX2_readsLine 88 = .ok (.invokevirtual 68, 3) := by decide +kernel
theorem dX2_readsLine_91 : decode cX2_readsLine 91 = .ok (.ifCond .eq 15, 3) := by decide +kernel
theorem dX2_readsLine_94 : decode cX2_readsLine 94 = .ok (.aload_n 0, 1) := by decide +kernel
theorem dX2_readsLine_95 : decode cX2_readsLine 95 = .ok (.aload_n 0, 1) := by decide +kernel
theorem dX2_readsLine_96 : decode cX2_readsLine 96 = .ok (.getfield 21, 3) := by decide +kernel
theorem dX2_readsLine_99 : decode cX2_readsLine 99 = .ok (.getfield 82, 3) := by decide +kernel
theorem dX2_readsLine_102 : decode cX2_readsLine 102 = .ok (.invokevirtual 86, 3) := by decide +kernel
theorem dX2_readsLine_105 : decode cX2_readsLine 105 = .ok (.ireturn, 1) := by decide +kernel
theorem dX2_readsLine_106 : decode cX2_readsLine 106 = .ok (.aload_n 0, 1) := by decide +kernel
theorem dX2_readsLine_107 : decode cX2_readsLine 107 = .ok (.getfield 12, 3) := by decide +kernel
theorem dX2_readsLine_110 : decode cX2_readsLine 110 = .ok (.ldc2_w 90, 3) := by decide +kernel
theorem dX2_readsLine_113 : decode cX2_readsLine 113 = .ok (.invokevirtual 68, 3) := by decide +kernel
theorem dX2_readsLine_116 : decode cX2_readsLine 116 = .ok (.ifCond .eq 15, 3) := by decide +kernel
theorem dX2_readsLine_119 : decode cX2_readsLine 119 = .ok (.aload_n 0, 1) := by decide +kernel
theorem dX2_readsLine_120 : decode cX2_readsLine 120 = .ok (.aload_n 0, 1) := by decide +kernel
theorem dX2_readsLine_121 : decode cX2_readsLine 121 = .ok (.getfield 21, 3) := by decide +kernel
theorem dX2_readsLine_124 : decode cX2_readsLine 124 = .ok (.getfield 92, 3) := by decide +kernel
theorem dX2_readsLine_127 : decode cX2_readsLine 127 = .ok (.invokevirtual 86, 3) := by decide +kernel
theorem dX2_readsLine_130 : decode cX2_readsLine 130 = .ok (.ireturn, 1) := by decide +kernel
theorem dX2_readsLine_131 : decode cX2_readsLine 131 = .ok (.aload_n 0, 1) := by decide +kernel
theorem dX2_readsLine_132 : decode cX2_readsLine 132 = .ok (.getfield 12, 3) := by decide +kernel
theorem dX2_readsLine_135 : decode cX2_readsLine 135 = .ok (.ldc2_w 95, 3) := by decide +kernel
theorem dX2_readsLine_138 : decode cX2_readsLine 138 = .ok (.invokevirtual 68, 3) := by decide +kernel
theorem dX2_readsLine_141 : decode cX2_readsLine 141 = .ok (.ifCond .eq 8, 3) := by decide +kernel
theorem dX2_readsLine_144 : decode cX2_readsLine 144 = .ok (.aload_n 0, 1) := by decide +kernel
theorem dX2_readsLine_145 : decode cX2_readsLine 145 = .ok (.invokevirtual 97, 3) := by decide +kernel
theorem dX2_readsLine_148 : decode cX2_readsLine 148 = .ok (.ireturn, 1) := by decide +kernel
theorem dX2_readsLine_149 : decode cX2_readsLine 149 = .ok (.aload_n 0, 1) := by decide +kernel
theorem dX2_readsLine_150 : decode cX2_readsLine 150 = .ok (.getfield 12, 3) := by decide +kernel
theorem dX2_readsLine_153 : decode cX2_readsLine 153 = .ok (.ldc2_w 100, 3) := by decide +kernel
theorem dX2_readsLine_156 : decode cX2_readsLine 156 = .ok (.invokevirtual 68, 3) := by decide +kernel
theorem dX2_readsLine_159 : decode cX2_readsLine 159 = .ok (.ifCond .eq 10, 3) := by decide +kernel
theorem dX2_readsLine_162 : decode cX2_readsLine 162 = .ok (.aload_n 0, 1) := by decide +kernel
theorem dX2_readsLine_163 : decode cX2_readsLine 163 = .ok (.invokevirtual 102, 3) := by decide +kernel
theorem dX2_readsLine_166 : decode cX2_readsLine 166 = .ok (.goto 7, 3) := by decide +kernel
theorem dX2_readsLine_169 : decode cX2_readsLine 169 = .ok (.aload_n 0, 1) := by decide +kernel
theorem dX2_readsLine_170 : decode cX2_readsLine 170 = .ok (.invokevirtual 105, 3) := by decide +kernel
theorem dX2_readsLine_173 : decode cX2_readsLine 173 = .ok (.ireturn, 1) := by decide +kernel
def B_X2_readsLine_0 (X : Nat × (Nat → Int32)) (J : Nat → zCf) (R : zRt) : zCf := oALOAD 0 (oGETR 2 0 (oINV0 X M_X6_next 6 (oALOAD 0 (oGETR 2 0 (oGETI 6 4 (oPI (zj (1)) (oICNE (J 25) (oALOAD 0 (oINV0 X M_X2_startsLine 2 (oIFNE (J 31) (J 25)))))))))))
set_option maxRecDepth 100000 in
theorem vb_X2_readsLine_0 {X : Nat × (Nat → Int32)} {R : zRt} : ∀ ls st h, B_X2_readsLine_0 X (zV X M_X2_readsLine (zQm M_X2_readsLine R) 0 0) R ls st h → zV X M_X2_readsLine (zQm M_X2_readsLine R) 0 0 0 ls st h := sd_aload_n dX2_readsLine_0 rfl (sd_getr dX2_readsLine_1 zCl2 (Nat.le_of_ble_eq_true rfl) lk_RX2_12 (Or.inl ⟨_, rfl⟩) (sd_inv0 dX2_readsLine_4 rfl mv_X6_next na_X6_next ml_RX2_44 ⟨⟨Nat.le_of_ble_eq_true rfl, Nat.le_of_ble_eq_true rfl⟩, ⟨Nat.le_of_ble_eq_true rfl, Nat.le_of_ble_eq_true rfl⟩⟩ (sd_aload_n dX2_readsLine_7 rfl (sd_getr dX2_readsLine_8 zCl2 (Nat.le_of_ble_eq_true rfl) lk_RX2_12 (Or.inl ⟨_, rfl⟩) (sd_geti dX2_readsLine_11 zCl6 (Nat.le_of_ble_eq_true rfl) lk_RX2_47 (Or.inl rfl) (sd_iconst dX2_readsLine_14 rfl (sd_icne dX2_readsLine_15 rfl (fun _ _ _ h => h) (sd_aload_n dX2_readsLine_18 rfl (sd_inv0 dX2_readsLine_19 rfl mv_X2_startsLine na_X2_startsLine ml_RX2_63 ⟨⟨Nat.le_of_ble_eq_true rfl, Nat.le_of_ble_eq_true rfl⟩, ⟨Nat.le_of_ble_eq_true rfl, Nat.le_of_ble_eq_true rfl⟩⟩ (sd_ifne dX2_readsLine_22 rfl (fun _ _ _ h => h) (fun _ _ _ h => h)))))))))))
def B_X2_readsLine_25 (X : Nat × (Nat → Int32)) (J : Nat → zCf) (R : zRt) : zCf := oALOAD 0 (oPI (zj (1)) (oINV1 X M_X2_fails 2 (oZRET R)))
set_option maxRecDepth 100000 in
theorem vb_X2_readsLine_25 {X : Nat × (Nat → Int32)} {R : zRt} : ∀ ls st h, B_X2_readsLine_25 X (zV X M_X2_readsLine (zQm M_X2_readsLine R) 0 0) R ls st h → zV X M_X2_readsLine (zQm M_X2_readsLine R) 0 0 25 ls st h := sd_aload_n dX2_readsLine_25 rfl (sd_iconst dX2_readsLine_26 rfl (sd_inv1 dX2_readsLine_27 rfl mv_X2_fails na_X2_fails ml_RX2_53 ⟨⟨Nat.le_of_ble_eq_true rfl, Nat.le_of_ble_eq_true rfl⟩, ⟨Nat.le_of_ble_eq_true rfl, Nat.le_of_ble_eq_true rfl⟩⟩ (sd_zret dX2_readsLine_30 rfl (Nat.le_of_ble_eq_true rfl) (Nat.le_of_ble_eq_true rfl))))
def B_X2_readsLine_31 (X : Nat × (Nat → Int32)) (J : Nat → zCf) (R : zRt) : zCf := oALOAD 0 (oGETR 2 0 (oPL (zk (1953849957)) (oINV1 X M_X6_isWord 6 (oIFEQ (J 49) (oALOAD 0 (oINV0 X M_X2_readsTube 2 (oZRET R)))))))
set_option maxRecDepth 100000 in
theorem vb_X2_readsLine_31 {X : Nat × (Nat → Int32)} {R : zRt} : ∀ ls st h, B_X2_readsLine_31 X (zV X M_X2_readsLine (zQm M_X2_readsLine R) 0 0) R ls st h → zV X M_X2_readsLine (zQm M_X2_readsLine R) 0 0 31 ls st h := sd_aload_n dX2_readsLine_31 rfl (sd_getr dX2_readsLine_32 zCl2 (Nat.le_of_ble_eq_true rfl) lk_RX2_12 (Or.inl ⟨_, rfl⟩) (sd_ldc2 dX2_readsLine_35 (zmt (zt2 (i := 89) rfl) rfl) (sd_inv1 dX2_readsLine_38 rfl mv_X6_isWord na_X6_isWord ml_RX2_68 ⟨⟨Nat.le_of_ble_eq_true rfl, Nat.le_of_ble_eq_true rfl⟩, ⟨Nat.le_of_ble_eq_true rfl, Nat.le_of_ble_eq_true rfl⟩⟩ (sd_ifeq dX2_readsLine_41 rfl (fun _ _ _ h => h) (sd_aload_n dX2_readsLine_44 rfl (sd_inv0 dX2_readsLine_45 rfl mv_X2_readsTube na_X2_readsTube ml_RX2_72 ⟨⟨Nat.le_of_ble_eq_true rfl, Nat.le_of_ble_eq_true rfl⟩, ⟨Nat.le_of_ble_eq_true rfl, Nat.le_of_ble_eq_true rfl⟩⟩ (sd_zret dX2_readsLine_48 rfl (Nat.le_of_ble_eq_true rfl) (Nat.le_of_ble_eq_true rfl))))))))
def B_X2_readsLine_49 (X : Nat × (Nat → Int32)) (J : Nat → zCf) (R : zRt) : zCf := oALOAD 0 (oGETI 2 2 (oIFNE (J 63) (oALOAD 0 (oPI (zj (6)) (oINV1 X M_X2_fails 2 (oZRET R))))))
set_option maxRecDepth 100000 in
theorem vb_X2_readsLine_49 {X : Nat × (Nat → Int32)} {R : zRt} : ∀ ls st h, B_X2_readsLine_49 X (zV X M_X2_readsLine (zQm M_X2_readsLine R) 0 0) R ls st h → zV X M_X2_readsLine (zQm M_X2_readsLine R) 0 0 49 ls st h := sd_aload_n dX2_readsLine_49 rfl (sd_geti dX2_readsLine_50 zCl2 (Nat.le_of_ble_eq_true rfl) lk_RX2_32 (Or.inr rfl) (sd_ifne dX2_readsLine_53 rfl (fun _ _ _ h => h) (sd_aload_n dX2_readsLine_56 rfl (sd_bipush dX2_readsLine_57 rfl (sd_inv1 dX2_readsLine_59 rfl mv_X2_fails na_X2_fails ml_RX2_53 ⟨⟨Nat.le_of_ble_eq_true rfl, Nat.le_of_ble_eq_true rfl⟩, ⟨Nat.le_of_ble_eq_true rfl, Nat.le_of_ble_eq_true rfl⟩⟩ (sd_zret dX2_readsLine_62 rfl (Nat.le_of_ble_eq_true rfl) (Nat.le_of_ble_eq_true rfl)))))))
def B_X2_readsLine_63 (X : Nat × (Nat → Int32)) (J : Nat → zCf) (R : zRt) : zCf := oALOAD 0 (oGETR 2 0 (oPL (zk (6449524)) (oINV1 X M_X6_isWord 6 (oIFEQ (J 81) (oALOAD 0 (oINV0 X M_X2_readsBit 2 (oZRET R)))))))
set_option maxRecDepth 100000 in
theorem vb_X2_readsLine_63 {X : Nat × (Nat → Int32)} {R : zRt} : ∀ ls st h, B_X2_readsLine_63 X (zV X M_X2_readsLine (zQm M_X2_readsLine R) 0 0) R ls st h → zV X M_X2_readsLine (zQm M_X2_readsLine R) 0 0 63 ls st h := sd_aload_n dX2_readsLine_63 rfl (sd_getr dX2_readsLine_64 zCl2 (Nat.le_of_ble_eq_true rfl) lk_RX2_12 (Or.inl ⟨_, rfl⟩) (sd_ldc2 dX2_readsLine_67 (zmt (zt2 (i := 94) rfl) rfl) (sd_inv1 dX2_readsLine_70 rfl mv_X6_isWord na_X6_isWord ml_RX2_68 ⟨⟨Nat.le_of_ble_eq_true rfl, Nat.le_of_ble_eq_true rfl⟩, ⟨Nat.le_of_ble_eq_true rfl, Nat.le_of_ble_eq_true rfl⟩⟩ (sd_ifeq dX2_readsLine_73 rfl (fun _ _ _ h => h) (sd_aload_n dX2_readsLine_76 rfl (sd_inv0 dX2_readsLine_77 rfl mv_X2_readsBit na_X2_readsBit ml_RX2_77 ⟨⟨Nat.le_of_ble_eq_true rfl, Nat.le_of_ble_eq_true rfl⟩, ⟨Nat.le_of_ble_eq_true rfl, Nat.le_of_ble_eq_true rfl⟩⟩ (sd_zret dX2_readsLine_80 rfl (Nat.le_of_ble_eq_true rfl) (Nat.le_of_ble_eq_true rfl))))))))
def B_X2_readsLine_81 (X : Nat × (Nat → Int32)) (J : Nat → zCf) (R : zRt) : zCf := oALOAD 0 (oGETR 2 0 (oPL (zk (2002873972)) (oINV1 X M_X6_isWord 6 (oIFEQ (J 106) (oALOAD 0 (oALOAD 0 (oGETR 2 1 (oGETR 1 6 (oINV1 X M_X2_readsCellOfBit 2 (oZRET R))))))))))
set_option maxRecDepth 100000 in
theorem vb_X2_readsLine_81 {X : Nat × (Nat → Int32)} {R : zRt} : ∀ ls st h, B_X2_readsLine_81 X (zV X M_X2_readsLine (zQm M_X2_readsLine R) 0 0) R ls st h → zV X M_X2_readsLine (zQm M_X2_readsLine R) 0 0 81 ls st h := sd_aload_n dX2_readsLine_81 rfl (sd_getr dX2_readsLine_82 zCl2 (Nat.le_of_ble_eq_true rfl) lk_RX2_12 (Or.inl ⟨_, rfl⟩) (sd_ldc2 dX2_readsLine_85 (zmt (zt2 (i := 95) rfl) rfl) (sd_inv1 dX2_readsLine_88 rfl mv_X6_isWord na_X6_isWord ml_RX2_68 ⟨⟨Nat.le_of_ble_eq_true rfl, Nat.le_of_ble_eq_true rfl⟩, ⟨Nat.le_of_ble_eq_true rfl, Nat.le_of_ble_eq_true rfl⟩⟩ (sd_ifeq dX2_readsLine_91 rfl (fun _ _ _ h => h) (sd_aload_n dX2_readsLine_94 rfl (sd_aload_n dX2_readsLine_95 rfl (sd_getr dX2_readsLine_96 zCl2 (Nat.le_of_ble_eq_true rfl) lk_RX2_21 (Or.inl ⟨_, rfl⟩) (sd_getr dX2_readsLine_99 zCl1 (Nat.le_of_ble_eq_true rfl) lk_RX2_82 (Or.inr ⟨_, rfl⟩) (sd_inv1 dX2_readsLine_102 rfl mv_X2_readsCellOfBit na_X2_readsCellOfBit ml_RX2_86 ⟨⟨Nat.le_of_ble_eq_true rfl, Nat.le_of_ble_eq_true rfl⟩, ⟨Nat.le_of_ble_eq_true rfl, Nat.le_of_ble_eq_true rfl⟩⟩ (sd_zret dX2_readsLine_105 rfl (Nat.le_of_ble_eq_true rfl) (Nat.le_of_ble_eq_true rfl)))))))))))
def B_X2_readsLine_106 (X : Nat × (Nat → Int32)) (J : Nat → zCf) (R : zRt) : zCf := oALOAD 0 (oGETR 2 0 (oPL (zk (418330731890)) (oINV1 X M_X6_isWord 6 (oIFEQ (J 131) (oALOAD 0 (oALOAD 0 (oGETR 2 1 (oGETR 1 7 (oINV1 X M_X2_readsCellOfBit 2 (oZRET R))))))))))
set_option maxRecDepth 100000 in
theorem vb_X2_readsLine_106 {X : Nat × (Nat → Int32)} {R : zRt} : ∀ ls st h, B_X2_readsLine_106 X (zV X M_X2_readsLine (zQm M_X2_readsLine R) 0 0) R ls st h → zV X M_X2_readsLine (zQm M_X2_readsLine R) 0 0 106 ls st h := sd_aload_n dX2_readsLine_106 rfl (sd_getr dX2_readsLine_107 zCl2 (Nat.le_of_ble_eq_true rfl) lk_RX2_12 (Or.inl ⟨_, rfl⟩) (sd_ldc2 dX2_readsLine_110 (zmt (zt2 (i := 96) rfl) rfl) (sd_inv1 dX2_readsLine_113 rfl mv_X6_isWord na_X6_isWord ml_RX2_68 ⟨⟨Nat.le_of_ble_eq_true rfl, Nat.le_of_ble_eq_true rfl⟩, ⟨Nat.le_of_ble_eq_true rfl, Nat.le_of_ble_eq_true rfl⟩⟩ (sd_ifeq dX2_readsLine_116 rfl (fun _ _ _ h => h) (sd_aload_n dX2_readsLine_119 rfl (sd_aload_n dX2_readsLine_120 rfl (sd_getr dX2_readsLine_121 zCl2 (Nat.le_of_ble_eq_true rfl) lk_RX2_21 (Or.inl ⟨_, rfl⟩) (sd_getr dX2_readsLine_124 zCl1 (Nat.le_of_ble_eq_true rfl) lk_RX2_92 (Or.inr ⟨_, rfl⟩) (sd_inv1 dX2_readsLine_127 rfl mv_X2_readsCellOfBit na_X2_readsCellOfBit ml_RX2_86 ⟨⟨Nat.le_of_ble_eq_true rfl, Nat.le_of_ble_eq_true rfl⟩, ⟨Nat.le_of_ble_eq_true rfl, Nat.le_of_ble_eq_true rfl⟩⟩ (sd_zret dX2_readsLine_130 rfl (Nat.le_of_ble_eq_true rfl) (Nat.le_of_ble_eq_true rfl)))))))))))
def B_X2_readsLine_131 (X : Nat × (Nat → Int32)) (J : Nat → zCf) (R : zRt) : zCf := oALOAD 0 (oGETR 2 0 (oPL (zk (7169396)) (oINV1 X M_X6_isWord 6 (oIFEQ (J 149) (oALOAD 0 (oINV0 X M_X2_readsMet 2 (oZRET R)))))))
set_option maxRecDepth 100000 in
theorem vb_X2_readsLine_131 {X : Nat × (Nat → Int32)} {R : zRt} : ∀ ls st h, B_X2_readsLine_131 X (zV X M_X2_readsLine (zQm M_X2_readsLine R) 0 0) R ls st h → zV X M_X2_readsLine (zQm M_X2_readsLine R) 0 0 131 ls st h := sd_aload_n dX2_readsLine_131 rfl (sd_getr dX2_readsLine_132 zCl2 (Nat.le_of_ble_eq_true rfl) lk_RX2_12 (Or.inl ⟨_, rfl⟩) (sd_ldc2 dX2_readsLine_135 (zmt (zt2 (i := 97) rfl) rfl) (sd_inv1 dX2_readsLine_138 rfl mv_X6_isWord na_X6_isWord ml_RX2_68 ⟨⟨Nat.le_of_ble_eq_true rfl, Nat.le_of_ble_eq_true rfl⟩, ⟨Nat.le_of_ble_eq_true rfl, Nat.le_of_ble_eq_true rfl⟩⟩ (sd_ifeq dX2_readsLine_141 rfl (fun _ _ _ h => h) (sd_aload_n dX2_readsLine_144 rfl (sd_inv0 dX2_readsLine_145 rfl mv_X2_readsMet na_X2_readsMet ml_RX2_97 ⟨⟨Nat.le_of_ble_eq_true rfl, Nat.le_of_ble_eq_true rfl⟩, ⟨Nat.le_of_ble_eq_true rfl, Nat.le_of_ble_eq_true rfl⟩⟩ (sd_zret dX2_readsLine_148 rfl (Nat.le_of_ble_eq_true rfl) (Nat.le_of_ble_eq_true rfl))))))))
def B_X2_readsLine_149 (X : Nat × (Nat → Int32)) (J : Nat → zCf) (R : zRt) : zCf := oALOAD 0 (oGETR 2 0 (oPL (zk (29395908993245561)) (oINV1 X M_X6_isWord 6 (oIFEQ (J 169) (oALOAD 0 (oINV0 X M_X2_readsHoliday 2 (J 173)))))))
set_option maxRecDepth 100000 in
theorem vb_X2_readsLine_149 {X : Nat × (Nat → Int32)} {R : zRt} : ∀ ls st h, B_X2_readsLine_149 X (zV X M_X2_readsLine (zQm M_X2_readsLine R) 0 0) R ls st h → zV X M_X2_readsLine (zQm M_X2_readsLine R) 0 0 149 ls st h := sd_aload_n dX2_readsLine_149 rfl (sd_getr dX2_readsLine_150 zCl2 (Nat.le_of_ble_eq_true rfl) lk_RX2_12 (Or.inl ⟨_, rfl⟩) (sd_ldc2 dX2_readsLine_153 (zmt (zt2 (i := 98) rfl) rfl) (sd_inv1 dX2_readsLine_156 rfl mv_X6_isWord na_X6_isWord ml_RX2_68 ⟨⟨Nat.le_of_ble_eq_true rfl, Nat.le_of_ble_eq_true rfl⟩, ⟨Nat.le_of_ble_eq_true rfl, Nat.le_of_ble_eq_true rfl⟩⟩ (sd_ifeq dX2_readsLine_159 rfl (fun _ _ _ h => h) (sd_aload_n dX2_readsLine_162 rfl (sd_inv0 dX2_readsLine_163 rfl mv_X2_readsHoliday na_X2_readsHoliday ml_RX2_102 ⟨⟨Nat.le_of_ble_eq_true rfl, Nat.le_of_ble_eq_true rfl⟩, ⟨Nat.le_of_ble_eq_true rfl, Nat.le_of_ble_eq_true rfl⟩⟩ (sd_goto dX2_readsLine_166 rfl (fun _ _ _ h => h))))))))
def B_X2_readsLine_169 (X : Nat × (Nat → Int32)) (J : Nat → zCf) (R : zRt) : zCf := oALOAD 0 (oINV0 X M_X2_readsPerson 2 (J 173))
set_option maxRecDepth 100000 in
theorem vb_X2_readsLine_169 {X : Nat × (Nat → Int32)} {R : zRt} : ∀ ls st h, B_X2_readsLine_169 X (zV X M_X2_readsLine (zQm M_X2_readsLine R) 0 0) R ls st h → zV X M_X2_readsLine (zQm M_X2_readsLine R) 0 0 169 ls st h := sd_aload_n dX2_readsLine_169 rfl (sd_inv0 dX2_readsLine_170 rfl mv_X2_readsPerson na_X2_readsPerson ml_RX2_105 ⟨⟨Nat.le_of_ble_eq_true rfl, Nat.le_of_ble_eq_true rfl⟩, ⟨Nat.le_of_ble_eq_true rfl, Nat.le_of_ble_eq_true rfl⟩⟩ (fun _ _ _ h => h))
def B_X2_readsLine_173 (X : Nat × (Nat → Int32)) (J : Nat → zCf) (R : zRt) : zCf := oZRET R
set_option maxRecDepth 100000 in
theorem vb_X2_readsLine_173 {X : Nat × (Nat → Int32)} {R : zRt} : ∀ ls st h, B_X2_readsLine_173 X (zV X M_X2_readsLine (zQm M_X2_readsLine R) 0 0) R ls st h → zV X M_X2_readsLine (zQm M_X2_readsLine R) 0 0 173 ls st h := sd_zret dX2_readsLine_173 rfl (Nat.le_of_ble_eq_true rfl) (Nat.le_of_ble_eq_true rfl)
theorem dX2_startsLine_0 : decode cX2_startsLine 0 = .ok (.aload_n 0, 1) := by decide +kernel
theorem dX2_startsLine_1 : decode cX2_startsLine 1 = .ok (.getfield 12, 3) := by decide +kernel
theorem dX2_startsLine_4 : decode cX2_startsLine 4 = .ok (.ldc2_w 66, 3) := by decide +kernel
theorem dX2_startsLine_7 : decode cX2_startsLine 7 = .ok (.invokevirtual 68, 3) := by decide +kernel
theorem dX2_startsLine_10 : decode cX2_startsLine 10 = .ok (.ifCond .ne 81, 3) := by decide +kernel
theorem dX2_startsLine_13 : decode cX2_startsLine 13 = .ok (.aload_n 0, 1) := by decide +kernel
theorem dX2_startsLine_14 : decode cX2_startsLine 14 = .ok (.getfield 12, 3) := by decide +kernel
theorem dX2_startsLine_17 : decode cX2_startsLine 17 = .ok (.ldc2_w 75, 3) := by decide +kernel
theorem dX2_startsLine_20 : decode cX2_startsLine 20 = .ok (.invokevirtual 68, 3) := by decide +kernel
theorem dX2_startsLine_23 : decode cX2_startsLine 23 = .ok (.ifCond .ne 68, 3) := by decide +kernel
theorem dX2_startsLine_26 : decode cX2_startsLine 26 = .ok (.aload_n 0, 1) := by decide +kernel
theorem dX2_startsLine_27 : decode cX2_startsLine 27 = .ok (.getfield 12, 3) := by decide +kernel
theorem dX2_startsLine_30 : decode cX2_startsLine 30 = .ok (.ldc2_w 80, 3) := by decide +kernel
theorem dX2_startsLine_33 : decode cX2_startsLine 33 = .ok (.invokevirtual 68, 3) := by decide +kernel
theorem dX2_startsLine_36 : decode cX2_startsLine 36 = .ok (.ifCond .ne 55, 3) := by decide +kernel
theorem dX2_startsLine_39 : decode cX2_startsLine 39 = .ok (.aload_n 0, 1) := by decide +kernel
theorem dX2_startsLine_40 : decode cX2_startsLine 40 = .ok (.getfield 12, 3) := by decide +kernel
theorem dX2_startsLine_43 : decode cX2_startsLine 43 = .ok (.ldc2_w 90, 3) := by decide +kernel
theorem dX2_startsLine_46 : decode cX2_startsLine 46 = .ok (.invokevirtual 68, 3) := by decide +kernel
theorem dX2_startsLine_49 : decode cX2_startsLine 49 = .ok (.ifCond .ne 42, 3) := by decide +kernel
theorem dX2_startsLine_52 : decode cX2_startsLine 52 = .ok (.aload_n 0, 1) := by decide +kernel
theorem dX2_startsLine_53 : decode cX2_startsLine 53 = .ok (.getfield 12, 3) := by decide +kernel
theorem dX2_startsLine_56 : decode cX2_startsLine 56 = .ok (.ldc2_w 95, 3) := by decide +kernel
theorem dX2_startsLine_59 : decode cX2_startsLine 59 = .ok (.invokevirtual 68, 3) := by decide +kernel
theorem dX2_startsLine_62 : decode cX2_startsLine 62 = .ok (.ifCond .ne 29, 3) := by decide +kernel
theorem dX2_startsLine_65 : decode cX2_startsLine 65 = .ok (.aload_n 0, 1) := by decide +kernel
theorem dX2_startsLine_66 : decode cX2_startsLine 66 = .ok (.getfield 12, 3) := by decide +kernel
theorem dX2_startsLine_69 : decode cX2_startsLine 69 = .ok (.ldc2_w 100, 3) := by decide +kernel
theorem dX2_startsLine_72 : decode cX2_startsLine 72 = .ok (.invokevirtual 68, 3) := by decide +kernel
theorem dX2_startsLine_75 : decode cX2_startsLine 75 = .ok (.ifCond .ne 16, 3) := by decide +kernel
theorem dX2_startsLine_78 : decode cX2_startsLine 78 = .ok (.aload_n 0, 1) := by decide +kernel
theorem dX2_startsLine_79 : decode cX2_startsLine 79 = .ok (.getfield 12, 3) := by decide +kernel
theorem dX2_startsLine_82 : decode cX2_startsLine 82 = .ok (.ldc2_w 108, 3) := by decide +kernel
theorem dX2_startsLine_85 : decode cX2_startsLine 85 = .ok (.invokevirtual 68, 3) := by decide +kernel
theorem dX2_startsLine_88 : decode cX2_startsLine 88 = .ok (.ifCond .eq 7, 3) := by decide +kernel
theorem dX2_startsLine_91 : decode cX2_startsLine 91 = .ok (.iconst 1, 1) := by decide +kernel
theorem dX2_startsLine_92 : decode cX2_startsLine 92 = .ok (.goto 4, 3) := by decide +kernel
theorem dX2_startsLine_95 : decode cX2_startsLine 95 = .ok (.iconst 0, 1) := by decide +kernel
theorem dX2_startsLine_96 : decode cX2_startsLine 96 = .ok (.ireturn, 1) := by decide +kernel
def B_X2_startsLine_0 (X : Nat × (Nat → Int32)) (J : Nat → zCf) (R : zRt) : zCf := oALOAD 0 (oGETR 2 0 (oPL (zk (1953849957)) (oINV1 X M_X6_isWord 6 (oIFNE (J 91) (oALOAD 0 (oGETR 2 0 (oPL (zk (6449524)) (oINV1 X M_X6_isWord 6 (oIFNE (J 91) (oALOAD 0 (oGETR 2 0 (oPL (zk (2002873972)) (oINV1 X M_X6_isWord 6 (oIFNE (J 91) (oALOAD 0 (oGETR 2 0 (oPL (zk (418330731890)) (oINV1 X M_X6_isWord 6 (oIFNE (J 91) (oALOAD 0 (oGETR 2 0 (oPL (zk (7169396)) (oINV1 X M_X6_isWord 6 (oIFNE (J 91) (oALOAD 0 (oGETR 2 0 (oPL (zk (29395908993245561)) (oINV1 X M_X6_isWord 6 (oIFNE (J 91) (oALOAD 0 (oGETR 2 0 (oPL (zk (123581014175598)) (oINV1 X M_X6_isWord 6 (oIFEQ (J 95) (J 91)))))))))))))))))))))))))))))))))))
set_option maxRecDepth 100000 in
theorem vb_X2_startsLine_0 {X : Nat × (Nat → Int32)} {R : zRt} : ∀ ls st h, B_X2_startsLine_0 X (zV X M_X2_startsLine (zQm M_X2_startsLine R) 0 0) R ls st h → zV X M_X2_startsLine (zQm M_X2_startsLine R) 0 0 0 ls st h := sd_aload_n dX2_startsLine_0 rfl (sd_getr dX2_startsLine_1 zCl2 (Nat.le_of_ble_eq_true rfl) lk_RX2_12 (Or.inl ⟨_, rfl⟩) (sd_ldc2 dX2_startsLine_4 (zmt (zt2 (i := 89) rfl) rfl) (sd_inv1 dX2_startsLine_7 rfl mv_X6_isWord na_X6_isWord ml_RX2_68 ⟨⟨Nat.le_of_ble_eq_true rfl, Nat.le_of_ble_eq_true rfl⟩, ⟨Nat.le_of_ble_eq_true rfl, Nat.le_of_ble_eq_true rfl⟩⟩ (sd_ifne dX2_startsLine_10 rfl (fun _ _ _ h => h) (sd_aload_n dX2_startsLine_13 rfl (sd_getr dX2_startsLine_14 zCl2 (Nat.le_of_ble_eq_true rfl) lk_RX2_12 (Or.inl ⟨_, rfl⟩) (sd_ldc2 dX2_startsLine_17 (zmt (zt2 (i := 94) rfl) rfl) (sd_inv1 dX2_startsLine_20 rfl mv_X6_isWord na_X6_isWord ml_RX2_68 ⟨⟨Nat.le_of_ble_eq_true rfl, Nat.le_of_ble_eq_true rfl⟩, ⟨Nat.le_of_ble_eq_true rfl, Nat.le_of_ble_eq_true rfl⟩⟩ (sd_ifne dX2_startsLine_23 rfl (fun _ _ _ h => h) (sd_aload_n dX2_startsLine_26 rfl (sd_getr dX2_startsLine_27 zCl2 (Nat.le_of_ble_eq_true rfl) lk_RX2_12 (Or.inl ⟨_, rfl⟩) (sd_ldc2 dX2_startsLine_30 (zmt (zt2 (i := 95) rfl) rfl) (sd_inv1 dX2_startsLine_33 rfl mv_X6_isWord na_X6_isWord ml_RX2_68 ⟨⟨Nat.le_of_ble_eq_true rfl, Nat.le_of_ble_eq_true rfl⟩, ⟨Nat.le_of_ble_eq_true rfl, Nat.le_of_ble_eq_true rfl⟩⟩ (sd_ifne dX2_startsLine_36 rfl (fun _ _ _ h => h) (sd_aload_n dX2_startsLine_39 rfl (sd_getr dX2_startsLine_40 zCl2 (Nat.le_of_ble_eq_true rfl) lk_RX2_12 (Or.inl ⟨_, rfl⟩) (sd_ldc2 dX2_startsLine_43 (zmt (zt2 (i := 96) rfl) rfl) (sd_inv1 dX2_startsLine_46 rfl mv_X6_isWord na_X6_isWord ml_RX2_68 ⟨⟨Nat.le_of_ble_eq_true rfl, Nat.le_of_ble_eq_true rfl⟩, ⟨Nat.le_of_ble_eq_true rfl, Nat.le_of_ble_eq_true rfl⟩⟩ (sd_ifne dX2_startsLine_49 rfl (fun _ _ _ h => h) (sd_aload_n dX2_startsLine_52 rfl (sd_getr dX2_startsLine_53 zCl2 (Nat.le_of_ble_eq_true rfl) lk_RX2_12 (Or.inl ⟨_, rfl⟩) (sd_ldc2 dX2_startsLine_56 (zmt (zt2 (i := 97) rfl) rfl) (sd_inv1 dX2_startsLine_59 rfl mv_X6_isWord na_X6_isWord ml_RX2_68 ⟨⟨Nat.le_of_ble_eq_true rfl, Nat.le_of_ble_eq_true rfl⟩, ⟨Nat.le_of_ble_eq_true rfl, Nat.le_of_ble_eq_true rfl⟩⟩ (sd_ifne dX2_startsLine_62 rfl (fun _ _ _ h => h) (sd_aload_n dX2_startsLine_65 rfl (sd_getr dX2_startsLine_66 zCl2 (Nat.le_of_ble_eq_true rfl) lk_RX2_12 (Or.inl ⟨_, rfl⟩) (sd_ldc2 dX2_startsLine_69 (zmt (zt2 (i := 98) rfl) rfl) (sd_inv1 dX2_startsLine_72 rfl mv_X6_isWord na_X6_isWord ml_RX2_68 ⟨⟨Nat.le_of_ble_eq_true rfl, Nat.le_of_ble_eq_true rfl⟩, ⟨Nat.le_of_ble_eq_true rfl, Nat.le_of_ble_eq_true rfl⟩⟩ (sd_ifne dX2_startsLine_75 rfl (fun _ _ _ h => h) (sd_aload_n dX2_startsLine_78 rfl (sd_getr dX2_startsLine_79 zCl2 (Nat.le_of_ble_eq_true rfl) lk_RX2_12 (Or.inl ⟨_, rfl⟩) (sd_ldc2 dX2_startsLine_82 (zmt (zt2 (i := 99) rfl) rfl) (sd_inv1 dX2_startsLine_85 rfl mv_X6_isWord na_X6_isWord ml_RX2_68 ⟨⟨Nat.le_of_ble_eq_true rfl, Nat.le_of_ble_eq_true rfl⟩, ⟨Nat.le_of_ble_eq_true rfl, Nat.le_of_ble_eq_true rfl⟩⟩ (sd_ifeq dX2_startsLine_88 rfl (fun _ _ _ h => h) (fun _ _ _ h => h)))))))))))))))))))))))))))))))))))
def B_X2_startsLine_91 (X : Nat × (Nat → Int32)) (J : Nat → zCf) (R : zRt) : zCf := oPI (zj (1)) (J 96)
set_option maxRecDepth 100000 in
theorem vb_X2_startsLine_91 {X : Nat × (Nat → Int32)} {R : zRt} : ∀ ls st h, B_X2_startsLine_91 X (zV X M_X2_startsLine (zQm M_X2_startsLine R) 0 0) R ls st h → zV X M_X2_startsLine (zQm M_X2_startsLine R) 0 0 91 ls st h := sd_iconst dX2_startsLine_91 rfl (sd_goto dX2_startsLine_92 rfl (fun _ _ _ h => h))
def B_X2_startsLine_95 (X : Nat × (Nat → Int32)) (J : Nat → zCf) (R : zRt) : zCf := oPI (zj (0)) (J 96)
set_option maxRecDepth 100000 in
theorem vb_X2_startsLine_95 {X : Nat × (Nat → Int32)} {R : zRt} : ∀ ls st h, B_X2_startsLine_95 X (zV X M_X2_startsLine (zQm M_X2_startsLine R) 0 0) R ls st h → zV X M_X2_startsLine (zQm M_X2_startsLine R) 0 0 95 ls st h := sd_iconst dX2_startsLine_95 rfl (fun _ _ _ h => h)
def B_X2_startsLine_96 (X : Nat × (Nat → Int32)) (J : Nat → zCf) (R : zRt) : zCf := oZRET R
set_option maxRecDepth 100000 in
theorem vb_X2_startsLine_96 {X : Nat × (Nat → Int32)} {R : zRt} : ∀ ls st h, B_X2_startsLine_96 X (zV X M_X2_startsLine (zQm M_X2_startsLine R) 0 0) R ls st h → zV X M_X2_startsLine (zQm M_X2_startsLine R) 0 0 96 ls st h := sd_zret dX2_startsLine_96 rfl (Nat.le_of_ble_eq_true rfl) (Nat.le_of_ble_eq_true rfl)
theorem dX2_readsTube_0 : decode cX2_readsTube 0 = .ok (.aload_n 0, 1) := by decide +kernel
theorem dX2_readsTube_1 : decode cX2_readsTube 1 = .ok (.getfield 32, 3) := by decide +kernel
theorem dX2_readsTube_4 : decode cX2_readsTube 4 = .ok (.ifCond .eq 9, 3) := by decide +kernel
theorem dX2_readsTube_7 : decode cX2_readsTube 7 = .ok (.aload_n 0, 1) := by decide +kernel
theorem dX2_readsTube_8 : decode cX2_readsTube 8 = .ok (.iconst 3, 1) := by decide +kernel
theorem dX2_readsTube_9 : decode cX2_readsTube 9 = .ok (.invokevirtual 53, 3) := by decide +kernel
theorem dX2_readsTube_12 : decode cX2_readsTube 12 = .ok (.ireturn, 1) := by decide +kernel
theorem dX2_readsTube_13 : decode cX2_readsTube 13 = .ok (.aload_n 0, 1) := by decide +kernel
theorem dX2_readsTube_14 : decode cX2_readsTube 14 = .ok (.iconst 1, 1) := by decide +kernel
theorem dX2_readsTube_15 : decode cX2_readsTube 15 = .ok (.putfield 32, 3) := by decide +kernel
theorem dX2_readsTube_18 : decode cX2_readsTube 18 = .ok (.aload_n 0, 1) := by decide +kernel
theorem dX2_readsTube_19 : decode cX2_readsTube 19 = .ok (.ldc2_w 110, 3) := by decide +kernel
theorem dX2_readsTube_22 : decode cX2_readsTube 22 = .ok (.invokevirtual 112, 3) := by decide +kernel
theorem dX2_readsTube_25 : decode cX2_readsTube 25 = .ok (.ifCond .eq 12, 3) := by decide +kernel
theorem dX2_readsTube_28 : decode cX2_readsTube 28 = .ok (.aload_n 0, 1) := by decide +kernel
theorem dX2_readsTube_29 : decode cX2_readsTube 29 = .ok (.bipush 100, 2) := by decide +kernel
theorem dX2_readsTube_31 : decode cX2_readsTube 31 = .ok (.invokevirtual 115, 3) := by decide +kernel
theorem dX2_readsTube_34 : decode cX2_readsTube 34 = .ok (.ifCond .ne 5, 3) := by decide +kernel
theorem dX2_readsTube_37 : decode cX2_readsTube 37 = .ok (.iconst 0, 1) := by decide +kernel
theorem dX2_readsTube_38 : decode cX2_readsTube 38 = .ok (.ireturn, 1) := by decide +kernel
theorem dX2_readsTube_39 : decode cX2_readsTube 39 = .ok (.aload_n 0, 1) := by decide +kernel
theorem dX2_readsTube_40 : decode cX2_readsTube 40 = .ok (.getfield 21, 3) := by decide +kernel
theorem dX2_readsTube_43 : decode cX2_readsTube 43 = .ok (.aload_n 0, 1) := by decide +kernel
theorem dX2_readsTube_44 : decode cX2_readsTube 44 = .ok (.getfield 12, 3) := by decide +kernel
theorem dX2_readsTube_47 : decode cX2_readsTube 47 = .ok (.getfield 118, 3) := by decide +kernel
theorem dX2_readsTube_50 : decode cX2_readsTube 50 = .ok (.putfield 121, 3) := by decide +kernel
theorem dX2_readsTube_53 : decode cX2_readsTube 53 = .ok (.iconst 1, 1) := by decide +kernel
theorem dX2_readsTube_54 : decode cX2_readsTube 54 = .ok (.ireturn, 1) := by decide +kernel
def B_X2_readsTube_0 (X : Nat × (Nat → Int32)) (J : Nat → zCf) (R : zRt) : zCf := oALOAD 0 (oGETI 2 2 (oIFEQ (J 13) (oALOAD 0 (oPI (zj (3)) (oINV1 X M_X2_fails 2 (oZRET R))))))
set_option maxRecDepth 100000 in
theorem vb_X2_readsTube_0 {X : Nat × (Nat → Int32)} {R : zRt} : ∀ ls st h, B_X2_readsTube_0 X (zV X M_X2_readsTube (zQm M_X2_readsTube R) 0 0) R ls st h → zV X M_X2_readsTube (zQm M_X2_readsTube R) 0 0 0 ls st h := sd_aload_n dX2_readsTube_0 rfl (sd_geti dX2_readsTube_1 zCl2 (Nat.le_of_ble_eq_true rfl) lk_RX2_32 (Or.inr rfl) (sd_ifeq dX2_readsTube_4 rfl (fun _ _ _ h => h) (sd_aload_n dX2_readsTube_7 rfl (sd_iconst dX2_readsTube_8 rfl (sd_inv1 dX2_readsTube_9 rfl mv_X2_fails na_X2_fails ml_RX2_53 ⟨⟨Nat.le_of_ble_eq_true rfl, Nat.le_of_ble_eq_true rfl⟩, ⟨Nat.le_of_ble_eq_true rfl, Nat.le_of_ble_eq_true rfl⟩⟩ (sd_zret dX2_readsTube_12 rfl (Nat.le_of_ble_eq_true rfl) (Nat.le_of_ble_eq_true rfl)))))))
def B_X2_readsTube_13 (X : Nat × (Nat → Int32)) (J : Nat → zCf) (R : zRt) : zCf := oALOAD 0 (oPI (zj (1)) (oPUTZ 2 2 (oALOAD 0 (oPL (zk (491495648371)) (oINV1 X M_X2_readsWord 2 (oIFEQ (J 37) (oALOAD 0 (oPI (zj (100)) (oINV1 X M_X2_readsWhole 2 (oIFNE (J 39) (J 37)))))))))))
set_option maxRecDepth 100000 in
theorem vb_X2_readsTube_13 {X : Nat × (Nat → Int32)} {R : zRt} : ∀ ls st h, B_X2_readsTube_13 X (zV X M_X2_readsTube (zQm M_X2_readsTube R) 0 0) R ls st h → zV X M_X2_readsTube (zQm M_X2_readsTube R) 0 0 13 ls st h := sd_aload_n dX2_readsTube_13 rfl (sd_iconst dX2_readsTube_14 rfl (sd_putz dX2_readsTube_15 zCl2 (Nat.le_of_ble_eq_true rfl) lk_RX2_32 rfl (Or.inl rfl) (sd_aload_n dX2_readsTube_18 rfl (sd_ldc2 dX2_readsTube_19 (zmt (zt2 (i := 108) rfl) rfl) (sd_inv1 dX2_readsTube_22 rfl mv_X2_readsWord na_X2_readsWord ml_RX2_112 ⟨⟨Nat.le_of_ble_eq_true rfl, Nat.le_of_ble_eq_true rfl⟩, ⟨Nat.le_of_ble_eq_true rfl, Nat.le_of_ble_eq_true rfl⟩⟩ (sd_ifeq dX2_readsTube_25 rfl (fun _ _ _ h => h) (sd_aload_n dX2_readsTube_28 rfl (sd_bipush dX2_readsTube_29 rfl (sd_inv1 dX2_readsTube_31 rfl mv_X2_readsWhole na_X2_readsWhole ml_RX2_115 ⟨⟨Nat.le_of_ble_eq_true rfl, Nat.le_of_ble_eq_true rfl⟩, ⟨Nat.le_of_ble_eq_true rfl, Nat.le_of_ble_eq_true rfl⟩⟩ (sd_ifne dX2_readsTube_34 rfl (fun _ _ _ h => h) (fun _ _ _ h => h)))))))))))
def B_X2_readsTube_37 (X : Nat × (Nat → Int32)) (J : Nat → zCf) (R : zRt) : zCf := oPI (zj (0)) (oZRET R)
set_option maxRecDepth 100000 in
theorem vb_X2_readsTube_37 {X : Nat × (Nat → Int32)} {R : zRt} : ∀ ls st h, B_X2_readsTube_37 X (zV X M_X2_readsTube (zQm M_X2_readsTube R) 0 0) R ls st h → zV X M_X2_readsTube (zQm M_X2_readsTube R) 0 0 37 ls st h := sd_iconst dX2_readsTube_37 rfl (sd_zret dX2_readsTube_38 rfl (Nat.le_of_ble_eq_true rfl) (Nat.le_of_ble_eq_true rfl))
def B_X2_readsTube_39 (X : Nat × (Nat → Int32)) (J : Nat → zCf) (R : zRt) : zCf := oALOAD 0 (oGETR 2 1 (oALOAD 0 (oGETR 2 0 (oGETI 6 7 (oPUTI 1 0 (oPI (zj (1)) (oZRET R)))))))
set_option maxRecDepth 100000 in
theorem vb_X2_readsTube_39 {X : Nat × (Nat → Int32)} {R : zRt} : ∀ ls st h, B_X2_readsTube_39 X (zV X M_X2_readsTube (zQm M_X2_readsTube R) 0 0) R ls st h → zV X M_X2_readsTube (zQm M_X2_readsTube R) 0 0 39 ls st h := sd_aload_n dX2_readsTube_39 rfl (sd_getr dX2_readsTube_40 zCl2 (Nat.le_of_ble_eq_true rfl) lk_RX2_21 (Or.inl ⟨_, rfl⟩) (sd_aload_n dX2_readsTube_43 rfl (sd_getr dX2_readsTube_44 zCl2 (Nat.le_of_ble_eq_true rfl) lk_RX2_12 (Or.inl ⟨_, rfl⟩) (sd_geti dX2_readsTube_47 zCl6 (Nat.le_of_ble_eq_true rfl) lk_RX2_118 (Or.inl rfl) (sd_puti dX2_readsTube_50 zCl1 (Nat.le_of_ble_eq_true rfl) lk_RX2_121 rfl (Or.inl rfl) (sd_iconst dX2_readsTube_53 rfl (sd_zret dX2_readsTube_54 rfl (Nat.le_of_ble_eq_true rfl) (Nat.le_of_ble_eq_true rfl))))))))
theorem dX2_readsBit_0 : decode cX2_readsBit 0 = .ok (.aload_n 0, 1) := by decide +kernel
theorem dX2_readsBit_1 : decode cX2_readsBit 1 = .ok (.getfield 21, 3) := by decide +kernel
theorem dX2_readsBit_4 : decode cX2_readsBit 4 = .ok (.getfield 50, 3) := by decide +kernel
theorem dX2_readsBit_7 : decode cX2_readsBit 7 = .ok (.bipush 6, 2) := by decide +kernel
theorem dX2_readsBit_9 : decode cX2_readsBit 9 = .ok (.if_icmp .lt 9, 3) := by decide +kernel
theorem dX2_readsBit_12 : decode cX2_readsBit 12 = .ok (.aload_n 0, 1) := by decide +kernel
theorem dX2_readsBit_13 : decode cX2_readsBit 13 = .ok (.iconst 5, 1) := by decide +kernel
theorem dX2_readsBit_14 : decode cX2_readsBit 14 = .ok (.invokevirtual 53, 3) := by decide +kernel
theorem dX2_readsBit_17 : decode cX2_readsBit 17 = .ok (.ireturn, 1) := by decide +kernel
theorem dX2_readsBit_18 : decode cX2_readsBit 18 = .ok (.aload_n 0, 1) := by decide +kernel
theorem dX2_readsBit_19 : decode cX2_readsBit 19 = .ok (.invokevirtual 124, 3) := by decide +kernel
theorem dX2_readsBit_22 : decode cX2_readsBit 22 = .ok (.ifCond .ne 5, 3) := by decide +kernel
theorem dX2_readsBit_25 : decode cX2_readsBit 25 = .ok (.iconst 0, 1) := by decide +kernel
theorem dX2_readsBit_26 : decode cX2_readsBit 26 = .ok (.ireturn, 1) := by decide +kernel
theorem dX2_readsBit_27 : decode cX2_readsBit 27 = .ok (.aload_n 0, 1) := by decide +kernel
theorem dX2_readsBit_28 : decode cX2_readsBit 28 = .ok (.getfield 12, 3) := by decide +kernel
theorem dX2_readsBit_31 : decode cX2_readsBit 31 = .ok (.getfield 127, 3) := by decide +kernel
theorem dX2_readsBit_34 : decode cX2_readsBit 34 = .ok (.lstore_n 1, 1) := by decide +kernel
theorem dX2_readsBit_35 : decode cX2_readsBit 35 = .ok (.aload_n 0, 1) := by decide +kernel
theorem dX2_readsBit_36 : decode cX2_readsBit 36 = .ok (.getfield 12, 3) := by decide +kernel
theorem dX2_readsBit_39 : decode cX2_readsBit 39 = .ok (.invokevirtual 44, 3) := by decide +kernel
theorem dX2_readsBit_42 : decode cX2_readsBit 42 = .ok (.aload_n 0, 1) := by decide +kernel
theorem dX2_readsBit_43 : decode cX2_readsBit 43 = .ok (.invokevirtual 131, 3) := by decide +kernel
theorem dX2_readsBit_46 : decode cX2_readsBit 46 = .ok (.istore_n 3, 1) := by decide +kernel
theorem dX2_readsBit_47 : decode cX2_readsBit 47 = .ok (.iload_n 3, 1) := by decide +kernel
theorem dX2_readsBit_48 : decode cX2_readsBit 48 = .ok (.iconst (-1), 1) := by decide +kernel
theorem dX2_readsBit_49 : decode cX2_readsBit 49 = .ok (.if_icmp .ne 9, 3) := by decide +kernel
theorem dX2_readsBit_52 : decode cX2_readsBit 52 = .ok (.aload_n 0, 1) := by decide +kernel
theorem dX2_readsBit_53 : decode cX2_readsBit 53 = .ok (.iconst 1, 1) := by decide +kernel
theorem dX2_readsBit_54 : decode cX2_readsBit 54 = .ok (.invokevirtual 53, 3) := by decide +kernel
theorem dX2_readsBit_57 : decode cX2_readsBit 57 = .ok (.ireturn, 1) := by decide +kernel
theorem dX2_readsBit_58 : decode cX2_readsBit 58 = .ok (.aload_n 0, 1) := by decide +kernel
theorem dX2_readsBit_59 : decode cX2_readsBit 59 = .ok (.invokevirtual 135, 3) := by decide +kernel
theorem dX2_readsBit_62 : decode cX2_readsBit 62 = .ok (.ifCond .ne 5, 3) := by decide +kernel
theorem dX2_readsBit_65 : decode cX2_readsBit 65 = .ok (.iconst 0, 1) := by decide +kernel
theorem dX2_readsBit_66 : decode cX2_readsBit 66 = .ok (.ireturn, 1) := by decide +kernel
theorem dX2_readsBit_67 : decode cX2_readsBit 67 = .ok (.aload_n 0, 1) := by decide +kernel
theorem dX2_readsBit_68 : decode cX2_readsBit 68 = .ok (.getfield 12, 3) := by decide +kernel
theorem dX2_readsBit_71 : decode cX2_readsBit 71 = .ok (.getfield 127, 3) := by decide +kernel
theorem dX2_readsBit_74 : decode cX2_readsBit 74 = .ok (.lstore 4, 2) := by decide +kernel
theorem dX2_readsBit_76 : decode cX2_readsBit 76 = .ok (.aload_n 0, 1) := by decide +kernel
theorem dX2_readsBit_77 : decode cX2_readsBit 77 = .ok (.ldc2_w 138, 3) := by decide +kernel
theorem dX2_readsBit_80 : decode cX2_readsBit 80 = .ok (.invokevirtual 112, 3) := by decide +kernel
theorem dX2_readsBit_83 : decode cX2_readsBit 83 = .ok (.ifCond .eq 12, 3) := by decide +kernel
theorem dX2_readsBit_86 : decode cX2_readsBit 86 = .ok (.aload_n 0, 1) := by decide +kernel
theorem dX2_readsBit_87 : decode cX2_readsBit 87 = .ok (.bipush 11, 2) := by decide +kernel
theorem dX2_readsBit_89 : decode cX2_readsBit 89 = .ok (.invokevirtual 115, 3) := by decide +kernel
theorem dX2_readsBit_92 : decode cX2_readsBit 92 = .ok (.ifCond .ne 5, 3) := by decide +kernel
theorem dX2_readsBit_95 : decode cX2_readsBit 95 = .ok (.iconst 0, 1) := by decide +kernel
theorem dX2_readsBit_96 : decode cX2_readsBit 96 = .ok (.ireturn, 1) := by decide +kernel
theorem dX2_readsBit_97 : decode cX2_readsBit 97 = .ok (.aload_n 0, 1) := by decide +kernel
theorem dX2_readsBit_98 : decode cX2_readsBit 98 = .ok (.getfield 21, 3) := by decide +kernel
theorem dX2_readsBit_101 : decode cX2_readsBit 101 = .ok (.lload_n 1, 1) := by decide +kernel
theorem dX2_readsBit_102 : decode cX2_readsBit 102 = .ok (.iload_n 3, 1) := by decide +kernel
theorem dX2_readsBit_103 : decode cX2_readsBit 103 = .ok (.lload 4, 2) := by decide +kernel
theorem dX2_readsBit_105 : decode cX2_readsBit 105 = .ok (.aload_n 0, 1) := by decide +kernel
theorem dX2_readsBit_106 : decode cX2_readsBit 106 = .ok (.getfield 12, 3) := by decide +kernel
theorem dX2_readsBit_109 : decode cX2_readsBit 109 = .ok (.getfield 118, 3) := by decide +kernel
theorem dX2_readsBit_112 : decode cX2_readsBit 112 = .ok (.invokevirtual 140, 3) := by decide +kernel
theorem dX2_readsBit_115 : decode cX2_readsBit 115 = .ok (.iconst 1, 1) := by decide +kernel
theorem dX2_readsBit_116 : decode cX2_readsBit 116 = .ok (.ireturn, 1) := by decide +kernel
def B_X2_readsBit_0 (X : Nat × (Nat → Int32)) (J : Nat → zCf) (R : zRt) : zCf := oALOAD 0 (oGETR 2 1 (oGETI 1 1 (oPI (zj (6)) (oICLT (J 18) (oALOAD 0 (oPI (zj (5)) (oINV1 X M_X2_fails 2 (oZRET R))))))))
set_option maxRecDepth 100000 in
theorem vb_X2_readsBit_0 {X : Nat × (Nat → Int32)} {R : zRt} : ∀ ls st h, B_X2_readsBit_0 X (zV X M_X2_readsBit (zQm M_X2_readsBit R) 0 0) R ls st h → zV X M_X2_readsBit (zQm M_X2_readsBit R) 0 0 0 ls st h := sd_aload_n dX2_readsBit_0 rfl (sd_getr dX2_readsBit_1 zCl2 (Nat.le_of_ble_eq_true rfl) lk_RX2_21 (Or.inl ⟨_, rfl⟩) (sd_geti dX2_readsBit_4 zCl1 (Nat.le_of_ble_eq_true rfl) lk_RX2_50 (Or.inl rfl) (sd_bipush dX2_readsBit_7 rfl (sd_iclt dX2_readsBit_9 rfl (fun _ _ _ h => h) (sd_aload_n dX2_readsBit_12 rfl (sd_iconst dX2_readsBit_13 rfl (sd_inv1 dX2_readsBit_14 rfl mv_X2_fails na_X2_fails ml_RX2_53 ⟨⟨Nat.le_of_ble_eq_true rfl, Nat.le_of_ble_eq_true rfl⟩, ⟨Nat.le_of_ble_eq_true rfl, Nat.le_of_ble_eq_true rfl⟩⟩ (sd_zret dX2_readsBit_17 rfl (Nat.le_of_ble_eq_true rfl) (Nat.le_of_ble_eq_true rfl)))))))))
def B_X2_readsBit_18 (X : Nat × (Nat → Int32)) (J : Nat → zCf) (R : zRt) : zCf := oALOAD 0 (oINV0 X M_X2_readsNewName 2 (oIFNE (J 27) (oPI (zj (0)) (oZRET R))))
set_option maxRecDepth 100000 in
theorem vb_X2_readsBit_18 {X : Nat × (Nat → Int32)} {R : zRt} : ∀ ls st h, B_X2_readsBit_18 X (zV X M_X2_readsBit (zQm M_X2_readsBit R) 0 0) R ls st h → zV X M_X2_readsBit (zQm M_X2_readsBit R) 0 0 18 ls st h := sd_aload_n dX2_readsBit_18 rfl (sd_inv0 dX2_readsBit_19 rfl mv_X2_readsNewName na_X2_readsNewName ml_RX2_124 ⟨⟨Nat.le_of_ble_eq_true rfl, Nat.le_of_ble_eq_true rfl⟩, ⟨Nat.le_of_ble_eq_true rfl, Nat.le_of_ble_eq_true rfl⟩⟩ (sd_ifne dX2_readsBit_22 rfl (fun _ _ _ h => h) (sd_iconst dX2_readsBit_25 rfl (sd_zret dX2_readsBit_26 rfl (Nat.le_of_ble_eq_true rfl) (Nat.le_of_ble_eq_true rfl)))))
def B_X2_readsBit_27 (X : Nat × (Nat → Int32)) (J : Nat → zCf) (R : zRt) : zCf := oALOAD 0 (oGETR 2 0 (oGETL 6 6 (oLSTORE 0 1 (oALOAD 0 (oGETR 2 0 (oINV0 X M_X6_next 6 (oALOAD 0 (oINV0 X M_X2_sortTold 2 (oISTORE 2 3 (oILOAD 3 (oPI (zj (-1)) (oICNE (J 58) (oALOAD 0 (oPI (zj (1)) (oINV1 X M_X2_fails 2 (oZRET R))))))))))))))))
set_option maxRecDepth 100000 in
theorem vb_X2_readsBit_27 {X : Nat × (Nat → Int32)} {R : zRt} : ∀ ls st h, B_X2_readsBit_27 X (zV X M_X2_readsBit (zQm M_X2_readsBit R) 0 0) R ls st h → zV X M_X2_readsBit (zQm M_X2_readsBit R) 0 0 27 ls st h := sd_aload_n dX2_readsBit_27 rfl (sd_getr dX2_readsBit_28 zCl2 (Nat.le_of_ble_eq_true rfl) lk_RX2_12 (Or.inl ⟨_, rfl⟩) (sd_getl dX2_readsBit_31 zCl6 (Nat.le_of_ble_eq_true rfl) lk_RX2_127 rfl (sd_lstore_n dX2_readsBit_34 rfl (Nat.le_of_ble_eq_true rfl) (Or.inl rfl) (sd_aload_n dX2_readsBit_35 rfl (sd_getr dX2_readsBit_36 zCl2 (Nat.le_of_ble_eq_true rfl) lk_RX2_12 (Or.inl ⟨_, rfl⟩) (sd_inv0 dX2_readsBit_39 rfl mv_X6_next na_X6_next ml_RX2_44 ⟨⟨Nat.le_of_ble_eq_true rfl, Nat.le_of_ble_eq_true rfl⟩, ⟨Nat.le_of_ble_eq_true rfl, Nat.le_of_ble_eq_true rfl⟩⟩ (sd_aload_n dX2_readsBit_42 rfl (sd_inv0 dX2_readsBit_43 rfl mv_X2_sortTold na_X2_sortTold ml_RX2_131 ⟨⟨Nat.le_of_ble_eq_true rfl, Nat.le_of_ble_eq_true rfl⟩, ⟨Nat.le_of_ble_eq_true rfl, Nat.le_of_ble_eq_true rfl⟩⟩ (sd_istore_n dX2_readsBit_46 rfl (Nat.le_of_ble_eq_true rfl) (Or.inl rfl) (sd_iload_n dX2_readsBit_47 rfl (sd_iconst dX2_readsBit_48 rfl (sd_icne dX2_readsBit_49 rfl (fun _ _ _ h => h) (sd_aload_n dX2_readsBit_52 rfl (sd_iconst dX2_readsBit_53 rfl (sd_inv1 dX2_readsBit_54 rfl mv_X2_fails na_X2_fails ml_RX2_53 ⟨⟨Nat.le_of_ble_eq_true rfl, Nat.le_of_ble_eq_true rfl⟩, ⟨Nat.le_of_ble_eq_true rfl, Nat.le_of_ble_eq_true rfl⟩⟩ (sd_zret dX2_readsBit_57 rfl (Nat.le_of_ble_eq_true rfl) (Nat.le_of_ble_eq_true rfl)))))))))))))))))
def B_X2_readsBit_58 (X : Nat × (Nat → Int32)) (J : Nat → zCf) (R : zRt) : zCf := oALOAD 0 (oINV0 X M_X2_readsAnyWord 2 (oIFNE (J 67) (oPI (zj (0)) (oZRET R))))
set_option maxRecDepth 100000 in
theorem vb_X2_readsBit_58 {X : Nat × (Nat → Int32)} {R : zRt} : ∀ ls st h, B_X2_readsBit_58 X (zV X M_X2_readsBit (zQm M_X2_readsBit R) 0 0) R ls st h → zV X M_X2_readsBit (zQm M_X2_readsBit R) 0 0 58 ls st h := sd_aload_n dX2_readsBit_58 rfl (sd_inv0 dX2_readsBit_59 rfl mv_X2_readsAnyWord na_X2_readsAnyWord ml_RX2_135 ⟨⟨Nat.le_of_ble_eq_true rfl, Nat.le_of_ble_eq_true rfl⟩, ⟨Nat.le_of_ble_eq_true rfl, Nat.le_of_ble_eq_true rfl⟩⟩ (sd_ifne dX2_readsBit_62 rfl (fun _ _ _ h => h) (sd_iconst dX2_readsBit_65 rfl (sd_zret dX2_readsBit_66 rfl (Nat.le_of_ble_eq_true rfl) (Nat.le_of_ble_eq_true rfl)))))
def B_X2_readsBit_67 (X : Nat × (Nat → Int32)) (J : Nat → zCf) (R : zRt) : zCf := oALOAD 0 (oGETR 2 0 (oGETL 6 6 (oLSTORE 3 4 (oALOAD 0 (oPL (zk (24948)) (oINV1 X M_X2_readsWord 2 (oIFEQ (J 95) (oALOAD 0 (oPI (zj (11)) (oINV1 X M_X2_readsWhole 2 (oIFNE (J 97) (J 95))))))))))))
set_option maxRecDepth 100000 in
theorem vb_X2_readsBit_67 {X : Nat × (Nat → Int32)} {R : zRt} : ∀ ls st h, B_X2_readsBit_67 X (zV X M_X2_readsBit (zQm M_X2_readsBit R) 0 0) R ls st h → zV X M_X2_readsBit (zQm M_X2_readsBit R) 0 0 67 ls st h := sd_aload_n dX2_readsBit_67 rfl (sd_getr dX2_readsBit_68 zCl2 (Nat.le_of_ble_eq_true rfl) lk_RX2_12 (Or.inl ⟨_, rfl⟩) (sd_getl dX2_readsBit_71 zCl6 (Nat.le_of_ble_eq_true rfl) lk_RX2_127 rfl (sd_lstore dX2_readsBit_74 (Nat.le_of_ble_eq_true rfl) (Or.inl rfl) (sd_aload_n dX2_readsBit_76 rfl (sd_ldc2 dX2_readsBit_77 (zmt (zt2 (i := 145) rfl) rfl) (sd_inv1 dX2_readsBit_80 rfl mv_X2_readsWord na_X2_readsWord ml_RX2_112 ⟨⟨Nat.le_of_ble_eq_true rfl, Nat.le_of_ble_eq_true rfl⟩, ⟨Nat.le_of_ble_eq_true rfl, Nat.le_of_ble_eq_true rfl⟩⟩ (sd_ifeq dX2_readsBit_83 rfl (fun _ _ _ h => h) (sd_aload_n dX2_readsBit_86 rfl (sd_bipush dX2_readsBit_87 rfl (sd_inv1 dX2_readsBit_89 rfl mv_X2_readsWhole na_X2_readsWhole ml_RX2_115 ⟨⟨Nat.le_of_ble_eq_true rfl, Nat.le_of_ble_eq_true rfl⟩, ⟨Nat.le_of_ble_eq_true rfl, Nat.le_of_ble_eq_true rfl⟩⟩ (sd_ifne dX2_readsBit_92 rfl (fun _ _ _ h => h) (fun _ _ _ h => h))))))))))))
def B_X2_readsBit_95 (X : Nat × (Nat → Int32)) (J : Nat → zCf) (R : zRt) : zCf := oPI (zj (0)) (oZRET R)
set_option maxRecDepth 100000 in
theorem vb_X2_readsBit_95 {X : Nat × (Nat → Int32)} {R : zRt} : ∀ ls st h, B_X2_readsBit_95 X (zV X M_X2_readsBit (zQm M_X2_readsBit R) 0 0) R ls st h → zV X M_X2_readsBit (zQm M_X2_readsBit R) 0 0 95 ls st h := sd_iconst dX2_readsBit_95 rfl (sd_zret dX2_readsBit_96 rfl (Nat.le_of_ble_eq_true rfl) (Nat.le_of_ble_eq_true rfl))
def B_X2_readsBit_97 (X : Nat × (Nat → Int32)) (J : Nat → zCf) (R : zRt) : zCf := oALOAD 0 (oGETR 2 1 (oLLOAD 1 (oILOAD 3 (oLLOAD 4 (oALOAD 0 (oGETR 2 0 (oGETI 6 7 (oINV4 X M_X1_addBit 1 (oPI (zj (1)) (oZRET R))))))))))
set_option maxRecDepth 100000 in
theorem vb_X2_readsBit_97 {X : Nat × (Nat → Int32)} {R : zRt} : ∀ ls st h, B_X2_readsBit_97 X (zV X M_X2_readsBit (zQm M_X2_readsBit R) 0 0) R ls st h → zV X M_X2_readsBit (zQm M_X2_readsBit R) 0 0 97 ls st h := sd_aload_n dX2_readsBit_97 rfl (sd_getr dX2_readsBit_98 zCl2 (Nat.le_of_ble_eq_true rfl) lk_RX2_21 (Or.inl ⟨_, rfl⟩) (sd_lload_n dX2_readsBit_101 rfl (sd_iload_n dX2_readsBit_102 rfl (sd_lload dX2_readsBit_103 (sd_aload_n dX2_readsBit_105 rfl (sd_getr dX2_readsBit_106 zCl2 (Nat.le_of_ble_eq_true rfl) lk_RX2_12 (Or.inl ⟨_, rfl⟩) (sd_geti dX2_readsBit_109 zCl6 (Nat.le_of_ble_eq_true rfl) lk_RX2_118 (Or.inl rfl) (sd_inv4 dX2_readsBit_112 rfl mv_X1_addBit na_X1_addBit ml_RX2_140 ⟨⟨Nat.le_of_ble_eq_true rfl, Nat.le_of_ble_eq_true rfl⟩, ⟨Nat.le_of_ble_eq_true rfl, Nat.le_of_ble_eq_true rfl⟩⟩ (sd_iconst dX2_readsBit_115 rfl (sd_zret dX2_readsBit_116 rfl (Nat.le_of_ble_eq_true rfl) (Nat.le_of_ble_eq_true rfl)))))))))))
theorem dX2_sortTold_0 : decode cX2_sortTold 0 = .ok (.aload_n 0, 1) := by decide +kernel
theorem dX2_sortTold_1 : decode cX2_sortTold 1 = .ok (.getfield 12, 3) := by decide +kernel
theorem dX2_sortTold_4 : decode cX2_sortTold 4 = .ok (.ldc2_w 144, 3) := by decide +kernel
theorem dX2_sortTold_7 : decode cX2_sortTold 7 = .ok (.invokevirtual 68, 3) := by decide +kernel
theorem dX2_sortTold_10 : decode cX2_sortTold 10 = .ok (.ifCond .eq 5, 3) := by decide +kernel
theorem dX2_sortTold_13 : decode cX2_sortTold 13 = .ok (.iconst 0, 1) := by decide +kernel
theorem dX2_sortTold_14 : decode cX2_sortTold 14 = .ok (.ireturn, 1) := by decide +kernel
theorem dX2_sortTold_15 : decode cX2_sortTold 15 = .ok (.aload_n 0, 1) := by decide +kernel
theorem dX2_sortTold_16 : decode cX2_sortTold 16 = .ok (.getfield 12, 3) := by decide +kernel
theorem dX2_sortTold_19 : decode cX2_sortTold 19 = .ok (.ldc2_w 146, 3) := by decide +kernel
theorem dX2_sortTold_22 : decode cX2_sortTold 22 = .ok (.invokevirtual 68, 3) := by decide +kernel
theorem dX2_sortTold_25 : decode cX2_sortTold 25 = .ok (.ifCond .eq 5, 3) := by decide +kernel
theorem dX2_sortTold_28 : decode cX2_sortTold 28 = .ok (.iconst 1, 1) := by decide +kernel
theorem dX2_sortTold_29 : decode cX2_sortTold 29 = .ok (.ireturn, 1) := by decide +kernel
theorem dX2_sortTold_30 : decode cX2_sortTold 30 = .ok (.aload_n 0, 1) := by decide +kernel
theorem dX2_sortTold_31 : decode cX2_sortTold 31 = .ok (.getfield 12, 3) := by decide +kernel
theorem dX2_sortTold_34 : decode cX2_sortTold 34 = .ok (.ldc2_w 148, 3) := by decide +kernel
theorem dX2_sortTold_37 : decode cX2_sortTold 37 = .ok (.invokevirtual 68, 3) := by decide +kernel
theorem dX2_sortTold_40 : decode cX2_sortTold 40 = .ok (.ifCond .eq 5, 3) := by decide +kernel
theorem dX2_sortTold_43 : decode cX2_sortTold 43 = .ok (.iconst 2, 1) := by decide +kernel
theorem dX2_sortTold_44 : decode cX2_sortTold 44 = .ok (.ireturn, 1) := by decide +kernel
theorem dX2_sortTold_45 : decode cX2_sortTold 45 = .ok (.aload_n 0, 1) := by decide +kernel
theorem dX2_sortTold_46 : decode cX2_sortTold 46 = .ok (.getfield 12, 3) := by decide +kernel
theorem dX2_sortTold_49 : decode cX2_sortTold 49 = .ok (.ldc2_w 150, 3) := by decide +kernel
theorem dX2_sortTold_52 : decode cX2_sortTold 52 = .ok (.invokevirtual 68, 3) := by decide +kernel
theorem dX2_sortTold_55 : decode cX2_sortTold 55 = .ok (.ifCond .eq 7, 3) := by decide +kernel
theorem dX2_sortTold_58 : decode cX2_sortTold 58 = .ok (.iconst 3, 1) := by decide +kernel
theorem dX2_sortTold_59 : decode cX2_sortTold 59 = .ok (.goto 4, 3) := by decide +kernel
theorem dX2_sortTold_62 : decode cX2_sortTold 62 = .ok (.iconst (-1), 1) := by decide +kernel
theorem dX2_sortTold_63 : decode cX2_sortTold 63 = .ok (.ireturn, 1) := by decide +kernel
def B_X2_sortTold_0 (X : Nat × (Nat → Int32)) (J : Nat → zCf) (R : zRt) : zCf := oALOAD 0 (oGETR 2 0 (oPL (zk (465624852596)) (oINV1 X M_X6_isWord 6 (oIFEQ (J 15) (oPI (zj (0)) (oIRET R))))))
set_option maxRecDepth 100000 in
theorem vb_X2_sortTold_0 {X : Nat × (Nat → Int32)} {R : zRt} : ∀ ls st h, B_X2_sortTold_0 X (zV X M_X2_sortTold (zQm M_X2_sortTold R) 0 0) R ls st h → zV X M_X2_sortTold (zQm M_X2_sortTold R) 0 0 0 ls st h := sd_aload_n dX2_sortTold_0 rfl (sd_getr dX2_sortTold_1 zCl2 (Nat.le_of_ble_eq_true rfl) lk_RX2_12 (Or.inl ⟨_, rfl⟩) (sd_ldc2 dX2_sortTold_4 (zmt (zt2 (i := 137) rfl) rfl) (sd_inv1 dX2_sortTold_7 rfl mv_X6_isWord na_X6_isWord ml_RX2_68 ⟨⟨Nat.le_of_ble_eq_true rfl, Nat.le_of_ble_eq_true rfl⟩, ⟨Nat.le_of_ble_eq_true rfl, Nat.le_of_ble_eq_true rfl⟩⟩ (sd_ifeq dX2_sortTold_10 rfl (fun _ _ _ h => h) (sd_iconst dX2_sortTold_13 rfl (sd_iret dX2_sortTold_14 rfl (Nat.le_of_ble_eq_true rfl) (Nat.le_of_ble_eq_true rfl)))))))
def B_X2_sortTold_15 (X : Nat × (Nat → Int32)) (J : Nat → zCf) (R : zRt) : zCf := oALOAD 0 (oGETR 2 0 (oPL (zk (482854660462)) (oINV1 X M_X6_isWord 6 (oIFEQ (J 30) (oPI (zj (1)) (oIRET R))))))
set_option maxRecDepth 100000 in
theorem vb_X2_sortTold_15 {X : Nat × (Nat → Int32)} {R : zRt} : ∀ ls st h, B_X2_sortTold_15 X (zV X M_X2_sortTold (zQm M_X2_sortTold R) 0 0) R ls st h → zV X M_X2_sortTold (zQm M_X2_sortTold R) 0 0 15 ls st h := sd_aload_n dX2_sortTold_15 rfl (sd_getr dX2_sortTold_16 zCl2 (Nat.le_of_ble_eq_true rfl) lk_RX2_12 (Or.inl ⟨_, rfl⟩) (sd_ldc2 dX2_sortTold_19 (zmt (zt2 (i := 138) rfl) rfl) (sd_inv1 dX2_sortTold_22 rfl mv_X6_isWord na_X6_isWord ml_RX2_68 ⟨⟨Nat.le_of_ble_eq_true rfl, Nat.le_of_ble_eq_true rfl⟩, ⟨Nat.le_of_ble_eq_true rfl, Nat.le_of_ble_eq_true rfl⟩⟩ (sd_ifeq dX2_sortTold_25 rfl (fun _ _ _ h => h) (sd_iconst dX2_sortTold_28 rfl (sd_iret dX2_sortTold_29 rfl (Nat.le_of_ble_eq_true rfl) (Nat.le_of_ble_eq_true rfl)))))))
def B_X2_sortTold_30 (X : Nat × (Nat → Int32)) (J : Nat → zCf) (R : zRt) : zCf := oALOAD 0 (oGETR 2 0 (oPL (zk (448377484921)) (oINV1 X M_X6_isWord 6 (oIFEQ (J 45) (oPI (zj (2)) (oIRET R))))))
set_option maxRecDepth 100000 in
theorem vb_X2_sortTold_30 {X : Nat × (Nat → Int32)} {R : zRt} : ∀ ls st h, B_X2_sortTold_30 X (zV X M_X2_sortTold (zQm M_X2_sortTold R) 0 0) R ls st h → zV X M_X2_sortTold (zQm M_X2_sortTold R) 0 0 30 ls st h := sd_aload_n dX2_sortTold_30 rfl (sd_getr dX2_sortTold_31 zCl2 (Nat.le_of_ble_eq_true rfl) lk_RX2_12 (Or.inl ⟨_, rfl⟩) (sd_ldc2 dX2_sortTold_34 (zmt (zt2 (i := 139) rfl) rfl) (sd_inv1 dX2_sortTold_37 rfl mv_X6_isWord na_X6_isWord ml_RX2_68 ⟨⟨Nat.le_of_ble_eq_true rfl, Nat.le_of_ble_eq_true rfl⟩, ⟨Nat.le_of_ble_eq_true rfl, Nat.le_of_ble_eq_true rfl⟩⟩ (sd_ifeq dX2_sortTold_40 rfl (fun _ _ _ h => h) (sd_iconst dX2_sortTold_43 rfl (sd_iret dX2_sortTold_44 rfl (Nat.le_of_ble_eq_true rfl) (Nat.le_of_ble_eq_true rfl)))))))
def B_X2_sortTold_45 (X : Nat × (Nat → Int32)) (J : Nat → zCf) (R : zRt) : zCf := oALOAD 0 (oGETR 2 0 (oPL (zk (444201264484)) (oINV1 X M_X6_isWord 6 (oIFEQ (J 62) (oPI (zj (3)) (J 63))))))
set_option maxRecDepth 100000 in
theorem vb_X2_sortTold_45 {X : Nat × (Nat → Int32)} {R : zRt} : ∀ ls st h, B_X2_sortTold_45 X (zV X M_X2_sortTold (zQm M_X2_sortTold R) 0 0) R ls st h → zV X M_X2_sortTold (zQm M_X2_sortTold R) 0 0 45 ls st h := sd_aload_n dX2_sortTold_45 rfl (sd_getr dX2_sortTold_46 zCl2 (Nat.le_of_ble_eq_true rfl) lk_RX2_12 (Or.inl ⟨_, rfl⟩) (sd_ldc2 dX2_sortTold_49 (zmt (zt2 (i := 140) rfl) rfl) (sd_inv1 dX2_sortTold_52 rfl mv_X6_isWord na_X6_isWord ml_RX2_68 ⟨⟨Nat.le_of_ble_eq_true rfl, Nat.le_of_ble_eq_true rfl⟩, ⟨Nat.le_of_ble_eq_true rfl, Nat.le_of_ble_eq_true rfl⟩⟩ (sd_ifeq dX2_sortTold_55 rfl (fun _ _ _ h => h) (sd_iconst dX2_sortTold_58 rfl (sd_goto dX2_sortTold_59 rfl (fun _ _ _ h => h)))))))
def B_X2_sortTold_62 (X : Nat × (Nat → Int32)) (J : Nat → zCf) (R : zRt) : zCf := oPI (zj (-1)) (J 63)
set_option maxRecDepth 100000 in
theorem vb_X2_sortTold_62 {X : Nat × (Nat → Int32)} {R : zRt} : ∀ ls st h, B_X2_sortTold_62 X (zV X M_X2_sortTold (zQm M_X2_sortTold R) 0 0) R ls st h → zV X M_X2_sortTold (zQm M_X2_sortTold R) 0 0 62 ls st h := sd_iconst dX2_sortTold_62 rfl (fun _ _ _ h => h)
def B_X2_sortTold_63 (X : Nat × (Nat → Int32)) (J : Nat → zCf) (R : zRt) : zCf := oIRET R
set_option maxRecDepth 100000 in
theorem vb_X2_sortTold_63 {X : Nat × (Nat → Int32)} {R : zRt} : ∀ ls st h, B_X2_sortTold_63 X (zV X M_X2_sortTold (zQm M_X2_sortTold R) 0 0) R ls st h → zV X M_X2_sortTold (zQm M_X2_sortTold R) 0 0 63 ls st h := sd_iret dX2_sortTold_63 rfl (Nat.le_of_ble_eq_true rfl) (Nat.le_of_ble_eq_true rfl)
theorem dX2_readsCellOfBit_0 : decode cX2_readsCellOfBit 0 = .ok (.aload_n 0, 1) := by decide +kernel
theorem dX2_readsCellOfBit_1 : decode cX2_readsCellOfBit 1 = .ok (.aload_n 1, 1) := by decide +kernel
theorem dX2_readsCellOfBit_2 : decode cX2_readsCellOfBit 2 = .ok (.invokevirtual 152, 3) := by decide +kernel
theorem dX2_readsCellOfBit_5 : decode cX2_readsCellOfBit 5 = .ok (.istore_n 2, 1) := by decide +kernel
theorem dX2_readsCellOfBit_6 : decode cX2_readsCellOfBit 6 = .ok (.iload_n 2, 1) := by decide +kernel
theorem dX2_readsCellOfBit_7 : decode cX2_readsCellOfBit 7 = .ok (.iconst (-1), 1) := by decide +kernel
theorem dX2_readsCellOfBit_8 : decode cX2_readsCellOfBit 8 = .ok (.if_icmp .eq 22, 3) := by decide +kernel
theorem dX2_readsCellOfBit_11 : decode cX2_readsCellOfBit 11 = .ok (.aload_n 0, 1) := by decide +kernel
theorem dX2_readsCellOfBit_12 : decode cX2_readsCellOfBit 12 = .ok (.ldc2_w 138, 3) := by decide +kernel
theorem dX2_readsCellOfBit_15 : decode cX2_readsCellOfBit 15 = .ok (.invokevirtual 112, 3) := by decide +kernel
theorem dX2_readsCellOfBit_18 : decode cX2_readsCellOfBit 18 = .ok (.ifCond .eq 12, 3) := by decide +kernel
theorem dX2_readsCellOfBit_21 : decode cX2_readsCellOfBit 21 = .ok (.aload_n 0, 1) := by decide +kernel
theorem dX2_readsCellOfBit_22 : decode cX2_readsCellOfBit 22 = .ok (.bipush 11, 2) := by decide +kernel
theorem dX2_readsCellOfBit_24 : decode cX2_readsCellOfBit 24 = .ok (.invokevirtual 115, 3) := by decide +kernel
theorem dX2_readsCellOfBit_27 : decode cX2_readsCellOfBit 27 = .ok (.ifCond .ne 5, 3) := by decide +kernel
theorem dX2_readsCellOfBit_30 : decode cX2_readsCellOfBit 30 = .ok (.iconst 0, 1) := by decide +kernel
theorem dX2_readsCellOfBit_31 : decode cX2_readsCellOfBit 31 = .ok (.ireturn, 1) := by decide +kernel
theorem dX2_readsCellOfBit_32 : decode cX2_readsCellOfBit 32 = .ok (.aload_n 1, 1) := by decide +kernel
theorem dX2_readsCellOfBit_33 : decode cX2_readsCellOfBit 33 = .ok (.iload_n 2, 1) := by decide +kernel
theorem dX2_readsCellOfBit_34 : decode cX2_readsCellOfBit 34 = .ok (.aload_n 0, 1) := by decide +kernel
theorem dX2_readsCellOfBit_35 : decode cX2_readsCellOfBit 35 = .ok (.getfield 12, 3) := by decide +kernel
theorem dX2_readsCellOfBit_38 : decode cX2_readsCellOfBit 38 = .ok (.getfield 118, 3) := by decide +kernel
theorem dX2_readsCellOfBit_41 : decode cX2_readsCellOfBit 41 = .ok (.iastore, 1) := by decide +kernel
theorem dX2_readsCellOfBit_42 : decode cX2_readsCellOfBit 42 = .ok (.iconst 1, 1) := by decide +kernel
theorem dX2_readsCellOfBit_43 : decode cX2_readsCellOfBit 43 = .ok (.ireturn, 1) := by decide +kernel
def B_X2_readsCellOfBit_0 (X : Nat × (Nat → Int32)) (J : Nat → zCf) (R : zRt) : zCf := oALOAD 0 (oALOAD 1 (oINV1 X M_X2_readsOldBit 2 (oISTORE 1 2 (oILOAD 2 (oPI (zj (-1)) (oICEQ (J 30) (oALOAD 0 (oPL (zk (24948)) (oINV1 X M_X2_readsWord 2 (oIFEQ (J 30) (oALOAD 0 (oPI (zj (11)) (oINV1 X M_X2_readsWhole 2 (oIFNE (J 32) (J 30)))))))))))))))
set_option maxRecDepth 100000 in
theorem vb_X2_readsCellOfBit_0 {X : Nat × (Nat → Int32)} {R : zRt} : ∀ ls st h, B_X2_readsCellOfBit_0 X (zV X M_X2_readsCellOfBit (zQm M_X2_readsCellOfBit R) 0 0) R ls st h → zV X M_X2_readsCellOfBit (zQm M_X2_readsCellOfBit R) 0 0 0 ls st h := sd_aload_n dX2_readsCellOfBit_0 rfl (sd_aload_n dX2_readsCellOfBit_1 rfl (sd_inv1 dX2_readsCellOfBit_2 rfl mv_X2_readsOldBit na_X2_readsOldBit ml_RX2_152 ⟨⟨Nat.le_of_ble_eq_true rfl, Nat.le_of_ble_eq_true rfl⟩, ⟨Nat.le_of_ble_eq_true rfl, Nat.le_of_ble_eq_true rfl⟩⟩ (sd_istore_n dX2_readsCellOfBit_5 rfl (Nat.le_of_ble_eq_true rfl) (Or.inl rfl) (sd_iload_n dX2_readsCellOfBit_6 rfl (sd_iconst dX2_readsCellOfBit_7 rfl (sd_iceq dX2_readsCellOfBit_8 rfl (fun _ _ _ h => h) (sd_aload_n dX2_readsCellOfBit_11 rfl (sd_ldc2 dX2_readsCellOfBit_12 (zmt (zt2 (i := 145) rfl) rfl) (sd_inv1 dX2_readsCellOfBit_15 rfl mv_X2_readsWord na_X2_readsWord ml_RX2_112 ⟨⟨Nat.le_of_ble_eq_true rfl, Nat.le_of_ble_eq_true rfl⟩, ⟨Nat.le_of_ble_eq_true rfl, Nat.le_of_ble_eq_true rfl⟩⟩ (sd_ifeq dX2_readsCellOfBit_18 rfl (fun _ _ _ h => h) (sd_aload_n dX2_readsCellOfBit_21 rfl (sd_bipush dX2_readsCellOfBit_22 rfl (sd_inv1 dX2_readsCellOfBit_24 rfl mv_X2_readsWhole na_X2_readsWhole ml_RX2_115 ⟨⟨Nat.le_of_ble_eq_true rfl, Nat.le_of_ble_eq_true rfl⟩, ⟨Nat.le_of_ble_eq_true rfl, Nat.le_of_ble_eq_true rfl⟩⟩ (sd_ifne dX2_readsCellOfBit_27 rfl (fun _ _ _ h => h) (fun _ _ _ h => h)))))))))))))))
def B_X2_readsCellOfBit_30 (X : Nat × (Nat → Int32)) (J : Nat → zCf) (R : zRt) : zCf := oPI (zj (0)) (oZRET R)
set_option maxRecDepth 100000 in
theorem vb_X2_readsCellOfBit_30 {X : Nat × (Nat → Int32)} {R : zRt} : ∀ ls st h, B_X2_readsCellOfBit_30 X (zV X M_X2_readsCellOfBit (zQm M_X2_readsCellOfBit R) 0 0) R ls st h → zV X M_X2_readsCellOfBit (zQm M_X2_readsCellOfBit R) 0 0 30 ls st h := sd_iconst dX2_readsCellOfBit_30 rfl (sd_zret dX2_readsCellOfBit_31 rfl (Nat.le_of_ble_eq_true rfl) (Nat.le_of_ble_eq_true rfl))
def B_X2_readsCellOfBit_32 (X : Nat × (Nat → Int32)) (J : Nat → zCf) (R : zRt) : zCf := oALOAD 1 (oILOAD 2 (oALOAD 0 (oGETR 2 0 (oGETI 6 7 (oIAST (oPI (zj (1)) (oZRET R)))))))
set_option maxRecDepth 100000 in
theorem vb_X2_readsCellOfBit_32 {X : Nat × (Nat → Int32)} {R : zRt} : ∀ ls st h, B_X2_readsCellOfBit_32 X (zV X M_X2_readsCellOfBit (zQm M_X2_readsCellOfBit R) 0 0) R ls st h → zV X M_X2_readsCellOfBit (zQm M_X2_readsCellOfBit R) 0 0 32 ls st h := sd_aload_n dX2_readsCellOfBit_32 rfl (sd_iload_n dX2_readsCellOfBit_33 rfl (sd_aload_n dX2_readsCellOfBit_34 rfl (sd_getr dX2_readsCellOfBit_35 zCl2 (Nat.le_of_ble_eq_true rfl) lk_RX2_12 (Or.inl ⟨_, rfl⟩) (sd_geti dX2_readsCellOfBit_38 zCl6 (Nat.le_of_ble_eq_true rfl) lk_RX2_118 (Or.inl rfl) (sd_iast dX2_readsCellOfBit_41 (sd_iconst dX2_readsCellOfBit_42 rfl (sd_zret dX2_readsCellOfBit_43 rfl (Nat.le_of_ble_eq_true rfl) (Nat.le_of_ble_eq_true rfl))))))))
theorem dX2_readsMet_0 : decode cX2_readsMet 0 = .ok (.aload_n 0, 1) := by decide +kernel
theorem dX2_readsMet_1 : decode cX2_readsMet 1 = .ok (.getfield 21, 3) := by decide +kernel
theorem dX2_readsMet_4 : decode cX2_readsMet 4 = .ok (.getfield 156, 3) := by decide +kernel
theorem dX2_readsMet_7 : decode cX2_readsMet 7 = .ok (.bipush 6, 2) := by decide +kernel
theorem dX2_readsMet_9 : decode cX2_readsMet 9 = .ok (.if_icmp .lt 9, 3) := by decide +kernel
theorem dX2_readsMet_12 : decode cX2_readsMet 12 = .ok (.aload_n 0, 1) := by decide +kernel
theorem dX2_readsMet_13 : decode cX2_readsMet 13 = .ok (.iconst 5, 1) := by decide +kernel
theorem dX2_readsMet_14 : decode cX2_readsMet 14 = .ok (.invokevirtual 53, 3) := by decide +kernel
theorem dX2_readsMet_17 : decode cX2_readsMet 17 = .ok (.ireturn, 1) := by decide +kernel
theorem dX2_readsMet_18 : decode cX2_readsMet 18 = .ok (.aload_n 0, 1) := by decide +kernel
theorem dX2_readsMet_19 : decode cX2_readsMet 19 = .ok (.bipush 11, 2) := by decide +kernel
theorem dX2_readsMet_21 : decode cX2_readsMet 21 = .ok (.invokevirtual 115, 3) := by decide +kernel
theorem dX2_readsMet_24 : decode cX2_readsMet 24 = .ok (.ifCond .ne 5, 3) := by decide +kernel
theorem dX2_readsMet_27 : decode cX2_readsMet 27 = .ok (.iconst 0, 1) := by decide +kernel
theorem dX2_readsMet_28 : decode cX2_readsMet 28 = .ok (.ireturn, 1) := by decide +kernel
theorem dX2_readsMet_29 : decode cX2_readsMet 29 = .ok (.aload_n 0, 1) := by decide +kernel
theorem dX2_readsMet_30 : decode cX2_readsMet 30 = .ok (.getfield 12, 3) := by decide +kernel
theorem dX2_readsMet_33 : decode cX2_readsMet 33 = .ok (.getfield 118, 3) := by decide +kernel
theorem dX2_readsMet_36 : decode cX2_readsMet 36 = .ok (.istore_n 1, 1) := by decide +kernel
theorem dX2_readsMet_37 : decode cX2_readsMet 37 = .ok (.aload_n 0, 1) := by decide +kernel
theorem dX2_readsMet_38 : decode cX2_readsMet 38 = .ok (.getfield 21, 3) := by decide +kernel
theorem dX2_readsMet_41 : decode cX2_readsMet 41 = .ok (.iload_n 1, 1) := by decide +kernel
theorem dX2_readsMet_42 : decode cX2_readsMet 42 = .ok (.invokevirtual 159, 3) := by decide +kernel
theorem dX2_readsMet_45 : decode cX2_readsMet 45 = .ok (.ifCond .eq 9, 3) := by decide +kernel
theorem dX2_readsMet_48 : decode cX2_readsMet 48 = .ok (.aload_n 0, 1) := by decide +kernel
theorem dX2_readsMet_49 : decode cX2_readsMet 49 = .ok (.iconst 3, 1) := by decide +kernel
theorem dX2_readsMet_50 : decode cX2_readsMet 50 = .ok (.invokevirtual 53, 3) := by decide +kernel
theorem dX2_readsMet_53 : decode cX2_readsMet 53 = .ok (.ireturn, 1) := by decide +kernel
theorem dX2_readsMet_54 : decode cX2_readsMet 54 = .ok (.aload_n 0, 1) := by decide +kernel
theorem dX2_readsMet_55 : decode cX2_readsMet 55 = .ok (.invokevirtual 135, 3) := by decide +kernel
theorem dX2_readsMet_58 : decode cX2_readsMet 58 = .ok (.ifCond .ne 5, 3) := by decide +kernel
theorem dX2_readsMet_61 : decode cX2_readsMet 61 = .ok (.iconst 0, 1) := by decide +kernel
theorem dX2_readsMet_62 : decode cX2_readsMet 62 = .ok (.ireturn, 1) := by decide +kernel
theorem dX2_readsMet_63 : decode cX2_readsMet 63 = .ok (.aload_n 0, 1) := by decide +kernel
theorem dX2_readsMet_64 : decode cX2_readsMet 64 = .ok (.getfield 21, 3) := by decide +kernel
theorem dX2_readsMet_67 : decode cX2_readsMet 67 = .ok (.iload_n 1, 1) := by decide +kernel
theorem dX2_readsMet_68 : decode cX2_readsMet 68 = .ok (.aload_n 0, 1) := by decide +kernel
theorem dX2_readsMet_69 : decode cX2_readsMet 69 = .ok (.getfield 12, 3) := by decide +kernel
theorem dX2_readsMet_72 : decode cX2_readsMet 72 = .ok (.getfield 127, 3) := by decide +kernel
theorem dX2_readsMet_75 : decode cX2_readsMet 75 = .ok (.invokevirtual 162, 3) := by decide +kernel
theorem dX2_readsMet_78 : decode cX2_readsMet 78 = .ok (.iconst 1, 1) := by decide +kernel
theorem dX2_readsMet_79 : decode cX2_readsMet 79 = .ok (.ireturn, 1) := by decide +kernel
def B_X2_readsMet_0 (X : Nat × (Nat → Int32)) (J : Nat → zCf) (R : zRt) : zCf := oALOAD 0 (oGETR 2 1 (oGETI 1 8 (oPI (zj (6)) (oICLT (J 18) (oALOAD 0 (oPI (zj (5)) (oINV1 X M_X2_fails 2 (oZRET R))))))))
set_option maxRecDepth 100000 in
theorem vb_X2_readsMet_0 {X : Nat × (Nat → Int32)} {R : zRt} : ∀ ls st h, B_X2_readsMet_0 X (zV X M_X2_readsMet (zQm M_X2_readsMet R) 0 0) R ls st h → zV X M_X2_readsMet (zQm M_X2_readsMet R) 0 0 0 ls st h := sd_aload_n dX2_readsMet_0 rfl (sd_getr dX2_readsMet_1 zCl2 (Nat.le_of_ble_eq_true rfl) lk_RX2_21 (Or.inl ⟨_, rfl⟩) (sd_geti dX2_readsMet_4 zCl1 (Nat.le_of_ble_eq_true rfl) lk_RX2_156 (Or.inl rfl) (sd_bipush dX2_readsMet_7 rfl (sd_iclt dX2_readsMet_9 rfl (fun _ _ _ h => h) (sd_aload_n dX2_readsMet_12 rfl (sd_iconst dX2_readsMet_13 rfl (sd_inv1 dX2_readsMet_14 rfl mv_X2_fails na_X2_fails ml_RX2_53 ⟨⟨Nat.le_of_ble_eq_true rfl, Nat.le_of_ble_eq_true rfl⟩, ⟨Nat.le_of_ble_eq_true rfl, Nat.le_of_ble_eq_true rfl⟩⟩ (sd_zret dX2_readsMet_17 rfl (Nat.le_of_ble_eq_true rfl) (Nat.le_of_ble_eq_true rfl)))))))))
def B_X2_readsMet_18 (X : Nat × (Nat → Int32)) (J : Nat → zCf) (R : zRt) : zCf := oALOAD 0 (oPI (zj (11)) (oINV1 X M_X2_readsWhole 2 (oIFNE (J 29) (oPI (zj (0)) (oZRET R)))))
set_option maxRecDepth 100000 in
theorem vb_X2_readsMet_18 {X : Nat × (Nat → Int32)} {R : zRt} : ∀ ls st h, B_X2_readsMet_18 X (zV X M_X2_readsMet (zQm M_X2_readsMet R) 0 0) R ls st h → zV X M_X2_readsMet (zQm M_X2_readsMet R) 0 0 18 ls st h := sd_aload_n dX2_readsMet_18 rfl (sd_bipush dX2_readsMet_19 rfl (sd_inv1 dX2_readsMet_21 rfl mv_X2_readsWhole na_X2_readsWhole ml_RX2_115 ⟨⟨Nat.le_of_ble_eq_true rfl, Nat.le_of_ble_eq_true rfl⟩, ⟨Nat.le_of_ble_eq_true rfl, Nat.le_of_ble_eq_true rfl⟩⟩ (sd_ifne dX2_readsMet_24 rfl (fun _ _ _ h => h) (sd_iconst dX2_readsMet_27 rfl (sd_zret dX2_readsMet_28 rfl (Nat.le_of_ble_eq_true rfl) (Nat.le_of_ble_eq_true rfl))))))
def B_X2_readsMet_29 (X : Nat × (Nat → Int32)) (J : Nat → zCf) (R : zRt) : zCf := oALOAD 0 (oGETR 2 0 (oGETI 6 7 (oISTORE 0 1 (oALOAD 0 (oGETR 2 1 (oILOAD 1 (oINV1 X M_X1_hasMet 1 (oIFEQ (J 54) (oALOAD 0 (oPI (zj (3)) (oINV1 X M_X2_fails 2 (oZRET R))))))))))))
set_option maxRecDepth 100000 in
theorem vb_X2_readsMet_29 {X : Nat × (Nat → Int32)} {R : zRt} : ∀ ls st h, B_X2_readsMet_29 X (zV X M_X2_readsMet (zQm M_X2_readsMet R) 0 0) R ls st h → zV X M_X2_readsMet (zQm M_X2_readsMet R) 0 0 29 ls st h := sd_aload_n dX2_readsMet_29 rfl (sd_getr dX2_readsMet_30 zCl2 (Nat.le_of_ble_eq_true rfl) lk_RX2_12 (Or.inl ⟨_, rfl⟩) (sd_geti dX2_readsMet_33 zCl6 (Nat.le_of_ble_eq_true rfl) lk_RX2_118 (Or.inl rfl) (sd_istore_n dX2_readsMet_36 rfl (Nat.le_of_ble_eq_true rfl) (Or.inl rfl) (sd_aload_n dX2_readsMet_37 rfl (sd_getr dX2_readsMet_38 zCl2 (Nat.le_of_ble_eq_true rfl) lk_RX2_21 (Or.inl ⟨_, rfl⟩) (sd_iload_n dX2_readsMet_41 rfl (sd_inv1 dX2_readsMet_42 rfl mv_X1_hasMet na_X1_hasMet ml_RX2_159 ⟨⟨Nat.le_of_ble_eq_true rfl, Nat.le_of_ble_eq_true rfl⟩, ⟨Nat.le_of_ble_eq_true rfl, Nat.le_of_ble_eq_true rfl⟩⟩ (sd_ifeq dX2_readsMet_45 rfl (fun _ _ _ h => h) (sd_aload_n dX2_readsMet_48 rfl (sd_iconst dX2_readsMet_49 rfl (sd_inv1 dX2_readsMet_50 rfl mv_X2_fails na_X2_fails ml_RX2_53 ⟨⟨Nat.le_of_ble_eq_true rfl, Nat.le_of_ble_eq_true rfl⟩, ⟨Nat.le_of_ble_eq_true rfl, Nat.le_of_ble_eq_true rfl⟩⟩ (sd_zret dX2_readsMet_53 rfl (Nat.le_of_ble_eq_true rfl) (Nat.le_of_ble_eq_true rfl)))))))))))))
def B_X2_readsMet_54 (X : Nat × (Nat → Int32)) (J : Nat → zCf) (R : zRt) : zCf := oALOAD 0 (oINV0 X M_X2_readsAnyWord 2 (oIFNE (J 63) (oPI (zj (0)) (oZRET R))))
set_option maxRecDepth 100000 in
theorem vb_X2_readsMet_54 {X : Nat × (Nat → Int32)} {R : zRt} : ∀ ls st h, B_X2_readsMet_54 X (zV X M_X2_readsMet (zQm M_X2_readsMet R) 0 0) R ls st h → zV X M_X2_readsMet (zQm M_X2_readsMet R) 0 0 54 ls st h := sd_aload_n dX2_readsMet_54 rfl (sd_inv0 dX2_readsMet_55 rfl mv_X2_readsAnyWord na_X2_readsAnyWord ml_RX2_135 ⟨⟨Nat.le_of_ble_eq_true rfl, Nat.le_of_ble_eq_true rfl⟩, ⟨Nat.le_of_ble_eq_true rfl, Nat.le_of_ble_eq_true rfl⟩⟩ (sd_ifne dX2_readsMet_58 rfl (fun _ _ _ h => h) (sd_iconst dX2_readsMet_61 rfl (sd_zret dX2_readsMet_62 rfl (Nat.le_of_ble_eq_true rfl) (Nat.le_of_ble_eq_true rfl)))))
def B_X2_readsMet_63 (X : Nat × (Nat → Int32)) (J : Nat → zCf) (R : zRt) : zCf := oALOAD 0 (oGETR 2 1 (oILOAD 1 (oALOAD 0 (oGETR 2 0 (oGETL 6 6 (oINV2 X M_X1_addMet 1 (oPI (zj (1)) (oZRET R))))))))
set_option maxRecDepth 100000 in
theorem vb_X2_readsMet_63 {X : Nat × (Nat → Int32)} {R : zRt} : ∀ ls st h, B_X2_readsMet_63 X (zV X M_X2_readsMet (zQm M_X2_readsMet R) 0 0) R ls st h → zV X M_X2_readsMet (zQm M_X2_readsMet R) 0 0 63 ls st h := sd_aload_n dX2_readsMet_63 rfl (sd_getr dX2_readsMet_64 zCl2 (Nat.le_of_ble_eq_true rfl) lk_RX2_21 (Or.inl ⟨_, rfl⟩) (sd_iload_n dX2_readsMet_67 rfl (sd_aload_n dX2_readsMet_68 rfl (sd_getr dX2_readsMet_69 zCl2 (Nat.le_of_ble_eq_true rfl) lk_RX2_12 (Or.inl ⟨_, rfl⟩) (sd_getl dX2_readsMet_72 zCl6 (Nat.le_of_ble_eq_true rfl) lk_RX2_127 rfl (sd_inv2 dX2_readsMet_75 rfl mv_X1_addMet na_X1_addMet ml_RX2_162 ⟨⟨Nat.le_of_ble_eq_true rfl, Nat.le_of_ble_eq_true rfl⟩, ⟨Nat.le_of_ble_eq_true rfl, Nat.le_of_ble_eq_true rfl⟩⟩ (sd_iconst dX2_readsMet_78 rfl (sd_zret dX2_readsMet_79 rfl (Nat.le_of_ble_eq_true rfl) (Nat.le_of_ble_eq_true rfl)))))))))
theorem dX2_readsHoliday_0 : decode cX2_readsHoliday 0 = .ok (.aload_n 0, 1) := by decide +kernel
theorem dX2_readsHoliday_1 : decode cX2_readsHoliday 1 = .ok (.getfield 21, 3) := by decide +kernel
theorem dX2_readsHoliday_4 : decode cX2_readsHoliday 4 = .ok (.getfield 166, 3) := by decide +kernel
theorem dX2_readsHoliday_7 : decode cX2_readsHoliday 7 = .ok (.bipush 8, 2) := by decide +kernel
theorem dX2_readsHoliday_9 : decode cX2_readsHoliday 9 = .ok (.if_icmp .lt 9, 3) := by decide +kernel
theorem dX2_readsHoliday_12 : decode cX2_readsHoliday 12 = .ok (.aload_n 0, 1) := by decide +kernel
theorem dX2_readsHoliday_13 : decode cX2_readsHoliday 13 = .ok (.iconst 5, 1) := by decide +kernel
theorem dX2_readsHoliday_14 : decode cX2_readsHoliday 14 = .ok (.invokevirtual 53, 3) := by decide +kernel
theorem dX2_readsHoliday_17 : decode cX2_readsHoliday 17 = .ok (.ireturn, 1) := by decide +kernel
theorem dX2_readsHoliday_18 : decode cX2_readsHoliday 18 = .ok (.aload_n 0, 1) := by decide +kernel
theorem dX2_readsHoliday_19 : decode cX2_readsHoliday 19 = .ok (.bipush 99, 2) := by decide +kernel
theorem dX2_readsHoliday_21 : decode cX2_readsHoliday 21 = .ok (.invokevirtual 115, 3) := by decide +kernel
theorem dX2_readsHoliday_24 : decode cX2_readsHoliday 24 = .ok (.ifCond .ne 5, 3) := by decide +kernel
theorem dX2_readsHoliday_27 : decode cX2_readsHoliday 27 = .ok (.iconst 0, 1) := by decide +kernel
theorem dX2_readsHoliday_28 : decode cX2_readsHoliday 28 = .ok (.ireturn, 1) := by decide +kernel
theorem dX2_readsHoliday_29 : decode cX2_readsHoliday 29 = .ok (.aload_n 0, 1) := by decide +kernel
theorem dX2_readsHoliday_30 : decode cX2_readsHoliday 30 = .ok (.getfield 21, 3) := by decide +kernel
theorem dX2_readsHoliday_33 : decode cX2_readsHoliday 33 = .ok (.aload_n 0, 1) := by decide +kernel
theorem dX2_readsHoliday_34 : decode cX2_readsHoliday 34 = .ok (.getfield 12, 3) := by decide +kernel
theorem dX2_readsHoliday_37 : decode cX2_readsHoliday 37 = .ok (.getfield 118, 3) := by decide +kernel
theorem dX2_readsHoliday_40 : decode cX2_readsHoliday 40 = .ok (.invokevirtual 169, 3) := by decide +kernel
theorem dX2_readsHoliday_43 : decode cX2_readsHoliday 43 = .ok (.ifCond .eq 9, 3) := by decide +kernel
theorem dX2_readsHoliday_46 : decode cX2_readsHoliday 46 = .ok (.aload_n 0, 1) := by decide +kernel
theorem dX2_readsHoliday_47 : decode cX2_readsHoliday 47 = .ok (.iconst 3, 1) := by decide +kernel
theorem dX2_readsHoliday_48 : decode cX2_readsHoliday 48 = .ok (.invokevirtual 53, 3) := by decide +kernel
theorem dX2_readsHoliday_51 : decode cX2_readsHoliday 51 = .ok (.ireturn, 1) := by decide +kernel
theorem dX2_readsHoliday_52 : decode cX2_readsHoliday 52 = .ok (.aload_n 0, 1) := by decide +kernel
theorem dX2_readsHoliday_53 : decode cX2_readsHoliday 53 = .ok (.getfield 21, 3) := by decide +kernel
theorem dX2_readsHoliday_56 : decode cX2_readsHoliday 56 = .ok (.aload_n 0, 1) := by decide +kernel
theorem dX2_readsHoliday_57 : decode cX2_readsHoliday 57 = .ok (.getfield 12, 3) := by decide +kernel
theorem dX2_readsHoliday_60 : decode cX2_readsHoliday 60 = .ok (.getfield 118, 3) := by decide +kernel
theorem dX2_readsHoliday_63 : decode cX2_readsHoliday 63 = .ok (.invokevirtual 172, 3) := by decide +kernel
theorem dX2_readsHoliday_66 : decode cX2_readsHoliday 66 = .ok (.iconst 1, 1) := by decide +kernel
theorem dX2_readsHoliday_67 : decode cX2_readsHoliday 67 = .ok (.ireturn, 1) := by decide +kernel
def B_X2_readsHoliday_0 (X : Nat × (Nat → Int32)) (J : Nat → zCf) (R : zRt) : zCf := oALOAD 0 (oGETR 2 1 (oGETI 1 11 (oPI (zj (8)) (oICLT (J 18) (oALOAD 0 (oPI (zj (5)) (oINV1 X M_X2_fails 2 (oZRET R))))))))
set_option maxRecDepth 100000 in
theorem vb_X2_readsHoliday_0 {X : Nat × (Nat → Int32)} {R : zRt} : ∀ ls st h, B_X2_readsHoliday_0 X (zV X M_X2_readsHoliday (zQm M_X2_readsHoliday R) 0 0) R ls st h → zV X M_X2_readsHoliday (zQm M_X2_readsHoliday R) 0 0 0 ls st h := sd_aload_n dX2_readsHoliday_0 rfl (sd_getr dX2_readsHoliday_1 zCl2 (Nat.le_of_ble_eq_true rfl) lk_RX2_21 (Or.inl ⟨_, rfl⟩) (sd_geti dX2_readsHoliday_4 zCl1 (Nat.le_of_ble_eq_true rfl) lk_RX2_166 (Or.inl rfl) (sd_bipush dX2_readsHoliday_7 rfl (sd_iclt dX2_readsHoliday_9 rfl (fun _ _ _ h => h) (sd_aload_n dX2_readsHoliday_12 rfl (sd_iconst dX2_readsHoliday_13 rfl (sd_inv1 dX2_readsHoliday_14 rfl mv_X2_fails na_X2_fails ml_RX2_53 ⟨⟨Nat.le_of_ble_eq_true rfl, Nat.le_of_ble_eq_true rfl⟩, ⟨Nat.le_of_ble_eq_true rfl, Nat.le_of_ble_eq_true rfl⟩⟩ (sd_zret dX2_readsHoliday_17 rfl (Nat.le_of_ble_eq_true rfl) (Nat.le_of_ble_eq_true rfl)))))))))
def B_X2_readsHoliday_18 (X : Nat × (Nat → Int32)) (J : Nat → zCf) (R : zRt) : zCf := oALOAD 0 (oPI (zj (99)) (oINV1 X M_X2_readsWhole 2 (oIFNE (J 29) (oPI (zj (0)) (oZRET R)))))
set_option maxRecDepth 100000 in
theorem vb_X2_readsHoliday_18 {X : Nat × (Nat → Int32)} {R : zRt} : ∀ ls st h, B_X2_readsHoliday_18 X (zV X M_X2_readsHoliday (zQm M_X2_readsHoliday R) 0 0) R ls st h → zV X M_X2_readsHoliday (zQm M_X2_readsHoliday R) 0 0 18 ls st h := sd_aload_n dX2_readsHoliday_18 rfl (sd_bipush dX2_readsHoliday_19 rfl (sd_inv1 dX2_readsHoliday_21 rfl mv_X2_readsWhole na_X2_readsWhole ml_RX2_115 ⟨⟨Nat.le_of_ble_eq_true rfl, Nat.le_of_ble_eq_true rfl⟩, ⟨Nat.le_of_ble_eq_true rfl, Nat.le_of_ble_eq_true rfl⟩⟩ (sd_ifne dX2_readsHoliday_24 rfl (fun _ _ _ h => h) (sd_iconst dX2_readsHoliday_27 rfl (sd_zret dX2_readsHoliday_28 rfl (Nat.le_of_ble_eq_true rfl) (Nat.le_of_ble_eq_true rfl))))))
def B_X2_readsHoliday_29 (X : Nat × (Nat → Int32)) (J : Nat → zCf) (R : zRt) : zCf := oALOAD 0 (oGETR 2 1 (oALOAD 0 (oGETR 2 0 (oGETI 6 7 (oINV1 X M_X1_isHoliday 1 (oIFEQ (J 52) (oALOAD 0 (oPI (zj (3)) (oINV1 X M_X2_fails 2 (oZRET R))))))))))
set_option maxRecDepth 100000 in
theorem vb_X2_readsHoliday_29 {X : Nat × (Nat → Int32)} {R : zRt} : ∀ ls st h, B_X2_readsHoliday_29 X (zV X M_X2_readsHoliday (zQm M_X2_readsHoliday R) 0 0) R ls st h → zV X M_X2_readsHoliday (zQm M_X2_readsHoliday R) 0 0 29 ls st h := sd_aload_n dX2_readsHoliday_29 rfl (sd_getr dX2_readsHoliday_30 zCl2 (Nat.le_of_ble_eq_true rfl) lk_RX2_21 (Or.inl ⟨_, rfl⟩) (sd_aload_n dX2_readsHoliday_33 rfl (sd_getr dX2_readsHoliday_34 zCl2 (Nat.le_of_ble_eq_true rfl) lk_RX2_12 (Or.inl ⟨_, rfl⟩) (sd_geti dX2_readsHoliday_37 zCl6 (Nat.le_of_ble_eq_true rfl) lk_RX2_118 (Or.inl rfl) (sd_inv1 dX2_readsHoliday_40 rfl mv_X1_isHoliday na_X1_isHoliday ml_RX2_169 ⟨⟨Nat.le_of_ble_eq_true rfl, Nat.le_of_ble_eq_true rfl⟩, ⟨Nat.le_of_ble_eq_true rfl, Nat.le_of_ble_eq_true rfl⟩⟩ (sd_ifeq dX2_readsHoliday_43 rfl (fun _ _ _ h => h) (sd_aload_n dX2_readsHoliday_46 rfl (sd_iconst dX2_readsHoliday_47 rfl (sd_inv1 dX2_readsHoliday_48 rfl mv_X2_fails na_X2_fails ml_RX2_53 ⟨⟨Nat.le_of_ble_eq_true rfl, Nat.le_of_ble_eq_true rfl⟩, ⟨Nat.le_of_ble_eq_true rfl, Nat.le_of_ble_eq_true rfl⟩⟩ (sd_zret dX2_readsHoliday_51 rfl (Nat.le_of_ble_eq_true rfl) (Nat.le_of_ble_eq_true rfl)))))))))))
def B_X2_readsHoliday_52 (X : Nat × (Nat → Int32)) (J : Nat → zCf) (R : zRt) : zCf := oALOAD 0 (oGETR 2 1 (oALOAD 0 (oGETR 2 0 (oGETI 6 7 (oINV1 X M_X1_addHoliday 1 (oPI (zj (1)) (oZRET R)))))))
set_option maxRecDepth 100000 in
theorem vb_X2_readsHoliday_52 {X : Nat × (Nat → Int32)} {R : zRt} : ∀ ls st h, B_X2_readsHoliday_52 X (zV X M_X2_readsHoliday (zQm M_X2_readsHoliday R) 0 0) R ls st h → zV X M_X2_readsHoliday (zQm M_X2_readsHoliday R) 0 0 52 ls st h := sd_aload_n dX2_readsHoliday_52 rfl (sd_getr dX2_readsHoliday_53 zCl2 (Nat.le_of_ble_eq_true rfl) lk_RX2_21 (Or.inl ⟨_, rfl⟩) (sd_aload_n dX2_readsHoliday_56 rfl (sd_getr dX2_readsHoliday_57 zCl2 (Nat.le_of_ble_eq_true rfl) lk_RX2_12 (Or.inl ⟨_, rfl⟩) (sd_geti dX2_readsHoliday_60 zCl6 (Nat.le_of_ble_eq_true rfl) lk_RX2_118 (Or.inl rfl) (sd_inv1 dX2_readsHoliday_63 rfl mv_X1_addHoliday na_X1_addHoliday ml_RX2_172 ⟨⟨Nat.le_of_ble_eq_true rfl, Nat.le_of_ble_eq_true rfl⟩, ⟨Nat.le_of_ble_eq_true rfl, Nat.le_of_ble_eq_true rfl⟩⟩ (sd_iconst dX2_readsHoliday_66 rfl (sd_zret dX2_readsHoliday_67 rfl (Nat.le_of_ble_eq_true rfl) (Nat.le_of_ble_eq_true rfl))))))))
theorem dX2_readsPerson_0 : decode cX2_readsPerson 0 = .ok (.aload_n 0, 1) := by decide +kernel
theorem dX2_readsPerson_1 : decode cX2_readsPerson 1 = .ok (.getfield 21, 3) := by decide +kernel
theorem dX2_readsPerson_4 : decode cX2_readsPerson 4 = .ok (.getfield 175, 3) := by decide +kernel
theorem dX2_readsPerson_7 : decode cX2_readsPerson 7 = .ok (.iconst 4, 1) := by decide +kernel
theorem dX2_readsPerson_8 : decode cX2_readsPerson 8 = .ok (.if_icmp .lt 9, 3) := by decide +kernel
theorem dX2_readsPerson_11 : decode cX2_readsPerson 11 = .ok (.aload_n 0, 1) := by decide +kernel
theorem dX2_readsPerson_12 : decode cX2_readsPerson 12 = .ok (.iconst 5, 1) := by decide +kernel
theorem dX2_readsPerson_13 : decode cX2_readsPerson 13 = .ok (.invokevirtual 53, 3) := by decide +kernel
theorem dX2_readsPerson_16 : decode cX2_readsPerson 16 = .ok (.ireturn, 1) := by decide +kernel
theorem dX2_readsPerson_17 : decode cX2_readsPerson 17 = .ok (.aload_n 0, 1) := by decide +kernel
theorem dX2_readsPerson_18 : decode cX2_readsPerson 18 = .ok (.invokevirtual 124, 3) := by decide +kernel
theorem dX2_readsPerson_21 : decode cX2_readsPerson 21 = .ok (.ifCond .ne 5, 3) := by decide +kernel
theorem dX2_readsPerson_24 : decode cX2_readsPerson 24 = .ok (.iconst 0, 1) := by decide +kernel
theorem dX2_readsPerson_25 : decode cX2_readsPerson 25 = .ok (.ireturn, 1) := by decide +kernel
theorem dX2_readsPerson_26 : decode cX2_readsPerson 26 = .ok (.aload_n 0, 1) := by decide +kernel
theorem dX2_readsPerson_27 : decode cX2_readsPerson 27 = .ok (.getfield 12, 3) := by decide +kernel
theorem dX2_readsPerson_30 : decode cX2_readsPerson 30 = .ok (.getfield 127, 3) := by decide +kernel
theorem dX2_readsPerson_33 : decode cX2_readsPerson 33 = .ok (.lstore_n 1, 1) := by decide +kernel
theorem dX2_readsPerson_34 : decode cX2_readsPerson 34 = .ok (.aload_n 0, 1) := by decide +kernel
theorem dX2_readsPerson_35 : decode cX2_readsPerson 35 = .ok (.ldc2_w 178, 3) := by decide +kernel
theorem dX2_readsPerson_38 : decode cX2_readsPerson 38 = .ok (.invokevirtual 112, 3) := by decide +kernel
theorem dX2_readsPerson_41 : decode cX2_readsPerson 41 = .ok (.ifCond .eq 11, 3) := by decide +kernel
theorem dX2_readsPerson_44 : decode cX2_readsPerson 44 = .ok (.aload_n 0, 1) := by decide +kernel
theorem dX2_readsPerson_45 : decode cX2_readsPerson 45 = .ok (.iconst 5, 1) := by decide +kernel
theorem dX2_readsPerson_46 : decode cX2_readsPerson 46 = .ok (.invokevirtual 115, 3) := by decide +kernel
theorem dX2_readsPerson_49 : decode cX2_readsPerson 49 = .ok (.ifCond .ne 5, 3) := by decide +kernel
theorem dX2_readsPerson_52 : decode cX2_readsPerson 52 = .ok (.iconst 0, 1) := by decide +kernel
theorem dX2_readsPerson_53 : decode cX2_readsPerson 53 = .ok (.ireturn, 1) := by decide +kernel
theorem dX2_readsPerson_54 : decode cX2_readsPerson 54 = .ok (.aload_n 0, 1) := by decide +kernel
theorem dX2_readsPerson_55 : decode cX2_readsPerson 55 = .ok (.getfield 12, 3) := by decide +kernel
theorem dX2_readsPerson_58 : decode cX2_readsPerson 58 = .ok (.getfield 118, 3) := by decide +kernel
theorem dX2_readsPerson_61 : decode cX2_readsPerson 61 = .ok (.istore_n 3, 1) := by decide +kernel
theorem dX2_readsPerson_62 : decode cX2_readsPerson 62 = .ok (.aload_n 0, 1) := by decide +kernel
theorem dX2_readsPerson_63 : decode cX2_readsPerson 63 = .ok (.ldc2_w 138, 3) := by decide +kernel
theorem dX2_readsPerson_66 : decode cX2_readsPerson 66 = .ok (.invokevirtual 112, 3) := by decide +kernel
theorem dX2_readsPerson_69 : decode cX2_readsPerson 69 = .ok (.ifCond .eq 12, 3) := by decide +kernel
theorem dX2_readsPerson_72 : decode cX2_readsPerson 72 = .ok (.aload_n 0, 1) := by decide +kernel
theorem dX2_readsPerson_73 : decode cX2_readsPerson 73 = .ok (.bipush 11, 2) := by decide +kernel
theorem dX2_readsPerson_75 : decode cX2_readsPerson 75 = .ok (.invokevirtual 115, 3) := by decide +kernel
theorem dX2_readsPerson_78 : decode cX2_readsPerson 78 = .ok (.ifCond .ne 5, 3) := by decide +kernel
theorem dX2_readsPerson_81 : decode cX2_readsPerson 81 = .ok (.iconst 0, 1) := by decide +kernel
theorem dX2_readsPerson_82 : decode cX2_readsPerson 82 = .ok (.ireturn, 1) := by decide +kernel
theorem dX2_readsPerson_83 : decode cX2_readsPerson 83 = .ok (.aload_n 0, 1) := by decide +kernel
theorem dX2_readsPerson_84 : decode cX2_readsPerson 84 = .ok (.getfield 21, 3) := by decide +kernel
theorem dX2_readsPerson_87 : decode cX2_readsPerson 87 = .ok (.lload_n 1, 1) := by decide +kernel
theorem dX2_readsPerson_88 : decode cX2_readsPerson 88 = .ok (.iload_n 3, 1) := by decide +kernel
theorem dX2_readsPerson_89 : decode cX2_readsPerson 89 = .ok (.aload_n 0, 1) := by decide +kernel
theorem dX2_readsPerson_90 : decode cX2_readsPerson 90 = .ok (.getfield 12, 3) := by decide +kernel
theorem dX2_readsPerson_93 : decode cX2_readsPerson 93 = .ok (.getfield 118, 3) := by decide +kernel
theorem dX2_readsPerson_96 : decode cX2_readsPerson 96 = .ok (.invokestatic 180, 3) := by decide +kernel
theorem dX2_readsPerson_99 : decode cX2_readsPerson 99 = .ok (.invokevirtual 184, 3) := by decide +kernel
theorem dX2_readsPerson_102 : decode cX2_readsPerson 102 = .ok (.iconst 1, 1) := by decide +kernel
theorem dX2_readsPerson_103 : decode cX2_readsPerson 103 = .ok (.ireturn, 1) := by decide +kernel
def B_X2_readsPerson_0 (X : Nat × (Nat → Int32)) (J : Nat → zCf) (R : zRt) : zCf := oALOAD 0 (oGETR 2 1 (oGETI 1 13 (oPI (zj (4)) (oICLT (J 17) (oALOAD 0 (oPI (zj (5)) (oINV1 X M_X2_fails 2 (oZRET R))))))))
set_option maxRecDepth 100000 in
theorem vb_X2_readsPerson_0 {X : Nat × (Nat → Int32)} {R : zRt} : ∀ ls st h, B_X2_readsPerson_0 X (zV X M_X2_readsPerson (zQm M_X2_readsPerson R) 0 0) R ls st h → zV X M_X2_readsPerson (zQm M_X2_readsPerson R) 0 0 0 ls st h := sd_aload_n dX2_readsPerson_0 rfl (sd_getr dX2_readsPerson_1 zCl2 (Nat.le_of_ble_eq_true rfl) lk_RX2_21 (Or.inl ⟨_, rfl⟩) (sd_geti dX2_readsPerson_4 zCl1 (Nat.le_of_ble_eq_true rfl) lk_RX2_175 (Or.inl rfl) (sd_iconst dX2_readsPerson_7 rfl (sd_iclt dX2_readsPerson_8 rfl (fun _ _ _ h => h) (sd_aload_n dX2_readsPerson_11 rfl (sd_iconst dX2_readsPerson_12 rfl (sd_inv1 dX2_readsPerson_13 rfl mv_X2_fails na_X2_fails ml_RX2_53 ⟨⟨Nat.le_of_ble_eq_true rfl, Nat.le_of_ble_eq_true rfl⟩, ⟨Nat.le_of_ble_eq_true rfl, Nat.le_of_ble_eq_true rfl⟩⟩ (sd_zret dX2_readsPerson_16 rfl (Nat.le_of_ble_eq_true rfl) (Nat.le_of_ble_eq_true rfl)))))))))
def B_X2_readsPerson_17 (X : Nat × (Nat → Int32)) (J : Nat → zCf) (R : zRt) : zCf := oALOAD 0 (oINV0 X M_X2_readsNewName 2 (oIFNE (J 26) (oPI (zj (0)) (oZRET R))))
set_option maxRecDepth 100000 in
theorem vb_X2_readsPerson_17 {X : Nat × (Nat → Int32)} {R : zRt} : ∀ ls st h, B_X2_readsPerson_17 X (zV X M_X2_readsPerson (zQm M_X2_readsPerson R) 0 0) R ls st h → zV X M_X2_readsPerson (zQm M_X2_readsPerson R) 0 0 17 ls st h := sd_aload_n dX2_readsPerson_17 rfl (sd_inv0 dX2_readsPerson_18 rfl mv_X2_readsNewName na_X2_readsNewName ml_RX2_124 ⟨⟨Nat.le_of_ble_eq_true rfl, Nat.le_of_ble_eq_true rfl⟩, ⟨Nat.le_of_ble_eq_true rfl, Nat.le_of_ble_eq_true rfl⟩⟩ (sd_ifne dX2_readsPerson_21 rfl (fun _ _ _ h => h) (sd_iconst dX2_readsPerson_24 rfl (sd_zret dX2_readsPerson_25 rfl (Nat.le_of_ble_eq_true rfl) (Nat.le_of_ble_eq_true rfl)))))
def B_X2_readsPerson_26 (X : Nat × (Nat → Int32)) (J : Nat → zCf) (R : zRt) : zCf := oALOAD 0 (oGETR 2 0 (oGETL 6 6 (oLSTORE 0 1 (oALOAD 0 (oPL (zk (26990)) (oINV1 X M_X2_readsWord 2 (oIFEQ (J 52) (oALOAD 0 (oPI (zj (5)) (oINV1 X M_X2_readsWhole 2 (oIFNE (J 54) (J 52))))))))))))
set_option maxRecDepth 100000 in
theorem vb_X2_readsPerson_26 {X : Nat × (Nat → Int32)} {R : zRt} : ∀ ls st h, B_X2_readsPerson_26 X (zV X M_X2_readsPerson (zQm M_X2_readsPerson R) 0 0) R ls st h → zV X M_X2_readsPerson (zQm M_X2_readsPerson R) 0 0 26 ls st h := sd_aload_n dX2_readsPerson_26 rfl (sd_getr dX2_readsPerson_27 zCl2 (Nat.le_of_ble_eq_true rfl) lk_RX2_12 (Or.inl ⟨_, rfl⟩) (sd_getl dX2_readsPerson_30 zCl6 (Nat.le_of_ble_eq_true rfl) lk_RX2_127 rfl (sd_lstore_n dX2_readsPerson_33 rfl (Nat.le_of_ble_eq_true rfl) (Or.inl rfl) (sd_aload_n dX2_readsPerson_34 rfl (sd_ldc2 dX2_readsPerson_35 (zmt (zt2 (i := 187) rfl) rfl) (sd_inv1 dX2_readsPerson_38 rfl mv_X2_readsWord na_X2_readsWord ml_RX2_112 ⟨⟨Nat.le_of_ble_eq_true rfl, Nat.le_of_ble_eq_true rfl⟩, ⟨Nat.le_of_ble_eq_true rfl, Nat.le_of_ble_eq_true rfl⟩⟩ (sd_ifeq dX2_readsPerson_41 rfl (fun _ _ _ h => h) (sd_aload_n dX2_readsPerson_44 rfl (sd_iconst dX2_readsPerson_45 rfl (sd_inv1 dX2_readsPerson_46 rfl mv_X2_readsWhole na_X2_readsWhole ml_RX2_115 ⟨⟨Nat.le_of_ble_eq_true rfl, Nat.le_of_ble_eq_true rfl⟩, ⟨Nat.le_of_ble_eq_true rfl, Nat.le_of_ble_eq_true rfl⟩⟩ (sd_ifne dX2_readsPerson_49 rfl (fun _ _ _ h => h) (fun _ _ _ h => h))))))))))))
def B_X2_readsPerson_52 (X : Nat × (Nat → Int32)) (J : Nat → zCf) (R : zRt) : zCf := oPI (zj (0)) (oZRET R)
set_option maxRecDepth 100000 in
theorem vb_X2_readsPerson_52 {X : Nat × (Nat → Int32)} {R : zRt} : ∀ ls st h, B_X2_readsPerson_52 X (zV X M_X2_readsPerson (zQm M_X2_readsPerson R) 0 0) R ls st h → zV X M_X2_readsPerson (zQm M_X2_readsPerson R) 0 0 52 ls st h := sd_iconst dX2_readsPerson_52 rfl (sd_zret dX2_readsPerson_53 rfl (Nat.le_of_ble_eq_true rfl) (Nat.le_of_ble_eq_true rfl))
def B_X2_readsPerson_54 (X : Nat × (Nat → Int32)) (J : Nat → zCf) (R : zRt) : zCf := oALOAD 0 (oGETR 2 0 (oGETI 6 7 (oISTORE 2 3 (oALOAD 0 (oPL (zk (24948)) (oINV1 X M_X2_readsWord 2 (oIFEQ (J 81) (oALOAD 0 (oPI (zj (11)) (oINV1 X M_X2_readsWhole 2 (oIFNE (J 83) (J 81))))))))))))
set_option maxRecDepth 100000 in
theorem vb_X2_readsPerson_54 {X : Nat × (Nat → Int32)} {R : zRt} : ∀ ls st h, B_X2_readsPerson_54 X (zV X M_X2_readsPerson (zQm M_X2_readsPerson R) 0 0) R ls st h → zV X M_X2_readsPerson (zQm M_X2_readsPerson R) 0 0 54 ls st h := sd_aload_n dX2_readsPerson_54 rfl (sd_getr dX2_readsPerson_55 zCl2 (Nat.le_of_ble_eq_true rfl) lk_RX2_12 (Or.inl ⟨_, rfl⟩) (sd_geti dX2_readsPerson_58 zCl6 (Nat.le_of_ble_eq_true rfl) lk_RX2_118 (Or.inl rfl) (sd_istore_n dX2_readsPerson_61 rfl (Nat.le_of_ble_eq_true rfl) (Or.inl rfl) (sd_aload_n dX2_readsPerson_62 rfl (sd_ldc2 dX2_readsPerson_63 (zmt (zt2 (i := 145) rfl) rfl) (sd_inv1 dX2_readsPerson_66 rfl mv_X2_readsWord na_X2_readsWord ml_RX2_112 ⟨⟨Nat.le_of_ble_eq_true rfl, Nat.le_of_ble_eq_true rfl⟩, ⟨Nat.le_of_ble_eq_true rfl, Nat.le_of_ble_eq_true rfl⟩⟩ (sd_ifeq dX2_readsPerson_69 rfl (fun _ _ _ h => h) (sd_aload_n dX2_readsPerson_72 rfl (sd_bipush dX2_readsPerson_73 rfl (sd_inv1 dX2_readsPerson_75 rfl mv_X2_readsWhole na_X2_readsWhole ml_RX2_115 ⟨⟨Nat.le_of_ble_eq_true rfl, Nat.le_of_ble_eq_true rfl⟩, ⟨Nat.le_of_ble_eq_true rfl, Nat.le_of_ble_eq_true rfl⟩⟩ (sd_ifne dX2_readsPerson_78 rfl (fun _ _ _ h => h) (fun _ _ _ h => h))))))))))))
def B_X2_readsPerson_81 (X : Nat × (Nat → Int32)) (J : Nat → zCf) (R : zRt) : zCf := oPI (zj (0)) (oZRET R)
set_option maxRecDepth 100000 in
theorem vb_X2_readsPerson_81 {X : Nat × (Nat → Int32)} {R : zRt} : ∀ ls st h, B_X2_readsPerson_81 X (zV X M_X2_readsPerson (zQm M_X2_readsPerson R) 0 0) R ls st h → zV X M_X2_readsPerson (zQm M_X2_readsPerson R) 0 0 81 ls st h := sd_iconst dX2_readsPerson_81 rfl (sd_zret dX2_readsPerson_82 rfl (Nat.le_of_ble_eq_true rfl) (Nat.le_of_ble_eq_true rfl))
def B_X2_readsPerson_83 (X : Nat × (Nat → Int32)) (J : Nat → zCf) (R : zRt) : zCf := oALOAD 0 (oGETR 2 1 (oLLOAD 1 (oILOAD 3 (oALOAD 0 (oGETR 2 0 (oGETI 6 7 (oINS2 X M_X7_spotAt (oINV2 X M_X1_addPerson 1 (oPI (zj (1)) (oZRET R))))))))))
set_option maxRecDepth 100000 in
theorem vb_X2_readsPerson_83 {X : Nat × (Nat → Int32)} {R : zRt} : ∀ ls st h, B_X2_readsPerson_83 X (zV X M_X2_readsPerson (zQm M_X2_readsPerson R) 0 0) R ls st h → zV X M_X2_readsPerson (zQm M_X2_readsPerson R) 0 0 83 ls st h := sd_aload_n dX2_readsPerson_83 rfl (sd_getr dX2_readsPerson_84 zCl2 (Nat.le_of_ble_eq_true rfl) lk_RX2_21 (Or.inl ⟨_, rfl⟩) (sd_lload_n dX2_readsPerson_87 rfl (sd_iload_n dX2_readsPerson_88 rfl (sd_aload_n dX2_readsPerson_89 rfl (sd_getr dX2_readsPerson_90 zCl2 (Nat.le_of_ble_eq_true rfl) lk_RX2_12 (Or.inl ⟨_, rfl⟩) (sd_geti dX2_readsPerson_93 zCl6 (Nat.le_of_ble_eq_true rfl) lk_RX2_118 (Or.inl rfl) (sd_ins2 dX2_readsPerson_96 ms_X7_spotAt na_X7_spotAt ml_RX2_180 ⟨⟨Nat.le_of_ble_eq_true rfl, Nat.le_of_ble_eq_true rfl⟩, ⟨Nat.le_of_ble_eq_true rfl, Nat.le_of_ble_eq_true rfl⟩⟩ (sd_inv2 dX2_readsPerson_99 rfl mv_X1_addPerson na_X1_addPerson ml_RX2_184 ⟨⟨Nat.le_of_ble_eq_true rfl, Nat.le_of_ble_eq_true rfl⟩, ⟨Nat.le_of_ble_eq_true rfl, Nat.le_of_ble_eq_true rfl⟩⟩ (sd_iconst dX2_readsPerson_102 rfl (sd_zret dX2_readsPerson_103 rfl (Nat.le_of_ble_eq_true rfl) (Nat.le_of_ble_eq_true rfl)))))))))))
theorem dX2_readsWord_0 : decode cX2_readsWord 0 = .ok (.aload_n 0, 1) := by decide +kernel
theorem dX2_readsWord_1 : decode cX2_readsWord 1 = .ok (.getfield 12, 3) := by decide +kernel
theorem dX2_readsWord_4 : decode cX2_readsWord 4 = .ok (.invokevirtual 44, 3) := by decide +kernel
theorem dX2_readsWord_7 : decode cX2_readsWord 7 = .ok (.aload_n 0, 1) := by decide +kernel
theorem dX2_readsWord_8 : decode cX2_readsWord 8 = .ok (.getfield 12, 3) := by decide +kernel
theorem dX2_readsWord_11 : decode cX2_readsWord 11 = .ok (.lload_n 1, 1) := by decide +kernel
theorem dX2_readsWord_12 : decode cX2_readsWord 12 = .ok (.invokevirtual 68, 3) := by decide +kernel
theorem dX2_readsWord_15 : decode cX2_readsWord 15 = .ok (.ifCond .ne 11, 3) := by decide +kernel
theorem dX2_readsWord_18 : decode cX2_readsWord 18 = .ok (.aload_n 0, 1) := by decide +kernel
theorem dX2_readsWord_19 : decode cX2_readsWord 19 = .ok (.iconst 1, 1) := by decide +kernel
theorem dX2_readsWord_20 : decode cX2_readsWord 20 = .ok (.invokevirtual 53, 3) := by decide +kernel
theorem dX2_readsWord_23 : decode cX2_readsWord 23 = .ok (.ifCond .eq 7, 3) := by decide +kernel
theorem dX2_readsWord_26 : decode cX2_readsWord 26 = .ok (.iconst 1, 1) := by decide +kernel
theorem dX2_readsWord_27 : decode cX2_readsWord 27 = .ok (.goto 4, 3) := by decide +kernel
theorem dX2_readsWord_30 : decode cX2_readsWord 30 = .ok (.iconst 0, 1) := by decide +kernel
theorem dX2_readsWord_31 : decode cX2_readsWord 31 = .ok (.ireturn, 1) := by decide +kernel
def B_X2_readsWord_0 (X : Nat × (Nat → Int32)) (J : Nat → zCf) (R : zRt) : zCf := oALOAD 0 (oGETR 2 0 (oINV0 X M_X6_next 6 (oALOAD 0 (oGETR 2 0 (oLLOAD 1 (oINV1 X M_X6_isWord 6 (oIFNE (J 26) (oALOAD 0 (oPI (zj (1)) (oINV1 X M_X2_fails 2 (oIFEQ (J 30) (J 26))))))))))))
set_option maxRecDepth 100000 in
theorem vb_X2_readsWord_0 {X : Nat × (Nat → Int32)} {R : zRt} : ∀ ls st h, B_X2_readsWord_0 X (zV X M_X2_readsWord (zQm M_X2_readsWord R) 0 0) R ls st h → zV X M_X2_readsWord (zQm M_X2_readsWord R) 0 0 0 ls st h := sd_aload_n dX2_readsWord_0 rfl (sd_getr dX2_readsWord_1 zCl2 (Nat.le_of_ble_eq_true rfl) lk_RX2_12 (Or.inl ⟨_, rfl⟩) (sd_inv0 dX2_readsWord_4 rfl mv_X6_next na_X6_next ml_RX2_44 ⟨⟨Nat.le_of_ble_eq_true rfl, Nat.le_of_ble_eq_true rfl⟩, ⟨Nat.le_of_ble_eq_true rfl, Nat.le_of_ble_eq_true rfl⟩⟩ (sd_aload_n dX2_readsWord_7 rfl (sd_getr dX2_readsWord_8 zCl2 (Nat.le_of_ble_eq_true rfl) lk_RX2_12 (Or.inl ⟨_, rfl⟩) (sd_lload_n dX2_readsWord_11 rfl (sd_inv1 dX2_readsWord_12 rfl mv_X6_isWord na_X6_isWord ml_RX2_68 ⟨⟨Nat.le_of_ble_eq_true rfl, Nat.le_of_ble_eq_true rfl⟩, ⟨Nat.le_of_ble_eq_true rfl, Nat.le_of_ble_eq_true rfl⟩⟩ (sd_ifne dX2_readsWord_15 rfl (fun _ _ _ h => h) (sd_aload_n dX2_readsWord_18 rfl (sd_iconst dX2_readsWord_19 rfl (sd_inv1 dX2_readsWord_20 rfl mv_X2_fails na_X2_fails ml_RX2_53 ⟨⟨Nat.le_of_ble_eq_true rfl, Nat.le_of_ble_eq_true rfl⟩, ⟨Nat.le_of_ble_eq_true rfl, Nat.le_of_ble_eq_true rfl⟩⟩ (sd_ifeq dX2_readsWord_23 rfl (fun _ _ _ h => h) (fun _ _ _ h => h))))))))))))
def B_X2_readsWord_26 (X : Nat × (Nat → Int32)) (J : Nat → zCf) (R : zRt) : zCf := oPI (zj (1)) (J 31)
set_option maxRecDepth 100000 in
theorem vb_X2_readsWord_26 {X : Nat × (Nat → Int32)} {R : zRt} : ∀ ls st h, B_X2_readsWord_26 X (zV X M_X2_readsWord (zQm M_X2_readsWord R) 0 0) R ls st h → zV X M_X2_readsWord (zQm M_X2_readsWord R) 0 0 26 ls st h := sd_iconst dX2_readsWord_26 rfl (sd_goto dX2_readsWord_27 rfl (fun _ _ _ h => h))
def B_X2_readsWord_30 (X : Nat × (Nat → Int32)) (J : Nat → zCf) (R : zRt) : zCf := oPI (zj (0)) (J 31)
set_option maxRecDepth 100000 in
theorem vb_X2_readsWord_30 {X : Nat × (Nat → Int32)} {R : zRt} : ∀ ls st h, B_X2_readsWord_30 X (zV X M_X2_readsWord (zQm M_X2_readsWord R) 0 0) R ls st h → zV X M_X2_readsWord (zQm M_X2_readsWord R) 0 0 30 ls st h := sd_iconst dX2_readsWord_30 rfl (fun _ _ _ h => h)
def B_X2_readsWord_31 (X : Nat × (Nat → Int32)) (J : Nat → zCf) (R : zRt) : zCf := oZRET R
set_option maxRecDepth 100000 in
theorem vb_X2_readsWord_31 {X : Nat × (Nat → Int32)} {R : zRt} : ∀ ls st h, B_X2_readsWord_31 X (zV X M_X2_readsWord (zQm M_X2_readsWord R) 0 0) R ls st h → zV X M_X2_readsWord (zQm M_X2_readsWord R) 0 0 31 ls st h := sd_zret dX2_readsWord_31 rfl (Nat.le_of_ble_eq_true rfl) (Nat.le_of_ble_eq_true rfl)
theorem dX2_readsAnyWord_0 : decode cX2_readsAnyWord 0 = .ok (.aload_n 0, 1) := by decide +kernel
theorem dX2_readsAnyWord_1 : decode cX2_readsAnyWord 1 = .ok (.getfield 12, 3) := by decide +kernel
theorem dX2_readsAnyWord_4 : decode cX2_readsAnyWord 4 = .ok (.invokevirtual 44, 3) := by decide +kernel
theorem dX2_readsAnyWord_7 : decode cX2_readsAnyWord 7 = .ok (.aload_n 0, 1) := by decide +kernel
theorem dX2_readsAnyWord_8 : decode cX2_readsAnyWord 8 = .ok (.getfield 12, 3) := by decide +kernel
theorem dX2_readsAnyWord_11 : decode cX2_readsAnyWord 11 = .ok (.getfield 47, 3) := by decide +kernel
theorem dX2_readsAnyWord_14 : decode cX2_readsAnyWord 14 = .ok (.iconst 1, 1) := by decide +kernel
theorem dX2_readsAnyWord_15 : decode cX2_readsAnyWord 15 = .ok (.if_icmp .eq 11, 3) := by decide +kernel
theorem dX2_readsAnyWord_18 : decode cX2_readsAnyWord 18 = .ok (.aload_n 0, 1) := by decide +kernel
theorem dX2_readsAnyWord_19 : decode cX2_readsAnyWord 19 = .ok (.iconst 1, 1) := by decide +kernel
theorem dX2_readsAnyWord_20 : decode cX2_readsAnyWord 20 = .ok (.invokevirtual 53, 3) := by decide +kernel
theorem dX2_readsAnyWord_23 : decode cX2_readsAnyWord 23 = .ok (.ifCond .eq 7, 3) := by decide +kernel
theorem dX2_readsAnyWord_26 : decode cX2_readsAnyWord 26 = .ok (.iconst 1, 1) := by decide +kernel
theorem dX2_readsAnyWord_27 : decode cX2_readsAnyWord 27 = .ok (.goto 4, 3) := by decide +kernel
theorem dX2_readsAnyWord_30 : decode cX2_readsAnyWord 30 = .ok (.iconst 0, 1) := by decide +kernel
theorem dX2_readsAnyWord_31 : decode cX2_readsAnyWord 31 = .ok (.ireturn, 1) := by decide +kernel
def B_X2_readsAnyWord_0 (X : Nat × (Nat → Int32)) (J : Nat → zCf) (R : zRt) : zCf := oALOAD 0 (oGETR 2 0 (oINV0 X M_X6_next 6 (oALOAD 0 (oGETR 2 0 (oGETI 6 4 (oPI (zj (1)) (oICEQ (J 26) (oALOAD 0 (oPI (zj (1)) (oINV1 X M_X2_fails 2 (oIFEQ (J 30) (J 26))))))))))))
set_option maxRecDepth 100000 in
theorem vb_X2_readsAnyWord_0 {X : Nat × (Nat → Int32)} {R : zRt} : ∀ ls st h, B_X2_readsAnyWord_0 X (zV X M_X2_readsAnyWord (zQm M_X2_readsAnyWord R) 0 0) R ls st h → zV X M_X2_readsAnyWord (zQm M_X2_readsAnyWord R) 0 0 0 ls st h := sd_aload_n dX2_readsAnyWord_0 rfl (sd_getr dX2_readsAnyWord_1 zCl2 (Nat.le_of_ble_eq_true rfl) lk_RX2_12 (Or.inl ⟨_, rfl⟩) (sd_inv0 dX2_readsAnyWord_4 rfl mv_X6_next na_X6_next ml_RX2_44 ⟨⟨Nat.le_of_ble_eq_true rfl, Nat.le_of_ble_eq_true rfl⟩, ⟨Nat.le_of_ble_eq_true rfl, Nat.le_of_ble_eq_true rfl⟩⟩ (sd_aload_n dX2_readsAnyWord_7 rfl (sd_getr dX2_readsAnyWord_8 zCl2 (Nat.le_of_ble_eq_true rfl) lk_RX2_12 (Or.inl ⟨_, rfl⟩) (sd_geti dX2_readsAnyWord_11 zCl6 (Nat.le_of_ble_eq_true rfl) lk_RX2_47 (Or.inl rfl) (sd_iconst dX2_readsAnyWord_14 rfl (sd_iceq dX2_readsAnyWord_15 rfl (fun _ _ _ h => h) (sd_aload_n dX2_readsAnyWord_18 rfl (sd_iconst dX2_readsAnyWord_19 rfl (sd_inv1 dX2_readsAnyWord_20 rfl mv_X2_fails na_X2_fails ml_RX2_53 ⟨⟨Nat.le_of_ble_eq_true rfl, Nat.le_of_ble_eq_true rfl⟩, ⟨Nat.le_of_ble_eq_true rfl, Nat.le_of_ble_eq_true rfl⟩⟩ (sd_ifeq dX2_readsAnyWord_23 rfl (fun _ _ _ h => h) (fun _ _ _ h => h))))))))))))
def B_X2_readsAnyWord_26 (X : Nat × (Nat → Int32)) (J : Nat → zCf) (R : zRt) : zCf := oPI (zj (1)) (J 31)
set_option maxRecDepth 100000 in
theorem vb_X2_readsAnyWord_26 {X : Nat × (Nat → Int32)} {R : zRt} : ∀ ls st h, B_X2_readsAnyWord_26 X (zV X M_X2_readsAnyWord (zQm M_X2_readsAnyWord R) 0 0) R ls st h → zV X M_X2_readsAnyWord (zQm M_X2_readsAnyWord R) 0 0 26 ls st h := sd_iconst dX2_readsAnyWord_26 rfl (sd_goto dX2_readsAnyWord_27 rfl (fun _ _ _ h => h))
def B_X2_readsAnyWord_30 (X : Nat × (Nat → Int32)) (J : Nat → zCf) (R : zRt) : zCf := oPI (zj (0)) (J 31)
set_option maxRecDepth 100000 in
theorem vb_X2_readsAnyWord_30 {X : Nat × (Nat → Int32)} {R : zRt} : ∀ ls st h, B_X2_readsAnyWord_30 X (zV X M_X2_readsAnyWord (zQm M_X2_readsAnyWord R) 0 0) R ls st h → zV X M_X2_readsAnyWord (zQm M_X2_readsAnyWord R) 0 0 30 ls st h := sd_iconst dX2_readsAnyWord_30 rfl (fun _ _ _ h => h)
def B_X2_readsAnyWord_31 (X : Nat × (Nat → Int32)) (J : Nat → zCf) (R : zRt) : zCf := oZRET R
set_option maxRecDepth 100000 in
theorem vb_X2_readsAnyWord_31 {X : Nat × (Nat → Int32)} {R : zRt} : ∀ ls st h, B_X2_readsAnyWord_31 X (zV X M_X2_readsAnyWord (zQm M_X2_readsAnyWord R) 0 0) R ls st h → zV X M_X2_readsAnyWord (zQm M_X2_readsAnyWord R) 0 0 31 ls st h := sd_zret dX2_readsAnyWord_31 rfl (Nat.le_of_ble_eq_true rfl) (Nat.le_of_ble_eq_true rfl)
theorem dX2_readsWhole_0 : decode cX2_readsWhole 0 = .ok (.aload_n 0, 1) := by decide +kernel
theorem dX2_readsWhole_1 : decode cX2_readsWhole 1 = .ok (.getfield 12, 3) := by decide +kernel
theorem dX2_readsWhole_4 : decode cX2_readsWhole 4 = .ok (.invokevirtual 44, 3) := by decide +kernel
theorem dX2_readsWhole_7 : decode cX2_readsWhole 7 = .ok (.aload_n 0, 1) := by decide +kernel
theorem dX2_readsWhole_8 : decode cX2_readsWhole 8 = .ok (.getfield 12, 3) := by decide +kernel
theorem dX2_readsWhole_11 : decode cX2_readsWhole 11 = .ok (.getfield 47, 3) := by decide +kernel
theorem dX2_readsWhole_14 : decode cX2_readsWhole 14 = .ok (.iconst 2, 1) := by decide +kernel
theorem dX2_readsWhole_15 : decode cX2_readsWhole 15 = .ok (.if_icmp .eq 9, 3) := by decide +kernel
theorem dX2_readsWhole_18 : decode cX2_readsWhole 18 = .ok (.aload_n 0, 1) := by decide +kernel
theorem dX2_readsWhole_19 : decode cX2_readsWhole 19 = .ok (.iconst 1, 1) := by decide +kernel
theorem dX2_readsWhole_20 : decode cX2_readsWhole 20 = .ok (.invokevirtual 53, 3) := by decide +kernel
theorem dX2_readsWhole_23 : decode cX2_readsWhole 23 = .ok (.ireturn, 1) := by decide +kernel
theorem dX2_readsWhole_24 : decode cX2_readsWhole 24 = .ok (.aload_n 0, 1) := by decide +kernel
theorem dX2_readsWhole_25 : decode cX2_readsWhole 25 = .ok (.getfield 12, 3) := by decide +kernel
theorem dX2_readsWhole_28 : decode cX2_readsWhole 28 = .ok (.getfield 118, 3) := by decide +kernel
theorem dX2_readsWhole_31 : decode cX2_readsWhole 31 = .ok (.iload_n 1, 1) := by decide +kernel
theorem dX2_readsWhole_32 : decode cX2_readsWhole 32 = .ok (.if_icmp .le 11, 3) := by decide +kernel
theorem dX2_readsWhole_35 : decode cX2_readsWhole 35 = .ok (.aload_n 0, 1) := by decide +kernel
theorem dX2_readsWhole_36 : decode cX2_readsWhole 36 = .ok (.iconst 4, 1) := by decide +kernel
theorem dX2_readsWhole_37 : decode cX2_readsWhole 37 = .ok (.invokevirtual 53, 3) := by decide +kernel
theorem dX2_readsWhole_40 : decode cX2_readsWhole 40 = .ok (.ifCond .eq 7, 3) := by decide +kernel
theorem dX2_readsWhole_43 : decode cX2_readsWhole 43 = .ok (.iconst 1, 1) := by decide +kernel
theorem dX2_readsWhole_44 : decode cX2_readsWhole 44 = .ok (.goto 4, 3) := by decide +kernel
theorem dX2_readsWhole_47 : decode cX2_readsWhole 47 = .ok (.iconst 0, 1) := by decide +kernel
theorem dX2_readsWhole_48 : decode cX2_readsWhole 48 = .ok (.ireturn, 1) := by decide +kernel
def B_X2_readsWhole_0 (X : Nat × (Nat → Int32)) (J : Nat → zCf) (R : zRt) : zCf := oALOAD 0 (oGETR 2 0 (oINV0 X M_X6_next 6 (oALOAD 0 (oGETR 2 0 (oGETI 6 4 (oPI (zj (2)) (oICEQ (J 24) (oALOAD 0 (oPI (zj (1)) (oINV1 X M_X2_fails 2 (oZRET R)))))))))))
set_option maxRecDepth 100000 in
theorem vb_X2_readsWhole_0 {X : Nat × (Nat → Int32)} {R : zRt} : ∀ ls st h, B_X2_readsWhole_0 X (zV X M_X2_readsWhole (zQm M_X2_readsWhole R) 0 0) R ls st h → zV X M_X2_readsWhole (zQm M_X2_readsWhole R) 0 0 0 ls st h := sd_aload_n dX2_readsWhole_0 rfl (sd_getr dX2_readsWhole_1 zCl2 (Nat.le_of_ble_eq_true rfl) lk_RX2_12 (Or.inl ⟨_, rfl⟩) (sd_inv0 dX2_readsWhole_4 rfl mv_X6_next na_X6_next ml_RX2_44 ⟨⟨Nat.le_of_ble_eq_true rfl, Nat.le_of_ble_eq_true rfl⟩, ⟨Nat.le_of_ble_eq_true rfl, Nat.le_of_ble_eq_true rfl⟩⟩ (sd_aload_n dX2_readsWhole_7 rfl (sd_getr dX2_readsWhole_8 zCl2 (Nat.le_of_ble_eq_true rfl) lk_RX2_12 (Or.inl ⟨_, rfl⟩) (sd_geti dX2_readsWhole_11 zCl6 (Nat.le_of_ble_eq_true rfl) lk_RX2_47 (Or.inl rfl) (sd_iconst dX2_readsWhole_14 rfl (sd_iceq dX2_readsWhole_15 rfl (fun _ _ _ h => h) (sd_aload_n dX2_readsWhole_18 rfl (sd_iconst dX2_readsWhole_19 rfl (sd_inv1 dX2_readsWhole_20 rfl mv_X2_fails na_X2_fails ml_RX2_53 ⟨⟨Nat.le_of_ble_eq_true rfl, Nat.le_of_ble_eq_true rfl⟩, ⟨Nat.le_of_ble_eq_true rfl, Nat.le_of_ble_eq_true rfl⟩⟩ (sd_zret dX2_readsWhole_23 rfl (Nat.le_of_ble_eq_true rfl) (Nat.le_of_ble_eq_true rfl))))))))))))
def B_X2_readsWhole_24 (X : Nat × (Nat → Int32)) (J : Nat → zCf) (R : zRt) : zCf := oALOAD 0 (oGETR 2 0 (oGETI 6 7 (oILOAD 1 (oICLE (J 43) (oALOAD 0 (oPI (zj (4)) (oINV1 X M_X2_fails 2 (oIFEQ (J 47) (J 43)))))))))
set_option maxRecDepth 100000 in
theorem vb_X2_readsWhole_24 {X : Nat × (Nat → Int32)} {R : zRt} : ∀ ls st h, B_X2_readsWhole_24 X (zV X M_X2_readsWhole (zQm M_X2_readsWhole R) 0 0) R ls st h → zV X M_X2_readsWhole (zQm M_X2_readsWhole R) 0 0 24 ls st h := sd_aload_n dX2_readsWhole_24 rfl (sd_getr dX2_readsWhole_25 zCl2 (Nat.le_of_ble_eq_true rfl) lk_RX2_12 (Or.inl ⟨_, rfl⟩) (sd_geti dX2_readsWhole_28 zCl6 (Nat.le_of_ble_eq_true rfl) lk_RX2_118 (Or.inl rfl) (sd_iload_n dX2_readsWhole_31 rfl (sd_icle dX2_readsWhole_32 rfl (fun _ _ _ h => h) (sd_aload_n dX2_readsWhole_35 rfl (sd_iconst dX2_readsWhole_36 rfl (sd_inv1 dX2_readsWhole_37 rfl mv_X2_fails na_X2_fails ml_RX2_53 ⟨⟨Nat.le_of_ble_eq_true rfl, Nat.le_of_ble_eq_true rfl⟩, ⟨Nat.le_of_ble_eq_true rfl, Nat.le_of_ble_eq_true rfl⟩⟩ (sd_ifeq dX2_readsWhole_40 rfl (fun _ _ _ h => h) (fun _ _ _ h => h)))))))))
def B_X2_readsWhole_43 (X : Nat × (Nat → Int32)) (J : Nat → zCf) (R : zRt) : zCf := oPI (zj (1)) (J 48)
set_option maxRecDepth 100000 in
theorem vb_X2_readsWhole_43 {X : Nat × (Nat → Int32)} {R : zRt} : ∀ ls st h, B_X2_readsWhole_43 X (zV X M_X2_readsWhole (zQm M_X2_readsWhole R) 0 0) R ls st h → zV X M_X2_readsWhole (zQm M_X2_readsWhole R) 0 0 43 ls st h := sd_iconst dX2_readsWhole_43 rfl (sd_goto dX2_readsWhole_44 rfl (fun _ _ _ h => h))
def B_X2_readsWhole_47 (X : Nat × (Nat → Int32)) (J : Nat → zCf) (R : zRt) : zCf := oPI (zj (0)) (J 48)
set_option maxRecDepth 100000 in
theorem vb_X2_readsWhole_47 {X : Nat × (Nat → Int32)} {R : zRt} : ∀ ls st h, B_X2_readsWhole_47 X (zV X M_X2_readsWhole (zQm M_X2_readsWhole R) 0 0) R ls st h → zV X M_X2_readsWhole (zQm M_X2_readsWhole R) 0 0 47 ls st h := sd_iconst dX2_readsWhole_47 rfl (fun _ _ _ h => h)
def B_X2_readsWhole_48 (X : Nat × (Nat → Int32)) (J : Nat → zCf) (R : zRt) : zCf := oZRET R
set_option maxRecDepth 100000 in
theorem vb_X2_readsWhole_48 {X : Nat × (Nat → Int32)} {R : zRt} : ∀ ls st h, B_X2_readsWhole_48 X (zV X M_X2_readsWhole (zQm M_X2_readsWhole R) 0 0) R ls st h → zV X M_X2_readsWhole (zQm M_X2_readsWhole R) 0 0 48 ls st h := sd_zret dX2_readsWhole_48 rfl (Nat.le_of_ble_eq_true rfl) (Nat.le_of_ble_eq_true rfl)
theorem dX2_readsNewName_0 : decode cX2_readsNewName 0 = .ok (.aload_n 0, 1) := by decide +kernel
theorem dX2_readsNewName_1 : decode cX2_readsNewName 1 = .ok (.getfield 12, 3) := by decide +kernel
theorem dX2_readsNewName_4 : decode cX2_readsNewName 4 = .ok (.invokevirtual 44, 3) := by decide +kernel
theorem dX2_readsNewName_7 : decode cX2_readsNewName 7 = .ok (.aload_n 0, 1) := by decide +kernel
theorem dX2_readsNewName_8 : decode cX2_readsNewName 8 = .ok (.getfield 12, 3) := by decide +kernel
theorem dX2_readsNewName_11 : decode cX2_readsNewName 11 = .ok (.getfield 47, 3) := by decide +kernel
theorem dX2_readsNewName_14 : decode cX2_readsNewName 14 = .ok (.iconst 1, 1) := by decide +kernel
theorem dX2_readsNewName_15 : decode cX2_readsNewName 15 = .ok (.if_icmp .ne 10, 3) := by decide +kernel
theorem dX2_readsNewName_18 : decode cX2_readsNewName 18 = .ok (.aload_n 0, 1) := by decide +kernel
theorem dX2_readsNewName_19 : decode cX2_readsNewName 19 = .ok (.invokevirtual 63, 3) := by decide +kernel
theorem dX2_readsNewName_22 : decode cX2_readsNewName 22 = .ok (.ifCond .eq 9, 3) := by decide +kernel
theorem dX2_readsNewName_25 : decode cX2_readsNewName 25 = .ok (.aload_n 0, 1) := by decide +kernel
theorem dX2_readsNewName_26 : decode cX2_readsNewName 26 = .ok (.iconst 1, 1) := by decide +kernel
theorem dX2_readsNewName_27 : decode cX2_readsNewName 27 = .ok (.invokevirtual 53, 3) := by decide +kernel
theorem dX2_readsNewName_30 : decode cX2_readsNewName 30 = .ok (.ireturn, 1) := by decide +kernel
theorem dX2_readsNewName_31 : decode cX2_readsNewName 31 = .ok (.aload_n 0, 1) := by decide +kernel
theorem dX2_readsNewName_32 : decode cX2_readsNewName 32 = .ok (.getfield 21, 3) := by decide +kernel
theorem dX2_readsNewName_35 : decode cX2_readsNewName 35 = .ok (.aload_n 0, 1) := by decide +kernel
theorem dX2_readsNewName_36 : decode cX2_readsNewName 36 = .ok (.getfield 12, 3) := by decide +kernel
theorem dX2_readsNewName_39 : decode cX2_readsNewName 39 = .ok (.getfield 127, 3) := by decide +kernel
theorem dX2_readsNewName_42 : decode cX2_readsNewName 42 = .ok (.invokevirtual 188, 3) := by decide +kernel
theorem dX2_readsNewName_45 : decode cX2_readsNewName 45 = .ok (.ifCond .eq 11, 3) := by decide +kernel
theorem dX2_readsNewName_48 : decode cX2_readsNewName 48 = .ok (.aload_n 0, 1) := by decide +kernel
theorem dX2_readsNewName_49 : decode cX2_readsNewName 49 = .ok (.iconst 3, 1) := by decide +kernel
theorem dX2_readsNewName_50 : decode cX2_readsNewName 50 = .ok (.invokevirtual 53, 3) := by decide +kernel
theorem dX2_readsNewName_53 : decode cX2_readsNewName 53 = .ok (.ifCond .eq 7, 3) := by decide +kernel
theorem dX2_readsNewName_56 : decode cX2_readsNewName 56 = .ok (.iconst 1, 1) := by decide +kernel
theorem dX2_readsNewName_57 : decode cX2_readsNewName 57 = .ok (.goto 4, 3) := by decide +kernel
theorem dX2_readsNewName_60 : decode cX2_readsNewName 60 = .ok (.iconst 0, 1) := by decide +kernel
theorem dX2_readsNewName_61 : decode cX2_readsNewName 61 = .ok (.ireturn, 1) := by decide +kernel
def B_X2_readsNewName_0 (X : Nat × (Nat → Int32)) (J : Nat → zCf) (R : zRt) : zCf := oALOAD 0 (oGETR 2 0 (oINV0 X M_X6_next 6 (oALOAD 0 (oGETR 2 0 (oGETI 6 4 (oPI (zj (1)) (oICNE (J 25) (oALOAD 0 (oINV0 X M_X2_startsLine 2 (oIFEQ (J 31) (J 25)))))))))))
set_option maxRecDepth 100000 in
theorem vb_X2_readsNewName_0 {X : Nat × (Nat → Int32)} {R : zRt} : ∀ ls st h, B_X2_readsNewName_0 X (zV X M_X2_readsNewName (zQm M_X2_readsNewName R) 0 0) R ls st h → zV X M_X2_readsNewName (zQm M_X2_readsNewName R) 0 0 0 ls st h := sd_aload_n dX2_readsNewName_0 rfl (sd_getr dX2_readsNewName_1 zCl2 (Nat.le_of_ble_eq_true rfl) lk_RX2_12 (Or.inl ⟨_, rfl⟩) (sd_inv0 dX2_readsNewName_4 rfl mv_X6_next na_X6_next ml_RX2_44 ⟨⟨Nat.le_of_ble_eq_true rfl, Nat.le_of_ble_eq_true rfl⟩, ⟨Nat.le_of_ble_eq_true rfl, Nat.le_of_ble_eq_true rfl⟩⟩ (sd_aload_n dX2_readsNewName_7 rfl (sd_getr dX2_readsNewName_8 zCl2 (Nat.le_of_ble_eq_true rfl) lk_RX2_12 (Or.inl ⟨_, rfl⟩) (sd_geti dX2_readsNewName_11 zCl6 (Nat.le_of_ble_eq_true rfl) lk_RX2_47 (Or.inl rfl) (sd_iconst dX2_readsNewName_14 rfl (sd_icne dX2_readsNewName_15 rfl (fun _ _ _ h => h) (sd_aload_n dX2_readsNewName_18 rfl (sd_inv0 dX2_readsNewName_19 rfl mv_X2_startsLine na_X2_startsLine ml_RX2_63 ⟨⟨Nat.le_of_ble_eq_true rfl, Nat.le_of_ble_eq_true rfl⟩, ⟨Nat.le_of_ble_eq_true rfl, Nat.le_of_ble_eq_true rfl⟩⟩ (sd_ifeq dX2_readsNewName_22 rfl (fun _ _ _ h => h) (fun _ _ _ h => h)))))))))))
def B_X2_readsNewName_25 (X : Nat × (Nat → Int32)) (J : Nat → zCf) (R : zRt) : zCf := oALOAD 0 (oPI (zj (1)) (oINV1 X M_X2_fails 2 (oZRET R)))
set_option maxRecDepth 100000 in
theorem vb_X2_readsNewName_25 {X : Nat × (Nat → Int32)} {R : zRt} : ∀ ls st h, B_X2_readsNewName_25 X (zV X M_X2_readsNewName (zQm M_X2_readsNewName R) 0 0) R ls st h → zV X M_X2_readsNewName (zQm M_X2_readsNewName R) 0 0 25 ls st h := sd_aload_n dX2_readsNewName_25 rfl (sd_iconst dX2_readsNewName_26 rfl (sd_inv1 dX2_readsNewName_27 rfl mv_X2_fails na_X2_fails ml_RX2_53 ⟨⟨Nat.le_of_ble_eq_true rfl, Nat.le_of_ble_eq_true rfl⟩, ⟨Nat.le_of_ble_eq_true rfl, Nat.le_of_ble_eq_true rfl⟩⟩ (sd_zret dX2_readsNewName_30 rfl (Nat.le_of_ble_eq_true rfl) (Nat.le_of_ble_eq_true rfl))))
def B_X2_readsNewName_31 (X : Nat × (Nat → Int32)) (J : Nat → zCf) (R : zRt) : zCf := oALOAD 0 (oGETR 2 1 (oALOAD 0 (oGETR 2 0 (oGETL 6 6 (oINV1 X M_X1_isNamed 1 (oIFEQ (J 56) (oALOAD 0 (oPI (zj (3)) (oINV1 X M_X2_fails 2 (oIFEQ (J 60) (J 56)))))))))))
set_option maxRecDepth 100000 in
theorem vb_X2_readsNewName_31 {X : Nat × (Nat → Int32)} {R : zRt} : ∀ ls st h, B_X2_readsNewName_31 X (zV X M_X2_readsNewName (zQm M_X2_readsNewName R) 0 0) R ls st h → zV X M_X2_readsNewName (zQm M_X2_readsNewName R) 0 0 31 ls st h := sd_aload_n dX2_readsNewName_31 rfl (sd_getr dX2_readsNewName_32 zCl2 (Nat.le_of_ble_eq_true rfl) lk_RX2_21 (Or.inl ⟨_, rfl⟩) (sd_aload_n dX2_readsNewName_35 rfl (sd_getr dX2_readsNewName_36 zCl2 (Nat.le_of_ble_eq_true rfl) lk_RX2_12 (Or.inl ⟨_, rfl⟩) (sd_getl dX2_readsNewName_39 zCl6 (Nat.le_of_ble_eq_true rfl) lk_RX2_127 rfl (sd_inv1 dX2_readsNewName_42 rfl mv_X1_isNamed na_X1_isNamed ml_RX2_188 ⟨⟨Nat.le_of_ble_eq_true rfl, Nat.le_of_ble_eq_true rfl⟩, ⟨Nat.le_of_ble_eq_true rfl, Nat.le_of_ble_eq_true rfl⟩⟩ (sd_ifeq dX2_readsNewName_45 rfl (fun _ _ _ h => h) (sd_aload_n dX2_readsNewName_48 rfl (sd_iconst dX2_readsNewName_49 rfl (sd_inv1 dX2_readsNewName_50 rfl mv_X2_fails na_X2_fails ml_RX2_53 ⟨⟨Nat.le_of_ble_eq_true rfl, Nat.le_of_ble_eq_true rfl⟩, ⟨Nat.le_of_ble_eq_true rfl, Nat.le_of_ble_eq_true rfl⟩⟩ (sd_ifeq dX2_readsNewName_53 rfl (fun _ _ _ h => h) (fun _ _ _ h => h)))))))))))
def B_X2_readsNewName_56 (X : Nat × (Nat → Int32)) (J : Nat → zCf) (R : zRt) : zCf := oPI (zj (1)) (J 61)
set_option maxRecDepth 100000 in
theorem vb_X2_readsNewName_56 {X : Nat × (Nat → Int32)} {R : zRt} : ∀ ls st h, B_X2_readsNewName_56 X (zV X M_X2_readsNewName (zQm M_X2_readsNewName R) 0 0) R ls st h → zV X M_X2_readsNewName (zQm M_X2_readsNewName R) 0 0 56 ls st h := sd_iconst dX2_readsNewName_56 rfl (sd_goto dX2_readsNewName_57 rfl (fun _ _ _ h => h))
def B_X2_readsNewName_60 (X : Nat × (Nat → Int32)) (J : Nat → zCf) (R : zRt) : zCf := oPI (zj (0)) (J 61)
set_option maxRecDepth 100000 in
theorem vb_X2_readsNewName_60 {X : Nat × (Nat → Int32)} {R : zRt} : ∀ ls st h, B_X2_readsNewName_60 X (zV X M_X2_readsNewName (zQm M_X2_readsNewName R) 0 0) R ls st h → zV X M_X2_readsNewName (zQm M_X2_readsNewName R) 0 0 60 ls st h := sd_iconst dX2_readsNewName_60 rfl (fun _ _ _ h => h)
def B_X2_readsNewName_61 (X : Nat × (Nat → Int32)) (J : Nat → zCf) (R : zRt) : zCf := oZRET R
set_option maxRecDepth 100000 in
theorem vb_X2_readsNewName_61 {X : Nat × (Nat → Int32)} {R : zRt} : ∀ ls st h, B_X2_readsNewName_61 X (zV X M_X2_readsNewName (zQm M_X2_readsNewName R) 0 0) R ls st h → zV X M_X2_readsNewName (zQm M_X2_readsNewName R) 0 0 61 ls st h := sd_zret dX2_readsNewName_61 rfl (Nat.le_of_ble_eq_true rfl) (Nat.le_of_ble_eq_true rfl)
theorem dX2_readsOldBit_0 : decode cX2_readsOldBit 0 = .ok (.aload_n 0, 1) := by decide +kernel
theorem dX2_readsOldBit_1 : decode cX2_readsOldBit 1 = .ok (.getfield 12, 3) := by decide +kernel
theorem dX2_readsOldBit_4 : decode cX2_readsOldBit 4 = .ok (.invokevirtual 44, 3) := by decide +kernel
theorem dX2_readsOldBit_7 : decode cX2_readsOldBit 7 = .ok (.aload_n 0, 1) := by decide +kernel
theorem dX2_readsOldBit_8 : decode cX2_readsOldBit 8 = .ok (.getfield 12, 3) := by decide +kernel
theorem dX2_readsOldBit_11 : decode cX2_readsOldBit 11 = .ok (.getfield 47, 3) := by decide +kernel
theorem dX2_readsOldBit_14 : decode cX2_readsOldBit 14 = .ok (.iconst 1, 1) := by decide +kernel
theorem dX2_readsOldBit_15 : decode cX2_readsOldBit 15 = .ok (.if_icmp .ne 10, 3) := by decide +kernel
theorem dX2_readsOldBit_18 : decode cX2_readsOldBit 18 = .ok (.aload_n 0, 1) := by decide +kernel
theorem dX2_readsOldBit_19 : decode cX2_readsOldBit 19 = .ok (.invokevirtual 63, 3) := by decide +kernel
theorem dX2_readsOldBit_22 : decode cX2_readsOldBit 22 = .ok (.ifCond .eq 11, 3) := by decide +kernel
theorem dX2_readsOldBit_25 : decode cX2_readsOldBit 25 = .ok (.aload_n 0, 1) := by decide +kernel
theorem dX2_readsOldBit_26 : decode cX2_readsOldBit 26 = .ok (.iconst 1, 1) := by decide +kernel
theorem dX2_readsOldBit_27 : decode cX2_readsOldBit 27 = .ok (.invokevirtual 53, 3) := by decide +kernel
theorem dX2_readsOldBit_30 : decode cX2_readsOldBit 30 = .ok (.pop, 1) := by decide +kernel
theorem dX2_readsOldBit_31 : decode cX2_readsOldBit 31 = .ok (.iconst (-1), 1) := by decide +kernel
theorem dX2_readsOldBit_32 : decode cX2_readsOldBit 32 = .ok (.ireturn, 1) := by decide +kernel
theorem dX2_readsOldBit_33 : decode cX2_readsOldBit 33 = .ok (.aload_n 0, 1) := by decide +kernel
theorem dX2_readsOldBit_34 : decode cX2_readsOldBit 34 = .ok (.getfield 21, 3) := by decide +kernel
theorem dX2_readsOldBit_37 : decode cX2_readsOldBit 37 = .ok (.aload_n 0, 1) := by decide +kernel
theorem dX2_readsOldBit_38 : decode cX2_readsOldBit 38 = .ok (.getfield 12, 3) := by decide +kernel
theorem dX2_readsOldBit_41 : decode cX2_readsOldBit 41 = .ok (.getfield 127, 3) := by decide +kernel
theorem dX2_readsOldBit_44 : decode cX2_readsOldBit 44 = .ok (.invokevirtual 191, 3) := by decide +kernel
theorem dX2_readsOldBit_47 : decode cX2_readsOldBit 47 = .ok (.istore_n 2, 1) := by decide +kernel
theorem dX2_readsOldBit_48 : decode cX2_readsOldBit 48 = .ok (.iload_n 2, 1) := by decide +kernel
theorem dX2_readsOldBit_49 : decode cX2_readsOldBit 49 = .ok (.iconst (-1), 1) := by decide +kernel
theorem dX2_readsOldBit_50 : decode cX2_readsOldBit 50 = .ok (.if_icmp .ne 11, 3) := by decide +kernel
theorem dX2_readsOldBit_53 : decode cX2_readsOldBit 53 = .ok (.aload_n 0, 1) := by decide +kernel
theorem dX2_readsOldBit_54 : decode cX2_readsOldBit 54 = .ok (.iconst 2, 1) := by decide +kernel
theorem dX2_readsOldBit_55 : decode cX2_readsOldBit 55 = .ok (.invokevirtual 53, 3) := by decide +kernel
theorem dX2_readsOldBit_58 : decode cX2_readsOldBit 58 = .ok (.pop, 1) := by decide +kernel
theorem dX2_readsOldBit_59 : decode cX2_readsOldBit 59 = .ok (.iconst (-1), 1) := by decide +kernel
theorem dX2_readsOldBit_60 : decode cX2_readsOldBit 60 = .ok (.ireturn, 1) := by decide +kernel
theorem dX2_readsOldBit_61 : decode cX2_readsOldBit 61 = .ok (.iload_n 2, 1) := by decide +kernel
theorem dX2_readsOldBit_62 : decode cX2_readsOldBit 62 = .ok (.aload_n 1, 1) := by decide +kernel
theorem dX2_readsOldBit_63 : decode cX2_readsOldBit 63 = .ok (.arraylength, 1) := by decide +kernel
theorem dX2_readsOldBit_64 : decode cX2_readsOldBit 64 = .ok (.if_icmp .ge 11, 3) := by decide +kernel
theorem dX2_readsOldBit_67 : decode cX2_readsOldBit 67 = .ok (.aload_n 1, 1) := by decide +kernel
theorem dX2_readsOldBit_68 : decode cX2_readsOldBit 68 = .ok (.iload_n 2, 1) := by decide +kernel
theorem dX2_readsOldBit_69 : decode cX2_readsOldBit 69 = .ok (.iaload, 1) := by decide +kernel
theorem dX2_readsOldBit_70 : decode cX2_readsOldBit 70 = .ok (.bipush (-2), 2) := by decide +kernel
theorem dX2_readsOldBit_72 : decode cX2_readsOldBit 72 = .ok (.if_icmp .eq 11, 3) := by decide +kernel
theorem dX2_readsOldBit_75 : decode cX2_readsOldBit 75 = .ok (.aload_n 0, 1) := by decide +kernel
theorem dX2_readsOldBit_76 : decode cX2_readsOldBit 76 = .ok (.iconst 3, 1) := by decide +kernel
theorem dX2_readsOldBit_77 : decode cX2_readsOldBit 77 = .ok (.invokevirtual 53, 3) := by decide +kernel
theorem dX2_readsOldBit_80 : decode cX2_readsOldBit 80 = .ok (.pop, 1) := by decide +kernel
theorem dX2_readsOldBit_81 : decode cX2_readsOldBit 81 = .ok (.iconst (-1), 1) := by decide +kernel
theorem dX2_readsOldBit_82 : decode cX2_readsOldBit 82 = .ok (.ireturn, 1) := by decide +kernel
theorem dX2_readsOldBit_83 : decode cX2_readsOldBit 83 = .ok (.iload_n 2, 1) := by decide +kernel
theorem dX2_readsOldBit_84 : decode cX2_readsOldBit 84 = .ok (.ireturn, 1) := by decide +kernel
def B_X2_readsOldBit_0 (X : Nat × (Nat → Int32)) (J : Nat → zCf) (R : zRt) : zCf := oALOAD 0 (oGETR 2 0 (oINV0 X M_X6_next 6 (oALOAD 0 (oGETR 2 0 (oGETI 6 4 (oPI (zj (1)) (oICNE (J 25) (oALOAD 0 (oINV0 X M_X2_startsLine 2 (oIFEQ (J 33) (J 25)))))))))))
set_option maxRecDepth 100000 in
theorem vb_X2_readsOldBit_0 {X : Nat × (Nat → Int32)} {R : zRt} : ∀ ls st h, B_X2_readsOldBit_0 X (zV X M_X2_readsOldBit (zQm M_X2_readsOldBit R) 0 0) R ls st h → zV X M_X2_readsOldBit (zQm M_X2_readsOldBit R) 0 0 0 ls st h := sd_aload_n dX2_readsOldBit_0 rfl (sd_getr dX2_readsOldBit_1 zCl2 (Nat.le_of_ble_eq_true rfl) lk_RX2_12 (Or.inl ⟨_, rfl⟩) (sd_inv0 dX2_readsOldBit_4 rfl mv_X6_next na_X6_next ml_RX2_44 ⟨⟨Nat.le_of_ble_eq_true rfl, Nat.le_of_ble_eq_true rfl⟩, ⟨Nat.le_of_ble_eq_true rfl, Nat.le_of_ble_eq_true rfl⟩⟩ (sd_aload_n dX2_readsOldBit_7 rfl (sd_getr dX2_readsOldBit_8 zCl2 (Nat.le_of_ble_eq_true rfl) lk_RX2_12 (Or.inl ⟨_, rfl⟩) (sd_geti dX2_readsOldBit_11 zCl6 (Nat.le_of_ble_eq_true rfl) lk_RX2_47 (Or.inl rfl) (sd_iconst dX2_readsOldBit_14 rfl (sd_icne dX2_readsOldBit_15 rfl (fun _ _ _ h => h) (sd_aload_n dX2_readsOldBit_18 rfl (sd_inv0 dX2_readsOldBit_19 rfl mv_X2_startsLine na_X2_startsLine ml_RX2_63 ⟨⟨Nat.le_of_ble_eq_true rfl, Nat.le_of_ble_eq_true rfl⟩, ⟨Nat.le_of_ble_eq_true rfl, Nat.le_of_ble_eq_true rfl⟩⟩ (sd_ifeq dX2_readsOldBit_22 rfl (fun _ _ _ h => h) (fun _ _ _ h => h)))))))))))
def B_X2_readsOldBit_25 (X : Nat × (Nat → Int32)) (J : Nat → zCf) (R : zRt) : zCf := oALOAD 0 (oPI (zj (1)) (oINV1 X M_X2_fails 2 (oPOP (oPI (zj (-1)) (oIRET R)))))
set_option maxRecDepth 100000 in
theorem vb_X2_readsOldBit_25 {X : Nat × (Nat → Int32)} {R : zRt} : ∀ ls st h, B_X2_readsOldBit_25 X (zV X M_X2_readsOldBit (zQm M_X2_readsOldBit R) 0 0) R ls st h → zV X M_X2_readsOldBit (zQm M_X2_readsOldBit R) 0 0 25 ls st h := sd_aload_n dX2_readsOldBit_25 rfl (sd_iconst dX2_readsOldBit_26 rfl (sd_inv1 dX2_readsOldBit_27 rfl mv_X2_fails na_X2_fails ml_RX2_53 ⟨⟨Nat.le_of_ble_eq_true rfl, Nat.le_of_ble_eq_true rfl⟩, ⟨Nat.le_of_ble_eq_true rfl, Nat.le_of_ble_eq_true rfl⟩⟩ (sd_pop dX2_readsOldBit_30 (sd_iconst dX2_readsOldBit_31 rfl (sd_iret dX2_readsOldBit_32 rfl (Nat.le_of_ble_eq_true rfl) (Nat.le_of_ble_eq_true rfl))))))
def B_X2_readsOldBit_33 (X : Nat × (Nat → Int32)) (J : Nat → zCf) (R : zRt) : zCf := oALOAD 0 (oGETR 2 1 (oALOAD 0 (oGETR 2 0 (oGETL 6 6 (oINV1 X M_X1_bitNamed 1 (oISTORE 1 2 (oILOAD 2 (oPI (zj (-1)) (oICNE (J 61) (oALOAD 0 (oPI (zj (2)) (oINV1 X M_X2_fails 2 (oPOP (oPI (zj (-1)) (oIRET R)))))))))))))))
set_option maxRecDepth 100000 in
theorem vb_X2_readsOldBit_33 {X : Nat × (Nat → Int32)} {R : zRt} : ∀ ls st h, B_X2_readsOldBit_33 X (zV X M_X2_readsOldBit (zQm M_X2_readsOldBit R) 0 0) R ls st h → zV X M_X2_readsOldBit (zQm M_X2_readsOldBit R) 0 0 33 ls st h := sd_aload_n dX2_readsOldBit_33 rfl (sd_getr dX2_readsOldBit_34 zCl2 (Nat.le_of_ble_eq_true rfl) lk_RX2_21 (Or.inl ⟨_, rfl⟩) (sd_aload_n dX2_readsOldBit_37 rfl (sd_getr dX2_readsOldBit_38 zCl2 (Nat.le_of_ble_eq_true rfl) lk_RX2_12 (Or.inl ⟨_, rfl⟩) (sd_getl dX2_readsOldBit_41 zCl6 (Nat.le_of_ble_eq_true rfl) lk_RX2_127 rfl (sd_inv1 dX2_readsOldBit_44 rfl mv_X1_bitNamed na_X1_bitNamed ml_RX2_191 ⟨⟨Nat.le_of_ble_eq_true rfl, Nat.le_of_ble_eq_true rfl⟩, ⟨Nat.le_of_ble_eq_true rfl, Nat.le_of_ble_eq_true rfl⟩⟩ (sd_istore_n dX2_readsOldBit_47 rfl (Nat.le_of_ble_eq_true rfl) (Or.inl rfl) (sd_iload_n dX2_readsOldBit_48 rfl (sd_iconst dX2_readsOldBit_49 rfl (sd_icne dX2_readsOldBit_50 rfl (fun _ _ _ h => h) (sd_aload_n dX2_readsOldBit_53 rfl (sd_iconst dX2_readsOldBit_54 rfl (sd_inv1 dX2_readsOldBit_55 rfl mv_X2_fails na_X2_fails ml_RX2_53 ⟨⟨Nat.le_of_ble_eq_true rfl, Nat.le_of_ble_eq_true rfl⟩, ⟨Nat.le_of_ble_eq_true rfl, Nat.le_of_ble_eq_true rfl⟩⟩ (sd_pop dX2_readsOldBit_58 (sd_iconst dX2_readsOldBit_59 rfl (sd_iret dX2_readsOldBit_60 rfl (Nat.le_of_ble_eq_true rfl) (Nat.le_of_ble_eq_true rfl))))))))))))))))
def B_X2_readsOldBit_61 (X : Nat × (Nat → Int32)) (J : Nat → zCf) (R : zRt) : zCf := oILOAD 2 (oALOAD 1 (oALEN (oICGE (J 75) (oALOAD 1 (oILOAD 2 (oIALD (oPI (zj (-2)) (oICEQ (J 83) (J 75)))))))))
set_option maxRecDepth 100000 in
theorem vb_X2_readsOldBit_61 {X : Nat × (Nat → Int32)} {R : zRt} : ∀ ls st h, B_X2_readsOldBit_61 X (zV X M_X2_readsOldBit (zQm M_X2_readsOldBit R) 0 0) R ls st h → zV X M_X2_readsOldBit (zQm M_X2_readsOldBit R) 0 0 61 ls st h := sd_iload_n dX2_readsOldBit_61 rfl (sd_aload_n dX2_readsOldBit_62 rfl (sd_alen dX2_readsOldBit_63 (sd_icge dX2_readsOldBit_64 rfl (fun _ _ _ h => h) (sd_aload_n dX2_readsOldBit_67 rfl (sd_iload_n dX2_readsOldBit_68 rfl (sd_iald dX2_readsOldBit_69 (sd_bipush dX2_readsOldBit_70 rfl (sd_iceq dX2_readsOldBit_72 rfl (fun _ _ _ h => h) (fun _ _ _ h => h)))))))))
def B_X2_readsOldBit_75 (X : Nat × (Nat → Int32)) (J : Nat → zCf) (R : zRt) : zCf := oALOAD 0 (oPI (zj (3)) (oINV1 X M_X2_fails 2 (oPOP (oPI (zj (-1)) (oIRET R)))))
set_option maxRecDepth 100000 in
theorem vb_X2_readsOldBit_75 {X : Nat × (Nat → Int32)} {R : zRt} : ∀ ls st h, B_X2_readsOldBit_75 X (zV X M_X2_readsOldBit (zQm M_X2_readsOldBit R) 0 0) R ls st h → zV X M_X2_readsOldBit (zQm M_X2_readsOldBit R) 0 0 75 ls st h := sd_aload_n dX2_readsOldBit_75 rfl (sd_iconst dX2_readsOldBit_76 rfl (sd_inv1 dX2_readsOldBit_77 rfl mv_X2_fails na_X2_fails ml_RX2_53 ⟨⟨Nat.le_of_ble_eq_true rfl, Nat.le_of_ble_eq_true rfl⟩, ⟨Nat.le_of_ble_eq_true rfl, Nat.le_of_ble_eq_true rfl⟩⟩ (sd_pop dX2_readsOldBit_80 (sd_iconst dX2_readsOldBit_81 rfl (sd_iret dX2_readsOldBit_82 rfl (Nat.le_of_ble_eq_true rfl) (Nat.le_of_ble_eq_true rfl))))))
def B_X2_readsOldBit_83 (X : Nat × (Nat → Int32)) (J : Nat → zCf) (R : zRt) : zCf := oILOAD 2 (oIRET R)
set_option maxRecDepth 100000 in
theorem vb_X2_readsOldBit_83 {X : Nat × (Nat → Int32)} {R : zRt} : ∀ ls st h, B_X2_readsOldBit_83 X (zV X M_X2_readsOldBit (zQm M_X2_readsOldBit R) 0 0) R ls st h → zV X M_X2_readsOldBit (zQm M_X2_readsOldBit R) 0 0 83 ls st h := sd_iload_n dX2_readsOldBit_83 rfl (sd_iret dX2_readsOldBit_84 rfl (Nat.le_of_ble_eq_true rfl) (Nat.le_of_ble_eq_true rfl))
