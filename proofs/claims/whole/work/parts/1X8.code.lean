theorem dX8_init_0 : decode cX8_init 0 = .ok (.aload_n 0, 1) := by decide +kernel
theorem dX8_init_1 : decode cX8_init 1 = .ok (.invokespecial 3, 3) := by decide +kernel
theorem dX8_init_4 : decode cX8_init 4 = .ok (.aload_n 0, 1) := by decide +kernel
theorem dX8_init_5 : decode cX8_init 5 = .ok (.iconst (-1), 1) := by decide +kernel
theorem dX8_init_6 : decode cX8_init 6 = .ok (.putfield 9, 3) := by decide +kernel
theorem dX8_init_9 : decode cX8_init 9 = .ok (.aload_n 0, 1) := by decide +kernel
theorem dX8_init_10 : decode cX8_init 10 = .ok (.bipush 6, 2) := by decide +kernel
theorem dX8_init_12 : decode cX8_init 12 = .ok (.newarray .int, 2) := by decide +kernel
theorem dX8_init_14 : decode cX8_init 14 = .ok (.putfield 15, 3) := by decide +kernel
theorem dX8_init_17 : decode cX8_init 17 = .ok (.aload_n 0, 1) := by decide +kernel
theorem dX8_init_18 : decode cX8_init 18 = .ok (.bipush 6, 2) := by decide +kernel
theorem dX8_init_20 : decode cX8_init 20 = .ok (.newarray .int, 2) := by decide +kernel
theorem dX8_init_22 : decode cX8_init 22 = .ok (.putfield 19, 3) := by decide +kernel
theorem dX8_init_25 : decode cX8_init 25 = .ok (.aload_n 0, 1) := by decide +kernel
theorem dX8_init_26 : decode cX8_init 26 = .ok (.bipush 6, 2) := by decide +kernel
theorem dX8_init_28 : decode cX8_init 28 = .ok (.newarray .int, 2) := by decide +kernel
theorem dX8_init_30 : decode cX8_init 30 = .ok (.putfield 22, 3) := by decide +kernel
theorem dX8_init_33 : decode cX8_init 33 = .ok (.aload_n 0, 1) := by decide +kernel
theorem dX8_init_34 : decode cX8_init 34 = .ok (.bipush 6, 2) := by decide +kernel
theorem dX8_init_36 : decode cX8_init 36 = .ok (.newarray .int, 2) := by decide +kernel
theorem dX8_init_38 : decode cX8_init 38 = .ok (.putfield 25, 3) := by decide +kernel
theorem dX8_init_41 : decode cX8_init 41 = .ok (.aload_n 0, 1) := by decide +kernel
theorem dX8_init_42 : decode cX8_init 42 = .ok (.bipush 6, 2) := by decide +kernel
theorem dX8_init_44 : decode cX8_init 44 = .ok (.newarray .long, 2) := by decide +kernel
theorem dX8_init_46 : decode cX8_init 46 = .ok (.putfield 28, 3) := by decide +kernel
theorem dX8_init_49 : decode cX8_init 49 = .ok (.aload_n 0, 1) := by decide +kernel
theorem dX8_init_50 : decode cX8_init 50 = .ok (.bipush 6, 2) := by decide +kernel
theorem dX8_init_52 : decode cX8_init 52 = .ok (.newarray .int, 2) := by decide +kernel
theorem dX8_init_54 : decode cX8_init 54 = .ok (.putfield 32, 3) := by decide +kernel
theorem dX8_init_57 : decode cX8_init 57 = .ok (.aload_n 0, 1) := by decide +kernel
theorem dX8_init_58 : decode cX8_init 58 = .ok (.bipush 8, 2) := by decide +kernel
theorem dX8_init_60 : decode cX8_init 60 = .ok (.newarray .int, 2) := by decide +kernel
theorem dX8_init_62 : decode cX8_init 62 = .ok (.putfield 35, 3) := by decide +kernel
theorem dX8_init_65 : decode cX8_init 65 = .ok (.aload_n 0, 1) := by decide +kernel
theorem dX8_init_66 : decode cX8_init 66 = .ok (.iconst 4, 1) := by decide +kernel
theorem dX8_init_67 : decode cX8_init 67 = .ok (.newarray .int, 2) := by decide +kernel
theorem dX8_init_69 : decode cX8_init 69 = .ok (.putfield 38, 3) := by decide +kernel
theorem dX8_init_72 : decode cX8_init 72 = .ok (.aload_n 0, 1) := by decide +kernel
theorem dX8_init_73 : decode cX8_init 73 = .ok (.iconst 4, 1) := by decide +kernel
theorem dX8_init_74 : decode cX8_init 74 = .ok (.newarray .int, 2) := by decide +kernel
theorem dX8_init_76 : decode cX8_init 76 = .ok (.putfield 41, 3) := by decide +kernel
theorem dX8_init_79 : decode cX8_init 79 = .ok (.aload_n 0, 1) := by decide +kernel
theorem dX8_init_80 : decode cX8_init 80 = .ok (.bipush 6, 2) := by decide +kernel
theorem dX8_init_82 : decode cX8_init 82 = .ok (.newarray .long, 2) := by decide +kernel
theorem dX8_init_84 : decode cX8_init 84 = .ok (.putfield 44, 3) := by decide +kernel
theorem dX8_init_87 : decode cX8_init 87 = .ok (.aload_n 0, 1) := by decide +kernel
theorem dX8_init_88 : decode cX8_init 88 = .ok (.bipush 10, 2) := by decide +kernel
theorem dX8_init_90 : decode cX8_init 90 = .ok (.newarray .long, 2) := by decide +kernel
theorem dX8_init_92 : decode cX8_init 92 = .ok (.putfield 47, 3) := by decide +kernel
theorem dX8_init_95 : decode cX8_init 95 = .ok (.aload_n 0, 1) := by decide +kernel
theorem dX8_init_96 : decode cX8_init 96 = .ok (.bipush 10, 2) := by decide +kernel
theorem dX8_init_98 : decode cX8_init 98 = .ok (.newarray .int, 2) := by decide +kernel
theorem dX8_init_100 : decode cX8_init 100 = .ok (.putfield 50, 3) := by decide +kernel
theorem dX8_init_103 : decode cX8_init 103 = .ok (.aload_n 0, 1) := by decide +kernel
theorem dX8_init_104 : decode cX8_init 104 = .ok (.bipush 10, 2) := by decide +kernel
theorem dX8_init_106 : decode cX8_init 106 = .ok (.newarray .int, 2) := by decide +kernel
theorem dX8_init_108 : decode cX8_init 108 = .ok (.putfield 53, 3) := by decide +kernel
theorem dX8_init_111 : decode cX8_init 111 = .ok (.return_, 1) := by decide +kernel
def B_X8_init_0 (X : Nat × (Nat → Int32)) (J : Nat → zCf) (R : zRt) : zCf := oALOAD 0 (oOBJ (oALOAD 0 (oPI (zj (-1)) (oPUTI 8 0 (oALOAD 0 (oPI (zj (6)) (oNEWAI 6 (oPUTR 8 8 (oALOAD 0 (oPI (zj (6)) (oNEWAI 6 (oPUTR 8 9 (oALOAD 0 (oPI (zj (6)) (oNEWAI 6 (oPUTR 8 10 (oALOAD 0 (oPI (zj (6)) (oNEWAI 6 (oPUTR 8 11 (oALOAD 0 (oPI (zj (6)) (oNEWAL 6 (oPUTR 8 12 (oALOAD 0 (oPI (zj (6)) (oNEWAI 6 (oPUTR 8 13 (oALOAD 0 (oPI (zj (8)) (oNEWAI 8 (oPUTR 8 14 (oALOAD 0 (oPI (zj (4)) (oNEWAI 4 (oPUTR 8 15 (oALOAD 0 (oPI (zj (4)) (oNEWAI 4 (oPUTR 8 16 (oALOAD 0 (oPI (zj (6)) (oNEWAL 6 (oPUTR 8 17 (oALOAD 0 (oPI (zj (10)) (oNEWAL 10 (oPUTR 8 18 (oALOAD 0 (oPI (zj (10)) (oNEWAI 10 (oPUTR 8 19 (oALOAD 0 (oPI (zj (10)) (oNEWAI 10 (oPUTR 8 20 (oVRET R)))))))))))))))))))))))))))))))))))))))))))))))))))))))))
set_option maxRecDepth 100000 in
theorem vb_X8_init_0 {X : Nat × (Nat → Int32)} {R : zRt} : ∀ ls st h, B_X8_init_0 X (fun t => zV X M_X8_init (zQm M_X8_init R) (if t ≤ 106 then 0 else 13) (if t ≤ 106 then 0 else 88) t) R ls st h → zV X M_X8_init (zQm M_X8_init R) 0 0 0 ls st h := sd_aload_n dX8_init_0 rfl (sd_obj dX8_init_1 (zmt (zt5 (i := 197) rfl) rfl) (zmt (zt1 (i := 28) rfl) rfl) (zmt (zt1 (i := 29) rfl) rfl) (Nat.le_of_ble_eq_true rfl) (Nat.le_of_ble_eq_true rfl) (sd_aload_n dX8_init_4 rfl (sd_iconst dX8_init_5 rfl (sd_puti dX8_init_6 zCl8 (Nat.le_of_ble_eq_true rfl) lk_RX8_9 rfl (Or.inl rfl) (sd_aload_n dX8_init_9 rfl (sd_bipush dX8_init_10 rfl (sd_newai dX8_init_12 (zmt (zt1 (i := 155) rfl) rfl) (by decide) (Nat.le_of_ble_eq_true rfl) (Nat.le_of_ble_eq_true rfl) (sd_putr dX8_init_14 zCl8 (Nat.le_of_ble_eq_true rfl) lk_RX8_15 (Or.inr ⟨_, rfl⟩) (Or.inr ⟨rfl, rfl, rfl, (zmt (zt5 (i := 210) rfl) rfl)⟩) (sd_aload_n dX8_init_17 rfl (sd_bipush dX8_init_18 rfl (sd_newai dX8_init_20 (zmt (zt1 (i := 155) rfl) rfl) (by decide) (Nat.le_of_ble_eq_true rfl) (Nat.le_of_ble_eq_true rfl) (sd_putr dX8_init_22 zCl8 (Nat.le_of_ble_eq_true rfl) lk_RX8_19 (Or.inr ⟨_, rfl⟩) (Or.inr ⟨rfl, rfl, rfl, (zmt (zt5 (i := 212) rfl) rfl)⟩) (sd_aload_n dX8_init_25 rfl (sd_bipush dX8_init_26 rfl (sd_newai dX8_init_28 (zmt (zt1 (i := 155) rfl) rfl) (by decide) (Nat.le_of_ble_eq_true rfl) (Nat.le_of_ble_eq_true rfl) (sd_putr dX8_init_30 zCl8 (Nat.le_of_ble_eq_true rfl) lk_RX8_22 (Or.inr ⟨_, rfl⟩) (Or.inr ⟨rfl, rfl, rfl, (zmt (zt5 (i := 214) rfl) rfl)⟩) (sd_aload_n dX8_init_33 rfl (sd_bipush dX8_init_34 rfl (sd_newai dX8_init_36 (zmt (zt1 (i := 155) rfl) rfl) (by decide) (Nat.le_of_ble_eq_true rfl) (Nat.le_of_ble_eq_true rfl) (sd_putr dX8_init_38 zCl8 (Nat.le_of_ble_eq_true rfl) lk_RX8_25 (Or.inr ⟨_, rfl⟩) (Or.inr ⟨rfl, rfl, rfl, (zmt (zt5 (i := 216) rfl) rfl)⟩) (sd_aload_n dX8_init_41 rfl (sd_bipush dX8_init_42 rfl (sd_newal dX8_init_44 (zmt (zt1 (i := 154) rfl) rfl) (by decide) (Nat.le_of_ble_eq_true rfl) (Nat.le_of_ble_eq_true rfl) (sd_putr dX8_init_46 zCl8 (Nat.le_of_ble_eq_true rfl) lk_RX8_28 (Or.inr ⟨_, rfl⟩) (Or.inr ⟨rfl, rfl, rfl, (zmt (zt5 (i := 218) rfl) rfl)⟩) (sd_aload_n dX8_init_49 rfl (sd_bipush dX8_init_50 rfl (sd_newai dX8_init_52 (zmt (zt1 (i := 155) rfl) rfl) (by decide) (Nat.le_of_ble_eq_true rfl) (Nat.le_of_ble_eq_true rfl) (sd_putr dX8_init_54 zCl8 (Nat.le_of_ble_eq_true rfl) lk_RX8_32 (Or.inr ⟨_, rfl⟩) (Or.inr ⟨rfl, rfl, rfl, (zmt (zt5 (i := 220) rfl) rfl)⟩) (sd_aload_n dX8_init_57 rfl (sd_bipush dX8_init_58 rfl (sd_newai dX8_init_60 (zmt (zt1 (i := 155) rfl) rfl) (by decide) (Nat.le_of_ble_eq_true rfl) (Nat.le_of_ble_eq_true rfl) (sd_putr dX8_init_62 zCl8 (Nat.le_of_ble_eq_true rfl) lk_RX8_35 (Or.inr ⟨_, rfl⟩) (Or.inr ⟨rfl, rfl, rfl, (zmt (zt5 (i := 222) rfl) rfl)⟩) (sd_aload_n dX8_init_65 rfl (sd_iconst dX8_init_66 rfl (sd_newai dX8_init_67 (zmt (zt1 (i := 155) rfl) rfl) (by decide) (Nat.le_of_ble_eq_true rfl) (Nat.le_of_ble_eq_true rfl) (sd_putr dX8_init_69 zCl8 (Nat.le_of_ble_eq_true rfl) lk_RX8_38 (Or.inr ⟨_, rfl⟩) (Or.inr ⟨rfl, rfl, rfl, (zmt (zt5 (i := 224) rfl) rfl)⟩) (sd_aload_n dX8_init_72 rfl (sd_iconst dX8_init_73 rfl (sd_newai dX8_init_74 (zmt (zt1 (i := 155) rfl) rfl) (by decide) (Nat.le_of_ble_eq_true rfl) (Nat.le_of_ble_eq_true rfl) (sd_putr dX8_init_76 zCl8 (Nat.le_of_ble_eq_true rfl) lk_RX8_41 (Or.inr ⟨_, rfl⟩) (Or.inr ⟨rfl, rfl, rfl, (zmt (zt5 (i := 226) rfl) rfl)⟩) (sd_aload_n dX8_init_79 rfl (sd_bipush dX8_init_80 rfl (sd_newal dX8_init_82 (zmt (zt1 (i := 154) rfl) rfl) (by decide) (Nat.le_of_ble_eq_true rfl) (Nat.le_of_ble_eq_true rfl) (sd_putr dX8_init_84 zCl8 (Nat.le_of_ble_eq_true rfl) lk_RX8_44 (Or.inr ⟨_, rfl⟩) (Or.inr ⟨rfl, rfl, rfl, (zmt (zt5 (i := 228) rfl) rfl)⟩) (sd_aload_n dX8_init_87 rfl (sd_bipush dX8_init_88 rfl (sd_newal dX8_init_90 (zmt (zt1 (i := 154) rfl) rfl) (by decide) (Nat.le_of_ble_eq_true rfl) (Nat.le_of_ble_eq_true rfl) (sd_putr dX8_init_92 zCl8 (Nat.le_of_ble_eq_true rfl) lk_RX8_47 (Or.inr ⟨_, rfl⟩) (Or.inr ⟨rfl, rfl, rfl, (zmt (zt5 (i := 230) rfl) rfl)⟩) (sd_aload_n dX8_init_95 rfl (sd_bipush dX8_init_96 rfl (sd_newai dX8_init_98 (zmt (zt1 (i := 155) rfl) rfl) (by decide) (Nat.le_of_ble_eq_true rfl) (Nat.le_of_ble_eq_true rfl) (sd_putr dX8_init_100 zCl8 (Nat.le_of_ble_eq_true rfl) lk_RX8_50 (Or.inr ⟨_, rfl⟩) (Or.inr ⟨rfl, rfl, rfl, (zmt (zt5 (i := 232) rfl) rfl)⟩) (sd_aload_n dX8_init_103 rfl (sd_bipush dX8_init_104 rfl (sd_newai dX8_init_106 (zmt (zt1 (i := 155) rfl) rfl) (by decide) (Nat.le_of_ble_eq_true rfl) (Nat.le_of_ble_eq_true rfl) (sd_putr dX8_init_108 zCl8 (Nat.le_of_ble_eq_true rfl) lk_RX8_53 (Or.inr ⟨_, rfl⟩) (Or.inr ⟨rfl, rfl, rfl, (zmt (zt5 (i := 234) rfl) rfl)⟩) (sd_vret dX8_init_111 rfl (Nat.le_of_ble_eq_true rfl) (Nat.le_of_ble_eq_true rfl))))))))))))))))))))))))))))))))))))))))))))))))))))))))))
theorem dX8_find_0 : decode cX8_find 0 = .ok (.iconst 0, 1) := by decide +kernel
theorem dX8_find_1 : decode cX8_find 1 = .ok (.istore_n 3, 1) := by decide +kernel
theorem dX8_find_2 : decode cX8_find 2 = .ok (.iload_n 3, 1) := by decide +kernel
theorem dX8_find_3 : decode cX8_find 3 = .ok (.aload_n 0, 1) := by decide +kernel
theorem dX8_find_4 : decode cX8_find 4 = .ok (.getfield 56, 3) := by decide +kernel
theorem dX8_find_7 : decode cX8_find 7 = .ok (.if_icmp .ge 22, 3) := by decide +kernel
theorem dX8_find_10 : decode cX8_find 10 = .ok (.aload_n 0, 1) := by decide +kernel
theorem dX8_find_11 : decode cX8_find 11 = .ok (.getfield 47, 3) := by decide +kernel
theorem dX8_find_14 : decode cX8_find 14 = .ok (.iload_n 3, 1) := by decide +kernel
theorem dX8_find_15 : decode cX8_find 15 = .ok (.laload, 1) := by decide +kernel
theorem dX8_find_16 : decode cX8_find 16 = .ok (.lload_n 1, 1) := by decide +kernel
theorem dX8_find_17 : decode cX8_find 17 = .ok (.lcmp, 1) := by decide +kernel
theorem dX8_find_18 : decode cX8_find 18 = .ok (.ifCond .ne 5, 3) := by decide +kernel
theorem dX8_find_21 : decode cX8_find 21 = .ok (.iload_n 3, 1) := by decide +kernel
theorem dX8_find_22 : decode cX8_find 22 = .ok (.ireturn, 1) := by decide +kernel
theorem dX8_find_23 : decode cX8_find 23 = .ok (.iinc 3 1, 3) := by decide +kernel
theorem dX8_find_26 : decode cX8_find 26 = .ok (.goto (-24), 3) := by decide +kernel
theorem dX8_find_29 : decode cX8_find 29 = .ok (.iconst (-1), 1) := by decide +kernel
theorem dX8_find_30 : decode cX8_find 30 = .ok (.ireturn, 1) := by decide +kernel
def B_X8_find_0 (X : Nat × (Nat → Int32)) (J : Nat → zCf) (R : zRt) : zCf := oPI (zj (0)) (oISTORE 2 3 (J 2))
set_option maxRecDepth 100000 in
theorem vb_X8_find_0 {X : Nat × (Nat → Int32)} {R : zRt} : ∀ ls st h, B_X8_find_0 X (zV X M_X8_find (zQm M_X8_find R) 0 0) R ls st h → zV X M_X8_find (zQm M_X8_find R) 0 0 0 ls st h := sd_iconst dX8_find_0 rfl (sd_istore_n dX8_find_1 rfl (Nat.le_of_ble_eq_true rfl) (Or.inl rfl) (fun _ _ _ h => h))
def B_X8_find_2 (X : Nat × (Nat → Int32)) (J : Nat → zCf) (R : zRt) : zCf := oILOAD 3 (oALOAD 0 (oGETI 8 7 (oICGE (J 29) (oALOAD 0 (oGETR 8 18 (oILOAD 3 (oLALD (oLLOAD 1 (oLCMP (oIFNE (J 23) (oILOAD 3 (oIRET R))))))))))))
set_option maxRecDepth 100000 in
theorem vb_X8_find_2 {X : Nat × (Nat → Int32)} {R : zRt} : ∀ ls st h, B_X8_find_2 X (zV X M_X8_find (zQm M_X8_find R) 0 0) R ls st h → zV X M_X8_find (zQm M_X8_find R) 0 0 2 ls st h := sd_iload_n dX8_find_2 rfl (sd_aload_n dX8_find_3 rfl (sd_geti dX8_find_4 zCl8 (Nat.le_of_ble_eq_true rfl) lk_RX8_56 (Or.inl rfl) (sd_icge dX8_find_7 rfl (fun _ _ _ h => h) (sd_aload_n dX8_find_10 rfl (sd_getr dX8_find_11 zCl8 (Nat.le_of_ble_eq_true rfl) lk_RX8_47 (Or.inr ⟨_, rfl⟩) (sd_iload_n dX8_find_14 rfl (sd_lald dX8_find_15 (sd_lload_n dX8_find_16 rfl (sd_lcmp dX8_find_17 (sd_ifne dX8_find_18 rfl (fun _ _ _ h => h) (sd_iload_n dX8_find_21 rfl (sd_iret dX8_find_22 rfl (Nat.le_of_ble_eq_true rfl) (Nat.le_of_ble_eq_true rfl)))))))))))))
def B_X8_find_23 (X : Nat × (Nat → Int32)) (J : Nat → zCf) (R : zRt) : zCf := oIINC 2 3 (zj (1)) (J 2)
set_option maxRecDepth 100000 in
theorem vb_X8_find_23 {X : Nat × (Nat → Int32)} {R : zRt} : ∀ ls st h, B_X8_find_23 X (zV X M_X8_find (zQm M_X8_find R) 0 0) R ls st h → zV X M_X8_find (zQm M_X8_find R) 0 0 23 ls st h := sd_iinc dX8_find_23 rfl (Nat.le_of_ble_eq_true rfl) (Or.inl rfl) (sd_goto dX8_find_26 rfl (fun _ _ _ h => h))
def B_X8_find_29 (X : Nat × (Nat → Int32)) (J : Nat → zCf) (R : zRt) : zCf := oPI (zj (-1)) (oIRET R)
set_option maxRecDepth 100000 in
theorem vb_X8_find_29 {X : Nat × (Nat → Int32)} {R : zRt} : ∀ ls st h, B_X8_find_29 X (zV X M_X8_find (zQm M_X8_find R) 0 0) R ls st h → zV X M_X8_find (zQm M_X8_find R) 0 0 29 ls st h := sd_iconst dX8_find_29 rfl (sd_iret dX8_find_30 rfl (Nat.le_of_ble_eq_true rfl) (Nat.le_of_ble_eq_true rfl))
theorem dX8_isHoliday_0 : decode cX8_isHoliday 0 = .ok (.iconst 0, 1) := by decide +kernel
theorem dX8_isHoliday_1 : decode cX8_isHoliday 1 = .ok (.istore_n 2, 1) := by decide +kernel
theorem dX8_isHoliday_2 : decode cX8_isHoliday 2 = .ok (.iload_n 2, 1) := by decide +kernel
theorem dX8_isHoliday_3 : decode cX8_isHoliday 3 = .ok (.aload_n 0, 1) := by decide +kernel
theorem dX8_isHoliday_4 : decode cX8_isHoliday 4 = .ok (.getfield 59, 3) := by decide +kernel
theorem dX8_isHoliday_7 : decode cX8_isHoliday 7 = .ok (.if_icmp .ge 21, 3) := by decide +kernel
theorem dX8_isHoliday_10 : decode cX8_isHoliday 10 = .ok (.aload_n 0, 1) := by decide +kernel
theorem dX8_isHoliday_11 : decode cX8_isHoliday 11 = .ok (.getfield 35, 3) := by decide +kernel
theorem dX8_isHoliday_14 : decode cX8_isHoliday 14 = .ok (.iload_n 2, 1) := by decide +kernel
theorem dX8_isHoliday_15 : decode cX8_isHoliday 15 = .ok (.iaload, 1) := by decide +kernel
theorem dX8_isHoliday_16 : decode cX8_isHoliday 16 = .ok (.iload_n 1, 1) := by decide +kernel
theorem dX8_isHoliday_17 : decode cX8_isHoliday 17 = .ok (.if_icmp .ne 5, 3) := by decide +kernel
theorem dX8_isHoliday_20 : decode cX8_isHoliday 20 = .ok (.iconst 1, 1) := by decide +kernel
theorem dX8_isHoliday_21 : decode cX8_isHoliday 21 = .ok (.ireturn, 1) := by decide +kernel
theorem dX8_isHoliday_22 : decode cX8_isHoliday 22 = .ok (.iinc 2 1, 3) := by decide +kernel
theorem dX8_isHoliday_25 : decode cX8_isHoliday 25 = .ok (.goto (-23), 3) := by decide +kernel
theorem dX8_isHoliday_28 : decode cX8_isHoliday 28 = .ok (.iconst 0, 1) := by decide +kernel
theorem dX8_isHoliday_29 : decode cX8_isHoliday 29 = .ok (.ireturn, 1) := by decide +kernel
def B_X8_isHoliday_0 (X : Nat × (Nat → Int32)) (J : Nat → zCf) (R : zRt) : zCf := oPI (zj (0)) (oISTORE 1 2 (J 2))
set_option maxRecDepth 100000 in
theorem vb_X8_isHoliday_0 {X : Nat × (Nat → Int32)} {R : zRt} : ∀ ls st h, B_X8_isHoliday_0 X (zV X M_X8_isHoliday (zQm M_X8_isHoliday R) 0 0) R ls st h → zV X M_X8_isHoliday (zQm M_X8_isHoliday R) 0 0 0 ls st h := sd_iconst dX8_isHoliday_0 rfl (sd_istore_n dX8_isHoliday_1 rfl (Nat.le_of_ble_eq_true rfl) (Or.inl rfl) (fun _ _ _ h => h))
def B_X8_isHoliday_2 (X : Nat × (Nat → Int32)) (J : Nat → zCf) (R : zRt) : zCf := oILOAD 2 (oALOAD 0 (oGETI 8 5 (oICGE (J 28) (oALOAD 0 (oGETR 8 14 (oILOAD 2 (oIALD (oILOAD 1 (oICNE (J 22) (oPI (zj (1)) (oZRET R)))))))))))
set_option maxRecDepth 100000 in
theorem vb_X8_isHoliday_2 {X : Nat × (Nat → Int32)} {R : zRt} : ∀ ls st h, B_X8_isHoliday_2 X (zV X M_X8_isHoliday (zQm M_X8_isHoliday R) 0 0) R ls st h → zV X M_X8_isHoliday (zQm M_X8_isHoliday R) 0 0 2 ls st h := sd_iload_n dX8_isHoliday_2 rfl (sd_aload_n dX8_isHoliday_3 rfl (sd_geti dX8_isHoliday_4 zCl8 (Nat.le_of_ble_eq_true rfl) lk_RX8_59 (Or.inl rfl) (sd_icge dX8_isHoliday_7 rfl (fun _ _ _ h => h) (sd_aload_n dX8_isHoliday_10 rfl (sd_getr dX8_isHoliday_11 zCl8 (Nat.le_of_ble_eq_true rfl) lk_RX8_35 (Or.inr ⟨_, rfl⟩) (sd_iload_n dX8_isHoliday_14 rfl (sd_iald dX8_isHoliday_15 (sd_iload_n dX8_isHoliday_16 rfl (sd_icne dX8_isHoliday_17 rfl (fun _ _ _ h => h) (sd_iconst dX8_isHoliday_20 rfl (sd_zret dX8_isHoliday_21 rfl (Nat.le_of_ble_eq_true rfl) (Nat.le_of_ble_eq_true rfl))))))))))))
def B_X8_isHoliday_22 (X : Nat × (Nat → Int32)) (J : Nat → zCf) (R : zRt) : zCf := oIINC 1 2 (zj (1)) (J 2)
set_option maxRecDepth 100000 in
theorem vb_X8_isHoliday_22 {X : Nat × (Nat → Int32)} {R : zRt} : ∀ ls st h, B_X8_isHoliday_22 X (zV X M_X8_isHoliday (zQm M_X8_isHoliday R) 0 0) R ls st h → zV X M_X8_isHoliday (zQm M_X8_isHoliday R) 0 0 22 ls st h := sd_iinc dX8_isHoliday_22 rfl (Nat.le_of_ble_eq_true rfl) (Or.inl rfl) (sd_goto dX8_isHoliday_25 rfl (fun _ _ _ h => h))
def B_X8_isHoliday_28 (X : Nat × (Nat → Int32)) (J : Nat → zCf) (R : zRt) : zCf := oPI (zj (0)) (oZRET R)
set_option maxRecDepth 100000 in
theorem vb_X8_isHoliday_28 {X : Nat × (Nat → Int32)} {R : zRt} : ∀ ls st h, B_X8_isHoliday_28 X (zV X M_X8_isHoliday (zQm M_X8_isHoliday R) 0 0) R ls st h → zV X M_X8_isHoliday (zQm M_X8_isHoliday R) 0 0 28 ls st h := sd_iconst dX8_isHoliday_28 rfl (sd_zret dX8_isHoliday_29 rfl (Nat.le_of_ble_eq_true rfl) (Nat.le_of_ble_eq_true rfl))
theorem dX8_isMet_0 : decode cX8_isMet 0 = .ok (.iconst 0, 1) := by decide +kernel
theorem dX8_isMet_1 : decode cX8_isMet 1 = .ok (.istore_n 2, 1) := by decide +kernel
theorem dX8_isMet_2 : decode cX8_isMet 2 = .ok (.iload_n 2, 1) := by decide +kernel
theorem dX8_isMet_3 : decode cX8_isMet 3 = .ok (.aload_n 0, 1) := by decide +kernel
theorem dX8_isMet_4 : decode cX8_isMet 4 = .ok (.getfield 62, 3) := by decide +kernel
theorem dX8_isMet_7 : decode cX8_isMet 7 = .ok (.if_icmp .ge 21, 3) := by decide +kernel
theorem dX8_isMet_10 : decode cX8_isMet 10 = .ok (.aload_n 0, 1) := by decide +kernel
theorem dX8_isMet_11 : decode cX8_isMet 11 = .ok (.getfield 32, 3) := by decide +kernel
theorem dX8_isMet_14 : decode cX8_isMet 14 = .ok (.iload_n 2, 1) := by decide +kernel
theorem dX8_isMet_15 : decode cX8_isMet 15 = .ok (.iaload, 1) := by decide +kernel
theorem dX8_isMet_16 : decode cX8_isMet 16 = .ok (.iload_n 1, 1) := by decide +kernel
theorem dX8_isMet_17 : decode cX8_isMet 17 = .ok (.if_icmp .ne 5, 3) := by decide +kernel
theorem dX8_isMet_20 : decode cX8_isMet 20 = .ok (.iconst 1, 1) := by decide +kernel
theorem dX8_isMet_21 : decode cX8_isMet 21 = .ok (.ireturn, 1) := by decide +kernel
theorem dX8_isMet_22 : decode cX8_isMet 22 = .ok (.iinc 2 1, 3) := by decide +kernel
theorem dX8_isMet_25 : decode cX8_isMet 25 = .ok (.goto (-23), 3) := by decide +kernel
theorem dX8_isMet_28 : decode cX8_isMet 28 = .ok (.iconst 0, 1) := by decide +kernel
theorem dX8_isMet_29 : decode cX8_isMet 29 = .ok (.ireturn, 1) := by decide +kernel
def B_X8_isMet_0 (X : Nat × (Nat → Int32)) (J : Nat → zCf) (R : zRt) : zCf := oPI (zj (0)) (oISTORE 1 2 (J 2))
set_option maxRecDepth 100000 in
theorem vb_X8_isMet_0 {X : Nat × (Nat → Int32)} {R : zRt} : ∀ ls st h, B_X8_isMet_0 X (zV X M_X8_isMet (zQm M_X8_isMet R) 0 0) R ls st h → zV X M_X8_isMet (zQm M_X8_isMet R) 0 0 0 ls st h := sd_iconst dX8_isMet_0 rfl (sd_istore_n dX8_isMet_1 rfl (Nat.le_of_ble_eq_true rfl) (Or.inl rfl) (fun _ _ _ h => h))
def B_X8_isMet_2 (X : Nat × (Nat → Int32)) (J : Nat → zCf) (R : zRt) : zCf := oILOAD 2 (oALOAD 0 (oGETI 8 4 (oICGE (J 28) (oALOAD 0 (oGETR 8 13 (oILOAD 2 (oIALD (oILOAD 1 (oICNE (J 22) (oPI (zj (1)) (oZRET R)))))))))))
set_option maxRecDepth 100000 in
theorem vb_X8_isMet_2 {X : Nat × (Nat → Int32)} {R : zRt} : ∀ ls st h, B_X8_isMet_2 X (zV X M_X8_isMet (zQm M_X8_isMet R) 0 0) R ls st h → zV X M_X8_isMet (zQm M_X8_isMet R) 0 0 2 ls st h := sd_iload_n dX8_isMet_2 rfl (sd_aload_n dX8_isMet_3 rfl (sd_geti dX8_isMet_4 zCl8 (Nat.le_of_ble_eq_true rfl) lk_RX8_62 (Or.inl rfl) (sd_icge dX8_isMet_7 rfl (fun _ _ _ h => h) (sd_aload_n dX8_isMet_10 rfl (sd_getr dX8_isMet_11 zCl8 (Nat.le_of_ble_eq_true rfl) lk_RX8_32 (Or.inr ⟨_, rfl⟩) (sd_iload_n dX8_isMet_14 rfl (sd_iald dX8_isMet_15 (sd_iload_n dX8_isMet_16 rfl (sd_icne dX8_isMet_17 rfl (fun _ _ _ h => h) (sd_iconst dX8_isMet_20 rfl (sd_zret dX8_isMet_21 rfl (Nat.le_of_ble_eq_true rfl) (Nat.le_of_ble_eq_true rfl))))))))))))
def B_X8_isMet_22 (X : Nat × (Nat → Int32)) (J : Nat → zCf) (R : zRt) : zCf := oIINC 1 2 (zj (1)) (J 2)
set_option maxRecDepth 100000 in
theorem vb_X8_isMet_22 {X : Nat × (Nat → Int32)} {R : zRt} : ∀ ls st h, B_X8_isMet_22 X (zV X M_X8_isMet (zQm M_X8_isMet R) 0 0) R ls st h → zV X M_X8_isMet (zQm M_X8_isMet R) 0 0 22 ls st h := sd_iinc dX8_isMet_22 rfl (Nat.le_of_ble_eq_true rfl) (Or.inl rfl) (sd_goto dX8_isMet_25 rfl (fun _ _ _ h => h))
def B_X8_isMet_28 (X : Nat × (Nat → Int32)) (J : Nat → zCf) (R : zRt) : zCf := oPI (zj (0)) (oZRET R)
set_option maxRecDepth 100000 in
theorem vb_X8_isMet_28 {X : Nat × (Nat → Int32)} {R : zRt} : ∀ ls st h, B_X8_isMet_28 X (zV X M_X8_isMet (zQm M_X8_isMet R) 0 0) R ls st h → zV X M_X8_isMet (zQm M_X8_isMet R) 0 0 28 ls st h := sd_iconst dX8_isMet_28 rfl (sd_zret dX8_isMet_29 rfl (Nat.le_of_ble_eq_true rfl) (Nat.le_of_ble_eq_true rfl))
theorem dX8_goesBy_0 : decode cX8_goesBy 0 = .ok (.aload_n 0, 1) := by decide +kernel
theorem dX8_goesBy_1 : decode cX8_goesBy 1 = .ok (.getfield 15, 3) := by decide +kernel
theorem dX8_goesBy_4 : decode cX8_goesBy 4 = .ok (.iload_n 1, 1) := by decide +kernel
theorem dX8_goesBy_5 : decode cX8_goesBy 5 = .ok (.iaload, 1) := by decide +kernel
theorem dX8_goesBy_6 : decode cX8_goesBy 6 = .ok (.tableswitch 36 0 2 #[26, 30, 32], 26) := by decide +kernel
theorem dX8_goesBy_32 : decode cX8_goesBy 32 = .ok (.iconst 2, 1) := by decide +kernel
theorem dX8_goesBy_33 : decode cX8_goesBy 33 = .ok (.iload_n 2, 1) := by decide +kernel
theorem dX8_goesBy_34 : decode cX8_goesBy 34 = .ok (.imul, 1) := by decide +kernel
theorem dX8_goesBy_35 : decode cX8_goesBy 35 = .ok (.ireturn, 1) := by decide +kernel
theorem dX8_goesBy_36 : decode cX8_goesBy 36 = .ok (.iload_n 2, 1) := by decide +kernel
theorem dX8_goesBy_37 : decode cX8_goesBy 37 = .ok (.ireturn, 1) := by decide +kernel
theorem dX8_goesBy_38 : decode cX8_goesBy 38 = .ok (.iload_n 2, 1) := by decide +kernel
theorem dX8_goesBy_39 : decode cX8_goesBy 39 = .ok (.iconst 2, 1) := by decide +kernel
theorem dX8_goesBy_40 : decode cX8_goesBy 40 = .ok (.idiv, 1) := by decide +kernel
theorem dX8_goesBy_41 : decode cX8_goesBy 41 = .ok (.ireturn, 1) := by decide +kernel
theorem dX8_goesBy_42 : decode cX8_goesBy 42 = .ok (.iconst 0, 1) := by decide +kernel
theorem dX8_goesBy_43 : decode cX8_goesBy 43 = .ok (.ireturn, 1) := by decide +kernel
def B_X8_goesBy_0 (X : Nat × (Nat → Int32)) (J : Nat → zCf) (R : zRt) : zCf := oALOAD 0 (oGETR 8 8 (oILOAD 1 (oIALD (oTSW (0) 3 (fun i => J ([32, 36, 38].getD i 0)) (J 42)))))
set_option maxRecDepth 100000 in
theorem vb_X8_goesBy_0 {X : Nat × (Nat → Int32)} {R : zRt} : ∀ ls st h, B_X8_goesBy_0 X (zV X M_X8_goesBy (zQm M_X8_goesBy R) 0 0) R ls st h → zV X M_X8_goesBy (zQm M_X8_goesBy R) 0 0 0 ls st h := sd_aload_n dX8_goesBy_0 rfl (sd_getr dX8_goesBy_1 zCl8 (Nat.le_of_ble_eq_true rfl) lk_RX8_15 (Or.inr ⟨_, rfl⟩) (sd_iload_n dX8_goesBy_4 rfl (sd_iald dX8_goesBy_5 (sd_tsw (tg := fun i => [32, 36, 38].getD i 0) dX8_goesBy_6 rfl rfl (fun i hi => by
    match i, hi with
    | 0, _ => exact ⟨_, rfl, rfl⟩
    | 1, _ => exact ⟨_, rfl, rfl⟩
    | 2, _ => exact ⟨_, rfl, rfl⟩
    | i + 3, hi => omega) (fun _ _ _ h => h) (fun _ _ _ _ _ h => h)))))
def B_X8_goesBy_32 (X : Nat × (Nat → Int32)) (J : Nat → zCf) (R : zRt) : zCf := oPI (zj (2)) (oILOAD 2 (oIMUL (oIRET R)))
set_option maxRecDepth 100000 in
theorem vb_X8_goesBy_32 {X : Nat × (Nat → Int32)} {R : zRt} : ∀ ls st h, B_X8_goesBy_32 X (zV X M_X8_goesBy (zQm M_X8_goesBy R) 0 0) R ls st h → zV X M_X8_goesBy (zQm M_X8_goesBy R) 0 0 32 ls st h := sd_iconst dX8_goesBy_32 rfl (sd_iload_n dX8_goesBy_33 rfl (sd_imul dX8_goesBy_34 (sd_iret dX8_goesBy_35 rfl (Nat.le_of_ble_eq_true rfl) (Nat.le_of_ble_eq_true rfl))))
def B_X8_goesBy_36 (X : Nat × (Nat → Int32)) (J : Nat → zCf) (R : zRt) : zCf := oILOAD 2 (oIRET R)
set_option maxRecDepth 100000 in
theorem vb_X8_goesBy_36 {X : Nat × (Nat → Int32)} {R : zRt} : ∀ ls st h, B_X8_goesBy_36 X (zV X M_X8_goesBy (zQm M_X8_goesBy R) 0 0) R ls st h → zV X M_X8_goesBy (zQm M_X8_goesBy R) 0 0 36 ls st h := sd_iload_n dX8_goesBy_36 rfl (sd_iret dX8_goesBy_37 rfl (Nat.le_of_ble_eq_true rfl) (Nat.le_of_ble_eq_true rfl))
def B_X8_goesBy_38 (X : Nat × (Nat → Int32)) (J : Nat → zCf) (R : zRt) : zCf := oILOAD 2 (oPI (zj (2)) (oIDIV (oIRET R)))
set_option maxRecDepth 100000 in
theorem vb_X8_goesBy_38 {X : Nat × (Nat → Int32)} {R : zRt} : ∀ ls st h, B_X8_goesBy_38 X (zV X M_X8_goesBy (zQm M_X8_goesBy R) 0 0) R ls st h → zV X M_X8_goesBy (zQm M_X8_goesBy R) 0 0 38 ls st h := sd_iload_n dX8_goesBy_38 rfl (sd_iconst dX8_goesBy_39 rfl (sd_idiv dX8_goesBy_40 (sd_iret dX8_goesBy_41 rfl (Nat.le_of_ble_eq_true rfl) (Nat.le_of_ble_eq_true rfl))))
def B_X8_goesBy_42 (X : Nat × (Nat → Int32)) (J : Nat → zCf) (R : zRt) : zCf := oPI (zj (0)) (oIRET R)
set_option maxRecDepth 100000 in
theorem vb_X8_goesBy_42 {X : Nat × (Nat → Int32)} {R : zRt} : ∀ ls st h, B_X8_goesBy_42 X (zV X M_X8_goesBy (zQm M_X8_goesBy R) 0 0) R ls st h → zV X M_X8_goesBy (zQm M_X8_goesBy R) 0 0 42 ls st h := sd_iconst dX8_goesBy_42 rfl (sd_iret dX8_goesBy_43 rfl (Nat.le_of_ble_eq_true rfl) (Nat.le_of_ble_eq_true rfl))
