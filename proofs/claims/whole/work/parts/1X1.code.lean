theorem dX1_init_0 : decode cX1_init 0 = .ok (.aload_n 0, 1) := by decide +kernel
theorem dX1_init_1 : decode cX1_init 1 = .ok (.invokespecial 3, 3) := by decide +kernel
theorem dX1_init_4 : decode cX1_init 4 = .ok (.aload_n 0, 1) := by decide +kernel
theorem dX1_init_5 : decode cX1_init 5 = .ok (.bipush 6, 2) := by decide +kernel
theorem dX1_init_7 : decode cX1_init 7 = .ok (.newarray .long, 2) := by decide +kernel
theorem dX1_init_9 : decode cX1_init 9 = .ok (.putfield 9, 3) := by decide +kernel
theorem dX1_init_12 : decode cX1_init 12 = .ok (.aload_n 0, 1) := by decide +kernel
theorem dX1_init_13 : decode cX1_init 13 = .ok (.bipush 6, 2) := by decide +kernel
theorem dX1_init_15 : decode cX1_init 15 = .ok (.newarray .int, 2) := by decide +kernel
theorem dX1_init_17 : decode cX1_init 17 = .ok (.putfield 15, 3) := by decide +kernel
theorem dX1_init_20 : decode cX1_init 20 = .ok (.aload_n 0, 1) := by decide +kernel
theorem dX1_init_21 : decode cX1_init 21 = .ok (.bipush 6, 2) := by decide +kernel
theorem dX1_init_23 : decode cX1_init 23 = .ok (.newarray .long, 2) := by decide +kernel
theorem dX1_init_25 : decode cX1_init 25 = .ok (.putfield 19, 3) := by decide +kernel
theorem dX1_init_28 : decode cX1_init 28 = .ok (.aload_n 0, 1) := by decide +kernel
theorem dX1_init_29 : decode cX1_init 29 = .ok (.bipush 6, 2) := by decide +kernel
theorem dX1_init_31 : decode cX1_init 31 = .ok (.newarray .int, 2) := by decide +kernel
theorem dX1_init_33 : decode cX1_init 33 = .ok (.putfield 22, 3) := by decide +kernel
theorem dX1_init_36 : decode cX1_init 36 = .ok (.aload_n 0, 1) := by decide +kernel
theorem dX1_init_37 : decode cX1_init 37 = .ok (.bipush 6, 2) := by decide +kernel
theorem dX1_init_39 : decode cX1_init 39 = .ok (.newarray .int, 2) := by decide +kernel
theorem dX1_init_41 : decode cX1_init 41 = .ok (.putfield 25, 3) := by decide +kernel
theorem dX1_init_44 : decode cX1_init 44 = .ok (.aload_n 0, 1) := by decide +kernel
theorem dX1_init_45 : decode cX1_init 45 = .ok (.bipush 6, 2) := by decide +kernel
theorem dX1_init_47 : decode cX1_init 47 = .ok (.newarray .int, 2) := by decide +kernel
theorem dX1_init_49 : decode cX1_init 49 = .ok (.putfield 28, 3) := by decide +kernel
theorem dX1_init_52 : decode cX1_init 52 = .ok (.aload_n 0, 1) := by decide +kernel
theorem dX1_init_53 : decode cX1_init 53 = .ok (.bipush 6, 2) := by decide +kernel
theorem dX1_init_55 : decode cX1_init 55 = .ok (.newarray .int, 2) := by decide +kernel
theorem dX1_init_57 : decode cX1_init 57 = .ok (.putfield 31, 3) := by decide +kernel
theorem dX1_init_60 : decode cX1_init 60 = .ok (.aload_n 0, 1) := by decide +kernel
theorem dX1_init_61 : decode cX1_init 61 = .ok (.bipush 6, 2) := by decide +kernel
theorem dX1_init_63 : decode cX1_init 63 = .ok (.newarray .long, 2) := by decide +kernel
theorem dX1_init_65 : decode cX1_init 65 = .ok (.putfield 34, 3) := by decide +kernel
theorem dX1_init_68 : decode cX1_init 68 = .ok (.aload_n 0, 1) := by decide +kernel
theorem dX1_init_69 : decode cX1_init 69 = .ok (.bipush 8, 2) := by decide +kernel
theorem dX1_init_71 : decode cX1_init 71 = .ok (.newarray .int, 2) := by decide +kernel
theorem dX1_init_73 : decode cX1_init 73 = .ok (.putfield 37, 3) := by decide +kernel
theorem dX1_init_76 : decode cX1_init 76 = .ok (.aload_n 0, 1) := by decide +kernel
theorem dX1_init_77 : decode cX1_init 77 = .ok (.iconst 4, 1) := by decide +kernel
theorem dX1_init_78 : decode cX1_init 78 = .ok (.newarray .long, 2) := by decide +kernel
theorem dX1_init_80 : decode cX1_init 80 = .ok (.putfield 40, 3) := by decide +kernel
theorem dX1_init_83 : decode cX1_init 83 = .ok (.aload_n 0, 1) := by decide +kernel
theorem dX1_init_84 : decode cX1_init 84 = .ok (.iconst 4, 1) := by decide +kernel
theorem dX1_init_85 : decode cX1_init 85 = .ok (.newarray .int, 2) := by decide +kernel
theorem dX1_init_87 : decode cX1_init 87 = .ok (.putfield 43, 3) := by decide +kernel
theorem dX1_init_90 : decode cX1_init 90 = .ok (.return_, 1) := by decide +kernel
def B_X1_init_0 (X : Nat × (Nat → Int32)) (J : Nat → zCf) (R : zRt) : zCf := oALOAD 0 (oOBJ (oALOAD 0 (oPI (zj (6)) (oNEWAL 6 (oPUTR 1 2 (oALOAD 0 (oPI (zj (6)) (oNEWAI 6 (oPUTR 1 3 (oALOAD 0 (oPI (zj (6)) (oNEWAL 6 (oPUTR 1 4 (oALOAD 0 (oPI (zj (6)) (oNEWAI 6 (oPUTR 1 5 (oALOAD 0 (oPI (zj (6)) (oNEWAI 6 (oPUTR 1 6 (oALOAD 0 (oPI (zj (6)) (oNEWAI 6 (oPUTR 1 7 (oALOAD 0 (oPI (zj (6)) (oNEWAI 6 (oPUTR 1 9 (oALOAD 0 (oPI (zj (6)) (oNEWAL 6 (oPUTR 1 10 (oALOAD 0 (oPI (zj (8)) (oNEWAI 8 (oPUTR 1 12 (oALOAD 0 (oPI (zj (4)) (oNEWAL 4 (oPUTR 1 14 (oALOAD 0 (oPI (zj (4)) (oNEWAI 4 (oPUTR 1 15 (oVRET R))))))))))))))))))))))))))))))))))))))))))))))
set_option maxRecDepth 100000 in
theorem vb_X1_init_0 {X : Nat × (Nat → Int32)} {R : zRt} : ∀ ls st h, B_X1_init_0 X (fun t => zV X M_X1_init (zQm M_X1_init R) (if t ≤ 85 then 0 else 11) (if t ≤ 85 then 0 else 64) t) R ls st h → zV X M_X1_init (zQm M_X1_init R) 0 0 0 ls st h := sd_aload_n dX1_init_0 rfl (sd_obj dX1_init_1 (zmt (zt1 (i := 78) rfl) rfl) (zmt (zt1 (i := 28) rfl) rfl) (zmt (zt1 (i := 29) rfl) rfl) (Nat.le_of_ble_eq_true rfl) (Nat.le_of_ble_eq_true rfl) (sd_aload_n dX1_init_4 rfl (sd_bipush dX1_init_5 rfl (sd_newal dX1_init_7 (zmt (zt1 (i := 154) rfl) rfl) (by decide) (Nat.le_of_ble_eq_true rfl) (Nat.le_of_ble_eq_true rfl) (sd_putr dX1_init_9 zCl1 (Nat.le_of_ble_eq_true rfl) lk_RX1_9 (Or.inr ⟨_, rfl⟩) (Or.inr ⟨rfl, rfl, rfl, (zmt (zt1 (i := 86) rfl) rfl)⟩) (sd_aload_n dX1_init_12 rfl (sd_bipush dX1_init_13 rfl (sd_newai dX1_init_15 (zmt (zt1 (i := 155) rfl) rfl) (by decide) (Nat.le_of_ble_eq_true rfl) (Nat.le_of_ble_eq_true rfl) (sd_putr dX1_init_17 zCl1 (Nat.le_of_ble_eq_true rfl) lk_RX1_15 (Or.inr ⟨_, rfl⟩) (Or.inr ⟨rfl, rfl, rfl, (zmt (zt1 (i := 87) rfl) rfl)⟩) (sd_aload_n dX1_init_20 rfl (sd_bipush dX1_init_21 rfl (sd_newal dX1_init_23 (zmt (zt1 (i := 154) rfl) rfl) (by decide) (Nat.le_of_ble_eq_true rfl) (Nat.le_of_ble_eq_true rfl) (sd_putr dX1_init_25 zCl1 (Nat.le_of_ble_eq_true rfl) lk_RX1_19 (Or.inr ⟨_, rfl⟩) (Or.inr ⟨rfl, rfl, rfl, (zmt (zt1 (i := 90) rfl) rfl)⟩) (sd_aload_n dX1_init_28 rfl (sd_bipush dX1_init_29 rfl (sd_newai dX1_init_31 (zmt (zt1 (i := 155) rfl) rfl) (by decide) (Nat.le_of_ble_eq_true rfl) (Nat.le_of_ble_eq_true rfl) (sd_putr dX1_init_33 zCl1 (Nat.le_of_ble_eq_true rfl) lk_RX1_22 (Or.inr ⟨_, rfl⟩) (Or.inr ⟨rfl, rfl, rfl, (zmt (zt1 (i := 92) rfl) rfl)⟩) (sd_aload_n dX1_init_36 rfl (sd_bipush dX1_init_37 rfl (sd_newai dX1_init_39 (zmt (zt1 (i := 155) rfl) rfl) (by decide) (Nat.le_of_ble_eq_true rfl) (Nat.le_of_ble_eq_true rfl) (sd_putr dX1_init_41 zCl1 (Nat.le_of_ble_eq_true rfl) lk_RX1_25 (Or.inr ⟨_, rfl⟩) (Or.inr ⟨rfl, rfl, rfl, (zmt (zt1 (i := 95) rfl) rfl)⟩) (sd_aload_n dX1_init_44 rfl (sd_bipush dX1_init_45 rfl (sd_newai dX1_init_47 (zmt (zt1 (i := 155) rfl) rfl) (by decide) (Nat.le_of_ble_eq_true rfl) (Nat.le_of_ble_eq_true rfl) (sd_putr dX1_init_49 zCl1 (Nat.le_of_ble_eq_true rfl) lk_RX1_28 (Or.inr ⟨_, rfl⟩) (Or.inr ⟨rfl, rfl, rfl, (zmt (zt1 (i := 99) rfl) rfl)⟩) (sd_aload_n dX1_init_52 rfl (sd_bipush dX1_init_53 rfl (sd_newai dX1_init_55 (zmt (zt1 (i := 155) rfl) rfl) (by decide) (Nat.le_of_ble_eq_true rfl) (Nat.le_of_ble_eq_true rfl) (sd_putr dX1_init_57 zCl1 (Nat.le_of_ble_eq_true rfl) lk_RX1_31 (Or.inr ⟨_, rfl⟩) (Or.inr ⟨rfl, rfl, rfl, (zmt (zt1 (i := 106) rfl) rfl)⟩) (sd_aload_n dX1_init_60 rfl (sd_bipush dX1_init_61 rfl (sd_newal dX1_init_63 (zmt (zt1 (i := 154) rfl) rfl) (by decide) (Nat.le_of_ble_eq_true rfl) (Nat.le_of_ble_eq_true rfl) (sd_putr dX1_init_65 zCl1 (Nat.le_of_ble_eq_true rfl) lk_RX1_34 (Or.inr ⟨_, rfl⟩) (Or.inr ⟨rfl, rfl, rfl, (zmt (zt1 (i := 108) rfl) rfl)⟩) (sd_aload_n dX1_init_68 rfl (sd_bipush dX1_init_69 rfl (sd_newai dX1_init_71 (zmt (zt1 (i := 155) rfl) rfl) (by decide) (Nat.le_of_ble_eq_true rfl) (Nat.le_of_ble_eq_true rfl) (sd_putr dX1_init_73 zCl1 (Nat.le_of_ble_eq_true rfl) lk_RX1_37 (Or.inr ⟨_, rfl⟩) (Or.inr ⟨rfl, rfl, rfl, (zmt (zt1 (i := 113) rfl) rfl)⟩) (sd_aload_n dX1_init_76 rfl (sd_iconst dX1_init_77 rfl (sd_newal dX1_init_78 (zmt (zt1 (i := 154) rfl) rfl) (by decide) (Nat.le_of_ble_eq_true rfl) (Nat.le_of_ble_eq_true rfl) (sd_putr dX1_init_80 zCl1 (Nat.le_of_ble_eq_true rfl) lk_RX1_40 (Or.inr ⟨_, rfl⟩) (Or.inr ⟨rfl, rfl, rfl, (zmt (zt1 (i := 118) rfl) rfl)⟩) (sd_aload_n dX1_init_83 rfl (sd_iconst dX1_init_84 rfl (sd_newai dX1_init_85 (zmt (zt1 (i := 155) rfl) rfl) (by decide) (Nat.le_of_ble_eq_true rfl) (Nat.le_of_ble_eq_true rfl) (sd_putr dX1_init_87 zCl1 (Nat.le_of_ble_eq_true rfl) lk_RX1_43 (Or.inr ⟨_, rfl⟩) (Or.inr ⟨rfl, rfl, rfl, (zmt (zt1 (i := 119) rfl) rfl)⟩) (sd_vret dX1_init_90 rfl (Nat.le_of_ble_eq_true rfl) (Nat.le_of_ble_eq_true rfl)))))))))))))))))))))))))))))))))))))))))))))))
theorem dX1_clear_0 : decode cX1_clear 0 = .ok (.aload_n 0, 1) := by decide +kernel
theorem dX1_clear_1 : decode cX1_clear 1 = .ok (.iconst 0, 1) := by decide +kernel
theorem dX1_clear_2 : decode cX1_clear 2 = .ok (.putfield 46, 3) := by decide +kernel
theorem dX1_clear_5 : decode cX1_clear 5 = .ok (.aload_n 0, 1) := by decide +kernel
theorem dX1_clear_6 : decode cX1_clear 6 = .ok (.iconst 0, 1) := by decide +kernel
theorem dX1_clear_7 : decode cX1_clear 7 = .ok (.putfield 50, 3) := by decide +kernel
theorem dX1_clear_10 : decode cX1_clear 10 = .ok (.aload_n 0, 1) := by decide +kernel
theorem dX1_clear_11 : decode cX1_clear 11 = .ok (.iconst 0, 1) := by decide +kernel
theorem dX1_clear_12 : decode cX1_clear 12 = .ok (.putfield 53, 3) := by decide +kernel
theorem dX1_clear_15 : decode cX1_clear 15 = .ok (.aload_n 0, 1) := by decide +kernel
theorem dX1_clear_16 : decode cX1_clear 16 = .ok (.iconst 0, 1) := by decide +kernel
theorem dX1_clear_17 : decode cX1_clear 17 = .ok (.putfield 56, 3) := by decide +kernel
theorem dX1_clear_20 : decode cX1_clear 20 = .ok (.aload_n 0, 1) := by decide +kernel
theorem dX1_clear_21 : decode cX1_clear 21 = .ok (.iconst 0, 1) := by decide +kernel
theorem dX1_clear_22 : decode cX1_clear 22 = .ok (.putfield 59, 3) := by decide +kernel
theorem dX1_clear_25 : decode cX1_clear 25 = .ok (.return_, 1) := by decide +kernel
def B_X1_clear_0 (X : Nat × (Nat → Int32)) (J : Nat → zCf) (R : zRt) : zCf := oALOAD 0 (oPI (zj (0)) (oPUTI 1 0 (oALOAD 0 (oPI (zj (0)) (oPUTI 1 1 (oALOAD 0 (oPI (zj (0)) (oPUTI 1 8 (oALOAD 0 (oPI (zj (0)) (oPUTI 1 11 (oALOAD 0 (oPI (zj (0)) (oPUTI 1 13 (oVRET R)))))))))))))))
set_option maxRecDepth 100000 in
theorem vb_X1_clear_0 {X : Nat × (Nat → Int32)} {R : zRt} : ∀ ls st h, B_X1_clear_0 X (zV X M_X1_clear (zQm M_X1_clear R) 0 0) R ls st h → zV X M_X1_clear (zQm M_X1_clear R) 0 0 0 ls st h := sd_aload_n dX1_clear_0 rfl (sd_iconst dX1_clear_1 rfl (sd_puti dX1_clear_2 zCl1 (Nat.le_of_ble_eq_true rfl) lk_RX1_46 rfl (Or.inl rfl) (sd_aload_n dX1_clear_5 rfl (sd_iconst dX1_clear_6 rfl (sd_puti dX1_clear_7 zCl1 (Nat.le_of_ble_eq_true rfl) lk_RX1_50 rfl (Or.inl rfl) (sd_aload_n dX1_clear_10 rfl (sd_iconst dX1_clear_11 rfl (sd_puti dX1_clear_12 zCl1 (Nat.le_of_ble_eq_true rfl) lk_RX1_53 rfl (Or.inl rfl) (sd_aload_n dX1_clear_15 rfl (sd_iconst dX1_clear_16 rfl (sd_puti dX1_clear_17 zCl1 (Nat.le_of_ble_eq_true rfl) lk_RX1_56 rfl (Or.inl rfl) (sd_aload_n dX1_clear_20 rfl (sd_iconst dX1_clear_21 rfl (sd_puti dX1_clear_22 zCl1 (Nat.le_of_ble_eq_true rfl) lk_RX1_59 rfl (Or.inl rfl) (sd_vret dX1_clear_25 rfl (Nat.le_of_ble_eq_true rfl) (Nat.le_of_ble_eq_true rfl))))))))))))))))
theorem dX1_addBit_0 : decode cX1_addBit 0 = .ok (.aload_n 0, 1) := by decide +kernel
theorem dX1_addBit_1 : decode cX1_addBit 1 = .ok (.getfield 50, 3) := by decide +kernel
theorem dX1_addBit_4 : decode cX1_addBit 4 = .ok (.bipush 6, 2) := by decide +kernel
theorem dX1_addBit_6 : decode cX1_addBit 6 = .ok (.if_icmp .ge 77, 3) := by decide +kernel
theorem dX1_addBit_9 : decode cX1_addBit 9 = .ok (.aload_n 0, 1) := by decide +kernel
theorem dX1_addBit_10 : decode cX1_addBit 10 = .ok (.getfield 9, 3) := by decide +kernel
theorem dX1_addBit_13 : decode cX1_addBit 13 = .ok (.aload_n 0, 1) := by decide +kernel
theorem dX1_addBit_14 : decode cX1_addBit 14 = .ok (.getfield 50, 3) := by decide +kernel
theorem dX1_addBit_17 : decode cX1_addBit 17 = .ok (.lload_n 1, 1) := by decide +kernel
theorem dX1_addBit_18 : decode cX1_addBit 18 = .ok (.lastore, 1) := by decide +kernel
theorem dX1_addBit_19 : decode cX1_addBit 19 = .ok (.aload_n 0, 1) := by decide +kernel
theorem dX1_addBit_20 : decode cX1_addBit 20 = .ok (.getfield 15, 3) := by decide +kernel
theorem dX1_addBit_23 : decode cX1_addBit 23 = .ok (.aload_n 0, 1) := by decide +kernel
theorem dX1_addBit_24 : decode cX1_addBit 24 = .ok (.getfield 50, 3) := by decide +kernel
theorem dX1_addBit_27 : decode cX1_addBit 27 = .ok (.iload_n 3, 1) := by decide +kernel
theorem dX1_addBit_28 : decode cX1_addBit 28 = .ok (.iastore, 1) := by decide +kernel
theorem dX1_addBit_29 : decode cX1_addBit 29 = .ok (.aload_n 0, 1) := by decide +kernel
theorem dX1_addBit_30 : decode cX1_addBit 30 = .ok (.getfield 19, 3) := by decide +kernel
theorem dX1_addBit_33 : decode cX1_addBit 33 = .ok (.aload_n 0, 1) := by decide +kernel
theorem dX1_addBit_34 : decode cX1_addBit 34 = .ok (.getfield 50, 3) := by decide +kernel
theorem dX1_addBit_37 : decode cX1_addBit 37 = .ok (.lload 4, 2) := by decide +kernel
theorem dX1_addBit_39 : decode cX1_addBit 39 = .ok (.lastore, 1) := by decide +kernel
theorem dX1_addBit_40 : decode cX1_addBit 40 = .ok (.aload_n 0, 1) := by decide +kernel
theorem dX1_addBit_41 : decode cX1_addBit 41 = .ok (.getfield 22, 3) := by decide +kernel
theorem dX1_addBit_44 : decode cX1_addBit 44 = .ok (.aload_n 0, 1) := by decide +kernel
theorem dX1_addBit_45 : decode cX1_addBit 45 = .ok (.getfield 50, 3) := by decide +kernel
theorem dX1_addBit_48 : decode cX1_addBit 48 = .ok (.iload 6, 2) := by decide +kernel
theorem dX1_addBit_50 : decode cX1_addBit 50 = .ok (.iastore, 1) := by decide +kernel
theorem dX1_addBit_51 : decode cX1_addBit 51 = .ok (.aload_n 0, 1) := by decide +kernel
theorem dX1_addBit_52 : decode cX1_addBit 52 = .ok (.getfield 25, 3) := by decide +kernel
theorem dX1_addBit_55 : decode cX1_addBit 55 = .ok (.aload_n 0, 1) := by decide +kernel
theorem dX1_addBit_56 : decode cX1_addBit 56 = .ok (.getfield 50, 3) := by decide +kernel
theorem dX1_addBit_59 : decode cX1_addBit 59 = .ok (.bipush (-2), 2) := by decide +kernel
theorem dX1_addBit_61 : decode cX1_addBit 61 = .ok (.iastore, 1) := by decide +kernel
theorem dX1_addBit_62 : decode cX1_addBit 62 = .ok (.aload_n 0, 1) := by decide +kernel
theorem dX1_addBit_63 : decode cX1_addBit 63 = .ok (.getfield 28, 3) := by decide +kernel
theorem dX1_addBit_66 : decode cX1_addBit 66 = .ok (.aload_n 0, 1) := by decide +kernel
theorem dX1_addBit_67 : decode cX1_addBit 67 = .ok (.getfield 50, 3) := by decide +kernel
theorem dX1_addBit_70 : decode cX1_addBit 70 = .ok (.bipush (-2), 2) := by decide +kernel
theorem dX1_addBit_72 : decode cX1_addBit 72 = .ok (.iastore, 1) := by decide +kernel
theorem dX1_addBit_73 : decode cX1_addBit 73 = .ok (.aload_n 0, 1) := by decide +kernel
theorem dX1_addBit_74 : decode cX1_addBit 74 = .ok (.dup, 1) := by decide +kernel
theorem dX1_addBit_75 : decode cX1_addBit 75 = .ok (.getfield 50, 3) := by decide +kernel
theorem dX1_addBit_78 : decode cX1_addBit 78 = .ok (.iconst 1, 1) := by decide +kernel
theorem dX1_addBit_79 : decode cX1_addBit 79 = .ok (.iadd, 1) := by decide +kernel
theorem dX1_addBit_80 : decode cX1_addBit 80 = .ok (.putfield 50, 3) := by decide +kernel
theorem dX1_addBit_83 : decode cX1_addBit 83 = .ok (.return_, 1) := by decide +kernel
def B_X1_addBit_0 (X : Nat × (Nat → Int32)) (J : Nat → zCf) (R : zRt) : zCf := oALOAD 0 (oGETI 1 1 (oPI (zj (6)) (oICGE (J 83) (oALOAD 0 (oGETR 1 2 (oALOAD 0 (oGETI 1 1 (oLLOAD 1 (oLAST (oALOAD 0 (oGETR 1 3 (oALOAD 0 (oGETI 1 1 (oILOAD 3 (oIAST (oALOAD 0 (oGETR 1 4 (oALOAD 0 (oGETI 1 1 (oLLOAD 4 (oLAST (oALOAD 0 (oGETR 1 5 (oALOAD 0 (oGETI 1 1 (oILOAD 6 (oIAST (oALOAD 0 (oGETR 1 6 (oALOAD 0 (oGETI 1 1 (oPI (zj (-2)) (oIAST (oALOAD 0 (oGETR 1 7 (oALOAD 0 (oGETI 1 1 (oPI (zj (-2)) (oIAST (oALOAD 0 (oDUP (oGETI 1 1 (oPI (zj (1)) (oIADD (oPUTI 1 1 (J 83))))))))))))))))))))))))))))))))))))))))))))))
set_option maxRecDepth 100000 in
theorem vb_X1_addBit_0 {X : Nat × (Nat → Int32)} {R : zRt} : ∀ ls st h, B_X1_addBit_0 X (zV X M_X1_addBit (zQm M_X1_addBit R) 0 0) R ls st h → zV X M_X1_addBit (zQm M_X1_addBit R) 0 0 0 ls st h := sd_aload_n dX1_addBit_0 rfl (sd_geti dX1_addBit_1 zCl1 (Nat.le_of_ble_eq_true rfl) lk_RX1_50 (Or.inl rfl) (sd_bipush dX1_addBit_4 rfl (sd_icge dX1_addBit_6 rfl (fun _ _ _ h => h) (sd_aload_n dX1_addBit_9 rfl (sd_getr dX1_addBit_10 zCl1 (Nat.le_of_ble_eq_true rfl) lk_RX1_9 (Or.inr ⟨_, rfl⟩) (sd_aload_n dX1_addBit_13 rfl (sd_geti dX1_addBit_14 zCl1 (Nat.le_of_ble_eq_true rfl) lk_RX1_50 (Or.inl rfl) (sd_lload_n dX1_addBit_17 rfl (sd_last dX1_addBit_18 (sd_aload_n dX1_addBit_19 rfl (sd_getr dX1_addBit_20 zCl1 (Nat.le_of_ble_eq_true rfl) lk_RX1_15 (Or.inr ⟨_, rfl⟩) (sd_aload_n dX1_addBit_23 rfl (sd_geti dX1_addBit_24 zCl1 (Nat.le_of_ble_eq_true rfl) lk_RX1_50 (Or.inl rfl) (sd_iload_n dX1_addBit_27 rfl (sd_iast dX1_addBit_28 (sd_aload_n dX1_addBit_29 rfl (sd_getr dX1_addBit_30 zCl1 (Nat.le_of_ble_eq_true rfl) lk_RX1_19 (Or.inr ⟨_, rfl⟩) (sd_aload_n dX1_addBit_33 rfl (sd_geti dX1_addBit_34 zCl1 (Nat.le_of_ble_eq_true rfl) lk_RX1_50 (Or.inl rfl) (sd_lload dX1_addBit_37 (sd_last dX1_addBit_39 (sd_aload_n dX1_addBit_40 rfl (sd_getr dX1_addBit_41 zCl1 (Nat.le_of_ble_eq_true rfl) lk_RX1_22 (Or.inr ⟨_, rfl⟩) (sd_aload_n dX1_addBit_44 rfl (sd_geti dX1_addBit_45 zCl1 (Nat.le_of_ble_eq_true rfl) lk_RX1_50 (Or.inl rfl) (sd_iload dX1_addBit_48 (sd_iast dX1_addBit_50 (sd_aload_n dX1_addBit_51 rfl (sd_getr dX1_addBit_52 zCl1 (Nat.le_of_ble_eq_true rfl) lk_RX1_25 (Or.inr ⟨_, rfl⟩) (sd_aload_n dX1_addBit_55 rfl (sd_geti dX1_addBit_56 zCl1 (Nat.le_of_ble_eq_true rfl) lk_RX1_50 (Or.inl rfl) (sd_bipush dX1_addBit_59 rfl (sd_iast dX1_addBit_61 (sd_aload_n dX1_addBit_62 rfl (sd_getr dX1_addBit_63 zCl1 (Nat.le_of_ble_eq_true rfl) lk_RX1_28 (Or.inr ⟨_, rfl⟩) (sd_aload_n dX1_addBit_66 rfl (sd_geti dX1_addBit_67 zCl1 (Nat.le_of_ble_eq_true rfl) lk_RX1_50 (Or.inl rfl) (sd_bipush dX1_addBit_70 rfl (sd_iast dX1_addBit_72 (sd_aload_n dX1_addBit_73 rfl (sd_dup dX1_addBit_74 (sd_geti dX1_addBit_75 zCl1 (Nat.le_of_ble_eq_true rfl) lk_RX1_50 (Or.inl rfl) (sd_iconst dX1_addBit_78 rfl (sd_iadd dX1_addBit_79 (sd_puti dX1_addBit_80 zCl1 (Nat.le_of_ble_eq_true rfl) lk_RX1_50 rfl (Or.inl rfl) (fun _ _ _ h => h))))))))))))))))))))))))))))))))))))))))))))))
def B_X1_addBit_83 (X : Nat × (Nat → Int32)) (J : Nat → zCf) (R : zRt) : zCf := oVRET R
set_option maxRecDepth 100000 in
theorem vb_X1_addBit_83 {X : Nat × (Nat → Int32)} {R : zRt} : ∀ ls st h, B_X1_addBit_83 X (zV X M_X1_addBit (zQm M_X1_addBit R) 0 0) R ls st h → zV X M_X1_addBit (zQm M_X1_addBit R) 0 0 83 ls st h := sd_vret dX1_addBit_83 rfl (Nat.le_of_ble_eq_true rfl) (Nat.le_of_ble_eq_true rfl)
theorem dX1_addMet_0 : decode cX1_addMet 0 = .ok (.aload_n 0, 1) := by decide +kernel
theorem dX1_addMet_1 : decode cX1_addMet 1 = .ok (.getfield 53, 3) := by decide +kernel
theorem dX1_addMet_4 : decode cX1_addMet 4 = .ok (.bipush 6, 2) := by decide +kernel
theorem dX1_addMet_6 : decode cX1_addMet 6 = .ok (.if_icmp .ge 33, 3) := by decide +kernel
theorem dX1_addMet_9 : decode cX1_addMet 9 = .ok (.aload_n 0, 1) := by decide +kernel
theorem dX1_addMet_10 : decode cX1_addMet 10 = .ok (.getfield 31, 3) := by decide +kernel
theorem dX1_addMet_13 : decode cX1_addMet 13 = .ok (.aload_n 0, 1) := by decide +kernel
theorem dX1_addMet_14 : decode cX1_addMet 14 = .ok (.getfield 53, 3) := by decide +kernel
theorem dX1_addMet_17 : decode cX1_addMet 17 = .ok (.iload_n 1, 1) := by decide +kernel
theorem dX1_addMet_18 : decode cX1_addMet 18 = .ok (.iastore, 1) := by decide +kernel
theorem dX1_addMet_19 : decode cX1_addMet 19 = .ok (.aload_n 0, 1) := by decide +kernel
theorem dX1_addMet_20 : decode cX1_addMet 20 = .ok (.getfield 34, 3) := by decide +kernel
theorem dX1_addMet_23 : decode cX1_addMet 23 = .ok (.aload_n 0, 1) := by decide +kernel
theorem dX1_addMet_24 : decode cX1_addMet 24 = .ok (.getfield 53, 3) := by decide +kernel
theorem dX1_addMet_27 : decode cX1_addMet 27 = .ok (.lload_n 2, 1) := by decide +kernel
theorem dX1_addMet_28 : decode cX1_addMet 28 = .ok (.lastore, 1) := by decide +kernel
theorem dX1_addMet_29 : decode cX1_addMet 29 = .ok (.aload_n 0, 1) := by decide +kernel
theorem dX1_addMet_30 : decode cX1_addMet 30 = .ok (.dup, 1) := by decide +kernel
theorem dX1_addMet_31 : decode cX1_addMet 31 = .ok (.getfield 53, 3) := by decide +kernel
theorem dX1_addMet_34 : decode cX1_addMet 34 = .ok (.iconst 1, 1) := by decide +kernel
theorem dX1_addMet_35 : decode cX1_addMet 35 = .ok (.iadd, 1) := by decide +kernel
theorem dX1_addMet_36 : decode cX1_addMet 36 = .ok (.putfield 53, 3) := by decide +kernel
theorem dX1_addMet_39 : decode cX1_addMet 39 = .ok (.return_, 1) := by decide +kernel
def B_X1_addMet_0 (X : Nat × (Nat → Int32)) (J : Nat → zCf) (R : zRt) : zCf := oALOAD 0 (oGETI 1 8 (oPI (zj (6)) (oICGE (J 39) (oALOAD 0 (oGETR 1 9 (oALOAD 0 (oGETI 1 8 (oILOAD 1 (oIAST (oALOAD 0 (oGETR 1 10 (oALOAD 0 (oGETI 1 8 (oLLOAD 2 (oLAST (oALOAD 0 (oDUP (oGETI 1 8 (oPI (zj (1)) (oIADD (oPUTI 1 8 (J 39))))))))))))))))))))))
set_option maxRecDepth 100000 in
theorem vb_X1_addMet_0 {X : Nat × (Nat → Int32)} {R : zRt} : ∀ ls st h, B_X1_addMet_0 X (zV X M_X1_addMet (zQm M_X1_addMet R) 0 0) R ls st h → zV X M_X1_addMet (zQm M_X1_addMet R) 0 0 0 ls st h := sd_aload_n dX1_addMet_0 rfl (sd_geti dX1_addMet_1 zCl1 (Nat.le_of_ble_eq_true rfl) lk_RX1_53 (Or.inl rfl) (sd_bipush dX1_addMet_4 rfl (sd_icge dX1_addMet_6 rfl (fun _ _ _ h => h) (sd_aload_n dX1_addMet_9 rfl (sd_getr dX1_addMet_10 zCl1 (Nat.le_of_ble_eq_true rfl) lk_RX1_31 (Or.inr ⟨_, rfl⟩) (sd_aload_n dX1_addMet_13 rfl (sd_geti dX1_addMet_14 zCl1 (Nat.le_of_ble_eq_true rfl) lk_RX1_53 (Or.inl rfl) (sd_iload_n dX1_addMet_17 rfl (sd_iast dX1_addMet_18 (sd_aload_n dX1_addMet_19 rfl (sd_getr dX1_addMet_20 zCl1 (Nat.le_of_ble_eq_true rfl) lk_RX1_34 (Or.inr ⟨_, rfl⟩) (sd_aload_n dX1_addMet_23 rfl (sd_geti dX1_addMet_24 zCl1 (Nat.le_of_ble_eq_true rfl) lk_RX1_53 (Or.inl rfl) (sd_lload_n dX1_addMet_27 rfl (sd_last dX1_addMet_28 (sd_aload_n dX1_addMet_29 rfl (sd_dup dX1_addMet_30 (sd_geti dX1_addMet_31 zCl1 (Nat.le_of_ble_eq_true rfl) lk_RX1_53 (Or.inl rfl) (sd_iconst dX1_addMet_34 rfl (sd_iadd dX1_addMet_35 (sd_puti dX1_addMet_36 zCl1 (Nat.le_of_ble_eq_true rfl) lk_RX1_53 rfl (Or.inl rfl) (fun _ _ _ h => h))))))))))))))))))))))
def B_X1_addMet_39 (X : Nat × (Nat → Int32)) (J : Nat → zCf) (R : zRt) : zCf := oVRET R
set_option maxRecDepth 100000 in
theorem vb_X1_addMet_39 {X : Nat × (Nat → Int32)} {R : zRt} : ∀ ls st h, B_X1_addMet_39 X (zV X M_X1_addMet (zQm M_X1_addMet R) 0 0) R ls st h → zV X M_X1_addMet (zQm M_X1_addMet R) 0 0 39 ls st h := sd_vret dX1_addMet_39 rfl (Nat.le_of_ble_eq_true rfl) (Nat.le_of_ble_eq_true rfl)
theorem dX1_addHoliday_0 : decode cX1_addHoliday 0 = .ok (.aload_n 0, 1) := by decide +kernel
theorem dX1_addHoliday_1 : decode cX1_addHoliday 1 = .ok (.getfield 56, 3) := by decide +kernel
theorem dX1_addHoliday_4 : decode cX1_addHoliday 4 = .ok (.bipush 8, 2) := by decide +kernel
theorem dX1_addHoliday_6 : decode cX1_addHoliday 6 = .ok (.if_icmp .ge 23, 3) := by decide +kernel
theorem dX1_addHoliday_9 : decode cX1_addHoliday 9 = .ok (.aload_n 0, 1) := by decide +kernel
theorem dX1_addHoliday_10 : decode cX1_addHoliday 10 = .ok (.getfield 37, 3) := by decide +kernel
theorem dX1_addHoliday_13 : decode cX1_addHoliday 13 = .ok (.aload_n 0, 1) := by decide +kernel
theorem dX1_addHoliday_14 : decode cX1_addHoliday 14 = .ok (.getfield 56, 3) := by decide +kernel
theorem dX1_addHoliday_17 : decode cX1_addHoliday 17 = .ok (.iload_n 1, 1) := by decide +kernel
theorem dX1_addHoliday_18 : decode cX1_addHoliday 18 = .ok (.iastore, 1) := by decide +kernel
theorem dX1_addHoliday_19 : decode cX1_addHoliday 19 = .ok (.aload_n 0, 1) := by decide +kernel
theorem dX1_addHoliday_20 : decode cX1_addHoliday 20 = .ok (.dup, 1) := by decide +kernel
theorem dX1_addHoliday_21 : decode cX1_addHoliday 21 = .ok (.getfield 56, 3) := by decide +kernel
theorem dX1_addHoliday_24 : decode cX1_addHoliday 24 = .ok (.iconst 1, 1) := by decide +kernel
theorem dX1_addHoliday_25 : decode cX1_addHoliday 25 = .ok (.iadd, 1) := by decide +kernel
theorem dX1_addHoliday_26 : decode cX1_addHoliday 26 = .ok (.putfield 56, 3) := by decide +kernel
theorem dX1_addHoliday_29 : decode cX1_addHoliday 29 = .ok (.return_, 1) := by decide +kernel
def B_X1_addHoliday_0 (X : Nat × (Nat → Int32)) (J : Nat → zCf) (R : zRt) : zCf := oALOAD 0 (oGETI 1 11 (oPI (zj (8)) (oICGE (J 29) (oALOAD 0 (oGETR 1 12 (oALOAD 0 (oGETI 1 11 (oILOAD 1 (oIAST (oALOAD 0 (oDUP (oGETI 1 11 (oPI (zj (1)) (oIADD (oPUTI 1 11 (J 29))))))))))))))))
set_option maxRecDepth 100000 in
theorem vb_X1_addHoliday_0 {X : Nat × (Nat → Int32)} {R : zRt} : ∀ ls st h, B_X1_addHoliday_0 X (zV X M_X1_addHoliday (zQm M_X1_addHoliday R) 0 0) R ls st h → zV X M_X1_addHoliday (zQm M_X1_addHoliday R) 0 0 0 ls st h := sd_aload_n dX1_addHoliday_0 rfl (sd_geti dX1_addHoliday_1 zCl1 (Nat.le_of_ble_eq_true rfl) lk_RX1_56 (Or.inl rfl) (sd_bipush dX1_addHoliday_4 rfl (sd_icge dX1_addHoliday_6 rfl (fun _ _ _ h => h) (sd_aload_n dX1_addHoliday_9 rfl (sd_getr dX1_addHoliday_10 zCl1 (Nat.le_of_ble_eq_true rfl) lk_RX1_37 (Or.inr ⟨_, rfl⟩) (sd_aload_n dX1_addHoliday_13 rfl (sd_geti dX1_addHoliday_14 zCl1 (Nat.le_of_ble_eq_true rfl) lk_RX1_56 (Or.inl rfl) (sd_iload_n dX1_addHoliday_17 rfl (sd_iast dX1_addHoliday_18 (sd_aload_n dX1_addHoliday_19 rfl (sd_dup dX1_addHoliday_20 (sd_geti dX1_addHoliday_21 zCl1 (Nat.le_of_ble_eq_true rfl) lk_RX1_56 (Or.inl rfl) (sd_iconst dX1_addHoliday_24 rfl (sd_iadd dX1_addHoliday_25 (sd_puti dX1_addHoliday_26 zCl1 (Nat.le_of_ble_eq_true rfl) lk_RX1_56 rfl (Or.inl rfl) (fun _ _ _ h => h))))))))))))))))
def B_X1_addHoliday_29 (X : Nat × (Nat → Int32)) (J : Nat → zCf) (R : zRt) : zCf := oVRET R
set_option maxRecDepth 100000 in
theorem vb_X1_addHoliday_29 {X : Nat × (Nat → Int32)} {R : zRt} : ∀ ls st h, B_X1_addHoliday_29 X (zV X M_X1_addHoliday (zQm M_X1_addHoliday R) 0 0) R ls st h → zV X M_X1_addHoliday (zQm M_X1_addHoliday R) 0 0 29 ls st h := sd_vret dX1_addHoliday_29 rfl (Nat.le_of_ble_eq_true rfl) (Nat.le_of_ble_eq_true rfl)
theorem dX1_addPerson_0 : decode cX1_addPerson 0 = .ok (.aload_n 0, 1) := by decide +kernel
theorem dX1_addPerson_1 : decode cX1_addPerson 1 = .ok (.getfield 59, 3) := by decide +kernel
theorem dX1_addPerson_4 : decode cX1_addPerson 4 = .ok (.iconst 4, 1) := by decide +kernel
theorem dX1_addPerson_5 : decode cX1_addPerson 5 = .ok (.if_icmp .ge 33, 3) := by decide +kernel
theorem dX1_addPerson_8 : decode cX1_addPerson 8 = .ok (.aload_n 0, 1) := by decide +kernel
theorem dX1_addPerson_9 : decode cX1_addPerson 9 = .ok (.getfield 40, 3) := by decide +kernel
theorem dX1_addPerson_12 : decode cX1_addPerson 12 = .ok (.aload_n 0, 1) := by decide +kernel
theorem dX1_addPerson_13 : decode cX1_addPerson 13 = .ok (.getfield 59, 3) := by decide +kernel
theorem dX1_addPerson_16 : decode cX1_addPerson 16 = .ok (.lload_n 1, 1) := by decide +kernel
theorem dX1_addPerson_17 : decode cX1_addPerson 17 = .ok (.lastore, 1) := by decide +kernel
theorem dX1_addPerson_18 : decode cX1_addPerson 18 = .ok (.aload_n 0, 1) := by decide +kernel
theorem dX1_addPerson_19 : decode cX1_addPerson 19 = .ok (.getfield 43, 3) := by decide +kernel
theorem dX1_addPerson_22 : decode cX1_addPerson 22 = .ok (.aload_n 0, 1) := by decide +kernel
theorem dX1_addPerson_23 : decode cX1_addPerson 23 = .ok (.getfield 59, 3) := by decide +kernel
theorem dX1_addPerson_26 : decode cX1_addPerson 26 = .ok (.iload_n 3, 1) := by decide +kernel
theorem dX1_addPerson_27 : decode cX1_addPerson 27 = .ok (.iastore, 1) := by decide +kernel
theorem dX1_addPerson_28 : decode cX1_addPerson 28 = .ok (.aload_n 0, 1) := by decide +kernel
theorem dX1_addPerson_29 : decode cX1_addPerson 29 = .ok (.dup, 1) := by decide +kernel
theorem dX1_addPerson_30 : decode cX1_addPerson 30 = .ok (.getfield 59, 3) := by decide +kernel
theorem dX1_addPerson_33 : decode cX1_addPerson 33 = .ok (.iconst 1, 1) := by decide +kernel
theorem dX1_addPerson_34 : decode cX1_addPerson 34 = .ok (.iadd, 1) := by decide +kernel
theorem dX1_addPerson_35 : decode cX1_addPerson 35 = .ok (.putfield 59, 3) := by decide +kernel
theorem dX1_addPerson_38 : decode cX1_addPerson 38 = .ok (.return_, 1) := by decide +kernel
def B_X1_addPerson_0 (X : Nat × (Nat → Int32)) (J : Nat → zCf) (R : zRt) : zCf := oALOAD 0 (oGETI 1 13 (oPI (zj (4)) (oICGE (J 38) (oALOAD 0 (oGETR 1 14 (oALOAD 0 (oGETI 1 13 (oLLOAD 1 (oLAST (oALOAD 0 (oGETR 1 15 (oALOAD 0 (oGETI 1 13 (oILOAD 3 (oIAST (oALOAD 0 (oDUP (oGETI 1 13 (oPI (zj (1)) (oIADD (oPUTI 1 13 (J 38))))))))))))))))))))))
set_option maxRecDepth 100000 in
theorem vb_X1_addPerson_0 {X : Nat × (Nat → Int32)} {R : zRt} : ∀ ls st h, B_X1_addPerson_0 X (zV X M_X1_addPerson (zQm M_X1_addPerson R) 0 0) R ls st h → zV X M_X1_addPerson (zQm M_X1_addPerson R) 0 0 0 ls st h := sd_aload_n dX1_addPerson_0 rfl (sd_geti dX1_addPerson_1 zCl1 (Nat.le_of_ble_eq_true rfl) lk_RX1_59 (Or.inl rfl) (sd_iconst dX1_addPerson_4 rfl (sd_icge dX1_addPerson_5 rfl (fun _ _ _ h => h) (sd_aload_n dX1_addPerson_8 rfl (sd_getr dX1_addPerson_9 zCl1 (Nat.le_of_ble_eq_true rfl) lk_RX1_40 (Or.inr ⟨_, rfl⟩) (sd_aload_n dX1_addPerson_12 rfl (sd_geti dX1_addPerson_13 zCl1 (Nat.le_of_ble_eq_true rfl) lk_RX1_59 (Or.inl rfl) (sd_lload_n dX1_addPerson_16 rfl (sd_last dX1_addPerson_17 (sd_aload_n dX1_addPerson_18 rfl (sd_getr dX1_addPerson_19 zCl1 (Nat.le_of_ble_eq_true rfl) lk_RX1_43 (Or.inr ⟨_, rfl⟩) (sd_aload_n dX1_addPerson_22 rfl (sd_geti dX1_addPerson_23 zCl1 (Nat.le_of_ble_eq_true rfl) lk_RX1_59 (Or.inl rfl) (sd_iload_n dX1_addPerson_26 rfl (sd_iast dX1_addPerson_27 (sd_aload_n dX1_addPerson_28 rfl (sd_dup dX1_addPerson_29 (sd_geti dX1_addPerson_30 zCl1 (Nat.le_of_ble_eq_true rfl) lk_RX1_59 (Or.inl rfl) (sd_iconst dX1_addPerson_33 rfl (sd_iadd dX1_addPerson_34 (sd_puti dX1_addPerson_35 zCl1 (Nat.le_of_ble_eq_true rfl) lk_RX1_59 rfl (Or.inl rfl) (fun _ _ _ h => h))))))))))))))))))))))
def B_X1_addPerson_38 (X : Nat × (Nat → Int32)) (J : Nat → zCf) (R : zRt) : zCf := oVRET R
set_option maxRecDepth 100000 in
theorem vb_X1_addPerson_38 {X : Nat × (Nat → Int32)} {R : zRt} : ∀ ls st h, B_X1_addPerson_38 X (zV X M_X1_addPerson (zQm M_X1_addPerson R) 0 0) R ls st h → zV X M_X1_addPerson (zQm M_X1_addPerson R) 0 0 38 ls st h := sd_vret dX1_addPerson_38 rfl (Nat.le_of_ble_eq_true rfl) (Nat.le_of_ble_eq_true rfl)
theorem dX1_bitNamed_0 : decode cX1_bitNamed 0 = .ok (.iconst 0, 1) := by decide +kernel
theorem dX1_bitNamed_1 : decode cX1_bitNamed 1 = .ok (.istore_n 3, 1) := by decide +kernel
theorem dX1_bitNamed_2 : decode cX1_bitNamed 2 = .ok (.iload_n 3, 1) := by decide +kernel
theorem dX1_bitNamed_3 : decode cX1_bitNamed 3 = .ok (.aload_n 0, 1) := by decide +kernel
theorem dX1_bitNamed_4 : decode cX1_bitNamed 4 = .ok (.getfield 50, 3) := by decide +kernel
theorem dX1_bitNamed_7 : decode cX1_bitNamed 7 = .ok (.if_icmp .ge 22, 3) := by decide +kernel
theorem dX1_bitNamed_10 : decode cX1_bitNamed 10 = .ok (.aload_n 0, 1) := by decide +kernel
theorem dX1_bitNamed_11 : decode cX1_bitNamed 11 = .ok (.getfield 9, 3) := by decide +kernel
theorem dX1_bitNamed_14 : decode cX1_bitNamed 14 = .ok (.iload_n 3, 1) := by decide +kernel
theorem dX1_bitNamed_15 : decode cX1_bitNamed 15 = .ok (.laload, 1) := by decide +kernel
theorem dX1_bitNamed_16 : decode cX1_bitNamed 16 = .ok (.lload_n 1, 1) := by decide +kernel
theorem dX1_bitNamed_17 : decode cX1_bitNamed 17 = .ok (.lcmp, 1) := by decide +kernel
theorem dX1_bitNamed_18 : decode cX1_bitNamed 18 = .ok (.ifCond .ne 5, 3) := by decide +kernel
theorem dX1_bitNamed_21 : decode cX1_bitNamed 21 = .ok (.iload_n 3, 1) := by decide +kernel
theorem dX1_bitNamed_22 : decode cX1_bitNamed 22 = .ok (.ireturn, 1) := by decide +kernel
theorem dX1_bitNamed_23 : decode cX1_bitNamed 23 = .ok (.iinc 3 1, 3) := by decide +kernel
theorem dX1_bitNamed_26 : decode cX1_bitNamed 26 = .ok (.goto (-24), 3) := by decide +kernel
theorem dX1_bitNamed_29 : decode cX1_bitNamed 29 = .ok (.iconst (-1), 1) := by decide +kernel
theorem dX1_bitNamed_30 : decode cX1_bitNamed 30 = .ok (.ireturn, 1) := by decide +kernel
def B_X1_bitNamed_0 (X : Nat × (Nat → Int32)) (J : Nat → zCf) (R : zRt) : zCf := oPI (zj (0)) (oISTORE 2 3 (J 2))
set_option maxRecDepth 100000 in
theorem vb_X1_bitNamed_0 {X : Nat × (Nat → Int32)} {R : zRt} : ∀ ls st h, B_X1_bitNamed_0 X (zV X M_X1_bitNamed (zQm M_X1_bitNamed R) 0 0) R ls st h → zV X M_X1_bitNamed (zQm M_X1_bitNamed R) 0 0 0 ls st h := sd_iconst dX1_bitNamed_0 rfl (sd_istore_n dX1_bitNamed_1 rfl (Nat.le_of_ble_eq_true rfl) (Or.inl rfl) (fun _ _ _ h => h))
def B_X1_bitNamed_2 (X : Nat × (Nat → Int32)) (J : Nat → zCf) (R : zRt) : zCf := oILOAD 3 (oALOAD 0 (oGETI 1 1 (oICGE (J 29) (oALOAD 0 (oGETR 1 2 (oILOAD 3 (oLALD (oLLOAD 1 (oLCMP (oIFNE (J 23) (oILOAD 3 (oIRET R))))))))))))
set_option maxRecDepth 100000 in
theorem vb_X1_bitNamed_2 {X : Nat × (Nat → Int32)} {R : zRt} : ∀ ls st h, B_X1_bitNamed_2 X (zV X M_X1_bitNamed (zQm M_X1_bitNamed R) 0 0) R ls st h → zV X M_X1_bitNamed (zQm M_X1_bitNamed R) 0 0 2 ls st h := sd_iload_n dX1_bitNamed_2 rfl (sd_aload_n dX1_bitNamed_3 rfl (sd_geti dX1_bitNamed_4 zCl1 (Nat.le_of_ble_eq_true rfl) lk_RX1_50 (Or.inl rfl) (sd_icge dX1_bitNamed_7 rfl (fun _ _ _ h => h) (sd_aload_n dX1_bitNamed_10 rfl (sd_getr dX1_bitNamed_11 zCl1 (Nat.le_of_ble_eq_true rfl) lk_RX1_9 (Or.inr ⟨_, rfl⟩) (sd_iload_n dX1_bitNamed_14 rfl (sd_lald dX1_bitNamed_15 (sd_lload_n dX1_bitNamed_16 rfl (sd_lcmp dX1_bitNamed_17 (sd_ifne dX1_bitNamed_18 rfl (fun _ _ _ h => h) (sd_iload_n dX1_bitNamed_21 rfl (sd_iret dX1_bitNamed_22 rfl (Nat.le_of_ble_eq_true rfl) (Nat.le_of_ble_eq_true rfl)))))))))))))
def B_X1_bitNamed_23 (X : Nat × (Nat → Int32)) (J : Nat → zCf) (R : zRt) : zCf := oIINC 2 3 (zj (1)) (J 2)
set_option maxRecDepth 100000 in
theorem vb_X1_bitNamed_23 {X : Nat × (Nat → Int32)} {R : zRt} : ∀ ls st h, B_X1_bitNamed_23 X (zV X M_X1_bitNamed (zQm M_X1_bitNamed R) 0 0) R ls st h → zV X M_X1_bitNamed (zQm M_X1_bitNamed R) 0 0 23 ls st h := sd_iinc dX1_bitNamed_23 rfl (Nat.le_of_ble_eq_true rfl) (Or.inl rfl) (sd_goto dX1_bitNamed_26 rfl (fun _ _ _ h => h))
def B_X1_bitNamed_29 (X : Nat × (Nat → Int32)) (J : Nat → zCf) (R : zRt) : zCf := oPI (zj (-1)) (oIRET R)
set_option maxRecDepth 100000 in
theorem vb_X1_bitNamed_29 {X : Nat × (Nat → Int32)} {R : zRt} : ∀ ls st h, B_X1_bitNamed_29 X (zV X M_X1_bitNamed (zQm M_X1_bitNamed R) 0 0) R ls st h → zV X M_X1_bitNamed (zQm M_X1_bitNamed R) 0 0 29 ls st h := sd_iconst dX1_bitNamed_29 rfl (sd_iret dX1_bitNamed_30 rfl (Nat.le_of_ble_eq_true rfl) (Nat.le_of_ble_eq_true rfl))
theorem dX1_isNamed_0 : decode cX1_isNamed 0 = .ok (.iconst 0, 1) := by decide +kernel
theorem dX1_isNamed_1 : decode cX1_isNamed 1 = .ok (.istore_n 3, 1) := by decide +kernel
theorem dX1_isNamed_2 : decode cX1_isNamed 2 = .ok (.iload_n 3, 1) := by decide +kernel
theorem dX1_isNamed_3 : decode cX1_isNamed 3 = .ok (.aload_n 0, 1) := by decide +kernel
theorem dX1_isNamed_4 : decode cX1_isNamed 4 = .ok (.getfield 59, 3) := by decide +kernel
theorem dX1_isNamed_7 : decode cX1_isNamed 7 = .ok (.if_icmp .ge 22, 3) := by decide +kernel
theorem dX1_isNamed_10 : decode cX1_isNamed 10 = .ok (.aload_n 0, 1) := by decide +kernel
theorem dX1_isNamed_11 : decode cX1_isNamed 11 = .ok (.getfield 40, 3) := by decide +kernel
theorem dX1_isNamed_14 : decode cX1_isNamed 14 = .ok (.iload_n 3, 1) := by decide +kernel
theorem dX1_isNamed_15 : decode cX1_isNamed 15 = .ok (.laload, 1) := by decide +kernel
theorem dX1_isNamed_16 : decode cX1_isNamed 16 = .ok (.lload_n 1, 1) := by decide +kernel
theorem dX1_isNamed_17 : decode cX1_isNamed 17 = .ok (.lcmp, 1) := by decide +kernel
theorem dX1_isNamed_18 : decode cX1_isNamed 18 = .ok (.ifCond .ne 5, 3) := by decide +kernel
theorem dX1_isNamed_21 : decode cX1_isNamed 21 = .ok (.iconst 1, 1) := by decide +kernel
theorem dX1_isNamed_22 : decode cX1_isNamed 22 = .ok (.ireturn, 1) := by decide +kernel
theorem dX1_isNamed_23 : decode cX1_isNamed 23 = .ok (.iinc 3 1, 3) := by decide +kernel
theorem dX1_isNamed_26 : decode cX1_isNamed 26 = .ok (.goto (-24), 3) := by decide +kernel
theorem dX1_isNamed_29 : decode cX1_isNamed 29 = .ok (.aload_n 0, 1) := by decide +kernel
theorem dX1_isNamed_30 : decode cX1_isNamed 30 = .ok (.lload_n 1, 1) := by decide +kernel
theorem dX1_isNamed_31 : decode cX1_isNamed 31 = .ok (.invokevirtual 62, 3) := by decide +kernel
theorem dX1_isNamed_34 : decode cX1_isNamed 34 = .ok (.iconst (-1), 1) := by decide +kernel
theorem dX1_isNamed_35 : decode cX1_isNamed 35 = .ok (.if_icmp .eq 7, 3) := by decide +kernel
theorem dX1_isNamed_38 : decode cX1_isNamed 38 = .ok (.iconst 1, 1) := by decide +kernel
theorem dX1_isNamed_39 : decode cX1_isNamed 39 = .ok (.goto 4, 3) := by decide +kernel
theorem dX1_isNamed_42 : decode cX1_isNamed 42 = .ok (.iconst 0, 1) := by decide +kernel
theorem dX1_isNamed_43 : decode cX1_isNamed 43 = .ok (.ireturn, 1) := by decide +kernel
def B_X1_isNamed_0 (X : Nat × (Nat → Int32)) (J : Nat → zCf) (R : zRt) : zCf := oPI (zj (0)) (oISTORE 2 3 (J 2))
set_option maxRecDepth 100000 in
theorem vb_X1_isNamed_0 {X : Nat × (Nat → Int32)} {R : zRt} : ∀ ls st h, B_X1_isNamed_0 X (zV X M_X1_isNamed (zQm M_X1_isNamed R) 0 0) R ls st h → zV X M_X1_isNamed (zQm M_X1_isNamed R) 0 0 0 ls st h := sd_iconst dX1_isNamed_0 rfl (sd_istore_n dX1_isNamed_1 rfl (Nat.le_of_ble_eq_true rfl) (Or.inl rfl) (fun _ _ _ h => h))
def B_X1_isNamed_2 (X : Nat × (Nat → Int32)) (J : Nat → zCf) (R : zRt) : zCf := oILOAD 3 (oALOAD 0 (oGETI 1 13 (oICGE (J 29) (oALOAD 0 (oGETR 1 14 (oILOAD 3 (oLALD (oLLOAD 1 (oLCMP (oIFNE (J 23) (oPI (zj (1)) (oZRET R))))))))))))
set_option maxRecDepth 100000 in
theorem vb_X1_isNamed_2 {X : Nat × (Nat → Int32)} {R : zRt} : ∀ ls st h, B_X1_isNamed_2 X (zV X M_X1_isNamed (zQm M_X1_isNamed R) 0 0) R ls st h → zV X M_X1_isNamed (zQm M_X1_isNamed R) 0 0 2 ls st h := sd_iload_n dX1_isNamed_2 rfl (sd_aload_n dX1_isNamed_3 rfl (sd_geti dX1_isNamed_4 zCl1 (Nat.le_of_ble_eq_true rfl) lk_RX1_59 (Or.inl rfl) (sd_icge dX1_isNamed_7 rfl (fun _ _ _ h => h) (sd_aload_n dX1_isNamed_10 rfl (sd_getr dX1_isNamed_11 zCl1 (Nat.le_of_ble_eq_true rfl) lk_RX1_40 (Or.inr ⟨_, rfl⟩) (sd_iload_n dX1_isNamed_14 rfl (sd_lald dX1_isNamed_15 (sd_lload_n dX1_isNamed_16 rfl (sd_lcmp dX1_isNamed_17 (sd_ifne dX1_isNamed_18 rfl (fun _ _ _ h => h) (sd_iconst dX1_isNamed_21 rfl (sd_zret dX1_isNamed_22 rfl (Nat.le_of_ble_eq_true rfl) (Nat.le_of_ble_eq_true rfl)))))))))))))
def B_X1_isNamed_23 (X : Nat × (Nat → Int32)) (J : Nat → zCf) (R : zRt) : zCf := oIINC 2 3 (zj (1)) (J 2)
set_option maxRecDepth 100000 in
theorem vb_X1_isNamed_23 {X : Nat × (Nat → Int32)} {R : zRt} : ∀ ls st h, B_X1_isNamed_23 X (zV X M_X1_isNamed (zQm M_X1_isNamed R) 0 0) R ls st h → zV X M_X1_isNamed (zQm M_X1_isNamed R) 0 0 23 ls st h := sd_iinc dX1_isNamed_23 rfl (Nat.le_of_ble_eq_true rfl) (Or.inl rfl) (sd_goto dX1_isNamed_26 rfl (fun _ _ _ h => h))
def B_X1_isNamed_29 (X : Nat × (Nat → Int32)) (J : Nat → zCf) (R : zRt) : zCf := oALOAD 0 (oLLOAD 1 (oINV1 X M_X1_bitNamed 1 (oPI (zj (-1)) (oICEQ (J 42) (oPI (zj (1)) (J 43))))))
set_option maxRecDepth 100000 in
theorem vb_X1_isNamed_29 {X : Nat × (Nat → Int32)} {R : zRt} : ∀ ls st h, B_X1_isNamed_29 X (zV X M_X1_isNamed (zQm M_X1_isNamed R) 0 0) R ls st h → zV X M_X1_isNamed (zQm M_X1_isNamed R) 0 0 29 ls st h := sd_aload_n dX1_isNamed_29 rfl (sd_lload_n dX1_isNamed_30 rfl (sd_inv1 dX1_isNamed_31 rfl mv_X1_bitNamed na_X1_bitNamed ml_RX1_62 ⟨⟨Nat.le_of_ble_eq_true rfl, Nat.le_of_ble_eq_true rfl⟩, ⟨Nat.le_of_ble_eq_true rfl, Nat.le_of_ble_eq_true rfl⟩⟩ (sd_iconst dX1_isNamed_34 rfl (sd_iceq dX1_isNamed_35 rfl (fun _ _ _ h => h) (sd_iconst dX1_isNamed_38 rfl (sd_goto dX1_isNamed_39 rfl (fun _ _ _ h => h)))))))
def B_X1_isNamed_42 (X : Nat × (Nat → Int32)) (J : Nat → zCf) (R : zRt) : zCf := oPI (zj (0)) (J 43)
set_option maxRecDepth 100000 in
theorem vb_X1_isNamed_42 {X : Nat × (Nat → Int32)} {R : zRt} : ∀ ls st h, B_X1_isNamed_42 X (zV X M_X1_isNamed (zQm M_X1_isNamed R) 0 0) R ls st h → zV X M_X1_isNamed (zQm M_X1_isNamed R) 0 0 42 ls st h := sd_iconst dX1_isNamed_42 rfl (fun _ _ _ h => h)
def B_X1_isNamed_43 (X : Nat × (Nat → Int32)) (J : Nat → zCf) (R : zRt) : zCf := oZRET R
set_option maxRecDepth 100000 in
theorem vb_X1_isNamed_43 {X : Nat × (Nat → Int32)} {R : zRt} : ∀ ls st h, B_X1_isNamed_43 X (zV X M_X1_isNamed (zQm M_X1_isNamed R) 0 0) R ls st h → zV X M_X1_isNamed (zQm M_X1_isNamed R) 0 0 43 ls st h := sd_zret dX1_isNamed_43 rfl (Nat.le_of_ble_eq_true rfl) (Nat.le_of_ble_eq_true rfl)
theorem dX1_hasMet_0 : decode cX1_hasMet 0 = .ok (.iconst 0, 1) := by decide +kernel
theorem dX1_hasMet_1 : decode cX1_hasMet 1 = .ok (.istore_n 2, 1) := by decide +kernel
theorem dX1_hasMet_2 : decode cX1_hasMet 2 = .ok (.iload_n 2, 1) := by decide +kernel
theorem dX1_hasMet_3 : decode cX1_hasMet 3 = .ok (.aload_n 0, 1) := by decide +kernel
theorem dX1_hasMet_4 : decode cX1_hasMet 4 = .ok (.getfield 53, 3) := by decide +kernel
theorem dX1_hasMet_7 : decode cX1_hasMet 7 = .ok (.if_icmp .ge 21, 3) := by decide +kernel
theorem dX1_hasMet_10 : decode cX1_hasMet 10 = .ok (.aload_n 0, 1) := by decide +kernel
theorem dX1_hasMet_11 : decode cX1_hasMet 11 = .ok (.getfield 31, 3) := by decide +kernel
theorem dX1_hasMet_14 : decode cX1_hasMet 14 = .ok (.iload_n 2, 1) := by decide +kernel
theorem dX1_hasMet_15 : decode cX1_hasMet 15 = .ok (.iaload, 1) := by decide +kernel
theorem dX1_hasMet_16 : decode cX1_hasMet 16 = .ok (.iload_n 1, 1) := by decide +kernel
theorem dX1_hasMet_17 : decode cX1_hasMet 17 = .ok (.if_icmp .ne 5, 3) := by decide +kernel
theorem dX1_hasMet_20 : decode cX1_hasMet 20 = .ok (.iconst 1, 1) := by decide +kernel
theorem dX1_hasMet_21 : decode cX1_hasMet 21 = .ok (.ireturn, 1) := by decide +kernel
theorem dX1_hasMet_22 : decode cX1_hasMet 22 = .ok (.iinc 2 1, 3) := by decide +kernel
theorem dX1_hasMet_25 : decode cX1_hasMet 25 = .ok (.goto (-23), 3) := by decide +kernel
theorem dX1_hasMet_28 : decode cX1_hasMet 28 = .ok (.iconst 0, 1) := by decide +kernel
theorem dX1_hasMet_29 : decode cX1_hasMet 29 = .ok (.ireturn, 1) := by decide +kernel
def B_X1_hasMet_0 (X : Nat × (Nat → Int32)) (J : Nat → zCf) (R : zRt) : zCf := oPI (zj (0)) (oISTORE 1 2 (J 2))
set_option maxRecDepth 100000 in
theorem vb_X1_hasMet_0 {X : Nat × (Nat → Int32)} {R : zRt} : ∀ ls st h, B_X1_hasMet_0 X (zV X M_X1_hasMet (zQm M_X1_hasMet R) 0 0) R ls st h → zV X M_X1_hasMet (zQm M_X1_hasMet R) 0 0 0 ls st h := sd_iconst dX1_hasMet_0 rfl (sd_istore_n dX1_hasMet_1 rfl (Nat.le_of_ble_eq_true rfl) (Or.inl rfl) (fun _ _ _ h => h))
def B_X1_hasMet_2 (X : Nat × (Nat → Int32)) (J : Nat → zCf) (R : zRt) : zCf := oILOAD 2 (oALOAD 0 (oGETI 1 8 (oICGE (J 28) (oALOAD 0 (oGETR 1 9 (oILOAD 2 (oIALD (oILOAD 1 (oICNE (J 22) (oPI (zj (1)) (oZRET R)))))))))))
set_option maxRecDepth 100000 in
theorem vb_X1_hasMet_2 {X : Nat × (Nat → Int32)} {R : zRt} : ∀ ls st h, B_X1_hasMet_2 X (zV X M_X1_hasMet (zQm M_X1_hasMet R) 0 0) R ls st h → zV X M_X1_hasMet (zQm M_X1_hasMet R) 0 0 2 ls st h := sd_iload_n dX1_hasMet_2 rfl (sd_aload_n dX1_hasMet_3 rfl (sd_geti dX1_hasMet_4 zCl1 (Nat.le_of_ble_eq_true rfl) lk_RX1_53 (Or.inl rfl) (sd_icge dX1_hasMet_7 rfl (fun _ _ _ h => h) (sd_aload_n dX1_hasMet_10 rfl (sd_getr dX1_hasMet_11 zCl1 (Nat.le_of_ble_eq_true rfl) lk_RX1_31 (Or.inr ⟨_, rfl⟩) (sd_iload_n dX1_hasMet_14 rfl (sd_iald dX1_hasMet_15 (sd_iload_n dX1_hasMet_16 rfl (sd_icne dX1_hasMet_17 rfl (fun _ _ _ h => h) (sd_iconst dX1_hasMet_20 rfl (sd_zret dX1_hasMet_21 rfl (Nat.le_of_ble_eq_true rfl) (Nat.le_of_ble_eq_true rfl))))))))))))
def B_X1_hasMet_22 (X : Nat × (Nat → Int32)) (J : Nat → zCf) (R : zRt) : zCf := oIINC 1 2 (zj (1)) (J 2)
set_option maxRecDepth 100000 in
theorem vb_X1_hasMet_22 {X : Nat × (Nat → Int32)} {R : zRt} : ∀ ls st h, B_X1_hasMet_22 X (zV X M_X1_hasMet (zQm M_X1_hasMet R) 0 0) R ls st h → zV X M_X1_hasMet (zQm M_X1_hasMet R) 0 0 22 ls st h := sd_iinc dX1_hasMet_22 rfl (Nat.le_of_ble_eq_true rfl) (Or.inl rfl) (sd_goto dX1_hasMet_25 rfl (fun _ _ _ h => h))
def B_X1_hasMet_28 (X : Nat × (Nat → Int32)) (J : Nat → zCf) (R : zRt) : zCf := oPI (zj (0)) (oZRET R)
set_option maxRecDepth 100000 in
theorem vb_X1_hasMet_28 {X : Nat × (Nat → Int32)} {R : zRt} : ∀ ls st h, B_X1_hasMet_28 X (zV X M_X1_hasMet (zQm M_X1_hasMet R) 0 0) R ls st h → zV X M_X1_hasMet (zQm M_X1_hasMet R) 0 0 28 ls st h := sd_iconst dX1_hasMet_28 rfl (sd_zret dX1_hasMet_29 rfl (Nat.le_of_ble_eq_true rfl) (Nat.le_of_ble_eq_true rfl))
theorem dX1_isHoliday_0 : decode cX1_isHoliday 0 = .ok (.iconst 0, 1) := by decide +kernel
theorem dX1_isHoliday_1 : decode cX1_isHoliday 1 = .ok (.istore_n 2, 1) := by decide +kernel
theorem dX1_isHoliday_2 : decode cX1_isHoliday 2 = .ok (.iload_n 2, 1) := by decide +kernel
theorem dX1_isHoliday_3 : decode cX1_isHoliday 3 = .ok (.aload_n 0, 1) := by decide +kernel
theorem dX1_isHoliday_4 : decode cX1_isHoliday 4 = .ok (.getfield 56, 3) := by decide +kernel
theorem dX1_isHoliday_7 : decode cX1_isHoliday 7 = .ok (.if_icmp .ge 21, 3) := by decide +kernel
theorem dX1_isHoliday_10 : decode cX1_isHoliday 10 = .ok (.aload_n 0, 1) := by decide +kernel
theorem dX1_isHoliday_11 : decode cX1_isHoliday 11 = .ok (.getfield 37, 3) := by decide +kernel
theorem dX1_isHoliday_14 : decode cX1_isHoliday 14 = .ok (.iload_n 2, 1) := by decide +kernel
theorem dX1_isHoliday_15 : decode cX1_isHoliday 15 = .ok (.iaload, 1) := by decide +kernel
theorem dX1_isHoliday_16 : decode cX1_isHoliday 16 = .ok (.iload_n 1, 1) := by decide +kernel
theorem dX1_isHoliday_17 : decode cX1_isHoliday 17 = .ok (.if_icmp .ne 5, 3) := by decide +kernel
theorem dX1_isHoliday_20 : decode cX1_isHoliday 20 = .ok (.iconst 1, 1) := by decide +kernel
theorem dX1_isHoliday_21 : decode cX1_isHoliday 21 = .ok (.ireturn, 1) := by decide +kernel
theorem dX1_isHoliday_22 : decode cX1_isHoliday 22 = .ok (.iinc 2 1, 3) := by decide +kernel
theorem dX1_isHoliday_25 : decode cX1_isHoliday 25 = .ok (.goto (-23), 3) := by decide +kernel
theorem dX1_isHoliday_28 : decode cX1_isHoliday 28 = .ok (.iconst 0, 1) := by decide +kernel
theorem dX1_isHoliday_29 : decode cX1_isHoliday 29 = .ok (.ireturn, 1) := by decide +kernel
def B_X1_isHoliday_0 (X : Nat × (Nat → Int32)) (J : Nat → zCf) (R : zRt) : zCf := oPI (zj (0)) (oISTORE 1 2 (J 2))
set_option maxRecDepth 100000 in
theorem vb_X1_isHoliday_0 {X : Nat × (Nat → Int32)} {R : zRt} : ∀ ls st h, B_X1_isHoliday_0 X (zV X M_X1_isHoliday (zQm M_X1_isHoliday R) 0 0) R ls st h → zV X M_X1_isHoliday (zQm M_X1_isHoliday R) 0 0 0 ls st h := sd_iconst dX1_isHoliday_0 rfl (sd_istore_n dX1_isHoliday_1 rfl (Nat.le_of_ble_eq_true rfl) (Or.inl rfl) (fun _ _ _ h => h))
def B_X1_isHoliday_2 (X : Nat × (Nat → Int32)) (J : Nat → zCf) (R : zRt) : zCf := oILOAD 2 (oALOAD 0 (oGETI 1 11 (oICGE (J 28) (oALOAD 0 (oGETR 1 12 (oILOAD 2 (oIALD (oILOAD 1 (oICNE (J 22) (oPI (zj (1)) (oZRET R)))))))))))
set_option maxRecDepth 100000 in
theorem vb_X1_isHoliday_2 {X : Nat × (Nat → Int32)} {R : zRt} : ∀ ls st h, B_X1_isHoliday_2 X (zV X M_X1_isHoliday (zQm M_X1_isHoliday R) 0 0) R ls st h → zV X M_X1_isHoliday (zQm M_X1_isHoliday R) 0 0 2 ls st h := sd_iload_n dX1_isHoliday_2 rfl (sd_aload_n dX1_isHoliday_3 rfl (sd_geti dX1_isHoliday_4 zCl1 (Nat.le_of_ble_eq_true rfl) lk_RX1_56 (Or.inl rfl) (sd_icge dX1_isHoliday_7 rfl (fun _ _ _ h => h) (sd_aload_n dX1_isHoliday_10 rfl (sd_getr dX1_isHoliday_11 zCl1 (Nat.le_of_ble_eq_true rfl) lk_RX1_37 (Or.inr ⟨_, rfl⟩) (sd_iload_n dX1_isHoliday_14 rfl (sd_iald dX1_isHoliday_15 (sd_iload_n dX1_isHoliday_16 rfl (sd_icne dX1_isHoliday_17 rfl (fun _ _ _ h => h) (sd_iconst dX1_isHoliday_20 rfl (sd_zret dX1_isHoliday_21 rfl (Nat.le_of_ble_eq_true rfl) (Nat.le_of_ble_eq_true rfl))))))))))))
def B_X1_isHoliday_22 (X : Nat × (Nat → Int32)) (J : Nat → zCf) (R : zRt) : zCf := oIINC 1 2 (zj (1)) (J 2)
set_option maxRecDepth 100000 in
theorem vb_X1_isHoliday_22 {X : Nat × (Nat → Int32)} {R : zRt} : ∀ ls st h, B_X1_isHoliday_22 X (zV X M_X1_isHoliday (zQm M_X1_isHoliday R) 0 0) R ls st h → zV X M_X1_isHoliday (zQm M_X1_isHoliday R) 0 0 22 ls st h := sd_iinc dX1_isHoliday_22 rfl (Nat.le_of_ble_eq_true rfl) (Or.inl rfl) (sd_goto dX1_isHoliday_25 rfl (fun _ _ _ h => h))
def B_X1_isHoliday_28 (X : Nat × (Nat → Int32)) (J : Nat → zCf) (R : zRt) : zCf := oPI (zj (0)) (oZRET R)
set_option maxRecDepth 100000 in
theorem vb_X1_isHoliday_28 {X : Nat × (Nat → Int32)} {R : zRt} : ∀ ls st h, B_X1_isHoliday_28 X (zV X M_X1_isHoliday (zQm M_X1_isHoliday R) 0 0) R ls st h → zV X M_X1_isHoliday (zQm M_X1_isHoliday R) 0 0 28 ls st h := sd_iconst dX1_isHoliday_28 rfl (sd_zret dX1_isHoliday_29 rfl (Nat.le_of_ble_eq_true rfl) (Nat.le_of_ble_eq_true rfl))
theorem dX1_cellsTold_0 : decode cX1_cellsTold 0 = .ok (.iconst 0, 1) := by decide +kernel
theorem dX1_cellsTold_1 : decode cX1_cellsTold 1 = .ok (.istore_n 2, 1) := by decide +kernel
theorem dX1_cellsTold_2 : decode cX1_cellsTold 2 = .ok (.iconst 0, 1) := by decide +kernel
theorem dX1_cellsTold_3 : decode cX1_cellsTold 3 = .ok (.istore_n 3, 1) := by decide +kernel
theorem dX1_cellsTold_4 : decode cX1_cellsTold 4 = .ok (.iload_n 3, 1) := by decide +kernel
theorem dX1_cellsTold_5 : decode cX1_cellsTold 5 = .ok (.aload_n 0, 1) := by decide +kernel
theorem dX1_cellsTold_6 : decode cX1_cellsTold 6 = .ok (.getfield 50, 3) := by decide +kernel
theorem dX1_cellsTold_9 : decode cX1_cellsTold 9 = .ok (.if_icmp .ge 26, 3) := by decide +kernel
theorem dX1_cellsTold_12 : decode cX1_cellsTold 12 = .ok (.iload_n 3, 1) := by decide +kernel
theorem dX1_cellsTold_13 : decode cX1_cellsTold 13 = .ok (.aload_n 1, 1) := by decide +kernel
theorem dX1_cellsTold_14 : decode cX1_cellsTold 14 = .ok (.arraylength, 1) := by decide +kernel
theorem dX1_cellsTold_15 : decode cX1_cellsTold 15 = .ok (.if_icmp .ge 20, 3) := by decide +kernel
theorem dX1_cellsTold_18 : decode cX1_cellsTold 18 = .ok (.aload_n 1, 1) := by decide +kernel
theorem dX1_cellsTold_19 : decode cX1_cellsTold 19 = .ok (.iload_n 3, 1) := by decide +kernel
theorem dX1_cellsTold_20 : decode cX1_cellsTold 20 = .ok (.iaload, 1) := by decide +kernel
theorem dX1_cellsTold_21 : decode cX1_cellsTold 21 = .ok (.bipush (-2), 2) := by decide +kernel
theorem dX1_cellsTold_23 : decode cX1_cellsTold 23 = .ok (.if_icmp .eq 6, 3) := by decide +kernel
theorem dX1_cellsTold_26 : decode cX1_cellsTold 26 = .ok (.iinc 2 1, 3) := by decide +kernel
theorem dX1_cellsTold_29 : decode cX1_cellsTold 29 = .ok (.iinc 3 1, 3) := by decide +kernel
theorem dX1_cellsTold_32 : decode cX1_cellsTold 32 = .ok (.goto (-28), 3) := by decide +kernel
theorem dX1_cellsTold_35 : decode cX1_cellsTold 35 = .ok (.iload_n 2, 1) := by decide +kernel
theorem dX1_cellsTold_36 : decode cX1_cellsTold 36 = .ok (.ireturn, 1) := by decide +kernel
def B_X1_cellsTold_0 (X : Nat × (Nat → Int32)) (J : Nat → zCf) (R : zRt) : zCf := oPI (zj (0)) (oISTORE 1 2 (oPI (zj (0)) (oISTORE 2 3 (J 4))))
set_option maxRecDepth 100000 in
theorem vb_X1_cellsTold_0 {X : Nat × (Nat → Int32)} {R : zRt} : ∀ ls st h, B_X1_cellsTold_0 X (zV X M_X1_cellsTold (zQm M_X1_cellsTold R) 0 0) R ls st h → zV X M_X1_cellsTold (zQm M_X1_cellsTold R) 0 0 0 ls st h := sd_iconst dX1_cellsTold_0 rfl (sd_istore_n dX1_cellsTold_1 rfl (Nat.le_of_ble_eq_true rfl) (Or.inl rfl) (sd_iconst dX1_cellsTold_2 rfl (sd_istore_n dX1_cellsTold_3 rfl (Nat.le_of_ble_eq_true rfl) (Or.inl rfl) (fun _ _ _ h => h))))
def B_X1_cellsTold_4 (X : Nat × (Nat → Int32)) (J : Nat → zCf) (R : zRt) : zCf := oILOAD 3 (oALOAD 0 (oGETI 1 1 (oICGE (J 35) (oILOAD 3 (oALOAD 1 (oALEN (oICGE (J 35) (oALOAD 1 (oILOAD 3 (oIALD (oPI (zj (-2)) (oICEQ (J 29) (oIINC 1 2 (zj (1)) (J 29))))))))))))))
set_option maxRecDepth 100000 in
theorem vb_X1_cellsTold_4 {X : Nat × (Nat → Int32)} {R : zRt} : ∀ ls st h, B_X1_cellsTold_4 X (zV X M_X1_cellsTold (zQm M_X1_cellsTold R) 0 0) R ls st h → zV X M_X1_cellsTold (zQm M_X1_cellsTold R) 0 0 4 ls st h := sd_iload_n dX1_cellsTold_4 rfl (sd_aload_n dX1_cellsTold_5 rfl (sd_geti dX1_cellsTold_6 zCl1 (Nat.le_of_ble_eq_true rfl) lk_RX1_50 (Or.inl rfl) (sd_icge dX1_cellsTold_9 rfl (fun _ _ _ h => h) (sd_iload_n dX1_cellsTold_12 rfl (sd_aload_n dX1_cellsTold_13 rfl (sd_alen dX1_cellsTold_14 (sd_icge dX1_cellsTold_15 rfl (fun _ _ _ h => h) (sd_aload_n dX1_cellsTold_18 rfl (sd_iload_n dX1_cellsTold_19 rfl (sd_iald dX1_cellsTold_20 (sd_bipush dX1_cellsTold_21 rfl (sd_iceq dX1_cellsTold_23 rfl (fun _ _ _ h => h) (sd_iinc dX1_cellsTold_26 rfl (Nat.le_of_ble_eq_true rfl) (Or.inl rfl) (fun _ _ _ h => h))))))))))))))
def B_X1_cellsTold_29 (X : Nat × (Nat → Int32)) (J : Nat → zCf) (R : zRt) : zCf := oIINC 2 3 (zj (1)) (J 4)
set_option maxRecDepth 100000 in
theorem vb_X1_cellsTold_29 {X : Nat × (Nat → Int32)} {R : zRt} : ∀ ls st h, B_X1_cellsTold_29 X (zV X M_X1_cellsTold (zQm M_X1_cellsTold R) 0 0) R ls st h → zV X M_X1_cellsTold (zQm M_X1_cellsTold R) 0 0 29 ls st h := sd_iinc dX1_cellsTold_29 rfl (Nat.le_of_ble_eq_true rfl) (Or.inl rfl) (sd_goto dX1_cellsTold_32 rfl (fun _ _ _ h => h))
def B_X1_cellsTold_35 (X : Nat × (Nat → Int32)) (J : Nat → zCf) (R : zRt) : zCf := oILOAD 2 (oIRET R)
set_option maxRecDepth 100000 in
theorem vb_X1_cellsTold_35 {X : Nat × (Nat → Int32)} {R : zRt} : ∀ ls st h, B_X1_cellsTold_35 X (zV X M_X1_cellsTold (zQm M_X1_cellsTold R) 0 0) R ls st h → zV X M_X1_cellsTold (zQm M_X1_cellsTold R) 0 0 35 ls st h := sd_iload_n dX1_cellsTold_35 rfl (sd_iret dX1_cellsTold_36 rfl (Nat.le_of_ble_eq_true rfl) (Nat.le_of_ble_eq_true rfl))
theorem dX1_weight_0 : decode cX1_weight 0 = .ok (.aload_n 0, 1) := by decide +kernel
theorem dX1_weight_1 : decode cX1_weight 1 = .ok (.getfield 15, 3) := by decide +kernel
theorem dX1_weight_4 : decode cX1_weight 4 = .ok (.iload_n 1, 1) := by decide +kernel
theorem dX1_weight_5 : decode cX1_weight 5 = .ok (.iaload, 1) := by decide +kernel
theorem dX1_weight_6 : decode cX1_weight 6 = .ok (.iconst 1, 1) := by decide +kernel
theorem dX1_weight_7 : decode cX1_weight 7 = .ok (.iadd, 1) := by decide +kernel
theorem dX1_weight_8 : decode cX1_weight 8 = .ok (.ireturn, 1) := by decide +kernel
def B_X1_weight_0 (X : Nat × (Nat → Int32)) (J : Nat → zCf) (R : zRt) : zCf := oALOAD 0 (oGETR 1 3 (oILOAD 1 (oIALD (oPI (zj (1)) (oIADD (oIRET R))))))
set_option maxRecDepth 100000 in
theorem vb_X1_weight_0 {X : Nat × (Nat → Int32)} {R : zRt} : ∀ ls st h, B_X1_weight_0 X (zV X M_X1_weight (zQm M_X1_weight R) 0 0) R ls st h → zV X M_X1_weight (zQm M_X1_weight R) 0 0 0 ls st h := sd_aload_n dX1_weight_0 rfl (sd_getr dX1_weight_1 zCl1 (Nat.le_of_ble_eq_true rfl) lk_RX1_15 (Or.inr ⟨_, rfl⟩) (sd_iload_n dX1_weight_4 rfl (sd_iald dX1_weight_5 (sd_iconst dX1_weight_6 rfl (sd_iadd dX1_weight_7 (sd_iret dX1_weight_8 rfl (Nat.le_of_ble_eq_true rfl) (Nat.le_of_ble_eq_true rfl)))))))
theorem dX1_firstTwins_0 : decode cX1_firstTwins 0 = .ok (.iconst 0, 1) := by decide +kernel
theorem dX1_firstTwins_1 : decode cX1_firstTwins 1 = .ok (.istore_n 1, 1) := by decide +kernel
theorem dX1_firstTwins_2 : decode cX1_firstTwins 2 = .ok (.iload_n 1, 1) := by decide +kernel
theorem dX1_firstTwins_3 : decode cX1_firstTwins 3 = .ok (.aload_n 0, 1) := by decide +kernel
theorem dX1_firstTwins_4 : decode cX1_firstTwins 4 = .ok (.getfield 50, 3) := by decide +kernel
theorem dX1_firstTwins_7 : decode cX1_firstTwins 7 = .ok (.if_icmp .ge 50, 3) := by decide +kernel
theorem dX1_firstTwins_10 : decode cX1_firstTwins 10 = .ok (.iload_n 1, 1) := by decide +kernel
theorem dX1_firstTwins_11 : decode cX1_firstTwins 11 = .ok (.iconst 1, 1) := by decide +kernel
theorem dX1_firstTwins_12 : decode cX1_firstTwins 12 = .ok (.iadd, 1) := by decide +kernel
theorem dX1_firstTwins_13 : decode cX1_firstTwins 13 = .ok (.istore_n 2, 1) := by decide +kernel
theorem dX1_firstTwins_14 : decode cX1_firstTwins 14 = .ok (.iload_n 2, 1) := by decide +kernel
theorem dX1_firstTwins_15 : decode cX1_firstTwins 15 = .ok (.aload_n 0, 1) := by decide +kernel
theorem dX1_firstTwins_16 : decode cX1_firstTwins 16 = .ok (.getfield 50, 3) := by decide +kernel
theorem dX1_firstTwins_19 : decode cX1_firstTwins 19 = .ok (.if_icmp .ge 32, 3) := by decide +kernel
theorem dX1_firstTwins_22 : decode cX1_firstTwins 22 = .ok (.aload_n 0, 1) := by decide +kernel
theorem dX1_firstTwins_23 : decode cX1_firstTwins 23 = .ok (.getfield 19, 3) := by decide +kernel
theorem dX1_firstTwins_26 : decode cX1_firstTwins 26 = .ok (.iload_n 1, 1) := by decide +kernel
theorem dX1_firstTwins_27 : decode cX1_firstTwins 27 = .ok (.laload, 1) := by decide +kernel
theorem dX1_firstTwins_28 : decode cX1_firstTwins 28 = .ok (.aload_n 0, 1) := by decide +kernel
theorem dX1_firstTwins_29 : decode cX1_firstTwins 29 = .ok (.getfield 19, 3) := by decide +kernel
theorem dX1_firstTwins_32 : decode cX1_firstTwins 32 = .ok (.iload_n 2, 1) := by decide +kernel
theorem dX1_firstTwins_33 : decode cX1_firstTwins 33 = .ok (.laload, 1) := by decide +kernel
theorem dX1_firstTwins_34 : decode cX1_firstTwins 34 = .ok (.lcmp, 1) := by decide +kernel
theorem dX1_firstTwins_35 : decode cX1_firstTwins 35 = .ok (.ifCond .ne 10, 3) := by decide +kernel
theorem dX1_firstTwins_38 : decode cX1_firstTwins 38 = .ok (.bipush 10, 2) := by decide +kernel
theorem dX1_firstTwins_40 : decode cX1_firstTwins 40 = .ok (.iload_n 1, 1) := by decide +kernel
theorem dX1_firstTwins_41 : decode cX1_firstTwins 41 = .ok (.imul, 1) := by decide +kernel
theorem dX1_firstTwins_42 : decode cX1_firstTwins 42 = .ok (.iload_n 2, 1) := by decide +kernel
theorem dX1_firstTwins_43 : decode cX1_firstTwins 43 = .ok (.iadd, 1) := by decide +kernel
theorem dX1_firstTwins_44 : decode cX1_firstTwins 44 = .ok (.ireturn, 1) := by decide +kernel
theorem dX1_firstTwins_45 : decode cX1_firstTwins 45 = .ok (.iinc 2 1, 3) := by decide +kernel
theorem dX1_firstTwins_48 : decode cX1_firstTwins 48 = .ok (.goto (-34), 3) := by decide +kernel
theorem dX1_firstTwins_51 : decode cX1_firstTwins 51 = .ok (.iinc 1 1, 3) := by decide +kernel
theorem dX1_firstTwins_54 : decode cX1_firstTwins 54 = .ok (.goto (-52), 3) := by decide +kernel
theorem dX1_firstTwins_57 : decode cX1_firstTwins 57 = .ok (.bipush (-2), 2) := by decide +kernel
theorem dX1_firstTwins_59 : decode cX1_firstTwins 59 = .ok (.ireturn, 1) := by decide +kernel
def B_X1_firstTwins_0 (X : Nat × (Nat → Int32)) (J : Nat → zCf) (R : zRt) : zCf := oPI (zj (0)) (oISTORE 0 1 (J 2))
set_option maxRecDepth 100000 in
theorem vb_X1_firstTwins_0 {X : Nat × (Nat → Int32)} {R : zRt} : ∀ ls st h, B_X1_firstTwins_0 X (zV X M_X1_firstTwins (zQm M_X1_firstTwins R) 0 0) R ls st h → zV X M_X1_firstTwins (zQm M_X1_firstTwins R) 0 0 0 ls st h := sd_iconst dX1_firstTwins_0 rfl (sd_istore_n dX1_firstTwins_1 rfl (Nat.le_of_ble_eq_true rfl) (Or.inl rfl) (fun _ _ _ h => h))
def B_X1_firstTwins_2 (X : Nat × (Nat → Int32)) (J : Nat → zCf) (R : zRt) : zCf := oILOAD 1 (oALOAD 0 (oGETI 1 1 (oICGE (J 57) (oILOAD 1 (oPI (zj (1)) (oIADD (oISTORE 1 2 (J 14))))))))
set_option maxRecDepth 100000 in
theorem vb_X1_firstTwins_2 {X : Nat × (Nat → Int32)} {R : zRt} : ∀ ls st h, B_X1_firstTwins_2 X (zV X M_X1_firstTwins (zQm M_X1_firstTwins R) 0 0) R ls st h → zV X M_X1_firstTwins (zQm M_X1_firstTwins R) 0 0 2 ls st h := sd_iload_n dX1_firstTwins_2 rfl (sd_aload_n dX1_firstTwins_3 rfl (sd_geti dX1_firstTwins_4 zCl1 (Nat.le_of_ble_eq_true rfl) lk_RX1_50 (Or.inl rfl) (sd_icge dX1_firstTwins_7 rfl (fun _ _ _ h => h) (sd_iload_n dX1_firstTwins_10 rfl (sd_iconst dX1_firstTwins_11 rfl (sd_iadd dX1_firstTwins_12 (sd_istore_n dX1_firstTwins_13 rfl (Nat.le_of_ble_eq_true rfl) (Or.inl rfl) (fun _ _ _ h => h))))))))
def B_X1_firstTwins_14 (X : Nat × (Nat → Int32)) (J : Nat → zCf) (R : zRt) : zCf := oILOAD 2 (oALOAD 0 (oGETI 1 1 (oICGE (J 51) (oALOAD 0 (oGETR 1 4 (oILOAD 1 (oLALD (oALOAD 0 (oGETR 1 4 (oILOAD 2 (oLALD (oLCMP (oIFNE (J 45) (oPI (zj (10)) (oILOAD 1 (oIMUL (oILOAD 2 (oIADD (oIRET R)))))))))))))))))))
set_option maxRecDepth 100000 in
theorem vb_X1_firstTwins_14 {X : Nat × (Nat → Int32)} {R : zRt} : ∀ ls st h, B_X1_firstTwins_14 X (zV X M_X1_firstTwins (zQm M_X1_firstTwins R) 0 0) R ls st h → zV X M_X1_firstTwins (zQm M_X1_firstTwins R) 0 0 14 ls st h := sd_iload_n dX1_firstTwins_14 rfl (sd_aload_n dX1_firstTwins_15 rfl (sd_geti dX1_firstTwins_16 zCl1 (Nat.le_of_ble_eq_true rfl) lk_RX1_50 (Or.inl rfl) (sd_icge dX1_firstTwins_19 rfl (fun _ _ _ h => h) (sd_aload_n dX1_firstTwins_22 rfl (sd_getr dX1_firstTwins_23 zCl1 (Nat.le_of_ble_eq_true rfl) lk_RX1_19 (Or.inr ⟨_, rfl⟩) (sd_iload_n dX1_firstTwins_26 rfl (sd_lald dX1_firstTwins_27 (sd_aload_n dX1_firstTwins_28 rfl (sd_getr dX1_firstTwins_29 zCl1 (Nat.le_of_ble_eq_true rfl) lk_RX1_19 (Or.inr ⟨_, rfl⟩) (sd_iload_n dX1_firstTwins_32 rfl (sd_lald dX1_firstTwins_33 (sd_lcmp dX1_firstTwins_34 (sd_ifne dX1_firstTwins_35 rfl (fun _ _ _ h => h) (sd_bipush dX1_firstTwins_38 rfl (sd_iload_n dX1_firstTwins_40 rfl (sd_imul dX1_firstTwins_41 (sd_iload_n dX1_firstTwins_42 rfl (sd_iadd dX1_firstTwins_43 (sd_iret dX1_firstTwins_44 rfl (Nat.le_of_ble_eq_true rfl) (Nat.le_of_ble_eq_true rfl))))))))))))))))))))
def B_X1_firstTwins_45 (X : Nat × (Nat → Int32)) (J : Nat → zCf) (R : zRt) : zCf := oIINC 1 2 (zj (1)) (J 14)
set_option maxRecDepth 100000 in
theorem vb_X1_firstTwins_45 {X : Nat × (Nat → Int32)} {R : zRt} : ∀ ls st h, B_X1_firstTwins_45 X (zV X M_X1_firstTwins (zQm M_X1_firstTwins R) 0 0) R ls st h → zV X M_X1_firstTwins (zQm M_X1_firstTwins R) 0 0 45 ls st h := sd_iinc dX1_firstTwins_45 rfl (Nat.le_of_ble_eq_true rfl) (Or.inl rfl) (sd_goto dX1_firstTwins_48 rfl (fun _ _ _ h => h))
def B_X1_firstTwins_51 (X : Nat × (Nat → Int32)) (J : Nat → zCf) (R : zRt) : zCf := oIINC 0 1 (zj (1)) (J 2)
set_option maxRecDepth 100000 in
theorem vb_X1_firstTwins_51 {X : Nat × (Nat → Int32)} {R : zRt} : ∀ ls st h, B_X1_firstTwins_51 X (zV X M_X1_firstTwins (zQm M_X1_firstTwins R) 0 0) R ls st h → zV X M_X1_firstTwins (zQm M_X1_firstTwins R) 0 0 51 ls st h := sd_iinc dX1_firstTwins_51 rfl (Nat.le_of_ble_eq_true rfl) (Or.inl rfl) (sd_goto dX1_firstTwins_54 rfl (fun _ _ _ h => h))
def B_X1_firstTwins_57 (X : Nat × (Nat → Int32)) (J : Nat → zCf) (R : zRt) : zCf := oPI (zj (-2)) (oIRET R)
set_option maxRecDepth 100000 in
theorem vb_X1_firstTwins_57 {X : Nat × (Nat → Int32)} {R : zRt} : ∀ ls st h, B_X1_firstTwins_57 X (zV X M_X1_firstTwins (zQm M_X1_firstTwins R) 0 0) R ls st h → zV X M_X1_firstTwins (zQm M_X1_firstTwins R) 0 0 57 ls st h := sd_bipush dX1_firstTwins_57 rfl (sd_iret dX1_firstTwins_59 rfl (Nat.le_of_ble_eq_true rfl) (Nat.le_of_ble_eq_true rfl))
theorem dX1_cellMoved_0 : decode cX1_cellMoved 0 = .ok (.aload_n 0, 1) := by decide +kernel
theorem dX1_cellMoved_1 : decode cX1_cellMoved 1 = .ok (.getfield 15, 3) := by decide +kernel
theorem dX1_cellMoved_4 : decode cX1_cellMoved 4 = .ok (.iload_n 1, 1) := by decide +kernel
theorem dX1_cellMoved_5 : decode cX1_cellMoved 5 = .ok (.iaload, 1) := by decide +kernel
theorem dX1_cellMoved_6 : decode cX1_cellMoved 6 = .ok (.tableswitch 56 0 2 #[26, 37, 46], 26) := by decide +kernel
theorem dX1_cellMoved_32 : decode cX1_cellMoved 32 = .ok (.iload_n 2, 1) := by decide +kernel
theorem dX1_cellMoved_33 : decode cX1_cellMoved 33 = .ok (.iconst 2, 1) := by decide +kernel
theorem dX1_cellMoved_34 : decode cX1_cellMoved 34 = .ok (.iload_n 3, 1) := by decide +kernel
theorem dX1_cellMoved_35 : decode cX1_cellMoved 35 = .ok (.imul, 1) := by decide +kernel
theorem dX1_cellMoved_36 : decode cX1_cellMoved 36 = .ok (.iadd, 1) := by decide +kernel
theorem dX1_cellMoved_37 : decode cX1_cellMoved 37 = .ok (.bipush 12, 2) := by decide +kernel
theorem dX1_cellMoved_39 : decode cX1_cellMoved 39 = .ok (.invokestatic 66, 3) := by decide +kernel
theorem dX1_cellMoved_42 : decode cX1_cellMoved 42 = .ok (.ireturn, 1) := by decide +kernel
theorem dX1_cellMoved_43 : decode cX1_cellMoved 43 = .ok (.iload_n 2, 1) := by decide +kernel
theorem dX1_cellMoved_44 : decode cX1_cellMoved 44 = .ok (.iload_n 3, 1) := by decide +kernel
theorem dX1_cellMoved_45 : decode cX1_cellMoved 45 = .ok (.iadd, 1) := by decide +kernel
theorem dX1_cellMoved_46 : decode cX1_cellMoved 46 = .ok (.bipush 12, 2) := by decide +kernel
theorem dX1_cellMoved_48 : decode cX1_cellMoved 48 = .ok (.invokestatic 66, 3) := by decide +kernel
theorem dX1_cellMoved_51 : decode cX1_cellMoved 51 = .ok (.ireturn, 1) := by decide +kernel
theorem dX1_cellMoved_52 : decode cX1_cellMoved 52 = .ok (.iload_n 2, 1) := by decide +kernel
theorem dX1_cellMoved_53 : decode cX1_cellMoved 53 = .ok (.iload 4, 2) := by decide +kernel
theorem dX1_cellMoved_55 : decode cX1_cellMoved 55 = .ok (.iadd, 1) := by decide +kernel
theorem dX1_cellMoved_56 : decode cX1_cellMoved 56 = .ok (.bipush 12, 2) := by decide +kernel
theorem dX1_cellMoved_58 : decode cX1_cellMoved 58 = .ok (.invokestatic 66, 3) := by decide +kernel
theorem dX1_cellMoved_61 : decode cX1_cellMoved 61 = .ok (.ireturn, 1) := by decide +kernel
theorem dX1_cellMoved_62 : decode cX1_cellMoved 62 = .ok (.iload_n 2, 1) := by decide +kernel
theorem dX1_cellMoved_63 : decode cX1_cellMoved 63 = .ok (.ireturn, 1) := by decide +kernel
def B_X1_cellMoved_0 (X : Nat × (Nat → Int32)) (J : Nat → zCf) (R : zRt) : zCf := oALOAD 0 (oGETR 1 3 (oILOAD 1 (oIALD (oTSW (0) 3 (fun i => J ([32, 43, 52].getD i 0)) (J 62)))))
set_option maxRecDepth 100000 in
theorem vb_X1_cellMoved_0 {X : Nat × (Nat → Int32)} {R : zRt} : ∀ ls st h, B_X1_cellMoved_0 X (zV X M_X1_cellMoved (zQm M_X1_cellMoved R) 0 0) R ls st h → zV X M_X1_cellMoved (zQm M_X1_cellMoved R) 0 0 0 ls st h := sd_aload_n dX1_cellMoved_0 rfl (sd_getr dX1_cellMoved_1 zCl1 (Nat.le_of_ble_eq_true rfl) lk_RX1_15 (Or.inr ⟨_, rfl⟩) (sd_iload_n dX1_cellMoved_4 rfl (sd_iald dX1_cellMoved_5 (sd_tsw (tg := fun i => [32, 43, 52].getD i 0) dX1_cellMoved_6 rfl rfl (fun i hi => by
    match i, hi with
    | 0, _ => exact ⟨_, rfl, rfl⟩
    | 1, _ => exact ⟨_, rfl, rfl⟩
    | 2, _ => exact ⟨_, rfl, rfl⟩
    | i + 3, hi => omega) (fun _ _ _ h => h) (fun _ _ _ _ _ h => h)))))
def B_X1_cellMoved_32 (X : Nat × (Nat → Int32)) (J : Nat → zCf) (R : zRt) : zCf := oILOAD 2 (oPI (zj (2)) (oILOAD 3 (oIMUL (oIADD (oPI (zj (12)) (oINS2 X M_J9_floorMod_7cf53 (oIRET R)))))))
set_option maxRecDepth 100000 in
theorem vb_X1_cellMoved_32 {X : Nat × (Nat → Int32)} {R : zRt} : ∀ ls st h, B_X1_cellMoved_32 X (zV X M_X1_cellMoved (zQm M_X1_cellMoved R) 0 0) R ls st h → zV X M_X1_cellMoved (zQm M_X1_cellMoved R) 0 0 32 ls st h := sd_iload_n dX1_cellMoved_32 rfl (sd_iconst dX1_cellMoved_33 rfl (sd_iload_n dX1_cellMoved_34 rfl (sd_imul dX1_cellMoved_35 (sd_iadd dX1_cellMoved_36 (sd_bipush dX1_cellMoved_37 rfl (sd_ins2 dX1_cellMoved_39 ms_J9_floorMod_7cf53 na_J9_floorMod_7cf53 ml_RX1_66 ⟨⟨Nat.le_of_ble_eq_true rfl, Nat.le_of_ble_eq_true rfl⟩, ⟨Nat.le_of_ble_eq_true rfl, Nat.le_of_ble_eq_true rfl⟩⟩ (sd_iret dX1_cellMoved_42 rfl (Nat.le_of_ble_eq_true rfl) (Nat.le_of_ble_eq_true rfl))))))))
def B_X1_cellMoved_43 (X : Nat × (Nat → Int32)) (J : Nat → zCf) (R : zRt) : zCf := oILOAD 2 (oILOAD 3 (oIADD (oPI (zj (12)) (oINS2 X M_J9_floorMod_7cf53 (oIRET R)))))
set_option maxRecDepth 100000 in
theorem vb_X1_cellMoved_43 {X : Nat × (Nat → Int32)} {R : zRt} : ∀ ls st h, B_X1_cellMoved_43 X (zV X M_X1_cellMoved (zQm M_X1_cellMoved R) 0 0) R ls st h → zV X M_X1_cellMoved (zQm M_X1_cellMoved R) 0 0 43 ls st h := sd_iload_n dX1_cellMoved_43 rfl (sd_iload_n dX1_cellMoved_44 rfl (sd_iadd dX1_cellMoved_45 (sd_bipush dX1_cellMoved_46 rfl (sd_ins2 dX1_cellMoved_48 ms_J9_floorMod_7cf53 na_J9_floorMod_7cf53 ml_RX1_66 ⟨⟨Nat.le_of_ble_eq_true rfl, Nat.le_of_ble_eq_true rfl⟩, ⟨Nat.le_of_ble_eq_true rfl, Nat.le_of_ble_eq_true rfl⟩⟩ (sd_iret dX1_cellMoved_51 rfl (Nat.le_of_ble_eq_true rfl) (Nat.le_of_ble_eq_true rfl))))))
def B_X1_cellMoved_52 (X : Nat × (Nat → Int32)) (J : Nat → zCf) (R : zRt) : zCf := oILOAD 2 (oILOAD 4 (oIADD (oPI (zj (12)) (oINS2 X M_J9_floorMod_7cf53 (oIRET R)))))
set_option maxRecDepth 100000 in
theorem vb_X1_cellMoved_52 {X : Nat × (Nat → Int32)} {R : zRt} : ∀ ls st h, B_X1_cellMoved_52 X (zV X M_X1_cellMoved (zQm M_X1_cellMoved R) 0 0) R ls st h → zV X M_X1_cellMoved (zQm M_X1_cellMoved R) 0 0 52 ls st h := sd_iload_n dX1_cellMoved_52 rfl (sd_iload dX1_cellMoved_53 (sd_iadd dX1_cellMoved_55 (sd_bipush dX1_cellMoved_56 rfl (sd_ins2 dX1_cellMoved_58 ms_J9_floorMod_7cf53 na_J9_floorMod_7cf53 ml_RX1_66 ⟨⟨Nat.le_of_ble_eq_true rfl, Nat.le_of_ble_eq_true rfl⟩, ⟨Nat.le_of_ble_eq_true rfl, Nat.le_of_ble_eq_true rfl⟩⟩ (sd_iret dX1_cellMoved_61 rfl (Nat.le_of_ble_eq_true rfl) (Nat.le_of_ble_eq_true rfl))))))
def B_X1_cellMoved_62 (X : Nat × (Nat → Int32)) (J : Nat → zCf) (R : zRt) : zCf := oILOAD 2 (oIRET R)
set_option maxRecDepth 100000 in
theorem vb_X1_cellMoved_62 {X : Nat × (Nat → Int32)} {R : zRt} : ∀ ls st h, B_X1_cellMoved_62 X (zV X M_X1_cellMoved (zQm M_X1_cellMoved R) 0 0) R ls st h → zV X M_X1_cellMoved (zQm M_X1_cellMoved R) 0 0 62 ls st h := sd_iload_n dX1_cellMoved_62 rfl (sd_iret dX1_cellMoved_63 rfl (Nat.le_of_ble_eq_true rfl) (Nat.le_of_ble_eq_true rfl))
theorem dX1_allAfter_0 : decode cX1_allAfter 0 = .ok (.iconst 0, 1) := by decide +kernel
theorem dX1_allAfter_1 : decode cX1_allAfter 1 = .ok (.istore_n 3, 1) := by decide +kernel
theorem dX1_allAfter_2 : decode cX1_allAfter 2 = .ok (.iload_n 3, 1) := by decide +kernel
theorem dX1_allAfter_3 : decode cX1_allAfter 3 = .ok (.aload_n 0, 1) := by decide +kernel
theorem dX1_allAfter_4 : decode cX1_allAfter 4 = .ok (.getfield 50, 3) := by decide +kernel
theorem dX1_allAfter_7 : decode cX1_allAfter 7 = .ok (.if_icmp .ge 44, 3) := by decide +kernel
theorem dX1_allAfter_10 : decode cX1_allAfter 10 = .ok (.aload_n 0, 1) := by decide +kernel
theorem dX1_allAfter_11 : decode cX1_allAfter 11 = .ok (.getfield 28, 3) := by decide +kernel
theorem dX1_allAfter_14 : decode cX1_allAfter 14 = .ok (.iload_n 3, 1) := by decide +kernel
theorem dX1_allAfter_15 : decode cX1_allAfter 15 = .ok (.iaload, 1) := by decide +kernel
theorem dX1_allAfter_16 : decode cX1_allAfter 16 = .ok (.bipush (-2), 2) := by decide +kernel
theorem dX1_allAfter_18 : decode cX1_allAfter 18 = .ok (.if_icmp .eq 27, 3) := by decide +kernel
theorem dX1_allAfter_21 : decode cX1_allAfter 21 = .ok (.aload_n 0, 1) := by decide +kernel
theorem dX1_allAfter_22 : decode cX1_allAfter 22 = .ok (.iload_n 3, 1) := by decide +kernel
theorem dX1_allAfter_23 : decode cX1_allAfter 23 = .ok (.aload_n 0, 1) := by decide +kernel
theorem dX1_allAfter_24 : decode cX1_allAfter 24 = .ok (.getfield 22, 3) := by decide +kernel
theorem dX1_allAfter_27 : decode cX1_allAfter 27 = .ok (.iload_n 3, 1) := by decide +kernel
theorem dX1_allAfter_28 : decode cX1_allAfter 28 = .ok (.iaload, 1) := by decide +kernel
theorem dX1_allAfter_29 : decode cX1_allAfter 29 = .ok (.iload_n 1, 1) := by decide +kernel
theorem dX1_allAfter_30 : decode cX1_allAfter 30 = .ok (.iload_n 2, 1) := by decide +kernel
theorem dX1_allAfter_31 : decode cX1_allAfter 31 = .ok (.invokevirtual 72, 3) := by decide +kernel
theorem dX1_allAfter_34 : decode cX1_allAfter 34 = .ok (.aload_n 0, 1) := by decide +kernel
theorem dX1_allAfter_35 : decode cX1_allAfter 35 = .ok (.getfield 28, 3) := by decide +kernel
theorem dX1_allAfter_38 : decode cX1_allAfter 38 = .ok (.iload_n 3, 1) := by decide +kernel
theorem dX1_allAfter_39 : decode cX1_allAfter 39 = .ok (.iaload, 1) := by decide +kernel
theorem dX1_allAfter_40 : decode cX1_allAfter 40 = .ok (.if_icmp .eq 5, 3) := by decide +kernel
theorem dX1_allAfter_43 : decode cX1_allAfter 43 = .ok (.iconst 0, 1) := by decide +kernel
theorem dX1_allAfter_44 : decode cX1_allAfter 44 = .ok (.ireturn, 1) := by decide +kernel
theorem dX1_allAfter_45 : decode cX1_allAfter 45 = .ok (.iinc 3 1, 3) := by decide +kernel
theorem dX1_allAfter_48 : decode cX1_allAfter 48 = .ok (.goto (-46), 3) := by decide +kernel
theorem dX1_allAfter_51 : decode cX1_allAfter 51 = .ok (.iconst 1, 1) := by decide +kernel
theorem dX1_allAfter_52 : decode cX1_allAfter 52 = .ok (.ireturn, 1) := by decide +kernel
def B_X1_allAfter_0 (X : Nat × (Nat → Int32)) (J : Nat → zCf) (R : zRt) : zCf := oPI (zj (0)) (oISTORE 2 3 (J 2))
set_option maxRecDepth 100000 in
theorem vb_X1_allAfter_0 {X : Nat × (Nat → Int32)} {R : zRt} : ∀ ls st h, B_X1_allAfter_0 X (zV X M_X1_allAfter (zQm M_X1_allAfter R) 0 0) R ls st h → zV X M_X1_allAfter (zQm M_X1_allAfter R) 0 0 0 ls st h := sd_iconst dX1_allAfter_0 rfl (sd_istore_n dX1_allAfter_1 rfl (Nat.le_of_ble_eq_true rfl) (Or.inl rfl) (fun _ _ _ h => h))
def B_X1_allAfter_2 (X : Nat × (Nat → Int32)) (J : Nat → zCf) (R : zRt) : zCf := oILOAD 3 (oALOAD 0 (oGETI 1 1 (oICGE (J 51) (oALOAD 0 (oGETR 1 7 (oILOAD 3 (oIALD (oPI (zj (-2)) (oICEQ (J 45) (oALOAD 0 (oILOAD 3 (oALOAD 0 (oGETR 1 5 (oILOAD 3 (oIALD (oILOAD 1 (oILOAD 2 (oINV4 X M_X1_cellMoved 1 (oALOAD 0 (oGETR 1 7 (oILOAD 3 (oIALD (oICEQ (J 45) (oPI (zj (0)) (oZRET R)))))))))))))))))))))))))
set_option maxRecDepth 100000 in
theorem vb_X1_allAfter_2 {X : Nat × (Nat → Int32)} {R : zRt} : ∀ ls st h, B_X1_allAfter_2 X (zV X M_X1_allAfter (zQm M_X1_allAfter R) 0 0) R ls st h → zV X M_X1_allAfter (zQm M_X1_allAfter R) 0 0 2 ls st h := sd_iload_n dX1_allAfter_2 rfl (sd_aload_n dX1_allAfter_3 rfl (sd_geti dX1_allAfter_4 zCl1 (Nat.le_of_ble_eq_true rfl) lk_RX1_50 (Or.inl rfl) (sd_icge dX1_allAfter_7 rfl (fun _ _ _ h => h) (sd_aload_n dX1_allAfter_10 rfl (sd_getr dX1_allAfter_11 zCl1 (Nat.le_of_ble_eq_true rfl) lk_RX1_28 (Or.inr ⟨_, rfl⟩) (sd_iload_n dX1_allAfter_14 rfl (sd_iald dX1_allAfter_15 (sd_bipush dX1_allAfter_16 rfl (sd_iceq dX1_allAfter_18 rfl (fun _ _ _ h => h) (sd_aload_n dX1_allAfter_21 rfl (sd_iload_n dX1_allAfter_22 rfl (sd_aload_n dX1_allAfter_23 rfl (sd_getr dX1_allAfter_24 zCl1 (Nat.le_of_ble_eq_true rfl) lk_RX1_22 (Or.inr ⟨_, rfl⟩) (sd_iload_n dX1_allAfter_27 rfl (sd_iald dX1_allAfter_28 (sd_iload_n dX1_allAfter_29 rfl (sd_iload_n dX1_allAfter_30 rfl (sd_inv4 dX1_allAfter_31 rfl mv_X1_cellMoved na_X1_cellMoved ml_RX1_72 ⟨⟨Nat.le_of_ble_eq_true rfl, Nat.le_of_ble_eq_true rfl⟩, ⟨Nat.le_of_ble_eq_true rfl, Nat.le_of_ble_eq_true rfl⟩⟩ (sd_aload_n dX1_allAfter_34 rfl (sd_getr dX1_allAfter_35 zCl1 (Nat.le_of_ble_eq_true rfl) lk_RX1_28 (Or.inr ⟨_, rfl⟩) (sd_iload_n dX1_allAfter_38 rfl (sd_iald dX1_allAfter_39 (sd_iceq dX1_allAfter_40 rfl (fun _ _ _ h => h) (sd_iconst dX1_allAfter_43 rfl (sd_zret dX1_allAfter_44 rfl (Nat.le_of_ble_eq_true rfl) (Nat.le_of_ble_eq_true rfl))))))))))))))))))))))))))
def B_X1_allAfter_45 (X : Nat × (Nat → Int32)) (J : Nat → zCf) (R : zRt) : zCf := oIINC 2 3 (zj (1)) (J 2)
set_option maxRecDepth 100000 in
theorem vb_X1_allAfter_45 {X : Nat × (Nat → Int32)} {R : zRt} : ∀ ls st h, B_X1_allAfter_45 X (zV X M_X1_allAfter (zQm M_X1_allAfter R) 0 0) R ls st h → zV X M_X1_allAfter (zQm M_X1_allAfter R) 0 0 45 ls st h := sd_iinc dX1_allAfter_45 rfl (Nat.le_of_ble_eq_true rfl) (Or.inl rfl) (sd_goto dX1_allAfter_48 rfl (fun _ _ _ h => h))
def B_X1_allAfter_51 (X : Nat × (Nat → Int32)) (J : Nat → zCf) (R : zRt) : zCf := oPI (zj (1)) (oZRET R)
set_option maxRecDepth 100000 in
theorem vb_X1_allAfter_51 {X : Nat × (Nat → Int32)} {R : zRt} : ∀ ls st h, B_X1_allAfter_51 X (zV X M_X1_allAfter (zQm M_X1_allAfter R) 0 0) R ls st h → zV X M_X1_allAfter (zQm M_X1_allAfter R) 0 0 51 ls st h := sd_iconst dX1_allAfter_51 rfl (sd_zret dX1_allAfter_52 rfl (Nat.le_of_ble_eq_true rfl) (Nat.le_of_ble_eq_true rfl))
theorem dX1_movesNone_0 : decode cX1_movesNone 0 = .ok (.iconst 0, 1) := by decide +kernel
theorem dX1_movesNone_1 : decode cX1_movesNone 1 = .ok (.istore_n 3, 1) := by decide +kernel
theorem dX1_movesNone_2 : decode cX1_movesNone 2 = .ok (.iload_n 3, 1) := by decide +kernel
theorem dX1_movesNone_3 : decode cX1_movesNone 3 = .ok (.aload_n 0, 1) := by decide +kernel
theorem dX1_movesNone_4 : decode cX1_movesNone 4 = .ok (.getfield 50, 3) := by decide +kernel
theorem dX1_movesNone_7 : decode cX1_movesNone 7 = .ok (.if_icmp .ge 22, 3) := by decide +kernel
theorem dX1_movesNone_10 : decode cX1_movesNone 10 = .ok (.aload_n 0, 1) := by decide +kernel
theorem dX1_movesNone_11 : decode cX1_movesNone 11 = .ok (.iload_n 3, 1) := by decide +kernel
theorem dX1_movesNone_12 : decode cX1_movesNone 12 = .ok (.iconst 0, 1) := by decide +kernel
theorem dX1_movesNone_13 : decode cX1_movesNone 13 = .ok (.iload_n 1, 1) := by decide +kernel
theorem dX1_movesNone_14 : decode cX1_movesNone 14 = .ok (.iload_n 2, 1) := by decide +kernel
theorem dX1_movesNone_15 : decode cX1_movesNone 15 = .ok (.invokevirtual 72, 3) := by decide +kernel
theorem dX1_movesNone_18 : decode cX1_movesNone 18 = .ok (.ifCond .eq 5, 3) := by decide +kernel
theorem dX1_movesNone_21 : decode cX1_movesNone 21 = .ok (.iconst 0, 1) := by decide +kernel
theorem dX1_movesNone_22 : decode cX1_movesNone 22 = .ok (.ireturn, 1) := by decide +kernel
theorem dX1_movesNone_23 : decode cX1_movesNone 23 = .ok (.iinc 3 1, 3) := by decide +kernel
theorem dX1_movesNone_26 : decode cX1_movesNone 26 = .ok (.goto (-24), 3) := by decide +kernel
theorem dX1_movesNone_29 : decode cX1_movesNone 29 = .ok (.iconst 1, 1) := by decide +kernel
theorem dX1_movesNone_30 : decode cX1_movesNone 30 = .ok (.ireturn, 1) := by decide +kernel
def B_X1_movesNone_0 (X : Nat × (Nat → Int32)) (J : Nat → zCf) (R : zRt) : zCf := oPI (zj (0)) (oISTORE 2 3 (J 2))
set_option maxRecDepth 100000 in
theorem vb_X1_movesNone_0 {X : Nat × (Nat → Int32)} {R : zRt} : ∀ ls st h, B_X1_movesNone_0 X (zV X M_X1_movesNone (zQm M_X1_movesNone R) 0 0) R ls st h → zV X M_X1_movesNone (zQm M_X1_movesNone R) 0 0 0 ls st h := sd_iconst dX1_movesNone_0 rfl (sd_istore_n dX1_movesNone_1 rfl (Nat.le_of_ble_eq_true rfl) (Or.inl rfl) (fun _ _ _ h => h))
def B_X1_movesNone_2 (X : Nat × (Nat → Int32)) (J : Nat → zCf) (R : zRt) : zCf := oILOAD 3 (oALOAD 0 (oGETI 1 1 (oICGE (J 29) (oALOAD 0 (oILOAD 3 (oPI (zj (0)) (oILOAD 1 (oILOAD 2 (oINV4 X M_X1_cellMoved 1 (oIFEQ (J 23) (oPI (zj (0)) (oZRET R))))))))))))
set_option maxRecDepth 100000 in
theorem vb_X1_movesNone_2 {X : Nat × (Nat → Int32)} {R : zRt} : ∀ ls st h, B_X1_movesNone_2 X (zV X M_X1_movesNone (zQm M_X1_movesNone R) 0 0) R ls st h → zV X M_X1_movesNone (zQm M_X1_movesNone R) 0 0 2 ls st h := sd_iload_n dX1_movesNone_2 rfl (sd_aload_n dX1_movesNone_3 rfl (sd_geti dX1_movesNone_4 zCl1 (Nat.le_of_ble_eq_true rfl) lk_RX1_50 (Or.inl rfl) (sd_icge dX1_movesNone_7 rfl (fun _ _ _ h => h) (sd_aload_n dX1_movesNone_10 rfl (sd_iload_n dX1_movesNone_11 rfl (sd_iconst dX1_movesNone_12 rfl (sd_iload_n dX1_movesNone_13 rfl (sd_iload_n dX1_movesNone_14 rfl (sd_inv4 dX1_movesNone_15 rfl mv_X1_cellMoved na_X1_cellMoved ml_RX1_72 ⟨⟨Nat.le_of_ble_eq_true rfl, Nat.le_of_ble_eq_true rfl⟩, ⟨Nat.le_of_ble_eq_true rfl, Nat.le_of_ble_eq_true rfl⟩⟩ (sd_ifeq dX1_movesNone_18 rfl (fun _ _ _ h => h) (sd_iconst dX1_movesNone_21 rfl (sd_zret dX1_movesNone_22 rfl (Nat.le_of_ble_eq_true rfl) (Nat.le_of_ble_eq_true rfl)))))))))))))
def B_X1_movesNone_23 (X : Nat × (Nat → Int32)) (J : Nat → zCf) (R : zRt) : zCf := oIINC 2 3 (zj (1)) (J 2)
set_option maxRecDepth 100000 in
theorem vb_X1_movesNone_23 {X : Nat × (Nat → Int32)} {R : zRt} : ∀ ls st h, B_X1_movesNone_23 X (zV X M_X1_movesNone (zQm M_X1_movesNone R) 0 0) R ls st h → zV X M_X1_movesNone (zQm M_X1_movesNone R) 0 0 23 ls st h := sd_iinc dX1_movesNone_23 rfl (Nat.le_of_ble_eq_true rfl) (Or.inl rfl) (sd_goto dX1_movesNone_26 rfl (fun _ _ _ h => h))
def B_X1_movesNone_29 (X : Nat × (Nat → Int32)) (J : Nat → zCf) (R : zRt) : zCf := oPI (zj (1)) (oZRET R)
set_option maxRecDepth 100000 in
theorem vb_X1_movesNone_29 {X : Nat × (Nat → Int32)} {R : zRt} : ∀ ls st h, B_X1_movesNone_29 X (zV X M_X1_movesNone (zQm M_X1_movesNone R) 0 0) R ls st h → zV X M_X1_movesNone (zQm M_X1_movesNone R) 0 0 29 ls st h := sd_iconst dX1_movesNone_29 rfl (sd_zret dX1_movesNone_30 rfl (Nat.le_of_ble_eq_true rfl) (Nat.le_of_ble_eq_true rfl))
