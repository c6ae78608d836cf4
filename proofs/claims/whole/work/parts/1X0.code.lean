theorem dX0_forget_0 : decode cX0_forget 0 = .ok (.aload_n 0, 1) := by decide +kernel
theorem dX0_forget_1 : decode cX0_forget 1 = .ok (.iconst 0, 1) := by decide +kernel
theorem dX0_forget_2 : decode cX0_forget 2 = .ok (.putfield 21, 3) := by decide +kernel
theorem dX0_forget_5 : decode cX0_forget 5 = .ok (.aload_n 0, 1) := by decide +kernel
theorem dX0_forget_6 : decode cX0_forget 6 = .ok (.iconst 0, 1) := by decide +kernel
theorem dX0_forget_7 : decode cX0_forget 7 = .ok (.putfield 25, 3) := by decide +kernel
theorem dX0_forget_10 : decode cX0_forget 10 = .ok (.aload_n 0, 1) := by decide +kernel
theorem dX0_forget_11 : decode cX0_forget 11 = .ok (.iconst 0, 1) := by decide +kernel
theorem dX0_forget_12 : decode cX0_forget 12 = .ok (.putfield 28, 3) := by decide +kernel
theorem dX0_forget_15 : decode cX0_forget 15 = .ok (.return_, 1) := by decide +kernel
def B_X0_forget_0 (X : Nat × (Nat → Int32)) (J : Nat → zCf) (R : zRt) : zCf := oALOAD 0 (oPI (zj (0)) (oPUTI 0 2 (oALOAD 0 (oPI (zj (0)) (oPUTI 0 3 (oALOAD 0 (oPI (zj (0)) (oPUTI 0 4 (oVRET R)))))))))
set_option maxRecDepth 100000 in
theorem vb_X0_forget_0 {X : Nat × (Nat → Int32)} {R : zRt} : ∀ ls st h, B_X0_forget_0 X (zV X M_X0_forget (zQm M_X0_forget R) 0 0) R ls st h → zV X M_X0_forget (zQm M_X0_forget R) 0 0 0 ls st h := sd_aload_n dX0_forget_0 rfl (sd_iconst dX0_forget_1 rfl (sd_puti dX0_forget_2 zCl0 (Nat.le_of_ble_eq_true rfl) lk_RX0_21 rfl (Or.inl rfl) (sd_aload_n dX0_forget_5 rfl (sd_iconst dX0_forget_6 rfl (sd_puti dX0_forget_7 zCl0 (Nat.le_of_ble_eq_true rfl) lk_RX0_25 rfl (Or.inl rfl) (sd_aload_n dX0_forget_10 rfl (sd_iconst dX0_forget_11 rfl (sd_puti dX0_forget_12 zCl0 (Nat.le_of_ble_eq_true rfl) lk_RX0_28 rfl (Or.inl rfl) (sd_vret dX0_forget_15 rfl (Nat.le_of_ble_eq_true rfl) (Nat.le_of_ble_eq_true rfl))))))))))
theorem dX0_keepAct_0 : decode cX0_keepAct 0 = .ok (.aload_n 1, 1) := by decide +kernel
theorem dX0_keepAct_1 : decode cX0_keepAct 1 = .ok (.iconst 0, 1) := by decide +kernel
theorem dX0_keepAct_2 : decode cX0_keepAct 2 = .ok (.aload_n 0, 1) := by decide +kernel
theorem dX0_keepAct_3 : decode cX0_keepAct 3 = .ok (.getfield 15, 3) := by decide +kernel
theorem dX0_keepAct_6 : decode cX0_keepAct 6 = .ok (.aload_n 0, 1) := by decide +kernel
theorem dX0_keepAct_7 : decode cX0_keepAct 7 = .ok (.getfield 25, 3) := by decide +kernel
theorem dX0_keepAct_10 : decode cX0_keepAct 10 = .ok (.aaload, 1) := by decide +kernel
theorem dX0_keepAct_11 : decode cX0_keepAct 11 = .ok (.iconst 0, 1) := by decide +kernel
theorem dX0_keepAct_12 : decode cX0_keepAct 12 = .ok (.bipush 15, 2) := by decide +kernel
theorem dX0_keepAct_14 : decode cX0_keepAct 14 = .ok (.invokestatic 31, 3) := by decide +kernel
theorem dX0_keepAct_17 : decode cX0_keepAct 17 = .ok (.aload_n 0, 1) := by decide +kernel
theorem dX0_keepAct_18 : decode cX0_keepAct 18 = .ok (.aload_n 0, 1) := by decide +kernel
theorem dX0_keepAct_19 : decode cX0_keepAct 19 = .ok (.getfield 25, 3) := by decide +kernel
theorem dX0_keepAct_22 : decode cX0_keepAct 22 = .ok (.iconst 1, 1) := by decide +kernel
theorem dX0_keepAct_23 : decode cX0_keepAct 23 = .ok (.iadd, 1) := by decide +kernel
theorem dX0_keepAct_24 : decode cX0_keepAct 24 = .ok (.bipush 16, 2) := by decide +kernel
theorem dX0_keepAct_26 : decode cX0_keepAct 26 = .ok (.irem, 1) := by decide +kernel
theorem dX0_keepAct_27 : decode cX0_keepAct 27 = .ok (.putfield 25, 3) := by decide +kernel
theorem dX0_keepAct_30 : decode cX0_keepAct 30 = .ok (.aload_n 0, 1) := by decide +kernel
theorem dX0_keepAct_31 : decode cX0_keepAct 31 = .ok (.aload_n 0, 1) := by decide +kernel
theorem dX0_keepAct_32 : decode cX0_keepAct 32 = .ok (.getfield 21, 3) := by decide +kernel
theorem dX0_keepAct_35 : decode cX0_keepAct 35 = .ok (.iconst 1, 1) := by decide +kernel
theorem dX0_keepAct_36 : decode cX0_keepAct 36 = .ok (.iadd, 1) := by decide +kernel
theorem dX0_keepAct_37 : decode cX0_keepAct 37 = .ok (.bipush 16, 2) := by decide +kernel
theorem dX0_keepAct_39 : decode cX0_keepAct 39 = .ok (.invokestatic 37, 3) := by decide +kernel
theorem dX0_keepAct_42 : decode cX0_keepAct 42 = .ok (.putfield 21, 3) := by decide +kernel
theorem dX0_keepAct_45 : decode cX0_keepAct 45 = .ok (.return_, 1) := by decide +kernel
def B_X0_keepAct_0 (X : Nat × (Nat → Int32)) (J : Nat → zCf) (R : zRt) : zCf := oALOAD 1 (oPI (zj (0)) (oALOAD 0 (oGETR 0 0 (oALOAD 0 (oGETI 0 3 (oAALD (oPI (zj (0)) (oPI (zj (15)) (oCOPY (oALOAD 0 (oALOAD 0 (oGETI 0 3 (oPI (zj (1)) (oIADD (oPI (zj (16)) (oIREM (oPUTI 0 3 (oALOAD 0 (oALOAD 0 (oGETI 0 2 (oPI (zj (1)) (oIADD (oPI (zj (16)) (oINS2 X M_J9_min_7cf53 (oPUTI 0 2 (oVRET R))))))))))))))))))))))))))
set_option maxRecDepth 100000 in
theorem vb_X0_keepAct_0 {X : Nat × (Nat → Int32)} {R : zRt} : ∀ ls st h, B_X0_keepAct_0 X (zV X M_X0_keepAct (zQm M_X0_keepAct R) 0 0) R ls st h → zV X M_X0_keepAct (zQm M_X0_keepAct R) 0 0 0 ls st h := sd_aload_n dX0_keepAct_0 rfl (sd_iconst dX0_keepAct_1 rfl (sd_aload_n dX0_keepAct_2 rfl (sd_getr dX0_keepAct_3 zCl0 (Nat.le_of_ble_eq_true rfl) lk_RX0_15 (Or.inr ⟨_, rfl⟩) (sd_aload_n dX0_keepAct_6 rfl (sd_geti dX0_keepAct_7 zCl0 (Nat.le_of_ble_eq_true rfl) lk_RX0_25 (Or.inl rfl) (sd_aald dX0_keepAct_10 (sd_iconst dX0_keepAct_11 rfl (sd_bipush dX0_keepAct_12 rfl (sd_copy dX0_keepAct_14 (zmt (zt4 (i := 193) rfl) rfl) (zmt (zt4 (i := 195) rfl) rfl) (zmt (zt4 (i := 194) rfl) rfl) (zmt (zt1 (i := 17) rfl) rfl) (Nat.le_of_ble_eq_true rfl) (Nat.le_of_ble_eq_true rfl) (sd_aload_n dX0_keepAct_17 rfl (sd_aload_n dX0_keepAct_18 rfl (sd_geti dX0_keepAct_19 zCl0 (Nat.le_of_ble_eq_true rfl) lk_RX0_25 (Or.inl rfl) (sd_iconst dX0_keepAct_22 rfl (sd_iadd dX0_keepAct_23 (sd_bipush dX0_keepAct_24 rfl (sd_irem dX0_keepAct_26 (sd_puti dX0_keepAct_27 zCl0 (Nat.le_of_ble_eq_true rfl) lk_RX0_25 rfl (Or.inl rfl) (sd_aload_n dX0_keepAct_30 rfl (sd_aload_n dX0_keepAct_31 rfl (sd_geti dX0_keepAct_32 zCl0 (Nat.le_of_ble_eq_true rfl) lk_RX0_21 (Or.inl rfl) (sd_iconst dX0_keepAct_35 rfl (sd_iadd dX0_keepAct_36 (sd_bipush dX0_keepAct_37 rfl (sd_ins2 dX0_keepAct_39 ms_J9_min_7cf53 na_J9_min_7cf53 ml_RX0_37 ⟨⟨Nat.le_of_ble_eq_true rfl, Nat.le_of_ble_eq_true rfl⟩, ⟨Nat.le_of_ble_eq_true rfl, Nat.le_of_ble_eq_true rfl⟩⟩ (sd_puti dX0_keepAct_42 zCl0 (Nat.le_of_ble_eq_true rfl) lk_RX0_21 rfl (Or.inl rfl) (sd_vret dX0_keepAct_45 rfl (Nat.le_of_ble_eq_true rfl) (Nat.le_of_ble_eq_true rfl)))))))))))))))))))))))))))
theorem dX0_undoInto_0 : decode cX0_undoInto 0 = .ok (.aload_n 0, 1) := by decide +kernel
theorem dX0_undoInto_1 : decode cX0_undoInto 1 = .ok (.getfield 21, 3) := by decide +kernel
theorem dX0_undoInto_4 : decode cX0_undoInto 4 = .ok (.ifCond .ne 5, 3) := by decide +kernel
theorem dX0_undoInto_7 : decode cX0_undoInto 7 = .ok (.iconst 0, 1) := by decide +kernel
theorem dX0_undoInto_8 : decode cX0_undoInto 8 = .ok (.ireturn, 1) := by decide +kernel
theorem dX0_undoInto_9 : decode cX0_undoInto 9 = .ok (.aload_n 0, 1) := by decide +kernel
theorem dX0_undoInto_10 : decode cX0_undoInto 10 = .ok (.dup, 1) := by decide +kernel
theorem dX0_undoInto_11 : decode cX0_undoInto 11 = .ok (.getfield 21, 3) := by decide +kernel
theorem dX0_undoInto_14 : decode cX0_undoInto 14 = .ok (.iconst 1, 1) := by decide +kernel
theorem dX0_undoInto_15 : decode cX0_undoInto 15 = .ok (.isub, 1) := by decide +kernel
theorem dX0_undoInto_16 : decode cX0_undoInto 16 = .ok (.putfield 21, 3) := by decide +kernel
theorem dX0_undoInto_19 : decode cX0_undoInto 19 = .ok (.aload_n 0, 1) := by decide +kernel
theorem dX0_undoInto_20 : decode cX0_undoInto 20 = .ok (.aload_n 0, 1) := by decide +kernel
theorem dX0_undoInto_21 : decode cX0_undoInto 21 = .ok (.getfield 25, 3) := by decide +kernel
theorem dX0_undoInto_24 : decode cX0_undoInto 24 = .ok (.bipush 16, 2) := by decide +kernel
theorem dX0_undoInto_26 : decode cX0_undoInto 26 = .ok (.iadd, 1) := by decide +kernel
theorem dX0_undoInto_27 : decode cX0_undoInto 27 = .ok (.iconst 1, 1) := by decide +kernel
theorem dX0_undoInto_28 : decode cX0_undoInto 28 = .ok (.isub, 1) := by decide +kernel
theorem dX0_undoInto_29 : decode cX0_undoInto 29 = .ok (.bipush 16, 2) := by decide +kernel
theorem dX0_undoInto_31 : decode cX0_undoInto 31 = .ok (.irem, 1) := by decide +kernel
theorem dX0_undoInto_32 : decode cX0_undoInto 32 = .ok (.putfield 25, 3) := by decide +kernel
theorem dX0_undoInto_35 : decode cX0_undoInto 35 = .ok (.aload_n 0, 1) := by decide +kernel
theorem dX0_undoInto_36 : decode cX0_undoInto 36 = .ok (.getfield 15, 3) := by decide +kernel
theorem dX0_undoInto_39 : decode cX0_undoInto 39 = .ok (.aload_n 0, 1) := by decide +kernel
theorem dX0_undoInto_40 : decode cX0_undoInto 40 = .ok (.getfield 25, 3) := by decide +kernel
theorem dX0_undoInto_43 : decode cX0_undoInto 43 = .ok (.aaload, 1) := by decide +kernel
theorem dX0_undoInto_44 : decode cX0_undoInto 44 = .ok (.iconst 0, 1) := by decide +kernel
theorem dX0_undoInto_45 : decode cX0_undoInto 45 = .ok (.aload_n 1, 1) := by decide +kernel
theorem dX0_undoInto_46 : decode cX0_undoInto 46 = .ok (.iconst 0, 1) := by decide +kernel
theorem dX0_undoInto_47 : decode cX0_undoInto 47 = .ok (.bipush 15, 2) := by decide +kernel
theorem dX0_undoInto_49 : decode cX0_undoInto 49 = .ok (.invokestatic 31, 3) := by decide +kernel
theorem dX0_undoInto_52 : decode cX0_undoInto 52 = .ok (.iconst 1, 1) := by decide +kernel
theorem dX0_undoInto_53 : decode cX0_undoInto 53 = .ok (.ireturn, 1) := by decide +kernel
def B_X0_undoInto_0 (X : Nat × (Nat → Int32)) (J : Nat → zCf) (R : zRt) : zCf := oALOAD 0 (oGETI 0 2 (oIFNE (J 9) (oPI (zj (0)) (oZRET R))))
set_option maxRecDepth 100000 in
theorem vb_X0_undoInto_0 {X : Nat × (Nat → Int32)} {R : zRt} : ∀ ls st h, B_X0_undoInto_0 X (zV X M_X0_undoInto (zQm M_X0_undoInto R) 0 0) R ls st h → zV X M_X0_undoInto (zQm M_X0_undoInto R) 0 0 0 ls st h := sd_aload_n dX0_undoInto_0 rfl (sd_geti dX0_undoInto_1 zCl0 (Nat.le_of_ble_eq_true rfl) lk_RX0_21 (Or.inl rfl) (sd_ifne dX0_undoInto_4 rfl (fun _ _ _ h => h) (sd_iconst dX0_undoInto_7 rfl (sd_zret dX0_undoInto_8 rfl (Nat.le_of_ble_eq_true rfl) (Nat.le_of_ble_eq_true rfl)))))
def B_X0_undoInto_9 (X : Nat × (Nat → Int32)) (J : Nat → zCf) (R : zRt) : zCf := oALOAD 0 (oDUP (oGETI 0 2 (oPI (zj (1)) (oISUB (oPUTI 0 2 (oALOAD 0 (oALOAD 0 (oGETI 0 3 (oPI (zj (16)) (oIADD (oPI (zj (1)) (oISUB (oPI (zj (16)) (oIREM (oPUTI 0 3 (oALOAD 0 (oGETR 0 0 (oALOAD 0 (oGETI 0 3 (oAALD (oPI (zj (0)) (oALOAD 1 (oPI (zj (0)) (oPI (zj (15)) (oCOPY (oPI (zj (1)) (oZRET R)))))))))))))))))))))))))))
set_option maxRecDepth 100000 in
theorem vb_X0_undoInto_9 {X : Nat × (Nat → Int32)} {R : zRt} : ∀ ls st h, B_X0_undoInto_9 X (zV X M_X0_undoInto (zQm M_X0_undoInto R) 0 0) R ls st h → zV X M_X0_undoInto (zQm M_X0_undoInto R) 0 0 9 ls st h := sd_aload_n dX0_undoInto_9 rfl (sd_dup dX0_undoInto_10 (sd_geti dX0_undoInto_11 zCl0 (Nat.le_of_ble_eq_true rfl) lk_RX0_21 (Or.inl rfl) (sd_iconst dX0_undoInto_14 rfl (sd_isub dX0_undoInto_15 (sd_puti dX0_undoInto_16 zCl0 (Nat.le_of_ble_eq_true rfl) lk_RX0_21 rfl (Or.inl rfl) (sd_aload_n dX0_undoInto_19 rfl (sd_aload_n dX0_undoInto_20 rfl (sd_geti dX0_undoInto_21 zCl0 (Nat.le_of_ble_eq_true rfl) lk_RX0_25 (Or.inl rfl) (sd_bipush dX0_undoInto_24 rfl (sd_iadd dX0_undoInto_26 (sd_iconst dX0_undoInto_27 rfl (sd_isub dX0_undoInto_28 (sd_bipush dX0_undoInto_29 rfl (sd_irem dX0_undoInto_31 (sd_puti dX0_undoInto_32 zCl0 (Nat.le_of_ble_eq_true rfl) lk_RX0_25 rfl (Or.inl rfl) (sd_aload_n dX0_undoInto_35 rfl (sd_getr dX0_undoInto_36 zCl0 (Nat.le_of_ble_eq_true rfl) lk_RX0_15 (Or.inr ⟨_, rfl⟩) (sd_aload_n dX0_undoInto_39 rfl (sd_geti dX0_undoInto_40 zCl0 (Nat.le_of_ble_eq_true rfl) lk_RX0_25 (Or.inl rfl) (sd_aald dX0_undoInto_43 (sd_iconst dX0_undoInto_44 rfl (sd_aload_n dX0_undoInto_45 rfl (sd_iconst dX0_undoInto_46 rfl (sd_bipush dX0_undoInto_47 rfl (sd_copy dX0_undoInto_49 (zmt (zt4 (i := 193) rfl) rfl) (zmt (zt4 (i := 195) rfl) rfl) (zmt (zt4 (i := 194) rfl) rfl) (zmt (zt1 (i := 17) rfl) rfl) (Nat.le_of_ble_eq_true rfl) (Nat.le_of_ble_eq_true rfl) (sd_iconst dX0_undoInto_52 rfl (sd_zret dX0_undoInto_53 rfl (Nat.le_of_ble_eq_true rfl) (Nat.le_of_ble_eq_true rfl))))))))))))))))))))))))))))
theorem dX0_keepImage_0 : decode cX0_keepImage 0 = .ok (.aload_n 0, 1) := by decide +kernel
theorem dX0_keepImage_1 : decode cX0_keepImage 1 = .ok (.getfield 28, 3) := by decide +kernel
theorem dX0_keepImage_4 : decode cX0_keepImage 4 = .ok (.iconst 3, 1) := by decide +kernel
theorem dX0_keepImage_5 : decode cX0_keepImage 5 = .ok (.if_icmp .lt 5, 3) := by decide +kernel
theorem dX0_keepImage_8 : decode cX0_keepImage 8 = .ok (.iconst (-1), 1) := by decide +kernel
theorem dX0_keepImage_9 : decode cX0_keepImage 9 = .ok (.ireturn, 1) := by decide +kernel
theorem dX0_keepImage_10 : decode cX0_keepImage 10 = .ok (.aload_n 1, 1) := by decide +kernel
theorem dX0_keepImage_11 : decode cX0_keepImage 11 = .ok (.iconst 0, 1) := by decide +kernel
theorem dX0_keepImage_12 : decode cX0_keepImage 12 = .ok (.aload_n 0, 1) := by decide +kernel
theorem dX0_keepImage_13 : decode cX0_keepImage 13 = .ok (.getfield 18, 3) := by decide +kernel
theorem dX0_keepImage_16 : decode cX0_keepImage 16 = .ok (.aload_n 0, 1) := by decide +kernel
theorem dX0_keepImage_17 : decode cX0_keepImage 17 = .ok (.getfield 28, 3) := by decide +kernel
theorem dX0_keepImage_20 : decode cX0_keepImage 20 = .ok (.aaload, 1) := by decide +kernel
theorem dX0_keepImage_21 : decode cX0_keepImage 21 = .ok (.iconst 0, 1) := by decide +kernel
theorem dX0_keepImage_22 : decode cX0_keepImage 22 = .ok (.bipush 15, 2) := by decide +kernel
theorem dX0_keepImage_24 : decode cX0_keepImage 24 = .ok (.invokestatic 31, 3) := by decide +kernel
theorem dX0_keepImage_27 : decode cX0_keepImage 27 = .ok (.aload_n 0, 1) := by decide +kernel
theorem dX0_keepImage_28 : decode cX0_keepImage 28 = .ok (.dup, 1) := by decide +kernel
theorem dX0_keepImage_29 : decode cX0_keepImage 29 = .ok (.getfield 28, 3) := by decide +kernel
theorem dX0_keepImage_32 : decode cX0_keepImage 32 = .ok (.iconst 1, 1) := by decide +kernel
theorem dX0_keepImage_33 : decode cX0_keepImage 33 = .ok (.iadd, 1) := by decide +kernel
theorem dX0_keepImage_34 : decode cX0_keepImage 34 = .ok (.putfield 28, 3) := by decide +kernel
theorem dX0_keepImage_37 : decode cX0_keepImage 37 = .ok (.aload_n 0, 1) := by decide +kernel
theorem dX0_keepImage_38 : decode cX0_keepImage 38 = .ok (.getfield 28, 3) := by decide +kernel
theorem dX0_keepImage_41 : decode cX0_keepImage 41 = .ok (.iconst 1, 1) := by decide +kernel
theorem dX0_keepImage_42 : decode cX0_keepImage 42 = .ok (.isub, 1) := by decide +kernel
theorem dX0_keepImage_43 : decode cX0_keepImage 43 = .ok (.ireturn, 1) := by decide +kernel
def B_X0_keepImage_0 (X : Nat × (Nat → Int32)) (J : Nat → zCf) (R : zRt) : zCf := oALOAD 0 (oGETI 0 4 (oPI (zj (3)) (oICLT (J 10) (oPI (zj (-1)) (oIRET R)))))
set_option maxRecDepth 100000 in
theorem vb_X0_keepImage_0 {X : Nat × (Nat → Int32)} {R : zRt} : ∀ ls st h, B_X0_keepImage_0 X (zV X M_X0_keepImage (zQm M_X0_keepImage R) 0 0) R ls st h → zV X M_X0_keepImage (zQm M_X0_keepImage R) 0 0 0 ls st h := sd_aload_n dX0_keepImage_0 rfl (sd_geti dX0_keepImage_1 zCl0 (Nat.le_of_ble_eq_true rfl) lk_RX0_28 (Or.inl rfl) (sd_iconst dX0_keepImage_4 rfl (sd_iclt dX0_keepImage_5 rfl (fun _ _ _ h => h) (sd_iconst dX0_keepImage_8 rfl (sd_iret dX0_keepImage_9 rfl (Nat.le_of_ble_eq_true rfl) (Nat.le_of_ble_eq_true rfl))))))
def B_X0_keepImage_10 (X : Nat × (Nat → Int32)) (J : Nat → zCf) (R : zRt) : zCf := oALOAD 1 (oPI (zj (0)) (oALOAD 0 (oGETR 0 1 (oALOAD 0 (oGETI 0 4 (oAALD (oPI (zj (0)) (oPI (zj (15)) (oCOPY (oALOAD 0 (oDUP (oGETI 0 4 (oPI (zj (1)) (oIADD (oPUTI 0 4 (oALOAD 0 (oGETI 0 4 (oPI (zj (1)) (oISUB (oIRET R))))))))))))))))))))
set_option maxRecDepth 100000 in
theorem vb_X0_keepImage_10 {X : Nat × (Nat → Int32)} {R : zRt} : ∀ ls st h, B_X0_keepImage_10 X (zV X M_X0_keepImage (zQm M_X0_keepImage R) 0 0) R ls st h → zV X M_X0_keepImage (zQm M_X0_keepImage R) 0 0 10 ls st h := sd_aload_n dX0_keepImage_10 rfl (sd_iconst dX0_keepImage_11 rfl (sd_aload_n dX0_keepImage_12 rfl (sd_getr dX0_keepImage_13 zCl0 (Nat.le_of_ble_eq_true rfl) lk_RX0_18 (Or.inr ⟨_, rfl⟩) (sd_aload_n dX0_keepImage_16 rfl (sd_geti dX0_keepImage_17 zCl0 (Nat.le_of_ble_eq_true rfl) lk_RX0_28 (Or.inl rfl) (sd_aald dX0_keepImage_20 (sd_iconst dX0_keepImage_21 rfl (sd_bipush dX0_keepImage_22 rfl (sd_copy dX0_keepImage_24 (zmt (zt4 (i := 193) rfl) rfl) (zmt (zt4 (i := 195) rfl) rfl) (zmt (zt4 (i := 194) rfl) rfl) (zmt (zt1 (i := 17) rfl) rfl) (Nat.le_of_ble_eq_true rfl) (Nat.le_of_ble_eq_true rfl) (sd_aload_n dX0_keepImage_27 rfl (sd_dup dX0_keepImage_28 (sd_geti dX0_keepImage_29 zCl0 (Nat.le_of_ble_eq_true rfl) lk_RX0_28 (Or.inl rfl) (sd_iconst dX0_keepImage_32 rfl (sd_iadd dX0_keepImage_33 (sd_puti dX0_keepImage_34 zCl0 (Nat.le_of_ble_eq_true rfl) lk_RX0_28 rfl (Or.inl rfl) (sd_aload_n dX0_keepImage_37 rfl (sd_geti dX0_keepImage_38 zCl0 (Nat.le_of_ble_eq_true rfl) lk_RX0_28 (Or.inl rfl) (sd_iconst dX0_keepImage_41 rfl (sd_isub dX0_keepImage_42 (sd_iret dX0_keepImage_43 rfl (Nat.le_of_ble_eq_true rfl) (Nat.le_of_ble_eq_true rfl)))))))))))))))))))))
theorem dX0_backInto_0 : decode cX0_backInto 0 = .ok (.iload_n 1, 1) := by decide +kernel
theorem dX0_backInto_1 : decode cX0_backInto 1 = .ok (.ifCond .lt 11, 3) := by decide +kernel
theorem dX0_backInto_4 : decode cX0_backInto 4 = .ok (.iload_n 1, 1) := by decide +kernel
theorem dX0_backInto_5 : decode cX0_backInto 5 = .ok (.aload_n 0, 1) := by decide +kernel
theorem dX0_backInto_6 : decode cX0_backInto 6 = .ok (.getfield 28, 3) := by decide +kernel
theorem dX0_backInto_9 : decode cX0_backInto 9 = .ok (.if_icmp .lt 5, 3) := by decide +kernel
theorem dX0_backInto_12 : decode cX0_backInto 12 = .ok (.iconst 0, 1) := by decide +kernel
theorem dX0_backInto_13 : decode cX0_backInto 13 = .ok (.ireturn, 1) := by decide +kernel
theorem dX0_backInto_14 : decode cX0_backInto 14 = .ok (.aload_n 0, 1) := by decide +kernel
theorem dX0_backInto_15 : decode cX0_backInto 15 = .ok (.getfield 18, 3) := by decide +kernel
theorem dX0_backInto_18 : decode cX0_backInto 18 = .ok (.iload_n 1, 1) := by decide +kernel
theorem dX0_backInto_19 : decode cX0_backInto 19 = .ok (.aaload, 1) := by decide +kernel
theorem dX0_backInto_20 : decode cX0_backInto 20 = .ok (.iconst 0, 1) := by decide +kernel
theorem dX0_backInto_21 : decode cX0_backInto 21 = .ok (.aload_n 2, 1) := by decide +kernel
theorem dX0_backInto_22 : decode cX0_backInto 22 = .ok (.iconst 0, 1) := by decide +kernel
theorem dX0_backInto_23 : decode cX0_backInto 23 = .ok (.bipush 15, 2) := by decide +kernel
theorem dX0_backInto_25 : decode cX0_backInto 25 = .ok (.invokestatic 31, 3) := by decide +kernel
theorem dX0_backInto_28 : decode cX0_backInto 28 = .ok (.aload_n 0, 1) := by decide +kernel
theorem dX0_backInto_29 : decode cX0_backInto 29 = .ok (.iconst 0, 1) := by decide +kernel
theorem dX0_backInto_30 : decode cX0_backInto 30 = .ok (.putfield 21, 3) := by decide +kernel
theorem dX0_backInto_33 : decode cX0_backInto 33 = .ok (.iconst 1, 1) := by decide +kernel
theorem dX0_backInto_34 : decode cX0_backInto 34 = .ok (.ireturn, 1) := by decide +kernel
def B_X0_backInto_0 (X : Nat × (Nat → Int32)) (J : Nat → zCf) (R : zRt) : zCf := oILOAD 1 (oIFLT (J 12) (oILOAD 1 (oALOAD 0 (oGETI 0 4 (oICLT (J 14) (J 12))))))
set_option maxRecDepth 100000 in
theorem vb_X0_backInto_0 {X : Nat × (Nat → Int32)} {R : zRt} : ∀ ls st h, B_X0_backInto_0 X (zV X M_X0_backInto (zQm M_X0_backInto R) 0 0) R ls st h → zV X M_X0_backInto (zQm M_X0_backInto R) 0 0 0 ls st h := sd_iload_n dX0_backInto_0 rfl (sd_iflt dX0_backInto_1 rfl (fun _ _ _ h => h) (sd_iload_n dX0_backInto_4 rfl (sd_aload_n dX0_backInto_5 rfl (sd_geti dX0_backInto_6 zCl0 (Nat.le_of_ble_eq_true rfl) lk_RX0_28 (Or.inl rfl) (sd_iclt dX0_backInto_9 rfl (fun _ _ _ h => h) (fun _ _ _ h => h))))))
def B_X0_backInto_12 (X : Nat × (Nat → Int32)) (J : Nat → zCf) (R : zRt) : zCf := oPI (zj (0)) (oZRET R)
set_option maxRecDepth 100000 in
theorem vb_X0_backInto_12 {X : Nat × (Nat → Int32)} {R : zRt} : ∀ ls st h, B_X0_backInto_12 X (zV X M_X0_backInto (zQm M_X0_backInto R) 0 0) R ls st h → zV X M_X0_backInto (zQm M_X0_backInto R) 0 0 12 ls st h := sd_iconst dX0_backInto_12 rfl (sd_zret dX0_backInto_13 rfl (Nat.le_of_ble_eq_true rfl) (Nat.le_of_ble_eq_true rfl))
def B_X0_backInto_14 (X : Nat × (Nat → Int32)) (J : Nat → zCf) (R : zRt) : zCf := oALOAD 0 (oGETR 0 1 (oILOAD 1 (oAALD (oPI (zj (0)) (oALOAD 2 (oPI (zj (0)) (oPI (zj (15)) (oCOPY (oALOAD 0 (oPI (zj (0)) (oPUTI 0 2 (oPI (zj (1)) (oZRET R)))))))))))))
set_option maxRecDepth 100000 in
theorem vb_X0_backInto_14 {X : Nat × (Nat → Int32)} {R : zRt} : ∀ ls st h, B_X0_backInto_14 X (zV X M_X0_backInto (zQm M_X0_backInto R) 0 0) R ls st h → zV X M_X0_backInto (zQm M_X0_backInto R) 0 0 14 ls st h := sd_aload_n dX0_backInto_14 rfl (sd_getr dX0_backInto_15 zCl0 (Nat.le_of_ble_eq_true rfl) lk_RX0_18 (Or.inr ⟨_, rfl⟩) (sd_iload_n dX0_backInto_18 rfl (sd_aald dX0_backInto_19 (sd_iconst dX0_backInto_20 rfl (sd_aload_n dX0_backInto_21 rfl (sd_iconst dX0_backInto_22 rfl (sd_bipush dX0_backInto_23 rfl (sd_copy dX0_backInto_25 (zmt (zt4 (i := 193) rfl) rfl) (zmt (zt4 (i := 195) rfl) rfl) (zmt (zt4 (i := 194) rfl) rfl) (zmt (zt1 (i := 17) rfl) rfl) (Nat.le_of_ble_eq_true rfl) (Nat.le_of_ble_eq_true rfl) (sd_aload_n dX0_backInto_28 rfl (sd_iconst dX0_backInto_29 rfl (sd_puti dX0_backInto_30 zCl0 (Nat.le_of_ble_eq_true rfl) lk_RX0_21 rfl (Or.inl rfl) (sd_iconst dX0_backInto_33 rfl (sd_zret dX0_backInto_34 rfl (Nat.le_of_ble_eq_true rfl) (Nat.le_of_ble_eq_true rfl))))))))))))))
