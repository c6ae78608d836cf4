theorem dX5_init_0 : decode cX5_init 0 = .ok (.aload_n 0, 1) := by decide +kernel
theorem dX5_init_1 : decode cX5_init 1 = .ok (.invokespecial 3, 3) := by decide +kernel
theorem dX5_init_4 : decode cX5_init 4 = .ok (.return_, 1) := by decide +kernel
def B_X5_init_0 (X : Nat × (Nat → Int32)) (J : Nat → zCf) (R : zRt) : zCf := oALOAD 0 (oOBJ (oVRET R))
set_option maxRecDepth 100000 in
theorem vb_X5_init_0 {X : Nat × (Nat → Int32)} {R : zRt} : ∀ ls st h, B_X5_init_0 X (zV X M_X5_init (zQm M_X5_init R) 0 0) R ls st h → zV X M_X5_init (zQm M_X5_init R) 0 0 0 ls st h := sd_aload_n dX5_init_0 rfl (sd_obj dX5_init_1 (zmt (zt2 (i := 8) rfl) rfl) (zmt (zt1 (i := 28) rfl) rfl) (zmt (zt1 (i := 29) rfl) rfl) (Nat.le_of_ble_eq_true rfl) (Nat.le_of_ble_eq_true rfl) (sd_vret dX5_init_4 rfl (Nat.le_of_ble_eq_true rfl) (Nat.le_of_ble_eq_true rfl)))
theorem dX5_begin_0 : decode cX5_begin 0 = .ok (.aload_n 0, 1) := by decide +kernel
theorem dX5_begin_1 : decode cX5_begin 1 = .ok (.iload_n 1, 1) := by decide +kernel
theorem dX5_begin_2 : decode cX5_begin 2 = .ok (.putfield 9, 3) := by decide +kernel
theorem dX5_begin_5 : decode cX5_begin 5 = .ok (.aload_n 0, 1) := by decide +kernel
theorem dX5_begin_6 : decode cX5_begin 6 = .ok (.iload_n 2, 1) := by decide +kernel
theorem dX5_begin_7 : decode cX5_begin 7 = .ok (.putfield 15, 3) := by decide +kernel
theorem dX5_begin_10 : decode cX5_begin 10 = .ok (.aload_n 0, 1) := by decide +kernel
theorem dX5_begin_11 : decode cX5_begin 11 = .ok (.iconst 0, 1) := by decide +kernel
theorem dX5_begin_12 : decode cX5_begin 12 = .ok (.putfield 18, 3) := by decide +kernel
theorem dX5_begin_15 : decode cX5_begin 15 = .ok (.aload_n 0, 1) := by decide +kernel
theorem dX5_begin_16 : decode cX5_begin 16 = .ok (.iconst 0, 1) := by decide +kernel
theorem dX5_begin_17 : decode cX5_begin 17 = .ok (.putfield 21, 3) := by decide +kernel
theorem dX5_begin_20 : decode cX5_begin 20 = .ok (.return_, 1) := by decide +kernel
def B_X5_begin_0 (X : Nat × (Nat → Int32)) (J : Nat → zCf) (R : zRt) : zCf := oALOAD 0 (oILOAD 1 (oPUTI 5 0 (oALOAD 0 (oILOAD 2 (oPUTI 5 1 (oALOAD 0 (oPI (zj (0)) (oPUTI 5 2 (oALOAD 0 (oPI (zj (0)) (oPUTI 5 3 (oVRET R))))))))))))
set_option maxRecDepth 100000 in
theorem vb_X5_begin_0 {X : Nat × (Nat → Int32)} {R : zRt} : ∀ ls st h, B_X5_begin_0 X (zV X M_X5_begin (zQm M_X5_begin R) 0 0) R ls st h → zV X M_X5_begin (zQm M_X5_begin R) 0 0 0 ls st h := sd_aload_n dX5_begin_0 rfl (sd_iload_n dX5_begin_1 rfl (sd_puti dX5_begin_2 zCl5 (Nat.le_of_ble_eq_true rfl) lk_RX5_9 rfl (Or.inl rfl) (sd_aload_n dX5_begin_5 rfl (sd_iload_n dX5_begin_6 rfl (sd_puti dX5_begin_7 zCl5 (Nat.le_of_ble_eq_true rfl) lk_RX5_15 rfl (Or.inl rfl) (sd_aload_n dX5_begin_10 rfl (sd_iconst dX5_begin_11 rfl (sd_puti dX5_begin_12 zCl5 (Nat.le_of_ble_eq_true rfl) lk_RX5_18 rfl (Or.inl rfl) (sd_aload_n dX5_begin_15 rfl (sd_iconst dX5_begin_16 rfl (sd_puti dX5_begin_17 zCl5 (Nat.le_of_ble_eq_true rfl) lk_RX5_21 rfl (Or.inl rfl) (sd_vret dX5_begin_20 rfl (Nat.le_of_ble_eq_true rfl) (Nat.le_of_ble_eq_true rfl)))))))))))))
theorem dX5_passDay_0 : decode cX5_passDay 0 = .ok (.aload_n 1, 1) := by decide +kernel
theorem dX5_passDay_1 : decode cX5_passDay 1 = .ok (.aload_n 0, 1) := by decide +kernel
theorem dX5_passDay_2 : decode cX5_passDay 2 = .ok (.getfield 15, 3) := by decide +kernel
theorem dX5_passDay_5 : decode cX5_passDay 5 = .ok (.invokevirtual 24, 3) := by decide +kernel
theorem dX5_passDay_8 : decode cX5_passDay 8 = .ok (.ifCond .ne 53, 3) := by decide +kernel
theorem dX5_passDay_11 : decode cX5_passDay 11 = .ok (.aload_n 0, 1) := by decide +kernel
theorem dX5_passDay_12 : decode cX5_passDay 12 = .ok (.bipush 75, 2) := by decide +kernel
theorem dX5_passDay_14 : decode cX5_passDay 14 = .ok (.aload_n 0, 1) := by decide +kernel
theorem dX5_passDay_15 : decode cX5_passDay 15 = .ok (.getfield 9, 3) := by decide +kernel
theorem dX5_passDay_18 : decode cX5_passDay 18 = .ok (.imul, 1) := by decide +kernel
theorem dX5_passDay_19 : decode cX5_passDay 19 = .ok (.bipush 74, 2) := by decide +kernel
theorem dX5_passDay_21 : decode cX5_passDay 21 = .ok (.iadd, 1) := by decide +kernel
theorem dX5_passDay_22 : decode cX5_passDay 22 = .ok (.ldc 30, 2) := by decide +kernel
theorem dX5_passDay_24 : decode cX5_passDay 24 = .ok (.irem, 1) := by decide +kernel
theorem dX5_passDay_25 : decode cX5_passDay 25 = .ok (.putfield 9, 3) := by decide +kernel
theorem dX5_passDay_28 : decode cX5_passDay 28 = .ok (.aload_n 0, 1) := by decide +kernel
theorem dX5_passDay_29 : decode cX5_passDay 29 = .ok (.getfield 9, 3) := by decide +kernel
theorem dX5_passDay_32 : decode cX5_passDay 32 = .ok (.bipush 7, 2) := by decide +kernel
theorem dX5_passDay_34 : decode cX5_passDay 34 = .ok (.irem, 1) := by decide +kernel
theorem dX5_passDay_35 : decode cX5_passDay 35 = .ok (.iconst 3, 1) := by decide +kernel
theorem dX5_passDay_36 : decode cX5_passDay 36 = .ok (.isub, 1) := by decide +kernel
theorem dX5_passDay_37 : decode cX5_passDay 37 = .ok (.istore_n 2, 1) := by decide +kernel
theorem dX5_passDay_38 : decode cX5_passDay 38 = .ok (.aload_n 0, 1) := by decide +kernel
theorem dX5_passDay_39 : decode cX5_passDay 39 = .ok (.dup, 1) := by decide +kernel
theorem dX5_passDay_40 : decode cX5_passDay 40 = .ok (.getfield 18, 3) := by decide +kernel
theorem dX5_passDay_43 : decode cX5_passDay 43 = .ok (.iload_n 2, 1) := by decide +kernel
theorem dX5_passDay_44 : decode cX5_passDay 44 = .ok (.iadd, 1) := by decide +kernel
theorem dX5_passDay_45 : decode cX5_passDay 45 = .ok (.putfield 18, 3) := by decide +kernel
theorem dX5_passDay_48 : decode cX5_passDay 48 = .ok (.aload_n 0, 1) := by decide +kernel
theorem dX5_passDay_49 : decode cX5_passDay 49 = .ok (.dup, 1) := by decide +kernel
theorem dX5_passDay_50 : decode cX5_passDay 50 = .ok (.getfield 21, 3) := by decide +kernel
theorem dX5_passDay_53 : decode cX5_passDay 53 = .ok (.iload_n 2, 1) := by decide +kernel
theorem dX5_passDay_54 : decode cX5_passDay 54 = .ok (.invokestatic 31, 3) := by decide +kernel
theorem dX5_passDay_57 : decode cX5_passDay 57 = .ok (.iadd, 1) := by decide +kernel
theorem dX5_passDay_58 : decode cX5_passDay 58 = .ok (.putfield 21, 3) := by decide +kernel
theorem dX5_passDay_61 : decode cX5_passDay 61 = .ok (.aload_n 0, 1) := by decide +kernel
theorem dX5_passDay_62 : decode cX5_passDay 62 = .ok (.dup, 1) := by decide +kernel
theorem dX5_passDay_63 : decode cX5_passDay 63 = .ok (.getfield 15, 3) := by decide +kernel
theorem dX5_passDay_66 : decode cX5_passDay 66 = .ok (.iconst 1, 1) := by decide +kernel
theorem dX5_passDay_67 : decode cX5_passDay 67 = .ok (.iadd, 1) := by decide +kernel
theorem dX5_passDay_68 : decode cX5_passDay 68 = .ok (.putfield 15, 3) := by decide +kernel
theorem dX5_passDay_71 : decode cX5_passDay 71 = .ok (.return_, 1) := by decide +kernel
def B_X5_passDay_0 (X : Nat × (Nat → Int32)) (J : Nat → zCf) (R : zRt) : zCf := oALOAD 1 (oALOAD 0 (oGETI 5 1 (oINV1 X M_X1_isHoliday 1 (oIFNE (J 61) (oALOAD 0 (oPI (zj (75)) (oALOAD 0 (oGETI 5 0 (oIMUL (oPI (zj (74)) (oIADD (oPI (zj (65537)) (oIREM (oPUTI 5 0 (oALOAD 0 (oGETI 5 0 (oPI (zj (7)) (oIREM (oPI (zj (3)) (oISUB (oISTORE 1 2 (oALOAD 0 (oDUP (oGETI 5 2 (oILOAD 2 (oIADD (oPUTI 5 2 (oALOAD 0 (oDUP (oGETI 5 3 (oILOAD 2 (oINS1 X M_X7_half (oIADD (oPUTI 5 3 (J 61)))))))))))))))))))))))))))))))))))
set_option maxRecDepth 100000 in
theorem vb_X5_passDay_0 {X : Nat × (Nat → Int32)} {R : zRt} : ∀ ls st h, B_X5_passDay_0 X (zV X M_X5_passDay (zQm M_X5_passDay R) 0 0) R ls st h → zV X M_X5_passDay (zQm M_X5_passDay R) 0 0 0 ls st h := sd_aload_n dX5_passDay_0 rfl (sd_aload_n dX5_passDay_1 rfl (sd_geti dX5_passDay_2 zCl5 (Nat.le_of_ble_eq_true rfl) lk_RX5_15 (Or.inl rfl) (sd_inv1 dX5_passDay_5 rfl mv_X1_isHoliday na_X1_isHoliday ml_RX5_24 ⟨⟨Nat.le_of_ble_eq_true rfl, Nat.le_of_ble_eq_true rfl⟩, ⟨Nat.le_of_ble_eq_true rfl, Nat.le_of_ble_eq_true rfl⟩⟩ (sd_ifne dX5_passDay_8 rfl (fun _ _ _ h => h) (sd_aload_n dX5_passDay_11 rfl (sd_bipush dX5_passDay_12 rfl (sd_aload_n dX5_passDay_14 rfl (sd_geti dX5_passDay_15 zCl5 (Nat.le_of_ble_eq_true rfl) lk_RX5_9 (Or.inl rfl) (sd_imul dX5_passDay_18 (sd_bipush dX5_passDay_19 rfl (sd_iadd dX5_passDay_21 (sd_ldc dX5_passDay_22 (zmt (zt4 (i := 174) rfl) rfl) (sd_irem dX5_passDay_24 (sd_puti dX5_passDay_25 zCl5 (Nat.le_of_ble_eq_true rfl) lk_RX5_9 rfl (Or.inl rfl) (sd_aload_n dX5_passDay_28 rfl (sd_geti dX5_passDay_29 zCl5 (Nat.le_of_ble_eq_true rfl) lk_RX5_9 (Or.inl rfl) (sd_bipush dX5_passDay_32 rfl (sd_irem dX5_passDay_34 (sd_iconst dX5_passDay_35 rfl (sd_isub dX5_passDay_36 (sd_istore_n dX5_passDay_37 rfl (Nat.le_of_ble_eq_true rfl) (Or.inl rfl) (sd_aload_n dX5_passDay_38 rfl (sd_dup dX5_passDay_39 (sd_geti dX5_passDay_40 zCl5 (Nat.le_of_ble_eq_true rfl) lk_RX5_18 (Or.inl rfl) (sd_iload_n dX5_passDay_43 rfl (sd_iadd dX5_passDay_44 (sd_puti dX5_passDay_45 zCl5 (Nat.le_of_ble_eq_true rfl) lk_RX5_18 rfl (Or.inl rfl) (sd_aload_n dX5_passDay_48 rfl (sd_dup dX5_passDay_49 (sd_geti dX5_passDay_50 zCl5 (Nat.le_of_ble_eq_true rfl) lk_RX5_21 (Or.inl rfl) (sd_iload_n dX5_passDay_53 rfl (sd_ins1 dX5_passDay_54 ms_X7_half na_X7_half ml_RX5_31 ⟨⟨Nat.le_of_ble_eq_true rfl, Nat.le_of_ble_eq_true rfl⟩, ⟨Nat.le_of_ble_eq_true rfl, Nat.le_of_ble_eq_true rfl⟩⟩ (sd_iadd dX5_passDay_57 (sd_puti dX5_passDay_58 zCl5 (Nat.le_of_ble_eq_true rfl) lk_RX5_21 rfl (Or.inl rfl) (fun _ _ _ h => h)))))))))))))))))))))))))))))))))))
def B_X5_passDay_61 (X : Nat × (Nat → Int32)) (J : Nat → zCf) (R : zRt) : zCf := oALOAD 0 (oDUP (oGETI 5 1 (oPI (zj (1)) (oIADD (oPUTI 5 1 (oVRET R))))))
set_option maxRecDepth 100000 in
theorem vb_X5_passDay_61 {X : Nat × (Nat → Int32)} {R : zRt} : ∀ ls st h, B_X5_passDay_61 X (zV X M_X5_passDay (zQm M_X5_passDay R) 0 0) R ls st h → zV X M_X5_passDay (zQm M_X5_passDay R) 0 0 61 ls st h := sd_aload_n dX5_passDay_61 rfl (sd_dup dX5_passDay_62 (sd_geti dX5_passDay_63 zCl5 (Nat.le_of_ble_eq_true rfl) lk_RX5_15 (Or.inl rfl) (sd_iconst dX5_passDay_66 rfl (sd_iadd dX5_passDay_67 (sd_puti dX5_passDay_68 zCl5 (Nat.le_of_ble_eq_true rfl) lk_RX5_15 rfl (Or.inl rfl) (sd_vret dX5_passDay_71 rfl (Nat.le_of_ble_eq_true rfl) (Nat.le_of_ble_eq_true rfl)))))))
