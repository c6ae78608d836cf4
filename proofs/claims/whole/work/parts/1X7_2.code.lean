theorem dX7_countryAt_0 : decode cX7_countryAt 0 = .ok (.iload_n 0, 1) := by decide +kernel
theorem dX7_countryAt_1 : decode cX7_countryAt 1 = .ok (.bipush 12, 2) := by decide +kernel
theorem dX7_countryAt_3 : decode cX7_countryAt 3 = .ok (.idiv, 1) := by decide +kernel
theorem dX7_countryAt_4 : decode cX7_countryAt 4 = .ok (.ireturn, 1) := by decide +kernel
def B_X7_countryAt_0 (X : Nat × (Nat → Int32)) (J : Nat → zCf) (R : zRt) : zCf := oILOAD 0 (oPI (zj (12)) (oIDIV (oIRET R)))
set_option maxRecDepth 100000 in
theorem vb_X7_countryAt_0 {X : Nat × (Nat → Int32)} {R : zRt} : ∀ ls st h, B_X7_countryAt_0 X (zV X M_X7_countryAt (zQm M_X7_countryAt R) 0 0) R ls st h → zV X M_X7_countryAt (zQm M_X7_countryAt R) 0 0 0 ls st h := sd_iload_n dX7_countryAt_0 rfl (sd_bipush dX7_countryAt_1 rfl (sd_idiv dX7_countryAt_3 (sd_iret dX7_countryAt_4 rfl (Nat.le_of_ble_eq_true rfl) (Nat.le_of_ble_eq_true rfl))))
theorem dX7_cellAt_0 : decode cX7_cellAt 0 = .ok (.iload_n 0, 1) := by decide +kernel
theorem dX7_cellAt_1 : decode cX7_cellAt 1 = .ok (.invokestatic 224, 3) := by decide +kernel
theorem dX7_cellAt_4 : decode cX7_cellAt 4 = .ok (.invokestatic 376, 3) := by decide +kernel
theorem dX7_cellAt_7 : decode cX7_cellAt 7 = .ok (.ifCond .eq 10, 3) := by decide +kernel
theorem dX7_cellAt_10 : decode cX7_cellAt 10 = .ok (.iload_n 0, 1) := by decide +kernel
theorem dX7_cellAt_11 : decode cX7_cellAt 11 = .ok (.bipush 12, 2) := by decide +kernel
theorem dX7_cellAt_13 : decode cX7_cellAt 13 = .ok (.irem, 1) := by decide +kernel
theorem dX7_cellAt_14 : decode cX7_cellAt 14 = .ok (.goto 10, 3) := by decide +kernel
theorem dX7_cellAt_17 : decode cX7_cellAt 17 = .ok (.bipush 11, 2) := by decide +kernel
theorem dX7_cellAt_19 : decode cX7_cellAt 19 = .ok (.iload_n 0, 1) := by decide +kernel
theorem dX7_cellAt_20 : decode cX7_cellAt 20 = .ok (.bipush 12, 2) := by decide +kernel
theorem dX7_cellAt_22 : decode cX7_cellAt 22 = .ok (.irem, 1) := by decide +kernel
theorem dX7_cellAt_23 : decode cX7_cellAt 23 = .ok (.isub, 1) := by decide +kernel
theorem dX7_cellAt_24 : decode cX7_cellAt 24 = .ok (.ireturn, 1) := by decide +kernel
def B_X7_cellAt_0 (X : Nat × (Nat → Int32)) (J : Nat → zCf) (R : zRt) : zCf := oILOAD 0 (oINS1 X M_X7_countryAt (oINS1 X M_X7_runsUpwards (oIFEQ (J 17) (oILOAD 0 (oPI (zj (12)) (oIREM (J 24)))))))
set_option maxRecDepth 100000 in
theorem vb_X7_cellAt_0 {X : Nat × (Nat → Int32)} {R : zRt} : ∀ ls st h, B_X7_cellAt_0 X (zV X M_X7_cellAt (zQm M_X7_cellAt R) 0 0) R ls st h → zV X M_X7_cellAt (zQm M_X7_cellAt R) 0 0 0 ls st h := sd_iload_n dX7_cellAt_0 rfl (sd_ins1 dX7_cellAt_1 ms_X7_countryAt na_X7_countryAt ml_RX7_224 ⟨⟨Nat.le_of_ble_eq_true rfl, Nat.le_of_ble_eq_true rfl⟩, ⟨Nat.le_of_ble_eq_true rfl, Nat.le_of_ble_eq_true rfl⟩⟩ (sd_ins1 dX7_cellAt_4 ms_X7_runsUpwards na_X7_runsUpwards ml_RX7_376 ⟨⟨Nat.le_of_ble_eq_true rfl, Nat.le_of_ble_eq_true rfl⟩, ⟨Nat.le_of_ble_eq_true rfl, Nat.le_of_ble_eq_true rfl⟩⟩ (sd_ifeq dX7_cellAt_7 rfl (fun _ _ _ h => h) (sd_iload_n dX7_cellAt_10 rfl (sd_bipush dX7_cellAt_11 rfl (sd_irem dX7_cellAt_13 (sd_goto dX7_cellAt_14 rfl (fun _ _ _ h => h))))))))
def B_X7_cellAt_17 (X : Nat × (Nat → Int32)) (J : Nat → zCf) (R : zRt) : zCf := oPI (zj (11)) (oILOAD 0 (oPI (zj (12)) (oIREM (oISUB (J 24)))))
set_option maxRecDepth 100000 in
theorem vb_X7_cellAt_17 {X : Nat × (Nat → Int32)} {R : zRt} : ∀ ls st h, B_X7_cellAt_17 X (zV X M_X7_cellAt (zQm M_X7_cellAt R) 0 0) R ls st h → zV X M_X7_cellAt (zQm M_X7_cellAt R) 0 0 17 ls st h := sd_bipush dX7_cellAt_17 rfl (sd_iload_n dX7_cellAt_19 rfl (sd_bipush dX7_cellAt_20 rfl (sd_irem dX7_cellAt_22 (sd_isub dX7_cellAt_23 (fun _ _ _ h => h)))))
def B_X7_cellAt_24 (X : Nat × (Nat → Int32)) (J : Nat → zCf) (R : zRt) : zCf := oIRET R
set_option maxRecDepth 100000 in
theorem vb_X7_cellAt_24 {X : Nat × (Nat → Int32)} {R : zRt} : ∀ ls st h, B_X7_cellAt_24 X (zV X M_X7_cellAt (zQm M_X7_cellAt R) 0 0) R ls st h → zV X M_X7_cellAt (zQm M_X7_cellAt R) 0 0 24 ls st h := sd_iret dX7_cellAt_24 rfl (Nat.le_of_ble_eq_true rfl) (Nat.le_of_ble_eq_true rfl)
theorem dX7_spotBeside_0 : decode cX7_spotBeside 0 = .ok (.iload_n 1, 1) := by decide +kernel
theorem dX7_spotBeside_1 : decode cX7_spotBeside 1 = .ok (.ifCond .eq 9, 3) := by decide +kernel
theorem dX7_spotBeside_4 : decode cX7_spotBeside 4 = .ok (.iload_n 0, 1) := by decide +kernel
theorem dX7_spotBeside_5 : decode cX7_spotBeside 5 = .ok (.iconst 1, 1) := by decide +kernel
theorem dX7_spotBeside_6 : decode cX7_spotBeside 6 = .ok (.iadd, 1) := by decide +kernel
theorem dX7_spotBeside_7 : decode cX7_spotBeside 7 = .ok (.goto 6, 3) := by decide +kernel
theorem dX7_spotBeside_10 : decode cX7_spotBeside 10 = .ok (.iload_n 0, 1) := by decide +kernel
theorem dX7_spotBeside_11 : decode cX7_spotBeside 11 = .ok (.iconst 1, 1) := by decide +kernel
theorem dX7_spotBeside_12 : decode cX7_spotBeside 12 = .ok (.isub, 1) := by decide +kernel
theorem dX7_spotBeside_13 : decode cX7_spotBeside 13 = .ok (.bipush 72, 2) := by decide +kernel
theorem dX7_spotBeside_15 : decode cX7_spotBeside 15 = .ok (.invokestatic 379, 3) := by decide +kernel
theorem dX7_spotBeside_18 : decode cX7_spotBeside 18 = .ok (.ireturn, 1) := by decide +kernel
def B_X7_spotBeside_0 (X : Nat × (Nat → Int32)) (J : Nat → zCf) (R : zRt) : zCf := oILOAD 1 (oIFEQ (J 10) (oILOAD 0 (oPI (zj (1)) (oIADD (J 13)))))
set_option maxRecDepth 100000 in
theorem vb_X7_spotBeside_0 {X : Nat × (Nat → Int32)} {R : zRt} : ∀ ls st h, B_X7_spotBeside_0 X (zV X M_X7_spotBeside (zQm M_X7_spotBeside R) 0 0) R ls st h → zV X M_X7_spotBeside (zQm M_X7_spotBeside R) 0 0 0 ls st h := sd_iload_n dX7_spotBeside_0 rfl (sd_ifeq dX7_spotBeside_1 rfl (fun _ _ _ h => h) (sd_iload_n dX7_spotBeside_4 rfl (sd_iconst dX7_spotBeside_5 rfl (sd_iadd dX7_spotBeside_6 (sd_goto dX7_spotBeside_7 rfl (fun _ _ _ h => h))))))
def B_X7_spotBeside_10 (X : Nat × (Nat → Int32)) (J : Nat → zCf) (R : zRt) : zCf := oILOAD 0 (oPI (zj (1)) (oISUB (J 13)))
set_option maxRecDepth 100000 in
theorem vb_X7_spotBeside_10 {X : Nat × (Nat → Int32)} {R : zRt} : ∀ ls st h, B_X7_spotBeside_10 X (zV X M_X7_spotBeside (zQm M_X7_spotBeside R) 0 0) R ls st h → zV X M_X7_spotBeside (zQm M_X7_spotBeside R) 0 0 10 ls st h := sd_iload_n dX7_spotBeside_10 rfl (sd_iconst dX7_spotBeside_11 rfl (sd_isub dX7_spotBeside_12 (fun _ _ _ h => h)))
def B_X7_spotBeside_13 (X : Nat × (Nat → Int32)) (J : Nat → zCf) (R : zRt) : zCf := oPI (zj (72)) (oINS2 X M_J9_floorMod_7cf53 (oIRET R))
set_option maxRecDepth 100000 in
theorem vb_X7_spotBeside_13 {X : Nat × (Nat → Int32)} {R : zRt} : ∀ ls st h, B_X7_spotBeside_13 X (zV X M_X7_spotBeside (zQm M_X7_spotBeside R) 0 0) R ls st h → zV X M_X7_spotBeside (zQm M_X7_spotBeside R) 0 0 13 ls st h := sd_bipush dX7_spotBeside_13 rfl (sd_ins2 dX7_spotBeside_15 ms_J9_floorMod_7cf53 na_J9_floorMod_7cf53 ml_RX7_379 ⟨⟨Nat.le_of_ble_eq_true rfl, Nat.le_of_ble_eq_true rfl⟩, ⟨Nat.le_of_ble_eq_true rfl, Nat.le_of_ble_eq_true rfl⟩⟩ (sd_iret dX7_spotBeside_18 rfl (Nat.le_of_ble_eq_true rfl) (Nat.le_of_ble_eq_true rfl)))
