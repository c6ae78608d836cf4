theorem dJ9_floorMod_7cf53_0 : decode cJ9_floorMod_7cf53 0 = .ok (.iload_n 0, 1) := by decide +kernel
theorem dJ9_floorMod_7cf53_1 : decode cJ9_floorMod_7cf53 1 = .ok (.iload_n 1, 1) := by decide +kernel
theorem dJ9_floorMod_7cf53_2 : decode cJ9_floorMod_7cf53 2 = .ok (.irem, 1) := by decide +kernel
theorem dJ9_floorMod_7cf53_3 : decode cJ9_floorMod_7cf53 3 = .ok (.istore_n 2, 1) := by decide +kernel
theorem dJ9_floorMod_7cf53_4 : decode cJ9_floorMod_7cf53 4 = .ok (.iload_n 0, 1) := by decide +kernel
theorem dJ9_floorMod_7cf53_5 : decode cJ9_floorMod_7cf53 5 = .ok (.iload_n 1, 1) := by decide +kernel
theorem dJ9_floorMod_7cf53_6 : decode cJ9_floorMod_7cf53 6 = .ok (.ixor, 1) := by decide +kernel
theorem dJ9_floorMod_7cf53_7 : decode cJ9_floorMod_7cf53 7 = .ok (.ifCond .ge 11, 3) := by decide +kernel
theorem dJ9_floorMod_7cf53_10 : decode cJ9_floorMod_7cf53 10 = .ok (.iload_n 2, 1) := by decide +kernel
theorem dJ9_floorMod_7cf53_11 : decode cJ9_floorMod_7cf53 11 = .ok (.ifCond .eq 7, 3) := by decide +kernel
theorem dJ9_floorMod_7cf53_14 : decode cJ9_floorMod_7cf53 14 = .ok (.iload_n 2, 1) := by decide +kernel
theorem dJ9_floorMod_7cf53_15 : decode cJ9_floorMod_7cf53 15 = .ok (.iload_n 1, 1) := by decide +kernel
theorem dJ9_floorMod_7cf53_16 : decode cJ9_floorMod_7cf53 16 = .ok (.iadd, 1) := by decide +kernel
theorem dJ9_floorMod_7cf53_17 : decode cJ9_floorMod_7cf53 17 = .ok (.ireturn, 1) := by decide +kernel
theorem dJ9_floorMod_7cf53_18 : decode cJ9_floorMod_7cf53 18 = .ok (.iload_n 2, 1) := by decide +kernel
theorem dJ9_floorMod_7cf53_19 : decode cJ9_floorMod_7cf53 19 = .ok (.ireturn, 1) := by decide +kernel
def B_J9_floorMod_7cf53_0 (X : Nat × (Nat → Int32)) (J : Nat → zCf) (R : zRt) : zCf := oILOAD 0 (oILOAD 1 (oIREM (oISTORE 1 2 (oILOAD 0 (oILOAD 1 (oIXOR (oIFGE (J 18) (oILOAD 2 (oIFEQ (J 18) (oILOAD 2 (oILOAD 1 (oIADD (oIRET R)))))))))))))
set_option maxRecDepth 100000 in
theorem vb_J9_floorMod_7cf53_0 {X : Nat × (Nat → Int32)} {R : zRt} : ∀ ls st h, B_J9_floorMod_7cf53_0 X (zV X M_J9_floorMod_7cf53 (zQm M_J9_floorMod_7cf53 R) 0 0) R ls st h → zV X M_J9_floorMod_7cf53 (zQm M_J9_floorMod_7cf53 R) 0 0 0 ls st h := sd_iload_n dJ9_floorMod_7cf53_0 rfl (sd_iload_n dJ9_floorMod_7cf53_1 rfl (sd_irem dJ9_floorMod_7cf53_2 (sd_istore_n dJ9_floorMod_7cf53_3 rfl (Nat.le_of_ble_eq_true rfl) (Or.inl rfl) (sd_iload_n dJ9_floorMod_7cf53_4 rfl (sd_iload_n dJ9_floorMod_7cf53_5 rfl (sd_ixor dJ9_floorMod_7cf53_6 (sd_ifge dJ9_floorMod_7cf53_7 rfl (fun _ _ _ h => h) (sd_iload_n dJ9_floorMod_7cf53_10 rfl (sd_ifeq dJ9_floorMod_7cf53_11 rfl (fun _ _ _ h => h) (sd_iload_n dJ9_floorMod_7cf53_14 rfl (sd_iload_n dJ9_floorMod_7cf53_15 rfl (sd_iadd dJ9_floorMod_7cf53_16 (sd_iret dJ9_floorMod_7cf53_17 rfl (Nat.le_of_ble_eq_true rfl) (Nat.le_of_ble_eq_true rfl))))))))))))))
def B_J9_floorMod_7cf53_18 (X : Nat × (Nat → Int32)) (J : Nat → zCf) (R : zRt) : zCf := oILOAD 2 (oIRET R)
set_option maxRecDepth 100000 in
theorem vb_J9_floorMod_7cf53_18 {X : Nat × (Nat → Int32)} {R : zRt} : ∀ ls st h, B_J9_floorMod_7cf53_18 X (zV X M_J9_floorMod_7cf53 (zQm M_J9_floorMod_7cf53 R) 0 0) R ls st h → zV X M_J9_floorMod_7cf53 (zQm M_J9_floorMod_7cf53 R) 0 0 18 ls st h := sd_iload_n dJ9_floorMod_7cf53_18 rfl (sd_iret dJ9_floorMod_7cf53_19 rfl (Nat.le_of_ble_eq_true rfl) (Nat.le_of_ble_eq_true rfl))
theorem dJ9_abs_0f7a4_0 : decode cJ9_abs_0f7a4 0 = .ok (.iload_n 0, 1) := by decide +kernel
theorem dJ9_abs_0f7a4_1 : decode cJ9_abs_0f7a4 1 = .ok (.ifCond .ge 8, 3) := by decide +kernel
theorem dJ9_abs_0f7a4_4 : decode cJ9_abs_0f7a4 4 = .ok (.iload_n 0, 1) := by decide +kernel
theorem dJ9_abs_0f7a4_5 : decode cJ9_abs_0f7a4 5 = .ok (.ineg, 1) := by decide +kernel
theorem dJ9_abs_0f7a4_6 : decode cJ9_abs_0f7a4 6 = .ok (.goto 4, 3) := by decide +kernel
theorem dJ9_abs_0f7a4_9 : decode cJ9_abs_0f7a4 9 = .ok (.iload_n 0, 1) := by decide +kernel
theorem dJ9_abs_0f7a4_10 : decode cJ9_abs_0f7a4 10 = .ok (.ireturn, 1) := by decide +kernel
def B_J9_abs_0f7a4_0 (X : Nat × (Nat → Int32)) (J : Nat → zCf) (R : zRt) : zCf := oILOAD 0 (oIFGE (J 9) (oILOAD 0 (oINEG (J 10))))
set_option maxRecDepth 100000 in
theorem vb_J9_abs_0f7a4_0 {X : Nat × (Nat → Int32)} {R : zRt} : ∀ ls st h, B_J9_abs_0f7a4_0 X (zV X M_J9_abs_0f7a4 (zQm M_J9_abs_0f7a4 R) 0 0) R ls st h → zV X M_J9_abs_0f7a4 (zQm M_J9_abs_0f7a4 R) 0 0 0 ls st h := sd_iload_n dJ9_abs_0f7a4_0 rfl (sd_ifge dJ9_abs_0f7a4_1 rfl (fun _ _ _ h => h) (sd_iload_n dJ9_abs_0f7a4_4 rfl (sd_ineg dJ9_abs_0f7a4_5 (sd_goto dJ9_abs_0f7a4_6 rfl (fun _ _ _ h => h)))))
def B_J9_abs_0f7a4_9 (X : Nat × (Nat → Int32)) (J : Nat → zCf) (R : zRt) : zCf := oILOAD 0 (J 10)
set_option maxRecDepth 100000 in
theorem vb_J9_abs_0f7a4_9 {X : Nat × (Nat → Int32)} {R : zRt} : ∀ ls st h, B_J9_abs_0f7a4_9 X (zV X M_J9_abs_0f7a4 (zQm M_J9_abs_0f7a4 R) 0 0) R ls st h → zV X M_J9_abs_0f7a4 (zQm M_J9_abs_0f7a4 R) 0 0 9 ls st h := sd_iload_n dJ9_abs_0f7a4_9 rfl (fun _ _ _ h => h)
def B_J9_abs_0f7a4_10 (X : Nat × (Nat → Int32)) (J : Nat → zCf) (R : zRt) : zCf := oIRET R
set_option maxRecDepth 100000 in
theorem vb_J9_abs_0f7a4_10 {X : Nat × (Nat → Int32)} {R : zRt} : ∀ ls st h, B_J9_abs_0f7a4_10 X (zV X M_J9_abs_0f7a4 (zQm M_J9_abs_0f7a4 R) 0 0) R ls st h → zV X M_J9_abs_0f7a4 (zQm M_J9_abs_0f7a4 R) 0 0 10 ls st h := sd_iret dJ9_abs_0f7a4_10 rfl (Nat.le_of_ble_eq_true rfl) (Nat.le_of_ble_eq_true rfl)
theorem dJ9_max_7cf53_0 : decode cJ9_max_7cf53 0 = .ok (.iload_n 0, 1) := by decide +kernel
theorem dJ9_max_7cf53_1 : decode cJ9_max_7cf53 1 = .ok (.iload_n 1, 1) := by decide +kernel
theorem dJ9_max_7cf53_2 : decode cJ9_max_7cf53 2 = .ok (.if_icmp .lt 7, 3) := by decide +kernel
theorem dJ9_max_7cf53_5 : decode cJ9_max_7cf53 5 = .ok (.iload_n 0, 1) := by decide +kernel
theorem dJ9_max_7cf53_6 : decode cJ9_max_7cf53 6 = .ok (.goto 4, 3) := by decide +kernel
theorem dJ9_max_7cf53_9 : decode cJ9_max_7cf53 9 = .ok (.iload_n 1, 1) := by decide +kernel
theorem dJ9_max_7cf53_10 : decode cJ9_max_7cf53 10 = .ok (.ireturn, 1) := by decide +kernel
def B_J9_max_7cf53_0 (X : Nat × (Nat → Int32)) (J : Nat → zCf) (R : zRt) : zCf := oILOAD 0 (oILOAD 1 (oICLT (J 9) (oILOAD 0 (J 10))))
set_option maxRecDepth 100000 in
theorem vb_J9_max_7cf53_0 {X : Nat × (Nat → Int32)} {R : zRt} : ∀ ls st h, B_J9_max_7cf53_0 X (zV X M_J9_max_7cf53 (zQm M_J9_max_7cf53 R) 0 0) R ls st h → zV X M_J9_max_7cf53 (zQm M_J9_max_7cf53 R) 0 0 0 ls st h := sd_iload_n dJ9_max_7cf53_0 rfl (sd_iload_n dJ9_max_7cf53_1 rfl (sd_iclt dJ9_max_7cf53_2 rfl (fun _ _ _ h => h) (sd_iload_n dJ9_max_7cf53_5 rfl (sd_goto dJ9_max_7cf53_6 rfl (fun _ _ _ h => h)))))
def B_J9_max_7cf53_9 (X : Nat × (Nat → Int32)) (J : Nat → zCf) (R : zRt) : zCf := oILOAD 1 (J 10)
set_option maxRecDepth 100000 in
theorem vb_J9_max_7cf53_9 {X : Nat × (Nat → Int32)} {R : zRt} : ∀ ls st h, B_J9_max_7cf53_9 X (zV X M_J9_max_7cf53 (zQm M_J9_max_7cf53 R) 0 0) R ls st h → zV X M_J9_max_7cf53 (zQm M_J9_max_7cf53 R) 0 0 9 ls st h := sd_iload_n dJ9_max_7cf53_9 rfl (fun _ _ _ h => h)
def B_J9_max_7cf53_10 (X : Nat × (Nat → Int32)) (J : Nat → zCf) (R : zRt) : zCf := oIRET R
set_option maxRecDepth 100000 in
theorem vb_J9_max_7cf53_10 {X : Nat × (Nat → Int32)} {R : zRt} : ∀ ls st h, B_J9_max_7cf53_10 X (zV X M_J9_max_7cf53 (zQm M_J9_max_7cf53 R) 0 0) R ls st h → zV X M_J9_max_7cf53 (zQm M_J9_max_7cf53 R) 0 0 10 ls st h := sd_iret dJ9_max_7cf53_10 rfl (Nat.le_of_ble_eq_true rfl) (Nat.le_of_ble_eq_true rfl)
theorem dJ9_min_7cf53_0 : decode cJ9_min_7cf53 0 = .ok (.iload_n 0, 1) := by decide +kernel
theorem dJ9_min_7cf53_1 : decode cJ9_min_7cf53 1 = .ok (.iload_n 1, 1) := by decide +kernel
theorem dJ9_min_7cf53_2 : decode cJ9_min_7cf53 2 = .ok (.if_icmp .gt 7, 3) := by decide +kernel
theorem dJ9_min_7cf53_5 : decode cJ9_min_7cf53 5 = .ok (.iload_n 0, 1) := by decide +kernel
theorem dJ9_min_7cf53_6 : decode cJ9_min_7cf53 6 = .ok (.goto 4, 3) := by decide +kernel
theorem dJ9_min_7cf53_9 : decode cJ9_min_7cf53 9 = .ok (.iload_n 1, 1) := by decide +kernel
theorem dJ9_min_7cf53_10 : decode cJ9_min_7cf53 10 = .ok (.ireturn, 1) := by decide +kernel
def B_J9_min_7cf53_0 (X : Nat × (Nat → Int32)) (J : Nat → zCf) (R : zRt) : zCf := oILOAD 0 (oILOAD 1 (oICGT (J 9) (oILOAD 0 (J 10))))
set_option maxRecDepth 100000 in
theorem vb_J9_min_7cf53_0 {X : Nat × (Nat → Int32)} {R : zRt} : ∀ ls st h, B_J9_min_7cf53_0 X (zV X M_J9_min_7cf53 (zQm M_J9_min_7cf53 R) 0 0) R ls st h → zV X M_J9_min_7cf53 (zQm M_J9_min_7cf53 R) 0 0 0 ls st h := sd_iload_n dJ9_min_7cf53_0 rfl (sd_iload_n dJ9_min_7cf53_1 rfl (sd_icgt dJ9_min_7cf53_2 rfl (fun _ _ _ h => h) (sd_iload_n dJ9_min_7cf53_5 rfl (sd_goto dJ9_min_7cf53_6 rfl (fun _ _ _ h => h)))))
def B_J9_min_7cf53_9 (X : Nat × (Nat → Int32)) (J : Nat → zCf) (R : zRt) : zCf := oILOAD 1 (J 10)
set_option maxRecDepth 100000 in
theorem vb_J9_min_7cf53_9 {X : Nat × (Nat → Int32)} {R : zRt} : ∀ ls st h, B_J9_min_7cf53_9 X (zV X M_J9_min_7cf53 (zQm M_J9_min_7cf53 R) 0 0) R ls st h → zV X M_J9_min_7cf53 (zQm M_J9_min_7cf53 R) 0 0 9 ls st h := sd_iload_n dJ9_min_7cf53_9 rfl (fun _ _ _ h => h)
def B_J9_min_7cf53_10 (X : Nat × (Nat → Int32)) (J : Nat → zCf) (R : zRt) : zCf := oIRET R
set_option maxRecDepth 100000 in
theorem vb_J9_min_7cf53_10 {X : Nat × (Nat → Int32)} {R : zRt} : ∀ ls st h, B_J9_min_7cf53_10 X (zV X M_J9_min_7cf53 (zQm M_J9_min_7cf53 R) 0 0) R ls st h → zV X M_J9_min_7cf53 (zQm M_J9_min_7cf53 R) 0 0 10 ls st h := sd_iret dJ9_min_7cf53_10 rfl (Nat.le_of_ble_eq_true rfl) (Nat.le_of_ble_eq_true rfl)
