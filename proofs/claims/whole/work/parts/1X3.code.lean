theorem dX3_shiftOf_0 : decode cX3_shiftOf 0 = .ok (.iload_n 0, 1) := by decide +kernel
theorem dX3_shiftOf_1 : decode cX3_shiftOf 1 = .ok (.bipush 12, 2) := by decide +kernel
theorem dX3_shiftOf_3 : decode cX3_shiftOf 3 = .ok (.invokestatic 28, 3) := by decide +kernel
theorem dX3_shiftOf_6 : decode cX3_shiftOf 6 = .ok (.bipush 12, 2) := by decide +kernel
theorem dX3_shiftOf_8 : decode cX3_shiftOf 8 = .ok (.imul, 1) := by decide +kernel
theorem dX3_shiftOf_9 : decode cX3_shiftOf 9 = .ok (.iload_n 1, 1) := by decide +kernel
theorem dX3_shiftOf_10 : decode cX3_shiftOf 10 = .ok (.bipush 12, 2) := by decide +kernel
theorem dX3_shiftOf_12 : decode cX3_shiftOf 12 = .ok (.invokestatic 28, 3) := by decide +kernel
theorem dX3_shiftOf_15 : decode cX3_shiftOf 15 = .ok (.iadd, 1) := by decide +kernel
theorem dX3_shiftOf_16 : decode cX3_shiftOf 16 = .ok (.ireturn, 1) := by decide +kernel
def B_X3_shiftOf_0 (X : Nat × (Nat → Int32)) (J : Nat → zCf) (R : zRt) : zCf := oILOAD 0 (oPI (zj (12)) (oINS2 X M_J9_floorMod_7cf53 (oPI (zj (12)) (oIMUL (oILOAD 1 (oPI (zj (12)) (oINS2 X M_J9_floorMod_7cf53 (oIADD (oIRET R)))))))))
set_option maxRecDepth 100000 in
theorem vb_X3_shiftOf_0 {X : Nat × (Nat → Int32)} {R : zRt} : ∀ ls st h, B_X3_shiftOf_0 X (zV X M_X3_shiftOf (zQm M_X3_shiftOf R) 0 0) R ls st h → zV X M_X3_shiftOf (zQm M_X3_shiftOf R) 0 0 0 ls st h := sd_iload_n dX3_shiftOf_0 rfl (sd_bipush dX3_shiftOf_1 rfl (sd_ins2 dX3_shiftOf_3 ms_J9_floorMod_7cf53 na_J9_floorMod_7cf53 ml_RX3_28 ⟨⟨Nat.le_of_ble_eq_true rfl, Nat.le_of_ble_eq_true rfl⟩, ⟨Nat.le_of_ble_eq_true rfl, Nat.le_of_ble_eq_true rfl⟩⟩ (sd_bipush dX3_shiftOf_6 rfl (sd_imul dX3_shiftOf_8 (sd_iload_n dX3_shiftOf_9 rfl (sd_bipush dX3_shiftOf_10 rfl (sd_ins2 dX3_shiftOf_12 ms_J9_floorMod_7cf53 na_J9_floorMod_7cf53 ml_RX3_28 ⟨⟨Nat.le_of_ble_eq_true rfl, Nat.le_of_ble_eq_true rfl⟩, ⟨Nat.le_of_ble_eq_true rfl, Nat.le_of_ble_eq_true rfl⟩⟩ (sd_iadd dX3_shiftOf_15 (sd_iret dX3_shiftOf_16 rfl (Nat.le_of_ble_eq_true rfl) (Nat.le_of_ble_eq_true rfl))))))))))
theorem dX3_aim_0 : decode cX3_aim 0 = .ok (.aload_n 0, 1) := by decide +kernel
theorem dX3_aim_1 : decode cX3_aim 1 = .ok (.getfield 16, 3) := by decide +kernel
theorem dX3_aim_4 : decode cX3_aim 4 = .ok (.iload_n 1, 1) := by decide +kernel
theorem dX3_aim_5 : decode cX3_aim 5 = .ok (.iload_n 2, 1) := by decide +kernel
theorem dX3_aim_6 : decode cX3_aim 6 = .ok (.invokestatic 24, 3) := by decide +kernel
theorem dX3_aim_9 : decode cX3_aim 9 = .ok (.iload_n 3, 1) := by decide +kernel
theorem dX3_aim_10 : decode cX3_aim 10 = .ok (.bastore, 1) := by decide +kernel
theorem dX3_aim_11 : decode cX3_aim 11 = .ok (.return_, 1) := by decide +kernel
def B_X3_aim_0 (X : Nat × (Nat → Int32)) (J : Nat → zCf) (R : zRt) : zCf := oALOAD 0 (oGETR 3 1 (oILOAD 1 (oILOAD 2 (oINS2 X M_X3_shiftOf (oILOAD 3 (oZAST (oVRET R)))))))
set_option maxRecDepth 100000 in
theorem vb_X3_aim_0 {X : Nat × (Nat → Int32)} {R : zRt} : ∀ ls st h, B_X3_aim_0 X (zV X M_X3_aim (zQm M_X3_aim R) 0 0) R ls st h → zV X M_X3_aim (zQm M_X3_aim R) 0 0 0 ls st h := sd_aload_n dX3_aim_0 rfl (sd_getr dX3_aim_1 zCl3 (Nat.le_of_ble_eq_true rfl) lk_RX3_16 (Or.inr ⟨_, rfl⟩) (sd_iload_n dX3_aim_4 rfl (sd_iload_n dX3_aim_5 rfl (sd_ins2 dX3_aim_6 ms_X3_shiftOf na_X3_shiftOf ml_RX3_24 ⟨⟨Nat.le_of_ble_eq_true rfl, Nat.le_of_ble_eq_true rfl⟩, ⟨Nat.le_of_ble_eq_true rfl, Nat.le_of_ble_eq_true rfl⟩⟩ (sd_iload_n dX3_aim_9 rfl (sd_zast dX3_aim_10 (sd_vret dX3_aim_11 rfl (Nat.le_of_ble_eq_true rfl) (Nat.le_of_ble_eq_true rfl))))))))
theorem dX3_rowsToGoal_0 : decode cX3_rowsToGoal 0 = .ok (.iload_n 1, 1) := by decide +kernel
theorem dX3_rowsToGoal_1 : decode cX3_rowsToGoal 1 = .ok (.ifCond .lt 8, 3) := by decide +kernel
theorem dX3_rowsToGoal_4 : decode cX3_rowsToGoal 4 = .ok (.iload_n 1, 1) := by decide +kernel
theorem dX3_rowsToGoal_5 : decode cX3_rowsToGoal 5 = .ok (.iconst 5, 1) := by decide +kernel
theorem dX3_rowsToGoal_6 : decode cX3_rowsToGoal 6 = .ok (.if_icmp .le 5, 3) := by decide +kernel
theorem dX3_rowsToGoal_9 : decode cX3_rowsToGoal 9 = .ok (.iconst 0, 1) := by decide +kernel
theorem dX3_rowsToGoal_10 : decode cX3_rowsToGoal 10 = .ok (.ireturn, 1) := by decide +kernel
theorem dX3_rowsToGoal_11 : decode cX3_rowsToGoal 11 = .ok (.iconst 0, 1) := by decide +kernel
theorem dX3_rowsToGoal_12 : decode cX3_rowsToGoal 12 = .ok (.istore 4, 2) := by decide +kernel
theorem dX3_rowsToGoal_14 : decode cX3_rowsToGoal 14 = .ok (.iconst 0, 1) := by decide +kernel
theorem dX3_rowsToGoal_15 : decode cX3_rowsToGoal 15 = .ok (.istore 5, 2) := by decide +kernel
theorem dX3_rowsToGoal_17 : decode cX3_rowsToGoal 17 = .ok (.iload 5, 2) := by decide +kernel
theorem dX3_rowsToGoal_19 : decode cX3_rowsToGoal 19 = .ok (.sipush 144, 3) := by decide +kernel
theorem dX3_rowsToGoal_22 : decode cX3_rowsToGoal 22 = .ok (.if_icmp .ge 60, 3) := by decide +kernel
theorem dX3_rowsToGoal_25 : decode cX3_rowsToGoal 25 = .ok (.aload_n 0, 1) := by decide +kernel
theorem dX3_rowsToGoal_26 : decode cX3_rowsToGoal 26 = .ok (.getfield 13, 3) := by decide +kernel
theorem dX3_rowsToGoal_29 : decode cX3_rowsToGoal 29 = .ok (.iload_n 1, 1) := by decide +kernel
theorem dX3_rowsToGoal_30 : decode cX3_rowsToGoal 30 = .ok (.aaload, 1) := by decide +kernel
theorem dX3_rowsToGoal_31 : decode cX3_rowsToGoal 31 = .ok (.iload 5, 2) := by decide +kernel
theorem dX3_rowsToGoal_33 : decode cX3_rowsToGoal 33 = .ok (.iaload, 1) := by decide +kernel
theorem dX3_rowsToGoal_34 : decode cX3_rowsToGoal 34 = .ok (.ifCond .le 42, 3) := by decide +kernel
theorem dX3_rowsToGoal_37 : decode cX3_rowsToGoal 37 = .ok (.aload_n 0, 1) := by decide +kernel
theorem dX3_rowsToGoal_38 : decode cX3_rowsToGoal 38 = .ok (.getfield 16, 3) := by decide +kernel
theorem dX3_rowsToGoal_41 : decode cX3_rowsToGoal 41 = .ok (.iload_n 2, 1) := by decide +kernel
theorem dX3_rowsToGoal_42 : decode cX3_rowsToGoal 42 = .ok (.iload 5, 2) := by decide +kernel
theorem dX3_rowsToGoal_44 : decode cX3_rowsToGoal 44 = .ok (.bipush 12, 2) := by decide +kernel
theorem dX3_rowsToGoal_46 : decode cX3_rowsToGoal 46 = .ok (.idiv, 1) := by decide +kernel
theorem dX3_rowsToGoal_47 : decode cX3_rowsToGoal 47 = .ok (.iadd, 1) := by decide +kernel
theorem dX3_rowsToGoal_48 : decode cX3_rowsToGoal 48 = .ok (.iload_n 3, 1) := by decide +kernel
theorem dX3_rowsToGoal_49 : decode cX3_rowsToGoal 49 = .ok (.iload 5, 2) := by decide +kernel
theorem dX3_rowsToGoal_51 : decode cX3_rowsToGoal 51 = .ok (.bipush 12, 2) := by decide +kernel
theorem dX3_rowsToGoal_53 : decode cX3_rowsToGoal 53 = .ok (.irem, 1) := by decide +kernel
theorem dX3_rowsToGoal_54 : decode cX3_rowsToGoal 54 = .ok (.iadd, 1) := by decide +kernel
theorem dX3_rowsToGoal_55 : decode cX3_rowsToGoal 55 = .ok (.invokestatic 24, 3) := by decide +kernel
theorem dX3_rowsToGoal_58 : decode cX3_rowsToGoal 58 = .ok (.baload, 1) := by decide +kernel
theorem dX3_rowsToGoal_59 : decode cX3_rowsToGoal 59 = .ok (.ifCond .eq 17, 3) := by decide +kernel
theorem dX3_rowsToGoal_62 : decode cX3_rowsToGoal 62 = .ok (.iload 4, 2) := by decide +kernel
theorem dX3_rowsToGoal_64 : decode cX3_rowsToGoal 64 = .ok (.aload_n 0, 1) := by decide +kernel
theorem dX3_rowsToGoal_65 : decode cX3_rowsToGoal 65 = .ok (.getfield 13, 3) := by decide +kernel
theorem dX3_rowsToGoal_68 : decode cX3_rowsToGoal 68 = .ok (.iload_n 1, 1) := by decide +kernel
theorem dX3_rowsToGoal_69 : decode cX3_rowsToGoal 69 = .ok (.aaload, 1) := by decide +kernel
theorem dX3_rowsToGoal_70 : decode cX3_rowsToGoal 70 = .ok (.iload 5, 2) := by decide +kernel
theorem dX3_rowsToGoal_72 : decode cX3_rowsToGoal 72 = .ok (.iaload, 1) := by decide +kernel
theorem dX3_rowsToGoal_73 : decode cX3_rowsToGoal 73 = .ok (.iadd, 1) := by decide +kernel
theorem dX3_rowsToGoal_74 : decode cX3_rowsToGoal 74 = .ok (.istore 4, 2) := by decide +kernel
theorem dX3_rowsToGoal_76 : decode cX3_rowsToGoal 76 = .ok (.iinc 5 1, 3) := by decide +kernel
theorem dX3_rowsToGoal_79 : decode cX3_rowsToGoal 79 = .ok (.goto (-62), 3) := by decide +kernel
theorem dX3_rowsToGoal_82 : decode cX3_rowsToGoal 82 = .ok (.iload 4, 2) := by decide +kernel
theorem dX3_rowsToGoal_84 : decode cX3_rowsToGoal 84 = .ok (.ireturn, 1) := by decide +kernel
def B_X3_rowsToGoal_0 (X : Nat × (Nat → Int32)) (J : Nat → zCf) (R : zRt) : zCf := oILOAD 1 (oIFLT (J 9) (oILOAD 1 (oPI (zj (5)) (oICLE (J 11) (J 9)))))
set_option maxRecDepth 100000 in
theorem vb_X3_rowsToGoal_0 {X : Nat × (Nat → Int32)} {R : zRt} : ∀ ls st h, B_X3_rowsToGoal_0 X (zV X M_X3_rowsToGoal (zQm M_X3_rowsToGoal R) 0 0) R ls st h → zV X M_X3_rowsToGoal (zQm M_X3_rowsToGoal R) 0 0 0 ls st h := sd_iload_n dX3_rowsToGoal_0 rfl (sd_iflt dX3_rowsToGoal_1 rfl (fun _ _ _ h => h) (sd_iload_n dX3_rowsToGoal_4 rfl (sd_iconst dX3_rowsToGoal_5 rfl (sd_icle dX3_rowsToGoal_6 rfl (fun _ _ _ h => h) (fun _ _ _ h => h)))))
def B_X3_rowsToGoal_9 (X : Nat × (Nat → Int32)) (J : Nat → zCf) (R : zRt) : zCf := oPI (zj (0)) (oIRET R)
set_option maxRecDepth 100000 in
theorem vb_X3_rowsToGoal_9 {X : Nat × (Nat → Int32)} {R : zRt} : ∀ ls st h, B_X3_rowsToGoal_9 X (zV X M_X3_rowsToGoal (zQm M_X3_rowsToGoal R) 0 0) R ls st h → zV X M_X3_rowsToGoal (zQm M_X3_rowsToGoal R) 0 0 9 ls st h := sd_iconst dX3_rowsToGoal_9 rfl (sd_iret dX3_rowsToGoal_10 rfl (Nat.le_of_ble_eq_true rfl) (Nat.le_of_ble_eq_true rfl))
def B_X3_rowsToGoal_11 (X : Nat × (Nat → Int32)) (J : Nat → zCf) (R : zRt) : zCf := oPI (zj (0)) (oISTORE 3 4 (oPI (zj (0)) (oISTORE 4 5 (J 17))))
set_option maxRecDepth 100000 in
theorem vb_X3_rowsToGoal_11 {X : Nat × (Nat → Int32)} {R : zRt} : ∀ ls st h, B_X3_rowsToGoal_11 X (zV X M_X3_rowsToGoal (zQm M_X3_rowsToGoal R) 0 0) R ls st h → zV X M_X3_rowsToGoal (zQm M_X3_rowsToGoal R) 0 0 11 ls st h := sd_iconst dX3_rowsToGoal_11 rfl (sd_istore dX3_rowsToGoal_12 (Nat.le_of_ble_eq_true rfl) (Or.inl rfl) (sd_iconst dX3_rowsToGoal_14 rfl (sd_istore dX3_rowsToGoal_15 (Nat.le_of_ble_eq_true rfl) (Or.inl rfl) (fun _ _ _ h => h))))
def B_X3_rowsToGoal_17 (X : Nat × (Nat → Int32)) (J : Nat → zCf) (R : zRt) : zCf := oILOAD 5 (oPI (zj (144)) (oICGE (J 82) (oALOAD 0 (oGETR 3 0 (oILOAD 1 (oAALD (oILOAD 5 (oIALD (oIFLE (J 76) (oALOAD 0 (oGETR 3 1 (oILOAD 2 (oILOAD 5 (oPI (zj (12)) (oIDIV (oIADD (oILOAD 3 (oILOAD 5 (oPI (zj (12)) (oIREM (oIADD (oINS2 X M_X3_shiftOf (oZALD (oIFEQ (J 76) (oILOAD 4 (oALOAD 0 (oGETR 3 0 (oILOAD 1 (oAALD (oILOAD 5 (oIALD (oIADD (oISTORE 3 4 (J 76))))))))))))))))))))))))))))))))))
set_option maxRecDepth 100000 in
theorem vb_X3_rowsToGoal_17 {X : Nat × (Nat → Int32)} {R : zRt} : ∀ ls st h, B_X3_rowsToGoal_17 X (zV X M_X3_rowsToGoal (zQm M_X3_rowsToGoal R) 0 0) R ls st h → zV X M_X3_rowsToGoal (zQm M_X3_rowsToGoal R) 0 0 17 ls st h := sd_iload dX3_rowsToGoal_17 (sd_sipush dX3_rowsToGoal_19 rfl (sd_icge dX3_rowsToGoal_22 rfl (fun _ _ _ h => h) (sd_aload_n dX3_rowsToGoal_25 rfl (sd_getr dX3_rowsToGoal_26 zCl3 (Nat.le_of_ble_eq_true rfl) lk_RX3_13 (Or.inr ⟨_, rfl⟩) (sd_iload_n dX3_rowsToGoal_29 rfl (sd_aald dX3_rowsToGoal_30 (sd_iload dX3_rowsToGoal_31 (sd_iald dX3_rowsToGoal_33 (sd_ifle dX3_rowsToGoal_34 rfl (fun _ _ _ h => h) (sd_aload_n dX3_rowsToGoal_37 rfl (sd_getr dX3_rowsToGoal_38 zCl3 (Nat.le_of_ble_eq_true rfl) lk_RX3_16 (Or.inr ⟨_, rfl⟩) (sd_iload_n dX3_rowsToGoal_41 rfl (sd_iload dX3_rowsToGoal_42 (sd_bipush dX3_rowsToGoal_44 rfl (sd_idiv dX3_rowsToGoal_46 (sd_iadd dX3_rowsToGoal_47 (sd_iload_n dX3_rowsToGoal_48 rfl (sd_iload dX3_rowsToGoal_49 (sd_bipush dX3_rowsToGoal_51 rfl (sd_irem dX3_rowsToGoal_53 (sd_iadd dX3_rowsToGoal_54 (sd_ins2 dX3_rowsToGoal_55 ms_X3_shiftOf na_X3_shiftOf ml_RX3_24 ⟨⟨Nat.le_of_ble_eq_true rfl, Nat.le_of_ble_eq_true rfl⟩, ⟨Nat.le_of_ble_eq_true rfl, Nat.le_of_ble_eq_true rfl⟩⟩ (sd_zald dX3_rowsToGoal_58 (sd_ifeq dX3_rowsToGoal_59 rfl (fun _ _ _ h => h) (sd_iload dX3_rowsToGoal_62 (sd_aload_n dX3_rowsToGoal_64 rfl (sd_getr dX3_rowsToGoal_65 zCl3 (Nat.le_of_ble_eq_true rfl) lk_RX3_13 (Or.inr ⟨_, rfl⟩) (sd_iload_n dX3_rowsToGoal_68 rfl (sd_aald dX3_rowsToGoal_69 (sd_iload dX3_rowsToGoal_70 (sd_iald dX3_rowsToGoal_72 (sd_iadd dX3_rowsToGoal_73 (sd_istore dX3_rowsToGoal_74 (Nat.le_of_ble_eq_true rfl) (Or.inl rfl) (fun _ _ _ h => h))))))))))))))))))))))))))))))))))
def B_X3_rowsToGoal_76 (X : Nat × (Nat → Int32)) (J : Nat → zCf) (R : zRt) : zCf := oIINC 4 5 (zj (1)) (J 17)
set_option maxRecDepth 100000 in
theorem vb_X3_rowsToGoal_76 {X : Nat × (Nat → Int32)} {R : zRt} : ∀ ls st h, B_X3_rowsToGoal_76 X (zV X M_X3_rowsToGoal (zQm M_X3_rowsToGoal R) 0 0) R ls st h → zV X M_X3_rowsToGoal (zQm M_X3_rowsToGoal R) 0 0 76 ls st h := sd_iinc dX3_rowsToGoal_76 rfl (Nat.le_of_ble_eq_true rfl) (Or.inl rfl) (sd_goto dX3_rowsToGoal_79 rfl (fun _ _ _ h => h))
def B_X3_rowsToGoal_82 (X : Nat × (Nat → Int32)) (J : Nat → zCf) (R : zRt) : zCf := oILOAD 4 (oIRET R)
set_option maxRecDepth 100000 in
theorem vb_X3_rowsToGoal_82 {X : Nat × (Nat → Int32)} {R : zRt} : ∀ ls st h, B_X3_rowsToGoal_82 X (zV X M_X3_rowsToGoal (zQm M_X3_rowsToGoal R) 0 0) R ls st h → zV X M_X3_rowsToGoal (zQm M_X3_rowsToGoal R) 0 0 82 ls st h := sd_iload dX3_rowsToGoal_82 (sd_iret dX3_rowsToGoal_84 rfl (Nat.le_of_ble_eq_true rfl) (Nat.le_of_ble_eq_true rfl))
theorem dX3_fewestTurns_0 : decode cX3_fewestTurns 0 = .ok (.iconst 0, 1) := by decide +kernel
theorem dX3_fewestTurns_1 : decode cX3_fewestTurns 1 = .ok (.istore_n 2, 1) := by decide +kernel
theorem dX3_fewestTurns_2 : decode cX3_fewestTurns 2 = .ok (.iload_n 2, 1) := by decide +kernel
theorem dX3_fewestTurns_3 : decode cX3_fewestTurns 3 = .ok (.iload_n 1, 1) := by decide +kernel
theorem dX3_fewestTurns_4 : decode cX3_fewestTurns 4 = .ok (.if_icmp .gt 21, 3) := by decide +kernel
theorem dX3_fewestTurns_7 : decode cX3_fewestTurns 7 = .ok (.aload_n 0, 1) := by decide +kernel
theorem dX3_fewestTurns_8 : decode cX3_fewestTurns 8 = .ok (.iload_n 2, 1) := by decide +kernel
theorem dX3_fewestTurns_9 : decode cX3_fewestTurns 9 = .ok (.iconst 0, 1) := by decide +kernel
theorem dX3_fewestTurns_10 : decode cX3_fewestTurns 10 = .ok (.iconst 0, 1) := by decide +kernel
theorem dX3_fewestTurns_11 : decode cX3_fewestTurns 11 = .ok (.invokevirtual 33, 3) := by decide +kernel
theorem dX3_fewestTurns_14 : decode cX3_fewestTurns 14 = .ok (.ifCond .le 5, 3) := by decide +kernel
theorem dX3_fewestTurns_17 : decode cX3_fewestTurns 17 = .ok (.iload_n 2, 1) := by decide +kernel
theorem dX3_fewestTurns_18 : decode cX3_fewestTurns 18 = .ok (.ireturn, 1) := by decide +kernel
theorem dX3_fewestTurns_19 : decode cX3_fewestTurns 19 = .ok (.iinc 2 1, 3) := by decide +kernel
theorem dX3_fewestTurns_22 : decode cX3_fewestTurns 22 = .ok (.goto (-20), 3) := by decide +kernel
theorem dX3_fewestTurns_25 : decode cX3_fewestTurns 25 = .ok (.bipush (-2), 2) := by decide +kernel
theorem dX3_fewestTurns_27 : decode cX3_fewestTurns 27 = .ok (.ireturn, 1) := by decide +kernel
def B_X3_fewestTurns_0 (X : Nat × (Nat → Int32)) (J : Nat → zCf) (R : zRt) : zCf := oPI (zj (0)) (oISTORE 1 2 (J 2))
set_option maxRecDepth 100000 in
theorem vb_X3_fewestTurns_0 {X : Nat × (Nat → Int32)} {R : zRt} : ∀ ls st h, B_X3_fewestTurns_0 X (zV X M_X3_fewestTurns (zQm M_X3_fewestTurns R) 0 0) R ls st h → zV X M_X3_fewestTurns (zQm M_X3_fewestTurns R) 0 0 0 ls st h := sd_iconst dX3_fewestTurns_0 rfl (sd_istore_n dX3_fewestTurns_1 rfl (Nat.le_of_ble_eq_true rfl) (Or.inl rfl) (fun _ _ _ h => h))
def B_X3_fewestTurns_2 (X : Nat × (Nat → Int32)) (J : Nat → zCf) (R : zRt) : zCf := oILOAD 2 (oILOAD 1 (oICGT (J 25) (oALOAD 0 (oILOAD 2 (oPI (zj (0)) (oPI (zj (0)) (oINV3 X M_X3_rowsToGoal 3 (oIFLE (J 19) (oILOAD 2 (oIRET R))))))))))
set_option maxRecDepth 100000 in
theorem vb_X3_fewestTurns_2 {X : Nat × (Nat → Int32)} {R : zRt} : ∀ ls st h, B_X3_fewestTurns_2 X (zV X M_X3_fewestTurns (zQm M_X3_fewestTurns R) 0 0) R ls st h → zV X M_X3_fewestTurns (zQm M_X3_fewestTurns R) 0 0 2 ls st h := sd_iload_n dX3_fewestTurns_2 rfl (sd_iload_n dX3_fewestTurns_3 rfl (sd_icgt dX3_fewestTurns_4 rfl (fun _ _ _ h => h) (sd_aload_n dX3_fewestTurns_7 rfl (sd_iload_n dX3_fewestTurns_8 rfl (sd_iconst dX3_fewestTurns_9 rfl (sd_iconst dX3_fewestTurns_10 rfl (sd_inv3 dX3_fewestTurns_11 rfl mv_X3_rowsToGoal na_X3_rowsToGoal ml_RX3_33 ⟨⟨Nat.le_of_ble_eq_true rfl, Nat.le_of_ble_eq_true rfl⟩, ⟨Nat.le_of_ble_eq_true rfl, Nat.le_of_ble_eq_true rfl⟩⟩ (sd_ifle dX3_fewestTurns_14 rfl (fun _ _ _ h => h) (sd_iload_n dX3_fewestTurns_17 rfl (sd_iret dX3_fewestTurns_18 rfl (Nat.le_of_ble_eq_true rfl) (Nat.le_of_ble_eq_true rfl)))))))))))
def B_X3_fewestTurns_19 (X : Nat × (Nat → Int32)) (J : Nat → zCf) (R : zRt) : zCf := oIINC 1 2 (zj (1)) (J 2)
set_option maxRecDepth 100000 in
theorem vb_X3_fewestTurns_19 {X : Nat × (Nat → Int32)} {R : zRt} : ∀ ls st h, B_X3_fewestTurns_19 X (zV X M_X3_fewestTurns (zQm M_X3_fewestTurns R) 0 0) R ls st h → zV X M_X3_fewestTurns (zQm M_X3_fewestTurns R) 0 0 19 ls st h := sd_iinc dX3_fewestTurns_19 rfl (Nat.le_of_ble_eq_true rfl) (Or.inl rfl) (sd_goto dX3_fewestTurns_22 rfl (fun _ _ _ h => h))
def B_X3_fewestTurns_25 (X : Nat × (Nat → Int32)) (J : Nat → zCf) (R : zRt) : zCf := oPI (zj (-2)) (oIRET R)
set_option maxRecDepth 100000 in
theorem vb_X3_fewestTurns_25 {X : Nat × (Nat → Int32)} {R : zRt} : ∀ ls st h, B_X3_fewestTurns_25 X (zV X M_X3_fewestTurns (zQm M_X3_fewestTurns R) 0 0) R ls st h → zV X M_X3_fewestTurns (zQm M_X3_fewestTurns R) 0 0 25 ls st h := sd_bipush dX3_fewestTurns_25 rfl (sd_iret dX3_fewestTurns_27 rfl (Nat.le_of_ble_eq_true rfl) (Nat.le_of_ble_eq_true rfl))
theorem dX3_rowAt_0 : decode cX3_rowAt 0 = .ok (.iconst 0, 1) := by decide +kernel
theorem dX3_rowAt_1 : decode cX3_rowAt 1 = .ok (.istore_n 3, 1) := by decide +kernel
theorem dX3_rowAt_2 : decode cX3_rowAt 2 = .ok (.iconst 0, 1) := by decide +kernel
theorem dX3_rowAt_3 : decode cX3_rowAt 3 = .ok (.istore 4, 2) := by decide +kernel
theorem dX3_rowAt_5 : decode cX3_rowAt 5 = .ok (.iload_n 2, 1) := by decide +kernel
theorem dX3_rowAt_6 : decode cX3_rowAt 6 = .ok (.istore 5, 2) := by decide +kernel
theorem dX3_rowAt_8 : decode cX3_rowAt 8 = .ok (.iconst 0, 1) := by decide +kernel
theorem dX3_rowAt_9 : decode cX3_rowAt 9 = .ok (.istore 6, 2) := by decide +kernel
theorem dX3_rowAt_11 : decode cX3_rowAt 11 = .ok (.iload_n 1, 1) := by decide +kernel
theorem dX3_rowAt_12 : decode cX3_rowAt 12 = .ok (.iconst 1, 1) := by decide +kernel
theorem dX3_rowAt_13 : decode cX3_rowAt 13 = .ok (.isub, 1) := by decide +kernel
theorem dX3_rowAt_14 : decode cX3_rowAt 14 = .ok (.istore 7, 2) := by decide +kernel
theorem dX3_rowAt_16 : decode cX3_rowAt 16 = .ok (.iload 7, 2) := by decide +kernel
theorem dX3_rowAt_18 : decode cX3_rowAt 18 = .ok (.ifCond .lt 98, 3) := by decide +kernel
theorem dX3_rowAt_21 : decode cX3_rowAt 21 = .ok (.bipush (-3), 2) := by decide +kernel
theorem dX3_rowAt_23 : decode cX3_rowAt 23 = .ok (.istore 8, 2) := by decide +kernel
theorem dX3_rowAt_25 : decode cX3_rowAt 25 = .ok (.iload 8, 2) := by decide +kernel
theorem dX3_rowAt_27 : decode cX3_rowAt 27 = .ok (.iconst 3, 1) := by decide +kernel
theorem dX3_rowAt_28 : decode cX3_rowAt 28 = .ok (.if_icmp .ge 55, 3) := by decide +kernel
theorem dX3_rowAt_31 : decode cX3_rowAt 31 = .ok (.iload 8, 2) := by decide +kernel
theorem dX3_rowAt_33 : decode cX3_rowAt 33 = .ok (.ifCond .ne 7, 3) := by decide +kernel
theorem dX3_rowAt_36 : decode cX3_rowAt 36 = .ok (.iconst 0, 1) := by decide +kernel
theorem dX3_rowAt_37 : decode cX3_rowAt 37 = .ok (.goto 21, 3) := by decide +kernel
theorem dX3_rowAt_40 : decode cX3_rowAt 40 = .ok (.aload_n 0, 1) := by decide +kernel
theorem dX3_rowAt_41 : decode cX3_rowAt 41 = .ok (.iload 7, 2) := by decide +kernel
theorem dX3_rowAt_43 : decode cX3_rowAt 43 = .ok (.iload_n 3, 1) := by decide +kernel
theorem dX3_rowAt_44 : decode cX3_rowAt 44 = .ok (.iload 8, 2) := by decide +kernel
theorem dX3_rowAt_46 : decode cX3_rowAt 46 = .ok (.iadd, 1) := by decide +kernel
theorem dX3_rowAt_47 : decode cX3_rowAt 47 = .ok (.iload 4, 2) := by decide +kernel
theorem dX3_rowAt_49 : decode cX3_rowAt 49 = .ok (.iload 8, 2) := by decide +kernel
theorem dX3_rowAt_51 : decode cX3_rowAt 51 = .ok (.invokestatic 20, 3) := by decide +kernel
theorem dX3_rowAt_54 : decode cX3_rowAt 54 = .ok (.iadd, 1) := by decide +kernel
theorem dX3_rowAt_55 : decode cX3_rowAt 55 = .ok (.invokevirtual 33, 3) := by decide +kernel
theorem dX3_rowAt_58 : decode cX3_rowAt 58 = .ok (.istore 9, 2) := by decide +kernel
theorem dX3_rowAt_60 : decode cX3_rowAt 60 = .ok (.iload 5, 2) := by decide +kernel
theorem dX3_rowAt_62 : decode cX3_rowAt 62 = .ok (.iload 9, 2) := by decide +kernel
theorem dX3_rowAt_64 : decode cX3_rowAt 64 = .ok (.if_icmp .ge 6, 3) := by decide +kernel
theorem dX3_rowAt_67 : decode cX3_rowAt 67 = .ok (.goto 16, 3) := by decide +kernel
theorem dX3_rowAt_70 : decode cX3_rowAt 70 = .ok (.iload 5, 2) := by decide +kernel
theorem dX3_rowAt_72 : decode cX3_rowAt 72 = .ok (.iload 9, 2) := by decide +kernel
theorem dX3_rowAt_74 : decode cX3_rowAt 74 = .ok (.isub, 1) := by decide +kernel
theorem dX3_rowAt_75 : decode cX3_rowAt 75 = .ok (.istore 5, 2) := by decide +kernel
theorem dX3_rowAt_77 : decode cX3_rowAt 77 = .ok (.iinc 8 1, 3) := by decide +kernel
theorem dX3_rowAt_80 : decode cX3_rowAt 80 = .ok (.goto (-55), 3) := by decide +kernel
theorem dX3_rowAt_83 : decode cX3_rowAt 83 = .ok (.iload_n 3, 1) := by decide +kernel
theorem dX3_rowAt_84 : decode cX3_rowAt 84 = .ok (.iload 8, 2) := by decide +kernel
theorem dX3_rowAt_86 : decode cX3_rowAt 86 = .ok (.iadd, 1) := by decide +kernel
theorem dX3_rowAt_87 : decode cX3_rowAt 87 = .ok (.istore_n 3, 1) := by decide +kernel
theorem dX3_rowAt_88 : decode cX3_rowAt 88 = .ok (.iload 4, 2) := by decide +kernel
theorem dX3_rowAt_90 : decode cX3_rowAt 90 = .ok (.iload 8, 2) := by decide +kernel
theorem dX3_rowAt_92 : decode cX3_rowAt 92 = .ok (.invokestatic 20, 3) := by decide +kernel
theorem dX3_rowAt_95 : decode cX3_rowAt 95 = .ok (.iadd, 1) := by decide +kernel
theorem dX3_rowAt_96 : decode cX3_rowAt 96 = .ok (.istore 4, 2) := by decide +kernel
theorem dX3_rowAt_98 : decode cX3_rowAt 98 = .ok (.bipush 10, 2) := by decide +kernel
theorem dX3_rowAt_100 : decode cX3_rowAt 100 = .ok (.iload 6, 2) := by decide +kernel
theorem dX3_rowAt_102 : decode cX3_rowAt 102 = .ok (.imul, 1) := by decide +kernel
theorem dX3_rowAt_103 : decode cX3_rowAt 103 = .ok (.iload 8, 2) := by decide +kernel
theorem dX3_rowAt_105 : decode cX3_rowAt 105 = .ok (.iadd, 1) := by decide +kernel
theorem dX3_rowAt_106 : decode cX3_rowAt 106 = .ok (.iconst 3, 1) := by decide +kernel
theorem dX3_rowAt_107 : decode cX3_rowAt 107 = .ok (.iadd, 1) := by decide +kernel
theorem dX3_rowAt_108 : decode cX3_rowAt 108 = .ok (.istore 6, 2) := by decide +kernel
theorem dX3_rowAt_110 : decode cX3_rowAt 110 = .ok (.iinc 7 (-1), 3) := by decide +kernel
theorem dX3_rowAt_113 : decode cX3_rowAt 113 = .ok (.goto (-97), 3) := by decide +kernel
theorem dX3_rowAt_116 : decode cX3_rowAt 116 = .ok (.iload 6, 2) := by decide +kernel
theorem dX3_rowAt_118 : decode cX3_rowAt 118 = .ok (.ireturn, 1) := by decide +kernel
def B_X3_rowAt_0 (X : Nat × (Nat → Int32)) (J : Nat → zCf) (R : zRt) : zCf := oPI (zj (0)) (oISTORE 2 3 (oPI (zj (0)) (oISTORE 3 4 (oILOAD 2 (oISTORE 4 5 (oPI (zj (0)) (oISTORE 5 6 (oILOAD 1 (oPI (zj (1)) (oISUB (oISTORE 6 7 (J 16))))))))))))
set_option maxRecDepth 100000 in
theorem vb_X3_rowAt_0 {X : Nat × (Nat → Int32)} {R : zRt} : ∀ ls st h, B_X3_rowAt_0 X (zV X M_X3_rowAt (zQm M_X3_rowAt R) 0 0) R ls st h → zV X M_X3_rowAt (zQm M_X3_rowAt R) 0 0 0 ls st h := sd_iconst dX3_rowAt_0 rfl (sd_istore_n dX3_rowAt_1 rfl (Nat.le_of_ble_eq_true rfl) (Or.inl rfl) (sd_iconst dX3_rowAt_2 rfl (sd_istore dX3_rowAt_3 (Nat.le_of_ble_eq_true rfl) (Or.inl rfl) (sd_iload_n dX3_rowAt_5 rfl (sd_istore dX3_rowAt_6 (Nat.le_of_ble_eq_true rfl) (Or.inl rfl) (sd_iconst dX3_rowAt_8 rfl (sd_istore dX3_rowAt_9 (Nat.le_of_ble_eq_true rfl) (Or.inl rfl) (sd_iload_n dX3_rowAt_11 rfl (sd_iconst dX3_rowAt_12 rfl (sd_isub dX3_rowAt_13 (sd_istore dX3_rowAt_14 (Nat.le_of_ble_eq_true rfl) (Or.inl rfl) (fun _ _ _ h => h))))))))))))
def B_X3_rowAt_16 (X : Nat × (Nat → Int32)) (J : Nat → zCf) (R : zRt) : zCf := oILOAD 7 (oIFLT (J 116) (oPI (zj (-3)) (oISTORE 7 8 (J 25))))
set_option maxRecDepth 100000 in
theorem vb_X3_rowAt_16 {X : Nat × (Nat → Int32)} {R : zRt} : ∀ ls st h, B_X3_rowAt_16 X (zV X M_X3_rowAt (zQm M_X3_rowAt R) 0 0) R ls st h → zV X M_X3_rowAt (zQm M_X3_rowAt R) 0 0 16 ls st h := sd_iload dX3_rowAt_16 (sd_iflt dX3_rowAt_18 rfl (fun _ _ _ h => h) (sd_bipush dX3_rowAt_21 rfl (sd_istore dX3_rowAt_23 (Nat.le_of_ble_eq_true rfl) (Or.inl rfl) (fun _ _ _ h => h))))
def B_X3_rowAt_25 (X : Nat × (Nat → Int32)) (J : Nat → zCf) (R : zRt) : zCf := oILOAD 8 (oPI (zj (3)) (oICGE (J 83) (oILOAD 8 (oIFNE (J 40) (oPI (zj (0)) (J 58))))))
set_option maxRecDepth 100000 in
theorem vb_X3_rowAt_25 {X : Nat × (Nat → Int32)} {R : zRt} : ∀ ls st h, B_X3_rowAt_25 X (zV X M_X3_rowAt (zQm M_X3_rowAt R) 0 0) R ls st h → zV X M_X3_rowAt (zQm M_X3_rowAt R) 0 0 25 ls st h := sd_iload dX3_rowAt_25 (sd_iconst dX3_rowAt_27 rfl (sd_icge dX3_rowAt_28 rfl (fun _ _ _ h => h) (sd_iload dX3_rowAt_31 (sd_ifne dX3_rowAt_33 rfl (fun _ _ _ h => h) (sd_iconst dX3_rowAt_36 rfl (sd_goto dX3_rowAt_37 rfl (fun _ _ _ h => h)))))))
def B_X3_rowAt_40 (X : Nat × (Nat → Int32)) (J : Nat → zCf) (R : zRt) : zCf := oALOAD 0 (oILOAD 7 (oILOAD 3 (oILOAD 8 (oIADD (oILOAD 4 (oILOAD 8 (oINS1 X M_X7_half (oIADD (oINV3 X M_X3_rowsToGoal 3 (J 58))))))))))
set_option maxRecDepth 100000 in
theorem vb_X3_rowAt_40 {X : Nat × (Nat → Int32)} {R : zRt} : ∀ ls st h, B_X3_rowAt_40 X (zV X M_X3_rowAt (zQm M_X3_rowAt R) 0 0) R ls st h → zV X M_X3_rowAt (zQm M_X3_rowAt R) 0 0 40 ls st h := sd_aload_n dX3_rowAt_40 rfl (sd_iload dX3_rowAt_41 (sd_iload_n dX3_rowAt_43 rfl (sd_iload dX3_rowAt_44 (sd_iadd dX3_rowAt_46 (sd_iload dX3_rowAt_47 (sd_iload dX3_rowAt_49 (sd_ins1 dX3_rowAt_51 ms_X7_half na_X7_half ml_RX3_20 ⟨⟨Nat.le_of_ble_eq_true rfl, Nat.le_of_ble_eq_true rfl⟩, ⟨Nat.le_of_ble_eq_true rfl, Nat.le_of_ble_eq_true rfl⟩⟩ (sd_iadd dX3_rowAt_54 (sd_inv3 dX3_rowAt_55 rfl mv_X3_rowsToGoal na_X3_rowsToGoal ml_RX3_33 ⟨⟨Nat.le_of_ble_eq_true rfl, Nat.le_of_ble_eq_true rfl⟩, ⟨Nat.le_of_ble_eq_true rfl, Nat.le_of_ble_eq_true rfl⟩⟩ (fun _ _ _ h => h))))))))))
def B_X3_rowAt_58 (X : Nat × (Nat → Int32)) (J : Nat → zCf) (R : zRt) : zCf := oISTORE 8 9 (oILOAD 5 (oILOAD 9 (oICGE (J 70) (J 83))))
set_option maxRecDepth 100000 in
theorem vb_X3_rowAt_58 {X : Nat × (Nat → Int32)} {R : zRt} : ∀ ls st h, B_X3_rowAt_58 X (zV X M_X3_rowAt (zQm M_X3_rowAt R) 0 0) R ls st h → zV X M_X3_rowAt (zQm M_X3_rowAt R) 0 0 58 ls st h := sd_istore dX3_rowAt_58 (Nat.le_of_ble_eq_true rfl) (Or.inl rfl) (sd_iload dX3_rowAt_60 (sd_iload dX3_rowAt_62 (sd_icge dX3_rowAt_64 rfl (fun _ _ _ h => h) (sd_goto dX3_rowAt_67 rfl (fun _ _ _ h => h)))))
def B_X3_rowAt_70 (X : Nat × (Nat → Int32)) (J : Nat → zCf) (R : zRt) : zCf := oILOAD 5 (oILOAD 9 (oISUB (oISTORE 4 5 (oIINC 7 8 (zj (1)) (J 25)))))
set_option maxRecDepth 100000 in
theorem vb_X3_rowAt_70 {X : Nat × (Nat → Int32)} {R : zRt} : ∀ ls st h, B_X3_rowAt_70 X (zV X M_X3_rowAt (zQm M_X3_rowAt R) 0 0) R ls st h → zV X M_X3_rowAt (zQm M_X3_rowAt R) 0 0 70 ls st h := sd_iload dX3_rowAt_70 (sd_iload dX3_rowAt_72 (sd_isub dX3_rowAt_74 (sd_istore dX3_rowAt_75 (Nat.le_of_ble_eq_true rfl) (Or.inl rfl) (sd_iinc dX3_rowAt_77 rfl (Nat.le_of_ble_eq_true rfl) (Or.inl rfl) (sd_goto dX3_rowAt_80 rfl (fun _ _ _ h => h))))))
def B_X3_rowAt_83 (X : Nat × (Nat → Int32)) (J : Nat → zCf) (R : zRt) : zCf := oILOAD 3 (oILOAD 8 (oIADD (oISTORE 2 3 (oILOAD 4 (oILOAD 8 (oINS1 X M_X7_half (oIADD (oISTORE 3 4 (oPI (zj (10)) (oILOAD 6 (oIMUL (oILOAD 8 (oIADD (oPI (zj (3)) (oIADD (oISTORE 5 6 (oIINC 6 7 (zj (-1)) (J 16))))))))))))))))))
set_option maxRecDepth 100000 in
theorem vb_X3_rowAt_83 {X : Nat × (Nat → Int32)} {R : zRt} : ∀ ls st h, B_X3_rowAt_83 X (zV X M_X3_rowAt (zQm M_X3_rowAt R) 0 0) R ls st h → zV X M_X3_rowAt (zQm M_X3_rowAt R) 0 0 83 ls st h := sd_iload_n dX3_rowAt_83 rfl (sd_iload dX3_rowAt_84 (sd_iadd dX3_rowAt_86 (sd_istore_n dX3_rowAt_87 rfl (Nat.le_of_ble_eq_true rfl) (Or.inl rfl) (sd_iload dX3_rowAt_88 (sd_iload dX3_rowAt_90 (sd_ins1 dX3_rowAt_92 ms_X7_half na_X7_half ml_RX3_20 ⟨⟨Nat.le_of_ble_eq_true rfl, Nat.le_of_ble_eq_true rfl⟩, ⟨Nat.le_of_ble_eq_true rfl, Nat.le_of_ble_eq_true rfl⟩⟩ (sd_iadd dX3_rowAt_95 (sd_istore dX3_rowAt_96 (Nat.le_of_ble_eq_true rfl) (Or.inl rfl) (sd_bipush dX3_rowAt_98 rfl (sd_iload dX3_rowAt_100 (sd_imul dX3_rowAt_102 (sd_iload dX3_rowAt_103 (sd_iadd dX3_rowAt_105 (sd_iconst dX3_rowAt_106 rfl (sd_iadd dX3_rowAt_107 (sd_istore dX3_rowAt_108 (Nat.le_of_ble_eq_true rfl) (Or.inl rfl) (sd_iinc dX3_rowAt_110 rfl (Nat.le_of_ble_eq_true rfl) (Or.inl rfl) (sd_goto dX3_rowAt_113 rfl (fun _ _ _ h => h)))))))))))))))))))
def B_X3_rowAt_116 (X : Nat × (Nat → Int32)) (J : Nat → zCf) (R : zRt) : zCf := oILOAD 6 (oIRET R)
set_option maxRecDepth 100000 in
theorem vb_X3_rowAt_116 {X : Nat × (Nat → Int32)} {R : zRt} : ∀ ls st h, B_X3_rowAt_116 X (zV X M_X3_rowAt (zQm M_X3_rowAt R) 0 0) R ls st h → zV X M_X3_rowAt (zQm M_X3_rowAt R) 0 0 116 ls st h := sd_iload dX3_rowAt_116 (sd_iret dX3_rowAt_118 rfl (Nat.le_of_ble_eq_true rfl) (Nat.le_of_ble_eq_true rfl))
