theorem dX9_turnsTo_0 : decode cX9_turnsTo 0 = .ok (.aload_n 0, 1) := by decide +kernel
theorem dX9_turnsTo_1 : decode cX9_turnsTo 1 = .ok (.iconst 0, 1) := by decide +kernel
theorem dX9_turnsTo_2 : decode cX9_turnsTo 2 = .ok (.putfield 36, 3) := by decide +kernel
theorem dX9_turnsTo_5 : decode cX9_turnsTo 5 = .ok (.aload_n 0, 1) := by decide +kernel
theorem dX9_turnsTo_6 : decode cX9_turnsTo 6 = .ok (.getfield 289, 3) := by decide +kernel
theorem dX9_turnsTo_9 : decode cX9_turnsTo 9 = .ok (.ifnonnull 11, 3) := by decide +kernel
theorem dX9_turnsTo_12 : decode cX9_turnsTo 12 = .ok (.aload_n 0, 1) := by decide +kernel
theorem dX9_turnsTo_13 : decode cX9_turnsTo 13 = .ok (.iconst 1, 1) := by decide +kernel
theorem dX9_turnsTo_14 : decode cX9_turnsTo 14 = .ok (.invokevirtual 42, 3) := by decide +kernel
theorem dX9_turnsTo_17 : decode cX9_turnsTo 17 = .ok (.goto 11, 3) := by decide +kernel
theorem dX9_turnsTo_20 : decode cX9_turnsTo 20 = .ok (.aload_n 0, 1) := by decide +kernel
theorem dX9_turnsTo_21 : decode cX9_turnsTo 21 = .ok (.aload_n 0, 1) := by decide +kernel
theorem dX9_turnsTo_22 : decode cX9_turnsTo 22 = .ok (.invokevirtual 371, 3) := by decide +kernel
theorem dX9_turnsTo_25 : decode cX9_turnsTo 25 = .ok (.invokevirtual 46, 3) := by decide +kernel
theorem dX9_turnsTo_28 : decode cX9_turnsTo 28 = .ok (.ireturn, 1) := by decide +kernel
def B_X9_turnsTo_0 (X : Nat × (Nat → Int32)) (J : Nat → zCf) (R : zRt) : zCf := oALOAD 0 (oPI (zj (0)) (oPUTI 9 0 (oALOAD 0 (oGETR 9 3 (oIFNONNULL (J 20) (oALOAD 0 (oPI (zj (1)) (oINV1 X M_X9_refused 9 (J 28)))))))))
set_option maxRecDepth 100000 in
theorem vb_X9_turnsTo_0 {X : Nat × (Nat → Int32)} {R : zRt} : ∀ ls st h, B_X9_turnsTo_0 X (zV X M_X9_turnsTo (zQm M_X9_turnsTo R) 0 0) R ls st h → zV X M_X9_turnsTo (zQm M_X9_turnsTo R) 0 0 0 ls st h := sd_aload_n dX9_turnsTo_0 rfl (sd_iconst dX9_turnsTo_1 rfl (sd_puti dX9_turnsTo_2 zCl9 (Nat.le_of_ble_eq_true rfl) lk_RX9_36 rfl (Or.inl rfl) (sd_aload_n dX9_turnsTo_5 rfl (sd_getr dX9_turnsTo_6 zCl9 (Nat.le_of_ble_eq_true rfl) lk_RX9_289 (Or.inl ⟨_, rfl⟩) (sd_ifnonnull dX9_turnsTo_9 rfl (fun _ _ _ h => h) (sd_aload_n dX9_turnsTo_12 rfl (sd_iconst dX9_turnsTo_13 rfl (sd_inv1 dX9_turnsTo_14 rfl mv_X9_refused na_X9_refused ml_RX9_42 ⟨⟨Nat.le_of_ble_eq_true rfl, Nat.le_of_ble_eq_true rfl⟩, ⟨Nat.le_of_ble_eq_true rfl, Nat.le_of_ble_eq_true rfl⟩⟩ (sd_goto dX9_turnsTo_17 rfl (fun _ _ _ h => h))))))))))
def B_X9_turnsTo_20 (X : Nat × (Nat → Int32)) (J : Nat → zCf) (R : zRt) : zCf := oALOAD 0 (oALOAD 0 (oINV0 X M_X9_toWant 9 (oINV1 X M_X9_good 9 (J 28))))
set_option maxRecDepth 100000 in
theorem vb_X9_turnsTo_20 {X : Nat × (Nat → Int32)} {R : zRt} : ∀ ls st h, B_X9_turnsTo_20 X (zV X M_X9_turnsTo (zQm M_X9_turnsTo R) 0 0) R ls st h → zV X M_X9_turnsTo (zQm M_X9_turnsTo R) 0 0 20 ls st h := sd_aload_n dX9_turnsTo_20 rfl (sd_aload_n dX9_turnsTo_21 rfl (sd_inv0 dX9_turnsTo_22 rfl mv_X9_toWant na_X9_toWant ml_RX9_371 ⟨⟨Nat.le_of_ble_eq_true rfl, Nat.le_of_ble_eq_true rfl⟩, ⟨Nat.le_of_ble_eq_true rfl, Nat.le_of_ble_eq_true rfl⟩⟩ (sd_inv1 dX9_turnsTo_25 rfl mv_X9_good na_X9_good ml_RX9_46 ⟨⟨Nat.le_of_ble_eq_true rfl, Nat.le_of_ble_eq_true rfl⟩, ⟨Nat.le_of_ble_eq_true rfl, Nat.le_of_ble_eq_true rfl⟩⟩ (fun _ _ _ h => h))))
def B_X9_turnsTo_28 (X : Nat × (Nat → Int32)) (J : Nat → zCf) (R : zRt) : zCf := oIRET R
set_option maxRecDepth 100000 in
theorem vb_X9_turnsTo_28 {X : Nat × (Nat → Int32)} {R : zRt} : ∀ ls st h, B_X9_turnsTo_28 X (zV X M_X9_turnsTo (zQm M_X9_turnsTo R) 0 0) R ls st h → zV X M_X9_turnsTo (zQm M_X9_turnsTo R) 0 0 28 ls st h := sd_iret dX9_turnsTo_28 rfl (Nat.le_of_ble_eq_true rfl) (Nat.le_of_ble_eq_true rfl)
theorem dX9_turnAt_0 : decode cX9_turnAt 0 = .ok (.aload_n 0, 1) := by decide +kernel
theorem dX9_turnAt_1 : decode cX9_turnAt 1 = .ok (.iconst 0, 1) := by decide +kernel
theorem dX9_turnAt_2 : decode cX9_turnAt 2 = .ok (.putfield 36, 3) := by decide +kernel
theorem dX9_turnAt_5 : decode cX9_turnAt 5 = .ok (.aload_n 0, 1) := by decide +kernel
theorem dX9_turnAt_6 : decode cX9_turnAt 6 = .ok (.getfield 289, 3) := by decide +kernel
theorem dX9_turnAt_9 : decode cX9_turnAt 9 = .ok (.ifnonnull 9, 3) := by decide +kernel
theorem dX9_turnAt_12 : decode cX9_turnAt 12 = .ok (.aload_n 0, 1) := by decide +kernel
theorem dX9_turnAt_13 : decode cX9_turnAt 13 = .ok (.iconst 1, 1) := by decide +kernel
theorem dX9_turnAt_14 : decode cX9_turnAt 14 = .ok (.invokevirtual 42, 3) := by decide +kernel
theorem dX9_turnAt_17 : decode cX9_turnAt 17 = .ok (.ireturn, 1) := by decide +kernel
theorem dX9_turnAt_18 : decode cX9_turnAt 18 = .ok (.aload_n 0, 1) := by decide +kernel
theorem dX9_turnAt_19 : decode cX9_turnAt 19 = .ok (.invokevirtual 371, 3) := by decide +kernel
theorem dX9_turnAt_22 : decode cX9_turnAt 22 = .ok (.istore_n 2, 1) := by decide +kernel
theorem dX9_turnAt_23 : decode cX9_turnAt 23 = .ok (.iload_n 2, 1) := by decide +kernel
theorem dX9_turnAt_24 : decode cX9_turnAt 24 = .ok (.bipush (-2), 2) := by decide +kernel
theorem dX9_turnAt_26 : decode cX9_turnAt 26 = .ok (.if_icmp .ne 10, 3) := by decide +kernel
theorem dX9_turnAt_29 : decode cX9_turnAt 29 = .ok (.aload_n 0, 1) := by decide +kernel
theorem dX9_turnAt_30 : decode cX9_turnAt 30 = .ok (.bipush 6, 2) := by decide +kernel
theorem dX9_turnAt_32 : decode cX9_turnAt 32 = .ok (.invokevirtual 42, 3) := by decide +kernel
theorem dX9_turnAt_35 : decode cX9_turnAt 35 = .ok (.ireturn, 1) := by decide +kernel
theorem dX9_turnAt_36 : decode cX9_turnAt 36 = .ok (.iload_n 1, 1) := by decide +kernel
theorem dX9_turnAt_37 : decode cX9_turnAt 37 = .ok (.ifCond .lt 26, 3) := by decide +kernel
theorem dX9_turnAt_40 : decode cX9_turnAt 40 = .ok (.iload_n 1, 1) := by decide +kernel
theorem dX9_turnAt_41 : decode cX9_turnAt 41 = .ok (.iload_n 2, 1) := by decide +kernel
theorem dX9_turnAt_42 : decode cX9_turnAt 42 = .ok (.if_icmp .ge 21, 3) := by decide +kernel
theorem dX9_turnAt_45 : decode cX9_turnAt 45 = .ok (.aload_n 0, 1) := by decide +kernel
theorem dX9_turnAt_46 : decode cX9_turnAt 46 = .ok (.aload_n 0, 1) := by decide +kernel
theorem dX9_turnAt_47 : decode cX9_turnAt 47 = .ok (.getfield 33, 3) := by decide +kernel
theorem dX9_turnAt_50 : decode cX9_turnAt 50 = .ok (.iload_n 1, 1) := by decide +kernel
theorem dX9_turnAt_51 : decode cX9_turnAt 51 = .ok (.iaload, 1) := by decide +kernel
theorem dX9_turnAt_52 : decode cX9_turnAt 52 = .ok (.invokestatic 352, 3) := by decide +kernel
theorem dX9_turnAt_55 : decode cX9_turnAt 55 = .ok (.iconst 3, 1) := by decide +kernel
theorem dX9_turnAt_56 : decode cX9_turnAt 56 = .ok (.iadd, 1) := by decide +kernel
theorem dX9_turnAt_57 : decode cX9_turnAt 57 = .ok (.invokevirtual 46, 3) := by decide +kernel
theorem dX9_turnAt_60 : decode cX9_turnAt 60 = .ok (.goto 8, 3) := by decide +kernel
theorem dX9_turnAt_63 : decode cX9_turnAt 63 = .ok (.aload_n 0, 1) := by decide +kernel
theorem dX9_turnAt_64 : decode cX9_turnAt 64 = .ok (.iconst 1, 1) := by decide +kernel
theorem dX9_turnAt_65 : decode cX9_turnAt 65 = .ok (.invokevirtual 42, 3) := by decide +kernel
theorem dX9_turnAt_68 : decode cX9_turnAt 68 = .ok (.ireturn, 1) := by decide +kernel
def B_X9_turnAt_0 (X : Nat × (Nat → Int32)) (J : Nat → zCf) (R : zRt) : zCf := oALOAD 0 (oPI (zj (0)) (oPUTI 9 0 (oALOAD 0 (oGETR 9 3 (oIFNONNULL (J 18) (oALOAD 0 (oPI (zj (1)) (oINV1 X M_X9_refused 9 (oIRET R)))))))))
set_option maxRecDepth 100000 in
theorem vb_X9_turnAt_0 {X : Nat × (Nat → Int32)} {R : zRt} : ∀ ls st h, B_X9_turnAt_0 X (zV X M_X9_turnAt (zQm M_X9_turnAt R) 0 0) R ls st h → zV X M_X9_turnAt (zQm M_X9_turnAt R) 0 0 0 ls st h := sd_aload_n dX9_turnAt_0 rfl (sd_iconst dX9_turnAt_1 rfl (sd_puti dX9_turnAt_2 zCl9 (Nat.le_of_ble_eq_true rfl) lk_RX9_36 rfl (Or.inl rfl) (sd_aload_n dX9_turnAt_5 rfl (sd_getr dX9_turnAt_6 zCl9 (Nat.le_of_ble_eq_true rfl) lk_RX9_289 (Or.inl ⟨_, rfl⟩) (sd_ifnonnull dX9_turnAt_9 rfl (fun _ _ _ h => h) (sd_aload_n dX9_turnAt_12 rfl (sd_iconst dX9_turnAt_13 rfl (sd_inv1 dX9_turnAt_14 rfl mv_X9_refused na_X9_refused ml_RX9_42 ⟨⟨Nat.le_of_ble_eq_true rfl, Nat.le_of_ble_eq_true rfl⟩, ⟨Nat.le_of_ble_eq_true rfl, Nat.le_of_ble_eq_true rfl⟩⟩ (sd_iret dX9_turnAt_17 rfl (Nat.le_of_ble_eq_true rfl) (Nat.le_of_ble_eq_true rfl))))))))))
def B_X9_turnAt_18 (X : Nat × (Nat → Int32)) (J : Nat → zCf) (R : zRt) : zCf := oALOAD 0 (oINV0 X M_X9_toWant 9 (oISTORE 1 2 (oILOAD 2 (oPI (zj (-2)) (oICNE (J 36) (oALOAD 0 (oPI (zj (6)) (oINV1 X M_X9_refused 9 (oIRET R)))))))))
set_option maxRecDepth 100000 in
theorem vb_X9_turnAt_18 {X : Nat × (Nat → Int32)} {R : zRt} : ∀ ls st h, B_X9_turnAt_18 X (zV X M_X9_turnAt (zQm M_X9_turnAt R) 0 0) R ls st h → zV X M_X9_turnAt (zQm M_X9_turnAt R) 0 0 18 ls st h := sd_aload_n dX9_turnAt_18 rfl (sd_inv0 dX9_turnAt_19 rfl mv_X9_toWant na_X9_toWant ml_RX9_371 ⟨⟨Nat.le_of_ble_eq_true rfl, Nat.le_of_ble_eq_true rfl⟩, ⟨Nat.le_of_ble_eq_true rfl, Nat.le_of_ble_eq_true rfl⟩⟩ (sd_istore_n dX9_turnAt_22 rfl (Nat.le_of_ble_eq_true rfl) (Or.inl rfl) (sd_iload_n dX9_turnAt_23 rfl (sd_bipush dX9_turnAt_24 rfl (sd_icne dX9_turnAt_26 rfl (fun _ _ _ h => h) (sd_aload_n dX9_turnAt_29 rfl (sd_bipush dX9_turnAt_30 rfl (sd_inv1 dX9_turnAt_32 rfl mv_X9_refused na_X9_refused ml_RX9_42 ⟨⟨Nat.le_of_ble_eq_true rfl, Nat.le_of_ble_eq_true rfl⟩, ⟨Nat.le_of_ble_eq_true rfl, Nat.le_of_ble_eq_true rfl⟩⟩ (sd_iret dX9_turnAt_35 rfl (Nat.le_of_ble_eq_true rfl) (Nat.le_of_ble_eq_true rfl))))))))))
def B_X9_turnAt_36 (X : Nat × (Nat → Int32)) (J : Nat → zCf) (R : zRt) : zCf := oILOAD 1 (oIFLT (J 63) (oILOAD 1 (oILOAD 2 (oICGE (J 63) (oALOAD 0 (oALOAD 0 (oGETR 9 22 (oILOAD 1 (oIALD (oINS1 X M_X9_clicksOf (oPI (zj (3)) (oIADD (oINV1 X M_X9_good 9 (J 68))))))))))))))
set_option maxRecDepth 100000 in
theorem vb_X9_turnAt_36 {X : Nat × (Nat → Int32)} {R : zRt} : ∀ ls st h, B_X9_turnAt_36 X (zV X M_X9_turnAt (zQm M_X9_turnAt R) 0 0) R ls st h → zV X M_X9_turnAt (zQm M_X9_turnAt R) 0 0 36 ls st h := sd_iload_n dX9_turnAt_36 rfl (sd_iflt dX9_turnAt_37 rfl (fun _ _ _ h => h) (sd_iload_n dX9_turnAt_40 rfl (sd_iload_n dX9_turnAt_41 rfl (sd_icge dX9_turnAt_42 rfl (fun _ _ _ h => h) (sd_aload_n dX9_turnAt_45 rfl (sd_aload_n dX9_turnAt_46 rfl (sd_getr dX9_turnAt_47 zCl9 (Nat.le_of_ble_eq_true rfl) lk_RX9_33 (Or.inr ⟨_, rfl⟩) (sd_iload_n dX9_turnAt_50 rfl (sd_iald dX9_turnAt_51 (sd_ins1 dX9_turnAt_52 ms_X9_clicksOf na_X9_clicksOf ml_RX9_352 ⟨⟨Nat.le_of_ble_eq_true rfl, Nat.le_of_ble_eq_true rfl⟩, ⟨Nat.le_of_ble_eq_true rfl, Nat.le_of_ble_eq_true rfl⟩⟩ (sd_iconst dX9_turnAt_55 rfl (sd_iadd dX9_turnAt_56 (sd_inv1 dX9_turnAt_57 rfl mv_X9_good na_X9_good ml_RX9_46 ⟨⟨Nat.le_of_ble_eq_true rfl, Nat.le_of_ble_eq_true rfl⟩, ⟨Nat.le_of_ble_eq_true rfl, Nat.le_of_ble_eq_true rfl⟩⟩ (sd_goto dX9_turnAt_60 rfl (fun _ _ _ h => h)))))))))))))))
def B_X9_turnAt_63 (X : Nat × (Nat → Int32)) (J : Nat → zCf) (R : zRt) : zCf := oALOAD 0 (oPI (zj (1)) (oINV1 X M_X9_refused 9 (J 68)))
set_option maxRecDepth 100000 in
theorem vb_X9_turnAt_63 {X : Nat × (Nat → Int32)} {R : zRt} : ∀ ls st h, B_X9_turnAt_63 X (zV X M_X9_turnAt (zQm M_X9_turnAt R) 0 0) R ls st h → zV X M_X9_turnAt (zQm M_X9_turnAt R) 0 0 63 ls st h := sd_aload_n dX9_turnAt_63 rfl (sd_iconst dX9_turnAt_64 rfl (sd_inv1 dX9_turnAt_65 rfl mv_X9_refused na_X9_refused ml_RX9_42 ⟨⟨Nat.le_of_ble_eq_true rfl, Nat.le_of_ble_eq_true rfl⟩, ⟨Nat.le_of_ble_eq_true rfl, Nat.le_of_ble_eq_true rfl⟩⟩ (fun _ _ _ h => h)))
def B_X9_turnAt_68 (X : Nat × (Nat → Int32)) (J : Nat → zCf) (R : zRt) : zCf := oIRET R
set_option maxRecDepth 100000 in
theorem vb_X9_turnAt_68 {X : Nat × (Nat → Int32)} {R : zRt} : ∀ ls st h, B_X9_turnAt_68 X (zV X M_X9_turnAt (zQm M_X9_turnAt R) 0 0) R ls st h → zV X M_X9_turnAt (zQm M_X9_turnAt R) 0 0 68 ls st h := sd_iret dX9_turnAt_68 rfl (Nat.le_of_ble_eq_true rfl) (Nat.le_of_ble_eq_true rfl)
theorem dX9_bestTurn_0 : decode cX9_bestTurn 0 = .ok (.aload_n 0, 1) := by decide +kernel
theorem dX9_bestTurn_1 : decode cX9_bestTurn 1 = .ok (.iconst 0, 1) := by decide +kernel
theorem dX9_bestTurn_2 : decode cX9_bestTurn 2 = .ok (.putfield 36, 3) := by decide +kernel
theorem dX9_bestTurn_5 : decode cX9_bestTurn 5 = .ok (.aload_n 0, 1) := by decide +kernel
theorem dX9_bestTurn_6 : decode cX9_bestTurn 6 = .ok (.getfield 289, 3) := by decide +kernel
theorem dX9_bestTurn_9 : decode cX9_bestTurn 9 = .ok (.ifnonnull 9, 3) := by decide +kernel
theorem dX9_bestTurn_12 : decode cX9_bestTurn 12 = .ok (.aload_n 0, 1) := by decide +kernel
theorem dX9_bestTurn_13 : decode cX9_bestTurn 13 = .ok (.iconst 1, 1) := by decide +kernel
theorem dX9_bestTurn_14 : decode cX9_bestTurn 14 = .ok (.invokevirtual 42, 3) := by decide +kernel
theorem dX9_bestTurn_17 : decode cX9_bestTurn 17 = .ok (.ireturn, 1) := by decide +kernel
theorem dX9_bestTurn_18 : decode cX9_bestTurn 18 = .ok (.iconst 0, 1) := by decide +kernel
theorem dX9_bestTurn_19 : decode cX9_bestTurn 19 = .ok (.istore_n 1, 1) := by decide +kernel
theorem dX9_bestTurn_20 : decode cX9_bestTurn 20 = .ok (.iconst (-1), 1) := by decide +kernel
theorem dX9_bestTurn_21 : decode cX9_bestTurn 21 = .ok (.istore_n 2, 1) := by decide +kernel
theorem dX9_bestTurn_22 : decode cX9_bestTurn 22 = .ok (.bipush (-3), 2) := by decide +kernel
theorem dX9_bestTurn_24 : decode cX9_bestTurn 24 = .ok (.istore_n 3, 1) := by decide +kernel
theorem dX9_bestTurn_25 : decode cX9_bestTurn 25 = .ok (.iload_n 3, 1) := by decide +kernel
theorem dX9_bestTurn_26 : decode cX9_bestTurn 26 = .ok (.iconst 3, 1) := by decide +kernel
theorem dX9_bestTurn_27 : decode cX9_bestTurn 27 = .ok (.if_icmp .gt 54, 3) := by decide +kernel
theorem dX9_bestTurn_30 : decode cX9_bestTurn 30 = .ok (.aload_n 0, 1) := by decide +kernel
theorem dX9_bestTurn_31 : decode cX9_bestTurn 31 = .ok (.invokevirtual 336, 3) := by decide +kernel
theorem dX9_bestTurn_34 : decode cX9_bestTurn 34 = .ok (.aload_n 0, 1) := by decide +kernel
theorem dX9_bestTurn_35 : decode cX9_bestTurn 35 = .ok (.aload_n 0, 1) := by decide +kernel
theorem dX9_bestTurn_36 : decode cX9_bestTurn 36 = .ok (.getfield 21, 3) := by decide +kernel
theorem dX9_bestTurn_39 : decode cX9_bestTurn 39 = .ok (.iload_n 3, 1) := by decide +kernel
theorem dX9_bestTurn_40 : decode cX9_bestTurn 40 = .ok (.invokevirtual 339, 3) := by decide +kernel
theorem dX9_bestTurn_43 : decode cX9_bestTurn 43 = .ok (.aload_n 0, 1) := by decide +kernel
theorem dX9_bestTurn_44 : decode cX9_bestTurn 44 = .ok (.aload_n 0, 1) := by decide +kernel
theorem dX9_bestTurn_45 : decode cX9_bestTurn 45 = .ok (.getfield 21, 3) := by decide +kernel
theorem dX9_bestTurn_48 : decode cX9_bestTurn 48 = .ok (.invokevirtual 355, 3) := by decide +kernel
theorem dX9_bestTurn_51 : decode cX9_bestTurn 51 = .ok (.invokestatic 347, 3) := by decide +kernel
theorem dX9_bestTurn_54 : decode cX9_bestTurn 54 = .ok (.iload_n 2, 1) := by decide +kernel
theorem dX9_bestTurn_55 : decode cX9_bestTurn 55 = .ok (.if_icmp .gt 6, 3) := by decide +kernel
theorem dX9_bestTurn_58 : decode cX9_bestTurn 58 = .ok (.goto 17, 3) := by decide +kernel
theorem dX9_bestTurn_61 : decode cX9_bestTurn 61 = .ok (.aload_n 0, 1) := by decide +kernel
theorem dX9_bestTurn_62 : decode cX9_bestTurn 62 = .ok (.aload_n 0, 1) := by decide +kernel
theorem dX9_bestTurn_63 : decode cX9_bestTurn 63 = .ok (.getfield 21, 3) := by decide +kernel
theorem dX9_bestTurn_66 : decode cX9_bestTurn 66 = .ok (.invokevirtual 355, 3) := by decide +kernel
theorem dX9_bestTurn_69 : decode cX9_bestTurn 69 = .ok (.invokestatic 347, 3) := by decide +kernel
theorem dX9_bestTurn_72 : decode cX9_bestTurn 72 = .ok (.istore_n 2, 1) := by decide +kernel
theorem dX9_bestTurn_73 : decode cX9_bestTurn 73 = .ok (.iload_n 3, 1) := by decide +kernel
theorem dX9_bestTurn_74 : decode cX9_bestTurn 74 = .ok (.istore_n 1, 1) := by decide +kernel
theorem dX9_bestTurn_75 : decode cX9_bestTurn 75 = .ok (.iinc 3 1, 3) := by decide +kernel
theorem dX9_bestTurn_78 : decode cX9_bestTurn 78 = .ok (.goto (-53), 3) := by decide +kernel
theorem dX9_bestTurn_81 : decode cX9_bestTurn 81 = .ok (.aload_n 0, 1) := by decide +kernel
theorem dX9_bestTurn_82 : decode cX9_bestTurn 82 = .ok (.iload_n 1, 1) := by decide +kernel
theorem dX9_bestTurn_83 : decode cX9_bestTurn 83 = .ok (.iconst 3, 1) := by decide +kernel
theorem dX9_bestTurn_84 : decode cX9_bestTurn 84 = .ok (.iadd, 1) := by decide +kernel
theorem dX9_bestTurn_85 : decode cX9_bestTurn 85 = .ok (.invokevirtual 46, 3) := by decide +kernel
theorem dX9_bestTurn_88 : decode cX9_bestTurn 88 = .ok (.ireturn, 1) := by decide +kernel
def B_X9_bestTurn_0 (X : Nat × (Nat → Int32)) (J : Nat → zCf) (R : zRt) : zCf := oALOAD 0 (oPI (zj (0)) (oPUTI 9 0 (oALOAD 0 (oGETR 9 3 (oIFNONNULL (J 18) (oALOAD 0 (oPI (zj (1)) (oINV1 X M_X9_refused 9 (oIRET R)))))))))
set_option maxRecDepth 100000 in
theorem vb_X9_bestTurn_0 {X : Nat × (Nat → Int32)} {R : zRt} : ∀ ls st h, B_X9_bestTurn_0 X (zV X M_X9_bestTurn (zQm M_X9_bestTurn R) 0 0) R ls st h → zV X M_X9_bestTurn (zQm M_X9_bestTurn R) 0 0 0 ls st h := sd_aload_n dX9_bestTurn_0 rfl (sd_iconst dX9_bestTurn_1 rfl (sd_puti dX9_bestTurn_2 zCl9 (Nat.le_of_ble_eq_true rfl) lk_RX9_36 rfl (Or.inl rfl) (sd_aload_n dX9_bestTurn_5 rfl (sd_getr dX9_bestTurn_6 zCl9 (Nat.le_of_ble_eq_true rfl) lk_RX9_289 (Or.inl ⟨_, rfl⟩) (sd_ifnonnull dX9_bestTurn_9 rfl (fun _ _ _ h => h) (sd_aload_n dX9_bestTurn_12 rfl (sd_iconst dX9_bestTurn_13 rfl (sd_inv1 dX9_bestTurn_14 rfl mv_X9_refused na_X9_refused ml_RX9_42 ⟨⟨Nat.le_of_ble_eq_true rfl, Nat.le_of_ble_eq_true rfl⟩, ⟨Nat.le_of_ble_eq_true rfl, Nat.le_of_ble_eq_true rfl⟩⟩ (sd_iret dX9_bestTurn_17 rfl (Nat.le_of_ble_eq_true rfl) (Nat.le_of_ble_eq_true rfl))))))))))
def B_X9_bestTurn_18 (X : Nat × (Nat → Int32)) (J : Nat → zCf) (R : zRt) : zCf := oPI (zj (0)) (oISTORE 0 1 (oPI (zj (-1)) (oISTORE 1 2 (oPI (zj (-3)) (oISTORE 2 3 (J 25))))))
set_option maxRecDepth 100000 in
theorem vb_X9_bestTurn_18 {X : Nat × (Nat → Int32)} {R : zRt} : ∀ ls st h, B_X9_bestTurn_18 X (zV X M_X9_bestTurn (zQm M_X9_bestTurn R) 0 0) R ls st h → zV X M_X9_bestTurn (zQm M_X9_bestTurn R) 0 0 18 ls st h := sd_iconst dX9_bestTurn_18 rfl (sd_istore_n dX9_bestTurn_19 rfl (Nat.le_of_ble_eq_true rfl) (Or.inl rfl) (sd_iconst dX9_bestTurn_20 rfl (sd_istore_n dX9_bestTurn_21 rfl (Nat.le_of_ble_eq_true rfl) (Or.inl rfl) (sd_bipush dX9_bestTurn_22 rfl (sd_istore_n dX9_bestTurn_24 rfl (Nat.le_of_ble_eq_true rfl) (Or.inl rfl) (fun _ _ _ h => h))))))
def B_X9_bestTurn_25 (X : Nat × (Nat → Int32)) (J : Nat → zCf) (R : zRt) : zCf := oILOAD 3 (oPI (zj (3)) (oICGT (J 81) (oALOAD 0 (oINV0 X M_X9_tries 9 (oALOAD 0 (oALOAD 0 (oGETR 9 16 (oILOAD 3 (oINV2 X M_X9_turns 9 (oALOAD 0 (oALOAD 0 (oGETR 9 16 (oINV1 X M_X9_rightIn 9 (oINS1 X M_X9_bits (oILOAD 2 (oICGT (J 61) (J 75)))))))))))))))))
set_option maxRecDepth 100000 in
theorem vb_X9_bestTurn_25 {X : Nat × (Nat → Int32)} {R : zRt} : ∀ ls st h, B_X9_bestTurn_25 X (zV X M_X9_bestTurn (zQm M_X9_bestTurn R) 0 0) R ls st h → zV X M_X9_bestTurn (zQm M_X9_bestTurn R) 0 0 25 ls st h := sd_iload_n dX9_bestTurn_25 rfl (sd_iconst dX9_bestTurn_26 rfl (sd_icgt dX9_bestTurn_27 rfl (fun _ _ _ h => h) (sd_aload_n dX9_bestTurn_30 rfl (sd_inv0 dX9_bestTurn_31 rfl mv_X9_tries na_X9_tries ml_RX9_336 ⟨⟨Nat.le_of_ble_eq_true rfl, Nat.le_of_ble_eq_true rfl⟩, ⟨Nat.le_of_ble_eq_true rfl, Nat.le_of_ble_eq_true rfl⟩⟩ (sd_aload_n dX9_bestTurn_34 rfl (sd_aload_n dX9_bestTurn_35 rfl (sd_getr dX9_bestTurn_36 zCl9 (Nat.le_of_ble_eq_true rfl) lk_RX9_21 (Or.inr ⟨_, rfl⟩) (sd_iload_n dX9_bestTurn_39 rfl (sd_inv2 dX9_bestTurn_40 rfl mv_X9_turns na_X9_turns ml_RX9_339 ⟨⟨Nat.le_of_ble_eq_true rfl, Nat.le_of_ble_eq_true rfl⟩, ⟨Nat.le_of_ble_eq_true rfl, Nat.le_of_ble_eq_true rfl⟩⟩ (sd_aload_n dX9_bestTurn_43 rfl (sd_aload_n dX9_bestTurn_44 rfl (sd_getr dX9_bestTurn_45 zCl9 (Nat.le_of_ble_eq_true rfl) lk_RX9_21 (Or.inr ⟨_, rfl⟩) (sd_inv1 dX9_bestTurn_48 rfl mv_X9_rightIn na_X9_rightIn ml_RX9_355 ⟨⟨Nat.le_of_ble_eq_true rfl, Nat.le_of_ble_eq_true rfl⟩, ⟨Nat.le_of_ble_eq_true rfl, Nat.le_of_ble_eq_true rfl⟩⟩ (sd_ins1 dX9_bestTurn_51 ms_X9_bits na_X9_bits ml_RX9_347 ⟨⟨Nat.le_of_ble_eq_true rfl, Nat.le_of_ble_eq_true rfl⟩, ⟨Nat.le_of_ble_eq_true rfl, Nat.le_of_ble_eq_true rfl⟩⟩ (sd_iload_n dX9_bestTurn_54 rfl (sd_icgt dX9_bestTurn_55 rfl (fun _ _ _ h => h) (sd_goto dX9_bestTurn_58 rfl (fun _ _ _ h => h))))))))))))))))))
def B_X9_bestTurn_61 (X : Nat × (Nat → Int32)) (J : Nat → zCf) (R : zRt) : zCf := oALOAD 0 (oALOAD 0 (oGETR 9 16 (oINV1 X M_X9_rightIn 9 (oINS1 X M_X9_bits (oISTORE 1 2 (oILOAD 3 (oISTORE 0 1 (J 75))))))))
set_option maxRecDepth 100000 in
theorem vb_X9_bestTurn_61 {X : Nat × (Nat → Int32)} {R : zRt} : ∀ ls st h, B_X9_bestTurn_61 X (zV X M_X9_bestTurn (zQm M_X9_bestTurn R) 0 0) R ls st h → zV X M_X9_bestTurn (zQm M_X9_bestTurn R) 0 0 61 ls st h := sd_aload_n dX9_bestTurn_61 rfl (sd_aload_n dX9_bestTurn_62 rfl (sd_getr dX9_bestTurn_63 zCl9 (Nat.le_of_ble_eq_true rfl) lk_RX9_21 (Or.inr ⟨_, rfl⟩) (sd_inv1 dX9_bestTurn_66 rfl mv_X9_rightIn na_X9_rightIn ml_RX9_355 ⟨⟨Nat.le_of_ble_eq_true rfl, Nat.le_of_ble_eq_true rfl⟩, ⟨Nat.le_of_ble_eq_true rfl, Nat.le_of_ble_eq_true rfl⟩⟩ (sd_ins1 dX9_bestTurn_69 ms_X9_bits na_X9_bits ml_RX9_347 ⟨⟨Nat.le_of_ble_eq_true rfl, Nat.le_of_ble_eq_true rfl⟩, ⟨Nat.le_of_ble_eq_true rfl, Nat.le_of_ble_eq_true rfl⟩⟩ (sd_istore_n dX9_bestTurn_72 rfl (Nat.le_of_ble_eq_true rfl) (Or.inl rfl) (sd_iload_n dX9_bestTurn_73 rfl (sd_istore_n dX9_bestTurn_74 rfl (Nat.le_of_ble_eq_true rfl) (Or.inl rfl) (fun _ _ _ h => h))))))))
def B_X9_bestTurn_75 (X : Nat × (Nat → Int32)) (J : Nat → zCf) (R : zRt) : zCf := oIINC 2 3 (zj (1)) (J 25)
set_option maxRecDepth 100000 in
theorem vb_X9_bestTurn_75 {X : Nat × (Nat → Int32)} {R : zRt} : ∀ ls st h, B_X9_bestTurn_75 X (zV X M_X9_bestTurn (zQm M_X9_bestTurn R) 0 0) R ls st h → zV X M_X9_bestTurn (zQm M_X9_bestTurn R) 0 0 75 ls st h := sd_iinc dX9_bestTurn_75 rfl (Nat.le_of_ble_eq_true rfl) (Or.inl rfl) (sd_goto dX9_bestTurn_78 rfl (fun _ _ _ h => h))
def B_X9_bestTurn_81 (X : Nat × (Nat → Int32)) (J : Nat → zCf) (R : zRt) : zCf := oALOAD 0 (oILOAD 1 (oPI (zj (3)) (oIADD (oINV1 X M_X9_good 9 (oIRET R)))))
set_option maxRecDepth 100000 in
theorem vb_X9_bestTurn_81 {X : Nat × (Nat → Int32)} {R : zRt} : ∀ ls st h, B_X9_bestTurn_81 X (zV X M_X9_bestTurn (zQm M_X9_bestTurn R) 0 0) R ls st h → zV X M_X9_bestTurn (zQm M_X9_bestTurn R) 0 0 81 ls st h := sd_aload_n dX9_bestTurn_81 rfl (sd_iload_n dX9_bestTurn_82 rfl (sd_iconst dX9_bestTurn_83 rfl (sd_iadd dX9_bestTurn_84 (sd_inv1 dX9_bestTurn_85 rfl mv_X9_good na_X9_good ml_RX9_46 ⟨⟨Nat.le_of_ble_eq_true rfl, Nat.le_of_ble_eq_true rfl⟩, ⟨Nat.le_of_ble_eq_true rfl, Nat.le_of_ble_eq_true rfl⟩⟩ (sd_iret dX9_bestTurn_88 rfl (Nat.le_of_ble_eq_true rfl) (Nat.le_of_ble_eq_true rfl))))))
theorem dX9_can_0 : decode cX9_can 0 = .ok (.aload_n 0, 1) := by decide +kernel
theorem dX9_can_1 : decode cX9_can 1 = .ok (.iconst 0, 1) := by decide +kernel
theorem dX9_can_2 : decode cX9_can 2 = .ok (.putfield 36, 3) := by decide +kernel
theorem dX9_can_5 : decode cX9_can 5 = .ok (.aload_n 0, 1) := by decide +kernel
theorem dX9_can_6 : decode cX9_can 6 = .ok (.iload_n 1, 1) := by decide +kernel
theorem dX9_can_7 : decode cX9_can 7 = .ok (.invokevirtual 322, 3) := by decide +kernel
theorem dX9_can_10 : decode cX9_can 10 = .ok (.ifCond .ne 9, 3) := by decide +kernel
theorem dX9_can_13 : decode cX9_can 13 = .ok (.aload_n 0, 1) := by decide +kernel
theorem dX9_can_14 : decode cX9_can 14 = .ok (.iconst 1, 1) := by decide +kernel
theorem dX9_can_15 : decode cX9_can 15 = .ok (.invokevirtual 42, 3) := by decide +kernel
theorem dX9_can_18 : decode cX9_can 18 = .ok (.ireturn, 1) := by decide +kernel
theorem dX9_can_19 : decode cX9_can 19 = .ok (.iload_n 2, 1) := by decide +kernel
theorem dX9_can_20 : decode cX9_can 20 = .ok (.iconst 0, 1) := by decide +kernel
theorem dX9_can_21 : decode cX9_can 21 = .ok (.bipush 11, 2) := by decide +kernel
theorem dX9_can_23 : decode cX9_can 23 = .ok (.invokestatic 115, 3) := by decide +kernel
theorem dX9_can_26 : decode cX9_can 26 = .ok (.ifCond .ne 9, 3) := by decide +kernel
theorem dX9_can_29 : decode cX9_can 29 = .ok (.aload_n 0, 1) := by decide +kernel
theorem dX9_can_30 : decode cX9_can 30 = .ok (.iconst 2, 1) := by decide +kernel
theorem dX9_can_31 : decode cX9_can 31 = .ok (.invokevirtual 42, 3) := by decide +kernel
theorem dX9_can_34 : decode cX9_can 34 = .ok (.ireturn, 1) := by decide +kernel
theorem dX9_can_35 : decode cX9_can 35 = .ok (.iconst 1, 1) := by decide +kernel
theorem dX9_can_36 : decode cX9_can 36 = .ok (.aload_n 0, 1) := by decide +kernel
theorem dX9_can_37 : decode cX9_can 37 = .ok (.getfield 17, 3) := by decide +kernel
theorem dX9_can_40 : decode cX9_can 40 = .ok (.iconst 0, 1) := by decide +kernel
theorem dX9_can_41 : decode cX9_can 41 = .ok (.iload_n 1, 1) := by decide +kernel
theorem dX9_can_42 : decode cX9_can 42 = .ok (.iadd, 1) := by decide +kernel
theorem dX9_can_43 : decode cX9_can 43 = .ok (.iaload, 1) := by decide +kernel
theorem dX9_can_44 : decode cX9_can 44 = .ok (.ishl, 1) := by decide +kernel
theorem dX9_can_45 : decode cX9_can 45 = .ok (.istore_n 3, 1) := by decide +kernel
theorem dX9_can_46 : decode cX9_can 46 = .ok (.iconst 0, 1) := by decide +kernel
theorem dX9_can_47 : decode cX9_can 47 = .ok (.istore 4, 2) := by decide +kernel
theorem dX9_can_49 : decode cX9_can 49 = .ok (.iload 4, 2) := by decide +kernel
theorem dX9_can_51 : decode cX9_can 51 = .ok (.bipush 12, 2) := by decide +kernel
theorem dX9_can_53 : decode cX9_can 53 = .ok (.if_icmp .ge 79, 3) := by decide +kernel
theorem dX9_can_56 : decode cX9_can 56 = .ok (.iload_n 3, 1) := by decide +kernel
theorem dX9_can_57 : decode cX9_can 57 = .ok (.istore 5, 2) := by decide +kernel
theorem dX9_can_59 : decode cX9_can 59 = .ok (.iconst 0, 1) := by decide +kernel
theorem dX9_can_60 : decode cX9_can 60 = .ok (.istore 6, 2) := by decide +kernel
theorem dX9_can_62 : decode cX9_can 62 = .ok (.iload 6, 2) := by decide +kernel
theorem dX9_can_64 : decode cX9_can 64 = .ok (.bipush 12, 2) := by decide +kernel
theorem dX9_can_66 : decode cX9_can 66 = .ok (.if_icmp .ge 57, 3) := by decide +kernel
theorem dX9_can_69 : decode cX9_can 69 = .ok (.bipush (-3), 2) := by decide +kernel
theorem dX9_can_71 : decode cX9_can 71 = .ok (.istore 7, 2) := by decide +kernel
theorem dX9_can_73 : decode cX9_can 73 = .ok (.iload 7, 2) := by decide +kernel
theorem dX9_can_75 : decode cX9_can 75 = .ok (.iconst 3, 1) := by decide +kernel
theorem dX9_can_76 : decode cX9_can 76 = .ok (.if_icmp .gt 41, 3) := by decide +kernel
theorem dX9_can_79 : decode cX9_can 79 = .ok (.iload_n 3, 1) := by decide +kernel
theorem dX9_can_80 : decode cX9_can 80 = .ok (.iload 6, 2) := by decide +kernel
theorem dX9_can_82 : decode cX9_can 82 = .ok (.invokestatic 374, 3) := by decide +kernel
theorem dX9_can_85 : decode cX9_can 85 = .ok (.ifCond .eq 26, 3) := by decide +kernel
theorem dX9_can_88 : decode cX9_can 88 = .ok (.iload 5, 2) := by decide +kernel
theorem dX9_can_90 : decode cX9_can 90 = .ok (.iconst 1, 1) := by decide +kernel
theorem dX9_can_91 : decode cX9_can 91 = .ok (.iload 6, 2) := by decide +kernel
theorem dX9_can_93 : decode cX9_can 93 = .ok (.aload_n 0, 1) := by decide +kernel
theorem dX9_can_94 : decode cX9_can 94 = .ok (.getfield 289, 3) := by decide +kernel
theorem dX9_can_97 : decode cX9_can 97 = .ok (.iload_n 1, 1) := by decide +kernel
theorem dX9_can_98 : decode cX9_can 98 = .ok (.iload 7, 2) := by decide +kernel
theorem dX9_can_100 : decode cX9_can 100 = .ok (.invokevirtual 300, 3) := by decide +kernel
theorem dX9_can_103 : decode cX9_can 103 = .ok (.iadd, 1) := by decide +kernel
theorem dX9_can_104 : decode cX9_can 104 = .ok (.invokestatic 303, 3) := by decide +kernel
theorem dX9_can_107 : decode cX9_can 107 = .ok (.ishl, 1) := by decide +kernel
theorem dX9_can_108 : decode cX9_can 108 = .ok (.ior, 1) := by decide +kernel
theorem dX9_can_109 : decode cX9_can 109 = .ok (.istore 5, 2) := by decide +kernel
theorem dX9_can_111 : decode cX9_can 111 = .ok (.iinc 7 1, 3) := by decide +kernel
theorem dX9_can_114 : decode cX9_can 114 = .ok (.goto (-41), 3) := by decide +kernel
theorem dX9_can_117 : decode cX9_can 117 = .ok (.iinc 6 1, 3) := by decide +kernel
theorem dX9_can_120 : decode cX9_can 120 = .ok (.goto (-58), 3) := by decide +kernel
theorem dX9_can_123 : decode cX9_can 123 = .ok (.iload 5, 2) := by decide +kernel
theorem dX9_can_125 : decode cX9_can 125 = .ok (.istore_n 3, 1) := by decide +kernel
theorem dX9_can_126 : decode cX9_can 126 = .ok (.iinc 4 1, 3) := by decide +kernel
theorem dX9_can_129 : decode cX9_can 129 = .ok (.goto (-80), 3) := by decide +kernel
theorem dX9_can_132 : decode cX9_can 132 = .ok (.aload_n 0, 1) := by decide +kernel
theorem dX9_can_133 : decode cX9_can 133 = .ok (.iload_n 3, 1) := by decide +kernel
theorem dX9_can_134 : decode cX9_can 134 = .ok (.iload_n 2, 1) := by decide +kernel
theorem dX9_can_135 : decode cX9_can 135 = .ok (.invokestatic 374, 3) := by decide +kernel
theorem dX9_can_138 : decode cX9_can 138 = .ok (.ifCond .eq 7, 3) := by decide +kernel
theorem dX9_can_141 : decode cX9_can 141 = .ok (.iconst 1, 1) := by decide +kernel
theorem dX9_can_142 : decode cX9_can 142 = .ok (.goto 4, 3) := by decide +kernel
theorem dX9_can_145 : decode cX9_can 145 = .ok (.iconst 0, 1) := by decide +kernel
theorem dX9_can_146 : decode cX9_can 146 = .ok (.invokevirtual 46, 3) := by decide +kernel
theorem dX9_can_149 : decode cX9_can 149 = .ok (.ireturn, 1) := by decide +kernel
def B_X9_can_0 (X : Nat × (Nat → Int32)) (J : Nat → zCf) (R : zRt) : zCf := oALOAD 0 (oPI (zj (0)) (oPUTI 9 0 (oALOAD 0 (oILOAD 1 (oINV1 X M_X9_isBit 9 (oIFNE (J 19) (oALOAD 0 (oPI (zj (1)) (oINV1 X M_X9_refused 9 (oIRET R))))))))))
set_option maxRecDepth 100000 in
theorem vb_X9_can_0 {X : Nat × (Nat → Int32)} {R : zRt} : ∀ ls st h, B_X9_can_0 X (zV X M_X9_can (zQm M_X9_can R) 0 0) R ls st h → zV X M_X9_can (zQm M_X9_can R) 0 0 0 ls st h := sd_aload_n dX9_can_0 rfl (sd_iconst dX9_can_1 rfl (sd_puti dX9_can_2 zCl9 (Nat.le_of_ble_eq_true rfl) lk_RX9_36 rfl (Or.inl rfl) (sd_aload_n dX9_can_5 rfl (sd_iload_n dX9_can_6 rfl (sd_inv1 dX9_can_7 rfl mv_X9_isBit na_X9_isBit ml_RX9_322 ⟨⟨Nat.le_of_ble_eq_true rfl, Nat.le_of_ble_eq_true rfl⟩, ⟨Nat.le_of_ble_eq_true rfl, Nat.le_of_ble_eq_true rfl⟩⟩ (sd_ifne dX9_can_10 rfl (fun _ _ _ h => h) (sd_aload_n dX9_can_13 rfl (sd_iconst dX9_can_14 rfl (sd_inv1 dX9_can_15 rfl mv_X9_refused na_X9_refused ml_RX9_42 ⟨⟨Nat.le_of_ble_eq_true rfl, Nat.le_of_ble_eq_true rfl⟩, ⟨Nat.le_of_ble_eq_true rfl, Nat.le_of_ble_eq_true rfl⟩⟩ (sd_iret dX9_can_18 rfl (Nat.le_of_ble_eq_true rfl) (Nat.le_of_ble_eq_true rfl)))))))))))
def B_X9_can_19 (X : Nat × (Nat → Int32)) (J : Nat → zCf) (R : zRt) : zCf := oILOAD 2 (oPI (zj (0)) (oPI (zj (11)) (oINS3 X M_X9_in (oIFNE (J 35) (oALOAD 0 (oPI (zj (2)) (oINV1 X M_X9_refused 9 (oIRET R))))))))
set_option maxRecDepth 100000 in
theorem vb_X9_can_19 {X : Nat × (Nat → Int32)} {R : zRt} : ∀ ls st h, B_X9_can_19 X (zV X M_X9_can (zQm M_X9_can R) 0 0) R ls st h → zV X M_X9_can (zQm M_X9_can R) 0 0 19 ls st h := sd_iload_n dX9_can_19 rfl (sd_iconst dX9_can_20 rfl (sd_bipush dX9_can_21 rfl (sd_ins3 dX9_can_23 ms_X9_in na_X9_in ml_RX9_115 ⟨⟨Nat.le_of_ble_eq_true rfl, Nat.le_of_ble_eq_true rfl⟩, ⟨Nat.le_of_ble_eq_true rfl, Nat.le_of_ble_eq_true rfl⟩⟩ (sd_ifne dX9_can_26 rfl (fun _ _ _ h => h) (sd_aload_n dX9_can_29 rfl (sd_iconst dX9_can_30 rfl (sd_inv1 dX9_can_31 rfl mv_X9_refused na_X9_refused ml_RX9_42 ⟨⟨Nat.le_of_ble_eq_true rfl, Nat.le_of_ble_eq_true rfl⟩, ⟨Nat.le_of_ble_eq_true rfl, Nat.le_of_ble_eq_true rfl⟩⟩ (sd_iret dX9_can_34 rfl (Nat.le_of_ble_eq_true rfl) (Nat.le_of_ble_eq_true rfl)))))))))
def B_X9_can_35 (X : Nat × (Nat → Int32)) (J : Nat → zCf) (R : zRt) : zCf := oPI (zj (1)) (oALOAD 0 (oGETR 9 15 (oPI (zj (0)) (oILOAD 1 (oIADD (oIALD (oISHL (oISTORE 2 3 (oPI (zj (0)) (oISTORE 3 4 (J 49)))))))))))
set_option maxRecDepth 100000 in
theorem vb_X9_can_35 {X : Nat × (Nat → Int32)} {R : zRt} : ∀ ls st h, B_X9_can_35 X (zV X M_X9_can (zQm M_X9_can R) 0 0) R ls st h → zV X M_X9_can (zQm M_X9_can R) 0 0 35 ls st h := sd_iconst dX9_can_35 rfl (sd_aload_n dX9_can_36 rfl (sd_getr dX9_can_37 zCl9 (Nat.le_of_ble_eq_true rfl) lk_RX9_17 (Or.inr ⟨_, rfl⟩) (sd_iconst dX9_can_40 rfl (sd_iload_n dX9_can_41 rfl (sd_iadd dX9_can_42 (sd_iald dX9_can_43 (sd_ishl dX9_can_44 (sd_istore_n dX9_can_45 rfl (Nat.le_of_ble_eq_true rfl) (Or.inl rfl) (sd_iconst dX9_can_46 rfl (sd_istore dX9_can_47 (Nat.le_of_ble_eq_true rfl) (Or.inl rfl) (fun _ _ _ h => h)))))))))))
def B_X9_can_49 (X : Nat × (Nat → Int32)) (J : Nat → zCf) (R : zRt) : zCf := oILOAD 4 (oPI (zj (12)) (oICGE (J 132) (oILOAD 3 (oISTORE 4 5 (oPI (zj (0)) (oISTORE 5 6 (J 62)))))))
set_option maxRecDepth 100000 in
theorem vb_X9_can_49 {X : Nat × (Nat → Int32)} {R : zRt} : ∀ ls st h, B_X9_can_49 X (zV X M_X9_can (zQm M_X9_can R) 0 0) R ls st h → zV X M_X9_can (zQm M_X9_can R) 0 0 49 ls st h := sd_iload dX9_can_49 (sd_bipush dX9_can_51 rfl (sd_icge dX9_can_53 rfl (fun _ _ _ h => h) (sd_iload_n dX9_can_56 rfl (sd_istore dX9_can_57 (Nat.le_of_ble_eq_true rfl) (Or.inl rfl) (sd_iconst dX9_can_59 rfl (sd_istore dX9_can_60 (Nat.le_of_ble_eq_true rfl) (Or.inl rfl) (fun _ _ _ h => h)))))))
def B_X9_can_62 (X : Nat × (Nat → Int32)) (J : Nat → zCf) (R : zRt) : zCf := oILOAD 6 (oPI (zj (12)) (oICGE (J 123) (oPI (zj (-3)) (oISTORE 6 7 (J 73)))))
set_option maxRecDepth 100000 in
theorem vb_X9_can_62 {X : Nat × (Nat → Int32)} {R : zRt} : ∀ ls st h, B_X9_can_62 X (zV X M_X9_can (zQm M_X9_can R) 0 0) R ls st h → zV X M_X9_can (zQm M_X9_can R) 0 0 62 ls st h := sd_iload dX9_can_62 (sd_bipush dX9_can_64 rfl (sd_icge dX9_can_66 rfl (fun _ _ _ h => h) (sd_bipush dX9_can_69 rfl (sd_istore dX9_can_71 (Nat.le_of_ble_eq_true rfl) (Or.inl rfl) (fun _ _ _ h => h)))))
def B_X9_can_73 (X : Nat × (Nat → Int32)) (J : Nat → zCf) (R : zRt) : zCf := oILOAD 7 (oPI (zj (3)) (oICGT (J 117) (oILOAD 3 (oILOAD 6 (oINS2 X M_X9_has (oIFEQ (J 111) (oILOAD 5 (oPI (zj (1)) (oILOAD 6 (oALOAD 0 (oGETR 9 3 (oILOAD 1 (oILOAD 7 (oINV2 X M_X8_goesBy 8 (oIADD (oINS1 X M_X9_round (oISHL (oIOR (oISTORE 4 5 (J 111))))))))))))))))))))
set_option maxRecDepth 100000 in
theorem vb_X9_can_73 {X : Nat × (Nat → Int32)} {R : zRt} : ∀ ls st h, B_X9_can_73 X (zV X M_X9_can (zQm M_X9_can R) 0 0) R ls st h → zV X M_X9_can (zQm M_X9_can R) 0 0 73 ls st h := sd_iload dX9_can_73 (sd_iconst dX9_can_75 rfl (sd_icgt dX9_can_76 rfl (fun _ _ _ h => h) (sd_iload_n dX9_can_79 rfl (sd_iload dX9_can_80 (sd_ins2 dX9_can_82 ms_X9_has na_X9_has ml_RX9_374 ⟨⟨Nat.le_of_ble_eq_true rfl, Nat.le_of_ble_eq_true rfl⟩, ⟨Nat.le_of_ble_eq_true rfl, Nat.le_of_ble_eq_true rfl⟩⟩ (sd_ifeq dX9_can_85 rfl (fun _ _ _ h => h) (sd_iload dX9_can_88 (sd_iconst dX9_can_90 rfl (sd_iload dX9_can_91 (sd_aload_n dX9_can_93 rfl (sd_getr dX9_can_94 zCl9 (Nat.le_of_ble_eq_true rfl) lk_RX9_289 (Or.inl ⟨_, rfl⟩) (sd_iload_n dX9_can_97 rfl (sd_iload dX9_can_98 (sd_inv2 dX9_can_100 rfl mv_X8_goesBy na_X8_goesBy ml_RX9_300 ⟨⟨Nat.le_of_ble_eq_true rfl, Nat.le_of_ble_eq_true rfl⟩, ⟨Nat.le_of_ble_eq_true rfl, Nat.le_of_ble_eq_true rfl⟩⟩ (sd_iadd dX9_can_103 (sd_ins1 dX9_can_104 ms_X9_round na_X9_round ml_RX9_303 ⟨⟨Nat.le_of_ble_eq_true rfl, Nat.le_of_ble_eq_true rfl⟩, ⟨Nat.le_of_ble_eq_true rfl, Nat.le_of_ble_eq_true rfl⟩⟩ (sd_ishl dX9_can_107 (sd_ior dX9_can_108 (sd_istore dX9_can_109 (Nat.le_of_ble_eq_true rfl) (Or.inl rfl) (fun _ _ _ h => h))))))))))))))))))))
def B_X9_can_111 (X : Nat × (Nat → Int32)) (J : Nat → zCf) (R : zRt) : zCf := oIINC 6 7 (zj (1)) (J 73)
set_option maxRecDepth 100000 in
theorem vb_X9_can_111 {X : Nat × (Nat → Int32)} {R : zRt} : ∀ ls st h, B_X9_can_111 X (zV X M_X9_can (zQm M_X9_can R) 0 0) R ls st h → zV X M_X9_can (zQm M_X9_can R) 0 0 111 ls st h := sd_iinc dX9_can_111 rfl (Nat.le_of_ble_eq_true rfl) (Or.inl rfl) (sd_goto dX9_can_114 rfl (fun _ _ _ h => h))
def B_X9_can_117 (X : Nat × (Nat → Int32)) (J : Nat → zCf) (R : zRt) : zCf := oIINC 5 6 (zj (1)) (J 62)
set_option maxRecDepth 100000 in
theorem vb_X9_can_117 {X : Nat × (Nat → Int32)} {R : zRt} : ∀ ls st h, B_X9_can_117 X (zV X M_X9_can (zQm M_X9_can R) 0 0) R ls st h → zV X M_X9_can (zQm M_X9_can R) 0 0 117 ls st h := sd_iinc dX9_can_117 rfl (Nat.le_of_ble_eq_true rfl) (Or.inl rfl) (sd_goto dX9_can_120 rfl (fun _ _ _ h => h))
def B_X9_can_123 (X : Nat × (Nat → Int32)) (J : Nat → zCf) (R : zRt) : zCf := oILOAD 5 (oISTORE 2 3 (oIINC 3 4 (zj (1)) (J 49)))
set_option maxRecDepth 100000 in
theorem vb_X9_can_123 {X : Nat × (Nat → Int32)} {R : zRt} : ∀ ls st h, B_X9_can_123 X (zV X M_X9_can (zQm M_X9_can R) 0 0) R ls st h → zV X M_X9_can (zQm M_X9_can R) 0 0 123 ls st h := sd_iload dX9_can_123 (sd_istore_n dX9_can_125 rfl (Nat.le_of_ble_eq_true rfl) (Or.inl rfl) (sd_iinc dX9_can_126 rfl (Nat.le_of_ble_eq_true rfl) (Or.inl rfl) (sd_goto dX9_can_129 rfl (fun _ _ _ h => h))))
def B_X9_can_132 (X : Nat × (Nat → Int32)) (J : Nat → zCf) (R : zRt) : zCf := oALOAD 0 (oILOAD 3 (oILOAD 2 (oINS2 X M_X9_has (oIFEQ (J 145) (oPI (zj (1)) (J 146))))))
set_option maxRecDepth 100000 in
theorem vb_X9_can_132 {X : Nat × (Nat → Int32)} {R : zRt} : ∀ ls st h, B_X9_can_132 X (zV X M_X9_can (zQm M_X9_can R) 0 0) R ls st h → zV X M_X9_can (zQm M_X9_can R) 0 0 132 ls st h := sd_aload_n dX9_can_132 rfl (sd_iload_n dX9_can_133 rfl (sd_iload_n dX9_can_134 rfl (sd_ins2 dX9_can_135 ms_X9_has na_X9_has ml_RX9_374 ⟨⟨Nat.le_of_ble_eq_true rfl, Nat.le_of_ble_eq_true rfl⟩, ⟨Nat.le_of_ble_eq_true rfl, Nat.le_of_ble_eq_true rfl⟩⟩ (sd_ifeq dX9_can_138 rfl (fun _ _ _ h => h) (sd_iconst dX9_can_141 rfl (sd_goto dX9_can_142 rfl (fun _ _ _ h => h)))))))
def B_X9_can_145 (X : Nat × (Nat → Int32)) (J : Nat → zCf) (R : zRt) : zCf := oPI (zj (0)) (J 146)
set_option maxRecDepth 100000 in
theorem vb_X9_can_145 {X : Nat × (Nat → Int32)} {R : zRt} : ∀ ls st h, B_X9_can_145 X (zV X M_X9_can (zQm M_X9_can R) 0 0) R ls st h → zV X M_X9_can (zQm M_X9_can R) 0 0 145 ls st h := sd_iconst dX9_can_145 rfl (fun _ _ _ h => h)
def B_X9_can_146 (X : Nat × (Nat → Int32)) (J : Nat → zCf) (R : zRt) : zCf := oINV1 X M_X9_good 9 (oIRET R)
set_option maxRecDepth 100000 in
theorem vb_X9_can_146 {X : Nat × (Nat → Int32)} {R : zRt} : ∀ ls st h, B_X9_can_146 X (zV X M_X9_can (zQm M_X9_can R) 0 0) R ls st h → zV X M_X9_can (zQm M_X9_can R) 0 0 146 ls st h := sd_inv1 dX9_can_146 rfl mv_X9_good na_X9_good ml_RX9_46 ⟨⟨Nat.le_of_ble_eq_true rfl, Nat.le_of_ble_eq_true rfl⟩, ⟨Nat.le_of_ble_eq_true rfl, Nat.le_of_ble_eq_true rfl⟩⟩ (sd_iret dX9_can_149 rfl (Nat.le_of_ble_eq_true rfl) (Nat.le_of_ble_eq_true rfl))
theorem dX9_isMade_0 : decode cX9_isMade 0 = .ok (.iconst 0, 1) := by decide +kernel
theorem dX9_isMade_1 : decode cX9_isMade 1 = .ok (.istore_n 2, 1) := by decide +kernel
theorem dX9_isMade_2 : decode cX9_isMade 2 = .ok (.iload_n 2, 1) := by decide +kernel
theorem dX9_isMade_3 : decode cX9_isMade 3 = .ok (.aload_n 0, 1) := by decide +kernel
theorem dX9_isMade_4 : decode cX9_isMade 4 = .ok (.getfield 289, 3) := by decide +kernel
theorem dX9_isMade_7 : decode cX9_isMade 7 = .ok (.getfield 180, 3) := by decide +kernel
theorem dX9_isMade_10 : decode cX9_isMade 10 = .ok (.if_icmp .ge 26, 3) := by decide +kernel
theorem dX9_isMade_13 : decode cX9_isMade 13 = .ok (.aload_n 0, 1) := by decide +kernel
theorem dX9_isMade_14 : decode cX9_isMade 14 = .ok (.getfield 21, 3) := by decide +kernel
theorem dX9_isMade_17 : decode cX9_isMade 17 = .ok (.iconst 0, 1) := by decide +kernel
theorem dX9_isMade_18 : decode cX9_isMade 18 = .ok (.iload_n 2, 1) := by decide +kernel
theorem dX9_isMade_19 : decode cX9_isMade 19 = .ok (.iadd, 1) := by decide +kernel
theorem dX9_isMade_20 : decode cX9_isMade 20 = .ok (.aload_n 0, 1) := by decide +kernel
theorem dX9_isMade_21 : decode cX9_isMade 21 = .ok (.getfield 289, 3) := by decide +kernel
theorem dX9_isMade_24 : decode cX9_isMade 24 = .ok (.getfield 238, 3) := by decide +kernel
theorem dX9_isMade_27 : decode cX9_isMade 27 = .ok (.iload_n 2, 1) := by decide +kernel
theorem dX9_isMade_28 : decode cX9_isMade 28 = .ok (.iaload, 1) := by decide +kernel
theorem dX9_isMade_29 : decode cX9_isMade 29 = .ok (.iastore, 1) := by decide +kernel
theorem dX9_isMade_30 : decode cX9_isMade 30 = .ok (.iinc 2 1, 3) := by decide +kernel
theorem dX9_isMade_33 : decode cX9_isMade 33 = .ok (.goto (-31), 3) := by decide +kernel
theorem dX9_isMade_36 : decode cX9_isMade 36 = .ok (.aload_n 0, 1) := by decide +kernel
theorem dX9_isMade_37 : decode cX9_isMade 37 = .ok (.iload_n 1, 1) := by decide +kernel
theorem dX9_isMade_38 : decode cX9_isMade 38 = .ok (.invokevirtual 361, 3) := by decide +kernel
theorem dX9_isMade_41 : decode cX9_isMade 41 = .ok (.iconst 0, 1) := by decide +kernel
theorem dX9_isMade_42 : decode cX9_isMade 42 = .ok (.istore_n 2, 1) := by decide +kernel
theorem dX9_isMade_43 : decode cX9_isMade 43 = .ok (.iload_n 2, 1) := by decide +kernel
theorem dX9_isMade_44 : decode cX9_isMade 44 = .ok (.aload_n 0, 1) := by decide +kernel
theorem dX9_isMade_45 : decode cX9_isMade 45 = .ok (.getfield 289, 3) := by decide +kernel
theorem dX9_isMade_48 : decode cX9_isMade 48 = .ok (.getfield 180, 3) := by decide +kernel
theorem dX9_isMade_51 : decode cX9_isMade 51 = .ok (.if_icmp .ge 45, 3) := by decide +kernel
theorem dX9_isMade_54 : decode cX9_isMade 54 = .ok (.aload_n 0, 1) := by decide +kernel
theorem dX9_isMade_55 : decode cX9_isMade 55 = .ok (.getfield 289, 3) := by decide +kernel
theorem dX9_isMade_58 : decode cX9_isMade 58 = .ok (.getfield 242, 3) := by decide +kernel
theorem dX9_isMade_61 : decode cX9_isMade 61 = .ok (.iload_n 2, 1) := by decide +kernel
theorem dX9_isMade_62 : decode cX9_isMade 62 = .ok (.iaload, 1) := by decide +kernel
theorem dX9_isMade_63 : decode cX9_isMade 63 = .ok (.bipush (-2), 2) := by decide +kernel
theorem dX9_isMade_65 : decode cX9_isMade 65 = .ok (.if_icmp .eq 25, 3) := by decide +kernel
theorem dX9_isMade_68 : decode cX9_isMade 68 = .ok (.aload_n 0, 1) := by decide +kernel
theorem dX9_isMade_69 : decode cX9_isMade 69 = .ok (.getfield 289, 3) := by decide +kernel
theorem dX9_isMade_72 : decode cX9_isMade 72 = .ok (.getfield 242, 3) := by decide +kernel
theorem dX9_isMade_75 : decode cX9_isMade 75 = .ok (.iload_n 2, 1) := by decide +kernel
theorem dX9_isMade_76 : decode cX9_isMade 76 = .ok (.iaload, 1) := by decide +kernel
theorem dX9_isMade_77 : decode cX9_isMade 77 = .ok (.aload_n 0, 1) := by decide +kernel
theorem dX9_isMade_78 : decode cX9_isMade 78 = .ok (.getfield 21, 3) := by decide +kernel
theorem dX9_isMade_81 : decode cX9_isMade 81 = .ok (.iconst 0, 1) := by decide +kernel
theorem dX9_isMade_82 : decode cX9_isMade 82 = .ok (.iload_n 2, 1) := by decide +kernel
theorem dX9_isMade_83 : decode cX9_isMade 83 = .ok (.iadd, 1) := by decide +kernel
theorem dX9_isMade_84 : decode cX9_isMade 84 = .ok (.iaload, 1) := by decide +kernel
theorem dX9_isMade_85 : decode cX9_isMade 85 = .ok (.if_icmp .eq 5, 3) := by decide +kernel
theorem dX9_isMade_88 : decode cX9_isMade 88 = .ok (.iconst 0, 1) := by decide +kernel
theorem dX9_isMade_89 : decode cX9_isMade 89 = .ok (.ireturn, 1) := by decide +kernel
theorem dX9_isMade_90 : decode cX9_isMade 90 = .ok (.iinc 2 1, 3) := by decide +kernel
theorem dX9_isMade_93 : decode cX9_isMade 93 = .ok (.goto (-50), 3) := by decide +kernel
theorem dX9_isMade_96 : decode cX9_isMade 96 = .ok (.iconst 1, 1) := by decide +kernel
theorem dX9_isMade_97 : decode cX9_isMade 97 = .ok (.ireturn, 1) := by decide +kernel
def B_X9_isMade_0 (X : Nat × (Nat → Int32)) (J : Nat → zCf) (R : zRt) : zCf := oPI (zj (0)) (oISTORE 1 2 (J 2))
set_option maxRecDepth 100000 in
theorem vb_X9_isMade_0 {X : Nat × (Nat → Int32)} {R : zRt} : ∀ ls st h, B_X9_isMade_0 X (zV X M_X9_isMade (zQm M_X9_isMade R) 0 0) R ls st h → zV X M_X9_isMade (zQm M_X9_isMade R) 0 0 0 ls st h := sd_iconst dX9_isMade_0 rfl (sd_istore_n dX9_isMade_1 rfl (Nat.le_of_ble_eq_true rfl) (Or.inl rfl) (fun _ _ _ h => h))
def B_X9_isMade_2 (X : Nat × (Nat → Int32)) (J : Nat → zCf) (R : zRt) : zCf := oILOAD 2 (oALOAD 0 (oGETR 9 3 (oGETI 8 1 (oICGE (J 36) (oALOAD 0 (oGETR 9 16 (oPI (zj (0)) (oILOAD 2 (oIADD (oALOAD 0 (oGETR 9 3 (oGETR 8 9 (oILOAD 2 (oIALD (oIAST (oIINC 1 2 (zj (1)) (J 2)))))))))))))))))
set_option maxRecDepth 100000 in
theorem vb_X9_isMade_2 {X : Nat × (Nat → Int32)} {R : zRt} : ∀ ls st h, B_X9_isMade_2 X (zV X M_X9_isMade (zQm M_X9_isMade R) 0 0) R ls st h → zV X M_X9_isMade (zQm M_X9_isMade R) 0 0 2 ls st h := sd_iload_n dX9_isMade_2 rfl (sd_aload_n dX9_isMade_3 rfl (sd_getr dX9_isMade_4 zCl9 (Nat.le_of_ble_eq_true rfl) lk_RX9_289 (Or.inl ⟨_, rfl⟩) (sd_geti dX9_isMade_7 zCl8 (Nat.le_of_ble_eq_true rfl) lk_RX9_180 (Or.inl rfl) (sd_icge dX9_isMade_10 rfl (fun _ _ _ h => h) (sd_aload_n dX9_isMade_13 rfl (sd_getr dX9_isMade_14 zCl9 (Nat.le_of_ble_eq_true rfl) lk_RX9_21 (Or.inr ⟨_, rfl⟩) (sd_iconst dX9_isMade_17 rfl (sd_iload_n dX9_isMade_18 rfl (sd_iadd dX9_isMade_19 (sd_aload_n dX9_isMade_20 rfl (sd_getr dX9_isMade_21 zCl9 (Nat.le_of_ble_eq_true rfl) lk_RX9_289 (Or.inl ⟨_, rfl⟩) (sd_getr dX9_isMade_24 zCl8 (Nat.le_of_ble_eq_true rfl) lk_RX9_238 (Or.inr ⟨_, rfl⟩) (sd_iload_n dX9_isMade_27 rfl (sd_iald dX9_isMade_28 (sd_iast dX9_isMade_29 (sd_iinc dX9_isMade_30 rfl (Nat.le_of_ble_eq_true rfl) (Or.inl rfl) (sd_goto dX9_isMade_33 rfl (fun _ _ _ h => h))))))))))))))))))
def B_X9_isMade_36 (X : Nat × (Nat → Int32)) (J : Nat → zCf) (R : zRt) : zCf := oALOAD 0 (oILOAD 1 (oINV1 X M_X9_turnsRow 9 (oPI (zj (0)) (oISTORE 1 2 (J 43)))))
set_option maxRecDepth 100000 in
theorem vb_X9_isMade_36 {X : Nat × (Nat → Int32)} {R : zRt} : ∀ ls st h, B_X9_isMade_36 X (zV X M_X9_isMade (zQm M_X9_isMade R) 0 0) R ls st h → zV X M_X9_isMade (zQm M_X9_isMade R) 0 0 36 ls st h := sd_aload_n dX9_isMade_36 rfl (sd_iload_n dX9_isMade_37 rfl (sd_inv1 dX9_isMade_38 rfl mv_X9_turnsRow na_X9_turnsRow ml_RX9_361 ⟨⟨Nat.le_of_ble_eq_true rfl, Nat.le_of_ble_eq_true rfl⟩, ⟨Nat.le_of_ble_eq_true rfl, Nat.le_of_ble_eq_true rfl⟩⟩ (sd_iconst dX9_isMade_41 rfl (sd_istore_n dX9_isMade_42 rfl (Nat.le_of_ble_eq_true rfl) (Or.inl rfl) (fun _ _ _ h => h)))))
def B_X9_isMade_43 (X : Nat × (Nat → Int32)) (J : Nat → zCf) (R : zRt) : zCf := oILOAD 2 (oALOAD 0 (oGETR 9 3 (oGETI 8 1 (oICGE (J 96) (oALOAD 0 (oGETR 9 3 (oGETR 8 11 (oILOAD 2 (oIALD (oPI (zj (-2)) (oICEQ (J 90) (oALOAD 0 (oGETR 9 3 (oGETR 8 11 (oILOAD 2 (oIALD (oALOAD 0 (oGETR 9 16 (oPI (zj (0)) (oILOAD 2 (oIADD (oIALD (oICEQ (J 90) (oPI (zj (0)) (oZRET R)))))))))))))))))))))))))
set_option maxRecDepth 100000 in
theorem vb_X9_isMade_43 {X : Nat × (Nat → Int32)} {R : zRt} : ∀ ls st h, B_X9_isMade_43 X (zV X M_X9_isMade (zQm M_X9_isMade R) 0 0) R ls st h → zV X M_X9_isMade (zQm M_X9_isMade R) 0 0 43 ls st h := sd_iload_n dX9_isMade_43 rfl (sd_aload_n dX9_isMade_44 rfl (sd_getr dX9_isMade_45 zCl9 (Nat.le_of_ble_eq_true rfl) lk_RX9_289 (Or.inl ⟨_, rfl⟩) (sd_geti dX9_isMade_48 zCl8 (Nat.le_of_ble_eq_true rfl) lk_RX9_180 (Or.inl rfl) (sd_icge dX9_isMade_51 rfl (fun _ _ _ h => h) (sd_aload_n dX9_isMade_54 rfl (sd_getr dX9_isMade_55 zCl9 (Nat.le_of_ble_eq_true rfl) lk_RX9_289 (Or.inl ⟨_, rfl⟩) (sd_getr dX9_isMade_58 zCl8 (Nat.le_of_ble_eq_true rfl) lk_RX9_242 (Or.inr ⟨_, rfl⟩) (sd_iload_n dX9_isMade_61 rfl (sd_iald dX9_isMade_62 (sd_bipush dX9_isMade_63 rfl (sd_iceq dX9_isMade_65 rfl (fun _ _ _ h => h) (sd_aload_n dX9_isMade_68 rfl (sd_getr dX9_isMade_69 zCl9 (Nat.le_of_ble_eq_true rfl) lk_RX9_289 (Or.inl ⟨_, rfl⟩) (sd_getr dX9_isMade_72 zCl8 (Nat.le_of_ble_eq_true rfl) lk_RX9_242 (Or.inr ⟨_, rfl⟩) (sd_iload_n dX9_isMade_75 rfl (sd_iald dX9_isMade_76 (sd_aload_n dX9_isMade_77 rfl (sd_getr dX9_isMade_78 zCl9 (Nat.le_of_ble_eq_true rfl) lk_RX9_21 (Or.inr ⟨_, rfl⟩) (sd_iconst dX9_isMade_81 rfl (sd_iload_n dX9_isMade_82 rfl (sd_iadd dX9_isMade_83 (sd_iald dX9_isMade_84 (sd_iceq dX9_isMade_85 rfl (fun _ _ _ h => h) (sd_iconst dX9_isMade_88 rfl (sd_zret dX9_isMade_89 rfl (Nat.le_of_ble_eq_true rfl) (Nat.le_of_ble_eq_true rfl))))))))))))))))))))))))))
def B_X9_isMade_90 (X : Nat × (Nat → Int32)) (J : Nat → zCf) (R : zRt) : zCf := oIINC 1 2 (zj (1)) (J 43)
set_option maxRecDepth 100000 in
theorem vb_X9_isMade_90 {X : Nat × (Nat → Int32)} {R : zRt} : ∀ ls st h, B_X9_isMade_90 X (zV X M_X9_isMade (zQm M_X9_isMade R) 0 0) R ls st h → zV X M_X9_isMade (zQm M_X9_isMade R) 0 0 90 ls st h := sd_iinc dX9_isMade_90 rfl (Nat.le_of_ble_eq_true rfl) (Or.inl rfl) (sd_goto dX9_isMade_93 rfl (fun _ _ _ h => h))
def B_X9_isMade_96 (X : Nat × (Nat → Int32)) (J : Nat → zCf) (R : zRt) : zCf := oPI (zj (1)) (oZRET R)
set_option maxRecDepth 100000 in
theorem vb_X9_isMade_96 {X : Nat × (Nat → Int32)} {R : zRt} : ∀ ls st h, B_X9_isMade_96 X (zV X M_X9_isMade (zQm M_X9_isMade R) 0 0) R ls st h → zV X M_X9_isMade (zQm M_X9_isMade R) 0 0 96 ls st h := sd_iconst dX9_isMade_96 rfl (sd_zret dX9_isMade_97 rfl (Nat.le_of_ble_eq_true rfl) (Nat.le_of_ble_eq_true rfl))
theorem dX9_countsMade_0 : decode cX9_countsMade 0 = .ok (.iconst 0, 1) := by decide +kernel
theorem dX9_countsMade_1 : decode cX9_countsMade 1 = .ok (.istore_n 3, 1) := by decide +kernel
theorem dX9_countsMade_2 : decode cX9_countsMade 2 = .ok (.aload_n 0, 1) := by decide +kernel
theorem dX9_countsMade_3 : decode cX9_countsMade 3 = .ok (.iload_n 1, 1) := by decide +kernel
theorem dX9_countsMade_4 : decode cX9_countsMade 4 = .ok (.invokevirtual 358, 3) := by decide +kernel
theorem dX9_countsMade_7 : decode cX9_countsMade 7 = .ok (.iconst 1, 1) := by decide +kernel
theorem dX9_countsMade_8 : decode cX9_countsMade 8 = .ok (.istore 4, 2) := by decide +kernel
theorem dX9_countsMade_10 : decode cX9_countsMade 10 = .ok (.iload 4, 2) := by decide +kernel
theorem dX9_countsMade_12 : decode cX9_countsMade 12 = .ok (.ifCond .eq 34, 3) := by decide +kernel
theorem dX9_countsMade_15 : decode cX9_countsMade 15 = .ok (.aload_n 0, 1) := by decide +kernel
theorem dX9_countsMade_16 : decode cX9_countsMade 16 = .ok (.iload_n 1, 1) := by decide +kernel
theorem dX9_countsMade_17 : decode cX9_countsMade 17 = .ok (.invokevirtual 377, 3) := by decide +kernel
theorem dX9_countsMade_20 : decode cX9_countsMade 20 = .ok (.ifCond .eq 16, 3) := by decide +kernel
theorem dX9_countsMade_23 : decode cX9_countsMade 23 = .ok (.iload_n 3, 1) := by decide +kernel
theorem dX9_countsMade_24 : decode cX9_countsMade 24 = .ok (.iload_n 2, 1) := by decide +kernel
theorem dX9_countsMade_25 : decode cX9_countsMade 25 = .ok (.if_icmp .ne 8, 3) := by decide +kernel
theorem dX9_countsMade_28 : decode cX9_countsMade 28 = .ok (.aload_n 0, 1) := by decide +kernel
theorem dX9_countsMade_29 : decode cX9_countsMade 29 = .ok (.iload_n 1, 1) := by decide +kernel
theorem dX9_countsMade_30 : decode cX9_countsMade 30 = .ok (.invokevirtual 380, 3) := by decide +kernel
theorem dX9_countsMade_33 : decode cX9_countsMade 33 = .ok (.iinc 3 1, 3) := by decide +kernel
theorem dX9_countsMade_36 : decode cX9_countsMade 36 = .ok (.aload_n 0, 1) := by decide +kernel
theorem dX9_countsMade_37 : decode cX9_countsMade 37 = .ok (.iload_n 1, 1) := by decide +kernel
theorem dX9_countsMade_38 : decode cX9_countsMade 38 = .ok (.invokevirtual 368, 3) := by decide +kernel
theorem dX9_countsMade_41 : decode cX9_countsMade 41 = .ok (.istore 4, 2) := by decide +kernel
theorem dX9_countsMade_43 : decode cX9_countsMade 43 = .ok (.goto (-33), 3) := by decide +kernel
theorem dX9_countsMade_46 : decode cX9_countsMade 46 = .ok (.iload_n 3, 1) := by decide +kernel
theorem dX9_countsMade_47 : decode cX9_countsMade 47 = .ok (.ireturn, 1) := by decide +kernel
def B_X9_countsMade_0 (X : Nat × (Nat → Int32)) (J : Nat → zCf) (R : zRt) : zCf := oPI (zj (0)) (oISTORE 2 3 (oALOAD 0 (oILOAD 1 (oINV1 X M_X9_firstRow 9 (oPI (zj (1)) (oISTORE 3 4 (J 10)))))))
set_option maxRecDepth 100000 in
theorem vb_X9_countsMade_0 {X : Nat × (Nat → Int32)} {R : zRt} : ∀ ls st h, B_X9_countsMade_0 X (zV X M_X9_countsMade (zQm M_X9_countsMade R) 0 0) R ls st h → zV X M_X9_countsMade (zQm M_X9_countsMade R) 0 0 0 ls st h := sd_iconst dX9_countsMade_0 rfl (sd_istore_n dX9_countsMade_1 rfl (Nat.le_of_ble_eq_true rfl) (Or.inl rfl) (sd_aload_n dX9_countsMade_2 rfl (sd_iload_n dX9_countsMade_3 rfl (sd_inv1 dX9_countsMade_4 rfl mv_X9_firstRow na_X9_firstRow ml_RX9_358 ⟨⟨Nat.le_of_ble_eq_true rfl, Nat.le_of_ble_eq_true rfl⟩, ⟨Nat.le_of_ble_eq_true rfl, Nat.le_of_ble_eq_true rfl⟩⟩ (sd_iconst dX9_countsMade_7 rfl (sd_istore dX9_countsMade_8 (Nat.le_of_ble_eq_true rfl) (Or.inl rfl) (fun _ _ _ h => h)))))))
def B_X9_countsMade_10 (X : Nat × (Nat → Int32)) (J : Nat → zCf) (R : zRt) : zCf := oILOAD 4 (oIFEQ (J 46) (oALOAD 0 (oILOAD 1 (oINV1 X M_X9_isMade 9 (oIFEQ (J 36) (oILOAD 3 (oILOAD 2 (oICNE (J 33) (oALOAD 0 (oILOAD 1 (oINV1 X M_X9_codes 9 (J 33))))))))))))
set_option maxRecDepth 100000 in
theorem vb_X9_countsMade_10 {X : Nat × (Nat → Int32)} {R : zRt} : ∀ ls st h, B_X9_countsMade_10 X (zV X M_X9_countsMade (zQm M_X9_countsMade R) 0 0) R ls st h → zV X M_X9_countsMade (zQm M_X9_countsMade R) 0 0 10 ls st h := sd_iload dX9_countsMade_10 (sd_ifeq dX9_countsMade_12 rfl (fun _ _ _ h => h) (sd_aload_n dX9_countsMade_15 rfl (sd_iload_n dX9_countsMade_16 rfl (sd_inv1 dX9_countsMade_17 rfl mv_X9_isMade na_X9_isMade ml_RX9_377 ⟨⟨Nat.le_of_ble_eq_true rfl, Nat.le_of_ble_eq_true rfl⟩, ⟨Nat.le_of_ble_eq_true rfl, Nat.le_of_ble_eq_true rfl⟩⟩ (sd_ifeq dX9_countsMade_20 rfl (fun _ _ _ h => h) (sd_iload_n dX9_countsMade_23 rfl (sd_iload_n dX9_countsMade_24 rfl (sd_icne dX9_countsMade_25 rfl (fun _ _ _ h => h) (sd_aload_n dX9_countsMade_28 rfl (sd_iload_n dX9_countsMade_29 rfl (sd_inv1 dX9_countsMade_30 rfl mv_X9_codes na_X9_codes ml_RX9_380 ⟨⟨Nat.le_of_ble_eq_true rfl, Nat.le_of_ble_eq_true rfl⟩, ⟨Nat.le_of_ble_eq_true rfl, Nat.le_of_ble_eq_true rfl⟩⟩ (fun _ _ _ h => h))))))))))))
def B_X9_countsMade_33 (X : Nat × (Nat → Int32)) (J : Nat → zCf) (R : zRt) : zCf := oIINC 2 3 (zj (1)) (J 36)
set_option maxRecDepth 100000 in
theorem vb_X9_countsMade_33 {X : Nat × (Nat → Int32)} {R : zRt} : ∀ ls st h, B_X9_countsMade_33 X (zV X M_X9_countsMade (zQm M_X9_countsMade R) 0 0) R ls st h → zV X M_X9_countsMade (zQm M_X9_countsMade R) 0 0 33 ls st h := sd_iinc dX9_countsMade_33 rfl (Nat.le_of_ble_eq_true rfl) (Or.inl rfl) (fun _ _ _ h => h)
def B_X9_countsMade_36 (X : Nat × (Nat → Int32)) (J : Nat → zCf) (R : zRt) : zCf := oALOAD 0 (oILOAD 1 (oINV1 X M_X9_nextRow 9 (oISTORE 3 4 (J 10))))
set_option maxRecDepth 100000 in
theorem vb_X9_countsMade_36 {X : Nat × (Nat → Int32)} {R : zRt} : ∀ ls st h, B_X9_countsMade_36 X (zV X M_X9_countsMade (zQm M_X9_countsMade R) 0 0) R ls st h → zV X M_X9_countsMade (zQm M_X9_countsMade R) 0 0 36 ls st h := sd_aload_n dX9_countsMade_36 rfl (sd_iload_n dX9_countsMade_37 rfl (sd_inv1 dX9_countsMade_38 rfl mv_X9_nextRow na_X9_nextRow ml_RX9_368 ⟨⟨Nat.le_of_ble_eq_true rfl, Nat.le_of_ble_eq_true rfl⟩, ⟨Nat.le_of_ble_eq_true rfl, Nat.le_of_ble_eq_true rfl⟩⟩ (sd_istore dX9_countsMade_41 (Nat.le_of_ble_eq_true rfl) (Or.inl rfl) (sd_goto dX9_countsMade_43 rfl (fun _ _ _ h => h)))))
def B_X9_countsMade_46 (X : Nat × (Nat → Int32)) (J : Nat → zCf) (R : zRt) : zCf := oILOAD 3 (oIRET R)
set_option maxRecDepth 100000 in
theorem vb_X9_countsMade_46 {X : Nat × (Nat → Int32)} {R : zRt} : ∀ ls st h, B_X9_countsMade_46 X (zV X M_X9_countsMade (zQm M_X9_countsMade R) 0 0) R ls st h → zV X M_X9_countsMade (zQm M_X9_countsMade R) 0 0 46 ls st h := sd_iload_n dX9_countsMade_46 rfl (sd_iret dX9_countsMade_47 rfl (Nat.le_of_ble_eq_true rfl) (Nat.le_of_ble_eq_true rfl))
theorem dX9_codes_0 : decode cX9_codes 0 = .ok (.aload_n 0, 1) := by decide +kernel
theorem dX9_codes_1 : decode cX9_codes 1 = .ok (.iconst 0, 1) := by decide +kernel
theorem dX9_codes_2 : decode cX9_codes 2 = .ok (.putfield 383, 3) := by decide +kernel
theorem dX9_codes_5 : decode cX9_codes 5 = .ok (.iconst 0, 1) := by decide +kernel
theorem dX9_codes_6 : decode cX9_codes 6 = .ok (.istore_n 2, 1) := by decide +kernel
theorem dX9_codes_7 : decode cX9_codes 7 = .ok (.iload_n 2, 1) := by decide +kernel
theorem dX9_codes_8 : decode cX9_codes 8 = .ok (.iload_n 1, 1) := by decide +kernel
theorem dX9_codes_9 : decode cX9_codes 9 = .ok (.if_icmp .ge 32, 3) := by decide +kernel
theorem dX9_codes_12 : decode cX9_codes 12 = .ok (.aload_n 0, 1) := by decide +kernel
theorem dX9_codes_13 : decode cX9_codes 13 = .ok (.bipush 10, 2) := by decide +kernel
theorem dX9_codes_15 : decode cX9_codes 15 = .ok (.aload_n 0, 1) := by decide +kernel
theorem dX9_codes_16 : decode cX9_codes 16 = .ok (.getfield 383, 3) := by decide +kernel
theorem dX9_codes_19 : decode cX9_codes 19 = .ok (.imul, 1) := by decide +kernel
theorem dX9_codes_20 : decode cX9_codes 20 = .ok (.aload_n 0, 1) := by decide +kernel
theorem dX9_codes_21 : decode cX9_codes 21 = .ok (.getfield 30, 3) := by decide +kernel
theorem dX9_codes_24 : decode cX9_codes 24 = .ok (.iload_n 2, 1) := by decide +kernel
theorem dX9_codes_25 : decode cX9_codes 25 = .ok (.iaload, 1) := by decide +kernel
theorem dX9_codes_26 : decode cX9_codes 26 = .ok (.invokestatic 352, 3) := by decide +kernel
theorem dX9_codes_29 : decode cX9_codes 29 = .ok (.iadd, 1) := by decide +kernel
theorem dX9_codes_30 : decode cX9_codes 30 = .ok (.iconst 3, 1) := by decide +kernel
theorem dX9_codes_31 : decode cX9_codes 31 = .ok (.iadd, 1) := by decide +kernel
theorem dX9_codes_32 : decode cX9_codes 32 = .ok (.putfield 383, 3) := by decide +kernel
theorem dX9_codes_35 : decode cX9_codes 35 = .ok (.iinc 2 1, 3) := by decide +kernel
theorem dX9_codes_38 : decode cX9_codes 38 = .ok (.goto (-31), 3) := by decide +kernel
theorem dX9_codes_41 : decode cX9_codes 41 = .ok (.return_, 1) := by decide +kernel
def B_X9_codes_0 (X : Nat × (Nat → Int32)) (J : Nat → zCf) (R : zRt) : zCf := oALOAD 0 (oPI (zj (0)) (oPUTI 9 23 (oPI (zj (0)) (oISTORE 1 2 (J 7)))))
set_option maxRecDepth 100000 in
theorem vb_X9_codes_0 {X : Nat × (Nat → Int32)} {R : zRt} : ∀ ls st h, B_X9_codes_0 X (zV X M_X9_codes (zQm M_X9_codes R) 0 0) R ls st h → zV X M_X9_codes (zQm M_X9_codes R) 0 0 0 ls st h := sd_aload_n dX9_codes_0 rfl (sd_iconst dX9_codes_1 rfl (sd_puti dX9_codes_2 zCl9 (Nat.le_of_ble_eq_true rfl) lk_RX9_383 rfl (Or.inl rfl) (sd_iconst dX9_codes_5 rfl (sd_istore_n dX9_codes_6 rfl (Nat.le_of_ble_eq_true rfl) (Or.inl rfl) (fun _ _ _ h => h)))))
def B_X9_codes_7 (X : Nat × (Nat → Int32)) (J : Nat → zCf) (R : zRt) : zCf := oILOAD 2 (oILOAD 1 (oICGE (J 41) (oALOAD 0 (oPI (zj (10)) (oALOAD 0 (oGETI 9 23 (oIMUL (oALOAD 0 (oGETR 9 21 (oILOAD 2 (oIALD (oINS1 X M_X9_clicksOf (oIADD (oPI (zj (3)) (oIADD (oPUTI 9 23 (oIINC 1 2 (zj (1)) (J 7))))))))))))))))))
set_option maxRecDepth 100000 in
theorem vb_X9_codes_7 {X : Nat × (Nat → Int32)} {R : zRt} : ∀ ls st h, B_X9_codes_7 X (zV X M_X9_codes (zQm M_X9_codes R) 0 0) R ls st h → zV X M_X9_codes (zQm M_X9_codes R) 0 0 7 ls st h := sd_iload_n dX9_codes_7 rfl (sd_iload_n dX9_codes_8 rfl (sd_icge dX9_codes_9 rfl (fun _ _ _ h => h) (sd_aload_n dX9_codes_12 rfl (sd_bipush dX9_codes_13 rfl (sd_aload_n dX9_codes_15 rfl (sd_geti dX9_codes_16 zCl9 (Nat.le_of_ble_eq_true rfl) lk_RX9_383 (Or.inl rfl) (sd_imul dX9_codes_19 (sd_aload_n dX9_codes_20 rfl (sd_getr dX9_codes_21 zCl9 (Nat.le_of_ble_eq_true rfl) lk_RX9_30 (Or.inr ⟨_, rfl⟩) (sd_iload_n dX9_codes_24 rfl (sd_iald dX9_codes_25 (sd_ins1 dX9_codes_26 ms_X9_clicksOf na_X9_clicksOf ml_RX9_352 ⟨⟨Nat.le_of_ble_eq_true rfl, Nat.le_of_ble_eq_true rfl⟩, ⟨Nat.le_of_ble_eq_true rfl, Nat.le_of_ble_eq_true rfl⟩⟩ (sd_iadd dX9_codes_29 (sd_iconst dX9_codes_30 rfl (sd_iadd dX9_codes_31 (sd_puti dX9_codes_32 zCl9 (Nat.le_of_ble_eq_true rfl) lk_RX9_383 rfl (Or.inl rfl) (sd_iinc dX9_codes_35 rfl (Nat.le_of_ble_eq_true rfl) (Or.inl rfl) (sd_goto dX9_codes_38 rfl (fun _ _ _ h => h)))))))))))))))))))
def B_X9_codes_41 (X : Nat × (Nat → Int32)) (J : Nat → zCf) (R : zRt) : zCf := oVRET R
set_option maxRecDepth 100000 in
theorem vb_X9_codes_41 {X : Nat × (Nat → Int32)} {R : zRt} : ∀ ls st h, B_X9_codes_41 X (zV X M_X9_codes (zQm M_X9_codes R) 0 0) R ls st h → zV X M_X9_codes (zQm M_X9_codes R) 0 0 41 ls st h := sd_vret dX9_codes_41 rfl (Nat.le_of_ble_eq_true rfl) (Nat.le_of_ble_eq_true rfl)
theorem dX9_refusesMade_0 : decode cX9_refusesMade 0 = .ok (.aload_n 0, 1) := by decide +kernel
theorem dX9_refusesMade_1 : decode cX9_refusesMade 1 = .ok (.getfield 289, 3) := by decide +kernel
theorem dX9_refusesMade_4 : decode cX9_refusesMade 4 = .ok (.ifnonnull 7, 3) := by decide +kernel
theorem dX9_refusesMade_7 : decode cX9_refusesMade 7 = .ok (.iconst 1, 1) := by decide +kernel
theorem dX9_refusesMade_8 : decode cX9_refusesMade 8 = .ok (.goto 17, 3) := by decide +kernel
theorem dX9_refusesMade_11 : decode cX9_refusesMade 11 = .ok (.iload_n 1, 1) := by decide +kernel
theorem dX9_refusesMade_12 : decode cX9_refusesMade 12 = .ok (.iconst 0, 1) := by decide +kernel
theorem dX9_refusesMade_13 : decode cX9_refusesMade 13 = .ok (.iconst 4, 1) := by decide +kernel
theorem dX9_refusesMade_14 : decode cX9_refusesMade 14 = .ok (.invokestatic 115, 3) := by decide +kernel
theorem dX9_refusesMade_17 : decode cX9_refusesMade 17 = .ok (.ifCond .eq 7, 3) := by decide +kernel
theorem dX9_refusesMade_20 : decode cX9_refusesMade 20 = .ok (.iconst 0, 1) := by decide +kernel
theorem dX9_refusesMade_21 : decode cX9_refusesMade 21 = .ok (.goto 4, 3) := by decide +kernel
theorem dX9_refusesMade_24 : decode cX9_refusesMade 24 = .ok (.iconst 2, 1) := by decide +kernel
theorem dX9_refusesMade_25 : decode cX9_refusesMade 25 = .ok (.ireturn, 1) := by decide +kernel
def B_X9_refusesMade_0 (X : Nat × (Nat → Int32)) (J : Nat → zCf) (R : zRt) : zCf := oALOAD 0 (oGETR 9 3 (oIFNONNULL (J 11) (oPI (zj (1)) (J 25))))
set_option maxRecDepth 100000 in
theorem vb_X9_refusesMade_0 {X : Nat × (Nat → Int32)} {R : zRt} : ∀ ls st h, B_X9_refusesMade_0 X (zV X M_X9_refusesMade (zQm M_X9_refusesMade R) 0 0) R ls st h → zV X M_X9_refusesMade (zQm M_X9_refusesMade R) 0 0 0 ls st h := sd_aload_n dX9_refusesMade_0 rfl (sd_getr dX9_refusesMade_1 zCl9 (Nat.le_of_ble_eq_true rfl) lk_RX9_289 (Or.inl ⟨_, rfl⟩) (sd_ifnonnull dX9_refusesMade_4 rfl (fun _ _ _ h => h) (sd_iconst dX9_refusesMade_7 rfl (sd_goto dX9_refusesMade_8 rfl (fun _ _ _ h => h)))))
def B_X9_refusesMade_11 (X : Nat × (Nat → Int32)) (J : Nat → zCf) (R : zRt) : zCf := oILOAD 1 (oPI (zj (0)) (oPI (zj (4)) (oINS3 X M_X9_in (oIFEQ (J 24) (oPI (zj (0)) (J 25))))))
set_option maxRecDepth 100000 in
theorem vb_X9_refusesMade_11 {X : Nat × (Nat → Int32)} {R : zRt} : ∀ ls st h, B_X9_refusesMade_11 X (zV X M_X9_refusesMade (zQm M_X9_refusesMade R) 0 0) R ls st h → zV X M_X9_refusesMade (zQm M_X9_refusesMade R) 0 0 11 ls st h := sd_iload_n dX9_refusesMade_11 rfl (sd_iconst dX9_refusesMade_12 rfl (sd_iconst dX9_refusesMade_13 rfl (sd_ins3 dX9_refusesMade_14 ms_X9_in na_X9_in ml_RX9_115 ⟨⟨Nat.le_of_ble_eq_true rfl, Nat.le_of_ble_eq_true rfl⟩, ⟨Nat.le_of_ble_eq_true rfl, Nat.le_of_ble_eq_true rfl⟩⟩ (sd_ifeq dX9_refusesMade_17 rfl (fun _ _ _ h => h) (sd_iconst dX9_refusesMade_20 rfl (sd_goto dX9_refusesMade_21 rfl (fun _ _ _ h => h)))))))
def B_X9_refusesMade_24 (X : Nat × (Nat → Int32)) (J : Nat → zCf) (R : zRt) : zCf := oPI (zj (2)) (J 25)
set_option maxRecDepth 100000 in
theorem vb_X9_refusesMade_24 {X : Nat × (Nat → Int32)} {R : zRt} : ∀ ls st h, B_X9_refusesMade_24 X (zV X M_X9_refusesMade (zQm M_X9_refusesMade R) 0 0) R ls st h → zV X M_X9_refusesMade (zQm M_X9_refusesMade R) 0 0 24 ls st h := sd_iconst dX9_refusesMade_24 rfl (fun _ _ _ h => h)
def B_X9_refusesMade_25 (X : Nat × (Nat → Int32)) (J : Nat → zCf) (R : zRt) : zCf := oIRET R
set_option maxRecDepth 100000 in
theorem vb_X9_refusesMade_25 {X : Nat × (Nat → Int32)} {R : zRt} : ∀ ls st h, B_X9_refusesMade_25 X (zV X M_X9_refusesMade (zQm M_X9_refusesMade R) 0 0) R ls st h → zV X M_X9_refusesMade (zQm M_X9_refusesMade R) 0 0 25 ls st h := sd_iret dX9_refusesMade_25 rfl (Nat.le_of_ble_eq_true rfl) (Nat.le_of_ble_eq_true rfl)
theorem dX9_made_0 : decode cX9_made 0 = .ok (.aload_n 0, 1) := by decide +kernel
theorem dX9_made_1 : decode cX9_made 1 = .ok (.iconst 0, 1) := by decide +kernel
theorem dX9_made_2 : decode cX9_made 2 = .ok (.putfield 36, 3) := by decide +kernel
theorem dX9_made_5 : decode cX9_made 5 = .ok (.aload_n 0, 1) := by decide +kernel
theorem dX9_made_6 : decode cX9_made 6 = .ok (.iload_n 1, 1) := by decide +kernel
theorem dX9_made_7 : decode cX9_made 7 = .ok (.invokevirtual 386, 3) := by decide +kernel
theorem dX9_made_10 : decode cX9_made 10 = .ok (.istore_n 2, 1) := by decide +kernel
theorem dX9_made_11 : decode cX9_made 11 = .ok (.iload_n 2, 1) := by decide +kernel
theorem dX9_made_12 : decode cX9_made 12 = .ok (.ifCond .le 11, 3) := by decide +kernel
theorem dX9_made_15 : decode cX9_made 15 = .ok (.aload_n 0, 1) := by decide +kernel
theorem dX9_made_16 : decode cX9_made 16 = .ok (.iload_n 2, 1) := by decide +kernel
theorem dX9_made_17 : decode cX9_made 17 = .ok (.invokevirtual 42, 3) := by decide +kernel
theorem dX9_made_20 : decode cX9_made 20 = .ok (.goto 13, 3) := by decide +kernel
theorem dX9_made_23 : decode cX9_made 23 = .ok (.aload_n 0, 1) := by decide +kernel
theorem dX9_made_24 : decode cX9_made 24 = .ok (.aload_n 0, 1) := by decide +kernel
theorem dX9_made_25 : decode cX9_made 25 = .ok (.iload_n 1, 1) := by decide +kernel
theorem dX9_made_26 : decode cX9_made 26 = .ok (.iconst (-1), 1) := by decide +kernel
theorem dX9_made_27 : decode cX9_made 27 = .ok (.invokevirtual 389, 3) := by decide +kernel
theorem dX9_made_30 : decode cX9_made 30 = .ok (.invokevirtual 46, 3) := by decide +kernel
theorem dX9_made_33 : decode cX9_made 33 = .ok (.ireturn, 1) := by decide +kernel
def B_X9_made_0 (X : Nat × (Nat → Int32)) (J : Nat → zCf) (R : zRt) : zCf := oALOAD 0 (oPI (zj (0)) (oPUTI 9 0 (oALOAD 0 (oILOAD 1 (oINV1 X M_X9_refusesMade 9 (oISTORE 1 2 (oILOAD 2 (oIFLE (J 23) (oALOAD 0 (oILOAD 2 (oINV1 X M_X9_refused 9 (J 33))))))))))))
set_option maxRecDepth 100000 in
theorem vb_X9_made_0 {X : Nat × (Nat → Int32)} {R : zRt} : ∀ ls st h, B_X9_made_0 X (zV X M_X9_made (zQm M_X9_made R) 0 0) R ls st h → zV X M_X9_made (zQm M_X9_made R) 0 0 0 ls st h := sd_aload_n dX9_made_0 rfl (sd_iconst dX9_made_1 rfl (sd_puti dX9_made_2 zCl9 (Nat.le_of_ble_eq_true rfl) lk_RX9_36 rfl (Or.inl rfl) (sd_aload_n dX9_made_5 rfl (sd_iload_n dX9_made_6 rfl (sd_inv1 dX9_made_7 rfl mv_X9_refusesMade na_X9_refusesMade ml_RX9_386 ⟨⟨Nat.le_of_ble_eq_true rfl, Nat.le_of_ble_eq_true rfl⟩, ⟨Nat.le_of_ble_eq_true rfl, Nat.le_of_ble_eq_true rfl⟩⟩ (sd_istore_n dX9_made_10 rfl (Nat.le_of_ble_eq_true rfl) (Or.inl rfl) (sd_iload_n dX9_made_11 rfl (sd_ifle dX9_made_12 rfl (fun _ _ _ h => h) (sd_aload_n dX9_made_15 rfl (sd_iload_n dX9_made_16 rfl (sd_inv1 dX9_made_17 rfl mv_X9_refused na_X9_refused ml_RX9_42 ⟨⟨Nat.le_of_ble_eq_true rfl, Nat.le_of_ble_eq_true rfl⟩, ⟨Nat.le_of_ble_eq_true rfl, Nat.le_of_ble_eq_true rfl⟩⟩ (sd_goto dX9_made_20 rfl (fun _ _ _ h => h)))))))))))))
def B_X9_made_23 (X : Nat × (Nat → Int32)) (J : Nat → zCf) (R : zRt) : zCf := oALOAD 0 (oALOAD 0 (oILOAD 1 (oPI (zj (-1)) (oINV2 X M_X9_countsMade 9 (oINV1 X M_X9_good 9 (J 33))))))
set_option maxRecDepth 100000 in
theorem vb_X9_made_23 {X : Nat × (Nat → Int32)} {R : zRt} : ∀ ls st h, B_X9_made_23 X (zV X M_X9_made (zQm M_X9_made R) 0 0) R ls st h → zV X M_X9_made (zQm M_X9_made R) 0 0 23 ls st h := sd_aload_n dX9_made_23 rfl (sd_aload_n dX9_made_24 rfl (sd_iload_n dX9_made_25 rfl (sd_iconst dX9_made_26 rfl (sd_inv2 dX9_made_27 rfl mv_X9_countsMade na_X9_countsMade ml_RX9_389 ⟨⟨Nat.le_of_ble_eq_true rfl, Nat.le_of_ble_eq_true rfl⟩, ⟨Nat.le_of_ble_eq_true rfl, Nat.le_of_ble_eq_true rfl⟩⟩ (sd_inv1 dX9_made_30 rfl mv_X9_good na_X9_good ml_RX9_46 ⟨⟨Nat.le_of_ble_eq_true rfl, Nat.le_of_ble_eq_true rfl⟩, ⟨Nat.le_of_ble_eq_true rfl, Nat.le_of_ble_eq_true rfl⟩⟩ (fun _ _ _ h => h))))))
def B_X9_made_33 (X : Nat × (Nat → Int32)) (J : Nat → zCf) (R : zRt) : zCf := oIRET R
set_option maxRecDepth 100000 in
theorem vb_X9_made_33 {X : Nat × (Nat → Int32)} {R : zRt} : ∀ ls st h, B_X9_made_33 X (zV X M_X9_made (zQm M_X9_made R) 0 0) R ls st h → zV X M_X9_made (zQm M_X9_made R) 0 0 33 ls st h := sd_iret dX9_made_33 rfl (Nat.le_of_ble_eq_true rfl) (Nat.le_of_ble_eq_true rfl)
theorem dX9_madeAt_0 : decode cX9_madeAt 0 = .ok (.aload_n 0, 1) := by decide +kernel
theorem dX9_madeAt_1 : decode cX9_madeAt 1 = .ok (.iconst 0, 1) := by decide +kernel
theorem dX9_madeAt_2 : decode cX9_madeAt 2 = .ok (.putfield 36, 3) := by decide +kernel
theorem dX9_madeAt_5 : decode cX9_madeAt 5 = .ok (.aload_n 0, 1) := by decide +kernel
theorem dX9_madeAt_6 : decode cX9_madeAt 6 = .ok (.iload_n 1, 1) := by decide +kernel
theorem dX9_madeAt_7 : decode cX9_madeAt 7 = .ok (.invokevirtual 386, 3) := by decide +kernel
theorem dX9_madeAt_10 : decode cX9_madeAt 10 = .ok (.istore_n 3, 1) := by decide +kernel
theorem dX9_madeAt_11 : decode cX9_madeAt 11 = .ok (.iload_n 3, 1) := by decide +kernel
theorem dX9_madeAt_12 : decode cX9_madeAt 12 = .ok (.ifCond .le 9, 3) := by decide +kernel
theorem dX9_madeAt_15 : decode cX9_madeAt 15 = .ok (.aload_n 0, 1) := by decide +kernel
theorem dX9_madeAt_16 : decode cX9_madeAt 16 = .ok (.iload_n 3, 1) := by decide +kernel
theorem dX9_madeAt_17 : decode cX9_madeAt 17 = .ok (.invokevirtual 42, 3) := by decide +kernel
theorem dX9_madeAt_20 : decode cX9_madeAt 20 = .ok (.ireturn, 1) := by decide +kernel
theorem dX9_madeAt_21 : decode cX9_madeAt 21 = .ok (.iload_n 2, 1) := by decide +kernel
theorem dX9_madeAt_22 : decode cX9_madeAt 22 = .ok (.ifCond .lt 24, 3) := by decide +kernel
theorem dX9_madeAt_25 : decode cX9_madeAt 25 = .ok (.iload_n 2, 1) := by decide +kernel
theorem dX9_madeAt_26 : decode cX9_madeAt 26 = .ok (.aload_n 0, 1) := by decide +kernel
theorem dX9_madeAt_27 : decode cX9_madeAt 27 = .ok (.iload_n 1, 1) := by decide +kernel
theorem dX9_madeAt_28 : decode cX9_madeAt 28 = .ok (.iload_n 2, 1) := by decide +kernel
theorem dX9_madeAt_29 : decode cX9_madeAt 29 = .ok (.invokevirtual 389, 3) := by decide +kernel
theorem dX9_madeAt_32 : decode cX9_madeAt 32 = .ok (.if_icmp .ge 14, 3) := by decide +kernel
theorem dX9_madeAt_35 : decode cX9_madeAt 35 = .ok (.aload_n 0, 1) := by decide +kernel
theorem dX9_madeAt_36 : decode cX9_madeAt 36 = .ok (.aload_n 0, 1) := by decide +kernel
theorem dX9_madeAt_37 : decode cX9_madeAt 37 = .ok (.getfield 383, 3) := by decide +kernel
theorem dX9_madeAt_40 : decode cX9_madeAt 40 = .ok (.invokevirtual 46, 3) := by decide +kernel
theorem dX9_madeAt_43 : decode cX9_madeAt 43 = .ok (.goto 8, 3) := by decide +kernel
theorem dX9_madeAt_46 : decode cX9_madeAt 46 = .ok (.aload_n 0, 1) := by decide +kernel
theorem dX9_madeAt_47 : decode cX9_madeAt 47 = .ok (.iconst 1, 1) := by decide +kernel
theorem dX9_madeAt_48 : decode cX9_madeAt 48 = .ok (.invokevirtual 42, 3) := by decide +kernel
theorem dX9_madeAt_51 : decode cX9_madeAt 51 = .ok (.ireturn, 1) := by decide +kernel
def B_X9_madeAt_0 (X : Nat × (Nat → Int32)) (J : Nat → zCf) (R : zRt) : zCf := oALOAD 0 (oPI (zj (0)) (oPUTI 9 0 (oALOAD 0 (oILOAD 1 (oINV1 X M_X9_refusesMade 9 (oISTORE 2 3 (oILOAD 3 (oIFLE (J 21) (oALOAD 0 (oILOAD 3 (oINV1 X M_X9_refused 9 (oIRET R))))))))))))
set_option maxRecDepth 100000 in
theorem vb_X9_madeAt_0 {X : Nat × (Nat → Int32)} {R : zRt} : ∀ ls st h, B_X9_madeAt_0 X (zV X M_X9_madeAt (zQm M_X9_madeAt R) 0 0) R ls st h → zV X M_X9_madeAt (zQm M_X9_madeAt R) 0 0 0 ls st h := sd_aload_n dX9_madeAt_0 rfl (sd_iconst dX9_madeAt_1 rfl (sd_puti dX9_madeAt_2 zCl9 (Nat.le_of_ble_eq_true rfl) lk_RX9_36 rfl (Or.inl rfl) (sd_aload_n dX9_madeAt_5 rfl (sd_iload_n dX9_madeAt_6 rfl (sd_inv1 dX9_madeAt_7 rfl mv_X9_refusesMade na_X9_refusesMade ml_RX9_386 ⟨⟨Nat.le_of_ble_eq_true rfl, Nat.le_of_ble_eq_true rfl⟩, ⟨Nat.le_of_ble_eq_true rfl, Nat.le_of_ble_eq_true rfl⟩⟩ (sd_istore_n dX9_madeAt_10 rfl (Nat.le_of_ble_eq_true rfl) (Or.inl rfl) (sd_iload_n dX9_madeAt_11 rfl (sd_ifle dX9_madeAt_12 rfl (fun _ _ _ h => h) (sd_aload_n dX9_madeAt_15 rfl (sd_iload_n dX9_madeAt_16 rfl (sd_inv1 dX9_madeAt_17 rfl mv_X9_refused na_X9_refused ml_RX9_42 ⟨⟨Nat.le_of_ble_eq_true rfl, Nat.le_of_ble_eq_true rfl⟩, ⟨Nat.le_of_ble_eq_true rfl, Nat.le_of_ble_eq_true rfl⟩⟩ (sd_iret dX9_madeAt_20 rfl (Nat.le_of_ble_eq_true rfl) (Nat.le_of_ble_eq_true rfl)))))))))))))
def B_X9_madeAt_21 (X : Nat × (Nat → Int32)) (J : Nat → zCf) (R : zRt) : zCf := oILOAD 2 (oIFLT (J 46) (oILOAD 2 (oALOAD 0 (oILOAD 1 (oILOAD 2 (oINV2 X M_X9_countsMade 9 (oICGE (J 46) (oALOAD 0 (oALOAD 0 (oGETI 9 23 (oINV1 X M_X9_good 9 (J 51))))))))))))
set_option maxRecDepth 100000 in
theorem vb_X9_madeAt_21 {X : Nat × (Nat → Int32)} {R : zRt} : ∀ ls st h, B_X9_madeAt_21 X (zV X M_X9_madeAt (zQm M_X9_madeAt R) 0 0) R ls st h → zV X M_X9_madeAt (zQm M_X9_madeAt R) 0 0 21 ls st h := sd_iload_n dX9_madeAt_21 rfl (sd_iflt dX9_madeAt_22 rfl (fun _ _ _ h => h) (sd_iload_n dX9_madeAt_25 rfl (sd_aload_n dX9_madeAt_26 rfl (sd_iload_n dX9_madeAt_27 rfl (sd_iload_n dX9_madeAt_28 rfl (sd_inv2 dX9_madeAt_29 rfl mv_X9_countsMade na_X9_countsMade ml_RX9_389 ⟨⟨Nat.le_of_ble_eq_true rfl, Nat.le_of_ble_eq_true rfl⟩, ⟨Nat.le_of_ble_eq_true rfl, Nat.le_of_ble_eq_true rfl⟩⟩ (sd_icge dX9_madeAt_32 rfl (fun _ _ _ h => h) (sd_aload_n dX9_madeAt_35 rfl (sd_aload_n dX9_madeAt_36 rfl (sd_geti dX9_madeAt_37 zCl9 (Nat.le_of_ble_eq_true rfl) lk_RX9_383 (Or.inl rfl) (sd_inv1 dX9_madeAt_40 rfl mv_X9_good na_X9_good ml_RX9_46 ⟨⟨Nat.le_of_ble_eq_true rfl, Nat.le_of_ble_eq_true rfl⟩, ⟨Nat.le_of_ble_eq_true rfl, Nat.le_of_ble_eq_true rfl⟩⟩ (sd_goto dX9_madeAt_43 rfl (fun _ _ _ h => h)))))))))))))
def B_X9_madeAt_46 (X : Nat × (Nat → Int32)) (J : Nat → zCf) (R : zRt) : zCf := oALOAD 0 (oPI (zj (1)) (oINV1 X M_X9_refused 9 (J 51)))
set_option maxRecDepth 100000 in
theorem vb_X9_madeAt_46 {X : Nat × (Nat → Int32)} {R : zRt} : ∀ ls st h, B_X9_madeAt_46 X (zV X M_X9_madeAt (zQm M_X9_madeAt R) 0 0) R ls st h → zV X M_X9_madeAt (zQm M_X9_madeAt R) 0 0 46 ls st h := sd_aload_n dX9_madeAt_46 rfl (sd_iconst dX9_madeAt_47 rfl (sd_inv1 dX9_madeAt_48 rfl mv_X9_refused na_X9_refused ml_RX9_42 ⟨⟨Nat.le_of_ble_eq_true rfl, Nat.le_of_ble_eq_true rfl⟩, ⟨Nat.le_of_ble_eq_true rfl, Nat.le_of_ble_eq_true rfl⟩⟩ (fun _ _ _ h => h)))
def B_X9_madeAt_51 (X : Nat × (Nat → Int32)) (J : Nat → zCf) (R : zRt) : zCf := oIRET R
set_option maxRecDepth 100000 in
theorem vb_X9_madeAt_51 {X : Nat × (Nat → Int32)} {R : zRt} : ∀ ls st h, B_X9_madeAt_51 X (zV X M_X9_madeAt (zQm M_X9_madeAt R) 0 0) R ls st h → zV X M_X9_madeAt (zQm M_X9_madeAt R) 0 0 51 ls st h := sd_iret dX9_madeAt_51 rfl (Nat.le_of_ble_eq_true rfl) (Nat.le_of_ble_eq_true rfl)
theorem dX9_fewestMade_0 : decode cX9_fewestMade 0 = .ok (.aload_n 0, 1) := by decide +kernel
theorem dX9_fewestMade_1 : decode cX9_fewestMade 1 = .ok (.iconst 0, 1) := by decide +kernel
theorem dX9_fewestMade_2 : decode cX9_fewestMade 2 = .ok (.putfield 36, 3) := by decide +kernel
theorem dX9_fewestMade_5 : decode cX9_fewestMade 5 = .ok (.aload_n 0, 1) := by decide +kernel
theorem dX9_fewestMade_6 : decode cX9_fewestMade 6 = .ok (.getfield 289, 3) := by decide +kernel
theorem dX9_fewestMade_9 : decode cX9_fewestMade 9 = .ok (.ifnonnull 9, 3) := by decide +kernel
theorem dX9_fewestMade_12 : decode cX9_fewestMade 12 = .ok (.aload_n 0, 1) := by decide +kernel
theorem dX9_fewestMade_13 : decode cX9_fewestMade 13 = .ok (.iconst 1, 1) := by decide +kernel
theorem dX9_fewestMade_14 : decode cX9_fewestMade 14 = .ok (.invokevirtual 42, 3) := by decide +kernel
theorem dX9_fewestMade_17 : decode cX9_fewestMade 17 = .ok (.ireturn, 1) := by decide +kernel
theorem dX9_fewestMade_18 : decode cX9_fewestMade 18 = .ok (.iconst 0, 1) := by decide +kernel
theorem dX9_fewestMade_19 : decode cX9_fewestMade 19 = .ok (.istore_n 1, 1) := by decide +kernel
theorem dX9_fewestMade_20 : decode cX9_fewestMade 20 = .ok (.iload_n 1, 1) := by decide +kernel
theorem dX9_fewestMade_21 : decode cX9_fewestMade 21 = .ok (.iconst 4, 1) := by decide +kernel
theorem dX9_fewestMade_22 : decode cX9_fewestMade 22 = .ok (.if_icmp .gt 24, 3) := by decide +kernel
theorem dX9_fewestMade_25 : decode cX9_fewestMade 25 = .ok (.aload_n 0, 1) := by decide +kernel
theorem dX9_fewestMade_26 : decode cX9_fewestMade 26 = .ok (.iload_n 1, 1) := by decide +kernel
theorem dX9_fewestMade_27 : decode cX9_fewestMade 27 = .ok (.iconst (-1), 1) := by decide +kernel
theorem dX9_fewestMade_28 : decode cX9_fewestMade 28 = .ok (.invokevirtual 389, 3) := by decide +kernel
theorem dX9_fewestMade_31 : decode cX9_fewestMade 31 = .ok (.ifCond .le 9, 3) := by decide +kernel
theorem dX9_fewestMade_34 : decode cX9_fewestMade 34 = .ok (.aload_n 0, 1) := by decide +kernel
theorem dX9_fewestMade_35 : decode cX9_fewestMade 35 = .ok (.iload_n 1, 1) := by decide +kernel
theorem dX9_fewestMade_36 : decode cX9_fewestMade 36 = .ok (.invokevirtual 46, 3) := by decide +kernel
theorem dX9_fewestMade_39 : decode cX9_fewestMade 39 = .ok (.ireturn, 1) := by decide +kernel
theorem dX9_fewestMade_40 : decode cX9_fewestMade 40 = .ok (.iinc 1 1, 3) := by decide +kernel
theorem dX9_fewestMade_43 : decode cX9_fewestMade 43 = .ok (.goto (-23), 3) := by decide +kernel
theorem dX9_fewestMade_46 : decode cX9_fewestMade 46 = .ok (.aload_n 0, 1) := by decide +kernel
theorem dX9_fewestMade_47 : decode cX9_fewestMade 47 = .ok (.bipush (-2), 2) := by decide +kernel
theorem dX9_fewestMade_49 : decode cX9_fewestMade 49 = .ok (.invokevirtual 46, 3) := by decide +kernel
theorem dX9_fewestMade_52 : decode cX9_fewestMade 52 = .ok (.ireturn, 1) := by decide +kernel
def B_X9_fewestMade_0 (X : Nat × (Nat → Int32)) (J : Nat → zCf) (R : zRt) : zCf := oALOAD 0 (oPI (zj (0)) (oPUTI 9 0 (oALOAD 0 (oGETR 9 3 (oIFNONNULL (J 18) (oALOAD 0 (oPI (zj (1)) (oINV1 X M_X9_refused 9 (oIRET R)))))))))
set_option maxRecDepth 100000 in
theorem vb_X9_fewestMade_0 {X : Nat × (Nat → Int32)} {R : zRt} : ∀ ls st h, B_X9_fewestMade_0 X (zV X M_X9_fewestMade (zQm M_X9_fewestMade R) 0 0) R ls st h → zV X M_X9_fewestMade (zQm M_X9_fewestMade R) 0 0 0 ls st h := sd_aload_n dX9_fewestMade_0 rfl (sd_iconst dX9_fewestMade_1 rfl (sd_puti dX9_fewestMade_2 zCl9 (Nat.le_of_ble_eq_true rfl) lk_RX9_36 rfl (Or.inl rfl) (sd_aload_n dX9_fewestMade_5 rfl (sd_getr dX9_fewestMade_6 zCl9 (Nat.le_of_ble_eq_true rfl) lk_RX9_289 (Or.inl ⟨_, rfl⟩) (sd_ifnonnull dX9_fewestMade_9 rfl (fun _ _ _ h => h) (sd_aload_n dX9_fewestMade_12 rfl (sd_iconst dX9_fewestMade_13 rfl (sd_inv1 dX9_fewestMade_14 rfl mv_X9_refused na_X9_refused ml_RX9_42 ⟨⟨Nat.le_of_ble_eq_true rfl, Nat.le_of_ble_eq_true rfl⟩, ⟨Nat.le_of_ble_eq_true rfl, Nat.le_of_ble_eq_true rfl⟩⟩ (sd_iret dX9_fewestMade_17 rfl (Nat.le_of_ble_eq_true rfl) (Nat.le_of_ble_eq_true rfl))))))))))
def B_X9_fewestMade_18 (X : Nat × (Nat → Int32)) (J : Nat → zCf) (R : zRt) : zCf := oPI (zj (0)) (oISTORE 0 1 (J 20))
set_option maxRecDepth 100000 in
theorem vb_X9_fewestMade_18 {X : Nat × (Nat → Int32)} {R : zRt} : ∀ ls st h, B_X9_fewestMade_18 X (zV X M_X9_fewestMade (zQm M_X9_fewestMade R) 0 0) R ls st h → zV X M_X9_fewestMade (zQm M_X9_fewestMade R) 0 0 18 ls st h := sd_iconst dX9_fewestMade_18 rfl (sd_istore_n dX9_fewestMade_19 rfl (Nat.le_of_ble_eq_true rfl) (Or.inl rfl) (fun _ _ _ h => h))
def B_X9_fewestMade_20 (X : Nat × (Nat → Int32)) (J : Nat → zCf) (R : zRt) : zCf := oILOAD 1 (oPI (zj (4)) (oICGT (J 46) (oALOAD 0 (oILOAD 1 (oPI (zj (-1)) (oINV2 X M_X9_countsMade 9 (oIFLE (J 40) (oALOAD 0 (oILOAD 1 (oINV1 X M_X9_good 9 (oIRET R)))))))))))
set_option maxRecDepth 100000 in
theorem vb_X9_fewestMade_20 {X : Nat × (Nat → Int32)} {R : zRt} : ∀ ls st h, B_X9_fewestMade_20 X (zV X M_X9_fewestMade (zQm M_X9_fewestMade R) 0 0) R ls st h → zV X M_X9_fewestMade (zQm M_X9_fewestMade R) 0 0 20 ls st h := sd_iload_n dX9_fewestMade_20 rfl (sd_iconst dX9_fewestMade_21 rfl (sd_icgt dX9_fewestMade_22 rfl (fun _ _ _ h => h) (sd_aload_n dX9_fewestMade_25 rfl (sd_iload_n dX9_fewestMade_26 rfl (sd_iconst dX9_fewestMade_27 rfl (sd_inv2 dX9_fewestMade_28 rfl mv_X9_countsMade na_X9_countsMade ml_RX9_389 ⟨⟨Nat.le_of_ble_eq_true rfl, Nat.le_of_ble_eq_true rfl⟩, ⟨Nat.le_of_ble_eq_true rfl, Nat.le_of_ble_eq_true rfl⟩⟩ (sd_ifle dX9_fewestMade_31 rfl (fun _ _ _ h => h) (sd_aload_n dX9_fewestMade_34 rfl (sd_iload_n dX9_fewestMade_35 rfl (sd_inv1 dX9_fewestMade_36 rfl mv_X9_good na_X9_good ml_RX9_46 ⟨⟨Nat.le_of_ble_eq_true rfl, Nat.le_of_ble_eq_true rfl⟩, ⟨Nat.le_of_ble_eq_true rfl, Nat.le_of_ble_eq_true rfl⟩⟩ (sd_iret dX9_fewestMade_39 rfl (Nat.le_of_ble_eq_true rfl) (Nat.le_of_ble_eq_true rfl))))))))))))
def B_X9_fewestMade_40 (X : Nat × (Nat → Int32)) (J : Nat → zCf) (R : zRt) : zCf := oIINC 0 1 (zj (1)) (J 20)
set_option maxRecDepth 100000 in
theorem vb_X9_fewestMade_40 {X : Nat × (Nat → Int32)} {R : zRt} : ∀ ls st h, B_X9_fewestMade_40 X (zV X M_X9_fewestMade (zQm M_X9_fewestMade R) 0 0) R ls st h → zV X M_X9_fewestMade (zQm M_X9_fewestMade R) 0 0 40 ls st h := sd_iinc dX9_fewestMade_40 rfl (Nat.le_of_ble_eq_true rfl) (Or.inl rfl) (sd_goto dX9_fewestMade_43 rfl (fun _ _ _ h => h))
def B_X9_fewestMade_46 (X : Nat × (Nat → Int32)) (J : Nat → zCf) (R : zRt) : zCf := oALOAD 0 (oPI (zj (-2)) (oINV1 X M_X9_good 9 (oIRET R)))
set_option maxRecDepth 100000 in
theorem vb_X9_fewestMade_46 {X : Nat × (Nat → Int32)} {R : zRt} : ∀ ls st h, B_X9_fewestMade_46 X (zV X M_X9_fewestMade (zQm M_X9_fewestMade R) 0 0) R ls st h → zV X M_X9_fewestMade (zQm M_X9_fewestMade R) 0 0 46 ls st h := sd_aload_n dX9_fewestMade_46 rfl (sd_bipush dX9_fewestMade_47 rfl (sd_inv1 dX9_fewestMade_49 rfl mv_X9_good na_X9_good ml_RX9_46 ⟨⟨Nat.le_of_ble_eq_true rfl, Nat.le_of_ble_eq_true rfl⟩, ⟨Nat.le_of_ble_eq_true rfl, Nat.le_of_ble_eq_true rfl⟩⟩ (sd_iret dX9_fewestMade_52 rfl (Nat.le_of_ble_eq_true rfl) (Nat.le_of_ble_eq_true rfl))))
theorem dX9_same_0 : decode cX9_same 0 = .ok (.aload_n 0, 1) := by decide +kernel
theorem dX9_same_1 : decode cX9_same 1 = .ok (.iconst 0, 1) := by decide +kernel
theorem dX9_same_2 : decode cX9_same 2 = .ok (.putfield 36, 3) := by decide +kernel
theorem dX9_same_5 : decode cX9_same 5 = .ok (.aload_n 0, 1) := by decide +kernel
theorem dX9_same_6 : decode cX9_same 6 = .ok (.iload_n 1, 1) := by decide +kernel
theorem dX9_same_7 : decode cX9_same 7 = .ok (.invokevirtual 386, 3) := by decide +kernel
theorem dX9_same_10 : decode cX9_same 10 = .ok (.istore_n 2, 1) := by decide +kernel
theorem dX9_same_11 : decode cX9_same 11 = .ok (.iload_n 2, 1) := by decide +kernel
theorem dX9_same_12 : decode cX9_same 12 = .ok (.ifCond .le 9, 3) := by decide +kernel
theorem dX9_same_15 : decode cX9_same 15 = .ok (.aload_n 0, 1) := by decide +kernel
theorem dX9_same_16 : decode cX9_same 16 = .ok (.iload_n 2, 1) := by decide +kernel
theorem dX9_same_17 : decode cX9_same 17 = .ok (.invokevirtual 42, 3) := by decide +kernel
theorem dX9_same_20 : decode cX9_same 20 = .ok (.ireturn, 1) := by decide +kernel
theorem dX9_same_21 : decode cX9_same 21 = .ok (.iconst 0, 1) := by decide +kernel
theorem dX9_same_22 : decode cX9_same 22 = .ok (.istore_n 3, 1) := by decide +kernel
theorem dX9_same_23 : decode cX9_same 23 = .ok (.aload_n 0, 1) := by decide +kernel
theorem dX9_same_24 : decode cX9_same 24 = .ok (.iload_n 1, 1) := by decide +kernel
theorem dX9_same_25 : decode cX9_same 25 = .ok (.invokevirtual 358, 3) := by decide +kernel
theorem dX9_same_28 : decode cX9_same 28 = .ok (.iconst 1, 1) := by decide +kernel
theorem dX9_same_29 : decode cX9_same 29 = .ok (.istore 4, 2) := by decide +kernel
theorem dX9_same_31 : decode cX9_same 31 = .ok (.iload 4, 2) := by decide +kernel
theorem dX9_same_33 : decode cX9_same 33 = .ok (.ifCond .eq 92, 3) := by decide +kernel
theorem dX9_same_36 : decode cX9_same 36 = .ok (.aload_n 0, 1) := by decide +kernel
theorem dX9_same_37 : decode cX9_same 37 = .ok (.invokevirtual 336, 3) := by decide +kernel
theorem dX9_same_40 : decode cX9_same 40 = .ok (.aload_n 0, 1) := by decide +kernel
theorem dX9_same_41 : decode cX9_same 41 = .ok (.iload_n 1, 1) := by decide +kernel
theorem dX9_same_42 : decode cX9_same 42 = .ok (.invokevirtual 361, 3) := by decide +kernel
theorem dX9_same_45 : decode cX9_same 45 = .ok (.iconst 1, 1) := by decide +kernel
theorem dX9_same_46 : decode cX9_same 46 = .ok (.istore 5, 2) := by decide +kernel
theorem dX9_same_48 : decode cX9_same 48 = .ok (.iconst 0, 1) := by decide +kernel
theorem dX9_same_49 : decode cX9_same 49 = .ok (.istore 6, 2) := by decide +kernel
theorem dX9_same_51 : decode cX9_same 51 = .ok (.iload 6, 2) := by decide +kernel
theorem dX9_same_53 : decode cX9_same 53 = .ok (.aload_n 0, 1) := by decide +kernel
theorem dX9_same_54 : decode cX9_same 54 = .ok (.getfield 289, 3) := by decide +kernel
theorem dX9_same_57 : decode cX9_same 57 = .ok (.getfield 180, 3) := by decide +kernel
theorem dX9_same_60 : decode cX9_same 60 = .ok (.if_icmp .ge 42, 3) := by decide +kernel
theorem dX9_same_63 : decode cX9_same 63 = .ok (.iload 5, 2) := by decide +kernel
theorem dX9_same_65 : decode cX9_same 65 = .ok (.ifCond .eq 28, 3) := by decide +kernel
theorem dX9_same_68 : decode cX9_same 68 = .ok (.aload_n 0, 1) := by decide +kernel
theorem dX9_same_69 : decode cX9_same 69 = .ok (.getfield 21, 3) := by decide +kernel
theorem dX9_same_72 : decode cX9_same 72 = .ok (.iconst 0, 1) := by decide +kernel
theorem dX9_same_73 : decode cX9_same 73 = .ok (.iload 6, 2) := by decide +kernel
theorem dX9_same_75 : decode cX9_same 75 = .ok (.iadd, 1) := by decide +kernel
theorem dX9_same_76 : decode cX9_same 76 = .ok (.iaload, 1) := by decide +kernel
theorem dX9_same_77 : decode cX9_same 77 = .ok (.aload_n 0, 1) := by decide +kernel
theorem dX9_same_78 : decode cX9_same 78 = .ok (.getfield 17, 3) := by decide +kernel
theorem dX9_same_81 : decode cX9_same 81 = .ok (.iconst 0, 1) := by decide +kernel
theorem dX9_same_82 : decode cX9_same 82 = .ok (.iload 6, 2) := by decide +kernel
theorem dX9_same_84 : decode cX9_same 84 = .ok (.iadd, 1) := by decide +kernel
theorem dX9_same_85 : decode cX9_same 85 = .ok (.iaload, 1) := by decide +kernel
theorem dX9_same_86 : decode cX9_same 86 = .ok (.if_icmp .ne 7, 3) := by decide +kernel
theorem dX9_same_89 : decode cX9_same 89 = .ok (.iconst 1, 1) := by decide +kernel
theorem dX9_same_90 : decode cX9_same 90 = .ok (.goto 4, 3) := by decide +kernel
theorem dX9_same_93 : decode cX9_same 93 = .ok (.iconst 0, 1) := by decide +kernel
theorem dX9_same_94 : decode cX9_same 94 = .ok (.istore 5, 2) := by decide +kernel
theorem dX9_same_96 : decode cX9_same 96 = .ok (.iinc 6 1, 3) := by decide +kernel
theorem dX9_same_99 : decode cX9_same 99 = .ok (.goto (-48), 3) := by decide +kernel
theorem dX9_same_102 : decode cX9_same 102 = .ok (.iload_n 3, 1) := by decide +kernel
theorem dX9_same_103 : decode cX9_same 103 = .ok (.iload 5, 2) := by decide +kernel
theorem dX9_same_105 : decode cX9_same 105 = .ok (.ifCond .eq 7, 3) := by decide +kernel
theorem dX9_same_108 : decode cX9_same 108 = .ok (.iconst 1, 1) := by decide +kernel
theorem dX9_same_109 : decode cX9_same 109 = .ok (.goto 4, 3) := by decide +kernel
theorem dX9_same_112 : decode cX9_same 112 = .ok (.iconst 0, 1) := by decide +kernel
theorem dX9_same_113 : decode cX9_same 113 = .ok (.iadd, 1) := by decide +kernel
theorem dX9_same_114 : decode cX9_same 114 = .ok (.istore_n 3, 1) := by decide +kernel
theorem dX9_same_115 : decode cX9_same 115 = .ok (.aload_n 0, 1) := by decide +kernel
theorem dX9_same_116 : decode cX9_same 116 = .ok (.iload_n 1, 1) := by decide +kernel
theorem dX9_same_117 : decode cX9_same 117 = .ok (.invokevirtual 368, 3) := by decide +kernel
theorem dX9_same_120 : decode cX9_same 120 = .ok (.istore 4, 2) := by decide +kernel
theorem dX9_same_122 : decode cX9_same 122 = .ok (.goto (-91), 3) := by decide +kernel
theorem dX9_same_125 : decode cX9_same 125 = .ok (.aload_n 0, 1) := by decide +kernel
theorem dX9_same_126 : decode cX9_same 126 = .ok (.iload_n 3, 1) := by decide +kernel
theorem dX9_same_127 : decode cX9_same 127 = .ok (.invokevirtual 46, 3) := by decide +kernel
theorem dX9_same_130 : decode cX9_same 130 = .ok (.ireturn, 1) := by decide +kernel
def B_X9_same_0 (X : Nat × (Nat → Int32)) (J : Nat → zCf) (R : zRt) : zCf := oALOAD 0 (oPI (zj (0)) (oPUTI 9 0 (oALOAD 0 (oILOAD 1 (oINV1 X M_X9_refusesMade 9 (oISTORE 1 2 (oILOAD 2 (oIFLE (J 21) (oALOAD 0 (oILOAD 2 (oINV1 X M_X9_refused 9 (oIRET R))))))))))))
set_option maxRecDepth 100000 in
theorem vb_X9_same_0 {X : Nat × (Nat → Int32)} {R : zRt} : ∀ ls st h, B_X9_same_0 X (zV X M_X9_same (zQm M_X9_same R) 0 0) R ls st h → zV X M_X9_same (zQm M_X9_same R) 0 0 0 ls st h := sd_aload_n dX9_same_0 rfl (sd_iconst dX9_same_1 rfl (sd_puti dX9_same_2 zCl9 (Nat.le_of_ble_eq_true rfl) lk_RX9_36 rfl (Or.inl rfl) (sd_aload_n dX9_same_5 rfl (sd_iload_n dX9_same_6 rfl (sd_inv1 dX9_same_7 rfl mv_X9_refusesMade na_X9_refusesMade ml_RX9_386 ⟨⟨Nat.le_of_ble_eq_true rfl, Nat.le_of_ble_eq_true rfl⟩, ⟨Nat.le_of_ble_eq_true rfl, Nat.le_of_ble_eq_true rfl⟩⟩ (sd_istore_n dX9_same_10 rfl (Nat.le_of_ble_eq_true rfl) (Or.inl rfl) (sd_iload_n dX9_same_11 rfl (sd_ifle dX9_same_12 rfl (fun _ _ _ h => h) (sd_aload_n dX9_same_15 rfl (sd_iload_n dX9_same_16 rfl (sd_inv1 dX9_same_17 rfl mv_X9_refused na_X9_refused ml_RX9_42 ⟨⟨Nat.le_of_ble_eq_true rfl, Nat.le_of_ble_eq_true rfl⟩, ⟨Nat.le_of_ble_eq_true rfl, Nat.le_of_ble_eq_true rfl⟩⟩ (sd_iret dX9_same_20 rfl (Nat.le_of_ble_eq_true rfl) (Nat.le_of_ble_eq_true rfl)))))))))))))
def B_X9_same_21 (X : Nat × (Nat → Int32)) (J : Nat → zCf) (R : zRt) : zCf := oPI (zj (0)) (oISTORE 2 3 (oALOAD 0 (oILOAD 1 (oINV1 X M_X9_firstRow 9 (oPI (zj (1)) (oISTORE 3 4 (J 31)))))))
set_option maxRecDepth 100000 in
theorem vb_X9_same_21 {X : Nat × (Nat → Int32)} {R : zRt} : ∀ ls st h, B_X9_same_21 X (zV X M_X9_same (zQm M_X9_same R) 0 0) R ls st h → zV X M_X9_same (zQm M_X9_same R) 0 0 21 ls st h := sd_iconst dX9_same_21 rfl (sd_istore_n dX9_same_22 rfl (Nat.le_of_ble_eq_true rfl) (Or.inl rfl) (sd_aload_n dX9_same_23 rfl (sd_iload_n dX9_same_24 rfl (sd_inv1 dX9_same_25 rfl mv_X9_firstRow na_X9_firstRow ml_RX9_358 ⟨⟨Nat.le_of_ble_eq_true rfl, Nat.le_of_ble_eq_true rfl⟩, ⟨Nat.le_of_ble_eq_true rfl, Nat.le_of_ble_eq_true rfl⟩⟩ (sd_iconst dX9_same_28 rfl (sd_istore dX9_same_29 (Nat.le_of_ble_eq_true rfl) (Or.inl rfl) (fun _ _ _ h => h)))))))
def B_X9_same_31 (X : Nat × (Nat → Int32)) (J : Nat → zCf) (R : zRt) : zCf := oILOAD 4 (oIFEQ (J 125) (oALOAD 0 (oINV0 X M_X9_tries 9 (oALOAD 0 (oILOAD 1 (oINV1 X M_X9_turnsRow 9 (oPI (zj (1)) (oISTORE 4 5 (oPI (zj (0)) (oISTORE 5 6 (J 51)))))))))))
set_option maxRecDepth 100000 in
theorem vb_X9_same_31 {X : Nat × (Nat → Int32)} {R : zRt} : ∀ ls st h, B_X9_same_31 X (zV X M_X9_same (zQm M_X9_same R) 0 0) R ls st h → zV X M_X9_same (zQm M_X9_same R) 0 0 31 ls st h := sd_iload dX9_same_31 (sd_ifeq dX9_same_33 rfl (fun _ _ _ h => h) (sd_aload_n dX9_same_36 rfl (sd_inv0 dX9_same_37 rfl mv_X9_tries na_X9_tries ml_RX9_336 ⟨⟨Nat.le_of_ble_eq_true rfl, Nat.le_of_ble_eq_true rfl⟩, ⟨Nat.le_of_ble_eq_true rfl, Nat.le_of_ble_eq_true rfl⟩⟩ (sd_aload_n dX9_same_40 rfl (sd_iload_n dX9_same_41 rfl (sd_inv1 dX9_same_42 rfl mv_X9_turnsRow na_X9_turnsRow ml_RX9_361 ⟨⟨Nat.le_of_ble_eq_true rfl, Nat.le_of_ble_eq_true rfl⟩, ⟨Nat.le_of_ble_eq_true rfl, Nat.le_of_ble_eq_true rfl⟩⟩ (sd_iconst dX9_same_45 rfl (sd_istore dX9_same_46 (Nat.le_of_ble_eq_true rfl) (Or.inl rfl) (sd_iconst dX9_same_48 rfl (sd_istore dX9_same_49 (Nat.le_of_ble_eq_true rfl) (Or.inl rfl) (fun _ _ _ h => h)))))))))))
def B_X9_same_51 (X : Nat × (Nat → Int32)) (J : Nat → zCf) (R : zRt) : zCf := oILOAD 6 (oALOAD 0 (oGETR 9 3 (oGETI 8 1 (oICGE (J 102) (oILOAD 5 (oIFEQ (J 93) (oALOAD 0 (oGETR 9 16 (oPI (zj (0)) (oILOAD 6 (oIADD (oIALD (oALOAD 0 (oGETR 9 15 (oPI (zj (0)) (oILOAD 6 (oIADD (oIALD (oICNE (J 93) (oPI (zj (1)) (J 94)))))))))))))))))))))
set_option maxRecDepth 100000 in
theorem vb_X9_same_51 {X : Nat × (Nat → Int32)} {R : zRt} : ∀ ls st h, B_X9_same_51 X (zV X M_X9_same (zQm M_X9_same R) 0 0) R ls st h → zV X M_X9_same (zQm M_X9_same R) 0 0 51 ls st h := sd_iload dX9_same_51 (sd_aload_n dX9_same_53 rfl (sd_getr dX9_same_54 zCl9 (Nat.le_of_ble_eq_true rfl) lk_RX9_289 (Or.inl ⟨_, rfl⟩) (sd_geti dX9_same_57 zCl8 (Nat.le_of_ble_eq_true rfl) lk_RX9_180 (Or.inl rfl) (sd_icge dX9_same_60 rfl (fun _ _ _ h => h) (sd_iload dX9_same_63 (sd_ifeq dX9_same_65 rfl (fun _ _ _ h => h) (sd_aload_n dX9_same_68 rfl (sd_getr dX9_same_69 zCl9 (Nat.le_of_ble_eq_true rfl) lk_RX9_21 (Or.inr ⟨_, rfl⟩) (sd_iconst dX9_same_72 rfl (sd_iload dX9_same_73 (sd_iadd dX9_same_75 (sd_iald dX9_same_76 (sd_aload_n dX9_same_77 rfl (sd_getr dX9_same_78 zCl9 (Nat.le_of_ble_eq_true rfl) lk_RX9_17 (Or.inr ⟨_, rfl⟩) (sd_iconst dX9_same_81 rfl (sd_iload dX9_same_82 (sd_iadd dX9_same_84 (sd_iald dX9_same_85 (sd_icne dX9_same_86 rfl (fun _ _ _ h => h) (sd_iconst dX9_same_89 rfl (sd_goto dX9_same_90 rfl (fun _ _ _ h => h))))))))))))))))))))))
def B_X9_same_93 (X : Nat × (Nat → Int32)) (J : Nat → zCf) (R : zRt) : zCf := oPI (zj (0)) (J 94)
set_option maxRecDepth 100000 in
theorem vb_X9_same_93 {X : Nat × (Nat → Int32)} {R : zRt} : ∀ ls st h, B_X9_same_93 X (zV X M_X9_same (zQm M_X9_same R) 0 0) R ls st h → zV X M_X9_same (zQm M_X9_same R) 0 0 93 ls st h := sd_iconst dX9_same_93 rfl (fun _ _ _ h => h)
def B_X9_same_94 (X : Nat × (Nat → Int32)) (J : Nat → zCf) (R : zRt) : zCf := oISTORE 4 5 (oIINC 5 6 (zj (1)) (J 51))
set_option maxRecDepth 100000 in
theorem vb_X9_same_94 {X : Nat × (Nat → Int32)} {R : zRt} : ∀ ls st h, B_X9_same_94 X (zV X M_X9_same (zQm M_X9_same R) 0 0) R ls st h → zV X M_X9_same (zQm M_X9_same R) 0 0 94 ls st h := sd_istore dX9_same_94 (Nat.le_of_ble_eq_true rfl) (Or.inl rfl) (sd_iinc dX9_same_96 rfl (Nat.le_of_ble_eq_true rfl) (Or.inl rfl) (sd_goto dX9_same_99 rfl (fun _ _ _ h => h)))
def B_X9_same_102 (X : Nat × (Nat → Int32)) (J : Nat → zCf) (R : zRt) : zCf := oILOAD 3 (oILOAD 5 (oIFEQ (J 112) (oPI (zj (1)) (J 113))))
set_option maxRecDepth 100000 in
theorem vb_X9_same_102 {X : Nat × (Nat → Int32)} {R : zRt} : ∀ ls st h, B_X9_same_102 X (zV X M_X9_same (zQm M_X9_same R) 0 0) R ls st h → zV X M_X9_same (zQm M_X9_same R) 0 0 102 ls st h := sd_iload_n dX9_same_102 rfl (sd_iload dX9_same_103 (sd_ifeq dX9_same_105 rfl (fun _ _ _ h => h) (sd_iconst dX9_same_108 rfl (sd_goto dX9_same_109 rfl (fun _ _ _ h => h)))))
def B_X9_same_112 (X : Nat × (Nat → Int32)) (J : Nat → zCf) (R : zRt) : zCf := oPI (zj (0)) (J 113)
set_option maxRecDepth 100000 in
theorem vb_X9_same_112 {X : Nat × (Nat → Int32)} {R : zRt} : ∀ ls st h, B_X9_same_112 X (zV X M_X9_same (zQm M_X9_same R) 0 0) R ls st h → zV X M_X9_same (zQm M_X9_same R) 0 0 112 ls st h := sd_iconst dX9_same_112 rfl (fun _ _ _ h => h)
def B_X9_same_113 (X : Nat × (Nat → Int32)) (J : Nat → zCf) (R : zRt) : zCf := oIADD (oISTORE 2 3 (oALOAD 0 (oILOAD 1 (oINV1 X M_X9_nextRow 9 (oISTORE 3 4 (J 31))))))
set_option maxRecDepth 100000 in
theorem vb_X9_same_113 {X : Nat × (Nat → Int32)} {R : zRt} : ∀ ls st h, B_X9_same_113 X (zV X M_X9_same (zQm M_X9_same R) 0 0) R ls st h → zV X M_X9_same (zQm M_X9_same R) 0 0 113 ls st h := sd_iadd dX9_same_113 (sd_istore_n dX9_same_114 rfl (Nat.le_of_ble_eq_true rfl) (Or.inl rfl) (sd_aload_n dX9_same_115 rfl (sd_iload_n dX9_same_116 rfl (sd_inv1 dX9_same_117 rfl mv_X9_nextRow na_X9_nextRow ml_RX9_368 ⟨⟨Nat.le_of_ble_eq_true rfl, Nat.le_of_ble_eq_true rfl⟩, ⟨Nat.le_of_ble_eq_true rfl, Nat.le_of_ble_eq_true rfl⟩⟩ (sd_istore dX9_same_120 (Nat.le_of_ble_eq_true rfl) (Or.inl rfl) (sd_goto dX9_same_122 rfl (fun _ _ _ h => h)))))))
def B_X9_same_125 (X : Nat × (Nat → Int32)) (J : Nat → zCf) (R : zRt) : zCf := oALOAD 0 (oILOAD 3 (oINV1 X M_X9_good 9 (oIRET R)))
set_option maxRecDepth 100000 in
theorem vb_X9_same_125 {X : Nat × (Nat → Int32)} {R : zRt} : ∀ ls st h, B_X9_same_125 X (zV X M_X9_same (zQm M_X9_same R) 0 0) R ls st h → zV X M_X9_same (zQm M_X9_same R) 0 0 125 ls st h := sd_aload_n dX9_same_125 rfl (sd_iload_n dX9_same_126 rfl (sd_inv1 dX9_same_127 rfl mv_X9_good na_X9_good ml_RX9_46 ⟨⟨Nat.le_of_ble_eq_true rfl, Nat.le_of_ble_eq_true rfl⟩, ⟨Nat.le_of_ble_eq_true rfl, Nat.le_of_ble_eq_true rfl⟩⟩ (sd_iret dX9_same_130 rfl (Nat.le_of_ble_eq_true rfl) (Nat.le_of_ble_eq_true rfl))))
theorem dX9_joins_0 : decode cX9_joins 0 = .ok (.aload_n 0, 1) := by decide +kernel
theorem dX9_joins_1 : decode cX9_joins 1 = .ok (.iconst 0, 1) := by decide +kernel
theorem dX9_joins_2 : decode cX9_joins 2 = .ok (.putfield 36, 3) := by decide +kernel
theorem dX9_joins_5 : decode cX9_joins 5 = .ok (.aload_n 0, 1) := by decide +kernel
theorem dX9_joins_6 : decode cX9_joins 6 = .ok (.getfield 289, 3) := by decide +kernel
theorem dX9_joins_9 : decode cX9_joins 9 = .ok (.ifnonnull 9, 3) := by decide +kernel
theorem dX9_joins_12 : decode cX9_joins 12 = .ok (.aload_n 0, 1) := by decide +kernel
theorem dX9_joins_13 : decode cX9_joins 13 = .ok (.iconst 1, 1) := by decide +kernel
theorem dX9_joins_14 : decode cX9_joins 14 = .ok (.invokevirtual 42, 3) := by decide +kernel
theorem dX9_joins_17 : decode cX9_joins 17 = .ok (.ireturn, 1) := by decide +kernel
theorem dX9_joins_18 : decode cX9_joins 18 = .ok (.iload_n 1, 1) := by decide +kernel
theorem dX9_joins_19 : decode cX9_joins 19 = .ok (.iconst 0, 1) := by decide +kernel
theorem dX9_joins_20 : decode cX9_joins 20 = .ok (.iconst 5, 1) := by decide +kernel
theorem dX9_joins_21 : decode cX9_joins 21 = .ok (.invokestatic 115, 3) := by decide +kernel
theorem dX9_joins_24 : decode cX9_joins 24 = .ok (.ifCond .ne 9, 3) := by decide +kernel
theorem dX9_joins_27 : decode cX9_joins 27 = .ok (.aload_n 0, 1) := by decide +kernel
theorem dX9_joins_28 : decode cX9_joins 28 = .ok (.iconst 2, 1) := by decide +kernel
theorem dX9_joins_29 : decode cX9_joins 29 = .ok (.invokevirtual 42, 3) := by decide +kernel
theorem dX9_joins_32 : decode cX9_joins 32 = .ok (.ireturn, 1) := by decide +kernel
theorem dX9_joins_33 : decode cX9_joins 33 = .ok (.iconst 0, 1) := by decide +kernel
theorem dX9_joins_34 : decode cX9_joins 34 = .ok (.istore_n 2, 1) := by decide +kernel
theorem dX9_joins_35 : decode cX9_joins 35 = .ok (.iconst 0, 1) := by decide +kernel
theorem dX9_joins_36 : decode cX9_joins 36 = .ok (.istore_n 3, 1) := by decide +kernel
theorem dX9_joins_37 : decode cX9_joins 37 = .ok (.iload_n 3, 1) := by decide +kernel
theorem dX9_joins_38 : decode cX9_joins 38 = .ok (.bipush 12, 2) := by decide +kernel
theorem dX9_joins_40 : decode cX9_joins 40 = .ok (.if_icmp .ge 35, 3) := by decide +kernel
theorem dX9_joins_43 : decode cX9_joins 43 = .ok (.iload_n 2, 1) := by decide +kernel
theorem dX9_joins_44 : decode cX9_joins 44 = .ok (.aload_n 0, 1) := by decide +kernel
theorem dX9_joins_45 : decode cX9_joins 45 = .ok (.iload_n 1, 1) := by decide +kernel
theorem dX9_joins_46 : decode cX9_joins 46 = .ok (.iload_n 3, 1) := by decide +kernel
theorem dX9_joins_47 : decode cX9_joins 47 = .ok (.invokevirtual 319, 3) := by decide +kernel
theorem dX9_joins_50 : decode cX9_joins 50 = .ok (.bipush (-2), 2) := by decide +kernel
theorem dX9_joins_52 : decode cX9_joins 52 = .ok (.if_icmp .ne 7, 3) := by decide +kernel
theorem dX9_joins_55 : decode cX9_joins 55 = .ok (.iconst 0, 1) := by decide +kernel
theorem dX9_joins_56 : decode cX9_joins 56 = .ok (.goto 11, 3) := by decide +kernel
theorem dX9_joins_59 : decode cX9_joins 59 = .ok (.iconst 1, 1) := by decide +kernel
theorem dX9_joins_60 : decode cX9_joins 60 = .ok (.aload_n 0, 1) := by decide +kernel
theorem dX9_joins_61 : decode cX9_joins 61 = .ok (.iload_n 1, 1) := by decide +kernel
theorem dX9_joins_62 : decode cX9_joins 62 = .ok (.iload_n 3, 1) := by decide +kernel
theorem dX9_joins_63 : decode cX9_joins 63 = .ok (.invokevirtual 319, 3) := by decide +kernel
theorem dX9_joins_66 : decode cX9_joins 66 = .ok (.ishl, 1) := by decide +kernel
theorem dX9_joins_67 : decode cX9_joins 67 = .ok (.ior, 1) := by decide +kernel
theorem dX9_joins_68 : decode cX9_joins 68 = .ok (.istore_n 2, 1) := by decide +kernel
theorem dX9_joins_69 : decode cX9_joins 69 = .ok (.iinc 3 11, 3) := by decide +kernel
theorem dX9_joins_72 : decode cX9_joins 72 = .ok (.goto (-35), 3) := by decide +kernel
theorem dX9_joins_75 : decode cX9_joins 75 = .ok (.aload_n 0, 1) := by decide +kernel
theorem dX9_joins_76 : decode cX9_joins 76 = .ok (.iload_n 2, 1) := by decide +kernel
theorem dX9_joins_77 : decode cX9_joins 77 = .ok (.invokevirtual 46, 3) := by decide +kernel
theorem dX9_joins_80 : decode cX9_joins 80 = .ok (.ireturn, 1) := by decide +kernel
def B_X9_joins_0 (X : Nat × (Nat → Int32)) (J : Nat → zCf) (R : zRt) : zCf := oALOAD 0 (oPI (zj (0)) (oPUTI 9 0 (oALOAD 0 (oGETR 9 3 (oIFNONNULL (J 18) (oALOAD 0 (oPI (zj (1)) (oINV1 X M_X9_refused 9 (oIRET R)))))))))
set_option maxRecDepth 100000 in
theorem vb_X9_joins_0 {X : Nat × (Nat → Int32)} {R : zRt} : ∀ ls st h, B_X9_joins_0 X (zV X M_X9_joins (zQm M_X9_joins R) 0 0) R ls st h → zV X M_X9_joins (zQm M_X9_joins R) 0 0 0 ls st h := sd_aload_n dX9_joins_0 rfl (sd_iconst dX9_joins_1 rfl (sd_puti dX9_joins_2 zCl9 (Nat.le_of_ble_eq_true rfl) lk_RX9_36 rfl (Or.inl rfl) (sd_aload_n dX9_joins_5 rfl (sd_getr dX9_joins_6 zCl9 (Nat.le_of_ble_eq_true rfl) lk_RX9_289 (Or.inl ⟨_, rfl⟩) (sd_ifnonnull dX9_joins_9 rfl (fun _ _ _ h => h) (sd_aload_n dX9_joins_12 rfl (sd_iconst dX9_joins_13 rfl (sd_inv1 dX9_joins_14 rfl mv_X9_refused na_X9_refused ml_RX9_42 ⟨⟨Nat.le_of_ble_eq_true rfl, Nat.le_of_ble_eq_true rfl⟩, ⟨Nat.le_of_ble_eq_true rfl, Nat.le_of_ble_eq_true rfl⟩⟩ (sd_iret dX9_joins_17 rfl (Nat.le_of_ble_eq_true rfl) (Nat.le_of_ble_eq_true rfl))))))))))
def B_X9_joins_18 (X : Nat × (Nat → Int32)) (J : Nat → zCf) (R : zRt) : zCf := oILOAD 1 (oPI (zj (0)) (oPI (zj (5)) (oINS3 X M_X9_in (oIFNE (J 33) (oALOAD 0 (oPI (zj (2)) (oINV1 X M_X9_refused 9 (oIRET R))))))))
set_option maxRecDepth 100000 in
theorem vb_X9_joins_18 {X : Nat × (Nat → Int32)} {R : zRt} : ∀ ls st h, B_X9_joins_18 X (zV X M_X9_joins (zQm M_X9_joins R) 0 0) R ls st h → zV X M_X9_joins (zQm M_X9_joins R) 0 0 18 ls st h := sd_iload_n dX9_joins_18 rfl (sd_iconst dX9_joins_19 rfl (sd_iconst dX9_joins_20 rfl (sd_ins3 dX9_joins_21 ms_X9_in na_X9_in ml_RX9_115 ⟨⟨Nat.le_of_ble_eq_true rfl, Nat.le_of_ble_eq_true rfl⟩, ⟨Nat.le_of_ble_eq_true rfl, Nat.le_of_ble_eq_true rfl⟩⟩ (sd_ifne dX9_joins_24 rfl (fun _ _ _ h => h) (sd_aload_n dX9_joins_27 rfl (sd_iconst dX9_joins_28 rfl (sd_inv1 dX9_joins_29 rfl mv_X9_refused na_X9_refused ml_RX9_42 ⟨⟨Nat.le_of_ble_eq_true rfl, Nat.le_of_ble_eq_true rfl⟩, ⟨Nat.le_of_ble_eq_true rfl, Nat.le_of_ble_eq_true rfl⟩⟩ (sd_iret dX9_joins_32 rfl (Nat.le_of_ble_eq_true rfl) (Nat.le_of_ble_eq_true rfl)))))))))
def B_X9_joins_33 (X : Nat × (Nat → Int32)) (J : Nat → zCf) (R : zRt) : zCf := oPI (zj (0)) (oISTORE 1 2 (oPI (zj (0)) (oISTORE 2 3 (J 37))))
set_option maxRecDepth 100000 in
theorem vb_X9_joins_33 {X : Nat × (Nat → Int32)} {R : zRt} : ∀ ls st h, B_X9_joins_33 X (zV X M_X9_joins (zQm M_X9_joins R) 0 0) R ls st h → zV X M_X9_joins (zQm M_X9_joins R) 0 0 33 ls st h := sd_iconst dX9_joins_33 rfl (sd_istore_n dX9_joins_34 rfl (Nat.le_of_ble_eq_true rfl) (Or.inl rfl) (sd_iconst dX9_joins_35 rfl (sd_istore_n dX9_joins_36 rfl (Nat.le_of_ble_eq_true rfl) (Or.inl rfl) (fun _ _ _ h => h))))
def B_X9_joins_37 (X : Nat × (Nat → Int32)) (J : Nat → zCf) (R : zRt) : zCf := oILOAD 3 (oPI (zj (12)) (oICGE (J 75) (oILOAD 2 (oALOAD 0 (oILOAD 1 (oILOAD 3 (oINV2 X M_X9_seenIn 9 (oPI (zj (-2)) (oICNE (J 59) (oPI (zj (0)) (J 67)))))))))))
set_option maxRecDepth 100000 in
theorem vb_X9_joins_37 {X : Nat × (Nat → Int32)} {R : zRt} : ∀ ls st h, B_X9_joins_37 X (zV X M_X9_joins (zQm M_X9_joins R) 0 0) R ls st h → zV X M_X9_joins (zQm M_X9_joins R) 0 0 37 ls st h := sd_iload_n dX9_joins_37 rfl (sd_bipush dX9_joins_38 rfl (sd_icge dX9_joins_40 rfl (fun _ _ _ h => h) (sd_iload_n dX9_joins_43 rfl (sd_aload_n dX9_joins_44 rfl (sd_iload_n dX9_joins_45 rfl (sd_iload_n dX9_joins_46 rfl (sd_inv2 dX9_joins_47 rfl mv_X9_seenIn na_X9_seenIn ml_RX9_319 ⟨⟨Nat.le_of_ble_eq_true rfl, Nat.le_of_ble_eq_true rfl⟩, ⟨Nat.le_of_ble_eq_true rfl, Nat.le_of_ble_eq_true rfl⟩⟩ (sd_bipush dX9_joins_50 rfl (sd_icne dX9_joins_52 rfl (fun _ _ _ h => h) (sd_iconst dX9_joins_55 rfl (sd_goto dX9_joins_56 rfl (fun _ _ _ h => h))))))))))))
def B_X9_joins_59 (X : Nat × (Nat → Int32)) (J : Nat → zCf) (R : zRt) : zCf := oPI (zj (1)) (oALOAD 0 (oILOAD 1 (oILOAD 3 (oINV2 X M_X9_seenIn 9 (oISHL (J 67))))))
set_option maxRecDepth 100000 in
theorem vb_X9_joins_59 {X : Nat × (Nat → Int32)} {R : zRt} : ∀ ls st h, B_X9_joins_59 X (zV X M_X9_joins (zQm M_X9_joins R) 0 0) R ls st h → zV X M_X9_joins (zQm M_X9_joins R) 0 0 59 ls st h := sd_iconst dX9_joins_59 rfl (sd_aload_n dX9_joins_60 rfl (sd_iload_n dX9_joins_61 rfl (sd_iload_n dX9_joins_62 rfl (sd_inv2 dX9_joins_63 rfl mv_X9_seenIn na_X9_seenIn ml_RX9_319 ⟨⟨Nat.le_of_ble_eq_true rfl, Nat.le_of_ble_eq_true rfl⟩, ⟨Nat.le_of_ble_eq_true rfl, Nat.le_of_ble_eq_true rfl⟩⟩ (sd_ishl dX9_joins_66 (fun _ _ _ h => h))))))
def B_X9_joins_67 (X : Nat × (Nat → Int32)) (J : Nat → zCf) (R : zRt) : zCf := oIOR (oISTORE 1 2 (oIINC 2 3 (zj (11)) (J 37)))
set_option maxRecDepth 100000 in
theorem vb_X9_joins_67 {X : Nat × (Nat → Int32)} {R : zRt} : ∀ ls st h, B_X9_joins_67 X (zV X M_X9_joins (zQm M_X9_joins R) 0 0) R ls st h → zV X M_X9_joins (zQm M_X9_joins R) 0 0 67 ls st h := sd_ior dX9_joins_67 (sd_istore_n dX9_joins_68 rfl (Nat.le_of_ble_eq_true rfl) (Or.inl rfl) (sd_iinc dX9_joins_69 rfl (Nat.le_of_ble_eq_true rfl) (Or.inl rfl) (sd_goto dX9_joins_72 rfl (fun _ _ _ h => h))))
def B_X9_joins_75 (X : Nat × (Nat → Int32)) (J : Nat → zCf) (R : zRt) : zCf := oALOAD 0 (oILOAD 2 (oINV1 X M_X9_good 9 (oIRET R)))
set_option maxRecDepth 100000 in
theorem vb_X9_joins_75 {X : Nat × (Nat → Int32)} {R : zRt} : ∀ ls st h, B_X9_joins_75 X (zV X M_X9_joins (zQm M_X9_joins R) 0 0) R ls st h → zV X M_X9_joins (zQm M_X9_joins R) 0 0 75 ls st h := sd_aload_n dX9_joins_75 rfl (sd_iload_n dX9_joins_76 rfl (sd_inv1 dX9_joins_77 rfl mv_X9_good na_X9_good ml_RX9_46 ⟨⟨Nat.le_of_ble_eq_true rfl, Nat.le_of_ble_eq_true rfl⟩, ⟨Nat.le_of_ble_eq_true rfl, Nat.le_of_ble_eq_true rfl⟩⟩ (sd_iret dX9_joins_80 rfl (Nat.le_of_ble_eq_true rfl) (Nat.le_of_ble_eq_true rfl))))
theorem dX9_alike_0 : decode cX9_alike 0 = .ok (.aload_n 0, 1) := by decide +kernel
theorem dX9_alike_1 : decode cX9_alike 1 = .ok (.iconst 0, 1) := by decide +kernel
theorem dX9_alike_2 : decode cX9_alike 2 = .ok (.putfield 36, 3) := by decide +kernel
theorem dX9_alike_5 : decode cX9_alike 5 = .ok (.aload_n 0, 1) := by decide +kernel
theorem dX9_alike_6 : decode cX9_alike 6 = .ok (.getfield 289, 3) := by decide +kernel
theorem dX9_alike_9 : decode cX9_alike 9 = .ok (.ifnonnull 9, 3) := by decide +kernel
theorem dX9_alike_12 : decode cX9_alike 12 = .ok (.aload_n 0, 1) := by decide +kernel
theorem dX9_alike_13 : decode cX9_alike 13 = .ok (.iconst 1, 1) := by decide +kernel
theorem dX9_alike_14 : decode cX9_alike 14 = .ok (.invokevirtual 42, 3) := by decide +kernel
theorem dX9_alike_17 : decode cX9_alike 17 = .ok (.ireturn, 1) := by decide +kernel
theorem dX9_alike_18 : decode cX9_alike 18 = .ok (.iload_n 1, 1) := by decide +kernel
theorem dX9_alike_19 : decode cX9_alike 19 = .ok (.iconst 0, 1) := by decide +kernel
theorem dX9_alike_20 : decode cX9_alike 20 = .ok (.iconst 5, 1) := by decide +kernel
theorem dX9_alike_21 : decode cX9_alike 21 = .ok (.invokestatic 115, 3) := by decide +kernel
theorem dX9_alike_24 : decode cX9_alike 24 = .ok (.ifCond .eq 12, 3) := by decide +kernel
theorem dX9_alike_27 : decode cX9_alike 27 = .ok (.iload_n 2, 1) := by decide +kernel
theorem dX9_alike_28 : decode cX9_alike 28 = .ok (.iconst 0, 1) := by decide +kernel
theorem dX9_alike_29 : decode cX9_alike 29 = .ok (.iconst 5, 1) := by decide +kernel
theorem dX9_alike_30 : decode cX9_alike 30 = .ok (.invokestatic 115, 3) := by decide +kernel
theorem dX9_alike_33 : decode cX9_alike 33 = .ok (.ifCond .ne 9, 3) := by decide +kernel
theorem dX9_alike_36 : decode cX9_alike 36 = .ok (.aload_n 0, 1) := by decide +kernel
theorem dX9_alike_37 : decode cX9_alike 37 = .ok (.iconst 2, 1) := by decide +kernel
theorem dX9_alike_38 : decode cX9_alike 38 = .ok (.invokevirtual 42, 3) := by decide +kernel
theorem dX9_alike_41 : decode cX9_alike 41 = .ok (.ireturn, 1) := by decide +kernel
theorem dX9_alike_42 : decode cX9_alike 42 = .ok (.iconst 0, 1) := by decide +kernel
theorem dX9_alike_43 : decode cX9_alike 43 = .ok (.istore_n 3, 1) := by decide +kernel
theorem dX9_alike_44 : decode cX9_alike 44 = .ok (.iconst 0, 1) := by decide +kernel
theorem dX9_alike_45 : decode cX9_alike 45 = .ok (.istore 4, 2) := by decide +kernel
theorem dX9_alike_47 : decode cX9_alike 47 = .ok (.iload 4, 2) := by decide +kernel
theorem dX9_alike_49 : decode cX9_alike 49 = .ok (.bipush 12, 2) := by decide +kernel
theorem dX9_alike_51 : decode cX9_alike 51 = .ok (.if_icmp .ge 34, 3) := by decide +kernel
theorem dX9_alike_54 : decode cX9_alike 54 = .ok (.iload_n 3, 1) := by decide +kernel
theorem dX9_alike_55 : decode cX9_alike 55 = .ok (.aload_n 0, 1) := by decide +kernel
theorem dX9_alike_56 : decode cX9_alike 56 = .ok (.iload_n 1, 1) := by decide +kernel
theorem dX9_alike_57 : decode cX9_alike 57 = .ok (.iload 4, 2) := by decide +kernel
theorem dX9_alike_59 : decode cX9_alike 59 = .ok (.invokevirtual 319, 3) := by decide +kernel
theorem dX9_alike_62 : decode cX9_alike 62 = .ok (.aload_n 0, 1) := by decide +kernel
theorem dX9_alike_63 : decode cX9_alike 63 = .ok (.iload_n 2, 1) := by decide +kernel
theorem dX9_alike_64 : decode cX9_alike 64 = .ok (.iload 4, 2) := by decide +kernel
theorem dX9_alike_66 : decode cX9_alike 66 = .ok (.invokevirtual 319, 3) := by decide +kernel
theorem dX9_alike_69 : decode cX9_alike 69 = .ok (.if_icmp .ne 7, 3) := by decide +kernel
theorem dX9_alike_72 : decode cX9_alike 72 = .ok (.iconst 1, 1) := by decide +kernel
theorem dX9_alike_73 : decode cX9_alike 73 = .ok (.goto 4, 3) := by decide +kernel
theorem dX9_alike_76 : decode cX9_alike 76 = .ok (.iconst 0, 1) := by decide +kernel
theorem dX9_alike_77 : decode cX9_alike 77 = .ok (.iadd, 1) := by decide +kernel
theorem dX9_alike_78 : decode cX9_alike 78 = .ok (.istore_n 3, 1) := by decide +kernel
theorem dX9_alike_79 : decode cX9_alike 79 = .ok (.iinc 4 1, 3) := by decide +kernel
theorem dX9_alike_82 : decode cX9_alike 82 = .ok (.goto (-35), 3) := by decide +kernel
theorem dX9_alike_85 : decode cX9_alike 85 = .ok (.aload_n 0, 1) := by decide +kernel
theorem dX9_alike_86 : decode cX9_alike 86 = .ok (.iload_n 3, 1) := by decide +kernel
theorem dX9_alike_87 : decode cX9_alike 87 = .ok (.invokevirtual 46, 3) := by decide +kernel
theorem dX9_alike_90 : decode cX9_alike 90 = .ok (.ireturn, 1) := by decide +kernel
def B_X9_alike_0 (X : Nat × (Nat → Int32)) (J : Nat → zCf) (R : zRt) : zCf := oALOAD 0 (oPI (zj (0)) (oPUTI 9 0 (oALOAD 0 (oGETR 9 3 (oIFNONNULL (J 18) (oALOAD 0 (oPI (zj (1)) (oINV1 X M_X9_refused 9 (oIRET R)))))))))
set_option maxRecDepth 100000 in
theorem vb_X9_alike_0 {X : Nat × (Nat → Int32)} {R : zRt} : ∀ ls st h, B_X9_alike_0 X (zV X M_X9_alike (zQm M_X9_alike R) 0 0) R ls st h → zV X M_X9_alike (zQm M_X9_alike R) 0 0 0 ls st h := sd_aload_n dX9_alike_0 rfl (sd_iconst dX9_alike_1 rfl (sd_puti dX9_alike_2 zCl9 (Nat.le_of_ble_eq_true rfl) lk_RX9_36 rfl (Or.inl rfl) (sd_aload_n dX9_alike_5 rfl (sd_getr dX9_alike_6 zCl9 (Nat.le_of_ble_eq_true rfl) lk_RX9_289 (Or.inl ⟨_, rfl⟩) (sd_ifnonnull dX9_alike_9 rfl (fun _ _ _ h => h) (sd_aload_n dX9_alike_12 rfl (sd_iconst dX9_alike_13 rfl (sd_inv1 dX9_alike_14 rfl mv_X9_refused na_X9_refused ml_RX9_42 ⟨⟨Nat.le_of_ble_eq_true rfl, Nat.le_of_ble_eq_true rfl⟩, ⟨Nat.le_of_ble_eq_true rfl, Nat.le_of_ble_eq_true rfl⟩⟩ (sd_iret dX9_alike_17 rfl (Nat.le_of_ble_eq_true rfl) (Nat.le_of_ble_eq_true rfl))))))))))
def B_X9_alike_18 (X : Nat × (Nat → Int32)) (J : Nat → zCf) (R : zRt) : zCf := oILOAD 1 (oPI (zj (0)) (oPI (zj (5)) (oINS3 X M_X9_in (oIFEQ (J 36) (oILOAD 2 (oPI (zj (0)) (oPI (zj (5)) (oINS3 X M_X9_in (oIFNE (J 42) (J 36))))))))))
set_option maxRecDepth 100000 in
theorem vb_X9_alike_18 {X : Nat × (Nat → Int32)} {R : zRt} : ∀ ls st h, B_X9_alike_18 X (zV X M_X9_alike (zQm M_X9_alike R) 0 0) R ls st h → zV X M_X9_alike (zQm M_X9_alike R) 0 0 18 ls st h := sd_iload_n dX9_alike_18 rfl (sd_iconst dX9_alike_19 rfl (sd_iconst dX9_alike_20 rfl (sd_ins3 dX9_alike_21 ms_X9_in na_X9_in ml_RX9_115 ⟨⟨Nat.le_of_ble_eq_true rfl, Nat.le_of_ble_eq_true rfl⟩, ⟨Nat.le_of_ble_eq_true rfl, Nat.le_of_ble_eq_true rfl⟩⟩ (sd_ifeq dX9_alike_24 rfl (fun _ _ _ h => h) (sd_iload_n dX9_alike_27 rfl (sd_iconst dX9_alike_28 rfl (sd_iconst dX9_alike_29 rfl (sd_ins3 dX9_alike_30 ms_X9_in na_X9_in ml_RX9_115 ⟨⟨Nat.le_of_ble_eq_true rfl, Nat.le_of_ble_eq_true rfl⟩, ⟨Nat.le_of_ble_eq_true rfl, Nat.le_of_ble_eq_true rfl⟩⟩ (sd_ifne dX9_alike_33 rfl (fun _ _ _ h => h) (fun _ _ _ h => h))))))))))
def B_X9_alike_36 (X : Nat × (Nat → Int32)) (J : Nat → zCf) (R : zRt) : zCf := oALOAD 0 (oPI (zj (2)) (oINV1 X M_X9_refused 9 (oIRET R)))
set_option maxRecDepth 100000 in
theorem vb_X9_alike_36 {X : Nat × (Nat → Int32)} {R : zRt} : ∀ ls st h, B_X9_alike_36 X (zV X M_X9_alike (zQm M_X9_alike R) 0 0) R ls st h → zV X M_X9_alike (zQm M_X9_alike R) 0 0 36 ls st h := sd_aload_n dX9_alike_36 rfl (sd_iconst dX9_alike_37 rfl (sd_inv1 dX9_alike_38 rfl mv_X9_refused na_X9_refused ml_RX9_42 ⟨⟨Nat.le_of_ble_eq_true rfl, Nat.le_of_ble_eq_true rfl⟩, ⟨Nat.le_of_ble_eq_true rfl, Nat.le_of_ble_eq_true rfl⟩⟩ (sd_iret dX9_alike_41 rfl (Nat.le_of_ble_eq_true rfl) (Nat.le_of_ble_eq_true rfl))))
def B_X9_alike_42 (X : Nat × (Nat → Int32)) (J : Nat → zCf) (R : zRt) : zCf := oPI (zj (0)) (oISTORE 2 3 (oPI (zj (0)) (oISTORE 3 4 (J 47))))
set_option maxRecDepth 100000 in
theorem vb_X9_alike_42 {X : Nat × (Nat → Int32)} {R : zRt} : ∀ ls st h, B_X9_alike_42 X (zV X M_X9_alike (zQm M_X9_alike R) 0 0) R ls st h → zV X M_X9_alike (zQm M_X9_alike R) 0 0 42 ls st h := sd_iconst dX9_alike_42 rfl (sd_istore_n dX9_alike_43 rfl (Nat.le_of_ble_eq_true rfl) (Or.inl rfl) (sd_iconst dX9_alike_44 rfl (sd_istore dX9_alike_45 (Nat.le_of_ble_eq_true rfl) (Or.inl rfl) (fun _ _ _ h => h))))
def B_X9_alike_47 (X : Nat × (Nat → Int32)) (J : Nat → zCf) (R : zRt) : zCf := oILOAD 4 (oPI (zj (12)) (oICGE (J 85) (oILOAD 3 (oALOAD 0 (oILOAD 1 (oILOAD 4 (oINV2 X M_X9_seenIn 9 (oALOAD 0 (oILOAD 2 (oILOAD 4 (oINV2 X M_X9_seenIn 9 (oICNE (J 76) (oPI (zj (1)) (J 77))))))))))))))
set_option maxRecDepth 100000 in
theorem vb_X9_alike_47 {X : Nat × (Nat → Int32)} {R : zRt} : ∀ ls st h, B_X9_alike_47 X (zV X M_X9_alike (zQm M_X9_alike R) 0 0) R ls st h → zV X M_X9_alike (zQm M_X9_alike R) 0 0 47 ls st h := sd_iload dX9_alike_47 (sd_bipush dX9_alike_49 rfl (sd_icge dX9_alike_51 rfl (fun _ _ _ h => h) (sd_iload_n dX9_alike_54 rfl (sd_aload_n dX9_alike_55 rfl (sd_iload_n dX9_alike_56 rfl (sd_iload dX9_alike_57 (sd_inv2 dX9_alike_59 rfl mv_X9_seenIn na_X9_seenIn ml_RX9_319 ⟨⟨Nat.le_of_ble_eq_true rfl, Nat.le_of_ble_eq_true rfl⟩, ⟨Nat.le_of_ble_eq_true rfl, Nat.le_of_ble_eq_true rfl⟩⟩ (sd_aload_n dX9_alike_62 rfl (sd_iload_n dX9_alike_63 rfl (sd_iload dX9_alike_64 (sd_inv2 dX9_alike_66 rfl mv_X9_seenIn na_X9_seenIn ml_RX9_319 ⟨⟨Nat.le_of_ble_eq_true rfl, Nat.le_of_ble_eq_true rfl⟩, ⟨Nat.le_of_ble_eq_true rfl, Nat.le_of_ble_eq_true rfl⟩⟩ (sd_icne dX9_alike_69 rfl (fun _ _ _ h => h) (sd_iconst dX9_alike_72 rfl (sd_goto dX9_alike_73 rfl (fun _ _ _ h => h)))))))))))))))
def B_X9_alike_76 (X : Nat × (Nat → Int32)) (J : Nat → zCf) (R : zRt) : zCf := oPI (zj (0)) (J 77)
set_option maxRecDepth 100000 in
theorem vb_X9_alike_76 {X : Nat × (Nat → Int32)} {R : zRt} : ∀ ls st h, B_X9_alike_76 X (zV X M_X9_alike (zQm M_X9_alike R) 0 0) R ls st h → zV X M_X9_alike (zQm M_X9_alike R) 0 0 76 ls st h := sd_iconst dX9_alike_76 rfl (fun _ _ _ h => h)
def B_X9_alike_77 (X : Nat × (Nat → Int32)) (J : Nat → zCf) (R : zRt) : zCf := oIADD (oISTORE 2 3 (oIINC 3 4 (zj (1)) (J 47)))
set_option maxRecDepth 100000 in
theorem vb_X9_alike_77 {X : Nat × (Nat → Int32)} {R : zRt} : ∀ ls st h, B_X9_alike_77 X (zV X M_X9_alike (zQm M_X9_alike R) 0 0) R ls st h → zV X M_X9_alike (zQm M_X9_alike R) 0 0 77 ls st h := sd_iadd dX9_alike_77 (sd_istore_n dX9_alike_78 rfl (Nat.le_of_ble_eq_true rfl) (Or.inl rfl) (sd_iinc dX9_alike_79 rfl (Nat.le_of_ble_eq_true rfl) (Or.inl rfl) (sd_goto dX9_alike_82 rfl (fun _ _ _ h => h))))
def B_X9_alike_85 (X : Nat × (Nat → Int32)) (J : Nat → zCf) (R : zRt) : zCf := oALOAD 0 (oILOAD 3 (oINV1 X M_X9_good 9 (oIRET R)))
set_option maxRecDepth 100000 in
theorem vb_X9_alike_85 {X : Nat × (Nat → Int32)} {R : zRt} : ∀ ls st h, B_X9_alike_85 X (zV X M_X9_alike (zQm M_X9_alike R) 0 0) R ls st h → zV X M_X9_alike (zQm M_X9_alike R) 0 0 85 ls st h := sd_aload_n dX9_alike_85 rfl (sd_iload_n dX9_alike_86 rfl (sd_inv1 dX9_alike_87 rfl mv_X9_good na_X9_good ml_RX9_46 ⟨⟨Nat.le_of_ble_eq_true rfl, Nat.le_of_ble_eq_true rfl⟩, ⟨Nat.le_of_ble_eq_true rfl, Nat.le_of_ble_eq_true rfl⟩⟩ (sd_iret dX9_alike_90 rfl (Nat.le_of_ble_eq_true rfl) (Nat.le_of_ble_eq_true rfl))))
theorem dX9_wrongMet_0 : decode cX9_wrongMet 0 = .ok (.iconst 0, 1) := by decide +kernel
theorem dX9_wrongMet_1 : decode cX9_wrongMet 1 = .ok (.istore_n 2, 1) := by decide +kernel
theorem dX9_wrongMet_2 : decode cX9_wrongMet 2 = .ok (.iload_n 2, 1) := by decide +kernel
theorem dX9_wrongMet_3 : decode cX9_wrongMet 3 = .ok (.aload_n 0, 1) := by decide +kernel
theorem dX9_wrongMet_4 : decode cX9_wrongMet 4 = .ok (.getfield 289, 3) := by decide +kernel
theorem dX9_wrongMet_7 : decode cX9_wrongMet 7 = .ok (.getfield 253, 3) := by decide +kernel
theorem dX9_wrongMet_10 : decode cX9_wrongMet 10 = .ok (.if_icmp .ge 54, 3) := by decide +kernel
theorem dX9_wrongMet_13 : decode cX9_wrongMet 13 = .ok (.aload_n 0, 1) := by decide +kernel
theorem dX9_wrongMet_14 : decode cX9_wrongMet 14 = .ok (.iload_n 1, 1) := by decide +kernel
theorem dX9_wrongMet_15 : decode cX9_wrongMet 15 = .ok (.aload_n 0, 1) := by decide +kernel
theorem dX9_wrongMet_16 : decode cX9_wrongMet 16 = .ok (.getfield 289, 3) := by decide +kernel
theorem dX9_wrongMet_19 : decode cX9_wrongMet 19 = .ok (.getfield 258, 3) := by decide +kernel
theorem dX9_wrongMet_22 : decode cX9_wrongMet 22 = .ok (.iload_n 2, 1) := by decide +kernel
theorem dX9_wrongMet_23 : decode cX9_wrongMet 23 = .ok (.iaload, 1) := by decide +kernel
theorem dX9_wrongMet_24 : decode cX9_wrongMet 24 = .ok (.invokevirtual 319, 3) := by decide +kernel
theorem dX9_wrongMet_27 : decode cX9_wrongMet 27 = .ok (.istore_n 3, 1) := by decide +kernel
theorem dX9_wrongMet_28 : decode cX9_wrongMet 28 = .ok (.iload_n 3, 1) := by decide +kernel
theorem dX9_wrongMet_29 : decode cX9_wrongMet 29 = .ok (.bipush (-2), 2) := by decide +kernel
theorem dX9_wrongMet_31 : decode cX9_wrongMet 31 = .ok (.if_icmp .eq 25, 3) := by decide +kernel
theorem dX9_wrongMet_34 : decode cX9_wrongMet 34 = .ok (.aload_n 0, 1) := by decide +kernel
theorem dX9_wrongMet_35 : decode cX9_wrongMet 35 = .ok (.getfield 289, 3) := by decide +kernel
theorem dX9_wrongMet_38 : decode cX9_wrongMet 38 = .ok (.getfield 235, 3) := by decide +kernel
theorem dX9_wrongMet_41 : decode cX9_wrongMet 41 = .ok (.iload_n 3, 1) := by decide +kernel
theorem dX9_wrongMet_42 : decode cX9_wrongMet 42 = .ok (.laload, 1) := by decide +kernel
theorem dX9_wrongMet_43 : decode cX9_wrongMet 43 = .ok (.aload_n 0, 1) := by decide +kernel
theorem dX9_wrongMet_44 : decode cX9_wrongMet 44 = .ok (.getfield 289, 3) := by decide +kernel
theorem dX9_wrongMet_47 : decode cX9_wrongMet 47 = .ok (.getfield 261, 3) := by decide +kernel
theorem dX9_wrongMet_50 : decode cX9_wrongMet 50 = .ok (.iload_n 2, 1) := by decide +kernel
theorem dX9_wrongMet_51 : decode cX9_wrongMet 51 = .ok (.laload, 1) := by decide +kernel
theorem dX9_wrongMet_52 : decode cX9_wrongMet 52 = .ok (.lcmp, 1) := by decide +kernel
theorem dX9_wrongMet_53 : decode cX9_wrongMet 53 = .ok (.ifCond .eq 5, 3) := by decide +kernel
theorem dX9_wrongMet_56 : decode cX9_wrongMet 56 = .ok (.iload_n 2, 1) := by decide +kernel
theorem dX9_wrongMet_57 : decode cX9_wrongMet 57 = .ok (.ireturn, 1) := by decide +kernel
theorem dX9_wrongMet_58 : decode cX9_wrongMet 58 = .ok (.iinc 2 1, 3) := by decide +kernel
theorem dX9_wrongMet_61 : decode cX9_wrongMet 61 = .ok (.goto (-59), 3) := by decide +kernel
theorem dX9_wrongMet_64 : decode cX9_wrongMet 64 = .ok (.bipush (-2), 2) := by decide +kernel
theorem dX9_wrongMet_66 : decode cX9_wrongMet 66 = .ok (.ireturn, 1) := by decide +kernel
def B_X9_wrongMet_0 (X : Nat × (Nat → Int32)) (J : Nat → zCf) (R : zRt) : zCf := oPI (zj (0)) (oISTORE 1 2 (J 2))
set_option maxRecDepth 100000 in
theorem vb_X9_wrongMet_0 {X : Nat × (Nat → Int32)} {R : zRt} : ∀ ls st h, B_X9_wrongMet_0 X (zV X M_X9_wrongMet (zQm M_X9_wrongMet R) 0 0) R ls st h → zV X M_X9_wrongMet (zQm M_X9_wrongMet R) 0 0 0 ls st h := sd_iconst dX9_wrongMet_0 rfl (sd_istore_n dX9_wrongMet_1 rfl (Nat.le_of_ble_eq_true rfl) (Or.inl rfl) (fun _ _ _ h => h))
def B_X9_wrongMet_2 (X : Nat × (Nat → Int32)) (J : Nat → zCf) (R : zRt) : zCf := oILOAD 2 (oALOAD 0 (oGETR 9 3 (oGETI 8 4 (oICGE (J 64) (oALOAD 0 (oILOAD 1 (oALOAD 0 (oGETR 9 3 (oGETR 8 13 (oILOAD 2 (oIALD (oINV2 X M_X9_seenIn 9 (oISTORE 2 3 (oILOAD 3 (oPI (zj (-2)) (oICEQ (J 56) (oALOAD 0 (oGETR 9 3 (oGETR 8 12 (oILOAD 3 (oLALD (oALOAD 0 (oGETR 9 3 (oGETR 8 17 (oILOAD 2 (oLALD (oLCMP (oIFEQ (J 58) (J 56)))))))))))))))))))))))))))))
set_option maxRecDepth 100000 in
theorem vb_X9_wrongMet_2 {X : Nat × (Nat → Int32)} {R : zRt} : ∀ ls st h, B_X9_wrongMet_2 X (zV X M_X9_wrongMet (zQm M_X9_wrongMet R) 0 0) R ls st h → zV X M_X9_wrongMet (zQm M_X9_wrongMet R) 0 0 2 ls st h := sd_iload_n dX9_wrongMet_2 rfl (sd_aload_n dX9_wrongMet_3 rfl (sd_getr dX9_wrongMet_4 zCl9 (Nat.le_of_ble_eq_true rfl) lk_RX9_289 (Or.inl ⟨_, rfl⟩) (sd_geti dX9_wrongMet_7 zCl8 (Nat.le_of_ble_eq_true rfl) lk_RX9_253 (Or.inl rfl) (sd_icge dX9_wrongMet_10 rfl (fun _ _ _ h => h) (sd_aload_n dX9_wrongMet_13 rfl (sd_iload_n dX9_wrongMet_14 rfl (sd_aload_n dX9_wrongMet_15 rfl (sd_getr dX9_wrongMet_16 zCl9 (Nat.le_of_ble_eq_true rfl) lk_RX9_289 (Or.inl ⟨_, rfl⟩) (sd_getr dX9_wrongMet_19 zCl8 (Nat.le_of_ble_eq_true rfl) lk_RX9_258 (Or.inr ⟨_, rfl⟩) (sd_iload_n dX9_wrongMet_22 rfl (sd_iald dX9_wrongMet_23 (sd_inv2 dX9_wrongMet_24 rfl mv_X9_seenIn na_X9_seenIn ml_RX9_319 ⟨⟨Nat.le_of_ble_eq_true rfl, Nat.le_of_ble_eq_true rfl⟩, ⟨Nat.le_of_ble_eq_true rfl, Nat.le_of_ble_eq_true rfl⟩⟩ (sd_istore_n dX9_wrongMet_27 rfl (Nat.le_of_ble_eq_true rfl) (Or.inl rfl) (sd_iload_n dX9_wrongMet_28 rfl (sd_bipush dX9_wrongMet_29 rfl (sd_iceq dX9_wrongMet_31 rfl (fun _ _ _ h => h) (sd_aload_n dX9_wrongMet_34 rfl (sd_getr dX9_wrongMet_35 zCl9 (Nat.le_of_ble_eq_true rfl) lk_RX9_289 (Or.inl ⟨_, rfl⟩) (sd_getr dX9_wrongMet_38 zCl8 (Nat.le_of_ble_eq_true rfl) lk_RX9_235 (Or.inr ⟨_, rfl⟩) (sd_iload_n dX9_wrongMet_41 rfl (sd_lald dX9_wrongMet_42 (sd_aload_n dX9_wrongMet_43 rfl (sd_getr dX9_wrongMet_44 zCl9 (Nat.le_of_ble_eq_true rfl) lk_RX9_289 (Or.inl ⟨_, rfl⟩) (sd_getr dX9_wrongMet_47 zCl8 (Nat.le_of_ble_eq_true rfl) lk_RX9_261 (Or.inr ⟨_, rfl⟩) (sd_iload_n dX9_wrongMet_50 rfl (sd_lald dX9_wrongMet_51 (sd_lcmp dX9_wrongMet_52 (sd_ifeq dX9_wrongMet_53 rfl (fun _ _ _ h => h) (fun _ _ _ h => h)))))))))))))))))))))))))))))
def B_X9_wrongMet_56 (X : Nat × (Nat → Int32)) (J : Nat → zCf) (R : zRt) : zCf := oILOAD 2 (oIRET R)
set_option maxRecDepth 100000 in
theorem vb_X9_wrongMet_56 {X : Nat × (Nat → Int32)} {R : zRt} : ∀ ls st h, B_X9_wrongMet_56 X (zV X M_X9_wrongMet (zQm M_X9_wrongMet R) 0 0) R ls st h → zV X M_X9_wrongMet (zQm M_X9_wrongMet R) 0 0 56 ls st h := sd_iload_n dX9_wrongMet_56 rfl (sd_iret dX9_wrongMet_57 rfl (Nat.le_of_ble_eq_true rfl) (Nat.le_of_ble_eq_true rfl))
def B_X9_wrongMet_58 (X : Nat × (Nat → Int32)) (J : Nat → zCf) (R : zRt) : zCf := oIINC 1 2 (zj (1)) (J 2)
set_option maxRecDepth 100000 in
theorem vb_X9_wrongMet_58 {X : Nat × (Nat → Int32)} {R : zRt} : ∀ ls st h, B_X9_wrongMet_58 X (zV X M_X9_wrongMet (zQm M_X9_wrongMet R) 0 0) R ls st h → zV X M_X9_wrongMet (zQm M_X9_wrongMet R) 0 0 58 ls st h := sd_iinc dX9_wrongMet_58 rfl (Nat.le_of_ble_eq_true rfl) (Or.inl rfl) (sd_goto dX9_wrongMet_61 rfl (fun _ _ _ h => h))
def B_X9_wrongMet_64 (X : Nat × (Nat → Int32)) (J : Nat → zCf) (R : zRt) : zCf := oPI (zj (-2)) (oIRET R)
set_option maxRecDepth 100000 in
theorem vb_X9_wrongMet_64 {X : Nat × (Nat → Int32)} {R : zRt} : ∀ ls st h, B_X9_wrongMet_64 X (zV X M_X9_wrongMet (zQm M_X9_wrongMet R) 0 0) R ls st h → zV X M_X9_wrongMet (zQm M_X9_wrongMet R) 0 0 64 ls st h := sd_bipush dX9_wrongMet_64 rfl (sd_iret dX9_wrongMet_66 rfl (Nat.le_of_ble_eq_true rfl) (Nat.le_of_ble_eq_true rfl))
theorem dX9_fitting_0 : decode cX9_fitting 0 = .ok (.iconst 0, 1) := by decide +kernel
theorem dX9_fitting_1 : decode cX9_fitting 1 = .ok (.istore_n 1, 1) := by decide +kernel
theorem dX9_fitting_2 : decode cX9_fitting 2 = .ok (.iconst 0, 1) := by decide +kernel
theorem dX9_fitting_3 : decode cX9_fitting 3 = .ok (.istore_n 2, 1) := by decide +kernel
theorem dX9_fitting_4 : decode cX9_fitting 4 = .ok (.iload_n 2, 1) := by decide +kernel
theorem dX9_fitting_5 : decode cX9_fitting 5 = .ok (.bipush 6, 2) := by decide +kernel
theorem dX9_fitting_7 : decode cX9_fitting 7 = .ok (.if_icmp .ge 29, 3) := by decide +kernel
theorem dX9_fitting_10 : decode cX9_fitting 10 = .ok (.iload_n 1, 1) := by decide +kernel
theorem dX9_fitting_11 : decode cX9_fitting 11 = .ok (.aload_n 0, 1) := by decide +kernel
theorem dX9_fitting_12 : decode cX9_fitting 12 = .ok (.iload_n 2, 1) := by decide +kernel
theorem dX9_fitting_13 : decode cX9_fitting 13 = .ok (.invokevirtual 392, 3) := by decide +kernel
theorem dX9_fitting_16 : decode cX9_fitting 16 = .ok (.bipush (-2), 2) := by decide +kernel
theorem dX9_fitting_18 : decode cX9_fitting 18 = .ok (.if_icmp .ne 9, 3) := by decide +kernel
theorem dX9_fitting_21 : decode cX9_fitting 21 = .ok (.iconst 1, 1) := by decide +kernel
theorem dX9_fitting_22 : decode cX9_fitting 22 = .ok (.iload_n 2, 1) := by decide +kernel
theorem dX9_fitting_23 : decode cX9_fitting 23 = .ok (.ishl, 1) := by decide +kernel
theorem dX9_fitting_24 : decode cX9_fitting 24 = .ok (.goto 4, 3) := by decide +kernel
theorem dX9_fitting_27 : decode cX9_fitting 27 = .ok (.iconst 0, 1) := by decide +kernel
theorem dX9_fitting_28 : decode cX9_fitting 28 = .ok (.ior, 1) := by decide +kernel
theorem dX9_fitting_29 : decode cX9_fitting 29 = .ok (.istore_n 1, 1) := by decide +kernel
theorem dX9_fitting_30 : decode cX9_fitting 30 = .ok (.iinc 2 1, 3) := by decide +kernel
theorem dX9_fitting_33 : decode cX9_fitting 33 = .ok (.goto (-29), 3) := by decide +kernel
theorem dX9_fitting_36 : decode cX9_fitting 36 = .ok (.iload_n 1, 1) := by decide +kernel
theorem dX9_fitting_37 : decode cX9_fitting 37 = .ok (.ireturn, 1) := by decide +kernel
def B_X9_fitting_0 (X : Nat × (Nat → Int32)) (J : Nat → zCf) (R : zRt) : zCf := oPI (zj (0)) (oISTORE 0 1 (oPI (zj (0)) (oISTORE 1 2 (J 4))))
set_option maxRecDepth 100000 in
theorem vb_X9_fitting_0 {X : Nat × (Nat → Int32)} {R : zRt} : ∀ ls st h, B_X9_fitting_0 X (zV X M_X9_fitting (zQm M_X9_fitting R) 0 0) R ls st h → zV X M_X9_fitting (zQm M_X9_fitting R) 0 0 0 ls st h := sd_iconst dX9_fitting_0 rfl (sd_istore_n dX9_fitting_1 rfl (Nat.le_of_ble_eq_true rfl) (Or.inl rfl) (sd_iconst dX9_fitting_2 rfl (sd_istore_n dX9_fitting_3 rfl (Nat.le_of_ble_eq_true rfl) (Or.inl rfl) (fun _ _ _ h => h))))
def B_X9_fitting_4 (X : Nat × (Nat → Int32)) (J : Nat → zCf) (R : zRt) : zCf := oILOAD 2 (oPI (zj (6)) (oICGE (J 36) (oILOAD 1 (oALOAD 0 (oILOAD 2 (oINV1 X M_X9_wrongMet 9 (oPI (zj (-2)) (oICNE (J 27) (oPI (zj (1)) (oILOAD 2 (oISHL (J 28))))))))))))
set_option maxRecDepth 100000 in
theorem vb_X9_fitting_4 {X : Nat × (Nat → Int32)} {R : zRt} : ∀ ls st h, B_X9_fitting_4 X (zV X M_X9_fitting (zQm M_X9_fitting R) 0 0) R ls st h → zV X M_X9_fitting (zQm M_X9_fitting R) 0 0 4 ls st h := sd_iload_n dX9_fitting_4 rfl (sd_bipush dX9_fitting_5 rfl (sd_icge dX9_fitting_7 rfl (fun _ _ _ h => h) (sd_iload_n dX9_fitting_10 rfl (sd_aload_n dX9_fitting_11 rfl (sd_iload_n dX9_fitting_12 rfl (sd_inv1 dX9_fitting_13 rfl mv_X9_wrongMet na_X9_wrongMet ml_RX9_392 ⟨⟨Nat.le_of_ble_eq_true rfl, Nat.le_of_ble_eq_true rfl⟩, ⟨Nat.le_of_ble_eq_true rfl, Nat.le_of_ble_eq_true rfl⟩⟩ (sd_bipush dX9_fitting_16 rfl (sd_icne dX9_fitting_18 rfl (fun _ _ _ h => h) (sd_iconst dX9_fitting_21 rfl (sd_iload_n dX9_fitting_22 rfl (sd_ishl dX9_fitting_23 (sd_goto dX9_fitting_24 rfl (fun _ _ _ h => h)))))))))))))
def B_X9_fitting_27 (X : Nat × (Nat → Int32)) (J : Nat → zCf) (R : zRt) : zCf := oPI (zj (0)) (J 28)
set_option maxRecDepth 100000 in
theorem vb_X9_fitting_27 {X : Nat × (Nat → Int32)} {R : zRt} : ∀ ls st h, B_X9_fitting_27 X (zV X M_X9_fitting (zQm M_X9_fitting R) 0 0) R ls st h → zV X M_X9_fitting (zQm M_X9_fitting R) 0 0 27 ls st h := sd_iconst dX9_fitting_27 rfl (fun _ _ _ h => h)
def B_X9_fitting_28 (X : Nat × (Nat → Int32)) (J : Nat → zCf) (R : zRt) : zCf := oIOR (oISTORE 0 1 (oIINC 1 2 (zj (1)) (J 4)))
set_option maxRecDepth 100000 in
theorem vb_X9_fitting_28 {X : Nat × (Nat → Int32)} {R : zRt} : ∀ ls st h, B_X9_fitting_28 X (zV X M_X9_fitting (zQm M_X9_fitting R) 0 0) R ls st h → zV X M_X9_fitting (zQm M_X9_fitting R) 0 0 28 ls st h := sd_ior dX9_fitting_28 (sd_istore_n dX9_fitting_29 rfl (Nat.le_of_ble_eq_true rfl) (Or.inl rfl) (sd_iinc dX9_fitting_30 rfl (Nat.le_of_ble_eq_true rfl) (Or.inl rfl) (sd_goto dX9_fitting_33 rfl (fun _ _ _ h => h))))
def B_X9_fitting_36 (X : Nat × (Nat → Int32)) (J : Nat → zCf) (R : zRt) : zCf := oILOAD 1 (oIRET R)
set_option maxRecDepth 100000 in
theorem vb_X9_fitting_36 {X : Nat × (Nat → Int32)} {R : zRt} : ∀ ls st h, B_X9_fitting_36 X (zV X M_X9_fitting (zQm M_X9_fitting R) 0 0) R ls st h → zV X M_X9_fitting (zQm M_X9_fitting R) 0 0 36 ls st h := sd_iload_n dX9_fitting_36 rfl (sd_iret dX9_fitting_37 rfl (Nat.le_of_ble_eq_true rfl) (Nat.le_of_ble_eq_true rfl))
theorem dX9_which_0 : decode cX9_which 0 = .ok (.aload_n 0, 1) := by decide +kernel
theorem dX9_which_1 : decode cX9_which 1 = .ok (.iconst 0, 1) := by decide +kernel
theorem dX9_which_2 : decode cX9_which 2 = .ok (.putfield 36, 3) := by decide +kernel
theorem dX9_which_5 : decode cX9_which 5 = .ok (.aload_n 0, 1) := by decide +kernel
theorem dX9_which_6 : decode cX9_which 6 = .ok (.getfield 289, 3) := by decide +kernel
theorem dX9_which_9 : decode cX9_which 9 = .ok (.ifnonnull 11, 3) := by decide +kernel
theorem dX9_which_12 : decode cX9_which 12 = .ok (.aload_n 0, 1) := by decide +kernel
theorem dX9_which_13 : decode cX9_which 13 = .ok (.iconst 1, 1) := by decide +kernel
theorem dX9_which_14 : decode cX9_which 14 = .ok (.invokevirtual 42, 3) := by decide +kernel
theorem dX9_which_17 : decode cX9_which 17 = .ok (.goto 11, 3) := by decide +kernel
theorem dX9_which_20 : decode cX9_which 20 = .ok (.aload_n 0, 1) := by decide +kernel
theorem dX9_which_21 : decode cX9_which 21 = .ok (.aload_n 0, 1) := by decide +kernel
theorem dX9_which_22 : decode cX9_which 22 = .ok (.invokevirtual 395, 3) := by decide +kernel
theorem dX9_which_25 : decode cX9_which 25 = .ok (.invokevirtual 46, 3) := by decide +kernel
theorem dX9_which_28 : decode cX9_which 28 = .ok (.ireturn, 1) := by decide +kernel
def B_X9_which_0 (X : Nat × (Nat → Int32)) (J : Nat → zCf) (R : zRt) : zCf := oALOAD 0 (oPI (zj (0)) (oPUTI 9 0 (oALOAD 0 (oGETR 9 3 (oIFNONNULL (J 20) (oALOAD 0 (oPI (zj (1)) (oINV1 X M_X9_refused 9 (J 28)))))))))
set_option maxRecDepth 100000 in
theorem vb_X9_which_0 {X : Nat × (Nat → Int32)} {R : zRt} : ∀ ls st h, B_X9_which_0 X (zV X M_X9_which (zQm M_X9_which R) 0 0) R ls st h → zV X M_X9_which (zQm M_X9_which R) 0 0 0 ls st h := sd_aload_n dX9_which_0 rfl (sd_iconst dX9_which_1 rfl (sd_puti dX9_which_2 zCl9 (Nat.le_of_ble_eq_true rfl) lk_RX9_36 rfl (Or.inl rfl) (sd_aload_n dX9_which_5 rfl (sd_getr dX9_which_6 zCl9 (Nat.le_of_ble_eq_true rfl) lk_RX9_289 (Or.inl ⟨_, rfl⟩) (sd_ifnonnull dX9_which_9 rfl (fun _ _ _ h => h) (sd_aload_n dX9_which_12 rfl (sd_iconst dX9_which_13 rfl (sd_inv1 dX9_which_14 rfl mv_X9_refused na_X9_refused ml_RX9_42 ⟨⟨Nat.le_of_ble_eq_true rfl, Nat.le_of_ble_eq_true rfl⟩, ⟨Nat.le_of_ble_eq_true rfl, Nat.le_of_ble_eq_true rfl⟩⟩ (sd_goto dX9_which_17 rfl (fun _ _ _ h => h))))))))))
def B_X9_which_20 (X : Nat × (Nat → Int32)) (J : Nat → zCf) (R : zRt) : zCf := oALOAD 0 (oALOAD 0 (oINV0 X M_X9_fitting 9 (oINV1 X M_X9_good 9 (J 28))))
set_option maxRecDepth 100000 in
theorem vb_X9_which_20 {X : Nat × (Nat → Int32)} {R : zRt} : ∀ ls st h, B_X9_which_20 X (zV X M_X9_which (zQm M_X9_which R) 0 0) R ls st h → zV X M_X9_which (zQm M_X9_which R) 0 0 20 ls st h := sd_aload_n dX9_which_20 rfl (sd_aload_n dX9_which_21 rfl (sd_inv0 dX9_which_22 rfl mv_X9_fitting na_X9_fitting ml_RX9_395 ⟨⟨Nat.le_of_ble_eq_true rfl, Nat.le_of_ble_eq_true rfl⟩, ⟨Nat.le_of_ble_eq_true rfl, Nat.le_of_ble_eq_true rfl⟩⟩ (sd_inv1 dX9_which_25 rfl mv_X9_good na_X9_good ml_RX9_46 ⟨⟨Nat.le_of_ble_eq_true rfl, Nat.le_of_ble_eq_true rfl⟩, ⟨Nat.le_of_ble_eq_true rfl, Nat.le_of_ble_eq_true rfl⟩⟩ (fun _ _ _ h => h))))
def B_X9_which_28 (X : Nat × (Nat → Int32)) (J : Nat → zCf) (R : zRt) : zCf := oIRET R
set_option maxRecDepth 100000 in
theorem vb_X9_which_28 {X : Nat × (Nat → Int32)} {R : zRt} : ∀ ls st h, B_X9_which_28 X (zV X M_X9_which (zQm M_X9_which R) 0 0) R ls st h → zV X M_X9_which (zQm M_X9_which R) 0 0 28 ls st h := sd_iret dX9_which_28 rfl (Nat.le_of_ble_eq_true rfl) (Nat.le_of_ble_eq_true rfl)
theorem dX9_surely_0 : decode cX9_surely 0 = .ok (.aload_n 0, 1) := by decide +kernel
theorem dX9_surely_1 : decode cX9_surely 1 = .ok (.iconst 0, 1) := by decide +kernel
theorem dX9_surely_2 : decode cX9_surely 2 = .ok (.putfield 36, 3) := by decide +kernel
theorem dX9_surely_5 : decode cX9_surely 5 = .ok (.aload_n 0, 1) := by decide +kernel
theorem dX9_surely_6 : decode cX9_surely 6 = .ok (.getfield 289, 3) := by decide +kernel
theorem dX9_surely_9 : decode cX9_surely 9 = .ok (.ifnonnull 9, 3) := by decide +kernel
theorem dX9_surely_12 : decode cX9_surely 12 = .ok (.aload_n 0, 1) := by decide +kernel
theorem dX9_surely_13 : decode cX9_surely 13 = .ok (.iconst 1, 1) := by decide +kernel
theorem dX9_surely_14 : decode cX9_surely 14 = .ok (.invokevirtual 42, 3) := by decide +kernel
theorem dX9_surely_17 : decode cX9_surely 17 = .ok (.ireturn, 1) := by decide +kernel
theorem dX9_surely_18 : decode cX9_surely 18 = .ok (.iconst 0, 1) := by decide +kernel
theorem dX9_surely_19 : decode cX9_surely 19 = .ok (.istore_n 1, 1) := by decide +kernel
theorem dX9_surely_20 : decode cX9_surely 20 = .ok (.iload_n 1, 1) := by decide +kernel
theorem dX9_surely_21 : decode cX9_surely 21 = .ok (.bipush 6, 2) := by decide +kernel
theorem dX9_surely_23 : decode cX9_surely 23 = .ok (.if_icmp .ge 25, 3) := by decide +kernel
theorem dX9_surely_26 : decode cX9_surely 26 = .ok (.aload_n 0, 1) := by decide +kernel
theorem dX9_surely_27 : decode cX9_surely 27 = .ok (.invokevirtual 395, 3) := by decide +kernel
theorem dX9_surely_30 : decode cX9_surely 30 = .ok (.iconst 1, 1) := by decide +kernel
theorem dX9_surely_31 : decode cX9_surely 31 = .ok (.iload_n 1, 1) := by decide +kernel
theorem dX9_surely_32 : decode cX9_surely 32 = .ok (.ishl, 1) := by decide +kernel
theorem dX9_surely_33 : decode cX9_surely 33 = .ok (.if_icmp .ne 9, 3) := by decide +kernel
theorem dX9_surely_36 : decode cX9_surely 36 = .ok (.aload_n 0, 1) := by decide +kernel
theorem dX9_surely_37 : decode cX9_surely 37 = .ok (.iload_n 1, 1) := by decide +kernel
theorem dX9_surely_38 : decode cX9_surely 38 = .ok (.invokevirtual 46, 3) := by decide +kernel
theorem dX9_surely_41 : decode cX9_surely 41 = .ok (.ireturn, 1) := by decide +kernel
theorem dX9_surely_42 : decode cX9_surely 42 = .ok (.iinc 1 1, 3) := by decide +kernel
theorem dX9_surely_45 : decode cX9_surely 45 = .ok (.goto (-25), 3) := by decide +kernel
theorem dX9_surely_48 : decode cX9_surely 48 = .ok (.aload_n 0, 1) := by decide +kernel
theorem dX9_surely_49 : decode cX9_surely 49 = .ok (.bipush (-2), 2) := by decide +kernel
theorem dX9_surely_51 : decode cX9_surely 51 = .ok (.invokevirtual 46, 3) := by decide +kernel
theorem dX9_surely_54 : decode cX9_surely 54 = .ok (.ireturn, 1) := by decide +kernel
def B_X9_surely_0 (X : Nat × (Nat → Int32)) (J : Nat → zCf) (R : zRt) : zCf := oALOAD 0 (oPI (zj (0)) (oPUTI 9 0 (oALOAD 0 (oGETR 9 3 (oIFNONNULL (J 18) (oALOAD 0 (oPI (zj (1)) (oINV1 X M_X9_refused 9 (oIRET R)))))))))
set_option maxRecDepth 100000 in
theorem vb_X9_surely_0 {X : Nat × (Nat → Int32)} {R : zRt} : ∀ ls st h, B_X9_surely_0 X (zV X M_X9_surely (zQm M_X9_surely R) 0 0) R ls st h → zV X M_X9_surely (zQm M_X9_surely R) 0 0 0 ls st h := sd_aload_n dX9_surely_0 rfl (sd_iconst dX9_surely_1 rfl (sd_puti dX9_surely_2 zCl9 (Nat.le_of_ble_eq_true rfl) lk_RX9_36 rfl (Or.inl rfl) (sd_aload_n dX9_surely_5 rfl (sd_getr dX9_surely_6 zCl9 (Nat.le_of_ble_eq_true rfl) lk_RX9_289 (Or.inl ⟨_, rfl⟩) (sd_ifnonnull dX9_surely_9 rfl (fun _ _ _ h => h) (sd_aload_n dX9_surely_12 rfl (sd_iconst dX9_surely_13 rfl (sd_inv1 dX9_surely_14 rfl mv_X9_refused na_X9_refused ml_RX9_42 ⟨⟨Nat.le_of_ble_eq_true rfl, Nat.le_of_ble_eq_true rfl⟩, ⟨Nat.le_of_ble_eq_true rfl, Nat.le_of_ble_eq_true rfl⟩⟩ (sd_iret dX9_surely_17 rfl (Nat.le_of_ble_eq_true rfl) (Nat.le_of_ble_eq_true rfl))))))))))
def B_X9_surely_18 (X : Nat × (Nat → Int32)) (J : Nat → zCf) (R : zRt) : zCf := oPI (zj (0)) (oISTORE 0 1 (J 20))
set_option maxRecDepth 100000 in
theorem vb_X9_surely_18 {X : Nat × (Nat → Int32)} {R : zRt} : ∀ ls st h, B_X9_surely_18 X (zV X M_X9_surely (zQm M_X9_surely R) 0 0) R ls st h → zV X M_X9_surely (zQm M_X9_surely R) 0 0 18 ls st h := sd_iconst dX9_surely_18 rfl (sd_istore_n dX9_surely_19 rfl (Nat.le_of_ble_eq_true rfl) (Or.inl rfl) (fun _ _ _ h => h))
def B_X9_surely_20 (X : Nat × (Nat → Int32)) (J : Nat → zCf) (R : zRt) : zCf := oILOAD 1 (oPI (zj (6)) (oICGE (J 48) (oALOAD 0 (oINV0 X M_X9_fitting 9 (oPI (zj (1)) (oILOAD 1 (oISHL (oICNE (J 42) (oALOAD 0 (oILOAD 1 (oINV1 X M_X9_good 9 (oIRET R))))))))))))
set_option maxRecDepth 100000 in
theorem vb_X9_surely_20 {X : Nat × (Nat → Int32)} {R : zRt} : ∀ ls st h, B_X9_surely_20 X (zV X M_X9_surely (zQm M_X9_surely R) 0 0) R ls st h → zV X M_X9_surely (zQm M_X9_surely R) 0 0 20 ls st h := sd_iload_n dX9_surely_20 rfl (sd_bipush dX9_surely_21 rfl (sd_icge dX9_surely_23 rfl (fun _ _ _ h => h) (sd_aload_n dX9_surely_26 rfl (sd_inv0 dX9_surely_27 rfl mv_X9_fitting na_X9_fitting ml_RX9_395 ⟨⟨Nat.le_of_ble_eq_true rfl, Nat.le_of_ble_eq_true rfl⟩, ⟨Nat.le_of_ble_eq_true rfl, Nat.le_of_ble_eq_true rfl⟩⟩ (sd_iconst dX9_surely_30 rfl (sd_iload_n dX9_surely_31 rfl (sd_ishl dX9_surely_32 (sd_icne dX9_surely_33 rfl (fun _ _ _ h => h) (sd_aload_n dX9_surely_36 rfl (sd_iload_n dX9_surely_37 rfl (sd_inv1 dX9_surely_38 rfl mv_X9_good na_X9_good ml_RX9_46 ⟨⟨Nat.le_of_ble_eq_true rfl, Nat.le_of_ble_eq_true rfl⟩, ⟨Nat.le_of_ble_eq_true rfl, Nat.le_of_ble_eq_true rfl⟩⟩ (sd_iret dX9_surely_41 rfl (Nat.le_of_ble_eq_true rfl) (Nat.le_of_ble_eq_true rfl)))))))))))))
def B_X9_surely_42 (X : Nat × (Nat → Int32)) (J : Nat → zCf) (R : zRt) : zCf := oIINC 0 1 (zj (1)) (J 20)
set_option maxRecDepth 100000 in
theorem vb_X9_surely_42 {X : Nat × (Nat → Int32)} {R : zRt} : ∀ ls st h, B_X9_surely_42 X (zV X M_X9_surely (zQm M_X9_surely R) 0 0) R ls st h → zV X M_X9_surely (zQm M_X9_surely R) 0 0 42 ls st h := sd_iinc dX9_surely_42 rfl (Nat.le_of_ble_eq_true rfl) (Or.inl rfl) (sd_goto dX9_surely_45 rfl (fun _ _ _ h => h))
def B_X9_surely_48 (X : Nat × (Nat → Int32)) (J : Nat → zCf) (R : zRt) : zCf := oALOAD 0 (oPI (zj (-2)) (oINV1 X M_X9_good 9 (oIRET R)))
set_option maxRecDepth 100000 in
theorem vb_X9_surely_48 {X : Nat × (Nat → Int32)} {R : zRt} : ∀ ls st h, B_X9_surely_48 X (zV X M_X9_surely (zQm M_X9_surely R) 0 0) R ls st h → zV X M_X9_surely (zQm M_X9_surely R) 0 0 48 ls st h := sd_aload_n dX9_surely_48 rfl (sd_bipush dX9_surely_49 rfl (sd_inv1 dX9_surely_51 rfl mv_X9_good na_X9_good ml_RX9_46 ⟨⟨Nat.le_of_ble_eq_true rfl, Nat.le_of_ble_eq_true rfl⟩, ⟨Nat.le_of_ble_eq_true rfl, Nat.le_of_ble_eq_true rfl⟩⟩ (sd_iret dX9_surely_54 rfl (Nat.le_of_ble_eq_true rfl) (Nat.le_of_ble_eq_true rfl))))
theorem dX9_looksAlike_0 : decode cX9_looksAlike 0 = .ok (.aload_n 0, 1) := by decide +kernel
theorem dX9_looksAlike_1 : decode cX9_looksAlike 1 = .ok (.iload_n 1, 1) := by decide +kernel
theorem dX9_looksAlike_2 : decode cX9_looksAlike 2 = .ok (.iload_n 3, 1) := by decide +kernel
theorem dX9_looksAlike_3 : decode cX9_looksAlike 3 = .ok (.invokevirtual 319, 3) := by decide +kernel
theorem dX9_looksAlike_6 : decode cX9_looksAlike 6 = .ok (.istore 4, 2) := by decide +kernel
theorem dX9_looksAlike_8 : decode cX9_looksAlike 8 = .ok (.aload_n 0, 1) := by decide +kernel
theorem dX9_looksAlike_9 : decode cX9_looksAlike 9 = .ok (.iload_n 2, 1) := by decide +kernel
theorem dX9_looksAlike_10 : decode cX9_looksAlike 10 = .ok (.iload_n 3, 1) := by decide +kernel
theorem dX9_looksAlike_11 : decode cX9_looksAlike 11 = .ok (.invokevirtual 319, 3) := by decide +kernel
theorem dX9_looksAlike_14 : decode cX9_looksAlike 14 = .ok (.istore 5, 2) := by decide +kernel
theorem dX9_looksAlike_16 : decode cX9_looksAlike 16 = .ok (.iload 4, 2) := by decide +kernel
theorem dX9_looksAlike_18 : decode cX9_looksAlike 18 = .ok (.bipush (-2), 2) := by decide +kernel
theorem dX9_looksAlike_20 : decode cX9_looksAlike 20 = .ok (.if_icmp .eq 10, 3) := by decide +kernel
theorem dX9_looksAlike_23 : decode cX9_looksAlike 23 = .ok (.iload 5, 2) := by decide +kernel
theorem dX9_looksAlike_25 : decode cX9_looksAlike 25 = .ok (.bipush (-2), 2) := by decide +kernel
theorem dX9_looksAlike_27 : decode cX9_looksAlike 27 = .ok (.if_icmp .ne 18, 3) := by decide +kernel
theorem dX9_looksAlike_30 : decode cX9_looksAlike 30 = .ok (.iload 4, 2) := by decide +kernel
theorem dX9_looksAlike_32 : decode cX9_looksAlike 32 = .ok (.iload 5, 2) := by decide +kernel
theorem dX9_looksAlike_34 : decode cX9_looksAlike 34 = .ok (.if_icmp .ne 7, 3) := by decide +kernel
theorem dX9_looksAlike_37 : decode cX9_looksAlike 37 = .ok (.iconst 1, 1) := by decide +kernel
theorem dX9_looksAlike_38 : decode cX9_looksAlike 38 = .ok (.goto 36, 3) := by decide +kernel
theorem dX9_looksAlike_41 : decode cX9_looksAlike 41 = .ok (.iconst 0, 1) := by decide +kernel
theorem dX9_looksAlike_42 : decode cX9_looksAlike 42 = .ok (.goto 32, 3) := by decide +kernel
theorem dX9_looksAlike_45 : decode cX9_looksAlike 45 = .ok (.aload_n 0, 1) := by decide +kernel
theorem dX9_looksAlike_46 : decode cX9_looksAlike 46 = .ok (.getfield 289, 3) := by decide +kernel
theorem dX9_looksAlike_49 : decode cX9_looksAlike 49 = .ok (.getfield 235, 3) := by decide +kernel
theorem dX9_looksAlike_52 : decode cX9_looksAlike 52 = .ok (.iload 4, 2) := by decide +kernel
theorem dX9_looksAlike_54 : decode cX9_looksAlike 54 = .ok (.laload, 1) := by decide +kernel
theorem dX9_looksAlike_55 : decode cX9_looksAlike 55 = .ok (.aload_n 0, 1) := by decide +kernel
theorem dX9_looksAlike_56 : decode cX9_looksAlike 56 = .ok (.getfield 289, 3) := by decide +kernel
theorem dX9_looksAlike_59 : decode cX9_looksAlike 59 = .ok (.getfield 235, 3) := by decide +kernel
theorem dX9_looksAlike_62 : decode cX9_looksAlike 62 = .ok (.iload 5, 2) := by decide +kernel
theorem dX9_looksAlike_64 : decode cX9_looksAlike 64 = .ok (.laload, 1) := by decide +kernel
theorem dX9_looksAlike_65 : decode cX9_looksAlike 65 = .ok (.lcmp, 1) := by decide +kernel
theorem dX9_looksAlike_66 : decode cX9_looksAlike 66 = .ok (.ifCond .ne 7, 3) := by decide +kernel
theorem dX9_looksAlike_69 : decode cX9_looksAlike 69 = .ok (.iconst 1, 1) := by decide +kernel
theorem dX9_looksAlike_70 : decode cX9_looksAlike 70 = .ok (.goto 4, 3) := by decide +kernel
theorem dX9_looksAlike_73 : decode cX9_looksAlike 73 = .ok (.iconst 0, 1) := by decide +kernel
theorem dX9_looksAlike_74 : decode cX9_looksAlike 74 = .ok (.ireturn, 1) := by decide +kernel
def B_X9_looksAlike_0 (X : Nat × (Nat → Int32)) (J : Nat → zCf) (R : zRt) : zCf := oALOAD 0 (oILOAD 1 (oILOAD 3 (oINV2 X M_X9_seenIn 9 (oISTORE 3 4 (oALOAD 0 (oILOAD 2 (oILOAD 3 (oINV2 X M_X9_seenIn 9 (oISTORE 4 5 (oILOAD 4 (oPI (zj (-2)) (oICEQ (J 30) (oILOAD 5 (oPI (zj (-2)) (oICNE (J 45) (J 30))))))))))))))))
set_option maxRecDepth 100000 in
theorem vb_X9_looksAlike_0 {X : Nat × (Nat → Int32)} {R : zRt} : ∀ ls st h, B_X9_looksAlike_0 X (zV X M_X9_looksAlike (zQm M_X9_looksAlike R) 0 0) R ls st h → zV X M_X9_looksAlike (zQm M_X9_looksAlike R) 0 0 0 ls st h := sd_aload_n dX9_looksAlike_0 rfl (sd_iload_n dX9_looksAlike_1 rfl (sd_iload_n dX9_looksAlike_2 rfl (sd_inv2 dX9_looksAlike_3 rfl mv_X9_seenIn na_X9_seenIn ml_RX9_319 ⟨⟨Nat.le_of_ble_eq_true rfl, Nat.le_of_ble_eq_true rfl⟩, ⟨Nat.le_of_ble_eq_true rfl, Nat.le_of_ble_eq_true rfl⟩⟩ (sd_istore dX9_looksAlike_6 (Nat.le_of_ble_eq_true rfl) (Or.inl rfl) (sd_aload_n dX9_looksAlike_8 rfl (sd_iload_n dX9_looksAlike_9 rfl (sd_iload_n dX9_looksAlike_10 rfl (sd_inv2 dX9_looksAlike_11 rfl mv_X9_seenIn na_X9_seenIn ml_RX9_319 ⟨⟨Nat.le_of_ble_eq_true rfl, Nat.le_of_ble_eq_true rfl⟩, ⟨Nat.le_of_ble_eq_true rfl, Nat.le_of_ble_eq_true rfl⟩⟩ (sd_istore dX9_looksAlike_14 (Nat.le_of_ble_eq_true rfl) (Or.inl rfl) (sd_iload dX9_looksAlike_16 (sd_bipush dX9_looksAlike_18 rfl (sd_iceq dX9_looksAlike_20 rfl (fun _ _ _ h => h) (sd_iload dX9_looksAlike_23 (sd_bipush dX9_looksAlike_25 rfl (sd_icne dX9_looksAlike_27 rfl (fun _ _ _ h => h) (fun _ _ _ h => h))))))))))))))))
def B_X9_looksAlike_30 (X : Nat × (Nat → Int32)) (J : Nat → zCf) (R : zRt) : zCf := oILOAD 4 (oILOAD 5 (oICNE (J 41) (oPI (zj (1)) (J 74))))
set_option maxRecDepth 100000 in
theorem vb_X9_looksAlike_30 {X : Nat × (Nat → Int32)} {R : zRt} : ∀ ls st h, B_X9_looksAlike_30 X (zV X M_X9_looksAlike (zQm M_X9_looksAlike R) 0 0) R ls st h → zV X M_X9_looksAlike (zQm M_X9_looksAlike R) 0 0 30 ls st h := sd_iload dX9_looksAlike_30 (sd_iload dX9_looksAlike_32 (sd_icne dX9_looksAlike_34 rfl (fun _ _ _ h => h) (sd_iconst dX9_looksAlike_37 rfl (sd_goto dX9_looksAlike_38 rfl (fun _ _ _ h => h)))))
def B_X9_looksAlike_41 (X : Nat × (Nat → Int32)) (J : Nat → zCf) (R : zRt) : zCf := oPI (zj (0)) (J 74)
set_option maxRecDepth 100000 in
theorem vb_X9_looksAlike_41 {X : Nat × (Nat → Int32)} {R : zRt} : ∀ ls st h, B_X9_looksAlike_41 X (zV X M_X9_looksAlike (zQm M_X9_looksAlike R) 0 0) R ls st h → zV X M_X9_looksAlike (zQm M_X9_looksAlike R) 0 0 41 ls st h := sd_iconst dX9_looksAlike_41 rfl (sd_goto dX9_looksAlike_42 rfl (fun _ _ _ h => h))
def B_X9_looksAlike_45 (X : Nat × (Nat → Int32)) (J : Nat → zCf) (R : zRt) : zCf := oALOAD 0 (oGETR 9 3 (oGETR 8 12 (oILOAD 4 (oLALD (oALOAD 0 (oGETR 9 3 (oGETR 8 12 (oILOAD 5 (oLALD (oLCMP (oIFNE (J 73) (oPI (zj (1)) (J 74)))))))))))))
set_option maxRecDepth 100000 in
theorem vb_X9_looksAlike_45 {X : Nat × (Nat → Int32)} {R : zRt} : ∀ ls st h, B_X9_looksAlike_45 X (zV X M_X9_looksAlike (zQm M_X9_looksAlike R) 0 0) R ls st h → zV X M_X9_looksAlike (zQm M_X9_looksAlike R) 0 0 45 ls st h := sd_aload_n dX9_looksAlike_45 rfl (sd_getr dX9_looksAlike_46 zCl9 (Nat.le_of_ble_eq_true rfl) lk_RX9_289 (Or.inl ⟨_, rfl⟩) (sd_getr dX9_looksAlike_49 zCl8 (Nat.le_of_ble_eq_true rfl) lk_RX9_235 (Or.inr ⟨_, rfl⟩) (sd_iload dX9_looksAlike_52 (sd_lald dX9_looksAlike_54 (sd_aload_n dX9_looksAlike_55 rfl (sd_getr dX9_looksAlike_56 zCl9 (Nat.le_of_ble_eq_true rfl) lk_RX9_289 (Or.inl ⟨_, rfl⟩) (sd_getr dX9_looksAlike_59 zCl8 (Nat.le_of_ble_eq_true rfl) lk_RX9_235 (Or.inr ⟨_, rfl⟩) (sd_iload dX9_looksAlike_62 (sd_lald dX9_looksAlike_64 (sd_lcmp dX9_looksAlike_65 (sd_ifne dX9_looksAlike_66 rfl (fun _ _ _ h => h) (sd_iconst dX9_looksAlike_69 rfl (sd_goto dX9_looksAlike_70 rfl (fun _ _ _ h => h))))))))))))))
def B_X9_looksAlike_73 (X : Nat × (Nat → Int32)) (J : Nat → zCf) (R : zRt) : zCf := oPI (zj (0)) (J 74)
set_option maxRecDepth 100000 in
theorem vb_X9_looksAlike_73 {X : Nat × (Nat → Int32)} {R : zRt} : ∀ ls st h, B_X9_looksAlike_73 X (zV X M_X9_looksAlike (zQm M_X9_looksAlike R) 0 0) R ls st h → zV X M_X9_looksAlike (zQm M_X9_looksAlike R) 0 0 73 ls st h := sd_iconst dX9_looksAlike_73 rfl (fun _ _ _ h => h)
def B_X9_looksAlike_74 (X : Nat × (Nat → Int32)) (J : Nat → zCf) (R : zRt) : zCf := oZRET R
set_option maxRecDepth 100000 in
theorem vb_X9_looksAlike_74 {X : Nat × (Nat → Int32)} {R : zRt} : ∀ ls st h, B_X9_looksAlike_74 X (zV X M_X9_looksAlike (zQm M_X9_looksAlike R) 0 0) R ls st h → zV X M_X9_looksAlike (zQm M_X9_looksAlike R) 0 0 74 ls st h := sd_zret dX9_looksAlike_74 rfl (Nat.le_of_ble_eq_true rfl) (Nat.le_of_ble_eq_true rfl)
theorem dX9_leaves_0 : decode cX9_leaves 0 = .ok (.iconst 0, 1) := by decide +kernel
theorem dX9_leaves_1 : decode cX9_leaves 1 = .ok (.istore_n 3, 1) := by decide +kernel
theorem dX9_leaves_2 : decode cX9_leaves 2 = .ok (.iconst 0, 1) := by decide +kernel
theorem dX9_leaves_3 : decode cX9_leaves 3 = .ok (.istore 4, 2) := by decide +kernel
theorem dX9_leaves_5 : decode cX9_leaves 5 = .ok (.iload 4, 2) := by decide +kernel
theorem dX9_leaves_7 : decode cX9_leaves 7 = .ok (.bipush 6, 2) := by decide +kernel
theorem dX9_leaves_9 : decode cX9_leaves 9 = .ok (.if_icmp .ge 77, 3) := by decide +kernel
theorem dX9_leaves_12 : decode cX9_leaves 12 = .ok (.iconst 0, 1) := by decide +kernel
theorem dX9_leaves_13 : decode cX9_leaves 13 = .ok (.istore 5, 2) := by decide +kernel
theorem dX9_leaves_15 : decode cX9_leaves 15 = .ok (.iconst 0, 1) := by decide +kernel
theorem dX9_leaves_16 : decode cX9_leaves 16 = .ok (.istore 6, 2) := by decide +kernel
theorem dX9_leaves_18 : decode cX9_leaves 18 = .ok (.iload 6, 2) := by decide +kernel
theorem dX9_leaves_20 : decode cX9_leaves 20 = .ok (.bipush 6, 2) := by decide +kernel
theorem dX9_leaves_22 : decode cX9_leaves 22 = .ok (.if_icmp .ge 49, 3) := by decide +kernel
theorem dX9_leaves_25 : decode cX9_leaves 25 = .ok (.iload 5, 2) := by decide +kernel
theorem dX9_leaves_27 : decode cX9_leaves 27 = .ok (.iload_n 1, 1) := by decide +kernel
theorem dX9_leaves_28 : decode cX9_leaves 28 = .ok (.iload 4, 2) := by decide +kernel
theorem dX9_leaves_30 : decode cX9_leaves 30 = .ok (.invokestatic 374, 3) := by decide +kernel
theorem dX9_leaves_33 : decode cX9_leaves 33 = .ok (.ifCond .eq 28, 3) := by decide +kernel
theorem dX9_leaves_36 : decode cX9_leaves 36 = .ok (.iload_n 1, 1) := by decide +kernel
theorem dX9_leaves_37 : decode cX9_leaves 37 = .ok (.iload 6, 2) := by decide +kernel
theorem dX9_leaves_39 : decode cX9_leaves 39 = .ok (.invokestatic 374, 3) := by decide +kernel
theorem dX9_leaves_42 : decode cX9_leaves 42 = .ok (.ifCond .eq 19, 3) := by decide +kernel
theorem dX9_leaves_45 : decode cX9_leaves 45 = .ok (.aload_n 0, 1) := by decide +kernel
theorem dX9_leaves_46 : decode cX9_leaves 46 = .ok (.iload 4, 2) := by decide +kernel
theorem dX9_leaves_48 : decode cX9_leaves 48 = .ok (.iload 6, 2) := by decide +kernel
theorem dX9_leaves_50 : decode cX9_leaves 50 = .ok (.iload_n 2, 1) := by decide +kernel
theorem dX9_leaves_51 : decode cX9_leaves 51 = .ok (.invokevirtual 398, 3) := by decide +kernel
theorem dX9_leaves_54 : decode cX9_leaves 54 = .ok (.ifCond .eq 7, 3) := by decide +kernel
theorem dX9_leaves_57 : decode cX9_leaves 57 = .ok (.iconst 1, 1) := by decide +kernel
theorem dX9_leaves_58 : decode cX9_leaves 58 = .ok (.goto 4, 3) := by decide +kernel
theorem dX9_leaves_61 : decode cX9_leaves 61 = .ok (.iconst 0, 1) := by decide +kernel
theorem dX9_leaves_62 : decode cX9_leaves 62 = .ok (.iadd, 1) := by decide +kernel
theorem dX9_leaves_63 : decode cX9_leaves 63 = .ok (.istore 5, 2) := by decide +kernel
theorem dX9_leaves_65 : decode cX9_leaves 65 = .ok (.iinc 6 1, 3) := by decide +kernel
theorem dX9_leaves_68 : decode cX9_leaves 68 = .ok (.goto (-50), 3) := by decide +kernel
theorem dX9_leaves_71 : decode cX9_leaves 71 = .ok (.iload 5, 2) := by decide +kernel
theorem dX9_leaves_73 : decode cX9_leaves 73 = .ok (.iload_n 3, 1) := by decide +kernel
theorem dX9_leaves_74 : decode cX9_leaves 74 = .ok (.if_icmp .le 6, 3) := by decide +kernel
theorem dX9_leaves_77 : decode cX9_leaves 77 = .ok (.iload 5, 2) := by decide +kernel
theorem dX9_leaves_79 : decode cX9_leaves 79 = .ok (.istore_n 3, 1) := by decide +kernel
theorem dX9_leaves_80 : decode cX9_leaves 80 = .ok (.iinc 4 1, 3) := by decide +kernel
theorem dX9_leaves_83 : decode cX9_leaves 83 = .ok (.goto (-78), 3) := by decide +kernel
theorem dX9_leaves_86 : decode cX9_leaves 86 = .ok (.iload_n 3, 1) := by decide +kernel
theorem dX9_leaves_87 : decode cX9_leaves 87 = .ok (.ireturn, 1) := by decide +kernel
def B_X9_leaves_0 (X : Nat × (Nat → Int32)) (J : Nat → zCf) (R : zRt) : zCf := oPI (zj (0)) (oISTORE 2 3 (oPI (zj (0)) (oISTORE 3 4 (J 5))))
set_option maxRecDepth 100000 in
theorem vb_X9_leaves_0 {X : Nat × (Nat → Int32)} {R : zRt} : ∀ ls st h, B_X9_leaves_0 X (zV X M_X9_leaves (zQm M_X9_leaves R) 0 0) R ls st h → zV X M_X9_leaves (zQm M_X9_leaves R) 0 0 0 ls st h := sd_iconst dX9_leaves_0 rfl (sd_istore_n dX9_leaves_1 rfl (Nat.le_of_ble_eq_true rfl) (Or.inl rfl) (sd_iconst dX9_leaves_2 rfl (sd_istore dX9_leaves_3 (Nat.le_of_ble_eq_true rfl) (Or.inl rfl) (fun _ _ _ h => h))))
def B_X9_leaves_5 (X : Nat × (Nat → Int32)) (J : Nat → zCf) (R : zRt) : zCf := oILOAD 4 (oPI (zj (6)) (oICGE (J 86) (oPI (zj (0)) (oISTORE 4 5 (oPI (zj (0)) (oISTORE 5 6 (J 18)))))))
set_option maxRecDepth 100000 in
theorem vb_X9_leaves_5 {X : Nat × (Nat → Int32)} {R : zRt} : ∀ ls st h, B_X9_leaves_5 X (zV X M_X9_leaves (zQm M_X9_leaves R) 0 0) R ls st h → zV X M_X9_leaves (zQm M_X9_leaves R) 0 0 5 ls st h := sd_iload dX9_leaves_5 (sd_bipush dX9_leaves_7 rfl (sd_icge dX9_leaves_9 rfl (fun _ _ _ h => h) (sd_iconst dX9_leaves_12 rfl (sd_istore dX9_leaves_13 (Nat.le_of_ble_eq_true rfl) (Or.inl rfl) (sd_iconst dX9_leaves_15 rfl (sd_istore dX9_leaves_16 (Nat.le_of_ble_eq_true rfl) (Or.inl rfl) (fun _ _ _ h => h)))))))
def B_X9_leaves_18 (X : Nat × (Nat → Int32)) (J : Nat → zCf) (R : zRt) : zCf := oILOAD 6 (oPI (zj (6)) (oICGE (J 71) (oILOAD 5 (oILOAD 1 (oILOAD 4 (oINS2 X M_X9_has (oIFEQ (J 61) (oILOAD 1 (oILOAD 6 (oINS2 X M_X9_has (oIFEQ (J 61) (oALOAD 0 (oILOAD 4 (oILOAD 6 (oILOAD 2 (oINV3 X M_X9_looksAlike 9 (oIFEQ (J 61) (oPI (zj (1)) (J 62)))))))))))))))))))
set_option maxRecDepth 100000 in
theorem vb_X9_leaves_18 {X : Nat × (Nat → Int32)} {R : zRt} : ∀ ls st h, B_X9_leaves_18 X (zV X M_X9_leaves (zQm M_X9_leaves R) 0 0) R ls st h → zV X M_X9_leaves (zQm M_X9_leaves R) 0 0 18 ls st h := sd_iload dX9_leaves_18 (sd_bipush dX9_leaves_20 rfl (sd_icge dX9_leaves_22 rfl (fun _ _ _ h => h) (sd_iload dX9_leaves_25 (sd_iload_n dX9_leaves_27 rfl (sd_iload dX9_leaves_28 (sd_ins2 dX9_leaves_30 ms_X9_has na_X9_has ml_RX9_374 ⟨⟨Nat.le_of_ble_eq_true rfl, Nat.le_of_ble_eq_true rfl⟩, ⟨Nat.le_of_ble_eq_true rfl, Nat.le_of_ble_eq_true rfl⟩⟩ (sd_ifeq dX9_leaves_33 rfl (fun _ _ _ h => h) (sd_iload_n dX9_leaves_36 rfl (sd_iload dX9_leaves_37 (sd_ins2 dX9_leaves_39 ms_X9_has na_X9_has ml_RX9_374 ⟨⟨Nat.le_of_ble_eq_true rfl, Nat.le_of_ble_eq_true rfl⟩, ⟨Nat.le_of_ble_eq_true rfl, Nat.le_of_ble_eq_true rfl⟩⟩ (sd_ifeq dX9_leaves_42 rfl (fun _ _ _ h => h) (sd_aload_n dX9_leaves_45 rfl (sd_iload dX9_leaves_46 (sd_iload dX9_leaves_48 (sd_iload_n dX9_leaves_50 rfl (sd_inv3 dX9_leaves_51 rfl mv_X9_looksAlike na_X9_looksAlike ml_RX9_398 ⟨⟨Nat.le_of_ble_eq_true rfl, Nat.le_of_ble_eq_true rfl⟩, ⟨Nat.le_of_ble_eq_true rfl, Nat.le_of_ble_eq_true rfl⟩⟩ (sd_ifeq dX9_leaves_54 rfl (fun _ _ _ h => h) (sd_iconst dX9_leaves_57 rfl (sd_goto dX9_leaves_58 rfl (fun _ _ _ h => h))))))))))))))))))))
def B_X9_leaves_61 (X : Nat × (Nat → Int32)) (J : Nat → zCf) (R : zRt) : zCf := oPI (zj (0)) (J 62)
set_option maxRecDepth 100000 in
theorem vb_X9_leaves_61 {X : Nat × (Nat → Int32)} {R : zRt} : ∀ ls st h, B_X9_leaves_61 X (zV X M_X9_leaves (zQm M_X9_leaves R) 0 0) R ls st h → zV X M_X9_leaves (zQm M_X9_leaves R) 0 0 61 ls st h := sd_iconst dX9_leaves_61 rfl (fun _ _ _ h => h)
def B_X9_leaves_62 (X : Nat × (Nat → Int32)) (J : Nat → zCf) (R : zRt) : zCf := oIADD (oISTORE 4 5 (oIINC 5 6 (zj (1)) (J 18)))
set_option maxRecDepth 100000 in
theorem vb_X9_leaves_62 {X : Nat × (Nat → Int32)} {R : zRt} : ∀ ls st h, B_X9_leaves_62 X (zV X M_X9_leaves (zQm M_X9_leaves R) 0 0) R ls st h → zV X M_X9_leaves (zQm M_X9_leaves R) 0 0 62 ls st h := sd_iadd dX9_leaves_62 (sd_istore dX9_leaves_63 (Nat.le_of_ble_eq_true rfl) (Or.inl rfl) (sd_iinc dX9_leaves_65 rfl (Nat.le_of_ble_eq_true rfl) (Or.inl rfl) (sd_goto dX9_leaves_68 rfl (fun _ _ _ h => h))))
def B_X9_leaves_71 (X : Nat × (Nat → Int32)) (J : Nat → zCf) (R : zRt) : zCf := oILOAD 5 (oILOAD 3 (oICLE (J 80) (oILOAD 5 (oISTORE 2 3 (J 80)))))
set_option maxRecDepth 100000 in
theorem vb_X9_leaves_71 {X : Nat × (Nat → Int32)} {R : zRt} : ∀ ls st h, B_X9_leaves_71 X (zV X M_X9_leaves (zQm M_X9_leaves R) 0 0) R ls st h → zV X M_X9_leaves (zQm M_X9_leaves R) 0 0 71 ls st h := sd_iload dX9_leaves_71 (sd_iload_n dX9_leaves_73 rfl (sd_icle dX9_leaves_74 rfl (fun _ _ _ h => h) (sd_iload dX9_leaves_77 (sd_istore_n dX9_leaves_79 rfl (Nat.le_of_ble_eq_true rfl) (Or.inl rfl) (fun _ _ _ h => h)))))
def B_X9_leaves_80 (X : Nat × (Nat → Int32)) (J : Nat → zCf) (R : zRt) : zCf := oIINC 3 4 (zj (1)) (J 5)
set_option maxRecDepth 100000 in
theorem vb_X9_leaves_80 {X : Nat × (Nat → Int32)} {R : zRt} : ∀ ls st h, B_X9_leaves_80 X (zV X M_X9_leaves (zQm M_X9_leaves R) 0 0) R ls st h → zV X M_X9_leaves (zQm M_X9_leaves R) 0 0 80 ls st h := sd_iinc dX9_leaves_80 rfl (Nat.le_of_ble_eq_true rfl) (Or.inl rfl) (sd_goto dX9_leaves_83 rfl (fun _ _ _ h => h))
def B_X9_leaves_86 (X : Nat × (Nat → Int32)) (J : Nat → zCf) (R : zRt) : zCf := oILOAD 3 (oIRET R)
set_option maxRecDepth 100000 in
theorem vb_X9_leaves_86 {X : Nat × (Nat → Int32)} {R : zRt} : ∀ ls st h, B_X9_leaves_86 X (zV X M_X9_leaves (zQm M_X9_leaves R) 0 0) R ls st h → zV X M_X9_leaves (zQm M_X9_leaves R) 0 0 86 ls st h := sd_iload_n dX9_leaves_86 rfl (sd_iret dX9_leaves_87 rfl (Nat.le_of_ble_eq_true rfl) (Nat.le_of_ble_eq_true rfl))
theorem dX9_looks_0 : decode cX9_looks 0 = .ok (.aload_n 0, 1) := by decide +kernel
theorem dX9_looks_1 : decode cX9_looks 1 = .ok (.invokevirtual 395, 3) := by decide +kernel
theorem dX9_looks_4 : decode cX9_looks 4 = .ok (.istore_n 1, 1) := by decide +kernel
theorem dX9_looks_5 : decode cX9_looks 5 = .ok (.bipush (-2), 2) := by decide +kernel
theorem dX9_looks_7 : decode cX9_looks 7 = .ok (.istore_n 2, 1) := by decide +kernel
theorem dX9_looks_8 : decode cX9_looks 8 = .ok (.aload_n 0, 1) := by decide +kernel
theorem dX9_looks_9 : decode cX9_looks 9 = .ok (.bipush (-2), 2) := by decide +kernel
theorem dX9_looks_11 : decode cX9_looks 11 = .ok (.putfield 401, 3) := by decide +kernel
theorem dX9_looks_14 : decode cX9_looks 14 = .ok (.iconst 0, 1) := by decide +kernel
theorem dX9_looks_15 : decode cX9_looks 15 = .ok (.istore_n 3, 1) := by decide +kernel
theorem dX9_looks_16 : decode cX9_looks 16 = .ok (.iload_n 3, 1) := by decide +kernel
theorem dX9_looks_17 : decode cX9_looks 17 = .ok (.bipush 12, 2) := by decide +kernel
theorem dX9_looks_19 : decode cX9_looks 19 = .ok (.if_icmp .ge 47, 3) := by decide +kernel
theorem dX9_looks_22 : decode cX9_looks 22 = .ok (.iload_n 1, 1) := by decide +kernel
theorem dX9_looks_23 : decode cX9_looks 23 = .ok (.ifCond .eq 43, 3) := by decide +kernel
theorem dX9_looks_26 : decode cX9_looks 26 = .ok (.aload_n 0, 1) := by decide +kernel
theorem dX9_looks_27 : decode cX9_looks 27 = .ok (.iload_n 1, 1) := by decide +kernel
theorem dX9_looks_28 : decode cX9_looks 28 = .ok (.iload_n 3, 1) := by decide +kernel
theorem dX9_looks_29 : decode cX9_looks 29 = .ok (.invokevirtual 404, 3) := by decide +kernel
theorem dX9_looks_32 : decode cX9_looks 32 = .ok (.istore 4, 2) := by decide +kernel
theorem dX9_looks_34 : decode cX9_looks 34 = .ok (.iload_n 2, 1) := by decide +kernel
theorem dX9_looks_35 : decode cX9_looks 35 = .ok (.bipush (-2), 2) := by decide +kernel
theorem dX9_looks_37 : decode cX9_looks 37 = .ok (.if_icmp .eq 15, 3) := by decide +kernel
theorem dX9_looks_40 : decode cX9_looks 40 = .ok (.iload 4, 2) := by decide +kernel
theorem dX9_looks_42 : decode cX9_looks 42 = .ok (.aload_n 0, 1) := by decide +kernel
theorem dX9_looks_43 : decode cX9_looks 43 = .ok (.getfield 401, 3) := by decide +kernel
theorem dX9_looks_46 : decode cX9_looks 46 = .ok (.if_icmp .lt 6, 3) := by decide +kernel
theorem dX9_looks_49 : decode cX9_looks 49 = .ok (.goto 11, 3) := by decide +kernel
theorem dX9_looks_52 : decode cX9_looks 52 = .ok (.iload_n 3, 1) := by decide +kernel
theorem dX9_looks_53 : decode cX9_looks 53 = .ok (.istore_n 2, 1) := by decide +kernel
theorem dX9_looks_54 : decode cX9_looks 54 = .ok (.aload_n 0, 1) := by decide +kernel
theorem dX9_looks_55 : decode cX9_looks 55 = .ok (.iload 4, 2) := by decide +kernel
theorem dX9_looks_57 : decode cX9_looks 57 = .ok (.putfield 401, 3) := by decide +kernel
theorem dX9_looks_60 : decode cX9_looks 60 = .ok (.iinc 3 1, 3) := by decide +kernel
theorem dX9_looks_63 : decode cX9_looks 63 = .ok (.goto (-47), 3) := by decide +kernel
theorem dX9_looks_66 : decode cX9_looks 66 = .ok (.iload_n 2, 1) := by decide +kernel
theorem dX9_looks_67 : decode cX9_looks 67 = .ok (.ireturn, 1) := by decide +kernel
def B_X9_looks_0 (X : Nat × (Nat → Int32)) (J : Nat → zCf) (R : zRt) : zCf := oALOAD 0 (oINV0 X M_X9_fitting 9 (oISTORE 0 1 (oPI (zj (-2)) (oISTORE 1 2 (oALOAD 0 (oPI (zj (-2)) (oPUTI 9 24 (oPI (zj (0)) (oISTORE 2 3 (J 16))))))))))
set_option maxRecDepth 100000 in
theorem vb_X9_looks_0 {X : Nat × (Nat → Int32)} {R : zRt} : ∀ ls st h, B_X9_looks_0 X (zV X M_X9_looks (zQm M_X9_looks R) 0 0) R ls st h → zV X M_X9_looks (zQm M_X9_looks R) 0 0 0 ls st h := sd_aload_n dX9_looks_0 rfl (sd_inv0 dX9_looks_1 rfl mv_X9_fitting na_X9_fitting ml_RX9_395 ⟨⟨Nat.le_of_ble_eq_true rfl, Nat.le_of_ble_eq_true rfl⟩, ⟨Nat.le_of_ble_eq_true rfl, Nat.le_of_ble_eq_true rfl⟩⟩ (sd_istore_n dX9_looks_4 rfl (Nat.le_of_ble_eq_true rfl) (Or.inl rfl) (sd_bipush dX9_looks_5 rfl (sd_istore_n dX9_looks_7 rfl (Nat.le_of_ble_eq_true rfl) (Or.inl rfl) (sd_aload_n dX9_looks_8 rfl (sd_bipush dX9_looks_9 rfl (sd_puti dX9_looks_11 zCl9 (Nat.le_of_ble_eq_true rfl) lk_RX9_401 rfl (Or.inl rfl) (sd_iconst dX9_looks_14 rfl (sd_istore_n dX9_looks_15 rfl (Nat.le_of_ble_eq_true rfl) (Or.inl rfl) (fun _ _ _ h => h))))))))))
def B_X9_looks_16 (X : Nat × (Nat → Int32)) (J : Nat → zCf) (R : zRt) : zCf := oILOAD 3 (oPI (zj (12)) (oICGE (J 66) (oILOAD 1 (oIFEQ (J 66) (oALOAD 0 (oILOAD 1 (oILOAD 3 (oINV2 X M_X9_leaves 9 (oISTORE 3 4 (oILOAD 2 (oPI (zj (-2)) (oICEQ (J 52) (oILOAD 4 (oALOAD 0 (oGETI 9 24 (oICLT (J 52) (J 60)))))))))))))))))
set_option maxRecDepth 100000 in
theorem vb_X9_looks_16 {X : Nat × (Nat → Int32)} {R : zRt} : ∀ ls st h, B_X9_looks_16 X (zV X M_X9_looks (zQm M_X9_looks R) 0 0) R ls st h → zV X M_X9_looks (zQm M_X9_looks R) 0 0 16 ls st h := sd_iload_n dX9_looks_16 rfl (sd_bipush dX9_looks_17 rfl (sd_icge dX9_looks_19 rfl (fun _ _ _ h => h) (sd_iload_n dX9_looks_22 rfl (sd_ifeq dX9_looks_23 rfl (fun _ _ _ h => h) (sd_aload_n dX9_looks_26 rfl (sd_iload_n dX9_looks_27 rfl (sd_iload_n dX9_looks_28 rfl (sd_inv2 dX9_looks_29 rfl mv_X9_leaves na_X9_leaves ml_RX9_404 ⟨⟨Nat.le_of_ble_eq_true rfl, Nat.le_of_ble_eq_true rfl⟩, ⟨Nat.le_of_ble_eq_true rfl, Nat.le_of_ble_eq_true rfl⟩⟩ (sd_istore dX9_looks_32 (Nat.le_of_ble_eq_true rfl) (Or.inl rfl) (sd_iload_n dX9_looks_34 rfl (sd_bipush dX9_looks_35 rfl (sd_iceq dX9_looks_37 rfl (fun _ _ _ h => h) (sd_iload dX9_looks_40 (sd_aload_n dX9_looks_42 rfl (sd_geti dX9_looks_43 zCl9 (Nat.le_of_ble_eq_true rfl) lk_RX9_401 (Or.inl rfl) (sd_iclt dX9_looks_46 rfl (fun _ _ _ h => h) (sd_goto dX9_looks_49 rfl (fun _ _ _ h => h))))))))))))))))))
def B_X9_looks_52 (X : Nat × (Nat → Int32)) (J : Nat → zCf) (R : zRt) : zCf := oILOAD 3 (oISTORE 1 2 (oALOAD 0 (oILOAD 4 (oPUTI 9 24 (J 60)))))
set_option maxRecDepth 100000 in
theorem vb_X9_looks_52 {X : Nat × (Nat → Int32)} {R : zRt} : ∀ ls st h, B_X9_looks_52 X (zV X M_X9_looks (zQm M_X9_looks R) 0 0) R ls st h → zV X M_X9_looks (zQm M_X9_looks R) 0 0 52 ls st h := sd_iload_n dX9_looks_52 rfl (sd_istore_n dX9_looks_53 rfl (Nat.le_of_ble_eq_true rfl) (Or.inl rfl) (sd_aload_n dX9_looks_54 rfl (sd_iload dX9_looks_55 (sd_puti dX9_looks_57 zCl9 (Nat.le_of_ble_eq_true rfl) lk_RX9_401 rfl (Or.inl rfl) (fun _ _ _ h => h)))))
def B_X9_looks_60 (X : Nat × (Nat → Int32)) (J : Nat → zCf) (R : zRt) : zCf := oIINC 2 3 (zj (1)) (J 16)
set_option maxRecDepth 100000 in
theorem vb_X9_looks_60 {X : Nat × (Nat → Int32)} {R : zRt} : ∀ ls st h, B_X9_looks_60 X (zV X M_X9_looks (zQm M_X9_looks R) 0 0) R ls st h → zV X M_X9_looks (zQm M_X9_looks R) 0 0 60 ls st h := sd_iinc dX9_looks_60 rfl (Nat.le_of_ble_eq_true rfl) (Or.inl rfl) (sd_goto dX9_looks_63 rfl (fun _ _ _ h => h))
def B_X9_looks_66 (X : Nat × (Nat → Int32)) (J : Nat → zCf) (R : zRt) : zCf := oILOAD 2 (oIRET R)
set_option maxRecDepth 100000 in
theorem vb_X9_looks_66 {X : Nat × (Nat → Int32)} {R : zRt} : ∀ ls st h, B_X9_looks_66 X (zV X M_X9_looks (zQm M_X9_looks R) 0 0) R ls st h → zV X M_X9_looks (zQm M_X9_looks R) 0 0 66 ls st h := sd_iload_n dX9_looks_66 rfl (sd_iret dX9_looks_67 rfl (Nat.le_of_ble_eq_true rfl) (Nat.le_of_ble_eq_true rfl))
theorem dX9_look_0 : decode cX9_look 0 = .ok (.aload_n 0, 1) := by decide +kernel
theorem dX9_look_1 : decode cX9_look 1 = .ok (.iconst 0, 1) := by decide +kernel
theorem dX9_look_2 : decode cX9_look 2 = .ok (.putfield 36, 3) := by decide +kernel
theorem dX9_look_5 : decode cX9_look 5 = .ok (.aload_n 0, 1) := by decide +kernel
theorem dX9_look_6 : decode cX9_look 6 = .ok (.getfield 289, 3) := by decide +kernel
theorem dX9_look_9 : decode cX9_look 9 = .ok (.ifnonnull 11, 3) := by decide +kernel
theorem dX9_look_12 : decode cX9_look 12 = .ok (.aload_n 0, 1) := by decide +kernel
theorem dX9_look_13 : decode cX9_look 13 = .ok (.iconst 1, 1) := by decide +kernel
theorem dX9_look_14 : decode cX9_look 14 = .ok (.invokevirtual 42, 3) := by decide +kernel
theorem dX9_look_17 : decode cX9_look 17 = .ok (.goto 11, 3) := by decide +kernel
theorem dX9_look_20 : decode cX9_look 20 = .ok (.aload_n 0, 1) := by decide +kernel
theorem dX9_look_21 : decode cX9_look 21 = .ok (.aload_n 0, 1) := by decide +kernel
theorem dX9_look_22 : decode cX9_look 22 = .ok (.invokevirtual 407, 3) := by decide +kernel
theorem dX9_look_25 : decode cX9_look 25 = .ok (.invokevirtual 46, 3) := by decide +kernel
theorem dX9_look_28 : decode cX9_look 28 = .ok (.ireturn, 1) := by decide +kernel
def B_X9_look_0 (X : Nat × (Nat → Int32)) (J : Nat → zCf) (R : zRt) : zCf := oALOAD 0 (oPI (zj (0)) (oPUTI 9 0 (oALOAD 0 (oGETR 9 3 (oIFNONNULL (J 20) (oALOAD 0 (oPI (zj (1)) (oINV1 X M_X9_refused 9 (J 28)))))))))
set_option maxRecDepth 100000 in
theorem vb_X9_look_0 {X : Nat × (Nat → Int32)} {R : zRt} : ∀ ls st h, B_X9_look_0 X (zV X M_X9_look (zQm M_X9_look R) 0 0) R ls st h → zV X M_X9_look (zQm M_X9_look R) 0 0 0 ls st h := sd_aload_n dX9_look_0 rfl (sd_iconst dX9_look_1 rfl (sd_puti dX9_look_2 zCl9 (Nat.le_of_ble_eq_true rfl) lk_RX9_36 rfl (Or.inl rfl) (sd_aload_n dX9_look_5 rfl (sd_getr dX9_look_6 zCl9 (Nat.le_of_ble_eq_true rfl) lk_RX9_289 (Or.inl ⟨_, rfl⟩) (sd_ifnonnull dX9_look_9 rfl (fun _ _ _ h => h) (sd_aload_n dX9_look_12 rfl (sd_iconst dX9_look_13 rfl (sd_inv1 dX9_look_14 rfl mv_X9_refused na_X9_refused ml_RX9_42 ⟨⟨Nat.le_of_ble_eq_true rfl, Nat.le_of_ble_eq_true rfl⟩, ⟨Nat.le_of_ble_eq_true rfl, Nat.le_of_ble_eq_true rfl⟩⟩ (sd_goto dX9_look_17 rfl (fun _ _ _ h => h))))))))))
def B_X9_look_20 (X : Nat × (Nat → Int32)) (J : Nat → zCf) (R : zRt) : zCf := oALOAD 0 (oALOAD 0 (oINV0 X M_X9_looks 9 (oINV1 X M_X9_good 9 (J 28))))
set_option maxRecDepth 100000 in
theorem vb_X9_look_20 {X : Nat × (Nat → Int32)} {R : zRt} : ∀ ls st h, B_X9_look_20 X (zV X M_X9_look (zQm M_X9_look R) 0 0) R ls st h → zV X M_X9_look (zQm M_X9_look R) 0 0 20 ls st h := sd_aload_n dX9_look_20 rfl (sd_aload_n dX9_look_21 rfl (sd_inv0 dX9_look_22 rfl mv_X9_looks na_X9_looks ml_RX9_407 ⟨⟨Nat.le_of_ble_eq_true rfl, Nat.le_of_ble_eq_true rfl⟩, ⟨Nat.le_of_ble_eq_true rfl, Nat.le_of_ble_eq_true rfl⟩⟩ (sd_inv1 dX9_look_25 rfl mv_X9_good na_X9_good ml_RX9_46 ⟨⟨Nat.le_of_ble_eq_true rfl, Nat.le_of_ble_eq_true rfl⟩, ⟨Nat.le_of_ble_eq_true rfl, Nat.le_of_ble_eq_true rfl⟩⟩ (fun _ _ _ h => h))))
def B_X9_look_28 (X : Nat × (Nat → Int32)) (J : Nat → zCf) (R : zRt) : zCf := oIRET R
set_option maxRecDepth 100000 in
theorem vb_X9_look_28 {X : Nat × (Nat → Int32)} {R : zRt} : ∀ ls st h, B_X9_look_28 X (zV X M_X9_look (zQm M_X9_look R) 0 0) R ls st h → zV X M_X9_look (zQm M_X9_look R) 0 0 28 ls st h := sd_iret dX9_look_28 rfl (Nat.le_of_ble_eq_true rfl) (Nat.le_of_ble_eq_true rfl)
theorem dX9_lookLeaves_0 : decode cX9_lookLeaves 0 = .ok (.aload_n 0, 1) := by decide +kernel
theorem dX9_lookLeaves_1 : decode cX9_lookLeaves 1 = .ok (.iconst 0, 1) := by decide +kernel
theorem dX9_lookLeaves_2 : decode cX9_lookLeaves 2 = .ok (.putfield 36, 3) := by decide +kernel
theorem dX9_lookLeaves_5 : decode cX9_lookLeaves 5 = .ok (.aload_n 0, 1) := by decide +kernel
theorem dX9_lookLeaves_6 : decode cX9_lookLeaves 6 = .ok (.getfield 289, 3) := by decide +kernel
theorem dX9_lookLeaves_9 : decode cX9_lookLeaves 9 = .ok (.ifnonnull 9, 3) := by decide +kernel
theorem dX9_lookLeaves_12 : decode cX9_lookLeaves 12 = .ok (.aload_n 0, 1) := by decide +kernel
theorem dX9_lookLeaves_13 : decode cX9_lookLeaves 13 = .ok (.iconst 1, 1) := by decide +kernel
theorem dX9_lookLeaves_14 : decode cX9_lookLeaves 14 = .ok (.invokevirtual 42, 3) := by decide +kernel
theorem dX9_lookLeaves_17 : decode cX9_lookLeaves 17 = .ok (.ireturn, 1) := by decide +kernel
theorem dX9_lookLeaves_18 : decode cX9_lookLeaves 18 = .ok (.aload_n 0, 1) := by decide +kernel
theorem dX9_lookLeaves_19 : decode cX9_lookLeaves 19 = .ok (.invokevirtual 407, 3) := by decide +kernel
theorem dX9_lookLeaves_22 : decode cX9_lookLeaves 22 = .ok (.pop, 1) := by decide +kernel
theorem dX9_lookLeaves_23 : decode cX9_lookLeaves 23 = .ok (.aload_n 0, 1) := by decide +kernel
theorem dX9_lookLeaves_24 : decode cX9_lookLeaves 24 = .ok (.aload_n 0, 1) := by decide +kernel
theorem dX9_lookLeaves_25 : decode cX9_lookLeaves 25 = .ok (.getfield 401, 3) := by decide +kernel
theorem dX9_lookLeaves_28 : decode cX9_lookLeaves 28 = .ok (.invokevirtual 46, 3) := by decide +kernel
theorem dX9_lookLeaves_31 : decode cX9_lookLeaves 31 = .ok (.ireturn, 1) := by decide +kernel
def B_X9_lookLeaves_0 (X : Nat × (Nat → Int32)) (J : Nat → zCf) (R : zRt) : zCf := oALOAD 0 (oPI (zj (0)) (oPUTI 9 0 (oALOAD 0 (oGETR 9 3 (oIFNONNULL (J 18) (oALOAD 0 (oPI (zj (1)) (oINV1 X M_X9_refused 9 (oIRET R)))))))))
set_option maxRecDepth 100000 in
theorem vb_X9_lookLeaves_0 {X : Nat × (Nat → Int32)} {R : zRt} : ∀ ls st h, B_X9_lookLeaves_0 X (zV X M_X9_lookLeaves (zQm M_X9_lookLeaves R) 0 0) R ls st h → zV X M_X9_lookLeaves (zQm M_X9_lookLeaves R) 0 0 0 ls st h := sd_aload_n dX9_lookLeaves_0 rfl (sd_iconst dX9_lookLeaves_1 rfl (sd_puti dX9_lookLeaves_2 zCl9 (Nat.le_of_ble_eq_true rfl) lk_RX9_36 rfl (Or.inl rfl) (sd_aload_n dX9_lookLeaves_5 rfl (sd_getr dX9_lookLeaves_6 zCl9 (Nat.le_of_ble_eq_true rfl) lk_RX9_289 (Or.inl ⟨_, rfl⟩) (sd_ifnonnull dX9_lookLeaves_9 rfl (fun _ _ _ h => h) (sd_aload_n dX9_lookLeaves_12 rfl (sd_iconst dX9_lookLeaves_13 rfl (sd_inv1 dX9_lookLeaves_14 rfl mv_X9_refused na_X9_refused ml_RX9_42 ⟨⟨Nat.le_of_ble_eq_true rfl, Nat.le_of_ble_eq_true rfl⟩, ⟨Nat.le_of_ble_eq_true rfl, Nat.le_of_ble_eq_true rfl⟩⟩ (sd_iret dX9_lookLeaves_17 rfl (Nat.le_of_ble_eq_true rfl) (Nat.le_of_ble_eq_true rfl))))))))))
def B_X9_lookLeaves_18 (X : Nat × (Nat → Int32)) (J : Nat → zCf) (R : zRt) : zCf := oALOAD 0 (oINV0 X M_X9_looks 9 (oPOP (oALOAD 0 (oALOAD 0 (oGETI 9 24 (oINV1 X M_X9_good 9 (oIRET R)))))))
set_option maxRecDepth 100000 in
theorem vb_X9_lookLeaves_18 {X : Nat × (Nat → Int32)} {R : zRt} : ∀ ls st h, B_X9_lookLeaves_18 X (zV X M_X9_lookLeaves (zQm M_X9_lookLeaves R) 0 0) R ls st h → zV X M_X9_lookLeaves (zQm M_X9_lookLeaves R) 0 0 18 ls st h := sd_aload_n dX9_lookLeaves_18 rfl (sd_inv0 dX9_lookLeaves_19 rfl mv_X9_looks na_X9_looks ml_RX9_407 ⟨⟨Nat.le_of_ble_eq_true rfl, Nat.le_of_ble_eq_true rfl⟩, ⟨Nat.le_of_ble_eq_true rfl, Nat.le_of_ble_eq_true rfl⟩⟩ (sd_pop dX9_lookLeaves_22 (sd_aload_n dX9_lookLeaves_23 rfl (sd_aload_n dX9_lookLeaves_24 rfl (sd_geti dX9_lookLeaves_25 zCl9 (Nat.le_of_ble_eq_true rfl) lk_RX9_401 (Or.inl rfl) (sd_inv1 dX9_lookLeaves_28 rfl mv_X9_good na_X9_good ml_RX9_46 ⟨⟨Nat.le_of_ble_eq_true rfl, Nat.le_of_ble_eq_true rfl⟩, ⟨Nat.le_of_ble_eq_true rfl, Nat.le_of_ble_eq_true rfl⟩⟩ (sd_iret dX9_lookLeaves_31 rfl (Nat.le_of_ble_eq_true rfl) (Nat.le_of_ble_eq_true rfl))))))))
theorem dX9_judge_0 : decode cX9_judge 0 = .ok (.aload_n 0, 1) := by decide +kernel
theorem dX9_judge_1 : decode cX9_judge 1 = .ok (.iconst 0, 1) := by decide +kernel
theorem dX9_judge_2 : decode cX9_judge 2 = .ok (.putfield 36, 3) := by decide +kernel
theorem dX9_judge_5 : decode cX9_judge 5 = .ok (.aload_n 0, 1) := by decide +kernel
theorem dX9_judge_6 : decode cX9_judge 6 = .ok (.getfield 289, 3) := by decide +kernel
theorem dX9_judge_9 : decode cX9_judge 9 = .ok (.ifnonnull 9, 3) := by decide +kernel
theorem dX9_judge_12 : decode cX9_judge 12 = .ok (.aload_n 0, 1) := by decide +kernel
theorem dX9_judge_13 : decode cX9_judge 13 = .ok (.iconst 1, 1) := by decide +kernel
theorem dX9_judge_14 : decode cX9_judge 14 = .ok (.invokevirtual 42, 3) := by decide +kernel
theorem dX9_judge_17 : decode cX9_judge 17 = .ok (.ireturn, 1) := by decide +kernel
theorem dX9_judge_18 : decode cX9_judge 18 = .ok (.iload_n 1, 1) := by decide +kernel
theorem dX9_judge_19 : decode cX9_judge 19 = .ok (.iconst 0, 1) := by decide +kernel
theorem dX9_judge_20 : decode cX9_judge 20 = .ok (.iconst 5, 1) := by decide +kernel
theorem dX9_judge_21 : decode cX9_judge 21 = .ok (.invokestatic 115, 3) := by decide +kernel
theorem dX9_judge_24 : decode cX9_judge 24 = .ok (.ifCond .eq 15, 3) := by decide +kernel
theorem dX9_judge_27 : decode cX9_judge 27 = .ok (.aload_n 0, 1) := by decide +kernel
theorem dX9_judge_28 : decode cX9_judge 28 = .ok (.aload_n 0, 1) := by decide +kernel
theorem dX9_judge_29 : decode cX9_judge 29 = .ok (.iload_n 1, 1) := by decide +kernel
theorem dX9_judge_30 : decode cX9_judge 30 = .ok (.invokevirtual 392, 3) := by decide +kernel
theorem dX9_judge_33 : decode cX9_judge 33 = .ok (.invokevirtual 46, 3) := by decide +kernel
theorem dX9_judge_36 : decode cX9_judge 36 = .ok (.goto 8, 3) := by decide +kernel
theorem dX9_judge_39 : decode cX9_judge 39 = .ok (.aload_n 0, 1) := by decide +kernel
theorem dX9_judge_40 : decode cX9_judge 40 = .ok (.iconst 2, 1) := by decide +kernel
theorem dX9_judge_41 : decode cX9_judge 41 = .ok (.invokevirtual 42, 3) := by decide +kernel
theorem dX9_judge_44 : decode cX9_judge 44 = .ok (.ireturn, 1) := by decide +kernel
def B_X9_judge_0 (X : Nat × (Nat → Int32)) (J : Nat → zCf) (R : zRt) : zCf := oALOAD 0 (oPI (zj (0)) (oPUTI 9 0 (oALOAD 0 (oGETR 9 3 (oIFNONNULL (J 18) (oALOAD 0 (oPI (zj (1)) (oINV1 X M_X9_refused 9 (oIRET R)))))))))
set_option maxRecDepth 100000 in
theorem vb_X9_judge_0 {X : Nat × (Nat → Int32)} {R : zRt} : ∀ ls st h, B_X9_judge_0 X (zV X M_X9_judge (zQm M_X9_judge R) 0 0) R ls st h → zV X M_X9_judge (zQm M_X9_judge R) 0 0 0 ls st h := sd_aload_n dX9_judge_0 rfl (sd_iconst dX9_judge_1 rfl (sd_puti dX9_judge_2 zCl9 (Nat.le_of_ble_eq_true rfl) lk_RX9_36 rfl (Or.inl rfl) (sd_aload_n dX9_judge_5 rfl (sd_getr dX9_judge_6 zCl9 (Nat.le_of_ble_eq_true rfl) lk_RX9_289 (Or.inl ⟨_, rfl⟩) (sd_ifnonnull dX9_judge_9 rfl (fun _ _ _ h => h) (sd_aload_n dX9_judge_12 rfl (sd_iconst dX9_judge_13 rfl (sd_inv1 dX9_judge_14 rfl mv_X9_refused na_X9_refused ml_RX9_42 ⟨⟨Nat.le_of_ble_eq_true rfl, Nat.le_of_ble_eq_true rfl⟩, ⟨Nat.le_of_ble_eq_true rfl, Nat.le_of_ble_eq_true rfl⟩⟩ (sd_iret dX9_judge_17 rfl (Nat.le_of_ble_eq_true rfl) (Nat.le_of_ble_eq_true rfl))))))))))
def B_X9_judge_18 (X : Nat × (Nat → Int32)) (J : Nat → zCf) (R : zRt) : zCf := oILOAD 1 (oPI (zj (0)) (oPI (zj (5)) (oINS3 X M_X9_in (oIFEQ (J 39) (oALOAD 0 (oALOAD 0 (oILOAD 1 (oINV1 X M_X9_wrongMet 9 (oINV1 X M_X9_good 9 (J 44))))))))))
set_option maxRecDepth 100000 in
theorem vb_X9_judge_18 {X : Nat × (Nat → Int32)} {R : zRt} : ∀ ls st h, B_X9_judge_18 X (zV X M_X9_judge (zQm M_X9_judge R) 0 0) R ls st h → zV X M_X9_judge (zQm M_X9_judge R) 0 0 18 ls st h := sd_iload_n dX9_judge_18 rfl (sd_iconst dX9_judge_19 rfl (sd_iconst dX9_judge_20 rfl (sd_ins3 dX9_judge_21 ms_X9_in na_X9_in ml_RX9_115 ⟨⟨Nat.le_of_ble_eq_true rfl, Nat.le_of_ble_eq_true rfl⟩, ⟨Nat.le_of_ble_eq_true rfl, Nat.le_of_ble_eq_true rfl⟩⟩ (sd_ifeq dX9_judge_24 rfl (fun _ _ _ h => h) (sd_aload_n dX9_judge_27 rfl (sd_aload_n dX9_judge_28 rfl (sd_iload_n dX9_judge_29 rfl (sd_inv1 dX9_judge_30 rfl mv_X9_wrongMet na_X9_wrongMet ml_RX9_392 ⟨⟨Nat.le_of_ble_eq_true rfl, Nat.le_of_ble_eq_true rfl⟩, ⟨Nat.le_of_ble_eq_true rfl, Nat.le_of_ble_eq_true rfl⟩⟩ (sd_inv1 dX9_judge_33 rfl mv_X9_good na_X9_good ml_RX9_46 ⟨⟨Nat.le_of_ble_eq_true rfl, Nat.le_of_ble_eq_true rfl⟩, ⟨Nat.le_of_ble_eq_true rfl, Nat.le_of_ble_eq_true rfl⟩⟩ (sd_goto dX9_judge_36 rfl (fun _ _ _ h => h)))))))))))
def B_X9_judge_39 (X : Nat × (Nat → Int32)) (J : Nat → zCf) (R : zRt) : zCf := oALOAD 0 (oPI (zj (2)) (oINV1 X M_X9_refused 9 (J 44)))
set_option maxRecDepth 100000 in
theorem vb_X9_judge_39 {X : Nat × (Nat → Int32)} {R : zRt} : ∀ ls st h, B_X9_judge_39 X (zV X M_X9_judge (zQm M_X9_judge R) 0 0) R ls st h → zV X M_X9_judge (zQm M_X9_judge R) 0 0 39 ls st h := sd_aload_n dX9_judge_39 rfl (sd_iconst dX9_judge_40 rfl (sd_inv1 dX9_judge_41 rfl mv_X9_refused na_X9_refused ml_RX9_42 ⟨⟨Nat.le_of_ble_eq_true rfl, Nat.le_of_ble_eq_true rfl⟩, ⟨Nat.le_of_ble_eq_true rfl, Nat.le_of_ble_eq_true rfl⟩⟩ (fun _ _ _ h => h)))
def B_X9_judge_44 (X : Nat × (Nat → Int32)) (J : Nat → zCf) (R : zRt) : zCf := oIRET R
set_option maxRecDepth 100000 in
theorem vb_X9_judge_44 {X : Nat × (Nat → Int32)} {R : zRt} : ∀ ls st h, B_X9_judge_44 X (zV X M_X9_judge (zQm M_X9_judge R) 0 0) R ls st h → zV X M_X9_judge (zQm M_X9_judge R) 0 0 44 ls st h := sd_iret dX9_judge_44 rfl (Nat.le_of_ble_eq_true rfl) (Nat.le_of_ble_eq_true rfl)
theorem dX9_power_0 : decode cX9_power 0 = .ok (.lconst 1, 1) := by decide +kernel
theorem dX9_power_1 : decode cX9_power 1 = .ok (.lstore_n 3, 1) := by decide +kernel
theorem dX9_power_2 : decode cX9_power 2 = .ok (.iconst 0, 1) := by decide +kernel
theorem dX9_power_3 : decode cX9_power 3 = .ok (.istore 5, 2) := by decide +kernel
theorem dX9_power_5 : decode cX9_power 5 = .ok (.iload 5, 2) := by decide +kernel
theorem dX9_power_7 : decode cX9_power 7 = .ok (.iload_n 2, 1) := by decide +kernel
theorem dX9_power_8 : decode cX9_power 8 = .ok (.if_icmp .ge 13, 3) := by decide +kernel
theorem dX9_power_11 : decode cX9_power 11 = .ok (.lload_n 3, 1) := by decide +kernel
theorem dX9_power_12 : decode cX9_power 12 = .ok (.lload_n 0, 1) := by decide +kernel
theorem dX9_power_13 : decode cX9_power 13 = .ok (.lmul, 1) := by decide +kernel
theorem dX9_power_14 : decode cX9_power 14 = .ok (.lstore_n 3, 1) := by decide +kernel
theorem dX9_power_15 : decode cX9_power 15 = .ok (.iinc 5 1, 3) := by decide +kernel
theorem dX9_power_18 : decode cX9_power 18 = .ok (.goto (-13), 3) := by decide +kernel
theorem dX9_power_21 : decode cX9_power 21 = .ok (.lload_n 3, 1) := by decide +kernel
theorem dX9_power_22 : decode cX9_power 22 = .ok (.lreturn, 1) := by decide +kernel
def B_X9_power_0 (X : Nat × (Nat → Int32)) (J : Nat → zCf) (R : zRt) : zCf := oPL (zk (1)) (oLSTORE 2 3 (oPI (zj (0)) (oISTORE 4 5 (J 5))))
set_option maxRecDepth 100000 in
theorem vb_X9_power_0 {X : Nat × (Nat → Int32)} {R : zRt} : ∀ ls st h, B_X9_power_0 X (zV X M_X9_power (zQm M_X9_power R) 0 0) R ls st h → zV X M_X9_power (zQm M_X9_power R) 0 0 0 ls st h := sd_lconst dX9_power_0 rfl (sd_lstore_n dX9_power_1 rfl (Nat.le_of_ble_eq_true rfl) (Or.inl rfl) (sd_iconst dX9_power_2 rfl (sd_istore dX9_power_3 (Nat.le_of_ble_eq_true rfl) (Or.inl rfl) (fun _ _ _ h => h))))
def B_X9_power_5 (X : Nat × (Nat → Int32)) (J : Nat → zCf) (R : zRt) : zCf := oILOAD 5 (oILOAD 2 (oICGE (J 21) (oLLOAD 3 (oLLOAD 0 (oLMUL (oLSTORE 2 3 (oIINC 4 5 (zj (1)) (J 5))))))))
set_option maxRecDepth 100000 in
theorem vb_X9_power_5 {X : Nat × (Nat → Int32)} {R : zRt} : ∀ ls st h, B_X9_power_5 X (zV X M_X9_power (zQm M_X9_power R) 0 0) R ls st h → zV X M_X9_power (zQm M_X9_power R) 0 0 5 ls st h := sd_iload dX9_power_5 (sd_iload_n dX9_power_7 rfl (sd_icge dX9_power_8 rfl (fun _ _ _ h => h) (sd_lload_n dX9_power_11 rfl (sd_lload_n dX9_power_12 rfl (sd_lmul dX9_power_13 (sd_lstore_n dX9_power_14 rfl (Nat.le_of_ble_eq_true rfl) (Or.inl rfl) (sd_iinc dX9_power_15 rfl (Nat.le_of_ble_eq_true rfl) (Or.inl rfl) (sd_goto dX9_power_18 rfl (fun _ _ _ h => h)))))))))
def B_X9_power_21 (X : Nat × (Nat → Int32)) (J : Nat → zCf) (R : zRt) : zCf := oLLOAD 3 (oLRET R)
set_option maxRecDepth 100000 in
theorem vb_X9_power_21 {X : Nat × (Nat → Int32)} {R : zRt} : ∀ ls st h, B_X9_power_21 X (zV X M_X9_power (zQm M_X9_power R) 0 0) R ls st h → zV X M_X9_power (zQm M_X9_power R) 0 0 21 ls st h := sd_lload_n dX9_power_21 rfl (sd_lret dX9_power_22 rfl (Nat.le_of_ble_eq_true rfl) (Nat.le_of_ble_eq_true rfl))
theorem dX9_rollsOf_0 : decode cX9_rollsOf 0 = .ok (.lconst 1, 1) := by decide +kernel
theorem dX9_rollsOf_1 : decode cX9_rollsOf 1 = .ok (.lstore_n 3, 1) := by decide +kernel
theorem dX9_rollsOf_2 : decode cX9_rollsOf 2 = .ok (.iconst 0, 1) := by decide +kernel
theorem dX9_rollsOf_3 : decode cX9_rollsOf 3 = .ok (.istore 5, 2) := by decide +kernel
theorem dX9_rollsOf_5 : decode cX9_rollsOf 5 = .ok (.iload 5, 2) := by decide +kernel
theorem dX9_rollsOf_7 : decode cX9_rollsOf 7 = .ok (.iload_n 2, 1) := by decide +kernel
theorem dX9_rollsOf_8 : decode cX9_rollsOf 8 = .ok (.if_icmp .ge 23, 3) := by decide +kernel
theorem dX9_rollsOf_11 : decode cX9_rollsOf 11 = .ok (.lload_n 3, 1) := by decide +kernel
theorem dX9_rollsOf_12 : decode cX9_rollsOf 12 = .ok (.iload_n 1, 1) := by decide +kernel
theorem dX9_rollsOf_13 : decode cX9_rollsOf 13 = .ok (.iload 5, 2) := by decide +kernel
theorem dX9_rollsOf_15 : decode cX9_rollsOf 15 = .ok (.isub, 1) := by decide +kernel
theorem dX9_rollsOf_16 : decode cX9_rollsOf 16 = .ok (.i2l, 1) := by decide +kernel
theorem dX9_rollsOf_17 : decode cX9_rollsOf 17 = .ok (.lmul, 1) := by decide +kernel
theorem dX9_rollsOf_18 : decode cX9_rollsOf 18 = .ok (.iload 5, 2) := by decide +kernel
theorem dX9_rollsOf_20 : decode cX9_rollsOf 20 = .ok (.iconst 1, 1) := by decide +kernel
theorem dX9_rollsOf_21 : decode cX9_rollsOf 21 = .ok (.iadd, 1) := by decide +kernel
theorem dX9_rollsOf_22 : decode cX9_rollsOf 22 = .ok (.i2l, 1) := by decide +kernel
theorem dX9_rollsOf_23 : decode cX9_rollsOf 23 = .ok (.ldiv, 1) := by decide +kernel
theorem dX9_rollsOf_24 : decode cX9_rollsOf 24 = .ok (.lstore_n 3, 1) := by decide +kernel
theorem dX9_rollsOf_25 : decode cX9_rollsOf 25 = .ok (.iinc 5 1, 3) := by decide +kernel
theorem dX9_rollsOf_28 : decode cX9_rollsOf 28 = .ok (.goto (-23), 3) := by decide +kernel
theorem dX9_rollsOf_31 : decode cX9_rollsOf 31 = .ok (.lload_n 3, 1) := by decide +kernel
theorem dX9_rollsOf_32 : decode cX9_rollsOf 32 = .ok (.aload_n 0, 1) := by decide +kernel
theorem dX9_rollsOf_33 : decode cX9_rollsOf 33 = .ok (.getfield 289, 3) := by decide +kernel
theorem dX9_rollsOf_36 : decode cX9_rollsOf 36 = .ok (.getfield 148, 3) := by decide +kernel
theorem dX9_rollsOf_39 : decode cX9_rollsOf 39 = .ok (.i2l, 1) := by decide +kernel
theorem dX9_rollsOf_40 : decode cX9_rollsOf 40 = .ok (.iload_n 2, 1) := by decide +kernel
theorem dX9_rollsOf_41 : decode cX9_rollsOf 41 = .ok (.invokestatic 410, 3) := by decide +kernel
theorem dX9_rollsOf_44 : decode cX9_rollsOf 44 = .ok (.lmul, 1) := by decide +kernel
theorem dX9_rollsOf_45 : decode cX9_rollsOf 45 = .ok (.ldc2_w 414, 3) := by decide +kernel
theorem dX9_rollsOf_48 : decode cX9_rollsOf 48 = .ok (.aload_n 0, 1) := by decide +kernel
theorem dX9_rollsOf_49 : decode cX9_rollsOf 49 = .ok (.getfield 289, 3) := by decide +kernel
theorem dX9_rollsOf_52 : decode cX9_rollsOf 52 = .ok (.getfield 148, 3) := by decide +kernel
theorem dX9_rollsOf_55 : decode cX9_rollsOf 55 = .ok (.i2l, 1) := by decide +kernel
theorem dX9_rollsOf_56 : decode cX9_rollsOf 56 = .ok (.lsub, 1) := by decide +kernel
theorem dX9_rollsOf_57 : decode cX9_rollsOf 57 = .ok (.iload_n 1, 1) := by decide +kernel
theorem dX9_rollsOf_58 : decode cX9_rollsOf 58 = .ok (.iload_n 2, 1) := by decide +kernel
theorem dX9_rollsOf_59 : decode cX9_rollsOf 59 = .ok (.isub, 1) := by decide +kernel
theorem dX9_rollsOf_60 : decode cX9_rollsOf 60 = .ok (.invokestatic 410, 3) := by decide +kernel
theorem dX9_rollsOf_63 : decode cX9_rollsOf 63 = .ok (.lmul, 1) := by decide +kernel
theorem dX9_rollsOf_64 : decode cX9_rollsOf 64 = .ok (.lreturn, 1) := by decide +kernel
def B_X9_rollsOf_0 (X : Nat × (Nat → Int32)) (J : Nat → zCf) (R : zRt) : zCf := oPL (zk (1)) (oLSTORE 2 3 (oPI (zj (0)) (oISTORE 4 5 (J 5))))
set_option maxRecDepth 100000 in
theorem vb_X9_rollsOf_0 {X : Nat × (Nat → Int32)} {R : zRt} : ∀ ls st h, B_X9_rollsOf_0 X (zV X M_X9_rollsOf (zQm M_X9_rollsOf R) 0 0) R ls st h → zV X M_X9_rollsOf (zQm M_X9_rollsOf R) 0 0 0 ls st h := sd_lconst dX9_rollsOf_0 rfl (sd_lstore_n dX9_rollsOf_1 rfl (Nat.le_of_ble_eq_true rfl) (Or.inl rfl) (sd_iconst dX9_rollsOf_2 rfl (sd_istore dX9_rollsOf_3 (Nat.le_of_ble_eq_true rfl) (Or.inl rfl) (fun _ _ _ h => h))))
def B_X9_rollsOf_5 (X : Nat × (Nat → Int32)) (J : Nat → zCf) (R : zRt) : zCf := oILOAD 5 (oILOAD 2 (oICGE (J 31) (oLLOAD 3 (oILOAD 1 (oILOAD 5 (oISUB (oI2L (oLMUL (oILOAD 5 (oPI (zj (1)) (oIADD (oI2L (oLDIV (oLSTORE 2 3 (oIINC 4 5 (zj (1)) (J 5))))))))))))))))
set_option maxRecDepth 100000 in
theorem vb_X9_rollsOf_5 {X : Nat × (Nat → Int32)} {R : zRt} : ∀ ls st h, B_X9_rollsOf_5 X (zV X M_X9_rollsOf (zQm M_X9_rollsOf R) 0 0) R ls st h → zV X M_X9_rollsOf (zQm M_X9_rollsOf R) 0 0 5 ls st h := sd_iload dX9_rollsOf_5 (sd_iload_n dX9_rollsOf_7 rfl (sd_icge dX9_rollsOf_8 rfl (fun _ _ _ h => h) (sd_lload_n dX9_rollsOf_11 rfl (sd_iload_n dX9_rollsOf_12 rfl (sd_iload dX9_rollsOf_13 (sd_isub dX9_rollsOf_15 (sd_i2l dX9_rollsOf_16 (sd_lmul dX9_rollsOf_17 (sd_iload dX9_rollsOf_18 (sd_iconst dX9_rollsOf_20 rfl (sd_iadd dX9_rollsOf_21 (sd_i2l dX9_rollsOf_22 (sd_ldiv dX9_rollsOf_23 (sd_lstore_n dX9_rollsOf_24 rfl (Nat.le_of_ble_eq_true rfl) (Or.inl rfl) (sd_iinc dX9_rollsOf_25 rfl (Nat.le_of_ble_eq_true rfl) (Or.inl rfl) (sd_goto dX9_rollsOf_28 rfl (fun _ _ _ h => h)))))))))))))))))
def B_X9_rollsOf_31 (X : Nat × (Nat → Int32)) (J : Nat → zCf) (R : zRt) : zCf := oLLOAD 3 (oALOAD 0 (oGETR 9 3 (oGETI 8 0 (oI2L (oILOAD 2 (oINS2 X M_X9_power (oLMUL (oPL (zk (100)) (oALOAD 0 (oGETR 9 3 (oGETI 8 0 (oI2L (oLSUB (oILOAD 1 (oILOAD 2 (oISUB (oINS2 X M_X9_power (oLMUL (oLRET R)))))))))))))))))))
set_option maxRecDepth 100000 in
theorem vb_X9_rollsOf_31 {X : Nat × (Nat → Int32)} {R : zRt} : ∀ ls st h, B_X9_rollsOf_31 X (zV X M_X9_rollsOf (zQm M_X9_rollsOf R) 0 0) R ls st h → zV X M_X9_rollsOf (zQm M_X9_rollsOf R) 0 0 31 ls st h := sd_lload_n dX9_rollsOf_31 rfl (sd_aload_n dX9_rollsOf_32 rfl (sd_getr dX9_rollsOf_33 zCl9 (Nat.le_of_ble_eq_true rfl) lk_RX9_289 (Or.inl ⟨_, rfl⟩) (sd_geti dX9_rollsOf_36 zCl8 (Nat.le_of_ble_eq_true rfl) lk_RX9_148 (Or.inl rfl) (sd_i2l dX9_rollsOf_39 (sd_iload_n dX9_rollsOf_40 rfl (sd_ins2 dX9_rollsOf_41 ms_X9_power na_X9_power ml_RX9_410 ⟨⟨Nat.le_of_ble_eq_true rfl, Nat.le_of_ble_eq_true rfl⟩, ⟨Nat.le_of_ble_eq_true rfl, Nat.le_of_ble_eq_true rfl⟩⟩ (sd_lmul dX9_rollsOf_44 (sd_ldc2 dX9_rollsOf_45 (zmt (zt7 (i := 238) rfl) rfl) (sd_aload_n dX9_rollsOf_48 rfl (sd_getr dX9_rollsOf_49 zCl9 (Nat.le_of_ble_eq_true rfl) lk_RX9_289 (Or.inl ⟨_, rfl⟩) (sd_geti dX9_rollsOf_52 zCl8 (Nat.le_of_ble_eq_true rfl) lk_RX9_148 (Or.inl rfl) (sd_i2l dX9_rollsOf_55 (sd_lsub dX9_rollsOf_56 (sd_iload_n dX9_rollsOf_57 rfl (sd_iload_n dX9_rollsOf_58 rfl (sd_isub dX9_rollsOf_59 (sd_ins2 dX9_rollsOf_60 ms_X9_power na_X9_power ml_RX9_410 ⟨⟨Nat.le_of_ble_eq_true rfl, Nat.le_of_ble_eq_true rfl⟩, ⟨Nat.le_of_ble_eq_true rfl, Nat.le_of_ble_eq_true rfl⟩⟩ (sd_lmul dX9_rollsOf_63 (sd_lret dX9_rollsOf_64 rfl (Nat.le_of_ble_eq_true rfl) (Nat.le_of_ble_eq_true rfl))))))))))))))))))))
theorem dX9_refusesRolls_0 : decode cX9_refusesRolls 0 = .ok (.aload_n 0, 1) := by decide +kernel
theorem dX9_refusesRolls_1 : decode cX9_refusesRolls 1 = .ok (.getfield 289, 3) := by decide +kernel
theorem dX9_refusesRolls_4 : decode cX9_refusesRolls 4 = .ok (.ifnonnull 7, 3) := by decide +kernel
theorem dX9_refusesRolls_7 : decode cX9_refusesRolls 7 = .ok (.iconst 1, 1) := by decide +kernel
theorem dX9_refusesRolls_8 : decode cX9_refusesRolls 8 = .ok (.goto 27, 3) := by decide +kernel
theorem dX9_refusesRolls_11 : decode cX9_refusesRolls 11 = .ok (.iload_n 1, 1) := by decide +kernel
theorem dX9_refusesRolls_12 : decode cX9_refusesRolls 12 = .ok (.iconst 0, 1) := by decide +kernel
theorem dX9_refusesRolls_13 : decode cX9_refusesRolls 13 = .ok (.bipush 8, 2) := by decide +kernel
theorem dX9_refusesRolls_15 : decode cX9_refusesRolls 15 = .ok (.invokestatic 115, 3) := by decide +kernel
theorem dX9_refusesRolls_18 : decode cX9_refusesRolls 18 = .ok (.ifCond .eq 16, 3) := by decide +kernel
theorem dX9_refusesRolls_21 : decode cX9_refusesRolls 21 = .ok (.iload_n 2, 1) := by decide +kernel
theorem dX9_refusesRolls_22 : decode cX9_refusesRolls 22 = .ok (.iconst 0, 1) := by decide +kernel
theorem dX9_refusesRolls_23 : decode cX9_refusesRolls 23 = .ok (.iload_n 1, 1) := by decide +kernel
theorem dX9_refusesRolls_24 : decode cX9_refusesRolls 24 = .ok (.invokestatic 115, 3) := by decide +kernel
theorem dX9_refusesRolls_27 : decode cX9_refusesRolls 27 = .ok (.ifCond .eq 7, 3) := by decide +kernel
theorem dX9_refusesRolls_30 : decode cX9_refusesRolls 30 = .ok (.iconst 0, 1) := by decide +kernel
theorem dX9_refusesRolls_31 : decode cX9_refusesRolls 31 = .ok (.goto 4, 3) := by decide +kernel
theorem dX9_refusesRolls_34 : decode cX9_refusesRolls 34 = .ok (.iconst 2, 1) := by decide +kernel
theorem dX9_refusesRolls_35 : decode cX9_refusesRolls 35 = .ok (.ireturn, 1) := by decide +kernel
def B_X9_refusesRolls_0 (X : Nat × (Nat → Int32)) (J : Nat → zCf) (R : zRt) : zCf := oALOAD 0 (oGETR 9 3 (oIFNONNULL (J 11) (oPI (zj (1)) (J 35))))
set_option maxRecDepth 100000 in
theorem vb_X9_refusesRolls_0 {X : Nat × (Nat → Int32)} {R : zRt} : ∀ ls st h, B_X9_refusesRolls_0 X (zV X M_X9_refusesRolls (zQm M_X9_refusesRolls R) 0 0) R ls st h → zV X M_X9_refusesRolls (zQm M_X9_refusesRolls R) 0 0 0 ls st h := sd_aload_n dX9_refusesRolls_0 rfl (sd_getr dX9_refusesRolls_1 zCl9 (Nat.le_of_ble_eq_true rfl) lk_RX9_289 (Or.inl ⟨_, rfl⟩) (sd_ifnonnull dX9_refusesRolls_4 rfl (fun _ _ _ h => h) (sd_iconst dX9_refusesRolls_7 rfl (sd_goto dX9_refusesRolls_8 rfl (fun _ _ _ h => h)))))
def B_X9_refusesRolls_11 (X : Nat × (Nat → Int32)) (J : Nat → zCf) (R : zRt) : zCf := oILOAD 1 (oPI (zj (0)) (oPI (zj (8)) (oINS3 X M_X9_in (oIFEQ (J 34) (oILOAD 2 (oPI (zj (0)) (oILOAD 1 (oINS3 X M_X9_in (oIFEQ (J 34) (oPI (zj (0)) (J 35)))))))))))
set_option maxRecDepth 100000 in
theorem vb_X9_refusesRolls_11 {X : Nat × (Nat → Int32)} {R : zRt} : ∀ ls st h, B_X9_refusesRolls_11 X (zV X M_X9_refusesRolls (zQm M_X9_refusesRolls R) 0 0) R ls st h → zV X M_X9_refusesRolls (zQm M_X9_refusesRolls R) 0 0 11 ls st h := sd_iload_n dX9_refusesRolls_11 rfl (sd_iconst dX9_refusesRolls_12 rfl (sd_bipush dX9_refusesRolls_13 rfl (sd_ins3 dX9_refusesRolls_15 ms_X9_in na_X9_in ml_RX9_115 ⟨⟨Nat.le_of_ble_eq_true rfl, Nat.le_of_ble_eq_true rfl⟩, ⟨Nat.le_of_ble_eq_true rfl, Nat.le_of_ble_eq_true rfl⟩⟩ (sd_ifeq dX9_refusesRolls_18 rfl (fun _ _ _ h => h) (sd_iload_n dX9_refusesRolls_21 rfl (sd_iconst dX9_refusesRolls_22 rfl (sd_iload_n dX9_refusesRolls_23 rfl (sd_ins3 dX9_refusesRolls_24 ms_X9_in na_X9_in ml_RX9_115 ⟨⟨Nat.le_of_ble_eq_true rfl, Nat.le_of_ble_eq_true rfl⟩, ⟨Nat.le_of_ble_eq_true rfl, Nat.le_of_ble_eq_true rfl⟩⟩ (sd_ifeq dX9_refusesRolls_27 rfl (fun _ _ _ h => h) (sd_iconst dX9_refusesRolls_30 rfl (sd_goto dX9_refusesRolls_31 rfl (fun _ _ _ h => h))))))))))))
def B_X9_refusesRolls_34 (X : Nat × (Nat → Int32)) (J : Nat → zCf) (R : zRt) : zCf := oPI (zj (2)) (J 35)
set_option maxRecDepth 100000 in
theorem vb_X9_refusesRolls_34 {X : Nat × (Nat → Int32)} {R : zRt} : ∀ ls st h, B_X9_refusesRolls_34 X (zV X M_X9_refusesRolls (zQm M_X9_refusesRolls R) 0 0) R ls st h → zV X M_X9_refusesRolls (zQm M_X9_refusesRolls R) 0 0 34 ls st h := sd_iconst dX9_refusesRolls_34 rfl (fun _ _ _ h => h)
def B_X9_refusesRolls_35 (X : Nat × (Nat → Int32)) (J : Nat → zCf) (R : zRt) : zCf := oIRET R
set_option maxRecDepth 100000 in
theorem vb_X9_refusesRolls_35 {X : Nat × (Nat → Int32)} {R : zRt} : ∀ ls st h, B_X9_refusesRolls_35 X (zV X M_X9_refusesRolls (zQm M_X9_refusesRolls R) 0 0) R ls st h → zV X M_X9_refusesRolls (zQm M_X9_refusesRolls R) 0 0 35 ls st h := sd_iret dX9_refusesRolls_35 rfl (Nat.le_of_ble_eq_true rfl) (Nat.le_of_ble_eq_true rfl)
theorem dX9_rolls_0 : decode cX9_rolls 0 = .ok (.aload_n 0, 1) := by decide +kernel
theorem dX9_rolls_1 : decode cX9_rolls 1 = .ok (.iconst 0, 1) := by decide +kernel
theorem dX9_rolls_2 : decode cX9_rolls 2 = .ok (.putfield 36, 3) := by decide +kernel
theorem dX9_rolls_5 : decode cX9_rolls 5 = .ok (.aload_n 0, 1) := by decide +kernel
theorem dX9_rolls_6 : decode cX9_rolls 6 = .ok (.iload_n 1, 1) := by decide +kernel
theorem dX9_rolls_7 : decode cX9_rolls 7 = .ok (.iload_n 2, 1) := by decide +kernel
theorem dX9_rolls_8 : decode cX9_rolls 8 = .ok (.invokevirtual 416, 3) := by decide +kernel
theorem dX9_rolls_11 : decode cX9_rolls 11 = .ok (.istore 4, 2) := by decide +kernel
theorem dX9_rolls_13 : decode cX9_rolls 13 = .ok (.iload 4, 2) := by decide +kernel
theorem dX9_rolls_15 : decode cX9_rolls 15 = .ok (.ifCond .le 13, 3) := by decide +kernel
theorem dX9_rolls_18 : decode cX9_rolls 18 = .ok (.aload_n 0, 1) := by decide +kernel
theorem dX9_rolls_19 : decode cX9_rolls 19 = .ok (.iload 4, 2) := by decide +kernel
theorem dX9_rolls_21 : decode cX9_rolls 21 = .ok (.invokevirtual 42, 3) := by decide +kernel
theorem dX9_rolls_24 : decode cX9_rolls 24 = .ok (.i2l, 1) := by decide +kernel
theorem dX9_rolls_25 : decode cX9_rolls 25 = .ok (.goto 21, 3) := by decide +kernel
theorem dX9_rolls_28 : decode cX9_rolls 28 = .ok (.aload_n 0, 1) := by decide +kernel
theorem dX9_rolls_29 : decode cX9_rolls 29 = .ok (.aload_n 0, 1) := by decide +kernel
theorem dX9_rolls_30 : decode cX9_rolls 30 = .ok (.iload_n 1, 1) := by decide +kernel
theorem dX9_rolls_31 : decode cX9_rolls 31 = .ok (.iload_n 2, 1) := by decide +kernel
theorem dX9_rolls_32 : decode cX9_rolls 32 = .ok (.invokevirtual 419, 3) := by decide +kernel
theorem dX9_rolls_35 : decode cX9_rolls 35 = .ok (.ldc2_w 414, 3) := by decide +kernel
theorem dX9_rolls_38 : decode cX9_rolls 38 = .ok (.iload_n 1, 1) := by decide +kernel
theorem dX9_rolls_39 : decode cX9_rolls 39 = .ok (.invokestatic 410, 3) := by decide +kernel
theorem dX9_rolls_42 : decode cX9_rolls 42 = .ok (.iload_n 3, 1) := by decide +kernel
theorem dX9_rolls_43 : decode cX9_rolls 43 = .ok (.invokevirtual 423, 3) := by decide +kernel
theorem dX9_rolls_46 : decode cX9_rolls 46 = .ok (.lreturn, 1) := by decide +kernel
def B_X9_rolls_0 (X : Nat × (Nat → Int32)) (J : Nat → zCf) (R : zRt) : zCf := oALOAD 0 (oPI (zj (0)) (oPUTI 9 0 (oALOAD 0 (oILOAD 1 (oILOAD 2 (oINV2 X M_X9_refusesRolls 9 (oISTORE 3 4 (oILOAD 4 (oIFLE (J 28) (oALOAD 0 (oILOAD 4 (oINV1 X M_X9_refused 9 (oI2L (J 46))))))))))))))
set_option maxRecDepth 100000 in
theorem vb_X9_rolls_0 {X : Nat × (Nat → Int32)} {R : zRt} : ∀ ls st h, B_X9_rolls_0 X (zV X M_X9_rolls (zQm M_X9_rolls R) 0 0) R ls st h → zV X M_X9_rolls (zQm M_X9_rolls R) 0 0 0 ls st h := sd_aload_n dX9_rolls_0 rfl (sd_iconst dX9_rolls_1 rfl (sd_puti dX9_rolls_2 zCl9 (Nat.le_of_ble_eq_true rfl) lk_RX9_36 rfl (Or.inl rfl) (sd_aload_n dX9_rolls_5 rfl (sd_iload_n dX9_rolls_6 rfl (sd_iload_n dX9_rolls_7 rfl (sd_inv2 dX9_rolls_8 rfl mv_X9_refusesRolls na_X9_refusesRolls ml_RX9_416 ⟨⟨Nat.le_of_ble_eq_true rfl, Nat.le_of_ble_eq_true rfl⟩, ⟨Nat.le_of_ble_eq_true rfl, Nat.le_of_ble_eq_true rfl⟩⟩ (sd_istore dX9_rolls_11 (Nat.le_of_ble_eq_true rfl) (Or.inl rfl) (sd_iload dX9_rolls_13 (sd_ifle dX9_rolls_15 rfl (fun _ _ _ h => h) (sd_aload_n dX9_rolls_18 rfl (sd_iload dX9_rolls_19 (sd_inv1 dX9_rolls_21 rfl mv_X9_refused na_X9_refused ml_RX9_42 ⟨⟨Nat.le_of_ble_eq_true rfl, Nat.le_of_ble_eq_true rfl⟩, ⟨Nat.le_of_ble_eq_true rfl, Nat.le_of_ble_eq_true rfl⟩⟩ (sd_i2l dX9_rolls_24 (sd_goto dX9_rolls_25 rfl (fun _ _ _ h => h)))))))))))))))
def B_X9_rolls_28 (X : Nat × (Nat → Int32)) (J : Nat → zCf) (R : zRt) : zCf := oALOAD 0 (oALOAD 0 (oILOAD 1 (oILOAD 2 (oINV2 X M_X9_rollsOf 9 (oPL (zk (100)) (oILOAD 1 (oINS2 X M_X9_power (oILOAD 3 (oINV3 X M_X9_fraction 9 (J 46))))))))))
set_option maxRecDepth 100000 in
theorem vb_X9_rolls_28 {X : Nat × (Nat → Int32)} {R : zRt} : ∀ ls st h, B_X9_rolls_28 X (zV X M_X9_rolls (zQm M_X9_rolls R) 0 0) R ls st h → zV X M_X9_rolls (zQm M_X9_rolls R) 0 0 28 ls st h := sd_aload_n dX9_rolls_28 rfl (sd_aload_n dX9_rolls_29 rfl (sd_iload_n dX9_rolls_30 rfl (sd_iload_n dX9_rolls_31 rfl (sd_inv2 dX9_rolls_32 rfl mv_X9_rollsOf na_X9_rollsOf ml_RX9_419 ⟨⟨Nat.le_of_ble_eq_true rfl, Nat.le_of_ble_eq_true rfl⟩, ⟨Nat.le_of_ble_eq_true rfl, Nat.le_of_ble_eq_true rfl⟩⟩ (sd_ldc2 dX9_rolls_35 (zmt (zt7 (i := 238) rfl) rfl) (sd_iload_n dX9_rolls_38 rfl (sd_ins2 dX9_rolls_39 ms_X9_power na_X9_power ml_RX9_410 ⟨⟨Nat.le_of_ble_eq_true rfl, Nat.le_of_ble_eq_true rfl⟩, ⟨Nat.le_of_ble_eq_true rfl, Nat.le_of_ble_eq_true rfl⟩⟩ (sd_iload_n dX9_rolls_42 rfl (sd_inv3 dX9_rolls_43 rfl mv_X9_fraction na_X9_fraction ml_RX9_423 ⟨⟨Nat.le_of_ble_eq_true rfl, Nat.le_of_ble_eq_true rfl⟩, ⟨Nat.le_of_ble_eq_true rfl, Nat.le_of_ble_eq_true rfl⟩⟩ (fun _ _ _ h => h))))))))))
def B_X9_rolls_46 (X : Nat × (Nat → Int32)) (J : Nat → zCf) (R : zRt) : zCf := oLRET R
set_option maxRecDepth 100000 in
theorem vb_X9_rolls_46 {X : Nat × (Nat → Int32)} {R : zRt} : ∀ ls st h, B_X9_rolls_46 X (zV X M_X9_rolls (zQm M_X9_rolls R) 0 0) R ls st h → zV X M_X9_rolls (zQm M_X9_rolls R) 0 0 46 ls st h := sd_lret dX9_rolls_46 rfl (Nat.le_of_ble_eq_true rfl) (Nat.le_of_ble_eq_true rfl)
theorem dX9_rollsMore_0 : decode cX9_rollsMore 0 = .ok (.aload_n 0, 1) := by decide +kernel
theorem dX9_rollsMore_1 : decode cX9_rollsMore 1 = .ok (.iconst 0, 1) := by decide +kernel
theorem dX9_rollsMore_2 : decode cX9_rollsMore 2 = .ok (.putfield 36, 3) := by decide +kernel
theorem dX9_rollsMore_5 : decode cX9_rollsMore 5 = .ok (.aload_n 0, 1) := by decide +kernel
theorem dX9_rollsMore_6 : decode cX9_rollsMore 6 = .ok (.iload_n 1, 1) := by decide +kernel
theorem dX9_rollsMore_7 : decode cX9_rollsMore 7 = .ok (.iload_n 2, 1) := by decide +kernel
theorem dX9_rollsMore_8 : decode cX9_rollsMore 8 = .ok (.invokevirtual 416, 3) := by decide +kernel
theorem dX9_rollsMore_11 : decode cX9_rollsMore 11 = .ok (.istore 4, 2) := by decide +kernel
theorem dX9_rollsMore_13 : decode cX9_rollsMore 13 = .ok (.iload 4, 2) := by decide +kernel
theorem dX9_rollsMore_15 : decode cX9_rollsMore 15 = .ok (.ifCond .le 11, 3) := by decide +kernel
theorem dX9_rollsMore_18 : decode cX9_rollsMore 18 = .ok (.aload_n 0, 1) := by decide +kernel
theorem dX9_rollsMore_19 : decode cX9_rollsMore 19 = .ok (.iload 4, 2) := by decide +kernel
theorem dX9_rollsMore_21 : decode cX9_rollsMore 21 = .ok (.invokevirtual 42, 3) := by decide +kernel
theorem dX9_rollsMore_24 : decode cX9_rollsMore 24 = .ok (.i2l, 1) := by decide +kernel
theorem dX9_rollsMore_25 : decode cX9_rollsMore 25 = .ok (.lreturn, 1) := by decide +kernel
theorem dX9_rollsMore_26 : decode cX9_rollsMore 26 = .ok (.lconst 0, 1) := by decide +kernel
theorem dX9_rollsMore_27 : decode cX9_rollsMore 27 = .ok (.lstore 5, 2) := by decide +kernel
theorem dX9_rollsMore_29 : decode cX9_rollsMore 29 = .ok (.iload_n 2, 1) := by decide +kernel
theorem dX9_rollsMore_30 : decode cX9_rollsMore 30 = .ok (.istore 7, 2) := by decide +kernel
theorem dX9_rollsMore_32 : decode cX9_rollsMore 32 = .ok (.iload 7, 2) := by decide +kernel
theorem dX9_rollsMore_34 : decode cX9_rollsMore 34 = .ok (.iload_n 1, 1) := by decide +kernel
theorem dX9_rollsMore_35 : decode cX9_rollsMore 35 = .ok (.if_icmp .gt 21, 3) := by decide +kernel
theorem dX9_rollsMore_38 : decode cX9_rollsMore 38 = .ok (.lload 5, 2) := by decide +kernel
theorem dX9_rollsMore_40 : decode cX9_rollsMore 40 = .ok (.aload_n 0, 1) := by decide +kernel
theorem dX9_rollsMore_41 : decode cX9_rollsMore 41 = .ok (.iload_n 1, 1) := by decide +kernel
theorem dX9_rollsMore_42 : decode cX9_rollsMore 42 = .ok (.iload 7, 2) := by decide +kernel
theorem dX9_rollsMore_44 : decode cX9_rollsMore 44 = .ok (.invokevirtual 419, 3) := by decide +kernel
theorem dX9_rollsMore_47 : decode cX9_rollsMore 47 = .ok (.ladd, 1) := by decide +kernel
theorem dX9_rollsMore_48 : decode cX9_rollsMore 48 = .ok (.lstore 5, 2) := by decide +kernel
theorem dX9_rollsMore_50 : decode cX9_rollsMore 50 = .ok (.iinc 7 1, 3) := by decide +kernel
theorem dX9_rollsMore_53 : decode cX9_rollsMore 53 = .ok (.goto (-21), 3) := by decide +kernel
theorem dX9_rollsMore_56 : decode cX9_rollsMore 56 = .ok (.aload_n 0, 1) := by decide +kernel
theorem dX9_rollsMore_57 : decode cX9_rollsMore 57 = .ok (.lload 5, 2) := by decide +kernel
theorem dX9_rollsMore_59 : decode cX9_rollsMore 59 = .ok (.ldc2_w 414, 3) := by decide +kernel
theorem dX9_rollsMore_62 : decode cX9_rollsMore 62 = .ok (.iload_n 1, 1) := by decide +kernel
theorem dX9_rollsMore_63 : decode cX9_rollsMore 63 = .ok (.invokestatic 410, 3) := by decide +kernel
theorem dX9_rollsMore_66 : decode cX9_rollsMore 66 = .ok (.iload_n 3, 1) := by decide +kernel
theorem dX9_rollsMore_67 : decode cX9_rollsMore 67 = .ok (.invokevirtual 423, 3) := by decide +kernel
theorem dX9_rollsMore_70 : decode cX9_rollsMore 70 = .ok (.lreturn, 1) := by decide +kernel
def B_X9_rollsMore_0 (X : Nat × (Nat → Int32)) (J : Nat → zCf) (R : zRt) : zCf := oALOAD 0 (oPI (zj (0)) (oPUTI 9 0 (oALOAD 0 (oILOAD 1 (oILOAD 2 (oINV2 X M_X9_refusesRolls 9 (oISTORE 3 4 (oILOAD 4 (oIFLE (J 26) (oALOAD 0 (oILOAD 4 (oINV1 X M_X9_refused 9 (oI2L (oLRET R))))))))))))))
set_option maxRecDepth 100000 in
theorem vb_X9_rollsMore_0 {X : Nat × (Nat → Int32)} {R : zRt} : ∀ ls st h, B_X9_rollsMore_0 X (zV X M_X9_rollsMore (zQm M_X9_rollsMore R) 0 0) R ls st h → zV X M_X9_rollsMore (zQm M_X9_rollsMore R) 0 0 0 ls st h := sd_aload_n dX9_rollsMore_0 rfl (sd_iconst dX9_rollsMore_1 rfl (sd_puti dX9_rollsMore_2 zCl9 (Nat.le_of_ble_eq_true rfl) lk_RX9_36 rfl (Or.inl rfl) (sd_aload_n dX9_rollsMore_5 rfl (sd_iload_n dX9_rollsMore_6 rfl (sd_iload_n dX9_rollsMore_7 rfl (sd_inv2 dX9_rollsMore_8 rfl mv_X9_refusesRolls na_X9_refusesRolls ml_RX9_416 ⟨⟨Nat.le_of_ble_eq_true rfl, Nat.le_of_ble_eq_true rfl⟩, ⟨Nat.le_of_ble_eq_true rfl, Nat.le_of_ble_eq_true rfl⟩⟩ (sd_istore dX9_rollsMore_11 (Nat.le_of_ble_eq_true rfl) (Or.inl rfl) (sd_iload dX9_rollsMore_13 (sd_ifle dX9_rollsMore_15 rfl (fun _ _ _ h => h) (sd_aload_n dX9_rollsMore_18 rfl (sd_iload dX9_rollsMore_19 (sd_inv1 dX9_rollsMore_21 rfl mv_X9_refused na_X9_refused ml_RX9_42 ⟨⟨Nat.le_of_ble_eq_true rfl, Nat.le_of_ble_eq_true rfl⟩, ⟨Nat.le_of_ble_eq_true rfl, Nat.le_of_ble_eq_true rfl⟩⟩ (sd_i2l dX9_rollsMore_24 (sd_lret dX9_rollsMore_25 rfl (Nat.le_of_ble_eq_true rfl) (Nat.le_of_ble_eq_true rfl)))))))))))))))
def B_X9_rollsMore_26 (X : Nat × (Nat → Int32)) (J : Nat → zCf) (R : zRt) : zCf := oPL (zk (0)) (oLSTORE 4 5 (oILOAD 2 (oISTORE 6 7 (J 32))))
set_option maxRecDepth 100000 in
theorem vb_X9_rollsMore_26 {X : Nat × (Nat → Int32)} {R : zRt} : ∀ ls st h, B_X9_rollsMore_26 X (zV X M_X9_rollsMore (zQm M_X9_rollsMore R) 0 0) R ls st h → zV X M_X9_rollsMore (zQm M_X9_rollsMore R) 0 0 26 ls st h := sd_lconst dX9_rollsMore_26 rfl (sd_lstore dX9_rollsMore_27 (Nat.le_of_ble_eq_true rfl) (Or.inl rfl) (sd_iload_n dX9_rollsMore_29 rfl (sd_istore dX9_rollsMore_30 (Nat.le_of_ble_eq_true rfl) (Or.inl rfl) (fun _ _ _ h => h))))
def B_X9_rollsMore_32 (X : Nat × (Nat → Int32)) (J : Nat → zCf) (R : zRt) : zCf := oILOAD 7 (oILOAD 1 (oICGT (J 56) (oLLOAD 5 (oALOAD 0 (oILOAD 1 (oILOAD 7 (oINV2 X M_X9_rollsOf 9 (oLADD (oLSTORE 4 5 (oIINC 6 7 (zj (1)) (J 32)))))))))))
set_option maxRecDepth 100000 in
theorem vb_X9_rollsMore_32 {X : Nat × (Nat → Int32)} {R : zRt} : ∀ ls st h, B_X9_rollsMore_32 X (zV X M_X9_rollsMore (zQm M_X9_rollsMore R) 0 0) R ls st h → zV X M_X9_rollsMore (zQm M_X9_rollsMore R) 0 0 32 ls st h := sd_iload dX9_rollsMore_32 (sd_iload_n dX9_rollsMore_34 rfl (sd_icgt dX9_rollsMore_35 rfl (fun _ _ _ h => h) (sd_lload dX9_rollsMore_38 (sd_aload_n dX9_rollsMore_40 rfl (sd_iload_n dX9_rollsMore_41 rfl (sd_iload dX9_rollsMore_42 (sd_inv2 dX9_rollsMore_44 rfl mv_X9_rollsOf na_X9_rollsOf ml_RX9_419 ⟨⟨Nat.le_of_ble_eq_true rfl, Nat.le_of_ble_eq_true rfl⟩, ⟨Nat.le_of_ble_eq_true rfl, Nat.le_of_ble_eq_true rfl⟩⟩ (sd_ladd dX9_rollsMore_47 (sd_lstore dX9_rollsMore_48 (Nat.le_of_ble_eq_true rfl) (Or.inl rfl) (sd_iinc dX9_rollsMore_50 rfl (Nat.le_of_ble_eq_true rfl) (Or.inl rfl) (sd_goto dX9_rollsMore_53 rfl (fun _ _ _ h => h))))))))))))
def B_X9_rollsMore_56 (X : Nat × (Nat → Int32)) (J : Nat → zCf) (R : zRt) : zCf := oALOAD 0 (oLLOAD 5 (oPL (zk (100)) (oILOAD 1 (oINS2 X M_X9_power (oILOAD 3 (oINV3 X M_X9_fraction 9 (oLRET R)))))))
set_option maxRecDepth 100000 in
theorem vb_X9_rollsMore_56 {X : Nat × (Nat → Int32)} {R : zRt} : ∀ ls st h, B_X9_rollsMore_56 X (zV X M_X9_rollsMore (zQm M_X9_rollsMore R) 0 0) R ls st h → zV X M_X9_rollsMore (zQm M_X9_rollsMore R) 0 0 56 ls st h := sd_aload_n dX9_rollsMore_56 rfl (sd_lload dX9_rollsMore_57 (sd_ldc2 dX9_rollsMore_59 (zmt (zt7 (i := 238) rfl) rfl) (sd_iload_n dX9_rollsMore_62 rfl (sd_ins2 dX9_rollsMore_63 ms_X9_power na_X9_power ml_RX9_410 ⟨⟨Nat.le_of_ble_eq_true rfl, Nat.le_of_ble_eq_true rfl⟩, ⟨Nat.le_of_ble_eq_true rfl, Nat.le_of_ble_eq_true rfl⟩⟩ (sd_iload_n dX9_rollsMore_66 rfl (sd_inv3 dX9_rollsMore_67 rfl mv_X9_fraction na_X9_fraction ml_RX9_423 ⟨⟨Nat.le_of_ble_eq_true rfl, Nat.le_of_ble_eq_true rfl⟩, ⟨Nat.le_of_ble_eq_true rfl, Nat.le_of_ble_eq_true rfl⟩⟩ (sd_lret dX9_rollsMore_70 rfl (Nat.le_of_ble_eq_true rfl) (Nat.le_of_ble_eq_true rfl))))))))
theorem dX9_apart_0 : decode cX9_apart 0 = .ok (.iload_n 0, 1) := by decide +kernel
theorem dX9_apart_1 : decode cX9_apart 1 = .ok (.iload_n 1, 1) := by decide +kernel
theorem dX9_apart_2 : decode cX9_apart 2 = .ok (.isub, 1) := by decide +kernel
theorem dX9_apart_3 : decode cX9_apart 3 = .ok (.invokestatic 303, 3) := by decide +kernel
theorem dX9_apart_6 : decode cX9_apart 6 = .ok (.istore_n 2, 1) := by decide +kernel
theorem dX9_apart_7 : decode cX9_apart 7 = .ok (.iload_n 2, 1) := by decide +kernel
theorem dX9_apart_8 : decode cX9_apart 8 = .ok (.bipush 6, 2) := by decide +kernel
theorem dX9_apart_10 : decode cX9_apart 10 = .ok (.if_icmp .le 10, 3) := by decide +kernel
theorem dX9_apart_13 : decode cX9_apart 13 = .ok (.bipush 12, 2) := by decide +kernel
theorem dX9_apart_15 : decode cX9_apart 15 = .ok (.iload_n 2, 1) := by decide +kernel
theorem dX9_apart_16 : decode cX9_apart 16 = .ok (.isub, 1) := by decide +kernel
theorem dX9_apart_17 : decode cX9_apart 17 = .ok (.goto 4, 3) := by decide +kernel
theorem dX9_apart_20 : decode cX9_apart 20 = .ok (.iload_n 2, 1) := by decide +kernel
theorem dX9_apart_21 : decode cX9_apart 21 = .ok (.ireturn, 1) := by decide +kernel
def B_X9_apart_0 (X : Nat × (Nat → Int32)) (J : Nat → zCf) (R : zRt) : zCf := oILOAD 0 (oILOAD 1 (oISUB (oINS1 X M_X9_round (oISTORE 1 2 (oILOAD 2 (oPI (zj (6)) (oICLE (J 20) (oPI (zj (12)) (oILOAD 2 (oISUB (J 21)))))))))))
set_option maxRecDepth 100000 in
theorem vb_X9_apart_0 {X : Nat × (Nat → Int32)} {R : zRt} : ∀ ls st h, B_X9_apart_0 X (zV X M_X9_apart (zQm M_X9_apart R) 0 0) R ls st h → zV X M_X9_apart (zQm M_X9_apart R) 0 0 0 ls st h := sd_iload_n dX9_apart_0 rfl (sd_iload_n dX9_apart_1 rfl (sd_isub dX9_apart_2 (sd_ins1 dX9_apart_3 ms_X9_round na_X9_round ml_RX9_303 ⟨⟨Nat.le_of_ble_eq_true rfl, Nat.le_of_ble_eq_true rfl⟩, ⟨Nat.le_of_ble_eq_true rfl, Nat.le_of_ble_eq_true rfl⟩⟩ (sd_istore_n dX9_apart_6 rfl (Nat.le_of_ble_eq_true rfl) (Or.inl rfl) (sd_iload_n dX9_apart_7 rfl (sd_bipush dX9_apart_8 rfl (sd_icle dX9_apart_10 rfl (fun _ _ _ h => h) (sd_bipush dX9_apart_13 rfl (sd_iload_n dX9_apart_15 rfl (sd_isub dX9_apart_16 (sd_goto dX9_apart_17 rfl (fun _ _ _ h => h))))))))))))
def B_X9_apart_20 (X : Nat × (Nat → Int32)) (J : Nat → zCf) (R : zRt) : zCf := oILOAD 2 (J 21)
set_option maxRecDepth 100000 in
theorem vb_X9_apart_20 {X : Nat × (Nat → Int32)} {R : zRt} : ∀ ls st h, B_X9_apart_20 X (zV X M_X9_apart (zQm M_X9_apart R) 0 0) R ls st h → zV X M_X9_apart (zQm M_X9_apart R) 0 0 20 ls st h := sd_iload_n dX9_apart_20 rfl (fun _ _ _ h => h)
def B_X9_apart_21 (X : Nat × (Nat → Int32)) (J : Nat → zCf) (R : zRt) : zCf := oIRET R
set_option maxRecDepth 100000 in
theorem vb_X9_apart_21 {X : Nat × (Nat → Int32)} {R : zRt} : ∀ ls st h, B_X9_apart_21 X (zV X M_X9_apart (zQm M_X9_apart R) 0 0) R ls st h → zV X M_X9_apart (zQm M_X9_apart R) 0 0 21 ls st h := sd_iret dX9_apart_21 rfl (Nat.le_of_ble_eq_true rfl) (Nat.le_of_ble_eq_true rfl)
theorem dX9_isWatched_0 : decode cX9_isWatched 0 = .ok (.iconst 0, 1) := by decide +kernel
theorem dX9_isWatched_1 : decode cX9_isWatched 1 = .ok (.istore_n 3, 1) := by decide +kernel
theorem dX9_isWatched_2 : decode cX9_isWatched 2 = .ok (.iload_n 3, 1) := by decide +kernel
theorem dX9_isWatched_3 : decode cX9_isWatched 3 = .ok (.aload_n 0, 1) := by decide +kernel
theorem dX9_isWatched_4 : decode cX9_isWatched 4 = .ok (.getfield 289, 3) := by decide +kernel
theorem dX9_isWatched_7 : decode cX9_isWatched 7 = .ok (.getfield 180, 3) := by decide +kernel
theorem dX9_isWatched_10 : decode cX9_isWatched 10 = .ok (.if_icmp .ge 73, 3) := by decide +kernel
theorem dX9_isWatched_13 : decode cX9_isWatched 13 = .ok (.iconst 0, 1) := by decide +kernel
theorem dX9_isWatched_14 : decode cX9_isWatched 14 = .ok (.istore 4, 2) := by decide +kernel
theorem dX9_isWatched_16 : decode cX9_isWatched 16 = .ok (.iconst 0, 1) := by decide +kernel
theorem dX9_isWatched_17 : decode cX9_isWatched 17 = .ok (.istore 5, 2) := by decide +kernel
theorem dX9_isWatched_19 : decode cX9_isWatched 19 = .ok (.iload 5, 2) := by decide +kernel
theorem dX9_isWatched_21 : decode cX9_isWatched 21 = .ok (.bipush 12, 2) := by decide +kernel
theorem dX9_isWatched_23 : decode cX9_isWatched 23 = .ok (.if_icmp .ge 47, 3) := by decide +kernel
theorem dX9_isWatched_26 : decode cX9_isWatched 26 = .ok (.iload 4, 2) := by decide +kernel
theorem dX9_isWatched_28 : decode cX9_isWatched 28 = .ok (.ifCond .ne 29, 3) := by decide +kernel
theorem dX9_isWatched_31 : decode cX9_isWatched 31 = .ok (.iload_n 1, 1) := by decide +kernel
theorem dX9_isWatched_32 : decode cX9_isWatched 32 = .ok (.iload 5, 2) := by decide +kernel
theorem dX9_isWatched_34 : decode cX9_isWatched 34 = .ok (.invokestatic 374, 3) := by decide +kernel
theorem dX9_isWatched_37 : decode cX9_isWatched 37 = .ok (.ifCond .eq 24, 3) := by decide +kernel
theorem dX9_isWatched_40 : decode cX9_isWatched 40 = .ok (.iload 5, 2) := by decide +kernel
theorem dX9_isWatched_42 : decode cX9_isWatched 42 = .ok (.aload_n 0, 1) := by decide +kernel
theorem dX9_isWatched_43 : decode cX9_isWatched 43 = .ok (.getfield 17, 3) := by decide +kernel
theorem dX9_isWatched_46 : decode cX9_isWatched 46 = .ok (.iconst 0, 1) := by decide +kernel
theorem dX9_isWatched_47 : decode cX9_isWatched 47 = .ok (.iload_n 3, 1) := by decide +kernel
theorem dX9_isWatched_48 : decode cX9_isWatched 48 = .ok (.iadd, 1) := by decide +kernel
theorem dX9_isWatched_49 : decode cX9_isWatched 49 = .ok (.iaload, 1) := by decide +kernel
theorem dX9_isWatched_50 : decode cX9_isWatched 50 = .ok (.invokestatic 427, 3) := by decide +kernel
theorem dX9_isWatched_53 : decode cX9_isWatched 53 = .ok (.iload_n 2, 1) := by decide +kernel
theorem dX9_isWatched_54 : decode cX9_isWatched 54 = .ok (.if_icmp .gt 7, 3) := by decide +kernel
theorem dX9_isWatched_57 : decode cX9_isWatched 57 = .ok (.iconst 1, 1) := by decide +kernel
theorem dX9_isWatched_58 : decode cX9_isWatched 58 = .ok (.goto 4, 3) := by decide +kernel
theorem dX9_isWatched_61 : decode cX9_isWatched 61 = .ok (.iconst 0, 1) := by decide +kernel
theorem dX9_isWatched_62 : decode cX9_isWatched 62 = .ok (.istore 4, 2) := by decide +kernel
theorem dX9_isWatched_64 : decode cX9_isWatched 64 = .ok (.iinc 5 1, 3) := by decide +kernel
theorem dX9_isWatched_67 : decode cX9_isWatched 67 = .ok (.goto (-48), 3) := by decide +kernel
theorem dX9_isWatched_70 : decode cX9_isWatched 70 = .ok (.iload 4, 2) := by decide +kernel
theorem dX9_isWatched_72 : decode cX9_isWatched 72 = .ok (.ifCond .ne 5, 3) := by decide +kernel
theorem dX9_isWatched_75 : decode cX9_isWatched 75 = .ok (.iconst 0, 1) := by decide +kernel
theorem dX9_isWatched_76 : decode cX9_isWatched 76 = .ok (.ireturn, 1) := by decide +kernel
theorem dX9_isWatched_77 : decode cX9_isWatched 77 = .ok (.iinc 3 1, 3) := by decide +kernel
theorem dX9_isWatched_80 : decode cX9_isWatched 80 = .ok (.goto (-78), 3) := by decide +kernel
theorem dX9_isWatched_83 : decode cX9_isWatched 83 = .ok (.iconst 1, 1) := by decide +kernel
theorem dX9_isWatched_84 : decode cX9_isWatched 84 = .ok (.ireturn, 1) := by decide +kernel
def B_X9_isWatched_0 (X : Nat × (Nat → Int32)) (J : Nat → zCf) (R : zRt) : zCf := oPI (zj (0)) (oISTORE 2 3 (J 2))
set_option maxRecDepth 100000 in
theorem vb_X9_isWatched_0 {X : Nat × (Nat → Int32)} {R : zRt} : ∀ ls st h, B_X9_isWatched_0 X (zV X M_X9_isWatched (zQm M_X9_isWatched R) 0 0) R ls st h → zV X M_X9_isWatched (zQm M_X9_isWatched R) 0 0 0 ls st h := sd_iconst dX9_isWatched_0 rfl (sd_istore_n dX9_isWatched_1 rfl (Nat.le_of_ble_eq_true rfl) (Or.inl rfl) (fun _ _ _ h => h))
def B_X9_isWatched_2 (X : Nat × (Nat → Int32)) (J : Nat → zCf) (R : zRt) : zCf := oILOAD 3 (oALOAD 0 (oGETR 9 3 (oGETI 8 1 (oICGE (J 83) (oPI (zj (0)) (oISTORE 3 4 (oPI (zj (0)) (oISTORE 4 5 (J 19)))))))))
set_option maxRecDepth 100000 in
theorem vb_X9_isWatched_2 {X : Nat × (Nat → Int32)} {R : zRt} : ∀ ls st h, B_X9_isWatched_2 X (zV X M_X9_isWatched (zQm M_X9_isWatched R) 0 0) R ls st h → zV X M_X9_isWatched (zQm M_X9_isWatched R) 0 0 2 ls st h := sd_iload_n dX9_isWatched_2 rfl (sd_aload_n dX9_isWatched_3 rfl (sd_getr dX9_isWatched_4 zCl9 (Nat.le_of_ble_eq_true rfl) lk_RX9_289 (Or.inl ⟨_, rfl⟩) (sd_geti dX9_isWatched_7 zCl8 (Nat.le_of_ble_eq_true rfl) lk_RX9_180 (Or.inl rfl) (sd_icge dX9_isWatched_10 rfl (fun _ _ _ h => h) (sd_iconst dX9_isWatched_13 rfl (sd_istore dX9_isWatched_14 (Nat.le_of_ble_eq_true rfl) (Or.inl rfl) (sd_iconst dX9_isWatched_16 rfl (sd_istore dX9_isWatched_17 (Nat.le_of_ble_eq_true rfl) (Or.inl rfl) (fun _ _ _ h => h)))))))))
def B_X9_isWatched_19 (X : Nat × (Nat → Int32)) (J : Nat → zCf) (R : zRt) : zCf := oILOAD 5 (oPI (zj (12)) (oICGE (J 70) (oILOAD 4 (oIFNE (J 57) (oILOAD 1 (oILOAD 5 (oINS2 X M_X9_has (oIFEQ (J 61) (oILOAD 5 (oALOAD 0 (oGETR 9 15 (oPI (zj (0)) (oILOAD 3 (oIADD (oIALD (oINS2 X M_X9_apart (oILOAD 2 (oICGT (J 61) (J 57)))))))))))))))))))
set_option maxRecDepth 100000 in
theorem vb_X9_isWatched_19 {X : Nat × (Nat → Int32)} {R : zRt} : ∀ ls st h, B_X9_isWatched_19 X (zV X M_X9_isWatched (zQm M_X9_isWatched R) 0 0) R ls st h → zV X M_X9_isWatched (zQm M_X9_isWatched R) 0 0 19 ls st h := sd_iload dX9_isWatched_19 (sd_bipush dX9_isWatched_21 rfl (sd_icge dX9_isWatched_23 rfl (fun _ _ _ h => h) (sd_iload dX9_isWatched_26 (sd_ifne dX9_isWatched_28 rfl (fun _ _ _ h => h) (sd_iload_n dX9_isWatched_31 rfl (sd_iload dX9_isWatched_32 (sd_ins2 dX9_isWatched_34 ms_X9_has na_X9_has ml_RX9_374 ⟨⟨Nat.le_of_ble_eq_true rfl, Nat.le_of_ble_eq_true rfl⟩, ⟨Nat.le_of_ble_eq_true rfl, Nat.le_of_ble_eq_true rfl⟩⟩ (sd_ifeq dX9_isWatched_37 rfl (fun _ _ _ h => h) (sd_iload dX9_isWatched_40 (sd_aload_n dX9_isWatched_42 rfl (sd_getr dX9_isWatched_43 zCl9 (Nat.le_of_ble_eq_true rfl) lk_RX9_17 (Or.inr ⟨_, rfl⟩) (sd_iconst dX9_isWatched_46 rfl (sd_iload_n dX9_isWatched_47 rfl (sd_iadd dX9_isWatched_48 (sd_iald dX9_isWatched_49 (sd_ins2 dX9_isWatched_50 ms_X9_apart na_X9_apart ml_RX9_427 ⟨⟨Nat.le_of_ble_eq_true rfl, Nat.le_of_ble_eq_true rfl⟩, ⟨Nat.le_of_ble_eq_true rfl, Nat.le_of_ble_eq_true rfl⟩⟩ (sd_iload_n dX9_isWatched_53 rfl (sd_icgt dX9_isWatched_54 rfl (fun _ _ _ h => h) (fun _ _ _ h => h)))))))))))))))))))
def B_X9_isWatched_57 (X : Nat × (Nat → Int32)) (J : Nat → zCf) (R : zRt) : zCf := oPI (zj (1)) (J 62)
set_option maxRecDepth 100000 in
theorem vb_X9_isWatched_57 {X : Nat × (Nat → Int32)} {R : zRt} : ∀ ls st h, B_X9_isWatched_57 X (zV X M_X9_isWatched (zQm M_X9_isWatched R) 0 0) R ls st h → zV X M_X9_isWatched (zQm M_X9_isWatched R) 0 0 57 ls st h := sd_iconst dX9_isWatched_57 rfl (sd_goto dX9_isWatched_58 rfl (fun _ _ _ h => h))
def B_X9_isWatched_61 (X : Nat × (Nat → Int32)) (J : Nat → zCf) (R : zRt) : zCf := oPI (zj (0)) (J 62)
set_option maxRecDepth 100000 in
theorem vb_X9_isWatched_61 {X : Nat × (Nat → Int32)} {R : zRt} : ∀ ls st h, B_X9_isWatched_61 X (zV X M_X9_isWatched (zQm M_X9_isWatched R) 0 0) R ls st h → zV X M_X9_isWatched (zQm M_X9_isWatched R) 0 0 61 ls st h := sd_iconst dX9_isWatched_61 rfl (fun _ _ _ h => h)
def B_X9_isWatched_62 (X : Nat × (Nat → Int32)) (J : Nat → zCf) (R : zRt) : zCf := oISTORE 3 4 (oIINC 4 5 (zj (1)) (J 19))
set_option maxRecDepth 100000 in
theorem vb_X9_isWatched_62 {X : Nat × (Nat → Int32)} {R : zRt} : ∀ ls st h, B_X9_isWatched_62 X (zV X M_X9_isWatched (zQm M_X9_isWatched R) 0 0) R ls st h → zV X M_X9_isWatched (zQm M_X9_isWatched R) 0 0 62 ls st h := sd_istore dX9_isWatched_62 (Nat.le_of_ble_eq_true rfl) (Or.inl rfl) (sd_iinc dX9_isWatched_64 rfl (Nat.le_of_ble_eq_true rfl) (Or.inl rfl) (sd_goto dX9_isWatched_67 rfl (fun _ _ _ h => h)))
def B_X9_isWatched_70 (X : Nat × (Nat → Int32)) (J : Nat → zCf) (R : zRt) : zCf := oILOAD 4 (oIFNE (J 77) (oPI (zj (0)) (oZRET R)))
set_option maxRecDepth 100000 in
theorem vb_X9_isWatched_70 {X : Nat × (Nat → Int32)} {R : zRt} : ∀ ls st h, B_X9_isWatched_70 X (zV X M_X9_isWatched (zQm M_X9_isWatched R) 0 0) R ls st h → zV X M_X9_isWatched (zQm M_X9_isWatched R) 0 0 70 ls st h := sd_iload dX9_isWatched_70 (sd_ifne dX9_isWatched_72 rfl (fun _ _ _ h => h) (sd_iconst dX9_isWatched_75 rfl (sd_zret dX9_isWatched_76 rfl (Nat.le_of_ble_eq_true rfl) (Nat.le_of_ble_eq_true rfl))))
def B_X9_isWatched_77 (X : Nat × (Nat → Int32)) (J : Nat → zCf) (R : zRt) : zCf := oIINC 2 3 (zj (1)) (J 2)
set_option maxRecDepth 100000 in
theorem vb_X9_isWatched_77 {X : Nat × (Nat → Int32)} {R : zRt} : ∀ ls st h, B_X9_isWatched_77 X (zV X M_X9_isWatched (zQm M_X9_isWatched R) 0 0) R ls st h → zV X M_X9_isWatched (zQm M_X9_isWatched R) 0 0 77 ls st h := sd_iinc dX9_isWatched_77 rfl (Nat.le_of_ble_eq_true rfl) (Or.inl rfl) (sd_goto dX9_isWatched_80 rfl (fun _ _ _ h => h))
def B_X9_isWatched_83 (X : Nat × (Nat → Int32)) (J : Nat → zCf) (R : zRt) : zCf := oPI (zj (1)) (oZRET R)
set_option maxRecDepth 100000 in
theorem vb_X9_isWatched_83 {X : Nat × (Nat → Int32)} {R : zRt} : ∀ ls st h, B_X9_isWatched_83 X (zV X M_X9_isWatched (zQm M_X9_isWatched R) 0 0) R ls st h → zV X M_X9_isWatched (zQm M_X9_isWatched R) 0 0 83 ls st h := sd_iconst dX9_isWatched_83 rfl (sd_zret dX9_isWatched_84 rfl (Nat.le_of_ble_eq_true rfl) (Nat.le_of_ble_eq_true rfl))
