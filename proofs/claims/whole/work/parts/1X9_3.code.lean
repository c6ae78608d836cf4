theorem dX9_watch_0 : decode cX9_watch 0 = .ok (.aload_n 0, 1) := by decide +kernel
theorem dX9_watch_1 : decode cX9_watch 1 = .ok (.iconst 0, 1) := by decide +kernel
theorem dX9_watch_2 : decode cX9_watch 2 = .ok (.putfield 36, 3) := by decide +kernel
theorem dX9_watch_5 : decode cX9_watch 5 = .ok (.aload_n 0, 1) := by decide +kernel
theorem dX9_watch_6 : decode cX9_watch 6 = .ok (.getfield 289, 3) := by decide +kernel
theorem dX9_watch_9 : decode cX9_watch 9 = .ok (.ifnonnull 9, 3) := by decide +kernel
theorem dX9_watch_12 : decode cX9_watch 12 = .ok (.aload_n 0, 1) := by decide +kernel
theorem dX9_watch_13 : decode cX9_watch 13 = .ok (.iconst 1, 1) := by decide +kernel
theorem dX9_watch_14 : decode cX9_watch 14 = .ok (.invokevirtual 42, 3) := by decide +kernel
theorem dX9_watch_17 : decode cX9_watch 17 = .ok (.ireturn, 1) := by decide +kernel
theorem dX9_watch_18 : decode cX9_watch 18 = .ok (.iload_n 1, 1) := by decide +kernel
theorem dX9_watch_19 : decode cX9_watch 19 = .ok (.iconst 0, 1) := by decide +kernel
theorem dX9_watch_20 : decode cX9_watch 20 = .ok (.bipush 6, 2) := by decide +kernel
theorem dX9_watch_22 : decode cX9_watch 22 = .ok (.invokestatic 115, 3) := by decide +kernel
theorem dX9_watch_25 : decode cX9_watch 25 = .ok (.ifCond .ne 9, 3) := by decide +kernel
theorem dX9_watch_28 : decode cX9_watch 28 = .ok (.aload_n 0, 1) := by decide +kernel
theorem dX9_watch_29 : decode cX9_watch 29 = .ok (.iconst 2, 1) := by decide +kernel
theorem dX9_watch_30 : decode cX9_watch 30 = .ok (.invokevirtual 42, 3) := by decide +kernel
theorem dX9_watch_33 : decode cX9_watch 33 = .ok (.ireturn, 1) := by decide +kernel
theorem dX9_watch_34 : decode cX9_watch 34 = .ok (.iconst (-1), 1) := by decide +kernel
theorem dX9_watch_35 : decode cX9_watch 35 = .ok (.istore_n 2, 1) := by decide +kernel
theorem dX9_watch_36 : decode cX9_watch 36 = .ok (.iconst 1, 1) := by decide +kernel
theorem dX9_watch_37 : decode cX9_watch 37 = .ok (.istore_n 3, 1) := by decide +kernel
theorem dX9_watch_38 : decode cX9_watch 38 = .ok (.iload_n 3, 1) := by decide +kernel
theorem dX9_watch_39 : decode cX9_watch 39 = .ok (.sipush 4096, 3) := by decide +kernel
theorem dX9_watch_42 : decode cX9_watch 42 = .ok (.if_icmp .ge 36, 3) := by decide +kernel
theorem dX9_watch_45 : decode cX9_watch 45 = .ok (.iload_n 2, 1) := by decide +kernel
theorem dX9_watch_46 : decode cX9_watch 46 = .ok (.iconst (-1), 1) := by decide +kernel
theorem dX9_watch_47 : decode cX9_watch 47 = .ok (.if_icmp .eq 14, 3) := by decide +kernel
theorem dX9_watch_50 : decode cX9_watch 50 = .ok (.iload_n 3, 1) := by decide +kernel
theorem dX9_watch_51 : decode cX9_watch 51 = .ok (.invokestatic 347, 3) := by decide +kernel
theorem dX9_watch_54 : decode cX9_watch 54 = .ok (.iload_n 2, 1) := by decide +kernel
theorem dX9_watch_55 : decode cX9_watch 55 = .ok (.invokestatic 347, 3) := by decide +kernel
theorem dX9_watch_58 : decode cX9_watch 58 = .ok (.if_icmp .ge 14, 3) := by decide +kernel
theorem dX9_watch_61 : decode cX9_watch 61 = .ok (.aload_n 0, 1) := by decide +kernel
theorem dX9_watch_62 : decode cX9_watch 62 = .ok (.iload_n 3, 1) := by decide +kernel
theorem dX9_watch_63 : decode cX9_watch 63 = .ok (.iload_n 1, 1) := by decide +kernel
theorem dX9_watch_64 : decode cX9_watch 64 = .ok (.invokevirtual 430, 3) := by decide +kernel
theorem dX9_watch_67 : decode cX9_watch 67 = .ok (.ifCond .eq 5, 3) := by decide +kernel
theorem dX9_watch_70 : decode cX9_watch 70 = .ok (.iload_n 3, 1) := by decide +kernel
theorem dX9_watch_71 : decode cX9_watch 71 = .ok (.istore_n 2, 1) := by decide +kernel
theorem dX9_watch_72 : decode cX9_watch 72 = .ok (.iinc 3 1, 3) := by decide +kernel
theorem dX9_watch_75 : decode cX9_watch 75 = .ok (.goto (-37), 3) := by decide +kernel
theorem dX9_watch_78 : decode cX9_watch 78 = .ok (.aload_n 0, 1) := by decide +kernel
theorem dX9_watch_79 : decode cX9_watch 79 = .ok (.iload_n 2, 1) := by decide +kernel
theorem dX9_watch_80 : decode cX9_watch 80 = .ok (.invokevirtual 46, 3) := by decide +kernel
theorem dX9_watch_83 : decode cX9_watch 83 = .ok (.ireturn, 1) := by decide +kernel
def B_X9_watch_0 (X : Nat × (Nat → Int32)) (J : Nat → zCf) (R : zRt) : zCf := oALOAD 0 (oPI (zj (0)) (oPUTI 9 0 (oALOAD 0 (oGETR 9 3 (oIFNONNULL (J 18) (oALOAD 0 (oPI (zj (1)) (oINV1 X M_X9_refused 9 (oIRET R)))))))))
set_option maxRecDepth 100000 in
theorem vb_X9_watch_0 {X : Nat × (Nat → Int32)} {R : zRt} : ∀ ls st h, B_X9_watch_0 X (zV X M_X9_watch (zQm M_X9_watch R) 0 0) R ls st h → zV X M_X9_watch (zQm M_X9_watch R) 0 0 0 ls st h := sd_aload_n dX9_watch_0 rfl (sd_iconst dX9_watch_1 rfl (sd_puti dX9_watch_2 zCl9 (Nat.le_of_ble_eq_true rfl) lk_RX9_36 rfl (Or.inl rfl) (sd_aload_n dX9_watch_5 rfl (sd_getr dX9_watch_6 zCl9 (Nat.le_of_ble_eq_true rfl) lk_RX9_289 (Or.inl ⟨_, rfl⟩) (sd_ifnonnull dX9_watch_9 rfl (fun _ _ _ h => h) (sd_aload_n dX9_watch_12 rfl (sd_iconst dX9_watch_13 rfl (sd_inv1 dX9_watch_14 rfl mv_X9_refused na_X9_refused ml_RX9_42 ⟨⟨Nat.le_of_ble_eq_true rfl, Nat.le_of_ble_eq_true rfl⟩, ⟨Nat.le_of_ble_eq_true rfl, Nat.le_of_ble_eq_true rfl⟩⟩ (sd_iret dX9_watch_17 rfl (Nat.le_of_ble_eq_true rfl) (Nat.le_of_ble_eq_true rfl))))))))))
def B_X9_watch_18 (X : Nat × (Nat → Int32)) (J : Nat → zCf) (R : zRt) : zCf := oILOAD 1 (oPI (zj (0)) (oPI (zj (6)) (oINS3 X M_X9_in (oIFNE (J 34) (oALOAD 0 (oPI (zj (2)) (oINV1 X M_X9_refused 9 (oIRET R))))))))
set_option maxRecDepth 100000 in
theorem vb_X9_watch_18 {X : Nat × (Nat → Int32)} {R : zRt} : ∀ ls st h, B_X9_watch_18 X (zV X M_X9_watch (zQm M_X9_watch R) 0 0) R ls st h → zV X M_X9_watch (zQm M_X9_watch R) 0 0 18 ls st h := sd_iload_n dX9_watch_18 rfl (sd_iconst dX9_watch_19 rfl (sd_bipush dX9_watch_20 rfl (sd_ins3 dX9_watch_22 ms_X9_in na_X9_in ml_RX9_115 ⟨⟨Nat.le_of_ble_eq_true rfl, Nat.le_of_ble_eq_true rfl⟩, ⟨Nat.le_of_ble_eq_true rfl, Nat.le_of_ble_eq_true rfl⟩⟩ (sd_ifne dX9_watch_25 rfl (fun _ _ _ h => h) (sd_aload_n dX9_watch_28 rfl (sd_iconst dX9_watch_29 rfl (sd_inv1 dX9_watch_30 rfl mv_X9_refused na_X9_refused ml_RX9_42 ⟨⟨Nat.le_of_ble_eq_true rfl, Nat.le_of_ble_eq_true rfl⟩, ⟨Nat.le_of_ble_eq_true rfl, Nat.le_of_ble_eq_true rfl⟩⟩ (sd_iret dX9_watch_33 rfl (Nat.le_of_ble_eq_true rfl) (Nat.le_of_ble_eq_true rfl)))))))))
def B_X9_watch_34 (X : Nat × (Nat → Int32)) (J : Nat → zCf) (R : zRt) : zCf := oPI (zj (-1)) (oISTORE 1 2 (oPI (zj (1)) (oISTORE 2 3 (J 38))))
set_option maxRecDepth 100000 in
theorem vb_X9_watch_34 {X : Nat × (Nat → Int32)} {R : zRt} : ∀ ls st h, B_X9_watch_34 X (zV X M_X9_watch (zQm M_X9_watch R) 0 0) R ls st h → zV X M_X9_watch (zQm M_X9_watch R) 0 0 34 ls st h := sd_iconst dX9_watch_34 rfl (sd_istore_n dX9_watch_35 rfl (Nat.le_of_ble_eq_true rfl) (Or.inl rfl) (sd_iconst dX9_watch_36 rfl (sd_istore_n dX9_watch_37 rfl (Nat.le_of_ble_eq_true rfl) (Or.inl rfl) (fun _ _ _ h => h))))
def B_X9_watch_38 (X : Nat × (Nat → Int32)) (J : Nat → zCf) (R : zRt) : zCf := oILOAD 3 (oPI (zj (4096)) (oICGE (J 78) (oILOAD 2 (oPI (zj (-1)) (oICEQ (J 61) (oILOAD 3 (oINS1 X M_X9_bits (oILOAD 2 (oINS1 X M_X9_bits (oICGE (J 72) (J 61)))))))))))
set_option maxRecDepth 100000 in
theorem vb_X9_watch_38 {X : Nat × (Nat → Int32)} {R : zRt} : ∀ ls st h, B_X9_watch_38 X (zV X M_X9_watch (zQm M_X9_watch R) 0 0) R ls st h → zV X M_X9_watch (zQm M_X9_watch R) 0 0 38 ls st h := sd_iload_n dX9_watch_38 rfl (sd_sipush dX9_watch_39 rfl (sd_icge dX9_watch_42 rfl (fun _ _ _ h => h) (sd_iload_n dX9_watch_45 rfl (sd_iconst dX9_watch_46 rfl (sd_iceq dX9_watch_47 rfl (fun _ _ _ h => h) (sd_iload_n dX9_watch_50 rfl (sd_ins1 dX9_watch_51 ms_X9_bits na_X9_bits ml_RX9_347 ⟨⟨Nat.le_of_ble_eq_true rfl, Nat.le_of_ble_eq_true rfl⟩, ⟨Nat.le_of_ble_eq_true rfl, Nat.le_of_ble_eq_true rfl⟩⟩ (sd_iload_n dX9_watch_54 rfl (sd_ins1 dX9_watch_55 ms_X9_bits na_X9_bits ml_RX9_347 ⟨⟨Nat.le_of_ble_eq_true rfl, Nat.le_of_ble_eq_true rfl⟩, ⟨Nat.le_of_ble_eq_true rfl, Nat.le_of_ble_eq_true rfl⟩⟩ (sd_icge dX9_watch_58 rfl (fun _ _ _ h => h) (fun _ _ _ h => h)))))))))))
def B_X9_watch_61 (X : Nat × (Nat → Int32)) (J : Nat → zCf) (R : zRt) : zCf := oALOAD 0 (oILOAD 3 (oILOAD 1 (oINV2 X M_X9_isWatched 9 (oIFEQ (J 72) (oILOAD 3 (oISTORE 1 2 (J 72)))))))
set_option maxRecDepth 100000 in
theorem vb_X9_watch_61 {X : Nat × (Nat → Int32)} {R : zRt} : ∀ ls st h, B_X9_watch_61 X (zV X M_X9_watch (zQm M_X9_watch R) 0 0) R ls st h → zV X M_X9_watch (zQm M_X9_watch R) 0 0 61 ls st h := sd_aload_n dX9_watch_61 rfl (sd_iload_n dX9_watch_62 rfl (sd_iload_n dX9_watch_63 rfl (sd_inv2 dX9_watch_64 rfl mv_X9_isWatched na_X9_isWatched ml_RX9_430 ⟨⟨Nat.le_of_ble_eq_true rfl, Nat.le_of_ble_eq_true rfl⟩, ⟨Nat.le_of_ble_eq_true rfl, Nat.le_of_ble_eq_true rfl⟩⟩ (sd_ifeq dX9_watch_67 rfl (fun _ _ _ h => h) (sd_iload_n dX9_watch_70 rfl (sd_istore_n dX9_watch_71 rfl (Nat.le_of_ble_eq_true rfl) (Or.inl rfl) (fun _ _ _ h => h)))))))
def B_X9_watch_72 (X : Nat × (Nat → Int32)) (J : Nat → zCf) (R : zRt) : zCf := oIINC 2 3 (zj (1)) (J 38)
set_option maxRecDepth 100000 in
theorem vb_X9_watch_72 {X : Nat × (Nat → Int32)} {R : zRt} : ∀ ls st h, B_X9_watch_72 X (zV X M_X9_watch (zQm M_X9_watch R) 0 0) R ls st h → zV X M_X9_watch (zQm M_X9_watch R) 0 0 72 ls st h := sd_iinc dX9_watch_72 rfl (Nat.le_of_ble_eq_true rfl) (Or.inl rfl) (sd_goto dX9_watch_75 rfl (fun _ _ _ h => h))
def B_X9_watch_78 (X : Nat × (Nat → Int32)) (J : Nat → zCf) (R : zRt) : zCf := oALOAD 0 (oILOAD 2 (oINV1 X M_X9_good 9 (oIRET R)))
set_option maxRecDepth 100000 in
theorem vb_X9_watch_78 {X : Nat × (Nat → Int32)} {R : zRt} : ∀ ls st h, B_X9_watch_78 X (zV X M_X9_watch (zQm M_X9_watch R) 0 0) R ls st h → zV X M_X9_watch (zQm M_X9_watch R) 0 0 78 ls st h := sd_aload_n dX9_watch_78 rfl (sd_iload_n dX9_watch_79 rfl (sd_inv1 dX9_watch_80 rfl mv_X9_good na_X9_good ml_RX9_46 ⟨⟨Nat.le_of_ble_eq_true rfl, Nat.le_of_ble_eq_true rfl⟩, ⟨Nat.le_of_ble_eq_true rfl, Nat.le_of_ble_eq_true rfl⟩⟩ (sd_iret dX9_watch_83 rfl (Nat.le_of_ble_eq_true rfl) (Nat.le_of_ble_eq_true rfl))))
theorem dX9_person_0 : decode cX9_person 0 = .ok (.aload_n 0, 1) := by decide +kernel
theorem dX9_person_1 : decode cX9_person 1 = .ok (.iconst 0, 1) := by decide +kernel
theorem dX9_person_2 : decode cX9_person 2 = .ok (.putfield 36, 3) := by decide +kernel
theorem dX9_person_5 : decode cX9_person 5 = .ok (.aload_n 0, 1) := by decide +kernel
theorem dX9_person_6 : decode cX9_person 6 = .ok (.iload_n 1, 1) := by decide +kernel
theorem dX9_person_7 : decode cX9_person 7 = .ok (.invokevirtual 433, 3) := by decide +kernel
theorem dX9_person_10 : decode cX9_person 10 = .ok (.ifCond .eq 12, 3) := by decide +kernel
theorem dX9_person_13 : decode cX9_person 13 = .ok (.iload_n 2, 1) := by decide +kernel
theorem dX9_person_14 : decode cX9_person 14 = .ok (.iconst 0, 1) := by decide +kernel
theorem dX9_person_15 : decode cX9_person 15 = .ok (.iconst 2, 1) := by decide +kernel
theorem dX9_person_16 : decode cX9_person 16 = .ok (.invokestatic 115, 3) := by decide +kernel
theorem dX9_person_19 : decode cX9_person 19 = .ok (.ifCond .ne 9, 3) := by decide +kernel
theorem dX9_person_22 : decode cX9_person 22 = .ok (.aload_n 0, 1) := by decide +kernel
theorem dX9_person_23 : decode cX9_person 23 = .ok (.iconst 1, 1) := by decide +kernel
theorem dX9_person_24 : decode cX9_person 24 = .ok (.invokevirtual 42, 3) := by decide +kernel
theorem dX9_person_27 : decode cX9_person 27 = .ok (.ireturn, 1) := by decide +kernel
theorem dX9_person_28 : decode cX9_person 28 = .ok (.aload_n 0, 1) := by decide +kernel
theorem dX9_person_29 : decode cX9_person 29 = .ok (.iload_n 2, 1) := by decide +kernel
theorem dX9_person_30 : decode cX9_person 30 = .ok (.ifCond .ne 18, 3) := by decide +kernel
theorem dX9_person_33 : decode cX9_person 33 = .ok (.aload_n 0, 1) := by decide +kernel
theorem dX9_person_34 : decode cX9_person 34 = .ok (.getfield 17, 3) := by decide +kernel
theorem dX9_person_37 : decode cX9_person 37 = .ok (.bipush 6, 2) := by decide +kernel
theorem dX9_person_39 : decode cX9_person 39 = .ok (.iload_n 1, 1) := by decide +kernel
theorem dX9_person_40 : decode cX9_person 40 = .ok (.iadd, 1) := by decide +kernel
theorem dX9_person_41 : decode cX9_person 41 = .ok (.iaload, 1) := by decide +kernel
theorem dX9_person_42 : decode cX9_person 42 = .ok (.invokestatic 310, 3) := by decide +kernel
theorem dX9_person_45 : decode cX9_person 45 = .ok (.goto 32, 3) := by decide +kernel
theorem dX9_person_48 : decode cX9_person 48 = .ok (.iload_n 2, 1) := by decide +kernel
theorem dX9_person_49 : decode cX9_person 49 = .ok (.iconst 1, 1) := by decide +kernel
theorem dX9_person_50 : decode cX9_person 50 = .ok (.if_icmp .ne 18, 3) := by decide +kernel
theorem dX9_person_53 : decode cX9_person 53 = .ok (.aload_n 0, 1) := by decide +kernel
theorem dX9_person_54 : decode cX9_person 54 = .ok (.getfield 17, 3) := by decide +kernel
theorem dX9_person_57 : decode cX9_person 57 = .ok (.bipush 6, 2) := by decide +kernel
theorem dX9_person_59 : decode cX9_person 59 = .ok (.iload_n 1, 1) := by decide +kernel
theorem dX9_person_60 : decode cX9_person 60 = .ok (.iadd, 1) := by decide +kernel
theorem dX9_person_61 : decode cX9_person 61 = .ok (.iaload, 1) := by decide +kernel
theorem dX9_person_62 : decode cX9_person 62 = .ok (.invokestatic 316, 3) := by decide +kernel
theorem dX9_person_65 : decode cX9_person 65 = .ok (.goto 12, 3) := by decide +kernel
theorem dX9_person_68 : decode cX9_person 68 = .ok (.aload_n 0, 1) := by decide +kernel
theorem dX9_person_69 : decode cX9_person 69 = .ok (.getfield 17, 3) := by decide +kernel
theorem dX9_person_72 : decode cX9_person 72 = .ok (.bipush 10, 2) := by decide +kernel
theorem dX9_person_74 : decode cX9_person 74 = .ok (.iload_n 1, 1) := by decide +kernel
theorem dX9_person_75 : decode cX9_person 75 = .ok (.iadd, 1) := by decide +kernel
theorem dX9_person_76 : decode cX9_person 76 = .ok (.iaload, 1) := by decide +kernel
theorem dX9_person_77 : decode cX9_person 77 = .ok (.invokevirtual 46, 3) := by decide +kernel
theorem dX9_person_80 : decode cX9_person 80 = .ok (.ireturn, 1) := by decide +kernel
def B_X9_person_0 (X : Nat × (Nat → Int32)) (J : Nat → zCf) (R : zRt) : zCf := oALOAD 0 (oPI (zj (0)) (oPUTI 9 0 (oALOAD 0 (oILOAD 1 (oINV1 X M_X9_isPerson 9 (oIFEQ (J 22) (oILOAD 2 (oPI (zj (0)) (oPI (zj (2)) (oINS3 X M_X9_in (oIFNE (J 28) (J 22))))))))))))
set_option maxRecDepth 100000 in
theorem vb_X9_person_0 {X : Nat × (Nat → Int32)} {R : zRt} : ∀ ls st h, B_X9_person_0 X (zV X M_X9_person (zQm M_X9_person R) 0 0) R ls st h → zV X M_X9_person (zQm M_X9_person R) 0 0 0 ls st h := sd_aload_n dX9_person_0 rfl (sd_iconst dX9_person_1 rfl (sd_puti dX9_person_2 zCl9 (Nat.le_of_ble_eq_true rfl) lk_RX9_36 rfl (Or.inl rfl) (sd_aload_n dX9_person_5 rfl (sd_iload_n dX9_person_6 rfl (sd_inv1 dX9_person_7 rfl mv_X9_isPerson na_X9_isPerson ml_RX9_433 ⟨⟨Nat.le_of_ble_eq_true rfl, Nat.le_of_ble_eq_true rfl⟩, ⟨Nat.le_of_ble_eq_true rfl, Nat.le_of_ble_eq_true rfl⟩⟩ (sd_ifeq dX9_person_10 rfl (fun _ _ _ h => h) (sd_iload_n dX9_person_13 rfl (sd_iconst dX9_person_14 rfl (sd_iconst dX9_person_15 rfl (sd_ins3 dX9_person_16 ms_X9_in na_X9_in ml_RX9_115 ⟨⟨Nat.le_of_ble_eq_true rfl, Nat.le_of_ble_eq_true rfl⟩, ⟨Nat.le_of_ble_eq_true rfl, Nat.le_of_ble_eq_true rfl⟩⟩ (sd_ifne dX9_person_19 rfl (fun _ _ _ h => h) (fun _ _ _ h => h))))))))))))
def B_X9_person_22 (X : Nat × (Nat → Int32)) (J : Nat → zCf) (R : zRt) : zCf := oALOAD 0 (oPI (zj (1)) (oINV1 X M_X9_refused 9 (oIRET R)))
set_option maxRecDepth 100000 in
theorem vb_X9_person_22 {X : Nat × (Nat → Int32)} {R : zRt} : ∀ ls st h, B_X9_person_22 X (zV X M_X9_person (zQm M_X9_person R) 0 0) R ls st h → zV X M_X9_person (zQm M_X9_person R) 0 0 22 ls st h := sd_aload_n dX9_person_22 rfl (sd_iconst dX9_person_23 rfl (sd_inv1 dX9_person_24 rfl mv_X9_refused na_X9_refused ml_RX9_42 ⟨⟨Nat.le_of_ble_eq_true rfl, Nat.le_of_ble_eq_true rfl⟩, ⟨Nat.le_of_ble_eq_true rfl, Nat.le_of_ble_eq_true rfl⟩⟩ (sd_iret dX9_person_27 rfl (Nat.le_of_ble_eq_true rfl) (Nat.le_of_ble_eq_true rfl))))
def B_X9_person_28 (X : Nat × (Nat → Int32)) (J : Nat → zCf) (R : zRt) : zCf := oALOAD 0 (oILOAD 2 (oIFNE (J 48) (oALOAD 0 (oGETR 9 15 (oPI (zj (6)) (oILOAD 1 (oIADD (oIALD (oINS1 X M_X9_countryOf (J 77))))))))))
set_option maxRecDepth 100000 in
theorem vb_X9_person_28 {X : Nat × (Nat → Int32)} {R : zRt} : ∀ ls st h, B_X9_person_28 X (zV X M_X9_person (zQm M_X9_person R) 0 0) R ls st h → zV X M_X9_person (zQm M_X9_person R) 0 0 28 ls st h := sd_aload_n dX9_person_28 rfl (sd_iload_n dX9_person_29 rfl (sd_ifne dX9_person_30 rfl (fun _ _ _ h => h) (sd_aload_n dX9_person_33 rfl (sd_getr dX9_person_34 zCl9 (Nat.le_of_ble_eq_true rfl) lk_RX9_17 (Or.inr ⟨_, rfl⟩) (sd_bipush dX9_person_37 rfl (sd_iload_n dX9_person_39 rfl (sd_iadd dX9_person_40 (sd_iald dX9_person_41 (sd_ins1 dX9_person_42 ms_X9_countryOf na_X9_countryOf ml_RX9_310 ⟨⟨Nat.le_of_ble_eq_true rfl, Nat.le_of_ble_eq_true rfl⟩, ⟨Nat.le_of_ble_eq_true rfl, Nat.le_of_ble_eq_true rfl⟩⟩ (sd_goto dX9_person_45 rfl (fun _ _ _ h => h)))))))))))
def B_X9_person_48 (X : Nat × (Nat → Int32)) (J : Nat → zCf) (R : zRt) : zCf := oILOAD 2 (oPI (zj (1)) (oICNE (J 68) (oALOAD 0 (oGETR 9 15 (oPI (zj (6)) (oILOAD 1 (oIADD (oIALD (oINS1 X M_X9_cellOf (J 77))))))))))
set_option maxRecDepth 100000 in
theorem vb_X9_person_48 {X : Nat × (Nat → Int32)} {R : zRt} : ∀ ls st h, B_X9_person_48 X (zV X M_X9_person (zQm M_X9_person R) 0 0) R ls st h → zV X M_X9_person (zQm M_X9_person R) 0 0 48 ls st h := sd_iload_n dX9_person_48 rfl (sd_iconst dX9_person_49 rfl (sd_icne dX9_person_50 rfl (fun _ _ _ h => h) (sd_aload_n dX9_person_53 rfl (sd_getr dX9_person_54 zCl9 (Nat.le_of_ble_eq_true rfl) lk_RX9_17 (Or.inr ⟨_, rfl⟩) (sd_bipush dX9_person_57 rfl (sd_iload_n dX9_person_59 rfl (sd_iadd dX9_person_60 (sd_iald dX9_person_61 (sd_ins1 dX9_person_62 ms_X9_cellOf na_X9_cellOf ml_RX9_316 ⟨⟨Nat.le_of_ble_eq_true rfl, Nat.le_of_ble_eq_true rfl⟩, ⟨Nat.le_of_ble_eq_true rfl, Nat.le_of_ble_eq_true rfl⟩⟩ (sd_goto dX9_person_65 rfl (fun _ _ _ h => h)))))))))))
def B_X9_person_68 (X : Nat × (Nat → Int32)) (J : Nat → zCf) (R : zRt) : zCf := oALOAD 0 (oGETR 9 15 (oPI (zj (10)) (oILOAD 1 (oIADD (oIALD (J 77))))))
set_option maxRecDepth 100000 in
theorem vb_X9_person_68 {X : Nat × (Nat → Int32)} {R : zRt} : ∀ ls st h, B_X9_person_68 X (zV X M_X9_person (zQm M_X9_person R) 0 0) R ls st h → zV X M_X9_person (zQm M_X9_person R) 0 0 68 ls st h := sd_aload_n dX9_person_68 rfl (sd_getr dX9_person_69 zCl9 (Nat.le_of_ble_eq_true rfl) lk_RX9_17 (Or.inr ⟨_, rfl⟩) (sd_bipush dX9_person_72 rfl (sd_iload_n dX9_person_74 rfl (sd_iadd dX9_person_75 (sd_iald dX9_person_76 (fun _ _ _ h => h))))))
def B_X9_person_77 (X : Nat × (Nat → Int32)) (J : Nat → zCf) (R : zRt) : zCf := oINV1 X M_X9_good 9 (oIRET R)
set_option maxRecDepth 100000 in
theorem vb_X9_person_77 {X : Nat × (Nat → Int32)} {R : zRt} : ∀ ls st h, B_X9_person_77 X (zV X M_X9_person (zQm M_X9_person R) 0 0) R ls st h → zV X M_X9_person (zQm M_X9_person R) 0 0 77 ls st h := sd_inv1 dX9_person_77 rfl mv_X9_good na_X9_good ml_RX9_46 ⟨⟨Nat.le_of_ble_eq_true rfl, Nat.le_of_ble_eq_true rfl⟩, ⟨Nat.le_of_ble_eq_true rfl, Nat.le_of_ble_eq_true rfl⟩⟩ (sd_iret dX9_person_80 rfl (Nat.le_of_ble_eq_true rfl) (Nat.le_of_ble_eq_true rfl))
theorem dX9_step_0 : decode cX9_step 0 = .ok (.iload_n 0, 1) := by decide +kernel
theorem dX9_step_1 : decode cX9_step 1 = .ok (.iload_n 1, 1) := by decide +kernel
theorem dX9_step_2 : decode cX9_step 2 = .ok (.ifCond .eq 7, 3) := by decide +kernel
theorem dX9_step_5 : decode cX9_step 5 = .ok (.iconst 1, 1) := by decide +kernel
theorem dX9_step_6 : decode cX9_step 6 = .ok (.goto 5, 3) := by decide +kernel
theorem dX9_step_9 : decode cX9_step 9 = .ok (.bipush 71, 2) := by decide +kernel
theorem dX9_step_11 : decode cX9_step 11 = .ok (.iadd, 1) := by decide +kernel
theorem dX9_step_12 : decode cX9_step 12 = .ok (.bipush 72, 2) := by decide +kernel
theorem dX9_step_14 : decode cX9_step 14 = .ok (.irem, 1) := by decide +kernel
theorem dX9_step_15 : decode cX9_step 15 = .ok (.ireturn, 1) := by decide +kernel
def B_X9_step_0 (X : Nat × (Nat → Int32)) (J : Nat → zCf) (R : zRt) : zCf := oILOAD 0 (oILOAD 1 (oIFEQ (J 9) (oPI (zj (1)) (J 11))))
set_option maxRecDepth 100000 in
theorem vb_X9_step_0 {X : Nat × (Nat → Int32)} {R : zRt} : ∀ ls st h, B_X9_step_0 X (zV X M_X9_step (zQm M_X9_step R) 0 0) R ls st h → zV X M_X9_step (zQm M_X9_step R) 0 0 0 ls st h := sd_iload_n dX9_step_0 rfl (sd_iload_n dX9_step_1 rfl (sd_ifeq dX9_step_2 rfl (fun _ _ _ h => h) (sd_iconst dX9_step_5 rfl (sd_goto dX9_step_6 rfl (fun _ _ _ h => h)))))
def B_X9_step_9 (X : Nat × (Nat → Int32)) (J : Nat → zCf) (R : zRt) : zCf := oPI (zj (71)) (J 11)
set_option maxRecDepth 100000 in
theorem vb_X9_step_9 {X : Nat × (Nat → Int32)} {R : zRt} : ∀ ls st h, B_X9_step_9 X (zV X M_X9_step (zQm M_X9_step R) 0 0) R ls st h → zV X M_X9_step (zQm M_X9_step R) 0 0 9 ls st h := sd_bipush dX9_step_9 rfl (fun _ _ _ h => h)
def B_X9_step_11 (X : Nat × (Nat → Int32)) (J : Nat → zCf) (R : zRt) : zCf := oIADD (oPI (zj (72)) (oIREM (oIRET R)))
set_option maxRecDepth 100000 in
theorem vb_X9_step_11 {X : Nat × (Nat → Int32)} {R : zRt} : ∀ ls st h, B_X9_step_11 X (zV X M_X9_step (zQm M_X9_step R) 0 0) R ls st h → zV X M_X9_step (zQm M_X9_step R) 0 0 11 ls st h := sd_iadd dX9_step_11 (sd_bipush dX9_step_12 rfl (sd_irem dX9_step_14 (sd_iret dX9_step_15 rfl (Nat.le_of_ble_eq_true rfl) (Nat.le_of_ble_eq_true rfl))))
theorem dX9_longBy_0 : decode cX9_longBy 0 = .ok (.iconst 0, 1) := by decide +kernel
theorem dX9_longBy_1 : decode cX9_longBy 1 = .ok (.istore 4, 2) := by decide +kernel
theorem dX9_longBy_3 : decode cX9_longBy 3 = .ok (.iload_n 1, 1) := by decide +kernel
theorem dX9_longBy_4 : decode cX9_longBy 4 = .ok (.istore 5, 2) := by decide +kernel
theorem dX9_longBy_6 : decode cX9_longBy 6 = .ok (.iload 5, 2) := by decide +kernel
theorem dX9_longBy_8 : decode cX9_longBy 8 = .ok (.iload_n 2, 1) := by decide +kernel
theorem dX9_longBy_9 : decode cX9_longBy 9 = .ok (.if_icmp .eq 29, 3) := by decide +kernel
theorem dX9_longBy_12 : decode cX9_longBy 12 = .ok (.iload 4, 2) := by decide +kernel
theorem dX9_longBy_14 : decode cX9_longBy 14 = .ok (.aload_n 0, 1) := by decide +kernel
theorem dX9_longBy_15 : decode cX9_longBy 15 = .ok (.iload 5, 2) := by decide +kernel
theorem dX9_longBy_17 : decode cX9_longBy 17 = .ok (.iload_n 3, 1) := by decide +kernel
theorem dX9_longBy_18 : decode cX9_longBy 18 = .ok (.invokestatic 436, 3) := by decide +kernel
theorem dX9_longBy_21 : decode cX9_longBy 21 = .ok (.invokevirtual 440, 3) := by decide +kernel
theorem dX9_longBy_24 : decode cX9_longBy 24 = .ok (.iadd, 1) := by decide +kernel
theorem dX9_longBy_25 : decode cX9_longBy 25 = .ok (.istore 4, 2) := by decide +kernel
theorem dX9_longBy_27 : decode cX9_longBy 27 = .ok (.iload 5, 2) := by decide +kernel
theorem dX9_longBy_29 : decode cX9_longBy 29 = .ok (.iload_n 3, 1) := by decide +kernel
theorem dX9_longBy_30 : decode cX9_longBy 30 = .ok (.invokestatic 436, 3) := by decide +kernel
theorem dX9_longBy_33 : decode cX9_longBy 33 = .ok (.istore 5, 2) := by decide +kernel
theorem dX9_longBy_35 : decode cX9_longBy 35 = .ok (.goto (-29), 3) := by decide +kernel
theorem dX9_longBy_38 : decode cX9_longBy 38 = .ok (.iload 4, 2) := by decide +kernel
theorem dX9_longBy_40 : decode cX9_longBy 40 = .ok (.ireturn, 1) := by decide +kernel
def B_X9_longBy_0 (X : Nat × (Nat → Int32)) (J : Nat → zCf) (R : zRt) : zCf := oPI (zj (0)) (oISTORE 3 4 (oILOAD 1 (oISTORE 4 5 (J 6))))
set_option maxRecDepth 100000 in
theorem vb_X9_longBy_0 {X : Nat × (Nat → Int32)} {R : zRt} : ∀ ls st h, B_X9_longBy_0 X (zV X M_X9_longBy (zQm M_X9_longBy R) 0 0) R ls st h → zV X M_X9_longBy (zQm M_X9_longBy R) 0 0 0 ls st h := sd_iconst dX9_longBy_0 rfl (sd_istore dX9_longBy_1 (Nat.le_of_ble_eq_true rfl) (Or.inl rfl) (sd_iload_n dX9_longBy_3 rfl (sd_istore dX9_longBy_4 (Nat.le_of_ble_eq_true rfl) (Or.inl rfl) (fun _ _ _ h => h))))
def B_X9_longBy_6 (X : Nat × (Nat → Int32)) (J : Nat → zCf) (R : zRt) : zCf := oILOAD 5 (oILOAD 2 (oICEQ (J 38) (oILOAD 4 (oALOAD 0 (oILOAD 5 (oILOAD 3 (oINS2 X M_X9_step (oINV1 X M_X9_costOf 9 (oIADD (oISTORE 3 4 (oILOAD 5 (oILOAD 3 (oINS2 X M_X9_step (oISTORE 4 5 (J 6)))))))))))))))
set_option maxRecDepth 100000 in
theorem vb_X9_longBy_6 {X : Nat × (Nat → Int32)} {R : zRt} : ∀ ls st h, B_X9_longBy_6 X (zV X M_X9_longBy (zQm M_X9_longBy R) 0 0) R ls st h → zV X M_X9_longBy (zQm M_X9_longBy R) 0 0 6 ls st h := sd_iload dX9_longBy_6 (sd_iload_n dX9_longBy_8 rfl (sd_iceq dX9_longBy_9 rfl (fun _ _ _ h => h) (sd_iload dX9_longBy_12 (sd_aload_n dX9_longBy_14 rfl (sd_iload dX9_longBy_15 (sd_iload_n dX9_longBy_17 rfl (sd_ins2 dX9_longBy_18 ms_X9_step na_X9_step ml_RX9_436 ⟨⟨Nat.le_of_ble_eq_true rfl, Nat.le_of_ble_eq_true rfl⟩, ⟨Nat.le_of_ble_eq_true rfl, Nat.le_of_ble_eq_true rfl⟩⟩ (sd_inv1 dX9_longBy_21 rfl mv_X9_costOf na_X9_costOf ml_RX9_440 ⟨⟨Nat.le_of_ble_eq_true rfl, Nat.le_of_ble_eq_true rfl⟩, ⟨Nat.le_of_ble_eq_true rfl, Nat.le_of_ble_eq_true rfl⟩⟩ (sd_iadd dX9_longBy_24 (sd_istore dX9_longBy_25 (Nat.le_of_ble_eq_true rfl) (Or.inl rfl) (sd_iload dX9_longBy_27 (sd_iload_n dX9_longBy_29 rfl (sd_ins2 dX9_longBy_30 ms_X9_step na_X9_step ml_RX9_436 ⟨⟨Nat.le_of_ble_eq_true rfl, Nat.le_of_ble_eq_true rfl⟩, ⟨Nat.le_of_ble_eq_true rfl, Nat.le_of_ble_eq_true rfl⟩⟩ (sd_istore dX9_longBy_33 (Nat.le_of_ble_eq_true rfl) (Or.inl rfl) (sd_goto dX9_longBy_35 rfl (fun _ _ _ h => h))))))))))))))))
def B_X9_longBy_38 (X : Nat × (Nat → Int32)) (J : Nat → zCf) (R : zRt) : zCf := oILOAD 4 (oIRET R)
set_option maxRecDepth 100000 in
theorem vb_X9_longBy_38 {X : Nat × (Nat → Int32)} {R : zRt} : ∀ ls st h, B_X9_longBy_38 X (zV X M_X9_longBy (zQm M_X9_longBy R) 0 0) R ls st h → zV X M_X9_longBy (zQm M_X9_longBy R) 0 0 38 ls st h := sd_iload dX9_longBy_38 (sd_iret dX9_longBy_40 rfl (Nat.le_of_ble_eq_true rfl) (Nat.le_of_ble_eq_true rfl))
theorem dX9_wayTo_0 : decode cX9_wayTo 0 = .ok (.aload_n 0, 1) := by decide +kernel
theorem dX9_wayTo_1 : decode cX9_wayTo 1 = .ok (.iload_n 1, 1) := by decide +kernel
theorem dX9_wayTo_2 : decode cX9_wayTo 2 = .ok (.iload_n 2, 1) := by decide +kernel
theorem dX9_wayTo_3 : decode cX9_wayTo 3 = .ok (.iconst 1, 1) := by decide +kernel
theorem dX9_wayTo_4 : decode cX9_wayTo 4 = .ok (.invokevirtual 443, 3) := by decide +kernel
theorem dX9_wayTo_7 : decode cX9_wayTo 7 = .ok (.istore_n 3, 1) := by decide +kernel
theorem dX9_wayTo_8 : decode cX9_wayTo 8 = .ok (.aload_n 0, 1) := by decide +kernel
theorem dX9_wayTo_9 : decode cX9_wayTo 9 = .ok (.iload_n 1, 1) := by decide +kernel
theorem dX9_wayTo_10 : decode cX9_wayTo 10 = .ok (.iload_n 2, 1) := by decide +kernel
theorem dX9_wayTo_11 : decode cX9_wayTo 11 = .ok (.iconst 0, 1) := by decide +kernel
theorem dX9_wayTo_12 : decode cX9_wayTo 12 = .ok (.invokevirtual 443, 3) := by decide +kernel
theorem dX9_wayTo_15 : decode cX9_wayTo 15 = .ok (.istore 4, 2) := by decide +kernel
theorem dX9_wayTo_17 : decode cX9_wayTo 17 = .ok (.iload_n 3, 1) := by decide +kernel
theorem dX9_wayTo_18 : decode cX9_wayTo 18 = .ok (.iload 4, 2) := by decide +kernel
theorem dX9_wayTo_20 : decode cX9_wayTo 20 = .ok (.if_icmp .gt 7, 3) := by decide +kernel
theorem dX9_wayTo_23 : decode cX9_wayTo 23 = .ok (.iload_n 3, 1) := by decide +kernel
theorem dX9_wayTo_24 : decode cX9_wayTo 24 = .ok (.goto 5, 3) := by decide +kernel
theorem dX9_wayTo_27 : decode cX9_wayTo 27 = .ok (.iload 4, 2) := by decide +kernel
theorem dX9_wayTo_29 : decode cX9_wayTo 29 = .ok (.ireturn, 1) := by decide +kernel
def B_X9_wayTo_0 (X : Nat × (Nat → Int32)) (J : Nat → zCf) (R : zRt) : zCf := oALOAD 0 (oILOAD 1 (oILOAD 2 (oPI (zj (1)) (oINV3 X M_X9_longBy 9 (oISTORE 2 3 (oALOAD 0 (oILOAD 1 (oILOAD 2 (oPI (zj (0)) (oINV3 X M_X9_longBy 9 (oISTORE 3 4 (oILOAD 3 (oILOAD 4 (oICGT (J 27) (oILOAD 3 (J 29))))))))))))))))
set_option maxRecDepth 100000 in
theorem vb_X9_wayTo_0 {X : Nat × (Nat → Int32)} {R : zRt} : ∀ ls st h, B_X9_wayTo_0 X (zV X M_X9_wayTo (zQm M_X9_wayTo R) 0 0) R ls st h → zV X M_X9_wayTo (zQm M_X9_wayTo R) 0 0 0 ls st h := sd_aload_n dX9_wayTo_0 rfl (sd_iload_n dX9_wayTo_1 rfl (sd_iload_n dX9_wayTo_2 rfl (sd_iconst dX9_wayTo_3 rfl (sd_inv3 dX9_wayTo_4 rfl mv_X9_longBy na_X9_longBy ml_RX9_443 ⟨⟨Nat.le_of_ble_eq_true rfl, Nat.le_of_ble_eq_true rfl⟩, ⟨Nat.le_of_ble_eq_true rfl, Nat.le_of_ble_eq_true rfl⟩⟩ (sd_istore_n dX9_wayTo_7 rfl (Nat.le_of_ble_eq_true rfl) (Or.inl rfl) (sd_aload_n dX9_wayTo_8 rfl (sd_iload_n dX9_wayTo_9 rfl (sd_iload_n dX9_wayTo_10 rfl (sd_iconst dX9_wayTo_11 rfl (sd_inv3 dX9_wayTo_12 rfl mv_X9_longBy na_X9_longBy ml_RX9_443 ⟨⟨Nat.le_of_ble_eq_true rfl, Nat.le_of_ble_eq_true rfl⟩, ⟨Nat.le_of_ble_eq_true rfl, Nat.le_of_ble_eq_true rfl⟩⟩ (sd_istore dX9_wayTo_15 (Nat.le_of_ble_eq_true rfl) (Or.inl rfl) (sd_iload_n dX9_wayTo_17 rfl (sd_iload dX9_wayTo_18 (sd_icgt dX9_wayTo_20 rfl (fun _ _ _ h => h) (sd_iload_n dX9_wayTo_23 rfl (sd_goto dX9_wayTo_24 rfl (fun _ _ _ h => h)))))))))))))))))
def B_X9_wayTo_27 (X : Nat × (Nat → Int32)) (J : Nat → zCf) (R : zRt) : zCf := oILOAD 4 (J 29)
set_option maxRecDepth 100000 in
theorem vb_X9_wayTo_27 {X : Nat × (Nat → Int32)} {R : zRt} : ∀ ls st h, B_X9_wayTo_27 X (zV X M_X9_wayTo (zQm M_X9_wayTo R) 0 0) R ls st h → zV X M_X9_wayTo (zQm M_X9_wayTo R) 0 0 27 ls st h := sd_iload dX9_wayTo_27 (fun _ _ _ h => h)
def B_X9_wayTo_29 (X : Nat × (Nat → Int32)) (J : Nat → zCf) (R : zRt) : zCf := oIRET R
set_option maxRecDepth 100000 in
theorem vb_X9_wayTo_29 {X : Nat × (Nat → Int32)} {R : zRt} : ∀ ls st h, B_X9_wayTo_29 X (zV X M_X9_wayTo (zQm M_X9_wayTo R) 0 0) R ls st h → zV X M_X9_wayTo (zQm M_X9_wayTo R) 0 0 29 ls st h := sd_iret dX9_wayTo_29 rfl (Nat.le_of_ble_eq_true rfl) (Nat.le_of_ble_eq_true rfl)
theorem dX9_refusesWay_0 : decode cX9_refusesWay 0 = .ok (.aload_n 0, 1) := by decide +kernel
theorem dX9_refusesWay_1 : decode cX9_refusesWay 1 = .ok (.iload_n 1, 1) := by decide +kernel
theorem dX9_refusesWay_2 : decode cX9_refusesWay 2 = .ok (.invokevirtual 433, 3) := by decide +kernel
theorem dX9_refusesWay_5 : decode cX9_refusesWay 5 = .ok (.ifCond .ne 7, 3) := by decide +kernel
theorem dX9_refusesWay_8 : decode cX9_refusesWay 8 = .ok (.iconst 1, 1) := by decide +kernel
theorem dX9_refusesWay_9 : decode cX9_refusesWay 9 = .ok (.goto 16, 3) := by decide +kernel
theorem dX9_refusesWay_12 : decode cX9_refusesWay 12 = .ok (.iload_n 2, 1) := by decide +kernel
theorem dX9_refusesWay_13 : decode cX9_refusesWay 13 = .ok (.iload_n 3, 1) := by decide +kernel
theorem dX9_refusesWay_14 : decode cX9_refusesWay 14 = .ok (.invokestatic 328, 3) := by decide +kernel
theorem dX9_refusesWay_17 : decode cX9_refusesWay 17 = .ok (.ifCond .eq 7, 3) := by decide +kernel
theorem dX9_refusesWay_20 : decode cX9_refusesWay 20 = .ok (.iconst 0, 1) := by decide +kernel
theorem dX9_refusesWay_21 : decode cX9_refusesWay 21 = .ok (.goto 4, 3) := by decide +kernel
theorem dX9_refusesWay_24 : decode cX9_refusesWay 24 = .ok (.iconst 2, 1) := by decide +kernel
theorem dX9_refusesWay_25 : decode cX9_refusesWay 25 = .ok (.ireturn, 1) := by decide +kernel
def B_X9_refusesWay_0 (X : Nat × (Nat → Int32)) (J : Nat → zCf) (R : zRt) : zCf := oALOAD 0 (oILOAD 1 (oINV1 X M_X9_isPerson 9 (oIFNE (J 12) (oPI (zj (1)) (J 25)))))
set_option maxRecDepth 100000 in
theorem vb_X9_refusesWay_0 {X : Nat × (Nat → Int32)} {R : zRt} : ∀ ls st h, B_X9_refusesWay_0 X (zV X M_X9_refusesWay (zQm M_X9_refusesWay R) 0 0) R ls st h → zV X M_X9_refusesWay (zQm M_X9_refusesWay R) 0 0 0 ls st h := sd_aload_n dX9_refusesWay_0 rfl (sd_iload_n dX9_refusesWay_1 rfl (sd_inv1 dX9_refusesWay_2 rfl mv_X9_isPerson na_X9_isPerson ml_RX9_433 ⟨⟨Nat.le_of_ble_eq_true rfl, Nat.le_of_ble_eq_true rfl⟩, ⟨Nat.le_of_ble_eq_true rfl, Nat.le_of_ble_eq_true rfl⟩⟩ (sd_ifne dX9_refusesWay_5 rfl (fun _ _ _ h => h) (sd_iconst dX9_refusesWay_8 rfl (sd_goto dX9_refusesWay_9 rfl (fun _ _ _ h => h))))))
def B_X9_refusesWay_12 (X : Nat × (Nat → Int32)) (J : Nat → zCf) (R : zRt) : zCf := oILOAD 2 (oILOAD 3 (oINS2 X M_X9_isPlace (oIFEQ (J 24) (oPI (zj (0)) (J 25)))))
set_option maxRecDepth 100000 in
theorem vb_X9_refusesWay_12 {X : Nat × (Nat → Int32)} {R : zRt} : ∀ ls st h, B_X9_refusesWay_12 X (zV X M_X9_refusesWay (zQm M_X9_refusesWay R) 0 0) R ls st h → zV X M_X9_refusesWay (zQm M_X9_refusesWay R) 0 0 12 ls st h := sd_iload_n dX9_refusesWay_12 rfl (sd_iload_n dX9_refusesWay_13 rfl (sd_ins2 dX9_refusesWay_14 ms_X9_isPlace na_X9_isPlace ml_RX9_328 ⟨⟨Nat.le_of_ble_eq_true rfl, Nat.le_of_ble_eq_true rfl⟩, ⟨Nat.le_of_ble_eq_true rfl, Nat.le_of_ble_eq_true rfl⟩⟩ (sd_ifeq dX9_refusesWay_17 rfl (fun _ _ _ h => h) (sd_iconst dX9_refusesWay_20 rfl (sd_goto dX9_refusesWay_21 rfl (fun _ _ _ h => h))))))
def B_X9_refusesWay_24 (X : Nat × (Nat → Int32)) (J : Nat → zCf) (R : zRt) : zCf := oPI (zj (2)) (J 25)
set_option maxRecDepth 100000 in
theorem vb_X9_refusesWay_24 {X : Nat × (Nat → Int32)} {R : zRt} : ∀ ls st h, B_X9_refusesWay_24 X (zV X M_X9_refusesWay (zQm M_X9_refusesWay R) 0 0) R ls st h → zV X M_X9_refusesWay (zQm M_X9_refusesWay R) 0 0 24 ls st h := sd_iconst dX9_refusesWay_24 rfl (fun _ _ _ h => h)
def B_X9_refusesWay_25 (X : Nat × (Nat → Int32)) (J : Nat → zCf) (R : zRt) : zCf := oIRET R
set_option maxRecDepth 100000 in
theorem vb_X9_refusesWay_25 {X : Nat × (Nat → Int32)} {R : zRt} : ∀ ls st h, B_X9_refusesWay_25 X (zV X M_X9_refusesWay (zQm M_X9_refusesWay R) 0 0) R ls st h → zV X M_X9_refusesWay (zQm M_X9_refusesWay R) 0 0 25 ls st h := sd_iret dX9_refusesWay_25 rfl (Nat.le_of_ble_eq_true rfl) (Nat.le_of_ble_eq_true rfl)
theorem dX9_way_0 : decode cX9_way 0 = .ok (.aload_n 0, 1) := by decide +kernel
theorem dX9_way_1 : decode cX9_way 1 = .ok (.iconst 0, 1) := by decide +kernel
theorem dX9_way_2 : decode cX9_way 2 = .ok (.putfield 36, 3) := by decide +kernel
theorem dX9_way_5 : decode cX9_way 5 = .ok (.aload_n 0, 1) := by decide +kernel
theorem dX9_way_6 : decode cX9_way 6 = .ok (.iload_n 1, 1) := by decide +kernel
theorem dX9_way_7 : decode cX9_way 7 = .ok (.iload_n 2, 1) := by decide +kernel
theorem dX9_way_8 : decode cX9_way 8 = .ok (.iload_n 3, 1) := by decide +kernel
theorem dX9_way_9 : decode cX9_way 9 = .ok (.invokevirtual 447, 3) := by decide +kernel
theorem dX9_way_12 : decode cX9_way 12 = .ok (.istore 4, 2) := by decide +kernel
theorem dX9_way_14 : decode cX9_way 14 = .ok (.iload 4, 2) := by decide +kernel
theorem dX9_way_16 : decode cX9_way 16 = .ok (.ifCond .le 12, 3) := by decide +kernel
theorem dX9_way_19 : decode cX9_way 19 = .ok (.aload_n 0, 1) := by decide +kernel
theorem dX9_way_20 : decode cX9_way 20 = .ok (.iload 4, 2) := by decide +kernel
theorem dX9_way_22 : decode cX9_way 22 = .ok (.invokevirtual 42, 3) := by decide +kernel
theorem dX9_way_25 : decode cX9_way 25 = .ok (.goto 25, 3) := by decide +kernel
theorem dX9_way_28 : decode cX9_way 28 = .ok (.aload_n 0, 1) := by decide +kernel
theorem dX9_way_29 : decode cX9_way 29 = .ok (.aload_n 0, 1) := by decide +kernel
theorem dX9_way_30 : decode cX9_way 30 = .ok (.aload_n 0, 1) := by decide +kernel
theorem dX9_way_31 : decode cX9_way 31 = .ok (.getfield 17, 3) := by decide +kernel
theorem dX9_way_34 : decode cX9_way 34 = .ok (.bipush 6, 2) := by decide +kernel
theorem dX9_way_36 : decode cX9_way 36 = .ok (.iload_n 1, 1) := by decide +kernel
theorem dX9_way_37 : decode cX9_way 37 = .ok (.iadd, 1) := by decide +kernel
theorem dX9_way_38 : decode cX9_way 38 = .ok (.iaload, 1) := by decide +kernel
theorem dX9_way_39 : decode cX9_way 39 = .ok (.iload_n 2, 1) := by decide +kernel
theorem dX9_way_40 : decode cX9_way 40 = .ok (.iload_n 3, 1) := by decide +kernel
theorem dX9_way_41 : decode cX9_way 41 = .ok (.invokestatic 291, 3) := by decide +kernel
theorem dX9_way_44 : decode cX9_way 44 = .ok (.invokevirtual 451, 3) := by decide +kernel
theorem dX9_way_47 : decode cX9_way 47 = .ok (.invokevirtual 46, 3) := by decide +kernel
theorem dX9_way_50 : decode cX9_way 50 = .ok (.ireturn, 1) := by decide +kernel
def B_X9_way_0 (X : Nat × (Nat → Int32)) (J : Nat → zCf) (R : zRt) : zCf := oALOAD 0 (oPI (zj (0)) (oPUTI 9 0 (oALOAD 0 (oILOAD 1 (oILOAD 2 (oILOAD 3 (oINV3 X M_X9_refusesWay 9 (oISTORE 3 4 (oILOAD 4 (oIFLE (J 28) (oALOAD 0 (oILOAD 4 (oINV1 X M_X9_refused 9 (J 50))))))))))))))
set_option maxRecDepth 100000 in
theorem vb_X9_way_0 {X : Nat × (Nat → Int32)} {R : zRt} : ∀ ls st h, B_X9_way_0 X (zV X M_X9_way (zQm M_X9_way R) 0 0) R ls st h → zV X M_X9_way (zQm M_X9_way R) 0 0 0 ls st h := sd_aload_n dX9_way_0 rfl (sd_iconst dX9_way_1 rfl (sd_puti dX9_way_2 zCl9 (Nat.le_of_ble_eq_true rfl) lk_RX9_36 rfl (Or.inl rfl) (sd_aload_n dX9_way_5 rfl (sd_iload_n dX9_way_6 rfl (sd_iload_n dX9_way_7 rfl (sd_iload_n dX9_way_8 rfl (sd_inv3 dX9_way_9 rfl mv_X9_refusesWay na_X9_refusesWay ml_RX9_447 ⟨⟨Nat.le_of_ble_eq_true rfl, Nat.le_of_ble_eq_true rfl⟩, ⟨Nat.le_of_ble_eq_true rfl, Nat.le_of_ble_eq_true rfl⟩⟩ (sd_istore dX9_way_12 (Nat.le_of_ble_eq_true rfl) (Or.inl rfl) (sd_iload dX9_way_14 (sd_ifle dX9_way_16 rfl (fun _ _ _ h => h) (sd_aload_n dX9_way_19 rfl (sd_iload dX9_way_20 (sd_inv1 dX9_way_22 rfl mv_X9_refused na_X9_refused ml_RX9_42 ⟨⟨Nat.le_of_ble_eq_true rfl, Nat.le_of_ble_eq_true rfl⟩, ⟨Nat.le_of_ble_eq_true rfl, Nat.le_of_ble_eq_true rfl⟩⟩ (sd_goto dX9_way_25 rfl (fun _ _ _ h => h)))))))))))))))
def B_X9_way_28 (X : Nat × (Nat → Int32)) (J : Nat → zCf) (R : zRt) : zCf := oALOAD 0 (oALOAD 0 (oALOAD 0 (oGETR 9 15 (oPI (zj (6)) (oILOAD 1 (oIADD (oIALD (oILOAD 2 (oILOAD 3 (oINS2 X M_X9_placeOf (oINV2 X M_X9_wayTo 9 (oINV1 X M_X9_good 9 (J 50)))))))))))))
set_option maxRecDepth 100000 in
theorem vb_X9_way_28 {X : Nat × (Nat → Int32)} {R : zRt} : ∀ ls st h, B_X9_way_28 X (zV X M_X9_way (zQm M_X9_way R) 0 0) R ls st h → zV X M_X9_way (zQm M_X9_way R) 0 0 28 ls st h := sd_aload_n dX9_way_28 rfl (sd_aload_n dX9_way_29 rfl (sd_aload_n dX9_way_30 rfl (sd_getr dX9_way_31 zCl9 (Nat.le_of_ble_eq_true rfl) lk_RX9_17 (Or.inr ⟨_, rfl⟩) (sd_bipush dX9_way_34 rfl (sd_iload_n dX9_way_36 rfl (sd_iadd dX9_way_37 (sd_iald dX9_way_38 (sd_iload_n dX9_way_39 rfl (sd_iload_n dX9_way_40 rfl (sd_ins2 dX9_way_41 ms_X9_placeOf na_X9_placeOf ml_RX9_291 ⟨⟨Nat.le_of_ble_eq_true rfl, Nat.le_of_ble_eq_true rfl⟩, ⟨Nat.le_of_ble_eq_true rfl, Nat.le_of_ble_eq_true rfl⟩⟩ (sd_inv2 dX9_way_44 rfl mv_X9_wayTo na_X9_wayTo ml_RX9_451 ⟨⟨Nat.le_of_ble_eq_true rfl, Nat.le_of_ble_eq_true rfl⟩, ⟨Nat.le_of_ble_eq_true rfl, Nat.le_of_ble_eq_true rfl⟩⟩ (sd_inv1 dX9_way_47 rfl mv_X9_good na_X9_good ml_RX9_46 ⟨⟨Nat.le_of_ble_eq_true rfl, Nat.le_of_ble_eq_true rfl⟩, ⟨Nat.le_of_ble_eq_true rfl, Nat.le_of_ble_eq_true rfl⟩⟩ (fun _ _ _ h => h)))))))))))))
def B_X9_way_50 (X : Nat × (Nat → Int32)) (J : Nat → zCf) (R : zRt) : zCf := oIRET R
set_option maxRecDepth 100000 in
theorem vb_X9_way_50 {X : Nat × (Nat → Int32)} {R : zRt} : ∀ ls st h, B_X9_way_50 X (zV X M_X9_way (zQm M_X9_way R) 0 0) R ls st h → zV X M_X9_way (zQm M_X9_way R) 0 0 50 ls st h := sd_iret dX9_way_50 rfl (Nat.le_of_ble_eq_true rfl) (Nat.le_of_ble_eq_true rfl)
theorem dX9_wayUp_0 : decode cX9_wayUp 0 = .ok (.aload_n 0, 1) := by decide +kernel
theorem dX9_wayUp_1 : decode cX9_wayUp 1 = .ok (.iconst 0, 1) := by decide +kernel
theorem dX9_wayUp_2 : decode cX9_wayUp 2 = .ok (.putfield 36, 3) := by decide +kernel
theorem dX9_wayUp_5 : decode cX9_wayUp 5 = .ok (.aload_n 0, 1) := by decide +kernel
theorem dX9_wayUp_6 : decode cX9_wayUp 6 = .ok (.iload_n 1, 1) := by decide +kernel
theorem dX9_wayUp_7 : decode cX9_wayUp 7 = .ok (.iload_n 2, 1) := by decide +kernel
theorem dX9_wayUp_8 : decode cX9_wayUp 8 = .ok (.iload_n 3, 1) := by decide +kernel
theorem dX9_wayUp_9 : decode cX9_wayUp 9 = .ok (.invokevirtual 447, 3) := by decide +kernel
theorem dX9_wayUp_12 : decode cX9_wayUp 12 = .ok (.istore 4, 2) := by decide +kernel
theorem dX9_wayUp_14 : decode cX9_wayUp 14 = .ok (.iload 4, 2) := by decide +kernel
theorem dX9_wayUp_16 : decode cX9_wayUp 16 = .ok (.ifCond .le 10, 3) := by decide +kernel
theorem dX9_wayUp_19 : decode cX9_wayUp 19 = .ok (.aload_n 0, 1) := by decide +kernel
theorem dX9_wayUp_20 : decode cX9_wayUp 20 = .ok (.iload 4, 2) := by decide +kernel
theorem dX9_wayUp_22 : decode cX9_wayUp 22 = .ok (.invokevirtual 42, 3) := by decide +kernel
theorem dX9_wayUp_25 : decode cX9_wayUp 25 = .ok (.ireturn, 1) := by decide +kernel
theorem dX9_wayUp_26 : decode cX9_wayUp 26 = .ok (.aload_n 0, 1) := by decide +kernel
theorem dX9_wayUp_27 : decode cX9_wayUp 27 = .ok (.getfield 17, 3) := by decide +kernel
theorem dX9_wayUp_30 : decode cX9_wayUp 30 = .ok (.bipush 6, 2) := by decide +kernel
theorem dX9_wayUp_32 : decode cX9_wayUp 32 = .ok (.iload_n 1, 1) := by decide +kernel
theorem dX9_wayUp_33 : decode cX9_wayUp 33 = .ok (.iadd, 1) := by decide +kernel
theorem dX9_wayUp_34 : decode cX9_wayUp 34 = .ok (.iaload, 1) := by decide +kernel
theorem dX9_wayUp_35 : decode cX9_wayUp 35 = .ok (.istore 5, 2) := by decide +kernel
theorem dX9_wayUp_37 : decode cX9_wayUp 37 = .ok (.iload_n 2, 1) := by decide +kernel
theorem dX9_wayUp_38 : decode cX9_wayUp 38 = .ok (.iload_n 3, 1) := by decide +kernel
theorem dX9_wayUp_39 : decode cX9_wayUp 39 = .ok (.invokestatic 291, 3) := by decide +kernel
theorem dX9_wayUp_42 : decode cX9_wayUp 42 = .ok (.istore 6, 2) := by decide +kernel
theorem dX9_wayUp_44 : decode cX9_wayUp 44 = .ok (.aload_n 0, 1) := by decide +kernel
theorem dX9_wayUp_45 : decode cX9_wayUp 45 = .ok (.iload 5, 2) := by decide +kernel
theorem dX9_wayUp_47 : decode cX9_wayUp 47 = .ok (.iload 6, 2) := by decide +kernel
theorem dX9_wayUp_49 : decode cX9_wayUp 49 = .ok (.if_icmp .eq 28, 3) := by decide +kernel
theorem dX9_wayUp_52 : decode cX9_wayUp 52 = .ok (.aload_n 0, 1) := by decide +kernel
theorem dX9_wayUp_53 : decode cX9_wayUp 53 = .ok (.iload 5, 2) := by decide +kernel
theorem dX9_wayUp_55 : decode cX9_wayUp 55 = .ok (.iload 6, 2) := by decide +kernel
theorem dX9_wayUp_57 : decode cX9_wayUp 57 = .ok (.iconst 1, 1) := by decide +kernel
theorem dX9_wayUp_58 : decode cX9_wayUp 58 = .ok (.invokevirtual 443, 3) := by decide +kernel
theorem dX9_wayUp_61 : decode cX9_wayUp 61 = .ok (.aload_n 0, 1) := by decide +kernel
theorem dX9_wayUp_62 : decode cX9_wayUp 62 = .ok (.iload 5, 2) := by decide +kernel
theorem dX9_wayUp_64 : decode cX9_wayUp 64 = .ok (.iload 6, 2) := by decide +kernel
theorem dX9_wayUp_66 : decode cX9_wayUp 66 = .ok (.iconst 0, 1) := by decide +kernel
theorem dX9_wayUp_67 : decode cX9_wayUp 67 = .ok (.invokevirtual 443, 3) := by decide +kernel
theorem dX9_wayUp_70 : decode cX9_wayUp 70 = .ok (.if_icmp .gt 7, 3) := by decide +kernel
theorem dX9_wayUp_73 : decode cX9_wayUp 73 = .ok (.iconst 1, 1) := by decide +kernel
theorem dX9_wayUp_74 : decode cX9_wayUp 74 = .ok (.goto 4, 3) := by decide +kernel
theorem dX9_wayUp_77 : decode cX9_wayUp 77 = .ok (.iconst 0, 1) := by decide +kernel
theorem dX9_wayUp_78 : decode cX9_wayUp 78 = .ok (.invokevirtual 46, 3) := by decide +kernel
theorem dX9_wayUp_81 : decode cX9_wayUp 81 = .ok (.ireturn, 1) := by decide +kernel
def B_X9_wayUp_0 (X : Nat × (Nat → Int32)) (J : Nat → zCf) (R : zRt) : zCf := oALOAD 0 (oPI (zj (0)) (oPUTI 9 0 (oALOAD 0 (oILOAD 1 (oILOAD 2 (oILOAD 3 (oINV3 X M_X9_refusesWay 9 (oISTORE 3 4 (oILOAD 4 (oIFLE (J 26) (oALOAD 0 (oILOAD 4 (oINV1 X M_X9_refused 9 (oIRET R))))))))))))))
set_option maxRecDepth 100000 in
theorem vb_X9_wayUp_0 {X : Nat × (Nat → Int32)} {R : zRt} : ∀ ls st h, B_X9_wayUp_0 X (zV X M_X9_wayUp (zQm M_X9_wayUp R) 0 0) R ls st h → zV X M_X9_wayUp (zQm M_X9_wayUp R) 0 0 0 ls st h := sd_aload_n dX9_wayUp_0 rfl (sd_iconst dX9_wayUp_1 rfl (sd_puti dX9_wayUp_2 zCl9 (Nat.le_of_ble_eq_true rfl) lk_RX9_36 rfl (Or.inl rfl) (sd_aload_n dX9_wayUp_5 rfl (sd_iload_n dX9_wayUp_6 rfl (sd_iload_n dX9_wayUp_7 rfl (sd_iload_n dX9_wayUp_8 rfl (sd_inv3 dX9_wayUp_9 rfl mv_X9_refusesWay na_X9_refusesWay ml_RX9_447 ⟨⟨Nat.le_of_ble_eq_true rfl, Nat.le_of_ble_eq_true rfl⟩, ⟨Nat.le_of_ble_eq_true rfl, Nat.le_of_ble_eq_true rfl⟩⟩ (sd_istore dX9_wayUp_12 (Nat.le_of_ble_eq_true rfl) (Or.inl rfl) (sd_iload dX9_wayUp_14 (sd_ifle dX9_wayUp_16 rfl (fun _ _ _ h => h) (sd_aload_n dX9_wayUp_19 rfl (sd_iload dX9_wayUp_20 (sd_inv1 dX9_wayUp_22 rfl mv_X9_refused na_X9_refused ml_RX9_42 ⟨⟨Nat.le_of_ble_eq_true rfl, Nat.le_of_ble_eq_true rfl⟩, ⟨Nat.le_of_ble_eq_true rfl, Nat.le_of_ble_eq_true rfl⟩⟩ (sd_iret dX9_wayUp_25 rfl (Nat.le_of_ble_eq_true rfl) (Nat.le_of_ble_eq_true rfl)))))))))))))))
def B_X9_wayUp_26 (X : Nat × (Nat → Int32)) (J : Nat → zCf) (R : zRt) : zCf := oALOAD 0 (oGETR 9 15 (oPI (zj (6)) (oILOAD 1 (oIADD (oIALD (oISTORE 4 5 (oILOAD 2 (oILOAD 3 (oINS2 X M_X9_placeOf (oISTORE 5 6 (oALOAD 0 (oILOAD 5 (oILOAD 6 (oICEQ (J 77) (oALOAD 0 (oILOAD 5 (oILOAD 6 (oPI (zj (1)) (oINV3 X M_X9_longBy 9 (oALOAD 0 (oILOAD 5 (oILOAD 6 (oPI (zj (0)) (oINV3 X M_X9_longBy 9 (oICGT (J 77) (oPI (zj (1)) (J 78)))))))))))))))))))))))))))
set_option maxRecDepth 100000 in
theorem vb_X9_wayUp_26 {X : Nat × (Nat → Int32)} {R : zRt} : ∀ ls st h, B_X9_wayUp_26 X (zV X M_X9_wayUp (zQm M_X9_wayUp R) 0 0) R ls st h → zV X M_X9_wayUp (zQm M_X9_wayUp R) 0 0 26 ls st h := sd_aload_n dX9_wayUp_26 rfl (sd_getr dX9_wayUp_27 zCl9 (Nat.le_of_ble_eq_true rfl) lk_RX9_17 (Or.inr ⟨_, rfl⟩) (sd_bipush dX9_wayUp_30 rfl (sd_iload_n dX9_wayUp_32 rfl (sd_iadd dX9_wayUp_33 (sd_iald dX9_wayUp_34 (sd_istore dX9_wayUp_35 (Nat.le_of_ble_eq_true rfl) (Or.inl rfl) (sd_iload_n dX9_wayUp_37 rfl (sd_iload_n dX9_wayUp_38 rfl (sd_ins2 dX9_wayUp_39 ms_X9_placeOf na_X9_placeOf ml_RX9_291 ⟨⟨Nat.le_of_ble_eq_true rfl, Nat.le_of_ble_eq_true rfl⟩, ⟨Nat.le_of_ble_eq_true rfl, Nat.le_of_ble_eq_true rfl⟩⟩ (sd_istore dX9_wayUp_42 (Nat.le_of_ble_eq_true rfl) (Or.inl rfl) (sd_aload_n dX9_wayUp_44 rfl (sd_iload dX9_wayUp_45 (sd_iload dX9_wayUp_47 (sd_iceq dX9_wayUp_49 rfl (fun _ _ _ h => h) (sd_aload_n dX9_wayUp_52 rfl (sd_iload dX9_wayUp_53 (sd_iload dX9_wayUp_55 (sd_iconst dX9_wayUp_57 rfl (sd_inv3 dX9_wayUp_58 rfl mv_X9_longBy na_X9_longBy ml_RX9_443 ⟨⟨Nat.le_of_ble_eq_true rfl, Nat.le_of_ble_eq_true rfl⟩, ⟨Nat.le_of_ble_eq_true rfl, Nat.le_of_ble_eq_true rfl⟩⟩ (sd_aload_n dX9_wayUp_61 rfl (sd_iload dX9_wayUp_62 (sd_iload dX9_wayUp_64 (sd_iconst dX9_wayUp_66 rfl (sd_inv3 dX9_wayUp_67 rfl mv_X9_longBy na_X9_longBy ml_RX9_443 ⟨⟨Nat.le_of_ble_eq_true rfl, Nat.le_of_ble_eq_true rfl⟩, ⟨Nat.le_of_ble_eq_true rfl, Nat.le_of_ble_eq_true rfl⟩⟩ (sd_icgt dX9_wayUp_70 rfl (fun _ _ _ h => h) (sd_iconst dX9_wayUp_73 rfl (sd_goto dX9_wayUp_74 rfl (fun _ _ _ h => h))))))))))))))))))))))))))))
def B_X9_wayUp_77 (X : Nat × (Nat → Int32)) (J : Nat → zCf) (R : zRt) : zCf := oPI (zj (0)) (J 78)
set_option maxRecDepth 100000 in
theorem vb_X9_wayUp_77 {X : Nat × (Nat → Int32)} {R : zRt} : ∀ ls st h, B_X9_wayUp_77 X (zV X M_X9_wayUp (zQm M_X9_wayUp R) 0 0) R ls st h → zV X M_X9_wayUp (zQm M_X9_wayUp R) 0 0 77 ls st h := sd_iconst dX9_wayUp_77 rfl (fun _ _ _ h => h)
def B_X9_wayUp_78 (X : Nat × (Nat → Int32)) (J : Nat → zCf) (R : zRt) : zCf := oINV1 X M_X9_good 9 (oIRET R)
set_option maxRecDepth 100000 in
theorem vb_X9_wayUp_78 {X : Nat × (Nat → Int32)} {R : zRt} : ∀ ls st h, B_X9_wayUp_78 X (zV X M_X9_wayUp (zQm M_X9_wayUp R) 0 0) R ls st h → zV X M_X9_wayUp (zQm M_X9_wayUp R) 0 0 78 ls st h := sd_inv1 dX9_wayUp_78 rfl mv_X9_good na_X9_good ml_RX9_46 ⟨⟨Nat.le_of_ble_eq_true rfl, Nat.le_of_ble_eq_true rfl⟩, ⟨Nat.le_of_ble_eq_true rfl, Nat.le_of_ble_eq_true rfl⟩⟩ (sd_iret dX9_wayUp_81 rfl (Nat.le_of_ble_eq_true rfl) (Nat.le_of_ble_eq_true rfl))
theorem dX9_nearest_0 : decode cX9_nearest 0 = .ok (.aload_n 0, 1) := by decide +kernel
theorem dX9_nearest_1 : decode cX9_nearest 1 = .ok (.iconst 0, 1) := by decide +kernel
theorem dX9_nearest_2 : decode cX9_nearest 2 = .ok (.putfield 36, 3) := by decide +kernel
theorem dX9_nearest_5 : decode cX9_nearest 5 = .ok (.aload_n 0, 1) := by decide +kernel
theorem dX9_nearest_6 : decode cX9_nearest 6 = .ok (.iload_n 1, 1) := by decide +kernel
theorem dX9_nearest_7 : decode cX9_nearest 7 = .ok (.invokevirtual 433, 3) := by decide +kernel
theorem dX9_nearest_10 : decode cX9_nearest 10 = .ok (.ifCond .eq 11, 3) := by decide +kernel
theorem dX9_nearest_13 : decode cX9_nearest 13 = .ok (.aload_n 0, 1) := by decide +kernel
theorem dX9_nearest_14 : decode cX9_nearest 14 = .ok (.iload_n 2, 1) := by decide +kernel
theorem dX9_nearest_15 : decode cX9_nearest 15 = .ok (.invokevirtual 322, 3) := by decide +kernel
theorem dX9_nearest_18 : decode cX9_nearest 18 = .ok (.ifCond .ne 9, 3) := by decide +kernel
theorem dX9_nearest_21 : decode cX9_nearest 21 = .ok (.aload_n 0, 1) := by decide +kernel
theorem dX9_nearest_22 : decode cX9_nearest 22 = .ok (.iconst 1, 1) := by decide +kernel
theorem dX9_nearest_23 : decode cX9_nearest 23 = .ok (.invokevirtual 42, 3) := by decide +kernel
theorem dX9_nearest_26 : decode cX9_nearest 26 = .ok (.ireturn, 1) := by decide +kernel
theorem dX9_nearest_27 : decode cX9_nearest 27 = .ok (.bipush (-2), 2) := by decide +kernel
theorem dX9_nearest_29 : decode cX9_nearest 29 = .ok (.istore_n 3, 1) := by decide +kernel
theorem dX9_nearest_30 : decode cX9_nearest 30 = .ok (.iconst 0, 1) := by decide +kernel
theorem dX9_nearest_31 : decode cX9_nearest 31 = .ok (.istore 4, 2) := by decide +kernel
theorem dX9_nearest_33 : decode cX9_nearest 33 = .ok (.iload 4, 2) := by decide +kernel
theorem dX9_nearest_35 : decode cX9_nearest 35 = .ok (.bipush 72, 2) := by decide +kernel
theorem dX9_nearest_37 : decode cX9_nearest 37 = .ok (.if_icmp .ge 62, 3) := by decide +kernel
theorem dX9_nearest_40 : decode cX9_nearest 40 = .ok (.aload_n 0, 1) := by decide +kernel
theorem dX9_nearest_41 : decode cX9_nearest 41 = .ok (.iload 4, 2) := by decide +kernel
theorem dX9_nearest_43 : decode cX9_nearest 43 = .ok (.invokestatic 310, 3) := by decide +kernel
theorem dX9_nearest_46 : decode cX9_nearest 46 = .ok (.iload 4, 2) := by decide +kernel
theorem dX9_nearest_48 : decode cX9_nearest 48 = .ok (.invokestatic 316, 3) := by decide +kernel
theorem dX9_nearest_51 : decode cX9_nearest 51 = .ok (.invokevirtual 319, 3) := by decide +kernel
theorem dX9_nearest_54 : decode cX9_nearest 54 = .ok (.iload_n 2, 1) := by decide +kernel
theorem dX9_nearest_55 : decode cX9_nearest 55 = .ok (.if_icmp .eq 6, 3) := by decide +kernel
theorem dX9_nearest_58 : decode cX9_nearest 58 = .ok (.goto 35, 3) := by decide +kernel
theorem dX9_nearest_61 : decode cX9_nearest 61 = .ok (.aload_n 0, 1) := by decide +kernel
theorem dX9_nearest_62 : decode cX9_nearest 62 = .ok (.aload_n 0, 1) := by decide +kernel
theorem dX9_nearest_63 : decode cX9_nearest 63 = .ok (.getfield 17, 3) := by decide +kernel
theorem dX9_nearest_66 : decode cX9_nearest 66 = .ok (.bipush 6, 2) := by decide +kernel
theorem dX9_nearest_68 : decode cX9_nearest 68 = .ok (.iload_n 1, 1) := by decide +kernel
theorem dX9_nearest_69 : decode cX9_nearest 69 = .ok (.iadd, 1) := by decide +kernel
theorem dX9_nearest_70 : decode cX9_nearest 70 = .ok (.iaload, 1) := by decide +kernel
theorem dX9_nearest_71 : decode cX9_nearest 71 = .ok (.iload 4, 2) := by decide +kernel
theorem dX9_nearest_73 : decode cX9_nearest 73 = .ok (.invokevirtual 451, 3) := by decide +kernel
theorem dX9_nearest_76 : decode cX9_nearest 76 = .ok (.istore 5, 2) := by decide +kernel
theorem dX9_nearest_78 : decode cX9_nearest 78 = .ok (.iload_n 3, 1) := by decide +kernel
theorem dX9_nearest_79 : decode cX9_nearest 79 = .ok (.bipush (-2), 2) := by decide +kernel
theorem dX9_nearest_81 : decode cX9_nearest 81 = .ok (.if_icmp .eq 9, 3) := by decide +kernel
theorem dX9_nearest_84 : decode cX9_nearest 84 = .ok (.iload 5, 2) := by decide +kernel
theorem dX9_nearest_86 : decode cX9_nearest 86 = .ok (.iload_n 3, 1) := by decide +kernel
theorem dX9_nearest_87 : decode cX9_nearest 87 = .ok (.if_icmp .ge 6, 3) := by decide +kernel
theorem dX9_nearest_90 : decode cX9_nearest 90 = .ok (.iload 5, 2) := by decide +kernel
theorem dX9_nearest_92 : decode cX9_nearest 92 = .ok (.istore_n 3, 1) := by decide +kernel
theorem dX9_nearest_93 : decode cX9_nearest 93 = .ok (.iinc 4 1, 3) := by decide +kernel
theorem dX9_nearest_96 : decode cX9_nearest 96 = .ok (.goto (-63), 3) := by decide +kernel
theorem dX9_nearest_99 : decode cX9_nearest 99 = .ok (.aload_n 0, 1) := by decide +kernel
theorem dX9_nearest_100 : decode cX9_nearest 100 = .ok (.iload_n 3, 1) := by decide +kernel
theorem dX9_nearest_101 : decode cX9_nearest 101 = .ok (.invokevirtual 46, 3) := by decide +kernel
theorem dX9_nearest_104 : decode cX9_nearest 104 = .ok (.ireturn, 1) := by decide +kernel
def B_X9_nearest_0 (X : Nat × (Nat → Int32)) (J : Nat → zCf) (R : zRt) : zCf := oALOAD 0 (oPI (zj (0)) (oPUTI 9 0 (oALOAD 0 (oILOAD 1 (oINV1 X M_X9_isPerson 9 (oIFEQ (J 21) (oALOAD 0 (oILOAD 2 (oINV1 X M_X9_isBit 9 (oIFNE (J 27) (J 21)))))))))))
set_option maxRecDepth 100000 in
theorem vb_X9_nearest_0 {X : Nat × (Nat → Int32)} {R : zRt} : ∀ ls st h, B_X9_nearest_0 X (zV X M_X9_nearest (zQm M_X9_nearest R) 0 0) R ls st h → zV X M_X9_nearest (zQm M_X9_nearest R) 0 0 0 ls st h := sd_aload_n dX9_nearest_0 rfl (sd_iconst dX9_nearest_1 rfl (sd_puti dX9_nearest_2 zCl9 (Nat.le_of_ble_eq_true rfl) lk_RX9_36 rfl (Or.inl rfl) (sd_aload_n dX9_nearest_5 rfl (sd_iload_n dX9_nearest_6 rfl (sd_inv1 dX9_nearest_7 rfl mv_X9_isPerson na_X9_isPerson ml_RX9_433 ⟨⟨Nat.le_of_ble_eq_true rfl, Nat.le_of_ble_eq_true rfl⟩, ⟨Nat.le_of_ble_eq_true rfl, Nat.le_of_ble_eq_true rfl⟩⟩ (sd_ifeq dX9_nearest_10 rfl (fun _ _ _ h => h) (sd_aload_n dX9_nearest_13 rfl (sd_iload_n dX9_nearest_14 rfl (sd_inv1 dX9_nearest_15 rfl mv_X9_isBit na_X9_isBit ml_RX9_322 ⟨⟨Nat.le_of_ble_eq_true rfl, Nat.le_of_ble_eq_true rfl⟩, ⟨Nat.le_of_ble_eq_true rfl, Nat.le_of_ble_eq_true rfl⟩⟩ (sd_ifne dX9_nearest_18 rfl (fun _ _ _ h => h) (fun _ _ _ h => h)))))))))))
def B_X9_nearest_21 (X : Nat × (Nat → Int32)) (J : Nat → zCf) (R : zRt) : zCf := oALOAD 0 (oPI (zj (1)) (oINV1 X M_X9_refused 9 (oIRET R)))
set_option maxRecDepth 100000 in
theorem vb_X9_nearest_21 {X : Nat × (Nat → Int32)} {R : zRt} : ∀ ls st h, B_X9_nearest_21 X (zV X M_X9_nearest (zQm M_X9_nearest R) 0 0) R ls st h → zV X M_X9_nearest (zQm M_X9_nearest R) 0 0 21 ls st h := sd_aload_n dX9_nearest_21 rfl (sd_iconst dX9_nearest_22 rfl (sd_inv1 dX9_nearest_23 rfl mv_X9_refused na_X9_refused ml_RX9_42 ⟨⟨Nat.le_of_ble_eq_true rfl, Nat.le_of_ble_eq_true rfl⟩, ⟨Nat.le_of_ble_eq_true rfl, Nat.le_of_ble_eq_true rfl⟩⟩ (sd_iret dX9_nearest_26 rfl (Nat.le_of_ble_eq_true rfl) (Nat.le_of_ble_eq_true rfl))))
def B_X9_nearest_27 (X : Nat × (Nat → Int32)) (J : Nat → zCf) (R : zRt) : zCf := oPI (zj (-2)) (oISTORE 2 3 (oPI (zj (0)) (oISTORE 3 4 (J 33))))
set_option maxRecDepth 100000 in
theorem vb_X9_nearest_27 {X : Nat × (Nat → Int32)} {R : zRt} : ∀ ls st h, B_X9_nearest_27 X (zV X M_X9_nearest (zQm M_X9_nearest R) 0 0) R ls st h → zV X M_X9_nearest (zQm M_X9_nearest R) 0 0 27 ls st h := sd_bipush dX9_nearest_27 rfl (sd_istore_n dX9_nearest_29 rfl (Nat.le_of_ble_eq_true rfl) (Or.inl rfl) (sd_iconst dX9_nearest_30 rfl (sd_istore dX9_nearest_31 (Nat.le_of_ble_eq_true rfl) (Or.inl rfl) (fun _ _ _ h => h))))
def B_X9_nearest_33 (X : Nat × (Nat → Int32)) (J : Nat → zCf) (R : zRt) : zCf := oILOAD 4 (oPI (zj (72)) (oICGE (J 99) (oALOAD 0 (oILOAD 4 (oINS1 X M_X9_countryOf (oILOAD 4 (oINS1 X M_X9_cellOf (oINV2 X M_X9_seenIn 9 (oILOAD 2 (oICEQ (J 61) (J 93)))))))))))
set_option maxRecDepth 100000 in
theorem vb_X9_nearest_33 {X : Nat × (Nat → Int32)} {R : zRt} : ∀ ls st h, B_X9_nearest_33 X (zV X M_X9_nearest (zQm M_X9_nearest R) 0 0) R ls st h → zV X M_X9_nearest (zQm M_X9_nearest R) 0 0 33 ls st h := sd_iload dX9_nearest_33 (sd_bipush dX9_nearest_35 rfl (sd_icge dX9_nearest_37 rfl (fun _ _ _ h => h) (sd_aload_n dX9_nearest_40 rfl (sd_iload dX9_nearest_41 (sd_ins1 dX9_nearest_43 ms_X9_countryOf na_X9_countryOf ml_RX9_310 ⟨⟨Nat.le_of_ble_eq_true rfl, Nat.le_of_ble_eq_true rfl⟩, ⟨Nat.le_of_ble_eq_true rfl, Nat.le_of_ble_eq_true rfl⟩⟩ (sd_iload dX9_nearest_46 (sd_ins1 dX9_nearest_48 ms_X9_cellOf na_X9_cellOf ml_RX9_316 ⟨⟨Nat.le_of_ble_eq_true rfl, Nat.le_of_ble_eq_true rfl⟩, ⟨Nat.le_of_ble_eq_true rfl, Nat.le_of_ble_eq_true rfl⟩⟩ (sd_inv2 dX9_nearest_51 rfl mv_X9_seenIn na_X9_seenIn ml_RX9_319 ⟨⟨Nat.le_of_ble_eq_true rfl, Nat.le_of_ble_eq_true rfl⟩, ⟨Nat.le_of_ble_eq_true rfl, Nat.le_of_ble_eq_true rfl⟩⟩ (sd_iload_n dX9_nearest_54 rfl (sd_iceq dX9_nearest_55 rfl (fun _ _ _ h => h) (sd_goto dX9_nearest_58 rfl (fun _ _ _ h => h))))))))))))
def B_X9_nearest_61 (X : Nat × (Nat → Int32)) (J : Nat → zCf) (R : zRt) : zCf := oALOAD 0 (oALOAD 0 (oGETR 9 15 (oPI (zj (6)) (oILOAD 1 (oIADD (oIALD (oILOAD 4 (oINV2 X M_X9_wayTo 9 (oISTORE 4 5 (oILOAD 3 (oPI (zj (-2)) (oICEQ (J 90) (oILOAD 5 (oILOAD 3 (oICGE (J 93) (J 90))))))))))))))))
set_option maxRecDepth 100000 in
theorem vb_X9_nearest_61 {X : Nat × (Nat → Int32)} {R : zRt} : ∀ ls st h, B_X9_nearest_61 X (zV X M_X9_nearest (zQm M_X9_nearest R) 0 0) R ls st h → zV X M_X9_nearest (zQm M_X9_nearest R) 0 0 61 ls st h := sd_aload_n dX9_nearest_61 rfl (sd_aload_n dX9_nearest_62 rfl (sd_getr dX9_nearest_63 zCl9 (Nat.le_of_ble_eq_true rfl) lk_RX9_17 (Or.inr ⟨_, rfl⟩) (sd_bipush dX9_nearest_66 rfl (sd_iload_n dX9_nearest_68 rfl (sd_iadd dX9_nearest_69 (sd_iald dX9_nearest_70 (sd_iload dX9_nearest_71 (sd_inv2 dX9_nearest_73 rfl mv_X9_wayTo na_X9_wayTo ml_RX9_451 ⟨⟨Nat.le_of_ble_eq_true rfl, Nat.le_of_ble_eq_true rfl⟩, ⟨Nat.le_of_ble_eq_true rfl, Nat.le_of_ble_eq_true rfl⟩⟩ (sd_istore dX9_nearest_76 (Nat.le_of_ble_eq_true rfl) (Or.inl rfl) (sd_iload_n dX9_nearest_78 rfl (sd_bipush dX9_nearest_79 rfl (sd_iceq dX9_nearest_81 rfl (fun _ _ _ h => h) (sd_iload dX9_nearest_84 (sd_iload_n dX9_nearest_86 rfl (sd_icge dX9_nearest_87 rfl (fun _ _ _ h => h) (fun _ _ _ h => h))))))))))))))))
def B_X9_nearest_90 (X : Nat × (Nat → Int32)) (J : Nat → zCf) (R : zRt) : zCf := oILOAD 5 (oISTORE 2 3 (J 93))
set_option maxRecDepth 100000 in
theorem vb_X9_nearest_90 {X : Nat × (Nat → Int32)} {R : zRt} : ∀ ls st h, B_X9_nearest_90 X (zV X M_X9_nearest (zQm M_X9_nearest R) 0 0) R ls st h → zV X M_X9_nearest (zQm M_X9_nearest R) 0 0 90 ls st h := sd_iload dX9_nearest_90 (sd_istore_n dX9_nearest_92 rfl (Nat.le_of_ble_eq_true rfl) (Or.inl rfl) (fun _ _ _ h => h))
def B_X9_nearest_93 (X : Nat × (Nat → Int32)) (J : Nat → zCf) (R : zRt) : zCf := oIINC 3 4 (zj (1)) (J 33)
set_option maxRecDepth 100000 in
theorem vb_X9_nearest_93 {X : Nat × (Nat → Int32)} {R : zRt} : ∀ ls st h, B_X9_nearest_93 X (zV X M_X9_nearest (zQm M_X9_nearest R) 0 0) R ls st h → zV X M_X9_nearest (zQm M_X9_nearest R) 0 0 93 ls st h := sd_iinc dX9_nearest_93 rfl (Nat.le_of_ble_eq_true rfl) (Or.inl rfl) (sd_goto dX9_nearest_96 rfl (fun _ _ _ h => h))
def B_X9_nearest_99 (X : Nat × (Nat → Int32)) (J : Nat → zCf) (R : zRt) : zCf := oALOAD 0 (oILOAD 3 (oINV1 X M_X9_good 9 (oIRET R)))
set_option maxRecDepth 100000 in
theorem vb_X9_nearest_99 {X : Nat × (Nat → Int32)} {R : zRt} : ∀ ls st h, B_X9_nearest_99 X (zV X M_X9_nearest (zQm M_X9_nearest R) 0 0) R ls st h → zV X M_X9_nearest (zQm M_X9_nearest R) 0 0 99 ls st h := sd_aload_n dX9_nearest_99 rfl (sd_iload_n dX9_nearest_100 rfl (sd_inv1 dX9_nearest_101 rfl mv_X9_good na_X9_good ml_RX9_46 ⟨⟨Nat.le_of_ble_eq_true rfl, Nat.le_of_ble_eq_true rfl⟩, ⟨Nat.le_of_ble_eq_true rfl, Nat.le_of_ble_eq_true rfl⟩⟩ (sd_iret dX9_nearest_104 rfl (Nat.le_of_ble_eq_true rfl) (Nat.le_of_ble_eq_true rfl))))
theorem dX9_farthest_0 : decode cX9_farthest 0 = .ok (.aload_n 0, 1) := by decide +kernel
theorem dX9_farthest_1 : decode cX9_farthest 1 = .ok (.iconst 0, 1) := by decide +kernel
theorem dX9_farthest_2 : decode cX9_farthest 2 = .ok (.putfield 36, 3) := by decide +kernel
theorem dX9_farthest_5 : decode cX9_farthest 5 = .ok (.aload_n 0, 1) := by decide +kernel
theorem dX9_farthest_6 : decode cX9_farthest 6 = .ok (.iload_n 1, 1) := by decide +kernel
theorem dX9_farthest_7 : decode cX9_farthest 7 = .ok (.invokevirtual 433, 3) := by decide +kernel
theorem dX9_farthest_10 : decode cX9_farthest 10 = .ok (.ifCond .ne 9, 3) := by decide +kernel
theorem dX9_farthest_13 : decode cX9_farthest 13 = .ok (.aload_n 0, 1) := by decide +kernel
theorem dX9_farthest_14 : decode cX9_farthest 14 = .ok (.iconst 1, 1) := by decide +kernel
theorem dX9_farthest_15 : decode cX9_farthest 15 = .ok (.invokevirtual 42, 3) := by decide +kernel
theorem dX9_farthest_18 : decode cX9_farthest 18 = .ok (.ireturn, 1) := by decide +kernel
theorem dX9_farthest_19 : decode cX9_farthest 19 = .ok (.iconst 0, 1) := by decide +kernel
theorem dX9_farthest_20 : decode cX9_farthest 20 = .ok (.istore_n 2, 1) := by decide +kernel
theorem dX9_farthest_21 : decode cX9_farthest 21 = .ok (.iconst 1, 1) := by decide +kernel
theorem dX9_farthest_22 : decode cX9_farthest 22 = .ok (.istore_n 3, 1) := by decide +kernel
theorem dX9_farthest_23 : decode cX9_farthest 23 = .ok (.iload_n 3, 1) := by decide +kernel
theorem dX9_farthest_24 : decode cX9_farthest 24 = .ok (.bipush 6, 2) := by decide +kernel
theorem dX9_farthest_26 : decode cX9_farthest 26 = .ok (.if_icmp .ge 50, 3) := by decide +kernel
theorem dX9_farthest_29 : decode cX9_farthest 29 = .ok (.aload_n 0, 1) := by decide +kernel
theorem dX9_farthest_30 : decode cX9_farthest 30 = .ok (.aload_n 0, 1) := by decide +kernel
theorem dX9_farthest_31 : decode cX9_farthest 31 = .ok (.getfield 17, 3) := by decide +kernel
theorem dX9_farthest_34 : decode cX9_farthest 34 = .ok (.bipush 6, 2) := by decide +kernel
theorem dX9_farthest_36 : decode cX9_farthest 36 = .ok (.iload_n 1, 1) := by decide +kernel
theorem dX9_farthest_37 : decode cX9_farthest 37 = .ok (.iadd, 1) := by decide +kernel
theorem dX9_farthest_38 : decode cX9_farthest 38 = .ok (.iaload, 1) := by decide +kernel
theorem dX9_farthest_39 : decode cX9_farthest 39 = .ok (.iload_n 3, 1) := by decide +kernel
theorem dX9_farthest_40 : decode cX9_farthest 40 = .ok (.iconst 0, 1) := by decide +kernel
theorem dX9_farthest_41 : decode cX9_farthest 41 = .ok (.invokestatic 291, 3) := by decide +kernel
theorem dX9_farthest_44 : decode cX9_farthest 44 = .ok (.invokevirtual 451, 3) := by decide +kernel
theorem dX9_farthest_47 : decode cX9_farthest 47 = .ok (.aload_n 0, 1) := by decide +kernel
theorem dX9_farthest_48 : decode cX9_farthest 48 = .ok (.aload_n 0, 1) := by decide +kernel
theorem dX9_farthest_49 : decode cX9_farthest 49 = .ok (.getfield 17, 3) := by decide +kernel
theorem dX9_farthest_52 : decode cX9_farthest 52 = .ok (.bipush 6, 2) := by decide +kernel
theorem dX9_farthest_54 : decode cX9_farthest 54 = .ok (.iload_n 1, 1) := by decide +kernel
theorem dX9_farthest_55 : decode cX9_farthest 55 = .ok (.iadd, 1) := by decide +kernel
theorem dX9_farthest_56 : decode cX9_farthest 56 = .ok (.iaload, 1) := by decide +kernel
theorem dX9_farthest_57 : decode cX9_farthest 57 = .ok (.iload_n 2, 1) := by decide +kernel
theorem dX9_farthest_58 : decode cX9_farthest 58 = .ok (.iconst 0, 1) := by decide +kernel
theorem dX9_farthest_59 : decode cX9_farthest 59 = .ok (.invokestatic 291, 3) := by decide +kernel
theorem dX9_farthest_62 : decode cX9_farthest 62 = .ok (.invokevirtual 451, 3) := by decide +kernel
theorem dX9_farthest_65 : decode cX9_farthest 65 = .ok (.if_icmp .le 5, 3) := by decide +kernel
theorem dX9_farthest_68 : decode cX9_farthest 68 = .ok (.iload_n 3, 1) := by decide +kernel
theorem dX9_farthest_69 : decode cX9_farthest 69 = .ok (.istore_n 2, 1) := by decide +kernel
theorem dX9_farthest_70 : decode cX9_farthest 70 = .ok (.iinc 3 1, 3) := by decide +kernel
theorem dX9_farthest_73 : decode cX9_farthest 73 = .ok (.goto (-50), 3) := by decide +kernel
theorem dX9_farthest_76 : decode cX9_farthest 76 = .ok (.aload_n 0, 1) := by decide +kernel
theorem dX9_farthest_77 : decode cX9_farthest 77 = .ok (.iload_n 2, 1) := by decide +kernel
theorem dX9_farthest_78 : decode cX9_farthest 78 = .ok (.invokevirtual 46, 3) := by decide +kernel
theorem dX9_farthest_81 : decode cX9_farthest 81 = .ok (.ireturn, 1) := by decide +kernel
def B_X9_farthest_0 (X : Nat × (Nat → Int32)) (J : Nat → zCf) (R : zRt) : zCf := oALOAD 0 (oPI (zj (0)) (oPUTI 9 0 (oALOAD 0 (oILOAD 1 (oINV1 X M_X9_isPerson 9 (oIFNE (J 19) (oALOAD 0 (oPI (zj (1)) (oINV1 X M_X9_refused 9 (oIRET R))))))))))
set_option maxRecDepth 100000 in
theorem vb_X9_farthest_0 {X : Nat × (Nat → Int32)} {R : zRt} : ∀ ls st h, B_X9_farthest_0 X (zV X M_X9_farthest (zQm M_X9_farthest R) 0 0) R ls st h → zV X M_X9_farthest (zQm M_X9_farthest R) 0 0 0 ls st h := sd_aload_n dX9_farthest_0 rfl (sd_iconst dX9_farthest_1 rfl (sd_puti dX9_farthest_2 zCl9 (Nat.le_of_ble_eq_true rfl) lk_RX9_36 rfl (Or.inl rfl) (sd_aload_n dX9_farthest_5 rfl (sd_iload_n dX9_farthest_6 rfl (sd_inv1 dX9_farthest_7 rfl mv_X9_isPerson na_X9_isPerson ml_RX9_433 ⟨⟨Nat.le_of_ble_eq_true rfl, Nat.le_of_ble_eq_true rfl⟩, ⟨Nat.le_of_ble_eq_true rfl, Nat.le_of_ble_eq_true rfl⟩⟩ (sd_ifne dX9_farthest_10 rfl (fun _ _ _ h => h) (sd_aload_n dX9_farthest_13 rfl (sd_iconst dX9_farthest_14 rfl (sd_inv1 dX9_farthest_15 rfl mv_X9_refused na_X9_refused ml_RX9_42 ⟨⟨Nat.le_of_ble_eq_true rfl, Nat.le_of_ble_eq_true rfl⟩, ⟨Nat.le_of_ble_eq_true rfl, Nat.le_of_ble_eq_true rfl⟩⟩ (sd_iret dX9_farthest_18 rfl (Nat.le_of_ble_eq_true rfl) (Nat.le_of_ble_eq_true rfl)))))))))))
def B_X9_farthest_19 (X : Nat × (Nat → Int32)) (J : Nat → zCf) (R : zRt) : zCf := oPI (zj (0)) (oISTORE 1 2 (oPI (zj (1)) (oISTORE 2 3 (J 23))))
set_option maxRecDepth 100000 in
theorem vb_X9_farthest_19 {X : Nat × (Nat → Int32)} {R : zRt} : ∀ ls st h, B_X9_farthest_19 X (zV X M_X9_farthest (zQm M_X9_farthest R) 0 0) R ls st h → zV X M_X9_farthest (zQm M_X9_farthest R) 0 0 19 ls st h := sd_iconst dX9_farthest_19 rfl (sd_istore_n dX9_farthest_20 rfl (Nat.le_of_ble_eq_true rfl) (Or.inl rfl) (sd_iconst dX9_farthest_21 rfl (sd_istore_n dX9_farthest_22 rfl (Nat.le_of_ble_eq_true rfl) (Or.inl rfl) (fun _ _ _ h => h))))
def B_X9_farthest_23 (X : Nat × (Nat → Int32)) (J : Nat → zCf) (R : zRt) : zCf := oILOAD 3 (oPI (zj (6)) (oICGE (J 76) (oALOAD 0 (oALOAD 0 (oGETR 9 15 (oPI (zj (6)) (oILOAD 1 (oIADD (oIALD (oILOAD 3 (oPI (zj (0)) (oINS2 X M_X9_placeOf (oINV2 X M_X9_wayTo 9 (oALOAD 0 (oALOAD 0 (oGETR 9 15 (oPI (zj (6)) (oILOAD 1 (oIADD (oIALD (oILOAD 2 (oPI (zj (0)) (oINS2 X M_X9_placeOf (oINV2 X M_X9_wayTo 9 (oICLE (J 70) (oILOAD 3 (oISTORE 1 2 (J 70))))))))))))))))))))))))))))
set_option maxRecDepth 100000 in
theorem vb_X9_farthest_23 {X : Nat × (Nat → Int32)} {R : zRt} : ∀ ls st h, B_X9_farthest_23 X (zV X M_X9_farthest (zQm M_X9_farthest R) 0 0) R ls st h → zV X M_X9_farthest (zQm M_X9_farthest R) 0 0 23 ls st h := sd_iload_n dX9_farthest_23 rfl (sd_bipush dX9_farthest_24 rfl (sd_icge dX9_farthest_26 rfl (fun _ _ _ h => h) (sd_aload_n dX9_farthest_29 rfl (sd_aload_n dX9_farthest_30 rfl (sd_getr dX9_farthest_31 zCl9 (Nat.le_of_ble_eq_true rfl) lk_RX9_17 (Or.inr ⟨_, rfl⟩) (sd_bipush dX9_farthest_34 rfl (sd_iload_n dX9_farthest_36 rfl (sd_iadd dX9_farthest_37 (sd_iald dX9_farthest_38 (sd_iload_n dX9_farthest_39 rfl (sd_iconst dX9_farthest_40 rfl (sd_ins2 dX9_farthest_41 ms_X9_placeOf na_X9_placeOf ml_RX9_291 ⟨⟨Nat.le_of_ble_eq_true rfl, Nat.le_of_ble_eq_true rfl⟩, ⟨Nat.le_of_ble_eq_true rfl, Nat.le_of_ble_eq_true rfl⟩⟩ (sd_inv2 dX9_farthest_44 rfl mv_X9_wayTo na_X9_wayTo ml_RX9_451 ⟨⟨Nat.le_of_ble_eq_true rfl, Nat.le_of_ble_eq_true rfl⟩, ⟨Nat.le_of_ble_eq_true rfl, Nat.le_of_ble_eq_true rfl⟩⟩ (sd_aload_n dX9_farthest_47 rfl (sd_aload_n dX9_farthest_48 rfl (sd_getr dX9_farthest_49 zCl9 (Nat.le_of_ble_eq_true rfl) lk_RX9_17 (Or.inr ⟨_, rfl⟩) (sd_bipush dX9_farthest_52 rfl (sd_iload_n dX9_farthest_54 rfl (sd_iadd dX9_farthest_55 (sd_iald dX9_farthest_56 (sd_iload_n dX9_farthest_57 rfl (sd_iconst dX9_farthest_58 rfl (sd_ins2 dX9_farthest_59 ms_X9_placeOf na_X9_placeOf ml_RX9_291 ⟨⟨Nat.le_of_ble_eq_true rfl, Nat.le_of_ble_eq_true rfl⟩, ⟨Nat.le_of_ble_eq_true rfl, Nat.le_of_ble_eq_true rfl⟩⟩ (sd_inv2 dX9_farthest_62 rfl mv_X9_wayTo na_X9_wayTo ml_RX9_451 ⟨⟨Nat.le_of_ble_eq_true rfl, Nat.le_of_ble_eq_true rfl⟩, ⟨Nat.le_of_ble_eq_true rfl, Nat.le_of_ble_eq_true rfl⟩⟩ (sd_icle dX9_farthest_65 rfl (fun _ _ _ h => h) (sd_iload_n dX9_farthest_68 rfl (sd_istore_n dX9_farthest_69 rfl (Nat.le_of_ble_eq_true rfl) (Or.inl rfl) (fun _ _ _ h => h))))))))))))))))))))))))))))
def B_X9_farthest_70 (X : Nat × (Nat → Int32)) (J : Nat → zCf) (R : zRt) : zCf := oIINC 2 3 (zj (1)) (J 23)
set_option maxRecDepth 100000 in
theorem vb_X9_farthest_70 {X : Nat × (Nat → Int32)} {R : zRt} : ∀ ls st h, B_X9_farthest_70 X (zV X M_X9_farthest (zQm M_X9_farthest R) 0 0) R ls st h → zV X M_X9_farthest (zQm M_X9_farthest R) 0 0 70 ls st h := sd_iinc dX9_farthest_70 rfl (Nat.le_of_ble_eq_true rfl) (Or.inl rfl) (sd_goto dX9_farthest_73 rfl (fun _ _ _ h => h))
def B_X9_farthest_76 (X : Nat × (Nat → Int32)) (J : Nat → zCf) (R : zRt) : zCf := oALOAD 0 (oILOAD 2 (oINV1 X M_X9_good 9 (oIRET R)))
set_option maxRecDepth 100000 in
theorem vb_X9_farthest_76 {X : Nat × (Nat → Int32)} {R : zRt} : ∀ ls st h, B_X9_farthest_76 X (zV X M_X9_farthest (zQm M_X9_farthest R) 0 0) R ls st h → zV X M_X9_farthest (zQm M_X9_farthest R) 0 0 76 ls st h := sd_aload_n dX9_farthest_76 rfl (sd_iload_n dX9_farthest_77 rfl (sd_inv1 dX9_farthest_78 rfl mv_X9_good na_X9_good ml_RX9_46 ⟨⟨Nat.le_of_ble_eq_true rfl, Nat.le_of_ble_eq_true rfl⟩, ⟨Nat.le_of_ble_eq_true rfl, Nat.le_of_ble_eq_true rfl⟩⟩ (sd_iret dX9_farthest_81 rfl (Nat.le_of_ble_eq_true rfl) (Nat.le_of_ble_eq_true rfl))))
theorem dX9_ring_0 : decode cX9_ring 0 = .ok (.aload_n 0, 1) := by decide +kernel
theorem dX9_ring_1 : decode cX9_ring 1 = .ok (.iconst 0, 1) := by decide +kernel
theorem dX9_ring_2 : decode cX9_ring 2 = .ok (.putfield 36, 3) := by decide +kernel
theorem dX9_ring_5 : decode cX9_ring 5 = .ok (.aload_n 0, 1) := by decide +kernel
theorem dX9_ring_6 : decode cX9_ring 6 = .ok (.getfield 289, 3) := by decide +kernel
theorem dX9_ring_9 : decode cX9_ring 9 = .ok (.ifnonnull 9, 3) := by decide +kernel
theorem dX9_ring_12 : decode cX9_ring 12 = .ok (.aload_n 0, 1) := by decide +kernel
theorem dX9_ring_13 : decode cX9_ring 13 = .ok (.iconst 1, 1) := by decide +kernel
theorem dX9_ring_14 : decode cX9_ring 14 = .ok (.invokevirtual 42, 3) := by decide +kernel
theorem dX9_ring_17 : decode cX9_ring 17 = .ok (.ireturn, 1) := by decide +kernel
theorem dX9_ring_18 : decode cX9_ring 18 = .ok (.iconst 0, 1) := by decide +kernel
theorem dX9_ring_19 : decode cX9_ring 19 = .ok (.istore_n 1, 1) := by decide +kernel
theorem dX9_ring_20 : decode cX9_ring 20 = .ok (.iconst 0, 1) := by decide +kernel
theorem dX9_ring_21 : decode cX9_ring 21 = .ok (.istore_n 2, 1) := by decide +kernel
theorem dX9_ring_22 : decode cX9_ring 22 = .ok (.iload_n 2, 1) := by decide +kernel
theorem dX9_ring_23 : decode cX9_ring 23 = .ok (.bipush 72, 2) := by decide +kernel
theorem dX9_ring_25 : decode cX9_ring 25 = .ok (.if_icmp .ge 17, 3) := by decide +kernel
theorem dX9_ring_28 : decode cX9_ring 28 = .ok (.iload_n 1, 1) := by decide +kernel
theorem dX9_ring_29 : decode cX9_ring 29 = .ok (.aload_n 0, 1) := by decide +kernel
theorem dX9_ring_30 : decode cX9_ring 30 = .ok (.iload_n 2, 1) := by decide +kernel
theorem dX9_ring_31 : decode cX9_ring 31 = .ok (.invokevirtual 440, 3) := by decide +kernel
theorem dX9_ring_34 : decode cX9_ring 34 = .ok (.iadd, 1) := by decide +kernel
theorem dX9_ring_35 : decode cX9_ring 35 = .ok (.istore_n 1, 1) := by decide +kernel
theorem dX9_ring_36 : decode cX9_ring 36 = .ok (.iinc 2 1, 3) := by decide +kernel
theorem dX9_ring_39 : decode cX9_ring 39 = .ok (.goto (-17), 3) := by decide +kernel
theorem dX9_ring_42 : decode cX9_ring 42 = .ok (.aload_n 0, 1) := by decide +kernel
theorem dX9_ring_43 : decode cX9_ring 43 = .ok (.iload_n 1, 1) := by decide +kernel
theorem dX9_ring_44 : decode cX9_ring 44 = .ok (.invokevirtual 46, 3) := by decide +kernel
theorem dX9_ring_47 : decode cX9_ring 47 = .ok (.ireturn, 1) := by decide +kernel
def B_X9_ring_0 (X : Nat × (Nat → Int32)) (J : Nat → zCf) (R : zRt) : zCf := oALOAD 0 (oPI (zj (0)) (oPUTI 9 0 (oALOAD 0 (oGETR 9 3 (oIFNONNULL (J 18) (oALOAD 0 (oPI (zj (1)) (oINV1 X M_X9_refused 9 (oIRET R)))))))))
set_option maxRecDepth 100000 in
theorem vb_X9_ring_0 {X : Nat × (Nat → Int32)} {R : zRt} : ∀ ls st h, B_X9_ring_0 X (zV X M_X9_ring (zQm M_X9_ring R) 0 0) R ls st h → zV X M_X9_ring (zQm M_X9_ring R) 0 0 0 ls st h := sd_aload_n dX9_ring_0 rfl (sd_iconst dX9_ring_1 rfl (sd_puti dX9_ring_2 zCl9 (Nat.le_of_ble_eq_true rfl) lk_RX9_36 rfl (Or.inl rfl) (sd_aload_n dX9_ring_5 rfl (sd_getr dX9_ring_6 zCl9 (Nat.le_of_ble_eq_true rfl) lk_RX9_289 (Or.inl ⟨_, rfl⟩) (sd_ifnonnull dX9_ring_9 rfl (fun _ _ _ h => h) (sd_aload_n dX9_ring_12 rfl (sd_iconst dX9_ring_13 rfl (sd_inv1 dX9_ring_14 rfl mv_X9_refused na_X9_refused ml_RX9_42 ⟨⟨Nat.le_of_ble_eq_true rfl, Nat.le_of_ble_eq_true rfl⟩, ⟨Nat.le_of_ble_eq_true rfl, Nat.le_of_ble_eq_true rfl⟩⟩ (sd_iret dX9_ring_17 rfl (Nat.le_of_ble_eq_true rfl) (Nat.le_of_ble_eq_true rfl))))))))))
def B_X9_ring_18 (X : Nat × (Nat → Int32)) (J : Nat → zCf) (R : zRt) : zCf := oPI (zj (0)) (oISTORE 0 1 (oPI (zj (0)) (oISTORE 1 2 (J 22))))
set_option maxRecDepth 100000 in
theorem vb_X9_ring_18 {X : Nat × (Nat → Int32)} {R : zRt} : ∀ ls st h, B_X9_ring_18 X (zV X M_X9_ring (zQm M_X9_ring R) 0 0) R ls st h → zV X M_X9_ring (zQm M_X9_ring R) 0 0 18 ls st h := sd_iconst dX9_ring_18 rfl (sd_istore_n dX9_ring_19 rfl (Nat.le_of_ble_eq_true rfl) (Or.inl rfl) (sd_iconst dX9_ring_20 rfl (sd_istore_n dX9_ring_21 rfl (Nat.le_of_ble_eq_true rfl) (Or.inl rfl) (fun _ _ _ h => h))))
def B_X9_ring_22 (X : Nat × (Nat → Int32)) (J : Nat → zCf) (R : zRt) : zCf := oILOAD 2 (oPI (zj (72)) (oICGE (J 42) (oILOAD 1 (oALOAD 0 (oILOAD 2 (oINV1 X M_X9_costOf 9 (oIADD (oISTORE 0 1 (oIINC 1 2 (zj (1)) (J 22))))))))))
set_option maxRecDepth 100000 in
theorem vb_X9_ring_22 {X : Nat × (Nat → Int32)} {R : zRt} : ∀ ls st h, B_X9_ring_22 X (zV X M_X9_ring (zQm M_X9_ring R) 0 0) R ls st h → zV X M_X9_ring (zQm M_X9_ring R) 0 0 22 ls st h := sd_iload_n dX9_ring_22 rfl (sd_bipush dX9_ring_23 rfl (sd_icge dX9_ring_25 rfl (fun _ _ _ h => h) (sd_iload_n dX9_ring_28 rfl (sd_aload_n dX9_ring_29 rfl (sd_iload_n dX9_ring_30 rfl (sd_inv1 dX9_ring_31 rfl mv_X9_costOf na_X9_costOf ml_RX9_440 ⟨⟨Nat.le_of_ble_eq_true rfl, Nat.le_of_ble_eq_true rfl⟩, ⟨Nat.le_of_ble_eq_true rfl, Nat.le_of_ble_eq_true rfl⟩⟩ (sd_iadd dX9_ring_34 (sd_istore_n dX9_ring_35 rfl (Nat.le_of_ble_eq_true rfl) (Or.inl rfl) (sd_iinc dX9_ring_36 rfl (Nat.le_of_ble_eq_true rfl) (Or.inl rfl) (sd_goto dX9_ring_39 rfl (fun _ _ _ h => h)))))))))))
def B_X9_ring_42 (X : Nat × (Nat → Int32)) (J : Nat → zCf) (R : zRt) : zCf := oALOAD 0 (oILOAD 1 (oINV1 X M_X9_good 9 (oIRET R)))
set_option maxRecDepth 100000 in
theorem vb_X9_ring_42 {X : Nat × (Nat → Int32)} {R : zRt} : ∀ ls st h, B_X9_ring_42 X (zV X M_X9_ring (zQm M_X9_ring R) 0 0) R ls st h → zV X M_X9_ring (zQm M_X9_ring R) 0 0 42 ls st h := sd_aload_n dX9_ring_42 rfl (sd_iload_n dX9_ring_43 rfl (sd_inv1 dX9_ring_44 rfl mv_X9_good na_X9_good ml_RX9_46 ⟨⟨Nat.le_of_ble_eq_true rfl, Nat.le_of_ble_eq_true rfl⟩, ⟨Nat.le_of_ble_eq_true rfl, Nat.le_of_ble_eq_true rfl⟩⟩ (sd_iret dX9_ring_47 rfl (Nat.le_of_ble_eq_true rfl) (Nat.le_of_ble_eq_true rfl))))
theorem dX9_far_0 : decode cX9_far 0 = .ok (.iload_n 0, 1) := by decide +kernel
theorem dX9_far_1 : decode cX9_far 1 = .ok (.ifCond .ge 8, 3) := by decide +kernel
theorem dX9_far_4 : decode cX9_far 4 = .ok (.iload_n 0, 1) := by decide +kernel
theorem dX9_far_5 : decode cX9_far 5 = .ok (.ineg, 1) := by decide +kernel
theorem dX9_far_6 : decode cX9_far 6 = .ok (.goto 4, 3) := by decide +kernel
theorem dX9_far_9 : decode cX9_far 9 = .ok (.iload_n 0, 1) := by decide +kernel
theorem dX9_far_10 : decode cX9_far 10 = .ok (.ireturn, 1) := by decide +kernel
def B_X9_far_0 (X : Nat × (Nat → Int32)) (J : Nat → zCf) (R : zRt) : zCf := oILOAD 0 (oIFGE (J 9) (oILOAD 0 (oINEG (J 10))))
set_option maxRecDepth 100000 in
theorem vb_X9_far_0 {X : Nat × (Nat → Int32)} {R : zRt} : ∀ ls st h, B_X9_far_0 X (zV X M_X9_far (zQm M_X9_far R) 0 0) R ls st h → zV X M_X9_far (zQm M_X9_far R) 0 0 0 ls st h := sd_iload_n dX9_far_0 rfl (sd_ifge dX9_far_1 rfl (fun _ _ _ h => h) (sd_iload_n dX9_far_4 rfl (sd_ineg dX9_far_5 (sd_goto dX9_far_6 rfl (fun _ _ _ h => h)))))
def B_X9_far_9 (X : Nat × (Nat → Int32)) (J : Nat → zCf) (R : zRt) : zCf := oILOAD 0 (J 10)
set_option maxRecDepth 100000 in
theorem vb_X9_far_9 {X : Nat × (Nat → Int32)} {R : zRt} : ∀ ls st h, B_X9_far_9 X (zV X M_X9_far (zQm M_X9_far R) 0 0) R ls st h → zV X M_X9_far (zQm M_X9_far R) 0 0 9 ls st h := sd_iload_n dX9_far_9 rfl (fun _ _ _ h => h)
def B_X9_far_10 (X : Nat × (Nat → Int32)) (J : Nat → zCf) (R : zRt) : zCf := oIRET R
set_option maxRecDepth 100000 in
theorem vb_X9_far_10 {X : Nat × (Nat → Int32)} {R : zRt} : ∀ ls st h, B_X9_far_10 X (zV X M_X9_far (zQm M_X9_far R) 0 0) R ls st h → zV X M_X9_far (zQm M_X9_far R) 0 0 10 ls st h := sd_iret dX9_far_10 rfl (Nat.le_of_ble_eq_true rfl) (Nat.le_of_ble_eq_true rfl)
theorem dX9_gets_0 : decode cX9_gets 0 = .ok (.aload_n 0, 1) := by decide +kernel
theorem dX9_gets_1 : decode cX9_gets 1 = .ok (.iload_n 1, 1) := by decide +kernel
theorem dX9_gets_2 : decode cX9_gets 2 = .ok (.iload_n 2, 1) := by decide +kernel
theorem dX9_gets_3 : decode cX9_gets 3 = .ok (.iadd, 1) := by decide +kernel
theorem dX9_gets_4 : decode cX9_gets 4 = .ok (.invokevirtual 349, 3) := by decide +kernel
theorem dX9_gets_7 : decode cX9_gets 7 = .ok (.istore 4, 2) := by decide +kernel
theorem dX9_gets_9 : decode cX9_gets 9 = .ok (.iload_n 3, 1) := by decide +kernel
theorem dX9_gets_10 : decode cX9_gets 10 = .ok (.ifCond .eq 21, 3) := by decide +kernel
theorem dX9_gets_13 : decode cX9_gets 13 = .ok (.aload_n 0, 1) := by decide +kernel
theorem dX9_gets_14 : decode cX9_gets 14 = .ok (.getfield 289, 3) := by decide +kernel
theorem dX9_gets_17 : decode cX9_gets 17 = .ok (.getfield 180, 3) := by decide +kernel
theorem dX9_gets_20 : decode cX9_gets 20 = .ok (.iload 4, 2) := by decide +kernel
theorem dX9_gets_22 : decode cX9_gets 22 = .ok (.isub, 1) := by decide +kernel
theorem dX9_gets_23 : decode cX9_gets 23 = .ok (.iload_n 2, 1) := by decide +kernel
theorem dX9_gets_24 : decode cX9_gets 24 = .ok (.invokestatic 454, 3) := by decide +kernel
theorem dX9_gets_27 : decode cX9_gets 27 = .ok (.isub, 1) := by decide +kernel
theorem dX9_gets_28 : decode cX9_gets 28 = .ok (.goto 10, 3) := by decide +kernel
theorem dX9_gets_31 : decode cX9_gets 31 = .ok (.iload 4, 2) := by decide +kernel
theorem dX9_gets_33 : decode cX9_gets 33 = .ok (.iload_n 1, 1) := by decide +kernel
theorem dX9_gets_34 : decode cX9_gets 34 = .ok (.invokestatic 454, 3) := by decide +kernel
theorem dX9_gets_37 : decode cX9_gets 37 = .ok (.isub, 1) := by decide +kernel
theorem dX9_gets_38 : decode cX9_gets 38 = .ok (.ireturn, 1) := by decide +kernel
def B_X9_gets_0 (X : Nat × (Nat → Int32)) (J : Nat → zCf) (R : zRt) : zCf := oALOAD 0 (oILOAD 1 (oILOAD 2 (oIADD (oINV1 X M_X9_topsBy 9 (oISTORE 3 4 (oILOAD 3 (oIFEQ (J 31) (oALOAD 0 (oGETR 9 3 (oGETI 8 1 (oILOAD 4 (oISUB (oILOAD 2 (oINS1 X M_X9_far (oISUB (J 38))))))))))))))))
set_option maxRecDepth 100000 in
theorem vb_X9_gets_0 {X : Nat × (Nat → Int32)} {R : zRt} : ∀ ls st h, B_X9_gets_0 X (zV X M_X9_gets (zQm M_X9_gets R) 0 0) R ls st h → zV X M_X9_gets (zQm M_X9_gets R) 0 0 0 ls st h := sd_aload_n dX9_gets_0 rfl (sd_iload_n dX9_gets_1 rfl (sd_iload_n dX9_gets_2 rfl (sd_iadd dX9_gets_3 (sd_inv1 dX9_gets_4 rfl mv_X9_topsBy na_X9_topsBy ml_RX9_349 ⟨⟨Nat.le_of_ble_eq_true rfl, Nat.le_of_ble_eq_true rfl⟩, ⟨Nat.le_of_ble_eq_true rfl, Nat.le_of_ble_eq_true rfl⟩⟩ (sd_istore dX9_gets_7 (Nat.le_of_ble_eq_true rfl) (Or.inl rfl) (sd_iload_n dX9_gets_9 rfl (sd_ifeq dX9_gets_10 rfl (fun _ _ _ h => h) (sd_aload_n dX9_gets_13 rfl (sd_getr dX9_gets_14 zCl9 (Nat.le_of_ble_eq_true rfl) lk_RX9_289 (Or.inl ⟨_, rfl⟩) (sd_geti dX9_gets_17 zCl8 (Nat.le_of_ble_eq_true rfl) lk_RX9_180 (Or.inl rfl) (sd_iload dX9_gets_20 (sd_isub dX9_gets_22 (sd_iload_n dX9_gets_23 rfl (sd_ins1 dX9_gets_24 ms_X9_far na_X9_far ml_RX9_454 ⟨⟨Nat.le_of_ble_eq_true rfl, Nat.le_of_ble_eq_true rfl⟩, ⟨Nat.le_of_ble_eq_true rfl, Nat.le_of_ble_eq_true rfl⟩⟩ (sd_isub dX9_gets_27 (sd_goto dX9_gets_28 rfl (fun _ _ _ h => h)))))))))))))))))
def B_X9_gets_31 (X : Nat × (Nat → Int32)) (J : Nat → zCf) (R : zRt) : zCf := oILOAD 4 (oILOAD 1 (oINS1 X M_X9_far (oISUB (J 38))))
set_option maxRecDepth 100000 in
theorem vb_X9_gets_31 {X : Nat × (Nat → Int32)} {R : zRt} : ∀ ls st h, B_X9_gets_31 X (zV X M_X9_gets (zQm M_X9_gets R) 0 0) R ls st h → zV X M_X9_gets (zQm M_X9_gets R) 0 0 31 ls st h := sd_iload dX9_gets_31 (sd_iload_n dX9_gets_33 rfl (sd_ins1 dX9_gets_34 ms_X9_far na_X9_far ml_RX9_454 ⟨⟨Nat.le_of_ble_eq_true rfl, Nat.le_of_ble_eq_true rfl⟩, ⟨Nat.le_of_ble_eq_true rfl, Nat.le_of_ble_eq_true rfl⟩⟩ (sd_isub dX9_gets_37 (fun _ _ _ h => h))))
def B_X9_gets_38 (X : Nat × (Nat → Int32)) (J : Nat → zCf) (R : zRt) : zCf := oIRET R
set_option maxRecDepth 100000 in
theorem vb_X9_gets_38 {X : Nat × (Nat → Int32)} {R : zRt} : ∀ ls st h, B_X9_gets_38 X (zV X M_X9_gets (zQm M_X9_gets R) 0 0) R ls st h → zV X M_X9_gets (zQm M_X9_gets R) 0 0 38 ls st h := sd_iret dX9_gets_38 rfl (Nat.le_of_ble_eq_true rfl) (Nat.le_of_ble_eq_true rfl)
theorem dX9_two_0 : decode cX9_two 0 = .ok (.aload_n 0, 1) := by decide +kernel
theorem dX9_two_1 : decode cX9_two 1 = .ok (.iconst 0, 1) := by decide +kernel
theorem dX9_two_2 : decode cX9_two 2 = .ok (.putfield 36, 3) := by decide +kernel
theorem dX9_two_5 : decode cX9_two 5 = .ok (.aload_n 0, 1) := by decide +kernel
theorem dX9_two_6 : decode cX9_two 6 = .ok (.getfield 289, 3) := by decide +kernel
theorem dX9_two_9 : decode cX9_two 9 = .ok (.ifnonnull 9, 3) := by decide +kernel
theorem dX9_two_12 : decode cX9_two 12 = .ok (.aload_n 0, 1) := by decide +kernel
theorem dX9_two_13 : decode cX9_two 13 = .ok (.iconst 1, 1) := by decide +kernel
theorem dX9_two_14 : decode cX9_two 14 = .ok (.invokevirtual 457, 3) := by decide +kernel
theorem dX9_two_17 : decode cX9_two 17 = .ok (.ireturn, 1) := by decide +kernel
theorem dX9_two_18 : decode cX9_two 18 = .ok (.iload_n 1, 1) := by decide +kernel
theorem dX9_two_19 : decode cX9_two 19 = .ok (.bipush (-3), 2) := by decide +kernel
theorem dX9_two_21 : decode cX9_two 21 = .ok (.iconst 3, 1) := by decide +kernel
theorem dX9_two_22 : decode cX9_two 22 = .ok (.invokestatic 115, 3) := by decide +kernel
theorem dX9_two_25 : decode cX9_two 25 = .ok (.ifCond .eq 27, 3) := by decide +kernel
theorem dX9_two_28 : decode cX9_two 28 = .ok (.iload_n 2, 1) := by decide +kernel
theorem dX9_two_29 : decode cX9_two 29 = .ok (.bipush (-3), 2) := by decide +kernel
theorem dX9_two_31 : decode cX9_two 31 = .ok (.iconst 3, 1) := by decide +kernel
theorem dX9_two_32 : decode cX9_two 32 = .ok (.invokestatic 115, 3) := by decide +kernel
theorem dX9_two_35 : decode cX9_two 35 = .ok (.ifCond .eq 17, 3) := by decide +kernel
theorem dX9_two_38 : decode cX9_two 38 = .ok (.aload_n 0, 1) := by decide +kernel
theorem dX9_two_39 : decode cX9_two 39 = .ok (.aload_n 0, 1) := by decide +kernel
theorem dX9_two_40 : decode cX9_two 40 = .ok (.iload_n 1, 1) := by decide +kernel
theorem dX9_two_41 : decode cX9_two 41 = .ok (.iload_n 2, 1) := by decide +kernel
theorem dX9_two_42 : decode cX9_two 42 = .ok (.iload_n 3, 1) := by decide +kernel
theorem dX9_two_43 : decode cX9_two 43 = .ok (.invokevirtual 460, 3) := by decide +kernel
theorem dX9_two_46 : decode cX9_two 46 = .ok (.invokevirtual 46, 3) := by decide +kernel
theorem dX9_two_49 : decode cX9_two 49 = .ok (.goto 8, 3) := by decide +kernel
theorem dX9_two_52 : decode cX9_two 52 = .ok (.aload_n 0, 1) := by decide +kernel
theorem dX9_two_53 : decode cX9_two 53 = .ok (.iconst 2, 1) := by decide +kernel
theorem dX9_two_54 : decode cX9_two 54 = .ok (.invokevirtual 457, 3) := by decide +kernel
theorem dX9_two_57 : decode cX9_two 57 = .ok (.ireturn, 1) := by decide +kernel
def B_X9_two_0 (X : Nat × (Nat → Int32)) (J : Nat → zCf) (R : zRt) : zCf := oALOAD 0 (oPI (zj (0)) (oPUTI 9 0 (oALOAD 0 (oGETR 9 3 (oIFNONNULL (J 18) (oALOAD 0 (oPI (zj (1)) (oINV1 X M_X9_lost 9 (oIRET R)))))))))
set_option maxRecDepth 100000 in
theorem vb_X9_two_0 {X : Nat × (Nat → Int32)} {R : zRt} : ∀ ls st h, B_X9_two_0 X (zV X M_X9_two (zQm M_X9_two R) 0 0) R ls st h → zV X M_X9_two (zQm M_X9_two R) 0 0 0 ls st h := sd_aload_n dX9_two_0 rfl (sd_iconst dX9_two_1 rfl (sd_puti dX9_two_2 zCl9 (Nat.le_of_ble_eq_true rfl) lk_RX9_36 rfl (Or.inl rfl) (sd_aload_n dX9_two_5 rfl (sd_getr dX9_two_6 zCl9 (Nat.le_of_ble_eq_true rfl) lk_RX9_289 (Or.inl ⟨_, rfl⟩) (sd_ifnonnull dX9_two_9 rfl (fun _ _ _ h => h) (sd_aload_n dX9_two_12 rfl (sd_iconst dX9_two_13 rfl (sd_inv1 dX9_two_14 rfl mv_X9_lost na_X9_lost ml_RX9_457 ⟨⟨Nat.le_of_ble_eq_true rfl, Nat.le_of_ble_eq_true rfl⟩, ⟨Nat.le_of_ble_eq_true rfl, Nat.le_of_ble_eq_true rfl⟩⟩ (sd_iret dX9_two_17 rfl (Nat.le_of_ble_eq_true rfl) (Nat.le_of_ble_eq_true rfl))))))))))
def B_X9_two_18 (X : Nat × (Nat → Int32)) (J : Nat → zCf) (R : zRt) : zCf := oILOAD 1 (oPI (zj (-3)) (oPI (zj (3)) (oINS3 X M_X9_in (oIFEQ (J 52) (oILOAD 2 (oPI (zj (-3)) (oPI (zj (3)) (oINS3 X M_X9_in (oIFEQ (J 52) (oALOAD 0 (oALOAD 0 (oILOAD 1 (oILOAD 2 (oILOAD 3 (oINV3 X M_X9_gets 9 (oINV1 X M_X9_good 9 (J 57)))))))))))))))))
set_option maxRecDepth 100000 in
theorem vb_X9_two_18 {X : Nat × (Nat → Int32)} {R : zRt} : ∀ ls st h, B_X9_two_18 X (zV X M_X9_two (zQm M_X9_two R) 0 0) R ls st h → zV X M_X9_two (zQm M_X9_two R) 0 0 18 ls st h := sd_iload_n dX9_two_18 rfl (sd_bipush dX9_two_19 rfl (sd_iconst dX9_two_21 rfl (sd_ins3 dX9_two_22 ms_X9_in na_X9_in ml_RX9_115 ⟨⟨Nat.le_of_ble_eq_true rfl, Nat.le_of_ble_eq_true rfl⟩, ⟨Nat.le_of_ble_eq_true rfl, Nat.le_of_ble_eq_true rfl⟩⟩ (sd_ifeq dX9_two_25 rfl (fun _ _ _ h => h) (sd_iload_n dX9_two_28 rfl (sd_bipush dX9_two_29 rfl (sd_iconst dX9_two_31 rfl (sd_ins3 dX9_two_32 ms_X9_in na_X9_in ml_RX9_115 ⟨⟨Nat.le_of_ble_eq_true rfl, Nat.le_of_ble_eq_true rfl⟩, ⟨Nat.le_of_ble_eq_true rfl, Nat.le_of_ble_eq_true rfl⟩⟩ (sd_ifeq dX9_two_35 rfl (fun _ _ _ h => h) (sd_aload_n dX9_two_38 rfl (sd_aload_n dX9_two_39 rfl (sd_iload_n dX9_two_40 rfl (sd_iload_n dX9_two_41 rfl (sd_iload_n dX9_two_42 rfl (sd_inv3 dX9_two_43 rfl mv_X9_gets na_X9_gets ml_RX9_460 ⟨⟨Nat.le_of_ble_eq_true rfl, Nat.le_of_ble_eq_true rfl⟩, ⟨Nat.le_of_ble_eq_true rfl, Nat.le_of_ble_eq_true rfl⟩⟩ (sd_inv1 dX9_two_46 rfl mv_X9_good na_X9_good ml_RX9_46 ⟨⟨Nat.le_of_ble_eq_true rfl, Nat.le_of_ble_eq_true rfl⟩, ⟨Nat.le_of_ble_eq_true rfl, Nat.le_of_ble_eq_true rfl⟩⟩ (sd_goto dX9_two_49 rfl (fun _ _ _ h => h))))))))))))))))))
def B_X9_two_52 (X : Nat × (Nat → Int32)) (J : Nat → zCf) (R : zRt) : zCf := oALOAD 0 (oPI (zj (2)) (oINV1 X M_X9_lost 9 (J 57)))
set_option maxRecDepth 100000 in
theorem vb_X9_two_52 {X : Nat × (Nat → Int32)} {R : zRt} : ∀ ls st h, B_X9_two_52 X (zV X M_X9_two (zQm M_X9_two R) 0 0) R ls st h → zV X M_X9_two (zQm M_X9_two R) 0 0 52 ls st h := sd_aload_n dX9_two_52 rfl (sd_iconst dX9_two_53 rfl (sd_inv1 dX9_two_54 rfl mv_X9_lost na_X9_lost ml_RX9_457 ⟨⟨Nat.le_of_ble_eq_true rfl, Nat.le_of_ble_eq_true rfl⟩, ⟨Nat.le_of_ble_eq_true rfl, Nat.le_of_ble_eq_true rfl⟩⟩ (fun _ _ _ h => h)))
def B_X9_two_57 (X : Nat × (Nat → Int32)) (J : Nat → zCf) (R : zRt) : zCf := oIRET R
set_option maxRecDepth 100000 in
theorem vb_X9_two_57 {X : Nat × (Nat → Int32)} {R : zRt} : ∀ ls st h, B_X9_two_57 X (zV X M_X9_two (zQm M_X9_two R) 0 0) R ls st h → zV X M_X9_two (zQm M_X9_two R) 0 0 57 ls st h := sd_iret dX9_two_57 rfl (Nat.le_of_ble_eq_true rfl) (Nat.le_of_ble_eq_true rfl)
theorem dX9_isRest_0 : decode cX9_isRest 0 = .ok (.bipush (-3), 2) := by decide +kernel
theorem dX9_isRest_2 : decode cX9_isRest 2 = .ok (.istore_n 3, 1) := by decide +kernel
theorem dX9_isRest_3 : decode cX9_isRest 3 = .ok (.iload_n 3, 1) := by decide +kernel
theorem dX9_isRest_4 : decode cX9_isRest 4 = .ok (.iconst 3, 1) := by decide +kernel
theorem dX9_isRest_5 : decode cX9_isRest 5 = .ok (.if_icmp .gt 45, 3) := by decide +kernel
theorem dX9_isRest_8 : decode cX9_isRest 8 = .ok (.aload_n 0, 1) := by decide +kernel
theorem dX9_isRest_9 : decode cX9_isRest 9 = .ok (.iload_n 3, 1) := by decide +kernel
theorem dX9_isRest_10 : decode cX9_isRest 10 = .ok (.iload_n 2, 1) := by decide +kernel
theorem dX9_isRest_11 : decode cX9_isRest 11 = .ok (.iconst 0, 1) := by decide +kernel
theorem dX9_isRest_12 : decode cX9_isRest 12 = .ok (.invokevirtual 460, 3) := by decide +kernel
theorem dX9_isRest_15 : decode cX9_isRest 15 = .ok (.aload_n 0, 1) := by decide +kernel
theorem dX9_isRest_16 : decode cX9_isRest 16 = .ok (.iload_n 1, 1) := by decide +kernel
theorem dX9_isRest_17 : decode cX9_isRest 17 = .ok (.iload_n 2, 1) := by decide +kernel
theorem dX9_isRest_18 : decode cX9_isRest 18 = .ok (.iconst 0, 1) := by decide +kernel
theorem dX9_isRest_19 : decode cX9_isRest 19 = .ok (.invokevirtual 460, 3) := by decide +kernel
theorem dX9_isRest_22 : decode cX9_isRest 22 = .ok (.if_icmp .gt 20, 3) := by decide +kernel
theorem dX9_isRest_25 : decode cX9_isRest 25 = .ok (.aload_n 0, 1) := by decide +kernel
theorem dX9_isRest_26 : decode cX9_isRest 26 = .ok (.iload_n 1, 1) := by decide +kernel
theorem dX9_isRest_27 : decode cX9_isRest 27 = .ok (.iload_n 3, 1) := by decide +kernel
theorem dX9_isRest_28 : decode cX9_isRest 28 = .ok (.iconst 1, 1) := by decide +kernel
theorem dX9_isRest_29 : decode cX9_isRest 29 = .ok (.invokevirtual 460, 3) := by decide +kernel
theorem dX9_isRest_32 : decode cX9_isRest 32 = .ok (.aload_n 0, 1) := by decide +kernel
theorem dX9_isRest_33 : decode cX9_isRest 33 = .ok (.iload_n 1, 1) := by decide +kernel
theorem dX9_isRest_34 : decode cX9_isRest 34 = .ok (.iload_n 2, 1) := by decide +kernel
theorem dX9_isRest_35 : decode cX9_isRest 35 = .ok (.iconst 1, 1) := by decide +kernel
theorem dX9_isRest_36 : decode cX9_isRest 36 = .ok (.invokevirtual 460, 3) := by decide +kernel
theorem dX9_isRest_39 : decode cX9_isRest 39 = .ok (.if_icmp .le 5, 3) := by decide +kernel
theorem dX9_isRest_42 : decode cX9_isRest 42 = .ok (.iconst 0, 1) := by decide +kernel
theorem dX9_isRest_43 : decode cX9_isRest 43 = .ok (.ireturn, 1) := by decide +kernel
theorem dX9_isRest_44 : decode cX9_isRest 44 = .ok (.iinc 3 1, 3) := by decide +kernel
theorem dX9_isRest_47 : decode cX9_isRest 47 = .ok (.goto (-44), 3) := by decide +kernel
theorem dX9_isRest_50 : decode cX9_isRest 50 = .ok (.iconst 1, 1) := by decide +kernel
theorem dX9_isRest_51 : decode cX9_isRest 51 = .ok (.ireturn, 1) := by decide +kernel
def B_X9_isRest_0 (X : Nat × (Nat → Int32)) (J : Nat → zCf) (R : zRt) : zCf := oPI (zj (-3)) (oISTORE 2 3 (J 3))
set_option maxRecDepth 100000 in
theorem vb_X9_isRest_0 {X : Nat × (Nat → Int32)} {R : zRt} : ∀ ls st h, B_X9_isRest_0 X (zV X M_X9_isRest (zQm M_X9_isRest R) 0 0) R ls st h → zV X M_X9_isRest (zQm M_X9_isRest R) 0 0 0 ls st h := sd_bipush dX9_isRest_0 rfl (sd_istore_n dX9_isRest_2 rfl (Nat.le_of_ble_eq_true rfl) (Or.inl rfl) (fun _ _ _ h => h))
def B_X9_isRest_3 (X : Nat × (Nat → Int32)) (J : Nat → zCf) (R : zRt) : zCf := oILOAD 3 (oPI (zj (3)) (oICGT (J 50) (oALOAD 0 (oILOAD 3 (oILOAD 2 (oPI (zj (0)) (oINV3 X M_X9_gets 9 (oALOAD 0 (oILOAD 1 (oILOAD 2 (oPI (zj (0)) (oINV3 X M_X9_gets 9 (oICGT (J 42) (oALOAD 0 (oILOAD 1 (oILOAD 3 (oPI (zj (1)) (oINV3 X M_X9_gets 9 (oALOAD 0 (oILOAD 1 (oILOAD 2 (oPI (zj (1)) (oINV3 X M_X9_gets 9 (oICLE (J 44) (J 42)))))))))))))))))))))))))
set_option maxRecDepth 100000 in
theorem vb_X9_isRest_3 {X : Nat × (Nat → Int32)} {R : zRt} : ∀ ls st h, B_X9_isRest_3 X (zV X M_X9_isRest (zQm M_X9_isRest R) 0 0) R ls st h → zV X M_X9_isRest (zQm M_X9_isRest R) 0 0 3 ls st h := sd_iload_n dX9_isRest_3 rfl (sd_iconst dX9_isRest_4 rfl (sd_icgt dX9_isRest_5 rfl (fun _ _ _ h => h) (sd_aload_n dX9_isRest_8 rfl (sd_iload_n dX9_isRest_9 rfl (sd_iload_n dX9_isRest_10 rfl (sd_iconst dX9_isRest_11 rfl (sd_inv3 dX9_isRest_12 rfl mv_X9_gets na_X9_gets ml_RX9_460 ⟨⟨Nat.le_of_ble_eq_true rfl, Nat.le_of_ble_eq_true rfl⟩, ⟨Nat.le_of_ble_eq_true rfl, Nat.le_of_ble_eq_true rfl⟩⟩ (sd_aload_n dX9_isRest_15 rfl (sd_iload_n dX9_isRest_16 rfl (sd_iload_n dX9_isRest_17 rfl (sd_iconst dX9_isRest_18 rfl (sd_inv3 dX9_isRest_19 rfl mv_X9_gets na_X9_gets ml_RX9_460 ⟨⟨Nat.le_of_ble_eq_true rfl, Nat.le_of_ble_eq_true rfl⟩, ⟨Nat.le_of_ble_eq_true rfl, Nat.le_of_ble_eq_true rfl⟩⟩ (sd_icgt dX9_isRest_22 rfl (fun _ _ _ h => h) (sd_aload_n dX9_isRest_25 rfl (sd_iload_n dX9_isRest_26 rfl (sd_iload_n dX9_isRest_27 rfl (sd_iconst dX9_isRest_28 rfl (sd_inv3 dX9_isRest_29 rfl mv_X9_gets na_X9_gets ml_RX9_460 ⟨⟨Nat.le_of_ble_eq_true rfl, Nat.le_of_ble_eq_true rfl⟩, ⟨Nat.le_of_ble_eq_true rfl, Nat.le_of_ble_eq_true rfl⟩⟩ (sd_aload_n dX9_isRest_32 rfl (sd_iload_n dX9_isRest_33 rfl (sd_iload_n dX9_isRest_34 rfl (sd_iconst dX9_isRest_35 rfl (sd_inv3 dX9_isRest_36 rfl mv_X9_gets na_X9_gets ml_RX9_460 ⟨⟨Nat.le_of_ble_eq_true rfl, Nat.le_of_ble_eq_true rfl⟩, ⟨Nat.le_of_ble_eq_true rfl, Nat.le_of_ble_eq_true rfl⟩⟩ (sd_icle dX9_isRest_39 rfl (fun _ _ _ h => h) (fun _ _ _ h => h)))))))))))))))))))))))))
def B_X9_isRest_42 (X : Nat × (Nat → Int32)) (J : Nat → zCf) (R : zRt) : zCf := oPI (zj (0)) (oZRET R)
set_option maxRecDepth 100000 in
theorem vb_X9_isRest_42 {X : Nat × (Nat → Int32)} {R : zRt} : ∀ ls st h, B_X9_isRest_42 X (zV X M_X9_isRest (zQm M_X9_isRest R) 0 0) R ls st h → zV X M_X9_isRest (zQm M_X9_isRest R) 0 0 42 ls st h := sd_iconst dX9_isRest_42 rfl (sd_zret dX9_isRest_43 rfl (Nat.le_of_ble_eq_true rfl) (Nat.le_of_ble_eq_true rfl))
def B_X9_isRest_44 (X : Nat × (Nat → Int32)) (J : Nat → zCf) (R : zRt) : zCf := oIINC 2 3 (zj (1)) (J 3)
set_option maxRecDepth 100000 in
theorem vb_X9_isRest_44 {X : Nat × (Nat → Int32)} {R : zRt} : ∀ ls st h, B_X9_isRest_44 X (zV X M_X9_isRest (zQm M_X9_isRest R) 0 0) R ls st h → zV X M_X9_isRest (zQm M_X9_isRest R) 0 0 44 ls st h := sd_iinc dX9_isRest_44 rfl (Nat.le_of_ble_eq_true rfl) (Or.inl rfl) (sd_goto dX9_isRest_47 rfl (fun _ _ _ h => h))
def B_X9_isRest_50 (X : Nat × (Nat → Int32)) (J : Nat → zCf) (R : zRt) : zCf := oPI (zj (1)) (oZRET R)
set_option maxRecDepth 100000 in
theorem vb_X9_isRest_50 {X : Nat × (Nat → Int32)} {R : zRt} : ∀ ls st h, B_X9_isRest_50 X (zV X M_X9_isRest (zQm M_X9_isRest R) 0 0) R ls st h → zV X M_X9_isRest (zQm M_X9_isRest R) 0 0 50 ls st h := sd_iconst dX9_isRest_50 rfl (sd_zret dX9_isRest_51 rfl (Nat.le_of_ble_eq_true rfl) (Nat.le_of_ble_eq_true rfl))
theorem dX9_rests_0 : decode cX9_rests 0 = .ok (.aload_n 0, 1) := by decide +kernel
theorem dX9_rests_1 : decode cX9_rests 1 = .ok (.iconst 0, 1) := by decide +kernel
theorem dX9_rests_2 : decode cX9_rests 2 = .ok (.putfield 36, 3) := by decide +kernel
theorem dX9_rests_5 : decode cX9_rests 5 = .ok (.aload_n 0, 1) := by decide +kernel
theorem dX9_rests_6 : decode cX9_rests 6 = .ok (.getfield 289, 3) := by decide +kernel
theorem dX9_rests_9 : decode cX9_rests 9 = .ok (.ifnonnull 9, 3) := by decide +kernel
theorem dX9_rests_12 : decode cX9_rests 12 = .ok (.aload_n 0, 1) := by decide +kernel
theorem dX9_rests_13 : decode cX9_rests 13 = .ok (.iconst 1, 1) := by decide +kernel
theorem dX9_rests_14 : decode cX9_rests 14 = .ok (.invokevirtual 42, 3) := by decide +kernel
theorem dX9_rests_17 : decode cX9_rests 17 = .ok (.ireturn, 1) := by decide +kernel
theorem dX9_rests_18 : decode cX9_rests 18 = .ok (.iconst 0, 1) := by decide +kernel
theorem dX9_rests_19 : decode cX9_rests 19 = .ok (.istore_n 1, 1) := by decide +kernel
theorem dX9_rests_20 : decode cX9_rests 20 = .ok (.bipush (-3), 2) := by decide +kernel
theorem dX9_rests_22 : decode cX9_rests 22 = .ok (.istore_n 2, 1) := by decide +kernel
theorem dX9_rests_23 : decode cX9_rests 23 = .ok (.iload_n 2, 1) := by decide +kernel
theorem dX9_rests_24 : decode cX9_rests 24 = .ok (.iconst 3, 1) := by decide +kernel
theorem dX9_rests_25 : decode cX9_rests 25 = .ok (.if_icmp .gt 40, 3) := by decide +kernel
theorem dX9_rests_28 : decode cX9_rests 28 = .ok (.bipush (-3), 2) := by decide +kernel
theorem dX9_rests_30 : decode cX9_rests 30 = .ok (.istore_n 3, 1) := by decide +kernel
theorem dX9_rests_31 : decode cX9_rests 31 = .ok (.iload_n 3, 1) := by decide +kernel
theorem dX9_rests_32 : decode cX9_rests 32 = .ok (.iconst 3, 1) := by decide +kernel
theorem dX9_rests_33 : decode cX9_rests 33 = .ok (.if_icmp .gt 26, 3) := by decide +kernel
theorem dX9_rests_36 : decode cX9_rests 36 = .ok (.iload_n 1, 1) := by decide +kernel
theorem dX9_rests_37 : decode cX9_rests 37 = .ok (.aload_n 0, 1) := by decide +kernel
theorem dX9_rests_38 : decode cX9_rests 38 = .ok (.iload_n 2, 1) := by decide +kernel
theorem dX9_rests_39 : decode cX9_rests 39 = .ok (.iload_n 3, 1) := by decide +kernel
theorem dX9_rests_40 : decode cX9_rests 40 = .ok (.invokevirtual 463, 3) := by decide +kernel
theorem dX9_rests_43 : decode cX9_rests 43 = .ok (.ifCond .eq 7, 3) := by decide +kernel
theorem dX9_rests_46 : decode cX9_rests 46 = .ok (.iconst 1, 1) := by decide +kernel
theorem dX9_rests_47 : decode cX9_rests 47 = .ok (.goto 4, 3) := by decide +kernel
theorem dX9_rests_50 : decode cX9_rests 50 = .ok (.iconst 0, 1) := by decide +kernel
theorem dX9_rests_51 : decode cX9_rests 51 = .ok (.iadd, 1) := by decide +kernel
theorem dX9_rests_52 : decode cX9_rests 52 = .ok (.istore_n 1, 1) := by decide +kernel
theorem dX9_rests_53 : decode cX9_rests 53 = .ok (.iinc 3 1, 3) := by decide +kernel
theorem dX9_rests_56 : decode cX9_rests 56 = .ok (.goto (-25), 3) := by decide +kernel
theorem dX9_rests_59 : decode cX9_rests 59 = .ok (.iinc 2 1, 3) := by decide +kernel
theorem dX9_rests_62 : decode cX9_rests 62 = .ok (.goto (-39), 3) := by decide +kernel
theorem dX9_rests_65 : decode cX9_rests 65 = .ok (.aload_n 0, 1) := by decide +kernel
theorem dX9_rests_66 : decode cX9_rests 66 = .ok (.iload_n 1, 1) := by decide +kernel
theorem dX9_rests_67 : decode cX9_rests 67 = .ok (.invokevirtual 46, 3) := by decide +kernel
theorem dX9_rests_70 : decode cX9_rests 70 = .ok (.ireturn, 1) := by decide +kernel
def B_X9_rests_0 (X : Nat × (Nat → Int32)) (J : Nat → zCf) (R : zRt) : zCf := oALOAD 0 (oPI (zj (0)) (oPUTI 9 0 (oALOAD 0 (oGETR 9 3 (oIFNONNULL (J 18) (oALOAD 0 (oPI (zj (1)) (oINV1 X M_X9_refused 9 (oIRET R)))))))))
set_option maxRecDepth 100000 in
theorem vb_X9_rests_0 {X : Nat × (Nat → Int32)} {R : zRt} : ∀ ls st h, B_X9_rests_0 X (zV X M_X9_rests (zQm M_X9_rests R) 0 0) R ls st h → zV X M_X9_rests (zQm M_X9_rests R) 0 0 0 ls st h := sd_aload_n dX9_rests_0 rfl (sd_iconst dX9_rests_1 rfl (sd_puti dX9_rests_2 zCl9 (Nat.le_of_ble_eq_true rfl) lk_RX9_36 rfl (Or.inl rfl) (sd_aload_n dX9_rests_5 rfl (sd_getr dX9_rests_6 zCl9 (Nat.le_of_ble_eq_true rfl) lk_RX9_289 (Or.inl ⟨_, rfl⟩) (sd_ifnonnull dX9_rests_9 rfl (fun _ _ _ h => h) (sd_aload_n dX9_rests_12 rfl (sd_iconst dX9_rests_13 rfl (sd_inv1 dX9_rests_14 rfl mv_X9_refused na_X9_refused ml_RX9_42 ⟨⟨Nat.le_of_ble_eq_true rfl, Nat.le_of_ble_eq_true rfl⟩, ⟨Nat.le_of_ble_eq_true rfl, Nat.le_of_ble_eq_true rfl⟩⟩ (sd_iret dX9_rests_17 rfl (Nat.le_of_ble_eq_true rfl) (Nat.le_of_ble_eq_true rfl))))))))))
def B_X9_rests_18 (X : Nat × (Nat → Int32)) (J : Nat → zCf) (R : zRt) : zCf := oPI (zj (0)) (oISTORE 0 1 (oPI (zj (-3)) (oISTORE 1 2 (J 23))))
set_option maxRecDepth 100000 in
theorem vb_X9_rests_18 {X : Nat × (Nat → Int32)} {R : zRt} : ∀ ls st h, B_X9_rests_18 X (zV X M_X9_rests (zQm M_X9_rests R) 0 0) R ls st h → zV X M_X9_rests (zQm M_X9_rests R) 0 0 18 ls st h := sd_iconst dX9_rests_18 rfl (sd_istore_n dX9_rests_19 rfl (Nat.le_of_ble_eq_true rfl) (Or.inl rfl) (sd_bipush dX9_rests_20 rfl (sd_istore_n dX9_rests_22 rfl (Nat.le_of_ble_eq_true rfl) (Or.inl rfl) (fun _ _ _ h => h))))
def B_X9_rests_23 (X : Nat × (Nat → Int32)) (J : Nat → zCf) (R : zRt) : zCf := oILOAD 2 (oPI (zj (3)) (oICGT (J 65) (oPI (zj (-3)) (oISTORE 2 3 (J 31)))))
set_option maxRecDepth 100000 in
theorem vb_X9_rests_23 {X : Nat × (Nat → Int32)} {R : zRt} : ∀ ls st h, B_X9_rests_23 X (zV X M_X9_rests (zQm M_X9_rests R) 0 0) R ls st h → zV X M_X9_rests (zQm M_X9_rests R) 0 0 23 ls st h := sd_iload_n dX9_rests_23 rfl (sd_iconst dX9_rests_24 rfl (sd_icgt dX9_rests_25 rfl (fun _ _ _ h => h) (sd_bipush dX9_rests_28 rfl (sd_istore_n dX9_rests_30 rfl (Nat.le_of_ble_eq_true rfl) (Or.inl rfl) (fun _ _ _ h => h)))))
def B_X9_rests_31 (X : Nat × (Nat → Int32)) (J : Nat → zCf) (R : zRt) : zCf := oILOAD 3 (oPI (zj (3)) (oICGT (J 59) (oILOAD 1 (oALOAD 0 (oILOAD 2 (oILOAD 3 (oINV2 X M_X9_isRest 9 (oIFEQ (J 50) (oPI (zj (1)) (J 51))))))))))
set_option maxRecDepth 100000 in
theorem vb_X9_rests_31 {X : Nat × (Nat → Int32)} {R : zRt} : ∀ ls st h, B_X9_rests_31 X (zV X M_X9_rests (zQm M_X9_rests R) 0 0) R ls st h → zV X M_X9_rests (zQm M_X9_rests R) 0 0 31 ls st h := sd_iload_n dX9_rests_31 rfl (sd_iconst dX9_rests_32 rfl (sd_icgt dX9_rests_33 rfl (fun _ _ _ h => h) (sd_iload_n dX9_rests_36 rfl (sd_aload_n dX9_rests_37 rfl (sd_iload_n dX9_rests_38 rfl (sd_iload_n dX9_rests_39 rfl (sd_inv2 dX9_rests_40 rfl mv_X9_isRest na_X9_isRest ml_RX9_463 ⟨⟨Nat.le_of_ble_eq_true rfl, Nat.le_of_ble_eq_true rfl⟩, ⟨Nat.le_of_ble_eq_true rfl, Nat.le_of_ble_eq_true rfl⟩⟩ (sd_ifeq dX9_rests_43 rfl (fun _ _ _ h => h) (sd_iconst dX9_rests_46 rfl (sd_goto dX9_rests_47 rfl (fun _ _ _ h => h)))))))))))
def B_X9_rests_50 (X : Nat × (Nat → Int32)) (J : Nat → zCf) (R : zRt) : zCf := oPI (zj (0)) (J 51)
set_option maxRecDepth 100000 in
theorem vb_X9_rests_50 {X : Nat × (Nat → Int32)} {R : zRt} : ∀ ls st h, B_X9_rests_50 X (zV X M_X9_rests (zQm M_X9_rests R) 0 0) R ls st h → zV X M_X9_rests (zQm M_X9_rests R) 0 0 50 ls st h := sd_iconst dX9_rests_50 rfl (fun _ _ _ h => h)
def B_X9_rests_51 (X : Nat × (Nat → Int32)) (J : Nat → zCf) (R : zRt) : zCf := oIADD (oISTORE 0 1 (oIINC 2 3 (zj (1)) (J 31)))
set_option maxRecDepth 100000 in
theorem vb_X9_rests_51 {X : Nat × (Nat → Int32)} {R : zRt} : ∀ ls st h, B_X9_rests_51 X (zV X M_X9_rests (zQm M_X9_rests R) 0 0) R ls st h → zV X M_X9_rests (zQm M_X9_rests R) 0 0 51 ls st h := sd_iadd dX9_rests_51 (sd_istore_n dX9_rests_52 rfl (Nat.le_of_ble_eq_true rfl) (Or.inl rfl) (sd_iinc dX9_rests_53 rfl (Nat.le_of_ble_eq_true rfl) (Or.inl rfl) (sd_goto dX9_rests_56 rfl (fun _ _ _ h => h))))
def B_X9_rests_59 (X : Nat × (Nat → Int32)) (J : Nat → zCf) (R : zRt) : zCf := oIINC 1 2 (zj (1)) (J 23)
set_option maxRecDepth 100000 in
theorem vb_X9_rests_59 {X : Nat × (Nat → Int32)} {R : zRt} : ∀ ls st h, B_X9_rests_59 X (zV X M_X9_rests (zQm M_X9_rests R) 0 0) R ls st h → zV X M_X9_rests (zQm M_X9_rests R) 0 0 59 ls st h := sd_iinc dX9_rests_59 rfl (Nat.le_of_ble_eq_true rfl) (Or.inl rfl) (sd_goto dX9_rests_62 rfl (fun _ _ _ h => h))
def B_X9_rests_65 (X : Nat × (Nat → Int32)) (J : Nat → zCf) (R : zRt) : zCf := oALOAD 0 (oILOAD 1 (oINV1 X M_X9_good 9 (oIRET R)))
set_option maxRecDepth 100000 in
theorem vb_X9_rests_65 {X : Nat × (Nat → Int32)} {R : zRt} : ∀ ls st h, B_X9_rests_65 X (zV X M_X9_rests (zQm M_X9_rests R) 0 0) R ls st h → zV X M_X9_rests (zQm M_X9_rests R) 0 0 65 ls st h := sd_aload_n dX9_rests_65 rfl (sd_iload_n dX9_rests_66 rfl (sd_inv1 dX9_rests_67 rfl mv_X9_good na_X9_good ml_RX9_46 ⟨⟨Nat.le_of_ble_eq_true rfl, Nat.le_of_ble_eq_true rfl⟩, ⟨Nat.le_of_ble_eq_true rfl, Nat.le_of_ble_eq_true rfl⟩⟩ (sd_iret dX9_rests_70 rfl (Nat.le_of_ble_eq_true rfl) (Nat.le_of_ble_eq_true rfl))))
theorem dX9_rest_0 : decode cX9_rest 0 = .ok (.aload_n 0, 1) := by decide +kernel
theorem dX9_rest_1 : decode cX9_rest 1 = .ok (.iconst 0, 1) := by decide +kernel
theorem dX9_rest_2 : decode cX9_rest 2 = .ok (.putfield 36, 3) := by decide +kernel
theorem dX9_rest_5 : decode cX9_rest 5 = .ok (.aload_n 0, 1) := by decide +kernel
theorem dX9_rest_6 : decode cX9_rest 6 = .ok (.getfield 289, 3) := by decide +kernel
theorem dX9_rest_9 : decode cX9_rest 9 = .ok (.ifnonnull 9, 3) := by decide +kernel
theorem dX9_rest_12 : decode cX9_rest 12 = .ok (.aload_n 0, 1) := by decide +kernel
theorem dX9_rest_13 : decode cX9_rest 13 = .ok (.iconst 1, 1) := by decide +kernel
theorem dX9_rest_14 : decode cX9_rest 14 = .ok (.invokevirtual 42, 3) := by decide +kernel
theorem dX9_rest_17 : decode cX9_rest 17 = .ok (.ireturn, 1) := by decide +kernel
theorem dX9_rest_18 : decode cX9_rest 18 = .ok (.bipush (-3), 2) := by decide +kernel
theorem dX9_rest_20 : decode cX9_rest 20 = .ok (.istore_n 1, 1) := by decide +kernel
theorem dX9_rest_21 : decode cX9_rest 21 = .ok (.iload_n 1, 1) := by decide +kernel
theorem dX9_rest_22 : decode cX9_rest 22 = .ok (.iconst 3, 1) := by decide +kernel
theorem dX9_rest_23 : decode cX9_rest 23 = .ok (.if_icmp .gt 47, 3) := by decide +kernel
theorem dX9_rest_26 : decode cX9_rest 26 = .ok (.bipush (-3), 2) := by decide +kernel
theorem dX9_rest_28 : decode cX9_rest 28 = .ok (.istore_n 2, 1) := by decide +kernel
theorem dX9_rest_29 : decode cX9_rest 29 = .ok (.iload_n 2, 1) := by decide +kernel
theorem dX9_rest_30 : decode cX9_rest 30 = .ok (.iconst 3, 1) := by decide +kernel
theorem dX9_rest_31 : decode cX9_rest 31 = .ok (.if_icmp .gt 33, 3) := by decide +kernel
theorem dX9_rest_34 : decode cX9_rest 34 = .ok (.aload_n 0, 1) := by decide +kernel
theorem dX9_rest_35 : decode cX9_rest 35 = .ok (.iload_n 1, 1) := by decide +kernel
theorem dX9_rest_36 : decode cX9_rest 36 = .ok (.iload_n 2, 1) := by decide +kernel
theorem dX9_rest_37 : decode cX9_rest 37 = .ok (.invokevirtual 463, 3) := by decide +kernel
theorem dX9_rest_40 : decode cX9_rest 40 = .ok (.ifCond .eq 18, 3) := by decide +kernel
theorem dX9_rest_43 : decode cX9_rest 43 = .ok (.aload_n 0, 1) := by decide +kernel
theorem dX9_rest_44 : decode cX9_rest 44 = .ok (.bipush 10, 2) := by decide +kernel
theorem dX9_rest_46 : decode cX9_rest 46 = .ok (.iload_n 1, 1) := by decide +kernel
theorem dX9_rest_47 : decode cX9_rest 47 = .ok (.iconst 3, 1) := by decide +kernel
theorem dX9_rest_48 : decode cX9_rest 48 = .ok (.iadd, 1) := by decide +kernel
theorem dX9_rest_49 : decode cX9_rest 49 = .ok (.imul, 1) := by decide +kernel
theorem dX9_rest_50 : decode cX9_rest 50 = .ok (.iload_n 2, 1) := by decide +kernel
theorem dX9_rest_51 : decode cX9_rest 51 = .ok (.iadd, 1) := by decide +kernel
theorem dX9_rest_52 : decode cX9_rest 52 = .ok (.iconst 3, 1) := by decide +kernel
theorem dX9_rest_53 : decode cX9_rest 53 = .ok (.iadd, 1) := by decide +kernel
theorem dX9_rest_54 : decode cX9_rest 54 = .ok (.invokevirtual 46, 3) := by decide +kernel
theorem dX9_rest_57 : decode cX9_rest 57 = .ok (.ireturn, 1) := by decide +kernel
theorem dX9_rest_58 : decode cX9_rest 58 = .ok (.iinc 2 1, 3) := by decide +kernel
theorem dX9_rest_61 : decode cX9_rest 61 = .ok (.goto (-32), 3) := by decide +kernel
theorem dX9_rest_64 : decode cX9_rest 64 = .ok (.iinc 1 1, 3) := by decide +kernel
theorem dX9_rest_67 : decode cX9_rest 67 = .ok (.goto (-46), 3) := by decide +kernel
theorem dX9_rest_70 : decode cX9_rest 70 = .ok (.aload_n 0, 1) := by decide +kernel
theorem dX9_rest_71 : decode cX9_rest 71 = .ok (.bipush (-2), 2) := by decide +kernel
theorem dX9_rest_73 : decode cX9_rest 73 = .ok (.invokevirtual 46, 3) := by decide +kernel
theorem dX9_rest_76 : decode cX9_rest 76 = .ok (.ireturn, 1) := by decide +kernel
def B_X9_rest_0 (X : Nat × (Nat → Int32)) (J : Nat → zCf) (R : zRt) : zCf := oALOAD 0 (oPI (zj (0)) (oPUTI 9 0 (oALOAD 0 (oGETR 9 3 (oIFNONNULL (J 18) (oALOAD 0 (oPI (zj (1)) (oINV1 X M_X9_refused 9 (oIRET R)))))))))
set_option maxRecDepth 100000 in
theorem vb_X9_rest_0 {X : Nat × (Nat → Int32)} {R : zRt} : ∀ ls st h, B_X9_rest_0 X (zV X M_X9_rest (zQm M_X9_rest R) 0 0) R ls st h → zV X M_X9_rest (zQm M_X9_rest R) 0 0 0 ls st h := sd_aload_n dX9_rest_0 rfl (sd_iconst dX9_rest_1 rfl (sd_puti dX9_rest_2 zCl9 (Nat.le_of_ble_eq_true rfl) lk_RX9_36 rfl (Or.inl rfl) (sd_aload_n dX9_rest_5 rfl (sd_getr dX9_rest_6 zCl9 (Nat.le_of_ble_eq_true rfl) lk_RX9_289 (Or.inl ⟨_, rfl⟩) (sd_ifnonnull dX9_rest_9 rfl (fun _ _ _ h => h) (sd_aload_n dX9_rest_12 rfl (sd_iconst dX9_rest_13 rfl (sd_inv1 dX9_rest_14 rfl mv_X9_refused na_X9_refused ml_RX9_42 ⟨⟨Nat.le_of_ble_eq_true rfl, Nat.le_of_ble_eq_true rfl⟩, ⟨Nat.le_of_ble_eq_true rfl, Nat.le_of_ble_eq_true rfl⟩⟩ (sd_iret dX9_rest_17 rfl (Nat.le_of_ble_eq_true rfl) (Nat.le_of_ble_eq_true rfl))))))))))
def B_X9_rest_18 (X : Nat × (Nat → Int32)) (J : Nat → zCf) (R : zRt) : zCf := oPI (zj (-3)) (oISTORE 0 1 (J 21))
set_option maxRecDepth 100000 in
theorem vb_X9_rest_18 {X : Nat × (Nat → Int32)} {R : zRt} : ∀ ls st h, B_X9_rest_18 X (zV X M_X9_rest (zQm M_X9_rest R) 0 0) R ls st h → zV X M_X9_rest (zQm M_X9_rest R) 0 0 18 ls st h := sd_bipush dX9_rest_18 rfl (sd_istore_n dX9_rest_20 rfl (Nat.le_of_ble_eq_true rfl) (Or.inl rfl) (fun _ _ _ h => h))
def B_X9_rest_21 (X : Nat × (Nat → Int32)) (J : Nat → zCf) (R : zRt) : zCf := oILOAD 1 (oPI (zj (3)) (oICGT (J 70) (oPI (zj (-3)) (oISTORE 1 2 (J 29)))))
set_option maxRecDepth 100000 in
theorem vb_X9_rest_21 {X : Nat × (Nat → Int32)} {R : zRt} : ∀ ls st h, B_X9_rest_21 X (zV X M_X9_rest (zQm M_X9_rest R) 0 0) R ls st h → zV X M_X9_rest (zQm M_X9_rest R) 0 0 21 ls st h := sd_iload_n dX9_rest_21 rfl (sd_iconst dX9_rest_22 rfl (sd_icgt dX9_rest_23 rfl (fun _ _ _ h => h) (sd_bipush dX9_rest_26 rfl (sd_istore_n dX9_rest_28 rfl (Nat.le_of_ble_eq_true rfl) (Or.inl rfl) (fun _ _ _ h => h)))))
def B_X9_rest_29 (X : Nat × (Nat → Int32)) (J : Nat → zCf) (R : zRt) : zCf := oILOAD 2 (oPI (zj (3)) (oICGT (J 64) (oALOAD 0 (oILOAD 1 (oILOAD 2 (oINV2 X M_X9_isRest 9 (oIFEQ (J 58) (oALOAD 0 (oPI (zj (10)) (oILOAD 1 (oPI (zj (3)) (oIADD (oIMUL (oILOAD 2 (oIADD (oPI (zj (3)) (oIADD (oINV1 X M_X9_good 9 (oIRET R)))))))))))))))))))
set_option maxRecDepth 100000 in
theorem vb_X9_rest_29 {X : Nat × (Nat → Int32)} {R : zRt} : ∀ ls st h, B_X9_rest_29 X (zV X M_X9_rest (zQm M_X9_rest R) 0 0) R ls st h → zV X M_X9_rest (zQm M_X9_rest R) 0 0 29 ls st h := sd_iload_n dX9_rest_29 rfl (sd_iconst dX9_rest_30 rfl (sd_icgt dX9_rest_31 rfl (fun _ _ _ h => h) (sd_aload_n dX9_rest_34 rfl (sd_iload_n dX9_rest_35 rfl (sd_iload_n dX9_rest_36 rfl (sd_inv2 dX9_rest_37 rfl mv_X9_isRest na_X9_isRest ml_RX9_463 ⟨⟨Nat.le_of_ble_eq_true rfl, Nat.le_of_ble_eq_true rfl⟩, ⟨Nat.le_of_ble_eq_true rfl, Nat.le_of_ble_eq_true rfl⟩⟩ (sd_ifeq dX9_rest_40 rfl (fun _ _ _ h => h) (sd_aload_n dX9_rest_43 rfl (sd_bipush dX9_rest_44 rfl (sd_iload_n dX9_rest_46 rfl (sd_iconst dX9_rest_47 rfl (sd_iadd dX9_rest_48 (sd_imul dX9_rest_49 (sd_iload_n dX9_rest_50 rfl (sd_iadd dX9_rest_51 (sd_iconst dX9_rest_52 rfl (sd_iadd dX9_rest_53 (sd_inv1 dX9_rest_54 rfl mv_X9_good na_X9_good ml_RX9_46 ⟨⟨Nat.le_of_ble_eq_true rfl, Nat.le_of_ble_eq_true rfl⟩, ⟨Nat.le_of_ble_eq_true rfl, Nat.le_of_ble_eq_true rfl⟩⟩ (sd_iret dX9_rest_57 rfl (Nat.le_of_ble_eq_true rfl) (Nat.le_of_ble_eq_true rfl))))))))))))))))))))
def B_X9_rest_58 (X : Nat × (Nat → Int32)) (J : Nat → zCf) (R : zRt) : zCf := oIINC 1 2 (zj (1)) (J 29)
set_option maxRecDepth 100000 in
theorem vb_X9_rest_58 {X : Nat × (Nat → Int32)} {R : zRt} : ∀ ls st h, B_X9_rest_58 X (zV X M_X9_rest (zQm M_X9_rest R) 0 0) R ls st h → zV X M_X9_rest (zQm M_X9_rest R) 0 0 58 ls st h := sd_iinc dX9_rest_58 rfl (Nat.le_of_ble_eq_true rfl) (Or.inl rfl) (sd_goto dX9_rest_61 rfl (fun _ _ _ h => h))
def B_X9_rest_64 (X : Nat × (Nat → Int32)) (J : Nat → zCf) (R : zRt) : zCf := oIINC 0 1 (zj (1)) (J 21)
set_option maxRecDepth 100000 in
theorem vb_X9_rest_64 {X : Nat × (Nat → Int32)} {R : zRt} : ∀ ls st h, B_X9_rest_64 X (zV X M_X9_rest (zQm M_X9_rest R) 0 0) R ls st h → zV X M_X9_rest (zQm M_X9_rest R) 0 0 64 ls st h := sd_iinc dX9_rest_64 rfl (Nat.le_of_ble_eq_true rfl) (Or.inl rfl) (sd_goto dX9_rest_67 rfl (fun _ _ _ h => h))
def B_X9_rest_70 (X : Nat × (Nat → Int32)) (J : Nat → zCf) (R : zRt) : zCf := oALOAD 0 (oPI (zj (-2)) (oINV1 X M_X9_good 9 (oIRET R)))
set_option maxRecDepth 100000 in
theorem vb_X9_rest_70 {X : Nat × (Nat → Int32)} {R : zRt} : ∀ ls st h, B_X9_rest_70 X (zV X M_X9_rest (zQm M_X9_rest R) 0 0) R ls st h → zV X M_X9_rest (zQm M_X9_rest R) 0 0 70 ls st h := sd_aload_n dX9_rest_70 rfl (sd_bipush dX9_rest_71 rfl (sd_inv1 dX9_rest_73 rfl mv_X9_good na_X9_good ml_RX9_46 ⟨⟨Nat.le_of_ble_eq_true rfl, Nat.le_of_ble_eq_true rfl⟩, ⟨Nat.le_of_ble_eq_true rfl, Nat.le_of_ble_eq_true rfl⟩⟩ (sd_iret dX9_rest_76 rfl (Nat.le_of_ble_eq_true rfl) (Nat.le_of_ble_eq_true rfl))))
theorem dX9_refusesShakes_0 : decode cX9_refusesShakes 0 = .ok (.iload_n 1, 1) := by decide +kernel
theorem dX9_refusesShakes_1 : decode cX9_refusesShakes 1 = .ok (.ifCond .ne 7, 3) := by decide +kernel
theorem dX9_refusesShakes_4 : decode cX9_refusesShakes 4 = .ok (.iconst 1, 1) := by decide +kernel
theorem dX9_refusesShakes_5 : decode cX9_refusesShakes 5 = .ok (.goto 29, 3) := by decide +kernel
theorem dX9_refusesShakes_8 : decode cX9_refusesShakes 8 = .ok (.iload_n 2, 1) := by decide +kernel
theorem dX9_refusesShakes_9 : decode cX9_refusesShakes 9 = .ok (.iconst 0, 1) := by decide +kernel
theorem dX9_refusesShakes_10 : decode cX9_refusesShakes 10 = .ok (.ldc_w 466, 3) := by decide +kernel
theorem dX9_refusesShakes_13 : decode cX9_refusesShakes 13 = .ok (.invokestatic 115, 3) := by decide +kernel
theorem dX9_refusesShakes_16 : decode cX9_refusesShakes 16 = .ok (.ifCond .eq 17, 3) := by decide +kernel
theorem dX9_refusesShakes_19 : decode cX9_refusesShakes 19 = .ok (.iload_n 3, 1) := by decide +kernel
theorem dX9_refusesShakes_20 : decode cX9_refusesShakes 20 = .ok (.iconst 0, 1) := by decide +kernel
theorem dX9_refusesShakes_21 : decode cX9_refusesShakes 21 = .ok (.bipush 60, 2) := by decide +kernel
theorem dX9_refusesShakes_23 : decode cX9_refusesShakes 23 = .ok (.invokestatic 115, 3) := by decide +kernel
theorem dX9_refusesShakes_26 : decode cX9_refusesShakes 26 = .ok (.ifCond .eq 7, 3) := by decide +kernel
theorem dX9_refusesShakes_29 : decode cX9_refusesShakes 29 = .ok (.iconst 0, 1) := by decide +kernel
theorem dX9_refusesShakes_30 : decode cX9_refusesShakes 30 = .ok (.goto 4, 3) := by decide +kernel
theorem dX9_refusesShakes_33 : decode cX9_refusesShakes 33 = .ok (.iconst 2, 1) := by decide +kernel
theorem dX9_refusesShakes_34 : decode cX9_refusesShakes 34 = .ok (.ireturn, 1) := by decide +kernel
def B_X9_refusesShakes_0 (X : Nat × (Nat → Int32)) (J : Nat → zCf) (R : zRt) : zCf := oILOAD 1 (oIFNE (J 8) (oPI (zj (1)) (J 34)))
set_option maxRecDepth 100000 in
theorem vb_X9_refusesShakes_0 {X : Nat × (Nat → Int32)} {R : zRt} : ∀ ls st h, B_X9_refusesShakes_0 X (zV X M_X9_refusesShakes (zQm M_X9_refusesShakes R) 0 0) R ls st h → zV X M_X9_refusesShakes (zQm M_X9_refusesShakes R) 0 0 0 ls st h := sd_iload_n dX9_refusesShakes_0 rfl (sd_ifne dX9_refusesShakes_1 rfl (fun _ _ _ h => h) (sd_iconst dX9_refusesShakes_4 rfl (sd_goto dX9_refusesShakes_5 rfl (fun _ _ _ h => h))))
def B_X9_refusesShakes_8 (X : Nat × (Nat → Int32)) (J : Nat → zCf) (R : zRt) : zCf := oILOAD 2 (oPI (zj (0)) (oPI (zj (65536)) (oINS3 X M_X9_in (oIFEQ (J 33) (oILOAD 3 (oPI (zj (0)) (oPI (zj (60)) (oINS3 X M_X9_in (oIFEQ (J 33) (oPI (zj (0)) (J 34)))))))))))
set_option maxRecDepth 100000 in
theorem vb_X9_refusesShakes_8 {X : Nat × (Nat → Int32)} {R : zRt} : ∀ ls st h, B_X9_refusesShakes_8 X (zV X M_X9_refusesShakes (zQm M_X9_refusesShakes R) 0 0) R ls st h → zV X M_X9_refusesShakes (zQm M_X9_refusesShakes R) 0 0 8 ls st h := sd_iload_n dX9_refusesShakes_8 rfl (sd_iconst dX9_refusesShakes_9 rfl (sd_ldc_w dX9_refusesShakes_10 (zmt (zt8 (i := 109) rfl) rfl) (sd_ins3 dX9_refusesShakes_13 ms_X9_in na_X9_in ml_RX9_115 ⟨⟨Nat.le_of_ble_eq_true rfl, Nat.le_of_ble_eq_true rfl⟩, ⟨Nat.le_of_ble_eq_true rfl, Nat.le_of_ble_eq_true rfl⟩⟩ (sd_ifeq dX9_refusesShakes_16 rfl (fun _ _ _ h => h) (sd_iload_n dX9_refusesShakes_19 rfl (sd_iconst dX9_refusesShakes_20 rfl (sd_bipush dX9_refusesShakes_21 rfl (sd_ins3 dX9_refusesShakes_23 ms_X9_in na_X9_in ml_RX9_115 ⟨⟨Nat.le_of_ble_eq_true rfl, Nat.le_of_ble_eq_true rfl⟩, ⟨Nat.le_of_ble_eq_true rfl, Nat.le_of_ble_eq_true rfl⟩⟩ (sd_ifeq dX9_refusesShakes_26 rfl (fun _ _ _ h => h) (sd_iconst dX9_refusesShakes_29 rfl (sd_goto dX9_refusesShakes_30 rfl (fun _ _ _ h => h))))))))))))
def B_X9_refusesShakes_33 (X : Nat × (Nat → Int32)) (J : Nat → zCf) (R : zRt) : zCf := oPI (zj (2)) (J 34)
set_option maxRecDepth 100000 in
theorem vb_X9_refusesShakes_33 {X : Nat × (Nat → Int32)} {R : zRt} : ∀ ls st h, B_X9_refusesShakes_33 X (zV X M_X9_refusesShakes (zQm M_X9_refusesShakes R) 0 0) R ls st h → zV X M_X9_refusesShakes (zQm M_X9_refusesShakes R) 0 0 33 ls st h := sd_iconst dX9_refusesShakes_33 rfl (fun _ _ _ h => h)
def B_X9_refusesShakes_34 (X : Nat × (Nat → Int32)) (J : Nat → zCf) (R : zRt) : zCf := oIRET R
set_option maxRecDepth 100000 in
theorem vb_X9_refusesShakes_34 {X : Nat × (Nat → Int32)} {R : zRt} : ∀ ls st h, B_X9_refusesShakes_34 X (zV X M_X9_refusesShakes (zQm M_X9_refusesShakes R) 0 0) R ls st h → zV X M_X9_refusesShakes (zQm M_X9_refusesShakes R) 0 0 34 ls st h := sd_iret dX9_refusesShakes_34 rfl (Nat.le_of_ble_eq_true rfl) (Nat.le_of_ble_eq_true rfl)
theorem dX9_shakes_0 : decode cX9_shakes 0 = .ok (.aload_n 0, 1) := by decide +kernel
theorem dX9_shakes_1 : decode cX9_shakes 1 = .ok (.invokevirtual 336, 3) := by decide +kernel
theorem dX9_shakes_4 : decode cX9_shakes 4 = .ok (.iload_n 1, 1) := by decide +kernel
theorem dX9_shakes_5 : decode cX9_shakes 5 = .ok (.istore 4, 2) := by decide +kernel
theorem dX9_shakes_7 : decode cX9_shakes 7 = .ok (.aload_n 0, 1) := by decide +kernel
theorem dX9_shakes_8 : decode cX9_shakes 8 = .ok (.iconst 0, 1) := by decide +kernel
theorem dX9_shakes_9 : decode cX9_shakes 9 = .ok (.putfield 467, 3) := by decide +kernel
theorem dX9_shakes_12 : decode cX9_shakes 12 = .ok (.aload_n 0, 1) := by decide +kernel
theorem dX9_shakes_13 : decode cX9_shakes 13 = .ok (.iconst 0, 1) := by decide +kernel
theorem dX9_shakes_14 : decode cX9_shakes 14 = .ok (.putfield 470, 3) := by decide +kernel
theorem dX9_shakes_17 : decode cX9_shakes 17 = .ok (.iconst 0, 1) := by decide +kernel
theorem dX9_shakes_18 : decode cX9_shakes 18 = .ok (.istore 5, 2) := by decide +kernel
theorem dX9_shakes_20 : decode cX9_shakes 20 = .ok (.iload 5, 2) := by decide +kernel
theorem dX9_shakes_22 : decode cX9_shakes 22 = .ok (.iload_n 2, 1) := by decide +kernel
theorem dX9_shakes_23 : decode cX9_shakes 23 = .ok (.if_icmp .ge 121, 3) := by decide +kernel
theorem dX9_shakes_26 : decode cX9_shakes 26 = .ok (.aload_n 0, 1) := by decide +kernel
theorem dX9_shakes_27 : decode cX9_shakes 27 = .ok (.getfield 289, 3) := by decide +kernel
theorem dX9_shakes_30 : decode cX9_shakes 30 = .ok (.aload_n 0, 1) := by decide +kernel
theorem dX9_shakes_31 : decode cX9_shakes 31 = .ok (.getfield 17, 3) := by decide +kernel
theorem dX9_shakes_34 : decode cX9_shakes 34 = .ok (.bipush 14, 2) := by decide +kernel
theorem dX9_shakes_36 : decode cX9_shakes 36 = .ok (.iaload, 1) := by decide +kernel
theorem dX9_shakes_37 : decode cX9_shakes 37 = .ok (.iload 5, 2) := by decide +kernel
theorem dX9_shakes_39 : decode cX9_shakes 39 = .ok (.iadd, 1) := by decide +kernel
theorem dX9_shakes_40 : decode cX9_shakes 40 = .ok (.invokevirtual 267, 3) := by decide +kernel
theorem dX9_shakes_43 : decode cX9_shakes 43 = .ok (.ifCond .ne 36, 3) := by decide +kernel
theorem dX9_shakes_46 : decode cX9_shakes 46 = .ok (.ldc2_w 473, 3) := by decide +kernel
theorem dX9_shakes_49 : decode cX9_shakes 49 = .ok (.iload 4, 2) := by decide +kernel
theorem dX9_shakes_51 : decode cX9_shakes 51 = .ok (.i2l, 1) := by decide +kernel
theorem dX9_shakes_52 : decode cX9_shakes 52 = .ok (.lmul, 1) := by decide +kernel
theorem dX9_shakes_53 : decode cX9_shakes 53 = .ok (.ldc2_w 475, 3) := by decide +kernel
theorem dX9_shakes_56 : decode cX9_shakes 56 = .ok (.ladd, 1) := by decide +kernel
theorem dX9_shakes_57 : decode cX9_shakes 57 = .ok (.ldc2_w 477, 3) := by decide +kernel
theorem dX9_shakes_60 : decode cX9_shakes 60 = .ok (.lrem, 1) := by decide +kernel
theorem dX9_shakes_61 : decode cX9_shakes 61 = .ok (.l2i, 1) := by decide +kernel
theorem dX9_shakes_62 : decode cX9_shakes 62 = .ok (.istore 4, 2) := by decide +kernel
theorem dX9_shakes_64 : decode cX9_shakes 64 = .ok (.aload_n 0, 1) := by decide +kernel
theorem dX9_shakes_65 : decode cX9_shakes 65 = .ok (.aload_n 0, 1) := by decide +kernel
theorem dX9_shakes_66 : decode cX9_shakes 66 = .ok (.getfield 21, 3) := by decide +kernel
theorem dX9_shakes_69 : decode cX9_shakes 69 = .ok (.iload 4, 2) := by decide +kernel
theorem dX9_shakes_71 : decode cX9_shakes 71 = .ok (.bipush 7, 2) := by decide +kernel
theorem dX9_shakes_73 : decode cX9_shakes 73 = .ok (.irem, 1) := by decide +kernel
theorem dX9_shakes_74 : decode cX9_shakes 74 = .ok (.iconst 3, 1) := by decide +kernel
theorem dX9_shakes_75 : decode cX9_shakes 75 = .ok (.isub, 1) := by decide +kernel
theorem dX9_shakes_76 : decode cX9_shakes 76 = .ok (.invokevirtual 339, 3) := by decide +kernel
theorem dX9_shakes_79 : decode cX9_shakes 79 = .ok (.aload_n 0, 1) := by decide +kernel
theorem dX9_shakes_80 : decode cX9_shakes 80 = .ok (.dup, 1) := by decide +kernel
theorem dX9_shakes_81 : decode cX9_shakes 81 = .ok (.getfield 467, 3) := by decide +kernel
theorem dX9_shakes_84 : decode cX9_shakes 84 = .ok (.aload_n 0, 1) := by decide +kernel
theorem dX9_shakes_85 : decode cX9_shakes 85 = .ok (.aload_n 0, 1) := by decide +kernel
theorem dX9_shakes_86 : decode cX9_shakes 86 = .ok (.getfield 21, 3) := by decide +kernel
theorem dX9_shakes_89 : decode cX9_shakes 89 = .ok (.aload_n 0, 1) := by decide +kernel
theorem dX9_shakes_90 : decode cX9_shakes 90 = .ok (.getfield 21, 3) := by decide +kernel
theorem dX9_shakes_93 : decode cX9_shakes 93 = .ok (.iconst 0, 1) := by decide +kernel
theorem dX9_shakes_94 : decode cX9_shakes 94 = .ok (.iload_n 3, 1) := by decide +kernel
theorem dX9_shakes_95 : decode cX9_shakes 95 = .ok (.iadd, 1) := by decide +kernel
theorem dX9_shakes_96 : decode cX9_shakes 96 = .ok (.iaload, 1) := by decide +kernel
theorem dX9_shakes_97 : decode cX9_shakes 97 = .ok (.invokevirtual 306, 3) := by decide +kernel
theorem dX9_shakes_100 : decode cX9_shakes 100 = .ok (.iload_n 3, 1) := by decide +kernel
theorem dX9_shakes_101 : decode cX9_shakes 101 = .ok (.if_icmp .ne 7, 3) := by decide +kernel
theorem dX9_shakes_104 : decode cX9_shakes 104 = .ok (.iconst 1, 1) := by decide +kernel
theorem dX9_shakes_105 : decode cX9_shakes 105 = .ok (.goto 4, 3) := by decide +kernel
theorem dX9_shakes_108 : decode cX9_shakes 108 = .ok (.iconst 0, 1) := by decide +kernel
theorem dX9_shakes_109 : decode cX9_shakes 109 = .ok (.iadd, 1) := by decide +kernel
theorem dX9_shakes_110 : decode cX9_shakes 110 = .ok (.putfield 467, 3) := by decide +kernel
theorem dX9_shakes_113 : decode cX9_shakes 113 = .ok (.aload_n 0, 1) := by decide +kernel
theorem dX9_shakes_114 : decode cX9_shakes 114 = .ok (.dup, 1) := by decide +kernel
theorem dX9_shakes_115 : decode cX9_shakes 115 = .ok (.getfield 470, 3) := by decide +kernel
theorem dX9_shakes_118 : decode cX9_shakes 118 = .ok (.aload_n 0, 1) := by decide +kernel
theorem dX9_shakes_119 : decode cX9_shakes 119 = .ok (.aload_n 0, 1) := by decide +kernel
theorem dX9_shakes_120 : decode cX9_shakes 120 = .ok (.getfield 21, 3) := by decide +kernel
theorem dX9_shakes_123 : decode cX9_shakes 123 = .ok (.invokevirtual 364, 3) := by decide +kernel
theorem dX9_shakes_126 : decode cX9_shakes 126 = .ok (.ifCond .eq 7, 3) := by decide +kernel
theorem dX9_shakes_129 : decode cX9_shakes 129 = .ok (.iconst 1, 1) := by decide +kernel
theorem dX9_shakes_130 : decode cX9_shakes 130 = .ok (.goto 4, 3) := by decide +kernel
theorem dX9_shakes_133 : decode cX9_shakes 133 = .ok (.iconst 0, 1) := by decide +kernel
theorem dX9_shakes_134 : decode cX9_shakes 134 = .ok (.iadd, 1) := by decide +kernel
theorem dX9_shakes_135 : decode cX9_shakes 135 = .ok (.putfield 470, 3) := by decide +kernel
theorem dX9_shakes_138 : decode cX9_shakes 138 = .ok (.iinc 5 1, 3) := by decide +kernel
theorem dX9_shakes_141 : decode cX9_shakes 141 = .ok (.goto (-121), 3) := by decide +kernel
theorem dX9_shakes_144 : decode cX9_shakes 144 = .ok (.return_, 1) := by decide +kernel
def B_X9_shakes_0 (X : Nat × (Nat → Int32)) (J : Nat → zCf) (R : zRt) : zCf := oALOAD 0 (oINV0 X M_X9_tries 9 (oILOAD 1 (oISTORE 3 4 (oALOAD 0 (oPI (zj (0)) (oPUTI 9 25 (oALOAD 0 (oPI (zj (0)) (oPUTI 9 26 (oPI (zj (0)) (oISTORE 4 5 (J 20))))))))))))
set_option maxRecDepth 100000 in
theorem vb_X9_shakes_0 {X : Nat × (Nat → Int32)} {R : zRt} : ∀ ls st h, B_X9_shakes_0 X (zV X M_X9_shakes (zQm M_X9_shakes R) 0 0) R ls st h → zV X M_X9_shakes (zQm M_X9_shakes R) 0 0 0 ls st h := sd_aload_n dX9_shakes_0 rfl (sd_inv0 dX9_shakes_1 rfl mv_X9_tries na_X9_tries ml_RX9_336 ⟨⟨Nat.le_of_ble_eq_true rfl, Nat.le_of_ble_eq_true rfl⟩, ⟨Nat.le_of_ble_eq_true rfl, Nat.le_of_ble_eq_true rfl⟩⟩ (sd_iload_n dX9_shakes_4 rfl (sd_istore dX9_shakes_5 (Nat.le_of_ble_eq_true rfl) (Or.inl rfl) (sd_aload_n dX9_shakes_7 rfl (sd_iconst dX9_shakes_8 rfl (sd_puti dX9_shakes_9 zCl9 (Nat.le_of_ble_eq_true rfl) lk_RX9_467 rfl (Or.inl rfl) (sd_aload_n dX9_shakes_12 rfl (sd_iconst dX9_shakes_13 rfl (sd_puti dX9_shakes_14 zCl9 (Nat.le_of_ble_eq_true rfl) lk_RX9_470 rfl (Or.inl rfl) (sd_iconst dX9_shakes_17 rfl (sd_istore dX9_shakes_18 (Nat.le_of_ble_eq_true rfl) (Or.inl rfl) (fun _ _ _ h => h))))))))))))
def B_X9_shakes_20 (X : Nat × (Nat → Int32)) (J : Nat → zCf) (R : zRt) : zCf := oILOAD 5 (oILOAD 2 (oICGE (J 144) (oALOAD 0 (oGETR 9 3 (oALOAD 0 (oGETR 9 15 (oPI (zj (14)) (oIALD (oILOAD 5 (oIADD (oINV1 X M_X8_isHoliday 8 (oIFNE (J 79) (oPL (zk (75)) (oILOAD 4 (oI2L (oLMUL (oPL (zk (74)) (oLADD (oPL (zk (65537)) (oLREM (oL2I (oISTORE 3 4 (oALOAD 0 (oALOAD 0 (oGETR 9 16 (oILOAD 4 (oPI (zj (7)) (oIREM (oPI (zj (3)) (oISUB (oINV2 X M_X9_turns 9 (J 79))))))))))))))))))))))))))))))))
set_option maxRecDepth 100000 in
theorem vb_X9_shakes_20 {X : Nat × (Nat → Int32)} {R : zRt} : ∀ ls st h, B_X9_shakes_20 X (zV X M_X9_shakes (zQm M_X9_shakes R) 0 0) R ls st h → zV X M_X9_shakes (zQm M_X9_shakes R) 0 0 20 ls st h := sd_iload dX9_shakes_20 (sd_iload_n dX9_shakes_22 rfl (sd_icge dX9_shakes_23 rfl (fun _ _ _ h => h) (sd_aload_n dX9_shakes_26 rfl (sd_getr dX9_shakes_27 zCl9 (Nat.le_of_ble_eq_true rfl) lk_RX9_289 (Or.inl ⟨_, rfl⟩) (sd_aload_n dX9_shakes_30 rfl (sd_getr dX9_shakes_31 zCl9 (Nat.le_of_ble_eq_true rfl) lk_RX9_17 (Or.inr ⟨_, rfl⟩) (sd_bipush dX9_shakes_34 rfl (sd_iald dX9_shakes_36 (sd_iload dX9_shakes_37 (sd_iadd dX9_shakes_39 (sd_inv1 dX9_shakes_40 rfl mv_X8_isHoliday na_X8_isHoliday ml_RX9_267 ⟨⟨Nat.le_of_ble_eq_true rfl, Nat.le_of_ble_eq_true rfl⟩, ⟨Nat.le_of_ble_eq_true rfl, Nat.le_of_ble_eq_true rfl⟩⟩ (sd_ifne dX9_shakes_43 rfl (fun _ _ _ h => h) (sd_ldc2 dX9_shakes_46 (zmt (zt8 (i := 114) rfl) rfl) (sd_iload dX9_shakes_49 (sd_i2l dX9_shakes_51 (sd_lmul dX9_shakes_52 (sd_ldc2 dX9_shakes_53 (zmt (zt8 (i := 115) rfl) rfl) (sd_ladd dX9_shakes_56 (sd_ldc2 dX9_shakes_57 (zmt (zt8 (i := 116) rfl) rfl) (sd_lrem dX9_shakes_60 (sd_l2i dX9_shakes_61 (sd_istore dX9_shakes_62 (Nat.le_of_ble_eq_true rfl) (Or.inl rfl) (sd_aload_n dX9_shakes_64 rfl (sd_aload_n dX9_shakes_65 rfl (sd_getr dX9_shakes_66 zCl9 (Nat.le_of_ble_eq_true rfl) lk_RX9_21 (Or.inr ⟨_, rfl⟩) (sd_iload dX9_shakes_69 (sd_bipush dX9_shakes_71 rfl (sd_irem dX9_shakes_73 (sd_iconst dX9_shakes_74 rfl (sd_isub dX9_shakes_75 (sd_inv2 dX9_shakes_76 rfl mv_X9_turns na_X9_turns ml_RX9_339 ⟨⟨Nat.le_of_ble_eq_true rfl, Nat.le_of_ble_eq_true rfl⟩, ⟨Nat.le_of_ble_eq_true rfl, Nat.le_of_ble_eq_true rfl⟩⟩ (fun _ _ _ h => h))))))))))))))))))))))))))))))))
def B_X9_shakes_79 (X : Nat × (Nat → Int32)) (J : Nat → zCf) (R : zRt) : zCf := oALOAD 0 (oDUP (oGETI 9 25 (oALOAD 0 (oALOAD 0 (oGETR 9 16 (oALOAD 0 (oGETR 9 16 (oPI (zj (0)) (oILOAD 3 (oIADD (oIALD (oINV2 X M_X9_topIn 9 (oILOAD 3 (oICNE (J 108) (oPI (zj (1)) (J 109))))))))))))))))
set_option maxRecDepth 100000 in
theorem vb_X9_shakes_79 {X : Nat × (Nat → Int32)} {R : zRt} : ∀ ls st h, B_X9_shakes_79 X (zV X M_X9_shakes (zQm M_X9_shakes R) 0 0) R ls st h → zV X M_X9_shakes (zQm M_X9_shakes R) 0 0 79 ls st h := sd_aload_n dX9_shakes_79 rfl (sd_dup dX9_shakes_80 (sd_geti dX9_shakes_81 zCl9 (Nat.le_of_ble_eq_true rfl) lk_RX9_467 (Or.inl rfl) (sd_aload_n dX9_shakes_84 rfl (sd_aload_n dX9_shakes_85 rfl (sd_getr dX9_shakes_86 zCl9 (Nat.le_of_ble_eq_true rfl) lk_RX9_21 (Or.inr ⟨_, rfl⟩) (sd_aload_n dX9_shakes_89 rfl (sd_getr dX9_shakes_90 zCl9 (Nat.le_of_ble_eq_true rfl) lk_RX9_21 (Or.inr ⟨_, rfl⟩) (sd_iconst dX9_shakes_93 rfl (sd_iload_n dX9_shakes_94 rfl (sd_iadd dX9_shakes_95 (sd_iald dX9_shakes_96 (sd_inv2 dX9_shakes_97 rfl mv_X9_topIn na_X9_topIn ml_RX9_306 ⟨⟨Nat.le_of_ble_eq_true rfl, Nat.le_of_ble_eq_true rfl⟩, ⟨Nat.le_of_ble_eq_true rfl, Nat.le_of_ble_eq_true rfl⟩⟩ (sd_iload_n dX9_shakes_100 rfl (sd_icne dX9_shakes_101 rfl (fun _ _ _ h => h) (sd_iconst dX9_shakes_104 rfl (sd_goto dX9_shakes_105 rfl (fun _ _ _ h => h)))))))))))))))))
def B_X9_shakes_108 (X : Nat × (Nat → Int32)) (J : Nat → zCf) (R : zRt) : zCf := oPI (zj (0)) (J 109)
set_option maxRecDepth 100000 in
theorem vb_X9_shakes_108 {X : Nat × (Nat → Int32)} {R : zRt} : ∀ ls st h, B_X9_shakes_108 X (zV X M_X9_shakes (zQm M_X9_shakes R) 0 0) R ls st h → zV X M_X9_shakes (zQm M_X9_shakes R) 0 0 108 ls st h := sd_iconst dX9_shakes_108 rfl (fun _ _ _ h => h)
def B_X9_shakes_109 (X : Nat × (Nat → Int32)) (J : Nat → zCf) (R : zRt) : zCf := oIADD (oPUTI 9 25 (oALOAD 0 (oDUP (oGETI 9 26 (oALOAD 0 (oALOAD 0 (oGETR 9 16 (oINV1 X M_X9_isAllRight 9 (oIFEQ (J 133) (oPI (zj (1)) (J 134)))))))))))
set_option maxRecDepth 100000 in
theorem vb_X9_shakes_109 {X : Nat × (Nat → Int32)} {R : zRt} : ∀ ls st h, B_X9_shakes_109 X (zV X M_X9_shakes (zQm M_X9_shakes R) 0 0) R ls st h → zV X M_X9_shakes (zQm M_X9_shakes R) 0 0 109 ls st h := sd_iadd dX9_shakes_109 (sd_puti dX9_shakes_110 zCl9 (Nat.le_of_ble_eq_true rfl) lk_RX9_467 rfl (Or.inl rfl) (sd_aload_n dX9_shakes_113 rfl (sd_dup dX9_shakes_114 (sd_geti dX9_shakes_115 zCl9 (Nat.le_of_ble_eq_true rfl) lk_RX9_470 (Or.inl rfl) (sd_aload_n dX9_shakes_118 rfl (sd_aload_n dX9_shakes_119 rfl (sd_getr dX9_shakes_120 zCl9 (Nat.le_of_ble_eq_true rfl) lk_RX9_21 (Or.inr ⟨_, rfl⟩) (sd_inv1 dX9_shakes_123 rfl mv_X9_isAllRight na_X9_isAllRight ml_RX9_364 ⟨⟨Nat.le_of_ble_eq_true rfl, Nat.le_of_ble_eq_true rfl⟩, ⟨Nat.le_of_ble_eq_true rfl, Nat.le_of_ble_eq_true rfl⟩⟩ (sd_ifeq dX9_shakes_126 rfl (fun _ _ _ h => h) (sd_iconst dX9_shakes_129 rfl (sd_goto dX9_shakes_130 rfl (fun _ _ _ h => h))))))))))))
def B_X9_shakes_133 (X : Nat × (Nat → Int32)) (J : Nat → zCf) (R : zRt) : zCf := oPI (zj (0)) (J 134)
set_option maxRecDepth 100000 in
theorem vb_X9_shakes_133 {X : Nat × (Nat → Int32)} {R : zRt} : ∀ ls st h, B_X9_shakes_133 X (zV X M_X9_shakes (zQm M_X9_shakes R) 0 0) R ls st h → zV X M_X9_shakes (zQm M_X9_shakes R) 0 0 133 ls st h := sd_iconst dX9_shakes_133 rfl (fun _ _ _ h => h)
def B_X9_shakes_134 (X : Nat × (Nat → Int32)) (J : Nat → zCf) (R : zRt) : zCf := oIADD (oPUTI 9 26 (oIINC 4 5 (zj (1)) (J 20)))
set_option maxRecDepth 100000 in
theorem vb_X9_shakes_134 {X : Nat × (Nat → Int32)} {R : zRt} : ∀ ls st h, B_X9_shakes_134 X (zV X M_X9_shakes (zQm M_X9_shakes R) 0 0) R ls st h → zV X M_X9_shakes (zQm M_X9_shakes R) 0 0 134 ls st h := sd_iadd dX9_shakes_134 (sd_puti dX9_shakes_135 zCl9 (Nat.le_of_ble_eq_true rfl) lk_RX9_470 rfl (Or.inl rfl) (sd_iinc dX9_shakes_138 rfl (Nat.le_of_ble_eq_true rfl) (Or.inl rfl) (sd_goto dX9_shakes_141 rfl (fun _ _ _ h => h))))
def B_X9_shakes_144 (X : Nat × (Nat → Int32)) (J : Nat → zCf) (R : zRt) : zCf := oVRET R
set_option maxRecDepth 100000 in
theorem vb_X9_shakes_144 {X : Nat × (Nat → Int32)} {R : zRt} : ∀ ls st h, B_X9_shakes_144 X (zV X M_X9_shakes (zQm M_X9_shakes R) 0 0) R ls st h → zV X M_X9_shakes (zQm M_X9_shakes R) 0 0 144 ls st h := sd_vret dX9_shakes_144 rfl (Nat.le_of_ble_eq_true rfl) (Nat.le_of_ble_eq_true rfl)
theorem dX9_shaken_0 : decode cX9_shaken 0 = .ok (.aload_n 0, 1) := by decide +kernel
theorem dX9_shaken_1 : decode cX9_shaken 1 = .ok (.iconst 0, 1) := by decide +kernel
theorem dX9_shaken_2 : decode cX9_shaken 2 = .ok (.putfield 36, 3) := by decide +kernel
theorem dX9_shaken_5 : decode cX9_shaken 5 = .ok (.aload_n 0, 1) := by decide +kernel
theorem dX9_shaken_6 : decode cX9_shaken 6 = .ok (.aload_n 0, 1) := by decide +kernel
theorem dX9_shaken_7 : decode cX9_shaken 7 = .ok (.iload_n 1, 1) := by decide +kernel
theorem dX9_shaken_8 : decode cX9_shaken 8 = .ok (.invokevirtual 322, 3) := by decide +kernel
theorem dX9_shaken_11 : decode cX9_shaken 11 = .ok (.iload_n 2, 1) := by decide +kernel
theorem dX9_shaken_12 : decode cX9_shaken 12 = .ok (.iload_n 3, 1) := by decide +kernel
theorem dX9_shaken_13 : decode cX9_shaken 13 = .ok (.invokevirtual 479, 3) := by decide +kernel
theorem dX9_shaken_16 : decode cX9_shaken 16 = .ok (.istore 4, 2) := by decide +kernel
theorem dX9_shaken_18 : decode cX9_shaken 18 = .ok (.iload 4, 2) := by decide +kernel
theorem dX9_shaken_20 : decode cX9_shaken 20 = .ok (.ifCond .le 10, 3) := by decide +kernel
theorem dX9_shaken_23 : decode cX9_shaken 23 = .ok (.aload_n 0, 1) := by decide +kernel
theorem dX9_shaken_24 : decode cX9_shaken 24 = .ok (.iload 4, 2) := by decide +kernel
theorem dX9_shaken_26 : decode cX9_shaken 26 = .ok (.invokevirtual 42, 3) := by decide +kernel
theorem dX9_shaken_29 : decode cX9_shaken 29 = .ok (.ireturn, 1) := by decide +kernel
theorem dX9_shaken_30 : decode cX9_shaken 30 = .ok (.aload_n 0, 1) := by decide +kernel
theorem dX9_shaken_31 : decode cX9_shaken 31 = .ok (.iload_n 2, 1) := by decide +kernel
theorem dX9_shaken_32 : decode cX9_shaken 32 = .ok (.iload_n 3, 1) := by decide +kernel
theorem dX9_shaken_33 : decode cX9_shaken 33 = .ok (.iload_n 1, 1) := by decide +kernel
theorem dX9_shaken_34 : decode cX9_shaken 34 = .ok (.invokevirtual 483, 3) := by decide +kernel
theorem dX9_shaken_37 : decode cX9_shaken 37 = .ok (.aload_n 0, 1) := by decide +kernel
theorem dX9_shaken_38 : decode cX9_shaken 38 = .ok (.aload_n 0, 1) := by decide +kernel
theorem dX9_shaken_39 : decode cX9_shaken 39 = .ok (.getfield 21, 3) := by decide +kernel
theorem dX9_shaken_42 : decode cX9_shaken 42 = .ok (.iconst 0, 1) := by decide +kernel
theorem dX9_shaken_43 : decode cX9_shaken 43 = .ok (.iload_n 1, 1) := by decide +kernel
theorem dX9_shaken_44 : decode cX9_shaken 44 = .ok (.iadd, 1) := by decide +kernel
theorem dX9_shaken_45 : decode cX9_shaken 45 = .ok (.iaload, 1) := by decide +kernel
theorem dX9_shaken_46 : decode cX9_shaken 46 = .ok (.invokevirtual 46, 3) := by decide +kernel
theorem dX9_shaken_49 : decode cX9_shaken 49 = .ok (.ireturn, 1) := by decide +kernel
def B_X9_shaken_0 (X : Nat × (Nat → Int32)) (J : Nat → zCf) (R : zRt) : zCf := oALOAD 0 (oPI (zj (0)) (oPUTI 9 0 (oALOAD 0 (oALOAD 0 (oILOAD 1 (oINV1 X M_X9_isBit 9 (oILOAD 2 (oILOAD 3 (oINV3 X M_X9_refusesShakes 9 (oISTORE 3 4 (oILOAD 4 (oIFLE (J 30) (oALOAD 0 (oILOAD 4 (oINV1 X M_X9_refused 9 (oIRET R))))))))))))))))
set_option maxRecDepth 100000 in
theorem vb_X9_shaken_0 {X : Nat × (Nat → Int32)} {R : zRt} : ∀ ls st h, B_X9_shaken_0 X (zV X M_X9_shaken (zQm M_X9_shaken R) 0 0) R ls st h → zV X M_X9_shaken (zQm M_X9_shaken R) 0 0 0 ls st h := sd_aload_n dX9_shaken_0 rfl (sd_iconst dX9_shaken_1 rfl (sd_puti dX9_shaken_2 zCl9 (Nat.le_of_ble_eq_true rfl) lk_RX9_36 rfl (Or.inl rfl) (sd_aload_n dX9_shaken_5 rfl (sd_aload_n dX9_shaken_6 rfl (sd_iload_n dX9_shaken_7 rfl (sd_inv1 dX9_shaken_8 rfl mv_X9_isBit na_X9_isBit ml_RX9_322 ⟨⟨Nat.le_of_ble_eq_true rfl, Nat.le_of_ble_eq_true rfl⟩, ⟨Nat.le_of_ble_eq_true rfl, Nat.le_of_ble_eq_true rfl⟩⟩ (sd_iload_n dX9_shaken_11 rfl (sd_iload_n dX9_shaken_12 rfl (sd_inv3 dX9_shaken_13 rfl mv_X9_refusesShakes na_X9_refusesShakes ml_RX9_479 ⟨⟨Nat.le_of_ble_eq_true rfl, Nat.le_of_ble_eq_true rfl⟩, ⟨Nat.le_of_ble_eq_true rfl, Nat.le_of_ble_eq_true rfl⟩⟩ (sd_istore dX9_shaken_16 (Nat.le_of_ble_eq_true rfl) (Or.inl rfl) (sd_iload dX9_shaken_18 (sd_ifle dX9_shaken_20 rfl (fun _ _ _ h => h) (sd_aload_n dX9_shaken_23 rfl (sd_iload dX9_shaken_24 (sd_inv1 dX9_shaken_26 rfl mv_X9_refused na_X9_refused ml_RX9_42 ⟨⟨Nat.le_of_ble_eq_true rfl, Nat.le_of_ble_eq_true rfl⟩, ⟨Nat.le_of_ble_eq_true rfl, Nat.le_of_ble_eq_true rfl⟩⟩ (sd_iret dX9_shaken_29 rfl (Nat.le_of_ble_eq_true rfl) (Nat.le_of_ble_eq_true rfl)))))))))))))))))
def B_X9_shaken_30 (X : Nat × (Nat → Int32)) (J : Nat → zCf) (R : zRt) : zCf := oALOAD 0 (oILOAD 2 (oILOAD 3 (oILOAD 1 (oINV3 X M_X9_shakes 9 (oALOAD 0 (oALOAD 0 (oGETR 9 16 (oPI (zj (0)) (oILOAD 1 (oIADD (oIALD (oINV1 X M_X9_good 9 (oIRET R)))))))))))))
set_option maxRecDepth 100000 in
theorem vb_X9_shaken_30 {X : Nat × (Nat → Int32)} {R : zRt} : ∀ ls st h, B_X9_shaken_30 X (zV X M_X9_shaken (zQm M_X9_shaken R) 0 0) R ls st h → zV X M_X9_shaken (zQm M_X9_shaken R) 0 0 30 ls st h := sd_aload_n dX9_shaken_30 rfl (sd_iload_n dX9_shaken_31 rfl (sd_iload_n dX9_shaken_32 rfl (sd_iload_n dX9_shaken_33 rfl (sd_inv3 dX9_shaken_34 rfl mv_X9_shakes na_X9_shakes ml_RX9_483 ⟨⟨Nat.le_of_ble_eq_true rfl, Nat.le_of_ble_eq_true rfl⟩, ⟨Nat.le_of_ble_eq_true rfl, Nat.le_of_ble_eq_true rfl⟩⟩ (sd_aload_n dX9_shaken_37 rfl (sd_aload_n dX9_shaken_38 rfl (sd_getr dX9_shaken_39 zCl9 (Nat.le_of_ble_eq_true rfl) lk_RX9_21 (Or.inr ⟨_, rfl⟩) (sd_iconst dX9_shaken_42 rfl (sd_iload_n dX9_shaken_43 rfl (sd_iadd dX9_shaken_44 (sd_iald dX9_shaken_45 (sd_inv1 dX9_shaken_46 rfl mv_X9_good na_X9_good ml_RX9_46 ⟨⟨Nat.le_of_ble_eq_true rfl, Nat.le_of_ble_eq_true rfl⟩, ⟨Nat.le_of_ble_eq_true rfl, Nat.le_of_ble_eq_true rfl⟩⟩ (sd_iret dX9_shaken_49 rfl (Nat.le_of_ble_eq_true rfl) (Nat.le_of_ble_eq_true rfl))))))))))))))
theorem dX9_topDays_0 : decode cX9_topDays 0 = .ok (.aload_n 0, 1) := by decide +kernel
theorem dX9_topDays_1 : decode cX9_topDays 1 = .ok (.iconst 0, 1) := by decide +kernel
theorem dX9_topDays_2 : decode cX9_topDays 2 = .ok (.putfield 36, 3) := by decide +kernel
theorem dX9_topDays_5 : decode cX9_topDays 5 = .ok (.aload_n 0, 1) := by decide +kernel
theorem dX9_topDays_6 : decode cX9_topDays 6 = .ok (.aload_n 0, 1) := by decide +kernel
theorem dX9_topDays_7 : decode cX9_topDays 7 = .ok (.iload_n 1, 1) := by decide +kernel
theorem dX9_topDays_8 : decode cX9_topDays 8 = .ok (.invokevirtual 322, 3) := by decide +kernel
theorem dX9_topDays_11 : decode cX9_topDays 11 = .ok (.iload_n 2, 1) := by decide +kernel
theorem dX9_topDays_12 : decode cX9_topDays 12 = .ok (.iload_n 3, 1) := by decide +kernel
theorem dX9_topDays_13 : decode cX9_topDays 13 = .ok (.invokevirtual 479, 3) := by decide +kernel
theorem dX9_topDays_16 : decode cX9_topDays 16 = .ok (.istore 4, 2) := by decide +kernel
theorem dX9_topDays_18 : decode cX9_topDays 18 = .ok (.iload 4, 2) := by decide +kernel
theorem dX9_topDays_20 : decode cX9_topDays 20 = .ok (.ifCond .le 10, 3) := by decide +kernel
theorem dX9_topDays_23 : decode cX9_topDays 23 = .ok (.aload_n 0, 1) := by decide +kernel
theorem dX9_topDays_24 : decode cX9_topDays 24 = .ok (.iload 4, 2) := by decide +kernel
theorem dX9_topDays_26 : decode cX9_topDays 26 = .ok (.invokevirtual 42, 3) := by decide +kernel
theorem dX9_topDays_29 : decode cX9_topDays 29 = .ok (.ireturn, 1) := by decide +kernel
theorem dX9_topDays_30 : decode cX9_topDays 30 = .ok (.aload_n 0, 1) := by decide +kernel
theorem dX9_topDays_31 : decode cX9_topDays 31 = .ok (.iload_n 2, 1) := by decide +kernel
theorem dX9_topDays_32 : decode cX9_topDays 32 = .ok (.iload_n 3, 1) := by decide +kernel
theorem dX9_topDays_33 : decode cX9_topDays 33 = .ok (.iload_n 1, 1) := by decide +kernel
theorem dX9_topDays_34 : decode cX9_topDays 34 = .ok (.invokevirtual 483, 3) := by decide +kernel
theorem dX9_topDays_37 : decode cX9_topDays 37 = .ok (.aload_n 0, 1) := by decide +kernel
theorem dX9_topDays_38 : decode cX9_topDays 38 = .ok (.aload_n 0, 1) := by decide +kernel
theorem dX9_topDays_39 : decode cX9_topDays 39 = .ok (.getfield 467, 3) := by decide +kernel
theorem dX9_topDays_42 : decode cX9_topDays 42 = .ok (.invokevirtual 46, 3) := by decide +kernel
theorem dX9_topDays_45 : decode cX9_topDays 45 = .ok (.ireturn, 1) := by decide +kernel
def B_X9_topDays_0 (X : Nat × (Nat → Int32)) (J : Nat → zCf) (R : zRt) : zCf := oALOAD 0 (oPI (zj (0)) (oPUTI 9 0 (oALOAD 0 (oALOAD 0 (oILOAD 1 (oINV1 X M_X9_isBit 9 (oILOAD 2 (oILOAD 3 (oINV3 X M_X9_refusesShakes 9 (oISTORE 3 4 (oILOAD 4 (oIFLE (J 30) (oALOAD 0 (oILOAD 4 (oINV1 X M_X9_refused 9 (oIRET R))))))))))))))))
set_option maxRecDepth 100000 in
theorem vb_X9_topDays_0 {X : Nat × (Nat → Int32)} {R : zRt} : ∀ ls st h, B_X9_topDays_0 X (zV X M_X9_topDays (zQm M_X9_topDays R) 0 0) R ls st h → zV X M_X9_topDays (zQm M_X9_topDays R) 0 0 0 ls st h := sd_aload_n dX9_topDays_0 rfl (sd_iconst dX9_topDays_1 rfl (sd_puti dX9_topDays_2 zCl9 (Nat.le_of_ble_eq_true rfl) lk_RX9_36 rfl (Or.inl rfl) (sd_aload_n dX9_topDays_5 rfl (sd_aload_n dX9_topDays_6 rfl (sd_iload_n dX9_topDays_7 rfl (sd_inv1 dX9_topDays_8 rfl mv_X9_isBit na_X9_isBit ml_RX9_322 ⟨⟨Nat.le_of_ble_eq_true rfl, Nat.le_of_ble_eq_true rfl⟩, ⟨Nat.le_of_ble_eq_true rfl, Nat.le_of_ble_eq_true rfl⟩⟩ (sd_iload_n dX9_topDays_11 rfl (sd_iload_n dX9_topDays_12 rfl (sd_inv3 dX9_topDays_13 rfl mv_X9_refusesShakes na_X9_refusesShakes ml_RX9_479 ⟨⟨Nat.le_of_ble_eq_true rfl, Nat.le_of_ble_eq_true rfl⟩, ⟨Nat.le_of_ble_eq_true rfl, Nat.le_of_ble_eq_true rfl⟩⟩ (sd_istore dX9_topDays_16 (Nat.le_of_ble_eq_true rfl) (Or.inl rfl) (sd_iload dX9_topDays_18 (sd_ifle dX9_topDays_20 rfl (fun _ _ _ h => h) (sd_aload_n dX9_topDays_23 rfl (sd_iload dX9_topDays_24 (sd_inv1 dX9_topDays_26 rfl mv_X9_refused na_X9_refused ml_RX9_42 ⟨⟨Nat.le_of_ble_eq_true rfl, Nat.le_of_ble_eq_true rfl⟩, ⟨Nat.le_of_ble_eq_true rfl, Nat.le_of_ble_eq_true rfl⟩⟩ (sd_iret dX9_topDays_29 rfl (Nat.le_of_ble_eq_true rfl) (Nat.le_of_ble_eq_true rfl)))))))))))))))))
def B_X9_topDays_30 (X : Nat × (Nat → Int32)) (J : Nat → zCf) (R : zRt) : zCf := oALOAD 0 (oILOAD 2 (oILOAD 3 (oILOAD 1 (oINV3 X M_X9_shakes 9 (oALOAD 0 (oALOAD 0 (oGETI 9 25 (oINV1 X M_X9_good 9 (oIRET R)))))))))
set_option maxRecDepth 100000 in
theorem vb_X9_topDays_30 {X : Nat × (Nat → Int32)} {R : zRt} : ∀ ls st h, B_X9_topDays_30 X (zV X M_X9_topDays (zQm M_X9_topDays R) 0 0) R ls st h → zV X M_X9_topDays (zQm M_X9_topDays R) 0 0 30 ls st h := sd_aload_n dX9_topDays_30 rfl (sd_iload_n dX9_topDays_31 rfl (sd_iload_n dX9_topDays_32 rfl (sd_iload_n dX9_topDays_33 rfl (sd_inv3 dX9_topDays_34 rfl mv_X9_shakes na_X9_shakes ml_RX9_483 ⟨⟨Nat.le_of_ble_eq_true rfl, Nat.le_of_ble_eq_true rfl⟩, ⟨Nat.le_of_ble_eq_true rfl, Nat.le_of_ble_eq_true rfl⟩⟩ (sd_aload_n dX9_topDays_37 rfl (sd_aload_n dX9_topDays_38 rfl (sd_geti dX9_topDays_39 zCl9 (Nat.le_of_ble_eq_true rfl) lk_RX9_467 (Or.inl rfl) (sd_inv1 dX9_topDays_42 rfl mv_X9_good na_X9_good ml_RX9_46 ⟨⟨Nat.le_of_ble_eq_true rfl, Nat.le_of_ble_eq_true rfl⟩, ⟨Nat.le_of_ble_eq_true rfl, Nat.le_of_ble_eq_true rfl⟩⟩ (sd_iret dX9_topDays_45 rfl (Nat.le_of_ble_eq_true rfl) (Nat.le_of_ble_eq_true rfl))))))))))
theorem dX9_rightDays_0 : decode cX9_rightDays 0 = .ok (.aload_n 0, 1) := by decide +kernel
theorem dX9_rightDays_1 : decode cX9_rightDays 1 = .ok (.iconst 0, 1) := by decide +kernel
theorem dX9_rightDays_2 : decode cX9_rightDays 2 = .ok (.putfield 36, 3) := by decide +kernel
theorem dX9_rightDays_5 : decode cX9_rightDays 5 = .ok (.aload_n 0, 1) := by decide +kernel
theorem dX9_rightDays_6 : decode cX9_rightDays 6 = .ok (.aload_n 0, 1) := by decide +kernel
theorem dX9_rightDays_7 : decode cX9_rightDays 7 = .ok (.getfield 289, 3) := by decide +kernel
theorem dX9_rightDays_10 : decode cX9_rightDays 10 = .ok (.ifnull 7, 3) := by decide +kernel
theorem dX9_rightDays_13 : decode cX9_rightDays 13 = .ok (.iconst 1, 1) := by decide +kernel
theorem dX9_rightDays_14 : decode cX9_rightDays 14 = .ok (.goto 4, 3) := by decide +kernel
theorem dX9_rightDays_17 : decode cX9_rightDays 17 = .ok (.iconst 0, 1) := by decide +kernel
theorem dX9_rightDays_18 : decode cX9_rightDays 18 = .ok (.iload_n 1, 1) := by decide +kernel
theorem dX9_rightDays_19 : decode cX9_rightDays 19 = .ok (.iload_n 2, 1) := by decide +kernel
theorem dX9_rightDays_20 : decode cX9_rightDays 20 = .ok (.invokevirtual 479, 3) := by decide +kernel
theorem dX9_rightDays_23 : decode cX9_rightDays 23 = .ok (.istore_n 3, 1) := by decide +kernel
theorem dX9_rightDays_24 : decode cX9_rightDays 24 = .ok (.iload_n 3, 1) := by decide +kernel
theorem dX9_rightDays_25 : decode cX9_rightDays 25 = .ok (.ifCond .le 9, 3) := by decide +kernel
theorem dX9_rightDays_28 : decode cX9_rightDays 28 = .ok (.aload_n 0, 1) := by decide +kernel
theorem dX9_rightDays_29 : decode cX9_rightDays 29 = .ok (.iload_n 3, 1) := by decide +kernel
theorem dX9_rightDays_30 : decode cX9_rightDays 30 = .ok (.invokevirtual 42, 3) := by decide +kernel
theorem dX9_rightDays_33 : decode cX9_rightDays 33 = .ok (.ireturn, 1) := by decide +kernel
theorem dX9_rightDays_34 : decode cX9_rightDays 34 = .ok (.aload_n 0, 1) := by decide +kernel
theorem dX9_rightDays_35 : decode cX9_rightDays 35 = .ok (.iload_n 1, 1) := by decide +kernel
theorem dX9_rightDays_36 : decode cX9_rightDays 36 = .ok (.iload_n 2, 1) := by decide +kernel
theorem dX9_rightDays_37 : decode cX9_rightDays 37 = .ok (.iconst 0, 1) := by decide +kernel
theorem dX9_rightDays_38 : decode cX9_rightDays 38 = .ok (.invokevirtual 483, 3) := by decide +kernel
theorem dX9_rightDays_41 : decode cX9_rightDays 41 = .ok (.aload_n 0, 1) := by decide +kernel
theorem dX9_rightDays_42 : decode cX9_rightDays 42 = .ok (.aload_n 0, 1) := by decide +kernel
theorem dX9_rightDays_43 : decode cX9_rightDays 43 = .ok (.getfield 470, 3) := by decide +kernel
theorem dX9_rightDays_46 : decode cX9_rightDays 46 = .ok (.invokevirtual 46, 3) := by decide +kernel
theorem dX9_rightDays_49 : decode cX9_rightDays 49 = .ok (.ireturn, 1) := by decide +kernel
def B_X9_rightDays_0 (X : Nat × (Nat → Int32)) (J : Nat → zCf) (R : zRt) : zCf := oALOAD 0 (oPI (zj (0)) (oPUTI 9 0 (oALOAD 0 (oALOAD 0 (oGETR 9 3 (oIFNULL (J 17) (oPI (zj (1)) (J 18))))))))
set_option maxRecDepth 100000 in
theorem vb_X9_rightDays_0 {X : Nat × (Nat → Int32)} {R : zRt} : ∀ ls st h, B_X9_rightDays_0 X (zV X M_X9_rightDays (zQm M_X9_rightDays R) 0 0) R ls st h → zV X M_X9_rightDays (zQm M_X9_rightDays R) 0 0 0 ls st h := sd_aload_n dX9_rightDays_0 rfl (sd_iconst dX9_rightDays_1 rfl (sd_puti dX9_rightDays_2 zCl9 (Nat.le_of_ble_eq_true rfl) lk_RX9_36 rfl (Or.inl rfl) (sd_aload_n dX9_rightDays_5 rfl (sd_aload_n dX9_rightDays_6 rfl (sd_getr dX9_rightDays_7 zCl9 (Nat.le_of_ble_eq_true rfl) lk_RX9_289 (Or.inl ⟨_, rfl⟩) (sd_ifnull dX9_rightDays_10 rfl (fun _ _ _ h => h) (sd_iconst dX9_rightDays_13 rfl (sd_goto dX9_rightDays_14 rfl (fun _ _ _ h => h)))))))))
def B_X9_rightDays_17 (X : Nat × (Nat → Int32)) (J : Nat → zCf) (R : zRt) : zCf := oPI (zj (0)) (J 18)
set_option maxRecDepth 100000 in
theorem vb_X9_rightDays_17 {X : Nat × (Nat → Int32)} {R : zRt} : ∀ ls st h, B_X9_rightDays_17 X (zV X M_X9_rightDays (zQm M_X9_rightDays R) 0 0) R ls st h → zV X M_X9_rightDays (zQm M_X9_rightDays R) 0 0 17 ls st h := sd_iconst dX9_rightDays_17 rfl (fun _ _ _ h => h)
def B_X9_rightDays_18 (X : Nat × (Nat → Int32)) (J : Nat → zCf) (R : zRt) : zCf := oILOAD 1 (oILOAD 2 (oINV3 X M_X9_refusesShakes 9 (oISTORE 2 3 (oILOAD 3 (oIFLE (J 34) (oALOAD 0 (oILOAD 3 (oINV1 X M_X9_refused 9 (oIRET R)))))))))
set_option maxRecDepth 100000 in
theorem vb_X9_rightDays_18 {X : Nat × (Nat → Int32)} {R : zRt} : ∀ ls st h, B_X9_rightDays_18 X (zV X M_X9_rightDays (zQm M_X9_rightDays R) 0 0) R ls st h → zV X M_X9_rightDays (zQm M_X9_rightDays R) 0 0 18 ls st h := sd_iload_n dX9_rightDays_18 rfl (sd_iload_n dX9_rightDays_19 rfl (sd_inv3 dX9_rightDays_20 rfl mv_X9_refusesShakes na_X9_refusesShakes ml_RX9_479 ⟨⟨Nat.le_of_ble_eq_true rfl, Nat.le_of_ble_eq_true rfl⟩, ⟨Nat.le_of_ble_eq_true rfl, Nat.le_of_ble_eq_true rfl⟩⟩ (sd_istore_n dX9_rightDays_23 rfl (Nat.le_of_ble_eq_true rfl) (Or.inl rfl) (sd_iload_n dX9_rightDays_24 rfl (sd_ifle dX9_rightDays_25 rfl (fun _ _ _ h => h) (sd_aload_n dX9_rightDays_28 rfl (sd_iload_n dX9_rightDays_29 rfl (sd_inv1 dX9_rightDays_30 rfl mv_X9_refused na_X9_refused ml_RX9_42 ⟨⟨Nat.le_of_ble_eq_true rfl, Nat.le_of_ble_eq_true rfl⟩, ⟨Nat.le_of_ble_eq_true rfl, Nat.le_of_ble_eq_true rfl⟩⟩ (sd_iret dX9_rightDays_33 rfl (Nat.le_of_ble_eq_true rfl) (Nat.le_of_ble_eq_true rfl))))))))))
def B_X9_rightDays_34 (X : Nat × (Nat → Int32)) (J : Nat → zCf) (R : zRt) : zCf := oALOAD 0 (oILOAD 1 (oILOAD 2 (oPI (zj (0)) (oINV3 X M_X9_shakes 9 (oALOAD 0 (oALOAD 0 (oGETI 9 26 (oINV1 X M_X9_good 9 (oIRET R)))))))))
set_option maxRecDepth 100000 in
theorem vb_X9_rightDays_34 {X : Nat × (Nat → Int32)} {R : zRt} : ∀ ls st h, B_X9_rightDays_34 X (zV X M_X9_rightDays (zQm M_X9_rightDays R) 0 0) R ls st h → zV X M_X9_rightDays (zQm M_X9_rightDays R) 0 0 34 ls st h := sd_aload_n dX9_rightDays_34 rfl (sd_iload_n dX9_rightDays_35 rfl (sd_iload_n dX9_rightDays_36 rfl (sd_iconst dX9_rightDays_37 rfl (sd_inv3 dX9_rightDays_38 rfl mv_X9_shakes na_X9_shakes ml_RX9_483 ⟨⟨Nat.le_of_ble_eq_true rfl, Nat.le_of_ble_eq_true rfl⟩, ⟨Nat.le_of_ble_eq_true rfl, Nat.le_of_ble_eq_true rfl⟩⟩ (sd_aload_n dX9_rightDays_41 rfl (sd_aload_n dX9_rightDays_42 rfl (sd_geti dX9_rightDays_43 zCl9 (Nat.le_of_ble_eq_true rfl) lk_RX9_470 (Or.inl rfl) (sd_inv1 dX9_rightDays_46 rfl mv_X9_good na_X9_good ml_RX9_46 ⟨⟨Nat.le_of_ble_eq_true rfl, Nat.le_of_ble_eq_true rfl⟩, ⟨Nat.le_of_ble_eq_true rfl, Nat.le_of_ble_eq_true rfl⟩⟩ (sd_iret dX9_rightDays_49 rfl (Nat.le_of_ble_eq_true rfl) (Nat.le_of_ble_eq_true rfl))))))))))
theorem dX9_remembers_0 : decode cX9_remembers 0 = .ok (.aload_n 0, 1) := by decide +kernel
theorem dX9_remembers_1 : decode cX9_remembers 1 = .ok (.getfield 294, 3) := by decide +kernel
theorem dX9_remembers_4 : decode cX9_remembers 4 = .ok (.bipush 16, 2) := by decide +kernel
theorem dX9_remembers_6 : decode cX9_remembers 6 = .ok (.if_icmp .ne 43, 3) := by decide +kernel
theorem dX9_remembers_9 : decode cX9_remembers 9 = .ok (.iconst 0, 1) := by decide +kernel
theorem dX9_remembers_10 : decode cX9_remembers 10 = .ok (.istore_n 1, 1) := by decide +kernel
theorem dX9_remembers_11 : decode cX9_remembers 11 = .ok (.iload_n 1, 1) := by decide +kernel
theorem dX9_remembers_12 : decode cX9_remembers 12 = .ok (.sipush 225, 3) := by decide +kernel
theorem dX9_remembers_15 : decode cX9_remembers 15 = .ok (.if_icmp .ge 24, 3) := by decide +kernel
theorem dX9_remembers_18 : decode cX9_remembers 18 = .ok (.aload_n 0, 1) := by decide +kernel
theorem dX9_remembers_19 : decode cX9_remembers 19 = .ok (.getfield 24, 3) := by decide +kernel
theorem dX9_remembers_22 : decode cX9_remembers 22 = .ok (.iload_n 1, 1) := by decide +kernel
theorem dX9_remembers_23 : decode cX9_remembers 23 = .ok (.aload_n 0, 1) := by decide +kernel
theorem dX9_remembers_24 : decode cX9_remembers 24 = .ok (.getfield 24, 3) := by decide +kernel
theorem dX9_remembers_27 : decode cX9_remembers 27 = .ok (.iload_n 1, 1) := by decide +kernel
theorem dX9_remembers_28 : decode cX9_remembers 28 = .ok (.bipush 15, 2) := by decide +kernel
theorem dX9_remembers_30 : decode cX9_remembers 30 = .ok (.iadd, 1) := by decide +kernel
theorem dX9_remembers_31 : decode cX9_remembers 31 = .ok (.iaload, 1) := by decide +kernel
theorem dX9_remembers_32 : decode cX9_remembers 32 = .ok (.iastore, 1) := by decide +kernel
theorem dX9_remembers_33 : decode cX9_remembers 33 = .ok (.iinc 1 1, 3) := by decide +kernel
theorem dX9_remembers_36 : decode cX9_remembers 36 = .ok (.goto (-25), 3) := by decide +kernel
theorem dX9_remembers_39 : decode cX9_remembers 39 = .ok (.aload_n 0, 1) := by decide +kernel
theorem dX9_remembers_40 : decode cX9_remembers 40 = .ok (.dup, 1) := by decide +kernel
theorem dX9_remembers_41 : decode cX9_remembers 41 = .ok (.getfield 294, 3) := by decide +kernel
theorem dX9_remembers_44 : decode cX9_remembers 44 = .ok (.iconst 1, 1) := by decide +kernel
theorem dX9_remembers_45 : decode cX9_remembers 45 = .ok (.isub, 1) := by decide +kernel
theorem dX9_remembers_46 : decode cX9_remembers 46 = .ok (.putfield 294, 3) := by decide +kernel
theorem dX9_remembers_49 : decode cX9_remembers 49 = .ok (.iconst 0, 1) := by decide +kernel
theorem dX9_remembers_50 : decode cX9_remembers 50 = .ok (.istore_n 1, 1) := by decide +kernel
theorem dX9_remembers_51 : decode cX9_remembers 51 = .ok (.iload_n 1, 1) := by decide +kernel
theorem dX9_remembers_52 : decode cX9_remembers 52 = .ok (.bipush 15, 2) := by decide +kernel
theorem dX9_remembers_54 : decode cX9_remembers 54 = .ok (.if_icmp .ge 29, 3) := by decide +kernel
theorem dX9_remembers_57 : decode cX9_remembers 57 = .ok (.aload_n 0, 1) := by decide +kernel
theorem dX9_remembers_58 : decode cX9_remembers 58 = .ok (.getfield 24, 3) := by decide +kernel
theorem dX9_remembers_61 : decode cX9_remembers 61 = .ok (.bipush 15, 2) := by decide +kernel
theorem dX9_remembers_63 : decode cX9_remembers 63 = .ok (.aload_n 0, 1) := by decide +kernel
theorem dX9_remembers_64 : decode cX9_remembers 64 = .ok (.getfield 294, 3) := by decide +kernel
theorem dX9_remembers_67 : decode cX9_remembers 67 = .ok (.imul, 1) := by decide +kernel
theorem dX9_remembers_68 : decode cX9_remembers 68 = .ok (.iload_n 1, 1) := by decide +kernel
theorem dX9_remembers_69 : decode cX9_remembers 69 = .ok (.iadd, 1) := by decide +kernel
theorem dX9_remembers_70 : decode cX9_remembers 70 = .ok (.aload_n 0, 1) := by decide +kernel
theorem dX9_remembers_71 : decode cX9_remembers 71 = .ok (.getfield 17, 3) := by decide +kernel
theorem dX9_remembers_74 : decode cX9_remembers 74 = .ok (.iload_n 1, 1) := by decide +kernel
theorem dX9_remembers_75 : decode cX9_remembers 75 = .ok (.iaload, 1) := by decide +kernel
theorem dX9_remembers_76 : decode cX9_remembers 76 = .ok (.iastore, 1) := by decide +kernel
theorem dX9_remembers_77 : decode cX9_remembers 77 = .ok (.iinc 1 1, 3) := by decide +kernel
theorem dX9_remembers_80 : decode cX9_remembers 80 = .ok (.goto (-29), 3) := by decide +kernel
theorem dX9_remembers_83 : decode cX9_remembers 83 = .ok (.aload_n 0, 1) := by decide +kernel
theorem dX9_remembers_84 : decode cX9_remembers 84 = .ok (.dup, 1) := by decide +kernel
theorem dX9_remembers_85 : decode cX9_remembers 85 = .ok (.getfield 294, 3) := by decide +kernel
theorem dX9_remembers_88 : decode cX9_remembers 88 = .ok (.iconst 1, 1) := by decide +kernel
theorem dX9_remembers_89 : decode cX9_remembers 89 = .ok (.iadd, 1) := by decide +kernel
theorem dX9_remembers_90 : decode cX9_remembers 90 = .ok (.putfield 294, 3) := by decide +kernel
theorem dX9_remembers_93 : decode cX9_remembers 93 = .ok (.return_, 1) := by decide +kernel
def B_X9_remembers_0 (X : Nat × (Nat → Int32)) (J : Nat → zCf) (R : zRt) : zCf := oALOAD 0 (oGETI 9 19 (oPI (zj (16)) (oICNE (J 49) (oPI (zj (0)) (oISTORE 0 1 (J 11))))))
set_option maxRecDepth 100000 in
theorem vb_X9_remembers_0 {X : Nat × (Nat → Int32)} {R : zRt} : ∀ ls st h, B_X9_remembers_0 X (zV X M_X9_remembers (zQm M_X9_remembers R) 0 0) R ls st h → zV X M_X9_remembers (zQm M_X9_remembers R) 0 0 0 ls st h := sd_aload_n dX9_remembers_0 rfl (sd_geti dX9_remembers_1 zCl9 (Nat.le_of_ble_eq_true rfl) lk_RX9_294 (Or.inl rfl) (sd_bipush dX9_remembers_4 rfl (sd_icne dX9_remembers_6 rfl (fun _ _ _ h => h) (sd_iconst dX9_remembers_9 rfl (sd_istore_n dX9_remembers_10 rfl (Nat.le_of_ble_eq_true rfl) (Or.inl rfl) (fun _ _ _ h => h))))))
def B_X9_remembers_11 (X : Nat × (Nat → Int32)) (J : Nat → zCf) (R : zRt) : zCf := oILOAD 1 (oPI (zj (225)) (oICGE (J 39) (oALOAD 0 (oGETR 9 17 (oILOAD 1 (oALOAD 0 (oGETR 9 17 (oILOAD 1 (oPI (zj (15)) (oIADD (oIALD (oIAST (oIINC 0 1 (zj (1)) (J 11))))))))))))))
set_option maxRecDepth 100000 in
theorem vb_X9_remembers_11 {X : Nat × (Nat → Int32)} {R : zRt} : ∀ ls st h, B_X9_remembers_11 X (zV X M_X9_remembers (zQm M_X9_remembers R) 0 0) R ls st h → zV X M_X9_remembers (zQm M_X9_remembers R) 0 0 11 ls st h := sd_iload_n dX9_remembers_11 rfl (sd_sipush dX9_remembers_12 rfl (sd_icge dX9_remembers_15 rfl (fun _ _ _ h => h) (sd_aload_n dX9_remembers_18 rfl (sd_getr dX9_remembers_19 zCl9 (Nat.le_of_ble_eq_true rfl) lk_RX9_24 (Or.inr ⟨_, rfl⟩) (sd_iload_n dX9_remembers_22 rfl (sd_aload_n dX9_remembers_23 rfl (sd_getr dX9_remembers_24 zCl9 (Nat.le_of_ble_eq_true rfl) lk_RX9_24 (Or.inr ⟨_, rfl⟩) (sd_iload_n dX9_remembers_27 rfl (sd_bipush dX9_remembers_28 rfl (sd_iadd dX9_remembers_30 (sd_iald dX9_remembers_31 (sd_iast dX9_remembers_32 (sd_iinc dX9_remembers_33 rfl (Nat.le_of_ble_eq_true rfl) (Or.inl rfl) (sd_goto dX9_remembers_36 rfl (fun _ _ _ h => h)))))))))))))))
def B_X9_remembers_39 (X : Nat × (Nat → Int32)) (J : Nat → zCf) (R : zRt) : zCf := oALOAD 0 (oDUP (oGETI 9 19 (oPI (zj (1)) (oISUB (oPUTI 9 19 (J 49))))))
set_option maxRecDepth 100000 in
theorem vb_X9_remembers_39 {X : Nat × (Nat → Int32)} {R : zRt} : ∀ ls st h, B_X9_remembers_39 X (zV X M_X9_remembers (zQm M_X9_remembers R) 0 0) R ls st h → zV X M_X9_remembers (zQm M_X9_remembers R) 0 0 39 ls st h := sd_aload_n dX9_remembers_39 rfl (sd_dup dX9_remembers_40 (sd_geti dX9_remembers_41 zCl9 (Nat.le_of_ble_eq_true rfl) lk_RX9_294 (Or.inl rfl) (sd_iconst dX9_remembers_44 rfl (sd_isub dX9_remembers_45 (sd_puti dX9_remembers_46 zCl9 (Nat.le_of_ble_eq_true rfl) lk_RX9_294 rfl (Or.inl rfl) (fun _ _ _ h => h))))))
def B_X9_remembers_49 (X : Nat × (Nat → Int32)) (J : Nat → zCf) (R : zRt) : zCf := oPI (zj (0)) (oISTORE 0 1 (J 51))
set_option maxRecDepth 100000 in
theorem vb_X9_remembers_49 {X : Nat × (Nat → Int32)} {R : zRt} : ∀ ls st h, B_X9_remembers_49 X (zV X M_X9_remembers (zQm M_X9_remembers R) 0 0) R ls st h → zV X M_X9_remembers (zQm M_X9_remembers R) 0 0 49 ls st h := sd_iconst dX9_remembers_49 rfl (sd_istore_n dX9_remembers_50 rfl (Nat.le_of_ble_eq_true rfl) (Or.inl rfl) (fun _ _ _ h => h))
def B_X9_remembers_51 (X : Nat × (Nat → Int32)) (J : Nat → zCf) (R : zRt) : zCf := oILOAD 1 (oPI (zj (15)) (oICGE (J 83) (oALOAD 0 (oGETR 9 17 (oPI (zj (15)) (oALOAD 0 (oGETI 9 19 (oIMUL (oILOAD 1 (oIADD (oALOAD 0 (oGETR 9 15 (oILOAD 1 (oIALD (oIAST (oIINC 0 1 (zj (1)) (J 51)))))))))))))))))
set_option maxRecDepth 100000 in
theorem vb_X9_remembers_51 {X : Nat × (Nat → Int32)} {R : zRt} : ∀ ls st h, B_X9_remembers_51 X (zV X M_X9_remembers (zQm M_X9_remembers R) 0 0) R ls st h → zV X M_X9_remembers (zQm M_X9_remembers R) 0 0 51 ls st h := sd_iload_n dX9_remembers_51 rfl (sd_bipush dX9_remembers_52 rfl (sd_icge dX9_remembers_54 rfl (fun _ _ _ h => h) (sd_aload_n dX9_remembers_57 rfl (sd_getr dX9_remembers_58 zCl9 (Nat.le_of_ble_eq_true rfl) lk_RX9_24 (Or.inr ⟨_, rfl⟩) (sd_bipush dX9_remembers_61 rfl (sd_aload_n dX9_remembers_63 rfl (sd_geti dX9_remembers_64 zCl9 (Nat.le_of_ble_eq_true rfl) lk_RX9_294 (Or.inl rfl) (sd_imul dX9_remembers_67 (sd_iload_n dX9_remembers_68 rfl (sd_iadd dX9_remembers_69 (sd_aload_n dX9_remembers_70 rfl (sd_getr dX9_remembers_71 zCl9 (Nat.le_of_ble_eq_true rfl) lk_RX9_17 (Or.inr ⟨_, rfl⟩) (sd_iload_n dX9_remembers_74 rfl (sd_iald dX9_remembers_75 (sd_iast dX9_remembers_76 (sd_iinc dX9_remembers_77 rfl (Nat.le_of_ble_eq_true rfl) (Or.inl rfl) (sd_goto dX9_remembers_80 rfl (fun _ _ _ h => h))))))))))))))))))
def B_X9_remembers_83 (X : Nat × (Nat → Int32)) (J : Nat → zCf) (R : zRt) : zCf := oALOAD 0 (oDUP (oGETI 9 19 (oPI (zj (1)) (oIADD (oPUTI 9 19 (oVRET R))))))
set_option maxRecDepth 100000 in
theorem vb_X9_remembers_83 {X : Nat × (Nat → Int32)} {R : zRt} : ∀ ls st h, B_X9_remembers_83 X (zV X M_X9_remembers (zQm M_X9_remembers R) 0 0) R ls st h → zV X M_X9_remembers (zQm M_X9_remembers R) 0 0 83 ls st h := sd_aload_n dX9_remembers_83 rfl (sd_dup dX9_remembers_84 (sd_geti dX9_remembers_85 zCl9 (Nat.le_of_ble_eq_true rfl) lk_RX9_294 (Or.inl rfl) (sd_iconst dX9_remembers_88 rfl (sd_iadd dX9_remembers_89 (sd_puti dX9_remembers_90 zCl9 (Nat.le_of_ble_eq_true rfl) lk_RX9_294 rfl (Or.inl rfl) (sd_vret dX9_remembers_93 rfl (Nat.le_of_ble_eq_true rfl) (Nat.le_of_ble_eq_true rfl)))))))
theorem dX9_turn_0 : decode cX9_turn 0 = .ok (.aload_n 0, 1) := by decide +kernel
theorem dX9_turn_1 : decode cX9_turn 1 = .ok (.iconst 0, 1) := by decide +kernel
theorem dX9_turn_2 : decode cX9_turn 2 = .ok (.putfield 36, 3) := by decide +kernel
theorem dX9_turn_5 : decode cX9_turn 5 = .ok (.aload_n 0, 1) := by decide +kernel
theorem dX9_turn_6 : decode cX9_turn 6 = .ok (.getfield 289, 3) := by decide +kernel
theorem dX9_turn_9 : decode cX9_turn 9 = .ok (.ifnonnull 9, 3) := by decide +kernel
theorem dX9_turn_12 : decode cX9_turn 12 = .ok (.aload_n 0, 1) := by decide +kernel
theorem dX9_turn_13 : decode cX9_turn 13 = .ok (.iconst 1, 1) := by decide +kernel
theorem dX9_turn_14 : decode cX9_turn 14 = .ok (.invokevirtual 42, 3) := by decide +kernel
theorem dX9_turn_17 : decode cX9_turn 17 = .ok (.ireturn, 1) := by decide +kernel
theorem dX9_turn_18 : decode cX9_turn 18 = .ok (.iload_n 1, 1) := by decide +kernel
theorem dX9_turn_19 : decode cX9_turn 19 = .ok (.ifCond .eq 14, 3) := by decide +kernel
theorem dX9_turn_22 : decode cX9_turn 22 = .ok (.iload_n 1, 1) := by decide +kernel
theorem dX9_turn_23 : decode cX9_turn 23 = .ok (.bipush (-6), 2) := by decide +kernel
theorem dX9_turn_25 : decode cX9_turn 25 = .ok (.bipush 6, 2) := by decide +kernel
theorem dX9_turn_27 : decode cX9_turn 27 = .ok (.invokestatic 115, 3) := by decide +kernel
theorem dX9_turn_30 : decode cX9_turn 30 = .ok (.ifCond .ne 9, 3) := by decide +kernel
theorem dX9_turn_33 : decode cX9_turn 33 = .ok (.aload_n 0, 1) := by decide +kernel
theorem dX9_turn_34 : decode cX9_turn 34 = .ok (.iconst 2, 1) := by decide +kernel
theorem dX9_turn_35 : decode cX9_turn 35 = .ok (.invokevirtual 42, 3) := by decide +kernel
theorem dX9_turn_38 : decode cX9_turn 38 = .ok (.ireturn, 1) := by decide +kernel
theorem dX9_turn_39 : decode cX9_turn 39 = .ok (.aload_n 0, 1) := by decide +kernel
theorem dX9_turn_40 : decode cX9_turn 40 = .ok (.getfield 289, 3) := by decide +kernel
theorem dX9_turn_43 : decode cX9_turn 43 = .ok (.aload_n 0, 1) := by decide +kernel
theorem dX9_turn_44 : decode cX9_turn 44 = .ok (.getfield 17, 3) := by decide +kernel
theorem dX9_turn_47 : decode cX9_turn 47 = .ok (.bipush 14, 2) := by decide +kernel
theorem dX9_turn_49 : decode cX9_turn 49 = .ok (.iaload, 1) := by decide +kernel
theorem dX9_turn_50 : decode cX9_turn 50 = .ok (.invokevirtual 267, 3) := by decide +kernel
theorem dX9_turn_53 : decode cX9_turn 53 = .ok (.ifCond .eq 9, 3) := by decide +kernel
theorem dX9_turn_56 : decode cX9_turn 56 = .ok (.aload_n 0, 1) := by decide +kernel
theorem dX9_turn_57 : decode cX9_turn 57 = .ok (.iconst 5, 1) := by decide +kernel
theorem dX9_turn_58 : decode cX9_turn 58 = .ok (.invokevirtual 42, 3) := by decide +kernel
theorem dX9_turn_61 : decode cX9_turn 61 = .ok (.ireturn, 1) := by decide +kernel
theorem dX9_turn_62 : decode cX9_turn 62 = .ok (.aload_n 0, 1) := by decide +kernel
theorem dX9_turn_63 : decode cX9_turn 63 = .ok (.invokevirtual 487, 3) := by decide +kernel
theorem dX9_turn_66 : decode cX9_turn 66 = .ok (.aload_n 0, 1) := by decide +kernel
theorem dX9_turn_67 : decode cX9_turn 67 = .ok (.aload_n 0, 1) := by decide +kernel
theorem dX9_turn_68 : decode cX9_turn 68 = .ok (.getfield 17, 3) := by decide +kernel
theorem dX9_turn_71 : decode cX9_turn 71 = .ok (.iload_n 1, 1) := by decide +kernel
theorem dX9_turn_72 : decode cX9_turn 72 = .ok (.invokevirtual 339, 3) := by decide +kernel
theorem dX9_turn_75 : decode cX9_turn 75 = .ok (.aload_n 0, 1) := by decide +kernel
theorem dX9_turn_76 : decode cX9_turn 76 = .ok (.aload_n 0, 1) := by decide +kernel
theorem dX9_turn_77 : decode cX9_turn 77 = .ok (.aload_n 0, 1) := by decide +kernel
theorem dX9_turn_78 : decode cX9_turn 78 = .ok (.getfield 17, 3) := by decide +kernel
theorem dX9_turn_81 : decode cX9_turn 81 = .ok (.invokevirtual 332, 3) := by decide +kernel
theorem dX9_turn_84 : decode cX9_turn 84 = .ok (.invokestatic 347, 3) := by decide +kernel
theorem dX9_turn_87 : decode cX9_turn 87 = .ok (.invokevirtual 46, 3) := by decide +kernel
theorem dX9_turn_90 : decode cX9_turn 90 = .ok (.ireturn, 1) := by decide +kernel
def B_X9_turn_0 (X : Nat × (Nat → Int32)) (J : Nat → zCf) (R : zRt) : zCf := oALOAD 0 (oPI (zj (0)) (oPUTI 9 0 (oALOAD 0 (oGETR 9 3 (oIFNONNULL (J 18) (oALOAD 0 (oPI (zj (1)) (oINV1 X M_X9_refused 9 (oIRET R)))))))))
set_option maxRecDepth 100000 in
theorem vb_X9_turn_0 {X : Nat × (Nat → Int32)} {R : zRt} : ∀ ls st h, B_X9_turn_0 X (zV X M_X9_turn (zQm M_X9_turn R) 0 0) R ls st h → zV X M_X9_turn (zQm M_X9_turn R) 0 0 0 ls st h := sd_aload_n dX9_turn_0 rfl (sd_iconst dX9_turn_1 rfl (sd_puti dX9_turn_2 zCl9 (Nat.le_of_ble_eq_true rfl) lk_RX9_36 rfl (Or.inl rfl) (sd_aload_n dX9_turn_5 rfl (sd_getr dX9_turn_6 zCl9 (Nat.le_of_ble_eq_true rfl) lk_RX9_289 (Or.inl ⟨_, rfl⟩) (sd_ifnonnull dX9_turn_9 rfl (fun _ _ _ h => h) (sd_aload_n dX9_turn_12 rfl (sd_iconst dX9_turn_13 rfl (sd_inv1 dX9_turn_14 rfl mv_X9_refused na_X9_refused ml_RX9_42 ⟨⟨Nat.le_of_ble_eq_true rfl, Nat.le_of_ble_eq_true rfl⟩, ⟨Nat.le_of_ble_eq_true rfl, Nat.le_of_ble_eq_true rfl⟩⟩ (sd_iret dX9_turn_17 rfl (Nat.le_of_ble_eq_true rfl) (Nat.le_of_ble_eq_true rfl))))))))))
def B_X9_turn_18 (X : Nat × (Nat → Int32)) (J : Nat → zCf) (R : zRt) : zCf := oILOAD 1 (oIFEQ (J 33) (oILOAD 1 (oPI (zj (-6)) (oPI (zj (6)) (oINS3 X M_X9_in (oIFNE (J 39) (J 33)))))))
set_option maxRecDepth 100000 in
theorem vb_X9_turn_18 {X : Nat × (Nat → Int32)} {R : zRt} : ∀ ls st h, B_X9_turn_18 X (zV X M_X9_turn (zQm M_X9_turn R) 0 0) R ls st h → zV X M_X9_turn (zQm M_X9_turn R) 0 0 18 ls st h := sd_iload_n dX9_turn_18 rfl (sd_ifeq dX9_turn_19 rfl (fun _ _ _ h => h) (sd_iload_n dX9_turn_22 rfl (sd_bipush dX9_turn_23 rfl (sd_bipush dX9_turn_25 rfl (sd_ins3 dX9_turn_27 ms_X9_in na_X9_in ml_RX9_115 ⟨⟨Nat.le_of_ble_eq_true rfl, Nat.le_of_ble_eq_true rfl⟩, ⟨Nat.le_of_ble_eq_true rfl, Nat.le_of_ble_eq_true rfl⟩⟩ (sd_ifne dX9_turn_30 rfl (fun _ _ _ h => h) (fun _ _ _ h => h)))))))
def B_X9_turn_33 (X : Nat × (Nat → Int32)) (J : Nat → zCf) (R : zRt) : zCf := oALOAD 0 (oPI (zj (2)) (oINV1 X M_X9_refused 9 (oIRET R)))
set_option maxRecDepth 100000 in
theorem vb_X9_turn_33 {X : Nat × (Nat → Int32)} {R : zRt} : ∀ ls st h, B_X9_turn_33 X (zV X M_X9_turn (zQm M_X9_turn R) 0 0) R ls st h → zV X M_X9_turn (zQm M_X9_turn R) 0 0 33 ls st h := sd_aload_n dX9_turn_33 rfl (sd_iconst dX9_turn_34 rfl (sd_inv1 dX9_turn_35 rfl mv_X9_refused na_X9_refused ml_RX9_42 ⟨⟨Nat.le_of_ble_eq_true rfl, Nat.le_of_ble_eq_true rfl⟩, ⟨Nat.le_of_ble_eq_true rfl, Nat.le_of_ble_eq_true rfl⟩⟩ (sd_iret dX9_turn_38 rfl (Nat.le_of_ble_eq_true rfl) (Nat.le_of_ble_eq_true rfl))))
def B_X9_turn_39 (X : Nat × (Nat → Int32)) (J : Nat → zCf) (R : zRt) : zCf := oALOAD 0 (oGETR 9 3 (oALOAD 0 (oGETR 9 15 (oPI (zj (14)) (oIALD (oINV1 X M_X8_isHoliday 8 (oIFEQ (J 62) (oALOAD 0 (oPI (zj (5)) (oINV1 X M_X9_refused 9 (oIRET R)))))))))))
set_option maxRecDepth 100000 in
theorem vb_X9_turn_39 {X : Nat × (Nat → Int32)} {R : zRt} : ∀ ls st h, B_X9_turn_39 X (zV X M_X9_turn (zQm M_X9_turn R) 0 0) R ls st h → zV X M_X9_turn (zQm M_X9_turn R) 0 0 39 ls st h := sd_aload_n dX9_turn_39 rfl (sd_getr dX9_turn_40 zCl9 (Nat.le_of_ble_eq_true rfl) lk_RX9_289 (Or.inl ⟨_, rfl⟩) (sd_aload_n dX9_turn_43 rfl (sd_getr dX9_turn_44 zCl9 (Nat.le_of_ble_eq_true rfl) lk_RX9_17 (Or.inr ⟨_, rfl⟩) (sd_bipush dX9_turn_47 rfl (sd_iald dX9_turn_49 (sd_inv1 dX9_turn_50 rfl mv_X8_isHoliday na_X8_isHoliday ml_RX9_267 ⟨⟨Nat.le_of_ble_eq_true rfl, Nat.le_of_ble_eq_true rfl⟩, ⟨Nat.le_of_ble_eq_true rfl, Nat.le_of_ble_eq_true rfl⟩⟩ (sd_ifeq dX9_turn_53 rfl (fun _ _ _ h => h) (sd_aload_n dX9_turn_56 rfl (sd_iconst dX9_turn_57 rfl (sd_inv1 dX9_turn_58 rfl mv_X9_refused na_X9_refused ml_RX9_42 ⟨⟨Nat.le_of_ble_eq_true rfl, Nat.le_of_ble_eq_true rfl⟩, ⟨Nat.le_of_ble_eq_true rfl, Nat.le_of_ble_eq_true rfl⟩⟩ (sd_iret dX9_turn_61 rfl (Nat.le_of_ble_eq_true rfl) (Nat.le_of_ble_eq_true rfl))))))))))))
def B_X9_turn_62 (X : Nat × (Nat → Int32)) (J : Nat → zCf) (R : zRt) : zCf := oALOAD 0 (oINV0 X M_X9_remembers 9 (oALOAD 0 (oALOAD 0 (oGETR 9 15 (oILOAD 1 (oINV2 X M_X9_turns 9 (oALOAD 0 (oALOAD 0 (oALOAD 0 (oGETR 9 15 (oINV1 X M_X9_topsIn 9 (oINS1 X M_X9_bits (oINV1 X M_X9_good 9 (oIRET R))))))))))))))
set_option maxRecDepth 100000 in
theorem vb_X9_turn_62 {X : Nat × (Nat → Int32)} {R : zRt} : ∀ ls st h, B_X9_turn_62 X (zV X M_X9_turn (zQm M_X9_turn R) 0 0) R ls st h → zV X M_X9_turn (zQm M_X9_turn R) 0 0 62 ls st h := sd_aload_n dX9_turn_62 rfl (sd_inv0 dX9_turn_63 rfl mv_X9_remembers na_X9_remembers ml_RX9_487 ⟨⟨Nat.le_of_ble_eq_true rfl, Nat.le_of_ble_eq_true rfl⟩, ⟨Nat.le_of_ble_eq_true rfl, Nat.le_of_ble_eq_true rfl⟩⟩ (sd_aload_n dX9_turn_66 rfl (sd_aload_n dX9_turn_67 rfl (sd_getr dX9_turn_68 zCl9 (Nat.le_of_ble_eq_true rfl) lk_RX9_17 (Or.inr ⟨_, rfl⟩) (sd_iload_n dX9_turn_71 rfl (sd_inv2 dX9_turn_72 rfl mv_X9_turns na_X9_turns ml_RX9_339 ⟨⟨Nat.le_of_ble_eq_true rfl, Nat.le_of_ble_eq_true rfl⟩, ⟨Nat.le_of_ble_eq_true rfl, Nat.le_of_ble_eq_true rfl⟩⟩ (sd_aload_n dX9_turn_75 rfl (sd_aload_n dX9_turn_76 rfl (sd_aload_n dX9_turn_77 rfl (sd_getr dX9_turn_78 zCl9 (Nat.le_of_ble_eq_true rfl) lk_RX9_17 (Or.inr ⟨_, rfl⟩) (sd_inv1 dX9_turn_81 rfl mv_X9_topsIn na_X9_topsIn ml_RX9_332 ⟨⟨Nat.le_of_ble_eq_true rfl, Nat.le_of_ble_eq_true rfl⟩, ⟨Nat.le_of_ble_eq_true rfl, Nat.le_of_ble_eq_true rfl⟩⟩ (sd_ins1 dX9_turn_84 ms_X9_bits na_X9_bits ml_RX9_347 ⟨⟨Nat.le_of_ble_eq_true rfl, Nat.le_of_ble_eq_true rfl⟩, ⟨Nat.le_of_ble_eq_true rfl, Nat.le_of_ble_eq_true rfl⟩⟩ (sd_inv1 dX9_turn_87 rfl mv_X9_good na_X9_good ml_RX9_46 ⟨⟨Nat.le_of_ble_eq_true rfl, Nat.le_of_ble_eq_true rfl⟩, ⟨Nat.le_of_ble_eq_true rfl, Nat.le_of_ble_eq_true rfl⟩⟩ (sd_iret dX9_turn_90 rfl (Nat.le_of_ble_eq_true rfl) (Nat.le_of_ble_eq_true rfl)))))))))))))))
theorem dX9_go_0 : decode cX9_go 0 = .ok (.aload_n 0, 1) := by decide +kernel
theorem dX9_go_1 : decode cX9_go 1 = .ok (.iconst 0, 1) := by decide +kernel
theorem dX9_go_2 : decode cX9_go 2 = .ok (.putfield 36, 3) := by decide +kernel
theorem dX9_go_5 : decode cX9_go 5 = .ok (.aload_n 0, 1) := by decide +kernel
theorem dX9_go_6 : decode cX9_go 6 = .ok (.iload_n 1, 1) := by decide +kernel
theorem dX9_go_7 : decode cX9_go 7 = .ok (.invokevirtual 433, 3) := by decide +kernel
theorem dX9_go_10 : decode cX9_go 10 = .ok (.ifCond .ne 9, 3) := by decide +kernel
theorem dX9_go_13 : decode cX9_go 13 = .ok (.aload_n 0, 1) := by decide +kernel
theorem dX9_go_14 : decode cX9_go 14 = .ok (.iconst 1, 1) := by decide +kernel
theorem dX9_go_15 : decode cX9_go 15 = .ok (.invokevirtual 42, 3) := by decide +kernel
theorem dX9_go_18 : decode cX9_go 18 = .ok (.ireturn, 1) := by decide +kernel
theorem dX9_go_19 : decode cX9_go 19 = .ok (.aload_n 0, 1) := by decide +kernel
theorem dX9_go_20 : decode cX9_go 20 = .ok (.invokevirtual 487, 3) := by decide +kernel
theorem dX9_go_23 : decode cX9_go 23 = .ok (.aload_n 0, 1) := by decide +kernel
theorem dX9_go_24 : decode cX9_go 24 = .ok (.getfield 17, 3) := by decide +kernel
theorem dX9_go_27 : decode cX9_go 27 = .ok (.bipush 6, 2) := by decide +kernel
theorem dX9_go_29 : decode cX9_go 29 = .ok (.iload_n 1, 1) := by decide +kernel
theorem dX9_go_30 : decode cX9_go 30 = .ok (.iadd, 1) := by decide +kernel
theorem dX9_go_31 : decode cX9_go 31 = .ok (.aload_n 0, 1) := by decide +kernel
theorem dX9_go_32 : decode cX9_go 32 = .ok (.getfield 17, 3) := by decide +kernel
theorem dX9_go_35 : decode cX9_go 35 = .ok (.bipush 6, 2) := by decide +kernel
theorem dX9_go_37 : decode cX9_go 37 = .ok (.iload_n 1, 1) := by decide +kernel
theorem dX9_go_38 : decode cX9_go 38 = .ok (.iadd, 1) := by decide +kernel
theorem dX9_go_39 : decode cX9_go 39 = .ok (.iaload, 1) := by decide +kernel
theorem dX9_go_40 : decode cX9_go 40 = .ok (.iload_n 2, 1) := by decide +kernel
theorem dX9_go_41 : decode cX9_go 41 = .ok (.invokestatic 436, 3) := by decide +kernel
theorem dX9_go_44 : decode cX9_go 44 = .ok (.iastore, 1) := by decide +kernel
theorem dX9_go_45 : decode cX9_go 45 = .ok (.aload_n 0, 1) := by decide +kernel
theorem dX9_go_46 : decode cX9_go 46 = .ok (.aload_n 0, 1) := by decide +kernel
theorem dX9_go_47 : decode cX9_go 47 = .ok (.getfield 17, 3) := by decide +kernel
theorem dX9_go_50 : decode cX9_go 50 = .ok (.bipush 6, 2) := by decide +kernel
theorem dX9_go_52 : decode cX9_go 52 = .ok (.iload_n 1, 1) := by decide +kernel
theorem dX9_go_53 : decode cX9_go 53 = .ok (.iadd, 1) := by decide +kernel
theorem dX9_go_54 : decode cX9_go 54 = .ok (.iaload, 1) := by decide +kernel
theorem dX9_go_55 : decode cX9_go 55 = .ok (.invokevirtual 440, 3) := by decide +kernel
theorem dX9_go_58 : decode cX9_go 58 = .ok (.istore_n 3, 1) := by decide +kernel
theorem dX9_go_59 : decode cX9_go 59 = .ok (.aload_n 0, 1) := by decide +kernel
theorem dX9_go_60 : decode cX9_go 60 = .ok (.getfield 17, 3) := by decide +kernel
theorem dX9_go_63 : decode cX9_go 63 = .ok (.bipush 10, 2) := by decide +kernel
theorem dX9_go_65 : decode cX9_go 65 = .ok (.iload_n 1, 1) := by decide +kernel
theorem dX9_go_66 : decode cX9_go 66 = .ok (.iadd, 1) := by decide +kernel
theorem dX9_go_67 : decode cX9_go 67 = .ok (.dup2, 1) := by decide +kernel
theorem dX9_go_68 : decode cX9_go 68 = .ok (.iaload, 1) := by decide +kernel
theorem dX9_go_69 : decode cX9_go 69 = .ok (.iload_n 3, 1) := by decide +kernel
theorem dX9_go_70 : decode cX9_go 70 = .ok (.iadd, 1) := by decide +kernel
theorem dX9_go_71 : decode cX9_go 71 = .ok (.iastore, 1) := by decide +kernel
theorem dX9_go_72 : decode cX9_go 72 = .ok (.aload_n 0, 1) := by decide +kernel
theorem dX9_go_73 : decode cX9_go 73 = .ok (.iload_n 3, 1) := by decide +kernel
theorem dX9_go_74 : decode cX9_go 74 = .ok (.invokevirtual 46, 3) := by decide +kernel
theorem dX9_go_77 : decode cX9_go 77 = .ok (.ireturn, 1) := by decide +kernel
def B_X9_go_0 (X : Nat × (Nat → Int32)) (J : Nat → zCf) (R : zRt) : zCf := oALOAD 0 (oPI (zj (0)) (oPUTI 9 0 (oALOAD 0 (oILOAD 1 (oINV1 X M_X9_isPerson 9 (oIFNE (J 19) (oALOAD 0 (oPI (zj (1)) (oINV1 X M_X9_refused 9 (oIRET R))))))))))
set_option maxRecDepth 100000 in
theorem vb_X9_go_0 {X : Nat × (Nat → Int32)} {R : zRt} : ∀ ls st h, B_X9_go_0 X (zV X M_X9_go (zQm M_X9_go R) 0 0) R ls st h → zV X M_X9_go (zQm M_X9_go R) 0 0 0 ls st h := sd_aload_n dX9_go_0 rfl (sd_iconst dX9_go_1 rfl (sd_puti dX9_go_2 zCl9 (Nat.le_of_ble_eq_true rfl) lk_RX9_36 rfl (Or.inl rfl) (sd_aload_n dX9_go_5 rfl (sd_iload_n dX9_go_6 rfl (sd_inv1 dX9_go_7 rfl mv_X9_isPerson na_X9_isPerson ml_RX9_433 ⟨⟨Nat.le_of_ble_eq_true rfl, Nat.le_of_ble_eq_true rfl⟩, ⟨Nat.le_of_ble_eq_true rfl, Nat.le_of_ble_eq_true rfl⟩⟩ (sd_ifne dX9_go_10 rfl (fun _ _ _ h => h) (sd_aload_n dX9_go_13 rfl (sd_iconst dX9_go_14 rfl (sd_inv1 dX9_go_15 rfl mv_X9_refused na_X9_refused ml_RX9_42 ⟨⟨Nat.le_of_ble_eq_true rfl, Nat.le_of_ble_eq_true rfl⟩, ⟨Nat.le_of_ble_eq_true rfl, Nat.le_of_ble_eq_true rfl⟩⟩ (sd_iret dX9_go_18 rfl (Nat.le_of_ble_eq_true rfl) (Nat.le_of_ble_eq_true rfl)))))))))))
def B_X9_go_19 (X : Nat × (Nat → Int32)) (J : Nat → zCf) (R : zRt) : zCf := oALOAD 0 (oINV0 X M_X9_remembers 9 (oALOAD 0 (oGETR 9 15 (oPI (zj (6)) (oILOAD 1 (oIADD (oALOAD 0 (oGETR 9 15 (oPI (zj (6)) (oILOAD 1 (oIADD (oIALD (oILOAD 2 (oINS2 X M_X9_step (oIAST (oALOAD 0 (oALOAD 0 (oGETR 9 15 (oPI (zj (6)) (oILOAD 1 (oIADD (oIALD (oINV1 X M_X9_costOf 9 (oISTORE 2 3 (oALOAD 0 (oGETR 9 15 (oPI (zj (10)) (oILOAD 1 (oIADD (oDUP2 (oIALD (oILOAD 3 (oIADD (oIAST (oALOAD 0 (oILOAD 3 (oINV1 X M_X9_good 9 (oIRET R))))))))))))))))))))))))))))))))))))))
set_option maxRecDepth 100000 in
theorem vb_X9_go_19 {X : Nat × (Nat → Int32)} {R : zRt} : ∀ ls st h, B_X9_go_19 X (zV X M_X9_go (zQm M_X9_go R) 0 0) R ls st h → zV X M_X9_go (zQm M_X9_go R) 0 0 19 ls st h := sd_aload_n dX9_go_19 rfl (sd_inv0 dX9_go_20 rfl mv_X9_remembers na_X9_remembers ml_RX9_487 ⟨⟨Nat.le_of_ble_eq_true rfl, Nat.le_of_ble_eq_true rfl⟩, ⟨Nat.le_of_ble_eq_true rfl, Nat.le_of_ble_eq_true rfl⟩⟩ (sd_aload_n dX9_go_23 rfl (sd_getr dX9_go_24 zCl9 (Nat.le_of_ble_eq_true rfl) lk_RX9_17 (Or.inr ⟨_, rfl⟩) (sd_bipush dX9_go_27 rfl (sd_iload_n dX9_go_29 rfl (sd_iadd dX9_go_30 (sd_aload_n dX9_go_31 rfl (sd_getr dX9_go_32 zCl9 (Nat.le_of_ble_eq_true rfl) lk_RX9_17 (Or.inr ⟨_, rfl⟩) (sd_bipush dX9_go_35 rfl (sd_iload_n dX9_go_37 rfl (sd_iadd dX9_go_38 (sd_iald dX9_go_39 (sd_iload_n dX9_go_40 rfl (sd_ins2 dX9_go_41 ms_X9_step na_X9_step ml_RX9_436 ⟨⟨Nat.le_of_ble_eq_true rfl, Nat.le_of_ble_eq_true rfl⟩, ⟨Nat.le_of_ble_eq_true rfl, Nat.le_of_ble_eq_true rfl⟩⟩ (sd_iast dX9_go_44 (sd_aload_n dX9_go_45 rfl (sd_aload_n dX9_go_46 rfl (sd_getr dX9_go_47 zCl9 (Nat.le_of_ble_eq_true rfl) lk_RX9_17 (Or.inr ⟨_, rfl⟩) (sd_bipush dX9_go_50 rfl (sd_iload_n dX9_go_52 rfl (sd_iadd dX9_go_53 (sd_iald dX9_go_54 (sd_inv1 dX9_go_55 rfl mv_X9_costOf na_X9_costOf ml_RX9_440 ⟨⟨Nat.le_of_ble_eq_true rfl, Nat.le_of_ble_eq_true rfl⟩, ⟨Nat.le_of_ble_eq_true rfl, Nat.le_of_ble_eq_true rfl⟩⟩ (sd_istore_n dX9_go_58 rfl (Nat.le_of_ble_eq_true rfl) (Or.inl rfl) (sd_aload_n dX9_go_59 rfl (sd_getr dX9_go_60 zCl9 (Nat.le_of_ble_eq_true rfl) lk_RX9_17 (Or.inr ⟨_, rfl⟩) (sd_bipush dX9_go_63 rfl (sd_iload_n dX9_go_65 rfl (sd_iadd dX9_go_66 (sd_dup2 dX9_go_67 (sd_iald dX9_go_68 (sd_iload_n dX9_go_69 rfl (sd_iadd dX9_go_70 (sd_iast dX9_go_71 (sd_aload_n dX9_go_72 rfl (sd_iload_n dX9_go_73 rfl (sd_inv1 dX9_go_74 rfl mv_X9_good na_X9_good ml_RX9_46 ⟨⟨Nat.le_of_ble_eq_true rfl, Nat.le_of_ble_eq_true rfl⟩, ⟨Nat.le_of_ble_eq_true rfl, Nat.le_of_ble_eq_true rfl⟩⟩ (sd_iret dX9_go_77 rfl (Nat.le_of_ble_eq_true rfl) (Nat.le_of_ble_eq_true rfl)))))))))))))))))))))))))))))))))))))))
theorem dX9_waits_0 : decode cX9_waits 0 = .ok (.aload_n 0, 1) := by decide +kernel
theorem dX9_waits_1 : decode cX9_waits 1 = .ok (.iconst 0, 1) := by decide +kernel
theorem dX9_waits_2 : decode cX9_waits 2 = .ok (.putfield 36, 3) := by decide +kernel
theorem dX9_waits_5 : decode cX9_waits 5 = .ok (.aload_n 0, 1) := by decide +kernel
theorem dX9_waits_6 : decode cX9_waits 6 = .ok (.getfield 289, 3) := by decide +kernel
theorem dX9_waits_9 : decode cX9_waits 9 = .ok (.ifnonnull 9, 3) := by decide +kernel
theorem dX9_waits_12 : decode cX9_waits 12 = .ok (.aload_n 0, 1) := by decide +kernel
theorem dX9_waits_13 : decode cX9_waits 13 = .ok (.iconst 1, 1) := by decide +kernel
theorem dX9_waits_14 : decode cX9_waits 14 = .ok (.invokevirtual 42, 3) := by decide +kernel
theorem dX9_waits_17 : decode cX9_waits 17 = .ok (.ireturn, 1) := by decide +kernel
theorem dX9_waits_18 : decode cX9_waits 18 = .ok (.iload_n 1, 1) := by decide +kernel
theorem dX9_waits_19 : decode cX9_waits 19 = .ok (.iconst 1, 1) := by decide +kernel
theorem dX9_waits_20 : decode cX9_waits 20 = .ok (.bipush 99, 2) := by decide +kernel
theorem dX9_waits_22 : decode cX9_waits 22 = .ok (.invokestatic 115, 3) := by decide +kernel
theorem dX9_waits_25 : decode cX9_waits 25 = .ok (.ifCond .ne 9, 3) := by decide +kernel
theorem dX9_waits_28 : decode cX9_waits 28 = .ok (.aload_n 0, 1) := by decide +kernel
theorem dX9_waits_29 : decode cX9_waits 29 = .ok (.iconst 2, 1) := by decide +kernel
theorem dX9_waits_30 : decode cX9_waits 30 = .ok (.invokevirtual 42, 3) := by decide +kernel
theorem dX9_waits_33 : decode cX9_waits 33 = .ok (.ireturn, 1) := by decide +kernel
theorem dX9_waits_34 : decode cX9_waits 34 = .ok (.aload_n 0, 1) := by decide +kernel
theorem dX9_waits_35 : decode cX9_waits 35 = .ok (.getfield 17, 3) := by decide +kernel
theorem dX9_waits_38 : decode cX9_waits 38 = .ok (.bipush 14, 2) := by decide +kernel
theorem dX9_waits_40 : decode cX9_waits 40 = .ok (.iaload, 1) := by decide +kernel
theorem dX9_waits_41 : decode cX9_waits 41 = .ok (.sipush 999, 3) := by decide +kernel
theorem dX9_waits_44 : decode cX9_waits 44 = .ok (.iload_n 1, 1) := by decide +kernel
theorem dX9_waits_45 : decode cX9_waits 45 = .ok (.isub, 1) := by decide +kernel
theorem dX9_waits_46 : decode cX9_waits 46 = .ok (.if_icmp .le 9, 3) := by decide +kernel
theorem dX9_waits_49 : decode cX9_waits 49 = .ok (.aload_n 0, 1) := by decide +kernel
theorem dX9_waits_50 : decode cX9_waits 50 = .ok (.iconst 3, 1) := by decide +kernel
theorem dX9_waits_51 : decode cX9_waits 51 = .ok (.invokevirtual 42, 3) := by decide +kernel
theorem dX9_waits_54 : decode cX9_waits 54 = .ok (.ireturn, 1) := by decide +kernel
theorem dX9_waits_55 : decode cX9_waits 55 = .ok (.aload_n 0, 1) := by decide +kernel
theorem dX9_waits_56 : decode cX9_waits 56 = .ok (.invokevirtual 487, 3) := by decide +kernel
theorem dX9_waits_59 : decode cX9_waits 59 = .ok (.aload_n 0, 1) := by decide +kernel
theorem dX9_waits_60 : decode cX9_waits 60 = .ok (.getfield 17, 3) := by decide +kernel
theorem dX9_waits_63 : decode cX9_waits 63 = .ok (.bipush 14, 2) := by decide +kernel
theorem dX9_waits_65 : decode cX9_waits 65 = .ok (.dup2, 1) := by decide +kernel
theorem dX9_waits_66 : decode cX9_waits 66 = .ok (.iaload, 1) := by decide +kernel
theorem dX9_waits_67 : decode cX9_waits 67 = .ok (.iload_n 1, 1) := by decide +kernel
theorem dX9_waits_68 : decode cX9_waits 68 = .ok (.iadd, 1) := by decide +kernel
theorem dX9_waits_69 : decode cX9_waits 69 = .ok (.iastore, 1) := by decide +kernel
theorem dX9_waits_70 : decode cX9_waits 70 = .ok (.aload_n 0, 1) := by decide +kernel
theorem dX9_waits_71 : decode cX9_waits 71 = .ok (.aload_n 0, 1) := by decide +kernel
theorem dX9_waits_72 : decode cX9_waits 72 = .ok (.getfield 17, 3) := by decide +kernel
theorem dX9_waits_75 : decode cX9_waits 75 = .ok (.bipush 14, 2) := by decide +kernel
theorem dX9_waits_77 : decode cX9_waits 77 = .ok (.iaload, 1) := by decide +kernel
theorem dX9_waits_78 : decode cX9_waits 78 = .ok (.invokevirtual 46, 3) := by decide +kernel
theorem dX9_waits_81 : decode cX9_waits 81 = .ok (.ireturn, 1) := by decide +kernel
def B_X9_waits_0 (X : Nat × (Nat → Int32)) (J : Nat → zCf) (R : zRt) : zCf := oALOAD 0 (oPI (zj (0)) (oPUTI 9 0 (oALOAD 0 (oGETR 9 3 (oIFNONNULL (J 18) (oALOAD 0 (oPI (zj (1)) (oINV1 X M_X9_refused 9 (oIRET R)))))))))
set_option maxRecDepth 100000 in
theorem vb_X9_waits_0 {X : Nat × (Nat → Int32)} {R : zRt} : ∀ ls st h, B_X9_waits_0 X (zV X M_X9_waits (zQm M_X9_waits R) 0 0) R ls st h → zV X M_X9_waits (zQm M_X9_waits R) 0 0 0 ls st h := sd_aload_n dX9_waits_0 rfl (sd_iconst dX9_waits_1 rfl (sd_puti dX9_waits_2 zCl9 (Nat.le_of_ble_eq_true rfl) lk_RX9_36 rfl (Or.inl rfl) (sd_aload_n dX9_waits_5 rfl (sd_getr dX9_waits_6 zCl9 (Nat.le_of_ble_eq_true rfl) lk_RX9_289 (Or.inl ⟨_, rfl⟩) (sd_ifnonnull dX9_waits_9 rfl (fun _ _ _ h => h) (sd_aload_n dX9_waits_12 rfl (sd_iconst dX9_waits_13 rfl (sd_inv1 dX9_waits_14 rfl mv_X9_refused na_X9_refused ml_RX9_42 ⟨⟨Nat.le_of_ble_eq_true rfl, Nat.le_of_ble_eq_true rfl⟩, ⟨Nat.le_of_ble_eq_true rfl, Nat.le_of_ble_eq_true rfl⟩⟩ (sd_iret dX9_waits_17 rfl (Nat.le_of_ble_eq_true rfl) (Nat.le_of_ble_eq_true rfl))))))))))
def B_X9_waits_18 (X : Nat × (Nat → Int32)) (J : Nat → zCf) (R : zRt) : zCf := oILOAD 1 (oPI (zj (1)) (oPI (zj (99)) (oINS3 X M_X9_in (oIFNE (J 34) (oALOAD 0 (oPI (zj (2)) (oINV1 X M_X9_refused 9 (oIRET R))))))))
set_option maxRecDepth 100000 in
theorem vb_X9_waits_18 {X : Nat × (Nat → Int32)} {R : zRt} : ∀ ls st h, B_X9_waits_18 X (zV X M_X9_waits (zQm M_X9_waits R) 0 0) R ls st h → zV X M_X9_waits (zQm M_X9_waits R) 0 0 18 ls st h := sd_iload_n dX9_waits_18 rfl (sd_iconst dX9_waits_19 rfl (sd_bipush dX9_waits_20 rfl (sd_ins3 dX9_waits_22 ms_X9_in na_X9_in ml_RX9_115 ⟨⟨Nat.le_of_ble_eq_true rfl, Nat.le_of_ble_eq_true rfl⟩, ⟨Nat.le_of_ble_eq_true rfl, Nat.le_of_ble_eq_true rfl⟩⟩ (sd_ifne dX9_waits_25 rfl (fun _ _ _ h => h) (sd_aload_n dX9_waits_28 rfl (sd_iconst dX9_waits_29 rfl (sd_inv1 dX9_waits_30 rfl mv_X9_refused na_X9_refused ml_RX9_42 ⟨⟨Nat.le_of_ble_eq_true rfl, Nat.le_of_ble_eq_true rfl⟩, ⟨Nat.le_of_ble_eq_true rfl, Nat.le_of_ble_eq_true rfl⟩⟩ (sd_iret dX9_waits_33 rfl (Nat.le_of_ble_eq_true rfl) (Nat.le_of_ble_eq_true rfl)))))))))
def B_X9_waits_34 (X : Nat × (Nat → Int32)) (J : Nat → zCf) (R : zRt) : zCf := oALOAD 0 (oGETR 9 15 (oPI (zj (14)) (oIALD (oPI (zj (999)) (oILOAD 1 (oISUB (oICLE (J 55) (oALOAD 0 (oPI (zj (3)) (oINV1 X M_X9_refused 9 (oIRET R)))))))))))
set_option maxRecDepth 100000 in
theorem vb_X9_waits_34 {X : Nat × (Nat → Int32)} {R : zRt} : ∀ ls st h, B_X9_waits_34 X (zV X M_X9_waits (zQm M_X9_waits R) 0 0) R ls st h → zV X M_X9_waits (zQm M_X9_waits R) 0 0 34 ls st h := sd_aload_n dX9_waits_34 rfl (sd_getr dX9_waits_35 zCl9 (Nat.le_of_ble_eq_true rfl) lk_RX9_17 (Or.inr ⟨_, rfl⟩) (sd_bipush dX9_waits_38 rfl (sd_iald dX9_waits_40 (sd_sipush dX9_waits_41 rfl (sd_iload_n dX9_waits_44 rfl (sd_isub dX9_waits_45 (sd_icle dX9_waits_46 rfl (fun _ _ _ h => h) (sd_aload_n dX9_waits_49 rfl (sd_iconst dX9_waits_50 rfl (sd_inv1 dX9_waits_51 rfl mv_X9_refused na_X9_refused ml_RX9_42 ⟨⟨Nat.le_of_ble_eq_true rfl, Nat.le_of_ble_eq_true rfl⟩, ⟨Nat.le_of_ble_eq_true rfl, Nat.le_of_ble_eq_true rfl⟩⟩ (sd_iret dX9_waits_54 rfl (Nat.le_of_ble_eq_true rfl) (Nat.le_of_ble_eq_true rfl))))))))))))
def B_X9_waits_55 (X : Nat × (Nat → Int32)) (J : Nat → zCf) (R : zRt) : zCf := oALOAD 0 (oINV0 X M_X9_remembers 9 (oALOAD 0 (oGETR 9 15 (oPI (zj (14)) (oDUP2 (oIALD (oILOAD 1 (oIADD (oIAST (oALOAD 0 (oALOAD 0 (oGETR 9 15 (oPI (zj (14)) (oIALD (oINV1 X M_X9_good 9 (oIRET R))))))))))))))))
set_option maxRecDepth 100000 in
theorem vb_X9_waits_55 {X : Nat × (Nat → Int32)} {R : zRt} : ∀ ls st h, B_X9_waits_55 X (zV X M_X9_waits (zQm M_X9_waits R) 0 0) R ls st h → zV X M_X9_waits (zQm M_X9_waits R) 0 0 55 ls st h := sd_aload_n dX9_waits_55 rfl (sd_inv0 dX9_waits_56 rfl mv_X9_remembers na_X9_remembers ml_RX9_487 ⟨⟨Nat.le_of_ble_eq_true rfl, Nat.le_of_ble_eq_true rfl⟩, ⟨Nat.le_of_ble_eq_true rfl, Nat.le_of_ble_eq_true rfl⟩⟩ (sd_aload_n dX9_waits_59 rfl (sd_getr dX9_waits_60 zCl9 (Nat.le_of_ble_eq_true rfl) lk_RX9_17 (Or.inr ⟨_, rfl⟩) (sd_bipush dX9_waits_63 rfl (sd_dup2 dX9_waits_65 (sd_iald dX9_waits_66 (sd_iload_n dX9_waits_67 rfl (sd_iadd dX9_waits_68 (sd_iast dX9_waits_69 (sd_aload_n dX9_waits_70 rfl (sd_aload_n dX9_waits_71 rfl (sd_getr dX9_waits_72 zCl9 (Nat.le_of_ble_eq_true rfl) lk_RX9_17 (Or.inr ⟨_, rfl⟩) (sd_bipush dX9_waits_75 rfl (sd_iald dX9_waits_77 (sd_inv1 dX9_waits_78 rfl mv_X9_good na_X9_good ml_RX9_46 ⟨⟨Nat.le_of_ble_eq_true rfl, Nat.le_of_ble_eq_true rfl⟩, ⟨Nat.le_of_ble_eq_true rfl, Nat.le_of_ble_eq_true rfl⟩⟩ (sd_iret dX9_waits_81 rfl (Nat.le_of_ble_eq_true rfl) (Nat.le_of_ble_eq_true rfl)))))))))))))))))
theorem dX9_undo_0 : decode cX9_undo 0 = .ok (.aload_n 0, 1) := by decide +kernel
theorem dX9_undo_1 : decode cX9_undo 1 = .ok (.iconst 0, 1) := by decide +kernel
theorem dX9_undo_2 : decode cX9_undo 2 = .ok (.putfield 36, 3) := by decide +kernel
theorem dX9_undo_5 : decode cX9_undo 5 = .ok (.aload_n 0, 1) := by decide +kernel
theorem dX9_undo_6 : decode cX9_undo 6 = .ok (.getfield 289, 3) := by decide +kernel
theorem dX9_undo_9 : decode cX9_undo 9 = .ok (.ifnull 10, 3) := by decide +kernel
theorem dX9_undo_12 : decode cX9_undo 12 = .ok (.aload_n 0, 1) := by decide +kernel
theorem dX9_undo_13 : decode cX9_undo 13 = .ok (.getfield 294, 3) := by decide +kernel
theorem dX9_undo_16 : decode cX9_undo 16 = .ok (.ifCond .ne 10, 3) := by decide +kernel
theorem dX9_undo_19 : decode cX9_undo 19 = .ok (.aload_n 0, 1) := by decide +kernel
theorem dX9_undo_20 : decode cX9_undo 20 = .ok (.bipush 6, 2) := by decide +kernel
theorem dX9_undo_22 : decode cX9_undo 22 = .ok (.invokevirtual 490, 3) := by decide +kernel
theorem dX9_undo_25 : decode cX9_undo 25 = .ok (.ireturn, 1) := by decide +kernel
theorem dX9_undo_26 : decode cX9_undo 26 = .ok (.aload_n 0, 1) := by decide +kernel
theorem dX9_undo_27 : decode cX9_undo 27 = .ok (.dup, 1) := by decide +kernel
theorem dX9_undo_28 : decode cX9_undo 28 = .ok (.getfield 294, 3) := by decide +kernel
theorem dX9_undo_31 : decode cX9_undo 31 = .ok (.iconst 1, 1) := by decide +kernel
theorem dX9_undo_32 : decode cX9_undo 32 = .ok (.isub, 1) := by decide +kernel
theorem dX9_undo_33 : decode cX9_undo 33 = .ok (.putfield 294, 3) := by decide +kernel
theorem dX9_undo_36 : decode cX9_undo 36 = .ok (.iconst 0, 1) := by decide +kernel
theorem dX9_undo_37 : decode cX9_undo 37 = .ok (.istore_n 1, 1) := by decide +kernel
theorem dX9_undo_38 : decode cX9_undo 38 = .ok (.iload_n 1, 1) := by decide +kernel
theorem dX9_undo_39 : decode cX9_undo 39 = .ok (.bipush 15, 2) := by decide +kernel
theorem dX9_undo_41 : decode cX9_undo 41 = .ok (.if_icmp .ge 29, 3) := by decide +kernel
theorem dX9_undo_44 : decode cX9_undo 44 = .ok (.aload_n 0, 1) := by decide +kernel
theorem dX9_undo_45 : decode cX9_undo 45 = .ok (.getfield 17, 3) := by decide +kernel
theorem dX9_undo_48 : decode cX9_undo 48 = .ok (.iload_n 1, 1) := by decide +kernel
theorem dX9_undo_49 : decode cX9_undo 49 = .ok (.aload_n 0, 1) := by decide +kernel
theorem dX9_undo_50 : decode cX9_undo 50 = .ok (.getfield 24, 3) := by decide +kernel
theorem dX9_undo_53 : decode cX9_undo 53 = .ok (.bipush 15, 2) := by decide +kernel
theorem dX9_undo_55 : decode cX9_undo 55 = .ok (.aload_n 0, 1) := by decide +kernel
theorem dX9_undo_56 : decode cX9_undo 56 = .ok (.getfield 294, 3) := by decide +kernel
theorem dX9_undo_59 : decode cX9_undo 59 = .ok (.imul, 1) := by decide +kernel
theorem dX9_undo_60 : decode cX9_undo 60 = .ok (.iload_n 1, 1) := by decide +kernel
theorem dX9_undo_61 : decode cX9_undo 61 = .ok (.iadd, 1) := by decide +kernel
theorem dX9_undo_62 : decode cX9_undo 62 = .ok (.iaload, 1) := by decide +kernel
theorem dX9_undo_63 : decode cX9_undo 63 = .ok (.iastore, 1) := by decide +kernel
theorem dX9_undo_64 : decode cX9_undo 64 = .ok (.iinc 1 1, 3) := by decide +kernel
theorem dX9_undo_67 : decode cX9_undo 67 = .ok (.goto (-29), 3) := by decide +kernel
theorem dX9_undo_70 : decode cX9_undo 70 = .ok (.aload_n 0, 1) := by decide +kernel
theorem dX9_undo_71 : decode cX9_undo 71 = .ok (.invokevirtual 493, 3) := by decide +kernel
theorem dX9_undo_74 : decode cX9_undo 74 = .ok (.ireturn, 1) := by decide +kernel
def B_X9_undo_0 (X : Nat × (Nat → Int32)) (J : Nat → zCf) (R : zRt) : zCf := oALOAD 0 (oPI (zj (0)) (oPUTI 9 0 (oALOAD 0 (oGETR 9 3 (oIFNULL (J 19) (oALOAD 0 (oGETI 9 19 (oIFNE (J 26) (J 19)))))))))
set_option maxRecDepth 100000 in
theorem vb_X9_undo_0 {X : Nat × (Nat → Int32)} {R : zRt} : ∀ ls st h, B_X9_undo_0 X (zV X M_X9_undo (zQm M_X9_undo R) 0 0) R ls st h → zV X M_X9_undo (zQm M_X9_undo R) 0 0 0 ls st h := sd_aload_n dX9_undo_0 rfl (sd_iconst dX9_undo_1 rfl (sd_puti dX9_undo_2 zCl9 (Nat.le_of_ble_eq_true rfl) lk_RX9_36 rfl (Or.inl rfl) (sd_aload_n dX9_undo_5 rfl (sd_getr dX9_undo_6 zCl9 (Nat.le_of_ble_eq_true rfl) lk_RX9_289 (Or.inl ⟨_, rfl⟩) (sd_ifnull dX9_undo_9 rfl (fun _ _ _ h => h) (sd_aload_n dX9_undo_12 rfl (sd_geti dX9_undo_13 zCl9 (Nat.le_of_ble_eq_true rfl) lk_RX9_294 (Or.inl rfl) (sd_ifne dX9_undo_16 rfl (fun _ _ _ h => h) (fun _ _ _ h => h)))))))))
def B_X9_undo_19 (X : Nat × (Nat → Int32)) (J : Nat → zCf) (R : zRt) : zCf := oALOAD 0 (oPI (zj (6)) (oINV1 X M_X9_denied 9 (oZRET R)))
set_option maxRecDepth 100000 in
theorem vb_X9_undo_19 {X : Nat × (Nat → Int32)} {R : zRt} : ∀ ls st h, B_X9_undo_19 X (zV X M_X9_undo (zQm M_X9_undo R) 0 0) R ls st h → zV X M_X9_undo (zQm M_X9_undo R) 0 0 19 ls st h := sd_aload_n dX9_undo_19 rfl (sd_bipush dX9_undo_20 rfl (sd_inv1 dX9_undo_22 rfl mv_X9_denied na_X9_denied ml_RX9_490 ⟨⟨Nat.le_of_ble_eq_true rfl, Nat.le_of_ble_eq_true rfl⟩, ⟨Nat.le_of_ble_eq_true rfl, Nat.le_of_ble_eq_true rfl⟩⟩ (sd_zret dX9_undo_25 rfl (Nat.le_of_ble_eq_true rfl) (Nat.le_of_ble_eq_true rfl))))
def B_X9_undo_26 (X : Nat × (Nat → Int32)) (J : Nat → zCf) (R : zRt) : zCf := oALOAD 0 (oDUP (oGETI 9 19 (oPI (zj (1)) (oISUB (oPUTI 9 19 (oPI (zj (0)) (oISTORE 0 1 (J 38))))))))
set_option maxRecDepth 100000 in
theorem vb_X9_undo_26 {X : Nat × (Nat → Int32)} {R : zRt} : ∀ ls st h, B_X9_undo_26 X (zV X M_X9_undo (zQm M_X9_undo R) 0 0) R ls st h → zV X M_X9_undo (zQm M_X9_undo R) 0 0 26 ls st h := sd_aload_n dX9_undo_26 rfl (sd_dup dX9_undo_27 (sd_geti dX9_undo_28 zCl9 (Nat.le_of_ble_eq_true rfl) lk_RX9_294 (Or.inl rfl) (sd_iconst dX9_undo_31 rfl (sd_isub dX9_undo_32 (sd_puti dX9_undo_33 zCl9 (Nat.le_of_ble_eq_true rfl) lk_RX9_294 rfl (Or.inl rfl) (sd_iconst dX9_undo_36 rfl (sd_istore_n dX9_undo_37 rfl (Nat.le_of_ble_eq_true rfl) (Or.inl rfl) (fun _ _ _ h => h))))))))
def B_X9_undo_38 (X : Nat × (Nat → Int32)) (J : Nat → zCf) (R : zRt) : zCf := oILOAD 1 (oPI (zj (15)) (oICGE (J 70) (oALOAD 0 (oGETR 9 15 (oILOAD 1 (oALOAD 0 (oGETR 9 17 (oPI (zj (15)) (oALOAD 0 (oGETI 9 19 (oIMUL (oILOAD 1 (oIADD (oIALD (oIAST (oIINC 0 1 (zj (1)) (J 38)))))))))))))))))
set_option maxRecDepth 100000 in
theorem vb_X9_undo_38 {X : Nat × (Nat → Int32)} {R : zRt} : ∀ ls st h, B_X9_undo_38 X (zV X M_X9_undo (zQm M_X9_undo R) 0 0) R ls st h → zV X M_X9_undo (zQm M_X9_undo R) 0 0 38 ls st h := sd_iload_n dX9_undo_38 rfl (sd_bipush dX9_undo_39 rfl (sd_icge dX9_undo_41 rfl (fun _ _ _ h => h) (sd_aload_n dX9_undo_44 rfl (sd_getr dX9_undo_45 zCl9 (Nat.le_of_ble_eq_true rfl) lk_RX9_17 (Or.inr ⟨_, rfl⟩) (sd_iload_n dX9_undo_48 rfl (sd_aload_n dX9_undo_49 rfl (sd_getr dX9_undo_50 zCl9 (Nat.le_of_ble_eq_true rfl) lk_RX9_24 (Or.inr ⟨_, rfl⟩) (sd_bipush dX9_undo_53 rfl (sd_aload_n dX9_undo_55 rfl (sd_geti dX9_undo_56 zCl9 (Nat.le_of_ble_eq_true rfl) lk_RX9_294 (Or.inl rfl) (sd_imul dX9_undo_59 (sd_iload_n dX9_undo_60 rfl (sd_iadd dX9_undo_61 (sd_iald dX9_undo_62 (sd_iast dX9_undo_63 (sd_iinc dX9_undo_64 rfl (Nat.le_of_ble_eq_true rfl) (Or.inl rfl) (sd_goto dX9_undo_67 rfl (fun _ _ _ h => h))))))))))))))))))
def B_X9_undo_70 (X : Nat × (Nat → Int32)) (J : Nat → zCf) (R : zRt) : zCf := oALOAD 0 (oINV0 X M_X9_granted 9 (oZRET R))
set_option maxRecDepth 100000 in
theorem vb_X9_undo_70 {X : Nat × (Nat → Int32)} {R : zRt} : ∀ ls st h, B_X9_undo_70 X (zV X M_X9_undo (zQm M_X9_undo R) 0 0) R ls st h → zV X M_X9_undo (zQm M_X9_undo R) 0 0 70 ls st h := sd_aload_n dX9_undo_70 rfl (sd_inv0 dX9_undo_71 rfl mv_X9_granted na_X9_granted ml_RX9_493 ⟨⟨Nat.le_of_ble_eq_true rfl, Nat.le_of_ble_eq_true rfl⟩, ⟨Nat.le_of_ble_eq_true rfl, Nat.le_of_ble_eq_true rfl⟩⟩ (sd_zret dX9_undo_74 rfl (Nat.le_of_ble_eq_true rfl) (Nat.le_of_ble_eq_true rfl)))
theorem dX9_image_0 : decode cX9_image 0 = .ok (.aload_n 0, 1) := by decide +kernel
theorem dX9_image_1 : decode cX9_image 1 = .ok (.iconst 0, 1) := by decide +kernel
theorem dX9_image_2 : decode cX9_image 2 = .ok (.putfield 36, 3) := by decide +kernel
theorem dX9_image_5 : decode cX9_image 5 = .ok (.aload_n 0, 1) := by decide +kernel
theorem dX9_image_6 : decode cX9_image 6 = .ok (.getfield 289, 3) := by decide +kernel
theorem dX9_image_9 : decode cX9_image 9 = .ok (.ifnonnull 9, 3) := by decide +kernel
theorem dX9_image_12 : decode cX9_image 12 = .ok (.aload_n 0, 1) := by decide +kernel
theorem dX9_image_13 : decode cX9_image 13 = .ok (.iconst 1, 1) := by decide +kernel
theorem dX9_image_14 : decode cX9_image 14 = .ok (.invokevirtual 42, 3) := by decide +kernel
theorem dX9_image_17 : decode cX9_image 17 = .ok (.ireturn, 1) := by decide +kernel
theorem dX9_image_18 : decode cX9_image 18 = .ok (.aload_n 0, 1) := by decide +kernel
theorem dX9_image_19 : decode cX9_image 19 = .ok (.getfield 297, 3) := by decide +kernel
theorem dX9_image_22 : decode cX9_image 22 = .ok (.iconst 3, 1) := by decide +kernel
theorem dX9_image_23 : decode cX9_image 23 = .ok (.if_icmp .ne 9, 3) := by decide +kernel
theorem dX9_image_26 : decode cX9_image 26 = .ok (.aload_n 0, 1) := by decide +kernel
theorem dX9_image_27 : decode cX9_image 27 = .ok (.iconst 3, 1) := by decide +kernel
theorem dX9_image_28 : decode cX9_image 28 = .ok (.invokevirtual 42, 3) := by decide +kernel
theorem dX9_image_31 : decode cX9_image 31 = .ok (.ireturn, 1) := by decide +kernel
theorem dX9_image_32 : decode cX9_image 32 = .ok (.iconst 0, 1) := by decide +kernel
theorem dX9_image_33 : decode cX9_image 33 = .ok (.istore_n 1, 1) := by decide +kernel
theorem dX9_image_34 : decode cX9_image 34 = .ok (.iload_n 1, 1) := by decide +kernel
theorem dX9_image_35 : decode cX9_image 35 = .ok (.bipush 15, 2) := by decide +kernel
theorem dX9_image_37 : decode cX9_image 37 = .ok (.if_icmp .ge 29, 3) := by decide +kernel
theorem dX9_image_40 : decode cX9_image 40 = .ok (.aload_n 0, 1) := by decide +kernel
theorem dX9_image_41 : decode cX9_image 41 = .ok (.getfield 27, 3) := by decide +kernel
theorem dX9_image_44 : decode cX9_image 44 = .ok (.bipush 15, 2) := by decide +kernel
theorem dX9_image_46 : decode cX9_image 46 = .ok (.aload_n 0, 1) := by decide +kernel
theorem dX9_image_47 : decode cX9_image 47 = .ok (.getfield 297, 3) := by decide +kernel
theorem dX9_image_50 : decode cX9_image 50 = .ok (.imul, 1) := by decide +kernel
theorem dX9_image_51 : decode cX9_image 51 = .ok (.iload_n 1, 1) := by decide +kernel
theorem dX9_image_52 : decode cX9_image 52 = .ok (.iadd, 1) := by decide +kernel
theorem dX9_image_53 : decode cX9_image 53 = .ok (.aload_n 0, 1) := by decide +kernel
theorem dX9_image_54 : decode cX9_image 54 = .ok (.getfield 17, 3) := by decide +kernel
theorem dX9_image_57 : decode cX9_image 57 = .ok (.iload_n 1, 1) := by decide +kernel
theorem dX9_image_58 : decode cX9_image 58 = .ok (.iaload, 1) := by decide +kernel
theorem dX9_image_59 : decode cX9_image 59 = .ok (.iastore, 1) := by decide +kernel
theorem dX9_image_60 : decode cX9_image 60 = .ok (.iinc 1 1, 3) := by decide +kernel
theorem dX9_image_63 : decode cX9_image 63 = .ok (.goto (-29), 3) := by decide +kernel
theorem dX9_image_66 : decode cX9_image 66 = .ok (.aload_n 0, 1) := by decide +kernel
theorem dX9_image_67 : decode cX9_image 67 = .ok (.dup, 1) := by decide +kernel
theorem dX9_image_68 : decode cX9_image 68 = .ok (.getfield 297, 3) := by decide +kernel
theorem dX9_image_71 : decode cX9_image 71 = .ok (.iconst 1, 1) := by decide +kernel
theorem dX9_image_72 : decode cX9_image 72 = .ok (.iadd, 1) := by decide +kernel
theorem dX9_image_73 : decode cX9_image 73 = .ok (.putfield 297, 3) := by decide +kernel
theorem dX9_image_76 : decode cX9_image 76 = .ok (.aload_n 0, 1) := by decide +kernel
theorem dX9_image_77 : decode cX9_image 77 = .ok (.aload_n 0, 1) := by decide +kernel
theorem dX9_image_78 : decode cX9_image 78 = .ok (.getfield 297, 3) := by decide +kernel
theorem dX9_image_81 : decode cX9_image 81 = .ok (.iconst 1, 1) := by decide +kernel
theorem dX9_image_82 : decode cX9_image 82 = .ok (.isub, 1) := by decide +kernel
theorem dX9_image_83 : decode cX9_image 83 = .ok (.invokevirtual 46, 3) := by decide +kernel
theorem dX9_image_86 : decode cX9_image 86 = .ok (.ireturn, 1) := by decide +kernel
def B_X9_image_0 (X : Nat × (Nat → Int32)) (J : Nat → zCf) (R : zRt) : zCf := oALOAD 0 (oPI (zj (0)) (oPUTI 9 0 (oALOAD 0 (oGETR 9 3 (oIFNONNULL (J 18) (oALOAD 0 (oPI (zj (1)) (oINV1 X M_X9_refused 9 (oIRET R)))))))))
set_option maxRecDepth 100000 in
theorem vb_X9_image_0 {X : Nat × (Nat → Int32)} {R : zRt} : ∀ ls st h, B_X9_image_0 X (zV X M_X9_image (zQm M_X9_image R) 0 0) R ls st h → zV X M_X9_image (zQm M_X9_image R) 0 0 0 ls st h := sd_aload_n dX9_image_0 rfl (sd_iconst dX9_image_1 rfl (sd_puti dX9_image_2 zCl9 (Nat.le_of_ble_eq_true rfl) lk_RX9_36 rfl (Or.inl rfl) (sd_aload_n dX9_image_5 rfl (sd_getr dX9_image_6 zCl9 (Nat.le_of_ble_eq_true rfl) lk_RX9_289 (Or.inl ⟨_, rfl⟩) (sd_ifnonnull dX9_image_9 rfl (fun _ _ _ h => h) (sd_aload_n dX9_image_12 rfl (sd_iconst dX9_image_13 rfl (sd_inv1 dX9_image_14 rfl mv_X9_refused na_X9_refused ml_RX9_42 ⟨⟨Nat.le_of_ble_eq_true rfl, Nat.le_of_ble_eq_true rfl⟩, ⟨Nat.le_of_ble_eq_true rfl, Nat.le_of_ble_eq_true rfl⟩⟩ (sd_iret dX9_image_17 rfl (Nat.le_of_ble_eq_true rfl) (Nat.le_of_ble_eq_true rfl))))))))))
def B_X9_image_18 (X : Nat × (Nat → Int32)) (J : Nat → zCf) (R : zRt) : zCf := oALOAD 0 (oGETI 9 20 (oPI (zj (3)) (oICNE (J 32) (oALOAD 0 (oPI (zj (3)) (oINV1 X M_X9_refused 9 (oIRET R)))))))
set_option maxRecDepth 100000 in
theorem vb_X9_image_18 {X : Nat × (Nat → Int32)} {R : zRt} : ∀ ls st h, B_X9_image_18 X (zV X M_X9_image (zQm M_X9_image R) 0 0) R ls st h → zV X M_X9_image (zQm M_X9_image R) 0 0 18 ls st h := sd_aload_n dX9_image_18 rfl (sd_geti dX9_image_19 zCl9 (Nat.le_of_ble_eq_true rfl) lk_RX9_297 (Or.inl rfl) (sd_iconst dX9_image_22 rfl (sd_icne dX9_image_23 rfl (fun _ _ _ h => h) (sd_aload_n dX9_image_26 rfl (sd_iconst dX9_image_27 rfl (sd_inv1 dX9_image_28 rfl mv_X9_refused na_X9_refused ml_RX9_42 ⟨⟨Nat.le_of_ble_eq_true rfl, Nat.le_of_ble_eq_true rfl⟩, ⟨Nat.le_of_ble_eq_true rfl, Nat.le_of_ble_eq_true rfl⟩⟩ (sd_iret dX9_image_31 rfl (Nat.le_of_ble_eq_true rfl) (Nat.le_of_ble_eq_true rfl))))))))
def B_X9_image_32 (X : Nat × (Nat → Int32)) (J : Nat → zCf) (R : zRt) : zCf := oPI (zj (0)) (oISTORE 0 1 (J 34))
set_option maxRecDepth 100000 in
theorem vb_X9_image_32 {X : Nat × (Nat → Int32)} {R : zRt} : ∀ ls st h, B_X9_image_32 X (zV X M_X9_image (zQm M_X9_image R) 0 0) R ls st h → zV X M_X9_image (zQm M_X9_image R) 0 0 32 ls st h := sd_iconst dX9_image_32 rfl (sd_istore_n dX9_image_33 rfl (Nat.le_of_ble_eq_true rfl) (Or.inl rfl) (fun _ _ _ h => h))
def B_X9_image_34 (X : Nat × (Nat → Int32)) (J : Nat → zCf) (R : zRt) : zCf := oILOAD 1 (oPI (zj (15)) (oICGE (J 66) (oALOAD 0 (oGETR 9 18 (oPI (zj (15)) (oALOAD 0 (oGETI 9 20 (oIMUL (oILOAD 1 (oIADD (oALOAD 0 (oGETR 9 15 (oILOAD 1 (oIALD (oIAST (oIINC 0 1 (zj (1)) (J 34)))))))))))))))))
set_option maxRecDepth 100000 in
theorem vb_X9_image_34 {X : Nat × (Nat → Int32)} {R : zRt} : ∀ ls st h, B_X9_image_34 X (zV X M_X9_image (zQm M_X9_image R) 0 0) R ls st h → zV X M_X9_image (zQm M_X9_image R) 0 0 34 ls st h := sd_iload_n dX9_image_34 rfl (sd_bipush dX9_image_35 rfl (sd_icge dX9_image_37 rfl (fun _ _ _ h => h) (sd_aload_n dX9_image_40 rfl (sd_getr dX9_image_41 zCl9 (Nat.le_of_ble_eq_true rfl) lk_RX9_27 (Or.inr ⟨_, rfl⟩) (sd_bipush dX9_image_44 rfl (sd_aload_n dX9_image_46 rfl (sd_geti dX9_image_47 zCl9 (Nat.le_of_ble_eq_true rfl) lk_RX9_297 (Or.inl rfl) (sd_imul dX9_image_50 (sd_iload_n dX9_image_51 rfl (sd_iadd dX9_image_52 (sd_aload_n dX9_image_53 rfl (sd_getr dX9_image_54 zCl9 (Nat.le_of_ble_eq_true rfl) lk_RX9_17 (Or.inr ⟨_, rfl⟩) (sd_iload_n dX9_image_57 rfl (sd_iald dX9_image_58 (sd_iast dX9_image_59 (sd_iinc dX9_image_60 rfl (Nat.le_of_ble_eq_true rfl) (Or.inl rfl) (sd_goto dX9_image_63 rfl (fun _ _ _ h => h))))))))))))))))))
def B_X9_image_66 (X : Nat × (Nat → Int32)) (J : Nat → zCf) (R : zRt) : zCf := oALOAD 0 (oDUP (oGETI 9 20 (oPI (zj (1)) (oIADD (oPUTI 9 20 (oALOAD 0 (oALOAD 0 (oGETI 9 20 (oPI (zj (1)) (oISUB (oINV1 X M_X9_good 9 (oIRET R))))))))))))
set_option maxRecDepth 100000 in
theorem vb_X9_image_66 {X : Nat × (Nat → Int32)} {R : zRt} : ∀ ls st h, B_X9_image_66 X (zV X M_X9_image (zQm M_X9_image R) 0 0) R ls st h → zV X M_X9_image (zQm M_X9_image R) 0 0 66 ls st h := sd_aload_n dX9_image_66 rfl (sd_dup dX9_image_67 (sd_geti dX9_image_68 zCl9 (Nat.le_of_ble_eq_true rfl) lk_RX9_297 (Or.inl rfl) (sd_iconst dX9_image_71 rfl (sd_iadd dX9_image_72 (sd_puti dX9_image_73 zCl9 (Nat.le_of_ble_eq_true rfl) lk_RX9_297 rfl (Or.inl rfl) (sd_aload_n dX9_image_76 rfl (sd_aload_n dX9_image_77 rfl (sd_geti dX9_image_78 zCl9 (Nat.le_of_ble_eq_true rfl) lk_RX9_297 (Or.inl rfl) (sd_iconst dX9_image_81 rfl (sd_isub dX9_image_82 (sd_inv1 dX9_image_83 rfl mv_X9_good na_X9_good ml_RX9_46 ⟨⟨Nat.le_of_ble_eq_true rfl, Nat.le_of_ble_eq_true rfl⟩, ⟨Nat.le_of_ble_eq_true rfl, Nat.le_of_ble_eq_true rfl⟩⟩ (sd_iret dX9_image_86 rfl (Nat.le_of_ble_eq_true rfl) (Nat.le_of_ble_eq_true rfl)))))))))))))
theorem dX9_back_0 : decode cX9_back 0 = .ok (.aload_n 0, 1) := by decide +kernel
theorem dX9_back_1 : decode cX9_back 1 = .ok (.iconst 0, 1) := by decide +kernel
theorem dX9_back_2 : decode cX9_back 2 = .ok (.putfield 36, 3) := by decide +kernel
theorem dX9_back_5 : decode cX9_back 5 = .ok (.aload_n 0, 1) := by decide +kernel
theorem dX9_back_6 : decode cX9_back 6 = .ok (.getfield 289, 3) := by decide +kernel
theorem dX9_back_9 : decode cX9_back 9 = .ok (.ifnull 15, 3) := by decide +kernel
theorem dX9_back_12 : decode cX9_back 12 = .ok (.iload_n 1, 1) := by decide +kernel
theorem dX9_back_13 : decode cX9_back 13 = .ok (.ifCond .lt 11, 3) := by decide +kernel
theorem dX9_back_16 : decode cX9_back 16 = .ok (.iload_n 1, 1) := by decide +kernel
theorem dX9_back_17 : decode cX9_back 17 = .ok (.aload_n 0, 1) := by decide +kernel
theorem dX9_back_18 : decode cX9_back 18 = .ok (.getfield 297, 3) := by decide +kernel
theorem dX9_back_21 : decode cX9_back 21 = .ok (.if_icmp .lt 9, 3) := by decide +kernel
theorem dX9_back_24 : decode cX9_back 24 = .ok (.aload_n 0, 1) := by decide +kernel
theorem dX9_back_25 : decode cX9_back 25 = .ok (.iconst 1, 1) := by decide +kernel
theorem dX9_back_26 : decode cX9_back 26 = .ok (.invokevirtual 490, 3) := by decide +kernel
theorem dX9_back_29 : decode cX9_back 29 = .ok (.ireturn, 1) := by decide +kernel
theorem dX9_back_30 : decode cX9_back 30 = .ok (.iconst 0, 1) := by decide +kernel
theorem dX9_back_31 : decode cX9_back 31 = .ok (.istore_n 2, 1) := by decide +kernel
theorem dX9_back_32 : decode cX9_back 32 = .ok (.iload_n 2, 1) := by decide +kernel
theorem dX9_back_33 : decode cX9_back 33 = .ok (.bipush 15, 2) := by decide +kernel
theorem dX9_back_35 : decode cX9_back 35 = .ok (.if_icmp .ge 26, 3) := by decide +kernel
theorem dX9_back_38 : decode cX9_back 38 = .ok (.aload_n 0, 1) := by decide +kernel
theorem dX9_back_39 : decode cX9_back 39 = .ok (.getfield 17, 3) := by decide +kernel
theorem dX9_back_42 : decode cX9_back 42 = .ok (.iload_n 2, 1) := by decide +kernel
theorem dX9_back_43 : decode cX9_back 43 = .ok (.aload_n 0, 1) := by decide +kernel
theorem dX9_back_44 : decode cX9_back 44 = .ok (.getfield 27, 3) := by decide +kernel
theorem dX9_back_47 : decode cX9_back 47 = .ok (.bipush 15, 2) := by decide +kernel
theorem dX9_back_49 : decode cX9_back 49 = .ok (.iload_n 1, 1) := by decide +kernel
theorem dX9_back_50 : decode cX9_back 50 = .ok (.imul, 1) := by decide +kernel
theorem dX9_back_51 : decode cX9_back 51 = .ok (.iload_n 2, 1) := by decide +kernel
theorem dX9_back_52 : decode cX9_back 52 = .ok (.iadd, 1) := by decide +kernel
theorem dX9_back_53 : decode cX9_back 53 = .ok (.iaload, 1) := by decide +kernel
theorem dX9_back_54 : decode cX9_back 54 = .ok (.iastore, 1) := by decide +kernel
theorem dX9_back_55 : decode cX9_back 55 = .ok (.iinc 2 1, 3) := by decide +kernel
theorem dX9_back_58 : decode cX9_back 58 = .ok (.goto (-26), 3) := by decide +kernel
theorem dX9_back_61 : decode cX9_back 61 = .ok (.aload_n 0, 1) := by decide +kernel
theorem dX9_back_62 : decode cX9_back 62 = .ok (.iconst 0, 1) := by decide +kernel
theorem dX9_back_63 : decode cX9_back 63 = .ok (.putfield 294, 3) := by decide +kernel
theorem dX9_back_66 : decode cX9_back 66 = .ok (.aload_n 0, 1) := by decide +kernel
theorem dX9_back_67 : decode cX9_back 67 = .ok (.invokevirtual 493, 3) := by decide +kernel
theorem dX9_back_70 : decode cX9_back 70 = .ok (.ireturn, 1) := by decide +kernel
def B_X9_back_0 (X : Nat × (Nat → Int32)) (J : Nat → zCf) (R : zRt) : zCf := oALOAD 0 (oPI (zj (0)) (oPUTI 9 0 (oALOAD 0 (oGETR 9 3 (oIFNULL (J 24) (oILOAD 1 (oIFLT (J 24) (oILOAD 1 (oALOAD 0 (oGETI 9 20 (oICLT (J 30) (J 24))))))))))))
set_option maxRecDepth 100000 in
theorem vb_X9_back_0 {X : Nat × (Nat → Int32)} {R : zRt} : ∀ ls st h, B_X9_back_0 X (zV X M_X9_back (zQm M_X9_back R) 0 0) R ls st h → zV X M_X9_back (zQm M_X9_back R) 0 0 0 ls st h := sd_aload_n dX9_back_0 rfl (sd_iconst dX9_back_1 rfl (sd_puti dX9_back_2 zCl9 (Nat.le_of_ble_eq_true rfl) lk_RX9_36 rfl (Or.inl rfl) (sd_aload_n dX9_back_5 rfl (sd_getr dX9_back_6 zCl9 (Nat.le_of_ble_eq_true rfl) lk_RX9_289 (Or.inl ⟨_, rfl⟩) (sd_ifnull dX9_back_9 rfl (fun _ _ _ h => h) (sd_iload_n dX9_back_12 rfl (sd_iflt dX9_back_13 rfl (fun _ _ _ h => h) (sd_iload_n dX9_back_16 rfl (sd_aload_n dX9_back_17 rfl (sd_geti dX9_back_18 zCl9 (Nat.le_of_ble_eq_true rfl) lk_RX9_297 (Or.inl rfl) (sd_iclt dX9_back_21 rfl (fun _ _ _ h => h) (fun _ _ _ h => h))))))))))))
def B_X9_back_24 (X : Nat × (Nat → Int32)) (J : Nat → zCf) (R : zRt) : zCf := oALOAD 0 (oPI (zj (1)) (oINV1 X M_X9_denied 9 (oZRET R)))
set_option maxRecDepth 100000 in
theorem vb_X9_back_24 {X : Nat × (Nat → Int32)} {R : zRt} : ∀ ls st h, B_X9_back_24 X (zV X M_X9_back (zQm M_X9_back R) 0 0) R ls st h → zV X M_X9_back (zQm M_X9_back R) 0 0 24 ls st h := sd_aload_n dX9_back_24 rfl (sd_iconst dX9_back_25 rfl (sd_inv1 dX9_back_26 rfl mv_X9_denied na_X9_denied ml_RX9_490 ⟨⟨Nat.le_of_ble_eq_true rfl, Nat.le_of_ble_eq_true rfl⟩, ⟨Nat.le_of_ble_eq_true rfl, Nat.le_of_ble_eq_true rfl⟩⟩ (sd_zret dX9_back_29 rfl (Nat.le_of_ble_eq_true rfl) (Nat.le_of_ble_eq_true rfl))))
def B_X9_back_30 (X : Nat × (Nat → Int32)) (J : Nat → zCf) (R : zRt) : zCf := oPI (zj (0)) (oISTORE 1 2 (J 32))
set_option maxRecDepth 100000 in
theorem vb_X9_back_30 {X : Nat × (Nat → Int32)} {R : zRt} : ∀ ls st h, B_X9_back_30 X (zV X M_X9_back (zQm M_X9_back R) 0 0) R ls st h → zV X M_X9_back (zQm M_X9_back R) 0 0 30 ls st h := sd_iconst dX9_back_30 rfl (sd_istore_n dX9_back_31 rfl (Nat.le_of_ble_eq_true rfl) (Or.inl rfl) (fun _ _ _ h => h))
def B_X9_back_32 (X : Nat × (Nat → Int32)) (J : Nat → zCf) (R : zRt) : zCf := oILOAD 2 (oPI (zj (15)) (oICGE (J 61) (oALOAD 0 (oGETR 9 15 (oILOAD 2 (oALOAD 0 (oGETR 9 18 (oPI (zj (15)) (oILOAD 1 (oIMUL (oILOAD 2 (oIADD (oIALD (oIAST (oIINC 1 2 (zj (1)) (J 32))))))))))))))))
set_option maxRecDepth 100000 in
theorem vb_X9_back_32 {X : Nat × (Nat → Int32)} {R : zRt} : ∀ ls st h, B_X9_back_32 X (zV X M_X9_back (zQm M_X9_back R) 0 0) R ls st h → zV X M_X9_back (zQm M_X9_back R) 0 0 32 ls st h := sd_iload_n dX9_back_32 rfl (sd_bipush dX9_back_33 rfl (sd_icge dX9_back_35 rfl (fun _ _ _ h => h) (sd_aload_n dX9_back_38 rfl (sd_getr dX9_back_39 zCl9 (Nat.le_of_ble_eq_true rfl) lk_RX9_17 (Or.inr ⟨_, rfl⟩) (sd_iload_n dX9_back_42 rfl (sd_aload_n dX9_back_43 rfl (sd_getr dX9_back_44 zCl9 (Nat.le_of_ble_eq_true rfl) lk_RX9_27 (Or.inr ⟨_, rfl⟩) (sd_bipush dX9_back_47 rfl (sd_iload_n dX9_back_49 rfl (sd_imul dX9_back_50 (sd_iload_n dX9_back_51 rfl (sd_iadd dX9_back_52 (sd_iald dX9_back_53 (sd_iast dX9_back_54 (sd_iinc dX9_back_55 rfl (Nat.le_of_ble_eq_true rfl) (Or.inl rfl) (sd_goto dX9_back_58 rfl (fun _ _ _ h => h)))))))))))))))))
def B_X9_back_61 (X : Nat × (Nat → Int32)) (J : Nat → zCf) (R : zRt) : zCf := oALOAD 0 (oPI (zj (0)) (oPUTI 9 19 (oALOAD 0 (oINV0 X M_X9_granted 9 (oZRET R)))))
set_option maxRecDepth 100000 in
theorem vb_X9_back_61 {X : Nat × (Nat → Int32)} {R : zRt} : ∀ ls st h, B_X9_back_61 X (zV X M_X9_back (zQm M_X9_back R) 0 0) R ls st h → zV X M_X9_back (zQm M_X9_back R) 0 0 61 ls st h := sd_aload_n dX9_back_61 rfl (sd_iconst dX9_back_62 rfl (sd_puti dX9_back_63 zCl9 (Nat.le_of_ble_eq_true rfl) lk_RX9_294 rfl (Or.inl rfl) (sd_aload_n dX9_back_66 rfl (sd_inv0 dX9_back_67 rfl mv_X9_granted na_X9_granted ml_RX9_493 ⟨⟨Nat.le_of_ble_eq_true rfl, Nat.le_of_ble_eq_true rfl⟩, ⟨Nat.le_of_ble_eq_true rfl, Nat.le_of_ble_eq_true rfl⟩⟩ (sd_zret dX9_back_70 rfl (Nat.le_of_ble_eq_true rfl) (Nat.le_of_ble_eq_true rfl))))))
