theorem dX7_nearest_0 : decode cX7_nearest 0 = .ok (.aload_n 0, 1) := by decide +kernel
theorem dX7_nearest_1 : decode cX7_nearest 1 = .ok (.iload_n 1, 1) := by decide +kernel
theorem dX7_nearest_2 : decode cX7_nearest 2 = .ok (.invokevirtual 218, 3) := by decide +kernel
theorem dX7_nearest_5 : decode cX7_nearest 5 = .ok (.ifCond .eq 11, 3) := by decide +kernel
theorem dX7_nearest_8 : decode cX7_nearest 8 = .ok (.aload_n 0, 1) := by decide +kernel
theorem dX7_nearest_9 : decode cX7_nearest 9 = .ok (.iload_n 2, 1) := by decide +kernel
theorem dX7_nearest_10 : decode cX7_nearest 10 = .ok (.invokevirtual 97, 3) := by decide +kernel
theorem dX7_nearest_13 : decode cX7_nearest 13 = .ok (.ifCond .ne 9, 3) := by decide +kernel
theorem dX7_nearest_16 : decode cX7_nearest 16 = .ok (.aload_n 0, 1) := by decide +kernel
theorem dX7_nearest_17 : decode cX7_nearest 17 = .ok (.iconst 1, 1) := by decide +kernel
theorem dX7_nearest_18 : decode cX7_nearest 18 = .ok (.invokevirtual 58, 3) := by decide +kernel
theorem dX7_nearest_21 : decode cX7_nearest 21 = .ok (.ireturn, 1) := by decide +kernel
theorem dX7_nearest_22 : decode cX7_nearest 22 = .ok (.aload_n 0, 1) := by decide +kernel
theorem dX7_nearest_23 : decode cX7_nearest 23 = .ok (.aload_n 0, 1) := by decide +kernel
theorem dX7_nearest_24 : decode cX7_nearest 24 = .ok (.getfield 19, 3) := by decide +kernel
theorem dX7_nearest_27 : decode cX7_nearest 27 = .ok (.aload_n 0, 1) := by decide +kernel
theorem dX7_nearest_28 : decode cX7_nearest 28 = .ok (.getfield 19, 3) := by decide +kernel
theorem dX7_nearest_31 : decode cX7_nearest 31 = .ok (.iload_n 1, 1) := by decide +kernel
theorem dX7_nearest_32 : decode cX7_nearest 32 = .ok (.invokevirtual 221, 3) := by decide +kernel
theorem dX7_nearest_35 : decode cX7_nearest 35 = .ok (.iload_n 2, 1) := by decide +kernel
theorem dX7_nearest_36 : decode cX7_nearest 36 = .ok (.invokevirtual 242, 3) := by decide +kernel
theorem dX7_nearest_39 : decode cX7_nearest 39 = .ok (.invokevirtual 85, 3) := by decide +kernel
theorem dX7_nearest_42 : decode cX7_nearest 42 = .ok (.ireturn, 1) := by decide +kernel
def B_X7_nearest_0 (X : Nat × (Nat → Int32)) (J : Nat → zCf) (R : zRt) : zCf := oALOAD 0 (oILOAD 1 (oINV1 X M_X7_isPerson 7 (oIFEQ (J 16) (oALOAD 0 (oILOAD 2 (oINV1 X M_X7_isBit 7 (oIFNE (J 22) (J 16))))))))
set_option maxRecDepth 100000 in
theorem vb_X7_nearest_0 {X : Nat × (Nat → Int32)} {R : zRt} : ∀ ls st h, B_X7_nearest_0 X (zV X M_X7_nearest (zQm M_X7_nearest R) 0 0) R ls st h → zV X M_X7_nearest (zQm M_X7_nearest R) 0 0 0 ls st h := sd_aload_n dX7_nearest_0 rfl (sd_iload_n dX7_nearest_1 rfl (sd_inv1 dX7_nearest_2 rfl mv_X7_isPerson na_X7_isPerson ml_RX7_218 ⟨⟨Nat.le_of_ble_eq_true rfl, Nat.le_of_ble_eq_true rfl⟩, ⟨Nat.le_of_ble_eq_true rfl, Nat.le_of_ble_eq_true rfl⟩⟩ (sd_ifeq dX7_nearest_5 rfl (fun _ _ _ h => h) (sd_aload_n dX7_nearest_8 rfl (sd_iload_n dX7_nearest_9 rfl (sd_inv1 dX7_nearest_10 rfl mv_X7_isBit na_X7_isBit ml_RX7_97 ⟨⟨Nat.le_of_ble_eq_true rfl, Nat.le_of_ble_eq_true rfl⟩, ⟨Nat.le_of_ble_eq_true rfl, Nat.le_of_ble_eq_true rfl⟩⟩ (sd_ifne dX7_nearest_13 rfl (fun _ _ _ h => h) (fun _ _ _ h => h))))))))
def B_X7_nearest_16 (X : Nat × (Nat → Int32)) (J : Nat → zCf) (R : zRt) : zCf := oALOAD 0 (oPI (zj (1)) (oINV1 X M_X7_refuse 7 (oIRET R)))
set_option maxRecDepth 100000 in
theorem vb_X7_nearest_16 {X : Nat × (Nat → Int32)} {R : zRt} : ∀ ls st h, B_X7_nearest_16 X (zV X M_X7_nearest (zQm M_X7_nearest R) 0 0) R ls st h → zV X M_X7_nearest (zQm M_X7_nearest R) 0 0 16 ls st h := sd_aload_n dX7_nearest_16 rfl (sd_iconst dX7_nearest_17 rfl (sd_inv1 dX7_nearest_18 rfl mv_X7_refuse na_X7_refuse ml_RX7_58 ⟨⟨Nat.le_of_ble_eq_true rfl, Nat.le_of_ble_eq_true rfl⟩, ⟨Nat.le_of_ble_eq_true rfl, Nat.le_of_ble_eq_true rfl⟩⟩ (sd_iret dX7_nearest_21 rfl (Nat.le_of_ble_eq_true rfl) (Nat.le_of_ble_eq_true rfl))))
def B_X7_nearest_22 (X : Nat × (Nat → Int32)) (J : Nat → zCf) (R : zRt) : zCf := oALOAD 0 (oALOAD 0 (oGETR 7 1 (oALOAD 0 (oGETR 7 1 (oILOAD 1 (oINV1 X M_X4_spotOf 4 (oILOAD 2 (oINV2 X M_X4_nearestLength 4 (oINV1 X M_X7_answer 7 (oIRET R))))))))))
set_option maxRecDepth 100000 in
theorem vb_X7_nearest_22 {X : Nat × (Nat → Int32)} {R : zRt} : ∀ ls st h, B_X7_nearest_22 X (zV X M_X7_nearest (zQm M_X7_nearest R) 0 0) R ls st h → zV X M_X7_nearest (zQm M_X7_nearest R) 0 0 22 ls st h := sd_aload_n dX7_nearest_22 rfl (sd_aload_n dX7_nearest_23 rfl (sd_getr dX7_nearest_24 zCl7 (Nat.le_of_ble_eq_true rfl) lk_RX7_19 (Or.inl ⟨_, rfl⟩) (sd_aload_n dX7_nearest_27 rfl (sd_getr dX7_nearest_28 zCl7 (Nat.le_of_ble_eq_true rfl) lk_RX7_19 (Or.inl ⟨_, rfl⟩) (sd_iload_n dX7_nearest_31 rfl (sd_inv1 dX7_nearest_32 rfl mv_X4_spotOf na_X4_spotOf ml_RX7_221 ⟨⟨Nat.le_of_ble_eq_true rfl, Nat.le_of_ble_eq_true rfl⟩, ⟨Nat.le_of_ble_eq_true rfl, Nat.le_of_ble_eq_true rfl⟩⟩ (sd_iload_n dX7_nearest_35 rfl (sd_inv2 dX7_nearest_36 rfl mv_X4_nearestLength na_X4_nearestLength ml_RX7_242 ⟨⟨Nat.le_of_ble_eq_true rfl, Nat.le_of_ble_eq_true rfl⟩, ⟨Nat.le_of_ble_eq_true rfl, Nat.le_of_ble_eq_true rfl⟩⟩ (sd_inv1 dX7_nearest_39 rfl mv_X7_answer na_X7_answer ml_RX7_85 ⟨⟨Nat.le_of_ble_eq_true rfl, Nat.le_of_ble_eq_true rfl⟩, ⟨Nat.le_of_ble_eq_true rfl, Nat.le_of_ble_eq_true rfl⟩⟩ (sd_iret dX7_nearest_42 rfl (Nat.le_of_ble_eq_true rfl) (Nat.le_of_ble_eq_true rfl)))))))))))
theorem dX7_farthest_0 : decode cX7_farthest 0 = .ok (.aload_n 0, 1) := by decide +kernel
theorem dX7_farthest_1 : decode cX7_farthest 1 = .ok (.iload_n 1, 1) := by decide +kernel
theorem dX7_farthest_2 : decode cX7_farthest 2 = .ok (.invokevirtual 218, 3) := by decide +kernel
theorem dX7_farthest_5 : decode cX7_farthest 5 = .ok (.ifCond .ne 9, 3) := by decide +kernel
theorem dX7_farthest_8 : decode cX7_farthest 8 = .ok (.aload_n 0, 1) := by decide +kernel
theorem dX7_farthest_9 : decode cX7_farthest 9 = .ok (.iconst 1, 1) := by decide +kernel
theorem dX7_farthest_10 : decode cX7_farthest 10 = .ok (.invokevirtual 58, 3) := by decide +kernel
theorem dX7_farthest_13 : decode cX7_farthest 13 = .ok (.ireturn, 1) := by decide +kernel
theorem dX7_farthest_14 : decode cX7_farthest 14 = .ok (.aload_n 0, 1) := by decide +kernel
theorem dX7_farthest_15 : decode cX7_farthest 15 = .ok (.aload_n 0, 1) := by decide +kernel
theorem dX7_farthest_16 : decode cX7_farthest 16 = .ok (.getfield 19, 3) := by decide +kernel
theorem dX7_farthest_19 : decode cX7_farthest 19 = .ok (.aload_n 0, 1) := by decide +kernel
theorem dX7_farthest_20 : decode cX7_farthest 20 = .ok (.getfield 19, 3) := by decide +kernel
theorem dX7_farthest_23 : decode cX7_farthest 23 = .ok (.iload_n 1, 1) := by decide +kernel
theorem dX7_farthest_24 : decode cX7_farthest 24 = .ok (.invokevirtual 221, 3) := by decide +kernel
theorem dX7_farthest_27 : decode cX7_farthest 27 = .ok (.invokevirtual 245, 3) := by decide +kernel
theorem dX7_farthest_30 : decode cX7_farthest 30 = .ok (.invokevirtual 85, 3) := by decide +kernel
theorem dX7_farthest_33 : decode cX7_farthest 33 = .ok (.ireturn, 1) := by decide +kernel
def B_X7_farthest_0 (X : Nat × (Nat → Int32)) (J : Nat → zCf) (R : zRt) : zCf := oALOAD 0 (oILOAD 1 (oINV1 X M_X7_isPerson 7 (oIFNE (J 14) (oALOAD 0 (oPI (zj (1)) (oINV1 X M_X7_refuse 7 (oIRET R)))))))
set_option maxRecDepth 100000 in
theorem vb_X7_farthest_0 {X : Nat × (Nat → Int32)} {R : zRt} : ∀ ls st h, B_X7_farthest_0 X (zV X M_X7_farthest (zQm M_X7_farthest R) 0 0) R ls st h → zV X M_X7_farthest (zQm M_X7_farthest R) 0 0 0 ls st h := sd_aload_n dX7_farthest_0 rfl (sd_iload_n dX7_farthest_1 rfl (sd_inv1 dX7_farthest_2 rfl mv_X7_isPerson na_X7_isPerson ml_RX7_218 ⟨⟨Nat.le_of_ble_eq_true rfl, Nat.le_of_ble_eq_true rfl⟩, ⟨Nat.le_of_ble_eq_true rfl, Nat.le_of_ble_eq_true rfl⟩⟩ (sd_ifne dX7_farthest_5 rfl (fun _ _ _ h => h) (sd_aload_n dX7_farthest_8 rfl (sd_iconst dX7_farthest_9 rfl (sd_inv1 dX7_farthest_10 rfl mv_X7_refuse na_X7_refuse ml_RX7_58 ⟨⟨Nat.le_of_ble_eq_true rfl, Nat.le_of_ble_eq_true rfl⟩, ⟨Nat.le_of_ble_eq_true rfl, Nat.le_of_ble_eq_true rfl⟩⟩ (sd_iret dX7_farthest_13 rfl (Nat.le_of_ble_eq_true rfl) (Nat.le_of_ble_eq_true rfl))))))))
def B_X7_farthest_14 (X : Nat × (Nat → Int32)) (J : Nat → zCf) (R : zRt) : zCf := oALOAD 0 (oALOAD 0 (oGETR 7 1 (oALOAD 0 (oGETR 7 1 (oILOAD 1 (oINV1 X M_X4_spotOf 4 (oINV1 X M_X4_farthestCountry 4 (oINV1 X M_X7_answer 7 (oIRET R)))))))))
set_option maxRecDepth 100000 in
theorem vb_X7_farthest_14 {X : Nat × (Nat → Int32)} {R : zRt} : ∀ ls st h, B_X7_farthest_14 X (zV X M_X7_farthest (zQm M_X7_farthest R) 0 0) R ls st h → zV X M_X7_farthest (zQm M_X7_farthest R) 0 0 14 ls st h := sd_aload_n dX7_farthest_14 rfl (sd_aload_n dX7_farthest_15 rfl (sd_getr dX7_farthest_16 zCl7 (Nat.le_of_ble_eq_true rfl) lk_RX7_19 (Or.inl ⟨_, rfl⟩) (sd_aload_n dX7_farthest_19 rfl (sd_getr dX7_farthest_20 zCl7 (Nat.le_of_ble_eq_true rfl) lk_RX7_19 (Or.inl ⟨_, rfl⟩) (sd_iload_n dX7_farthest_23 rfl (sd_inv1 dX7_farthest_24 rfl mv_X4_spotOf na_X4_spotOf ml_RX7_221 ⟨⟨Nat.le_of_ble_eq_true rfl, Nat.le_of_ble_eq_true rfl⟩, ⟨Nat.le_of_ble_eq_true rfl, Nat.le_of_ble_eq_true rfl⟩⟩ (sd_inv1 dX7_farthest_27 rfl mv_X4_farthestCountry na_X4_farthestCountry ml_RX7_245 ⟨⟨Nat.le_of_ble_eq_true rfl, Nat.le_of_ble_eq_true rfl⟩, ⟨Nat.le_of_ble_eq_true rfl, Nat.le_of_ble_eq_true rfl⟩⟩ (sd_inv1 dX7_farthest_30 rfl mv_X7_answer na_X7_answer ml_RX7_85 ⟨⟨Nat.le_of_ble_eq_true rfl, Nat.le_of_ble_eq_true rfl⟩, ⟨Nat.le_of_ble_eq_true rfl, Nat.le_of_ble_eq_true rfl⟩⟩ (sd_iret dX7_farthest_33 rfl (Nat.le_of_ble_eq_true rfl) (Nat.le_of_ble_eq_true rfl))))))))))
theorem dX7_ring_0 : decode cX7_ring 0 = .ok (.aload_n 0, 1) := by decide +kernel
theorem dX7_ring_1 : decode cX7_ring 1 = .ok (.invokevirtual 124, 3) := by decide +kernel
theorem dX7_ring_4 : decode cX7_ring 4 = .ok (.ifCond .eq 9, 3) := by decide +kernel
theorem dX7_ring_7 : decode cX7_ring 7 = .ok (.aload_n 0, 1) := by decide +kernel
theorem dX7_ring_8 : decode cX7_ring 8 = .ok (.iconst 1, 1) := by decide +kernel
theorem dX7_ring_9 : decode cX7_ring 9 = .ok (.invokevirtual 58, 3) := by decide +kernel
theorem dX7_ring_12 : decode cX7_ring 12 = .ok (.ireturn, 1) := by decide +kernel
theorem dX7_ring_13 : decode cX7_ring 13 = .ok (.iconst 0, 1) := by decide +kernel
theorem dX7_ring_14 : decode cX7_ring 14 = .ok (.istore_n 1, 1) := by decide +kernel
theorem dX7_ring_15 : decode cX7_ring 15 = .ok (.iconst 0, 1) := by decide +kernel
theorem dX7_ring_16 : decode cX7_ring 16 = .ok (.istore_n 2, 1) := by decide +kernel
theorem dX7_ring_17 : decode cX7_ring 17 = .ok (.iload_n 2, 1) := by decide +kernel
theorem dX7_ring_18 : decode cX7_ring 18 = .ok (.bipush 72, 2) := by decide +kernel
theorem dX7_ring_20 : decode cX7_ring 20 = .ok (.if_icmp .ge 20, 3) := by decide +kernel
theorem dX7_ring_23 : decode cX7_ring 23 = .ok (.iload_n 1, 1) := by decide +kernel
theorem dX7_ring_24 : decode cX7_ring 24 = .ok (.aload_n 0, 1) := by decide +kernel
theorem dX7_ring_25 : decode cX7_ring 25 = .ok (.getfield 19, 3) := by decide +kernel
theorem dX7_ring_28 : decode cX7_ring 28 = .ok (.iload_n 2, 1) := by decide +kernel
theorem dX7_ring_29 : decode cX7_ring 29 = .ok (.invokevirtual 248, 3) := by decide +kernel
theorem dX7_ring_32 : decode cX7_ring 32 = .ok (.iadd, 1) := by decide +kernel
theorem dX7_ring_33 : decode cX7_ring 33 = .ok (.istore_n 1, 1) := by decide +kernel
theorem dX7_ring_34 : decode cX7_ring 34 = .ok (.iinc 2 1, 3) := by decide +kernel
theorem dX7_ring_37 : decode cX7_ring 37 = .ok (.goto (-20), 3) := by decide +kernel
theorem dX7_ring_40 : decode cX7_ring 40 = .ok (.aload_n 0, 1) := by decide +kernel
theorem dX7_ring_41 : decode cX7_ring 41 = .ok (.iload_n 1, 1) := by decide +kernel
theorem dX7_ring_42 : decode cX7_ring 42 = .ok (.invokevirtual 85, 3) := by decide +kernel
theorem dX7_ring_45 : decode cX7_ring 45 = .ok (.ireturn, 1) := by decide +kernel
def B_X7_ring_0 (X : Nat × (Nat → Int32)) (J : Nat → zCf) (R : zRt) : zCf := oALOAD 0 (oINV0 X M_X7_noTube 7 (oIFEQ (J 13) (oALOAD 0 (oPI (zj (1)) (oINV1 X M_X7_refuse 7 (oIRET R))))))
set_option maxRecDepth 100000 in
theorem vb_X7_ring_0 {X : Nat × (Nat → Int32)} {R : zRt} : ∀ ls st h, B_X7_ring_0 X (zV X M_X7_ring (zQm M_X7_ring R) 0 0) R ls st h → zV X M_X7_ring (zQm M_X7_ring R) 0 0 0 ls st h := sd_aload_n dX7_ring_0 rfl (sd_inv0 dX7_ring_1 rfl mv_X7_noTube na_X7_noTube ml_RX7_124 ⟨⟨Nat.le_of_ble_eq_true rfl, Nat.le_of_ble_eq_true rfl⟩, ⟨Nat.le_of_ble_eq_true rfl, Nat.le_of_ble_eq_true rfl⟩⟩ (sd_ifeq dX7_ring_4 rfl (fun _ _ _ h => h) (sd_aload_n dX7_ring_7 rfl (sd_iconst dX7_ring_8 rfl (sd_inv1 dX7_ring_9 rfl mv_X7_refuse na_X7_refuse ml_RX7_58 ⟨⟨Nat.le_of_ble_eq_true rfl, Nat.le_of_ble_eq_true rfl⟩, ⟨Nat.le_of_ble_eq_true rfl, Nat.le_of_ble_eq_true rfl⟩⟩ (sd_iret dX7_ring_12 rfl (Nat.le_of_ble_eq_true rfl) (Nat.le_of_ble_eq_true rfl)))))))
def B_X7_ring_13 (X : Nat × (Nat → Int32)) (J : Nat → zCf) (R : zRt) : zCf := oPI (zj (0)) (oISTORE 0 1 (oPI (zj (0)) (oISTORE 1 2 (J 17))))
set_option maxRecDepth 100000 in
theorem vb_X7_ring_13 {X : Nat × (Nat → Int32)} {R : zRt} : ∀ ls st h, B_X7_ring_13 X (zV X M_X7_ring (zQm M_X7_ring R) 0 0) R ls st h → zV X M_X7_ring (zQm M_X7_ring R) 0 0 13 ls st h := sd_iconst dX7_ring_13 rfl (sd_istore_n dX7_ring_14 rfl (Nat.le_of_ble_eq_true rfl) (Or.inl rfl) (sd_iconst dX7_ring_15 rfl (sd_istore_n dX7_ring_16 rfl (Nat.le_of_ble_eq_true rfl) (Or.inl rfl) (fun _ _ _ h => h))))
def B_X7_ring_17 (X : Nat × (Nat → Int32)) (J : Nat → zCf) (R : zRt) : zCf := oILOAD 2 (oPI (zj (72)) (oICGE (J 40) (oILOAD 1 (oALOAD 0 (oGETR 7 1 (oILOAD 2 (oINV1 X M_X4_stepInto 4 (oIADD (oISTORE 0 1 (oIINC 1 2 (zj (1)) (J 17)))))))))))
set_option maxRecDepth 100000 in
theorem vb_X7_ring_17 {X : Nat × (Nat → Int32)} {R : zRt} : ∀ ls st h, B_X7_ring_17 X (zV X M_X7_ring (zQm M_X7_ring R) 0 0) R ls st h → zV X M_X7_ring (zQm M_X7_ring R) 0 0 17 ls st h := sd_iload_n dX7_ring_17 rfl (sd_bipush dX7_ring_18 rfl (sd_icge dX7_ring_20 rfl (fun _ _ _ h => h) (sd_iload_n dX7_ring_23 rfl (sd_aload_n dX7_ring_24 rfl (sd_getr dX7_ring_25 zCl7 (Nat.le_of_ble_eq_true rfl) lk_RX7_19 (Or.inl ⟨_, rfl⟩) (sd_iload_n dX7_ring_28 rfl (sd_inv1 dX7_ring_29 rfl mv_X4_stepInto na_X4_stepInto ml_RX7_248 ⟨⟨Nat.le_of_ble_eq_true rfl, Nat.le_of_ble_eq_true rfl⟩, ⟨Nat.le_of_ble_eq_true rfl, Nat.le_of_ble_eq_true rfl⟩⟩ (sd_iadd dX7_ring_32 (sd_istore_n dX7_ring_33 rfl (Nat.le_of_ble_eq_true rfl) (Or.inl rfl) (sd_iinc dX7_ring_34 rfl (Nat.le_of_ble_eq_true rfl) (Or.inl rfl) (sd_goto dX7_ring_37 rfl (fun _ _ _ h => h))))))))))))
def B_X7_ring_40 (X : Nat × (Nat → Int32)) (J : Nat → zCf) (R : zRt) : zCf := oALOAD 0 (oILOAD 1 (oINV1 X M_X7_answer 7 (oIRET R)))
set_option maxRecDepth 100000 in
theorem vb_X7_ring_40 {X : Nat × (Nat → Int32)} {R : zRt} : ∀ ls st h, B_X7_ring_40 X (zV X M_X7_ring (zQm M_X7_ring R) 0 0) R ls st h → zV X M_X7_ring (zQm M_X7_ring R) 0 0 40 ls st h := sd_aload_n dX7_ring_40 rfl (sd_iload_n dX7_ring_41 rfl (sd_inv1 dX7_ring_42 rfl mv_X7_answer na_X7_answer ml_RX7_85 ⟨⟨Nat.le_of_ble_eq_true rfl, Nat.le_of_ble_eq_true rfl⟩, ⟨Nat.le_of_ble_eq_true rfl, Nat.le_of_ble_eq_true rfl⟩⟩ (sd_iret dX7_ring_45 rfl (Nat.le_of_ble_eq_true rfl) (Nat.le_of_ble_eq_true rfl))))
theorem dX7_two_0 : decode cX7_two 0 = .ok (.aload_n 0, 1) := by decide +kernel
theorem dX7_two_1 : decode cX7_two 1 = .ok (.invokevirtual 124, 3) := by decide +kernel
theorem dX7_two_4 : decode cX7_two 4 = .ok (.ifCond .eq 11, 3) := by decide +kernel
theorem dX7_two_7 : decode cX7_two 7 = .ok (.aload_n 0, 1) := by decide +kernel
theorem dX7_two_8 : decode cX7_two 8 = .ok (.iconst 1, 1) := by decide +kernel
theorem dX7_two_9 : decode cX7_two 9 = .ok (.putfield 91, 3) := by decide +kernel
theorem dX7_two_12 : decode cX7_two 12 = .ok (.bipush (-100), 2) := by decide +kernel
theorem dX7_two_14 : decode cX7_two 14 = .ok (.ireturn, 1) := by decide +kernel
theorem dX7_two_15 : decode cX7_two 15 = .ok (.iload_n 1, 1) := by decide +kernel
theorem dX7_two_16 : decode cX7_two 16 = .ok (.invokestatic 251, 3) := by decide +kernel
theorem dX7_two_19 : decode cX7_two 19 = .ok (.ifCond .eq 10, 3) := by decide +kernel
theorem dX7_two_22 : decode cX7_two 22 = .ok (.iload_n 2, 1) := by decide +kernel
theorem dX7_two_23 : decode cX7_two 23 = .ok (.invokestatic 251, 3) := by decide +kernel
theorem dX7_two_26 : decode cX7_two 26 = .ok (.ifCond .ne 11, 3) := by decide +kernel
theorem dX7_two_29 : decode cX7_two 29 = .ok (.aload_n 0, 1) := by decide +kernel
theorem dX7_two_30 : decode cX7_two 30 = .ok (.iconst 2, 1) := by decide +kernel
theorem dX7_two_31 : decode cX7_two 31 = .ok (.putfield 91, 3) := by decide +kernel
theorem dX7_two_34 : decode cX7_two 34 = .ok (.bipush (-100), 2) := by decide +kernel
theorem dX7_two_36 : decode cX7_two 36 = .ok (.ireturn, 1) := by decide +kernel
theorem dX7_two_37 : decode cX7_two 37 = .ok (.aload_n 0, 1) := by decide +kernel
theorem dX7_two_38 : decode cX7_two 38 = .ok (.aload_n 0, 1) := by decide +kernel
theorem dX7_two_39 : decode cX7_two 39 = .ok (.iload_n 1, 1) := by decide +kernel
theorem dX7_two_40 : decode cX7_two 40 = .ok (.iload_n 2, 1) := by decide +kernel
theorem dX7_two_41 : decode cX7_two 41 = .ok (.iload_n 3, 1) := by decide +kernel
theorem dX7_two_42 : decode cX7_two 42 = .ok (.invokevirtual 254, 3) := by decide +kernel
theorem dX7_two_45 : decode cX7_two 45 = .ok (.invokevirtual 85, 3) := by decide +kernel
theorem dX7_two_48 : decode cX7_two 48 = .ok (.ireturn, 1) := by decide +kernel
def B_X7_two_0 (X : Nat × (Nat → Int32)) (J : Nat → zCf) (R : zRt) : zCf := oALOAD 0 (oINV0 X M_X7_noTube 7 (oIFEQ (J 15) (oALOAD 0 (oPI (zj (1)) (oPUTI 7 5 (oPI (zj (-100)) (oIRET R)))))))
set_option maxRecDepth 100000 in
theorem vb_X7_two_0 {X : Nat × (Nat → Int32)} {R : zRt} : ∀ ls st h, B_X7_two_0 X (zV X M_X7_two (zQm M_X7_two R) 0 0) R ls st h → zV X M_X7_two (zQm M_X7_two R) 0 0 0 ls st h := sd_aload_n dX7_two_0 rfl (sd_inv0 dX7_two_1 rfl mv_X7_noTube na_X7_noTube ml_RX7_124 ⟨⟨Nat.le_of_ble_eq_true rfl, Nat.le_of_ble_eq_true rfl⟩, ⟨Nat.le_of_ble_eq_true rfl, Nat.le_of_ble_eq_true rfl⟩⟩ (sd_ifeq dX7_two_4 rfl (fun _ _ _ h => h) (sd_aload_n dX7_two_7 rfl (sd_iconst dX7_two_8 rfl (sd_puti dX7_two_9 zCl7 (Nat.le_of_ble_eq_true rfl) lk_RX7_91 rfl (Or.inl rfl) (sd_bipush dX7_two_12 rfl (sd_iret dX7_two_14 rfl (Nat.le_of_ble_eq_true rfl) (Nat.le_of_ble_eq_true rfl))))))))
def B_X7_two_15 (X : Nat × (Nat → Int32)) (J : Nat → zCf) (R : zRt) : zCf := oILOAD 1 (oINS1 X M_X7_isHandTurn (oIFEQ (J 29) (oILOAD 2 (oINS1 X M_X7_isHandTurn (oIFNE (J 37) (J 29))))))
set_option maxRecDepth 100000 in
theorem vb_X7_two_15 {X : Nat × (Nat → Int32)} {R : zRt} : ∀ ls st h, B_X7_two_15 X (zV X M_X7_two (zQm M_X7_two R) 0 0) R ls st h → zV X M_X7_two (zQm M_X7_two R) 0 0 15 ls st h := sd_iload_n dX7_two_15 rfl (sd_ins1 dX7_two_16 ms_X7_isHandTurn na_X7_isHandTurn ml_RX7_251 ⟨⟨Nat.le_of_ble_eq_true rfl, Nat.le_of_ble_eq_true rfl⟩, ⟨Nat.le_of_ble_eq_true rfl, Nat.le_of_ble_eq_true rfl⟩⟩ (sd_ifeq dX7_two_19 rfl (fun _ _ _ h => h) (sd_iload_n dX7_two_22 rfl (sd_ins1 dX7_two_23 ms_X7_isHandTurn na_X7_isHandTurn ml_RX7_251 ⟨⟨Nat.le_of_ble_eq_true rfl, Nat.le_of_ble_eq_true rfl⟩, ⟨Nat.le_of_ble_eq_true rfl, Nat.le_of_ble_eq_true rfl⟩⟩ (sd_ifne dX7_two_26 rfl (fun _ _ _ h => h) (fun _ _ _ h => h))))))
def B_X7_two_29 (X : Nat × (Nat → Int32)) (J : Nat → zCf) (R : zRt) : zCf := oALOAD 0 (oPI (zj (2)) (oPUTI 7 5 (oPI (zj (-100)) (oIRET R))))
set_option maxRecDepth 100000 in
theorem vb_X7_two_29 {X : Nat × (Nat → Int32)} {R : zRt} : ∀ ls st h, B_X7_two_29 X (zV X M_X7_two (zQm M_X7_two R) 0 0) R ls st h → zV X M_X7_two (zQm M_X7_two R) 0 0 29 ls st h := sd_aload_n dX7_two_29 rfl (sd_iconst dX7_two_30 rfl (sd_puti dX7_two_31 zCl7 (Nat.le_of_ble_eq_true rfl) lk_RX7_91 rfl (Or.inl rfl) (sd_bipush dX7_two_34 rfl (sd_iret dX7_two_36 rfl (Nat.le_of_ble_eq_true rfl) (Nat.le_of_ble_eq_true rfl)))))
def B_X7_two_37 (X : Nat × (Nat → Int32)) (J : Nat → zCf) (R : zRt) : zCf := oALOAD 0 (oALOAD 0 (oILOAD 1 (oILOAD 2 (oILOAD 3 (oINV3 X M_X7_shareOf 7 (oINV1 X M_X7_answer 7 (oIRET R)))))))
set_option maxRecDepth 100000 in
theorem vb_X7_two_37 {X : Nat × (Nat → Int32)} {R : zRt} : ∀ ls st h, B_X7_two_37 X (zV X M_X7_two (zQm M_X7_two R) 0 0) R ls st h → zV X M_X7_two (zQm M_X7_two R) 0 0 37 ls st h := sd_aload_n dX7_two_37 rfl (sd_aload_n dX7_two_38 rfl (sd_iload_n dX7_two_39 rfl (sd_iload_n dX7_two_40 rfl (sd_iload_n dX7_two_41 rfl (sd_inv3 dX7_two_42 rfl mv_X7_shareOf na_X7_shareOf ml_RX7_254 ⟨⟨Nat.le_of_ble_eq_true rfl, Nat.le_of_ble_eq_true rfl⟩, ⟨Nat.le_of_ble_eq_true rfl, Nat.le_of_ble_eq_true rfl⟩⟩ (sd_inv1 dX7_two_45 rfl mv_X7_answer na_X7_answer ml_RX7_85 ⟨⟨Nat.le_of_ble_eq_true rfl, Nat.le_of_ble_eq_true rfl⟩, ⟨Nat.le_of_ble_eq_true rfl, Nat.le_of_ble_eq_true rfl⟩⟩ (sd_iret dX7_two_48 rfl (Nat.le_of_ble_eq_true rfl) (Nat.le_of_ble_eq_true rfl))))))))
theorem dX7_rests_0 : decode cX7_rests 0 = .ok (.aload_n 0, 1) := by decide +kernel
theorem dX7_rests_1 : decode cX7_rests 1 = .ok (.invokevirtual 124, 3) := by decide +kernel
theorem dX7_rests_4 : decode cX7_rests 4 = .ok (.ifCond .eq 9, 3) := by decide +kernel
theorem dX7_rests_7 : decode cX7_rests 7 = .ok (.aload_n 0, 1) := by decide +kernel
theorem dX7_rests_8 : decode cX7_rests 8 = .ok (.iconst 1, 1) := by decide +kernel
theorem dX7_rests_9 : decode cX7_rests 9 = .ok (.invokevirtual 58, 3) := by decide +kernel
theorem dX7_rests_12 : decode cX7_rests 12 = .ok (.ireturn, 1) := by decide +kernel
theorem dX7_rests_13 : decode cX7_rests 13 = .ok (.iconst 0, 1) := by decide +kernel
theorem dX7_rests_14 : decode cX7_rests 14 = .ok (.istore_n 1, 1) := by decide +kernel
theorem dX7_rests_15 : decode cX7_rests 15 = .ok (.bipush (-3), 2) := by decide +kernel
theorem dX7_rests_17 : decode cX7_rests 17 = .ok (.istore_n 2, 1) := by decide +kernel
theorem dX7_rests_18 : decode cX7_rests 18 = .ok (.iload_n 2, 1) := by decide +kernel
theorem dX7_rests_19 : decode cX7_rests 19 = .ok (.iconst 3, 1) := by decide +kernel
theorem dX7_rests_20 : decode cX7_rests 20 = .ok (.if_icmp .gt 35, 3) := by decide +kernel
theorem dX7_rests_23 : decode cX7_rests 23 = .ok (.bipush (-3), 2) := by decide +kernel
theorem dX7_rests_25 : decode cX7_rests 25 = .ok (.istore_n 3, 1) := by decide +kernel
theorem dX7_rests_26 : decode cX7_rests 26 = .ok (.iload_n 3, 1) := by decide +kernel
theorem dX7_rests_27 : decode cX7_rests 27 = .ok (.iconst 3, 1) := by decide +kernel
theorem dX7_rests_28 : decode cX7_rests 28 = .ok (.if_icmp .gt 21, 3) := by decide +kernel
theorem dX7_rests_31 : decode cX7_rests 31 = .ok (.aload_n 0, 1) := by decide +kernel
theorem dX7_rests_32 : decode cX7_rests 32 = .ok (.iload_n 2, 1) := by decide +kernel
theorem dX7_rests_33 : decode cX7_rests 33 = .ok (.iload_n 3, 1) := by decide +kernel
theorem dX7_rests_34 : decode cX7_rests 34 = .ok (.invokevirtual 258, 3) := by decide +kernel
theorem dX7_rests_37 : decode cX7_rests 37 = .ok (.ifCond .eq 6, 3) := by decide +kernel
theorem dX7_rests_40 : decode cX7_rests 40 = .ok (.iinc 1 1, 3) := by decide +kernel
theorem dX7_rests_43 : decode cX7_rests 43 = .ok (.iinc 3 1, 3) := by decide +kernel
theorem dX7_rests_46 : decode cX7_rests 46 = .ok (.goto (-20), 3) := by decide +kernel
theorem dX7_rests_49 : decode cX7_rests 49 = .ok (.iinc 2 1, 3) := by decide +kernel
theorem dX7_rests_52 : decode cX7_rests 52 = .ok (.goto (-34), 3) := by decide +kernel
theorem dX7_rests_55 : decode cX7_rests 55 = .ok (.aload_n 0, 1) := by decide +kernel
theorem dX7_rests_56 : decode cX7_rests 56 = .ok (.iload_n 1, 1) := by decide +kernel
theorem dX7_rests_57 : decode cX7_rests 57 = .ok (.invokevirtual 85, 3) := by decide +kernel
theorem dX7_rests_60 : decode cX7_rests 60 = .ok (.ireturn, 1) := by decide +kernel
def B_X7_rests_0 (X : Nat × (Nat → Int32)) (J : Nat → zCf) (R : zRt) : zCf := oALOAD 0 (oINV0 X M_X7_noTube 7 (oIFEQ (J 13) (oALOAD 0 (oPI (zj (1)) (oINV1 X M_X7_refuse 7 (oIRET R))))))
set_option maxRecDepth 100000 in
theorem vb_X7_rests_0 {X : Nat × (Nat → Int32)} {R : zRt} : ∀ ls st h, B_X7_rests_0 X (zV X M_X7_rests (zQm M_X7_rests R) 0 0) R ls st h → zV X M_X7_rests (zQm M_X7_rests R) 0 0 0 ls st h := sd_aload_n dX7_rests_0 rfl (sd_inv0 dX7_rests_1 rfl mv_X7_noTube na_X7_noTube ml_RX7_124 ⟨⟨Nat.le_of_ble_eq_true rfl, Nat.le_of_ble_eq_true rfl⟩, ⟨Nat.le_of_ble_eq_true rfl, Nat.le_of_ble_eq_true rfl⟩⟩ (sd_ifeq dX7_rests_4 rfl (fun _ _ _ h => h) (sd_aload_n dX7_rests_7 rfl (sd_iconst dX7_rests_8 rfl (sd_inv1 dX7_rests_9 rfl mv_X7_refuse na_X7_refuse ml_RX7_58 ⟨⟨Nat.le_of_ble_eq_true rfl, Nat.le_of_ble_eq_true rfl⟩, ⟨Nat.le_of_ble_eq_true rfl, Nat.le_of_ble_eq_true rfl⟩⟩ (sd_iret dX7_rests_12 rfl (Nat.le_of_ble_eq_true rfl) (Nat.le_of_ble_eq_true rfl)))))))
def B_X7_rests_13 (X : Nat × (Nat → Int32)) (J : Nat → zCf) (R : zRt) : zCf := oPI (zj (0)) (oISTORE 0 1 (oPI (zj (-3)) (oISTORE 1 2 (J 18))))
set_option maxRecDepth 100000 in
theorem vb_X7_rests_13 {X : Nat × (Nat → Int32)} {R : zRt} : ∀ ls st h, B_X7_rests_13 X (zV X M_X7_rests (zQm M_X7_rests R) 0 0) R ls st h → zV X M_X7_rests (zQm M_X7_rests R) 0 0 13 ls st h := sd_iconst dX7_rests_13 rfl (sd_istore_n dX7_rests_14 rfl (Nat.le_of_ble_eq_true rfl) (Or.inl rfl) (sd_bipush dX7_rests_15 rfl (sd_istore_n dX7_rests_17 rfl (Nat.le_of_ble_eq_true rfl) (Or.inl rfl) (fun _ _ _ h => h))))
def B_X7_rests_18 (X : Nat × (Nat → Int32)) (J : Nat → zCf) (R : zRt) : zCf := oILOAD 2 (oPI (zj (3)) (oICGT (J 55) (oPI (zj (-3)) (oISTORE 2 3 (J 26)))))
set_option maxRecDepth 100000 in
theorem vb_X7_rests_18 {X : Nat × (Nat → Int32)} {R : zRt} : ∀ ls st h, B_X7_rests_18 X (zV X M_X7_rests (zQm M_X7_rests R) 0 0) R ls st h → zV X M_X7_rests (zQm M_X7_rests R) 0 0 18 ls st h := sd_iload_n dX7_rests_18 rfl (sd_iconst dX7_rests_19 rfl (sd_icgt dX7_rests_20 rfl (fun _ _ _ h => h) (sd_bipush dX7_rests_23 rfl (sd_istore_n dX7_rests_25 rfl (Nat.le_of_ble_eq_true rfl) (Or.inl rfl) (fun _ _ _ h => h)))))
def B_X7_rests_26 (X : Nat × (Nat → Int32)) (J : Nat → zCf) (R : zRt) : zCf := oILOAD 3 (oPI (zj (3)) (oICGT (J 49) (oALOAD 0 (oILOAD 2 (oILOAD 3 (oINV2 X M_X7_isRest 7 (oIFEQ (J 43) (oIINC 0 1 (zj (1)) (J 43)))))))))
set_option maxRecDepth 100000 in
theorem vb_X7_rests_26 {X : Nat × (Nat → Int32)} {R : zRt} : ∀ ls st h, B_X7_rests_26 X (zV X M_X7_rests (zQm M_X7_rests R) 0 0) R ls st h → zV X M_X7_rests (zQm M_X7_rests R) 0 0 26 ls st h := sd_iload_n dX7_rests_26 rfl (sd_iconst dX7_rests_27 rfl (sd_icgt dX7_rests_28 rfl (fun _ _ _ h => h) (sd_aload_n dX7_rests_31 rfl (sd_iload_n dX7_rests_32 rfl (sd_iload_n dX7_rests_33 rfl (sd_inv2 dX7_rests_34 rfl mv_X7_isRest na_X7_isRest ml_RX7_258 ⟨⟨Nat.le_of_ble_eq_true rfl, Nat.le_of_ble_eq_true rfl⟩, ⟨Nat.le_of_ble_eq_true rfl, Nat.le_of_ble_eq_true rfl⟩⟩ (sd_ifeq dX7_rests_37 rfl (fun _ _ _ h => h) (sd_iinc dX7_rests_40 rfl (Nat.le_of_ble_eq_true rfl) (Or.inl rfl) (fun _ _ _ h => h)))))))))
def B_X7_rests_43 (X : Nat × (Nat → Int32)) (J : Nat → zCf) (R : zRt) : zCf := oIINC 2 3 (zj (1)) (J 26)
set_option maxRecDepth 100000 in
theorem vb_X7_rests_43 {X : Nat × (Nat → Int32)} {R : zRt} : ∀ ls st h, B_X7_rests_43 X (zV X M_X7_rests (zQm M_X7_rests R) 0 0) R ls st h → zV X M_X7_rests (zQm M_X7_rests R) 0 0 43 ls st h := sd_iinc dX7_rests_43 rfl (Nat.le_of_ble_eq_true rfl) (Or.inl rfl) (sd_goto dX7_rests_46 rfl (fun _ _ _ h => h))
def B_X7_rests_49 (X : Nat × (Nat → Int32)) (J : Nat → zCf) (R : zRt) : zCf := oIINC 1 2 (zj (1)) (J 18)
set_option maxRecDepth 100000 in
theorem vb_X7_rests_49 {X : Nat × (Nat → Int32)} {R : zRt} : ∀ ls st h, B_X7_rests_49 X (zV X M_X7_rests (zQm M_X7_rests R) 0 0) R ls st h → zV X M_X7_rests (zQm M_X7_rests R) 0 0 49 ls st h := sd_iinc dX7_rests_49 rfl (Nat.le_of_ble_eq_true rfl) (Or.inl rfl) (sd_goto dX7_rests_52 rfl (fun _ _ _ h => h))
def B_X7_rests_55 (X : Nat × (Nat → Int32)) (J : Nat → zCf) (R : zRt) : zCf := oALOAD 0 (oILOAD 1 (oINV1 X M_X7_answer 7 (oIRET R)))
set_option maxRecDepth 100000 in
theorem vb_X7_rests_55 {X : Nat × (Nat → Int32)} {R : zRt} : ∀ ls st h, B_X7_rests_55 X (zV X M_X7_rests (zQm M_X7_rests R) 0 0) R ls st h → zV X M_X7_rests (zQm M_X7_rests R) 0 0 55 ls st h := sd_aload_n dX7_rests_55 rfl (sd_iload_n dX7_rests_56 rfl (sd_inv1 dX7_rests_57 rfl mv_X7_answer na_X7_answer ml_RX7_85 ⟨⟨Nat.le_of_ble_eq_true rfl, Nat.le_of_ble_eq_true rfl⟩, ⟨Nat.le_of_ble_eq_true rfl, Nat.le_of_ble_eq_true rfl⟩⟩ (sd_iret dX7_rests_60 rfl (Nat.le_of_ble_eq_true rfl) (Nat.le_of_ble_eq_true rfl))))
theorem dX7_rest_0 : decode cX7_rest 0 = .ok (.aload_n 0, 1) := by decide +kernel
theorem dX7_rest_1 : decode cX7_rest 1 = .ok (.invokevirtual 124, 3) := by decide +kernel
theorem dX7_rest_4 : decode cX7_rest 4 = .ok (.ifCond .eq 9, 3) := by decide +kernel
theorem dX7_rest_7 : decode cX7_rest 7 = .ok (.aload_n 0, 1) := by decide +kernel
theorem dX7_rest_8 : decode cX7_rest 8 = .ok (.iconst 1, 1) := by decide +kernel
theorem dX7_rest_9 : decode cX7_rest 9 = .ok (.invokevirtual 58, 3) := by decide +kernel
theorem dX7_rest_12 : decode cX7_rest 12 = .ok (.ireturn, 1) := by decide +kernel
theorem dX7_rest_13 : decode cX7_rest 13 = .ok (.bipush (-3), 2) := by decide +kernel
theorem dX7_rest_15 : decode cX7_rest 15 = .ok (.istore_n 1, 1) := by decide +kernel
theorem dX7_rest_16 : decode cX7_rest 16 = .ok (.iload_n 1, 1) := by decide +kernel
theorem dX7_rest_17 : decode cX7_rest 17 = .ok (.iconst 3, 1) := by decide +kernel
theorem dX7_rest_18 : decode cX7_rest 18 = .ok (.if_icmp .gt 47, 3) := by decide +kernel
theorem dX7_rest_21 : decode cX7_rest 21 = .ok (.bipush (-3), 2) := by decide +kernel
theorem dX7_rest_23 : decode cX7_rest 23 = .ok (.istore_n 2, 1) := by decide +kernel
theorem dX7_rest_24 : decode cX7_rest 24 = .ok (.iload_n 2, 1) := by decide +kernel
theorem dX7_rest_25 : decode cX7_rest 25 = .ok (.iconst 3, 1) := by decide +kernel
theorem dX7_rest_26 : decode cX7_rest 26 = .ok (.if_icmp .gt 33, 3) := by decide +kernel
theorem dX7_rest_29 : decode cX7_rest 29 = .ok (.aload_n 0, 1) := by decide +kernel
theorem dX7_rest_30 : decode cX7_rest 30 = .ok (.iload_n 1, 1) := by decide +kernel
theorem dX7_rest_31 : decode cX7_rest 31 = .ok (.iload_n 2, 1) := by decide +kernel
theorem dX7_rest_32 : decode cX7_rest 32 = .ok (.invokevirtual 258, 3) := by decide +kernel
theorem dX7_rest_35 : decode cX7_rest 35 = .ok (.ifCond .eq 18, 3) := by decide +kernel
theorem dX7_rest_38 : decode cX7_rest 38 = .ok (.aload_n 0, 1) := by decide +kernel
theorem dX7_rest_39 : decode cX7_rest 39 = .ok (.bipush 10, 2) := by decide +kernel
theorem dX7_rest_41 : decode cX7_rest 41 = .ok (.iload_n 1, 1) := by decide +kernel
theorem dX7_rest_42 : decode cX7_rest 42 = .ok (.iconst 3, 1) := by decide +kernel
theorem dX7_rest_43 : decode cX7_rest 43 = .ok (.iadd, 1) := by decide +kernel
theorem dX7_rest_44 : decode cX7_rest 44 = .ok (.imul, 1) := by decide +kernel
theorem dX7_rest_45 : decode cX7_rest 45 = .ok (.iload_n 2, 1) := by decide +kernel
theorem dX7_rest_46 : decode cX7_rest 46 = .ok (.iadd, 1) := by decide +kernel
theorem dX7_rest_47 : decode cX7_rest 47 = .ok (.iconst 3, 1) := by decide +kernel
theorem dX7_rest_48 : decode cX7_rest 48 = .ok (.iadd, 1) := by decide +kernel
theorem dX7_rest_49 : decode cX7_rest 49 = .ok (.invokevirtual 85, 3) := by decide +kernel
theorem dX7_rest_52 : decode cX7_rest 52 = .ok (.ireturn, 1) := by decide +kernel
theorem dX7_rest_53 : decode cX7_rest 53 = .ok (.iinc 2 1, 3) := by decide +kernel
theorem dX7_rest_56 : decode cX7_rest 56 = .ok (.goto (-32), 3) := by decide +kernel
theorem dX7_rest_59 : decode cX7_rest 59 = .ok (.iinc 1 1, 3) := by decide +kernel
theorem dX7_rest_62 : decode cX7_rest 62 = .ok (.goto (-46), 3) := by decide +kernel
theorem dX7_rest_65 : decode cX7_rest 65 = .ok (.aload_n 0, 1) := by decide +kernel
theorem dX7_rest_66 : decode cX7_rest 66 = .ok (.bipush (-2), 2) := by decide +kernel
theorem dX7_rest_68 : decode cX7_rest 68 = .ok (.invokevirtual 85, 3) := by decide +kernel
theorem dX7_rest_71 : decode cX7_rest 71 = .ok (.ireturn, 1) := by decide +kernel
def B_X7_rest_0 (X : Nat × (Nat → Int32)) (J : Nat → zCf) (R : zRt) : zCf := oALOAD 0 (oINV0 X M_X7_noTube 7 (oIFEQ (J 13) (oALOAD 0 (oPI (zj (1)) (oINV1 X M_X7_refuse 7 (oIRET R))))))
set_option maxRecDepth 100000 in
theorem vb_X7_rest_0 {X : Nat × (Nat → Int32)} {R : zRt} : ∀ ls st h, B_X7_rest_0 X (zV X M_X7_rest (zQm M_X7_rest R) 0 0) R ls st h → zV X M_X7_rest (zQm M_X7_rest R) 0 0 0 ls st h := sd_aload_n dX7_rest_0 rfl (sd_inv0 dX7_rest_1 rfl mv_X7_noTube na_X7_noTube ml_RX7_124 ⟨⟨Nat.le_of_ble_eq_true rfl, Nat.le_of_ble_eq_true rfl⟩, ⟨Nat.le_of_ble_eq_true rfl, Nat.le_of_ble_eq_true rfl⟩⟩ (sd_ifeq dX7_rest_4 rfl (fun _ _ _ h => h) (sd_aload_n dX7_rest_7 rfl (sd_iconst dX7_rest_8 rfl (sd_inv1 dX7_rest_9 rfl mv_X7_refuse na_X7_refuse ml_RX7_58 ⟨⟨Nat.le_of_ble_eq_true rfl, Nat.le_of_ble_eq_true rfl⟩, ⟨Nat.le_of_ble_eq_true rfl, Nat.le_of_ble_eq_true rfl⟩⟩ (sd_iret dX7_rest_12 rfl (Nat.le_of_ble_eq_true rfl) (Nat.le_of_ble_eq_true rfl)))))))
def B_X7_rest_13 (X : Nat × (Nat → Int32)) (J : Nat → zCf) (R : zRt) : zCf := oPI (zj (-3)) (oISTORE 0 1 (J 16))
set_option maxRecDepth 100000 in
theorem vb_X7_rest_13 {X : Nat × (Nat → Int32)} {R : zRt} : ∀ ls st h, B_X7_rest_13 X (zV X M_X7_rest (zQm M_X7_rest R) 0 0) R ls st h → zV X M_X7_rest (zQm M_X7_rest R) 0 0 13 ls st h := sd_bipush dX7_rest_13 rfl (sd_istore_n dX7_rest_15 rfl (Nat.le_of_ble_eq_true rfl) (Or.inl rfl) (fun _ _ _ h => h))
def B_X7_rest_16 (X : Nat × (Nat → Int32)) (J : Nat → zCf) (R : zRt) : zCf := oILOAD 1 (oPI (zj (3)) (oICGT (J 65) (oPI (zj (-3)) (oISTORE 1 2 (J 24)))))
set_option maxRecDepth 100000 in
theorem vb_X7_rest_16 {X : Nat × (Nat → Int32)} {R : zRt} : ∀ ls st h, B_X7_rest_16 X (zV X M_X7_rest (zQm M_X7_rest R) 0 0) R ls st h → zV X M_X7_rest (zQm M_X7_rest R) 0 0 16 ls st h := sd_iload_n dX7_rest_16 rfl (sd_iconst dX7_rest_17 rfl (sd_icgt dX7_rest_18 rfl (fun _ _ _ h => h) (sd_bipush dX7_rest_21 rfl (sd_istore_n dX7_rest_23 rfl (Nat.le_of_ble_eq_true rfl) (Or.inl rfl) (fun _ _ _ h => h)))))
def B_X7_rest_24 (X : Nat × (Nat → Int32)) (J : Nat → zCf) (R : zRt) : zCf := oILOAD 2 (oPI (zj (3)) (oICGT (J 59) (oALOAD 0 (oILOAD 1 (oILOAD 2 (oINV2 X M_X7_isRest 7 (oIFEQ (J 53) (oALOAD 0 (oPI (zj (10)) (oILOAD 1 (oPI (zj (3)) (oIADD (oIMUL (oILOAD 2 (oIADD (oPI (zj (3)) (oIADD (oINV1 X M_X7_answer 7 (oIRET R)))))))))))))))))))
set_option maxRecDepth 100000 in
theorem vb_X7_rest_24 {X : Nat × (Nat → Int32)} {R : zRt} : ∀ ls st h, B_X7_rest_24 X (zV X M_X7_rest (zQm M_X7_rest R) 0 0) R ls st h → zV X M_X7_rest (zQm M_X7_rest R) 0 0 24 ls st h := sd_iload_n dX7_rest_24 rfl (sd_iconst dX7_rest_25 rfl (sd_icgt dX7_rest_26 rfl (fun _ _ _ h => h) (sd_aload_n dX7_rest_29 rfl (sd_iload_n dX7_rest_30 rfl (sd_iload_n dX7_rest_31 rfl (sd_inv2 dX7_rest_32 rfl mv_X7_isRest na_X7_isRest ml_RX7_258 ⟨⟨Nat.le_of_ble_eq_true rfl, Nat.le_of_ble_eq_true rfl⟩, ⟨Nat.le_of_ble_eq_true rfl, Nat.le_of_ble_eq_true rfl⟩⟩ (sd_ifeq dX7_rest_35 rfl (fun _ _ _ h => h) (sd_aload_n dX7_rest_38 rfl (sd_bipush dX7_rest_39 rfl (sd_iload_n dX7_rest_41 rfl (sd_iconst dX7_rest_42 rfl (sd_iadd dX7_rest_43 (sd_imul dX7_rest_44 (sd_iload_n dX7_rest_45 rfl (sd_iadd dX7_rest_46 (sd_iconst dX7_rest_47 rfl (sd_iadd dX7_rest_48 (sd_inv1 dX7_rest_49 rfl mv_X7_answer na_X7_answer ml_RX7_85 ⟨⟨Nat.le_of_ble_eq_true rfl, Nat.le_of_ble_eq_true rfl⟩, ⟨Nat.le_of_ble_eq_true rfl, Nat.le_of_ble_eq_true rfl⟩⟩ (sd_iret dX7_rest_52 rfl (Nat.le_of_ble_eq_true rfl) (Nat.le_of_ble_eq_true rfl))))))))))))))))))))
def B_X7_rest_53 (X : Nat × (Nat → Int32)) (J : Nat → zCf) (R : zRt) : zCf := oIINC 1 2 (zj (1)) (J 24)
set_option maxRecDepth 100000 in
theorem vb_X7_rest_53 {X : Nat × (Nat → Int32)} {R : zRt} : ∀ ls st h, B_X7_rest_53 X (zV X M_X7_rest (zQm M_X7_rest R) 0 0) R ls st h → zV X M_X7_rest (zQm M_X7_rest R) 0 0 53 ls st h := sd_iinc dX7_rest_53 rfl (Nat.le_of_ble_eq_true rfl) (Or.inl rfl) (sd_goto dX7_rest_56 rfl (fun _ _ _ h => h))
def B_X7_rest_59 (X : Nat × (Nat → Int32)) (J : Nat → zCf) (R : zRt) : zCf := oIINC 0 1 (zj (1)) (J 16)
set_option maxRecDepth 100000 in
theorem vb_X7_rest_59 {X : Nat × (Nat → Int32)} {R : zRt} : ∀ ls st h, B_X7_rest_59 X (zV X M_X7_rest (zQm M_X7_rest R) 0 0) R ls st h → zV X M_X7_rest (zQm M_X7_rest R) 0 0 59 ls st h := sd_iinc dX7_rest_59 rfl (Nat.le_of_ble_eq_true rfl) (Or.inl rfl) (sd_goto dX7_rest_62 rfl (fun _ _ _ h => h))
def B_X7_rest_65 (X : Nat × (Nat → Int32)) (J : Nat → zCf) (R : zRt) : zCf := oALOAD 0 (oPI (zj (-2)) (oINV1 X M_X7_answer 7 (oIRET R)))
set_option maxRecDepth 100000 in
theorem vb_X7_rest_65 {X : Nat × (Nat → Int32)} {R : zRt} : ∀ ls st h, B_X7_rest_65 X (zV X M_X7_rest (zQm M_X7_rest R) 0 0) R ls st h → zV X M_X7_rest (zQm M_X7_rest R) 0 0 65 ls st h := sd_aload_n dX7_rest_65 rfl (sd_bipush dX7_rest_66 rfl (sd_inv1 dX7_rest_68 rfl mv_X7_answer na_X7_answer ml_RX7_85 ⟨⟨Nat.le_of_ble_eq_true rfl, Nat.le_of_ble_eq_true rfl⟩, ⟨Nat.le_of_ble_eq_true rfl, Nat.le_of_ble_eq_true rfl⟩⟩ (sd_iret dX7_rest_71 rfl (Nat.le_of_ble_eq_true rfl) (Nat.le_of_ble_eq_true rfl))))
theorem dX7_shaken_0 : decode cX7_shaken 0 = .ok (.aload_n 0, 1) := by decide +kernel
theorem dX7_shaken_1 : decode cX7_shaken 1 = .ok (.iload_n 1, 1) := by decide +kernel
theorem dX7_shaken_2 : decode cX7_shaken 2 = .ok (.invokevirtual 97, 3) := by decide +kernel
theorem dX7_shaken_5 : decode cX7_shaken 5 = .ok (.ifCond .ne 9, 3) := by decide +kernel
theorem dX7_shaken_8 : decode cX7_shaken 8 = .ok (.aload_n 0, 1) := by decide +kernel
theorem dX7_shaken_9 : decode cX7_shaken 9 = .ok (.iconst 1, 1) := by decide +kernel
theorem dX7_shaken_10 : decode cX7_shaken 10 = .ok (.invokevirtual 58, 3) := by decide +kernel
theorem dX7_shaken_13 : decode cX7_shaken 13 = .ok (.ireturn, 1) := by decide +kernel
theorem dX7_shaken_14 : decode cX7_shaken 14 = .ok (.iload_n 2, 1) := by decide +kernel
theorem dX7_shaken_15 : decode cX7_shaken 15 = .ok (.iload_n 3, 1) := by decide +kernel
theorem dX7_shaken_16 : decode cX7_shaken 16 = .ok (.invokestatic 261, 3) := by decide +kernel
theorem dX7_shaken_19 : decode cX7_shaken 19 = .ok (.ifCond .ne 9, 3) := by decide +kernel
theorem dX7_shaken_22 : decode cX7_shaken 22 = .ok (.aload_n 0, 1) := by decide +kernel
theorem dX7_shaken_23 : decode cX7_shaken 23 = .ok (.iconst 2, 1) := by decide +kernel
theorem dX7_shaken_24 : decode cX7_shaken 24 = .ok (.invokevirtual 58, 3) := by decide +kernel
theorem dX7_shaken_27 : decode cX7_shaken 27 = .ok (.ireturn, 1) := by decide +kernel
theorem dX7_shaken_28 : decode cX7_shaken 28 = .ok (.aload_n 0, 1) := by decide +kernel
theorem dX7_shaken_29 : decode cX7_shaken 29 = .ok (.getfield 40, 3) := by decide +kernel
theorem dX7_shaken_32 : decode cX7_shaken 32 = .ok (.iload_n 2, 1) := by decide +kernel
theorem dX7_shaken_33 : decode cX7_shaken 33 = .ok (.aload_n 0, 1) := by decide +kernel
theorem dX7_shaken_34 : decode cX7_shaken 34 = .ok (.getfield 19, 3) := by decide +kernel
theorem dX7_shaken_37 : decode cX7_shaken 37 = .ok (.invokevirtual 264, 3) := by decide +kernel
theorem dX7_shaken_40 : decode cX7_shaken 40 = .ok (.invokevirtual 267, 3) := by decide +kernel
theorem dX7_shaken_43 : decode cX7_shaken 43 = .ok (.iconst 0, 1) := by decide +kernel
theorem dX7_shaken_44 : decode cX7_shaken 44 = .ok (.istore 4, 2) := by decide +kernel
theorem dX7_shaken_46 : decode cX7_shaken 46 = .ok (.iload 4, 2) := by decide +kernel
theorem dX7_shaken_48 : decode cX7_shaken 48 = .ok (.iload_n 3, 1) := by decide +kernel
theorem dX7_shaken_49 : decode cX7_shaken 49 = .ok (.if_icmp .ge 23, 3) := by decide +kernel
theorem dX7_shaken_52 : decode cX7_shaken 52 = .ok (.aload_n 0, 1) := by decide +kernel
theorem dX7_shaken_53 : decode cX7_shaken 53 = .ok (.getfield 40, 3) := by decide +kernel
theorem dX7_shaken_56 : decode cX7_shaken 56 = .ok (.aload_n 0, 1) := by decide +kernel
theorem dX7_shaken_57 : decode cX7_shaken 57 = .ok (.getfield 19, 3) := by decide +kernel
theorem dX7_shaken_60 : decode cX7_shaken 60 = .ok (.getfield 77, 3) := by decide +kernel
theorem dX7_shaken_63 : decode cX7_shaken 63 = .ok (.invokevirtual 270, 3) := by decide +kernel
theorem dX7_shaken_66 : decode cX7_shaken 66 = .ok (.iinc 4 1, 3) := by decide +kernel
theorem dX7_shaken_69 : decode cX7_shaken 69 = .ok (.goto (-23), 3) := by decide +kernel
theorem dX7_shaken_72 : decode cX7_shaken 72 = .ok (.aload_n 0, 1) := by decide +kernel
theorem dX7_shaken_73 : decode cX7_shaken 73 = .ok (.aload_n 0, 1) := by decide +kernel
theorem dX7_shaken_74 : decode cX7_shaken 74 = .ok (.getfield 19, 3) := by decide +kernel
theorem dX7_shaken_77 : decode cX7_shaken 77 = .ok (.iload_n 1, 1) := by decide +kernel
theorem dX7_shaken_78 : decode cX7_shaken 78 = .ok (.aload_n 0, 1) := by decide +kernel
theorem dX7_shaken_79 : decode cX7_shaken 79 = .ok (.getfield 40, 3) := by decide +kernel
theorem dX7_shaken_82 : decode cX7_shaken 82 = .ok (.getfield 274, 3) := by decide +kernel
theorem dX7_shaken_85 : decode cX7_shaken 85 = .ok (.aload_n 0, 1) := by decide +kernel
theorem dX7_shaken_86 : decode cX7_shaken 86 = .ok (.getfield 40, 3) := by decide +kernel
theorem dX7_shaken_89 : decode cX7_shaken 89 = .ok (.getfield 277, 3) := by decide +kernel
theorem dX7_shaken_92 : decode cX7_shaken 92 = .ok (.invokevirtual 107, 3) := by decide +kernel
theorem dX7_shaken_95 : decode cX7_shaken 95 = .ok (.invokevirtual 85, 3) := by decide +kernel
theorem dX7_shaken_98 : decode cX7_shaken 98 = .ok (.ireturn, 1) := by decide +kernel
def B_X7_shaken_0 (X : Nat × (Nat → Int32)) (J : Nat → zCf) (R : zRt) : zCf := oALOAD 0 (oILOAD 1 (oINV1 X M_X7_isBit 7 (oIFNE (J 14) (oALOAD 0 (oPI (zj (1)) (oINV1 X M_X7_refuse 7 (oIRET R)))))))
set_option maxRecDepth 100000 in
theorem vb_X7_shaken_0 {X : Nat × (Nat → Int32)} {R : zRt} : ∀ ls st h, B_X7_shaken_0 X (zV X M_X7_shaken (zQm M_X7_shaken R) 0 0) R ls st h → zV X M_X7_shaken (zQm M_X7_shaken R) 0 0 0 ls st h := sd_aload_n dX7_shaken_0 rfl (sd_iload_n dX7_shaken_1 rfl (sd_inv1 dX7_shaken_2 rfl mv_X7_isBit na_X7_isBit ml_RX7_97 ⟨⟨Nat.le_of_ble_eq_true rfl, Nat.le_of_ble_eq_true rfl⟩, ⟨Nat.le_of_ble_eq_true rfl, Nat.le_of_ble_eq_true rfl⟩⟩ (sd_ifne dX7_shaken_5 rfl (fun _ _ _ h => h) (sd_aload_n dX7_shaken_8 rfl (sd_iconst dX7_shaken_9 rfl (sd_inv1 dX7_shaken_10 rfl mv_X7_refuse na_X7_refuse ml_RX7_58 ⟨⟨Nat.le_of_ble_eq_true rfl, Nat.le_of_ble_eq_true rfl⟩, ⟨Nat.le_of_ble_eq_true rfl, Nat.le_of_ble_eq_true rfl⟩⟩ (sd_iret dX7_shaken_13 rfl (Nat.le_of_ble_eq_true rfl) (Nat.le_of_ble_eq_true rfl))))))))
def B_X7_shaken_14 (X : Nat × (Nat → Int32)) (J : Nat → zCf) (R : zRt) : zCf := oILOAD 2 (oILOAD 3 (oINS2 X M_X7_areShakes (oIFNE (J 28) (oALOAD 0 (oPI (zj (2)) (oINV1 X M_X7_refuse 7 (oIRET R)))))))
set_option maxRecDepth 100000 in
theorem vb_X7_shaken_14 {X : Nat × (Nat → Int32)} {R : zRt} : ∀ ls st h, B_X7_shaken_14 X (zV X M_X7_shaken (zQm M_X7_shaken R) 0 0) R ls st h → zV X M_X7_shaken (zQm M_X7_shaken R) 0 0 14 ls st h := sd_iload_n dX7_shaken_14 rfl (sd_iload_n dX7_shaken_15 rfl (sd_ins2 dX7_shaken_16 ms_X7_areShakes na_X7_areShakes ml_RX7_261 ⟨⟨Nat.le_of_ble_eq_true rfl, Nat.le_of_ble_eq_true rfl⟩, ⟨Nat.le_of_ble_eq_true rfl, Nat.le_of_ble_eq_true rfl⟩⟩ (sd_ifne dX7_shaken_19 rfl (fun _ _ _ h => h) (sd_aload_n dX7_shaken_22 rfl (sd_iconst dX7_shaken_23 rfl (sd_inv1 dX7_shaken_24 rfl mv_X7_refuse na_X7_refuse ml_RX7_58 ⟨⟨Nat.le_of_ble_eq_true rfl, Nat.le_of_ble_eq_true rfl⟩, ⟨Nat.le_of_ble_eq_true rfl, Nat.le_of_ble_eq_true rfl⟩⟩ (sd_iret dX7_shaken_27 rfl (Nat.le_of_ble_eq_true rfl) (Nat.le_of_ble_eq_true rfl))))))))
def B_X7_shaken_28 (X : Nat × (Nat → Int32)) (J : Nat → zCf) (R : zRt) : zCf := oALOAD 0 (oGETR 7 4 (oILOAD 2 (oALOAD 0 (oGETR 7 1 (oINV0 X M_X4_day 4 (oINV2 X M_X5_begin 5 (oPI (zj (0)) (oISTORE 3 4 (J 46)))))))))
set_option maxRecDepth 100000 in
theorem vb_X7_shaken_28 {X : Nat × (Nat → Int32)} {R : zRt} : ∀ ls st h, B_X7_shaken_28 X (zV X M_X7_shaken (zQm M_X7_shaken R) 0 0) R ls st h → zV X M_X7_shaken (zQm M_X7_shaken R) 0 0 28 ls st h := sd_aload_n dX7_shaken_28 rfl (sd_getr dX7_shaken_29 zCl7 (Nat.le_of_ble_eq_true rfl) lk_RX7_40 (Or.inl ⟨_, rfl⟩) (sd_iload_n dX7_shaken_32 rfl (sd_aload_n dX7_shaken_33 rfl (sd_getr dX7_shaken_34 zCl7 (Nat.le_of_ble_eq_true rfl) lk_RX7_19 (Or.inl ⟨_, rfl⟩) (sd_inv0 dX7_shaken_37 rfl mv_X4_day na_X4_day ml_RX7_264 ⟨⟨Nat.le_of_ble_eq_true rfl, Nat.le_of_ble_eq_true rfl⟩, ⟨Nat.le_of_ble_eq_true rfl, Nat.le_of_ble_eq_true rfl⟩⟩ (sd_inv2 dX7_shaken_40 rfl mv_X5_begin na_X5_begin ml_RX7_267 ⟨⟨Nat.le_of_ble_eq_true rfl, Nat.le_of_ble_eq_true rfl⟩, ⟨Nat.le_of_ble_eq_true rfl, Nat.le_of_ble_eq_true rfl⟩⟩ (sd_iconst dX7_shaken_43 rfl (sd_istore dX7_shaken_44 (Nat.le_of_ble_eq_true rfl) (Or.inl rfl) (fun _ _ _ h => h)))))))))
def B_X7_shaken_46 (X : Nat × (Nat → Int32)) (J : Nat → zCf) (R : zRt) : zCf := oILOAD 4 (oILOAD 3 (oICGE (J 72) (oALOAD 0 (oGETR 7 4 (oALOAD 0 (oGETR 7 1 (oGETR 4 0 (oINV1 X M_X5_passDay 5 (oIINC 3 4 (zj (1)) (J 46))))))))))
set_option maxRecDepth 100000 in
theorem vb_X7_shaken_46 {X : Nat × (Nat → Int32)} {R : zRt} : ∀ ls st h, B_X7_shaken_46 X (zV X M_X7_shaken (zQm M_X7_shaken R) 0 0) R ls st h → zV X M_X7_shaken (zQm M_X7_shaken R) 0 0 46 ls st h := sd_iload dX7_shaken_46 (sd_iload_n dX7_shaken_48 rfl (sd_icge dX7_shaken_49 rfl (fun _ _ _ h => h) (sd_aload_n dX7_shaken_52 rfl (sd_getr dX7_shaken_53 zCl7 (Nat.le_of_ble_eq_true rfl) lk_RX7_40 (Or.inl ⟨_, rfl⟩) (sd_aload_n dX7_shaken_56 rfl (sd_getr dX7_shaken_57 zCl7 (Nat.le_of_ble_eq_true rfl) lk_RX7_19 (Or.inl ⟨_, rfl⟩) (sd_getr dX7_shaken_60 zCl4 (Nat.le_of_ble_eq_true rfl) lk_RX7_77 (Or.inl ⟨_, rfl⟩) (sd_inv1 dX7_shaken_63 rfl mv_X5_passDay na_X5_passDay ml_RX7_270 ⟨⟨Nat.le_of_ble_eq_true rfl, Nat.le_of_ble_eq_true rfl⟩, ⟨Nat.le_of_ble_eq_true rfl, Nat.le_of_ble_eq_true rfl⟩⟩ (sd_iinc dX7_shaken_66 rfl (Nat.le_of_ble_eq_true rfl) (Or.inl rfl) (sd_goto dX7_shaken_69 rfl (fun _ _ _ h => h)))))))))))
def B_X7_shaken_72 (X : Nat × (Nat → Int32)) (J : Nat → zCf) (R : zRt) : zCf := oALOAD 0 (oALOAD 0 (oGETR 7 1 (oILOAD 1 (oALOAD 0 (oGETR 7 4 (oGETI 5 2 (oALOAD 0 (oGETR 7 4 (oGETI 5 3 (oINV3 X M_X4_cellBehind 4 (oINV1 X M_X7_answer 7 (oIRET R))))))))))))
set_option maxRecDepth 100000 in
theorem vb_X7_shaken_72 {X : Nat × (Nat → Int32)} {R : zRt} : ∀ ls st h, B_X7_shaken_72 X (zV X M_X7_shaken (zQm M_X7_shaken R) 0 0) R ls st h → zV X M_X7_shaken (zQm M_X7_shaken R) 0 0 72 ls st h := sd_aload_n dX7_shaken_72 rfl (sd_aload_n dX7_shaken_73 rfl (sd_getr dX7_shaken_74 zCl7 (Nat.le_of_ble_eq_true rfl) lk_RX7_19 (Or.inl ⟨_, rfl⟩) (sd_iload_n dX7_shaken_77 rfl (sd_aload_n dX7_shaken_78 rfl (sd_getr dX7_shaken_79 zCl7 (Nat.le_of_ble_eq_true rfl) lk_RX7_40 (Or.inl ⟨_, rfl⟩) (sd_geti dX7_shaken_82 zCl5 (Nat.le_of_ble_eq_true rfl) lk_RX7_274 (Or.inl rfl) (sd_aload_n dX7_shaken_85 rfl (sd_getr dX7_shaken_86 zCl7 (Nat.le_of_ble_eq_true rfl) lk_RX7_40 (Or.inl ⟨_, rfl⟩) (sd_geti dX7_shaken_89 zCl5 (Nat.le_of_ble_eq_true rfl) lk_RX7_277 (Or.inl rfl) (sd_inv3 dX7_shaken_92 rfl mv_X4_cellBehind na_X4_cellBehind ml_RX7_107 ⟨⟨Nat.le_of_ble_eq_true rfl, Nat.le_of_ble_eq_true rfl⟩, ⟨Nat.le_of_ble_eq_true rfl, Nat.le_of_ble_eq_true rfl⟩⟩ (sd_inv1 dX7_shaken_95 rfl mv_X7_answer na_X7_answer ml_RX7_85 ⟨⟨Nat.le_of_ble_eq_true rfl, Nat.le_of_ble_eq_true rfl⟩, ⟨Nat.le_of_ble_eq_true rfl, Nat.le_of_ble_eq_true rfl⟩⟩ (sd_iret dX7_shaken_98 rfl (Nat.le_of_ble_eq_true rfl) (Nat.le_of_ble_eq_true rfl)))))))))))))
theorem dX7_topDays_0 : decode cX7_topDays 0 = .ok (.aload_n 0, 1) := by decide +kernel
theorem dX7_topDays_1 : decode cX7_topDays 1 = .ok (.iload_n 1, 1) := by decide +kernel
theorem dX7_topDays_2 : decode cX7_topDays 2 = .ok (.invokevirtual 97, 3) := by decide +kernel
theorem dX7_topDays_5 : decode cX7_topDays 5 = .ok (.ifCond .ne 9, 3) := by decide +kernel
theorem dX7_topDays_8 : decode cX7_topDays 8 = .ok (.aload_n 0, 1) := by decide +kernel
theorem dX7_topDays_9 : decode cX7_topDays 9 = .ok (.iconst 1, 1) := by decide +kernel
theorem dX7_topDays_10 : decode cX7_topDays 10 = .ok (.invokevirtual 58, 3) := by decide +kernel
theorem dX7_topDays_13 : decode cX7_topDays 13 = .ok (.ireturn, 1) := by decide +kernel
theorem dX7_topDays_14 : decode cX7_topDays 14 = .ok (.iload_n 2, 1) := by decide +kernel
theorem dX7_topDays_15 : decode cX7_topDays 15 = .ok (.iload_n 3, 1) := by decide +kernel
theorem dX7_topDays_16 : decode cX7_topDays 16 = .ok (.invokestatic 261, 3) := by decide +kernel
theorem dX7_topDays_19 : decode cX7_topDays 19 = .ok (.ifCond .ne 9, 3) := by decide +kernel
theorem dX7_topDays_22 : decode cX7_topDays 22 = .ok (.aload_n 0, 1) := by decide +kernel
theorem dX7_topDays_23 : decode cX7_topDays 23 = .ok (.iconst 2, 1) := by decide +kernel
theorem dX7_topDays_24 : decode cX7_topDays 24 = .ok (.invokevirtual 58, 3) := by decide +kernel
theorem dX7_topDays_27 : decode cX7_topDays 27 = .ok (.ireturn, 1) := by decide +kernel
theorem dX7_topDays_28 : decode cX7_topDays 28 = .ok (.aload_n 0, 1) := by decide +kernel
theorem dX7_topDays_29 : decode cX7_topDays 29 = .ok (.getfield 40, 3) := by decide +kernel
theorem dX7_topDays_32 : decode cX7_topDays 32 = .ok (.iload_n 2, 1) := by decide +kernel
theorem dX7_topDays_33 : decode cX7_topDays 33 = .ok (.aload_n 0, 1) := by decide +kernel
theorem dX7_topDays_34 : decode cX7_topDays 34 = .ok (.getfield 19, 3) := by decide +kernel
theorem dX7_topDays_37 : decode cX7_topDays 37 = .ok (.invokevirtual 264, 3) := by decide +kernel
theorem dX7_topDays_40 : decode cX7_topDays 40 = .ok (.invokevirtual 267, 3) := by decide +kernel
theorem dX7_topDays_43 : decode cX7_topDays 43 = .ok (.iconst 0, 1) := by decide +kernel
theorem dX7_topDays_44 : decode cX7_topDays 44 = .ok (.istore 4, 2) := by decide +kernel
theorem dX7_topDays_46 : decode cX7_topDays 46 = .ok (.iconst 0, 1) := by decide +kernel
theorem dX7_topDays_47 : decode cX7_topDays 47 = .ok (.istore 5, 2) := by decide +kernel
theorem dX7_topDays_49 : decode cX7_topDays 49 = .ok (.iload 5, 2) := by decide +kernel
theorem dX7_topDays_51 : decode cX7_topDays 51 = .ok (.iload_n 3, 1) := by decide +kernel
theorem dX7_topDays_52 : decode cX7_topDays 52 = .ok (.if_icmp .ge 51, 3) := by decide +kernel
theorem dX7_topDays_55 : decode cX7_topDays 55 = .ok (.aload_n 0, 1) := by decide +kernel
theorem dX7_topDays_56 : decode cX7_topDays 56 = .ok (.getfield 40, 3) := by decide +kernel
theorem dX7_topDays_59 : decode cX7_topDays 59 = .ok (.aload_n 0, 1) := by decide +kernel
theorem dX7_topDays_60 : decode cX7_topDays 60 = .ok (.getfield 19, 3) := by decide +kernel
theorem dX7_topDays_63 : decode cX7_topDays 63 = .ok (.getfield 77, 3) := by decide +kernel
theorem dX7_topDays_66 : decode cX7_topDays 66 = .ok (.invokevirtual 270, 3) := by decide +kernel
theorem dX7_topDays_69 : decode cX7_topDays 69 = .ok (.aload_n 0, 1) := by decide +kernel
theorem dX7_topDays_70 : decode cX7_topDays 70 = .ok (.getfield 19, 3) := by decide +kernel
theorem dX7_topDays_73 : decode cX7_topDays 73 = .ok (.iload_n 1, 1) := by decide +kernel
theorem dX7_topDays_74 : decode cX7_topDays 74 = .ok (.aload_n 0, 1) := by decide +kernel
theorem dX7_topDays_75 : decode cX7_topDays 75 = .ok (.getfield 40, 3) := by decide +kernel
theorem dX7_topDays_78 : decode cX7_topDays 78 = .ok (.getfield 274, 3) := by decide +kernel
theorem dX7_topDays_81 : decode cX7_topDays 81 = .ok (.aload_n 0, 1) := by decide +kernel
theorem dX7_topDays_82 : decode cX7_topDays 82 = .ok (.getfield 40, 3) := by decide +kernel
theorem dX7_topDays_85 : decode cX7_topDays 85 = .ok (.getfield 277, 3) := by decide +kernel
theorem dX7_topDays_88 : decode cX7_topDays 88 = .ok (.invokevirtual 111, 3) := by decide +kernel
theorem dX7_topDays_91 : decode cX7_topDays 91 = .ok (.ifCond .eq 6, 3) := by decide +kernel
theorem dX7_topDays_94 : decode cX7_topDays 94 = .ok (.iinc 4 1, 3) := by decide +kernel
theorem dX7_topDays_97 : decode cX7_topDays 97 = .ok (.iinc 5 1, 3) := by decide +kernel
theorem dX7_topDays_100 : decode cX7_topDays 100 = .ok (.goto (-51), 3) := by decide +kernel
theorem dX7_topDays_103 : decode cX7_topDays 103 = .ok (.aload_n 0, 1) := by decide +kernel
theorem dX7_topDays_104 : decode cX7_topDays 104 = .ok (.iload 4, 2) := by decide +kernel
theorem dX7_topDays_106 : decode cX7_topDays 106 = .ok (.invokevirtual 85, 3) := by decide +kernel
theorem dX7_topDays_109 : decode cX7_topDays 109 = .ok (.ireturn, 1) := by decide +kernel
def B_X7_topDays_0 (X : Nat × (Nat → Int32)) (J : Nat → zCf) (R : zRt) : zCf := oALOAD 0 (oILOAD 1 (oINV1 X M_X7_isBit 7 (oIFNE (J 14) (oALOAD 0 (oPI (zj (1)) (oINV1 X M_X7_refuse 7 (oIRET R)))))))
set_option maxRecDepth 100000 in
theorem vb_X7_topDays_0 {X : Nat × (Nat → Int32)} {R : zRt} : ∀ ls st h, B_X7_topDays_0 X (zV X M_X7_topDays (zQm M_X7_topDays R) 0 0) R ls st h → zV X M_X7_topDays (zQm M_X7_topDays R) 0 0 0 ls st h := sd_aload_n dX7_topDays_0 rfl (sd_iload_n dX7_topDays_1 rfl (sd_inv1 dX7_topDays_2 rfl mv_X7_isBit na_X7_isBit ml_RX7_97 ⟨⟨Nat.le_of_ble_eq_true rfl, Nat.le_of_ble_eq_true rfl⟩, ⟨Nat.le_of_ble_eq_true rfl, Nat.le_of_ble_eq_true rfl⟩⟩ (sd_ifne dX7_topDays_5 rfl (fun _ _ _ h => h) (sd_aload_n dX7_topDays_8 rfl (sd_iconst dX7_topDays_9 rfl (sd_inv1 dX7_topDays_10 rfl mv_X7_refuse na_X7_refuse ml_RX7_58 ⟨⟨Nat.le_of_ble_eq_true rfl, Nat.le_of_ble_eq_true rfl⟩, ⟨Nat.le_of_ble_eq_true rfl, Nat.le_of_ble_eq_true rfl⟩⟩ (sd_iret dX7_topDays_13 rfl (Nat.le_of_ble_eq_true rfl) (Nat.le_of_ble_eq_true rfl))))))))
def B_X7_topDays_14 (X : Nat × (Nat → Int32)) (J : Nat → zCf) (R : zRt) : zCf := oILOAD 2 (oILOAD 3 (oINS2 X M_X7_areShakes (oIFNE (J 28) (oALOAD 0 (oPI (zj (2)) (oINV1 X M_X7_refuse 7 (oIRET R)))))))
set_option maxRecDepth 100000 in
theorem vb_X7_topDays_14 {X : Nat × (Nat → Int32)} {R : zRt} : ∀ ls st h, B_X7_topDays_14 X (zV X M_X7_topDays (zQm M_X7_topDays R) 0 0) R ls st h → zV X M_X7_topDays (zQm M_X7_topDays R) 0 0 14 ls st h := sd_iload_n dX7_topDays_14 rfl (sd_iload_n dX7_topDays_15 rfl (sd_ins2 dX7_topDays_16 ms_X7_areShakes na_X7_areShakes ml_RX7_261 ⟨⟨Nat.le_of_ble_eq_true rfl, Nat.le_of_ble_eq_true rfl⟩, ⟨Nat.le_of_ble_eq_true rfl, Nat.le_of_ble_eq_true rfl⟩⟩ (sd_ifne dX7_topDays_19 rfl (fun _ _ _ h => h) (sd_aload_n dX7_topDays_22 rfl (sd_iconst dX7_topDays_23 rfl (sd_inv1 dX7_topDays_24 rfl mv_X7_refuse na_X7_refuse ml_RX7_58 ⟨⟨Nat.le_of_ble_eq_true rfl, Nat.le_of_ble_eq_true rfl⟩, ⟨Nat.le_of_ble_eq_true rfl, Nat.le_of_ble_eq_true rfl⟩⟩ (sd_iret dX7_topDays_27 rfl (Nat.le_of_ble_eq_true rfl) (Nat.le_of_ble_eq_true rfl))))))))
def B_X7_topDays_28 (X : Nat × (Nat → Int32)) (J : Nat → zCf) (R : zRt) : zCf := oALOAD 0 (oGETR 7 4 (oILOAD 2 (oALOAD 0 (oGETR 7 1 (oINV0 X M_X4_day 4 (oINV2 X M_X5_begin 5 (oPI (zj (0)) (oISTORE 3 4 (oPI (zj (0)) (oISTORE 4 5 (J 49)))))))))))
set_option maxRecDepth 100000 in
theorem vb_X7_topDays_28 {X : Nat × (Nat → Int32)} {R : zRt} : ∀ ls st h, B_X7_topDays_28 X (zV X M_X7_topDays (zQm M_X7_topDays R) 0 0) R ls st h → zV X M_X7_topDays (zQm M_X7_topDays R) 0 0 28 ls st h := sd_aload_n dX7_topDays_28 rfl (sd_getr dX7_topDays_29 zCl7 (Nat.le_of_ble_eq_true rfl) lk_RX7_40 (Or.inl ⟨_, rfl⟩) (sd_iload_n dX7_topDays_32 rfl (sd_aload_n dX7_topDays_33 rfl (sd_getr dX7_topDays_34 zCl7 (Nat.le_of_ble_eq_true rfl) lk_RX7_19 (Or.inl ⟨_, rfl⟩) (sd_inv0 dX7_topDays_37 rfl mv_X4_day na_X4_day ml_RX7_264 ⟨⟨Nat.le_of_ble_eq_true rfl, Nat.le_of_ble_eq_true rfl⟩, ⟨Nat.le_of_ble_eq_true rfl, Nat.le_of_ble_eq_true rfl⟩⟩ (sd_inv2 dX7_topDays_40 rfl mv_X5_begin na_X5_begin ml_RX7_267 ⟨⟨Nat.le_of_ble_eq_true rfl, Nat.le_of_ble_eq_true rfl⟩, ⟨Nat.le_of_ble_eq_true rfl, Nat.le_of_ble_eq_true rfl⟩⟩ (sd_iconst dX7_topDays_43 rfl (sd_istore dX7_topDays_44 (Nat.le_of_ble_eq_true rfl) (Or.inl rfl) (sd_iconst dX7_topDays_46 rfl (sd_istore dX7_topDays_47 (Nat.le_of_ble_eq_true rfl) (Or.inl rfl) (fun _ _ _ h => h)))))))))))
def B_X7_topDays_49 (X : Nat × (Nat → Int32)) (J : Nat → zCf) (R : zRt) : zCf := oILOAD 5 (oILOAD 3 (oICGE (J 103) (oALOAD 0 (oGETR 7 4 (oALOAD 0 (oGETR 7 1 (oGETR 4 0 (oINV1 X M_X5_passDay 5 (oALOAD 0 (oGETR 7 1 (oILOAD 1 (oALOAD 0 (oGETR 7 4 (oGETI 5 2 (oALOAD 0 (oGETR 7 4 (oGETI 5 3 (oINV3 X M_X4_isTop 4 (oIFEQ (J 97) (oIINC 3 4 (zj (1)) (J 97)))))))))))))))))))))
set_option maxRecDepth 100000 in
theorem vb_X7_topDays_49 {X : Nat × (Nat → Int32)} {R : zRt} : ∀ ls st h, B_X7_topDays_49 X (zV X M_X7_topDays (zQm M_X7_topDays R) 0 0) R ls st h → zV X M_X7_topDays (zQm M_X7_topDays R) 0 0 49 ls st h := sd_iload dX7_topDays_49 (sd_iload_n dX7_topDays_51 rfl (sd_icge dX7_topDays_52 rfl (fun _ _ _ h => h) (sd_aload_n dX7_topDays_55 rfl (sd_getr dX7_topDays_56 zCl7 (Nat.le_of_ble_eq_true rfl) lk_RX7_40 (Or.inl ⟨_, rfl⟩) (sd_aload_n dX7_topDays_59 rfl (sd_getr dX7_topDays_60 zCl7 (Nat.le_of_ble_eq_true rfl) lk_RX7_19 (Or.inl ⟨_, rfl⟩) (sd_getr dX7_topDays_63 zCl4 (Nat.le_of_ble_eq_true rfl) lk_RX7_77 (Or.inl ⟨_, rfl⟩) (sd_inv1 dX7_topDays_66 rfl mv_X5_passDay na_X5_passDay ml_RX7_270 ⟨⟨Nat.le_of_ble_eq_true rfl, Nat.le_of_ble_eq_true rfl⟩, ⟨Nat.le_of_ble_eq_true rfl, Nat.le_of_ble_eq_true rfl⟩⟩ (sd_aload_n dX7_topDays_69 rfl (sd_getr dX7_topDays_70 zCl7 (Nat.le_of_ble_eq_true rfl) lk_RX7_19 (Or.inl ⟨_, rfl⟩) (sd_iload_n dX7_topDays_73 rfl (sd_aload_n dX7_topDays_74 rfl (sd_getr dX7_topDays_75 zCl7 (Nat.le_of_ble_eq_true rfl) lk_RX7_40 (Or.inl ⟨_, rfl⟩) (sd_geti dX7_topDays_78 zCl5 (Nat.le_of_ble_eq_true rfl) lk_RX7_274 (Or.inl rfl) (sd_aload_n dX7_topDays_81 rfl (sd_getr dX7_topDays_82 zCl7 (Nat.le_of_ble_eq_true rfl) lk_RX7_40 (Or.inl ⟨_, rfl⟩) (sd_geti dX7_topDays_85 zCl5 (Nat.le_of_ble_eq_true rfl) lk_RX7_277 (Or.inl rfl) (sd_inv3 dX7_topDays_88 rfl mv_X4_isTop na_X4_isTop ml_RX7_111 ⟨⟨Nat.le_of_ble_eq_true rfl, Nat.le_of_ble_eq_true rfl⟩, ⟨Nat.le_of_ble_eq_true rfl, Nat.le_of_ble_eq_true rfl⟩⟩ (sd_ifeq dX7_topDays_91 rfl (fun _ _ _ h => h) (sd_iinc dX7_topDays_94 rfl (Nat.le_of_ble_eq_true rfl) (Or.inl rfl) (fun _ _ _ h => h)))))))))))))))))))))
def B_X7_topDays_97 (X : Nat × (Nat → Int32)) (J : Nat → zCf) (R : zRt) : zCf := oIINC 4 5 (zj (1)) (J 49)
set_option maxRecDepth 100000 in
theorem vb_X7_topDays_97 {X : Nat × (Nat → Int32)} {R : zRt} : ∀ ls st h, B_X7_topDays_97 X (zV X M_X7_topDays (zQm M_X7_topDays R) 0 0) R ls st h → zV X M_X7_topDays (zQm M_X7_topDays R) 0 0 97 ls st h := sd_iinc dX7_topDays_97 rfl (Nat.le_of_ble_eq_true rfl) (Or.inl rfl) (sd_goto dX7_topDays_100 rfl (fun _ _ _ h => h))
def B_X7_topDays_103 (X : Nat × (Nat → Int32)) (J : Nat → zCf) (R : zRt) : zCf := oALOAD 0 (oILOAD 4 (oINV1 X M_X7_answer 7 (oIRET R)))
set_option maxRecDepth 100000 in
theorem vb_X7_topDays_103 {X : Nat × (Nat → Int32)} {R : zRt} : ∀ ls st h, B_X7_topDays_103 X (zV X M_X7_topDays (zQm M_X7_topDays R) 0 0) R ls st h → zV X M_X7_topDays (zQm M_X7_topDays R) 0 0 103 ls st h := sd_aload_n dX7_topDays_103 rfl (sd_iload dX7_topDays_104 (sd_inv1 dX7_topDays_106 rfl mv_X7_answer na_X7_answer ml_RX7_85 ⟨⟨Nat.le_of_ble_eq_true rfl, Nat.le_of_ble_eq_true rfl⟩, ⟨Nat.le_of_ble_eq_true rfl, Nat.le_of_ble_eq_true rfl⟩⟩ (sd_iret dX7_topDays_109 rfl (Nat.le_of_ble_eq_true rfl) (Nat.le_of_ble_eq_true rfl))))
theorem dX7_rightDays_0 : decode cX7_rightDays 0 = .ok (.aload_n 0, 1) := by decide +kernel
theorem dX7_rightDays_1 : decode cX7_rightDays 1 = .ok (.invokevirtual 124, 3) := by decide +kernel
theorem dX7_rightDays_4 : decode cX7_rightDays 4 = .ok (.ifCond .eq 9, 3) := by decide +kernel
theorem dX7_rightDays_7 : decode cX7_rightDays 7 = .ok (.aload_n 0, 1) := by decide +kernel
theorem dX7_rightDays_8 : decode cX7_rightDays 8 = .ok (.iconst 1, 1) := by decide +kernel
theorem dX7_rightDays_9 : decode cX7_rightDays 9 = .ok (.invokevirtual 58, 3) := by decide +kernel
theorem dX7_rightDays_12 : decode cX7_rightDays 12 = .ok (.ireturn, 1) := by decide +kernel
theorem dX7_rightDays_13 : decode cX7_rightDays 13 = .ok (.iload_n 1, 1) := by decide +kernel
theorem dX7_rightDays_14 : decode cX7_rightDays 14 = .ok (.iload_n 2, 1) := by decide +kernel
theorem dX7_rightDays_15 : decode cX7_rightDays 15 = .ok (.invokestatic 261, 3) := by decide +kernel
theorem dX7_rightDays_18 : decode cX7_rightDays 18 = .ok (.ifCond .ne 9, 3) := by decide +kernel
theorem dX7_rightDays_21 : decode cX7_rightDays 21 = .ok (.aload_n 0, 1) := by decide +kernel
theorem dX7_rightDays_22 : decode cX7_rightDays 22 = .ok (.iconst 2, 1) := by decide +kernel
theorem dX7_rightDays_23 : decode cX7_rightDays 23 = .ok (.invokevirtual 58, 3) := by decide +kernel
theorem dX7_rightDays_26 : decode cX7_rightDays 26 = .ok (.ireturn, 1) := by decide +kernel
theorem dX7_rightDays_27 : decode cX7_rightDays 27 = .ok (.aload_n 0, 1) := by decide +kernel
theorem dX7_rightDays_28 : decode cX7_rightDays 28 = .ok (.getfield 40, 3) := by decide +kernel
theorem dX7_rightDays_31 : decode cX7_rightDays 31 = .ok (.iload_n 1, 1) := by decide +kernel
theorem dX7_rightDays_32 : decode cX7_rightDays 32 = .ok (.aload_n 0, 1) := by decide +kernel
theorem dX7_rightDays_33 : decode cX7_rightDays 33 = .ok (.getfield 19, 3) := by decide +kernel
theorem dX7_rightDays_36 : decode cX7_rightDays 36 = .ok (.invokevirtual 264, 3) := by decide +kernel
theorem dX7_rightDays_39 : decode cX7_rightDays 39 = .ok (.invokevirtual 267, 3) := by decide +kernel
theorem dX7_rightDays_42 : decode cX7_rightDays 42 = .ok (.iconst 0, 1) := by decide +kernel
theorem dX7_rightDays_43 : decode cX7_rightDays 43 = .ok (.istore_n 3, 1) := by decide +kernel
theorem dX7_rightDays_44 : decode cX7_rightDays 44 = .ok (.iconst 0, 1) := by decide +kernel
theorem dX7_rightDays_45 : decode cX7_rightDays 45 = .ok (.istore 4, 2) := by decide +kernel
theorem dX7_rightDays_47 : decode cX7_rightDays 47 = .ok (.iload 4, 2) := by decide +kernel
theorem dX7_rightDays_49 : decode cX7_rightDays 49 = .ok (.iload_n 2, 1) := by decide +kernel
theorem dX7_rightDays_50 : decode cX7_rightDays 50 = .ok (.if_icmp .ge 50, 3) := by decide +kernel
theorem dX7_rightDays_53 : decode cX7_rightDays 53 = .ok (.aload_n 0, 1) := by decide +kernel
theorem dX7_rightDays_54 : decode cX7_rightDays 54 = .ok (.getfield 40, 3) := by decide +kernel
theorem dX7_rightDays_57 : decode cX7_rightDays 57 = .ok (.aload_n 0, 1) := by decide +kernel
theorem dX7_rightDays_58 : decode cX7_rightDays 58 = .ok (.getfield 19, 3) := by decide +kernel
theorem dX7_rightDays_61 : decode cX7_rightDays 61 = .ok (.getfield 77, 3) := by decide +kernel
theorem dX7_rightDays_64 : decode cX7_rightDays 64 = .ok (.invokevirtual 270, 3) := by decide +kernel
theorem dX7_rightDays_67 : decode cX7_rightDays 67 = .ok (.aload_n 0, 1) := by decide +kernel
theorem dX7_rightDays_68 : decode cX7_rightDays 68 = .ok (.getfield 19, 3) := by decide +kernel
theorem dX7_rightDays_71 : decode cX7_rightDays 71 = .ok (.aload_n 0, 1) := by decide +kernel
theorem dX7_rightDays_72 : decode cX7_rightDays 72 = .ok (.getfield 40, 3) := by decide +kernel
theorem dX7_rightDays_75 : decode cX7_rightDays 75 = .ok (.getfield 274, 3) := by decide +kernel
theorem dX7_rightDays_78 : decode cX7_rightDays 78 = .ok (.aload_n 0, 1) := by decide +kernel
theorem dX7_rightDays_79 : decode cX7_rightDays 79 = .ok (.getfield 40, 3) := by decide +kernel
theorem dX7_rightDays_82 : decode cX7_rightDays 82 = .ok (.getfield 277, 3) := by decide +kernel
theorem dX7_rightDays_85 : decode cX7_rightDays 85 = .ok (.invokevirtual 280, 3) := by decide +kernel
theorem dX7_rightDays_88 : decode cX7_rightDays 88 = .ok (.ifCond .eq 6, 3) := by decide +kernel
theorem dX7_rightDays_91 : decode cX7_rightDays 91 = .ok (.iinc 3 1, 3) := by decide +kernel
theorem dX7_rightDays_94 : decode cX7_rightDays 94 = .ok (.iinc 4 1, 3) := by decide +kernel
theorem dX7_rightDays_97 : decode cX7_rightDays 97 = .ok (.goto (-50), 3) := by decide +kernel
theorem dX7_rightDays_100 : decode cX7_rightDays 100 = .ok (.aload_n 0, 1) := by decide +kernel
theorem dX7_rightDays_101 : decode cX7_rightDays 101 = .ok (.iload_n 3, 1) := by decide +kernel
theorem dX7_rightDays_102 : decode cX7_rightDays 102 = .ok (.invokevirtual 85, 3) := by decide +kernel
theorem dX7_rightDays_105 : decode cX7_rightDays 105 = .ok (.ireturn, 1) := by decide +kernel
def B_X7_rightDays_0 (X : Nat × (Nat → Int32)) (J : Nat → zCf) (R : zRt) : zCf := oALOAD 0 (oINV0 X M_X7_noTube 7 (oIFEQ (J 13) (oALOAD 0 (oPI (zj (1)) (oINV1 X M_X7_refuse 7 (oIRET R))))))
set_option maxRecDepth 100000 in
theorem vb_X7_rightDays_0 {X : Nat × (Nat → Int32)} {R : zRt} : ∀ ls st h, B_X7_rightDays_0 X (zV X M_X7_rightDays (zQm M_X7_rightDays R) 0 0) R ls st h → zV X M_X7_rightDays (zQm M_X7_rightDays R) 0 0 0 ls st h := sd_aload_n dX7_rightDays_0 rfl (sd_inv0 dX7_rightDays_1 rfl mv_X7_noTube na_X7_noTube ml_RX7_124 ⟨⟨Nat.le_of_ble_eq_true rfl, Nat.le_of_ble_eq_true rfl⟩, ⟨Nat.le_of_ble_eq_true rfl, Nat.le_of_ble_eq_true rfl⟩⟩ (sd_ifeq dX7_rightDays_4 rfl (fun _ _ _ h => h) (sd_aload_n dX7_rightDays_7 rfl (sd_iconst dX7_rightDays_8 rfl (sd_inv1 dX7_rightDays_9 rfl mv_X7_refuse na_X7_refuse ml_RX7_58 ⟨⟨Nat.le_of_ble_eq_true rfl, Nat.le_of_ble_eq_true rfl⟩, ⟨Nat.le_of_ble_eq_true rfl, Nat.le_of_ble_eq_true rfl⟩⟩ (sd_iret dX7_rightDays_12 rfl (Nat.le_of_ble_eq_true rfl) (Nat.le_of_ble_eq_true rfl)))))))
def B_X7_rightDays_13 (X : Nat × (Nat → Int32)) (J : Nat → zCf) (R : zRt) : zCf := oILOAD 1 (oILOAD 2 (oINS2 X M_X7_areShakes (oIFNE (J 27) (oALOAD 0 (oPI (zj (2)) (oINV1 X M_X7_refuse 7 (oIRET R)))))))
set_option maxRecDepth 100000 in
theorem vb_X7_rightDays_13 {X : Nat × (Nat → Int32)} {R : zRt} : ∀ ls st h, B_X7_rightDays_13 X (zV X M_X7_rightDays (zQm M_X7_rightDays R) 0 0) R ls st h → zV X M_X7_rightDays (zQm M_X7_rightDays R) 0 0 13 ls st h := sd_iload_n dX7_rightDays_13 rfl (sd_iload_n dX7_rightDays_14 rfl (sd_ins2 dX7_rightDays_15 ms_X7_areShakes na_X7_areShakes ml_RX7_261 ⟨⟨Nat.le_of_ble_eq_true rfl, Nat.le_of_ble_eq_true rfl⟩, ⟨Nat.le_of_ble_eq_true rfl, Nat.le_of_ble_eq_true rfl⟩⟩ (sd_ifne dX7_rightDays_18 rfl (fun _ _ _ h => h) (sd_aload_n dX7_rightDays_21 rfl (sd_iconst dX7_rightDays_22 rfl (sd_inv1 dX7_rightDays_23 rfl mv_X7_refuse na_X7_refuse ml_RX7_58 ⟨⟨Nat.le_of_ble_eq_true rfl, Nat.le_of_ble_eq_true rfl⟩, ⟨Nat.le_of_ble_eq_true rfl, Nat.le_of_ble_eq_true rfl⟩⟩ (sd_iret dX7_rightDays_26 rfl (Nat.le_of_ble_eq_true rfl) (Nat.le_of_ble_eq_true rfl))))))))
def B_X7_rightDays_27 (X : Nat × (Nat → Int32)) (J : Nat → zCf) (R : zRt) : zCf := oALOAD 0 (oGETR 7 4 (oILOAD 1 (oALOAD 0 (oGETR 7 1 (oINV0 X M_X4_day 4 (oINV2 X M_X5_begin 5 (oPI (zj (0)) (oISTORE 2 3 (oPI (zj (0)) (oISTORE 3 4 (J 47)))))))))))
set_option maxRecDepth 100000 in
theorem vb_X7_rightDays_27 {X : Nat × (Nat → Int32)} {R : zRt} : ∀ ls st h, B_X7_rightDays_27 X (zV X M_X7_rightDays (zQm M_X7_rightDays R) 0 0) R ls st h → zV X M_X7_rightDays (zQm M_X7_rightDays R) 0 0 27 ls st h := sd_aload_n dX7_rightDays_27 rfl (sd_getr dX7_rightDays_28 zCl7 (Nat.le_of_ble_eq_true rfl) lk_RX7_40 (Or.inl ⟨_, rfl⟩) (sd_iload_n dX7_rightDays_31 rfl (sd_aload_n dX7_rightDays_32 rfl (sd_getr dX7_rightDays_33 zCl7 (Nat.le_of_ble_eq_true rfl) lk_RX7_19 (Or.inl ⟨_, rfl⟩) (sd_inv0 dX7_rightDays_36 rfl mv_X4_day na_X4_day ml_RX7_264 ⟨⟨Nat.le_of_ble_eq_true rfl, Nat.le_of_ble_eq_true rfl⟩, ⟨Nat.le_of_ble_eq_true rfl, Nat.le_of_ble_eq_true rfl⟩⟩ (sd_inv2 dX7_rightDays_39 rfl mv_X5_begin na_X5_begin ml_RX7_267 ⟨⟨Nat.le_of_ble_eq_true rfl, Nat.le_of_ble_eq_true rfl⟩, ⟨Nat.le_of_ble_eq_true rfl, Nat.le_of_ble_eq_true rfl⟩⟩ (sd_iconst dX7_rightDays_42 rfl (sd_istore_n dX7_rightDays_43 rfl (Nat.le_of_ble_eq_true rfl) (Or.inl rfl) (sd_iconst dX7_rightDays_44 rfl (sd_istore dX7_rightDays_45 (Nat.le_of_ble_eq_true rfl) (Or.inl rfl) (fun _ _ _ h => h)))))))))))
def B_X7_rightDays_47 (X : Nat × (Nat → Int32)) (J : Nat → zCf) (R : zRt) : zCf := oILOAD 4 (oILOAD 2 (oICGE (J 100) (oALOAD 0 (oGETR 7 4 (oALOAD 0 (oGETR 7 1 (oGETR 4 0 (oINV1 X M_X5_passDay 5 (oALOAD 0 (oGETR 7 1 (oALOAD 0 (oGETR 7 4 (oGETI 5 2 (oALOAD 0 (oGETR 7 4 (oGETI 5 3 (oINV2 X M_X4_allRight 4 (oIFEQ (J 94) (oIINC 2 3 (zj (1)) (J 94))))))))))))))))))))
set_option maxRecDepth 100000 in
theorem vb_X7_rightDays_47 {X : Nat × (Nat → Int32)} {R : zRt} : ∀ ls st h, B_X7_rightDays_47 X (zV X M_X7_rightDays (zQm M_X7_rightDays R) 0 0) R ls st h → zV X M_X7_rightDays (zQm M_X7_rightDays R) 0 0 47 ls st h := sd_iload dX7_rightDays_47 (sd_iload_n dX7_rightDays_49 rfl (sd_icge dX7_rightDays_50 rfl (fun _ _ _ h => h) (sd_aload_n dX7_rightDays_53 rfl (sd_getr dX7_rightDays_54 zCl7 (Nat.le_of_ble_eq_true rfl) lk_RX7_40 (Or.inl ⟨_, rfl⟩) (sd_aload_n dX7_rightDays_57 rfl (sd_getr dX7_rightDays_58 zCl7 (Nat.le_of_ble_eq_true rfl) lk_RX7_19 (Or.inl ⟨_, rfl⟩) (sd_getr dX7_rightDays_61 zCl4 (Nat.le_of_ble_eq_true rfl) lk_RX7_77 (Or.inl ⟨_, rfl⟩) (sd_inv1 dX7_rightDays_64 rfl mv_X5_passDay na_X5_passDay ml_RX7_270 ⟨⟨Nat.le_of_ble_eq_true rfl, Nat.le_of_ble_eq_true rfl⟩, ⟨Nat.le_of_ble_eq_true rfl, Nat.le_of_ble_eq_true rfl⟩⟩ (sd_aload_n dX7_rightDays_67 rfl (sd_getr dX7_rightDays_68 zCl7 (Nat.le_of_ble_eq_true rfl) lk_RX7_19 (Or.inl ⟨_, rfl⟩) (sd_aload_n dX7_rightDays_71 rfl (sd_getr dX7_rightDays_72 zCl7 (Nat.le_of_ble_eq_true rfl) lk_RX7_40 (Or.inl ⟨_, rfl⟩) (sd_geti dX7_rightDays_75 zCl5 (Nat.le_of_ble_eq_true rfl) lk_RX7_274 (Or.inl rfl) (sd_aload_n dX7_rightDays_78 rfl (sd_getr dX7_rightDays_79 zCl7 (Nat.le_of_ble_eq_true rfl) lk_RX7_40 (Or.inl ⟨_, rfl⟩) (sd_geti dX7_rightDays_82 zCl5 (Nat.le_of_ble_eq_true rfl) lk_RX7_277 (Or.inl rfl) (sd_inv2 dX7_rightDays_85 rfl mv_X4_allRight na_X4_allRight ml_RX7_280 ⟨⟨Nat.le_of_ble_eq_true rfl, Nat.le_of_ble_eq_true rfl⟩, ⟨Nat.le_of_ble_eq_true rfl, Nat.le_of_ble_eq_true rfl⟩⟩ (sd_ifeq dX7_rightDays_88 rfl (fun _ _ _ h => h) (sd_iinc dX7_rightDays_91 rfl (Nat.le_of_ble_eq_true rfl) (Or.inl rfl) (fun _ _ _ h => h))))))))))))))))))))
def B_X7_rightDays_94 (X : Nat × (Nat → Int32)) (J : Nat → zCf) (R : zRt) : zCf := oIINC 3 4 (zj (1)) (J 47)
set_option maxRecDepth 100000 in
theorem vb_X7_rightDays_94 {X : Nat × (Nat → Int32)} {R : zRt} : ∀ ls st h, B_X7_rightDays_94 X (zV X M_X7_rightDays (zQm M_X7_rightDays R) 0 0) R ls st h → zV X M_X7_rightDays (zQm M_X7_rightDays R) 0 0 94 ls st h := sd_iinc dX7_rightDays_94 rfl (Nat.le_of_ble_eq_true rfl) (Or.inl rfl) (sd_goto dX7_rightDays_97 rfl (fun _ _ _ h => h))
def B_X7_rightDays_100 (X : Nat × (Nat → Int32)) (J : Nat → zCf) (R : zRt) : zCf := oALOAD 0 (oILOAD 3 (oINV1 X M_X7_answer 7 (oIRET R)))
set_option maxRecDepth 100000 in
theorem vb_X7_rightDays_100 {X : Nat × (Nat → Int32)} {R : zRt} : ∀ ls st h, B_X7_rightDays_100 X (zV X M_X7_rightDays (zQm M_X7_rightDays R) 0 0) R ls st h → zV X M_X7_rightDays (zQm M_X7_rightDays R) 0 0 100 ls st h := sd_aload_n dX7_rightDays_100 rfl (sd_iload_n dX7_rightDays_101 rfl (sd_inv1 dX7_rightDays_102 rfl mv_X7_answer na_X7_answer ml_RX7_85 ⟨⟨Nat.le_of_ble_eq_true rfl, Nat.le_of_ble_eq_true rfl⟩, ⟨Nat.le_of_ble_eq_true rfl, Nat.le_of_ble_eq_true rfl⟩⟩ (sd_iret dX7_rightDays_105 rfl (Nat.le_of_ble_eq_true rfl) (Nat.le_of_ble_eq_true rfl))))
theorem dX7_turn_0 : decode cX7_turn 0 = .ok (.aload_n 0, 1) := by decide +kernel
theorem dX7_turn_1 : decode cX7_turn 1 = .ok (.invokevirtual 124, 3) := by decide +kernel
theorem dX7_turn_4 : decode cX7_turn 4 = .ok (.ifCond .eq 9, 3) := by decide +kernel
theorem dX7_turn_7 : decode cX7_turn 7 = .ok (.aload_n 0, 1) := by decide +kernel
theorem dX7_turn_8 : decode cX7_turn 8 = .ok (.iconst 1, 1) := by decide +kernel
theorem dX7_turn_9 : decode cX7_turn 9 = .ok (.invokevirtual 58, 3) := by decide +kernel
theorem dX7_turn_12 : decode cX7_turn 12 = .ok (.ireturn, 1) := by decide +kernel
theorem dX7_turn_13 : decode cX7_turn 13 = .ok (.iload_n 1, 1) := by decide +kernel
theorem dX7_turn_14 : decode cX7_turn 14 = .ok (.ifCond .eq 10, 3) := by decide +kernel
theorem dX7_turn_17 : decode cX7_turn 17 = .ok (.iload_n 1, 1) := by decide +kernel
theorem dX7_turn_18 : decode cX7_turn 18 = .ok (.invokestatic 151, 3) := by decide +kernel
theorem dX7_turn_21 : decode cX7_turn 21 = .ok (.ifCond .ne 9, 3) := by decide +kernel
theorem dX7_turn_24 : decode cX7_turn 24 = .ok (.aload_n 0, 1) := by decide +kernel
theorem dX7_turn_25 : decode cX7_turn 25 = .ok (.iconst 2, 1) := by decide +kernel
theorem dX7_turn_26 : decode cX7_turn 26 = .ok (.invokevirtual 58, 3) := by decide +kernel
theorem dX7_turn_29 : decode cX7_turn 29 = .ok (.ireturn, 1) := by decide +kernel
theorem dX7_turn_30 : decode cX7_turn 30 = .ok (.aload_n 0, 1) := by decide +kernel
theorem dX7_turn_31 : decode cX7_turn 31 = .ok (.getfield 19, 3) := by decide +kernel
theorem dX7_turn_34 : decode cX7_turn 34 = .ok (.getfield 77, 3) := by decide +kernel
theorem dX7_turn_37 : decode cX7_turn 37 = .ok (.aload_n 0, 1) := by decide +kernel
theorem dX7_turn_38 : decode cX7_turn 38 = .ok (.getfield 19, 3) := by decide +kernel
theorem dX7_turn_41 : decode cX7_turn 41 = .ok (.invokevirtual 264, 3) := by decide +kernel
theorem dX7_turn_44 : decode cX7_turn 44 = .ok (.invokevirtual 283, 3) := by decide +kernel
theorem dX7_turn_47 : decode cX7_turn 47 = .ok (.ifCond .eq 9, 3) := by decide +kernel
theorem dX7_turn_50 : decode cX7_turn 50 = .ok (.aload_n 0, 1) := by decide +kernel
theorem dX7_turn_51 : decode cX7_turn 51 = .ok (.iconst 5, 1) := by decide +kernel
theorem dX7_turn_52 : decode cX7_turn 52 = .ok (.invokevirtual 58, 3) := by decide +kernel
theorem dX7_turn_55 : decode cX7_turn 55 = .ok (.ireturn, 1) := by decide +kernel
theorem dX7_turn_56 : decode cX7_turn 56 = .ok (.aload_n 0, 1) := by decide +kernel
theorem dX7_turn_57 : decode cX7_turn 57 = .ok (.getfield 26, 3) := by decide +kernel
theorem dX7_turn_60 : decode cX7_turn 60 = .ok (.aload_n 0, 1) := by decide +kernel
theorem dX7_turn_61 : decode cX7_turn 61 = .ok (.getfield 19, 3) := by decide +kernel
theorem dX7_turn_64 : decode cX7_turn 64 = .ok (.getfield 286, 3) := by decide +kernel
theorem dX7_turn_67 : decode cX7_turn 67 = .ok (.invokevirtual 289, 3) := by decide +kernel
theorem dX7_turn_70 : decode cX7_turn 70 = .ok (.aload_n 0, 1) := by decide +kernel
theorem dX7_turn_71 : decode cX7_turn 71 = .ok (.getfield 19, 3) := by decide +kernel
theorem dX7_turn_74 : decode cX7_turn 74 = .ok (.iload_n 1, 1) := by decide +kernel
theorem dX7_turn_75 : decode cX7_turn 75 = .ok (.invokevirtual 293, 3) := by decide +kernel
theorem dX7_turn_78 : decode cX7_turn 78 = .ok (.aload_n 0, 1) := by decide +kernel
theorem dX7_turn_79 : decode cX7_turn 79 = .ok (.aload_n 0, 1) := by decide +kernel
theorem dX7_turn_80 : decode cX7_turn 80 = .ok (.getfield 19, 3) := by decide +kernel
theorem dX7_turn_83 : decode cX7_turn 83 = .ok (.iconst 0, 1) := by decide +kernel
theorem dX7_turn_84 : decode cX7_turn 84 = .ok (.iconst 0, 1) := by decide +kernel
theorem dX7_turn_85 : decode cX7_turn 85 = .ok (.invokevirtual 157, 3) := by decide +kernel
theorem dX7_turn_88 : decode cX7_turn 88 = .ok (.invokevirtual 85, 3) := by decide +kernel
theorem dX7_turn_91 : decode cX7_turn 91 = .ok (.ireturn, 1) := by decide +kernel
def B_X7_turn_0 (X : Nat × (Nat → Int32)) (J : Nat → zCf) (R : zRt) : zCf := oALOAD 0 (oINV0 X M_X7_noTube 7 (oIFEQ (J 13) (oALOAD 0 (oPI (zj (1)) (oINV1 X M_X7_refuse 7 (oIRET R))))))
set_option maxRecDepth 100000 in
theorem vb_X7_turn_0 {X : Nat × (Nat → Int32)} {R : zRt} : ∀ ls st h, B_X7_turn_0 X (zV X M_X7_turn (zQm M_X7_turn R) 0 0) R ls st h → zV X M_X7_turn (zQm M_X7_turn R) 0 0 0 ls st h := sd_aload_n dX7_turn_0 rfl (sd_inv0 dX7_turn_1 rfl mv_X7_noTube na_X7_noTube ml_RX7_124 ⟨⟨Nat.le_of_ble_eq_true rfl, Nat.le_of_ble_eq_true rfl⟩, ⟨Nat.le_of_ble_eq_true rfl, Nat.le_of_ble_eq_true rfl⟩⟩ (sd_ifeq dX7_turn_4 rfl (fun _ _ _ h => h) (sd_aload_n dX7_turn_7 rfl (sd_iconst dX7_turn_8 rfl (sd_inv1 dX7_turn_9 rfl mv_X7_refuse na_X7_refuse ml_RX7_58 ⟨⟨Nat.le_of_ble_eq_true rfl, Nat.le_of_ble_eq_true rfl⟩, ⟨Nat.le_of_ble_eq_true rfl, Nat.le_of_ble_eq_true rfl⟩⟩ (sd_iret dX7_turn_12 rfl (Nat.le_of_ble_eq_true rfl) (Nat.le_of_ble_eq_true rfl)))))))
def B_X7_turn_13 (X : Nat × (Nat → Int32)) (J : Nat → zCf) (R : zRt) : zCf := oILOAD 1 (oIFEQ (J 24) (oILOAD 1 (oINS1 X M_X7_isTurn (oIFNE (J 30) (J 24)))))
set_option maxRecDepth 100000 in
theorem vb_X7_turn_13 {X : Nat × (Nat → Int32)} {R : zRt} : ∀ ls st h, B_X7_turn_13 X (zV X M_X7_turn (zQm M_X7_turn R) 0 0) R ls st h → zV X M_X7_turn (zQm M_X7_turn R) 0 0 13 ls st h := sd_iload_n dX7_turn_13 rfl (sd_ifeq dX7_turn_14 rfl (fun _ _ _ h => h) (sd_iload_n dX7_turn_17 rfl (sd_ins1 dX7_turn_18 ms_X7_isTurn na_X7_isTurn ml_RX7_151 ⟨⟨Nat.le_of_ble_eq_true rfl, Nat.le_of_ble_eq_true rfl⟩, ⟨Nat.le_of_ble_eq_true rfl, Nat.le_of_ble_eq_true rfl⟩⟩ (sd_ifne dX7_turn_21 rfl (fun _ _ _ h => h) (fun _ _ _ h => h)))))
def B_X7_turn_24 (X : Nat × (Nat → Int32)) (J : Nat → zCf) (R : zRt) : zCf := oALOAD 0 (oPI (zj (2)) (oINV1 X M_X7_refuse 7 (oIRET R)))
set_option maxRecDepth 100000 in
theorem vb_X7_turn_24 {X : Nat × (Nat → Int32)} {R : zRt} : ∀ ls st h, B_X7_turn_24 X (zV X M_X7_turn (zQm M_X7_turn R) 0 0) R ls st h → zV X M_X7_turn (zQm M_X7_turn R) 0 0 24 ls st h := sd_aload_n dX7_turn_24 rfl (sd_iconst dX7_turn_25 rfl (sd_inv1 dX7_turn_26 rfl mv_X7_refuse na_X7_refuse ml_RX7_58 ⟨⟨Nat.le_of_ble_eq_true rfl, Nat.le_of_ble_eq_true rfl⟩, ⟨Nat.le_of_ble_eq_true rfl, Nat.le_of_ble_eq_true rfl⟩⟩ (sd_iret dX7_turn_29 rfl (Nat.le_of_ble_eq_true rfl) (Nat.le_of_ble_eq_true rfl))))
def B_X7_turn_30 (X : Nat × (Nat → Int32)) (J : Nat → zCf) (R : zRt) : zCf := oALOAD 0 (oGETR 7 1 (oGETR 4 0 (oALOAD 0 (oGETR 7 1 (oINV0 X M_X4_day 4 (oINV1 X M_X1_isHoliday 1 (oIFEQ (J 56) (oALOAD 0 (oPI (zj (5)) (oINV1 X M_X7_refuse 7 (oIRET R)))))))))))
set_option maxRecDepth 100000 in
theorem vb_X7_turn_30 {X : Nat × (Nat → Int32)} {R : zRt} : ∀ ls st h, B_X7_turn_30 X (zV X M_X7_turn (zQm M_X7_turn R) 0 0) R ls st h → zV X M_X7_turn (zQm M_X7_turn R) 0 0 30 ls st h := sd_aload_n dX7_turn_30 rfl (sd_getr dX7_turn_31 zCl7 (Nat.le_of_ble_eq_true rfl) lk_RX7_19 (Or.inl ⟨_, rfl⟩) (sd_getr dX7_turn_34 zCl4 (Nat.le_of_ble_eq_true rfl) lk_RX7_77 (Or.inl ⟨_, rfl⟩) (sd_aload_n dX7_turn_37 rfl (sd_getr dX7_turn_38 zCl7 (Nat.le_of_ble_eq_true rfl) lk_RX7_19 (Or.inl ⟨_, rfl⟩) (sd_inv0 dX7_turn_41 rfl mv_X4_day na_X4_day ml_RX7_264 ⟨⟨Nat.le_of_ble_eq_true rfl, Nat.le_of_ble_eq_true rfl⟩, ⟨Nat.le_of_ble_eq_true rfl, Nat.le_of_ble_eq_true rfl⟩⟩ (sd_inv1 dX7_turn_44 rfl mv_X1_isHoliday na_X1_isHoliday ml_RX7_283 ⟨⟨Nat.le_of_ble_eq_true rfl, Nat.le_of_ble_eq_true rfl⟩, ⟨Nat.le_of_ble_eq_true rfl, Nat.le_of_ble_eq_true rfl⟩⟩ (sd_ifeq dX7_turn_47 rfl (fun _ _ _ h => h) (sd_aload_n dX7_turn_50 rfl (sd_iconst dX7_turn_51 rfl (sd_inv1 dX7_turn_52 rfl mv_X7_refuse na_X7_refuse ml_RX7_58 ⟨⟨Nat.le_of_ble_eq_true rfl, Nat.le_of_ble_eq_true rfl⟩, ⟨Nat.le_of_ble_eq_true rfl, Nat.le_of_ble_eq_true rfl⟩⟩ (sd_iret dX7_turn_55 rfl (Nat.le_of_ble_eq_true rfl) (Nat.le_of_ble_eq_true rfl))))))))))))
def B_X7_turn_56 (X : Nat × (Nat → Int32)) (J : Nat → zCf) (R : zRt) : zCf := oALOAD 0 (oGETR 7 2 (oALOAD 0 (oGETR 7 1 (oGETR 4 1 (oINV1 X M_X0_keepAct 0 (oALOAD 0 (oGETR 7 1 (oILOAD 1 (oINV1 X M_X4_turnAll 4 (oALOAD 0 (oALOAD 0 (oGETR 7 1 (oPI (zj (0)) (oPI (zj (0)) (oINV2 X M_X4_topCount 4 (oINV1 X M_X7_answer 7 (oIRET R)))))))))))))))))
set_option maxRecDepth 100000 in
theorem vb_X7_turn_56 {X : Nat × (Nat → Int32)} {R : zRt} : ∀ ls st h, B_X7_turn_56 X (zV X M_X7_turn (zQm M_X7_turn R) 0 0) R ls st h → zV X M_X7_turn (zQm M_X7_turn R) 0 0 56 ls st h := sd_aload_n dX7_turn_56 rfl (sd_getr dX7_turn_57 zCl7 (Nat.le_of_ble_eq_true rfl) lk_RX7_26 (Or.inl ⟨_, rfl⟩) (sd_aload_n dX7_turn_60 rfl (sd_getr dX7_turn_61 zCl7 (Nat.le_of_ble_eq_true rfl) lk_RX7_19 (Or.inl ⟨_, rfl⟩) (sd_getr dX7_turn_64 zCl4 (Nat.le_of_ble_eq_true rfl) lk_RX7_286 (Or.inr ⟨_, rfl⟩) (sd_inv1 dX7_turn_67 rfl mv_X0_keepAct na_X0_keepAct ml_RX7_289 ⟨⟨Nat.le_of_ble_eq_true rfl, Nat.le_of_ble_eq_true rfl⟩, ⟨Nat.le_of_ble_eq_true rfl, Nat.le_of_ble_eq_true rfl⟩⟩ (sd_aload_n dX7_turn_70 rfl (sd_getr dX7_turn_71 zCl7 (Nat.le_of_ble_eq_true rfl) lk_RX7_19 (Or.inl ⟨_, rfl⟩) (sd_iload_n dX7_turn_74 rfl (sd_inv1 dX7_turn_75 rfl mv_X4_turnAll na_X4_turnAll ml_RX7_293 ⟨⟨Nat.le_of_ble_eq_true rfl, Nat.le_of_ble_eq_true rfl⟩, ⟨Nat.le_of_ble_eq_true rfl, Nat.le_of_ble_eq_true rfl⟩⟩ (sd_aload_n dX7_turn_78 rfl (sd_aload_n dX7_turn_79 rfl (sd_getr dX7_turn_80 zCl7 (Nat.le_of_ble_eq_true rfl) lk_RX7_19 (Or.inl ⟨_, rfl⟩) (sd_iconst dX7_turn_83 rfl (sd_iconst dX7_turn_84 rfl (sd_inv2 dX7_turn_85 rfl mv_X4_topCount na_X4_topCount ml_RX7_157 ⟨⟨Nat.le_of_ble_eq_true rfl, Nat.le_of_ble_eq_true rfl⟩, ⟨Nat.le_of_ble_eq_true rfl, Nat.le_of_ble_eq_true rfl⟩⟩ (sd_inv1 dX7_turn_88 rfl mv_X7_answer na_X7_answer ml_RX7_85 ⟨⟨Nat.le_of_ble_eq_true rfl, Nat.le_of_ble_eq_true rfl⟩, ⟨Nat.le_of_ble_eq_true rfl, Nat.le_of_ble_eq_true rfl⟩⟩ (sd_iret dX7_turn_91 rfl (Nat.le_of_ble_eq_true rfl) (Nat.le_of_ble_eq_true rfl))))))))))))))))))
theorem dX7_go_0 : decode cX7_go 0 = .ok (.aload_n 0, 1) := by decide +kernel
theorem dX7_go_1 : decode cX7_go 1 = .ok (.iload_n 1, 1) := by decide +kernel
theorem dX7_go_2 : decode cX7_go 2 = .ok (.invokevirtual 218, 3) := by decide +kernel
theorem dX7_go_5 : decode cX7_go 5 = .ok (.ifCond .ne 9, 3) := by decide +kernel
theorem dX7_go_8 : decode cX7_go 8 = .ok (.aload_n 0, 1) := by decide +kernel
theorem dX7_go_9 : decode cX7_go 9 = .ok (.iconst 1, 1) := by decide +kernel
theorem dX7_go_10 : decode cX7_go 10 = .ok (.invokevirtual 58, 3) := by decide +kernel
theorem dX7_go_13 : decode cX7_go 13 = .ok (.ireturn, 1) := by decide +kernel
theorem dX7_go_14 : decode cX7_go 14 = .ok (.aload_n 0, 1) := by decide +kernel
theorem dX7_go_15 : decode cX7_go 15 = .ok (.getfield 26, 3) := by decide +kernel
theorem dX7_go_18 : decode cX7_go 18 = .ok (.aload_n 0, 1) := by decide +kernel
theorem dX7_go_19 : decode cX7_go 19 = .ok (.getfield 19, 3) := by decide +kernel
theorem dX7_go_22 : decode cX7_go 22 = .ok (.getfield 286, 3) := by decide +kernel
theorem dX7_go_25 : decode cX7_go 25 = .ok (.invokevirtual 289, 3) := by decide +kernel
theorem dX7_go_28 : decode cX7_go 28 = .ok (.aload_n 0, 1) := by decide +kernel
theorem dX7_go_29 : decode cX7_go 29 = .ok (.aload_n 0, 1) := by decide +kernel
theorem dX7_go_30 : decode cX7_go 30 = .ok (.getfield 19, 3) := by decide +kernel
theorem dX7_go_33 : decode cX7_go 33 = .ok (.iload_n 1, 1) := by decide +kernel
theorem dX7_go_34 : decode cX7_go 34 = .ok (.iload_n 2, 1) := by decide +kernel
theorem dX7_go_35 : decode cX7_go 35 = .ok (.invokevirtual 296, 3) := by decide +kernel
theorem dX7_go_38 : decode cX7_go 38 = .ok (.invokevirtual 85, 3) := by decide +kernel
theorem dX7_go_41 : decode cX7_go 41 = .ok (.ireturn, 1) := by decide +kernel
def B_X7_go_0 (X : Nat × (Nat → Int32)) (J : Nat → zCf) (R : zRt) : zCf := oALOAD 0 (oILOAD 1 (oINV1 X M_X7_isPerson 7 (oIFNE (J 14) (oALOAD 0 (oPI (zj (1)) (oINV1 X M_X7_refuse 7 (oIRET R)))))))
set_option maxRecDepth 100000 in
theorem vb_X7_go_0 {X : Nat × (Nat → Int32)} {R : zRt} : ∀ ls st h, B_X7_go_0 X (zV X M_X7_go (zQm M_X7_go R) 0 0) R ls st h → zV X M_X7_go (zQm M_X7_go R) 0 0 0 ls st h := sd_aload_n dX7_go_0 rfl (sd_iload_n dX7_go_1 rfl (sd_inv1 dX7_go_2 rfl mv_X7_isPerson na_X7_isPerson ml_RX7_218 ⟨⟨Nat.le_of_ble_eq_true rfl, Nat.le_of_ble_eq_true rfl⟩, ⟨Nat.le_of_ble_eq_true rfl, Nat.le_of_ble_eq_true rfl⟩⟩ (sd_ifne dX7_go_5 rfl (fun _ _ _ h => h) (sd_aload_n dX7_go_8 rfl (sd_iconst dX7_go_9 rfl (sd_inv1 dX7_go_10 rfl mv_X7_refuse na_X7_refuse ml_RX7_58 ⟨⟨Nat.le_of_ble_eq_true rfl, Nat.le_of_ble_eq_true rfl⟩, ⟨Nat.le_of_ble_eq_true rfl, Nat.le_of_ble_eq_true rfl⟩⟩ (sd_iret dX7_go_13 rfl (Nat.le_of_ble_eq_true rfl) (Nat.le_of_ble_eq_true rfl))))))))
def B_X7_go_14 (X : Nat × (Nat → Int32)) (J : Nat → zCf) (R : zRt) : zCf := oALOAD 0 (oGETR 7 2 (oALOAD 0 (oGETR 7 1 (oGETR 4 1 (oINV1 X M_X0_keepAct 0 (oALOAD 0 (oALOAD 0 (oGETR 7 1 (oILOAD 1 (oILOAD 2 (oINV2 X M_X4_stepPerson 4 (oINV1 X M_X7_answer 7 (oIRET R)))))))))))))
set_option maxRecDepth 100000 in
theorem vb_X7_go_14 {X : Nat × (Nat → Int32)} {R : zRt} : ∀ ls st h, B_X7_go_14 X (zV X M_X7_go (zQm M_X7_go R) 0 0) R ls st h → zV X M_X7_go (zQm M_X7_go R) 0 0 14 ls st h := sd_aload_n dX7_go_14 rfl (sd_getr dX7_go_15 zCl7 (Nat.le_of_ble_eq_true rfl) lk_RX7_26 (Or.inl ⟨_, rfl⟩) (sd_aload_n dX7_go_18 rfl (sd_getr dX7_go_19 zCl7 (Nat.le_of_ble_eq_true rfl) lk_RX7_19 (Or.inl ⟨_, rfl⟩) (sd_getr dX7_go_22 zCl4 (Nat.le_of_ble_eq_true rfl) lk_RX7_286 (Or.inr ⟨_, rfl⟩) (sd_inv1 dX7_go_25 rfl mv_X0_keepAct na_X0_keepAct ml_RX7_289 ⟨⟨Nat.le_of_ble_eq_true rfl, Nat.le_of_ble_eq_true rfl⟩, ⟨Nat.le_of_ble_eq_true rfl, Nat.le_of_ble_eq_true rfl⟩⟩ (sd_aload_n dX7_go_28 rfl (sd_aload_n dX7_go_29 rfl (sd_getr dX7_go_30 zCl7 (Nat.le_of_ble_eq_true rfl) lk_RX7_19 (Or.inl ⟨_, rfl⟩) (sd_iload_n dX7_go_33 rfl (sd_iload_n dX7_go_34 rfl (sd_inv2 dX7_go_35 rfl mv_X4_stepPerson na_X4_stepPerson ml_RX7_296 ⟨⟨Nat.le_of_ble_eq_true rfl, Nat.le_of_ble_eq_true rfl⟩, ⟨Nat.le_of_ble_eq_true rfl, Nat.le_of_ble_eq_true rfl⟩⟩ (sd_inv1 dX7_go_38 rfl mv_X7_answer na_X7_answer ml_RX7_85 ⟨⟨Nat.le_of_ble_eq_true rfl, Nat.le_of_ble_eq_true rfl⟩, ⟨Nat.le_of_ble_eq_true rfl, Nat.le_of_ble_eq_true rfl⟩⟩ (sd_iret dX7_go_41 rfl (Nat.le_of_ble_eq_true rfl) (Nat.le_of_ble_eq_true rfl))))))))))))))
theorem dX7_waits_0 : decode cX7_waits 0 = .ok (.aload_n 0, 1) := by decide +kernel
theorem dX7_waits_1 : decode cX7_waits 1 = .ok (.invokevirtual 124, 3) := by decide +kernel
theorem dX7_waits_4 : decode cX7_waits 4 = .ok (.ifCond .eq 9, 3) := by decide +kernel
theorem dX7_waits_7 : decode cX7_waits 7 = .ok (.aload_n 0, 1) := by decide +kernel
theorem dX7_waits_8 : decode cX7_waits 8 = .ok (.iconst 1, 1) := by decide +kernel
theorem dX7_waits_9 : decode cX7_waits 9 = .ok (.invokevirtual 58, 3) := by decide +kernel
theorem dX7_waits_12 : decode cX7_waits 12 = .ok (.ireturn, 1) := by decide +kernel
theorem dX7_waits_13 : decode cX7_waits 13 = .ok (.iload_n 1, 1) := by decide +kernel
theorem dX7_waits_14 : decode cX7_waits 14 = .ok (.iconst 1, 1) := by decide +kernel
theorem dX7_waits_15 : decode cX7_waits 15 = .ok (.if_icmp .lt 9, 3) := by decide +kernel
theorem dX7_waits_18 : decode cX7_waits 18 = .ok (.iload_n 1, 1) := by decide +kernel
theorem dX7_waits_19 : decode cX7_waits 19 = .ok (.bipush 99, 2) := by decide +kernel
theorem dX7_waits_21 : decode cX7_waits 21 = .ok (.if_icmp .le 9, 3) := by decide +kernel
theorem dX7_waits_24 : decode cX7_waits 24 = .ok (.aload_n 0, 1) := by decide +kernel
theorem dX7_waits_25 : decode cX7_waits 25 = .ok (.iconst 2, 1) := by decide +kernel
theorem dX7_waits_26 : decode cX7_waits 26 = .ok (.invokevirtual 58, 3) := by decide +kernel
theorem dX7_waits_29 : decode cX7_waits 29 = .ok (.ireturn, 1) := by decide +kernel
theorem dX7_waits_30 : decode cX7_waits 30 = .ok (.aload_n 0, 1) := by decide +kernel
theorem dX7_waits_31 : decode cX7_waits 31 = .ok (.getfield 19, 3) := by decide +kernel
theorem dX7_waits_34 : decode cX7_waits 34 = .ok (.invokevirtual 264, 3) := by decide +kernel
theorem dX7_waits_37 : decode cX7_waits 37 = .ok (.iload_n 1, 1) := by decide +kernel
theorem dX7_waits_38 : decode cX7_waits 38 = .ok (.iadd, 1) := by decide +kernel
theorem dX7_waits_39 : decode cX7_waits 39 = .ok (.sipush 999, 3) := by decide +kernel
theorem dX7_waits_42 : decode cX7_waits 42 = .ok (.if_icmp .le 9, 3) := by decide +kernel
theorem dX7_waits_45 : decode cX7_waits 45 = .ok (.aload_n 0, 1) := by decide +kernel
theorem dX7_waits_46 : decode cX7_waits 46 = .ok (.iconst 3, 1) := by decide +kernel
theorem dX7_waits_47 : decode cX7_waits 47 = .ok (.invokevirtual 58, 3) := by decide +kernel
theorem dX7_waits_50 : decode cX7_waits 50 = .ok (.ireturn, 1) := by decide +kernel
theorem dX7_waits_51 : decode cX7_waits 51 = .ok (.aload_n 0, 1) := by decide +kernel
theorem dX7_waits_52 : decode cX7_waits 52 = .ok (.getfield 26, 3) := by decide +kernel
theorem dX7_waits_55 : decode cX7_waits 55 = .ok (.aload_n 0, 1) := by decide +kernel
theorem dX7_waits_56 : decode cX7_waits 56 = .ok (.getfield 19, 3) := by decide +kernel
theorem dX7_waits_59 : decode cX7_waits 59 = .ok (.getfield 286, 3) := by decide +kernel
theorem dX7_waits_62 : decode cX7_waits 62 = .ok (.invokevirtual 289, 3) := by decide +kernel
theorem dX7_waits_65 : decode cX7_waits 65 = .ok (.aload_n 0, 1) := by decide +kernel
theorem dX7_waits_66 : decode cX7_waits 66 = .ok (.getfield 19, 3) := by decide +kernel
theorem dX7_waits_69 : decode cX7_waits 69 = .ok (.iload_n 1, 1) := by decide +kernel
theorem dX7_waits_70 : decode cX7_waits 70 = .ok (.invokevirtual 300, 3) := by decide +kernel
theorem dX7_waits_73 : decode cX7_waits 73 = .ok (.aload_n 0, 1) := by decide +kernel
theorem dX7_waits_74 : decode cX7_waits 74 = .ok (.aload_n 0, 1) := by decide +kernel
theorem dX7_waits_75 : decode cX7_waits 75 = .ok (.getfield 19, 3) := by decide +kernel
theorem dX7_waits_78 : decode cX7_waits 78 = .ok (.invokevirtual 264, 3) := by decide +kernel
theorem dX7_waits_81 : decode cX7_waits 81 = .ok (.invokevirtual 85, 3) := by decide +kernel
theorem dX7_waits_84 : decode cX7_waits 84 = .ok (.ireturn, 1) := by decide +kernel
def B_X7_waits_0 (X : Nat × (Nat → Int32)) (J : Nat → zCf) (R : zRt) : zCf := oALOAD 0 (oINV0 X M_X7_noTube 7 (oIFEQ (J 13) (oALOAD 0 (oPI (zj (1)) (oINV1 X M_X7_refuse 7 (oIRET R))))))
set_option maxRecDepth 100000 in
theorem vb_X7_waits_0 {X : Nat × (Nat → Int32)} {R : zRt} : ∀ ls st h, B_X7_waits_0 X (zV X M_X7_waits (zQm M_X7_waits R) 0 0) R ls st h → zV X M_X7_waits (zQm M_X7_waits R) 0 0 0 ls st h := sd_aload_n dX7_waits_0 rfl (sd_inv0 dX7_waits_1 rfl mv_X7_noTube na_X7_noTube ml_RX7_124 ⟨⟨Nat.le_of_ble_eq_true rfl, Nat.le_of_ble_eq_true rfl⟩, ⟨Nat.le_of_ble_eq_true rfl, Nat.le_of_ble_eq_true rfl⟩⟩ (sd_ifeq dX7_waits_4 rfl (fun _ _ _ h => h) (sd_aload_n dX7_waits_7 rfl (sd_iconst dX7_waits_8 rfl (sd_inv1 dX7_waits_9 rfl mv_X7_refuse na_X7_refuse ml_RX7_58 ⟨⟨Nat.le_of_ble_eq_true rfl, Nat.le_of_ble_eq_true rfl⟩, ⟨Nat.le_of_ble_eq_true rfl, Nat.le_of_ble_eq_true rfl⟩⟩ (sd_iret dX7_waits_12 rfl (Nat.le_of_ble_eq_true rfl) (Nat.le_of_ble_eq_true rfl)))))))
def B_X7_waits_13 (X : Nat × (Nat → Int32)) (J : Nat → zCf) (R : zRt) : zCf := oILOAD 1 (oPI (zj (1)) (oICLT (J 24) (oILOAD 1 (oPI (zj (99)) (oICLE (J 30) (J 24))))))
set_option maxRecDepth 100000 in
theorem vb_X7_waits_13 {X : Nat × (Nat → Int32)} {R : zRt} : ∀ ls st h, B_X7_waits_13 X (zV X M_X7_waits (zQm M_X7_waits R) 0 0) R ls st h → zV X M_X7_waits (zQm M_X7_waits R) 0 0 13 ls st h := sd_iload_n dX7_waits_13 rfl (sd_iconst dX7_waits_14 rfl (sd_iclt dX7_waits_15 rfl (fun _ _ _ h => h) (sd_iload_n dX7_waits_18 rfl (sd_bipush dX7_waits_19 rfl (sd_icle dX7_waits_21 rfl (fun _ _ _ h => h) (fun _ _ _ h => h))))))
def B_X7_waits_24 (X : Nat × (Nat → Int32)) (J : Nat → zCf) (R : zRt) : zCf := oALOAD 0 (oPI (zj (2)) (oINV1 X M_X7_refuse 7 (oIRET R)))
set_option maxRecDepth 100000 in
theorem vb_X7_waits_24 {X : Nat × (Nat → Int32)} {R : zRt} : ∀ ls st h, B_X7_waits_24 X (zV X M_X7_waits (zQm M_X7_waits R) 0 0) R ls st h → zV X M_X7_waits (zQm M_X7_waits R) 0 0 24 ls st h := sd_aload_n dX7_waits_24 rfl (sd_iconst dX7_waits_25 rfl (sd_inv1 dX7_waits_26 rfl mv_X7_refuse na_X7_refuse ml_RX7_58 ⟨⟨Nat.le_of_ble_eq_true rfl, Nat.le_of_ble_eq_true rfl⟩, ⟨Nat.le_of_ble_eq_true rfl, Nat.le_of_ble_eq_true rfl⟩⟩ (sd_iret dX7_waits_29 rfl (Nat.le_of_ble_eq_true rfl) (Nat.le_of_ble_eq_true rfl))))
def B_X7_waits_30 (X : Nat × (Nat → Int32)) (J : Nat → zCf) (R : zRt) : zCf := oALOAD 0 (oGETR 7 1 (oINV0 X M_X4_day 4 (oILOAD 1 (oIADD (oPI (zj (999)) (oICLE (J 51) (oALOAD 0 (oPI (zj (3)) (oINV1 X M_X7_refuse 7 (oIRET R))))))))))
set_option maxRecDepth 100000 in
theorem vb_X7_waits_30 {X : Nat × (Nat → Int32)} {R : zRt} : ∀ ls st h, B_X7_waits_30 X (zV X M_X7_waits (zQm M_X7_waits R) 0 0) R ls st h → zV X M_X7_waits (zQm M_X7_waits R) 0 0 30 ls st h := sd_aload_n dX7_waits_30 rfl (sd_getr dX7_waits_31 zCl7 (Nat.le_of_ble_eq_true rfl) lk_RX7_19 (Or.inl ⟨_, rfl⟩) (sd_inv0 dX7_waits_34 rfl mv_X4_day na_X4_day ml_RX7_264 ⟨⟨Nat.le_of_ble_eq_true rfl, Nat.le_of_ble_eq_true rfl⟩, ⟨Nat.le_of_ble_eq_true rfl, Nat.le_of_ble_eq_true rfl⟩⟩ (sd_iload_n dX7_waits_37 rfl (sd_iadd dX7_waits_38 (sd_sipush dX7_waits_39 rfl (sd_icle dX7_waits_42 rfl (fun _ _ _ h => h) (sd_aload_n dX7_waits_45 rfl (sd_iconst dX7_waits_46 rfl (sd_inv1 dX7_waits_47 rfl mv_X7_refuse na_X7_refuse ml_RX7_58 ⟨⟨Nat.le_of_ble_eq_true rfl, Nat.le_of_ble_eq_true rfl⟩, ⟨Nat.le_of_ble_eq_true rfl, Nat.le_of_ble_eq_true rfl⟩⟩ (sd_iret dX7_waits_50 rfl (Nat.le_of_ble_eq_true rfl) (Nat.le_of_ble_eq_true rfl)))))))))))
def B_X7_waits_51 (X : Nat × (Nat → Int32)) (J : Nat → zCf) (R : zRt) : zCf := oALOAD 0 (oGETR 7 2 (oALOAD 0 (oGETR 7 1 (oGETR 4 1 (oINV1 X M_X0_keepAct 0 (oALOAD 0 (oGETR 7 1 (oILOAD 1 (oINV1 X M_X4_passDays 4 (oALOAD 0 (oALOAD 0 (oGETR 7 1 (oINV0 X M_X4_day 4 (oINV1 X M_X7_answer 7 (oIRET R)))))))))))))))
set_option maxRecDepth 100000 in
theorem vb_X7_waits_51 {X : Nat × (Nat → Int32)} {R : zRt} : ∀ ls st h, B_X7_waits_51 X (zV X M_X7_waits (zQm M_X7_waits R) 0 0) R ls st h → zV X M_X7_waits (zQm M_X7_waits R) 0 0 51 ls st h := sd_aload_n dX7_waits_51 rfl (sd_getr dX7_waits_52 zCl7 (Nat.le_of_ble_eq_true rfl) lk_RX7_26 (Or.inl ⟨_, rfl⟩) (sd_aload_n dX7_waits_55 rfl (sd_getr dX7_waits_56 zCl7 (Nat.le_of_ble_eq_true rfl) lk_RX7_19 (Or.inl ⟨_, rfl⟩) (sd_getr dX7_waits_59 zCl4 (Nat.le_of_ble_eq_true rfl) lk_RX7_286 (Or.inr ⟨_, rfl⟩) (sd_inv1 dX7_waits_62 rfl mv_X0_keepAct na_X0_keepAct ml_RX7_289 ⟨⟨Nat.le_of_ble_eq_true rfl, Nat.le_of_ble_eq_true rfl⟩, ⟨Nat.le_of_ble_eq_true rfl, Nat.le_of_ble_eq_true rfl⟩⟩ (sd_aload_n dX7_waits_65 rfl (sd_getr dX7_waits_66 zCl7 (Nat.le_of_ble_eq_true rfl) lk_RX7_19 (Or.inl ⟨_, rfl⟩) (sd_iload_n dX7_waits_69 rfl (sd_inv1 dX7_waits_70 rfl mv_X4_passDays na_X4_passDays ml_RX7_300 ⟨⟨Nat.le_of_ble_eq_true rfl, Nat.le_of_ble_eq_true rfl⟩, ⟨Nat.le_of_ble_eq_true rfl, Nat.le_of_ble_eq_true rfl⟩⟩ (sd_aload_n dX7_waits_73 rfl (sd_aload_n dX7_waits_74 rfl (sd_getr dX7_waits_75 zCl7 (Nat.le_of_ble_eq_true rfl) lk_RX7_19 (Or.inl ⟨_, rfl⟩) (sd_inv0 dX7_waits_78 rfl mv_X4_day na_X4_day ml_RX7_264 ⟨⟨Nat.le_of_ble_eq_true rfl, Nat.le_of_ble_eq_true rfl⟩, ⟨Nat.le_of_ble_eq_true rfl, Nat.le_of_ble_eq_true rfl⟩⟩ (sd_inv1 dX7_waits_81 rfl mv_X7_answer na_X7_answer ml_RX7_85 ⟨⟨Nat.le_of_ble_eq_true rfl, Nat.le_of_ble_eq_true rfl⟩, ⟨Nat.le_of_ble_eq_true rfl, Nat.le_of_ble_eq_true rfl⟩⟩ (sd_iret dX7_waits_84 rfl (Nat.le_of_ble_eq_true rfl) (Nat.le_of_ble_eq_true rfl))))))))))))))))
theorem dX7_undo_0 : decode cX7_undo 0 = .ok (.aload_n 0, 1) := by decide +kernel
theorem dX7_undo_1 : decode cX7_undo 1 = .ok (.aload_n 0, 1) := by decide +kernel
theorem dX7_undo_2 : decode cX7_undo 2 = .ok (.getfield 26, 3) := by decide +kernel
theorem dX7_undo_5 : decode cX7_undo 5 = .ok (.aload_n 0, 1) := by decide +kernel
theorem dX7_undo_6 : decode cX7_undo 6 = .ok (.getfield 19, 3) := by decide +kernel
theorem dX7_undo_9 : decode cX7_undo 9 = .ok (.getfield 286, 3) := by decide +kernel
theorem dX7_undo_12 : decode cX7_undo 12 = .ok (.invokevirtual 303, 3) := by decide +kernel
theorem dX7_undo_15 : decode cX7_undo 15 = .ok (.bipush 6, 2) := by decide +kernel
theorem dX7_undo_17 : decode cX7_undo 17 = .ok (.invokevirtual 307, 3) := by decide +kernel
theorem dX7_undo_20 : decode cX7_undo 20 = .ok (.ireturn, 1) := by decide +kernel
def B_X7_undo_0 (X : Nat × (Nat → Int32)) (J : Nat → zCf) (R : zRt) : zCf := oALOAD 0 (oALOAD 0 (oGETR 7 2 (oALOAD 0 (oGETR 7 1 (oGETR 4 1 (oINV1 X M_X0_undoInto 0 (oPI (zj (6)) (oINV2 X M_X7_told 7 (oZRET R)))))))))
set_option maxRecDepth 100000 in
theorem vb_X7_undo_0 {X : Nat × (Nat → Int32)} {R : zRt} : ∀ ls st h, B_X7_undo_0 X (zV X M_X7_undo (zQm M_X7_undo R) 0 0) R ls st h → zV X M_X7_undo (zQm M_X7_undo R) 0 0 0 ls st h := sd_aload_n dX7_undo_0 rfl (sd_aload_n dX7_undo_1 rfl (sd_getr dX7_undo_2 zCl7 (Nat.le_of_ble_eq_true rfl) lk_RX7_26 (Or.inl ⟨_, rfl⟩) (sd_aload_n dX7_undo_5 rfl (sd_getr dX7_undo_6 zCl7 (Nat.le_of_ble_eq_true rfl) lk_RX7_19 (Or.inl ⟨_, rfl⟩) (sd_getr dX7_undo_9 zCl4 (Nat.le_of_ble_eq_true rfl) lk_RX7_286 (Or.inr ⟨_, rfl⟩) (sd_inv1 dX7_undo_12 rfl mv_X0_undoInto na_X0_undoInto ml_RX7_303 ⟨⟨Nat.le_of_ble_eq_true rfl, Nat.le_of_ble_eq_true rfl⟩, ⟨Nat.le_of_ble_eq_true rfl, Nat.le_of_ble_eq_true rfl⟩⟩ (sd_bipush dX7_undo_15 rfl (sd_inv2 dX7_undo_17 rfl mv_X7_told na_X7_told ml_RX7_307 ⟨⟨Nat.le_of_ble_eq_true rfl, Nat.le_of_ble_eq_true rfl⟩, ⟨Nat.le_of_ble_eq_true rfl, Nat.le_of_ble_eq_true rfl⟩⟩ (sd_zret dX7_undo_20 rfl (Nat.le_of_ble_eq_true rfl) (Nat.le_of_ble_eq_true rfl))))))))))
theorem dX7_image_0 : decode cX7_image 0 = .ok (.aload_n 0, 1) := by decide +kernel
theorem dX7_image_1 : decode cX7_image 1 = .ok (.invokevirtual 124, 3) := by decide +kernel
theorem dX7_image_4 : decode cX7_image 4 = .ok (.ifCond .eq 9, 3) := by decide +kernel
theorem dX7_image_7 : decode cX7_image 7 = .ok (.aload_n 0, 1) := by decide +kernel
theorem dX7_image_8 : decode cX7_image 8 = .ok (.iconst 1, 1) := by decide +kernel
theorem dX7_image_9 : decode cX7_image 9 = .ok (.invokevirtual 58, 3) := by decide +kernel
theorem dX7_image_12 : decode cX7_image 12 = .ok (.ireturn, 1) := by decide +kernel
theorem dX7_image_13 : decode cX7_image 13 = .ok (.aload_n 0, 1) := by decide +kernel
theorem dX7_image_14 : decode cX7_image 14 = .ok (.getfield 26, 3) := by decide +kernel
theorem dX7_image_17 : decode cX7_image 17 = .ok (.aload_n 0, 1) := by decide +kernel
theorem dX7_image_18 : decode cX7_image 18 = .ok (.getfield 19, 3) := by decide +kernel
theorem dX7_image_21 : decode cX7_image 21 = .ok (.getfield 286, 3) := by decide +kernel
theorem dX7_image_24 : decode cX7_image 24 = .ok (.invokevirtual 311, 3) := by decide +kernel
theorem dX7_image_27 : decode cX7_image 27 = .ok (.istore_n 1, 1) := by decide +kernel
theorem dX7_image_28 : decode cX7_image 28 = .ok (.iload_n 1, 1) := by decide +kernel
theorem dX7_image_29 : decode cX7_image 29 = .ok (.iconst (-1), 1) := by decide +kernel
theorem dX7_image_30 : decode cX7_image 30 = .ok (.if_icmp .ne 11, 3) := by decide +kernel
theorem dX7_image_33 : decode cX7_image 33 = .ok (.aload_n 0, 1) := by decide +kernel
theorem dX7_image_34 : decode cX7_image 34 = .ok (.iconst 3, 1) := by decide +kernel
theorem dX7_image_35 : decode cX7_image 35 = .ok (.invokevirtual 58, 3) := by decide +kernel
theorem dX7_image_38 : decode cX7_image 38 = .ok (.goto 8, 3) := by decide +kernel
theorem dX7_image_41 : decode cX7_image 41 = .ok (.aload_n 0, 1) := by decide +kernel
theorem dX7_image_42 : decode cX7_image 42 = .ok (.iload_n 1, 1) := by decide +kernel
theorem dX7_image_43 : decode cX7_image 43 = .ok (.invokevirtual 85, 3) := by decide +kernel
theorem dX7_image_46 : decode cX7_image 46 = .ok (.ireturn, 1) := by decide +kernel
def B_X7_image_0 (X : Nat × (Nat → Int32)) (J : Nat → zCf) (R : zRt) : zCf := oALOAD 0 (oINV0 X M_X7_noTube 7 (oIFEQ (J 13) (oALOAD 0 (oPI (zj (1)) (oINV1 X M_X7_refuse 7 (oIRET R))))))
set_option maxRecDepth 100000 in
theorem vb_X7_image_0 {X : Nat × (Nat → Int32)} {R : zRt} : ∀ ls st h, B_X7_image_0 X (zV X M_X7_image (zQm M_X7_image R) 0 0) R ls st h → zV X M_X7_image (zQm M_X7_image R) 0 0 0 ls st h := sd_aload_n dX7_image_0 rfl (sd_inv0 dX7_image_1 rfl mv_X7_noTube na_X7_noTube ml_RX7_124 ⟨⟨Nat.le_of_ble_eq_true rfl, Nat.le_of_ble_eq_true rfl⟩, ⟨Nat.le_of_ble_eq_true rfl, Nat.le_of_ble_eq_true rfl⟩⟩ (sd_ifeq dX7_image_4 rfl (fun _ _ _ h => h) (sd_aload_n dX7_image_7 rfl (sd_iconst dX7_image_8 rfl (sd_inv1 dX7_image_9 rfl mv_X7_refuse na_X7_refuse ml_RX7_58 ⟨⟨Nat.le_of_ble_eq_true rfl, Nat.le_of_ble_eq_true rfl⟩, ⟨Nat.le_of_ble_eq_true rfl, Nat.le_of_ble_eq_true rfl⟩⟩ (sd_iret dX7_image_12 rfl (Nat.le_of_ble_eq_true rfl) (Nat.le_of_ble_eq_true rfl)))))))
def B_X7_image_13 (X : Nat × (Nat → Int32)) (J : Nat → zCf) (R : zRt) : zCf := oALOAD 0 (oGETR 7 2 (oALOAD 0 (oGETR 7 1 (oGETR 4 1 (oINV1 X M_X0_keepImage 0 (oISTORE 0 1 (oILOAD 1 (oPI (zj (-1)) (oICNE (J 41) (oALOAD 0 (oPI (zj (3)) (oINV1 X M_X7_refuse 7 (J 46)))))))))))))
set_option maxRecDepth 100000 in
theorem vb_X7_image_13 {X : Nat × (Nat → Int32)} {R : zRt} : ∀ ls st h, B_X7_image_13 X (zV X M_X7_image (zQm M_X7_image R) 0 0) R ls st h → zV X M_X7_image (zQm M_X7_image R) 0 0 13 ls st h := sd_aload_n dX7_image_13 rfl (sd_getr dX7_image_14 zCl7 (Nat.le_of_ble_eq_true rfl) lk_RX7_26 (Or.inl ⟨_, rfl⟩) (sd_aload_n dX7_image_17 rfl (sd_getr dX7_image_18 zCl7 (Nat.le_of_ble_eq_true rfl) lk_RX7_19 (Or.inl ⟨_, rfl⟩) (sd_getr dX7_image_21 zCl4 (Nat.le_of_ble_eq_true rfl) lk_RX7_286 (Or.inr ⟨_, rfl⟩) (sd_inv1 dX7_image_24 rfl mv_X0_keepImage na_X0_keepImage ml_RX7_311 ⟨⟨Nat.le_of_ble_eq_true rfl, Nat.le_of_ble_eq_true rfl⟩, ⟨Nat.le_of_ble_eq_true rfl, Nat.le_of_ble_eq_true rfl⟩⟩ (sd_istore_n dX7_image_27 rfl (Nat.le_of_ble_eq_true rfl) (Or.inl rfl) (sd_iload_n dX7_image_28 rfl (sd_iconst dX7_image_29 rfl (sd_icne dX7_image_30 rfl (fun _ _ _ h => h) (sd_aload_n dX7_image_33 rfl (sd_iconst dX7_image_34 rfl (sd_inv1 dX7_image_35 rfl mv_X7_refuse na_X7_refuse ml_RX7_58 ⟨⟨Nat.le_of_ble_eq_true rfl, Nat.le_of_ble_eq_true rfl⟩, ⟨Nat.le_of_ble_eq_true rfl, Nat.le_of_ble_eq_true rfl⟩⟩ (sd_goto dX7_image_38 rfl (fun _ _ _ h => h))))))))))))))
def B_X7_image_41 (X : Nat × (Nat → Int32)) (J : Nat → zCf) (R : zRt) : zCf := oALOAD 0 (oILOAD 1 (oINV1 X M_X7_answer 7 (J 46)))
set_option maxRecDepth 100000 in
theorem vb_X7_image_41 {X : Nat × (Nat → Int32)} {R : zRt} : ∀ ls st h, B_X7_image_41 X (zV X M_X7_image (zQm M_X7_image R) 0 0) R ls st h → zV X M_X7_image (zQm M_X7_image R) 0 0 41 ls st h := sd_aload_n dX7_image_41 rfl (sd_iload_n dX7_image_42 rfl (sd_inv1 dX7_image_43 rfl mv_X7_answer na_X7_answer ml_RX7_85 ⟨⟨Nat.le_of_ble_eq_true rfl, Nat.le_of_ble_eq_true rfl⟩, ⟨Nat.le_of_ble_eq_true rfl, Nat.le_of_ble_eq_true rfl⟩⟩ (fun _ _ _ h => h)))
def B_X7_image_46 (X : Nat × (Nat → Int32)) (J : Nat → zCf) (R : zRt) : zCf := oIRET R
set_option maxRecDepth 100000 in
theorem vb_X7_image_46 {X : Nat × (Nat → Int32)} {R : zRt} : ∀ ls st h, B_X7_image_46 X (zV X M_X7_image (zQm M_X7_image R) 0 0) R ls st h → zV X M_X7_image (zQm M_X7_image R) 0 0 46 ls st h := sd_iret dX7_image_46 rfl (Nat.le_of_ble_eq_true rfl) (Nat.le_of_ble_eq_true rfl)
theorem dX7_back_0 : decode cX7_back 0 = .ok (.aload_n 0, 1) := by decide +kernel
theorem dX7_back_1 : decode cX7_back 1 = .ok (.aload_n 0, 1) := by decide +kernel
theorem dX7_back_2 : decode cX7_back 2 = .ok (.getfield 26, 3) := by decide +kernel
theorem dX7_back_5 : decode cX7_back 5 = .ok (.iload_n 1, 1) := by decide +kernel
theorem dX7_back_6 : decode cX7_back 6 = .ok (.aload_n 0, 1) := by decide +kernel
theorem dX7_back_7 : decode cX7_back 7 = .ok (.getfield 19, 3) := by decide +kernel
theorem dX7_back_10 : decode cX7_back 10 = .ok (.getfield 286, 3) := by decide +kernel
theorem dX7_back_13 : decode cX7_back 13 = .ok (.invokevirtual 315, 3) := by decide +kernel
theorem dX7_back_16 : decode cX7_back 16 = .ok (.iconst 1, 1) := by decide +kernel
theorem dX7_back_17 : decode cX7_back 17 = .ok (.invokevirtual 307, 3) := by decide +kernel
theorem dX7_back_20 : decode cX7_back 20 = .ok (.ireturn, 1) := by decide +kernel
def B_X7_back_0 (X : Nat × (Nat → Int32)) (J : Nat → zCf) (R : zRt) : zCf := oALOAD 0 (oALOAD 0 (oGETR 7 2 (oILOAD 1 (oALOAD 0 (oGETR 7 1 (oGETR 4 1 (oINV2 X M_X0_backInto 0 (oPI (zj (1)) (oINV2 X M_X7_told 7 (oZRET R))))))))))
set_option maxRecDepth 100000 in
theorem vb_X7_back_0 {X : Nat × (Nat → Int32)} {R : zRt} : ∀ ls st h, B_X7_back_0 X (zV X M_X7_back (zQm M_X7_back R) 0 0) R ls st h → zV X M_X7_back (zQm M_X7_back R) 0 0 0 ls st h := sd_aload_n dX7_back_0 rfl (sd_aload_n dX7_back_1 rfl (sd_getr dX7_back_2 zCl7 (Nat.le_of_ble_eq_true rfl) lk_RX7_26 (Or.inl ⟨_, rfl⟩) (sd_iload_n dX7_back_5 rfl (sd_aload_n dX7_back_6 rfl (sd_getr dX7_back_7 zCl7 (Nat.le_of_ble_eq_true rfl) lk_RX7_19 (Or.inl ⟨_, rfl⟩) (sd_getr dX7_back_10 zCl4 (Nat.le_of_ble_eq_true rfl) lk_RX7_286 (Or.inr ⟨_, rfl⟩) (sd_inv2 dX7_back_13 rfl mv_X0_backInto na_X0_backInto ml_RX7_315 ⟨⟨Nat.le_of_ble_eq_true rfl, Nat.le_of_ble_eq_true rfl⟩, ⟨Nat.le_of_ble_eq_true rfl, Nat.le_of_ble_eq_true rfl⟩⟩ (sd_iconst dX7_back_16 rfl (sd_inv2 dX7_back_17 rfl mv_X7_told na_X7_told ml_RX7_307 ⟨⟨Nat.le_of_ble_eq_true rfl, Nat.le_of_ble_eq_true rfl⟩, ⟨Nat.le_of_ble_eq_true rfl, Nat.le_of_ble_eq_true rfl⟩⟩ (sd_zret dX7_back_20 rfl (Nat.le_of_ble_eq_true rfl) (Nat.le_of_ble_eq_true rfl)))))))))))
theorem dX7_size_0 : decode cX7_size 0 = .ok (.iload_n 1, 1) := by decide +kernel
theorem dX7_size_1 : decode cX7_size 1 = .ok (.tableswitch 191 0 10 #[59, 70, 81, 102, 123, 134, 145, 156, 164, 172, 180], 59) := by decide +kernel
theorem dX7_size_60 : decode cX7_size 60 = .ok (.aload_n 0, 1) := by decide +kernel
theorem dX7_size_61 : decode cX7_size 61 = .ok (.getfield 19, 3) := by decide +kernel
theorem dX7_size_64 : decode cX7_size 64 = .ok (.getfield 77, 3) := by decide +kernel
theorem dX7_size_67 : decode cX7_size 67 = .ok (.getfield 322, 3) := by decide +kernel
theorem dX7_size_70 : decode cX7_size 70 = .ok (.ireturn, 1) := by decide +kernel
theorem dX7_size_71 : decode cX7_size 71 = .ok (.aload_n 0, 1) := by decide +kernel
theorem dX7_size_72 : decode cX7_size 72 = .ok (.getfield 19, 3) := by decide +kernel
theorem dX7_size_75 : decode cX7_size 75 = .ok (.getfield 77, 3) := by decide +kernel
theorem dX7_size_78 : decode cX7_size 78 = .ok (.getfield 80, 3) := by decide +kernel
theorem dX7_size_81 : decode cX7_size 81 = .ok (.ireturn, 1) := by decide +kernel
theorem dX7_size_82 : decode cX7_size 82 = .ok (.aload_n 0, 1) := by decide +kernel
theorem dX7_size_83 : decode cX7_size 83 = .ok (.getfield 19, 3) := by decide +kernel
theorem dX7_size_86 : decode cX7_size 86 = .ok (.getfield 77, 3) := by decide +kernel
theorem dX7_size_89 : decode cX7_size 89 = .ok (.aload_n 0, 1) := by decide +kernel
theorem dX7_size_90 : decode cX7_size 90 = .ok (.getfield 19, 3) := by decide +kernel
theorem dX7_size_93 : decode cX7_size 93 = .ok (.getfield 77, 3) := by decide +kernel
theorem dX7_size_96 : decode cX7_size 96 = .ok (.getfield 118, 3) := by decide +kernel
theorem dX7_size_99 : decode cX7_size 99 = .ok (.invokevirtual 325, 3) := by decide +kernel
theorem dX7_size_102 : decode cX7_size 102 = .ok (.ireturn, 1) := by decide +kernel
theorem dX7_size_103 : decode cX7_size 103 = .ok (.aload_n 0, 1) := by decide +kernel
theorem dX7_size_104 : decode cX7_size 104 = .ok (.getfield 19, 3) := by decide +kernel
theorem dX7_size_107 : decode cX7_size 107 = .ok (.getfield 77, 3) := by decide +kernel
theorem dX7_size_110 : decode cX7_size 110 = .ok (.aload_n 0, 1) := by decide +kernel
theorem dX7_size_111 : decode cX7_size 111 = .ok (.getfield 19, 3) := by decide +kernel
theorem dX7_size_114 : decode cX7_size 114 = .ok (.getfield 77, 3) := by decide +kernel
theorem dX7_size_117 : decode cX7_size 117 = .ok (.getfield 121, 3) := by decide +kernel
theorem dX7_size_120 : decode cX7_size 120 = .ok (.invokevirtual 325, 3) := by decide +kernel
theorem dX7_size_123 : decode cX7_size 123 = .ok (.ireturn, 1) := by decide +kernel
theorem dX7_size_124 : decode cX7_size 124 = .ok (.aload_n 0, 1) := by decide +kernel
theorem dX7_size_125 : decode cX7_size 125 = .ok (.getfield 19, 3) := by decide +kernel
theorem dX7_size_128 : decode cX7_size 128 = .ok (.getfield 77, 3) := by decide +kernel
theorem dX7_size_131 : decode cX7_size 131 = .ok (.getfield 328, 3) := by decide +kernel
theorem dX7_size_134 : decode cX7_size 134 = .ok (.ireturn, 1) := by decide +kernel
theorem dX7_size_135 : decode cX7_size 135 = .ok (.aload_n 0, 1) := by decide +kernel
theorem dX7_size_136 : decode cX7_size 136 = .ok (.getfield 19, 3) := by decide +kernel
theorem dX7_size_139 : decode cX7_size 139 = .ok (.getfield 77, 3) := by decide +kernel
theorem dX7_size_142 : decode cX7_size 142 = .ok (.getfield 331, 3) := by decide +kernel
theorem dX7_size_145 : decode cX7_size 145 = .ok (.ireturn, 1) := by decide +kernel
theorem dX7_size_146 : decode cX7_size 146 = .ok (.aload_n 0, 1) := by decide +kernel
theorem dX7_size_147 : decode cX7_size 147 = .ok (.getfield 19, 3) := by decide +kernel
theorem dX7_size_150 : decode cX7_size 150 = .ok (.getfield 77, 3) := by decide +kernel
theorem dX7_size_153 : decode cX7_size 153 = .ok (.getfield 334, 3) := by decide +kernel
theorem dX7_size_156 : decode cX7_size 156 = .ok (.ireturn, 1) := by decide +kernel
theorem dX7_size_157 : decode cX7_size 157 = .ok (.aload_n 0, 1) := by decide +kernel
theorem dX7_size_158 : decode cX7_size 158 = .ok (.getfield 19, 3) := by decide +kernel
theorem dX7_size_161 : decode cX7_size 161 = .ok (.invokevirtual 264, 3) := by decide +kernel
theorem dX7_size_164 : decode cX7_size 164 = .ok (.ireturn, 1) := by decide +kernel
theorem dX7_size_165 : decode cX7_size 165 = .ok (.aload_n 0, 1) := by decide +kernel
theorem dX7_size_166 : decode cX7_size 166 = .ok (.getfield 26, 3) := by decide +kernel
theorem dX7_size_169 : decode cX7_size 169 = .ok (.getfield 337, 3) := by decide +kernel
theorem dX7_size_172 : decode cX7_size 172 = .ok (.ireturn, 1) := by decide +kernel
theorem dX7_size_173 : decode cX7_size 173 = .ok (.aload_n 0, 1) := by decide +kernel
theorem dX7_size_174 : decode cX7_size 174 = .ok (.getfield 26, 3) := by decide +kernel
theorem dX7_size_177 : decode cX7_size 177 = .ok (.getfield 340, 3) := by decide +kernel
theorem dX7_size_180 : decode cX7_size 180 = .ok (.ireturn, 1) := by decide +kernel
theorem dX7_size_181 : decode cX7_size 181 = .ok (.aload_n 0, 1) := by decide +kernel
theorem dX7_size_182 : decode cX7_size 182 = .ok (.getfield 10, 3) := by decide +kernel
theorem dX7_size_185 : decode cX7_size 185 = .ok (.getfield 44, 3) := by decide +kernel
theorem dX7_size_188 : decode cX7_size 188 = .ok (.getfield 48, 3) := by decide +kernel
theorem dX7_size_191 : decode cX7_size 191 = .ok (.ireturn, 1) := by decide +kernel
theorem dX7_size_192 : decode cX7_size 192 = .ok (.iconst (-1), 1) := by decide +kernel
theorem dX7_size_193 : decode cX7_size 193 = .ok (.ireturn, 1) := by decide +kernel
def B_X7_size_0 (X : Nat × (Nat → Int32)) (J : Nat → zCf) (R : zRt) : zCf := oILOAD 1 (oTSW (0) 11 (fun i => J ([60, 71, 82, 103, 124, 135, 146, 157, 165, 173, 181].getD i 0)) (J 192))
set_option maxRecDepth 100000 in
theorem vb_X7_size_0 {X : Nat × (Nat → Int32)} {R : zRt} : ∀ ls st h, B_X7_size_0 X (zV X M_X7_size (zQm M_X7_size R) 0 0) R ls st h → zV X M_X7_size (zQm M_X7_size R) 0 0 0 ls st h := sd_iload_n dX7_size_0 rfl (sd_tsw (tg := fun i => [60, 71, 82, 103, 124, 135, 146, 157, 165, 173, 181].getD i 0) dX7_size_1 rfl rfl (fun i hi => by
    match i, hi with
    | 0, _ => exact ⟨_, rfl, rfl⟩
    | 1, _ => exact ⟨_, rfl, rfl⟩
    | 2, _ => exact ⟨_, rfl, rfl⟩
    | 3, _ => exact ⟨_, rfl, rfl⟩
    | 4, _ => exact ⟨_, rfl, rfl⟩
    | 5, _ => exact ⟨_, rfl, rfl⟩
    | 6, _ => exact ⟨_, rfl, rfl⟩
    | 7, _ => exact ⟨_, rfl, rfl⟩
    | 8, _ => exact ⟨_, rfl, rfl⟩
    | 9, _ => exact ⟨_, rfl, rfl⟩
    | 10, _ => exact ⟨_, rfl, rfl⟩
    | i + 11, hi => omega) (fun _ _ _ h => h) (fun _ _ _ _ _ h => h))
def B_X7_size_60 (X : Nat × (Nat → Int32)) (J : Nat → zCf) (R : zRt) : zCf := oALOAD 0 (oGETR 7 1 (oGETR 4 0 (oGETI 1 0 (oIRET R))))
set_option maxRecDepth 100000 in
theorem vb_X7_size_60 {X : Nat × (Nat → Int32)} {R : zRt} : ∀ ls st h, B_X7_size_60 X (zV X M_X7_size (zQm M_X7_size R) 0 0) R ls st h → zV X M_X7_size (zQm M_X7_size R) 0 0 60 ls st h := sd_aload_n dX7_size_60 rfl (sd_getr dX7_size_61 zCl7 (Nat.le_of_ble_eq_true rfl) lk_RX7_19 (Or.inl ⟨_, rfl⟩) (sd_getr dX7_size_64 zCl4 (Nat.le_of_ble_eq_true rfl) lk_RX7_77 (Or.inl ⟨_, rfl⟩) (sd_geti dX7_size_67 zCl1 (Nat.le_of_ble_eq_true rfl) lk_RX7_322 (Or.inl rfl) (sd_iret dX7_size_70 rfl (Nat.le_of_ble_eq_true rfl) (Nat.le_of_ble_eq_true rfl)))))
def B_X7_size_71 (X : Nat × (Nat → Int32)) (J : Nat → zCf) (R : zRt) : zCf := oALOAD 0 (oGETR 7 1 (oGETR 4 0 (oGETI 1 1 (oIRET R))))
set_option maxRecDepth 100000 in
theorem vb_X7_size_71 {X : Nat × (Nat → Int32)} {R : zRt} : ∀ ls st h, B_X7_size_71 X (zV X M_X7_size (zQm M_X7_size R) 0 0) R ls st h → zV X M_X7_size (zQm M_X7_size R) 0 0 71 ls st h := sd_aload_n dX7_size_71 rfl (sd_getr dX7_size_72 zCl7 (Nat.le_of_ble_eq_true rfl) lk_RX7_19 (Or.inl ⟨_, rfl⟩) (sd_getr dX7_size_75 zCl4 (Nat.le_of_ble_eq_true rfl) lk_RX7_77 (Or.inl ⟨_, rfl⟩) (sd_geti dX7_size_78 zCl1 (Nat.le_of_ble_eq_true rfl) lk_RX7_80 (Or.inl rfl) (sd_iret dX7_size_81 rfl (Nat.le_of_ble_eq_true rfl) (Nat.le_of_ble_eq_true rfl)))))
def B_X7_size_82 (X : Nat × (Nat → Int32)) (J : Nat → zCf) (R : zRt) : zCf := oALOAD 0 (oGETR 7 1 (oGETR 4 0 (oALOAD 0 (oGETR 7 1 (oGETR 4 0 (oGETR 1 6 (oINV1 X M_X1_cellsTold 1 (oIRET R))))))))
set_option maxRecDepth 100000 in
theorem vb_X7_size_82 {X : Nat × (Nat → Int32)} {R : zRt} : ∀ ls st h, B_X7_size_82 X (zV X M_X7_size (zQm M_X7_size R) 0 0) R ls st h → zV X M_X7_size (zQm M_X7_size R) 0 0 82 ls st h := sd_aload_n dX7_size_82 rfl (sd_getr dX7_size_83 zCl7 (Nat.le_of_ble_eq_true rfl) lk_RX7_19 (Or.inl ⟨_, rfl⟩) (sd_getr dX7_size_86 zCl4 (Nat.le_of_ble_eq_true rfl) lk_RX7_77 (Or.inl ⟨_, rfl⟩) (sd_aload_n dX7_size_89 rfl (sd_getr dX7_size_90 zCl7 (Nat.le_of_ble_eq_true rfl) lk_RX7_19 (Or.inl ⟨_, rfl⟩) (sd_getr dX7_size_93 zCl4 (Nat.le_of_ble_eq_true rfl) lk_RX7_77 (Or.inl ⟨_, rfl⟩) (sd_getr dX7_size_96 zCl1 (Nat.le_of_ble_eq_true rfl) lk_RX7_118 (Or.inr ⟨_, rfl⟩) (sd_inv1 dX7_size_99 rfl mv_X1_cellsTold na_X1_cellsTold ml_RX7_325 ⟨⟨Nat.le_of_ble_eq_true rfl, Nat.le_of_ble_eq_true rfl⟩, ⟨Nat.le_of_ble_eq_true rfl, Nat.le_of_ble_eq_true rfl⟩⟩ (sd_iret dX7_size_102 rfl (Nat.le_of_ble_eq_true rfl) (Nat.le_of_ble_eq_true rfl)))))))))
def B_X7_size_103 (X : Nat × (Nat → Int32)) (J : Nat → zCf) (R : zRt) : zCf := oALOAD 0 (oGETR 7 1 (oGETR 4 0 (oALOAD 0 (oGETR 7 1 (oGETR 4 0 (oGETR 1 7 (oINV1 X M_X1_cellsTold 1 (oIRET R))))))))
set_option maxRecDepth 100000 in
theorem vb_X7_size_103 {X : Nat × (Nat → Int32)} {R : zRt} : ∀ ls st h, B_X7_size_103 X (zV X M_X7_size (zQm M_X7_size R) 0 0) R ls st h → zV X M_X7_size (zQm M_X7_size R) 0 0 103 ls st h := sd_aload_n dX7_size_103 rfl (sd_getr dX7_size_104 zCl7 (Nat.le_of_ble_eq_true rfl) lk_RX7_19 (Or.inl ⟨_, rfl⟩) (sd_getr dX7_size_107 zCl4 (Nat.le_of_ble_eq_true rfl) lk_RX7_77 (Or.inl ⟨_, rfl⟩) (sd_aload_n dX7_size_110 rfl (sd_getr dX7_size_111 zCl7 (Nat.le_of_ble_eq_true rfl) lk_RX7_19 (Or.inl ⟨_, rfl⟩) (sd_getr dX7_size_114 zCl4 (Nat.le_of_ble_eq_true rfl) lk_RX7_77 (Or.inl ⟨_, rfl⟩) (sd_getr dX7_size_117 zCl1 (Nat.le_of_ble_eq_true rfl) lk_RX7_121 (Or.inr ⟨_, rfl⟩) (sd_inv1 dX7_size_120 rfl mv_X1_cellsTold na_X1_cellsTold ml_RX7_325 ⟨⟨Nat.le_of_ble_eq_true rfl, Nat.le_of_ble_eq_true rfl⟩, ⟨Nat.le_of_ble_eq_true rfl, Nat.le_of_ble_eq_true rfl⟩⟩ (sd_iret dX7_size_123 rfl (Nat.le_of_ble_eq_true rfl) (Nat.le_of_ble_eq_true rfl)))))))))
def B_X7_size_124 (X : Nat × (Nat → Int32)) (J : Nat → zCf) (R : zRt) : zCf := oALOAD 0 (oGETR 7 1 (oGETR 4 0 (oGETI 1 8 (oIRET R))))
set_option maxRecDepth 100000 in
theorem vb_X7_size_124 {X : Nat × (Nat → Int32)} {R : zRt} : ∀ ls st h, B_X7_size_124 X (zV X M_X7_size (zQm M_X7_size R) 0 0) R ls st h → zV X M_X7_size (zQm M_X7_size R) 0 0 124 ls st h := sd_aload_n dX7_size_124 rfl (sd_getr dX7_size_125 zCl7 (Nat.le_of_ble_eq_true rfl) lk_RX7_19 (Or.inl ⟨_, rfl⟩) (sd_getr dX7_size_128 zCl4 (Nat.le_of_ble_eq_true rfl) lk_RX7_77 (Or.inl ⟨_, rfl⟩) (sd_geti dX7_size_131 zCl1 (Nat.le_of_ble_eq_true rfl) lk_RX7_328 (Or.inl rfl) (sd_iret dX7_size_134 rfl (Nat.le_of_ble_eq_true rfl) (Nat.le_of_ble_eq_true rfl)))))
def B_X7_size_135 (X : Nat × (Nat → Int32)) (J : Nat → zCf) (R : zRt) : zCf := oALOAD 0 (oGETR 7 1 (oGETR 4 0 (oGETI 1 11 (oIRET R))))
set_option maxRecDepth 100000 in
theorem vb_X7_size_135 {X : Nat × (Nat → Int32)} {R : zRt} : ∀ ls st h, B_X7_size_135 X (zV X M_X7_size (zQm M_X7_size R) 0 0) R ls st h → zV X M_X7_size (zQm M_X7_size R) 0 0 135 ls st h := sd_aload_n dX7_size_135 rfl (sd_getr dX7_size_136 zCl7 (Nat.le_of_ble_eq_true rfl) lk_RX7_19 (Or.inl ⟨_, rfl⟩) (sd_getr dX7_size_139 zCl4 (Nat.le_of_ble_eq_true rfl) lk_RX7_77 (Or.inl ⟨_, rfl⟩) (sd_geti dX7_size_142 zCl1 (Nat.le_of_ble_eq_true rfl) lk_RX7_331 (Or.inl rfl) (sd_iret dX7_size_145 rfl (Nat.le_of_ble_eq_true rfl) (Nat.le_of_ble_eq_true rfl)))))
def B_X7_size_146 (X : Nat × (Nat → Int32)) (J : Nat → zCf) (R : zRt) : zCf := oALOAD 0 (oGETR 7 1 (oGETR 4 0 (oGETI 1 13 (oIRET R))))
set_option maxRecDepth 100000 in
theorem vb_X7_size_146 {X : Nat × (Nat → Int32)} {R : zRt} : ∀ ls st h, B_X7_size_146 X (zV X M_X7_size (zQm M_X7_size R) 0 0) R ls st h → zV X M_X7_size (zQm M_X7_size R) 0 0 146 ls st h := sd_aload_n dX7_size_146 rfl (sd_getr dX7_size_147 zCl7 (Nat.le_of_ble_eq_true rfl) lk_RX7_19 (Or.inl ⟨_, rfl⟩) (sd_getr dX7_size_150 zCl4 (Nat.le_of_ble_eq_true rfl) lk_RX7_77 (Or.inl ⟨_, rfl⟩) (sd_geti dX7_size_153 zCl1 (Nat.le_of_ble_eq_true rfl) lk_RX7_334 (Or.inl rfl) (sd_iret dX7_size_156 rfl (Nat.le_of_ble_eq_true rfl) (Nat.le_of_ble_eq_true rfl)))))
def B_X7_size_157 (X : Nat × (Nat → Int32)) (J : Nat → zCf) (R : zRt) : zCf := oALOAD 0 (oGETR 7 1 (oINV0 X M_X4_day 4 (oIRET R)))
set_option maxRecDepth 100000 in
theorem vb_X7_size_157 {X : Nat × (Nat → Int32)} {R : zRt} : ∀ ls st h, B_X7_size_157 X (zV X M_X7_size (zQm M_X7_size R) 0 0) R ls st h → zV X M_X7_size (zQm M_X7_size R) 0 0 157 ls st h := sd_aload_n dX7_size_157 rfl (sd_getr dX7_size_158 zCl7 (Nat.le_of_ble_eq_true rfl) lk_RX7_19 (Or.inl ⟨_, rfl⟩) (sd_inv0 dX7_size_161 rfl mv_X4_day na_X4_day ml_RX7_264 ⟨⟨Nat.le_of_ble_eq_true rfl, Nat.le_of_ble_eq_true rfl⟩, ⟨Nat.le_of_ble_eq_true rfl, Nat.le_of_ble_eq_true rfl⟩⟩ (sd_iret dX7_size_164 rfl (Nat.le_of_ble_eq_true rfl) (Nat.le_of_ble_eq_true rfl))))
def B_X7_size_165 (X : Nat × (Nat → Int32)) (J : Nat → zCf) (R : zRt) : zCf := oALOAD 0 (oGETR 7 2 (oGETI 0 2 (oIRET R)))
set_option maxRecDepth 100000 in
theorem vb_X7_size_165 {X : Nat × (Nat → Int32)} {R : zRt} : ∀ ls st h, B_X7_size_165 X (zV X M_X7_size (zQm M_X7_size R) 0 0) R ls st h → zV X M_X7_size (zQm M_X7_size R) 0 0 165 ls st h := sd_aload_n dX7_size_165 rfl (sd_getr dX7_size_166 zCl7 (Nat.le_of_ble_eq_true rfl) lk_RX7_26 (Or.inl ⟨_, rfl⟩) (sd_geti dX7_size_169 zCl0 (Nat.le_of_ble_eq_true rfl) lk_RX7_337 (Or.inl rfl) (sd_iret dX7_size_172 rfl (Nat.le_of_ble_eq_true rfl) (Nat.le_of_ble_eq_true rfl))))
def B_X7_size_173 (X : Nat × (Nat → Int32)) (J : Nat → zCf) (R : zRt) : zCf := oALOAD 0 (oGETR 7 2 (oGETI 0 4 (oIRET R)))
set_option maxRecDepth 100000 in
theorem vb_X7_size_173 {X : Nat × (Nat → Int32)} {R : zRt} : ∀ ls st h, B_X7_size_173 X (zV X M_X7_size (zQm M_X7_size R) 0 0) R ls st h → zV X M_X7_size (zQm M_X7_size R) 0 0 173 ls st h := sd_aload_n dX7_size_173 rfl (sd_getr dX7_size_174 zCl7 (Nat.le_of_ble_eq_true rfl) lk_RX7_26 (Or.inl ⟨_, rfl⟩) (sd_geti dX7_size_177 zCl0 (Nat.le_of_ble_eq_true rfl) lk_RX7_340 (Or.inl rfl) (sd_iret dX7_size_180 rfl (Nat.le_of_ble_eq_true rfl) (Nat.le_of_ble_eq_true rfl))))
def B_X7_size_181 (X : Nat × (Nat → Int32)) (J : Nat → zCf) (R : zRt) : zCf := oALOAD 0 (oGETR 7 0 (oGETR 2 0 (oGETI 6 1 (oIRET R))))
set_option maxRecDepth 100000 in
theorem vb_X7_size_181 {X : Nat × (Nat → Int32)} {R : zRt} : ∀ ls st h, B_X7_size_181 X (zV X M_X7_size (zQm M_X7_size R) 0 0) R ls st h → zV X M_X7_size (zQm M_X7_size R) 0 0 181 ls st h := sd_aload_n dX7_size_181 rfl (sd_getr dX7_size_182 zCl7 (Nat.le_of_ble_eq_true rfl) lk_RX7_10 (Or.inl ⟨_, rfl⟩) (sd_getr dX7_size_185 zCl2 (Nat.le_of_ble_eq_true rfl) lk_RX7_44 (Or.inl ⟨_, rfl⟩) (sd_geti dX7_size_188 zCl6 (Nat.le_of_ble_eq_true rfl) lk_RX7_48 (Or.inl rfl) (sd_iret dX7_size_191 rfl (Nat.le_of_ble_eq_true rfl) (Nat.le_of_ble_eq_true rfl)))))
def B_X7_size_192 (X : Nat × (Nat → Int32)) (J : Nat → zCf) (R : zRt) : zCf := oPI (zj (-1)) (oIRET R)
set_option maxRecDepth 100000 in
theorem vb_X7_size_192 {X : Nat × (Nat → Int32)} {R : zRt} : ∀ ls st h, B_X7_size_192 X (zV X M_X7_size (zQm M_X7_size R) 0 0) R ls st h → zV X M_X7_size (zQm M_X7_size R) 0 0 192 ls st h := sd_iconst dX7_size_192 rfl (sd_iret dX7_size_193 rfl (Nat.le_of_ble_eq_true rfl) (Nat.le_of_ble_eq_true rfl))
theorem dX7_trouble_0 : decode cX7_trouble 0 = .ok (.aload_n 0, 1) := by decide +kernel
theorem dX7_trouble_1 : decode cX7_trouble 1 = .ok (.getfield 91, 3) := by decide +kernel
theorem dX7_trouble_4 : decode cX7_trouble 4 = .ok (.ireturn, 1) := by decide +kernel
def B_X7_trouble_0 (X : Nat × (Nat → Int32)) (J : Nat → zCf) (R : zRt) : zCf := oALOAD 0 (oGETI 7 5 (oIRET R))
set_option maxRecDepth 100000 in
theorem vb_X7_trouble_0 {X : Nat × (Nat → Int32)} {R : zRt} : ∀ ls st h, B_X7_trouble_0 X (zV X M_X7_trouble (zQm M_X7_trouble R) 0 0) R ls st h → zV X M_X7_trouble (zQm M_X7_trouble R) 0 0 0 ls st h := sd_aload_n dX7_trouble_0 rfl (sd_geti dX7_trouble_1 zCl7 (Nat.le_of_ble_eq_true rfl) lk_RX7_91 (Or.inl rfl) (sd_iret dX7_trouble_4 rfl (Nat.le_of_ble_eq_true rfl) (Nat.le_of_ble_eq_true rfl)))
theorem dX7_refuse_0 : decode cX7_refuse 0 = .ok (.aload_n 0, 1) := by decide +kernel
theorem dX7_refuse_1 : decode cX7_refuse 1 = .ok (.iload_n 1, 1) := by decide +kernel
theorem dX7_refuse_2 : decode cX7_refuse 2 = .ok (.putfield 91, 3) := by decide +kernel
theorem dX7_refuse_5 : decode cX7_refuse 5 = .ok (.iconst (-1), 1) := by decide +kernel
theorem dX7_refuse_6 : decode cX7_refuse 6 = .ok (.ireturn, 1) := by decide +kernel
def B_X7_refuse_0 (X : Nat × (Nat → Int32)) (J : Nat → zCf) (R : zRt) : zCf := oALOAD 0 (oILOAD 1 (oPUTI 7 5 (oPI (zj (-1)) (oIRET R))))
set_option maxRecDepth 100000 in
theorem vb_X7_refuse_0 {X : Nat × (Nat → Int32)} {R : zRt} : ∀ ls st h, B_X7_refuse_0 X (zV X M_X7_refuse (zQm M_X7_refuse R) 0 0) R ls st h → zV X M_X7_refuse (zQm M_X7_refuse R) 0 0 0 ls st h := sd_aload_n dX7_refuse_0 rfl (sd_iload_n dX7_refuse_1 rfl (sd_puti dX7_refuse_2 zCl7 (Nat.le_of_ble_eq_true rfl) lk_RX7_91 rfl (Or.inl rfl) (sd_iconst dX7_refuse_5 rfl (sd_iret dX7_refuse_6 rfl (Nat.le_of_ble_eq_true rfl) (Nat.le_of_ble_eq_true rfl)))))
theorem dX7_answer_0 : decode cX7_answer 0 = .ok (.aload_n 0, 1) := by decide +kernel
theorem dX7_answer_1 : decode cX7_answer 1 = .ok (.iconst 0, 1) := by decide +kernel
theorem dX7_answer_2 : decode cX7_answer 2 = .ok (.putfield 91, 3) := by decide +kernel
theorem dX7_answer_5 : decode cX7_answer 5 = .ok (.iload_n 1, 1) := by decide +kernel
theorem dX7_answer_6 : decode cX7_answer 6 = .ok (.ireturn, 1) := by decide +kernel
def B_X7_answer_0 (X : Nat × (Nat → Int32)) (J : Nat → zCf) (R : zRt) : zCf := oALOAD 0 (oPI (zj (0)) (oPUTI 7 5 (oILOAD 1 (oIRET R))))
set_option maxRecDepth 100000 in
theorem vb_X7_answer_0 {X : Nat × (Nat → Int32)} {R : zRt} : ∀ ls st h, B_X7_answer_0 X (zV X M_X7_answer (zQm M_X7_answer R) 0 0) R ls st h → zV X M_X7_answer (zQm M_X7_answer R) 0 0 0 ls st h := sd_aload_n dX7_answer_0 rfl (sd_iconst dX7_answer_1 rfl (sd_puti dX7_answer_2 zCl7 (Nat.le_of_ble_eq_true rfl) lk_RX7_91 rfl (Or.inl rfl) (sd_iload_n dX7_answer_5 rfl (sd_iret dX7_answer_6 rfl (Nat.le_of_ble_eq_true rfl) (Nat.le_of_ble_eq_true rfl)))))
theorem dX7_told_0 : decode cX7_told 0 = .ok (.aload_n 0, 1) := by decide +kernel
theorem dX7_told_1 : decode cX7_told 1 = .ok (.iload_n 1, 1) := by decide +kernel
theorem dX7_told_2 : decode cX7_told 2 = .ok (.ifCond .eq 7, 3) := by decide +kernel
theorem dX7_told_5 : decode cX7_told 5 = .ok (.iconst 0, 1) := by decide +kernel
theorem dX7_told_6 : decode cX7_told 6 = .ok (.goto 4, 3) := by decide +kernel
theorem dX7_told_9 : decode cX7_told 9 = .ok (.iload_n 2, 1) := by decide +kernel
theorem dX7_told_10 : decode cX7_told 10 = .ok (.putfield 91, 3) := by decide +kernel
theorem dX7_told_13 : decode cX7_told 13 = .ok (.iload_n 1, 1) := by decide +kernel
theorem dX7_told_14 : decode cX7_told 14 = .ok (.ireturn, 1) := by decide +kernel
def B_X7_told_0 (X : Nat × (Nat → Int32)) (J : Nat → zCf) (R : zRt) : zCf := oALOAD 0 (oILOAD 1 (oIFEQ (J 9) (oPI (zj (0)) (J 10))))
set_option maxRecDepth 100000 in
theorem vb_X7_told_0 {X : Nat × (Nat → Int32)} {R : zRt} : ∀ ls st h, B_X7_told_0 X (zV X M_X7_told (zQm M_X7_told R) 0 0) R ls st h → zV X M_X7_told (zQm M_X7_told R) 0 0 0 ls st h := sd_aload_n dX7_told_0 rfl (sd_iload_n dX7_told_1 rfl (sd_ifeq dX7_told_2 rfl (fun _ _ _ h => h) (sd_iconst dX7_told_5 rfl (sd_goto dX7_told_6 rfl (fun _ _ _ h => h)))))
def B_X7_told_9 (X : Nat × (Nat → Int32)) (J : Nat → zCf) (R : zRt) : zCf := oILOAD 2 (J 10)
set_option maxRecDepth 100000 in
theorem vb_X7_told_9 {X : Nat × (Nat → Int32)} {R : zRt} : ∀ ls st h, B_X7_told_9 X (zV X M_X7_told (zQm M_X7_told R) 0 0) R ls st h → zV X M_X7_told (zQm M_X7_told R) 0 0 9 ls st h := sd_iload_n dX7_told_9 rfl (fun _ _ _ h => h)
def B_X7_told_10 (X : Nat × (Nat → Int32)) (J : Nat → zCf) (R : zRt) : zCf := oPUTI 7 5 (oILOAD 1 (oZRET R))
set_option maxRecDepth 100000 in
theorem vb_X7_told_10 {X : Nat × (Nat → Int32)} {R : zRt} : ∀ ls st h, B_X7_told_10 X (zV X M_X7_told (zQm M_X7_told R) 0 0) R ls st h → zV X M_X7_told (zQm M_X7_told R) 0 0 10 ls st h := sd_puti dX7_told_10 zCl7 (Nat.le_of_ble_eq_true rfl) lk_RX7_91 rfl (Or.inl rfl) (sd_iload_n dX7_told_13 rfl (sd_zret dX7_told_14 rfl (Nat.le_of_ble_eq_true rfl) (Nat.le_of_ble_eq_true rfl)))
theorem dX7_noTube_0 : decode cX7_noTube 0 = .ok (.aload_n 0, 1) := by decide +kernel
theorem dX7_noTube_1 : decode cX7_noTube 1 = .ok (.getfield 19, 3) := by decide +kernel
theorem dX7_noTube_4 : decode cX7_noTube 4 = .ok (.getfield 77, 3) := by decide +kernel
theorem dX7_noTube_7 : decode cX7_noTube 7 = .ok (.getfield 80, 3) := by decide +kernel
theorem dX7_noTube_10 : decode cX7_noTube 10 = .ok (.ifCond .ne 7, 3) := by decide +kernel
theorem dX7_noTube_13 : decode cX7_noTube 13 = .ok (.iconst 1, 1) := by decide +kernel
theorem dX7_noTube_14 : decode cX7_noTube 14 = .ok (.goto 4, 3) := by decide +kernel
theorem dX7_noTube_17 : decode cX7_noTube 17 = .ok (.iconst 0, 1) := by decide +kernel
theorem dX7_noTube_18 : decode cX7_noTube 18 = .ok (.ireturn, 1) := by decide +kernel
def B_X7_noTube_0 (X : Nat × (Nat → Int32)) (J : Nat → zCf) (R : zRt) : zCf := oALOAD 0 (oGETR 7 1 (oGETR 4 0 (oGETI 1 1 (oIFNE (J 17) (oPI (zj (1)) (J 18))))))
set_option maxRecDepth 100000 in
theorem vb_X7_noTube_0 {X : Nat × (Nat → Int32)} {R : zRt} : ∀ ls st h, B_X7_noTube_0 X (zV X M_X7_noTube (zQm M_X7_noTube R) 0 0) R ls st h → zV X M_X7_noTube (zQm M_X7_noTube R) 0 0 0 ls st h := sd_aload_n dX7_noTube_0 rfl (sd_getr dX7_noTube_1 zCl7 (Nat.le_of_ble_eq_true rfl) lk_RX7_19 (Or.inl ⟨_, rfl⟩) (sd_getr dX7_noTube_4 zCl4 (Nat.le_of_ble_eq_true rfl) lk_RX7_77 (Or.inl ⟨_, rfl⟩) (sd_geti dX7_noTube_7 zCl1 (Nat.le_of_ble_eq_true rfl) lk_RX7_80 (Or.inl rfl) (sd_ifne dX7_noTube_10 rfl (fun _ _ _ h => h) (sd_iconst dX7_noTube_13 rfl (sd_goto dX7_noTube_14 rfl (fun _ _ _ h => h)))))))
def B_X7_noTube_17 (X : Nat × (Nat → Int32)) (J : Nat → zCf) (R : zRt) : zCf := oPI (zj (0)) (J 18)
set_option maxRecDepth 100000 in
theorem vb_X7_noTube_17 {X : Nat × (Nat → Int32)} {R : zRt} : ∀ ls st h, B_X7_noTube_17 X (zV X M_X7_noTube (zQm M_X7_noTube R) 0 0) R ls st h → zV X M_X7_noTube (zQm M_X7_noTube R) 0 0 17 ls st h := sd_iconst dX7_noTube_17 rfl (fun _ _ _ h => h)
def B_X7_noTube_18 (X : Nat × (Nat → Int32)) (J : Nat → zCf) (R : zRt) : zCf := oZRET R
set_option maxRecDepth 100000 in
theorem vb_X7_noTube_18 {X : Nat × (Nat → Int32)} {R : zRt} : ∀ ls st h, B_X7_noTube_18 X (zV X M_X7_noTube (zQm M_X7_noTube R) 0 0) R ls st h → zV X M_X7_noTube (zQm M_X7_noTube R) 0 0 18 ls st h := sd_zret dX7_noTube_18 rfl (Nat.le_of_ble_eq_true rfl) (Nat.le_of_ble_eq_true rfl)
theorem dX7_isBit_0 : decode cX7_isBit 0 = .ok (.iload_n 1, 1) := by decide +kernel
theorem dX7_isBit_1 : decode cX7_isBit 1 = .ok (.ifCond .lt 21, 3) := by decide +kernel
theorem dX7_isBit_4 : decode cX7_isBit 4 = .ok (.iload_n 1, 1) := by decide +kernel
theorem dX7_isBit_5 : decode cX7_isBit 5 = .ok (.aload_n 0, 1) := by decide +kernel
theorem dX7_isBit_6 : decode cX7_isBit 6 = .ok (.getfield 19, 3) := by decide +kernel
theorem dX7_isBit_9 : decode cX7_isBit 9 = .ok (.getfield 77, 3) := by decide +kernel
theorem dX7_isBit_12 : decode cX7_isBit 12 = .ok (.getfield 80, 3) := by decide +kernel
theorem dX7_isBit_15 : decode cX7_isBit 15 = .ok (.if_icmp .ge 7, 3) := by decide +kernel
theorem dX7_isBit_18 : decode cX7_isBit 18 = .ok (.iconst 1, 1) := by decide +kernel
theorem dX7_isBit_19 : decode cX7_isBit 19 = .ok (.goto 4, 3) := by decide +kernel
theorem dX7_isBit_22 : decode cX7_isBit 22 = .ok (.iconst 0, 1) := by decide +kernel
theorem dX7_isBit_23 : decode cX7_isBit 23 = .ok (.ireturn, 1) := by decide +kernel
def B_X7_isBit_0 (X : Nat × (Nat → Int32)) (J : Nat → zCf) (R : zRt) : zCf := oILOAD 1 (oIFLT (J 22) (oILOAD 1 (oALOAD 0 (oGETR 7 1 (oGETR 4 0 (oGETI 1 1 (oICGE (J 22) (oPI (zj (1)) (J 23)))))))))
set_option maxRecDepth 100000 in
theorem vb_X7_isBit_0 {X : Nat × (Nat → Int32)} {R : zRt} : ∀ ls st h, B_X7_isBit_0 X (zV X M_X7_isBit (zQm M_X7_isBit R) 0 0) R ls st h → zV X M_X7_isBit (zQm M_X7_isBit R) 0 0 0 ls st h := sd_iload_n dX7_isBit_0 rfl (sd_iflt dX7_isBit_1 rfl (fun _ _ _ h => h) (sd_iload_n dX7_isBit_4 rfl (sd_aload_n dX7_isBit_5 rfl (sd_getr dX7_isBit_6 zCl7 (Nat.le_of_ble_eq_true rfl) lk_RX7_19 (Or.inl ⟨_, rfl⟩) (sd_getr dX7_isBit_9 zCl4 (Nat.le_of_ble_eq_true rfl) lk_RX7_77 (Or.inl ⟨_, rfl⟩) (sd_geti dX7_isBit_12 zCl1 (Nat.le_of_ble_eq_true rfl) lk_RX7_80 (Or.inl rfl) (sd_icge dX7_isBit_15 rfl (fun _ _ _ h => h) (sd_iconst dX7_isBit_18 rfl (sd_goto dX7_isBit_19 rfl (fun _ _ _ h => h))))))))))
def B_X7_isBit_22 (X : Nat × (Nat → Int32)) (J : Nat → zCf) (R : zRt) : zCf := oPI (zj (0)) (J 23)
set_option maxRecDepth 100000 in
theorem vb_X7_isBit_22 {X : Nat × (Nat → Int32)} {R : zRt} : ∀ ls st h, B_X7_isBit_22 X (zV X M_X7_isBit (zQm M_X7_isBit R) 0 0) R ls st h → zV X M_X7_isBit (zQm M_X7_isBit R) 0 0 22 ls st h := sd_iconst dX7_isBit_22 rfl (fun _ _ _ h => h)
def B_X7_isBit_23 (X : Nat × (Nat → Int32)) (J : Nat → zCf) (R : zRt) : zCf := oZRET R
set_option maxRecDepth 100000 in
theorem vb_X7_isBit_23 {X : Nat × (Nat → Int32)} {R : zRt} : ∀ ls st h, B_X7_isBit_23 X (zV X M_X7_isBit (zQm M_X7_isBit R) 0 0) R ls st h → zV X M_X7_isBit (zQm M_X7_isBit R) 0 0 23 ls st h := sd_zret dX7_isBit_23 rfl (Nat.le_of_ble_eq_true rfl) (Nat.le_of_ble_eq_true rfl)
theorem dX7_isPerson_0 : decode cX7_isPerson 0 = .ok (.iload_n 1, 1) := by decide +kernel
theorem dX7_isPerson_1 : decode cX7_isPerson 1 = .ok (.ifCond .lt 21, 3) := by decide +kernel
theorem dX7_isPerson_4 : decode cX7_isPerson 4 = .ok (.iload_n 1, 1) := by decide +kernel
theorem dX7_isPerson_5 : decode cX7_isPerson 5 = .ok (.aload_n 0, 1) := by decide +kernel
theorem dX7_isPerson_6 : decode cX7_isPerson 6 = .ok (.getfield 19, 3) := by decide +kernel
theorem dX7_isPerson_9 : decode cX7_isPerson 9 = .ok (.getfield 77, 3) := by decide +kernel
theorem dX7_isPerson_12 : decode cX7_isPerson 12 = .ok (.getfield 334, 3) := by decide +kernel
theorem dX7_isPerson_15 : decode cX7_isPerson 15 = .ok (.if_icmp .ge 7, 3) := by decide +kernel
theorem dX7_isPerson_18 : decode cX7_isPerson 18 = .ok (.iconst 1, 1) := by decide +kernel
theorem dX7_isPerson_19 : decode cX7_isPerson 19 = .ok (.goto 4, 3) := by decide +kernel
theorem dX7_isPerson_22 : decode cX7_isPerson 22 = .ok (.iconst 0, 1) := by decide +kernel
theorem dX7_isPerson_23 : decode cX7_isPerson 23 = .ok (.ireturn, 1) := by decide +kernel
def B_X7_isPerson_0 (X : Nat × (Nat → Int32)) (J : Nat → zCf) (R : zRt) : zCf := oILOAD 1 (oIFLT (J 22) (oILOAD 1 (oALOAD 0 (oGETR 7 1 (oGETR 4 0 (oGETI 1 13 (oICGE (J 22) (oPI (zj (1)) (J 23)))))))))
set_option maxRecDepth 100000 in
theorem vb_X7_isPerson_0 {X : Nat × (Nat → Int32)} {R : zRt} : ∀ ls st h, B_X7_isPerson_0 X (zV X M_X7_isPerson (zQm M_X7_isPerson R) 0 0) R ls st h → zV X M_X7_isPerson (zQm M_X7_isPerson R) 0 0 0 ls st h := sd_iload_n dX7_isPerson_0 rfl (sd_iflt dX7_isPerson_1 rfl (fun _ _ _ h => h) (sd_iload_n dX7_isPerson_4 rfl (sd_aload_n dX7_isPerson_5 rfl (sd_getr dX7_isPerson_6 zCl7 (Nat.le_of_ble_eq_true rfl) lk_RX7_19 (Or.inl ⟨_, rfl⟩) (sd_getr dX7_isPerson_9 zCl4 (Nat.le_of_ble_eq_true rfl) lk_RX7_77 (Or.inl ⟨_, rfl⟩) (sd_geti dX7_isPerson_12 zCl1 (Nat.le_of_ble_eq_true rfl) lk_RX7_334 (Or.inl rfl) (sd_icge dX7_isPerson_15 rfl (fun _ _ _ h => h) (sd_iconst dX7_isPerson_18 rfl (sd_goto dX7_isPerson_19 rfl (fun _ _ _ h => h))))))))))
def B_X7_isPerson_22 (X : Nat × (Nat → Int32)) (J : Nat → zCf) (R : zRt) : zCf := oPI (zj (0)) (J 23)
set_option maxRecDepth 100000 in
theorem vb_X7_isPerson_22 {X : Nat × (Nat → Int32)} {R : zRt} : ∀ ls st h, B_X7_isPerson_22 X (zV X M_X7_isPerson (zQm M_X7_isPerson R) 0 0) R ls st h → zV X M_X7_isPerson (zQm M_X7_isPerson R) 0 0 22 ls st h := sd_iconst dX7_isPerson_22 rfl (fun _ _ _ h => h)
def B_X7_isPerson_23 (X : Nat × (Nat → Int32)) (J : Nat → zCf) (R : zRt) : zCf := oZRET R
set_option maxRecDepth 100000 in
theorem vb_X7_isPerson_23 {X : Nat × (Nat → Int32)} {R : zRt} : ∀ ls st h, B_X7_isPerson_23 X (zV X M_X7_isPerson (zQm M_X7_isPerson R) 0 0) R ls st h → zV X M_X7_isPerson (zQm M_X7_isPerson R) 0 0 23 ls st h := sd_zret dX7_isPerson_23 rfl (Nat.le_of_ble_eq_true rfl) (Nat.le_of_ble_eq_true rfl)
theorem dX7_isCell_0 : decode cX7_isCell 0 = .ok (.iload_n 0, 1) := by decide +kernel
theorem dX7_isCell_1 : decode cX7_isCell 1 = .ok (.ifCond .lt 13, 3) := by decide +kernel
theorem dX7_isCell_4 : decode cX7_isCell 4 = .ok (.iload_n 0, 1) := by decide +kernel
theorem dX7_isCell_5 : decode cX7_isCell 5 = .ok (.bipush 12, 2) := by decide +kernel
theorem dX7_isCell_7 : decode cX7_isCell 7 = .ok (.if_icmp .ge 7, 3) := by decide +kernel
theorem dX7_isCell_10 : decode cX7_isCell 10 = .ok (.iconst 1, 1) := by decide +kernel
theorem dX7_isCell_11 : decode cX7_isCell 11 = .ok (.goto 4, 3) := by decide +kernel
theorem dX7_isCell_14 : decode cX7_isCell 14 = .ok (.iconst 0, 1) := by decide +kernel
theorem dX7_isCell_15 : decode cX7_isCell 15 = .ok (.ireturn, 1) := by decide +kernel
def B_X7_isCell_0 (X : Nat × (Nat → Int32)) (J : Nat → zCf) (R : zRt) : zCf := oILOAD 0 (oIFLT (J 14) (oILOAD 0 (oPI (zj (12)) (oICGE (J 14) (oPI (zj (1)) (J 15))))))
set_option maxRecDepth 100000 in
theorem vb_X7_isCell_0 {X : Nat × (Nat → Int32)} {R : zRt} : ∀ ls st h, B_X7_isCell_0 X (zV X M_X7_isCell (zQm M_X7_isCell R) 0 0) R ls st h → zV X M_X7_isCell (zQm M_X7_isCell R) 0 0 0 ls st h := sd_iload_n dX7_isCell_0 rfl (sd_iflt dX7_isCell_1 rfl (fun _ _ _ h => h) (sd_iload_n dX7_isCell_4 rfl (sd_bipush dX7_isCell_5 rfl (sd_icge dX7_isCell_7 rfl (fun _ _ _ h => h) (sd_iconst dX7_isCell_10 rfl (sd_goto dX7_isCell_11 rfl (fun _ _ _ h => h)))))))
def B_X7_isCell_14 (X : Nat × (Nat → Int32)) (J : Nat → zCf) (R : zRt) : zCf := oPI (zj (0)) (J 15)
set_option maxRecDepth 100000 in
theorem vb_X7_isCell_14 {X : Nat × (Nat → Int32)} {R : zRt} : ∀ ls st h, B_X7_isCell_14 X (zV X M_X7_isCell (zQm M_X7_isCell R) 0 0) R ls st h → zV X M_X7_isCell (zQm M_X7_isCell R) 0 0 14 ls st h := sd_iconst dX7_isCell_14 rfl (fun _ _ _ h => h)
def B_X7_isCell_15 (X : Nat × (Nat → Int32)) (J : Nat → zCf) (R : zRt) : zCf := oZRET R
set_option maxRecDepth 100000 in
theorem vb_X7_isCell_15 {X : Nat × (Nat → Int32)} {R : zRt} : ∀ ls st h, B_X7_isCell_15 X (zV X M_X7_isCell (zQm M_X7_isCell R) 0 0) R ls st h → zV X M_X7_isCell (zQm M_X7_isCell R) 0 0 15 ls st h := sd_zret dX7_isCell_15 rfl (Nat.le_of_ble_eq_true rfl) (Nat.le_of_ble_eq_true rfl)
theorem dX7_isCountry_0 : decode cX7_isCountry 0 = .ok (.iload_n 0, 1) := by decide +kernel
theorem dX7_isCountry_1 : decode cX7_isCountry 1 = .ok (.ifCond .lt 13, 3) := by decide +kernel
theorem dX7_isCountry_4 : decode cX7_isCountry 4 = .ok (.iload_n 0, 1) := by decide +kernel
theorem dX7_isCountry_5 : decode cX7_isCountry 5 = .ok (.bipush 6, 2) := by decide +kernel
theorem dX7_isCountry_7 : decode cX7_isCountry 7 = .ok (.if_icmp .ge 7, 3) := by decide +kernel
theorem dX7_isCountry_10 : decode cX7_isCountry 10 = .ok (.iconst 1, 1) := by decide +kernel
theorem dX7_isCountry_11 : decode cX7_isCountry 11 = .ok (.goto 4, 3) := by decide +kernel
theorem dX7_isCountry_14 : decode cX7_isCountry 14 = .ok (.iconst 0, 1) := by decide +kernel
theorem dX7_isCountry_15 : decode cX7_isCountry 15 = .ok (.ireturn, 1) := by decide +kernel
def B_X7_isCountry_0 (X : Nat × (Nat → Int32)) (J : Nat → zCf) (R : zRt) : zCf := oILOAD 0 (oIFLT (J 14) (oILOAD 0 (oPI (zj (6)) (oICGE (J 14) (oPI (zj (1)) (J 15))))))
set_option maxRecDepth 100000 in
theorem vb_X7_isCountry_0 {X : Nat × (Nat → Int32)} {R : zRt} : ∀ ls st h, B_X7_isCountry_0 X (zV X M_X7_isCountry (zQm M_X7_isCountry R) 0 0) R ls st h → zV X M_X7_isCountry (zQm M_X7_isCountry R) 0 0 0 ls st h := sd_iload_n dX7_isCountry_0 rfl (sd_iflt dX7_isCountry_1 rfl (fun _ _ _ h => h) (sd_iload_n dX7_isCountry_4 rfl (sd_bipush dX7_isCountry_5 rfl (sd_icge dX7_isCountry_7 rfl (fun _ _ _ h => h) (sd_iconst dX7_isCountry_10 rfl (sd_goto dX7_isCountry_11 rfl (fun _ _ _ h => h)))))))
def B_X7_isCountry_14 (X : Nat × (Nat → Int32)) (J : Nat → zCf) (R : zRt) : zCf := oPI (zj (0)) (J 15)
set_option maxRecDepth 100000 in
theorem vb_X7_isCountry_14 {X : Nat × (Nat → Int32)} {R : zRt} : ∀ ls st h, B_X7_isCountry_14 X (zV X M_X7_isCountry (zQm M_X7_isCountry R) 0 0) R ls st h → zV X M_X7_isCountry (zQm M_X7_isCountry R) 0 0 14 ls st h := sd_iconst dX7_isCountry_14 rfl (fun _ _ _ h => h)
def B_X7_isCountry_15 (X : Nat × (Nat → Int32)) (J : Nat → zCf) (R : zRt) : zCf := oZRET R
set_option maxRecDepth 100000 in
theorem vb_X7_isCountry_15 {X : Nat × (Nat → Int32)} {R : zRt} : ∀ ls st h, B_X7_isCountry_15 X (zV X M_X7_isCountry (zQm M_X7_isCountry R) 0 0) R ls st h → zV X M_X7_isCountry (zQm M_X7_isCountry R) 0 0 15 ls st h := sd_zret dX7_isCountry_15 rfl (Nat.le_of_ble_eq_true rfl) (Nat.le_of_ble_eq_true rfl)
theorem dX7_isTurn_0 : decode cX7_isTurn 0 = .ok (.iload_n 0, 1) := by decide +kernel
theorem dX7_isTurn_1 : decode cX7_isTurn 1 = .ok (.bipush (-6), 2) := by decide +kernel
theorem dX7_isTurn_3 : decode cX7_isTurn 3 = .ok (.if_icmp .lt 13, 3) := by decide +kernel
theorem dX7_isTurn_6 : decode cX7_isTurn 6 = .ok (.iload_n 0, 1) := by decide +kernel
theorem dX7_isTurn_7 : decode cX7_isTurn 7 = .ok (.bipush 6, 2) := by decide +kernel
theorem dX7_isTurn_9 : decode cX7_isTurn 9 = .ok (.if_icmp .gt 7, 3) := by decide +kernel
theorem dX7_isTurn_12 : decode cX7_isTurn 12 = .ok (.iconst 1, 1) := by decide +kernel
theorem dX7_isTurn_13 : decode cX7_isTurn 13 = .ok (.goto 4, 3) := by decide +kernel
theorem dX7_isTurn_16 : decode cX7_isTurn 16 = .ok (.iconst 0, 1) := by decide +kernel
theorem dX7_isTurn_17 : decode cX7_isTurn 17 = .ok (.ireturn, 1) := by decide +kernel
def B_X7_isTurn_0 (X : Nat × (Nat → Int32)) (J : Nat → zCf) (R : zRt) : zCf := oILOAD 0 (oPI (zj (-6)) (oICLT (J 16) (oILOAD 0 (oPI (zj (6)) (oICGT (J 16) (oPI (zj (1)) (J 17)))))))
set_option maxRecDepth 100000 in
theorem vb_X7_isTurn_0 {X : Nat × (Nat → Int32)} {R : zRt} : ∀ ls st h, B_X7_isTurn_0 X (zV X M_X7_isTurn (zQm M_X7_isTurn R) 0 0) R ls st h → zV X M_X7_isTurn (zQm M_X7_isTurn R) 0 0 0 ls st h := sd_iload_n dX7_isTurn_0 rfl (sd_bipush dX7_isTurn_1 rfl (sd_iclt dX7_isTurn_3 rfl (fun _ _ _ h => h) (sd_iload_n dX7_isTurn_6 rfl (sd_bipush dX7_isTurn_7 rfl (sd_icgt dX7_isTurn_9 rfl (fun _ _ _ h => h) (sd_iconst dX7_isTurn_12 rfl (sd_goto dX7_isTurn_13 rfl (fun _ _ _ h => h))))))))
def B_X7_isTurn_16 (X : Nat × (Nat → Int32)) (J : Nat → zCf) (R : zRt) : zCf := oPI (zj (0)) (J 17)
set_option maxRecDepth 100000 in
theorem vb_X7_isTurn_16 {X : Nat × (Nat → Int32)} {R : zRt} : ∀ ls st h, B_X7_isTurn_16 X (zV X M_X7_isTurn (zQm M_X7_isTurn R) 0 0) R ls st h → zV X M_X7_isTurn (zQm M_X7_isTurn R) 0 0 16 ls st h := sd_iconst dX7_isTurn_16 rfl (fun _ _ _ h => h)
def B_X7_isTurn_17 (X : Nat × (Nat → Int32)) (J : Nat → zCf) (R : zRt) : zCf := oZRET R
set_option maxRecDepth 100000 in
theorem vb_X7_isTurn_17 {X : Nat × (Nat → Int32)} {R : zRt} : ∀ ls st h, B_X7_isTurn_17 X (zV X M_X7_isTurn (zQm M_X7_isTurn R) 0 0) R ls st h → zV X M_X7_isTurn (zQm M_X7_isTurn R) 0 0 17 ls st h := sd_zret dX7_isTurn_17 rfl (Nat.le_of_ble_eq_true rfl) (Nat.le_of_ble_eq_true rfl)
theorem dX7_isHandTurn_0 : decode cX7_isHandTurn 0 = .ok (.iload_n 0, 1) := by decide +kernel
theorem dX7_isHandTurn_1 : decode cX7_isHandTurn 1 = .ok (.bipush (-3), 2) := by decide +kernel
theorem dX7_isHandTurn_3 : decode cX7_isHandTurn 3 = .ok (.if_icmp .lt 12, 3) := by decide +kernel
theorem dX7_isHandTurn_6 : decode cX7_isHandTurn 6 = .ok (.iload_n 0, 1) := by decide +kernel
theorem dX7_isHandTurn_7 : decode cX7_isHandTurn 7 = .ok (.iconst 3, 1) := by decide +kernel
theorem dX7_isHandTurn_8 : decode cX7_isHandTurn 8 = .ok (.if_icmp .gt 7, 3) := by decide +kernel
theorem dX7_isHandTurn_11 : decode cX7_isHandTurn 11 = .ok (.iconst 1, 1) := by decide +kernel
theorem dX7_isHandTurn_12 : decode cX7_isHandTurn 12 = .ok (.goto 4, 3) := by decide +kernel
theorem dX7_isHandTurn_15 : decode cX7_isHandTurn 15 = .ok (.iconst 0, 1) := by decide +kernel
theorem dX7_isHandTurn_16 : decode cX7_isHandTurn 16 = .ok (.ireturn, 1) := by decide +kernel
def B_X7_isHandTurn_0 (X : Nat × (Nat → Int32)) (J : Nat → zCf) (R : zRt) : zCf := oILOAD 0 (oPI (zj (-3)) (oICLT (J 15) (oILOAD 0 (oPI (zj (3)) (oICGT (J 15) (oPI (zj (1)) (J 16)))))))
set_option maxRecDepth 100000 in
theorem vb_X7_isHandTurn_0 {X : Nat × (Nat → Int32)} {R : zRt} : ∀ ls st h, B_X7_isHandTurn_0 X (zV X M_X7_isHandTurn (zQm M_X7_isHandTurn R) 0 0) R ls st h → zV X M_X7_isHandTurn (zQm M_X7_isHandTurn R) 0 0 0 ls st h := sd_iload_n dX7_isHandTurn_0 rfl (sd_bipush dX7_isHandTurn_1 rfl (sd_iclt dX7_isHandTurn_3 rfl (fun _ _ _ h => h) (sd_iload_n dX7_isHandTurn_6 rfl (sd_iconst dX7_isHandTurn_7 rfl (sd_icgt dX7_isHandTurn_8 rfl (fun _ _ _ h => h) (sd_iconst dX7_isHandTurn_11 rfl (sd_goto dX7_isHandTurn_12 rfl (fun _ _ _ h => h))))))))
def B_X7_isHandTurn_15 (X : Nat × (Nat → Int32)) (J : Nat → zCf) (R : zRt) : zCf := oPI (zj (0)) (J 16)
set_option maxRecDepth 100000 in
theorem vb_X7_isHandTurn_15 {X : Nat × (Nat → Int32)} {R : zRt} : ∀ ls st h, B_X7_isHandTurn_15 X (zV X M_X7_isHandTurn (zQm M_X7_isHandTurn R) 0 0) R ls st h → zV X M_X7_isHandTurn (zQm M_X7_isHandTurn R) 0 0 15 ls st h := sd_iconst dX7_isHandTurn_15 rfl (fun _ _ _ h => h)
def B_X7_isHandTurn_16 (X : Nat × (Nat → Int32)) (J : Nat → zCf) (R : zRt) : zCf := oZRET R
set_option maxRecDepth 100000 in
theorem vb_X7_isHandTurn_16 {X : Nat × (Nat → Int32)} {R : zRt} : ∀ ls st h, B_X7_isHandTurn_16 X (zV X M_X7_isHandTurn (zQm M_X7_isHandTurn R) 0 0) R ls st h → zV X M_X7_isHandTurn (zQm M_X7_isHandTurn R) 0 0 16 ls st h := sd_zret dX7_isHandTurn_16 rfl (Nat.le_of_ble_eq_true rfl) (Nat.le_of_ble_eq_true rfl)
theorem dX7_isMadeLength_0 : decode cX7_isMadeLength 0 = .ok (.iload_n 0, 1) := by decide +kernel
theorem dX7_isMadeLength_1 : decode cX7_isMadeLength 1 = .ok (.ifCond .lt 12, 3) := by decide +kernel
theorem dX7_isMadeLength_4 : decode cX7_isMadeLength 4 = .ok (.iload_n 0, 1) := by decide +kernel
theorem dX7_isMadeLength_5 : decode cX7_isMadeLength 5 = .ok (.iconst 4, 1) := by decide +kernel
theorem dX7_isMadeLength_6 : decode cX7_isMadeLength 6 = .ok (.if_icmp .gt 7, 3) := by decide +kernel
theorem dX7_isMadeLength_9 : decode cX7_isMadeLength 9 = .ok (.iconst 1, 1) := by decide +kernel
theorem dX7_isMadeLength_10 : decode cX7_isMadeLength 10 = .ok (.goto 4, 3) := by decide +kernel
theorem dX7_isMadeLength_13 : decode cX7_isMadeLength 13 = .ok (.iconst 0, 1) := by decide +kernel
theorem dX7_isMadeLength_14 : decode cX7_isMadeLength 14 = .ok (.ireturn, 1) := by decide +kernel
def B_X7_isMadeLength_0 (X : Nat × (Nat → Int32)) (J : Nat → zCf) (R : zRt) : zCf := oILOAD 0 (oIFLT (J 13) (oILOAD 0 (oPI (zj (4)) (oICGT (J 13) (oPI (zj (1)) (J 14))))))
set_option maxRecDepth 100000 in
theorem vb_X7_isMadeLength_0 {X : Nat × (Nat → Int32)} {R : zRt} : ∀ ls st h, B_X7_isMadeLength_0 X (zV X M_X7_isMadeLength (zQm M_X7_isMadeLength R) 0 0) R ls st h → zV X M_X7_isMadeLength (zQm M_X7_isMadeLength R) 0 0 0 ls st h := sd_iload_n dX7_isMadeLength_0 rfl (sd_iflt dX7_isMadeLength_1 rfl (fun _ _ _ h => h) (sd_iload_n dX7_isMadeLength_4 rfl (sd_iconst dX7_isMadeLength_5 rfl (sd_icgt dX7_isMadeLength_6 rfl (fun _ _ _ h => h) (sd_iconst dX7_isMadeLength_9 rfl (sd_goto dX7_isMadeLength_10 rfl (fun _ _ _ h => h)))))))
def B_X7_isMadeLength_13 (X : Nat × (Nat → Int32)) (J : Nat → zCf) (R : zRt) : zCf := oPI (zj (0)) (J 14)
set_option maxRecDepth 100000 in
theorem vb_X7_isMadeLength_13 {X : Nat × (Nat → Int32)} {R : zRt} : ∀ ls st h, B_X7_isMadeLength_13 X (zV X M_X7_isMadeLength (zQm M_X7_isMadeLength R) 0 0) R ls st h → zV X M_X7_isMadeLength (zQm M_X7_isMadeLength R) 0 0 13 ls st h := sd_iconst dX7_isMadeLength_13 rfl (fun _ _ _ h => h)
def B_X7_isMadeLength_14 (X : Nat × (Nat → Int32)) (J : Nat → zCf) (R : zRt) : zCf := oZRET R
set_option maxRecDepth 100000 in
theorem vb_X7_isMadeLength_14 {X : Nat × (Nat → Int32)} {R : zRt} : ∀ ls st h, B_X7_isMadeLength_14 X (zV X M_X7_isMadeLength (zQm M_X7_isMadeLength R) 0 0) R ls st h → zV X M_X7_isMadeLength (zQm M_X7_isMadeLength R) 0 0 14 ls st h := sd_zret dX7_isMadeLength_14 rfl (Nat.le_of_ble_eq_true rfl) (Nat.le_of_ble_eq_true rfl)
theorem dX7_areRolls_0 : decode cX7_areRolls 0 = .ok (.iload_n 0, 1) := by decide +kernel
theorem dX7_areRolls_1 : decode cX7_areRolls 1 = .ok (.ifCond .lt 22, 3) := by decide +kernel
theorem dX7_areRolls_4 : decode cX7_areRolls 4 = .ok (.iload_n 0, 1) := by decide +kernel
theorem dX7_areRolls_5 : decode cX7_areRolls 5 = .ok (.bipush 8, 2) := by decide +kernel
theorem dX7_areRolls_7 : decode cX7_areRolls 7 = .ok (.if_icmp .gt 16, 3) := by decide +kernel
theorem dX7_areRolls_10 : decode cX7_areRolls 10 = .ok (.iload_n 1, 1) := by decide +kernel
theorem dX7_areRolls_11 : decode cX7_areRolls 11 = .ok (.ifCond .lt 12, 3) := by decide +kernel
theorem dX7_areRolls_14 : decode cX7_areRolls 14 = .ok (.iload_n 1, 1) := by decide +kernel
theorem dX7_areRolls_15 : decode cX7_areRolls 15 = .ok (.iload_n 0, 1) := by decide +kernel
theorem dX7_areRolls_16 : decode cX7_areRolls 16 = .ok (.if_icmp .gt 7, 3) := by decide +kernel
theorem dX7_areRolls_19 : decode cX7_areRolls 19 = .ok (.iconst 1, 1) := by decide +kernel
theorem dX7_areRolls_20 : decode cX7_areRolls 20 = .ok (.goto 4, 3) := by decide +kernel
theorem dX7_areRolls_23 : decode cX7_areRolls 23 = .ok (.iconst 0, 1) := by decide +kernel
theorem dX7_areRolls_24 : decode cX7_areRolls 24 = .ok (.ireturn, 1) := by decide +kernel
def B_X7_areRolls_0 (X : Nat × (Nat → Int32)) (J : Nat → zCf) (R : zRt) : zCf := oILOAD 0 (oIFLT (J 23) (oILOAD 0 (oPI (zj (8)) (oICGT (J 23) (oILOAD 1 (oIFLT (J 23) (oILOAD 1 (oILOAD 0 (oICGT (J 23) (oPI (zj (1)) (J 24)))))))))))
set_option maxRecDepth 100000 in
theorem vb_X7_areRolls_0 {X : Nat × (Nat → Int32)} {R : zRt} : ∀ ls st h, B_X7_areRolls_0 X (zV X M_X7_areRolls (zQm M_X7_areRolls R) 0 0) R ls st h → zV X M_X7_areRolls (zQm M_X7_areRolls R) 0 0 0 ls st h := sd_iload_n dX7_areRolls_0 rfl (sd_iflt dX7_areRolls_1 rfl (fun _ _ _ h => h) (sd_iload_n dX7_areRolls_4 rfl (sd_bipush dX7_areRolls_5 rfl (sd_icgt dX7_areRolls_7 rfl (fun _ _ _ h => h) (sd_iload_n dX7_areRolls_10 rfl (sd_iflt dX7_areRolls_11 rfl (fun _ _ _ h => h) (sd_iload_n dX7_areRolls_14 rfl (sd_iload_n dX7_areRolls_15 rfl (sd_icgt dX7_areRolls_16 rfl (fun _ _ _ h => h) (sd_iconst dX7_areRolls_19 rfl (sd_goto dX7_areRolls_20 rfl (fun _ _ _ h => h))))))))))))
def B_X7_areRolls_23 (X : Nat × (Nat → Int32)) (J : Nat → zCf) (R : zRt) : zCf := oPI (zj (0)) (J 24)
set_option maxRecDepth 100000 in
theorem vb_X7_areRolls_23 {X : Nat × (Nat → Int32)} {R : zRt} : ∀ ls st h, B_X7_areRolls_23 X (zV X M_X7_areRolls (zQm M_X7_areRolls R) 0 0) R ls st h → zV X M_X7_areRolls (zQm M_X7_areRolls R) 0 0 23 ls st h := sd_iconst dX7_areRolls_23 rfl (fun _ _ _ h => h)
def B_X7_areRolls_24 (X : Nat × (Nat → Int32)) (J : Nat → zCf) (R : zRt) : zCf := oZRET R
set_option maxRecDepth 100000 in
theorem vb_X7_areRolls_24 {X : Nat × (Nat → Int32)} {R : zRt} : ∀ ls st h, B_X7_areRolls_24 X (zV X M_X7_areRolls (zQm M_X7_areRolls R) 0 0) R ls st h → zV X M_X7_areRolls (zQm M_X7_areRolls R) 0 0 24 ls st h := sd_zret dX7_areRolls_24 rfl (Nat.le_of_ble_eq_true rfl) (Nat.le_of_ble_eq_true rfl)
theorem dX7_areShakes_0 : decode cX7_areShakes 0 = .ok (.iload_n 0, 1) := by decide +kernel
theorem dX7_areShakes_1 : decode cX7_areShakes 1 = .ok (.ifCond .lt 24, 3) := by decide +kernel
theorem dX7_areShakes_4 : decode cX7_areShakes 4 = .ok (.iload_n 0, 1) := by decide +kernel
theorem dX7_areShakes_5 : decode cX7_areShakes 5 = .ok (.ldc_w 343, 3) := by decide +kernel
theorem dX7_areShakes_8 : decode cX7_areShakes 8 = .ok (.if_icmp .gt 17, 3) := by decide +kernel
theorem dX7_areShakes_11 : decode cX7_areShakes 11 = .ok (.iload_n 1, 1) := by decide +kernel
theorem dX7_areShakes_12 : decode cX7_areShakes 12 = .ok (.ifCond .lt 13, 3) := by decide +kernel
theorem dX7_areShakes_15 : decode cX7_areShakes 15 = .ok (.iload_n 1, 1) := by decide +kernel
theorem dX7_areShakes_16 : decode cX7_areShakes 16 = .ok (.bipush 60, 2) := by decide +kernel
theorem dX7_areShakes_18 : decode cX7_areShakes 18 = .ok (.if_icmp .gt 7, 3) := by decide +kernel
theorem dX7_areShakes_21 : decode cX7_areShakes 21 = .ok (.iconst 1, 1) := by decide +kernel
theorem dX7_areShakes_22 : decode cX7_areShakes 22 = .ok (.goto 4, 3) := by decide +kernel
theorem dX7_areShakes_25 : decode cX7_areShakes 25 = .ok (.iconst 0, 1) := by decide +kernel
theorem dX7_areShakes_26 : decode cX7_areShakes 26 = .ok (.ireturn, 1) := by decide +kernel
def B_X7_areShakes_0 (X : Nat × (Nat → Int32)) (J : Nat → zCf) (R : zRt) : zCf := oILOAD 0 (oIFLT (J 25) (oILOAD 0 (oPI (zj (65536)) (oICGT (J 25) (oILOAD 1 (oIFLT (J 25) (oILOAD 1 (oPI (zj (60)) (oICGT (J 25) (oPI (zj (1)) (J 26)))))))))))
set_option maxRecDepth 100000 in
theorem vb_X7_areShakes_0 {X : Nat × (Nat → Int32)} {R : zRt} : ∀ ls st h, B_X7_areShakes_0 X (zV X M_X7_areShakes (zQm M_X7_areShakes R) 0 0) R ls st h → zV X M_X7_areShakes (zQm M_X7_areShakes R) 0 0 0 ls st h := sd_iload_n dX7_areShakes_0 rfl (sd_iflt dX7_areShakes_1 rfl (fun _ _ _ h => h) (sd_iload_n dX7_areShakes_4 rfl (sd_ldc_w dX7_areShakes_5 (zmt (zt4 (i := 160) rfl) rfl) (sd_icgt dX7_areShakes_8 rfl (fun _ _ _ h => h) (sd_iload_n dX7_areShakes_11 rfl (sd_iflt dX7_areShakes_12 rfl (fun _ _ _ h => h) (sd_iload_n dX7_areShakes_15 rfl (sd_bipush dX7_areShakes_16 rfl (sd_icgt dX7_areShakes_18 rfl (fun _ _ _ h => h) (sd_iconst dX7_areShakes_21 rfl (sd_goto dX7_areShakes_22 rfl (fun _ _ _ h => h))))))))))))
def B_X7_areShakes_25 (X : Nat × (Nat → Int32)) (J : Nat → zCf) (R : zRt) : zCf := oPI (zj (0)) (J 26)
set_option maxRecDepth 100000 in
theorem vb_X7_areShakes_25 {X : Nat × (Nat → Int32)} {R : zRt} : ∀ ls st h, B_X7_areShakes_25 X (zV X M_X7_areShakes (zQm M_X7_areShakes R) 0 0) R ls st h → zV X M_X7_areShakes (zQm M_X7_areShakes R) 0 0 25 ls st h := sd_iconst dX7_areShakes_25 rfl (fun _ _ _ h => h)
def B_X7_areShakes_26 (X : Nat × (Nat → Int32)) (J : Nat → zCf) (R : zRt) : zCf := oZRET R
set_option maxRecDepth 100000 in
theorem vb_X7_areShakes_26 {X : Nat × (Nat → Int32)} {R : zRt} : ∀ ls st h, B_X7_areShakes_26 X (zV X M_X7_areShakes (zQm M_X7_areShakes R) 0 0) R ls st h → zV X M_X7_areShakes (zQm M_X7_areShakes R) 0 0 26 ls st h := sd_zret dX7_areShakes_26 rfl (Nat.le_of_ble_eq_true rfl) (Nat.le_of_ble_eq_true rfl)
theorem dX7_aimAt_0 : decode cX7_aimAt 0 = .ok (.iconst 0, 1) := by decide +kernel
theorem dX7_aimAt_1 : decode cX7_aimAt 1 = .ok (.istore_n 2, 1) := by decide +kernel
theorem dX7_aimAt_2 : decode cX7_aimAt 2 = .ok (.iload_n 2, 1) := by decide +kernel
theorem dX7_aimAt_3 : decode cX7_aimAt 3 = .ok (.bipush 12, 2) := by decide +kernel
theorem dX7_aimAt_5 : decode cX7_aimAt 5 = .ok (.if_icmp .ge 39, 3) := by decide +kernel
theorem dX7_aimAt_8 : decode cX7_aimAt 8 = .ok (.iconst 0, 1) := by decide +kernel
theorem dX7_aimAt_9 : decode cX7_aimAt 9 = .ok (.istore_n 3, 1) := by decide +kernel
theorem dX7_aimAt_10 : decode cX7_aimAt 10 = .ok (.iload_n 3, 1) := by decide +kernel
theorem dX7_aimAt_11 : decode cX7_aimAt 11 = .ok (.bipush 12, 2) := by decide +kernel
theorem dX7_aimAt_13 : decode cX7_aimAt 13 = .ok (.if_icmp .ge 25, 3) := by decide +kernel
theorem dX7_aimAt_16 : decode cX7_aimAt 16 = .ok (.aload_n 0, 1) := by decide +kernel
theorem dX7_aimAt_17 : decode cX7_aimAt 17 = .ok (.getfield 33, 3) := by decide +kernel
theorem dX7_aimAt_20 : decode cX7_aimAt 20 = .ok (.iload_n 2, 1) := by decide +kernel
theorem dX7_aimAt_21 : decode cX7_aimAt 21 = .ok (.iload_n 3, 1) := by decide +kernel
theorem dX7_aimAt_22 : decode cX7_aimAt 22 = .ok (.aload_n 0, 1) := by decide +kernel
theorem dX7_aimAt_23 : decode cX7_aimAt 23 = .ok (.iload_n 1, 1) := by decide +kernel
theorem dX7_aimAt_24 : decode cX7_aimAt 24 = .ok (.iload_n 2, 1) := by decide +kernel
theorem dX7_aimAt_25 : decode cX7_aimAt 25 = .ok (.iload_n 3, 1) := by decide +kernel
theorem dX7_aimAt_26 : decode cX7_aimAt 26 = .ok (.invokevirtual 344, 3) := by decide +kernel
theorem dX7_aimAt_29 : decode cX7_aimAt 29 = .ok (.invokevirtual 347, 3) := by decide +kernel
theorem dX7_aimAt_32 : decode cX7_aimAt 32 = .ok (.iinc 3 1, 3) := by decide +kernel
theorem dX7_aimAt_35 : decode cX7_aimAt 35 = .ok (.goto (-25), 3) := by decide +kernel
theorem dX7_aimAt_38 : decode cX7_aimAt 38 = .ok (.iinc 2 1, 3) := by decide +kernel
theorem dX7_aimAt_41 : decode cX7_aimAt 41 = .ok (.goto (-39), 3) := by decide +kernel
theorem dX7_aimAt_44 : decode cX7_aimAt 44 = .ok (.return_, 1) := by decide +kernel
def B_X7_aimAt_0 (X : Nat × (Nat → Int32)) (J : Nat → zCf) (R : zRt) : zCf := oPI (zj (0)) (oISTORE 1 2 (J 2))
set_option maxRecDepth 100000 in
theorem vb_X7_aimAt_0 {X : Nat × (Nat → Int32)} {R : zRt} : ∀ ls st h, B_X7_aimAt_0 X (zV X M_X7_aimAt (zQm M_X7_aimAt R) 0 0) R ls st h → zV X M_X7_aimAt (zQm M_X7_aimAt R) 0 0 0 ls st h := sd_iconst dX7_aimAt_0 rfl (sd_istore_n dX7_aimAt_1 rfl (Nat.le_of_ble_eq_true rfl) (Or.inl rfl) (fun _ _ _ h => h))
def B_X7_aimAt_2 (X : Nat × (Nat → Int32)) (J : Nat → zCf) (R : zRt) : zCf := oILOAD 2 (oPI (zj (12)) (oICGE (J 44) (oPI (zj (0)) (oISTORE 2 3 (J 10)))))
set_option maxRecDepth 100000 in
theorem vb_X7_aimAt_2 {X : Nat × (Nat → Int32)} {R : zRt} : ∀ ls st h, B_X7_aimAt_2 X (zV X M_X7_aimAt (zQm M_X7_aimAt R) 0 0) R ls st h → zV X M_X7_aimAt (zQm M_X7_aimAt R) 0 0 2 ls st h := sd_iload_n dX7_aimAt_2 rfl (sd_bipush dX7_aimAt_3 rfl (sd_icge dX7_aimAt_5 rfl (fun _ _ _ h => h) (sd_iconst dX7_aimAt_8 rfl (sd_istore_n dX7_aimAt_9 rfl (Nat.le_of_ble_eq_true rfl) (Or.inl rfl) (fun _ _ _ h => h)))))
def B_X7_aimAt_10 (X : Nat × (Nat → Int32)) (J : Nat → zCf) (R : zRt) : zCf := oILOAD 3 (oPI (zj (12)) (oICGE (J 38) (oALOAD 0 (oGETR 7 3 (oILOAD 2 (oILOAD 3 (oALOAD 0 (oILOAD 1 (oILOAD 2 (oILOAD 3 (oINV3 X M_X7_isAt 7 (oINV3 X M_X3_aim 3 (oIINC 2 3 (zj (1)) (J 10))))))))))))))
set_option maxRecDepth 100000 in
theorem vb_X7_aimAt_10 {X : Nat × (Nat → Int32)} {R : zRt} : ∀ ls st h, B_X7_aimAt_10 X (zV X M_X7_aimAt (zQm M_X7_aimAt R) 0 0) R ls st h → zV X M_X7_aimAt (zQm M_X7_aimAt R) 0 0 10 ls st h := sd_iload_n dX7_aimAt_10 rfl (sd_bipush dX7_aimAt_11 rfl (sd_icge dX7_aimAt_13 rfl (fun _ _ _ h => h) (sd_aload_n dX7_aimAt_16 rfl (sd_getr dX7_aimAt_17 zCl7 (Nat.le_of_ble_eq_true rfl) lk_RX7_33 (Or.inl ⟨_, rfl⟩) (sd_iload_n dX7_aimAt_20 rfl (sd_iload_n dX7_aimAt_21 rfl (sd_aload_n dX7_aimAt_22 rfl (sd_iload_n dX7_aimAt_23 rfl (sd_iload_n dX7_aimAt_24 rfl (sd_iload_n dX7_aimAt_25 rfl (sd_inv3 dX7_aimAt_26 rfl mv_X7_isAt na_X7_isAt ml_RX7_344 ⟨⟨Nat.le_of_ble_eq_true rfl, Nat.le_of_ble_eq_true rfl⟩, ⟨Nat.le_of_ble_eq_true rfl, Nat.le_of_ble_eq_true rfl⟩⟩ (sd_inv3 dX7_aimAt_29 rfl mv_X3_aim na_X3_aim ml_RX7_347 ⟨⟨Nat.le_of_ble_eq_true rfl, Nat.le_of_ble_eq_true rfl⟩, ⟨Nat.le_of_ble_eq_true rfl, Nat.le_of_ble_eq_true rfl⟩⟩ (sd_iinc dX7_aimAt_32 rfl (Nat.le_of_ble_eq_true rfl) (Or.inl rfl) (sd_goto dX7_aimAt_35 rfl (fun _ _ _ h => h)))))))))))))))
def B_X7_aimAt_38 (X : Nat × (Nat → Int32)) (J : Nat → zCf) (R : zRt) : zCf := oIINC 1 2 (zj (1)) (J 2)
set_option maxRecDepth 100000 in
theorem vb_X7_aimAt_38 {X : Nat × (Nat → Int32)} {R : zRt} : ∀ ls st h, B_X7_aimAt_38 X (zV X M_X7_aimAt (zQm M_X7_aimAt R) 0 0) R ls st h → zV X M_X7_aimAt (zQm M_X7_aimAt R) 0 0 38 ls st h := sd_iinc dX7_aimAt_38 rfl (Nat.le_of_ble_eq_true rfl) (Or.inl rfl) (sd_goto dX7_aimAt_41 rfl (fun _ _ _ h => h))
def B_X7_aimAt_44 (X : Nat × (Nat → Int32)) (J : Nat → zCf) (R : zRt) : zCf := oVRET R
set_option maxRecDepth 100000 in
theorem vb_X7_aimAt_44 {X : Nat × (Nat → Int32)} {R : zRt} : ∀ ls st h, B_X7_aimAt_44 X (zV X M_X7_aimAt (zQm M_X7_aimAt R) 0 0) R ls st h → zV X M_X7_aimAt (zQm M_X7_aimAt R) 0 0 44 ls st h := sd_vret dX7_aimAt_44 rfl (Nat.le_of_ble_eq_true rfl) (Nat.le_of_ble_eq_true rfl)
theorem dX7_isAt_0 : decode cX7_isAt 0 = .ok (.iload_n 1, 1) := by decide +kernel
theorem dX7_isAt_1 : decode cX7_isAt 1 = .ok (.lookupswitch 50 #[(0, 27), (1, 37)], 27) := by decide +kernel
theorem dX7_isAt_28 : decode cX7_isAt 28 = .ok (.aload_n 0, 1) := by decide +kernel
theorem dX7_isAt_29 : decode cX7_isAt 29 = .ok (.getfield 19, 3) := by decide +kernel
theorem dX7_isAt_32 : decode cX7_isAt 32 = .ok (.iload_n 2, 1) := by decide +kernel
theorem dX7_isAt_33 : decode cX7_isAt 33 = .ok (.iload_n 3, 1) := by decide +kernel
theorem dX7_isAt_34 : decode cX7_isAt 34 = .ok (.invokevirtual 280, 3) := by decide +kernel
theorem dX7_isAt_37 : decode cX7_isAt 37 = .ok (.ireturn, 1) := by decide +kernel
theorem dX7_isAt_38 : decode cX7_isAt 38 = .ok (.aload_n 0, 1) := by decide +kernel
theorem dX7_isAt_39 : decode cX7_isAt 39 = .ok (.getfield 19, 3) := by decide +kernel
theorem dX7_isAt_42 : decode cX7_isAt 42 = .ok (.getfield 77, 3) := by decide +kernel
theorem dX7_isAt_45 : decode cX7_isAt 45 = .ok (.iload_n 2, 1) := by decide +kernel
theorem dX7_isAt_46 : decode cX7_isAt 46 = .ok (.iload_n 3, 1) := by decide +kernel
theorem dX7_isAt_47 : decode cX7_isAt 47 = .ok (.invokevirtual 351, 3) := by decide +kernel
theorem dX7_isAt_50 : decode cX7_isAt 50 = .ok (.ireturn, 1) := by decide +kernel
theorem dX7_isAt_51 : decode cX7_isAt 51 = .ok (.aload_n 0, 1) := by decide +kernel
theorem dX7_isAt_52 : decode cX7_isAt 52 = .ok (.getfield 19, 3) := by decide +kernel
theorem dX7_isAt_55 : decode cX7_isAt 55 = .ok (.getfield 77, 3) := by decide +kernel
theorem dX7_isAt_58 : decode cX7_isAt 58 = .ok (.iload_n 2, 1) := by decide +kernel
theorem dX7_isAt_59 : decode cX7_isAt 59 = .ok (.iload_n 3, 1) := by decide +kernel
theorem dX7_isAt_60 : decode cX7_isAt 60 = .ok (.invokevirtual 354, 3) := by decide +kernel
theorem dX7_isAt_63 : decode cX7_isAt 63 = .ok (.ireturn, 1) := by decide +kernel
def B_X7_isAt_0 (X : Nat × (Nat → Int32)) (J : Nat → zCf) (R : zRt) : zCf := oILOAD 1 (oLSW (J 28) (J 38) (J 51))
set_option maxRecDepth 100000 in
theorem vb_X7_isAt_0 {X : Nat × (Nat → Int32)} {R : zRt} : ∀ ls st h, B_X7_isAt_0 X (zV X M_X7_isAt (zQm M_X7_isAt R) 0 0) R ls st h → zV X M_X7_isAt (zQm M_X7_isAt R) 0 0 0 ls st h := sd_iload_n dX7_isAt_0 rfl (sd_lsw dX7_isAt_1 rfl rfl rfl (fun _ _ _ h => h) (fun _ _ _ h => h) (fun _ _ _ h => h))
def B_X7_isAt_28 (X : Nat × (Nat → Int32)) (J : Nat → zCf) (R : zRt) : zCf := oALOAD 0 (oGETR 7 1 (oILOAD 2 (oILOAD 3 (oINV2 X M_X4_allRight 4 (oZRET R)))))
set_option maxRecDepth 100000 in
theorem vb_X7_isAt_28 {X : Nat × (Nat → Int32)} {R : zRt} : ∀ ls st h, B_X7_isAt_28 X (zV X M_X7_isAt (zQm M_X7_isAt R) 0 0) R ls st h → zV X M_X7_isAt (zQm M_X7_isAt R) 0 0 28 ls st h := sd_aload_n dX7_isAt_28 rfl (sd_getr dX7_isAt_29 zCl7 (Nat.le_of_ble_eq_true rfl) lk_RX7_19 (Or.inl ⟨_, rfl⟩) (sd_iload_n dX7_isAt_32 rfl (sd_iload_n dX7_isAt_33 rfl (sd_inv2 dX7_isAt_34 rfl mv_X4_allRight na_X4_allRight ml_RX7_280 ⟨⟨Nat.le_of_ble_eq_true rfl, Nat.le_of_ble_eq_true rfl⟩, ⟨Nat.le_of_ble_eq_true rfl, Nat.le_of_ble_eq_true rfl⟩⟩ (sd_zret dX7_isAt_37 rfl (Nat.le_of_ble_eq_true rfl) (Nat.le_of_ble_eq_true rfl))))))
def B_X7_isAt_38 (X : Nat × (Nat → Int32)) (J : Nat → zCf) (R : zRt) : zCf := oALOAD 0 (oGETR 7 1 (oGETR 4 0 (oILOAD 2 (oILOAD 3 (oINV2 X M_X1_allAfter 1 (oZRET R))))))
set_option maxRecDepth 100000 in
theorem vb_X7_isAt_38 {X : Nat × (Nat → Int32)} {R : zRt} : ∀ ls st h, B_X7_isAt_38 X (zV X M_X7_isAt (zQm M_X7_isAt R) 0 0) R ls st h → zV X M_X7_isAt (zQm M_X7_isAt R) 0 0 38 ls st h := sd_aload_n dX7_isAt_38 rfl (sd_getr dX7_isAt_39 zCl7 (Nat.le_of_ble_eq_true rfl) lk_RX7_19 (Or.inl ⟨_, rfl⟩) (sd_getr dX7_isAt_42 zCl4 (Nat.le_of_ble_eq_true rfl) lk_RX7_77 (Or.inl ⟨_, rfl⟩) (sd_iload_n dX7_isAt_45 rfl (sd_iload_n dX7_isAt_46 rfl (sd_inv2 dX7_isAt_47 rfl mv_X1_allAfter na_X1_allAfter ml_RX7_351 ⟨⟨Nat.le_of_ble_eq_true rfl, Nat.le_of_ble_eq_true rfl⟩, ⟨Nat.le_of_ble_eq_true rfl, Nat.le_of_ble_eq_true rfl⟩⟩ (sd_zret dX7_isAt_50 rfl (Nat.le_of_ble_eq_true rfl) (Nat.le_of_ble_eq_true rfl)))))))
def B_X7_isAt_51 (X : Nat × (Nat → Int32)) (J : Nat → zCf) (R : zRt) : zCf := oALOAD 0 (oGETR 7 1 (oGETR 4 0 (oILOAD 2 (oILOAD 3 (oINV2 X M_X1_movesNone 1 (oZRET R))))))
set_option maxRecDepth 100000 in
theorem vb_X7_isAt_51 {X : Nat × (Nat → Int32)} {R : zRt} : ∀ ls st h, B_X7_isAt_51 X (zV X M_X7_isAt (zQm M_X7_isAt R) 0 0) R ls st h → zV X M_X7_isAt (zQm M_X7_isAt R) 0 0 51 ls st h := sd_aload_n dX7_isAt_51 rfl (sd_getr dX7_isAt_52 zCl7 (Nat.le_of_ble_eq_true rfl) lk_RX7_19 (Or.inl ⟨_, rfl⟩) (sd_getr dX7_isAt_55 zCl4 (Nat.le_of_ble_eq_true rfl) lk_RX7_77 (Or.inl ⟨_, rfl⟩) (sd_iload_n dX7_isAt_58 rfl (sd_iload_n dX7_isAt_59 rfl (sd_inv2 dX7_isAt_60 rfl mv_X1_movesNone na_X1_movesNone ml_RX7_354 ⟨⟨Nat.le_of_ble_eq_true rfl, Nat.le_of_ble_eq_true rfl⟩, ⟨Nat.le_of_ble_eq_true rfl, Nat.le_of_ble_eq_true rfl⟩⟩ (sd_zret dX7_isAt_63 rfl (Nat.le_of_ble_eq_true rfl) (Nat.le_of_ble_eq_true rfl)))))))
theorem dX7_shareOf_0 : decode cX7_shareOf 0 = .ok (.iload_n 1, 1) := by decide +kernel
theorem dX7_shareOf_1 : decode cX7_shareOf 1 = .ok (.iload_n 2, 1) := by decide +kernel
theorem dX7_shareOf_2 : decode cX7_shareOf 2 = .ok (.iadd, 1) := by decide +kernel
theorem dX7_shareOf_3 : decode cX7_shareOf 3 = .ok (.istore 4, 2) := by decide +kernel
theorem dX7_shareOf_5 : decode cX7_shareOf 5 = .ok (.aload_n 0, 1) := by decide +kernel
theorem dX7_shareOf_6 : decode cX7_shareOf 6 = .ok (.getfield 19, 3) := by decide +kernel
theorem dX7_shareOf_9 : decode cX7_shareOf 9 = .ok (.iload 4, 2) := by decide +kernel
theorem dX7_shareOf_11 : decode cX7_shareOf 11 = .ok (.iload 4, 2) := by decide +kernel
theorem dX7_shareOf_13 : decode cX7_shareOf 13 = .ok (.invokestatic 154, 3) := by decide +kernel
theorem dX7_shareOf_16 : decode cX7_shareOf 16 = .ok (.invokevirtual 157, 3) := by decide +kernel
theorem dX7_shareOf_19 : decode cX7_shareOf 19 = .ok (.istore 5, 2) := by decide +kernel
theorem dX7_shareOf_21 : decode cX7_shareOf 21 = .ok (.iload_n 3, 1) := by decide +kernel
theorem dX7_shareOf_22 : decode cX7_shareOf 22 = .ok (.ifCond .eq 24, 3) := by decide +kernel
theorem dX7_shareOf_25 : decode cX7_shareOf 25 = .ok (.aload_n 0, 1) := by decide +kernel
theorem dX7_shareOf_26 : decode cX7_shareOf 26 = .ok (.getfield 19, 3) := by decide +kernel
theorem dX7_shareOf_29 : decode cX7_shareOf 29 = .ok (.getfield 77, 3) := by decide +kernel
theorem dX7_shareOf_32 : decode cX7_shareOf 32 = .ok (.getfield 80, 3) := by decide +kernel
theorem dX7_shareOf_35 : decode cX7_shareOf 35 = .ok (.iload 5, 2) := by decide +kernel
theorem dX7_shareOf_37 : decode cX7_shareOf 37 = .ok (.isub, 1) := by decide +kernel
theorem dX7_shareOf_38 : decode cX7_shareOf 38 = .ok (.iload_n 2, 1) := by decide +kernel
theorem dX7_shareOf_39 : decode cX7_shareOf 39 = .ok (.invokestatic 357, 3) := by decide +kernel
theorem dX7_shareOf_42 : decode cX7_shareOf 42 = .ok (.isub, 1) := by decide +kernel
theorem dX7_shareOf_43 : decode cX7_shareOf 43 = .ok (.goto 10, 3) := by decide +kernel
theorem dX7_shareOf_46 : decode cX7_shareOf 46 = .ok (.iload 5, 2) := by decide +kernel
theorem dX7_shareOf_48 : decode cX7_shareOf 48 = .ok (.iload_n 1, 1) := by decide +kernel
theorem dX7_shareOf_49 : decode cX7_shareOf 49 = .ok (.invokestatic 357, 3) := by decide +kernel
theorem dX7_shareOf_52 : decode cX7_shareOf 52 = .ok (.isub, 1) := by decide +kernel
theorem dX7_shareOf_53 : decode cX7_shareOf 53 = .ok (.ireturn, 1) := by decide +kernel
def B_X7_shareOf_0 (X : Nat × (Nat → Int32)) (J : Nat → zCf) (R : zRt) : zCf := oILOAD 1 (oILOAD 2 (oIADD (oISTORE 3 4 (oALOAD 0 (oGETR 7 1 (oILOAD 4 (oILOAD 4 (oINS1 X M_X7_half (oINV2 X M_X4_topCount 4 (oISTORE 4 5 (oILOAD 3 (oIFEQ (J 46) (oALOAD 0 (oGETR 7 1 (oGETR 4 0 (oGETI 1 1 (oILOAD 5 (oISUB (oILOAD 2 (oINS1 X M_J9_abs_0f7a4 (oISUB (J 53))))))))))))))))))))))
set_option maxRecDepth 100000 in
theorem vb_X7_shareOf_0 {X : Nat × (Nat → Int32)} {R : zRt} : ∀ ls st h, B_X7_shareOf_0 X (zV X M_X7_shareOf (zQm M_X7_shareOf R) 0 0) R ls st h → zV X M_X7_shareOf (zQm M_X7_shareOf R) 0 0 0 ls st h := sd_iload_n dX7_shareOf_0 rfl (sd_iload_n dX7_shareOf_1 rfl (sd_iadd dX7_shareOf_2 (sd_istore dX7_shareOf_3 (Nat.le_of_ble_eq_true rfl) (Or.inl rfl) (sd_aload_n dX7_shareOf_5 rfl (sd_getr dX7_shareOf_6 zCl7 (Nat.le_of_ble_eq_true rfl) lk_RX7_19 (Or.inl ⟨_, rfl⟩) (sd_iload dX7_shareOf_9 (sd_iload dX7_shareOf_11 (sd_ins1 dX7_shareOf_13 ms_X7_half na_X7_half ml_RX7_154 ⟨⟨Nat.le_of_ble_eq_true rfl, Nat.le_of_ble_eq_true rfl⟩, ⟨Nat.le_of_ble_eq_true rfl, Nat.le_of_ble_eq_true rfl⟩⟩ (sd_inv2 dX7_shareOf_16 rfl mv_X4_topCount na_X4_topCount ml_RX7_157 ⟨⟨Nat.le_of_ble_eq_true rfl, Nat.le_of_ble_eq_true rfl⟩, ⟨Nat.le_of_ble_eq_true rfl, Nat.le_of_ble_eq_true rfl⟩⟩ (sd_istore dX7_shareOf_19 (Nat.le_of_ble_eq_true rfl) (Or.inl rfl) (sd_iload_n dX7_shareOf_21 rfl (sd_ifeq dX7_shareOf_22 rfl (fun _ _ _ h => h) (sd_aload_n dX7_shareOf_25 rfl (sd_getr dX7_shareOf_26 zCl7 (Nat.le_of_ble_eq_true rfl) lk_RX7_19 (Or.inl ⟨_, rfl⟩) (sd_getr dX7_shareOf_29 zCl4 (Nat.le_of_ble_eq_true rfl) lk_RX7_77 (Or.inl ⟨_, rfl⟩) (sd_geti dX7_shareOf_32 zCl1 (Nat.le_of_ble_eq_true rfl) lk_RX7_80 (Or.inl rfl) (sd_iload dX7_shareOf_35 (sd_isub dX7_shareOf_37 (sd_iload_n dX7_shareOf_38 rfl (sd_ins1 dX7_shareOf_39 ms_J9_abs_0f7a4 na_J9_abs_0f7a4 ml_RX7_357 ⟨⟨Nat.le_of_ble_eq_true rfl, Nat.le_of_ble_eq_true rfl⟩, ⟨Nat.le_of_ble_eq_true rfl, Nat.le_of_ble_eq_true rfl⟩⟩ (sd_isub dX7_shareOf_42 (sd_goto dX7_shareOf_43 rfl (fun _ _ _ h => h)))))))))))))))))))))))
def B_X7_shareOf_46 (X : Nat × (Nat → Int32)) (J : Nat → zCf) (R : zRt) : zCf := oILOAD 5 (oILOAD 1 (oINS1 X M_J9_abs_0f7a4 (oISUB (J 53))))
set_option maxRecDepth 100000 in
theorem vb_X7_shareOf_46 {X : Nat × (Nat → Int32)} {R : zRt} : ∀ ls st h, B_X7_shareOf_46 X (zV X M_X7_shareOf (zQm M_X7_shareOf R) 0 0) R ls st h → zV X M_X7_shareOf (zQm M_X7_shareOf R) 0 0 46 ls st h := sd_iload dX7_shareOf_46 (sd_iload_n dX7_shareOf_48 rfl (sd_ins1 dX7_shareOf_49 ms_J9_abs_0f7a4 na_J9_abs_0f7a4 ml_RX7_357 ⟨⟨Nat.le_of_ble_eq_true rfl, Nat.le_of_ble_eq_true rfl⟩, ⟨Nat.le_of_ble_eq_true rfl, Nat.le_of_ble_eq_true rfl⟩⟩ (sd_isub dX7_shareOf_52 (fun _ _ _ h => h))))
def B_X7_shareOf_53 (X : Nat × (Nat → Int32)) (J : Nat → zCf) (R : zRt) : zCf := oIRET R
set_option maxRecDepth 100000 in
theorem vb_X7_shareOf_53 {X : Nat × (Nat → Int32)} {R : zRt} : ∀ ls st h, B_X7_shareOf_53 X (zV X M_X7_shareOf (zQm M_X7_shareOf R) 0 0) R ls st h → zV X M_X7_shareOf (zQm M_X7_shareOf R) 0 0 53 ls st h := sd_iret dX7_shareOf_53 rfl (Nat.le_of_ble_eq_true rfl) (Nat.le_of_ble_eq_true rfl)
theorem dX7_isRest_0 : decode cX7_isRest 0 = .ok (.aload_n 0, 1) := by decide +kernel
theorem dX7_isRest_1 : decode cX7_isRest 1 = .ok (.iload_n 1, 1) := by decide +kernel
theorem dX7_isRest_2 : decode cX7_isRest 2 = .ok (.iload_n 2, 1) := by decide +kernel
theorem dX7_isRest_3 : decode cX7_isRest 3 = .ok (.iconst 0, 1) := by decide +kernel
theorem dX7_isRest_4 : decode cX7_isRest 4 = .ok (.invokevirtual 254, 3) := by decide +kernel
theorem dX7_isRest_7 : decode cX7_isRest 7 = .ok (.istore_n 3, 1) := by decide +kernel
theorem dX7_isRest_8 : decode cX7_isRest 8 = .ok (.aload_n 0, 1) := by decide +kernel
theorem dX7_isRest_9 : decode cX7_isRest 9 = .ok (.iload_n 1, 1) := by decide +kernel
theorem dX7_isRest_10 : decode cX7_isRest 10 = .ok (.iload_n 2, 1) := by decide +kernel
theorem dX7_isRest_11 : decode cX7_isRest 11 = .ok (.iconst 1, 1) := by decide +kernel
theorem dX7_isRest_12 : decode cX7_isRest 12 = .ok (.invokevirtual 254, 3) := by decide +kernel
theorem dX7_isRest_15 : decode cX7_isRest 15 = .ok (.istore 4, 2) := by decide +kernel
theorem dX7_isRest_17 : decode cX7_isRest 17 = .ok (.bipush (-3), 2) := by decide +kernel
theorem dX7_isRest_19 : decode cX7_isRest 19 = .ok (.istore 5, 2) := by decide +kernel
theorem dX7_isRest_21 : decode cX7_isRest 21 = .ok (.iload 5, 2) := by decide +kernel
theorem dX7_isRest_23 : decode cX7_isRest 23 = .ok (.iconst 3, 1) := by decide +kernel
theorem dX7_isRest_24 : decode cX7_isRest 24 = .ok (.if_icmp .gt 36, 3) := by decide +kernel
theorem dX7_isRest_27 : decode cX7_isRest 27 = .ok (.aload_n 0, 1) := by decide +kernel
theorem dX7_isRest_28 : decode cX7_isRest 28 = .ok (.iload 5, 2) := by decide +kernel
theorem dX7_isRest_30 : decode cX7_isRest 30 = .ok (.iload_n 2, 1) := by decide +kernel
theorem dX7_isRest_31 : decode cX7_isRest 31 = .ok (.iconst 0, 1) := by decide +kernel
theorem dX7_isRest_32 : decode cX7_isRest 32 = .ok (.invokevirtual 254, 3) := by decide +kernel
theorem dX7_isRest_35 : decode cX7_isRest 35 = .ok (.iload_n 3, 1) := by decide +kernel
theorem dX7_isRest_36 : decode cX7_isRest 36 = .ok (.if_icmp .gt 16, 3) := by decide +kernel
theorem dX7_isRest_39 : decode cX7_isRest 39 = .ok (.aload_n 0, 1) := by decide +kernel
theorem dX7_isRest_40 : decode cX7_isRest 40 = .ok (.iload_n 1, 1) := by decide +kernel
theorem dX7_isRest_41 : decode cX7_isRest 41 = .ok (.iload 5, 2) := by decide +kernel
theorem dX7_isRest_43 : decode cX7_isRest 43 = .ok (.iconst 1, 1) := by decide +kernel
theorem dX7_isRest_44 : decode cX7_isRest 44 = .ok (.invokevirtual 254, 3) := by decide +kernel
theorem dX7_isRest_47 : decode cX7_isRest 47 = .ok (.iload 4, 2) := by decide +kernel
theorem dX7_isRest_49 : decode cX7_isRest 49 = .ok (.if_icmp .le 5, 3) := by decide +kernel
theorem dX7_isRest_52 : decode cX7_isRest 52 = .ok (.iconst 0, 1) := by decide +kernel
theorem dX7_isRest_53 : decode cX7_isRest 53 = .ok (.ireturn, 1) := by decide +kernel
theorem dX7_isRest_54 : decode cX7_isRest 54 = .ok (.iinc 5 1, 3) := by decide +kernel
theorem dX7_isRest_57 : decode cX7_isRest 57 = .ok (.goto (-36), 3) := by decide +kernel
theorem dX7_isRest_60 : decode cX7_isRest 60 = .ok (.iconst 1, 1) := by decide +kernel
theorem dX7_isRest_61 : decode cX7_isRest 61 = .ok (.ireturn, 1) := by decide +kernel
def B_X7_isRest_0 (X : Nat × (Nat → Int32)) (J : Nat → zCf) (R : zRt) : zCf := oALOAD 0 (oILOAD 1 (oILOAD 2 (oPI (zj (0)) (oINV3 X M_X7_shareOf 7 (oISTORE 2 3 (oALOAD 0 (oILOAD 1 (oILOAD 2 (oPI (zj (1)) (oINV3 X M_X7_shareOf 7 (oISTORE 3 4 (oPI (zj (-3)) (oISTORE 4 5 (J 21))))))))))))))
set_option maxRecDepth 100000 in
theorem vb_X7_isRest_0 {X : Nat × (Nat → Int32)} {R : zRt} : ∀ ls st h, B_X7_isRest_0 X (zV X M_X7_isRest (zQm M_X7_isRest R) 0 0) R ls st h → zV X M_X7_isRest (zQm M_X7_isRest R) 0 0 0 ls st h := sd_aload_n dX7_isRest_0 rfl (sd_iload_n dX7_isRest_1 rfl (sd_iload_n dX7_isRest_2 rfl (sd_iconst dX7_isRest_3 rfl (sd_inv3 dX7_isRest_4 rfl mv_X7_shareOf na_X7_shareOf ml_RX7_254 ⟨⟨Nat.le_of_ble_eq_true rfl, Nat.le_of_ble_eq_true rfl⟩, ⟨Nat.le_of_ble_eq_true rfl, Nat.le_of_ble_eq_true rfl⟩⟩ (sd_istore_n dX7_isRest_7 rfl (Nat.le_of_ble_eq_true rfl) (Or.inl rfl) (sd_aload_n dX7_isRest_8 rfl (sd_iload_n dX7_isRest_9 rfl (sd_iload_n dX7_isRest_10 rfl (sd_iconst dX7_isRest_11 rfl (sd_inv3 dX7_isRest_12 rfl mv_X7_shareOf na_X7_shareOf ml_RX7_254 ⟨⟨Nat.le_of_ble_eq_true rfl, Nat.le_of_ble_eq_true rfl⟩, ⟨Nat.le_of_ble_eq_true rfl, Nat.le_of_ble_eq_true rfl⟩⟩ (sd_istore dX7_isRest_15 (Nat.le_of_ble_eq_true rfl) (Or.inl rfl) (sd_bipush dX7_isRest_17 rfl (sd_istore dX7_isRest_19 (Nat.le_of_ble_eq_true rfl) (Or.inl rfl) (fun _ _ _ h => h))))))))))))))
def B_X7_isRest_21 (X : Nat × (Nat → Int32)) (J : Nat → zCf) (R : zRt) : zCf := oILOAD 5 (oPI (zj (3)) (oICGT (J 60) (oALOAD 0 (oILOAD 5 (oILOAD 2 (oPI (zj (0)) (oINV3 X M_X7_shareOf 7 (oILOAD 3 (oICGT (J 52) (oALOAD 0 (oILOAD 1 (oILOAD 5 (oPI (zj (1)) (oINV3 X M_X7_shareOf 7 (oILOAD 4 (oICLE (J 54) (J 52)))))))))))))))))
set_option maxRecDepth 100000 in
theorem vb_X7_isRest_21 {X : Nat × (Nat → Int32)} {R : zRt} : ∀ ls st h, B_X7_isRest_21 X (zV X M_X7_isRest (zQm M_X7_isRest R) 0 0) R ls st h → zV X M_X7_isRest (zQm M_X7_isRest R) 0 0 21 ls st h := sd_iload dX7_isRest_21 (sd_iconst dX7_isRest_23 rfl (sd_icgt dX7_isRest_24 rfl (fun _ _ _ h => h) (sd_aload_n dX7_isRest_27 rfl (sd_iload dX7_isRest_28 (sd_iload_n dX7_isRest_30 rfl (sd_iconst dX7_isRest_31 rfl (sd_inv3 dX7_isRest_32 rfl mv_X7_shareOf na_X7_shareOf ml_RX7_254 ⟨⟨Nat.le_of_ble_eq_true rfl, Nat.le_of_ble_eq_true rfl⟩, ⟨Nat.le_of_ble_eq_true rfl, Nat.le_of_ble_eq_true rfl⟩⟩ (sd_iload_n dX7_isRest_35 rfl (sd_icgt dX7_isRest_36 rfl (fun _ _ _ h => h) (sd_aload_n dX7_isRest_39 rfl (sd_iload_n dX7_isRest_40 rfl (sd_iload dX7_isRest_41 (sd_iconst dX7_isRest_43 rfl (sd_inv3 dX7_isRest_44 rfl mv_X7_shareOf na_X7_shareOf ml_RX7_254 ⟨⟨Nat.le_of_ble_eq_true rfl, Nat.le_of_ble_eq_true rfl⟩, ⟨Nat.le_of_ble_eq_true rfl, Nat.le_of_ble_eq_true rfl⟩⟩ (sd_iload dX7_isRest_47 (sd_icle dX7_isRest_49 rfl (fun _ _ _ h => h) (fun _ _ _ h => h)))))))))))))))))
def B_X7_isRest_52 (X : Nat × (Nat → Int32)) (J : Nat → zCf) (R : zRt) : zCf := oPI (zj (0)) (oZRET R)
set_option maxRecDepth 100000 in
theorem vb_X7_isRest_52 {X : Nat × (Nat → Int32)} {R : zRt} : ∀ ls st h, B_X7_isRest_52 X (zV X M_X7_isRest (zQm M_X7_isRest R) 0 0) R ls st h → zV X M_X7_isRest (zQm M_X7_isRest R) 0 0 52 ls st h := sd_iconst dX7_isRest_52 rfl (sd_zret dX7_isRest_53 rfl (Nat.le_of_ble_eq_true rfl) (Nat.le_of_ble_eq_true rfl))
def B_X7_isRest_54 (X : Nat × (Nat → Int32)) (J : Nat → zCf) (R : zRt) : zCf := oIINC 4 5 (zj (1)) (J 21)
set_option maxRecDepth 100000 in
theorem vb_X7_isRest_54 {X : Nat × (Nat → Int32)} {R : zRt} : ∀ ls st h, B_X7_isRest_54 X (zV X M_X7_isRest (zQm M_X7_isRest R) 0 0) R ls st h → zV X M_X7_isRest (zQm M_X7_isRest R) 0 0 54 ls st h := sd_iinc dX7_isRest_54 rfl (Nat.le_of_ble_eq_true rfl) (Or.inl rfl) (sd_goto dX7_isRest_57 rfl (fun _ _ _ h => h))
def B_X7_isRest_60 (X : Nat × (Nat → Int32)) (J : Nat → zCf) (R : zRt) : zCf := oPI (zj (1)) (oZRET R)
set_option maxRecDepth 100000 in
theorem vb_X7_isRest_60 {X : Nat × (Nat → Int32)} {R : zRt} : ∀ ls st h, B_X7_isRest_60 X (zV X M_X7_isRest (zQm M_X7_isRest R) 0 0) R ls st h → zV X M_X7_isRest (zQm M_X7_isRest R) 0 0 60 ls st h := sd_iconst dX7_isRest_60 rfl (sd_zret dX7_isRest_61 rfl (Nat.le_of_ble_eq_true rfl) (Nat.le_of_ble_eq_true rfl))
theorem dX7_oddsPart_0 : decode cX7_oddsPart 0 = .ok (.lconst 0, 1) := by decide +kernel
theorem dX7_oddsPart_1 : decode cX7_oddsPart 1 = .ok (.lstore 5, 2) := by decide +kernel
theorem dX7_oddsPart_3 : decode cX7_oddsPart 3 = .ok (.iload_n 2, 1) := by decide +kernel
theorem dX7_oddsPart_4 : decode cX7_oddsPart 4 = .ok (.istore 7, 2) := by decide +kernel
theorem dX7_oddsPart_6 : decode cX7_oddsPart 6 = .ok (.iload 7, 2) := by decide +kernel
theorem dX7_oddsPart_8 : decode cX7_oddsPart 8 = .ok (.iload_n 3, 1) := by decide +kernel
theorem dX7_oddsPart_9 : decode cX7_oddsPart 9 = .ok (.if_icmp .gt 59, 3) := by decide +kernel
theorem dX7_oddsPart_12 : decode cX7_oddsPart 12 = .ok (.lload 5, 2) := by decide +kernel
theorem dX7_oddsPart_14 : decode cX7_oddsPart 14 = .ok (.iload_n 1, 1) := by decide +kernel
theorem dX7_oddsPart_15 : decode cX7_oddsPart 15 = .ok (.iload 7, 2) := by decide +kernel
theorem dX7_oddsPart_17 : decode cX7_oddsPart 17 = .ok (.invokestatic 362, 3) := by decide +kernel
theorem dX7_oddsPart_20 : decode cX7_oddsPart 20 = .ok (.aload_n 0, 1) := by decide +kernel
theorem dX7_oddsPart_21 : decode cX7_oddsPart 21 = .ok (.getfield 19, 3) := by decide +kernel
theorem dX7_oddsPart_24 : decode cX7_oddsPart 24 = .ok (.getfield 77, 3) := by decide +kernel
theorem dX7_oddsPart_27 : decode cX7_oddsPart 27 = .ok (.getfield 322, 3) := by decide +kernel
theorem dX7_oddsPart_30 : decode cX7_oddsPart 30 = .ok (.i2l, 1) := by decide +kernel
theorem dX7_oddsPart_31 : decode cX7_oddsPart 31 = .ok (.iload 7, 2) := by decide +kernel
theorem dX7_oddsPart_33 : decode cX7_oddsPart 33 = .ok (.invokestatic 366, 3) := by decide +kernel
theorem dX7_oddsPart_36 : decode cX7_oddsPart 36 = .ok (.lmul, 1) := by decide +kernel
theorem dX7_oddsPart_37 : decode cX7_oddsPart 37 = .ok (.bipush 100, 2) := by decide +kernel
theorem dX7_oddsPart_39 : decode cX7_oddsPart 39 = .ok (.aload_n 0, 1) := by decide +kernel
theorem dX7_oddsPart_40 : decode cX7_oddsPart 40 = .ok (.getfield 19, 3) := by decide +kernel
theorem dX7_oddsPart_43 : decode cX7_oddsPart 43 = .ok (.getfield 77, 3) := by decide +kernel
theorem dX7_oddsPart_46 : decode cX7_oddsPart 46 = .ok (.getfield 322, 3) := by decide +kernel
theorem dX7_oddsPart_49 : decode cX7_oddsPart 49 = .ok (.isub, 1) := by decide +kernel
theorem dX7_oddsPart_50 : decode cX7_oddsPart 50 = .ok (.i2l, 1) := by decide +kernel
theorem dX7_oddsPart_51 : decode cX7_oddsPart 51 = .ok (.iload_n 1, 1) := by decide +kernel
theorem dX7_oddsPart_52 : decode cX7_oddsPart 52 = .ok (.iload 7, 2) := by decide +kernel
theorem dX7_oddsPart_54 : decode cX7_oddsPart 54 = .ok (.isub, 1) := by decide +kernel
theorem dX7_oddsPart_55 : decode cX7_oddsPart 55 = .ok (.invokestatic 366, 3) := by decide +kernel
theorem dX7_oddsPart_58 : decode cX7_oddsPart 58 = .ok (.lmul, 1) := by decide +kernel
theorem dX7_oddsPart_59 : decode cX7_oddsPart 59 = .ok (.ladd, 1) := by decide +kernel
theorem dX7_oddsPart_60 : decode cX7_oddsPart 60 = .ok (.lstore 5, 2) := by decide +kernel
theorem dX7_oddsPart_62 : decode cX7_oddsPart 62 = .ok (.iinc 7 1, 3) := by decide +kernel
theorem dX7_oddsPart_65 : decode cX7_oddsPart 65 = .ok (.goto (-59), 3) := by decide +kernel
theorem dX7_oddsPart_68 : decode cX7_oddsPart 68 = .ok (.ldc2_w 370, 3) := by decide +kernel
theorem dX7_oddsPart_71 : decode cX7_oddsPart 71 = .ok (.iload_n 1, 1) := by decide +kernel
theorem dX7_oddsPart_72 : decode cX7_oddsPart 72 = .ok (.invokestatic 366, 3) := by decide +kernel
theorem dX7_oddsPart_75 : decode cX7_oddsPart 75 = .ok (.lstore 7, 2) := by decide +kernel
theorem dX7_oddsPart_77 : decode cX7_oddsPart 77 = .ok (.lload 5, 2) := by decide +kernel
theorem dX7_oddsPart_79 : decode cX7_oddsPart 79 = .ok (.lload 7, 2) := by decide +kernel
theorem dX7_oddsPart_81 : decode cX7_oddsPart 81 = .ok (.invokestatic 372, 3) := by decide +kernel
theorem dX7_oddsPart_84 : decode cX7_oddsPart 84 = .ok (.lstore 9, 2) := by decide +kernel
theorem dX7_oddsPart_86 : decode cX7_oddsPart 86 = .ok (.lload 9, 2) := by decide +kernel
theorem dX7_oddsPart_88 : decode cX7_oddsPart 88 = .ok (.lconst 0, 1) := by decide +kernel
theorem dX7_oddsPart_89 : decode cX7_oddsPart 89 = .ok (.lcmp, 1) := by decide +kernel
theorem dX7_oddsPart_90 : decode cX7_oddsPart 90 = .ok (.ifCond .gt 14, 3) := by decide +kernel
theorem dX7_oddsPart_93 : decode cX7_oddsPart 93 = .ok (.iload 4, 2) := by decide +kernel
theorem dX7_oddsPart_95 : decode cX7_oddsPart 95 = .ok (.ifCond .eq 7, 3) := by decide +kernel
theorem dX7_oddsPart_98 : decode cX7_oddsPart 98 = .ok (.lconst 1, 1) := by decide +kernel
theorem dX7_oddsPart_99 : decode cX7_oddsPart 99 = .ok (.goto 4, 3) := by decide +kernel
theorem dX7_oddsPart_102 : decode cX7_oddsPart 102 = .ok (.lconst 0, 1) := by decide +kernel
theorem dX7_oddsPart_103 : decode cX7_oddsPart 103 = .ok (.lreturn, 1) := by decide +kernel
theorem dX7_oddsPart_104 : decode cX7_oddsPart 104 = .ok (.iload 4, 2) := by decide +kernel
theorem dX7_oddsPart_106 : decode cX7_oddsPart 106 = .ok (.ifCond .eq 11, 3) := by decide +kernel
theorem dX7_oddsPart_109 : decode cX7_oddsPart 109 = .ok (.lload 7, 2) := by decide +kernel
theorem dX7_oddsPart_111 : decode cX7_oddsPart 111 = .ok (.lload 9, 2) := by decide +kernel
theorem dX7_oddsPart_113 : decode cX7_oddsPart 113 = .ok (.ldiv, 1) := by decide +kernel
theorem dX7_oddsPart_114 : decode cX7_oddsPart 114 = .ok (.goto 8, 3) := by decide +kernel
theorem dX7_oddsPart_117 : decode cX7_oddsPart 117 = .ok (.lload 5, 2) := by decide +kernel
theorem dX7_oddsPart_119 : decode cX7_oddsPart 119 = .ok (.lload 9, 2) := by decide +kernel
theorem dX7_oddsPart_121 : decode cX7_oddsPart 121 = .ok (.ldiv, 1) := by decide +kernel
theorem dX7_oddsPart_122 : decode cX7_oddsPart 122 = .ok (.lreturn, 1) := by decide +kernel
def B_X7_oddsPart_0 (X : Nat × (Nat → Int32)) (J : Nat → zCf) (R : zRt) : zCf := oPL (zk (0)) (oLSTORE 4 5 (oILOAD 2 (oISTORE 6 7 (J 6))))
set_option maxRecDepth 100000 in
theorem vb_X7_oddsPart_0 {X : Nat × (Nat → Int32)} {R : zRt} : ∀ ls st h, B_X7_oddsPart_0 X (zV X M_X7_oddsPart (zQm M_X7_oddsPart R) 0 0) R ls st h → zV X M_X7_oddsPart (zQm M_X7_oddsPart R) 0 0 0 ls st h := sd_lconst dX7_oddsPart_0 rfl (sd_lstore dX7_oddsPart_1 (Nat.le_of_ble_eq_true rfl) (Or.inl rfl) (sd_iload_n dX7_oddsPart_3 rfl (sd_istore dX7_oddsPart_4 (Nat.le_of_ble_eq_true rfl) (Or.inl rfl) (fun _ _ _ h => h))))
def B_X7_oddsPart_6 (X : Nat × (Nat → Int32)) (J : Nat → zCf) (R : zRt) : zCf := oILOAD 7 (oILOAD 3 (oICGT (J 68) (oLLOAD 5 (oILOAD 1 (oILOAD 7 (oINS2 X M_X7_choices (oALOAD 0 (oGETR 7 1 (oGETR 4 0 (oGETI 1 0 (oI2L (oILOAD 7 (oINS2 X M_X7_power (oLMUL (oPI (zj (100)) (oALOAD 0 (oGETR 7 1 (oGETR 4 0 (oGETI 1 0 (oISUB (oI2L (oILOAD 1 (oILOAD 7 (oISUB (oINS2 X M_X7_power (oLMUL (oLADD (oLSTORE 4 5 (oIINC 6 7 (zj (1)) (J 6))))))))))))))))))))))))))))))
set_option maxRecDepth 100000 in
theorem vb_X7_oddsPart_6 {X : Nat × (Nat → Int32)} {R : zRt} : ∀ ls st h, B_X7_oddsPart_6 X (zV X M_X7_oddsPart (zQm M_X7_oddsPart R) 0 0) R ls st h → zV X M_X7_oddsPart (zQm M_X7_oddsPart R) 0 0 6 ls st h := sd_iload dX7_oddsPart_6 (sd_iload_n dX7_oddsPart_8 rfl (sd_icgt dX7_oddsPart_9 rfl (fun _ _ _ h => h) (sd_lload dX7_oddsPart_12 (sd_iload_n dX7_oddsPart_14 rfl (sd_iload dX7_oddsPart_15 (sd_ins2 dX7_oddsPart_17 ms_X7_choices na_X7_choices ml_RX7_362 ⟨⟨Nat.le_of_ble_eq_true rfl, Nat.le_of_ble_eq_true rfl⟩, ⟨Nat.le_of_ble_eq_true rfl, Nat.le_of_ble_eq_true rfl⟩⟩ (sd_aload_n dX7_oddsPart_20 rfl (sd_getr dX7_oddsPart_21 zCl7 (Nat.le_of_ble_eq_true rfl) lk_RX7_19 (Or.inl ⟨_, rfl⟩) (sd_getr dX7_oddsPart_24 zCl4 (Nat.le_of_ble_eq_true rfl) lk_RX7_77 (Or.inl ⟨_, rfl⟩) (sd_geti dX7_oddsPart_27 zCl1 (Nat.le_of_ble_eq_true rfl) lk_RX7_322 (Or.inl rfl) (sd_i2l dX7_oddsPart_30 (sd_iload dX7_oddsPart_31 (sd_ins2 dX7_oddsPart_33 ms_X7_power na_X7_power ml_RX7_366 ⟨⟨Nat.le_of_ble_eq_true rfl, Nat.le_of_ble_eq_true rfl⟩, ⟨Nat.le_of_ble_eq_true rfl, Nat.le_of_ble_eq_true rfl⟩⟩ (sd_lmul dX7_oddsPart_36 (sd_bipush dX7_oddsPart_37 rfl (sd_aload_n dX7_oddsPart_39 rfl (sd_getr dX7_oddsPart_40 zCl7 (Nat.le_of_ble_eq_true rfl) lk_RX7_19 (Or.inl ⟨_, rfl⟩) (sd_getr dX7_oddsPart_43 zCl4 (Nat.le_of_ble_eq_true rfl) lk_RX7_77 (Or.inl ⟨_, rfl⟩) (sd_geti dX7_oddsPart_46 zCl1 (Nat.le_of_ble_eq_true rfl) lk_RX7_322 (Or.inl rfl) (sd_isub dX7_oddsPart_49 (sd_i2l dX7_oddsPart_50 (sd_iload_n dX7_oddsPart_51 rfl (sd_iload dX7_oddsPart_52 (sd_isub dX7_oddsPart_54 (sd_ins2 dX7_oddsPart_55 ms_X7_power na_X7_power ml_RX7_366 ⟨⟨Nat.le_of_ble_eq_true rfl, Nat.le_of_ble_eq_true rfl⟩, ⟨Nat.le_of_ble_eq_true rfl, Nat.le_of_ble_eq_true rfl⟩⟩ (sd_lmul dX7_oddsPart_58 (sd_ladd dX7_oddsPart_59 (sd_lstore dX7_oddsPart_60 (Nat.le_of_ble_eq_true rfl) (Or.inl rfl) (sd_iinc dX7_oddsPart_62 rfl (Nat.le_of_ble_eq_true rfl) (Or.inl rfl) (sd_goto dX7_oddsPart_65 rfl (fun _ _ _ h => h)))))))))))))))))))))))))))))))
def B_X7_oddsPart_68 (X : Nat × (Nat → Int32)) (J : Nat → zCf) (R : zRt) : zCf := oPL (zk (100)) (oILOAD 1 (oINS2 X M_X7_power (oLSTORE 6 7 (oLLOAD 5 (oLLOAD 7 (oINS2 X M_X7_commonDivisor (oLSTORE 8 9 (oLLOAD 9 (oPL (zk (0)) (oLCMP (oIFGT (J 104) (oILOAD 4 (oIFEQ (J 102) (oPL (zk (1)) (J 103)))))))))))))))
set_option maxRecDepth 100000 in
theorem vb_X7_oddsPart_68 {X : Nat × (Nat → Int32)} {R : zRt} : ∀ ls st h, B_X7_oddsPart_68 X (zV X M_X7_oddsPart (zQm M_X7_oddsPart R) 0 0) R ls st h → zV X M_X7_oddsPart (zQm M_X7_oddsPart R) 0 0 68 ls st h := sd_ldc2 dX7_oddsPart_68 (zmt (zt4 (i := 29) rfl) rfl) (sd_iload_n dX7_oddsPart_71 rfl (sd_ins2 dX7_oddsPart_72 ms_X7_power na_X7_power ml_RX7_366 ⟨⟨Nat.le_of_ble_eq_true rfl, Nat.le_of_ble_eq_true rfl⟩, ⟨Nat.le_of_ble_eq_true rfl, Nat.le_of_ble_eq_true rfl⟩⟩ (sd_lstore dX7_oddsPart_75 (Nat.le_of_ble_eq_true rfl) (Or.inl rfl) (sd_lload dX7_oddsPart_77 (sd_lload dX7_oddsPart_79 (sd_ins2 dX7_oddsPart_81 ms_X7_commonDivisor na_X7_commonDivisor ml_RX7_372 ⟨⟨Nat.le_of_ble_eq_true rfl, Nat.le_of_ble_eq_true rfl⟩, ⟨Nat.le_of_ble_eq_true rfl, Nat.le_of_ble_eq_true rfl⟩⟩ (sd_lstore dX7_oddsPart_84 (Nat.le_of_ble_eq_true rfl) (Or.inl rfl) (sd_lload dX7_oddsPart_86 (sd_lconst dX7_oddsPart_88 rfl (sd_lcmp dX7_oddsPart_89 (sd_ifgt dX7_oddsPart_90 rfl (fun _ _ _ h => h) (sd_iload dX7_oddsPart_93 (sd_ifeq dX7_oddsPart_95 rfl (fun _ _ _ h => h) (sd_lconst dX7_oddsPart_98 rfl (sd_goto dX7_oddsPart_99 rfl (fun _ _ _ h => h))))))))))))))))
def B_X7_oddsPart_102 (X : Nat × (Nat → Int32)) (J : Nat → zCf) (R : zRt) : zCf := oPL (zk (0)) (J 103)
set_option maxRecDepth 100000 in
theorem vb_X7_oddsPart_102 {X : Nat × (Nat → Int32)} {R : zRt} : ∀ ls st h, B_X7_oddsPart_102 X (zV X M_X7_oddsPart (zQm M_X7_oddsPart R) 0 0) R ls st h → zV X M_X7_oddsPart (zQm M_X7_oddsPart R) 0 0 102 ls st h := sd_lconst dX7_oddsPart_102 rfl (fun _ _ _ h => h)
def B_X7_oddsPart_103 (X : Nat × (Nat → Int32)) (J : Nat → zCf) (R : zRt) : zCf := oLRET R
set_option maxRecDepth 100000 in
theorem vb_X7_oddsPart_103 {X : Nat × (Nat → Int32)} {R : zRt} : ∀ ls st h, B_X7_oddsPart_103 X (zV X M_X7_oddsPart (zQm M_X7_oddsPart R) 0 0) R ls st h → zV X M_X7_oddsPart (zQm M_X7_oddsPart R) 0 0 103 ls st h := sd_lret dX7_oddsPart_103 rfl (Nat.le_of_ble_eq_true rfl) (Nat.le_of_ble_eq_true rfl)
def B_X7_oddsPart_104 (X : Nat × (Nat → Int32)) (J : Nat → zCf) (R : zRt) : zCf := oILOAD 4 (oIFEQ (J 117) (oLLOAD 7 (oLLOAD 9 (oLDIV (J 122)))))
set_option maxRecDepth 100000 in
theorem vb_X7_oddsPart_104 {X : Nat × (Nat → Int32)} {R : zRt} : ∀ ls st h, B_X7_oddsPart_104 X (zV X M_X7_oddsPart (zQm M_X7_oddsPart R) 0 0) R ls st h → zV X M_X7_oddsPart (zQm M_X7_oddsPart R) 0 0 104 ls st h := sd_iload dX7_oddsPart_104 (sd_ifeq dX7_oddsPart_106 rfl (fun _ _ _ h => h) (sd_lload dX7_oddsPart_109 (sd_lload dX7_oddsPart_111 (sd_ldiv dX7_oddsPart_113 (sd_goto dX7_oddsPart_114 rfl (fun _ _ _ h => h))))))
def B_X7_oddsPart_117 (X : Nat × (Nat → Int32)) (J : Nat → zCf) (R : zRt) : zCf := oLLOAD 5 (oLLOAD 9 (oLDIV (J 122)))
set_option maxRecDepth 100000 in
theorem vb_X7_oddsPart_117 {X : Nat × (Nat → Int32)} {R : zRt} : ∀ ls st h, B_X7_oddsPart_117 X (zV X M_X7_oddsPart (zQm M_X7_oddsPart R) 0 0) R ls st h → zV X M_X7_oddsPart (zQm M_X7_oddsPart R) 0 0 117 ls st h := sd_lload dX7_oddsPart_117 (sd_lload dX7_oddsPart_119 (sd_ldiv dX7_oddsPart_121 (fun _ _ _ h => h)))
def B_X7_oddsPart_122 (X : Nat × (Nat → Int32)) (J : Nat → zCf) (R : zRt) : zCf := oLRET R
set_option maxRecDepth 100000 in
theorem vb_X7_oddsPart_122 {X : Nat × (Nat → Int32)} {R : zRt} : ∀ ls st h, B_X7_oddsPart_122 X (zV X M_X7_oddsPart (zQm M_X7_oddsPart R) 0 0) R ls st h → zV X M_X7_oddsPart (zQm M_X7_oddsPart R) 0 0 122 ls st h := sd_lret dX7_oddsPart_122 rfl (Nat.le_of_ble_eq_true rfl) (Nat.le_of_ble_eq_true rfl)
theorem dX7_choices_0 : decode cX7_choices 0 = .ok (.lconst 1, 1) := by decide +kernel
theorem dX7_choices_1 : decode cX7_choices 1 = .ok (.lstore_n 2, 1) := by decide +kernel
theorem dX7_choices_2 : decode cX7_choices 2 = .ok (.iconst 1, 1) := by decide +kernel
theorem dX7_choices_3 : decode cX7_choices 3 = .ok (.istore 4, 2) := by decide +kernel
theorem dX7_choices_5 : decode cX7_choices 5 = .ok (.iload 4, 2) := by decide +kernel
theorem dX7_choices_7 : decode cX7_choices 7 = .ok (.iload_n 1, 1) := by decide +kernel
theorem dX7_choices_8 : decode cX7_choices 8 = .ok (.if_icmp .gt 23, 3) := by decide +kernel
theorem dX7_choices_11 : decode cX7_choices 11 = .ok (.lload_n 2, 1) := by decide +kernel
theorem dX7_choices_12 : decode cX7_choices 12 = .ok (.iload_n 0, 1) := by decide +kernel
theorem dX7_choices_13 : decode cX7_choices 13 = .ok (.iload 4, 2) := by decide +kernel
theorem dX7_choices_15 : decode cX7_choices 15 = .ok (.isub, 1) := by decide +kernel
theorem dX7_choices_16 : decode cX7_choices 16 = .ok (.iconst 1, 1) := by decide +kernel
theorem dX7_choices_17 : decode cX7_choices 17 = .ok (.iadd, 1) := by decide +kernel
theorem dX7_choices_18 : decode cX7_choices 18 = .ok (.i2l, 1) := by decide +kernel
theorem dX7_choices_19 : decode cX7_choices 19 = .ok (.lmul, 1) := by decide +kernel
theorem dX7_choices_20 : decode cX7_choices 20 = .ok (.iload 4, 2) := by decide +kernel
theorem dX7_choices_22 : decode cX7_choices 22 = .ok (.i2l, 1) := by decide +kernel
theorem dX7_choices_23 : decode cX7_choices 23 = .ok (.ldiv, 1) := by decide +kernel
theorem dX7_choices_24 : decode cX7_choices 24 = .ok (.lstore_n 2, 1) := by decide +kernel
theorem dX7_choices_25 : decode cX7_choices 25 = .ok (.iinc 4 1, 3) := by decide +kernel
theorem dX7_choices_28 : decode cX7_choices 28 = .ok (.goto (-23), 3) := by decide +kernel
theorem dX7_choices_31 : decode cX7_choices 31 = .ok (.lload_n 2, 1) := by decide +kernel
theorem dX7_choices_32 : decode cX7_choices 32 = .ok (.lreturn, 1) := by decide +kernel
def B_X7_choices_0 (X : Nat × (Nat → Int32)) (J : Nat → zCf) (R : zRt) : zCf := oPL (zk (1)) (oLSTORE 1 2 (oPI (zj (1)) (oISTORE 3 4 (J 5))))
set_option maxRecDepth 100000 in
theorem vb_X7_choices_0 {X : Nat × (Nat → Int32)} {R : zRt} : ∀ ls st h, B_X7_choices_0 X (zV X M_X7_choices (zQm M_X7_choices R) 0 0) R ls st h → zV X M_X7_choices (zQm M_X7_choices R) 0 0 0 ls st h := sd_lconst dX7_choices_0 rfl (sd_lstore_n dX7_choices_1 rfl (Nat.le_of_ble_eq_true rfl) (Or.inl rfl) (sd_iconst dX7_choices_2 rfl (sd_istore dX7_choices_3 (Nat.le_of_ble_eq_true rfl) (Or.inl rfl) (fun _ _ _ h => h))))
def B_X7_choices_5 (X : Nat × (Nat → Int32)) (J : Nat → zCf) (R : zRt) : zCf := oILOAD 4 (oILOAD 1 (oICGT (J 31) (oLLOAD 2 (oILOAD 0 (oILOAD 4 (oISUB (oPI (zj (1)) (oIADD (oI2L (oLMUL (oILOAD 4 (oI2L (oLDIV (oLSTORE 1 2 (oIINC 3 4 (zj (1)) (J 5))))))))))))))))
set_option maxRecDepth 100000 in
theorem vb_X7_choices_5 {X : Nat × (Nat → Int32)} {R : zRt} : ∀ ls st h, B_X7_choices_5 X (zV X M_X7_choices (zQm M_X7_choices R) 0 0) R ls st h → zV X M_X7_choices (zQm M_X7_choices R) 0 0 5 ls st h := sd_iload dX7_choices_5 (sd_iload_n dX7_choices_7 rfl (sd_icgt dX7_choices_8 rfl (fun _ _ _ h => h) (sd_lload_n dX7_choices_11 rfl (sd_iload_n dX7_choices_12 rfl (sd_iload dX7_choices_13 (sd_isub dX7_choices_15 (sd_iconst dX7_choices_16 rfl (sd_iadd dX7_choices_17 (sd_i2l dX7_choices_18 (sd_lmul dX7_choices_19 (sd_iload dX7_choices_20 (sd_i2l dX7_choices_22 (sd_ldiv dX7_choices_23 (sd_lstore_n dX7_choices_24 rfl (Nat.le_of_ble_eq_true rfl) (Or.inl rfl) (sd_iinc dX7_choices_25 rfl (Nat.le_of_ble_eq_true rfl) (Or.inl rfl) (sd_goto dX7_choices_28 rfl (fun _ _ _ h => h)))))))))))))))))
def B_X7_choices_31 (X : Nat × (Nat → Int32)) (J : Nat → zCf) (R : zRt) : zCf := oLLOAD 2 (oLRET R)
set_option maxRecDepth 100000 in
theorem vb_X7_choices_31 {X : Nat × (Nat → Int32)} {R : zRt} : ∀ ls st h, B_X7_choices_31 X (zV X M_X7_choices (zQm M_X7_choices R) 0 0) R ls st h → zV X M_X7_choices (zQm M_X7_choices R) 0 0 31 ls st h := sd_lload_n dX7_choices_31 rfl (sd_lret dX7_choices_32 rfl (Nat.le_of_ble_eq_true rfl) (Nat.le_of_ble_eq_true rfl))
theorem dX7_power_0 : decode cX7_power 0 = .ok (.lconst 1, 1) := by decide +kernel
theorem dX7_power_1 : decode cX7_power 1 = .ok (.lstore_n 3, 1) := by decide +kernel
theorem dX7_power_2 : decode cX7_power 2 = .ok (.iconst 0, 1) := by decide +kernel
theorem dX7_power_3 : decode cX7_power 3 = .ok (.istore 5, 2) := by decide +kernel
theorem dX7_power_5 : decode cX7_power 5 = .ok (.iload 5, 2) := by decide +kernel
theorem dX7_power_7 : decode cX7_power 7 = .ok (.iload_n 2, 1) := by decide +kernel
theorem dX7_power_8 : decode cX7_power 8 = .ok (.if_icmp .ge 13, 3) := by decide +kernel
theorem dX7_power_11 : decode cX7_power 11 = .ok (.lload_n 3, 1) := by decide +kernel
theorem dX7_power_12 : decode cX7_power 12 = .ok (.lload_n 0, 1) := by decide +kernel
theorem dX7_power_13 : decode cX7_power 13 = .ok (.lmul, 1) := by decide +kernel
theorem dX7_power_14 : decode cX7_power 14 = .ok (.lstore_n 3, 1) := by decide +kernel
theorem dX7_power_15 : decode cX7_power 15 = .ok (.iinc 5 1, 3) := by decide +kernel
theorem dX7_power_18 : decode cX7_power 18 = .ok (.goto (-13), 3) := by decide +kernel
theorem dX7_power_21 : decode cX7_power 21 = .ok (.lload_n 3, 1) := by decide +kernel
theorem dX7_power_22 : decode cX7_power 22 = .ok (.lreturn, 1) := by decide +kernel
def B_X7_power_0 (X : Nat × (Nat → Int32)) (J : Nat → zCf) (R : zRt) : zCf := oPL (zk (1)) (oLSTORE 2 3 (oPI (zj (0)) (oISTORE 4 5 (J 5))))
set_option maxRecDepth 100000 in
theorem vb_X7_power_0 {X : Nat × (Nat → Int32)} {R : zRt} : ∀ ls st h, B_X7_power_0 X (zV X M_X7_power (zQm M_X7_power R) 0 0) R ls st h → zV X M_X7_power (zQm M_X7_power R) 0 0 0 ls st h := sd_lconst dX7_power_0 rfl (sd_lstore_n dX7_power_1 rfl (Nat.le_of_ble_eq_true rfl) (Or.inl rfl) (sd_iconst dX7_power_2 rfl (sd_istore dX7_power_3 (Nat.le_of_ble_eq_true rfl) (Or.inl rfl) (fun _ _ _ h => h))))
def B_X7_power_5 (X : Nat × (Nat → Int32)) (J : Nat → zCf) (R : zRt) : zCf := oILOAD 5 (oILOAD 2 (oICGE (J 21) (oLLOAD 3 (oLLOAD 0 (oLMUL (oLSTORE 2 3 (oIINC 4 5 (zj (1)) (J 5))))))))
set_option maxRecDepth 100000 in
theorem vb_X7_power_5 {X : Nat × (Nat → Int32)} {R : zRt} : ∀ ls st h, B_X7_power_5 X (zV X M_X7_power (zQm M_X7_power R) 0 0) R ls st h → zV X M_X7_power (zQm M_X7_power R) 0 0 5 ls st h := sd_iload dX7_power_5 (sd_iload_n dX7_power_7 rfl (sd_icge dX7_power_8 rfl (fun _ _ _ h => h) (sd_lload_n dX7_power_11 rfl (sd_lload_n dX7_power_12 rfl (sd_lmul dX7_power_13 (sd_lstore_n dX7_power_14 rfl (Nat.le_of_ble_eq_true rfl) (Or.inl rfl) (sd_iinc dX7_power_15 rfl (Nat.le_of_ble_eq_true rfl) (Or.inl rfl) (sd_goto dX7_power_18 rfl (fun _ _ _ h => h)))))))))
def B_X7_power_21 (X : Nat × (Nat → Int32)) (J : Nat → zCf) (R : zRt) : zCf := oLLOAD 3 (oLRET R)
set_option maxRecDepth 100000 in
theorem vb_X7_power_21 {X : Nat × (Nat → Int32)} {R : zRt} : ∀ ls st h, B_X7_power_21 X (zV X M_X7_power (zQm M_X7_power R) 0 0) R ls st h → zV X M_X7_power (zQm M_X7_power R) 0 0 21 ls st h := sd_lload_n dX7_power_21 rfl (sd_lret dX7_power_22 rfl (Nat.le_of_ble_eq_true rfl) (Nat.le_of_ble_eq_true rfl))
theorem dX7_commonDivisor_0 : decode cX7_commonDivisor 0 = .ok (.lload_n 0, 1) := by decide +kernel
theorem dX7_commonDivisor_1 : decode cX7_commonDivisor 1 = .ok (.lstore 4, 2) := by decide +kernel
theorem dX7_commonDivisor_3 : decode cX7_commonDivisor 3 = .ok (.lload_n 2, 1) := by decide +kernel
theorem dX7_commonDivisor_4 : decode cX7_commonDivisor 4 = .ok (.lstore 6, 2) := by decide +kernel
theorem dX7_commonDivisor_6 : decode cX7_commonDivisor 6 = .ok (.iconst 0, 1) := by decide +kernel
theorem dX7_commonDivisor_7 : decode cX7_commonDivisor 7 = .ok (.istore 8, 2) := by decide +kernel
theorem dX7_commonDivisor_9 : decode cX7_commonDivisor 9 = .ok (.iload 8, 2) := by decide +kernel
theorem dX7_commonDivisor_11 : decode cX7_commonDivisor 11 = .ok (.sipush 200, 3) := by decide +kernel
theorem dX7_commonDivisor_14 : decode cX7_commonDivisor 14 = .ok (.if_icmp .ge 31, 3) := by decide +kernel
theorem dX7_commonDivisor_17 : decode cX7_commonDivisor 17 = .ok (.lload 6, 2) := by decide +kernel
theorem dX7_commonDivisor_19 : decode cX7_commonDivisor 19 = .ok (.lconst 0, 1) := by decide +kernel
theorem dX7_commonDivisor_20 : decode cX7_commonDivisor 20 = .ok (.lcmp, 1) := by decide +kernel
theorem dX7_commonDivisor_21 : decode cX7_commonDivisor 21 = .ok (.ifCond .eq 24, 3) := by decide +kernel
theorem dX7_commonDivisor_24 : decode cX7_commonDivisor 24 = .ok (.lload 4, 2) := by decide +kernel
theorem dX7_commonDivisor_26 : decode cX7_commonDivisor 26 = .ok (.lload 6, 2) := by decide +kernel
theorem dX7_commonDivisor_28 : decode cX7_commonDivisor 28 = .ok (.lrem, 1) := by decide +kernel
theorem dX7_commonDivisor_29 : decode cX7_commonDivisor 29 = .ok (.lstore 9, 2) := by decide +kernel
theorem dX7_commonDivisor_31 : decode cX7_commonDivisor 31 = .ok (.lload 6, 2) := by decide +kernel
theorem dX7_commonDivisor_33 : decode cX7_commonDivisor 33 = .ok (.lstore 4, 2) := by decide +kernel
theorem dX7_commonDivisor_35 : decode cX7_commonDivisor 35 = .ok (.lload 9, 2) := by decide +kernel
theorem dX7_commonDivisor_37 : decode cX7_commonDivisor 37 = .ok (.lstore 6, 2) := by decide +kernel
theorem dX7_commonDivisor_39 : decode cX7_commonDivisor 39 = .ok (.iinc 8 1, 3) := by decide +kernel
theorem dX7_commonDivisor_42 : decode cX7_commonDivisor 42 = .ok (.goto (-33), 3) := by decide +kernel
theorem dX7_commonDivisor_45 : decode cX7_commonDivisor 45 = .ok (.lload 4, 2) := by decide +kernel
theorem dX7_commonDivisor_47 : decode cX7_commonDivisor 47 = .ok (.lreturn, 1) := by decide +kernel
def B_X7_commonDivisor_0 (X : Nat × (Nat → Int32)) (J : Nat → zCf) (R : zRt) : zCf := oLLOAD 0 (oLSTORE 3 4 (oLLOAD 2 (oLSTORE 5 6 (oPI (zj (0)) (oISTORE 7 8 (J 9))))))
set_option maxRecDepth 100000 in
theorem vb_X7_commonDivisor_0 {X : Nat × (Nat → Int32)} {R : zRt} : ∀ ls st h, B_X7_commonDivisor_0 X (zV X M_X7_commonDivisor (zQm M_X7_commonDivisor R) 0 0) R ls st h → zV X M_X7_commonDivisor (zQm M_X7_commonDivisor R) 0 0 0 ls st h := sd_lload_n dX7_commonDivisor_0 rfl (sd_lstore dX7_commonDivisor_1 (Nat.le_of_ble_eq_true rfl) (Or.inl rfl) (sd_lload_n dX7_commonDivisor_3 rfl (sd_lstore dX7_commonDivisor_4 (Nat.le_of_ble_eq_true rfl) (Or.inl rfl) (sd_iconst dX7_commonDivisor_6 rfl (sd_istore dX7_commonDivisor_7 (Nat.le_of_ble_eq_true rfl) (Or.inl rfl) (fun _ _ _ h => h))))))
def B_X7_commonDivisor_9 (X : Nat × (Nat → Int32)) (J : Nat → zCf) (R : zRt) : zCf := oILOAD 8 (oPI (zj (200)) (oICGE (J 45) (oLLOAD 6 (oPL (zk (0)) (oLCMP (oIFEQ (J 45) (oLLOAD 4 (oLLOAD 6 (oLREM (oLSTORE 8 9 (oLLOAD 6 (oLSTORE 3 4 (oLLOAD 9 (oLSTORE 5 6 (oIINC 7 8 (zj (1)) (J 9))))))))))))))))
set_option maxRecDepth 100000 in
theorem vb_X7_commonDivisor_9 {X : Nat × (Nat → Int32)} {R : zRt} : ∀ ls st h, B_X7_commonDivisor_9 X (zV X M_X7_commonDivisor (zQm M_X7_commonDivisor R) 0 0) R ls st h → zV X M_X7_commonDivisor (zQm M_X7_commonDivisor R) 0 0 9 ls st h := sd_iload dX7_commonDivisor_9 (sd_sipush dX7_commonDivisor_11 rfl (sd_icge dX7_commonDivisor_14 rfl (fun _ _ _ h => h) (sd_lload dX7_commonDivisor_17 (sd_lconst dX7_commonDivisor_19 rfl (sd_lcmp dX7_commonDivisor_20 (sd_ifeq dX7_commonDivisor_21 rfl (fun _ _ _ h => h) (sd_lload dX7_commonDivisor_24 (sd_lload dX7_commonDivisor_26 (sd_lrem dX7_commonDivisor_28 (sd_lstore dX7_commonDivisor_29 (Nat.le_of_ble_eq_true rfl) (Or.inl rfl) (sd_lload dX7_commonDivisor_31 (sd_lstore dX7_commonDivisor_33 (Nat.le_of_ble_eq_true rfl) (Or.inl rfl) (sd_lload dX7_commonDivisor_35 (sd_lstore dX7_commonDivisor_37 (Nat.le_of_ble_eq_true rfl) (Or.inl rfl) (sd_iinc dX7_commonDivisor_39 rfl (Nat.le_of_ble_eq_true rfl) (Or.inl rfl) (sd_goto dX7_commonDivisor_42 rfl (fun _ _ _ h => h)))))))))))))))))
def B_X7_commonDivisor_45 (X : Nat × (Nat → Int32)) (J : Nat → zCf) (R : zRt) : zCf := oLLOAD 4 (oLRET R)
set_option maxRecDepth 100000 in
theorem vb_X7_commonDivisor_45 {X : Nat × (Nat → Int32)} {R : zRt} : ∀ ls st h, B_X7_commonDivisor_45 X (zV X M_X7_commonDivisor (zQm M_X7_commonDivisor R) 0 0) R ls st h → zV X M_X7_commonDivisor (zQm M_X7_commonDivisor R) 0 0 45 ls st h := sd_lload dX7_commonDivisor_45 (sd_lret dX7_commonDivisor_47 rfl (Nat.le_of_ble_eq_true rfl) (Nat.le_of_ble_eq_true rfl))
theorem dX7_half_0 : decode cX7_half 0 = .ok (.iload_n 0, 1) := by decide +kernel
theorem dX7_half_1 : decode cX7_half 1 = .ok (.iconst 2, 1) := by decide +kernel
theorem dX7_half_2 : decode cX7_half 2 = .ok (.idiv, 1) := by decide +kernel
theorem dX7_half_3 : decode cX7_half 3 = .ok (.ireturn, 1) := by decide +kernel
def B_X7_half_0 (X : Nat × (Nat → Int32)) (J : Nat → zCf) (R : zRt) : zCf := oILOAD 0 (oPI (zj (2)) (oIDIV (oIRET R)))
set_option maxRecDepth 100000 in
theorem vb_X7_half_0 {X : Nat × (Nat → Int32)} {R : zRt} : ∀ ls st h, B_X7_half_0 X (zV X M_X7_half (zQm M_X7_half R) 0 0) R ls st h → zV X M_X7_half (zQm M_X7_half R) 0 0 0 ls st h := sd_iload_n dX7_half_0 rfl (sd_iconst dX7_half_1 rfl (sd_idiv dX7_half_2 (sd_iret dX7_half_3 rfl (Nat.le_of_ble_eq_true rfl) (Nat.le_of_ble_eq_true rfl))))
theorem dX7_asBit_0 : decode cX7_asBit 0 = .ok (.iload_n 0, 1) := by decide +kernel
theorem dX7_asBit_1 : decode cX7_asBit 1 = .ok (.ifCond .ge 7, 3) := by decide +kernel
theorem dX7_asBit_4 : decode cX7_asBit 4 = .ok (.iconst 0, 1) := by decide +kernel
theorem dX7_asBit_5 : decode cX7_asBit 5 = .ok (.goto 6, 3) := by decide +kernel
theorem dX7_asBit_8 : decode cX7_asBit 8 = .ok (.iconst 1, 1) := by decide +kernel
theorem dX7_asBit_9 : decode cX7_asBit 9 = .ok (.iload_n 0, 1) := by decide +kernel
theorem dX7_asBit_10 : decode cX7_asBit 10 = .ok (.ishl, 1) := by decide +kernel
theorem dX7_asBit_11 : decode cX7_asBit 11 = .ok (.ireturn, 1) := by decide +kernel
def B_X7_asBit_0 (X : Nat × (Nat → Int32)) (J : Nat → zCf) (R : zRt) : zCf := oILOAD 0 (oIFGE (J 8) (oPI (zj (0)) (J 11)))
set_option maxRecDepth 100000 in
theorem vb_X7_asBit_0 {X : Nat × (Nat → Int32)} {R : zRt} : ∀ ls st h, B_X7_asBit_0 X (zV X M_X7_asBit (zQm M_X7_asBit R) 0 0) R ls st h → zV X M_X7_asBit (zQm M_X7_asBit R) 0 0 0 ls st h := sd_iload_n dX7_asBit_0 rfl (sd_ifge dX7_asBit_1 rfl (fun _ _ _ h => h) (sd_iconst dX7_asBit_4 rfl (sd_goto dX7_asBit_5 rfl (fun _ _ _ h => h))))
def B_X7_asBit_8 (X : Nat × (Nat → Int32)) (J : Nat → zCf) (R : zRt) : zCf := oPI (zj (1)) (oILOAD 0 (oISHL (J 11)))
set_option maxRecDepth 100000 in
theorem vb_X7_asBit_8 {X : Nat × (Nat → Int32)} {R : zRt} : ∀ ls st h, B_X7_asBit_8 X (zV X M_X7_asBit (zQm M_X7_asBit R) 0 0) R ls st h → zV X M_X7_asBit (zQm M_X7_asBit R) 0 0 8 ls st h := sd_iconst dX7_asBit_8 rfl (sd_iload_n dX7_asBit_9 rfl (sd_ishl dX7_asBit_10 (fun _ _ _ h => h)))
def B_X7_asBit_11 (X : Nat × (Nat → Int32)) (J : Nat → zCf) (R : zRt) : zCf := oIRET R
set_option maxRecDepth 100000 in
theorem vb_X7_asBit_11 {X : Nat × (Nat → Int32)} {R : zRt} : ∀ ls st h, B_X7_asBit_11 X (zV X M_X7_asBit (zQm M_X7_asBit R) 0 0) R ls st h → zV X M_X7_asBit (zQm M_X7_asBit R) 0 0 11 ls st h := sd_iret dX7_asBit_11 rfl (Nat.le_of_ble_eq_true rfl) (Nat.le_of_ble_eq_true rfl)
theorem dX7_runsUpwards_0 : decode cX7_runsUpwards 0 = .ok (.iload_n 0, 1) := by decide +kernel
theorem dX7_runsUpwards_1 : decode cX7_runsUpwards 1 = .ok (.iconst 2, 1) := by decide +kernel
theorem dX7_runsUpwards_2 : decode cX7_runsUpwards 2 = .ok (.irem, 1) := by decide +kernel
theorem dX7_runsUpwards_3 : decode cX7_runsUpwards 3 = .ok (.ifCond .ne 7, 3) := by decide +kernel
theorem dX7_runsUpwards_6 : decode cX7_runsUpwards 6 = .ok (.iconst 1, 1) := by decide +kernel
theorem dX7_runsUpwards_7 : decode cX7_runsUpwards 7 = .ok (.goto 4, 3) := by decide +kernel
theorem dX7_runsUpwards_10 : decode cX7_runsUpwards 10 = .ok (.iconst 0, 1) := by decide +kernel
theorem dX7_runsUpwards_11 : decode cX7_runsUpwards 11 = .ok (.ireturn, 1) := by decide +kernel
def B_X7_runsUpwards_0 (X : Nat × (Nat → Int32)) (J : Nat → zCf) (R : zRt) : zCf := oILOAD 0 (oPI (zj (2)) (oIREM (oIFNE (J 10) (oPI (zj (1)) (J 11)))))
set_option maxRecDepth 100000 in
theorem vb_X7_runsUpwards_0 {X : Nat × (Nat → Int32)} {R : zRt} : ∀ ls st h, B_X7_runsUpwards_0 X (zV X M_X7_runsUpwards (zQm M_X7_runsUpwards R) 0 0) R ls st h → zV X M_X7_runsUpwards (zQm M_X7_runsUpwards R) 0 0 0 ls st h := sd_iload_n dX7_runsUpwards_0 rfl (sd_iconst dX7_runsUpwards_1 rfl (sd_irem dX7_runsUpwards_2 (sd_ifne dX7_runsUpwards_3 rfl (fun _ _ _ h => h) (sd_iconst dX7_runsUpwards_6 rfl (sd_goto dX7_runsUpwards_7 rfl (fun _ _ _ h => h))))))
def B_X7_runsUpwards_10 (X : Nat × (Nat → Int32)) (J : Nat → zCf) (R : zRt) : zCf := oPI (zj (0)) (J 11)
set_option maxRecDepth 100000 in
theorem vb_X7_runsUpwards_10 {X : Nat × (Nat → Int32)} {R : zRt} : ∀ ls st h, B_X7_runsUpwards_10 X (zV X M_X7_runsUpwards (zQm M_X7_runsUpwards R) 0 0) R ls st h → zV X M_X7_runsUpwards (zQm M_X7_runsUpwards R) 0 0 10 ls st h := sd_iconst dX7_runsUpwards_10 rfl (fun _ _ _ h => h)
def B_X7_runsUpwards_11 (X : Nat × (Nat → Int32)) (J : Nat → zCf) (R : zRt) : zCf := oZRET R
set_option maxRecDepth 100000 in
theorem vb_X7_runsUpwards_11 {X : Nat × (Nat → Int32)} {R : zRt} : ∀ ls st h, B_X7_runsUpwards_11 X (zV X M_X7_runsUpwards (zQm M_X7_runsUpwards R) 0 0) R ls st h → zV X M_X7_runsUpwards (zQm M_X7_runsUpwards R) 0 0 11 ls st h := sd_zret dX7_runsUpwards_11 rfl (Nat.le_of_ble_eq_true rfl) (Nat.le_of_ble_eq_true rfl)
theorem dX7_tubeCell_0 : decode cX7_tubeCell 0 = .ok (.iload_n 0, 1) := by decide +kernel
theorem dX7_tubeCell_1 : decode cX7_tubeCell 1 = .ok (.invokestatic 376, 3) := by decide +kernel
theorem dX7_tubeCell_4 : decode cX7_tubeCell 4 = .ok (.ifCond .eq 11, 3) := by decide +kernel
theorem dX7_tubeCell_7 : decode cX7_tubeCell 7 = .ok (.iload_n 1, 1) := by decide +kernel
theorem dX7_tubeCell_8 : decode cX7_tubeCell 8 = .ok (.iconst 2, 1) := by decide +kernel
theorem dX7_tubeCell_9 : decode cX7_tubeCell 9 = .ok (.iload_n 0, 1) := by decide +kernel
theorem dX7_tubeCell_10 : decode cX7_tubeCell 10 = .ok (.imul, 1) := by decide +kernel
theorem dX7_tubeCell_11 : decode cX7_tubeCell 11 = .ok (.isub, 1) := by decide +kernel
theorem dX7_tubeCell_12 : decode cX7_tubeCell 12 = .ok (.goto 11, 3) := by decide +kernel
theorem dX7_tubeCell_15 : decode cX7_tubeCell 15 = .ok (.bipush 11, 2) := by decide +kernel
theorem dX7_tubeCell_17 : decode cX7_tubeCell 17 = .ok (.iload_n 1, 1) := by decide +kernel
theorem dX7_tubeCell_18 : decode cX7_tubeCell 18 = .ok (.isub, 1) := by decide +kernel
theorem dX7_tubeCell_19 : decode cX7_tubeCell 19 = .ok (.iconst 2, 1) := by decide +kernel
theorem dX7_tubeCell_20 : decode cX7_tubeCell 20 = .ok (.iload_n 0, 1) := by decide +kernel
theorem dX7_tubeCell_21 : decode cX7_tubeCell 21 = .ok (.imul, 1) := by decide +kernel
theorem dX7_tubeCell_22 : decode cX7_tubeCell 22 = .ok (.iadd, 1) := by decide +kernel
theorem dX7_tubeCell_23 : decode cX7_tubeCell 23 = .ok (.istore_n 2, 1) := by decide +kernel
theorem dX7_tubeCell_24 : decode cX7_tubeCell 24 = .ok (.iload_n 2, 1) := by decide +kernel
theorem dX7_tubeCell_25 : decode cX7_tubeCell 25 = .ok (.bipush 12, 2) := by decide +kernel
theorem dX7_tubeCell_27 : decode cX7_tubeCell 27 = .ok (.invokestatic 379, 3) := by decide +kernel
theorem dX7_tubeCell_30 : decode cX7_tubeCell 30 = .ok (.ireturn, 1) := by decide +kernel
def B_X7_tubeCell_0 (X : Nat × (Nat → Int32)) (J : Nat → zCf) (R : zRt) : zCf := oILOAD 0 (oINS1 X M_X7_runsUpwards (oIFEQ (J 15) (oILOAD 1 (oPI (zj (2)) (oILOAD 0 (oIMUL (oISUB (J 23))))))))
set_option maxRecDepth 100000 in
theorem vb_X7_tubeCell_0 {X : Nat × (Nat → Int32)} {R : zRt} : ∀ ls st h, B_X7_tubeCell_0 X (zV X M_X7_tubeCell (zQm M_X7_tubeCell R) 0 0) R ls st h → zV X M_X7_tubeCell (zQm M_X7_tubeCell R) 0 0 0 ls st h := sd_iload_n dX7_tubeCell_0 rfl (sd_ins1 dX7_tubeCell_1 ms_X7_runsUpwards na_X7_runsUpwards ml_RX7_376 ⟨⟨Nat.le_of_ble_eq_true rfl, Nat.le_of_ble_eq_true rfl⟩, ⟨Nat.le_of_ble_eq_true rfl, Nat.le_of_ble_eq_true rfl⟩⟩ (sd_ifeq dX7_tubeCell_4 rfl (fun _ _ _ h => h) (sd_iload_n dX7_tubeCell_7 rfl (sd_iconst dX7_tubeCell_8 rfl (sd_iload_n dX7_tubeCell_9 rfl (sd_imul dX7_tubeCell_10 (sd_isub dX7_tubeCell_11 (sd_goto dX7_tubeCell_12 rfl (fun _ _ _ h => h)))))))))
def B_X7_tubeCell_15 (X : Nat × (Nat → Int32)) (J : Nat → zCf) (R : zRt) : zCf := oPI (zj (11)) (oILOAD 1 (oISUB (oPI (zj (2)) (oILOAD 0 (oIMUL (oIADD (J 23)))))))
set_option maxRecDepth 100000 in
theorem vb_X7_tubeCell_15 {X : Nat × (Nat → Int32)} {R : zRt} : ∀ ls st h, B_X7_tubeCell_15 X (zV X M_X7_tubeCell (zQm M_X7_tubeCell R) 0 0) R ls st h → zV X M_X7_tubeCell (zQm M_X7_tubeCell R) 0 0 15 ls st h := sd_bipush dX7_tubeCell_15 rfl (sd_iload_n dX7_tubeCell_17 rfl (sd_isub dX7_tubeCell_18 (sd_iconst dX7_tubeCell_19 rfl (sd_iload_n dX7_tubeCell_20 rfl (sd_imul dX7_tubeCell_21 (sd_iadd dX7_tubeCell_22 (fun _ _ _ h => h)))))))
def B_X7_tubeCell_23 (X : Nat × (Nat → Int32)) (J : Nat → zCf) (R : zRt) : zCf := oISTORE 1 2 (oILOAD 2 (oPI (zj (12)) (oINS2 X M_J9_floorMod_7cf53 (oIRET R))))
set_option maxRecDepth 100000 in
theorem vb_X7_tubeCell_23 {X : Nat × (Nat → Int32)} {R : zRt} : ∀ ls st h, B_X7_tubeCell_23 X (zV X M_X7_tubeCell (zQm M_X7_tubeCell R) 0 0) R ls st h → zV X M_X7_tubeCell (zQm M_X7_tubeCell R) 0 0 23 ls st h := sd_istore_n dX7_tubeCell_23 rfl (Nat.le_of_ble_eq_true rfl) (Or.inl rfl) (sd_iload_n dX7_tubeCell_24 rfl (sd_bipush dX7_tubeCell_25 rfl (sd_ins2 dX7_tubeCell_27 ms_J9_floorMod_7cf53 na_J9_floorMod_7cf53 ml_RX7_379 ⟨⟨Nat.le_of_ble_eq_true rfl, Nat.le_of_ble_eq_true rfl⟩, ⟨Nat.le_of_ble_eq_true rfl, Nat.le_of_ble_eq_true rfl⟩⟩ (sd_iret dX7_tubeCell_30 rfl (Nat.le_of_ble_eq_true rfl) (Nat.le_of_ble_eq_true rfl)))))
theorem dX7_mirroredCell_0 : decode cX7_mirroredCell 0 = .ok (.iload_n 0, 1) := by decide +kernel
theorem dX7_mirroredCell_1 : decode cX7_mirroredCell 1 = .ok (.invokestatic 376, 3) := by decide +kernel
theorem dX7_mirroredCell_4 : decode cX7_mirroredCell 4 = .ok (.ifCond .eq 11, 3) := by decide +kernel
theorem dX7_mirroredCell_7 : decode cX7_mirroredCell 7 = .ok (.iload_n 1, 1) := by decide +kernel
theorem dX7_mirroredCell_8 : decode cX7_mirroredCell 8 = .ok (.iconst 2, 1) := by decide +kernel
theorem dX7_mirroredCell_9 : decode cX7_mirroredCell 9 = .ok (.iload_n 0, 1) := by decide +kernel
theorem dX7_mirroredCell_10 : decode cX7_mirroredCell 10 = .ok (.imul, 1) := by decide +kernel
theorem dX7_mirroredCell_11 : decode cX7_mirroredCell 11 = .ok (.iadd, 1) := by decide +kernel
theorem dX7_mirroredCell_12 : decode cX7_mirroredCell 12 = .ok (.goto 11, 3) := by decide +kernel
theorem dX7_mirroredCell_15 : decode cX7_mirroredCell 15 = .ok (.bipush 11, 2) := by decide +kernel
theorem dX7_mirroredCell_17 : decode cX7_mirroredCell 17 = .ok (.iload_n 1, 1) := by decide +kernel
theorem dX7_mirroredCell_18 : decode cX7_mirroredCell 18 = .ok (.isub, 1) := by decide +kernel
theorem dX7_mirroredCell_19 : decode cX7_mirroredCell 19 = .ok (.iconst 2, 1) := by decide +kernel
theorem dX7_mirroredCell_20 : decode cX7_mirroredCell 20 = .ok (.iload_n 0, 1) := by decide +kernel
theorem dX7_mirroredCell_21 : decode cX7_mirroredCell 21 = .ok (.imul, 1) := by decide +kernel
theorem dX7_mirroredCell_22 : decode cX7_mirroredCell 22 = .ok (.iadd, 1) := by decide +kernel
theorem dX7_mirroredCell_23 : decode cX7_mirroredCell 23 = .ok (.istore_n 2, 1) := by decide +kernel
theorem dX7_mirroredCell_24 : decode cX7_mirroredCell 24 = .ok (.iload_n 2, 1) := by decide +kernel
theorem dX7_mirroredCell_25 : decode cX7_mirroredCell 25 = .ok (.bipush 12, 2) := by decide +kernel
theorem dX7_mirroredCell_27 : decode cX7_mirroredCell 27 = .ok (.invokestatic 379, 3) := by decide +kernel
theorem dX7_mirroredCell_30 : decode cX7_mirroredCell 30 = .ok (.ireturn, 1) := by decide +kernel
def B_X7_mirroredCell_0 (X : Nat × (Nat → Int32)) (J : Nat → zCf) (R : zRt) : zCf := oILOAD 0 (oINS1 X M_X7_runsUpwards (oIFEQ (J 15) (oILOAD 1 (oPI (zj (2)) (oILOAD 0 (oIMUL (oIADD (J 23))))))))
set_option maxRecDepth 100000 in
theorem vb_X7_mirroredCell_0 {X : Nat × (Nat → Int32)} {R : zRt} : ∀ ls st h, B_X7_mirroredCell_0 X (zV X M_X7_mirroredCell (zQm M_X7_mirroredCell R) 0 0) R ls st h → zV X M_X7_mirroredCell (zQm M_X7_mirroredCell R) 0 0 0 ls st h := sd_iload_n dX7_mirroredCell_0 rfl (sd_ins1 dX7_mirroredCell_1 ms_X7_runsUpwards na_X7_runsUpwards ml_RX7_376 ⟨⟨Nat.le_of_ble_eq_true rfl, Nat.le_of_ble_eq_true rfl⟩, ⟨Nat.le_of_ble_eq_true rfl, Nat.le_of_ble_eq_true rfl⟩⟩ (sd_ifeq dX7_mirroredCell_4 rfl (fun _ _ _ h => h) (sd_iload_n dX7_mirroredCell_7 rfl (sd_iconst dX7_mirroredCell_8 rfl (sd_iload_n dX7_mirroredCell_9 rfl (sd_imul dX7_mirroredCell_10 (sd_iadd dX7_mirroredCell_11 (sd_goto dX7_mirroredCell_12 rfl (fun _ _ _ h => h)))))))))
def B_X7_mirroredCell_15 (X : Nat × (Nat → Int32)) (J : Nat → zCf) (R : zRt) : zCf := oPI (zj (11)) (oILOAD 1 (oISUB (oPI (zj (2)) (oILOAD 0 (oIMUL (oIADD (J 23)))))))
set_option maxRecDepth 100000 in
theorem vb_X7_mirroredCell_15 {X : Nat × (Nat → Int32)} {R : zRt} : ∀ ls st h, B_X7_mirroredCell_15 X (zV X M_X7_mirroredCell (zQm M_X7_mirroredCell R) 0 0) R ls st h → zV X M_X7_mirroredCell (zQm M_X7_mirroredCell R) 0 0 15 ls st h := sd_bipush dX7_mirroredCell_15 rfl (sd_iload_n dX7_mirroredCell_17 rfl (sd_isub dX7_mirroredCell_18 (sd_iconst dX7_mirroredCell_19 rfl (sd_iload_n dX7_mirroredCell_20 rfl (sd_imul dX7_mirroredCell_21 (sd_iadd dX7_mirroredCell_22 (fun _ _ _ h => h)))))))
def B_X7_mirroredCell_23 (X : Nat × (Nat → Int32)) (J : Nat → zCf) (R : zRt) : zCf := oISTORE 1 2 (oILOAD 2 (oPI (zj (12)) (oINS2 X M_J9_floorMod_7cf53 (oIRET R))))
set_option maxRecDepth 100000 in
theorem vb_X7_mirroredCell_23 {X : Nat × (Nat → Int32)} {R : zRt} : ∀ ls st h, B_X7_mirroredCell_23 X (zV X M_X7_mirroredCell (zQm M_X7_mirroredCell R) 0 0) R ls st h → zV X M_X7_mirroredCell (zQm M_X7_mirroredCell R) 0 0 23 ls st h := sd_istore_n dX7_mirroredCell_23 rfl (Nat.le_of_ble_eq_true rfl) (Or.inl rfl) (sd_iload_n dX7_mirroredCell_24 rfl (sd_bipush dX7_mirroredCell_25 rfl (sd_ins2 dX7_mirroredCell_27 ms_J9_floorMod_7cf53 na_J9_floorMod_7cf53 ml_RX7_379 ⟨⟨Nat.le_of_ble_eq_true rfl, Nat.le_of_ble_eq_true rfl⟩, ⟨Nat.le_of_ble_eq_true rfl, Nat.le_of_ble_eq_true rfl⟩⟩ (sd_iret dX7_mirroredCell_30 rfl (Nat.le_of_ble_eq_true rfl) (Nat.le_of_ble_eq_true rfl)))))
theorem dX7_spotAt_0 : decode cX7_spotAt 0 = .ok (.iload_n 0, 1) := by decide +kernel
theorem dX7_spotAt_1 : decode cX7_spotAt 1 = .ok (.bipush 12, 2) := by decide +kernel
theorem dX7_spotAt_3 : decode cX7_spotAt 3 = .ok (.imul, 1) := by decide +kernel
theorem dX7_spotAt_4 : decode cX7_spotAt 4 = .ok (.iload_n 0, 1) := by decide +kernel
theorem dX7_spotAt_5 : decode cX7_spotAt 5 = .ok (.invokestatic 376, 3) := by decide +kernel
theorem dX7_spotAt_8 : decode cX7_spotAt 8 = .ok (.ifCond .eq 7, 3) := by decide +kernel
theorem dX7_spotAt_11 : decode cX7_spotAt 11 = .ok (.iload_n 1, 1) := by decide +kernel
theorem dX7_spotAt_12 : decode cX7_spotAt 12 = .ok (.goto 7, 3) := by decide +kernel
theorem dX7_spotAt_15 : decode cX7_spotAt 15 = .ok (.bipush 11, 2) := by decide +kernel
theorem dX7_spotAt_17 : decode cX7_spotAt 17 = .ok (.iload_n 1, 1) := by decide +kernel
theorem dX7_spotAt_18 : decode cX7_spotAt 18 = .ok (.isub, 1) := by decide +kernel
theorem dX7_spotAt_19 : decode cX7_spotAt 19 = .ok (.iadd, 1) := by decide +kernel
theorem dX7_spotAt_20 : decode cX7_spotAt 20 = .ok (.ireturn, 1) := by decide +kernel
def B_X7_spotAt_0 (X : Nat × (Nat → Int32)) (J : Nat → zCf) (R : zRt) : zCf := oILOAD 0 (oPI (zj (12)) (oIMUL (oILOAD 0 (oINS1 X M_X7_runsUpwards (oIFEQ (J 15) (oILOAD 1 (J 19)))))))
set_option maxRecDepth 100000 in
theorem vb_X7_spotAt_0 {X : Nat × (Nat → Int32)} {R : zRt} : ∀ ls st h, B_X7_spotAt_0 X (zV X M_X7_spotAt (zQm M_X7_spotAt R) 0 0) R ls st h → zV X M_X7_spotAt (zQm M_X7_spotAt R) 0 0 0 ls st h := sd_iload_n dX7_spotAt_0 rfl (sd_bipush dX7_spotAt_1 rfl (sd_imul dX7_spotAt_3 (sd_iload_n dX7_spotAt_4 rfl (sd_ins1 dX7_spotAt_5 ms_X7_runsUpwards na_X7_runsUpwards ml_RX7_376 ⟨⟨Nat.le_of_ble_eq_true rfl, Nat.le_of_ble_eq_true rfl⟩, ⟨Nat.le_of_ble_eq_true rfl, Nat.le_of_ble_eq_true rfl⟩⟩ (sd_ifeq dX7_spotAt_8 rfl (fun _ _ _ h => h) (sd_iload_n dX7_spotAt_11 rfl (sd_goto dX7_spotAt_12 rfl (fun _ _ _ h => h))))))))
def B_X7_spotAt_15 (X : Nat × (Nat → Int32)) (J : Nat → zCf) (R : zRt) : zCf := oPI (zj (11)) (oILOAD 1 (oISUB (J 19)))
set_option maxRecDepth 100000 in
theorem vb_X7_spotAt_15 {X : Nat × (Nat → Int32)} {R : zRt} : ∀ ls st h, B_X7_spotAt_15 X (zV X M_X7_spotAt (zQm M_X7_spotAt R) 0 0) R ls st h → zV X M_X7_spotAt (zQm M_X7_spotAt R) 0 0 15 ls st h := sd_bipush dX7_spotAt_15 rfl (sd_iload_n dX7_spotAt_17 rfl (sd_isub dX7_spotAt_18 (fun _ _ _ h => h)))
def B_X7_spotAt_19 (X : Nat × (Nat → Int32)) (J : Nat → zCf) (R : zRt) : zCf := oIADD (oIRET R)
set_option maxRecDepth 100000 in
theorem vb_X7_spotAt_19 {X : Nat × (Nat → Int32)} {R : zRt} : ∀ ls st h, B_X7_spotAt_19 X (zV X M_X7_spotAt (zQm M_X7_spotAt R) 0 0) R ls st h → zV X M_X7_spotAt (zQm M_X7_spotAt R) 0 0 19 ls st h := sd_iadd dX7_spotAt_19 (sd_iret dX7_spotAt_20 rfl (Nat.le_of_ble_eq_true rfl) (Nat.le_of_ble_eq_true rfl))
