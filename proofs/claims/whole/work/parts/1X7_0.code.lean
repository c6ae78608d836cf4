theorem dX7_init_0 : decode cX7_init 0 = .ok (.aload_n 0, 1) := by decide +kernel
theorem dX7_init_1 : decode cX7_init 1 = .ok (.invokespecial 1, 3) := by decide +kernel
theorem dX7_init_4 : decode cX7_init 4 = .ok (.aload_n 0, 1) := by decide +kernel
theorem dX7_init_5 : decode cX7_init 5 = .ok (.new 7, 3) := by decide +kernel
theorem dX7_init_8 : decode cX7_init 8 = .ok (.dup, 1) := by decide +kernel
theorem dX7_init_9 : decode cX7_init 9 = .ok (.invokespecial 9, 3) := by decide +kernel
theorem dX7_init_12 : decode cX7_init 12 = .ok (.putfield 10, 3) := by decide +kernel
theorem dX7_init_15 : decode cX7_init 15 = .ok (.aload_n 0, 1) := by decide +kernel
theorem dX7_init_16 : decode cX7_init 16 = .ok (.new 16, 3) := by decide +kernel
theorem dX7_init_19 : decode cX7_init 19 = .ok (.dup, 1) := by decide +kernel
theorem dX7_init_20 : decode cX7_init 20 = .ok (.invokespecial 18, 3) := by decide +kernel
theorem dX7_init_23 : decode cX7_init 23 = .ok (.putfield 19, 3) := by decide +kernel
theorem dX7_init_26 : decode cX7_init 26 = .ok (.aload_n 0, 1) := by decide +kernel
theorem dX7_init_27 : decode cX7_init 27 = .ok (.new 23, 3) := by decide +kernel
theorem dX7_init_30 : decode cX7_init 30 = .ok (.dup, 1) := by decide +kernel
theorem dX7_init_31 : decode cX7_init 31 = .ok (.invokespecial 25, 3) := by decide +kernel
theorem dX7_init_34 : decode cX7_init 34 = .ok (.putfield 26, 3) := by decide +kernel
theorem dX7_init_37 : decode cX7_init 37 = .ok (.aload_n 0, 1) := by decide +kernel
theorem dX7_init_38 : decode cX7_init 38 = .ok (.new 30, 3) := by decide +kernel
theorem dX7_init_41 : decode cX7_init 41 = .ok (.dup, 1) := by decide +kernel
theorem dX7_init_42 : decode cX7_init 42 = .ok (.invokespecial 32, 3) := by decide +kernel
theorem dX7_init_45 : decode cX7_init 45 = .ok (.putfield 33, 3) := by decide +kernel
theorem dX7_init_48 : decode cX7_init 48 = .ok (.aload_n 0, 1) := by decide +kernel
theorem dX7_init_49 : decode cX7_init 49 = .ok (.new 37, 3) := by decide +kernel
theorem dX7_init_52 : decode cX7_init 52 = .ok (.dup, 1) := by decide +kernel
theorem dX7_init_53 : decode cX7_init 53 = .ok (.invokespecial 39, 3) := by decide +kernel
theorem dX7_init_56 : decode cX7_init 56 = .ok (.putfield 40, 3) := by decide +kernel
theorem dX7_init_59 : decode cX7_init 59 = .ok (.return_, 1) := by decide +kernel
def B_X7_init_0 (X : Nat × (Nat → Int32)) (J : Nat → zCf) (R : zRt) : zCf := oALOAD 0 (oOBJ (oALOAD 0 (oNEW 2 (oDUP (oINI X M_X2_init (oPUTR 7 0 (oALOAD 0 (oNEW 4 (oDUP (oINI X M_X4_init (oPUTR 7 1 (oALOAD 0 (oNEW 0 (oDUP (oINI X M_X0_init (oPUTR 7 2 (oALOAD 0 (oNEW 3 (oDUP (oINI X M_X3_init (oPUTR 7 3 (oALOAD 0 (oNEW 5 (oDUP (oINI X M_X5_init (oPUTR 7 4 (oVRET R)))))))))))))))))))))))))))
set_option maxRecDepth 100000 in
theorem vb_X7_init_0 {X : Nat × (Nat → Int32)} {R : zRt} : ∀ ls st h, B_X7_init_0 X (fun t => zV X M_X7_init (zQm M_X7_init R) (if t ≤ 49 then 0 else 61) (if t ≤ 49 then 0 else 2319) t) R ls st h → zV X M_X7_init (zQm M_X7_init R) 0 0 0 ls st h := sd_aload_n dX7_init_0 rfl (sd_obj dX7_init_1 (zmt (zt1 (i := 27) rfl) rfl) (zmt (zt1 (i := 28) rfl) rfl) (zmt (zt1 (i := 29) rfl) rfl) (Nat.le_of_ble_eq_true rfl) (Nat.le_of_ble_eq_true rfl) (sd_aload_n dX7_init_4 rfl (sd_new dX7_init_5 zCl2 (by decide) (zmt (zt1 (i := 30) rfl) rfl) (zmt (zt1 (i := 31) rfl) rfl) (zmt (zt1 (i := 2) rfl) rfl) (Nat.le_of_ble_eq_true rfl) (Nat.le_of_ble_eq_true rfl) (sd_dup dX7_init_8 (sd_ini dX7_init_9 mi_X2_init na_X2_init ml_RX7_9 ⟨⟨Nat.le_of_ble_eq_true rfl, Nat.le_of_ble_eq_true rfl⟩, ⟨Nat.le_of_ble_eq_true rfl, Nat.le_of_ble_eq_true rfl⟩⟩ (sd_putr dX7_init_12 zCl7 (Nat.le_of_ble_eq_true rfl) lk_RX7_10 (Or.inl ⟨_, rfl⟩) (Or.inr ⟨rfl, rfl, rfl, (zmt (zt2 (i := 24) rfl) rfl)⟩) (sd_aload_n dX7_init_15 rfl (sd_new dX7_init_16 zCl4 (by decide) (zmt (zt1 (i := 176) rfl) rfl) (zmt (zt1 (i := 177) rfl) rfl) (zmt (zt1 (i := 5) rfl) rfl) (Nat.le_of_ble_eq_true rfl) (Nat.le_of_ble_eq_true rfl) (sd_dup dX7_init_19 (sd_ini dX7_init_20 mi_X4_init na_X4_init ml_RX7_18 ⟨⟨Nat.le_of_ble_eq_true rfl, Nat.le_of_ble_eq_true rfl⟩, ⟨Nat.le_of_ble_eq_true rfl, Nat.le_of_ble_eq_true rfl⟩⟩ (sd_putr dX7_init_23 zCl7 (Nat.le_of_ble_eq_true rfl) lk_RX7_19 (Or.inl ⟨_, rfl⟩) (Or.inr ⟨rfl, rfl, rfl, (zmt (zt2 (i := 25) rfl) rfl)⟩) (sd_aload_n dX7_init_26 rfl (sd_new dX7_init_27 zCl0 (by decide) (zmt (zt1 (i := 193) rfl) rfl) (zmt (zt1 (i := 194) rfl) rfl) (zmt (zt1 (i := 6) rfl) rfl) (Nat.le_of_ble_eq_true rfl) (Nat.le_of_ble_eq_true rfl) (sd_dup dX7_init_30 (sd_ini dX7_init_31 mi_X0_init na_X0_init ml_RX7_25 ⟨⟨Nat.le_of_ble_eq_true rfl, Nat.le_of_ble_eq_true rfl⟩, ⟨Nat.le_of_ble_eq_true rfl, Nat.le_of_ble_eq_true rfl⟩⟩ (sd_putr dX7_init_34 zCl7 (Nat.le_of_ble_eq_true rfl) lk_RX7_26 (Or.inl ⟨_, rfl⟩) (Or.inr ⟨rfl, rfl, rfl, (zmt (zt2 (i := 26) rfl) rfl)⟩) (sd_aload_n dX7_init_37 rfl (sd_new dX7_init_38 zCl3 (by decide) (zmt (zt1 (i := 219) rfl) rfl) (zmt (zt1 (i := 220) rfl) rfl) (zmt (zt1 (i := 7) rfl) rfl) (Nat.le_of_ble_eq_true rfl) (Nat.le_of_ble_eq_true rfl) (sd_dup dX7_init_41 (sd_ini dX7_init_42 mi_X3_init na_X3_init ml_RX7_32 ⟨⟨Nat.le_of_ble_eq_true rfl, Nat.le_of_ble_eq_true rfl⟩, ⟨Nat.le_of_ble_eq_true rfl, Nat.le_of_ble_eq_true rfl⟩⟩ (sd_putr dX7_init_45 zCl7 (Nat.le_of_ble_eq_true rfl) lk_RX7_33 (Or.inl ⟨_, rfl⟩) (Or.inr ⟨rfl, rfl, rfl, (zmt (zt2 (i := 27) rfl) rfl)⟩) (sd_aload_n dX7_init_48 rfl (sd_new dX7_init_49 zCl5 (by decide) (zmt (zt2 (i := 3) rfl) rfl) (zmt (zt2 (i := 4) rfl) rfl) (zmt (zt1 (i := 9) rfl) rfl) (Nat.le_of_ble_eq_true rfl) (Nat.le_of_ble_eq_true rfl) (sd_dup dX7_init_52 (sd_ini dX7_init_53 mi_X5_init na_X5_init ml_RX7_39 ⟨⟨Nat.le_of_ble_eq_true rfl, Nat.le_of_ble_eq_true rfl⟩, ⟨Nat.le_of_ble_eq_true rfl, Nat.le_of_ble_eq_true rfl⟩⟩ (sd_putr dX7_init_56 zCl7 (Nat.le_of_ble_eq_true rfl) lk_RX7_40 (Or.inl ⟨_, rfl⟩) (Or.inr ⟨rfl, rfl, rfl, (zmt (zt2 (i := 28) rfl) rfl)⟩) (sd_vret dX7_init_59 rfl (Nat.le_of_ble_eq_true rfl) (Nat.le_of_ble_eq_true rfl))))))))))))))))))))))))))))
theorem dX7_feed_0 : decode cX7_feed 0 = .ok (.aload_n 0, 1) := by decide +kernel
theorem dX7_feed_1 : decode cX7_feed 1 = .ok (.getfield 10, 3) := by decide +kernel
theorem dX7_feed_4 : decode cX7_feed 4 = .ok (.getfield 44, 3) := by decide +kernel
theorem dX7_feed_7 : decode cX7_feed 7 = .ok (.getfield 48, 3) := by decide +kernel
theorem dX7_feed_10 : decode cX7_feed 10 = .ok (.bipush 20, 2) := by decide +kernel
theorem dX7_feed_12 : decode cX7_feed 12 = .ok (.iadd, 1) := by decide +kernel
theorem dX7_feed_13 : decode cX7_feed 13 = .ok (.sipush 800, 3) := by decide +kernel
theorem dX7_feed_16 : decode cX7_feed 16 = .ok (.if_icmp .le 5, 3) := by decide +kernel
theorem dX7_feed_19 : decode cX7_feed 19 = .ok (.iconst (-1), 1) := by decide +kernel
theorem dX7_feed_20 : decode cX7_feed 20 = .ok (.ireturn, 1) := by decide +kernel
theorem dX7_feed_21 : decode cX7_feed 21 = .ok (.aload_n 0, 1) := by decide +kernel
theorem dX7_feed_22 : decode cX7_feed 22 = .ok (.getfield 10, 3) := by decide +kernel
theorem dX7_feed_25 : decode cX7_feed 25 = .ok (.getfield 44, 3) := by decide +kernel
theorem dX7_feed_28 : decode cX7_feed 28 = .ok (.iload_n 1, 1) := by decide +kernel
theorem dX7_feed_29 : decode cX7_feed 29 = .ok (.invokevirtual 54, 3) := by decide +kernel
theorem dX7_feed_32 : decode cX7_feed 32 = .ok (.aload_n 0, 1) := by decide +kernel
theorem dX7_feed_33 : decode cX7_feed 33 = .ok (.getfield 10, 3) := by decide +kernel
theorem dX7_feed_36 : decode cX7_feed 36 = .ok (.getfield 44, 3) := by decide +kernel
theorem dX7_feed_39 : decode cX7_feed 39 = .ok (.iload_n 2, 1) := by decide +kernel
theorem dX7_feed_40 : decode cX7_feed 40 = .ok (.invokevirtual 54, 3) := by decide +kernel
theorem dX7_feed_43 : decode cX7_feed 43 = .ok (.aload_n 0, 1) := by decide +kernel
theorem dX7_feed_44 : decode cX7_feed 44 = .ok (.getfield 10, 3) := by decide +kernel
theorem dX7_feed_47 : decode cX7_feed 47 = .ok (.getfield 44, 3) := by decide +kernel
theorem dX7_feed_50 : decode cX7_feed 50 = .ok (.iload_n 3, 1) := by decide +kernel
theorem dX7_feed_51 : decode cX7_feed 51 = .ok (.invokevirtual 54, 3) := by decide +kernel
theorem dX7_feed_54 : decode cX7_feed 54 = .ok (.aload_n 0, 1) := by decide +kernel
theorem dX7_feed_55 : decode cX7_feed 55 = .ok (.getfield 10, 3) := by decide +kernel
theorem dX7_feed_58 : decode cX7_feed 58 = .ok (.getfield 44, 3) := by decide +kernel
theorem dX7_feed_61 : decode cX7_feed 61 = .ok (.iload 4, 2) := by decide +kernel
theorem dX7_feed_63 : decode cX7_feed 63 = .ok (.invokevirtual 54, 3) := by decide +kernel
theorem dX7_feed_66 : decode cX7_feed 66 = .ok (.aload_n 0, 1) := by decide +kernel
theorem dX7_feed_67 : decode cX7_feed 67 = .ok (.getfield 10, 3) := by decide +kernel
theorem dX7_feed_70 : decode cX7_feed 70 = .ok (.getfield 44, 3) := by decide +kernel
theorem dX7_feed_73 : decode cX7_feed 73 = .ok (.iload 5, 2) := by decide +kernel
theorem dX7_feed_75 : decode cX7_feed 75 = .ok (.invokevirtual 54, 3) := by decide +kernel
theorem dX7_feed_78 : decode cX7_feed 78 = .ok (.aload_n 0, 1) := by decide +kernel
theorem dX7_feed_79 : decode cX7_feed 79 = .ok (.getfield 10, 3) := by decide +kernel
theorem dX7_feed_82 : decode cX7_feed 82 = .ok (.getfield 44, 3) := by decide +kernel
theorem dX7_feed_85 : decode cX7_feed 85 = .ok (.getfield 48, 3) := by decide +kernel
theorem dX7_feed_88 : decode cX7_feed 88 = .ok (.ireturn, 1) := by decide +kernel
def B_X7_feed_0 (X : Nat × (Nat → Int32)) (J : Nat → zCf) (R : zRt) : zCf := oALOAD 0 (oGETR 7 0 (oGETR 2 0 (oGETI 6 1 (oPI (zj (20)) (oIADD (oPI (zj (800)) (oICLE (J 21) (oPI (zj (-1)) (oIRET R)))))))))
set_option maxRecDepth 100000 in
theorem vb_X7_feed_0 {X : Nat × (Nat → Int32)} {R : zRt} : ∀ ls st h, B_X7_feed_0 X (zV X M_X7_feed (zQm M_X7_feed R) 0 0) R ls st h → zV X M_X7_feed (zQm M_X7_feed R) 0 0 0 ls st h := sd_aload_n dX7_feed_0 rfl (sd_getr dX7_feed_1 zCl7 (Nat.le_of_ble_eq_true rfl) lk_RX7_10 (Or.inl ⟨_, rfl⟩) (sd_getr dX7_feed_4 zCl2 (Nat.le_of_ble_eq_true rfl) lk_RX7_44 (Or.inl ⟨_, rfl⟩) (sd_geti dX7_feed_7 zCl6 (Nat.le_of_ble_eq_true rfl) lk_RX7_48 (Or.inl rfl) (sd_bipush dX7_feed_10 rfl (sd_iadd dX7_feed_12 (sd_sipush dX7_feed_13 rfl (sd_icle dX7_feed_16 rfl (fun _ _ _ h => h) (sd_iconst dX7_feed_19 rfl (sd_iret dX7_feed_20 rfl (Nat.le_of_ble_eq_true rfl) (Nat.le_of_ble_eq_true rfl))))))))))
def B_X7_feed_21 (X : Nat × (Nat → Int32)) (J : Nat → zCf) (R : zRt) : zCf := oALOAD 0 (oGETR 7 0 (oGETR 2 0 (oILOAD 1 (oINV1 X M_X6_put 6 (oALOAD 0 (oGETR 7 0 (oGETR 2 0 (oILOAD 2 (oINV1 X M_X6_put 6 (oALOAD 0 (oGETR 7 0 (oGETR 2 0 (oILOAD 3 (oINV1 X M_X6_put 6 (oALOAD 0 (oGETR 7 0 (oGETR 2 0 (oILOAD 4 (oINV1 X M_X6_put 6 (oALOAD 0 (oGETR 7 0 (oGETR 2 0 (oILOAD 5 (oINV1 X M_X6_put 6 (oALOAD 0 (oGETR 7 0 (oGETR 2 0 (oGETI 6 1 (oIRET R)))))))))))))))))))))))))))))
set_option maxRecDepth 100000 in
theorem vb_X7_feed_21 {X : Nat × (Nat → Int32)} {R : zRt} : ∀ ls st h, B_X7_feed_21 X (zV X M_X7_feed (zQm M_X7_feed R) 0 0) R ls st h → zV X M_X7_feed (zQm M_X7_feed R) 0 0 21 ls st h := sd_aload_n dX7_feed_21 rfl (sd_getr dX7_feed_22 zCl7 (Nat.le_of_ble_eq_true rfl) lk_RX7_10 (Or.inl ⟨_, rfl⟩) (sd_getr dX7_feed_25 zCl2 (Nat.le_of_ble_eq_true rfl) lk_RX7_44 (Or.inl ⟨_, rfl⟩) (sd_iload_n dX7_feed_28 rfl (sd_inv1 dX7_feed_29 rfl mv_X6_put na_X6_put ml_RX7_54 ⟨⟨Nat.le_of_ble_eq_true rfl, Nat.le_of_ble_eq_true rfl⟩, ⟨Nat.le_of_ble_eq_true rfl, Nat.le_of_ble_eq_true rfl⟩⟩ (sd_aload_n dX7_feed_32 rfl (sd_getr dX7_feed_33 zCl7 (Nat.le_of_ble_eq_true rfl) lk_RX7_10 (Or.inl ⟨_, rfl⟩) (sd_getr dX7_feed_36 zCl2 (Nat.le_of_ble_eq_true rfl) lk_RX7_44 (Or.inl ⟨_, rfl⟩) (sd_iload_n dX7_feed_39 rfl (sd_inv1 dX7_feed_40 rfl mv_X6_put na_X6_put ml_RX7_54 ⟨⟨Nat.le_of_ble_eq_true rfl, Nat.le_of_ble_eq_true rfl⟩, ⟨Nat.le_of_ble_eq_true rfl, Nat.le_of_ble_eq_true rfl⟩⟩ (sd_aload_n dX7_feed_43 rfl (sd_getr dX7_feed_44 zCl7 (Nat.le_of_ble_eq_true rfl) lk_RX7_10 (Or.inl ⟨_, rfl⟩) (sd_getr dX7_feed_47 zCl2 (Nat.le_of_ble_eq_true rfl) lk_RX7_44 (Or.inl ⟨_, rfl⟩) (sd_iload_n dX7_feed_50 rfl (sd_inv1 dX7_feed_51 rfl mv_X6_put na_X6_put ml_RX7_54 ⟨⟨Nat.le_of_ble_eq_true rfl, Nat.le_of_ble_eq_true rfl⟩, ⟨Nat.le_of_ble_eq_true rfl, Nat.le_of_ble_eq_true rfl⟩⟩ (sd_aload_n dX7_feed_54 rfl (sd_getr dX7_feed_55 zCl7 (Nat.le_of_ble_eq_true rfl) lk_RX7_10 (Or.inl ⟨_, rfl⟩) (sd_getr dX7_feed_58 zCl2 (Nat.le_of_ble_eq_true rfl) lk_RX7_44 (Or.inl ⟨_, rfl⟩) (sd_iload dX7_feed_61 (sd_inv1 dX7_feed_63 rfl mv_X6_put na_X6_put ml_RX7_54 ⟨⟨Nat.le_of_ble_eq_true rfl, Nat.le_of_ble_eq_true rfl⟩, ⟨Nat.le_of_ble_eq_true rfl, Nat.le_of_ble_eq_true rfl⟩⟩ (sd_aload_n dX7_feed_66 rfl (sd_getr dX7_feed_67 zCl7 (Nat.le_of_ble_eq_true rfl) lk_RX7_10 (Or.inl ⟨_, rfl⟩) (sd_getr dX7_feed_70 zCl2 (Nat.le_of_ble_eq_true rfl) lk_RX7_44 (Or.inl ⟨_, rfl⟩) (sd_iload dX7_feed_73 (sd_inv1 dX7_feed_75 rfl mv_X6_put na_X6_put ml_RX7_54 ⟨⟨Nat.le_of_ble_eq_true rfl, Nat.le_of_ble_eq_true rfl⟩, ⟨Nat.le_of_ble_eq_true rfl, Nat.le_of_ble_eq_true rfl⟩⟩ (sd_aload_n dX7_feed_78 rfl (sd_getr dX7_feed_79 zCl7 (Nat.le_of_ble_eq_true rfl) lk_RX7_10 (Or.inl ⟨_, rfl⟩) (sd_getr dX7_feed_82 zCl2 (Nat.le_of_ble_eq_true rfl) lk_RX7_44 (Or.inl ⟨_, rfl⟩) (sd_geti dX7_feed_85 zCl6 (Nat.le_of_ble_eq_true rfl) lk_RX7_48 (Or.inl rfl) (sd_iret dX7_feed_88 rfl (Nat.le_of_ble_eq_true rfl) (Nat.le_of_ble_eq_true rfl))))))))))))))))))))))))))))))
theorem dX7_tube_0 : decode cX7_tube 0 = .ok (.iload_n 1, 1) := by decide +kernel
theorem dX7_tube_1 : decode cX7_tube 1 = .ok (.ifCond .lt 17, 3) := by decide +kernel
theorem dX7_tube_4 : decode cX7_tube 4 = .ok (.iload_n 1, 1) := by decide +kernel
theorem dX7_tube_5 : decode cX7_tube 5 = .ok (.aload_n 0, 1) := by decide +kernel
theorem dX7_tube_6 : decode cX7_tube 6 = .ok (.getfield 10, 3) := by decide +kernel
theorem dX7_tube_9 : decode cX7_tube 9 = .ok (.getfield 44, 3) := by decide +kernel
theorem dX7_tube_12 : decode cX7_tube 12 = .ok (.getfield 48, 3) := by decide +kernel
theorem dX7_tube_15 : decode cX7_tube 15 = .ok (.if_icmp .le 9, 3) := by decide +kernel
theorem dX7_tube_18 : decode cX7_tube 18 = .ok (.aload_n 0, 1) := by decide +kernel
theorem dX7_tube_19 : decode cX7_tube 19 = .ok (.iconst 2, 1) := by decide +kernel
theorem dX7_tube_20 : decode cX7_tube 20 = .ok (.invokevirtual 58, 3) := by decide +kernel
theorem dX7_tube_23 : decode cX7_tube 23 = .ok (.ireturn, 1) := by decide +kernel
theorem dX7_tube_24 : decode cX7_tube 24 = .ok (.aload_n 0, 1) := by decide +kernel
theorem dX7_tube_25 : decode cX7_tube 25 = .ok (.getfield 10, 3) := by decide +kernel
theorem dX7_tube_28 : decode cX7_tube 28 = .ok (.iload_n 1, 1) := by decide +kernel
theorem dX7_tube_29 : decode cX7_tube 29 = .ok (.invokevirtual 62, 3) := by decide +kernel
theorem dX7_tube_32 : decode cX7_tube 32 = .ok (.istore_n 2, 1) := by decide +kernel
theorem dX7_tube_33 : decode cX7_tube 33 = .ok (.aload_n 0, 1) := by decide +kernel
theorem dX7_tube_34 : decode cX7_tube 34 = .ok (.getfield 10, 3) := by decide +kernel
theorem dX7_tube_37 : decode cX7_tube 37 = .ok (.getfield 44, 3) := by decide +kernel
theorem dX7_tube_40 : decode cX7_tube 40 = .ok (.iconst 0, 1) := by decide +kernel
theorem dX7_tube_41 : decode cX7_tube 41 = .ok (.putfield 48, 3) := by decide +kernel
theorem dX7_tube_44 : decode cX7_tube 44 = .ok (.iload_n 2, 1) := by decide +kernel
theorem dX7_tube_45 : decode cX7_tube 45 = .ok (.ifCond .ne 9, 3) := by decide +kernel
theorem dX7_tube_48 : decode cX7_tube 48 = .ok (.aload_n 0, 1) := by decide +kernel
theorem dX7_tube_49 : decode cX7_tube 49 = .ok (.iconst 4, 1) := by decide +kernel
theorem dX7_tube_50 : decode cX7_tube 50 = .ok (.invokevirtual 58, 3) := by decide +kernel
theorem dX7_tube_53 : decode cX7_tube 53 = .ok (.ireturn, 1) := by decide +kernel
theorem dX7_tube_54 : decode cX7_tube 54 = .ok (.aload_n 0, 1) := by decide +kernel
theorem dX7_tube_55 : decode cX7_tube 55 = .ok (.getfield 10, 3) := by decide +kernel
theorem dX7_tube_58 : decode cX7_tube 58 = .ok (.aload_n 0, 1) := by decide +kernel
theorem dX7_tube_59 : decode cX7_tube 59 = .ok (.getfield 19, 3) := by decide +kernel
theorem dX7_tube_62 : decode cX7_tube 62 = .ok (.aload_n 0, 1) := by decide +kernel
theorem dX7_tube_63 : decode cX7_tube 63 = .ok (.getfield 10, 3) := by decide +kernel
theorem dX7_tube_66 : decode cX7_tube 66 = .ok (.getfield 66, 3) := by decide +kernel
theorem dX7_tube_69 : decode cX7_tube 69 = .ok (.invokevirtual 70, 3) := by decide +kernel
theorem dX7_tube_72 : decode cX7_tube 72 = .ok (.putfield 66, 3) := by decide +kernel
theorem dX7_tube_75 : decode cX7_tube 75 = .ok (.aload_n 0, 1) := by decide +kernel
theorem dX7_tube_76 : decode cX7_tube 76 = .ok (.getfield 26, 3) := by decide +kernel
theorem dX7_tube_79 : decode cX7_tube 79 = .ok (.invokevirtual 74, 3) := by decide +kernel
theorem dX7_tube_82 : decode cX7_tube 82 = .ok (.aload_n 0, 1) := by decide +kernel
theorem dX7_tube_83 : decode cX7_tube 83 = .ok (.aload_n 0, 1) := by decide +kernel
theorem dX7_tube_84 : decode cX7_tube 84 = .ok (.getfield 19, 3) := by decide +kernel
theorem dX7_tube_87 : decode cX7_tube 87 = .ok (.getfield 77, 3) := by decide +kernel
theorem dX7_tube_90 : decode cX7_tube 90 = .ok (.getfield 80, 3) := by decide +kernel
theorem dX7_tube_93 : decode cX7_tube 93 = .ok (.invokevirtual 85, 3) := by decide +kernel
theorem dX7_tube_96 : decode cX7_tube 96 = .ok (.ireturn, 1) := by decide +kernel
def B_X7_tube_0 (X : Nat × (Nat → Int32)) (J : Nat → zCf) (R : zRt) : zCf := oILOAD 1 (oIFLT (J 18) (oILOAD 1 (oALOAD 0 (oGETR 7 0 (oGETR 2 0 (oGETI 6 1 (oICLE (J 24) (J 18))))))))
set_option maxRecDepth 100000 in
theorem vb_X7_tube_0 {X : Nat × (Nat → Int32)} {R : zRt} : ∀ ls st h, B_X7_tube_0 X (zV X M_X7_tube (zQm M_X7_tube R) 0 0) R ls st h → zV X M_X7_tube (zQm M_X7_tube R) 0 0 0 ls st h := sd_iload_n dX7_tube_0 rfl (sd_iflt dX7_tube_1 rfl (fun _ _ _ h => h) (sd_iload_n dX7_tube_4 rfl (sd_aload_n dX7_tube_5 rfl (sd_getr dX7_tube_6 zCl7 (Nat.le_of_ble_eq_true rfl) lk_RX7_10 (Or.inl ⟨_, rfl⟩) (sd_getr dX7_tube_9 zCl2 (Nat.le_of_ble_eq_true rfl) lk_RX7_44 (Or.inl ⟨_, rfl⟩) (sd_geti dX7_tube_12 zCl6 (Nat.le_of_ble_eq_true rfl) lk_RX7_48 (Or.inl rfl) (sd_icle dX7_tube_15 rfl (fun _ _ _ h => h) (fun _ _ _ h => h))))))))
def B_X7_tube_18 (X : Nat × (Nat → Int32)) (J : Nat → zCf) (R : zRt) : zCf := oALOAD 0 (oPI (zj (2)) (oINV1 X M_X7_refuse 7 (oIRET R)))
set_option maxRecDepth 100000 in
theorem vb_X7_tube_18 {X : Nat × (Nat → Int32)} {R : zRt} : ∀ ls st h, B_X7_tube_18 X (zV X M_X7_tube (zQm M_X7_tube R) 0 0) R ls st h → zV X M_X7_tube (zQm M_X7_tube R) 0 0 18 ls st h := sd_aload_n dX7_tube_18 rfl (sd_iconst dX7_tube_19 rfl (sd_inv1 dX7_tube_20 rfl mv_X7_refuse na_X7_refuse ml_RX7_58 ⟨⟨Nat.le_of_ble_eq_true rfl, Nat.le_of_ble_eq_true rfl⟩, ⟨Nat.le_of_ble_eq_true rfl, Nat.le_of_ble_eq_true rfl⟩⟩ (sd_iret dX7_tube_23 rfl (Nat.le_of_ble_eq_true rfl) (Nat.le_of_ble_eq_true rfl))))
def B_X7_tube_24 (X : Nat × (Nat → Int32)) (J : Nat → zCf) (R : zRt) : zCf := oALOAD 0 (oGETR 7 0 (oILOAD 1 (oINV1 X M_X2_reads 2 (oISTORE 1 2 (oALOAD 0 (oGETR 7 0 (oGETR 2 0 (oPI (zj (0)) (oPUTI 6 1 (oILOAD 2 (oIFNE (J 54) (oALOAD 0 (oPI (zj (4)) (oINV1 X M_X7_refuse 7 (oIRET R)))))))))))))))
set_option maxRecDepth 100000 in
theorem vb_X7_tube_24 {X : Nat × (Nat → Int32)} {R : zRt} : ∀ ls st h, B_X7_tube_24 X (zV X M_X7_tube (zQm M_X7_tube R) 0 0) R ls st h → zV X M_X7_tube (zQm M_X7_tube R) 0 0 24 ls st h := sd_aload_n dX7_tube_24 rfl (sd_getr dX7_tube_25 zCl7 (Nat.le_of_ble_eq_true rfl) lk_RX7_10 (Or.inl ⟨_, rfl⟩) (sd_iload_n dX7_tube_28 rfl (sd_inv1 dX7_tube_29 rfl mv_X2_reads na_X2_reads ml_RX7_62 ⟨⟨Nat.le_of_ble_eq_true rfl, Nat.le_of_ble_eq_true rfl⟩, ⟨Nat.le_of_ble_eq_true rfl, Nat.le_of_ble_eq_true rfl⟩⟩ (sd_istore_n dX7_tube_32 rfl (Nat.le_of_ble_eq_true rfl) (Or.inl rfl) (sd_aload_n dX7_tube_33 rfl (sd_getr dX7_tube_34 zCl7 (Nat.le_of_ble_eq_true rfl) lk_RX7_10 (Or.inl ⟨_, rfl⟩) (sd_getr dX7_tube_37 zCl2 (Nat.le_of_ble_eq_true rfl) lk_RX7_44 (Or.inl ⟨_, rfl⟩) (sd_iconst dX7_tube_40 rfl (sd_puti dX7_tube_41 zCl6 (Nat.le_of_ble_eq_true rfl) lk_RX7_48 rfl (Or.inl rfl) (sd_iload_n dX7_tube_44 rfl (sd_ifne dX7_tube_45 rfl (fun _ _ _ h => h) (sd_aload_n dX7_tube_48 rfl (sd_iconst dX7_tube_49 rfl (sd_inv1 dX7_tube_50 rfl mv_X7_refuse na_X7_refuse ml_RX7_58 ⟨⟨Nat.le_of_ble_eq_true rfl, Nat.le_of_ble_eq_true rfl⟩, ⟨Nat.le_of_ble_eq_true rfl, Nat.le_of_ble_eq_true rfl⟩⟩ (sd_iret dX7_tube_53 rfl (Nat.le_of_ble_eq_true rfl) (Nat.le_of_ble_eq_true rfl))))))))))))))))
def B_X7_tube_54 (X : Nat × (Nat → Int32)) (J : Nat → zCf) (R : zRt) : zCf := oALOAD 0 (oGETR 7 0 (oALOAD 0 (oGETR 7 1 (oALOAD 0 (oGETR 7 0 (oGETR 2 1 (oINV1 X M_X4_begin 4 (oPUTR 2 1 (oALOAD 0 (oGETR 7 2 (oINV0 X M_X0_forget 0 (oALOAD 0 (oALOAD 0 (oGETR 7 1 (oGETR 4 0 (oGETI 1 1 (oINV1 X M_X7_answer 7 (oIRET R))))))))))))))))))
set_option maxRecDepth 100000 in
theorem vb_X7_tube_54 {X : Nat × (Nat → Int32)} {R : zRt} : ∀ ls st h, B_X7_tube_54 X (zV X M_X7_tube (zQm M_X7_tube R) 0 0) R ls st h → zV X M_X7_tube (zQm M_X7_tube R) 0 0 54 ls st h := sd_aload_n dX7_tube_54 rfl (sd_getr dX7_tube_55 zCl7 (Nat.le_of_ble_eq_true rfl) lk_RX7_10 (Or.inl ⟨_, rfl⟩) (sd_aload_n dX7_tube_58 rfl (sd_getr dX7_tube_59 zCl7 (Nat.le_of_ble_eq_true rfl) lk_RX7_19 (Or.inl ⟨_, rfl⟩) (sd_aload_n dX7_tube_62 rfl (sd_getr dX7_tube_63 zCl7 (Nat.le_of_ble_eq_true rfl) lk_RX7_10 (Or.inl ⟨_, rfl⟩) (sd_getr dX7_tube_66 zCl2 (Nat.le_of_ble_eq_true rfl) lk_RX7_66 (Or.inl ⟨_, rfl⟩) (sd_inv1 dX7_tube_69 rfl mv_X4_begin na_X4_begin ml_RX7_70 ⟨⟨Nat.le_of_ble_eq_true rfl, Nat.le_of_ble_eq_true rfl⟩, ⟨Nat.le_of_ble_eq_true rfl, Nat.le_of_ble_eq_true rfl⟩⟩ (sd_putr dX7_tube_72 zCl2 (Nat.le_of_ble_eq_true rfl) lk_RX7_66 (Or.inl ⟨_, rfl⟩) (Or.inl rfl) (sd_aload_n dX7_tube_75 rfl (sd_getr dX7_tube_76 zCl7 (Nat.le_of_ble_eq_true rfl) lk_RX7_26 (Or.inl ⟨_, rfl⟩) (sd_inv0 dX7_tube_79 rfl mv_X0_forget na_X0_forget ml_RX7_74 ⟨⟨Nat.le_of_ble_eq_true rfl, Nat.le_of_ble_eq_true rfl⟩, ⟨Nat.le_of_ble_eq_true rfl, Nat.le_of_ble_eq_true rfl⟩⟩ (sd_aload_n dX7_tube_82 rfl (sd_aload_n dX7_tube_83 rfl (sd_getr dX7_tube_84 zCl7 (Nat.le_of_ble_eq_true rfl) lk_RX7_19 (Or.inl ⟨_, rfl⟩) (sd_getr dX7_tube_87 zCl4 (Nat.le_of_ble_eq_true rfl) lk_RX7_77 (Or.inl ⟨_, rfl⟩) (sd_geti dX7_tube_90 zCl1 (Nat.le_of_ble_eq_true rfl) lk_RX7_80 (Or.inl rfl) (sd_inv1 dX7_tube_93 rfl mv_X7_answer na_X7_answer ml_RX7_85 ⟨⟨Nat.le_of_ble_eq_true rfl, Nat.le_of_ble_eq_true rfl⟩, ⟨Nat.le_of_ble_eq_true rfl, Nat.le_of_ble_eq_true rfl⟩⟩ (sd_iret dX7_tube_96 rfl (Nat.le_of_ble_eq_true rfl) (Nat.le_of_ble_eq_true rfl)))))))))))))))))))
theorem dX7_fault_0 : decode cX7_fault 0 = .ok (.aload_n 0, 1) := by decide +kernel
theorem dX7_fault_1 : decode cX7_fault 1 = .ok (.getfield 10, 3) := by decide +kernel
theorem dX7_fault_4 : decode cX7_fault 4 = .ok (.getfield 88, 3) := by decide +kernel
theorem dX7_fault_7 : decode cX7_fault 7 = .ok (.ireturn, 1) := by decide +kernel
def B_X7_fault_0 (X : Nat × (Nat → Int32)) (J : Nat → zCf) (R : zRt) : zCf := oALOAD 0 (oGETR 7 0 (oGETI 2 3 (oIRET R)))
set_option maxRecDepth 100000 in
theorem vb_X7_fault_0 {X : Nat × (Nat → Int32)} {R : zRt} : ∀ ls st h, B_X7_fault_0 X (zV X M_X7_fault (zQm M_X7_fault R) 0 0) R ls st h → zV X M_X7_fault (zQm M_X7_fault R) 0 0 0 ls st h := sd_aload_n dX7_fault_0 rfl (sd_getr dX7_fault_1 zCl7 (Nat.le_of_ble_eq_true rfl) lk_RX7_10 (Or.inl ⟨_, rfl⟩) (sd_geti dX7_fault_4 zCl2 (Nat.le_of_ble_eq_true rfl) lk_RX7_88 (Or.inl rfl) (sd_iret dX7_fault_7 rfl (Nat.le_of_ble_eq_true rfl) (Nat.le_of_ble_eq_true rfl))))
theorem dX7_where_0 : decode cX7_where 0 = .ok (.aload_n 0, 1) := by decide +kernel
theorem dX7_where_1 : decode cX7_where 1 = .ok (.getfield 91, 3) := by decide +kernel
theorem dX7_where_4 : decode cX7_where 4 = .ok (.iconst 4, 1) := by decide +kernel
theorem dX7_where_5 : decode cX7_where 5 = .ok (.if_icmp .ne 13, 3) := by decide +kernel
theorem dX7_where_8 : decode cX7_where 8 = .ok (.aload_n 0, 1) := by decide +kernel
theorem dX7_where_9 : decode cX7_where 9 = .ok (.getfield 10, 3) := by decide +kernel
theorem dX7_where_12 : decode cX7_where 12 = .ok (.getfield 94, 3) := by decide +kernel
theorem dX7_where_15 : decode cX7_where 15 = .ok (.goto 4, 3) := by decide +kernel
theorem dX7_where_18 : decode cX7_where 18 = .ok (.iconst (-1), 1) := by decide +kernel
theorem dX7_where_19 : decode cX7_where 19 = .ok (.ireturn, 1) := by decide +kernel
def B_X7_where_0 (X : Nat × (Nat → Int32)) (J : Nat → zCf) (R : zRt) : zCf := oALOAD 0 (oGETI 7 5 (oPI (zj (4)) (oICNE (J 18) (oALOAD 0 (oGETR 7 0 (oGETI 2 4 (J 19)))))))
set_option maxRecDepth 100000 in
theorem vb_X7_where_0 {X : Nat × (Nat → Int32)} {R : zRt} : ∀ ls st h, B_X7_where_0 X (zV X M_X7_where (zQm M_X7_where R) 0 0) R ls st h → zV X M_X7_where (zQm M_X7_where R) 0 0 0 ls st h := sd_aload_n dX7_where_0 rfl (sd_geti dX7_where_1 zCl7 (Nat.le_of_ble_eq_true rfl) lk_RX7_91 (Or.inl rfl) (sd_iconst dX7_where_4 rfl (sd_icne dX7_where_5 rfl (fun _ _ _ h => h) (sd_aload_n dX7_where_8 rfl (sd_getr dX7_where_9 zCl7 (Nat.le_of_ble_eq_true rfl) lk_RX7_10 (Or.inl ⟨_, rfl⟩) (sd_geti dX7_where_12 zCl2 (Nat.le_of_ble_eq_true rfl) lk_RX7_94 (Or.inl rfl) (sd_goto dX7_where_15 rfl (fun _ _ _ h => h))))))))
def B_X7_where_18 (X : Nat × (Nat → Int32)) (J : Nat → zCf) (R : zRt) : zCf := oPI (zj (-1)) (J 19)
set_option maxRecDepth 100000 in
theorem vb_X7_where_18 {X : Nat × (Nat → Int32)} {R : zRt} : ∀ ls st h, B_X7_where_18 X (zV X M_X7_where (zQm M_X7_where R) 0 0) R ls st h → zV X M_X7_where (zQm M_X7_where R) 0 0 18 ls st h := sd_iconst dX7_where_18 rfl (fun _ _ _ h => h)
def B_X7_where_19 (X : Nat × (Nat → Int32)) (J : Nat → zCf) (R : zRt) : zCf := oIRET R
set_option maxRecDepth 100000 in
theorem vb_X7_where_19 {X : Nat × (Nat → Int32)} {R : zRt} : ∀ ls st h, B_X7_where_19 X (zV X M_X7_where (zQm M_X7_where R) 0 0) R ls st h → zV X M_X7_where (zQm M_X7_where R) 0 0 19 ls st h := sd_iret dX7_where_19 rfl (Nat.le_of_ble_eq_true rfl) (Nat.le_of_ble_eq_true rfl)
theorem dX7_bit_0 : decode cX7_bit 0 = .ok (.aload_n 0, 1) := by decide +kernel
theorem dX7_bit_1 : decode cX7_bit 1 = .ok (.iload_n 1, 1) := by decide +kernel
theorem dX7_bit_2 : decode cX7_bit 2 = .ok (.invokevirtual 97, 3) := by decide +kernel
theorem dX7_bit_5 : decode cX7_bit 5 = .ok (.ifCond .ne 9, 3) := by decide +kernel
theorem dX7_bit_8 : decode cX7_bit 8 = .ok (.aload_n 0, 1) := by decide +kernel
theorem dX7_bit_9 : decode cX7_bit 9 = .ok (.iconst 1, 1) := by decide +kernel
theorem dX7_bit_10 : decode cX7_bit 10 = .ok (.invokevirtual 58, 3) := by decide +kernel
theorem dX7_bit_13 : decode cX7_bit 13 = .ok (.ireturn, 1) := by decide +kernel
theorem dX7_bit_14 : decode cX7_bit 14 = .ok (.iload_n 2, 1) := by decide +kernel
theorem dX7_bit_15 : decode cX7_bit 15 = .ok (.tableswitch 163 0 6 #[41, 58, 75, 90, 113, 129, 146], 41) := by decide +kernel
theorem dX7_bit_56 : decode cX7_bit 56 = .ok (.aload_n 0, 1) := by decide +kernel
theorem dX7_bit_57 : decode cX7_bit 57 = .ok (.aload_n 0, 1) := by decide +kernel
theorem dX7_bit_58 : decode cX7_bit 58 = .ok (.getfield 19, 3) := by decide +kernel
theorem dX7_bit_61 : decode cX7_bit 61 = .ok (.getfield 77, 3) := by decide +kernel
theorem dX7_bit_64 : decode cX7_bit 64 = .ok (.getfield 100, 3) := by decide +kernel
theorem dX7_bit_67 : decode cX7_bit 67 = .ok (.iload_n 1, 1) := by decide +kernel
theorem dX7_bit_68 : decode cX7_bit 68 = .ok (.iaload, 1) := by decide +kernel
theorem dX7_bit_69 : decode cX7_bit 69 = .ok (.invokevirtual 85, 3) := by decide +kernel
theorem dX7_bit_72 : decode cX7_bit 72 = .ok (.ireturn, 1) := by decide +kernel
theorem dX7_bit_73 : decode cX7_bit 73 = .ok (.aload_n 0, 1) := by decide +kernel
theorem dX7_bit_74 : decode cX7_bit 74 = .ok (.aload_n 0, 1) := by decide +kernel
theorem dX7_bit_75 : decode cX7_bit 75 = .ok (.getfield 19, 3) := by decide +kernel
theorem dX7_bit_78 : decode cX7_bit 78 = .ok (.getfield 77, 3) := by decide +kernel
theorem dX7_bit_81 : decode cX7_bit 81 = .ok (.getfield 104, 3) := by decide +kernel
theorem dX7_bit_84 : decode cX7_bit 84 = .ok (.iload_n 1, 1) := by decide +kernel
theorem dX7_bit_85 : decode cX7_bit 85 = .ok (.iaload, 1) := by decide +kernel
theorem dX7_bit_86 : decode cX7_bit 86 = .ok (.invokevirtual 85, 3) := by decide +kernel
theorem dX7_bit_89 : decode cX7_bit 89 = .ok (.ireturn, 1) := by decide +kernel
theorem dX7_bit_90 : decode cX7_bit 90 = .ok (.aload_n 0, 1) := by decide +kernel
theorem dX7_bit_91 : decode cX7_bit 91 = .ok (.aload_n 0, 1) := by decide +kernel
theorem dX7_bit_92 : decode cX7_bit 92 = .ok (.getfield 19, 3) := by decide +kernel
theorem dX7_bit_95 : decode cX7_bit 95 = .ok (.iload_n 1, 1) := by decide +kernel
theorem dX7_bit_96 : decode cX7_bit 96 = .ok (.iconst 0, 1) := by decide +kernel
theorem dX7_bit_97 : decode cX7_bit 97 = .ok (.iconst 0, 1) := by decide +kernel
theorem dX7_bit_98 : decode cX7_bit 98 = .ok (.invokevirtual 107, 3) := by decide +kernel
theorem dX7_bit_101 : decode cX7_bit 101 = .ok (.invokevirtual 85, 3) := by decide +kernel
theorem dX7_bit_104 : decode cX7_bit 104 = .ok (.ireturn, 1) := by decide +kernel
theorem dX7_bit_105 : decode cX7_bit 105 = .ok (.aload_n 0, 1) := by decide +kernel
theorem dX7_bit_106 : decode cX7_bit 106 = .ok (.aload_n 0, 1) := by decide +kernel
theorem dX7_bit_107 : decode cX7_bit 107 = .ok (.getfield 19, 3) := by decide +kernel
theorem dX7_bit_110 : decode cX7_bit 110 = .ok (.iload_n 1, 1) := by decide +kernel
theorem dX7_bit_111 : decode cX7_bit 111 = .ok (.iconst 0, 1) := by decide +kernel
theorem dX7_bit_112 : decode cX7_bit 112 = .ok (.iconst 0, 1) := by decide +kernel
theorem dX7_bit_113 : decode cX7_bit 113 = .ok (.invokevirtual 111, 3) := by decide +kernel
theorem dX7_bit_116 : decode cX7_bit 116 = .ok (.ifCond .eq 7, 3) := by decide +kernel
theorem dX7_bit_119 : decode cX7_bit 119 = .ok (.iconst 1, 1) := by decide +kernel
theorem dX7_bit_120 : decode cX7_bit 120 = .ok (.goto 4, 3) := by decide +kernel
theorem dX7_bit_123 : decode cX7_bit 123 = .ok (.iconst 0, 1) := by decide +kernel
theorem dX7_bit_124 : decode cX7_bit 124 = .ok (.invokevirtual 85, 3) := by decide +kernel
theorem dX7_bit_127 : decode cX7_bit 127 = .ok (.ireturn, 1) := by decide +kernel
theorem dX7_bit_128 : decode cX7_bit 128 = .ok (.aload_n 0, 1) := by decide +kernel
theorem dX7_bit_129 : decode cX7_bit 129 = .ok (.aload_n 0, 1) := by decide +kernel
theorem dX7_bit_130 : decode cX7_bit 130 = .ok (.getfield 19, 3) := by decide +kernel
theorem dX7_bit_133 : decode cX7_bit 133 = .ok (.getfield 77, 3) := by decide +kernel
theorem dX7_bit_136 : decode cX7_bit 136 = .ok (.iload_n 1, 1) := by decide +kernel
theorem dX7_bit_137 : decode cX7_bit 137 = .ok (.invokevirtual 115, 3) := by decide +kernel
theorem dX7_bit_140 : decode cX7_bit 140 = .ok (.invokevirtual 85, 3) := by decide +kernel
theorem dX7_bit_143 : decode cX7_bit 143 = .ok (.ireturn, 1) := by decide +kernel
theorem dX7_bit_144 : decode cX7_bit 144 = .ok (.aload_n 0, 1) := by decide +kernel
theorem dX7_bit_145 : decode cX7_bit 145 = .ok (.aload_n 0, 1) := by decide +kernel
theorem dX7_bit_146 : decode cX7_bit 146 = .ok (.getfield 19, 3) := by decide +kernel
theorem dX7_bit_149 : decode cX7_bit 149 = .ok (.getfield 77, 3) := by decide +kernel
theorem dX7_bit_152 : decode cX7_bit 152 = .ok (.getfield 118, 3) := by decide +kernel
theorem dX7_bit_155 : decode cX7_bit 155 = .ok (.iload_n 1, 1) := by decide +kernel
theorem dX7_bit_156 : decode cX7_bit 156 = .ok (.iaload, 1) := by decide +kernel
theorem dX7_bit_157 : decode cX7_bit 157 = .ok (.invokevirtual 85, 3) := by decide +kernel
theorem dX7_bit_160 : decode cX7_bit 160 = .ok (.ireturn, 1) := by decide +kernel
theorem dX7_bit_161 : decode cX7_bit 161 = .ok (.aload_n 0, 1) := by decide +kernel
theorem dX7_bit_162 : decode cX7_bit 162 = .ok (.aload_n 0, 1) := by decide +kernel
theorem dX7_bit_163 : decode cX7_bit 163 = .ok (.getfield 19, 3) := by decide +kernel
theorem dX7_bit_166 : decode cX7_bit 166 = .ok (.getfield 77, 3) := by decide +kernel
theorem dX7_bit_169 : decode cX7_bit 169 = .ok (.getfield 121, 3) := by decide +kernel
theorem dX7_bit_172 : decode cX7_bit 172 = .ok (.iload_n 1, 1) := by decide +kernel
theorem dX7_bit_173 : decode cX7_bit 173 = .ok (.iaload, 1) := by decide +kernel
theorem dX7_bit_174 : decode cX7_bit 174 = .ok (.invokevirtual 85, 3) := by decide +kernel
theorem dX7_bit_177 : decode cX7_bit 177 = .ok (.ireturn, 1) := by decide +kernel
theorem dX7_bit_178 : decode cX7_bit 178 = .ok (.aload_n 0, 1) := by decide +kernel
theorem dX7_bit_179 : decode cX7_bit 179 = .ok (.iconst 1, 1) := by decide +kernel
theorem dX7_bit_180 : decode cX7_bit 180 = .ok (.invokevirtual 58, 3) := by decide +kernel
theorem dX7_bit_183 : decode cX7_bit 183 = .ok (.ireturn, 1) := by decide +kernel
def B_X7_bit_0 (X : Nat × (Nat → Int32)) (J : Nat → zCf) (R : zRt) : zCf := oALOAD 0 (oILOAD 1 (oINV1 X M_X7_isBit 7 (oIFNE (J 14) (oALOAD 0 (oPI (zj (1)) (oINV1 X M_X7_refuse 7 (oIRET R)))))))
set_option maxRecDepth 100000 in
theorem vb_X7_bit_0 {X : Nat × (Nat → Int32)} {R : zRt} : ∀ ls st h, B_X7_bit_0 X (zV X M_X7_bit (zQm M_X7_bit R) 0 0) R ls st h → zV X M_X7_bit (zQm M_X7_bit R) 0 0 0 ls st h := sd_aload_n dX7_bit_0 rfl (sd_iload_n dX7_bit_1 rfl (sd_inv1 dX7_bit_2 rfl mv_X7_isBit na_X7_isBit ml_RX7_97 ⟨⟨Nat.le_of_ble_eq_true rfl, Nat.le_of_ble_eq_true rfl⟩, ⟨Nat.le_of_ble_eq_true rfl, Nat.le_of_ble_eq_true rfl⟩⟩ (sd_ifne dX7_bit_5 rfl (fun _ _ _ h => h) (sd_aload_n dX7_bit_8 rfl (sd_iconst dX7_bit_9 rfl (sd_inv1 dX7_bit_10 rfl mv_X7_refuse na_X7_refuse ml_RX7_58 ⟨⟨Nat.le_of_ble_eq_true rfl, Nat.le_of_ble_eq_true rfl⟩, ⟨Nat.le_of_ble_eq_true rfl, Nat.le_of_ble_eq_true rfl⟩⟩ (sd_iret dX7_bit_13 rfl (Nat.le_of_ble_eq_true rfl) (Nat.le_of_ble_eq_true rfl))))))))
def B_X7_bit_14 (X : Nat × (Nat → Int32)) (J : Nat → zCf) (R : zRt) : zCf := oILOAD 2 (oTSW (0) 7 (fun i => J ([56, 73, 90, 105, 128, 144, 161].getD i 0)) (J 178))
set_option maxRecDepth 100000 in
theorem vb_X7_bit_14 {X : Nat × (Nat → Int32)} {R : zRt} : ∀ ls st h, B_X7_bit_14 X (zV X M_X7_bit (zQm M_X7_bit R) 0 0) R ls st h → zV X M_X7_bit (zQm M_X7_bit R) 0 0 14 ls st h := sd_iload_n dX7_bit_14 rfl (sd_tsw (tg := fun i => [56, 73, 90, 105, 128, 144, 161].getD i 0) dX7_bit_15 rfl rfl (fun i hi => by
    match i, hi with
    | 0, _ => exact ⟨_, rfl, rfl⟩
    | 1, _ => exact ⟨_, rfl, rfl⟩
    | 2, _ => exact ⟨_, rfl, rfl⟩
    | 3, _ => exact ⟨_, rfl, rfl⟩
    | 4, _ => exact ⟨_, rfl, rfl⟩
    | 5, _ => exact ⟨_, rfl, rfl⟩
    | 6, _ => exact ⟨_, rfl, rfl⟩
    | i + 7, hi => omega) (fun _ _ _ h => h) (fun _ _ _ _ _ h => h))
def B_X7_bit_56 (X : Nat × (Nat → Int32)) (J : Nat → zCf) (R : zRt) : zCf := oALOAD 0 (oALOAD 0 (oGETR 7 1 (oGETR 4 0 (oGETR 1 3 (oILOAD 1 (oIALD (oINV1 X M_X7_answer 7 (oIRET R))))))))
set_option maxRecDepth 100000 in
theorem vb_X7_bit_56 {X : Nat × (Nat → Int32)} {R : zRt} : ∀ ls st h, B_X7_bit_56 X (zV X M_X7_bit (zQm M_X7_bit R) 0 0) R ls st h → zV X M_X7_bit (zQm M_X7_bit R) 0 0 56 ls st h := sd_aload_n dX7_bit_56 rfl (sd_aload_n dX7_bit_57 rfl (sd_getr dX7_bit_58 zCl7 (Nat.le_of_ble_eq_true rfl) lk_RX7_19 (Or.inl ⟨_, rfl⟩) (sd_getr dX7_bit_61 zCl4 (Nat.le_of_ble_eq_true rfl) lk_RX7_77 (Or.inl ⟨_, rfl⟩) (sd_getr dX7_bit_64 zCl1 (Nat.le_of_ble_eq_true rfl) lk_RX7_100 (Or.inr ⟨_, rfl⟩) (sd_iload_n dX7_bit_67 rfl (sd_iald dX7_bit_68 (sd_inv1 dX7_bit_69 rfl mv_X7_answer na_X7_answer ml_RX7_85 ⟨⟨Nat.le_of_ble_eq_true rfl, Nat.le_of_ble_eq_true rfl⟩, ⟨Nat.le_of_ble_eq_true rfl, Nat.le_of_ble_eq_true rfl⟩⟩ (sd_iret dX7_bit_72 rfl (Nat.le_of_ble_eq_true rfl) (Nat.le_of_ble_eq_true rfl)))))))))
def B_X7_bit_73 (X : Nat × (Nat → Int32)) (J : Nat → zCf) (R : zRt) : zCf := oALOAD 0 (oALOAD 0 (oGETR 7 1 (oGETR 4 0 (oGETR 1 5 (oILOAD 1 (oIALD (oINV1 X M_X7_answer 7 (oIRET R))))))))
set_option maxRecDepth 100000 in
theorem vb_X7_bit_73 {X : Nat × (Nat → Int32)} {R : zRt} : ∀ ls st h, B_X7_bit_73 X (zV X M_X7_bit (zQm M_X7_bit R) 0 0) R ls st h → zV X M_X7_bit (zQm M_X7_bit R) 0 0 73 ls st h := sd_aload_n dX7_bit_73 rfl (sd_aload_n dX7_bit_74 rfl (sd_getr dX7_bit_75 zCl7 (Nat.le_of_ble_eq_true rfl) lk_RX7_19 (Or.inl ⟨_, rfl⟩) (sd_getr dX7_bit_78 zCl4 (Nat.le_of_ble_eq_true rfl) lk_RX7_77 (Or.inl ⟨_, rfl⟩) (sd_getr dX7_bit_81 zCl1 (Nat.le_of_ble_eq_true rfl) lk_RX7_104 (Or.inr ⟨_, rfl⟩) (sd_iload_n dX7_bit_84 rfl (sd_iald dX7_bit_85 (sd_inv1 dX7_bit_86 rfl mv_X7_answer na_X7_answer ml_RX7_85 ⟨⟨Nat.le_of_ble_eq_true rfl, Nat.le_of_ble_eq_true rfl⟩, ⟨Nat.le_of_ble_eq_true rfl, Nat.le_of_ble_eq_true rfl⟩⟩ (sd_iret dX7_bit_89 rfl (Nat.le_of_ble_eq_true rfl) (Nat.le_of_ble_eq_true rfl)))))))))
def B_X7_bit_90 (X : Nat × (Nat → Int32)) (J : Nat → zCf) (R : zRt) : zCf := oALOAD 0 (oALOAD 0 (oGETR 7 1 (oILOAD 1 (oPI (zj (0)) (oPI (zj (0)) (oINV3 X M_X4_cellBehind 4 (oINV1 X M_X7_answer 7 (oIRET R))))))))
set_option maxRecDepth 100000 in
theorem vb_X7_bit_90 {X : Nat × (Nat → Int32)} {R : zRt} : ∀ ls st h, B_X7_bit_90 X (zV X M_X7_bit (zQm M_X7_bit R) 0 0) R ls st h → zV X M_X7_bit (zQm M_X7_bit R) 0 0 90 ls st h := sd_aload_n dX7_bit_90 rfl (sd_aload_n dX7_bit_91 rfl (sd_getr dX7_bit_92 zCl7 (Nat.le_of_ble_eq_true rfl) lk_RX7_19 (Or.inl ⟨_, rfl⟩) (sd_iload_n dX7_bit_95 rfl (sd_iconst dX7_bit_96 rfl (sd_iconst dX7_bit_97 rfl (sd_inv3 dX7_bit_98 rfl mv_X4_cellBehind na_X4_cellBehind ml_RX7_107 ⟨⟨Nat.le_of_ble_eq_true rfl, Nat.le_of_ble_eq_true rfl⟩, ⟨Nat.le_of_ble_eq_true rfl, Nat.le_of_ble_eq_true rfl⟩⟩ (sd_inv1 dX7_bit_101 rfl mv_X7_answer na_X7_answer ml_RX7_85 ⟨⟨Nat.le_of_ble_eq_true rfl, Nat.le_of_ble_eq_true rfl⟩, ⟨Nat.le_of_ble_eq_true rfl, Nat.le_of_ble_eq_true rfl⟩⟩ (sd_iret dX7_bit_104 rfl (Nat.le_of_ble_eq_true rfl) (Nat.le_of_ble_eq_true rfl)))))))))
def B_X7_bit_105 (X : Nat × (Nat → Int32)) (J : Nat → zCf) (R : zRt) : zCf := oALOAD 0 (oALOAD 0 (oGETR 7 1 (oILOAD 1 (oPI (zj (0)) (oPI (zj (0)) (oINV3 X M_X4_isTop 4 (oIFEQ (J 123) (oPI (zj (1)) (J 124)))))))))
set_option maxRecDepth 100000 in
theorem vb_X7_bit_105 {X : Nat × (Nat → Int32)} {R : zRt} : ∀ ls st h, B_X7_bit_105 X (zV X M_X7_bit (zQm M_X7_bit R) 0 0) R ls st h → zV X M_X7_bit (zQm M_X7_bit R) 0 0 105 ls st h := sd_aload_n dX7_bit_105 rfl (sd_aload_n dX7_bit_106 rfl (sd_getr dX7_bit_107 zCl7 (Nat.le_of_ble_eq_true rfl) lk_RX7_19 (Or.inl ⟨_, rfl⟩) (sd_iload_n dX7_bit_110 rfl (sd_iconst dX7_bit_111 rfl (sd_iconst dX7_bit_112 rfl (sd_inv3 dX7_bit_113 rfl mv_X4_isTop na_X4_isTop ml_RX7_111 ⟨⟨Nat.le_of_ble_eq_true rfl, Nat.le_of_ble_eq_true rfl⟩, ⟨Nat.le_of_ble_eq_true rfl, Nat.le_of_ble_eq_true rfl⟩⟩ (sd_ifeq dX7_bit_116 rfl (fun _ _ _ h => h) (sd_iconst dX7_bit_119 rfl (sd_goto dX7_bit_120 rfl (fun _ _ _ h => h))))))))))
def B_X7_bit_123 (X : Nat × (Nat → Int32)) (J : Nat → zCf) (R : zRt) : zCf := oPI (zj (0)) (J 124)
set_option maxRecDepth 100000 in
theorem vb_X7_bit_123 {X : Nat × (Nat → Int32)} {R : zRt} : ∀ ls st h, B_X7_bit_123 X (zV X M_X7_bit (zQm M_X7_bit R) 0 0) R ls st h → zV X M_X7_bit (zQm M_X7_bit R) 0 0 123 ls st h := sd_iconst dX7_bit_123 rfl (fun _ _ _ h => h)
def B_X7_bit_124 (X : Nat × (Nat → Int32)) (J : Nat → zCf) (R : zRt) : zCf := oINV1 X M_X7_answer 7 (oIRET R)
set_option maxRecDepth 100000 in
theorem vb_X7_bit_124 {X : Nat × (Nat → Int32)} {R : zRt} : ∀ ls st h, B_X7_bit_124 X (zV X M_X7_bit (zQm M_X7_bit R) 0 0) R ls st h → zV X M_X7_bit (zQm M_X7_bit R) 0 0 124 ls st h := sd_inv1 dX7_bit_124 rfl mv_X7_answer na_X7_answer ml_RX7_85 ⟨⟨Nat.le_of_ble_eq_true rfl, Nat.le_of_ble_eq_true rfl⟩, ⟨Nat.le_of_ble_eq_true rfl, Nat.le_of_ble_eq_true rfl⟩⟩ (sd_iret dX7_bit_127 rfl (Nat.le_of_ble_eq_true rfl) (Nat.le_of_ble_eq_true rfl))
def B_X7_bit_128 (X : Nat × (Nat → Int32)) (J : Nat → zCf) (R : zRt) : zCf := oALOAD 0 (oALOAD 0 (oGETR 7 1 (oGETR 4 0 (oILOAD 1 (oINV1 X M_X1_weight 1 (oINV1 X M_X7_answer 7 (oIRET R)))))))
set_option maxRecDepth 100000 in
theorem vb_X7_bit_128 {X : Nat × (Nat → Int32)} {R : zRt} : ∀ ls st h, B_X7_bit_128 X (zV X M_X7_bit (zQm M_X7_bit R) 0 0) R ls st h → zV X M_X7_bit (zQm M_X7_bit R) 0 0 128 ls st h := sd_aload_n dX7_bit_128 rfl (sd_aload_n dX7_bit_129 rfl (sd_getr dX7_bit_130 zCl7 (Nat.le_of_ble_eq_true rfl) lk_RX7_19 (Or.inl ⟨_, rfl⟩) (sd_getr dX7_bit_133 zCl4 (Nat.le_of_ble_eq_true rfl) lk_RX7_77 (Or.inl ⟨_, rfl⟩) (sd_iload_n dX7_bit_136 rfl (sd_inv1 dX7_bit_137 rfl mv_X1_weight na_X1_weight ml_RX7_115 ⟨⟨Nat.le_of_ble_eq_true rfl, Nat.le_of_ble_eq_true rfl⟩, ⟨Nat.le_of_ble_eq_true rfl, Nat.le_of_ble_eq_true rfl⟩⟩ (sd_inv1 dX7_bit_140 rfl mv_X7_answer na_X7_answer ml_RX7_85 ⟨⟨Nat.le_of_ble_eq_true rfl, Nat.le_of_ble_eq_true rfl⟩, ⟨Nat.le_of_ble_eq_true rfl, Nat.le_of_ble_eq_true rfl⟩⟩ (sd_iret dX7_bit_143 rfl (Nat.le_of_ble_eq_true rfl) (Nat.le_of_ble_eq_true rfl))))))))
def B_X7_bit_144 (X : Nat × (Nat → Int32)) (J : Nat → zCf) (R : zRt) : zCf := oALOAD 0 (oALOAD 0 (oGETR 7 1 (oGETR 4 0 (oGETR 1 6 (oILOAD 1 (oIALD (oINV1 X M_X7_answer 7 (oIRET R))))))))
set_option maxRecDepth 100000 in
theorem vb_X7_bit_144 {X : Nat × (Nat → Int32)} {R : zRt} : ∀ ls st h, B_X7_bit_144 X (zV X M_X7_bit (zQm M_X7_bit R) 0 0) R ls st h → zV X M_X7_bit (zQm M_X7_bit R) 0 0 144 ls st h := sd_aload_n dX7_bit_144 rfl (sd_aload_n dX7_bit_145 rfl (sd_getr dX7_bit_146 zCl7 (Nat.le_of_ble_eq_true rfl) lk_RX7_19 (Or.inl ⟨_, rfl⟩) (sd_getr dX7_bit_149 zCl4 (Nat.le_of_ble_eq_true rfl) lk_RX7_77 (Or.inl ⟨_, rfl⟩) (sd_getr dX7_bit_152 zCl1 (Nat.le_of_ble_eq_true rfl) lk_RX7_118 (Or.inr ⟨_, rfl⟩) (sd_iload_n dX7_bit_155 rfl (sd_iald dX7_bit_156 (sd_inv1 dX7_bit_157 rfl mv_X7_answer na_X7_answer ml_RX7_85 ⟨⟨Nat.le_of_ble_eq_true rfl, Nat.le_of_ble_eq_true rfl⟩, ⟨Nat.le_of_ble_eq_true rfl, Nat.le_of_ble_eq_true rfl⟩⟩ (sd_iret dX7_bit_160 rfl (Nat.le_of_ble_eq_true rfl) (Nat.le_of_ble_eq_true rfl)))))))))
def B_X7_bit_161 (X : Nat × (Nat → Int32)) (J : Nat → zCf) (R : zRt) : zCf := oALOAD 0 (oALOAD 0 (oGETR 7 1 (oGETR 4 0 (oGETR 1 7 (oILOAD 1 (oIALD (oINV1 X M_X7_answer 7 (oIRET R))))))))
set_option maxRecDepth 100000 in
theorem vb_X7_bit_161 {X : Nat × (Nat → Int32)} {R : zRt} : ∀ ls st h, B_X7_bit_161 X (zV X M_X7_bit (zQm M_X7_bit R) 0 0) R ls st h → zV X M_X7_bit (zQm M_X7_bit R) 0 0 161 ls st h := sd_aload_n dX7_bit_161 rfl (sd_aload_n dX7_bit_162 rfl (sd_getr dX7_bit_163 zCl7 (Nat.le_of_ble_eq_true rfl) lk_RX7_19 (Or.inl ⟨_, rfl⟩) (sd_getr dX7_bit_166 zCl4 (Nat.le_of_ble_eq_true rfl) lk_RX7_77 (Or.inl ⟨_, rfl⟩) (sd_getr dX7_bit_169 zCl1 (Nat.le_of_ble_eq_true rfl) lk_RX7_121 (Or.inr ⟨_, rfl⟩) (sd_iload_n dX7_bit_172 rfl (sd_iald dX7_bit_173 (sd_inv1 dX7_bit_174 rfl mv_X7_answer na_X7_answer ml_RX7_85 ⟨⟨Nat.le_of_ble_eq_true rfl, Nat.le_of_ble_eq_true rfl⟩, ⟨Nat.le_of_ble_eq_true rfl, Nat.le_of_ble_eq_true rfl⟩⟩ (sd_iret dX7_bit_177 rfl (Nat.le_of_ble_eq_true rfl) (Nat.le_of_ble_eq_true rfl)))))))))
def B_X7_bit_178 (X : Nat × (Nat → Int32)) (J : Nat → zCf) (R : zRt) : zCf := oALOAD 0 (oPI (zj (1)) (oINV1 X M_X7_refuse 7 (oIRET R)))
set_option maxRecDepth 100000 in
theorem vb_X7_bit_178 {X : Nat × (Nat → Int32)} {R : zRt} : ∀ ls st h, B_X7_bit_178 X (zV X M_X7_bit (zQm M_X7_bit R) 0 0) R ls st h → zV X M_X7_bit (zQm M_X7_bit R) 0 0 178 ls st h := sd_aload_n dX7_bit_178 rfl (sd_iconst dX7_bit_179 rfl (sd_inv1 dX7_bit_180 rfl mv_X7_refuse na_X7_refuse ml_RX7_58 ⟨⟨Nat.le_of_ble_eq_true rfl, Nat.le_of_ble_eq_true rfl⟩, ⟨Nat.le_of_ble_eq_true rfl, Nat.le_of_ble_eq_true rfl⟩⟩ (sd_iret dX7_bit_183 rfl (Nat.le_of_ble_eq_true rfl) (Nat.le_of_ble_eq_true rfl))))
theorem dX7_top_0 : decode cX7_top 0 = .ok (.aload_n 0, 1) := by decide +kernel
theorem dX7_top_1 : decode cX7_top 1 = .ok (.invokevirtual 124, 3) := by decide +kernel
theorem dX7_top_4 : decode cX7_top 4 = .ok (.ifCond .eq 9, 3) := by decide +kernel
theorem dX7_top_7 : decode cX7_top 7 = .ok (.aload_n 0, 1) := by decide +kernel
theorem dX7_top_8 : decode cX7_top 8 = .ok (.iconst 1, 1) := by decide +kernel
theorem dX7_top_9 : decode cX7_top 9 = .ok (.invokevirtual 58, 3) := by decide +kernel
theorem dX7_top_12 : decode cX7_top 12 = .ok (.ireturn, 1) := by decide +kernel
theorem dX7_top_13 : decode cX7_top 13 = .ok (.iload_n 1, 1) := by decide +kernel
theorem dX7_top_14 : decode cX7_top 14 = .ok (.invokestatic 128, 3) := by decide +kernel
theorem dX7_top_17 : decode cX7_top 17 = .ok (.ifCond .ne 9, 3) := by decide +kernel
theorem dX7_top_20 : decode cX7_top 20 = .ok (.aload_n 0, 1) := by decide +kernel
theorem dX7_top_21 : decode cX7_top 21 = .ok (.iconst 2, 1) := by decide +kernel
theorem dX7_top_22 : decode cX7_top 22 = .ok (.invokevirtual 58, 3) := by decide +kernel
theorem dX7_top_25 : decode cX7_top 25 = .ok (.ireturn, 1) := by decide +kernel
theorem dX7_top_26 : decode cX7_top 26 = .ok (.aload_n 0, 1) := by decide +kernel
theorem dX7_top_27 : decode cX7_top 27 = .ok (.aload_n 0, 1) := by decide +kernel
theorem dX7_top_28 : decode cX7_top 28 = .ok (.getfield 19, 3) := by decide +kernel
theorem dX7_top_31 : decode cX7_top 31 = .ok (.iload_n 1, 1) := by decide +kernel
theorem dX7_top_32 : decode cX7_top 32 = .ok (.iconst 0, 1) := by decide +kernel
theorem dX7_top_33 : decode cX7_top 33 = .ok (.iconst 0, 1) := by decide +kernel
theorem dX7_top_34 : decode cX7_top 34 = .ok (.invokevirtual 131, 3) := by decide +kernel
theorem dX7_top_37 : decode cX7_top 37 = .ok (.invokevirtual 85, 3) := by decide +kernel
theorem dX7_top_40 : decode cX7_top 40 = .ok (.ireturn, 1) := by decide +kernel
def B_X7_top_0 (X : Nat × (Nat → Int32)) (J : Nat → zCf) (R : zRt) : zCf := oALOAD 0 (oINV0 X M_X7_noTube 7 (oIFEQ (J 13) (oALOAD 0 (oPI (zj (1)) (oINV1 X M_X7_refuse 7 (oIRET R))))))
set_option maxRecDepth 100000 in
theorem vb_X7_top_0 {X : Nat × (Nat → Int32)} {R : zRt} : ∀ ls st h, B_X7_top_0 X (zV X M_X7_top (zQm M_X7_top R) 0 0) R ls st h → zV X M_X7_top (zQm M_X7_top R) 0 0 0 ls st h := sd_aload_n dX7_top_0 rfl (sd_inv0 dX7_top_1 rfl mv_X7_noTube na_X7_noTube ml_RX7_124 ⟨⟨Nat.le_of_ble_eq_true rfl, Nat.le_of_ble_eq_true rfl⟩, ⟨Nat.le_of_ble_eq_true rfl, Nat.le_of_ble_eq_true rfl⟩⟩ (sd_ifeq dX7_top_4 rfl (fun _ _ _ h => h) (sd_aload_n dX7_top_7 rfl (sd_iconst dX7_top_8 rfl (sd_inv1 dX7_top_9 rfl mv_X7_refuse na_X7_refuse ml_RX7_58 ⟨⟨Nat.le_of_ble_eq_true rfl, Nat.le_of_ble_eq_true rfl⟩, ⟨Nat.le_of_ble_eq_true rfl, Nat.le_of_ble_eq_true rfl⟩⟩ (sd_iret dX7_top_12 rfl (Nat.le_of_ble_eq_true rfl) (Nat.le_of_ble_eq_true rfl)))))))
def B_X7_top_13 (X : Nat × (Nat → Int32)) (J : Nat → zCf) (R : zRt) : zCf := oILOAD 1 (oINS1 X M_X7_isCell (oIFNE (J 26) (oALOAD 0 (oPI (zj (2)) (oINV1 X M_X7_refuse 7 (oIRET R))))))
set_option maxRecDepth 100000 in
theorem vb_X7_top_13 {X : Nat × (Nat → Int32)} {R : zRt} : ∀ ls st h, B_X7_top_13 X (zV X M_X7_top (zQm M_X7_top R) 0 0) R ls st h → zV X M_X7_top (zQm M_X7_top R) 0 0 13 ls st h := sd_iload_n dX7_top_13 rfl (sd_ins1 dX7_top_14 ms_X7_isCell na_X7_isCell ml_RX7_128 ⟨⟨Nat.le_of_ble_eq_true rfl, Nat.le_of_ble_eq_true rfl⟩, ⟨Nat.le_of_ble_eq_true rfl, Nat.le_of_ble_eq_true rfl⟩⟩ (sd_ifne dX7_top_17 rfl (fun _ _ _ h => h) (sd_aload_n dX7_top_20 rfl (sd_iconst dX7_top_21 rfl (sd_inv1 dX7_top_22 rfl mv_X7_refuse na_X7_refuse ml_RX7_58 ⟨⟨Nat.le_of_ble_eq_true rfl, Nat.le_of_ble_eq_true rfl⟩, ⟨Nat.le_of_ble_eq_true rfl, Nat.le_of_ble_eq_true rfl⟩⟩ (sd_iret dX7_top_25 rfl (Nat.le_of_ble_eq_true rfl) (Nat.le_of_ble_eq_true rfl)))))))
def B_X7_top_26 (X : Nat × (Nat → Int32)) (J : Nat → zCf) (R : zRt) : zCf := oALOAD 0 (oALOAD 0 (oGETR 7 1 (oILOAD 1 (oPI (zj (0)) (oPI (zj (0)) (oINV3 X M_X4_topIn 4 (oINV1 X M_X7_answer 7 (oIRET R))))))))
set_option maxRecDepth 100000 in
theorem vb_X7_top_26 {X : Nat × (Nat → Int32)} {R : zRt} : ∀ ls st h, B_X7_top_26 X (zV X M_X7_top (zQm M_X7_top R) 0 0) R ls st h → zV X M_X7_top (zQm M_X7_top R) 0 0 26 ls st h := sd_aload_n dX7_top_26 rfl (sd_aload_n dX7_top_27 rfl (sd_getr dX7_top_28 zCl7 (Nat.le_of_ble_eq_true rfl) lk_RX7_19 (Or.inl ⟨_, rfl⟩) (sd_iload_n dX7_top_31 rfl (sd_iconst dX7_top_32 rfl (sd_iconst dX7_top_33 rfl (sd_inv3 dX7_top_34 rfl mv_X4_topIn na_X4_topIn ml_RX7_131 ⟨⟨Nat.le_of_ble_eq_true rfl, Nat.le_of_ble_eq_true rfl⟩, ⟨Nat.le_of_ble_eq_true rfl, Nat.le_of_ble_eq_true rfl⟩⟩ (sd_inv1 dX7_top_37 rfl mv_X7_answer na_X7_answer ml_RX7_85 ⟨⟨Nat.le_of_ble_eq_true rfl, Nat.le_of_ble_eq_true rfl⟩, ⟨Nat.le_of_ble_eq_true rfl, Nat.le_of_ble_eq_true rfl⟩⟩ (sd_iret dX7_top_40 rfl (Nat.le_of_ble_eq_true rfl) (Nat.le_of_ble_eq_true rfl)))))))))
theorem dX7_stack_0 : decode cX7_stack 0 = .ok (.aload_n 0, 1) := by decide +kernel
theorem dX7_stack_1 : decode cX7_stack 1 = .ok (.invokevirtual 124, 3) := by decide +kernel
theorem dX7_stack_4 : decode cX7_stack 4 = .ok (.ifCond .eq 9, 3) := by decide +kernel
theorem dX7_stack_7 : decode cX7_stack 7 = .ok (.aload_n 0, 1) := by decide +kernel
theorem dX7_stack_8 : decode cX7_stack 8 = .ok (.iconst 1, 1) := by decide +kernel
theorem dX7_stack_9 : decode cX7_stack 9 = .ok (.invokevirtual 58, 3) := by decide +kernel
theorem dX7_stack_12 : decode cX7_stack 12 = .ok (.ireturn, 1) := by decide +kernel
theorem dX7_stack_13 : decode cX7_stack 13 = .ok (.iload_n 1, 1) := by decide +kernel
theorem dX7_stack_14 : decode cX7_stack 14 = .ok (.invokestatic 128, 3) := by decide +kernel
theorem dX7_stack_17 : decode cX7_stack 17 = .ok (.ifCond .ne 9, 3) := by decide +kernel
theorem dX7_stack_20 : decode cX7_stack 20 = .ok (.aload_n 0, 1) := by decide +kernel
theorem dX7_stack_21 : decode cX7_stack 21 = .ok (.iconst 2, 1) := by decide +kernel
theorem dX7_stack_22 : decode cX7_stack 22 = .ok (.invokevirtual 58, 3) := by decide +kernel
theorem dX7_stack_25 : decode cX7_stack 25 = .ok (.ireturn, 1) := by decide +kernel
theorem dX7_stack_26 : decode cX7_stack 26 = .ok (.aload_n 0, 1) := by decide +kernel
theorem dX7_stack_27 : decode cX7_stack 27 = .ok (.aload_n 0, 1) := by decide +kernel
theorem dX7_stack_28 : decode cX7_stack 28 = .ok (.getfield 19, 3) := by decide +kernel
theorem dX7_stack_31 : decode cX7_stack 31 = .ok (.iload_n 1, 1) := by decide +kernel
theorem dX7_stack_32 : decode cX7_stack 32 = .ok (.invokevirtual 134, 3) := by decide +kernel
theorem dX7_stack_35 : decode cX7_stack 35 = .ok (.invokevirtual 85, 3) := by decide +kernel
theorem dX7_stack_38 : decode cX7_stack 38 = .ok (.ireturn, 1) := by decide +kernel
def B_X7_stack_0 (X : Nat × (Nat → Int32)) (J : Nat → zCf) (R : zRt) : zCf := oALOAD 0 (oINV0 X M_X7_noTube 7 (oIFEQ (J 13) (oALOAD 0 (oPI (zj (1)) (oINV1 X M_X7_refuse 7 (oIRET R))))))
set_option maxRecDepth 100000 in
theorem vb_X7_stack_0 {X : Nat × (Nat → Int32)} {R : zRt} : ∀ ls st h, B_X7_stack_0 X (zV X M_X7_stack (zQm M_X7_stack R) 0 0) R ls st h → zV X M_X7_stack (zQm M_X7_stack R) 0 0 0 ls st h := sd_aload_n dX7_stack_0 rfl (sd_inv0 dX7_stack_1 rfl mv_X7_noTube na_X7_noTube ml_RX7_124 ⟨⟨Nat.le_of_ble_eq_true rfl, Nat.le_of_ble_eq_true rfl⟩, ⟨Nat.le_of_ble_eq_true rfl, Nat.le_of_ble_eq_true rfl⟩⟩ (sd_ifeq dX7_stack_4 rfl (fun _ _ _ h => h) (sd_aload_n dX7_stack_7 rfl (sd_iconst dX7_stack_8 rfl (sd_inv1 dX7_stack_9 rfl mv_X7_refuse na_X7_refuse ml_RX7_58 ⟨⟨Nat.le_of_ble_eq_true rfl, Nat.le_of_ble_eq_true rfl⟩, ⟨Nat.le_of_ble_eq_true rfl, Nat.le_of_ble_eq_true rfl⟩⟩ (sd_iret dX7_stack_12 rfl (Nat.le_of_ble_eq_true rfl) (Nat.le_of_ble_eq_true rfl)))))))
def B_X7_stack_13 (X : Nat × (Nat → Int32)) (J : Nat → zCf) (R : zRt) : zCf := oILOAD 1 (oINS1 X M_X7_isCell (oIFNE (J 26) (oALOAD 0 (oPI (zj (2)) (oINV1 X M_X7_refuse 7 (oIRET R))))))
set_option maxRecDepth 100000 in
theorem vb_X7_stack_13 {X : Nat × (Nat → Int32)} {R : zRt} : ∀ ls st h, B_X7_stack_13 X (zV X M_X7_stack (zQm M_X7_stack R) 0 0) R ls st h → zV X M_X7_stack (zQm M_X7_stack R) 0 0 13 ls st h := sd_iload_n dX7_stack_13 rfl (sd_ins1 dX7_stack_14 ms_X7_isCell na_X7_isCell ml_RX7_128 ⟨⟨Nat.le_of_ble_eq_true rfl, Nat.le_of_ble_eq_true rfl⟩, ⟨Nat.le_of_ble_eq_true rfl, Nat.le_of_ble_eq_true rfl⟩⟩ (sd_ifne dX7_stack_17 rfl (fun _ _ _ h => h) (sd_aload_n dX7_stack_20 rfl (sd_iconst dX7_stack_21 rfl (sd_inv1 dX7_stack_22 rfl mv_X7_refuse na_X7_refuse ml_RX7_58 ⟨⟨Nat.le_of_ble_eq_true rfl, Nat.le_of_ble_eq_true rfl⟩, ⟨Nat.le_of_ble_eq_true rfl, Nat.le_of_ble_eq_true rfl⟩⟩ (sd_iret dX7_stack_25 rfl (Nat.le_of_ble_eq_true rfl) (Nat.le_of_ble_eq_true rfl)))))))
def B_X7_stack_26 (X : Nat × (Nat → Int32)) (J : Nat → zCf) (R : zRt) : zCf := oALOAD 0 (oALOAD 0 (oGETR 7 1 (oILOAD 1 (oINV1 X M_X4_bitsIn 4 (oINV1 X M_X7_answer 7 (oIRET R))))))
set_option maxRecDepth 100000 in
theorem vb_X7_stack_26 {X : Nat × (Nat → Int32)} {R : zRt} : ∀ ls st h, B_X7_stack_26 X (zV X M_X7_stack (zQm M_X7_stack R) 0 0) R ls st h → zV X M_X7_stack (zQm M_X7_stack R) 0 0 26 ls st h := sd_aload_n dX7_stack_26 rfl (sd_aload_n dX7_stack_27 rfl (sd_getr dX7_stack_28 zCl7 (Nat.le_of_ble_eq_true rfl) lk_RX7_19 (Or.inl ⟨_, rfl⟩) (sd_iload_n dX7_stack_31 rfl (sd_inv1 dX7_stack_32 rfl mv_X4_bitsIn na_X4_bitsIn ml_RX7_134 ⟨⟨Nat.le_of_ble_eq_true rfl, Nat.le_of_ble_eq_true rfl⟩, ⟨Nat.le_of_ble_eq_true rfl, Nat.le_of_ble_eq_true rfl⟩⟩ (sd_inv1 dX7_stack_35 rfl mv_X7_answer na_X7_answer ml_RX7_85 ⟨⟨Nat.le_of_ble_eq_true rfl, Nat.le_of_ble_eq_true rfl⟩, ⟨Nat.le_of_ble_eq_true rfl, Nat.le_of_ble_eq_true rfl⟩⟩ (sd_iret dX7_stack_38 rfl (Nat.le_of_ble_eq_true rfl) (Nat.le_of_ble_eq_true rfl)))))))
theorem dX7_seen_0 : decode cX7_seen 0 = .ok (.aload_n 0, 1) := by decide +kernel
theorem dX7_seen_1 : decode cX7_seen 1 = .ok (.invokevirtual 124, 3) := by decide +kernel
theorem dX7_seen_4 : decode cX7_seen 4 = .ok (.ifCond .eq 9, 3) := by decide +kernel
theorem dX7_seen_7 : decode cX7_seen 7 = .ok (.aload_n 0, 1) := by decide +kernel
theorem dX7_seen_8 : decode cX7_seen 8 = .ok (.iconst 1, 1) := by decide +kernel
theorem dX7_seen_9 : decode cX7_seen 9 = .ok (.invokevirtual 58, 3) := by decide +kernel
theorem dX7_seen_12 : decode cX7_seen 12 = .ok (.ireturn, 1) := by decide +kernel
theorem dX7_seen_13 : decode cX7_seen 13 = .ok (.iload_n 1, 1) := by decide +kernel
theorem dX7_seen_14 : decode cX7_seen 14 = .ok (.invokestatic 137, 3) := by decide +kernel
theorem dX7_seen_17 : decode cX7_seen 17 = .ok (.ifCond .eq 10, 3) := by decide +kernel
theorem dX7_seen_20 : decode cX7_seen 20 = .ok (.iload_n 2, 1) := by decide +kernel
theorem dX7_seen_21 : decode cX7_seen 21 = .ok (.invokestatic 128, 3) := by decide +kernel
theorem dX7_seen_24 : decode cX7_seen 24 = .ok (.ifCond .ne 9, 3) := by decide +kernel
theorem dX7_seen_27 : decode cX7_seen 27 = .ok (.aload_n 0, 1) := by decide +kernel
theorem dX7_seen_28 : decode cX7_seen 28 = .ok (.iconst 2, 1) := by decide +kernel
theorem dX7_seen_29 : decode cX7_seen 29 = .ok (.invokevirtual 58, 3) := by decide +kernel
theorem dX7_seen_32 : decode cX7_seen 32 = .ok (.ireturn, 1) := by decide +kernel
theorem dX7_seen_33 : decode cX7_seen 33 = .ok (.aload_n 0, 1) := by decide +kernel
theorem dX7_seen_34 : decode cX7_seen 34 = .ok (.aload_n 0, 1) := by decide +kernel
theorem dX7_seen_35 : decode cX7_seen 35 = .ok (.getfield 19, 3) := by decide +kernel
theorem dX7_seen_38 : decode cX7_seen 38 = .ok (.iload_n 1, 1) := by decide +kernel
theorem dX7_seen_39 : decode cX7_seen 39 = .ok (.iload_n 2, 1) := by decide +kernel
theorem dX7_seen_40 : decode cX7_seen 40 = .ok (.invokevirtual 140, 3) := by decide +kernel
theorem dX7_seen_43 : decode cX7_seen 43 = .ok (.invokevirtual 85, 3) := by decide +kernel
theorem dX7_seen_46 : decode cX7_seen 46 = .ok (.ireturn, 1) := by decide +kernel
def B_X7_seen_0 (X : Nat × (Nat → Int32)) (J : Nat → zCf) (R : zRt) : zCf := oALOAD 0 (oINV0 X M_X7_noTube 7 (oIFEQ (J 13) (oALOAD 0 (oPI (zj (1)) (oINV1 X M_X7_refuse 7 (oIRET R))))))
set_option maxRecDepth 100000 in
theorem vb_X7_seen_0 {X : Nat × (Nat → Int32)} {R : zRt} : ∀ ls st h, B_X7_seen_0 X (zV X M_X7_seen (zQm M_X7_seen R) 0 0) R ls st h → zV X M_X7_seen (zQm M_X7_seen R) 0 0 0 ls st h := sd_aload_n dX7_seen_0 rfl (sd_inv0 dX7_seen_1 rfl mv_X7_noTube na_X7_noTube ml_RX7_124 ⟨⟨Nat.le_of_ble_eq_true rfl, Nat.le_of_ble_eq_true rfl⟩, ⟨Nat.le_of_ble_eq_true rfl, Nat.le_of_ble_eq_true rfl⟩⟩ (sd_ifeq dX7_seen_4 rfl (fun _ _ _ h => h) (sd_aload_n dX7_seen_7 rfl (sd_iconst dX7_seen_8 rfl (sd_inv1 dX7_seen_9 rfl mv_X7_refuse na_X7_refuse ml_RX7_58 ⟨⟨Nat.le_of_ble_eq_true rfl, Nat.le_of_ble_eq_true rfl⟩, ⟨Nat.le_of_ble_eq_true rfl, Nat.le_of_ble_eq_true rfl⟩⟩ (sd_iret dX7_seen_12 rfl (Nat.le_of_ble_eq_true rfl) (Nat.le_of_ble_eq_true rfl)))))))
def B_X7_seen_13 (X : Nat × (Nat → Int32)) (J : Nat → zCf) (R : zRt) : zCf := oILOAD 1 (oINS1 X M_X7_isCountry (oIFEQ (J 27) (oILOAD 2 (oINS1 X M_X7_isCell (oIFNE (J 33) (J 27))))))
set_option maxRecDepth 100000 in
theorem vb_X7_seen_13 {X : Nat × (Nat → Int32)} {R : zRt} : ∀ ls st h, B_X7_seen_13 X (zV X M_X7_seen (zQm M_X7_seen R) 0 0) R ls st h → zV X M_X7_seen (zQm M_X7_seen R) 0 0 13 ls st h := sd_iload_n dX7_seen_13 rfl (sd_ins1 dX7_seen_14 ms_X7_isCountry na_X7_isCountry ml_RX7_137 ⟨⟨Nat.le_of_ble_eq_true rfl, Nat.le_of_ble_eq_true rfl⟩, ⟨Nat.le_of_ble_eq_true rfl, Nat.le_of_ble_eq_true rfl⟩⟩ (sd_ifeq dX7_seen_17 rfl (fun _ _ _ h => h) (sd_iload_n dX7_seen_20 rfl (sd_ins1 dX7_seen_21 ms_X7_isCell na_X7_isCell ml_RX7_128 ⟨⟨Nat.le_of_ble_eq_true rfl, Nat.le_of_ble_eq_true rfl⟩, ⟨Nat.le_of_ble_eq_true rfl, Nat.le_of_ble_eq_true rfl⟩⟩ (sd_ifne dX7_seen_24 rfl (fun _ _ _ h => h) (fun _ _ _ h => h))))))
def B_X7_seen_27 (X : Nat × (Nat → Int32)) (J : Nat → zCf) (R : zRt) : zCf := oALOAD 0 (oPI (zj (2)) (oINV1 X M_X7_refuse 7 (oIRET R)))
set_option maxRecDepth 100000 in
theorem vb_X7_seen_27 {X : Nat × (Nat → Int32)} {R : zRt} : ∀ ls st h, B_X7_seen_27 X (zV X M_X7_seen (zQm M_X7_seen R) 0 0) R ls st h → zV X M_X7_seen (zQm M_X7_seen R) 0 0 27 ls st h := sd_aload_n dX7_seen_27 rfl (sd_iconst dX7_seen_28 rfl (sd_inv1 dX7_seen_29 rfl mv_X7_refuse na_X7_refuse ml_RX7_58 ⟨⟨Nat.le_of_ble_eq_true rfl, Nat.le_of_ble_eq_true rfl⟩, ⟨Nat.le_of_ble_eq_true rfl, Nat.le_of_ble_eq_true rfl⟩⟩ (sd_iret dX7_seen_32 rfl (Nat.le_of_ble_eq_true rfl) (Nat.le_of_ble_eq_true rfl))))
def B_X7_seen_33 (X : Nat × (Nat → Int32)) (J : Nat → zCf) (R : zRt) : zCf := oALOAD 0 (oALOAD 0 (oGETR 7 1 (oILOAD 1 (oILOAD 2 (oINV2 X M_X4_shownAt 4 (oINV1 X M_X7_answer 7 (oIRET R)))))))
set_option maxRecDepth 100000 in
theorem vb_X7_seen_33 {X : Nat × (Nat → Int32)} {R : zRt} : ∀ ls st h, B_X7_seen_33 X (zV X M_X7_seen (zQm M_X7_seen R) 0 0) R ls st h → zV X M_X7_seen (zQm M_X7_seen R) 0 0 33 ls st h := sd_aload_n dX7_seen_33 rfl (sd_aload_n dX7_seen_34 rfl (sd_getr dX7_seen_35 zCl7 (Nat.le_of_ble_eq_true rfl) lk_RX7_19 (Or.inl ⟨_, rfl⟩) (sd_iload_n dX7_seen_38 rfl (sd_iload_n dX7_seen_39 rfl (sd_inv2 dX7_seen_40 rfl mv_X4_shownAt na_X4_shownAt ml_RX7_140 ⟨⟨Nat.le_of_ble_eq_true rfl, Nat.le_of_ble_eq_true rfl⟩, ⟨Nat.le_of_ble_eq_true rfl, Nat.le_of_ble_eq_true rfl⟩⟩ (sd_inv1 dX7_seen_43 rfl mv_X7_answer na_X7_answer ml_RX7_85 ⟨⟨Nat.le_of_ble_eq_true rfl, Nat.le_of_ble_eq_true rfl⟩, ⟨Nat.le_of_ble_eq_true rfl, Nat.le_of_ble_eq_true rfl⟩⟩ (sd_iret dX7_seen_46 rfl (Nat.le_of_ble_eq_true rfl) (Nat.le_of_ble_eq_true rfl))))))))
theorem dX7_lies_0 : decode cX7_lies 0 = .ok (.aload_n 0, 1) := by decide +kernel
theorem dX7_lies_1 : decode cX7_lies 1 = .ok (.iload_n 1, 1) := by decide +kernel
theorem dX7_lies_2 : decode cX7_lies 2 = .ok (.invokevirtual 97, 3) := by decide +kernel
theorem dX7_lies_5 : decode cX7_lies 5 = .ok (.ifCond .ne 9, 3) := by decide +kernel
theorem dX7_lies_8 : decode cX7_lies 8 = .ok (.aload_n 0, 1) := by decide +kernel
theorem dX7_lies_9 : decode cX7_lies 9 = .ok (.iconst 1, 1) := by decide +kernel
theorem dX7_lies_10 : decode cX7_lies 10 = .ok (.invokevirtual 58, 3) := by decide +kernel
theorem dX7_lies_13 : decode cX7_lies 13 = .ok (.ireturn, 1) := by decide +kernel
theorem dX7_lies_14 : decode cX7_lies 14 = .ok (.iload_n 2, 1) := by decide +kernel
theorem dX7_lies_15 : decode cX7_lies 15 = .ok (.invokestatic 137, 3) := by decide +kernel
theorem dX7_lies_18 : decode cX7_lies 18 = .ok (.ifCond .ne 9, 3) := by decide +kernel
theorem dX7_lies_21 : decode cX7_lies 21 = .ok (.aload_n 0, 1) := by decide +kernel
theorem dX7_lies_22 : decode cX7_lies 22 = .ok (.iconst 2, 1) := by decide +kernel
theorem dX7_lies_23 : decode cX7_lies 23 = .ok (.invokevirtual 58, 3) := by decide +kernel
theorem dX7_lies_26 : decode cX7_lies 26 = .ok (.ireturn, 1) := by decide +kernel
theorem dX7_lies_27 : decode cX7_lies 27 = .ok (.aload_n 0, 1) := by decide +kernel
theorem dX7_lies_28 : decode cX7_lies 28 = .ok (.iload_n 2, 1) := by decide +kernel
theorem dX7_lies_29 : decode cX7_lies 29 = .ok (.aload_n 0, 1) := by decide +kernel
theorem dX7_lies_30 : decode cX7_lies 30 = .ok (.getfield 19, 3) := by decide +kernel
theorem dX7_lies_33 : decode cX7_lies 33 = .ok (.iload_n 1, 1) := by decide +kernel
theorem dX7_lies_34 : decode cX7_lies 34 = .ok (.iconst 0, 1) := by decide +kernel
theorem dX7_lies_35 : decode cX7_lies 35 = .ok (.iconst 0, 1) := by decide +kernel
theorem dX7_lies_36 : decode cX7_lies 36 = .ok (.invokevirtual 107, 3) := by decide +kernel
theorem dX7_lies_39 : decode cX7_lies 39 = .ok (.invokestatic 144, 3) := by decide +kernel
theorem dX7_lies_42 : decode cX7_lies 42 = .ok (.invokevirtual 85, 3) := by decide +kernel
theorem dX7_lies_45 : decode cX7_lies 45 = .ok (.ireturn, 1) := by decide +kernel
def B_X7_lies_0 (X : Nat × (Nat → Int32)) (J : Nat → zCf) (R : zRt) : zCf := oALOAD 0 (oILOAD 1 (oINV1 X M_X7_isBit 7 (oIFNE (J 14) (oALOAD 0 (oPI (zj (1)) (oINV1 X M_X7_refuse 7 (oIRET R)))))))
set_option maxRecDepth 100000 in
theorem vb_X7_lies_0 {X : Nat × (Nat → Int32)} {R : zRt} : ∀ ls st h, B_X7_lies_0 X (zV X M_X7_lies (zQm M_X7_lies R) 0 0) R ls st h → zV X M_X7_lies (zQm M_X7_lies R) 0 0 0 ls st h := sd_aload_n dX7_lies_0 rfl (sd_iload_n dX7_lies_1 rfl (sd_inv1 dX7_lies_2 rfl mv_X7_isBit na_X7_isBit ml_RX7_97 ⟨⟨Nat.le_of_ble_eq_true rfl, Nat.le_of_ble_eq_true rfl⟩, ⟨Nat.le_of_ble_eq_true rfl, Nat.le_of_ble_eq_true rfl⟩⟩ (sd_ifne dX7_lies_5 rfl (fun _ _ _ h => h) (sd_aload_n dX7_lies_8 rfl (sd_iconst dX7_lies_9 rfl (sd_inv1 dX7_lies_10 rfl mv_X7_refuse na_X7_refuse ml_RX7_58 ⟨⟨Nat.le_of_ble_eq_true rfl, Nat.le_of_ble_eq_true rfl⟩, ⟨Nat.le_of_ble_eq_true rfl, Nat.le_of_ble_eq_true rfl⟩⟩ (sd_iret dX7_lies_13 rfl (Nat.le_of_ble_eq_true rfl) (Nat.le_of_ble_eq_true rfl))))))))
def B_X7_lies_14 (X : Nat × (Nat → Int32)) (J : Nat → zCf) (R : zRt) : zCf := oILOAD 2 (oINS1 X M_X7_isCountry (oIFNE (J 27) (oALOAD 0 (oPI (zj (2)) (oINV1 X M_X7_refuse 7 (oIRET R))))))
set_option maxRecDepth 100000 in
theorem vb_X7_lies_14 {X : Nat × (Nat → Int32)} {R : zRt} : ∀ ls st h, B_X7_lies_14 X (zV X M_X7_lies (zQm M_X7_lies R) 0 0) R ls st h → zV X M_X7_lies (zQm M_X7_lies R) 0 0 14 ls st h := sd_iload_n dX7_lies_14 rfl (sd_ins1 dX7_lies_15 ms_X7_isCountry na_X7_isCountry ml_RX7_137 ⟨⟨Nat.le_of_ble_eq_true rfl, Nat.le_of_ble_eq_true rfl⟩, ⟨Nat.le_of_ble_eq_true rfl, Nat.le_of_ble_eq_true rfl⟩⟩ (sd_ifne dX7_lies_18 rfl (fun _ _ _ h => h) (sd_aload_n dX7_lies_21 rfl (sd_iconst dX7_lies_22 rfl (sd_inv1 dX7_lies_23 rfl mv_X7_refuse na_X7_refuse ml_RX7_58 ⟨⟨Nat.le_of_ble_eq_true rfl, Nat.le_of_ble_eq_true rfl⟩, ⟨Nat.le_of_ble_eq_true rfl, Nat.le_of_ble_eq_true rfl⟩⟩ (sd_iret dX7_lies_26 rfl (Nat.le_of_ble_eq_true rfl) (Nat.le_of_ble_eq_true rfl)))))))
def B_X7_lies_27 (X : Nat × (Nat → Int32)) (J : Nat → zCf) (R : zRt) : zCf := oALOAD 0 (oILOAD 2 (oALOAD 0 (oGETR 7 1 (oILOAD 1 (oPI (zj (0)) (oPI (zj (0)) (oINV3 X M_X4_cellBehind 4 (oINS2 X M_X7_mirroredCell (oINV1 X M_X7_answer 7 (oIRET R))))))))))
set_option maxRecDepth 100000 in
theorem vb_X7_lies_27 {X : Nat × (Nat → Int32)} {R : zRt} : ∀ ls st h, B_X7_lies_27 X (zV X M_X7_lies (zQm M_X7_lies R) 0 0) R ls st h → zV X M_X7_lies (zQm M_X7_lies R) 0 0 27 ls st h := sd_aload_n dX7_lies_27 rfl (sd_iload_n dX7_lies_28 rfl (sd_aload_n dX7_lies_29 rfl (sd_getr dX7_lies_30 zCl7 (Nat.le_of_ble_eq_true rfl) lk_RX7_19 (Or.inl ⟨_, rfl⟩) (sd_iload_n dX7_lies_33 rfl (sd_iconst dX7_lies_34 rfl (sd_iconst dX7_lies_35 rfl (sd_inv3 dX7_lies_36 rfl mv_X4_cellBehind na_X4_cellBehind ml_RX7_107 ⟨⟨Nat.le_of_ble_eq_true rfl, Nat.le_of_ble_eq_true rfl⟩, ⟨Nat.le_of_ble_eq_true rfl, Nat.le_of_ble_eq_true rfl⟩⟩ (sd_ins2 dX7_lies_39 ms_X7_mirroredCell na_X7_mirroredCell ml_RX7_144 ⟨⟨Nat.le_of_ble_eq_true rfl, Nat.le_of_ble_eq_true rfl⟩, ⟨Nat.le_of_ble_eq_true rfl, Nat.le_of_ble_eq_true rfl⟩⟩ (sd_inv1 dX7_lies_42 rfl mv_X7_answer na_X7_answer ml_RX7_85 ⟨⟨Nat.le_of_ble_eq_true rfl, Nat.le_of_ble_eq_true rfl⟩, ⟨Nat.le_of_ble_eq_true rfl, Nat.le_of_ble_eq_true rfl⟩⟩ (sd_iret dX7_lies_45 rfl (Nat.le_of_ble_eq_true rfl) (Nat.le_of_ble_eq_true rfl)))))))))))
theorem dX7_under_0 : decode cX7_under 0 = .ok (.aload_n 0, 1) := by decide +kernel
theorem dX7_under_1 : decode cX7_under 1 = .ok (.invokevirtual 124, 3) := by decide +kernel
theorem dX7_under_4 : decode cX7_under 4 = .ok (.ifCond .eq 9, 3) := by decide +kernel
theorem dX7_under_7 : decode cX7_under 7 = .ok (.aload_n 0, 1) := by decide +kernel
theorem dX7_under_8 : decode cX7_under 8 = .ok (.iconst 1, 1) := by decide +kernel
theorem dX7_under_9 : decode cX7_under 9 = .ok (.invokevirtual 58, 3) := by decide +kernel
theorem dX7_under_12 : decode cX7_under 12 = .ok (.ireturn, 1) := by decide +kernel
theorem dX7_under_13 : decode cX7_under 13 = .ok (.aload_n 0, 1) := by decide +kernel
theorem dX7_under_14 : decode cX7_under 14 = .ok (.aload_n 0, 1) := by decide +kernel
theorem dX7_under_15 : decode cX7_under 15 = .ok (.getfield 19, 3) := by decide +kernel
theorem dX7_under_18 : decode cX7_under 18 = .ok (.invokevirtual 147, 3) := by decide +kernel
theorem dX7_under_21 : decode cX7_under 21 = .ok (.invokevirtual 85, 3) := by decide +kernel
theorem dX7_under_24 : decode cX7_under 24 = .ok (.ireturn, 1) := by decide +kernel
def B_X7_under_0 (X : Nat × (Nat → Int32)) (J : Nat → zCf) (R : zRt) : zCf := oALOAD 0 (oINV0 X M_X7_noTube 7 (oIFEQ (J 13) (oALOAD 0 (oPI (zj (1)) (oINV1 X M_X7_refuse 7 (oIRET R))))))
set_option maxRecDepth 100000 in
theorem vb_X7_under_0 {X : Nat × (Nat → Int32)} {R : zRt} : ∀ ls st h, B_X7_under_0 X (zV X M_X7_under (zQm M_X7_under R) 0 0) R ls st h → zV X M_X7_under (zQm M_X7_under R) 0 0 0 ls st h := sd_aload_n dX7_under_0 rfl (sd_inv0 dX7_under_1 rfl mv_X7_noTube na_X7_noTube ml_RX7_124 ⟨⟨Nat.le_of_ble_eq_true rfl, Nat.le_of_ble_eq_true rfl⟩, ⟨Nat.le_of_ble_eq_true rfl, Nat.le_of_ble_eq_true rfl⟩⟩ (sd_ifeq dX7_under_4 rfl (fun _ _ _ h => h) (sd_aload_n dX7_under_7 rfl (sd_iconst dX7_under_8 rfl (sd_inv1 dX7_under_9 rfl mv_X7_refuse na_X7_refuse ml_RX7_58 ⟨⟨Nat.le_of_ble_eq_true rfl, Nat.le_of_ble_eq_true rfl⟩, ⟨Nat.le_of_ble_eq_true rfl, Nat.le_of_ble_eq_true rfl⟩⟩ (sd_iret dX7_under_12 rfl (Nat.le_of_ble_eq_true rfl) (Nat.le_of_ble_eq_true rfl)))))))
def B_X7_under_13 (X : Nat × (Nat → Int32)) (J : Nat → zCf) (R : zRt) : zCf := oALOAD 0 (oALOAD 0 (oGETR 7 1 (oINV0 X M_X4_bitsUnder 4 (oINV1 X M_X7_answer 7 (oIRET R)))))
set_option maxRecDepth 100000 in
theorem vb_X7_under_13 {X : Nat × (Nat → Int32)} {R : zRt} : ∀ ls st h, B_X7_under_13 X (zV X M_X7_under (zQm M_X7_under R) 0 0) R ls st h → zV X M_X7_under (zQm M_X7_under R) 0 0 13 ls st h := sd_aload_n dX7_under_13 rfl (sd_aload_n dX7_under_14 rfl (sd_getr dX7_under_15 zCl7 (Nat.le_of_ble_eq_true rfl) lk_RX7_19 (Or.inl ⟨_, rfl⟩) (sd_inv0 dX7_under_18 rfl mv_X4_bitsUnder na_X4_bitsUnder ml_RX7_147 ⟨⟨Nat.le_of_ble_eq_true rfl, Nat.le_of_ble_eq_true rfl⟩, ⟨Nat.le_of_ble_eq_true rfl, Nat.le_of_ble_eq_true rfl⟩⟩ (sd_inv1 dX7_under_21 rfl mv_X7_answer na_X7_answer ml_RX7_85 ⟨⟨Nat.le_of_ble_eq_true rfl, Nat.le_of_ble_eq_true rfl⟩, ⟨Nat.le_of_ble_eq_true rfl, Nat.le_of_ble_eq_true rfl⟩⟩ (sd_iret dX7_under_24 rfl (Nat.le_of_ble_eq_true rfl) (Nat.le_of_ble_eq_true rfl))))))
theorem dX7_until_0 : decode cX7_until 0 = .ok (.aload_n 0, 1) := by decide +kernel
theorem dX7_until_1 : decode cX7_until 1 = .ok (.iload_n 1, 1) := by decide +kernel
theorem dX7_until_2 : decode cX7_until 2 = .ok (.invokevirtual 97, 3) := by decide +kernel
theorem dX7_until_5 : decode cX7_until 5 = .ok (.ifCond .ne 9, 3) := by decide +kernel
theorem dX7_until_8 : decode cX7_until 8 = .ok (.aload_n 0, 1) := by decide +kernel
theorem dX7_until_9 : decode cX7_until 9 = .ok (.iconst 1, 1) := by decide +kernel
theorem dX7_until_10 : decode cX7_until 10 = .ok (.invokevirtual 58, 3) := by decide +kernel
theorem dX7_until_13 : decode cX7_until 13 = .ok (.ireturn, 1) := by decide +kernel
theorem dX7_until_14 : decode cX7_until 14 = .ok (.iconst 0, 1) := by decide +kernel
theorem dX7_until_15 : decode cX7_until 15 = .ok (.istore_n 2, 1) := by decide +kernel
theorem dX7_until_16 : decode cX7_until 16 = .ok (.iload_n 2, 1) := by decide +kernel
theorem dX7_until_17 : decode cX7_until 17 = .ok (.bipush 24, 2) := by decide +kernel
theorem dX7_until_19 : decode cX7_until 19 = .ok (.if_icmp .gt 28, 3) := by decide +kernel
theorem dX7_until_22 : decode cX7_until 22 = .ok (.aload_n 0, 1) := by decide +kernel
theorem dX7_until_23 : decode cX7_until 23 = .ok (.getfield 19, 3) := by decide +kernel
theorem dX7_until_26 : decode cX7_until 26 = .ok (.iload_n 1, 1) := by decide +kernel
theorem dX7_until_27 : decode cX7_until 27 = .ok (.iload_n 2, 1) := by decide +kernel
theorem dX7_until_28 : decode cX7_until 28 = .ok (.iconst 0, 1) := by decide +kernel
theorem dX7_until_29 : decode cX7_until 29 = .ok (.invokevirtual 111, 3) := by decide +kernel
theorem dX7_until_32 : decode cX7_until 32 = .ok (.ifCond .eq 9, 3) := by decide +kernel
theorem dX7_until_35 : decode cX7_until 35 = .ok (.aload_n 0, 1) := by decide +kernel
theorem dX7_until_36 : decode cX7_until 36 = .ok (.iload_n 2, 1) := by decide +kernel
theorem dX7_until_37 : decode cX7_until 37 = .ok (.invokevirtual 85, 3) := by decide +kernel
theorem dX7_until_40 : decode cX7_until 40 = .ok (.ireturn, 1) := by decide +kernel
theorem dX7_until_41 : decode cX7_until 41 = .ok (.iinc 2 1, 3) := by decide +kernel
theorem dX7_until_44 : decode cX7_until 44 = .ok (.goto (-28), 3) := by decide +kernel
theorem dX7_until_47 : decode cX7_until 47 = .ok (.aload_n 0, 1) := by decide +kernel
theorem dX7_until_48 : decode cX7_until 48 = .ok (.bipush (-2), 2) := by decide +kernel
theorem dX7_until_50 : decode cX7_until 50 = .ok (.invokevirtual 85, 3) := by decide +kernel
theorem dX7_until_53 : decode cX7_until 53 = .ok (.ireturn, 1) := by decide +kernel
def B_X7_until_0 (X : Nat × (Nat → Int32)) (J : Nat → zCf) (R : zRt) : zCf := oALOAD 0 (oILOAD 1 (oINV1 X M_X7_isBit 7 (oIFNE (J 14) (oALOAD 0 (oPI (zj (1)) (oINV1 X M_X7_refuse 7 (oIRET R)))))))
set_option maxRecDepth 100000 in
theorem vb_X7_until_0 {X : Nat × (Nat → Int32)} {R : zRt} : ∀ ls st h, B_X7_until_0 X (zV X M_X7_until (zQm M_X7_until R) 0 0) R ls st h → zV X M_X7_until (zQm M_X7_until R) 0 0 0 ls st h := sd_aload_n dX7_until_0 rfl (sd_iload_n dX7_until_1 rfl (sd_inv1 dX7_until_2 rfl mv_X7_isBit na_X7_isBit ml_RX7_97 ⟨⟨Nat.le_of_ble_eq_true rfl, Nat.le_of_ble_eq_true rfl⟩, ⟨Nat.le_of_ble_eq_true rfl, Nat.le_of_ble_eq_true rfl⟩⟩ (sd_ifne dX7_until_5 rfl (fun _ _ _ h => h) (sd_aload_n dX7_until_8 rfl (sd_iconst dX7_until_9 rfl (sd_inv1 dX7_until_10 rfl mv_X7_refuse na_X7_refuse ml_RX7_58 ⟨⟨Nat.le_of_ble_eq_true rfl, Nat.le_of_ble_eq_true rfl⟩, ⟨Nat.le_of_ble_eq_true rfl, Nat.le_of_ble_eq_true rfl⟩⟩ (sd_iret dX7_until_13 rfl (Nat.le_of_ble_eq_true rfl) (Nat.le_of_ble_eq_true rfl))))))))
def B_X7_until_14 (X : Nat × (Nat → Int32)) (J : Nat → zCf) (R : zRt) : zCf := oPI (zj (0)) (oISTORE 1 2 (J 16))
set_option maxRecDepth 100000 in
theorem vb_X7_until_14 {X : Nat × (Nat → Int32)} {R : zRt} : ∀ ls st h, B_X7_until_14 X (zV X M_X7_until (zQm M_X7_until R) 0 0) R ls st h → zV X M_X7_until (zQm M_X7_until R) 0 0 14 ls st h := sd_iconst dX7_until_14 rfl (sd_istore_n dX7_until_15 rfl (Nat.le_of_ble_eq_true rfl) (Or.inl rfl) (fun _ _ _ h => h))
def B_X7_until_16 (X : Nat × (Nat → Int32)) (J : Nat → zCf) (R : zRt) : zCf := oILOAD 2 (oPI (zj (24)) (oICGT (J 47) (oALOAD 0 (oGETR 7 1 (oILOAD 1 (oILOAD 2 (oPI (zj (0)) (oINV3 X M_X4_isTop 4 (oIFEQ (J 41) (oALOAD 0 (oILOAD 2 (oINV1 X M_X7_answer 7 (oIRET R)))))))))))))
set_option maxRecDepth 100000 in
theorem vb_X7_until_16 {X : Nat × (Nat → Int32)} {R : zRt} : ∀ ls st h, B_X7_until_16 X (zV X M_X7_until (zQm M_X7_until R) 0 0) R ls st h → zV X M_X7_until (zQm M_X7_until R) 0 0 16 ls st h := sd_iload_n dX7_until_16 rfl (sd_bipush dX7_until_17 rfl (sd_icgt dX7_until_19 rfl (fun _ _ _ h => h) (sd_aload_n dX7_until_22 rfl (sd_getr dX7_until_23 zCl7 (Nat.le_of_ble_eq_true rfl) lk_RX7_19 (Or.inl ⟨_, rfl⟩) (sd_iload_n dX7_until_26 rfl (sd_iload_n dX7_until_27 rfl (sd_iconst dX7_until_28 rfl (sd_inv3 dX7_until_29 rfl mv_X4_isTop na_X4_isTop ml_RX7_111 ⟨⟨Nat.le_of_ble_eq_true rfl, Nat.le_of_ble_eq_true rfl⟩, ⟨Nat.le_of_ble_eq_true rfl, Nat.le_of_ble_eq_true rfl⟩⟩ (sd_ifeq dX7_until_32 rfl (fun _ _ _ h => h) (sd_aload_n dX7_until_35 rfl (sd_iload_n dX7_until_36 rfl (sd_inv1 dX7_until_37 rfl mv_X7_answer na_X7_answer ml_RX7_85 ⟨⟨Nat.le_of_ble_eq_true rfl, Nat.le_of_ble_eq_true rfl⟩, ⟨Nat.le_of_ble_eq_true rfl, Nat.le_of_ble_eq_true rfl⟩⟩ (sd_iret dX7_until_40 rfl (Nat.le_of_ble_eq_true rfl) (Nat.le_of_ble_eq_true rfl))))))))))))))
def B_X7_until_41 (X : Nat × (Nat → Int32)) (J : Nat → zCf) (R : zRt) : zCf := oIINC 1 2 (zj (1)) (J 16)
set_option maxRecDepth 100000 in
theorem vb_X7_until_41 {X : Nat × (Nat → Int32)} {R : zRt} : ∀ ls st h, B_X7_until_41 X (zV X M_X7_until (zQm M_X7_until R) 0 0) R ls st h → zV X M_X7_until (zQm M_X7_until R) 0 0 41 ls st h := sd_iinc dX7_until_41 rfl (Nat.le_of_ble_eq_true rfl) (Or.inl rfl) (sd_goto dX7_until_44 rfl (fun _ _ _ h => h))
def B_X7_until_47 (X : Nat × (Nat → Int32)) (J : Nat → zCf) (R : zRt) : zCf := oALOAD 0 (oPI (zj (-2)) (oINV1 X M_X7_answer 7 (oIRET R)))
set_option maxRecDepth 100000 in
theorem vb_X7_until_47 {X : Nat × (Nat → Int32)} {R : zRt} : ∀ ls st h, B_X7_until_47 X (zV X M_X7_until (zQm M_X7_until R) 0 0) R ls st h → zV X M_X7_until (zQm M_X7_until R) 0 0 47 ls st h := sd_aload_n dX7_until_47 rfl (sd_bipush dX7_until_48 rfl (sd_inv1 dX7_until_50 rfl mv_X7_answer na_X7_answer ml_RX7_85 ⟨⟨Nat.le_of_ble_eq_true rfl, Nat.le_of_ble_eq_true rfl⟩, ⟨Nat.le_of_ble_eq_true rfl, Nat.le_of_ble_eq_true rfl⟩⟩ (sd_iret dX7_until_53 rfl (Nat.le_of_ble_eq_true rfl) (Nat.le_of_ble_eq_true rfl))))
theorem dX7_behind_0 : decode cX7_behind 0 = .ok (.aload_n 0, 1) := by decide +kernel
theorem dX7_behind_1 : decode cX7_behind 1 = .ok (.iload_n 1, 1) := by decide +kernel
theorem dX7_behind_2 : decode cX7_behind 2 = .ok (.invokevirtual 97, 3) := by decide +kernel
theorem dX7_behind_5 : decode cX7_behind 5 = .ok (.ifCond .ne 9, 3) := by decide +kernel
theorem dX7_behind_8 : decode cX7_behind 8 = .ok (.aload_n 0, 1) := by decide +kernel
theorem dX7_behind_9 : decode cX7_behind 9 = .ok (.iconst 1, 1) := by decide +kernel
theorem dX7_behind_10 : decode cX7_behind 10 = .ok (.invokevirtual 58, 3) := by decide +kernel
theorem dX7_behind_13 : decode cX7_behind 13 = .ok (.ireturn, 1) := by decide +kernel
theorem dX7_behind_14 : decode cX7_behind 14 = .ok (.iload_n 2, 1) := by decide +kernel
theorem dX7_behind_15 : decode cX7_behind 15 = .ok (.invokestatic 151, 3) := by decide +kernel
theorem dX7_behind_18 : decode cX7_behind 18 = .ok (.ifCond .ne 9, 3) := by decide +kernel
theorem dX7_behind_21 : decode cX7_behind 21 = .ok (.aload_n 0, 1) := by decide +kernel
theorem dX7_behind_22 : decode cX7_behind 22 = .ok (.iconst 2, 1) := by decide +kernel
theorem dX7_behind_23 : decode cX7_behind 23 = .ok (.invokevirtual 58, 3) := by decide +kernel
theorem dX7_behind_26 : decode cX7_behind 26 = .ok (.ireturn, 1) := by decide +kernel
theorem dX7_behind_27 : decode cX7_behind 27 = .ok (.aload_n 0, 1) := by decide +kernel
theorem dX7_behind_28 : decode cX7_behind 28 = .ok (.aload_n 0, 1) := by decide +kernel
theorem dX7_behind_29 : decode cX7_behind 29 = .ok (.getfield 19, 3) := by decide +kernel
theorem dX7_behind_32 : decode cX7_behind 32 = .ok (.iload_n 1, 1) := by decide +kernel
theorem dX7_behind_33 : decode cX7_behind 33 = .ok (.iload_n 2, 1) := by decide +kernel
theorem dX7_behind_34 : decode cX7_behind 34 = .ok (.iload_n 2, 1) := by decide +kernel
theorem dX7_behind_35 : decode cX7_behind 35 = .ok (.invokestatic 154, 3) := by decide +kernel
theorem dX7_behind_38 : decode cX7_behind 38 = .ok (.invokevirtual 107, 3) := by decide +kernel
theorem dX7_behind_41 : decode cX7_behind 41 = .ok (.invokevirtual 85, 3) := by decide +kernel
theorem dX7_behind_44 : decode cX7_behind 44 = .ok (.ireturn, 1) := by decide +kernel
def B_X7_behind_0 (X : Nat × (Nat → Int32)) (J : Nat → zCf) (R : zRt) : zCf := oALOAD 0 (oILOAD 1 (oINV1 X M_X7_isBit 7 (oIFNE (J 14) (oALOAD 0 (oPI (zj (1)) (oINV1 X M_X7_refuse 7 (oIRET R)))))))
set_option maxRecDepth 100000 in
theorem vb_X7_behind_0 {X : Nat × (Nat → Int32)} {R : zRt} : ∀ ls st h, B_X7_behind_0 X (zV X M_X7_behind (zQm M_X7_behind R) 0 0) R ls st h → zV X M_X7_behind (zQm M_X7_behind R) 0 0 0 ls st h := sd_aload_n dX7_behind_0 rfl (sd_iload_n dX7_behind_1 rfl (sd_inv1 dX7_behind_2 rfl mv_X7_isBit na_X7_isBit ml_RX7_97 ⟨⟨Nat.le_of_ble_eq_true rfl, Nat.le_of_ble_eq_true rfl⟩, ⟨Nat.le_of_ble_eq_true rfl, Nat.le_of_ble_eq_true rfl⟩⟩ (sd_ifne dX7_behind_5 rfl (fun _ _ _ h => h) (sd_aload_n dX7_behind_8 rfl (sd_iconst dX7_behind_9 rfl (sd_inv1 dX7_behind_10 rfl mv_X7_refuse na_X7_refuse ml_RX7_58 ⟨⟨Nat.le_of_ble_eq_true rfl, Nat.le_of_ble_eq_true rfl⟩, ⟨Nat.le_of_ble_eq_true rfl, Nat.le_of_ble_eq_true rfl⟩⟩ (sd_iret dX7_behind_13 rfl (Nat.le_of_ble_eq_true rfl) (Nat.le_of_ble_eq_true rfl))))))))
def B_X7_behind_14 (X : Nat × (Nat → Int32)) (J : Nat → zCf) (R : zRt) : zCf := oILOAD 2 (oINS1 X M_X7_isTurn (oIFNE (J 27) (oALOAD 0 (oPI (zj (2)) (oINV1 X M_X7_refuse 7 (oIRET R))))))
set_option maxRecDepth 100000 in
theorem vb_X7_behind_14 {X : Nat × (Nat → Int32)} {R : zRt} : ∀ ls st h, B_X7_behind_14 X (zV X M_X7_behind (zQm M_X7_behind R) 0 0) R ls st h → zV X M_X7_behind (zQm M_X7_behind R) 0 0 14 ls st h := sd_iload_n dX7_behind_14 rfl (sd_ins1 dX7_behind_15 ms_X7_isTurn na_X7_isTurn ml_RX7_151 ⟨⟨Nat.le_of_ble_eq_true rfl, Nat.le_of_ble_eq_true rfl⟩, ⟨Nat.le_of_ble_eq_true rfl, Nat.le_of_ble_eq_true rfl⟩⟩ (sd_ifne dX7_behind_18 rfl (fun _ _ _ h => h) (sd_aload_n dX7_behind_21 rfl (sd_iconst dX7_behind_22 rfl (sd_inv1 dX7_behind_23 rfl mv_X7_refuse na_X7_refuse ml_RX7_58 ⟨⟨Nat.le_of_ble_eq_true rfl, Nat.le_of_ble_eq_true rfl⟩, ⟨Nat.le_of_ble_eq_true rfl, Nat.le_of_ble_eq_true rfl⟩⟩ (sd_iret dX7_behind_26 rfl (Nat.le_of_ble_eq_true rfl) (Nat.le_of_ble_eq_true rfl)))))))
def B_X7_behind_27 (X : Nat × (Nat → Int32)) (J : Nat → zCf) (R : zRt) : zCf := oALOAD 0 (oALOAD 0 (oGETR 7 1 (oILOAD 1 (oILOAD 2 (oILOAD 2 (oINS1 X M_X7_half (oINV3 X M_X4_cellBehind 4 (oINV1 X M_X7_answer 7 (oIRET R)))))))))
set_option maxRecDepth 100000 in
theorem vb_X7_behind_27 {X : Nat × (Nat → Int32)} {R : zRt} : ∀ ls st h, B_X7_behind_27 X (zV X M_X7_behind (zQm M_X7_behind R) 0 0) R ls st h → zV X M_X7_behind (zQm M_X7_behind R) 0 0 27 ls st h := sd_aload_n dX7_behind_27 rfl (sd_aload_n dX7_behind_28 rfl (sd_getr dX7_behind_29 zCl7 (Nat.le_of_ble_eq_true rfl) lk_RX7_19 (Or.inl ⟨_, rfl⟩) (sd_iload_n dX7_behind_32 rfl (sd_iload_n dX7_behind_33 rfl (sd_iload_n dX7_behind_34 rfl (sd_ins1 dX7_behind_35 ms_X7_half na_X7_half ml_RX7_154 ⟨⟨Nat.le_of_ble_eq_true rfl, Nat.le_of_ble_eq_true rfl⟩, ⟨Nat.le_of_ble_eq_true rfl, Nat.le_of_ble_eq_true rfl⟩⟩ (sd_inv3 dX7_behind_38 rfl mv_X4_cellBehind na_X4_cellBehind ml_RX7_107 ⟨⟨Nat.le_of_ble_eq_true rfl, Nat.le_of_ble_eq_true rfl⟩, ⟨Nat.le_of_ble_eq_true rfl, Nat.le_of_ble_eq_true rfl⟩⟩ (sd_inv1 dX7_behind_41 rfl mv_X7_answer na_X7_answer ml_RX7_85 ⟨⟨Nat.le_of_ble_eq_true rfl, Nat.le_of_ble_eq_true rfl⟩, ⟨Nat.le_of_ble_eq_true rfl, Nat.le_of_ble_eq_true rfl⟩⟩ (sd_iret dX7_behind_44 rfl (Nat.le_of_ble_eq_true rfl) (Nat.le_of_ble_eq_true rfl))))))))))
theorem dX7_topsBehind_0 : decode cX7_topsBehind 0 = .ok (.aload_n 0, 1) := by decide +kernel
theorem dX7_topsBehind_1 : decode cX7_topsBehind 1 = .ok (.invokevirtual 124, 3) := by decide +kernel
theorem dX7_topsBehind_4 : decode cX7_topsBehind 4 = .ok (.ifCond .eq 9, 3) := by decide +kernel
theorem dX7_topsBehind_7 : decode cX7_topsBehind 7 = .ok (.aload_n 0, 1) := by decide +kernel
theorem dX7_topsBehind_8 : decode cX7_topsBehind 8 = .ok (.iconst 1, 1) := by decide +kernel
theorem dX7_topsBehind_9 : decode cX7_topsBehind 9 = .ok (.invokevirtual 58, 3) := by decide +kernel
theorem dX7_topsBehind_12 : decode cX7_topsBehind 12 = .ok (.ireturn, 1) := by decide +kernel
theorem dX7_topsBehind_13 : decode cX7_topsBehind 13 = .ok (.iload_n 1, 1) := by decide +kernel
theorem dX7_topsBehind_14 : decode cX7_topsBehind 14 = .ok (.invokestatic 151, 3) := by decide +kernel
theorem dX7_topsBehind_17 : decode cX7_topsBehind 17 = .ok (.ifCond .ne 9, 3) := by decide +kernel
theorem dX7_topsBehind_20 : decode cX7_topsBehind 20 = .ok (.aload_n 0, 1) := by decide +kernel
theorem dX7_topsBehind_21 : decode cX7_topsBehind 21 = .ok (.iconst 2, 1) := by decide +kernel
theorem dX7_topsBehind_22 : decode cX7_topsBehind 22 = .ok (.invokevirtual 58, 3) := by decide +kernel
theorem dX7_topsBehind_25 : decode cX7_topsBehind 25 = .ok (.ireturn, 1) := by decide +kernel
theorem dX7_topsBehind_26 : decode cX7_topsBehind 26 = .ok (.aload_n 0, 1) := by decide +kernel
theorem dX7_topsBehind_27 : decode cX7_topsBehind 27 = .ok (.aload_n 0, 1) := by decide +kernel
theorem dX7_topsBehind_28 : decode cX7_topsBehind 28 = .ok (.getfield 19, 3) := by decide +kernel
theorem dX7_topsBehind_31 : decode cX7_topsBehind 31 = .ok (.iload_n 1, 1) := by decide +kernel
theorem dX7_topsBehind_32 : decode cX7_topsBehind 32 = .ok (.iload_n 1, 1) := by decide +kernel
theorem dX7_topsBehind_33 : decode cX7_topsBehind 33 = .ok (.invokestatic 154, 3) := by decide +kernel
theorem dX7_topsBehind_36 : decode cX7_topsBehind 36 = .ok (.invokevirtual 157, 3) := by decide +kernel
theorem dX7_topsBehind_39 : decode cX7_topsBehind 39 = .ok (.invokevirtual 85, 3) := by decide +kernel
theorem dX7_topsBehind_42 : decode cX7_topsBehind 42 = .ok (.ireturn, 1) := by decide +kernel
def B_X7_topsBehind_0 (X : Nat × (Nat → Int32)) (J : Nat → zCf) (R : zRt) : zCf := oALOAD 0 (oINV0 X M_X7_noTube 7 (oIFEQ (J 13) (oALOAD 0 (oPI (zj (1)) (oINV1 X M_X7_refuse 7 (oIRET R))))))
set_option maxRecDepth 100000 in
theorem vb_X7_topsBehind_0 {X : Nat × (Nat → Int32)} {R : zRt} : ∀ ls st h, B_X7_topsBehind_0 X (zV X M_X7_topsBehind (zQm M_X7_topsBehind R) 0 0) R ls st h → zV X M_X7_topsBehind (zQm M_X7_topsBehind R) 0 0 0 ls st h := sd_aload_n dX7_topsBehind_0 rfl (sd_inv0 dX7_topsBehind_1 rfl mv_X7_noTube na_X7_noTube ml_RX7_124 ⟨⟨Nat.le_of_ble_eq_true rfl, Nat.le_of_ble_eq_true rfl⟩, ⟨Nat.le_of_ble_eq_true rfl, Nat.le_of_ble_eq_true rfl⟩⟩ (sd_ifeq dX7_topsBehind_4 rfl (fun _ _ _ h => h) (sd_aload_n dX7_topsBehind_7 rfl (sd_iconst dX7_topsBehind_8 rfl (sd_inv1 dX7_topsBehind_9 rfl mv_X7_refuse na_X7_refuse ml_RX7_58 ⟨⟨Nat.le_of_ble_eq_true rfl, Nat.le_of_ble_eq_true rfl⟩, ⟨Nat.le_of_ble_eq_true rfl, Nat.le_of_ble_eq_true rfl⟩⟩ (sd_iret dX7_topsBehind_12 rfl (Nat.le_of_ble_eq_true rfl) (Nat.le_of_ble_eq_true rfl)))))))
def B_X7_topsBehind_13 (X : Nat × (Nat → Int32)) (J : Nat → zCf) (R : zRt) : zCf := oILOAD 1 (oINS1 X M_X7_isTurn (oIFNE (J 26) (oALOAD 0 (oPI (zj (2)) (oINV1 X M_X7_refuse 7 (oIRET R))))))
set_option maxRecDepth 100000 in
theorem vb_X7_topsBehind_13 {X : Nat × (Nat → Int32)} {R : zRt} : ∀ ls st h, B_X7_topsBehind_13 X (zV X M_X7_topsBehind (zQm M_X7_topsBehind R) 0 0) R ls st h → zV X M_X7_topsBehind (zQm M_X7_topsBehind R) 0 0 13 ls st h := sd_iload_n dX7_topsBehind_13 rfl (sd_ins1 dX7_topsBehind_14 ms_X7_isTurn na_X7_isTurn ml_RX7_151 ⟨⟨Nat.le_of_ble_eq_true rfl, Nat.le_of_ble_eq_true rfl⟩, ⟨Nat.le_of_ble_eq_true rfl, Nat.le_of_ble_eq_true rfl⟩⟩ (sd_ifne dX7_topsBehind_17 rfl (fun _ _ _ h => h) (sd_aload_n dX7_topsBehind_20 rfl (sd_iconst dX7_topsBehind_21 rfl (sd_inv1 dX7_topsBehind_22 rfl mv_X7_refuse na_X7_refuse ml_RX7_58 ⟨⟨Nat.le_of_ble_eq_true rfl, Nat.le_of_ble_eq_true rfl⟩, ⟨Nat.le_of_ble_eq_true rfl, Nat.le_of_ble_eq_true rfl⟩⟩ (sd_iret dX7_topsBehind_25 rfl (Nat.le_of_ble_eq_true rfl) (Nat.le_of_ble_eq_true rfl)))))))
def B_X7_topsBehind_26 (X : Nat × (Nat → Int32)) (J : Nat → zCf) (R : zRt) : zCf := oALOAD 0 (oALOAD 0 (oGETR 7 1 (oILOAD 1 (oILOAD 1 (oINS1 X M_X7_half (oINV2 X M_X4_topCount 4 (oINV1 X M_X7_answer 7 (oIRET R))))))))
set_option maxRecDepth 100000 in
theorem vb_X7_topsBehind_26 {X : Nat × (Nat → Int32)} {R : zRt} : ∀ ls st h, B_X7_topsBehind_26 X (zV X M_X7_topsBehind (zQm M_X7_topsBehind R) 0 0) R ls st h → zV X M_X7_topsBehind (zQm M_X7_topsBehind R) 0 0 26 ls st h := sd_aload_n dX7_topsBehind_26 rfl (sd_aload_n dX7_topsBehind_27 rfl (sd_getr dX7_topsBehind_28 zCl7 (Nat.le_of_ble_eq_true rfl) lk_RX7_19 (Or.inl ⟨_, rfl⟩) (sd_iload_n dX7_topsBehind_31 rfl (sd_iload_n dX7_topsBehind_32 rfl (sd_ins1 dX7_topsBehind_33 ms_X7_half na_X7_half ml_RX7_154 ⟨⟨Nat.le_of_ble_eq_true rfl, Nat.le_of_ble_eq_true rfl⟩, ⟨Nat.le_of_ble_eq_true rfl, Nat.le_of_ble_eq_true rfl⟩⟩ (sd_inv2 dX7_topsBehind_36 rfl mv_X4_topCount na_X4_topCount ml_RX7_157 ⟨⟨Nat.le_of_ble_eq_true rfl, Nat.le_of_ble_eq_true rfl⟩, ⟨Nat.le_of_ble_eq_true rfl, Nat.le_of_ble_eq_true rfl⟩⟩ (sd_inv1 dX7_topsBehind_39 rfl mv_X7_answer na_X7_answer ml_RX7_85 ⟨⟨Nat.le_of_ble_eq_true rfl, Nat.le_of_ble_eq_true rfl⟩, ⟨Nat.le_of_ble_eq_true rfl, Nat.le_of_ble_eq_true rfl⟩⟩ (sd_iret dX7_topsBehind_42 rfl (Nat.le_of_ble_eq_true rfl) (Nat.le_of_ble_eq_true rfl)))))))))
theorem dX7_twins_0 : decode cX7_twins 0 = .ok (.aload_n 0, 1) := by decide +kernel
theorem dX7_twins_1 : decode cX7_twins 1 = .ok (.invokevirtual 124, 3) := by decide +kernel
theorem dX7_twins_4 : decode cX7_twins 4 = .ok (.ifCond .eq 9, 3) := by decide +kernel
theorem dX7_twins_7 : decode cX7_twins 7 = .ok (.aload_n 0, 1) := by decide +kernel
theorem dX7_twins_8 : decode cX7_twins 8 = .ok (.iconst 1, 1) := by decide +kernel
theorem dX7_twins_9 : decode cX7_twins 9 = .ok (.invokevirtual 58, 3) := by decide +kernel
theorem dX7_twins_12 : decode cX7_twins 12 = .ok (.ireturn, 1) := by decide +kernel
theorem dX7_twins_13 : decode cX7_twins 13 = .ok (.aload_n 0, 1) := by decide +kernel
theorem dX7_twins_14 : decode cX7_twins 14 = .ok (.aload_n 0, 1) := by decide +kernel
theorem dX7_twins_15 : decode cX7_twins 15 = .ok (.getfield 19, 3) := by decide +kernel
theorem dX7_twins_18 : decode cX7_twins 18 = .ok (.getfield 77, 3) := by decide +kernel
theorem dX7_twins_21 : decode cX7_twins 21 = .ok (.invokevirtual 160, 3) := by decide +kernel
theorem dX7_twins_24 : decode cX7_twins 24 = .ok (.invokevirtual 85, 3) := by decide +kernel
theorem dX7_twins_27 : decode cX7_twins 27 = .ok (.ireturn, 1) := by decide +kernel
def B_X7_twins_0 (X : Nat × (Nat → Int32)) (J : Nat → zCf) (R : zRt) : zCf := oALOAD 0 (oINV0 X M_X7_noTube 7 (oIFEQ (J 13) (oALOAD 0 (oPI (zj (1)) (oINV1 X M_X7_refuse 7 (oIRET R))))))
set_option maxRecDepth 100000 in
theorem vb_X7_twins_0 {X : Nat × (Nat → Int32)} {R : zRt} : ∀ ls st h, B_X7_twins_0 X (zV X M_X7_twins (zQm M_X7_twins R) 0 0) R ls st h → zV X M_X7_twins (zQm M_X7_twins R) 0 0 0 ls st h := sd_aload_n dX7_twins_0 rfl (sd_inv0 dX7_twins_1 rfl mv_X7_noTube na_X7_noTube ml_RX7_124 ⟨⟨Nat.le_of_ble_eq_true rfl, Nat.le_of_ble_eq_true rfl⟩, ⟨Nat.le_of_ble_eq_true rfl, Nat.le_of_ble_eq_true rfl⟩⟩ (sd_ifeq dX7_twins_4 rfl (fun _ _ _ h => h) (sd_aload_n dX7_twins_7 rfl (sd_iconst dX7_twins_8 rfl (sd_inv1 dX7_twins_9 rfl mv_X7_refuse na_X7_refuse ml_RX7_58 ⟨⟨Nat.le_of_ble_eq_true rfl, Nat.le_of_ble_eq_true rfl⟩, ⟨Nat.le_of_ble_eq_true rfl, Nat.le_of_ble_eq_true rfl⟩⟩ (sd_iret dX7_twins_12 rfl (Nat.le_of_ble_eq_true rfl) (Nat.le_of_ble_eq_true rfl)))))))
def B_X7_twins_13 (X : Nat × (Nat → Int32)) (J : Nat → zCf) (R : zRt) : zCf := oALOAD 0 (oALOAD 0 (oGETR 7 1 (oGETR 4 0 (oINV0 X M_X1_firstTwins 1 (oINV1 X M_X7_answer 7 (oIRET R))))))
set_option maxRecDepth 100000 in
theorem vb_X7_twins_13 {X : Nat × (Nat → Int32)} {R : zRt} : ∀ ls st h, B_X7_twins_13 X (zV X M_X7_twins (zQm M_X7_twins R) 0 0) R ls st h → zV X M_X7_twins (zQm M_X7_twins R) 0 0 13 ls st h := sd_aload_n dX7_twins_13 rfl (sd_aload_n dX7_twins_14 rfl (sd_getr dX7_twins_15 zCl7 (Nat.le_of_ble_eq_true rfl) lk_RX7_19 (Or.inl ⟨_, rfl⟩) (sd_getr dX7_twins_18 zCl4 (Nat.le_of_ble_eq_true rfl) lk_RX7_77 (Or.inl ⟨_, rfl⟩) (sd_inv0 dX7_twins_21 rfl mv_X1_firstTwins na_X1_firstTwins ml_RX7_160 ⟨⟨Nat.le_of_ble_eq_true rfl, Nat.le_of_ble_eq_true rfl⟩, ⟨Nat.le_of_ble_eq_true rfl, Nat.le_of_ble_eq_true rfl⟩⟩ (sd_inv1 dX7_twins_24 rfl mv_X7_answer na_X7_answer ml_RX7_85 ⟨⟨Nat.le_of_ble_eq_true rfl, Nat.le_of_ble_eq_true rfl⟩, ⟨Nat.le_of_ble_eq_true rfl, Nat.le_of_ble_eq_true rfl⟩⟩ (sd_iret dX7_twins_27 rfl (Nat.le_of_ble_eq_true rfl) (Nat.le_of_ble_eq_true rfl)))))))
theorem dX7_mostTops_0 : decode cX7_mostTops 0 = .ok (.aload_n 0, 1) := by decide +kernel
theorem dX7_mostTops_1 : decode cX7_mostTops 1 = .ok (.invokevirtual 124, 3) := by decide +kernel
theorem dX7_mostTops_4 : decode cX7_mostTops 4 = .ok (.ifCond .eq 9, 3) := by decide +kernel
theorem dX7_mostTops_7 : decode cX7_mostTops 7 = .ok (.aload_n 0, 1) := by decide +kernel
theorem dX7_mostTops_8 : decode cX7_mostTops 8 = .ok (.iconst 1, 1) := by decide +kernel
theorem dX7_mostTops_9 : decode cX7_mostTops 9 = .ok (.invokevirtual 58, 3) := by decide +kernel
theorem dX7_mostTops_12 : decode cX7_mostTops 12 = .ok (.ireturn, 1) := by decide +kernel
theorem dX7_mostTops_13 : decode cX7_mostTops 13 = .ok (.bipush (-6), 2) := by decide +kernel
theorem dX7_mostTops_15 : decode cX7_mostTops 15 = .ok (.istore_n 1, 1) := by decide +kernel
theorem dX7_mostTops_16 : decode cX7_mostTops 16 = .ok (.iconst (-1), 1) := by decide +kernel
theorem dX7_mostTops_17 : decode cX7_mostTops 17 = .ok (.istore_n 2, 1) := by decide +kernel
theorem dX7_mostTops_18 : decode cX7_mostTops 18 = .ok (.bipush (-6), 2) := by decide +kernel
theorem dX7_mostTops_20 : decode cX7_mostTops 20 = .ok (.istore_n 3, 1) := by decide +kernel
theorem dX7_mostTops_21 : decode cX7_mostTops 21 = .ok (.iload_n 3, 1) := by decide +kernel
theorem dX7_mostTops_22 : decode cX7_mostTops 22 = .ok (.bipush 6, 2) := by decide +kernel
theorem dX7_mostTops_24 : decode cX7_mostTops 24 = .ok (.if_icmp .gt 34, 3) := by decide +kernel
theorem dX7_mostTops_27 : decode cX7_mostTops 27 = .ok (.aload_n 0, 1) := by decide +kernel
theorem dX7_mostTops_28 : decode cX7_mostTops 28 = .ok (.getfield 19, 3) := by decide +kernel
theorem dX7_mostTops_31 : decode cX7_mostTops 31 = .ok (.iload_n 3, 1) := by decide +kernel
theorem dX7_mostTops_32 : decode cX7_mostTops 32 = .ok (.iload_n 3, 1) := by decide +kernel
theorem dX7_mostTops_33 : decode cX7_mostTops 33 = .ok (.invokestatic 154, 3) := by decide +kernel
theorem dX7_mostTops_36 : decode cX7_mostTops 36 = .ok (.invokevirtual 157, 3) := by decide +kernel
theorem dX7_mostTops_39 : decode cX7_mostTops 39 = .ok (.istore 4, 2) := by decide +kernel
theorem dX7_mostTops_41 : decode cX7_mostTops 41 = .ok (.iload 4, 2) := by decide +kernel
theorem dX7_mostTops_43 : decode cX7_mostTops 43 = .ok (.iload_n 2, 1) := by decide +kernel
theorem dX7_mostTops_44 : decode cX7_mostTops 44 = .ok (.if_icmp .le 8, 3) := by decide +kernel
theorem dX7_mostTops_47 : decode cX7_mostTops 47 = .ok (.iload 4, 2) := by decide +kernel
theorem dX7_mostTops_49 : decode cX7_mostTops 49 = .ok (.istore_n 2, 1) := by decide +kernel
theorem dX7_mostTops_50 : decode cX7_mostTops 50 = .ok (.iload_n 3, 1) := by decide +kernel
theorem dX7_mostTops_51 : decode cX7_mostTops 51 = .ok (.istore_n 1, 1) := by decide +kernel
theorem dX7_mostTops_52 : decode cX7_mostTops 52 = .ok (.iinc 3 1, 3) := by decide +kernel
theorem dX7_mostTops_55 : decode cX7_mostTops 55 = .ok (.goto (-34), 3) := by decide +kernel
theorem dX7_mostTops_58 : decode cX7_mostTops 58 = .ok (.aload_n 0, 1) := by decide +kernel
theorem dX7_mostTops_59 : decode cX7_mostTops 59 = .ok (.iload_n 1, 1) := by decide +kernel
theorem dX7_mostTops_60 : decode cX7_mostTops 60 = .ok (.bipush 6, 2) := by decide +kernel
theorem dX7_mostTops_62 : decode cX7_mostTops 62 = .ok (.iadd, 1) := by decide +kernel
theorem dX7_mostTops_63 : decode cX7_mostTops 63 = .ok (.invokevirtual 85, 3) := by decide +kernel
theorem dX7_mostTops_66 : decode cX7_mostTops 66 = .ok (.ireturn, 1) := by decide +kernel
def B_X7_mostTops_0 (X : Nat × (Nat → Int32)) (J : Nat → zCf) (R : zRt) : zCf := oALOAD 0 (oINV0 X M_X7_noTube 7 (oIFEQ (J 13) (oALOAD 0 (oPI (zj (1)) (oINV1 X M_X7_refuse 7 (oIRET R))))))
set_option maxRecDepth 100000 in
theorem vb_X7_mostTops_0 {X : Nat × (Nat → Int32)} {R : zRt} : ∀ ls st h, B_X7_mostTops_0 X (zV X M_X7_mostTops (zQm M_X7_mostTops R) 0 0) R ls st h → zV X M_X7_mostTops (zQm M_X7_mostTops R) 0 0 0 ls st h := sd_aload_n dX7_mostTops_0 rfl (sd_inv0 dX7_mostTops_1 rfl mv_X7_noTube na_X7_noTube ml_RX7_124 ⟨⟨Nat.le_of_ble_eq_true rfl, Nat.le_of_ble_eq_true rfl⟩, ⟨Nat.le_of_ble_eq_true rfl, Nat.le_of_ble_eq_true rfl⟩⟩ (sd_ifeq dX7_mostTops_4 rfl (fun _ _ _ h => h) (sd_aload_n dX7_mostTops_7 rfl (sd_iconst dX7_mostTops_8 rfl (sd_inv1 dX7_mostTops_9 rfl mv_X7_refuse na_X7_refuse ml_RX7_58 ⟨⟨Nat.le_of_ble_eq_true rfl, Nat.le_of_ble_eq_true rfl⟩, ⟨Nat.le_of_ble_eq_true rfl, Nat.le_of_ble_eq_true rfl⟩⟩ (sd_iret dX7_mostTops_12 rfl (Nat.le_of_ble_eq_true rfl) (Nat.le_of_ble_eq_true rfl)))))))
def B_X7_mostTops_13 (X : Nat × (Nat → Int32)) (J : Nat → zCf) (R : zRt) : zCf := oPI (zj (-6)) (oISTORE 0 1 (oPI (zj (-1)) (oISTORE 1 2 (oPI (zj (-6)) (oISTORE 2 3 (J 21))))))
set_option maxRecDepth 100000 in
theorem vb_X7_mostTops_13 {X : Nat × (Nat → Int32)} {R : zRt} : ∀ ls st h, B_X7_mostTops_13 X (zV X M_X7_mostTops (zQm M_X7_mostTops R) 0 0) R ls st h → zV X M_X7_mostTops (zQm M_X7_mostTops R) 0 0 13 ls st h := sd_bipush dX7_mostTops_13 rfl (sd_istore_n dX7_mostTops_15 rfl (Nat.le_of_ble_eq_true rfl) (Or.inl rfl) (sd_iconst dX7_mostTops_16 rfl (sd_istore_n dX7_mostTops_17 rfl (Nat.le_of_ble_eq_true rfl) (Or.inl rfl) (sd_bipush dX7_mostTops_18 rfl (sd_istore_n dX7_mostTops_20 rfl (Nat.le_of_ble_eq_true rfl) (Or.inl rfl) (fun _ _ _ h => h))))))
def B_X7_mostTops_21 (X : Nat × (Nat → Int32)) (J : Nat → zCf) (R : zRt) : zCf := oILOAD 3 (oPI (zj (6)) (oICGT (J 58) (oALOAD 0 (oGETR 7 1 (oILOAD 3 (oILOAD 3 (oINS1 X M_X7_half (oINV2 X M_X4_topCount 4 (oISTORE 3 4 (oILOAD 4 (oILOAD 2 (oICLE (J 52) (oILOAD 4 (oISTORE 1 2 (oILOAD 3 (oISTORE 0 1 (J 52)))))))))))))))))
set_option maxRecDepth 100000 in
theorem vb_X7_mostTops_21 {X : Nat × (Nat → Int32)} {R : zRt} : ∀ ls st h, B_X7_mostTops_21 X (zV X M_X7_mostTops (zQm M_X7_mostTops R) 0 0) R ls st h → zV X M_X7_mostTops (zQm M_X7_mostTops R) 0 0 21 ls st h := sd_iload_n dX7_mostTops_21 rfl (sd_bipush dX7_mostTops_22 rfl (sd_icgt dX7_mostTops_24 rfl (fun _ _ _ h => h) (sd_aload_n dX7_mostTops_27 rfl (sd_getr dX7_mostTops_28 zCl7 (Nat.le_of_ble_eq_true rfl) lk_RX7_19 (Or.inl ⟨_, rfl⟩) (sd_iload_n dX7_mostTops_31 rfl (sd_iload_n dX7_mostTops_32 rfl (sd_ins1 dX7_mostTops_33 ms_X7_half na_X7_half ml_RX7_154 ⟨⟨Nat.le_of_ble_eq_true rfl, Nat.le_of_ble_eq_true rfl⟩, ⟨Nat.le_of_ble_eq_true rfl, Nat.le_of_ble_eq_true rfl⟩⟩ (sd_inv2 dX7_mostTops_36 rfl mv_X4_topCount na_X4_topCount ml_RX7_157 ⟨⟨Nat.le_of_ble_eq_true rfl, Nat.le_of_ble_eq_true rfl⟩, ⟨Nat.le_of_ble_eq_true rfl, Nat.le_of_ble_eq_true rfl⟩⟩ (sd_istore dX7_mostTops_39 (Nat.le_of_ble_eq_true rfl) (Or.inl rfl) (sd_iload dX7_mostTops_41 (sd_iload_n dX7_mostTops_43 rfl (sd_icle dX7_mostTops_44 rfl (fun _ _ _ h => h) (sd_iload dX7_mostTops_47 (sd_istore_n dX7_mostTops_49 rfl (Nat.le_of_ble_eq_true rfl) (Or.inl rfl) (sd_iload_n dX7_mostTops_50 rfl (sd_istore_n dX7_mostTops_51 rfl (Nat.le_of_ble_eq_true rfl) (Or.inl rfl) (fun _ _ _ h => h)))))))))))))))))
def B_X7_mostTops_52 (X : Nat × (Nat → Int32)) (J : Nat → zCf) (R : zRt) : zCf := oIINC 2 3 (zj (1)) (J 21)
set_option maxRecDepth 100000 in
theorem vb_X7_mostTops_52 {X : Nat × (Nat → Int32)} {R : zRt} : ∀ ls st h, B_X7_mostTops_52 X (zV X M_X7_mostTops (zQm M_X7_mostTops R) 0 0) R ls st h → zV X M_X7_mostTops (zQm M_X7_mostTops R) 0 0 52 ls st h := sd_iinc dX7_mostTops_52 rfl (Nat.le_of_ble_eq_true rfl) (Or.inl rfl) (sd_goto dX7_mostTops_55 rfl (fun _ _ _ h => h))
def B_X7_mostTops_58 (X : Nat × (Nat → Int32)) (J : Nat → zCf) (R : zRt) : zCf := oALOAD 0 (oILOAD 1 (oPI (zj (6)) (oIADD (oINV1 X M_X7_answer 7 (oIRET R)))))
set_option maxRecDepth 100000 in
theorem vb_X7_mostTops_58 {X : Nat × (Nat → Int32)} {R : zRt} : ∀ ls st h, B_X7_mostTops_58 X (zV X M_X7_mostTops (zQm M_X7_mostTops R) 0 0) R ls st h → zV X M_X7_mostTops (zQm M_X7_mostTops R) 0 0 58 ls st h := sd_aload_n dX7_mostTops_58 rfl (sd_iload_n dX7_mostTops_59 rfl (sd_bipush dX7_mostTops_60 rfl (sd_iadd dX7_mostTops_62 (sd_inv1 dX7_mostTops_63 rfl mv_X7_answer na_X7_answer ml_RX7_85 ⟨⟨Nat.le_of_ble_eq_true rfl, Nat.le_of_ble_eq_true rfl⟩, ⟨Nat.le_of_ble_eq_true rfl, Nat.le_of_ble_eq_true rfl⟩⟩ (sd_iret dX7_mostTops_66 rfl (Nat.le_of_ble_eq_true rfl) (Nat.le_of_ble_eq_true rfl))))))
theorem dX7_right_0 : decode cX7_right 0 = .ok (.aload_n 0, 1) := by decide +kernel
theorem dX7_right_1 : decode cX7_right 1 = .ok (.invokevirtual 124, 3) := by decide +kernel
theorem dX7_right_4 : decode cX7_right 4 = .ok (.ifCond .eq 9, 3) := by decide +kernel
theorem dX7_right_7 : decode cX7_right 7 = .ok (.aload_n 0, 1) := by decide +kernel
theorem dX7_right_8 : decode cX7_right 8 = .ok (.iconst 1, 1) := by decide +kernel
theorem dX7_right_9 : decode cX7_right 9 = .ok (.invokevirtual 58, 3) := by decide +kernel
theorem dX7_right_12 : decode cX7_right 12 = .ok (.ireturn, 1) := by decide +kernel
theorem dX7_right_13 : decode cX7_right 13 = .ok (.aload_n 0, 1) := by decide +kernel
theorem dX7_right_14 : decode cX7_right 14 = .ok (.aload_n 0, 1) := by decide +kernel
theorem dX7_right_15 : decode cX7_right 15 = .ok (.getfield 19, 3) := by decide +kernel
theorem dX7_right_18 : decode cX7_right 18 = .ok (.iconst 0, 1) := by decide +kernel
theorem dX7_right_19 : decode cX7_right 19 = .ok (.iconst 0, 1) := by decide +kernel
theorem dX7_right_20 : decode cX7_right 20 = .ok (.invokevirtual 163, 3) := by decide +kernel
theorem dX7_right_23 : decode cX7_right 23 = .ok (.invokevirtual 85, 3) := by decide +kernel
theorem dX7_right_26 : decode cX7_right 26 = .ok (.ireturn, 1) := by decide +kernel
def B_X7_right_0 (X : Nat × (Nat → Int32)) (J : Nat → zCf) (R : zRt) : zCf := oALOAD 0 (oINV0 X M_X7_noTube 7 (oIFEQ (J 13) (oALOAD 0 (oPI (zj (1)) (oINV1 X M_X7_refuse 7 (oIRET R))))))
set_option maxRecDepth 100000 in
theorem vb_X7_right_0 {X : Nat × (Nat → Int32)} {R : zRt} : ∀ ls st h, B_X7_right_0 X (zV X M_X7_right (zQm M_X7_right R) 0 0) R ls st h → zV X M_X7_right (zQm M_X7_right R) 0 0 0 ls st h := sd_aload_n dX7_right_0 rfl (sd_inv0 dX7_right_1 rfl mv_X7_noTube na_X7_noTube ml_RX7_124 ⟨⟨Nat.le_of_ble_eq_true rfl, Nat.le_of_ble_eq_true rfl⟩, ⟨Nat.le_of_ble_eq_true rfl, Nat.le_of_ble_eq_true rfl⟩⟩ (sd_ifeq dX7_right_4 rfl (fun _ _ _ h => h) (sd_aload_n dX7_right_7 rfl (sd_iconst dX7_right_8 rfl (sd_inv1 dX7_right_9 rfl mv_X7_refuse na_X7_refuse ml_RX7_58 ⟨⟨Nat.le_of_ble_eq_true rfl, Nat.le_of_ble_eq_true rfl⟩, ⟨Nat.le_of_ble_eq_true rfl, Nat.le_of_ble_eq_true rfl⟩⟩ (sd_iret dX7_right_12 rfl (Nat.le_of_ble_eq_true rfl) (Nat.le_of_ble_eq_true rfl)))))))
def B_X7_right_13 (X : Nat × (Nat → Int32)) (J : Nat → zCf) (R : zRt) : zCf := oALOAD 0 (oALOAD 0 (oGETR 7 1 (oPI (zj (0)) (oPI (zj (0)) (oINV2 X M_X4_rightBits 4 (oINV1 X M_X7_answer 7 (oIRET R)))))))
set_option maxRecDepth 100000 in
theorem vb_X7_right_13 {X : Nat × (Nat → Int32)} {R : zRt} : ∀ ls st h, B_X7_right_13 X (zV X M_X7_right (zQm M_X7_right R) 0 0) R ls st h → zV X M_X7_right (zQm M_X7_right R) 0 0 13 ls st h := sd_aload_n dX7_right_13 rfl (sd_aload_n dX7_right_14 rfl (sd_getr dX7_right_15 zCl7 (Nat.le_of_ble_eq_true rfl) lk_RX7_19 (Or.inl ⟨_, rfl⟩) (sd_iconst dX7_right_18 rfl (sd_iconst dX7_right_19 rfl (sd_inv2 dX7_right_20 rfl mv_X4_rightBits na_X4_rightBits ml_RX7_163 ⟨⟨Nat.le_of_ble_eq_true rfl, Nat.le_of_ble_eq_true rfl⟩, ⟨Nat.le_of_ble_eq_true rfl, Nat.le_of_ble_eq_true rfl⟩⟩ (sd_inv1 dX7_right_23 rfl mv_X7_answer na_X7_answer ml_RX7_85 ⟨⟨Nat.le_of_ble_eq_true rfl, Nat.le_of_ble_eq_true rfl⟩, ⟨Nat.le_of_ble_eq_true rfl, Nat.le_of_ble_eq_true rfl⟩⟩ (sd_iret dX7_right_26 rfl (Nat.le_of_ble_eq_true rfl) (Nat.le_of_ble_eq_true rfl))))))))
theorem dX7_turnsTo_0 : decode cX7_turnsTo 0 = .ok (.aload_n 0, 1) := by decide +kernel
theorem dX7_turnsTo_1 : decode cX7_turnsTo 1 = .ok (.invokevirtual 124, 3) := by decide +kernel
theorem dX7_turnsTo_4 : decode cX7_turnsTo 4 = .ok (.ifCond .eq 9, 3) := by decide +kernel
theorem dX7_turnsTo_7 : decode cX7_turnsTo 7 = .ok (.aload_n 0, 1) := by decide +kernel
theorem dX7_turnsTo_8 : decode cX7_turnsTo 8 = .ok (.iconst 1, 1) := by decide +kernel
theorem dX7_turnsTo_9 : decode cX7_turnsTo 9 = .ok (.invokevirtual 58, 3) := by decide +kernel
theorem dX7_turnsTo_12 : decode cX7_turnsTo 12 = .ok (.ireturn, 1) := by decide +kernel
theorem dX7_turnsTo_13 : decode cX7_turnsTo 13 = .ok (.aload_n 0, 1) := by decide +kernel
theorem dX7_turnsTo_14 : decode cX7_turnsTo 14 = .ok (.iconst 0, 1) := by decide +kernel
theorem dX7_turnsTo_15 : decode cX7_turnsTo 15 = .ok (.invokevirtual 166, 3) := by decide +kernel
theorem dX7_turnsTo_18 : decode cX7_turnsTo 18 = .ok (.aload_n 0, 1) := by decide +kernel
theorem dX7_turnsTo_19 : decode cX7_turnsTo 19 = .ok (.aload_n 0, 1) := by decide +kernel
theorem dX7_turnsTo_20 : decode cX7_turnsTo 20 = .ok (.getfield 33, 3) := by decide +kernel
theorem dX7_turnsTo_23 : decode cX7_turnsTo 23 = .ok (.iconst 5, 1) := by decide +kernel
theorem dX7_turnsTo_24 : decode cX7_turnsTo 24 = .ok (.invokevirtual 169, 3) := by decide +kernel
theorem dX7_turnsTo_27 : decode cX7_turnsTo 27 = .ok (.invokevirtual 85, 3) := by decide +kernel
theorem dX7_turnsTo_30 : decode cX7_turnsTo 30 = .ok (.ireturn, 1) := by decide +kernel
def B_X7_turnsTo_0 (X : Nat × (Nat → Int32)) (J : Nat → zCf) (R : zRt) : zCf := oALOAD 0 (oINV0 X M_X7_noTube 7 (oIFEQ (J 13) (oALOAD 0 (oPI (zj (1)) (oINV1 X M_X7_refuse 7 (oIRET R))))))
set_option maxRecDepth 100000 in
theorem vb_X7_turnsTo_0 {X : Nat × (Nat → Int32)} {R : zRt} : ∀ ls st h, B_X7_turnsTo_0 X (zV X M_X7_turnsTo (zQm M_X7_turnsTo R) 0 0) R ls st h → zV X M_X7_turnsTo (zQm M_X7_turnsTo R) 0 0 0 ls st h := sd_aload_n dX7_turnsTo_0 rfl (sd_inv0 dX7_turnsTo_1 rfl mv_X7_noTube na_X7_noTube ml_RX7_124 ⟨⟨Nat.le_of_ble_eq_true rfl, Nat.le_of_ble_eq_true rfl⟩, ⟨Nat.le_of_ble_eq_true rfl, Nat.le_of_ble_eq_true rfl⟩⟩ (sd_ifeq dX7_turnsTo_4 rfl (fun _ _ _ h => h) (sd_aload_n dX7_turnsTo_7 rfl (sd_iconst dX7_turnsTo_8 rfl (sd_inv1 dX7_turnsTo_9 rfl mv_X7_refuse na_X7_refuse ml_RX7_58 ⟨⟨Nat.le_of_ble_eq_true rfl, Nat.le_of_ble_eq_true rfl⟩, ⟨Nat.le_of_ble_eq_true rfl, Nat.le_of_ble_eq_true rfl⟩⟩ (sd_iret dX7_turnsTo_12 rfl (Nat.le_of_ble_eq_true rfl) (Nat.le_of_ble_eq_true rfl)))))))
def B_X7_turnsTo_13 (X : Nat × (Nat → Int32)) (J : Nat → zCf) (R : zRt) : zCf := oALOAD 0 (oPI (zj (0)) (oINV1 X M_X7_aimAt 7 (oALOAD 0 (oALOAD 0 (oGETR 7 3 (oPI (zj (5)) (oINV1 X M_X3_fewestTurns 3 (oINV1 X M_X7_answer 7 (oIRET R)))))))))
set_option maxRecDepth 100000 in
theorem vb_X7_turnsTo_13 {X : Nat × (Nat → Int32)} {R : zRt} : ∀ ls st h, B_X7_turnsTo_13 X (zV X M_X7_turnsTo (zQm M_X7_turnsTo R) 0 0) R ls st h → zV X M_X7_turnsTo (zQm M_X7_turnsTo R) 0 0 13 ls st h := sd_aload_n dX7_turnsTo_13 rfl (sd_iconst dX7_turnsTo_14 rfl (sd_inv1 dX7_turnsTo_15 rfl mv_X7_aimAt na_X7_aimAt ml_RX7_166 ⟨⟨Nat.le_of_ble_eq_true rfl, Nat.le_of_ble_eq_true rfl⟩, ⟨Nat.le_of_ble_eq_true rfl, Nat.le_of_ble_eq_true rfl⟩⟩ (sd_aload_n dX7_turnsTo_18 rfl (sd_aload_n dX7_turnsTo_19 rfl (sd_getr dX7_turnsTo_20 zCl7 (Nat.le_of_ble_eq_true rfl) lk_RX7_33 (Or.inl ⟨_, rfl⟩) (sd_iconst dX7_turnsTo_23 rfl (sd_inv1 dX7_turnsTo_24 rfl mv_X3_fewestTurns na_X3_fewestTurns ml_RX7_169 ⟨⟨Nat.le_of_ble_eq_true rfl, Nat.le_of_ble_eq_true rfl⟩, ⟨Nat.le_of_ble_eq_true rfl, Nat.le_of_ble_eq_true rfl⟩⟩ (sd_inv1 dX7_turnsTo_27 rfl mv_X7_answer na_X7_answer ml_RX7_85 ⟨⟨Nat.le_of_ble_eq_true rfl, Nat.le_of_ble_eq_true rfl⟩, ⟨Nat.le_of_ble_eq_true rfl, Nat.le_of_ble_eq_true rfl⟩⟩ (sd_iret dX7_turnsTo_30 rfl (Nat.le_of_ble_eq_true rfl) (Nat.le_of_ble_eq_true rfl))))))))))
theorem dX7_turnAt_0 : decode cX7_turnAt 0 = .ok (.aload_n 0, 1) := by decide +kernel
theorem dX7_turnAt_1 : decode cX7_turnAt 1 = .ok (.invokevirtual 124, 3) := by decide +kernel
theorem dX7_turnAt_4 : decode cX7_turnAt 4 = .ok (.ifCond .eq 9, 3) := by decide +kernel
theorem dX7_turnAt_7 : decode cX7_turnAt 7 = .ok (.aload_n 0, 1) := by decide +kernel
theorem dX7_turnAt_8 : decode cX7_turnAt 8 = .ok (.iconst 1, 1) := by decide +kernel
theorem dX7_turnAt_9 : decode cX7_turnAt 9 = .ok (.invokevirtual 58, 3) := by decide +kernel
theorem dX7_turnAt_12 : decode cX7_turnAt 12 = .ok (.ireturn, 1) := by decide +kernel
theorem dX7_turnAt_13 : decode cX7_turnAt 13 = .ok (.aload_n 0, 1) := by decide +kernel
theorem dX7_turnAt_14 : decode cX7_turnAt 14 = .ok (.iconst 0, 1) := by decide +kernel
theorem dX7_turnAt_15 : decode cX7_turnAt 15 = .ok (.invokevirtual 166, 3) := by decide +kernel
theorem dX7_turnAt_18 : decode cX7_turnAt 18 = .ok (.aload_n 0, 1) := by decide +kernel
theorem dX7_turnAt_19 : decode cX7_turnAt 19 = .ok (.getfield 33, 3) := by decide +kernel
theorem dX7_turnAt_22 : decode cX7_turnAt 22 = .ok (.iconst 5, 1) := by decide +kernel
theorem dX7_turnAt_23 : decode cX7_turnAt 23 = .ok (.invokevirtual 169, 3) := by decide +kernel
theorem dX7_turnAt_26 : decode cX7_turnAt 26 = .ok (.istore_n 2, 1) := by decide +kernel
theorem dX7_turnAt_27 : decode cX7_turnAt 27 = .ok (.iload_n 2, 1) := by decide +kernel
theorem dX7_turnAt_28 : decode cX7_turnAt 28 = .ok (.bipush (-2), 2) := by decide +kernel
theorem dX7_turnAt_30 : decode cX7_turnAt 30 = .ok (.if_icmp .ne 10, 3) := by decide +kernel
theorem dX7_turnAt_33 : decode cX7_turnAt 33 = .ok (.aload_n 0, 1) := by decide +kernel
theorem dX7_turnAt_34 : decode cX7_turnAt 34 = .ok (.bipush 6, 2) := by decide +kernel
theorem dX7_turnAt_36 : decode cX7_turnAt 36 = .ok (.invokevirtual 58, 3) := by decide +kernel
theorem dX7_turnAt_39 : decode cX7_turnAt 39 = .ok (.ireturn, 1) := by decide +kernel
theorem dX7_turnAt_40 : decode cX7_turnAt 40 = .ok (.iload_n 1, 1) := by decide +kernel
theorem dX7_turnAt_41 : decode cX7_turnAt 41 = .ok (.ifCond .lt 8, 3) := by decide +kernel
theorem dX7_turnAt_44 : decode cX7_turnAt 44 = .ok (.iload_n 1, 1) := by decide +kernel
theorem dX7_turnAt_45 : decode cX7_turnAt 45 = .ok (.iload_n 2, 1) := by decide +kernel
theorem dX7_turnAt_46 : decode cX7_turnAt 46 = .ok (.if_icmp .lt 9, 3) := by decide +kernel
theorem dX7_turnAt_49 : decode cX7_turnAt 49 = .ok (.aload_n 0, 1) := by decide +kernel
theorem dX7_turnAt_50 : decode cX7_turnAt 50 = .ok (.iconst 1, 1) := by decide +kernel
theorem dX7_turnAt_51 : decode cX7_turnAt 51 = .ok (.invokevirtual 58, 3) := by decide +kernel
theorem dX7_turnAt_54 : decode cX7_turnAt 54 = .ok (.ireturn, 1) := by decide +kernel
theorem dX7_turnAt_55 : decode cX7_turnAt 55 = .ok (.aload_n 0, 1) := by decide +kernel
theorem dX7_turnAt_56 : decode cX7_turnAt 56 = .ok (.getfield 33, 3) := by decide +kernel
theorem dX7_turnAt_59 : decode cX7_turnAt 59 = .ok (.iload_n 2, 1) := by decide +kernel
theorem dX7_turnAt_60 : decode cX7_turnAt 60 = .ok (.iconst 0, 1) := by decide +kernel
theorem dX7_turnAt_61 : decode cX7_turnAt 61 = .ok (.invokevirtual 172, 3) := by decide +kernel
theorem dX7_turnAt_64 : decode cX7_turnAt 64 = .ok (.istore_n 3, 1) := by decide +kernel
theorem dX7_turnAt_65 : decode cX7_turnAt 65 = .ok (.iload_n 1, 1) := by decide +kernel
theorem dX7_turnAt_66 : decode cX7_turnAt 66 = .ok (.iconst 1, 1) := by decide +kernel
theorem dX7_turnAt_67 : decode cX7_turnAt 67 = .ok (.iadd, 1) := by decide +kernel
theorem dX7_turnAt_68 : decode cX7_turnAt 68 = .ok (.istore 4, 2) := by decide +kernel
theorem dX7_turnAt_70 : decode cX7_turnAt 70 = .ok (.iload 4, 2) := by decide +kernel
theorem dX7_turnAt_72 : decode cX7_turnAt 72 = .ok (.iload_n 2, 1) := by decide +kernel
theorem dX7_turnAt_73 : decode cX7_turnAt 73 = .ok (.if_icmp .ge 14, 3) := by decide +kernel
theorem dX7_turnAt_76 : decode cX7_turnAt 76 = .ok (.iload_n 3, 1) := by decide +kernel
theorem dX7_turnAt_77 : decode cX7_turnAt 77 = .ok (.bipush 10, 2) := by decide +kernel
theorem dX7_turnAt_79 : decode cX7_turnAt 79 = .ok (.idiv, 1) := by decide +kernel
theorem dX7_turnAt_80 : decode cX7_turnAt 80 = .ok (.istore_n 3, 1) := by decide +kernel
theorem dX7_turnAt_81 : decode cX7_turnAt 81 = .ok (.iinc 4 1, 3) := by decide +kernel
theorem dX7_turnAt_84 : decode cX7_turnAt 84 = .ok (.goto (-14), 3) := by decide +kernel
theorem dX7_turnAt_87 : decode cX7_turnAt 87 = .ok (.aload_n 0, 1) := by decide +kernel
theorem dX7_turnAt_88 : decode cX7_turnAt 88 = .ok (.iload_n 3, 1) := by decide +kernel
theorem dX7_turnAt_89 : decode cX7_turnAt 89 = .ok (.bipush 10, 2) := by decide +kernel
theorem dX7_turnAt_91 : decode cX7_turnAt 91 = .ok (.irem, 1) := by decide +kernel
theorem dX7_turnAt_92 : decode cX7_turnAt 92 = .ok (.invokevirtual 85, 3) := by decide +kernel
theorem dX7_turnAt_95 : decode cX7_turnAt 95 = .ok (.ireturn, 1) := by decide +kernel
def B_X7_turnAt_0 (X : Nat × (Nat → Int32)) (J : Nat → zCf) (R : zRt) : zCf := oALOAD 0 (oINV0 X M_X7_noTube 7 (oIFEQ (J 13) (oALOAD 0 (oPI (zj (1)) (oINV1 X M_X7_refuse 7 (oIRET R))))))
set_option maxRecDepth 100000 in
theorem vb_X7_turnAt_0 {X : Nat × (Nat → Int32)} {R : zRt} : ∀ ls st h, B_X7_turnAt_0 X (zV X M_X7_turnAt (zQm M_X7_turnAt R) 0 0) R ls st h → zV X M_X7_turnAt (zQm M_X7_turnAt R) 0 0 0 ls st h := sd_aload_n dX7_turnAt_0 rfl (sd_inv0 dX7_turnAt_1 rfl mv_X7_noTube na_X7_noTube ml_RX7_124 ⟨⟨Nat.le_of_ble_eq_true rfl, Nat.le_of_ble_eq_true rfl⟩, ⟨Nat.le_of_ble_eq_true rfl, Nat.le_of_ble_eq_true rfl⟩⟩ (sd_ifeq dX7_turnAt_4 rfl (fun _ _ _ h => h) (sd_aload_n dX7_turnAt_7 rfl (sd_iconst dX7_turnAt_8 rfl (sd_inv1 dX7_turnAt_9 rfl mv_X7_refuse na_X7_refuse ml_RX7_58 ⟨⟨Nat.le_of_ble_eq_true rfl, Nat.le_of_ble_eq_true rfl⟩, ⟨Nat.le_of_ble_eq_true rfl, Nat.le_of_ble_eq_true rfl⟩⟩ (sd_iret dX7_turnAt_12 rfl (Nat.le_of_ble_eq_true rfl) (Nat.le_of_ble_eq_true rfl)))))))
def B_X7_turnAt_13 (X : Nat × (Nat → Int32)) (J : Nat → zCf) (R : zRt) : zCf := oALOAD 0 (oPI (zj (0)) (oINV1 X M_X7_aimAt 7 (oALOAD 0 (oGETR 7 3 (oPI (zj (5)) (oINV1 X M_X3_fewestTurns 3 (oISTORE 1 2 (oILOAD 2 (oPI (zj (-2)) (oICNE (J 40) (oALOAD 0 (oPI (zj (6)) (oINV1 X M_X7_refuse 7 (oIRET R))))))))))))))
set_option maxRecDepth 100000 in
theorem vb_X7_turnAt_13 {X : Nat × (Nat → Int32)} {R : zRt} : ∀ ls st h, B_X7_turnAt_13 X (zV X M_X7_turnAt (zQm M_X7_turnAt R) 0 0) R ls st h → zV X M_X7_turnAt (zQm M_X7_turnAt R) 0 0 13 ls st h := sd_aload_n dX7_turnAt_13 rfl (sd_iconst dX7_turnAt_14 rfl (sd_inv1 dX7_turnAt_15 rfl mv_X7_aimAt na_X7_aimAt ml_RX7_166 ⟨⟨Nat.le_of_ble_eq_true rfl, Nat.le_of_ble_eq_true rfl⟩, ⟨Nat.le_of_ble_eq_true rfl, Nat.le_of_ble_eq_true rfl⟩⟩ (sd_aload_n dX7_turnAt_18 rfl (sd_getr dX7_turnAt_19 zCl7 (Nat.le_of_ble_eq_true rfl) lk_RX7_33 (Or.inl ⟨_, rfl⟩) (sd_iconst dX7_turnAt_22 rfl (sd_inv1 dX7_turnAt_23 rfl mv_X3_fewestTurns na_X3_fewestTurns ml_RX7_169 ⟨⟨Nat.le_of_ble_eq_true rfl, Nat.le_of_ble_eq_true rfl⟩, ⟨Nat.le_of_ble_eq_true rfl, Nat.le_of_ble_eq_true rfl⟩⟩ (sd_istore_n dX7_turnAt_26 rfl (Nat.le_of_ble_eq_true rfl) (Or.inl rfl) (sd_iload_n dX7_turnAt_27 rfl (sd_bipush dX7_turnAt_28 rfl (sd_icne dX7_turnAt_30 rfl (fun _ _ _ h => h) (sd_aload_n dX7_turnAt_33 rfl (sd_bipush dX7_turnAt_34 rfl (sd_inv1 dX7_turnAt_36 rfl mv_X7_refuse na_X7_refuse ml_RX7_58 ⟨⟨Nat.le_of_ble_eq_true rfl, Nat.le_of_ble_eq_true rfl⟩, ⟨Nat.le_of_ble_eq_true rfl, Nat.le_of_ble_eq_true rfl⟩⟩ (sd_iret dX7_turnAt_39 rfl (Nat.le_of_ble_eq_true rfl) (Nat.le_of_ble_eq_true rfl)))))))))))))))
def B_X7_turnAt_40 (X : Nat × (Nat → Int32)) (J : Nat → zCf) (R : zRt) : zCf := oILOAD 1 (oIFLT (J 49) (oILOAD 1 (oILOAD 2 (oICLT (J 55) (J 49)))))
set_option maxRecDepth 100000 in
theorem vb_X7_turnAt_40 {X : Nat × (Nat → Int32)} {R : zRt} : ∀ ls st h, B_X7_turnAt_40 X (zV X M_X7_turnAt (zQm M_X7_turnAt R) 0 0) R ls st h → zV X M_X7_turnAt (zQm M_X7_turnAt R) 0 0 40 ls st h := sd_iload_n dX7_turnAt_40 rfl (sd_iflt dX7_turnAt_41 rfl (fun _ _ _ h => h) (sd_iload_n dX7_turnAt_44 rfl (sd_iload_n dX7_turnAt_45 rfl (sd_iclt dX7_turnAt_46 rfl (fun _ _ _ h => h) (fun _ _ _ h => h)))))
def B_X7_turnAt_49 (X : Nat × (Nat → Int32)) (J : Nat → zCf) (R : zRt) : zCf := oALOAD 0 (oPI (zj (1)) (oINV1 X M_X7_refuse 7 (oIRET R)))
set_option maxRecDepth 100000 in
theorem vb_X7_turnAt_49 {X : Nat × (Nat → Int32)} {R : zRt} : ∀ ls st h, B_X7_turnAt_49 X (zV X M_X7_turnAt (zQm M_X7_turnAt R) 0 0) R ls st h → zV X M_X7_turnAt (zQm M_X7_turnAt R) 0 0 49 ls st h := sd_aload_n dX7_turnAt_49 rfl (sd_iconst dX7_turnAt_50 rfl (sd_inv1 dX7_turnAt_51 rfl mv_X7_refuse na_X7_refuse ml_RX7_58 ⟨⟨Nat.le_of_ble_eq_true rfl, Nat.le_of_ble_eq_true rfl⟩, ⟨Nat.le_of_ble_eq_true rfl, Nat.le_of_ble_eq_true rfl⟩⟩ (sd_iret dX7_turnAt_54 rfl (Nat.le_of_ble_eq_true rfl) (Nat.le_of_ble_eq_true rfl))))
def B_X7_turnAt_55 (X : Nat × (Nat → Int32)) (J : Nat → zCf) (R : zRt) : zCf := oALOAD 0 (oGETR 7 3 (oILOAD 2 (oPI (zj (0)) (oINV2 X M_X3_rowAt 3 (oISTORE 2 3 (oILOAD 1 (oPI (zj (1)) (oIADD (oISTORE 3 4 (J 70))))))))))
set_option maxRecDepth 100000 in
theorem vb_X7_turnAt_55 {X : Nat × (Nat → Int32)} {R : zRt} : ∀ ls st h, B_X7_turnAt_55 X (zV X M_X7_turnAt (zQm M_X7_turnAt R) 0 0) R ls st h → zV X M_X7_turnAt (zQm M_X7_turnAt R) 0 0 55 ls st h := sd_aload_n dX7_turnAt_55 rfl (sd_getr dX7_turnAt_56 zCl7 (Nat.le_of_ble_eq_true rfl) lk_RX7_33 (Or.inl ⟨_, rfl⟩) (sd_iload_n dX7_turnAt_59 rfl (sd_iconst dX7_turnAt_60 rfl (sd_inv2 dX7_turnAt_61 rfl mv_X3_rowAt na_X3_rowAt ml_RX7_172 ⟨⟨Nat.le_of_ble_eq_true rfl, Nat.le_of_ble_eq_true rfl⟩, ⟨Nat.le_of_ble_eq_true rfl, Nat.le_of_ble_eq_true rfl⟩⟩ (sd_istore_n dX7_turnAt_64 rfl (Nat.le_of_ble_eq_true rfl) (Or.inl rfl) (sd_iload_n dX7_turnAt_65 rfl (sd_iconst dX7_turnAt_66 rfl (sd_iadd dX7_turnAt_67 (sd_istore dX7_turnAt_68 (Nat.le_of_ble_eq_true rfl) (Or.inl rfl) (fun _ _ _ h => h))))))))))
def B_X7_turnAt_70 (X : Nat × (Nat → Int32)) (J : Nat → zCf) (R : zRt) : zCf := oILOAD 4 (oILOAD 2 (oICGE (J 87) (oILOAD 3 (oPI (zj (10)) (oIDIV (oISTORE 2 3 (oIINC 3 4 (zj (1)) (J 70))))))))
set_option maxRecDepth 100000 in
theorem vb_X7_turnAt_70 {X : Nat × (Nat → Int32)} {R : zRt} : ∀ ls st h, B_X7_turnAt_70 X (zV X M_X7_turnAt (zQm M_X7_turnAt R) 0 0) R ls st h → zV X M_X7_turnAt (zQm M_X7_turnAt R) 0 0 70 ls st h := sd_iload dX7_turnAt_70 (sd_iload_n dX7_turnAt_72 rfl (sd_icge dX7_turnAt_73 rfl (fun _ _ _ h => h) (sd_iload_n dX7_turnAt_76 rfl (sd_bipush dX7_turnAt_77 rfl (sd_idiv dX7_turnAt_79 (sd_istore_n dX7_turnAt_80 rfl (Nat.le_of_ble_eq_true rfl) (Or.inl rfl) (sd_iinc dX7_turnAt_81 rfl (Nat.le_of_ble_eq_true rfl) (Or.inl rfl) (sd_goto dX7_turnAt_84 rfl (fun _ _ _ h => h)))))))))
def B_X7_turnAt_87 (X : Nat × (Nat → Int32)) (J : Nat → zCf) (R : zRt) : zCf := oALOAD 0 (oILOAD 3 (oPI (zj (10)) (oIREM (oINV1 X M_X7_answer 7 (oIRET R)))))
set_option maxRecDepth 100000 in
theorem vb_X7_turnAt_87 {X : Nat × (Nat → Int32)} {R : zRt} : ∀ ls st h, B_X7_turnAt_87 X (zV X M_X7_turnAt (zQm M_X7_turnAt R) 0 0) R ls st h → zV X M_X7_turnAt (zQm M_X7_turnAt R) 0 0 87 ls st h := sd_aload_n dX7_turnAt_87 rfl (sd_iload_n dX7_turnAt_88 rfl (sd_bipush dX7_turnAt_89 rfl (sd_irem dX7_turnAt_91 (sd_inv1 dX7_turnAt_92 rfl mv_X7_answer na_X7_answer ml_RX7_85 ⟨⟨Nat.le_of_ble_eq_true rfl, Nat.le_of_ble_eq_true rfl⟩, ⟨Nat.le_of_ble_eq_true rfl, Nat.le_of_ble_eq_true rfl⟩⟩ (sd_iret dX7_turnAt_95 rfl (Nat.le_of_ble_eq_true rfl) (Nat.le_of_ble_eq_true rfl))))))
theorem dX7_bestTurn_0 : decode cX7_bestTurn 0 = .ok (.aload_n 0, 1) := by decide +kernel
theorem dX7_bestTurn_1 : decode cX7_bestTurn 1 = .ok (.invokevirtual 124, 3) := by decide +kernel
theorem dX7_bestTurn_4 : decode cX7_bestTurn 4 = .ok (.ifCond .eq 9, 3) := by decide +kernel
theorem dX7_bestTurn_7 : decode cX7_bestTurn 7 = .ok (.aload_n 0, 1) := by decide +kernel
theorem dX7_bestTurn_8 : decode cX7_bestTurn 8 = .ok (.iconst 1, 1) := by decide +kernel
theorem dX7_bestTurn_9 : decode cX7_bestTurn 9 = .ok (.invokevirtual 58, 3) := by decide +kernel
theorem dX7_bestTurn_12 : decode cX7_bestTurn 12 = .ok (.ireturn, 1) := by decide +kernel
theorem dX7_bestTurn_13 : decode cX7_bestTurn 13 = .ok (.bipush (-3), 2) := by decide +kernel
theorem dX7_bestTurn_15 : decode cX7_bestTurn 15 = .ok (.istore_n 1, 1) := by decide +kernel
theorem dX7_bestTurn_16 : decode cX7_bestTurn 16 = .ok (.iconst (-1), 1) := by decide +kernel
theorem dX7_bestTurn_17 : decode cX7_bestTurn 17 = .ok (.istore_n 2, 1) := by decide +kernel
theorem dX7_bestTurn_18 : decode cX7_bestTurn 18 = .ok (.bipush (-3), 2) := by decide +kernel
theorem dX7_bestTurn_20 : decode cX7_bestTurn 20 = .ok (.istore_n 3, 1) := by decide +kernel
theorem dX7_bestTurn_21 : decode cX7_bestTurn 21 = .ok (.iload_n 3, 1) := by decide +kernel
theorem dX7_bestTurn_22 : decode cX7_bestTurn 22 = .ok (.iconst 3, 1) := by decide +kernel
theorem dX7_bestTurn_23 : decode cX7_bestTurn 23 = .ok (.if_icmp .gt 37, 3) := by decide +kernel
theorem dX7_bestTurn_26 : decode cX7_bestTurn 26 = .ok (.aload_n 0, 1) := by decide +kernel
theorem dX7_bestTurn_27 : decode cX7_bestTurn 27 = .ok (.getfield 19, 3) := by decide +kernel
theorem dX7_bestTurn_30 : decode cX7_bestTurn 30 = .ok (.iload_n 3, 1) := by decide +kernel
theorem dX7_bestTurn_31 : decode cX7_bestTurn 31 = .ok (.iload_n 3, 1) := by decide +kernel
theorem dX7_bestTurn_32 : decode cX7_bestTurn 32 = .ok (.invokestatic 154, 3) := by decide +kernel
theorem dX7_bestTurn_35 : decode cX7_bestTurn 35 = .ok (.invokevirtual 163, 3) := by decide +kernel
theorem dX7_bestTurn_38 : decode cX7_bestTurn 38 = .ok (.invokestatic 175, 3) := by decide +kernel
theorem dX7_bestTurn_41 : decode cX7_bestTurn 41 = .ok (.istore 4, 2) := by decide +kernel
theorem dX7_bestTurn_43 : decode cX7_bestTurn 43 = .ok (.iload 4, 2) := by decide +kernel
theorem dX7_bestTurn_45 : decode cX7_bestTurn 45 = .ok (.iload_n 2, 1) := by decide +kernel
theorem dX7_bestTurn_46 : decode cX7_bestTurn 46 = .ok (.if_icmp .le 8, 3) := by decide +kernel
theorem dX7_bestTurn_49 : decode cX7_bestTurn 49 = .ok (.iload 4, 2) := by decide +kernel
theorem dX7_bestTurn_51 : decode cX7_bestTurn 51 = .ok (.istore_n 2, 1) := by decide +kernel
theorem dX7_bestTurn_52 : decode cX7_bestTurn 52 = .ok (.iload_n 3, 1) := by decide +kernel
theorem dX7_bestTurn_53 : decode cX7_bestTurn 53 = .ok (.istore_n 1, 1) := by decide +kernel
theorem dX7_bestTurn_54 : decode cX7_bestTurn 54 = .ok (.iinc 3 1, 3) := by decide +kernel
theorem dX7_bestTurn_57 : decode cX7_bestTurn 57 = .ok (.goto (-36), 3) := by decide +kernel
theorem dX7_bestTurn_60 : decode cX7_bestTurn 60 = .ok (.aload_n 0, 1) := by decide +kernel
theorem dX7_bestTurn_61 : decode cX7_bestTurn 61 = .ok (.iload_n 1, 1) := by decide +kernel
theorem dX7_bestTurn_62 : decode cX7_bestTurn 62 = .ok (.iconst 3, 1) := by decide +kernel
theorem dX7_bestTurn_63 : decode cX7_bestTurn 63 = .ok (.iadd, 1) := by decide +kernel
theorem dX7_bestTurn_64 : decode cX7_bestTurn 64 = .ok (.invokevirtual 85, 3) := by decide +kernel
theorem dX7_bestTurn_67 : decode cX7_bestTurn 67 = .ok (.ireturn, 1) := by decide +kernel
def B_X7_bestTurn_0 (X : Nat × (Nat → Int32)) (J : Nat → zCf) (R : zRt) : zCf := oALOAD 0 (oINV0 X M_X7_noTube 7 (oIFEQ (J 13) (oALOAD 0 (oPI (zj (1)) (oINV1 X M_X7_refuse 7 (oIRET R))))))
set_option maxRecDepth 100000 in
theorem vb_X7_bestTurn_0 {X : Nat × (Nat → Int32)} {R : zRt} : ∀ ls st h, B_X7_bestTurn_0 X (zV X M_X7_bestTurn (zQm M_X7_bestTurn R) 0 0) R ls st h → zV X M_X7_bestTurn (zQm M_X7_bestTurn R) 0 0 0 ls st h := sd_aload_n dX7_bestTurn_0 rfl (sd_inv0 dX7_bestTurn_1 rfl mv_X7_noTube na_X7_noTube ml_RX7_124 ⟨⟨Nat.le_of_ble_eq_true rfl, Nat.le_of_ble_eq_true rfl⟩, ⟨Nat.le_of_ble_eq_true rfl, Nat.le_of_ble_eq_true rfl⟩⟩ (sd_ifeq dX7_bestTurn_4 rfl (fun _ _ _ h => h) (sd_aload_n dX7_bestTurn_7 rfl (sd_iconst dX7_bestTurn_8 rfl (sd_inv1 dX7_bestTurn_9 rfl mv_X7_refuse na_X7_refuse ml_RX7_58 ⟨⟨Nat.le_of_ble_eq_true rfl, Nat.le_of_ble_eq_true rfl⟩, ⟨Nat.le_of_ble_eq_true rfl, Nat.le_of_ble_eq_true rfl⟩⟩ (sd_iret dX7_bestTurn_12 rfl (Nat.le_of_ble_eq_true rfl) (Nat.le_of_ble_eq_true rfl)))))))
def B_X7_bestTurn_13 (X : Nat × (Nat → Int32)) (J : Nat → zCf) (R : zRt) : zCf := oPI (zj (-3)) (oISTORE 0 1 (oPI (zj (-1)) (oISTORE 1 2 (oPI (zj (-3)) (oISTORE 2 3 (J 21))))))
set_option maxRecDepth 100000 in
theorem vb_X7_bestTurn_13 {X : Nat × (Nat → Int32)} {R : zRt} : ∀ ls st h, B_X7_bestTurn_13 X (zV X M_X7_bestTurn (zQm M_X7_bestTurn R) 0 0) R ls st h → zV X M_X7_bestTurn (zQm M_X7_bestTurn R) 0 0 13 ls st h := sd_bipush dX7_bestTurn_13 rfl (sd_istore_n dX7_bestTurn_15 rfl (Nat.le_of_ble_eq_true rfl) (Or.inl rfl) (sd_iconst dX7_bestTurn_16 rfl (sd_istore_n dX7_bestTurn_17 rfl (Nat.le_of_ble_eq_true rfl) (Or.inl rfl) (sd_bipush dX7_bestTurn_18 rfl (sd_istore_n dX7_bestTurn_20 rfl (Nat.le_of_ble_eq_true rfl) (Or.inl rfl) (fun _ _ _ h => h))))))
def B_X7_bestTurn_21 (X : Nat × (Nat → Int32)) (J : Nat → zCf) (R : zRt) : zCf := oILOAD 3 (oPI (zj (3)) (oICGT (J 60) (oALOAD 0 (oGETR 7 1 (oILOAD 3 (oILOAD 3 (oINS1 X M_X7_half (oINV2 X M_X4_rightBits 4 (oINS1 X M_J6_bitCount_0f7a4 (oISTORE 3 4 (oILOAD 4 (oILOAD 2 (oICLE (J 54) (oILOAD 4 (oISTORE 1 2 (oILOAD 3 (oISTORE 0 1 (J 54))))))))))))))))))
set_option maxRecDepth 100000 in
theorem vb_X7_bestTurn_21 {X : Nat × (Nat → Int32)} {R : zRt} : ∀ ls st h, B_X7_bestTurn_21 X (zV X M_X7_bestTurn (zQm M_X7_bestTurn R) 0 0) R ls st h → zV X M_X7_bestTurn (zQm M_X7_bestTurn R) 0 0 21 ls st h := sd_iload_n dX7_bestTurn_21 rfl (sd_iconst dX7_bestTurn_22 rfl (sd_icgt dX7_bestTurn_23 rfl (fun _ _ _ h => h) (sd_aload_n dX7_bestTurn_26 rfl (sd_getr dX7_bestTurn_27 zCl7 (Nat.le_of_ble_eq_true rfl) lk_RX7_19 (Or.inl ⟨_, rfl⟩) (sd_iload_n dX7_bestTurn_30 rfl (sd_iload_n dX7_bestTurn_31 rfl (sd_ins1 dX7_bestTurn_32 ms_X7_half na_X7_half ml_RX7_154 ⟨⟨Nat.le_of_ble_eq_true rfl, Nat.le_of_ble_eq_true rfl⟩, ⟨Nat.le_of_ble_eq_true rfl, Nat.le_of_ble_eq_true rfl⟩⟩ (sd_inv2 dX7_bestTurn_35 rfl mv_X4_rightBits na_X4_rightBits ml_RX7_163 ⟨⟨Nat.le_of_ble_eq_true rfl, Nat.le_of_ble_eq_true rfl⟩, ⟨Nat.le_of_ble_eq_true rfl, Nat.le_of_ble_eq_true rfl⟩⟩ (sd_ins1 dX7_bestTurn_38 ms_J6_bitCount_0f7a4 na_J6_bitCount_0f7a4 ml_RX7_175 ⟨⟨Nat.le_of_ble_eq_true rfl, Nat.le_of_ble_eq_true rfl⟩, ⟨Nat.le_of_ble_eq_true rfl, Nat.le_of_ble_eq_true rfl⟩⟩ (sd_istore dX7_bestTurn_41 (Nat.le_of_ble_eq_true rfl) (Or.inl rfl) (sd_iload dX7_bestTurn_43 (sd_iload_n dX7_bestTurn_45 rfl (sd_icle dX7_bestTurn_46 rfl (fun _ _ _ h => h) (sd_iload dX7_bestTurn_49 (sd_istore_n dX7_bestTurn_51 rfl (Nat.le_of_ble_eq_true rfl) (Or.inl rfl) (sd_iload_n dX7_bestTurn_52 rfl (sd_istore_n dX7_bestTurn_53 rfl (Nat.le_of_ble_eq_true rfl) (Or.inl rfl) (fun _ _ _ h => h))))))))))))))))))
def B_X7_bestTurn_54 (X : Nat × (Nat → Int32)) (J : Nat → zCf) (R : zRt) : zCf := oIINC 2 3 (zj (1)) (J 21)
set_option maxRecDepth 100000 in
theorem vb_X7_bestTurn_54 {X : Nat × (Nat → Int32)} {R : zRt} : ∀ ls st h, B_X7_bestTurn_54 X (zV X M_X7_bestTurn (zQm M_X7_bestTurn R) 0 0) R ls st h → zV X M_X7_bestTurn (zQm M_X7_bestTurn R) 0 0 54 ls st h := sd_iinc dX7_bestTurn_54 rfl (Nat.le_of_ble_eq_true rfl) (Or.inl rfl) (sd_goto dX7_bestTurn_57 rfl (fun _ _ _ h => h))
def B_X7_bestTurn_60 (X : Nat × (Nat → Int32)) (J : Nat → zCf) (R : zRt) : zCf := oALOAD 0 (oILOAD 1 (oPI (zj (3)) (oIADD (oINV1 X M_X7_answer 7 (oIRET R)))))
set_option maxRecDepth 100000 in
theorem vb_X7_bestTurn_60 {X : Nat × (Nat → Int32)} {R : zRt} : ∀ ls st h, B_X7_bestTurn_60 X (zV X M_X7_bestTurn (zQm M_X7_bestTurn R) 0 0) R ls st h → zV X M_X7_bestTurn (zQm M_X7_bestTurn R) 0 0 60 ls st h := sd_aload_n dX7_bestTurn_60 rfl (sd_iload_n dX7_bestTurn_61 rfl (sd_iconst dX7_bestTurn_62 rfl (sd_iadd dX7_bestTurn_63 (sd_inv1 dX7_bestTurn_64 rfl mv_X7_answer na_X7_answer ml_RX7_85 ⟨⟨Nat.le_of_ble_eq_true rfl, Nat.le_of_ble_eq_true rfl⟩, ⟨Nat.le_of_ble_eq_true rfl, Nat.le_of_ble_eq_true rfl⟩⟩ (sd_iret dX7_bestTurn_67 rfl (Nat.le_of_ble_eq_true rfl) (Nat.le_of_ble_eq_true rfl))))))
theorem dX7_can_0 : decode cX7_can 0 = .ok (.aload_n 0, 1) := by decide +kernel
theorem dX7_can_1 : decode cX7_can 1 = .ok (.iload_n 1, 1) := by decide +kernel
theorem dX7_can_2 : decode cX7_can 2 = .ok (.invokevirtual 97, 3) := by decide +kernel
theorem dX7_can_5 : decode cX7_can 5 = .ok (.ifCond .ne 9, 3) := by decide +kernel
theorem dX7_can_8 : decode cX7_can 8 = .ok (.aload_n 0, 1) := by decide +kernel
theorem dX7_can_9 : decode cX7_can 9 = .ok (.iconst 1, 1) := by decide +kernel
theorem dX7_can_10 : decode cX7_can 10 = .ok (.invokevirtual 58, 3) := by decide +kernel
theorem dX7_can_13 : decode cX7_can 13 = .ok (.ireturn, 1) := by decide +kernel
theorem dX7_can_14 : decode cX7_can 14 = .ok (.iload_n 2, 1) := by decide +kernel
theorem dX7_can_15 : decode cX7_can 15 = .ok (.invokestatic 128, 3) := by decide +kernel
theorem dX7_can_18 : decode cX7_can 18 = .ok (.ifCond .ne 9, 3) := by decide +kernel
theorem dX7_can_21 : decode cX7_can 21 = .ok (.aload_n 0, 1) := by decide +kernel
theorem dX7_can_22 : decode cX7_can 22 = .ok (.iconst 2, 1) := by decide +kernel
theorem dX7_can_23 : decode cX7_can 23 = .ok (.invokevirtual 58, 3) := by decide +kernel
theorem dX7_can_26 : decode cX7_can 26 = .ok (.ireturn, 1) := by decide +kernel
theorem dX7_can_27 : decode cX7_can 27 = .ok (.aload_n 0, 1) := by decide +kernel
theorem dX7_can_28 : decode cX7_can 28 = .ok (.aload_n 0, 1) := by decide +kernel
theorem dX7_can_29 : decode cX7_can 29 = .ok (.getfield 19, 3) := by decide +kernel
theorem dX7_can_32 : decode cX7_can 32 = .ok (.iload_n 1, 1) := by decide +kernel
theorem dX7_can_33 : decode cX7_can 33 = .ok (.iload_n 2, 1) := by decide +kernel
theorem dX7_can_34 : decode cX7_can 34 = .ok (.invokevirtual 180, 3) := by decide +kernel
theorem dX7_can_37 : decode cX7_can 37 = .ok (.ifCond .eq 7, 3) := by decide +kernel
theorem dX7_can_40 : decode cX7_can 40 = .ok (.iconst 1, 1) := by decide +kernel
theorem dX7_can_41 : decode cX7_can 41 = .ok (.goto 4, 3) := by decide +kernel
theorem dX7_can_44 : decode cX7_can 44 = .ok (.iconst 0, 1) := by decide +kernel
theorem dX7_can_45 : decode cX7_can 45 = .ok (.invokevirtual 85, 3) := by decide +kernel
theorem dX7_can_48 : decode cX7_can 48 = .ok (.ireturn, 1) := by decide +kernel
def B_X7_can_0 (X : Nat × (Nat → Int32)) (J : Nat → zCf) (R : zRt) : zCf := oALOAD 0 (oILOAD 1 (oINV1 X M_X7_isBit 7 (oIFNE (J 14) (oALOAD 0 (oPI (zj (1)) (oINV1 X M_X7_refuse 7 (oIRET R)))))))
set_option maxRecDepth 100000 in
theorem vb_X7_can_0 {X : Nat × (Nat → Int32)} {R : zRt} : ∀ ls st h, B_X7_can_0 X (zV X M_X7_can (zQm M_X7_can R) 0 0) R ls st h → zV X M_X7_can (zQm M_X7_can R) 0 0 0 ls st h := sd_aload_n dX7_can_0 rfl (sd_iload_n dX7_can_1 rfl (sd_inv1 dX7_can_2 rfl mv_X7_isBit na_X7_isBit ml_RX7_97 ⟨⟨Nat.le_of_ble_eq_true rfl, Nat.le_of_ble_eq_true rfl⟩, ⟨Nat.le_of_ble_eq_true rfl, Nat.le_of_ble_eq_true rfl⟩⟩ (sd_ifne dX7_can_5 rfl (fun _ _ _ h => h) (sd_aload_n dX7_can_8 rfl (sd_iconst dX7_can_9 rfl (sd_inv1 dX7_can_10 rfl mv_X7_refuse na_X7_refuse ml_RX7_58 ⟨⟨Nat.le_of_ble_eq_true rfl, Nat.le_of_ble_eq_true rfl⟩, ⟨Nat.le_of_ble_eq_true rfl, Nat.le_of_ble_eq_true rfl⟩⟩ (sd_iret dX7_can_13 rfl (Nat.le_of_ble_eq_true rfl) (Nat.le_of_ble_eq_true rfl))))))))
def B_X7_can_14 (X : Nat × (Nat → Int32)) (J : Nat → zCf) (R : zRt) : zCf := oILOAD 2 (oINS1 X M_X7_isCell (oIFNE (J 27) (oALOAD 0 (oPI (zj (2)) (oINV1 X M_X7_refuse 7 (oIRET R))))))
set_option maxRecDepth 100000 in
theorem vb_X7_can_14 {X : Nat × (Nat → Int32)} {R : zRt} : ∀ ls st h, B_X7_can_14 X (zV X M_X7_can (zQm M_X7_can R) 0 0) R ls st h → zV X M_X7_can (zQm M_X7_can R) 0 0 14 ls st h := sd_iload_n dX7_can_14 rfl (sd_ins1 dX7_can_15 ms_X7_isCell na_X7_isCell ml_RX7_128 ⟨⟨Nat.le_of_ble_eq_true rfl, Nat.le_of_ble_eq_true rfl⟩, ⟨Nat.le_of_ble_eq_true rfl, Nat.le_of_ble_eq_true rfl⟩⟩ (sd_ifne dX7_can_18 rfl (fun _ _ _ h => h) (sd_aload_n dX7_can_21 rfl (sd_iconst dX7_can_22 rfl (sd_inv1 dX7_can_23 rfl mv_X7_refuse na_X7_refuse ml_RX7_58 ⟨⟨Nat.le_of_ble_eq_true rfl, Nat.le_of_ble_eq_true rfl⟩, ⟨Nat.le_of_ble_eq_true rfl, Nat.le_of_ble_eq_true rfl⟩⟩ (sd_iret dX7_can_26 rfl (Nat.le_of_ble_eq_true rfl) (Nat.le_of_ble_eq_true rfl)))))))
def B_X7_can_27 (X : Nat × (Nat → Int32)) (J : Nat → zCf) (R : zRt) : zCf := oALOAD 0 (oALOAD 0 (oGETR 7 1 (oILOAD 1 (oILOAD 2 (oINV2 X M_X4_canLie 4 (oIFEQ (J 44) (oPI (zj (1)) (J 45))))))))
set_option maxRecDepth 100000 in
theorem vb_X7_can_27 {X : Nat × (Nat → Int32)} {R : zRt} : ∀ ls st h, B_X7_can_27 X (zV X M_X7_can (zQm M_X7_can R) 0 0) R ls st h → zV X M_X7_can (zQm M_X7_can R) 0 0 27 ls st h := sd_aload_n dX7_can_27 rfl (sd_aload_n dX7_can_28 rfl (sd_getr dX7_can_29 zCl7 (Nat.le_of_ble_eq_true rfl) lk_RX7_19 (Or.inl ⟨_, rfl⟩) (sd_iload_n dX7_can_32 rfl (sd_iload_n dX7_can_33 rfl (sd_inv2 dX7_can_34 rfl mv_X4_canLie na_X4_canLie ml_RX7_180 ⟨⟨Nat.le_of_ble_eq_true rfl, Nat.le_of_ble_eq_true rfl⟩, ⟨Nat.le_of_ble_eq_true rfl, Nat.le_of_ble_eq_true rfl⟩⟩ (sd_ifeq dX7_can_37 rfl (fun _ _ _ h => h) (sd_iconst dX7_can_40 rfl (sd_goto dX7_can_41 rfl (fun _ _ _ h => h)))))))))
def B_X7_can_44 (X : Nat × (Nat → Int32)) (J : Nat → zCf) (R : zRt) : zCf := oPI (zj (0)) (J 45)
set_option maxRecDepth 100000 in
theorem vb_X7_can_44 {X : Nat × (Nat → Int32)} {R : zRt} : ∀ ls st h, B_X7_can_44 X (zV X M_X7_can (zQm M_X7_can R) 0 0) R ls st h → zV X M_X7_can (zQm M_X7_can R) 0 0 44 ls st h := sd_iconst dX7_can_44 rfl (fun _ _ _ h => h)
def B_X7_can_45 (X : Nat × (Nat → Int32)) (J : Nat → zCf) (R : zRt) : zCf := oINV1 X M_X7_answer 7 (oIRET R)
set_option maxRecDepth 100000 in
theorem vb_X7_can_45 {X : Nat × (Nat → Int32)} {R : zRt} : ∀ ls st h, B_X7_can_45 X (zV X M_X7_can (zQm M_X7_can R) 0 0) R ls st h → zV X M_X7_can (zQm M_X7_can R) 0 0 45 ls st h := sd_inv1 dX7_can_45 rfl mv_X7_answer na_X7_answer ml_RX7_85 ⟨⟨Nat.le_of_ble_eq_true rfl, Nat.le_of_ble_eq_true rfl⟩, ⟨Nat.le_of_ble_eq_true rfl, Nat.le_of_ble_eq_true rfl⟩⟩ (sd_iret dX7_can_48 rfl (Nat.le_of_ble_eq_true rfl) (Nat.le_of_ble_eq_true rfl))
theorem dX7_made_0 : decode cX7_made 0 = .ok (.aload_n 0, 1) := by decide +kernel
theorem dX7_made_1 : decode cX7_made 1 = .ok (.invokevirtual 124, 3) := by decide +kernel
theorem dX7_made_4 : decode cX7_made 4 = .ok (.ifCond .eq 9, 3) := by decide +kernel
theorem dX7_made_7 : decode cX7_made 7 = .ok (.aload_n 0, 1) := by decide +kernel
theorem dX7_made_8 : decode cX7_made 8 = .ok (.iconst 1, 1) := by decide +kernel
theorem dX7_made_9 : decode cX7_made 9 = .ok (.invokevirtual 58, 3) := by decide +kernel
theorem dX7_made_12 : decode cX7_made 12 = .ok (.ireturn, 1) := by decide +kernel
theorem dX7_made_13 : decode cX7_made 13 = .ok (.iload_n 1, 1) := by decide +kernel
theorem dX7_made_14 : decode cX7_made 14 = .ok (.invokestatic 184, 3) := by decide +kernel
theorem dX7_made_17 : decode cX7_made 17 = .ok (.ifCond .ne 9, 3) := by decide +kernel
theorem dX7_made_20 : decode cX7_made 20 = .ok (.aload_n 0, 1) := by decide +kernel
theorem dX7_made_21 : decode cX7_made 21 = .ok (.iconst 2, 1) := by decide +kernel
theorem dX7_made_22 : decode cX7_made 22 = .ok (.invokevirtual 58, 3) := by decide +kernel
theorem dX7_made_25 : decode cX7_made 25 = .ok (.ireturn, 1) := by decide +kernel
theorem dX7_made_26 : decode cX7_made 26 = .ok (.aload_n 0, 1) := by decide +kernel
theorem dX7_made_27 : decode cX7_made 27 = .ok (.iconst 1, 1) := by decide +kernel
theorem dX7_made_28 : decode cX7_made 28 = .ok (.invokevirtual 166, 3) := by decide +kernel
theorem dX7_made_31 : decode cX7_made 31 = .ok (.aload_n 0, 1) := by decide +kernel
theorem dX7_made_32 : decode cX7_made 32 = .ok (.aload_n 0, 1) := by decide +kernel
theorem dX7_made_33 : decode cX7_made 33 = .ok (.getfield 33, 3) := by decide +kernel
theorem dX7_made_36 : decode cX7_made 36 = .ok (.iload_n 1, 1) := by decide +kernel
theorem dX7_made_37 : decode cX7_made 37 = .ok (.iconst 0, 1) := by decide +kernel
theorem dX7_made_38 : decode cX7_made 38 = .ok (.iconst 0, 1) := by decide +kernel
theorem dX7_made_39 : decode cX7_made 39 = .ok (.invokevirtual 187, 3) := by decide +kernel
theorem dX7_made_42 : decode cX7_made 42 = .ok (.invokevirtual 85, 3) := by decide +kernel
theorem dX7_made_45 : decode cX7_made 45 = .ok (.ireturn, 1) := by decide +kernel
def B_X7_made_0 (X : Nat × (Nat → Int32)) (J : Nat → zCf) (R : zRt) : zCf := oALOAD 0 (oINV0 X M_X7_noTube 7 (oIFEQ (J 13) (oALOAD 0 (oPI (zj (1)) (oINV1 X M_X7_refuse 7 (oIRET R))))))
set_option maxRecDepth 100000 in
theorem vb_X7_made_0 {X : Nat × (Nat → Int32)} {R : zRt} : ∀ ls st h, B_X7_made_0 X (zV X M_X7_made (zQm M_X7_made R) 0 0) R ls st h → zV X M_X7_made (zQm M_X7_made R) 0 0 0 ls st h := sd_aload_n dX7_made_0 rfl (sd_inv0 dX7_made_1 rfl mv_X7_noTube na_X7_noTube ml_RX7_124 ⟨⟨Nat.le_of_ble_eq_true rfl, Nat.le_of_ble_eq_true rfl⟩, ⟨Nat.le_of_ble_eq_true rfl, Nat.le_of_ble_eq_true rfl⟩⟩ (sd_ifeq dX7_made_4 rfl (fun _ _ _ h => h) (sd_aload_n dX7_made_7 rfl (sd_iconst dX7_made_8 rfl (sd_inv1 dX7_made_9 rfl mv_X7_refuse na_X7_refuse ml_RX7_58 ⟨⟨Nat.le_of_ble_eq_true rfl, Nat.le_of_ble_eq_true rfl⟩, ⟨Nat.le_of_ble_eq_true rfl, Nat.le_of_ble_eq_true rfl⟩⟩ (sd_iret dX7_made_12 rfl (Nat.le_of_ble_eq_true rfl) (Nat.le_of_ble_eq_true rfl)))))))
def B_X7_made_13 (X : Nat × (Nat → Int32)) (J : Nat → zCf) (R : zRt) : zCf := oILOAD 1 (oINS1 X M_X7_isMadeLength (oIFNE (J 26) (oALOAD 0 (oPI (zj (2)) (oINV1 X M_X7_refuse 7 (oIRET R))))))
set_option maxRecDepth 100000 in
theorem vb_X7_made_13 {X : Nat × (Nat → Int32)} {R : zRt} : ∀ ls st h, B_X7_made_13 X (zV X M_X7_made (zQm M_X7_made R) 0 0) R ls st h → zV X M_X7_made (zQm M_X7_made R) 0 0 13 ls st h := sd_iload_n dX7_made_13 rfl (sd_ins1 dX7_made_14 ms_X7_isMadeLength na_X7_isMadeLength ml_RX7_184 ⟨⟨Nat.le_of_ble_eq_true rfl, Nat.le_of_ble_eq_true rfl⟩, ⟨Nat.le_of_ble_eq_true rfl, Nat.le_of_ble_eq_true rfl⟩⟩ (sd_ifne dX7_made_17 rfl (fun _ _ _ h => h) (sd_aload_n dX7_made_20 rfl (sd_iconst dX7_made_21 rfl (sd_inv1 dX7_made_22 rfl mv_X7_refuse na_X7_refuse ml_RX7_58 ⟨⟨Nat.le_of_ble_eq_true rfl, Nat.le_of_ble_eq_true rfl⟩, ⟨Nat.le_of_ble_eq_true rfl, Nat.le_of_ble_eq_true rfl⟩⟩ (sd_iret dX7_made_25 rfl (Nat.le_of_ble_eq_true rfl) (Nat.le_of_ble_eq_true rfl)))))))
def B_X7_made_26 (X : Nat × (Nat → Int32)) (J : Nat → zCf) (R : zRt) : zCf := oALOAD 0 (oPI (zj (1)) (oINV1 X M_X7_aimAt 7 (oALOAD 0 (oALOAD 0 (oGETR 7 3 (oILOAD 1 (oPI (zj (0)) (oPI (zj (0)) (oINV3 X M_X3_rowsToGoal 3 (oINV1 X M_X7_answer 7 (oIRET R)))))))))))
set_option maxRecDepth 100000 in
theorem vb_X7_made_26 {X : Nat × (Nat → Int32)} {R : zRt} : ∀ ls st h, B_X7_made_26 X (zV X M_X7_made (zQm M_X7_made R) 0 0) R ls st h → zV X M_X7_made (zQm M_X7_made R) 0 0 26 ls st h := sd_aload_n dX7_made_26 rfl (sd_iconst dX7_made_27 rfl (sd_inv1 dX7_made_28 rfl mv_X7_aimAt na_X7_aimAt ml_RX7_166 ⟨⟨Nat.le_of_ble_eq_true rfl, Nat.le_of_ble_eq_true rfl⟩, ⟨Nat.le_of_ble_eq_true rfl, Nat.le_of_ble_eq_true rfl⟩⟩ (sd_aload_n dX7_made_31 rfl (sd_aload_n dX7_made_32 rfl (sd_getr dX7_made_33 zCl7 (Nat.le_of_ble_eq_true rfl) lk_RX7_33 (Or.inl ⟨_, rfl⟩) (sd_iload_n dX7_made_36 rfl (sd_iconst dX7_made_37 rfl (sd_iconst dX7_made_38 rfl (sd_inv3 dX7_made_39 rfl mv_X3_rowsToGoal na_X3_rowsToGoal ml_RX7_187 ⟨⟨Nat.le_of_ble_eq_true rfl, Nat.le_of_ble_eq_true rfl⟩, ⟨Nat.le_of_ble_eq_true rfl, Nat.le_of_ble_eq_true rfl⟩⟩ (sd_inv1 dX7_made_42 rfl mv_X7_answer na_X7_answer ml_RX7_85 ⟨⟨Nat.le_of_ble_eq_true rfl, Nat.le_of_ble_eq_true rfl⟩, ⟨Nat.le_of_ble_eq_true rfl, Nat.le_of_ble_eq_true rfl⟩⟩ (sd_iret dX7_made_45 rfl (Nat.le_of_ble_eq_true rfl) (Nat.le_of_ble_eq_true rfl))))))))))))
theorem dX7_madeAt_0 : decode cX7_madeAt 0 = .ok (.aload_n 0, 1) := by decide +kernel
theorem dX7_madeAt_1 : decode cX7_madeAt 1 = .ok (.invokevirtual 124, 3) := by decide +kernel
theorem dX7_madeAt_4 : decode cX7_madeAt 4 = .ok (.ifCond .eq 9, 3) := by decide +kernel
theorem dX7_madeAt_7 : decode cX7_madeAt 7 = .ok (.aload_n 0, 1) := by decide +kernel
theorem dX7_madeAt_8 : decode cX7_madeAt 8 = .ok (.iconst 1, 1) := by decide +kernel
theorem dX7_madeAt_9 : decode cX7_madeAt 9 = .ok (.invokevirtual 58, 3) := by decide +kernel
theorem dX7_madeAt_12 : decode cX7_madeAt 12 = .ok (.ireturn, 1) := by decide +kernel
theorem dX7_madeAt_13 : decode cX7_madeAt 13 = .ok (.iload_n 1, 1) := by decide +kernel
theorem dX7_madeAt_14 : decode cX7_madeAt 14 = .ok (.invokestatic 184, 3) := by decide +kernel
theorem dX7_madeAt_17 : decode cX7_madeAt 17 = .ok (.ifCond .ne 9, 3) := by decide +kernel
theorem dX7_madeAt_20 : decode cX7_madeAt 20 = .ok (.aload_n 0, 1) := by decide +kernel
theorem dX7_madeAt_21 : decode cX7_madeAt 21 = .ok (.iconst 2, 1) := by decide +kernel
theorem dX7_madeAt_22 : decode cX7_madeAt 22 = .ok (.invokevirtual 58, 3) := by decide +kernel
theorem dX7_madeAt_25 : decode cX7_madeAt 25 = .ok (.ireturn, 1) := by decide +kernel
theorem dX7_madeAt_26 : decode cX7_madeAt 26 = .ok (.aload_n 0, 1) := by decide +kernel
theorem dX7_madeAt_27 : decode cX7_madeAt 27 = .ok (.iconst 1, 1) := by decide +kernel
theorem dX7_madeAt_28 : decode cX7_madeAt 28 = .ok (.invokevirtual 166, 3) := by decide +kernel
theorem dX7_madeAt_31 : decode cX7_madeAt 31 = .ok (.iload_n 2, 1) := by decide +kernel
theorem dX7_madeAt_32 : decode cX7_madeAt 32 = .ok (.ifCond .lt 17, 3) := by decide +kernel
theorem dX7_madeAt_35 : decode cX7_madeAt 35 = .ok (.iload_n 2, 1) := by decide +kernel
theorem dX7_madeAt_36 : decode cX7_madeAt 36 = .ok (.aload_n 0, 1) := by decide +kernel
theorem dX7_madeAt_37 : decode cX7_madeAt 37 = .ok (.getfield 33, 3) := by decide +kernel
theorem dX7_madeAt_40 : decode cX7_madeAt 40 = .ok (.iload_n 1, 1) := by decide +kernel
theorem dX7_madeAt_41 : decode cX7_madeAt 41 = .ok (.iconst 0, 1) := by decide +kernel
theorem dX7_madeAt_42 : decode cX7_madeAt 42 = .ok (.iconst 0, 1) := by decide +kernel
theorem dX7_madeAt_43 : decode cX7_madeAt 43 = .ok (.invokevirtual 187, 3) := by decide +kernel
theorem dX7_madeAt_46 : decode cX7_madeAt 46 = .ok (.if_icmp .lt 9, 3) := by decide +kernel
theorem dX7_madeAt_49 : decode cX7_madeAt 49 = .ok (.aload_n 0, 1) := by decide +kernel
theorem dX7_madeAt_50 : decode cX7_madeAt 50 = .ok (.iconst 1, 1) := by decide +kernel
theorem dX7_madeAt_51 : decode cX7_madeAt 51 = .ok (.invokevirtual 58, 3) := by decide +kernel
theorem dX7_madeAt_54 : decode cX7_madeAt 54 = .ok (.ireturn, 1) := by decide +kernel
theorem dX7_madeAt_55 : decode cX7_madeAt 55 = .ok (.aload_n 0, 1) := by decide +kernel
theorem dX7_madeAt_56 : decode cX7_madeAt 56 = .ok (.aload_n 0, 1) := by decide +kernel
theorem dX7_madeAt_57 : decode cX7_madeAt 57 = .ok (.getfield 33, 3) := by decide +kernel
theorem dX7_madeAt_60 : decode cX7_madeAt 60 = .ok (.iload_n 1, 1) := by decide +kernel
theorem dX7_madeAt_61 : decode cX7_madeAt 61 = .ok (.iload_n 2, 1) := by decide +kernel
theorem dX7_madeAt_62 : decode cX7_madeAt 62 = .ok (.invokevirtual 172, 3) := by decide +kernel
theorem dX7_madeAt_65 : decode cX7_madeAt 65 = .ok (.invokevirtual 85, 3) := by decide +kernel
theorem dX7_madeAt_68 : decode cX7_madeAt 68 = .ok (.ireturn, 1) := by decide +kernel
def B_X7_madeAt_0 (X : Nat × (Nat → Int32)) (J : Nat → zCf) (R : zRt) : zCf := oALOAD 0 (oINV0 X M_X7_noTube 7 (oIFEQ (J 13) (oALOAD 0 (oPI (zj (1)) (oINV1 X M_X7_refuse 7 (oIRET R))))))
set_option maxRecDepth 100000 in
theorem vb_X7_madeAt_0 {X : Nat × (Nat → Int32)} {R : zRt} : ∀ ls st h, B_X7_madeAt_0 X (zV X M_X7_madeAt (zQm M_X7_madeAt R) 0 0) R ls st h → zV X M_X7_madeAt (zQm M_X7_madeAt R) 0 0 0 ls st h := sd_aload_n dX7_madeAt_0 rfl (sd_inv0 dX7_madeAt_1 rfl mv_X7_noTube na_X7_noTube ml_RX7_124 ⟨⟨Nat.le_of_ble_eq_true rfl, Nat.le_of_ble_eq_true rfl⟩, ⟨Nat.le_of_ble_eq_true rfl, Nat.le_of_ble_eq_true rfl⟩⟩ (sd_ifeq dX7_madeAt_4 rfl (fun _ _ _ h => h) (sd_aload_n dX7_madeAt_7 rfl (sd_iconst dX7_madeAt_8 rfl (sd_inv1 dX7_madeAt_9 rfl mv_X7_refuse na_X7_refuse ml_RX7_58 ⟨⟨Nat.le_of_ble_eq_true rfl, Nat.le_of_ble_eq_true rfl⟩, ⟨Nat.le_of_ble_eq_true rfl, Nat.le_of_ble_eq_true rfl⟩⟩ (sd_iret dX7_madeAt_12 rfl (Nat.le_of_ble_eq_true rfl) (Nat.le_of_ble_eq_true rfl)))))))
def B_X7_madeAt_13 (X : Nat × (Nat → Int32)) (J : Nat → zCf) (R : zRt) : zCf := oILOAD 1 (oINS1 X M_X7_isMadeLength (oIFNE (J 26) (oALOAD 0 (oPI (zj (2)) (oINV1 X M_X7_refuse 7 (oIRET R))))))
set_option maxRecDepth 100000 in
theorem vb_X7_madeAt_13 {X : Nat × (Nat → Int32)} {R : zRt} : ∀ ls st h, B_X7_madeAt_13 X (zV X M_X7_madeAt (zQm M_X7_madeAt R) 0 0) R ls st h → zV X M_X7_madeAt (zQm M_X7_madeAt R) 0 0 13 ls st h := sd_iload_n dX7_madeAt_13 rfl (sd_ins1 dX7_madeAt_14 ms_X7_isMadeLength na_X7_isMadeLength ml_RX7_184 ⟨⟨Nat.le_of_ble_eq_true rfl, Nat.le_of_ble_eq_true rfl⟩, ⟨Nat.le_of_ble_eq_true rfl, Nat.le_of_ble_eq_true rfl⟩⟩ (sd_ifne dX7_madeAt_17 rfl (fun _ _ _ h => h) (sd_aload_n dX7_madeAt_20 rfl (sd_iconst dX7_madeAt_21 rfl (sd_inv1 dX7_madeAt_22 rfl mv_X7_refuse na_X7_refuse ml_RX7_58 ⟨⟨Nat.le_of_ble_eq_true rfl, Nat.le_of_ble_eq_true rfl⟩, ⟨Nat.le_of_ble_eq_true rfl, Nat.le_of_ble_eq_true rfl⟩⟩ (sd_iret dX7_madeAt_25 rfl (Nat.le_of_ble_eq_true rfl) (Nat.le_of_ble_eq_true rfl)))))))
def B_X7_madeAt_26 (X : Nat × (Nat → Int32)) (J : Nat → zCf) (R : zRt) : zCf := oALOAD 0 (oPI (zj (1)) (oINV1 X M_X7_aimAt 7 (oILOAD 2 (oIFLT (J 49) (oILOAD 2 (oALOAD 0 (oGETR 7 3 (oILOAD 1 (oPI (zj (0)) (oPI (zj (0)) (oINV3 X M_X3_rowsToGoal 3 (oICLT (J 55) (J 49)))))))))))))
set_option maxRecDepth 100000 in
theorem vb_X7_madeAt_26 {X : Nat × (Nat → Int32)} {R : zRt} : ∀ ls st h, B_X7_madeAt_26 X (zV X M_X7_madeAt (zQm M_X7_madeAt R) 0 0) R ls st h → zV X M_X7_madeAt (zQm M_X7_madeAt R) 0 0 26 ls st h := sd_aload_n dX7_madeAt_26 rfl (sd_iconst dX7_madeAt_27 rfl (sd_inv1 dX7_madeAt_28 rfl mv_X7_aimAt na_X7_aimAt ml_RX7_166 ⟨⟨Nat.le_of_ble_eq_true rfl, Nat.le_of_ble_eq_true rfl⟩, ⟨Nat.le_of_ble_eq_true rfl, Nat.le_of_ble_eq_true rfl⟩⟩ (sd_iload_n dX7_madeAt_31 rfl (sd_iflt dX7_madeAt_32 rfl (fun _ _ _ h => h) (sd_iload_n dX7_madeAt_35 rfl (sd_aload_n dX7_madeAt_36 rfl (sd_getr dX7_madeAt_37 zCl7 (Nat.le_of_ble_eq_true rfl) lk_RX7_33 (Or.inl ⟨_, rfl⟩) (sd_iload_n dX7_madeAt_40 rfl (sd_iconst dX7_madeAt_41 rfl (sd_iconst dX7_madeAt_42 rfl (sd_inv3 dX7_madeAt_43 rfl mv_X3_rowsToGoal na_X3_rowsToGoal ml_RX7_187 ⟨⟨Nat.le_of_ble_eq_true rfl, Nat.le_of_ble_eq_true rfl⟩, ⟨Nat.le_of_ble_eq_true rfl, Nat.le_of_ble_eq_true rfl⟩⟩ (sd_iclt dX7_madeAt_46 rfl (fun _ _ _ h => h) (fun _ _ _ h => h)))))))))))))
def B_X7_madeAt_49 (X : Nat × (Nat → Int32)) (J : Nat → zCf) (R : zRt) : zCf := oALOAD 0 (oPI (zj (1)) (oINV1 X M_X7_refuse 7 (oIRET R)))
set_option maxRecDepth 100000 in
theorem vb_X7_madeAt_49 {X : Nat × (Nat → Int32)} {R : zRt} : ∀ ls st h, B_X7_madeAt_49 X (zV X M_X7_madeAt (zQm M_X7_madeAt R) 0 0) R ls st h → zV X M_X7_madeAt (zQm M_X7_madeAt R) 0 0 49 ls st h := sd_aload_n dX7_madeAt_49 rfl (sd_iconst dX7_madeAt_50 rfl (sd_inv1 dX7_madeAt_51 rfl mv_X7_refuse na_X7_refuse ml_RX7_58 ⟨⟨Nat.le_of_ble_eq_true rfl, Nat.le_of_ble_eq_true rfl⟩, ⟨Nat.le_of_ble_eq_true rfl, Nat.le_of_ble_eq_true rfl⟩⟩ (sd_iret dX7_madeAt_54 rfl (Nat.le_of_ble_eq_true rfl) (Nat.le_of_ble_eq_true rfl))))
def B_X7_madeAt_55 (X : Nat × (Nat → Int32)) (J : Nat → zCf) (R : zRt) : zCf := oALOAD 0 (oALOAD 0 (oGETR 7 3 (oILOAD 1 (oILOAD 2 (oINV2 X M_X3_rowAt 3 (oINV1 X M_X7_answer 7 (oIRET R)))))))
set_option maxRecDepth 100000 in
theorem vb_X7_madeAt_55 {X : Nat × (Nat → Int32)} {R : zRt} : ∀ ls st h, B_X7_madeAt_55 X (zV X M_X7_madeAt (zQm M_X7_madeAt R) 0 0) R ls st h → zV X M_X7_madeAt (zQm M_X7_madeAt R) 0 0 55 ls st h := sd_aload_n dX7_madeAt_55 rfl (sd_aload_n dX7_madeAt_56 rfl (sd_getr dX7_madeAt_57 zCl7 (Nat.le_of_ble_eq_true rfl) lk_RX7_33 (Or.inl ⟨_, rfl⟩) (sd_iload_n dX7_madeAt_60 rfl (sd_iload_n dX7_madeAt_61 rfl (sd_inv2 dX7_madeAt_62 rfl mv_X3_rowAt na_X3_rowAt ml_RX7_172 ⟨⟨Nat.le_of_ble_eq_true rfl, Nat.le_of_ble_eq_true rfl⟩, ⟨Nat.le_of_ble_eq_true rfl, Nat.le_of_ble_eq_true rfl⟩⟩ (sd_inv1 dX7_madeAt_65 rfl mv_X7_answer na_X7_answer ml_RX7_85 ⟨⟨Nat.le_of_ble_eq_true rfl, Nat.le_of_ble_eq_true rfl⟩, ⟨Nat.le_of_ble_eq_true rfl, Nat.le_of_ble_eq_true rfl⟩⟩ (sd_iret dX7_madeAt_68 rfl (Nat.le_of_ble_eq_true rfl) (Nat.le_of_ble_eq_true rfl))))))))
theorem dX7_fewestMade_0 : decode cX7_fewestMade 0 = .ok (.aload_n 0, 1) := by decide +kernel
theorem dX7_fewestMade_1 : decode cX7_fewestMade 1 = .ok (.invokevirtual 124, 3) := by decide +kernel
theorem dX7_fewestMade_4 : decode cX7_fewestMade 4 = .ok (.ifCond .eq 9, 3) := by decide +kernel
theorem dX7_fewestMade_7 : decode cX7_fewestMade 7 = .ok (.aload_n 0, 1) := by decide +kernel
theorem dX7_fewestMade_8 : decode cX7_fewestMade 8 = .ok (.iconst 1, 1) := by decide +kernel
theorem dX7_fewestMade_9 : decode cX7_fewestMade 9 = .ok (.invokevirtual 58, 3) := by decide +kernel
theorem dX7_fewestMade_12 : decode cX7_fewestMade 12 = .ok (.ireturn, 1) := by decide +kernel
theorem dX7_fewestMade_13 : decode cX7_fewestMade 13 = .ok (.aload_n 0, 1) := by decide +kernel
theorem dX7_fewestMade_14 : decode cX7_fewestMade 14 = .ok (.iconst 1, 1) := by decide +kernel
theorem dX7_fewestMade_15 : decode cX7_fewestMade 15 = .ok (.invokevirtual 166, 3) := by decide +kernel
theorem dX7_fewestMade_18 : decode cX7_fewestMade 18 = .ok (.aload_n 0, 1) := by decide +kernel
theorem dX7_fewestMade_19 : decode cX7_fewestMade 19 = .ok (.aload_n 0, 1) := by decide +kernel
theorem dX7_fewestMade_20 : decode cX7_fewestMade 20 = .ok (.getfield 33, 3) := by decide +kernel
theorem dX7_fewestMade_23 : decode cX7_fewestMade 23 = .ok (.iconst 4, 1) := by decide +kernel
theorem dX7_fewestMade_24 : decode cX7_fewestMade 24 = .ok (.invokevirtual 169, 3) := by decide +kernel
theorem dX7_fewestMade_27 : decode cX7_fewestMade 27 = .ok (.invokevirtual 85, 3) := by decide +kernel
theorem dX7_fewestMade_30 : decode cX7_fewestMade 30 = .ok (.ireturn, 1) := by decide +kernel
def B_X7_fewestMade_0 (X : Nat × (Nat → Int32)) (J : Nat → zCf) (R : zRt) : zCf := oALOAD 0 (oINV0 X M_X7_noTube 7 (oIFEQ (J 13) (oALOAD 0 (oPI (zj (1)) (oINV1 X M_X7_refuse 7 (oIRET R))))))
set_option maxRecDepth 100000 in
theorem vb_X7_fewestMade_0 {X : Nat × (Nat → Int32)} {R : zRt} : ∀ ls st h, B_X7_fewestMade_0 X (zV X M_X7_fewestMade (zQm M_X7_fewestMade R) 0 0) R ls st h → zV X M_X7_fewestMade (zQm M_X7_fewestMade R) 0 0 0 ls st h := sd_aload_n dX7_fewestMade_0 rfl (sd_inv0 dX7_fewestMade_1 rfl mv_X7_noTube na_X7_noTube ml_RX7_124 ⟨⟨Nat.le_of_ble_eq_true rfl, Nat.le_of_ble_eq_true rfl⟩, ⟨Nat.le_of_ble_eq_true rfl, Nat.le_of_ble_eq_true rfl⟩⟩ (sd_ifeq dX7_fewestMade_4 rfl (fun _ _ _ h => h) (sd_aload_n dX7_fewestMade_7 rfl (sd_iconst dX7_fewestMade_8 rfl (sd_inv1 dX7_fewestMade_9 rfl mv_X7_refuse na_X7_refuse ml_RX7_58 ⟨⟨Nat.le_of_ble_eq_true rfl, Nat.le_of_ble_eq_true rfl⟩, ⟨Nat.le_of_ble_eq_true rfl, Nat.le_of_ble_eq_true rfl⟩⟩ (sd_iret dX7_fewestMade_12 rfl (Nat.le_of_ble_eq_true rfl) (Nat.le_of_ble_eq_true rfl)))))))
def B_X7_fewestMade_13 (X : Nat × (Nat → Int32)) (J : Nat → zCf) (R : zRt) : zCf := oALOAD 0 (oPI (zj (1)) (oINV1 X M_X7_aimAt 7 (oALOAD 0 (oALOAD 0 (oGETR 7 3 (oPI (zj (4)) (oINV1 X M_X3_fewestTurns 3 (oINV1 X M_X7_answer 7 (oIRET R)))))))))
set_option maxRecDepth 100000 in
theorem vb_X7_fewestMade_13 {X : Nat × (Nat → Int32)} {R : zRt} : ∀ ls st h, B_X7_fewestMade_13 X (zV X M_X7_fewestMade (zQm M_X7_fewestMade R) 0 0) R ls st h → zV X M_X7_fewestMade (zQm M_X7_fewestMade R) 0 0 13 ls st h := sd_aload_n dX7_fewestMade_13 rfl (sd_iconst dX7_fewestMade_14 rfl (sd_inv1 dX7_fewestMade_15 rfl mv_X7_aimAt na_X7_aimAt ml_RX7_166 ⟨⟨Nat.le_of_ble_eq_true rfl, Nat.le_of_ble_eq_true rfl⟩, ⟨Nat.le_of_ble_eq_true rfl, Nat.le_of_ble_eq_true rfl⟩⟩ (sd_aload_n dX7_fewestMade_18 rfl (sd_aload_n dX7_fewestMade_19 rfl (sd_getr dX7_fewestMade_20 zCl7 (Nat.le_of_ble_eq_true rfl) lk_RX7_33 (Or.inl ⟨_, rfl⟩) (sd_iconst dX7_fewestMade_23 rfl (sd_inv1 dX7_fewestMade_24 rfl mv_X3_fewestTurns na_X3_fewestTurns ml_RX7_169 ⟨⟨Nat.le_of_ble_eq_true rfl, Nat.le_of_ble_eq_true rfl⟩, ⟨Nat.le_of_ble_eq_true rfl, Nat.le_of_ble_eq_true rfl⟩⟩ (sd_inv1 dX7_fewestMade_27 rfl mv_X7_answer na_X7_answer ml_RX7_85 ⟨⟨Nat.le_of_ble_eq_true rfl, Nat.le_of_ble_eq_true rfl⟩, ⟨Nat.le_of_ble_eq_true rfl, Nat.le_of_ble_eq_true rfl⟩⟩ (sd_iret dX7_fewestMade_30 rfl (Nat.le_of_ble_eq_true rfl) (Nat.le_of_ble_eq_true rfl))))))))))
theorem dX7_same_0 : decode cX7_same 0 = .ok (.aload_n 0, 1) := by decide +kernel
theorem dX7_same_1 : decode cX7_same 1 = .ok (.invokevirtual 124, 3) := by decide +kernel
theorem dX7_same_4 : decode cX7_same 4 = .ok (.ifCond .eq 9, 3) := by decide +kernel
theorem dX7_same_7 : decode cX7_same 7 = .ok (.aload_n 0, 1) := by decide +kernel
theorem dX7_same_8 : decode cX7_same 8 = .ok (.iconst 1, 1) := by decide +kernel
theorem dX7_same_9 : decode cX7_same 9 = .ok (.invokevirtual 58, 3) := by decide +kernel
theorem dX7_same_12 : decode cX7_same 12 = .ok (.ireturn, 1) := by decide +kernel
theorem dX7_same_13 : decode cX7_same 13 = .ok (.iload_n 1, 1) := by decide +kernel
theorem dX7_same_14 : decode cX7_same 14 = .ok (.invokestatic 184, 3) := by decide +kernel
theorem dX7_same_17 : decode cX7_same 17 = .ok (.ifCond .ne 9, 3) := by decide +kernel
theorem dX7_same_20 : decode cX7_same 20 = .ok (.aload_n 0, 1) := by decide +kernel
theorem dX7_same_21 : decode cX7_same 21 = .ok (.iconst 2, 1) := by decide +kernel
theorem dX7_same_22 : decode cX7_same 22 = .ok (.invokevirtual 58, 3) := by decide +kernel
theorem dX7_same_25 : decode cX7_same 25 = .ok (.ireturn, 1) := by decide +kernel
theorem dX7_same_26 : decode cX7_same 26 = .ok (.aload_n 0, 1) := by decide +kernel
theorem dX7_same_27 : decode cX7_same 27 = .ok (.iconst 2, 1) := by decide +kernel
theorem dX7_same_28 : decode cX7_same 28 = .ok (.invokevirtual 166, 3) := by decide +kernel
theorem dX7_same_31 : decode cX7_same 31 = .ok (.aload_n 0, 1) := by decide +kernel
theorem dX7_same_32 : decode cX7_same 32 = .ok (.aload_n 0, 1) := by decide +kernel
theorem dX7_same_33 : decode cX7_same 33 = .ok (.getfield 33, 3) := by decide +kernel
theorem dX7_same_36 : decode cX7_same 36 = .ok (.iload_n 1, 1) := by decide +kernel
theorem dX7_same_37 : decode cX7_same 37 = .ok (.iconst 0, 1) := by decide +kernel
theorem dX7_same_38 : decode cX7_same 38 = .ok (.iconst 0, 1) := by decide +kernel
theorem dX7_same_39 : decode cX7_same 39 = .ok (.invokevirtual 187, 3) := by decide +kernel
theorem dX7_same_42 : decode cX7_same 42 = .ok (.invokevirtual 85, 3) := by decide +kernel
theorem dX7_same_45 : decode cX7_same 45 = .ok (.ireturn, 1) := by decide +kernel
def B_X7_same_0 (X : Nat × (Nat → Int32)) (J : Nat → zCf) (R : zRt) : zCf := oALOAD 0 (oINV0 X M_X7_noTube 7 (oIFEQ (J 13) (oALOAD 0 (oPI (zj (1)) (oINV1 X M_X7_refuse 7 (oIRET R))))))
set_option maxRecDepth 100000 in
theorem vb_X7_same_0 {X : Nat × (Nat → Int32)} {R : zRt} : ∀ ls st h, B_X7_same_0 X (zV X M_X7_same (zQm M_X7_same R) 0 0) R ls st h → zV X M_X7_same (zQm M_X7_same R) 0 0 0 ls st h := sd_aload_n dX7_same_0 rfl (sd_inv0 dX7_same_1 rfl mv_X7_noTube na_X7_noTube ml_RX7_124 ⟨⟨Nat.le_of_ble_eq_true rfl, Nat.le_of_ble_eq_true rfl⟩, ⟨Nat.le_of_ble_eq_true rfl, Nat.le_of_ble_eq_true rfl⟩⟩ (sd_ifeq dX7_same_4 rfl (fun _ _ _ h => h) (sd_aload_n dX7_same_7 rfl (sd_iconst dX7_same_8 rfl (sd_inv1 dX7_same_9 rfl mv_X7_refuse na_X7_refuse ml_RX7_58 ⟨⟨Nat.le_of_ble_eq_true rfl, Nat.le_of_ble_eq_true rfl⟩, ⟨Nat.le_of_ble_eq_true rfl, Nat.le_of_ble_eq_true rfl⟩⟩ (sd_iret dX7_same_12 rfl (Nat.le_of_ble_eq_true rfl) (Nat.le_of_ble_eq_true rfl)))))))
def B_X7_same_13 (X : Nat × (Nat → Int32)) (J : Nat → zCf) (R : zRt) : zCf := oILOAD 1 (oINS1 X M_X7_isMadeLength (oIFNE (J 26) (oALOAD 0 (oPI (zj (2)) (oINV1 X M_X7_refuse 7 (oIRET R))))))
set_option maxRecDepth 100000 in
theorem vb_X7_same_13 {X : Nat × (Nat → Int32)} {R : zRt} : ∀ ls st h, B_X7_same_13 X (zV X M_X7_same (zQm M_X7_same R) 0 0) R ls st h → zV X M_X7_same (zQm M_X7_same R) 0 0 13 ls st h := sd_iload_n dX7_same_13 rfl (sd_ins1 dX7_same_14 ms_X7_isMadeLength na_X7_isMadeLength ml_RX7_184 ⟨⟨Nat.le_of_ble_eq_true rfl, Nat.le_of_ble_eq_true rfl⟩, ⟨Nat.le_of_ble_eq_true rfl, Nat.le_of_ble_eq_true rfl⟩⟩ (sd_ifne dX7_same_17 rfl (fun _ _ _ h => h) (sd_aload_n dX7_same_20 rfl (sd_iconst dX7_same_21 rfl (sd_inv1 dX7_same_22 rfl mv_X7_refuse na_X7_refuse ml_RX7_58 ⟨⟨Nat.le_of_ble_eq_true rfl, Nat.le_of_ble_eq_true rfl⟩, ⟨Nat.le_of_ble_eq_true rfl, Nat.le_of_ble_eq_true rfl⟩⟩ (sd_iret dX7_same_25 rfl (Nat.le_of_ble_eq_true rfl) (Nat.le_of_ble_eq_true rfl)))))))
def B_X7_same_26 (X : Nat × (Nat → Int32)) (J : Nat → zCf) (R : zRt) : zCf := oALOAD 0 (oPI (zj (2)) (oINV1 X M_X7_aimAt 7 (oALOAD 0 (oALOAD 0 (oGETR 7 3 (oILOAD 1 (oPI (zj (0)) (oPI (zj (0)) (oINV3 X M_X3_rowsToGoal 3 (oINV1 X M_X7_answer 7 (oIRET R)))))))))))
set_option maxRecDepth 100000 in
theorem vb_X7_same_26 {X : Nat × (Nat → Int32)} {R : zRt} : ∀ ls st h, B_X7_same_26 X (zV X M_X7_same (zQm M_X7_same R) 0 0) R ls st h → zV X M_X7_same (zQm M_X7_same R) 0 0 26 ls st h := sd_aload_n dX7_same_26 rfl (sd_iconst dX7_same_27 rfl (sd_inv1 dX7_same_28 rfl mv_X7_aimAt na_X7_aimAt ml_RX7_166 ⟨⟨Nat.le_of_ble_eq_true rfl, Nat.le_of_ble_eq_true rfl⟩, ⟨Nat.le_of_ble_eq_true rfl, Nat.le_of_ble_eq_true rfl⟩⟩ (sd_aload_n dX7_same_31 rfl (sd_aload_n dX7_same_32 rfl (sd_getr dX7_same_33 zCl7 (Nat.le_of_ble_eq_true rfl) lk_RX7_33 (Or.inl ⟨_, rfl⟩) (sd_iload_n dX7_same_36 rfl (sd_iconst dX7_same_37 rfl (sd_iconst dX7_same_38 rfl (sd_inv3 dX7_same_39 rfl mv_X3_rowsToGoal na_X3_rowsToGoal ml_RX7_187 ⟨⟨Nat.le_of_ble_eq_true rfl, Nat.le_of_ble_eq_true rfl⟩, ⟨Nat.le_of_ble_eq_true rfl, Nat.le_of_ble_eq_true rfl⟩⟩ (sd_inv1 dX7_same_42 rfl mv_X7_answer na_X7_answer ml_RX7_85 ⟨⟨Nat.le_of_ble_eq_true rfl, Nat.le_of_ble_eq_true rfl⟩, ⟨Nat.le_of_ble_eq_true rfl, Nat.le_of_ble_eq_true rfl⟩⟩ (sd_iret dX7_same_45 rfl (Nat.le_of_ble_eq_true rfl) (Nat.le_of_ble_eq_true rfl))))))))))))
theorem dX7_joins_0 : decode cX7_joins 0 = .ok (.aload_n 0, 1) := by decide +kernel
theorem dX7_joins_1 : decode cX7_joins 1 = .ok (.invokevirtual 124, 3) := by decide +kernel
theorem dX7_joins_4 : decode cX7_joins 4 = .ok (.ifCond .eq 9, 3) := by decide +kernel
theorem dX7_joins_7 : decode cX7_joins 7 = .ok (.aload_n 0, 1) := by decide +kernel
theorem dX7_joins_8 : decode cX7_joins 8 = .ok (.iconst 1, 1) := by decide +kernel
theorem dX7_joins_9 : decode cX7_joins 9 = .ok (.invokevirtual 58, 3) := by decide +kernel
theorem dX7_joins_12 : decode cX7_joins 12 = .ok (.ireturn, 1) := by decide +kernel
theorem dX7_joins_13 : decode cX7_joins 13 = .ok (.iload_n 1, 1) := by decide +kernel
theorem dX7_joins_14 : decode cX7_joins 14 = .ok (.invokestatic 137, 3) := by decide +kernel
theorem dX7_joins_17 : decode cX7_joins 17 = .ok (.ifCond .ne 9, 3) := by decide +kernel
theorem dX7_joins_20 : decode cX7_joins 20 = .ok (.aload_n 0, 1) := by decide +kernel
theorem dX7_joins_21 : decode cX7_joins 21 = .ok (.iconst 2, 1) := by decide +kernel
theorem dX7_joins_22 : decode cX7_joins 22 = .ok (.invokevirtual 58, 3) := by decide +kernel
theorem dX7_joins_25 : decode cX7_joins 25 = .ok (.ireturn, 1) := by decide +kernel
theorem dX7_joins_26 : decode cX7_joins 26 = .ok (.aload_n 0, 1) := by decide +kernel
theorem dX7_joins_27 : decode cX7_joins 27 = .ok (.aload_n 0, 1) := by decide +kernel
theorem dX7_joins_28 : decode cX7_joins 28 = .ok (.getfield 19, 3) := by decide +kernel
theorem dX7_joins_31 : decode cX7_joins 31 = .ok (.iload_n 1, 1) := by decide +kernel
theorem dX7_joins_32 : decode cX7_joins 32 = .ok (.iconst 0, 1) := by decide +kernel
theorem dX7_joins_33 : decode cX7_joins 33 = .ok (.invokevirtual 140, 3) := by decide +kernel
theorem dX7_joins_36 : decode cX7_joins 36 = .ok (.invokestatic 190, 3) := by decide +kernel
theorem dX7_joins_39 : decode cX7_joins 39 = .ok (.aload_n 0, 1) := by decide +kernel
theorem dX7_joins_40 : decode cX7_joins 40 = .ok (.getfield 19, 3) := by decide +kernel
theorem dX7_joins_43 : decode cX7_joins 43 = .ok (.iload_n 1, 1) := by decide +kernel
theorem dX7_joins_44 : decode cX7_joins 44 = .ok (.bipush 11, 2) := by decide +kernel
theorem dX7_joins_46 : decode cX7_joins 46 = .ok (.invokevirtual 140, 3) := by decide +kernel
theorem dX7_joins_49 : decode cX7_joins 49 = .ok (.invokestatic 190, 3) := by decide +kernel
theorem dX7_joins_52 : decode cX7_joins 52 = .ok (.ior, 1) := by decide +kernel
theorem dX7_joins_53 : decode cX7_joins 53 = .ok (.invokevirtual 85, 3) := by decide +kernel
theorem dX7_joins_56 : decode cX7_joins 56 = .ok (.ireturn, 1) := by decide +kernel
def B_X7_joins_0 (X : Nat × (Nat → Int32)) (J : Nat → zCf) (R : zRt) : zCf := oALOAD 0 (oINV0 X M_X7_noTube 7 (oIFEQ (J 13) (oALOAD 0 (oPI (zj (1)) (oINV1 X M_X7_refuse 7 (oIRET R))))))
set_option maxRecDepth 100000 in
theorem vb_X7_joins_0 {X : Nat × (Nat → Int32)} {R : zRt} : ∀ ls st h, B_X7_joins_0 X (zV X M_X7_joins (zQm M_X7_joins R) 0 0) R ls st h → zV X M_X7_joins (zQm M_X7_joins R) 0 0 0 ls st h := sd_aload_n dX7_joins_0 rfl (sd_inv0 dX7_joins_1 rfl mv_X7_noTube na_X7_noTube ml_RX7_124 ⟨⟨Nat.le_of_ble_eq_true rfl, Nat.le_of_ble_eq_true rfl⟩, ⟨Nat.le_of_ble_eq_true rfl, Nat.le_of_ble_eq_true rfl⟩⟩ (sd_ifeq dX7_joins_4 rfl (fun _ _ _ h => h) (sd_aload_n dX7_joins_7 rfl (sd_iconst dX7_joins_8 rfl (sd_inv1 dX7_joins_9 rfl mv_X7_refuse na_X7_refuse ml_RX7_58 ⟨⟨Nat.le_of_ble_eq_true rfl, Nat.le_of_ble_eq_true rfl⟩, ⟨Nat.le_of_ble_eq_true rfl, Nat.le_of_ble_eq_true rfl⟩⟩ (sd_iret dX7_joins_12 rfl (Nat.le_of_ble_eq_true rfl) (Nat.le_of_ble_eq_true rfl)))))))
def B_X7_joins_13 (X : Nat × (Nat → Int32)) (J : Nat → zCf) (R : zRt) : zCf := oILOAD 1 (oINS1 X M_X7_isCountry (oIFNE (J 26) (oALOAD 0 (oPI (zj (2)) (oINV1 X M_X7_refuse 7 (oIRET R))))))
set_option maxRecDepth 100000 in
theorem vb_X7_joins_13 {X : Nat × (Nat → Int32)} {R : zRt} : ∀ ls st h, B_X7_joins_13 X (zV X M_X7_joins (zQm M_X7_joins R) 0 0) R ls st h → zV X M_X7_joins (zQm M_X7_joins R) 0 0 13 ls st h := sd_iload_n dX7_joins_13 rfl (sd_ins1 dX7_joins_14 ms_X7_isCountry na_X7_isCountry ml_RX7_137 ⟨⟨Nat.le_of_ble_eq_true rfl, Nat.le_of_ble_eq_true rfl⟩, ⟨Nat.le_of_ble_eq_true rfl, Nat.le_of_ble_eq_true rfl⟩⟩ (sd_ifne dX7_joins_17 rfl (fun _ _ _ h => h) (sd_aload_n dX7_joins_20 rfl (sd_iconst dX7_joins_21 rfl (sd_inv1 dX7_joins_22 rfl mv_X7_refuse na_X7_refuse ml_RX7_58 ⟨⟨Nat.le_of_ble_eq_true rfl, Nat.le_of_ble_eq_true rfl⟩, ⟨Nat.le_of_ble_eq_true rfl, Nat.le_of_ble_eq_true rfl⟩⟩ (sd_iret dX7_joins_25 rfl (Nat.le_of_ble_eq_true rfl) (Nat.le_of_ble_eq_true rfl)))))))
def B_X7_joins_26 (X : Nat × (Nat → Int32)) (J : Nat → zCf) (R : zRt) : zCf := oALOAD 0 (oALOAD 0 (oGETR 7 1 (oILOAD 1 (oPI (zj (0)) (oINV2 X M_X4_shownAt 4 (oINS1 X M_X7_asBit (oALOAD 0 (oGETR 7 1 (oILOAD 1 (oPI (zj (11)) (oINV2 X M_X4_shownAt 4 (oINS1 X M_X7_asBit (oIOR (oINV1 X M_X7_answer 7 (oIRET R)))))))))))))))
set_option maxRecDepth 100000 in
theorem vb_X7_joins_26 {X : Nat × (Nat → Int32)} {R : zRt} : ∀ ls st h, B_X7_joins_26 X (zV X M_X7_joins (zQm M_X7_joins R) 0 0) R ls st h → zV X M_X7_joins (zQm M_X7_joins R) 0 0 26 ls st h := sd_aload_n dX7_joins_26 rfl (sd_aload_n dX7_joins_27 rfl (sd_getr dX7_joins_28 zCl7 (Nat.le_of_ble_eq_true rfl) lk_RX7_19 (Or.inl ⟨_, rfl⟩) (sd_iload_n dX7_joins_31 rfl (sd_iconst dX7_joins_32 rfl (sd_inv2 dX7_joins_33 rfl mv_X4_shownAt na_X4_shownAt ml_RX7_140 ⟨⟨Nat.le_of_ble_eq_true rfl, Nat.le_of_ble_eq_true rfl⟩, ⟨Nat.le_of_ble_eq_true rfl, Nat.le_of_ble_eq_true rfl⟩⟩ (sd_ins1 dX7_joins_36 ms_X7_asBit na_X7_asBit ml_RX7_190 ⟨⟨Nat.le_of_ble_eq_true rfl, Nat.le_of_ble_eq_true rfl⟩, ⟨Nat.le_of_ble_eq_true rfl, Nat.le_of_ble_eq_true rfl⟩⟩ (sd_aload_n dX7_joins_39 rfl (sd_getr dX7_joins_40 zCl7 (Nat.le_of_ble_eq_true rfl) lk_RX7_19 (Or.inl ⟨_, rfl⟩) (sd_iload_n dX7_joins_43 rfl (sd_bipush dX7_joins_44 rfl (sd_inv2 dX7_joins_46 rfl mv_X4_shownAt na_X4_shownAt ml_RX7_140 ⟨⟨Nat.le_of_ble_eq_true rfl, Nat.le_of_ble_eq_true rfl⟩, ⟨Nat.le_of_ble_eq_true rfl, Nat.le_of_ble_eq_true rfl⟩⟩ (sd_ins1 dX7_joins_49 ms_X7_asBit na_X7_asBit ml_RX7_190 ⟨⟨Nat.le_of_ble_eq_true rfl, Nat.le_of_ble_eq_true rfl⟩, ⟨Nat.le_of_ble_eq_true rfl, Nat.le_of_ble_eq_true rfl⟩⟩ (sd_ior dX7_joins_52 (sd_inv1 dX7_joins_53 rfl mv_X7_answer na_X7_answer ml_RX7_85 ⟨⟨Nat.le_of_ble_eq_true rfl, Nat.le_of_ble_eq_true rfl⟩, ⟨Nat.le_of_ble_eq_true rfl, Nat.le_of_ble_eq_true rfl⟩⟩ (sd_iret dX7_joins_56 rfl (Nat.le_of_ble_eq_true rfl) (Nat.le_of_ble_eq_true rfl))))))))))))))))
theorem dX7_alike_0 : decode cX7_alike 0 = .ok (.aload_n 0, 1) := by decide +kernel
theorem dX7_alike_1 : decode cX7_alike 1 = .ok (.invokevirtual 124, 3) := by decide +kernel
theorem dX7_alike_4 : decode cX7_alike 4 = .ok (.ifCond .eq 9, 3) := by decide +kernel
theorem dX7_alike_7 : decode cX7_alike 7 = .ok (.aload_n 0, 1) := by decide +kernel
theorem dX7_alike_8 : decode cX7_alike 8 = .ok (.iconst 1, 1) := by decide +kernel
theorem dX7_alike_9 : decode cX7_alike 9 = .ok (.invokevirtual 58, 3) := by decide +kernel
theorem dX7_alike_12 : decode cX7_alike 12 = .ok (.ireturn, 1) := by decide +kernel
theorem dX7_alike_13 : decode cX7_alike 13 = .ok (.iload_n 1, 1) := by decide +kernel
theorem dX7_alike_14 : decode cX7_alike 14 = .ok (.invokestatic 137, 3) := by decide +kernel
theorem dX7_alike_17 : decode cX7_alike 17 = .ok (.ifCond .eq 10, 3) := by decide +kernel
theorem dX7_alike_20 : decode cX7_alike 20 = .ok (.iload_n 2, 1) := by decide +kernel
theorem dX7_alike_21 : decode cX7_alike 21 = .ok (.invokestatic 137, 3) := by decide +kernel
theorem dX7_alike_24 : decode cX7_alike 24 = .ok (.ifCond .ne 9, 3) := by decide +kernel
theorem dX7_alike_27 : decode cX7_alike 27 = .ok (.aload_n 0, 1) := by decide +kernel
theorem dX7_alike_28 : decode cX7_alike 28 = .ok (.iconst 2, 1) := by decide +kernel
theorem dX7_alike_29 : decode cX7_alike 29 = .ok (.invokevirtual 58, 3) := by decide +kernel
theorem dX7_alike_32 : decode cX7_alike 32 = .ok (.ireturn, 1) := by decide +kernel
theorem dX7_alike_33 : decode cX7_alike 33 = .ok (.iconst 0, 1) := by decide +kernel
theorem dX7_alike_34 : decode cX7_alike 34 = .ok (.istore_n 3, 1) := by decide +kernel
theorem dX7_alike_35 : decode cX7_alike 35 = .ok (.iconst 0, 1) := by decide +kernel
theorem dX7_alike_36 : decode cX7_alike 36 = .ok (.istore 4, 2) := by decide +kernel
theorem dX7_alike_38 : decode cX7_alike 38 = .ok (.iload 4, 2) := by decide +kernel
theorem dX7_alike_40 : decode cX7_alike 40 = .ok (.bipush 12, 2) := by decide +kernel
theorem dX7_alike_42 : decode cX7_alike 42 = .ok (.if_icmp .ge 35, 3) := by decide +kernel
theorem dX7_alike_45 : decode cX7_alike 45 = .ok (.aload_n 0, 1) := by decide +kernel
theorem dX7_alike_46 : decode cX7_alike 46 = .ok (.getfield 19, 3) := by decide +kernel
theorem dX7_alike_49 : decode cX7_alike 49 = .ok (.iload_n 1, 1) := by decide +kernel
theorem dX7_alike_50 : decode cX7_alike 50 = .ok (.iload 4, 2) := by decide +kernel
theorem dX7_alike_52 : decode cX7_alike 52 = .ok (.invokevirtual 140, 3) := by decide +kernel
theorem dX7_alike_55 : decode cX7_alike 55 = .ok (.aload_n 0, 1) := by decide +kernel
theorem dX7_alike_56 : decode cX7_alike 56 = .ok (.getfield 19, 3) := by decide +kernel
theorem dX7_alike_59 : decode cX7_alike 59 = .ok (.iload_n 2, 1) := by decide +kernel
theorem dX7_alike_60 : decode cX7_alike 60 = .ok (.iload 4, 2) := by decide +kernel
theorem dX7_alike_62 : decode cX7_alike 62 = .ok (.invokevirtual 140, 3) := by decide +kernel
theorem dX7_alike_65 : decode cX7_alike 65 = .ok (.if_icmp .ne 6, 3) := by decide +kernel
theorem dX7_alike_68 : decode cX7_alike 68 = .ok (.iinc 3 1, 3) := by decide +kernel
theorem dX7_alike_71 : decode cX7_alike 71 = .ok (.iinc 4 1, 3) := by decide +kernel
theorem dX7_alike_74 : decode cX7_alike 74 = .ok (.goto (-36), 3) := by decide +kernel
theorem dX7_alike_77 : decode cX7_alike 77 = .ok (.aload_n 0, 1) := by decide +kernel
theorem dX7_alike_78 : decode cX7_alike 78 = .ok (.iload_n 3, 1) := by decide +kernel
theorem dX7_alike_79 : decode cX7_alike 79 = .ok (.invokevirtual 85, 3) := by decide +kernel
theorem dX7_alike_82 : decode cX7_alike 82 = .ok (.ireturn, 1) := by decide +kernel
def B_X7_alike_0 (X : Nat × (Nat → Int32)) (J : Nat → zCf) (R : zRt) : zCf := oALOAD 0 (oINV0 X M_X7_noTube 7 (oIFEQ (J 13) (oALOAD 0 (oPI (zj (1)) (oINV1 X M_X7_refuse 7 (oIRET R))))))
set_option maxRecDepth 100000 in
theorem vb_X7_alike_0 {X : Nat × (Nat → Int32)} {R : zRt} : ∀ ls st h, B_X7_alike_0 X (zV X M_X7_alike (zQm M_X7_alike R) 0 0) R ls st h → zV X M_X7_alike (zQm M_X7_alike R) 0 0 0 ls st h := sd_aload_n dX7_alike_0 rfl (sd_inv0 dX7_alike_1 rfl mv_X7_noTube na_X7_noTube ml_RX7_124 ⟨⟨Nat.le_of_ble_eq_true rfl, Nat.le_of_ble_eq_true rfl⟩, ⟨Nat.le_of_ble_eq_true rfl, Nat.le_of_ble_eq_true rfl⟩⟩ (sd_ifeq dX7_alike_4 rfl (fun _ _ _ h => h) (sd_aload_n dX7_alike_7 rfl (sd_iconst dX7_alike_8 rfl (sd_inv1 dX7_alike_9 rfl mv_X7_refuse na_X7_refuse ml_RX7_58 ⟨⟨Nat.le_of_ble_eq_true rfl, Nat.le_of_ble_eq_true rfl⟩, ⟨Nat.le_of_ble_eq_true rfl, Nat.le_of_ble_eq_true rfl⟩⟩ (sd_iret dX7_alike_12 rfl (Nat.le_of_ble_eq_true rfl) (Nat.le_of_ble_eq_true rfl)))))))
def B_X7_alike_13 (X : Nat × (Nat → Int32)) (J : Nat → zCf) (R : zRt) : zCf := oILOAD 1 (oINS1 X M_X7_isCountry (oIFEQ (J 27) (oILOAD 2 (oINS1 X M_X7_isCountry (oIFNE (J 33) (J 27))))))
set_option maxRecDepth 100000 in
theorem vb_X7_alike_13 {X : Nat × (Nat → Int32)} {R : zRt} : ∀ ls st h, B_X7_alike_13 X (zV X M_X7_alike (zQm M_X7_alike R) 0 0) R ls st h → zV X M_X7_alike (zQm M_X7_alike R) 0 0 13 ls st h := sd_iload_n dX7_alike_13 rfl (sd_ins1 dX7_alike_14 ms_X7_isCountry na_X7_isCountry ml_RX7_137 ⟨⟨Nat.le_of_ble_eq_true rfl, Nat.le_of_ble_eq_true rfl⟩, ⟨Nat.le_of_ble_eq_true rfl, Nat.le_of_ble_eq_true rfl⟩⟩ (sd_ifeq dX7_alike_17 rfl (fun _ _ _ h => h) (sd_iload_n dX7_alike_20 rfl (sd_ins1 dX7_alike_21 ms_X7_isCountry na_X7_isCountry ml_RX7_137 ⟨⟨Nat.le_of_ble_eq_true rfl, Nat.le_of_ble_eq_true rfl⟩, ⟨Nat.le_of_ble_eq_true rfl, Nat.le_of_ble_eq_true rfl⟩⟩ (sd_ifne dX7_alike_24 rfl (fun _ _ _ h => h) (fun _ _ _ h => h))))))
def B_X7_alike_27 (X : Nat × (Nat → Int32)) (J : Nat → zCf) (R : zRt) : zCf := oALOAD 0 (oPI (zj (2)) (oINV1 X M_X7_refuse 7 (oIRET R)))
set_option maxRecDepth 100000 in
theorem vb_X7_alike_27 {X : Nat × (Nat → Int32)} {R : zRt} : ∀ ls st h, B_X7_alike_27 X (zV X M_X7_alike (zQm M_X7_alike R) 0 0) R ls st h → zV X M_X7_alike (zQm M_X7_alike R) 0 0 27 ls st h := sd_aload_n dX7_alike_27 rfl (sd_iconst dX7_alike_28 rfl (sd_inv1 dX7_alike_29 rfl mv_X7_refuse na_X7_refuse ml_RX7_58 ⟨⟨Nat.le_of_ble_eq_true rfl, Nat.le_of_ble_eq_true rfl⟩, ⟨Nat.le_of_ble_eq_true rfl, Nat.le_of_ble_eq_true rfl⟩⟩ (sd_iret dX7_alike_32 rfl (Nat.le_of_ble_eq_true rfl) (Nat.le_of_ble_eq_true rfl))))
def B_X7_alike_33 (X : Nat × (Nat → Int32)) (J : Nat → zCf) (R : zRt) : zCf := oPI (zj (0)) (oISTORE 2 3 (oPI (zj (0)) (oISTORE 3 4 (J 38))))
set_option maxRecDepth 100000 in
theorem vb_X7_alike_33 {X : Nat × (Nat → Int32)} {R : zRt} : ∀ ls st h, B_X7_alike_33 X (zV X M_X7_alike (zQm M_X7_alike R) 0 0) R ls st h → zV X M_X7_alike (zQm M_X7_alike R) 0 0 33 ls st h := sd_iconst dX7_alike_33 rfl (sd_istore_n dX7_alike_34 rfl (Nat.le_of_ble_eq_true rfl) (Or.inl rfl) (sd_iconst dX7_alike_35 rfl (sd_istore dX7_alike_36 (Nat.le_of_ble_eq_true rfl) (Or.inl rfl) (fun _ _ _ h => h))))
def B_X7_alike_38 (X : Nat × (Nat → Int32)) (J : Nat → zCf) (R : zRt) : zCf := oILOAD 4 (oPI (zj (12)) (oICGE (J 77) (oALOAD 0 (oGETR 7 1 (oILOAD 1 (oILOAD 4 (oINV2 X M_X4_shownAt 4 (oALOAD 0 (oGETR 7 1 (oILOAD 2 (oILOAD 4 (oINV2 X M_X4_shownAt 4 (oICNE (J 71) (oIINC 2 3 (zj (1)) (J 71)))))))))))))))
set_option maxRecDepth 100000 in
theorem vb_X7_alike_38 {X : Nat × (Nat → Int32)} {R : zRt} : ∀ ls st h, B_X7_alike_38 X (zV X M_X7_alike (zQm M_X7_alike R) 0 0) R ls st h → zV X M_X7_alike (zQm M_X7_alike R) 0 0 38 ls st h := sd_iload dX7_alike_38 (sd_bipush dX7_alike_40 rfl (sd_icge dX7_alike_42 rfl (fun _ _ _ h => h) (sd_aload_n dX7_alike_45 rfl (sd_getr dX7_alike_46 zCl7 (Nat.le_of_ble_eq_true rfl) lk_RX7_19 (Or.inl ⟨_, rfl⟩) (sd_iload_n dX7_alike_49 rfl (sd_iload dX7_alike_50 (sd_inv2 dX7_alike_52 rfl mv_X4_shownAt na_X4_shownAt ml_RX7_140 ⟨⟨Nat.le_of_ble_eq_true rfl, Nat.le_of_ble_eq_true rfl⟩, ⟨Nat.le_of_ble_eq_true rfl, Nat.le_of_ble_eq_true rfl⟩⟩ (sd_aload_n dX7_alike_55 rfl (sd_getr dX7_alike_56 zCl7 (Nat.le_of_ble_eq_true rfl) lk_RX7_19 (Or.inl ⟨_, rfl⟩) (sd_iload_n dX7_alike_59 rfl (sd_iload dX7_alike_60 (sd_inv2 dX7_alike_62 rfl mv_X4_shownAt na_X4_shownAt ml_RX7_140 ⟨⟨Nat.le_of_ble_eq_true rfl, Nat.le_of_ble_eq_true rfl⟩, ⟨Nat.le_of_ble_eq_true rfl, Nat.le_of_ble_eq_true rfl⟩⟩ (sd_icne dX7_alike_65 rfl (fun _ _ _ h => h) (sd_iinc dX7_alike_68 rfl (Nat.le_of_ble_eq_true rfl) (Or.inl rfl) (fun _ _ _ h => h)))))))))))))))
def B_X7_alike_71 (X : Nat × (Nat → Int32)) (J : Nat → zCf) (R : zRt) : zCf := oIINC 3 4 (zj (1)) (J 38)
set_option maxRecDepth 100000 in
theorem vb_X7_alike_71 {X : Nat × (Nat → Int32)} {R : zRt} : ∀ ls st h, B_X7_alike_71 X (zV X M_X7_alike (zQm M_X7_alike R) 0 0) R ls st h → zV X M_X7_alike (zQm M_X7_alike R) 0 0 71 ls st h := sd_iinc dX7_alike_71 rfl (Nat.le_of_ble_eq_true rfl) (Or.inl rfl) (sd_goto dX7_alike_74 rfl (fun _ _ _ h => h))
def B_X7_alike_77 (X : Nat × (Nat → Int32)) (J : Nat → zCf) (R : zRt) : zCf := oALOAD 0 (oILOAD 3 (oINV1 X M_X7_answer 7 (oIRET R)))
set_option maxRecDepth 100000 in
theorem vb_X7_alike_77 {X : Nat × (Nat → Int32)} {R : zRt} : ∀ ls st h, B_X7_alike_77 X (zV X M_X7_alike (zQm M_X7_alike R) 0 0) R ls st h → zV X M_X7_alike (zQm M_X7_alike R) 0 0 77 ls st h := sd_aload_n dX7_alike_77 rfl (sd_iload_n dX7_alike_78 rfl (sd_inv1 dX7_alike_79 rfl mv_X7_answer na_X7_answer ml_RX7_85 ⟨⟨Nat.le_of_ble_eq_true rfl, Nat.le_of_ble_eq_true rfl⟩, ⟨Nat.le_of_ble_eq_true rfl, Nat.le_of_ble_eq_true rfl⟩⟩ (sd_iret dX7_alike_82 rfl (Nat.le_of_ble_eq_true rfl) (Nat.le_of_ble_eq_true rfl))))
theorem dX7_which_0 : decode cX7_which 0 = .ok (.aload_n 0, 1) := by decide +kernel
theorem dX7_which_1 : decode cX7_which 1 = .ok (.invokevirtual 124, 3) := by decide +kernel
theorem dX7_which_4 : decode cX7_which 4 = .ok (.ifCond .eq 9, 3) := by decide +kernel
theorem dX7_which_7 : decode cX7_which 7 = .ok (.aload_n 0, 1) := by decide +kernel
theorem dX7_which_8 : decode cX7_which 8 = .ok (.iconst 1, 1) := by decide +kernel
theorem dX7_which_9 : decode cX7_which 9 = .ok (.invokevirtual 58, 3) := by decide +kernel
theorem dX7_which_12 : decode cX7_which 12 = .ok (.ireturn, 1) := by decide +kernel
theorem dX7_which_13 : decode cX7_which 13 = .ok (.aload_n 0, 1) := by decide +kernel
theorem dX7_which_14 : decode cX7_which 14 = .ok (.aload_n 0, 1) := by decide +kernel
theorem dX7_which_15 : decode cX7_which 15 = .ok (.getfield 19, 3) := by decide +kernel
theorem dX7_which_18 : decode cX7_which 18 = .ok (.invokevirtual 193, 3) := by decide +kernel
theorem dX7_which_21 : decode cX7_which 21 = .ok (.invokevirtual 85, 3) := by decide +kernel
theorem dX7_which_24 : decode cX7_which 24 = .ok (.ireturn, 1) := by decide +kernel
def B_X7_which_0 (X : Nat × (Nat → Int32)) (J : Nat → zCf) (R : zRt) : zCf := oALOAD 0 (oINV0 X M_X7_noTube 7 (oIFEQ (J 13) (oALOAD 0 (oPI (zj (1)) (oINV1 X M_X7_refuse 7 (oIRET R))))))
set_option maxRecDepth 100000 in
theorem vb_X7_which_0 {X : Nat × (Nat → Int32)} {R : zRt} : ∀ ls st h, B_X7_which_0 X (zV X M_X7_which (zQm M_X7_which R) 0 0) R ls st h → zV X M_X7_which (zQm M_X7_which R) 0 0 0 ls st h := sd_aload_n dX7_which_0 rfl (sd_inv0 dX7_which_1 rfl mv_X7_noTube na_X7_noTube ml_RX7_124 ⟨⟨Nat.le_of_ble_eq_true rfl, Nat.le_of_ble_eq_true rfl⟩, ⟨Nat.le_of_ble_eq_true rfl, Nat.le_of_ble_eq_true rfl⟩⟩ (sd_ifeq dX7_which_4 rfl (fun _ _ _ h => h) (sd_aload_n dX7_which_7 rfl (sd_iconst dX7_which_8 rfl (sd_inv1 dX7_which_9 rfl mv_X7_refuse na_X7_refuse ml_RX7_58 ⟨⟨Nat.le_of_ble_eq_true rfl, Nat.le_of_ble_eq_true rfl⟩, ⟨Nat.le_of_ble_eq_true rfl, Nat.le_of_ble_eq_true rfl⟩⟩ (sd_iret dX7_which_12 rfl (Nat.le_of_ble_eq_true rfl) (Nat.le_of_ble_eq_true rfl)))))))
def B_X7_which_13 (X : Nat × (Nat → Int32)) (J : Nat → zCf) (R : zRt) : zCf := oALOAD 0 (oALOAD 0 (oGETR 7 1 (oINV0 X M_X4_countriesMet 4 (oINV1 X M_X7_answer 7 (oIRET R)))))
set_option maxRecDepth 100000 in
theorem vb_X7_which_13 {X : Nat × (Nat → Int32)} {R : zRt} : ∀ ls st h, B_X7_which_13 X (zV X M_X7_which (zQm M_X7_which R) 0 0) R ls st h → zV X M_X7_which (zQm M_X7_which R) 0 0 13 ls st h := sd_aload_n dX7_which_13 rfl (sd_aload_n dX7_which_14 rfl (sd_getr dX7_which_15 zCl7 (Nat.le_of_ble_eq_true rfl) lk_RX7_19 (Or.inl ⟨_, rfl⟩) (sd_inv0 dX7_which_18 rfl mv_X4_countriesMet na_X4_countriesMet ml_RX7_193 ⟨⟨Nat.le_of_ble_eq_true rfl, Nat.le_of_ble_eq_true rfl⟩, ⟨Nat.le_of_ble_eq_true rfl, Nat.le_of_ble_eq_true rfl⟩⟩ (sd_inv1 dX7_which_21 rfl mv_X7_answer na_X7_answer ml_RX7_85 ⟨⟨Nat.le_of_ble_eq_true rfl, Nat.le_of_ble_eq_true rfl⟩, ⟨Nat.le_of_ble_eq_true rfl, Nat.le_of_ble_eq_true rfl⟩⟩ (sd_iret dX7_which_24 rfl (Nat.le_of_ble_eq_true rfl) (Nat.le_of_ble_eq_true rfl))))))
theorem dX7_surely_0 : decode cX7_surely 0 = .ok (.aload_n 0, 1) := by decide +kernel
theorem dX7_surely_1 : decode cX7_surely 1 = .ok (.invokevirtual 124, 3) := by decide +kernel
theorem dX7_surely_4 : decode cX7_surely 4 = .ok (.ifCond .eq 9, 3) := by decide +kernel
theorem dX7_surely_7 : decode cX7_surely 7 = .ok (.aload_n 0, 1) := by decide +kernel
theorem dX7_surely_8 : decode cX7_surely 8 = .ok (.iconst 1, 1) := by decide +kernel
theorem dX7_surely_9 : decode cX7_surely 9 = .ok (.invokevirtual 58, 3) := by decide +kernel
theorem dX7_surely_12 : decode cX7_surely 12 = .ok (.ireturn, 1) := by decide +kernel
theorem dX7_surely_13 : decode cX7_surely 13 = .ok (.aload_n 0, 1) := by decide +kernel
theorem dX7_surely_14 : decode cX7_surely 14 = .ok (.getfield 19, 3) := by decide +kernel
theorem dX7_surely_17 : decode cX7_surely 17 = .ok (.invokevirtual 193, 3) := by decide +kernel
theorem dX7_surely_20 : decode cX7_surely 20 = .ok (.istore_n 1, 1) := by decide +kernel
theorem dX7_surely_21 : decode cX7_surely 21 = .ok (.iload_n 1, 1) := by decide +kernel
theorem dX7_surely_22 : decode cX7_surely 22 = .ok (.invokestatic 175, 3) := by decide +kernel
theorem dX7_surely_25 : decode cX7_surely 25 = .ok (.iconst 1, 1) := by decide +kernel
theorem dX7_surely_26 : decode cX7_surely 26 = .ok (.if_icmp .eq 10, 3) := by decide +kernel
theorem dX7_surely_29 : decode cX7_surely 29 = .ok (.aload_n 0, 1) := by decide +kernel
theorem dX7_surely_30 : decode cX7_surely 30 = .ok (.bipush (-2), 2) := by decide +kernel
theorem dX7_surely_32 : decode cX7_surely 32 = .ok (.invokevirtual 85, 3) := by decide +kernel
theorem dX7_surely_35 : decode cX7_surely 35 = .ok (.ireturn, 1) := by decide +kernel
theorem dX7_surely_36 : decode cX7_surely 36 = .ok (.aload_n 0, 1) := by decide +kernel
theorem dX7_surely_37 : decode cX7_surely 37 = .ok (.iload_n 1, 1) := by decide +kernel
theorem dX7_surely_38 : decode cX7_surely 38 = .ok (.invokestatic 196, 3) := by decide +kernel
theorem dX7_surely_41 : decode cX7_surely 41 = .ok (.invokevirtual 85, 3) := by decide +kernel
theorem dX7_surely_44 : decode cX7_surely 44 = .ok (.ireturn, 1) := by decide +kernel
def B_X7_surely_0 (X : Nat × (Nat → Int32)) (J : Nat → zCf) (R : zRt) : zCf := oALOAD 0 (oINV0 X M_X7_noTube 7 (oIFEQ (J 13) (oALOAD 0 (oPI (zj (1)) (oINV1 X M_X7_refuse 7 (oIRET R))))))
set_option maxRecDepth 100000 in
theorem vb_X7_surely_0 {X : Nat × (Nat → Int32)} {R : zRt} : ∀ ls st h, B_X7_surely_0 X (zV X M_X7_surely (zQm M_X7_surely R) 0 0) R ls st h → zV X M_X7_surely (zQm M_X7_surely R) 0 0 0 ls st h := sd_aload_n dX7_surely_0 rfl (sd_inv0 dX7_surely_1 rfl mv_X7_noTube na_X7_noTube ml_RX7_124 ⟨⟨Nat.le_of_ble_eq_true rfl, Nat.le_of_ble_eq_true rfl⟩, ⟨Nat.le_of_ble_eq_true rfl, Nat.le_of_ble_eq_true rfl⟩⟩ (sd_ifeq dX7_surely_4 rfl (fun _ _ _ h => h) (sd_aload_n dX7_surely_7 rfl (sd_iconst dX7_surely_8 rfl (sd_inv1 dX7_surely_9 rfl mv_X7_refuse na_X7_refuse ml_RX7_58 ⟨⟨Nat.le_of_ble_eq_true rfl, Nat.le_of_ble_eq_true rfl⟩, ⟨Nat.le_of_ble_eq_true rfl, Nat.le_of_ble_eq_true rfl⟩⟩ (sd_iret dX7_surely_12 rfl (Nat.le_of_ble_eq_true rfl) (Nat.le_of_ble_eq_true rfl)))))))
def B_X7_surely_13 (X : Nat × (Nat → Int32)) (J : Nat → zCf) (R : zRt) : zCf := oALOAD 0 (oGETR 7 1 (oINV0 X M_X4_countriesMet 4 (oISTORE 0 1 (oILOAD 1 (oINS1 X M_J6_bitCount_0f7a4 (oPI (zj (1)) (oICEQ (J 36) (oALOAD 0 (oPI (zj (-2)) (oINV1 X M_X7_answer 7 (oIRET R)))))))))))
set_option maxRecDepth 100000 in
theorem vb_X7_surely_13 {X : Nat × (Nat → Int32)} {R : zRt} : ∀ ls st h, B_X7_surely_13 X (zV X M_X7_surely (zQm M_X7_surely R) 0 0) R ls st h → zV X M_X7_surely (zQm M_X7_surely R) 0 0 13 ls st h := sd_aload_n dX7_surely_13 rfl (sd_getr dX7_surely_14 zCl7 (Nat.le_of_ble_eq_true rfl) lk_RX7_19 (Or.inl ⟨_, rfl⟩) (sd_inv0 dX7_surely_17 rfl mv_X4_countriesMet na_X4_countriesMet ml_RX7_193 ⟨⟨Nat.le_of_ble_eq_true rfl, Nat.le_of_ble_eq_true rfl⟩, ⟨Nat.le_of_ble_eq_true rfl, Nat.le_of_ble_eq_true rfl⟩⟩ (sd_istore_n dX7_surely_20 rfl (Nat.le_of_ble_eq_true rfl) (Or.inl rfl) (sd_iload_n dX7_surely_21 rfl (sd_ins1 dX7_surely_22 ms_J6_bitCount_0f7a4 na_J6_bitCount_0f7a4 ml_RX7_175 ⟨⟨Nat.le_of_ble_eq_true rfl, Nat.le_of_ble_eq_true rfl⟩, ⟨Nat.le_of_ble_eq_true rfl, Nat.le_of_ble_eq_true rfl⟩⟩ (sd_iconst dX7_surely_25 rfl (sd_iceq dX7_surely_26 rfl (fun _ _ _ h => h) (sd_aload_n dX7_surely_29 rfl (sd_bipush dX7_surely_30 rfl (sd_inv1 dX7_surely_32 rfl mv_X7_answer na_X7_answer ml_RX7_85 ⟨⟨Nat.le_of_ble_eq_true rfl, Nat.le_of_ble_eq_true rfl⟩, ⟨Nat.le_of_ble_eq_true rfl, Nat.le_of_ble_eq_true rfl⟩⟩ (sd_iret dX7_surely_35 rfl (Nat.le_of_ble_eq_true rfl) (Nat.le_of_ble_eq_true rfl))))))))))))
def B_X7_surely_36 (X : Nat × (Nat → Int32)) (J : Nat → zCf) (R : zRt) : zCf := oALOAD 0 (oILOAD 1 (oINS1 X M_J6_numberOfTrailingZeros_0f7a4 (oINV1 X M_X7_answer 7 (oIRET R))))
set_option maxRecDepth 100000 in
theorem vb_X7_surely_36 {X : Nat × (Nat → Int32)} {R : zRt} : ∀ ls st h, B_X7_surely_36 X (zV X M_X7_surely (zQm M_X7_surely R) 0 0) R ls st h → zV X M_X7_surely (zQm M_X7_surely R) 0 0 36 ls st h := sd_aload_n dX7_surely_36 rfl (sd_iload_n dX7_surely_37 rfl (sd_ins1 dX7_surely_38 ms_J6_numberOfTrailingZeros_0f7a4 na_J6_numberOfTrailingZeros_0f7a4 ml_RX7_196 ⟨⟨Nat.le_of_ble_eq_true rfl, Nat.le_of_ble_eq_true rfl⟩, ⟨Nat.le_of_ble_eq_true rfl, Nat.le_of_ble_eq_true rfl⟩⟩ (sd_inv1 dX7_surely_41 rfl mv_X7_answer na_X7_answer ml_RX7_85 ⟨⟨Nat.le_of_ble_eq_true rfl, Nat.le_of_ble_eq_true rfl⟩, ⟨Nat.le_of_ble_eq_true rfl, Nat.le_of_ble_eq_true rfl⟩⟩ (sd_iret dX7_surely_44 rfl (Nat.le_of_ble_eq_true rfl) (Nat.le_of_ble_eq_true rfl)))))
theorem dX7_look_0 : decode cX7_look 0 = .ok (.aload_n 0, 1) := by decide +kernel
theorem dX7_look_1 : decode cX7_look 1 = .ok (.invokevirtual 124, 3) := by decide +kernel
theorem dX7_look_4 : decode cX7_look 4 = .ok (.ifCond .eq 9, 3) := by decide +kernel
theorem dX7_look_7 : decode cX7_look 7 = .ok (.aload_n 0, 1) := by decide +kernel
theorem dX7_look_8 : decode cX7_look 8 = .ok (.iconst 1, 1) := by decide +kernel
theorem dX7_look_9 : decode cX7_look 9 = .ok (.invokevirtual 58, 3) := by decide +kernel
theorem dX7_look_12 : decode cX7_look 12 = .ok (.ireturn, 1) := by decide +kernel
theorem dX7_look_13 : decode cX7_look 13 = .ok (.aload_n 0, 1) := by decide +kernel
theorem dX7_look_14 : decode cX7_look 14 = .ok (.aload_n 0, 1) := by decide +kernel
theorem dX7_look_15 : decode cX7_look 15 = .ok (.getfield 19, 3) := by decide +kernel
theorem dX7_look_18 : decode cX7_look 18 = .ok (.aload_n 0, 1) := by decide +kernel
theorem dX7_look_19 : decode cX7_look 19 = .ok (.getfield 19, 3) := by decide +kernel
theorem dX7_look_22 : decode cX7_look 22 = .ok (.invokevirtual 193, 3) := by decide +kernel
theorem dX7_look_25 : decode cX7_look 25 = .ok (.invokevirtual 199, 3) := by decide +kernel
theorem dX7_look_28 : decode cX7_look 28 = .ok (.invokevirtual 85, 3) := by decide +kernel
theorem dX7_look_31 : decode cX7_look 31 = .ok (.ireturn, 1) := by decide +kernel
def B_X7_look_0 (X : Nat × (Nat → Int32)) (J : Nat → zCf) (R : zRt) : zCf := oALOAD 0 (oINV0 X M_X7_noTube 7 (oIFEQ (J 13) (oALOAD 0 (oPI (zj (1)) (oINV1 X M_X7_refuse 7 (oIRET R))))))
set_option maxRecDepth 100000 in
theorem vb_X7_look_0 {X : Nat × (Nat → Int32)} {R : zRt} : ∀ ls st h, B_X7_look_0 X (zV X M_X7_look (zQm M_X7_look R) 0 0) R ls st h → zV X M_X7_look (zQm M_X7_look R) 0 0 0 ls st h := sd_aload_n dX7_look_0 rfl (sd_inv0 dX7_look_1 rfl mv_X7_noTube na_X7_noTube ml_RX7_124 ⟨⟨Nat.le_of_ble_eq_true rfl, Nat.le_of_ble_eq_true rfl⟩, ⟨Nat.le_of_ble_eq_true rfl, Nat.le_of_ble_eq_true rfl⟩⟩ (sd_ifeq dX7_look_4 rfl (fun _ _ _ h => h) (sd_aload_n dX7_look_7 rfl (sd_iconst dX7_look_8 rfl (sd_inv1 dX7_look_9 rfl mv_X7_refuse na_X7_refuse ml_RX7_58 ⟨⟨Nat.le_of_ble_eq_true rfl, Nat.le_of_ble_eq_true rfl⟩, ⟨Nat.le_of_ble_eq_true rfl, Nat.le_of_ble_eq_true rfl⟩⟩ (sd_iret dX7_look_12 rfl (Nat.le_of_ble_eq_true rfl) (Nat.le_of_ble_eq_true rfl)))))))
def B_X7_look_13 (X : Nat × (Nat → Int32)) (J : Nat → zCf) (R : zRt) : zCf := oALOAD 0 (oALOAD 0 (oGETR 7 1 (oALOAD 0 (oGETR 7 1 (oINV0 X M_X4_countriesMet 4 (oINV1 X M_X4_bestLook 4 (oINV1 X M_X7_answer 7 (oIRET R))))))))
set_option maxRecDepth 100000 in
theorem vb_X7_look_13 {X : Nat × (Nat → Int32)} {R : zRt} : ∀ ls st h, B_X7_look_13 X (zV X M_X7_look (zQm M_X7_look R) 0 0) R ls st h → zV X M_X7_look (zQm M_X7_look R) 0 0 13 ls st h := sd_aload_n dX7_look_13 rfl (sd_aload_n dX7_look_14 rfl (sd_getr dX7_look_15 zCl7 (Nat.le_of_ble_eq_true rfl) lk_RX7_19 (Or.inl ⟨_, rfl⟩) (sd_aload_n dX7_look_18 rfl (sd_getr dX7_look_19 zCl7 (Nat.le_of_ble_eq_true rfl) lk_RX7_19 (Or.inl ⟨_, rfl⟩) (sd_inv0 dX7_look_22 rfl mv_X4_countriesMet na_X4_countriesMet ml_RX7_193 ⟨⟨Nat.le_of_ble_eq_true rfl, Nat.le_of_ble_eq_true rfl⟩, ⟨Nat.le_of_ble_eq_true rfl, Nat.le_of_ble_eq_true rfl⟩⟩ (sd_inv1 dX7_look_25 rfl mv_X4_bestLook na_X4_bestLook ml_RX7_199 ⟨⟨Nat.le_of_ble_eq_true rfl, Nat.le_of_ble_eq_true rfl⟩, ⟨Nat.le_of_ble_eq_true rfl, Nat.le_of_ble_eq_true rfl⟩⟩ (sd_inv1 dX7_look_28 rfl mv_X7_answer na_X7_answer ml_RX7_85 ⟨⟨Nat.le_of_ble_eq_true rfl, Nat.le_of_ble_eq_true rfl⟩, ⟨Nat.le_of_ble_eq_true rfl, Nat.le_of_ble_eq_true rfl⟩⟩ (sd_iret dX7_look_31 rfl (Nat.le_of_ble_eq_true rfl) (Nat.le_of_ble_eq_true rfl)))))))))
theorem dX7_lookLeaves_0 : decode cX7_lookLeaves 0 = .ok (.aload_n 0, 1) := by decide +kernel
theorem dX7_lookLeaves_1 : decode cX7_lookLeaves 1 = .ok (.invokevirtual 124, 3) := by decide +kernel
theorem dX7_lookLeaves_4 : decode cX7_lookLeaves 4 = .ok (.ifCond .eq 9, 3) := by decide +kernel
theorem dX7_lookLeaves_7 : decode cX7_lookLeaves 7 = .ok (.aload_n 0, 1) := by decide +kernel
theorem dX7_lookLeaves_8 : decode cX7_lookLeaves 8 = .ok (.iconst 1, 1) := by decide +kernel
theorem dX7_lookLeaves_9 : decode cX7_lookLeaves 9 = .ok (.invokevirtual 58, 3) := by decide +kernel
theorem dX7_lookLeaves_12 : decode cX7_lookLeaves 12 = .ok (.ireturn, 1) := by decide +kernel
theorem dX7_lookLeaves_13 : decode cX7_lookLeaves 13 = .ok (.aload_n 0, 1) := by decide +kernel
theorem dX7_lookLeaves_14 : decode cX7_lookLeaves 14 = .ok (.getfield 19, 3) := by decide +kernel
theorem dX7_lookLeaves_17 : decode cX7_lookLeaves 17 = .ok (.invokevirtual 193, 3) := by decide +kernel
theorem dX7_lookLeaves_20 : decode cX7_lookLeaves 20 = .ok (.istore_n 1, 1) := by decide +kernel
theorem dX7_lookLeaves_21 : decode cX7_lookLeaves 21 = .ok (.aload_n 0, 1) := by decide +kernel
theorem dX7_lookLeaves_22 : decode cX7_lookLeaves 22 = .ok (.getfield 19, 3) := by decide +kernel
theorem dX7_lookLeaves_25 : decode cX7_lookLeaves 25 = .ok (.iload_n 1, 1) := by decide +kernel
theorem dX7_lookLeaves_26 : decode cX7_lookLeaves 26 = .ok (.invokevirtual 199, 3) := by decide +kernel
theorem dX7_lookLeaves_29 : decode cX7_lookLeaves 29 = .ok (.istore_n 2, 1) := by decide +kernel
theorem dX7_lookLeaves_30 : decode cX7_lookLeaves 30 = .ok (.aload_n 0, 1) := by decide +kernel
theorem dX7_lookLeaves_31 : decode cX7_lookLeaves 31 = .ok (.iload_n 2, 1) := by decide +kernel
theorem dX7_lookLeaves_32 : decode cX7_lookLeaves 32 = .ok (.bipush (-2), 2) := by decide +kernel
theorem dX7_lookLeaves_34 : decode cX7_lookLeaves 34 = .ok (.if_icmp .ne 8, 3) := by decide +kernel
theorem dX7_lookLeaves_37 : decode cX7_lookLeaves 37 = .ok (.bipush (-2), 2) := by decide +kernel
theorem dX7_lookLeaves_39 : decode cX7_lookLeaves 39 = .ok (.goto 12, 3) := by decide +kernel
theorem dX7_lookLeaves_42 : decode cX7_lookLeaves 42 = .ok (.aload_n 0, 1) := by decide +kernel
theorem dX7_lookLeaves_43 : decode cX7_lookLeaves 43 = .ok (.getfield 19, 3) := by decide +kernel
theorem dX7_lookLeaves_46 : decode cX7_lookLeaves 46 = .ok (.iload_n 1, 1) := by decide +kernel
theorem dX7_lookLeaves_47 : decode cX7_lookLeaves 47 = .ok (.iload_n 2, 1) := by decide +kernel
theorem dX7_lookLeaves_48 : decode cX7_lookLeaves 48 = .ok (.invokevirtual 202, 3) := by decide +kernel
theorem dX7_lookLeaves_51 : decode cX7_lookLeaves 51 = .ok (.invokevirtual 85, 3) := by decide +kernel
theorem dX7_lookLeaves_54 : decode cX7_lookLeaves 54 = .ok (.ireturn, 1) := by decide +kernel
def B_X7_lookLeaves_0 (X : Nat × (Nat → Int32)) (J : Nat → zCf) (R : zRt) : zCf := oALOAD 0 (oINV0 X M_X7_noTube 7 (oIFEQ (J 13) (oALOAD 0 (oPI (zj (1)) (oINV1 X M_X7_refuse 7 (oIRET R))))))
set_option maxRecDepth 100000 in
theorem vb_X7_lookLeaves_0 {X : Nat × (Nat → Int32)} {R : zRt} : ∀ ls st h, B_X7_lookLeaves_0 X (zV X M_X7_lookLeaves (zQm M_X7_lookLeaves R) 0 0) R ls st h → zV X M_X7_lookLeaves (zQm M_X7_lookLeaves R) 0 0 0 ls st h := sd_aload_n dX7_lookLeaves_0 rfl (sd_inv0 dX7_lookLeaves_1 rfl mv_X7_noTube na_X7_noTube ml_RX7_124 ⟨⟨Nat.le_of_ble_eq_true rfl, Nat.le_of_ble_eq_true rfl⟩, ⟨Nat.le_of_ble_eq_true rfl, Nat.le_of_ble_eq_true rfl⟩⟩ (sd_ifeq dX7_lookLeaves_4 rfl (fun _ _ _ h => h) (sd_aload_n dX7_lookLeaves_7 rfl (sd_iconst dX7_lookLeaves_8 rfl (sd_inv1 dX7_lookLeaves_9 rfl mv_X7_refuse na_X7_refuse ml_RX7_58 ⟨⟨Nat.le_of_ble_eq_true rfl, Nat.le_of_ble_eq_true rfl⟩, ⟨Nat.le_of_ble_eq_true rfl, Nat.le_of_ble_eq_true rfl⟩⟩ (sd_iret dX7_lookLeaves_12 rfl (Nat.le_of_ble_eq_true rfl) (Nat.le_of_ble_eq_true rfl)))))))
def B_X7_lookLeaves_13 (X : Nat × (Nat → Int32)) (J : Nat → zCf) (R : zRt) : zCf := oALOAD 0 (oGETR 7 1 (oINV0 X M_X4_countriesMet 4 (oISTORE 0 1 (oALOAD 0 (oGETR 7 1 (oILOAD 1 (oINV1 X M_X4_bestLook 4 (oISTORE 1 2 (oALOAD 0 (oILOAD 2 (oPI (zj (-2)) (oICNE (J 42) (oPI (zj (-2)) (J 51))))))))))))))
set_option maxRecDepth 100000 in
theorem vb_X7_lookLeaves_13 {X : Nat × (Nat → Int32)} {R : zRt} : ∀ ls st h, B_X7_lookLeaves_13 X (zV X M_X7_lookLeaves (zQm M_X7_lookLeaves R) 0 0) R ls st h → zV X M_X7_lookLeaves (zQm M_X7_lookLeaves R) 0 0 13 ls st h := sd_aload_n dX7_lookLeaves_13 rfl (sd_getr dX7_lookLeaves_14 zCl7 (Nat.le_of_ble_eq_true rfl) lk_RX7_19 (Or.inl ⟨_, rfl⟩) (sd_inv0 dX7_lookLeaves_17 rfl mv_X4_countriesMet na_X4_countriesMet ml_RX7_193 ⟨⟨Nat.le_of_ble_eq_true rfl, Nat.le_of_ble_eq_true rfl⟩, ⟨Nat.le_of_ble_eq_true rfl, Nat.le_of_ble_eq_true rfl⟩⟩ (sd_istore_n dX7_lookLeaves_20 rfl (Nat.le_of_ble_eq_true rfl) (Or.inl rfl) (sd_aload_n dX7_lookLeaves_21 rfl (sd_getr dX7_lookLeaves_22 zCl7 (Nat.le_of_ble_eq_true rfl) lk_RX7_19 (Or.inl ⟨_, rfl⟩) (sd_iload_n dX7_lookLeaves_25 rfl (sd_inv1 dX7_lookLeaves_26 rfl mv_X4_bestLook na_X4_bestLook ml_RX7_199 ⟨⟨Nat.le_of_ble_eq_true rfl, Nat.le_of_ble_eq_true rfl⟩, ⟨Nat.le_of_ble_eq_true rfl, Nat.le_of_ble_eq_true rfl⟩⟩ (sd_istore_n dX7_lookLeaves_29 rfl (Nat.le_of_ble_eq_true rfl) (Or.inl rfl) (sd_aload_n dX7_lookLeaves_30 rfl (sd_iload_n dX7_lookLeaves_31 rfl (sd_bipush dX7_lookLeaves_32 rfl (sd_icne dX7_lookLeaves_34 rfl (fun _ _ _ h => h) (sd_bipush dX7_lookLeaves_37 rfl (sd_goto dX7_lookLeaves_39 rfl (fun _ _ _ h => h)))))))))))))))
def B_X7_lookLeaves_42 (X : Nat × (Nat → Int32)) (J : Nat → zCf) (R : zRt) : zCf := oALOAD 0 (oGETR 7 1 (oILOAD 1 (oILOAD 2 (oINV2 X M_X4_mostLeft 4 (J 51)))))
set_option maxRecDepth 100000 in
theorem vb_X7_lookLeaves_42 {X : Nat × (Nat → Int32)} {R : zRt} : ∀ ls st h, B_X7_lookLeaves_42 X (zV X M_X7_lookLeaves (zQm M_X7_lookLeaves R) 0 0) R ls st h → zV X M_X7_lookLeaves (zQm M_X7_lookLeaves R) 0 0 42 ls st h := sd_aload_n dX7_lookLeaves_42 rfl (sd_getr dX7_lookLeaves_43 zCl7 (Nat.le_of_ble_eq_true rfl) lk_RX7_19 (Or.inl ⟨_, rfl⟩) (sd_iload_n dX7_lookLeaves_46 rfl (sd_iload_n dX7_lookLeaves_47 rfl (sd_inv2 dX7_lookLeaves_48 rfl mv_X4_mostLeft na_X4_mostLeft ml_RX7_202 ⟨⟨Nat.le_of_ble_eq_true rfl, Nat.le_of_ble_eq_true rfl⟩, ⟨Nat.le_of_ble_eq_true rfl, Nat.le_of_ble_eq_true rfl⟩⟩ (fun _ _ _ h => h)))))
def B_X7_lookLeaves_51 (X : Nat × (Nat → Int32)) (J : Nat → zCf) (R : zRt) : zCf := oINV1 X M_X7_answer 7 (oIRET R)
set_option maxRecDepth 100000 in
theorem vb_X7_lookLeaves_51 {X : Nat × (Nat → Int32)} {R : zRt} : ∀ ls st h, B_X7_lookLeaves_51 X (zV X M_X7_lookLeaves (zQm M_X7_lookLeaves R) 0 0) R ls st h → zV X M_X7_lookLeaves (zQm M_X7_lookLeaves R) 0 0 51 ls st h := sd_inv1 dX7_lookLeaves_51 rfl mv_X7_answer na_X7_answer ml_RX7_85 ⟨⟨Nat.le_of_ble_eq_true rfl, Nat.le_of_ble_eq_true rfl⟩, ⟨Nat.le_of_ble_eq_true rfl, Nat.le_of_ble_eq_true rfl⟩⟩ (sd_iret dX7_lookLeaves_54 rfl (Nat.le_of_ble_eq_true rfl) (Nat.le_of_ble_eq_true rfl))
theorem dX7_judge_0 : decode cX7_judge 0 = .ok (.aload_n 0, 1) := by decide +kernel
theorem dX7_judge_1 : decode cX7_judge 1 = .ok (.invokevirtual 124, 3) := by decide +kernel
theorem dX7_judge_4 : decode cX7_judge 4 = .ok (.ifCond .eq 9, 3) := by decide +kernel
theorem dX7_judge_7 : decode cX7_judge 7 = .ok (.aload_n 0, 1) := by decide +kernel
theorem dX7_judge_8 : decode cX7_judge 8 = .ok (.iconst 1, 1) := by decide +kernel
theorem dX7_judge_9 : decode cX7_judge 9 = .ok (.invokevirtual 58, 3) := by decide +kernel
theorem dX7_judge_12 : decode cX7_judge 12 = .ok (.ireturn, 1) := by decide +kernel
theorem dX7_judge_13 : decode cX7_judge 13 = .ok (.iload_n 1, 1) := by decide +kernel
theorem dX7_judge_14 : decode cX7_judge 14 = .ok (.invokestatic 137, 3) := by decide +kernel
theorem dX7_judge_17 : decode cX7_judge 17 = .ok (.ifCond .ne 9, 3) := by decide +kernel
theorem dX7_judge_20 : decode cX7_judge 20 = .ok (.aload_n 0, 1) := by decide +kernel
theorem dX7_judge_21 : decode cX7_judge 21 = .ok (.iconst 2, 1) := by decide +kernel
theorem dX7_judge_22 : decode cX7_judge 22 = .ok (.invokevirtual 58, 3) := by decide +kernel
theorem dX7_judge_25 : decode cX7_judge 25 = .ok (.ireturn, 1) := by decide +kernel
theorem dX7_judge_26 : decode cX7_judge 26 = .ok (.aload_n 0, 1) := by decide +kernel
theorem dX7_judge_27 : decode cX7_judge 27 = .ok (.aload_n 0, 1) := by decide +kernel
theorem dX7_judge_28 : decode cX7_judge 28 = .ok (.getfield 19, 3) := by decide +kernel
theorem dX7_judge_31 : decode cX7_judge 31 = .ok (.iload_n 1, 1) := by decide +kernel
theorem dX7_judge_32 : decode cX7_judge 32 = .ok (.invokevirtual 205, 3) := by decide +kernel
theorem dX7_judge_35 : decode cX7_judge 35 = .ok (.invokevirtual 85, 3) := by decide +kernel
theorem dX7_judge_38 : decode cX7_judge 38 = .ok (.ireturn, 1) := by decide +kernel
def B_X7_judge_0 (X : Nat × (Nat → Int32)) (J : Nat → zCf) (R : zRt) : zCf := oALOAD 0 (oINV0 X M_X7_noTube 7 (oIFEQ (J 13) (oALOAD 0 (oPI (zj (1)) (oINV1 X M_X7_refuse 7 (oIRET R))))))
set_option maxRecDepth 100000 in
theorem vb_X7_judge_0 {X : Nat × (Nat → Int32)} {R : zRt} : ∀ ls st h, B_X7_judge_0 X (zV X M_X7_judge (zQm M_X7_judge R) 0 0) R ls st h → zV X M_X7_judge (zQm M_X7_judge R) 0 0 0 ls st h := sd_aload_n dX7_judge_0 rfl (sd_inv0 dX7_judge_1 rfl mv_X7_noTube na_X7_noTube ml_RX7_124 ⟨⟨Nat.le_of_ble_eq_true rfl, Nat.le_of_ble_eq_true rfl⟩, ⟨Nat.le_of_ble_eq_true rfl, Nat.le_of_ble_eq_true rfl⟩⟩ (sd_ifeq dX7_judge_4 rfl (fun _ _ _ h => h) (sd_aload_n dX7_judge_7 rfl (sd_iconst dX7_judge_8 rfl (sd_inv1 dX7_judge_9 rfl mv_X7_refuse na_X7_refuse ml_RX7_58 ⟨⟨Nat.le_of_ble_eq_true rfl, Nat.le_of_ble_eq_true rfl⟩, ⟨Nat.le_of_ble_eq_true rfl, Nat.le_of_ble_eq_true rfl⟩⟩ (sd_iret dX7_judge_12 rfl (Nat.le_of_ble_eq_true rfl) (Nat.le_of_ble_eq_true rfl)))))))
def B_X7_judge_13 (X : Nat × (Nat → Int32)) (J : Nat → zCf) (R : zRt) : zCf := oILOAD 1 (oINS1 X M_X7_isCountry (oIFNE (J 26) (oALOAD 0 (oPI (zj (2)) (oINV1 X M_X7_refuse 7 (oIRET R))))))
set_option maxRecDepth 100000 in
theorem vb_X7_judge_13 {X : Nat × (Nat → Int32)} {R : zRt} : ∀ ls st h, B_X7_judge_13 X (zV X M_X7_judge (zQm M_X7_judge R) 0 0) R ls st h → zV X M_X7_judge (zQm M_X7_judge R) 0 0 13 ls st h := sd_iload_n dX7_judge_13 rfl (sd_ins1 dX7_judge_14 ms_X7_isCountry na_X7_isCountry ml_RX7_137 ⟨⟨Nat.le_of_ble_eq_true rfl, Nat.le_of_ble_eq_true rfl⟩, ⟨Nat.le_of_ble_eq_true rfl, Nat.le_of_ble_eq_true rfl⟩⟩ (sd_ifne dX7_judge_17 rfl (fun _ _ _ h => h) (sd_aload_n dX7_judge_20 rfl (sd_iconst dX7_judge_21 rfl (sd_inv1 dX7_judge_22 rfl mv_X7_refuse na_X7_refuse ml_RX7_58 ⟨⟨Nat.le_of_ble_eq_true rfl, Nat.le_of_ble_eq_true rfl⟩, ⟨Nat.le_of_ble_eq_true rfl, Nat.le_of_ble_eq_true rfl⟩⟩ (sd_iret dX7_judge_25 rfl (Nat.le_of_ble_eq_true rfl) (Nat.le_of_ble_eq_true rfl)))))))
def B_X7_judge_26 (X : Nat × (Nat → Int32)) (J : Nat → zCf) (R : zRt) : zCf := oALOAD 0 (oALOAD 0 (oGETR 7 1 (oILOAD 1 (oINV1 X M_X4_firstNotMet 4 (oINV1 X M_X7_answer 7 (oIRET R))))))
set_option maxRecDepth 100000 in
theorem vb_X7_judge_26 {X : Nat × (Nat → Int32)} {R : zRt} : ∀ ls st h, B_X7_judge_26 X (zV X M_X7_judge (zQm M_X7_judge R) 0 0) R ls st h → zV X M_X7_judge (zQm M_X7_judge R) 0 0 26 ls st h := sd_aload_n dX7_judge_26 rfl (sd_aload_n dX7_judge_27 rfl (sd_getr dX7_judge_28 zCl7 (Nat.le_of_ble_eq_true rfl) lk_RX7_19 (Or.inl ⟨_, rfl⟩) (sd_iload_n dX7_judge_31 rfl (sd_inv1 dX7_judge_32 rfl mv_X4_firstNotMet na_X4_firstNotMet ml_RX7_205 ⟨⟨Nat.le_of_ble_eq_true rfl, Nat.le_of_ble_eq_true rfl⟩, ⟨Nat.le_of_ble_eq_true rfl, Nat.le_of_ble_eq_true rfl⟩⟩ (sd_inv1 dX7_judge_35 rfl mv_X7_answer na_X7_answer ml_RX7_85 ⟨⟨Nat.le_of_ble_eq_true rfl, Nat.le_of_ble_eq_true rfl⟩, ⟨Nat.le_of_ble_eq_true rfl, Nat.le_of_ble_eq_true rfl⟩⟩ (sd_iret dX7_judge_38 rfl (Nat.le_of_ble_eq_true rfl) (Nat.le_of_ble_eq_true rfl)))))))
theorem dX7_rolls_0 : decode cX7_rolls 0 = .ok (.aload_n 0, 1) := by decide +kernel
theorem dX7_rolls_1 : decode cX7_rolls 1 = .ok (.invokevirtual 124, 3) := by decide +kernel
theorem dX7_rolls_4 : decode cX7_rolls 4 = .ok (.ifCond .eq 10, 3) := by decide +kernel
theorem dX7_rolls_7 : decode cX7_rolls 7 = .ok (.aload_n 0, 1) := by decide +kernel
theorem dX7_rolls_8 : decode cX7_rolls 8 = .ok (.iconst 1, 1) := by decide +kernel
theorem dX7_rolls_9 : decode cX7_rolls 9 = .ok (.invokevirtual 58, 3) := by decide +kernel
theorem dX7_rolls_12 : decode cX7_rolls 12 = .ok (.i2l, 1) := by decide +kernel
theorem dX7_rolls_13 : decode cX7_rolls 13 = .ok (.lreturn, 1) := by decide +kernel
theorem dX7_rolls_14 : decode cX7_rolls 14 = .ok (.iload_n 1, 1) := by decide +kernel
theorem dX7_rolls_15 : decode cX7_rolls 15 = .ok (.iload_n 2, 1) := by decide +kernel
theorem dX7_rolls_16 : decode cX7_rolls 16 = .ok (.invokestatic 208, 3) := by decide +kernel
theorem dX7_rolls_19 : decode cX7_rolls 19 = .ok (.ifCond .ne 10, 3) := by decide +kernel
theorem dX7_rolls_22 : decode cX7_rolls 22 = .ok (.aload_n 0, 1) := by decide +kernel
theorem dX7_rolls_23 : decode cX7_rolls 23 = .ok (.iconst 2, 1) := by decide +kernel
theorem dX7_rolls_24 : decode cX7_rolls 24 = .ok (.invokevirtual 58, 3) := by decide +kernel
theorem dX7_rolls_27 : decode cX7_rolls 27 = .ok (.i2l, 1) := by decide +kernel
theorem dX7_rolls_28 : decode cX7_rolls 28 = .ok (.lreturn, 1) := by decide +kernel
theorem dX7_rolls_29 : decode cX7_rolls 29 = .ok (.aload_n 0, 1) := by decide +kernel
theorem dX7_rolls_30 : decode cX7_rolls 30 = .ok (.iconst 0, 1) := by decide +kernel
theorem dX7_rolls_31 : decode cX7_rolls 31 = .ok (.putfield 91, 3) := by decide +kernel
theorem dX7_rolls_34 : decode cX7_rolls 34 = .ok (.aload_n 0, 1) := by decide +kernel
theorem dX7_rolls_35 : decode cX7_rolls 35 = .ok (.iload_n 1, 1) := by decide +kernel
theorem dX7_rolls_36 : decode cX7_rolls 36 = .ok (.iload_n 2, 1) := by decide +kernel
theorem dX7_rolls_37 : decode cX7_rolls 37 = .ok (.iload_n 2, 1) := by decide +kernel
theorem dX7_rolls_38 : decode cX7_rolls 38 = .ok (.iload_n 3, 1) := by decide +kernel
theorem dX7_rolls_39 : decode cX7_rolls 39 = .ok (.invokevirtual 211, 3) := by decide +kernel
theorem dX7_rolls_42 : decode cX7_rolls 42 = .ok (.lreturn, 1) := by decide +kernel
def B_X7_rolls_0 (X : Nat × (Nat → Int32)) (J : Nat → zCf) (R : zRt) : zCf := oALOAD 0 (oINV0 X M_X7_noTube 7 (oIFEQ (J 14) (oALOAD 0 (oPI (zj (1)) (oINV1 X M_X7_refuse 7 (oI2L (oLRET R)))))))
set_option maxRecDepth 100000 in
theorem vb_X7_rolls_0 {X : Nat × (Nat → Int32)} {R : zRt} : ∀ ls st h, B_X7_rolls_0 X (zV X M_X7_rolls (zQm M_X7_rolls R) 0 0) R ls st h → zV X M_X7_rolls (zQm M_X7_rolls R) 0 0 0 ls st h := sd_aload_n dX7_rolls_0 rfl (sd_inv0 dX7_rolls_1 rfl mv_X7_noTube na_X7_noTube ml_RX7_124 ⟨⟨Nat.le_of_ble_eq_true rfl, Nat.le_of_ble_eq_true rfl⟩, ⟨Nat.le_of_ble_eq_true rfl, Nat.le_of_ble_eq_true rfl⟩⟩ (sd_ifeq dX7_rolls_4 rfl (fun _ _ _ h => h) (sd_aload_n dX7_rolls_7 rfl (sd_iconst dX7_rolls_8 rfl (sd_inv1 dX7_rolls_9 rfl mv_X7_refuse na_X7_refuse ml_RX7_58 ⟨⟨Nat.le_of_ble_eq_true rfl, Nat.le_of_ble_eq_true rfl⟩, ⟨Nat.le_of_ble_eq_true rfl, Nat.le_of_ble_eq_true rfl⟩⟩ (sd_i2l dX7_rolls_12 (sd_lret dX7_rolls_13 rfl (Nat.le_of_ble_eq_true rfl) (Nat.le_of_ble_eq_true rfl))))))))
def B_X7_rolls_14 (X : Nat × (Nat → Int32)) (J : Nat → zCf) (R : zRt) : zCf := oILOAD 1 (oILOAD 2 (oINS2 X M_X7_areRolls (oIFNE (J 29) (oALOAD 0 (oPI (zj (2)) (oINV1 X M_X7_refuse 7 (oI2L (oLRET R))))))))
set_option maxRecDepth 100000 in
theorem vb_X7_rolls_14 {X : Nat × (Nat → Int32)} {R : zRt} : ∀ ls st h, B_X7_rolls_14 X (zV X M_X7_rolls (zQm M_X7_rolls R) 0 0) R ls st h → zV X M_X7_rolls (zQm M_X7_rolls R) 0 0 14 ls st h := sd_iload_n dX7_rolls_14 rfl (sd_iload_n dX7_rolls_15 rfl (sd_ins2 dX7_rolls_16 ms_X7_areRolls na_X7_areRolls ml_RX7_208 ⟨⟨Nat.le_of_ble_eq_true rfl, Nat.le_of_ble_eq_true rfl⟩, ⟨Nat.le_of_ble_eq_true rfl, Nat.le_of_ble_eq_true rfl⟩⟩ (sd_ifne dX7_rolls_19 rfl (fun _ _ _ h => h) (sd_aload_n dX7_rolls_22 rfl (sd_iconst dX7_rolls_23 rfl (sd_inv1 dX7_rolls_24 rfl mv_X7_refuse na_X7_refuse ml_RX7_58 ⟨⟨Nat.le_of_ble_eq_true rfl, Nat.le_of_ble_eq_true rfl⟩, ⟨Nat.le_of_ble_eq_true rfl, Nat.le_of_ble_eq_true rfl⟩⟩ (sd_i2l dX7_rolls_27 (sd_lret dX7_rolls_28 rfl (Nat.le_of_ble_eq_true rfl) (Nat.le_of_ble_eq_true rfl)))))))))
def B_X7_rolls_29 (X : Nat × (Nat → Int32)) (J : Nat → zCf) (R : zRt) : zCf := oALOAD 0 (oPI (zj (0)) (oPUTI 7 5 (oALOAD 0 (oILOAD 1 (oILOAD 2 (oILOAD 2 (oILOAD 3 (oINV4 X M_X7_oddsPart 7 (oLRET R)))))))))
set_option maxRecDepth 100000 in
theorem vb_X7_rolls_29 {X : Nat × (Nat → Int32)} {R : zRt} : ∀ ls st h, B_X7_rolls_29 X (zV X M_X7_rolls (zQm M_X7_rolls R) 0 0) R ls st h → zV X M_X7_rolls (zQm M_X7_rolls R) 0 0 29 ls st h := sd_aload_n dX7_rolls_29 rfl (sd_iconst dX7_rolls_30 rfl (sd_puti dX7_rolls_31 zCl7 (Nat.le_of_ble_eq_true rfl) lk_RX7_91 rfl (Or.inl rfl) (sd_aload_n dX7_rolls_34 rfl (sd_iload_n dX7_rolls_35 rfl (sd_iload_n dX7_rolls_36 rfl (sd_iload_n dX7_rolls_37 rfl (sd_iload_n dX7_rolls_38 rfl (sd_inv4 dX7_rolls_39 rfl mv_X7_oddsPart na_X7_oddsPart ml_RX7_211 ⟨⟨Nat.le_of_ble_eq_true rfl, Nat.le_of_ble_eq_true rfl⟩, ⟨Nat.le_of_ble_eq_true rfl, Nat.le_of_ble_eq_true rfl⟩⟩ (sd_lret dX7_rolls_42 rfl (Nat.le_of_ble_eq_true rfl) (Nat.le_of_ble_eq_true rfl))))))))))
theorem dX7_rollsMore_0 : decode cX7_rollsMore 0 = .ok (.aload_n 0, 1) := by decide +kernel
theorem dX7_rollsMore_1 : decode cX7_rollsMore 1 = .ok (.invokevirtual 124, 3) := by decide +kernel
theorem dX7_rollsMore_4 : decode cX7_rollsMore 4 = .ok (.ifCond .eq 10, 3) := by decide +kernel
theorem dX7_rollsMore_7 : decode cX7_rollsMore 7 = .ok (.aload_n 0, 1) := by decide +kernel
theorem dX7_rollsMore_8 : decode cX7_rollsMore 8 = .ok (.iconst 1, 1) := by decide +kernel
theorem dX7_rollsMore_9 : decode cX7_rollsMore 9 = .ok (.invokevirtual 58, 3) := by decide +kernel
theorem dX7_rollsMore_12 : decode cX7_rollsMore 12 = .ok (.i2l, 1) := by decide +kernel
theorem dX7_rollsMore_13 : decode cX7_rollsMore 13 = .ok (.lreturn, 1) := by decide +kernel
theorem dX7_rollsMore_14 : decode cX7_rollsMore 14 = .ok (.iload_n 1, 1) := by decide +kernel
theorem dX7_rollsMore_15 : decode cX7_rollsMore 15 = .ok (.iload_n 2, 1) := by decide +kernel
theorem dX7_rollsMore_16 : decode cX7_rollsMore 16 = .ok (.invokestatic 208, 3) := by decide +kernel
theorem dX7_rollsMore_19 : decode cX7_rollsMore 19 = .ok (.ifCond .ne 10, 3) := by decide +kernel
theorem dX7_rollsMore_22 : decode cX7_rollsMore 22 = .ok (.aload_n 0, 1) := by decide +kernel
theorem dX7_rollsMore_23 : decode cX7_rollsMore 23 = .ok (.iconst 2, 1) := by decide +kernel
theorem dX7_rollsMore_24 : decode cX7_rollsMore 24 = .ok (.invokevirtual 58, 3) := by decide +kernel
theorem dX7_rollsMore_27 : decode cX7_rollsMore 27 = .ok (.i2l, 1) := by decide +kernel
theorem dX7_rollsMore_28 : decode cX7_rollsMore 28 = .ok (.lreturn, 1) := by decide +kernel
theorem dX7_rollsMore_29 : decode cX7_rollsMore 29 = .ok (.aload_n 0, 1) := by decide +kernel
theorem dX7_rollsMore_30 : decode cX7_rollsMore 30 = .ok (.iconst 0, 1) := by decide +kernel
theorem dX7_rollsMore_31 : decode cX7_rollsMore 31 = .ok (.putfield 91, 3) := by decide +kernel
theorem dX7_rollsMore_34 : decode cX7_rollsMore 34 = .ok (.aload_n 0, 1) := by decide +kernel
theorem dX7_rollsMore_35 : decode cX7_rollsMore 35 = .ok (.iload_n 1, 1) := by decide +kernel
theorem dX7_rollsMore_36 : decode cX7_rollsMore 36 = .ok (.iload_n 2, 1) := by decide +kernel
theorem dX7_rollsMore_37 : decode cX7_rollsMore 37 = .ok (.iload_n 1, 1) := by decide +kernel
theorem dX7_rollsMore_38 : decode cX7_rollsMore 38 = .ok (.iload_n 3, 1) := by decide +kernel
theorem dX7_rollsMore_39 : decode cX7_rollsMore 39 = .ok (.invokevirtual 211, 3) := by decide +kernel
theorem dX7_rollsMore_42 : decode cX7_rollsMore 42 = .ok (.lreturn, 1) := by decide +kernel
def B_X7_rollsMore_0 (X : Nat × (Nat → Int32)) (J : Nat → zCf) (R : zRt) : zCf := oALOAD 0 (oINV0 X M_X7_noTube 7 (oIFEQ (J 14) (oALOAD 0 (oPI (zj (1)) (oINV1 X M_X7_refuse 7 (oI2L (oLRET R)))))))
set_option maxRecDepth 100000 in
theorem vb_X7_rollsMore_0 {X : Nat × (Nat → Int32)} {R : zRt} : ∀ ls st h, B_X7_rollsMore_0 X (zV X M_X7_rollsMore (zQm M_X7_rollsMore R) 0 0) R ls st h → zV X M_X7_rollsMore (zQm M_X7_rollsMore R) 0 0 0 ls st h := sd_aload_n dX7_rollsMore_0 rfl (sd_inv0 dX7_rollsMore_1 rfl mv_X7_noTube na_X7_noTube ml_RX7_124 ⟨⟨Nat.le_of_ble_eq_true rfl, Nat.le_of_ble_eq_true rfl⟩, ⟨Nat.le_of_ble_eq_true rfl, Nat.le_of_ble_eq_true rfl⟩⟩ (sd_ifeq dX7_rollsMore_4 rfl (fun _ _ _ h => h) (sd_aload_n dX7_rollsMore_7 rfl (sd_iconst dX7_rollsMore_8 rfl (sd_inv1 dX7_rollsMore_9 rfl mv_X7_refuse na_X7_refuse ml_RX7_58 ⟨⟨Nat.le_of_ble_eq_true rfl, Nat.le_of_ble_eq_true rfl⟩, ⟨Nat.le_of_ble_eq_true rfl, Nat.le_of_ble_eq_true rfl⟩⟩ (sd_i2l dX7_rollsMore_12 (sd_lret dX7_rollsMore_13 rfl (Nat.le_of_ble_eq_true rfl) (Nat.le_of_ble_eq_true rfl))))))))
def B_X7_rollsMore_14 (X : Nat × (Nat → Int32)) (J : Nat → zCf) (R : zRt) : zCf := oILOAD 1 (oILOAD 2 (oINS2 X M_X7_areRolls (oIFNE (J 29) (oALOAD 0 (oPI (zj (2)) (oINV1 X M_X7_refuse 7 (oI2L (oLRET R))))))))
set_option maxRecDepth 100000 in
theorem vb_X7_rollsMore_14 {X : Nat × (Nat → Int32)} {R : zRt} : ∀ ls st h, B_X7_rollsMore_14 X (zV X M_X7_rollsMore (zQm M_X7_rollsMore R) 0 0) R ls st h → zV X M_X7_rollsMore (zQm M_X7_rollsMore R) 0 0 14 ls st h := sd_iload_n dX7_rollsMore_14 rfl (sd_iload_n dX7_rollsMore_15 rfl (sd_ins2 dX7_rollsMore_16 ms_X7_areRolls na_X7_areRolls ml_RX7_208 ⟨⟨Nat.le_of_ble_eq_true rfl, Nat.le_of_ble_eq_true rfl⟩, ⟨Nat.le_of_ble_eq_true rfl, Nat.le_of_ble_eq_true rfl⟩⟩ (sd_ifne dX7_rollsMore_19 rfl (fun _ _ _ h => h) (sd_aload_n dX7_rollsMore_22 rfl (sd_iconst dX7_rollsMore_23 rfl (sd_inv1 dX7_rollsMore_24 rfl mv_X7_refuse na_X7_refuse ml_RX7_58 ⟨⟨Nat.le_of_ble_eq_true rfl, Nat.le_of_ble_eq_true rfl⟩, ⟨Nat.le_of_ble_eq_true rfl, Nat.le_of_ble_eq_true rfl⟩⟩ (sd_i2l dX7_rollsMore_27 (sd_lret dX7_rollsMore_28 rfl (Nat.le_of_ble_eq_true rfl) (Nat.le_of_ble_eq_true rfl)))))))))
def B_X7_rollsMore_29 (X : Nat × (Nat → Int32)) (J : Nat → zCf) (R : zRt) : zCf := oALOAD 0 (oPI (zj (0)) (oPUTI 7 5 (oALOAD 0 (oILOAD 1 (oILOAD 2 (oILOAD 1 (oILOAD 3 (oINV4 X M_X7_oddsPart 7 (oLRET R)))))))))
set_option maxRecDepth 100000 in
theorem vb_X7_rollsMore_29 {X : Nat × (Nat → Int32)} {R : zRt} : ∀ ls st h, B_X7_rollsMore_29 X (zV X M_X7_rollsMore (zQm M_X7_rollsMore R) 0 0) R ls st h → zV X M_X7_rollsMore (zQm M_X7_rollsMore R) 0 0 29 ls st h := sd_aload_n dX7_rollsMore_29 rfl (sd_iconst dX7_rollsMore_30 rfl (sd_puti dX7_rollsMore_31 zCl7 (Nat.le_of_ble_eq_true rfl) lk_RX7_91 rfl (Or.inl rfl) (sd_aload_n dX7_rollsMore_34 rfl (sd_iload_n dX7_rollsMore_35 rfl (sd_iload_n dX7_rollsMore_36 rfl (sd_iload_n dX7_rollsMore_37 rfl (sd_iload_n dX7_rollsMore_38 rfl (sd_inv4 dX7_rollsMore_39 rfl mv_X7_oddsPart na_X7_oddsPart ml_RX7_211 ⟨⟨Nat.le_of_ble_eq_true rfl, Nat.le_of_ble_eq_true rfl⟩, ⟨Nat.le_of_ble_eq_true rfl, Nat.le_of_ble_eq_true rfl⟩⟩ (sd_lret dX7_rollsMore_42 rfl (Nat.le_of_ble_eq_true rfl) (Nat.le_of_ble_eq_true rfl))))))))))
theorem dX7_watch_0 : decode cX7_watch 0 = .ok (.aload_n 0, 1) := by decide +kernel
theorem dX7_watch_1 : decode cX7_watch 1 = .ok (.invokevirtual 124, 3) := by decide +kernel
theorem dX7_watch_4 : decode cX7_watch 4 = .ok (.ifCond .eq 9, 3) := by decide +kernel
theorem dX7_watch_7 : decode cX7_watch 7 = .ok (.aload_n 0, 1) := by decide +kernel
theorem dX7_watch_8 : decode cX7_watch 8 = .ok (.iconst 1, 1) := by decide +kernel
theorem dX7_watch_9 : decode cX7_watch 9 = .ok (.invokevirtual 58, 3) := by decide +kernel
theorem dX7_watch_12 : decode cX7_watch 12 = .ok (.ireturn, 1) := by decide +kernel
theorem dX7_watch_13 : decode cX7_watch 13 = .ok (.iload_n 1, 1) := by decide +kernel
theorem dX7_watch_14 : decode cX7_watch 14 = .ok (.ifCond .lt 9, 3) := by decide +kernel
theorem dX7_watch_17 : decode cX7_watch 17 = .ok (.iload_n 1, 1) := by decide +kernel
theorem dX7_watch_18 : decode cX7_watch 18 = .ok (.bipush 6, 2) := by decide +kernel
theorem dX7_watch_20 : decode cX7_watch 20 = .ok (.if_icmp .le 9, 3) := by decide +kernel
theorem dX7_watch_23 : decode cX7_watch 23 = .ok (.aload_n 0, 1) := by decide +kernel
theorem dX7_watch_24 : decode cX7_watch 24 = .ok (.iconst 2, 1) := by decide +kernel
theorem dX7_watch_25 : decode cX7_watch 25 = .ok (.invokevirtual 58, 3) := by decide +kernel
theorem dX7_watch_28 : decode cX7_watch 28 = .ok (.ireturn, 1) := by decide +kernel
theorem dX7_watch_29 : decode cX7_watch 29 = .ok (.aload_n 0, 1) := by decide +kernel
theorem dX7_watch_30 : decode cX7_watch 30 = .ok (.aload_n 0, 1) := by decide +kernel
theorem dX7_watch_31 : decode cX7_watch 31 = .ok (.getfield 19, 3) := by decide +kernel
theorem dX7_watch_34 : decode cX7_watch 34 = .ok (.iload_n 1, 1) := by decide +kernel
theorem dX7_watch_35 : decode cX7_watch 35 = .ok (.invokevirtual 215, 3) := by decide +kernel
theorem dX7_watch_38 : decode cX7_watch 38 = .ok (.invokevirtual 85, 3) := by decide +kernel
theorem dX7_watch_41 : decode cX7_watch 41 = .ok (.ireturn, 1) := by decide +kernel
def B_X7_watch_0 (X : Nat × (Nat → Int32)) (J : Nat → zCf) (R : zRt) : zCf := oALOAD 0 (oINV0 X M_X7_noTube 7 (oIFEQ (J 13) (oALOAD 0 (oPI (zj (1)) (oINV1 X M_X7_refuse 7 (oIRET R))))))
set_option maxRecDepth 100000 in
theorem vb_X7_watch_0 {X : Nat × (Nat → Int32)} {R : zRt} : ∀ ls st h, B_X7_watch_0 X (zV X M_X7_watch (zQm M_X7_watch R) 0 0) R ls st h → zV X M_X7_watch (zQm M_X7_watch R) 0 0 0 ls st h := sd_aload_n dX7_watch_0 rfl (sd_inv0 dX7_watch_1 rfl mv_X7_noTube na_X7_noTube ml_RX7_124 ⟨⟨Nat.le_of_ble_eq_true rfl, Nat.le_of_ble_eq_true rfl⟩, ⟨Nat.le_of_ble_eq_true rfl, Nat.le_of_ble_eq_true rfl⟩⟩ (sd_ifeq dX7_watch_4 rfl (fun _ _ _ h => h) (sd_aload_n dX7_watch_7 rfl (sd_iconst dX7_watch_8 rfl (sd_inv1 dX7_watch_9 rfl mv_X7_refuse na_X7_refuse ml_RX7_58 ⟨⟨Nat.le_of_ble_eq_true rfl, Nat.le_of_ble_eq_true rfl⟩, ⟨Nat.le_of_ble_eq_true rfl, Nat.le_of_ble_eq_true rfl⟩⟩ (sd_iret dX7_watch_12 rfl (Nat.le_of_ble_eq_true rfl) (Nat.le_of_ble_eq_true rfl)))))))
def B_X7_watch_13 (X : Nat × (Nat → Int32)) (J : Nat → zCf) (R : zRt) : zCf := oILOAD 1 (oIFLT (J 23) (oILOAD 1 (oPI (zj (6)) (oICLE (J 29) (J 23)))))
set_option maxRecDepth 100000 in
theorem vb_X7_watch_13 {X : Nat × (Nat → Int32)} {R : zRt} : ∀ ls st h, B_X7_watch_13 X (zV X M_X7_watch (zQm M_X7_watch R) 0 0) R ls st h → zV X M_X7_watch (zQm M_X7_watch R) 0 0 13 ls st h := sd_iload_n dX7_watch_13 rfl (sd_iflt dX7_watch_14 rfl (fun _ _ _ h => h) (sd_iload_n dX7_watch_17 rfl (sd_bipush dX7_watch_18 rfl (sd_icle dX7_watch_20 rfl (fun _ _ _ h => h) (fun _ _ _ h => h)))))
def B_X7_watch_23 (X : Nat × (Nat → Int32)) (J : Nat → zCf) (R : zRt) : zCf := oALOAD 0 (oPI (zj (2)) (oINV1 X M_X7_refuse 7 (oIRET R)))
set_option maxRecDepth 100000 in
theorem vb_X7_watch_23 {X : Nat × (Nat → Int32)} {R : zRt} : ∀ ls st h, B_X7_watch_23 X (zV X M_X7_watch (zQm M_X7_watch R) 0 0) R ls st h → zV X M_X7_watch (zQm M_X7_watch R) 0 0 23 ls st h := sd_aload_n dX7_watch_23 rfl (sd_iconst dX7_watch_24 rfl (sd_inv1 dX7_watch_25 rfl mv_X7_refuse na_X7_refuse ml_RX7_58 ⟨⟨Nat.le_of_ble_eq_true rfl, Nat.le_of_ble_eq_true rfl⟩, ⟨Nat.le_of_ble_eq_true rfl, Nat.le_of_ble_eq_true rfl⟩⟩ (sd_iret dX7_watch_28 rfl (Nat.le_of_ble_eq_true rfl) (Nat.le_of_ble_eq_true rfl))))
def B_X7_watch_29 (X : Nat × (Nat → Int32)) (J : Nat → zCf) (R : zRt) : zCf := oALOAD 0 (oALOAD 0 (oGETR 7 1 (oILOAD 1 (oINV1 X M_X4_fewestWatchers 4 (oINV1 X M_X7_answer 7 (oIRET R))))))
set_option maxRecDepth 100000 in
theorem vb_X7_watch_29 {X : Nat × (Nat → Int32)} {R : zRt} : ∀ ls st h, B_X7_watch_29 X (zV X M_X7_watch (zQm M_X7_watch R) 0 0) R ls st h → zV X M_X7_watch (zQm M_X7_watch R) 0 0 29 ls st h := sd_aload_n dX7_watch_29 rfl (sd_aload_n dX7_watch_30 rfl (sd_getr dX7_watch_31 zCl7 (Nat.le_of_ble_eq_true rfl) lk_RX7_19 (Or.inl ⟨_, rfl⟩) (sd_iload_n dX7_watch_34 rfl (sd_inv1 dX7_watch_35 rfl mv_X4_fewestWatchers na_X4_fewestWatchers ml_RX7_215 ⟨⟨Nat.le_of_ble_eq_true rfl, Nat.le_of_ble_eq_true rfl⟩, ⟨Nat.le_of_ble_eq_true rfl, Nat.le_of_ble_eq_true rfl⟩⟩ (sd_inv1 dX7_watch_38 rfl mv_X7_answer na_X7_answer ml_RX7_85 ⟨⟨Nat.le_of_ble_eq_true rfl, Nat.le_of_ble_eq_true rfl⟩, ⟨Nat.le_of_ble_eq_true rfl, Nat.le_of_ble_eq_true rfl⟩⟩ (sd_iret dX7_watch_41 rfl (Nat.le_of_ble_eq_true rfl) (Nat.le_of_ble_eq_true rfl)))))))
theorem dX7_person_0 : decode cX7_person 0 = .ok (.aload_n 0, 1) := by decide +kernel
theorem dX7_person_1 : decode cX7_person 1 = .ok (.iload_n 1, 1) := by decide +kernel
theorem dX7_person_2 : decode cX7_person 2 = .ok (.invokevirtual 218, 3) := by decide +kernel
theorem dX7_person_5 : decode cX7_person 5 = .ok (.ifCond .ne 9, 3) := by decide +kernel
theorem dX7_person_8 : decode cX7_person 8 = .ok (.aload_n 0, 1) := by decide +kernel
theorem dX7_person_9 : decode cX7_person 9 = .ok (.iconst 1, 1) := by decide +kernel
theorem dX7_person_10 : decode cX7_person 10 = .ok (.invokevirtual 58, 3) := by decide +kernel
theorem dX7_person_13 : decode cX7_person 13 = .ok (.ireturn, 1) := by decide +kernel
theorem dX7_person_14 : decode cX7_person 14 = .ok (.iload_n 2, 1) := by decide +kernel
theorem dX7_person_15 : decode cX7_person 15 = .ok (.tableswitch 70 0 2 #[25, 41, 57], 25) := by decide +kernel
theorem dX7_person_40 : decode cX7_person 40 = .ok (.aload_n 0, 1) := by decide +kernel
theorem dX7_person_41 : decode cX7_person 41 = .ok (.aload_n 0, 1) := by decide +kernel
theorem dX7_person_42 : decode cX7_person 42 = .ok (.getfield 19, 3) := by decide +kernel
theorem dX7_person_45 : decode cX7_person 45 = .ok (.iload_n 1, 1) := by decide +kernel
theorem dX7_person_46 : decode cX7_person 46 = .ok (.invokevirtual 221, 3) := by decide +kernel
theorem dX7_person_49 : decode cX7_person 49 = .ok (.invokestatic 224, 3) := by decide +kernel
theorem dX7_person_52 : decode cX7_person 52 = .ok (.invokevirtual 85, 3) := by decide +kernel
theorem dX7_person_55 : decode cX7_person 55 = .ok (.ireturn, 1) := by decide +kernel
theorem dX7_person_56 : decode cX7_person 56 = .ok (.aload_n 0, 1) := by decide +kernel
theorem dX7_person_57 : decode cX7_person 57 = .ok (.aload_n 0, 1) := by decide +kernel
theorem dX7_person_58 : decode cX7_person 58 = .ok (.getfield 19, 3) := by decide +kernel
theorem dX7_person_61 : decode cX7_person 61 = .ok (.iload_n 1, 1) := by decide +kernel
theorem dX7_person_62 : decode cX7_person 62 = .ok (.invokevirtual 221, 3) := by decide +kernel
theorem dX7_person_65 : decode cX7_person 65 = .ok (.invokestatic 227, 3) := by decide +kernel
theorem dX7_person_68 : decode cX7_person 68 = .ok (.invokevirtual 85, 3) := by decide +kernel
theorem dX7_person_71 : decode cX7_person 71 = .ok (.ireturn, 1) := by decide +kernel
theorem dX7_person_72 : decode cX7_person 72 = .ok (.aload_n 0, 1) := by decide +kernel
theorem dX7_person_73 : decode cX7_person 73 = .ok (.aload_n 0, 1) := by decide +kernel
theorem dX7_person_74 : decode cX7_person 74 = .ok (.getfield 19, 3) := by decide +kernel
theorem dX7_person_77 : decode cX7_person 77 = .ok (.iload_n 1, 1) := by decide +kernel
theorem dX7_person_78 : decode cX7_person 78 = .ok (.invokevirtual 230, 3) := by decide +kernel
theorem dX7_person_81 : decode cX7_person 81 = .ok (.invokevirtual 85, 3) := by decide +kernel
theorem dX7_person_84 : decode cX7_person 84 = .ok (.ireturn, 1) := by decide +kernel
theorem dX7_person_85 : decode cX7_person 85 = .ok (.aload_n 0, 1) := by decide +kernel
theorem dX7_person_86 : decode cX7_person 86 = .ok (.iconst 1, 1) := by decide +kernel
theorem dX7_person_87 : decode cX7_person 87 = .ok (.invokevirtual 58, 3) := by decide +kernel
theorem dX7_person_90 : decode cX7_person 90 = .ok (.ireturn, 1) := by decide +kernel
def B_X7_person_0 (X : Nat × (Nat → Int32)) (J : Nat → zCf) (R : zRt) : zCf := oALOAD 0 (oILOAD 1 (oINV1 X M_X7_isPerson 7 (oIFNE (J 14) (oALOAD 0 (oPI (zj (1)) (oINV1 X M_X7_refuse 7 (oIRET R)))))))
set_option maxRecDepth 100000 in
theorem vb_X7_person_0 {X : Nat × (Nat → Int32)} {R : zRt} : ∀ ls st h, B_X7_person_0 X (zV X M_X7_person (zQm M_X7_person R) 0 0) R ls st h → zV X M_X7_person (zQm M_X7_person R) 0 0 0 ls st h := sd_aload_n dX7_person_0 rfl (sd_iload_n dX7_person_1 rfl (sd_inv1 dX7_person_2 rfl mv_X7_isPerson na_X7_isPerson ml_RX7_218 ⟨⟨Nat.le_of_ble_eq_true rfl, Nat.le_of_ble_eq_true rfl⟩, ⟨Nat.le_of_ble_eq_true rfl, Nat.le_of_ble_eq_true rfl⟩⟩ (sd_ifne dX7_person_5 rfl (fun _ _ _ h => h) (sd_aload_n dX7_person_8 rfl (sd_iconst dX7_person_9 rfl (sd_inv1 dX7_person_10 rfl mv_X7_refuse na_X7_refuse ml_RX7_58 ⟨⟨Nat.le_of_ble_eq_true rfl, Nat.le_of_ble_eq_true rfl⟩, ⟨Nat.le_of_ble_eq_true rfl, Nat.le_of_ble_eq_true rfl⟩⟩ (sd_iret dX7_person_13 rfl (Nat.le_of_ble_eq_true rfl) (Nat.le_of_ble_eq_true rfl))))))))
def B_X7_person_14 (X : Nat × (Nat → Int32)) (J : Nat → zCf) (R : zRt) : zCf := oILOAD 2 (oTSW (0) 3 (fun i => J ([40, 56, 72].getD i 0)) (J 85))
set_option maxRecDepth 100000 in
theorem vb_X7_person_14 {X : Nat × (Nat → Int32)} {R : zRt} : ∀ ls st h, B_X7_person_14 X (zV X M_X7_person (zQm M_X7_person R) 0 0) R ls st h → zV X M_X7_person (zQm M_X7_person R) 0 0 14 ls st h := sd_iload_n dX7_person_14 rfl (sd_tsw (tg := fun i => [40, 56, 72].getD i 0) dX7_person_15 rfl rfl (fun i hi => by
    match i, hi with
    | 0, _ => exact ⟨_, rfl, rfl⟩
    | 1, _ => exact ⟨_, rfl, rfl⟩
    | 2, _ => exact ⟨_, rfl, rfl⟩
    | i + 3, hi => omega) (fun _ _ _ h => h) (fun _ _ _ _ _ h => h))
def B_X7_person_40 (X : Nat × (Nat → Int32)) (J : Nat → zCf) (R : zRt) : zCf := oALOAD 0 (oALOAD 0 (oGETR 7 1 (oILOAD 1 (oINV1 X M_X4_spotOf 4 (oINS1 X M_X7_countryAt (oINV1 X M_X7_answer 7 (oIRET R)))))))
set_option maxRecDepth 100000 in
theorem vb_X7_person_40 {X : Nat × (Nat → Int32)} {R : zRt} : ∀ ls st h, B_X7_person_40 X (zV X M_X7_person (zQm M_X7_person R) 0 0) R ls st h → zV X M_X7_person (zQm M_X7_person R) 0 0 40 ls st h := sd_aload_n dX7_person_40 rfl (sd_aload_n dX7_person_41 rfl (sd_getr dX7_person_42 zCl7 (Nat.le_of_ble_eq_true rfl) lk_RX7_19 (Or.inl ⟨_, rfl⟩) (sd_iload_n dX7_person_45 rfl (sd_inv1 dX7_person_46 rfl mv_X4_spotOf na_X4_spotOf ml_RX7_221 ⟨⟨Nat.le_of_ble_eq_true rfl, Nat.le_of_ble_eq_true rfl⟩, ⟨Nat.le_of_ble_eq_true rfl, Nat.le_of_ble_eq_true rfl⟩⟩ (sd_ins1 dX7_person_49 ms_X7_countryAt na_X7_countryAt ml_RX7_224 ⟨⟨Nat.le_of_ble_eq_true rfl, Nat.le_of_ble_eq_true rfl⟩, ⟨Nat.le_of_ble_eq_true rfl, Nat.le_of_ble_eq_true rfl⟩⟩ (sd_inv1 dX7_person_52 rfl mv_X7_answer na_X7_answer ml_RX7_85 ⟨⟨Nat.le_of_ble_eq_true rfl, Nat.le_of_ble_eq_true rfl⟩, ⟨Nat.le_of_ble_eq_true rfl, Nat.le_of_ble_eq_true rfl⟩⟩ (sd_iret dX7_person_55 rfl (Nat.le_of_ble_eq_true rfl) (Nat.le_of_ble_eq_true rfl))))))))
def B_X7_person_56 (X : Nat × (Nat → Int32)) (J : Nat → zCf) (R : zRt) : zCf := oALOAD 0 (oALOAD 0 (oGETR 7 1 (oILOAD 1 (oINV1 X M_X4_spotOf 4 (oINS1 X M_X7_cellAt (oINV1 X M_X7_answer 7 (oIRET R)))))))
set_option maxRecDepth 100000 in
theorem vb_X7_person_56 {X : Nat × (Nat → Int32)} {R : zRt} : ∀ ls st h, B_X7_person_56 X (zV X M_X7_person (zQm M_X7_person R) 0 0) R ls st h → zV X M_X7_person (zQm M_X7_person R) 0 0 56 ls st h := sd_aload_n dX7_person_56 rfl (sd_aload_n dX7_person_57 rfl (sd_getr dX7_person_58 zCl7 (Nat.le_of_ble_eq_true rfl) lk_RX7_19 (Or.inl ⟨_, rfl⟩) (sd_iload_n dX7_person_61 rfl (sd_inv1 dX7_person_62 rfl mv_X4_spotOf na_X4_spotOf ml_RX7_221 ⟨⟨Nat.le_of_ble_eq_true rfl, Nat.le_of_ble_eq_true rfl⟩, ⟨Nat.le_of_ble_eq_true rfl, Nat.le_of_ble_eq_true rfl⟩⟩ (sd_ins1 dX7_person_65 ms_X7_cellAt na_X7_cellAt ml_RX7_227 ⟨⟨Nat.le_of_ble_eq_true rfl, Nat.le_of_ble_eq_true rfl⟩, ⟨Nat.le_of_ble_eq_true rfl, Nat.le_of_ble_eq_true rfl⟩⟩ (sd_inv1 dX7_person_68 rfl mv_X7_answer na_X7_answer ml_RX7_85 ⟨⟨Nat.le_of_ble_eq_true rfl, Nat.le_of_ble_eq_true rfl⟩, ⟨Nat.le_of_ble_eq_true rfl, Nat.le_of_ble_eq_true rfl⟩⟩ (sd_iret dX7_person_71 rfl (Nat.le_of_ble_eq_true rfl) (Nat.le_of_ble_eq_true rfl))))))))
def B_X7_person_72 (X : Nat × (Nat → Int32)) (J : Nat → zCf) (R : zRt) : zCf := oALOAD 0 (oALOAD 0 (oGETR 7 1 (oILOAD 1 (oINV1 X M_X4_stepsOf 4 (oINV1 X M_X7_answer 7 (oIRET R))))))
set_option maxRecDepth 100000 in
theorem vb_X7_person_72 {X : Nat × (Nat → Int32)} {R : zRt} : ∀ ls st h, B_X7_person_72 X (zV X M_X7_person (zQm M_X7_person R) 0 0) R ls st h → zV X M_X7_person (zQm M_X7_person R) 0 0 72 ls st h := sd_aload_n dX7_person_72 rfl (sd_aload_n dX7_person_73 rfl (sd_getr dX7_person_74 zCl7 (Nat.le_of_ble_eq_true rfl) lk_RX7_19 (Or.inl ⟨_, rfl⟩) (sd_iload_n dX7_person_77 rfl (sd_inv1 dX7_person_78 rfl mv_X4_stepsOf na_X4_stepsOf ml_RX7_230 ⟨⟨Nat.le_of_ble_eq_true rfl, Nat.le_of_ble_eq_true rfl⟩, ⟨Nat.le_of_ble_eq_true rfl, Nat.le_of_ble_eq_true rfl⟩⟩ (sd_inv1 dX7_person_81 rfl mv_X7_answer na_X7_answer ml_RX7_85 ⟨⟨Nat.le_of_ble_eq_true rfl, Nat.le_of_ble_eq_true rfl⟩, ⟨Nat.le_of_ble_eq_true rfl, Nat.le_of_ble_eq_true rfl⟩⟩ (sd_iret dX7_person_84 rfl (Nat.le_of_ble_eq_true rfl) (Nat.le_of_ble_eq_true rfl)))))))
def B_X7_person_85 (X : Nat × (Nat → Int32)) (J : Nat → zCf) (R : zRt) : zCf := oALOAD 0 (oPI (zj (1)) (oINV1 X M_X7_refuse 7 (oIRET R)))
set_option maxRecDepth 100000 in
theorem vb_X7_person_85 {X : Nat × (Nat → Int32)} {R : zRt} : ∀ ls st h, B_X7_person_85 X (zV X M_X7_person (zQm M_X7_person R) 0 0) R ls st h → zV X M_X7_person (zQm M_X7_person R) 0 0 85 ls st h := sd_aload_n dX7_person_85 rfl (sd_iconst dX7_person_86 rfl (sd_inv1 dX7_person_87 rfl mv_X7_refuse na_X7_refuse ml_RX7_58 ⟨⟨Nat.le_of_ble_eq_true rfl, Nat.le_of_ble_eq_true rfl⟩, ⟨Nat.le_of_ble_eq_true rfl, Nat.le_of_ble_eq_true rfl⟩⟩ (sd_iret dX7_person_90 rfl (Nat.le_of_ble_eq_true rfl) (Nat.le_of_ble_eq_true rfl))))
theorem dX7_way_0 : decode cX7_way 0 = .ok (.aload_n 0, 1) := by decide +kernel
theorem dX7_way_1 : decode cX7_way 1 = .ok (.iload_n 1, 1) := by decide +kernel
theorem dX7_way_2 : decode cX7_way 2 = .ok (.invokevirtual 218, 3) := by decide +kernel
theorem dX7_way_5 : decode cX7_way 5 = .ok (.ifCond .ne 9, 3) := by decide +kernel
theorem dX7_way_8 : decode cX7_way 8 = .ok (.aload_n 0, 1) := by decide +kernel
theorem dX7_way_9 : decode cX7_way 9 = .ok (.iconst 1, 1) := by decide +kernel
theorem dX7_way_10 : decode cX7_way 10 = .ok (.invokevirtual 58, 3) := by decide +kernel
theorem dX7_way_13 : decode cX7_way 13 = .ok (.ireturn, 1) := by decide +kernel
theorem dX7_way_14 : decode cX7_way 14 = .ok (.iload_n 2, 1) := by decide +kernel
theorem dX7_way_15 : decode cX7_way 15 = .ok (.invokestatic 137, 3) := by decide +kernel
theorem dX7_way_18 : decode cX7_way 18 = .ok (.ifCond .eq 10, 3) := by decide +kernel
theorem dX7_way_21 : decode cX7_way 21 = .ok (.iload_n 3, 1) := by decide +kernel
theorem dX7_way_22 : decode cX7_way 22 = .ok (.invokestatic 128, 3) := by decide +kernel
theorem dX7_way_25 : decode cX7_way 25 = .ok (.ifCond .ne 9, 3) := by decide +kernel
theorem dX7_way_28 : decode cX7_way 28 = .ok (.aload_n 0, 1) := by decide +kernel
theorem dX7_way_29 : decode cX7_way 29 = .ok (.iconst 2, 1) := by decide +kernel
theorem dX7_way_30 : decode cX7_way 30 = .ok (.invokevirtual 58, 3) := by decide +kernel
theorem dX7_way_33 : decode cX7_way 33 = .ok (.ireturn, 1) := by decide +kernel
theorem dX7_way_34 : decode cX7_way 34 = .ok (.aload_n 0, 1) := by decide +kernel
theorem dX7_way_35 : decode cX7_way 35 = .ok (.aload_n 0, 1) := by decide +kernel
theorem dX7_way_36 : decode cX7_way 36 = .ok (.getfield 19, 3) := by decide +kernel
theorem dX7_way_39 : decode cX7_way 39 = .ok (.aload_n 0, 1) := by decide +kernel
theorem dX7_way_40 : decode cX7_way 40 = .ok (.getfield 19, 3) := by decide +kernel
theorem dX7_way_43 : decode cX7_way 43 = .ok (.iload_n 1, 1) := by decide +kernel
theorem dX7_way_44 : decode cX7_way 44 = .ok (.invokevirtual 221, 3) := by decide +kernel
theorem dX7_way_47 : decode cX7_way 47 = .ok (.iload_n 2, 1) := by decide +kernel
theorem dX7_way_48 : decode cX7_way 48 = .ok (.iload_n 3, 1) := by decide +kernel
theorem dX7_way_49 : decode cX7_way 49 = .ok (.invokestatic 233, 3) := by decide +kernel
theorem dX7_way_52 : decode cX7_way 52 = .ok (.invokevirtual 236, 3) := by decide +kernel
theorem dX7_way_55 : decode cX7_way 55 = .ok (.invokevirtual 85, 3) := by decide +kernel
theorem dX7_way_58 : decode cX7_way 58 = .ok (.ireturn, 1) := by decide +kernel
def B_X7_way_0 (X : Nat × (Nat → Int32)) (J : Nat → zCf) (R : zRt) : zCf := oALOAD 0 (oILOAD 1 (oINV1 X M_X7_isPerson 7 (oIFNE (J 14) (oALOAD 0 (oPI (zj (1)) (oINV1 X M_X7_refuse 7 (oIRET R)))))))
set_option maxRecDepth 100000 in
theorem vb_X7_way_0 {X : Nat × (Nat → Int32)} {R : zRt} : ∀ ls st h, B_X7_way_0 X (zV X M_X7_way (zQm M_X7_way R) 0 0) R ls st h → zV X M_X7_way (zQm M_X7_way R) 0 0 0 ls st h := sd_aload_n dX7_way_0 rfl (sd_iload_n dX7_way_1 rfl (sd_inv1 dX7_way_2 rfl mv_X7_isPerson na_X7_isPerson ml_RX7_218 ⟨⟨Nat.le_of_ble_eq_true rfl, Nat.le_of_ble_eq_true rfl⟩, ⟨Nat.le_of_ble_eq_true rfl, Nat.le_of_ble_eq_true rfl⟩⟩ (sd_ifne dX7_way_5 rfl (fun _ _ _ h => h) (sd_aload_n dX7_way_8 rfl (sd_iconst dX7_way_9 rfl (sd_inv1 dX7_way_10 rfl mv_X7_refuse na_X7_refuse ml_RX7_58 ⟨⟨Nat.le_of_ble_eq_true rfl, Nat.le_of_ble_eq_true rfl⟩, ⟨Nat.le_of_ble_eq_true rfl, Nat.le_of_ble_eq_true rfl⟩⟩ (sd_iret dX7_way_13 rfl (Nat.le_of_ble_eq_true rfl) (Nat.le_of_ble_eq_true rfl))))))))
def B_X7_way_14 (X : Nat × (Nat → Int32)) (J : Nat → zCf) (R : zRt) : zCf := oILOAD 2 (oINS1 X M_X7_isCountry (oIFEQ (J 28) (oILOAD 3 (oINS1 X M_X7_isCell (oIFNE (J 34) (J 28))))))
set_option maxRecDepth 100000 in
theorem vb_X7_way_14 {X : Nat × (Nat → Int32)} {R : zRt} : ∀ ls st h, B_X7_way_14 X (zV X M_X7_way (zQm M_X7_way R) 0 0) R ls st h → zV X M_X7_way (zQm M_X7_way R) 0 0 14 ls st h := sd_iload_n dX7_way_14 rfl (sd_ins1 dX7_way_15 ms_X7_isCountry na_X7_isCountry ml_RX7_137 ⟨⟨Nat.le_of_ble_eq_true rfl, Nat.le_of_ble_eq_true rfl⟩, ⟨Nat.le_of_ble_eq_true rfl, Nat.le_of_ble_eq_true rfl⟩⟩ (sd_ifeq dX7_way_18 rfl (fun _ _ _ h => h) (sd_iload_n dX7_way_21 rfl (sd_ins1 dX7_way_22 ms_X7_isCell na_X7_isCell ml_RX7_128 ⟨⟨Nat.le_of_ble_eq_true rfl, Nat.le_of_ble_eq_true rfl⟩, ⟨Nat.le_of_ble_eq_true rfl, Nat.le_of_ble_eq_true rfl⟩⟩ (sd_ifne dX7_way_25 rfl (fun _ _ _ h => h) (fun _ _ _ h => h))))))
def B_X7_way_28 (X : Nat × (Nat → Int32)) (J : Nat → zCf) (R : zRt) : zCf := oALOAD 0 (oPI (zj (2)) (oINV1 X M_X7_refuse 7 (oIRET R)))
set_option maxRecDepth 100000 in
theorem vb_X7_way_28 {X : Nat × (Nat → Int32)} {R : zRt} : ∀ ls st h, B_X7_way_28 X (zV X M_X7_way (zQm M_X7_way R) 0 0) R ls st h → zV X M_X7_way (zQm M_X7_way R) 0 0 28 ls st h := sd_aload_n dX7_way_28 rfl (sd_iconst dX7_way_29 rfl (sd_inv1 dX7_way_30 rfl mv_X7_refuse na_X7_refuse ml_RX7_58 ⟨⟨Nat.le_of_ble_eq_true rfl, Nat.le_of_ble_eq_true rfl⟩, ⟨Nat.le_of_ble_eq_true rfl, Nat.le_of_ble_eq_true rfl⟩⟩ (sd_iret dX7_way_33 rfl (Nat.le_of_ble_eq_true rfl) (Nat.le_of_ble_eq_true rfl))))
def B_X7_way_34 (X : Nat × (Nat → Int32)) (J : Nat → zCf) (R : zRt) : zCf := oALOAD 0 (oALOAD 0 (oGETR 7 1 (oALOAD 0 (oGETR 7 1 (oILOAD 1 (oINV1 X M_X4_spotOf 4 (oILOAD 2 (oILOAD 3 (oINS2 X M_X7_spotAt (oINV2 X M_X4_wayLength 4 (oINV1 X M_X7_answer 7 (oIRET R))))))))))))
set_option maxRecDepth 100000 in
theorem vb_X7_way_34 {X : Nat × (Nat → Int32)} {R : zRt} : ∀ ls st h, B_X7_way_34 X (zV X M_X7_way (zQm M_X7_way R) 0 0) R ls st h → zV X M_X7_way (zQm M_X7_way R) 0 0 34 ls st h := sd_aload_n dX7_way_34 rfl (sd_aload_n dX7_way_35 rfl (sd_getr dX7_way_36 zCl7 (Nat.le_of_ble_eq_true rfl) lk_RX7_19 (Or.inl ⟨_, rfl⟩) (sd_aload_n dX7_way_39 rfl (sd_getr dX7_way_40 zCl7 (Nat.le_of_ble_eq_true rfl) lk_RX7_19 (Or.inl ⟨_, rfl⟩) (sd_iload_n dX7_way_43 rfl (sd_inv1 dX7_way_44 rfl mv_X4_spotOf na_X4_spotOf ml_RX7_221 ⟨⟨Nat.le_of_ble_eq_true rfl, Nat.le_of_ble_eq_true rfl⟩, ⟨Nat.le_of_ble_eq_true rfl, Nat.le_of_ble_eq_true rfl⟩⟩ (sd_iload_n dX7_way_47 rfl (sd_iload_n dX7_way_48 rfl (sd_ins2 dX7_way_49 ms_X7_spotAt na_X7_spotAt ml_RX7_233 ⟨⟨Nat.le_of_ble_eq_true rfl, Nat.le_of_ble_eq_true rfl⟩, ⟨Nat.le_of_ble_eq_true rfl, Nat.le_of_ble_eq_true rfl⟩⟩ (sd_inv2 dX7_way_52 rfl mv_X4_wayLength na_X4_wayLength ml_RX7_236 ⟨⟨Nat.le_of_ble_eq_true rfl, Nat.le_of_ble_eq_true rfl⟩, ⟨Nat.le_of_ble_eq_true rfl, Nat.le_of_ble_eq_true rfl⟩⟩ (sd_inv1 dX7_way_55 rfl mv_X7_answer na_X7_answer ml_RX7_85 ⟨⟨Nat.le_of_ble_eq_true rfl, Nat.le_of_ble_eq_true rfl⟩, ⟨Nat.le_of_ble_eq_true rfl, Nat.le_of_ble_eq_true rfl⟩⟩ (sd_iret dX7_way_58 rfl (Nat.le_of_ble_eq_true rfl) (Nat.le_of_ble_eq_true rfl)))))))))))))
theorem dX7_wayUp_0 : decode cX7_wayUp 0 = .ok (.aload_n 0, 1) := by decide +kernel
theorem dX7_wayUp_1 : decode cX7_wayUp 1 = .ok (.iload_n 1, 1) := by decide +kernel
theorem dX7_wayUp_2 : decode cX7_wayUp 2 = .ok (.invokevirtual 218, 3) := by decide +kernel
theorem dX7_wayUp_5 : decode cX7_wayUp 5 = .ok (.ifCond .ne 9, 3) := by decide +kernel
theorem dX7_wayUp_8 : decode cX7_wayUp 8 = .ok (.aload_n 0, 1) := by decide +kernel
theorem dX7_wayUp_9 : decode cX7_wayUp 9 = .ok (.iconst 1, 1) := by decide +kernel
theorem dX7_wayUp_10 : decode cX7_wayUp 10 = .ok (.invokevirtual 58, 3) := by decide +kernel
theorem dX7_wayUp_13 : decode cX7_wayUp 13 = .ok (.ireturn, 1) := by decide +kernel
theorem dX7_wayUp_14 : decode cX7_wayUp 14 = .ok (.iload_n 2, 1) := by decide +kernel
theorem dX7_wayUp_15 : decode cX7_wayUp 15 = .ok (.invokestatic 137, 3) := by decide +kernel
theorem dX7_wayUp_18 : decode cX7_wayUp 18 = .ok (.ifCond .eq 10, 3) := by decide +kernel
theorem dX7_wayUp_21 : decode cX7_wayUp 21 = .ok (.iload_n 3, 1) := by decide +kernel
theorem dX7_wayUp_22 : decode cX7_wayUp 22 = .ok (.invokestatic 128, 3) := by decide +kernel
theorem dX7_wayUp_25 : decode cX7_wayUp 25 = .ok (.ifCond .ne 9, 3) := by decide +kernel
theorem dX7_wayUp_28 : decode cX7_wayUp 28 = .ok (.aload_n 0, 1) := by decide +kernel
theorem dX7_wayUp_29 : decode cX7_wayUp 29 = .ok (.iconst 2, 1) := by decide +kernel
theorem dX7_wayUp_30 : decode cX7_wayUp 30 = .ok (.invokevirtual 58, 3) := by decide +kernel
theorem dX7_wayUp_33 : decode cX7_wayUp 33 = .ok (.ireturn, 1) := by decide +kernel
theorem dX7_wayUp_34 : decode cX7_wayUp 34 = .ok (.aload_n 0, 1) := by decide +kernel
theorem dX7_wayUp_35 : decode cX7_wayUp 35 = .ok (.aload_n 0, 1) := by decide +kernel
theorem dX7_wayUp_36 : decode cX7_wayUp 36 = .ok (.getfield 19, 3) := by decide +kernel
theorem dX7_wayUp_39 : decode cX7_wayUp 39 = .ok (.aload_n 0, 1) := by decide +kernel
theorem dX7_wayUp_40 : decode cX7_wayUp 40 = .ok (.getfield 19, 3) := by decide +kernel
theorem dX7_wayUp_43 : decode cX7_wayUp 43 = .ok (.iload_n 1, 1) := by decide +kernel
theorem dX7_wayUp_44 : decode cX7_wayUp 44 = .ok (.invokevirtual 221, 3) := by decide +kernel
theorem dX7_wayUp_47 : decode cX7_wayUp 47 = .ok (.iload_n 2, 1) := by decide +kernel
theorem dX7_wayUp_48 : decode cX7_wayUp 48 = .ok (.iload_n 3, 1) := by decide +kernel
theorem dX7_wayUp_49 : decode cX7_wayUp 49 = .ok (.invokestatic 233, 3) := by decide +kernel
theorem dX7_wayUp_52 : decode cX7_wayUp 52 = .ok (.invokevirtual 239, 3) := by decide +kernel
theorem dX7_wayUp_55 : decode cX7_wayUp 55 = .ok (.ifCond .eq 7, 3) := by decide +kernel
theorem dX7_wayUp_58 : decode cX7_wayUp 58 = .ok (.iconst 1, 1) := by decide +kernel
theorem dX7_wayUp_59 : decode cX7_wayUp 59 = .ok (.goto 4, 3) := by decide +kernel
theorem dX7_wayUp_62 : decode cX7_wayUp 62 = .ok (.iconst 0, 1) := by decide +kernel
theorem dX7_wayUp_63 : decode cX7_wayUp 63 = .ok (.invokevirtual 85, 3) := by decide +kernel
theorem dX7_wayUp_66 : decode cX7_wayUp 66 = .ok (.ireturn, 1) := by decide +kernel
def B_X7_wayUp_0 (X : Nat × (Nat → Int32)) (J : Nat → zCf) (R : zRt) : zCf := oALOAD 0 (oILOAD 1 (oINV1 X M_X7_isPerson 7 (oIFNE (J 14) (oALOAD 0 (oPI (zj (1)) (oINV1 X M_X7_refuse 7 (oIRET R)))))))
set_option maxRecDepth 100000 in
theorem vb_X7_wayUp_0 {X : Nat × (Nat → Int32)} {R : zRt} : ∀ ls st h, B_X7_wayUp_0 X (zV X M_X7_wayUp (zQm M_X7_wayUp R) 0 0) R ls st h → zV X M_X7_wayUp (zQm M_X7_wayUp R) 0 0 0 ls st h := sd_aload_n dX7_wayUp_0 rfl (sd_iload_n dX7_wayUp_1 rfl (sd_inv1 dX7_wayUp_2 rfl mv_X7_isPerson na_X7_isPerson ml_RX7_218 ⟨⟨Nat.le_of_ble_eq_true rfl, Nat.le_of_ble_eq_true rfl⟩, ⟨Nat.le_of_ble_eq_true rfl, Nat.le_of_ble_eq_true rfl⟩⟩ (sd_ifne dX7_wayUp_5 rfl (fun _ _ _ h => h) (sd_aload_n dX7_wayUp_8 rfl (sd_iconst dX7_wayUp_9 rfl (sd_inv1 dX7_wayUp_10 rfl mv_X7_refuse na_X7_refuse ml_RX7_58 ⟨⟨Nat.le_of_ble_eq_true rfl, Nat.le_of_ble_eq_true rfl⟩, ⟨Nat.le_of_ble_eq_true rfl, Nat.le_of_ble_eq_true rfl⟩⟩ (sd_iret dX7_wayUp_13 rfl (Nat.le_of_ble_eq_true rfl) (Nat.le_of_ble_eq_true rfl))))))))
def B_X7_wayUp_14 (X : Nat × (Nat → Int32)) (J : Nat → zCf) (R : zRt) : zCf := oILOAD 2 (oINS1 X M_X7_isCountry (oIFEQ (J 28) (oILOAD 3 (oINS1 X M_X7_isCell (oIFNE (J 34) (J 28))))))
set_option maxRecDepth 100000 in
theorem vb_X7_wayUp_14 {X : Nat × (Nat → Int32)} {R : zRt} : ∀ ls st h, B_X7_wayUp_14 X (zV X M_X7_wayUp (zQm M_X7_wayUp R) 0 0) R ls st h → zV X M_X7_wayUp (zQm M_X7_wayUp R) 0 0 14 ls st h := sd_iload_n dX7_wayUp_14 rfl (sd_ins1 dX7_wayUp_15 ms_X7_isCountry na_X7_isCountry ml_RX7_137 ⟨⟨Nat.le_of_ble_eq_true rfl, Nat.le_of_ble_eq_true rfl⟩, ⟨Nat.le_of_ble_eq_true rfl, Nat.le_of_ble_eq_true rfl⟩⟩ (sd_ifeq dX7_wayUp_18 rfl (fun _ _ _ h => h) (sd_iload_n dX7_wayUp_21 rfl (sd_ins1 dX7_wayUp_22 ms_X7_isCell na_X7_isCell ml_RX7_128 ⟨⟨Nat.le_of_ble_eq_true rfl, Nat.le_of_ble_eq_true rfl⟩, ⟨Nat.le_of_ble_eq_true rfl, Nat.le_of_ble_eq_true rfl⟩⟩ (sd_ifne dX7_wayUp_25 rfl (fun _ _ _ h => h) (fun _ _ _ h => h))))))
def B_X7_wayUp_28 (X : Nat × (Nat → Int32)) (J : Nat → zCf) (R : zRt) : zCf := oALOAD 0 (oPI (zj (2)) (oINV1 X M_X7_refuse 7 (oIRET R)))
set_option maxRecDepth 100000 in
theorem vb_X7_wayUp_28 {X : Nat × (Nat → Int32)} {R : zRt} : ∀ ls st h, B_X7_wayUp_28 X (zV X M_X7_wayUp (zQm M_X7_wayUp R) 0 0) R ls st h → zV X M_X7_wayUp (zQm M_X7_wayUp R) 0 0 28 ls st h := sd_aload_n dX7_wayUp_28 rfl (sd_iconst dX7_wayUp_29 rfl (sd_inv1 dX7_wayUp_30 rfl mv_X7_refuse na_X7_refuse ml_RX7_58 ⟨⟨Nat.le_of_ble_eq_true rfl, Nat.le_of_ble_eq_true rfl⟩, ⟨Nat.le_of_ble_eq_true rfl, Nat.le_of_ble_eq_true rfl⟩⟩ (sd_iret dX7_wayUp_33 rfl (Nat.le_of_ble_eq_true rfl) (Nat.le_of_ble_eq_true rfl))))
def B_X7_wayUp_34 (X : Nat × (Nat → Int32)) (J : Nat → zCf) (R : zRt) : zCf := oALOAD 0 (oALOAD 0 (oGETR 7 1 (oALOAD 0 (oGETR 7 1 (oILOAD 1 (oINV1 X M_X4_spotOf 4 (oILOAD 2 (oILOAD 3 (oINS2 X M_X7_spotAt (oINV2 X M_X4_goesUp 4 (oIFEQ (J 62) (oPI (zj (1)) (J 63)))))))))))))
set_option maxRecDepth 100000 in
theorem vb_X7_wayUp_34 {X : Nat × (Nat → Int32)} {R : zRt} : ∀ ls st h, B_X7_wayUp_34 X (zV X M_X7_wayUp (zQm M_X7_wayUp R) 0 0) R ls st h → zV X M_X7_wayUp (zQm M_X7_wayUp R) 0 0 34 ls st h := sd_aload_n dX7_wayUp_34 rfl (sd_aload_n dX7_wayUp_35 rfl (sd_getr dX7_wayUp_36 zCl7 (Nat.le_of_ble_eq_true rfl) lk_RX7_19 (Or.inl ⟨_, rfl⟩) (sd_aload_n dX7_wayUp_39 rfl (sd_getr dX7_wayUp_40 zCl7 (Nat.le_of_ble_eq_true rfl) lk_RX7_19 (Or.inl ⟨_, rfl⟩) (sd_iload_n dX7_wayUp_43 rfl (sd_inv1 dX7_wayUp_44 rfl mv_X4_spotOf na_X4_spotOf ml_RX7_221 ⟨⟨Nat.le_of_ble_eq_true rfl, Nat.le_of_ble_eq_true rfl⟩, ⟨Nat.le_of_ble_eq_true rfl, Nat.le_of_ble_eq_true rfl⟩⟩ (sd_iload_n dX7_wayUp_47 rfl (sd_iload_n dX7_wayUp_48 rfl (sd_ins2 dX7_wayUp_49 ms_X7_spotAt na_X7_spotAt ml_RX7_233 ⟨⟨Nat.le_of_ble_eq_true rfl, Nat.le_of_ble_eq_true rfl⟩, ⟨Nat.le_of_ble_eq_true rfl, Nat.le_of_ble_eq_true rfl⟩⟩ (sd_inv2 dX7_wayUp_52 rfl mv_X4_goesUp na_X4_goesUp ml_RX7_239 ⟨⟨Nat.le_of_ble_eq_true rfl, Nat.le_of_ble_eq_true rfl⟩, ⟨Nat.le_of_ble_eq_true rfl, Nat.le_of_ble_eq_true rfl⟩⟩ (sd_ifeq dX7_wayUp_55 rfl (fun _ _ _ h => h) (sd_iconst dX7_wayUp_58 rfl (sd_goto dX7_wayUp_59 rfl (fun _ _ _ h => h))))))))))))))
def B_X7_wayUp_62 (X : Nat × (Nat → Int32)) (J : Nat → zCf) (R : zRt) : zCf := oPI (zj (0)) (J 63)
set_option maxRecDepth 100000 in
theorem vb_X7_wayUp_62 {X : Nat × (Nat → Int32)} {R : zRt} : ∀ ls st h, B_X7_wayUp_62 X (zV X M_X7_wayUp (zQm M_X7_wayUp R) 0 0) R ls st h → zV X M_X7_wayUp (zQm M_X7_wayUp R) 0 0 62 ls st h := sd_iconst dX7_wayUp_62 rfl (fun _ _ _ h => h)
def B_X7_wayUp_63 (X : Nat × (Nat → Int32)) (J : Nat → zCf) (R : zRt) : zCf := oINV1 X M_X7_answer 7 (oIRET R)
set_option maxRecDepth 100000 in
theorem vb_X7_wayUp_63 {X : Nat × (Nat → Int32)} {R : zRt} : ∀ ls st h, B_X7_wayUp_63 X (zV X M_X7_wayUp (zQm M_X7_wayUp R) 0 0) R ls st h → zV X M_X7_wayUp (zQm M_X7_wayUp R) 0 0 63 ls st h := sd_inv1 dX7_wayUp_63 rfl mv_X7_answer na_X7_answer ml_RX7_85 ⟨⟨Nat.le_of_ble_eq_true rfl, Nat.le_of_ble_eq_true rfl⟩, ⟨Nat.le_of_ble_eq_true rfl, Nat.le_of_ble_eq_true rfl⟩⟩ (sd_iret dX7_wayUp_66 rfl (Nat.le_of_ble_eq_true rfl) (Nat.le_of_ble_eq_true rfl))
