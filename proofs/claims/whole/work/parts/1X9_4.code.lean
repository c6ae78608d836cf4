theorem dX9_led_0 : decode cX9_led 0 = .ok (.aload_n 0, 1) := by decide +kernel
theorem dX9_led_1 : decode cX9_led 1 = .ok (.iconst 0, 1) := by decide +kernel
theorem dX9_led_2 : decode cX9_led 2 = .ok (.putfield 36, 3) := by decide +kernel
theorem dX9_led_5 : decode cX9_led 5 = .ok (.iconst 0, 1) := by decide +kernel
theorem dX9_led_6 : decode cX9_led 6 = .ok (.istore_n 2, 1) := by decide +kernel
theorem dX9_led_7 : decode cX9_led 7 = .ok (.iconst 0, 1) := by decide +kernel
theorem dX9_led_8 : decode cX9_led 8 = .ok (.istore_n 3, 1) := by decide +kernel
theorem dX9_led_9 : decode cX9_led 9 = .ok (.aload_n 0, 1) := by decide +kernel
theorem dX9_led_10 : decode cX9_led 10 = .ok (.getfield 289, 3) := by decide +kernel
theorem dX9_led_13 : decode cX9_led 13 = .ok (.ifnull 53, 3) := by decide +kernel
theorem dX9_led_16 : decode cX9_led 16 = .ok (.iload_n 3, 1) := by decide +kernel
theorem dX9_led_17 : decode cX9_led 17 = .ok (.aload_n 0, 1) := by decide +kernel
theorem dX9_led_18 : decode cX9_led 18 = .ok (.getfield 289, 3) := by decide +kernel
theorem dX9_led_21 : decode cX9_led 21 = .ok (.getfield 180, 3) := by decide +kernel
theorem dX9_led_24 : decode cX9_led 24 = .ok (.if_icmp .ge 42, 3) := by decide +kernel
theorem dX9_led_27 : decode cX9_led 27 = .ok (.aload_n 0, 1) := by decide +kernel
theorem dX9_led_28 : decode cX9_led 28 = .ok (.aload_n 0, 1) := by decide +kernel
theorem dX9_led_29 : decode cX9_led 29 = .ok (.getfield 17, 3) := by decide +kernel
theorem dX9_led_32 : decode cX9_led 32 = .ok (.aload_n 0, 1) := by decide +kernel
theorem dX9_led_33 : decode cX9_led 33 = .ok (.getfield 17, 3) := by decide +kernel
theorem dX9_led_36 : decode cX9_led 36 = .ok (.iconst 0, 1) := by decide +kernel
theorem dX9_led_37 : decode cX9_led 37 = .ok (.iload_n 3, 1) := by decide +kernel
theorem dX9_led_38 : decode cX9_led 38 = .ok (.iadd, 1) := by decide +kernel
theorem dX9_led_39 : decode cX9_led 39 = .ok (.iaload, 1) := by decide +kernel
theorem dX9_led_40 : decode cX9_led 40 = .ok (.invokevirtual 306, 3) := by decide +kernel
theorem dX9_led_43 : decode cX9_led 43 = .ok (.iload_n 3, 1) := by decide +kernel
theorem dX9_led_44 : decode cX9_led 44 = .ok (.if_icmp .eq 6, 3) := by decide +kernel
theorem dX9_led_47 : decode cX9_led 47 = .ok (.goto 13, 3) := by decide +kernel
theorem dX9_led_50 : decode cX9_led 50 = .ok (.iload_n 2, 1) := by decide +kernel
theorem dX9_led_51 : decode cX9_led 51 = .ok (.iload_n 1, 1) := by decide +kernel
theorem dX9_led_52 : decode cX9_led 52 = .ok (.if_icmp .ne 5, 3) := by decide +kernel
theorem dX9_led_55 : decode cX9_led 55 = .ok (.iload_n 3, 1) := by decide +kernel
theorem dX9_led_56 : decode cX9_led 56 = .ok (.ireturn, 1) := by decide +kernel
theorem dX9_led_57 : decode cX9_led 57 = .ok (.iinc 2 1, 3) := by decide +kernel
theorem dX9_led_60 : decode cX9_led 60 = .ok (.iinc 3 1, 3) := by decide +kernel
theorem dX9_led_63 : decode cX9_led 63 = .ok (.goto (-54), 3) := by decide +kernel
theorem dX9_led_66 : decode cX9_led 66 = .ok (.aload_n 0, 1) := by decide +kernel
theorem dX9_led_67 : decode cX9_led 67 = .ok (.iconst 1, 1) := by decide +kernel
theorem dX9_led_68 : decode cX9_led 68 = .ok (.putfield 36, 3) := by decide +kernel
theorem dX9_led_71 : decode cX9_led 71 = .ok (.iconst 0, 1) := by decide +kernel
theorem dX9_led_72 : decode cX9_led 72 = .ok (.ireturn, 1) := by decide +kernel
def B_X9_led_0 (X : Nat × (Nat → Int32)) (J : Nat → zCf) (R : zRt) : zCf := oALOAD 0 (oPI (zj (0)) (oPUTI 9 0 (oPI (zj (0)) (oISTORE 1 2 (oPI (zj (0)) (oISTORE 2 3 (J 9)))))))
set_option maxRecDepth 100000 in
theorem vb_X9_led_0 {X : Nat × (Nat → Int32)} {R : zRt} : ∀ ls st h, B_X9_led_0 X (zV X M_X9_led (zQm M_X9_led R) 0 0) R ls st h → zV X M_X9_led (zQm M_X9_led R) 0 0 0 ls st h := sd_aload_n dX9_led_0 rfl (sd_iconst dX9_led_1 rfl (sd_puti dX9_led_2 zCl9 (Nat.le_of_ble_eq_true rfl) lk_RX9_36 rfl (Or.inl rfl) (sd_iconst dX9_led_5 rfl (sd_istore_n dX9_led_6 rfl (Nat.le_of_ble_eq_true rfl) (Or.inl rfl) (sd_iconst dX9_led_7 rfl (sd_istore_n dX9_led_8 rfl (Nat.le_of_ble_eq_true rfl) (Or.inl rfl) (fun _ _ _ h => h)))))))
def B_X9_led_9 (X : Nat × (Nat → Int32)) (J : Nat → zCf) (R : zRt) : zCf := oALOAD 0 (oGETR 9 3 (oIFNULL (J 66) (oILOAD 3 (oALOAD 0 (oGETR 9 3 (oGETI 8 1 (oICGE (J 66) (oALOAD 0 (oALOAD 0 (oGETR 9 15 (oALOAD 0 (oGETR 9 15 (oPI (zj (0)) (oILOAD 3 (oIADD (oIALD (oINV2 X M_X9_topIn 9 (oILOAD 3 (oICEQ (J 50) (J 60))))))))))))))))))))
set_option maxRecDepth 100000 in
theorem vb_X9_led_9 {X : Nat × (Nat → Int32)} {R : zRt} : ∀ ls st h, B_X9_led_9 X (zV X M_X9_led (zQm M_X9_led R) 0 0) R ls st h → zV X M_X9_led (zQm M_X9_led R) 0 0 9 ls st h := sd_aload_n dX9_led_9 rfl (sd_getr dX9_led_10 zCl9 (Nat.le_of_ble_eq_true rfl) lk_RX9_289 (Or.inl ⟨_, rfl⟩) (sd_ifnull dX9_led_13 rfl (fun _ _ _ h => h) (sd_iload_n dX9_led_16 rfl (sd_aload_n dX9_led_17 rfl (sd_getr dX9_led_18 zCl9 (Nat.le_of_ble_eq_true rfl) lk_RX9_289 (Or.inl ⟨_, rfl⟩) (sd_geti dX9_led_21 zCl8 (Nat.le_of_ble_eq_true rfl) lk_RX9_180 (Or.inl rfl) (sd_icge dX9_led_24 rfl (fun _ _ _ h => h) (sd_aload_n dX9_led_27 rfl (sd_aload_n dX9_led_28 rfl (sd_getr dX9_led_29 zCl9 (Nat.le_of_ble_eq_true rfl) lk_RX9_17 (Or.inr ⟨_, rfl⟩) (sd_aload_n dX9_led_32 rfl (sd_getr dX9_led_33 zCl9 (Nat.le_of_ble_eq_true rfl) lk_RX9_17 (Or.inr ⟨_, rfl⟩) (sd_iconst dX9_led_36 rfl (sd_iload_n dX9_led_37 rfl (sd_iadd dX9_led_38 (sd_iald dX9_led_39 (sd_inv2 dX9_led_40 rfl mv_X9_topIn na_X9_topIn ml_RX9_306 ⟨⟨Nat.le_of_ble_eq_true rfl, Nat.le_of_ble_eq_true rfl⟩, ⟨Nat.le_of_ble_eq_true rfl, Nat.le_of_ble_eq_true rfl⟩⟩ (sd_iload_n dX9_led_43 rfl (sd_iceq dX9_led_44 rfl (fun _ _ _ h => h) (sd_goto dX9_led_47 rfl (fun _ _ _ h => h)))))))))))))))))))))
def B_X9_led_50 (X : Nat × (Nat → Int32)) (J : Nat → zCf) (R : zRt) : zCf := oILOAD 2 (oILOAD 1 (oICNE (J 57) (oILOAD 3 (oIRET R))))
set_option maxRecDepth 100000 in
theorem vb_X9_led_50 {X : Nat × (Nat → Int32)} {R : zRt} : ∀ ls st h, B_X9_led_50 X (zV X M_X9_led (zQm M_X9_led R) 0 0) R ls st h → zV X M_X9_led (zQm M_X9_led R) 0 0 50 ls st h := sd_iload_n dX9_led_50 rfl (sd_iload_n dX9_led_51 rfl (sd_icne dX9_led_52 rfl (fun _ _ _ h => h) (sd_iload_n dX9_led_55 rfl (sd_iret dX9_led_56 rfl (Nat.le_of_ble_eq_true rfl) (Nat.le_of_ble_eq_true rfl)))))
def B_X9_led_57 (X : Nat × (Nat → Int32)) (J : Nat → zCf) (R : zRt) : zCf := oIINC 1 2 (zj (1)) (J 60)
set_option maxRecDepth 100000 in
theorem vb_X9_led_57 {X : Nat × (Nat → Int32)} {R : zRt} : ∀ ls st h, B_X9_led_57 X (zV X M_X9_led (zQm M_X9_led R) 0 0) R ls st h → zV X M_X9_led (zQm M_X9_led R) 0 0 57 ls st h := sd_iinc dX9_led_57 rfl (Nat.le_of_ble_eq_true rfl) (Or.inl rfl) (fun _ _ _ h => h)
def B_X9_led_60 (X : Nat × (Nat → Int32)) (J : Nat → zCf) (R : zRt) : zCf := oIINC 2 3 (zj (1)) (J 9)
set_option maxRecDepth 100000 in
theorem vb_X9_led_60 {X : Nat × (Nat → Int32)} {R : zRt} : ∀ ls st h, B_X9_led_60 X (zV X M_X9_led (zQm M_X9_led R) 0 0) R ls st h → zV X M_X9_led (zQm M_X9_led R) 0 0 60 ls st h := sd_iinc dX9_led_60 rfl (Nat.le_of_ble_eq_true rfl) (Or.inl rfl) (sd_goto dX9_led_63 rfl (fun _ _ _ h => h))
def B_X9_led_66 (X : Nat × (Nat → Int32)) (J : Nat → zCf) (R : zRt) : zCf := oALOAD 0 (oPI (zj (1)) (oPUTI 9 0 (oPI (zj (0)) (oIRET R))))
set_option maxRecDepth 100000 in
theorem vb_X9_led_66 {X : Nat × (Nat → Int32)} {R : zRt} : ∀ ls st h, B_X9_led_66 X (zV X M_X9_led (zQm M_X9_led R) 0 0) R ls st h → zV X M_X9_led (zQm M_X9_led R) 0 0 66 ls st h := sd_aload_n dX9_led_66 rfl (sd_iconst dX9_led_67 rfl (sd_puti dX9_led_68 zCl9 (Nat.le_of_ble_eq_true rfl) lk_RX9_36 rfl (Or.inl rfl) (sd_iconst dX9_led_71 rfl (sd_iret dX9_led_72 rfl (Nat.le_of_ble_eq_true rfl) (Nat.le_of_ble_eq_true rfl)))))
theorem dX9_size_0 : decode cX9_size 0 = .ok (.aload_n 0, 1) := by decide +kernel
theorem dX9_size_1 : decode cX9_size 1 = .ok (.iconst 0, 1) := by decide +kernel
theorem dX9_size_2 : decode cX9_size 2 = .ok (.putfield 36, 3) := by decide +kernel
theorem dX9_size_5 : decode cX9_size 5 = .ok (.iload_n 1, 1) := by decide +kernel
theorem dX9_size_6 : decode cX9_size 6 = .ok (.bipush 10, 2) := by decide +kernel
theorem dX9_size_8 : decode cX9_size 8 = .ok (.if_icmp .ne 8, 3) := by decide +kernel
theorem dX9_size_11 : decode cX9_size 11 = .ok (.aload_n 0, 1) := by decide +kernel
theorem dX9_size_12 : decode cX9_size 12 = .ok (.getfield 282, 3) := by decide +kernel
theorem dX9_size_15 : decode cX9_size 15 = .ok (.ireturn, 1) := by decide +kernel
theorem dX9_size_16 : decode cX9_size 16 = .ok (.iload_n 1, 1) := by decide +kernel
theorem dX9_size_17 : decode cX9_size 17 = .ok (.iconst 0, 1) := by decide +kernel
theorem dX9_size_18 : decode cX9_size 18 = .ok (.bipush 9, 2) := by decide +kernel
theorem dX9_size_20 : decode cX9_size 20 = .ok (.invokestatic 115, 3) := by decide +kernel
theorem dX9_size_23 : decode cX9_size 23 = .ok (.ifCond .ne 5, 3) := by decide +kernel
theorem dX9_size_26 : decode cX9_size 26 = .ok (.iconst (-1), 1) := by decide +kernel
theorem dX9_size_27 : decode cX9_size 27 = .ok (.ireturn, 1) := by decide +kernel
theorem dX9_size_28 : decode cX9_size 28 = .ok (.aload_n 0, 1) := by decide +kernel
theorem dX9_size_29 : decode cX9_size 29 = .ok (.getfield 289, 3) := by decide +kernel
theorem dX9_size_32 : decode cX9_size 32 = .ok (.ifnonnull 5, 3) := by decide +kernel
theorem dX9_size_35 : decode cX9_size 35 = .ok (.iconst 0, 1) := by decide +kernel
theorem dX9_size_36 : decode cX9_size 36 = .ok (.ireturn, 1) := by decide +kernel
theorem dX9_size_37 : decode cX9_size 37 = .ok (.iload_n 1, 1) := by decide +kernel
theorem dX9_size_38 : decode cX9_size 38 = .ok (.tableswitch 119 0 8 #[50, 58, 66, 74, 82, 90, 98, 106, 114], 50) := by decide +kernel
theorem dX9_size_88 : decode cX9_size 88 = .ok (.aload_n 0, 1) := by decide +kernel
theorem dX9_size_89 : decode cX9_size 89 = .ok (.getfield 289, 3) := by decide +kernel
theorem dX9_size_92 : decode cX9_size 92 = .ok (.getfield 148, 3) := by decide +kernel
theorem dX9_size_95 : decode cX9_size 95 = .ok (.ireturn, 1) := by decide +kernel
theorem dX9_size_96 : decode cX9_size 96 = .ok (.aload_n 0, 1) := by decide +kernel
theorem dX9_size_97 : decode cX9_size 97 = .ok (.getfield 289, 3) := by decide +kernel
theorem dX9_size_100 : decode cX9_size 100 = .ok (.getfield 180, 3) := by decide +kernel
theorem dX9_size_103 : decode cX9_size 103 = .ok (.ireturn, 1) := by decide +kernel
theorem dX9_size_104 : decode cX9_size 104 = .ok (.aload_n 0, 1) := by decide +kernel
theorem dX9_size_105 : decode cX9_size 105 = .ok (.getfield 289, 3) := by decide +kernel
theorem dX9_size_108 : decode cX9_size 108 = .ok (.getfield 247, 3) := by decide +kernel
theorem dX9_size_111 : decode cX9_size 111 = .ok (.ireturn, 1) := by decide +kernel
theorem dX9_size_112 : decode cX9_size 112 = .ok (.aload_n 0, 1) := by decide +kernel
theorem dX9_size_113 : decode cX9_size 113 = .ok (.getfield 289, 3) := by decide +kernel
theorem dX9_size_116 : decode cX9_size 116 = .ok (.getfield 250, 3) := by decide +kernel
theorem dX9_size_119 : decode cX9_size 119 = .ok (.ireturn, 1) := by decide +kernel
theorem dX9_size_120 : decode cX9_size 120 = .ok (.aload_n 0, 1) := by decide +kernel
theorem dX9_size_121 : decode cX9_size 121 = .ok (.getfield 289, 3) := by decide +kernel
theorem dX9_size_124 : decode cX9_size 124 = .ok (.getfield 253, 3) := by decide +kernel
theorem dX9_size_127 : decode cX9_size 127 = .ok (.ireturn, 1) := by decide +kernel
theorem dX9_size_128 : decode cX9_size 128 = .ok (.aload_n 0, 1) := by decide +kernel
theorem dX9_size_129 : decode cX9_size 129 = .ok (.getfield 289, 3) := by decide +kernel
theorem dX9_size_132 : decode cX9_size 132 = .ok (.getfield 264, 3) := by decide +kernel
theorem dX9_size_135 : decode cX9_size 135 = .ok (.ireturn, 1) := by decide +kernel
theorem dX9_size_136 : decode cX9_size 136 = .ok (.aload_n 0, 1) := by decide +kernel
theorem dX9_size_137 : decode cX9_size 137 = .ok (.getfield 289, 3) := by decide +kernel
theorem dX9_size_140 : decode cX9_size 140 = .ok (.getfield 272, 3) := by decide +kernel
theorem dX9_size_143 : decode cX9_size 143 = .ok (.ireturn, 1) := by decide +kernel
theorem dX9_size_144 : decode cX9_size 144 = .ok (.aload_n 0, 1) := by decide +kernel
theorem dX9_size_145 : decode cX9_size 145 = .ok (.getfield 17, 3) := by decide +kernel
theorem dX9_size_148 : decode cX9_size 148 = .ok (.bipush 14, 2) := by decide +kernel
theorem dX9_size_150 : decode cX9_size 150 = .ok (.iaload, 1) := by decide +kernel
theorem dX9_size_151 : decode cX9_size 151 = .ok (.ireturn, 1) := by decide +kernel
theorem dX9_size_152 : decode cX9_size 152 = .ok (.aload_n 0, 1) := by decide +kernel
theorem dX9_size_153 : decode cX9_size 153 = .ok (.getfield 294, 3) := by decide +kernel
theorem dX9_size_156 : decode cX9_size 156 = .ok (.ireturn, 1) := by decide +kernel
theorem dX9_size_157 : decode cX9_size 157 = .ok (.aload_n 0, 1) := by decide +kernel
theorem dX9_size_158 : decode cX9_size 158 = .ok (.getfield 297, 3) := by decide +kernel
theorem dX9_size_161 : decode cX9_size 161 = .ok (.ireturn, 1) := by decide +kernel
def B_X9_size_0 (X : Nat × (Nat → Int32)) (J : Nat → zCf) (R : zRt) : zCf := oALOAD 0 (oPI (zj (0)) (oPUTI 9 0 (oILOAD 1 (oPI (zj (10)) (oICNE (J 16) (oALOAD 0 (oGETI 9 6 (oIRET R))))))))
set_option maxRecDepth 100000 in
theorem vb_X9_size_0 {X : Nat × (Nat → Int32)} {R : zRt} : ∀ ls st h, B_X9_size_0 X (zV X M_X9_size (zQm M_X9_size R) 0 0) R ls st h → zV X M_X9_size (zQm M_X9_size R) 0 0 0 ls st h := sd_aload_n dX9_size_0 rfl (sd_iconst dX9_size_1 rfl (sd_puti dX9_size_2 zCl9 (Nat.le_of_ble_eq_true rfl) lk_RX9_36 rfl (Or.inl rfl) (sd_iload_n dX9_size_5 rfl (sd_bipush dX9_size_6 rfl (sd_icne dX9_size_8 rfl (fun _ _ _ h => h) (sd_aload_n dX9_size_11 rfl (sd_geti dX9_size_12 zCl9 (Nat.le_of_ble_eq_true rfl) lk_RX9_282 (Or.inl rfl) (sd_iret dX9_size_15 rfl (Nat.le_of_ble_eq_true rfl) (Nat.le_of_ble_eq_true rfl)))))))))
def B_X9_size_16 (X : Nat × (Nat → Int32)) (J : Nat → zCf) (R : zRt) : zCf := oILOAD 1 (oPI (zj (0)) (oPI (zj (9)) (oINS3 X M_X9_in (oIFNE (J 28) (oPI (zj (-1)) (oIRET R))))))
set_option maxRecDepth 100000 in
theorem vb_X9_size_16 {X : Nat × (Nat → Int32)} {R : zRt} : ∀ ls st h, B_X9_size_16 X (zV X M_X9_size (zQm M_X9_size R) 0 0) R ls st h → zV X M_X9_size (zQm M_X9_size R) 0 0 16 ls st h := sd_iload_n dX9_size_16 rfl (sd_iconst dX9_size_17 rfl (sd_bipush dX9_size_18 rfl (sd_ins3 dX9_size_20 ms_X9_in na_X9_in ml_RX9_115 ⟨⟨Nat.le_of_ble_eq_true rfl, Nat.le_of_ble_eq_true rfl⟩, ⟨Nat.le_of_ble_eq_true rfl, Nat.le_of_ble_eq_true rfl⟩⟩ (sd_ifne dX9_size_23 rfl (fun _ _ _ h => h) (sd_iconst dX9_size_26 rfl (sd_iret dX9_size_27 rfl (Nat.le_of_ble_eq_true rfl) (Nat.le_of_ble_eq_true rfl)))))))
def B_X9_size_28 (X : Nat × (Nat → Int32)) (J : Nat → zCf) (R : zRt) : zCf := oALOAD 0 (oGETR 9 3 (oIFNONNULL (J 37) (oPI (zj (0)) (oIRET R))))
set_option maxRecDepth 100000 in
theorem vb_X9_size_28 {X : Nat × (Nat → Int32)} {R : zRt} : ∀ ls st h, B_X9_size_28 X (zV X M_X9_size (zQm M_X9_size R) 0 0) R ls st h → zV X M_X9_size (zQm M_X9_size R) 0 0 28 ls st h := sd_aload_n dX9_size_28 rfl (sd_getr dX9_size_29 zCl9 (Nat.le_of_ble_eq_true rfl) lk_RX9_289 (Or.inl ⟨_, rfl⟩) (sd_ifnonnull dX9_size_32 rfl (fun _ _ _ h => h) (sd_iconst dX9_size_35 rfl (sd_iret dX9_size_36 rfl (Nat.le_of_ble_eq_true rfl) (Nat.le_of_ble_eq_true rfl)))))
def B_X9_size_37 (X : Nat × (Nat → Int32)) (J : Nat → zCf) (R : zRt) : zCf := oILOAD 1 (oTSW (0) 9 (fun i => J ([88, 96, 104, 112, 120, 128, 136, 144, 152].getD i 0)) (J 157))
set_option maxRecDepth 100000 in
theorem vb_X9_size_37 {X : Nat × (Nat → Int32)} {R : zRt} : ∀ ls st h, B_X9_size_37 X (zV X M_X9_size (zQm M_X9_size R) 0 0) R ls st h → zV X M_X9_size (zQm M_X9_size R) 0 0 37 ls st h := sd_iload_n dX9_size_37 rfl (sd_tsw (tg := fun i => [88, 96, 104, 112, 120, 128, 136, 144, 152].getD i 0) dX9_size_38 rfl rfl (fun i hi => by
    match i, hi with
    | 0, _ => exact ⟨_, rfl, rfl⟩
    | 1, _ => exact ⟨_, rfl, rfl⟩
    | 2, _ => exact ⟨_, rfl, rfl⟩
    | 3, _ => exact ⟨_, rfl, rfl⟩
    | 4, _ => exact ⟨_, rfl, rfl⟩
    | 5, _ => exact ⟨_, rfl, rfl⟩
    | 6, _ => exact ⟨_, rfl, rfl⟩
    | 7, _ => exact ⟨_, rfl, rfl⟩
    | 8, _ => exact ⟨_, rfl, rfl⟩
    | i + 9, hi => omega) (fun _ _ _ h => h) (fun _ _ _ _ _ h => h))
def B_X9_size_88 (X : Nat × (Nat → Int32)) (J : Nat → zCf) (R : zRt) : zCf := oALOAD 0 (oGETR 9 3 (oGETI 8 0 (oIRET R)))
set_option maxRecDepth 100000 in
theorem vb_X9_size_88 {X : Nat × (Nat → Int32)} {R : zRt} : ∀ ls st h, B_X9_size_88 X (zV X M_X9_size (zQm M_X9_size R) 0 0) R ls st h → zV X M_X9_size (zQm M_X9_size R) 0 0 88 ls st h := sd_aload_n dX9_size_88 rfl (sd_getr dX9_size_89 zCl9 (Nat.le_of_ble_eq_true rfl) lk_RX9_289 (Or.inl ⟨_, rfl⟩) (sd_geti dX9_size_92 zCl8 (Nat.le_of_ble_eq_true rfl) lk_RX9_148 (Or.inl rfl) (sd_iret dX9_size_95 rfl (Nat.le_of_ble_eq_true rfl) (Nat.le_of_ble_eq_true rfl))))
def B_X9_size_96 (X : Nat × (Nat → Int32)) (J : Nat → zCf) (R : zRt) : zCf := oALOAD 0 (oGETR 9 3 (oGETI 8 1 (oIRET R)))
set_option maxRecDepth 100000 in
theorem vb_X9_size_96 {X : Nat × (Nat → Int32)} {R : zRt} : ∀ ls st h, B_X9_size_96 X (zV X M_X9_size (zQm M_X9_size R) 0 0) R ls st h → zV X M_X9_size (zQm M_X9_size R) 0 0 96 ls st h := sd_aload_n dX9_size_96 rfl (sd_getr dX9_size_97 zCl9 (Nat.le_of_ble_eq_true rfl) lk_RX9_289 (Or.inl ⟨_, rfl⟩) (sd_geti dX9_size_100 zCl8 (Nat.le_of_ble_eq_true rfl) lk_RX9_180 (Or.inl rfl) (sd_iret dX9_size_103 rfl (Nat.le_of_ble_eq_true rfl) (Nat.le_of_ble_eq_true rfl))))
def B_X9_size_104 (X : Nat × (Nat → Int32)) (J : Nat → zCf) (R : zRt) : zCf := oALOAD 0 (oGETR 9 3 (oGETI 8 2 (oIRET R)))
set_option maxRecDepth 100000 in
theorem vb_X9_size_104 {X : Nat × (Nat → Int32)} {R : zRt} : ∀ ls st h, B_X9_size_104 X (zV X M_X9_size (zQm M_X9_size R) 0 0) R ls st h → zV X M_X9_size (zQm M_X9_size R) 0 0 104 ls st h := sd_aload_n dX9_size_104 rfl (sd_getr dX9_size_105 zCl9 (Nat.le_of_ble_eq_true rfl) lk_RX9_289 (Or.inl ⟨_, rfl⟩) (sd_geti dX9_size_108 zCl8 (Nat.le_of_ble_eq_true rfl) lk_RX9_247 (Or.inl rfl) (sd_iret dX9_size_111 rfl (Nat.le_of_ble_eq_true rfl) (Nat.le_of_ble_eq_true rfl))))
def B_X9_size_112 (X : Nat × (Nat → Int32)) (J : Nat → zCf) (R : zRt) : zCf := oALOAD 0 (oGETR 9 3 (oGETI 8 3 (oIRET R)))
set_option maxRecDepth 100000 in
theorem vb_X9_size_112 {X : Nat × (Nat → Int32)} {R : zRt} : ∀ ls st h, B_X9_size_112 X (zV X M_X9_size (zQm M_X9_size R) 0 0) R ls st h → zV X M_X9_size (zQm M_X9_size R) 0 0 112 ls st h := sd_aload_n dX9_size_112 rfl (sd_getr dX9_size_113 zCl9 (Nat.le_of_ble_eq_true rfl) lk_RX9_289 (Or.inl ⟨_, rfl⟩) (sd_geti dX9_size_116 zCl8 (Nat.le_of_ble_eq_true rfl) lk_RX9_250 (Or.inl rfl) (sd_iret dX9_size_119 rfl (Nat.le_of_ble_eq_true rfl) (Nat.le_of_ble_eq_true rfl))))
def B_X9_size_120 (X : Nat × (Nat → Int32)) (J : Nat → zCf) (R : zRt) : zCf := oALOAD 0 (oGETR 9 3 (oGETI 8 4 (oIRET R)))
set_option maxRecDepth 100000 in
theorem vb_X9_size_120 {X : Nat × (Nat → Int32)} {R : zRt} : ∀ ls st h, B_X9_size_120 X (zV X M_X9_size (zQm M_X9_size R) 0 0) R ls st h → zV X M_X9_size (zQm M_X9_size R) 0 0 120 ls st h := sd_aload_n dX9_size_120 rfl (sd_getr dX9_size_121 zCl9 (Nat.le_of_ble_eq_true rfl) lk_RX9_289 (Or.inl ⟨_, rfl⟩) (sd_geti dX9_size_124 zCl8 (Nat.le_of_ble_eq_true rfl) lk_RX9_253 (Or.inl rfl) (sd_iret dX9_size_127 rfl (Nat.le_of_ble_eq_true rfl) (Nat.le_of_ble_eq_true rfl))))
def B_X9_size_128 (X : Nat × (Nat → Int32)) (J : Nat → zCf) (R : zRt) : zCf := oALOAD 0 (oGETR 9 3 (oGETI 8 5 (oIRET R)))
set_option maxRecDepth 100000 in
theorem vb_X9_size_128 {X : Nat × (Nat → Int32)} {R : zRt} : ∀ ls st h, B_X9_size_128 X (zV X M_X9_size (zQm M_X9_size R) 0 0) R ls st h → zV X M_X9_size (zQm M_X9_size R) 0 0 128 ls st h := sd_aload_n dX9_size_128 rfl (sd_getr dX9_size_129 zCl9 (Nat.le_of_ble_eq_true rfl) lk_RX9_289 (Or.inl ⟨_, rfl⟩) (sd_geti dX9_size_132 zCl8 (Nat.le_of_ble_eq_true rfl) lk_RX9_264 (Or.inl rfl) (sd_iret dX9_size_135 rfl (Nat.le_of_ble_eq_true rfl) (Nat.le_of_ble_eq_true rfl))))
def B_X9_size_136 (X : Nat × (Nat → Int32)) (J : Nat → zCf) (R : zRt) : zCf := oALOAD 0 (oGETR 9 3 (oGETI 8 6 (oIRET R)))
set_option maxRecDepth 100000 in
theorem vb_X9_size_136 {X : Nat × (Nat → Int32)} {R : zRt} : ∀ ls st h, B_X9_size_136 X (zV X M_X9_size (zQm M_X9_size R) 0 0) R ls st h → zV X M_X9_size (zQm M_X9_size R) 0 0 136 ls st h := sd_aload_n dX9_size_136 rfl (sd_getr dX9_size_137 zCl9 (Nat.le_of_ble_eq_true rfl) lk_RX9_289 (Or.inl ⟨_, rfl⟩) (sd_geti dX9_size_140 zCl8 (Nat.le_of_ble_eq_true rfl) lk_RX9_272 (Or.inl rfl) (sd_iret dX9_size_143 rfl (Nat.le_of_ble_eq_true rfl) (Nat.le_of_ble_eq_true rfl))))
def B_X9_size_144 (X : Nat × (Nat → Int32)) (J : Nat → zCf) (R : zRt) : zCf := oALOAD 0 (oGETR 9 15 (oPI (zj (14)) (oIALD (oIRET R))))
set_option maxRecDepth 100000 in
theorem vb_X9_size_144 {X : Nat × (Nat → Int32)} {R : zRt} : ∀ ls st h, B_X9_size_144 X (zV X M_X9_size (zQm M_X9_size R) 0 0) R ls st h → zV X M_X9_size (zQm M_X9_size R) 0 0 144 ls st h := sd_aload_n dX9_size_144 rfl (sd_getr dX9_size_145 zCl9 (Nat.le_of_ble_eq_true rfl) lk_RX9_17 (Or.inr ⟨_, rfl⟩) (sd_bipush dX9_size_148 rfl (sd_iald dX9_size_150 (sd_iret dX9_size_151 rfl (Nat.le_of_ble_eq_true rfl) (Nat.le_of_ble_eq_true rfl)))))
def B_X9_size_152 (X : Nat × (Nat → Int32)) (J : Nat → zCf) (R : zRt) : zCf := oALOAD 0 (oGETI 9 19 (oIRET R))
set_option maxRecDepth 100000 in
theorem vb_X9_size_152 {X : Nat × (Nat → Int32)} {R : zRt} : ∀ ls st h, B_X9_size_152 X (zV X M_X9_size (zQm M_X9_size R) 0 0) R ls st h → zV X M_X9_size (zQm M_X9_size R) 0 0 152 ls st h := sd_aload_n dX9_size_152 rfl (sd_geti dX9_size_153 zCl9 (Nat.le_of_ble_eq_true rfl) lk_RX9_294 (Or.inl rfl) (sd_iret dX9_size_156 rfl (Nat.le_of_ble_eq_true rfl) (Nat.le_of_ble_eq_true rfl)))
def B_X9_size_157 (X : Nat × (Nat → Int32)) (J : Nat → zCf) (R : zRt) : zCf := oALOAD 0 (oGETI 9 20 (oIRET R))
set_option maxRecDepth 100000 in
theorem vb_X9_size_157 {X : Nat × (Nat → Int32)} {R : zRt} : ∀ ls st h, B_X9_size_157 X (zV X M_X9_size (zQm M_X9_size R) 0 0) R ls st h → zV X M_X9_size (zQm M_X9_size R) 0 0 157 ls st h := sd_aload_n dX9_size_157 rfl (sd_geti dX9_size_158 zCl9 (Nat.le_of_ble_eq_true rfl) lk_RX9_297 (Or.inl rfl) (sd_iret dX9_size_161 rfl (Nat.le_of_ble_eq_true rfl) (Nat.le_of_ble_eq_true rfl)))
theorem dX9_trouble_0 : decode cX9_trouble 0 = .ok (.aload_n 0, 1) := by decide +kernel
theorem dX9_trouble_1 : decode cX9_trouble 1 = .ok (.iconst 0, 1) := by decide +kernel
theorem dX9_trouble_2 : decode cX9_trouble 2 = .ok (.putfield 36, 3) := by decide +kernel
theorem dX9_trouble_5 : decode cX9_trouble 5 = .ok (.aload_n 0, 1) := by decide +kernel
theorem dX9_trouble_6 : decode cX9_trouble 6 = .ok (.getfield 39, 3) := by decide +kernel
theorem dX9_trouble_9 : decode cX9_trouble 9 = .ok (.ireturn, 1) := by decide +kernel
def B_X9_trouble_0 (X : Nat × (Nat → Int32)) (J : Nat → zCf) (R : zRt) : zCf := oALOAD 0 (oPI (zj (0)) (oPUTI 9 0 (oALOAD 0 (oGETI 9 1 (oIRET R)))))
set_option maxRecDepth 100000 in
theorem vb_X9_trouble_0 {X : Nat × (Nat → Int32)} {R : zRt} : ∀ ls st h, B_X9_trouble_0 X (zV X M_X9_trouble (zQm M_X9_trouble R) 0 0) R ls st h → zV X M_X9_trouble (zQm M_X9_trouble R) 0 0 0 ls st h := sd_aload_n dX9_trouble_0 rfl (sd_iconst dX9_trouble_1 rfl (sd_puti dX9_trouble_2 zCl9 (Nat.le_of_ble_eq_true rfl) lk_RX9_36 rfl (Or.inl rfl) (sd_aload_n dX9_trouble_5 rfl (sd_geti dX9_trouble_6 zCl9 (Nat.le_of_ble_eq_true rfl) lk_RX9_39 (Or.inl rfl) (sd_iret dX9_trouble_9 rfl (Nat.le_of_ble_eq_true rfl) (Nat.le_of_ble_eq_true rfl))))))
