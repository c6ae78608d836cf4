theorem dX6_init_0 : decode cX6_init 0 = .ok (.aload_n 0, 1) := by decide +kernel
theorem dX6_init_1 : decode cX6_init 1 = .ok (.invokespecial 3, 3) := by decide +kernel
theorem dX6_init_4 : decode cX6_init 4 = .ok (.aload_n 0, 1) := by decide +kernel
theorem dX6_init_5 : decode cX6_init 5 = .ok (.sipush 800, 3) := by decide +kernel
theorem dX6_init_8 : decode cX6_init 8 = .ok (.newarray .byte, 2) := by decide +kernel
theorem dX6_init_10 : decode cX6_init 10 = .ok (.putfield 9, 3) := by decide +kernel
theorem dX6_init_13 : decode cX6_init 13 = .ok (.return_, 1) := by decide +kernel
def B_X6_init_0 (X : Nat × (Nat → Int32)) (J : Nat → zCf) (R : zRt) : zCf := oALOAD 0 (oOBJ (oALOAD 0 (oPI (zj (800)) (oNEWAB 800 (oPUTR 6 0 (oVRET R))))))
set_option maxRecDepth 100000 in
theorem vb_X6_init_0 {X : Nat × (Nat → Int32)} {R : zRt} : ∀ ls st h, B_X6_init_0 X (fun t => zV X M_X6_init (zQm M_X6_init R) (if t ≤ 8 then 0 else 1) (if t ≤ 8 then 0 else 800) t) R ls st h → zV X M_X6_init (zQm M_X6_init R) 0 0 0 ls st h := sd_aload_n dX6_init_0 rfl (sd_obj dX6_init_1 (zmt (zt1 (i := 41) rfl) rfl) (zmt (zt1 (i := 28) rfl) rfl) (zmt (zt1 (i := 29) rfl) rfl) (Nat.le_of_ble_eq_true rfl) (Nat.le_of_ble_eq_true rfl) (sd_aload_n dX6_init_4 rfl (sd_sipush dX6_init_5 rfl (sd_newab dX6_init_8 (zmt (zt1 (i := 72) rfl) rfl) (by decide) (Nat.le_of_ble_eq_true rfl) (Nat.le_of_ble_eq_true rfl) (sd_putr dX6_init_10 zCl6 (Nat.le_of_ble_eq_true rfl) lk_RX6_9 (Or.inr ⟨_, rfl⟩) (Or.inr ⟨rfl, rfl, rfl, (zmt (zt1 (i := 42) rfl) rfl)⟩) (sd_vret dX6_init_13 rfl (Nat.le_of_ble_eq_true rfl) (Nat.le_of_ble_eq_true rfl)))))))
theorem dX6_put_0 : decode cX6_put 0 = .ok (.bipush 24, 2) := by decide +kernel
theorem dX6_put_2 : decode cX6_put 2 = .ok (.istore_n 2, 1) := by decide +kernel
theorem dX6_put_3 : decode cX6_put 3 = .ok (.iload_n 2, 1) := by decide +kernel
theorem dX6_put_4 : decode cX6_put 4 = .ok (.ifCond .lt 42, 3) := by decide +kernel
theorem dX6_put_7 : decode cX6_put 7 = .ok (.aload_n 0, 1) := by decide +kernel
theorem dX6_put_8 : decode cX6_put 8 = .ok (.getfield 15, 3) := by decide +kernel
theorem dX6_put_11 : decode cX6_put 11 = .ok (.sipush 800, 3) := by decide +kernel
theorem dX6_put_14 : decode cX6_put 14 = .ok (.if_icmp .ge 26, 3) := by decide +kernel
theorem dX6_put_17 : decode cX6_put 17 = .ok (.aload_n 0, 1) := by decide +kernel
theorem dX6_put_18 : decode cX6_put 18 = .ok (.getfield 9, 3) := by decide +kernel
theorem dX6_put_21 : decode cX6_put 21 = .ok (.aload_n 0, 1) := by decide +kernel
theorem dX6_put_22 : decode cX6_put 22 = .ok (.getfield 15, 3) := by decide +kernel
theorem dX6_put_25 : decode cX6_put 25 = .ok (.iload_n 1, 1) := by decide +kernel
theorem dX6_put_26 : decode cX6_put 26 = .ok (.iload_n 2, 1) := by decide +kernel
theorem dX6_put_27 : decode cX6_put 27 = .ok (.iushr, 1) := by decide +kernel
theorem dX6_put_28 : decode cX6_put 28 = .ok (.i2b, 1) := by decide +kernel
theorem dX6_put_29 : decode cX6_put 29 = .ok (.bastore, 1) := by decide +kernel
theorem dX6_put_30 : decode cX6_put 30 = .ok (.aload_n 0, 1) := by decide +kernel
theorem dX6_put_31 : decode cX6_put 31 = .ok (.dup, 1) := by decide +kernel
theorem dX6_put_32 : decode cX6_put 32 = .ok (.getfield 15, 3) := by decide +kernel
theorem dX6_put_35 : decode cX6_put 35 = .ok (.iconst 1, 1) := by decide +kernel
theorem dX6_put_36 : decode cX6_put 36 = .ok (.iadd, 1) := by decide +kernel
theorem dX6_put_37 : decode cX6_put 37 = .ok (.putfield 15, 3) := by decide +kernel
theorem dX6_put_40 : decode cX6_put 40 = .ok (.iinc 2 (-8), 3) := by decide +kernel
theorem dX6_put_43 : decode cX6_put 43 = .ok (.goto (-40), 3) := by decide +kernel
theorem dX6_put_46 : decode cX6_put 46 = .ok (.return_, 1) := by decide +kernel
def B_X6_put_0 (X : Nat × (Nat → Int32)) (J : Nat → zCf) (R : zRt) : zCf := oPI (zj (24)) (oISTORE 1 2 (J 3))
set_option maxRecDepth 100000 in
theorem vb_X6_put_0 {X : Nat × (Nat → Int32)} {R : zRt} : ∀ ls st h, B_X6_put_0 X (zV X M_X6_put (zQm M_X6_put R) 0 0) R ls st h → zV X M_X6_put (zQm M_X6_put R) 0 0 0 ls st h := sd_bipush dX6_put_0 rfl (sd_istore_n dX6_put_2 rfl (Nat.le_of_ble_eq_true rfl) (Or.inl rfl) (fun _ _ _ h => h))
def B_X6_put_3 (X : Nat × (Nat → Int32)) (J : Nat → zCf) (R : zRt) : zCf := oILOAD 2 (oIFLT (J 46) (oALOAD 0 (oGETI 6 1 (oPI (zj (800)) (oICGE (J 40) (oALOAD 0 (oGETR 6 0 (oALOAD 0 (oGETI 6 1 (oILOAD 1 (oILOAD 2 (oIUSHR (oI2B (oBAST (oALOAD 0 (oDUP (oGETI 6 1 (oPI (zj (1)) (oIADD (oPUTI 6 1 (J 40)))))))))))))))))))))
set_option maxRecDepth 100000 in
theorem vb_X6_put_3 {X : Nat × (Nat → Int32)} {R : zRt} : ∀ ls st h, B_X6_put_3 X (zV X M_X6_put (zQm M_X6_put R) 0 0) R ls st h → zV X M_X6_put (zQm M_X6_put R) 0 0 3 ls st h := sd_iload_n dX6_put_3 rfl (sd_iflt dX6_put_4 rfl (fun _ _ _ h => h) (sd_aload_n dX6_put_7 rfl (sd_geti dX6_put_8 zCl6 (Nat.le_of_ble_eq_true rfl) lk_RX6_15 (Or.inl rfl) (sd_sipush dX6_put_11 rfl (sd_icge dX6_put_14 rfl (fun _ _ _ h => h) (sd_aload_n dX6_put_17 rfl (sd_getr dX6_put_18 zCl6 (Nat.le_of_ble_eq_true rfl) lk_RX6_9 (Or.inr ⟨_, rfl⟩) (sd_aload_n dX6_put_21 rfl (sd_geti dX6_put_22 zCl6 (Nat.le_of_ble_eq_true rfl) lk_RX6_15 (Or.inl rfl) (sd_iload_n dX6_put_25 rfl (sd_iload_n dX6_put_26 rfl (sd_iushr dX6_put_27 (sd_i2b dX6_put_28 (sd_bast dX6_put_29 (sd_aload_n dX6_put_30 rfl (sd_dup dX6_put_31 (sd_geti dX6_put_32 zCl6 (Nat.le_of_ble_eq_true rfl) lk_RX6_15 (Or.inl rfl) (sd_iconst dX6_put_35 rfl (sd_iadd dX6_put_36 (sd_puti dX6_put_37 zCl6 (Nat.le_of_ble_eq_true rfl) lk_RX6_15 rfl (Or.inl rfl) (fun _ _ _ h => h)))))))))))))))))))))
def B_X6_put_40 (X : Nat × (Nat → Int32)) (J : Nat → zCf) (R : zRt) : zCf := oIINC 1 2 (zj (-8)) (J 3)
set_option maxRecDepth 100000 in
theorem vb_X6_put_40 {X : Nat × (Nat → Int32)} {R : zRt} : ∀ ls st h, B_X6_put_40 X (zV X M_X6_put (zQm M_X6_put R) 0 0) R ls st h → zV X M_X6_put (zQm M_X6_put R) 0 0 40 ls st h := sd_iinc dX6_put_40 rfl (Nat.le_of_ble_eq_true rfl) (Or.inl rfl) (sd_goto dX6_put_43 rfl (fun _ _ _ h => h))
def B_X6_put_46 (X : Nat × (Nat → Int32)) (J : Nat → zCf) (R : zRt) : zCf := oVRET R
set_option maxRecDepth 100000 in
theorem vb_X6_put_46 {X : Nat × (Nat → Int32)} {R : zRt} : ∀ ls st h, B_X6_put_46 X (zV X M_X6_put (zQm M_X6_put R) 0 0) R ls st h → zV X M_X6_put (zQm M_X6_put R) 0 0 46 ls st h := sd_vret dX6_put_46 rfl (Nat.le_of_ble_eq_true rfl) (Nat.le_of_ble_eq_true rfl)
theorem dX6_startOver_0 : decode cX6_startOver 0 = .ok (.aload_n 0, 1) := by decide +kernel
theorem dX6_startOver_1 : decode cX6_startOver 1 = .ok (.iload_n 1, 1) := by decide +kernel
theorem dX6_startOver_2 : decode cX6_startOver 2 = .ok (.aload_n 0, 1) := by decide +kernel
theorem dX6_startOver_3 : decode cX6_startOver 3 = .ok (.getfield 15, 3) := by decide +kernel
theorem dX6_startOver_6 : decode cX6_startOver 6 = .ok (.invokestatic 19, 3) := by decide +kernel
theorem dX6_startOver_9 : decode cX6_startOver 9 = .ok (.putfield 25, 3) := by decide +kernel
theorem dX6_startOver_12 : decode cX6_startOver 12 = .ok (.aload_n 0, 1) := by decide +kernel
theorem dX6_startOver_13 : decode cX6_startOver 13 = .ok (.iconst 0, 1) := by decide +kernel
theorem dX6_startOver_14 : decode cX6_startOver 14 = .ok (.putfield 28, 3) := by decide +kernel
theorem dX6_startOver_17 : decode cX6_startOver 17 = .ok (.return_, 1) := by decide +kernel
def B_X6_startOver_0 (X : Nat × (Nat → Int32)) (J : Nat → zCf) (R : zRt) : zCf := oALOAD 0 (oILOAD 1 (oALOAD 0 (oGETI 6 1 (oINS2 X M_J9_min_7cf53 (oPUTI 6 2 (oALOAD 0 (oPI (zj (0)) (oPUTI 6 3 (oVRET R)))))))))
set_option maxRecDepth 100000 in
theorem vb_X6_startOver_0 {X : Nat × (Nat → Int32)} {R : zRt} : ∀ ls st h, B_X6_startOver_0 X (zV X M_X6_startOver (zQm M_X6_startOver R) 0 0) R ls st h → zV X M_X6_startOver (zQm M_X6_startOver R) 0 0 0 ls st h := sd_aload_n dX6_startOver_0 rfl (sd_iload_n dX6_startOver_1 rfl (sd_aload_n dX6_startOver_2 rfl (sd_geti dX6_startOver_3 zCl6 (Nat.le_of_ble_eq_true rfl) lk_RX6_15 (Or.inl rfl) (sd_ins2 dX6_startOver_6 ms_J9_min_7cf53 na_J9_min_7cf53 ml_RX6_19 ⟨⟨Nat.le_of_ble_eq_true rfl, Nat.le_of_ble_eq_true rfl⟩, ⟨Nat.le_of_ble_eq_true rfl, Nat.le_of_ble_eq_true rfl⟩⟩ (sd_puti dX6_startOver_9 zCl6 (Nat.le_of_ble_eq_true rfl) lk_RX6_25 rfl (Or.inl rfl) (sd_aload_n dX6_startOver_12 rfl (sd_iconst dX6_startOver_13 rfl (sd_puti dX6_startOver_14 zCl6 (Nat.le_of_ble_eq_true rfl) lk_RX6_28 rfl (Or.inl rfl) (sd_vret dX6_startOver_17 rfl (Nat.le_of_ble_eq_true rfl) (Nat.le_of_ble_eq_true rfl))))))))))
theorem dX6_next_0 : decode cX6_next 0 = .ok (.aload_n 0, 1) := by decide +kernel
theorem dX6_next_1 : decode cX6_next 1 = .ok (.getfield 28, 3) := by decide +kernel
theorem dX6_next_4 : decode cX6_next 4 = .ok (.aload_n 0, 1) := by decide +kernel
theorem dX6_next_5 : decode cX6_next 5 = .ok (.getfield 25, 3) := by decide +kernel
theorem dX6_next_8 : decode cX6_next 8 = .ok (.if_icmp .ge 30, 3) := by decide +kernel
theorem dX6_next_11 : decode cX6_next 11 = .ok (.aload_n 0, 1) := by decide +kernel
theorem dX6_next_12 : decode cX6_next 12 = .ok (.getfield 9, 3) := by decide +kernel
theorem dX6_next_15 : decode cX6_next 15 = .ok (.aload_n 0, 1) := by decide +kernel
theorem dX6_next_16 : decode cX6_next 16 = .ok (.getfield 28, 3) := by decide +kernel
theorem dX6_next_19 : decode cX6_next 19 = .ok (.baload, 1) := by decide +kernel
theorem dX6_next_20 : decode cX6_next 20 = .ok (.bipush 32, 2) := by decide +kernel
theorem dX6_next_22 : decode cX6_next 22 = .ok (.if_icmp .ne 16, 3) := by decide +kernel
theorem dX6_next_25 : decode cX6_next 25 = .ok (.aload_n 0, 1) := by decide +kernel
theorem dX6_next_26 : decode cX6_next 26 = .ok (.dup, 1) := by decide +kernel
theorem dX6_next_27 : decode cX6_next 27 = .ok (.getfield 28, 3) := by decide +kernel
theorem dX6_next_30 : decode cX6_next 30 = .ok (.iconst 1, 1) := by decide +kernel
theorem dX6_next_31 : decode cX6_next 31 = .ok (.iadd, 1) := by decide +kernel
theorem dX6_next_32 : decode cX6_next 32 = .ok (.putfield 28, 3) := by decide +kernel
theorem dX6_next_35 : decode cX6_next 35 = .ok (.goto (-35), 3) := by decide +kernel
theorem dX6_next_38 : decode cX6_next 38 = .ok (.aload_n 0, 1) := by decide +kernel
theorem dX6_next_39 : decode cX6_next 39 = .ok (.aload_n 0, 1) := by decide +kernel
theorem dX6_next_40 : decode cX6_next 40 = .ok (.getfield 28, 3) := by decide +kernel
theorem dX6_next_43 : decode cX6_next 43 = .ok (.putfield 31, 3) := by decide +kernel
theorem dX6_next_46 : decode cX6_next 46 = .ok (.aload_n 0, 1) := by decide +kernel
theorem dX6_next_47 : decode cX6_next 47 = .ok (.lconst 0, 1) := by decide +kernel
theorem dX6_next_48 : decode cX6_next 48 = .ok (.putfield 34, 3) := by decide +kernel
theorem dX6_next_51 : decode cX6_next 51 = .ok (.aload_n 0, 1) := by decide +kernel
theorem dX6_next_52 : decode cX6_next 52 = .ok (.iconst 0, 1) := by decide +kernel
theorem dX6_next_53 : decode cX6_next 53 = .ok (.putfield 38, 3) := by decide +kernel
theorem dX6_next_56 : decode cX6_next 56 = .ok (.aload_n 0, 1) := by decide +kernel
theorem dX6_next_57 : decode cX6_next 57 = .ok (.aload_n 0, 1) := by decide +kernel
theorem dX6_next_58 : decode cX6_next 58 = .ok (.getfield 28, 3) := by decide +kernel
theorem dX6_next_61 : decode cX6_next 61 = .ok (.aload_n 0, 1) := by decide +kernel
theorem dX6_next_62 : decode cX6_next 62 = .ok (.getfield 25, 3) := by decide +kernel
theorem dX6_next_65 : decode cX6_next 65 = .ok (.if_icmp .ge 18, 3) := by decide +kernel
theorem dX6_next_68 : decode cX6_next 68 = .ok (.aload_n 0, 1) := by decide +kernel
theorem dX6_next_69 : decode cX6_next 69 = .ok (.getfield 9, 3) := by decide +kernel
theorem dX6_next_72 : decode cX6_next 72 = .ok (.aload_n 0, 1) := by decide +kernel
theorem dX6_next_73 : decode cX6_next 73 = .ok (.getfield 28, 3) := by decide +kernel
theorem dX6_next_76 : decode cX6_next 76 = .ok (.baload, 1) := by decide +kernel
theorem dX6_next_77 : decode cX6_next 77 = .ok (.invokestatic 41, 3) := by decide +kernel
theorem dX6_next_80 : decode cX6_next 80 = .ok (.goto 4, 3) := by decide +kernel
theorem dX6_next_83 : decode cX6_next 83 = .ok (.iconst 0, 1) := by decide +kernel
theorem dX6_next_84 : decode cX6_next 84 = .ok (.putfield 45, 3) := by decide +kernel
theorem dX6_next_87 : decode cX6_next 87 = .ok (.aload_n 0, 1) := by decide +kernel
theorem dX6_next_88 : decode cX6_next 88 = .ok (.getfield 45, 3) := by decide +kernel
theorem dX6_next_91 : decode cX6_next 91 = .ok (.ifCond .eq 7, 3) := by decide +kernel
theorem dX6_next_94 : decode cX6_next 94 = .ok (.iconst 1, 1) := by decide +kernel
theorem dX6_next_95 : decode cX6_next 95 = .ok (.goto 4, 3) := by decide +kernel
theorem dX6_next_98 : decode cX6_next 98 = .ok (.iconst 0, 1) := by decide +kernel
theorem dX6_next_99 : decode cX6_next 99 = .ok (.istore_n 1, 1) := by decide +kernel
theorem dX6_next_100 : decode cX6_next 100 = .ok (.iload_n 1, 1) := by decide +kernel
theorem dX6_next_101 : decode cX6_next 101 = .ok (.ifCond .eq 125, 3) := by decide +kernel
theorem dX6_next_104 : decode cX6_next 104 = .ok (.aload_n 0, 1) := by decide +kernel
theorem dX6_next_105 : decode cX6_next 105 = .ok (.getfield 28, 3) := by decide +kernel
theorem dX6_next_108 : decode cX6_next 108 = .ok (.aload_n 0, 1) := by decide +kernel
theorem dX6_next_109 : decode cX6_next 109 = .ok (.getfield 25, 3) := by decide +kernel
theorem dX6_next_112 : decode cX6_next 112 = .ok (.if_icmp .ge 114, 3) := by decide +kernel
theorem dX6_next_115 : decode cX6_next 115 = .ok (.aload_n 0, 1) := by decide +kernel
theorem dX6_next_116 : decode cX6_next 116 = .ok (.aload_n 0, 1) := by decide +kernel
theorem dX6_next_117 : decode cX6_next 117 = .ok (.getfield 34, 3) := by decide +kernel
theorem dX6_next_120 : decode cX6_next 120 = .ok (.bipush 8, 2) := by decide +kernel
theorem dX6_next_122 : decode cX6_next 122 = .ok (.lshl, 1) := by decide +kernel
theorem dX6_next_123 : decode cX6_next 123 = .ok (.aload_n 0, 1) := by decide +kernel
theorem dX6_next_124 : decode cX6_next 124 = .ok (.getfield 9, 3) := by decide +kernel
theorem dX6_next_127 : decode cX6_next 127 = .ok (.aload_n 0, 1) := by decide +kernel
theorem dX6_next_128 : decode cX6_next 128 = .ok (.getfield 28, 3) := by decide +kernel
theorem dX6_next_131 : decode cX6_next 131 = .ok (.baload, 1) := by decide +kernel
theorem dX6_next_132 : decode cX6_next 132 = .ok (.i2l, 1) := by decide +kernel
theorem dX6_next_133 : decode cX6_next 133 = .ok (.lor, 1) := by decide +kernel
theorem dX6_next_134 : decode cX6_next 134 = .ok (.putfield 34, 3) := by decide +kernel
theorem dX6_next_137 : decode cX6_next 137 = .ok (.aload_n 0, 1) := by decide +kernel
theorem dX6_next_138 : decode cX6_next 138 = .ok (.bipush 10, 2) := by decide +kernel
theorem dX6_next_140 : decode cX6_next 140 = .ok (.aload_n 0, 1) := by decide +kernel
theorem dX6_next_141 : decode cX6_next 141 = .ok (.getfield 38, 3) := by decide +kernel
theorem dX6_next_144 : decode cX6_next 144 = .ok (.imul, 1) := by decide +kernel
theorem dX6_next_145 : decode cX6_next 145 = .ok (.aload_n 0, 1) := by decide +kernel
theorem dX6_next_146 : decode cX6_next 146 = .ok (.getfield 9, 3) := by decide +kernel
theorem dX6_next_149 : decode cX6_next 149 = .ok (.aload_n 0, 1) := by decide +kernel
theorem dX6_next_150 : decode cX6_next 150 = .ok (.getfield 28, 3) := by decide +kernel
theorem dX6_next_153 : decode cX6_next 153 = .ok (.baload, 1) := by decide +kernel
theorem dX6_next_154 : decode cX6_next 154 = .ok (.iadd, 1) := by decide +kernel
theorem dX6_next_155 : decode cX6_next 155 = .ok (.bipush 48, 2) := by decide +kernel
theorem dX6_next_157 : decode cX6_next 157 = .ok (.isub, 1) := by decide +kernel
theorem dX6_next_158 : decode cX6_next 158 = .ok (.putfield 38, 3) := by decide +kernel
theorem dX6_next_161 : decode cX6_next 161 = .ok (.aload_n 0, 1) := by decide +kernel
theorem dX6_next_162 : decode cX6_next 162 = .ok (.dup, 1) := by decide +kernel
theorem dX6_next_163 : decode cX6_next 163 = .ok (.getfield 28, 3) := by decide +kernel
theorem dX6_next_166 : decode cX6_next 166 = .ok (.iconst 1, 1) := by decide +kernel
theorem dX6_next_167 : decode cX6_next 167 = .ok (.iadd, 1) := by decide +kernel
theorem dX6_next_168 : decode cX6_next 168 = .ok (.putfield 28, 3) := by decide +kernel
theorem dX6_next_171 : decode cX6_next 171 = .ok (.aload_n 0, 1) := by decide +kernel
theorem dX6_next_172 : decode cX6_next 172 = .ok (.getfield 45, 3) := by decide +kernel
theorem dX6_next_175 : decode cX6_next 175 = .ok (.iconst 1, 1) := by decide +kernel
theorem dX6_next_176 : decode cX6_next 176 = .ok (.if_icmp .eq 11, 3) := by decide +kernel
theorem dX6_next_179 : decode cX6_next 179 = .ok (.aload_n 0, 1) := by decide +kernel
theorem dX6_next_180 : decode cX6_next 180 = .ok (.getfield 45, 3) := by decide +kernel
theorem dX6_next_183 : decode cX6_next 183 = .ok (.iconst 2, 1) := by decide +kernel
theorem dX6_next_184 : decode cX6_next 184 = .ok (.if_icmp .ne 37, 3) := by decide +kernel
theorem dX6_next_187 : decode cX6_next 187 = .ok (.aload_n 0, 1) := by decide +kernel
theorem dX6_next_188 : decode cX6_next 188 = .ok (.getfield 28, 3) := by decide +kernel
theorem dX6_next_191 : decode cX6_next 191 = .ok (.aload_n 0, 1) := by decide +kernel
theorem dX6_next_192 : decode cX6_next 192 = .ok (.getfield 25, 3) := by decide +kernel
theorem dX6_next_195 : decode cX6_next 195 = .ok (.if_icmp .ge 26, 3) := by decide +kernel
theorem dX6_next_198 : decode cX6_next 198 = .ok (.aload_n 0, 1) := by decide +kernel
theorem dX6_next_199 : decode cX6_next 199 = .ok (.getfield 9, 3) := by decide +kernel
theorem dX6_next_202 : decode cX6_next 202 = .ok (.aload_n 0, 1) := by decide +kernel
theorem dX6_next_203 : decode cX6_next 203 = .ok (.getfield 28, 3) := by decide +kernel
theorem dX6_next_206 : decode cX6_next 206 = .ok (.baload, 1) := by decide +kernel
theorem dX6_next_207 : decode cX6_next 207 = .ok (.invokestatic 41, 3) := by decide +kernel
theorem dX6_next_210 : decode cX6_next 210 = .ok (.aload_n 0, 1) := by decide +kernel
theorem dX6_next_211 : decode cX6_next 211 = .ok (.getfield 45, 3) := by decide +kernel
theorem dX6_next_214 : decode cX6_next 214 = .ok (.if_icmp .ne 7, 3) := by decide +kernel
theorem dX6_next_217 : decode cX6_next 217 = .ok (.iconst 1, 1) := by decide +kernel
theorem dX6_next_218 : decode cX6_next 218 = .ok (.goto 4, 3) := by decide +kernel
theorem dX6_next_221 : decode cX6_next 221 = .ok (.iconst 0, 1) := by decide +kernel
theorem dX6_next_222 : decode cX6_next 222 = .ok (.istore_n 1, 1) := by decide +kernel
theorem dX6_next_223 : decode cX6_next 223 = .ok (.goto (-123), 3) := by decide +kernel
theorem dX6_next_226 : decode cX6_next 226 = .ok (.aload_n 0, 1) := by decide +kernel
theorem dX6_next_227 : decode cX6_next 227 = .ok (.getfield 45, 3) := by decide +kernel
theorem dX6_next_230 : decode cX6_next 230 = .ok (.iconst 1, 1) := by decide +kernel
theorem dX6_next_231 : decode cX6_next 231 = .ok (.if_icmp .ne 17, 3) := by decide +kernel
theorem dX6_next_234 : decode cX6_next 234 = .ok (.aload_n 0, 1) := by decide +kernel
theorem dX6_next_235 : decode cX6_next 235 = .ok (.getfield 28, 3) := by decide +kernel
theorem dX6_next_238 : decode cX6_next 238 = .ok (.aload_n 0, 1) := by decide +kernel
theorem dX6_next_239 : decode cX6_next 239 = .ok (.getfield 31, 3) := by decide +kernel
theorem dX6_next_242 : decode cX6_next 242 = .ok (.isub, 1) := by decide +kernel
theorem dX6_next_243 : decode cX6_next 243 = .ok (.bipush 8, 2) := by decide +kernel
theorem dX6_next_245 : decode cX6_next 245 = .ok (.if_icmp .gt 24, 3) := by decide +kernel
theorem dX6_next_248 : decode cX6_next 248 = .ok (.aload_n 0, 1) := by decide +kernel
theorem dX6_next_249 : decode cX6_next 249 = .ok (.getfield 45, 3) := by decide +kernel
theorem dX6_next_252 : decode cX6_next 252 = .ok (.iconst 2, 1) := by decide +kernel
theorem dX6_next_253 : decode cX6_next 253 = .ok (.if_icmp .ne 21, 3) := by decide +kernel
theorem dX6_next_256 : decode cX6_next 256 = .ok (.aload_n 0, 1) := by decide +kernel
theorem dX6_next_257 : decode cX6_next 257 = .ok (.getfield 28, 3) := by decide +kernel
theorem dX6_next_260 : decode cX6_next 260 = .ok (.aload_n 0, 1) := by decide +kernel
theorem dX6_next_261 : decode cX6_next 261 = .ok (.getfield 31, 3) := by decide +kernel
theorem dX6_next_264 : decode cX6_next 264 = .ok (.isub, 1) := by decide +kernel
theorem dX6_next_265 : decode cX6_next 265 = .ok (.iconst 3, 1) := by decide +kernel
theorem dX6_next_266 : decode cX6_next 266 = .ok (.if_icmp .le 8, 3) := by decide +kernel
theorem dX6_next_269 : decode cX6_next 269 = .ok (.aload_n 0, 1) := by decide +kernel
theorem dX6_next_270 : decode cX6_next 270 = .ok (.iconst 4, 1) := by decide +kernel
theorem dX6_next_271 : decode cX6_next 271 = .ok (.putfield 45, 3) := by decide +kernel
theorem dX6_next_274 : decode cX6_next 274 = .ok (.return_, 1) := by decide +kernel
def B_X6_next_0 (X : Nat × (Nat → Int32)) (J : Nat → zCf) (R : zRt) : zCf := oALOAD 0 (oGETI 6 3 (oALOAD 0 (oGETI 6 2 (oICGE (J 38) (oALOAD 0 (oGETR 6 0 (oALOAD 0 (oGETI 6 3 (oBALD (oPI (zj (32)) (oICNE (J 38) (oALOAD 0 (oDUP (oGETI 6 3 (oPI (zj (1)) (oIADD (oPUTI 6 3 (J 0))))))))))))))))))
set_option maxRecDepth 100000 in
theorem vb_X6_next_0 {X : Nat × (Nat → Int32)} {R : zRt} : ∀ ls st h, B_X6_next_0 X (zV X M_X6_next (zQm M_X6_next R) 0 0) R ls st h → zV X M_X6_next (zQm M_X6_next R) 0 0 0 ls st h := sd_aload_n dX6_next_0 rfl (sd_geti dX6_next_1 zCl6 (Nat.le_of_ble_eq_true rfl) lk_RX6_28 (Or.inl rfl) (sd_aload_n dX6_next_4 rfl (sd_geti dX6_next_5 zCl6 (Nat.le_of_ble_eq_true rfl) lk_RX6_25 (Or.inl rfl) (sd_icge dX6_next_8 rfl (fun _ _ _ h => h) (sd_aload_n dX6_next_11 rfl (sd_getr dX6_next_12 zCl6 (Nat.le_of_ble_eq_true rfl) lk_RX6_9 (Or.inr ⟨_, rfl⟩) (sd_aload_n dX6_next_15 rfl (sd_geti dX6_next_16 zCl6 (Nat.le_of_ble_eq_true rfl) lk_RX6_28 (Or.inl rfl) (sd_bald dX6_next_19 (sd_bipush dX6_next_20 rfl (sd_icne dX6_next_22 rfl (fun _ _ _ h => h) (sd_aload_n dX6_next_25 rfl (sd_dup dX6_next_26 (sd_geti dX6_next_27 zCl6 (Nat.le_of_ble_eq_true rfl) lk_RX6_28 (Or.inl rfl) (sd_iconst dX6_next_30 rfl (sd_iadd dX6_next_31 (sd_puti dX6_next_32 zCl6 (Nat.le_of_ble_eq_true rfl) lk_RX6_28 rfl (Or.inl rfl) (sd_goto dX6_next_35 rfl (fun _ _ _ h => h)))))))))))))))))))
def B_X6_next_38 (X : Nat × (Nat → Int32)) (J : Nat → zCf) (R : zRt) : zCf := oALOAD 0 (oALOAD 0 (oGETI 6 3 (oPUTI 6 5 (oALOAD 0 (oPL (zk (0)) (oPUTL 6 6 (oALOAD 0 (oPI (zj (0)) (oPUTI 6 7 (oALOAD 0 (oALOAD 0 (oGETI 6 3 (oALOAD 0 (oGETI 6 2 (oICGE (J 83) (oALOAD 0 (oGETR 6 0 (oALOAD 0 (oGETI 6 3 (oBALD (oINS1 X M_X6_kindOf (J 84))))))))))))))))))))))
set_option maxRecDepth 100000 in
theorem vb_X6_next_38 {X : Nat × (Nat → Int32)} {R : zRt} : ∀ ls st h, B_X6_next_38 X (zV X M_X6_next (zQm M_X6_next R) 0 0) R ls st h → zV X M_X6_next (zQm M_X6_next R) 0 0 38 ls st h := sd_aload_n dX6_next_38 rfl (sd_aload_n dX6_next_39 rfl (sd_geti dX6_next_40 zCl6 (Nat.le_of_ble_eq_true rfl) lk_RX6_28 (Or.inl rfl) (sd_puti dX6_next_43 zCl6 (Nat.le_of_ble_eq_true rfl) lk_RX6_31 rfl (Or.inl rfl) (sd_aload_n dX6_next_46 rfl (sd_lconst dX6_next_47 rfl (sd_putl dX6_next_48 zCl6 (Nat.le_of_ble_eq_true rfl) lk_RX6_34 rfl (Or.inl rfl) (sd_aload_n dX6_next_51 rfl (sd_iconst dX6_next_52 rfl (sd_puti dX6_next_53 zCl6 (Nat.le_of_ble_eq_true rfl) lk_RX6_38 rfl (Or.inl rfl) (sd_aload_n dX6_next_56 rfl (sd_aload_n dX6_next_57 rfl (sd_geti dX6_next_58 zCl6 (Nat.le_of_ble_eq_true rfl) lk_RX6_28 (Or.inl rfl) (sd_aload_n dX6_next_61 rfl (sd_geti dX6_next_62 zCl6 (Nat.le_of_ble_eq_true rfl) lk_RX6_25 (Or.inl rfl) (sd_icge dX6_next_65 rfl (fun _ _ _ h => h) (sd_aload_n dX6_next_68 rfl (sd_getr dX6_next_69 zCl6 (Nat.le_of_ble_eq_true rfl) lk_RX6_9 (Or.inr ⟨_, rfl⟩) (sd_aload_n dX6_next_72 rfl (sd_geti dX6_next_73 zCl6 (Nat.le_of_ble_eq_true rfl) lk_RX6_28 (Or.inl rfl) (sd_bald dX6_next_76 (sd_ins1 dX6_next_77 ms_X6_kindOf na_X6_kindOf ml_RX6_41 ⟨⟨Nat.le_of_ble_eq_true rfl, Nat.le_of_ble_eq_true rfl⟩, ⟨Nat.le_of_ble_eq_true rfl, Nat.le_of_ble_eq_true rfl⟩⟩ (sd_goto dX6_next_80 rfl (fun _ _ _ h => h)))))))))))))))))))))))
def B_X6_next_83 (X : Nat × (Nat → Int32)) (J : Nat → zCf) (R : zRt) : zCf := oPI (zj (0)) (J 84)
set_option maxRecDepth 100000 in
theorem vb_X6_next_83 {X : Nat × (Nat → Int32)} {R : zRt} : ∀ ls st h, B_X6_next_83 X (zV X M_X6_next (zQm M_X6_next R) 0 0) R ls st h → zV X M_X6_next (zQm M_X6_next R) 0 0 83 ls st h := sd_iconst dX6_next_83 rfl (fun _ _ _ h => h)
def B_X6_next_84 (X : Nat × (Nat → Int32)) (J : Nat → zCf) (R : zRt) : zCf := oPUTI 6 4 (oALOAD 0 (oGETI 6 4 (oIFEQ (J 98) (oPI (zj (1)) (J 99)))))
set_option maxRecDepth 100000 in
theorem vb_X6_next_84 {X : Nat × (Nat → Int32)} {R : zRt} : ∀ ls st h, B_X6_next_84 X (zV X M_X6_next (zQm M_X6_next R) 0 0) R ls st h → zV X M_X6_next (zQm M_X6_next R) 0 0 84 ls st h := sd_puti dX6_next_84 zCl6 (Nat.le_of_ble_eq_true rfl) lk_RX6_45 rfl (Or.inl rfl) (sd_aload_n dX6_next_87 rfl (sd_geti dX6_next_88 zCl6 (Nat.le_of_ble_eq_true rfl) lk_RX6_45 (Or.inl rfl) (sd_ifeq dX6_next_91 rfl (fun _ _ _ h => h) (sd_iconst dX6_next_94 rfl (sd_goto dX6_next_95 rfl (fun _ _ _ h => h))))))
def B_X6_next_98 (X : Nat × (Nat → Int32)) (J : Nat → zCf) (R : zRt) : zCf := oPI (zj (0)) (J 99)
set_option maxRecDepth 100000 in
theorem vb_X6_next_98 {X : Nat × (Nat → Int32)} {R : zRt} : ∀ ls st h, B_X6_next_98 X (zV X M_X6_next (zQm M_X6_next R) 0 0) R ls st h → zV X M_X6_next (zQm M_X6_next R) 0 0 98 ls st h := sd_iconst dX6_next_98 rfl (fun _ _ _ h => h)
def B_X6_next_99 (X : Nat × (Nat → Int32)) (J : Nat → zCf) (R : zRt) : zCf := oISTORE 0 1 (J 100)
set_option maxRecDepth 100000 in
theorem vb_X6_next_99 {X : Nat × (Nat → Int32)} {R : zRt} : ∀ ls st h, B_X6_next_99 X (zV X M_X6_next (zQm M_X6_next R) 0 0) R ls st h → zV X M_X6_next (zQm M_X6_next R) 0 0 99 ls st h := sd_istore_n dX6_next_99 rfl (Nat.le_of_ble_eq_true rfl) (Or.inl rfl) (fun _ _ _ h => h)
def B_X6_next_100 (X : Nat × (Nat → Int32)) (J : Nat → zCf) (R : zRt) : zCf := oILOAD 1 (oIFEQ (J 226) (oALOAD 0 (oGETI 6 3 (oALOAD 0 (oGETI 6 2 (oICGE (J 226) (oALOAD 0 (oALOAD 0 (oGETL 6 6 (oPI (zj (8)) (oLSHL (oALOAD 0 (oGETR 6 0 (oALOAD 0 (oGETI 6 3 (oBALD (oI2L (oLOR (oPUTL 6 6 (oALOAD 0 (oPI (zj (10)) (oALOAD 0 (oGETI 6 7 (oIMUL (oALOAD 0 (oGETR 6 0 (oALOAD 0 (oGETI 6 3 (oBALD (oIADD (oPI (zj (48)) (oISUB (oPUTI 6 7 (oALOAD 0 (oDUP (oGETI 6 3 (oPI (zj (1)) (oIADD (oPUTI 6 3 (oALOAD 0 (oGETI 6 4 (oPI (zj (1)) (oICEQ (J 187) (oALOAD 0 (oGETI 6 4 (oPI (zj (2)) (oICNE (J 221) (J 187))))))))))))))))))))))))))))))))))))))))))))))))
set_option maxRecDepth 100000 in
theorem vb_X6_next_100 {X : Nat × (Nat → Int32)} {R : zRt} : ∀ ls st h, B_X6_next_100 X (zV X M_X6_next (zQm M_X6_next R) 0 0) R ls st h → zV X M_X6_next (zQm M_X6_next R) 0 0 100 ls st h := sd_iload_n dX6_next_100 rfl (sd_ifeq dX6_next_101 rfl (fun _ _ _ h => h) (sd_aload_n dX6_next_104 rfl (sd_geti dX6_next_105 zCl6 (Nat.le_of_ble_eq_true rfl) lk_RX6_28 (Or.inl rfl) (sd_aload_n dX6_next_108 rfl (sd_geti dX6_next_109 zCl6 (Nat.le_of_ble_eq_true rfl) lk_RX6_25 (Or.inl rfl) (sd_icge dX6_next_112 rfl (fun _ _ _ h => h) (sd_aload_n dX6_next_115 rfl (sd_aload_n dX6_next_116 rfl (sd_getl dX6_next_117 zCl6 (Nat.le_of_ble_eq_true rfl) lk_RX6_34 rfl (sd_bipush dX6_next_120 rfl (sd_lshl dX6_next_122 (sd_aload_n dX6_next_123 rfl (sd_getr dX6_next_124 zCl6 (Nat.le_of_ble_eq_true rfl) lk_RX6_9 (Or.inr ⟨_, rfl⟩) (sd_aload_n dX6_next_127 rfl (sd_geti dX6_next_128 zCl6 (Nat.le_of_ble_eq_true rfl) lk_RX6_28 (Or.inl rfl) (sd_bald dX6_next_131 (sd_i2l dX6_next_132 (sd_lor dX6_next_133 (sd_putl dX6_next_134 zCl6 (Nat.le_of_ble_eq_true rfl) lk_RX6_34 rfl (Or.inl rfl) (sd_aload_n dX6_next_137 rfl (sd_bipush dX6_next_138 rfl (sd_aload_n dX6_next_140 rfl (sd_geti dX6_next_141 zCl6 (Nat.le_of_ble_eq_true rfl) lk_RX6_38 (Or.inl rfl) (sd_imul dX6_next_144 (sd_aload_n dX6_next_145 rfl (sd_getr dX6_next_146 zCl6 (Nat.le_of_ble_eq_true rfl) lk_RX6_9 (Or.inr ⟨_, rfl⟩) (sd_aload_n dX6_next_149 rfl (sd_geti dX6_next_150 zCl6 (Nat.le_of_ble_eq_true rfl) lk_RX6_28 (Or.inl rfl) (sd_bald dX6_next_153 (sd_iadd dX6_next_154 (sd_bipush dX6_next_155 rfl (sd_isub dX6_next_157 (sd_puti dX6_next_158 zCl6 (Nat.le_of_ble_eq_true rfl) lk_RX6_38 rfl (Or.inl rfl) (sd_aload_n dX6_next_161 rfl (sd_dup dX6_next_162 (sd_geti dX6_next_163 zCl6 (Nat.le_of_ble_eq_true rfl) lk_RX6_28 (Or.inl rfl) (sd_iconst dX6_next_166 rfl (sd_iadd dX6_next_167 (sd_puti dX6_next_168 zCl6 (Nat.le_of_ble_eq_true rfl) lk_RX6_28 rfl (Or.inl rfl) (sd_aload_n dX6_next_171 rfl (sd_geti dX6_next_172 zCl6 (Nat.le_of_ble_eq_true rfl) lk_RX6_45 (Or.inl rfl) (sd_iconst dX6_next_175 rfl (sd_iceq dX6_next_176 rfl (fun _ _ _ h => h) (sd_aload_n dX6_next_179 rfl (sd_geti dX6_next_180 zCl6 (Nat.le_of_ble_eq_true rfl) lk_RX6_45 (Or.inl rfl) (sd_iconst dX6_next_183 rfl (sd_icne dX6_next_184 rfl (fun _ _ _ h => h) (fun _ _ _ h => h))))))))))))))))))))))))))))))))))))))))))))))))
def B_X6_next_187 (X : Nat × (Nat → Int32)) (J : Nat → zCf) (R : zRt) : zCf := oALOAD 0 (oGETI 6 3 (oALOAD 0 (oGETI 6 2 (oICGE (J 221) (oALOAD 0 (oGETR 6 0 (oALOAD 0 (oGETI 6 3 (oBALD (oINS1 X M_X6_kindOf (oALOAD 0 (oGETI 6 4 (oICNE (J 221) (oPI (zj (1)) (J 222)))))))))))))))
set_option maxRecDepth 100000 in
theorem vb_X6_next_187 {X : Nat × (Nat → Int32)} {R : zRt} : ∀ ls st h, B_X6_next_187 X (zV X M_X6_next (zQm M_X6_next R) 0 0) R ls st h → zV X M_X6_next (zQm M_X6_next R) 0 0 187 ls st h := sd_aload_n dX6_next_187 rfl (sd_geti dX6_next_188 zCl6 (Nat.le_of_ble_eq_true rfl) lk_RX6_28 (Or.inl rfl) (sd_aload_n dX6_next_191 rfl (sd_geti dX6_next_192 zCl6 (Nat.le_of_ble_eq_true rfl) lk_RX6_25 (Or.inl rfl) (sd_icge dX6_next_195 rfl (fun _ _ _ h => h) (sd_aload_n dX6_next_198 rfl (sd_getr dX6_next_199 zCl6 (Nat.le_of_ble_eq_true rfl) lk_RX6_9 (Or.inr ⟨_, rfl⟩) (sd_aload_n dX6_next_202 rfl (sd_geti dX6_next_203 zCl6 (Nat.le_of_ble_eq_true rfl) lk_RX6_28 (Or.inl rfl) (sd_bald dX6_next_206 (sd_ins1 dX6_next_207 ms_X6_kindOf na_X6_kindOf ml_RX6_41 ⟨⟨Nat.le_of_ble_eq_true rfl, Nat.le_of_ble_eq_true rfl⟩, ⟨Nat.le_of_ble_eq_true rfl, Nat.le_of_ble_eq_true rfl⟩⟩ (sd_aload_n dX6_next_210 rfl (sd_geti dX6_next_211 zCl6 (Nat.le_of_ble_eq_true rfl) lk_RX6_45 (Or.inl rfl) (sd_icne dX6_next_214 rfl (fun _ _ _ h => h) (sd_iconst dX6_next_217 rfl (sd_goto dX6_next_218 rfl (fun _ _ _ h => h))))))))))))))))
def B_X6_next_221 (X : Nat × (Nat → Int32)) (J : Nat → zCf) (R : zRt) : zCf := oPI (zj (0)) (J 222)
set_option maxRecDepth 100000 in
theorem vb_X6_next_221 {X : Nat × (Nat → Int32)} {R : zRt} : ∀ ls st h, B_X6_next_221 X (zV X M_X6_next (zQm M_X6_next R) 0 0) R ls st h → zV X M_X6_next (zQm M_X6_next R) 0 0 221 ls st h := sd_iconst dX6_next_221 rfl (fun _ _ _ h => h)
def B_X6_next_222 (X : Nat × (Nat → Int32)) (J : Nat → zCf) (R : zRt) : zCf := oISTORE 0 1 (J 100)
set_option maxRecDepth 100000 in
theorem vb_X6_next_222 {X : Nat × (Nat → Int32)} {R : zRt} : ∀ ls st h, B_X6_next_222 X (zV X M_X6_next (zQm M_X6_next R) 0 0) R ls st h → zV X M_X6_next (zQm M_X6_next R) 0 0 222 ls st h := sd_istore_n dX6_next_222 rfl (Nat.le_of_ble_eq_true rfl) (Or.inl rfl) (sd_goto dX6_next_223 rfl (fun _ _ _ h => h))
def B_X6_next_226 (X : Nat × (Nat → Int32)) (J : Nat → zCf) (R : zRt) : zCf := oALOAD 0 (oGETI 6 4 (oPI (zj (1)) (oICNE (J 248) (oALOAD 0 (oGETI 6 3 (oALOAD 0 (oGETI 6 5 (oISUB (oPI (zj (8)) (oICGT (J 269) (J 248)))))))))))
set_option maxRecDepth 100000 in
theorem vb_X6_next_226 {X : Nat × (Nat → Int32)} {R : zRt} : ∀ ls st h, B_X6_next_226 X (zV X M_X6_next (zQm M_X6_next R) 0 0) R ls st h → zV X M_X6_next (zQm M_X6_next R) 0 0 226 ls st h := sd_aload_n dX6_next_226 rfl (sd_geti dX6_next_227 zCl6 (Nat.le_of_ble_eq_true rfl) lk_RX6_45 (Or.inl rfl) (sd_iconst dX6_next_230 rfl (sd_icne dX6_next_231 rfl (fun _ _ _ h => h) (sd_aload_n dX6_next_234 rfl (sd_geti dX6_next_235 zCl6 (Nat.le_of_ble_eq_true rfl) lk_RX6_28 (Or.inl rfl) (sd_aload_n dX6_next_238 rfl (sd_geti dX6_next_239 zCl6 (Nat.le_of_ble_eq_true rfl) lk_RX6_31 (Or.inl rfl) (sd_isub dX6_next_242 (sd_bipush dX6_next_243 rfl (sd_icgt dX6_next_245 rfl (fun _ _ _ h => h) (fun _ _ _ h => h)))))))))))
def B_X6_next_248 (X : Nat × (Nat → Int32)) (J : Nat → zCf) (R : zRt) : zCf := oALOAD 0 (oGETI 6 4 (oPI (zj (2)) (oICNE (J 274) (oALOAD 0 (oGETI 6 3 (oALOAD 0 (oGETI 6 5 (oISUB (oPI (zj (3)) (oICLE (J 274) (J 269)))))))))))
set_option maxRecDepth 100000 in
theorem vb_X6_next_248 {X : Nat × (Nat → Int32)} {R : zRt} : ∀ ls st h, B_X6_next_248 X (zV X M_X6_next (zQm M_X6_next R) 0 0) R ls st h → zV X M_X6_next (zQm M_X6_next R) 0 0 248 ls st h := sd_aload_n dX6_next_248 rfl (sd_geti dX6_next_249 zCl6 (Nat.le_of_ble_eq_true rfl) lk_RX6_45 (Or.inl rfl) (sd_iconst dX6_next_252 rfl (sd_icne dX6_next_253 rfl (fun _ _ _ h => h) (sd_aload_n dX6_next_256 rfl (sd_geti dX6_next_257 zCl6 (Nat.le_of_ble_eq_true rfl) lk_RX6_28 (Or.inl rfl) (sd_aload_n dX6_next_260 rfl (sd_geti dX6_next_261 zCl6 (Nat.le_of_ble_eq_true rfl) lk_RX6_31 (Or.inl rfl) (sd_isub dX6_next_264 (sd_iconst dX6_next_265 rfl (sd_icle dX6_next_266 rfl (fun _ _ _ h => h) (fun _ _ _ h => h)))))))))))
def B_X6_next_269 (X : Nat × (Nat → Int32)) (J : Nat → zCf) (R : zRt) : zCf := oALOAD 0 (oPI (zj (4)) (oPUTI 6 4 (J 274)))
set_option maxRecDepth 100000 in
theorem vb_X6_next_269 {X : Nat × (Nat → Int32)} {R : zRt} : ∀ ls st h, B_X6_next_269 X (zV X M_X6_next (zQm M_X6_next R) 0 0) R ls st h → zV X M_X6_next (zQm M_X6_next R) 0 0 269 ls st h := sd_aload_n dX6_next_269 rfl (sd_iconst dX6_next_270 rfl (sd_puti dX6_next_271 zCl6 (Nat.le_of_ble_eq_true rfl) lk_RX6_45 rfl (Or.inl rfl) (fun _ _ _ h => h)))
def B_X6_next_274 (X : Nat × (Nat → Int32)) (J : Nat → zCf) (R : zRt) : zCf := oVRET R
set_option maxRecDepth 100000 in
theorem vb_X6_next_274 {X : Nat × (Nat → Int32)} {R : zRt} : ∀ ls st h, B_X6_next_274 X (zV X M_X6_next (zQm M_X6_next R) 0 0) R ls st h → zV X M_X6_next (zQm M_X6_next R) 0 0 274 ls st h := sd_vret dX6_next_274 rfl (Nat.le_of_ble_eq_true rfl) (Nat.le_of_ble_eq_true rfl)
theorem dX6_kindOf_0 : decode cX6_kindOf 0 = .ok (.iload_n 0, 1) := by decide +kernel
theorem dX6_kindOf_1 : decode cX6_kindOf 1 = .ok (.bipush 97, 2) := by decide +kernel
theorem dX6_kindOf_3 : decode cX6_kindOf 3 = .ok (.if_icmp .lt 11, 3) := by decide +kernel
theorem dX6_kindOf_6 : decode cX6_kindOf 6 = .ok (.iload_n 0, 1) := by decide +kernel
theorem dX6_kindOf_7 : decode cX6_kindOf 7 = .ok (.bipush 122, 2) := by decide +kernel
theorem dX6_kindOf_9 : decode cX6_kindOf 9 = .ok (.if_icmp .gt 5, 3) := by decide +kernel
theorem dX6_kindOf_12 : decode cX6_kindOf 12 = .ok (.iconst 1, 1) := by decide +kernel
theorem dX6_kindOf_13 : decode cX6_kindOf 13 = .ok (.ireturn, 1) := by decide +kernel
theorem dX6_kindOf_14 : decode cX6_kindOf 14 = .ok (.iload_n 0, 1) := by decide +kernel
theorem dX6_kindOf_15 : decode cX6_kindOf 15 = .ok (.bipush 48, 2) := by decide +kernel
theorem dX6_kindOf_17 : decode cX6_kindOf 17 = .ok (.if_icmp .lt 11, 3) := by decide +kernel
theorem dX6_kindOf_20 : decode cX6_kindOf 20 = .ok (.iload_n 0, 1) := by decide +kernel
theorem dX6_kindOf_21 : decode cX6_kindOf 21 = .ok (.bipush 57, 2) := by decide +kernel
theorem dX6_kindOf_23 : decode cX6_kindOf 23 = .ok (.if_icmp .gt 5, 3) := by decide +kernel
theorem dX6_kindOf_26 : decode cX6_kindOf 26 = .ok (.iconst 2, 1) := by decide +kernel
theorem dX6_kindOf_27 : decode cX6_kindOf 27 = .ok (.ireturn, 1) := by decide +kernel
theorem dX6_kindOf_28 : decode cX6_kindOf 28 = .ok (.iload_n 0, 1) := by decide +kernel
theorem dX6_kindOf_29 : decode cX6_kindOf 29 = .ok (.bipush 59, 2) := by decide +kernel
theorem dX6_kindOf_31 : decode cX6_kindOf 31 = .ok (.if_icmp .ne 7, 3) := by decide +kernel
theorem dX6_kindOf_34 : decode cX6_kindOf 34 = .ok (.iconst 3, 1) := by decide +kernel
theorem dX6_kindOf_35 : decode cX6_kindOf 35 = .ok (.goto 4, 3) := by decide +kernel
theorem dX6_kindOf_38 : decode cX6_kindOf 38 = .ok (.iconst 4, 1) := by decide +kernel
theorem dX6_kindOf_39 : decode cX6_kindOf 39 = .ok (.ireturn, 1) := by decide +kernel
def B_X6_kindOf_0 (X : Nat × (Nat → Int32)) (J : Nat → zCf) (R : zRt) : zCf := oILOAD 0 (oPI (zj (97)) (oICLT (J 14) (oILOAD 0 (oPI (zj (122)) (oICGT (J 14) (oPI (zj (1)) (oIRET R)))))))
set_option maxRecDepth 100000 in
theorem vb_X6_kindOf_0 {X : Nat × (Nat → Int32)} {R : zRt} : ∀ ls st h, B_X6_kindOf_0 X (zV X M_X6_kindOf (zQm M_X6_kindOf R) 0 0) R ls st h → zV X M_X6_kindOf (zQm M_X6_kindOf R) 0 0 0 ls st h := sd_iload_n dX6_kindOf_0 rfl (sd_bipush dX6_kindOf_1 rfl (sd_iclt dX6_kindOf_3 rfl (fun _ _ _ h => h) (sd_iload_n dX6_kindOf_6 rfl (sd_bipush dX6_kindOf_7 rfl (sd_icgt dX6_kindOf_9 rfl (fun _ _ _ h => h) (sd_iconst dX6_kindOf_12 rfl (sd_iret dX6_kindOf_13 rfl (Nat.le_of_ble_eq_true rfl) (Nat.le_of_ble_eq_true rfl))))))))
def B_X6_kindOf_14 (X : Nat × (Nat → Int32)) (J : Nat → zCf) (R : zRt) : zCf := oILOAD 0 (oPI (zj (48)) (oICLT (J 28) (oILOAD 0 (oPI (zj (57)) (oICGT (J 28) (oPI (zj (2)) (oIRET R)))))))
set_option maxRecDepth 100000 in
theorem vb_X6_kindOf_14 {X : Nat × (Nat → Int32)} {R : zRt} : ∀ ls st h, B_X6_kindOf_14 X (zV X M_X6_kindOf (zQm M_X6_kindOf R) 0 0) R ls st h → zV X M_X6_kindOf (zQm M_X6_kindOf R) 0 0 14 ls st h := sd_iload_n dX6_kindOf_14 rfl (sd_bipush dX6_kindOf_15 rfl (sd_iclt dX6_kindOf_17 rfl (fun _ _ _ h => h) (sd_iload_n dX6_kindOf_20 rfl (sd_bipush dX6_kindOf_21 rfl (sd_icgt dX6_kindOf_23 rfl (fun _ _ _ h => h) (sd_iconst dX6_kindOf_26 rfl (sd_iret dX6_kindOf_27 rfl (Nat.le_of_ble_eq_true rfl) (Nat.le_of_ble_eq_true rfl))))))))
def B_X6_kindOf_28 (X : Nat × (Nat → Int32)) (J : Nat → zCf) (R : zRt) : zCf := oILOAD 0 (oPI (zj (59)) (oICNE (J 38) (oPI (zj (3)) (J 39))))
set_option maxRecDepth 100000 in
theorem vb_X6_kindOf_28 {X : Nat × (Nat → Int32)} {R : zRt} : ∀ ls st h, B_X6_kindOf_28 X (zV X M_X6_kindOf (zQm M_X6_kindOf R) 0 0) R ls st h → zV X M_X6_kindOf (zQm M_X6_kindOf R) 0 0 28 ls st h := sd_iload_n dX6_kindOf_28 rfl (sd_bipush dX6_kindOf_29 rfl (sd_icne dX6_kindOf_31 rfl (fun _ _ _ h => h) (sd_iconst dX6_kindOf_34 rfl (sd_goto dX6_kindOf_35 rfl (fun _ _ _ h => h)))))
def B_X6_kindOf_38 (X : Nat × (Nat → Int32)) (J : Nat → zCf) (R : zRt) : zCf := oPI (zj (4)) (J 39)
set_option maxRecDepth 100000 in
theorem vb_X6_kindOf_38 {X : Nat × (Nat → Int32)} {R : zRt} : ∀ ls st h, B_X6_kindOf_38 X (zV X M_X6_kindOf (zQm M_X6_kindOf R) 0 0) R ls st h → zV X M_X6_kindOf (zQm M_X6_kindOf R) 0 0 38 ls st h := sd_iconst dX6_kindOf_38 rfl (fun _ _ _ h => h)
def B_X6_kindOf_39 (X : Nat × (Nat → Int32)) (J : Nat → zCf) (R : zRt) : zCf := oIRET R
set_option maxRecDepth 100000 in
theorem vb_X6_kindOf_39 {X : Nat × (Nat → Int32)} {R : zRt} : ∀ ls st h, B_X6_kindOf_39 X (zV X M_X6_kindOf (zQm M_X6_kindOf R) 0 0) R ls st h → zV X M_X6_kindOf (zQm M_X6_kindOf R) 0 0 39 ls st h := sd_iret dX6_kindOf_39 rfl (Nat.le_of_ble_eq_true rfl) (Nat.le_of_ble_eq_true rfl)
theorem dX6_isWord_0 : decode cX6_isWord 0 = .ok (.aload_n 0, 1) := by decide +kernel
theorem dX6_isWord_1 : decode cX6_isWord 1 = .ok (.getfield 45, 3) := by decide +kernel
theorem dX6_isWord_4 : decode cX6_isWord 4 = .ok (.iconst 1, 1) := by decide +kernel
theorem dX6_isWord_5 : decode cX6_isWord 5 = .ok (.if_icmp .ne 16, 3) := by decide +kernel
theorem dX6_isWord_8 : decode cX6_isWord 8 = .ok (.aload_n 0, 1) := by decide +kernel
theorem dX6_isWord_9 : decode cX6_isWord 9 = .ok (.getfield 34, 3) := by decide +kernel
theorem dX6_isWord_12 : decode cX6_isWord 12 = .ok (.lload_n 1, 1) := by decide +kernel
theorem dX6_isWord_13 : decode cX6_isWord 13 = .ok (.lcmp, 1) := by decide +kernel
theorem dX6_isWord_14 : decode cX6_isWord 14 = .ok (.ifCond .ne 7, 3) := by decide +kernel
theorem dX6_isWord_17 : decode cX6_isWord 17 = .ok (.iconst 1, 1) := by decide +kernel
theorem dX6_isWord_18 : decode cX6_isWord 18 = .ok (.goto 4, 3) := by decide +kernel
theorem dX6_isWord_21 : decode cX6_isWord 21 = .ok (.iconst 0, 1) := by decide +kernel
theorem dX6_isWord_22 : decode cX6_isWord 22 = .ok (.ireturn, 1) := by decide +kernel
def B_X6_isWord_0 (X : Nat × (Nat → Int32)) (J : Nat → zCf) (R : zRt) : zCf := oALOAD 0 (oGETI 6 4 (oPI (zj (1)) (oICNE (J 21) (oALOAD 0 (oGETL 6 6 (oLLOAD 1 (oLCMP (oIFNE (J 21) (oPI (zj (1)) (J 22))))))))))
set_option maxRecDepth 100000 in
theorem vb_X6_isWord_0 {X : Nat × (Nat → Int32)} {R : zRt} : ∀ ls st h, B_X6_isWord_0 X (zV X M_X6_isWord (zQm M_X6_isWord R) 0 0) R ls st h → zV X M_X6_isWord (zQm M_X6_isWord R) 0 0 0 ls st h := sd_aload_n dX6_isWord_0 rfl (sd_geti dX6_isWord_1 zCl6 (Nat.le_of_ble_eq_true rfl) lk_RX6_45 (Or.inl rfl) (sd_iconst dX6_isWord_4 rfl (sd_icne dX6_isWord_5 rfl (fun _ _ _ h => h) (sd_aload_n dX6_isWord_8 rfl (sd_getl dX6_isWord_9 zCl6 (Nat.le_of_ble_eq_true rfl) lk_RX6_34 rfl (sd_lload_n dX6_isWord_12 rfl (sd_lcmp dX6_isWord_13 (sd_ifne dX6_isWord_14 rfl (fun _ _ _ h => h) (sd_iconst dX6_isWord_17 rfl (sd_goto dX6_isWord_18 rfl (fun _ _ _ h => h)))))))))))
def B_X6_isWord_21 (X : Nat × (Nat → Int32)) (J : Nat → zCf) (R : zRt) : zCf := oPI (zj (0)) (J 22)
set_option maxRecDepth 100000 in
theorem vb_X6_isWord_21 {X : Nat × (Nat → Int32)} {R : zRt} : ∀ ls st h, B_X6_isWord_21 X (zV X M_X6_isWord (zQm M_X6_isWord R) 0 0) R ls st h → zV X M_X6_isWord (zQm M_X6_isWord R) 0 0 21 ls st h := sd_iconst dX6_isWord_21 rfl (fun _ _ _ h => h)
def B_X6_isWord_22 (X : Nat × (Nat → Int32)) (J : Nat → zCf) (R : zRt) : zCf := oZRET R
set_option maxRecDepth 100000 in
theorem vb_X6_isWord_22 {X : Nat × (Nat → Int32)} {R : zRt} : ∀ ls st h, B_X6_isWord_22 X (zV X M_X6_isWord (zQm M_X6_isWord R) 0 0) R ls st h → zV X M_X6_isWord (zQm M_X6_isWord R) 0 0 22 ls st h := sd_zret dX6_isWord_22 rfl (Nat.le_of_ble_eq_true rfl) (Nat.le_of_ble_eq_true rfl)
