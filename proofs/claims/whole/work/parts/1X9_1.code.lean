theorem dX9_tube_0 : decode cX9_tube 0 = .ok (.aload_n 0, 1) := by decide +kernel
theorem dX9_tube_1 : decode cX9_tube 1 = .ok (.iconst 0, 1) := by decide +kernel
theorem dX9_tube_2 : decode cX9_tube 2 = .ok (.putfield 36, 3) := by decide +kernel
theorem dX9_tube_5 : decode cX9_tube 5 = .ok (.iload_n 1, 1) := by decide +kernel
theorem dX9_tube_6 : decode cX9_tube 6 = .ok (.ifCond .lt 11, 3) := by decide +kernel
theorem dX9_tube_9 : decode cX9_tube 9 = .ok (.iload_n 1, 1) := by decide +kernel
theorem dX9_tube_10 : decode cX9_tube 10 = .ok (.aload_n 0, 1) := by decide +kernel
theorem dX9_tube_11 : decode cX9_tube 11 = .ok (.getfield 282, 3) := by decide +kernel
theorem dX9_tube_14 : decode cX9_tube 14 = .ok (.if_icmp .le 9, 3) := by decide +kernel
theorem dX9_tube_17 : decode cX9_tube 17 = .ok (.aload_n 0, 1) := by decide +kernel
theorem dX9_tube_18 : decode cX9_tube 18 = .ok (.iconst 2, 1) := by decide +kernel
theorem dX9_tube_19 : decode cX9_tube 19 = .ok (.invokevirtual 42, 3) := by decide +kernel
theorem dX9_tube_22 : decode cX9_tube 22 = .ok (.ireturn, 1) := by decide +kernel
theorem dX9_tube_23 : decode cX9_tube 23 = .ok (.aload_n 0, 1) := by decide +kernel
theorem dX9_tube_24 : decode cX9_tube 24 = .ok (.iload_n 1, 1) := by decide +kernel
theorem dX9_tube_25 : decode cX9_tube 25 = .ok (.putfield 53, 3) := by decide +kernel
theorem dX9_tube_28 : decode cX9_tube 28 = .ok (.aload_n 0, 1) := by decide +kernel
theorem dX9_tube_29 : decode cX9_tube 29 = .ok (.iconst 0, 1) := by decide +kernel
theorem dX9_tube_30 : decode cX9_tube 30 = .ok (.putfield 282, 3) := by decide +kernel
theorem dX9_tube_33 : decode cX9_tube 33 = .ok (.aload_n 0, 1) := by decide +kernel
theorem dX9_tube_34 : decode cX9_tube 34 = .ok (.iconst 0, 1) := by decide +kernel
theorem dX9_tube_35 : decode cX9_tube 35 = .ok (.putfield 71, 3) := by decide +kernel
theorem dX9_tube_38 : decode cX9_tube 38 = .ok (.aload_n 0, 1) := by decide +kernel
theorem dX9_tube_39 : decode cX9_tube 39 = .ok (.iconst 0, 1) := by decide +kernel
theorem dX9_tube_40 : decode cX9_tube 40 = .ok (.putfield 94, 3) := by decide +kernel
theorem dX9_tube_43 : decode cX9_tube 43 = .ok (.aload_n 0, 1) := by decide +kernel
theorem dX9_tube_44 : decode cX9_tube 44 = .ok (.new 149, 3) := by decide +kernel
theorem dX9_tube_47 : decode cX9_tube 47 = .ok (.dup, 1) := by decide +kernel
theorem dX9_tube_48 : decode cX9_tube 48 = .ok (.invokespecial 285, 3) := by decide +kernel
theorem dX9_tube_51 : decode cX9_tube 51 = .ok (.putfield 144, 3) := by decide +kernel
theorem dX9_tube_54 : decode cX9_tube 54 = .ok (.aload_n 0, 1) := by decide +kernel
theorem dX9_tube_55 : decode cX9_tube 55 = .ok (.iconst 0, 1) := by decide +kernel
theorem dX9_tube_56 : decode cX9_tube 56 = .ok (.putfield 68, 3) := by decide +kernel
theorem dX9_tube_59 : decode cX9_tube 59 = .ok (.aload_n 0, 1) := by decide +kernel
theorem dX9_tube_60 : decode cX9_tube 60 = .ok (.invokevirtual 104, 3) := by decide +kernel
theorem dX9_tube_63 : decode cX9_tube 63 = .ok (.aload_n 0, 1) := by decide +kernel
theorem dX9_tube_64 : decode cX9_tube 64 = .ok (.invokevirtual 286, 3) := by decide +kernel
theorem dX9_tube_67 : decode cX9_tube 67 = .ok (.aload_n 0, 1) := by decide +kernel
theorem dX9_tube_68 : decode cX9_tube 68 = .ok (.getfield 94, 3) := by decide +kernel
theorem dX9_tube_71 : decode cX9_tube 71 = .ok (.ifCond .le 18, 3) := by decide +kernel
theorem dX9_tube_74 : decode cX9_tube 74 = .ok (.aload_n 0, 1) := by decide +kernel
theorem dX9_tube_75 : decode cX9_tube 75 = .ok (.iconst 4, 1) := by decide +kernel
theorem dX9_tube_76 : decode cX9_tube 76 = .ok (.putfield 39, 3) := by decide +kernel
theorem dX9_tube_79 : decode cX9_tube 79 = .ok (.aload_n 0, 1) := by decide +kernel
theorem dX9_tube_80 : decode cX9_tube 80 = .ok (.aload_n 0, 1) := by decide +kernel
theorem dX9_tube_81 : decode cX9_tube 81 = .ok (.getfield 97, 3) := by decide +kernel
theorem dX9_tube_84 : decode cX9_tube 84 = .ok (.putfield 9, 3) := by decide +kernel
theorem dX9_tube_87 : decode cX9_tube 87 = .ok (.iconst (-1), 1) := by decide +kernel
theorem dX9_tube_88 : decode cX9_tube 88 = .ok (.ireturn, 1) := by decide +kernel
theorem dX9_tube_89 : decode cX9_tube 89 = .ok (.aload_n 0, 1) := by decide +kernel
theorem dX9_tube_90 : decode cX9_tube 90 = .ok (.aload_n 0, 1) := by decide +kernel
theorem dX9_tube_91 : decode cX9_tube 91 = .ok (.getfield 144, 3) := by decide +kernel
theorem dX9_tube_94 : decode cX9_tube 94 = .ok (.putfield 289, 3) := by decide +kernel
theorem dX9_tube_97 : decode cX9_tube 97 = .ok (.iconst 0, 1) := by decide +kernel
theorem dX9_tube_98 : decode cX9_tube 98 = .ok (.istore_n 2, 1) := by decide +kernel
theorem dX9_tube_99 : decode cX9_tube 99 = .ok (.iload_n 2, 1) := by decide +kernel
theorem dX9_tube_100 : decode cX9_tube 100 = .ok (.bipush 15, 2) := by decide +kernel
theorem dX9_tube_102 : decode cX9_tube 102 = .ok (.if_icmp .ge 16, 3) := by decide +kernel
theorem dX9_tube_105 : decode cX9_tube 105 = .ok (.aload_n 0, 1) := by decide +kernel
theorem dX9_tube_106 : decode cX9_tube 106 = .ok (.getfield 17, 3) := by decide +kernel
theorem dX9_tube_109 : decode cX9_tube 109 = .ok (.iload_n 2, 1) := by decide +kernel
theorem dX9_tube_110 : decode cX9_tube 110 = .ok (.iconst 0, 1) := by decide +kernel
theorem dX9_tube_111 : decode cX9_tube 111 = .ok (.iastore, 1) := by decide +kernel
theorem dX9_tube_112 : decode cX9_tube 112 = .ok (.iinc 2 1, 3) := by decide +kernel
theorem dX9_tube_115 : decode cX9_tube 115 = .ok (.goto (-16), 3) := by decide +kernel
theorem dX9_tube_118 : decode cX9_tube 118 = .ok (.iconst 0, 1) := by decide +kernel
theorem dX9_tube_119 : decode cX9_tube 119 = .ok (.istore_n 2, 1) := by decide +kernel
theorem dX9_tube_120 : decode cX9_tube 120 = .ok (.iload_n 2, 1) := by decide +kernel
theorem dX9_tube_121 : decode cX9_tube 121 = .ok (.aload_n 0, 1) := by decide +kernel
theorem dX9_tube_122 : decode cX9_tube 122 = .ok (.getfield 289, 3) := by decide +kernel
theorem dX9_tube_125 : decode cX9_tube 125 = .ok (.getfield 180, 3) := by decide +kernel
theorem dX9_tube_128 : decode cX9_tube 128 = .ok (.if_icmp .ge 26, 3) := by decide +kernel
theorem dX9_tube_131 : decode cX9_tube 131 = .ok (.aload_n 0, 1) := by decide +kernel
theorem dX9_tube_132 : decode cX9_tube 132 = .ok (.getfield 17, 3) := by decide +kernel
theorem dX9_tube_135 : decode cX9_tube 135 = .ok (.iconst 0, 1) := by decide +kernel
theorem dX9_tube_136 : decode cX9_tube 136 = .ok (.iload_n 2, 1) := by decide +kernel
theorem dX9_tube_137 : decode cX9_tube 137 = .ok (.iadd, 1) := by decide +kernel
theorem dX9_tube_138 : decode cX9_tube 138 = .ok (.aload_n 0, 1) := by decide +kernel
theorem dX9_tube_139 : decode cX9_tube 139 = .ok (.getfield 289, 3) := by decide +kernel
theorem dX9_tube_142 : decode cX9_tube 142 = .ok (.getfield 238, 3) := by decide +kernel
theorem dX9_tube_145 : decode cX9_tube 145 = .ok (.iload_n 2, 1) := by decide +kernel
theorem dX9_tube_146 : decode cX9_tube 146 = .ok (.iaload, 1) := by decide +kernel
theorem dX9_tube_147 : decode cX9_tube 147 = .ok (.iastore, 1) := by decide +kernel
theorem dX9_tube_148 : decode cX9_tube 148 = .ok (.iinc 2 1, 3) := by decide +kernel
theorem dX9_tube_151 : decode cX9_tube 151 = .ok (.goto (-31), 3) := by decide +kernel
theorem dX9_tube_154 : decode cX9_tube 154 = .ok (.iconst 0, 1) := by decide +kernel
theorem dX9_tube_155 : decode cX9_tube 155 = .ok (.istore_n 2, 1) := by decide +kernel
theorem dX9_tube_156 : decode cX9_tube 156 = .ok (.iload_n 2, 1) := by decide +kernel
theorem dX9_tube_157 : decode cX9_tube 157 = .ok (.aload_n 0, 1) := by decide +kernel
theorem dX9_tube_158 : decode cX9_tube 158 = .ok (.getfield 289, 3) := by decide +kernel
theorem dX9_tube_161 : decode cX9_tube 161 = .ok (.getfield 272, 3) := by decide +kernel
theorem dX9_tube_164 : decode cX9_tube 164 = .ok (.if_icmp .ge 39, 3) := by decide +kernel
theorem dX9_tube_167 : decode cX9_tube 167 = .ok (.aload_n 0, 1) := by decide +kernel
theorem dX9_tube_168 : decode cX9_tube 168 = .ok (.getfield 17, 3) := by decide +kernel
theorem dX9_tube_171 : decode cX9_tube 171 = .ok (.bipush 6, 2) := by decide +kernel
theorem dX9_tube_173 : decode cX9_tube 173 = .ok (.iload_n 2, 1) := by decide +kernel
theorem dX9_tube_174 : decode cX9_tube 174 = .ok (.iadd, 1) := by decide +kernel
theorem dX9_tube_175 : decode cX9_tube 175 = .ok (.aload_n 0, 1) := by decide +kernel
theorem dX9_tube_176 : decode cX9_tube 176 = .ok (.getfield 289, 3) := by decide +kernel
theorem dX9_tube_179 : decode cX9_tube 179 = .ok (.getfield 276, 3) := by decide +kernel
theorem dX9_tube_182 : decode cX9_tube 182 = .ok (.iload_n 2, 1) := by decide +kernel
theorem dX9_tube_183 : decode cX9_tube 183 = .ok (.iaload, 1) := by decide +kernel
theorem dX9_tube_184 : decode cX9_tube 184 = .ok (.aload_n 0, 1) := by decide +kernel
theorem dX9_tube_185 : decode cX9_tube 185 = .ok (.getfield 289, 3) := by decide +kernel
theorem dX9_tube_188 : decode cX9_tube 188 = .ok (.getfield 279, 3) := by decide +kernel
theorem dX9_tube_191 : decode cX9_tube 191 = .ok (.iload_n 2, 1) := by decide +kernel
theorem dX9_tube_192 : decode cX9_tube 192 = .ok (.iaload, 1) := by decide +kernel
theorem dX9_tube_193 : decode cX9_tube 193 = .ok (.invokestatic 291, 3) := by decide +kernel
theorem dX9_tube_196 : decode cX9_tube 196 = .ok (.iastore, 1) := by decide +kernel
theorem dX9_tube_197 : decode cX9_tube 197 = .ok (.iinc 2 1, 3) := by decide +kernel
theorem dX9_tube_200 : decode cX9_tube 200 = .ok (.goto (-44), 3) := by decide +kernel
theorem dX9_tube_203 : decode cX9_tube 203 = .ok (.aload_n 0, 1) := by decide +kernel
theorem dX9_tube_204 : decode cX9_tube 204 = .ok (.iconst 0, 1) := by decide +kernel
theorem dX9_tube_205 : decode cX9_tube 205 = .ok (.putfield 294, 3) := by decide +kernel
theorem dX9_tube_208 : decode cX9_tube 208 = .ok (.aload_n 0, 1) := by decide +kernel
theorem dX9_tube_209 : decode cX9_tube 209 = .ok (.iconst 0, 1) := by decide +kernel
theorem dX9_tube_210 : decode cX9_tube 210 = .ok (.putfield 297, 3) := by decide +kernel
theorem dX9_tube_213 : decode cX9_tube 213 = .ok (.aload_n 0, 1) := by decide +kernel
theorem dX9_tube_214 : decode cX9_tube 214 = .ok (.aload_n 0, 1) := by decide +kernel
theorem dX9_tube_215 : decode cX9_tube 215 = .ok (.getfield 289, 3) := by decide +kernel
theorem dX9_tube_218 : decode cX9_tube 218 = .ok (.getfield 180, 3) := by decide +kernel
theorem dX9_tube_221 : decode cX9_tube 221 = .ok (.invokevirtual 46, 3) := by decide +kernel
theorem dX9_tube_224 : decode cX9_tube 224 = .ok (.ireturn, 1) := by decide +kernel
def B_X9_tube_0 (X : Nat × (Nat → Int32)) (J : Nat → zCf) (R : zRt) : zCf := oALOAD 0 (oPI (zj (0)) (oPUTI 9 0 (oILOAD 1 (oIFLT (J 17) (oILOAD 1 (oALOAD 0 (oGETI 9 6 (oICLE (J 23) (J 17)))))))))
set_option maxRecDepth 100000 in
theorem vb_X9_tube_0 {X : Nat × (Nat → Int32)} {R : zRt} : ∀ ls st h, B_X9_tube_0 X (fun t => zV X M_X9_tube (zQm M_X9_tube R) (if t ≤ 48 then 0 else 14) (if t ≤ 48 then 0 else 109) t) R ls st h → zV X M_X9_tube (zQm M_X9_tube R) 0 0 0 ls st h := sd_aload_n dX9_tube_0 rfl (sd_iconst dX9_tube_1 rfl (sd_puti dX9_tube_2 zCl9 (Nat.le_of_ble_eq_true rfl) lk_RX9_36 rfl (Or.inl rfl) (sd_iload_n dX9_tube_5 rfl (sd_iflt dX9_tube_6 rfl (fun _ _ _ h => h) (sd_iload_n dX9_tube_9 rfl (sd_aload_n dX9_tube_10 rfl (sd_geti dX9_tube_11 zCl9 (Nat.le_of_ble_eq_true rfl) lk_RX9_282 (Or.inl rfl) (sd_icle dX9_tube_14 rfl (fun _ _ _ h => h) (fun _ _ _ h => h)))))))))
def B_X9_tube_17 (X : Nat × (Nat → Int32)) (J : Nat → zCf) (R : zRt) : zCf := oALOAD 0 (oPI (zj (2)) (oINV1 X M_X9_refused 9 (oIRET R)))
set_option maxRecDepth 100000 in
theorem vb_X9_tube_17 {X : Nat × (Nat → Int32)} {R : zRt} : ∀ ls st h, B_X9_tube_17 X (fun t => zV X M_X9_tube (zQm M_X9_tube R) (if t ≤ 48 then 0 else 14) (if t ≤ 48 then 0 else 109) t) R ls st h → zV X M_X9_tube (zQm M_X9_tube R) 0 0 17 ls st h := sd_aload_n dX9_tube_17 rfl (sd_iconst dX9_tube_18 rfl (sd_inv1 dX9_tube_19 rfl mv_X9_refused na_X9_refused ml_RX9_42 ⟨⟨Nat.le_of_ble_eq_true rfl, Nat.le_of_ble_eq_true rfl⟩, ⟨Nat.le_of_ble_eq_true rfl, Nat.le_of_ble_eq_true rfl⟩⟩ (sd_iret dX9_tube_22 rfl (Nat.le_of_ble_eq_true rfl) (Nat.le_of_ble_eq_true rfl))))
def B_X9_tube_23 (X : Nat × (Nat → Int32)) (J : Nat → zCf) (R : zRt) : zCf := oALOAD 0 (oILOAD 1 (oPUTI 9 7 (oALOAD 0 (oPI (zj (0)) (oPUTI 9 6 (oALOAD 0 (oPI (zj (0)) (oPUTI 9 8 (oALOAD 0 (oPI (zj (0)) (oPUTI 9 12 (oALOAD 0 (oNEW 8 (oDUP (oINI X M_X8_init (oPUTR 9 4 (oALOAD 0 (oPI (zj (0)) (oPUTI 9 9 (oALOAD 0 (oINV0 X M_X9_goesOn 9 (oALOAD 0 (oINV0 X M_X9_readAll 9 (oALOAD 0 (oGETI 9 12 (oIFLE (J 89) (oALOAD 0 (oPI (zj (4)) (oPUTI 9 1 (oALOAD 0 (oALOAD 0 (oGETI 9 13 (oPUTI 9 2 (oPI (zj (-1)) (oIRET R)))))))))))))))))))))))))))))))))))
set_option maxRecDepth 100000 in
theorem vb_X9_tube_23 {X : Nat × (Nat → Int32)} {R : zRt} : ∀ ls st h, B_X9_tube_23 X (fun t => zV X M_X9_tube (zQm M_X9_tube R) (if t ≤ 48 then 0 else 14) (if t ≤ 48 then 0 else 109) t) R ls st h → zV X M_X9_tube (zQm M_X9_tube R) 0 0 23 ls st h := sd_aload_n dX9_tube_23 rfl (sd_iload_n dX9_tube_24 rfl (sd_puti dX9_tube_25 zCl9 (Nat.le_of_ble_eq_true rfl) lk_RX9_53 rfl (Or.inl rfl) (sd_aload_n dX9_tube_28 rfl (sd_iconst dX9_tube_29 rfl (sd_puti dX9_tube_30 zCl9 (Nat.le_of_ble_eq_true rfl) lk_RX9_282 rfl (Or.inl rfl) (sd_aload_n dX9_tube_33 rfl (sd_iconst dX9_tube_34 rfl (sd_puti dX9_tube_35 zCl9 (Nat.le_of_ble_eq_true rfl) lk_RX9_71 rfl (Or.inl rfl) (sd_aload_n dX9_tube_38 rfl (sd_iconst dX9_tube_39 rfl (sd_puti dX9_tube_40 zCl9 (Nat.le_of_ble_eq_true rfl) lk_RX9_94 rfl (Or.inl rfl) (sd_aload_n dX9_tube_43 rfl (sd_new dX9_tube_44 zCl8 (by decide) (zmt (zt5 (i := 192) rfl) rfl) (zmt (zt5 (i := 193) rfl) rfl) (zmt (zt1 (i := 11) rfl) rfl) (Nat.le_of_ble_eq_true rfl) (Nat.le_of_ble_eq_true rfl) (sd_dup dX9_tube_47 (sd_ini dX9_tube_48 mi_X8_init na_X8_init ml_RX9_285 ⟨⟨Nat.le_of_ble_eq_true rfl, Nat.le_of_ble_eq_true rfl⟩, ⟨Nat.le_of_ble_eq_true rfl, Nat.le_of_ble_eq_true rfl⟩⟩ (sd_putr dX9_tube_51 zCl9 (Nat.le_of_ble_eq_true rfl) lk_RX9_144 (Or.inl ⟨_, rfl⟩) (Or.inl rfl) (sd_aload_n dX9_tube_54 rfl (sd_iconst dX9_tube_55 rfl (sd_puti dX9_tube_56 zCl9 (Nat.le_of_ble_eq_true rfl) lk_RX9_68 rfl (Or.inl rfl) (sd_aload_n dX9_tube_59 rfl (sd_inv0 dX9_tube_60 rfl mv_X9_goesOn na_X9_goesOn ml_RX9_104 ⟨⟨Nat.le_of_ble_eq_true rfl, Nat.le_of_ble_eq_true rfl⟩, ⟨Nat.le_of_ble_eq_true rfl, Nat.le_of_ble_eq_true rfl⟩⟩ (sd_aload_n dX9_tube_63 rfl (sd_inv0 dX9_tube_64 rfl mv_X9_readAll na_X9_readAll ml_RX9_286 ⟨⟨Nat.le_of_ble_eq_true rfl, Nat.le_of_ble_eq_true rfl⟩, ⟨Nat.le_of_ble_eq_true rfl, Nat.le_of_ble_eq_true rfl⟩⟩ (sd_aload_n dX9_tube_67 rfl (sd_geti dX9_tube_68 zCl9 (Nat.le_of_ble_eq_true rfl) lk_RX9_94 (Or.inl rfl) (sd_ifle dX9_tube_71 rfl (fun _ _ _ h => h) (sd_aload_n dX9_tube_74 rfl (sd_iconst dX9_tube_75 rfl (sd_puti dX9_tube_76 zCl9 (Nat.le_of_ble_eq_true rfl) lk_RX9_39 rfl (Or.inl rfl) (sd_aload_n dX9_tube_79 rfl (sd_aload_n dX9_tube_80 rfl (sd_geti dX9_tube_81 zCl9 (Nat.le_of_ble_eq_true rfl) lk_RX9_97 (Or.inl rfl) (sd_puti dX9_tube_84 zCl9 (Nat.le_of_ble_eq_true rfl) lk_RX9_9 rfl (Or.inl rfl) (sd_iconst dX9_tube_87 rfl (sd_iret dX9_tube_88 rfl (Nat.le_of_ble_eq_true rfl) (Nat.le_of_ble_eq_true rfl))))))))))))))))))))))))))))))))))))
def B_X9_tube_89 (X : Nat × (Nat → Int32)) (J : Nat → zCf) (R : zRt) : zCf := oALOAD 0 (oALOAD 0 (oGETR 9 4 (oPUTR 9 3 (oPI (zj (0)) (oISTORE 1 2 (J 99))))))
set_option maxRecDepth 100000 in
theorem vb_X9_tube_89 {X : Nat × (Nat → Int32)} {R : zRt} : ∀ ls st h, B_X9_tube_89 X (fun t => zV X M_X9_tube (zQm M_X9_tube R) (if t ≤ 48 then 0 else 14) (if t ≤ 48 then 0 else 109) t) R ls st h → zV X M_X9_tube (zQm M_X9_tube R) 14 109 89 ls st h := sd_aload_n dX9_tube_89 rfl (sd_aload_n dX9_tube_90 rfl (sd_getr dX9_tube_91 zCl9 (Nat.le_of_ble_eq_true rfl) lk_RX9_144 (Or.inl ⟨_, rfl⟩) (sd_putr dX9_tube_94 zCl9 (Nat.le_of_ble_eq_true rfl) lk_RX9_289 (Or.inl ⟨_, rfl⟩) (Or.inl rfl) (sd_iconst dX9_tube_97 rfl (sd_istore_n dX9_tube_98 rfl (Nat.le_of_ble_eq_true rfl) (Or.inl rfl) (fun _ _ _ h => h))))))
def B_X9_tube_99 (X : Nat × (Nat → Int32)) (J : Nat → zCf) (R : zRt) : zCf := oILOAD 2 (oPI (zj (15)) (oICGE (J 118) (oALOAD 0 (oGETR 9 15 (oILOAD 2 (oPI (zj (0)) (oIAST (oIINC 1 2 (zj (1)) (J 99)))))))))
set_option maxRecDepth 100000 in
theorem vb_X9_tube_99 {X : Nat × (Nat → Int32)} {R : zRt} : ∀ ls st h, B_X9_tube_99 X (fun t => zV X M_X9_tube (zQm M_X9_tube R) (if t ≤ 48 then 0 else 14) (if t ≤ 48 then 0 else 109) t) R ls st h → zV X M_X9_tube (zQm M_X9_tube R) 14 109 99 ls st h := sd_iload_n dX9_tube_99 rfl (sd_bipush dX9_tube_100 rfl (sd_icge dX9_tube_102 rfl (fun _ _ _ h => h) (sd_aload_n dX9_tube_105 rfl (sd_getr dX9_tube_106 zCl9 (Nat.le_of_ble_eq_true rfl) lk_RX9_17 (Or.inr ⟨_, rfl⟩) (sd_iload_n dX9_tube_109 rfl (sd_iconst dX9_tube_110 rfl (sd_iast dX9_tube_111 (sd_iinc dX9_tube_112 rfl (Nat.le_of_ble_eq_true rfl) (Or.inl rfl) (sd_goto dX9_tube_115 rfl (fun _ _ _ h => h))))))))))
def B_X9_tube_118 (X : Nat × (Nat → Int32)) (J : Nat → zCf) (R : zRt) : zCf := oPI (zj (0)) (oISTORE 1 2 (J 120))
set_option maxRecDepth 100000 in
theorem vb_X9_tube_118 {X : Nat × (Nat → Int32)} {R : zRt} : ∀ ls st h, B_X9_tube_118 X (fun t => zV X M_X9_tube (zQm M_X9_tube R) (if t ≤ 48 then 0 else 14) (if t ≤ 48 then 0 else 109) t) R ls st h → zV X M_X9_tube (zQm M_X9_tube R) 14 109 118 ls st h := sd_iconst dX9_tube_118 rfl (sd_istore_n dX9_tube_119 rfl (Nat.le_of_ble_eq_true rfl) (Or.inl rfl) (fun _ _ _ h => h))
def B_X9_tube_120 (X : Nat × (Nat → Int32)) (J : Nat → zCf) (R : zRt) : zCf := oILOAD 2 (oALOAD 0 (oGETR 9 3 (oGETI 8 1 (oICGE (J 154) (oALOAD 0 (oGETR 9 15 (oPI (zj (0)) (oILOAD 2 (oIADD (oALOAD 0 (oGETR 9 3 (oGETR 8 9 (oILOAD 2 (oIALD (oIAST (oIINC 1 2 (zj (1)) (J 120)))))))))))))))))
set_option maxRecDepth 100000 in
theorem vb_X9_tube_120 {X : Nat × (Nat → Int32)} {R : zRt} : ∀ ls st h, B_X9_tube_120 X (fun t => zV X M_X9_tube (zQm M_X9_tube R) (if t ≤ 48 then 0 else 14) (if t ≤ 48 then 0 else 109) t) R ls st h → zV X M_X9_tube (zQm M_X9_tube R) 14 109 120 ls st h := sd_iload_n dX9_tube_120 rfl (sd_aload_n dX9_tube_121 rfl (sd_getr dX9_tube_122 zCl9 (Nat.le_of_ble_eq_true rfl) lk_RX9_289 (Or.inl ⟨_, rfl⟩) (sd_geti dX9_tube_125 zCl8 (Nat.le_of_ble_eq_true rfl) lk_RX9_180 (Or.inl rfl) (sd_icge dX9_tube_128 rfl (fun _ _ _ h => h) (sd_aload_n dX9_tube_131 rfl (sd_getr dX9_tube_132 zCl9 (Nat.le_of_ble_eq_true rfl) lk_RX9_17 (Or.inr ⟨_, rfl⟩) (sd_iconst dX9_tube_135 rfl (sd_iload_n dX9_tube_136 rfl (sd_iadd dX9_tube_137 (sd_aload_n dX9_tube_138 rfl (sd_getr dX9_tube_139 zCl9 (Nat.le_of_ble_eq_true rfl) lk_RX9_289 (Or.inl ⟨_, rfl⟩) (sd_getr dX9_tube_142 zCl8 (Nat.le_of_ble_eq_true rfl) lk_RX9_238 (Or.inr ⟨_, rfl⟩) (sd_iload_n dX9_tube_145 rfl (sd_iald dX9_tube_146 (sd_iast dX9_tube_147 (sd_iinc dX9_tube_148 rfl (Nat.le_of_ble_eq_true rfl) (Or.inl rfl) (sd_goto dX9_tube_151 rfl (fun _ _ _ h => h))))))))))))))))))
def B_X9_tube_154 (X : Nat × (Nat → Int32)) (J : Nat → zCf) (R : zRt) : zCf := oPI (zj (0)) (oISTORE 1 2 (J 156))
set_option maxRecDepth 100000 in
theorem vb_X9_tube_154 {X : Nat × (Nat → Int32)} {R : zRt} : ∀ ls st h, B_X9_tube_154 X (fun t => zV X M_X9_tube (zQm M_X9_tube R) (if t ≤ 48 then 0 else 14) (if t ≤ 48 then 0 else 109) t) R ls st h → zV X M_X9_tube (zQm M_X9_tube R) 14 109 154 ls st h := sd_iconst dX9_tube_154 rfl (sd_istore_n dX9_tube_155 rfl (Nat.le_of_ble_eq_true rfl) (Or.inl rfl) (fun _ _ _ h => h))
def B_X9_tube_156 (X : Nat × (Nat → Int32)) (J : Nat → zCf) (R : zRt) : zCf := oILOAD 2 (oALOAD 0 (oGETR 9 3 (oGETI 8 6 (oICGE (J 203) (oALOAD 0 (oGETR 9 15 (oPI (zj (6)) (oILOAD 2 (oIADD (oALOAD 0 (oGETR 9 3 (oGETR 8 15 (oILOAD 2 (oIALD (oALOAD 0 (oGETR 9 3 (oGETR 8 16 (oILOAD 2 (oIALD (oINS2 X M_X9_placeOf (oIAST (oIINC 1 2 (zj (1)) (J 156)))))))))))))))))))))))
set_option maxRecDepth 100000 in
theorem vb_X9_tube_156 {X : Nat × (Nat → Int32)} {R : zRt} : ∀ ls st h, B_X9_tube_156 X (fun t => zV X M_X9_tube (zQm M_X9_tube R) (if t ≤ 48 then 0 else 14) (if t ≤ 48 then 0 else 109) t) R ls st h → zV X M_X9_tube (zQm M_X9_tube R) 14 109 156 ls st h := sd_iload_n dX9_tube_156 rfl (sd_aload_n dX9_tube_157 rfl (sd_getr dX9_tube_158 zCl9 (Nat.le_of_ble_eq_true rfl) lk_RX9_289 (Or.inl ⟨_, rfl⟩) (sd_geti dX9_tube_161 zCl8 (Nat.le_of_ble_eq_true rfl) lk_RX9_272 (Or.inl rfl) (sd_icge dX9_tube_164 rfl (fun _ _ _ h => h) (sd_aload_n dX9_tube_167 rfl (sd_getr dX9_tube_168 zCl9 (Nat.le_of_ble_eq_true rfl) lk_RX9_17 (Or.inr ⟨_, rfl⟩) (sd_bipush dX9_tube_171 rfl (sd_iload_n dX9_tube_173 rfl (sd_iadd dX9_tube_174 (sd_aload_n dX9_tube_175 rfl (sd_getr dX9_tube_176 zCl9 (Nat.le_of_ble_eq_true rfl) lk_RX9_289 (Or.inl ⟨_, rfl⟩) (sd_getr dX9_tube_179 zCl8 (Nat.le_of_ble_eq_true rfl) lk_RX9_276 (Or.inr ⟨_, rfl⟩) (sd_iload_n dX9_tube_182 rfl (sd_iald dX9_tube_183 (sd_aload_n dX9_tube_184 rfl (sd_getr dX9_tube_185 zCl9 (Nat.le_of_ble_eq_true rfl) lk_RX9_289 (Or.inl ⟨_, rfl⟩) (sd_getr dX9_tube_188 zCl8 (Nat.le_of_ble_eq_true rfl) lk_RX9_279 (Or.inr ⟨_, rfl⟩) (sd_iload_n dX9_tube_191 rfl (sd_iald dX9_tube_192 (sd_ins2 dX9_tube_193 ms_X9_placeOf na_X9_placeOf ml_RX9_291 ⟨⟨Nat.le_of_ble_eq_true rfl, Nat.le_of_ble_eq_true rfl⟩, ⟨Nat.le_of_ble_eq_true rfl, Nat.le_of_ble_eq_true rfl⟩⟩ (sd_iast dX9_tube_196 (sd_iinc dX9_tube_197 rfl (Nat.le_of_ble_eq_true rfl) (Or.inl rfl) (sd_goto dX9_tube_200 rfl (fun _ _ _ h => h))))))))))))))))))))))))
def B_X9_tube_203 (X : Nat × (Nat → Int32)) (J : Nat → zCf) (R : zRt) : zCf := oALOAD 0 (oPI (zj (0)) (oPUTI 9 19 (oALOAD 0 (oPI (zj (0)) (oPUTI 9 20 (oALOAD 0 (oALOAD 0 (oGETR 9 3 (oGETI 8 1 (oINV1 X M_X9_good 9 (oIRET R)))))))))))
set_option maxRecDepth 100000 in
theorem vb_X9_tube_203 {X : Nat × (Nat → Int32)} {R : zRt} : ∀ ls st h, B_X9_tube_203 X (fun t => zV X M_X9_tube (zQm M_X9_tube R) (if t ≤ 48 then 0 else 14) (if t ≤ 48 then 0 else 109) t) R ls st h → zV X M_X9_tube (zQm M_X9_tube R) 14 109 203 ls st h := sd_aload_n dX9_tube_203 rfl (sd_iconst dX9_tube_204 rfl (sd_puti dX9_tube_205 zCl9 (Nat.le_of_ble_eq_true rfl) lk_RX9_294 rfl (Or.inl rfl) (sd_aload_n dX9_tube_208 rfl (sd_iconst dX9_tube_209 rfl (sd_puti dX9_tube_210 zCl9 (Nat.le_of_ble_eq_true rfl) lk_RX9_297 rfl (Or.inl rfl) (sd_aload_n dX9_tube_213 rfl (sd_aload_n dX9_tube_214 rfl (sd_getr dX9_tube_215 zCl9 (Nat.le_of_ble_eq_true rfl) lk_RX9_289 (Or.inl ⟨_, rfl⟩) (sd_geti dX9_tube_218 zCl8 (Nat.le_of_ble_eq_true rfl) lk_RX9_180 (Or.inl rfl) (sd_inv1 dX9_tube_221 rfl mv_X9_good na_X9_good ml_RX9_46 ⟨⟨Nat.le_of_ble_eq_true rfl, Nat.le_of_ble_eq_true rfl⟩, ⟨Nat.le_of_ble_eq_true rfl, Nat.le_of_ble_eq_true rfl⟩⟩ (sd_iret dX9_tube_224 rfl (Nat.le_of_ble_eq_true rfl) (Nat.le_of_ble_eq_true rfl))))))))))))
theorem dX9_fault_0 : decode cX9_fault 0 = .ok (.aload_n 0, 1) := by decide +kernel
theorem dX9_fault_1 : decode cX9_fault 1 = .ok (.iconst 0, 1) := by decide +kernel
theorem dX9_fault_2 : decode cX9_fault 2 = .ok (.putfield 36, 3) := by decide +kernel
theorem dX9_fault_5 : decode cX9_fault 5 = .ok (.aload_n 0, 1) := by decide +kernel
theorem dX9_fault_6 : decode cX9_fault 6 = .ok (.getfield 94, 3) := by decide +kernel
theorem dX9_fault_9 : decode cX9_fault 9 = .ok (.ireturn, 1) := by decide +kernel
def B_X9_fault_0 (X : Nat × (Nat → Int32)) (J : Nat → zCf) (R : zRt) : zCf := oALOAD 0 (oPI (zj (0)) (oPUTI 9 0 (oALOAD 0 (oGETI 9 12 (oIRET R)))))
set_option maxRecDepth 100000 in
theorem vb_X9_fault_0 {X : Nat × (Nat → Int32)} {R : zRt} : ∀ ls st h, B_X9_fault_0 X (zV X M_X9_fault (zQm M_X9_fault R) 0 0) R ls st h → zV X M_X9_fault (zQm M_X9_fault R) 0 0 0 ls st h := sd_aload_n dX9_fault_0 rfl (sd_iconst dX9_fault_1 rfl (sd_puti dX9_fault_2 zCl9 (Nat.le_of_ble_eq_true rfl) lk_RX9_36 rfl (Or.inl rfl) (sd_aload_n dX9_fault_5 rfl (sd_geti dX9_fault_6 zCl9 (Nat.le_of_ble_eq_true rfl) lk_RX9_94 (Or.inl rfl) (sd_iret dX9_fault_9 rfl (Nat.le_of_ble_eq_true rfl) (Nat.le_of_ble_eq_true rfl))))))
theorem dX9_where_0 : decode cX9_where 0 = .ok (.aload_n 0, 1) := by decide +kernel
theorem dX9_where_1 : decode cX9_where 1 = .ok (.iconst 0, 1) := by decide +kernel
theorem dX9_where_2 : decode cX9_where 2 = .ok (.putfield 36, 3) := by decide +kernel
theorem dX9_where_5 : decode cX9_where 5 = .ok (.aload_n 0, 1) := by decide +kernel
theorem dX9_where_6 : decode cX9_where 6 = .ok (.getfield 9, 3) := by decide +kernel
theorem dX9_where_9 : decode cX9_where 9 = .ok (.ireturn, 1) := by decide +kernel
def B_X9_where_0 (X : Nat × (Nat → Int32)) (J : Nat → zCf) (R : zRt) : zCf := oALOAD 0 (oPI (zj (0)) (oPUTI 9 0 (oALOAD 0 (oGETI 9 2 (oIRET R)))))
set_option maxRecDepth 100000 in
theorem vb_X9_where_0 {X : Nat × (Nat → Int32)} {R : zRt} : ∀ ls st h, B_X9_where_0 X (zV X M_X9_where (zQm M_X9_where R) 0 0) R ls st h → zV X M_X9_where (zQm M_X9_where R) 0 0 0 ls st h := sd_aload_n dX9_where_0 rfl (sd_iconst dX9_where_1 rfl (sd_puti dX9_where_2 zCl9 (Nat.le_of_ble_eq_true rfl) lk_RX9_36 rfl (Or.inl rfl) (sd_aload_n dX9_where_5 rfl (sd_geti dX9_where_6 zCl9 (Nat.le_of_ble_eq_true rfl) lk_RX9_9 (Or.inl rfl) (sd_iret dX9_where_9 rfl (Nat.le_of_ble_eq_true rfl) (Nat.le_of_ble_eq_true rfl))))))
theorem dX9_tries_0 : decode cX9_tries 0 = .ok (.iconst 0, 1) := by decide +kernel
theorem dX9_tries_1 : decode cX9_tries 1 = .ok (.istore_n 1, 1) := by decide +kernel
theorem dX9_tries_2 : decode cX9_tries 2 = .ok (.iload_n 1, 1) := by decide +kernel
theorem dX9_tries_3 : decode cX9_tries 3 = .ok (.bipush 15, 2) := by decide +kernel
theorem dX9_tries_5 : decode cX9_tries 5 = .ok (.if_icmp .ge 21, 3) := by decide +kernel
theorem dX9_tries_8 : decode cX9_tries 8 = .ok (.aload_n 0, 1) := by decide +kernel
theorem dX9_tries_9 : decode cX9_tries 9 = .ok (.getfield 21, 3) := by decide +kernel
theorem dX9_tries_12 : decode cX9_tries 12 = .ok (.iload_n 1, 1) := by decide +kernel
theorem dX9_tries_13 : decode cX9_tries 13 = .ok (.aload_n 0, 1) := by decide +kernel
theorem dX9_tries_14 : decode cX9_tries 14 = .ok (.getfield 17, 3) := by decide +kernel
theorem dX9_tries_17 : decode cX9_tries 17 = .ok (.iload_n 1, 1) := by decide +kernel
theorem dX9_tries_18 : decode cX9_tries 18 = .ok (.iaload, 1) := by decide +kernel
theorem dX9_tries_19 : decode cX9_tries 19 = .ok (.iastore, 1) := by decide +kernel
theorem dX9_tries_20 : decode cX9_tries 20 = .ok (.iinc 1 1, 3) := by decide +kernel
theorem dX9_tries_23 : decode cX9_tries 23 = .ok (.goto (-21), 3) := by decide +kernel
theorem dX9_tries_26 : decode cX9_tries 26 = .ok (.return_, 1) := by decide +kernel
def B_X9_tries_0 (X : Nat × (Nat → Int32)) (J : Nat → zCf) (R : zRt) : zCf := oPI (zj (0)) (oISTORE 0 1 (J 2))
set_option maxRecDepth 100000 in
theorem vb_X9_tries_0 {X : Nat × (Nat → Int32)} {R : zRt} : ∀ ls st h, B_X9_tries_0 X (zV X M_X9_tries (zQm M_X9_tries R) 0 0) R ls st h → zV X M_X9_tries (zQm M_X9_tries R) 0 0 0 ls st h := sd_iconst dX9_tries_0 rfl (sd_istore_n dX9_tries_1 rfl (Nat.le_of_ble_eq_true rfl) (Or.inl rfl) (fun _ _ _ h => h))
def B_X9_tries_2 (X : Nat × (Nat → Int32)) (J : Nat → zCf) (R : zRt) : zCf := oILOAD 1 (oPI (zj (15)) (oICGE (J 26) (oALOAD 0 (oGETR 9 16 (oILOAD 1 (oALOAD 0 (oGETR 9 15 (oILOAD 1 (oIALD (oIAST (oIINC 0 1 (zj (1)) (J 2))))))))))))
set_option maxRecDepth 100000 in
theorem vb_X9_tries_2 {X : Nat × (Nat → Int32)} {R : zRt} : ∀ ls st h, B_X9_tries_2 X (zV X M_X9_tries (zQm M_X9_tries R) 0 0) R ls st h → zV X M_X9_tries (zQm M_X9_tries R) 0 0 2 ls st h := sd_iload_n dX9_tries_2 rfl (sd_bipush dX9_tries_3 rfl (sd_icge dX9_tries_5 rfl (fun _ _ _ h => h) (sd_aload_n dX9_tries_8 rfl (sd_getr dX9_tries_9 zCl9 (Nat.le_of_ble_eq_true rfl) lk_RX9_21 (Or.inr ⟨_, rfl⟩) (sd_iload_n dX9_tries_12 rfl (sd_aload_n dX9_tries_13 rfl (sd_getr dX9_tries_14 zCl9 (Nat.le_of_ble_eq_true rfl) lk_RX9_17 (Or.inr ⟨_, rfl⟩) (sd_iload_n dX9_tries_17 rfl (sd_iald dX9_tries_18 (sd_iast dX9_tries_19 (sd_iinc dX9_tries_20 rfl (Nat.le_of_ble_eq_true rfl) (Or.inl rfl) (sd_goto dX9_tries_23 rfl (fun _ _ _ h => h)))))))))))))
def B_X9_tries_26 (X : Nat × (Nat → Int32)) (J : Nat → zCf) (R : zRt) : zCf := oVRET R
set_option maxRecDepth 100000 in
theorem vb_X9_tries_26 {X : Nat × (Nat → Int32)} {R : zRt} : ∀ ls st h, B_X9_tries_26 X (zV X M_X9_tries (zQm M_X9_tries R) 0 0) R ls st h → zV X M_X9_tries (zQm M_X9_tries R) 0 0 26 ls st h := sd_vret dX9_tries_26 rfl (Nat.le_of_ble_eq_true rfl) (Nat.le_of_ble_eq_true rfl)
theorem dX9_isBit_0 : decode cX9_isBit 0 = .ok (.aload_n 0, 1) := by decide +kernel
theorem dX9_isBit_1 : decode cX9_isBit 1 = .ok (.getfield 289, 3) := by decide +kernel
theorem dX9_isBit_4 : decode cX9_isBit 4 = .ok (.ifnull 22, 3) := by decide +kernel
theorem dX9_isBit_7 : decode cX9_isBit 7 = .ok (.iload_n 1, 1) := by decide +kernel
theorem dX9_isBit_8 : decode cX9_isBit 8 = .ok (.ifCond .lt 18, 3) := by decide +kernel
theorem dX9_isBit_11 : decode cX9_isBit 11 = .ok (.iload_n 1, 1) := by decide +kernel
theorem dX9_isBit_12 : decode cX9_isBit 12 = .ok (.aload_n 0, 1) := by decide +kernel
theorem dX9_isBit_13 : decode cX9_isBit 13 = .ok (.getfield 289, 3) := by decide +kernel
theorem dX9_isBit_16 : decode cX9_isBit 16 = .ok (.getfield 180, 3) := by decide +kernel
theorem dX9_isBit_19 : decode cX9_isBit 19 = .ok (.if_icmp .ge 7, 3) := by decide +kernel
theorem dX9_isBit_22 : decode cX9_isBit 22 = .ok (.iconst 1, 1) := by decide +kernel
theorem dX9_isBit_23 : decode cX9_isBit 23 = .ok (.goto 4, 3) := by decide +kernel
theorem dX9_isBit_26 : decode cX9_isBit 26 = .ok (.iconst 0, 1) := by decide +kernel
theorem dX9_isBit_27 : decode cX9_isBit 27 = .ok (.ireturn, 1) := by decide +kernel
def B_X9_isBit_0 (X : Nat × (Nat → Int32)) (J : Nat → zCf) (R : zRt) : zCf := oALOAD 0 (oGETR 9 3 (oIFNULL (J 26) (oILOAD 1 (oIFLT (J 26) (oILOAD 1 (oALOAD 0 (oGETR 9 3 (oGETI 8 1 (oICGE (J 26) (oPI (zj (1)) (J 27)))))))))))
set_option maxRecDepth 100000 in
theorem vb_X9_isBit_0 {X : Nat × (Nat → Int32)} {R : zRt} : ∀ ls st h, B_X9_isBit_0 X (zV X M_X9_isBit (zQm M_X9_isBit R) 0 0) R ls st h → zV X M_X9_isBit (zQm M_X9_isBit R) 0 0 0 ls st h := sd_aload_n dX9_isBit_0 rfl (sd_getr dX9_isBit_1 zCl9 (Nat.le_of_ble_eq_true rfl) lk_RX9_289 (Or.inl ⟨_, rfl⟩) (sd_ifnull dX9_isBit_4 rfl (fun _ _ _ h => h) (sd_iload_n dX9_isBit_7 rfl (sd_iflt dX9_isBit_8 rfl (fun _ _ _ h => h) (sd_iload_n dX9_isBit_11 rfl (sd_aload_n dX9_isBit_12 rfl (sd_getr dX9_isBit_13 zCl9 (Nat.le_of_ble_eq_true rfl) lk_RX9_289 (Or.inl ⟨_, rfl⟩) (sd_geti dX9_isBit_16 zCl8 (Nat.le_of_ble_eq_true rfl) lk_RX9_180 (Or.inl rfl) (sd_icge dX9_isBit_19 rfl (fun _ _ _ h => h) (sd_iconst dX9_isBit_22 rfl (sd_goto dX9_isBit_23 rfl (fun _ _ _ h => h))))))))))))
def B_X9_isBit_26 (X : Nat × (Nat → Int32)) (J : Nat → zCf) (R : zRt) : zCf := oPI (zj (0)) (J 27)
set_option maxRecDepth 100000 in
theorem vb_X9_isBit_26 {X : Nat × (Nat → Int32)} {R : zRt} : ∀ ls st h, B_X9_isBit_26 X (zV X M_X9_isBit (zQm M_X9_isBit R) 0 0) R ls st h → zV X M_X9_isBit (zQm M_X9_isBit R) 0 0 26 ls st h := sd_iconst dX9_isBit_26 rfl (fun _ _ _ h => h)
def B_X9_isBit_27 (X : Nat × (Nat → Int32)) (J : Nat → zCf) (R : zRt) : zCf := oZRET R
set_option maxRecDepth 100000 in
theorem vb_X9_isBit_27 {X : Nat × (Nat → Int32)} {R : zRt} : ∀ ls st h, B_X9_isBit_27 X (zV X M_X9_isBit (zQm M_X9_isBit R) 0 0) R ls st h → zV X M_X9_isBit (zQm M_X9_isBit R) 0 0 27 ls st h := sd_zret dX9_isBit_27 rfl (Nat.le_of_ble_eq_true rfl) (Nat.le_of_ble_eq_true rfl)
theorem dX9_isPerson_0 : decode cX9_isPerson 0 = .ok (.aload_n 0, 1) := by decide +kernel
theorem dX9_isPerson_1 : decode cX9_isPerson 1 = .ok (.getfield 289, 3) := by decide +kernel
theorem dX9_isPerson_4 : decode cX9_isPerson 4 = .ok (.ifnull 22, 3) := by decide +kernel
theorem dX9_isPerson_7 : decode cX9_isPerson 7 = .ok (.iload_n 1, 1) := by decide +kernel
theorem dX9_isPerson_8 : decode cX9_isPerson 8 = .ok (.ifCond .lt 18, 3) := by decide +kernel
theorem dX9_isPerson_11 : decode cX9_isPerson 11 = .ok (.iload_n 1, 1) := by decide +kernel
theorem dX9_isPerson_12 : decode cX9_isPerson 12 = .ok (.aload_n 0, 1) := by decide +kernel
theorem dX9_isPerson_13 : decode cX9_isPerson 13 = .ok (.getfield 289, 3) := by decide +kernel
theorem dX9_isPerson_16 : decode cX9_isPerson 16 = .ok (.getfield 272, 3) := by decide +kernel
theorem dX9_isPerson_19 : decode cX9_isPerson 19 = .ok (.if_icmp .ge 7, 3) := by decide +kernel
theorem dX9_isPerson_22 : decode cX9_isPerson 22 = .ok (.iconst 1, 1) := by decide +kernel
theorem dX9_isPerson_23 : decode cX9_isPerson 23 = .ok (.goto 4, 3) := by decide +kernel
theorem dX9_isPerson_26 : decode cX9_isPerson 26 = .ok (.iconst 0, 1) := by decide +kernel
theorem dX9_isPerson_27 : decode cX9_isPerson 27 = .ok (.ireturn, 1) := by decide +kernel
def B_X9_isPerson_0 (X : Nat × (Nat → Int32)) (J : Nat → zCf) (R : zRt) : zCf := oALOAD 0 (oGETR 9 3 (oIFNULL (J 26) (oILOAD 1 (oIFLT (J 26) (oILOAD 1 (oALOAD 0 (oGETR 9 3 (oGETI 8 6 (oICGE (J 26) (oPI (zj (1)) (J 27)))))))))))
set_option maxRecDepth 100000 in
theorem vb_X9_isPerson_0 {X : Nat × (Nat → Int32)} {R : zRt} : ∀ ls st h, B_X9_isPerson_0 X (zV X M_X9_isPerson (zQm M_X9_isPerson R) 0 0) R ls st h → zV X M_X9_isPerson (zQm M_X9_isPerson R) 0 0 0 ls st h := sd_aload_n dX9_isPerson_0 rfl (sd_getr dX9_isPerson_1 zCl9 (Nat.le_of_ble_eq_true rfl) lk_RX9_289 (Or.inl ⟨_, rfl⟩) (sd_ifnull dX9_isPerson_4 rfl (fun _ _ _ h => h) (sd_iload_n dX9_isPerson_7 rfl (sd_iflt dX9_isPerson_8 rfl (fun _ _ _ h => h) (sd_iload_n dX9_isPerson_11 rfl (sd_aload_n dX9_isPerson_12 rfl (sd_getr dX9_isPerson_13 zCl9 (Nat.le_of_ble_eq_true rfl) lk_RX9_289 (Or.inl ⟨_, rfl⟩) (sd_geti dX9_isPerson_16 zCl8 (Nat.le_of_ble_eq_true rfl) lk_RX9_272 (Or.inl rfl) (sd_icge dX9_isPerson_19 rfl (fun _ _ _ h => h) (sd_iconst dX9_isPerson_22 rfl (sd_goto dX9_isPerson_23 rfl (fun _ _ _ h => h))))))))))))
def B_X9_isPerson_26 (X : Nat × (Nat → Int32)) (J : Nat → zCf) (R : zRt) : zCf := oPI (zj (0)) (J 27)
set_option maxRecDepth 100000 in
theorem vb_X9_isPerson_26 {X : Nat × (Nat → Int32)} {R : zRt} : ∀ ls st h, B_X9_isPerson_26 X (zV X M_X9_isPerson (zQm M_X9_isPerson R) 0 0) R ls st h → zV X M_X9_isPerson (zQm M_X9_isPerson R) 0 0 26 ls st h := sd_iconst dX9_isPerson_26 rfl (fun _ _ _ h => h)
def B_X9_isPerson_27 (X : Nat × (Nat → Int32)) (J : Nat → zCf) (R : zRt) : zCf := oZRET R
set_option maxRecDepth 100000 in
theorem vb_X9_isPerson_27 {X : Nat × (Nat → Int32)} {R : zRt} : ∀ ls st h, B_X9_isPerson_27 X (zV X M_X9_isPerson (zQm M_X9_isPerson R) 0 0) R ls st h → zV X M_X9_isPerson (zQm M_X9_isPerson R) 0 0 27 ls st h := sd_zret dX9_isPerson_27 rfl (Nat.le_of_ble_eq_true rfl) (Nat.le_of_ble_eq_true rfl)
theorem dX9_turns_0 : decode cX9_turns 0 = .ok (.iconst 0, 1) := by decide +kernel
theorem dX9_turns_1 : decode cX9_turns 1 = .ok (.istore_n 3, 1) := by decide +kernel
theorem dX9_turns_2 : decode cX9_turns 2 = .ok (.iload_n 3, 1) := by decide +kernel
theorem dX9_turns_3 : decode cX9_turns 3 = .ok (.aload_n 0, 1) := by decide +kernel
theorem dX9_turns_4 : decode cX9_turns 4 = .ok (.getfield 289, 3) := by decide +kernel
theorem dX9_turns_7 : decode cX9_turns 7 = .ok (.getfield 180, 3) := by decide +kernel
theorem dX9_turns_10 : decode cX9_turns 10 = .ok (.if_icmp .ge 32, 3) := by decide +kernel
theorem dX9_turns_13 : decode cX9_turns 13 = .ok (.aload_n 1, 1) := by decide +kernel
theorem dX9_turns_14 : decode cX9_turns 14 = .ok (.iconst 0, 1) := by decide +kernel
theorem dX9_turns_15 : decode cX9_turns 15 = .ok (.iload_n 3, 1) := by decide +kernel
theorem dX9_turns_16 : decode cX9_turns 16 = .ok (.iadd, 1) := by decide +kernel
theorem dX9_turns_17 : decode cX9_turns 17 = .ok (.aload_n 1, 1) := by decide +kernel
theorem dX9_turns_18 : decode cX9_turns 18 = .ok (.iconst 0, 1) := by decide +kernel
theorem dX9_turns_19 : decode cX9_turns 19 = .ok (.iload_n 3, 1) := by decide +kernel
theorem dX9_turns_20 : decode cX9_turns 20 = .ok (.iadd, 1) := by decide +kernel
theorem dX9_turns_21 : decode cX9_turns 21 = .ok (.iaload, 1) := by decide +kernel
theorem dX9_turns_22 : decode cX9_turns 22 = .ok (.aload_n 0, 1) := by decide +kernel
theorem dX9_turns_23 : decode cX9_turns 23 = .ok (.getfield 289, 3) := by decide +kernel
theorem dX9_turns_26 : decode cX9_turns 26 = .ok (.iload_n 3, 1) := by decide +kernel
theorem dX9_turns_27 : decode cX9_turns 27 = .ok (.iload_n 2, 1) := by decide +kernel
theorem dX9_turns_28 : decode cX9_turns 28 = .ok (.invokevirtual 300, 3) := by decide +kernel
theorem dX9_turns_31 : decode cX9_turns 31 = .ok (.iadd, 1) := by decide +kernel
theorem dX9_turns_32 : decode cX9_turns 32 = .ok (.invokestatic 303, 3) := by decide +kernel
theorem dX9_turns_35 : decode cX9_turns 35 = .ok (.iastore, 1) := by decide +kernel
theorem dX9_turns_36 : decode cX9_turns 36 = .ok (.iinc 3 1, 3) := by decide +kernel
theorem dX9_turns_39 : decode cX9_turns 39 = .ok (.goto (-37), 3) := by decide +kernel
theorem dX9_turns_42 : decode cX9_turns 42 = .ok (.return_, 1) := by decide +kernel
def B_X9_turns_0 (X : Nat × (Nat → Int32)) (J : Nat → zCf) (R : zRt) : zCf := oPI (zj (0)) (oISTORE 2 3 (J 2))
set_option maxRecDepth 100000 in
theorem vb_X9_turns_0 {X : Nat × (Nat → Int32)} {R : zRt} : ∀ ls st h, B_X9_turns_0 X (zV X M_X9_turns (zQm M_X9_turns R) 0 0) R ls st h → zV X M_X9_turns (zQm M_X9_turns R) 0 0 0 ls st h := sd_iconst dX9_turns_0 rfl (sd_istore_n dX9_turns_1 rfl (Nat.le_of_ble_eq_true rfl) (Or.inl rfl) (fun _ _ _ h => h))
def B_X9_turns_2 (X : Nat × (Nat → Int32)) (J : Nat → zCf) (R : zRt) : zCf := oILOAD 3 (oALOAD 0 (oGETR 9 3 (oGETI 8 1 (oICGE (J 42) (oALOAD 1 (oPI (zj (0)) (oILOAD 3 (oIADD (oALOAD 1 (oPI (zj (0)) (oILOAD 3 (oIADD (oIALD (oALOAD 0 (oGETR 9 3 (oILOAD 3 (oILOAD 2 (oINV2 X M_X8_goesBy 8 (oIADD (oINS1 X M_X9_round (oIAST (oIINC 2 3 (zj (1)) (J 2)))))))))))))))))))))))
set_option maxRecDepth 100000 in
theorem vb_X9_turns_2 {X : Nat × (Nat → Int32)} {R : zRt} : ∀ ls st h, B_X9_turns_2 X (zV X M_X9_turns (zQm M_X9_turns R) 0 0) R ls st h → zV X M_X9_turns (zQm M_X9_turns R) 0 0 2 ls st h := sd_iload_n dX9_turns_2 rfl (sd_aload_n dX9_turns_3 rfl (sd_getr dX9_turns_4 zCl9 (Nat.le_of_ble_eq_true rfl) lk_RX9_289 (Or.inl ⟨_, rfl⟩) (sd_geti dX9_turns_7 zCl8 (Nat.le_of_ble_eq_true rfl) lk_RX9_180 (Or.inl rfl) (sd_icge dX9_turns_10 rfl (fun _ _ _ h => h) (sd_aload_n dX9_turns_13 rfl (sd_iconst dX9_turns_14 rfl (sd_iload_n dX9_turns_15 rfl (sd_iadd dX9_turns_16 (sd_aload_n dX9_turns_17 rfl (sd_iconst dX9_turns_18 rfl (sd_iload_n dX9_turns_19 rfl (sd_iadd dX9_turns_20 (sd_iald dX9_turns_21 (sd_aload_n dX9_turns_22 rfl (sd_getr dX9_turns_23 zCl9 (Nat.le_of_ble_eq_true rfl) lk_RX9_289 (Or.inl ⟨_, rfl⟩) (sd_iload_n dX9_turns_26 rfl (sd_iload_n dX9_turns_27 rfl (sd_inv2 dX9_turns_28 rfl mv_X8_goesBy na_X8_goesBy ml_RX9_300 ⟨⟨Nat.le_of_ble_eq_true rfl, Nat.le_of_ble_eq_true rfl⟩, ⟨Nat.le_of_ble_eq_true rfl, Nat.le_of_ble_eq_true rfl⟩⟩ (sd_iadd dX9_turns_31 (sd_ins1 dX9_turns_32 ms_X9_round na_X9_round ml_RX9_303 ⟨⟨Nat.le_of_ble_eq_true rfl, Nat.le_of_ble_eq_true rfl⟩, ⟨Nat.le_of_ble_eq_true rfl, Nat.le_of_ble_eq_true rfl⟩⟩ (sd_iast dX9_turns_35 (sd_iinc dX9_turns_36 rfl (Nat.le_of_ble_eq_true rfl) (Or.inl rfl) (sd_goto dX9_turns_39 rfl (fun _ _ _ h => h))))))))))))))))))))))))
def B_X9_turns_42 (X : Nat × (Nat → Int32)) (J : Nat → zCf) (R : zRt) : zCf := oVRET R
set_option maxRecDepth 100000 in
theorem vb_X9_turns_42 {X : Nat × (Nat → Int32)} {R : zRt} : ∀ ls st h, B_X9_turns_42 X (zV X M_X9_turns (zQm M_X9_turns R) 0 0) R ls st h → zV X M_X9_turns (zQm M_X9_turns R) 0 0 42 ls st h := sd_vret dX9_turns_42 rfl (Nat.le_of_ble_eq_true rfl) (Nat.le_of_ble_eq_true rfl)
theorem dX9_topIn_0 : decode cX9_topIn 0 = .ok (.bipush (-2), 2) := by decide +kernel
theorem dX9_topIn_2 : decode cX9_topIn 2 = .ok (.istore_n 3, 1) := by decide +kernel
theorem dX9_topIn_3 : decode cX9_topIn 3 = .ok (.iconst 0, 1) := by decide +kernel
theorem dX9_topIn_4 : decode cX9_topIn 4 = .ok (.istore 4, 2) := by decide +kernel
theorem dX9_topIn_6 : decode cX9_topIn 6 = .ok (.iload 4, 2) := by decide +kernel
theorem dX9_topIn_8 : decode cX9_topIn 8 = .ok (.aload_n 0, 1) := by decide +kernel
theorem dX9_topIn_9 : decode cX9_topIn 9 = .ok (.getfield 289, 3) := by decide +kernel
theorem dX9_topIn_12 : decode cX9_topIn 12 = .ok (.getfield 180, 3) := by decide +kernel
theorem dX9_topIn_15 : decode cX9_topIn 15 = .ok (.if_icmp .ge 50, 3) := by decide +kernel
theorem dX9_topIn_18 : decode cX9_topIn 18 = .ok (.aload_n 1, 1) := by decide +kernel
theorem dX9_topIn_19 : decode cX9_topIn 19 = .ok (.iconst 0, 1) := by decide +kernel
theorem dX9_topIn_20 : decode cX9_topIn 20 = .ok (.iload 4, 2) := by decide +kernel
theorem dX9_topIn_22 : decode cX9_topIn 22 = .ok (.iadd, 1) := by decide +kernel
theorem dX9_topIn_23 : decode cX9_topIn 23 = .ok (.iaload, 1) := by decide +kernel
theorem dX9_topIn_24 : decode cX9_topIn 24 = .ok (.iload_n 2, 1) := by decide +kernel
theorem dX9_topIn_25 : decode cX9_topIn 25 = .ok (.if_icmp .ne 34, 3) := by decide +kernel
theorem dX9_topIn_28 : decode cX9_topIn 28 = .ok (.iload_n 3, 1) := by decide +kernel
theorem dX9_topIn_29 : decode cX9_topIn 29 = .ok (.bipush (-2), 2) := by decide +kernel
theorem dX9_topIn_31 : decode cX9_topIn 31 = .ok (.if_icmp .eq 25, 3) := by decide +kernel
theorem dX9_topIn_34 : decode cX9_topIn 34 = .ok (.aload_n 0, 1) := by decide +kernel
theorem dX9_topIn_35 : decode cX9_topIn 35 = .ok (.getfield 289, 3) := by decide +kernel
theorem dX9_topIn_38 : decode cX9_topIn 38 = .ok (.getfield 233, 3) := by decide +kernel
theorem dX9_topIn_41 : decode cX9_topIn 41 = .ok (.iload 4, 2) := by decide +kernel
theorem dX9_topIn_43 : decode cX9_topIn 43 = .ok (.iaload, 1) := by decide +kernel
theorem dX9_topIn_44 : decode cX9_topIn 44 = .ok (.aload_n 0, 1) := by decide +kernel
theorem dX9_topIn_45 : decode cX9_topIn 45 = .ok (.getfield 289, 3) := by decide +kernel
theorem dX9_topIn_48 : decode cX9_topIn 48 = .ok (.getfield 233, 3) := by decide +kernel
theorem dX9_topIn_51 : decode cX9_topIn 51 = .ok (.iload_n 3, 1) := by decide +kernel
theorem dX9_topIn_52 : decode cX9_topIn 52 = .ok (.iaload, 1) := by decide +kernel
theorem dX9_topIn_53 : decode cX9_topIn 53 = .ok (.if_icmp .le 6, 3) := by decide +kernel
theorem dX9_topIn_56 : decode cX9_topIn 56 = .ok (.iload 4, 2) := by decide +kernel
theorem dX9_topIn_58 : decode cX9_topIn 58 = .ok (.istore_n 3, 1) := by decide +kernel
theorem dX9_topIn_59 : decode cX9_topIn 59 = .ok (.iinc 4 1, 3) := by decide +kernel
theorem dX9_topIn_62 : decode cX9_topIn 62 = .ok (.goto (-56), 3) := by decide +kernel
theorem dX9_topIn_65 : decode cX9_topIn 65 = .ok (.iload_n 3, 1) := by decide +kernel
theorem dX9_topIn_66 : decode cX9_topIn 66 = .ok (.ireturn, 1) := by decide +kernel
def B_X9_topIn_0 (X : Nat × (Nat → Int32)) (J : Nat → zCf) (R : zRt) : zCf := oPI (zj (-2)) (oISTORE 2 3 (oPI (zj (0)) (oISTORE 3 4 (J 6))))
set_option maxRecDepth 100000 in
theorem vb_X9_topIn_0 {X : Nat × (Nat → Int32)} {R : zRt} : ∀ ls st h, B_X9_topIn_0 X (zV X M_X9_topIn (zQm M_X9_topIn R) 0 0) R ls st h → zV X M_X9_topIn (zQm M_X9_topIn R) 0 0 0 ls st h := sd_bipush dX9_topIn_0 rfl (sd_istore_n dX9_topIn_2 rfl (Nat.le_of_ble_eq_true rfl) (Or.inl rfl) (sd_iconst dX9_topIn_3 rfl (sd_istore dX9_topIn_4 (Nat.le_of_ble_eq_true rfl) (Or.inl rfl) (fun _ _ _ h => h))))
def B_X9_topIn_6 (X : Nat × (Nat → Int32)) (J : Nat → zCf) (R : zRt) : zCf := oILOAD 4 (oALOAD 0 (oGETR 9 3 (oGETI 8 1 (oICGE (J 65) (oALOAD 1 (oPI (zj (0)) (oILOAD 4 (oIADD (oIALD (oILOAD 2 (oICNE (J 59) (oILOAD 3 (oPI (zj (-2)) (oICEQ (J 56) (oALOAD 0 (oGETR 9 3 (oGETR 8 8 (oILOAD 4 (oIALD (oALOAD 0 (oGETR 9 3 (oGETR 8 8 (oILOAD 3 (oIALD (oICLE (J 59) (J 56))))))))))))))))))))))))))
set_option maxRecDepth 100000 in
theorem vb_X9_topIn_6 {X : Nat × (Nat → Int32)} {R : zRt} : ∀ ls st h, B_X9_topIn_6 X (zV X M_X9_topIn (zQm M_X9_topIn R) 0 0) R ls st h → zV X M_X9_topIn (zQm M_X9_topIn R) 0 0 6 ls st h := sd_iload dX9_topIn_6 (sd_aload_n dX9_topIn_8 rfl (sd_getr dX9_topIn_9 zCl9 (Nat.le_of_ble_eq_true rfl) lk_RX9_289 (Or.inl ⟨_, rfl⟩) (sd_geti dX9_topIn_12 zCl8 (Nat.le_of_ble_eq_true rfl) lk_RX9_180 (Or.inl rfl) (sd_icge dX9_topIn_15 rfl (fun _ _ _ h => h) (sd_aload_n dX9_topIn_18 rfl (sd_iconst dX9_topIn_19 rfl (sd_iload dX9_topIn_20 (sd_iadd dX9_topIn_22 (sd_iald dX9_topIn_23 (sd_iload_n dX9_topIn_24 rfl (sd_icne dX9_topIn_25 rfl (fun _ _ _ h => h) (sd_iload_n dX9_topIn_28 rfl (sd_bipush dX9_topIn_29 rfl (sd_iceq dX9_topIn_31 rfl (fun _ _ _ h => h) (sd_aload_n dX9_topIn_34 rfl (sd_getr dX9_topIn_35 zCl9 (Nat.le_of_ble_eq_true rfl) lk_RX9_289 (Or.inl ⟨_, rfl⟩) (sd_getr dX9_topIn_38 zCl8 (Nat.le_of_ble_eq_true rfl) lk_RX9_233 (Or.inr ⟨_, rfl⟩) (sd_iload dX9_topIn_41 (sd_iald dX9_topIn_43 (sd_aload_n dX9_topIn_44 rfl (sd_getr dX9_topIn_45 zCl9 (Nat.le_of_ble_eq_true rfl) lk_RX9_289 (Or.inl ⟨_, rfl⟩) (sd_getr dX9_topIn_48 zCl8 (Nat.le_of_ble_eq_true rfl) lk_RX9_233 (Or.inr ⟨_, rfl⟩) (sd_iload_n dX9_topIn_51 rfl (sd_iald dX9_topIn_52 (sd_icle dX9_topIn_53 rfl (fun _ _ _ h => h) (fun _ _ _ h => h))))))))))))))))))))))))))
def B_X9_topIn_56 (X : Nat × (Nat → Int32)) (J : Nat → zCf) (R : zRt) : zCf := oILOAD 4 (oISTORE 2 3 (J 59))
set_option maxRecDepth 100000 in
theorem vb_X9_topIn_56 {X : Nat × (Nat → Int32)} {R : zRt} : ∀ ls st h, B_X9_topIn_56 X (zV X M_X9_topIn (zQm M_X9_topIn R) 0 0) R ls st h → zV X M_X9_topIn (zQm M_X9_topIn R) 0 0 56 ls st h := sd_iload dX9_topIn_56 (sd_istore_n dX9_topIn_58 rfl (Nat.le_of_ble_eq_true rfl) (Or.inl rfl) (fun _ _ _ h => h))
def B_X9_topIn_59 (X : Nat × (Nat → Int32)) (J : Nat → zCf) (R : zRt) : zCf := oIINC 3 4 (zj (1)) (J 6)
set_option maxRecDepth 100000 in
theorem vb_X9_topIn_59 {X : Nat × (Nat → Int32)} {R : zRt} : ∀ ls st h, B_X9_topIn_59 X (zV X M_X9_topIn (zQm M_X9_topIn R) 0 0) R ls st h → zV X M_X9_topIn (zQm M_X9_topIn R) 0 0 59 ls st h := sd_iinc dX9_topIn_59 rfl (Nat.le_of_ble_eq_true rfl) (Or.inl rfl) (sd_goto dX9_topIn_62 rfl (fun _ _ _ h => h))
def B_X9_topIn_65 (X : Nat × (Nat → Int32)) (J : Nat → zCf) (R : zRt) : zCf := oILOAD 3 (oIRET R)
set_option maxRecDepth 100000 in
theorem vb_X9_topIn_65 {X : Nat × (Nat → Int32)} {R : zRt} : ∀ ls st h, B_X9_topIn_65 X (zV X M_X9_topIn (zQm M_X9_topIn R) 0 0) R ls st h → zV X M_X9_topIn (zQm M_X9_topIn R) 0 0 65 ls st h := sd_iload_n dX9_topIn_65 rfl (sd_iret dX9_topIn_66 rfl (Nat.le_of_ble_eq_true rfl) (Nat.le_of_ble_eq_true rfl))
theorem dX9_topsIn_0 : decode cX9_topsIn 0 = .ok (.iconst 0, 1) := by decide +kernel
theorem dX9_topsIn_1 : decode cX9_topsIn 1 = .ok (.istore_n 2, 1) := by decide +kernel
theorem dX9_topsIn_2 : decode cX9_topsIn 2 = .ok (.iconst 0, 1) := by decide +kernel
theorem dX9_topsIn_3 : decode cX9_topsIn 3 = .ok (.istore_n 3, 1) := by decide +kernel
theorem dX9_topsIn_4 : decode cX9_topsIn 4 = .ok (.iload_n 3, 1) := by decide +kernel
theorem dX9_topsIn_5 : decode cX9_topsIn 5 = .ok (.bipush 12, 2) := by decide +kernel
theorem dX9_topsIn_7 : decode cX9_topsIn 7 = .ok (.if_icmp .ge 35, 3) := by decide +kernel
theorem dX9_topsIn_10 : decode cX9_topsIn 10 = .ok (.iload_n 2, 1) := by decide +kernel
theorem dX9_topsIn_11 : decode cX9_topsIn 11 = .ok (.aload_n 0, 1) := by decide +kernel
theorem dX9_topsIn_12 : decode cX9_topsIn 12 = .ok (.aload_n 1, 1) := by decide +kernel
theorem dX9_topsIn_13 : decode cX9_topsIn 13 = .ok (.iload_n 3, 1) := by decide +kernel
theorem dX9_topsIn_14 : decode cX9_topsIn 14 = .ok (.invokevirtual 306, 3) := by decide +kernel
theorem dX9_topsIn_17 : decode cX9_topsIn 17 = .ok (.bipush (-2), 2) := by decide +kernel
theorem dX9_topsIn_19 : decode cX9_topsIn 19 = .ok (.if_icmp .ne 7, 3) := by decide +kernel
theorem dX9_topsIn_22 : decode cX9_topsIn 22 = .ok (.iconst 0, 1) := by decide +kernel
theorem dX9_topsIn_23 : decode cX9_topsIn 23 = .ok (.goto 11, 3) := by decide +kernel
theorem dX9_topsIn_26 : decode cX9_topsIn 26 = .ok (.iconst 1, 1) := by decide +kernel
theorem dX9_topsIn_27 : decode cX9_topsIn 27 = .ok (.aload_n 0, 1) := by decide +kernel
theorem dX9_topsIn_28 : decode cX9_topsIn 28 = .ok (.aload_n 1, 1) := by decide +kernel
theorem dX9_topsIn_29 : decode cX9_topsIn 29 = .ok (.iload_n 3, 1) := by decide +kernel
theorem dX9_topsIn_30 : decode cX9_topsIn 30 = .ok (.invokevirtual 306, 3) := by decide +kernel
theorem dX9_topsIn_33 : decode cX9_topsIn 33 = .ok (.ishl, 1) := by decide +kernel
theorem dX9_topsIn_34 : decode cX9_topsIn 34 = .ok (.ior, 1) := by decide +kernel
theorem dX9_topsIn_35 : decode cX9_topsIn 35 = .ok (.istore_n 2, 1) := by decide +kernel
theorem dX9_topsIn_36 : decode cX9_topsIn 36 = .ok (.iinc 3 1, 3) := by decide +kernel
theorem dX9_topsIn_39 : decode cX9_topsIn 39 = .ok (.goto (-35), 3) := by decide +kernel
theorem dX9_topsIn_42 : decode cX9_topsIn 42 = .ok (.iload_n 2, 1) := by decide +kernel
theorem dX9_topsIn_43 : decode cX9_topsIn 43 = .ok (.ireturn, 1) := by decide +kernel
def B_X9_topsIn_0 (X : Nat × (Nat → Int32)) (J : Nat → zCf) (R : zRt) : zCf := oPI (zj (0)) (oISTORE 1 2 (oPI (zj (0)) (oISTORE 2 3 (J 4))))
set_option maxRecDepth 100000 in
theorem vb_X9_topsIn_0 {X : Nat × (Nat → Int32)} {R : zRt} : ∀ ls st h, B_X9_topsIn_0 X (zV X M_X9_topsIn (zQm M_X9_topsIn R) 0 0) R ls st h → zV X M_X9_topsIn (zQm M_X9_topsIn R) 0 0 0 ls st h := sd_iconst dX9_topsIn_0 rfl (sd_istore_n dX9_topsIn_1 rfl (Nat.le_of_ble_eq_true rfl) (Or.inl rfl) (sd_iconst dX9_topsIn_2 rfl (sd_istore_n dX9_topsIn_3 rfl (Nat.le_of_ble_eq_true rfl) (Or.inl rfl) (fun _ _ _ h => h))))
def B_X9_topsIn_4 (X : Nat × (Nat → Int32)) (J : Nat → zCf) (R : zRt) : zCf := oILOAD 3 (oPI (zj (12)) (oICGE (J 42) (oILOAD 2 (oALOAD 0 (oALOAD 1 (oILOAD 3 (oINV2 X M_X9_topIn 9 (oPI (zj (-2)) (oICNE (J 26) (oPI (zj (0)) (J 34)))))))))))
set_option maxRecDepth 100000 in
theorem vb_X9_topsIn_4 {X : Nat × (Nat → Int32)} {R : zRt} : ∀ ls st h, B_X9_topsIn_4 X (zV X M_X9_topsIn (zQm M_X9_topsIn R) 0 0) R ls st h → zV X M_X9_topsIn (zQm M_X9_topsIn R) 0 0 4 ls st h := sd_iload_n dX9_topsIn_4 rfl (sd_bipush dX9_topsIn_5 rfl (sd_icge dX9_topsIn_7 rfl (fun _ _ _ h => h) (sd_iload_n dX9_topsIn_10 rfl (sd_aload_n dX9_topsIn_11 rfl (sd_aload_n dX9_topsIn_12 rfl (sd_iload_n dX9_topsIn_13 rfl (sd_inv2 dX9_topsIn_14 rfl mv_X9_topIn na_X9_topIn ml_RX9_306 ⟨⟨Nat.le_of_ble_eq_true rfl, Nat.le_of_ble_eq_true rfl⟩, ⟨Nat.le_of_ble_eq_true rfl, Nat.le_of_ble_eq_true rfl⟩⟩ (sd_bipush dX9_topsIn_17 rfl (sd_icne dX9_topsIn_19 rfl (fun _ _ _ h => h) (sd_iconst dX9_topsIn_22 rfl (sd_goto dX9_topsIn_23 rfl (fun _ _ _ h => h))))))))))))
def B_X9_topsIn_26 (X : Nat × (Nat → Int32)) (J : Nat → zCf) (R : zRt) : zCf := oPI (zj (1)) (oALOAD 0 (oALOAD 1 (oILOAD 3 (oINV2 X M_X9_topIn 9 (oISHL (J 34))))))
set_option maxRecDepth 100000 in
theorem vb_X9_topsIn_26 {X : Nat × (Nat → Int32)} {R : zRt} : ∀ ls st h, B_X9_topsIn_26 X (zV X M_X9_topsIn (zQm M_X9_topsIn R) 0 0) R ls st h → zV X M_X9_topsIn (zQm M_X9_topsIn R) 0 0 26 ls st h := sd_iconst dX9_topsIn_26 rfl (sd_aload_n dX9_topsIn_27 rfl (sd_aload_n dX9_topsIn_28 rfl (sd_iload_n dX9_topsIn_29 rfl (sd_inv2 dX9_topsIn_30 rfl mv_X9_topIn na_X9_topIn ml_RX9_306 ⟨⟨Nat.le_of_ble_eq_true rfl, Nat.le_of_ble_eq_true rfl⟩, ⟨Nat.le_of_ble_eq_true rfl, Nat.le_of_ble_eq_true rfl⟩⟩ (sd_ishl dX9_topsIn_33 (fun _ _ _ h => h))))))
def B_X9_topsIn_34 (X : Nat × (Nat → Int32)) (J : Nat → zCf) (R : zRt) : zCf := oIOR (oISTORE 1 2 (oIINC 2 3 (zj (1)) (J 4)))
set_option maxRecDepth 100000 in
theorem vb_X9_topsIn_34 {X : Nat × (Nat → Int32)} {R : zRt} : ∀ ls st h, B_X9_topsIn_34 X (zV X M_X9_topsIn (zQm M_X9_topsIn R) 0 0) R ls st h → zV X M_X9_topsIn (zQm M_X9_topsIn R) 0 0 34 ls st h := sd_ior dX9_topsIn_34 (sd_istore_n dX9_topsIn_35 rfl (Nat.le_of_ble_eq_true rfl) (Or.inl rfl) (sd_iinc dX9_topsIn_36 rfl (Nat.le_of_ble_eq_true rfl) (Or.inl rfl) (sd_goto dX9_topsIn_39 rfl (fun _ _ _ h => h))))
def B_X9_topsIn_42 (X : Nat × (Nat → Int32)) (J : Nat → zCf) (R : zRt) : zCf := oILOAD 2 (oIRET R)
set_option maxRecDepth 100000 in
theorem vb_X9_topsIn_42 {X : Nat × (Nat → Int32)} {R : zRt} : ∀ ls st h, B_X9_topsIn_42 X (zV X M_X9_topsIn (zQm M_X9_topsIn R) 0 0) R ls st h → zV X M_X9_topsIn (zQm M_X9_topsIn R) 0 0 42 ls st h := sd_iload_n dX9_topsIn_42 rfl (sd_iret dX9_topsIn_43 rfl (Nat.le_of_ble_eq_true rfl) (Nat.le_of_ble_eq_true rfl))
theorem dX9_rightIn_0 : decode cX9_rightIn 0 = .ok (.iconst 0, 1) := by decide +kernel
theorem dX9_rightIn_1 : decode cX9_rightIn 1 = .ok (.istore_n 2, 1) := by decide +kernel
theorem dX9_rightIn_2 : decode cX9_rightIn 2 = .ok (.iconst 0, 1) := by decide +kernel
theorem dX9_rightIn_3 : decode cX9_rightIn 3 = .ok (.istore_n 3, 1) := by decide +kernel
theorem dX9_rightIn_4 : decode cX9_rightIn 4 = .ok (.iload_n 3, 1) := by decide +kernel
theorem dX9_rightIn_5 : decode cX9_rightIn 5 = .ok (.aload_n 0, 1) := by decide +kernel
theorem dX9_rightIn_6 : decode cX9_rightIn 6 = .ok (.getfield 289, 3) := by decide +kernel
theorem dX9_rightIn_9 : decode cX9_rightIn 9 = .ok (.getfield 180, 3) := by decide +kernel
theorem dX9_rightIn_12 : decode cX9_rightIn 12 = .ok (.if_icmp .ge 36, 3) := by decide +kernel
theorem dX9_rightIn_15 : decode cX9_rightIn 15 = .ok (.iload_n 2, 1) := by decide +kernel
theorem dX9_rightIn_16 : decode cX9_rightIn 16 = .ok (.aload_n 0, 1) := by decide +kernel
theorem dX9_rightIn_17 : decode cX9_rightIn 17 = .ok (.getfield 289, 3) := by decide +kernel
theorem dX9_rightIn_20 : decode cX9_rightIn 20 = .ok (.getfield 240, 3) := by decide +kernel
theorem dX9_rightIn_23 : decode cX9_rightIn 23 = .ok (.iload_n 3, 1) := by decide +kernel
theorem dX9_rightIn_24 : decode cX9_rightIn 24 = .ok (.iaload, 1) := by decide +kernel
theorem dX9_rightIn_25 : decode cX9_rightIn 25 = .ok (.aload_n 1, 1) := by decide +kernel
theorem dX9_rightIn_26 : decode cX9_rightIn 26 = .ok (.iconst 0, 1) := by decide +kernel
theorem dX9_rightIn_27 : decode cX9_rightIn 27 = .ok (.iload_n 3, 1) := by decide +kernel
theorem dX9_rightIn_28 : decode cX9_rightIn 28 = .ok (.iadd, 1) := by decide +kernel
theorem dX9_rightIn_29 : decode cX9_rightIn 29 = .ok (.iaload, 1) := by decide +kernel
theorem dX9_rightIn_30 : decode cX9_rightIn 30 = .ok (.if_icmp .ne 9, 3) := by decide +kernel
theorem dX9_rightIn_33 : decode cX9_rightIn 33 = .ok (.iconst 1, 1) := by decide +kernel
theorem dX9_rightIn_34 : decode cX9_rightIn 34 = .ok (.iload_n 3, 1) := by decide +kernel
theorem dX9_rightIn_35 : decode cX9_rightIn 35 = .ok (.ishl, 1) := by decide +kernel
theorem dX9_rightIn_36 : decode cX9_rightIn 36 = .ok (.goto 4, 3) := by decide +kernel
theorem dX9_rightIn_39 : decode cX9_rightIn 39 = .ok (.iconst 0, 1) := by decide +kernel
theorem dX9_rightIn_40 : decode cX9_rightIn 40 = .ok (.ior, 1) := by decide +kernel
theorem dX9_rightIn_41 : decode cX9_rightIn 41 = .ok (.istore_n 2, 1) := by decide +kernel
theorem dX9_rightIn_42 : decode cX9_rightIn 42 = .ok (.iinc 3 1, 3) := by decide +kernel
theorem dX9_rightIn_45 : decode cX9_rightIn 45 = .ok (.goto (-41), 3) := by decide +kernel
theorem dX9_rightIn_48 : decode cX9_rightIn 48 = .ok (.iload_n 2, 1) := by decide +kernel
theorem dX9_rightIn_49 : decode cX9_rightIn 49 = .ok (.ireturn, 1) := by decide +kernel
def B_X9_rightIn_0 (X : Nat × (Nat → Int32)) (J : Nat → zCf) (R : zRt) : zCf := oPI (zj (0)) (oISTORE 1 2 (oPI (zj (0)) (oISTORE 2 3 (J 4))))
set_option maxRecDepth 100000 in
theorem vb_X9_rightIn_0 {X : Nat × (Nat → Int32)} {R : zRt} : ∀ ls st h, B_X9_rightIn_0 X (zV X M_X9_rightIn (zQm M_X9_rightIn R) 0 0) R ls st h → zV X M_X9_rightIn (zQm M_X9_rightIn R) 0 0 0 ls st h := sd_iconst dX9_rightIn_0 rfl (sd_istore_n dX9_rightIn_1 rfl (Nat.le_of_ble_eq_true rfl) (Or.inl rfl) (sd_iconst dX9_rightIn_2 rfl (sd_istore_n dX9_rightIn_3 rfl (Nat.le_of_ble_eq_true rfl) (Or.inl rfl) (fun _ _ _ h => h))))
def B_X9_rightIn_4 (X : Nat × (Nat → Int32)) (J : Nat → zCf) (R : zRt) : zCf := oILOAD 3 (oALOAD 0 (oGETR 9 3 (oGETI 8 1 (oICGE (J 48) (oILOAD 2 (oALOAD 0 (oGETR 9 3 (oGETR 8 10 (oILOAD 3 (oIALD (oALOAD 1 (oPI (zj (0)) (oILOAD 3 (oIADD (oIALD (oICNE (J 39) (oPI (zj (1)) (oILOAD 3 (oISHL (J 40))))))))))))))))))))
set_option maxRecDepth 100000 in
theorem vb_X9_rightIn_4 {X : Nat × (Nat → Int32)} {R : zRt} : ∀ ls st h, B_X9_rightIn_4 X (zV X M_X9_rightIn (zQm M_X9_rightIn R) 0 0) R ls st h → zV X M_X9_rightIn (zQm M_X9_rightIn R) 0 0 4 ls st h := sd_iload_n dX9_rightIn_4 rfl (sd_aload_n dX9_rightIn_5 rfl (sd_getr dX9_rightIn_6 zCl9 (Nat.le_of_ble_eq_true rfl) lk_RX9_289 (Or.inl ⟨_, rfl⟩) (sd_geti dX9_rightIn_9 zCl8 (Nat.le_of_ble_eq_true rfl) lk_RX9_180 (Or.inl rfl) (sd_icge dX9_rightIn_12 rfl (fun _ _ _ h => h) (sd_iload_n dX9_rightIn_15 rfl (sd_aload_n dX9_rightIn_16 rfl (sd_getr dX9_rightIn_17 zCl9 (Nat.le_of_ble_eq_true rfl) lk_RX9_289 (Or.inl ⟨_, rfl⟩) (sd_getr dX9_rightIn_20 zCl8 (Nat.le_of_ble_eq_true rfl) lk_RX9_240 (Or.inr ⟨_, rfl⟩) (sd_iload_n dX9_rightIn_23 rfl (sd_iald dX9_rightIn_24 (sd_aload_n dX9_rightIn_25 rfl (sd_iconst dX9_rightIn_26 rfl (sd_iload_n dX9_rightIn_27 rfl (sd_iadd dX9_rightIn_28 (sd_iald dX9_rightIn_29 (sd_icne dX9_rightIn_30 rfl (fun _ _ _ h => h) (sd_iconst dX9_rightIn_33 rfl (sd_iload_n dX9_rightIn_34 rfl (sd_ishl dX9_rightIn_35 (sd_goto dX9_rightIn_36 rfl (fun _ _ _ h => h)))))))))))))))))))))
def B_X9_rightIn_39 (X : Nat × (Nat → Int32)) (J : Nat → zCf) (R : zRt) : zCf := oPI (zj (0)) (J 40)
set_option maxRecDepth 100000 in
theorem vb_X9_rightIn_39 {X : Nat × (Nat → Int32)} {R : zRt} : ∀ ls st h, B_X9_rightIn_39 X (zV X M_X9_rightIn (zQm M_X9_rightIn R) 0 0) R ls st h → zV X M_X9_rightIn (zQm M_X9_rightIn R) 0 0 39 ls st h := sd_iconst dX9_rightIn_39 rfl (fun _ _ _ h => h)
def B_X9_rightIn_40 (X : Nat × (Nat → Int32)) (J : Nat → zCf) (R : zRt) : zCf := oIOR (oISTORE 1 2 (oIINC 2 3 (zj (1)) (J 4)))
set_option maxRecDepth 100000 in
theorem vb_X9_rightIn_40 {X : Nat × (Nat → Int32)} {R : zRt} : ∀ ls st h, B_X9_rightIn_40 X (zV X M_X9_rightIn (zQm M_X9_rightIn R) 0 0) R ls st h → zV X M_X9_rightIn (zQm M_X9_rightIn R) 0 0 40 ls st h := sd_ior dX9_rightIn_40 (sd_istore_n dX9_rightIn_41 rfl (Nat.le_of_ble_eq_true rfl) (Or.inl rfl) (sd_iinc dX9_rightIn_42 rfl (Nat.le_of_ble_eq_true rfl) (Or.inl rfl) (sd_goto dX9_rightIn_45 rfl (fun _ _ _ h => h))))
def B_X9_rightIn_48 (X : Nat × (Nat → Int32)) (J : Nat → zCf) (R : zRt) : zCf := oILOAD 2 (oIRET R)
set_option maxRecDepth 100000 in
theorem vb_X9_rightIn_48 {X : Nat × (Nat → Int32)} {R : zRt} : ∀ ls st h, B_X9_rightIn_48 X (zV X M_X9_rightIn (zQm M_X9_rightIn R) 0 0) R ls st h → zV X M_X9_rightIn (zQm M_X9_rightIn R) 0 0 48 ls st h := sd_iload_n dX9_rightIn_48 rfl (sd_iret dX9_rightIn_49 rfl (Nat.le_of_ble_eq_true rfl) (Nat.le_of_ble_eq_true rfl))
theorem dX9_placeOf_0 : decode cX9_placeOf 0 = .ok (.bipush 12, 2) := by decide +kernel
theorem dX9_placeOf_2 : decode cX9_placeOf 2 = .ok (.iload_n 0, 1) := by decide +kernel
theorem dX9_placeOf_3 : decode cX9_placeOf 3 = .ok (.imul, 1) := by decide +kernel
theorem dX9_placeOf_4 : decode cX9_placeOf 4 = .ok (.iload_n 0, 1) := by decide +kernel
theorem dX9_placeOf_5 : decode cX9_placeOf 5 = .ok (.iconst 2, 1) := by decide +kernel
theorem dX9_placeOf_6 : decode cX9_placeOf 6 = .ok (.irem, 1) := by decide +kernel
theorem dX9_placeOf_7 : decode cX9_placeOf 7 = .ok (.ifCond .ne 7, 3) := by decide +kernel
theorem dX9_placeOf_10 : decode cX9_placeOf 10 = .ok (.iload_n 1, 1) := by decide +kernel
theorem dX9_placeOf_11 : decode cX9_placeOf 11 = .ok (.goto 7, 3) := by decide +kernel
theorem dX9_placeOf_14 : decode cX9_placeOf 14 = .ok (.bipush 11, 2) := by decide +kernel
theorem dX9_placeOf_16 : decode cX9_placeOf 16 = .ok (.iload_n 1, 1) := by decide +kernel
theorem dX9_placeOf_17 : decode cX9_placeOf 17 = .ok (.isub, 1) := by decide +kernel
theorem dX9_placeOf_18 : decode cX9_placeOf 18 = .ok (.iadd, 1) := by decide +kernel
theorem dX9_placeOf_19 : decode cX9_placeOf 19 = .ok (.ireturn, 1) := by decide +kernel
def B_X9_placeOf_0 (X : Nat × (Nat → Int32)) (J : Nat → zCf) (R : zRt) : zCf := oPI (zj (12)) (oILOAD 0 (oIMUL (oILOAD 0 (oPI (zj (2)) (oIREM (oIFNE (J 14) (oILOAD 1 (J 18))))))))
set_option maxRecDepth 100000 in
theorem vb_X9_placeOf_0 {X : Nat × (Nat → Int32)} {R : zRt} : ∀ ls st h, B_X9_placeOf_0 X (zV X M_X9_placeOf (zQm M_X9_placeOf R) 0 0) R ls st h → zV X M_X9_placeOf (zQm M_X9_placeOf R) 0 0 0 ls st h := sd_bipush dX9_placeOf_0 rfl (sd_iload_n dX9_placeOf_2 rfl (sd_imul dX9_placeOf_3 (sd_iload_n dX9_placeOf_4 rfl (sd_iconst dX9_placeOf_5 rfl (sd_irem dX9_placeOf_6 (sd_ifne dX9_placeOf_7 rfl (fun _ _ _ h => h) (sd_iload_n dX9_placeOf_10 rfl (sd_goto dX9_placeOf_11 rfl (fun _ _ _ h => h)))))))))
def B_X9_placeOf_14 (X : Nat × (Nat → Int32)) (J : Nat → zCf) (R : zRt) : zCf := oPI (zj (11)) (oILOAD 1 (oISUB (J 18)))
set_option maxRecDepth 100000 in
theorem vb_X9_placeOf_14 {X : Nat × (Nat → Int32)} {R : zRt} : ∀ ls st h, B_X9_placeOf_14 X (zV X M_X9_placeOf (zQm M_X9_placeOf R) 0 0) R ls st h → zV X M_X9_placeOf (zQm M_X9_placeOf R) 0 0 14 ls st h := sd_bipush dX9_placeOf_14 rfl (sd_iload_n dX9_placeOf_16 rfl (sd_isub dX9_placeOf_17 (fun _ _ _ h => h)))
def B_X9_placeOf_18 (X : Nat × (Nat → Int32)) (J : Nat → zCf) (R : zRt) : zCf := oIADD (oIRET R)
set_option maxRecDepth 100000 in
theorem vb_X9_placeOf_18 {X : Nat × (Nat → Int32)} {R : zRt} : ∀ ls st h, B_X9_placeOf_18 X (zV X M_X9_placeOf (zQm M_X9_placeOf R) 0 0) R ls st h → zV X M_X9_placeOf (zQm M_X9_placeOf R) 0 0 18 ls st h := sd_iadd dX9_placeOf_18 (sd_iret dX9_placeOf_19 rfl (Nat.le_of_ble_eq_true rfl) (Nat.le_of_ble_eq_true rfl))
theorem dX9_countryOf_0 : decode cX9_countryOf 0 = .ok (.iload_n 0, 1) := by decide +kernel
theorem dX9_countryOf_1 : decode cX9_countryOf 1 = .ok (.bipush 12, 2) := by decide +kernel
theorem dX9_countryOf_3 : decode cX9_countryOf 3 = .ok (.idiv, 1) := by decide +kernel
theorem dX9_countryOf_4 : decode cX9_countryOf 4 = .ok (.ireturn, 1) := by decide +kernel
def B_X9_countryOf_0 (X : Nat × (Nat → Int32)) (J : Nat → zCf) (R : zRt) : zCf := oILOAD 0 (oPI (zj (12)) (oIDIV (oIRET R)))
set_option maxRecDepth 100000 in
theorem vb_X9_countryOf_0 {X : Nat × (Nat → Int32)} {R : zRt} : ∀ ls st h, B_X9_countryOf_0 X (zV X M_X9_countryOf (zQm M_X9_countryOf R) 0 0) R ls st h → zV X M_X9_countryOf (zQm M_X9_countryOf R) 0 0 0 ls st h := sd_iload_n dX9_countryOf_0 rfl (sd_bipush dX9_countryOf_1 rfl (sd_idiv dX9_countryOf_3 (sd_iret dX9_countryOf_4 rfl (Nat.le_of_ble_eq_true rfl) (Nat.le_of_ble_eq_true rfl))))
theorem dX9_cellOf_0 : decode cX9_cellOf 0 = .ok (.iload_n 0, 1) := by decide +kernel
theorem dX9_cellOf_1 : decode cX9_cellOf 1 = .ok (.invokestatic 310, 3) := by decide +kernel
theorem dX9_cellOf_4 : decode cX9_cellOf 4 = .ok (.iconst 2, 1) := by decide +kernel
theorem dX9_cellOf_5 : decode cX9_cellOf 5 = .ok (.irem, 1) := by decide +kernel
theorem dX9_cellOf_6 : decode cX9_cellOf 6 = .ok (.ifCond .ne 10, 3) := by decide +kernel
theorem dX9_cellOf_9 : decode cX9_cellOf 9 = .ok (.iload_n 0, 1) := by decide +kernel
theorem dX9_cellOf_10 : decode cX9_cellOf 10 = .ok (.bipush 12, 2) := by decide +kernel
theorem dX9_cellOf_12 : decode cX9_cellOf 12 = .ok (.irem, 1) := by decide +kernel
theorem dX9_cellOf_13 : decode cX9_cellOf 13 = .ok (.goto 10, 3) := by decide +kernel
theorem dX9_cellOf_16 : decode cX9_cellOf 16 = .ok (.bipush 11, 2) := by decide +kernel
theorem dX9_cellOf_18 : decode cX9_cellOf 18 = .ok (.iload_n 0, 1) := by decide +kernel
theorem dX9_cellOf_19 : decode cX9_cellOf 19 = .ok (.bipush 12, 2) := by decide +kernel
theorem dX9_cellOf_21 : decode cX9_cellOf 21 = .ok (.irem, 1) := by decide +kernel
theorem dX9_cellOf_22 : decode cX9_cellOf 22 = .ok (.isub, 1) := by decide +kernel
theorem dX9_cellOf_23 : decode cX9_cellOf 23 = .ok (.ireturn, 1) := by decide +kernel
def B_X9_cellOf_0 (X : Nat × (Nat → Int32)) (J : Nat → zCf) (R : zRt) : zCf := oILOAD 0 (oINS1 X M_X9_countryOf (oPI (zj (2)) (oIREM (oIFNE (J 16) (oILOAD 0 (oPI (zj (12)) (oIREM (J 23))))))))
set_option maxRecDepth 100000 in
theorem vb_X9_cellOf_0 {X : Nat × (Nat → Int32)} {R : zRt} : ∀ ls st h, B_X9_cellOf_0 X (zV X M_X9_cellOf (zQm M_X9_cellOf R) 0 0) R ls st h → zV X M_X9_cellOf (zQm M_X9_cellOf R) 0 0 0 ls st h := sd_iload_n dX9_cellOf_0 rfl (sd_ins1 dX9_cellOf_1 ms_X9_countryOf na_X9_countryOf ml_RX9_310 ⟨⟨Nat.le_of_ble_eq_true rfl, Nat.le_of_ble_eq_true rfl⟩, ⟨Nat.le_of_ble_eq_true rfl, Nat.le_of_ble_eq_true rfl⟩⟩ (sd_iconst dX9_cellOf_4 rfl (sd_irem dX9_cellOf_5 (sd_ifne dX9_cellOf_6 rfl (fun _ _ _ h => h) (sd_iload_n dX9_cellOf_9 rfl (sd_bipush dX9_cellOf_10 rfl (sd_irem dX9_cellOf_12 (sd_goto dX9_cellOf_13 rfl (fun _ _ _ h => h)))))))))
def B_X9_cellOf_16 (X : Nat × (Nat → Int32)) (J : Nat → zCf) (R : zRt) : zCf := oPI (zj (11)) (oILOAD 0 (oPI (zj (12)) (oIREM (oISUB (J 23)))))
set_option maxRecDepth 100000 in
theorem vb_X9_cellOf_16 {X : Nat × (Nat → Int32)} {R : zRt} : ∀ ls st h, B_X9_cellOf_16 X (zV X M_X9_cellOf (zQm M_X9_cellOf R) 0 0) R ls st h → zV X M_X9_cellOf (zQm M_X9_cellOf R) 0 0 16 ls st h := sd_bipush dX9_cellOf_16 rfl (sd_iload_n dX9_cellOf_18 rfl (sd_bipush dX9_cellOf_19 rfl (sd_irem dX9_cellOf_21 (sd_isub dX9_cellOf_22 (fun _ _ _ h => h)))))
def B_X9_cellOf_23 (X : Nat × (Nat → Int32)) (J : Nat → zCf) (R : zRt) : zCf := oIRET R
set_option maxRecDepth 100000 in
theorem vb_X9_cellOf_23 {X : Nat × (Nat → Int32)} {R : zRt} : ∀ ls st h, B_X9_cellOf_23 X (zV X M_X9_cellOf (zQm M_X9_cellOf R) 0 0) R ls st h → zV X M_X9_cellOf (zQm M_X9_cellOf R) 0 0 23 ls st h := sd_iret dX9_cellOf_23 rfl (Nat.le_of_ble_eq_true rfl) (Nat.le_of_ble_eq_true rfl)
theorem dX9_shown_0 : decode cX9_shown 0 = .ok (.iload_n 0, 1) := by decide +kernel
theorem dX9_shown_1 : decode cX9_shown 1 = .ok (.iconst 2, 1) := by decide +kernel
theorem dX9_shown_2 : decode cX9_shown 2 = .ok (.irem, 1) := by decide +kernel
theorem dX9_shown_3 : decode cX9_shown 3 = .ok (.ifCond .ne 11, 3) := by decide +kernel
theorem dX9_shown_6 : decode cX9_shown 6 = .ok (.iload_n 1, 1) := by decide +kernel
theorem dX9_shown_7 : decode cX9_shown 7 = .ok (.iconst 2, 1) := by decide +kernel
theorem dX9_shown_8 : decode cX9_shown 8 = .ok (.iload_n 0, 1) := by decide +kernel
theorem dX9_shown_9 : decode cX9_shown 9 = .ok (.imul, 1) := by decide +kernel
theorem dX9_shown_10 : decode cX9_shown 10 = .ok (.isub, 1) := by decide +kernel
theorem dX9_shown_11 : decode cX9_shown 11 = .ok (.goto 11, 3) := by decide +kernel
theorem dX9_shown_14 : decode cX9_shown 14 = .ok (.bipush 11, 2) := by decide +kernel
theorem dX9_shown_16 : decode cX9_shown 16 = .ok (.iload_n 1, 1) := by decide +kernel
theorem dX9_shown_17 : decode cX9_shown 17 = .ok (.isub, 1) := by decide +kernel
theorem dX9_shown_18 : decode cX9_shown 18 = .ok (.iconst 2, 1) := by decide +kernel
theorem dX9_shown_19 : decode cX9_shown 19 = .ok (.iload_n 0, 1) := by decide +kernel
theorem dX9_shown_20 : decode cX9_shown 20 = .ok (.imul, 1) := by decide +kernel
theorem dX9_shown_21 : decode cX9_shown 21 = .ok (.iadd, 1) := by decide +kernel
theorem dX9_shown_22 : decode cX9_shown 22 = .ok (.invokestatic 303, 3) := by decide +kernel
theorem dX9_shown_25 : decode cX9_shown 25 = .ok (.ireturn, 1) := by decide +kernel
def B_X9_shown_0 (X : Nat × (Nat → Int32)) (J : Nat → zCf) (R : zRt) : zCf := oILOAD 0 (oPI (zj (2)) (oIREM (oIFNE (J 14) (oILOAD 1 (oPI (zj (2)) (oILOAD 0 (oIMUL (oISUB (J 22)))))))))
set_option maxRecDepth 100000 in
theorem vb_X9_shown_0 {X : Nat × (Nat → Int32)} {R : zRt} : ∀ ls st h, B_X9_shown_0 X (zV X M_X9_shown (zQm M_X9_shown R) 0 0) R ls st h → zV X M_X9_shown (zQm M_X9_shown R) 0 0 0 ls st h := sd_iload_n dX9_shown_0 rfl (sd_iconst dX9_shown_1 rfl (sd_irem dX9_shown_2 (sd_ifne dX9_shown_3 rfl (fun _ _ _ h => h) (sd_iload_n dX9_shown_6 rfl (sd_iconst dX9_shown_7 rfl (sd_iload_n dX9_shown_8 rfl (sd_imul dX9_shown_9 (sd_isub dX9_shown_10 (sd_goto dX9_shown_11 rfl (fun _ _ _ h => h))))))))))
def B_X9_shown_14 (X : Nat × (Nat → Int32)) (J : Nat → zCf) (R : zRt) : zCf := oPI (zj (11)) (oILOAD 1 (oISUB (oPI (zj (2)) (oILOAD 0 (oIMUL (oIADD (J 22)))))))
set_option maxRecDepth 100000 in
theorem vb_X9_shown_14 {X : Nat × (Nat → Int32)} {R : zRt} : ∀ ls st h, B_X9_shown_14 X (zV X M_X9_shown (zQm M_X9_shown R) 0 0) R ls st h → zV X M_X9_shown (zQm M_X9_shown R) 0 0 14 ls st h := sd_bipush dX9_shown_14 rfl (sd_iload_n dX9_shown_16 rfl (sd_isub dX9_shown_17 (sd_iconst dX9_shown_18 rfl (sd_iload_n dX9_shown_19 rfl (sd_imul dX9_shown_20 (sd_iadd dX9_shown_21 (fun _ _ _ h => h)))))))
def B_X9_shown_22 (X : Nat × (Nat → Int32)) (J : Nat → zCf) (R : zRt) : zCf := oINS1 X M_X9_round (oIRET R)
set_option maxRecDepth 100000 in
theorem vb_X9_shown_22 {X : Nat × (Nat → Int32)} {R : zRt} : ∀ ls st h, B_X9_shown_22 X (zV X M_X9_shown (zQm M_X9_shown R) 0 0) R ls st h → zV X M_X9_shown (zQm M_X9_shown R) 0 0 22 ls st h := sd_ins1 dX9_shown_22 ms_X9_round na_X9_round ml_RX9_303 ⟨⟨Nat.le_of_ble_eq_true rfl, Nat.le_of_ble_eq_true rfl⟩, ⟨Nat.le_of_ble_eq_true rfl, Nat.le_of_ble_eq_true rfl⟩⟩ (sd_iret dX9_shown_25 rfl (Nat.le_of_ble_eq_true rfl) (Nat.le_of_ble_eq_true rfl))
theorem dX9_seenIn_0 : decode cX9_seenIn 0 = .ok (.aload_n 0, 1) := by decide +kernel
theorem dX9_seenIn_1 : decode cX9_seenIn 1 = .ok (.aload_n 0, 1) := by decide +kernel
theorem dX9_seenIn_2 : decode cX9_seenIn 2 = .ok (.getfield 17, 3) := by decide +kernel
theorem dX9_seenIn_5 : decode cX9_seenIn 5 = .ok (.iload_n 1, 1) := by decide +kernel
theorem dX9_seenIn_6 : decode cX9_seenIn 6 = .ok (.iload_n 2, 1) := by decide +kernel
theorem dX9_seenIn_7 : decode cX9_seenIn 7 = .ok (.invokestatic 313, 3) := by decide +kernel
theorem dX9_seenIn_10 : decode cX9_seenIn 10 = .ok (.invokevirtual 306, 3) := by decide +kernel
theorem dX9_seenIn_13 : decode cX9_seenIn 13 = .ok (.ireturn, 1) := by decide +kernel
def B_X9_seenIn_0 (X : Nat × (Nat → Int32)) (J : Nat → zCf) (R : zRt) : zCf := oALOAD 0 (oALOAD 0 (oGETR 9 15 (oILOAD 1 (oILOAD 2 (oINS2 X M_X9_shown (oINV2 X M_X9_topIn 9 (oIRET R)))))))
set_option maxRecDepth 100000 in
theorem vb_X9_seenIn_0 {X : Nat × (Nat → Int32)} {R : zRt} : ∀ ls st h, B_X9_seenIn_0 X (zV X M_X9_seenIn (zQm M_X9_seenIn R) 0 0) R ls st h → zV X M_X9_seenIn (zQm M_X9_seenIn R) 0 0 0 ls st h := sd_aload_n dX9_seenIn_0 rfl (sd_aload_n dX9_seenIn_1 rfl (sd_getr dX9_seenIn_2 zCl9 (Nat.le_of_ble_eq_true rfl) lk_RX9_17 (Or.inr ⟨_, rfl⟩) (sd_iload_n dX9_seenIn_5 rfl (sd_iload_n dX9_seenIn_6 rfl (sd_ins2 dX9_seenIn_7 ms_X9_shown na_X9_shown ml_RX9_313 ⟨⟨Nat.le_of_ble_eq_true rfl, Nat.le_of_ble_eq_true rfl⟩, ⟨Nat.le_of_ble_eq_true rfl, Nat.le_of_ble_eq_true rfl⟩⟩ (sd_inv2 dX9_seenIn_10 rfl mv_X9_topIn na_X9_topIn ml_RX9_306 ⟨⟨Nat.le_of_ble_eq_true rfl, Nat.le_of_ble_eq_true rfl⟩, ⟨Nat.le_of_ble_eq_true rfl, Nat.le_of_ble_eq_true rfl⟩⟩ (sd_iret dX9_seenIn_13 rfl (Nat.le_of_ble_eq_true rfl) (Nat.le_of_ble_eq_true rfl))))))))
theorem dX9_costOf_0 : decode cX9_costOf 0 = .ok (.aload_n 0, 1) := by decide +kernel
theorem dX9_costOf_1 : decode cX9_costOf 1 = .ok (.iload_n 1, 1) := by decide +kernel
theorem dX9_costOf_2 : decode cX9_costOf 2 = .ok (.invokestatic 310, 3) := by decide +kernel
theorem dX9_costOf_5 : decode cX9_costOf 5 = .ok (.iload_n 1, 1) := by decide +kernel
theorem dX9_costOf_6 : decode cX9_costOf 6 = .ok (.invokestatic 316, 3) := by decide +kernel
theorem dX9_costOf_9 : decode cX9_costOf 9 = .ok (.invokevirtual 319, 3) := by decide +kernel
theorem dX9_costOf_12 : decode cX9_costOf 12 = .ok (.istore_n 2, 1) := by decide +kernel
theorem dX9_costOf_13 : decode cX9_costOf 13 = .ok (.iload_n 2, 1) := by decide +kernel
theorem dX9_costOf_14 : decode cX9_costOf 14 = .ok (.bipush (-2), 2) := by decide +kernel
theorem dX9_costOf_16 : decode cX9_costOf 16 = .ok (.if_icmp .ne 7, 3) := by decide +kernel
theorem dX9_costOf_19 : decode cX9_costOf 19 = .ok (.iconst 1, 1) := by decide +kernel
theorem dX9_costOf_20 : decode cX9_costOf 20 = .ok (.goto 14, 3) := by decide +kernel
theorem dX9_costOf_23 : decode cX9_costOf 23 = .ok (.iconst 2, 1) := by decide +kernel
theorem dX9_costOf_24 : decode cX9_costOf 24 = .ok (.aload_n 0, 1) := by decide +kernel
theorem dX9_costOf_25 : decode cX9_costOf 25 = .ok (.getfield 289, 3) := by decide +kernel
theorem dX9_costOf_28 : decode cX9_costOf 28 = .ok (.getfield 233, 3) := by decide +kernel
theorem dX9_costOf_31 : decode cX9_costOf 31 = .ok (.iload_n 2, 1) := by decide +kernel
theorem dX9_costOf_32 : decode cX9_costOf 32 = .ok (.iaload, 1) := by decide +kernel
theorem dX9_costOf_33 : decode cX9_costOf 33 = .ok (.iadd, 1) := by decide +kernel
theorem dX9_costOf_34 : decode cX9_costOf 34 = .ok (.ireturn, 1) := by decide +kernel
def B_X9_costOf_0 (X : Nat × (Nat → Int32)) (J : Nat → zCf) (R : zRt) : zCf := oALOAD 0 (oILOAD 1 (oINS1 X M_X9_countryOf (oILOAD 1 (oINS1 X M_X9_cellOf (oINV2 X M_X9_seenIn 9 (oISTORE 1 2 (oILOAD 2 (oPI (zj (-2)) (oICNE (J 23) (oPI (zj (1)) (J 34)))))))))))
set_option maxRecDepth 100000 in
theorem vb_X9_costOf_0 {X : Nat × (Nat → Int32)} {R : zRt} : ∀ ls st h, B_X9_costOf_0 X (zV X M_X9_costOf (zQm M_X9_costOf R) 0 0) R ls st h → zV X M_X9_costOf (zQm M_X9_costOf R) 0 0 0 ls st h := sd_aload_n dX9_costOf_0 rfl (sd_iload_n dX9_costOf_1 rfl (sd_ins1 dX9_costOf_2 ms_X9_countryOf na_X9_countryOf ml_RX9_310 ⟨⟨Nat.le_of_ble_eq_true rfl, Nat.le_of_ble_eq_true rfl⟩, ⟨Nat.le_of_ble_eq_true rfl, Nat.le_of_ble_eq_true rfl⟩⟩ (sd_iload_n dX9_costOf_5 rfl (sd_ins1 dX9_costOf_6 ms_X9_cellOf na_X9_cellOf ml_RX9_316 ⟨⟨Nat.le_of_ble_eq_true rfl, Nat.le_of_ble_eq_true rfl⟩, ⟨Nat.le_of_ble_eq_true rfl, Nat.le_of_ble_eq_true rfl⟩⟩ (sd_inv2 dX9_costOf_9 rfl mv_X9_seenIn na_X9_seenIn ml_RX9_319 ⟨⟨Nat.le_of_ble_eq_true rfl, Nat.le_of_ble_eq_true rfl⟩, ⟨Nat.le_of_ble_eq_true rfl, Nat.le_of_ble_eq_true rfl⟩⟩ (sd_istore_n dX9_costOf_12 rfl (Nat.le_of_ble_eq_true rfl) (Or.inl rfl) (sd_iload_n dX9_costOf_13 rfl (sd_bipush dX9_costOf_14 rfl (sd_icne dX9_costOf_16 rfl (fun _ _ _ h => h) (sd_iconst dX9_costOf_19 rfl (sd_goto dX9_costOf_20 rfl (fun _ _ _ h => h))))))))))))
def B_X9_costOf_23 (X : Nat × (Nat → Int32)) (J : Nat → zCf) (R : zRt) : zCf := oPI (zj (2)) (oALOAD 0 (oGETR 9 3 (oGETR 8 8 (oILOAD 2 (oIALD (oIADD (J 34)))))))
set_option maxRecDepth 100000 in
theorem vb_X9_costOf_23 {X : Nat × (Nat → Int32)} {R : zRt} : ∀ ls st h, B_X9_costOf_23 X (zV X M_X9_costOf (zQm M_X9_costOf R) 0 0) R ls st h → zV X M_X9_costOf (zQm M_X9_costOf R) 0 0 23 ls st h := sd_iconst dX9_costOf_23 rfl (sd_aload_n dX9_costOf_24 rfl (sd_getr dX9_costOf_25 zCl9 (Nat.le_of_ble_eq_true rfl) lk_RX9_289 (Or.inl ⟨_, rfl⟩) (sd_getr dX9_costOf_28 zCl8 (Nat.le_of_ble_eq_true rfl) lk_RX9_233 (Or.inr ⟨_, rfl⟩) (sd_iload_n dX9_costOf_31 rfl (sd_iald dX9_costOf_32 (sd_iadd dX9_costOf_33 (fun _ _ _ h => h)))))))
def B_X9_costOf_34 (X : Nat × (Nat → Int32)) (J : Nat → zCf) (R : zRt) : zCf := oIRET R
set_option maxRecDepth 100000 in
theorem vb_X9_costOf_34 {X : Nat × (Nat → Int32)} {R : zRt} : ∀ ls st h, B_X9_costOf_34 X (zV X M_X9_costOf (zQm M_X9_costOf R) 0 0) R ls st h → zV X M_X9_costOf (zQm M_X9_costOf R) 0 0 34 ls st h := sd_iret dX9_costOf_34 rfl (Nat.le_of_ble_eq_true rfl) (Nat.le_of_ble_eq_true rfl)
theorem dX9_bit_0 : decode cX9_bit 0 = .ok (.aload_n 0, 1) := by decide +kernel
theorem dX9_bit_1 : decode cX9_bit 1 = .ok (.iconst 0, 1) := by decide +kernel
theorem dX9_bit_2 : decode cX9_bit 2 = .ok (.putfield 36, 3) := by decide +kernel
theorem dX9_bit_5 : decode cX9_bit 5 = .ok (.aload_n 0, 1) := by decide +kernel
theorem dX9_bit_6 : decode cX9_bit 6 = .ok (.iload_n 1, 1) := by decide +kernel
theorem dX9_bit_7 : decode cX9_bit 7 = .ok (.invokevirtual 322, 3) := by decide +kernel
theorem dX9_bit_10 : decode cX9_bit 10 = .ok (.ifCond .eq 13, 3) := by decide +kernel
theorem dX9_bit_13 : decode cX9_bit 13 = .ok (.iload_n 2, 1) := by decide +kernel
theorem dX9_bit_14 : decode cX9_bit 14 = .ok (.iconst 0, 1) := by decide +kernel
theorem dX9_bit_15 : decode cX9_bit 15 = .ok (.bipush 6, 2) := by decide +kernel
theorem dX9_bit_17 : decode cX9_bit 17 = .ok (.invokestatic 115, 3) := by decide +kernel
theorem dX9_bit_20 : decode cX9_bit 20 = .ok (.ifCond .ne 9, 3) := by decide +kernel
theorem dX9_bit_23 : decode cX9_bit 23 = .ok (.aload_n 0, 1) := by decide +kernel
theorem dX9_bit_24 : decode cX9_bit 24 = .ok (.iconst 1, 1) := by decide +kernel
theorem dX9_bit_25 : decode cX9_bit 25 = .ok (.invokevirtual 42, 3) := by decide +kernel
theorem dX9_bit_28 : decode cX9_bit 28 = .ok (.ireturn, 1) := by decide +kernel
theorem dX9_bit_29 : decode cX9_bit 29 = .ok (.iload_n 2, 1) := by decide +kernel
theorem dX9_bit_30 : decode cX9_bit 30 = .ok (.tableswitch 139 0 5 #[38, 52, 66, 79, 109, 125], 38) := by decide +kernel
theorem dX9_bit_68 : decode cX9_bit 68 = .ok (.aload_n 0, 1) := by decide +kernel
theorem dX9_bit_69 : decode cX9_bit 69 = .ok (.aload_n 0, 1) := by decide +kernel
theorem dX9_bit_70 : decode cX9_bit 70 = .ok (.getfield 289, 3) := by decide +kernel
theorem dX9_bit_73 : decode cX9_bit 73 = .ok (.getfield 233, 3) := by decide +kernel
theorem dX9_bit_76 : decode cX9_bit 76 = .ok (.iload_n 1, 1) := by decide +kernel
theorem dX9_bit_77 : decode cX9_bit 77 = .ok (.iaload, 1) := by decide +kernel
theorem dX9_bit_78 : decode cX9_bit 78 = .ok (.invokevirtual 46, 3) := by decide +kernel
theorem dX9_bit_81 : decode cX9_bit 81 = .ok (.ireturn, 1) := by decide +kernel
theorem dX9_bit_82 : decode cX9_bit 82 = .ok (.aload_n 0, 1) := by decide +kernel
theorem dX9_bit_83 : decode cX9_bit 83 = .ok (.aload_n 0, 1) := by decide +kernel
theorem dX9_bit_84 : decode cX9_bit 84 = .ok (.getfield 289, 3) := by decide +kernel
theorem dX9_bit_87 : decode cX9_bit 87 = .ok (.getfield 238, 3) := by decide +kernel
theorem dX9_bit_90 : decode cX9_bit 90 = .ok (.iload_n 1, 1) := by decide +kernel
theorem dX9_bit_91 : decode cX9_bit 91 = .ok (.iaload, 1) := by decide +kernel
theorem dX9_bit_92 : decode cX9_bit 92 = .ok (.invokevirtual 46, 3) := by decide +kernel
theorem dX9_bit_95 : decode cX9_bit 95 = .ok (.ireturn, 1) := by decide +kernel
theorem dX9_bit_96 : decode cX9_bit 96 = .ok (.aload_n 0, 1) := by decide +kernel
theorem dX9_bit_97 : decode cX9_bit 97 = .ok (.aload_n 0, 1) := by decide +kernel
theorem dX9_bit_98 : decode cX9_bit 98 = .ok (.getfield 17, 3) := by decide +kernel
theorem dX9_bit_101 : decode cX9_bit 101 = .ok (.iconst 0, 1) := by decide +kernel
theorem dX9_bit_102 : decode cX9_bit 102 = .ok (.iload_n 1, 1) := by decide +kernel
theorem dX9_bit_103 : decode cX9_bit 103 = .ok (.iadd, 1) := by decide +kernel
theorem dX9_bit_104 : decode cX9_bit 104 = .ok (.iaload, 1) := by decide +kernel
theorem dX9_bit_105 : decode cX9_bit 105 = .ok (.invokevirtual 46, 3) := by decide +kernel
theorem dX9_bit_108 : decode cX9_bit 108 = .ok (.ireturn, 1) := by decide +kernel
theorem dX9_bit_109 : decode cX9_bit 109 = .ok (.aload_n 0, 1) := by decide +kernel
theorem dX9_bit_110 : decode cX9_bit 110 = .ok (.aload_n 0, 1) := by decide +kernel
theorem dX9_bit_111 : decode cX9_bit 111 = .ok (.aload_n 0, 1) := by decide +kernel
theorem dX9_bit_112 : decode cX9_bit 112 = .ok (.getfield 17, 3) := by decide +kernel
theorem dX9_bit_115 : decode cX9_bit 115 = .ok (.aload_n 0, 1) := by decide +kernel
theorem dX9_bit_116 : decode cX9_bit 116 = .ok (.getfield 17, 3) := by decide +kernel
theorem dX9_bit_119 : decode cX9_bit 119 = .ok (.iconst 0, 1) := by decide +kernel
theorem dX9_bit_120 : decode cX9_bit 120 = .ok (.iload_n 1, 1) := by decide +kernel
theorem dX9_bit_121 : decode cX9_bit 121 = .ok (.iadd, 1) := by decide +kernel
theorem dX9_bit_122 : decode cX9_bit 122 = .ok (.iaload, 1) := by decide +kernel
theorem dX9_bit_123 : decode cX9_bit 123 = .ok (.invokevirtual 306, 3) := by decide +kernel
theorem dX9_bit_126 : decode cX9_bit 126 = .ok (.iload_n 1, 1) := by decide +kernel
theorem dX9_bit_127 : decode cX9_bit 127 = .ok (.if_icmp .ne 7, 3) := by decide +kernel
theorem dX9_bit_130 : decode cX9_bit 130 = .ok (.iconst 1, 1) := by decide +kernel
theorem dX9_bit_131 : decode cX9_bit 131 = .ok (.goto 4, 3) := by decide +kernel
theorem dX9_bit_134 : decode cX9_bit 134 = .ok (.iconst 0, 1) := by decide +kernel
theorem dX9_bit_135 : decode cX9_bit 135 = .ok (.invokevirtual 46, 3) := by decide +kernel
theorem dX9_bit_138 : decode cX9_bit 138 = .ok (.ireturn, 1) := by decide +kernel
theorem dX9_bit_139 : decode cX9_bit 139 = .ok (.aload_n 0, 1) := by decide +kernel
theorem dX9_bit_140 : decode cX9_bit 140 = .ok (.aload_n 0, 1) := by decide +kernel
theorem dX9_bit_141 : decode cX9_bit 141 = .ok (.getfield 289, 3) := by decide +kernel
theorem dX9_bit_144 : decode cX9_bit 144 = .ok (.getfield 233, 3) := by decide +kernel
theorem dX9_bit_147 : decode cX9_bit 147 = .ok (.iload_n 1, 1) := by decide +kernel
theorem dX9_bit_148 : decode cX9_bit 148 = .ok (.iaload, 1) := by decide +kernel
theorem dX9_bit_149 : decode cX9_bit 149 = .ok (.iconst 1, 1) := by decide +kernel
theorem dX9_bit_150 : decode cX9_bit 150 = .ok (.iadd, 1) := by decide +kernel
theorem dX9_bit_151 : decode cX9_bit 151 = .ok (.invokevirtual 46, 3) := by decide +kernel
theorem dX9_bit_154 : decode cX9_bit 154 = .ok (.ireturn, 1) := by decide +kernel
theorem dX9_bit_155 : decode cX9_bit 155 = .ok (.aload_n 0, 1) := by decide +kernel
theorem dX9_bit_156 : decode cX9_bit 156 = .ok (.aload_n 0, 1) := by decide +kernel
theorem dX9_bit_157 : decode cX9_bit 157 = .ok (.getfield 289, 3) := by decide +kernel
theorem dX9_bit_160 : decode cX9_bit 160 = .ok (.getfield 240, 3) := by decide +kernel
theorem dX9_bit_163 : decode cX9_bit 163 = .ok (.iload_n 1, 1) := by decide +kernel
theorem dX9_bit_164 : decode cX9_bit 164 = .ok (.iaload, 1) := by decide +kernel
theorem dX9_bit_165 : decode cX9_bit 165 = .ok (.invokevirtual 46, 3) := by decide +kernel
theorem dX9_bit_168 : decode cX9_bit 168 = .ok (.ireturn, 1) := by decide +kernel
theorem dX9_bit_169 : decode cX9_bit 169 = .ok (.aload_n 0, 1) := by decide +kernel
theorem dX9_bit_170 : decode cX9_bit 170 = .ok (.aload_n 0, 1) := by decide +kernel
theorem dX9_bit_171 : decode cX9_bit 171 = .ok (.getfield 289, 3) := by decide +kernel
theorem dX9_bit_174 : decode cX9_bit 174 = .ok (.getfield 242, 3) := by decide +kernel
theorem dX9_bit_177 : decode cX9_bit 177 = .ok (.iload_n 1, 1) := by decide +kernel
theorem dX9_bit_178 : decode cX9_bit 178 = .ok (.iaload, 1) := by decide +kernel
theorem dX9_bit_179 : decode cX9_bit 179 = .ok (.invokevirtual 46, 3) := by decide +kernel
theorem dX9_bit_182 : decode cX9_bit 182 = .ok (.ireturn, 1) := by decide +kernel
def B_X9_bit_0 (X : Nat × (Nat → Int32)) (J : Nat → zCf) (R : zRt) : zCf := oALOAD 0 (oPI (zj (0)) (oPUTI 9 0 (oALOAD 0 (oILOAD 1 (oINV1 X M_X9_isBit 9 (oIFEQ (J 23) (oILOAD 2 (oPI (zj (0)) (oPI (zj (6)) (oINS3 X M_X9_in (oIFNE (J 29) (J 23))))))))))))
set_option maxRecDepth 100000 in
theorem vb_X9_bit_0 {X : Nat × (Nat → Int32)} {R : zRt} : ∀ ls st h, B_X9_bit_0 X (zV X M_X9_bit (zQm M_X9_bit R) 0 0) R ls st h → zV X M_X9_bit (zQm M_X9_bit R) 0 0 0 ls st h := sd_aload_n dX9_bit_0 rfl (sd_iconst dX9_bit_1 rfl (sd_puti dX9_bit_2 zCl9 (Nat.le_of_ble_eq_true rfl) lk_RX9_36 rfl (Or.inl rfl) (sd_aload_n dX9_bit_5 rfl (sd_iload_n dX9_bit_6 rfl (sd_inv1 dX9_bit_7 rfl mv_X9_isBit na_X9_isBit ml_RX9_322 ⟨⟨Nat.le_of_ble_eq_true rfl, Nat.le_of_ble_eq_true rfl⟩, ⟨Nat.le_of_ble_eq_true rfl, Nat.le_of_ble_eq_true rfl⟩⟩ (sd_ifeq dX9_bit_10 rfl (fun _ _ _ h => h) (sd_iload_n dX9_bit_13 rfl (sd_iconst dX9_bit_14 rfl (sd_bipush dX9_bit_15 rfl (sd_ins3 dX9_bit_17 ms_X9_in na_X9_in ml_RX9_115 ⟨⟨Nat.le_of_ble_eq_true rfl, Nat.le_of_ble_eq_true rfl⟩, ⟨Nat.le_of_ble_eq_true rfl, Nat.le_of_ble_eq_true rfl⟩⟩ (sd_ifne dX9_bit_20 rfl (fun _ _ _ h => h) (fun _ _ _ h => h))))))))))))
def B_X9_bit_23 (X : Nat × (Nat → Int32)) (J : Nat → zCf) (R : zRt) : zCf := oALOAD 0 (oPI (zj (1)) (oINV1 X M_X9_refused 9 (oIRET R)))
set_option maxRecDepth 100000 in
theorem vb_X9_bit_23 {X : Nat × (Nat → Int32)} {R : zRt} : ∀ ls st h, B_X9_bit_23 X (zV X M_X9_bit (zQm M_X9_bit R) 0 0) R ls st h → zV X M_X9_bit (zQm M_X9_bit R) 0 0 23 ls st h := sd_aload_n dX9_bit_23 rfl (sd_iconst dX9_bit_24 rfl (sd_inv1 dX9_bit_25 rfl mv_X9_refused na_X9_refused ml_RX9_42 ⟨⟨Nat.le_of_ble_eq_true rfl, Nat.le_of_ble_eq_true rfl⟩, ⟨Nat.le_of_ble_eq_true rfl, Nat.le_of_ble_eq_true rfl⟩⟩ (sd_iret dX9_bit_28 rfl (Nat.le_of_ble_eq_true rfl) (Nat.le_of_ble_eq_true rfl))))
def B_X9_bit_29 (X : Nat × (Nat → Int32)) (J : Nat → zCf) (R : zRt) : zCf := oILOAD 2 (oTSW (0) 6 (fun i => J ([68, 82, 96, 109, 139, 155].getD i 0)) (J 169))
set_option maxRecDepth 100000 in
theorem vb_X9_bit_29 {X : Nat × (Nat → Int32)} {R : zRt} : ∀ ls st h, B_X9_bit_29 X (zV X M_X9_bit (zQm M_X9_bit R) 0 0) R ls st h → zV X M_X9_bit (zQm M_X9_bit R) 0 0 29 ls st h := sd_iload_n dX9_bit_29 rfl (sd_tsw (tg := fun i => [68, 82, 96, 109, 139, 155].getD i 0) dX9_bit_30 rfl rfl (fun i hi => by
    match i, hi with
    | 0, _ => exact ⟨_, rfl, rfl⟩
    | 1, _ => exact ⟨_, rfl, rfl⟩
    | 2, _ => exact ⟨_, rfl, rfl⟩
    | 3, _ => exact ⟨_, rfl, rfl⟩
    | 4, _ => exact ⟨_, rfl, rfl⟩
    | 5, _ => exact ⟨_, rfl, rfl⟩
    | i + 6, hi => omega) (fun _ _ _ h => h) (fun _ _ _ _ _ h => h))
def B_X9_bit_68 (X : Nat × (Nat → Int32)) (J : Nat → zCf) (R : zRt) : zCf := oALOAD 0 (oALOAD 0 (oGETR 9 3 (oGETR 8 8 (oILOAD 1 (oIALD (oINV1 X M_X9_good 9 (oIRET R)))))))
set_option maxRecDepth 100000 in
theorem vb_X9_bit_68 {X : Nat × (Nat → Int32)} {R : zRt} : ∀ ls st h, B_X9_bit_68 X (zV X M_X9_bit (zQm M_X9_bit R) 0 0) R ls st h → zV X M_X9_bit (zQm M_X9_bit R) 0 0 68 ls st h := sd_aload_n dX9_bit_68 rfl (sd_aload_n dX9_bit_69 rfl (sd_getr dX9_bit_70 zCl9 (Nat.le_of_ble_eq_true rfl) lk_RX9_289 (Or.inl ⟨_, rfl⟩) (sd_getr dX9_bit_73 zCl8 (Nat.le_of_ble_eq_true rfl) lk_RX9_233 (Or.inr ⟨_, rfl⟩) (sd_iload_n dX9_bit_76 rfl (sd_iald dX9_bit_77 (sd_inv1 dX9_bit_78 rfl mv_X9_good na_X9_good ml_RX9_46 ⟨⟨Nat.le_of_ble_eq_true rfl, Nat.le_of_ble_eq_true rfl⟩, ⟨Nat.le_of_ble_eq_true rfl, Nat.le_of_ble_eq_true rfl⟩⟩ (sd_iret dX9_bit_81 rfl (Nat.le_of_ble_eq_true rfl) (Nat.le_of_ble_eq_true rfl))))))))
def B_X9_bit_82 (X : Nat × (Nat → Int32)) (J : Nat → zCf) (R : zRt) : zCf := oALOAD 0 (oALOAD 0 (oGETR 9 3 (oGETR 8 9 (oILOAD 1 (oIALD (oINV1 X M_X9_good 9 (oIRET R)))))))
set_option maxRecDepth 100000 in
theorem vb_X9_bit_82 {X : Nat × (Nat → Int32)} {R : zRt} : ∀ ls st h, B_X9_bit_82 X (zV X M_X9_bit (zQm M_X9_bit R) 0 0) R ls st h → zV X M_X9_bit (zQm M_X9_bit R) 0 0 82 ls st h := sd_aload_n dX9_bit_82 rfl (sd_aload_n dX9_bit_83 rfl (sd_getr dX9_bit_84 zCl9 (Nat.le_of_ble_eq_true rfl) lk_RX9_289 (Or.inl ⟨_, rfl⟩) (sd_getr dX9_bit_87 zCl8 (Nat.le_of_ble_eq_true rfl) lk_RX9_238 (Or.inr ⟨_, rfl⟩) (sd_iload_n dX9_bit_90 rfl (sd_iald dX9_bit_91 (sd_inv1 dX9_bit_92 rfl mv_X9_good na_X9_good ml_RX9_46 ⟨⟨Nat.le_of_ble_eq_true rfl, Nat.le_of_ble_eq_true rfl⟩, ⟨Nat.le_of_ble_eq_true rfl, Nat.le_of_ble_eq_true rfl⟩⟩ (sd_iret dX9_bit_95 rfl (Nat.le_of_ble_eq_true rfl) (Nat.le_of_ble_eq_true rfl))))))))
def B_X9_bit_96 (X : Nat × (Nat → Int32)) (J : Nat → zCf) (R : zRt) : zCf := oALOAD 0 (oALOAD 0 (oGETR 9 15 (oPI (zj (0)) (oILOAD 1 (oIADD (oIALD (oINV1 X M_X9_good 9 (oIRET R))))))))
set_option maxRecDepth 100000 in
theorem vb_X9_bit_96 {X : Nat × (Nat → Int32)} {R : zRt} : ∀ ls st h, B_X9_bit_96 X (zV X M_X9_bit (zQm M_X9_bit R) 0 0) R ls st h → zV X M_X9_bit (zQm M_X9_bit R) 0 0 96 ls st h := sd_aload_n dX9_bit_96 rfl (sd_aload_n dX9_bit_97 rfl (sd_getr dX9_bit_98 zCl9 (Nat.le_of_ble_eq_true rfl) lk_RX9_17 (Or.inr ⟨_, rfl⟩) (sd_iconst dX9_bit_101 rfl (sd_iload_n dX9_bit_102 rfl (sd_iadd dX9_bit_103 (sd_iald dX9_bit_104 (sd_inv1 dX9_bit_105 rfl mv_X9_good na_X9_good ml_RX9_46 ⟨⟨Nat.le_of_ble_eq_true rfl, Nat.le_of_ble_eq_true rfl⟩, ⟨Nat.le_of_ble_eq_true rfl, Nat.le_of_ble_eq_true rfl⟩⟩ (sd_iret dX9_bit_108 rfl (Nat.le_of_ble_eq_true rfl) (Nat.le_of_ble_eq_true rfl)))))))))
def B_X9_bit_109 (X : Nat × (Nat → Int32)) (J : Nat → zCf) (R : zRt) : zCf := oALOAD 0 (oALOAD 0 (oALOAD 0 (oGETR 9 15 (oALOAD 0 (oGETR 9 15 (oPI (zj (0)) (oILOAD 1 (oIADD (oIALD (oINV2 X M_X9_topIn 9 (oILOAD 1 (oICNE (J 134) (oPI (zj (1)) (J 135))))))))))))))
set_option maxRecDepth 100000 in
theorem vb_X9_bit_109 {X : Nat × (Nat → Int32)} {R : zRt} : ∀ ls st h, B_X9_bit_109 X (zV X M_X9_bit (zQm M_X9_bit R) 0 0) R ls st h → zV X M_X9_bit (zQm M_X9_bit R) 0 0 109 ls st h := sd_aload_n dX9_bit_109 rfl (sd_aload_n dX9_bit_110 rfl (sd_aload_n dX9_bit_111 rfl (sd_getr dX9_bit_112 zCl9 (Nat.le_of_ble_eq_true rfl) lk_RX9_17 (Or.inr ⟨_, rfl⟩) (sd_aload_n dX9_bit_115 rfl (sd_getr dX9_bit_116 zCl9 (Nat.le_of_ble_eq_true rfl) lk_RX9_17 (Or.inr ⟨_, rfl⟩) (sd_iconst dX9_bit_119 rfl (sd_iload_n dX9_bit_120 rfl (sd_iadd dX9_bit_121 (sd_iald dX9_bit_122 (sd_inv2 dX9_bit_123 rfl mv_X9_topIn na_X9_topIn ml_RX9_306 ⟨⟨Nat.le_of_ble_eq_true rfl, Nat.le_of_ble_eq_true rfl⟩, ⟨Nat.le_of_ble_eq_true rfl, Nat.le_of_ble_eq_true rfl⟩⟩ (sd_iload_n dX9_bit_126 rfl (sd_icne dX9_bit_127 rfl (fun _ _ _ h => h) (sd_iconst dX9_bit_130 rfl (sd_goto dX9_bit_131 rfl (fun _ _ _ h => h)))))))))))))))
def B_X9_bit_134 (X : Nat × (Nat → Int32)) (J : Nat → zCf) (R : zRt) : zCf := oPI (zj (0)) (J 135)
set_option maxRecDepth 100000 in
theorem vb_X9_bit_134 {X : Nat × (Nat → Int32)} {R : zRt} : ∀ ls st h, B_X9_bit_134 X (zV X M_X9_bit (zQm M_X9_bit R) 0 0) R ls st h → zV X M_X9_bit (zQm M_X9_bit R) 0 0 134 ls st h := sd_iconst dX9_bit_134 rfl (fun _ _ _ h => h)
def B_X9_bit_135 (X : Nat × (Nat → Int32)) (J : Nat → zCf) (R : zRt) : zCf := oINV1 X M_X9_good 9 (oIRET R)
set_option maxRecDepth 100000 in
theorem vb_X9_bit_135 {X : Nat × (Nat → Int32)} {R : zRt} : ∀ ls st h, B_X9_bit_135 X (zV X M_X9_bit (zQm M_X9_bit R) 0 0) R ls st h → zV X M_X9_bit (zQm M_X9_bit R) 0 0 135 ls st h := sd_inv1 dX9_bit_135 rfl mv_X9_good na_X9_good ml_RX9_46 ⟨⟨Nat.le_of_ble_eq_true rfl, Nat.le_of_ble_eq_true rfl⟩, ⟨Nat.le_of_ble_eq_true rfl, Nat.le_of_ble_eq_true rfl⟩⟩ (sd_iret dX9_bit_138 rfl (Nat.le_of_ble_eq_true rfl) (Nat.le_of_ble_eq_true rfl))
def B_X9_bit_139 (X : Nat × (Nat → Int32)) (J : Nat → zCf) (R : zRt) : zCf := oALOAD 0 (oALOAD 0 (oGETR 9 3 (oGETR 8 8 (oILOAD 1 (oIALD (oPI (zj (1)) (oIADD (oINV1 X M_X9_good 9 (oIRET R)))))))))
set_option maxRecDepth 100000 in
theorem vb_X9_bit_139 {X : Nat × (Nat → Int32)} {R : zRt} : ∀ ls st h, B_X9_bit_139 X (zV X M_X9_bit (zQm M_X9_bit R) 0 0) R ls st h → zV X M_X9_bit (zQm M_X9_bit R) 0 0 139 ls st h := sd_aload_n dX9_bit_139 rfl (sd_aload_n dX9_bit_140 rfl (sd_getr dX9_bit_141 zCl9 (Nat.le_of_ble_eq_true rfl) lk_RX9_289 (Or.inl ⟨_, rfl⟩) (sd_getr dX9_bit_144 zCl8 (Nat.le_of_ble_eq_true rfl) lk_RX9_233 (Or.inr ⟨_, rfl⟩) (sd_iload_n dX9_bit_147 rfl (sd_iald dX9_bit_148 (sd_iconst dX9_bit_149 rfl (sd_iadd dX9_bit_150 (sd_inv1 dX9_bit_151 rfl mv_X9_good na_X9_good ml_RX9_46 ⟨⟨Nat.le_of_ble_eq_true rfl, Nat.le_of_ble_eq_true rfl⟩, ⟨Nat.le_of_ble_eq_true rfl, Nat.le_of_ble_eq_true rfl⟩⟩ (sd_iret dX9_bit_154 rfl (Nat.le_of_ble_eq_true rfl) (Nat.le_of_ble_eq_true rfl))))))))))
def B_X9_bit_155 (X : Nat × (Nat → Int32)) (J : Nat → zCf) (R : zRt) : zCf := oALOAD 0 (oALOAD 0 (oGETR 9 3 (oGETR 8 10 (oILOAD 1 (oIALD (oINV1 X M_X9_good 9 (oIRET R)))))))
set_option maxRecDepth 100000 in
theorem vb_X9_bit_155 {X : Nat × (Nat → Int32)} {R : zRt} : ∀ ls st h, B_X9_bit_155 X (zV X M_X9_bit (zQm M_X9_bit R) 0 0) R ls st h → zV X M_X9_bit (zQm M_X9_bit R) 0 0 155 ls st h := sd_aload_n dX9_bit_155 rfl (sd_aload_n dX9_bit_156 rfl (sd_getr dX9_bit_157 zCl9 (Nat.le_of_ble_eq_true rfl) lk_RX9_289 (Or.inl ⟨_, rfl⟩) (sd_getr dX9_bit_160 zCl8 (Nat.le_of_ble_eq_true rfl) lk_RX9_240 (Or.inr ⟨_, rfl⟩) (sd_iload_n dX9_bit_163 rfl (sd_iald dX9_bit_164 (sd_inv1 dX9_bit_165 rfl mv_X9_good na_X9_good ml_RX9_46 ⟨⟨Nat.le_of_ble_eq_true rfl, Nat.le_of_ble_eq_true rfl⟩, ⟨Nat.le_of_ble_eq_true rfl, Nat.le_of_ble_eq_true rfl⟩⟩ (sd_iret dX9_bit_168 rfl (Nat.le_of_ble_eq_true rfl) (Nat.le_of_ble_eq_true rfl))))))))
def B_X9_bit_169 (X : Nat × (Nat → Int32)) (J : Nat → zCf) (R : zRt) : zCf := oALOAD 0 (oALOAD 0 (oGETR 9 3 (oGETR 8 11 (oILOAD 1 (oIALD (oINV1 X M_X9_good 9 (oIRET R)))))))
set_option maxRecDepth 100000 in
theorem vb_X9_bit_169 {X : Nat × (Nat → Int32)} {R : zRt} : ∀ ls st h, B_X9_bit_169 X (zV X M_X9_bit (zQm M_X9_bit R) 0 0) R ls st h → zV X M_X9_bit (zQm M_X9_bit R) 0 0 169 ls st h := sd_aload_n dX9_bit_169 rfl (sd_aload_n dX9_bit_170 rfl (sd_getr dX9_bit_171 zCl9 (Nat.le_of_ble_eq_true rfl) lk_RX9_289 (Or.inl ⟨_, rfl⟩) (sd_getr dX9_bit_174 zCl8 (Nat.le_of_ble_eq_true rfl) lk_RX9_242 (Or.inr ⟨_, rfl⟩) (sd_iload_n dX9_bit_177 rfl (sd_iald dX9_bit_178 (sd_inv1 dX9_bit_179 rfl mv_X9_good na_X9_good ml_RX9_46 ⟨⟨Nat.le_of_ble_eq_true rfl, Nat.le_of_ble_eq_true rfl⟩, ⟨Nat.le_of_ble_eq_true rfl, Nat.le_of_ble_eq_true rfl⟩⟩ (sd_iret dX9_bit_182 rfl (Nat.le_of_ble_eq_true rfl) (Nat.le_of_ble_eq_true rfl))))))))
theorem dX9_refusesCell_0 : decode cX9_refusesCell 0 = .ok (.aload_n 0, 1) := by decide +kernel
theorem dX9_refusesCell_1 : decode cX9_refusesCell 1 = .ok (.getfield 289, 3) := by decide +kernel
theorem dX9_refusesCell_4 : decode cX9_refusesCell 4 = .ok (.ifnonnull 7, 3) := by decide +kernel
theorem dX9_refusesCell_7 : decode cX9_refusesCell 7 = .ok (.iconst 1, 1) := by decide +kernel
theorem dX9_refusesCell_8 : decode cX9_refusesCell 8 = .ok (.goto 18, 3) := by decide +kernel
theorem dX9_refusesCell_11 : decode cX9_refusesCell 11 = .ok (.iload_n 1, 1) := by decide +kernel
theorem dX9_refusesCell_12 : decode cX9_refusesCell 12 = .ok (.iconst 0, 1) := by decide +kernel
theorem dX9_refusesCell_13 : decode cX9_refusesCell 13 = .ok (.bipush 11, 2) := by decide +kernel
theorem dX9_refusesCell_15 : decode cX9_refusesCell 15 = .ok (.invokestatic 115, 3) := by decide +kernel
theorem dX9_refusesCell_18 : decode cX9_refusesCell 18 = .ok (.ifCond .eq 7, 3) := by decide +kernel
theorem dX9_refusesCell_21 : decode cX9_refusesCell 21 = .ok (.iconst 0, 1) := by decide +kernel
theorem dX9_refusesCell_22 : decode cX9_refusesCell 22 = .ok (.goto 4, 3) := by decide +kernel
theorem dX9_refusesCell_25 : decode cX9_refusesCell 25 = .ok (.iconst 2, 1) := by decide +kernel
theorem dX9_refusesCell_26 : decode cX9_refusesCell 26 = .ok (.ireturn, 1) := by decide +kernel
def B_X9_refusesCell_0 (X : Nat × (Nat → Int32)) (J : Nat → zCf) (R : zRt) : zCf := oALOAD 0 (oGETR 9 3 (oIFNONNULL (J 11) (oPI (zj (1)) (J 26))))
set_option maxRecDepth 100000 in
theorem vb_X9_refusesCell_0 {X : Nat × (Nat → Int32)} {R : zRt} : ∀ ls st h, B_X9_refusesCell_0 X (zV X M_X9_refusesCell (zQm M_X9_refusesCell R) 0 0) R ls st h → zV X M_X9_refusesCell (zQm M_X9_refusesCell R) 0 0 0 ls st h := sd_aload_n dX9_refusesCell_0 rfl (sd_getr dX9_refusesCell_1 zCl9 (Nat.le_of_ble_eq_true rfl) lk_RX9_289 (Or.inl ⟨_, rfl⟩) (sd_ifnonnull dX9_refusesCell_4 rfl (fun _ _ _ h => h) (sd_iconst dX9_refusesCell_7 rfl (sd_goto dX9_refusesCell_8 rfl (fun _ _ _ h => h)))))
def B_X9_refusesCell_11 (X : Nat × (Nat → Int32)) (J : Nat → zCf) (R : zRt) : zCf := oILOAD 1 (oPI (zj (0)) (oPI (zj (11)) (oINS3 X M_X9_in (oIFEQ (J 25) (oPI (zj (0)) (J 26))))))
set_option maxRecDepth 100000 in
theorem vb_X9_refusesCell_11 {X : Nat × (Nat → Int32)} {R : zRt} : ∀ ls st h, B_X9_refusesCell_11 X (zV X M_X9_refusesCell (zQm M_X9_refusesCell R) 0 0) R ls st h → zV X M_X9_refusesCell (zQm M_X9_refusesCell R) 0 0 11 ls st h := sd_iload_n dX9_refusesCell_11 rfl (sd_iconst dX9_refusesCell_12 rfl (sd_bipush dX9_refusesCell_13 rfl (sd_ins3 dX9_refusesCell_15 ms_X9_in na_X9_in ml_RX9_115 ⟨⟨Nat.le_of_ble_eq_true rfl, Nat.le_of_ble_eq_true rfl⟩, ⟨Nat.le_of_ble_eq_true rfl, Nat.le_of_ble_eq_true rfl⟩⟩ (sd_ifeq dX9_refusesCell_18 rfl (fun _ _ _ h => h) (sd_iconst dX9_refusesCell_21 rfl (sd_goto dX9_refusesCell_22 rfl (fun _ _ _ h => h)))))))
def B_X9_refusesCell_25 (X : Nat × (Nat → Int32)) (J : Nat → zCf) (R : zRt) : zCf := oPI (zj (2)) (J 26)
set_option maxRecDepth 100000 in
theorem vb_X9_refusesCell_25 {X : Nat × (Nat → Int32)} {R : zRt} : ∀ ls st h, B_X9_refusesCell_25 X (zV X M_X9_refusesCell (zQm M_X9_refusesCell R) 0 0) R ls st h → zV X M_X9_refusesCell (zQm M_X9_refusesCell R) 0 0 25 ls st h := sd_iconst dX9_refusesCell_25 rfl (fun _ _ _ h => h)
def B_X9_refusesCell_26 (X : Nat × (Nat → Int32)) (J : Nat → zCf) (R : zRt) : zCf := oIRET R
set_option maxRecDepth 100000 in
theorem vb_X9_refusesCell_26 {X : Nat × (Nat → Int32)} {R : zRt} : ∀ ls st h, B_X9_refusesCell_26 X (zV X M_X9_refusesCell (zQm M_X9_refusesCell R) 0 0) R ls st h → zV X M_X9_refusesCell (zQm M_X9_refusesCell R) 0 0 26 ls st h := sd_iret dX9_refusesCell_26 rfl (Nat.le_of_ble_eq_true rfl) (Nat.le_of_ble_eq_true rfl)
theorem dX9_top_0 : decode cX9_top 0 = .ok (.aload_n 0, 1) := by decide +kernel
theorem dX9_top_1 : decode cX9_top 1 = .ok (.iconst 0, 1) := by decide +kernel
theorem dX9_top_2 : decode cX9_top 2 = .ok (.putfield 36, 3) := by decide +kernel
theorem dX9_top_5 : decode cX9_top 5 = .ok (.aload_n 0, 1) := by decide +kernel
theorem dX9_top_6 : decode cX9_top 6 = .ok (.iload_n 1, 1) := by decide +kernel
theorem dX9_top_7 : decode cX9_top 7 = .ok (.invokevirtual 325, 3) := by decide +kernel
theorem dX9_top_10 : decode cX9_top 10 = .ok (.istore_n 2, 1) := by decide +kernel
theorem dX9_top_11 : decode cX9_top 11 = .ok (.iload_n 2, 1) := by decide +kernel
theorem dX9_top_12 : decode cX9_top 12 = .ok (.ifCond .le 11, 3) := by decide +kernel
theorem dX9_top_15 : decode cX9_top 15 = .ok (.aload_n 0, 1) := by decide +kernel
theorem dX9_top_16 : decode cX9_top 16 = .ok (.iload_n 2, 1) := by decide +kernel
theorem dX9_top_17 : decode cX9_top 17 = .ok (.invokevirtual 42, 3) := by decide +kernel
theorem dX9_top_20 : decode cX9_top 20 = .ok (.goto 16, 3) := by decide +kernel
theorem dX9_top_23 : decode cX9_top 23 = .ok (.aload_n 0, 1) := by decide +kernel
theorem dX9_top_24 : decode cX9_top 24 = .ok (.aload_n 0, 1) := by decide +kernel
theorem dX9_top_25 : decode cX9_top 25 = .ok (.aload_n 0, 1) := by decide +kernel
theorem dX9_top_26 : decode cX9_top 26 = .ok (.getfield 17, 3) := by decide +kernel
theorem dX9_top_29 : decode cX9_top 29 = .ok (.iload_n 1, 1) := by decide +kernel
theorem dX9_top_30 : decode cX9_top 30 = .ok (.invokevirtual 306, 3) := by decide +kernel
theorem dX9_top_33 : decode cX9_top 33 = .ok (.invokevirtual 46, 3) := by decide +kernel
theorem dX9_top_36 : decode cX9_top 36 = .ok (.ireturn, 1) := by decide +kernel
def B_X9_top_0 (X : Nat × (Nat → Int32)) (J : Nat → zCf) (R : zRt) : zCf := oALOAD 0 (oPI (zj (0)) (oPUTI 9 0 (oALOAD 0 (oILOAD 1 (oINV1 X M_X9_refusesCell 9 (oISTORE 1 2 (oILOAD 2 (oIFLE (J 23) (oALOAD 0 (oILOAD 2 (oINV1 X M_X9_refused 9 (J 36))))))))))))
set_option maxRecDepth 100000 in
theorem vb_X9_top_0 {X : Nat × (Nat → Int32)} {R : zRt} : ∀ ls st h, B_X9_top_0 X (zV X M_X9_top (zQm M_X9_top R) 0 0) R ls st h → zV X M_X9_top (zQm M_X9_top R) 0 0 0 ls st h := sd_aload_n dX9_top_0 rfl (sd_iconst dX9_top_1 rfl (sd_puti dX9_top_2 zCl9 (Nat.le_of_ble_eq_true rfl) lk_RX9_36 rfl (Or.inl rfl) (sd_aload_n dX9_top_5 rfl (sd_iload_n dX9_top_6 rfl (sd_inv1 dX9_top_7 rfl mv_X9_refusesCell na_X9_refusesCell ml_RX9_325 ⟨⟨Nat.le_of_ble_eq_true rfl, Nat.le_of_ble_eq_true rfl⟩, ⟨Nat.le_of_ble_eq_true rfl, Nat.le_of_ble_eq_true rfl⟩⟩ (sd_istore_n dX9_top_10 rfl (Nat.le_of_ble_eq_true rfl) (Or.inl rfl) (sd_iload_n dX9_top_11 rfl (sd_ifle dX9_top_12 rfl (fun _ _ _ h => h) (sd_aload_n dX9_top_15 rfl (sd_iload_n dX9_top_16 rfl (sd_inv1 dX9_top_17 rfl mv_X9_refused na_X9_refused ml_RX9_42 ⟨⟨Nat.le_of_ble_eq_true rfl, Nat.le_of_ble_eq_true rfl⟩, ⟨Nat.le_of_ble_eq_true rfl, Nat.le_of_ble_eq_true rfl⟩⟩ (sd_goto dX9_top_20 rfl (fun _ _ _ h => h)))))))))))))
def B_X9_top_23 (X : Nat × (Nat → Int32)) (J : Nat → zCf) (R : zRt) : zCf := oALOAD 0 (oALOAD 0 (oALOAD 0 (oGETR 9 15 (oILOAD 1 (oINV2 X M_X9_topIn 9 (oINV1 X M_X9_good 9 (J 36)))))))
set_option maxRecDepth 100000 in
theorem vb_X9_top_23 {X : Nat × (Nat → Int32)} {R : zRt} : ∀ ls st h, B_X9_top_23 X (zV X M_X9_top (zQm M_X9_top R) 0 0) R ls st h → zV X M_X9_top (zQm M_X9_top R) 0 0 23 ls st h := sd_aload_n dX9_top_23 rfl (sd_aload_n dX9_top_24 rfl (sd_aload_n dX9_top_25 rfl (sd_getr dX9_top_26 zCl9 (Nat.le_of_ble_eq_true rfl) lk_RX9_17 (Or.inr ⟨_, rfl⟩) (sd_iload_n dX9_top_29 rfl (sd_inv2 dX9_top_30 rfl mv_X9_topIn na_X9_topIn ml_RX9_306 ⟨⟨Nat.le_of_ble_eq_true rfl, Nat.le_of_ble_eq_true rfl⟩, ⟨Nat.le_of_ble_eq_true rfl, Nat.le_of_ble_eq_true rfl⟩⟩ (sd_inv1 dX9_top_33 rfl mv_X9_good na_X9_good ml_RX9_46 ⟨⟨Nat.le_of_ble_eq_true rfl, Nat.le_of_ble_eq_true rfl⟩, ⟨Nat.le_of_ble_eq_true rfl, Nat.le_of_ble_eq_true rfl⟩⟩ (fun _ _ _ h => h)))))))
def B_X9_top_36 (X : Nat × (Nat → Int32)) (J : Nat → zCf) (R : zRt) : zCf := oIRET R
set_option maxRecDepth 100000 in
theorem vb_X9_top_36 {X : Nat × (Nat → Int32)} {R : zRt} : ∀ ls st h, B_X9_top_36 X (zV X M_X9_top (zQm M_X9_top R) 0 0) R ls st h → zV X M_X9_top (zQm M_X9_top R) 0 0 36 ls st h := sd_iret dX9_top_36 rfl (Nat.le_of_ble_eq_true rfl) (Nat.le_of_ble_eq_true rfl)
theorem dX9_stack_0 : decode cX9_stack 0 = .ok (.aload_n 0, 1) := by decide +kernel
theorem dX9_stack_1 : decode cX9_stack 1 = .ok (.iconst 0, 1) := by decide +kernel
theorem dX9_stack_2 : decode cX9_stack 2 = .ok (.putfield 36, 3) := by decide +kernel
theorem dX9_stack_5 : decode cX9_stack 5 = .ok (.aload_n 0, 1) := by decide +kernel
theorem dX9_stack_6 : decode cX9_stack 6 = .ok (.iload_n 1, 1) := by decide +kernel
theorem dX9_stack_7 : decode cX9_stack 7 = .ok (.invokevirtual 325, 3) := by decide +kernel
theorem dX9_stack_10 : decode cX9_stack 10 = .ok (.istore_n 2, 1) := by decide +kernel
theorem dX9_stack_11 : decode cX9_stack 11 = .ok (.iload_n 2, 1) := by decide +kernel
theorem dX9_stack_12 : decode cX9_stack 12 = .ok (.ifCond .le 9, 3) := by decide +kernel
theorem dX9_stack_15 : decode cX9_stack 15 = .ok (.aload_n 0, 1) := by decide +kernel
theorem dX9_stack_16 : decode cX9_stack 16 = .ok (.iload_n 2, 1) := by decide +kernel
theorem dX9_stack_17 : decode cX9_stack 17 = .ok (.invokevirtual 42, 3) := by decide +kernel
theorem dX9_stack_20 : decode cX9_stack 20 = .ok (.ireturn, 1) := by decide +kernel
theorem dX9_stack_21 : decode cX9_stack 21 = .ok (.iconst 0, 1) := by decide +kernel
theorem dX9_stack_22 : decode cX9_stack 22 = .ok (.istore_n 3, 1) := by decide +kernel
theorem dX9_stack_23 : decode cX9_stack 23 = .ok (.iconst 0, 1) := by decide +kernel
theorem dX9_stack_24 : decode cX9_stack 24 = .ok (.istore 4, 2) := by decide +kernel
theorem dX9_stack_26 : decode cX9_stack 26 = .ok (.iload 4, 2) := by decide +kernel
theorem dX9_stack_28 : decode cX9_stack 28 = .ok (.aload_n 0, 1) := by decide +kernel
theorem dX9_stack_29 : decode cX9_stack 29 = .ok (.getfield 289, 3) := by decide +kernel
theorem dX9_stack_32 : decode cX9_stack 32 = .ok (.getfield 180, 3) := by decide +kernel
theorem dX9_stack_35 : decode cX9_stack 35 = .ok (.if_icmp .ge 33, 3) := by decide +kernel
theorem dX9_stack_38 : decode cX9_stack 38 = .ok (.iload_n 3, 1) := by decide +kernel
theorem dX9_stack_39 : decode cX9_stack 39 = .ok (.aload_n 0, 1) := by decide +kernel
theorem dX9_stack_40 : decode cX9_stack 40 = .ok (.getfield 17, 3) := by decide +kernel
theorem dX9_stack_43 : decode cX9_stack 43 = .ok (.iconst 0, 1) := by decide +kernel
theorem dX9_stack_44 : decode cX9_stack 44 = .ok (.iload 4, 2) := by decide +kernel
theorem dX9_stack_46 : decode cX9_stack 46 = .ok (.iadd, 1) := by decide +kernel
theorem dX9_stack_47 : decode cX9_stack 47 = .ok (.iaload, 1) := by decide +kernel
theorem dX9_stack_48 : decode cX9_stack 48 = .ok (.iload_n 1, 1) := by decide +kernel
theorem dX9_stack_49 : decode cX9_stack 49 = .ok (.if_icmp .ne 10, 3) := by decide +kernel
theorem dX9_stack_52 : decode cX9_stack 52 = .ok (.iconst 1, 1) := by decide +kernel
theorem dX9_stack_53 : decode cX9_stack 53 = .ok (.iload 4, 2) := by decide +kernel
theorem dX9_stack_55 : decode cX9_stack 55 = .ok (.ishl, 1) := by decide +kernel
theorem dX9_stack_56 : decode cX9_stack 56 = .ok (.goto 4, 3) := by decide +kernel
theorem dX9_stack_59 : decode cX9_stack 59 = .ok (.iconst 0, 1) := by decide +kernel
theorem dX9_stack_60 : decode cX9_stack 60 = .ok (.ior, 1) := by decide +kernel
theorem dX9_stack_61 : decode cX9_stack 61 = .ok (.istore_n 3, 1) := by decide +kernel
theorem dX9_stack_62 : decode cX9_stack 62 = .ok (.iinc 4 1, 3) := by decide +kernel
theorem dX9_stack_65 : decode cX9_stack 65 = .ok (.goto (-39), 3) := by decide +kernel
theorem dX9_stack_68 : decode cX9_stack 68 = .ok (.aload_n 0, 1) := by decide +kernel
theorem dX9_stack_69 : decode cX9_stack 69 = .ok (.iload_n 3, 1) := by decide +kernel
theorem dX9_stack_70 : decode cX9_stack 70 = .ok (.invokevirtual 46, 3) := by decide +kernel
theorem dX9_stack_73 : decode cX9_stack 73 = .ok (.ireturn, 1) := by decide +kernel
def B_X9_stack_0 (X : Nat × (Nat → Int32)) (J : Nat → zCf) (R : zRt) : zCf := oALOAD 0 (oPI (zj (0)) (oPUTI 9 0 (oALOAD 0 (oILOAD 1 (oINV1 X M_X9_refusesCell 9 (oISTORE 1 2 (oILOAD 2 (oIFLE (J 21) (oALOAD 0 (oILOAD 2 (oINV1 X M_X9_refused 9 (oIRET R))))))))))))
set_option maxRecDepth 100000 in
theorem vb_X9_stack_0 {X : Nat × (Nat → Int32)} {R : zRt} : ∀ ls st h, B_X9_stack_0 X (zV X M_X9_stack (zQm M_X9_stack R) 0 0) R ls st h → zV X M_X9_stack (zQm M_X9_stack R) 0 0 0 ls st h := sd_aload_n dX9_stack_0 rfl (sd_iconst dX9_stack_1 rfl (sd_puti dX9_stack_2 zCl9 (Nat.le_of_ble_eq_true rfl) lk_RX9_36 rfl (Or.inl rfl) (sd_aload_n dX9_stack_5 rfl (sd_iload_n dX9_stack_6 rfl (sd_inv1 dX9_stack_7 rfl mv_X9_refusesCell na_X9_refusesCell ml_RX9_325 ⟨⟨Nat.le_of_ble_eq_true rfl, Nat.le_of_ble_eq_true rfl⟩, ⟨Nat.le_of_ble_eq_true rfl, Nat.le_of_ble_eq_true rfl⟩⟩ (sd_istore_n dX9_stack_10 rfl (Nat.le_of_ble_eq_true rfl) (Or.inl rfl) (sd_iload_n dX9_stack_11 rfl (sd_ifle dX9_stack_12 rfl (fun _ _ _ h => h) (sd_aload_n dX9_stack_15 rfl (sd_iload_n dX9_stack_16 rfl (sd_inv1 dX9_stack_17 rfl mv_X9_refused na_X9_refused ml_RX9_42 ⟨⟨Nat.le_of_ble_eq_true rfl, Nat.le_of_ble_eq_true rfl⟩, ⟨Nat.le_of_ble_eq_true rfl, Nat.le_of_ble_eq_true rfl⟩⟩ (sd_iret dX9_stack_20 rfl (Nat.le_of_ble_eq_true rfl) (Nat.le_of_ble_eq_true rfl)))))))))))))
def B_X9_stack_21 (X : Nat × (Nat → Int32)) (J : Nat → zCf) (R : zRt) : zCf := oPI (zj (0)) (oISTORE 2 3 (oPI (zj (0)) (oISTORE 3 4 (J 26))))
set_option maxRecDepth 100000 in
theorem vb_X9_stack_21 {X : Nat × (Nat → Int32)} {R : zRt} : ∀ ls st h, B_X9_stack_21 X (zV X M_X9_stack (zQm M_X9_stack R) 0 0) R ls st h → zV X M_X9_stack (zQm M_X9_stack R) 0 0 21 ls st h := sd_iconst dX9_stack_21 rfl (sd_istore_n dX9_stack_22 rfl (Nat.le_of_ble_eq_true rfl) (Or.inl rfl) (sd_iconst dX9_stack_23 rfl (sd_istore dX9_stack_24 (Nat.le_of_ble_eq_true rfl) (Or.inl rfl) (fun _ _ _ h => h))))
def B_X9_stack_26 (X : Nat × (Nat → Int32)) (J : Nat → zCf) (R : zRt) : zCf := oILOAD 4 (oALOAD 0 (oGETR 9 3 (oGETI 8 1 (oICGE (J 68) (oILOAD 3 (oALOAD 0 (oGETR 9 15 (oPI (zj (0)) (oILOAD 4 (oIADD (oIALD (oILOAD 1 (oICNE (J 59) (oPI (zj (1)) (oILOAD 4 (oISHL (J 60)))))))))))))))))
set_option maxRecDepth 100000 in
theorem vb_X9_stack_26 {X : Nat × (Nat → Int32)} {R : zRt} : ∀ ls st h, B_X9_stack_26 X (zV X M_X9_stack (zQm M_X9_stack R) 0 0) R ls st h → zV X M_X9_stack (zQm M_X9_stack R) 0 0 26 ls st h := sd_iload dX9_stack_26 (sd_aload_n dX9_stack_28 rfl (sd_getr dX9_stack_29 zCl9 (Nat.le_of_ble_eq_true rfl) lk_RX9_289 (Or.inl ⟨_, rfl⟩) (sd_geti dX9_stack_32 zCl8 (Nat.le_of_ble_eq_true rfl) lk_RX9_180 (Or.inl rfl) (sd_icge dX9_stack_35 rfl (fun _ _ _ h => h) (sd_iload_n dX9_stack_38 rfl (sd_aload_n dX9_stack_39 rfl (sd_getr dX9_stack_40 zCl9 (Nat.le_of_ble_eq_true rfl) lk_RX9_17 (Or.inr ⟨_, rfl⟩) (sd_iconst dX9_stack_43 rfl (sd_iload dX9_stack_44 (sd_iadd dX9_stack_46 (sd_iald dX9_stack_47 (sd_iload_n dX9_stack_48 rfl (sd_icne dX9_stack_49 rfl (fun _ _ _ h => h) (sd_iconst dX9_stack_52 rfl (sd_iload dX9_stack_53 (sd_ishl dX9_stack_55 (sd_goto dX9_stack_56 rfl (fun _ _ _ h => h))))))))))))))))))
def B_X9_stack_59 (X : Nat × (Nat → Int32)) (J : Nat → zCf) (R : zRt) : zCf := oPI (zj (0)) (J 60)
set_option maxRecDepth 100000 in
theorem vb_X9_stack_59 {X : Nat × (Nat → Int32)} {R : zRt} : ∀ ls st h, B_X9_stack_59 X (zV X M_X9_stack (zQm M_X9_stack R) 0 0) R ls st h → zV X M_X9_stack (zQm M_X9_stack R) 0 0 59 ls st h := sd_iconst dX9_stack_59 rfl (fun _ _ _ h => h)
def B_X9_stack_60 (X : Nat × (Nat → Int32)) (J : Nat → zCf) (R : zRt) : zCf := oIOR (oISTORE 2 3 (oIINC 3 4 (zj (1)) (J 26)))
set_option maxRecDepth 100000 in
theorem vb_X9_stack_60 {X : Nat × (Nat → Int32)} {R : zRt} : ∀ ls st h, B_X9_stack_60 X (zV X M_X9_stack (zQm M_X9_stack R) 0 0) R ls st h → zV X M_X9_stack (zQm M_X9_stack R) 0 0 60 ls st h := sd_ior dX9_stack_60 (sd_istore_n dX9_stack_61 rfl (Nat.le_of_ble_eq_true rfl) (Or.inl rfl) (sd_iinc dX9_stack_62 rfl (Nat.le_of_ble_eq_true rfl) (Or.inl rfl) (sd_goto dX9_stack_65 rfl (fun _ _ _ h => h))))
def B_X9_stack_68 (X : Nat × (Nat → Int32)) (J : Nat → zCf) (R : zRt) : zCf := oALOAD 0 (oILOAD 3 (oINV1 X M_X9_good 9 (oIRET R)))
set_option maxRecDepth 100000 in
theorem vb_X9_stack_68 {X : Nat × (Nat → Int32)} {R : zRt} : ∀ ls st h, B_X9_stack_68 X (zV X M_X9_stack (zQm M_X9_stack R) 0 0) R ls st h → zV X M_X9_stack (zQm M_X9_stack R) 0 0 68 ls st h := sd_aload_n dX9_stack_68 rfl (sd_iload_n dX9_stack_69 rfl (sd_inv1 dX9_stack_70 rfl mv_X9_good na_X9_good ml_RX9_46 ⟨⟨Nat.le_of_ble_eq_true rfl, Nat.le_of_ble_eq_true rfl⟩, ⟨Nat.le_of_ble_eq_true rfl, Nat.le_of_ble_eq_true rfl⟩⟩ (sd_iret dX9_stack_73 rfl (Nat.le_of_ble_eq_true rfl) (Nat.le_of_ble_eq_true rfl))))
theorem dX9_isPlace_0 : decode cX9_isPlace 0 = .ok (.iload_n 0, 1) := by decide +kernel
theorem dX9_isPlace_1 : decode cX9_isPlace 1 = .ok (.iconst 0, 1) := by decide +kernel
theorem dX9_isPlace_2 : decode cX9_isPlace 2 = .ok (.iconst 5, 1) := by decide +kernel
theorem dX9_isPlace_3 : decode cX9_isPlace 3 = .ok (.invokestatic 115, 3) := by decide +kernel
theorem dX9_isPlace_6 : decode cX9_isPlace 6 = .ok (.ifCond .eq 17, 3) := by decide +kernel
theorem dX9_isPlace_9 : decode cX9_isPlace 9 = .ok (.iload_n 1, 1) := by decide +kernel
theorem dX9_isPlace_10 : decode cX9_isPlace 10 = .ok (.iconst 0, 1) := by decide +kernel
theorem dX9_isPlace_11 : decode cX9_isPlace 11 = .ok (.bipush 11, 2) := by decide +kernel
theorem dX9_isPlace_13 : decode cX9_isPlace 13 = .ok (.invokestatic 115, 3) := by decide +kernel
theorem dX9_isPlace_16 : decode cX9_isPlace 16 = .ok (.ifCond .eq 7, 3) := by decide +kernel
theorem dX9_isPlace_19 : decode cX9_isPlace 19 = .ok (.iconst 1, 1) := by decide +kernel
theorem dX9_isPlace_20 : decode cX9_isPlace 20 = .ok (.goto 4, 3) := by decide +kernel
theorem dX9_isPlace_23 : decode cX9_isPlace 23 = .ok (.iconst 0, 1) := by decide +kernel
theorem dX9_isPlace_24 : decode cX9_isPlace 24 = .ok (.ireturn, 1) := by decide +kernel
def B_X9_isPlace_0 (X : Nat × (Nat → Int32)) (J : Nat → zCf) (R : zRt) : zCf := oILOAD 0 (oPI (zj (0)) (oPI (zj (5)) (oINS3 X M_X9_in (oIFEQ (J 23) (oILOAD 1 (oPI (zj (0)) (oPI (zj (11)) (oINS3 X M_X9_in (oIFEQ (J 23) (oPI (zj (1)) (J 24)))))))))))
set_option maxRecDepth 100000 in
theorem vb_X9_isPlace_0 {X : Nat × (Nat → Int32)} {R : zRt} : ∀ ls st h, B_X9_isPlace_0 X (zV X M_X9_isPlace (zQm M_X9_isPlace R) 0 0) R ls st h → zV X M_X9_isPlace (zQm M_X9_isPlace R) 0 0 0 ls st h := sd_iload_n dX9_isPlace_0 rfl (sd_iconst dX9_isPlace_1 rfl (sd_iconst dX9_isPlace_2 rfl (sd_ins3 dX9_isPlace_3 ms_X9_in na_X9_in ml_RX9_115 ⟨⟨Nat.le_of_ble_eq_true rfl, Nat.le_of_ble_eq_true rfl⟩, ⟨Nat.le_of_ble_eq_true rfl, Nat.le_of_ble_eq_true rfl⟩⟩ (sd_ifeq dX9_isPlace_6 rfl (fun _ _ _ h => h) (sd_iload_n dX9_isPlace_9 rfl (sd_iconst dX9_isPlace_10 rfl (sd_bipush dX9_isPlace_11 rfl (sd_ins3 dX9_isPlace_13 ms_X9_in na_X9_in ml_RX9_115 ⟨⟨Nat.le_of_ble_eq_true rfl, Nat.le_of_ble_eq_true rfl⟩, ⟨Nat.le_of_ble_eq_true rfl, Nat.le_of_ble_eq_true rfl⟩⟩ (sd_ifeq dX9_isPlace_16 rfl (fun _ _ _ h => h) (sd_iconst dX9_isPlace_19 rfl (sd_goto dX9_isPlace_20 rfl (fun _ _ _ h => h))))))))))))
def B_X9_isPlace_23 (X : Nat × (Nat → Int32)) (J : Nat → zCf) (R : zRt) : zCf := oPI (zj (0)) (J 24)
set_option maxRecDepth 100000 in
theorem vb_X9_isPlace_23 {X : Nat × (Nat → Int32)} {R : zRt} : ∀ ls st h, B_X9_isPlace_23 X (zV X M_X9_isPlace (zQm M_X9_isPlace R) 0 0) R ls st h → zV X M_X9_isPlace (zQm M_X9_isPlace R) 0 0 23 ls st h := sd_iconst dX9_isPlace_23 rfl (fun _ _ _ h => h)
def B_X9_isPlace_24 (X : Nat × (Nat → Int32)) (J : Nat → zCf) (R : zRt) : zCf := oZRET R
set_option maxRecDepth 100000 in
theorem vb_X9_isPlace_24 {X : Nat × (Nat → Int32)} {R : zRt} : ∀ ls st h, B_X9_isPlace_24 X (zV X M_X9_isPlace (zQm M_X9_isPlace R) 0 0) R ls st h → zV X M_X9_isPlace (zQm M_X9_isPlace R) 0 0 24 ls st h := sd_zret dX9_isPlace_24 rfl (Nat.le_of_ble_eq_true rfl) (Nat.le_of_ble_eq_true rfl)
theorem dX9_seen_0 : decode cX9_seen 0 = .ok (.aload_n 0, 1) := by decide +kernel
theorem dX9_seen_1 : decode cX9_seen 1 = .ok (.iconst 0, 1) := by decide +kernel
theorem dX9_seen_2 : decode cX9_seen 2 = .ok (.putfield 36, 3) := by decide +kernel
theorem dX9_seen_5 : decode cX9_seen 5 = .ok (.aload_n 0, 1) := by decide +kernel
theorem dX9_seen_6 : decode cX9_seen 6 = .ok (.getfield 289, 3) := by decide +kernel
theorem dX9_seen_9 : decode cX9_seen 9 = .ok (.ifnonnull 9, 3) := by decide +kernel
theorem dX9_seen_12 : decode cX9_seen 12 = .ok (.aload_n 0, 1) := by decide +kernel
theorem dX9_seen_13 : decode cX9_seen 13 = .ok (.iconst 1, 1) := by decide +kernel
theorem dX9_seen_14 : decode cX9_seen 14 = .ok (.invokevirtual 42, 3) := by decide +kernel
theorem dX9_seen_17 : decode cX9_seen 17 = .ok (.ireturn, 1) := by decide +kernel
theorem dX9_seen_18 : decode cX9_seen 18 = .ok (.iload_n 1, 1) := by decide +kernel
theorem dX9_seen_19 : decode cX9_seen 19 = .ok (.iload_n 2, 1) := by decide +kernel
theorem dX9_seen_20 : decode cX9_seen 20 = .ok (.invokestatic 328, 3) := by decide +kernel
theorem dX9_seen_23 : decode cX9_seen 23 = .ok (.ifCond .eq 16, 3) := by decide +kernel
theorem dX9_seen_26 : decode cX9_seen 26 = .ok (.aload_n 0, 1) := by decide +kernel
theorem dX9_seen_27 : decode cX9_seen 27 = .ok (.aload_n 0, 1) := by decide +kernel
theorem dX9_seen_28 : decode cX9_seen 28 = .ok (.iload_n 1, 1) := by decide +kernel
theorem dX9_seen_29 : decode cX9_seen 29 = .ok (.iload_n 2, 1) := by decide +kernel
theorem dX9_seen_30 : decode cX9_seen 30 = .ok (.invokevirtual 319, 3) := by decide +kernel
theorem dX9_seen_33 : decode cX9_seen 33 = .ok (.invokevirtual 46, 3) := by decide +kernel
theorem dX9_seen_36 : decode cX9_seen 36 = .ok (.goto 8, 3) := by decide +kernel
theorem dX9_seen_39 : decode cX9_seen 39 = .ok (.aload_n 0, 1) := by decide +kernel
theorem dX9_seen_40 : decode cX9_seen 40 = .ok (.iconst 2, 1) := by decide +kernel
theorem dX9_seen_41 : decode cX9_seen 41 = .ok (.invokevirtual 42, 3) := by decide +kernel
theorem dX9_seen_44 : decode cX9_seen 44 = .ok (.ireturn, 1) := by decide +kernel
def B_X9_seen_0 (X : Nat × (Nat → Int32)) (J : Nat → zCf) (R : zRt) : zCf := oALOAD 0 (oPI (zj (0)) (oPUTI 9 0 (oALOAD 0 (oGETR 9 3 (oIFNONNULL (J 18) (oALOAD 0 (oPI (zj (1)) (oINV1 X M_X9_refused 9 (oIRET R)))))))))
set_option maxRecDepth 100000 in
theorem vb_X9_seen_0 {X : Nat × (Nat → Int32)} {R : zRt} : ∀ ls st h, B_X9_seen_0 X (zV X M_X9_seen (zQm M_X9_seen R) 0 0) R ls st h → zV X M_X9_seen (zQm M_X9_seen R) 0 0 0 ls st h := sd_aload_n dX9_seen_0 rfl (sd_iconst dX9_seen_1 rfl (sd_puti dX9_seen_2 zCl9 (Nat.le_of_ble_eq_true rfl) lk_RX9_36 rfl (Or.inl rfl) (sd_aload_n dX9_seen_5 rfl (sd_getr dX9_seen_6 zCl9 (Nat.le_of_ble_eq_true rfl) lk_RX9_289 (Or.inl ⟨_, rfl⟩) (sd_ifnonnull dX9_seen_9 rfl (fun _ _ _ h => h) (sd_aload_n dX9_seen_12 rfl (sd_iconst dX9_seen_13 rfl (sd_inv1 dX9_seen_14 rfl mv_X9_refused na_X9_refused ml_RX9_42 ⟨⟨Nat.le_of_ble_eq_true rfl, Nat.le_of_ble_eq_true rfl⟩, ⟨Nat.le_of_ble_eq_true rfl, Nat.le_of_ble_eq_true rfl⟩⟩ (sd_iret dX9_seen_17 rfl (Nat.le_of_ble_eq_true rfl) (Nat.le_of_ble_eq_true rfl))))))))))
def B_X9_seen_18 (X : Nat × (Nat → Int32)) (J : Nat → zCf) (R : zRt) : zCf := oILOAD 1 (oILOAD 2 (oINS2 X M_X9_isPlace (oIFEQ (J 39) (oALOAD 0 (oALOAD 0 (oILOAD 1 (oILOAD 2 (oINV2 X M_X9_seenIn 9 (oINV1 X M_X9_good 9 (J 44))))))))))
set_option maxRecDepth 100000 in
theorem vb_X9_seen_18 {X : Nat × (Nat → Int32)} {R : zRt} : ∀ ls st h, B_X9_seen_18 X (zV X M_X9_seen (zQm M_X9_seen R) 0 0) R ls st h → zV X M_X9_seen (zQm M_X9_seen R) 0 0 18 ls st h := sd_iload_n dX9_seen_18 rfl (sd_iload_n dX9_seen_19 rfl (sd_ins2 dX9_seen_20 ms_X9_isPlace na_X9_isPlace ml_RX9_328 ⟨⟨Nat.le_of_ble_eq_true rfl, Nat.le_of_ble_eq_true rfl⟩, ⟨Nat.le_of_ble_eq_true rfl, Nat.le_of_ble_eq_true rfl⟩⟩ (sd_ifeq dX9_seen_23 rfl (fun _ _ _ h => h) (sd_aload_n dX9_seen_26 rfl (sd_aload_n dX9_seen_27 rfl (sd_iload_n dX9_seen_28 rfl (sd_iload_n dX9_seen_29 rfl (sd_inv2 dX9_seen_30 rfl mv_X9_seenIn na_X9_seenIn ml_RX9_319 ⟨⟨Nat.le_of_ble_eq_true rfl, Nat.le_of_ble_eq_true rfl⟩, ⟨Nat.le_of_ble_eq_true rfl, Nat.le_of_ble_eq_true rfl⟩⟩ (sd_inv1 dX9_seen_33 rfl mv_X9_good na_X9_good ml_RX9_46 ⟨⟨Nat.le_of_ble_eq_true rfl, Nat.le_of_ble_eq_true rfl⟩, ⟨Nat.le_of_ble_eq_true rfl, Nat.le_of_ble_eq_true rfl⟩⟩ (sd_goto dX9_seen_36 rfl (fun _ _ _ h => h)))))))))))
def B_X9_seen_39 (X : Nat × (Nat → Int32)) (J : Nat → zCf) (R : zRt) : zCf := oALOAD 0 (oPI (zj (2)) (oINV1 X M_X9_refused 9 (J 44)))
set_option maxRecDepth 100000 in
theorem vb_X9_seen_39 {X : Nat × (Nat → Int32)} {R : zRt} : ∀ ls st h, B_X9_seen_39 X (zV X M_X9_seen (zQm M_X9_seen R) 0 0) R ls st h → zV X M_X9_seen (zQm M_X9_seen R) 0 0 39 ls st h := sd_aload_n dX9_seen_39 rfl (sd_iconst dX9_seen_40 rfl (sd_inv1 dX9_seen_41 rfl mv_X9_refused na_X9_refused ml_RX9_42 ⟨⟨Nat.le_of_ble_eq_true rfl, Nat.le_of_ble_eq_true rfl⟩, ⟨Nat.le_of_ble_eq_true rfl, Nat.le_of_ble_eq_true rfl⟩⟩ (fun _ _ _ h => h)))
def B_X9_seen_44 (X : Nat × (Nat → Int32)) (J : Nat → zCf) (R : zRt) : zCf := oIRET R
set_option maxRecDepth 100000 in
theorem vb_X9_seen_44 {X : Nat × (Nat → Int32)} {R : zRt} : ∀ ls st h, B_X9_seen_44 X (zV X M_X9_seen (zQm M_X9_seen R) 0 0) R ls st h → zV X M_X9_seen (zQm M_X9_seen R) 0 0 44 ls st h := sd_iret dX9_seen_44 rfl (Nat.le_of_ble_eq_true rfl) (Nat.le_of_ble_eq_true rfl)
theorem dX9_lies_0 : decode cX9_lies 0 = .ok (.aload_n 0, 1) := by decide +kernel
theorem dX9_lies_1 : decode cX9_lies 1 = .ok (.iconst 0, 1) := by decide +kernel
theorem dX9_lies_2 : decode cX9_lies 2 = .ok (.putfield 36, 3) := by decide +kernel
theorem dX9_lies_5 : decode cX9_lies 5 = .ok (.aload_n 0, 1) := by decide +kernel
theorem dX9_lies_6 : decode cX9_lies 6 = .ok (.iload_n 1, 1) := by decide +kernel
theorem dX9_lies_7 : decode cX9_lies 7 = .ok (.invokevirtual 322, 3) := by decide +kernel
theorem dX9_lies_10 : decode cX9_lies 10 = .ok (.ifCond .ne 9, 3) := by decide +kernel
theorem dX9_lies_13 : decode cX9_lies 13 = .ok (.aload_n 0, 1) := by decide +kernel
theorem dX9_lies_14 : decode cX9_lies 14 = .ok (.iconst 1, 1) := by decide +kernel
theorem dX9_lies_15 : decode cX9_lies 15 = .ok (.invokevirtual 42, 3) := by decide +kernel
theorem dX9_lies_18 : decode cX9_lies 18 = .ok (.ireturn, 1) := by decide +kernel
theorem dX9_lies_19 : decode cX9_lies 19 = .ok (.iload_n 2, 1) := by decide +kernel
theorem dX9_lies_20 : decode cX9_lies 20 = .ok (.iconst 0, 1) := by decide +kernel
theorem dX9_lies_21 : decode cX9_lies 21 = .ok (.iconst 5, 1) := by decide +kernel
theorem dX9_lies_22 : decode cX9_lies 22 = .ok (.invokestatic 115, 3) := by decide +kernel
theorem dX9_lies_25 : decode cX9_lies 25 = .ok (.ifCond .ne 9, 3) := by decide +kernel
theorem dX9_lies_28 : decode cX9_lies 28 = .ok (.aload_n 0, 1) := by decide +kernel
theorem dX9_lies_29 : decode cX9_lies 29 = .ok (.iconst 2, 1) := by decide +kernel
theorem dX9_lies_30 : decode cX9_lies 30 = .ok (.invokevirtual 42, 3) := by decide +kernel
theorem dX9_lies_33 : decode cX9_lies 33 = .ok (.ireturn, 1) := by decide +kernel
theorem dX9_lies_34 : decode cX9_lies 34 = .ok (.iconst 0, 1) := by decide +kernel
theorem dX9_lies_35 : decode cX9_lies 35 = .ok (.istore_n 3, 1) := by decide +kernel
theorem dX9_lies_36 : decode cX9_lies 36 = .ok (.iload_n 2, 1) := by decide +kernel
theorem dX9_lies_37 : decode cX9_lies 37 = .ok (.iload_n 3, 1) := by decide +kernel
theorem dX9_lies_38 : decode cX9_lies 38 = .ok (.invokestatic 313, 3) := by decide +kernel
theorem dX9_lies_41 : decode cX9_lies 41 = .ok (.aload_n 0, 1) := by decide +kernel
theorem dX9_lies_42 : decode cX9_lies 42 = .ok (.getfield 17, 3) := by decide +kernel
theorem dX9_lies_45 : decode cX9_lies 45 = .ok (.iconst 0, 1) := by decide +kernel
theorem dX9_lies_46 : decode cX9_lies 46 = .ok (.iload_n 1, 1) := by decide +kernel
theorem dX9_lies_47 : decode cX9_lies 47 = .ok (.iadd, 1) := by decide +kernel
theorem dX9_lies_48 : decode cX9_lies 48 = .ok (.iaload, 1) := by decide +kernel
theorem dX9_lies_49 : decode cX9_lies 49 = .ok (.if_icmp .eq 9, 3) := by decide +kernel
theorem dX9_lies_52 : decode cX9_lies 52 = .ok (.iinc 3 1, 3) := by decide +kernel
theorem dX9_lies_55 : decode cX9_lies 55 = .ok (.goto (-19), 3) := by decide +kernel
theorem dX9_lies_58 : decode cX9_lies 58 = .ok (.aload_n 0, 1) := by decide +kernel
theorem dX9_lies_59 : decode cX9_lies 59 = .ok (.iload_n 3, 1) := by decide +kernel
theorem dX9_lies_60 : decode cX9_lies 60 = .ok (.invokevirtual 46, 3) := by decide +kernel
theorem dX9_lies_63 : decode cX9_lies 63 = .ok (.ireturn, 1) := by decide +kernel
def B_X9_lies_0 (X : Nat × (Nat → Int32)) (J : Nat → zCf) (R : zRt) : zCf := oALOAD 0 (oPI (zj (0)) (oPUTI 9 0 (oALOAD 0 (oILOAD 1 (oINV1 X M_X9_isBit 9 (oIFNE (J 19) (oALOAD 0 (oPI (zj (1)) (oINV1 X M_X9_refused 9 (oIRET R))))))))))
set_option maxRecDepth 100000 in
theorem vb_X9_lies_0 {X : Nat × (Nat → Int32)} {R : zRt} : ∀ ls st h, B_X9_lies_0 X (zV X M_X9_lies (zQm M_X9_lies R) 0 0) R ls st h → zV X M_X9_lies (zQm M_X9_lies R) 0 0 0 ls st h := sd_aload_n dX9_lies_0 rfl (sd_iconst dX9_lies_1 rfl (sd_puti dX9_lies_2 zCl9 (Nat.le_of_ble_eq_true rfl) lk_RX9_36 rfl (Or.inl rfl) (sd_aload_n dX9_lies_5 rfl (sd_iload_n dX9_lies_6 rfl (sd_inv1 dX9_lies_7 rfl mv_X9_isBit na_X9_isBit ml_RX9_322 ⟨⟨Nat.le_of_ble_eq_true rfl, Nat.le_of_ble_eq_true rfl⟩, ⟨Nat.le_of_ble_eq_true rfl, Nat.le_of_ble_eq_true rfl⟩⟩ (sd_ifne dX9_lies_10 rfl (fun _ _ _ h => h) (sd_aload_n dX9_lies_13 rfl (sd_iconst dX9_lies_14 rfl (sd_inv1 dX9_lies_15 rfl mv_X9_refused na_X9_refused ml_RX9_42 ⟨⟨Nat.le_of_ble_eq_true rfl, Nat.le_of_ble_eq_true rfl⟩, ⟨Nat.le_of_ble_eq_true rfl, Nat.le_of_ble_eq_true rfl⟩⟩ (sd_iret dX9_lies_18 rfl (Nat.le_of_ble_eq_true rfl) (Nat.le_of_ble_eq_true rfl)))))))))))
def B_X9_lies_19 (X : Nat × (Nat → Int32)) (J : Nat → zCf) (R : zRt) : zCf := oILOAD 2 (oPI (zj (0)) (oPI (zj (5)) (oINS3 X M_X9_in (oIFNE (J 34) (oALOAD 0 (oPI (zj (2)) (oINV1 X M_X9_refused 9 (oIRET R))))))))
set_option maxRecDepth 100000 in
theorem vb_X9_lies_19 {X : Nat × (Nat → Int32)} {R : zRt} : ∀ ls st h, B_X9_lies_19 X (zV X M_X9_lies (zQm M_X9_lies R) 0 0) R ls st h → zV X M_X9_lies (zQm M_X9_lies R) 0 0 19 ls st h := sd_iload_n dX9_lies_19 rfl (sd_iconst dX9_lies_20 rfl (sd_iconst dX9_lies_21 rfl (sd_ins3 dX9_lies_22 ms_X9_in na_X9_in ml_RX9_115 ⟨⟨Nat.le_of_ble_eq_true rfl, Nat.le_of_ble_eq_true rfl⟩, ⟨Nat.le_of_ble_eq_true rfl, Nat.le_of_ble_eq_true rfl⟩⟩ (sd_ifne dX9_lies_25 rfl (fun _ _ _ h => h) (sd_aload_n dX9_lies_28 rfl (sd_iconst dX9_lies_29 rfl (sd_inv1 dX9_lies_30 rfl mv_X9_refused na_X9_refused ml_RX9_42 ⟨⟨Nat.le_of_ble_eq_true rfl, Nat.le_of_ble_eq_true rfl⟩, ⟨Nat.le_of_ble_eq_true rfl, Nat.le_of_ble_eq_true rfl⟩⟩ (sd_iret dX9_lies_33 rfl (Nat.le_of_ble_eq_true rfl) (Nat.le_of_ble_eq_true rfl)))))))))
def B_X9_lies_34 (X : Nat × (Nat → Int32)) (J : Nat → zCf) (R : zRt) : zCf := oPI (zj (0)) (oISTORE 2 3 (J 36))
set_option maxRecDepth 100000 in
theorem vb_X9_lies_34 {X : Nat × (Nat → Int32)} {R : zRt} : ∀ ls st h, B_X9_lies_34 X (zV X M_X9_lies (zQm M_X9_lies R) 0 0) R ls st h → zV X M_X9_lies (zQm M_X9_lies R) 0 0 34 ls st h := sd_iconst dX9_lies_34 rfl (sd_istore_n dX9_lies_35 rfl (Nat.le_of_ble_eq_true rfl) (Or.inl rfl) (fun _ _ _ h => h))
def B_X9_lies_36 (X : Nat × (Nat → Int32)) (J : Nat → zCf) (R : zRt) : zCf := oILOAD 2 (oILOAD 3 (oINS2 X M_X9_shown (oALOAD 0 (oGETR 9 15 (oPI (zj (0)) (oILOAD 1 (oIADD (oIALD (oICEQ (J 58) (oIINC 2 3 (zj (1)) (J 36)))))))))))
set_option maxRecDepth 100000 in
theorem vb_X9_lies_36 {X : Nat × (Nat → Int32)} {R : zRt} : ∀ ls st h, B_X9_lies_36 X (zV X M_X9_lies (zQm M_X9_lies R) 0 0) R ls st h → zV X M_X9_lies (zQm M_X9_lies R) 0 0 36 ls st h := sd_iload_n dX9_lies_36 rfl (sd_iload_n dX9_lies_37 rfl (sd_ins2 dX9_lies_38 ms_X9_shown na_X9_shown ml_RX9_313 ⟨⟨Nat.le_of_ble_eq_true rfl, Nat.le_of_ble_eq_true rfl⟩, ⟨Nat.le_of_ble_eq_true rfl, Nat.le_of_ble_eq_true rfl⟩⟩ (sd_aload_n dX9_lies_41 rfl (sd_getr dX9_lies_42 zCl9 (Nat.le_of_ble_eq_true rfl) lk_RX9_17 (Or.inr ⟨_, rfl⟩) (sd_iconst dX9_lies_45 rfl (sd_iload_n dX9_lies_46 rfl (sd_iadd dX9_lies_47 (sd_iald dX9_lies_48 (sd_iceq dX9_lies_49 rfl (fun _ _ _ h => h) (sd_iinc dX9_lies_52 rfl (Nat.le_of_ble_eq_true rfl) (Or.inl rfl) (sd_goto dX9_lies_55 rfl (fun _ _ _ h => h))))))))))))
def B_X9_lies_58 (X : Nat × (Nat → Int32)) (J : Nat → zCf) (R : zRt) : zCf := oALOAD 0 (oILOAD 3 (oINV1 X M_X9_good 9 (oIRET R)))
set_option maxRecDepth 100000 in
theorem vb_X9_lies_58 {X : Nat × (Nat → Int32)} {R : zRt} : ∀ ls st h, B_X9_lies_58 X (zV X M_X9_lies (zQm M_X9_lies R) 0 0) R ls st h → zV X M_X9_lies (zQm M_X9_lies R) 0 0 58 ls st h := sd_aload_n dX9_lies_58 rfl (sd_iload_n dX9_lies_59 rfl (sd_inv1 dX9_lies_60 rfl mv_X9_good na_X9_good ml_RX9_46 ⟨⟨Nat.le_of_ble_eq_true rfl, Nat.le_of_ble_eq_true rfl⟩, ⟨Nat.le_of_ble_eq_true rfl, Nat.le_of_ble_eq_true rfl⟩⟩ (sd_iret dX9_lies_63 rfl (Nat.le_of_ble_eq_true rfl) (Nat.le_of_ble_eq_true rfl))))
theorem dX9_under_0 : decode cX9_under 0 = .ok (.aload_n 0, 1) := by decide +kernel
theorem dX9_under_1 : decode cX9_under 1 = .ok (.iconst 0, 1) := by decide +kernel
theorem dX9_under_2 : decode cX9_under 2 = .ok (.putfield 36, 3) := by decide +kernel
theorem dX9_under_5 : decode cX9_under 5 = .ok (.aload_n 0, 1) := by decide +kernel
theorem dX9_under_6 : decode cX9_under 6 = .ok (.getfield 289, 3) := by decide +kernel
theorem dX9_under_9 : decode cX9_under 9 = .ok (.ifnonnull 11, 3) := by decide +kernel
theorem dX9_under_12 : decode cX9_under 12 = .ok (.aload_n 0, 1) := by decide +kernel
theorem dX9_under_13 : decode cX9_under 13 = .ok (.iconst 1, 1) := by decide +kernel
theorem dX9_under_14 : decode cX9_under 14 = .ok (.invokevirtual 42, 3) := by decide +kernel
theorem dX9_under_17 : decode cX9_under 17 = .ok (.goto 29, 3) := by decide +kernel
theorem dX9_under_20 : decode cX9_under 20 = .ok (.aload_n 0, 1) := by decide +kernel
theorem dX9_under_21 : decode cX9_under 21 = .ok (.iconst 1, 1) := by decide +kernel
theorem dX9_under_22 : decode cX9_under 22 = .ok (.aload_n 0, 1) := by decide +kernel
theorem dX9_under_23 : decode cX9_under 23 = .ok (.getfield 289, 3) := by decide +kernel
theorem dX9_under_26 : decode cX9_under 26 = .ok (.getfield 180, 3) := by decide +kernel
theorem dX9_under_29 : decode cX9_under 29 = .ok (.ishl, 1) := by decide +kernel
theorem dX9_under_30 : decode cX9_under 30 = .ok (.iconst 1, 1) := by decide +kernel
theorem dX9_under_31 : decode cX9_under 31 = .ok (.isub, 1) := by decide +kernel
theorem dX9_under_32 : decode cX9_under 32 = .ok (.aload_n 0, 1) := by decide +kernel
theorem dX9_under_33 : decode cX9_under 33 = .ok (.aload_n 0, 1) := by decide +kernel
theorem dX9_under_34 : decode cX9_under 34 = .ok (.getfield 17, 3) := by decide +kernel
theorem dX9_under_37 : decode cX9_under 37 = .ok (.invokevirtual 332, 3) := by decide +kernel
theorem dX9_under_40 : decode cX9_under 40 = .ok (.iconst (-1), 1) := by decide +kernel
theorem dX9_under_41 : decode cX9_under 41 = .ok (.ixor, 1) := by decide +kernel
theorem dX9_under_42 : decode cX9_under 42 = .ok (.iand, 1) := by decide +kernel
theorem dX9_under_43 : decode cX9_under 43 = .ok (.invokevirtual 46, 3) := by decide +kernel
theorem dX9_under_46 : decode cX9_under 46 = .ok (.ireturn, 1) := by decide +kernel
def B_X9_under_0 (X : Nat × (Nat → Int32)) (J : Nat → zCf) (R : zRt) : zCf := oALOAD 0 (oPI (zj (0)) (oPUTI 9 0 (oALOAD 0 (oGETR 9 3 (oIFNONNULL (J 20) (oALOAD 0 (oPI (zj (1)) (oINV1 X M_X9_refused 9 (J 46)))))))))
set_option maxRecDepth 100000 in
theorem vb_X9_under_0 {X : Nat × (Nat → Int32)} {R : zRt} : ∀ ls st h, B_X9_under_0 X (zV X M_X9_under (zQm M_X9_under R) 0 0) R ls st h → zV X M_X9_under (zQm M_X9_under R) 0 0 0 ls st h := sd_aload_n dX9_under_0 rfl (sd_iconst dX9_under_1 rfl (sd_puti dX9_under_2 zCl9 (Nat.le_of_ble_eq_true rfl) lk_RX9_36 rfl (Or.inl rfl) (sd_aload_n dX9_under_5 rfl (sd_getr dX9_under_6 zCl9 (Nat.le_of_ble_eq_true rfl) lk_RX9_289 (Or.inl ⟨_, rfl⟩) (sd_ifnonnull dX9_under_9 rfl (fun _ _ _ h => h) (sd_aload_n dX9_under_12 rfl (sd_iconst dX9_under_13 rfl (sd_inv1 dX9_under_14 rfl mv_X9_refused na_X9_refused ml_RX9_42 ⟨⟨Nat.le_of_ble_eq_true rfl, Nat.le_of_ble_eq_true rfl⟩, ⟨Nat.le_of_ble_eq_true rfl, Nat.le_of_ble_eq_true rfl⟩⟩ (sd_goto dX9_under_17 rfl (fun _ _ _ h => h))))))))))
def B_X9_under_20 (X : Nat × (Nat → Int32)) (J : Nat → zCf) (R : zRt) : zCf := oALOAD 0 (oPI (zj (1)) (oALOAD 0 (oGETR 9 3 (oGETI 8 1 (oISHL (oPI (zj (1)) (oISUB (oALOAD 0 (oALOAD 0 (oGETR 9 15 (oINV1 X M_X9_topsIn 9 (oPI (zj (-1)) (oIXOR (oIAND (oINV1 X M_X9_good 9 (J 46))))))))))))))))
set_option maxRecDepth 100000 in
theorem vb_X9_under_20 {X : Nat × (Nat → Int32)} {R : zRt} : ∀ ls st h, B_X9_under_20 X (zV X M_X9_under (zQm M_X9_under R) 0 0) R ls st h → zV X M_X9_under (zQm M_X9_under R) 0 0 20 ls st h := sd_aload_n dX9_under_20 rfl (sd_iconst dX9_under_21 rfl (sd_aload_n dX9_under_22 rfl (sd_getr dX9_under_23 zCl9 (Nat.le_of_ble_eq_true rfl) lk_RX9_289 (Or.inl ⟨_, rfl⟩) (sd_geti dX9_under_26 zCl8 (Nat.le_of_ble_eq_true rfl) lk_RX9_180 (Or.inl rfl) (sd_ishl dX9_under_29 (sd_iconst dX9_under_30 rfl (sd_isub dX9_under_31 (sd_aload_n dX9_under_32 rfl (sd_aload_n dX9_under_33 rfl (sd_getr dX9_under_34 zCl9 (Nat.le_of_ble_eq_true rfl) lk_RX9_17 (Or.inr ⟨_, rfl⟩) (sd_inv1 dX9_under_37 rfl mv_X9_topsIn na_X9_topsIn ml_RX9_332 ⟨⟨Nat.le_of_ble_eq_true rfl, Nat.le_of_ble_eq_true rfl⟩, ⟨Nat.le_of_ble_eq_true rfl, Nat.le_of_ble_eq_true rfl⟩⟩ (sd_iconst dX9_under_40 rfl (sd_ixor dX9_under_41 (sd_iand dX9_under_42 (sd_inv1 dX9_under_43 rfl mv_X9_good na_X9_good ml_RX9_46 ⟨⟨Nat.le_of_ble_eq_true rfl, Nat.le_of_ble_eq_true rfl⟩, ⟨Nat.le_of_ble_eq_true rfl, Nat.le_of_ble_eq_true rfl⟩⟩ (fun _ _ _ h => h))))))))))))))))
def B_X9_under_46 (X : Nat × (Nat → Int32)) (J : Nat → zCf) (R : zRt) : zCf := oIRET R
set_option maxRecDepth 100000 in
theorem vb_X9_under_46 {X : Nat × (Nat → Int32)} {R : zRt} : ∀ ls st h, B_X9_under_46 X (zV X M_X9_under (zQm M_X9_under R) 0 0) R ls st h → zV X M_X9_under (zQm M_X9_under R) 0 0 46 ls st h := sd_iret dX9_under_46 rfl (Nat.le_of_ble_eq_true rfl) (Nat.le_of_ble_eq_true rfl)
theorem dX9_until_0 : decode cX9_until 0 = .ok (.aload_n 0, 1) := by decide +kernel
theorem dX9_until_1 : decode cX9_until 1 = .ok (.iconst 0, 1) := by decide +kernel
theorem dX9_until_2 : decode cX9_until 2 = .ok (.putfield 36, 3) := by decide +kernel
theorem dX9_until_5 : decode cX9_until 5 = .ok (.aload_n 0, 1) := by decide +kernel
theorem dX9_until_6 : decode cX9_until 6 = .ok (.iload_n 1, 1) := by decide +kernel
theorem dX9_until_7 : decode cX9_until 7 = .ok (.invokevirtual 322, 3) := by decide +kernel
theorem dX9_until_10 : decode cX9_until 10 = .ok (.ifCond .ne 9, 3) := by decide +kernel
theorem dX9_until_13 : decode cX9_until 13 = .ok (.aload_n 0, 1) := by decide +kernel
theorem dX9_until_14 : decode cX9_until 14 = .ok (.iconst 1, 1) := by decide +kernel
theorem dX9_until_15 : decode cX9_until 15 = .ok (.invokevirtual 42, 3) := by decide +kernel
theorem dX9_until_18 : decode cX9_until 18 = .ok (.ireturn, 1) := by decide +kernel
theorem dX9_until_19 : decode cX9_until 19 = .ok (.aload_n 0, 1) := by decide +kernel
theorem dX9_until_20 : decode cX9_until 20 = .ok (.invokevirtual 336, 3) := by decide +kernel
theorem dX9_until_23 : decode cX9_until 23 = .ok (.iconst 0, 1) := by decide +kernel
theorem dX9_until_24 : decode cX9_until 24 = .ok (.istore_n 2, 1) := by decide +kernel
theorem dX9_until_25 : decode cX9_until 25 = .ok (.iload_n 2, 1) := by decide +kernel
theorem dX9_until_26 : decode cX9_until 26 = .ok (.bipush 24, 2) := by decide +kernel
theorem dX9_until_28 : decode cX9_until 28 = .ok (.if_icmp .gt 44, 3) := by decide +kernel
theorem dX9_until_31 : decode cX9_until 31 = .ok (.aload_n 0, 1) := by decide +kernel
theorem dX9_until_32 : decode cX9_until 32 = .ok (.aload_n 0, 1) := by decide +kernel
theorem dX9_until_33 : decode cX9_until 33 = .ok (.getfield 21, 3) := by decide +kernel
theorem dX9_until_36 : decode cX9_until 36 = .ok (.aload_n 0, 1) := by decide +kernel
theorem dX9_until_37 : decode cX9_until 37 = .ok (.getfield 21, 3) := by decide +kernel
theorem dX9_until_40 : decode cX9_until 40 = .ok (.iconst 0, 1) := by decide +kernel
theorem dX9_until_41 : decode cX9_until 41 = .ok (.iload_n 1, 1) := by decide +kernel
theorem dX9_until_42 : decode cX9_until 42 = .ok (.iadd, 1) := by decide +kernel
theorem dX9_until_43 : decode cX9_until 43 = .ok (.iaload, 1) := by decide +kernel
theorem dX9_until_44 : decode cX9_until 44 = .ok (.invokevirtual 306, 3) := by decide +kernel
theorem dX9_until_47 : decode cX9_until 47 = .ok (.iload_n 1, 1) := by decide +kernel
theorem dX9_until_48 : decode cX9_until 48 = .ok (.if_icmp .ne 9, 3) := by decide +kernel
theorem dX9_until_51 : decode cX9_until 51 = .ok (.aload_n 0, 1) := by decide +kernel
theorem dX9_until_52 : decode cX9_until 52 = .ok (.iload_n 2, 1) := by decide +kernel
theorem dX9_until_53 : decode cX9_until 53 = .ok (.invokevirtual 46, 3) := by decide +kernel
theorem dX9_until_56 : decode cX9_until 56 = .ok (.ireturn, 1) := by decide +kernel
theorem dX9_until_57 : decode cX9_until 57 = .ok (.aload_n 0, 1) := by decide +kernel
theorem dX9_until_58 : decode cX9_until 58 = .ok (.aload_n 0, 1) := by decide +kernel
theorem dX9_until_59 : decode cX9_until 59 = .ok (.getfield 21, 3) := by decide +kernel
theorem dX9_until_62 : decode cX9_until 62 = .ok (.iconst 1, 1) := by decide +kernel
theorem dX9_until_63 : decode cX9_until 63 = .ok (.invokevirtual 339, 3) := by decide +kernel
theorem dX9_until_66 : decode cX9_until 66 = .ok (.iinc 2 1, 3) := by decide +kernel
theorem dX9_until_69 : decode cX9_until 69 = .ok (.goto (-44), 3) := by decide +kernel
theorem dX9_until_72 : decode cX9_until 72 = .ok (.aload_n 0, 1) := by decide +kernel
theorem dX9_until_73 : decode cX9_until 73 = .ok (.bipush (-2), 2) := by decide +kernel
theorem dX9_until_75 : decode cX9_until 75 = .ok (.invokevirtual 46, 3) := by decide +kernel
theorem dX9_until_78 : decode cX9_until 78 = .ok (.ireturn, 1) := by decide +kernel
def B_X9_until_0 (X : Nat × (Nat → Int32)) (J : Nat → zCf) (R : zRt) : zCf := oALOAD 0 (oPI (zj (0)) (oPUTI 9 0 (oALOAD 0 (oILOAD 1 (oINV1 X M_X9_isBit 9 (oIFNE (J 19) (oALOAD 0 (oPI (zj (1)) (oINV1 X M_X9_refused 9 (oIRET R))))))))))
set_option maxRecDepth 100000 in
theorem vb_X9_until_0 {X : Nat × (Nat → Int32)} {R : zRt} : ∀ ls st h, B_X9_until_0 X (zV X M_X9_until (zQm M_X9_until R) 0 0) R ls st h → zV X M_X9_until (zQm M_X9_until R) 0 0 0 ls st h := sd_aload_n dX9_until_0 rfl (sd_iconst dX9_until_1 rfl (sd_puti dX9_until_2 zCl9 (Nat.le_of_ble_eq_true rfl) lk_RX9_36 rfl (Or.inl rfl) (sd_aload_n dX9_until_5 rfl (sd_iload_n dX9_until_6 rfl (sd_inv1 dX9_until_7 rfl mv_X9_isBit na_X9_isBit ml_RX9_322 ⟨⟨Nat.le_of_ble_eq_true rfl, Nat.le_of_ble_eq_true rfl⟩, ⟨Nat.le_of_ble_eq_true rfl, Nat.le_of_ble_eq_true rfl⟩⟩ (sd_ifne dX9_until_10 rfl (fun _ _ _ h => h) (sd_aload_n dX9_until_13 rfl (sd_iconst dX9_until_14 rfl (sd_inv1 dX9_until_15 rfl mv_X9_refused na_X9_refused ml_RX9_42 ⟨⟨Nat.le_of_ble_eq_true rfl, Nat.le_of_ble_eq_true rfl⟩, ⟨Nat.le_of_ble_eq_true rfl, Nat.le_of_ble_eq_true rfl⟩⟩ (sd_iret dX9_until_18 rfl (Nat.le_of_ble_eq_true rfl) (Nat.le_of_ble_eq_true rfl)))))))))))
def B_X9_until_19 (X : Nat × (Nat → Int32)) (J : Nat → zCf) (R : zRt) : zCf := oALOAD 0 (oINV0 X M_X9_tries 9 (oPI (zj (0)) (oISTORE 1 2 (J 25))))
set_option maxRecDepth 100000 in
theorem vb_X9_until_19 {X : Nat × (Nat → Int32)} {R : zRt} : ∀ ls st h, B_X9_until_19 X (zV X M_X9_until (zQm M_X9_until R) 0 0) R ls st h → zV X M_X9_until (zQm M_X9_until R) 0 0 19 ls st h := sd_aload_n dX9_until_19 rfl (sd_inv0 dX9_until_20 rfl mv_X9_tries na_X9_tries ml_RX9_336 ⟨⟨Nat.le_of_ble_eq_true rfl, Nat.le_of_ble_eq_true rfl⟩, ⟨Nat.le_of_ble_eq_true rfl, Nat.le_of_ble_eq_true rfl⟩⟩ (sd_iconst dX9_until_23 rfl (sd_istore_n dX9_until_24 rfl (Nat.le_of_ble_eq_true rfl) (Or.inl rfl) (fun _ _ _ h => h))))
def B_X9_until_25 (X : Nat × (Nat → Int32)) (J : Nat → zCf) (R : zRt) : zCf := oILOAD 2 (oPI (zj (24)) (oICGT (J 72) (oALOAD 0 (oALOAD 0 (oGETR 9 16 (oALOAD 0 (oGETR 9 16 (oPI (zj (0)) (oILOAD 1 (oIADD (oIALD (oINV2 X M_X9_topIn 9 (oILOAD 1 (oICNE (J 57) (oALOAD 0 (oILOAD 2 (oINV1 X M_X9_good 9 (oIRET R))))))))))))))))))
set_option maxRecDepth 100000 in
theorem vb_X9_until_25 {X : Nat × (Nat → Int32)} {R : zRt} : ∀ ls st h, B_X9_until_25 X (zV X M_X9_until (zQm M_X9_until R) 0 0) R ls st h → zV X M_X9_until (zQm M_X9_until R) 0 0 25 ls st h := sd_iload_n dX9_until_25 rfl (sd_bipush dX9_until_26 rfl (sd_icgt dX9_until_28 rfl (fun _ _ _ h => h) (sd_aload_n dX9_until_31 rfl (sd_aload_n dX9_until_32 rfl (sd_getr dX9_until_33 zCl9 (Nat.le_of_ble_eq_true rfl) lk_RX9_21 (Or.inr ⟨_, rfl⟩) (sd_aload_n dX9_until_36 rfl (sd_getr dX9_until_37 zCl9 (Nat.le_of_ble_eq_true rfl) lk_RX9_21 (Or.inr ⟨_, rfl⟩) (sd_iconst dX9_until_40 rfl (sd_iload_n dX9_until_41 rfl (sd_iadd dX9_until_42 (sd_iald dX9_until_43 (sd_inv2 dX9_until_44 rfl mv_X9_topIn na_X9_topIn ml_RX9_306 ⟨⟨Nat.le_of_ble_eq_true rfl, Nat.le_of_ble_eq_true rfl⟩, ⟨Nat.le_of_ble_eq_true rfl, Nat.le_of_ble_eq_true rfl⟩⟩ (sd_iload_n dX9_until_47 rfl (sd_icne dX9_until_48 rfl (fun _ _ _ h => h) (sd_aload_n dX9_until_51 rfl (sd_iload_n dX9_until_52 rfl (sd_inv1 dX9_until_53 rfl mv_X9_good na_X9_good ml_RX9_46 ⟨⟨Nat.le_of_ble_eq_true rfl, Nat.le_of_ble_eq_true rfl⟩, ⟨Nat.le_of_ble_eq_true rfl, Nat.le_of_ble_eq_true rfl⟩⟩ (sd_iret dX9_until_56 rfl (Nat.le_of_ble_eq_true rfl) (Nat.le_of_ble_eq_true rfl)))))))))))))))))))
def B_X9_until_57 (X : Nat × (Nat → Int32)) (J : Nat → zCf) (R : zRt) : zCf := oALOAD 0 (oALOAD 0 (oGETR 9 16 (oPI (zj (1)) (oINV2 X M_X9_turns 9 (oIINC 1 2 (zj (1)) (J 25))))))
set_option maxRecDepth 100000 in
theorem vb_X9_until_57 {X : Nat × (Nat → Int32)} {R : zRt} : ∀ ls st h, B_X9_until_57 X (zV X M_X9_until (zQm M_X9_until R) 0 0) R ls st h → zV X M_X9_until (zQm M_X9_until R) 0 0 57 ls st h := sd_aload_n dX9_until_57 rfl (sd_aload_n dX9_until_58 rfl (sd_getr dX9_until_59 zCl9 (Nat.le_of_ble_eq_true rfl) lk_RX9_21 (Or.inr ⟨_, rfl⟩) (sd_iconst dX9_until_62 rfl (sd_inv2 dX9_until_63 rfl mv_X9_turns na_X9_turns ml_RX9_339 ⟨⟨Nat.le_of_ble_eq_true rfl, Nat.le_of_ble_eq_true rfl⟩, ⟨Nat.le_of_ble_eq_true rfl, Nat.le_of_ble_eq_true rfl⟩⟩ (sd_iinc dX9_until_66 rfl (Nat.le_of_ble_eq_true rfl) (Or.inl rfl) (sd_goto dX9_until_69 rfl (fun _ _ _ h => h)))))))
def B_X9_until_72 (X : Nat × (Nat → Int32)) (J : Nat → zCf) (R : zRt) : zCf := oALOAD 0 (oPI (zj (-2)) (oINV1 X M_X9_good 9 (oIRET R)))
set_option maxRecDepth 100000 in
theorem vb_X9_until_72 {X : Nat × (Nat → Int32)} {R : zRt} : ∀ ls st h, B_X9_until_72 X (zV X M_X9_until (zQm M_X9_until R) 0 0) R ls st h → zV X M_X9_until (zQm M_X9_until R) 0 0 72 ls st h := sd_aload_n dX9_until_72 rfl (sd_bipush dX9_until_73 rfl (sd_inv1 dX9_until_75 rfl mv_X9_good na_X9_good ml_RX9_46 ⟨⟨Nat.le_of_ble_eq_true rfl, Nat.le_of_ble_eq_true rfl⟩, ⟨Nat.le_of_ble_eq_true rfl, Nat.le_of_ble_eq_true rfl⟩⟩ (sd_iret dX9_until_78 rfl (Nat.le_of_ble_eq_true rfl) (Nat.le_of_ble_eq_true rfl))))
theorem dX9_refusesClicks_0 : decode cX9_refusesClicks 0 = .ok (.iload_n 1, 1) := by decide +kernel
theorem dX9_refusesClicks_1 : decode cX9_refusesClicks 1 = .ok (.ifCond .ne 7, 3) := by decide +kernel
theorem dX9_refusesClicks_4 : decode cX9_refusesClicks 4 = .ok (.iconst 1, 1) := by decide +kernel
theorem dX9_refusesClicks_5 : decode cX9_refusesClicks 5 = .ok (.goto 19, 3) := by decide +kernel
theorem dX9_refusesClicks_8 : decode cX9_refusesClicks 8 = .ok (.iload_n 2, 1) := by decide +kernel
theorem dX9_refusesClicks_9 : decode cX9_refusesClicks 9 = .ok (.bipush (-6), 2) := by decide +kernel
theorem dX9_refusesClicks_11 : decode cX9_refusesClicks 11 = .ok (.bipush 6, 2) := by decide +kernel
theorem dX9_refusesClicks_13 : decode cX9_refusesClicks 13 = .ok (.invokestatic 115, 3) := by decide +kernel
theorem dX9_refusesClicks_16 : decode cX9_refusesClicks 16 = .ok (.ifCond .eq 7, 3) := by decide +kernel
theorem dX9_refusesClicks_19 : decode cX9_refusesClicks 19 = .ok (.iconst 0, 1) := by decide +kernel
theorem dX9_refusesClicks_20 : decode cX9_refusesClicks 20 = .ok (.goto 4, 3) := by decide +kernel
theorem dX9_refusesClicks_23 : decode cX9_refusesClicks 23 = .ok (.iconst 2, 1) := by decide +kernel
theorem dX9_refusesClicks_24 : decode cX9_refusesClicks 24 = .ok (.ireturn, 1) := by decide +kernel
def B_X9_refusesClicks_0 (X : Nat × (Nat → Int32)) (J : Nat → zCf) (R : zRt) : zCf := oILOAD 1 (oIFNE (J 8) (oPI (zj (1)) (J 24)))
set_option maxRecDepth 100000 in
theorem vb_X9_refusesClicks_0 {X : Nat × (Nat → Int32)} {R : zRt} : ∀ ls st h, B_X9_refusesClicks_0 X (zV X M_X9_refusesClicks (zQm M_X9_refusesClicks R) 0 0) R ls st h → zV X M_X9_refusesClicks (zQm M_X9_refusesClicks R) 0 0 0 ls st h := sd_iload_n dX9_refusesClicks_0 rfl (sd_ifne dX9_refusesClicks_1 rfl (fun _ _ _ h => h) (sd_iconst dX9_refusesClicks_4 rfl (sd_goto dX9_refusesClicks_5 rfl (fun _ _ _ h => h))))
def B_X9_refusesClicks_8 (X : Nat × (Nat → Int32)) (J : Nat → zCf) (R : zRt) : zCf := oILOAD 2 (oPI (zj (-6)) (oPI (zj (6)) (oINS3 X M_X9_in (oIFEQ (J 23) (oPI (zj (0)) (J 24))))))
set_option maxRecDepth 100000 in
theorem vb_X9_refusesClicks_8 {X : Nat × (Nat → Int32)} {R : zRt} : ∀ ls st h, B_X9_refusesClicks_8 X (zV X M_X9_refusesClicks (zQm M_X9_refusesClicks R) 0 0) R ls st h → zV X M_X9_refusesClicks (zQm M_X9_refusesClicks R) 0 0 8 ls st h := sd_iload_n dX9_refusesClicks_8 rfl (sd_bipush dX9_refusesClicks_9 rfl (sd_bipush dX9_refusesClicks_11 rfl (sd_ins3 dX9_refusesClicks_13 ms_X9_in na_X9_in ml_RX9_115 ⟨⟨Nat.le_of_ble_eq_true rfl, Nat.le_of_ble_eq_true rfl⟩, ⟨Nat.le_of_ble_eq_true rfl, Nat.le_of_ble_eq_true rfl⟩⟩ (sd_ifeq dX9_refusesClicks_16 rfl (fun _ _ _ h => h) (sd_iconst dX9_refusesClicks_19 rfl (sd_goto dX9_refusesClicks_20 rfl (fun _ _ _ h => h)))))))
def B_X9_refusesClicks_23 (X : Nat × (Nat → Int32)) (J : Nat → zCf) (R : zRt) : zCf := oPI (zj (2)) (J 24)
set_option maxRecDepth 100000 in
theorem vb_X9_refusesClicks_23 {X : Nat × (Nat → Int32)} {R : zRt} : ∀ ls st h, B_X9_refusesClicks_23 X (zV X M_X9_refusesClicks (zQm M_X9_refusesClicks R) 0 0) R ls st h → zV X M_X9_refusesClicks (zQm M_X9_refusesClicks R) 0 0 23 ls st h := sd_iconst dX9_refusesClicks_23 rfl (fun _ _ _ h => h)
def B_X9_refusesClicks_24 (X : Nat × (Nat → Int32)) (J : Nat → zCf) (R : zRt) : zCf := oIRET R
set_option maxRecDepth 100000 in
theorem vb_X9_refusesClicks_24 {X : Nat × (Nat → Int32)} {R : zRt} : ∀ ls st h, B_X9_refusesClicks_24 X (zV X M_X9_refusesClicks (zQm M_X9_refusesClicks R) 0 0) R ls st h → zV X M_X9_refusesClicks (zQm M_X9_refusesClicks R) 0 0 24 ls st h := sd_iret dX9_refusesClicks_24 rfl (Nat.le_of_ble_eq_true rfl) (Nat.le_of_ble_eq_true rfl)
theorem dX9_behind_0 : decode cX9_behind 0 = .ok (.aload_n 0, 1) := by decide +kernel
theorem dX9_behind_1 : decode cX9_behind 1 = .ok (.iconst 0, 1) := by decide +kernel
theorem dX9_behind_2 : decode cX9_behind 2 = .ok (.putfield 36, 3) := by decide +kernel
theorem dX9_behind_5 : decode cX9_behind 5 = .ok (.aload_n 0, 1) := by decide +kernel
theorem dX9_behind_6 : decode cX9_behind 6 = .ok (.aload_n 0, 1) := by decide +kernel
theorem dX9_behind_7 : decode cX9_behind 7 = .ok (.iload_n 1, 1) := by decide +kernel
theorem dX9_behind_8 : decode cX9_behind 8 = .ok (.invokevirtual 322, 3) := by decide +kernel
theorem dX9_behind_11 : decode cX9_behind 11 = .ok (.iload_n 2, 1) := by decide +kernel
theorem dX9_behind_12 : decode cX9_behind 12 = .ok (.invokevirtual 343, 3) := by decide +kernel
theorem dX9_behind_15 : decode cX9_behind 15 = .ok (.istore_n 3, 1) := by decide +kernel
theorem dX9_behind_16 : decode cX9_behind 16 = .ok (.iload_n 3, 1) := by decide +kernel
theorem dX9_behind_17 : decode cX9_behind 17 = .ok (.ifCond .le 11, 3) := by decide +kernel
theorem dX9_behind_20 : decode cX9_behind 20 = .ok (.aload_n 0, 1) := by decide +kernel
theorem dX9_behind_21 : decode cX9_behind 21 = .ok (.iload_n 3, 1) := by decide +kernel
theorem dX9_behind_22 : decode cX9_behind 22 = .ok (.invokevirtual 42, 3) := by decide +kernel
theorem dX9_behind_25 : decode cX9_behind 25 = .ok (.goto 28, 3) := by decide +kernel
theorem dX9_behind_28 : decode cX9_behind 28 = .ok (.aload_n 0, 1) := by decide +kernel
theorem dX9_behind_29 : decode cX9_behind 29 = .ok (.aload_n 0, 1) := by decide +kernel
theorem dX9_behind_30 : decode cX9_behind 30 = .ok (.getfield 17, 3) := by decide +kernel
theorem dX9_behind_33 : decode cX9_behind 33 = .ok (.iconst 0, 1) := by decide +kernel
theorem dX9_behind_34 : decode cX9_behind 34 = .ok (.iload_n 1, 1) := by decide +kernel
theorem dX9_behind_35 : decode cX9_behind 35 = .ok (.iadd, 1) := by decide +kernel
theorem dX9_behind_36 : decode cX9_behind 36 = .ok (.iaload, 1) := by decide +kernel
theorem dX9_behind_37 : decode cX9_behind 37 = .ok (.aload_n 0, 1) := by decide +kernel
theorem dX9_behind_38 : decode cX9_behind 38 = .ok (.getfield 289, 3) := by decide +kernel
theorem dX9_behind_41 : decode cX9_behind 41 = .ok (.iload_n 1, 1) := by decide +kernel
theorem dX9_behind_42 : decode cX9_behind 42 = .ok (.iload_n 2, 1) := by decide +kernel
theorem dX9_behind_43 : decode cX9_behind 43 = .ok (.invokevirtual 300, 3) := by decide +kernel
theorem dX9_behind_46 : decode cX9_behind 46 = .ok (.iadd, 1) := by decide +kernel
theorem dX9_behind_47 : decode cX9_behind 47 = .ok (.invokestatic 303, 3) := by decide +kernel
theorem dX9_behind_50 : decode cX9_behind 50 = .ok (.invokevirtual 46, 3) := by decide +kernel
theorem dX9_behind_53 : decode cX9_behind 53 = .ok (.ireturn, 1) := by decide +kernel
def B_X9_behind_0 (X : Nat × (Nat → Int32)) (J : Nat → zCf) (R : zRt) : zCf := oALOAD 0 (oPI (zj (0)) (oPUTI 9 0 (oALOAD 0 (oALOAD 0 (oILOAD 1 (oINV1 X M_X9_isBit 9 (oILOAD 2 (oINV2 X M_X9_refusesClicks 9 (oISTORE 2 3 (oILOAD 3 (oIFLE (J 28) (oALOAD 0 (oILOAD 3 (oINV1 X M_X9_refused 9 (J 53)))))))))))))))
set_option maxRecDepth 100000 in
theorem vb_X9_behind_0 {X : Nat × (Nat → Int32)} {R : zRt} : ∀ ls st h, B_X9_behind_0 X (zV X M_X9_behind (zQm M_X9_behind R) 0 0) R ls st h → zV X M_X9_behind (zQm M_X9_behind R) 0 0 0 ls st h := sd_aload_n dX9_behind_0 rfl (sd_iconst dX9_behind_1 rfl (sd_puti dX9_behind_2 zCl9 (Nat.le_of_ble_eq_true rfl) lk_RX9_36 rfl (Or.inl rfl) (sd_aload_n dX9_behind_5 rfl (sd_aload_n dX9_behind_6 rfl (sd_iload_n dX9_behind_7 rfl (sd_inv1 dX9_behind_8 rfl mv_X9_isBit na_X9_isBit ml_RX9_322 ⟨⟨Nat.le_of_ble_eq_true rfl, Nat.le_of_ble_eq_true rfl⟩, ⟨Nat.le_of_ble_eq_true rfl, Nat.le_of_ble_eq_true rfl⟩⟩ (sd_iload_n dX9_behind_11 rfl (sd_inv2 dX9_behind_12 rfl mv_X9_refusesClicks na_X9_refusesClicks ml_RX9_343 ⟨⟨Nat.le_of_ble_eq_true rfl, Nat.le_of_ble_eq_true rfl⟩, ⟨Nat.le_of_ble_eq_true rfl, Nat.le_of_ble_eq_true rfl⟩⟩ (sd_istore_n dX9_behind_15 rfl (Nat.le_of_ble_eq_true rfl) (Or.inl rfl) (sd_iload_n dX9_behind_16 rfl (sd_ifle dX9_behind_17 rfl (fun _ _ _ h => h) (sd_aload_n dX9_behind_20 rfl (sd_iload_n dX9_behind_21 rfl (sd_inv1 dX9_behind_22 rfl mv_X9_refused na_X9_refused ml_RX9_42 ⟨⟨Nat.le_of_ble_eq_true rfl, Nat.le_of_ble_eq_true rfl⟩, ⟨Nat.le_of_ble_eq_true rfl, Nat.le_of_ble_eq_true rfl⟩⟩ (sd_goto dX9_behind_25 rfl (fun _ _ _ h => h))))))))))))))))
def B_X9_behind_28 (X : Nat × (Nat → Int32)) (J : Nat → zCf) (R : zRt) : zCf := oALOAD 0 (oALOAD 0 (oGETR 9 15 (oPI (zj (0)) (oILOAD 1 (oIADD (oIALD (oALOAD 0 (oGETR 9 3 (oILOAD 1 (oILOAD 2 (oINV2 X M_X8_goesBy 8 (oIADD (oINS1 X M_X9_round (oINV1 X M_X9_good 9 (J 53)))))))))))))))
set_option maxRecDepth 100000 in
theorem vb_X9_behind_28 {X : Nat × (Nat → Int32)} {R : zRt} : ∀ ls st h, B_X9_behind_28 X (zV X M_X9_behind (zQm M_X9_behind R) 0 0) R ls st h → zV X M_X9_behind (zQm M_X9_behind R) 0 0 28 ls st h := sd_aload_n dX9_behind_28 rfl (sd_aload_n dX9_behind_29 rfl (sd_getr dX9_behind_30 zCl9 (Nat.le_of_ble_eq_true rfl) lk_RX9_17 (Or.inr ⟨_, rfl⟩) (sd_iconst dX9_behind_33 rfl (sd_iload_n dX9_behind_34 rfl (sd_iadd dX9_behind_35 (sd_iald dX9_behind_36 (sd_aload_n dX9_behind_37 rfl (sd_getr dX9_behind_38 zCl9 (Nat.le_of_ble_eq_true rfl) lk_RX9_289 (Or.inl ⟨_, rfl⟩) (sd_iload_n dX9_behind_41 rfl (sd_iload_n dX9_behind_42 rfl (sd_inv2 dX9_behind_43 rfl mv_X8_goesBy na_X8_goesBy ml_RX9_300 ⟨⟨Nat.le_of_ble_eq_true rfl, Nat.le_of_ble_eq_true rfl⟩, ⟨Nat.le_of_ble_eq_true rfl, Nat.le_of_ble_eq_true rfl⟩⟩ (sd_iadd dX9_behind_46 (sd_ins1 dX9_behind_47 ms_X9_round na_X9_round ml_RX9_303 ⟨⟨Nat.le_of_ble_eq_true rfl, Nat.le_of_ble_eq_true rfl⟩, ⟨Nat.le_of_ble_eq_true rfl, Nat.le_of_ble_eq_true rfl⟩⟩ (sd_inv1 dX9_behind_50 rfl mv_X9_good na_X9_good ml_RX9_46 ⟨⟨Nat.le_of_ble_eq_true rfl, Nat.le_of_ble_eq_true rfl⟩, ⟨Nat.le_of_ble_eq_true rfl, Nat.le_of_ble_eq_true rfl⟩⟩ (fun _ _ _ h => h)))))))))))))))
def B_X9_behind_53 (X : Nat × (Nat → Int32)) (J : Nat → zCf) (R : zRt) : zCf := oIRET R
set_option maxRecDepth 100000 in
theorem vb_X9_behind_53 {X : Nat × (Nat → Int32)} {R : zRt} : ∀ ls st h, B_X9_behind_53 X (zV X M_X9_behind (zQm M_X9_behind R) 0 0) R ls st h → zV X M_X9_behind (zQm M_X9_behind R) 0 0 53 ls st h := sd_iret dX9_behind_53 rfl (Nat.le_of_ble_eq_true rfl) (Nat.le_of_ble_eq_true rfl)
theorem dX9_topsBy_0 : decode cX9_topsBy 0 = .ok (.aload_n 0, 1) := by decide +kernel
theorem dX9_topsBy_1 : decode cX9_topsBy 1 = .ok (.invokevirtual 336, 3) := by decide +kernel
theorem dX9_topsBy_4 : decode cX9_topsBy 4 = .ok (.aload_n 0, 1) := by decide +kernel
theorem dX9_topsBy_5 : decode cX9_topsBy 5 = .ok (.aload_n 0, 1) := by decide +kernel
theorem dX9_topsBy_6 : decode cX9_topsBy 6 = .ok (.getfield 21, 3) := by decide +kernel
theorem dX9_topsBy_9 : decode cX9_topsBy 9 = .ok (.iload_n 1, 1) := by decide +kernel
theorem dX9_topsBy_10 : decode cX9_topsBy 10 = .ok (.invokevirtual 339, 3) := by decide +kernel
theorem dX9_topsBy_13 : decode cX9_topsBy 13 = .ok (.aload_n 0, 1) := by decide +kernel
theorem dX9_topsBy_14 : decode cX9_topsBy 14 = .ok (.aload_n 0, 1) := by decide +kernel
theorem dX9_topsBy_15 : decode cX9_topsBy 15 = .ok (.getfield 21, 3) := by decide +kernel
theorem dX9_topsBy_18 : decode cX9_topsBy 18 = .ok (.invokevirtual 332, 3) := by decide +kernel
theorem dX9_topsBy_21 : decode cX9_topsBy 21 = .ok (.invokestatic 347, 3) := by decide +kernel
theorem dX9_topsBy_24 : decode cX9_topsBy 24 = .ok (.ireturn, 1) := by decide +kernel
def B_X9_topsBy_0 (X : Nat × (Nat → Int32)) (J : Nat → zCf) (R : zRt) : zCf := oALOAD 0 (oINV0 X M_X9_tries 9 (oALOAD 0 (oALOAD 0 (oGETR 9 16 (oILOAD 1 (oINV2 X M_X9_turns 9 (oALOAD 0 (oALOAD 0 (oGETR 9 16 (oINV1 X M_X9_topsIn 9 (oINS1 X M_X9_bits (oIRET R))))))))))))
set_option maxRecDepth 100000 in
theorem vb_X9_topsBy_0 {X : Nat × (Nat → Int32)} {R : zRt} : ∀ ls st h, B_X9_topsBy_0 X (zV X M_X9_topsBy (zQm M_X9_topsBy R) 0 0) R ls st h → zV X M_X9_topsBy (zQm M_X9_topsBy R) 0 0 0 ls st h := sd_aload_n dX9_topsBy_0 rfl (sd_inv0 dX9_topsBy_1 rfl mv_X9_tries na_X9_tries ml_RX9_336 ⟨⟨Nat.le_of_ble_eq_true rfl, Nat.le_of_ble_eq_true rfl⟩, ⟨Nat.le_of_ble_eq_true rfl, Nat.le_of_ble_eq_true rfl⟩⟩ (sd_aload_n dX9_topsBy_4 rfl (sd_aload_n dX9_topsBy_5 rfl (sd_getr dX9_topsBy_6 zCl9 (Nat.le_of_ble_eq_true rfl) lk_RX9_21 (Or.inr ⟨_, rfl⟩) (sd_iload_n dX9_topsBy_9 rfl (sd_inv2 dX9_topsBy_10 rfl mv_X9_turns na_X9_turns ml_RX9_339 ⟨⟨Nat.le_of_ble_eq_true rfl, Nat.le_of_ble_eq_true rfl⟩, ⟨Nat.le_of_ble_eq_true rfl, Nat.le_of_ble_eq_true rfl⟩⟩ (sd_aload_n dX9_topsBy_13 rfl (sd_aload_n dX9_topsBy_14 rfl (sd_getr dX9_topsBy_15 zCl9 (Nat.le_of_ble_eq_true rfl) lk_RX9_21 (Or.inr ⟨_, rfl⟩) (sd_inv1 dX9_topsBy_18 rfl mv_X9_topsIn na_X9_topsIn ml_RX9_332 ⟨⟨Nat.le_of_ble_eq_true rfl, Nat.le_of_ble_eq_true rfl⟩, ⟨Nat.le_of_ble_eq_true rfl, Nat.le_of_ble_eq_true rfl⟩⟩ (sd_ins1 dX9_topsBy_21 ms_X9_bits na_X9_bits ml_RX9_347 ⟨⟨Nat.le_of_ble_eq_true rfl, Nat.le_of_ble_eq_true rfl⟩, ⟨Nat.le_of_ble_eq_true rfl, Nat.le_of_ble_eq_true rfl⟩⟩ (sd_iret dX9_topsBy_24 rfl (Nat.le_of_ble_eq_true rfl) (Nat.le_of_ble_eq_true rfl)))))))))))))
theorem dX9_topsBehind_0 : decode cX9_topsBehind 0 = .ok (.aload_n 0, 1) := by decide +kernel
theorem dX9_topsBehind_1 : decode cX9_topsBehind 1 = .ok (.iconst 0, 1) := by decide +kernel
theorem dX9_topsBehind_2 : decode cX9_topsBehind 2 = .ok (.putfield 36, 3) := by decide +kernel
theorem dX9_topsBehind_5 : decode cX9_topsBehind 5 = .ok (.aload_n 0, 1) := by decide +kernel
theorem dX9_topsBehind_6 : decode cX9_topsBehind 6 = .ok (.aload_n 0, 1) := by decide +kernel
theorem dX9_topsBehind_7 : decode cX9_topsBehind 7 = .ok (.getfield 289, 3) := by decide +kernel
theorem dX9_topsBehind_10 : decode cX9_topsBehind 10 = .ok (.ifnull 7, 3) := by decide +kernel
theorem dX9_topsBehind_13 : decode cX9_topsBehind 13 = .ok (.iconst 1, 1) := by decide +kernel
theorem dX9_topsBehind_14 : decode cX9_topsBehind 14 = .ok (.goto 4, 3) := by decide +kernel
theorem dX9_topsBehind_17 : decode cX9_topsBehind 17 = .ok (.iconst 0, 1) := by decide +kernel
theorem dX9_topsBehind_18 : decode cX9_topsBehind 18 = .ok (.iload_n 1, 1) := by decide +kernel
theorem dX9_topsBehind_19 : decode cX9_topsBehind 19 = .ok (.invokevirtual 343, 3) := by decide +kernel
theorem dX9_topsBehind_22 : decode cX9_topsBehind 22 = .ok (.istore_n 2, 1) := by decide +kernel
theorem dX9_topsBehind_23 : decode cX9_topsBehind 23 = .ok (.iload_n 2, 1) := by decide +kernel
theorem dX9_topsBehind_24 : decode cX9_topsBehind 24 = .ok (.ifCond .le 11, 3) := by decide +kernel
theorem dX9_topsBehind_27 : decode cX9_topsBehind 27 = .ok (.aload_n 0, 1) := by decide +kernel
theorem dX9_topsBehind_28 : decode cX9_topsBehind 28 = .ok (.iload_n 2, 1) := by decide +kernel
theorem dX9_topsBehind_29 : decode cX9_topsBehind 29 = .ok (.invokevirtual 42, 3) := by decide +kernel
theorem dX9_topsBehind_32 : decode cX9_topsBehind 32 = .ok (.goto 12, 3) := by decide +kernel
theorem dX9_topsBehind_35 : decode cX9_topsBehind 35 = .ok (.aload_n 0, 1) := by decide +kernel
theorem dX9_topsBehind_36 : decode cX9_topsBehind 36 = .ok (.aload_n 0, 1) := by decide +kernel
theorem dX9_topsBehind_37 : decode cX9_topsBehind 37 = .ok (.iload_n 1, 1) := by decide +kernel
theorem dX9_topsBehind_38 : decode cX9_topsBehind 38 = .ok (.invokevirtual 349, 3) := by decide +kernel
theorem dX9_topsBehind_41 : decode cX9_topsBehind 41 = .ok (.invokevirtual 46, 3) := by decide +kernel
theorem dX9_topsBehind_44 : decode cX9_topsBehind 44 = .ok (.ireturn, 1) := by decide +kernel
def B_X9_topsBehind_0 (X : Nat × (Nat → Int32)) (J : Nat → zCf) (R : zRt) : zCf := oALOAD 0 (oPI (zj (0)) (oPUTI 9 0 (oALOAD 0 (oALOAD 0 (oGETR 9 3 (oIFNULL (J 17) (oPI (zj (1)) (J 18))))))))
set_option maxRecDepth 100000 in
theorem vb_X9_topsBehind_0 {X : Nat × (Nat → Int32)} {R : zRt} : ∀ ls st h, B_X9_topsBehind_0 X (zV X M_X9_topsBehind (zQm M_X9_topsBehind R) 0 0) R ls st h → zV X M_X9_topsBehind (zQm M_X9_topsBehind R) 0 0 0 ls st h := sd_aload_n dX9_topsBehind_0 rfl (sd_iconst dX9_topsBehind_1 rfl (sd_puti dX9_topsBehind_2 zCl9 (Nat.le_of_ble_eq_true rfl) lk_RX9_36 rfl (Or.inl rfl) (sd_aload_n dX9_topsBehind_5 rfl (sd_aload_n dX9_topsBehind_6 rfl (sd_getr dX9_topsBehind_7 zCl9 (Nat.le_of_ble_eq_true rfl) lk_RX9_289 (Or.inl ⟨_, rfl⟩) (sd_ifnull dX9_topsBehind_10 rfl (fun _ _ _ h => h) (sd_iconst dX9_topsBehind_13 rfl (sd_goto dX9_topsBehind_14 rfl (fun _ _ _ h => h)))))))))
def B_X9_topsBehind_17 (X : Nat × (Nat → Int32)) (J : Nat → zCf) (R : zRt) : zCf := oPI (zj (0)) (J 18)
set_option maxRecDepth 100000 in
theorem vb_X9_topsBehind_17 {X : Nat × (Nat → Int32)} {R : zRt} : ∀ ls st h, B_X9_topsBehind_17 X (zV X M_X9_topsBehind (zQm M_X9_topsBehind R) 0 0) R ls st h → zV X M_X9_topsBehind (zQm M_X9_topsBehind R) 0 0 17 ls st h := sd_iconst dX9_topsBehind_17 rfl (fun _ _ _ h => h)
def B_X9_topsBehind_18 (X : Nat × (Nat → Int32)) (J : Nat → zCf) (R : zRt) : zCf := oILOAD 1 (oINV2 X M_X9_refusesClicks 9 (oISTORE 1 2 (oILOAD 2 (oIFLE (J 35) (oALOAD 0 (oILOAD 2 (oINV1 X M_X9_refused 9 (J 44))))))))
set_option maxRecDepth 100000 in
theorem vb_X9_topsBehind_18 {X : Nat × (Nat → Int32)} {R : zRt} : ∀ ls st h, B_X9_topsBehind_18 X (zV X M_X9_topsBehind (zQm M_X9_topsBehind R) 0 0) R ls st h → zV X M_X9_topsBehind (zQm M_X9_topsBehind R) 0 0 18 ls st h := sd_iload_n dX9_topsBehind_18 rfl (sd_inv2 dX9_topsBehind_19 rfl mv_X9_refusesClicks na_X9_refusesClicks ml_RX9_343 ⟨⟨Nat.le_of_ble_eq_true rfl, Nat.le_of_ble_eq_true rfl⟩, ⟨Nat.le_of_ble_eq_true rfl, Nat.le_of_ble_eq_true rfl⟩⟩ (sd_istore_n dX9_topsBehind_22 rfl (Nat.le_of_ble_eq_true rfl) (Or.inl rfl) (sd_iload_n dX9_topsBehind_23 rfl (sd_ifle dX9_topsBehind_24 rfl (fun _ _ _ h => h) (sd_aload_n dX9_topsBehind_27 rfl (sd_iload_n dX9_topsBehind_28 rfl (sd_inv1 dX9_topsBehind_29 rfl mv_X9_refused na_X9_refused ml_RX9_42 ⟨⟨Nat.le_of_ble_eq_true rfl, Nat.le_of_ble_eq_true rfl⟩, ⟨Nat.le_of_ble_eq_true rfl, Nat.le_of_ble_eq_true rfl⟩⟩ (sd_goto dX9_topsBehind_32 rfl (fun _ _ _ h => h)))))))))
def B_X9_topsBehind_35 (X : Nat × (Nat → Int32)) (J : Nat → zCf) (R : zRt) : zCf := oALOAD 0 (oALOAD 0 (oILOAD 1 (oINV1 X M_X9_topsBy 9 (oINV1 X M_X9_good 9 (J 44)))))
set_option maxRecDepth 100000 in
theorem vb_X9_topsBehind_35 {X : Nat × (Nat → Int32)} {R : zRt} : ∀ ls st h, B_X9_topsBehind_35 X (zV X M_X9_topsBehind (zQm M_X9_topsBehind R) 0 0) R ls st h → zV X M_X9_topsBehind (zQm M_X9_topsBehind R) 0 0 35 ls st h := sd_aload_n dX9_topsBehind_35 rfl (sd_aload_n dX9_topsBehind_36 rfl (sd_iload_n dX9_topsBehind_37 rfl (sd_inv1 dX9_topsBehind_38 rfl mv_X9_topsBy na_X9_topsBy ml_RX9_349 ⟨⟨Nat.le_of_ble_eq_true rfl, Nat.le_of_ble_eq_true rfl⟩, ⟨Nat.le_of_ble_eq_true rfl, Nat.le_of_ble_eq_true rfl⟩⟩ (sd_inv1 dX9_topsBehind_41 rfl mv_X9_good na_X9_good ml_RX9_46 ⟨⟨Nat.le_of_ble_eq_true rfl, Nat.le_of_ble_eq_true rfl⟩, ⟨Nat.le_of_ble_eq_true rfl, Nat.le_of_ble_eq_true rfl⟩⟩ (fun _ _ _ h => h)))))
def B_X9_topsBehind_44 (X : Nat × (Nat → Int32)) (J : Nat → zCf) (R : zRt) : zCf := oIRET R
set_option maxRecDepth 100000 in
theorem vb_X9_topsBehind_44 {X : Nat × (Nat → Int32)} {R : zRt} : ∀ ls st h, B_X9_topsBehind_44 X (zV X M_X9_topsBehind (zQm M_X9_topsBehind R) 0 0) R ls st h → zV X M_X9_topsBehind (zQm M_X9_topsBehind R) 0 0 44 ls st h := sd_iret dX9_topsBehind_44 rfl (Nat.le_of_ble_eq_true rfl) (Nat.le_of_ble_eq_true rfl)
theorem dX9_twins_0 : decode cX9_twins 0 = .ok (.aload_n 0, 1) := by decide +kernel
theorem dX9_twins_1 : decode cX9_twins 1 = .ok (.iconst 0, 1) := by decide +kernel
theorem dX9_twins_2 : decode cX9_twins 2 = .ok (.putfield 36, 3) := by decide +kernel
theorem dX9_twins_5 : decode cX9_twins 5 = .ok (.aload_n 0, 1) := by decide +kernel
theorem dX9_twins_6 : decode cX9_twins 6 = .ok (.getfield 289, 3) := by decide +kernel
theorem dX9_twins_9 : decode cX9_twins 9 = .ok (.ifnonnull 9, 3) := by decide +kernel
theorem dX9_twins_12 : decode cX9_twins 12 = .ok (.aload_n 0, 1) := by decide +kernel
theorem dX9_twins_13 : decode cX9_twins 13 = .ok (.iconst 1, 1) := by decide +kernel
theorem dX9_twins_14 : decode cX9_twins 14 = .ok (.invokevirtual 42, 3) := by decide +kernel
theorem dX9_twins_17 : decode cX9_twins 17 = .ok (.ireturn, 1) := by decide +kernel
theorem dX9_twins_18 : decode cX9_twins 18 = .ok (.iconst 0, 1) := by decide +kernel
theorem dX9_twins_19 : decode cX9_twins 19 = .ok (.istore_n 1, 1) := by decide +kernel
theorem dX9_twins_20 : decode cX9_twins 20 = .ok (.iload_n 1, 1) := by decide +kernel
theorem dX9_twins_21 : decode cX9_twins 21 = .ok (.aload_n 0, 1) := by decide +kernel
theorem dX9_twins_22 : decode cX9_twins 22 = .ok (.getfield 289, 3) := by decide +kernel
theorem dX9_twins_25 : decode cX9_twins 25 = .ok (.getfield 180, 3) := by decide +kernel
theorem dX9_twins_28 : decode cX9_twins 28 = .ok (.if_icmp .ge 63, 3) := by decide +kernel
theorem dX9_twins_31 : decode cX9_twins 31 = .ok (.iload_n 1, 1) := by decide +kernel
theorem dX9_twins_32 : decode cX9_twins 32 = .ok (.iconst 1, 1) := by decide +kernel
theorem dX9_twins_33 : decode cX9_twins 33 = .ok (.iadd, 1) := by decide +kernel
theorem dX9_twins_34 : decode cX9_twins 34 = .ok (.istore_n 2, 1) := by decide +kernel
theorem dX9_twins_35 : decode cX9_twins 35 = .ok (.iload_n 2, 1) := by decide +kernel
theorem dX9_twins_36 : decode cX9_twins 36 = .ok (.aload_n 0, 1) := by decide +kernel
theorem dX9_twins_37 : decode cX9_twins 37 = .ok (.getfield 289, 3) := by decide +kernel
theorem dX9_twins_40 : decode cX9_twins 40 = .ok (.getfield 180, 3) := by decide +kernel
theorem dX9_twins_43 : decode cX9_twins 43 = .ok (.if_icmp .ge 42, 3) := by decide +kernel
theorem dX9_twins_46 : decode cX9_twins 46 = .ok (.aload_n 0, 1) := by decide +kernel
theorem dX9_twins_47 : decode cX9_twins 47 = .ok (.getfield 289, 3) := by decide +kernel
theorem dX9_twins_50 : decode cX9_twins 50 = .ok (.getfield 235, 3) := by decide +kernel
theorem dX9_twins_53 : decode cX9_twins 53 = .ok (.iload_n 1, 1) := by decide +kernel
theorem dX9_twins_54 : decode cX9_twins 54 = .ok (.laload, 1) := by decide +kernel
theorem dX9_twins_55 : decode cX9_twins 55 = .ok (.aload_n 0, 1) := by decide +kernel
theorem dX9_twins_56 : decode cX9_twins 56 = .ok (.getfield 289, 3) := by decide +kernel
theorem dX9_twins_59 : decode cX9_twins 59 = .ok (.getfield 235, 3) := by decide +kernel
theorem dX9_twins_62 : decode cX9_twins 62 = .ok (.iload_n 2, 1) := by decide +kernel
theorem dX9_twins_63 : decode cX9_twins 63 = .ok (.laload, 1) := by decide +kernel
theorem dX9_twins_64 : decode cX9_twins 64 = .ok (.lcmp, 1) := by decide +kernel
theorem dX9_twins_65 : decode cX9_twins 65 = .ok (.ifCond .ne 14, 3) := by decide +kernel
theorem dX9_twins_68 : decode cX9_twins 68 = .ok (.aload_n 0, 1) := by decide +kernel
theorem dX9_twins_69 : decode cX9_twins 69 = .ok (.bipush 10, 2) := by decide +kernel
theorem dX9_twins_71 : decode cX9_twins 71 = .ok (.iload_n 1, 1) := by decide +kernel
theorem dX9_twins_72 : decode cX9_twins 72 = .ok (.imul, 1) := by decide +kernel
theorem dX9_twins_73 : decode cX9_twins 73 = .ok (.iload_n 2, 1) := by decide +kernel
theorem dX9_twins_74 : decode cX9_twins 74 = .ok (.iadd, 1) := by decide +kernel
theorem dX9_twins_75 : decode cX9_twins 75 = .ok (.invokevirtual 46, 3) := by decide +kernel
theorem dX9_twins_78 : decode cX9_twins 78 = .ok (.ireturn, 1) := by decide +kernel
theorem dX9_twins_79 : decode cX9_twins 79 = .ok (.iinc 2 1, 3) := by decide +kernel
theorem dX9_twins_82 : decode cX9_twins 82 = .ok (.goto (-47), 3) := by decide +kernel
theorem dX9_twins_85 : decode cX9_twins 85 = .ok (.iinc 1 1, 3) := by decide +kernel
theorem dX9_twins_88 : decode cX9_twins 88 = .ok (.goto (-68), 3) := by decide +kernel
theorem dX9_twins_91 : decode cX9_twins 91 = .ok (.aload_n 0, 1) := by decide +kernel
theorem dX9_twins_92 : decode cX9_twins 92 = .ok (.bipush (-2), 2) := by decide +kernel
theorem dX9_twins_94 : decode cX9_twins 94 = .ok (.invokevirtual 46, 3) := by decide +kernel
theorem dX9_twins_97 : decode cX9_twins 97 = .ok (.ireturn, 1) := by decide +kernel
def B_X9_twins_0 (X : Nat × (Nat → Int32)) (J : Nat → zCf) (R : zRt) : zCf := oALOAD 0 (oPI (zj (0)) (oPUTI 9 0 (oALOAD 0 (oGETR 9 3 (oIFNONNULL (J 18) (oALOAD 0 (oPI (zj (1)) (oINV1 X M_X9_refused 9 (oIRET R)))))))))
set_option maxRecDepth 100000 in
theorem vb_X9_twins_0 {X : Nat × (Nat → Int32)} {R : zRt} : ∀ ls st h, B_X9_twins_0 X (zV X M_X9_twins (zQm M_X9_twins R) 0 0) R ls st h → zV X M_X9_twins (zQm M_X9_twins R) 0 0 0 ls st h := sd_aload_n dX9_twins_0 rfl (sd_iconst dX9_twins_1 rfl (sd_puti dX9_twins_2 zCl9 (Nat.le_of_ble_eq_true rfl) lk_RX9_36 rfl (Or.inl rfl) (sd_aload_n dX9_twins_5 rfl (sd_getr dX9_twins_6 zCl9 (Nat.le_of_ble_eq_true rfl) lk_RX9_289 (Or.inl ⟨_, rfl⟩) (sd_ifnonnull dX9_twins_9 rfl (fun _ _ _ h => h) (sd_aload_n dX9_twins_12 rfl (sd_iconst dX9_twins_13 rfl (sd_inv1 dX9_twins_14 rfl mv_X9_refused na_X9_refused ml_RX9_42 ⟨⟨Nat.le_of_ble_eq_true rfl, Nat.le_of_ble_eq_true rfl⟩, ⟨Nat.le_of_ble_eq_true rfl, Nat.le_of_ble_eq_true rfl⟩⟩ (sd_iret dX9_twins_17 rfl (Nat.le_of_ble_eq_true rfl) (Nat.le_of_ble_eq_true rfl))))))))))
def B_X9_twins_18 (X : Nat × (Nat → Int32)) (J : Nat → zCf) (R : zRt) : zCf := oPI (zj (0)) (oISTORE 0 1 (J 20))
set_option maxRecDepth 100000 in
theorem vb_X9_twins_18 {X : Nat × (Nat → Int32)} {R : zRt} : ∀ ls st h, B_X9_twins_18 X (zV X M_X9_twins (zQm M_X9_twins R) 0 0) R ls st h → zV X M_X9_twins (zQm M_X9_twins R) 0 0 18 ls st h := sd_iconst dX9_twins_18 rfl (sd_istore_n dX9_twins_19 rfl (Nat.le_of_ble_eq_true rfl) (Or.inl rfl) (fun _ _ _ h => h))
def B_X9_twins_20 (X : Nat × (Nat → Int32)) (J : Nat → zCf) (R : zRt) : zCf := oILOAD 1 (oALOAD 0 (oGETR 9 3 (oGETI 8 1 (oICGE (J 91) (oILOAD 1 (oPI (zj (1)) (oIADD (oISTORE 1 2 (J 35)))))))))
set_option maxRecDepth 100000 in
theorem vb_X9_twins_20 {X : Nat × (Nat → Int32)} {R : zRt} : ∀ ls st h, B_X9_twins_20 X (zV X M_X9_twins (zQm M_X9_twins R) 0 0) R ls st h → zV X M_X9_twins (zQm M_X9_twins R) 0 0 20 ls st h := sd_iload_n dX9_twins_20 rfl (sd_aload_n dX9_twins_21 rfl (sd_getr dX9_twins_22 zCl9 (Nat.le_of_ble_eq_true rfl) lk_RX9_289 (Or.inl ⟨_, rfl⟩) (sd_geti dX9_twins_25 zCl8 (Nat.le_of_ble_eq_true rfl) lk_RX9_180 (Or.inl rfl) (sd_icge dX9_twins_28 rfl (fun _ _ _ h => h) (sd_iload_n dX9_twins_31 rfl (sd_iconst dX9_twins_32 rfl (sd_iadd dX9_twins_33 (sd_istore_n dX9_twins_34 rfl (Nat.le_of_ble_eq_true rfl) (Or.inl rfl) (fun _ _ _ h => h)))))))))
def B_X9_twins_35 (X : Nat × (Nat → Int32)) (J : Nat → zCf) (R : zRt) : zCf := oILOAD 2 (oALOAD 0 (oGETR 9 3 (oGETI 8 1 (oICGE (J 85) (oALOAD 0 (oGETR 9 3 (oGETR 8 12 (oILOAD 1 (oLALD (oALOAD 0 (oGETR 9 3 (oGETR 8 12 (oILOAD 2 (oLALD (oLCMP (oIFNE (J 79) (oALOAD 0 (oPI (zj (10)) (oILOAD 1 (oIMUL (oILOAD 2 (oIADD (oINV1 X M_X9_good 9 (oIRET R))))))))))))))))))))))))
set_option maxRecDepth 100000 in
theorem vb_X9_twins_35 {X : Nat × (Nat → Int32)} {R : zRt} : ∀ ls st h, B_X9_twins_35 X (zV X M_X9_twins (zQm M_X9_twins R) 0 0) R ls st h → zV X M_X9_twins (zQm M_X9_twins R) 0 0 35 ls st h := sd_iload_n dX9_twins_35 rfl (sd_aload_n dX9_twins_36 rfl (sd_getr dX9_twins_37 zCl9 (Nat.le_of_ble_eq_true rfl) lk_RX9_289 (Or.inl ⟨_, rfl⟩) (sd_geti dX9_twins_40 zCl8 (Nat.le_of_ble_eq_true rfl) lk_RX9_180 (Or.inl rfl) (sd_icge dX9_twins_43 rfl (fun _ _ _ h => h) (sd_aload_n dX9_twins_46 rfl (sd_getr dX9_twins_47 zCl9 (Nat.le_of_ble_eq_true rfl) lk_RX9_289 (Or.inl ⟨_, rfl⟩) (sd_getr dX9_twins_50 zCl8 (Nat.le_of_ble_eq_true rfl) lk_RX9_235 (Or.inr ⟨_, rfl⟩) (sd_iload_n dX9_twins_53 rfl (sd_lald dX9_twins_54 (sd_aload_n dX9_twins_55 rfl (sd_getr dX9_twins_56 zCl9 (Nat.le_of_ble_eq_true rfl) lk_RX9_289 (Or.inl ⟨_, rfl⟩) (sd_getr dX9_twins_59 zCl8 (Nat.le_of_ble_eq_true rfl) lk_RX9_235 (Or.inr ⟨_, rfl⟩) (sd_iload_n dX9_twins_62 rfl (sd_lald dX9_twins_63 (sd_lcmp dX9_twins_64 (sd_ifne dX9_twins_65 rfl (fun _ _ _ h => h) (sd_aload_n dX9_twins_68 rfl (sd_bipush dX9_twins_69 rfl (sd_iload_n dX9_twins_71 rfl (sd_imul dX9_twins_72 (sd_iload_n dX9_twins_73 rfl (sd_iadd dX9_twins_74 (sd_inv1 dX9_twins_75 rfl mv_X9_good na_X9_good ml_RX9_46 ⟨⟨Nat.le_of_ble_eq_true rfl, Nat.le_of_ble_eq_true rfl⟩, ⟨Nat.le_of_ble_eq_true rfl, Nat.le_of_ble_eq_true rfl⟩⟩ (sd_iret dX9_twins_78 rfl (Nat.le_of_ble_eq_true rfl) (Nat.le_of_ble_eq_true rfl)))))))))))))))))))))))))
def B_X9_twins_79 (X : Nat × (Nat → Int32)) (J : Nat → zCf) (R : zRt) : zCf := oIINC 1 2 (zj (1)) (J 35)
set_option maxRecDepth 100000 in
theorem vb_X9_twins_79 {X : Nat × (Nat → Int32)} {R : zRt} : ∀ ls st h, B_X9_twins_79 X (zV X M_X9_twins (zQm M_X9_twins R) 0 0) R ls st h → zV X M_X9_twins (zQm M_X9_twins R) 0 0 79 ls st h := sd_iinc dX9_twins_79 rfl (Nat.le_of_ble_eq_true rfl) (Or.inl rfl) (sd_goto dX9_twins_82 rfl (fun _ _ _ h => h))
def B_X9_twins_85 (X : Nat × (Nat → Int32)) (J : Nat → zCf) (R : zRt) : zCf := oIINC 0 1 (zj (1)) (J 20)
set_option maxRecDepth 100000 in
theorem vb_X9_twins_85 {X : Nat × (Nat → Int32)} {R : zRt} : ∀ ls st h, B_X9_twins_85 X (zV X M_X9_twins (zQm M_X9_twins R) 0 0) R ls st h → zV X M_X9_twins (zQm M_X9_twins R) 0 0 85 ls st h := sd_iinc dX9_twins_85 rfl (Nat.le_of_ble_eq_true rfl) (Or.inl rfl) (sd_goto dX9_twins_88 rfl (fun _ _ _ h => h))
def B_X9_twins_91 (X : Nat × (Nat → Int32)) (J : Nat → zCf) (R : zRt) : zCf := oALOAD 0 (oPI (zj (-2)) (oINV1 X M_X9_good 9 (oIRET R)))
set_option maxRecDepth 100000 in
theorem vb_X9_twins_91 {X : Nat × (Nat → Int32)} {R : zRt} : ∀ ls st h, B_X9_twins_91 X (zV X M_X9_twins (zQm M_X9_twins R) 0 0) R ls st h → zV X M_X9_twins (zQm M_X9_twins R) 0 0 91 ls st h := sd_aload_n dX9_twins_91 rfl (sd_bipush dX9_twins_92 rfl (sd_inv1 dX9_twins_94 rfl mv_X9_good na_X9_good ml_RX9_46 ⟨⟨Nat.le_of_ble_eq_true rfl, Nat.le_of_ble_eq_true rfl⟩, ⟨Nat.le_of_ble_eq_true rfl, Nat.le_of_ble_eq_true rfl⟩⟩ (sd_iret dX9_twins_97 rfl (Nat.le_of_ble_eq_true rfl) (Nat.le_of_ble_eq_true rfl))))
theorem dX9_mostTops_0 : decode cX9_mostTops 0 = .ok (.aload_n 0, 1) := by decide +kernel
theorem dX9_mostTops_1 : decode cX9_mostTops 1 = .ok (.iconst 0, 1) := by decide +kernel
theorem dX9_mostTops_2 : decode cX9_mostTops 2 = .ok (.putfield 36, 3) := by decide +kernel
theorem dX9_mostTops_5 : decode cX9_mostTops 5 = .ok (.aload_n 0, 1) := by decide +kernel
theorem dX9_mostTops_6 : decode cX9_mostTops 6 = .ok (.getfield 289, 3) := by decide +kernel
theorem dX9_mostTops_9 : decode cX9_mostTops 9 = .ok (.ifnonnull 9, 3) := by decide +kernel
theorem dX9_mostTops_12 : decode cX9_mostTops 12 = .ok (.aload_n 0, 1) := by decide +kernel
theorem dX9_mostTops_13 : decode cX9_mostTops 13 = .ok (.iconst 1, 1) := by decide +kernel
theorem dX9_mostTops_14 : decode cX9_mostTops 14 = .ok (.invokevirtual 42, 3) := by decide +kernel
theorem dX9_mostTops_17 : decode cX9_mostTops 17 = .ok (.ireturn, 1) := by decide +kernel
theorem dX9_mostTops_18 : decode cX9_mostTops 18 = .ok (.bipush (-6), 2) := by decide +kernel
theorem dX9_mostTops_20 : decode cX9_mostTops 20 = .ok (.istore_n 1, 1) := by decide +kernel
theorem dX9_mostTops_21 : decode cX9_mostTops 21 = .ok (.bipush (-5), 2) := by decide +kernel
theorem dX9_mostTops_23 : decode cX9_mostTops 23 = .ok (.istore_n 2, 1) := by decide +kernel
theorem dX9_mostTops_24 : decode cX9_mostTops 24 = .ok (.iload_n 2, 1) := by decide +kernel
theorem dX9_mostTops_25 : decode cX9_mostTops 25 = .ok (.bipush 6, 2) := by decide +kernel
theorem dX9_mostTops_27 : decode cX9_mostTops 27 = .ok (.if_icmp .gt 24, 3) := by decide +kernel
theorem dX9_mostTops_30 : decode cX9_mostTops 30 = .ok (.aload_n 0, 1) := by decide +kernel
theorem dX9_mostTops_31 : decode cX9_mostTops 31 = .ok (.iload_n 2, 1) := by decide +kernel
theorem dX9_mostTops_32 : decode cX9_mostTops 32 = .ok (.invokevirtual 349, 3) := by decide +kernel
theorem dX9_mostTops_35 : decode cX9_mostTops 35 = .ok (.aload_n 0, 1) := by decide +kernel
theorem dX9_mostTops_36 : decode cX9_mostTops 36 = .ok (.iload_n 1, 1) := by decide +kernel
theorem dX9_mostTops_37 : decode cX9_mostTops 37 = .ok (.invokevirtual 349, 3) := by decide +kernel
theorem dX9_mostTops_40 : decode cX9_mostTops 40 = .ok (.if_icmp .le 5, 3) := by decide +kernel
theorem dX9_mostTops_43 : decode cX9_mostTops 43 = .ok (.iload_n 2, 1) := by decide +kernel
theorem dX9_mostTops_44 : decode cX9_mostTops 44 = .ok (.istore_n 1, 1) := by decide +kernel
theorem dX9_mostTops_45 : decode cX9_mostTops 45 = .ok (.iinc 2 1, 3) := by decide +kernel
theorem dX9_mostTops_48 : decode cX9_mostTops 48 = .ok (.goto (-24), 3) := by decide +kernel
theorem dX9_mostTops_51 : decode cX9_mostTops 51 = .ok (.aload_n 0, 1) := by decide +kernel
theorem dX9_mostTops_52 : decode cX9_mostTops 52 = .ok (.iload_n 1, 1) := by decide +kernel
theorem dX9_mostTops_53 : decode cX9_mostTops 53 = .ok (.bipush 6, 2) := by decide +kernel
theorem dX9_mostTops_55 : decode cX9_mostTops 55 = .ok (.iadd, 1) := by decide +kernel
theorem dX9_mostTops_56 : decode cX9_mostTops 56 = .ok (.invokevirtual 46, 3) := by decide +kernel
theorem dX9_mostTops_59 : decode cX9_mostTops 59 = .ok (.ireturn, 1) := by decide +kernel
def B_X9_mostTops_0 (X : Nat × (Nat → Int32)) (J : Nat → zCf) (R : zRt) : zCf := oALOAD 0 (oPI (zj (0)) (oPUTI 9 0 (oALOAD 0 (oGETR 9 3 (oIFNONNULL (J 18) (oALOAD 0 (oPI (zj (1)) (oINV1 X M_X9_refused 9 (oIRET R)))))))))
set_option maxRecDepth 100000 in
theorem vb_X9_mostTops_0 {X : Nat × (Nat → Int32)} {R : zRt} : ∀ ls st h, B_X9_mostTops_0 X (zV X M_X9_mostTops (zQm M_X9_mostTops R) 0 0) R ls st h → zV X M_X9_mostTops (zQm M_X9_mostTops R) 0 0 0 ls st h := sd_aload_n dX9_mostTops_0 rfl (sd_iconst dX9_mostTops_1 rfl (sd_puti dX9_mostTops_2 zCl9 (Nat.le_of_ble_eq_true rfl) lk_RX9_36 rfl (Or.inl rfl) (sd_aload_n dX9_mostTops_5 rfl (sd_getr dX9_mostTops_6 zCl9 (Nat.le_of_ble_eq_true rfl) lk_RX9_289 (Or.inl ⟨_, rfl⟩) (sd_ifnonnull dX9_mostTops_9 rfl (fun _ _ _ h => h) (sd_aload_n dX9_mostTops_12 rfl (sd_iconst dX9_mostTops_13 rfl (sd_inv1 dX9_mostTops_14 rfl mv_X9_refused na_X9_refused ml_RX9_42 ⟨⟨Nat.le_of_ble_eq_true rfl, Nat.le_of_ble_eq_true rfl⟩, ⟨Nat.le_of_ble_eq_true rfl, Nat.le_of_ble_eq_true rfl⟩⟩ (sd_iret dX9_mostTops_17 rfl (Nat.le_of_ble_eq_true rfl) (Nat.le_of_ble_eq_true rfl))))))))))
def B_X9_mostTops_18 (X : Nat × (Nat → Int32)) (J : Nat → zCf) (R : zRt) : zCf := oPI (zj (-6)) (oISTORE 0 1 (oPI (zj (-5)) (oISTORE 1 2 (J 24))))
set_option maxRecDepth 100000 in
theorem vb_X9_mostTops_18 {X : Nat × (Nat → Int32)} {R : zRt} : ∀ ls st h, B_X9_mostTops_18 X (zV X M_X9_mostTops (zQm M_X9_mostTops R) 0 0) R ls st h → zV X M_X9_mostTops (zQm M_X9_mostTops R) 0 0 18 ls st h := sd_bipush dX9_mostTops_18 rfl (sd_istore_n dX9_mostTops_20 rfl (Nat.le_of_ble_eq_true rfl) (Or.inl rfl) (sd_bipush dX9_mostTops_21 rfl (sd_istore_n dX9_mostTops_23 rfl (Nat.le_of_ble_eq_true rfl) (Or.inl rfl) (fun _ _ _ h => h))))
def B_X9_mostTops_24 (X : Nat × (Nat → Int32)) (J : Nat → zCf) (R : zRt) : zCf := oILOAD 2 (oPI (zj (6)) (oICGT (J 51) (oALOAD 0 (oILOAD 2 (oINV1 X M_X9_topsBy 9 (oALOAD 0 (oILOAD 1 (oINV1 X M_X9_topsBy 9 (oICLE (J 45) (oILOAD 2 (oISTORE 0 1 (J 45))))))))))))
set_option maxRecDepth 100000 in
theorem vb_X9_mostTops_24 {X : Nat × (Nat → Int32)} {R : zRt} : ∀ ls st h, B_X9_mostTops_24 X (zV X M_X9_mostTops (zQm M_X9_mostTops R) 0 0) R ls st h → zV X M_X9_mostTops (zQm M_X9_mostTops R) 0 0 24 ls st h := sd_iload_n dX9_mostTops_24 rfl (sd_bipush dX9_mostTops_25 rfl (sd_icgt dX9_mostTops_27 rfl (fun _ _ _ h => h) (sd_aload_n dX9_mostTops_30 rfl (sd_iload_n dX9_mostTops_31 rfl (sd_inv1 dX9_mostTops_32 rfl mv_X9_topsBy na_X9_topsBy ml_RX9_349 ⟨⟨Nat.le_of_ble_eq_true rfl, Nat.le_of_ble_eq_true rfl⟩, ⟨Nat.le_of_ble_eq_true rfl, Nat.le_of_ble_eq_true rfl⟩⟩ (sd_aload_n dX9_mostTops_35 rfl (sd_iload_n dX9_mostTops_36 rfl (sd_inv1 dX9_mostTops_37 rfl mv_X9_topsBy na_X9_topsBy ml_RX9_349 ⟨⟨Nat.le_of_ble_eq_true rfl, Nat.le_of_ble_eq_true rfl⟩, ⟨Nat.le_of_ble_eq_true rfl, Nat.le_of_ble_eq_true rfl⟩⟩ (sd_icle dX9_mostTops_40 rfl (fun _ _ _ h => h) (sd_iload_n dX9_mostTops_43 rfl (sd_istore_n dX9_mostTops_44 rfl (Nat.le_of_ble_eq_true rfl) (Or.inl rfl) (fun _ _ _ h => h))))))))))))
def B_X9_mostTops_45 (X : Nat × (Nat → Int32)) (J : Nat → zCf) (R : zRt) : zCf := oIINC 1 2 (zj (1)) (J 24)
set_option maxRecDepth 100000 in
theorem vb_X9_mostTops_45 {X : Nat × (Nat → Int32)} {R : zRt} : ∀ ls st h, B_X9_mostTops_45 X (zV X M_X9_mostTops (zQm M_X9_mostTops R) 0 0) R ls st h → zV X M_X9_mostTops (zQm M_X9_mostTops R) 0 0 45 ls st h := sd_iinc dX9_mostTops_45 rfl (Nat.le_of_ble_eq_true rfl) (Or.inl rfl) (sd_goto dX9_mostTops_48 rfl (fun _ _ _ h => h))
def B_X9_mostTops_51 (X : Nat × (Nat → Int32)) (J : Nat → zCf) (R : zRt) : zCf := oALOAD 0 (oILOAD 1 (oPI (zj (6)) (oIADD (oINV1 X M_X9_good 9 (oIRET R)))))
set_option maxRecDepth 100000 in
theorem vb_X9_mostTops_51 {X : Nat × (Nat → Int32)} {R : zRt} : ∀ ls st h, B_X9_mostTops_51 X (zV X M_X9_mostTops (zQm M_X9_mostTops R) 0 0) R ls st h → zV X M_X9_mostTops (zQm M_X9_mostTops R) 0 0 51 ls st h := sd_aload_n dX9_mostTops_51 rfl (sd_iload_n dX9_mostTops_52 rfl (sd_bipush dX9_mostTops_53 rfl (sd_iadd dX9_mostTops_55 (sd_inv1 dX9_mostTops_56 rfl mv_X9_good na_X9_good ml_RX9_46 ⟨⟨Nat.le_of_ble_eq_true rfl, Nat.le_of_ble_eq_true rfl⟩, ⟨Nat.le_of_ble_eq_true rfl, Nat.le_of_ble_eq_true rfl⟩⟩ (sd_iret dX9_mostTops_59 rfl (Nat.le_of_ble_eq_true rfl) (Nat.le_of_ble_eq_true rfl))))))
theorem dX9_clicksOf_0 : decode cX9_clicksOf 0 = .ok (.iload_n 0, 1) := by decide +kernel
theorem dX9_clicksOf_1 : decode cX9_clicksOf 1 = .ok (.iconst 3, 1) := by decide +kernel
theorem dX9_clicksOf_2 : decode cX9_clicksOf 2 = .ok (.if_icmp .ge 9, 3) := by decide +kernel
theorem dX9_clicksOf_5 : decode cX9_clicksOf 5 = .ok (.iload_n 0, 1) := by decide +kernel
theorem dX9_clicksOf_6 : decode cX9_clicksOf 6 = .ok (.iconst 3, 1) := by decide +kernel
theorem dX9_clicksOf_7 : decode cX9_clicksOf 7 = .ok (.isub, 1) := by decide +kernel
theorem dX9_clicksOf_8 : decode cX9_clicksOf 8 = .ok (.goto 8, 3) := by decide +kernel
theorem dX9_clicksOf_11 : decode cX9_clicksOf 11 = .ok (.iload_n 0, 1) := by decide +kernel
theorem dX9_clicksOf_12 : decode cX9_clicksOf 12 = .ok (.iconst 3, 1) := by decide +kernel
theorem dX9_clicksOf_13 : decode cX9_clicksOf 13 = .ok (.isub, 1) := by decide +kernel
theorem dX9_clicksOf_14 : decode cX9_clicksOf 14 = .ok (.iconst 1, 1) := by decide +kernel
theorem dX9_clicksOf_15 : decode cX9_clicksOf 15 = .ok (.iadd, 1) := by decide +kernel
theorem dX9_clicksOf_16 : decode cX9_clicksOf 16 = .ok (.ireturn, 1) := by decide +kernel
def B_X9_clicksOf_0 (X : Nat × (Nat → Int32)) (J : Nat → zCf) (R : zRt) : zCf := oILOAD 0 (oPI (zj (3)) (oICGE (J 11) (oILOAD 0 (oPI (zj (3)) (oISUB (J 16))))))
set_option maxRecDepth 100000 in
theorem vb_X9_clicksOf_0 {X : Nat × (Nat → Int32)} {R : zRt} : ∀ ls st h, B_X9_clicksOf_0 X (zV X M_X9_clicksOf (zQm M_X9_clicksOf R) 0 0) R ls st h → zV X M_X9_clicksOf (zQm M_X9_clicksOf R) 0 0 0 ls st h := sd_iload_n dX9_clicksOf_0 rfl (sd_iconst dX9_clicksOf_1 rfl (sd_icge dX9_clicksOf_2 rfl (fun _ _ _ h => h) (sd_iload_n dX9_clicksOf_5 rfl (sd_iconst dX9_clicksOf_6 rfl (sd_isub dX9_clicksOf_7 (sd_goto dX9_clicksOf_8 rfl (fun _ _ _ h => h)))))))
def B_X9_clicksOf_11 (X : Nat × (Nat → Int32)) (J : Nat → zCf) (R : zRt) : zCf := oILOAD 0 (oPI (zj (3)) (oISUB (oPI (zj (1)) (oIADD (J 16)))))
set_option maxRecDepth 100000 in
theorem vb_X9_clicksOf_11 {X : Nat × (Nat → Int32)} {R : zRt} : ∀ ls st h, B_X9_clicksOf_11 X (zV X M_X9_clicksOf (zQm M_X9_clicksOf R) 0 0) R ls st h → zV X M_X9_clicksOf (zQm M_X9_clicksOf R) 0 0 11 ls st h := sd_iload_n dX9_clicksOf_11 rfl (sd_iconst dX9_clicksOf_12 rfl (sd_isub dX9_clicksOf_13 (sd_iconst dX9_clicksOf_14 rfl (sd_iadd dX9_clicksOf_15 (fun _ _ _ h => h)))))
def B_X9_clicksOf_16 (X : Nat × (Nat → Int32)) (J : Nat → zCf) (R : zRt) : zCf := oIRET R
set_option maxRecDepth 100000 in
theorem vb_X9_clicksOf_16 {X : Nat × (Nat → Int32)} {R : zRt} : ∀ ls st h, B_X9_clicksOf_16 X (zV X M_X9_clicksOf (zQm M_X9_clicksOf R) 0 0) R ls st h → zV X M_X9_clicksOf (zQm M_X9_clicksOf R) 0 0 16 ls st h := sd_iret dX9_clicksOf_16 rfl (Nat.le_of_ble_eq_true rfl) (Nat.le_of_ble_eq_true rfl)
theorem dX9_nextRow_0 : decode cX9_nextRow 0 = .ok (.iload_n 1, 1) := by decide +kernel
theorem dX9_nextRow_1 : decode cX9_nextRow 1 = .ok (.iconst 1, 1) := by decide +kernel
theorem dX9_nextRow_2 : decode cX9_nextRow 2 = .ok (.isub, 1) := by decide +kernel
theorem dX9_nextRow_3 : decode cX9_nextRow 3 = .ok (.istore_n 2, 1) := by decide +kernel
theorem dX9_nextRow_4 : decode cX9_nextRow 4 = .ok (.iload_n 2, 1) := by decide +kernel
theorem dX9_nextRow_5 : decode cX9_nextRow 5 = .ok (.ifCond .lt 39, 3) := by decide +kernel
theorem dX9_nextRow_8 : decode cX9_nextRow 8 = .ok (.aload_n 0, 1) := by decide +kernel
theorem dX9_nextRow_9 : decode cX9_nextRow 9 = .ok (.getfield 30, 3) := by decide +kernel
theorem dX9_nextRow_12 : decode cX9_nextRow 12 = .ok (.iload_n 2, 1) := by decide +kernel
theorem dX9_nextRow_13 : decode cX9_nextRow 13 = .ok (.dup2, 1) := by decide +kernel
theorem dX9_nextRow_14 : decode cX9_nextRow 14 = .ok (.iaload, 1) := by decide +kernel
theorem dX9_nextRow_15 : decode cX9_nextRow 15 = .ok (.iconst 1, 1) := by decide +kernel
theorem dX9_nextRow_16 : decode cX9_nextRow 16 = .ok (.iadd, 1) := by decide +kernel
theorem dX9_nextRow_17 : decode cX9_nextRow 17 = .ok (.iastore, 1) := by decide +kernel
theorem dX9_nextRow_18 : decode cX9_nextRow 18 = .ok (.aload_n 0, 1) := by decide +kernel
theorem dX9_nextRow_19 : decode cX9_nextRow 19 = .ok (.getfield 30, 3) := by decide +kernel
theorem dX9_nextRow_22 : decode cX9_nextRow 22 = .ok (.iload_n 2, 1) := by decide +kernel
theorem dX9_nextRow_23 : decode cX9_nextRow 23 = .ok (.iaload, 1) := by decide +kernel
theorem dX9_nextRow_24 : decode cX9_nextRow 24 = .ok (.bipush 6, 2) := by decide +kernel
theorem dX9_nextRow_26 : decode cX9_nextRow 26 = .ok (.if_icmp .ge 5, 3) := by decide +kernel
theorem dX9_nextRow_29 : decode cX9_nextRow 29 = .ok (.iconst 1, 1) := by decide +kernel
theorem dX9_nextRow_30 : decode cX9_nextRow 30 = .ok (.ireturn, 1) := by decide +kernel
theorem dX9_nextRow_31 : decode cX9_nextRow 31 = .ok (.aload_n 0, 1) := by decide +kernel
theorem dX9_nextRow_32 : decode cX9_nextRow 32 = .ok (.getfield 30, 3) := by decide +kernel
theorem dX9_nextRow_35 : decode cX9_nextRow 35 = .ok (.iload_n 2, 1) := by decide +kernel
theorem dX9_nextRow_36 : decode cX9_nextRow 36 = .ok (.iconst 0, 1) := by decide +kernel
theorem dX9_nextRow_37 : decode cX9_nextRow 37 = .ok (.iastore, 1) := by decide +kernel
theorem dX9_nextRow_38 : decode cX9_nextRow 38 = .ok (.iinc 2 (-1), 3) := by decide +kernel
theorem dX9_nextRow_41 : decode cX9_nextRow 41 = .ok (.goto (-37), 3) := by decide +kernel
theorem dX9_nextRow_44 : decode cX9_nextRow 44 = .ok (.iconst 0, 1) := by decide +kernel
theorem dX9_nextRow_45 : decode cX9_nextRow 45 = .ok (.ireturn, 1) := by decide +kernel
def B_X9_nextRow_0 (X : Nat × (Nat → Int32)) (J : Nat → zCf) (R : zRt) : zCf := oILOAD 1 (oPI (zj (1)) (oISUB (oISTORE 1 2 (J 4))))
set_option maxRecDepth 100000 in
theorem vb_X9_nextRow_0 {X : Nat × (Nat → Int32)} {R : zRt} : ∀ ls st h, B_X9_nextRow_0 X (zV X M_X9_nextRow (zQm M_X9_nextRow R) 0 0) R ls st h → zV X M_X9_nextRow (zQm M_X9_nextRow R) 0 0 0 ls st h := sd_iload_n dX9_nextRow_0 rfl (sd_iconst dX9_nextRow_1 rfl (sd_isub dX9_nextRow_2 (sd_istore_n dX9_nextRow_3 rfl (Nat.le_of_ble_eq_true rfl) (Or.inl rfl) (fun _ _ _ h => h))))
def B_X9_nextRow_4 (X : Nat × (Nat → Int32)) (J : Nat → zCf) (R : zRt) : zCf := oILOAD 2 (oIFLT (J 44) (oALOAD 0 (oGETR 9 21 (oILOAD 2 (oDUP2 (oIALD (oPI (zj (1)) (oIADD (oIAST (oALOAD 0 (oGETR 9 21 (oILOAD 2 (oIALD (oPI (zj (6)) (oICGE (J 31) (oPI (zj (1)) (oZRET R)))))))))))))))))
set_option maxRecDepth 100000 in
theorem vb_X9_nextRow_4 {X : Nat × (Nat → Int32)} {R : zRt} : ∀ ls st h, B_X9_nextRow_4 X (zV X M_X9_nextRow (zQm M_X9_nextRow R) 0 0) R ls st h → zV X M_X9_nextRow (zQm M_X9_nextRow R) 0 0 4 ls st h := sd_iload_n dX9_nextRow_4 rfl (sd_iflt dX9_nextRow_5 rfl (fun _ _ _ h => h) (sd_aload_n dX9_nextRow_8 rfl (sd_getr dX9_nextRow_9 zCl9 (Nat.le_of_ble_eq_true rfl) lk_RX9_30 (Or.inr ⟨_, rfl⟩) (sd_iload_n dX9_nextRow_12 rfl (sd_dup2 dX9_nextRow_13 (sd_iald dX9_nextRow_14 (sd_iconst dX9_nextRow_15 rfl (sd_iadd dX9_nextRow_16 (sd_iast dX9_nextRow_17 (sd_aload_n dX9_nextRow_18 rfl (sd_getr dX9_nextRow_19 zCl9 (Nat.le_of_ble_eq_true rfl) lk_RX9_30 (Or.inr ⟨_, rfl⟩) (sd_iload_n dX9_nextRow_22 rfl (sd_iald dX9_nextRow_23 (sd_bipush dX9_nextRow_24 rfl (sd_icge dX9_nextRow_26 rfl (fun _ _ _ h => h) (sd_iconst dX9_nextRow_29 rfl (sd_zret dX9_nextRow_30 rfl (Nat.le_of_ble_eq_true rfl) (Nat.le_of_ble_eq_true rfl))))))))))))))))))
def B_X9_nextRow_31 (X : Nat × (Nat → Int32)) (J : Nat → zCf) (R : zRt) : zCf := oALOAD 0 (oGETR 9 21 (oILOAD 2 (oPI (zj (0)) (oIAST (oIINC 1 2 (zj (-1)) (J 4))))))
set_option maxRecDepth 100000 in
theorem vb_X9_nextRow_31 {X : Nat × (Nat → Int32)} {R : zRt} : ∀ ls st h, B_X9_nextRow_31 X (zV X M_X9_nextRow (zQm M_X9_nextRow R) 0 0) R ls st h → zV X M_X9_nextRow (zQm M_X9_nextRow R) 0 0 31 ls st h := sd_aload_n dX9_nextRow_31 rfl (sd_getr dX9_nextRow_32 zCl9 (Nat.le_of_ble_eq_true rfl) lk_RX9_30 (Or.inr ⟨_, rfl⟩) (sd_iload_n dX9_nextRow_35 rfl (sd_iconst dX9_nextRow_36 rfl (sd_iast dX9_nextRow_37 (sd_iinc dX9_nextRow_38 rfl (Nat.le_of_ble_eq_true rfl) (Or.inl rfl) (sd_goto dX9_nextRow_41 rfl (fun _ _ _ h => h)))))))
def B_X9_nextRow_44 (X : Nat × (Nat → Int32)) (J : Nat → zCf) (R : zRt) : zCf := oPI (zj (0)) (oZRET R)
set_option maxRecDepth 100000 in
theorem vb_X9_nextRow_44 {X : Nat × (Nat → Int32)} {R : zRt} : ∀ ls st h, B_X9_nextRow_44 X (zV X M_X9_nextRow (zQm M_X9_nextRow R) 0 0) R ls st h → zV X M_X9_nextRow (zQm M_X9_nextRow R) 0 0 44 ls st h := sd_iconst dX9_nextRow_44 rfl (sd_zret dX9_nextRow_45 rfl (Nat.le_of_ble_eq_true rfl) (Nat.le_of_ble_eq_true rfl))
theorem dX9_firstRow_0 : decode cX9_firstRow 0 = .ok (.iconst 0, 1) := by decide +kernel
theorem dX9_firstRow_1 : decode cX9_firstRow 1 = .ok (.istore_n 2, 1) := by decide +kernel
theorem dX9_firstRow_2 : decode cX9_firstRow 2 = .ok (.iload_n 2, 1) := by decide +kernel
theorem dX9_firstRow_3 : decode cX9_firstRow 3 = .ok (.iload_n 1, 1) := by decide +kernel
theorem dX9_firstRow_4 : decode cX9_firstRow 4 = .ok (.if_icmp .ge 16, 3) := by decide +kernel
theorem dX9_firstRow_7 : decode cX9_firstRow 7 = .ok (.aload_n 0, 1) := by decide +kernel
theorem dX9_firstRow_8 : decode cX9_firstRow 8 = .ok (.getfield 30, 3) := by decide +kernel
theorem dX9_firstRow_11 : decode cX9_firstRow 11 = .ok (.iload_n 2, 1) := by decide +kernel
theorem dX9_firstRow_12 : decode cX9_firstRow 12 = .ok (.iconst 0, 1) := by decide +kernel
theorem dX9_firstRow_13 : decode cX9_firstRow 13 = .ok (.iastore, 1) := by decide +kernel
theorem dX9_firstRow_14 : decode cX9_firstRow 14 = .ok (.iinc 2 1, 3) := by decide +kernel
theorem dX9_firstRow_17 : decode cX9_firstRow 17 = .ok (.goto (-15), 3) := by decide +kernel
theorem dX9_firstRow_20 : decode cX9_firstRow 20 = .ok (.return_, 1) := by decide +kernel
def B_X9_firstRow_0 (X : Nat × (Nat → Int32)) (J : Nat → zCf) (R : zRt) : zCf := oPI (zj (0)) (oISTORE 1 2 (J 2))
set_option maxRecDepth 100000 in
theorem vb_X9_firstRow_0 {X : Nat × (Nat → Int32)} {R : zRt} : ∀ ls st h, B_X9_firstRow_0 X (zV X M_X9_firstRow (zQm M_X9_firstRow R) 0 0) R ls st h → zV X M_X9_firstRow (zQm M_X9_firstRow R) 0 0 0 ls st h := sd_iconst dX9_firstRow_0 rfl (sd_istore_n dX9_firstRow_1 rfl (Nat.le_of_ble_eq_true rfl) (Or.inl rfl) (fun _ _ _ h => h))
def B_X9_firstRow_2 (X : Nat × (Nat → Int32)) (J : Nat → zCf) (R : zRt) : zCf := oILOAD 2 (oILOAD 1 (oICGE (J 20) (oALOAD 0 (oGETR 9 21 (oILOAD 2 (oPI (zj (0)) (oIAST (oIINC 1 2 (zj (1)) (J 2)))))))))
set_option maxRecDepth 100000 in
theorem vb_X9_firstRow_2 {X : Nat × (Nat → Int32)} {R : zRt} : ∀ ls st h, B_X9_firstRow_2 X (zV X M_X9_firstRow (zQm M_X9_firstRow R) 0 0) R ls st h → zV X M_X9_firstRow (zQm M_X9_firstRow R) 0 0 2 ls st h := sd_iload_n dX9_firstRow_2 rfl (sd_iload_n dX9_firstRow_3 rfl (sd_icge dX9_firstRow_4 rfl (fun _ _ _ h => h) (sd_aload_n dX9_firstRow_7 rfl (sd_getr dX9_firstRow_8 zCl9 (Nat.le_of_ble_eq_true rfl) lk_RX9_30 (Or.inr ⟨_, rfl⟩) (sd_iload_n dX9_firstRow_11 rfl (sd_iconst dX9_firstRow_12 rfl (sd_iast dX9_firstRow_13 (sd_iinc dX9_firstRow_14 rfl (Nat.le_of_ble_eq_true rfl) (Or.inl rfl) (sd_goto dX9_firstRow_17 rfl (fun _ _ _ h => h))))))))))
def B_X9_firstRow_20 (X : Nat × (Nat → Int32)) (J : Nat → zCf) (R : zRt) : zCf := oVRET R
set_option maxRecDepth 100000 in
theorem vb_X9_firstRow_20 {X : Nat × (Nat → Int32)} {R : zRt} : ∀ ls st h, B_X9_firstRow_20 X (zV X M_X9_firstRow (zQm M_X9_firstRow R) 0 0) R ls st h → zV X M_X9_firstRow (zQm M_X9_firstRow R) 0 0 20 ls st h := sd_vret dX9_firstRow_20 rfl (Nat.le_of_ble_eq_true rfl) (Nat.le_of_ble_eq_true rfl)
theorem dX9_turnsRow_0 : decode cX9_turnsRow 0 = .ok (.iconst 0, 1) := by decide +kernel
theorem dX9_turnsRow_1 : decode cX9_turnsRow 1 = .ok (.istore_n 2, 1) := by decide +kernel
theorem dX9_turnsRow_2 : decode cX9_turnsRow 2 = .ok (.iload_n 2, 1) := by decide +kernel
theorem dX9_turnsRow_3 : decode cX9_turnsRow 3 = .ok (.iload_n 1, 1) := by decide +kernel
theorem dX9_turnsRow_4 : decode cX9_turnsRow 4 = .ok (.if_icmp .ge 26, 3) := by decide +kernel
theorem dX9_turnsRow_7 : decode cX9_turnsRow 7 = .ok (.aload_n 0, 1) := by decide +kernel
theorem dX9_turnsRow_8 : decode cX9_turnsRow 8 = .ok (.aload_n 0, 1) := by decide +kernel
theorem dX9_turnsRow_9 : decode cX9_turnsRow 9 = .ok (.getfield 21, 3) := by decide +kernel
theorem dX9_turnsRow_12 : decode cX9_turnsRow 12 = .ok (.aload_n 0, 1) := by decide +kernel
theorem dX9_turnsRow_13 : decode cX9_turnsRow 13 = .ok (.getfield 30, 3) := by decide +kernel
theorem dX9_turnsRow_16 : decode cX9_turnsRow 16 = .ok (.iload_n 2, 1) := by decide +kernel
theorem dX9_turnsRow_17 : decode cX9_turnsRow 17 = .ok (.iaload, 1) := by decide +kernel
theorem dX9_turnsRow_18 : decode cX9_turnsRow 18 = .ok (.invokestatic 352, 3) := by decide +kernel
theorem dX9_turnsRow_21 : decode cX9_turnsRow 21 = .ok (.invokevirtual 339, 3) := by decide +kernel
theorem dX9_turnsRow_24 : decode cX9_turnsRow 24 = .ok (.iinc 2 1, 3) := by decide +kernel
theorem dX9_turnsRow_27 : decode cX9_turnsRow 27 = .ok (.goto (-25), 3) := by decide +kernel
theorem dX9_turnsRow_30 : decode cX9_turnsRow 30 = .ok (.return_, 1) := by decide +kernel
def B_X9_turnsRow_0 (X : Nat × (Nat → Int32)) (J : Nat → zCf) (R : zRt) : zCf := oPI (zj (0)) (oISTORE 1 2 (J 2))
set_option maxRecDepth 100000 in
theorem vb_X9_turnsRow_0 {X : Nat × (Nat → Int32)} {R : zRt} : ∀ ls st h, B_X9_turnsRow_0 X (zV X M_X9_turnsRow (zQm M_X9_turnsRow R) 0 0) R ls st h → zV X M_X9_turnsRow (zQm M_X9_turnsRow R) 0 0 0 ls st h := sd_iconst dX9_turnsRow_0 rfl (sd_istore_n dX9_turnsRow_1 rfl (Nat.le_of_ble_eq_true rfl) (Or.inl rfl) (fun _ _ _ h => h))
def B_X9_turnsRow_2 (X : Nat × (Nat → Int32)) (J : Nat → zCf) (R : zRt) : zCf := oILOAD 2 (oILOAD 1 (oICGE (J 30) (oALOAD 0 (oALOAD 0 (oGETR 9 16 (oALOAD 0 (oGETR 9 21 (oILOAD 2 (oIALD (oINS1 X M_X9_clicksOf (oINV2 X M_X9_turns 9 (oIINC 1 2 (zj (1)) (J 2)))))))))))))
set_option maxRecDepth 100000 in
theorem vb_X9_turnsRow_2 {X : Nat × (Nat → Int32)} {R : zRt} : ∀ ls st h, B_X9_turnsRow_2 X (zV X M_X9_turnsRow (zQm M_X9_turnsRow R) 0 0) R ls st h → zV X M_X9_turnsRow (zQm M_X9_turnsRow R) 0 0 2 ls st h := sd_iload_n dX9_turnsRow_2 rfl (sd_iload_n dX9_turnsRow_3 rfl (sd_icge dX9_turnsRow_4 rfl (fun _ _ _ h => h) (sd_aload_n dX9_turnsRow_7 rfl (sd_aload_n dX9_turnsRow_8 rfl (sd_getr dX9_turnsRow_9 zCl9 (Nat.le_of_ble_eq_true rfl) lk_RX9_21 (Or.inr ⟨_, rfl⟩) (sd_aload_n dX9_turnsRow_12 rfl (sd_getr dX9_turnsRow_13 zCl9 (Nat.le_of_ble_eq_true rfl) lk_RX9_30 (Or.inr ⟨_, rfl⟩) (sd_iload_n dX9_turnsRow_16 rfl (sd_iald dX9_turnsRow_17 (sd_ins1 dX9_turnsRow_18 ms_X9_clicksOf na_X9_clicksOf ml_RX9_352 ⟨⟨Nat.le_of_ble_eq_true rfl, Nat.le_of_ble_eq_true rfl⟩, ⟨Nat.le_of_ble_eq_true rfl, Nat.le_of_ble_eq_true rfl⟩⟩ (sd_inv2 dX9_turnsRow_21 rfl mv_X9_turns na_X9_turns ml_RX9_339 ⟨⟨Nat.le_of_ble_eq_true rfl, Nat.le_of_ble_eq_true rfl⟩, ⟨Nat.le_of_ble_eq_true rfl, Nat.le_of_ble_eq_true rfl⟩⟩ (sd_iinc dX9_turnsRow_24 rfl (Nat.le_of_ble_eq_true rfl) (Or.inl rfl) (sd_goto dX9_turnsRow_27 rfl (fun _ _ _ h => h))))))))))))))
def B_X9_turnsRow_30 (X : Nat × (Nat → Int32)) (J : Nat → zCf) (R : zRt) : zCf := oVRET R
set_option maxRecDepth 100000 in
theorem vb_X9_turnsRow_30 {X : Nat × (Nat → Int32)} {R : zRt} : ∀ ls st h, B_X9_turnsRow_30 X (zV X M_X9_turnsRow (zQm M_X9_turnsRow R) 0 0) R ls st h → zV X M_X9_turnsRow (zQm M_X9_turnsRow R) 0 0 30 ls st h := sd_vret dX9_turnsRow_30 rfl (Nat.le_of_ble_eq_true rfl) (Nat.le_of_ble_eq_true rfl)
theorem dX9_isAllRight_0 : decode cX9_isAllRight 0 = .ok (.aload_n 0, 1) := by decide +kernel
theorem dX9_isAllRight_1 : decode cX9_isAllRight 1 = .ok (.aload_n 1, 1) := by decide +kernel
theorem dX9_isAllRight_2 : decode cX9_isAllRight 2 = .ok (.invokevirtual 355, 3) := by decide +kernel
theorem dX9_isAllRight_5 : decode cX9_isAllRight 5 = .ok (.invokestatic 347, 3) := by decide +kernel
theorem dX9_isAllRight_8 : decode cX9_isAllRight 8 = .ok (.aload_n 0, 1) := by decide +kernel
theorem dX9_isAllRight_9 : decode cX9_isAllRight 9 = .ok (.getfield 289, 3) := by decide +kernel
theorem dX9_isAllRight_12 : decode cX9_isAllRight 12 = .ok (.getfield 247, 3) := by decide +kernel
theorem dX9_isAllRight_15 : decode cX9_isAllRight 15 = .ok (.if_icmp .ne 7, 3) := by decide +kernel
theorem dX9_isAllRight_18 : decode cX9_isAllRight 18 = .ok (.iconst 1, 1) := by decide +kernel
theorem dX9_isAllRight_19 : decode cX9_isAllRight 19 = .ok (.goto 4, 3) := by decide +kernel
theorem dX9_isAllRight_22 : decode cX9_isAllRight 22 = .ok (.iconst 0, 1) := by decide +kernel
theorem dX9_isAllRight_23 : decode cX9_isAllRight 23 = .ok (.ireturn, 1) := by decide +kernel
def B_X9_isAllRight_0 (X : Nat × (Nat → Int32)) (J : Nat → zCf) (R : zRt) : zCf := oALOAD 0 (oALOAD 1 (oINV1 X M_X9_rightIn 9 (oINS1 X M_X9_bits (oALOAD 0 (oGETR 9 3 (oGETI 8 2 (oICNE (J 22) (oPI (zj (1)) (J 23)))))))))
set_option maxRecDepth 100000 in
theorem vb_X9_isAllRight_0 {X : Nat × (Nat → Int32)} {R : zRt} : ∀ ls st h, B_X9_isAllRight_0 X (zV X M_X9_isAllRight (zQm M_X9_isAllRight R) 0 0) R ls st h → zV X M_X9_isAllRight (zQm M_X9_isAllRight R) 0 0 0 ls st h := sd_aload_n dX9_isAllRight_0 rfl (sd_aload_n dX9_isAllRight_1 rfl (sd_inv1 dX9_isAllRight_2 rfl mv_X9_rightIn na_X9_rightIn ml_RX9_355 ⟨⟨Nat.le_of_ble_eq_true rfl, Nat.le_of_ble_eq_true rfl⟩, ⟨Nat.le_of_ble_eq_true rfl, Nat.le_of_ble_eq_true rfl⟩⟩ (sd_ins1 dX9_isAllRight_5 ms_X9_bits na_X9_bits ml_RX9_347 ⟨⟨Nat.le_of_ble_eq_true rfl, Nat.le_of_ble_eq_true rfl⟩, ⟨Nat.le_of_ble_eq_true rfl, Nat.le_of_ble_eq_true rfl⟩⟩ (sd_aload_n dX9_isAllRight_8 rfl (sd_getr dX9_isAllRight_9 zCl9 (Nat.le_of_ble_eq_true rfl) lk_RX9_289 (Or.inl ⟨_, rfl⟩) (sd_geti dX9_isAllRight_12 zCl8 (Nat.le_of_ble_eq_true rfl) lk_RX9_247 (Or.inl rfl) (sd_icne dX9_isAllRight_15 rfl (fun _ _ _ h => h) (sd_iconst dX9_isAllRight_18 rfl (sd_goto dX9_isAllRight_19 rfl (fun _ _ _ h => h))))))))))
def B_X9_isAllRight_22 (X : Nat × (Nat → Int32)) (J : Nat → zCf) (R : zRt) : zCf := oPI (zj (0)) (J 23)
set_option maxRecDepth 100000 in
theorem vb_X9_isAllRight_22 {X : Nat × (Nat → Int32)} {R : zRt} : ∀ ls st h, B_X9_isAllRight_22 X (zV X M_X9_isAllRight (zQm M_X9_isAllRight R) 0 0) R ls st h → zV X M_X9_isAllRight (zQm M_X9_isAllRight R) 0 0 22 ls st h := sd_iconst dX9_isAllRight_22 rfl (fun _ _ _ h => h)
def B_X9_isAllRight_23 (X : Nat × (Nat → Int32)) (J : Nat → zCf) (R : zRt) : zCf := oZRET R
set_option maxRecDepth 100000 in
theorem vb_X9_isAllRight_23 {X : Nat × (Nat → Int32)} {R : zRt} : ∀ ls st h, B_X9_isAllRight_23 X (zV X M_X9_isAllRight (zQm M_X9_isAllRight R) 0 0) R ls st h → zV X M_X9_isAllRight (zQm M_X9_isAllRight R) 0 0 23 ls st h := sd_zret dX9_isAllRight_23 rfl (Nat.le_of_ble_eq_true rfl) (Nat.le_of_ble_eq_true rfl)
theorem dX9_right_0 : decode cX9_right 0 = .ok (.aload_n 0, 1) := by decide +kernel
theorem dX9_right_1 : decode cX9_right 1 = .ok (.iconst 0, 1) := by decide +kernel
theorem dX9_right_2 : decode cX9_right 2 = .ok (.putfield 36, 3) := by decide +kernel
theorem dX9_right_5 : decode cX9_right 5 = .ok (.aload_n 0, 1) := by decide +kernel
theorem dX9_right_6 : decode cX9_right 6 = .ok (.getfield 289, 3) := by decide +kernel
theorem dX9_right_9 : decode cX9_right 9 = .ok (.ifnonnull 11, 3) := by decide +kernel
theorem dX9_right_12 : decode cX9_right 12 = .ok (.aload_n 0, 1) := by decide +kernel
theorem dX9_right_13 : decode cX9_right 13 = .ok (.iconst 1, 1) := by decide +kernel
theorem dX9_right_14 : decode cX9_right 14 = .ok (.invokevirtual 42, 3) := by decide +kernel
theorem dX9_right_17 : decode cX9_right 17 = .ok (.goto 15, 3) := by decide +kernel
theorem dX9_right_20 : decode cX9_right 20 = .ok (.aload_n 0, 1) := by decide +kernel
theorem dX9_right_21 : decode cX9_right 21 = .ok (.aload_n 0, 1) := by decide +kernel
theorem dX9_right_22 : decode cX9_right 22 = .ok (.aload_n 0, 1) := by decide +kernel
theorem dX9_right_23 : decode cX9_right 23 = .ok (.getfield 17, 3) := by decide +kernel
theorem dX9_right_26 : decode cX9_right 26 = .ok (.invokevirtual 355, 3) := by decide +kernel
theorem dX9_right_29 : decode cX9_right 29 = .ok (.invokevirtual 46, 3) := by decide +kernel
theorem dX9_right_32 : decode cX9_right 32 = .ok (.ireturn, 1) := by decide +kernel
def B_X9_right_0 (X : Nat × (Nat → Int32)) (J : Nat → zCf) (R : zRt) : zCf := oALOAD 0 (oPI (zj (0)) (oPUTI 9 0 (oALOAD 0 (oGETR 9 3 (oIFNONNULL (J 20) (oALOAD 0 (oPI (zj (1)) (oINV1 X M_X9_refused 9 (J 32)))))))))
set_option maxRecDepth 100000 in
theorem vb_X9_right_0 {X : Nat × (Nat → Int32)} {R : zRt} : ∀ ls st h, B_X9_right_0 X (zV X M_X9_right (zQm M_X9_right R) 0 0) R ls st h → zV X M_X9_right (zQm M_X9_right R) 0 0 0 ls st h := sd_aload_n dX9_right_0 rfl (sd_iconst dX9_right_1 rfl (sd_puti dX9_right_2 zCl9 (Nat.le_of_ble_eq_true rfl) lk_RX9_36 rfl (Or.inl rfl) (sd_aload_n dX9_right_5 rfl (sd_getr dX9_right_6 zCl9 (Nat.le_of_ble_eq_true rfl) lk_RX9_289 (Or.inl ⟨_, rfl⟩) (sd_ifnonnull dX9_right_9 rfl (fun _ _ _ h => h) (sd_aload_n dX9_right_12 rfl (sd_iconst dX9_right_13 rfl (sd_inv1 dX9_right_14 rfl mv_X9_refused na_X9_refused ml_RX9_42 ⟨⟨Nat.le_of_ble_eq_true rfl, Nat.le_of_ble_eq_true rfl⟩, ⟨Nat.le_of_ble_eq_true rfl, Nat.le_of_ble_eq_true rfl⟩⟩ (sd_goto dX9_right_17 rfl (fun _ _ _ h => h))))))))))
def B_X9_right_20 (X : Nat × (Nat → Int32)) (J : Nat → zCf) (R : zRt) : zCf := oALOAD 0 (oALOAD 0 (oALOAD 0 (oGETR 9 15 (oINV1 X M_X9_rightIn 9 (oINV1 X M_X9_good 9 (J 32))))))
set_option maxRecDepth 100000 in
theorem vb_X9_right_20 {X : Nat × (Nat → Int32)} {R : zRt} : ∀ ls st h, B_X9_right_20 X (zV X M_X9_right (zQm M_X9_right R) 0 0) R ls st h → zV X M_X9_right (zQm M_X9_right R) 0 0 20 ls st h := sd_aload_n dX9_right_20 rfl (sd_aload_n dX9_right_21 rfl (sd_aload_n dX9_right_22 rfl (sd_getr dX9_right_23 zCl9 (Nat.le_of_ble_eq_true rfl) lk_RX9_17 (Or.inr ⟨_, rfl⟩) (sd_inv1 dX9_right_26 rfl mv_X9_rightIn na_X9_rightIn ml_RX9_355 ⟨⟨Nat.le_of_ble_eq_true rfl, Nat.le_of_ble_eq_true rfl⟩, ⟨Nat.le_of_ble_eq_true rfl, Nat.le_of_ble_eq_true rfl⟩⟩ (sd_inv1 dX9_right_29 rfl mv_X9_good na_X9_good ml_RX9_46 ⟨⟨Nat.le_of_ble_eq_true rfl, Nat.le_of_ble_eq_true rfl⟩, ⟨Nat.le_of_ble_eq_true rfl, Nat.le_of_ble_eq_true rfl⟩⟩ (fun _ _ _ h => h))))))
def B_X9_right_32 (X : Nat × (Nat → Int32)) (J : Nat → zCf) (R : zRt) : zCf := oIRET R
set_option maxRecDepth 100000 in
theorem vb_X9_right_32 {X : Nat × (Nat → Int32)} {R : zRt} : ∀ ls st h, B_X9_right_32 X (zV X M_X9_right (zQm M_X9_right R) 0 0) R ls st h → zV X M_X9_right (zQm M_X9_right R) 0 0 32 ls st h := sd_iret dX9_right_32 rfl (Nat.le_of_ble_eq_true rfl) (Nat.le_of_ble_eq_true rfl)
theorem dX9_toWant_0 : decode cX9_toWant 0 = .ok (.iconst 0, 1) := by decide +kernel
theorem dX9_toWant_1 : decode cX9_toWant 1 = .ok (.istore_n 1, 1) := by decide +kernel
theorem dX9_toWant_2 : decode cX9_toWant 2 = .ok (.iload_n 1, 1) := by decide +kernel
theorem dX9_toWant_3 : decode cX9_toWant 3 = .ok (.iconst 5, 1) := by decide +kernel
theorem dX9_toWant_4 : decode cX9_toWant 4 = .ok (.if_icmp .gt 76, 3) := by decide +kernel
theorem dX9_toWant_7 : decode cX9_toWant 7 = .ok (.aload_n 0, 1) := by decide +kernel
theorem dX9_toWant_8 : decode cX9_toWant 8 = .ok (.iload_n 1, 1) := by decide +kernel
theorem dX9_toWant_9 : decode cX9_toWant 9 = .ok (.invokevirtual 358, 3) := by decide +kernel
theorem dX9_toWant_12 : decode cX9_toWant 12 = .ok (.iconst 1, 1) := by decide +kernel
theorem dX9_toWant_13 : decode cX9_toWant 13 = .ok (.istore_n 2, 1) := by decide +kernel
theorem dX9_toWant_14 : decode cX9_toWant 14 = .ok (.iload_n 2, 1) := by decide +kernel
theorem dX9_toWant_15 : decode cX9_toWant 15 = .ok (.ifCond .eq 59, 3) := by decide +kernel
theorem dX9_toWant_18 : decode cX9_toWant 18 = .ok (.aload_n 0, 1) := by decide +kernel
theorem dX9_toWant_19 : decode cX9_toWant 19 = .ok (.invokevirtual 336, 3) := by decide +kernel
theorem dX9_toWant_22 : decode cX9_toWant 22 = .ok (.aload_n 0, 1) := by decide +kernel
theorem dX9_toWant_23 : decode cX9_toWant 23 = .ok (.iload_n 1, 1) := by decide +kernel
theorem dX9_toWant_24 : decode cX9_toWant 24 = .ok (.invokevirtual 361, 3) := by decide +kernel
theorem dX9_toWant_27 : decode cX9_toWant 27 = .ok (.aload_n 0, 1) := by decide +kernel
theorem dX9_toWant_28 : decode cX9_toWant 28 = .ok (.aload_n 0, 1) := by decide +kernel
theorem dX9_toWant_29 : decode cX9_toWant 29 = .ok (.getfield 21, 3) := by decide +kernel
theorem dX9_toWant_32 : decode cX9_toWant 32 = .ok (.invokevirtual 364, 3) := by decide +kernel
theorem dX9_toWant_35 : decode cX9_toWant 35 = .ok (.ifCond .eq 30, 3) := by decide +kernel
theorem dX9_toWant_38 : decode cX9_toWant 38 = .ok (.iconst 0, 1) := by decide +kernel
theorem dX9_toWant_39 : decode cX9_toWant 39 = .ok (.istore_n 3, 1) := by decide +kernel
theorem dX9_toWant_40 : decode cX9_toWant 40 = .ok (.iload_n 3, 1) := by decide +kernel
theorem dX9_toWant_41 : decode cX9_toWant 41 = .ok (.iload_n 1, 1) := by decide +kernel
theorem dX9_toWant_42 : decode cX9_toWant 42 = .ok (.if_icmp .ge 21, 3) := by decide +kernel
theorem dX9_toWant_45 : decode cX9_toWant 45 = .ok (.aload_n 0, 1) := by decide +kernel
theorem dX9_toWant_46 : decode cX9_toWant 46 = .ok (.getfield 33, 3) := by decide +kernel
theorem dX9_toWant_49 : decode cX9_toWant 49 = .ok (.iload_n 3, 1) := by decide +kernel
theorem dX9_toWant_50 : decode cX9_toWant 50 = .ok (.aload_n 0, 1) := by decide +kernel
theorem dX9_toWant_51 : decode cX9_toWant 51 = .ok (.getfield 30, 3) := by decide +kernel
theorem dX9_toWant_54 : decode cX9_toWant 54 = .ok (.iload_n 3, 1) := by decide +kernel
theorem dX9_toWant_55 : decode cX9_toWant 55 = .ok (.iaload, 1) := by decide +kernel
theorem dX9_toWant_56 : decode cX9_toWant 56 = .ok (.iastore, 1) := by decide +kernel
theorem dX9_toWant_57 : decode cX9_toWant 57 = .ok (.iinc 3 1, 3) := by decide +kernel
theorem dX9_toWant_60 : decode cX9_toWant 60 = .ok (.goto (-20), 3) := by decide +kernel
theorem dX9_toWant_63 : decode cX9_toWant 63 = .ok (.iload_n 1, 1) := by decide +kernel
theorem dX9_toWant_64 : decode cX9_toWant 64 = .ok (.ireturn, 1) := by decide +kernel
theorem dX9_toWant_65 : decode cX9_toWant 65 = .ok (.aload_n 0, 1) := by decide +kernel
theorem dX9_toWant_66 : decode cX9_toWant 66 = .ok (.iload_n 1, 1) := by decide +kernel
theorem dX9_toWant_67 : decode cX9_toWant 67 = .ok (.invokevirtual 368, 3) := by decide +kernel
theorem dX9_toWant_70 : decode cX9_toWant 70 = .ok (.istore_n 2, 1) := by decide +kernel
theorem dX9_toWant_71 : decode cX9_toWant 71 = .ok (.goto (-57), 3) := by decide +kernel
theorem dX9_toWant_74 : decode cX9_toWant 74 = .ok (.iinc 1 1, 3) := by decide +kernel
theorem dX9_toWant_77 : decode cX9_toWant 77 = .ok (.goto (-75), 3) := by decide +kernel
theorem dX9_toWant_80 : decode cX9_toWant 80 = .ok (.bipush (-2), 2) := by decide +kernel
theorem dX9_toWant_82 : decode cX9_toWant 82 = .ok (.ireturn, 1) := by decide +kernel
def B_X9_toWant_0 (X : Nat × (Nat → Int32)) (J : Nat → zCf) (R : zRt) : zCf := oPI (zj (0)) (oISTORE 0 1 (J 2))
set_option maxRecDepth 100000 in
theorem vb_X9_toWant_0 {X : Nat × (Nat → Int32)} {R : zRt} : ∀ ls st h, B_X9_toWant_0 X (zV X M_X9_toWant (zQm M_X9_toWant R) 0 0) R ls st h → zV X M_X9_toWant (zQm M_X9_toWant R) 0 0 0 ls st h := sd_iconst dX9_toWant_0 rfl (sd_istore_n dX9_toWant_1 rfl (Nat.le_of_ble_eq_true rfl) (Or.inl rfl) (fun _ _ _ h => h))
def B_X9_toWant_2 (X : Nat × (Nat → Int32)) (J : Nat → zCf) (R : zRt) : zCf := oILOAD 1 (oPI (zj (5)) (oICGT (J 80) (oALOAD 0 (oILOAD 1 (oINV1 X M_X9_firstRow 9 (oPI (zj (1)) (oISTORE 1 2 (J 14))))))))
set_option maxRecDepth 100000 in
theorem vb_X9_toWant_2 {X : Nat × (Nat → Int32)} {R : zRt} : ∀ ls st h, B_X9_toWant_2 X (zV X M_X9_toWant (zQm M_X9_toWant R) 0 0) R ls st h → zV X M_X9_toWant (zQm M_X9_toWant R) 0 0 2 ls st h := sd_iload_n dX9_toWant_2 rfl (sd_iconst dX9_toWant_3 rfl (sd_icgt dX9_toWant_4 rfl (fun _ _ _ h => h) (sd_aload_n dX9_toWant_7 rfl (sd_iload_n dX9_toWant_8 rfl (sd_inv1 dX9_toWant_9 rfl mv_X9_firstRow na_X9_firstRow ml_RX9_358 ⟨⟨Nat.le_of_ble_eq_true rfl, Nat.le_of_ble_eq_true rfl⟩, ⟨Nat.le_of_ble_eq_true rfl, Nat.le_of_ble_eq_true rfl⟩⟩ (sd_iconst dX9_toWant_12 rfl (sd_istore_n dX9_toWant_13 rfl (Nat.le_of_ble_eq_true rfl) (Or.inl rfl) (fun _ _ _ h => h))))))))
def B_X9_toWant_14 (X : Nat × (Nat → Int32)) (J : Nat → zCf) (R : zRt) : zCf := oILOAD 2 (oIFEQ (J 74) (oALOAD 0 (oINV0 X M_X9_tries 9 (oALOAD 0 (oILOAD 1 (oINV1 X M_X9_turnsRow 9 (oALOAD 0 (oALOAD 0 (oGETR 9 16 (oINV1 X M_X9_isAllRight 9 (oIFEQ (J 65) (oPI (zj (0)) (oISTORE 2 3 (J 40))))))))))))))
set_option maxRecDepth 100000 in
theorem vb_X9_toWant_14 {X : Nat × (Nat → Int32)} {R : zRt} : ∀ ls st h, B_X9_toWant_14 X (zV X M_X9_toWant (zQm M_X9_toWant R) 0 0) R ls st h → zV X M_X9_toWant (zQm M_X9_toWant R) 0 0 14 ls st h := sd_iload_n dX9_toWant_14 rfl (sd_ifeq dX9_toWant_15 rfl (fun _ _ _ h => h) (sd_aload_n dX9_toWant_18 rfl (sd_inv0 dX9_toWant_19 rfl mv_X9_tries na_X9_tries ml_RX9_336 ⟨⟨Nat.le_of_ble_eq_true rfl, Nat.le_of_ble_eq_true rfl⟩, ⟨Nat.le_of_ble_eq_true rfl, Nat.le_of_ble_eq_true rfl⟩⟩ (sd_aload_n dX9_toWant_22 rfl (sd_iload_n dX9_toWant_23 rfl (sd_inv1 dX9_toWant_24 rfl mv_X9_turnsRow na_X9_turnsRow ml_RX9_361 ⟨⟨Nat.le_of_ble_eq_true rfl, Nat.le_of_ble_eq_true rfl⟩, ⟨Nat.le_of_ble_eq_true rfl, Nat.le_of_ble_eq_true rfl⟩⟩ (sd_aload_n dX9_toWant_27 rfl (sd_aload_n dX9_toWant_28 rfl (sd_getr dX9_toWant_29 zCl9 (Nat.le_of_ble_eq_true rfl) lk_RX9_21 (Or.inr ⟨_, rfl⟩) (sd_inv1 dX9_toWant_32 rfl mv_X9_isAllRight na_X9_isAllRight ml_RX9_364 ⟨⟨Nat.le_of_ble_eq_true rfl, Nat.le_of_ble_eq_true rfl⟩, ⟨Nat.le_of_ble_eq_true rfl, Nat.le_of_ble_eq_true rfl⟩⟩ (sd_ifeq dX9_toWant_35 rfl (fun _ _ _ h => h) (sd_iconst dX9_toWant_38 rfl (sd_istore_n dX9_toWant_39 rfl (Nat.le_of_ble_eq_true rfl) (Or.inl rfl) (fun _ _ _ h => h))))))))))))))
def B_X9_toWant_40 (X : Nat × (Nat → Int32)) (J : Nat → zCf) (R : zRt) : zCf := oILOAD 3 (oILOAD 1 (oICGE (J 63) (oALOAD 0 (oGETR 9 22 (oILOAD 3 (oALOAD 0 (oGETR 9 21 (oILOAD 3 (oIALD (oIAST (oIINC 2 3 (zj (1)) (J 40))))))))))))
set_option maxRecDepth 100000 in
theorem vb_X9_toWant_40 {X : Nat × (Nat → Int32)} {R : zRt} : ∀ ls st h, B_X9_toWant_40 X (zV X M_X9_toWant (zQm M_X9_toWant R) 0 0) R ls st h → zV X M_X9_toWant (zQm M_X9_toWant R) 0 0 40 ls st h := sd_iload_n dX9_toWant_40 rfl (sd_iload_n dX9_toWant_41 rfl (sd_icge dX9_toWant_42 rfl (fun _ _ _ h => h) (sd_aload_n dX9_toWant_45 rfl (sd_getr dX9_toWant_46 zCl9 (Nat.le_of_ble_eq_true rfl) lk_RX9_33 (Or.inr ⟨_, rfl⟩) (sd_iload_n dX9_toWant_49 rfl (sd_aload_n dX9_toWant_50 rfl (sd_getr dX9_toWant_51 zCl9 (Nat.le_of_ble_eq_true rfl) lk_RX9_30 (Or.inr ⟨_, rfl⟩) (sd_iload_n dX9_toWant_54 rfl (sd_iald dX9_toWant_55 (sd_iast dX9_toWant_56 (sd_iinc dX9_toWant_57 rfl (Nat.le_of_ble_eq_true rfl) (Or.inl rfl) (sd_goto dX9_toWant_60 rfl (fun _ _ _ h => h)))))))))))))
def B_X9_toWant_63 (X : Nat × (Nat → Int32)) (J : Nat → zCf) (R : zRt) : zCf := oILOAD 1 (oIRET R)
set_option maxRecDepth 100000 in
theorem vb_X9_toWant_63 {X : Nat × (Nat → Int32)} {R : zRt} : ∀ ls st h, B_X9_toWant_63 X (zV X M_X9_toWant (zQm M_X9_toWant R) 0 0) R ls st h → zV X M_X9_toWant (zQm M_X9_toWant R) 0 0 63 ls st h := sd_iload_n dX9_toWant_63 rfl (sd_iret dX9_toWant_64 rfl (Nat.le_of_ble_eq_true rfl) (Nat.le_of_ble_eq_true rfl))
def B_X9_toWant_65 (X : Nat × (Nat → Int32)) (J : Nat → zCf) (R : zRt) : zCf := oALOAD 0 (oILOAD 1 (oINV1 X M_X9_nextRow 9 (oISTORE 1 2 (J 14))))
set_option maxRecDepth 100000 in
theorem vb_X9_toWant_65 {X : Nat × (Nat → Int32)} {R : zRt} : ∀ ls st h, B_X9_toWant_65 X (zV X M_X9_toWant (zQm M_X9_toWant R) 0 0) R ls st h → zV X M_X9_toWant (zQm M_X9_toWant R) 0 0 65 ls st h := sd_aload_n dX9_toWant_65 rfl (sd_iload_n dX9_toWant_66 rfl (sd_inv1 dX9_toWant_67 rfl mv_X9_nextRow na_X9_nextRow ml_RX9_368 ⟨⟨Nat.le_of_ble_eq_true rfl, Nat.le_of_ble_eq_true rfl⟩, ⟨Nat.le_of_ble_eq_true rfl, Nat.le_of_ble_eq_true rfl⟩⟩ (sd_istore_n dX9_toWant_70 rfl (Nat.le_of_ble_eq_true rfl) (Or.inl rfl) (sd_goto dX9_toWant_71 rfl (fun _ _ _ h => h)))))
def B_X9_toWant_74 (X : Nat × (Nat → Int32)) (J : Nat → zCf) (R : zRt) : zCf := oIINC 0 1 (zj (1)) (J 2)
set_option maxRecDepth 100000 in
theorem vb_X9_toWant_74 {X : Nat × (Nat → Int32)} {R : zRt} : ∀ ls st h, B_X9_toWant_74 X (zV X M_X9_toWant (zQm M_X9_toWant R) 0 0) R ls st h → zV X M_X9_toWant (zQm M_X9_toWant R) 0 0 74 ls st h := sd_iinc dX9_toWant_74 rfl (Nat.le_of_ble_eq_true rfl) (Or.inl rfl) (sd_goto dX9_toWant_77 rfl (fun _ _ _ h => h))
def B_X9_toWant_80 (X : Nat × (Nat → Int32)) (J : Nat → zCf) (R : zRt) : zCf := oPI (zj (-2)) (oIRET R)
set_option maxRecDepth 100000 in
theorem vb_X9_toWant_80 {X : Nat × (Nat → Int32)} {R : zRt} : ∀ ls st h, B_X9_toWant_80 X (zV X M_X9_toWant (zQm M_X9_toWant R) 0 0) R ls st h → zV X M_X9_toWant (zQm M_X9_toWant R) 0 0 80 ls st h := sd_bipush dX9_toWant_80 rfl (sd_iret dX9_toWant_82 rfl (Nat.le_of_ble_eq_true rfl) (Nat.le_of_ble_eq_true rfl))
