section ZDY
variable {X : Nat × (Nat → Int32)} {R : zRt} {h : zHp} {d p q : Nat}
/-- days of shakes: the seed, the clicks, the halves of each; H tells of a day whether it is a holiday -/
noncomputable def zdy (H : Int → Prop) (day0 seed0 : Int) : Nat → Int × Int × Int
  | 0 => (seed0, 0, 0)
  | n + 1 => @ite _ (H (day0 + n)) (Classical.propDecidable _) (zdy H day0 seed0 n) (((75 * (zdy H day0 seed0 n).1 + 74) % 65537), (zdy H day0 seed0 n).2.1 + ((75 * (zdy H day0 seed0 n).1 + 74) % 65537 % 7 - 3), (zdy H day0 seed0 n).2.2 + ((75 * (zdy H day0 seed0 n).1 + 74) % 65537 % 7 - 3).tdiv 2)
theorem zdy_b {H : Int → Prop} {day0 seed0 : Int} (h1 : 0 ≤ seed0) (h2 : seed0 ≤ 65536) : ∀ n : Nat, (0 ≤ (zdy H day0 seed0 n).1 ∧ (zdy H day0 seed0 n).1 ≤ 65536) ∧ (-3 * (n : Int) ≤ (zdy H day0 seed0 n).2.1 ∧ (zdy H day0 seed0 n).2.1 ≤ 3 * n) ∧ -3 * (n : Int) ≤ (zdy H day0 seed0 n).2.2 ∧ (zdy H day0 seed0 n).2.2 ≤ 3 * n
  | 0 => by simp [zdy]; omega
  | n + 1 => by
    have ih := zdy_b (H := H) (day0 := day0) h1 h2 n
    have hd := z_tdiv2 ((75 * (zdy H day0 seed0 n).1 + 74) % 65537 % 7 - 3)
    unfold zdy
    split
    · omega
    · dsimp only
      omega
/-- the shakes' own cell -/
def zsk (h : zHp) (s dy a e : Int) : zHp := zpi (zpi (zpi (zpi h 77 0 (zj s)) 77 1 (zj dy)) 77 2 (zj a)) 77 3 (zj e)
theorem zsk_0 (h : zHp) (s dy a e : Int) : zgi (zsk h s dy a e) 77 0 = zj s := rfl
theorem zsk_1 (h : zHp) (s dy a e : Int) : zgi (zsk h s dy a e) 77 1 = zj dy := rfl
theorem zsk_2 (h : zHp) (s dy a e : Int) : zgi (zsk h s dy a e) 77 2 = zj a := rfl
theorem zsk_3 (h : zHp) (s dy a e : Int) : zgi (zsk h s dy a e) 77 3 = zj e := rfl
theorem zsk_o (h : zHp) (s dy a e : Int) {x : Nat} (hx : x ≠ 77) (y : Nat) : zgi (zsk h s dy a e) x y = zgi h x y := by
  unfold zsk
  rw [zgi_pi, if_neg (fun z => hx z.1), zgi_pi, if_neg (fun z => hx z.1), zgi_pi, if_neg (fun z => hx z.1), zgi_pi, if_neg (fun z => hx z.1)]
theorem zsk_put (h : zHp) (s dy a e s' dy' a' e' : Int) : zsk (zsk h s dy a e) s' dy' a' e' = zsk h s' dy' a' e' := by
  unfold zsk zpi
  refine Prod.ext rfl (Prod.ext ?_ rfl)
  funext x y
  dsimp only
  by_cases hx : x = 77
  · subst hx
    by_cases h3 : y = 3
    · simp [h3]
    by_cases h2 : y = 2
    · simp [h2]
    by_cases h1 : y = 1
    · simp [h1]
    by_cases h0 : y = 0
    · simp [h0]
    simp [h0, h1, h2, h3]
  · simp [hx]
theorem zsk_p0 (h : zHp) (s dy a e x : Int) : zpi (zsk h s dy a e) 77 0 (zj x) = zsk h x dy a e := by
  unfold zsk zpi
  refine Prod.ext rfl (Prod.ext ?_ rfl)
  funext u y
  dsimp only
  by_cases hx : u = 77
  · subst hx
    by_cases h3 : y = 3
    · simp [h3]
    by_cases h2 : y = 2
    · simp [h2]
    by_cases h1 : y = 1
    · simp [h1]
    by_cases h0 : y = 0
    · simp [h0]
    simp [h0, h1, h2, h3]
  · simp [hx]
theorem zsk_p1 (h : zHp) (s dy a e x : Int) : zpi (zsk h s dy a e) 77 1 (zj x) = zsk h s x a e := by
  unfold zsk zpi
  refine Prod.ext rfl (Prod.ext ?_ rfl)
  funext u y
  dsimp only
  by_cases hx : u = 77
  · subst hx
    by_cases h3 : y = 3
    · simp [h3]
    by_cases h2 : y = 2
    · simp [h2]
    by_cases h1 : y = 1
    · simp [h1]
    by_cases h0 : y = 0
    · simp [h0]
    simp [h0, h1, h2, h3]
  · simp [hx]
theorem zsk_p2 (h : zHp) (s dy a e x : Int) : zpi (zsk h s dy a e) 77 2 (zj x) = zsk h s dy x e := by
  unfold zsk zpi
  refine Prod.ext rfl (Prod.ext ?_ rfl)
  funext u y
  dsimp only
  by_cases hx : u = 77
  · subst hx
    by_cases h3 : y = 3
    · simp [h3]
    by_cases h2 : y = 2
    · simp [h2]
    by_cases h1 : y = 1
    · simp [h1]
    by_cases h0 : y = 0
    · simp [h0]
    simp [h0, h1, h2, h3]
  · simp [hx]
theorem zsk_p3 (h : zHp) (s dy a e x : Int) : zpi (zsk h s dy a e) 77 3 (zj x) = zsk h s dy a x := by
  unfold zsk zpi
  refine Prod.ext rfl (Prod.ext ?_ rfl)
  funext u y
  dsimp only
  by_cases hx : u = 77
  · subst hx
    by_cases h3 : y = 3
    · simp [h3]
    by_cases h2 : y = 2
    · simp [h2]
    by_cases h1 : y = 1
    · simp [h1]
    by_cases h0 : y = 0
    · simp [h0]
    simp [h0, h1, h2, h3]
  · simp [hx]
theorem cc_begin {s dy : Int} (w : zCW h d p) (k : R none (zsk h s dy 0 0)) : zCC X M_X5_begin [.ref 77, .int (zj s), .int (zj dy)] h R := by
  refine zCC_of (ls := [.ref 77, .int (zj s), .int (zj dy)]) pf_X5_begin rfl (Nat.le_of_ble_eq_true rfl) ?_
  refine vb_X5_begin_0 _ _ _ ?_
  simp only [B_X5_begin_0, oPI, oPL, oILOAD, oLLOAD, oALOAD, oISTORE, oASTORE, oLSTORE, oIINC, oIADD, oISUB, oIMUL, oIAND, oIOR, oIXOR, oIDIV, oIREM, oISHL, oISHR, oIUSHR, oLADD, oLSUB, oLMUL, oLOR, oLDIV, oLREM, oLCMP, oLSHL, oINEG, oI2L, oL2I, oI2B, oI2C, oDUP, oPOP, oDUP2, oIFEQ, oICEQ, oIFNE, oICNE, oIFLT, oICLT, oIFGE, oICGE, oIFGT, oICGT, oIFLE, oICLE, oIFNULL, oIFNONNULL, oTSW, oLSW, oGETI, oGETL, oGETR, oPUTI, oPUTZ, oPUTL, oPUTR, oIALD, oBALD, oZALD, oLALD, oAALD, oALEN, oIAST, oBAST, oZAST, oLAST, oIRET, oZRET, oLRET, oVRET, oARET, oOBJ, oINI, oPS, oNEW, oNEWAI, oNEWAB, oNEWAZ, oNEWAL, oCOPY, oINV0, oINS0, oINV1, oINS1, oINV2, oINS2, oINV3, oINS3, oINV4, oINS4, oINV5, oINS5, oINV6, oINS6, List.getElem?_cons_zero, List.getElem?_cons_succ, List.set_cons_zero, List.set_cons_succ, znl, zs4, zc1, true_and, and_self, Value.category, Option.toList, List.cons_append, List.nil_append, zvr, zc_s16 w, zc_s17 w, zc_s18 w, zc_s19 w, zc_s32 w, zc_s45 w, zc_s46 w, zc_s47 w, zc_s64 w, zc_s68 w, zc_s69 w, zc_s76 w, zc_s77 w, zc_r16_0 w, zc_r16_1 w, zc_r16_2 w, zc_r16_3 w, zc_r16_4 w, zc_r17_0 w, zc_r17_1 w, zc_r18_0 w, zc_r32_0 w, zc_r32_1 w, zc_r46_0 w, zc_r46_1 w, zc_r68_0 w, zc_r68_1 w, zsh_pi]
  exact k
theorem zPV_sk (w : zCW h d p) {s dy a e : Int} (v : zPV h p) : zPV (zsk h s dy a e) p := by
  have hdp := zc_dp w
  have o : ∀ x y, x ≠ 77 → gz (zsk h s dy a e) x y = gz h x y := fun x y hx => congrArg Int32.toInt (zsk_o h s dy a e hx y)
  unfold zPV at v ⊢
  rw [o p 1 (by omega), o p 8 (by omega), o p 11 (by omega), o p 13 (by omega), o p 0 (by omega)]
  refine ⟨v.1, fun b hb => ?_, v.2.2.1, fun b hb => ?_, v.2.2.2.2.1, fun b hb => ?_, v.2.2.2.2.2.2.1, fun b hb => ?_, v.2.2.2.2.2.2.2.2⟩
  · rw [o (p + 2) b (by omega), o (p + 4) b (by omega), o (p + 5) b (by omega), o (p + 6) b (by omega)]
    exact v.2.1 b hb
  · rw [o (p + 7) b (by omega)]
    exact v.2.2.2.1 b hb
  · rw [o (p + 9) b (by omega)]
    exact v.2.2.2.2.2.1 b hb
  · rw [o (p + 11) b (by omega)]
    exact v.2.2.2.2.2.2.2.1 b hb
theorem zNV_sk {s dy a e : Int} (u : zNV h) : zNV (zsk h s dy a e) := by
  have o : ∀ x y, x ≠ 77 → gz (zsk h s dy a e) x y = gz h x y := fun x y hx => congrArg Int32.toInt (zsk_o h s dy a e hx y)
  unfold zNV at u ⊢
  rw [o 45 14 (by omega)]
  refine ⟨fun b hb => ?_, fun b hb => ?_, u.2.2⟩
  · rw [o 45 b (by omega)]
    exact u.1 b hb
  · rw [o 45 (6 + b) (by omega)]
    exact u.2.1 b hb
def zhol (h : zHp) (p : Nat) (day : Int) : Prop := ∃ i : Nat, (i : Int) < gz h p 11 ∧ gz h (p + 9) i = day
theorem zhol_sk (w : zCW h d p) (s dy a e day : Int) : zhol (zsk h s dy a e) p day = zhol h p day := by
  have hdp := zc_dp w
  have o : ∀ x y, x ≠ 77 → gz (zsk h s dy a e) x y = gz h x y := fun x y hx => congrArg Int32.toInt (zsk_o h s dy a e hx y)
  unfold zhol
  rw [o p 11 (by omega)]
  simp only [o (p + 9) _ (by omega)]
theorem zcl_sk (w : zCW h d p) (s dy a e x y : Int) (b : Nat) : zcl (zsk h s dy a e) p x y b = zcl h p x y b := by
  have hdp := zc_dp w
  have o : ∀ x y, x ≠ 77 → gz (zsk h s dy a e) x y = gz h x y := fun x y hx => congrArg Int32.toInt (zsk_o h s dy a e hx y)
  unfold zcl
  rw [o (p + 2) b (by omega), o 45 b (by omega)]
theorem cc_passDay {s dy a e : Int} (w : zCW h d p) (v : zPV h p) (h1 : 0 ≤ s) (h2 : s ≤ 65536) (h3 : 0 ≤ dy) (h4 : dy ≤ 5000)
    (k1 : zhol h p dy → R none (zsk h s (dy + 1) a e)) (k2 : ¬ zhol h p dy → R none (zsk h ((75 * s + 74) % 65537) (dy + 1) (a + ((75 * s + 74) % 65537 % 7 - 3)) (e + ((75 * s + 74) % 65537 % 7 - 3).tdiv 2))) : zCC X M_X5_passDay [.ref 77, .ref p] (zsk h s dy a e) R := by
  have w1 : zCW (zsk h s dy a e) d p := w
  have v1 := zPV_sk (s := s) (dy := dy) (a := a) (e := e) w v
  have wp := zc_pp w1
  refine zCC_of (ls := [.ref 77, .ref p, .retAddr 0]) pf_X5_passDay rfl (Nat.le_of_ble_eq_true rfl) ?_
  refine vb_X5_passDay_0 _ _ _ ?_
  simp only [B_X5_passDay_0, oPI, oPL, oILOAD, oLLOAD, oALOAD, oISTORE, oASTORE, oLSTORE, oIINC, oIADD, oISUB, oIMUL, oIAND, oIOR, oIXOR, oIDIV, oIREM, oISHL, oISHR, oIUSHR, oLADD, oLSUB, oLMUL, oLOR, oLDIV, oLREM, oLCMP, oLSHL, oINEG, oI2L, oL2I, oI2B, oI2C, oDUP, oPOP, oDUP2, oIFEQ, oICEQ, oIFNE, oICNE, oIFLT, oICLT, oIFGE, oICGE, oIFGT, oICGT, oIFLE, oICLE, oIFNULL, oIFNONNULL, oTSW, oLSW, oGETI, oGETL, oGETR, oPUTI, oPUTZ, oPUTL, oPUTR, oIALD, oBALD, oZALD, oLALD, oAALD, oALEN, oIAST, oBAST, oZAST, oLAST, oIRET, oZRET, oLRET, oVRET, oARET, oOBJ, oINI, oPS, oNEW, oNEWAI, oNEWAB, oNEWAZ, oNEWAL, oCOPY, oINV0, oINS0, oINV1, oINS1, oINV2, oINS2, oINV3, oINS3, oINV4, oINS4, oINV5, oINS5, oINV6, oINS6, List.getElem?_cons_zero, List.getElem?_cons_succ, List.set_cons_zero, List.set_cons_succ, znl, zs4, zc1, true_and, and_self, Value.category, Option.toList, List.cons_append, List.nil_append, zvr, zc_s16 w1, zc_s17 w1, zc_s18 w1, zc_s19 w1, zc_s32 w1, zc_s45 w1, zc_s46 w1, zc_s47 w1, zc_s64 w1, zc_s68 w1, zc_s69 w1, zc_s76 w1, zc_s77 w1, zc_r16_0 w1, zc_r16_1 w1, zc_r16_2 w1, zc_r16_3 w1, zc_r16_4 w1, zc_r17_0 w1, zc_r17_1 w1, zc_r18_0 w1, zc_r32_0 w1, zc_r32_1 w1, zc_r46_0 w1, zc_r46_1 w1, zc_r68_0 w1, zc_r68_1 w1, zp_s wp, zp_s1 wp, zp_r2 wp, zp_s2 wp, zp_r3 wp, zp_s3 wp, zp_r4 wp, zp_s4 wp, zp_r5 wp, zp_s5 wp, zp_r6 wp, zp_s6 wp, zp_r7 wp, zp_s7 wp, zp_r9 wp, zp_s8 wp, zp_r10 wp, zp_s9 wp, zp_r12 wp, zp_s10 wp, zp_r14 wp, zp_s11 wp, zp_r15 wp]
  rw [zsk_1]
  refine cc_isHoliday wp v1 (by omega) (by omega) ?_
  have eh : (∃ i : Nat, (i : Int) < gz (zsk h s dy a e) p 11 ∧ gz (zsk h s dy a e) (p + 9) i = dy) = zhol h p dy := zhol_sk w s dy a e dy
  rw [eh]
  simp only [oPI, oPL, oILOAD, oLLOAD, oALOAD, oISTORE, oASTORE, oLSTORE, oIINC, oIADD, oISUB, oIMUL, oIAND, oIOR, oIXOR, oIDIV, oIREM, oISHL, oISHR, oIUSHR, oLADD, oLSUB, oLMUL, oLOR, oLDIV, oLREM, oLCMP, oLSHL, oINEG, oI2L, oL2I, oI2B, oI2C, oDUP, oPOP, oDUP2, oIFEQ, oICEQ, oIFNE, oICNE, oIFLT, oICLT, oIFGE, oICGE, oIFGT, oICGT, oIFLE, oICLE, oIFNULL, oIFNONNULL, oTSW, oLSW, oGETI, oGETL, oGETR, oPUTI, oPUTZ, oPUTL, oPUTR, oIALD, oBALD, oZALD, oLALD, oAALD, oALEN, oIAST, oBAST, oZAST, oLAST, oIRET, oZRET, oLRET, oVRET, oARET, oOBJ, oINI, oPS, oNEW, oNEWAI, oNEWAB, oNEWAZ, oNEWAL, oCOPY, oINV0, oINS0, oINV1, oINS1, oINV2, oINS2, oINV3, oINS3, oINV4, oINS4, oINV5, oINS5, oINV6, oINS6, List.getElem?_cons_zero, List.getElem?_cons_succ, List.set_cons_zero, List.set_cons_succ, znl, zs4, zc1, true_and, and_self, Value.category, Option.toList, List.cons_append, List.nil_append, zvr, zc_s16 w1, zc_s17 w1, zc_s18 w1, zc_s19 w1, zc_s32 w1, zc_s45 w1, zc_s46 w1, zc_s47 w1, zc_s64 w1, zc_s68 w1, zc_s69 w1, zc_s76 w1, zc_s77 w1, zc_r16_0 w1, zc_r16_1 w1, zc_r16_2 w1, zc_r16_3 w1, zc_r16_4 w1, zc_r17_0 w1, zc_r17_1 w1, zc_r18_0 w1, zc_r32_0 w1, zc_r32_1 w1, zc_r46_0 w1, zc_r46_1 w1, zc_r68_0 w1, zc_r68_1 w1, zp_s wp, zp_s1 wp, zp_r2 wp, zp_s2 wp, zp_r3 wp, zp_s3 wp, zp_r4 wp, zp_s4 wp, zp_r5 wp, zp_s5 wp, zp_r6 wp, zp_s6 wp, zp_r7 wp, zp_s7 wp, zp_r9 wp, zp_s8 wp, zp_r10 wp, zp_s9 wp, zp_r12 wp, zp_s10 wp, zp_r14 wp, zp_s11 wp, zp_r15 wp]
  simp only [zb_0, zb_z, Classical.not_not]
  refine ⟨fun c => ?_, fun c => ?_⟩
  · refine vb_X5_passDay_61 _ _ _ ?_
    simp only [B_X5_passDay_61, oPI, oPL, oILOAD, oLLOAD, oALOAD, oISTORE, oASTORE, oLSTORE, oIINC, oIADD, oISUB, oIMUL, oIAND, oIOR, oIXOR, oIDIV, oIREM, oISHL, oISHR, oIUSHR, oLADD, oLSUB, oLMUL, oLOR, oLDIV, oLREM, oLCMP, oLSHL, oINEG, oI2L, oL2I, oI2B, oI2C, oDUP, oPOP, oDUP2, oIFEQ, oICEQ, oIFNE, oICNE, oIFLT, oICLT, oIFGE, oICGE, oIFGT, oICGT, oIFLE, oICLE, oIFNULL, oIFNONNULL, oTSW, oLSW, oGETI, oGETL, oGETR, oPUTI, oPUTZ, oPUTL, oPUTR, oIALD, oBALD, oZALD, oLALD, oAALD, oALEN, oIAST, oBAST, oZAST, oLAST, oIRET, oZRET, oLRET, oVRET, oARET, oOBJ, oINI, oPS, oNEW, oNEWAI, oNEWAB, oNEWAZ, oNEWAL, oCOPY, oINV0, oINS0, oINV1, oINS1, oINV2, oINS2, oINV3, oINS3, oINV4, oINS4, oINV5, oINS5, oINV6, oINS6, List.getElem?_cons_zero, List.getElem?_cons_succ, List.set_cons_zero, List.set_cons_succ, znl, zs4, zc1, true_and, and_self, Value.category, Option.toList, List.cons_append, List.nil_append, zvr, zc_s16 w1, zc_s17 w1, zc_s18 w1, zc_s19 w1, zc_s32 w1, zc_s45 w1, zc_s46 w1, zc_s47 w1, zc_s64 w1, zc_s68 w1, zc_s69 w1, zc_s76 w1, zc_s77 w1, zc_r16_0 w1, zc_r16_1 w1, zc_r16_2 w1, zc_r16_3 w1, zc_r16_4 w1, zc_r17_0 w1, zc_r17_1 w1, zc_r18_0 w1, zc_r32_0 w1, zc_r32_1 w1, zc_r46_0 w1, zc_r46_1 w1, zc_r68_0 w1, zc_r68_1 w1]
    simp only [zsk_1, zj_add, zsk_p1]
    exact k1 c
  · have k := k2 c
    have g1 : 0 ≤ (75 * s + 74) % 65537 ∧ (75 * s + 74) % 65537 ≤ 65536 := by omega
    have hd := z_tdiv2 ((75 * s + 74) % 65537 % 7 - 3)
    have e1 : (zj 75 * zj s + zj 74) % zj 65537 = zj ((75 * s + 74) % 65537) := by rw [zj_mul, zj_add, zj_rem (by omega) (by omega) (by omega) (by omega), z_tmod_nn (by omega)]
    have e2 : zj ((75 * s + 74) % 65537) % zj 7 - zj 3 = zj ((75 * s + 74) % 65537 % 7 - 3) := by rw [zj_rem (by omega) (by omega) (by omega) (by omega), z_tmod_nn (by omega), zj_sub]
    simp only [zsk_0, e1, zsk_p0, e2, zsk_2, zj_add, zsk_p2, zsk_3]
    have w3 : ∀ s dy a e, zsh (zsk h s dy a e) 77 = some (.inl 5) := fun _ _ _ _ => zc_s77 w
    have w4 : ∀ s dy a e, zCW (zsk h s dy a e) d p := fun _ _ _ _ => w
    simp only [w3, true_and]
    refine ⟨z_lit (by omega) (by omega) (by omega), z_lit (by omega) (by omega) (by omega), ?_⟩
    refine cc_half (by omega) (by omega) ?_
    simp only [oPI, oPL, oILOAD, oLLOAD, oALOAD, oISTORE, oASTORE, oLSTORE, oIINC, oIADD, oISUB, oIMUL, oIAND, oIOR, oIXOR, oIDIV, oIREM, oISHL, oISHR, oIUSHR, oLADD, oLSUB, oLMUL, oLOR, oLDIV, oLREM, oLCMP, oLSHL, oINEG, oI2L, oL2I, oI2B, oI2C, oDUP, oPOP, oDUP2, oIFEQ, oICEQ, oIFNE, oICNE, oIFLT, oICLT, oIFGE, oICGE, oIFGT, oICGT, oIFLE, oICLE, oIFNULL, oIFNONNULL, oTSW, oLSW, oGETI, oGETL, oGETR, oPUTI, oPUTZ, oPUTL, oPUTR, oIALD, oBALD, oZALD, oLALD, oAALD, oALEN, oIAST, oBAST, oZAST, oLAST, oIRET, oZRET, oLRET, oVRET, oARET, oOBJ, oINI, oPS, oNEW, oNEWAI, oNEWAB, oNEWAZ, oNEWAL, oCOPY, oINV0, oINS0, oINV1, oINS1, oINV2, oINS2, oINV3, oINS3, oINV4, oINS4, oINV5, oINS5, oINV6, oINS6, List.getElem?_cons_zero, List.getElem?_cons_succ, List.set_cons_zero, List.set_cons_succ, znl, zs4, zc1, true_and, and_self, Value.category, Option.toList, List.cons_append, List.nil_append, zvr]
    simp only [zj_add, zsk_p3, w3, true_and]
    refine vb_X5_passDay_61 _ _ _ ?_
    have w5 := w4 ((75 * s + 74) % 65537) dy (a + ((75 * s + 74) % 65537 % 7 - 3)) (e + ((75 * s + 74) % 65537 % 7 - 3).tdiv 2)
    simp only [B_X5_passDay_61, oPI, oPL, oILOAD, oLLOAD, oALOAD, oISTORE, oASTORE, oLSTORE, oIINC, oIADD, oISUB, oIMUL, oIAND, oIOR, oIXOR, oIDIV, oIREM, oISHL, oISHR, oIUSHR, oLADD, oLSUB, oLMUL, oLOR, oLDIV, oLREM, oLCMP, oLSHL, oINEG, oI2L, oL2I, oI2B, oI2C, oDUP, oPOP, oDUP2, oIFEQ, oICEQ, oIFNE, oICNE, oIFLT, oICLT, oIFGE, oICGE, oIFGT, oICGT, oIFLE, oICLE, oIFNULL, oIFNONNULL, oTSW, oLSW, oGETI, oGETL, oGETR, oPUTI, oPUTZ, oPUTL, oPUTR, oIALD, oBALD, oZALD, oLALD, oAALD, oALEN, oIAST, oBAST, oZAST, oLAST, oIRET, oZRET, oLRET, oVRET, oARET, oOBJ, oINI, oPS, oNEW, oNEWAI, oNEWAB, oNEWAZ, oNEWAL, oCOPY, oINV0, oINS0, oINV1, oINS1, oINV2, oINS2, oINV3, oINS3, oINV4, oINS4, oINV5, oINS5, oINV6, oINS6, List.getElem?_cons_zero, List.getElem?_cons_succ, List.set_cons_zero, List.set_cons_succ, znl, zs4, zc1, true_and, and_self, Value.category, Option.toList, List.cons_append, List.nil_append, zvr, zc_s16 w5, zc_s17 w5, zc_s18 w5, zc_s19 w5, zc_s32 w5, zc_s45 w5, zc_s46 w5, zc_s47 w5, zc_s64 w5, zc_s68 w5, zc_s69 w5, zc_s76 w5, zc_s77 w5, zc_r16_0 w5, zc_r16_1 w5, zc_r16_2 w5, zc_r16_3 w5, zc_r16_4 w5, zc_r17_0 w5, zc_r17_1 w5, zc_r18_0 w5, zc_r32_0 w5, zc_r32_1 w5, zc_r46_0 w5, zc_r46_1 w5, zc_r68_0 w5, zc_r68_1 w5]
    simp only [zsk_1, zj_add, zsk_p1]
    exact k
theorem zdy_t {H : Int → Prop} {day0 seed0 : Int} {n : Nat} (hh : H (day0 + n)) : zdy H day0 seed0 (n + 1) = zdy H day0 seed0 n := by
  show @ite _ (H (day0 + n)) (Classical.propDecidable _) _ _ = _
  rw [if_pos hh]
theorem zdy_f {H : Int → Prop} {day0 seed0 : Int} {n : Nat} (hh : ¬ H (day0 + n)) : zdy H day0 seed0 (n + 1) = (((75 * (zdy H day0 seed0 n).1 + 74) % 65537), (zdy H day0 seed0 n).2.1 + ((75 * (zdy H day0 seed0 n).1 + 74) % 65537 % 7 - 3), (zdy H day0 seed0 n).2.2 + ((75 * (zdy H day0 seed0 n).1 + 74) % 65537 % 7 - 3).tdiv 2) := by
  show @ite _ (H (day0 + n)) (Classical.propDecidable _) _ _ = _
  rw [if_neg hh]
/-- the heap behind n days -/
noncomputable def zskn (h : zHp) (p : Nat) (sd : Int) (n : Nat) : zHp := zsk h (zdy (zhol h p) (gz h 45 14) sd n).1 (gz h 45 14 + n) (zdy (zhol h p) (gz h 45 14) sd n).2.1 (zdy (zhol h p) (gz h 45 14) sd n).2.2
theorem cc_pass {sd : Int} {n : Nat} (w : zCW h d p) (v : zPV h p) (u : zNV h) (h1 : 0 ≤ sd) (h2 : sd ≤ 65536) (hn : n ≤ 100) (k : R none (zskn h p sd (n + 1))) : zCC X M_X5_passDay [.ref 77, .ref p] (zskn h p sd n) R := by
  have hb := zdy_b (H := zhol h p) (day0 := gz h 45 14) h1 h2 n
  have hdy := u.2.2
  refine cc_passDay w v hb.1.1 hb.1.2 (by omega) (by omega) (fun c => ?_) (fun c => ?_)
  · unfold zskn at k
    rw [zdy_t c, show gz h 45 14 + ((n + 1 : Nat) : Int) = gz h 45 14 + n + 1 by omega] at k
    exact k
  · unfold zskn at k
    rw [zdy_f c, show gz h 45 14 + ((n + 1 : Nat) : Int) = gz h 45 14 + n + 1 by omega] at k
    exact k
theorem cx_shaken {a b c : Int} (w : zCW h d p) (v : zPV h p) (u : zNV h) (ha1 : -2147483648 ≤ a) (ha2 : a < 2147483648) (hb1 : -2147483648 ≤ b) (hb2 : b < 2147483648) (hc1 : -2147483648 ≤ c) (hc2 : c < 2147483648)
    (k0 : ¬ (0 ≤ a ∧ a < gz h p 1) → R (some (.int (zj (-1)))) (zpi h 16 5 (zj 1))) (k1 : (0 ≤ a ∧ a < gz h p 1) → ¬ (0 ≤ b ∧ b ≤ 65536 ∧ 0 ≤ c ∧ c ≤ 60) → R (some (.int (zj (-1)))) (zpi h 16 5 (zj 2)))
    (k2 : (0 ≤ a ∧ a < gz h p 1) → (0 ≤ b ∧ b ≤ 65536 ∧ 0 ≤ c ∧ c ≤ 60) → R (some (.int (zj (zcl h p (zdy (zhol h p) (gz h 45 14) b c.toNat).2.1 (zdy (zhol h p) (gz h 45 14) b c.toNat).2.2 a.toNat)))) (zpi (zskn h p b c.toNat) 16 5 (zj 0))) : zCC X M_X7_shaken [.ref 16, .int (zj a), .int (zj b), .int (zj c)] h R := by
  have hbt := v.1
  have hdy := u.2.2
  refine zCC_of (ls := [.ref 16, .int (zj a), .int (zj b), .int (zj c), .retAddr 0]) pf_X7_shaken rfl (Nat.le_of_ble_eq_true rfl) ?_
  refine vb_X7_shaken_0 _ _ _ ?_
  simp only [B_X7_shaken_0, oPI, oPL, oILOAD, oLLOAD, oALOAD, oISTORE, oASTORE, oLSTORE, oIINC, oIADD, oISUB, oIMUL, oIAND, oIOR, oIXOR, oIDIV, oIREM, oISHL, oISHR, oIUSHR, oLADD, oLSUB, oLMUL, oLOR, oLDIV, oLREM, oLCMP, oLSHL, oINEG, oI2L, oL2I, oI2B, oI2C, oDUP, oPOP, oDUP2, oIFEQ, oICEQ, oIFNE, oICNE, oIFLT, oICLT, oIFGE, oICGE, oIFGT, oICGT, oIFLE, oICLE, oIFNULL, oIFNONNULL, oTSW, oLSW, oGETI, oGETL, oGETR, oPUTI, oPUTZ, oPUTL, oPUTR, oIALD, oBALD, oZALD, oLALD, oAALD, oALEN, oIAST, oBAST, oZAST, oLAST, oIRET, oZRET, oLRET, oVRET, oARET, oOBJ, oINI, oPS, oNEW, oNEWAI, oNEWAB, oNEWAZ, oNEWAL, oCOPY, oINV0, oINS0, oINV1, oINS1, oINV2, oINS2, oINV3, oINS3, oINV4, oINS4, oINV5, oINS5, oINV6, oINS6, List.getElem?_cons_zero, List.getElem?_cons_succ, List.set_cons_zero, List.set_cons_succ, znl, zs4, zc1, true_and, and_self, Value.category, Option.toList, List.cons_append, List.nil_append, zvr, zc_s16 w, zc_s17 w, zc_s18 w, zc_s19 w, zc_s32 w, zc_s45 w, zc_s46 w, zc_s47 w, zc_s64 w, zc_s68 w, zc_s69 w, zc_s76 w, zc_s77 w, zc_r16_0 w, zc_r16_1 w, zc_r16_2 w, zc_r16_3 w, zc_r16_4 w, zc_r17_0 w, zc_r17_1 w, zc_r18_0 w, zc_r32_0 w, zc_r32_1 w, zc_r46_0 w, zc_r46_1 w, zc_r68_0 w, zc_r68_1 w]
  refine cc_isBit w v ha1 ha2 ?_
  simp only [oPI, oPL, oILOAD, oLLOAD, oALOAD, oISTORE, oASTORE, oLSTORE, oIINC, oIADD, oISUB, oIMUL, oIAND, oIOR, oIXOR, oIDIV, oIREM, oISHL, oISHR, oIUSHR, oLADD, oLSUB, oLMUL, oLOR, oLDIV, oLREM, oLCMP, oLSHL, oINEG, oI2L, oL2I, oI2B, oI2C, oDUP, oPOP, oDUP2, oIFEQ, oICEQ, oIFNE, oICNE, oIFLT, oICLT, oIFGE, oICGE, oIFGT, oICGT, oIFLE, oICLE, oIFNULL, oIFNONNULL, oTSW, oLSW, oGETI, oGETL, oGETR, oPUTI, oPUTZ, oPUTL, oPUTR, oIALD, oBALD, oZALD, oLALD, oAALD, oALEN, oIAST, oBAST, oZAST, oLAST, oIRET, oZRET, oLRET, oVRET, oARET, oOBJ, oINI, oPS, oNEW, oNEWAI, oNEWAB, oNEWAZ, oNEWAL, oCOPY, oINV0, oINS0, oINV1, oINS1, oINV2, oINS2, oINV3, oINS3, oINV4, oINS4, oINV5, oINS5, oINV6, oINS6, List.getElem?_cons_zero, List.getElem?_cons_succ, List.set_cons_zero, List.set_cons_succ, znl, zs4, zc1, true_and, and_self, Value.category, Option.toList, List.cons_append, List.nil_append, zvr, zc_s16 w, zc_s17 w, zc_s18 w, zc_s19 w, zc_s32 w, zc_s45 w, zc_s46 w, zc_s47 w, zc_s64 w, zc_s68 w, zc_s69 w, zc_s76 w, zc_s77 w, zc_r16_0 w, zc_r16_1 w, zc_r16_2 w, zc_r16_3 w, zc_r16_4 w, zc_r17_0 w, zc_r17_1 w, zc_r18_0 w, zc_r32_0 w, zc_r32_1 w, zc_r46_0 w, zc_r46_1 w, zc_r68_0 w, zc_r68_1 w]
  simp only [zb_0, zb_z, Classical.not_not]
  refine ⟨?_, fun c1 => ?_⟩
  rotate_left
  · refine cc_refuse w ?_
    simp only [oPI, oPL, oILOAD, oLLOAD, oALOAD, oISTORE, oASTORE, oLSTORE, oIINC, oIADD, oISUB, oIMUL, oIAND, oIOR, oIXOR, oIDIV, oIREM, oISHL, oISHR, oIUSHR, oLADD, oLSUB, oLMUL, oLOR, oLDIV, oLREM, oLCMP, oLSHL, oINEG, oI2L, oL2I, oI2B, oI2C, oDUP, oPOP, oDUP2, oIFEQ, oICEQ, oIFNE, oICNE, oIFLT, oICLT, oIFGE, oICGE, oIFGT, oICGT, oIFLE, oICLE, oIFNULL, oIFNONNULL, oTSW, oLSW, oGETI, oGETL, oGETR, oPUTI, oPUTZ, oPUTL, oPUTR, oIALD, oBALD, oZALD, oLALD, oAALD, oALEN, oIAST, oBAST, oZAST, oLAST, oIRET, oZRET, oLRET, oVRET, oARET, oOBJ, oINI, oPS, oNEW, oNEWAI, oNEWAB, oNEWAZ, oNEWAL, oCOPY, oINV0, oINS0, oINV1, oINS1, oINV2, oINS2, oINV3, oINS3, oINV4, oINS4, oINV5, oINS5, oINV6, oINS6, List.getElem?_cons_zero, List.getElem?_cons_succ, List.set_cons_zero, List.set_cons_succ, znl, zs4, zc1, true_and, and_self, Value.category, Option.toList, List.cons_append, List.nil_append, zvr]
    exact k0 c1
  intro c1
  refine vb_X7_shaken_14 _ _ _ ?_
  simp only [B_X7_shaken_14, oPI, oPL, oILOAD, oLLOAD, oALOAD, oISTORE, oASTORE, oLSTORE, oIINC, oIADD, oISUB, oIMUL, oIAND, oIOR, oIXOR, oIDIV, oIREM, oISHL, oISHR, oIUSHR, oLADD, oLSUB, oLMUL, oLOR, oLDIV, oLREM, oLCMP, oLSHL, oINEG, oI2L, oL2I, oI2B, oI2C, oDUP, oPOP, oDUP2, oIFEQ, oICEQ, oIFNE, oICNE, oIFLT, oICLT, oIFGE, oICGE, oIFGT, oICGT, oIFLE, oICLE, oIFNULL, oIFNONNULL, oTSW, oLSW, oGETI, oGETL, oGETR, oPUTI, oPUTZ, oPUTL, oPUTR, oIALD, oBALD, oZALD, oLALD, oAALD, oALEN, oIAST, oBAST, oZAST, oLAST, oIRET, oZRET, oLRET, oVRET, oARET, oOBJ, oINI, oPS, oNEW, oNEWAI, oNEWAB, oNEWAZ, oNEWAL, oCOPY, oINV0, oINS0, oINV1, oINS1, oINV2, oINS2, oINV3, oINS3, oINV4, oINS4, oINV5, oINS5, oINV6, oINS6, List.getElem?_cons_zero, List.getElem?_cons_succ, List.set_cons_zero, List.set_cons_succ, znl, zs4, zc1, true_and, and_self, Value.category, Option.toList, List.cons_append, List.nil_append, zvr, zc_s16 w, zc_s17 w, zc_s18 w, zc_s19 w, zc_s32 w, zc_s45 w, zc_s46 w, zc_s47 w, zc_s64 w, zc_s68 w, zc_s69 w, zc_s76 w, zc_s77 w, zc_r16_0 w, zc_r16_1 w, zc_r16_2 w, zc_r16_3 w, zc_r16_4 w, zc_r17_0 w, zc_r17_1 w, zc_r18_0 w, zc_r32_0 w, zc_r32_1 w, zc_r46_0 w, zc_r46_1 w, zc_r68_0 w, zc_r68_1 w]
  refine cc_areShakes hb1 hb2 hc1 hc2 ?_
  simp only [oPI, oPL, oILOAD, oLLOAD, oALOAD, oISTORE, oASTORE, oLSTORE, oIINC, oIADD, oISUB, oIMUL, oIAND, oIOR, oIXOR, oIDIV, oIREM, oISHL, oISHR, oIUSHR, oLADD, oLSUB, oLMUL, oLOR, oLDIV, oLREM, oLCMP, oLSHL, oINEG, oI2L, oL2I, oI2B, oI2C, oDUP, oPOP, oDUP2, oIFEQ, oICEQ, oIFNE, oICNE, oIFLT, oICLT, oIFGE, oICGE, oIFGT, oICGT, oIFLE, oICLE, oIFNULL, oIFNONNULL, oTSW, oLSW, oGETI, oGETL, oGETR, oPUTI, oPUTZ, oPUTL, oPUTR, oIALD, oBALD, oZALD, oLALD, oAALD, oALEN, oIAST, oBAST, oZAST, oLAST, oIRET, oZRET, oLRET, oVRET, oARET, oOBJ, oINI, oPS, oNEW, oNEWAI, oNEWAB, oNEWAZ, oNEWAL, oCOPY, oINV0, oINS0, oINV1, oINS1, oINV2, oINS2, oINV3, oINS3, oINV4, oINS4, oINV5, oINS5, oINV6, oINS6, List.getElem?_cons_zero, List.getElem?_cons_succ, List.set_cons_zero, List.set_cons_succ, znl, zs4, zc1, true_and, and_self, Value.category, Option.toList, List.cons_append, List.nil_append, zvr, zc_s16 w, zc_s17 w, zc_s18 w, zc_s19 w, zc_s32 w, zc_s45 w, zc_s46 w, zc_s47 w, zc_s64 w, zc_s68 w, zc_s69 w, zc_s76 w, zc_s77 w, zc_r16_0 w, zc_r16_1 w, zc_r16_2 w, zc_r16_3 w, zc_r16_4 w, zc_r17_0 w, zc_r17_1 w, zc_r18_0 w, zc_r32_0 w, zc_r32_1 w, zc_r46_0 w, zc_r46_1 w, zc_r68_0 w, zc_r68_1 w]
  simp only [zb_0, zb_z, Classical.not_not]
  refine ⟨?_, fun c2 => ?_⟩
  rotate_left
  · refine cc_refuse w ?_
    simp only [oPI, oPL, oILOAD, oLLOAD, oALOAD, oISTORE, oASTORE, oLSTORE, oIINC, oIADD, oISUB, oIMUL, oIAND, oIOR, oIXOR, oIDIV, oIREM, oISHL, oISHR, oIUSHR, oLADD, oLSUB, oLMUL, oLOR, oLDIV, oLREM, oLCMP, oLSHL, oINEG, oI2L, oL2I, oI2B, oI2C, oDUP, oPOP, oDUP2, oIFEQ, oICEQ, oIFNE, oICNE, oIFLT, oICLT, oIFGE, oICGE, oIFGT, oICGT, oIFLE, oICLE, oIFNULL, oIFNONNULL, oTSW, oLSW, oGETI, oGETL, oGETR, oPUTI, oPUTZ, oPUTL, oPUTR, oIALD, oBALD, oZALD, oLALD, oAALD, oALEN, oIAST, oBAST, oZAST, oLAST, oIRET, oZRET, oLRET, oVRET, oARET, oOBJ, oINI, oPS, oNEW, oNEWAI, oNEWAB, oNEWAZ, oNEWAL, oCOPY, oINV0, oINS0, oINV1, oINS1, oINV2, oINS2, oINV3, oINS3, oINV4, oINS4, oINV5, oINS5, oINV6, oINS6, List.getElem?_cons_zero, List.getElem?_cons_succ, List.set_cons_zero, List.set_cons_succ, znl, zs4, zc1, true_and, and_self, Value.category, Option.toList, List.cons_append, List.nil_append, zvr]
    exact k1 c1 c2
  intro c2
  have k := k2 c1 c2
  obtain ⟨an, rfl⟩ : ∃ q : Nat, a = (q : Int) := ⟨a.toNat, by omega⟩
  obtain ⟨cn, rfl⟩ : ∃ q : Nat, c = (q : Int) := ⟨c.toNat, by omega⟩
  simp only [Int.toNat_natCast] at k
  refine vb_X7_shaken_28 _ _ _ ?_
  simp only [B_X7_shaken_28, oPI, oPL, oILOAD, oLLOAD, oALOAD, oISTORE, oASTORE, oLSTORE, oIINC, oIADD, oISUB, oIMUL, oIAND, oIOR, oIXOR, oIDIV, oIREM, oISHL, oISHR, oIUSHR, oLADD, oLSUB, oLMUL, oLOR, oLDIV, oLREM, oLCMP, oLSHL, oINEG, oI2L, oL2I, oI2B, oI2C, oDUP, oPOP, oDUP2, oIFEQ, oICEQ, oIFNE, oICNE, oIFLT, oICLT, oIFGE, oICGE, oIFGT, oICGT, oIFLE, oICLE, oIFNULL, oIFNONNULL, oTSW, oLSW, oGETI, oGETL, oGETR, oPUTI, oPUTZ, oPUTL, oPUTR, oIALD, oBALD, oZALD, oLALD, oAALD, oALEN, oIAST, oBAST, oZAST, oLAST, oIRET, oZRET, oLRET, oVRET, oARET, oOBJ, oINI, oPS, oNEW, oNEWAI, oNEWAB, oNEWAZ, oNEWAL, oCOPY, oINV0, oINS0, oINV1, oINS1, oINV2, oINS2, oINV3, oINS3, oINV4, oINS4, oINV5, oINS5, oINV6, oINS6, List.getElem?_cons_zero, List.getElem?_cons_succ, List.set_cons_zero, List.set_cons_succ, znl, zs4, zc1, true_and, and_self, Value.category, Option.toList, List.cons_append, List.nil_append, zvr, zc_s16 w, zc_s17 w, zc_s18 w, zc_s19 w, zc_s32 w, zc_s45 w, zc_s46 w, zc_s47 w, zc_s64 w, zc_s68 w, zc_s69 w, zc_s76 w, zc_s77 w, zc_r16_0 w, zc_r16_1 w, zc_r16_2 w, zc_r16_3 w, zc_r16_4 w, zc_r17_0 w, zc_r17_1 w, zc_r18_0 w, zc_r32_0 w, zc_r32_1 w, zc_r46_0 w, zc_r46_1 w, zc_r68_0 w, zc_r68_1 w]
  refine cc_day w ?_
  simp only [oPI, oPL, oILOAD, oLLOAD, oALOAD, oISTORE, oASTORE, oLSTORE, oIINC, oIADD, oISUB, oIMUL, oIAND, oIOR, oIXOR, oIDIV, oIREM, oISHL, oISHR, oIUSHR, oLADD, oLSUB, oLMUL, oLOR, oLDIV, oLREM, oLCMP, oLSHL, oINEG, oI2L, oL2I, oI2B, oI2C, oDUP, oPOP, oDUP2, oIFEQ, oICEQ, oIFNE, oICNE, oIFLT, oICLT, oIFGE, oICGE, oIFGT, oICGT, oIFLE, oICLE, oIFNULL, oIFNONNULL, oTSW, oLSW, oGETI, oGETL, oGETR, oPUTI, oPUTZ, oPUTL, oPUTR, oIALD, oBALD, oZALD, oLALD, oAALD, oALEN, oIAST, oBAST, oZAST, oLAST, oIRET, oZRET, oLRET, oVRET, oARET, oOBJ, oINI, oPS, oNEW, oNEWAI, oNEWAB, oNEWAZ, oNEWAL, oCOPY, oINV0, oINS0, oINV1, oINS1, oINV2, oINS2, oINV3, oINS3, oINV4, oINS4, oINV5, oINS5, oINV6, oINS6, List.getElem?_cons_zero, List.getElem?_cons_succ, List.set_cons_zero, List.set_cons_succ, znl, zs4, zc1, true_and, and_self, Value.category, Option.toList, List.cons_append, List.nil_append, zvr, zc_s16 w, zc_s17 w, zc_s18 w, zc_s19 w, zc_s32 w, zc_s45 w, zc_s46 w, zc_s47 w, zc_s64 w, zc_s68 w, zc_s69 w, zc_s76 w, zc_s77 w, zc_r16_0 w, zc_r16_1 w, zc_r16_2 w, zc_r16_3 w, zc_r16_4 w, zc_r17_0 w, zc_r17_1 w, zc_r18_0 w, zc_r32_0 w, zc_r32_1 w, zc_r46_0 w, zc_r46_1 w, zc_r68_0 w, zc_r68_1 w]
  refine cc_begin w ?_
  simp only [oPI, oPL, oILOAD, oLLOAD, oALOAD, oISTORE, oASTORE, oLSTORE, oIINC, oIADD, oISUB, oIMUL, oIAND, oIOR, oIXOR, oIDIV, oIREM, oISHL, oISHR, oIUSHR, oLADD, oLSUB, oLMUL, oLOR, oLDIV, oLREM, oLCMP, oLSHL, oINEG, oI2L, oL2I, oI2B, oI2C, oDUP, oPOP, oDUP2, oIFEQ, oICEQ, oIFNE, oICNE, oIFLT, oICLT, oIFGE, oICGE, oIFGT, oICGT, oIFLE, oICLE, oIFNULL, oIFNONNULL, oTSW, oLSW, oGETI, oGETL, oGETR, oPUTI, oPUTZ, oPUTL, oPUTR, oIALD, oBALD, oZALD, oLALD, oAALD, oALEN, oIAST, oBAST, oZAST, oLAST, oIRET, oZRET, oLRET, oVRET, oARET, oOBJ, oINI, oPS, oNEW, oNEWAI, oNEWAB, oNEWAZ, oNEWAL, oCOPY, oINV0, oINS0, oINV1, oINS1, oINV2, oINS2, oINV3, oINS3, oINV4, oINS4, oINV5, oINS5, oINV6, oINS6, List.getElem?_cons_zero, List.getElem?_cons_succ, List.set_cons_zero, List.set_cons_succ, znl, zs4, zc1, true_and, and_self, Value.category, Option.toList, List.cons_append, List.nil_append, zvr, zc_s16 w, zc_s17 w, zc_s18 w, zc_s19 w, zc_s32 w, zc_s45 w, zc_s46 w, zc_s47 w, zc_s64 w, zc_s68 w, zc_s69 w, zc_s76 w, zc_s77 w, zc_r16_0 w, zc_r16_1 w, zc_r16_2 w, zc_r16_3 w, zc_r16_4 w, zc_r17_0 w, zc_r17_1 w, zc_r18_0 w, zc_r32_0 w, zc_r32_1 w, zc_r46_0 w, zc_r46_1 w, zc_r68_0 w, zc_r68_1 w]
  have e0 : zsk h b (gz h 45 14) 0 0 = zskn h p b 0 := by unfold zskn; rw [show gz h 45 14 + ((0 : Nat) : Int) = gz h 45 14 by omega]; rfl
  rw [e0]
  refine zdown (m := cn) (P := fun i => zV X M_X7_shaken (zQm M_X7_shaken R) 0 0 46 [.ref 16, .int (zj an), .int (zj b), .int (zj cn), .int (zj i)] [] (zskn h p b i)) (fun i hi ih => ?_) 0 (by omega)
  have w1 : zCW (zskn h p b i) d p := w
  refine vb_X7_shaken_46 _ _ _ ?_
  simp only [B_X7_shaken_46, oPI, oPL, oILOAD, oLLOAD, oALOAD, oISTORE, oASTORE, oLSTORE, oIINC, oIADD, oISUB, oIMUL, oIAND, oIOR, oIXOR, oIDIV, oIREM, oISHL, oISHR, oIUSHR, oLADD, oLSUB, oLMUL, oLOR, oLDIV, oLREM, oLCMP, oLSHL, oINEG, oI2L, oL2I, oI2B, oI2C, oDUP, oPOP, oDUP2, oIFEQ, oICEQ, oIFNE, oICNE, oIFLT, oICLT, oIFGE, oICGE, oIFGT, oICGT, oIFLE, oICLE, oIFNULL, oIFNONNULL, oTSW, oLSW, oGETI, oGETL, oGETR, oPUTI, oPUTZ, oPUTL, oPUTR, oIALD, oBALD, oZALD, oLALD, oAALD, oALEN, oIAST, oBAST, oZAST, oLAST, oIRET, oZRET, oLRET, oVRET, oARET, oOBJ, oINI, oPS, oNEW, oNEWAI, oNEWAB, oNEWAZ, oNEWAL, oCOPY, oINV0, oINS0, oINV1, oINS1, oINV2, oINS2, oINV3, oINS3, oINV4, oINS4, oINV5, oINS5, oINV6, oINS6, List.getElem?_cons_zero, List.getElem?_cons_succ, List.set_cons_zero, List.set_cons_succ, znl, zs4, zc1, true_and, and_self, Value.category, Option.toList, List.cons_append, List.nil_append, zvr, zc_s16 w1, zc_s17 w1, zc_s18 w1, zc_s19 w1, zc_s32 w1, zc_s45 w1, zc_s46 w1, zc_s47 w1, zc_s64 w1, zc_s68 w1, zc_s69 w1, zc_s76 w1, zc_s77 w1, zc_r16_0 w1, zc_r16_1 w1, zc_r16_2 w1, zc_r16_3 w1, zc_r16_4 w1, zc_r17_0 w1, zc_r17_1 w1, zc_r18_0 w1, zc_r32_0 w1, zc_r32_1 w1, zc_r46_0 w1, zc_r46_1 w1, zc_r68_0 w1, zc_r68_1 w1]
  try simp (disch := omega) only [zgi_gz, zj_cn, zj_lt, zj_le, zj_eq, zj_add, zj_sub, zj_mul, zj_neg, zj_lt0, zj_le0, zj_0le, zj_0lt, zj_eq0]
  by_cases ci : i = cn
  · subst ci
    refine ⟨fun _ => ?_, fun c3 => by omega⟩
    have hb := zdy_b (H := zhol h p) (day0 := gz h 45 14) c2.1 c2.2.1 i
    refine vb_X7_shaken_72 _ _ _ ?_
    simp only [B_X7_shaken_72, oPI, oPL, oILOAD, oLLOAD, oALOAD, oISTORE, oASTORE, oLSTORE, oIINC, oIADD, oISUB, oIMUL, oIAND, oIOR, oIXOR, oIDIV, oIREM, oISHL, oISHR, oIUSHR, oLADD, oLSUB, oLMUL, oLOR, oLDIV, oLREM, oLCMP, oLSHL, oINEG, oI2L, oL2I, oI2B, oI2C, oDUP, oPOP, oDUP2, oIFEQ, oICEQ, oIFNE, oICNE, oIFLT, oICLT, oIFGE, oICGE, oIFGT, oICGT, oIFLE, oICLE, oIFNULL, oIFNONNULL, oTSW, oLSW, oGETI, oGETL, oGETR, oPUTI, oPUTZ, oPUTL, oPUTR, oIALD, oBALD, oZALD, oLALD, oAALD, oALEN, oIAST, oBAST, oZAST, oLAST, oIRET, oZRET, oLRET, oVRET, oARET, oOBJ, oINI, oPS, oNEW, oNEWAI, oNEWAB, oNEWAZ, oNEWAL, oCOPY, oINV0, oINS0, oINV1, oINS1, oINV2, oINS2, oINV3, oINS3, oINV4, oINS4, oINV5, oINS5, oINV6, oINS6, List.getElem?_cons_zero, List.getElem?_cons_succ, List.set_cons_zero, List.set_cons_succ, znl, zs4, zc1, true_and, and_self, Value.category, Option.toList, List.cons_append, List.nil_append, zvr, zc_s16 w1, zc_s17 w1, zc_s18 w1, zc_s19 w1, zc_s32 w1, zc_s45 w1, zc_s46 w1, zc_s47 w1, zc_s64 w1, zc_s68 w1, zc_s69 w1, zc_s76 w1, zc_s77 w1, zc_r16_0 w1, zc_r16_1 w1, zc_r16_2 w1, zc_r16_3 w1, zc_r16_4 w1, zc_r17_0 w1, zc_r17_1 w1, zc_r18_0 w1, zc_r32_0 w1, zc_r32_1 w1, zc_r46_0 w1, zc_r46_1 w1, zc_r68_0 w1, zc_r68_1 w1]
    have e2 : zgi (zskn h p b i) 77 2 = zj (zdy (zhol h p) (gz h 45 14) b i).2.1 := rfl
    have e3 : zgi (zskn h p b i) 77 3 = zj (zdy (zhol h p) (gz h 45 14) b i).2.2 := rfl
    rw [e2, e3]
    refine cc_cellBehind w1 (zPV_sk w v) (zNV_sk u) (by omega) (by omega) (by omega) (by omega) (by omega) ?_
    simp only [oPI, oPL, oILOAD, oLLOAD, oALOAD, oISTORE, oASTORE, oLSTORE, oIINC, oIADD, oISUB, oIMUL, oIAND, oIOR, oIXOR, oIDIV, oIREM, oISHL, oISHR, oIUSHR, oLADD, oLSUB, oLMUL, oLOR, oLDIV, oLREM, oLCMP, oLSHL, oINEG, oI2L, oL2I, oI2B, oI2C, oDUP, oPOP, oDUP2, oIFEQ, oICEQ, oIFNE, oICNE, oIFLT, oICLT, oIFGE, oICGE, oIFGT, oICGT, oIFLE, oICLE, oIFNULL, oIFNONNULL, oTSW, oLSW, oGETI, oGETL, oGETR, oPUTI, oPUTZ, oPUTL, oPUTR, oIALD, oBALD, oZALD, oLALD, oAALD, oALEN, oIAST, oBAST, oZAST, oLAST, oIRET, oZRET, oLRET, oVRET, oARET, oOBJ, oINI, oPS, oNEW, oNEWAI, oNEWAB, oNEWAZ, oNEWAL, oCOPY, oINV0, oINS0, oINV1, oINS1, oINV2, oINS2, oINV3, oINS3, oINV4, oINS4, oINV5, oINS5, oINV6, oINS6, List.getElem?_cons_zero, List.getElem?_cons_succ, List.set_cons_zero, List.set_cons_succ, znl, zs4, zc1, true_and, and_self, Value.category, Option.toList, List.cons_append, List.nil_append, zvr, zc_s16 w1, zc_s17 w1, zc_s18 w1, zc_s19 w1, zc_s32 w1, zc_s45 w1, zc_s46 w1, zc_s47 w1, zc_s64 w1, zc_s68 w1, zc_s69 w1, zc_s76 w1, zc_s77 w1, zc_r16_0 w1, zc_r16_1 w1, zc_r16_2 w1, zc_r16_3 w1, zc_r16_4 w1, zc_r17_0 w1, zc_r17_1 w1, zc_r18_0 w1, zc_r32_0 w1, zc_r32_1 w1, zc_r46_0 w1, zc_r46_1 w1, zc_r68_0 w1, zc_r68_1 w1]
    refine cc_answer w1 ?_
    simp only [oPI, oPL, oILOAD, oLLOAD, oALOAD, oISTORE, oASTORE, oLSTORE, oIINC, oIADD, oISUB, oIMUL, oIAND, oIOR, oIXOR, oIDIV, oIREM, oISHL, oISHR, oIUSHR, oLADD, oLSUB, oLMUL, oLOR, oLDIV, oLREM, oLCMP, oLSHL, oINEG, oI2L, oL2I, oI2B, oI2C, oDUP, oPOP, oDUP2, oIFEQ, oICEQ, oIFNE, oICNE, oIFLT, oICLT, oIFGE, oICGE, oIFGT, oICGT, oIFLE, oICLE, oIFNULL, oIFNONNULL, oTSW, oLSW, oGETI, oGETL, oGETR, oPUTI, oPUTZ, oPUTL, oPUTR, oIALD, oBALD, oZALD, oLALD, oAALD, oALEN, oIAST, oBAST, oZAST, oLAST, oIRET, oZRET, oLRET, oVRET, oARET, oOBJ, oINI, oPS, oNEW, oNEWAI, oNEWAB, oNEWAZ, oNEWAL, oCOPY, oINV0, oINS0, oINV1, oINS1, oINV2, oINS2, oINV3, oINS3, oINV4, oINS4, oINV5, oINS5, oINV6, oINS6, List.getElem?_cons_zero, List.getElem?_cons_succ, List.set_cons_zero, List.set_cons_succ, znl, zs4, zc1, true_and, and_self, Value.category, Option.toList, List.cons_append, List.nil_append, zvr]
    have e4 : zcl (zskn h p b i) p (zdy (zhol h p) (gz h 45 14) b i).2.1 (zdy (zhol h p) (gz h 45 14) b i).2.2 an = _ := zcl_sk w _ _ _ _ _ _ _
    rw [e4]
    exact k
  refine ⟨fun c3 => by omega, fun _ => ?_⟩
  refine cc_pass w v u c2.1 c2.2.1 (by omega) ?_
  simp only [oPI, oPL, oILOAD, oLLOAD, oALOAD, oISTORE, oASTORE, oLSTORE, oIINC, oIADD, oISUB, oIMUL, oIAND, oIOR, oIXOR, oIDIV, oIREM, oISHL, oISHR, oIUSHR, oLADD, oLSUB, oLMUL, oLOR, oLDIV, oLREM, oLCMP, oLSHL, oINEG, oI2L, oL2I, oI2B, oI2C, oDUP, oPOP, oDUP2, oIFEQ, oICEQ, oIFNE, oICNE, oIFLT, oICLT, oIFGE, oICGE, oIFGT, oICGT, oIFLE, oICLE, oIFNULL, oIFNONNULL, oTSW, oLSW, oGETI, oGETL, oGETR, oPUTI, oPUTZ, oPUTL, oPUTR, oIALD, oBALD, oZALD, oLALD, oAALD, oALEN, oIAST, oBAST, oZAST, oLAST, oIRET, oZRET, oLRET, oVRET, oARET, oOBJ, oINI, oPS, oNEW, oNEWAI, oNEWAB, oNEWAZ, oNEWAL, oCOPY, oINV0, oINS0, oINV1, oINS1, oINV2, oINS2, oINV3, oINS3, oINV4, oINS4, oINV5, oINS5, oINV6, oINS6, List.getElem?_cons_zero, List.getElem?_cons_succ, List.set_cons_zero, List.set_cons_succ, znl, zs4, zc1, true_and, and_self, Value.category, Option.toList, List.cons_append, List.nil_append, zvr]
  try simp (disch := omega) only [zgi_gz, zj_cn, zj_lt, zj_le, zj_eq, zj_add, zj_sub, zj_mul, zj_neg, zj_lt0, zj_le0, zj_0le, zj_0lt, zj_eq0]
  exact ih (by omega)
end ZDY
