theorem z8_n (y : Int8) : vp_nar .byte y.toInt32 = y.toInt32 := by
  show y.toInt32.toInt8.toInt32 = y.toInt32
  rw [Int8.toInt8_toInt32]
section ZFD
variable {X : Nat × (Nat → Int32)} {R : zRt} {h h' : zHp} {d p : Nat}
/-- four bytes are put on the class's tape -/
def zPt (h h' : zHp) (L : Nat) (n : Int32) : Prop := h'.1 = h.1 ∧ h'.2.2 = h.2.2 ∧ (∀ x y, x ≠ 19 → ¬ (x = 18 ∧ y = 1) → zgi h' x y = zgi h x y) ∧ gz h' 18 1 = (L : Int) + 4 ∧ (∀ y, y < L → zgi h' 19 y = zgi h 19 y) ∧ ∀ q : Nat, q < 4 → zgi h' 19 (L + q) = zbc8 n (24 - 8 * q)
theorem cc_put {L : Nat} {n : Int32} (w : zCW h d p) (hL : gz h 18 1 = L) (hL2 : L + 4 ≤ 800) (k : ∀ h', zPt h h' L n → R none h') : zCC X M_X6_put [.ref 18, .int n] h R := by
  refine zCC_of (ls := [.ref 18, .int n, .retAddr 0]) pf_X6_put rfl (Nat.le_of_ble_eq_true rfl) ?_
  refine vb_X6_put_0 _ _ _ ?_
  simp only [B_X6_put_0, oPI, oPL, oILOAD, oLLOAD, oALOAD, oISTORE, oASTORE, oLSTORE, oIINC, oIADD, oISUB, oIMUL, oIAND, oIOR, oIXOR, oIDIV, oIREM, oISHL, oISHR, oIUSHR, oLADD, oLSUB, oLMUL, oLOR, oLDIV, oLREM, oLCMP, oLSHL, oINEG, oI2L, oL2I, oI2B, oI2C, oDUP, oPOP, oDUP2, oIFEQ, oICEQ, oIFNE, oICNE, oIFLT, oICLT, oIFGE, oICGE, oIFGT, oICGT, oIFLE, oICLE, oIFNULL, oIFNONNULL, oTSW, oLSW, oGETI, oGETL, oGETR, oPUTI, oPUTZ, oPUTL, oPUTR, oIALD, oBALD, oZALD, oLALD, oAALD, oALEN, oIAST, oBAST, oZAST, oLAST, oIRET, oZRET, oLRET, oVRET, oARET, oOBJ, oINI, oPS, oNEW, oNEWAI, oNEWAB, oNEWAZ, oNEWAL, oCOPY, oINV0, oINS0, oINV1, oINS1, oINV2, oINS2, oINV3, oINS3, oINV4, oINS4, oINV5, oINS5, oINV6, oINS6, List.getElem?_cons_zero, List.getElem?_cons_succ, List.set_cons_zero, List.set_cons_succ, znl, zs4, zc1, true_and, and_self, Value.category, Option.toList, List.cons_append, List.nil_append, zvr, zc_s16 w, zc_s17 w, zc_s18 w, zc_s19 w, zc_s32 w, zc_s45 w, zc_s46 w, zc_s47 w, zc_s64 w, zc_s68 w, zc_s69 w, zc_s76 w, zc_s77 w, zc_r16_0 w, zc_r16_1 w, zc_r16_2 w, zc_r16_3 w, zc_r16_4 w, zc_r17_0 w, zc_r17_1 w, zc_r18_0 w, zc_r32_0 w, zc_r32_1 w, zc_r46_0 w, zc_r46_1 w, zc_r68_0 w, zc_r68_1 w]
  have main := zdown (m := 4) (P := fun q => ∀ h', h'.1 = h.1 → h'.2.2 = h.2.2 → (∀ x y, x ≠ 19 → ¬ (x = 18 ∧ y = 1) → zgi h' x y = zgi h x y) → gz h' 18 1 = (L : Int) + q → (∀ y, y < L → zgi h' 19 y = zgi h 19 y) → (∀ i : Nat, i < q → zgi h' 19 (L + i) = zbc8 n (24 - 8 * i)) → zV X M_X6_put (zQm M_X6_put R) 0 0 3 [.ref 18, .int n, .int (zj (24 - 8 * (q : Int)))] [] h') (fun q hq ih h' e1 e2 e3 e4 e5 e6 => ?_) 0 (by omega) h rfl rfl (fun _ _ _ _ => rfl) (by rw [hL]; omega) (fun _ _ => rfl) (fun i hi => by omega)
  · exact main
  have w1 := w.mv e1 e2
  refine vb_X6_put_3 _ _ _ ?_
  simp only [B_X6_put_3, oPI, oPL, oILOAD, oLLOAD, oALOAD, oISTORE, oASTORE, oLSTORE, oIINC, oIADD, oISUB, oIMUL, oIAND, oIOR, oIXOR, oIDIV, oIREM, oISHL, oISHR, oIUSHR, oLADD, oLSUB, oLMUL, oLOR, oLDIV, oLREM, oLCMP, oLSHL, oINEG, oI2L, oL2I, oI2B, oI2C, oDUP, oPOP, oDUP2, oIFEQ, oICEQ, oIFNE, oICNE, oIFLT, oICLT, oIFGE, oICGE, oIFGT, oICGT, oIFLE, oICLE, oIFNULL, oIFNONNULL, oTSW, oLSW, oGETI, oGETL, oGETR, oPUTI, oPUTZ, oPUTL, oPUTR, oIALD, oBALD, oZALD, oLALD, oAALD, oALEN, oIAST, oBAST, oZAST, oLAST, oIRET, oZRET, oLRET, oVRET, oARET, oOBJ, oINI, oPS, oNEW, oNEWAI, oNEWAB, oNEWAZ, oNEWAL, oCOPY, oINV0, oINS0, oINV1, oINS1, oINV2, oINS2, oINV3, oINS3, oINV4, oINS4, oINV5, oINS5, oINV6, oINS6, List.getElem?_cons_zero, List.getElem?_cons_succ, List.set_cons_zero, List.set_cons_succ, znl, zs4, zc1, true_and, and_self, Value.category, Option.toList, List.cons_append, List.nil_append, zvr, zc_s16 w1, zc_s17 w1, zc_s18 w1, zc_s19 w1, zc_s32 w1, zc_s45 w1, zc_s46 w1, zc_s47 w1, zc_s64 w1, zc_s68 w1, zc_s69 w1, zc_s76 w1, zc_s77 w1, zc_r16_0 w1, zc_r16_1 w1, zc_r16_2 w1, zc_r16_3 w1, zc_r16_4 w1, zc_r17_0 w1, zc_r17_1 w1, zc_r18_0 w1, zc_r32_0 w1, zc_r32_1 w1, zc_r46_0 w1, zc_r46_1 w1, zc_r68_0 w1, zc_r68_1 w1, zsh_pi]
  rw [zgi_gz, e4]
  by_cases c : q = 4
  · subst c
    refine ⟨fun _ => ?_, fun c => absurd (by decide) c⟩
    refine vb_X6_put_46 _ _ _ ?_
    simp only [B_X6_put_46, oPI, oPL, oILOAD, oLLOAD, oALOAD, oISTORE, oASTORE, oLSTORE, oIINC, oIADD, oISUB, oIMUL, oIAND, oIOR, oIXOR, oIDIV, oIREM, oISHL, oISHR, oIUSHR, oLADD, oLSUB, oLMUL, oLOR, oLDIV, oLREM, oLCMP, oLSHL, oINEG, oI2L, oL2I, oI2B, oI2C, oDUP, oPOP, oDUP2, oIFEQ, oICEQ, oIFNE, oICNE, oIFLT, oICLT, oIFGE, oICGE, oIFGT, oICGT, oIFLE, oICLE, oIFNULL, oIFNONNULL, oTSW, oLSW, oGETI, oGETL, oGETR, oPUTI, oPUTZ, oPUTL, oPUTR, oIALD, oBALD, oZALD, oLALD, oAALD, oALEN, oIAST, oBAST, oZAST, oLAST, oIRET, oZRET, oLRET, oVRET, oARET, oOBJ, oINI, oPS, oNEW, oNEWAI, oNEWAB, oNEWAZ, oNEWAL, oCOPY, oINV0, oINS0, oINV1, oINS1, oINV2, oINS2, oINV3, oINS3, oINV4, oINS4, oINV5, oINS5, oINV6, oINS6, List.getElem?_cons_zero, List.getElem?_cons_succ, List.set_cons_zero, List.set_cons_succ, znl, zs4, zc1, true_and, and_self, Value.category, Option.toList, List.cons_append, List.nil_append, zvr]
    exact k h' ⟨e1, e2, e3, e4, e5, e6⟩
  have ih := ih (by omega)
  rw [show (24 : Int) - 8 * ((q + 1 : Nat) : Int) = 24 - 8 * (q : Int) + -8 by omega] at ih
  simp (disch := omega) only [zj_lt0, zj_le]
  refine ⟨fun c => by omega, fun _ => ⟨fun c => by omega, fun _ => ?_⟩⟩
  rw [show (L : Int) + q = ((L + q : Nat) : Int) by omega, zj_cn (by omega)]
  refine ⟨zj_in (by omega) (by omega) (by omega), ?_⟩
  have w2 : zCW (zpi h' 19 (L + q) (zbc8 n (24 - 8 * q))) d p := w1
  rw [show (24 : Int) - 8 * (q : Int) = ((24 - 8 * q : Nat) : Int) by omega]
  have e8 : zgi (zpi h' 19 (L + q) (zbc8 n (24 - 8 * q))) 18 1 = zj ((L + q : Nat) : Int) := by rw [zgi_pi, if_neg (by omega), zgi_gz, e4]; rfl
  unfold zbc8 at e8 w2
  rw [z8_n, e8, zj_add]
  refine vb_X6_put_40 _ _ _ ?_
  simp only [B_X6_put_40, oPI, oPL, oILOAD, oLLOAD, oALOAD, oISTORE, oASTORE, oLSTORE, oIINC, oIADD, oISUB, oIMUL, oIAND, oIOR, oIXOR, oIDIV, oIREM, oISHL, oISHR, oIUSHR, oLADD, oLSUB, oLMUL, oLOR, oLDIV, oLREM, oLCMP, oLSHL, oINEG, oI2L, oL2I, oI2B, oI2C, oDUP, oPOP, oDUP2, oIFEQ, oICEQ, oIFNE, oICNE, oIFLT, oICLT, oIFGE, oICGE, oIFGT, oICGT, oIFLE, oICLE, oIFNULL, oIFNONNULL, oTSW, oLSW, oGETI, oGETL, oGETR, oPUTI, oPUTZ, oPUTL, oPUTR, oIALD, oBALD, oZALD, oLALD, oAALD, oALEN, oIAST, oBAST, oZAST, oLAST, oIRET, oZRET, oLRET, oVRET, oARET, oOBJ, oINI, oPS, oNEW, oNEWAI, oNEWAB, oNEWAZ, oNEWAL, oCOPY, oINV0, oINS0, oINV1, oINS1, oINV2, oINS2, oINV3, oINS3, oINV4, oINS4, oINV5, oINS5, oINV6, oINS6, List.getElem?_cons_zero, List.getElem?_cons_succ, List.set_cons_zero, List.set_cons_succ, znl, zs4, zc1, true_and, and_self, Value.category, Option.toList, List.cons_append, List.nil_append, zvr]
  rw [zj_add, show ((24 - 8 * q : Nat) : Int) + -8 = 24 - 8 * (q : Int) + -8 by omega]
  refine ih _ e1 e2 (fun x y hx hy => ?_) ?_ (fun y hy => ?_) (fun i hi => ?_)
  · rw [zgi_pi, if_neg hy, zgi_pi, if_neg (by omega)]
    exact e3 x y hx hy
  · rw [gz_pi1 (by omega) (by omega)]
    omega
  · rw [zgi_pi, if_neg (by omega), zgi_pi, if_neg (by omega)]
    exact e5 y hy
  · rw [zgi_pi, if_neg (by omega), zgi_pi]
    by_cases c : i = q
    · subst c
      rw [if_pos ⟨rfl, rfl⟩]
      rfl
    · rw [if_neg (by omega)]
      exact e6 i (by omega)
def zar5 (a b c d e : Int32) (q : Nat) : Int32 := if q = 0 then a else if q = 1 then b else if q = 2 then c else if q = 3 then d else e
/-- twenty bytes are put on a tape: cell c, its length at (o, f) -/
def zFd (h h' : zHp) (c o f L : Nat) (A : Nat → Int32) : Prop := h'.1 = h.1 ∧ h'.2.2 = h.2.2 ∧ (∀ x y, x ≠ c → ¬ (x = o ∧ y = f) → zgi h' x y = zgi h x y) ∧ gz h' o f = (L : Int) + 20 ∧ (∀ y, y < L → zgi h' c y = zgi h c y) ∧ ∀ q : Nat, q < 20 → zgi h' c (L + q) = zbm8 (A (q / 4)) (24 - 8 * (q % 4))
theorem cx_feed {L : Nat} {a1 a2 a3 a4 a5 : Int32} (w : zCW h d p) (hL : gz h 18 1 = L) (hL8 : L ≤ 800) (k0 : 780 < L → R (some (.int (zj (-1)))) h) (k1 : L ≤ 780 → ∀ h', zFd h h' 19 18 1 L (zar5 a1 a2 a3 a4 a5) → R (some (.int (zj ((L : Int) + 20)))) h') : zCC X M_X7_feed [.ref 16, .int a1, .int a2, .int a3, .int a4, .int a5] h R := by
  refine zCC_of (ls := [.ref 16, .int a1, .int a2, .int a3, .int a4, .int a5]) pf_X7_feed rfl (Nat.le_of_ble_eq_true rfl) ?_
  refine vb_X7_feed_0 _ _ _ ?_
  simp only [B_X7_feed_0, oPI, oPL, oILOAD, oLLOAD, oALOAD, oISTORE, oASTORE, oLSTORE, oIINC, oIADD, oISUB, oIMUL, oIAND, oIOR, oIXOR, oIDIV, oIREM, oISHL, oISHR, oIUSHR, oLADD, oLSUB, oLMUL, oLOR, oLDIV, oLREM, oLCMP, oLSHL, oINEG, oI2L, oL2I, oI2B, oI2C, oDUP, oPOP, oDUP2, oIFEQ, oICEQ, oIFNE, oICNE, oIFLT, oICLT, oIFGE, oICGE, oIFGT, oICGT, oIFLE, oICLE, oIFNULL, oIFNONNULL, oTSW, oLSW, oGETI, oGETL, oGETR, oPUTI, oPUTZ, oPUTL, oPUTR, oIALD, oBALD, oZALD, oLALD, oAALD, oALEN, oIAST, oBAST, oZAST, oLAST, oIRET, oZRET, oLRET, oVRET, oARET, oOBJ, oINI, oPS, oNEW, oNEWAI, oNEWAB, oNEWAZ, oNEWAL, oCOPY, oINV0, oINS0, oINV1, oINS1, oINV2, oINS2, oINV3, oINS3, oINV4, oINS4, oINV5, oINS5, oINV6, oINS6, List.getElem?_cons_zero, List.getElem?_cons_succ, List.set_cons_zero, List.set_cons_succ, znl, zs4, zc1, true_and, and_self, Value.category, Option.toList, List.cons_append, List.nil_append, zvr, zc_s16 w, zc_s17 w, zc_s18 w, zc_s19 w, zc_s32 w, zc_s45 w, zc_s46 w, zc_s47 w, zc_s64 w, zc_s68 w, zc_s69 w, zc_s76 w, zc_s77 w, zc_r16_0 w, zc_r16_1 w, zc_r16_2 w, zc_r16_3 w, zc_r16_4 w, zc_r17_0 w, zc_r17_1 w, zc_r18_0 w, zc_r32_0 w, zc_r32_1 w, zc_r46_0 w, zc_r46_1 w, zc_r68_0 w, zc_r68_1 w]
  rw [zgi_gz, hL, zj_add]
  simp (disch := omega) only [zj_le]
  refine ⟨fun c => ?_, fun c => k0 (by omega)⟩
  have k1 := k1 (by omega)
  refine vb_X7_feed_21 _ _ _ ?_
  simp only [B_X7_feed_21, oPI, oPL, oILOAD, oLLOAD, oALOAD, oISTORE, oASTORE, oLSTORE, oIINC, oIADD, oISUB, oIMUL, oIAND, oIOR, oIXOR, oIDIV, oIREM, oISHL, oISHR, oIUSHR, oLADD, oLSUB, oLMUL, oLOR, oLDIV, oLREM, oLCMP, oLSHL, oINEG, oI2L, oL2I, oI2B, oI2C, oDUP, oPOP, oDUP2, oIFEQ, oICEQ, oIFNE, oICNE, oIFLT, oICLT, oIFGE, oICGE, oIFGT, oICGT, oIFLE, oICLE, oIFNULL, oIFNONNULL, oTSW, oLSW, oGETI, oGETL, oGETR, oPUTI, oPUTZ, oPUTL, oPUTR, oIALD, oBALD, oZALD, oLALD, oAALD, oALEN, oIAST, oBAST, oZAST, oLAST, oIRET, oZRET, oLRET, oVRET, oARET, oOBJ, oINI, oPS, oNEW, oNEWAI, oNEWAB, oNEWAZ, oNEWAL, oCOPY, oINV0, oINS0, oINV1, oINS1, oINV2, oINS2, oINV3, oINS3, oINV4, oINS4, oINV5, oINS5, oINV6, oINS6, List.getElem?_cons_zero, List.getElem?_cons_succ, List.set_cons_zero, List.set_cons_succ, znl, zs4, zc1, true_and, and_self, Value.category, Option.toList, List.cons_append, List.nil_append, zvr, zc_s16 w, zc_s17 w, zc_s18 w, zc_s19 w, zc_s32 w, zc_s45 w, zc_s46 w, zc_s47 w, zc_s64 w, zc_s68 w, zc_s69 w, zc_s76 w, zc_s77 w, zc_r16_0 w, zc_r16_1 w, zc_r16_2 w, zc_r16_3 w, zc_r16_4 w, zc_r17_0 w, zc_r17_1 w, zc_r18_0 w, zc_r32_0 w, zc_r32_1 w, zc_r46_0 w, zc_r46_1 w, zc_r68_0 w, zc_r68_1 w]
  refine cc_put w hL (by omega) (fun h1 t1 => ?_)
  have w1 := w.mv t1.1 t1.2.1
  have g1 : gz h1 18 1 = ((L + 4 : Nat) : Int) := by rw [t1.2.2.2.1]; omega
  simp only [oPI, oPL, oILOAD, oLLOAD, oALOAD, oISTORE, oASTORE, oLSTORE, oIINC, oIADD, oISUB, oIMUL, oIAND, oIOR, oIXOR, oIDIV, oIREM, oISHL, oISHR, oIUSHR, oLADD, oLSUB, oLMUL, oLOR, oLDIV, oLREM, oLCMP, oLSHL, oINEG, oI2L, oL2I, oI2B, oI2C, oDUP, oPOP, oDUP2, oIFEQ, oICEQ, oIFNE, oICNE, oIFLT, oICLT, oIFGE, oICGE, oIFGT, oICGT, oIFLE, oICLE, oIFNULL, oIFNONNULL, oTSW, oLSW, oGETI, oGETL, oGETR, oPUTI, oPUTZ, oPUTL, oPUTR, oIALD, oBALD, oZALD, oLALD, oAALD, oALEN, oIAST, oBAST, oZAST, oLAST, oIRET, oZRET, oLRET, oVRET, oARET, oOBJ, oINI, oPS, oNEW, oNEWAI, oNEWAB, oNEWAZ, oNEWAL, oCOPY, oINV0, oINS0, oINV1, oINS1, oINV2, oINS2, oINV3, oINS3, oINV4, oINS4, oINV5, oINS5, oINV6, oINS6, List.getElem?_cons_zero, List.getElem?_cons_succ, List.set_cons_zero, List.set_cons_succ, znl, zs4, zc1, true_and, and_self, Value.category, Option.toList, List.cons_append, List.nil_append, zvr, zc_s16 w1, zc_s17 w1, zc_s18 w1, zc_s19 w1, zc_s32 w1, zc_s45 w1, zc_s46 w1, zc_s47 w1, zc_s64 w1, zc_s68 w1, zc_s69 w1, zc_s76 w1, zc_s77 w1, zc_r16_0 w1, zc_r16_1 w1, zc_r16_2 w1, zc_r16_3 w1, zc_r16_4 w1, zc_r17_0 w1, zc_r17_1 w1, zc_r18_0 w1, zc_r32_0 w1, zc_r32_1 w1, zc_r46_0 w1, zc_r46_1 w1, zc_r68_0 w1, zc_r68_1 w1]
  refine cc_put w1 g1 (by omega) (fun h2 t2 => ?_)
  have w2 := w1.mv t2.1 t2.2.1
  have g2 : gz h2 18 1 = ((L + 4 + 4 : Nat) : Int) := by rw [t2.2.2.2.1]; omega
  simp only [oPI, oPL, oILOAD, oLLOAD, oALOAD, oISTORE, oASTORE, oLSTORE, oIINC, oIADD, oISUB, oIMUL, oIAND, oIOR, oIXOR, oIDIV, oIREM, oISHL, oISHR, oIUSHR, oLADD, oLSUB, oLMUL, oLOR, oLDIV, oLREM, oLCMP, oLSHL, oINEG, oI2L, oL2I, oI2B, oI2C, oDUP, oPOP, oDUP2, oIFEQ, oICEQ, oIFNE, oICNE, oIFLT, oICLT, oIFGE, oICGE, oIFGT, oICGT, oIFLE, oICLE, oIFNULL, oIFNONNULL, oTSW, oLSW, oGETI, oGETL, oGETR, oPUTI, oPUTZ, oPUTL, oPUTR, oIALD, oBALD, oZALD, oLALD, oAALD, oALEN, oIAST, oBAST, oZAST, oLAST, oIRET, oZRET, oLRET, oVRET, oARET, oOBJ, oINI, oPS, oNEW, oNEWAI, oNEWAB, oNEWAZ, oNEWAL, oCOPY, oINV0, oINS0, oINV1, oINS1, oINV2, oINS2, oINV3, oINS3, oINV4, oINS4, oINV5, oINS5, oINV6, oINS6, List.getElem?_cons_zero, List.getElem?_cons_succ, List.set_cons_zero, List.set_cons_succ, znl, zs4, zc1, true_and, and_self, Value.category, Option.toList, List.cons_append, List.nil_append, zvr, zc_s16 w2, zc_s17 w2, zc_s18 w2, zc_s19 w2, zc_s32 w2, zc_s45 w2, zc_s46 w2, zc_s47 w2, zc_s64 w2, zc_s68 w2, zc_s69 w2, zc_s76 w2, zc_s77 w2, zc_r16_0 w2, zc_r16_1 w2, zc_r16_2 w2, zc_r16_3 w2, zc_r16_4 w2, zc_r17_0 w2, zc_r17_1 w2, zc_r18_0 w2, zc_r32_0 w2, zc_r32_1 w2, zc_r46_0 w2, zc_r46_1 w2, zc_r68_0 w2, zc_r68_1 w2]
  refine cc_put w2 g2 (by omega) (fun h3 t3 => ?_)
  have w3 := w2.mv t3.1 t3.2.1
  have g3 : gz h3 18 1 = ((L + 4 + 4 + 4 : Nat) : Int) := by rw [t3.2.2.2.1]; omega
  simp only [oPI, oPL, oILOAD, oLLOAD, oALOAD, oISTORE, oASTORE, oLSTORE, oIINC, oIADD, oISUB, oIMUL, oIAND, oIOR, oIXOR, oIDIV, oIREM, oISHL, oISHR, oIUSHR, oLADD, oLSUB, oLMUL, oLOR, oLDIV, oLREM, oLCMP, oLSHL, oINEG, oI2L, oL2I, oI2B, oI2C, oDUP, oPOP, oDUP2, oIFEQ, oICEQ, oIFNE, oICNE, oIFLT, oICLT, oIFGE, oICGE, oIFGT, oICGT, oIFLE, oICLE, oIFNULL, oIFNONNULL, oTSW, oLSW, oGETI, oGETL, oGETR, oPUTI, oPUTZ, oPUTL, oPUTR, oIALD, oBALD, oZALD, oLALD, oAALD, oALEN, oIAST, oBAST, oZAST, oLAST, oIRET, oZRET, oLRET, oVRET, oARET, oOBJ, oINI, oPS, oNEW, oNEWAI, oNEWAB, oNEWAZ, oNEWAL, oCOPY, oINV0, oINS0, oINV1, oINS1, oINV2, oINS2, oINV3, oINS3, oINV4, oINS4, oINV5, oINS5, oINV6, oINS6, List.getElem?_cons_zero, List.getElem?_cons_succ, List.set_cons_zero, List.set_cons_succ, znl, zs4, zc1, true_and, and_self, Value.category, Option.toList, List.cons_append, List.nil_append, zvr, zc_s16 w3, zc_s17 w3, zc_s18 w3, zc_s19 w3, zc_s32 w3, zc_s45 w3, zc_s46 w3, zc_s47 w3, zc_s64 w3, zc_s68 w3, zc_s69 w3, zc_s76 w3, zc_s77 w3, zc_r16_0 w3, zc_r16_1 w3, zc_r16_2 w3, zc_r16_3 w3, zc_r16_4 w3, zc_r17_0 w3, zc_r17_1 w3, zc_r18_0 w3, zc_r32_0 w3, zc_r32_1 w3, zc_r46_0 w3, zc_r46_1 w3, zc_r68_0 w3, zc_r68_1 w3]
  refine cc_put w3 g3 (by omega) (fun h4 t4 => ?_)
  have w4 := w3.mv t4.1 t4.2.1
  have g4 : gz h4 18 1 = ((L + 4 + 4 + 4 + 4 : Nat) : Int) := by rw [t4.2.2.2.1]; omega
  simp only [oPI, oPL, oILOAD, oLLOAD, oALOAD, oISTORE, oASTORE, oLSTORE, oIINC, oIADD, oISUB, oIMUL, oIAND, oIOR, oIXOR, oIDIV, oIREM, oISHL, oISHR, oIUSHR, oLADD, oLSUB, oLMUL, oLOR, oLDIV, oLREM, oLCMP, oLSHL, oINEG, oI2L, oL2I, oI2B, oI2C, oDUP, oPOP, oDUP2, oIFEQ, oICEQ, oIFNE, oICNE, oIFLT, oICLT, oIFGE, oICGE, oIFGT, oICGT, oIFLE, oICLE, oIFNULL, oIFNONNULL, oTSW, oLSW, oGETI, oGETL, oGETR, oPUTI, oPUTZ, oPUTL, oPUTR, oIALD, oBALD, oZALD, oLALD, oAALD, oALEN, oIAST, oBAST, oZAST, oLAST, oIRET, oZRET, oLRET, oVRET, oARET, oOBJ, oINI, oPS, oNEW, oNEWAI, oNEWAB, oNEWAZ, oNEWAL, oCOPY, oINV0, oINS0, oINV1, oINS1, oINV2, oINS2, oINV3, oINS3, oINV4, oINS4, oINV5, oINS5, oINV6, oINS6, List.getElem?_cons_zero, List.getElem?_cons_succ, List.set_cons_zero, List.set_cons_succ, znl, zs4, zc1, true_and, and_self, Value.category, Option.toList, List.cons_append, List.nil_append, zvr, zc_s16 w4, zc_s17 w4, zc_s18 w4, zc_s19 w4, zc_s32 w4, zc_s45 w4, zc_s46 w4, zc_s47 w4, zc_s64 w4, zc_s68 w4, zc_s69 w4, zc_s76 w4, zc_s77 w4, zc_r16_0 w4, zc_r16_1 w4, zc_r16_2 w4, zc_r16_3 w4, zc_r16_4 w4, zc_r17_0 w4, zc_r17_1 w4, zc_r18_0 w4, zc_r32_0 w4, zc_r32_1 w4, zc_r46_0 w4, zc_r46_1 w4, zc_r68_0 w4, zc_r68_1 w4]
  refine cc_put w4 g4 (by omega) (fun h5 t5 => ?_)
  have w5 := w4.mv t5.1 t5.2.1
  have g5 : gz h5 18 1 = (L : Int) + 20 := by rw [t5.2.2.2.1]; omega
  simp only [oPI, oPL, oILOAD, oLLOAD, oALOAD, oISTORE, oASTORE, oLSTORE, oIINC, oIADD, oISUB, oIMUL, oIAND, oIOR, oIXOR, oIDIV, oIREM, oISHL, oISHR, oIUSHR, oLADD, oLSUB, oLMUL, oLOR, oLDIV, oLREM, oLCMP, oLSHL, oINEG, oI2L, oL2I, oI2B, oI2C, oDUP, oPOP, oDUP2, oIFEQ, oICEQ, oIFNE, oICNE, oIFLT, oICLT, oIFGE, oICGE, oIFGT, oICGT, oIFLE, oICLE, oIFNULL, oIFNONNULL, oTSW, oLSW, oGETI, oGETL, oGETR, oPUTI, oPUTZ, oPUTL, oPUTR, oIALD, oBALD, oZALD, oLALD, oAALD, oALEN, oIAST, oBAST, oZAST, oLAST, oIRET, oZRET, oLRET, oVRET, oARET, oOBJ, oINI, oPS, oNEW, oNEWAI, oNEWAB, oNEWAZ, oNEWAL, oCOPY, oINV0, oINS0, oINV1, oINS1, oINV2, oINS2, oINV3, oINS3, oINV4, oINS4, oINV5, oINS5, oINV6, oINS6, List.getElem?_cons_zero, List.getElem?_cons_succ, List.set_cons_zero, List.set_cons_succ, znl, zs4, zc1, true_and, and_self, Value.category, Option.toList, List.cons_append, List.nil_append, zvr, zc_s16 w5, zc_s17 w5, zc_s18 w5, zc_s19 w5, zc_s32 w5, zc_s45 w5, zc_s46 w5, zc_s47 w5, zc_s64 w5, zc_s68 w5, zc_s69 w5, zc_s76 w5, zc_s77 w5, zc_r16_0 w5, zc_r16_1 w5, zc_r16_2 w5, zc_r16_3 w5, zc_r16_4 w5, zc_r17_0 w5, zc_r17_1 w5, zc_r18_0 w5, zc_r32_0 w5, zc_r32_1 w5, zc_r46_0 w5, zc_r46_1 w5, zc_r68_0 w5, zc_r68_1 w5]
  rw [zgi_gz, g5]
  refine k1 h5 ⟨?_, ?_, fun x y hx hy => ?_, g5, fun y hy => ?_, fun q hq => ?_⟩
  · rw [t5.1, t4.1, t3.1, t2.1, t1.1]
  · rw [t5.2.1, t4.2.1, t3.2.1, t2.2.1, t1.2.1]
  · rw [t5.2.2.1 x y hx hy, t4.2.2.1 x y hx hy, t3.2.2.1 x y hx hy, t2.2.2.1 x y hx hy, t1.2.2.1 x y hx hy]
  · rw [t5.2.2.2.2.1 y (by omega), t4.2.2.2.2.1 y (by omega), t3.2.2.2.2.1 y (by omega), t2.2.2.2.2.1 y (by omega), t1.2.2.2.2.1 y (by omega)]
  · obtain ⟨r, s, hr, hs, rfl⟩ : ∃ r s, r < 5 ∧ s < 4 ∧ q = 4 * r + s := ⟨q / 4, q % 4, by omega, by omega, by omega⟩
    rw [show (4 * r + s) / 4 = r by omega, show (4 * r + s) % 4 = s by omega]
    rcases (show r = 0 ∨ r = 1 ∨ r = 2 ∨ r = 3 ∨ r = 4 by omega) with rfl | rfl | rfl | rfl | rfl
    · rw [t5.2.2.2.2.1 _ (by omega), t4.2.2.2.2.1 _ (by omega), t3.2.2.2.2.1 _ (by omega), t2.2.2.2.2.1 _ (by omega), show L + (4 * 0 + s) = L + s by omega, t1.2.2.2.2.2 s hs]
      exact z8_q _ (by omega)
    · rw [t5.2.2.2.2.1 _ (by omega), t4.2.2.2.2.1 _ (by omega), t3.2.2.2.2.1 _ (by omega), show L + (4 * 1 + s) = L + 4 + s by omega, t2.2.2.2.2.2 s hs]
      exact z8_q _ (by omega)
    · rw [t5.2.2.2.2.1 _ (by omega), t4.2.2.2.2.1 _ (by omega), show L + (4 * 2 + s) = L + 4 + 4 + s by omega, t3.2.2.2.2.2 s hs]
      exact z8_q _ (by omega)
    · rw [t5.2.2.2.2.1 _ (by omega), show L + (4 * 3 + s) = L + 4 + 4 + 4 + s by omega, t4.2.2.2.2.2 s hs]
      exact z8_q _ (by omega)
    · rw [show L + (4 * 4 + s) = L + 4 + 4 + 4 + 4 + s by omega, t5.2.2.2.2.2 s hs]
      exact z8_q _ (by omega)
theorem cq_feed {L : Nat} {a1 a2 a3 a4 a5 : Int32} (w : zMW h) (hL : gz h 78 6 = L) (hL8 : L ≤ 800) (k0 : 780 < L → R (some (.int (zj (-1)))) (zpi h 78 0 (zj 0))) (k1 : L ≤ 780 → ∀ h', zFd (zpi h 78 0 (zj 0)) h' 79 78 6 L (zar5 a1 a2 a3 a4 a5) → R (some (.int (zj ((L : Int) + 20)))) h') : zCC X M_X9_feed [.ref 78, .int a1, .int a2, .int a3, .int a4, .int a5] h R := by
  obtain ⟨h1, hh1⟩ : ∃ h1, h1 = zpi h 78 0 (zj 0) := ⟨_, rfl⟩
  have w1 : zMW h1 := by rw [hh1]; exact w
  have g6 : gz h1 78 6 = L := by rw [hh1]; exact hL
  rw [← hh1] at k0 k1
  refine zCC_of (ls := [.ref 78, .int a1, .int a2, .int a3, .int a4, .int a5, .retAddr 0, .retAddr 0]) pf_X9_feed rfl (Nat.le_of_ble_eq_true rfl) ?_
  refine vb_X9_feed_0 _ _ _ ?_
  simp only [B_X9_feed_0, oPI, oPL, oILOAD, oLLOAD, oALOAD, oISTORE, oASTORE, oLSTORE, oIINC, oIADD, oISUB, oIMUL, oIAND, oIOR, oIXOR, oIDIV, oIREM, oISHL, oISHR, oIUSHR, oLADD, oLSUB, oLMUL, oLOR, oLDIV, oLREM, oLCMP, oLSHL, oINEG, oI2L, oL2I, oI2B, oI2C, oDUP, oPOP, oDUP2, oIFEQ, oICEQ, oIFNE, oICNE, oIFLT, oICLT, oIFGE, oICGE, oIFGT, oICGT, oIFLE, oICLE, oIFNULL, oIFNONNULL, oTSW, oLSW, oGETI, oGETL, oGETR, oPUTI, oPUTZ, oPUTL, oPUTR, oIALD, oBALD, oZALD, oLALD, oAALD, oALEN, oIAST, oBAST, oZAST, oLAST, oIRET, oZRET, oLRET, oVRET, oARET, oOBJ, oINI, oPS, oNEW, oNEWAI, oNEWAB, oNEWAZ, oNEWAL, oCOPY, oINV0, oINS0, oINV1, oINS1, oINV2, oINS2, oINV3, oINS3, oINV4, oINS4, oINV5, oINS5, oINV6, oINS6, List.getElem?_cons_zero, List.getElem?_cons_succ, List.set_cons_zero, List.set_cons_succ, znl, zs4, zc1, true_and, and_self, Value.category, Option.toList, List.cons_append, List.nil_append, zvr, mw_s w, mw_s79 w, mw_s80 w, mw_s81 w, mw_s82 w, mw_s83 w, mw_s84 w, mw_s85 w, mw_r5 w, mw_r15 w, mw_r16 w, mw_r17 w, mw_r18 w, mw_r21 w, mw_r22 w, zsh_pi]
  rw [← hh1, zgi_gz, g6, zj_add]
  simp (disch := omega) only [zj_le]
  refine ⟨fun c => ?_, fun c => k0 (by omega)⟩
  have k1 := k1 (by omega)
  refine vb_X9_feed_20 _ _ _ ?_
  simp only [B_X9_feed_20, oPI, oPL, oILOAD, oLLOAD, oALOAD, oISTORE, oASTORE, oLSTORE, oIINC, oIADD, oISUB, oIMUL, oIAND, oIOR, oIXOR, oIDIV, oIREM, oISHL, oISHR, oIUSHR, oLADD, oLSUB, oLMUL, oLOR, oLDIV, oLREM, oLCMP, oLSHL, oINEG, oI2L, oL2I, oI2B, oI2C, oDUP, oPOP, oDUP2, oIFEQ, oICEQ, oIFNE, oICNE, oIFLT, oICLT, oIFGE, oICGE, oIFGT, oICGT, oIFLE, oICLE, oIFNULL, oIFNONNULL, oTSW, oLSW, oGETI, oGETL, oGETR, oPUTI, oPUTZ, oPUTL, oPUTR, oIALD, oBALD, oZALD, oLALD, oAALD, oALEN, oIAST, oBAST, oZAST, oLAST, oIRET, oZRET, oLRET, oVRET, oARET, oOBJ, oINI, oPS, oNEW, oNEWAI, oNEWAB, oNEWAZ, oNEWAL, oCOPY, oINV0, oINS0, oINV1, oINS1, oINV2, oINS2, oINV3, oINS3, oINV4, oINS4, oINV5, oINS5, oINV6, oINS6, List.getElem?_cons_zero, List.getElem?_cons_succ, List.set_cons_zero, List.set_cons_succ, znl, zs4, zc1, true_and, and_self, Value.category, Option.toList, List.cons_append, List.nil_append, zvr]
  refine zdown (m := 20) (P := fun q => ∀ (h' : zHp) (z : Value), h'.1 = h1.1 → h'.2.2 = h1.2.2 → (∀ x y, x ≠ 79 → ¬ (x = 78 ∧ y = 6) → zgi h' x y = zgi h1 x y) → gz h' 78 6 = (L : Int) + q → (∀ y, y < L → zgi h' 79 y = zgi h1 79 y) → (∀ i : Nat, i < q → zgi h' 79 (L + i) = zbm8 (zar5 a1 a2 a3 a4 a5 (i / 4)) (24 - 8 * (i % 4))) → zV X M_X9_feed (zQm M_X9_feed R) 0 0 23 [.ref 78, .int a1, .int a2, .int a3, .int a4, .int a5, .int (zj q), z] [] h') (fun q hq ih h' z e1 e2 e3 e4 e5 e6 => ?_) 0 (by omega) h1 (.retAddr 0) rfl rfl (fun _ _ _ _ => rfl) (by rw [g6]; omega) (fun _ _ => rfl) (fun i hi => by omega)
  have w2 := w1.mv e1 e2
  refine vb_X9_feed_23 _ _ _ ?_
  simp only [B_X9_feed_23, oPI, oPL, oILOAD, oLLOAD, oALOAD, oISTORE, oASTORE, oLSTORE, oIINC, oIADD, oISUB, oIMUL, oIAND, oIOR, oIXOR, oIDIV, oIREM, oISHL, oISHR, oIUSHR, oLADD, oLSUB, oLMUL, oLOR, oLDIV, oLREM, oLCMP, oLSHL, oINEG, oI2L, oL2I, oI2B, oI2C, oDUP, oPOP, oDUP2, oIFEQ, oICEQ, oIFNE, oICNE, oIFLT, oICLT, oIFGE, oICGE, oIFGT, oICGT, oIFLE, oICLE, oIFNULL, oIFNONNULL, oTSW, oLSW, oGETI, oGETL, oGETR, oPUTI, oPUTZ, oPUTL, oPUTR, oIALD, oBALD, oZALD, oLALD, oAALD, oALEN, oIAST, oBAST, oZAST, oLAST, oIRET, oZRET, oLRET, oVRET, oARET, oOBJ, oINI, oPS, oNEW, oNEWAI, oNEWAB, oNEWAZ, oNEWAL, oCOPY, oINV0, oINS0, oINV1, oINS1, oINV2, oINS2, oINV3, oINS3, oINV4, oINS4, oINV5, oINS5, oINV6, oINS6, List.getElem?_cons_zero, List.getElem?_cons_succ, List.set_cons_zero, List.set_cons_succ, znl, zs4, zc1, true_and, and_self, Value.category, Option.toList, List.cons_append, List.nil_append, zvr, mw_s w2, mw_s79 w2, mw_s80 w2, mw_s81 w2, mw_s82 w2, mw_s83 w2, mw_s84 w2, mw_s85 w2, mw_r5 w2, mw_r15 w2, mw_r16 w2, mw_r17 w2, mw_r18 w2, mw_r21 w2, mw_r22 w2]
  by_cases c : q = 20
  · subst c
    refine ⟨fun _ => ?_, fun c => absurd (by decide) c⟩
    refine vb_X9_feed_117 _ _ _ ?_
    simp only [B_X9_feed_117, oPI, oPL, oILOAD, oLLOAD, oALOAD, oISTORE, oASTORE, oLSTORE, oIINC, oIADD, oISUB, oIMUL, oIAND, oIOR, oIXOR, oIDIV, oIREM, oISHL, oISHR, oIUSHR, oLADD, oLSUB, oLMUL, oLOR, oLDIV, oLREM, oLCMP, oLSHL, oINEG, oI2L, oL2I, oI2B, oI2C, oDUP, oPOP, oDUP2, oIFEQ, oICEQ, oIFNE, oICNE, oIFLT, oICLT, oIFGE, oICGE, oIFGT, oICGT, oIFLE, oICLE, oIFNULL, oIFNONNULL, oTSW, oLSW, oGETI, oGETL, oGETR, oPUTI, oPUTZ, oPUTL, oPUTR, oIALD, oBALD, oZALD, oLALD, oAALD, oALEN, oIAST, oBAST, oZAST, oLAST, oIRET, oZRET, oLRET, oVRET, oARET, oOBJ, oINI, oPS, oNEW, oNEWAI, oNEWAB, oNEWAZ, oNEWAL, oCOPY, oINV0, oINS0, oINV1, oINS1, oINV2, oINS2, oINV3, oINS3, oINV4, oINS4, oINV5, oINS5, oINV6, oINS6, List.getElem?_cons_zero, List.getElem?_cons_succ, List.set_cons_zero, List.set_cons_succ, znl, zs4, zc1, true_and, and_self, Value.category, Option.toList, List.cons_append, List.nil_append, zvr, mw_s w2, mw_s79 w2, mw_s80 w2, mw_s81 w2, mw_s82 w2, mw_s83 w2, mw_s84 w2, mw_s85 w2, mw_r5 w2, mw_r15 w2, mw_r16 w2, mw_r17 w2, mw_r18 w2, mw_r21 w2, mw_r22 w2]
    rw [zgi_gz, e4]
    exact k1 h' ⟨e1, e2, e3, e4, e5, e6⟩
  have ih := ih (by omega)
  have tail : zV X M_X9_feed (zQm M_X9_feed R) 0 0 76 [.ref 78, .int a1, .int a2, .int a3, .int a4, .int a5, .int (zj q), z] [.int (zar5 a1 a2 a3 a4 a5 (q / 4))] h' := by
    refine vb_X9_feed_76 _ _ _ ?_
    simp only [B_X9_feed_76, oPI, oPL, oILOAD, oLLOAD, oALOAD, oISTORE, oASTORE, oLSTORE, oIINC, oIADD, oISUB, oIMUL, oIAND, oIOR, oIXOR, oIDIV, oIREM, oISHL, oISHR, oIUSHR, oLADD, oLSUB, oLMUL, oLOR, oLDIV, oLREM, oLCMP, oLSHL, oINEG, oI2L, oL2I, oI2B, oI2C, oDUP, oPOP, oDUP2, oIFEQ, oICEQ, oIFNE, oICNE, oIFLT, oICLT, oIFGE, oICGE, oIFGT, oICGT, oIFLE, oICLE, oIFNULL, oIFNONNULL, oTSW, oLSW, oGETI, oGETL, oGETR, oPUTI, oPUTZ, oPUTL, oPUTR, oIALD, oBALD, oZALD, oLALD, oAALD, oALEN, oIAST, oBAST, oZAST, oLAST, oIRET, oZRET, oLRET, oVRET, oARET, oOBJ, oINI, oPS, oNEW, oNEWAI, oNEWAB, oNEWAZ, oNEWAL, oCOPY, oINV0, oINS0, oINV1, oINS1, oINV2, oINS2, oINV3, oINS3, oINV4, oINS4, oINV5, oINS5, oINV6, oINS6, List.getElem?_cons_zero, List.getElem?_cons_succ, List.set_cons_zero, List.set_cons_succ, znl, zs4, zc1, true_and, and_self, Value.category, Option.toList, List.cons_append, List.nil_append, zvr, mw_s w2, mw_s79 w2, mw_s80 w2, mw_s81 w2, mw_s82 w2, mw_s83 w2, mw_s84 w2, mw_s85 w2, mw_r5 w2, mw_r15 w2, mw_r16 w2, mw_r17 w2, mw_r18 w2, mw_r21 w2, mw_r22 w2, zsh_pi]
    rw [zgi_gz h' 78 6, e4, show (L : Int) + q = ((L + q : Nat) : Int) by omega, zj_cn (by omega), zj_remn (by omega) (by omega) (by omega) (by omega), zj_mul, zj_sub, show (24 : Int) - 8 * ((q : Int) % 4) = ((24 - 8 * (q % 4) : Nat) : Int) by omega]
    refine ⟨by decide, zj_in (by omega) (by omega) (by omega), ?_⟩
    have e8 : zgi (zpi h' 79 (L + q) (zbm8 (zar5 a1 a2 a3 a4 a5 (q / 4)) (24 - 8 * (q % 4)))) 78 6 = zj ((L + q : Nat) : Int) := by rw [zgi_pi, if_neg (by omega), zgi_gz, e4]; rfl
    unfold zbm8 at e8
    rw [z8_n, e8, zj_add, zj_add]
    refine ih _ _ e1 e2 (fun x y hx hy => ?_) ?_ (fun y hy => ?_) (fun i hi => ?_)
    · rw [zgi_pi, if_neg hy, zgi_pi, if_neg (by omega)]
      exact e3 x y hx hy
    · rw [gz_pi1 (by omega) (by omega)]
      omega
    · rw [zgi_pi, if_neg (by omega), zgi_pi, if_neg (by omega)]
      exact e5 y hy
    · rw [zgi_pi, if_neg (by omega), zgi_pi]
      by_cases c : i = q
      · subst c
        rw [if_pos ⟨rfl, rfl⟩]
        rfl
      · rw [if_neg (by omega)]
        exact e6 i (by omega)
  simp (disch := omega) only [zj_le]
  refine ⟨fun c => by omega, fun _ => ⟨fun c1 => ?_, fun c1 => ?_⟩⟩
  · refine vb_X9_feed_40 _ _ _ ?_
    simp only [B_X9_feed_40, oPI, oPL, oILOAD, oLLOAD, oALOAD, oISTORE, oASTORE, oLSTORE, oIINC, oIADD, oISUB, oIMUL, oIAND, oIOR, oIXOR, oIDIV, oIREM, oISHL, oISHR, oIUSHR, oLADD, oLSUB, oLMUL, oLOR, oLDIV, oLREM, oLCMP, oLSHL, oINEG, oI2L, oL2I, oI2B, oI2C, oDUP, oPOP, oDUP2, oIFEQ, oICEQ, oIFNE, oICNE, oIFLT, oICLT, oIFGE, oICGE, oIFGT, oICGT, oIFLE, oICLE, oIFNULL, oIFNONNULL, oTSW, oLSW, oGETI, oGETL, oGETR, oPUTI, oPUTZ, oPUTL, oPUTR, oIALD, oBALD, oZALD, oLALD, oAALD, oALEN, oIAST, oBAST, oZAST, oLAST, oIRET, oZRET, oLRET, oVRET, oARET, oOBJ, oINI, oPS, oNEW, oNEWAI, oNEWAB, oNEWAZ, oNEWAL, oCOPY, oINV0, oINS0, oINV1, oINS1, oINV2, oINS2, oINV3, oINS3, oINV4, oINS4, oINV5, oINS5, oINV6, oINS6, List.getElem?_cons_zero, List.getElem?_cons_succ, List.set_cons_zero, List.set_cons_succ, znl, zs4, zc1, true_and, and_self, Value.category, Option.toList, List.cons_append, List.nil_append, zvr]
    simp (disch := omega) only [zj_le]
    refine ⟨fun c2 => ?_, fun c2 => ?_⟩
    · refine vb_X9_feed_51 _ _ _ ?_
      simp only [B_X9_feed_51, oPI, oPL, oILOAD, oLLOAD, oALOAD, oISTORE, oASTORE, oLSTORE, oIINC, oIADD, oISUB, oIMUL, oIAND, oIOR, oIXOR, oIDIV, oIREM, oISHL, oISHR, oIUSHR, oLADD, oLSUB, oLMUL, oLOR, oLDIV, oLREM, oLCMP, oLSHL, oINEG, oI2L, oL2I, oI2B, oI2C, oDUP, oPOP, oDUP2, oIFEQ, oICEQ, oIFNE, oICNE, oIFLT, oICLT, oIFGE, oICGE, oIFGT, oICGT, oIFLE, oICLE, oIFNULL, oIFNONNULL, oTSW, oLSW, oGETI, oGETL, oGETR, oPUTI, oPUTZ, oPUTL, oPUTR, oIALD, oBALD, oZALD, oLALD, oAALD, oALEN, oIAST, oBAST, oZAST, oLAST, oIRET, oZRET, oLRET, oVRET, oARET, oOBJ, oINI, oPS, oNEW, oNEWAI, oNEWAB, oNEWAZ, oNEWAL, oCOPY, oINV0, oINS0, oINV1, oINS1, oINV2, oINS2, oINV3, oINS3, oINV4, oINS4, oINV5, oINS5, oINV6, oINS6, List.getElem?_cons_zero, List.getElem?_cons_succ, List.set_cons_zero, List.set_cons_succ, znl, zs4, zc1, true_and, and_self, Value.category, Option.toList, List.cons_append, List.nil_append, zvr]
      simp (disch := omega) only [zj_le]
      refine ⟨fun c3 => ?_, fun c3 => ?_⟩
      · refine vb_X9_feed_62 _ _ _ ?_
        simp only [B_X9_feed_62, oPI, oPL, oILOAD, oLLOAD, oALOAD, oISTORE, oASTORE, oLSTORE, oIINC, oIADD, oISUB, oIMUL, oIAND, oIOR, oIXOR, oIDIV, oIREM, oISHL, oISHR, oIUSHR, oLADD, oLSUB, oLMUL, oLOR, oLDIV, oLREM, oLCMP, oLSHL, oINEG, oI2L, oL2I, oI2B, oI2C, oDUP, oPOP, oDUP2, oIFEQ, oICEQ, oIFNE, oICNE, oIFLT, oICLT, oIFGE, oICGE, oIFGT, oICGT, oIFLE, oICLE, oIFNULL, oIFNONNULL, oTSW, oLSW, oGETI, oGETL, oGETR, oPUTI, oPUTZ, oPUTL, oPUTR, oIALD, oBALD, oZALD, oLALD, oAALD, oALEN, oIAST, oBAST, oZAST, oLAST, oIRET, oZRET, oLRET, oVRET, oARET, oOBJ, oINI, oPS, oNEW, oNEWAI, oNEWAB, oNEWAZ, oNEWAL, oCOPY, oINV0, oINS0, oINV1, oINS1, oINV2, oINS2, oINV3, oINS3, oINV4, oINS4, oINV5, oINS5, oINV6, oINS6, List.getElem?_cons_zero, List.getElem?_cons_succ, List.set_cons_zero, List.set_cons_succ, znl, zs4, zc1, true_and, and_self, Value.category, Option.toList, List.cons_append, List.nil_append, zvr]
        simp (disch := omega) only [zj_le]
        refine ⟨fun c4 => ?_, fun c4 => ?_⟩
        · refine vb_X9_feed_74 _ _ _ ?_
          simp only [B_X9_feed_74, oPI, oPL, oILOAD, oLLOAD, oALOAD, oISTORE, oASTORE, oLSTORE, oIINC, oIADD, oISUB, oIMUL, oIAND, oIOR, oIXOR, oIDIV, oIREM, oISHL, oISHR, oIUSHR, oLADD, oLSUB, oLMUL, oLOR, oLDIV, oLREM, oLCMP, oLSHL, oINEG, oI2L, oL2I, oI2B, oI2C, oDUP, oPOP, oDUP2, oIFEQ, oICEQ, oIFNE, oICNE, oIFLT, oICLT, oIFGE, oICGE, oIFGT, oICGT, oIFLE, oICLE, oIFNULL, oIFNONNULL, oTSW, oLSW, oGETI, oGETL, oGETR, oPUTI, oPUTZ, oPUTL, oPUTR, oIALD, oBALD, oZALD, oLALD, oAALD, oALEN, oIAST, oBAST, oZAST, oLAST, oIRET, oZRET, oLRET, oVRET, oARET, oOBJ, oINI, oPS, oNEW, oNEWAI, oNEWAB, oNEWAZ, oNEWAL, oCOPY, oINV0, oINS0, oINV1, oINS1, oINV2, oINS2, oINV3, oINS3, oINV4, oINS4, oINV5, oINS5, oINV6, oINS6, List.getElem?_cons_zero, List.getElem?_cons_succ, List.set_cons_zero, List.set_cons_succ, znl, zs4, zc1, true_and, and_self, Value.category, Option.toList, List.cons_append, List.nil_append, zvr]
          rw [show zar5 a1 a2 a3 a4 a5 (q / 4) = a5 by unfold zar5; rw [if_neg (by omega), if_neg (by omega), if_neg (by omega), if_neg (by omega)]] at tail
          exact tail
        · rw [show zar5 a1 a2 a3 a4 a5 (q / 4) = a4 by unfold zar5; rw [if_neg (by omega), if_neg (by omega), if_neg (by omega), if_pos (by omega)]] at tail
          exact tail
      · rw [show zar5 a1 a2 a3 a4 a5 (q / 4) = a3 by unfold zar5; rw [if_neg (by omega), if_neg (by omega), if_pos (by omega)]] at tail
        exact tail
    · rw [show zar5 a1 a2 a3 a4 a5 (q / 4) = a2 by unfold zar5; rw [if_neg (by omega), if_pos (by omega)]] at tail
      exact tail
  · rw [show zar5 a1 a2 a3 a4 a5 (q / 4) = a1 by unfold zar5; rw [if_pos (by omega)]] at tail
    exact tail
theorem st_feed {a1 a2 a3 a4 a5 : Int32} (I : zI h d p) (k : ∀ x h1, zsh h1 78 = some (.inl 9) → (∀ R2 : zRt, (∀ h2, zI h2 d p → R2 (some (.int x)) h2) → zCC X M_X9_feed [.ref 78, .int a1, .int a2, .int a3, .int a4, .int a5] h1 R2) → R (some (.int x)) h1) : zCC X M_X7_feed [.ref 16, .int a1, .int a2, .int a3, .int a4, .int a5] h R := by
  have tp := I.tp
  obtain ⟨L, hL⟩ : ∃ L : Nat, gz h 18 1 = L := ⟨(gz h 18 1).toNat, by have := tp.2.1; omega⟩
  have hL6 : gz h 78 6 = L := by rw [tp.1]; exact hL
  have hL8 : L ≤ 800 := by have := tp.2.1; omega
  refine cx_feed I.w hL hL8 (fun c => k _ _ (by first | exact I.s78 | exact I.s78q (zQh_gh h _ _ _ _) | exact I.s78q (zQh_sk h _ _ _ _)) (fun R2 k2 => ?_)) (fun c h1 f => k _ _ (I.s78e f.1) (fun R2 k2 => ?_))
  · exact cq_feed I.o.mw hL6 hL8 (fun _ => k2 _ I.t0) (fun c2 => by omega)
  · have w1 : zMW h1 := I.o.mw.mv f.1 f.2.1
    have g6 : gz h1 78 6 = L := by rw [show gz h1 78 6 = gz h 78 6 from congrArg Int32.toInt (f.2.2.1 78 6 (by omega) (by omega))]; exact hL6
    refine cq_feed w1 g6 hL8 (fun c2 => by omega) (fun _ h2 f2 => k2 h2 ?_)
    have e1 : h2.1 = h.1 := f2.1.trans f.1
    have e2 : h2.2.2 = h.2.2 := f2.2.1.trans f.2.1
    have e : ∀ x y, x ≠ 79 → x ≠ 19 → ¬ (x = 78 ∧ (y = 6 ∨ y = 0)) → ¬ (x = 18 ∧ y = 1) → zgi h2 x y = zgi h x y := fun x y q1 q2 q3 q4 => by
      rw [f2.2.2.1 x y q1 (by omega), zgi_pi, if_neg (by omega), f.2.2.1 x y q2 q4]
    have g : ∀ x y, x ≠ 79 → x ≠ 19 → ¬ (x = 78 ∧ (y = 6 ∨ y = 0)) → ¬ (x = 18 ∧ y = 1) → gz h2 x y = gz h x y := fun x y q1 q2 q3 q4 => congrArg Int32.toInt (e x y q1 q2 q3 q4)
    have Lq : zLq h h2 := ⟨e1, e2, fun x y hx => e x y (by omega) (by omega) (by omega) (by omega)⟩
    have hp := I.hp
    refine ⟨I.w.mv e1 e2, Lq.PV I.hp I.v, Lq.NV I.u, ?_, fun n hn s hs => ?_, zMu_mv I.o I.hp e1 e2 (fun x y hx => e x y (by omega) (by omega) (by omega) (by omega)), I.ac.mv (fun y q1 q2 => e 78 y (by omega) (by omega) (by omega) (by omega)) (fun x y hx => e x y (by omega) (by omega) (by omega) (by omega)), ?_, ?_, ?_, ?_, Lq.PV I.hd I.vd⟩
    · have := I.m
      unfold zMV at this ⊢
      rw [g 46 2 (by omega) (by omega) (by omega) (by omega), g 46 3 (by omega) (by omega) (by omega) (by omega), g 46 4 (by omega) (by omega) (by omega) (by omega)]
      exact this
    · rw [g (70 + n) s (by omega) (by omega) (by omega) (by omega)]
      exact I.r n hn s hs
    · have g18 : gz h2 18 1 = (L : Int) + 20 := by rw [show gz h2 18 1 = gz h1 18 1 from congrArg Int32.toInt (by rw [f2.2.2.1 18 1 (by omega) (by omega), zgi_pi, if_neg (by omega)])]; exact f.2.2.2.1
      have e19 : ∀ y, zgi h2 19 y = zgi h1 19 y := fun y => by rw [f2.2.2.1 19 y (by omega) (by omega), zgi_pi, if_neg (by omega)]
      have g19 : ∀ y, gz h2 19 y = gz h1 19 y := fun y => congrArg Int32.toInt (e19 y)
      refine ⟨by rw [f2.2.2.2.1, g18], by omega, fun i hi => ?_⟩
      rw [g18] at hi
      rw [e19, g19]
      by_cases ci : i < L
      · have t := tp.2.2 i (by omega)
        rw [f2.2.2.2.2.1 i ci, f.2.2.2.2.1 i ci, zgi_pi, if_neg (by omega), f.2.2.1 79 i (by omega) (by omega), show gz h1 19 i = gz h 19 i from congrArg Int32.toInt (f.2.2.2.2.1 i ci)]
        exact t
      · obtain ⟨q, rfl⟩ : ∃ q, i = L + q := ⟨i - L, by omega⟩
        have e9 := f.2.2.2.2.2 q (by omega)
        rw [f2.2.2.2.2.2 q (by omega), e9, show gz h1 19 (L + q) = _ from congrArg Int32.toInt e9]
        exact ⟨rfl, z8_b _⟩
    · have := I.tb
      unfold zTb at this ⊢
      rw [e 16 5 (by omega) (by omega) (by omega) (by omega), e 78 1 (by omega) (by omega) (by omega) (by omega), e 78 2 (by omega) (by omega) (by omega) (by omega), e 78 12 (by omega) (by omega) (by omega) (by omega), e 17 3 (by omega) (by omega) (by omega) (by omega), e 17 4 (by omega) (by omega) (by omega) (by omega)]
      exact this
    · have := I.ze
      unfold zZe at this ⊢
      rw [Lq.gz (x := p) (by omega), Lq.gz (x := p) (by omega), Lq.gz (x := p) (by omega), Lq.gz (x := p) (by omega), Lq.gz (x := p) (by omega), Lq.gz (x := 45) (by omega), g 46 2 (by omega) (by omega) (by omega) (by omega), g 46 4 (by omega) (by omega) (by omega) (by omega)]
      exact this
    · have := I.ex
      unfold znx zsh at this ⊢
      rw [e1]
      exact this
end ZFD
