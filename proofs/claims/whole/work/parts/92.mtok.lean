def tk_u (x : Int) : Int := if x < 0 then x + 256 else x
def tk_b (T : Nat → Int) (n i : Nat) : Int := if i < n then tk_u (T i) else -1
def zmk (d : Nat) : Int := if d = 4 then 0 else (d : Int) + 1
theorem tk_and {x : Int} (h1 : -128 ≤ x) (h2 : x ≤ 127) : zj x &&& zj 255 = zj (tk_u x) := by
  have : ∀ k : Fin 256, zj ((k.val : Int) - 128) &&& zj 255 = zj (tk_u ((k.val : Int) - 128)) := by decide +kernel
  have h := this ⟨(x + 128).toNat, by omega⟩
  have e : (((⟨(x + 128).toNat, by omega⟩ : Fin 256).val : Int) - 128) = x := by show ((x + 128).toNat : Int) - 128 = x; omega
  rw [e] at h
  exact h
theorem tk_c_sp {T : Nat → Int} {n : Nat} : ∀ f i m, i ≤ m → m < tk_c T n f i → T m = 32 ∧ m < n
  | 0, i, m, h1, h2 => by have h2 : m < i := h2; omega
  | f + 1, i, m, h1, h2 => by
    unfold tk_c at h2
    by_cases c : i < n ∧ T i = 32
    · rw [if_pos c] at h2
      by_cases e : m = i
      · rw [e]; exact ⟨c.2, c.1⟩
      · exact tk_c_sp f (i + 1) m (by omega) h2
    · rw [if_neg c] at h2; omega
section ZMT
variable {X : Nat × (Nat → Int32)} {R : zRt} {h h' h1 h2 : zHp} {d p : Nat} {T : Nat → Int} {n s : Nat}
theorem cm_byteAt {i : Nat} (w : zMW h) (hn : n ≤ 800) (hi : i ≤ 800) (he : gz h 78 7 = n) (hT : ∀ i : Nat, i < n → gz h 79 i = T i ∧ -128 ≤ T i ∧ T i ≤ 127) (k : R (some (.int (zj (tk_b T n i)))) h) : zCC X M_X9_byteAt [.ref 78, .int (zj i)] h R := by
  unfold tk_b at k
  refine zCC_of (ls := [.ref 78, .int (zj i)]) pf_X9_byteAt rfl (Nat.le_of_ble_eq_true rfl) ?_
  refine vb_X9_byteAt_0 _ _ _ ?_
  simp only [B_X9_byteAt_0, oPI, oPL, oILOAD, oLLOAD, oALOAD, oISTORE, oASTORE, oLSTORE, oIINC, oIADD, oISUB, oIMUL, oIAND, oIOR, oIXOR, oIDIV, oIREM, oISHL, oISHR, oIUSHR, oLADD, oLSUB, oLMUL, oLOR, oLDIV, oLREM, oLCMP, oLSHL, oINEG, oI2L, oL2I, oI2B, oI2C, oDUP, oPOP, oDUP2, oIFEQ, oICEQ, oIFNE, oICNE, oIFLT, oICLT, oIFGE, oICGE, oIFGT, oICGT, oIFLE, oICLE, oIFNULL, oIFNONNULL, oTSW, oLSW, oGETI, oGETL, oGETR, oPUTI, oPUTZ, oPUTL, oPUTR, oIALD, oBALD, oZALD, oLALD, oAALD, oALEN, oIAST, oBAST, oZAST, oLAST, oIRET, oZRET, oLRET, oVRET, oARET, oOBJ, oINI, oPS, oNEW, oNEWAI, oNEWAB, oNEWAZ, oNEWAL, oCOPY, oINV0, oINS0, oINV1, oINS1, oINV2, oINS2, oINV3, oINS3, oINV4, oINS4, oINV5, oINS5, oINV6, oINS6, List.getElem?_cons_zero, List.getElem?_cons_succ, List.set_cons_zero, List.set_cons_succ, znl, zs4, zc1, true_and, and_self, Value.category, Option.toList, List.cons_append, List.nil_append, zvr, mw_s w, mw_s79 w, mw_s80 w, mw_s81 w, mw_s82 w, mw_s83 w, mw_s84 w, mw_s85 w, mw_r5 w, mw_r15 w, mw_r16 w, mw_r17 w, mw_r18 w, mw_r21 w, mw_r22 w]
  rw [zgi_gz h 78 7, he]
  try simp (disch := omega) only [zgi_gz, zj_cn, zj_lt, zj_le, zj_eq, zj_add, zj_sub, zj_mul, zj_neg, zj_lt0, zj_le0, zj_0le, zj_0lt, zj_eq0, zb_0, zb_z, Classical.not_not, Int.zero_add, Int.add_zero, zj_remn, zj_divn]
  refine ⟨fun c => ?_, fun c => ?_⟩
  · rw [if_neg (by omega)] at k
    refine vb_X9_byteAt_21 _ _ _ ?_
    simp only [B_X9_byteAt_21, oPI, oPL, oILOAD, oLLOAD, oALOAD, oISTORE, oASTORE, oLSTORE, oIINC, oIADD, oISUB, oIMUL, oIAND, oIOR, oIXOR, oIDIV, oIREM, oISHL, oISHR, oIUSHR, oLADD, oLSUB, oLMUL, oLOR, oLDIV, oLREM, oLCMP, oLSHL, oINEG, oI2L, oL2I, oI2B, oI2C, oDUP, oPOP, oDUP2, oIFEQ, oICEQ, oIFNE, oICNE, oIFLT, oICLT, oIFGE, oICGE, oIFGT, oICGT, oIFLE, oICLE, oIFNULL, oIFNONNULL, oTSW, oLSW, oGETI, oGETL, oGETR, oPUTI, oPUTZ, oPUTL, oPUTR, oIALD, oBALD, oZALD, oLALD, oAALD, oALEN, oIAST, oBAST, oZAST, oLAST, oIRET, oZRET, oLRET, oVRET, oARET, oOBJ, oINI, oPS, oNEW, oNEWAI, oNEWAB, oNEWAZ, oNEWAL, oCOPY, oINV0, oINS0, oINV1, oINS1, oINV2, oINS2, oINV3, oINS3, oINV4, oINS4, oINV5, oINS5, oINV6, oINS6, List.getElem?_cons_zero, List.getElem?_cons_succ, List.set_cons_zero, List.set_cons_succ, znl, zs4, zc1, true_and, and_self, Value.category, Option.toList, List.cons_append, List.nil_append, zvr]
    refine vb_X9_byteAt_22 _ _ _ ?_
    simp only [B_X9_byteAt_22, oPI, oPL, oILOAD, oLLOAD, oALOAD, oISTORE, oASTORE, oLSTORE, oIINC, oIADD, oISUB, oIMUL, oIAND, oIOR, oIXOR, oIDIV, oIREM, oISHL, oISHR, oIUSHR, oLADD, oLSUB, oLMUL, oLOR, oLDIV, oLREM, oLCMP, oLSHL, oINEG, oI2L, oL2I, oI2B, oI2C, oDUP, oPOP, oDUP2, oIFEQ, oICEQ, oIFNE, oICNE, oIFLT, oICLT, oIFGE, oICGE, oIFGT, oICGT, oIFLE, oICLE, oIFNULL, oIFNONNULL, oTSW, oLSW, oGETI, oGETL, oGETR, oPUTI, oPUTZ, oPUTL, oPUTR, oIALD, oBALD, oZALD, oLALD, oAALD, oALEN, oIAST, oBAST, oZAST, oLAST, oIRET, oZRET, oLRET, oVRET, oARET, oOBJ, oINI, oPS, oNEW, oNEWAI, oNEWAB, oNEWAZ, oNEWAL, oCOPY, oINV0, oINS0, oINV1, oINS1, oINV2, oINS2, oINV3, oINS3, oINV4, oINS4, oINV5, oINS5, oINV6, oINS6, List.getElem?_cons_zero, List.getElem?_cons_succ, List.set_cons_zero, List.set_cons_succ, znl, zs4, zc1, true_and, and_self, Value.category, Option.toList, List.cons_append, List.nil_append, zvr]
    exact k
  · rw [if_pos (by omega)] at k
    have t := hT i (by omega)
    try rw [zj_cn (by omega)]
    rw [t.1, tk_and t.2.1 t.2.2]
    refine ⟨zj_in (by omega) (by omega) (by omega), ?_⟩
    refine vb_X9_byteAt_22 _ _ _ ?_
    simp only [B_X9_byteAt_22, oPI, oPL, oILOAD, oLLOAD, oALOAD, oISTORE, oASTORE, oLSTORE, oIINC, oIADD, oISUB, oIMUL, oIAND, oIOR, oIXOR, oIDIV, oIREM, oISHL, oISHR, oIUSHR, oLADD, oLSUB, oLMUL, oLOR, oLDIV, oLREM, oLCMP, oLSHL, oINEG, oI2L, oL2I, oI2B, oI2C, oDUP, oPOP, oDUP2, oIFEQ, oICEQ, oIFNE, oICNE, oIFLT, oICLT, oIFGE, oICGE, oIFGT, oICGT, oIFLE, oICLE, oIFNULL, oIFNONNULL, oTSW, oLSW, oGETI, oGETL, oGETR, oPUTI, oPUTZ, oPUTL, oPUTR, oIALD, oBALD, oZALD, oLALD, oAALD, oALEN, oIAST, oBAST, oZAST, oLAST, oIRET, oZRET, oLRET, oVRET, oARET, oOBJ, oINI, oPS, oNEW, oNEWAI, oNEWAB, oNEWAZ, oNEWAL, oCOPY, oINV0, oINS0, oINV1, oINS1, oINV2, oINS2, oINV3, oINS3, oINV4, oINS4, oINV5, oINS5, oINV6, oINS6, List.getElem?_cons_zero, List.getElem?_cons_succ, List.set_cons_zero, List.set_cons_succ, znl, zs4, zc1, true_and, and_self, Value.category, Option.toList, List.cons_append, List.nil_append, zvr]
    exact k
theorem cm_isLetter {x : Int} (h1 : -2147483648 ≤ x) (h2 : x < 2147483648) (k : R (some (.int (zb (97 ≤ x ∧ x ≤ 122)))) h) : zCC X M_X9_isLetter [.int (zj x)] h R := by
  refine zCC_of (ls := [.int (zj x)]) pf_X9_isLetter rfl (Nat.le_of_ble_eq_true rfl) ?_
  refine vb_X9_isLetter_0 _ _ _ ?_
  simp only [B_X9_isLetter_0, oPI, oPL, oILOAD, oLLOAD, oALOAD, oISTORE, oASTORE, oLSTORE, oIINC, oIADD, oISUB, oIMUL, oIAND, oIOR, oIXOR, oIDIV, oIREM, oISHL, oISHR, oIUSHR, oLADD, oLSUB, oLMUL, oLOR, oLDIV, oLREM, oLCMP, oLSHL, oINEG, oI2L, oL2I, oI2B, oI2C, oDUP, oPOP, oDUP2, oIFEQ, oICEQ, oIFNE, oICNE, oIFLT, oICLT, oIFGE, oICGE, oIFGT, oICGT, oIFLE, oICLE, oIFNULL, oIFNONNULL, oTSW, oLSW, oGETI, oGETL, oGETR, oPUTI, oPUTZ, oPUTL, oPUTR, oIALD, oBALD, oZALD, oLALD, oAALD, oALEN, oIAST, oBAST, oZAST, oLAST, oIRET, oZRET, oLRET, oVRET, oARET, oOBJ, oINI, oPS, oNEW, oNEWAI, oNEWAB, oNEWAZ, oNEWAL, oCOPY, oINV0, oINS0, oINV1, oINS1, oINV2, oINS2, oINV3, oINS3, oINV4, oINS4, oINV5, oINS5, oINV6, oINS6, List.getElem?_cons_zero, List.getElem?_cons_succ, List.set_cons_zero, List.set_cons_succ, znl, zs4, zc1, true_and, and_self, Value.category, Option.toList, List.cons_append, List.nil_append, zvr]
  try simp (disch := omega) only [zgi_gz, zj_cn, zj_lt, zj_le, zj_eq, zj_add, zj_sub, zj_mul, zj_neg, zj_lt0, zj_le0, zj_0le, zj_0lt, zj_eq0, zb_0, zb_z, Classical.not_not, Int.zero_add, Int.add_zero, zj_remn, zj_divn]
  have no : ¬ (97 ≤ x ∧ x ≤ 122) → zV X M_X9_isLetter (zQm M_X9_isLetter R) 0 0 16 [.int (zj x)] [] h := fun c => by
    rw [zb_f c] at k
    refine vb_X9_isLetter_16 _ _ _ ?_
    simp only [B_X9_isLetter_16, oPI, oPL, oILOAD, oLLOAD, oALOAD, oISTORE, oASTORE, oLSTORE, oIINC, oIADD, oISUB, oIMUL, oIAND, oIOR, oIXOR, oIDIV, oIREM, oISHL, oISHR, oIUSHR, oLADD, oLSUB, oLMUL, oLOR, oLDIV, oLREM, oLCMP, oLSHL, oINEG, oI2L, oL2I, oI2B, oI2C, oDUP, oPOP, oDUP2, oIFEQ, oICEQ, oIFNE, oICNE, oIFLT, oICLT, oIFGE, oICGE, oIFGT, oICGT, oIFLE, oICLE, oIFNULL, oIFNONNULL, oTSW, oLSW, oGETI, oGETL, oGETR, oPUTI, oPUTZ, oPUTL, oPUTR, oIALD, oBALD, oZALD, oLALD, oAALD, oALEN, oIAST, oBAST, oZAST, oLAST, oIRET, oZRET, oLRET, oVRET, oARET, oOBJ, oINI, oPS, oNEW, oNEWAI, oNEWAB, oNEWAZ, oNEWAL, oCOPY, oINV0, oINS0, oINV1, oINS1, oINV2, oINS2, oINV3, oINS3, oINV4, oINS4, oINV5, oINS5, oINV6, oINS6, List.getElem?_cons_zero, List.getElem?_cons_succ, List.set_cons_zero, List.set_cons_succ, znl, zs4, zc1, true_and, and_self, Value.category, Option.toList, List.cons_append, List.nil_append, zvr]
    refine vb_X9_isLetter_17 _ _ _ ?_
    simp only [B_X9_isLetter_17, oPI, oPL, oILOAD, oLLOAD, oALOAD, oISTORE, oASTORE, oLSTORE, oIINC, oIADD, oISUB, oIMUL, oIAND, oIOR, oIXOR, oIDIV, oIREM, oISHL, oISHR, oIUSHR, oLADD, oLSUB, oLMUL, oLOR, oLDIV, oLREM, oLCMP, oLSHL, oINEG, oI2L, oL2I, oI2B, oI2C, oDUP, oPOP, oDUP2, oIFEQ, oICEQ, oIFNE, oICNE, oIFLT, oICLT, oIFGE, oICGE, oIFGT, oICGT, oIFLE, oICLE, oIFNULL, oIFNONNULL, oTSW, oLSW, oGETI, oGETL, oGETR, oPUTI, oPUTZ, oPUTL, oPUTR, oIALD, oBALD, oZALD, oLALD, oAALD, oALEN, oIAST, oBAST, oZAST, oLAST, oIRET, oZRET, oLRET, oVRET, oARET, oOBJ, oINI, oPS, oNEW, oNEWAI, oNEWAB, oNEWAZ, oNEWAL, oCOPY, oINV0, oINS0, oINV1, oINS1, oINV2, oINS2, oINV3, oINS3, oINV4, oINS4, oINV5, oINS5, oINV6, oINS6, List.getElem?_cons_zero, List.getElem?_cons_succ, List.set_cons_zero, List.set_cons_succ, znl, zs4, zc1, true_and, and_self, Value.category, Option.toList, List.cons_append, List.nil_append, zvr]
    exact ⟨(by first | exact Or.inl rfl | exact Or.inr rfl | simp), k⟩
  refine ⟨fun c => no (by omega), fun c => ⟨fun c2 => no (by omega), fun c2 => ?_⟩⟩
  rw [zb_t (by omega)] at k
  refine vb_X9_isLetter_17 _ _ _ ?_
  simp only [B_X9_isLetter_17, oPI, oPL, oILOAD, oLLOAD, oALOAD, oISTORE, oASTORE, oLSTORE, oIINC, oIADD, oISUB, oIMUL, oIAND, oIOR, oIXOR, oIDIV, oIREM, oISHL, oISHR, oIUSHR, oLADD, oLSUB, oLMUL, oLOR, oLDIV, oLREM, oLCMP, oLSHL, oINEG, oI2L, oL2I, oI2B, oI2C, oDUP, oPOP, oDUP2, oIFEQ, oICEQ, oIFNE, oICNE, oIFLT, oICLT, oIFGE, oICGE, oIFGT, oICGT, oIFLE, oICLE, oIFNULL, oIFNONNULL, oTSW, oLSW, oGETI, oGETL, oGETR, oPUTI, oPUTZ, oPUTL, oPUTR, oIALD, oBALD, oZALD, oLALD, oAALD, oALEN, oIAST, oBAST, oZAST, oLAST, oIRET, oZRET, oLRET, oVRET, oARET, oOBJ, oINI, oPS, oNEW, oNEWAI, oNEWAB, oNEWAZ, oNEWAL, oCOPY, oINV0, oINS0, oINV1, oINS1, oINV2, oINS2, oINV3, oINS3, oINV4, oINS4, oINV5, oINS5, oINV6, oINS6, List.getElem?_cons_zero, List.getElem?_cons_succ, List.set_cons_zero, List.set_cons_succ, znl, zs4, zc1, true_and, and_self, Value.category, Option.toList, List.cons_append, List.nil_append, zvr]
  exact ⟨(by first | exact Or.inl rfl | exact Or.inr rfl | simp), k⟩
theorem cm_isDigit {x : Int} (h1 : -2147483648 ≤ x) (h2 : x < 2147483648) (k : R (some (.int (zb (48 ≤ x ∧ x ≤ 57)))) h) : zCC X M_X9_isDigit [.int (zj x)] h R := by
  refine zCC_of (ls := [.int (zj x)]) pf_X9_isDigit rfl (Nat.le_of_ble_eq_true rfl) ?_
  refine vb_X9_isDigit_0 _ _ _ ?_
  simp only [B_X9_isDigit_0, oPI, oPL, oILOAD, oLLOAD, oALOAD, oISTORE, oASTORE, oLSTORE, oIINC, oIADD, oISUB, oIMUL, oIAND, oIOR, oIXOR, oIDIV, oIREM, oISHL, oISHR, oIUSHR, oLADD, oLSUB, oLMUL, oLOR, oLDIV, oLREM, oLCMP, oLSHL, oINEG, oI2L, oL2I, oI2B, oI2C, oDUP, oPOP, oDUP2, oIFEQ, oICEQ, oIFNE, oICNE, oIFLT, oICLT, oIFGE, oICGE, oIFGT, oICGT, oIFLE, oICLE, oIFNULL, oIFNONNULL, oTSW, oLSW, oGETI, oGETL, oGETR, oPUTI, oPUTZ, oPUTL, oPUTR, oIALD, oBALD, oZALD, oLALD, oAALD, oALEN, oIAST, oBAST, oZAST, oLAST, oIRET, oZRET, oLRET, oVRET, oARET, oOBJ, oINI, oPS, oNEW, oNEWAI, oNEWAB, oNEWAZ, oNEWAL, oCOPY, oINV0, oINS0, oINV1, oINS1, oINV2, oINS2, oINV3, oINS3, oINV4, oINS4, oINV5, oINS5, oINV6, oINS6, List.getElem?_cons_zero, List.getElem?_cons_succ, List.set_cons_zero, List.set_cons_succ, znl, zs4, zc1, true_and, and_self, Value.category, Option.toList, List.cons_append, List.nil_append, zvr]
  try simp (disch := omega) only [zgi_gz, zj_cn, zj_lt, zj_le, zj_eq, zj_add, zj_sub, zj_mul, zj_neg, zj_lt0, zj_le0, zj_0le, zj_0lt, zj_eq0, zb_0, zb_z, Classical.not_not, Int.zero_add, Int.add_zero, zj_remn, zj_divn]
  have no : ¬ (48 ≤ x ∧ x ≤ 57) → zV X M_X9_isDigit (zQm M_X9_isDigit R) 0 0 16 [.int (zj x)] [] h := fun c => by
    rw [zb_f c] at k
    refine vb_X9_isDigit_16 _ _ _ ?_
    simp only [B_X9_isDigit_16, oPI, oPL, oILOAD, oLLOAD, oALOAD, oISTORE, oASTORE, oLSTORE, oIINC, oIADD, oISUB, oIMUL, oIAND, oIOR, oIXOR, oIDIV, oIREM, oISHL, oISHR, oIUSHR, oLADD, oLSUB, oLMUL, oLOR, oLDIV, oLREM, oLCMP, oLSHL, oINEG, oI2L, oL2I, oI2B, oI2C, oDUP, oPOP, oDUP2, oIFEQ, oICEQ, oIFNE, oICNE, oIFLT, oICLT, oIFGE, oICGE, oIFGT, oICGT, oIFLE, oICLE, oIFNULL, oIFNONNULL, oTSW, oLSW, oGETI, oGETL, oGETR, oPUTI, oPUTZ, oPUTL, oPUTR, oIALD, oBALD, oZALD, oLALD, oAALD, oALEN, oIAST, oBAST, oZAST, oLAST, oIRET, oZRET, oLRET, oVRET, oARET, oOBJ, oINI, oPS, oNEW, oNEWAI, oNEWAB, oNEWAZ, oNEWAL, oCOPY, oINV0, oINS0, oINV1, oINS1, oINV2, oINS2, oINV3, oINS3, oINV4, oINS4, oINV5, oINS5, oINV6, oINS6, List.getElem?_cons_zero, List.getElem?_cons_succ, List.set_cons_zero, List.set_cons_succ, znl, zs4, zc1, true_and, and_self, Value.category, Option.toList, List.cons_append, List.nil_append, zvr]
    refine vb_X9_isDigit_17 _ _ _ ?_
    simp only [B_X9_isDigit_17, oPI, oPL, oILOAD, oLLOAD, oALOAD, oISTORE, oASTORE, oLSTORE, oIINC, oIADD, oISUB, oIMUL, oIAND, oIOR, oIXOR, oIDIV, oIREM, oISHL, oISHR, oIUSHR, oLADD, oLSUB, oLMUL, oLOR, oLDIV, oLREM, oLCMP, oLSHL, oINEG, oI2L, oL2I, oI2B, oI2C, oDUP, oPOP, oDUP2, oIFEQ, oICEQ, oIFNE, oICNE, oIFLT, oICLT, oIFGE, oICGE, oIFGT, oICGT, oIFLE, oICLE, oIFNULL, oIFNONNULL, oTSW, oLSW, oGETI, oGETL, oGETR, oPUTI, oPUTZ, oPUTL, oPUTR, oIALD, oBALD, oZALD, oLALD, oAALD, oALEN, oIAST, oBAST, oZAST, oLAST, oIRET, oZRET, oLRET, oVRET, oARET, oOBJ, oINI, oPS, oNEW, oNEWAI, oNEWAB, oNEWAZ, oNEWAL, oCOPY, oINV0, oINS0, oINV1, oINS1, oINV2, oINS2, oINV3, oINS3, oINV4, oINS4, oINV5, oINS5, oINV6, oINS6, List.getElem?_cons_zero, List.getElem?_cons_succ, List.set_cons_zero, List.set_cons_succ, znl, zs4, zc1, true_and, and_self, Value.category, Option.toList, List.cons_append, List.nil_append, zvr]
    exact ⟨(by first | exact Or.inl rfl | exact Or.inr rfl | simp), k⟩
  refine ⟨fun c => no (by omega), fun c => ⟨fun c2 => no (by omega), fun c2 => ?_⟩⟩
  rw [zb_t (by omega)] at k
  refine vb_X9_isDigit_17 _ _ _ ?_
  simp only [B_X9_isDigit_17, oPI, oPL, oILOAD, oLLOAD, oALOAD, oISTORE, oASTORE, oLSTORE, oIINC, oIADD, oISUB, oIMUL, oIAND, oIOR, oIXOR, oIDIV, oIREM, oISHL, oISHR, oIUSHR, oLADD, oLSUB, oLMUL, oLOR, oLDIV, oLREM, oLCMP, oLSHL, oINEG, oI2L, oL2I, oI2B, oI2C, oDUP, oPOP, oDUP2, oIFEQ, oICEQ, oIFNE, oICNE, oIFLT, oICLT, oIFGE, oICGE, oIFGT, oICGT, oIFLE, oICLE, oIFNULL, oIFNONNULL, oTSW, oLSW, oGETI, oGETL, oGETR, oPUTI, oPUTZ, oPUTL, oPUTR, oIALD, oBALD, oZALD, oLALD, oAALD, oALEN, oIAST, oBAST, oZAST, oLAST, oIRET, oZRET, oLRET, oVRET, oARET, oOBJ, oINI, oPS, oNEW, oNEWAI, oNEWAB, oNEWAZ, oNEWAL, oCOPY, oINV0, oINS0, oINV1, oINS1, oINV2, oINS2, oINV3, oINS3, oINV4, oINS4, oINV5, oINS5, oINV6, oINS6, List.getElem?_cons_zero, List.getElem?_cons_succ, List.set_cons_zero, List.set_cons_succ, znl, zs4, zc1, true_and, and_self, Value.category, Option.toList, List.cons_append, List.nil_append, zvr]
  exact ⟨(by first | exact Or.inl rfl | exact Or.inr rfl | simp), k⟩
/-- the Model's tape with the token behind s read -/
def zTok (h : zHp) (T : Nat → Int) (n s : Nat) : Prop := gz h 78 9 = zmk (tk_d T n s) ∧ gz h 78 10 = tk_p T n s ∧ (¬ tk_d T n s = 4 → gz h 78 8 = tk_e T n s) ∧ (tk_d T n s = 1 → zgl h 78 14 = zk (zfo 32 96 (tk_w T n s) : Nat)) ∧ (tk_d T n s = 2 → gz h 78 11 = tk_v T n s)
def zNm (h h' : zHp) : Prop := h'.1 = h.1 ∧ h'.2.2.2 = h.2.2.2 ∧ (∀ x y, ¬ (x = 78 ∧ 8 ≤ y ∧ y ≤ 11) → zgi h' x y = zgi h x y) ∧ (∀ x y, ¬ (x = 78 ∧ y = 14) → zgl h' x y = zgl h x y)
theorem zNm.rf (h : zHp) : zNm h h := ⟨rfl, rfl, fun _ _ _ => rfl, fun _ _ _ => rfl⟩
theorem zNm.pi {j : Nat} {x : Int32} (a : zNm h h') (h1 : 8 ≤ j) (h2 : j ≤ 11) : zNm h (zpi h' 78 j x) := ⟨a.1, a.2.1, fun u y hn => by rw [zpi_o (by omega)]; exact a.2.2.1 u y hn, a.2.2.2⟩
theorem zNm.pl {x : Int64} (a : zNm h h') : zNm h (zpl h' 78 14 x) := ⟨a.1, a.2.1, a.2.2.1, fun u y hn => by rw [zplo hn]; exact a.2.2.2 u y hn⟩
theorem tk_b_b (T : Nat → Int) (n i : Nat) (hT : ∀ i : Nat, i < n → -128 ≤ T i ∧ T i ≤ 127) : -1 ≤ tk_b T n i ∧ tk_b T n i ≤ 255 ∧ (tk_b T n i = -1 ↔ n ≤ i) ∧ (tk_b T n i = 32 ↔ (i < n ∧ T i = 32)) ∧ ((97 ≤ tk_b T n i ∧ tk_b T n i ≤ 122) ↔ (i < n ∧ tk_n (T i) = 1)) ∧ ((48 ≤ tk_b T n i ∧ tk_b T n i ≤ 57) ↔ (i < n ∧ tk_n (T i) = 2)) ∧ (tk_b T n i = 59 ↔ (i < n ∧ tk_n (T i) = 3)) ∧ (i < n → 0 ≤ T i → tk_b T n i = T i) := by
  rw [tk_n_1, tk_n_2, tk_n_3]
  unfold tk_b tk_u
  by_cases c : i < n
  · have := hT i c
    rw [if_pos c]
    split <;> omega
  · rw [if_neg c]; omega
theorem cm_goesOn (w : zMW h) (hn : n ≤ 800) (hs : s ≤ n) (he : gz h 78 7 = n) (ha : gz h 78 8 = s) (h9 : 0 ≤ gz h 78 9 ∧ gz h 78 9 < 5) (hT : ∀ i : Nat, i < n → gz h 79 i = T i ∧ -128 ≤ T i ∧ T i ≤ 127) (k : ∀ h', zNm h h' → zTok h' T n s → R none h') : zCC X M_X9_goesOn [.ref 78] h R := by
  have hp := tk_p_b (T := T) hs
  have hen := tk_e_b (T := T) hs
  have hTr : ∀ i : Nat, i < n → -128 ≤ T i ∧ T i ≤ 127 := fun i hi => (hT i hi).2
  have hkb := tk_n_b (T (tk_p T n s))
  have tr : ∀ h1, zNm h h1 → zMW h1 ∧ gz h1 78 7 = n ∧ (∀ i : Nat, i < n → gz h1 79 i = T i ∧ -128 ≤ T i ∧ T i ≤ 127) := fun h1 a => ⟨w.mr a.1 a.2.1, by rw [show gz h1 78 7 = gz h 78 7 from congrArg Int32.toInt (a.2.2.1 78 7 (by omega))]; exact he, fun i hi => by rw [show gz h1 79 i = gz h 79 i from congrArg Int32.toInt (a.2.2.1 79 i (by omega))]; exact hT i hi⟩
  obtain ⟨P, hP⟩ : ∃ P, tk_p T n s = P := ⟨_, rfl⟩
  obtain ⟨E, hE⟩ : ∃ E, tk_e T n s = E := ⟨_, rfl⟩
  obtain ⟨K, hK⟩ : ∃ K, tk_n (T P) = K := ⟨_, rfl⟩
  have dE : E = if n ≤ P then P else if K ≤ 2 then tk_r T n K n P else P + 1 := by rw [← hE, ← hK, ← hP]; rfl
  have dD : tk_d T n s = if n ≤ P then 0 else if K = 1 ∧ 8 < E - P then 4 else if K = 2 ∧ 3 < E - P then 4 else K := by rw [← hE, ← hK, ← hP]; rfl
  have dW : tk_w T n s = tk_s T P E := by rw [← hE, ← hP]; rfl
  have dV : tk_v T n s = zfo 10 48 (tk_s T P E) := by rw [← hE, ← hP]; rfl
  rw [hP] at hp hen hkb
  rw [hE] at hen
  rw [hK] at hkb
  have out : ∀ h1 z1 z2, zNm h h1 → gz h1 78 9 = zmk (tk_d T n s) → gz h1 78 10 = P → (¬ tk_d T n s = 4 → gz h1 78 8 = E) → (tk_d T n s = 1 → zgl h1 78 14 = zk (zfo 32 96 (tk_s T P E) : Nat)) → (tk_d T n s = 2 → gz h1 78 11 = zfo 10 48 (tk_s T P E)) → zV X M_X9_goesOn (zQm M_X9_goesOn R) 0 0 265 [.ref 78, z1, z2] [] h1 := fun h1 z1 z2 a q1 q2 q3 q4 q5 => by
    refine vb_X9_goesOn_265 _ _ _ ?_
    simp only [B_X9_goesOn_265, oPI, oPL, oILOAD, oLLOAD, oALOAD, oISTORE, oASTORE, oLSTORE, oIINC, oIADD, oISUB, oIMUL, oIAND, oIOR, oIXOR, oIDIV, oIREM, oISHL, oISHR, oIUSHR, oLADD, oLSUB, oLMUL, oLOR, oLDIV, oLREM, oLCMP, oLSHL, oINEG, oI2L, oL2I, oI2B, oI2C, oDUP, oPOP, oDUP2, oIFEQ, oICEQ, oIFNE, oICNE, oIFLT, oICLT, oIFGE, oICGE, oIFGT, oICGT, oIFLE, oICLE, oIFNULL, oIFNONNULL, oTSW, oLSW, oGETI, oGETL, oGETR, oPUTI, oPUTZ, oPUTL, oPUTR, oIALD, oBALD, oZALD, oLALD, oAALD, oALEN, oIAST, oBAST, oZAST, oLAST, oIRET, oZRET, oLRET, oVRET, oARET, oOBJ, oINI, oPS, oNEW, oNEWAI, oNEWAB, oNEWAZ, oNEWAL, oCOPY, oINV0, oINS0, oINV1, oINS1, oINV2, oINS2, oINV3, oINS3, oINV4, oINS4, oINV5, oINS5, oINV6, oINS6, List.getElem?_cons_zero, List.getElem?_cons_succ, List.set_cons_zero, List.set_cons_succ, znl, zs4, zc1, true_and, and_self, Value.category, Option.toList, List.cons_append, List.nil_append, zvr]
    exact k h1 a ⟨q1, by rw [hP]; exact q2, by rw [hE]; exact q3, by rw [dW]; exact q4, by rw [dV]; exact q5⟩
  have run : K ≤ 2 → ¬ n ≤ P → (∀ j, P ≤ j → j < E → j < n ∧ tk_n (T j) = K) ∧ ¬ (E < n ∧ tk_n (T E) = K) ∧ P < E := fun c1 c2 => by
    rw [if_neg c2, if_pos c1] at dE
    have hb := tk_r_b (T := T) (n := n) (K := K) n P hp.2 (by omega)
    rw [← dE] at hb
    exact ⟨fun j q1 q2 => ⟨by omega, hb.2.2.2 j q1 q2⟩, fun q => hb.2.2.1 q.1 q.2, hen.2.2 (by omega)⟩
  -- letters
  have let84 : K = 1 → ¬ n ≤ P → ∀ j, j ≤ E → ∀ h1 (z1 : Int32), P ≤ j → zNm h h1 → gz h1 78 8 = j → gz h1 78 9 = 0 → gz h1 78 10 = P → (j - P ≤ 8 → zgl h1 78 14 = zk (zfo 32 96 (tk_s T P j) : Nat)) → zV X M_X9_goesOn (zQm M_X9_goesOn R) 0 0 84 [.ref 78, .int z1, .int (zj ((j - P : Nat) : Int))] [] h1 := fun c1 c2 => by
    have rn := run (by omega) c2
    rw [if_neg c2, c1] at dD
    refine zdown (P := fun j => ∀ h1 (z1 : Int32), P ≤ j → zNm h h1 → gz h1 78 8 = j → gz h1 78 9 = 0 → gz h1 78 10 = P → (j - P ≤ 8 → zgl h1 78 14 = zk (zfo 32 96 (tk_s T P j) : Nat)) → zV X M_X9_goesOn (zQm M_X9_goesOn R) 0 0 84 [.ref 78, .int z1, .int (zj ((j - P : Nat) : Int))] [] h1) (fun j hj ih h1 z1 hPj a e8 e9 e10 e14 => ?_)
    obtain ⟨w1, f7, f79⟩ := tr h1 a
    have bb := tk_b_b T n j hTr
    have e8' : zgi h1 78 8 = zj (j : Nat) := by rw [zgi_gz, e8]
    refine vb_X9_goesOn_84 _ _ _ ?_
    simp only [B_X9_goesOn_84, oPI, oPL, oILOAD, oLLOAD, oALOAD, oISTORE, oASTORE, oLSTORE, oIINC, oIADD, oISUB, oIMUL, oIAND, oIOR, oIXOR, oIDIV, oIREM, oISHL, oISHR, oIUSHR, oLADD, oLSUB, oLMUL, oLOR, oLDIV, oLREM, oLCMP, oLSHL, oINEG, oI2L, oL2I, oI2B, oI2C, oDUP, oPOP, oDUP2, oIFEQ, oICEQ, oIFNE, oICNE, oIFLT, oICLT, oIFGE, oICGE, oIFGT, oICGT, oIFLE, oICLE, oIFNULL, oIFNONNULL, oTSW, oLSW, oGETI, oGETL, oGETR, oPUTI, oPUTZ, oPUTL, oPUTR, oIALD, oBALD, oZALD, oLALD, oAALD, oALEN, oIAST, oBAST, oZAST, oLAST, oIRET, oZRET, oLRET, oVRET, oARET, oOBJ, oINI, oPS, oNEW, oNEWAI, oNEWAB, oNEWAZ, oNEWAL, oCOPY, oINV0, oINS0, oINV1, oINS1, oINV2, oINS2, oINV3, oINS3, oINV4, oINS4, oINV5, oINS5, oINV6, oINS6, List.getElem?_cons_zero, List.getElem?_cons_succ, List.set_cons_zero, List.set_cons_succ, znl, zs4, zc1, true_and, and_self, Value.category, Option.toList, List.cons_append, List.nil_append, zvr, mw_s w1, mw_s79 w1, mw_s80 w1, mw_s81 w1, mw_s82 w1, mw_s83 w1, mw_s84 w1, mw_s85 w1, mw_r5 w1, mw_r15 w1, mw_r16 w1, mw_r17 w1, mw_r18 w1, mw_r21 w1, mw_r22 w1]
    rw [e8']
    refine cm_byteAt w1 hn (by omega) f7 f79 ?_
    simp only [oPI, oPL, oILOAD, oLLOAD, oALOAD, oISTORE, oASTORE, oLSTORE, oIINC, oIADD, oISUB, oIMUL, oIAND, oIOR, oIXOR, oIDIV, oIREM, oISHL, oISHR, oIUSHR, oLADD, oLSUB, oLMUL, oLOR, oLDIV, oLREM, oLCMP, oLSHL, oINEG, oI2L, oL2I, oI2B, oI2C, oDUP, oPOP, oDUP2, oIFEQ, oICEQ, oIFNE, oICNE, oIFLT, oICLT, oIFGE, oICGE, oIFGT, oICGT, oIFLE, oICLE, oIFNULL, oIFNONNULL, oTSW, oLSW, oGETI, oGETL, oGETR, oPUTI, oPUTZ, oPUTL, oPUTR, oIALD, oBALD, oZALD, oLALD, oAALD, oALEN, oIAST, oBAST, oZAST, oLAST, oIRET, oZRET, oLRET, oVRET, oARET, oOBJ, oINI, oPS, oNEW, oNEWAI, oNEWAB, oNEWAZ, oNEWAL, oCOPY, oINV0, oINS0, oINV1, oINS1, oINV2, oINS2, oINV3, oINS3, oINV4, oINS4, oINV5, oINS5, oINV6, oINS6, List.getElem?_cons_zero, List.getElem?_cons_succ, List.set_cons_zero, List.set_cons_succ, znl, zs4, zc1, true_and, and_self, Value.category, Option.toList, List.cons_append, List.nil_append, zvr, mw_s w1, mw_s79 w1, mw_s80 w1, mw_s81 w1, mw_s82 w1, mw_s83 w1, mw_s84 w1, mw_s85 w1, mw_r5 w1, mw_r15 w1, mw_r16 w1, mw_r17 w1, mw_r18 w1, mw_r21 w1, mw_r22 w1]
    refine cm_isLetter (by omega) (by omega) ?_
    simp only [oPI, oPL, oILOAD, oLLOAD, oALOAD, oISTORE, oASTORE, oLSTORE, oIINC, oIADD, oISUB, oIMUL, oIAND, oIOR, oIXOR, oIDIV, oIREM, oISHL, oISHR, oIUSHR, oLADD, oLSUB, oLMUL, oLOR, oLDIV, oLREM, oLCMP, oLSHL, oINEG, oI2L, oL2I, oI2B, oI2C, oDUP, oPOP, oDUP2, oIFEQ, oICEQ, oIFNE, oICNE, oIFLT, oICLT, oIFGE, oICGE, oIFGT, oICGT, oIFLE, oICLE, oIFNULL, oIFNONNULL, oTSW, oLSW, oGETI, oGETL, oGETR, oPUTI, oPUTZ, oPUTL, oPUTR, oIALD, oBALD, oZALD, oLALD, oAALD, oALEN, oIAST, oBAST, oZAST, oLAST, oIRET, oZRET, oLRET, oVRET, oARET, oOBJ, oINI, oPS, oNEW, oNEWAI, oNEWAB, oNEWAZ, oNEWAL, oCOPY, oINV0, oINS0, oINV1, oINS1, oINV2, oINS2, oINV3, oINS3, oINV4, oINS4, oINV5, oINS5, oINV6, oINS6, List.getElem?_cons_zero, List.getElem?_cons_succ, List.set_cons_zero, List.set_cons_succ, znl, zs4, zc1, true_and, and_self, Value.category, Option.toList, List.cons_append, List.nil_append, zvr, mw_s w1, mw_s79 w1, mw_s80 w1, mw_s81 w1, mw_s82 w1, mw_s83 w1, mw_s84 w1, mw_s85 w1, mw_r5 w1, mw_r15 w1, mw_r16 w1, mw_r17 w1, mw_r18 w1, mw_r21 w1, mw_r22 w1]
    try simp (disch := omega) only [zgi_gz, zj_cn, zj_lt, zj_le, zj_eq, zj_add, zj_sub, zj_mul, zj_neg, zj_lt0, zj_le0, zj_0le, zj_0lt, zj_eq0, zb_0, zb_z, Classical.not_not, Int.zero_add, Int.add_zero, zj_remn, zj_divn]
    rw [bb.2.2.2.2.1]
    refine ⟨fun c => ?_, fun c => ?_⟩
    · have ej : j = E := by
        rcases Nat.lt_or_ge j E with q | q
        · have := rn.1 j hPj q
          rw [c1] at this
          exact absurd this c
        · omega
      refine vb_X9_goesOn_147 _ _ _ ?_
      simp only [B_X9_goesOn_147, oPI, oPL, oILOAD, oLLOAD, oALOAD, oISTORE, oASTORE, oLSTORE, oIINC, oIADD, oISUB, oIMUL, oIAND, oIOR, oIXOR, oIDIV, oIREM, oISHL, oISHR, oIUSHR, oLADD, oLSUB, oLMUL, oLOR, oLDIV, oLREM, oLCMP, oLSHL, oINEG, oI2L, oL2I, oI2B, oI2C, oDUP, oPOP, oDUP2, oIFEQ, oICEQ, oIFNE, oICNE, oIFLT, oICLT, oIFGE, oICGE, oIFGT, oICGT, oIFLE, oICLE, oIFNULL, oIFNONNULL, oTSW, oLSW, oGETI, oGETL, oGETR, oPUTI, oPUTZ, oPUTL, oPUTR, oIALD, oBALD, oZALD, oLALD, oAALD, oALEN, oIAST, oBAST, oZAST, oLAST, oIRET, oZRET, oLRET, oVRET, oARET, oOBJ, oINI, oPS, oNEW, oNEWAI, oNEWAB, oNEWAZ, oNEWAL, oCOPY, oINV0, oINS0, oINV1, oINS1, oINV2, oINS2, oINV3, oINS3, oINV4, oINS4, oINV5, oINS5, oINV6, oINS6, List.getElem?_cons_zero, List.getElem?_cons_succ, List.set_cons_zero, List.set_cons_succ, znl, zs4, zc1, true_and, and_self, Value.category, Option.toList, List.cons_append, List.nil_append, zvr, mw_s w1, mw_s79 w1, mw_s80 w1, mw_s81 w1, mw_s82 w1, mw_s83 w1, mw_s84 w1, mw_s85 w1, mw_r5 w1, mw_r15 w1, mw_r16 w1, mw_r17 w1, mw_r18 w1, mw_r21 w1, mw_r22 w1]
      try simp (disch := omega) only [zgi_gz, zj_cn, zj_lt, zj_le, zj_eq, zj_add, zj_sub, zj_mul, zj_neg, zj_lt0, zj_le0, zj_0le, zj_0lt, zj_eq0, zb_0, zb_z, Classical.not_not, Int.zero_add, Int.add_zero, zj_remn, zj_divn]
      refine ⟨fun c3 => ?_, fun c3 => ?_⟩
      · have d4 : tk_d T n s = 4 := by rw [dD, if_pos ⟨rfl, by omega⟩]
        exact out h1 _ _ a (by rw [e9, d4]; rfl) e10 (fun z => absurd d4 z) (fun z => by omega) (fun z => by omega)
      · have d4 : tk_d T n s = 1 := by rw [dD, if_neg (by omega), if_neg (by omega)]
        refine out _ _ _ (a.pi (j := 9) (by omega) (by omega)) ?_ ?_ (fun _ => ?_) (fun _ => ?_) (fun z => by omega)
        · rw [gz_pi1 (by omega) (by omega), d4]; rfl
        · rw [gz_pi0 (by omega)]; exact e10
        · rw [gz_pi0 (by omega), e8, ej]
        · rw [← ej]; exact e14 (by omega)
    · have jE : j < E := by
        rcases Nat.lt_or_ge j E with q | q
        · exact q
        · have : j = E := by omega
          rw [this, ← c1] at c
          exact absurd c rn.2.1
      have hl := tk_n_1.mp c.2
      have hb := bb.2.2.2.2.2.2.2 c.1 (by omega)
      have n131 : ∀ h2, zNm h h2 → gz h2 78 8 = j → gz h2 78 9 = 0 → gz h2 78 10 = P → (j + 1 - P ≤ 8 → zgl h2 78 14 = zk (zfo 32 96 (tk_s T P (j + 1)) : Nat)) → zV X M_X9_goesOn (zQm M_X9_goesOn R) 0 0 131 [.ref 78, .int z1, .int (zj ((j - P : Nat) : Int))] [] h2 := fun h2 a2 g8 g9 g10 g14 => by
        obtain ⟨w2, -, -⟩ := tr h2 a2
        refine vb_X9_goesOn_131 _ _ _ ?_
        simp only [B_X9_goesOn_131, oPI, oPL, oILOAD, oLLOAD, oALOAD, oISTORE, oASTORE, oLSTORE, oIINC, oIADD, oISUB, oIMUL, oIAND, oIOR, oIXOR, oIDIV, oIREM, oISHL, oISHR, oIUSHR, oLADD, oLSUB, oLMUL, oLOR, oLDIV, oLREM, oLCMP, oLSHL, oINEG, oI2L, oL2I, oI2B, oI2C, oDUP, oPOP, oDUP2, oIFEQ, oICEQ, oIFNE, oICNE, oIFLT, oICLT, oIFGE, oICGE, oIFGT, oICGT, oIFLE, oICLE, oIFNULL, oIFNONNULL, oTSW, oLSW, oGETI, oGETL, oGETR, oPUTI, oPUTZ, oPUTL, oPUTR, oIALD, oBALD, oZALD, oLALD, oAALD, oALEN, oIAST, oBAST, oZAST, oLAST, oIRET, oZRET, oLRET, oVRET, oARET, oOBJ, oINI, oPS, oNEW, oNEWAI, oNEWAB, oNEWAZ, oNEWAL, oCOPY, oINV0, oINS0, oINV1, oINS1, oINV2, oINS2, oINV3, oINS3, oINV4, oINS4, oINV5, oINS5, oINV6, oINS6, List.getElem?_cons_zero, List.getElem?_cons_succ, List.set_cons_zero, List.set_cons_succ, znl, zs4, zc1, true_and, and_self, Value.category, Option.toList, List.cons_append, List.nil_append, zvr, mw_s w2, mw_s79 w2, mw_s80 w2, mw_s81 w2, mw_s82 w2, mw_s83 w2, mw_s84 w2, mw_s85 w2, mw_r5 w2, mw_r15 w2, mw_r16 w2, mw_r17 w2, mw_r18 w2, mw_r21 w2, mw_r22 w2]
        rw [zgi_gz h2 78 8, g8, zj_add, zj_add, show ((j - P : Nat) : Int) + 1 = ((j + 1 - P : Nat) : Int) by omega]
        refine ih jE _ _ (by omega) (a2.pi (j := 8) (by omega) (by omega)) ?_ ?_ ?_ ?_
        · rw [gz_pi1 (by omega) (by omega)]; omega
        · rw [gz_pi0 (by omega)]; exact g9
        · rw [gz_pi0 (by omega)]; exact g10
        · exact g14
      refine ⟨fun c3 => n131 h1 a e8 e9 e10 (fun z => by omega), fun c3 => ?_⟩
      rw [e8]
      refine cm_byteAt w1 hn (by omega) f7 f79 ?_
      simp only [oPI, oPL, oILOAD, oLLOAD, oALOAD, oISTORE, oASTORE, oLSTORE, oIINC, oIADD, oISUB, oIMUL, oIAND, oIOR, oIXOR, oIDIV, oIREM, oISHL, oISHR, oIUSHR, oLADD, oLSUB, oLMUL, oLOR, oLDIV, oLREM, oLCMP, oLSHL, oINEG, oI2L, oL2I, oI2B, oI2C, oDUP, oPOP, oDUP2, oIFEQ, oICEQ, oIFNE, oICNE, oIFLT, oICLT, oIFGE, oICGE, oIFGT, oICGT, oIFLE, oICLE, oIFNULL, oIFNONNULL, oTSW, oLSW, oGETI, oGETL, oGETR, oPUTI, oPUTZ, oPUTL, oPUTR, oIALD, oBALD, oZALD, oLALD, oAALD, oALEN, oIAST, oBAST, oZAST, oLAST, oIRET, oZRET, oLRET, oVRET, oARET, oOBJ, oINI, oPS, oNEW, oNEWAI, oNEWAB, oNEWAZ, oNEWAL, oCOPY, oINV0, oINS0, oINV1, oINS1, oINV2, oINS2, oINV3, oINS3, oINV4, oINS4, oINV5, oINS5, oINV6, oINS6, List.getElem?_cons_zero, List.getElem?_cons_succ, List.set_cons_zero, List.set_cons_succ, znl, zs4, zc1, true_and, and_self, Value.category, Option.toList, List.cons_append, List.nil_append, zvr, mw_s w1, mw_s79 w1, mw_s80 w1, mw_s81 w1, mw_s82 w1, mw_s83 w1, mw_s84 w1, mw_s85 w1, mw_r5 w1, mw_r15 w1, mw_r16 w1, mw_r17 w1, mw_r18 w1, mw_r21 w1, mw_r22 w1]
      have hlet : ∀ c ∈ tk_s T P j, 97 ≤ c ∧ c ≤ 122 := fun c hc => by
        obtain ⟨m, a1, a2, a3⟩ := tk_s_mem hc
        have hk2 := (rn.1 m a1 (by omega)).2
        rw [c1] at hk2
        have := tk_n_1.mp hk2
        omega
      have hz : zk 32 * zgl h1 78 14 + (zj (tk_b T n j) - zj 97 + zj 1).toInt64 = zk (zfo 32 96 (tk_s T P (j + 1)) : Nat) := by
        rw [e14 (by omega), hb, zj_sub, zj_add, zj_k (by omega) (by omega), zk_mul, zk_add, tk_s_s hPj, zfo_app]
        congr 1
        omega
      rw [hz]
      refine n131 _ a.pl ?_ ?_ ?_ (fun _ => zpl_s)
      · exact e8
      · exact e9
      · exact e10
  -- digits
  have dig173 : K = 2 → ¬ n ≤ P → ∀ j, j ≤ E → ∀ h1 (z1 : Int32), P ≤ j → zNm h h1 → gz h1 78 8 = j → gz h1 78 9 = 0 → gz h1 78 10 = P → (j - P ≤ 3 → gz h1 78 11 = zfo 10 48 (tk_s T P j)) → zV X M_X9_goesOn (zQm M_X9_goesOn R) 0 0 173 [.ref 78, .int z1, .int (zj ((j - P : Nat) : Int))] [] h1 := fun c1 c2 => by
    have rn := run (by omega) c2
    rw [if_neg c2, c1] at dD
    refine zdown (P := fun j => ∀ h1 (z1 : Int32), P ≤ j → zNm h h1 → gz h1 78 8 = j → gz h1 78 9 = 0 → gz h1 78 10 = P → (j - P ≤ 3 → gz h1 78 11 = zfo 10 48 (tk_s T P j)) → zV X M_X9_goesOn (zQm M_X9_goesOn R) 0 0 173 [.ref 78, .int z1, .int (zj ((j - P : Nat) : Int))] [] h1) (fun j hj ih h1 z1 hPj a e8 e9 e10 e11 => ?_)
    obtain ⟨w1, f7, f79⟩ := tr h1 a
    have bb := tk_b_b T n j hTr
    have e8' : zgi h1 78 8 = zj (j : Nat) := by rw [zgi_gz, e8]
    refine vb_X9_goesOn_173 _ _ _ ?_
    simp only [B_X9_goesOn_173, oPI, oPL, oILOAD, oLLOAD, oALOAD, oISTORE, oASTORE, oLSTORE, oIINC, oIADD, oISUB, oIMUL, oIAND, oIOR, oIXOR, oIDIV, oIREM, oISHL, oISHR, oIUSHR, oLADD, oLSUB, oLMUL, oLOR, oLDIV, oLREM, oLCMP, oLSHL, oINEG, oI2L, oL2I, oI2B, oI2C, oDUP, oPOP, oDUP2, oIFEQ, oICEQ, oIFNE, oICNE, oIFLT, oICLT, oIFGE, oICGE, oIFGT, oICGT, oIFLE, oICLE, oIFNULL, oIFNONNULL, oTSW, oLSW, oGETI, oGETL, oGETR, oPUTI, oPUTZ, oPUTL, oPUTR, oIALD, oBALD, oZALD, oLALD, oAALD, oALEN, oIAST, oBAST, oZAST, oLAST, oIRET, oZRET, oLRET, oVRET, oARET, oOBJ, oINI, oPS, oNEW, oNEWAI, oNEWAB, oNEWAZ, oNEWAL, oCOPY, oINV0, oINS0, oINV1, oINS1, oINV2, oINS2, oINV3, oINS3, oINV4, oINS4, oINV5, oINS5, oINV6, oINS6, List.getElem?_cons_zero, List.getElem?_cons_succ, List.set_cons_zero, List.set_cons_succ, znl, zs4, zc1, true_and, and_self, Value.category, Option.toList, List.cons_append, List.nil_append, zvr, mw_s w1, mw_s79 w1, mw_s80 w1, mw_s81 w1, mw_s82 w1, mw_s83 w1, mw_s84 w1, mw_s85 w1, mw_r5 w1, mw_r15 w1, mw_r16 w1, mw_r17 w1, mw_r18 w1, mw_r21 w1, mw_r22 w1]
    rw [e8']
    refine cm_byteAt w1 hn (by omega) f7 f79 ?_
    simp only [oPI, oPL, oILOAD, oLLOAD, oALOAD, oISTORE, oASTORE, oLSTORE, oIINC, oIADD, oISUB, oIMUL, oIAND, oIOR, oIXOR, oIDIV, oIREM, oISHL, oISHR, oIUSHR, oLADD, oLSUB, oLMUL, oLOR, oLDIV, oLREM, oLCMP, oLSHL, oINEG, oI2L, oL2I, oI2B, oI2C, oDUP, oPOP, oDUP2, oIFEQ, oICEQ, oIFNE, oICNE, oIFLT, oICLT, oIFGE, oICGE, oIFGT, oICGT, oIFLE, oICLE, oIFNULL, oIFNONNULL, oTSW, oLSW, oGETI, oGETL, oGETR, oPUTI, oPUTZ, oPUTL, oPUTR, oIALD, oBALD, oZALD, oLALD, oAALD, oALEN, oIAST, oBAST, oZAST, oLAST, oIRET, oZRET, oLRET, oVRET, oARET, oOBJ, oINI, oPS, oNEW, oNEWAI, oNEWAB, oNEWAZ, oNEWAL, oCOPY, oINV0, oINS0, oINV1, oINS1, oINV2, oINS2, oINV3, oINS3, oINV4, oINS4, oINV5, oINS5, oINV6, oINS6, List.getElem?_cons_zero, List.getElem?_cons_succ, List.set_cons_zero, List.set_cons_succ, znl, zs4, zc1, true_and, and_self, Value.category, Option.toList, List.cons_append, List.nil_append, zvr, mw_s w1, mw_s79 w1, mw_s80 w1, mw_s81 w1, mw_s82 w1, mw_s83 w1, mw_s84 w1, mw_s85 w1, mw_r5 w1, mw_r15 w1, mw_r16 w1, mw_r17 w1, mw_r18 w1, mw_r21 w1, mw_r22 w1]
    refine cm_isDigit (by omega) (by omega) ?_
    simp only [oPI, oPL, oILOAD, oLLOAD, oALOAD, oISTORE, oASTORE, oLSTORE, oIINC, oIADD, oISUB, oIMUL, oIAND, oIOR, oIXOR, oIDIV, oIREM, oISHL, oISHR, oIUSHR, oLADD, oLSUB, oLMUL, oLOR, oLDIV, oLREM, oLCMP, oLSHL, oINEG, oI2L, oL2I, oI2B, oI2C, oDUP, oPOP, oDUP2, oIFEQ, oICEQ, oIFNE, oICNE, oIFLT, oICLT, oIFGE, oICGE, oIFGT, oICGT, oIFLE, oICLE, oIFNULL, oIFNONNULL, oTSW, oLSW, oGETI, oGETL, oGETR, oPUTI, oPUTZ, oPUTL, oPUTR, oIALD, oBALD, oZALD, oLALD, oAALD, oALEN, oIAST, oBAST, oZAST, oLAST, oIRET, oZRET, oLRET, oVRET, oARET, oOBJ, oINI, oPS, oNEW, oNEWAI, oNEWAB, oNEWAZ, oNEWAL, oCOPY, oINV0, oINS0, oINV1, oINS1, oINV2, oINS2, oINV3, oINS3, oINV4, oINS4, oINV5, oINS5, oINV6, oINS6, List.getElem?_cons_zero, List.getElem?_cons_succ, List.set_cons_zero, List.set_cons_succ, znl, zs4, zc1, true_and, and_self, Value.category, Option.toList, List.cons_append, List.nil_append, zvr, mw_s w1, mw_s79 w1, mw_s80 w1, mw_s81 w1, mw_s82 w1, mw_s83 w1, mw_s84 w1, mw_s85 w1, mw_r5 w1, mw_r15 w1, mw_r16 w1, mw_r17 w1, mw_r18 w1, mw_r21 w1, mw_r22 w1]
    obtain ⟨V0, hV0⟩ : ∃ V0, V0 = zj 10 * zgi h1 78 11 := ⟨_, rfl⟩
    rw [← hV0]
    try simp (disch := omega) only [zgi_gz, zj_cn, zj_lt, zj_le, zj_eq, zj_add, zj_sub, zj_mul, zj_neg, zj_lt0, zj_le0, zj_0le, zj_0lt, zj_eq0, zb_0, zb_z, Classical.not_not, Int.zero_add, Int.add_zero, zj_remn, zj_divn]
    rw [bb.2.2.2.2.2.1]
    refine ⟨fun c => ?_, fun c => ?_⟩
    · have ej : j = E := by
        rcases Nat.lt_or_ge j E with q | q
        · have := rn.1 j hPj q
          rw [c1] at this
          exact absurd this c
        · omega
      refine vb_X9_goesOn_231 _ _ _ ?_
      simp only [B_X9_goesOn_231, oPI, oPL, oILOAD, oLLOAD, oALOAD, oISTORE, oASTORE, oLSTORE, oIINC, oIADD, oISUB, oIMUL, oIAND, oIOR, oIXOR, oIDIV, oIREM, oISHL, oISHR, oIUSHR, oLADD, oLSUB, oLMUL, oLOR, oLDIV, oLREM, oLCMP, oLSHL, oINEG, oI2L, oL2I, oI2B, oI2C, oDUP, oPOP, oDUP2, oIFEQ, oICEQ, oIFNE, oICNE, oIFLT, oICLT, oIFGE, oICGE, oIFGT, oICGT, oIFLE, oICLE, oIFNULL, oIFNONNULL, oTSW, oLSW, oGETI, oGETL, oGETR, oPUTI, oPUTZ, oPUTL, oPUTR, oIALD, oBALD, oZALD, oLALD, oAALD, oALEN, oIAST, oBAST, oZAST, oLAST, oIRET, oZRET, oLRET, oVRET, oARET, oOBJ, oINI, oPS, oNEW, oNEWAI, oNEWAB, oNEWAZ, oNEWAL, oCOPY, oINV0, oINS0, oINV1, oINS1, oINV2, oINS2, oINV3, oINS3, oINV4, oINS4, oINV5, oINS5, oINV6, oINS6, List.getElem?_cons_zero, List.getElem?_cons_succ, List.set_cons_zero, List.set_cons_succ, znl, zs4, zc1, true_and, and_self, Value.category, Option.toList, List.cons_append, List.nil_append, zvr, mw_s w1, mw_s79 w1, mw_s80 w1, mw_s81 w1, mw_s82 w1, mw_s83 w1, mw_s84 w1, mw_s85 w1, mw_r5 w1, mw_r15 w1, mw_r16 w1, mw_r17 w1, mw_r18 w1, mw_r21 w1, mw_r22 w1]
      try simp (disch := omega) only [zgi_gz, zj_cn, zj_lt, zj_le, zj_eq, zj_add, zj_sub, zj_mul, zj_neg, zj_lt0, zj_le0, zj_0le, zj_0lt, zj_eq0, zb_0, zb_z, Classical.not_not, Int.zero_add, Int.add_zero, zj_remn, zj_divn]
      refine ⟨fun c3 => ?_, fun c3 => ?_⟩
      · have d4 : tk_d T n s = 4 := by rw [dD, if_neg (by omega), if_pos ⟨rfl, by omega⟩]
        exact out h1 _ _ a (by rw [e9, d4]; rfl) e10 (fun z => absurd d4 z) (fun z => by omega) (fun z => by omega)
      · have d4 : tk_d T n s = 2 := by rw [dD, if_neg (by omega), if_neg (by omega)]
        refine out _ _ _ (a.pi (j := 9) (by omega) (by omega)) ?_ ?_ (fun _ => ?_) (fun z => by omega) (fun _ => ?_)
        · rw [gz_pi1 (by omega) (by omega), d4]; rfl
        · rw [gz_pi0 (by omega)]; exact e10
        · rw [gz_pi0 (by omega), e8, ej]
        · rw [gz_pi0 (by omega), ← ej]; exact e11 (by omega)
    · have jE : j < E := by
        rcases Nat.lt_or_ge j E with q | q
        · exact q
        · have : j = E := by omega
          rw [this, ← c1] at c
          exact absurd c rn.2.1
      have hl := tk_n_2.mp c.2
      have hb := bb.2.2.2.2.2.2.2 c.1 (by omega)
      have n131 : ∀ h2, zNm h h2 → gz h2 78 8 = j → gz h2 78 9 = 0 → gz h2 78 10 = P → (j + 1 - P ≤ 3 → gz h2 78 11 = zfo 10 48 (tk_s T P (j + 1))) → zV X M_X9_goesOn (zQm M_X9_goesOn R) 0 0 215 [.ref 78, .int z1, .int (zj ((j - P : Nat) : Int))] [] h2 := fun h2 a2 g8 g9 g10 g14 => by
        obtain ⟨w2, -, -⟩ := tr h2 a2
        refine vb_X9_goesOn_215 _ _ _ ?_
        simp only [B_X9_goesOn_215, oPI, oPL, oILOAD, oLLOAD, oALOAD, oISTORE, oASTORE, oLSTORE, oIINC, oIADD, oISUB, oIMUL, oIAND, oIOR, oIXOR, oIDIV, oIREM, oISHL, oISHR, oIUSHR, oLADD, oLSUB, oLMUL, oLOR, oLDIV, oLREM, oLCMP, oLSHL, oINEG, oI2L, oL2I, oI2B, oI2C, oDUP, oPOP, oDUP2, oIFEQ, oICEQ, oIFNE, oICNE, oIFLT, oICLT, oIFGE, oICGE, oIFGT, oICGT, oIFLE, oICLE, oIFNULL, oIFNONNULL, oTSW, oLSW, oGETI, oGETL, oGETR, oPUTI, oPUTZ, oPUTL, oPUTR, oIALD, oBALD, oZALD, oLALD, oAALD, oALEN, oIAST, oBAST, oZAST, oLAST, oIRET, oZRET, oLRET, oVRET, oARET, oOBJ, oINI, oPS, oNEW, oNEWAI, oNEWAB, oNEWAZ, oNEWAL, oCOPY, oINV0, oINS0, oINV1, oINS1, oINV2, oINS2, oINV3, oINS3, oINV4, oINS4, oINV5, oINS5, oINV6, oINS6, List.getElem?_cons_zero, List.getElem?_cons_succ, List.set_cons_zero, List.set_cons_succ, znl, zs4, zc1, true_and, and_self, Value.category, Option.toList, List.cons_append, List.nil_append, zvr, mw_s w2, mw_s79 w2, mw_s80 w2, mw_s81 w2, mw_s82 w2, mw_s83 w2, mw_s84 w2, mw_s85 w2, mw_r5 w2, mw_r15 w2, mw_r16 w2, mw_r17 w2, mw_r18 w2, mw_r21 w2, mw_r22 w2]
        rw [zgi_gz h2 78 8, g8, zj_add, zj_add, show ((j - P : Nat) : Int) + 1 = ((j + 1 - P : Nat) : Int) by omega]
        refine ih jE _ _ (by omega) (a2.pi (j := 8) (by omega) (by omega)) ?_ ?_ ?_ ?_
        · rw [gz_pi1 (by omega) (by omega)]; omega
        · rw [gz_pi0 (by omega)]; exact g9
        · rw [gz_pi0 (by omega)]; exact g10
        · rw [gz_pi0 (by omega)]; exact g14
      refine ⟨fun c3 => n131 h1 a e8 e9 e10 (fun z => by omega), fun c3 => ?_⟩
      rw [e8]
      refine cm_byteAt w1 hn (by omega) f7 f79 ?_
      simp only [oPI, oPL, oILOAD, oLLOAD, oALOAD, oISTORE, oASTORE, oLSTORE, oIINC, oIADD, oISUB, oIMUL, oIAND, oIOR, oIXOR, oIDIV, oIREM, oISHL, oISHR, oIUSHR, oLADD, oLSUB, oLMUL, oLOR, oLDIV, oLREM, oLCMP, oLSHL, oINEG, oI2L, oL2I, oI2B, oI2C, oDUP, oPOP, oDUP2, oIFEQ, oICEQ, oIFNE, oICNE, oIFLT, oICLT, oIFGE, oICGE, oIFGT, oICGT, oIFLE, oICLE, oIFNULL, oIFNONNULL, oTSW, oLSW, oGETI, oGETL, oGETR, oPUTI, oPUTZ, oPUTL, oPUTR, oIALD, oBALD, oZALD, oLALD, oAALD, oALEN, oIAST, oBAST, oZAST, oLAST, oIRET, oZRET, oLRET, oVRET, oARET, oOBJ, oINI, oPS, oNEW, oNEWAI, oNEWAB, oNEWAZ, oNEWAL, oCOPY, oINV0, oINS0, oINV1, oINS1, oINV2, oINS2, oINV3, oINS3, oINV4, oINS4, oINV5, oINS5, oINV6, oINS6, List.getElem?_cons_zero, List.getElem?_cons_succ, List.set_cons_zero, List.set_cons_succ, znl, zs4, zc1, true_and, and_self, Value.category, Option.toList, List.cons_append, List.nil_append, zvr, mw_s w1, mw_s79 w1, mw_s80 w1, mw_s81 w1, mw_s82 w1, mw_s83 w1, mw_s84 w1, mw_s85 w1, mw_r5 w1, mw_r15 w1, mw_r16 w1, mw_r17 w1, mw_r18 w1, mw_r21 w1, mw_r22 w1]
      have hlet : ∀ c ∈ tk_s T P j, 48 ≤ c ∧ c ≤ 57 := fun c hc => by
        obtain ⟨m, a1, a2, a3⟩ := tk_s_mem hc
        have hk2 := (rn.1 m a1 (by omega)).2
        rw [c1] at hk2
        have := tk_n_2.mp hk2
        omega
      have h10 := zfo10 (tk_s T P j) (by rw [tk_s_len]; omega) hlet
      have hz : V0 + zj (tk_b T n j) - zj 48 = zj (zfo 10 48 (tk_s T P (j + 1)) : Nat) := by
        rw [hV0, zgi_gz, e11 (by omega), hb, zj_mul, zj_add, zj_sub, tk_s_s hPj, zfo_app]
        congr 1
        omega
      rw [hz]
      refine n131 _ (a.pi (j := 11) (by omega) (by omega)) ?_ ?_ ?_ (fun _ => ?_)
      · rw [gz_pi0 (by omega)]; exact e8
      · rw [gz_pi0 (by omega)]; exact e9
      · rw [gz_pi0 (by omega)]; exact e10
      · rw [tk_s_s hPj, zfo_app]
        exact gz_pi1 (by omega) (by omega)
  have hb32 : P < n → ¬ T P = 32 := by
    have := (tk_c_b (T := T) n s hs (by omega)).2.2
    rw [show tk_c T n n s = P from hP] at this
    exact this
  refine zCC_of (ls := [.ref 78, .retAddr 0, .retAddr 0]) pf_X9_goesOn rfl (Nat.le_of_ble_eq_true rfl) ?_
  refine vb_X9_goesOn_0 _ _ _ ?_
  simp only [B_X9_goesOn_0, oPI, oPL, oILOAD, oLLOAD, oALOAD, oISTORE, oASTORE, oLSTORE, oIINC, oIADD, oISUB, oIMUL, oIAND, oIOR, oIXOR, oIDIV, oIREM, oISHL, oISHR, oIUSHR, oLADD, oLSUB, oLMUL, oLOR, oLDIV, oLREM, oLCMP, oLSHL, oINEG, oI2L, oL2I, oI2B, oI2C, oDUP, oPOP, oDUP2, oIFEQ, oICEQ, oIFNE, oICNE, oIFLT, oICLT, oIFGE, oICGE, oIFGT, oICGT, oIFLE, oICLE, oIFNULL, oIFNONNULL, oTSW, oLSW, oGETI, oGETL, oGETR, oPUTI, oPUTZ, oPUTL, oPUTR, oIALD, oBALD, oZALD, oLALD, oAALD, oALEN, oIAST, oBAST, oZAST, oLAST, oIRET, oZRET, oLRET, oVRET, oARET, oOBJ, oINI, oPS, oNEW, oNEWAI, oNEWAB, oNEWAZ, oNEWAL, oCOPY, oINV0, oINS0, oINV1, oINS1, oINV2, oINS2, oINV3, oINS3, oINV4, oINS4, oINV5, oINS5, oINV6, oINS6, List.getElem?_cons_zero, List.getElem?_cons_succ, List.set_cons_zero, List.set_cons_succ, znl, zs4, zc1, true_and, and_self, Value.category, Option.toList, List.cons_append, List.nil_append, zvr, mw_s w, mw_s79 w, mw_s80 w, mw_s81 w, mw_s82 w, mw_s83 w, mw_s84 w, mw_s85 w, mw_r5 w, mw_r15 w, mw_r16 w, mw_r17 w, mw_r18 w, mw_r21 w, mw_r22 w]
  rw [zgi_gz h 78 9]
  try simp (disch := omega) only [zgi_gz, zj_cn, zj_lt, zj_le, zj_eq, zj_add, zj_sub, zj_mul, zj_neg, zj_lt0, zj_le0, zj_0le, zj_0lt, zj_eq0, zb_0, zb_z, Classical.not_not, Int.zero_add, Int.add_zero, zj_remn, zj_divn]
  refine ⟨fun _ => ?_, fun c => by omega⟩
  refine zdown (m := P) (P := fun i => s ≤ i → ∀ h1, zNm h h1 → gz h1 78 8 = i → zV X M_X9_goesOn (zQm M_X9_goesOn R) 0 0 9 [.ref 78, .retAddr 0, .retAddr 0] [] h1) (fun i hi ih hsi h1 a e8 => ?_) s (by omega) (Nat.le_refl _) h (zNm.rf h) ha
  obtain ⟨w1, f7, f79⟩ := tr h1 a
  have bb := tk_b_b T n i hTr
  have e8' : zgi h1 78 8 = zj (i : Nat) := by rw [zgi_gz, e8]
  refine vb_X9_goesOn_9 _ _ _ ?_
  simp only [B_X9_goesOn_9, oPI, oPL, oILOAD, oLLOAD, oALOAD, oISTORE, oASTORE, oLSTORE, oIINC, oIADD, oISUB, oIMUL, oIAND, oIOR, oIXOR, oIDIV, oIREM, oISHL, oISHR, oIUSHR, oLADD, oLSUB, oLMUL, oLOR, oLDIV, oLREM, oLCMP, oLSHL, oINEG, oI2L, oL2I, oI2B, oI2C, oDUP, oPOP, oDUP2, oIFEQ, oICEQ, oIFNE, oICNE, oIFLT, oICLT, oIFGE, oICGE, oIFGT, oICGT, oIFLE, oICLE, oIFNULL, oIFNONNULL, oTSW, oLSW, oGETI, oGETL, oGETR, oPUTI, oPUTZ, oPUTL, oPUTR, oIALD, oBALD, oZALD, oLALD, oAALD, oALEN, oIAST, oBAST, oZAST, oLAST, oIRET, oZRET, oLRET, oVRET, oARET, oOBJ, oINI, oPS, oNEW, oNEWAI, oNEWAB, oNEWAZ, oNEWAL, oCOPY, oINV0, oINS0, oINV1, oINS1, oINV2, oINS2, oINV3, oINS3, oINV4, oINS4, oINV5, oINS5, oINV6, oINS6, List.getElem?_cons_zero, List.getElem?_cons_succ, List.set_cons_zero, List.set_cons_succ, znl, zs4, zc1, true_and, and_self, Value.category, Option.toList, List.cons_append, List.nil_append, zvr, mw_s w1, mw_s79 w1, mw_s80 w1, mw_s81 w1, mw_s82 w1, mw_s83 w1, mw_s84 w1, mw_s85 w1, mw_r5 w1, mw_r15 w1, mw_r16 w1, mw_r17 w1, mw_r18 w1, mw_r21 w1, mw_r22 w1]
  rw [e8']
  refine cm_byteAt w1 hn (by omega) f7 f79 ?_
  simp only [oPI, oPL, oILOAD, oLLOAD, oALOAD, oISTORE, oASTORE, oLSTORE, oIINC, oIADD, oISUB, oIMUL, oIAND, oIOR, oIXOR, oIDIV, oIREM, oISHL, oISHR, oIUSHR, oLADD, oLSUB, oLMUL, oLOR, oLDIV, oLREM, oLCMP, oLSHL, oINEG, oI2L, oL2I, oI2B, oI2C, oDUP, oPOP, oDUP2, oIFEQ, oICEQ, oIFNE, oICNE, oIFLT, oICLT, oIFGE, oICGE, oIFGT, oICGT, oIFLE, oICLE, oIFNULL, oIFNONNULL, oTSW, oLSW, oGETI, oGETL, oGETR, oPUTI, oPUTZ, oPUTL, oPUTR, oIALD, oBALD, oZALD, oLALD, oAALD, oALEN, oIAST, oBAST, oZAST, oLAST, oIRET, oZRET, oLRET, oVRET, oARET, oOBJ, oINI, oPS, oNEW, oNEWAI, oNEWAB, oNEWAZ, oNEWAL, oCOPY, oINV0, oINS0, oINV1, oINS1, oINV2, oINS2, oINV3, oINS3, oINV4, oINS4, oINV5, oINS5, oINV6, oINS6, List.getElem?_cons_zero, List.getElem?_cons_succ, List.set_cons_zero, List.set_cons_succ, znl, zs4, zc1, true_and, and_self, Value.category, Option.toList, List.cons_append, List.nil_append, zvr, mw_s w1, mw_s79 w1, mw_s80 w1, mw_s81 w1, mw_s82 w1, mw_s83 w1, mw_s84 w1, mw_s85 w1, mw_r5 w1, mw_r15 w1, mw_r16 w1, mw_r17 w1, mw_r18 w1, mw_r21 w1, mw_r22 w1]
  try rw [e8']
  try simp (disch := omega) only [zgi_gz, zj_cn, zj_lt, zj_le, zj_eq, zj_add, zj_sub, zj_mul, zj_neg, zj_lt0, zj_le0, zj_0le, zj_0lt, zj_eq0, zb_0, zb_z, Classical.not_not, Int.zero_add, Int.add_zero, zj_remn, zj_divn]
  rw [bb.2.2.2.1]
  by_cases ci : i = P
  rotate_left
  · have sp := tk_c_sp n s i hsi (by show i < tk_p T n s; rw [hP]; omega)
    refine ⟨fun c => absurd ⟨sp.2, sp.1⟩ c, fun _ => ?_⟩
    refine ih (by omega) (by omega) _ (a.pi (j := 8) (by omega) (by omega)) ?_
    rw [gz_pi1 (by omega) (by omega)]; omega
  refine ⟨fun _ => ?_, fun c => absurd c.2 (by rw [ci]; exact hb32 (by omega))⟩
  rw [ci] at bb e8 e8'
  obtain ⟨h2, hh2⟩ : ∃ h2, h2 = zpi (zpi h1 78 10 (zj (P : Nat))) 78 9 (zj 0) := ⟨_, rfl⟩
  have a2 : zNm h h2 := by rw [hh2]; exact (a.pi (j := 10) (by omega) (by omega)).pi (by omega) (by omega)
  obtain ⟨w2, g7, g79⟩ := tr h2 a2
  have g8 : gz h2 78 8 = P := by rw [hh2, gz_pi0 (by omega), gz_pi0 (by omega)]; exact e8
  have g8' : zgi h2 78 8 = zj (P : Nat) := by rw [zgi_gz, g8]
  have g9 : gz h2 78 9 = 0 := by rw [hh2, gz_pi1 (by omega) (by omega)]
  have g10 : gz h2 78 10 = P := by rw [hh2, gz_pi0 (by omega), gz_pi1 (by omega) (by omega)]
  refine vb_X9_goesOn_35 _ _ _ ?_
  simp only [B_X9_goesOn_35, oPI, oPL, oILOAD, oLLOAD, oALOAD, oISTORE, oASTORE, oLSTORE, oIINC, oIADD, oISUB, oIMUL, oIAND, oIOR, oIXOR, oIDIV, oIREM, oISHL, oISHR, oIUSHR, oLADD, oLSUB, oLMUL, oLOR, oLDIV, oLREM, oLCMP, oLSHL, oINEG, oI2L, oL2I, oI2B, oI2C, oDUP, oPOP, oDUP2, oIFEQ, oICEQ, oIFNE, oICNE, oIFLT, oICLT, oIFGE, oICGE, oIFGT, oICGT, oIFLE, oICLE, oIFNULL, oIFNONNULL, oTSW, oLSW, oGETI, oGETL, oGETR, oPUTI, oPUTZ, oPUTL, oPUTR, oIALD, oBALD, oZALD, oLALD, oAALD, oALEN, oIAST, oBAST, oZAST, oLAST, oIRET, oZRET, oLRET, oVRET, oARET, oOBJ, oINI, oPS, oNEW, oNEWAI, oNEWAB, oNEWAZ, oNEWAL, oCOPY, oINV0, oINS0, oINV1, oINS1, oINV2, oINS2, oINV3, oINS3, oINV4, oINS4, oINV5, oINS5, oINV6, oINS6, List.getElem?_cons_zero, List.getElem?_cons_succ, List.set_cons_zero, List.set_cons_succ, znl, zs4, zc1, true_and, and_self, Value.category, Option.toList, List.cons_append, List.nil_append, zvr, mw_s w1, mw_s79 w1, mw_s80 w1, mw_s81 w1, mw_s82 w1, mw_s83 w1, mw_s84 w1, mw_s85 w1, mw_r5 w1, mw_r15 w1, mw_r16 w1, mw_r17 w1, mw_r18 w1, mw_r21 w1, mw_r22 w1, zsh_pi, zgr_pi]
  rw [e8', ← hh2, g8']
  refine cm_byteAt w2 hn (by omega) g7 g79 ?_
  simp only [oPI, oPL, oILOAD, oLLOAD, oALOAD, oISTORE, oASTORE, oLSTORE, oIINC, oIADD, oISUB, oIMUL, oIAND, oIOR, oIXOR, oIDIV, oIREM, oISHL, oISHR, oIUSHR, oLADD, oLSUB, oLMUL, oLOR, oLDIV, oLREM, oLCMP, oLSHL, oINEG, oI2L, oL2I, oI2B, oI2C, oDUP, oPOP, oDUP2, oIFEQ, oICEQ, oIFNE, oICNE, oIFLT, oICLT, oIFGE, oICGE, oIFGT, oICGT, oIFLE, oICLE, oIFNULL, oIFNONNULL, oTSW, oLSW, oGETI, oGETL, oGETR, oPUTI, oPUTZ, oPUTL, oPUTR, oIALD, oBALD, oZALD, oLALD, oAALD, oALEN, oIAST, oBAST, oZAST, oLAST, oIRET, oZRET, oLRET, oVRET, oARET, oOBJ, oINI, oPS, oNEW, oNEWAI, oNEWAB, oNEWAZ, oNEWAL, oCOPY, oINV0, oINS0, oINV1, oINS1, oINV2, oINS2, oINV3, oINS3, oINV4, oINS4, oINV5, oINS5, oINV6, oINS6, List.getElem?_cons_zero, List.getElem?_cons_succ, List.set_cons_zero, List.set_cons_succ, znl, zs4, zc1, true_and, and_self, Value.category, Option.toList, List.cons_append, List.nil_append, zvr, mw_s w2, mw_s79 w2, mw_s80 w2, mw_s81 w2, mw_s82 w2, mw_s83 w2, mw_s84 w2, mw_s85 w2, mw_r5 w2, mw_r15 w2, mw_r16 w2, mw_r17 w2, mw_r18 w2, mw_r21 w2, mw_r22 w2]
  try simp (disch := omega) only [zgi_gz, zj_cn, zj_lt, zj_le, zj_eq, zj_add, zj_sub, zj_mul, zj_neg, zj_lt0, zj_le0, zj_0le, zj_0lt, zj_eq0, zb_0, zb_z, Classical.not_not, Int.zero_add, Int.add_zero, zj_remn, zj_divn]
  rw [bb.2.2.1]
  refine ⟨fun cn => ?_, fun cn => ?_⟩
  rotate_left
  · rw [if_pos cn] at dD dE
    refine out _ _ _ (a2.pi (j := 9) (by omega) (by omega)) ?_ ?_ (fun _ => ?_) (fun z => by omega) (fun z => by omega)
    · rw [gz_pi1 (by omega) (by omega), dD]; rfl
    · rw [gz_pi0 (by omega)]; exact g10
    · rw [gz_pi0 (by omega), g8, dE]
  rw [if_neg cn] at dD dE
  refine vb_X9_goesOn_72 _ _ _ ?_
  simp only [B_X9_goesOn_72, oPI, oPL, oILOAD, oLLOAD, oALOAD, oISTORE, oASTORE, oLSTORE, oIINC, oIADD, oISUB, oIMUL, oIAND, oIOR, oIXOR, oIDIV, oIREM, oISHL, oISHR, oIUSHR, oLADD, oLSUB, oLMUL, oLOR, oLDIV, oLREM, oLCMP, oLSHL, oINEG, oI2L, oL2I, oI2B, oI2C, oDUP, oPOP, oDUP2, oIFEQ, oICEQ, oIFNE, oICNE, oIFLT, oICLT, oIFGE, oICGE, oIFGT, oICGT, oIFLE, oICLE, oIFNULL, oIFNONNULL, oTSW, oLSW, oGETI, oGETL, oGETR, oPUTI, oPUTZ, oPUTL, oPUTR, oIALD, oBALD, oZALD, oLALD, oAALD, oALEN, oIAST, oBAST, oZAST, oLAST, oIRET, oZRET, oLRET, oVRET, oARET, oOBJ, oINI, oPS, oNEW, oNEWAI, oNEWAB, oNEWAZ, oNEWAL, oCOPY, oINV0, oINS0, oINV1, oINS1, oINV2, oINS2, oINV3, oINS3, oINV4, oINS4, oINV5, oINS5, oINV6, oINS6, List.getElem?_cons_zero, List.getElem?_cons_succ, List.set_cons_zero, List.set_cons_succ, znl, zs4, zc1, true_and, and_self, Value.category, Option.toList, List.cons_append, List.nil_append, zvr, mw_s w2, mw_s79 w2, mw_s80 w2, mw_s81 w2, mw_s82 w2, mw_s83 w2, mw_s84 w2, mw_s85 w2, mw_r5 w2, mw_r15 w2, mw_r16 w2, mw_r17 w2, mw_r18 w2, mw_r21 w2, mw_r22 w2]
  refine cm_isLetter (by omega) (by omega) ?_
  simp only [oPI, oPL, oILOAD, oLLOAD, oALOAD, oISTORE, oASTORE, oLSTORE, oIINC, oIADD, oISUB, oIMUL, oIAND, oIOR, oIXOR, oIDIV, oIREM, oISHL, oISHR, oIUSHR, oLADD, oLSUB, oLMUL, oLOR, oLDIV, oLREM, oLCMP, oLSHL, oINEG, oI2L, oL2I, oI2B, oI2C, oDUP, oPOP, oDUP2, oIFEQ, oICEQ, oIFNE, oICNE, oIFLT, oICLT, oIFGE, oICGE, oIFGT, oICGT, oIFLE, oICLE, oIFNULL, oIFNONNULL, oTSW, oLSW, oGETI, oGETL, oGETR, oPUTI, oPUTZ, oPUTL, oPUTR, oIALD, oBALD, oZALD, oLALD, oAALD, oALEN, oIAST, oBAST, oZAST, oLAST, oIRET, oZRET, oLRET, oVRET, oARET, oOBJ, oINI, oPS, oNEW, oNEWAI, oNEWAB, oNEWAZ, oNEWAL, oCOPY, oINV0, oINS0, oINV1, oINS1, oINV2, oINS2, oINV3, oINS3, oINV4, oINS4, oINV5, oINS5, oINV6, oINS6, List.getElem?_cons_zero, List.getElem?_cons_succ, List.set_cons_zero, List.set_cons_succ, znl, zs4, zc1, true_and, and_self, Value.category, Option.toList, List.cons_append, List.nil_append, zvr, mw_s w2, mw_s79 w2, mw_s80 w2, mw_s81 w2, mw_s82 w2, mw_s83 w2, mw_s84 w2, mw_s85 w2, mw_r5 w2, mw_r15 w2, mw_r16 w2, mw_r17 w2, mw_r18 w2, mw_r21 w2, mw_r22 w2]
  try simp (disch := omega) only [zgi_gz, zj_cn, zj_lt, zj_le, zj_eq, zj_add, zj_sub, zj_mul, zj_neg, zj_lt0, zj_le0, zj_0le, zj_0lt, zj_eq0, zb_0, zb_z, Classical.not_not, Int.zero_add, Int.add_zero, zj_remn, zj_divn]
  rw [bb.2.2.2.2.1, hK]
  refine ⟨fun c1 => ?_, fun c1 => ?_⟩
  rotate_left
  · have := let84 c1.2 cn P (by omega) (zpl h2 78 14 (zk 0)) (zj (tk_b T n P)) (Nat.le_refl _) a2.pl g8 g9 g10 (fun _ => by rw [tk_s_0]; exact zpl_s)
    rw [Nat.sub_self] at this
    exact this
  refine vb_X9_goesOn_161 _ _ _ ?_
  simp only [B_X9_goesOn_161, oPI, oPL, oILOAD, oLLOAD, oALOAD, oISTORE, oASTORE, oLSTORE, oIINC, oIADD, oISUB, oIMUL, oIAND, oIOR, oIXOR, oIDIV, oIREM, oISHL, oISHR, oIUSHR, oLADD, oLSUB, oLMUL, oLOR, oLDIV, oLREM, oLCMP, oLSHL, oINEG, oI2L, oL2I, oI2B, oI2C, oDUP, oPOP, oDUP2, oIFEQ, oICEQ, oIFNE, oICNE, oIFLT, oICLT, oIFGE, oICGE, oIFGT, oICGT, oIFLE, oICLE, oIFNULL, oIFNONNULL, oTSW, oLSW, oGETI, oGETL, oGETR, oPUTI, oPUTZ, oPUTL, oPUTR, oIALD, oBALD, oZALD, oLALD, oAALD, oALEN, oIAST, oBAST, oZAST, oLAST, oIRET, oZRET, oLRET, oVRET, oARET, oOBJ, oINI, oPS, oNEW, oNEWAI, oNEWAB, oNEWAZ, oNEWAL, oCOPY, oINV0, oINS0, oINV1, oINS1, oINV2, oINS2, oINV3, oINS3, oINV4, oINS4, oINV5, oINS5, oINV6, oINS6, List.getElem?_cons_zero, List.getElem?_cons_succ, List.set_cons_zero, List.set_cons_succ, znl, zs4, zc1, true_and, and_self, Value.category, Option.toList, List.cons_append, List.nil_append, zvr, mw_s w2, mw_s79 w2, mw_s80 w2, mw_s81 w2, mw_s82 w2, mw_s83 w2, mw_s84 w2, mw_s85 w2, mw_r5 w2, mw_r15 w2, mw_r16 w2, mw_r17 w2, mw_r18 w2, mw_r21 w2, mw_r22 w2]
  refine cm_isDigit (by omega) (by omega) ?_
  simp only [oPI, oPL, oILOAD, oLLOAD, oALOAD, oISTORE, oASTORE, oLSTORE, oIINC, oIADD, oISUB, oIMUL, oIAND, oIOR, oIXOR, oIDIV, oIREM, oISHL, oISHR, oIUSHR, oLADD, oLSUB, oLMUL, oLOR, oLDIV, oLREM, oLCMP, oLSHL, oINEG, oI2L, oL2I, oI2B, oI2C, oDUP, oPOP, oDUP2, oIFEQ, oICEQ, oIFNE, oICNE, oIFLT, oICLT, oIFGE, oICGE, oIFGT, oICGT, oIFLE, oICLE, oIFNULL, oIFNONNULL, oTSW, oLSW, oGETI, oGETL, oGETR, oPUTI, oPUTZ, oPUTL, oPUTR, oIALD, oBALD, oZALD, oLALD, oAALD, oALEN, oIAST, oBAST, oZAST, oLAST, oIRET, oZRET, oLRET, oVRET, oARET, oOBJ, oINI, oPS, oNEW, oNEWAI, oNEWAB, oNEWAZ, oNEWAL, oCOPY, oINV0, oINS0, oINV1, oINS1, oINV2, oINS2, oINV3, oINS3, oINV4, oINS4, oINV5, oINS5, oINV6, oINS6, List.getElem?_cons_zero, List.getElem?_cons_succ, List.set_cons_zero, List.set_cons_succ, znl, zs4, zc1, true_and, and_self, Value.category, Option.toList, List.cons_append, List.nil_append, zvr, mw_s w2, mw_s79 w2, mw_s80 w2, mw_s81 w2, mw_s82 w2, mw_s83 w2, mw_s84 w2, mw_s85 w2, mw_r5 w2, mw_r15 w2, mw_r16 w2, mw_r17 w2, mw_r18 w2, mw_r21 w2, mw_r22 w2]
  try simp (disch := omega) only [zgi_gz, zj_cn, zj_lt, zj_le, zj_eq, zj_add, zj_sub, zj_mul, zj_neg, zj_lt0, zj_le0, zj_0le, zj_0lt, zj_eq0, zb_0, zb_z, Classical.not_not, Int.zero_add, Int.add_zero, zj_remn, zj_divn]
  rw [bb.2.2.2.2.2.1, hK]
  refine ⟨fun c2 => ?_, fun c2 => ?_⟩
  rotate_left
  · have := dig173 c2.2 cn P (by omega) (zpi h2 78 11 (zj 0)) (zj (tk_b T n P)) (Nat.le_refl _) (a2.pi (by omega) (by omega)) (by rw [gz_pi0 (by omega)]; exact g8) (by rw [gz_pi0 (by omega)]; exact g9) (by rw [gz_pi0 (by omega)]; exact g10) (fun _ => by rw [tk_s_0, gz_pi1 (by omega) (by omega)]; rfl)
    rw [Nat.sub_self] at this
    exact this
  have k12 : ¬ K ≤ 2 := fun z => by
    have : K = 1 ∨ K = 2 := by omega
    rcases this with q | q
    · exact c1 ⟨by omega, q⟩
    · exact c2 ⟨by omega, q⟩
  rw [if_neg k12] at dE
  rw [if_neg (by omega), if_neg (by omega)] at dD
  refine vb_X9_goesOn_244 _ _ _ ?_
  simp only [B_X9_goesOn_244, oPI, oPL, oILOAD, oLLOAD, oALOAD, oISTORE, oASTORE, oLSTORE, oIINC, oIADD, oISUB, oIMUL, oIAND, oIOR, oIXOR, oIDIV, oIREM, oISHL, oISHR, oIUSHR, oLADD, oLSUB, oLMUL, oLOR, oLDIV, oLREM, oLCMP, oLSHL, oINEG, oI2L, oL2I, oI2B, oI2C, oDUP, oPOP, oDUP2, oIFEQ, oICEQ, oIFNE, oICNE, oIFLT, oICLT, oIFGE, oICGE, oIFGT, oICGT, oIFLE, oICLE, oIFNULL, oIFNONNULL, oTSW, oLSW, oGETI, oGETL, oGETR, oPUTI, oPUTZ, oPUTL, oPUTR, oIALD, oBALD, oZALD, oLALD, oAALD, oALEN, oIAST, oBAST, oZAST, oLAST, oIRET, oZRET, oLRET, oVRET, oARET, oOBJ, oINI, oPS, oNEW, oNEWAI, oNEWAB, oNEWAZ, oNEWAL, oCOPY, oINV0, oINS0, oINV1, oINS1, oINV2, oINS2, oINV3, oINS3, oINV4, oINS4, oINV5, oINS5, oINV6, oINS6, List.getElem?_cons_zero, List.getElem?_cons_succ, List.set_cons_zero, List.set_cons_succ, znl, zs4, zc1, true_and, and_self, Value.category, Option.toList, List.cons_append, List.nil_append, zvr, mw_s w2, mw_s79 w2, mw_s80 w2, mw_s81 w2, mw_s82 w2, mw_s83 w2, mw_s84 w2, mw_s85 w2, mw_r5 w2, mw_r15 w2, mw_r16 w2, mw_r17 w2, mw_r18 w2, mw_r21 w2, mw_r22 w2, zsh_pi]
  try simp (disch := omega) only [zgi_gz, zj_cn, zj_lt, zj_le, zj_eq, zj_add, zj_sub, zj_mul, zj_neg, zj_lt0, zj_le0, zj_0le, zj_0lt, zj_eq0, zb_0, zb_z, Classical.not_not, Int.zero_add, Int.add_zero, zj_remn, zj_divn]
  rw [bb.2.2.2.2.2.2.1, hK]
  refine ⟨fun c3 => ?_, fun c3 => ?_⟩
  · have d4 : tk_d T n s = 4 := by
      have : ¬ K = 3 := fun z => c3 ⟨by omega, z⟩
      omega
    exact out _ _ _ a2 (by rw [g9, d4]; rfl) g10 (fun z => absurd d4 z) (fun z => by omega) (fun z => by omega)
  · have e9 : gz (zpi h2 78 9 (zj 4)) 78 8 = P := by rw [gz_pi0 (by omega)]; exact g8
    rw [e9]
    refine out _ _ _ ((a2.pi (j := 9) (by omega) (by omega)).pi (j := 8) (by omega) (by omega)) ?_ ?_ (fun _ => ?_) (fun z => by omega) (fun z => by omega)
    · rw [gz_pi0 (by omega), gz_pi1 (by omega) (by omega), dD, c3.2]; rfl
    · rw [gz_pi0 (by omega), gz_pi0 (by omega)]; exact g10
    · rw [gz_pi1 (by omega) (by omega)]; omega
end ZMT
