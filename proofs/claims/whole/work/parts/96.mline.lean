section ZMY
variable {X : Nat × (Nat → Int32)} {R : zRt} {h h' h0 h1 h2 : zHp} {t : Nat} {T : Nat → Int} {n s : Nat} {D D' : zDt} {e : zEr}
theorem zMI.step (I : zMI h0 h t T n s D) (e1 : h'.1 = h.1) (e2 : h'.2.2.2 = h.2.2.2) (ei : ∀ x y, ¬ (t ≤ x ∧ x ≤ t + 13) → zgi h' x y = zgi h x y) (el : ∀ x y, ¬ (t ≤ x ∧ x ≤ t + 13) → zgl h' x y = zgl h x y) (d : zMD h' t D') (o : zDo D') : zMI h0 h' t T n s D' := by
  have ht := I.b.2.2
  have g : ∀ y, gz h' 78 y = gz h 78 y := fun y => congrArg Int32.toInt (ei 78 y (by omega))
  refine ⟨I.w.mr e1 e2, I.q.mr e1 e2, ?_, I.f.tr ⟨e1, e2, fun x y q1 _ => ei x y q1, fun x y q1 _ => el x y q1⟩, d, o, I.b, ?_, I.tx, ?_, ?_⟩
  · rw [← I.r]; unfold zgr; rw [e2]
  · rw [g]; exact I.en
  · rw [g]; exact I.z
  · unfold zTok
    rw [g, g, g, g, el 78 14 (by omega)]; exact I.k
theorem zMI.k5 (I : zMI h0 h t T n s D) : zgi h 78 9 = zj (zmk (tk_d T n s)) := by rw [zgi_gz, I.k.1]
theorem zMF.k5 (F : zMF h0 h t e) : zgi h 78 9 = zj 5 := by rw [zgi_gz, F.k]
theorem cm_readTube (pk : zPk X) (I : zMI h0 h t T n s D) (hd : ¬ tk_d T n s = 4) (k1 : ∀ a, pTube T n D (tk_p T n s) (tk_e T n s) = .inr a → ∀ h', zMI h0 h' t T n a.2 a.1 → R none h') (k0 : ∀ e, pTube T n D (tk_p T n s) (tk_e T n s) = .inl e → ∀ h', zMF h0 h' t e → R none h') : zCC X M_X9_readTube [.ref 78] h R := by
  have w := I.w
  have q := I.q
  have r := I.r
  have o1 := I.o.1
  unfold pTube at k1 k0
  have ov46 : ∀ h1 z, R none h1 → zV X M_X9_readTube (zQm M_X9_readTube R) 0 0 46 [.ref 78, z] [] h1 := fun h1 z k => by
    refine vb_X9_readTube_46 _ _ _ ?_
    simp only [B_X9_readTube_46, oPI, oPL, oILOAD, oLLOAD, oALOAD, oISTORE, oASTORE, oLSTORE, oIINC, oIADD, oISUB, oIMUL, oIAND, oIOR, oIXOR, oIDIV, oIREM, oISHL, oISHR, oIUSHR, oLADD, oLSUB, oLMUL, oLOR, oLDIV, oLREM, oLCMP, oLSHL, oINEG, oI2L, oL2I, oI2B, oI2C, oDUP, oPOP, oDUP2, oIFEQ, oICEQ, oIFNE, oICNE, oIFLT, oICLT, oIFGE, oICGE, oIFGT, oICGT, oIFLE, oICLE, oIFNULL, oIFNONNULL, oTSW, oLSW, oGETI, oGETL, oGETR, oPUTI, oPUTZ, oPUTL, oPUTR, oIALD, oBALD, oZALD, oLALD, oAALD, oALEN, oIAST, oBAST, oZAST, oLAST, oIRET, oZRET, oLRET, oVRET, oARET, oOBJ, oINI, oPS, oNEW, oNEWAI, oNEWAB, oNEWAZ, oNEWAL, oCOPY, oINV0, oINS0, oINV1, oINS1, oINV2, oINS2, oINV3, oINS3, oINV4, oINS4, oINV5, oINS5, oINV6, oINS6, List.getElem?_cons_zero, List.getElem?_cons_succ, List.set_cons_zero, List.set_cons_succ, znl, zs4, zc1, true_and, and_self, Value.category, Option.toList, List.cons_append, List.nil_append, zvr]
    exact k
  refine zCC_of (ls := [.ref 78, .retAddr 0]) pf_X9_readTube rfl (Nat.le_of_ble_eq_true rfl) ?_
  refine vb_X9_readTube_0 _ _ _ ?_
  simp only [B_X9_readTube_0, oPI, oPL, oILOAD, oLLOAD, oALOAD, oISTORE, oASTORE, oLSTORE, oIINC, oIADD, oISUB, oIMUL, oIAND, oIOR, oIXOR, oIDIV, oIREM, oISHL, oISHR, oIUSHR, oLADD, oLSUB, oLMUL, oLOR, oLDIV, oLREM, oLCMP, oLSHL, oINEG, oI2L, oL2I, oI2B, oI2C, oDUP, oPOP, oDUP2, oIFEQ, oICEQ, oIFNE, oICNE, oIFLT, oICLT, oIFGE, oICGE, oIFGT, oICGT, oIFLE, oICLE, oIFNULL, oIFNONNULL, oTSW, oLSW, oGETI, oGETL, oGETR, oPUTI, oPUTZ, oPUTL, oPUTR, oIALD, oBALD, oZALD, oLALD, oAALD, oALEN, oIAST, oBAST, oZAST, oLAST, oIRET, oZRET, oLRET, oVRET, oARET, oOBJ, oINI, oPS, oNEW, oNEWAI, oNEWAB, oNEWAZ, oNEWAL, oCOPY, oINV0, oINS0, oINV1, oINS1, oINV2, oINS2, oINV3, oINS3, oINV4, oINS4, oINV5, oINS5, oINV6, oINS6, List.getElem?_cons_zero, List.getElem?_cons_succ, List.set_cons_zero, List.set_cons_succ, znl, zs4, zc1, true_and, and_self, Value.category, Option.toList, List.cons_append, List.nil_append, zvr, mw_s w, mw_s79 w, mw_s80 w, mw_s81 w, mw_s82 w, mw_s83 w, mw_s84 w, mw_s85 w, mw_r5 w, mw_r15 w, mw_r16 w, mw_r17 w, mw_r18 w, mw_r21 w, mw_r22 w, zq_s q, zq_s1 q, zq_r8 q, zq_s2 q, zq_r9 q, zq_s3 q, zq_r10 q, zq_s4 q, zq_r11 q, zq_s5 q, zq_r12 q, zq_s6 q, zq_r13 q, zq_s7 q, zq_r14 q, zq_s8 q, zq_r15 q, zq_s9 q, zq_r16 q, zq_s10 q, zq_r17 q, zq_s11 q, zq_r18 q, zq_s12 q, zq_r19 q, zq_s13 q, zq_r20 q, r]
  rw [zgi_gz h t 0, I.d.1]
  try simp (disch := omega) only [zgi_gz, zj_cn, zj_lt, zj_le, zj_eq, zj_add, zj_sub, zj_mul, zj_neg, zj_lt0, zj_le0, zj_0le, zj_0lt, zj_eq0, zb_0, zb_z, Classical.not_not, Int.zero_add, Int.add_zero, zj_remn, zj_divn]
  refine ⟨fun c => ?_, fun c => ?_⟩
  rotate_left
  · refine cm_flaw (f := 3) (by omega) I (fun h1 F1 => ?_)
    have w1 := F1.w
    have kk := k0 _ (zif_f c) h1 F1
    simp only [oPI, oPL, oILOAD, oLLOAD, oALOAD, oISTORE, oASTORE, oLSTORE, oIINC, oIADD, oISUB, oIMUL, oIAND, oIOR, oIXOR, oIDIV, oIREM, oISHL, oISHR, oIUSHR, oLADD, oLSUB, oLMUL, oLOR, oLDIV, oLREM, oLCMP, oLSHL, oINEG, oI2L, oL2I, oI2B, oI2C, oDUP, oPOP, oDUP2, oIFEQ, oICEQ, oIFNE, oICNE, oIFLT, oICLT, oIFGE, oICGE, oIFGT, oICGT, oIFLE, oICLE, oIFNULL, oIFNONNULL, oTSW, oLSW, oGETI, oGETL, oGETR, oPUTI, oPUTZ, oPUTL, oPUTR, oIALD, oBALD, oZALD, oLALD, oAALD, oALEN, oIAST, oBAST, oZAST, oLAST, oIRET, oZRET, oLRET, oVRET, oARET, oOBJ, oINI, oPS, oNEW, oNEWAI, oNEWAB, oNEWAZ, oNEWAL, oCOPY, oINV0, oINS0, oINV1, oINS1, oINV2, oINS2, oINV3, oINS3, oINV4, oINS4, oINV5, oINS5, oINV6, oINS6, List.getElem?_cons_zero, List.getElem?_cons_succ, List.set_cons_zero, List.set_cons_succ, znl, zs4, zc1, true_and, and_self, Value.category, Option.toList, List.cons_append, List.nil_append, zvr]
    refine vb_X9_readTube_16 _ _ _ ?_
    simp only [B_X9_readTube_16, oPI, oPL, oILOAD, oLLOAD, oALOAD, oISTORE, oASTORE, oLSTORE, oIINC, oIADD, oISUB, oIMUL, oIAND, oIOR, oIXOR, oIDIV, oIREM, oISHL, oISHR, oIUSHR, oLADD, oLSUB, oLMUL, oLOR, oLDIV, oLREM, oLCMP, oLSHL, oINEG, oI2L, oL2I, oI2B, oI2C, oDUP, oPOP, oDUP2, oIFEQ, oICEQ, oIFNE, oICNE, oIFLT, oICLT, oIFGE, oICGE, oIFGT, oICGT, oIFLE, oICLE, oIFNULL, oIFNONNULL, oTSW, oLSW, oGETI, oGETL, oGETR, oPUTI, oPUTZ, oPUTL, oPUTR, oIALD, oBALD, oZALD, oLALD, oAALD, oALEN, oIAST, oBAST, oZAST, oLAST, oIRET, oZRET, oLRET, oVRET, oARET, oOBJ, oINI, oPS, oNEW, oNEWAI, oNEWAB, oNEWAZ, oNEWAL, oCOPY, oINV0, oINS0, oINV1, oINS1, oINV2, oINS2, oINV3, oINS3, oINV4, oINS4, oINV5, oINS5, oINV6, oINS6, List.getElem?_cons_zero, List.getElem?_cons_succ, List.set_cons_zero, List.set_cons_succ, znl, zs4, zc1, true_and, and_self, Value.category, Option.toList, List.cons_append, List.nil_append, zvr, mw_s w1, mw_s79 w1, mw_s80 w1, mw_s81 w1, mw_s82 w1, mw_s83 w1, mw_s84 w1, mw_s85 w1, mw_r5 w1, mw_r15 w1, mw_r16 w1, mw_r17 w1, mw_r18 w1, mw_r21 w1, mw_r22 w1]
    refine co_goesOn F1 ?_
    simp only [oPI, oPL, oILOAD, oLLOAD, oALOAD, oISTORE, oASTORE, oLSTORE, oIINC, oIADD, oISUB, oIMUL, oIAND, oIOR, oIXOR, oIDIV, oIREM, oISHL, oISHR, oIUSHR, oLADD, oLSUB, oLMUL, oLOR, oLDIV, oLREM, oLCMP, oLSHL, oINEG, oI2L, oL2I, oI2B, oI2C, oDUP, oPOP, oDUP2, oIFEQ, oICEQ, oIFNE, oICNE, oIFLT, oICLT, oIFGE, oICGE, oIFGT, oICGT, oIFLE, oICLE, oIFNULL, oIFNONNULL, oTSW, oLSW, oGETI, oGETL, oGETR, oPUTI, oPUTZ, oPUTL, oPUTR, oIALD, oBALD, oZALD, oLALD, oAALD, oALEN, oIAST, oBAST, oZAST, oLAST, oIRET, oZRET, oLRET, oVRET, oARET, oOBJ, oINI, oPS, oNEW, oNEWAI, oNEWAB, oNEWAZ, oNEWAL, oCOPY, oINV0, oINS0, oINV1, oINS1, oINV2, oINS2, oINV3, oINS3, oINV4, oINS4, oINV5, oINS5, oINV6, oINS6, List.getElem?_cons_zero, List.getElem?_cons_succ, List.set_cons_zero, List.set_cons_succ, znl, zs4, zc1, true_and, and_self, Value.category, Option.toList, List.cons_append, List.nil_append, zvr, mw_s w1, mw_s79 w1, mw_s80 w1, mw_s81 w1, mw_s82 w1, mw_s83 w1, mw_s84 w1, mw_s85 w1, mw_r5 w1, mw_r15 w1, mw_r16 w1, mw_r17 w1, mw_r18 w1, mw_r21 w1, mw_r22 w1]
    refine co_readPart F1 ?_
    simp only [oPI, oPL, oILOAD, oLLOAD, oALOAD, oISTORE, oASTORE, oLSTORE, oIINC, oIADD, oISUB, oIMUL, oIAND, oIOR, oIXOR, oIDIV, oIREM, oISHL, oISHR, oIUSHR, oLADD, oLSUB, oLMUL, oLOR, oLDIV, oLREM, oLCMP, oLSHL, oINEG, oI2L, oL2I, oI2B, oI2C, oDUP, oPOP, oDUP2, oIFEQ, oICEQ, oIFNE, oICNE, oIFLT, oICLT, oIFGE, oICGE, oIFGT, oICGT, oIFLE, oICLE, oIFNULL, oIFNONNULL, oTSW, oLSW, oGETI, oGETL, oGETR, oPUTI, oPUTZ, oPUTL, oPUTR, oIALD, oBALD, oZALD, oLALD, oAALD, oALEN, oIAST, oBAST, oZAST, oLAST, oIRET, oZRET, oLRET, oVRET, oARET, oOBJ, oINI, oPS, oNEW, oNEWAI, oNEWAB, oNEWAZ, oNEWAL, oCOPY, oINV0, oINS0, oINV1, oINS1, oINV2, oINS2, oINV3, oINS3, oINV4, oINS4, oINV5, oINS5, oINV6, oINS6, List.getElem?_cons_zero, List.getElem?_cons_succ, List.set_cons_zero, List.set_cons_succ, znl, zs4, zc1, true_and, and_self, Value.category, Option.toList, List.cons_append, List.nil_append, zvr, mw_s w1, mw_s79 w1, mw_s80 w1, mw_s81 w1, mw_s82 w1, mw_s83 w1, mw_s84 w1, mw_s85 w1, mw_r5 w1, mw_r15 w1, mw_r16 w1, mw_r17 w1, mw_r18 w1, mw_r21 w1, mw_r22 w1]
    rw [F1.k5]
    exact ⟨fun _ => ov46 h1 _ kk, fun z => absurd rfl z⟩
  rw [zif_t c] at k1 k0
  refine vb_X9_readTube_16 _ _ _ ?_
  simp only [B_X9_readTube_16, oPI, oPL, oILOAD, oLLOAD, oALOAD, oISTORE, oASTORE, oLSTORE, oIINC, oIADD, oISUB, oIMUL, oIAND, oIOR, oIXOR, oIDIV, oIREM, oISHL, oISHR, oIUSHR, oLADD, oLSUB, oLMUL, oLOR, oLDIV, oLREM, oLCMP, oLSHL, oINEG, oI2L, oL2I, oI2B, oI2C, oDUP, oPOP, oDUP2, oIFEQ, oICEQ, oIFNE, oICNE, oIFLT, oICLT, oIFGE, oICGE, oIFGT, oICGT, oIFLE, oICLE, oIFNULL, oIFNONNULL, oTSW, oLSW, oGETI, oGETL, oGETR, oPUTI, oPUTZ, oPUTL, oPUTR, oIALD, oBALD, oZALD, oLALD, oAALD, oALEN, oIAST, oBAST, oZAST, oLAST, oIRET, oZRET, oLRET, oVRET, oARET, oOBJ, oINI, oPS, oNEW, oNEWAI, oNEWAB, oNEWAZ, oNEWAL, oCOPY, oINV0, oINS0, oINV1, oINS1, oINV2, oINS2, oINV3, oINS3, oINV4, oINS4, oINV5, oINS5, oINV6, oINS6, List.getElem?_cons_zero, List.getElem?_cons_succ, List.set_cons_zero, List.set_cons_succ, znl, zs4, zc1, true_and, and_self, Value.category, Option.toList, List.cons_append, List.nil_append, zvr, mw_s w, mw_s79 w, mw_s80 w, mw_s81 w, mw_s82 w, mw_s83 w, mw_s84 w, mw_s85 w, mw_r5 w, mw_r15 w, mw_r16 w, mw_r17 w, mw_r18 w, mw_r21 w, mw_r22 w]
  refine cm_goesOnR I hd (fun h1 I1 => ?_)
  have w1 := I1.w
  simp only [oPI, oPL, oILOAD, oLLOAD, oALOAD, oISTORE, oASTORE, oLSTORE, oIINC, oIADD, oISUB, oIMUL, oIAND, oIOR, oIXOR, oIDIV, oIREM, oISHL, oISHR, oIUSHR, oLADD, oLSUB, oLMUL, oLOR, oLDIV, oLREM, oLCMP, oLSHL, oINEG, oI2L, oL2I, oI2B, oI2C, oDUP, oPOP, oDUP2, oIFEQ, oICEQ, oIFNE, oICNE, oIFLT, oICLT, oIFGE, oICGE, oIFGT, oICGT, oIFLE, oICLE, oIFNULL, oIFNONNULL, oTSW, oLSW, oGETI, oGETL, oGETR, oPUTI, oPUTZ, oPUTL, oPUTR, oIALD, oBALD, oZALD, oLALD, oAALD, oALEN, oIAST, oBAST, oZAST, oLAST, oIRET, oZRET, oLRET, oVRET, oARET, oOBJ, oINI, oPS, oNEW, oNEWAI, oNEWAB, oNEWAZ, oNEWAL, oCOPY, oINV0, oINS0, oINV1, oINS1, oINV2, oINS2, oINV3, oINS3, oINV4, oINS4, oINV5, oINS5, oINV6, oINS6, List.getElem?_cons_zero, List.getElem?_cons_succ, List.set_cons_zero, List.set_cons_succ, znl, zs4, zc1, true_and, and_self, Value.category, Option.toList, List.cons_append, List.nil_append, zvr, mw_s w1, mw_s79 w1, mw_s80 w1, mw_s81 w1, mw_s82 w1, mw_s83 w1, mw_s84 w1, mw_s85 w1, mw_r5 w1, mw_r15 w1, mw_r16 w1, mw_r17 w1, mw_r18 w1, mw_r21 w1, mw_r22 w1]
  refine cm_readPart pk I1 (i := 1) (m := 100) (by omega) (by omega) (fun s1 a e1 e2 h2 I2 => ?_) (fun e he h2 F2 => ?_)
  rotate_left
  · have w2 := F2.w
    simp only [oPI, oPL, oILOAD, oLLOAD, oALOAD, oISTORE, oASTORE, oLSTORE, oIINC, oIADD, oISUB, oIMUL, oIAND, oIOR, oIXOR, oIDIV, oIREM, oISHL, oISHR, oIUSHR, oLADD, oLSUB, oLMUL, oLOR, oLDIV, oLREM, oLCMP, oLSHL, oINEG, oI2L, oL2I, oI2B, oI2C, oDUP, oPOP, oDUP2, oIFEQ, oICEQ, oIFNE, oICNE, oIFLT, oICLT, oIFGE, oICGE, oIFGT, oICGT, oIFLE, oICLE, oIFNULL, oIFNONNULL, oTSW, oLSW, oGETI, oGETL, oGETR, oPUTI, oPUTZ, oPUTL, oPUTR, oIALD, oBALD, oZALD, oLALD, oAALD, oALEN, oIAST, oBAST, oZAST, oLAST, oIRET, oZRET, oLRET, oVRET, oARET, oOBJ, oINI, oPS, oNEW, oNEWAI, oNEWAB, oNEWAZ, oNEWAL, oCOPY, oINV0, oINS0, oINV1, oINS1, oINV2, oINS2, oINV3, oINS3, oINV4, oINS4, oINV5, oINS5, oINV6, oINS6, List.getElem?_cons_zero, List.getElem?_cons_succ, List.set_cons_zero, List.set_cons_succ, znl, zs4, zc1, true_and, and_self, Value.category, Option.toList, List.cons_append, List.nil_append, zvr, mw_s w2, mw_s79 w2, mw_s80 w2, mw_s81 w2, mw_s82 w2, mw_s83 w2, mw_s84 w2, mw_s85 w2, mw_r5 w2, mw_r15 w2, mw_r16 w2, mw_r17 w2, mw_r18 w2, mw_r21 w2, mw_r22 w2]
    rw [F2.k5]
    refine ⟨fun _ => ov46 h2 _ (k0 e ?_ h2 F2), fun z => absurd rfl z⟩
    rcases he with q1 | ⟨s1, q1, q2⟩
    · rw [q1]; rfl
    · rw [q1]; show zbd (pN T n 100 s1) _ = _; rw [q2]; rfl
  have w2 := I2.w
  have q2 := I2.q
  have r2 := I2.r
  have zb := zmk_b T n a.2
  have ra := pW_r I1.b.2.1 e1
  have rb := pN_r ra.2.1 e2
  simp only [oPI, oPL, oILOAD, oLLOAD, oALOAD, oISTORE, oASTORE, oLSTORE, oIINC, oIADD, oISUB, oIMUL, oIAND, oIOR, oIXOR, oIDIV, oIREM, oISHL, oISHR, oIUSHR, oLADD, oLSUB, oLMUL, oLOR, oLDIV, oLREM, oLCMP, oLSHL, oINEG, oI2L, oL2I, oI2B, oI2C, oDUP, oPOP, oDUP2, oIFEQ, oICEQ, oIFNE, oICNE, oIFLT, oICLT, oIFGE, oICGE, oIFGT, oICGT, oIFLE, oICLE, oIFNULL, oIFNONNULL, oTSW, oLSW, oGETI, oGETL, oGETR, oPUTI, oPUTZ, oPUTL, oPUTR, oIALD, oBALD, oZALD, oLALD, oAALD, oALEN, oIAST, oBAST, oZAST, oLAST, oIRET, oZRET, oLRET, oVRET, oARET, oOBJ, oINI, oPS, oNEW, oNEWAI, oNEWAB, oNEWAZ, oNEWAL, oCOPY, oINV0, oINS0, oINV1, oINS1, oINV2, oINS2, oINV3, oINS3, oINV4, oINS4, oINV5, oINS5, oINV6, oINS6, List.getElem?_cons_zero, List.getElem?_cons_succ, List.set_cons_zero, List.set_cons_succ, znl, zs4, zc1, true_and, and_self, Value.category, Option.toList, List.cons_append, List.nil_append, zvr, mw_s w2, mw_s79 w2, mw_s80 w2, mw_s81 w2, mw_s82 w2, mw_s83 w2, mw_s84 w2, mw_s85 w2, mw_r5 w2, mw_r15 w2, mw_r16 w2, mw_r17 w2, mw_r18 w2, mw_r21 w2, mw_r22 w2, zq_s q2, zq_s1 q2, zq_r8 q2, zq_s2 q2, zq_r9 q2, zq_s3 q2, zq_r10 q2, zq_s4 q2, zq_r11 q2, zq_s5 q2, zq_r12 q2, zq_s6 q2, zq_r13 q2, zq_s7 q2, zq_r14 q2, zq_s8 q2, zq_r15 q2, zq_s9 q2, zq_r16 q2, zq_s10 q2, zq_r17 q2, zq_s11 q2, zq_r18 q2, zq_s12 q2, zq_r19 q2, zq_s13 q2, zq_r20 q2, r2]
  rw [I2.k5]
  try simp (disch := omega) only [zgi_gz, zj_cn, zj_lt, zj_le, zj_eq, zj_add, zj_sub, zj_mul, zj_neg, zj_lt0, zj_le0, zj_0le, zj_0lt, zj_eq0, zb_0, zb_z, Classical.not_not, Int.zero_add, Int.add_zero, zj_remn, zj_divn]
  refine ⟨fun c => by omega, fun _ => ?_⟩
  refine ov46 _ _ (k1 (((a.1 : Int), D.2), a.2) (by rw [e1]; show zbd (pN T n 100 s1) _ = _; rw [e2]; rfl) _ (I2.step rfl rfl (fun x y z => zpi_o (by omega)) (fun _ _ _ => rfl) ?_ (zDo_ch I.o (by omega) (by omega))))
  have g : ∀ x y, ¬ (x = t ∧ y = 0) → gz (zpi h2 t 0 (zj (a.1 : Nat))) x y = gz h2 x y := fun x y z => gz_pi0 z
  obtain ⟨-, d1, d2, d3, rb, d4, rm, d5, rh, d6, rp, d7, rn⟩ := I2.d
  refine ⟨gz_pi1 (by omega) (by omega), ?_, ?_, ?_, fun i b hb => ?_, ?_, fun i x hx => ?_, ?_, fun i x hx => ?_, ?_, fun i x hx => ?_, ?_, fun i x hx => ?_⟩
  · rw [g _ _ (by omega)]; exact d1
  · rw [g _ _ (by omega)]; exact d2
  · rw [g _ _ (by omega)]; exact d3
  · rw [g _ _ (by omega), g _ _ (by omega), g _ _ (by omega), g _ _ (by omega)]; exact rb i b hb
  · rw [g _ _ (by omega)]; exact d4
  · rw [g _ _ (by omega)]; exact rm i x hx
  · rw [g _ _ (by omega)]; exact d5
  · rw [g _ _ (by omega)]; exact rh i x hx
  · rw [g _ _ (by omega)]; exact d6
  · rw [g _ _ (by omega), g _ _ (by omega)]; exact rp i x hx
  · rw [g _ _ (by omega)]; exact d7
  · rw [g _ _ (by omega), g _ _ (by omega)]; exact rn i x hx
def znw (h : zHp) (t N : Nat) (x : Int64) (kd ix : Int32) : zHp := zpi (zpi (zpi (zpl h (t + 11) N x) (t + 12) N kd) (t + 13) N ix) t 7 (zj ((N : Int) + 1))
theorem cm_names {N : Nat} {x : Int64} {kd ix : Int32} (w : zMW h) (q : zTq h t) (r : zgr h 78 4 = some t) (hN : gz h t 7 = N) (h10 : N < 10) (k : R none (znw h t N x kd ix)) : zCC X M_X9_names [.ref 78, .long x, .int kd, .int ix] h R := by
  unfold znw at k
  refine zCC_of (ls := [.ref 78, .long x, .retAddr 0, .int kd, .int ix]) pf_X9_names rfl (Nat.le_of_ble_eq_true rfl) ?_
  refine vb_X9_names_0 _ _ _ ?_
  simp only [B_X9_names_0, oPI, oPL, oILOAD, oLLOAD, oALOAD, oISTORE, oASTORE, oLSTORE, oIINC, oIADD, oISUB, oIMUL, oIAND, oIOR, oIXOR, oIDIV, oIREM, oISHL, oISHR, oIUSHR, oLADD, oLSUB, oLMUL, oLOR, oLDIV, oLREM, oLCMP, oLSHL, oINEG, oI2L, oL2I, oI2B, oI2C, oDUP, oPOP, oDUP2, oIFEQ, oICEQ, oIFNE, oICNE, oIFLT, oICLT, oIFGE, oICGE, oIFGT, oICGT, oIFLE, oICLE, oIFNULL, oIFNONNULL, oTSW, oLSW, oGETI, oGETL, oGETR, oPUTI, oPUTZ, oPUTL, oPUTR, oIALD, oBALD, oZALD, oLALD, oAALD, oALEN, oIAST, oBAST, oZAST, oLAST, oIRET, oZRET, oLRET, oVRET, oARET, oOBJ, oINI, oPS, oNEW, oNEWAI, oNEWAB, oNEWAZ, oNEWAL, oCOPY, oINV0, oINS0, oINV1, oINS1, oINV2, oINS2, oINV3, oINS3, oINV4, oINS4, oINV5, oINS5, oINV6, oINS6, List.getElem?_cons_zero, List.getElem?_cons_succ, List.set_cons_zero, List.set_cons_succ, znl, zs4, zc1, true_and, and_self, Value.category, Option.toList, List.cons_append, List.nil_append, zvr, mw_s w, mw_s79 w, mw_s80 w, mw_s81 w, mw_s82 w, mw_s83 w, mw_s84 w, mw_s85 w, mw_r5 w, mw_r15 w, mw_r16 w, mw_r17 w, mw_r18 w, mw_r21 w, mw_r22 w, zq_s q, zq_s1 q, zq_r8 q, zq_s2 q, zq_r9 q, zq_s3 q, zq_r10 q, zq_s4 q, zq_r11 q, zq_s5 q, zq_r12 q, zq_s6 q, zq_r13 q, zq_s7 q, zq_r14 q, zq_s8 q, zq_r15 q, zq_s9 q, zq_r16 q, zq_s10 q, zq_r17 q, zq_s11 q, zq_r18 q, zq_s12 q, zq_r19 q, zq_s13 q, zq_r20 q, r, zsh_pi, zsh_pl, zgr_pi, zgr_pl]
  simp (disch := omega) only [zpi_o, zgi_plo]
  rw [zgi_gz h t 7, hN, zj_cn (by omega), zj_add]
  exact ⟨zj_in (by omega) (by omega) (by omega), zj_in (by omega) (by omega) (by omega), zj_in (by omega) (by omega) (by omega), k⟩
theorem cm_readHoliday (I : zMI h0 h t T n s D) (hd : ¬ tk_d T n s = 4) (k1 : ∀ a, (zif (D.1 = -1) (.inl (6, tk_p T n s)) (pHol T n D (tk_p T n s) (tk_e T n s)) : zEr ⊕ (zDt × Nat)) = .inr a → ∀ h', zMI h0 h' t T n a.2 a.1 → R none h') (k0 : ∀ e, (zif (D.1 = -1) (.inl (6, tk_p T n s)) (pHol T n D (tk_p T n s) (tk_e T n s)) : zEr ⊕ (zDt × Nat)) = .inl e → ∀ h', zMF h0 h' t e → R none h') : zCC X M_X9_readHoliday [.ref 78] h R := by
  have w := I.w
  have q := I.q
  have r := I.r
  have ob := I.o.2.2.1
  have o2 := I.o.2.1
  unfold pHol at k1 k0
  have ov45 : ∀ e h1 z, zMF h0 h1 t e → R none h1 → zV X M_X9_readHoliday (zQm M_X9_readHoliday R) 0 0 45 [.ref 78, z] [] h1 := fun e h1 z F1 k => by
    have w1 := F1.w
    refine vb_X9_readHoliday_45 _ _ _ ?_
    simp only [B_X9_readHoliday_45, oPI, oPL, oILOAD, oLLOAD, oALOAD, oISTORE, oASTORE, oLSTORE, oIINC, oIADD, oISUB, oIMUL, oIAND, oIOR, oIXOR, oIDIV, oIREM, oISHL, oISHR, oIUSHR, oLADD, oLSUB, oLMUL, oLOR, oLDIV, oLREM, oLCMP, oLSHL, oINEG, oI2L, oL2I, oI2B, oI2C, oDUP, oPOP, oDUP2, oIFEQ, oICEQ, oIFNE, oICNE, oIFLT, oICLT, oIFGE, oICGE, oIFGT, oICGT, oIFLE, oICLE, oIFNULL, oIFNONNULL, oTSW, oLSW, oGETI, oGETL, oGETR, oPUTI, oPUTZ, oPUTL, oPUTR, oIALD, oBALD, oZALD, oLALD, oAALD, oALEN, oIAST, oBAST, oZAST, oLAST, oIRET, oZRET, oLRET, oVRET, oARET, oOBJ, oINI, oPS, oNEW, oNEWAI, oNEWAB, oNEWAZ, oNEWAL, oCOPY, oINV0, oINS0, oINV1, oINS1, oINV2, oINS2, oINV3, oINS3, oINV4, oINS4, oINV5, oINS5, oINV6, oINS6, List.getElem?_cons_zero, List.getElem?_cons_succ, List.set_cons_zero, List.set_cons_succ, znl, zs4, zc1, true_and, and_self, Value.category, Option.toList, List.cons_append, List.nil_append, zvr, mw_s w1, mw_s79 w1, mw_s80 w1, mw_s81 w1, mw_s82 w1, mw_s83 w1, mw_s84 w1, mw_s85 w1, mw_r5 w1, mw_r15 w1, mw_r16 w1, mw_r17 w1, mw_r18 w1, mw_r21 w1, mw_r22 w1]
    refine co_goesOn F1 ?_
    simp only [oPI, oPL, oILOAD, oLLOAD, oALOAD, oISTORE, oASTORE, oLSTORE, oIINC, oIADD, oISUB, oIMUL, oIAND, oIOR, oIXOR, oIDIV, oIREM, oISHL, oISHR, oIUSHR, oLADD, oLSUB, oLMUL, oLOR, oLDIV, oLREM, oLCMP, oLSHL, oINEG, oI2L, oL2I, oI2B, oI2C, oDUP, oPOP, oDUP2, oIFEQ, oICEQ, oIFNE, oICNE, oIFLT, oICLT, oIFGE, oICGE, oIFGT, oICGT, oIFLE, oICLE, oIFNULL, oIFNONNULL, oTSW, oLSW, oGETI, oGETL, oGETR, oPUTI, oPUTZ, oPUTL, oPUTR, oIALD, oBALD, oZALD, oLALD, oAALD, oALEN, oIAST, oBAST, oZAST, oLAST, oIRET, oZRET, oLRET, oVRET, oARET, oOBJ, oINI, oPS, oNEW, oNEWAI, oNEWAB, oNEWAZ, oNEWAL, oCOPY, oINV0, oINS0, oINV1, oINS1, oINV2, oINS2, oINV3, oINS3, oINV4, oINS4, oINV5, oINS5, oINV6, oINS6, List.getElem?_cons_zero, List.getElem?_cons_succ, List.set_cons_zero, List.set_cons_succ, znl, zs4, zc1, true_and, and_self, Value.category, Option.toList, List.cons_append, List.nil_append, zvr, mw_s w1, mw_s79 w1, mw_s80 w1, mw_s81 w1, mw_s82 w1, mw_s83 w1, mw_s84 w1, mw_s85 w1, mw_r5 w1, mw_r15 w1, mw_r16 w1, mw_r17 w1, mw_r18 w1, mw_r21 w1, mw_r22 w1]
    rw [F1.k5]
    exact ⟨fun z => absurd rfl z, fun _ => k⟩
  have ov : ∀ e h1, zMF h0 h1 t e → R none h1 → zCC X M_X9_bounded [.ref 78, .int (zj 0), .int (zj 99)] h1 (fun rv h' => ∃ x, rv = some (.int x) ∧ zV X M_X9_readHoliday (zQm M_X9_readHoliday R) 0 0 45 [.ref 78, .int x] [] h1 ∧ h' = h1) := fun e h1 F1 k => co_bounded F1 ⟨_, rfl, ov45 e h1 _ F1 k, rfl⟩
  clear ov
  refine zCC_of (ls := [.ref 78, .retAddr 0]) pf_X9_readHoliday rfl (Nat.le_of_ble_eq_true rfl) ?_
  refine vb_X9_readHoliday_0 _ _ _ ?_
  simp only [B_X9_readHoliday_0, oPI, oPL, oILOAD, oLLOAD, oALOAD, oISTORE, oASTORE, oLSTORE, oIINC, oIADD, oISUB, oIMUL, oIAND, oIOR, oIXOR, oIDIV, oIREM, oISHL, oISHR, oIUSHR, oLADD, oLSUB, oLMUL, oLOR, oLDIV, oLREM, oLCMP, oLSHL, oINEG, oI2L, oL2I, oI2B, oI2C, oDUP, oPOP, oDUP2, oIFEQ, oICEQ, oIFNE, oICNE, oIFLT, oICLT, oIFGE, oICGE, oIFGT, oICGT, oIFLE, oICLE, oIFNULL, oIFNONNULL, oTSW, oLSW, oGETI, oGETL, oGETR, oPUTI, oPUTZ, oPUTL, oPUTR, oIALD, oBALD, oZALD, oLALD, oAALD, oALEN, oIAST, oBAST, oZAST, oLAST, oIRET, oZRET, oLRET, oVRET, oARET, oOBJ, oINI, oPS, oNEW, oNEWAI, oNEWAB, oNEWAZ, oNEWAL, oCOPY, oINV0, oINS0, oINV1, oINS1, oINV2, oINS2, oINV3, oINS3, oINV4, oINS4, oINV5, oINS5, oINV6, oINS6, List.getElem?_cons_zero, List.getElem?_cons_succ, List.set_cons_zero, List.set_cons_succ, znl, zs4, zc1, true_and, and_self, Value.category, Option.toList, List.cons_append, List.nil_append, zvr, mw_s w, mw_s79 w, mw_s80 w, mw_s81 w, mw_s82 w, mw_s83 w, mw_s84 w, mw_s85 w, mw_r5 w, mw_r15 w, mw_r16 w, mw_r17 w, mw_r18 w, mw_r21 w, mw_r22 w, zq_s q, zq_s1 q, zq_r8 q, zq_s2 q, zq_r9 q, zq_s3 q, zq_r10 q, zq_s4 q, zq_r11 q, zq_s5 q, zq_r12 q, zq_s6 q, zq_r13 q, zq_s7 q, zq_r14 q, zq_s8 q, zq_r15 q, zq_s9 q, zq_r16 q, zq_s10 q, zq_r17 q, zq_s11 q, zq_r18 q, zq_s12 q, zq_r19 q, zq_s13 q, zq_r20 q, r]
  rw [zgi_gz h t 5, I.d.2.2.2.2.2.2.2.1]
  have ovb : ∀ e h1, zMF h0 h1 t e → R none h1 → zMW h1 ∧ zTq h1 t ∧ zgr h1 78 4 = some t := fun e h1 F1 _ => ⟨F1.w, F1.q, F1.r⟩
  refine cm_lineBegins (a := D.2.2.2.1.length) (m := 8) I ob.2.2.1 (by omega) hd (fun c5 c6 h1 I1 => ?_) (fun c5 h1 F1 => ?_) (fun c5 c6 h1 F1 => ?_)
  rotate_left
  · have kk := k0 (5, tk_p T n s) (by rw [zif_f (fun z => by have := (o2 z).2.2.1; rw [this] at c5; simp at c5), zif_t (by omega)]) h1 F1
    have w1 := F1.w
    simp only [oPI, oPL, oILOAD, oLLOAD, oALOAD, oISTORE, oASTORE, oLSTORE, oIINC, oIADD, oISUB, oIMUL, oIAND, oIOR, oIXOR, oIDIV, oIREM, oISHL, oISHR, oIUSHR, oLADD, oLSUB, oLMUL, oLOR, oLDIV, oLREM, oLCMP, oLSHL, oINEG, oI2L, oL2I, oI2B, oI2C, oDUP, oPOP, oDUP2, oIFEQ, oICEQ, oIFNE, oICNE, oIFLT, oICLT, oIFGE, oICGE, oIFGT, oICGT, oIFLE, oICLE, oIFNULL, oIFNONNULL, oTSW, oLSW, oGETI, oGETL, oGETR, oPUTI, oPUTZ, oPUTL, oPUTR, oIALD, oBALD, oZALD, oLALD, oAALD, oALEN, oIAST, oBAST, oZAST, oLAST, oIRET, oZRET, oLRET, oVRET, oARET, oOBJ, oINI, oPS, oNEW, oNEWAI, oNEWAB, oNEWAZ, oNEWAL, oCOPY, oINV0, oINS0, oINV1, oINS1, oINV2, oINS2, oINV3, oINS3, oINV4, oINS4, oINV5, oINS5, oINV6, oINS6, List.getElem?_cons_zero, List.getElem?_cons_succ, List.set_cons_zero, List.set_cons_succ, znl, zs4, zc1, true_and, and_self, Value.category, Option.toList, List.cons_append, List.nil_append, zvr, mw_s w1, mw_s79 w1, mw_s80 w1, mw_s81 w1, mw_s82 w1, mw_s83 w1, mw_s84 w1, mw_s85 w1, mw_r5 w1, mw_r15 w1, mw_r16 w1, mw_r17 w1, mw_r18 w1, mw_r21 w1, mw_r22 w1]
    refine co_bounded F1 ?_
    simp only [oPI, oPL, oILOAD, oLLOAD, oALOAD, oISTORE, oASTORE, oLSTORE, oIINC, oIADD, oISUB, oIMUL, oIAND, oIOR, oIXOR, oIDIV, oIREM, oISHL, oISHR, oIUSHR, oLADD, oLSUB, oLMUL, oLOR, oLDIV, oLREM, oLCMP, oLSHL, oINEG, oI2L, oL2I, oI2B, oI2C, oDUP, oPOP, oDUP2, oIFEQ, oICEQ, oIFNE, oICNE, oIFLT, oICLT, oIFGE, oICGE, oIFGT, oICGT, oIFLE, oICLE, oIFNULL, oIFNONNULL, oTSW, oLSW, oGETI, oGETL, oGETR, oPUTI, oPUTZ, oPUTL, oPUTR, oIALD, oBALD, oZALD, oLALD, oAALD, oALEN, oIAST, oBAST, oZAST, oLAST, oIRET, oZRET, oLRET, oVRET, oARET, oOBJ, oINI, oPS, oNEW, oNEWAI, oNEWAB, oNEWAZ, oNEWAL, oCOPY, oINV0, oINS0, oINV1, oINS1, oINV2, oINS2, oINV3, oINS3, oINV4, oINS4, oINV5, oINS5, oINV6, oINS6, List.getElem?_cons_zero, List.getElem?_cons_succ, List.set_cons_zero, List.set_cons_succ, znl, zs4, zc1, true_and, and_self, Value.category, Option.toList, List.cons_append, List.nil_append, zvr, mw_s w1, mw_s79 w1, mw_s80 w1, mw_s81 w1, mw_s82 w1, mw_s83 w1, mw_s84 w1, mw_s85 w1, mw_r5 w1, mw_r15 w1, mw_r16 w1, mw_r17 w1, mw_r18 w1, mw_r21 w1, mw_r22 w1]
    rw [F1.k5]
    exact ⟨fun _ => ov45 _ h1 _ F1 kk, fun z => absurd rfl z⟩
  · have kk := k0 (6, tk_p T n s) (zif_t c6) h1 F1
    have w1 := F1.w
    simp only [oPI, oPL, oILOAD, oLLOAD, oALOAD, oISTORE, oASTORE, oLSTORE, oIINC, oIADD, oISUB, oIMUL, oIAND, oIOR, oIXOR, oIDIV, oIREM, oISHL, oISHR, oIUSHR, oLADD, oLSUB, oLMUL, oLOR, oLDIV, oLREM, oLCMP, oLSHL, oINEG, oI2L, oL2I, oI2B, oI2C, oDUP, oPOP, oDUP2, oIFEQ, oICEQ, oIFNE, oICNE, oIFLT, oICLT, oIFGE, oICGE, oIFGT, oICGT, oIFLE, oICLE, oIFNULL, oIFNONNULL, oTSW, oLSW, oGETI, oGETL, oGETR, oPUTI, oPUTZ, oPUTL, oPUTR, oIALD, oBALD, oZALD, oLALD, oAALD, oALEN, oIAST, oBAST, oZAST, oLAST, oIRET, oZRET, oLRET, oVRET, oARET, oOBJ, oINI, oPS, oNEW, oNEWAI, oNEWAB, oNEWAZ, oNEWAL, oCOPY, oINV0, oINS0, oINV1, oINS1, oINV2, oINS2, oINV3, oINS3, oINV4, oINS4, oINV5, oINS5, oINV6, oINS6, List.getElem?_cons_zero, List.getElem?_cons_succ, List.set_cons_zero, List.set_cons_succ, znl, zs4, zc1, true_and, and_self, Value.category, Option.toList, List.cons_append, List.nil_append, zvr, mw_s w1, mw_s79 w1, mw_s80 w1, mw_s81 w1, mw_s82 w1, mw_s83 w1, mw_s84 w1, mw_s85 w1, mw_r5 w1, mw_r15 w1, mw_r16 w1, mw_r17 w1, mw_r18 w1, mw_r21 w1, mw_r22 w1]
    refine co_bounded F1 ?_
    simp only [oPI, oPL, oILOAD, oLLOAD, oALOAD, oISTORE, oASTORE, oLSTORE, oIINC, oIADD, oISUB, oIMUL, oIAND, oIOR, oIXOR, oIDIV, oIREM, oISHL, oISHR, oIUSHR, oLADD, oLSUB, oLMUL, oLOR, oLDIV, oLREM, oLCMP, oLSHL, oINEG, oI2L, oL2I, oI2B, oI2C, oDUP, oPOP, oDUP2, oIFEQ, oICEQ, oIFNE, oICNE, oIFLT, oICLT, oIFGE, oICGE, oIFGT, oICGT, oIFLE, oICLE, oIFNULL, oIFNONNULL, oTSW, oLSW, oGETI, oGETL, oGETR, oPUTI, oPUTZ, oPUTL, oPUTR, oIALD, oBALD, oZALD, oLALD, oAALD, oALEN, oIAST, oBAST, oZAST, oLAST, oIRET, oZRET, oLRET, oVRET, oARET, oOBJ, oINI, oPS, oNEW, oNEWAI, oNEWAB, oNEWAZ, oNEWAL, oCOPY, oINV0, oINS0, oINV1, oINS1, oINV2, oINS2, oINV3, oINS3, oINV4, oINS4, oINV5, oINS5, oINV6, oINS6, List.getElem?_cons_zero, List.getElem?_cons_succ, List.set_cons_zero, List.set_cons_succ, znl, zs4, zc1, true_and, and_self, Value.category, Option.toList, List.cons_append, List.nil_append, zvr, mw_s w1, mw_s79 w1, mw_s80 w1, mw_s81 w1, mw_s82 w1, mw_s83 w1, mw_s84 w1, mw_s85 w1, mw_r5 w1, mw_r15 w1, mw_r16 w1, mw_r17 w1, mw_r18 w1, mw_r21 w1, mw_r22 w1]
    rw [F1.k5]
    exact ⟨fun _ => ov45 _ h1 _ F1 kk, fun z => absurd rfl z⟩
  rw [zif_f c6, zif_f (show ¬ 8 ≤ D.2.2.2.1.length by omega)] at k1 k0
  have w1 := I1.w
  have q1 := I1.q
  have r1 := I1.r
  simp only [oPI, oPL, oILOAD, oLLOAD, oALOAD, oISTORE, oASTORE, oLSTORE, oIINC, oIADD, oISUB, oIMUL, oIAND, oIOR, oIXOR, oIDIV, oIREM, oISHL, oISHR, oIUSHR, oLADD, oLSUB, oLMUL, oLOR, oLDIV, oLREM, oLCMP, oLSHL, oINEG, oI2L, oL2I, oI2B, oI2C, oDUP, oPOP, oDUP2, oIFEQ, oICEQ, oIFNE, oICNE, oIFLT, oICLT, oIFGE, oICGE, oIFGT, oICGT, oIFLE, oICLE, oIFNULL, oIFNONNULL, oTSW, oLSW, oGETI, oGETL, oGETR, oPUTI, oPUTZ, oPUTL, oPUTR, oIALD, oBALD, oZALD, oLALD, oAALD, oALEN, oIAST, oBAST, oZAST, oLAST, oIRET, oZRET, oLRET, oVRET, oARET, oOBJ, oINI, oPS, oNEW, oNEWAI, oNEWAB, oNEWAZ, oNEWAL, oCOPY, oINV0, oINS0, oINV1, oINS1, oINV2, oINS2, oINV3, oINS3, oINV4, oINS4, oINV5, oINS5, oINV6, oINS6, List.getElem?_cons_zero, List.getElem?_cons_succ, List.set_cons_zero, List.set_cons_succ, znl, zs4, zc1, true_and, and_self, Value.category, Option.toList, List.cons_append, List.nil_append, zvr, mw_s w1, mw_s79 w1, mw_s80 w1, mw_s81 w1, mw_s82 w1, mw_s83 w1, mw_s84 w1, mw_s85 w1, mw_r5 w1, mw_r15 w1, mw_r16 w1, mw_r17 w1, mw_r18 w1, mw_r21 w1, mw_r22 w1]
  refine cm_bounded I1 (m := 99) (by omega) (fun a e1 => ?_) (fun e e1 h2 F2 => ?_)
  rotate_left
  · have kk := k0 e (by rw [e1]; rfl) h2 F2
    have w2 := F2.w
    simp only [oPI, oPL, oILOAD, oLLOAD, oALOAD, oISTORE, oASTORE, oLSTORE, oIINC, oIADD, oISUB, oIMUL, oIAND, oIOR, oIXOR, oIDIV, oIREM, oISHL, oISHR, oIUSHR, oLADD, oLSUB, oLMUL, oLOR, oLDIV, oLREM, oLCMP, oLSHL, oINEG, oI2L, oL2I, oI2B, oI2C, oDUP, oPOP, oDUP2, oIFEQ, oICEQ, oIFNE, oICNE, oIFLT, oICLT, oIFGE, oICGE, oIFGT, oICGT, oIFLE, oICLE, oIFNULL, oIFNONNULL, oTSW, oLSW, oGETI, oGETL, oGETR, oPUTI, oPUTZ, oPUTL, oPUTR, oIALD, oBALD, oZALD, oLALD, oAALD, oALEN, oIAST, oBAST, oZAST, oLAST, oIRET, oZRET, oLRET, oVRET, oARET, oOBJ, oINI, oPS, oNEW, oNEWAI, oNEWAB, oNEWAZ, oNEWAL, oCOPY, oINV0, oINS0, oINV1, oINS1, oINV2, oINS2, oINV3, oINS3, oINV4, oINS4, oINV5, oINS5, oINV6, oINS6, List.getElem?_cons_zero, List.getElem?_cons_succ, List.set_cons_zero, List.set_cons_succ, znl, zs4, zc1, true_and, and_self, Value.category, Option.toList, List.cons_append, List.nil_append, zvr, mw_s w2, mw_s79 w2, mw_s80 w2, mw_s81 w2, mw_s82 w2, mw_s83 w2, mw_s84 w2, mw_s85 w2, mw_r5 w2, mw_r15 w2, mw_r16 w2, mw_r17 w2, mw_r18 w2, mw_r21 w2, mw_r22 w2]
    rw [F2.k5]
    exact ⟨fun _ => ov45 _ h2 _ F2 kk, fun z => absurd rfl z⟩
  have ra := pN_r I1.b.2.1 e1
  rw [e1] at k1 k0
  have k1 : ∀ x, (zif (a.1 ∈ D.2.2.2.1) (.inl (3, tk_p T n (tk_e T n s))) (.inr (zD_hol D a.1, a.2)) : zEr ⊕ (zDt × Nat)) = .inr x → _ := k1
  have k0 : ∀ x, (zif (a.1 ∈ D.2.2.2.1) (.inl (3, tk_p T n (tk_e T n s))) (.inr (zD_hol D a.1, a.2)) : zEr ⊕ (zDt × Nat)) = .inl x → _ := k0
  have zb := zmk_b T n (tk_e T n s)
  obtain ⟨d0, d1, d2, d3, rb, d4, rm, d5, rh, d6, rp, d7, rn⟩ := I1.d
  have hi : (∃ i : Nat, (i : Int) < gz h1 t 5 ∧ gz h1 (t + 7) i = (a.1 : Nat)) ↔ a.1 ∈ D.2.2.2.1 := by
    constructor
    · rintro ⟨i, hi, e⟩
      rw [d5] at hi
      obtain ⟨x, hx⟩ : ∃ x, D.2.2.2.1[i]? = some x := ⟨_, List.getElem?_eq_getElem (by omega)⟩
      have := rh i x hx
      have e9 : a.1 = x := by omega
      rw [e9]
      exact List.mem_of_getElem? hx
    · intro hx
      obtain ⟨i, hi⟩ := List.getElem?_of_mem hx
      have := rh i a.1 hi
      have := zlen_o hi
      exact ⟨i, by rw [d5]; omega, by omega⟩
  simp only [oPI, oPL, oILOAD, oLLOAD, oALOAD, oISTORE, oASTORE, oLSTORE, oIINC, oIADD, oISUB, oIMUL, oIAND, oIOR, oIXOR, oIDIV, oIREM, oISHL, oISHR, oIUSHR, oLADD, oLSUB, oLMUL, oLOR, oLDIV, oLREM, oLCMP, oLSHL, oINEG, oI2L, oL2I, oI2B, oI2C, oDUP, oPOP, oDUP2, oIFEQ, oICEQ, oIFNE, oICNE, oIFLT, oICLT, oIFGE, oICGE, oIFGT, oICGT, oIFLE, oICLE, oIFNULL, oIFNONNULL, oTSW, oLSW, oGETI, oGETL, oGETR, oPUTI, oPUTZ, oPUTL, oPUTR, oIALD, oBALD, oZALD, oLALD, oAALD, oALEN, oIAST, oBAST, oZAST, oLAST, oIRET, oZRET, oLRET, oVRET, oARET, oOBJ, oINI, oPS, oNEW, oNEWAI, oNEWAB, oNEWAZ, oNEWAL, oCOPY, oINV0, oINS0, oINV1, oINS1, oINV2, oINS2, oINV3, oINS3, oINV4, oINS4, oINV5, oINS5, oINV6, oINS6, List.getElem?_cons_zero, List.getElem?_cons_succ, List.set_cons_zero, List.set_cons_succ, znl, zs4, zc1, true_and, and_self, Value.category, Option.toList, List.cons_append, List.nil_append, zvr, mw_s w1, mw_s79 w1, mw_s80 w1, mw_s81 w1, mw_s82 w1, mw_s83 w1, mw_s84 w1, mw_s85 w1, mw_r5 w1, mw_r15 w1, mw_r16 w1, mw_r17 w1, mw_r18 w1, mw_r21 w1, mw_r22 w1, zq_s q1, zq_s1 q1, zq_r8 q1, zq_s2 q1, zq_r9 q1, zq_s3 q1, zq_r10 q1, zq_s4 q1, zq_r11 q1, zq_s5 q1, zq_r12 q1, zq_s6 q1, zq_r13 q1, zq_s7 q1, zq_r14 q1, zq_s8 q1, zq_r15 q1, zq_s9 q1, zq_r16 q1, zq_s10 q1, zq_r17 q1, zq_s11 q1, zq_r18 q1, zq_s12 q1, zq_r19 q1, zq_s13 q1, zq_r20 q1, r1]
  rw [I1.k5]
  try simp (disch := omega) only [zgi_gz, zj_cn, zj_lt, zj_le, zj_eq, zj_add, zj_sub, zj_mul, zj_neg, zj_lt0, zj_le0, zj_0le, zj_0lt, zj_eq0, zb_0, zb_z, Classical.not_not, Int.zero_add, Int.add_zero, zj_remn, zj_divn]
  refine ⟨fun c => by omega, fun _ => ?_⟩
  refine cm_isHolG q1 (by rw [d5]; omega) (fun i hi2 => ?_) (by omega) (by omega) ?_
  · rw [d5] at hi2
    obtain ⟨x, hx⟩ : ∃ x, D.2.2.2.1[i]? = some x := ⟨_, List.getElem?_eq_getElem (by omega)⟩
    have := rh i x hx
    have := I.o.2.2.2.2.2.1 i x hx
    omega
  simp only [oPI, oPL, oILOAD, oLLOAD, oALOAD, oISTORE, oASTORE, oLSTORE, oIINC, oIADD, oISUB, oIMUL, oIAND, oIOR, oIXOR, oIDIV, oIREM, oISHL, oISHR, oIUSHR, oLADD, oLSUB, oLMUL, oLOR, oLDIV, oLREM, oLCMP, oLSHL, oINEG, oI2L, oL2I, oI2B, oI2C, oDUP, oPOP, oDUP2, oIFEQ, oICEQ, oIFNE, oICNE, oIFLT, oICLT, oIFGE, oICGE, oIFGT, oICGT, oIFLE, oICLE, oIFNULL, oIFNONNULL, oTSW, oLSW, oGETI, oGETL, oGETR, oPUTI, oPUTZ, oPUTL, oPUTR, oIALD, oBALD, oZALD, oLALD, oAALD, oALEN, oIAST, oBAST, oZAST, oLAST, oIRET, oZRET, oLRET, oVRET, oARET, oOBJ, oINI, oPS, oNEW, oNEWAI, oNEWAB, oNEWAZ, oNEWAL, oCOPY, oINV0, oINS0, oINV1, oINS1, oINV2, oINS2, oINV3, oINS3, oINV4, oINS4, oINV5, oINS5, oINV6, oINS6, List.getElem?_cons_zero, List.getElem?_cons_succ, List.set_cons_zero, List.set_cons_succ, znl, zs4, zc1, true_and, and_self, Value.category, Option.toList, List.cons_append, List.nil_append, zvr, mw_s w1, mw_s79 w1, mw_s80 w1, mw_s81 w1, mw_s82 w1, mw_s83 w1, mw_s84 w1, mw_s85 w1, mw_r5 w1, mw_r15 w1, mw_r16 w1, mw_r17 w1, mw_r18 w1, mw_r21 w1, mw_r22 w1, zq_s q1, zq_s1 q1, zq_r8 q1, zq_s2 q1, zq_r9 q1, zq_s3 q1, zq_r10 q1, zq_s4 q1, zq_r11 q1, zq_s5 q1, zq_r12 q1, zq_s6 q1, zq_r13 q1, zq_s7 q1, zq_r14 q1, zq_s8 q1, zq_r15 q1, zq_s9 q1, zq_r16 q1, zq_s10 q1, zq_r17 q1, zq_s11 q1, zq_r18 q1, zq_s12 q1, zq_r19 q1, zq_s13 q1, zq_r20 q1, r1]
  try simp (disch := omega) only [zgi_gz, zj_cn, zj_lt, zj_le, zj_eq, zj_add, zj_sub, zj_mul, zj_neg, zj_lt0, zj_le0, zj_0le, zj_0lt, zj_eq0, zb_0, zb_z, Classical.not_not, Int.zero_add, Int.add_zero, zj_remn, zj_divn]
  rw [hi]
  clear hi
  refine ⟨fun c2 => ?_, fun c2 => ?_⟩
  rotate_left
  · refine cm_flaw (f := 3) (by omega) I1 (fun h2 F2 => ?_)
    simp only [oPI, oPL, oILOAD, oLLOAD, oALOAD, oISTORE, oASTORE, oLSTORE, oIINC, oIADD, oISUB, oIMUL, oIAND, oIOR, oIXOR, oIDIV, oIREM, oISHL, oISHR, oIUSHR, oLADD, oLSUB, oLMUL, oLOR, oLDIV, oLREM, oLCMP, oLSHL, oINEG, oI2L, oL2I, oI2B, oI2C, oDUP, oPOP, oDUP2, oIFEQ, oICEQ, oIFNE, oICNE, oIFLT, oICLT, oIFGE, oICGE, oIFGT, oICGT, oIFLE, oICLE, oIFNULL, oIFNONNULL, oTSW, oLSW, oGETI, oGETL, oGETR, oPUTI, oPUTZ, oPUTL, oPUTR, oIALD, oBALD, oZALD, oLALD, oAALD, oALEN, oIAST, oBAST, oZAST, oLAST, oIRET, oZRET, oLRET, oVRET, oARET, oOBJ, oINI, oPS, oNEW, oNEWAI, oNEWAB, oNEWAZ, oNEWAL, oCOPY, oINV0, oINS0, oINV1, oINS1, oINV2, oINS2, oINV3, oINS3, oINV4, oINS4, oINV5, oINS5, oINV6, oINS6, List.getElem?_cons_zero, List.getElem?_cons_succ, List.set_cons_zero, List.set_cons_succ, znl, zs4, zc1, true_and, and_self, Value.category, Option.toList, List.cons_append, List.nil_append, zvr]
    exact ov45 _ h2 _ F2 (k0 _ (zif_t c2) h2 F2)
  refine vb_X9_readHoliday_45 _ _ _ ?_
  simp only [B_X9_readHoliday_45, oPI, oPL, oILOAD, oLLOAD, oALOAD, oISTORE, oASTORE, oLSTORE, oIINC, oIADD, oISUB, oIMUL, oIAND, oIOR, oIXOR, oIDIV, oIREM, oISHL, oISHR, oIUSHR, oLADD, oLSUB, oLMUL, oLOR, oLDIV, oLREM, oLCMP, oLSHL, oINEG, oI2L, oL2I, oI2B, oI2C, oDUP, oPOP, oDUP2, oIFEQ, oICEQ, oIFNE, oICNE, oIFLT, oICLT, oIFGE, oICGE, oIFGT, oICGT, oIFLE, oICLE, oIFNULL, oIFNONNULL, oTSW, oLSW, oGETI, oGETL, oGETR, oPUTI, oPUTZ, oPUTL, oPUTR, oIALD, oBALD, oZALD, oLALD, oAALD, oALEN, oIAST, oBAST, oZAST, oLAST, oIRET, oZRET, oLRET, oVRET, oARET, oOBJ, oINI, oPS, oNEW, oNEWAI, oNEWAB, oNEWAZ, oNEWAL, oCOPY, oINV0, oINS0, oINV1, oINS1, oINV2, oINS2, oINV3, oINS3, oINV4, oINS4, oINV5, oINS5, oINV6, oINS6, List.getElem?_cons_zero, List.getElem?_cons_succ, List.set_cons_zero, List.set_cons_succ, znl, zs4, zc1, true_and, and_self, Value.category, Option.toList, List.cons_append, List.nil_append, zvr, mw_s w1, mw_s79 w1, mw_s80 w1, mw_s81 w1, mw_s82 w1, mw_s83 w1, mw_s84 w1, mw_s85 w1, mw_r5 w1, mw_r15 w1, mw_r16 w1, mw_r17 w1, mw_r18 w1, mw_r21 w1, mw_r22 w1]
  refine cm_goesOnR I1 (by omega) (fun h2 I2 => ?_)
  have w2 := I2.w
  have q2 := I2.q
  have r2 := I2.r
  have zb2 := zmk_b T n (tk_e T n (tk_e T n s))
  obtain ⟨f0, f1, f2, f3, sb, f4, sm, f5, sh, f6, sp, f7, sn⟩ := I2.d
  simp only [oPI, oPL, oILOAD, oLLOAD, oALOAD, oISTORE, oASTORE, oLSTORE, oIINC, oIADD, oISUB, oIMUL, oIAND, oIOR, oIXOR, oIDIV, oIREM, oISHL, oISHR, oIUSHR, oLADD, oLSUB, oLMUL, oLOR, oLDIV, oLREM, oLCMP, oLSHL, oINEG, oI2L, oL2I, oI2B, oI2C, oDUP, oPOP, oDUP2, oIFEQ, oICEQ, oIFNE, oICNE, oIFLT, oICLT, oIFGE, oICGE, oIFGT, oICGT, oIFLE, oICLE, oIFNULL, oIFNONNULL, oTSW, oLSW, oGETI, oGETL, oGETR, oPUTI, oPUTZ, oPUTL, oPUTR, oIALD, oBALD, oZALD, oLALD, oAALD, oALEN, oIAST, oBAST, oZAST, oLAST, oIRET, oZRET, oLRET, oVRET, oARET, oOBJ, oINI, oPS, oNEW, oNEWAI, oNEWAB, oNEWAZ, oNEWAL, oCOPY, oINV0, oINS0, oINV1, oINS1, oINV2, oINS2, oINV3, oINS3, oINV4, oINS4, oINV5, oINS5, oINV6, oINS6, List.getElem?_cons_zero, List.getElem?_cons_succ, List.set_cons_zero, List.set_cons_succ, znl, zs4, zc1, true_and, and_self, Value.category, Option.toList, List.cons_append, List.nil_append, zvr, mw_s w2, mw_s79 w2, mw_s80 w2, mw_s81 w2, mw_s82 w2, mw_s83 w2, mw_s84 w2, mw_s85 w2, mw_r5 w2, mw_r15 w2, mw_r16 w2, mw_r17 w2, mw_r18 w2, mw_r21 w2, mw_r22 w2, zq_s q2, zq_s1 q2, zq_r8 q2, zq_s2 q2, zq_r9 q2, zq_s3 q2, zq_r10 q2, zq_s4 q2, zq_r11 q2, zq_s5 q2, zq_r12 q2, zq_s6 q2, zq_r13 q2, zq_s7 q2, zq_r14 q2, zq_s8 q2, zq_r15 q2, zq_s9 q2, zq_r16 q2, zq_s10 q2, zq_r17 q2, zq_s11 q2, zq_r18 q2, zq_s12 q2, zq_r19 q2, zq_s13 q2, zq_r20 q2, r2]
  rw [I2.k5]
  try simp (disch := omega) only [zgi_gz, zj_cn, zj_lt, zj_le, zj_eq, zj_add, zj_sub, zj_mul, zj_neg, zj_lt0, zj_le0, zj_0le, zj_0lt, zj_eq0, zb_0, zb_z, Classical.not_not, Int.zero_add, Int.add_zero, zj_remn, zj_divn]
  refine ⟨fun _ => ?_, fun c => by omega⟩
  obtain ⟨N, hN⟩ : ∃ N, D.2.2.2.1.length = N := ⟨_, rfl⟩
  rw [hN] at f5
  have g5 : zgi h2 t 5 = zj (N : Nat) := by rw [zgi_gz, f5]
  have g5' : zgi (zpi h2 (t + 7) N (zj (a.1 : Nat))) t 5 = zj (N : Nat) := by rw [zpi_o (by omega)]; exact g5
  refine vb_X9_readHoliday_58 _ _ _ ?_
  simp only [B_X9_readHoliday_58, oPI, oPL, oILOAD, oLLOAD, oALOAD, oISTORE, oASTORE, oLSTORE, oIINC, oIADD, oISUB, oIMUL, oIAND, oIOR, oIXOR, oIDIV, oIREM, oISHL, oISHR, oIUSHR, oLADD, oLSUB, oLMUL, oLOR, oLDIV, oLREM, oLCMP, oLSHL, oINEG, oI2L, oL2I, oI2B, oI2C, oDUP, oPOP, oDUP2, oIFEQ, oICEQ, oIFNE, oICNE, oIFLT, oICLT, oIFGE, oICGE, oIFGT, oICGT, oIFLE, oICLE, oIFNULL, oIFNONNULL, oTSW, oLSW, oGETI, oGETL, oGETR, oPUTI, oPUTZ, oPUTL, oPUTR, oIALD, oBALD, oZALD, oLALD, oAALD, oALEN, oIAST, oBAST, oZAST, oLAST, oIRET, oZRET, oLRET, oVRET, oARET, oOBJ, oINI, oPS, oNEW, oNEWAI, oNEWAB, oNEWAZ, oNEWAL, oCOPY, oINV0, oINS0, oINV1, oINS1, oINV2, oINS2, oINV3, oINS3, oINV4, oINS4, oINV5, oINS5, oINV6, oINS6, List.getElem?_cons_zero, List.getElem?_cons_succ, List.set_cons_zero, List.set_cons_succ, znl, zs4, zc1, true_and, and_self, Value.category, Option.toList, List.cons_append, List.nil_append, zvr, mw_s w2, mw_s79 w2, mw_s80 w2, mw_s81 w2, mw_s82 w2, mw_s83 w2, mw_s84 w2, mw_s85 w2, mw_r5 w2, mw_r15 w2, mw_r16 w2, mw_r17 w2, mw_r18 w2, mw_r21 w2, mw_r22 w2, zq_s q2, zq_s1 q2, zq_r8 q2, zq_s2 q2, zq_r9 q2, zq_s3 q2, zq_r10 q2, zq_s4 q2, zq_r11 q2, zq_s5 q2, zq_r12 q2, zq_s6 q2, zq_r13 q2, zq_s7 q2, zq_r14 q2, zq_s8 q2, zq_r15 q2, zq_s9 q2, zq_r16 q2, zq_s10 q2, zq_r17 q2, zq_s11 q2, zq_r18 q2, zq_s12 q2, zq_r19 q2, zq_s13 q2, zq_r20 q2, r2, zsh_pi, zgr_pi]
  rw [g5, zj_cn (by omega), g5', zj_add]
  have ta : a = (tk_v T n (tk_e T n s), tk_e T n (tk_e T n s)) := ra.2.2.2.2
  have ta2 : tk_e T n (tk_e T n s) = a.2 := by rw [ta]
  rw [ta2] at I2
  refine ⟨zj_in (by omega) (by omega) (by omega), k1 _ (zif_f c2) _ (I2.step rfl rfl (fun x y z => by rw [zpi_o (by omega), zpi_o (by omega)]) (fun _ _ _ => rfl) ?_ (zDo_hol I.o (by omega) c6 (by omega)))⟩
  have g : ∀ x y, ¬ (x = t ∧ y = 5) → ¬ (x = t + 7 ∧ y = N) → gz (zpi (zpi h2 (t + 7) N (zj (a.1 : Nat))) t 5 (zj ((N : Int) + 1))) x y = gz h2 x y := fun x y z1 z2 => by rw [gz_pi0 z1, gz_pi0 z2]
  refine ⟨?_, ?_, ?_, ?_, fun i b hb => ?_, ?_, fun i x hx => ?_, ?_, fun i x hx => ?_, ?_, fun i x hx => ?_, ?_, fun i x hx => ?_⟩
  · rw [g _ _ (by omega) (by omega)]; exact f0
  · rw [g _ _ (by omega) (by omega)]; exact f1
  · rw [g _ _ (by omega) (by omega)]; exact f2
  · rw [g _ _ (by omega) (by omega)]; exact f3
  · rw [g _ _ (by omega) (by omega), g _ _ (by omega) (by omega), g _ _ (by omega) (by omega), g _ _ (by omega) (by omega)]; exact sb i b hb
  · rw [g _ _ (by omega) (by omega)]; exact f4
  · rw [g _ _ (by omega) (by omega)]; exact sm i x hx
  · rw [gz_pi1 (by omega) (by omega)]; show (N : Int) + 1 = (((D.2.2.2.1 ++ [a.1]).length : Nat) : Int); rw [List.length_append]; simp; omega
  · rcases zap1 hx with ⟨hj, hx⟩ | ⟨hj, rfl⟩
    · rw [g _ _ (by omega) (by omega)]; exact sh i x hx
    · rw [gz_pi0 (by omega), hj, hN]; exact gz_pi1 (by omega) (by omega)
  · rw [g _ _ (by omega) (by omega)]; exact f6
  · rw [g _ _ (by omega) (by omega), g _ _ (by omega) (by omega)]; exact sp i x hx
  · rw [g _ _ (by omega) (by omega)]; exact f7
  · rw [g _ _ (by omega) (by omega), g _ _ (by omega) (by omega)]; exact sn i x hx
end ZMY
