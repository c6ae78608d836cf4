section ZMZ
variable {X : Nat × (Nat → Int32)} {R : zRt} {h h' h0 h1 h2 : zHp} {t : Nat} {T : Nat → Int} {n s : Nat} {D D' : zDt} {e : zEr}
theorem cm_readMet (I : zMI h0 h t T n s D) (hd : ¬ tk_d T n s = 4) (k1 : ∀ a, (zif (D.1 = -1) (.inl (6, tk_p T n s)) (pMet T n D (tk_p T n s) (tk_e T n s)) : zEr ⊕ (zDt × Nat)) = .inr a → ∀ h', zMI h0 h' t T n a.2 a.1 → R none h') (k0 : ∀ e, (zif (D.1 = -1) (.inl (6, tk_p T n s)) (pMet T n D (tk_p T n s) (tk_e T n s)) : zEr ⊕ (zDt × Nat)) = .inl e → ∀ h', zMF h0 h' t e → R none h') : zCC X M_X9_readMet [.ref 78] h R := by
  have w := I.w
  have q := I.q
  have r := I.r
  have ob := I.o.2.2.1
  have o2 := I.o.2.1
  unfold pMet at k1 k0
  have ov45 : ∀ e h1 z, zMF h0 h1 t e → R none h1 → zV X M_X9_readMet (zQm M_X9_readMet R) 0 0 45 [.ref 78, .int z, .retAddr 0, .retAddr 0] [] h1 := fun e h1 z F1 k => by
    have w1 := F1.w
    refine vb_X9_readMet_45 _ _ _ ?_
    simp only [B_X9_readMet_45, oPI, oPL, oILOAD, oLLOAD, oALOAD, oISTORE, oASTORE, oLSTORE, oIINC, oIADD, oISUB, oIMUL, oIAND, oIOR, oIXOR, oIDIV, oIREM, oISHL, oISHR, oIUSHR, oLADD, oLSUB, oLMUL, oLOR, oLDIV, oLREM, oLCMP, oLSHL, oINEG, oI2L, oL2I, oI2B, oI2C, oDUP, oPOP, oDUP2, oIFEQ, oICEQ, oIFNE, oICNE, oIFLT, oICLT, oIFGE, oICGE, oIFGT, oICGT, oIFLE, oICLE, oIFNULL, oIFNONNULL, oTSW, oLSW, oGETI, oGETL, oGETR, oPUTI, oPUTZ, oPUTL, oPUTR, oIALD, oBALD, oZALD, oLALD, oAALD, oALEN, oIAST, oBAST, oZAST, oLAST, oIRET, oZRET, oLRET, oVRET, oARET, oOBJ, oINI, oPS, oNEW, oNEWAI, oNEWAB, oNEWAZ, oNEWAL, oCOPY, oINV0, oINS0, oINV1, oINS1, oINV2, oINS2, oINV3, oINS3, oINV4, oINS4, oINV5, oINS5, oINV6, oINS6, List.getElem?_cons_zero, List.getElem?_cons_succ, List.set_cons_zero, List.set_cons_succ, znl, zs4, zc1, true_and, and_self, Value.category, Option.toList, List.cons_append, List.nil_append, zvr, mw_s w1, mw_s79 w1, mw_s80 w1, mw_s81 w1, mw_s82 w1, mw_s83 w1, mw_s84 w1, mw_s85 w1, mw_r5 w1, mw_r15 w1, mw_r16 w1, mw_r17 w1, mw_r18 w1, mw_r21 w1, mw_r22 w1]
    refine co_goesOn F1 ?_
    simp only [oPI, oPL, oILOAD, oLLOAD, oALOAD, oISTORE, oASTORE, oLSTORE, oIINC, oIADD, oISUB, oIMUL, oIAND, oIOR, oIXOR, oIDIV, oIREM, oISHL, oISHR, oIUSHR, oLADD, oLSUB, oLMUL, oLOR, oLDIV, oLREM, oLCMP, oLSHL, oINEG, oI2L, oL2I, oI2B, oI2C, oDUP, oPOP, oDUP2, oIFEQ, oICEQ, oIFNE, oICNE, oIFLT, oICLT, oIFGE, oICGE, oIFGT, oICGT, oIFLE, oICLE, oIFNULL, oIFNONNULL, oTSW, oLSW, oGETI, oGETL, oGETR, oPUTI, oPUTZ, oPUTL, oPUTR, oIALD, oBALD, oZALD, oLALD, oAALD, oALEN, oIAST, oBAST, oZAST, oLAST, oIRET, oZRET, oLRET, oVRET, oARET, oOBJ, oINI, oPS, oNEW, oNEWAI, oNEWAB, oNEWAZ, oNEWAL, oCOPY, oINV0, oINS0, oINV1, oINS1, oINV2, oINS2, oINV3, oINS3, oINV4, oINS4, oINV5, oINS5, oINV6, oINS6, List.getElem?_cons_zero, List.getElem?_cons_succ, List.set_cons_zero, List.set_cons_succ, znl, zs4, zc1, true_and, and_self, Value.category, Option.toList, List.cons_append, List.nil_append, zvr, mw_s w1, mw_s79 w1, mw_s80 w1, mw_s81 w1, mw_s82 w1, mw_s83 w1, mw_s84 w1, mw_s85 w1, mw_r5 w1, mw_r15 w1, mw_r16 w1, mw_r17 w1, mw_r18 w1, mw_r21 w1, mw_r22 w1]
    refine co_readWord F1 (fun x => ?_)
    simp only [oPI, oPL, oILOAD, oLLOAD, oALOAD, oISTORE, oASTORE, oLSTORE, oIINC, oIADD, oISUB, oIMUL, oIAND, oIOR, oIXOR, oIDIV, oIREM, oISHL, oISHR, oIUSHR, oLADD, oLSUB, oLMUL, oLOR, oLDIV, oLREM, oLCMP, oLSHL, oINEG, oI2L, oL2I, oI2B, oI2C, oDUP, oPOP, oDUP2, oIFEQ, oICEQ, oIFNE, oICNE, oIFLT, oICLT, oIFGE, oICGE, oIFGT, oICGT, oIFLE, oICLE, oIFNULL, oIFNONNULL, oTSW, oLSW, oGETI, oGETL, oGETR, oPUTI, oPUTZ, oPUTL, oPUTR, oIALD, oBALD, oZALD, oLALD, oAALD, oALEN, oIAST, oBAST, oZAST, oLAST, oIRET, oZRET, oLRET, oVRET, oARET, oOBJ, oINI, oPS, oNEW, oNEWAI, oNEWAB, oNEWAZ, oNEWAL, oCOPY, oINV0, oINS0, oINV1, oINS1, oINV2, oINS2, oINV3, oINS3, oINV4, oINS4, oINV5, oINS5, oINV6, oINS6, List.getElem?_cons_zero, List.getElem?_cons_succ, List.set_cons_zero, List.set_cons_succ, znl, zs4, zc1, true_and, and_self, Value.category, Option.toList, List.cons_append, List.nil_append, zvr, mw_s w1, mw_s79 w1, mw_s80 w1, mw_s81 w1, mw_s82 w1, mw_s83 w1, mw_s84 w1, mw_s85 w1, mw_r5 w1, mw_r15 w1, mw_r16 w1, mw_r17 w1, mw_r18 w1, mw_r21 w1, mw_r22 w1]
    rw [F1.k5]
    exact ⟨fun z => absurd rfl z, fun _ => k⟩
  refine zCC_of (ls := [.ref 78, .retAddr 0, .retAddr 0, .retAddr 0]) pf_X9_readMet rfl (Nat.le_of_ble_eq_true rfl) ?_
  refine vb_X9_readMet_0 _ _ _ ?_
  simp only [B_X9_readMet_0, oPI, oPL, oILOAD, oLLOAD, oALOAD, oISTORE, oASTORE, oLSTORE, oIINC, oIADD, oISUB, oIMUL, oIAND, oIOR, oIXOR, oIDIV, oIREM, oISHL, oISHR, oIUSHR, oLADD, oLSUB, oLMUL, oLOR, oLDIV, oLREM, oLCMP, oLSHL, oINEG, oI2L, oL2I, oI2B, oI2C, oDUP, oPOP, oDUP2, oIFEQ, oICEQ, oIFNE, oICNE, oIFLT, oICLT, oIFGE, oICGE, oIFGT, oICGT, oIFLE, oICLE, oIFNULL, oIFNONNULL, oTSW, oLSW, oGETI, oGETL, oGETR, oPUTI, oPUTZ, oPUTL, oPUTR, oIALD, oBALD, oZALD, oLALD, oAALD, oALEN, oIAST, oBAST, oZAST, oLAST, oIRET, oZRET, oLRET, oVRET, oARET, oOBJ, oINI, oPS, oNEW, oNEWAI, oNEWAB, oNEWAZ, oNEWAL, oCOPY, oINV0, oINS0, oINV1, oINS1, oINV2, oINS2, oINV3, oINS3, oINV4, oINS4, oINV5, oINS5, oINV6, oINS6, List.getElem?_cons_zero, List.getElem?_cons_succ, List.set_cons_zero, List.set_cons_succ, znl, zs4, zc1, true_and, and_self, Value.category, Option.toList, List.cons_append, List.nil_append, zvr, mw_s w, mw_s79 w, mw_s80 w, mw_s81 w, mw_s82 w, mw_s83 w, mw_s84 w, mw_s85 w, mw_r5 w, mw_r15 w, mw_r16 w, mw_r17 w, mw_r18 w, mw_r21 w, mw_r22 w, zq_s q, zq_s1 q, zq_r8 q, zq_s2 q, zq_r9 q, zq_s3 q, zq_r10 q, zq_s4 q, zq_r11 q, zq_s5 q, zq_r12 q, zq_s6 q, zq_r13 q, zq_s7 q, zq_r14 q, zq_s8 q, zq_r15 q, zq_s9 q, zq_r16 q, zq_s10 q, zq_r17 q, zq_s11 q, zq_r18 q, zq_s12 q, zq_r19 q, zq_s13 q, zq_r20 q, r]
  rw [zgi_gz h t 4, I.d.2.2.2.2.2.1]
  refine cm_lineBegins (a := D.2.2.1.length) (m := 6) I ob.2.1 (by omega) hd (fun c5 c6 h1 I1 => ?_) (fun c5 h1 F1 => ?_) (fun c5 c6 h1 F1 => ?_)
  rotate_left
  · have kk := k0 (5, tk_p T n s) (by rw [zif_f (fun z => by have := (o2 z).2.1; rw [this] at c5; simp at c5), zif_t (by omega)]) h1 F1
    have w1 := F1.w
    simp only [oPI, oPL, oILOAD, oLLOAD, oALOAD, oISTORE, oASTORE, oLSTORE, oIINC, oIADD, oISUB, oIMUL, oIAND, oIOR, oIXOR, oIDIV, oIREM, oISHL, oISHR, oIUSHR, oLADD, oLSUB, oLMUL, oLOR, oLDIV, oLREM, oLCMP, oLSHL, oINEG, oI2L, oL2I, oI2B, oI2C, oDUP, oPOP, oDUP2, oIFEQ, oICEQ, oIFNE, oICNE, oIFLT, oICLT, oIFGE, oICGE, oIFGT, oICGT, oIFLE, oICLE, oIFNULL, oIFNONNULL, oTSW, oLSW, oGETI, oGETL, oGETR, oPUTI, oPUTZ, oPUTL, oPUTR, oIALD, oBALD, oZALD, oLALD, oAALD, oALEN, oIAST, oBAST, oZAST, oLAST, oIRET, oZRET, oLRET, oVRET, oARET, oOBJ, oINI, oPS, oNEW, oNEWAI, oNEWAB, oNEWAZ, oNEWAL, oCOPY, oINV0, oINS0, oINV1, oINS1, oINV2, oINS2, oINV3, oINS3, oINV4, oINS4, oINV5, oINS5, oINV6, oINS6, List.getElem?_cons_zero, List.getElem?_cons_succ, List.set_cons_zero, List.set_cons_succ, znl, zs4, zc1, true_and, and_self, Value.category, Option.toList, List.cons_append, List.nil_append, zvr, mw_s w1, mw_s79 w1, mw_s80 w1, mw_s81 w1, mw_s82 w1, mw_s83 w1, mw_s84 w1, mw_s85 w1, mw_r5 w1, mw_r15 w1, mw_r16 w1, mw_r17 w1, mw_r18 w1, mw_r21 w1, mw_r22 w1]
    refine co_bounded F1 ?_
    simp only [oPI, oPL, oILOAD, oLLOAD, oALOAD, oISTORE, oASTORE, oLSTORE, oIINC, oIADD, oISUB, oIMUL, oIAND, oIOR, oIXOR, oIDIV, oIREM, oISHL, oISHR, oIUSHR, oLADD, oLSUB, oLMUL, oLOR, oLDIV, oLREM, oLCMP, oLSHL, oINEG, oI2L, oL2I, oI2B, oI2C, oDUP, oPOP, oDUP2, oIFEQ, oICEQ, oIFNE, oICNE, oIFLT, oICLT, oIFGE, oICGE, oIFGT, oICGT, oIFLE, oICLE, oIFNULL, oIFNONNULL, oTSW, oLSW, oGETI, oGETL, oGETR, oPUTI, oPUTZ, oPUTL, oPUTR, oIALD, oBALD, oZALD, oLALD, oAALD, oALEN, oIAST, oBAST, oZAST, oLAST, oIRET, oZRET, oLRET, oVRET, oARET, oOBJ, oINI, oPS, oNEW, oNEWAI, oNEWAB, oNEWAZ, oNEWAL, oCOPY, oINV0, oINS0, oINV1, oINS1, oINV2, oINS2, oINV3, oINS3, oINV4, oINS4, oINV5, oINS5, oINV6, oINS6, List.getElem?_cons_zero, List.getElem?_cons_succ, List.set_cons_zero, List.set_cons_succ, znl, zs4, zc1, true_and, and_self, Value.category, Option.toList, List.cons_append, List.nil_append, zvr, mw_s w1, mw_s79 w1, mw_s80 w1, mw_s81 w1, mw_s82 w1, mw_s83 w1, mw_s84 w1, mw_s85 w1, mw_r5 w1, mw_r15 w1, mw_r16 w1, mw_r17 w1, mw_r18 w1, mw_r21 w1, mw_r22 w1]
    rw [F1.k5]
    exact ⟨fun _ => ov45 _ h1 _ F1 kk, fun z => absurd rfl z⟩
  · have kk := k0 (6, tk_p T n s) (zif_t c6) h1 F1
    have w1 := F1.w
    simp only [oPI, oPL, oILOAD, oLLOAD, oALOAD, oISTORE, oASTORE, oLSTORE, oIINC, oIADD, oISUB, oIMUL, oIAND, oIOR, oIXOR, oIDIV, oIREM, oISHL, oISHR, oIUSHR, oLADD, oLSUB, oLMUL, oLOR, oLDIV, oLREM, oLCMP, oLSHL, oINEG, oI2L, oL2I, oI2B, oI2C, oDUP, oPOP, oDUP2, oIFEQ, oICEQ, oIFNE, oICNE, oIFLT, oICLT, oIFGE, oICGE, oIFGT, oICGT, oIFLE, oICLE, oIFNULL, oIFNONNULL, oTSW, oLSW, oGETI, oGETL, oGETR, oPUTI, oPUTZ, oPUTL, oPUTR, oIALD, oBALD, oZALD, oLALD, oAALD, oALEN, oIAST, oBAST, oZAST, oLAST, oIRET, oZRET, oLRET, oVRET, oARET, oOBJ, oINI, oPS, oNEW, oNEWAI, oNEWAB, oNEWAZ, oNEWAL, oCOPY, oINV0, oINS0, oINV1, oINS1, oINV2, oINS2, oINV3, oINS3, oINV4, oINS4, oINV5, oINS5, oINV6, oINS6, List.getElem?_cons_zero, List.getElem?_cons_succ, List.set_cons_zero, List.set_cons_succ, znl, zs4, zc1, true_and, and_self, Value.category, Option.toList, List.cons_append, List.nil_append, zvr, mw_s w1, mw_s79 w1, mw_s80 w1, mw_s81 w1, mw_s82 w1, mw_s83 w1, mw_s84 w1, mw_s85 w1, mw_r5 w1, mw_r15 w1, mw_r16 w1, mw_r17 w1, mw_r18 w1, mw_r21 w1, mw_r22 w1]
    refine co_bounded F1 ?_
    simp only [oPI, oPL, oILOAD, oLLOAD, oALOAD, oISTORE, oASTORE, oLSTORE, oIINC, oIADD, oISUB, oIMUL, oIAND, oIOR, oIXOR, oIDIV, oIREM, oISHL, oISHR, oIUSHR, oLADD, oLSUB, oLMUL, oLOR, oLDIV, oLREM, oLCMP, oLSHL, oINEG, oI2L, oL2I, oI2B, oI2C, oDUP, oPOP, oDUP2, oIFEQ, oICEQ, oIFNE, oICNE, oIFLT, oICLT, oIFGE, oICGE, oIFGT, oICGT, oIFLE, oICLE, oIFNULL, oIFNONNULL, oTSW, oLSW, oGETI, oGETL, oGETR, oPUTI, oPUTZ, oPUTL, oPUTR, oIALD, oBALD, oZALD, oLALD, oAALD, oALEN, oIAST, oBAST, oZAST, oLAST, oIRET, oZRET, oLRET, oVRET, oARET, oOBJ, oINI, oPS, oNEW, oNEWAI, oNEWAB, oNEWAZ, oNEWAL, oCOPY, oINV0, oINS0, oINV1, oINS1, oINV2, oINS2, oINV3, oINS3, oINV4, oINS4, oINV5, oINS5, oINV6, oINS6, List.getElem?_cons_zero, List.getElem?_cons_succ, List.set_cons_zero, List.set_cons_succ, znl, zs4, zc1, true_and, and_self, Value.category, Option.toList, List.cons_append, List.nil_append, zvr, mw_s w1, mw_s79 w1, mw_s80 w1, mw_s81 w1, mw_s82 w1, mw_s83 w1, mw_s84 w1, mw_s85 w1, mw_r5 w1, mw_r15 w1, mw_r16 w1, mw_r17 w1, mw_r18 w1, mw_r21 w1, mw_r22 w1]
    rw [F1.k5]
    exact ⟨fun _ => ov45 _ h1 _ F1 kk, fun z => absurd rfl z⟩
  rw [zif_f c6, zif_f (show ¬ 6 ≤ D.2.2.1.length by omega)] at k1 k0
  have w1 := I1.w
  have q1 := I1.q
  have r1 := I1.r
  simp only [oPI, oPL, oILOAD, oLLOAD, oALOAD, oISTORE, oASTORE, oLSTORE, oIINC, oIADD, oISUB, oIMUL, oIAND, oIOR, oIXOR, oIDIV, oIREM, oISHL, oISHR, oIUSHR, oLADD, oLSUB, oLMUL, oLOR, oLDIV, oLREM, oLCMP, oLSHL, oINEG, oI2L, oL2I, oI2B, oI2C, oDUP, oPOP, oDUP2, oIFEQ, oICEQ, oIFNE, oICNE, oIFLT, oICLT, oIFGE, oICGE, oIFGT, oICGT, oIFLE, oICLE, oIFNULL, oIFNONNULL, oTSW, oLSW, oGETI, oGETL, oGETR, oPUTI, oPUTZ, oPUTL, oPUTR, oIALD, oBALD, oZALD, oLALD, oAALD, oALEN, oIAST, oBAST, oZAST, oLAST, oIRET, oZRET, oLRET, oVRET, oARET, oOBJ, oINI, oPS, oNEW, oNEWAI, oNEWAB, oNEWAZ, oNEWAL, oCOPY, oINV0, oINS0, oINV1, oINS1, oINV2, oINS2, oINV3, oINS3, oINV4, oINS4, oINV5, oINS5, oINV6, oINS6, List.getElem?_cons_zero, List.getElem?_cons_succ, List.set_cons_zero, List.set_cons_succ, znl, zs4, zc1, true_and, and_self, Value.category, Option.toList, List.cons_append, List.nil_append, zvr, mw_s w1, mw_s79 w1, mw_s80 w1, mw_s81 w1, mw_s82 w1, mw_s83 w1, mw_s84 w1, mw_s85 w1, mw_r5 w1, mw_r15 w1, mw_r16 w1, mw_r17 w1, mw_r18 w1, mw_r21 w1, mw_r22 w1]
  refine cm_bounded I1 (m := 11) (by omega) (fun a e1 => ?_) (fun e e1 h2 F2 => ?_)
  rotate_left
  · have kk := k0 e (by rw [e1]; rfl) h2 F2
    have w2 := F2.w
    simp only [oPI, oPL, oILOAD, oLLOAD, oALOAD, oISTORE, oASTORE, oLSTORE, oIINC, oIADD, oISUB, oIMUL, oIAND, oIOR, oIXOR, oIDIV, oIREM, oISHL, oISHR, oIUSHR, oLADD, oLSUB, oLMUL, oLOR, oLDIV, oLREM, oLCMP, oLSHL, oINEG, oI2L, oL2I, oI2B, oI2C, oDUP, oPOP, oDUP2, oIFEQ, oICEQ, oIFNE, oICNE, oIFLT, oICLT, oIFGE, oICGE, oIFGT, oICGT, oIFLE, oICLE, oIFNULL, oIFNONNULL, oTSW, oLSW, oGETI, oGETL, oGETR, oPUTI, oPUTZ, oPUTL, oPUTR, oIALD, oBALD, oZALD, oLALD, oAALD, oALEN, oIAST, oBAST, oZAST, oLAST, oIRET, oZRET, oLRET, oVRET, oARET, oOBJ, oINI, oPS, oNEW, oNEWAI, oNEWAB, oNEWAZ, oNEWAL, oCOPY, oINV0, oINS0, oINV1, oINS1, oINV2, oINS2, oINV3, oINS3, oINV4, oINS4, oINV5, oINS5, oINV6, oINS6, List.getElem?_cons_zero, List.getElem?_cons_succ, List.set_cons_zero, List.set_cons_succ, znl, zs4, zc1, true_and, and_self, Value.category, Option.toList, List.cons_append, List.nil_append, zvr, mw_s w2, mw_s79 w2, mw_s80 w2, mw_s81 w2, mw_s82 w2, mw_s83 w2, mw_s84 w2, mw_s85 w2, mw_r5 w2, mw_r15 w2, mw_r16 w2, mw_r17 w2, mw_r18 w2, mw_r21 w2, mw_r22 w2]
    rw [F2.k5]
    exact ⟨fun _ => ov45 _ h2 _ F2 kk, fun z => absurd rfl z⟩
  have ra := pN_r I1.b.2.1 e1
  rw [e1] at k1 k0
  have k1 : ∀ x, (zif (∃ x ∈ D.2.2.1, x.1 = a.1) (.inl (3, tk_p T n (tk_e T n s))) (zbd (pA T n a.2) (fun c => .inr (zD_met D a.1 c.1, c.2))) : zEr ⊕ (zDt × Nat)) = .inr x → _ := k1
  have k0 : ∀ x, (zif (∃ x ∈ D.2.2.1, x.1 = a.1) (.inl (3, tk_p T n (tk_e T n s))) (zbd (pA T n a.2) (fun c => .inr (zD_met D a.1 c.1, c.2))) : zEr ⊕ (zDt × Nat)) = .inl x → _ := k0
  have zb := zmk_b T n (tk_e T n s)
  obtain ⟨d0, d1, d2, d3, rb, d4, rm, d5, rh, d6, rp, d7, rn⟩ := I1.d
  have hi : (∃ i : Nat, (i : Int) < gz h1 t 4 ∧ gz h1 (t + 6) i = (a.1 : Nat)) ↔ ∃ x ∈ D.2.2.1, x.1 = a.1 := by
    constructor
    · rintro ⟨i, hi, e⟩
      rw [d4] at hi
      obtain ⟨x, hx⟩ : ∃ x, D.2.2.1[i]? = some x := ⟨_, List.getElem?_eq_getElem (by omega)⟩
      have := (rm i x hx).1
      exact ⟨x, List.mem_of_getElem? hx, by omega⟩
    · rintro ⟨x, hx, e⟩
      obtain ⟨i, hi⟩ := List.getElem?_of_mem hx
      have := (rm i x hi).1
      have := zlen_o hi
      exact ⟨i, by rw [d4]; omega, by omega⟩
  simp only [oPI, oPL, oILOAD, oLLOAD, oALOAD, oISTORE, oASTORE, oLSTORE, oIINC, oIADD, oISUB, oIMUL, oIAND, oIOR, oIXOR, oIDIV, oIREM, oISHL, oISHR, oIUSHR, oLADD, oLSUB, oLMUL, oLOR, oLDIV, oLREM, oLCMP, oLSHL, oINEG, oI2L, oL2I, oI2B, oI2C, oDUP, oPOP, oDUP2, oIFEQ, oICEQ, oIFNE, oICNE, oIFLT, oICLT, oIFGE, oICGE, oIFGT, oICGT, oIFLE, oICLE, oIFNULL, oIFNONNULL, oTSW, oLSW, oGETI, oGETL, oGETR, oPUTI, oPUTZ, oPUTL, oPUTR, oIALD, oBALD, oZALD, oLALD, oAALD, oALEN, oIAST, oBAST, oZAST, oLAST, oIRET, oZRET, oLRET, oVRET, oARET, oOBJ, oINI, oPS, oNEW, oNEWAI, oNEWAB, oNEWAZ, oNEWAL, oCOPY, oINV0, oINS0, oINV1, oINS1, oINV2, oINS2, oINV3, oINS3, oINV4, oINS4, oINV5, oINS5, oINV6, oINS6, List.getElem?_cons_zero, List.getElem?_cons_succ, List.set_cons_zero, List.set_cons_succ, znl, zs4, zc1, true_and, and_self, Value.category, Option.toList, List.cons_append, List.nil_append, zvr, mw_s w1, mw_s79 w1, mw_s80 w1, mw_s81 w1, mw_s82 w1, mw_s83 w1, mw_s84 w1, mw_s85 w1, mw_r5 w1, mw_r15 w1, mw_r16 w1, mw_r17 w1, mw_r18 w1, mw_r21 w1, mw_r22 w1, zq_s q1, zq_s1 q1, zq_r8 q1, zq_s2 q1, zq_r9 q1, zq_s3 q1, zq_r10 q1, zq_s4 q1, zq_r11 q1, zq_s5 q1, zq_r12 q1, zq_s6 q1, zq_r13 q1, zq_s7 q1, zq_r14 q1, zq_s8 q1, zq_r15 q1, zq_s9 q1, zq_r16 q1, zq_s10 q1, zq_r17 q1, zq_s11 q1, zq_r18 q1, zq_s12 q1, zq_r19 q1, zq_s13 q1, zq_r20 q1, r1]
  rw [I1.k5]
  try simp (disch := omega) only [zgi_gz, zj_cn, zj_lt, zj_le, zj_eq, zj_add, zj_sub, zj_mul, zj_neg, zj_lt0, zj_le0, zj_0le, zj_0lt, zj_eq0, zb_0, zb_z, Classical.not_not, Int.zero_add, Int.add_zero, zj_remn, zj_divn]
  refine ⟨fun c => by omega, fun _ => ?_⟩
  refine cm_isMetG q1 (by rw [d4]; omega) (fun i hi2 => ?_) (by omega) (by omega) ?_
  · rw [d4] at hi2
    obtain ⟨x, hx⟩ : ∃ x, D.2.2.1[i]? = some x := ⟨_, List.getElem?_eq_getElem (by omega)⟩
    have := (rm i x hx).1
    have := (I.o.2.2.2.2.1 i x hx).1
    omega
  simp only [oPI, oPL, oILOAD, oLLOAD, oALOAD, oISTORE, oASTORE, oLSTORE, oIINC, oIADD, oISUB, oIMUL, oIAND, oIOR, oIXOR, oIDIV, oIREM, oISHL, oISHR, oIUSHR, oLADD, oLSUB, oLMUL, oLOR, oLDIV, oLREM, oLCMP, oLSHL, oINEG, oI2L, oL2I, oI2B, oI2C, oDUP, oPOP, oDUP2, oIFEQ, oICEQ, oIFNE, oICNE, oIFLT, oICLT, oIFGE, oICGE, oIFGT, oICGT, oIFLE, oICLE, oIFNULL, oIFNONNULL, oTSW, oLSW, oGETI, oGETL, oGETR, oPUTI, oPUTZ, oPUTL, oPUTR, oIALD, oBALD, oZALD, oLALD, oAALD, oALEN, oIAST, oBAST, oZAST, oLAST, oIRET, oZRET, oLRET, oVRET, oARET, oOBJ, oINI, oPS, oNEW, oNEWAI, oNEWAB, oNEWAZ, oNEWAL, oCOPY, oINV0, oINS0, oINV1, oINS1, oINV2, oINS2, oINV3, oINS3, oINV4, oINS4, oINV5, oINS5, oINV6, oINS6, List.getElem?_cons_zero, List.getElem?_cons_succ, List.set_cons_zero, List.set_cons_succ, znl, zs4, zc1, true_and, and_self, Value.category, Option.toList, List.cons_append, List.nil_append, zvr, mw_s w1, mw_s79 w1, mw_s80 w1, mw_s81 w1, mw_s82 w1, mw_s83 w1, mw_s84 w1, mw_s85 w1, mw_r5 w1, mw_r15 w1, mw_r16 w1, mw_r17 w1, mw_r18 w1, mw_r21 w1, mw_r22 w1, zq_s q1, zq_s1 q1, zq_r8 q1, zq_s2 q1, zq_r9 q1, zq_s3 q1, zq_r10 q1, zq_s4 q1, zq_r11 q1, zq_s5 q1, zq_r12 q1, zq_s6 q1, zq_r13 q1, zq_s7 q1, zq_r14 q1, zq_s8 q1, zq_r15 q1, zq_s9 q1, zq_r16 q1, zq_s10 q1, zq_r17 q1, zq_s11 q1, zq_r18 q1, zq_s12 q1, zq_r19 q1, zq_s13 q1, zq_r20 q1, r1]
  try simp (disch := omega) only [zgi_gz, zj_cn, zj_lt, zj_le, zj_eq, zj_add, zj_sub, zj_mul, zj_neg, zj_lt0, zj_le0, zj_0le, zj_0lt, zj_eq0, zb_0, zb_z, Classical.not_not, Int.zero_add, Int.add_zero, zj_remn, zj_divn]
  rw [hi]
  clear hi
  refine ⟨fun c2 => ?_, fun c2 => ?_⟩
  rotate_left
  · refine cm_flaw (f := 3) (by omega) I1 (fun h2 F2 => ?_)
    simp only [oPI, oPL, oILOAD, oLLOAD, oALOAD, oISTORE, oASTORE, oLSTORE, oIINC, oIADD, oISUB, oIMUL, oIAND, oIOR, oIXOR, oIDIV, oIREM, oISHL, oISHR, oIUSHR, oLADD, oLSUB, oLMUL, oLOR, oLDIV, oLREM, oLCMP, oLSHL, oINEG, oI2L, oL2I, oI2B, oI2C, oDUP, oPOP, oDUP2, oIFEQ, oICEQ, oIFNE, oICNE, oIFLT, oICLT, oIFGE, oICGE, oIFGT, oICGT, oIFLE, oICLE, oIFNULL, oIFNONNULL, oTSW, oLSW, oGETI, oGETL, oGETR, oPUTI, oPUTZ, oPUTL, oPUTR, oIALD, oBALD, oZALD, oLALD, oAALD, oALEN, oIAST, oBAST, oZAST, oLAST, oIRET, oZRET, oLRET, oVRET, oARET, oOBJ, oINI, oPS, oNEW, oNEWAI, oNEWAB, oNEWAZ, oNEWAL, oCOPY, oINV0, oINS0, oINV1, oINS1, oINV2, oINS2, oINV3, oINS3, oINV4, oINS4, oINV5, oINS5, oINV6, oINS6, List.getElem?_cons_zero, List.getElem?_cons_succ, List.set_cons_zero, List.set_cons_succ, znl, zs4, zc1, true_and, and_self, Value.category, Option.toList, List.cons_append, List.nil_append, zvr]
    exact ov45 _ h2 _ F2 (k0 _ (zif_t c2) h2 F2)
  rw [zif_f c2] at k1 k0
  clear c2
  have ta : a = (tk_v T n (tk_e T n s), tk_e T n (tk_e T n s)) := ra.2.2.2.2
  have ta2 : tk_e T n (tk_e T n s) = a.2 := by rw [ta]
  refine vb_X9_readMet_45 _ _ _ ?_
  simp only [B_X9_readMet_45, oPI, oPL, oILOAD, oLLOAD, oALOAD, oISTORE, oASTORE, oLSTORE, oIINC, oIADD, oISUB, oIMUL, oIAND, oIOR, oIXOR, oIDIV, oIREM, oISHL, oISHR, oIUSHR, oLADD, oLSUB, oLMUL, oLOR, oLDIV, oLREM, oLCMP, oLSHL, oINEG, oI2L, oL2I, oI2B, oI2C, oDUP, oPOP, oDUP2, oIFEQ, oICEQ, oIFNE, oICNE, oIFLT, oICLT, oIFGE, oICGE, oIFGT, oICGT, oIFLE, oICLE, oIFNULL, oIFNONNULL, oTSW, oLSW, oGETI, oGETL, oGETR, oPUTI, oPUTZ, oPUTL, oPUTR, oIALD, oBALD, oZALD, oLALD, oAALD, oALEN, oIAST, oBAST, oZAST, oLAST, oIRET, oZRET, oLRET, oVRET, oARET, oOBJ, oINI, oPS, oNEW, oNEWAI, oNEWAB, oNEWAZ, oNEWAL, oCOPY, oINV0, oINS0, oINV1, oINS1, oINV2, oINS2, oINV3, oINS3, oINV4, oINS4, oINV5, oINS5, oINV6, oINS6, List.getElem?_cons_zero, List.getElem?_cons_succ, List.set_cons_zero, List.set_cons_succ, znl, zs4, zc1, true_and, and_self, Value.category, Option.toList, List.cons_append, List.nil_append, zvr, mw_s w1, mw_s79 w1, mw_s80 w1, mw_s81 w1, mw_s82 w1, mw_s83 w1, mw_s84 w1, mw_s85 w1, mw_r5 w1, mw_r15 w1, mw_r16 w1, mw_r17 w1, mw_r18 w1, mw_r21 w1, mw_r22 w1]
  refine cm_goesOnR I1 (by omega) (fun h3 I3 => ?_)
  rw [ta2] at I3
  have w3 := I3.w
  simp only [oPI, oPL, oILOAD, oLLOAD, oALOAD, oISTORE, oASTORE, oLSTORE, oIINC, oIADD, oISUB, oIMUL, oIAND, oIOR, oIXOR, oIDIV, oIREM, oISHL, oISHR, oIUSHR, oLADD, oLSUB, oLMUL, oLOR, oLDIV, oLREM, oLCMP, oLSHL, oINEG, oI2L, oL2I, oI2B, oI2C, oDUP, oPOP, oDUP2, oIFEQ, oICEQ, oIFNE, oICNE, oIFLT, oICLT, oIFGE, oICGE, oIFGT, oICGT, oIFLE, oICLE, oIFNULL, oIFNONNULL, oTSW, oLSW, oGETI, oGETL, oGETR, oPUTI, oPUTZ, oPUTL, oPUTR, oIALD, oBALD, oZALD, oLALD, oAALD, oALEN, oIAST, oBAST, oZAST, oLAST, oIRET, oZRET, oLRET, oVRET, oARET, oOBJ, oINI, oPS, oNEW, oNEWAI, oNEWAB, oNEWAZ, oNEWAL, oCOPY, oINV0, oINS0, oINV1, oINS1, oINV2, oINS2, oINV3, oINS3, oINV4, oINS4, oINV5, oINS5, oINV6, oINS6, List.getElem?_cons_zero, List.getElem?_cons_succ, List.set_cons_zero, List.set_cons_succ, znl, zs4, zc1, true_and, and_self, Value.category, Option.toList, List.cons_append, List.nil_append, zvr, mw_s w3, mw_s79 w3, mw_s80 w3, mw_s81 w3, mw_s82 w3, mw_s83 w3, mw_s84 w3, mw_s85 w3, mw_r5 w3, mw_r15 w3, mw_r16 w3, mw_r17 w3, mw_r18 w3, mw_r21 w3, mw_r22 w3]
  refine cm_readWord I3 (fun c e3 h2 I2 => ?_) (fun e e3 h2 x F2 => ?_)
  rotate_left
  · have kk := k0 e (by rw [e3]; rfl) h2 F2
    have w2 := F2.w
    simp only [oPI, oPL, oILOAD, oLLOAD, oALOAD, oISTORE, oASTORE, oLSTORE, oIINC, oIADD, oISUB, oIMUL, oIAND, oIOR, oIXOR, oIDIV, oIREM, oISHL, oISHR, oIUSHR, oLADD, oLSUB, oLMUL, oLOR, oLDIV, oLREM, oLCMP, oLSHL, oINEG, oI2L, oL2I, oI2B, oI2C, oDUP, oPOP, oDUP2, oIFEQ, oICEQ, oIFNE, oICNE, oIFLT, oICLT, oIFGE, oICGE, oIFGT, oICGT, oIFLE, oICLE, oIFNULL, oIFNONNULL, oTSW, oLSW, oGETI, oGETL, oGETR, oPUTI, oPUTZ, oPUTL, oPUTR, oIALD, oBALD, oZALD, oLALD, oAALD, oALEN, oIAST, oBAST, oZAST, oLAST, oIRET, oZRET, oLRET, oVRET, oARET, oOBJ, oINI, oPS, oNEW, oNEWAI, oNEWAB, oNEWAZ, oNEWAL, oCOPY, oINV0, oINS0, oINV1, oINS1, oINV2, oINS2, oINV3, oINS3, oINV4, oINS4, oINV5, oINS5, oINV6, oINS6, List.getElem?_cons_zero, List.getElem?_cons_succ, List.set_cons_zero, List.set_cons_succ, znl, zs4, zc1, true_and, and_self, Value.category, Option.toList, List.cons_append, List.nil_append, zvr, mw_s w2, mw_s79 w2, mw_s80 w2, mw_s81 w2, mw_s82 w2, mw_s83 w2, mw_s84 w2, mw_s85 w2, mw_r5 w2, mw_r15 w2, mw_r16 w2, mw_r17 w2, mw_r18 w2, mw_r21 w2, mw_r22 w2]
    rw [F2.k5]
    exact ⟨fun z => absurd rfl z, fun _ => kk⟩
  have rc := pA_r I3.b.2.1 e3
  have w2 := I2.w
  have q2 := I2.q
  have r2 := I2.r
  have zb2 := zmk_b T n c.2
  obtain ⟨f0, f1, f2, f3, sb, f4, sm, f5, sh, f6, sp, f7, sn⟩ := I2.d
  simp only [oPI, oPL, oILOAD, oLLOAD, oALOAD, oISTORE, oASTORE, oLSTORE, oIINC, oIADD, oISUB, oIMUL, oIAND, oIOR, oIXOR, oIDIV, oIREM, oISHL, oISHR, oIUSHR, oLADD, oLSUB, oLMUL, oLOR, oLDIV, oLREM, oLCMP, oLSHL, oINEG, oI2L, oL2I, oI2B, oI2C, oDUP, oPOP, oDUP2, oIFEQ, oICEQ, oIFNE, oICNE, oIFLT, oICLT, oIFGE, oICGE, oIFGT, oICGT, oIFLE, oICLE, oIFNULL, oIFNONNULL, oTSW, oLSW, oGETI, oGETL, oGETR, oPUTI, oPUTZ, oPUTL, oPUTR, oIALD, oBALD, oZALD, oLALD, oAALD, oALEN, oIAST, oBAST, oZAST, oLAST, oIRET, oZRET, oLRET, oVRET, oARET, oOBJ, oINI, oPS, oNEW, oNEWAI, oNEWAB, oNEWAZ, oNEWAL, oCOPY, oINV0, oINS0, oINV1, oINS1, oINV2, oINS2, oINV3, oINS3, oINV4, oINS4, oINV5, oINS5, oINV6, oINS6, List.getElem?_cons_zero, List.getElem?_cons_succ, List.set_cons_zero, List.set_cons_succ, znl, zs4, zc1, true_and, and_self, Value.category, Option.toList, List.cons_append, List.nil_append, zvr, mw_s w2, mw_s79 w2, mw_s80 w2, mw_s81 w2, mw_s82 w2, mw_s83 w2, mw_s84 w2, mw_s85 w2, mw_r5 w2, mw_r15 w2, mw_r16 w2, mw_r17 w2, mw_r18 w2, mw_r21 w2, mw_r22 w2, zq_s q2, zq_s1 q2, zq_r8 q2, zq_s2 q2, zq_r9 q2, zq_s3 q2, zq_r10 q2, zq_s4 q2, zq_r11 q2, zq_s5 q2, zq_r12 q2, zq_s6 q2, zq_r13 q2, zq_s7 q2, zq_r14 q2, zq_s8 q2, zq_r15 q2, zq_s9 q2, zq_r16 q2, zq_s10 q2, zq_r17 q2, zq_s11 q2, zq_r18 q2, zq_s12 q2, zq_r19 q2, zq_s13 q2, zq_r20 q2, r2]
  rw [I2.k5]
  try simp (disch := omega) only [zgi_gz, zj_cn, zj_lt, zj_le, zj_eq, zj_add, zj_sub, zj_mul, zj_neg, zj_lt0, zj_le0, zj_0le, zj_0lt, zj_eq0, zb_0, zb_z, Classical.not_not, Int.zero_add, Int.add_zero, zj_remn, zj_divn]
  refine ⟨fun _ => ?_, fun c => by omega⟩
  obtain ⟨N, hN⟩ : ∃ N, D.2.2.1.length = N := ⟨_, rfl⟩
  rw [hN] at f4
  have g5 : zgi h2 t 4 = zj (N : Nat) := by rw [zgi_gz, f4]
  refine vb_X9_readMet_63 _ _ _ ?_
  simp only [B_X9_readMet_63, oPI, oPL, oILOAD, oLLOAD, oALOAD, oISTORE, oASTORE, oLSTORE, oIINC, oIADD, oISUB, oIMUL, oIAND, oIOR, oIXOR, oIDIV, oIREM, oISHL, oISHR, oIUSHR, oLADD, oLSUB, oLMUL, oLOR, oLDIV, oLREM, oLCMP, oLSHL, oINEG, oI2L, oL2I, oI2B, oI2C, oDUP, oPOP, oDUP2, oIFEQ, oICEQ, oIFNE, oICNE, oIFLT, oICLT, oIFGE, oICGE, oIFGT, oICGT, oIFLE, oICLE, oIFNULL, oIFNONNULL, oTSW, oLSW, oGETI, oGETL, oGETR, oPUTI, oPUTZ, oPUTL, oPUTR, oIALD, oBALD, oZALD, oLALD, oAALD, oALEN, oIAST, oBAST, oZAST, oLAST, oIRET, oZRET, oLRET, oVRET, oARET, oOBJ, oINI, oPS, oNEW, oNEWAI, oNEWAB, oNEWAZ, oNEWAL, oCOPY, oINV0, oINS0, oINV1, oINS1, oINV2, oINS2, oINV3, oINS3, oINV4, oINS4, oINV5, oINS5, oINV6, oINS6, List.getElem?_cons_zero, List.getElem?_cons_succ, List.set_cons_zero, List.set_cons_succ, znl, zs4, zc1, true_and, and_self, Value.category, Option.toList, List.cons_append, List.nil_append, zvr, mw_s w2, mw_s79 w2, mw_s80 w2, mw_s81 w2, mw_s82 w2, mw_s83 w2, mw_s84 w2, mw_s85 w2, mw_r5 w2, mw_r15 w2, mw_r16 w2, mw_r17 w2, mw_r18 w2, mw_r21 w2, mw_r22 w2, zq_s q2, zq_s1 q2, zq_r8 q2, zq_s2 q2, zq_r9 q2, zq_s3 q2, zq_r10 q2, zq_s4 q2, zq_r11 q2, zq_s5 q2, zq_r12 q2, zq_s6 q2, zq_r13 q2, zq_s7 q2, zq_r14 q2, zq_s8 q2, zq_r15 q2, zq_s9 q2, zq_r16 q2, zq_s10 q2, zq_r17 q2, zq_s11 q2, zq_r18 q2, zq_s12 q2, zq_r19 q2, zq_s13 q2, zq_r20 q2, r2, zsh_pi, zgr_pi, zsh_pl, zgr_pl]
  simp (disch := omega) only [zpi_o, zgi_plo]
  rw [g5, zj_cn (by omega), zj_add]
  obtain ⟨h9, hh⟩ : ∃ h9, h9 = zpi (zpl (zpi h2 (t + 6) N (zj (a.1 : Nat))) (t + 10) N (zk (zfo 32 96 c.1 : Nat))) t 4 (zj ((N : Int) + 1)) := ⟨_, rfl⟩
  rw [← hh]
  have gi : ∀ x y, ¬ (x = t + 6 ∧ y = N) → ¬ (x = t ∧ y = 4) → zgi h9 x y = zgi h2 x y := fun x y q0 q1 => by rw [hh]; simp (disch := omega) only [zpi_o, zgi_plo]
  have g : ∀ x y, ¬ (x = t + 6 ∧ y = N) → ¬ (x = t ∧ y = 4) → gz h9 x y = gz h2 x y := fun x y q0 q1 => congrArg Int32.toInt (gi x y q0 q1)
  have gl : ∀ x y, ¬ (x = t + 10 ∧ y = N) → zgl h9 x y = zgl h2 x y := fun x y q0 => by rw [hh]; simp (disch := omega) only [zplo, zgl_pio]
  have v4 : gz h9 t 4 = (N : Int) + 1 := by show (zgi h9 t 4).toInt = _; rw [hh]; simp (disch := omega) only [zpi_o, zgi_plo, zpi_s, zj_toInt]
  have v6 : gz h9 (t + 6) N = a.1 := by show (zgi h9 (t + 6) N).toInt = _; rw [hh]; simp (disch := omega) only [zpi_o, zgi_plo, zpi_s, zj_toInt]
  have v10 : zgl h9 (t + 10) N = zk (zfo 32 96 c.1 : Nat) := by rw [hh]; simp (disch := omega) only [zplo, zgl_pio, zpl_s]
  refine ⟨zj_in (by omega) (by omega) (by omega), zj_in (by omega) (by omega) (by omega), k1 (zD_met D a.1 c.1, c.2) (by rw [e3]; rfl) h9 (I2.step (by rw [hh]; rfl) (by rw [hh]; rfl) (fun x y z => gi x y (by omega) (by omega)) (fun x y z => gl x y (by omega)) ?_ (zDo_met I.o (by omega) c6 rc.2.2.1 (by omega)))⟩
  refine ⟨?_, ?_, ?_, ?_, fun i b hb => ?_, ?_, fun i x hx => ?_, ?_, fun i x hx => ?_, ?_, fun i x hx => ?_, ?_, fun i x hx => ?_⟩
  · rw [g _ _ (by omega) (by omega)]; exact f0
  · rw [g _ _ (by omega) (by omega)]; exact f1
  · rw [g _ _ (by omega) (by omega)]; exact f2
  · rw [g _ _ (by omega) (by omega)]; exact f3
  · rw [g _ _ (by omega) (by omega), g _ _ (by omega) (by omega), g _ _ (by omega) (by omega), g _ _ (by omega) (by omega), gl _ _ (by omega)]; exact sb i b hb
  · rw [v4]; show (N : Int) + 1 = (((D.2.2.1 ++ [(a.1, c.1)]).length : Nat) : Int); rw [List.length_append]; simp; omega
  · rcases zap1 hx with ⟨hj, hx⟩ | ⟨hj, rfl⟩
    · rw [g _ _ (by omega) (by omega), gl _ _ (by omega)]; exact sm i x hx
    · rw [hj, hN]; exact ⟨v6, v10⟩
  · rw [g _ _ (by omega) (by omega)]; exact f5
  · rw [g _ _ (by omega) (by omega)]; exact sh i x hx
  · rw [g _ _ (by omega) (by omega)]; exact f6
  · rw [g _ _ (by omega) (by omega), g _ _ (by omega) (by omega)]; exact sp i x hx
  · rw [g _ _ (by omega) (by omega)]; exact f7
  · rw [gl _ _ (by omega), g _ _ (by omega) (by omega), g _ _ (by omega) (by omega)]; exact sn i x hx
end ZMZ
