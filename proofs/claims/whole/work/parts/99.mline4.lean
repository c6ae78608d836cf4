section ZMZ
variable {X : Nat × (Nat → Int32)} {R : zRt} {h h' h0 h1 h2 : zHp} {t : Nat} {T : Nat → Int} {n s : Nat} {D D' : zDt} {e : zEr}
theorem zcp_set {P : zBt → Bool} : ∀ (l : List zBt) (b : Nat) (x y : zBt), l[b]? = some x → (l.set b y).countP P + (if P x = true then 1 else 0) = l.countP P + (if P y = true then 1 else 0)
  | [], b, x, y, h => by simp at h
  | z :: l, 0, x, y, h => by
    have e : z = x := by simpa using h
    rw [e, List.set_cons_zero, List.countP_cons, List.countP_cons]
    omega
  | z :: l, b + 1, x, y, h => by
    have ih := zcp_set (P := P) l b x y (by simpa using h)
    rw [List.set_cons_succ, List.countP_cons, List.countP_cons]
    omega
theorem cm_readWant (pk : zPk X) (I : zMI h0 h t T n s D) (hd : ¬ tk_d T n s = 4) (k1 : ∀ a, (zif (D.1 = -1) (.inl (6, tk_p T n s)) (pCell T n D false (tk_e T n s)) : zEr ⊕ (zDt × Nat)) = .inr a → ∀ h', zMI h0 h' t T n a.2 a.1 → R none h') (k0 : ∀ e, (zif (D.1 = -1) (.inl (6, tk_p T n s)) (pCell T n D false (tk_e T n s)) : zEr ⊕ (zDt × Nat)) = .inl e → ∀ h', zMF h0 h' t e → R none h') : zCC X M_X9_readWant [.ref 78] h R := by
  have w := I.w
  have q := I.q
  have r := I.r
  have o := I.o
  have h6 := o.2.2.1.1
  unfold pCell at k1 k0
  have ov38 : ∀ e h1 z, zMF h0 h1 t e → R none h1 → zV X M_X9_readWant (zQm M_X9_readWant R) 0 0 38 [.ref 78, .int z, .retAddr 0] [] h1 := fun e h1 z F1 k => by
    have w1 := F1.w
    refine vb_X9_readWant_38 _ _ _ ?_
    simp only [B_X9_readWant_38, oPI, oPL, oILOAD, oLLOAD, oALOAD, oISTORE, oASTORE, oLSTORE, oIINC, oIADD, oISUB, oIMUL, oIAND, oIOR, oIXOR, oIDIV, oIREM, oISHL, oISHR, oIUSHR, oLADD, oLSUB, oLMUL, oLOR, oLDIV, oLREM, oLCMP, oLSHL, oINEG, oI2L, oL2I, oI2B, oI2C, oDUP, oPOP, oDUP2, oIFEQ, oICEQ, oIFNE, oICNE, oIFLT, oICLT, oIFGE, oICGE, oIFGT, oICGT, oIFLE, oICLE, oIFNULL, oIFNONNULL, oTSW, oLSW, oGETI, oGETL, oGETR, oPUTI, oPUTZ, oPUTL, oPUTR, oIALD, oBALD, oZALD, oLALD, oAALD, oALEN, oIAST, oBAST, oZAST, oLAST, oIRET, oZRET, oLRET, oVRET, oARET, oOBJ, oINI, oPS, oNEW, oNEWAI, oNEWAB, oNEWAZ, oNEWAL, oCOPY, oINV0, oINS0, oINV1, oINS1, oINV2, oINS2, oINV3, oINS3, oINV4, oINS4, oINV5, oINS5, oINV6, oINS6, List.getElem?_cons_zero, List.getElem?_cons_succ, List.set_cons_zero, List.set_cons_succ, znl, zs4, zc1, true_and, and_self, Value.category, Option.toList, List.cons_append, List.nil_append, zvr, mw_s w1, mw_s79 w1, mw_s80 w1, mw_s81 w1, mw_s82 w1, mw_s83 w1, mw_s84 w1, mw_s85 w1, mw_r5 w1, mw_r15 w1, mw_r16 w1, mw_r17 w1, mw_r18 w1, mw_r21 w1, mw_r22 w1]
    refine co_goesOn F1 ?_
    simp only [oPI, oPL, oILOAD, oLLOAD, oALOAD, oISTORE, oASTORE, oLSTORE, oIINC, oIADD, oISUB, oIMUL, oIAND, oIOR, oIXOR, oIDIV, oIREM, oISHL, oISHR, oIUSHR, oLADD, oLSUB, oLMUL, oLOR, oLDIV, oLREM, oLCMP, oLSHL, oINEG, oI2L, oL2I, oI2B, oI2C, oDUP, oPOP, oDUP2, oIFEQ, oICEQ, oIFNE, oICNE, oIFLT, oICLT, oIFGE, oICGE, oIFGT, oICGT, oIFLE, oICLE, oIFNULL, oIFNONNULL, oTSW, oLSW, oGETI, oGETL, oGETR, oPUTI, oPUTZ, oPUTL, oPUTR, oIALD, oBALD, oZALD, oLALD, oAALD, oALEN, oIAST, oBAST, oZAST, oLAST, oIRET, oZRET, oLRET, oVRET, oARET, oOBJ, oINI, oPS, oNEW, oNEWAI, oNEWAB, oNEWAZ, oNEWAL, oCOPY, oINV0, oINS0, oINV1, oINS1, oINV2, oINS2, oINV3, oINS3, oINV4, oINS4, oINV5, oINS5, oINV6, oINS6, List.getElem?_cons_zero, List.getElem?_cons_succ, List.set_cons_zero, List.set_cons_succ, znl, zs4, zc1, true_and, and_self, Value.category, Option.toList, List.cons_append, List.nil_append, zvr, mw_s w1, mw_s79 w1, mw_s80 w1, mw_s81 w1, mw_s82 w1, mw_s83 w1, mw_s84 w1, mw_s85 w1, mw_r5 w1, mw_r15 w1, mw_r16 w1, mw_r17 w1, mw_r18 w1, mw_r21 w1, mw_r22 w1]
    refine co_readPart F1 ?_
    simp only [oPI, oPL, oILOAD, oLLOAD, oALOAD, oISTORE, oASTORE, oLSTORE, oIINC, oIADD, oISUB, oIMUL, oIAND, oIOR, oIXOR, oIDIV, oIREM, oISHL, oISHR, oIUSHR, oLADD, oLSUB, oLMUL, oLOR, oLDIV, oLREM, oLCMP, oLSHL, oINEG, oI2L, oL2I, oI2B, oI2C, oDUP, oPOP, oDUP2, oIFEQ, oICEQ, oIFNE, oICNE, oIFLT, oICLT, oIFGE, oICGE, oIFGT, oICGT, oIFLE, oICLE, oIFNULL, oIFNONNULL, oTSW, oLSW, oGETI, oGETL, oGETR, oPUTI, oPUTZ, oPUTL, oPUTR, oIALD, oBALD, oZALD, oLALD, oAALD, oALEN, oIAST, oBAST, oZAST, oLAST, oIRET, oZRET, oLRET, oVRET, oARET, oOBJ, oINI, oPS, oNEW, oNEWAI, oNEWAB, oNEWAZ, oNEWAL, oCOPY, oINV0, oINS0, oINV1, oINS1, oINV2, oINS2, oINV3, oINS3, oINV4, oINS4, oINV5, oINS5, oINV6, oINS6, List.getElem?_cons_zero, List.getElem?_cons_succ, List.set_cons_zero, List.set_cons_succ, znl, zs4, zc1, true_and, and_self, Value.category, Option.toList, List.cons_append, List.nil_append, zvr, mw_s w1, mw_s79 w1, mw_s80 w1, mw_s81 w1, mw_s82 w1, mw_s83 w1, mw_s84 w1, mw_s85 w1, mw_r5 w1, mw_r15 w1, mw_r16 w1, mw_r17 w1, mw_r18 w1, mw_r21 w1, mw_r22 w1]
    rw [F1.k5]
    exact ⟨fun z => absurd rfl z, fun _ => k⟩
  refine zCC_of (ls := [.ref 78, .retAddr 0, .retAddr 0]) pf_X9_readWant rfl (Nat.le_of_ble_eq_true rfl) ?_
  refine vb_X9_readWant_0 _ _ _ ?_
  simp only [B_X9_readWant_0, oPI, oPL, oILOAD, oLLOAD, oALOAD, oISTORE, oASTORE, oLSTORE, oIINC, oIADD, oISUB, oIMUL, oIAND, oIOR, oIXOR, oIDIV, oIREM, oISHL, oISHR, oIUSHR, oLADD, oLSUB, oLMUL, oLOR, oLDIV, oLREM, oLCMP, oLSHL, oINEG, oI2L, oL2I, oI2B, oI2C, oDUP, oPOP, oDUP2, oIFEQ, oICEQ, oIFNE, oICNE, oIFLT, oICLT, oIFGE, oICGE, oIFGT, oICGT, oIFLE, oICLE, oIFNULL, oIFNONNULL, oTSW, oLSW, oGETI, oGETL, oGETR, oPUTI, oPUTZ, oPUTL, oPUTR, oIALD, oBALD, oZALD, oLALD, oAALD, oALEN, oIAST, oBAST, oZAST, oLAST, oIRET, oZRET, oLRET, oVRET, oARET, oOBJ, oINI, oPS, oNEW, oNEWAI, oNEWAB, oNEWAZ, oNEWAL, oCOPY, oINV0, oINS0, oINV1, oINS1, oINV2, oINS2, oINV3, oINS3, oINV4, oINS4, oINV5, oINS5, oINV6, oINS6, List.getElem?_cons_zero, List.getElem?_cons_succ, List.set_cons_zero, List.set_cons_succ, znl, zs4, zc1, true_and, and_self, Value.category, Option.toList, List.cons_append, List.nil_append, zvr, mw_s w, mw_s79 w, mw_s80 w, mw_s81 w, mw_s82 w, mw_s83 w, mw_s84 w, mw_s85 w, mw_r5 w, mw_r15 w, mw_r16 w, mw_r17 w, mw_r18 w, mw_r21 w, mw_r22 w]
  refine cm_lineBegins (a := 0) (m := 1) I (by omega) (by omega) hd (fun _ c6 h1 I1 => ?_) (fun c5 => absurd c5 (by decide)) (fun _ c6 h1 F1 => ?_)
  rotate_left
  · have kk := k0 (6, tk_p T n s) (zif_t c6) h1 F1
    have w1 := F1.w
    simp only [oPI, oPL, oILOAD, oLLOAD, oALOAD, oISTORE, oASTORE, oLSTORE, oIINC, oIADD, oISUB, oIMUL, oIAND, oIOR, oIXOR, oIDIV, oIREM, oISHL, oISHR, oIUSHR, oLADD, oLSUB, oLMUL, oLOR, oLDIV, oLREM, oLCMP, oLSHL, oINEG, oI2L, oL2I, oI2B, oI2C, oDUP, oPOP, oDUP2, oIFEQ, oICEQ, oIFNE, oICNE, oIFLT, oICLT, oIFGE, oICGE, oIFGT, oICGT, oIFLE, oICLE, oIFNULL, oIFNONNULL, oTSW, oLSW, oGETI, oGETL, oGETR, oPUTI, oPUTZ, oPUTL, oPUTR, oIALD, oBALD, oZALD, oLALD, oAALD, oALEN, oIAST, oBAST, oZAST, oLAST, oIRET, oZRET, oLRET, oVRET, oARET, oOBJ, oINI, oPS, oNEW, oNEWAI, oNEWAB, oNEWAZ, oNEWAL, oCOPY, oINV0, oINS0, oINV1, oINS1, oINV2, oINS2, oINV3, oINS3, oINV4, oINS4, oINV5, oINS5, oINV6, oINS6, List.getElem?_cons_zero, List.getElem?_cons_succ, List.set_cons_zero, List.set_cons_succ, znl, zs4, zc1, true_and, and_self, Value.category, Option.toList, List.cons_append, List.nil_append, zvr, mw_s w1, mw_s79 w1, mw_s80 w1, mw_s81 w1, mw_s82 w1, mw_s83 w1, mw_s84 w1, mw_s85 w1, mw_r5 w1, mw_r15 w1, mw_r16 w1, mw_r17 w1, mw_r18 w1, mw_r21 w1, mw_r22 w1]
    refine co_knownBit F1 ?_
    simp only [oPI, oPL, oILOAD, oLLOAD, oALOAD, oISTORE, oASTORE, oLSTORE, oIINC, oIADD, oISUB, oIMUL, oIAND, oIOR, oIXOR, oIDIV, oIREM, oISHL, oISHR, oIUSHR, oLADD, oLSUB, oLMUL, oLOR, oLDIV, oLREM, oLCMP, oLSHL, oINEG, oI2L, oL2I, oI2B, oI2C, oDUP, oPOP, oDUP2, oIFEQ, oICEQ, oIFNE, oICNE, oIFLT, oICLT, oIFGE, oICGE, oIFGT, oICGT, oIFLE, oICLE, oIFNULL, oIFNONNULL, oTSW, oLSW, oGETI, oGETL, oGETR, oPUTI, oPUTZ, oPUTL, oPUTR, oIALD, oBALD, oZALD, oLALD, oAALD, oALEN, oIAST, oBAST, oZAST, oLAST, oIRET, oZRET, oLRET, oVRET, oARET, oOBJ, oINI, oPS, oNEW, oNEWAI, oNEWAB, oNEWAZ, oNEWAL, oCOPY, oINV0, oINS0, oINV1, oINS1, oINV2, oINS2, oINV3, oINS3, oINV4, oINS4, oINV5, oINS5, oINV6, oINS6, List.getElem?_cons_zero, List.getElem?_cons_succ, List.set_cons_zero, List.set_cons_succ, znl, zs4, zc1, true_and, and_self, Value.category, Option.toList, List.cons_append, List.nil_append, zvr, mw_s w1, mw_s79 w1, mw_s80 w1, mw_s81 w1, mw_s82 w1, mw_s83 w1, mw_s84 w1, mw_s85 w1, mw_r5 w1, mw_r15 w1, mw_r16 w1, mw_r17 w1, mw_r18 w1, mw_r21 w1, mw_r22 w1]
    rw [F1.k5]
    exact ⟨fun _ => ov38 _ h1 _ F1 kk, fun z => absurd rfl z⟩
  rw [zif_f c6] at k1 k0
  have w1 := I1.w
  have q1 := I1.q
  have r1 := I1.r
  simp only [oPI, oPL, oILOAD, oLLOAD, oALOAD, oISTORE, oASTORE, oLSTORE, oIINC, oIADD, oISUB, oIMUL, oIAND, oIOR, oIXOR, oIDIV, oIREM, oISHL, oISHR, oIUSHR, oLADD, oLSUB, oLMUL, oLOR, oLDIV, oLREM, oLCMP, oLSHL, oINEG, oI2L, oL2I, oI2B, oI2C, oDUP, oPOP, oDUP2, oIFEQ, oICEQ, oIFNE, oICNE, oIFLT, oICLT, oIFGE, oICGE, oIFGT, oICGT, oIFLE, oICLE, oIFNULL, oIFNONNULL, oTSW, oLSW, oGETI, oGETL, oGETR, oPUTI, oPUTZ, oPUTL, oPUTR, oIALD, oBALD, oZALD, oLALD, oAALD, oALEN, oIAST, oBAST, oZAST, oLAST, oIRET, oZRET, oLRET, oVRET, oARET, oOBJ, oINI, oPS, oNEW, oNEWAI, oNEWAB, oNEWAZ, oNEWAL, oCOPY, oINV0, oINS0, oINV1, oINS1, oINV2, oINS2, oINV3, oINS3, oINV4, oINS4, oINV5, oINS5, oINV6, oINS6, List.getElem?_cons_zero, List.getElem?_cons_succ, List.set_cons_zero, List.set_cons_succ, znl, zs4, zc1, true_and, and_self, Value.category, Option.toList, List.cons_append, List.nil_append, zvr, mw_s w1, mw_s79 w1, mw_s80 w1, mw_s81 w1, mw_s82 w1, mw_s83 w1, mw_s84 w1, mw_s85 w1, mw_r5 w1, mw_r15 w1, mw_r16 w1, mw_r17 w1, mw_r18 w1, mw_r21 w1, mw_r22 w1]
  refine cm_knownBit pk I1 (fun b c eb => ?_) (fun c h2 F2 => ?_) (fun c eb h2 F2 => ?_)
  rotate_left
  · have kk := k0 (1, tk_p T n (tk_e T n s)) (by unfold pOld; rw [zif_f c]; rfl) h2 F2
    have w2 := F2.w
    simp only [oPI, oPL, oILOAD, oLLOAD, oALOAD, oISTORE, oASTORE, oLSTORE, oIINC, oIADD, oISUB, oIMUL, oIAND, oIOR, oIXOR, oIDIV, oIREM, oISHL, oISHR, oIUSHR, oLADD, oLSUB, oLMUL, oLOR, oLDIV, oLREM, oLCMP, oLSHL, oINEG, oI2L, oL2I, oI2B, oI2C, oDUP, oPOP, oDUP2, oIFEQ, oICEQ, oIFNE, oICNE, oIFLT, oICLT, oIFGE, oICGE, oIFGT, oICGT, oIFLE, oICLE, oIFNULL, oIFNONNULL, oTSW, oLSW, oGETI, oGETL, oGETR, oPUTI, oPUTZ, oPUTL, oPUTR, oIALD, oBALD, oZALD, oLALD, oAALD, oALEN, oIAST, oBAST, oZAST, oLAST, oIRET, oZRET, oLRET, oVRET, oARET, oOBJ, oINI, oPS, oNEW, oNEWAI, oNEWAB, oNEWAZ, oNEWAL, oCOPY, oINV0, oINS0, oINV1, oINS1, oINV2, oINS2, oINV3, oINS3, oINV4, oINS4, oINV5, oINS5, oINV6, oINS6, List.getElem?_cons_zero, List.getElem?_cons_succ, List.set_cons_zero, List.set_cons_succ, znl, zs4, zc1, true_and, and_self, Value.category, Option.toList, List.cons_append, List.nil_append, zvr, mw_s w2, mw_s79 w2, mw_s80 w2, mw_s81 w2, mw_s82 w2, mw_s83 w2, mw_s84 w2, mw_s85 w2, mw_r5 w2, mw_r15 w2, mw_r16 w2, mw_r17 w2, mw_r18 w2, mw_r21 w2, mw_r22 w2]
    rw [F2.k5]
    exact ⟨fun _ => ov38 _ h2 _ F2 kk, fun z => absurd rfl z⟩
  · have kk := k0 (2, tk_p T n (tk_e T n s)) (by unfold pOld; rw [zif_t c, eb]; rfl) h2 F2
    have w2 := F2.w
    simp only [oPI, oPL, oILOAD, oLLOAD, oALOAD, oISTORE, oASTORE, oLSTORE, oIINC, oIADD, oISUB, oIMUL, oIAND, oIOR, oIXOR, oIDIV, oIREM, oISHL, oISHR, oIUSHR, oLADD, oLSUB, oLMUL, oLOR, oLDIV, oLREM, oLCMP, oLSHL, oINEG, oI2L, oL2I, oI2B, oI2C, oDUP, oPOP, oDUP2, oIFEQ, oICEQ, oIFNE, oICNE, oIFLT, oICLT, oIFGE, oICGE, oIFGT, oICGT, oIFLE, oICLE, oIFNULL, oIFNONNULL, oTSW, oLSW, oGETI, oGETL, oGETR, oPUTI, oPUTZ, oPUTL, oPUTR, oIALD, oBALD, oZALD, oLALD, oAALD, oALEN, oIAST, oBAST, oZAST, oLAST, oIRET, oZRET, oLRET, oVRET, oARET, oOBJ, oINI, oPS, oNEW, oNEWAI, oNEWAB, oNEWAZ, oNEWAL, oCOPY, oINV0, oINS0, oINV1, oINS1, oINV2, oINS2, oINV3, oINS3, oINV4, oINS4, oINV5, oINS5, oINV6, oINS6, List.getElem?_cons_zero, List.getElem?_cons_succ, List.set_cons_zero, List.set_cons_succ, znl, zs4, zc1, true_and, and_self, Value.category, Option.toList, List.cons_append, List.nil_append, zvr, mw_s w2, mw_s79 w2, mw_s80 w2, mw_s81 w2, mw_s82 w2, mw_s83 w2, mw_s84 w2, mw_s85 w2, mw_r5 w2, mw_r15 w2, mw_r16 w2, mw_r17 w2, mw_r18 w2, mw_r21 w2, mw_r22 w2]
    rw [F2.k5]
    exact ⟨fun _ => ov38 _ h2 _ F2 kk, fun z => absurd rfl z⟩
  have hbs := zbx_s _ _ _ eb
  obtain ⟨x, hx, -⟩ := hbs.2.2.1
  rw [Nat.sub_zero] at hx
  have hbl := zlen_o hx
  have dx := I1.d.2.2.2.2.1 b x hx
  have ox := o.2.2.2.1 b x hx
  have ez : zwa false (zbt D b) = x.2.2.2.2.1 := by rw [zbt_get hx]; rfl
  have zb := zmk_b T n (tk_e T n s)
  clear hbs
  simp only [oPI, oPL, oILOAD, oLLOAD, oALOAD, oISTORE, oASTORE, oLSTORE, oIINC, oIADD, oISUB, oIMUL, oIAND, oIOR, oIXOR, oIDIV, oIREM, oISHL, oISHR, oIUSHR, oLADD, oLSUB, oLMUL, oLOR, oLDIV, oLREM, oLCMP, oLSHL, oINEG, oI2L, oL2I, oI2B, oI2C, oDUP, oPOP, oDUP2, oIFEQ, oICEQ, oIFNE, oICNE, oIFLT, oICLT, oIFGE, oICGE, oIFGT, oICGT, oIFLE, oICLE, oIFNULL, oIFNONNULL, oTSW, oLSW, oGETI, oGETL, oGETR, oPUTI, oPUTZ, oPUTL, oPUTR, oIALD, oBALD, oZALD, oLALD, oAALD, oALEN, oIAST, oBAST, oZAST, oLAST, oIRET, oZRET, oLRET, oVRET, oARET, oOBJ, oINI, oPS, oNEW, oNEWAI, oNEWAB, oNEWAZ, oNEWAL, oCOPY, oINV0, oINS0, oINV1, oINS1, oINV2, oINS2, oINV3, oINS3, oINV4, oINS4, oINV5, oINS5, oINV6, oINS6, List.getElem?_cons_zero, List.getElem?_cons_succ, List.set_cons_zero, List.set_cons_succ, znl, zs4, zc1, true_and, and_self, Value.category, Option.toList, List.cons_append, List.nil_append, zvr, mw_s w1, mw_s79 w1, mw_s80 w1, mw_s81 w1, mw_s82 w1, mw_s83 w1, mw_s84 w1, mw_s85 w1, mw_r5 w1, mw_r15 w1, mw_r16 w1, mw_r17 w1, mw_r18 w1, mw_r21 w1, mw_r22 w1, zq_s q1, zq_s1 q1, zq_r8 q1, zq_s2 q1, zq_r9 q1, zq_s3 q1, zq_r10 q1, zq_s4 q1, zq_r11 q1, zq_s5 q1, zq_r12 q1, zq_s6 q1, zq_r13 q1, zq_s7 q1, zq_r14 q1, zq_s8 q1, zq_r15 q1, zq_s9 q1, zq_r16 q1, zq_s10 q1, zq_r17 q1, zq_s11 q1, zq_r18 q1, zq_s12 q1, zq_r19 q1, zq_s13 q1, zq_r20 q1, r1]
  rw [I1.k5, zj_cn (by omega), zgi_gz h1 (t + 3) b, dx.2.2.1]
  try simp (disch := omega) only [zgi_gz, zj_cn, zj_lt, zj_le, zj_eq, zj_add, zj_sub, zj_mul, zj_neg, zj_lt0, zj_le0, zj_0le, zj_0lt, zj_eq0, zb_0, zb_z, Classical.not_not, Int.zero_add, Int.add_zero, zj_remn, zj_divn]
  refine ⟨fun c => by omega, fun _ => ⟨zj_in (by omega) (by omega) (by omega), fun c2 => ?_, fun c2 => ?_⟩⟩
  rotate_left
  · refine cm_flaw (f := 3) (by omega) I1 (fun h2 F2 => ?_)
    simp only [oPI, oPL, oILOAD, oLLOAD, oALOAD, oISTORE, oASTORE, oLSTORE, oIINC, oIADD, oISUB, oIMUL, oIAND, oIOR, oIXOR, oIDIV, oIREM, oISHL, oISHR, oIUSHR, oLADD, oLSUB, oLMUL, oLOR, oLDIV, oLREM, oLCMP, oLSHL, oINEG, oI2L, oL2I, oI2B, oI2C, oDUP, oPOP, oDUP2, oIFEQ, oICEQ, oIFNE, oICNE, oIFLT, oICLT, oIFGE, oICGE, oIFGT, oICGT, oIFLE, oICLE, oIFNULL, oIFNONNULL, oTSW, oLSW, oGETI, oGETL, oGETR, oPUTI, oPUTZ, oPUTL, oPUTR, oIALD, oBALD, oZALD, oLALD, oAALD, oALEN, oIAST, oBAST, oZAST, oLAST, oIRET, oZRET, oLRET, oVRET, oARET, oOBJ, oINI, oPS, oNEW, oNEWAI, oNEWAB, oNEWAZ, oNEWAL, oCOPY, oINV0, oINS0, oINV1, oINS1, oINV2, oINS2, oINV3, oINS3, oINV4, oINS4, oINV5, oINS5, oINV6, oINS6, List.getElem?_cons_zero, List.getElem?_cons_succ, List.set_cons_zero, List.set_cons_succ, znl, zs4, zc1, true_and, and_self, Value.category, Option.toList, List.cons_append, List.nil_append, zvr]
    exact ov38 _ h2 _ F2 (k0 (3, tk_p T n (tk_e T n s)) (by unfold pOld; rw [zif_t c, eb]; show zbd (zif (zwa false (zbt D b) = -2) _ _) _ = _; rw [zif_f (by rw [ez]; exact c2)]; rfl) h2 F2)
  have ep : pOld T n D false (tk_e T n s) = .inr (b, tk_e T n (tk_e T n s)) := by
    unfold pOld
    rw [zif_t c, eb]
    show zif (zwa false (zbt D b) = -2) _ _ = _
    rw [zif_t (by rw [ez]; exact c2)]
  rw [ep] at k1 k0
  refine vb_X9_readWant_38 _ _ _ ?_
  simp only [B_X9_readWant_38, oPI, oPL, oILOAD, oLLOAD, oALOAD, oISTORE, oASTORE, oLSTORE, oIINC, oIADD, oISUB, oIMUL, oIAND, oIOR, oIXOR, oIDIV, oIREM, oISHL, oISHR, oIUSHR, oLADD, oLSUB, oLMUL, oLOR, oLDIV, oLREM, oLCMP, oLSHL, oINEG, oI2L, oL2I, oI2B, oI2C, oDUP, oPOP, oDUP2, oIFEQ, oICEQ, oIFNE, oICNE, oIFLT, oICLT, oIFGE, oICGE, oIFGT, oICGT, oIFLE, oICLE, oIFNULL, oIFNONNULL, oTSW, oLSW, oGETI, oGETL, oGETR, oPUTI, oPUTZ, oPUTL, oPUTR, oIALD, oBALD, oZALD, oLALD, oAALD, oALEN, oIAST, oBAST, oZAST, oLAST, oIRET, oZRET, oLRET, oVRET, oARET, oOBJ, oINI, oPS, oNEW, oNEWAI, oNEWAB, oNEWAZ, oNEWAL, oCOPY, oINV0, oINS0, oINV1, oINS1, oINV2, oINS2, oINV3, oINS3, oINV4, oINS4, oINV5, oINS5, oINV6, oINS6, List.getElem?_cons_zero, List.getElem?_cons_succ, List.set_cons_zero, List.set_cons_succ, znl, zs4, zc1, true_and, and_self, Value.category, Option.toList, List.cons_append, List.nil_append, zvr, mw_s w1, mw_s79 w1, mw_s80 w1, mw_s81 w1, mw_s82 w1, mw_s83 w1, mw_s84 w1, mw_s85 w1, mw_r5 w1, mw_r15 w1, mw_r16 w1, mw_r17 w1, mw_r18 w1, mw_r21 w1, mw_r22 w1]
  refine cm_goesOnR I1 (by omega) (fun h3 I3 => ?_)
  have w3 := I3.w
  simp only [oPI, oPL, oILOAD, oLLOAD, oALOAD, oISTORE, oASTORE, oLSTORE, oIINC, oIADD, oISUB, oIMUL, oIAND, oIOR, oIXOR, oIDIV, oIREM, oISHL, oISHR, oIUSHR, oLADD, oLSUB, oLMUL, oLOR, oLDIV, oLREM, oLCMP, oLSHL, oINEG, oI2L, oL2I, oI2B, oI2C, oDUP, oPOP, oDUP2, oIFEQ, oICEQ, oIFNE, oICNE, oIFLT, oICLT, oIFGE, oICGE, oIFGT, oICGT, oIFLE, oICLE, oIFNULL, oIFNONNULL, oTSW, oLSW, oGETI, oGETL, oGETR, oPUTI, oPUTZ, oPUTL, oPUTR, oIALD, oBALD, oZALD, oLALD, oAALD, oALEN, oIAST, oBAST, oZAST, oLAST, oIRET, oZRET, oLRET, oVRET, oARET, oOBJ, oINI, oPS, oNEW, oNEWAI, oNEWAB, oNEWAZ, oNEWAL, oCOPY, oINV0, oINS0, oINV1, oINS1, oINV2, oINS2, oINV3, oINS3, oINV4, oINS4, oINV5, oINS5, oINV6, oINS6, List.getElem?_cons_zero, List.getElem?_cons_succ, List.set_cons_zero, List.set_cons_succ, znl, zs4, zc1, true_and, and_self, Value.category, Option.toList, List.cons_append, List.nil_append, zvr, mw_s w3, mw_s79 w3, mw_s80 w3, mw_s81 w3, mw_s82 w3, mw_s83 w3, mw_s84 w3, mw_s85 w3, mw_r5 w3, mw_r15 w3, mw_r16 w3, mw_r17 w3, mw_r18 w3, mw_r21 w3, mw_r22 w3]
  refine cm_readPart pk I3 (i := 12) (m := 11) (by omega) (by omega) (fun s2 v e2 e3 h2 I2 => ?_) (fun e he h2 F2 => ?_)
  rotate_left
  · have kk := k0 e (by
      show zbd (pW T n (zk1 12) (tk_e T n (tk_e T n s))) _ = _
      rcases he with z1 | ⟨s1, z1, z2⟩
      · rw [z1]; rfl
      · rw [z1]; show zbd (pN T n 11 s1) _ = _; rw [z2]; rfl) h2 F2
    have w2 := F2.w
    simp only [oPI, oPL, oILOAD, oLLOAD, oALOAD, oISTORE, oASTORE, oLSTORE, oIINC, oIADD, oISUB, oIMUL, oIAND, oIOR, oIXOR, oIDIV, oIREM, oISHL, oISHR, oIUSHR, oLADD, oLSUB, oLMUL, oLOR, oLDIV, oLREM, oLCMP, oLSHL, oINEG, oI2L, oL2I, oI2B, oI2C, oDUP, oPOP, oDUP2, oIFEQ, oICEQ, oIFNE, oICNE, oIFLT, oICLT, oIFGE, oICGE, oIFGT, oICGT, oIFLE, oICLE, oIFNULL, oIFNONNULL, oTSW, oLSW, oGETI, oGETL, oGETR, oPUTI, oPUTZ, oPUTL, oPUTR, oIALD, oBALD, oZALD, oLALD, oAALD, oALEN, oIAST, oBAST, oZAST, oLAST, oIRET, oZRET, oLRET, oVRET, oARET, oOBJ, oINI, oPS, oNEW, oNEWAI, oNEWAB, oNEWAZ, oNEWAL, oCOPY, oINV0, oINS0, oINV1, oINS1, oINV2, oINS2, oINV3, oINS3, oINV4, oINS4, oINV5, oINS5, oINV6, oINS6, List.getElem?_cons_zero, List.getElem?_cons_succ, List.set_cons_zero, List.set_cons_succ, znl, zs4, zc1, true_and, and_self, Value.category, Option.toList, List.cons_append, List.nil_append, zvr, mw_s w2, mw_s79 w2, mw_s80 w2, mw_s81 w2, mw_s82 w2, mw_s83 w2, mw_s84 w2, mw_s85 w2, mw_r5 w2, mw_r15 w2, mw_r16 w2, mw_r17 w2, mw_r18 w2, mw_r21 w2, mw_r22 w2]
    rw [F2.k5]
    exact ⟨fun z => absurd rfl z, fun _ => kk⟩
  have rd := pW_r I3.b.2.1 e2
  have re := pN_r rd.2.1 e3
  have w2 := I2.w
  have q2 := I2.q
  have r2 := I2.r
  have zb2 := zmk_b T n v.2
  obtain ⟨f0, f1, f2, f3, sb, f4, sm, f5, sh, f6, sp, f7, sn⟩ := I2.d
  have gy := sb b x hx
  obtain ⟨P, hP⟩ : ∃ P : zBt → Bool, P = fun b => !decide (b.2.2.2.2.1 = -2) := ⟨_, rfl⟩
  obtain ⟨P2, hP2⟩ : ∃ P : zBt → Bool, P = fun b => !decide (b.2.2.2.2.2 = -2) := ⟨_, rfl⟩
  obtain ⟨N, hN⟩ : ∃ N, D.2.1.countP P = N := ⟨_, rfl⟩
  have hc := zcp_set (P := P) D.2.1 b x (zws1 false x v.1) hx
  have hc2 := zcp_set (P := P2) D.2.1 b x (zws1 false x v.1) hx
  have p1 : P x = false := by rw [hP]; simp [c2]
  have p2 : P (zws1 false x v.1) = true := by
    rw [hP]
    show (!decide (((v.1 : Nat) : Int) = -2)) = true
    have : ¬ (((v.1 : Nat) : Int) = -2) := by omega
    simp [this]
  have p3 : P2 (zws1 false x v.1) = P2 x := by rw [hP2]; rfl
  rw [if_neg (by rw [p1]; decide), if_pos p2, hN] at hc
  rw [p3] at hc2
  have hcl : D.2.1.countP P ≤ D.2.1.length := List.countP_le_length
  rw [← hP, hN] at f2
  rw [← hP2] at f3
  have g2 : zgi h2 t 2 = zj (N : Nat) := by rw [zgi_gz, f2]
  simp only [oPI, oPL, oILOAD, oLLOAD, oALOAD, oISTORE, oASTORE, oLSTORE, oIINC, oIADD, oISUB, oIMUL, oIAND, oIOR, oIXOR, oIDIV, oIREM, oISHL, oISHR, oIUSHR, oLADD, oLSUB, oLMUL, oLOR, oLDIV, oLREM, oLCMP, oLSHL, oINEG, oI2L, oL2I, oI2B, oI2C, oDUP, oPOP, oDUP2, oIFEQ, oICEQ, oIFNE, oICNE, oIFLT, oICLT, oIFGE, oICGE, oIFGT, oICGT, oIFLE, oICLE, oIFNULL, oIFNONNULL, oTSW, oLSW, oGETI, oGETL, oGETR, oPUTI, oPUTZ, oPUTL, oPUTR, oIALD, oBALD, oZALD, oLALD, oAALD, oALEN, oIAST, oBAST, oZAST, oLAST, oIRET, oZRET, oLRET, oVRET, oARET, oOBJ, oINI, oPS, oNEW, oNEWAI, oNEWAB, oNEWAZ, oNEWAL, oCOPY, oINV0, oINS0, oINV1, oINS1, oINV2, oINS2, oINV3, oINS3, oINV4, oINS4, oINV5, oINS5, oINV6, oINS6, List.getElem?_cons_zero, List.getElem?_cons_succ, List.set_cons_zero, List.set_cons_succ, znl, zs4, zc1, true_and, and_self, Value.category, Option.toList, List.cons_append, List.nil_append, zvr, mw_s w2, mw_s79 w2, mw_s80 w2, mw_s81 w2, mw_s82 w2, mw_s83 w2, mw_s84 w2, mw_s85 w2, mw_r5 w2, mw_r15 w2, mw_r16 w2, mw_r17 w2, mw_r18 w2, mw_r21 w2, mw_r22 w2, zq_s q2, zq_s1 q2, zq_r8 q2, zq_s2 q2, zq_r9 q2, zq_s3 q2, zq_r10 q2, zq_s4 q2, zq_r11 q2, zq_s5 q2, zq_r12 q2, zq_s6 q2, zq_r13 q2, zq_s7 q2, zq_r14 q2, zq_s8 q2, zq_r15 q2, zq_s9 q2, zq_r16 q2, zq_s10 q2, zq_r17 q2, zq_s11 q2, zq_r18 q2, zq_s12 q2, zq_r19 q2, zq_s13 q2, zq_r20 q2, r2]
  rw [I2.k5]
  try simp (disch := omega) only [zgi_gz, zj_cn, zj_lt, zj_le, zj_eq, zj_add, zj_sub, zj_mul, zj_neg, zj_lt0, zj_le0, zj_0le, zj_0lt, zj_eq0, zb_0, zb_z, Classical.not_not, Int.zero_add, Int.add_zero, zj_remn, zj_divn]
  refine ⟨fun _ => ?_, fun c => by omega⟩
  refine vb_X9_readWant_61 _ _ _ ?_
  simp only [B_X9_readWant_61, oPI, oPL, oILOAD, oLLOAD, oALOAD, oISTORE, oASTORE, oLSTORE, oIINC, oIADD, oISUB, oIMUL, oIAND, oIOR, oIXOR, oIDIV, oIREM, oISHL, oISHR, oIUSHR, oLADD, oLSUB, oLMUL, oLOR, oLDIV, oLREM, oLCMP, oLSHL, oINEG, oI2L, oL2I, oI2B, oI2C, oDUP, oPOP, oDUP2, oIFEQ, oICEQ, oIFNE, oICNE, oIFLT, oICLT, oIFGE, oICGE, oIFGT, oICGT, oIFLE, oICLE, oIFNULL, oIFNONNULL, oTSW, oLSW, oGETI, oGETL, oGETR, oPUTI, oPUTZ, oPUTL, oPUTR, oIALD, oBALD, oZALD, oLALD, oAALD, oALEN, oIAST, oBAST, oZAST, oLAST, oIRET, oZRET, oLRET, oVRET, oARET, oOBJ, oINI, oPS, oNEW, oNEWAI, oNEWAB, oNEWAZ, oNEWAL, oCOPY, oINV0, oINS0, oINV1, oINS1, oINV2, oINS2, oINV3, oINS3, oINV4, oINS4, oINV5, oINS5, oINV6, oINS6, List.getElem?_cons_zero, List.getElem?_cons_succ, List.set_cons_zero, List.set_cons_succ, znl, zs4, zc1, true_and, and_self, Value.category, Option.toList, List.cons_append, List.nil_append, zvr, mw_s w2, mw_s79 w2, mw_s80 w2, mw_s81 w2, mw_s82 w2, mw_s83 w2, mw_s84 w2, mw_s85 w2, mw_r5 w2, mw_r15 w2, mw_r16 w2, mw_r17 w2, mw_r18 w2, mw_r21 w2, mw_r22 w2, zq_s q2, zq_s1 q2, zq_r8 q2, zq_s2 q2, zq_r9 q2, zq_s3 q2, zq_r10 q2, zq_s4 q2, zq_r11 q2, zq_s5 q2, zq_r12 q2, zq_s6 q2, zq_r13 q2, zq_s7 q2, zq_r14 q2, zq_s8 q2, zq_r15 q2, zq_s9 q2, zq_r16 q2, zq_s10 q2, zq_r17 q2, zq_s11 q2, zq_r18 q2, zq_s12 q2, zq_r19 q2, zq_s13 q2, zq_r20 q2, r2, zsh_pi, zgr_pi]
  simp (disch := omega) only [zpi_o]
  rw [g2, zj_cn (by omega), zj_add]
  obtain ⟨h9, hh⟩ : ∃ h9, h9 = zpi (zpi h2 (t + 3) b (zj (v.1 : Nat))) t 2 (zj ((N : Int) + 1)) := ⟨_, rfl⟩
  rw [← hh]
  have gi : ∀ x y, ¬ (x = t + 3 ∧ y = b) → ¬ (x = t ∧ y = 2) → zgi h9 x y = zgi h2 x y := fun x y q0 q1 => by rw [hh]; simp (disch := omega) only [zpi_o, zgi_plo]
  have g : ∀ x y, ¬ (x = t + 3 ∧ y = b) → ¬ (x = t ∧ y = 2) → gz h9 x y = gz h2 x y := fun x y q0 q1 => congrArg Int32.toInt (gi x y q0 q1)
  have gl : ∀ x y, zgl h9 x y = zgl h2 x y := fun x y  => by rw [hh]; simp (disch := omega) only [zplo, zgl_pio]
  have v2 : gz h9 t 2 = (N : Int) + 1 := by show (zgi h9 t 2).toInt = _; rw [hh]; simp (disch := omega) only [zpi_o, zgi_plo, zpi_s, zj_toInt]
  have v3 : gz h9 (t + 3) b = v.1 := by show (zgi h9 (t + 3) b).toInt = _; rw [hh]; simp (disch := omega) only [zpi_o, zgi_plo, zpi_s, zj_toInt]
  refine ⟨zj_in (by omega) (by omega) (by omega), k1 (zD_cell D false b v.1, v.2) (by show zbd (pW T n (zk1 12) (tk_e T n (tk_e T n s))) _ = _; rw [e2]; show zbd (pN T n 11 s2) _ = _; rw [e3]; rfl) h9 (I2.step (by rw [hh]; rfl) (by rw [hh]; rfl) (fun x y z => gi x y (by omega) (by omega)) (fun x y z => gl x y) ?_ (zDo_cell I.o hbl (by omega)))⟩
  refine ⟨?_, ?_, ?_, ?_, fun i b hb => ?_, ?_, fun i x hx => ?_, ?_, fun i x hx => ?_, ?_, fun i x hx => ?_, ?_, fun i x hx => ?_⟩
  · rw [g _ _ (by omega) (by omega)]; exact f0
  · rw [g _ _ (by omega) (by omega)]; show _ = (((D.2.1.set b _).length : Nat) : Int); rw [List.length_set]; exact f1
  · rw [v2, ← hP]; show (N : Int) + 1 = (((D.2.1.set b (zws1 false (zbt D b) v.1)).countP P : Nat) : Int); rw [zbt_get hx]; omega
  · rw [g _ _ (by omega) (by omega), ← hP2]; show _ = (((D.2.1.set b (zws1 false (zbt D b) v.1)).countP P2 : Nat) : Int); rw [zbt_get hx]; omega
  · obtain ⟨y, hy, z⟩ := zset_get hb
    rcases z with ⟨ei, rfl⟩ | ⟨ei, rfl⟩
    · cases (show D.2.1[b]? = some y by rw [← ei]; exact hy).symm.trans hx
      rw [ei, g (t + 1) _ (by omega) (by omega), g (t + 2) _ (by omega) (by omega), g (t + 4) _ (by omega) (by omega), gl (t + 5) _]
      exact ⟨gy.1, gy.2.1, v3, gy.2.2.2.1, gy.2.2.2.2⟩
    · rw [g _ _ (by omega) (by omega), g _ _ (by omega) (by omega), g _ _ (by omega) (by omega), g _ _ (by omega) (by omega), gl _ _]; exact sb i _ hy
  · rw [g _ _ (by omega) (by omega)]; exact f4
  · rw [g _ _ (by omega) (by omega), gl _ _]; exact sm i x hx
  · rw [g _ _ (by omega) (by omega)]; exact f5
  · rw [g _ _ (by omega) (by omega)]; exact sh i x hx
  · rw [g _ _ (by omega) (by omega)]; exact f6
  · rw [g _ _ (by omega) (by omega), g _ _ (by omega) (by omega)]; exact sp i x hx
  · rw [g _ _ (by omega) (by omega)]; exact f7
  · rw [gl _ _, g _ _ (by omega) (by omega), g _ _ (by omega) (by omega)]; exact sn i x hx
theorem cm_readAfter (pk : zPk X) (I : zMI h0 h t T n s D) (hd : ¬ tk_d T n s = 4) (k1 : ∀ a, (zif (D.1 = -1) (.inl (6, tk_p T n s)) (pCell T n D true (tk_e T n s)) : zEr ⊕ (zDt × Nat)) = .inr a → ∀ h', zMI h0 h' t T n a.2 a.1 → R none h') (k0 : ∀ e, (zif (D.1 = -1) (.inl (6, tk_p T n s)) (pCell T n D true (tk_e T n s)) : zEr ⊕ (zDt × Nat)) = .inl e → ∀ h', zMF h0 h' t e → R none h') : zCC X M_X9_readAfter [.ref 78] h R := by
  have w := I.w
  have q := I.q
  have r := I.r
  have o := I.o
  have h6 := o.2.2.1.1
  unfold pCell at k1 k0
  have ov38 : ∀ e h1 z, zMF h0 h1 t e → R none h1 → zV X M_X9_readAfter (zQm M_X9_readAfter R) 0 0 38 [.ref 78, .int z, .retAddr 0] [] h1 := fun e h1 z F1 k => by
    have w1 := F1.w
    refine vb_X9_readAfter_38 _ _ _ ?_
    simp only [B_X9_readAfter_38, oPI, oPL, oILOAD, oLLOAD, oALOAD, oISTORE, oASTORE, oLSTORE, oIINC, oIADD, oISUB, oIMUL, oIAND, oIOR, oIXOR, oIDIV, oIREM, oISHL, oISHR, oIUSHR, oLADD, oLSUB, oLMUL, oLOR, oLDIV, oLREM, oLCMP, oLSHL, oINEG, oI2L, oL2I, oI2B, oI2C, oDUP, oPOP, oDUP2, oIFEQ, oICEQ, oIFNE, oICNE, oIFLT, oICLT, oIFGE, oICGE, oIFGT, oICGT, oIFLE, oICLE, oIFNULL, oIFNONNULL, oTSW, oLSW, oGETI, oGETL, oGETR, oPUTI, oPUTZ, oPUTL, oPUTR, oIALD, oBALD, oZALD, oLALD, oAALD, oALEN, oIAST, oBAST, oZAST, oLAST, oIRET, oZRET, oLRET, oVRET, oARET, oOBJ, oINI, oPS, oNEW, oNEWAI, oNEWAB, oNEWAZ, oNEWAL, oCOPY, oINV0, oINS0, oINV1, oINS1, oINV2, oINS2, oINV3, oINS3, oINV4, oINS4, oINV5, oINS5, oINV6, oINS6, List.getElem?_cons_zero, List.getElem?_cons_succ, List.set_cons_zero, List.set_cons_succ, znl, zs4, zc1, true_and, and_self, Value.category, Option.toList, List.cons_append, List.nil_append, zvr, mw_s w1, mw_s79 w1, mw_s80 w1, mw_s81 w1, mw_s82 w1, mw_s83 w1, mw_s84 w1, mw_s85 w1, mw_r5 w1, mw_r15 w1, mw_r16 w1, mw_r17 w1, mw_r18 w1, mw_r21 w1, mw_r22 w1]
    refine co_goesOn F1 ?_
    simp only [oPI, oPL, oILOAD, oLLOAD, oALOAD, oISTORE, oASTORE, oLSTORE, oIINC, oIADD, oISUB, oIMUL, oIAND, oIOR, oIXOR, oIDIV, oIREM, oISHL, oISHR, oIUSHR, oLADD, oLSUB, oLMUL, oLOR, oLDIV, oLREM, oLCMP, oLSHL, oINEG, oI2L, oL2I, oI2B, oI2C, oDUP, oPOP, oDUP2, oIFEQ, oICEQ, oIFNE, oICNE, oIFLT, oICLT, oIFGE, oICGE, oIFGT, oICGT, oIFLE, oICLE, oIFNULL, oIFNONNULL, oTSW, oLSW, oGETI, oGETL, oGETR, oPUTI, oPUTZ, oPUTL, oPUTR, oIALD, oBALD, oZALD, oLALD, oAALD, oALEN, oIAST, oBAST, oZAST, oLAST, oIRET, oZRET, oLRET, oVRET, oARET, oOBJ, oINI, oPS, oNEW, oNEWAI, oNEWAB, oNEWAZ, oNEWAL, oCOPY, oINV0, oINS0, oINV1, oINS1, oINV2, oINS2, oINV3, oINS3, oINV4, oINS4, oINV5, oINS5, oINV6, oINS6, List.getElem?_cons_zero, List.getElem?_cons_succ, List.set_cons_zero, List.set_cons_succ, znl, zs4, zc1, true_and, and_self, Value.category, Option.toList, List.cons_append, List.nil_append, zvr, mw_s w1, mw_s79 w1, mw_s80 w1, mw_s81 w1, mw_s82 w1, mw_s83 w1, mw_s84 w1, mw_s85 w1, mw_r5 w1, mw_r15 w1, mw_r16 w1, mw_r17 w1, mw_r18 w1, mw_r21 w1, mw_r22 w1]
    refine co_readPart F1 ?_
    simp only [oPI, oPL, oILOAD, oLLOAD, oALOAD, oISTORE, oASTORE, oLSTORE, oIINC, oIADD, oISUB, oIMUL, oIAND, oIOR, oIXOR, oIDIV, oIREM, oISHL, oISHR, oIUSHR, oLADD, oLSUB, oLMUL, oLOR, oLDIV, oLREM, oLCMP, oLSHL, oINEG, oI2L, oL2I, oI2B, oI2C, oDUP, oPOP, oDUP2, oIFEQ, oICEQ, oIFNE, oICNE, oIFLT, oICLT, oIFGE, oICGE, oIFGT, oICGT, oIFLE, oICLE, oIFNULL, oIFNONNULL, oTSW, oLSW, oGETI, oGETL, oGETR, oPUTI, oPUTZ, oPUTL, oPUTR, oIALD, oBALD, oZALD, oLALD, oAALD, oALEN, oIAST, oBAST, oZAST, oLAST, oIRET, oZRET, oLRET, oVRET, oARET, oOBJ, oINI, oPS, oNEW, oNEWAI, oNEWAB, oNEWAZ, oNEWAL, oCOPY, oINV0, oINS0, oINV1, oINS1, oINV2, oINS2, oINV3, oINS3, oINV4, oINS4, oINV5, oINS5, oINV6, oINS6, List.getElem?_cons_zero, List.getElem?_cons_succ, List.set_cons_zero, List.set_cons_succ, znl, zs4, zc1, true_and, and_self, Value.category, Option.toList, List.cons_append, List.nil_append, zvr, mw_s w1, mw_s79 w1, mw_s80 w1, mw_s81 w1, mw_s82 w1, mw_s83 w1, mw_s84 w1, mw_s85 w1, mw_r5 w1, mw_r15 w1, mw_r16 w1, mw_r17 w1, mw_r18 w1, mw_r21 w1, mw_r22 w1]
    rw [F1.k5]
    exact ⟨fun z => absurd rfl z, fun _ => k⟩
  refine zCC_of (ls := [.ref 78, .retAddr 0, .retAddr 0]) pf_X9_readAfter rfl (Nat.le_of_ble_eq_true rfl) ?_
  refine vb_X9_readAfter_0 _ _ _ ?_
  simp only [B_X9_readAfter_0, oPI, oPL, oILOAD, oLLOAD, oALOAD, oISTORE, oASTORE, oLSTORE, oIINC, oIADD, oISUB, oIMUL, oIAND, oIOR, oIXOR, oIDIV, oIREM, oISHL, oISHR, oIUSHR, oLADD, oLSUB, oLMUL, oLOR, oLDIV, oLREM, oLCMP, oLSHL, oINEG, oI2L, oL2I, oI2B, oI2C, oDUP, oPOP, oDUP2, oIFEQ, oICEQ, oIFNE, oICNE, oIFLT, oICLT, oIFGE, oICGE, oIFGT, oICGT, oIFLE, oICLE, oIFNULL, oIFNONNULL, oTSW, oLSW, oGETI, oGETL, oGETR, oPUTI, oPUTZ, oPUTL, oPUTR, oIALD, oBALD, oZALD, oLALD, oAALD, oALEN, oIAST, oBAST, oZAST, oLAST, oIRET, oZRET, oLRET, oVRET, oARET, oOBJ, oINI, oPS, oNEW, oNEWAI, oNEWAB, oNEWAZ, oNEWAL, oCOPY, oINV0, oINS0, oINV1, oINS1, oINV2, oINS2, oINV3, oINS3, oINV4, oINS4, oINV5, oINS5, oINV6, oINS6, List.getElem?_cons_zero, List.getElem?_cons_succ, List.set_cons_zero, List.set_cons_succ, znl, zs4, zc1, true_and, and_self, Value.category, Option.toList, List.cons_append, List.nil_append, zvr, mw_s w, mw_s79 w, mw_s80 w, mw_s81 w, mw_s82 w, mw_s83 w, mw_s84 w, mw_s85 w, mw_r5 w, mw_r15 w, mw_r16 w, mw_r17 w, mw_r18 w, mw_r21 w, mw_r22 w]
  refine cm_lineBegins (a := 0) (m := 1) I (by omega) (by omega) hd (fun _ c6 h1 I1 => ?_) (fun c5 => absurd c5 (by decide)) (fun _ c6 h1 F1 => ?_)
  rotate_left
  · have kk := k0 (6, tk_p T n s) (zif_t c6) h1 F1
    have w1 := F1.w
    simp only [oPI, oPL, oILOAD, oLLOAD, oALOAD, oISTORE, oASTORE, oLSTORE, oIINC, oIADD, oISUB, oIMUL, oIAND, oIOR, oIXOR, oIDIV, oIREM, oISHL, oISHR, oIUSHR, oLADD, oLSUB, oLMUL, oLOR, oLDIV, oLREM, oLCMP, oLSHL, oINEG, oI2L, oL2I, oI2B, oI2C, oDUP, oPOP, oDUP2, oIFEQ, oICEQ, oIFNE, oICNE, oIFLT, oICLT, oIFGE, oICGE, oIFGT, oICGT, oIFLE, oICLE, oIFNULL, oIFNONNULL, oTSW, oLSW, oGETI, oGETL, oGETR, oPUTI, oPUTZ, oPUTL, oPUTR, oIALD, oBALD, oZALD, oLALD, oAALD, oALEN, oIAST, oBAST, oZAST, oLAST, oIRET, oZRET, oLRET, oVRET, oARET, oOBJ, oINI, oPS, oNEW, oNEWAI, oNEWAB, oNEWAZ, oNEWAL, oCOPY, oINV0, oINS0, oINV1, oINS1, oINV2, oINS2, oINV3, oINS3, oINV4, oINS4, oINV5, oINS5, oINV6, oINS6, List.getElem?_cons_zero, List.getElem?_cons_succ, List.set_cons_zero, List.set_cons_succ, znl, zs4, zc1, true_and, and_self, Value.category, Option.toList, List.cons_append, List.nil_append, zvr, mw_s w1, mw_s79 w1, mw_s80 w1, mw_s81 w1, mw_s82 w1, mw_s83 w1, mw_s84 w1, mw_s85 w1, mw_r5 w1, mw_r15 w1, mw_r16 w1, mw_r17 w1, mw_r18 w1, mw_r21 w1, mw_r22 w1]
    refine co_knownBit F1 ?_
    simp only [oPI, oPL, oILOAD, oLLOAD, oALOAD, oISTORE, oASTORE, oLSTORE, oIINC, oIADD, oISUB, oIMUL, oIAND, oIOR, oIXOR, oIDIV, oIREM, oISHL, oISHR, oIUSHR, oLADD, oLSUB, oLMUL, oLOR, oLDIV, oLREM, oLCMP, oLSHL, oINEG, oI2L, oL2I, oI2B, oI2C, oDUP, oPOP, oDUP2, oIFEQ, oICEQ, oIFNE, oICNE, oIFLT, oICLT, oIFGE, oICGE, oIFGT, oICGT, oIFLE, oICLE, oIFNULL, oIFNONNULL, oTSW, oLSW, oGETI, oGETL, oGETR, oPUTI, oPUTZ, oPUTL, oPUTR, oIALD, oBALD, oZALD, oLALD, oAALD, oALEN, oIAST, oBAST, oZAST, oLAST, oIRET, oZRET, oLRET, oVRET, oARET, oOBJ, oINI, oPS, oNEW, oNEWAI, oNEWAB, oNEWAZ, oNEWAL, oCOPY, oINV0, oINS0, oINV1, oINS1, oINV2, oINS2, oINV3, oINS3, oINV4, oINS4, oINV5, oINS5, oINV6, oINS6, List.getElem?_cons_zero, List.getElem?_cons_succ, List.set_cons_zero, List.set_cons_succ, znl, zs4, zc1, true_and, and_self, Value.category, Option.toList, List.cons_append, List.nil_append, zvr, mw_s w1, mw_s79 w1, mw_s80 w1, mw_s81 w1, mw_s82 w1, mw_s83 w1, mw_s84 w1, mw_s85 w1, mw_r5 w1, mw_r15 w1, mw_r16 w1, mw_r17 w1, mw_r18 w1, mw_r21 w1, mw_r22 w1]
    rw [F1.k5]
    exact ⟨fun _ => ov38 _ h1 _ F1 kk, fun z => absurd rfl z⟩
  rw [zif_f c6] at k1 k0
  have w1 := I1.w
  have q1 := I1.q
  have r1 := I1.r
  simp only [oPI, oPL, oILOAD, oLLOAD, oALOAD, oISTORE, oASTORE, oLSTORE, oIINC, oIADD, oISUB, oIMUL, oIAND, oIOR, oIXOR, oIDIV, oIREM, oISHL, oISHR, oIUSHR, oLADD, oLSUB, oLMUL, oLOR, oLDIV, oLREM, oLCMP, oLSHL, oINEG, oI2L, oL2I, oI2B, oI2C, oDUP, oPOP, oDUP2, oIFEQ, oICEQ, oIFNE, oICNE, oIFLT, oICLT, oIFGE, oICGE, oIFGT, oICGT, oIFLE, oICLE, oIFNULL, oIFNONNULL, oTSW, oLSW, oGETI, oGETL, oGETR, oPUTI, oPUTZ, oPUTL, oPUTR, oIALD, oBALD, oZALD, oLALD, oAALD, oALEN, oIAST, oBAST, oZAST, oLAST, oIRET, oZRET, oLRET, oVRET, oARET, oOBJ, oINI, oPS, oNEW, oNEWAI, oNEWAB, oNEWAZ, oNEWAL, oCOPY, oINV0, oINS0, oINV1, oINS1, oINV2, oINS2, oINV3, oINS3, oINV4, oINS4, oINV5, oINS5, oINV6, oINS6, List.getElem?_cons_zero, List.getElem?_cons_succ, List.set_cons_zero, List.set_cons_succ, znl, zs4, zc1, true_and, and_self, Value.category, Option.toList, List.cons_append, List.nil_append, zvr, mw_s w1, mw_s79 w1, mw_s80 w1, mw_s81 w1, mw_s82 w1, mw_s83 w1, mw_s84 w1, mw_s85 w1, mw_r5 w1, mw_r15 w1, mw_r16 w1, mw_r17 w1, mw_r18 w1, mw_r21 w1, mw_r22 w1]
  refine cm_knownBit pk I1 (fun b c eb => ?_) (fun c h2 F2 => ?_) (fun c eb h2 F2 => ?_)
  rotate_left
  · have kk := k0 (1, tk_p T n (tk_e T n s)) (by unfold pOld; rw [zif_f c]; rfl) h2 F2
    have w2 := F2.w
    simp only [oPI, oPL, oILOAD, oLLOAD, oALOAD, oISTORE, oASTORE, oLSTORE, oIINC, oIADD, oISUB, oIMUL, oIAND, oIOR, oIXOR, oIDIV, oIREM, oISHL, oISHR, oIUSHR, oLADD, oLSUB, oLMUL, oLOR, oLDIV, oLREM, oLCMP, oLSHL, oINEG, oI2L, oL2I, oI2B, oI2C, oDUP, oPOP, oDUP2, oIFEQ, oICEQ, oIFNE, oICNE, oIFLT, oICLT, oIFGE, oICGE, oIFGT, oICGT, oIFLE, oICLE, oIFNULL, oIFNONNULL, oTSW, oLSW, oGETI, oGETL, oGETR, oPUTI, oPUTZ, oPUTL, oPUTR, oIALD, oBALD, oZALD, oLALD, oAALD, oALEN, oIAST, oBAST, oZAST, oLAST, oIRET, oZRET, oLRET, oVRET, oARET, oOBJ, oINI, oPS, oNEW, oNEWAI, oNEWAB, oNEWAZ, oNEWAL, oCOPY, oINV0, oINS0, oINV1, oINS1, oINV2, oINS2, oINV3, oINS3, oINV4, oINS4, oINV5, oINS5, oINV6, oINS6, List.getElem?_cons_zero, List.getElem?_cons_succ, List.set_cons_zero, List.set_cons_succ, znl, zs4, zc1, true_and, and_self, Value.category, Option.toList, List.cons_append, List.nil_append, zvr, mw_s w2, mw_s79 w2, mw_s80 w2, mw_s81 w2, mw_s82 w2, mw_s83 w2, mw_s84 w2, mw_s85 w2, mw_r5 w2, mw_r15 w2, mw_r16 w2, mw_r17 w2, mw_r18 w2, mw_r21 w2, mw_r22 w2]
    rw [F2.k5]
    exact ⟨fun _ => ov38 _ h2 _ F2 kk, fun z => absurd rfl z⟩
  · have kk := k0 (2, tk_p T n (tk_e T n s)) (by unfold pOld; rw [zif_t c, eb]; rfl) h2 F2
    have w2 := F2.w
    simp only [oPI, oPL, oILOAD, oLLOAD, oALOAD, oISTORE, oASTORE, oLSTORE, oIINC, oIADD, oISUB, oIMUL, oIAND, oIOR, oIXOR, oIDIV, oIREM, oISHL, oISHR, oIUSHR, oLADD, oLSUB, oLMUL, oLOR, oLDIV, oLREM, oLCMP, oLSHL, oINEG, oI2L, oL2I, oI2B, oI2C, oDUP, oPOP, oDUP2, oIFEQ, oICEQ, oIFNE, oICNE, oIFLT, oICLT, oIFGE, oICGE, oIFGT, oICGT, oIFLE, oICLE, oIFNULL, oIFNONNULL, oTSW, oLSW, oGETI, oGETL, oGETR, oPUTI, oPUTZ, oPUTL, oPUTR, oIALD, oBALD, oZALD, oLALD, oAALD, oALEN, oIAST, oBAST, oZAST, oLAST, oIRET, oZRET, oLRET, oVRET, oARET, oOBJ, oINI, oPS, oNEW, oNEWAI, oNEWAB, oNEWAZ, oNEWAL, oCOPY, oINV0, oINS0, oINV1, oINS1, oINV2, oINS2, oINV3, oINS3, oINV4, oINS4, oINV5, oINS5, oINV6, oINS6, List.getElem?_cons_zero, List.getElem?_cons_succ, List.set_cons_zero, List.set_cons_succ, znl, zs4, zc1, true_and, and_self, Value.category, Option.toList, List.cons_append, List.nil_append, zvr, mw_s w2, mw_s79 w2, mw_s80 w2, mw_s81 w2, mw_s82 w2, mw_s83 w2, mw_s84 w2, mw_s85 w2, mw_r5 w2, mw_r15 w2, mw_r16 w2, mw_r17 w2, mw_r18 w2, mw_r21 w2, mw_r22 w2]
    rw [F2.k5]
    exact ⟨fun _ => ov38 _ h2 _ F2 kk, fun z => absurd rfl z⟩
  have hbs := zbx_s _ _ _ eb
  obtain ⟨x, hx, -⟩ := hbs.2.2.1
  rw [Nat.sub_zero] at hx
  have hbl := zlen_o hx
  have dx := I1.d.2.2.2.2.1 b x hx
  have ox := o.2.2.2.1 b x hx
  have ez : zwa true (zbt D b) = x.2.2.2.2.2 := by rw [zbt_get hx]; rfl
  have zb := zmk_b T n (tk_e T n s)
  clear hbs
  simp only [oPI, oPL, oILOAD, oLLOAD, oALOAD, oISTORE, oASTORE, oLSTORE, oIINC, oIADD, oISUB, oIMUL, oIAND, oIOR, oIXOR, oIDIV, oIREM, oISHL, oISHR, oIUSHR, oLADD, oLSUB, oLMUL, oLOR, oLDIV, oLREM, oLCMP, oLSHL, oINEG, oI2L, oL2I, oI2B, oI2C, oDUP, oPOP, oDUP2, oIFEQ, oICEQ, oIFNE, oICNE, oIFLT, oICLT, oIFGE, oICGE, oIFGT, oICGT, oIFLE, oICLE, oIFNULL, oIFNONNULL, oTSW, oLSW, oGETI, oGETL, oGETR, oPUTI, oPUTZ, oPUTL, oPUTR, oIALD, oBALD, oZALD, oLALD, oAALD, oALEN, oIAST, oBAST, oZAST, oLAST, oIRET, oZRET, oLRET, oVRET, oARET, oOBJ, oINI, oPS, oNEW, oNEWAI, oNEWAB, oNEWAZ, oNEWAL, oCOPY, oINV0, oINS0, oINV1, oINS1, oINV2, oINS2, oINV3, oINS3, oINV4, oINS4, oINV5, oINS5, oINV6, oINS6, List.getElem?_cons_zero, List.getElem?_cons_succ, List.set_cons_zero, List.set_cons_succ, znl, zs4, zc1, true_and, and_self, Value.category, Option.toList, List.cons_append, List.nil_append, zvr, mw_s w1, mw_s79 w1, mw_s80 w1, mw_s81 w1, mw_s82 w1, mw_s83 w1, mw_s84 w1, mw_s85 w1, mw_r5 w1, mw_r15 w1, mw_r16 w1, mw_r17 w1, mw_r18 w1, mw_r21 w1, mw_r22 w1, zq_s q1, zq_s1 q1, zq_r8 q1, zq_s2 q1, zq_r9 q1, zq_s3 q1, zq_r10 q1, zq_s4 q1, zq_r11 q1, zq_s5 q1, zq_r12 q1, zq_s6 q1, zq_r13 q1, zq_s7 q1, zq_r14 q1, zq_s8 q1, zq_r15 q1, zq_s9 q1, zq_r16 q1, zq_s10 q1, zq_r17 q1, zq_s11 q1, zq_r18 q1, zq_s12 q1, zq_r19 q1, zq_s13 q1, zq_r20 q1, r1]
  rw [I1.k5, zj_cn (by omega), zgi_gz h1 (t + 4) b, dx.2.2.2.1]
  try simp (disch := omega) only [zgi_gz, zj_cn, zj_lt, zj_le, zj_eq, zj_add, zj_sub, zj_mul, zj_neg, zj_lt0, zj_le0, zj_0le, zj_0lt, zj_eq0, zb_0, zb_z, Classical.not_not, Int.zero_add, Int.add_zero, zj_remn, zj_divn]
  refine ⟨fun c => by omega, fun _ => ⟨zj_in (by omega) (by omega) (by omega), fun c2 => ?_, fun c2 => ?_⟩⟩
  rotate_left
  · refine cm_flaw (f := 3) (by omega) I1 (fun h2 F2 => ?_)
    simp only [oPI, oPL, oILOAD, oLLOAD, oALOAD, oISTORE, oASTORE, oLSTORE, oIINC, oIADD, oISUB, oIMUL, oIAND, oIOR, oIXOR, oIDIV, oIREM, oISHL, oISHR, oIUSHR, oLADD, oLSUB, oLMUL, oLOR, oLDIV, oLREM, oLCMP, oLSHL, oINEG, oI2L, oL2I, oI2B, oI2C, oDUP, oPOP, oDUP2, oIFEQ, oICEQ, oIFNE, oICNE, oIFLT, oICLT, oIFGE, oICGE, oIFGT, oICGT, oIFLE, oICLE, oIFNULL, oIFNONNULL, oTSW, oLSW, oGETI, oGETL, oGETR, oPUTI, oPUTZ, oPUTL, oPUTR, oIALD, oBALD, oZALD, oLALD, oAALD, oALEN, oIAST, oBAST, oZAST, oLAST, oIRET, oZRET, oLRET, oVRET, oARET, oOBJ, oINI, oPS, oNEW, oNEWAI, oNEWAB, oNEWAZ, oNEWAL, oCOPY, oINV0, oINS0, oINV1, oINS1, oINV2, oINS2, oINV3, oINS3, oINV4, oINS4, oINV5, oINS5, oINV6, oINS6, List.getElem?_cons_zero, List.getElem?_cons_succ, List.set_cons_zero, List.set_cons_succ, znl, zs4, zc1, true_and, and_self, Value.category, Option.toList, List.cons_append, List.nil_append, zvr]
    exact ov38 _ h2 _ F2 (k0 (3, tk_p T n (tk_e T n s)) (by unfold pOld; rw [zif_t c, eb]; show zbd (zif (zwa true (zbt D b) = -2) _ _) _ = _; rw [zif_f (by rw [ez]; exact c2)]; rfl) h2 F2)
  have ep : pOld T n D true (tk_e T n s) = .inr (b, tk_e T n (tk_e T n s)) := by
    unfold pOld
    rw [zif_t c, eb]
    show zif (zwa true (zbt D b) = -2) _ _ = _
    rw [zif_t (by rw [ez]; exact c2)]
  rw [ep] at k1 k0
  refine vb_X9_readAfter_38 _ _ _ ?_
  simp only [B_X9_readAfter_38, oPI, oPL, oILOAD, oLLOAD, oALOAD, oISTORE, oASTORE, oLSTORE, oIINC, oIADD, oISUB, oIMUL, oIAND, oIOR, oIXOR, oIDIV, oIREM, oISHL, oISHR, oIUSHR, oLADD, oLSUB, oLMUL, oLOR, oLDIV, oLREM, oLCMP, oLSHL, oINEG, oI2L, oL2I, oI2B, oI2C, oDUP, oPOP, oDUP2, oIFEQ, oICEQ, oIFNE, oICNE, oIFLT, oICLT, oIFGE, oICGE, oIFGT, oICGT, oIFLE, oICLE, oIFNULL, oIFNONNULL, oTSW, oLSW, oGETI, oGETL, oGETR, oPUTI, oPUTZ, oPUTL, oPUTR, oIALD, oBALD, oZALD, oLALD, oAALD, oALEN, oIAST, oBAST, oZAST, oLAST, oIRET, oZRET, oLRET, oVRET, oARET, oOBJ, oINI, oPS, oNEW, oNEWAI, oNEWAB, oNEWAZ, oNEWAL, oCOPY, oINV0, oINS0, oINV1, oINS1, oINV2, oINS2, oINV3, oINS3, oINV4, oINS4, oINV5, oINS5, oINV6, oINS6, List.getElem?_cons_zero, List.getElem?_cons_succ, List.set_cons_zero, List.set_cons_succ, znl, zs4, zc1, true_and, and_self, Value.category, Option.toList, List.cons_append, List.nil_append, zvr, mw_s w1, mw_s79 w1, mw_s80 w1, mw_s81 w1, mw_s82 w1, mw_s83 w1, mw_s84 w1, mw_s85 w1, mw_r5 w1, mw_r15 w1, mw_r16 w1, mw_r17 w1, mw_r18 w1, mw_r21 w1, mw_r22 w1]
  refine cm_goesOnR I1 (by omega) (fun h3 I3 => ?_)
  have w3 := I3.w
  simp only [oPI, oPL, oILOAD, oLLOAD, oALOAD, oISTORE, oASTORE, oLSTORE, oIINC, oIADD, oISUB, oIMUL, oIAND, oIOR, oIXOR, oIDIV, oIREM, oISHL, oISHR, oIUSHR, oLADD, oLSUB, oLMUL, oLOR, oLDIV, oLREM, oLCMP, oLSHL, oINEG, oI2L, oL2I, oI2B, oI2C, oDUP, oPOP, oDUP2, oIFEQ, oICEQ, oIFNE, oICNE, oIFLT, oICLT, oIFGE, oICGE, oIFGT, oICGT, oIFLE, oICLE, oIFNULL, oIFNONNULL, oTSW, oLSW, oGETI, oGETL, oGETR, oPUTI, oPUTZ, oPUTL, oPUTR, oIALD, oBALD, oZALD, oLALD, oAALD, oALEN, oIAST, oBAST, oZAST, oLAST, oIRET, oZRET, oLRET, oVRET, oARET, oOBJ, oINI, oPS, oNEW, oNEWAI, oNEWAB, oNEWAZ, oNEWAL, oCOPY, oINV0, oINS0, oINV1, oINS1, oINV2, oINS2, oINV3, oINS3, oINV4, oINS4, oINV5, oINS5, oINV6, oINS6, List.getElem?_cons_zero, List.getElem?_cons_succ, List.set_cons_zero, List.set_cons_succ, znl, zs4, zc1, true_and, and_self, Value.category, Option.toList, List.cons_append, List.nil_append, zvr, mw_s w3, mw_s79 w3, mw_s80 w3, mw_s81 w3, mw_s82 w3, mw_s83 w3, mw_s84 w3, mw_s85 w3, mw_r5 w3, mw_r15 w3, mw_r16 w3, mw_r17 w3, mw_r18 w3, mw_r21 w3, mw_r22 w3]
  refine cm_readPart pk I3 (i := 12) (m := 11) (by omega) (by omega) (fun s2 v e2 e3 h2 I2 => ?_) (fun e he h2 F2 => ?_)
  rotate_left
  · have kk := k0 e (by
      show zbd (pW T n (zk1 12) (tk_e T n (tk_e T n s))) _ = _
      rcases he with z1 | ⟨s1, z1, z2⟩
      · rw [z1]; rfl
      · rw [z1]; show zbd (pN T n 11 s1) _ = _; rw [z2]; rfl) h2 F2
    have w2 := F2.w
    simp only [oPI, oPL, oILOAD, oLLOAD, oALOAD, oISTORE, oASTORE, oLSTORE, oIINC, oIADD, oISUB, oIMUL, oIAND, oIOR, oIXOR, oIDIV, oIREM, oISHL, oISHR, oIUSHR, oLADD, oLSUB, oLMUL, oLOR, oLDIV, oLREM, oLCMP, oLSHL, oINEG, oI2L, oL2I, oI2B, oI2C, oDUP, oPOP, oDUP2, oIFEQ, oICEQ, oIFNE, oICNE, oIFLT, oICLT, oIFGE, oICGE, oIFGT, oICGT, oIFLE, oICLE, oIFNULL, oIFNONNULL, oTSW, oLSW, oGETI, oGETL, oGETR, oPUTI, oPUTZ, oPUTL, oPUTR, oIALD, oBALD, oZALD, oLALD, oAALD, oALEN, oIAST, oBAST, oZAST, oLAST, oIRET, oZRET, oLRET, oVRET, oARET, oOBJ, oINI, oPS, oNEW, oNEWAI, oNEWAB, oNEWAZ, oNEWAL, oCOPY, oINV0, oINS0, oINV1, oINS1, oINV2, oINS2, oINV3, oINS3, oINV4, oINS4, oINV5, oINS5, oINV6, oINS6, List.getElem?_cons_zero, List.getElem?_cons_succ, List.set_cons_zero, List.set_cons_succ, znl, zs4, zc1, true_and, and_self, Value.category, Option.toList, List.cons_append, List.nil_append, zvr, mw_s w2, mw_s79 w2, mw_s80 w2, mw_s81 w2, mw_s82 w2, mw_s83 w2, mw_s84 w2, mw_s85 w2, mw_r5 w2, mw_r15 w2, mw_r16 w2, mw_r17 w2, mw_r18 w2, mw_r21 w2, mw_r22 w2]
    rw [F2.k5]
    exact ⟨fun z => absurd rfl z, fun _ => kk⟩
  have rd := pW_r I3.b.2.1 e2
  have re := pN_r rd.2.1 e3
  have w2 := I2.w
  have q2 := I2.q
  have r2 := I2.r
  have zb2 := zmk_b T n v.2
  obtain ⟨f0, f1, f2, f3, sb, f4, sm, f5, sh, f6, sp, f7, sn⟩ := I2.d
  have gy := sb b x hx
  obtain ⟨P, hP⟩ : ∃ P : zBt → Bool, P = fun b => !decide (b.2.2.2.2.2 = -2) := ⟨_, rfl⟩
  obtain ⟨P2, hP2⟩ : ∃ P : zBt → Bool, P = fun b => !decide (b.2.2.2.2.1 = -2) := ⟨_, rfl⟩
  obtain ⟨N, hN⟩ : ∃ N, D.2.1.countP P = N := ⟨_, rfl⟩
  have hc := zcp_set (P := P) D.2.1 b x (zws1 true x v.1) hx
  have hc2 := zcp_set (P := P2) D.2.1 b x (zws1 true x v.1) hx
  have p1 : P x = false := by rw [hP]; simp [c2]
  have p2 : P (zws1 true x v.1) = true := by
    rw [hP]
    show (!decide (((v.1 : Nat) : Int) = -2)) = true
    have : ¬ (((v.1 : Nat) : Int) = -2) := by omega
    simp [this]
  have p3 : P2 (zws1 true x v.1) = P2 x := by rw [hP2]; rfl
  rw [if_neg (by rw [p1]; decide), if_pos p2, hN] at hc
  rw [p3] at hc2
  have hcl : D.2.1.countP P ≤ D.2.1.length := List.countP_le_length
  rw [← hP, hN] at f3
  rw [← hP2] at f2
  have g2 : zgi h2 t 3 = zj (N : Nat) := by rw [zgi_gz, f3]
  simp only [oPI, oPL, oILOAD, oLLOAD, oALOAD, oISTORE, oASTORE, oLSTORE, oIINC, oIADD, oISUB, oIMUL, oIAND, oIOR, oIXOR, oIDIV, oIREM, oISHL, oISHR, oIUSHR, oLADD, oLSUB, oLMUL, oLOR, oLDIV, oLREM, oLCMP, oLSHL, oINEG, oI2L, oL2I, oI2B, oI2C, oDUP, oPOP, oDUP2, oIFEQ, oICEQ, oIFNE, oICNE, oIFLT, oICLT, oIFGE, oICGE, oIFGT, oICGT, oIFLE, oICLE, oIFNULL, oIFNONNULL, oTSW, oLSW, oGETI, oGETL, oGETR, oPUTI, oPUTZ, oPUTL, oPUTR, oIALD, oBALD, oZALD, oLALD, oAALD, oALEN, oIAST, oBAST, oZAST, oLAST, oIRET, oZRET, oLRET, oVRET, oARET, oOBJ, oINI, oPS, oNEW, oNEWAI, oNEWAB, oNEWAZ, oNEWAL, oCOPY, oINV0, oINS0, oINV1, oINS1, oINV2, oINS2, oINV3, oINS3, oINV4, oINS4, oINV5, oINS5, oINV6, oINS6, List.getElem?_cons_zero, List.getElem?_cons_succ, List.set_cons_zero, List.set_cons_succ, znl, zs4, zc1, true_and, and_self, Value.category, Option.toList, List.cons_append, List.nil_append, zvr, mw_s w2, mw_s79 w2, mw_s80 w2, mw_s81 w2, mw_s82 w2, mw_s83 w2, mw_s84 w2, mw_s85 w2, mw_r5 w2, mw_r15 w2, mw_r16 w2, mw_r17 w2, mw_r18 w2, mw_r21 w2, mw_r22 w2, zq_s q2, zq_s1 q2, zq_r8 q2, zq_s2 q2, zq_r9 q2, zq_s3 q2, zq_r10 q2, zq_s4 q2, zq_r11 q2, zq_s5 q2, zq_r12 q2, zq_s6 q2, zq_r13 q2, zq_s7 q2, zq_r14 q2, zq_s8 q2, zq_r15 q2, zq_s9 q2, zq_r16 q2, zq_s10 q2, zq_r17 q2, zq_s11 q2, zq_r18 q2, zq_s12 q2, zq_r19 q2, zq_s13 q2, zq_r20 q2, r2]
  rw [I2.k5]
  try simp (disch := omega) only [zgi_gz, zj_cn, zj_lt, zj_le, zj_eq, zj_add, zj_sub, zj_mul, zj_neg, zj_lt0, zj_le0, zj_0le, zj_0lt, zj_eq0, zb_0, zb_z, Classical.not_not, Int.zero_add, Int.add_zero, zj_remn, zj_divn]
  refine ⟨fun _ => ?_, fun c => by omega⟩
  refine vb_X9_readAfter_61 _ _ _ ?_
  simp only [B_X9_readAfter_61, oPI, oPL, oILOAD, oLLOAD, oALOAD, oISTORE, oASTORE, oLSTORE, oIINC, oIADD, oISUB, oIMUL, oIAND, oIOR, oIXOR, oIDIV, oIREM, oISHL, oISHR, oIUSHR, oLADD, oLSUB, oLMUL, oLOR, oLDIV, oLREM, oLCMP, oLSHL, oINEG, oI2L, oL2I, oI2B, oI2C, oDUP, oPOP, oDUP2, oIFEQ, oICEQ, oIFNE, oICNE, oIFLT, oICLT, oIFGE, oICGE, oIFGT, oICGT, oIFLE, oICLE, oIFNULL, oIFNONNULL, oTSW, oLSW, oGETI, oGETL, oGETR, oPUTI, oPUTZ, oPUTL, oPUTR, oIALD, oBALD, oZALD, oLALD, oAALD, oALEN, oIAST, oBAST, oZAST, oLAST, oIRET, oZRET, oLRET, oVRET, oARET, oOBJ, oINI, oPS, oNEW, oNEWAI, oNEWAB, oNEWAZ, oNEWAL, oCOPY, oINV0, oINS0, oINV1, oINS1, oINV2, oINS2, oINV3, oINS3, oINV4, oINS4, oINV5, oINS5, oINV6, oINS6, List.getElem?_cons_zero, List.getElem?_cons_succ, List.set_cons_zero, List.set_cons_succ, znl, zs4, zc1, true_and, and_self, Value.category, Option.toList, List.cons_append, List.nil_append, zvr, mw_s w2, mw_s79 w2, mw_s80 w2, mw_s81 w2, mw_s82 w2, mw_s83 w2, mw_s84 w2, mw_s85 w2, mw_r5 w2, mw_r15 w2, mw_r16 w2, mw_r17 w2, mw_r18 w2, mw_r21 w2, mw_r22 w2, zq_s q2, zq_s1 q2, zq_r8 q2, zq_s2 q2, zq_r9 q2, zq_s3 q2, zq_r10 q2, zq_s4 q2, zq_r11 q2, zq_s5 q2, zq_r12 q2, zq_s6 q2, zq_r13 q2, zq_s7 q2, zq_r14 q2, zq_s8 q2, zq_r15 q2, zq_s9 q2, zq_r16 q2, zq_s10 q2, zq_r17 q2, zq_s11 q2, zq_r18 q2, zq_s12 q2, zq_r19 q2, zq_s13 q2, zq_r20 q2, r2, zsh_pi, zgr_pi]
  simp (disch := omega) only [zpi_o]
  rw [g2, zj_cn (by omega), zj_add]
  obtain ⟨h9, hh⟩ : ∃ h9, h9 = zpi (zpi h2 (t + 4) b (zj (v.1 : Nat))) t 3 (zj ((N : Int) + 1)) := ⟨_, rfl⟩
  rw [← hh]
  have gi : ∀ x y, ¬ (x = t + 4 ∧ y = b) → ¬ (x = t ∧ y = 3) → zgi h9 x y = zgi h2 x y := fun x y q0 q1 => by rw [hh]; simp (disch := omega) only [zpi_o, zgi_plo]
  have g : ∀ x y, ¬ (x = t + 4 ∧ y = b) → ¬ (x = t ∧ y = 3) → gz h9 x y = gz h2 x y := fun x y q0 q1 => congrArg Int32.toInt (gi x y q0 q1)
  have gl : ∀ x y, zgl h9 x y = zgl h2 x y := fun x y  => by rw [hh]; simp (disch := omega) only [zplo, zgl_pio]
  have v2 : gz h9 t 3 = (N : Int) + 1 := by show (zgi h9 t 3).toInt = _; rw [hh]; simp (disch := omega) only [zpi_o, zgi_plo, zpi_s, zj_toInt]
  have v3 : gz h9 (t + 4) b = v.1 := by show (zgi h9 (t + 4) b).toInt = _; rw [hh]; simp (disch := omega) only [zpi_o, zgi_plo, zpi_s, zj_toInt]
  refine ⟨zj_in (by omega) (by omega) (by omega), k1 (zD_cell D true b v.1, v.2) (by show zbd (pW T n (zk1 12) (tk_e T n (tk_e T n s))) _ = _; rw [e2]; show zbd (pN T n 11 s2) _ = _; rw [e3]; rfl) h9 (I2.step (by rw [hh]; rfl) (by rw [hh]; rfl) (fun x y z => gi x y (by omega) (by omega)) (fun x y z => gl x y) ?_ (zDo_cell I.o hbl (by omega)))⟩
  refine ⟨?_, ?_, ?_, ?_, fun i b hb => ?_, ?_, fun i x hx => ?_, ?_, fun i x hx => ?_, ?_, fun i x hx => ?_, ?_, fun i x hx => ?_⟩
  · rw [g _ _ (by omega) (by omega)]; exact f0
  · rw [g _ _ (by omega) (by omega)]; show _ = (((D.2.1.set b _).length : Nat) : Int); rw [List.length_set]; exact f1
  · rw [g _ _ (by omega) (by omega), ← hP2]; show _ = (((D.2.1.set b (zws1 true (zbt D b) v.1)).countP P2 : Nat) : Int); rw [zbt_get hx]; omega
  · rw [v2, ← hP]; show (N : Int) + 1 = (((D.2.1.set b (zws1 true (zbt D b) v.1)).countP P : Nat) : Int); rw [zbt_get hx]; omega
  · obtain ⟨y, hy, z⟩ := zset_get hb
    rcases z with ⟨ei, rfl⟩ | ⟨ei, rfl⟩
    · cases (show D.2.1[b]? = some y by rw [← ei]; exact hy).symm.trans hx
      rw [ei, g (t + 1) _ (by omega) (by omega), g (t + 2) _ (by omega) (by omega), g (t + 3) _ (by omega) (by omega), gl (t + 5) _]
      exact ⟨gy.1, gy.2.1, gy.2.2.1, v3, gy.2.2.2.2⟩
    · rw [g _ _ (by omega) (by omega), g _ _ (by omega) (by omega), g _ _ (by omega) (by omega), g _ _ (by omega) (by omega), gl _ _]; exact sb i _ hy
  · rw [g _ _ (by omega) (by omega)]; exact f4
  · rw [g _ _ (by omega) (by omega), gl _ _]; exact sm i x hx
  · rw [g _ _ (by omega) (by omega)]; exact f5
  · rw [g _ _ (by omega) (by omega)]; exact sh i x hx
  · rw [g _ _ (by omega) (by omega)]; exact f6
  · rw [g _ _ (by omega) (by omega), g _ _ (by omega) (by omega)]; exact sp i x hx
  · rw [g _ _ (by omega) (by omega)]; exact f7
  · rw [gl _ _, g _ _ (by omega) (by omega), g _ _ (by omega) (by omega)]; exact sn i x hx
end ZMZ
