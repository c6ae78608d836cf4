section ZSE
variable {X : Nat × (Nat → Int32)} {R : zRt} {h h' h1 h2 : zHp} {d p : Nat}
theorem st_undo (I : zI h d p) (k : ∀ x h1, zsh h1 78 = some (.inl 9) → (∀ R2 : zRt, (∀ h2, zI h2 d p → R2 (some (.int x)) h2) → zCC X M_X9_undo [.ref 78] h1 R2) → R (some (.int x)) h1) : zCC X M_X7_undo [.ref 16] h R := by
  have hp := I.hp
  obtain ⟨A, N, B, hA, hA2, hN, hN2, hB, hB2, hA3, hB3⟩ := I.A
  refine cx_undo I.w I.m (fun c0 => k _ _ (by first | exact I.s78 | exact I.s78q (zQh_gh h _ _ _ _) | exact I.s78q (zQh_sk h _ _ _ _)) (fun R2 k2 => ?_)) (fun c0 => k _ _ (by first | exact I.s78 | exact I.s78q (zQh_gh h _ _ _ _) | exact I.s78q (zQh_sk h _ _ _ _)) (fun R2 k2 => ?_))
  · obtain ⟨h1, hh1⟩ : ∃ h1, h1 = zpi (zpi h 16 5 (zj 6)) 78 0 (zj 0) := ⟨_, rfl⟩
    have w : zMW (zpi h 16 5 (zj 6)) := (I.oq (zQh_pi h 6)).mw
    have w1 : zMW h1 := by rw [hh1]; exact w
    have rf := k2 _ (I.rfu 6 (by decide))
    rw [← hh1] at rf
    have g19 : gz h1 78 19 = 0 := by rw [hh1]; show gz h 78 19 = 0; omega
    have fin : zV X M_X9_undo (zQm M_X9_undo R2) 0 0 19 [.ref 78, .retAddr 0] [] h1 := by
      refine vb_X9_undo_19 _ _ _ ?_
      simp only [B_X9_undo_19, oPI, oPL, oILOAD, oLLOAD, oALOAD, oISTORE, oASTORE, oLSTORE, oIINC, oIADD, oISUB, oIMUL, oIAND, oIOR, oIXOR, oIDIV, oIREM, oISHL, oISHR, oIUSHR, oLADD, oLSUB, oLMUL, oLOR, oLDIV, oLREM, oLCMP, oLSHL, oINEG, oI2L, oL2I, oI2B, oI2C, oDUP, oPOP, oDUP2, oIFEQ, oICEQ, oIFNE, oICNE, oIFLT, oICLT, oIFGE, oICGE, oIFGT, oICGT, oIFLE, oICLE, oIFNULL, oIFNONNULL, oTSW, oLSW, oGETI, oGETL, oGETR, oPUTI, oPUTZ, oPUTL, oPUTR, oIALD, oBALD, oZALD, oLALD, oAALD, oALEN, oIAST, oBAST, oZAST, oLAST, oIRET, oZRET, oLRET, oVRET, oARET, oOBJ, oINI, oPS, oNEW, oNEWAI, oNEWAB, oNEWAZ, oNEWAL, oCOPY, oINV0, oINS0, oINV1, oINS1, oINV2, oINS2, oINV3, oINS3, oINV4, oINS4, oINV5, oINS5, oINV6, oINS6, List.getElem?_cons_zero, List.getElem?_cons_succ, List.set_cons_zero, List.set_cons_succ, znl, zs4, zc1, true_and, and_self, Value.category, Option.toList, List.cons_append, List.nil_append, zvr, mw_s w1, mw_s79 w1, mw_s80 w1, mw_s81 w1, mw_s82 w1, mw_s83 w1, mw_s84 w1, mw_s85 w1, mw_r5 w1, mw_r15 w1, mw_r16 w1, mw_r17 w1, mw_r18 w1, mw_r21 w1, mw_r22 w1]
      refine cm_denied w1 ?_
      simp only [oPI, oPL, oILOAD, oLLOAD, oALOAD, oISTORE, oASTORE, oLSTORE, oIINC, oIADD, oISUB, oIMUL, oIAND, oIOR, oIXOR, oIDIV, oIREM, oISHL, oISHR, oIUSHR, oLADD, oLSUB, oLMUL, oLOR, oLDIV, oLREM, oLCMP, oLSHL, oINEG, oI2L, oL2I, oI2B, oI2C, oDUP, oPOP, oDUP2, oIFEQ, oICEQ, oIFNE, oICNE, oIFLT, oICLT, oIFGE, oICGE, oIFGT, oICGT, oIFLE, oICLE, oIFNULL, oIFNONNULL, oTSW, oLSW, oGETI, oGETL, oGETR, oPUTI, oPUTZ, oPUTL, oPUTR, oIALD, oBALD, oZALD, oLALD, oAALD, oALEN, oIAST, oBAST, oZAST, oLAST, oIRET, oZRET, oLRET, oVRET, oARET, oOBJ, oINI, oPS, oNEW, oNEWAI, oNEWAB, oNEWAZ, oNEWAL, oCOPY, oINV0, oINS0, oINV1, oINS1, oINV2, oINS2, oINV3, oINS3, oINV4, oINS4, oINV5, oINS5, oINV6, oINS6, List.getElem?_cons_zero, List.getElem?_cons_succ, List.set_cons_zero, List.set_cons_succ, znl, zs4, zc1, true_and, and_self, Value.category, Option.toList, List.cons_append, List.nil_append, zvr]
      exact ⟨(by first | exact Or.inl rfl | exact Or.inr rfl | simp), rf⟩
    rcases I.o with ⟨-, hz, -⟩ | ⟨o, z⟩
    · have z0 : zgr (zpi h 16 5 (zj 6)) 78 3 = none := hz
      refine zCC_of (ls := [.ref 78, .retAddr 0]) pf_X9_undo rfl (Nat.le_of_ble_eq_true rfl) ?_
      refine vb_X9_undo_0 _ _ _ ?_
      simp only [B_X9_undo_0, oPI, oPL, oILOAD, oLLOAD, oALOAD, oISTORE, oASTORE, oLSTORE, oIINC, oIADD, oISUB, oIMUL, oIAND, oIOR, oIXOR, oIDIV, oIREM, oISHL, oISHR, oIUSHR, oLADD, oLSUB, oLMUL, oLOR, oLDIV, oLREM, oLCMP, oLSHL, oINEG, oI2L, oL2I, oI2B, oI2C, oDUP, oPOP, oDUP2, oIFEQ, oICEQ, oIFNE, oICNE, oIFLT, oICLT, oIFGE, oICGE, oIFGT, oICGT, oIFLE, oICLE, oIFNULL, oIFNONNULL, oTSW, oLSW, oGETI, oGETL, oGETR, oPUTI, oPUTZ, oPUTL, oPUTR, oIALD, oBALD, oZALD, oLALD, oAALD, oALEN, oIAST, oBAST, oZAST, oLAST, oIRET, oZRET, oLRET, oVRET, oARET, oOBJ, oINI, oPS, oNEW, oNEWAI, oNEWAB, oNEWAZ, oNEWAL, oCOPY, oINV0, oINS0, oINV1, oINS1, oINV2, oINS2, oINV3, oINS3, oINV4, oINS4, oINV5, oINS5, oINV6, oINS6, List.getElem?_cons_zero, List.getElem?_cons_succ, List.set_cons_zero, List.set_cons_succ, znl, zs4, zc1, true_and, and_self, Value.category, Option.toList, List.cons_append, List.nil_append, zvr, mw_s w, mw_s79 w, mw_s80 w, mw_s81 w, mw_s82 w, mw_s83 w, mw_s84 w, mw_s85 w, mw_r5 w, mw_r15 w, mw_r16 w, mw_r17 w, mw_r18 w, mw_r21 w, mw_r22 w, zsh_pi, zgr_pi, hz]
      rw [← hh1]
      exact fin
    · have t := o.ta
      refine zCC_of (ls := [.ref 78, .retAddr 0]) pf_X9_undo rfl (Nat.le_of_ble_eq_true rfl) ?_
      refine vb_X9_undo_0 _ _ _ ?_
      simp only [B_X9_undo_0, oPI, oPL, oILOAD, oLLOAD, oALOAD, oISTORE, oASTORE, oLSTORE, oIINC, oIADD, oISUB, oIMUL, oIAND, oIOR, oIXOR, oIDIV, oIREM, oISHL, oISHR, oIUSHR, oLADD, oLSUB, oLMUL, oLOR, oLDIV, oLREM, oLCMP, oLSHL, oINEG, oI2L, oL2I, oI2B, oI2C, oDUP, oPOP, oDUP2, oIFEQ, oICEQ, oIFNE, oICNE, oIFLT, oICLT, oIFGE, oICGE, oIFGT, oICGT, oIFLE, oICLE, oIFNULL, oIFNONNULL, oTSW, oLSW, oGETI, oGETL, oGETR, oPUTI, oPUTZ, oPUTL, oPUTR, oIALD, oBALD, oZALD, oLALD, oAALD, oALEN, oIAST, oBAST, oZAST, oLAST, oIRET, oZRET, oLRET, oVRET, oARET, oOBJ, oINI, oPS, oNEW, oNEWAI, oNEWAB, oNEWAZ, oNEWAL, oCOPY, oINV0, oINS0, oINV1, oINS1, oINV2, oINS2, oINV3, oINS3, oINV4, oINS4, oINV5, oINS5, oINV6, oINS6, List.getElem?_cons_zero, List.getElem?_cons_succ, List.set_cons_zero, List.set_cons_succ, znl, zs4, zc1, true_and, and_self, Value.category, Option.toList, List.cons_append, List.nil_append, zvr, mw_s w, mw_s79 w, mw_s80 w, mw_s81 w, mw_s82 w, mw_s83 w, mw_s84 w, mw_s85 w, mw_r5 w, mw_r15 w, mw_r16 w, mw_r17 w, mw_r18 w, mw_r21 w, mw_r22 w, ta_r3 t, ta_s t, ta_s1 t, ta_r8 t, ta_s2 t, ta_r9 t, ta_s3 t, ta_r10 t, ta_s4 t, ta_r11 t, ta_s5 t, ta_r12 t, ta_s6 t, ta_r13 t, ta_s7 t, ta_r14 t, ta_s8 t, ta_r15 t, ta_s9 t, ta_r16 t, ta_s10 t, ta_r17 t, ta_s11 t, ta_r18 t, ta_s12 t, ta_r19 t, ta_s13 t, ta_r20 t, zsh_pi, zgr_pi]
      rw [← hh1, zgi_gz, g19]
      exact ⟨fun c => absurd rfl c, fun _ => fin⟩
  · have h0 : ¬ gz h p 1 = 0 := fun z => c0 (I.ze z).2.2.2.2.2.1
    have o := I.mo h0
    have w := o.mw
    have t := o.ta
    have hA1 : 1 ≤ A := by omega
    obtain ⟨hc, hhc⟩ : ∃ hc, hc = zpi (zud h) 16 5 (zj 0) := ⟨_, rfl⟩
    obtain ⟨M, hM⟩ : ∃ M : Nat, (N + 15) % 16 = M := ⟨_, rfl⟩
    have hM16 : M < 16 := by omega
    have eM : (gz h 46 3 + 15) % 16 = (M : Int) := by omega
    have eud : zud h = zcp (zpi (zpi h 46 2 (zj ((A : Int) - 1))) 46 3 (zj (M : Int))) (48 + M) 0 45 0 15 := by unfold zud; rw [eM, hA, Int.toNat_natCast]
    rw [eud] at hhc
    have ec : ∀ x y, ¬ (x = 46 ∧ (y = 2 ∨ y = 3)) → ¬ (x = 45 ∧ y < 15) → ¬ (x = 16 ∧ y = 5) → zgi hc x y = zgi h x y := fun x y q1 q2 q3 => by rw [hhc, zpi_o q3, zgi_cp, if_neg (by omega), zpi_o (by omega), zpi_o (by omega)]
    have c45 : ∀ y, y < 15 → zgi hc 45 y = zgi h (48 + M) y := fun y hy => by rw [hhc, zpi_o (by omega), zgi_cp, if_pos (by omega), show 0 + (y - 0) = y by omega, zpi_o (by omega), zpi_o (by omega)]
    have c462 : gz hc 46 2 = (A : Int) - 1 := by rw [hhc, gz_pi0 (by omega)]; show (zgi (zcp (zpi (zpi h 46 2 (zj ((A : Int) - 1))) 46 3 (zj (M : Int))) (48 + M) 0 45 0 15) 46 2).toInt = _; rw [zgi_cp, if_neg (by omega), zpi_o (by omega), zgi_pi, if_pos ⟨rfl, rfl⟩, zj_toInt (by omega) (by omega)]
    have c463 : gz hc 46 3 = (M : Int) := by rw [hhc, gz_pi0 (by omega)]; show (zgi (zcp (zpi (zpi h 46 2 (zj ((A : Int) - 1))) 46 3 (zj (M : Int))) (48 + M) 0 45 0 15) 46 3).toInt = _; rw [zgi_cp, if_neg (by omega), zgi_pi, if_pos ⟨rfl, rfl⟩, zj_toInt (by omega) (by omega)]
    obtain ⟨h1, hh1⟩ : ∃ h1, h1 = zpi hc 78 0 (zj 0) := ⟨_, rfl⟩
    have w0 : zMW hc := by rw [hhc]; exact w
    have t0 : zTa hc := by rw [hhc]; exact t
    have w1 : zMW h1 := by rw [hh1]; exact w0
    have g19 : gz h1 78 19 = A := by rw [hh1, gz_pi0 (by omega), show gz hc 78 19 = gz h 78 19 from congrArg Int32.toInt (ec 78 19 (by omega) (by omega) (by omega))]; exact hA3
    rw [eud, ← hhc]
    refine zCC_of (ls := [.ref 78, .retAddr 0]) pf_X9_undo rfl (Nat.le_of_ble_eq_true rfl) ?_
    refine vb_X9_undo_0 _ _ _ ?_
    simp only [B_X9_undo_0, oPI, oPL, oILOAD, oLLOAD, oALOAD, oISTORE, oASTORE, oLSTORE, oIINC, oIADD, oISUB, oIMUL, oIAND, oIOR, oIXOR, oIDIV, oIREM, oISHL, oISHR, oIUSHR, oLADD, oLSUB, oLMUL, oLOR, oLDIV, oLREM, oLCMP, oLSHL, oINEG, oI2L, oL2I, oI2B, oI2C, oDUP, oPOP, oDUP2, oIFEQ, oICEQ, oIFNE, oICNE, oIFLT, oICLT, oIFGE, oICGE, oIFGT, oICGT, oIFLE, oICLE, oIFNULL, oIFNONNULL, oTSW, oLSW, oGETI, oGETL, oGETR, oPUTI, oPUTZ, oPUTL, oPUTR, oIALD, oBALD, oZALD, oLALD, oAALD, oALEN, oIAST, oBAST, oZAST, oLAST, oIRET, oZRET, oLRET, oVRET, oARET, oOBJ, oINI, oPS, oNEW, oNEWAI, oNEWAB, oNEWAZ, oNEWAL, oCOPY, oINV0, oINS0, oINV1, oINS1, oINV2, oINS2, oINV3, oINS3, oINV4, oINS4, oINV5, oINS5, oINV6, oINS6, List.getElem?_cons_zero, List.getElem?_cons_succ, List.set_cons_zero, List.set_cons_succ, znl, zs4, zc1, true_and, and_self, Value.category, Option.toList, List.cons_append, List.nil_append, zvr, mw_s w0, mw_s79 w0, mw_s80 w0, mw_s81 w0, mw_s82 w0, mw_s83 w0, mw_s84 w0, mw_s85 w0, mw_r5 w0, mw_r15 w0, mw_r16 w0, mw_r17 w0, mw_r18 w0, mw_r21 w0, mw_r22 w0, ta_r3 t0, ta_s t0, ta_s1 t0, ta_r8 t0, ta_s2 t0, ta_r9 t0, ta_s3 t0, ta_r10 t0, ta_s4 t0, ta_r11 t0, ta_s5 t0, ta_r12 t0, ta_s6 t0, ta_r13 t0, ta_s7 t0, ta_r14 t0, ta_s8 t0, ta_r15 t0, ta_s9 t0, ta_r16 t0, ta_s10 t0, ta_r17 t0, ta_s11 t0, ta_r18 t0, ta_s12 t0, ta_r19 t0, ta_s13 t0, ta_r20 t0, zsh_pi, zgr_pi]
    rw [← hh1, zgi_gz, g19]
    try simp (disch := omega) only [zgi_gz, zj_cn, zj_lt, zj_le, zj_eq, zj_add, zj_sub, zj_mul, zj_neg, zj_lt0, zj_le0, zj_0le, zj_0lt, zj_eq0, zb_0, zb_z, Classical.not_not, Int.zero_add, Int.add_zero, zj_remn, zj_divn]
    refine ⟨fun _ => ?_, fun c => by omega⟩
    refine vb_X9_undo_26 _ _ _ ?_
    simp only [B_X9_undo_26, oPI, oPL, oILOAD, oLLOAD, oALOAD, oISTORE, oASTORE, oLSTORE, oIINC, oIADD, oISUB, oIMUL, oIAND, oIOR, oIXOR, oIDIV, oIREM, oISHL, oISHR, oIUSHR, oLADD, oLSUB, oLMUL, oLOR, oLDIV, oLREM, oLCMP, oLSHL, oINEG, oI2L, oL2I, oI2B, oI2C, oDUP, oPOP, oDUP2, oIFEQ, oICEQ, oIFNE, oICNE, oIFLT, oICLT, oIFGE, oICGE, oIFGT, oICGT, oIFLE, oICLE, oIFNULL, oIFNONNULL, oTSW, oLSW, oGETI, oGETL, oGETR, oPUTI, oPUTZ, oPUTL, oPUTR, oIALD, oBALD, oZALD, oLALD, oAALD, oALEN, oIAST, oBAST, oZAST, oLAST, oIRET, oZRET, oLRET, oVRET, oARET, oOBJ, oINI, oPS, oNEW, oNEWAI, oNEWAB, oNEWAZ, oNEWAL, oCOPY, oINV0, oINS0, oINV1, oINS1, oINV2, oINS2, oINV3, oINS3, oINV4, oINS4, oINV5, oINS5, oINV6, oINS6, List.getElem?_cons_zero, List.getElem?_cons_succ, List.set_cons_zero, List.set_cons_succ, znl, zs4, zc1, true_and, and_self, Value.category, Option.toList, List.cons_append, List.nil_append, zvr, mw_s w1, mw_s79 w1, mw_s80 w1, mw_s81 w1, mw_s82 w1, mw_s83 w1, mw_s84 w1, mw_s85 w1, mw_r5 w1, mw_r15 w1, mw_r16 w1, mw_r17 w1, mw_r18 w1, mw_r21 w1, mw_r22 w1, zsh_pi]
    rw [zgi_gz, g19, zj_sub]
    obtain ⟨h2, hh2⟩ : ∃ h2, h2 = zpi h1 78 19 (zj ((A : Int) - 1)) := ⟨_, rfl⟩
    rw [← hh2]
    have w2 : zMW h2 := by rw [hh2]; exact w1
    have e2 : ∀ x y, ¬ (x = 78 ∧ (y = 0 ∨ y = 19)) → zgi h2 x y = zgi hc x y := fun x y q => by rw [hh2, zpi_o (by omega), hh1, zpi_o (by omega)]
    have g219 : gz h2 78 19 = (A : Int) - 1 := by rw [hh2]; exact gz_pi1 (by omega) (by omega)
    refine zdown (m := 15) (P := fun i => ∀ h', zAg h2 h' 80 → (∀ q : Nat, q < i → zgi h' 80 q = zgi h 82 (15 * (A - 1) + q)) → zV X M_X9_undo (zQm M_X9_undo R2) 0 0 38 [.ref 78, .int (zj i)] [] h') (fun i hi ih h' a n1 => ?_) 0 (by omega) h2 (zAg.rf _ _) (fun q hq => by omega)
    have w3 := w2.mv a.1 a.2.1
    have g319 : gz h' 78 19 = (A : Int) - 1 := by rw [a.gz (by omega)]; exact g219
    refine vb_X9_undo_38 _ _ _ ?_
    simp only [B_X9_undo_38, oPI, oPL, oILOAD, oLLOAD, oALOAD, oISTORE, oASTORE, oLSTORE, oIINC, oIADD, oISUB, oIMUL, oIAND, oIOR, oIXOR, oIDIV, oIREM, oISHL, oISHR, oIUSHR, oLADD, oLSUB, oLMUL, oLOR, oLDIV, oLREM, oLCMP, oLSHL, oINEG, oI2L, oL2I, oI2B, oI2C, oDUP, oPOP, oDUP2, oIFEQ, oICEQ, oIFNE, oICNE, oIFLT, oICLT, oIFGE, oICGE, oIFGT, oICGT, oIFLE, oICLE, oIFNULL, oIFNONNULL, oTSW, oLSW, oGETI, oGETL, oGETR, oPUTI, oPUTZ, oPUTL, oPUTR, oIALD, oBALD, oZALD, oLALD, oAALD, oALEN, oIAST, oBAST, oZAST, oLAST, oIRET, oZRET, oLRET, oVRET, oARET, oOBJ, oINI, oPS, oNEW, oNEWAI, oNEWAB, oNEWAZ, oNEWAL, oCOPY, oINV0, oINS0, oINV1, oINS1, oINV2, oINS2, oINV3, oINS3, oINV4, oINS4, oINV5, oINS5, oINV6, oINS6, List.getElem?_cons_zero, List.getElem?_cons_succ, List.set_cons_zero, List.set_cons_succ, znl, zs4, zc1, true_and, and_self, Value.category, Option.toList, List.cons_append, List.nil_append, zvr, mw_s w3, mw_s79 w3, mw_s80 w3, mw_s81 w3, mw_s82 w3, mw_s83 w3, mw_s84 w3, mw_s85 w3, mw_r5 w3, mw_r15 w3, mw_r16 w3, mw_r17 w3, mw_r18 w3, mw_r21 w3, mw_r22 w3]
    by_cases ci : i = 15
    · subst ci
      refine ⟨fun _ => ?_, fun c => absurd (by decide) c⟩
      refine vb_X9_undo_70 _ _ _ ?_
      simp only [B_X9_undo_70, oPI, oPL, oILOAD, oLLOAD, oALOAD, oISTORE, oASTORE, oLSTORE, oIINC, oIADD, oISUB, oIMUL, oIAND, oIOR, oIXOR, oIDIV, oIREM, oISHL, oISHR, oIUSHR, oLADD, oLSUB, oLMUL, oLOR, oLDIV, oLREM, oLCMP, oLSHL, oINEG, oI2L, oL2I, oI2B, oI2C, oDUP, oPOP, oDUP2, oIFEQ, oICEQ, oIFNE, oICNE, oIFLT, oICLT, oIFGE, oICGE, oIFGT, oICGT, oIFLE, oICLE, oIFNULL, oIFNONNULL, oTSW, oLSW, oGETI, oGETL, oGETR, oPUTI, oPUTZ, oPUTL, oPUTR, oIALD, oBALD, oZALD, oLALD, oAALD, oALEN, oIAST, oBAST, oZAST, oLAST, oIRET, oZRET, oLRET, oVRET, oARET, oOBJ, oINI, oPS, oNEW, oNEWAI, oNEWAB, oNEWAZ, oNEWAL, oCOPY, oINV0, oINS0, oINV1, oINS1, oINV2, oINS2, oINV3, oINS3, oINV4, oINS4, oINV5, oINS5, oINV6, oINS6, List.getElem?_cons_zero, List.getElem?_cons_succ, List.set_cons_zero, List.set_cons_succ, znl, zs4, zc1, true_and, and_self, Value.category, Option.toList, List.cons_append, List.nil_append, zvr, mw_s w3, mw_s79 w3, mw_s80 w3, mw_s81 w3, mw_s82 w3, mw_s83 w3, mw_s84 w3, mw_s85 w3, mw_r5 w3, mw_r15 w3, mw_r16 w3, mw_r17 w3, mw_r18 w3, mw_r21 w3, mw_r22 w3]
      refine cm_granted w3 ?_
      simp only [oPI, oPL, oILOAD, oLLOAD, oALOAD, oISTORE, oASTORE, oLSTORE, oIINC, oIADD, oISUB, oIMUL, oIAND, oIOR, oIXOR, oIDIV, oIREM, oISHL, oISHR, oIUSHR, oLADD, oLSUB, oLMUL, oLOR, oLDIV, oLREM, oLCMP, oLSHL, oINEG, oI2L, oL2I, oI2B, oI2C, oDUP, oPOP, oDUP2, oIFEQ, oICEQ, oIFNE, oICNE, oIFLT, oICLT, oIFGE, oICGE, oIFGT, oICGT, oIFLE, oICLE, oIFNULL, oIFNONNULL, oTSW, oLSW, oGETI, oGETL, oGETR, oPUTI, oPUTZ, oPUTL, oPUTR, oIALD, oBALD, oZALD, oLALD, oAALD, oALEN, oIAST, oBAST, oZAST, oLAST, oIRET, oZRET, oLRET, oVRET, oARET, oOBJ, oINI, oPS, oNEW, oNEWAI, oNEWAB, oNEWAZ, oNEWAL, oCOPY, oINV0, oINS0, oINV1, oINS1, oINV2, oINS2, oINV3, oINS3, oINV4, oINS4, oINV5, oINS5, oINV6, oINS6, List.getElem?_cons_zero, List.getElem?_cons_succ, List.set_cons_zero, List.set_cons_succ, znl, zs4, zc1, true_and, and_self, Value.category, Option.toList, List.cons_append, List.nil_append, zvr]
      refine ⟨(by first | exact Or.inl rfl | exact Or.inr rfl | simp), ?_⟩
      obtain ⟨h4, hh4⟩ : ∃ h4, h4 = zrf h' 0 := ⟨_, rfl⟩
      rw [← hh4]
      have e4 : ∀ x y, ¬ (x = 78 ∧ (y = 1 ∨ y = 2)) → zgi h4 x y = zgi h' x y := fun x y q => by rw [hh4]; unfold zrf; rw [zpi_o (by omega), zpi_o (by omega)]
      have e4c : ∀ x y, ¬ (x = 78 ∧ (y = 0 ∨ y = 1 ∨ y = 2 ∨ y = 19)) → x ≠ 80 → zgi h4 x y = zgi hc x y := fun x y q q2 => by rw [e4 x y (by omega), a.2.2 x y q2, e2 x y (by omega)]
      have e4h : ∀ x y, ¬ (x = 78 ∧ (y = 0 ∨ y = 1 ∨ y = 2 ∨ y = 19)) → x ≠ 80 → ¬ (x = 46 ∧ (y = 2 ∨ y = 3)) → ¬ (x = 45 ∧ y < 15) → ¬ (x = 16 ∧ y = 5) → zgi h4 x y = zgi h x y := fun x y q1 q2 q3 q4 q5 => by rw [e4c x y q1 q2]; exact ec x y q3 q4 q5
      have z45 : ∀ y, y < 15 → zgi h4 45 y = zgi h (48 + M) y := fun y hy => by rw [e4c 45 y (by omega) (by omega)]; exact c45 y hy
      have k462 : gz h4 46 2 = (A : Int) - 1 := by rw [show gz h4 46 2 = gz hc 46 2 from congrArg Int32.toInt (e4c 46 2 (by omega) (by omega))]; exact c462
      have k463 : gz h4 46 3 = (M : Int) := by rw [show gz h4 46 3 = gz hc 46 3 from congrArg Int32.toInt (e4c 46 3 (by omega) (by omega))]; exact c463
      have k464 : gz h4 46 4 = gz h 46 4 := congrArg Int32.toInt (e4h 46 4 (by omega) (by omega) (by omega) (by omega) (by omega))
      obtain ⟨a1, a2, a3, a4, a5, a6⟩ := I.ac
      rw [hA, hN] at a3
      refine k2 h4 (I.act (t := 0) h0 ?_ ?_ (fun x y q1 q2 q3 q4 q5 q6 q7 q8 => e4h x y (by omega) (by omega) (by omega) (by omega) q8) (fun y q1 q2 => e4h 78 y (by omega) (by omega) (by omega) (by omega) (by omega)) ?_ ?_ ?_ (by decide) ((a5 M hM16).mv z45) ?_ ?_ (fun i hi => ?_))
      · rw [hh4]; show h'.1 = h.1; rw [a.1, hh2, hh1, hhc]; rfl
      · rw [hh4]; show h'.2.2 = h.2.2; rw [a.2.1, hh2, hh1, hhc]; rfl
      · rw [e4c 16 5 (by omega) (by omega), hhc]; rfl
      · rw [hh4]; rfl
      · rw [hh4]; rfl
      · unfold zMV
        rw [k462, k463, k464]
        omega
      · unfold zAc
        rw [k462, k463, k464, show gz h4 78 19 = (A : Int) - 1 by rw [show gz h4 78 19 = gz h' 78 19 from congrArg Int32.toInt (e4 78 19 (by omega))]; exact g319, show gz h4 78 20 = gz h 78 20 from congrArg Int32.toInt (e4h 78 20 (by omega) (by omega) (by omega) (by omega) (by omega))]
        refine ⟨rfl, a2, fun j hj i hi => ?_, fun j h3 hj i hi => ?_, fun j hj => (a5 j hj).mv (fun i _ => e4h _ _ (by omega) (by omega) (by omega) (by omega) (by omega)), fun j hj => (a6 j hj).mv (fun i _ => e4h _ _ (by omega) (by omega) (by omega) (by omega) (by omega))⟩
        · rw [e4h 82 _ (by omega) (by omega) (by omega) (by omega) (by omega), e4h _ i (by omega) (by omega) (by omega) (by omega) (by omega), a3 j (by omega) i hi]
          rw [show ((M : Int) + 16 - ((A : Int) - 1) + (j : Int)) % 16 = ((N : Int) + 16 - (A : Int) + (j : Int)) % 16 by omega]
        · rw [e4h 83 _ (by omega) (by omega) (by omega) (by omega) (by omega), e4h (65 + j) _ (by omega) (by omega) (by omega) (by omega) (by omega)]
          exact a4 j h3 hj i hi
      · rw [e4 80 i (by omega), n1 i hi, z45 i hi, a3 (A - 1) (by omega) i hi]
        rw [show ((N : Int) + 16 - (A : Int) + ((A - 1 : Nat) : Int)) % 16 = (M : Int) by omega, Int.toNat_natCast]
    have e82 : zgi h' 82 (15 * (A - 1) + i) = zgi h 82 (15 * (A - 1) + i) := by rw [a.2.2 82 _ (by omega), e2 82 _ (by omega)]; exact ec 82 _ (by omega) (by omega) (by omega)
    rw [zj_cn (by omega), zgi_gz h' 78 19, g319, zj_mul, zj_add, show (15 : Int) * ((A : Int) - 1) + (i : Int) = ((15 * (A - 1) + i : Nat) : Int) by omega, zj_cn (by omega), e82, zj_add]
    simp (disch := omega) only [zj_le]
    refine ⟨fun c => by omega, fun _ => ⟨zj_in (by omega) (by omega) (by omega), zj_in (by omega) (by omega) (by omega), ?_⟩⟩
    refine ih (by omega) _ (a.tr (zpi_ag h' 80 _ _)) (fun q hq => ?_)
    rw [zgi_pi]
    by_cases e : q = i
    · subst e; rw [if_pos ⟨rfl, rfl⟩]
    · rw [if_neg (by omega)]; exact n1 q (by omega)
theorem st_image (I : zI h d p) (k : ∀ x h1, zsh h1 78 = some (.inl 9) → (∀ R2 : zRt, (∀ h2, zI h2 d p → R2 (some (.int x)) h2) → zCC X M_X9_image [.ref 78] h1 R2) → R (some (.int x)) h1) : zCC X M_X7_image [.ref 16] h R := by
  have hp := I.hp
  obtain ⟨A, N, B, hA, hA2, hN, hN2, hB, hB2, hA3, hB3⟩ := I.A
  refine cx_image I.w I.v I.m (fun c0 => k _ _ (by first | exact I.s78 | exact I.s78q (zQh_gh h _ _ _ _) | exact I.s78q (zQh_sk h _ _ _ _)) (fun R2 k2 => ?_)) (fun c0 c1 => k _ _ (by first | exact I.s78 | exact I.s78q (zQh_gh h _ _ _ _) | exact I.s78q (zQh_sk h _ _ _ _)) (fun R2 k2 => ?_)) (fun c0 c1 => k _ _ (by first | exact I.s78 | exact I.s78q (zQh_gh h _ _ _ _) | exact I.s78q (zQh_sk h _ _ _ _)) (fun R2 k2 => ?_))
  · rcases I.oq (zQh_pi h 1) with ⟨w, hz, -⟩ | ⟨o, z⟩
    · obtain ⟨h1, hh1⟩ : ∃ h1, h1 = zpi (zpi h 16 5 (zj 1)) 78 0 (zj 0) := ⟨_, rfl⟩
      have w1 : zMW h1 := by rw [hh1]; exact w
      have rf := k2 _ (I.rfu 1 (by decide))
      rw [← hh1] at rf
      refine zCC_of (ls := [.ref 78, .retAddr 0]) pf_X9_image rfl (Nat.le_of_ble_eq_true rfl) ?_
      refine vb_X9_image_0 _ _ _ ?_
      simp only [B_X9_image_0, oPI, oPL, oILOAD, oLLOAD, oALOAD, oISTORE, oASTORE, oLSTORE, oIINC, oIADD, oISUB, oIMUL, oIAND, oIOR, oIXOR, oIDIV, oIREM, oISHL, oISHR, oIUSHR, oLADD, oLSUB, oLMUL, oLOR, oLDIV, oLREM, oLCMP, oLSHL, oINEG, oI2L, oL2I, oI2B, oI2C, oDUP, oPOP, oDUP2, oIFEQ, oICEQ, oIFNE, oICNE, oIFLT, oICLT, oIFGE, oICGE, oIFGT, oICGT, oIFLE, oICLE, oIFNULL, oIFNONNULL, oTSW, oLSW, oGETI, oGETL, oGETR, oPUTI, oPUTZ, oPUTL, oPUTR, oIALD, oBALD, oZALD, oLALD, oAALD, oALEN, oIAST, oBAST, oZAST, oLAST, oIRET, oZRET, oLRET, oVRET, oARET, oOBJ, oINI, oPS, oNEW, oNEWAI, oNEWAB, oNEWAZ, oNEWAL, oCOPY, oINV0, oINS0, oINV1, oINS1, oINV2, oINS2, oINV3, oINS3, oINV4, oINS4, oINV5, oINS5, oINV6, oINS6, List.getElem?_cons_zero, List.getElem?_cons_succ, List.set_cons_zero, List.set_cons_succ, znl, zs4, zc1, true_and, and_self, Value.category, Option.toList, List.cons_append, List.nil_append, zvr, mw_s w, mw_s79 w, mw_s80 w, mw_s81 w, mw_s82 w, mw_s83 w, mw_s84 w, mw_s85 w, mw_r5 w, mw_r15 w, mw_r16 w, mw_r17 w, mw_r18 w, mw_r21 w, mw_r22 w, zsh_pi, zgr_pi, hz]
      rw [← hh1]
      refine cm_refused w1 ?_
      simp only [oPI, oPL, oILOAD, oLLOAD, oALOAD, oISTORE, oASTORE, oLSTORE, oIINC, oIADD, oISUB, oIMUL, oIAND, oIOR, oIXOR, oIDIV, oIREM, oISHL, oISHR, oIUSHR, oLADD, oLSUB, oLMUL, oLOR, oLDIV, oLREM, oLCMP, oLSHL, oINEG, oI2L, oL2I, oI2B, oI2C, oDUP, oPOP, oDUP2, oIFEQ, oICEQ, oIFNE, oICNE, oIFLT, oICLT, oIFGE, oICGE, oIFGT, oICGT, oIFLE, oICLE, oIFNULL, oIFNONNULL, oTSW, oLSW, oGETI, oGETL, oGETR, oPUTI, oPUTZ, oPUTL, oPUTR, oIALD, oBALD, oZALD, oLALD, oAALD, oALEN, oIAST, oBAST, oZAST, oLAST, oIRET, oZRET, oLRET, oVRET, oARET, oOBJ, oINI, oPS, oNEW, oNEWAI, oNEWAB, oNEWAZ, oNEWAL, oCOPY, oINV0, oINS0, oINV1, oINS1, oINV2, oINS2, oINV3, oINS3, oINV4, oINS4, oINV5, oINS5, oINV6, oINS6, List.getElem?_cons_zero, List.getElem?_cons_succ, List.set_cons_zero, List.set_cons_succ, znl, zs4, zc1, true_and, and_self, Value.category, Option.toList, List.cons_append, List.nil_append, zvr]
      exact rf
    · exact absurd (by rw [show gz (zpi h 16 5 (zj 1)) p 1 = gz h p 1 from (zQh_pi h 1).lq.gz (by omega) 1]; exact c0) z
  all_goals have o := I.mo c0
  · have w := o.mw
    have t := o.ta
    obtain ⟨h1, hh1⟩ : ∃ h1, h1 = zpi (zpi h 16 5 (zj 3)) 78 0 (zj 0) := ⟨_, rfl⟩
    have w1 : zMW h1 := by rw [hh1]; exact w
    have g20 : gz h1 78 20 = 3 := by rw [hh1]; show gz h 78 20 = 3; omega
    have rf := k2 _ (I.rfu 3 (by decide))
    rw [← hh1] at rf
    refine zCC_of (ls := [.ref 78, .retAddr 0]) pf_X9_image rfl (Nat.le_of_ble_eq_true rfl) ?_
    refine vb_X9_image_0 _ _ _ ?_
    simp only [B_X9_image_0, oPI, oPL, oILOAD, oLLOAD, oALOAD, oISTORE, oASTORE, oLSTORE, oIINC, oIADD, oISUB, oIMUL, oIAND, oIOR, oIXOR, oIDIV, oIREM, oISHL, oISHR, oIUSHR, oLADD, oLSUB, oLMUL, oLOR, oLDIV, oLREM, oLCMP, oLSHL, oINEG, oI2L, oL2I, oI2B, oI2C, oDUP, oPOP, oDUP2, oIFEQ, oICEQ, oIFNE, oICNE, oIFLT, oICLT, oIFGE, oICGE, oIFGT, oICGT, oIFLE, oICLE, oIFNULL, oIFNONNULL, oTSW, oLSW, oGETI, oGETL, oGETR, oPUTI, oPUTZ, oPUTL, oPUTR, oIALD, oBALD, oZALD, oLALD, oAALD, oALEN, oIAST, oBAST, oZAST, oLAST, oIRET, oZRET, oLRET, oVRET, oARET, oOBJ, oINI, oPS, oNEW, oNEWAI, oNEWAB, oNEWAZ, oNEWAL, oCOPY, oINV0, oINS0, oINV1, oINS1, oINV2, oINS2, oINV3, oINS3, oINV4, oINS4, oINV5, oINS5, oINV6, oINS6, List.getElem?_cons_zero, List.getElem?_cons_succ, List.set_cons_zero, List.set_cons_succ, znl, zs4, zc1, true_and, and_self, Value.category, Option.toList, List.cons_append, List.nil_append, zvr, mw_s w, mw_s79 w, mw_s80 w, mw_s81 w, mw_s82 w, mw_s83 w, mw_s84 w, mw_s85 w, mw_r5 w, mw_r15 w, mw_r16 w, mw_r17 w, mw_r18 w, mw_r21 w, mw_r22 w, ta_r3 t, ta_s t, ta_s1 t, ta_r8 t, ta_s2 t, ta_r9 t, ta_s3 t, ta_r10 t, ta_s4 t, ta_r11 t, ta_s5 t, ta_r12 t, ta_s6 t, ta_r13 t, ta_s7 t, ta_r14 t, ta_s8 t, ta_r15 t, ta_s9 t, ta_r16 t, ta_s10 t, ta_r17 t, ta_s11 t, ta_r18 t, ta_s12 t, ta_r19 t, ta_s13 t, ta_r20 t, zsh_pi, zgr_pi]
    rw [← hh1]
    refine vb_X9_image_18 _ _ _ ?_
    simp only [B_X9_image_18, oPI, oPL, oILOAD, oLLOAD, oALOAD, oISTORE, oASTORE, oLSTORE, oIINC, oIADD, oISUB, oIMUL, oIAND, oIOR, oIXOR, oIDIV, oIREM, oISHL, oISHR, oIUSHR, oLADD, oLSUB, oLMUL, oLOR, oLDIV, oLREM, oLCMP, oLSHL, oINEG, oI2L, oL2I, oI2B, oI2C, oDUP, oPOP, oDUP2, oIFEQ, oICEQ, oIFNE, oICNE, oIFLT, oICLT, oIFGE, oICGE, oIFGT, oICGT, oIFLE, oICLE, oIFNULL, oIFNONNULL, oTSW, oLSW, oGETI, oGETL, oGETR, oPUTI, oPUTZ, oPUTL, oPUTR, oIALD, oBALD, oZALD, oLALD, oAALD, oALEN, oIAST, oBAST, oZAST, oLAST, oIRET, oZRET, oLRET, oVRET, oARET, oOBJ, oINI, oPS, oNEW, oNEWAI, oNEWAB, oNEWAZ, oNEWAL, oCOPY, oINV0, oINS0, oINV1, oINS1, oINV2, oINS2, oINV3, oINS3, oINV4, oINS4, oINV5, oINS5, oINV6, oINS6, List.getElem?_cons_zero, List.getElem?_cons_succ, List.set_cons_zero, List.set_cons_succ, znl, zs4, zc1, true_and, and_self, Value.category, Option.toList, List.cons_append, List.nil_append, zvr, mw_s w1, mw_s79 w1, mw_s80 w1, mw_s81 w1, mw_s82 w1, mw_s83 w1, mw_s84 w1, mw_s85 w1, mw_r5 w1, mw_r15 w1, mw_r16 w1, mw_r17 w1, mw_r18 w1, mw_r21 w1, mw_r22 w1]
    rw [zgi_gz, g20]
    refine ⟨fun c => absurd rfl c, fun _ => ?_⟩
    refine cm_refused w1 ?_
    simp only [oPI, oPL, oILOAD, oLLOAD, oALOAD, oISTORE, oASTORE, oLSTORE, oIINC, oIADD, oISUB, oIMUL, oIAND, oIOR, oIXOR, oIDIV, oIREM, oISHL, oISHR, oIUSHR, oLADD, oLSUB, oLMUL, oLOR, oLDIV, oLREM, oLCMP, oLSHL, oINEG, oI2L, oL2I, oI2B, oI2C, oDUP, oPOP, oDUP2, oIFEQ, oICEQ, oIFNE, oICNE, oIFLT, oICLT, oIFGE, oICGE, oIFGT, oICGT, oIFLE, oICLE, oIFNULL, oIFNONNULL, oTSW, oLSW, oGETI, oGETL, oGETR, oPUTI, oPUTZ, oPUTL, oPUTR, oIALD, oBALD, oZALD, oLALD, oAALD, oALEN, oIAST, oBAST, oZAST, oLAST, oIRET, oZRET, oLRET, oVRET, oARET, oOBJ, oINI, oPS, oNEW, oNEWAI, oNEWAB, oNEWAZ, oNEWAL, oCOPY, oINV0, oINS0, oINV1, oINS1, oINV2, oINS2, oINV3, oINS3, oINV4, oINS4, oINV5, oINS5, oINV6, oINS6, List.getElem?_cons_zero, List.getElem?_cons_succ, List.set_cons_zero, List.set_cons_succ, znl, zs4, zc1, true_and, and_self, Value.category, Option.toList, List.cons_append, List.nil_append, zvr]
    exact rf
  · have w := o.mw
    have t := o.ta
    have hB1 : B < 3 := by omega
    obtain ⟨hc, hhc⟩ : ∃ hc, hc = zpi (zki h) 16 5 (zj 0) := ⟨_, rfl⟩
    have eki : zki h = zpi (zcp h 45 0 (65 + B) 0 15) 46 4 (zj ((B : Int) + 1)) := by unfold zki; rw [hB, Int.toNat_natCast]
    rw [eki] at hhc
    have ec : ∀ x y, ¬ (x = 46 ∧ y = 4) → ¬ (x = 65 + B ∧ y < 15) → ¬ (x = 16 ∧ y = 5) → zgi hc x y = zgi h x y := fun x y q1 q2 q3 => by rw [hhc, zpi_o q3, zpi_o q1, zgi_cp, if_neg (by omega)]
    have cB : ∀ y, y < 15 → zgi hc (65 + B) y = zgi h 45 y := fun y hy => by rw [hhc, zpi_o (by omega), zpi_o (by omega), zgi_cp, if_pos (by omega), show 0 + (y - 0) = y by omega]
    have c464 : gz hc 46 4 = (B : Int) + 1 := by rw [hhc, gz_pi0 (by omega)]; exact gz_pi1 (by omega) (by omega)
    obtain ⟨h1, hh1⟩ : ∃ h1, h1 = zpi hc 78 0 (zj 0) := ⟨_, rfl⟩
    have w0 : zMW hc := by rw [hhc]; exact w
    have t0 : zTa hc := by rw [hhc]; exact t
    have w1 : zMW h1 := by rw [hh1]; exact w0
    have e1 : ∀ x y, ¬ (x = 78 ∧ y = 0) → zgi h1 x y = zgi hc x y := fun x y q => by rw [hh1, zpi_o q]
    have g20 : gz h1 78 20 = B := by rw [show gz h1 78 20 = gz h 78 20 from congrArg Int32.toInt (by rw [e1 78 20 (by omega)]; exact ec 78 20 (by omega) (by omega) (by omega))]; exact hB3
    rw [eki, ← hhc]
    refine zCC_of (ls := [.ref 78, .retAddr 0]) pf_X9_image rfl (Nat.le_of_ble_eq_true rfl) ?_
    refine vb_X9_image_0 _ _ _ ?_
    simp only [B_X9_image_0, oPI, oPL, oILOAD, oLLOAD, oALOAD, oISTORE, oASTORE, oLSTORE, oIINC, oIADD, oISUB, oIMUL, oIAND, oIOR, oIXOR, oIDIV, oIREM, oISHL, oISHR, oIUSHR, oLADD, oLSUB, oLMUL, oLOR, oLDIV, oLREM, oLCMP, oLSHL, oINEG, oI2L, oL2I, oI2B, oI2C, oDUP, oPOP, oDUP2, oIFEQ, oICEQ, oIFNE, oICNE, oIFLT, oICLT, oIFGE, oICGE, oIFGT, oICGT, oIFLE, oICLE, oIFNULL, oIFNONNULL, oTSW, oLSW, oGETI, oGETL, oGETR, oPUTI, oPUTZ, oPUTL, oPUTR, oIALD, oBALD, oZALD, oLALD, oAALD, oALEN, oIAST, oBAST, oZAST, oLAST, oIRET, oZRET, oLRET, oVRET, oARET, oOBJ, oINI, oPS, oNEW, oNEWAI, oNEWAB, oNEWAZ, oNEWAL, oCOPY, oINV0, oINS0, oINV1, oINS1, oINV2, oINS2, oINV3, oINS3, oINV4, oINS4, oINV5, oINS5, oINV6, oINS6, List.getElem?_cons_zero, List.getElem?_cons_succ, List.set_cons_zero, List.set_cons_succ, znl, zs4, zc1, true_and, and_self, Value.category, Option.toList, List.cons_append, List.nil_append, zvr, mw_s w0, mw_s79 w0, mw_s80 w0, mw_s81 w0, mw_s82 w0, mw_s83 w0, mw_s84 w0, mw_s85 w0, mw_r5 w0, mw_r15 w0, mw_r16 w0, mw_r17 w0, mw_r18 w0, mw_r21 w0, mw_r22 w0, ta_r3 t0, ta_s t0, ta_s1 t0, ta_r8 t0, ta_s2 t0, ta_r9 t0, ta_s3 t0, ta_r10 t0, ta_s4 t0, ta_r11 t0, ta_s5 t0, ta_r12 t0, ta_s6 t0, ta_r13 t0, ta_s7 t0, ta_r14 t0, ta_s8 t0, ta_r15 t0, ta_s9 t0, ta_r16 t0, ta_s10 t0, ta_r17 t0, ta_s11 t0, ta_r18 t0, ta_s12 t0, ta_r19 t0, ta_s13 t0, ta_r20 t0, zsh_pi, zgr_pi]
    rw [← hh1]
    refine vb_X9_image_18 _ _ _ ?_
    simp only [B_X9_image_18, oPI, oPL, oILOAD, oLLOAD, oALOAD, oISTORE, oASTORE, oLSTORE, oIINC, oIADD, oISUB, oIMUL, oIAND, oIOR, oIXOR, oIDIV, oIREM, oISHL, oISHR, oIUSHR, oLADD, oLSUB, oLMUL, oLOR, oLDIV, oLREM, oLCMP, oLSHL, oINEG, oI2L, oL2I, oI2B, oI2C, oDUP, oPOP, oDUP2, oIFEQ, oICEQ, oIFNE, oICNE, oIFLT, oICLT, oIFGE, oICGE, oIFGT, oICGT, oIFLE, oICLE, oIFNULL, oIFNONNULL, oTSW, oLSW, oGETI, oGETL, oGETR, oPUTI, oPUTZ, oPUTL, oPUTR, oIALD, oBALD, oZALD, oLALD, oAALD, oALEN, oIAST, oBAST, oZAST, oLAST, oIRET, oZRET, oLRET, oVRET, oARET, oOBJ, oINI, oPS, oNEW, oNEWAI, oNEWAB, oNEWAZ, oNEWAL, oCOPY, oINV0, oINS0, oINV1, oINS1, oINV2, oINS2, oINV3, oINS3, oINV4, oINS4, oINV5, oINS5, oINV6, oINS6, List.getElem?_cons_zero, List.getElem?_cons_succ, List.set_cons_zero, List.set_cons_succ, znl, zs4, zc1, true_and, and_self, Value.category, Option.toList, List.cons_append, List.nil_append, zvr, mw_s w1, mw_s79 w1, mw_s80 w1, mw_s81 w1, mw_s82 w1, mw_s83 w1, mw_s84 w1, mw_s85 w1, mw_r5 w1, mw_r15 w1, mw_r16 w1, mw_r17 w1, mw_r18 w1, mw_r21 w1, mw_r22 w1]
    rw [zgi_gz, g20]
    try simp (disch := omega) only [zgi_gz, zj_cn, zj_lt, zj_le, zj_eq, zj_add, zj_sub, zj_mul, zj_neg, zj_lt0, zj_le0, zj_0le, zj_0lt, zj_eq0, zb_0, zb_z, Classical.not_not, Int.zero_add, Int.add_zero, zj_remn, zj_divn]
    refine ⟨fun _ => ?_, fun c => by omega⟩
    refine vb_X9_image_32 _ _ _ ?_
    simp only [B_X9_image_32, oPI, oPL, oILOAD, oLLOAD, oALOAD, oISTORE, oASTORE, oLSTORE, oIINC, oIADD, oISUB, oIMUL, oIAND, oIOR, oIXOR, oIDIV, oIREM, oISHL, oISHR, oIUSHR, oLADD, oLSUB, oLMUL, oLOR, oLDIV, oLREM, oLCMP, oLSHL, oINEG, oI2L, oL2I, oI2B, oI2C, oDUP, oPOP, oDUP2, oIFEQ, oICEQ, oIFNE, oICNE, oIFLT, oICLT, oIFGE, oICGE, oIFGT, oICGT, oIFLE, oICLE, oIFNULL, oIFNONNULL, oTSW, oLSW, oGETI, oGETL, oGETR, oPUTI, oPUTZ, oPUTL, oPUTR, oIALD, oBALD, oZALD, oLALD, oAALD, oALEN, oIAST, oBAST, oZAST, oLAST, oIRET, oZRET, oLRET, oVRET, oARET, oOBJ, oINI, oPS, oNEW, oNEWAI, oNEWAB, oNEWAZ, oNEWAL, oCOPY, oINV0, oINS0, oINV1, oINS1, oINV2, oINS2, oINV3, oINS3, oINV4, oINS4, oINV5, oINS5, oINV6, oINS6, List.getElem?_cons_zero, List.getElem?_cons_succ, List.set_cons_zero, List.set_cons_succ, znl, zs4, zc1, true_and, and_self, Value.category, Option.toList, List.cons_append, List.nil_append, zvr]
    refine zdown (m := 15) (P := fun i => ∀ h', zAg h1 h' 83 → (∀ q : Nat, q < i → zgi h' 83 (15 * B + q) = zgi h 45 q) → (∀ q : Nat, q < 15 * B → zgi h' 83 q = zgi h 83 q) → zV X M_X9_image (zQm M_X9_image R2) 0 0 34 [.ref 78, .int (zj i)] [] h') (fun i hi ih h' a n1 n2 => ?_) 0 (by omega) h1 (zAg.rf _ _) (fun q hq => by omega) (fun q hq => by rw [e1 83 q (by omega)]; exact ec 83 q (by omega) (by omega) (by omega))
    have w3 := w1.mv a.1 a.2.1
    have g320 : gz h' 78 20 = B := by rw [a.gz (by omega)]; exact g20
    refine vb_X9_image_34 _ _ _ ?_
    simp only [B_X9_image_34, oPI, oPL, oILOAD, oLLOAD, oALOAD, oISTORE, oASTORE, oLSTORE, oIINC, oIADD, oISUB, oIMUL, oIAND, oIOR, oIXOR, oIDIV, oIREM, oISHL, oISHR, oIUSHR, oLADD, oLSUB, oLMUL, oLOR, oLDIV, oLREM, oLCMP, oLSHL, oINEG, oI2L, oL2I, oI2B, oI2C, oDUP, oPOP, oDUP2, oIFEQ, oICEQ, oIFNE, oICNE, oIFLT, oICLT, oIFGE, oICGE, oIFGT, oICGT, oIFLE, oICLE, oIFNULL, oIFNONNULL, oTSW, oLSW, oGETI, oGETL, oGETR, oPUTI, oPUTZ, oPUTL, oPUTR, oIALD, oBALD, oZALD, oLALD, oAALD, oALEN, oIAST, oBAST, oZAST, oLAST, oIRET, oZRET, oLRET, oVRET, oARET, oOBJ, oINI, oPS, oNEW, oNEWAI, oNEWAB, oNEWAZ, oNEWAL, oCOPY, oINV0, oINS0, oINV1, oINS1, oINV2, oINS2, oINV3, oINS3, oINV4, oINS4, oINV5, oINS5, oINV6, oINS6, List.getElem?_cons_zero, List.getElem?_cons_succ, List.set_cons_zero, List.set_cons_succ, znl, zs4, zc1, true_and, and_self, Value.category, Option.toList, List.cons_append, List.nil_append, zvr, mw_s w3, mw_s79 w3, mw_s80 w3, mw_s81 w3, mw_s82 w3, mw_s83 w3, mw_s84 w3, mw_s85 w3, mw_r5 w3, mw_r15 w3, mw_r16 w3, mw_r17 w3, mw_r18 w3, mw_r21 w3, mw_r22 w3]
    by_cases ci : i = 15
    · subst ci
      refine ⟨fun _ => ?_, fun c => absurd (by decide) c⟩
      refine vb_X9_image_66 _ _ _ ?_
      simp only [B_X9_image_66, oPI, oPL, oILOAD, oLLOAD, oALOAD, oISTORE, oASTORE, oLSTORE, oIINC, oIADD, oISUB, oIMUL, oIAND, oIOR, oIXOR, oIDIV, oIREM, oISHL, oISHR, oIUSHR, oLADD, oLSUB, oLMUL, oLOR, oLDIV, oLREM, oLCMP, oLSHL, oINEG, oI2L, oL2I, oI2B, oI2C, oDUP, oPOP, oDUP2, oIFEQ, oICEQ, oIFNE, oICNE, oIFLT, oICLT, oIFGE, oICGE, oIFGT, oICGT, oIFLE, oICLE, oIFNULL, oIFNONNULL, oTSW, oLSW, oGETI, oGETL, oGETR, oPUTI, oPUTZ, oPUTL, oPUTR, oIALD, oBALD, oZALD, oLALD, oAALD, oALEN, oIAST, oBAST, oZAST, oLAST, oIRET, oZRET, oLRET, oVRET, oARET, oOBJ, oINI, oPS, oNEW, oNEWAI, oNEWAB, oNEWAZ, oNEWAL, oCOPY, oINV0, oINS0, oINV1, oINS1, oINV2, oINS2, oINV3, oINS3, oINV4, oINS4, oINV5, oINS5, oINV6, oINS6, List.getElem?_cons_zero, List.getElem?_cons_succ, List.set_cons_zero, List.set_cons_succ, znl, zs4, zc1, true_and, and_self, Value.category, Option.toList, List.cons_append, List.nil_append, zvr, mw_s w3, mw_s79 w3, mw_s80 w3, mw_s81 w3, mw_s82 w3, mw_s83 w3, mw_s84 w3, mw_s85 w3, mw_r5 w3, mw_r15 w3, mw_r16 w3, mw_r17 w3, mw_r18 w3, mw_r21 w3, mw_r22 w3, zsh_pi]
      rw [zgi_gz h' 78 20, g320, zj_add, zgi_pi, if_pos ⟨rfl, rfl⟩, zj_sub, show (B : Int) + 1 - 1 = gz h 46 4 by omega]
      have w4 : zMW (zpi h' 78 20 (zj ((B : Int) + 1))) := w3
      refine cm_good w4 ?_
      simp only [oPI, oPL, oILOAD, oLLOAD, oALOAD, oISTORE, oASTORE, oLSTORE, oIINC, oIADD, oISUB, oIMUL, oIAND, oIOR, oIXOR, oIDIV, oIREM, oISHL, oISHR, oIUSHR, oLADD, oLSUB, oLMUL, oLOR, oLDIV, oLREM, oLCMP, oLSHL, oINEG, oI2L, oL2I, oI2B, oI2C, oDUP, oPOP, oDUP2, oIFEQ, oICEQ, oIFNE, oICNE, oIFLT, oICLT, oIFGE, oICGE, oIFGT, oICGT, oIFLE, oICLE, oIFNULL, oIFNONNULL, oTSW, oLSW, oGETI, oGETL, oGETR, oPUTI, oPUTZ, oPUTL, oPUTR, oIALD, oBALD, oZALD, oLALD, oAALD, oALEN, oIAST, oBAST, oZAST, oLAST, oIRET, oZRET, oLRET, oVRET, oARET, oOBJ, oINI, oPS, oNEW, oNEWAI, oNEWAB, oNEWAZ, oNEWAL, oCOPY, oINV0, oINS0, oINV1, oINS1, oINV2, oINS2, oINV3, oINS3, oINV4, oINS4, oINV5, oINS5, oINV6, oINS6, List.getElem?_cons_zero, List.getElem?_cons_succ, List.set_cons_zero, List.set_cons_succ, znl, zs4, zc1, true_and, and_self, Value.category, Option.toList, List.cons_append, List.nil_append, zvr]
      obtain ⟨h4, hh4⟩ : ∃ h4, h4 = zrf (zpi h' 78 20 (zj ((B : Int) + 1))) 0 := ⟨_, rfl⟩
      rw [← hh4]
      have e4 : ∀ x y, ¬ (x = 78 ∧ (y = 1 ∨ y = 2 ∨ y = 20)) → zgi h4 x y = zgi h' x y := fun x y q => by rw [hh4]; unfold zrf; rw [zpi_o (by omega), zpi_o (by omega), zpi_o (by omega)]
      have e4c : ∀ x y, ¬ (x = 78 ∧ (y = 0 ∨ y = 1 ∨ y = 2 ∨ y = 20)) → x ≠ 83 → zgi h4 x y = zgi hc x y := fun x y q q2 => by rw [e4 x y (by omega), a.2.2 x y q2, e1 x y (by omega)]
      have e4h : ∀ x y, ¬ (x = 78 ∧ (y = 0 ∨ y = 1 ∨ y = 2 ∨ y = 20)) → x ≠ 83 → ¬ (x = 46 ∧ y = 4) → ¬ (x = 65 + B ∧ y < 15) → ¬ (x = 16 ∧ y = 5) → zgi h4 x y = zgi h x y := fun x y q1 q2 q3 q4 q5 => by rw [e4c x y q1 q2]; exact ec x y q3 q4 q5
      have zB : ∀ y, y < 15 → zgi h4 (65 + B) y = zgi h 45 y := fun y hy => by rw [e4c (65 + B) y (by omega) (by omega)]; exact cB y hy
      have k462 : gz h4 46 2 = gz h 46 2 := congrArg Int32.toInt (e4h 46 2 (by omega) (by omega) (by omega) (by omega) (by omega))
      have k463 : gz h4 46 3 = gz h 46 3 := congrArg Int32.toInt (e4h 46 3 (by omega) (by omega) (by omega) (by omega) (by omega))
      have k464 : gz h4 46 4 = (B : Int) + 1 := by rw [show gz h4 46 4 = gz hc 46 4 from congrArg Int32.toInt (e4c 46 4 (by omega) (by omega))]; exact c464
      obtain ⟨a1, a2, a3, a4, a5, a6⟩ := I.ac
      refine k2 h4 (I.act (t := 0) c0 ?_ ?_ (fun x y q1 q2 q3 q4 q5 q6 q7 q8 => e4h x y (by omega) (by omega) (by omega) (by omega) q8) (fun y q1 q2 => e4h 78 y (by omega) (by omega) (by omega) (by omega) (by omega)) ?_ ?_ ?_ (by decide) ?_ ?_ ?_ (fun i hi => ?_))
      · rw [hh4]; show h'.1 = h.1; rw [a.1, hh1, hhc]; rfl
      · rw [hh4]; show h'.2.2 = h.2.2; rw [a.2.1, hh1, hhc]; rfl
      · rw [e4c 16 5 (by omega) (by omega), hhc]; rfl
      · rw [hh4]; rfl
      · rw [hh4]; rfl
      · exact zNr.mv (h := h) (q := 45) I.u (fun i _ => e4h 45 i (by omega) (by omega) (by omega) (by omega) (by omega))
      · unfold zMV
        rw [k462, k463, k464]
        have := I.m
        unfold zMV at this
        omega
      · unfold zAc
        rw [k462, k463, k464, show gz h4 78 19 = gz h 78 19 from congrArg Int32.toInt (e4h 78 19 (by omega) (by omega) (by omega) (by omega) (by omega)), show gz h4 78 20 = (B : Int) + 1 by rw [hh4]; show gz (zpi h' 78 20 (zj ((B : Int) + 1))) 78 20 = _; exact gz_pi1 (by omega) (by omega)]
        refine ⟨a1, rfl, fun j hj i hi => ?_, fun j h3 hj i hi => ?_, fun j hj => (a5 j hj).mv (fun i _ => e4h _ _ (by omega) (by omega) (by omega) (by omega) (by omega)), fun j hj => ?_⟩
        · rw [e4h 82 _ (by omega) (by omega) (by omega) (by omega) (by omega), e4h _ i (by omega) (by omega) (by omega) (by omega) (by omega)]
          exact a3 j hj i hi
        · by_cases cj : j = B
          · subst cj
            rw [e4 83 _ (by omega), n1 i hi, zB i hi]
          · rw [e4 83 _ (by omega), n2 _ (by omega), e4h (65 + j) _ (by omega) (by omega) (by omega) (by omega) (by omega)]
            exact a4 j h3 (by omega) i hi
        · by_cases cj : j = B
          · subst cj
            exact zNr.mv (h := h) (q := 45) I.u zB
          · exact (a6 j hj).mv (fun i _ => e4h _ _ (by omega) (by omega) (by omega) (by omega) (by omega))
      · rw [e4h 80 i (by omega) (by omega) (by omega) (by omega) (by omega), e4h 45 i (by omega) (by omega) (by omega) (by omega) (by omega)]
        exact o.vn i hi
    have e80 : zgi h' 80 i = zgi h 45 i := by rw [a.2.2 80 _ (by omega), e1 80 _ (by omega), ec 80 _ (by omega) (by omega) (by omega)]; exact o.vn i (by omega)
    rw [zj_cn (by omega), zgi_gz h' 78 20, g320, zj_mul, zj_add, show (15 : Int) * (B : Int) + (i : Int) = ((15 * B + i : Nat) : Int) by omega, zj_cn (by omega), e80, zj_add]
    simp (disch := omega) only [zj_le]
    refine ⟨fun c => by omega, fun _ => ⟨zj_in (by omega) (by omega) (by omega), zj_in (by omega) (by omega) (by omega), ?_⟩⟩
    refine ih (by omega) _ (a.tr (zpi_ag h' 83 _ _)) (fun q hq => ?_) (fun q hq => ?_)
    · rw [zgi_pi]
      by_cases e : q = i
      · subst e; rw [if_pos ⟨rfl, rfl⟩]
      · rw [if_neg (by omega)]; exact n1 q (by omega)
    · rw [zgi_pi, if_neg (by omega)]; exact n2 q hq
theorem st_back {a : Int} (ha1 : -2147483648 ≤ a) (ha2 : a < 2147483648) (I : zI h d p) (k : ∀ x h1, zsh h1 78 = some (.inl 9) → (∀ R2 : zRt, (∀ h2, zI h2 d p → R2 (some (.int x)) h2) → zCC X M_X9_back [.ref 78, .int (zj a)] h1 R2) → R (some (.int x)) h1) : zCC X M_X7_back [.ref 16, .int (zj a)] h R := by
  have hp := I.hp
  obtain ⟨A, N, B, hA, hA2, hN, hN2, hB, hB2, hA3, hB3⟩ := I.A
  refine cx_back I.w I.m ha1 ha2 (fun c0 => k _ _ (by first | exact I.s78 | exact I.s78q (zQh_gh h _ _ _ _) | exact I.s78q (zQh_sk h _ _ _ _)) (fun R2 k2 => ?_)) (fun c0 => k _ _ (by first | exact I.s78 | exact I.s78q (zQh_gh h _ _ _ _) | exact I.s78q (zQh_sk h _ _ _ _)) (fun R2 k2 => ?_))
  · obtain ⟨h1, hh1⟩ : ∃ h1, h1 = zpi (zpi h 16 5 (zj 1)) 78 0 (zj 0) := ⟨_, rfl⟩
    have w : zMW (zpi h 16 5 (zj 1)) := (I.oq (zQh_pi h 1)).mw
    have w1 : zMW h1 := by rw [hh1]; exact w
    have rf := k2 _ (I.rfu 1 (by decide))
    rw [← hh1] at rf
    have g20 : gz h1 78 20 = B := by rw [hh1]; exact hB3
    have fin : zV X M_X9_back (zQm M_X9_back R2) 0 0 24 [.ref 78, .int (zj a), .retAddr 0] [] h1 := by
      refine vb_X9_back_24 _ _ _ ?_
      simp only [B_X9_back_24, oPI, oPL, oILOAD, oLLOAD, oALOAD, oISTORE, oASTORE, oLSTORE, oIINC, oIADD, oISUB, oIMUL, oIAND, oIOR, oIXOR, oIDIV, oIREM, oISHL, oISHR, oIUSHR, oLADD, oLSUB, oLMUL, oLOR, oLDIV, oLREM, oLCMP, oLSHL, oINEG, oI2L, oL2I, oI2B, oI2C, oDUP, oPOP, oDUP2, oIFEQ, oICEQ, oIFNE, oICNE, oIFLT, oICLT, oIFGE, oICGE, oIFGT, oICGT, oIFLE, oICLE, oIFNULL, oIFNONNULL, oTSW, oLSW, oGETI, oGETL, oGETR, oPUTI, oPUTZ, oPUTL, oPUTR, oIALD, oBALD, oZALD, oLALD, oAALD, oALEN, oIAST, oBAST, oZAST, oLAST, oIRET, oZRET, oLRET, oVRET, oARET, oOBJ, oINI, oPS, oNEW, oNEWAI, oNEWAB, oNEWAZ, oNEWAL, oCOPY, oINV0, oINS0, oINV1, oINS1, oINV2, oINS2, oINV3, oINS3, oINV4, oINS4, oINV5, oINS5, oINV6, oINS6, List.getElem?_cons_zero, List.getElem?_cons_succ, List.set_cons_zero, List.set_cons_succ, znl, zs4, zc1, true_and, and_self, Value.category, Option.toList, List.cons_append, List.nil_append, zvr, mw_s w1, mw_s79 w1, mw_s80 w1, mw_s81 w1, mw_s82 w1, mw_s83 w1, mw_s84 w1, mw_s85 w1, mw_r5 w1, mw_r15 w1, mw_r16 w1, mw_r17 w1, mw_r18 w1, mw_r21 w1, mw_r22 w1]
      refine cm_denied w1 ?_
      simp only [oPI, oPL, oILOAD, oLLOAD, oALOAD, oISTORE, oASTORE, oLSTORE, oIINC, oIADD, oISUB, oIMUL, oIAND, oIOR, oIXOR, oIDIV, oIREM, oISHL, oISHR, oIUSHR, oLADD, oLSUB, oLMUL, oLOR, oLDIV, oLREM, oLCMP, oLSHL, oINEG, oI2L, oL2I, oI2B, oI2C, oDUP, oPOP, oDUP2, oIFEQ, oICEQ, oIFNE, oICNE, oIFLT, oICLT, oIFGE, oICGE, oIFGT, oICGT, oIFLE, oICLE, oIFNULL, oIFNONNULL, oTSW, oLSW, oGETI, oGETL, oGETR, oPUTI, oPUTZ, oPUTL, oPUTR, oIALD, oBALD, oZALD, oLALD, oAALD, oALEN, oIAST, oBAST, oZAST, oLAST, oIRET, oZRET, oLRET, oVRET, oARET, oOBJ, oINI, oPS, oNEW, oNEWAI, oNEWAB, oNEWAZ, oNEWAL, oCOPY, oINV0, oINS0, oINV1, oINS1, oINV2, oINS2, oINV3, oINS3, oINV4, oINS4, oINV5, oINS5, oINV6, oINS6, List.getElem?_cons_zero, List.getElem?_cons_succ, List.set_cons_zero, List.set_cons_succ, znl, zs4, zc1, true_and, and_self, Value.category, Option.toList, List.cons_append, List.nil_append, zvr]
      exact ⟨(by first | exact Or.inl rfl | exact Or.inr rfl | simp), rf⟩
    rcases I.o with ⟨-, hz, -⟩ | ⟨o, z⟩
    · have z0 : zgr (zpi h 16 5 (zj 1)) 78 3 = none := hz
      refine zCC_of (ls := [.ref 78, .int (zj a), .retAddr 0]) pf_X9_back rfl (Nat.le_of_ble_eq_true rfl) ?_
      refine vb_X9_back_0 _ _ _ ?_
      simp only [B_X9_back_0, oPI, oPL, oILOAD, oLLOAD, oALOAD, oISTORE, oASTORE, oLSTORE, oIINC, oIADD, oISUB, oIMUL, oIAND, oIOR, oIXOR, oIDIV, oIREM, oISHL, oISHR, oIUSHR, oLADD, oLSUB, oLMUL, oLOR, oLDIV, oLREM, oLCMP, oLSHL, oINEG, oI2L, oL2I, oI2B, oI2C, oDUP, oPOP, oDUP2, oIFEQ, oICEQ, oIFNE, oICNE, oIFLT, oICLT, oIFGE, oICGE, oIFGT, oICGT, oIFLE, oICLE, oIFNULL, oIFNONNULL, oTSW, oLSW, oGETI, oGETL, oGETR, oPUTI, oPUTZ, oPUTL, oPUTR, oIALD, oBALD, oZALD, oLALD, oAALD, oALEN, oIAST, oBAST, oZAST, oLAST, oIRET, oZRET, oLRET, oVRET, oARET, oOBJ, oINI, oPS, oNEW, oNEWAI, oNEWAB, oNEWAZ, oNEWAL, oCOPY, oINV0, oINS0, oINV1, oINS1, oINV2, oINS2, oINV3, oINS3, oINV4, oINS4, oINV5, oINS5, oINV6, oINS6, List.getElem?_cons_zero, List.getElem?_cons_succ, List.set_cons_zero, List.set_cons_succ, znl, zs4, zc1, true_and, and_self, Value.category, Option.toList, List.cons_append, List.nil_append, zvr, mw_s w, mw_s79 w, mw_s80 w, mw_s81 w, mw_s82 w, mw_s83 w, mw_s84 w, mw_s85 w, mw_r5 w, mw_r15 w, mw_r16 w, mw_r17 w, mw_r18 w, mw_r21 w, mw_r22 w, zsh_pi, zgr_pi, hz]
      rw [← hh1]
      exact fin
    · have t := o.ta
      refine zCC_of (ls := [.ref 78, .int (zj a), .retAddr 0]) pf_X9_back rfl (Nat.le_of_ble_eq_true rfl) ?_
      refine vb_X9_back_0 _ _ _ ?_
      simp only [B_X9_back_0, oPI, oPL, oILOAD, oLLOAD, oALOAD, oISTORE, oASTORE, oLSTORE, oIINC, oIADD, oISUB, oIMUL, oIAND, oIOR, oIXOR, oIDIV, oIREM, oISHL, oISHR, oIUSHR, oLADD, oLSUB, oLMUL, oLOR, oLDIV, oLREM, oLCMP, oLSHL, oINEG, oI2L, oL2I, oI2B, oI2C, oDUP, oPOP, oDUP2, oIFEQ, oICEQ, oIFNE, oICNE, oIFLT, oICLT, oIFGE, oICGE, oIFGT, oICGT, oIFLE, oICLE, oIFNULL, oIFNONNULL, oTSW, oLSW, oGETI, oGETL, oGETR, oPUTI, oPUTZ, oPUTL, oPUTR, oIALD, oBALD, oZALD, oLALD, oAALD, oALEN, oIAST, oBAST, oZAST, oLAST, oIRET, oZRET, oLRET, oVRET, oARET, oOBJ, oINI, oPS, oNEW, oNEWAI, oNEWAB, oNEWAZ, oNEWAL, oCOPY, oINV0, oINS0, oINV1, oINS1, oINV2, oINS2, oINV3, oINS3, oINV4, oINS4, oINV5, oINS5, oINV6, oINS6, List.getElem?_cons_zero, List.getElem?_cons_succ, List.set_cons_zero, List.set_cons_succ, znl, zs4, zc1, true_and, and_self, Value.category, Option.toList, List.cons_append, List.nil_append, zvr, mw_s w, mw_s79 w, mw_s80 w, mw_s81 w, mw_s82 w, mw_s83 w, mw_s84 w, mw_s85 w, mw_r5 w, mw_r15 w, mw_r16 w, mw_r17 w, mw_r18 w, mw_r21 w, mw_r22 w, ta_r3 t, ta_s t, ta_s1 t, ta_r8 t, ta_s2 t, ta_r9 t, ta_s3 t, ta_r10 t, ta_s4 t, ta_r11 t, ta_s5 t, ta_r12 t, ta_s6 t, ta_r13 t, ta_s7 t, ta_r14 t, ta_s8 t, ta_r15 t, ta_s9 t, ta_r16 t, ta_s10 t, ta_r17 t, ta_s11 t, ta_r18 t, ta_s12 t, ta_r19 t, ta_s13 t, ta_r20 t, zsh_pi, zgr_pi]
      rw [← hh1, zgi_gz, g20]
      try simp (disch := omega) only [zgi_gz, zj_cn, zj_lt, zj_le, zj_eq, zj_add, zj_sub, zj_mul, zj_neg, zj_lt0, zj_le0, zj_0le, zj_0lt, zj_eq0, zb_0, zb_z, Classical.not_not, Int.zero_add, Int.add_zero, zj_remn, zj_divn]
      refine ⟨fun _ => fin, fun c => ⟨fun c2 => ?_, fun _ => fin⟩⟩
      exact absurd ⟨by omega, by omega⟩ c0
  · have h0 : ¬ gz h p 1 = 0 := fun z => by have := (I.ze z).2.2.2.2.2.2; omega
    have o := I.mo h0
    have w := o.mw
    have t := o.ta
    obtain ⟨an, rfl⟩ : ∃ q : Nat, a = (q : Int) := ⟨a.toNat, by omega⟩
    rw [Int.toNat_natCast]
    obtain ⟨hc, hhc⟩ : ∃ hc, hc = zpi (zpi (zcp h (65 + an) 0 45 0 15) 46 2 (zj 0)) 16 5 (zj 0) := ⟨_, rfl⟩
    have ec : ∀ x y, ¬ (x = 46 ∧ y = 2) → ¬ (x = 45 ∧ y < 15) → ¬ (x = 16 ∧ y = 5) → zgi hc x y = zgi h x y := fun x y q1 q2 q3 => by rw [hhc, zpi_o q3, zpi_o q1, zgi_cp, if_neg (by omega)]
    have c45 : ∀ y, y < 15 → zgi hc 45 y = zgi h (65 + an) y := fun y hy => by rw [hhc, zpi_o (by omega), zpi_o (by omega), zgi_cp, if_pos (by omega), show 0 + (y - 0) = y by omega]
    have c462 : gz hc 46 2 = 0 := by rw [hhc, gz_pi0 (by omega)]; exact gz_pi1 (by omega) (by omega)
    obtain ⟨h1, hh1⟩ : ∃ h1, h1 = zpi hc 78 0 (zj 0) := ⟨_, rfl⟩
    have w0 : zMW hc := by rw [hhc]; exact w
    have t0 : zTa hc := by rw [hhc]; exact t
    have w1 : zMW h1 := by rw [hh1]; exact w0
    have e1 : ∀ x y, ¬ (x = 78 ∧ y = 0) → zgi h1 x y = zgi hc x y := fun x y q => by rw [hh1, zpi_o q]
    have g20 : gz h1 78 20 = B := by rw [show gz h1 78 20 = gz h 78 20 from congrArg Int32.toInt (by rw [e1 78 20 (by omega)]; exact ec 78 20 (by omega) (by omega) (by omega))]; exact hB3
    obtain ⟨a1, a2, a3, a4, a5, a6⟩ := I.ac
    rw [← hhc]
    refine zCC_of (ls := [.ref 78, .int (zj an), .retAddr 0]) pf_X9_back rfl (Nat.le_of_ble_eq_true rfl) ?_
    refine vb_X9_back_0 _ _ _ ?_
    simp only [B_X9_back_0, oPI, oPL, oILOAD, oLLOAD, oALOAD, oISTORE, oASTORE, oLSTORE, oIINC, oIADD, oISUB, oIMUL, oIAND, oIOR, oIXOR, oIDIV, oIREM, oISHL, oISHR, oIUSHR, oLADD, oLSUB, oLMUL, oLOR, oLDIV, oLREM, oLCMP, oLSHL, oINEG, oI2L, oL2I, oI2B, oI2C, oDUP, oPOP, oDUP2, oIFEQ, oICEQ, oIFNE, oICNE, oIFLT, oICLT, oIFGE, oICGE, oIFGT, oICGT, oIFLE, oICLE, oIFNULL, oIFNONNULL, oTSW, oLSW, oGETI, oGETL, oGETR, oPUTI, oPUTZ, oPUTL, oPUTR, oIALD, oBALD, oZALD, oLALD, oAALD, oALEN, oIAST, oBAST, oZAST, oLAST, oIRET, oZRET, oLRET, oVRET, oARET, oOBJ, oINI, oPS, oNEW, oNEWAI, oNEWAB, oNEWAZ, oNEWAL, oCOPY, oINV0, oINS0, oINV1, oINS1, oINV2, oINS2, oINV3, oINS3, oINV4, oINS4, oINV5, oINS5, oINV6, oINS6, List.getElem?_cons_zero, List.getElem?_cons_succ, List.set_cons_zero, List.set_cons_succ, znl, zs4, zc1, true_and, and_self, Value.category, Option.toList, List.cons_append, List.nil_append, zvr, mw_s w0, mw_s79 w0, mw_s80 w0, mw_s81 w0, mw_s82 w0, mw_s83 w0, mw_s84 w0, mw_s85 w0, mw_r5 w0, mw_r15 w0, mw_r16 w0, mw_r17 w0, mw_r18 w0, mw_r21 w0, mw_r22 w0, ta_r3 t0, ta_s t0, ta_s1 t0, ta_r8 t0, ta_s2 t0, ta_r9 t0, ta_s3 t0, ta_r10 t0, ta_s4 t0, ta_r11 t0, ta_s5 t0, ta_r12 t0, ta_s6 t0, ta_r13 t0, ta_s7 t0, ta_r14 t0, ta_s8 t0, ta_r15 t0, ta_s9 t0, ta_r16 t0, ta_s10 t0, ta_r17 t0, ta_s11 t0, ta_r18 t0, ta_s12 t0, ta_r19 t0, ta_s13 t0, ta_r20 t0, zsh_pi, zgr_pi]
    rw [← hh1, zgi_gz, g20]
    try simp (disch := omega) only [zgi_gz, zj_cn, zj_lt, zj_le, zj_eq, zj_add, zj_sub, zj_mul, zj_neg, zj_lt0, zj_le0, zj_0le, zj_0lt, zj_eq0, zb_0, zb_z, Classical.not_not, Int.zero_add, Int.add_zero, zj_remn, zj_divn]
    refine ⟨fun c => by omega, fun _ => ⟨fun _ => ?_, fun c => by omega⟩⟩
    refine vb_X9_back_30 _ _ _ ?_
    simp only [B_X9_back_30, oPI, oPL, oILOAD, oLLOAD, oALOAD, oISTORE, oASTORE, oLSTORE, oIINC, oIADD, oISUB, oIMUL, oIAND, oIOR, oIXOR, oIDIV, oIREM, oISHL, oISHR, oIUSHR, oLADD, oLSUB, oLMUL, oLOR, oLDIV, oLREM, oLCMP, oLSHL, oINEG, oI2L, oL2I, oI2B, oI2C, oDUP, oPOP, oDUP2, oIFEQ, oICEQ, oIFNE, oICNE, oIFLT, oICLT, oIFGE, oICGE, oIFGT, oICGT, oIFLE, oICLE, oIFNULL, oIFNONNULL, oTSW, oLSW, oGETI, oGETL, oGETR, oPUTI, oPUTZ, oPUTL, oPUTR, oIALD, oBALD, oZALD, oLALD, oAALD, oALEN, oIAST, oBAST, oZAST, oLAST, oIRET, oZRET, oLRET, oVRET, oARET, oOBJ, oINI, oPS, oNEW, oNEWAI, oNEWAB, oNEWAZ, oNEWAL, oCOPY, oINV0, oINS0, oINV1, oINS1, oINV2, oINS2, oINV3, oINS3, oINV4, oINS4, oINV5, oINS5, oINV6, oINS6, List.getElem?_cons_zero, List.getElem?_cons_succ, List.set_cons_zero, List.set_cons_succ, znl, zs4, zc1, true_and, and_self, Value.category, Option.toList, List.cons_append, List.nil_append, zvr]
    refine zdown (m := 15) (P := fun i => ∀ h', zAg h1 h' 80 → (∀ q : Nat, q < i → zgi h' 80 q = zgi h (65 + an) q) → zV X M_X9_back (zQm M_X9_back R2) 0 0 32 [.ref 78, .int (zj an), .int (zj i)] [] h') (fun i hi ih h' a n1 => ?_) 0 (by omega) h1 (zAg.rf _ _) (fun q hq => by omega)
    have w3 := w1.mv a.1 a.2.1
    refine vb_X9_back_32 _ _ _ ?_
    simp only [B_X9_back_32, oPI, oPL, oILOAD, oLLOAD, oALOAD, oISTORE, oASTORE, oLSTORE, oIINC, oIADD, oISUB, oIMUL, oIAND, oIOR, oIXOR, oIDIV, oIREM, oISHL, oISHR, oIUSHR, oLADD, oLSUB, oLMUL, oLOR, oLDIV, oLREM, oLCMP, oLSHL, oINEG, oI2L, oL2I, oI2B, oI2C, oDUP, oPOP, oDUP2, oIFEQ, oICEQ, oIFNE, oICNE, oIFLT, oICLT, oIFGE, oICGE, oIFGT, oICGT, oIFLE, oICLE, oIFNULL, oIFNONNULL, oTSW, oLSW, oGETI, oGETL, oGETR, oPUTI, oPUTZ, oPUTL, oPUTR, oIALD, oBALD, oZALD, oLALD, oAALD, oALEN, oIAST, oBAST, oZAST, oLAST, oIRET, oZRET, oLRET, oVRET, oARET, oOBJ, oINI, oPS, oNEW, oNEWAI, oNEWAB, oNEWAZ, oNEWAL, oCOPY, oINV0, oINS0, oINV1, oINS1, oINV2, oINS2, oINV3, oINS3, oINV4, oINS4, oINV5, oINS5, oINV6, oINS6, List.getElem?_cons_zero, List.getElem?_cons_succ, List.set_cons_zero, List.set_cons_succ, znl, zs4, zc1, true_and, and_self, Value.category, Option.toList, List.cons_append, List.nil_append, zvr, mw_s w3, mw_s79 w3, mw_s80 w3, mw_s81 w3, mw_s82 w3, mw_s83 w3, mw_s84 w3, mw_s85 w3, mw_r5 w3, mw_r15 w3, mw_r16 w3, mw_r17 w3, mw_r18 w3, mw_r21 w3, mw_r22 w3]
    by_cases ci : i = 15
    · subst ci
      refine ⟨fun _ => ?_, fun c => absurd (by decide) c⟩
      refine vb_X9_back_61 _ _ _ ?_
      simp only [B_X9_back_61, oPI, oPL, oILOAD, oLLOAD, oALOAD, oISTORE, oASTORE, oLSTORE, oIINC, oIADD, oISUB, oIMUL, oIAND, oIOR, oIXOR, oIDIV, oIREM, oISHL, oISHR, oIUSHR, oLADD, oLSUB, oLMUL, oLOR, oLDIV, oLREM, oLCMP, oLSHL, oINEG, oI2L, oL2I, oI2B, oI2C, oDUP, oPOP, oDUP2, oIFEQ, oICEQ, oIFNE, oICNE, oIFLT, oICLT, oIFGE, oICGE, oIFGT, oICGT, oIFLE, oICLE, oIFNULL, oIFNONNULL, oTSW, oLSW, oGETI, oGETL, oGETR, oPUTI, oPUTZ, oPUTL, oPUTR, oIALD, oBALD, oZALD, oLALD, oAALD, oALEN, oIAST, oBAST, oZAST, oLAST, oIRET, oZRET, oLRET, oVRET, oARET, oOBJ, oINI, oPS, oNEW, oNEWAI, oNEWAB, oNEWAZ, oNEWAL, oCOPY, oINV0, oINS0, oINV1, oINS1, oINV2, oINS2, oINV3, oINS3, oINV4, oINS4, oINV5, oINS5, oINV6, oINS6, List.getElem?_cons_zero, List.getElem?_cons_succ, List.set_cons_zero, List.set_cons_succ, znl, zs4, zc1, true_and, and_self, Value.category, Option.toList, List.cons_append, List.nil_append, zvr, mw_s w3, mw_s79 w3, mw_s80 w3, mw_s81 w3, mw_s82 w3, mw_s83 w3, mw_s84 w3, mw_s85 w3, mw_r5 w3, mw_r15 w3, mw_r16 w3, mw_r17 w3, mw_r18 w3, mw_r21 w3, mw_r22 w3, zsh_pi]
      have w4 : zMW (zpi h' 78 19 (zj 0)) := w3
      refine cm_granted w4 ?_
      simp only [oPI, oPL, oILOAD, oLLOAD, oALOAD, oISTORE, oASTORE, oLSTORE, oIINC, oIADD, oISUB, oIMUL, oIAND, oIOR, oIXOR, oIDIV, oIREM, oISHL, oISHR, oIUSHR, oLADD, oLSUB, oLMUL, oLOR, oLDIV, oLREM, oLCMP, oLSHL, oINEG, oI2L, oL2I, oI2B, oI2C, oDUP, oPOP, oDUP2, oIFEQ, oICEQ, oIFNE, oICNE, oIFLT, oICLT, oIFGE, oICGE, oIFGT, oICGT, oIFLE, oICLE, oIFNULL, oIFNONNULL, oTSW, oLSW, oGETI, oGETL, oGETR, oPUTI, oPUTZ, oPUTL, oPUTR, oIALD, oBALD, oZALD, oLALD, oAALD, oALEN, oIAST, oBAST, oZAST, oLAST, oIRET, oZRET, oLRET, oVRET, oARET, oOBJ, oINI, oPS, oNEW, oNEWAI, oNEWAB, oNEWAZ, oNEWAL, oCOPY, oINV0, oINS0, oINV1, oINS1, oINV2, oINS2, oINV3, oINS3, oINV4, oINS4, oINV5, oINS5, oINV6, oINS6, List.getElem?_cons_zero, List.getElem?_cons_succ, List.set_cons_zero, List.set_cons_succ, znl, zs4, zc1, true_and, and_self, Value.category, Option.toList, List.cons_append, List.nil_append, zvr]
      refine ⟨(by first | exact Or.inl rfl | exact Or.inr rfl | simp), ?_⟩
      obtain ⟨h4, hh4⟩ : ∃ h4, h4 = zrf (zpi h' 78 19 (zj 0)) 0 := ⟨_, rfl⟩
      rw [← hh4]
      have e4 : ∀ x y, ¬ (x = 78 ∧ (y = 1 ∨ y = 2 ∨ y = 19)) → zgi h4 x y = zgi h' x y := fun x y q => by rw [hh4]; unfold zrf; rw [zpi_o (by omega), zpi_o (by omega), zpi_o (by omega)]
      have e4c : ∀ x y, ¬ (x = 78 ∧ (y = 0 ∨ y = 1 ∨ y = 2 ∨ y = 19)) → x ≠ 80 → zgi h4 x y = zgi hc x y := fun x y q q2 => by rw [e4 x y (by omega), a.2.2 x y q2, e1 x y (by omega)]
      have e4h : ∀ x y, ¬ (x = 78 ∧ (y = 0 ∨ y = 1 ∨ y = 2 ∨ y = 19)) → x ≠ 80 → ¬ (x = 46 ∧ y = 2) → ¬ (x = 45 ∧ y < 15) → ¬ (x = 16 ∧ y = 5) → zgi h4 x y = zgi h x y := fun x y q1 q2 q3 q4 q5 => by rw [e4c x y q1 q2]; exact ec x y q3 q4 q5
      have z45 : ∀ y, y < 15 → zgi h4 45 y = zgi h (65 + an) y := fun y hy => by rw [e4c 45 y (by omega) (by omega)]; exact c45 y hy
      have k462 : gz h4 46 2 = 0 := by rw [show gz h4 46 2 = gz hc 46 2 from congrArg Int32.toInt (e4c 46 2 (by omega) (by omega))]; exact c462
      have k463 : gz h4 46 3 = gz h 46 3 := congrArg Int32.toInt (e4h 46 3 (by omega) (by omega) (by omega) (by omega) (by omega))
      have k464 : gz h4 46 4 = gz h 46 4 := congrArg Int32.toInt (e4h 46 4 (by omega) (by omega) (by omega) (by omega) (by omega))
      refine k2 h4 (I.act (t := 0) h0 ?_ ?_ (fun x y q1 q2 q3 q4 q5 q6 q7 q8 => e4h x y (by omega) (by omega) (by omega) (by omega) q8) (fun y q1 q2 => e4h 78 y (by omega) (by omega) (by omega) (by omega) (by omega)) ?_ ?_ ?_ (by decide) ((a6 an (by omega)).mv z45) ?_ ?_ (fun i hi => ?_))
      · rw [hh4]; show h'.1 = h.1; rw [a.1, hh1, hhc]; rfl
      · rw [hh4]; show h'.2.2 = h.2.2; rw [a.2.1, hh1, hhc]; rfl
      · rw [e4c 16 5 (by omega) (by omega), hhc]; rfl
      · rw [hh4]; rfl
      · rw [hh4]; rfl
      · unfold zMV
        rw [k462, k463, k464]
        have := I.m
        unfold zMV at this
        omega
      · unfold zAc
        rw [k462, k463, k464, show gz h4 78 19 = 0 by rw [hh4]; show gz (zpi h' 78 19 (zj 0)) 78 19 = _; exact gz_pi1 (by omega) (by omega), show gz h4 78 20 = gz h 78 20 from congrArg Int32.toInt (e4h 78 20 (by omega) (by omega) (by omega) (by omega) (by omega))]
        refine ⟨rfl, a2, fun j hj i hi => by omega, fun j h3 hj i hi => ?_, fun j hj => (a5 j hj).mv (fun i _ => e4h _ _ (by omega) (by omega) (by omega) (by omega) (by omega)), fun j hj => (a6 j hj).mv (fun i _ => e4h _ _ (by omega) (by omega) (by omega) (by omega) (by omega))⟩
        rw [e4h 83 _ (by omega) (by omega) (by omega) (by omega) (by omega), e4h (65 + j) _ (by omega) (by omega) (by omega) (by omega) (by omega)]
        exact a4 j h3 hj i hi
      · rw [e4 80 i (by omega), n1 i hi, z45 i hi]
    have e83 : zgi h' 83 (15 * an + i) = zgi h (65 + an) i := by rw [a.2.2 83 _ (by omega), e1 83 _ (by omega), ec 83 _ (by omega) (by omega) (by omega)]; exact a4 an (by omega) (by omega) i (by omega)
    rw [zj_cn (by omega), zj_mul, zj_add, show (15 : Int) * (an : Int) + (i : Int) = ((15 * an + i : Nat) : Int) by omega, zj_cn (by omega), e83, zj_add]
    simp (disch := omega) only [zj_le]
    refine ⟨fun c => by omega, fun _ => ⟨zj_in (by omega) (by omega) (by omega), zj_in (by omega) (by omega) (by omega), ?_⟩⟩
    refine ih (by omega) _ (a.tr (zpi_ag h' 80 _ _)) (fun q hq => ?_)
    rw [zgi_pi]
    by_cases e : q = i
    · subst e; rw [if_pos ⟨rfl, rfl⟩]
    · rw [if_neg (by omega)]; exact n1 q (by omega)
end ZSE
