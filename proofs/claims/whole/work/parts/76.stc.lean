section ZSD
variable {X : Nat × (Nat → Int32)} {R : zRt} {h h' h1 h2 : zHp} {d p : Nat}
theorem st_go {a : Int} {up : Prop} [Decidable up] (ha1 : -2147483648 ≤ a) (ha2 : a < 2147483648) (I : zI h d p) (k : ∀ x h1, zsh h1 78 = some (.inl 9) → (∀ R2 : zRt, (∀ h2, zI h2 d p → R2 (some (.int x)) h2) → zCC X M_X9_go [.ref 78, .int (zj a), .int (zb up)] h1 R2) → R (some (.int x)) h1) : zCC X M_X7_go [.ref 16, .int (zj a), .int (zb up)] h R := by
  have hp := I.hp
  refine cx_go I.w I.v I.u I.m ha1 ha2 (fun c0 => k _ _ (by first | exact I.s78 | exact I.s78q (zQh_gh h _ _ _ _) | exact I.s78q (zQh_sk h _ _ _ _)) (fun R2 k2 => ?_)) (fun c0 => k _ _ (by first | exact I.s78 | exact I.s78q (zQh_gh h _ _ _ _) | exact I.s78q (zQh_sk h _ _ _ _)) (fun R2 k2 => ?_))
  · obtain ⟨h1, hh1⟩ : ∃ h1, h1 = zpi (zpi h 16 5 (zj 1)) 78 0 (zj 0) := ⟨_, rfl⟩
    have ee : ∀ x y, ¬ (x = 16 ∧ y = 5) → ¬ (x = 78 ∧ y = 0) → zgi h1 x y = zgi h x y := fun x y q1 q2 => by rw [hh1, zpi_o q2, zpi_o q1]
    have w : zMW (zpi h 16 5 (zj 1)) := (I.oq (zQh_pi h 1)).mw
    have w1 : zMW h1 := by rw [hh1]; exact w
    have rf := k2 _ (I.rfu 1 (by decide))
    rw [← hh1] at rf
    rcases I.o with ⟨-, hz, -⟩ | ⟨o, z⟩
    · have z1 : zgr h1 78 3 = none := by rw [hh1]; exact hz
      refine zCC_of (ls := [.ref 78, .int (zj a), .int (zb up), .retAddr 0]) pf_X9_go rfl (Nat.le_of_ble_eq_true rfl) ?_
      refine vb_X9_go_0 _ _ _ ?_
      simp only [B_X9_go_0, oPI, oPL, oILOAD, oLLOAD, oALOAD, oISTORE, oASTORE, oLSTORE, oIINC, oIADD, oISUB, oIMUL, oIAND, oIOR, oIXOR, oIDIV, oIREM, oISHL, oISHR, oIUSHR, oLADD, oLSUB, oLMUL, oLOR, oLDIV, oLREM, oLCMP, oLSHL, oINEG, oI2L, oL2I, oI2B, oI2C, oDUP, oPOP, oDUP2, oIFEQ, oICEQ, oIFNE, oICNE, oIFLT, oICLT, oIFGE, oICGE, oIFGT, oICGT, oIFLE, oICLE, oIFNULL, oIFNONNULL, oTSW, oLSW, oGETI, oGETL, oGETR, oPUTI, oPUTZ, oPUTL, oPUTR, oIALD, oBALD, oZALD, oLALD, oAALD, oALEN, oIAST, oBAST, oZAST, oLAST, oIRET, oZRET, oLRET, oVRET, oARET, oOBJ, oINI, oPS, oNEW, oNEWAI, oNEWAB, oNEWAZ, oNEWAL, oCOPY, oINV0, oINS0, oINV1, oINS1, oINV2, oINS2, oINV3, oINS3, oINV4, oINS4, oINV5, oINS5, oINV6, oINS6, List.getElem?_cons_zero, List.getElem?_cons_succ, List.set_cons_zero, List.set_cons_succ, znl, zs4, zc1, true_and, and_self, Value.category, Option.toList, List.cons_append, List.nil_append, zvr, mw_s w, mw_s79 w, mw_s80 w, mw_s81 w, mw_s82 w, mw_s83 w, mw_s84 w, mw_s85 w, mw_r5 w, mw_r15 w, mw_r16 w, mw_r17 w, mw_r18 w, mw_r21 w, mw_r22 w, zsh_pi, zgr_pi]
      rw [← hh1]
      refine cm_isPerson0 w1 z1 ?_
      simp only [oPI, oPL, oILOAD, oLLOAD, oALOAD, oISTORE, oASTORE, oLSTORE, oIINC, oIADD, oISUB, oIMUL, oIAND, oIOR, oIXOR, oIDIV, oIREM, oISHL, oISHR, oIUSHR, oLADD, oLSUB, oLMUL, oLOR, oLDIV, oLREM, oLCMP, oLSHL, oINEG, oI2L, oL2I, oI2B, oI2C, oDUP, oPOP, oDUP2, oIFEQ, oICEQ, oIFNE, oICNE, oIFLT, oICLT, oIFGE, oICGE, oIFGT, oICGT, oIFLE, oICLE, oIFNULL, oIFNONNULL, oTSW, oLSW, oGETI, oGETL, oGETR, oPUTI, oPUTZ, oPUTL, oPUTR, oIALD, oBALD, oZALD, oLALD, oAALD, oALEN, oIAST, oBAST, oZAST, oLAST, oIRET, oZRET, oLRET, oVRET, oARET, oOBJ, oINI, oPS, oNEW, oNEWAI, oNEWAB, oNEWAZ, oNEWAL, oCOPY, oINV0, oINS0, oINV1, oINS1, oINV2, oINS2, oINV3, oINS3, oINV4, oINS4, oINV5, oINS5, oINV6, oINS6, List.getElem?_cons_zero, List.getElem?_cons_succ, List.set_cons_zero, List.set_cons_succ, znl, zs4, zc1, true_and, and_self, Value.category, Option.toList, List.cons_append, List.nil_append, zvr, mw_s w1, mw_s79 w1, mw_s80 w1, mw_s81 w1, mw_s82 w1, mw_s83 w1, mw_s84 w1, mw_s85 w1, mw_r5 w1, mw_r15 w1, mw_r16 w1, mw_r17 w1, mw_r18 w1, mw_r21 w1, mw_r22 w1]
      refine ⟨fun c => absurd rfl c, fun _ => ?_⟩
      refine cm_refused w1 ?_
      simp only [oPI, oPL, oILOAD, oLLOAD, oALOAD, oISTORE, oASTORE, oLSTORE, oIINC, oIADD, oISUB, oIMUL, oIAND, oIOR, oIXOR, oIDIV, oIREM, oISHL, oISHR, oIUSHR, oLADD, oLSUB, oLMUL, oLOR, oLDIV, oLREM, oLCMP, oLSHL, oINEG, oI2L, oL2I, oI2B, oI2C, oDUP, oPOP, oDUP2, oIFEQ, oICEQ, oIFNE, oICNE, oIFLT, oICLT, oIFGE, oICGE, oIFGT, oICGT, oIFLE, oICLE, oIFNULL, oIFNONNULL, oTSW, oLSW, oGETI, oGETL, oGETR, oPUTI, oPUTZ, oPUTL, oPUTR, oIALD, oBALD, oZALD, oLALD, oAALD, oALEN, oIAST, oBAST, oZAST, oLAST, oIRET, oZRET, oLRET, oVRET, oARET, oOBJ, oINI, oPS, oNEW, oNEWAI, oNEWAB, oNEWAZ, oNEWAL, oCOPY, oINV0, oINS0, oINV1, oINS1, oINV2, oINS2, oINV3, oINS3, oINV4, oINS4, oINV5, oINS5, oINV6, oINS6, List.getElem?_cons_zero, List.getElem?_cons_succ, List.set_cons_zero, List.set_cons_succ, znl, zs4, zc1, true_and, and_self, Value.category, Option.toList, List.cons_append, List.nil_append, zvr]
      exact rf
    · have o1 : zMp h1 p := o.mv2 (by rw [hh1]; rfl) (by rw [hh1]; rfl) (fun x y hx => ee x y (by omega) (by omega))
      have g13 : gz h1 p 13 = gz h p 13 := congrArg Int32.toInt (ee p 13 (by omega) (by omega))
      refine zCC_of (ls := [.ref 78, .int (zj a), .int (zb up), .retAddr 0]) pf_X9_go rfl (Nat.le_of_ble_eq_true rfl) ?_
      refine vb_X9_go_0 _ _ _ ?_
      simp only [B_X9_go_0, oPI, oPL, oILOAD, oLLOAD, oALOAD, oISTORE, oASTORE, oLSTORE, oIINC, oIADD, oISUB, oIMUL, oIAND, oIOR, oIXOR, oIDIV, oIREM, oISHL, oISHR, oIUSHR, oLADD, oLSUB, oLMUL, oLOR, oLDIV, oLREM, oLCMP, oLSHL, oINEG, oI2L, oL2I, oI2B, oI2C, oDUP, oPOP, oDUP2, oIFEQ, oICEQ, oIFNE, oICNE, oIFLT, oICLT, oIFGE, oICGE, oIFGT, oICGT, oIFLE, oICLE, oIFNULL, oIFNONNULL, oTSW, oLSW, oGETI, oGETL, oGETR, oPUTI, oPUTZ, oPUTL, oPUTR, oIALD, oBALD, oZALD, oLALD, oAALD, oALEN, oIAST, oBAST, oZAST, oLAST, oIRET, oZRET, oLRET, oVRET, oARET, oOBJ, oINI, oPS, oNEW, oNEWAI, oNEWAB, oNEWAZ, oNEWAL, oCOPY, oINV0, oINS0, oINV1, oINS1, oINV2, oINS2, oINV3, oINS3, oINV4, oINS4, oINV5, oINS5, oINV6, oINS6, List.getElem?_cons_zero, List.getElem?_cons_succ, List.set_cons_zero, List.set_cons_succ, znl, zs4, zc1, true_and, and_self, Value.category, Option.toList, List.cons_append, List.nil_append, zvr, mw_s w, mw_s79 w, mw_s80 w, mw_s81 w, mw_s82 w, mw_s83 w, mw_s84 w, mw_s85 w, mw_r5 w, mw_r15 w, mw_r16 w, mw_r17 w, mw_r18 w, mw_r21 w, mw_r22 w, zsh_pi, zgr_pi]
      rw [← hh1]
      refine cm_isPersonP o1 ha1 ha2 ?_
      rw [g13]
      simp only [oPI, oPL, oILOAD, oLLOAD, oALOAD, oISTORE, oASTORE, oLSTORE, oIINC, oIADD, oISUB, oIMUL, oIAND, oIOR, oIXOR, oIDIV, oIREM, oISHL, oISHR, oIUSHR, oLADD, oLSUB, oLMUL, oLOR, oLDIV, oLREM, oLCMP, oLSHL, oINEG, oI2L, oL2I, oI2B, oI2C, oDUP, oPOP, oDUP2, oIFEQ, oICEQ, oIFNE, oICNE, oIFLT, oICLT, oIFGE, oICGE, oIFGT, oICGT, oIFLE, oICLE, oIFNULL, oIFNONNULL, oTSW, oLSW, oGETI, oGETL, oGETR, oPUTI, oPUTZ, oPUTL, oPUTR, oIALD, oBALD, oZALD, oLALD, oAALD, oALEN, oIAST, oBAST, oZAST, oLAST, oIRET, oZRET, oLRET, oVRET, oARET, oOBJ, oINI, oPS, oNEW, oNEWAI, oNEWAB, oNEWAZ, oNEWAL, oCOPY, oINV0, oINS0, oINV1, oINS1, oINV2, oINS2, oINV3, oINS3, oINV4, oINS4, oINV5, oINS5, oINV6, oINS6, List.getElem?_cons_zero, List.getElem?_cons_succ, List.set_cons_zero, List.set_cons_succ, znl, zs4, zc1, true_and, and_self, Value.category, Option.toList, List.cons_append, List.nil_append, zvr, mw_s w1, mw_s79 w1, mw_s80 w1, mw_s81 w1, mw_s82 w1, mw_s83 w1, mw_s84 w1, mw_s85 w1, mw_r5 w1, mw_r15 w1, mw_r16 w1, mw_r17 w1, mw_r18 w1, mw_r21 w1, mw_r22 w1]
      try simp (disch := omega) only [zgi_gz, zj_cn, zj_lt, zj_le, zj_eq, zj_add, zj_sub, zj_mul, zj_neg, zj_lt0, zj_le0, zj_0le, zj_0lt, zj_eq0, zb_0, zb_z, Classical.not_not, Int.zero_add, Int.add_zero, zj_remn, zj_divn]
      refine ⟨fun c => absurd c c0, fun _ => ?_⟩
      refine cm_refused w1 ?_
      simp only [oPI, oPL, oILOAD, oLLOAD, oALOAD, oISTORE, oASTORE, oLSTORE, oIINC, oIADD, oISUB, oIMUL, oIAND, oIOR, oIXOR, oIDIV, oIREM, oISHL, oISHR, oIUSHR, oLADD, oLSUB, oLMUL, oLOR, oLDIV, oLREM, oLCMP, oLSHL, oINEG, oI2L, oL2I, oI2B, oI2C, oDUP, oPOP, oDUP2, oIFEQ, oICEQ, oIFNE, oICNE, oIFLT, oICLT, oIFGE, oICGE, oIFGT, oICGT, oIFLE, oICLE, oIFNULL, oIFNONNULL, oTSW, oLSW, oGETI, oGETL, oGETR, oPUTI, oPUTZ, oPUTL, oPUTR, oIALD, oBALD, oZALD, oLALD, oAALD, oALEN, oIAST, oBAST, oZAST, oLAST, oIRET, oZRET, oLRET, oVRET, oARET, oOBJ, oINI, oPS, oNEW, oNEWAI, oNEWAB, oNEWAZ, oNEWAL, oCOPY, oINV0, oINS0, oINV1, oINS1, oINV2, oINS2, oINV3, oINS3, oINV4, oINS4, oINV5, oINS5, oINV6, oINS6, List.getElem?_cons_zero, List.getElem?_cons_succ, List.set_cons_zero, List.set_cons_succ, znl, zs4, zc1, true_and, and_self, Value.category, Option.toList, List.cons_append, List.nil_append, zvr]
      exact rf
  · have h13 := I.v.2.2.2.2.2.2.1
    have h0 : ¬ gz h p 1 = 0 := fun z => by have := (I.ze z).2.2.2.1; omega
    have o := I.mo h0
    have w := o.mw
    have t := o.ta
    obtain ⟨an, rfl⟩ : ∃ q : Nat, a = (q : Int) := ⟨a.toNat, by omega⟩
    rw [Int.toNat_natCast] at k2 ⊢
    have hv := I.u.2.1 an (by omega)
    obtain ⟨A, N, B, hA, hA2, hN, hN2, hB, hB2, hA3, hB3⟩ := I.A
    have hNt : (gz h 46 3).toNat = N := by omega
    have klo := zka_lo h
    have g6 : gz (zka h) 45 (6 + an) = gz h 45 (6 + an) := klo.gz (by omega) _
    have z10 : zgi (zka h) 45 (10 + an) = zgi h 45 (10 + an) := klo.2.2 45 _ (by omega)
    have est : zst2 (zka h) p = zst2 h p := lo_st2 klo hp
    obtain ⟨nb, hnb⟩ : ∃ nb, nb = znb (gz h 45 (6 + an)) up := ⟨_, rfl⟩
    have hnb2 : 0 ≤ nb ∧ nb < 72 := by rw [hnb]; unfold znb; split <;> omega
    have hcost := zst2_b I.v nb
    rw [g6, est, ← hnb] at k2
    obtain ⟨hc, hhc⟩ : ∃ hc, hc = zpi (zga h p an up) 16 5 (zj 0) := ⟨_, rfl⟩
    have ega : zga h p an up = zpi (zpi (zka h) 45 (6 + an) (zj nb)) 45 (10 + an) (zgi h 45 (10 + an) + zj (zst2 h p nb)) := by unfold zga; rw [g6, z10, est, ← hnb]
    rw [ega] at hhc
    have ec : ∀ x y, x ≠ 46 → x ≠ 48 + N → ¬ (x = 45 ∧ (y = 6 + an ∨ y = 10 + an)) → ¬ (x = 16 ∧ y = 5) → zgi hc x y = zgi h x y := fun x y q1 q2 q3 q4 => by rw [hhc, zpi_o q4, zpi_o (by omega), zpi_o (by omega)]; exact zka_o q1 (by rw [hNt]; exact q2)
    obtain ⟨h1, hh1⟩ : ∃ h1, h1 = zpi hc 78 0 (zj 0) := ⟨_, rfl⟩
    have w0 : zMW hc := by rw [hhc]; exact w
    have t0 : zTa hc := by rw [hhc]; exact t
    have w1 : zMW h1 := by rw [hh1]; exact w0
    have e1 : ∀ x y, x ≠ 46 → x ≠ 48 + N → ¬ (x = 45 ∧ (y = 6 + an ∨ y = 10 + an)) → ¬ (x = 16 ∧ y = 5) → ¬ (x = 78 ∧ y = 0) → zgi h1 x y = zgi h x y := fun x y q1 q2 q3 q4 q5 => by rw [hh1, zpi_o q5]; exact ec x y q1 q2 q3 q4
    have h1a : h1.1 = h.1 := by rw [hh1, hhc]; rfl
    have h1b : h1.2.2 = h.2.2 := by rw [hh1, hhc]; rfl
    have o1 : zMp h1 p := o.mv2 h1a h1b (fun x y hx => e1 x y (by omega) (by omega) (by omega) (by omega) (by omega))
    have g13 : gz h1 p 13 = gz h p 13 := congrArg Int32.toInt (e1 p 13 (by omega) (by omega) (by omega) (by omega) (by omega))
    rw [ega, ← hhc]
    refine zCC_of (ls := [.ref 78, .int (zj an), .int (zb up), .retAddr 0]) pf_X9_go rfl (Nat.le_of_ble_eq_true rfl) ?_
    refine vb_X9_go_0 _ _ _ ?_
    simp only [B_X9_go_0, oPI, oPL, oILOAD, oLLOAD, oALOAD, oISTORE, oASTORE, oLSTORE, oIINC, oIADD, oISUB, oIMUL, oIAND, oIOR, oIXOR, oIDIV, oIREM, oISHL, oISHR, oIUSHR, oLADD, oLSUB, oLMUL, oLOR, oLDIV, oLREM, oLCMP, oLSHL, oINEG, oI2L, oL2I, oI2B, oI2C, oDUP, oPOP, oDUP2, oIFEQ, oICEQ, oIFNE, oICNE, oIFLT, oICLT, oIFGE, oICGE, oIFGT, oICGT, oIFLE, oICLE, oIFNULL, oIFNONNULL, oTSW, oLSW, oGETI, oGETL, oGETR, oPUTI, oPUTZ, oPUTL, oPUTR, oIALD, oBALD, oZALD, oLALD, oAALD, oALEN, oIAST, oBAST, oZAST, oLAST, oIRET, oZRET, oLRET, oVRET, oARET, oOBJ, oINI, oPS, oNEW, oNEWAI, oNEWAB, oNEWAZ, oNEWAL, oCOPY, oINV0, oINS0, oINV1, oINS1, oINV2, oINS2, oINV3, oINS3, oINV4, oINS4, oINV5, oINS5, oINV6, oINS6, List.getElem?_cons_zero, List.getElem?_cons_succ, List.set_cons_zero, List.set_cons_succ, znl, zs4, zc1, true_and, and_self, Value.category, Option.toList, List.cons_append, List.nil_append, zvr, mw_s w0, mw_s79 w0, mw_s80 w0, mw_s81 w0, mw_s82 w0, mw_s83 w0, mw_s84 w0, mw_s85 w0, mw_r5 w0, mw_r15 w0, mw_r16 w0, mw_r17 w0, mw_r18 w0, mw_r21 w0, mw_r22 w0, zsh_pi, zgr_pi]
    rw [← hh1]
    refine cm_isPersonP o1 ha1 ha2 ?_
    rw [g13]
    simp only [oPI, oPL, oILOAD, oLLOAD, oALOAD, oISTORE, oASTORE, oLSTORE, oIINC, oIADD, oISUB, oIMUL, oIAND, oIOR, oIXOR, oIDIV, oIREM, oISHL, oISHR, oIUSHR, oLADD, oLSUB, oLMUL, oLOR, oLDIV, oLREM, oLCMP, oLSHL, oINEG, oI2L, oL2I, oI2B, oI2C, oDUP, oPOP, oDUP2, oIFEQ, oICEQ, oIFNE, oICNE, oIFLT, oICLT, oIFGE, oICGE, oIFGT, oICGT, oIFLE, oICLE, oIFNULL, oIFNONNULL, oTSW, oLSW, oGETI, oGETL, oGETR, oPUTI, oPUTZ, oPUTL, oPUTR, oIALD, oBALD, oZALD, oLALD, oAALD, oALEN, oIAST, oBAST, oZAST, oLAST, oIRET, oZRET, oLRET, oVRET, oARET, oOBJ, oINI, oPS, oNEW, oNEWAI, oNEWAB, oNEWAZ, oNEWAL, oCOPY, oINV0, oINS0, oINV1, oINS1, oINV2, oINS2, oINV3, oINS3, oINV4, oINS4, oINV5, oINS5, oINV6, oINS6, List.getElem?_cons_zero, List.getElem?_cons_succ, List.set_cons_zero, List.set_cons_succ, znl, zs4, zc1, true_and, and_self, Value.category, Option.toList, List.cons_append, List.nil_append, zvr, mw_s w1, mw_s79 w1, mw_s80 w1, mw_s81 w1, mw_s82 w1, mw_s83 w1, mw_s84 w1, mw_s85 w1, mw_r5 w1, mw_r15 w1, mw_r16 w1, mw_r17 w1, mw_r18 w1, mw_r21 w1, mw_r22 w1]
    try simp (disch := omega) only [zgi_gz, zj_cn, zj_lt, zj_le, zj_eq, zj_add, zj_sub, zj_mul, zj_neg, zj_lt0, zj_le0, zj_0le, zj_0lt, zj_eq0, zb_0, zb_z, Classical.not_not, Int.zero_add, Int.add_zero, zj_remn, zj_divn]
    refine ⟨fun _ => ?_, fun c => absurd c0 c⟩
    refine vb_X9_go_19 _ _ _ ?_
    simp only [B_X9_go_19, oPI, oPL, oILOAD, oLLOAD, oALOAD, oISTORE, oASTORE, oLSTORE, oIINC, oIADD, oISUB, oIMUL, oIAND, oIOR, oIXOR, oIDIV, oIREM, oISHL, oISHR, oIUSHR, oLADD, oLSUB, oLMUL, oLOR, oLDIV, oLREM, oLCMP, oLSHL, oINEG, oI2L, oL2I, oI2B, oI2C, oDUP, oPOP, oDUP2, oIFEQ, oICEQ, oIFNE, oICNE, oIFLT, oICLT, oIFGE, oICGE, oIFGT, oICGT, oIFLE, oICLE, oIFNULL, oIFNONNULL, oTSW, oLSW, oGETI, oGETL, oGETR, oPUTI, oPUTZ, oPUTL, oPUTR, oIALD, oBALD, oZALD, oLALD, oAALD, oALEN, oIAST, oBAST, oZAST, oLAST, oIRET, oZRET, oLRET, oVRET, oARET, oOBJ, oINI, oPS, oNEW, oNEWAI, oNEWAB, oNEWAZ, oNEWAL, oCOPY, oINV0, oINS0, oINV1, oINS1, oINV2, oINS2, oINV3, oINS3, oINV4, oINS4, oINV5, oINS5, oINV6, oINS6, List.getElem?_cons_zero, List.getElem?_cons_succ, List.set_cons_zero, List.set_cons_succ, znl, zs4, zc1, true_and, and_self, Value.category, Option.toList, List.cons_append, List.nil_append, zvr, mw_s w1, mw_s79 w1, mw_s80 w1, mw_s81 w1, mw_s82 w1, mw_s83 w1, mw_s84 w1, mw_s85 w1, mw_r5 w1, mw_r15 w1, mw_r16 w1, mw_r17 w1, mw_r18 w1, mw_r21 w1, mw_r22 w1]
    refine cm_remembers (A := A) w1 (by rw [show gz h1 78 19 = gz h 78 19 from congrArg Int32.toInt (e1 78 19 (by omega) (by omega) (by omega) (by omega) (by omega))]; exact hA3) hA2 (fun h2 r1 r2 r3 r4 r5 r6 => ?_)
    have h2a : h2.1 = h.1 := r1.trans h1a
    have h2b : h2.2.2 = h.2.2 := r2.trans h1b
    have w2 := w1.mv r1 r2
    have e2 : ∀ x y, x ≠ 46 → x ≠ 48 + N → ¬ (x = 45 ∧ (y = 6 + an ∨ y = 10 + an)) → ¬ (x = 16 ∧ y = 5) → ¬ (x = 78 ∧ (y = 0 ∨ y = 19)) → x ≠ 82 → zgi h2 x y = zgi h x y := fun x y q1 q2 q3 q4 q5 q6 => by rw [r3 x y q6 (by omega)]; exact e1 x y q1 q2 q3 q4 (by omega)
    have v80 : ∀ b, b < 15 → zgi h2 80 b = zgi h 45 b := fun b hb => by rw [e2 80 b (by omega) (by omega) (by omega) (by omega) (by omega) (by omega)]; exact o.vn b hb
    have c6 : zgi h2 45 (6 + an) = zj nb := by rw [r3 45 _ (by omega) (by omega), hh1, zpi_o (by omega), hhc, zpi_o (by omega), zpi_o (by omega), zgi_pi, if_pos ⟨rfl, rfl⟩]
    have c10 : zgi h2 45 (10 + an) = zgi h 45 (10 + an) + zj (zst2 h p nb) := by rw [r3 45 _ (by omega) (by omega), hh1, zpi_o (by omega), hhc, zpi_o (by omega), zgi_pi, if_pos ⟨rfl, rfl⟩]
    simp only [oPI, oPL, oILOAD, oLLOAD, oALOAD, oISTORE, oASTORE, oLSTORE, oIINC, oIADD, oISUB, oIMUL, oIAND, oIOR, oIXOR, oIDIV, oIREM, oISHL, oISHR, oIUSHR, oLADD, oLSUB, oLMUL, oLOR, oLDIV, oLREM, oLCMP, oLSHL, oINEG, oI2L, oL2I, oI2B, oI2C, oDUP, oPOP, oDUP2, oIFEQ, oICEQ, oIFNE, oICNE, oIFLT, oICLT, oIFGE, oICGE, oIFGT, oICGT, oIFLE, oICLE, oIFNULL, oIFNONNULL, oTSW, oLSW, oGETI, oGETL, oGETR, oPUTI, oPUTZ, oPUTL, oPUTR, oIALD, oBALD, oZALD, oLALD, oAALD, oALEN, oIAST, oBAST, oZAST, oLAST, oIRET, oZRET, oLRET, oVRET, oARET, oOBJ, oINI, oPS, oNEW, oNEWAI, oNEWAB, oNEWAZ, oNEWAL, oCOPY, oINV0, oINS0, oINV1, oINS1, oINV2, oINS2, oINV3, oINS3, oINV4, oINS4, oINV5, oINS5, oINV6, oINS6, List.getElem?_cons_zero, List.getElem?_cons_succ, List.set_cons_zero, List.set_cons_succ, znl, zs4, zc1, true_and, and_self, Value.category, Option.toList, List.cons_append, List.nil_append, zvr, mw_s w2, mw_s79 w2, mw_s80 w2, mw_s81 w2, mw_s82 w2, mw_s83 w2, mw_s84 w2, mw_s85 w2, mw_r5 w2, mw_r15 w2, mw_r16 w2, mw_r17 w2, mw_r18 w2, mw_r21 w2, mw_r22 w2, zsh_pi, zgr_pi]
    rw [zj_add, show (6 : Int) + (an : Int) = ((6 + an : Nat) : Int) by omega, zj_cn (by omega), v80 (6 + an) (by omega), zgi_gz h 45 (6 + an)]
    refine ⟨zj_in (by omega) (by omega) (by omega), ?_⟩
    refine cm_step hv.1 hv.2 ?_
    rw [← hnb]
    simp only [oPI, oPL, oILOAD, oLLOAD, oALOAD, oISTORE, oASTORE, oLSTORE, oIINC, oIADD, oISUB, oIMUL, oIAND, oIOR, oIXOR, oIDIV, oIREM, oISHL, oISHR, oIUSHR, oLADD, oLSUB, oLMUL, oLOR, oLDIV, oLREM, oLCMP, oLSHL, oINEG, oI2L, oL2I, oI2B, oI2C, oDUP, oPOP, oDUP2, oIFEQ, oICEQ, oIFNE, oICNE, oIFLT, oICLT, oIFGE, oICGE, oIFGT, oICGT, oIFLE, oICLE, oIFNULL, oIFNONNULL, oTSW, oLSW, oGETI, oGETL, oGETR, oPUTI, oPUTZ, oPUTL, oPUTR, oIALD, oBALD, oZALD, oLALD, oAALD, oALEN, oIAST, oBAST, oZAST, oLAST, oIRET, oZRET, oLRET, oVRET, oARET, oOBJ, oINI, oPS, oNEW, oNEWAI, oNEWAB, oNEWAZ, oNEWAL, oCOPY, oINV0, oINS0, oINV1, oINS1, oINV2, oINS2, oINV3, oINS3, oINV4, oINS4, oINV5, oINS5, oINV6, oINS6, List.getElem?_cons_zero, List.getElem?_cons_succ, List.set_cons_zero, List.set_cons_succ, znl, zs4, zc1, true_and, and_self, Value.category, Option.toList, List.cons_append, List.nil_append, zvr, mw_s w2, mw_s79 w2, mw_s80 w2, mw_s81 w2, mw_s82 w2, mw_s83 w2, mw_s84 w2, mw_s85 w2, mw_r5 w2, mw_r15 w2, mw_r16 w2, mw_r17 w2, mw_r18 w2, mw_r21 w2, mw_r22 w2, zsh_pi, zgr_pi]
    rw [zj_cn (by omega)]
    refine ⟨zj_in (by omega) (by omega) (by omega), ?_⟩
    obtain ⟨h3, hh3⟩ : ∃ h3, h3 = zpi h2 80 (6 + an) (zj nb) := ⟨_, rfl⟩
    rw [← hh3]
    have w3 : zMW h3 := by rw [hh3]; exact w2
    have h3a : h3.1 = h.1 := by rw [hh3]; exact h2a
    have h3b : h3.2.2 = h.2.2 := by rw [hh3]; exact h2b
    have e3 : ∀ x y, x ≠ 46 → x ≠ 48 + N → ¬ (x = 45 ∧ (y = 6 + an ∨ y = 10 + an)) → ¬ (x = 16 ∧ y = 5) → ¬ (x = 78 ∧ (y = 0 ∨ y = 19)) → x ≠ 82 → ¬ (x = 80 ∧ y = 6 + an) → zgi h3 x y = zgi h x y := fun x y q1 q2 q3 q4 q5 q6 q7 => by rw [hh3, zpi_o q7]; exact e2 x y q1 q2 q3 q4 q5 q6
    have z6 : zgi h3 80 (6 + an) = zj nb := by rw [hh3, zgi_pi, if_pos ⟨rfl, rfl⟩]
    have e45 : ∀ y, zgi h3 45 y = zgi h2 45 y := fun y => by rw [hh3, zpi_o (by omega)]
    have o3 : zMp h3 p := o.mv2 h3a h3b (fun x y hx => e3 x y (by omega) (by omega) (by omega) (by omega) (by omega) (by omega) (by omega))
    have g45 : ∀ y, y ≠ 6 + an → y ≠ 10 + an → gz h3 45 y = gz h 45 y := fun y q1 q2 => congrArg Int32.toInt (e3 45 y (by omega) (by omega) (by omega) (by omega) (by omega) (by omega) (by omega))
    have g456 : gz h3 45 (6 + an) = nb := by show (zgi h3 45 (6 + an)).toInt = _; rw [e45, c6, zj_toInt (by omega) (by omega)]
    have u3 : zNV h3 := by
      refine ⟨fun b hb => ?_, fun i hi => ?_, ?_⟩
      · rw [g45 b (by omega) (by omega)]; exact I.u.1 b hb
      · by_cases ci : i = an
        · subst ci; rw [g456]; exact hnb2
        · rw [g45 (6 + i) (by omega) (by omega)]; exact I.u.2.1 i hi
      · rw [g45 14 (by omega) (by omega)]; exact I.u.2.2
    have ev : ∀ q, zst2 h3 p q = zst2 h p q := fun q => zst2_c I.v hp (fun x y hx => e3 x y (by omega) (by omega) (by omega) (by omega) (by omega) (by omega) (by omega)) (fun b hb => g45 b (by omega) (by omega)) q
    try simp only [oPI, oPL, oILOAD, oLLOAD, oALOAD, oISTORE, oASTORE, oLSTORE, oIINC, oIADD, oISUB, oIMUL, oIAND, oIOR, oIXOR, oIDIV, oIREM, oISHL, oISHR, oIUSHR, oLADD, oLSUB, oLMUL, oLOR, oLDIV, oLREM, oLCMP, oLSHL, oINEG, oI2L, oL2I, oI2B, oI2C, oDUP, oPOP, oDUP2, oIFEQ, oICEQ, oIFNE, oICNE, oIFLT, oICLT, oIFGE, oICGE, oIFGT, oICGT, oIFLE, oICLE, oIFNULL, oIFNONNULL, oTSW, oLSW, oGETI, oGETL, oGETR, oPUTI, oPUTZ, oPUTL, oPUTR, oIALD, oBALD, oZALD, oLALD, oAALD, oALEN, oIAST, oBAST, oZAST, oLAST, oIRET, oZRET, oLRET, oVRET, oARET, oOBJ, oINI, oPS, oNEW, oNEWAI, oNEWAB, oNEWAZ, oNEWAL, oCOPY, oINV0, oINS0, oINV1, oINS1, oINV2, oINS2, oINV3, oINS3, oINV4, oINS4, oINV5, oINS5, oINV6, oINS6, List.getElem?_cons_zero, List.getElem?_cons_succ, List.set_cons_zero, List.set_cons_succ, znl, zs4, zc1, true_and, and_self, Value.category, Option.toList, List.cons_append, List.nil_append, zvr, mw_s w3, mw_s79 w3, mw_s80 w3, mw_s81 w3, mw_s82 w3, mw_s83 w3, mw_s84 w3, mw_s85 w3, mw_r5 w3, mw_r15 w3, mw_r16 w3, mw_r17 w3, mw_r18 w3, mw_r21 w3, mw_r22 w3, zsh_pi, zgr_pi]
    rw [z6]
    refine ⟨zj_in (by omega) (by omega) (by omega), ?_⟩
    refine cm_costOfP o3 (fun i hi => ?_) u3 hnb2.1 hnb2.2 ?_
    · refine congrArg Int32.toInt ?_
      rw [e3 80 i (by omega) (by omega) (by omega) (by omega) (by omega) (by omega) (by omega), e3 45 i (by omega) (by omega) (by omega) (by omega) (by omega) (by omega) (by omega)]
      exact o.vn i (by omega)
    rw [ev nb]
    have z10' : zgi h3 80 (10 + an) = zgi h 45 (10 + an) := by rw [hh3, zpi_o (by omega)]; exact v80 (10 + an) (by omega)
    simp only [oPI, oPL, oILOAD, oLLOAD, oALOAD, oISTORE, oASTORE, oLSTORE, oIINC, oIADD, oISUB, oIMUL, oIAND, oIOR, oIXOR, oIDIV, oIREM, oISHL, oISHR, oIUSHR, oLADD, oLSUB, oLMUL, oLOR, oLDIV, oLREM, oLCMP, oLSHL, oINEG, oI2L, oL2I, oI2B, oI2C, oDUP, oPOP, oDUP2, oIFEQ, oICEQ, oIFNE, oICNE, oIFLT, oICLT, oIFGE, oICGE, oIFGT, oICGT, oIFLE, oICLE, oIFNULL, oIFNONNULL, oTSW, oLSW, oGETI, oGETL, oGETR, oPUTI, oPUTZ, oPUTL, oPUTR, oIALD, oBALD, oZALD, oLALD, oAALD, oALEN, oIAST, oBAST, oZAST, oLAST, oIRET, oZRET, oLRET, oVRET, oARET, oOBJ, oINI, oPS, oNEW, oNEWAI, oNEWAB, oNEWAZ, oNEWAL, oCOPY, oINV0, oINS0, oINV1, oINS1, oINV2, oINS2, oINV3, oINS3, oINV4, oINS4, oINV5, oINS5, oINV6, oINS6, List.getElem?_cons_zero, List.getElem?_cons_succ, List.set_cons_zero, List.set_cons_succ, znl, zs4, zc1, true_and, and_self, Value.category, Option.toList, List.cons_append, List.nil_append, zvr, mw_s w3, mw_s79 w3, mw_s80 w3, mw_s81 w3, mw_s82 w3, mw_s83 w3, mw_s84 w3, mw_s85 w3, mw_r5 w3, mw_r15 w3, mw_r16 w3, mw_r17 w3, mw_r18 w3, mw_r21 w3, mw_r22 w3, zsh_pi, zgr_pi]
    rw [zj_add, show (10 : Int) + (an : Int) = ((10 + an : Nat) : Int) by omega, zj_cn (by omega), z10']
    refine ⟨zj_in (by omega) (by omega) (by omega), zj_in (by omega) (by omega) (by omega), ?_⟩
    have w4 : zMW (zpi h3 80 (10 + an) (zgi h 45 (10 + an) + zj (zst2 h p nb))) := w3
    refine cm_good w4 ?_
    simp only [oPI, oPL, oILOAD, oLLOAD, oALOAD, oISTORE, oASTORE, oLSTORE, oIINC, oIADD, oISUB, oIMUL, oIAND, oIOR, oIXOR, oIDIV, oIREM, oISHL, oISHR, oIUSHR, oLADD, oLSUB, oLMUL, oLOR, oLDIV, oLREM, oLCMP, oLSHL, oINEG, oI2L, oL2I, oI2B, oI2C, oDUP, oPOP, oDUP2, oIFEQ, oICEQ, oIFNE, oICNE, oIFLT, oICLT, oIFGE, oICGE, oIFGT, oICGT, oIFLE, oICLE, oIFNULL, oIFNONNULL, oTSW, oLSW, oGETI, oGETL, oGETR, oPUTI, oPUTZ, oPUTL, oPUTR, oIALD, oBALD, oZALD, oLALD, oAALD, oALEN, oIAST, oBAST, oZAST, oLAST, oIRET, oZRET, oLRET, oVRET, oARET, oOBJ, oINI, oPS, oNEW, oNEWAI, oNEWAB, oNEWAZ, oNEWAL, oCOPY, oINV0, oINS0, oINV1, oINS1, oINV2, oINS2, oINV3, oINS3, oINV4, oINS4, oINV5, oINS5, oINV6, oINS6, List.getElem?_cons_zero, List.getElem?_cons_succ, List.set_cons_zero, List.set_cons_succ, znl, zs4, zc1, true_and, and_self, Value.category, Option.toList, List.cons_append, List.nil_append, zvr]
    obtain ⟨h4, hh4⟩ : ∃ h4, h4 = zrf (zpi h3 80 (10 + an) (zgi h 45 (10 + an) + zj (zst2 h p nb))) 0 := ⟨_, rfl⟩
    rw [← hh4]
    have e4 : ∀ x y, ¬ (x = 78 ∧ (y = 1 ∨ y = 2)) → ¬ (x = 80 ∧ y = 10 + an) → zgi h4 x y = zgi h3 x y := fun x y q q2 => by rw [hh4]; unfold zrf; rw [zpi_o (by omega), zpi_o (by omega), zpi_o q2]
    have e4h : ∀ x y, x ≠ 46 → x ≠ 48 + N → ¬ (x = 45 ∧ (y = 6 + an ∨ y = 10 + an)) → ¬ (x = 16 ∧ y = 5) → ¬ (x = 78 ∧ (y = 0 ∨ y = 1 ∨ y = 2 ∨ y = 19)) → x ≠ 82 → ¬ (x = 80 ∧ (y = 6 + an ∨ y = 10 + an)) → zgi h4 x y = zgi h x y := fun x y q1 q2 q3 q4 q5 q6 q7 => by rw [e4 x y (by omega) (by omega)]; exact e3 x y q1 q2 q3 q4 (by omega) q6 (by omega)
    have e4c : ∀ x y, x ≠ 82 → x ≠ 78 → x ≠ 80 → zgi h4 x y = zgi hc x y := fun x y q1 q2 q3 => by rw [e4 x y (by omega) (by omega), hh3, zpi_o (by omega), r3 x y q1 (by omega), hh1, zpi_o (by omega)]
    refine k2 h4 (I.rem h0 hA hA2 hN hN2 (by rw [hh4]; exact h3a) (by rw [hh4]; exact h3b) (fun x y q1 q2 q3 q4 q5 q6 q7 q8 => e4h x y q2 (by omega) (by omega) q8 (by omega) (by omega) (by omega)) (fun x y hx => ?_) (fun y q1 q2 => e4h 78 y (by omega) (by omega) (by omega) (by omega) (by omega) (by omega) (by omega)) ?_ ?_ ?_ ?_ (congrArg Int32.toInt (e4h 78 20 (by omega) (by omega) (by omega) (by omega) (by omega) (by omega) (by omega))) ?_ (fun i hi => ?_) (fun i hi => ?_) (fun i hi => ?_))
    · rw [e4c x y (by omega) (by omega) (by omega), hhc, zpi_o (by omega), zpi_o (by omega), zpi_o (by omega)]
    · rw [e4c 16 5 (by omega) (by omega) (by omega), hhc]; rfl
    · rw [hh4]; rfl
    · rw [hh4]; rfl
    · rw [show gz h4 78 19 = gz h2 78 19 from congrArg Int32.toInt (by rw [e4 78 19 (by omega) (by omega), hh3, zpi_o (by omega)])]; exact r4
    · have q : ∀ y, gz h4 45 y = gz h3 45 y := fun y => congrArg Int32.toInt (e4 45 y (by omega) (by omega))
      refine ⟨fun b hb => ?_, fun i hi => ?_, ?_⟩
      · rw [q]; exact u3.1 b hb
      · rw [q]; exact u3.2.1 i hi
      · rw [q]; exact u3.2.2
    · rw [e4 82 _ (by omega) (by omega), hh3, zpi_o (by omega), r5 i hi, e1 80 i (by omega) (by omega) (by omega) (by omega) (by omega)]; exact o.vn i hi
    · rw [e4 82 _ (by omega) (by omega), hh3, zpi_o (by omega), r6 i hi, e1 82 _ (by omega) (by omega) (by omega) (by omega) (by omega)]
    · by_cases c6' : i = 6 + an
      · subst c6'
        rw [e4 80 _ (by omega) (by omega), e4 45 _ (by omega) (by omega), z6, e45, c6]
      · by_cases c10' : i = 10 + an
        · subst c10'
          rw [e4 45 _ (by omega) (by omega), e45, c10, hh4]
          unfold zrf
          rw [zpi_o (by omega), zpi_o (by omega), zgi_pi, if_pos ⟨rfl, rfl⟩]
        · rw [e4h 80 i (by omega) (by omega) (by omega) (by omega) (by omega) (by omega) (by omega), e4h 45 i (by omega) (by omega) (by omega) (by omega) (by omega) (by omega) (by omega)]
          exact o.vn i hi
end ZSD
