section ZSB
variable {X : Nat × (Nat → Int32)} {R : zRt} {h h' h1 h2 : zHp} {d p : Nat}
theorem zT_c (v : zPV h p) (hp : p = 20 ∨ p = 33) (e : ∀ x y, (20 ≤ x ∧ x ≤ 44) → zgi h' x y = zgi h x y) (e45 : ∀ b, b < 6 → gz h' 45 b = gz h 45 b) (a c cell : Int) : zT h' p a c cell = zT h p a c cell := by
  have hbt := v.1
  have g : ∀ x y, (20 ≤ x ∧ x ≤ 44) → gz h' x y = gz h x y := fun x y hx => congrArg Int32.toInt (e x y hx)
  have en : zn h' p = zn h p := by unfold zn; rw [g p 1 (by omega)]
  have hn6 : zn h p ≤ 6 := by unfold zn; omega
  unfold zT
  rw [en]
  refine congrArg Prod.fst (ztp_c _ (fun b hb => ⟨g (p + 2) b (by omega), ?_⟩))
  unfold zcl
  rw [g (p + 2) b (by omega), e45 b (by omega)]
theorem zst2_c (v : zPV h p) (hp : p = 20 ∨ p = 33) (e : ∀ x y, (20 ≤ x ∧ x ≤ 44) → zgi h' x y = zgi h x y) (e45 : ∀ b, b < 6 → gz h' 45 b = gz h 45 b) (q : Int) : zst2 h' p q = zst2 h p q := by
  have g : ∀ x y, (20 ≤ x ∧ x ≤ 44) → gz h' x y = gz h x y := fun x y hx => congrArg Int32.toInt (e x y hx)
  have eS : zS h' p = zS h p := by funext b; exact g (p + 2) b (by omega)
  unfold zst2
  rw [zT_c v hp e e45, eS]
theorem zhol_c (hp : p = 20 ∨ p = 33) (e : ∀ x y, (20 ≤ x ∧ x ≤ 44) → zgi h' x y = zgi h x y) (q : Int) : zhol h' p q = zhol h p q := by
  have g : ∀ x y, (20 ≤ x ∧ x ≤ 44) → gz h' x y = gz h x y := fun x y hx => congrArg Int32.toInt (e x y hx)
  unfold zhol
  rw [g p 11 (by omega)]
  have g9 : ∀ y, gz h' (p + 9) y = gz h (p + 9) y := fun y => g (p + 9) y (by omega)
  simp only [g9]
theorem zPV_c {q : Nat} (hq : q = 20 ∨ q = 33) (e : ∀ x y, (20 ≤ x ∧ x ≤ 44) → zgi h' x y = zgi h x y) (v : zPV h q) : zPV h' q := by
  have g : ∀ x y, (20 ≤ x ∧ x ≤ 44) → gz h' x y = gz h x y := fun x y hx => congrArg Int32.toInt (e x y hx)
  unfold zPV at v ⊢
  rw [g q _ (by omega), g q _ (by omega), g q _ (by omega), g q _ (by omega), g q _ (by omega)]
  refine ⟨v.1, fun b hb => ?_, v.2.2.1, fun b hb => ?_, v.2.2.2.2.1, fun b hb => ?_, v.2.2.2.2.2.2.1, fun b hb => ?_, v.2.2.2.2.2.2.2.2⟩
  · rw [g (q + 2) _ (by omega), g (q + 4) _ (by omega), g (q + 5) _ (by omega), g (q + 6) _ (by omega)]
    exact v.2.1 b hb
  · rw [g (q + 7) _ (by omega)]
    exact v.2.2.2.1 b hb
  · rw [g (q + 9) _ (by omega)]
    exact v.2.2.2.2.2.1 b hb
  · rw [g (q + 11) _ (by omega)]
    exact v.2.2.2.2.2.2.2.1 b hb
theorem zMo.mv2 (o : zMo h p) (e1 : h'.1 = h.1) (e2 : h'.2.2 = h.2.2) (e : ∀ x y, (20 ≤ x ∧ x ≤ 44) ∨ (87 ≤ x ∧ x ≤ 100) → zgi h' x y = zgi h x y) : zMp h' p := ⟨o.mw.mv e1 e2, o.ta.mv e1 e2, zTR_mv o.tr o.pp e2 e, zPV_c o.pp (fun x y hx => e x y (Or.inl hx)) o.pv, o.pp⟩
theorem zI.rfu (I : zI h d p) (t : Int) (ht : ¬ zj t = zj 4) : zI (zrf (zpi (zpi h 16 5 (zj t)) 78 0 (zj 0)) t) d p := I.q (zQh_pi h t) (zJd_0 _ t) ht
theorem st_turn {a : Int} (ha1 : -2147483648 ≤ a) (ha2 : a < 2147483648) (I : zI h d p) (k : ∀ x h1, zsh h1 78 = some (.inl 9) → (∀ R2 : zRt, (∀ h2, zI h2 d p → R2 (some (.int x)) h2) → zCC X M_X9_turn [.ref 78, .int (zj a)] h1 R2) → R (some (.int x)) h1) : zCC X M_X7_turn [.ref 16, .int (zj a)] h R := by
  have hp := I.hp
  refine cx_turn I.w I.v I.u I.m ha1 ha2 (fun c0 => k _ _ (by first | exact I.s78 | exact I.s78q (zQh_gh h _ _ _ _) | exact I.s78q (zQh_sk h _ _ _ _)) (fun R2 k2 => ?_)) (fun c0 c1 => k _ _ (by first | exact I.s78 | exact I.s78q (zQh_gh h _ _ _ _) | exact I.s78q (zQh_sk h _ _ _ _)) (fun R2 k2 => ?_)) (fun c0 c1 c2 => k _ _ (by first | exact I.s78 | exact I.s78q (zQh_gh h _ _ _ _) | exact I.s78q (zQh_sk h _ _ _ _)) (fun R2 k2 => ?_)) (fun c0 c1 c2 => k _ _ (by first | exact I.s78 | exact I.s78q (zQh_gh h _ _ _ _) | exact I.s78q (zQh_sk h _ _ _ _)) (fun R2 k2 => ?_))
  · rcases I.oq (zQh_pi h 1) with ⟨w, hz, -⟩ | ⟨o, z⟩
    · obtain ⟨h1, hh1⟩ : ∃ h1, h1 = zpi (zpi h 16 5 (zj 1)) 78 0 (zj 0) := ⟨_, rfl⟩
      have w1 : zMW h1 := by rw [hh1]; exact w
      have rf := k2 _ (I.rfu 1 (by decide))
      rw [← hh1] at rf
      refine zCC_of (ls := [.ref 78, .int (zj a)]) pf_X9_turn rfl (Nat.le_of_ble_eq_true rfl) ?_
      refine vb_X9_turn_0 _ _ _ ?_
      simp only [B_X9_turn_0, oPI, oPL, oILOAD, oLLOAD, oALOAD, oISTORE, oASTORE, oLSTORE, oIINC, oIADD, oISUB, oIMUL, oIAND, oIOR, oIXOR, oIDIV, oIREM, oISHL, oISHR, oIUSHR, oLADD, oLSUB, oLMUL, oLOR, oLDIV, oLREM, oLCMP, oLSHL, oINEG, oI2L, oL2I, oI2B, oI2C, oDUP, oPOP, oDUP2, oIFEQ, oICEQ, oIFNE, oICNE, oIFLT, oICLT, oIFGE, oICGE, oIFGT, oICGT, oIFLE, oICLE, oIFNULL, oIFNONNULL, oTSW, oLSW, oGETI, oGETL, oGETR, oPUTI, oPUTZ, oPUTL, oPUTR, oIALD, oBALD, oZALD, oLALD, oAALD, oALEN, oIAST, oBAST, oZAST, oLAST, oIRET, oZRET, oLRET, oVRET, oARET, oOBJ, oINI, oPS, oNEW, oNEWAI, oNEWAB, oNEWAZ, oNEWAL, oCOPY, oINV0, oINS0, oINV1, oINS1, oINV2, oINS2, oINV3, oINS3, oINV4, oINS4, oINV5, oINS5, oINV6, oINS6, List.getElem?_cons_zero, List.getElem?_cons_succ, List.set_cons_zero, List.set_cons_succ, znl, zs4, zc1, true_and, and_self, Value.category, Option.toList, List.cons_append, List.nil_append, zvr, mw_s w, mw_s79 w, mw_s80 w, mw_s81 w, mw_s82 w, mw_s83 w, mw_s84 w, mw_s85 w, mw_r5 w, mw_r15 w, mw_r16 w, mw_r17 w, mw_r18 w, mw_r21 w, mw_r22 w, zsh_pi, zgr_pi, hz]
      rw [← hh1]
      refine cm_refused w1 ?_
      simp only [oPI, oPL, oILOAD, oLLOAD, oALOAD, oISTORE, oASTORE, oLSTORE, oIINC, oIADD, oISUB, oIMUL, oIAND, oIOR, oIXOR, oIDIV, oIREM, oISHL, oISHR, oIUSHR, oLADD, oLSUB, oLMUL, oLOR, oLDIV, oLREM, oLCMP, oLSHL, oINEG, oI2L, oL2I, oI2B, oI2C, oDUP, oPOP, oDUP2, oIFEQ, oICEQ, oIFNE, oICNE, oIFLT, oICLT, oIFGE, oICGE, oIFGT, oICGT, oIFLE, oICLE, oIFNULL, oIFNONNULL, oTSW, oLSW, oGETI, oGETL, oGETR, oPUTI, oPUTZ, oPUTL, oPUTR, oIALD, oBALD, oZALD, oLALD, oAALD, oALEN, oIAST, oBAST, oZAST, oLAST, oIRET, oZRET, oLRET, oVRET, oARET, oOBJ, oINI, oPS, oNEW, oNEWAI, oNEWAB, oNEWAZ, oNEWAL, oCOPY, oINV0, oINS0, oINV1, oINS1, oINV2, oINS2, oINV3, oINS3, oINV4, oINS4, oINV5, oINS5, oINV6, oINS6, List.getElem?_cons_zero, List.getElem?_cons_succ, List.set_cons_zero, List.set_cons_succ, znl, zs4, zc1, true_and, and_self, Value.category, Option.toList, List.cons_append, List.nil_append, zvr]
      exact rf
    · exact absurd (by rw [show gz (zpi h 16 5 (zj 1)) p 1 = gz h p 1 from (zQh_pi h 1).lq.gz (by omega) 1]; exact c0) z
  all_goals have o := I.mo c0
  · have w := o.mw
    have t := o.ta
    obtain ⟨h1, hh1⟩ : ∃ h1, h1 = zpi (zpi h 16 5 (zj 2)) 78 0 (zj 0) := ⟨_, rfl⟩
    have w1 : zMW h1 := by rw [hh1]; exact w
    have rf := k2 _ (I.rfu 2 (by decide))
    rw [← hh1] at rf
    have fin : zV X M_X9_turn (zQm M_X9_turn R2) 0 0 33 [.ref 78, .int (zj a)] [] h1 := by
      refine vb_X9_turn_33 _ _ _ ?_
      simp only [B_X9_turn_33, oPI, oPL, oILOAD, oLLOAD, oALOAD, oISTORE, oASTORE, oLSTORE, oIINC, oIADD, oISUB, oIMUL, oIAND, oIOR, oIXOR, oIDIV, oIREM, oISHL, oISHR, oIUSHR, oLADD, oLSUB, oLMUL, oLOR, oLDIV, oLREM, oLCMP, oLSHL, oINEG, oI2L, oL2I, oI2B, oI2C, oDUP, oPOP, oDUP2, oIFEQ, oICEQ, oIFNE, oICNE, oIFLT, oICLT, oIFGE, oICGE, oIFGT, oICGT, oIFLE, oICLE, oIFNULL, oIFNONNULL, oTSW, oLSW, oGETI, oGETL, oGETR, oPUTI, oPUTZ, oPUTL, oPUTR, oIALD, oBALD, oZALD, oLALD, oAALD, oALEN, oIAST, oBAST, oZAST, oLAST, oIRET, oZRET, oLRET, oVRET, oARET, oOBJ, oINI, oPS, oNEW, oNEWAI, oNEWAB, oNEWAZ, oNEWAL, oCOPY, oINV0, oINS0, oINV1, oINS1, oINV2, oINS2, oINV3, oINS3, oINV4, oINS4, oINV5, oINS5, oINV6, oINS6, List.getElem?_cons_zero, List.getElem?_cons_succ, List.set_cons_zero, List.set_cons_succ, znl, zs4, zc1, true_and, and_self, Value.category, Option.toList, List.cons_append, List.nil_append, zvr, mw_s w1, mw_s79 w1, mw_s80 w1, mw_s81 w1, mw_s82 w1, mw_s83 w1, mw_s84 w1, mw_s85 w1, mw_r5 w1, mw_r15 w1, mw_r16 w1, mw_r17 w1, mw_r18 w1, mw_r21 w1, mw_r22 w1]
      refine cm_refused w1 ?_
      simp only [oPI, oPL, oILOAD, oLLOAD, oALOAD, oISTORE, oASTORE, oLSTORE, oIINC, oIADD, oISUB, oIMUL, oIAND, oIOR, oIXOR, oIDIV, oIREM, oISHL, oISHR, oIUSHR, oLADD, oLSUB, oLMUL, oLOR, oLDIV, oLREM, oLCMP, oLSHL, oINEG, oI2L, oL2I, oI2B, oI2C, oDUP, oPOP, oDUP2, oIFEQ, oICEQ, oIFNE, oICNE, oIFLT, oICLT, oIFGE, oICGE, oIFGT, oICGT, oIFLE, oICLE, oIFNULL, oIFNONNULL, oTSW, oLSW, oGETI, oGETL, oGETR, oPUTI, oPUTZ, oPUTL, oPUTR, oIALD, oBALD, oZALD, oLALD, oAALD, oALEN, oIAST, oBAST, oZAST, oLAST, oIRET, oZRET, oLRET, oVRET, oARET, oOBJ, oINI, oPS, oNEW, oNEWAI, oNEWAB, oNEWAZ, oNEWAL, oCOPY, oINV0, oINS0, oINV1, oINS1, oINV2, oINS2, oINV3, oINS3, oINV4, oINS4, oINV5, oINS5, oINV6, oINS6, List.getElem?_cons_zero, List.getElem?_cons_succ, List.set_cons_zero, List.set_cons_succ, znl, zs4, zc1, true_and, and_self, Value.category, Option.toList, List.cons_append, List.nil_append, zvr]
      exact rf
    refine zCC_of (ls := [.ref 78, .int (zj a)]) pf_X9_turn rfl (Nat.le_of_ble_eq_true rfl) ?_
    refine vb_X9_turn_0 _ _ _ ?_
    simp only [B_X9_turn_0, oPI, oPL, oILOAD, oLLOAD, oALOAD, oISTORE, oASTORE, oLSTORE, oIINC, oIADD, oISUB, oIMUL, oIAND, oIOR, oIXOR, oIDIV, oIREM, oISHL, oISHR, oIUSHR, oLADD, oLSUB, oLMUL, oLOR, oLDIV, oLREM, oLCMP, oLSHL, oINEG, oI2L, oL2I, oI2B, oI2C, oDUP, oPOP, oDUP2, oIFEQ, oICEQ, oIFNE, oICNE, oIFLT, oICLT, oIFGE, oICGE, oIFGT, oICGT, oIFLE, oICLE, oIFNULL, oIFNONNULL, oTSW, oLSW, oGETI, oGETL, oGETR, oPUTI, oPUTZ, oPUTL, oPUTR, oIALD, oBALD, oZALD, oLALD, oAALD, oALEN, oIAST, oBAST, oZAST, oLAST, oIRET, oZRET, oLRET, oVRET, oARET, oOBJ, oINI, oPS, oNEW, oNEWAI, oNEWAB, oNEWAZ, oNEWAL, oCOPY, oINV0, oINS0, oINV1, oINS1, oINV2, oINS2, oINV3, oINS3, oINV4, oINS4, oINV5, oINS5, oINV6, oINS6, List.getElem?_cons_zero, List.getElem?_cons_succ, List.set_cons_zero, List.set_cons_succ, znl, zs4, zc1, true_and, and_self, Value.category, Option.toList, List.cons_append, List.nil_append, zvr, mw_s w, mw_s79 w, mw_s80 w, mw_s81 w, mw_s82 w, mw_s83 w, mw_s84 w, mw_s85 w, mw_r5 w, mw_r15 w, mw_r16 w, mw_r17 w, mw_r18 w, mw_r21 w, mw_r22 w, ta_r3 t, ta_s t, ta_s1 t, ta_r8 t, ta_s2 t, ta_r9 t, ta_s3 t, ta_r10 t, ta_s4 t, ta_r11 t, ta_s5 t, ta_r12 t, ta_s6 t, ta_r13 t, ta_s7 t, ta_r14 t, ta_s8 t, ta_r15 t, ta_s9 t, ta_r16 t, ta_s10 t, ta_r17 t, ta_s11 t, ta_r18 t, ta_s12 t, ta_r19 t, ta_s13 t, ta_r20 t, zsh_pi, zgr_pi]
    rw [← hh1]
    refine vb_X9_turn_18 _ _ _ ?_
    simp only [B_X9_turn_18, oPI, oPL, oILOAD, oLLOAD, oALOAD, oISTORE, oASTORE, oLSTORE, oIINC, oIADD, oISUB, oIMUL, oIAND, oIOR, oIXOR, oIDIV, oIREM, oISHL, oISHR, oIUSHR, oLADD, oLSUB, oLMUL, oLOR, oLDIV, oLREM, oLCMP, oLSHL, oINEG, oI2L, oL2I, oI2B, oI2C, oDUP, oPOP, oDUP2, oIFEQ, oICEQ, oIFNE, oICNE, oIFLT, oICLT, oIFGE, oICGE, oIFGT, oICGT, oIFLE, oICLE, oIFNULL, oIFNONNULL, oTSW, oLSW, oGETI, oGETL, oGETR, oPUTI, oPUTZ, oPUTL, oPUTR, oIALD, oBALD, oZALD, oLALD, oAALD, oALEN, oIAST, oBAST, oZAST, oLAST, oIRET, oZRET, oLRET, oVRET, oARET, oOBJ, oINI, oPS, oNEW, oNEWAI, oNEWAB, oNEWAZ, oNEWAL, oCOPY, oINV0, oINS0, oINV1, oINS1, oINV2, oINS2, oINV3, oINS3, oINV4, oINS4, oINV5, oINS5, oINV6, oINS6, List.getElem?_cons_zero, List.getElem?_cons_succ, List.set_cons_zero, List.set_cons_succ, znl, zs4, zc1, true_and, and_self, Value.category, Option.toList, List.cons_append, List.nil_append, zvr]
    try simp (disch := omega) only [zgi_gz, zj_cn, zj_lt, zj_le, zj_eq, zj_add, zj_sub, zj_mul, zj_neg, zj_lt0, zj_le0, zj_0le, zj_0lt, zj_eq0, zb_0, zb_z, Classical.not_not, Int.zero_add, Int.add_zero, zj_remn, zj_divn]
    refine ⟨fun _ => fin, fun c3 => ?_⟩
    refine cm_in ha1 ha2 (by omega) (by omega) (by omega) (by omega) ?_
    simp only [oPI, oPL, oILOAD, oLLOAD, oALOAD, oISTORE, oASTORE, oLSTORE, oIINC, oIADD, oISUB, oIMUL, oIAND, oIOR, oIXOR, oIDIV, oIREM, oISHL, oISHR, oIUSHR, oLADD, oLSUB, oLMUL, oLOR, oLDIV, oLREM, oLCMP, oLSHL, oINEG, oI2L, oL2I, oI2B, oI2C, oDUP, oPOP, oDUP2, oIFEQ, oICEQ, oIFNE, oICNE, oIFLT, oICLT, oIFGE, oICGE, oIFGT, oICGT, oIFLE, oICLE, oIFNULL, oIFNONNULL, oTSW, oLSW, oGETI, oGETL, oGETR, oPUTI, oPUTZ, oPUTL, oPUTR, oIALD, oBALD, oZALD, oLALD, oAALD, oALEN, oIAST, oBAST, oZAST, oLAST, oIRET, oZRET, oLRET, oVRET, oARET, oOBJ, oINI, oPS, oNEW, oNEWAI, oNEWAB, oNEWAZ, oNEWAL, oCOPY, oINV0, oINS0, oINV1, oINS1, oINV2, oINS2, oINV3, oINS3, oINV4, oINS4, oINV5, oINS5, oINV6, oINS6, List.getElem?_cons_zero, List.getElem?_cons_succ, List.set_cons_zero, List.set_cons_succ, znl, zs4, zc1, true_and, and_self, Value.category, Option.toList, List.cons_append, List.nil_append, zvr, mw_s w1, mw_s79 w1, mw_s80 w1, mw_s81 w1, mw_s82 w1, mw_s83 w1, mw_s84 w1, mw_s85 w1, mw_r5 w1, mw_r15 w1, mw_r16 w1, mw_r17 w1, mw_r18 w1, mw_r21 w1, mw_r22 w1]
    try simp (disch := omega) only [zgi_gz, zj_cn, zj_lt, zj_le, zj_eq, zj_add, zj_sub, zj_mul, zj_neg, zj_lt0, zj_le0, zj_0le, zj_0lt, zj_eq0, zb_0, zb_z, Classical.not_not, Int.zero_add, Int.add_zero, zj_remn, zj_divn]
    exact ⟨fun c => absurd ⟨c3, c⟩ c1, fun _ => fin⟩
  · have w := o.mw
    have t := o.ta
    have hday := I.u.2.2
    obtain ⟨h1, hh1⟩ : ∃ h1, h1 = zpi (zpi h 16 5 (zj 5)) 78 0 (zj 0) := ⟨_, rfl⟩
    have w1 : zMW h1 := by rw [hh1]; exact w
    have t1 : zTa h1 := by rw [hh1]; exact t
    have ee : ∀ x y, ¬ (x = 16 ∧ y = 5) → ¬ (x = 78 ∧ y = 0) → zgi h1 x y = zgi h x y := fun x y q1 q2 => by rw [hh1, zpi_o q2, zpi_o q1]
    have o1 : zMp h1 p := o.mv2 (by rw [hh1]; rfl) (by rw [hh1]; rfl) (fun x y hx => ee x y (by omega) (by omega))
    have e14 : gz h1 80 14 = gz h 45 14 := by rw [hh1]; exact congrArg Int32.toInt (o.vn 14 (by omega))
    have rf := k2 _ (I.rfu 5 (by decide))
    rw [← hh1] at rf
    refine zCC_of (ls := [.ref 78, .int (zj a)]) pf_X9_turn rfl (Nat.le_of_ble_eq_true rfl) ?_
    refine vb_X9_turn_0 _ _ _ ?_
    simp only [B_X9_turn_0, oPI, oPL, oILOAD, oLLOAD, oALOAD, oISTORE, oASTORE, oLSTORE, oIINC, oIADD, oISUB, oIMUL, oIAND, oIOR, oIXOR, oIDIV, oIREM, oISHL, oISHR, oIUSHR, oLADD, oLSUB, oLMUL, oLOR, oLDIV, oLREM, oLCMP, oLSHL, oINEG, oI2L, oL2I, oI2B, oI2C, oDUP, oPOP, oDUP2, oIFEQ, oICEQ, oIFNE, oICNE, oIFLT, oICLT, oIFGE, oICGE, oIFGT, oICGT, oIFLE, oICLE, oIFNULL, oIFNONNULL, oTSW, oLSW, oGETI, oGETL, oGETR, oPUTI, oPUTZ, oPUTL, oPUTR, oIALD, oBALD, oZALD, oLALD, oAALD, oALEN, oIAST, oBAST, oZAST, oLAST, oIRET, oZRET, oLRET, oVRET, oARET, oOBJ, oINI, oPS, oNEW, oNEWAI, oNEWAB, oNEWAZ, oNEWAL, oCOPY, oINV0, oINS0, oINV1, oINS1, oINV2, oINS2, oINV3, oINS3, oINV4, oINS4, oINV5, oINS5, oINV6, oINS6, List.getElem?_cons_zero, List.getElem?_cons_succ, List.set_cons_zero, List.set_cons_succ, znl, zs4, zc1, true_and, and_self, Value.category, Option.toList, List.cons_append, List.nil_append, zvr, mw_s w, mw_s79 w, mw_s80 w, mw_s81 w, mw_s82 w, mw_s83 w, mw_s84 w, mw_s85 w, mw_r5 w, mw_r15 w, mw_r16 w, mw_r17 w, mw_r18 w, mw_r21 w, mw_r22 w, ta_r3 t, ta_s t, ta_s1 t, ta_r8 t, ta_s2 t, ta_r9 t, ta_s3 t, ta_r10 t, ta_s4 t, ta_r11 t, ta_s5 t, ta_r12 t, ta_s6 t, ta_r13 t, ta_s7 t, ta_r14 t, ta_s8 t, ta_r15 t, ta_s9 t, ta_r16 t, ta_s10 t, ta_r17 t, ta_s11 t, ta_r18 t, ta_s12 t, ta_r19 t, ta_s13 t, ta_r20 t, zsh_pi, zgr_pi]
    rw [← hh1]
    refine vb_X9_turn_18 _ _ _ ?_
    simp only [B_X9_turn_18, oPI, oPL, oILOAD, oLLOAD, oALOAD, oISTORE, oASTORE, oLSTORE, oIINC, oIADD, oISUB, oIMUL, oIAND, oIOR, oIXOR, oIDIV, oIREM, oISHL, oISHR, oIUSHR, oLADD, oLSUB, oLMUL, oLOR, oLDIV, oLREM, oLCMP, oLSHL, oINEG, oI2L, oL2I, oI2B, oI2C, oDUP, oPOP, oDUP2, oIFEQ, oICEQ, oIFNE, oICNE, oIFLT, oICLT, oIFGE, oICGE, oIFGT, oICGT, oIFLE, oICLE, oIFNULL, oIFNONNULL, oTSW, oLSW, oGETI, oGETL, oGETR, oPUTI, oPUTZ, oPUTL, oPUTR, oIALD, oBALD, oZALD, oLALD, oAALD, oALEN, oIAST, oBAST, oZAST, oLAST, oIRET, oZRET, oLRET, oVRET, oARET, oOBJ, oINI, oPS, oNEW, oNEWAI, oNEWAB, oNEWAZ, oNEWAL, oCOPY, oINV0, oINS0, oINV1, oINS1, oINV2, oINS2, oINV3, oINS3, oINV4, oINS4, oINV5, oINS5, oINV6, oINS6, List.getElem?_cons_zero, List.getElem?_cons_succ, List.set_cons_zero, List.set_cons_succ, znl, zs4, zc1, true_and, and_self, Value.category, Option.toList, List.cons_append, List.nil_append, zvr]
    try simp (disch := omega) only [zgi_gz, zj_cn, zj_lt, zj_le, zj_eq, zj_add, zj_sub, zj_mul, zj_neg, zj_lt0, zj_le0, zj_0le, zj_0lt, zj_eq0, zb_0, zb_z, Classical.not_not, Int.zero_add, Int.add_zero, zj_remn, zj_divn]
    refine ⟨fun c => absurd c c1.1, fun _ => ?_⟩
    refine cm_in ha1 ha2 (by omega) (by omega) (by omega) (by omega) ?_
    simp only [oPI, oPL, oILOAD, oLLOAD, oALOAD, oISTORE, oASTORE, oLSTORE, oIINC, oIADD, oISUB, oIMUL, oIAND, oIOR, oIXOR, oIDIV, oIREM, oISHL, oISHR, oIUSHR, oLADD, oLSUB, oLMUL, oLOR, oLDIV, oLREM, oLCMP, oLSHL, oINEG, oI2L, oL2I, oI2B, oI2C, oDUP, oPOP, oDUP2, oIFEQ, oICEQ, oIFNE, oICNE, oIFLT, oICLT, oIFGE, oICGE, oIFGT, oICGT, oIFLE, oICLE, oIFNULL, oIFNONNULL, oTSW, oLSW, oGETI, oGETL, oGETR, oPUTI, oPUTZ, oPUTL, oPUTR, oIALD, oBALD, oZALD, oLALD, oAALD, oALEN, oIAST, oBAST, oZAST, oLAST, oIRET, oZRET, oLRET, oVRET, oARET, oOBJ, oINI, oPS, oNEW, oNEWAI, oNEWAB, oNEWAZ, oNEWAL, oCOPY, oINV0, oINS0, oINV1, oINS1, oINV2, oINS2, oINV3, oINS3, oINV4, oINS4, oINV5, oINS5, oINV6, oINS6, List.getElem?_cons_zero, List.getElem?_cons_succ, List.set_cons_zero, List.set_cons_succ, znl, zs4, zc1, true_and, and_self, Value.category, Option.toList, List.cons_append, List.nil_append, zvr, mw_s w1, mw_s79 w1, mw_s80 w1, mw_s81 w1, mw_s82 w1, mw_s83 w1, mw_s84 w1, mw_s85 w1, mw_r5 w1, mw_r15 w1, mw_r16 w1, mw_r17 w1, mw_r18 w1, mw_r21 w1, mw_r22 w1]
    try simp (disch := omega) only [zgi_gz, zj_cn, zj_lt, zj_le, zj_eq, zj_add, zj_sub, zj_mul, zj_neg, zj_lt0, zj_le0, zj_0le, zj_0lt, zj_eq0, zb_0, zb_z, Classical.not_not, Int.zero_add, Int.add_zero, zj_remn, zj_divn]
    refine ⟨fun _ => ?_, fun c => absurd c1.2 c⟩
    refine vb_X9_turn_39 _ _ _ ?_
    simp only [B_X9_turn_39, oPI, oPL, oILOAD, oLLOAD, oALOAD, oISTORE, oASTORE, oLSTORE, oIINC, oIADD, oISUB, oIMUL, oIAND, oIOR, oIXOR, oIDIV, oIREM, oISHL, oISHR, oIUSHR, oLADD, oLSUB, oLMUL, oLOR, oLDIV, oLREM, oLCMP, oLSHL, oINEG, oI2L, oL2I, oI2B, oI2C, oDUP, oPOP, oDUP2, oIFEQ, oICEQ, oIFNE, oICNE, oIFLT, oICLT, oIFGE, oICGE, oIFGT, oICGT, oIFLE, oICLE, oIFNULL, oIFNONNULL, oTSW, oLSW, oGETI, oGETL, oGETR, oPUTI, oPUTZ, oPUTL, oPUTR, oIALD, oBALD, oZALD, oLALD, oAALD, oALEN, oIAST, oBAST, oZAST, oLAST, oIRET, oZRET, oLRET, oVRET, oARET, oOBJ, oINI, oPS, oNEW, oNEWAI, oNEWAB, oNEWAZ, oNEWAL, oCOPY, oINV0, oINS0, oINV1, oINS1, oINV2, oINS2, oINV3, oINS3, oINV4, oINS4, oINV5, oINS5, oINV6, oINS6, List.getElem?_cons_zero, List.getElem?_cons_succ, List.set_cons_zero, List.set_cons_succ, znl, zs4, zc1, true_and, and_self, Value.category, Option.toList, List.cons_append, List.nil_append, zvr, mw_s w1, mw_s79 w1, mw_s80 w1, mw_s81 w1, mw_s82 w1, mw_s83 w1, mw_s84 w1, mw_s85 w1, mw_r5 w1, mw_r15 w1, mw_r16 w1, mw_r17 w1, mw_r18 w1, mw_r21 w1, mw_r22 w1, ta_r3 t1, ta_s t1, ta_s1 t1, ta_r8 t1, ta_s2 t1, ta_r9 t1, ta_s3 t1, ta_r10 t1, ta_s4 t1, ta_r11 t1, ta_s5 t1, ta_r12 t1, ta_s6 t1, ta_r13 t1, ta_s7 t1, ta_r14 t1, ta_s8 t1, ta_r15 t1, ta_s9 t1, ta_r16 t1, ta_s10 t1, ta_r17 t1, ta_s11 t1, ta_r18 t1, ta_s12 t1, ta_r19 t1, ta_s13 t1, ta_r20 t1]
    rw [show (zj 14).toNatClampNeg = 14 from rfl, zgi_gz, e14]
    refine ⟨zj_in (by omega) (by omega) (by omega), ?_⟩
    refine cm_isHolidayP o1 (by omega) (by omega) ?_
    rw [zhol_c hp (fun x y hx => ee x y (by omega) (by omega))]
    simp only [oPI, oPL, oILOAD, oLLOAD, oALOAD, oISTORE, oASTORE, oLSTORE, oIINC, oIADD, oISUB, oIMUL, oIAND, oIOR, oIXOR, oIDIV, oIREM, oISHL, oISHR, oIUSHR, oLADD, oLSUB, oLMUL, oLOR, oLDIV, oLREM, oLCMP, oLSHL, oINEG, oI2L, oL2I, oI2B, oI2C, oDUP, oPOP, oDUP2, oIFEQ, oICEQ, oIFNE, oICNE, oIFLT, oICLT, oIFGE, oICGE, oIFGT, oICGT, oIFLE, oICLE, oIFNULL, oIFNONNULL, oTSW, oLSW, oGETI, oGETL, oGETR, oPUTI, oPUTZ, oPUTL, oPUTR, oIALD, oBALD, oZALD, oLALD, oAALD, oALEN, oIAST, oBAST, oZAST, oLAST, oIRET, oZRET, oLRET, oVRET, oARET, oOBJ, oINI, oPS, oNEW, oNEWAI, oNEWAB, oNEWAZ, oNEWAL, oCOPY, oINV0, oINS0, oINV1, oINS1, oINV2, oINS2, oINV3, oINS3, oINV4, oINS4, oINV5, oINS5, oINV6, oINS6, List.getElem?_cons_zero, List.getElem?_cons_succ, List.set_cons_zero, List.set_cons_succ, znl, zs4, zc1, true_and, and_self, Value.category, Option.toList, List.cons_append, List.nil_append, zvr, mw_s w1, mw_s79 w1, mw_s80 w1, mw_s81 w1, mw_s82 w1, mw_s83 w1, mw_s84 w1, mw_s85 w1, mw_r5 w1, mw_r15 w1, mw_r16 w1, mw_r17 w1, mw_r18 w1, mw_r21 w1, mw_r22 w1]
    try simp (disch := omega) only [zgi_gz, zj_cn, zj_lt, zj_le, zj_eq, zj_add, zj_sub, zj_mul, zj_neg, zj_lt0, zj_le0, zj_0le, zj_0lt, zj_eq0, zb_0, zb_z, Classical.not_not, Int.zero_add, Int.add_zero, zj_remn, zj_divn]
    refine ⟨fun c => absurd c2 c, fun _ => ?_⟩
    refine cm_refused w1 ?_
    simp only [oPI, oPL, oILOAD, oLLOAD, oALOAD, oISTORE, oASTORE, oLSTORE, oIINC, oIADD, oISUB, oIMUL, oIAND, oIOR, oIXOR, oIDIV, oIREM, oISHL, oISHR, oIUSHR, oLADD, oLSUB, oLMUL, oLOR, oLDIV, oLREM, oLCMP, oLSHL, oINEG, oI2L, oL2I, oI2B, oI2C, oDUP, oPOP, oDUP2, oIFEQ, oICEQ, oIFNE, oICNE, oIFLT, oICLT, oIFGE, oICGE, oIFGT, oICGT, oIFLE, oICLE, oIFNULL, oIFNONNULL, oTSW, oLSW, oGETI, oGETL, oGETR, oPUTI, oPUTZ, oPUTL, oPUTR, oIALD, oBALD, oZALD, oLALD, oAALD, oALEN, oIAST, oBAST, oZAST, oLAST, oIRET, oZRET, oLRET, oVRET, oARET, oOBJ, oINI, oPS, oNEW, oNEWAI, oNEWAB, oNEWAZ, oNEWAL, oCOPY, oINV0, oINS0, oINV1, oINS1, oINV2, oINS2, oINV3, oINS3, oINV4, oINS4, oINV5, oINS5, oINV6, oINS6, List.getElem?_cons_zero, List.getElem?_cons_succ, List.set_cons_zero, List.set_cons_succ, znl, zs4, zc1, true_and, and_self, Value.category, Option.toList, List.cons_append, List.nil_append, zvr]
    exact rf
  · have w := o.mw
    have t := o.ta
    have hday := I.u.2.2
    obtain ⟨A, N, B, hA, hA2, hN, hN2, hB, hB2, hA3, hB3⟩ := I.A
    have hNt : (gz h 46 3).toNat = N := by omega
    have klo := zka_lo h
    have ecl : zcl (zka h) p = zcl h p := lo_cl klo hp
    have enk : zn (zka h) p = zn h p := lo_n klo hp
    have hn := o.n
    obtain ⟨hc, hhc⟩ : ∃ hc, hc = zpi (zta h p a) 16 5 (zj 0) := ⟨_, rfl⟩
    have ec : ∀ x y, x ≠ 46 → x ≠ 48 + N → x ≠ 45 → ¬ (x = 16 ∧ y = 5) → zgi hc x y = zgi h x y := fun x y q1 q2 q3 q4 => by
      rw [hhc, zpi_o q4]
      unfold zta
      rw [zwr_o (by omega)]
      exact zka_o q1 (by rw [hNt]; exact q2)
    have c45 : ∀ y, zgi hc 45 y = if y < zn h p then zj (zcl h p a (a.tdiv 2) y) else zgi h 45 y := fun y => by
      rw [hhc, zpi_o (by omega)]
      unfold zta
      rw [ecl, enk]
      by_cases cy : y < zn h p
      · rw [if_pos cy, zwr_in cy]
      · rw [if_neg cy, zwr_o (by omega)]
        exact klo.2.2 45 y (by omega)
    obtain ⟨h1, hh1⟩ : ∃ h1, h1 = zpi hc 78 0 (zj 0) := ⟨_, rfl⟩
    have w0 : zMW hc := by rw [hhc]; exact w
    have t0 : zTa hc := by rw [hhc]; exact t
    have w1 : zMW h1 := by rw [hh1]; exact w0
    have t1 : zTa h1 := by rw [hh1]; exact t0
    have e1 : ∀ x y, x ≠ 46 → x ≠ 48 + N → x ≠ 45 → ¬ (x = 16 ∧ y = 5) → ¬ (x = 78 ∧ y = 0) → zgi h1 x y = zgi h x y := fun x y q1 q2 q3 q4 q5 => by rw [hh1, zpi_o q5]; exact ec x y q1 q2 q3 q4
    have h1a : h1.1 = h.1 := by rw [hh1, hhc]; rfl
    have h1b : h1.2.2 = h.2.2 := by rw [hh1, hhc]; rfl
    have o1 : zMp h1 p := o.mv2 h1a h1b (fun x y hx => e1 x y (by omega) (by omega) (by omega) (by omega) (by omega))
    have e14 : gz h1 80 14 = gz h 45 14 := by rw [show gz h1 80 14 = gz h 80 14 from congrArg Int32.toInt (e1 80 14 (by omega) (by omega) (by omega) (by omega) (by omega))]; exact congrArg Int32.toInt (o.vn 14 (by omega))
    rw [← hhc]
    refine zCC_of (ls := [.ref 78, .int (zj a)]) pf_X9_turn rfl (Nat.le_of_ble_eq_true rfl) ?_
    refine vb_X9_turn_0 _ _ _ ?_
    simp only [B_X9_turn_0, oPI, oPL, oILOAD, oLLOAD, oALOAD, oISTORE, oASTORE, oLSTORE, oIINC, oIADD, oISUB, oIMUL, oIAND, oIOR, oIXOR, oIDIV, oIREM, oISHL, oISHR, oIUSHR, oLADD, oLSUB, oLMUL, oLOR, oLDIV, oLREM, oLCMP, oLSHL, oINEG, oI2L, oL2I, oI2B, oI2C, oDUP, oPOP, oDUP2, oIFEQ, oICEQ, oIFNE, oICNE, oIFLT, oICLT, oIFGE, oICGE, oIFGT, oICGT, oIFLE, oICLE, oIFNULL, oIFNONNULL, oTSW, oLSW, oGETI, oGETL, oGETR, oPUTI, oPUTZ, oPUTL, oPUTR, oIALD, oBALD, oZALD, oLALD, oAALD, oALEN, oIAST, oBAST, oZAST, oLAST, oIRET, oZRET, oLRET, oVRET, oARET, oOBJ, oINI, oPS, oNEW, oNEWAI, oNEWAB, oNEWAZ, oNEWAL, oCOPY, oINV0, oINS0, oINV1, oINS1, oINV2, oINS2, oINV3, oINS3, oINV4, oINS4, oINV5, oINS5, oINV6, oINS6, List.getElem?_cons_zero, List.getElem?_cons_succ, List.set_cons_zero, List.set_cons_succ, znl, zs4, zc1, true_and, and_self, Value.category, Option.toList, List.cons_append, List.nil_append, zvr, mw_s w0, mw_s79 w0, mw_s80 w0, mw_s81 w0, mw_s82 w0, mw_s83 w0, mw_s84 w0, mw_s85 w0, mw_r5 w0, mw_r15 w0, mw_r16 w0, mw_r17 w0, mw_r18 w0, mw_r21 w0, mw_r22 w0, ta_r3 t0, ta_s t0, ta_s1 t0, ta_r8 t0, ta_s2 t0, ta_r9 t0, ta_s3 t0, ta_r10 t0, ta_s4 t0, ta_r11 t0, ta_s5 t0, ta_r12 t0, ta_s6 t0, ta_r13 t0, ta_s7 t0, ta_r14 t0, ta_s8 t0, ta_r15 t0, ta_s9 t0, ta_r16 t0, ta_s10 t0, ta_r17 t0, ta_s11 t0, ta_r18 t0, ta_s12 t0, ta_r19 t0, ta_s13 t0, ta_r20 t0, zsh_pi, zgr_pi]
    rw [← hh1]
    refine vb_X9_turn_18 _ _ _ ?_
    simp only [B_X9_turn_18, oPI, oPL, oILOAD, oLLOAD, oALOAD, oISTORE, oASTORE, oLSTORE, oIINC, oIADD, oISUB, oIMUL, oIAND, oIOR, oIXOR, oIDIV, oIREM, oISHL, oISHR, oIUSHR, oLADD, oLSUB, oLMUL, oLOR, oLDIV, oLREM, oLCMP, oLSHL, oINEG, oI2L, oL2I, oI2B, oI2C, oDUP, oPOP, oDUP2, oIFEQ, oICEQ, oIFNE, oICNE, oIFLT, oICLT, oIFGE, oICGE, oIFGT, oICGT, oIFLE, oICLE, oIFNULL, oIFNONNULL, oTSW, oLSW, oGETI, oGETL, oGETR, oPUTI, oPUTZ, oPUTL, oPUTR, oIALD, oBALD, oZALD, oLALD, oAALD, oALEN, oIAST, oBAST, oZAST, oLAST, oIRET, oZRET, oLRET, oVRET, oARET, oOBJ, oINI, oPS, oNEW, oNEWAI, oNEWAB, oNEWAZ, oNEWAL, oCOPY, oINV0, oINS0, oINV1, oINS1, oINV2, oINS2, oINV3, oINS3, oINV4, oINS4, oINV5, oINS5, oINV6, oINS6, List.getElem?_cons_zero, List.getElem?_cons_succ, List.set_cons_zero, List.set_cons_succ, znl, zs4, zc1, true_and, and_self, Value.category, Option.toList, List.cons_append, List.nil_append, zvr]
    try simp (disch := omega) only [zgi_gz, zj_cn, zj_lt, zj_le, zj_eq, zj_add, zj_sub, zj_mul, zj_neg, zj_lt0, zj_le0, zj_0le, zj_0lt, zj_eq0, zb_0, zb_z, Classical.not_not, Int.zero_add, Int.add_zero, zj_remn, zj_divn]
    refine ⟨fun c => absurd c c1.1, fun _ => ?_⟩
    refine cm_in ha1 ha2 (by omega) (by omega) (by omega) (by omega) ?_
    simp only [oPI, oPL, oILOAD, oLLOAD, oALOAD, oISTORE, oASTORE, oLSTORE, oIINC, oIADD, oISUB, oIMUL, oIAND, oIOR, oIXOR, oIDIV, oIREM, oISHL, oISHR, oIUSHR, oLADD, oLSUB, oLMUL, oLOR, oLDIV, oLREM, oLCMP, oLSHL, oINEG, oI2L, oL2I, oI2B, oI2C, oDUP, oPOP, oDUP2, oIFEQ, oICEQ, oIFNE, oICNE, oIFLT, oICLT, oIFGE, oICGE, oIFGT, oICGT, oIFLE, oICLE, oIFNULL, oIFNONNULL, oTSW, oLSW, oGETI, oGETL, oGETR, oPUTI, oPUTZ, oPUTL, oPUTR, oIALD, oBALD, oZALD, oLALD, oAALD, oALEN, oIAST, oBAST, oZAST, oLAST, oIRET, oZRET, oLRET, oVRET, oARET, oOBJ, oINI, oPS, oNEW, oNEWAI, oNEWAB, oNEWAZ, oNEWAL, oCOPY, oINV0, oINS0, oINV1, oINS1, oINV2, oINS2, oINV3, oINS3, oINV4, oINS4, oINV5, oINS5, oINV6, oINS6, List.getElem?_cons_zero, List.getElem?_cons_succ, List.set_cons_zero, List.set_cons_succ, znl, zs4, zc1, true_and, and_self, Value.category, Option.toList, List.cons_append, List.nil_append, zvr, mw_s w1, mw_s79 w1, mw_s80 w1, mw_s81 w1, mw_s82 w1, mw_s83 w1, mw_s84 w1, mw_s85 w1, mw_r5 w1, mw_r15 w1, mw_r16 w1, mw_r17 w1, mw_r18 w1, mw_r21 w1, mw_r22 w1]
    try simp (disch := omega) only [zgi_gz, zj_cn, zj_lt, zj_le, zj_eq, zj_add, zj_sub, zj_mul, zj_neg, zj_lt0, zj_le0, zj_0le, zj_0lt, zj_eq0, zb_0, zb_z, Classical.not_not, Int.zero_add, Int.add_zero, zj_remn, zj_divn]
    refine ⟨fun _ => ?_, fun c => absurd c1.2 c⟩
    refine vb_X9_turn_39 _ _ _ ?_
    simp only [B_X9_turn_39, oPI, oPL, oILOAD, oLLOAD, oALOAD, oISTORE, oASTORE, oLSTORE, oIINC, oIADD, oISUB, oIMUL, oIAND, oIOR, oIXOR, oIDIV, oIREM, oISHL, oISHR, oIUSHR, oLADD, oLSUB, oLMUL, oLOR, oLDIV, oLREM, oLCMP, oLSHL, oINEG, oI2L, oL2I, oI2B, oI2C, oDUP, oPOP, oDUP2, oIFEQ, oICEQ, oIFNE, oICNE, oIFLT, oICLT, oIFGE, oICGE, oIFGT, oICGT, oIFLE, oICLE, oIFNULL, oIFNONNULL, oTSW, oLSW, oGETI, oGETL, oGETR, oPUTI, oPUTZ, oPUTL, oPUTR, oIALD, oBALD, oZALD, oLALD, oAALD, oALEN, oIAST, oBAST, oZAST, oLAST, oIRET, oZRET, oLRET, oVRET, oARET, oOBJ, oINI, oPS, oNEW, oNEWAI, oNEWAB, oNEWAZ, oNEWAL, oCOPY, oINV0, oINS0, oINV1, oINS1, oINV2, oINS2, oINV3, oINS3, oINV4, oINS4, oINV5, oINS5, oINV6, oINS6, List.getElem?_cons_zero, List.getElem?_cons_succ, List.set_cons_zero, List.set_cons_succ, znl, zs4, zc1, true_and, and_self, Value.category, Option.toList, List.cons_append, List.nil_append, zvr, mw_s w1, mw_s79 w1, mw_s80 w1, mw_s81 w1, mw_s82 w1, mw_s83 w1, mw_s84 w1, mw_s85 w1, mw_r5 w1, mw_r15 w1, mw_r16 w1, mw_r17 w1, mw_r18 w1, mw_r21 w1, mw_r22 w1, ta_r3 t1, ta_s t1, ta_s1 t1, ta_r8 t1, ta_s2 t1, ta_r9 t1, ta_s3 t1, ta_r10 t1, ta_s4 t1, ta_r11 t1, ta_s5 t1, ta_r12 t1, ta_s6 t1, ta_r13 t1, ta_s7 t1, ta_r14 t1, ta_s8 t1, ta_r15 t1, ta_s9 t1, ta_r16 t1, ta_s10 t1, ta_r17 t1, ta_s11 t1, ta_r18 t1, ta_s12 t1, ta_r19 t1, ta_s13 t1, ta_r20 t1]
    rw [show (zj 14).toNatClampNeg = 14 from rfl, zgi_gz, e14]
    refine ⟨zj_in (by omega) (by omega) (by omega), ?_⟩
    refine cm_isHolidayP o1 (by omega) (by omega) ?_
    rw [zhol_c hp (fun x y hx => e1 x y (by omega) (by omega) (by omega) (by omega) (by omega))]
    simp only [oPI, oPL, oILOAD, oLLOAD, oALOAD, oISTORE, oASTORE, oLSTORE, oIINC, oIADD, oISUB, oIMUL, oIAND, oIOR, oIXOR, oIDIV, oIREM, oISHL, oISHR, oIUSHR, oLADD, oLSUB, oLMUL, oLOR, oLDIV, oLREM, oLCMP, oLSHL, oINEG, oI2L, oL2I, oI2B, oI2C, oDUP, oPOP, oDUP2, oIFEQ, oICEQ, oIFNE, oICNE, oIFLT, oICLT, oIFGE, oICGE, oIFGT, oICGT, oIFLE, oICLE, oIFNULL, oIFNONNULL, oTSW, oLSW, oGETI, oGETL, oGETR, oPUTI, oPUTZ, oPUTL, oPUTR, oIALD, oBALD, oZALD, oLALD, oAALD, oALEN, oIAST, oBAST, oZAST, oLAST, oIRET, oZRET, oLRET, oVRET, oARET, oOBJ, oINI, oPS, oNEW, oNEWAI, oNEWAB, oNEWAZ, oNEWAL, oCOPY, oINV0, oINS0, oINV1, oINS1, oINV2, oINS2, oINV3, oINS3, oINV4, oINS4, oINV5, oINS5, oINV6, oINS6, List.getElem?_cons_zero, List.getElem?_cons_succ, List.set_cons_zero, List.set_cons_succ, znl, zs4, zc1, true_and, and_self, Value.category, Option.toList, List.cons_append, List.nil_append, zvr, mw_s w1, mw_s79 w1, mw_s80 w1, mw_s81 w1, mw_s82 w1, mw_s83 w1, mw_s84 w1, mw_s85 w1, mw_r5 w1, mw_r15 w1, mw_r16 w1, mw_r17 w1, mw_r18 w1, mw_r21 w1, mw_r22 w1]
    try simp (disch := omega) only [zgi_gz, zj_cn, zj_lt, zj_le, zj_eq, zj_add, zj_sub, zj_mul, zj_neg, zj_lt0, zj_le0, zj_0le, zj_0lt, zj_eq0, zb_0, zb_z, Classical.not_not, Int.zero_add, Int.add_zero, zj_remn, zj_divn]
    refine ⟨fun _ => ?_, fun c => absurd c c2⟩
    refine vb_X9_turn_62 _ _ _ ?_
    simp only [B_X9_turn_62, oPI, oPL, oILOAD, oLLOAD, oALOAD, oISTORE, oASTORE, oLSTORE, oIINC, oIADD, oISUB, oIMUL, oIAND, oIOR, oIXOR, oIDIV, oIREM, oISHL, oISHR, oIUSHR, oLADD, oLSUB, oLMUL, oLOR, oLDIV, oLREM, oLCMP, oLSHL, oINEG, oI2L, oL2I, oI2B, oI2C, oDUP, oPOP, oDUP2, oIFEQ, oICEQ, oIFNE, oICNE, oIFLT, oICLT, oIFGE, oICGE, oIFGT, oICGT, oIFLE, oICLE, oIFNULL, oIFNONNULL, oTSW, oLSW, oGETI, oGETL, oGETR, oPUTI, oPUTZ, oPUTL, oPUTR, oIALD, oBALD, oZALD, oLALD, oAALD, oALEN, oIAST, oBAST, oZAST, oLAST, oIRET, oZRET, oLRET, oVRET, oARET, oOBJ, oINI, oPS, oNEW, oNEWAI, oNEWAB, oNEWAZ, oNEWAL, oCOPY, oINV0, oINS0, oINV1, oINS1, oINV2, oINS2, oINV3, oINS3, oINV4, oINS4, oINV5, oINS5, oINV6, oINS6, List.getElem?_cons_zero, List.getElem?_cons_succ, List.set_cons_zero, List.set_cons_succ, znl, zs4, zc1, true_and, and_self, Value.category, Option.toList, List.cons_append, List.nil_append, zvr, mw_s w1, mw_s79 w1, mw_s80 w1, mw_s81 w1, mw_s82 w1, mw_s83 w1, mw_s84 w1, mw_s85 w1, mw_r5 w1, mw_r15 w1, mw_r16 w1, mw_r17 w1, mw_r18 w1, mw_r21 w1, mw_r22 w1]
    refine cm_remembers (A := A) w1 (by rw [show gz h1 78 19 = gz h 78 19 from congrArg Int32.toInt (e1 78 19 (by omega) (by omega) (by omega) (by omega) (by omega))]; exact hA3) hA2 (fun h2 r1 r2 r3 r4 r5 r6 => ?_)
    have h2a : h2.1 = h.1 := r1.trans h1a
    have h2b : h2.2.2 = h.2.2 := r2.trans h1b
    have w2 := w1.mv r1 r2
    have e2 : ∀ x y, x ≠ 46 → x ≠ 48 + N → x ≠ 45 → ¬ (x = 16 ∧ y = 5) → ¬ (x = 78 ∧ (y = 0 ∨ y = 19)) → x ≠ 82 → zgi h2 x y = zgi h x y := fun x y q1 q2 q3 q4 q5 q6 => by rw [r3 x y q6 (by omega)]; exact e1 x y q1 q2 q3 q4 (by omega)
    have o2 : zMp h2 p := o.mv2 h2a h2b (fun x y hx => e2 x y (by omega) (by omega) (by omega) (by omega) (by omega) (by omega))
    have v80 : ∀ b, b < 15 → gz h2 80 b = gz h 45 b := fun b hb => by rw [show gz h2 80 b = gz h 80 b from congrArg Int32.toInt (e2 80 b (by omega) (by omega) (by omega) (by omega) (by omega) (by omega))]; exact congrArg Int32.toInt (o.vn b hb)
    have en2 : zn h2 p = zn h p := by unfold zn; rw [show gz h2 p 1 = gz h p 1 from congrArg Int32.toInt (e2 p 1 (by omega) (by omega) (by omega) (by omega) (by omega) (by omega))]
    have eS2 : zS h2 p = zS h p := by funext b; exact congrArg Int32.toInt (e2 (p + 2) b (by omega) (by omega) (by omega) (by omega) (by omega) (by omega))
    simp only [oPI, oPL, oILOAD, oLLOAD, oALOAD, oISTORE, oASTORE, oLSTORE, oIINC, oIADD, oISUB, oIMUL, oIAND, oIOR, oIXOR, oIDIV, oIREM, oISHL, oISHR, oIUSHR, oLADD, oLSUB, oLMUL, oLOR, oLDIV, oLREM, oLCMP, oLSHL, oINEG, oI2L, oL2I, oI2B, oI2C, oDUP, oPOP, oDUP2, oIFEQ, oICEQ, oIFNE, oICNE, oIFLT, oICLT, oIFGE, oICGE, oIFGT, oICGT, oIFLE, oICLE, oIFNULL, oIFNONNULL, oTSW, oLSW, oGETI, oGETL, oGETR, oPUTI, oPUTZ, oPUTL, oPUTR, oIALD, oBALD, oZALD, oLALD, oAALD, oALEN, oIAST, oBAST, oZAST, oLAST, oIRET, oZRET, oLRET, oVRET, oARET, oOBJ, oINI, oPS, oNEW, oNEWAI, oNEWAB, oNEWAZ, oNEWAL, oCOPY, oINV0, oINS0, oINV1, oINS1, oINV2, oINS2, oINV3, oINS3, oINV4, oINS4, oINV5, oINS5, oINV6, oINS6, List.getElem?_cons_zero, List.getElem?_cons_succ, List.set_cons_zero, List.set_cons_succ, znl, zs4, zc1, true_and, and_self, Value.category, Option.toList, List.cons_append, List.nil_append, zvr, mw_s w2, mw_s79 w2, mw_s80 w2, mw_s81 w2, mw_s82 w2, mw_s83 w2, mw_s84 w2, mw_s85 w2, mw_r5 w2, mw_r15 w2, mw_r16 w2, mw_r17 w2, mw_r18 w2, mw_r21 w2, mw_r22 w2]
    refine cm_turns o2.mw o2.ta o2.tr o2.pv hp (Or.inl rfl) (fun b hb => by rw [v80 b (by omega)]; exact I.u.1 b (by omega)) c1.2.1 c1.2.2 ?_
    obtain ⟨h3, hh3⟩ : ∃ h3, h3 = zwr h2 80 (fun b => zj (zmv (zS h2 p b) (gz h2 80 b) a (a.tdiv 2))) (zn h2 p) := ⟨_, rfl⟩
    rw [← hh3]
    have a3 : zAg h2 h3 80 := by rw [hh3]; exact zwr_ag _ _ _ _
    have h3a : h3.1 = h.1 := a3.1.trans h2a
    have h3b : h3.2.2 = h.2.2 := a3.2.1.trans h2b
    have e3 : ∀ x y, x ≠ 46 → x ≠ 48 + N → x ≠ 45 → ¬ (x = 16 ∧ y = 5) → ¬ (x = 78 ∧ (y = 0 ∨ y = 19)) → x ≠ 82 → x ≠ 80 → zgi h3 x y = zgi h x y := fun x y q1 q2 q3 q4 q5 q6 q7 => by rw [a3.2.2 x y q7]; exact e2 x y q1 q2 q3 q4 q5 q6
    have z45 : ∀ y, zgi h3 45 y = if y < zn h p then zj (zcl h p a (a.tdiv 2) y) else zgi h 45 y := fun y => by
      rw [a3.2.2 45 y (by omega), r3 45 y (by omega) (by omega), hh1, zpi_o (by omega)]
      exact c45 y
    have z80 : ∀ y, y < 15 → zgi h3 80 y = zgi h3 45 y := fun y hy => by
      rw [z45 y]
      by_cases cy : y < zn h p
      · rw [if_pos cy, hh3, zwr_in (by rw [en2]; exact cy), eS2, v80 y hy]
        rfl
      · rw [if_neg cy, hh3, zwr_o (by rw [en2]; omega), e2 80 y (by omega) (by omega) (by omega) (by omega) (by omega) (by omega)]
        exact o.vn y hy
    have g45 : ∀ y, gz h3 45 y = if y < zn h p then zcl h p a (a.tdiv 2) y else gz h 45 y := fun y => by
      show (zgi h3 45 y).toInt = _
      rw [z45 y]
      by_cases cy : y < zn h p
      · have := zcl_b (p := p) I.u (a := a) (e := a.tdiv 2) (b := y) (by omega)
        rw [if_pos cy, if_pos cy, zj_toInt (by omega) (by omega)]
      · rw [if_neg cy, if_neg cy]; rfl
    have u3 : zNV h3 := by
      refine ⟨fun b hb => ?_, fun i hi => ?_, ?_⟩
      · rw [g45 b]
        split
        · exact zcl_b I.u (by omega)
        · exact I.u.1 b hb
      · rw [g45 (6 + i), if_neg (by omega)]; exact I.u.2.1 i hi
      · rw [g45 14, if_neg (by omega)]; exact I.u.2.2
    have o3p : zMp h3 p := o.mv2 h3a h3b (fun x y hx => e3 x y (by omega) (by omega) (by omega) (by omega) (by omega) (by omega) (by omega))
    have o3 : zMo h3 p := ⟨o3p.mw, o3p.ta, o3p.tr, o3p.pv, hp, z80, u3⟩
    have w3 := o3.mw
    have tp3 := o3.tops 0 0
    simp only [oPI, oPL, oILOAD, oLLOAD, oALOAD, oISTORE, oASTORE, oLSTORE, oIINC, oIADD, oISUB, oIMUL, oIAND, oIOR, oIXOR, oIDIV, oIREM, oISHL, oISHR, oIUSHR, oLADD, oLSUB, oLMUL, oLOR, oLDIV, oLREM, oLCMP, oLSHL, oINEG, oI2L, oL2I, oI2B, oI2C, oDUP, oPOP, oDUP2, oIFEQ, oICEQ, oIFNE, oICNE, oIFLT, oICLT, oIFGE, oICGE, oIFGT, oICGT, oIFLE, oICLE, oIFNULL, oIFNONNULL, oTSW, oLSW, oGETI, oGETL, oGETR, oPUTI, oPUTZ, oPUTL, oPUTR, oIALD, oBALD, oZALD, oLALD, oAALD, oALEN, oIAST, oBAST, oZAST, oLAST, oIRET, oZRET, oLRET, oVRET, oARET, oOBJ, oINI, oPS, oNEW, oNEWAI, oNEWAB, oNEWAZ, oNEWAL, oCOPY, oINV0, oINS0, oINV1, oINS1, oINV2, oINS2, oINV3, oINS3, oINV4, oINS4, oINV5, oINS5, oINV6, oINS6, List.getElem?_cons_zero, List.getElem?_cons_succ, List.set_cons_zero, List.set_cons_succ, znl, zs4, zc1, true_and, and_self, Value.category, Option.toList, List.cons_append, List.nil_append, zvr, mw_s w3, mw_s79 w3, mw_s80 w3, mw_s81 w3, mw_s82 w3, mw_s83 w3, mw_s84 w3, mw_s85 w3, mw_r5 w3, mw_r15 w3, mw_r16 w3, mw_r17 w3, mw_r18 w3, mw_r21 w3, mw_r22 w3]
    refine cm_topsIn (C := zcl h3 p 0 0) o3 (Or.inl rfl) (fun b hb => o3.vcl hb) ?_
    simp only [oPI, oPL, oILOAD, oLLOAD, oALOAD, oISTORE, oASTORE, oLSTORE, oIINC, oIADD, oISUB, oIMUL, oIAND, oIOR, oIXOR, oIDIV, oIREM, oISHL, oISHR, oIUSHR, oLADD, oLSUB, oLMUL, oLOR, oLDIV, oLREM, oLCMP, oLSHL, oINEG, oI2L, oL2I, oI2B, oI2C, oDUP, oPOP, oDUP2, oIFEQ, oICEQ, oIFNE, oICNE, oIFLT, oICLT, oIFGE, oICGE, oIFGT, oICGT, oIFLE, oICLE, oIFNULL, oIFNONNULL, oTSW, oLSW, oGETI, oGETL, oGETR, oPUTI, oPUTZ, oPUTL, oPUTR, oIALD, oBALD, oZALD, oLALD, oAALD, oALEN, oIAST, oBAST, oZAST, oLAST, oIRET, oZRET, oLRET, oVRET, oARET, oOBJ, oINI, oPS, oNEW, oNEWAI, oNEWAB, oNEWAZ, oNEWAL, oCOPY, oINV0, oINS0, oINV1, oINS1, oINV2, oINS2, oINV3, oINS3, oINV4, oINS4, oINV5, oINS5, oINV6, oINS6, List.getElem?_cons_zero, List.getElem?_cons_succ, List.set_cons_zero, List.set_cons_succ, znl, zs4, zc1, true_and, and_self, Value.category, Option.toList, List.cons_append, List.nil_append, zvr, mw_s w3, mw_s79 w3, mw_s80 w3, mw_s81 w3, mw_s82 w3, mw_s83 w3, mw_s84 w3, mw_s85 w3, mw_r5 w3, mw_r15 w3, mw_r16 w3, mw_r17 w3, mw_r18 w3, mw_r21 w3, mw_r22 w3]
    refine cm_bits (by omega) ?_
    rw [tp3.2]
    have ev : zpop 12 (zheld (zcl h3 p 0 0) (zn h3 p)) = zpop 12 (zheld (zcl (zta h p a) p 0 0) (zn (zta h p a) p)) := by
      have q1 : ∀ b, gz h3 (p + 2) b = gz (zta h p a) (p + 2) b := fun b => by
        refine congrArg Int32.toInt ?_
        rw [e3 (p + 2) b (by omega) (by omega) (by omega) (by omega) (by omega) (by omega) (by omega), ← ec (p + 2) b (by omega) (by omega) (by omega) (by omega), hhc, zpi_o (by omega)]
      have q2 : ∀ b, gz h3 45 b = gz (zta h p a) 45 b := fun b => by
        refine congrArg Int32.toInt ?_
        rw [z45 b, ← c45 b, hhc, zpi_o (by omega)]
      have q3 : zn h3 p = zn (zta h p a) p := by
        unfold zn
        rw [show gz h3 p 1 = gz (zta h p a) p 1 from congrArg Int32.toInt (by rw [e3 p 1 (by omega) (by omega) (by omega) (by omega) (by omega) (by omega) (by omega), ← ec p 1 (by omega) (by omega) (by omega) (by omega), hhc, zpi_o (by omega)])]
      rw [q3, show zcl h3 p 0 0 = zcl (zta h p a) p 0 0 by funext b; unfold zcl; rw [q1 b, q2 b]]
    rw [ev]
    simp only [oPI, oPL, oILOAD, oLLOAD, oALOAD, oISTORE, oASTORE, oLSTORE, oIINC, oIADD, oISUB, oIMUL, oIAND, oIOR, oIXOR, oIDIV, oIREM, oISHL, oISHR, oIUSHR, oLADD, oLSUB, oLMUL, oLOR, oLDIV, oLREM, oLCMP, oLSHL, oINEG, oI2L, oL2I, oI2B, oI2C, oDUP, oPOP, oDUP2, oIFEQ, oICEQ, oIFNE, oICNE, oIFLT, oICLT, oIFGE, oICGE, oIFGT, oICGT, oIFLE, oICLE, oIFNULL, oIFNONNULL, oTSW, oLSW, oGETI, oGETL, oGETR, oPUTI, oPUTZ, oPUTL, oPUTR, oIALD, oBALD, oZALD, oLALD, oAALD, oALEN, oIAST, oBAST, oZAST, oLAST, oIRET, oZRET, oLRET, oVRET, oARET, oOBJ, oINI, oPS, oNEW, oNEWAI, oNEWAB, oNEWAZ, oNEWAL, oCOPY, oINV0, oINS0, oINV1, oINS1, oINV2, oINS2, oINV3, oINS3, oINV4, oINS4, oINV5, oINS5, oINV6, oINS6, List.getElem?_cons_zero, List.getElem?_cons_succ, List.set_cons_zero, List.set_cons_succ, znl, zs4, zc1, true_and, and_self, Value.category, Option.toList, List.cons_append, List.nil_append, zvr, mw_s w3, mw_s79 w3, mw_s80 w3, mw_s81 w3, mw_s82 w3, mw_s83 w3, mw_s84 w3, mw_s85 w3, mw_r5 w3, mw_r15 w3, mw_r16 w3, mw_r17 w3, mw_r18 w3, mw_r21 w3, mw_r22 w3]
    refine cm_good w3 ?_
    simp only [oPI, oPL, oILOAD, oLLOAD, oALOAD, oISTORE, oASTORE, oLSTORE, oIINC, oIADD, oISUB, oIMUL, oIAND, oIOR, oIXOR, oIDIV, oIREM, oISHL, oISHR, oIUSHR, oLADD, oLSUB, oLMUL, oLOR, oLDIV, oLREM, oLCMP, oLSHL, oINEG, oI2L, oL2I, oI2B, oI2C, oDUP, oPOP, oDUP2, oIFEQ, oICEQ, oIFNE, oICNE, oIFLT, oICLT, oIFGE, oICGE, oIFGT, oICGT, oIFLE, oICLE, oIFNULL, oIFNONNULL, oTSW, oLSW, oGETI, oGETL, oGETR, oPUTI, oPUTZ, oPUTL, oPUTR, oIALD, oBALD, oZALD, oLALD, oAALD, oALEN, oIAST, oBAST, oZAST, oLAST, oIRET, oZRET, oLRET, oVRET, oARET, oOBJ, oINI, oPS, oNEW, oNEWAI, oNEWAB, oNEWAZ, oNEWAL, oCOPY, oINV0, oINS0, oINV1, oINS1, oINV2, oINS2, oINV3, oINS3, oINV4, oINS4, oINV5, oINS5, oINV6, oINS6, List.getElem?_cons_zero, List.getElem?_cons_succ, List.set_cons_zero, List.set_cons_succ, znl, zs4, zc1, true_and, and_self, Value.category, Option.toList, List.cons_append, List.nil_append, zvr]
    obtain ⟨h4, hh4⟩ : ∃ h4, h4 = zrf h3 0 := ⟨_, rfl⟩
    rw [← hh4]
    have e4 : ∀ x y, ¬ (x = 78 ∧ (y = 1 ∨ y = 2)) → zgi h4 x y = zgi h3 x y := fun x y q => by rw [hh4]; unfold zrf; rw [zpi_o (by omega), zpi_o (by omega)]
    have e4h : ∀ x y, x ≠ 46 → x ≠ 48 + N → x ≠ 45 → ¬ (x = 16 ∧ y = 5) → ¬ (x = 78 ∧ (y = 0 ∨ y = 1 ∨ y = 2 ∨ y = 19)) → x ≠ 82 → x ≠ 80 → zgi h4 x y = zgi h x y := fun x y q1 q2 q3 q4 q5 q6 q7 => by rw [e4 x y (by omega)]; exact e3 x y q1 q2 q3 q4 (by omega) q6 q7
    have e4c : ∀ x y, x ≠ 82 → x ≠ 78 → x ≠ 80 → zgi h4 x y = zgi hc x y := fun x y q1 q2 q3 => by rw [e4 x y (by omega), a3.2.2 x y q3, r3 x y q1 (by omega), hh1, zpi_o (by omega)]
    refine k2 h4 (I.rem c0 hA hA2 hN hN2 (by rw [hh4]; exact h3a) (by rw [hh4]; exact h3b) (fun x y q1 q2 q3 q4 q5 q6 q7 q8 => e4h x y q2 (by omega) q1 q8 (by omega) (by omega) (by omega)) (fun x y hx => ?_) (fun y q1 q2 => e4h 78 y (by omega) (by omega) (by omega) (by omega) (by omega) (by omega) (by omega)) ?_ ?_ ?_ ?_ (congrArg Int32.toInt (e4h 78 20 (by omega) (by omega) (by omega) (by omega) (by omega) (by omega) (by omega))) ?_ (fun i hi => ?_) (fun i hi => ?_) (fun i hi => ?_))
    · rw [e4c x y (by omega) (by omega) (by omega), hhc, zpi_o (by omega)]
      unfold zta
      rw [zwr_o (by omega)]
    · rw [e4c 16 5 (by omega) (by omega) (by omega), hhc]; rfl
    · rw [hh4]; rfl
    · rw [hh4]; rfl
    · rw [show gz h4 78 19 = gz h2 78 19 from congrArg Int32.toInt (by rw [e4 78 19 (by omega), a3.2.2 78 19 (by omega)])]; exact r4
    · have q : ∀ y, gz h4 45 y = gz h3 45 y := fun y => congrArg Int32.toInt (e4 45 y (by omega))
      refine ⟨fun b hb => ?_, fun i hi => ?_, ?_⟩
      · rw [q]; exact u3.1 b hb
      · rw [q]; exact u3.2.1 i hi
      · rw [q]; exact u3.2.2
    · rw [e4 82 _ (by omega), a3.2.2 82 _ (by omega), r5 i hi, e1 80 i (by omega) (by omega) (by omega) (by omega) (by omega)]; exact o.vn i hi
    · rw [e4 82 _ (by omega), a3.2.2 82 _ (by omega), r6 i hi, e1 82 _ (by omega) (by omega) (by omega) (by omega) (by omega)]
    · rw [e4 80 i (by omega), e4 45 i (by omega)]; exact z80 i hi
end ZSB
