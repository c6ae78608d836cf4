section ZMT3
variable {X : Nat × (Nat → Int32)} {R : zRt} {h h' h0 h1 h2 : zHp} {t : Nat} {T : Nat → Int} {n s : Nat} {D : zDt} {e : zEr}
def zrowM (h h' : zHp) (t : Nat) : Prop := (∀ b : Nat, b < 6 → gz h' 80 b = if (b : Int) < gz h t 1 then gz h (t + 2) b else 0) ∧ (∀ i : Nat, i < 4 → gz h' 80 (6 + i) = (if (i : Int) < gz h t 6 then zsp (gz h (t + 8) i) (gz h (t + 9) i) else 0) ∧ gz h' 80 (10 + i) = 0) ∧ gz h' 80 14 = 0
theorem cm_tubeTail {c : Int} (I : zMI h0 h t T n s D) (k : ∀ h', h'.1 = h.1 → h'.2.2 = (zpr h 78 3 (some t)).2.2 → (∀ x y, x ≠ 80 → x ≠ 78 → zgi h' x y = zgi h x y) → (∀ y, 3 ≤ y → y ≠ 19 → y ≠ 20 → zgi h' 78 y = zgi h 78 y) → zgi h' 78 0 = zgi h 78 0 → zgi h' 78 1 = zj 0 → zgi h' 78 2 = zj (-1) → zgi h' 78 19 = zj 0 → zgi h' 78 20 = zj 0 → zrowM h h' t → R (some (.int (zj (D.2.1.length : Nat)))) h') : zV X M_X9_tube (zQm M_X9_tube R) 14 109 89 [.ref 78, .int (zj c), .retAddr 0] [] h := by
  have w := I.w
  have q := I.q
  have r := I.r
  have ht := I.b.2.2
  have ob := I.o.2.2.1
  obtain ⟨f0, f1, f2, f3, sb, f4, sm, f5, sh, f6, sp, f7, sn⟩ := I.d
  obtain ⟨h1, hh1⟩ : ∃ h1, h1 = zpr h 78 3 (some t) := ⟨_, rfl⟩
  obtain ⟨m, hm⟩ : ∃ m, D.2.1.length = m := ⟨_, rfl⟩
  obtain ⟨u, hu⟩ : ∃ u, D.2.2.2.2.1.length = u := ⟨_, rfl⟩
  rw [hm] at f1 k ob
  rw [hu] at f6 ob
  have tr : ∀ hk : zHp, hk.1 = h1.1 → hk.2.2 = h1.2.2 → zMW hk ∧ zTq hk t ∧ zgr hk 78 3 = some t := fun hk e1 e2 => by
    rw [hh1] at e1 e2
    have a1 : ∀ x, zsh hk x = zsh h x := fun x => congrArg (fun z => z.2 x) e1
    have a2 : ∀ x y, zgr hk x y = zgr (zpr h 78 3 (some t)) x y := fun x y => congrArg (fun z => z.2 x y) e2
    have a3 : ∀ x y, ¬ (x = 78 ∧ y = 3) → zgr hk x y = zgr h x y := fun x y z => by rw [a2, zgr_pr, if_neg z]
    refine ⟨?_, ?_, by rw [a2, zgr_pr, if_pos ⟨rfl, rfl⟩]⟩
    · unfold zMW at w ⊢
      simp (disch := omega) only [a1, a3]
      exact w
    · unfold zTq at q ⊢
      simp (disch := omega) only [a1, a3]
      exact q
  have wr : ∀ (hk : zHp) (j b : Nat) (x : Int32), gz (zpi hk 80 j x) 80 b = if b = j then x.toInt else gz hk 80 b := fun hk j b x => by
    show (zgi (zpi hk 80 j x) 80 b).toInt = _
    by_cases z : b = j
    · subst z; rw [zpi_s, if_pos rfl]
    · rw [zpi_o (by omega), if_neg z]; rfl
  refine vb_X9_tube_89 _ _ _ ?_
  simp only [B_X9_tube_89, oPI, oPL, oILOAD, oLLOAD, oALOAD, oISTORE, oASTORE, oLSTORE, oIINC, oIADD, oISUB, oIMUL, oIAND, oIOR, oIXOR, oIDIV, oIREM, oISHL, oISHR, oIUSHR, oLADD, oLSUB, oLMUL, oLOR, oLDIV, oLREM, oLCMP, oLSHL, oINEG, oI2L, oL2I, oI2B, oI2C, oDUP, oPOP, oDUP2, oIFEQ, oICEQ, oIFNE, oICNE, oIFLT, oICLT, oIFGE, oICGE, oIFGT, oICGT, oIFLE, oICLE, oIFNULL, oIFNONNULL, oTSW, oLSW, oGETI, oGETL, oGETR, oPUTI, oPUTZ, oPUTL, oPUTR, oIALD, oBALD, oZALD, oLALD, oAALD, oALEN, oIAST, oBAST, oZAST, oLAST, oIRET, oZRET, oLRET, oVRET, oARET, oOBJ, oINI, oPS, oNEW, oNEWAI, oNEWAB, oNEWAZ, oNEWAL, oCOPY, oINV0, oINS0, oINV1, oINS1, oINV2, oINS2, oINV3, oINS3, oINV4, oINS4, oINV5, oINS5, oINV6, oINS6, List.getElem?_cons_zero, List.getElem?_cons_succ, List.set_cons_zero, List.set_cons_succ, znl, zs4, zc1, true_and, and_self, Value.category, Option.toList, List.cons_append, List.nil_append, zvr, mw_s w, mw_s79 w, mw_s80 w, mw_s81 w, mw_s82 w, mw_s83 w, mw_s84 w, mw_s85 w, mw_r5 w, mw_r15 w, mw_r16 w, mw_r17 w, mw_r18 w, mw_r21 w, mw_r22 w, r, zsh_pr]
  rw [← hh1]
  refine zdown (m := 15) (P := fun i => ∀ hk : zHp, hk.1 = h1.1 → hk.2.2 = h1.2.2 → (∀ x y, x ≠ 80 → zgi hk x y = zgi h x y) → (∀ b : Nat, b < i → gz hk 80 b = 0) → zV X M_X9_tube (zQm M_X9_tube R) 14 109 99 [.ref 78, .int (zj c), .int (zj i)] [] hk) (fun i hi ih hk e1 e2 e3 e4 => ?_) 0 (by omega) h1 rfl rfl (fun x y _ => by rw [hh1]; rfl) (fun b hb => by omega)
  obtain ⟨wk, qk, rk⟩ := tr hk e1 e2
  by_cases ci : i = 15
  rotate_left
  · refine vb_X9_tube_99 _ _ _ ?_
    simp only [B_X9_tube_99, oPI, oPL, oILOAD, oLLOAD, oALOAD, oISTORE, oASTORE, oLSTORE, oIINC, oIADD, oISUB, oIMUL, oIAND, oIOR, oIXOR, oIDIV, oIREM, oISHL, oISHR, oIUSHR, oLADD, oLSUB, oLMUL, oLOR, oLDIV, oLREM, oLCMP, oLSHL, oINEG, oI2L, oL2I, oI2B, oI2C, oDUP, oPOP, oDUP2, oIFEQ, oICEQ, oIFNE, oICNE, oIFLT, oICLT, oIFGE, oICGE, oIFGT, oICGT, oIFLE, oICLE, oIFNULL, oIFNONNULL, oTSW, oLSW, oGETI, oGETL, oGETR, oPUTI, oPUTZ, oPUTL, oPUTR, oIALD, oBALD, oZALD, oLALD, oAALD, oALEN, oIAST, oBAST, oZAST, oLAST, oIRET, oZRET, oLRET, oVRET, oARET, oOBJ, oINI, oPS, oNEW, oNEWAI, oNEWAB, oNEWAZ, oNEWAL, oCOPY, oINV0, oINS0, oINV1, oINS1, oINV2, oINS2, oINV3, oINS3, oINV4, oINS4, oINV5, oINS5, oINV6, oINS6, List.getElem?_cons_zero, List.getElem?_cons_succ, List.set_cons_zero, List.set_cons_succ, znl, zs4, zc1, true_and, and_self, Value.category, Option.toList, List.cons_append, List.nil_append, zvr, mw_s wk, mw_s79 wk, mw_s80 wk, mw_s81 wk, mw_s82 wk, mw_s83 wk, mw_s84 wk, mw_s85 wk, mw_r5 wk, mw_r15 wk, mw_r16 wk, mw_r17 wk, mw_r18 wk, mw_r21 wk, mw_r22 wk]
    rw [zj_cn (by omega)]
    try simp (disch := omega) only [zgi_gz, zj_cn, zj_lt, zj_le, zj_eq, zj_add, zj_sub, zj_mul, zj_neg, zj_lt0, zj_le0, zj_0le, zj_0lt, zj_eq0, zb_0, zb_z, Classical.not_not, Int.zero_add, Int.add_zero, zj_remn, zj_divn]
    refine ⟨fun z => by omega, fun _ => ⟨zj_in (by omega) (by omega) (by omega), ih (by omega) _ e1 e2 (fun x y z => by rw [zpi_o (by omega)]; exact e3 x y z) (fun b hb => ?_)⟩⟩
    rw [wr]
    by_cases z : b = i
    · rw [if_pos z]; rfl
    · rw [if_neg z]; exact e4 b (by omega)
  subst ci
  refine vb_X9_tube_99 _ _ _ ?_
  simp only [B_X9_tube_99, oPI, oPL, oILOAD, oLLOAD, oALOAD, oISTORE, oASTORE, oLSTORE, oIINC, oIADD, oISUB, oIMUL, oIAND, oIOR, oIXOR, oIDIV, oIREM, oISHL, oISHR, oIUSHR, oLADD, oLSUB, oLMUL, oLOR, oLDIV, oLREM, oLCMP, oLSHL, oINEG, oI2L, oL2I, oI2B, oI2C, oDUP, oPOP, oDUP2, oIFEQ, oICEQ, oIFNE, oICNE, oIFLT, oICLT, oIFGE, oICGE, oIFGT, oICGT, oIFLE, oICLE, oIFNULL, oIFNONNULL, oTSW, oLSW, oGETI, oGETL, oGETR, oPUTI, oPUTZ, oPUTL, oPUTR, oIALD, oBALD, oZALD, oLALD, oAALD, oALEN, oIAST, oBAST, oZAST, oLAST, oIRET, oZRET, oLRET, oVRET, oARET, oOBJ, oINI, oPS, oNEW, oNEWAI, oNEWAB, oNEWAZ, oNEWAL, oCOPY, oINV0, oINS0, oINV1, oINS1, oINV2, oINS2, oINV3, oINS3, oINV4, oINS4, oINV5, oINS5, oINV6, oINS6, List.getElem?_cons_zero, List.getElem?_cons_succ, List.set_cons_zero, List.set_cons_succ, znl, zs4, zc1, true_and, and_self, Value.category, Option.toList, List.cons_append, List.nil_append, zvr, mw_s wk, mw_s79 wk, mw_s80 wk, mw_s81 wk, mw_s82 wk, mw_s83 wk, mw_s84 wk, mw_s85 wk, mw_r5 wk, mw_r15 wk, mw_r16 wk, mw_r17 wk, mw_r18 wk, mw_r21 wk, mw_r22 wk]
  try simp (disch := omega) only [zgi_gz, zj_cn, zj_lt, zj_le, zj_eq, zj_add, zj_sub, zj_mul, zj_neg, zj_lt0, zj_le0, zj_0le, zj_0lt, zj_eq0, zb_0, zb_z, Classical.not_not, Int.zero_add, Int.add_zero, zj_remn, zj_divn]
  refine ⟨fun _ => ?_, fun z => (by first | omega | exact absurd rfl z | exact absurd trivial z | exact absurd z (by decide))⟩
  refine vb_X9_tube_118 _ _ _ ?_
  simp only [B_X9_tube_118, oPI, oPL, oILOAD, oLLOAD, oALOAD, oISTORE, oASTORE, oLSTORE, oIINC, oIADD, oISUB, oIMUL, oIAND, oIOR, oIXOR, oIDIV, oIREM, oISHL, oISHR, oIUSHR, oLADD, oLSUB, oLMUL, oLOR, oLDIV, oLREM, oLCMP, oLSHL, oINEG, oI2L, oL2I, oI2B, oI2C, oDUP, oPOP, oDUP2, oIFEQ, oICEQ, oIFNE, oICNE, oIFLT, oICLT, oIFGE, oICGE, oIFGT, oICGT, oIFLE, oICLE, oIFNULL, oIFNONNULL, oTSW, oLSW, oGETI, oGETL, oGETR, oPUTI, oPUTZ, oPUTL, oPUTR, oIALD, oBALD, oZALD, oLALD, oAALD, oALEN, oIAST, oBAST, oZAST, oLAST, oIRET, oZRET, oLRET, oVRET, oARET, oOBJ, oINI, oPS, oNEW, oNEWAI, oNEWAB, oNEWAZ, oNEWAL, oCOPY, oINV0, oINS0, oINV1, oINS1, oINV2, oINS2, oINV3, oINS3, oINV4, oINS4, oINV5, oINS5, oINV6, oINS6, List.getElem?_cons_zero, List.getElem?_cons_succ, List.set_cons_zero, List.set_cons_succ, znl, zs4, zc1, true_and, and_self, Value.category, Option.toList, List.cons_append, List.nil_append, zvr]
  refine zdown (m := m) (P := fun i => ∀ hk : zHp, hk.1 = h1.1 → hk.2.2 = h1.2.2 → (∀ x y, x ≠ 80 → zgi hk x y = zgi h x y) → (∀ b : Nat, b < 15 → gz hk 80 b = if b < i then gz h (t + 2) b else 0) → zV X M_X9_tube (zQm M_X9_tube R) 14 109 120 [.ref 78, .int (zj c), .int (zj i)] [] hk) (fun i hi ih hk e1 e2 e3 e4 => ?_) 0 (by omega) hk e1 e2 e3 (fun b hb => by rw [if_neg (by omega)]; exact e4 b hb)
  clear wk qk rk
  obtain ⟨wk, qk, rk⟩ := tr hk e1 e2
  have g1 : zgi hk t 1 = zj (m : Nat) := by rw [e3 t 1 (by omega), zgi_gz, f1]
  by_cases ci : i = m
  rotate_left
  · refine vb_X9_tube_120 _ _ _ ?_
    simp only [B_X9_tube_120, oPI, oPL, oILOAD, oLLOAD, oALOAD, oISTORE, oASTORE, oLSTORE, oIINC, oIADD, oISUB, oIMUL, oIAND, oIOR, oIXOR, oIDIV, oIREM, oISHL, oISHR, oIUSHR, oLADD, oLSUB, oLMUL, oLOR, oLDIV, oLREM, oLCMP, oLSHL, oINEG, oI2L, oL2I, oI2B, oI2C, oDUP, oPOP, oDUP2, oIFEQ, oICEQ, oIFNE, oICNE, oIFLT, oICLT, oIFGE, oICGE, oIFGT, oICGT, oIFLE, oICLE, oIFNULL, oIFNONNULL, oTSW, oLSW, oGETI, oGETL, oGETR, oPUTI, oPUTZ, oPUTL, oPUTR, oIALD, oBALD, oZALD, oLALD, oAALD, oALEN, oIAST, oBAST, oZAST, oLAST, oIRET, oZRET, oLRET, oVRET, oARET, oOBJ, oINI, oPS, oNEW, oNEWAI, oNEWAB, oNEWAZ, oNEWAL, oCOPY, oINV0, oINS0, oINV1, oINS1, oINV2, oINS2, oINV3, oINS3, oINV4, oINS4, oINV5, oINS5, oINV6, oINS6, List.getElem?_cons_zero, List.getElem?_cons_succ, List.set_cons_zero, List.set_cons_succ, znl, zs4, zc1, true_and, and_self, Value.category, Option.toList, List.cons_append, List.nil_append, zvr, mw_s wk, mw_s79 wk, mw_s80 wk, mw_s81 wk, mw_s82 wk, mw_s83 wk, mw_s84 wk, mw_s85 wk, mw_r5 wk, mw_r15 wk, mw_r16 wk, mw_r17 wk, mw_r18 wk, mw_r21 wk, mw_r22 wk, zq_s qk, zq_s1 qk, zq_r8 qk, zq_s2 qk, zq_r9 qk, zq_s3 qk, zq_r10 qk, zq_s4 qk, zq_r11 qk, zq_s5 qk, zq_r12 qk, zq_s6 qk, zq_r13 qk, zq_s7 qk, zq_r14 qk, zq_s8 qk, zq_r15 qk, zq_s9 qk, zq_r16 qk, zq_s10 qk, zq_r17 qk, zq_s11 qk, zq_r18 qk, zq_s12 qk, zq_r19 qk, zq_s13 qk, zq_r20 qk, rk]
    rw [g1, zj_add, Int.zero_add, zj_cn (by omega)]
    try simp (disch := omega) only [zgi_gz, zj_cn, zj_lt, zj_le, zj_eq, zj_add, zj_sub, zj_mul, zj_neg, zj_lt0, zj_le0, zj_0le, zj_0lt, zj_eq0, zb_0, zb_z, Classical.not_not, Int.zero_add, Int.add_zero, zj_remn, zj_divn]
    refine ⟨fun z => by omega, fun _ => ⟨zj_in (by omega) (by omega) (by omega), zj_in (by omega) (by omega) (by omega), ih (by omega) _ e1 e2 (fun x y z => by rw [zpi_o (by omega)]; exact e3 x y z) (fun b hb => ?_)⟩⟩
    rw [wr]
    by_cases z : b = i
    · rw [if_pos z, if_pos (by omega), z, ← zgi_gz, e3 (t + 2) i (by omega)]; rfl
    · rw [if_neg z, e4 b hb]
      by_cases z2 : b < i
      · rw [if_pos z2, if_pos (by omega)]
      · rw [if_neg z2, if_neg (by omega)]
  subst ci
  refine vb_X9_tube_120 _ _ _ ?_
  simp only [B_X9_tube_120, oPI, oPL, oILOAD, oLLOAD, oALOAD, oISTORE, oASTORE, oLSTORE, oIINC, oIADD, oISUB, oIMUL, oIAND, oIOR, oIXOR, oIDIV, oIREM, oISHL, oISHR, oIUSHR, oLADD, oLSUB, oLMUL, oLOR, oLDIV, oLREM, oLCMP, oLSHL, oINEG, oI2L, oL2I, oI2B, oI2C, oDUP, oPOP, oDUP2, oIFEQ, oICEQ, oIFNE, oICNE, oIFLT, oICLT, oIFGE, oICGE, oIFGT, oICGT, oIFLE, oICLE, oIFNULL, oIFNONNULL, oTSW, oLSW, oGETI, oGETL, oGETR, oPUTI, oPUTZ, oPUTL, oPUTR, oIALD, oBALD, oZALD, oLALD, oAALD, oALEN, oIAST, oBAST, oZAST, oLAST, oIRET, oZRET, oLRET, oVRET, oARET, oOBJ, oINI, oPS, oNEW, oNEWAI, oNEWAB, oNEWAZ, oNEWAL, oCOPY, oINV0, oINS0, oINV1, oINS1, oINV2, oINS2, oINV3, oINS3, oINV4, oINS4, oINV5, oINS5, oINV6, oINS6, List.getElem?_cons_zero, List.getElem?_cons_succ, List.set_cons_zero, List.set_cons_succ, znl, zs4, zc1, true_and, and_self, Value.category, Option.toList, List.cons_append, List.nil_append, zvr, mw_s wk, mw_s79 wk, mw_s80 wk, mw_s81 wk, mw_s82 wk, mw_s83 wk, mw_s84 wk, mw_s85 wk, mw_r5 wk, mw_r15 wk, mw_r16 wk, mw_r17 wk, mw_r18 wk, mw_r21 wk, mw_r22 wk, zq_s qk, zq_s1 qk, zq_r8 qk, zq_s2 qk, zq_r9 qk, zq_s3 qk, zq_r10 qk, zq_s4 qk, zq_r11 qk, zq_s5 qk, zq_r12 qk, zq_s6 qk, zq_r13 qk, zq_s7 qk, zq_r14 qk, zq_s8 qk, zq_r15 qk, zq_s9 qk, zq_r16 qk, zq_s10 qk, zq_r17 qk, zq_s11 qk, zq_r18 qk, zq_s12 qk, zq_r19 qk, zq_s13 qk, zq_r20 qk, rk]
  rw [g1]
  try simp (disch := omega) only [zgi_gz, zj_cn, zj_lt, zj_le, zj_eq, zj_add, zj_sub, zj_mul, zj_neg, zj_lt0, zj_le0, zj_0le, zj_0lt, zj_eq0, zb_0, zb_z, Classical.not_not, Int.zero_add, Int.add_zero, zj_remn, zj_divn]
  refine ⟨fun _ => ?_, fun z => (by first | omega | exact absurd rfl z | exact absurd trivial z | exact absurd z (by decide))⟩
  refine vb_X9_tube_154 _ _ _ ?_
  simp only [B_X9_tube_154, oPI, oPL, oILOAD, oLLOAD, oALOAD, oISTORE, oASTORE, oLSTORE, oIINC, oIADD, oISUB, oIMUL, oIAND, oIOR, oIXOR, oIDIV, oIREM, oISHL, oISHR, oIUSHR, oLADD, oLSUB, oLMUL, oLOR, oLDIV, oLREM, oLCMP, oLSHL, oINEG, oI2L, oL2I, oI2B, oI2C, oDUP, oPOP, oDUP2, oIFEQ, oICEQ, oIFNE, oICNE, oIFLT, oICLT, oIFGE, oICGE, oIFGT, oICGT, oIFLE, oICLE, oIFNULL, oIFNONNULL, oTSW, oLSW, oGETI, oGETL, oGETR, oPUTI, oPUTZ, oPUTL, oPUTR, oIALD, oBALD, oZALD, oLALD, oAALD, oALEN, oIAST, oBAST, oZAST, oLAST, oIRET, oZRET, oLRET, oVRET, oARET, oOBJ, oINI, oPS, oNEW, oNEWAI, oNEWAB, oNEWAZ, oNEWAL, oCOPY, oINV0, oINS0, oINV1, oINS1, oINV2, oINS2, oINV3, oINS3, oINV4, oINS4, oINV5, oINS5, oINV6, oINS6, List.getElem?_cons_zero, List.getElem?_cons_succ, List.set_cons_zero, List.set_cons_succ, znl, zs4, zc1, true_and, and_self, Value.category, Option.toList, List.cons_append, List.nil_append, zvr]
  clear ih
  have e5 : ∀ b : Nat, b < 15 → gz hk 80 b = if b < i then gz h (t + 2) b else if 6 ≤ b ∧ b < 6 + 0 then zsp (gz h (t + 8) (b - 6)) (gz h (t + 9) (b - 6)) else 0 := fun b hb => by
    rw [e4 b hb, if_neg (show ¬ (6 ≤ b ∧ b < 6 + 0) by omega)]
  clear e4
  refine zdown (m := u) (P := fun j => ∀ hk : zHp, hk.1 = h1.1 → hk.2.2 = h1.2.2 → (∀ x y, x ≠ 80 → zgi hk x y = zgi h x y) → (∀ b : Nat, b < 15 → gz hk 80 b = if b < i then gz h (t + 2) b else if 6 ≤ b ∧ b < 6 + j then zsp (gz h (t + 8) (b - 6)) (gz h (t + 9) (b - 6)) else 0) → zV X M_X9_tube (zQm M_X9_tube R) 14 109 156 [.ref 78, .int (zj c), .int (zj j)] [] hk) (fun j hj ih hk e1 e2 e3 e4 => ?_) 0 (by omega) hk e1 e2 e3 e5
  clear e5 g1 wk qk rk
  obtain ⟨wk, qk, rk⟩ := tr hk e1 e2
  have g6 : zgi hk t 6 = zj (u : Nat) := by rw [e3 t 6 (by omega), zgi_gz, f6]
  have g1 : zgi hk t 1 = zj (i : Nat) := by rw [e3 t 1 (by omega), zgi_gz, f1]
  by_cases cj : j = u
  rotate_left
  · obtain ⟨x, hx⟩ : ∃ x, D.2.2.2.2.1[j]? = some x := ⟨_, List.getElem?_eq_getElem (by omega)⟩
    have sx := sp j x hx
    have ox := I.o.2.2.2.2.2.2.1 j x hx
    have v8 : zgi hk (t + 8) j = zj (x.2.1 : Nat) := by rw [e3 (t + 8) j (by omega), zgi_gz, sx.1]
    have v9 : zgi hk (t + 9) j = zj (x.2.2 : Nat) := by rw [e3 (t + 9) j (by omega), zgi_gz, sx.2]
    refine vb_X9_tube_156 _ _ _ ?_
    simp only [B_X9_tube_156, oPI, oPL, oILOAD, oLLOAD, oALOAD, oISTORE, oASTORE, oLSTORE, oIINC, oIADD, oISUB, oIMUL, oIAND, oIOR, oIXOR, oIDIV, oIREM, oISHL, oISHR, oIUSHR, oLADD, oLSUB, oLMUL, oLOR, oLDIV, oLREM, oLCMP, oLSHL, oINEG, oI2L, oL2I, oI2B, oI2C, oDUP, oPOP, oDUP2, oIFEQ, oICEQ, oIFNE, oICNE, oIFLT, oICLT, oIFGE, oICGE, oIFGT, oICGT, oIFLE, oICLE, oIFNULL, oIFNONNULL, oTSW, oLSW, oGETI, oGETL, oGETR, oPUTI, oPUTZ, oPUTL, oPUTR, oIALD, oBALD, oZALD, oLALD, oAALD, oALEN, oIAST, oBAST, oZAST, oLAST, oIRET, oZRET, oLRET, oVRET, oARET, oOBJ, oINI, oPS, oNEW, oNEWAI, oNEWAB, oNEWAZ, oNEWAL, oCOPY, oINV0, oINS0, oINV1, oINS1, oINV2, oINS2, oINV3, oINS3, oINV4, oINS4, oINV5, oINS5, oINV6, oINS6, List.getElem?_cons_zero, List.getElem?_cons_succ, List.set_cons_zero, List.set_cons_succ, znl, zs4, zc1, true_and, and_self, Value.category, Option.toList, List.cons_append, List.nil_append, zvr, mw_s wk, mw_s79 wk, mw_s80 wk, mw_s81 wk, mw_s82 wk, mw_s83 wk, mw_s84 wk, mw_s85 wk, mw_r5 wk, mw_r15 wk, mw_r16 wk, mw_r17 wk, mw_r18 wk, mw_r21 wk, mw_r22 wk, zq_s qk, zq_s1 qk, zq_r8 qk, zq_s2 qk, zq_r9 qk, zq_s3 qk, zq_r10 qk, zq_s4 qk, zq_r11 qk, zq_s5 qk, zq_r12 qk, zq_s6 qk, zq_r13 qk, zq_s7 qk, zq_r14 qk, zq_s8 qk, zq_r15 qk, zq_s9 qk, zq_r16 qk, zq_s10 qk, zq_r17 qk, zq_s11 qk, zq_r18 qk, zq_s12 qk, zq_r19 qk, zq_s13 qk, zq_r20 qk, rk]
    rw [g6, zj_add, zj_cn (by omega), v8, v9]
    simp (disch := omega) only [zj_le]
    refine ⟨fun z => by omega, fun _ => ⟨zj_in (by omega) (by omega) (by omega), zj_in (by omega) (by omega) (by omega), ?_⟩⟩
    refine cm_placeOf (by omega) (by omega) (by omega) (by omega) ?_
    have hsp := zsp_b (j := x.2.1) (c := x.2.2) (by omega) (by omega) (by omega) (by omega)
    simp only [oPI, oPL, oILOAD, oLLOAD, oALOAD, oISTORE, oASTORE, oLSTORE, oIINC, oIADD, oISUB, oIMUL, oIAND, oIOR, oIXOR, oIDIV, oIREM, oISHL, oISHR, oIUSHR, oLADD, oLSUB, oLMUL, oLOR, oLDIV, oLREM, oLCMP, oLSHL, oINEG, oI2L, oL2I, oI2B, oI2C, oDUP, oPOP, oDUP2, oIFEQ, oICEQ, oIFNE, oICNE, oIFLT, oICLT, oIFGE, oICGE, oIFGT, oICGT, oIFLE, oICLE, oIFNULL, oIFNONNULL, oTSW, oLSW, oGETI, oGETL, oGETR, oPUTI, oPUTZ, oPUTL, oPUTR, oIALD, oBALD, oZALD, oLALD, oAALD, oALEN, oIAST, oBAST, oZAST, oLAST, oIRET, oZRET, oLRET, oVRET, oARET, oOBJ, oINI, oPS, oNEW, oNEWAI, oNEWAB, oNEWAZ, oNEWAL, oCOPY, oINV0, oINS0, oINV1, oINS1, oINV2, oINS2, oINV3, oINS3, oINV4, oINS4, oINV5, oINS5, oINV6, oINS6, List.getElem?_cons_zero, List.getElem?_cons_succ, List.set_cons_zero, List.set_cons_succ, znl, zs4, zc1, true_and, and_self, Value.category, Option.toList, List.cons_append, List.nil_append, zvr, mw_s wk, mw_s79 wk, mw_s80 wk, mw_s81 wk, mw_s82 wk, mw_s83 wk, mw_s84 wk, mw_s85 wk, mw_r5 wk, mw_r15 wk, mw_r16 wk, mw_r17 wk, mw_r18 wk, mw_r21 wk, mw_r22 wk]
    rw [show (6 : Int) + (j : Int) = ((6 + j : Nat) : Int) by omega, zj_cn (by omega), zj_add]
    refine ⟨zj_in (by omega) (by omega) (by omega), ih (by omega) _ e1 e2 (fun x y z => by rw [zpi_o (by omega)]; exact e3 x y z) (fun b hb => ?_)⟩
    rw [wr]
    by_cases z : b = 6 + j
    · rw [if_pos z, if_neg (by omega), if_pos (by omega), z, show 6 + j - 6 = j by omega, sx.1, sx.2]
      exact zj_toInt (by omega) (by omega)
    · rw [if_neg z, e4 b hb]
      by_cases z1 : b < i
      · rw [if_pos z1, if_pos z1]
      · rw [if_neg z1, if_neg z1]
        by_cases z2 : 6 ≤ b ∧ b < 6 + j
        · rw [if_pos z2, if_pos (by omega)]
        · rw [if_neg z2, if_neg (by omega)]
  subst cj
  refine vb_X9_tube_156 _ _ _ ?_
  simp only [B_X9_tube_156, oPI, oPL, oILOAD, oLLOAD, oALOAD, oISTORE, oASTORE, oLSTORE, oIINC, oIADD, oISUB, oIMUL, oIAND, oIOR, oIXOR, oIDIV, oIREM, oISHL, oISHR, oIUSHR, oLADD, oLSUB, oLMUL, oLOR, oLDIV, oLREM, oLCMP, oLSHL, oINEG, oI2L, oL2I, oI2B, oI2C, oDUP, oPOP, oDUP2, oIFEQ, oICEQ, oIFNE, oICNE, oIFLT, oICLT, oIFGE, oICGE, oIFGT, oICGT, oIFLE, oICLE, oIFNULL, oIFNONNULL, oTSW, oLSW, oGETI, oGETL, oGETR, oPUTI, oPUTZ, oPUTL, oPUTR, oIALD, oBALD, oZALD, oLALD, oAALD, oALEN, oIAST, oBAST, oZAST, oLAST, oIRET, oZRET, oLRET, oVRET, oARET, oOBJ, oINI, oPS, oNEW, oNEWAI, oNEWAB, oNEWAZ, oNEWAL, oCOPY, oINV0, oINS0, oINV1, oINS1, oINV2, oINS2, oINV3, oINS3, oINV4, oINS4, oINV5, oINS5, oINV6, oINS6, List.getElem?_cons_zero, List.getElem?_cons_succ, List.set_cons_zero, List.set_cons_succ, znl, zs4, zc1, true_and, and_self, Value.category, Option.toList, List.cons_append, List.nil_append, zvr, mw_s wk, mw_s79 wk, mw_s80 wk, mw_s81 wk, mw_s82 wk, mw_s83 wk, mw_s84 wk, mw_s85 wk, mw_r5 wk, mw_r15 wk, mw_r16 wk, mw_r17 wk, mw_r18 wk, mw_r21 wk, mw_r22 wk, zq_s qk, zq_s1 qk, zq_r8 qk, zq_s2 qk, zq_r9 qk, zq_s3 qk, zq_r10 qk, zq_s4 qk, zq_r11 qk, zq_s5 qk, zq_r12 qk, zq_s6 qk, zq_r13 qk, zq_s7 qk, zq_r14 qk, zq_s8 qk, zq_r15 qk, zq_s9 qk, zq_r16 qk, zq_s10 qk, zq_r17 qk, zq_s11 qk, zq_r18 qk, zq_s12 qk, zq_r19 qk, zq_s13 qk, zq_r20 qk, rk]
  rw [g6]
  try simp (disch := omega) only [zgi_gz, zj_cn, zj_lt, zj_le, zj_eq, zj_add, zj_sub, zj_mul, zj_neg, zj_lt0, zj_le0, zj_0le, zj_0lt, zj_eq0, zb_0, zb_z, Classical.not_not, Int.zero_add, Int.add_zero, zj_remn, zj_divn]
  refine ⟨fun _ => ?_, fun z => (by first | omega | exact absurd rfl z | exact absurd trivial z | exact absurd z (by decide))⟩
  have g1' : zgi (zpi (zpi hk 78 19 (zj 0)) 78 20 (zj 0)) t 1 = zj (i : Nat) := by rw [zpi_o (by omega), zpi_o (by omega)]; exact g1
  refine vb_X9_tube_203 _ _ _ ?_
  simp only [B_X9_tube_203, oPI, oPL, oILOAD, oLLOAD, oALOAD, oISTORE, oASTORE, oLSTORE, oIINC, oIADD, oISUB, oIMUL, oIAND, oIOR, oIXOR, oIDIV, oIREM, oISHL, oISHR, oIUSHR, oLADD, oLSUB, oLMUL, oLOR, oLDIV, oLREM, oLCMP, oLSHL, oINEG, oI2L, oL2I, oI2B, oI2C, oDUP, oPOP, oDUP2, oIFEQ, oICEQ, oIFNE, oICNE, oIFLT, oICLT, oIFGE, oICGE, oIFGT, oICGT, oIFLE, oICLE, oIFNULL, oIFNONNULL, oTSW, oLSW, oGETI, oGETL, oGETR, oPUTI, oPUTZ, oPUTL, oPUTR, oIALD, oBALD, oZALD, oLALD, oAALD, oALEN, oIAST, oBAST, oZAST, oLAST, oIRET, oZRET, oLRET, oVRET, oARET, oOBJ, oINI, oPS, oNEW, oNEWAI, oNEWAB, oNEWAZ, oNEWAL, oCOPY, oINV0, oINS0, oINV1, oINS1, oINV2, oINS2, oINV3, oINS3, oINV4, oINS4, oINV5, oINS5, oINV6, oINS6, List.getElem?_cons_zero, List.getElem?_cons_succ, List.set_cons_zero, List.set_cons_succ, znl, zs4, zc1, true_and, and_self, Value.category, Option.toList, List.cons_append, List.nil_append, zvr, mw_s wk, mw_s79 wk, mw_s80 wk, mw_s81 wk, mw_s82 wk, mw_s83 wk, mw_s84 wk, mw_s85 wk, mw_r5 wk, mw_r15 wk, mw_r16 wk, mw_r17 wk, mw_r18 wk, mw_r21 wk, mw_r22 wk, zq_s qk, zq_s1 qk, zq_r8 qk, zq_s2 qk, zq_r9 qk, zq_s3 qk, zq_r10 qk, zq_s4 qk, zq_r11 qk, zq_s5 qk, zq_r12 qk, zq_s6 qk, zq_r13 qk, zq_s7 qk, zq_r14 qk, zq_s8 qk, zq_r15 qk, zq_s9 qk, zq_r16 qk, zq_s10 qk, zq_r17 qk, zq_s11 qk, zq_r18 qk, zq_s12 qk, zq_r19 qk, zq_s13 qk, zq_r20 qk, rk, zsh_pi, zgr_pi]
  rw [g1']
  refine cm_good (h := zpi (zpi hk 78 19 (zj 0)) 78 20 (zj 0)) wk ?_
  unfold zrf
  simp only [oPI, oPL, oILOAD, oLLOAD, oALOAD, oISTORE, oASTORE, oLSTORE, oIINC, oIADD, oISUB, oIMUL, oIAND, oIOR, oIXOR, oIDIV, oIREM, oISHL, oISHR, oIUSHR, oLADD, oLSUB, oLMUL, oLOR, oLDIV, oLREM, oLCMP, oLSHL, oINEG, oI2L, oL2I, oI2B, oI2C, oDUP, oPOP, oDUP2, oIFEQ, oICEQ, oIFNE, oICNE, oIFLT, oICLT, oIFGE, oICGE, oIFGT, oICGT, oIFLE, oICLE, oIFNULL, oIFNONNULL, oTSW, oLSW, oGETI, oGETL, oGETR, oPUTI, oPUTZ, oPUTL, oPUTR, oIALD, oBALD, oZALD, oLALD, oAALD, oALEN, oIAST, oBAST, oZAST, oLAST, oIRET, oZRET, oLRET, oVRET, oARET, oOBJ, oINI, oPS, oNEW, oNEWAI, oNEWAB, oNEWAZ, oNEWAL, oCOPY, oINV0, oINS0, oINV1, oINS1, oINV2, oINS2, oINV3, oINS3, oINV4, oINS4, oINV5, oINS5, oINV6, oINS6, List.getElem?_cons_zero, List.getElem?_cons_succ, List.set_cons_zero, List.set_cons_succ, znl, zs4, zc1, true_and, and_self, Value.category, Option.toList, List.cons_append, List.nil_append, zvr]
  have row : ∀ b, gz (zpi (zpi (zpi (zpi hk 78 19 (zj 0)) 78 20 (zj 0)) 78 1 (zj 0)) 78 2 (zj (-1))) 80 b = gz hk 80 b := fun b => by
    rw [gz_pi0 (by omega), gz_pi0 (by omega), gz_pi0 (by omega), gz_pi0 (by omega)]
  refine k _ (e1.trans (by rw [hh1]; rfl)) (e2.trans (by rw [hh1])) (fun x y z1 z2 => ?_) (fun y z1 z2 z3 => ?_) ?_ ?_ ?_ ?_ ?_ ⟨fun b hb => ?_, fun b hb => ⟨?_, ?_⟩, ?_⟩
  · simp (disch := omega) only [zpi_o]; exact e3 x y z1
  · simp (disch := omega) only [zpi_o]; exact e3 78 y (by omega)
  · simp (disch := omega) only [zpi_o]; exact e3 78 0 (by omega)
  · simp (disch := omega) only [zpi_o, zpi_s]
  · simp (disch := omega) only [zpi_o, zpi_s]
  · simp (disch := omega) only [zpi_o, zpi_s]
  · simp (disch := omega) only [zpi_o, zpi_s]
  · rw [row, e4 b (by omega), f1]
    by_cases z : b < i
    · rw [if_pos z, if_pos (by omega)]
    · rw [if_neg z, if_neg (by omega), if_neg (by omega)]
  · rw [row, e4 (6 + b) (by omega), if_neg (by omega), f6, show 6 + b - 6 = b by omega]
    by_cases z : b < j
    · rw [if_pos (by omega), if_pos (by omega)]
    · rw [if_neg (by omega), if_neg (by omega)]
  · rw [row, e4 (10 + b) (by omega), if_neg (by omega), if_neg (by omega)]
  · rw [row, e4 14 (by omega), if_neg (by omega), if_neg (by omega)]
end ZMT3
