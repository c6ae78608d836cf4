section ZCT
variable {X : Nat × (Nat → Int32)} {R : zRt} {h h' h0 h1 h2 : zHp} {d p : Nat} {T : Nat → Int} {n s s0 : Nat} {D D' : zDt}
def zrow0 (h h' : zHp) (d : Nat) : Prop := (∀ b : Nat, b < 6 → gz h' 45 b = if (b : Int) < gz h d 1 then gz h (d + 4) b else 0) ∧ (∀ i : Nat, i < 4 → gz h' 45 (6 + i) = (if (i : Int) < gz h d 13 then gz h (d + 11) i else 0) ∧ gz h' 45 (10 + i) = 0) ∧ gz h' 45 14 = 0
theorem cc_sbegin (w : zCW h d p) (v : zPV h d) (k : ∀ h', h'.1 = h.1 → h'.2.2 = (zpr h 32 0 (some d)).2.2 → (∀ x y, x ≠ 45 → zgi h' x y = zgi h x y) → zrow0 h h' d → R (some (.ref p)) h') : zCC X M_X4_begin [.ref 32, .ref d] h R := by
  have wd := zc_pd w
  have hdp := zc_dp w
  obtain ⟨h1, hh1⟩ : ∃ h1, h1 = zpr h 32 0 (some d) := ⟨_, rfl⟩
  have tr : ∀ hk : zHp, hk.1 = h1.1 → hk.2.2 = h1.2.2 → zsh hk 32 = some (.inl 4) ∧ zsh hk 45 = some (.inr (.int, 15)) ∧ zgr hk 32 1 = some 45 ∧ zPlan hk d := fun hk e1 e2 => by
    rw [hh1] at e1 e2
    have a1 : ∀ k, zsh hk k = zsh h k := fun k => congrArg (fun z => z.2 k) e1
    have a2 : ∀ k j, ¬ (k = 32 ∧ j = 0) → zgr hk k j = zgr h k j := fun k j q => (congrArg (fun z => z.2 k j) e2 : hk.2.2.2 k j = (zpr h 32 0 (some d)).2.2.2 k j).trans (if_neg q)
    have a3 : ∀ j, zgr hk d j = zgr h d j := fun j => a2 d j (by omega)
    refine ⟨(a1 32).trans (zc_s32 w), (a1 45).trans (zc_s45 w), (a2 32 1 (by omega)).trans (zc_r32_1 w), ?_⟩
    unfold zPlan at wd ⊢
    simp only [a1, a3]
    exact wd
  have vb := v.1
  have vp := v.2.2.2.2.2.2.1
  refine zCC_of (ls := [.ref 32, .ref d, .retAddr 0, .retAddr 0]) pf_X4_begin rfl (Nat.le_of_ble_eq_true rfl) ?_
  refine vb_X4_begin_0 _ _ _ ?_
  simp only [B_X4_begin_0, oPI, oPL, oILOAD, oLLOAD, oALOAD, oISTORE, oASTORE, oLSTORE, oIINC, oIADD, oISUB, oIMUL, oIAND, oIOR, oIXOR, oIDIV, oIREM, oISHL, oISHR, oIUSHR, oLADD, oLSUB, oLMUL, oLOR, oLDIV, oLREM, oLCMP, oLSHL, oINEG, oI2L, oL2I, oI2B, oI2C, oDUP, oPOP, oDUP2, oIFEQ, oICEQ, oIFNE, oICNE, oIFLT, oICLT, oIFGE, oICGE, oIFGT, oICGT, oIFLE, oICLE, oIFNULL, oIFNONNULL, oTSW, oLSW, oGETI, oGETL, oGETR, oPUTI, oPUTZ, oPUTL, oPUTR, oIALD, oBALD, oZALD, oLALD, oAALD, oALEN, oIAST, oBAST, oZAST, oLAST, oIRET, oZRET, oLRET, oVRET, oARET, oOBJ, oINI, oPS, oNEW, oNEWAI, oNEWAB, oNEWAZ, oNEWAL, oCOPY, oINV0, oINS0, oINV1, oINS1, oINV2, oINS2, oINV3, oINS3, oINV4, oINS4, oINV5, oINS5, oINV6, oINS6, List.getElem?_cons_zero, List.getElem?_cons_succ, List.set_cons_zero, List.set_cons_succ, znl, zs4, zc1, true_and, and_self, Value.category, Option.toList, List.cons_append, List.nil_append, zvr, zc_s16 w, zc_s17 w, zc_s18 w, zc_s19 w, zc_s32 w, zc_s45 w, zc_s46 w, zc_s47 w, zc_s64 w, zc_s68 w, zc_s69 w, zc_s76 w, zc_s77 w, zc_r16_0 w, zc_r16_1 w, zc_r16_2 w, zc_r16_3 w, zc_r16_4 w, zc_r17_0 w, zc_r17_1 w, zc_r18_0 w, zc_r32_0 w, zc_r32_1 w, zc_r46_0 w, zc_r46_1 w, zc_r68_0 w, zc_r68_1 w, zp_s wd, zp_s1 wd, zp_r2 wd, zp_s2 wd, zp_r3 wd, zp_s3 wd, zp_r4 wd, zp_s4 wd, zp_r5 wd, zp_s5 wd, zp_r6 wd, zp_s6 wd, zp_r7 wd, zp_s7 wd, zp_r9 wd, zp_s8 wd, zp_r10 wd, zp_s9 wd, zp_r12 wd, zp_s10 wd, zp_r14 wd, zp_s11 wd, zp_r15 wd, zsh_pr, zgr_pr]
  rw [← hh1]
  refine zdown (m := 6) (P := fun i => ∀ hk : zHp, hk.1 = h1.1 → hk.2.2 = h1.2.2 → (∀ x y, x ≠ 45 → zgi hk x y = zgi h x y) → (∀ b : Nat, b < i → gz hk 45 b = if (b : Int) < gz h d 1 then gz h (d + 4) b else 0) → zV X M_X4_begin (zQm M_X4_begin R) 0 0 12 [.ref 32, .ref d, .ref p, .int (zj i)] [] hk) (fun i hi ih hk e1 e2 e t => ?_) 0 (by omega) h1 rfl rfl (fun x y _ => by rw [hh1]; rfl) (fun b hb => by omega)
  obtain ⟨s32, s45, r321, pd⟩ := tr hk e1 e2
  have g1 : gz hk d 1 = gz h d 1 := congrArg Int32.toInt (e d 1 (by omega))
  have fin : i < 6 → ∀ x : Int32, x.toInt = (if (i : Int) < gz h d 1 then gz h (d + 4) i else 0) → zV X M_X4_begin (zQm M_X4_begin R) 0 0 41 [.ref 32, .ref d, .ref p, .int (zj i)] [.int x, .int (zj i), .ref 45] hk := fun hi6 x hx => by
    refine vb_X4_begin_41 _ _ _ ?_
    simp only [B_X4_begin_41, oPI, oPL, oILOAD, oLLOAD, oALOAD, oISTORE, oASTORE, oLSTORE, oIINC, oIADD, oISUB, oIMUL, oIAND, oIOR, oIXOR, oIDIV, oIREM, oISHL, oISHR, oIUSHR, oLADD, oLSUB, oLMUL, oLOR, oLDIV, oLREM, oLCMP, oLSHL, oINEG, oI2L, oL2I, oI2B, oI2C, oDUP, oPOP, oDUP2, oIFEQ, oICEQ, oIFNE, oICNE, oIFLT, oICLT, oIFGE, oICGE, oIFGT, oICGT, oIFLE, oICLE, oIFNULL, oIFNONNULL, oTSW, oLSW, oGETI, oGETL, oGETR, oPUTI, oPUTZ, oPUTL, oPUTR, oIALD, oBALD, oZALD, oLALD, oAALD, oALEN, oIAST, oBAST, oZAST, oLAST, oIRET, oZRET, oLRET, oVRET, oARET, oOBJ, oINI, oPS, oNEW, oNEWAI, oNEWAB, oNEWAZ, oNEWAL, oCOPY, oINV0, oINS0, oINV1, oINS1, oINV2, oINS2, oINV3, oINS3, oINV4, oINS4, oINV5, oINS5, oINV6, oINS6, List.getElem?_cons_zero, List.getElem?_cons_succ, List.set_cons_zero, List.set_cons_succ, znl, zs4, zc1, true_and, and_self, Value.category, Option.toList, List.cons_append, List.nil_append, zvr, s45]
    rw [zj_cn (by omega)]
    try simp (disch := omega) only [zgi_gz, zj_cn, zj_lt, zj_le, zj_eq, zj_add, zj_sub, zj_mul, zj_neg, zj_lt0, zj_le0, zj_0le, zj_0lt, zj_eq0, zb_0, zb_z, Classical.not_not, Int.zero_add, Int.add_zero, zj_remn, zj_divn]
    refine ⟨zj_in (by omega) (by omega) (by omega), ih hi6 (zpi hk 45 i x) e1 e2 (fun a b q => by rw [zpi_o (by omega)]; exact e a b q) (fun b hb => ?_)⟩
    by_cases c : b = i
    · subst c
      show (zgi (zpi hk 45 b x) 45 b).toInt = _
      rw [zpi_s]; exact hx
    · show (zgi (zpi hk 45 i x) 45 b).toInt = _
      rw [zpi_o (by omega)]; exact t b (by omega)
  refine vb_X4_begin_12 _ _ _ ?_
  simp only [B_X4_begin_12, oPI, oPL, oILOAD, oLLOAD, oALOAD, oISTORE, oASTORE, oLSTORE, oIINC, oIADD, oISUB, oIMUL, oIAND, oIOR, oIXOR, oIDIV, oIREM, oISHL, oISHR, oIUSHR, oLADD, oLSUB, oLMUL, oLOR, oLDIV, oLREM, oLCMP, oLSHL, oINEG, oI2L, oL2I, oI2B, oI2C, oDUP, oPOP, oDUP2, oIFEQ, oICEQ, oIFNE, oICNE, oIFLT, oICLT, oIFGE, oICGE, oIFGT, oICGT, oIFLE, oICLE, oIFNULL, oIFNONNULL, oTSW, oLSW, oGETI, oGETL, oGETR, oPUTI, oPUTZ, oPUTL, oPUTR, oIALD, oBALD, oZALD, oLALD, oAALD, oALEN, oIAST, oBAST, oZAST, oLAST, oIRET, oZRET, oLRET, oVRET, oARET, oOBJ, oINI, oPS, oNEW, oNEWAI, oNEWAB, oNEWAZ, oNEWAL, oCOPY, oINV0, oINS0, oINV1, oINS1, oINV2, oINS2, oINV3, oINS3, oINV4, oINS4, oINV5, oINS5, oINV6, oINS6, List.getElem?_cons_zero, List.getElem?_cons_succ, List.set_cons_zero, List.set_cons_succ, znl, zs4, zc1, true_and, and_self, Value.category, Option.toList, List.cons_append, List.nil_append, zvr, s32, s45, r321, zp_s pd, zp_s1 pd, zp_r2 pd, zp_s2 pd, zp_r3 pd, zp_s3 pd, zp_r4 pd, zp_s4 pd, zp_r5 pd, zp_s5 pd, zp_r6 pd, zp_s6 pd, zp_r7 pd, zp_s7 pd, zp_r9 pd, zp_s8 pd, zp_r10 pd, zp_s9 pd, zp_r12 pd, zp_s10 pd, zp_r14 pd, zp_s11 pd, zp_r15 pd]
  rw [zgi_gz hk d 1, g1]
  by_cases ci : i = 6
  rotate_left
  · try simp (disch := omega) only [zgi_gz, zj_cn, zj_lt, zj_le, zj_eq, zj_add, zj_sub, zj_mul, zj_neg, zj_lt0, zj_le0, zj_0le, zj_0lt, zj_eq0, zb_0, zb_z, Classical.not_not, Int.zero_add, Int.add_zero, zj_remn, zj_divn]
    refine ⟨fun c => by omega, fun _ => ⟨fun c => ?_, fun c => ?_⟩⟩
    · refine vb_X4_begin_40 _ _ _ ?_
      simp only [B_X4_begin_40, oPI, oPL, oILOAD, oLLOAD, oALOAD, oISTORE, oASTORE, oLSTORE, oIINC, oIADD, oISUB, oIMUL, oIAND, oIOR, oIXOR, oIDIV, oIREM, oISHL, oISHR, oIUSHR, oLADD, oLSUB, oLMUL, oLOR, oLDIV, oLREM, oLCMP, oLSHL, oINEG, oI2L, oL2I, oI2B, oI2C, oDUP, oPOP, oDUP2, oIFEQ, oICEQ, oIFNE, oICNE, oIFLT, oICLT, oIFGE, oICGE, oIFGT, oICGT, oIFLE, oICLE, oIFNULL, oIFNONNULL, oTSW, oLSW, oGETI, oGETL, oGETR, oPUTI, oPUTZ, oPUTL, oPUTR, oIALD, oBALD, oZALD, oLALD, oAALD, oALEN, oIAST, oBAST, oZAST, oLAST, oIRET, oZRET, oLRET, oVRET, oARET, oOBJ, oINI, oPS, oNEW, oNEWAI, oNEWAB, oNEWAZ, oNEWAL, oCOPY, oINV0, oINS0, oINV1, oINS1, oINV2, oINS2, oINV3, oINS3, oINV4, oINS4, oINV5, oINS5, oINV6, oINS6, List.getElem?_cons_zero, List.getElem?_cons_succ, List.set_cons_zero, List.set_cons_succ, znl, zs4, zc1, true_and, and_self, Value.category, Option.toList, List.cons_append, List.nil_append, zvr]
      exact fin (by omega) 0 (by rw [if_neg (by omega)]; rfl)
    · try rw [zj_cn (by omega)]
      refine ⟨zj_in (by omega) (by omega) (by omega), fin (by omega) _ ?_⟩
      rw [if_pos (by omega), ← zgi_gz, e (d + 4) i (by omega)]
      rfl
  subst ci
  try simp (disch := omega) only [zgi_gz, zj_cn, zj_lt, zj_le, zj_eq, zj_add, zj_sub, zj_mul, zj_neg, zj_lt0, zj_le0, zj_0le, zj_0lt, zj_eq0, zb_0, zb_z, Classical.not_not, Int.zero_add, Int.add_zero, zj_remn, zj_divn]
  refine ⟨fun _ => ?_, fun c => (by first | omega | exact absurd rfl c | exact absurd trivial c | exact absurd c (by decide))⟩
  refine vb_X4_begin_48 _ _ _ ?_
  simp only [B_X4_begin_48, oPI, oPL, oILOAD, oLLOAD, oALOAD, oISTORE, oASTORE, oLSTORE, oIINC, oIADD, oISUB, oIMUL, oIAND, oIOR, oIXOR, oIDIV, oIREM, oISHL, oISHR, oIUSHR, oLADD, oLSUB, oLMUL, oLOR, oLDIV, oLREM, oLCMP, oLSHL, oINEG, oI2L, oL2I, oI2B, oI2C, oDUP, oPOP, oDUP2, oIFEQ, oICEQ, oIFNE, oICNE, oIFLT, oICLT, oIFGE, oICGE, oIFGT, oICGT, oIFLE, oICLE, oIFNULL, oIFNONNULL, oTSW, oLSW, oGETI, oGETL, oGETR, oPUTI, oPUTZ, oPUTL, oPUTR, oIALD, oBALD, oZALD, oLALD, oAALD, oALEN, oIAST, oBAST, oZAST, oLAST, oIRET, oZRET, oLRET, oVRET, oARET, oOBJ, oINI, oPS, oNEW, oNEWAI, oNEWAB, oNEWAZ, oNEWAL, oCOPY, oINV0, oINS0, oINV1, oINS1, oINV2, oINS2, oINV3, oINS3, oINV4, oINS4, oINV5, oINS5, oINV6, oINS6, List.getElem?_cons_zero, List.getElem?_cons_succ, List.set_cons_zero, List.set_cons_succ, znl, zs4, zc1, true_and, and_self, Value.category, Option.toList, List.cons_append, List.nil_append, zvr]
  refine zdown (m := 4) (P := fun i => ∀ hk : zHp, hk.1 = h1.1 → hk.2.2 = h1.2.2 → (∀ x y, x ≠ 45 → zgi hk x y = zgi h x y) → (∀ b : Nat, b < 6 → gz hk 45 b = if (b : Int) < gz h d 1 then gz h (d + 4) b else 0) → (∀ j : Nat, j < i → gz hk 45 (6 + j) = (if (j : Int) < gz h d 13 then gz h (d + 11) j else 0) ∧ gz hk 45 (10 + j) = 0) → zV X M_X4_begin (zQm M_X4_begin R) 0 0 50 [.ref 32, .ref d, .ref p, .int (zj i)] [] hk) (fun i hi ih hk e1 e2 e t u => ?_) 0 (by omega) hk e1 e2 e t (fun b hb => by omega)
  clear fin pd r321 s45 s32 g1
  obtain ⟨s32, s45, r321, pd⟩ := tr hk e1 e2
  have g1 : gz hk d 13 = gz h d 13 := congrArg Int32.toInt (e d 13 (by omega))
  have fin : i < 4 → ∀ x : Int32, x.toInt = (if (i : Int) < gz h d 13 then gz h (d + 11) i else 0) → zV X M_X4_begin (zQm M_X4_begin R) 0 0 81 [.ref 32, .ref d, .ref p, .int (zj i)] [.int x, .int (zj (6 + i)), .ref 45] hk := fun hi6 x hx => by
    refine vb_X4_begin_81 _ _ _ ?_
    simp only [B_X4_begin_81, oPI, oPL, oILOAD, oLLOAD, oALOAD, oISTORE, oASTORE, oLSTORE, oIINC, oIADD, oISUB, oIMUL, oIAND, oIOR, oIXOR, oIDIV, oIREM, oISHL, oISHR, oIUSHR, oLADD, oLSUB, oLMUL, oLOR, oLDIV, oLREM, oLCMP, oLSHL, oINEG, oI2L, oL2I, oI2B, oI2C, oDUP, oPOP, oDUP2, oIFEQ, oICEQ, oIFNE, oICNE, oIFLT, oICLT, oIFGE, oICGE, oIFGT, oICGT, oIFLE, oICLE, oIFNULL, oIFNONNULL, oTSW, oLSW, oGETI, oGETL, oGETR, oPUTI, oPUTZ, oPUTL, oPUTR, oIALD, oBALD, oZALD, oLALD, oAALD, oALEN, oIAST, oBAST, oZAST, oLAST, oIRET, oZRET, oLRET, oVRET, oARET, oOBJ, oINI, oPS, oNEW, oNEWAI, oNEWAB, oNEWAZ, oNEWAL, oCOPY, oINV0, oINS0, oINV1, oINS1, oINV2, oINS2, oINV3, oINS3, oINV4, oINS4, oINV5, oINS5, oINV6, oINS6, List.getElem?_cons_zero, List.getElem?_cons_succ, List.set_cons_zero, List.set_cons_succ, znl, zs4, zc1, true_and, and_self, Value.category, Option.toList, List.cons_append, List.nil_append, zvr, s45, s32, r321, zsh_pi, zgr_pi]
    rw [zj_add, show (6 : Int) + (i : Int) = ((6 + i : Nat) : Int) by omega, show (10 : Int) + (i : Int) = ((10 + i : Nat) : Int) by omega, zj_cn (by omega), zj_cn (by omega)]
    try simp (disch := omega) only [zgi_gz, zj_cn, zj_lt, zj_le, zj_eq, zj_add, zj_sub, zj_mul, zj_neg, zj_lt0, zj_le0, zj_0le, zj_0lt, zj_eq0, zb_0, zb_z, Classical.not_not, Int.zero_add, Int.add_zero, zj_remn, zj_divn]
    refine ⟨zj_in (by omega) (by omega) (by omega), zj_in (by omega) (by omega) (by omega), ih hi6 (zpi (zpi hk 45 (6 + i) x) 45 (10 + i) (zj 0)) e1 e2 (fun a b q => by rw [zpi_o (by omega), zpi_o (by omega)]; exact e a b q) (fun b hb => ?_) (fun j hj => ?_)⟩
    · show (zgi (zpi (zpi hk 45 (6 + i) x) 45 (10 + i) (zj 0)) 45 b).toInt = _
      rw [zpi_o (by omega), zpi_o (by omega)]; exact t b hb
    · by_cases c : j = i
      · subst c
        refine ⟨?_, ?_⟩
        · show (zgi (zpi (zpi hk 45 (6 + j) x) 45 (10 + j) (zj 0)) 45 (6 + j)).toInt = _
          rw [zpi_o (by omega), zpi_s]; exact hx
        · show (zgi (zpi (zpi hk 45 (6 + j) x) 45 (10 + j) (zj 0)) 45 (10 + j)).toInt = _
          rw [zpi_s]; rfl
      · refine ⟨?_, ?_⟩
        · show (zgi (zpi (zpi hk 45 (6 + i) x) 45 (10 + i) (zj 0)) 45 (6 + j)).toInt = _
          rw [zpi_o (by omega), zpi_o (by omega)]; exact (u j (by omega)).1
        · show (zgi (zpi (zpi hk 45 (6 + i) x) 45 (10 + i) (zj 0)) 45 (10 + j)).toInt = _
          rw [zpi_o (by omega), zpi_o (by omega)]; exact (u j (by omega)).2
  refine vb_X4_begin_50 _ _ _ ?_
  simp only [B_X4_begin_50, oPI, oPL, oILOAD, oLLOAD, oALOAD, oISTORE, oASTORE, oLSTORE, oIINC, oIADD, oISUB, oIMUL, oIAND, oIOR, oIXOR, oIDIV, oIREM, oISHL, oISHR, oIUSHR, oLADD, oLSUB, oLMUL, oLOR, oLDIV, oLREM, oLCMP, oLSHL, oINEG, oI2L, oL2I, oI2B, oI2C, oDUP, oPOP, oDUP2, oIFEQ, oICEQ, oIFNE, oICNE, oIFLT, oICLT, oIFGE, oICGE, oIFGT, oICGT, oIFLE, oICLE, oIFNULL, oIFNONNULL, oTSW, oLSW, oGETI, oGETL, oGETR, oPUTI, oPUTZ, oPUTL, oPUTR, oIALD, oBALD, oZALD, oLALD, oAALD, oALEN, oIAST, oBAST, oZAST, oLAST, oIRET, oZRET, oLRET, oVRET, oARET, oOBJ, oINI, oPS, oNEW, oNEWAI, oNEWAB, oNEWAZ, oNEWAL, oCOPY, oINV0, oINS0, oINV1, oINS1, oINV2, oINS2, oINV3, oINS3, oINV4, oINS4, oINV5, oINS5, oINV6, oINS6, List.getElem?_cons_zero, List.getElem?_cons_succ, List.set_cons_zero, List.set_cons_succ, znl, zs4, zc1, true_and, and_self, Value.category, Option.toList, List.cons_append, List.nil_append, zvr, s32, s45, r321, zp_s pd, zp_s1 pd, zp_r2 pd, zp_s2 pd, zp_r3 pd, zp_s3 pd, zp_r4 pd, zp_s4 pd, zp_r5 pd, zp_s5 pd, zp_r6 pd, zp_s6 pd, zp_r7 pd, zp_s7 pd, zp_r9 pd, zp_s8 pd, zp_r10 pd, zp_s9 pd, zp_r12 pd, zp_s10 pd, zp_r14 pd, zp_s11 pd, zp_r15 pd]
  rw [zgi_gz hk d 13, g1]
  by_cases ci : i = 4
  rotate_left
  · rw [zj_add]
    try simp (disch := omega) only [zgi_gz, zj_cn, zj_lt, zj_le, zj_eq, zj_add, zj_sub, zj_mul, zj_neg, zj_lt0, zj_le0, zj_0le, zj_0lt, zj_eq0, zb_0, zb_z, Classical.not_not, Int.zero_add, Int.add_zero, zj_remn, zj_divn]
    refine ⟨fun c => by omega, fun _ => ⟨fun c => ?_, fun c => ?_⟩⟩
    · refine vb_X4_begin_80 _ _ _ ?_
      simp only [B_X4_begin_80, oPI, oPL, oILOAD, oLLOAD, oALOAD, oISTORE, oASTORE, oLSTORE, oIINC, oIADD, oISUB, oIMUL, oIAND, oIOR, oIXOR, oIDIV, oIREM, oISHL, oISHR, oIUSHR, oLADD, oLSUB, oLMUL, oLOR, oLDIV, oLREM, oLCMP, oLSHL, oINEG, oI2L, oL2I, oI2B, oI2C, oDUP, oPOP, oDUP2, oIFEQ, oICEQ, oIFNE, oICNE, oIFLT, oICLT, oIFGE, oICGE, oIFGT, oICGT, oIFLE, oICLE, oIFNULL, oIFNONNULL, oTSW, oLSW, oGETI, oGETL, oGETR, oPUTI, oPUTZ, oPUTL, oPUTR, oIALD, oBALD, oZALD, oLALD, oAALD, oALEN, oIAST, oBAST, oZAST, oLAST, oIRET, oZRET, oLRET, oVRET, oARET, oOBJ, oINI, oPS, oNEW, oNEWAI, oNEWAB, oNEWAZ, oNEWAL, oCOPY, oINV0, oINS0, oINV1, oINS1, oINV2, oINS2, oINV3, oINS3, oINV4, oINS4, oINV5, oINS5, oINV6, oINS6, List.getElem?_cons_zero, List.getElem?_cons_succ, List.set_cons_zero, List.set_cons_succ, znl, zs4, zc1, true_and, and_self, Value.category, Option.toList, List.cons_append, List.nil_append, zvr]
      exact fin (by omega) 0 (by rw [if_neg (by omega)]; rfl)
    · try rw [zj_cn (by omega)]
      refine ⟨zj_in (by omega) (by omega) (by omega), fin (by omega) _ ?_⟩
      rw [if_pos (by omega), ← zgi_gz, e (d + 11) i (by omega)]
      rfl
  subst ci
  try simp (disch := omega) only [zgi_gz, zj_cn, zj_lt, zj_le, zj_eq, zj_add, zj_sub, zj_mul, zj_neg, zj_lt0, zj_le0, zj_0le, zj_0lt, zj_eq0, zb_0, zb_z, Classical.not_not, Int.zero_add, Int.add_zero, zj_remn, zj_divn]
  refine ⟨fun _ => ?_, fun c => (by first | omega | exact absurd rfl c | exact absurd trivial c | exact absurd c (by decide))⟩
  refine vb_X4_begin_98 _ _ _ ?_
  simp only [B_X4_begin_98, oPI, oPL, oILOAD, oLLOAD, oALOAD, oISTORE, oASTORE, oLSTORE, oIINC, oIADD, oISUB, oIMUL, oIAND, oIOR, oIXOR, oIDIV, oIREM, oISHL, oISHR, oIUSHR, oLADD, oLSUB, oLMUL, oLOR, oLDIV, oLREM, oLCMP, oLSHL, oINEG, oI2L, oL2I, oI2B, oI2C, oDUP, oPOP, oDUP2, oIFEQ, oICEQ, oIFNE, oICNE, oIFLT, oICLT, oIFGE, oICGE, oIFGT, oICGT, oIFLE, oICLE, oIFNULL, oIFNONNULL, oTSW, oLSW, oGETI, oGETL, oGETR, oPUTI, oPUTZ, oPUTL, oPUTR, oIALD, oBALD, oZALD, oLALD, oAALD, oALEN, oIAST, oBAST, oZAST, oLAST, oIRET, oZRET, oLRET, oVRET, oARET, oOBJ, oINI, oPS, oNEW, oNEWAI, oNEWAB, oNEWAZ, oNEWAL, oCOPY, oINV0, oINS0, oINV1, oINS1, oINV2, oINS2, oINV3, oINS3, oINV4, oINS4, oINV5, oINS5, oINV6, oINS6, List.getElem?_cons_zero, List.getElem?_cons_succ, List.set_cons_zero, List.set_cons_succ, znl, zs4, zc1, true_and, and_self, Value.category, Option.toList, List.cons_append, List.nil_append, zvr, s32, s45, r321]
  try rw [show zcn (zj 14) = 14 from rfl]
  refine ⟨zj_in (by omega) (by omega) (by omega), k (zpi hk 45 14 (zj 0)) (e1.trans (by rw [hh1]; rfl)) (e2.trans (by rw [hh1])) (fun x y q => by rw [zpi_o (by omega)]; exact e x y q) ⟨fun b hb => ?_, fun j hj => ⟨?_, ?_⟩, ?_⟩⟩
  · show (zgi (zpi hk 45 14 (zj 0)) 45 b).toInt = _
    rw [zpi_o (by omega)]; exact t b hb
  · show (zgi (zpi hk 45 14 (zj 0)) 45 (6 + j)).toInt = _
    rw [zpi_o (by omega)]; exact (u j hj).1
  · show (zgi (zpi hk 45 14 (zj 0)) 45 (10 + j)).toInt = _
    rw [zpi_o (by omega)]; exact (u j hj).2
  · show (zgi (zpi hk 45 14 (zj 0)) 45 14).toInt = _
    rw [zpi_s]; rfl
end ZCT
