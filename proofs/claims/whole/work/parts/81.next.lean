section ZNX
variable {X : Nat × (Nat → Int32)} {R : zRt} {h h' h1 h2 : zHp} {d p : Nat} {T : Nat → Int} {n s : Nat}
theorem zgi_pl' (h : zHp) (k j : Nat) (x : Int64) (a b : Nat) : gz (zpl h k j x) a b = gz h a b := rfl
theorem zplo {k j : Nat} {x : Int64} {a b : Nat} (hn : ¬ (a = k ∧ b = j)) : zgl (zpl h k j x) a b = zgl h a b := if_neg hn
/-- in the midst of a token -/
def zNy (h h' : zHp) : Prop := h'.1 = h.1 ∧ h'.2.2.2 = h.2.2.2 ∧ (∀ x y, ¬ (x = 18 ∧ 3 ≤ y ∧ y ≤ 7) → zgi h' x y = zgi h x y) ∧ (∀ x y, ¬ (x = 18 ∧ y = 6) → zgl h' x y = zgl h x y)
theorem zNy.pi {j : Nat} {x : Int32} (a : zNy h h') (h1 : 3 ≤ j) (h2 : j ≤ 7) : zNy h (zpi h' 18 j x) := ⟨a.1, a.2.1, fun u y hn => by rw [zpi_o (by omega)]; exact a.2.2.1 u y hn, a.2.2.2⟩
theorem zNy.pl {x : Int64} (a : zNy h h') : zNy h (zpl h' 18 6 x) := ⟨a.1, a.2.1, a.2.2.1, fun u y hn => by rw [zplo hn]; exact a.2.2.2 u y hn⟩
theorem cc_next (w : zCW h d p) (hn : n ≤ 800) (hs : s ≤ n) (he : gz h 18 2 = n) (ha : gz h 18 3 = s) (hT : ∀ i : Nat, i < n → gz h 19 i = T i ∧ -128 ≤ T i ∧ T i ≤ 127) (k : ∀ h', zNx h h' T n s → R none h') : zCC X M_X6_next [.ref 18] h R := by
  have hp := tk_p_b (T := T) hs
  have hen := tk_e_b (T := T) hs
  -- the last test
  have fin : ∀ (h1 : zHp) (z : Value) (m K : Nat), zNy h h1 → gz h1 18 3 = tk_e T n s → gz h1 18 4 = K → gz h1 18 5 = tk_p T n s → (K = if n ≤ tk_p T n s then 0 else tk_n (T (tk_p T n s))) → (tk_d T n s = 1 → zgl h1 18 6 = zk (zfo 256 0 (tk_w T n s) : Nat)) → (tk_d T n s = 2 → gz h1 18 7 = tk_v T n s) → zV X M_X6_next (zQm M_X6_next R) 0 0 226 [.ref 18, z] [] h1 := by
    intro h1 z m K ny e3 e4 e5 eK ew ev
    have w1 := w.mr ny.1 ny.2.1
    have hkb := tk_n_b (T (tk_p T n s))
    have hK4 : K ≤ 4 := by rw [eK]; split <;> omega
    have bad : tk_d T n s = 4 → zV X M_X6_next (zQm M_X6_next R) 0 0 269 [.ref 18, z] [] h1 := fun q2 => by
      refine vb_X6_next_269 _ _ _ ?_
      simp only [B_X6_next_269, oPI, oPL, oILOAD, oLLOAD, oALOAD, oISTORE, oASTORE, oLSTORE, oIINC, oIADD, oISUB, oIMUL, oIAND, oIOR, oIXOR, oIDIV, oIREM, oISHL, oISHR, oIUSHR, oLADD, oLSUB, oLMUL, oLOR, oLDIV, oLREM, oLCMP, oLSHL, oINEG, oI2L, oL2I, oI2B, oI2C, oDUP, oPOP, oDUP2, oIFEQ, oICEQ, oIFNE, oICNE, oIFLT, oICLT, oIFGE, oICGE, oIFGT, oICGT, oIFLE, oICLE, oIFNULL, oIFNONNULL, oTSW, oLSW, oGETI, oGETL, oGETR, oPUTI, oPUTZ, oPUTL, oPUTR, oIALD, oBALD, oZALD, oLALD, oAALD, oALEN, oIAST, oBAST, oZAST, oLAST, oIRET, oZRET, oLRET, oVRET, oARET, oOBJ, oINI, oPS, oNEW, oNEWAI, oNEWAB, oNEWAZ, oNEWAL, oCOPY, oINV0, oINS0, oINV1, oINS1, oINV2, oINS2, oINV3, oINS3, oINV4, oINS4, oINV5, oINS5, oINV6, oINS6, List.getElem?_cons_zero, List.getElem?_cons_succ, List.set_cons_zero, List.set_cons_succ, znl, zs4, zc1, true_and, and_self, Value.category, Option.toList, List.cons_append, List.nil_append, zvr, zc_s16 w1, zc_s17 w1, zc_s18 w1, zc_s19 w1, zc_s32 w1, zc_s45 w1, zc_s46 w1, zc_s47 w1, zc_s64 w1, zc_s68 w1, zc_s69 w1, zc_s76 w1, zc_s77 w1, zc_r16_0 w1, zc_r16_1 w1, zc_r16_2 w1, zc_r16_3 w1, zc_r16_4 w1, zc_r17_0 w1, zc_r17_1 w1, zc_r18_0 w1, zc_r32_0 w1, zc_r32_1 w1, zc_r46_0 w1, zc_r46_1 w1, zc_r68_0 w1, zc_r68_1 w1, zsh_pi]
      refine vb_X6_next_274 _ _ _ ?_
      simp only [B_X6_next_274, oPI, oPL, oILOAD, oLLOAD, oALOAD, oISTORE, oASTORE, oLSTORE, oIINC, oIADD, oISUB, oIMUL, oIAND, oIOR, oIXOR, oIDIV, oIREM, oISHL, oISHR, oIUSHR, oLADD, oLSUB, oLMUL, oLOR, oLDIV, oLREM, oLCMP, oLSHL, oINEG, oI2L, oL2I, oI2B, oI2C, oDUP, oPOP, oDUP2, oIFEQ, oICEQ, oIFNE, oICNE, oIFLT, oICLT, oIFGE, oICGE, oIFGT, oICGT, oIFLE, oICLE, oIFNULL, oIFNONNULL, oTSW, oLSW, oGETI, oGETL, oGETR, oPUTI, oPUTZ, oPUTL, oPUTR, oIALD, oBALD, oZALD, oLALD, oAALD, oALEN, oIAST, oBAST, oZAST, oLAST, oIRET, oZRET, oLRET, oVRET, oARET, oOBJ, oINI, oPS, oNEW, oNEWAI, oNEWAB, oNEWAZ, oNEWAL, oCOPY, oINV0, oINS0, oINV1, oINS1, oINV2, oINS2, oINV3, oINS3, oINV4, oINS4, oINV5, oINS5, oINV6, oINS6, List.getElem?_cons_zero, List.getElem?_cons_succ, List.set_cons_zero, List.set_cons_succ, znl, zs4, zc1, true_and, and_self, Value.category, Option.toList, List.cons_append, List.nil_append, zvr]
      have ny2 := ny.pi (j := 4) (x := zj 4) (by omega) (by omega)
      refine k _ ⟨ny2.1, ny2.2.1, ny2.2.2.1, ny2.2.2.2, ?_, ?_, ?_, fun z => by omega, fun z => by omega⟩
      · rw [gz_pi0 (by omega)]; exact e3
      · rw [gz_pi1 (by omega) (by omega), q2]; rfl
      · rw [gz_pi0 (by omega)]; exact e5
    have good : tk_d T n s = K → zV X M_X6_next (zQm M_X6_next R) 0 0 274 [.ref 18, z] [] h1 := fun q => by
      refine vb_X6_next_274 _ _ _ ?_
      simp only [B_X6_next_274, oPI, oPL, oILOAD, oLLOAD, oALOAD, oISTORE, oASTORE, oLSTORE, oIINC, oIADD, oISUB, oIMUL, oIAND, oIOR, oIXOR, oIDIV, oIREM, oISHL, oISHR, oIUSHR, oLADD, oLSUB, oLMUL, oLOR, oLDIV, oLREM, oLCMP, oLSHL, oINEG, oI2L, oL2I, oI2B, oI2C, oDUP, oPOP, oDUP2, oIFEQ, oICEQ, oIFNE, oICNE, oIFLT, oICLT, oIFGE, oICGE, oIFGT, oICGT, oIFLE, oICLE, oIFNULL, oIFNONNULL, oTSW, oLSW, oGETI, oGETL, oGETR, oPUTI, oPUTZ, oPUTL, oPUTR, oIALD, oBALD, oZALD, oLALD, oAALD, oALEN, oIAST, oBAST, oZAST, oLAST, oIRET, oZRET, oLRET, oVRET, oARET, oOBJ, oINI, oPS, oNEW, oNEWAI, oNEWAB, oNEWAZ, oNEWAL, oCOPY, oINV0, oINS0, oINV1, oINS1, oINV2, oINS2, oINV3, oINS3, oINV4, oINS4, oINV5, oINS5, oINV6, oINS6, List.getElem?_cons_zero, List.getElem?_cons_succ, List.set_cons_zero, List.set_cons_succ, znl, zs4, zc1, true_and, and_self, Value.category, Option.toList, List.cons_append, List.nil_append, zvr]
      exact k h1 ⟨ny.1, ny.2.1, ny.2.2.1, ny.2.2.2, e3, by rw [e4, q], e5, ew, ev⟩
    have n248 : ¬ (K = 1 ∧ 8 < tk_e T n s - tk_p T n s) → zV X M_X6_next (zQm M_X6_next R) 0 0 248 [.ref 18, z] [] h1 := fun q1 => by
      refine vb_X6_next_248 _ _ _ ?_
      simp only [B_X6_next_248, oPI, oPL, oILOAD, oLLOAD, oALOAD, oISTORE, oASTORE, oLSTORE, oIINC, oIADD, oISUB, oIMUL, oIAND, oIOR, oIXOR, oIDIV, oIREM, oISHL, oISHR, oIUSHR, oLADD, oLSUB, oLMUL, oLOR, oLDIV, oLREM, oLCMP, oLSHL, oINEG, oI2L, oL2I, oI2B, oI2C, oDUP, oPOP, oDUP2, oIFEQ, oICEQ, oIFNE, oICNE, oIFLT, oICLT, oIFGE, oICGE, oIFGT, oICGT, oIFLE, oICLE, oIFNULL, oIFNONNULL, oTSW, oLSW, oGETI, oGETL, oGETR, oPUTI, oPUTZ, oPUTL, oPUTR, oIALD, oBALD, oZALD, oLALD, oAALD, oALEN, oIAST, oBAST, oZAST, oLAST, oIRET, oZRET, oLRET, oVRET, oARET, oOBJ, oINI, oPS, oNEW, oNEWAI, oNEWAB, oNEWAZ, oNEWAL, oCOPY, oINV0, oINS0, oINV1, oINS1, oINV2, oINS2, oINV3, oINS3, oINV4, oINS4, oINV5, oINS5, oINV6, oINS6, List.getElem?_cons_zero, List.getElem?_cons_succ, List.set_cons_zero, List.set_cons_succ, znl, zs4, zc1, true_and, and_self, Value.category, Option.toList, List.cons_append, List.nil_append, zvr, zc_s16 w1, zc_s17 w1, zc_s18 w1, zc_s19 w1, zc_s32 w1, zc_s45 w1, zc_s46 w1, zc_s47 w1, zc_s64 w1, zc_s68 w1, zc_s69 w1, zc_s76 w1, zc_s77 w1, zc_r16_0 w1, zc_r16_1 w1, zc_r16_2 w1, zc_r16_3 w1, zc_r16_4 w1, zc_r17_0 w1, zc_r17_1 w1, zc_r18_0 w1, zc_r32_0 w1, zc_r32_1 w1, zc_r46_0 w1, zc_r46_1 w1, zc_r68_0 w1, zc_r68_1 w1]
      rw [zgi_gz, e4, zgi_gz h1 18 3, e3, zgi_gz h1 18 5, e5]
      try simp (disch := omega) only [zgi_gz, zj_cn, zj_lt, zj_le, zj_eq, zj_add, zj_sub, zj_mul, zj_neg, zj_lt0, zj_le0, zj_0le, zj_0lt, zj_eq0, zb_0, zb_z, Classical.not_not, Int.zero_add, Int.add_zero, zj_remn, zj_divn]
      refine ⟨fun c => good ?_, fun c => ⟨fun c2 => good ?_, fun c2 => bad ?_⟩⟩
      · unfold tk_d
        rw [eK] at q1 c ⊢
        by_cases cn : n ≤ tk_p T n s
        · rw [if_pos cn, if_pos cn]
        · rw [if_neg cn] at q1 c ⊢
          rw [if_neg cn, if_neg q1, if_neg (by omega)]
      · unfold tk_d
        rw [eK] at q1 c ⊢
        by_cases cn : n ≤ tk_p T n s
        · rw [if_pos cn, if_pos cn]
        · rw [if_neg cn] at q1 c ⊢
          rw [if_neg cn, if_neg q1, if_neg (by omega)]
      · unfold tk_d
        rw [eK] at q1 c
        by_cases cn : n ≤ tk_p T n s
        · rw [if_pos cn] at c; omega
        · rw [if_neg cn] at q1 c
          rw [if_neg cn, if_neg q1, if_pos (by omega)]
    refine vb_X6_next_226 _ _ _ ?_
    simp only [B_X6_next_226, oPI, oPL, oILOAD, oLLOAD, oALOAD, oISTORE, oASTORE, oLSTORE, oIINC, oIADD, oISUB, oIMUL, oIAND, oIOR, oIXOR, oIDIV, oIREM, oISHL, oISHR, oIUSHR, oLADD, oLSUB, oLMUL, oLOR, oLDIV, oLREM, oLCMP, oLSHL, oINEG, oI2L, oL2I, oI2B, oI2C, oDUP, oPOP, oDUP2, oIFEQ, oICEQ, oIFNE, oICNE, oIFLT, oICLT, oIFGE, oICGE, oIFGT, oICGT, oIFLE, oICLE, oIFNULL, oIFNONNULL, oTSW, oLSW, oGETI, oGETL, oGETR, oPUTI, oPUTZ, oPUTL, oPUTR, oIALD, oBALD, oZALD, oLALD, oAALD, oALEN, oIAST, oBAST, oZAST, oLAST, oIRET, oZRET, oLRET, oVRET, oARET, oOBJ, oINI, oPS, oNEW, oNEWAI, oNEWAB, oNEWAZ, oNEWAL, oCOPY, oINV0, oINS0, oINV1, oINS1, oINV2, oINS2, oINV3, oINS3, oINV4, oINS4, oINV5, oINS5, oINV6, oINS6, List.getElem?_cons_zero, List.getElem?_cons_succ, List.set_cons_zero, List.set_cons_succ, znl, zs4, zc1, true_and, and_self, Value.category, Option.toList, List.cons_append, List.nil_append, zvr, zc_s16 w1, zc_s17 w1, zc_s18 w1, zc_s19 w1, zc_s32 w1, zc_s45 w1, zc_s46 w1, zc_s47 w1, zc_s64 w1, zc_s68 w1, zc_s69 w1, zc_s76 w1, zc_s77 w1, zc_r16_0 w1, zc_r16_1 w1, zc_r16_2 w1, zc_r16_3 w1, zc_r16_4 w1, zc_r17_0 w1, zc_r17_1 w1, zc_r18_0 w1, zc_r32_0 w1, zc_r32_1 w1, zc_r46_0 w1, zc_r46_1 w1, zc_r68_0 w1, zc_r68_1 w1]
    rw [zgi_gz, e4, zgi_gz h1 18 3, e3, zgi_gz h1 18 5, e5]
    try simp (disch := omega) only [zgi_gz, zj_cn, zj_lt, zj_le, zj_eq, zj_add, zj_sub, zj_mul, zj_neg, zj_lt0, zj_le0, zj_0le, zj_0lt, zj_eq0, zb_0, zb_z, Classical.not_not, Int.zero_add, Int.add_zero, zj_remn, zj_divn]
    refine ⟨fun c => n248 (by omega), fun c => ⟨fun c2 => bad ?_, fun c2 => n248 (by omega)⟩⟩
    unfold tk_d
    rw [eK] at c
    by_cases cn : n ≤ tk_p T n s
    · rw [if_pos cn] at c; omega
    · rw [if_neg cn] at c
      rw [if_neg cn, if_pos (by omega)]
  obtain ⟨K, eK⟩ : ∃ K, K = if n ≤ tk_p T n s then 0 else tk_n (T (tk_p T n s)) := ⟨_, rfl⟩
  have hkb := tk_n_b (T (tk_p T n s))
  have hK0 : (K = 0 ↔ n ≤ tk_p T n s) ∧ K ≤ 4 := by rw [eK]; split <;> omega
  have hKk : ¬ n ≤ tk_p T n s → K = tk_n (T (tk_p T n s)) := fun c => by rw [eK, if_neg c]
  have hKe : ¬ n ≤ tk_p T n s → K ≤ 2 → tk_e T n s = tk_r T n K n (tk_p T n s) := fun c c2 => by unfold tk_e; rw [if_neg c, ← hKk c, if_pos c2]
  have hKe3 : ¬ n ≤ tk_p T n s → ¬ K ≤ 2 → tk_e T n s = tk_p T n s + 1 := fun c c2 => by unfold tk_e; rw [if_neg c, ← hKk c, if_neg c2]
  have hKe0 : n ≤ tk_p T n s → tk_e T n s = tk_p T n s := fun c => by unfold tk_e; rw [if_pos c]
  have hd1 : tk_d T n s = 1 → K = 1 ∧ tk_e T n s - tk_p T n s ≤ 8 := fun q => by
    unfold tk_d at q
    by_cases cn : n ≤ tk_p T n s
    · rw [if_pos cn] at q; omega
    · rw [if_neg cn, ← hKk cn] at q
      by_cases c2 : K = 1 ∧ 8 < tk_e T n s - tk_p T n s
      · rw [if_pos c2] at q; omega
      · rw [if_neg c2] at q
        by_cases c3 : K = 2 ∧ 3 < tk_e T n s - tk_p T n s
        · rw [if_pos c3] at q; omega
        · rw [if_neg c3] at q; omega
  have hd2 : tk_d T n s = 2 → K = 2 ∧ tk_e T n s - tk_p T n s ≤ 3 := fun q => by
    unfold tk_d at q
    by_cases cn : n ≤ tk_p T n s
    · rw [if_pos cn] at q; omega
    · rw [if_neg cn, ← hKk cn] at q
      by_cases c2 : K = 1 ∧ 8 < tk_e T n s - tk_p T n s
      · rw [if_pos c2] at q; omega
      · rw [if_neg c2] at q
        by_cases c3 : K = 2 ∧ 3 < tk_e T n s - tk_p T n s
        · rw [if_pos c3] at q; omega
        · rw [if_neg c3] at q; omega
  -- the run of signs
  have run : ∀ j, j ≤ tk_e T n s → ∀ h1, tk_p T n s ≤ j → zNy h h1 → gz h1 18 3 = j → gz h1 18 4 = K → gz h1 18 5 = tk_p T n s → (K = 1 → j - tk_p T n s ≤ 8 → zgl h1 18 6 = zk (zfo 256 0 (tk_s T (tk_p T n s) j) : Nat)) → (K = 2 → j - tk_p T n s ≤ 3 → gz h1 18 7 = zfo 10 48 (tk_s T (tk_p T n s) j)) → zV X M_X6_next (zQm M_X6_next R) 0 0 100 [.ref 18, .int (zb (j < tk_e T n s))] [] h1 := by
    refine zdown (P := fun j => ∀ h1, tk_p T n s ≤ j → zNy h h1 → gz h1 18 3 = j → gz h1 18 4 = K → gz h1 18 5 = tk_p T n s → (K = 1 → j - tk_p T n s ≤ 8 → zgl h1 18 6 = zk (zfo 256 0 (tk_s T (tk_p T n s) j) : Nat)) → (K = 2 → j - tk_p T n s ≤ 3 → gz h1 18 7 = zfo 10 48 (tk_s T (tk_p T n s) j)) → zV X M_X6_next (zQm M_X6_next R) 0 0 100 [.ref 18, .int (zb (j < tk_e T n s))] [] h1) (fun j hj ih h1 hpj ny e3 e4 e5 ew ev => ?_)
    have w1 := w.mr ny.1 ny.2.1
    by_cases cj : j = tk_e T n s
    · rw [zb_f (by omega)]
      refine vb_X6_next_100 _ _ _ ?_
      simp only [B_X6_next_100, oPI, oPL, oILOAD, oLLOAD, oALOAD, oISTORE, oASTORE, oLSTORE, oIINC, oIADD, oISUB, oIMUL, oIAND, oIOR, oIXOR, oIDIV, oIREM, oISHL, oISHR, oIUSHR, oLADD, oLSUB, oLMUL, oLOR, oLDIV, oLREM, oLCMP, oLSHL, oINEG, oI2L, oL2I, oI2B, oI2C, oDUP, oPOP, oDUP2, oIFEQ, oICEQ, oIFNE, oICNE, oIFLT, oICLT, oIFGE, oICGE, oIFGT, oICGT, oIFLE, oICLE, oIFNULL, oIFNONNULL, oTSW, oLSW, oGETI, oGETL, oGETR, oPUTI, oPUTZ, oPUTL, oPUTR, oIALD, oBALD, oZALD, oLALD, oAALD, oALEN, oIAST, oBAST, oZAST, oLAST, oIRET, oZRET, oLRET, oVRET, oARET, oOBJ, oINI, oPS, oNEW, oNEWAI, oNEWAB, oNEWAZ, oNEWAL, oCOPY, oINV0, oINS0, oINV1, oINS1, oINV2, oINS2, oINV3, oINS3, oINV4, oINS4, oINV5, oINS5, oINV6, oINS6, List.getElem?_cons_zero, List.getElem?_cons_succ, List.set_cons_zero, List.set_cons_succ, znl, zs4, zc1, true_and, and_self, Value.category, Option.toList, List.cons_append, List.nil_append, zvr, zc_s16 w1, zc_s17 w1, zc_s18 w1, zc_s19 w1, zc_s32 w1, zc_s45 w1, zc_s46 w1, zc_s47 w1, zc_s64 w1, zc_s68 w1, zc_s69 w1, zc_s76 w1, zc_s77 w1, zc_r16_0 w1, zc_r16_1 w1, zc_r16_2 w1, zc_r16_3 w1, zc_r16_4 w1, zc_r17_0 w1, zc_r17_1 w1, zc_r18_0 w1, zc_r32_0 w1, zc_r32_1 w1, zc_r46_0 w1, zc_r46_1 w1, zc_r68_0 w1, zc_r68_1 w1]
      refine ⟨fun _ => ?_, fun c => absurd rfl c⟩
      refine fin h1 _ 0 K ny (by rw [e3, cj]) e4 e5 eK (fun q => ?_) (fun q => ?_)
      · have := hd1 q
        rw [ew this.1 (by omega), cj]; rfl
      · have := hd2 q
        rw [ev this.1 (by omega), cj]; rfl
    have ih := ih (by omega)
    have hjn : j < n := by omega
    have hTj := hT j hjn
    have t19 : gz h1 19 j = T j := by rw [show gz h1 19 j = gz h 19 j from congrArg Int32.toInt (ny.2.2.1 19 j (by omega))]; exact hTj.1
    have e2 : gz h1 18 2 = n := by rw [show gz h1 18 2 = gz h 18 2 from congrArg Int32.toInt (ny.2.2.1 18 2 (by omega))]; exact he
    have cn : ¬ n ≤ tk_p T n s := by omega
    rw [zb_t (by omega)]
    refine vb_X6_next_100 _ _ _ ?_
    simp only [B_X6_next_100, oPI, oPL, oILOAD, oLLOAD, oALOAD, oISTORE, oASTORE, oLSTORE, oIINC, oIADD, oISUB, oIMUL, oIAND, oIOR, oIXOR, oIDIV, oIREM, oISHL, oISHR, oIUSHR, oLADD, oLSUB, oLMUL, oLOR, oLDIV, oLREM, oLCMP, oLSHL, oINEG, oI2L, oL2I, oI2B, oI2C, oDUP, oPOP, oDUP2, oIFEQ, oICEQ, oIFNE, oICNE, oIFLT, oICLT, oIFGE, oICGE, oIFGT, oICGT, oIFLE, oICLE, oIFNULL, oIFNONNULL, oTSW, oLSW, oGETI, oGETL, oGETR, oPUTI, oPUTZ, oPUTL, oPUTR, oIALD, oBALD, oZALD, oLALD, oAALD, oALEN, oIAST, oBAST, oZAST, oLAST, oIRET, oZRET, oLRET, oVRET, oARET, oOBJ, oINI, oPS, oNEW, oNEWAI, oNEWAB, oNEWAZ, oNEWAL, oCOPY, oINV0, oINS0, oINV1, oINS1, oINV2, oINS2, oINV3, oINS3, oINV4, oINS4, oINV5, oINS5, oINV6, oINS6, List.getElem?_cons_zero, List.getElem?_cons_succ, List.set_cons_zero, List.set_cons_succ, znl, zs4, zc1, true_and, and_self, Value.category, Option.toList, List.cons_append, List.nil_append, zvr, zc_s16 w1, zc_s17 w1, zc_s18 w1, zc_s19 w1, zc_s32 w1, zc_s45 w1, zc_s46 w1, zc_s47 w1, zc_s64 w1, zc_s68 w1, zc_s69 w1, zc_s76 w1, zc_s77 w1, zc_r16_0 w1, zc_r16_1 w1, zc_r16_2 w1, zc_r16_3 w1, zc_r16_4 w1, zc_r17_0 w1, zc_r17_1 w1, zc_r18_0 w1, zc_r32_0 w1, zc_r32_1 w1, zc_r46_0 w1, zc_r46_1 w1, zc_r68_0 w1, zc_r68_1 w1, zsh_pi, zsh_pl, zgr_pi, zgr_pl]
    refine ⟨fun c => (by first | omega | exact absurd rfl c | exact absurd trivial c | exact absurd c (by decide)), fun _ => ?_⟩
    rw [zgi_gz h1 18 3, e3, zgi_gz h1 18 2, e2]
    simp (disch := omega) only [zj_le]
    refine ⟨fun c => by omega, fun _ => ?_⟩
    obtain ⟨W, hW⟩ : ∃ W, W = zgl h1 18 6 <<< ((zj 8).toInt64 &&& 63) ||| (zj (T j)).toInt64 := ⟨_, rfl⟩
    have q1 : zgi h1 19 (zj (j : Int)).toNatClampNeg = zj (T j) := by rw [zj_cn (by omega), zgi_gz, t19]
    rw [q1, ← hW]
    refine ⟨zj_in (by omega) (by omega) (by omega), ?_⟩
    have q2 : zgi (zpl h1 18 6 W) 18 3 = zj j := by rw [zgi_pl, zgi_gz, e3]
    have q3 : zgi (zpl h1 18 6 W) 19 (zj (j : Int)).toNatClampNeg = zj (T j) := by rw [zgi_pl]; exact q1
    obtain ⟨V, hV⟩ : ∃ V, V = zj 10 * zgi (zpl h1 18 6 W) 18 7 + zj (T j) - zj 48 := ⟨_, rfl⟩
    rw [q2, q3, ← hV]
    refine ⟨zj_in (by omega) (by omega) (by omega), ?_⟩
    have q4 : zgi (zpi (zpl h1 18 6 W) 18 7 V) 18 3 = zj j := by rw [zpi_o (by omega)]; exact q2
    rw [q4, zj_add]
    obtain ⟨h3, hh3⟩ : ∃ h3, h3 = zpi (zpi (zpl h1 18 6 W) 18 7 V) 18 3 (zj ((j : Int) + 1)) := ⟨_, rfl⟩
    rw [← hh3]
    have ny3 : zNy h h3 := by rw [hh3]; exact (ny.pl.pi (by omega) (by omega)).pi (by omega) (by omega)
    have w3 := w.mr ny3.1 ny3.2.1
    have f3 : gz h3 18 3 = ((j + 1 : Nat) : Int) := by rw [hh3, gz_pi1 (by omega) (by omega)]; omega
    have f4 : gz h3 18 4 = K := by rw [hh3, gz_pi0 (by omega), gz_pi0 (by omega)]; exact e4
    have f5 : gz h3 18 5 = tk_p T n s := by rw [hh3, gz_pi0 (by omega), gz_pi0 (by omega)]; exact e5
    have f2 : gz h3 18 2 = n := by rw [show gz h3 18 2 = gz h 18 2 from congrArg Int32.toInt (ny3.2.2.1 18 2 (by omega))]; exact he
    have fw : K = 1 → j + 1 - tk_p T n s ≤ 8 → zgl h3 18 6 = zk (zfo 256 0 (tk_s T (tk_p T n s) (j + 1)) : Nat) := fun c1 c2 => by
      have ee := hKe cn (by omega)
      have hb := tk_r_b (T := T) (n := n) (K := K) n (tk_p T n s) hp.2 (by omega)
      have hk := hb.2.2.2 j hpj (by rw [← ee]; omega)
      rw [c1] at hk
      have hl := tk_n_1.mp hk
      have hlet : ∀ c ∈ tk_s T (tk_p T n s) j, 97 ≤ c ∧ c ≤ 122 := fun c hc => by
        obtain ⟨m, a1, a2, a3⟩ := tk_s_mem hc
        have hk2 := hb.2.2.2 m a1 (by rw [← ee]; omega)
        rw [c1] at hk2
        have := tk_n_1.mp hk2
        omega
      have hlt : zfo 256 0 (tk_s T (tk_p T n s) j) < 36028797018963968 * 2 := by
        have := zfo_lt 256 0 (by omega) _ (tk_s T (tk_p T n s) j) rfl (fun c hc => by have := hlet c hc; omega)
        rw [tk_s_len] at this
        have h9 : 256 ^ (j - tk_p T n s) ≤ 256 ^ 7 := Nat.pow_le_pow_right (by omega) (by omega)
        omega
      have hlt2 : zfo 256 0 (tk_s T (tk_p T n s) j) < 36028797018963968 := by
        have key : ∀ (m : Nat) (l : List Nat), l.length = m → (∀ c ∈ l, 97 ≤ c ∧ c ≤ 122) → 2 * zfo 256 0 l + 2 ≤ 256 ^ m + 1 := by
          intro m
          induction m with
          | zero =>
            intro l hl _
            have := List.length_eq_zero_iff.mp hl
            subst this
            exact Nat.le_refl 2
          | succ m ih =>
            intro l hl h
            rcases List.eq_nil_or_concat l with rfl | ⟨l', c, rfl⟩
            · cases hl
            · rw [List.concat_eq_append] at *
              have := ih l' (by simp at hl; exact hl) (fun x hx => h x (by simp [hx]))
              have hc := h c (by simp)
              rw [zfo_app, Nat.pow_succ]
              omega
        have h1 := key (j - tk_p T n s) _ tk_s_len hlet
        have h9 : 256 ^ (j - tk_p T n s) ≤ 256 ^ 7 := Nat.pow_le_pow_right (by omega) (by omega)
        omega
      rw [hh3]
      show zgl (zpl h1 18 6 W) 18 6 = _
      rw [zgl_pl, if_pos ⟨rfl, rfl⟩, hW, ew c1 (by omega), tk_s_s hpj, zfo_app, Nat.sub_zero]
      obtain ⟨c, hc⟩ : ∃ c : Nat, T j = c := ⟨(T j).toNat, by omega⟩
      rw [hc, Int.toNat_natCast]
      exact zshl8 hlt2 (by omega)
    have fv : K = 2 → j + 1 - tk_p T n s ≤ 3 → gz h3 18 7 = zfo 10 48 (tk_s T (tk_p T n s) (j + 1)) := fun c1 c2 => by
      have ee := hKe cn (by omega)
      have hb := tk_r_b (T := T) (n := n) (K := K) n (tk_p T n s) hp.2 (by omega)
      have hk := hb.2.2.2 j hpj (by rw [← ee]; omega)
      rw [c1] at hk
      have hl := tk_n_2.mp hk
      have hdg : ∀ c ∈ tk_s T (tk_p T n s) j, 48 ≤ c ∧ c ≤ 57 := fun c hc => by
        obtain ⟨m, a1, a2, a3⟩ := tk_s_mem hc
        have hk2 := hb.2.2.2 m a1 (by rw [← ee]; omega)
        rw [c1] at hk2
        have := tk_n_2.mp hk2
        omega
      have hlt := zfo10 (tk_s T (tk_p T n s) j) (by rw [tk_s_len]; omega) hdg
      rw [hh3, gz_pi0 (by omega)]
      show (zgi (zpi (zpl h1 18 6 W) 18 7 V) 18 7).toInt = _
      rw [zgi_pi, if_pos ⟨rfl, rfl⟩, hV, zgi_pl, zgi_gz, ev c1 (by omega), zj_mul, zj_add, zj_sub, zj_toInt (by omega) (by omega), tk_s_s hpj, zfo_app]
      omega
    have nxt := ih h3 (by omega) ny3 f3 f4 f5 fw fv
    have no : ¬ (j + 1 < tk_e T n s) → zV X M_X6_next (zQm M_X6_next R) 0 0 221 [.ref 18, .int (zj 1)] [] h3 := fun c => by
      rw [zb_f c] at nxt
      refine vb_X6_next_221 _ _ _ ?_
      simp only [B_X6_next_221, oPI, oPL, oILOAD, oLLOAD, oALOAD, oISTORE, oASTORE, oLSTORE, oIINC, oIADD, oISUB, oIMUL, oIAND, oIOR, oIXOR, oIDIV, oIREM, oISHL, oISHR, oIUSHR, oLADD, oLSUB, oLMUL, oLOR, oLDIV, oLREM, oLCMP, oLSHL, oINEG, oI2L, oL2I, oI2B, oI2C, oDUP, oPOP, oDUP2, oIFEQ, oICEQ, oIFNE, oICNE, oIFLT, oICLT, oIFGE, oICGE, oIFGT, oICGT, oIFLE, oICLE, oIFNULL, oIFNONNULL, oTSW, oLSW, oGETI, oGETL, oGETR, oPUTI, oPUTZ, oPUTL, oPUTR, oIALD, oBALD, oZALD, oLALD, oAALD, oALEN, oIAST, oBAST, oZAST, oLAST, oIRET, oZRET, oLRET, oVRET, oARET, oOBJ, oINI, oPS, oNEW, oNEWAI, oNEWAB, oNEWAZ, oNEWAL, oCOPY, oINV0, oINS0, oINV1, oINS1, oINV2, oINS2, oINV3, oINS3, oINV4, oINS4, oINV5, oINS5, oINV6, oINS6, List.getElem?_cons_zero, List.getElem?_cons_succ, List.set_cons_zero, List.set_cons_succ, znl, zs4, zc1, true_and, and_self, Value.category, Option.toList, List.cons_append, List.nil_append, zvr]
      refine vb_X6_next_222 _ _ _ ?_
      simp only [B_X6_next_222, oPI, oPL, oILOAD, oLLOAD, oALOAD, oISTORE, oASTORE, oLSTORE, oIINC, oIADD, oISUB, oIMUL, oIAND, oIOR, oIXOR, oIDIV, oIREM, oISHL, oISHR, oIUSHR, oLADD, oLSUB, oLMUL, oLOR, oLDIV, oLREM, oLCMP, oLSHL, oINEG, oI2L, oL2I, oI2B, oI2C, oDUP, oPOP, oDUP2, oIFEQ, oICEQ, oIFNE, oICNE, oIFLT, oICLT, oIFGE, oICGE, oIFGT, oICGT, oIFLE, oICLE, oIFNULL, oIFNONNULL, oTSW, oLSW, oGETI, oGETL, oGETR, oPUTI, oPUTZ, oPUTL, oPUTR, oIALD, oBALD, oZALD, oLALD, oAALD, oALEN, oIAST, oBAST, oZAST, oLAST, oIRET, oZRET, oLRET, oVRET, oARET, oOBJ, oINI, oPS, oNEW, oNEWAI, oNEWAB, oNEWAZ, oNEWAL, oCOPY, oINV0, oINS0, oINV1, oINS1, oINV2, oINS2, oINV3, oINS3, oINV4, oINS4, oINV5, oINS5, oINV6, oINS6, List.getElem?_cons_zero, List.getElem?_cons_succ, List.set_cons_zero, List.set_cons_succ, znl, zs4, zc1, true_and, and_self, Value.category, Option.toList, List.cons_append, List.nil_append, zvr]
      exact nxt
    have n187 : (K = 1 ∨ K = 2) → zV X M_X6_next (zQm M_X6_next R) 0 0 187 [.ref 18, .int (zj 1)] [] h3 := fun c => by
      have ee := hKe cn (by omega)
      have hb := tk_r_b (T := T) (n := n) (K := K) n (tk_p T n s) hp.2 (by omega)
      refine vb_X6_next_187 _ _ _ ?_
      simp only [B_X6_next_187, oPI, oPL, oILOAD, oLLOAD, oALOAD, oISTORE, oASTORE, oLSTORE, oIINC, oIADD, oISUB, oIMUL, oIAND, oIOR, oIXOR, oIDIV, oIREM, oISHL, oISHR, oIUSHR, oLADD, oLSUB, oLMUL, oLOR, oLDIV, oLREM, oLCMP, oLSHL, oINEG, oI2L, oL2I, oI2B, oI2C, oDUP, oPOP, oDUP2, oIFEQ, oICEQ, oIFNE, oICNE, oIFLT, oICLT, oIFGE, oICGE, oIFGT, oICGT, oIFLE, oICLE, oIFNULL, oIFNONNULL, oTSW, oLSW, oGETI, oGETL, oGETR, oPUTI, oPUTZ, oPUTL, oPUTR, oIALD, oBALD, oZALD, oLALD, oAALD, oALEN, oIAST, oBAST, oZAST, oLAST, oIRET, oZRET, oLRET, oVRET, oARET, oOBJ, oINI, oPS, oNEW, oNEWAI, oNEWAB, oNEWAZ, oNEWAL, oCOPY, oINV0, oINS0, oINV1, oINS1, oINV2, oINS2, oINV3, oINS3, oINV4, oINS4, oINV5, oINS5, oINV6, oINS6, List.getElem?_cons_zero, List.getElem?_cons_succ, List.set_cons_zero, List.set_cons_succ, znl, zs4, zc1, true_and, and_self, Value.category, Option.toList, List.cons_append, List.nil_append, zvr, zc_s16 w3, zc_s17 w3, zc_s18 w3, zc_s19 w3, zc_s32 w3, zc_s45 w3, zc_s46 w3, zc_s47 w3, zc_s64 w3, zc_s68 w3, zc_s69 w3, zc_s76 w3, zc_s77 w3, zc_r16_0 w3, zc_r16_1 w3, zc_r16_2 w3, zc_r16_3 w3, zc_r16_4 w3, zc_r17_0 w3, zc_r17_1 w3, zc_r18_0 w3, zc_r32_0 w3, zc_r32_1 w3, zc_r46_0 w3, zc_r46_1 w3, zc_r68_0 w3, zc_r68_1 w3]
      rw [zgi_gz h3 18 3, f3, zgi_gz h3 18 2, f2]
      simp (disch := omega) only [zj_le]
      refine ⟨fun c2 => no (by omega), fun c2 => ?_⟩
      have hT1 := hT (j + 1) (by omega)
      have t1 : zgi h3 19 (zj ((j + 1 : Nat) : Int)).toNatClampNeg = zj (T (j + 1)) := by rw [zj_cn (by omega), ny3.2.2.1 19 _ (by omega), zgi_gz, hT1.1]
      rw [t1]
      refine ⟨zj_in (by omega) (by omega) (by omega), ?_⟩
      refine cc_kindOf hT1.2.1 hT1.2.2 ?_
      have hk1 := tk_n_b (T (j + 1))
      simp only [oPI, oPL, oILOAD, oLLOAD, oALOAD, oISTORE, oASTORE, oLSTORE, oIINC, oIADD, oISUB, oIMUL, oIAND, oIOR, oIXOR, oIDIV, oIREM, oISHL, oISHR, oIUSHR, oLADD, oLSUB, oLMUL, oLOR, oLDIV, oLREM, oLCMP, oLSHL, oINEG, oI2L, oL2I, oI2B, oI2C, oDUP, oPOP, oDUP2, oIFEQ, oICEQ, oIFNE, oICNE, oIFLT, oICLT, oIFGE, oICGE, oIFGT, oICGT, oIFLE, oICLE, oIFNULL, oIFNONNULL, oTSW, oLSW, oGETI, oGETL, oGETR, oPUTI, oPUTZ, oPUTL, oPUTR, oIALD, oBALD, oZALD, oLALD, oAALD, oALEN, oIAST, oBAST, oZAST, oLAST, oIRET, oZRET, oLRET, oVRET, oARET, oOBJ, oINI, oPS, oNEW, oNEWAI, oNEWAB, oNEWAZ, oNEWAL, oCOPY, oINV0, oINS0, oINV1, oINS1, oINV2, oINS2, oINV3, oINS3, oINV4, oINS4, oINV5, oINS5, oINV6, oINS6, List.getElem?_cons_zero, List.getElem?_cons_succ, List.set_cons_zero, List.set_cons_succ, znl, zs4, zc1, true_and, and_self, Value.category, Option.toList, List.cons_append, List.nil_append, zvr, zc_s16 w3, zc_s17 w3, zc_s18 w3, zc_s19 w3, zc_s32 w3, zc_s45 w3, zc_s46 w3, zc_s47 w3, zc_s64 w3, zc_s68 w3, zc_s69 w3, zc_s76 w3, zc_s77 w3, zc_r16_0 w3, zc_r16_1 w3, zc_r16_2 w3, zc_r16_3 w3, zc_r16_4 w3, zc_r17_0 w3, zc_r17_1 w3, zc_r18_0 w3, zc_r32_0 w3, zc_r32_1 w3, zc_r46_0 w3, zc_r46_1 w3, zc_r68_0 w3, zc_r68_1 w3]
      rw [zgi_gz h3 18 4, f4]
      try simp (disch := omega) only [zgi_gz, zj_cn, zj_lt, zj_le, zj_eq, zj_add, zj_sub, zj_mul, zj_neg, zj_lt0, zj_le0, zj_0le, zj_0lt, zj_eq0, zb_0, zb_z, Classical.not_not, Int.zero_add, Int.add_zero, zj_remn, zj_divn]
      refine ⟨fun c3 => no (fun z => c3 ?_), fun c3 => ?_⟩
      · have := hb.2.2.2 (j + 1) (by omega) (by rw [← ee]; exact z)
        omega
      · have hlt : j + 1 < tk_e T n s := by
          rcases Nat.lt_or_ge (j + 1) (tk_e T n s) with q | q
          · exact q
          · have e9 : tk_e T n s = j + 1 := by omega
            rw [e9] at ee
            have := hb.2.2.1 (by rw [← ee]; omega)
            rw [← ee] at this
            omega
        rw [zb_t hlt] at nxt
        refine vb_X6_next_222 _ _ _ ?_
        simp only [B_X6_next_222, oPI, oPL, oILOAD, oLLOAD, oALOAD, oISTORE, oASTORE, oLSTORE, oIINC, oIADD, oISUB, oIMUL, oIAND, oIOR, oIXOR, oIDIV, oIREM, oISHL, oISHR, oIUSHR, oLADD, oLSUB, oLMUL, oLOR, oLDIV, oLREM, oLCMP, oLSHL, oINEG, oI2L, oL2I, oI2B, oI2C, oDUP, oPOP, oDUP2, oIFEQ, oICEQ, oIFNE, oICNE, oIFLT, oICLT, oIFGE, oICGE, oIFGT, oICGT, oIFLE, oICLE, oIFNULL, oIFNONNULL, oTSW, oLSW, oGETI, oGETL, oGETR, oPUTI, oPUTZ, oPUTL, oPUTR, oIALD, oBALD, oZALD, oLALD, oAALD, oALEN, oIAST, oBAST, oZAST, oLAST, oIRET, oZRET, oLRET, oVRET, oARET, oOBJ, oINI, oPS, oNEW, oNEWAI, oNEWAB, oNEWAZ, oNEWAL, oCOPY, oINV0, oINS0, oINV1, oINS1, oINV2, oINS2, oINV3, oINS3, oINV4, oINS4, oINV5, oINS5, oINV6, oINS6, List.getElem?_cons_zero, List.getElem?_cons_succ, List.set_cons_zero, List.set_cons_succ, znl, zs4, zc1, true_and, and_self, Value.category, Option.toList, List.cons_append, List.nil_append, zvr]
        exact nxt
    rw [zgi_gz h3 18 4, f4]
    try simp (disch := omega) only [zgi_gz, zj_cn, zj_lt, zj_le, zj_eq, zj_add, zj_sub, zj_mul, zj_neg, zj_lt0, zj_le0, zj_0le, zj_0lt, zj_eq0, zb_0, zb_z, Classical.not_not, Int.zero_add, Int.add_zero, zj_remn, zj_divn]
    refine ⟨fun c => n187 (Or.inl (by omega)), fun c => ⟨fun c2 => no (fun z => ?_), fun c2 => n187 (Or.inr (by omega))⟩⟩
    have := hKe3 cn (by omega)
    omega
  refine zCC_of (ls := [.ref 18, .retAddr 0]) pf_X6_next rfl (Nat.le_of_ble_eq_true rfl) ?_
  refine zdown (m := n) (P := fun i => ∀ h1, s ≤ i → zNy h h1 → gz h1 18 3 = i → tk_c T n (n + s - i) i = tk_p T n s → zV X M_X6_next (zQm M_X6_next R) 0 0 0 [.ref 18, .retAddr 0] [] h1) (fun i hi ih h1 hsi ny e3 ec => ?_) s hs h (Nat.le_refl _) ⟨rfl, rfl, fun _ _ _ => rfl, fun _ _ _ => rfl⟩ ha (by rw [show n + s - s = n by omega]; rfl)
  have w1 := w.mr ny.1 ny.2.1
  have e2 : gz h1 18 2 = n := by rw [show gz h1 18 2 = gz h 18 2 from congrArg Int32.toInt (ny.2.2.1 18 2 (by omega))]; exact he
  have n38 : ¬ (i < n ∧ T i = 32) → zV X M_X6_next (zQm M_X6_next R) 0 0 38 [.ref 18, .retAddr 0] [] h1 := fun c => by
    have ep : tk_p T n s = i := by rw [← ec]; exact tk_c_e c
    have q3 : zgi (zpi h1 18 5 (zj i)) 18 3 = zj i := by rw [zpi_o (by omega), zgi_gz, e3]
    have q2 : zgi (zpi h1 18 5 (zj i)) 18 2 = zj n := by rw [zpi_o (by omega), zgi_gz, e2]
    obtain ⟨h2, hh2⟩ : ∃ h2, h2 = zpi (zpl (zpi h1 18 5 (zj i)) 18 6 (zk 0)) 18 7 (zj 0) := ⟨_, rfl⟩
    have ny2 : zNy h h2 := by rw [hh2]; exact ((ny.pi (by omega) (by omega)).pl).pi (by omega) (by omega)
    have w2 := w.mr ny2.1 ny2.2.1
    have g3 : zgi h2 18 3 = zj i := by rw [hh2, zpi_o (by omega), zgi_pl]; exact q3
    have g2 : zgi h2 18 2 = zj n := by rw [hh2, zpi_o (by omega), zgi_pl]; exact q2
    have tail : zV X M_X6_next (zQm M_X6_next R) 0 0 84 [.ref 18, .retAddr 0] [.int (zj K), .ref 18] h2 := by
      obtain ⟨h3, hh3⟩ : ∃ h3, h3 = zpi h2 18 4 (zj K) := ⟨_, rfl⟩
      have ny3 : zNy h h3 := by rw [hh3]; exact ny2.pi (by omega) (by omega)
      have w3 := w.mr ny3.1 ny3.2.1
      have f3 : gz h3 18 3 = i := by rw [hh3, gz_pi0 (by omega)]; show (zgi h2 18 3).toInt = _; rw [g3, zj_toInt (by omega) (by omega)]
      have f4 : gz h3 18 4 = K := by rw [hh3]; exact gz_pi1 (by omega) (by omega)
      have f5 : gz h3 18 5 = tk_p T n s := by rw [hh3, gz_pi0 (by omega), hh2, gz_pi0 (by omega)]; show (zgi (zpi h1 18 5 (zj i)) 18 5).toInt = _; rw [zgi_pi, if_pos ⟨rfl, rfl⟩, zj_toInt (by omega) (by omega), ep]
      have r := run (tk_p T n s) hen.1 h3 (Nat.le_refl _) ny3 (by rw [f3, ep]) f4 f5 (fun _ _ => by rw [tk_s_0, hh3, hh2]; rfl) (fun _ _ => by rw [tk_s_0, hh3, gz_pi0 (by omega), hh2, gz_pi1 (by omega) (by omega)]; rfl)
      refine vb_X6_next_84 _ _ _ ?_
      simp only [B_X6_next_84, oPI, oPL, oILOAD, oLLOAD, oALOAD, oISTORE, oASTORE, oLSTORE, oIINC, oIADD, oISUB, oIMUL, oIAND, oIOR, oIXOR, oIDIV, oIREM, oISHL, oISHR, oIUSHR, oLADD, oLSUB, oLMUL, oLOR, oLDIV, oLREM, oLCMP, oLSHL, oINEG, oI2L, oL2I, oI2B, oI2C, oDUP, oPOP, oDUP2, oIFEQ, oICEQ, oIFNE, oICNE, oIFLT, oICLT, oIFGE, oICGE, oIFGT, oICGT, oIFLE, oICLE, oIFNULL, oIFNONNULL, oTSW, oLSW, oGETI, oGETL, oGETR, oPUTI, oPUTZ, oPUTL, oPUTR, oIALD, oBALD, oZALD, oLALD, oAALD, oALEN, oIAST, oBAST, oZAST, oLAST, oIRET, oZRET, oLRET, oVRET, oARET, oOBJ, oINI, oPS, oNEW, oNEWAI, oNEWAB, oNEWAZ, oNEWAL, oCOPY, oINV0, oINS0, oINV1, oINS1, oINV2, oINS2, oINV3, oINS3, oINV4, oINS4, oINV5, oINS5, oINV6, oINS6, List.getElem?_cons_zero, List.getElem?_cons_succ, List.set_cons_zero, List.set_cons_succ, znl, zs4, zc1, true_and, and_self, Value.category, Option.toList, List.cons_append, List.nil_append, zvr, zc_s16 w2, zc_s17 w2, zc_s18 w2, zc_s19 w2, zc_s32 w2, zc_s45 w2, zc_s46 w2, zc_s47 w2, zc_s64 w2, zc_s68 w2, zc_s69 w2, zc_s76 w2, zc_s77 w2, zc_r16_0 w2, zc_r16_1 w2, zc_r16_2 w2, zc_r16_3 w2, zc_r16_4 w2, zc_r17_0 w2, zc_r17_1 w2, zc_r18_0 w2, zc_r32_0 w2, zc_r32_1 w2, zc_r46_0 w2, zc_r46_1 w2, zc_r68_0 w2, zc_r68_1 w2, zsh_pi]
      rw [← hh3, zgi_gz h3 18 4, f4]
      try simp (disch := omega) only [zgi_gz, zj_cn, zj_lt, zj_le, zj_eq, zj_add, zj_sub, zj_mul, zj_neg, zj_lt0, zj_le0, zj_0le, zj_0lt, zj_eq0, zb_0, zb_z, Classical.not_not, Int.zero_add, Int.add_zero, zj_remn, zj_divn]
      refine ⟨fun c => ?_, fun c => ?_⟩
      · have hz := hKe0 (hK0.1.mp (by omega))
        rw [zb_f (by omega)] at r
        refine vb_X6_next_98 _ _ _ ?_
        simp only [B_X6_next_98, oPI, oPL, oILOAD, oLLOAD, oALOAD, oISTORE, oASTORE, oLSTORE, oIINC, oIADD, oISUB, oIMUL, oIAND, oIOR, oIXOR, oIDIV, oIREM, oISHL, oISHR, oIUSHR, oLADD, oLSUB, oLMUL, oLOR, oLDIV, oLREM, oLCMP, oLSHL, oINEG, oI2L, oL2I, oI2B, oI2C, oDUP, oPOP, oDUP2, oIFEQ, oICEQ, oIFNE, oICNE, oIFLT, oICLT, oIFGE, oICGE, oIFGT, oICGT, oIFLE, oICLE, oIFNULL, oIFNONNULL, oTSW, oLSW, oGETI, oGETL, oGETR, oPUTI, oPUTZ, oPUTL, oPUTR, oIALD, oBALD, oZALD, oLALD, oAALD, oALEN, oIAST, oBAST, oZAST, oLAST, oIRET, oZRET, oLRET, oVRET, oARET, oOBJ, oINI, oPS, oNEW, oNEWAI, oNEWAB, oNEWAZ, oNEWAL, oCOPY, oINV0, oINS0, oINV1, oINS1, oINV2, oINS2, oINV3, oINS3, oINV4, oINS4, oINV5, oINS5, oINV6, oINS6, List.getElem?_cons_zero, List.getElem?_cons_succ, List.set_cons_zero, List.set_cons_succ, znl, zs4, zc1, true_and, and_self, Value.category, Option.toList, List.cons_append, List.nil_append, zvr]
        refine vb_X6_next_99 _ _ _ ?_
        simp only [B_X6_next_99, oPI, oPL, oILOAD, oLLOAD, oALOAD, oISTORE, oASTORE, oLSTORE, oIINC, oIADD, oISUB, oIMUL, oIAND, oIOR, oIXOR, oIDIV, oIREM, oISHL, oISHR, oIUSHR, oLADD, oLSUB, oLMUL, oLOR, oLDIV, oLREM, oLCMP, oLSHL, oINEG, oI2L, oL2I, oI2B, oI2C, oDUP, oPOP, oDUP2, oIFEQ, oICEQ, oIFNE, oICNE, oIFLT, oICLT, oIFGE, oICGE, oIFGT, oICGT, oIFLE, oICLE, oIFNULL, oIFNONNULL, oTSW, oLSW, oGETI, oGETL, oGETR, oPUTI, oPUTZ, oPUTL, oPUTR, oIALD, oBALD, oZALD, oLALD, oAALD, oALEN, oIAST, oBAST, oZAST, oLAST, oIRET, oZRET, oLRET, oVRET, oARET, oOBJ, oINI, oPS, oNEW, oNEWAI, oNEWAB, oNEWAZ, oNEWAL, oCOPY, oINV0, oINS0, oINV1, oINS1, oINV2, oINS2, oINV3, oINS3, oINV4, oINS4, oINV5, oINS5, oINV6, oINS6, List.getElem?_cons_zero, List.getElem?_cons_succ, List.set_cons_zero, List.set_cons_succ, znl, zs4, zc1, true_and, and_self, Value.category, Option.toList, List.cons_append, List.nil_append, zvr]
        exact r
      · have hz := hen.2.2 (by have := hK0.1; omega)
        rw [zb_t hz] at r
        refine vb_X6_next_99 _ _ _ ?_
        simp only [B_X6_next_99, oPI, oPL, oILOAD, oLLOAD, oALOAD, oISTORE, oASTORE, oLSTORE, oIINC, oIADD, oISUB, oIMUL, oIAND, oIOR, oIXOR, oIDIV, oIREM, oISHL, oISHR, oIUSHR, oLADD, oLSUB, oLMUL, oLOR, oLDIV, oLREM, oLCMP, oLSHL, oINEG, oI2L, oL2I, oI2B, oI2C, oDUP, oPOP, oDUP2, oIFEQ, oICEQ, oIFNE, oICNE, oIFLT, oICLT, oIFGE, oICGE, oIFGT, oICGT, oIFLE, oICLE, oIFNULL, oIFNONNULL, oTSW, oLSW, oGETI, oGETL, oGETR, oPUTI, oPUTZ, oPUTL, oPUTR, oIALD, oBALD, oZALD, oLALD, oAALD, oALEN, oIAST, oBAST, oZAST, oLAST, oIRET, oZRET, oLRET, oVRET, oARET, oOBJ, oINI, oPS, oNEW, oNEWAI, oNEWAB, oNEWAZ, oNEWAL, oCOPY, oINV0, oINS0, oINV1, oINS1, oINV2, oINS2, oINV3, oINS3, oINV4, oINS4, oINV5, oINS5, oINV6, oINS6, List.getElem?_cons_zero, List.getElem?_cons_succ, List.set_cons_zero, List.set_cons_succ, znl, zs4, zc1, true_and, and_self, Value.category, Option.toList, List.cons_append, List.nil_append, zvr]
        exact r
    refine vb_X6_next_38 _ _ _ ?_
    simp only [B_X6_next_38, oPI, oPL, oILOAD, oLLOAD, oALOAD, oISTORE, oASTORE, oLSTORE, oIINC, oIADD, oISUB, oIMUL, oIAND, oIOR, oIXOR, oIDIV, oIREM, oISHL, oISHR, oIUSHR, oLADD, oLSUB, oLMUL, oLOR, oLDIV, oLREM, oLCMP, oLSHL, oINEG, oI2L, oL2I, oI2B, oI2C, oDUP, oPOP, oDUP2, oIFEQ, oICEQ, oIFNE, oICNE, oIFLT, oICLT, oIFGE, oICGE, oIFGT, oICGT, oIFLE, oICLE, oIFNULL, oIFNONNULL, oTSW, oLSW, oGETI, oGETL, oGETR, oPUTI, oPUTZ, oPUTL, oPUTR, oIALD, oBALD, oZALD, oLALD, oAALD, oALEN, oIAST, oBAST, oZAST, oLAST, oIRET, oZRET, oLRET, oVRET, oARET, oOBJ, oINI, oPS, oNEW, oNEWAI, oNEWAB, oNEWAZ, oNEWAL, oCOPY, oINV0, oINS0, oINV1, oINS1, oINV2, oINS2, oINV3, oINS3, oINV4, oINS4, oINV5, oINS5, oINV6, oINS6, List.getElem?_cons_zero, List.getElem?_cons_succ, List.set_cons_zero, List.set_cons_succ, znl, zs4, zc1, true_and, and_self, Value.category, Option.toList, List.cons_append, List.nil_append, zvr, zc_s16 w1, zc_s17 w1, zc_s18 w1, zc_s19 w1, zc_s32 w1, zc_s45 w1, zc_s46 w1, zc_s47 w1, zc_s64 w1, zc_s68 w1, zc_s69 w1, zc_s76 w1, zc_s77 w1, zc_r16_0 w1, zc_r16_1 w1, zc_r16_2 w1, zc_r16_3 w1, zc_r16_4 w1, zc_r17_0 w1, zc_r17_1 w1, zc_r18_0 w1, zc_r32_0 w1, zc_r32_1 w1, zc_r46_0 w1, zc_r46_1 w1, zc_r68_0 w1, zc_r68_1 w1, zsh_pi, zsh_pl, zgr_pi, zgr_pl]
    rw [zgi_gz h1 18 3, e3, ← hh2, g3, g2]
    simp (disch := omega) only [zj_le]
    refine ⟨fun c2 => ?_, fun c2 => ?_⟩
    · have e0 : K = 0 := hK0.1.mpr (by omega)
      rw [e0] at tail
      refine vb_X6_next_83 _ _ _ ?_
      simp only [B_X6_next_83, oPI, oPL, oILOAD, oLLOAD, oALOAD, oISTORE, oASTORE, oLSTORE, oIINC, oIADD, oISUB, oIMUL, oIAND, oIOR, oIXOR, oIDIV, oIREM, oISHL, oISHR, oIUSHR, oLADD, oLSUB, oLMUL, oLOR, oLDIV, oLREM, oLCMP, oLSHL, oINEG, oI2L, oL2I, oI2B, oI2C, oDUP, oPOP, oDUP2, oIFEQ, oICEQ, oIFNE, oICNE, oIFLT, oICLT, oIFGE, oICGE, oIFGT, oICGT, oIFLE, oICLE, oIFNULL, oIFNONNULL, oTSW, oLSW, oGETI, oGETL, oGETR, oPUTI, oPUTZ, oPUTL, oPUTR, oIALD, oBALD, oZALD, oLALD, oAALD, oALEN, oIAST, oBAST, oZAST, oLAST, oIRET, oZRET, oLRET, oVRET, oARET, oOBJ, oINI, oPS, oNEW, oNEWAI, oNEWAB, oNEWAZ, oNEWAL, oCOPY, oINV0, oINS0, oINV1, oINS1, oINV2, oINS2, oINV3, oINS3, oINV4, oINS4, oINV5, oINS5, oINV6, oINS6, List.getElem?_cons_zero, List.getElem?_cons_succ, List.set_cons_zero, List.set_cons_succ, znl, zs4, zc1, true_and, and_self, Value.category, Option.toList, List.cons_append, List.nil_append, zvr]
      exact tail
    · have hTi := hT i (by omega)
      have t1 : zgi h2 19 (zj (i : Int)).toNatClampNeg = zj (T i) := by rw [zj_cn (by omega), ny2.2.2.1 19 _ (by omega), zgi_gz, hTi.1]
      have eKi : K = tk_n (T i) := by rw [hKk (by omega), ep]
      rw [eKi] at tail
      rw [t1]
      refine ⟨zj_in (by omega) (by omega) (by omega), ?_⟩
      refine cc_kindOf hTi.2.1 hTi.2.2 ?_
      simp only [oPI, oPL, oILOAD, oLLOAD, oALOAD, oISTORE, oASTORE, oLSTORE, oIINC, oIADD, oISUB, oIMUL, oIAND, oIOR, oIXOR, oIDIV, oIREM, oISHL, oISHR, oIUSHR, oLADD, oLSUB, oLMUL, oLOR, oLDIV, oLREM, oLCMP, oLSHL, oINEG, oI2L, oL2I, oI2B, oI2C, oDUP, oPOP, oDUP2, oIFEQ, oICEQ, oIFNE, oICNE, oIFLT, oICLT, oIFGE, oICGE, oIFGT, oICGT, oIFLE, oICLE, oIFNULL, oIFNONNULL, oTSW, oLSW, oGETI, oGETL, oGETR, oPUTI, oPUTZ, oPUTL, oPUTR, oIALD, oBALD, oZALD, oLALD, oAALD, oALEN, oIAST, oBAST, oZAST, oLAST, oIRET, oZRET, oLRET, oVRET, oARET, oOBJ, oINI, oPS, oNEW, oNEWAI, oNEWAB, oNEWAZ, oNEWAL, oCOPY, oINV0, oINS0, oINV1, oINS1, oINV2, oINS2, oINV3, oINS3, oINV4, oINS4, oINV5, oINS5, oINV6, oINS6, List.getElem?_cons_zero, List.getElem?_cons_succ, List.set_cons_zero, List.set_cons_succ, znl, zs4, zc1, true_and, and_self, Value.category, Option.toList, List.cons_append, List.nil_append, zvr]
      exact tail
  refine vb_X6_next_0 _ _ _ ?_
  simp only [B_X6_next_0, oPI, oPL, oILOAD, oLLOAD, oALOAD, oISTORE, oASTORE, oLSTORE, oIINC, oIADD, oISUB, oIMUL, oIAND, oIOR, oIXOR, oIDIV, oIREM, oISHL, oISHR, oIUSHR, oLADD, oLSUB, oLMUL, oLOR, oLDIV, oLREM, oLCMP, oLSHL, oINEG, oI2L, oL2I, oI2B, oI2C, oDUP, oPOP, oDUP2, oIFEQ, oICEQ, oIFNE, oICNE, oIFLT, oICLT, oIFGE, oICGE, oIFGT, oICGT, oIFLE, oICLE, oIFNULL, oIFNONNULL, oTSW, oLSW, oGETI, oGETL, oGETR, oPUTI, oPUTZ, oPUTL, oPUTR, oIALD, oBALD, oZALD, oLALD, oAALD, oALEN, oIAST, oBAST, oZAST, oLAST, oIRET, oZRET, oLRET, oVRET, oARET, oOBJ, oINI, oPS, oNEW, oNEWAI, oNEWAB, oNEWAZ, oNEWAL, oCOPY, oINV0, oINS0, oINV1, oINS1, oINV2, oINS2, oINV3, oINS3, oINV4, oINS4, oINV5, oINS5, oINV6, oINS6, List.getElem?_cons_zero, List.getElem?_cons_succ, List.set_cons_zero, List.set_cons_succ, znl, zs4, zc1, true_and, and_self, Value.category, Option.toList, List.cons_append, List.nil_append, zvr, zc_s16 w1, zc_s17 w1, zc_s18 w1, zc_s19 w1, zc_s32 w1, zc_s45 w1, zc_s46 w1, zc_s47 w1, zc_s64 w1, zc_s68 w1, zc_s69 w1, zc_s76 w1, zc_s77 w1, zc_r16_0 w1, zc_r16_1 w1, zc_r16_2 w1, zc_r16_3 w1, zc_r16_4 w1, zc_r17_0 w1, zc_r17_1 w1, zc_r18_0 w1, zc_r32_0 w1, zc_r32_1 w1, zc_r46_0 w1, zc_r46_1 w1, zc_r68_0 w1, zc_r68_1 w1, zsh_pi]
  rw [zgi_gz h1 18 3, e3, zgi_gz h1 18 2, e2]
  by_cases ci : i = n
  · subst ci
    simp (disch := omega) only [zj_le]
    exact ⟨fun _ => n38 (by omega), fun c => by omega⟩
  have hTi := hT i (by omega)
  have t1 : zgi h1 19 (zj (i : Int)).toNatClampNeg = zj (T i) := by rw [zj_cn (by omega), ny.2.2.1 19 _ (by omega), zgi_gz, hTi.1]
  rw [t1]
  simp (disch := omega) only [zj_le, zj_eq]
  refine ⟨fun c => by omega, fun _ => ⟨zj_in (by omega) (by omega) (by omega), fun c => n38 (fun z => c z.2), fun c => ?_⟩⟩
  rw [zj_add]
  refine ih (by omega) _ (by omega) (ny.pi (by omega) (by omega)) (by rw [gz_pi1 (by omega) (by omega)]; omega) ?_
  rw [← ec, tk_c_s (by omega) c (by omega), show n + s - (i + 1) = n + s - i - 1 by omega]
end ZNX
