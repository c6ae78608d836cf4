section ZCU
variable {X : Nat × (Nat → Int32)} {R : zRt} {h h' h0 h1 h2 : zHp} {d p : Nat} {T : Nat → Int} {n s s0 : Nat} {D D' : zDt}
theorem zCW.swap (w : zCW h d p) (e1 : h'.1 = h.1) (r1 : zgr h' 32 0 = some d) (r2 : zgr h' 17 1 = some p) (r : ∀ k j, ¬ (k = 32 ∧ j = 0) → ¬ (k = 17 ∧ j = 1) → zgr h' k j = zgr h k j) : zCW h' p d := by
  have hdp := zc_dp w
  have a1 : ∀ k, zsh h' k = zsh h k := fun k => congrArg (fun z => z.2 k) e1
  have pl : ∀ q, (q = 20 ∨ q = 33) → zPlan h q → zPlan h' q := fun q hq wq => by
    have a3 : ∀ j, zgr h' q j = zgr h q j := fun j => r q j (by omega) (by omega)
    unfold zPlan at wq ⊢
    simp only [a1, a3]
    exact wq
  have c1 := zc_act w
  have c2 := zc_img w
  have c3 := zc_cnt w
  refine ⟨pl p (by omega) (zc_pp w), pl d (by omega) (zc_pd w), (a1 _).trans (zc_s16 w), (a1 _).trans (zc_s17 w), (a1 _).trans (zc_s18 w), (a1 _).trans (zc_s19 w), (a1 _).trans (zc_s32 w), (a1 _).trans (zc_s45 w), (a1 _).trans (zc_s46 w), (a1 _).trans (zc_s47 w), (a1 _).trans (zc_s64 w), (a1 _).trans (zc_s68 w), (a1 _).trans (zc_s69 w), (a1 _).trans (zc_s76 w), (a1 _).trans (zc_s77 w), (r _ _ (by omega) (by omega)).trans (zc_r16_0 w), (r _ _ (by omega) (by omega)).trans (zc_r16_1 w), (r _ _ (by omega) (by omega)).trans (zc_r16_2 w), (r _ _ (by omega) (by omega)).trans (zc_r16_3 w), (r _ _ (by omega) (by omega)).trans (zc_r16_4 w), (r _ _ (by omega) (by omega)).trans (zc_r17_0 w), r2, (r _ _ (by omega) (by omega)).trans (zc_r18_0 w), r1, (r _ _ (by omega) (by omega)).trans (zc_r32_1 w), (r _ _ (by omega) (by omega)).trans (zc_r46_0 w), (r _ _ (by omega) (by omega)).trans (zc_r46_1 w), (r _ _ (by omega) (by omega)).trans (zc_r68_0 w), (r _ _ (by omega) (by omega)).trans (zc_r68_1 w), fun i hi => ⟨(a1 _).trans (c1 i hi).1, (r _ _ (by omega) (by omega)).trans (c1 i hi).2⟩, fun i hi => ⟨(a1 _).trans (c2 i hi).1, (r _ _ (by omega) (by omega)).trans (c2 i hi).2⟩, fun i hi => ⟨(a1 _).trans (c3 i hi).1, (r _ _ (by omega) (by omega)).trans (c3 i hi).2⟩, by omega⟩
/-- the class after a tube is laid -/
def zTd (h h' : zHp) (d p : Nat) : Prop := h'.1 = h.1 ∧ zCW h' p d ∧ h'.2.2.1 = h.2.2.1 ∧ (∀ k j, ¬ (k = 32 ∧ j = 0) → ¬ (k = 17 ∧ j = 1) → zgr h' k j = zgr h k j) ∧ (∀ x y, x ≠ 45 → ¬ (x = 18 ∧ y = 1) → ¬ (x = 46 ∧ 2 ≤ y ∧ y ≤ 4) → ¬ (x = 16 ∧ y = 5) → zgi h' x y = zgi h x y) ∧ zrow0 h h' d ∧ gz h' 18 1 = 0 ∧ gz h' 46 2 = 0 ∧ gz h' 46 3 = 0 ∧ gz h' 46 4 = 0 ∧ zgi h' 16 5 = zj 0
theorem cx_tube {c L : Int} (w : zCW h d p) (v : zPV h d) (hL : gz h 18 1 = L) (hL0 : 0 ≤ L) (hL8 : L ≤ 800) (c1 : -2147483648 ≤ c) (c2 : c < 2147483648) (tx : ∀ i : Nat, (i : Int) < L → gz h 19 i = T i ∧ -128 ≤ T i ∧ T i ≤ 127) (k2 : ¬ (0 ≤ c ∧ c ≤ L) → R (some (.int (zj (-1)))) (zpi h 16 5 (zj 2))) (kF : ∀ n : Nat, c = n → c ≤ L → ∀ e, pAll T n (n + 1) zD0 0 = .inl e → ∀ h', zRF h h' d p e → R (some (.int (zj (-1)))) (zpi (zpi h' 18 1 (zj 0)) 16 5 (zj 4))) (kS : ∀ n : Nat, c = n → c ≤ L → ∀ D, pAll T n (n + 1) zD0 0 = .inr D → ¬ D.2.1 = [] → ∀ h' s h'', zRI h h' d p T n s D → zTd h' h'' d p → R (some (.int (zj (D.2.1.length : Nat)))) h'') : zCC X M_X7_tube [.ref 16, .int (zj c)] h R := by
  have hd : d = 20 ∨ d = 33 := by have := zc_dp w; omega
  have bad : ¬ (0 ≤ c ∧ c ≤ L) → zV X M_X7_tube (zQm M_X7_tube R) 0 0 18 [.ref 16, .int (zj c), .retAddr 0] [] h := fun q => by
    refine vb_X7_tube_18 _ _ _ ?_
    simp only [B_X7_tube_18, oPI, oPL, oILOAD, oLLOAD, oALOAD, oISTORE, oASTORE, oLSTORE, oIINC, oIADD, oISUB, oIMUL, oIAND, oIOR, oIXOR, oIDIV, oIREM, oISHL, oISHR, oIUSHR, oLADD, oLSUB, oLMUL, oLOR, oLDIV, oLREM, oLCMP, oLSHL, oINEG, oI2L, oL2I, oI2B, oI2C, oDUP, oPOP, oDUP2, oIFEQ, oICEQ, oIFNE, oICNE, oIFLT, oICLT, oIFGE, oICGE, oIFGT, oICGT, oIFLE, oICLE, oIFNULL, oIFNONNULL, oTSW, oLSW, oGETI, oGETL, oGETR, oPUTI, oPUTZ, oPUTL, oPUTR, oIALD, oBALD, oZALD, oLALD, oAALD, oALEN, oIAST, oBAST, oZAST, oLAST, oIRET, oZRET, oLRET, oVRET, oARET, oOBJ, oINI, oPS, oNEW, oNEWAI, oNEWAB, oNEWAZ, oNEWAL, oCOPY, oINV0, oINS0, oINV1, oINS1, oINV2, oINS2, oINV3, oINS3, oINV4, oINS4, oINV5, oINS5, oINV6, oINS6, List.getElem?_cons_zero, List.getElem?_cons_succ, List.set_cons_zero, List.set_cons_succ, znl, zs4, zc1, true_and, and_self, Value.category, Option.toList, List.cons_append, List.nil_append, zvr, zc_s16 w, zc_s17 w, zc_s18 w, zc_s19 w, zc_s32 w, zc_s45 w, zc_s46 w, zc_s47 w, zc_s64 w, zc_s68 w, zc_s69 w, zc_s76 w, zc_s77 w, zc_r16_0 w, zc_r16_1 w, zc_r16_2 w, zc_r16_3 w, zc_r16_4 w, zc_r17_0 w, zc_r17_1 w, zc_r18_0 w, zc_r32_0 w, zc_r32_1 w, zc_r46_0 w, zc_r46_1 w, zc_r68_0 w, zc_r68_1 w]
    refine cc_refuse w ?_
    simp only [oPI, oPL, oILOAD, oLLOAD, oALOAD, oISTORE, oASTORE, oLSTORE, oIINC, oIADD, oISUB, oIMUL, oIAND, oIOR, oIXOR, oIDIV, oIREM, oISHL, oISHR, oIUSHR, oLADD, oLSUB, oLMUL, oLOR, oLDIV, oLREM, oLCMP, oLSHL, oINEG, oI2L, oL2I, oI2B, oI2C, oDUP, oPOP, oDUP2, oIFEQ, oICEQ, oIFNE, oICNE, oIFLT, oICLT, oIFGE, oICGE, oIFGT, oICGT, oIFLE, oICLE, oIFNULL, oIFNONNULL, oTSW, oLSW, oGETI, oGETL, oGETR, oPUTI, oPUTZ, oPUTL, oPUTR, oIALD, oBALD, oZALD, oLALD, oAALD, oALEN, oIAST, oBAST, oZAST, oLAST, oIRET, oZRET, oLRET, oVRET, oARET, oOBJ, oINI, oPS, oNEW, oNEWAI, oNEWAB, oNEWAZ, oNEWAL, oCOPY, oINV0, oINS0, oINV1, oINS1, oINV2, oINS2, oINV3, oINS3, oINV4, oINS4, oINV5, oINS5, oINV6, oINS6, List.getElem?_cons_zero, List.getElem?_cons_succ, List.set_cons_zero, List.set_cons_succ, znl, zs4, zc1, true_and, and_self, Value.category, Option.toList, List.cons_append, List.nil_append, zvr]
    exact k2 q
  refine zCC_of (ls := [.ref 16, .int (zj c), .retAddr 0]) pf_X7_tube rfl (Nat.le_of_ble_eq_true rfl) ?_
  refine vb_X7_tube_0 _ _ _ ?_
  simp only [B_X7_tube_0, oPI, oPL, oILOAD, oLLOAD, oALOAD, oISTORE, oASTORE, oLSTORE, oIINC, oIADD, oISUB, oIMUL, oIAND, oIOR, oIXOR, oIDIV, oIREM, oISHL, oISHR, oIUSHR, oLADD, oLSUB, oLMUL, oLOR, oLDIV, oLREM, oLCMP, oLSHL, oINEG, oI2L, oL2I, oI2B, oI2C, oDUP, oPOP, oDUP2, oIFEQ, oICEQ, oIFNE, oICNE, oIFLT, oICLT, oIFGE, oICGE, oIFGT, oICGT, oIFLE, oICLE, oIFNULL, oIFNONNULL, oTSW, oLSW, oGETI, oGETL, oGETR, oPUTI, oPUTZ, oPUTL, oPUTR, oIALD, oBALD, oZALD, oLALD, oAALD, oALEN, oIAST, oBAST, oZAST, oLAST, oIRET, oZRET, oLRET, oVRET, oARET, oOBJ, oINI, oPS, oNEW, oNEWAI, oNEWAB, oNEWAZ, oNEWAL, oCOPY, oINV0, oINS0, oINV1, oINS1, oINV2, oINS2, oINV3, oINS3, oINV4, oINS4, oINV5, oINS5, oINV6, oINS6, List.getElem?_cons_zero, List.getElem?_cons_succ, List.set_cons_zero, List.set_cons_succ, znl, zs4, zc1, true_and, and_self, Value.category, Option.toList, List.cons_append, List.nil_append, zvr, zc_s16 w, zc_s17 w, zc_s18 w, zc_s19 w, zc_s32 w, zc_s45 w, zc_s46 w, zc_s47 w, zc_s64 w, zc_s68 w, zc_s69 w, zc_s76 w, zc_s77 w, zc_r16_0 w, zc_r16_1 w, zc_r16_2 w, zc_r16_3 w, zc_r16_4 w, zc_r17_0 w, zc_r17_1 w, zc_r18_0 w, zc_r32_0 w, zc_r32_1 w, zc_r46_0 w, zc_r46_1 w, zc_r68_0 w, zc_r68_1 w]
  rw [zgi_gz, hL]
  try simp (disch := omega) only [zgi_gz, zj_cn, zj_lt, zj_le, zj_eq, zj_add, zj_sub, zj_mul, zj_neg, zj_lt0, zj_le0, zj_0le, zj_0lt, zj_eq0, zb_0, zb_z, Classical.not_not, Int.zero_add, Int.add_zero, zj_remn, zj_divn]
  refine ⟨fun q => bad (by omega), fun q => ⟨fun q2 => ?_, fun q2 => bad (by omega)⟩⟩
  obtain ⟨n, hn⟩ : ∃ n : Nat, c = n := ⟨c.toNat, by omega⟩
  refine vb_X7_tube_24 _ _ _ ?_
  simp only [B_X7_tube_24, oPI, oPL, oILOAD, oLLOAD, oALOAD, oISTORE, oASTORE, oLSTORE, oIINC, oIADD, oISUB, oIMUL, oIAND, oIOR, oIXOR, oIDIV, oIREM, oISHL, oISHR, oIUSHR, oLADD, oLSUB, oLMUL, oLOR, oLDIV, oLREM, oLCMP, oLSHL, oINEG, oI2L, oL2I, oI2B, oI2C, oDUP, oPOP, oDUP2, oIFEQ, oICEQ, oIFNE, oICNE, oIFLT, oICLT, oIFGE, oICGE, oIFGT, oICGT, oIFLE, oICLE, oIFNULL, oIFNONNULL, oTSW, oLSW, oGETI, oGETL, oGETR, oPUTI, oPUTZ, oPUTL, oPUTR, oIALD, oBALD, oZALD, oLALD, oAALD, oALEN, oIAST, oBAST, oZAST, oLAST, oIRET, oZRET, oLRET, oVRET, oARET, oOBJ, oINI, oPS, oNEW, oNEWAI, oNEWAB, oNEWAZ, oNEWAL, oCOPY, oINV0, oINS0, oINV1, oINS1, oINV2, oINS2, oINV3, oINS3, oINV4, oINS4, oINV5, oINS5, oINV6, oINS6, List.getElem?_cons_zero, List.getElem?_cons_succ, List.set_cons_zero, List.set_cons_succ, znl, zs4, zc1, true_and, and_self, Value.category, Option.toList, List.cons_append, List.nil_append, zvr, zc_s16 w, zc_s17 w, zc_s18 w, zc_s19 w, zc_s32 w, zc_s45 w, zc_s46 w, zc_s47 w, zc_s64 w, zc_s68 w, zc_s69 w, zc_s76 w, zc_s77 w, zc_r16_0 w, zc_r16_1 w, zc_r16_2 w, zc_r16_3 w, zc_r16_4 w, zc_r17_0 w, zc_r17_1 w, zc_r18_0 w, zc_r32_0 w, zc_r32_1 w, zc_r46_0 w, zc_r46_1 w, zc_r68_0 w, zc_r68_1 w]
  refine cc_reads (n := n) (T := T) w v hn hL q2 hL8 (fun i hi => tx i (by omega)) (fun D' e h3 s3 I3 hne => ?_) (fun e e1 h3 F3 => ?_)
  rotate_left
  · have w3 := F3.1
    simp only [oPI, oPL, oILOAD, oLLOAD, oALOAD, oISTORE, oASTORE, oLSTORE, oIINC, oIADD, oISUB, oIMUL, oIAND, oIOR, oIXOR, oIDIV, oIREM, oISHL, oISHR, oIUSHR, oLADD, oLSUB, oLMUL, oLOR, oLDIV, oLREM, oLCMP, oLSHL, oINEG, oI2L, oL2I, oI2B, oI2C, oDUP, oPOP, oDUP2, oIFEQ, oICEQ, oIFNE, oICNE, oIFLT, oICLT, oIFGE, oICGE, oIFGT, oICGT, oIFLE, oICLE, oIFNULL, oIFNONNULL, oTSW, oLSW, oGETI, oGETL, oGETR, oPUTI, oPUTZ, oPUTL, oPUTR, oIALD, oBALD, oZALD, oLALD, oAALD, oALEN, oIAST, oBAST, oZAST, oLAST, oIRET, oZRET, oLRET, oVRET, oARET, oOBJ, oINI, oPS, oNEW, oNEWAI, oNEWAB, oNEWAZ, oNEWAL, oCOPY, oINV0, oINS0, oINV1, oINS1, oINV2, oINS2, oINV3, oINS3, oINV4, oINS4, oINV5, oINS5, oINV6, oINS6, List.getElem?_cons_zero, List.getElem?_cons_succ, List.set_cons_zero, List.set_cons_succ, znl, zs4, zc1, true_and, and_self, Value.category, Option.toList, List.cons_append, List.nil_append, zvr, zc_s16 w3, zc_s17 w3, zc_s18 w3, zc_s19 w3, zc_s32 w3, zc_s45 w3, zc_s46 w3, zc_s47 w3, zc_s64 w3, zc_s68 w3, zc_s69 w3, zc_s76 w3, zc_s77 w3, zc_r16_0 w3, zc_r16_1 w3, zc_r16_2 w3, zc_r16_3 w3, zc_r16_4 w3, zc_r17_0 w3, zc_r17_1 w3, zc_r18_0 w3, zc_r32_0 w3, zc_r32_1 w3, zc_r46_0 w3, zc_r46_1 w3, zc_r68_0 w3, zc_r68_1 w3, zsh_pi, zgr_pi]
    refine ⟨fun z => absurd rfl z, fun _ => ?_⟩
    refine cc_refuse (h := zpi h3 18 1 (zj 0)) w3 ?_
    simp only [oPI, oPL, oILOAD, oLLOAD, oALOAD, oISTORE, oASTORE, oLSTORE, oIINC, oIADD, oISUB, oIMUL, oIAND, oIOR, oIXOR, oIDIV, oIREM, oISHL, oISHR, oIUSHR, oLADD, oLSUB, oLMUL, oLOR, oLDIV, oLREM, oLCMP, oLSHL, oINEG, oI2L, oL2I, oI2B, oI2C, oDUP, oPOP, oDUP2, oIFEQ, oICEQ, oIFNE, oICNE, oIFLT, oICLT, oIFGE, oICGE, oIFGT, oICGT, oIFLE, oICLE, oIFNULL, oIFNONNULL, oTSW, oLSW, oGETI, oGETL, oGETR, oPUTI, oPUTZ, oPUTL, oPUTR, oIALD, oBALD, oZALD, oLALD, oAALD, oALEN, oIAST, oBAST, oZAST, oLAST, oIRET, oZRET, oLRET, oVRET, oARET, oOBJ, oINI, oPS, oNEW, oNEWAI, oNEWAB, oNEWAZ, oNEWAL, oCOPY, oINV0, oINS0, oINV1, oINS1, oINV2, oINS2, oINV3, oINS3, oINV4, oINS4, oINV5, oINS5, oINV6, oINS6, List.getElem?_cons_zero, List.getElem?_cons_succ, List.set_cons_zero, List.set_cons_succ, znl, zs4, zc1, true_and, and_self, Value.category, Option.toList, List.cons_append, List.nil_append, zvr]
    exact kF n hn q2 e e1 h3 F3
  have w3 := I3.w
  simp only [oPI, oPL, oILOAD, oLLOAD, oALOAD, oISTORE, oASTORE, oLSTORE, oIINC, oIADD, oISUB, oIMUL, oIAND, oIOR, oIXOR, oIDIV, oIREM, oISHL, oISHR, oIUSHR, oLADD, oLSUB, oLMUL, oLOR, oLDIV, oLREM, oLCMP, oLSHL, oINEG, oI2L, oL2I, oI2B, oI2C, oDUP, oPOP, oDUP2, oIFEQ, oICEQ, oIFNE, oICNE, oIFLT, oICLT, oIFGE, oICGE, oIFGT, oICGT, oIFLE, oICLE, oIFNULL, oIFNONNULL, oTSW, oLSW, oGETI, oGETL, oGETR, oPUTI, oPUTZ, oPUTL, oPUTR, oIALD, oBALD, oZALD, oLALD, oAALD, oALEN, oIAST, oBAST, oZAST, oLAST, oIRET, oZRET, oLRET, oVRET, oARET, oOBJ, oINI, oPS, oNEW, oNEWAI, oNEWAB, oNEWAZ, oNEWAL, oCOPY, oINV0, oINS0, oINV1, oINS1, oINV2, oINS2, oINV3, oINS3, oINV4, oINS4, oINV5, oINS5, oINV6, oINS6, List.getElem?_cons_zero, List.getElem?_cons_succ, List.set_cons_zero, List.set_cons_succ, znl, zs4, zc1, true_and, and_self, Value.category, Option.toList, List.cons_append, List.nil_append, zvr, zc_s16 w3, zc_s17 w3, zc_s18 w3, zc_s19 w3, zc_s32 w3, zc_s45 w3, zc_s46 w3, zc_s47 w3, zc_s64 w3, zc_s68 w3, zc_s69 w3, zc_s76 w3, zc_s77 w3, zc_r16_0 w3, zc_r16_1 w3, zc_r16_2 w3, zc_r16_3 w3, zc_r16_4 w3, zc_r17_0 w3, zc_r17_1 w3, zc_r18_0 w3, zc_r32_0 w3, zc_r32_1 w3, zc_r46_0 w3, zc_r46_1 w3, zc_r68_0 w3, zc_r68_1 w3, zsh_pi, zgr_pi]
  refine ⟨fun _ => ?_, fun z => absurd z (by decide)⟩
  refine vb_X7_tube_54 _ _ _ ?_
  simp only [B_X7_tube_54, oPI, oPL, oILOAD, oLLOAD, oALOAD, oISTORE, oASTORE, oLSTORE, oIINC, oIADD, oISUB, oIMUL, oIAND, oIOR, oIXOR, oIDIV, oIREM, oISHL, oISHR, oIUSHR, oLADD, oLSUB, oLMUL, oLOR, oLDIV, oLREM, oLCMP, oLSHL, oINEG, oI2L, oL2I, oI2B, oI2C, oDUP, oPOP, oDUP2, oIFEQ, oICEQ, oIFNE, oICNE, oIFLT, oICLT, oIFGE, oICGE, oIFGT, oICGT, oIFLE, oICLE, oIFNULL, oIFNONNULL, oTSW, oLSW, oGETI, oGETL, oGETR, oPUTI, oPUTZ, oPUTL, oPUTR, oIALD, oBALD, oZALD, oLALD, oAALD, oALEN, oIAST, oBAST, oZAST, oLAST, oIRET, oZRET, oLRET, oVRET, oARET, oOBJ, oINI, oPS, oNEW, oNEWAI, oNEWAB, oNEWAZ, oNEWAL, oCOPY, oINV0, oINS0, oINV1, oINS1, oINV2, oINS2, oINV3, oINS3, oINV4, oINS4, oINV5, oINS5, oINV6, oINS6, List.getElem?_cons_zero, List.getElem?_cons_succ, List.set_cons_zero, List.set_cons_succ, znl, zs4, zc1, true_and, and_self, Value.category, Option.toList, List.cons_append, List.nil_append, zvr, zc_s16 w3, zc_s17 w3, zc_s18 w3, zc_s19 w3, zc_s32 w3, zc_s45 w3, zc_s46 w3, zc_s47 w3, zc_s64 w3, zc_s68 w3, zc_s69 w3, zc_s76 w3, zc_s77 w3, zc_r16_0 w3, zc_r16_1 w3, zc_r16_2 w3, zc_r16_3 w3, zc_r16_4 w3, zc_r17_0 w3, zc_r17_1 w3, zc_r18_0 w3, zc_r32_0 w3, zc_r32_1 w3, zc_r46_0 w3, zc_r46_1 w3, zc_r68_0 w3, zc_r68_1 w3, zsh_pi, zgr_pi]
  obtain ⟨h4, hh4⟩ : ∃ h4, h4 = zpi h3 18 1 (zj 0) := ⟨_, rfl⟩
  have w4 : zCW h4 d p := by rw [hh4]; exact w3
  have v4 : zPV h4 d := zPV_g (fun x y q => by rw [hh4, zpi_o (by omega)]) I3.pv
  rw [← hh4]
  refine cc_sbegin w4 v4 (fun h5 e1 e2 e3 e4 => ?_)
  have a1 : ∀ k, zsh h5 k = zsh h4 k := fun k => congrArg (fun z => z.2 k) e1
  have a2 : ∀ k j, ¬ (k = 32 ∧ j = 0) → zgr h5 k j = zgr h4 k j := fun k j q => (congrArg (fun z => z.2 k j) e2 : h5.2.2.2 k j = (zpr h4 32 0 (some d)).2.2.2 k j).trans (if_neg q)
  have a0 : zgr h5 32 0 = some d := (congrArg (fun z => z.2 32 0) e2 : zgr h5 32 0 = zgr (zpr h4 32 0 (some d)) 32 0).trans (by rw [zgr_pr, if_pos ⟨rfl, rfl⟩])
  have s17 : zsh h5 17 = some (.inl 2) := (a1 17).trans (zc_s17 w4)
  have s16 : zsh h5 16 = some (.inl 7) := (a1 16).trans (zc_s16 w4)
  have r162 : zgr (zpr h5 17 1 (some p)) 16 2 = some 46 := by rw [zgr_pr, if_neg (by omega)]; exact (a2 16 2 (by omega)).trans (zc_r16_2 w4)
  have s46 : zsh h5 46 = some (.inl 0) := (a1 46).trans (zc_s46 w4)
  obtain ⟨h6, hh6⟩ : ∃ h6, h6 = zpr h5 17 1 (some p) := ⟨_, rfl⟩
  have b1 : ∀ k j, ¬ (k = 17 ∧ j = 1) → zgr h6 k j = zgr h5 k j := fun k j q => by rw [hh6]; exact if_neg q
  have w6 : zCW h6 p d := w4.swap (by rw [hh6]; exact e1) ((b1 32 0 (by omega)).trans a0) (by rw [hh6, zgr_pr, if_pos ⟨rfl, rfl⟩]) (fun k j q1 q2 => (b1 k j q2).trans (a2 k j q1))
  have wd6 := zc_pp w6
  simp only [oPI, oPL, oILOAD, oLLOAD, oALOAD, oISTORE, oASTORE, oLSTORE, oIINC, oIADD, oISUB, oIMUL, oIAND, oIOR, oIXOR, oIDIV, oIREM, oISHL, oISHR, oIUSHR, oLADD, oLSUB, oLMUL, oLOR, oLDIV, oLREM, oLCMP, oLSHL, oINEG, oI2L, oL2I, oI2B, oI2C, oDUP, oPOP, oDUP2, oIFEQ, oICEQ, oIFNE, oICNE, oIFLT, oICLT, oIFGE, oICGE, oIFGT, oICGT, oIFLE, oICLE, oIFNULL, oIFNONNULL, oTSW, oLSW, oGETI, oGETL, oGETR, oPUTI, oPUTZ, oPUTL, oPUTR, oIALD, oBALD, oZALD, oLALD, oAALD, oALEN, oIAST, oBAST, oZAST, oLAST, oIRET, oZRET, oLRET, oVRET, oARET, oOBJ, oINI, oPS, oNEW, oNEWAI, oNEWAB, oNEWAZ, oNEWAL, oCOPY, oINV0, oINS0, oINV1, oINS1, oINV2, oINS2, oINV3, oINS3, oINV4, oINS4, oINV5, oINS5, oINV6, oINS6, List.getElem?_cons_zero, List.getElem?_cons_succ, List.set_cons_zero, List.set_cons_succ, znl, zs4, zc1, true_and, and_self, Value.category, Option.toList, List.cons_append, List.nil_append, zvr, s17, s16, r162, s46, zsh_pr]
  rw [← hh6]
  refine cc_forget w6 ?_
  simp only [oPI, oPL, oILOAD, oLLOAD, oALOAD, oISTORE, oASTORE, oLSTORE, oIINC, oIADD, oISUB, oIMUL, oIAND, oIOR, oIXOR, oIDIV, oIREM, oISHL, oISHR, oIUSHR, oLADD, oLSUB, oLMUL, oLOR, oLDIV, oLREM, oLCMP, oLSHL, oINEG, oI2L, oL2I, oI2B, oI2C, oDUP, oPOP, oDUP2, oIFEQ, oICEQ, oIFNE, oICNE, oIFLT, oICLT, oIFGE, oICGE, oIFGT, oICGT, oIFLE, oICLE, oIFNULL, oIFNONNULL, oTSW, oLSW, oGETI, oGETL, oGETR, oPUTI, oPUTZ, oPUTL, oPUTR, oIALD, oBALD, oZALD, oLALD, oAALD, oALEN, oIAST, oBAST, oZAST, oLAST, oIRET, oZRET, oLRET, oVRET, oARET, oOBJ, oINI, oPS, oNEW, oNEWAI, oNEWAB, oNEWAZ, oNEWAL, oCOPY, oINV0, oINS0, oINV1, oINS1, oINV2, oINS2, oINV3, oINS3, oINV4, oINS4, oINV5, oINS5, oINV6, oINS6, List.getElem?_cons_zero, List.getElem?_cons_succ, List.set_cons_zero, List.set_cons_succ, znl, zs4, zc1, true_and, and_self, Value.category, Option.toList, List.cons_append, List.nil_append, zvr, zc_s16 w6, zc_s17 w6, zc_s18 w6, zc_s19 w6, zc_s32 w6, zc_s45 w6, zc_s46 w6, zc_s47 w6, zc_s64 w6, zc_s68 w6, zc_s69 w6, zc_s76 w6, zc_s77 w6, zc_r16_0 w6, zc_r16_1 w6, zc_r16_2 w6, zc_r16_3 w6, zc_r16_4 w6, zc_r17_0 w6, zc_r17_1 w6, zc_r18_0 w6, zc_r32_0 w6, zc_r32_1 w6, zc_r46_0 w6, zc_r46_1 w6, zc_r68_0 w6, zc_r68_1 w6, zp_s wd6, zp_s1 wd6, zp_r2 wd6, zp_s2 wd6, zp_r3 wd6, zp_s3 wd6, zp_r4 wd6, zp_s4 wd6, zp_r5 wd6, zp_s5 wd6, zp_r6 wd6, zp_s6 wd6, zp_r7 wd6, zp_s7 wd6, zp_r9 wd6, zp_s8 wd6, zp_r10 wd6, zp_s9 wd6, zp_r12 wd6, zp_s10 wd6, zp_r14 wd6, zp_s11 wd6, zp_r15 wd6, zsh_pi, zgr_pi]
  obtain ⟨h7, hh7⟩ : ∃ h7, h7 = zpi (zpi (zpi h6 46 2 (zj 0)) 46 3 (zj 0)) 46 4 (zj 0) := ⟨_, rfl⟩
  have w7 : zCW h7 p d := by rw [hh7]; exact w6
  have g6 : ∀ x y, zgi h6 x y = zgi h5 x y := fun x y => by rw [hh6]; rfl
  have g7 : ∀ x y, ¬ (x = 46 ∧ 2 ≤ y ∧ y ≤ 4) → zgi h7 x y = zgi h5 x y := fun x y q => by rw [hh7, zpi_o (by omega), zpi_o (by omega), zpi_o (by omega)]; exact g6 x y
  have g4 : ∀ x y, ¬ (x = 18 ∧ y = 1) → zgi h4 x y = zgi h3 x y := fun x y q => by rw [hh4, zpi_o q]
  have gg4 : ∀ x y, ¬ (x = 18 ∧ y = 1) → gz h4 x y = gz h3 x y := fun x y q => congrArg Int32.toInt (g4 x y q)
  rw [← hh7]
  have ed : zgi h7 d 1 = zj (D'.2.1.length : Nat) := by
    rw [g7 d 1 (by omega), e3 d 1 (by omega), g4 d 1 (by omega), zgi_gz, I3.dr.2.1]
  rw [ed]
  refine cc_answer w7 ?_
  simp only [oPI, oPL, oILOAD, oLLOAD, oALOAD, oISTORE, oASTORE, oLSTORE, oIINC, oIADD, oISUB, oIMUL, oIAND, oIOR, oIXOR, oIDIV, oIREM, oISHL, oISHR, oIUSHR, oLADD, oLSUB, oLMUL, oLOR, oLDIV, oLREM, oLCMP, oLSHL, oINEG, oI2L, oL2I, oI2B, oI2C, oDUP, oPOP, oDUP2, oIFEQ, oICEQ, oIFNE, oICNE, oIFLT, oICLT, oIFGE, oICGE, oIFGT, oICGT, oIFLE, oICLE, oIFNULL, oIFNONNULL, oTSW, oLSW, oGETI, oGETL, oGETR, oPUTI, oPUTZ, oPUTL, oPUTR, oIALD, oBALD, oZALD, oLALD, oAALD, oALEN, oIAST, oBAST, oZAST, oLAST, oIRET, oZRET, oLRET, oVRET, oARET, oOBJ, oINI, oPS, oNEW, oNEWAI, oNEWAB, oNEWAZ, oNEWAL, oCOPY, oINV0, oINS0, oINV1, oINS1, oINV2, oINS2, oINV3, oINS3, oINV4, oINS4, oINV5, oINS5, oINV6, oINS6, List.getElem?_cons_zero, List.getElem?_cons_succ, List.set_cons_zero, List.set_cons_succ, znl, zs4, zc1, true_and, and_self, Value.category, Option.toList, List.cons_append, List.nil_append, zvr]
  refine kS n hn q2 D' e hne h3 s3 _ I3 ⟨?_, w7, ?_, fun k j q1 q2 => ?_, fun x y q1 q2 q3 q4 => ?_, ⟨fun b hb => ?_, fun i hi => ?_, ?_⟩, ?_, ?_, ?_, ?_, zpi_s⟩
  · show h7.1 = _
    rw [hh7]; show h6.1 = _; rw [hh6]; show h5.1 = _; rw [e1, hh4]; rfl
  · show h7.2.2.1 = _
    rw [hh7]; show h6.2.2.1 = _; rw [hh6]; show h5.2.2.1 = _; rw [e2, hh4]; rfl
  · show zgr h7 k j = _
    rw [hh7]; show zgr h6 k j = _; rw [b1 k j q2, a2 k j q1, hh4]; rfl
  · rw [zpi_o q4, g7 x y q3, e3 x y q1, g4 x y q2]
  · have := e4.1 b hb
    rw [gg4 d 1 (by omega), gg4 (d + 4) b (by omega)] at this
    rw [← this]
    exact congrArg Int32.toInt ((zpi_o (by omega)).trans (g7 45 b (by omega)))
  · have := e4.2.1 i hi
    rw [gg4 d 13 (by omega), gg4 (d + 11) i (by omega)] at this
    rw [← this.1]
    exact ⟨congrArg Int32.toInt ((zpi_o (by omega)).trans (g7 45 _ (by omega))), (congrArg Int32.toInt ((zpi_o (by omega)).trans (g7 45 _ (by omega)))).trans this.2⟩
  · exact (congrArg Int32.toInt ((zpi_o (by omega)).trans (g7 45 _ (by omega)))).trans e4.2.2
  · refine (congrArg Int32.toInt ((zpi_o (by omega)).trans ((g7 18 1 (by omega)).trans (e3 18 1 (by omega))))).trans ?_
    rw [hh4, zpi_s]; rfl
  · refine (congrArg Int32.toInt (zpi_o (by omega))).trans ?_
    rw [hh7, zpi_o (by omega), zpi_o (by omega), zpi_s]; rfl
  · refine (congrArg Int32.toInt (zpi_o (by omega))).trans ?_
    rw [hh7, zpi_o (by omega), zpi_s]; rfl
  · refine (congrArg Int32.toInt (zpi_o (by omega))).trans ?_
    rw [hh7, zpi_s]; rfl
end ZCU
