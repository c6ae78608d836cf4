/-- how many rows of n turns bring plain and heavy bits round by the shift s -/
def zct : Nat → Nat → Nat
  | 0, s => if s = 0 then 1 else 0
  | n + 1, s => zct n (zsf ((s / 12 : Nat) + 3) ((s % 12 : Nat) + 1)).toNat + zct n (zsf ((s / 12 : Nat) + 2) ((s % 12 : Nat) + 1)).toNat + zct n (zsf ((s / 12 : Nat) + 1) (s % 12 : Nat)).toNat + zct n (zsf ((s / 12 : Nat) - 1) (s % 12 : Nat)).toNat + zct n (zsf ((s / 12 : Nat) - 2) ((s % 12 : Nat) - 1)).toNat + zct n (zsf ((s / 12 : Nat) - 3) ((s % 12 : Nat) - 1)).toNat
theorem zct_le : ∀ n s, zct n s ≤ 6 ^ n
  | 0, s => by unfold zct; split <;> omega
  | n + 1, s => by
    have a1 := zct_le n (zsf ((s / 12 : Nat) + 3) ((s % 12 : Nat) + 1)).toNat
    have a2 := zct_le n (zsf ((s / 12 : Nat) + 2) ((s % 12 : Nat) + 1)).toNat
    have a3 := zct_le n (zsf ((s / 12 : Nat) + 1) (s % 12 : Nat)).toNat
    have a4 := zct_le n (zsf ((s / 12 : Nat) - 1) (s % 12 : Nat)).toNat
    have a5 := zct_le n (zsf ((s / 12 : Nat) - 2) ((s % 12 : Nat) - 1)).toNat
    have a6 := zct_le n (zsf ((s / 12 : Nat) - 3) ((s % 12 : Nat) - 1)).toNat
    unfold zct
    rw [Nat.pow_succ]
    omega
theorem zct_5 {n : Nat} (hn : n ≤ 5) (s : Nat) : zct n s ≤ 7776 := Nat.le_trans (zct_le n s) (Nat.pow_le_pow_right (n := 6) (by omega) hn)
/-- the rows of n turns from here that reach a goal -/
noncomputable def zrg (G : Nat → Prop) (n : Nat) (a b : Int) : Nat → Nat
  | 0 => 0
  | s + 1 => @ite _ (G (zsf (a + (s / 12 : Nat)) (b + (s % 12 : Nat))).toNat) (Classical.propDecidable _) (zrg G n a b s + zct n s) (zrg G n a b s)
theorem zrg_t {G : Nat → Prop} {n : Nat} {a b : Int} {s : Nat} (hg : G (zsf (a + (s / 12 : Nat)) (b + (s % 12 : Nat))).toNat) : zrg G n a b (s + 1) = zrg G n a b s + zct n s := by
  show @ite _ _ (Classical.propDecidable _) _ _ = _
  rw [if_pos hg]
theorem zrg_f {G : Nat → Prop} {n : Nat} {a b : Int} {s : Nat} (hg : ¬ G (zsf (a + (s / 12 : Nat)) (b + (s % 12 : Nat))).toNat) : zrg G n a b (s + 1) = zrg G n a b s := by
  show @ite _ _ (Classical.propDecidable _) _ _ = _
  rw [if_neg hg]
theorem zrg_z {G : Nat → Prop} {n : Nat} {a b : Int} {s : Nat} (hz : zct n s = 0) : zrg G n a b (s + 1) = zrg G n a b s := by
  show @ite _ _ (Classical.propDecidable _) _ _ = _
  split
  · omega
  · rfl
theorem zrg_le {G : Nat → Prop} {n : Nat} {a b : Int} (hn : n ≤ 5) : ∀ s, zrg G n a b s ≤ 7776 * s
  | 0 => Nat.le_refl 0
  | s + 1 => by
    have ih := zrg_le (G := G) (a := a) (b := b) hn s
    have := zct_5 hn s
    by_cases hg : G (zsf (a + (s / 12 : Nat)) (b + (s % 12 : Nat))).toNat
    · rw [zrg_t hg]; omega
    · rw [zrg_f hg]; omega
section ZRW2
variable {X : Nat × (Nat → Int32)} {R : zRt} {h : zHp} {d p q : Nat}
/-- the counts stand -/
def zRV (h : zHp) : Prop := ∀ n, n ≤ 5 → ∀ s, s < 144 → gz h (70 + n) s = zct n s
def zgo (h : zHp) (j : Nat) : Prop := ¬ zgi h 76 j = 0
theorem cc_rowsToGoal {n : Nat} {a b : Int} (w : zCW h d p) (r : zRV h) (hn : n ≤ 5) (h1 : -5000 ≤ a) (h2 : a ≤ 5000) (h3 : -5000 ≤ b) (h4 : b ≤ 5000) (k : R (some (.int (zj (zrg (zgo h) n a b 144 : Nat)))) h) : zCC X M_X3_rowsToGoal [.ref 68, .int (zj n), .int (zj a), .int (zj b)] h R := by
  have wc := zc_cnt w n (by omega)
  refine zCC_of (ls := [.ref 68, .int (zj n), .int (zj a), .int (zj b), .retAddr 0, .retAddr 0]) pf_X3_rowsToGoal rfl (Nat.le_of_ble_eq_true rfl) ?_
  refine vb_X3_rowsToGoal_0 _ _ _ ?_
  simp only [B_X3_rowsToGoal_0, oPI, oPL, oILOAD, oLLOAD, oALOAD, oISTORE, oASTORE, oLSTORE, oIINC, oIADD, oISUB, oIMUL, oIAND, oIOR, oIXOR, oIDIV, oIREM, oISHL, oISHR, oIUSHR, oLADD, oLSUB, oLMUL, oLOR, oLDIV, oLREM, oLCMP, oLSHL, oINEG, oI2L, oL2I, oI2B, oI2C, oDUP, oPOP, oDUP2, oIFEQ, oICEQ, oIFNE, oICNE, oIFLT, oICLT, oIFGE, oICGE, oIFGT, oICGT, oIFLE, oICLE, oIFNULL, oIFNONNULL, oTSW, oLSW, oGETI, oGETL, oGETR, oPUTI, oPUTZ, oPUTL, oPUTR, oIALD, oBALD, oZALD, oLALD, oAALD, oALEN, oIAST, oBAST, oZAST, oLAST, oIRET, oZRET, oLRET, oVRET, oARET, oOBJ, oINI, oPS, oNEW, oNEWAI, oNEWAB, oNEWAZ, oNEWAL, oCOPY, oINV0, oINS0, oINV1, oINS1, oINV2, oINS2, oINV3, oINS3, oINV4, oINS4, oINV5, oINS5, oINV6, oINS6, List.getElem?_cons_zero, List.getElem?_cons_succ, List.set_cons_zero, List.set_cons_succ, znl, zs4, zc1, true_and, and_self, Value.category, Option.toList, List.cons_append, List.nil_append, zvr, zc_s16 w, zc_s17 w, zc_s18 w, zc_s19 w, zc_s32 w, zc_s45 w, zc_s46 w, zc_s47 w, zc_s64 w, zc_s68 w, zc_s69 w, zc_s76 w, zc_s77 w, zc_r16_0 w, zc_r16_1 w, zc_r16_2 w, zc_r16_3 w, zc_r16_4 w, zc_r17_0 w, zc_r17_1 w, zc_r18_0 w, zc_r32_0 w, zc_r32_1 w, zc_r46_0 w, zc_r46_1 w, zc_r68_0 w, zc_r68_1 w]
  try simp (disch := omega) only [zgi_gz, zj_cn, zj_lt, zj_le, zj_eq, zj_add, zj_sub, zj_mul, zj_neg, zj_lt0, zj_le0, zj_0le, zj_0lt, zj_eq0]
  refine ⟨fun c => by omega, fun _ => ⟨fun _ => ?_, fun c => by omega⟩⟩
  refine vb_X3_rowsToGoal_11 _ _ _ ?_
  simp only [B_X3_rowsToGoal_11, oPI, oPL, oILOAD, oLLOAD, oALOAD, oISTORE, oASTORE, oLSTORE, oIINC, oIADD, oISUB, oIMUL, oIAND, oIOR, oIXOR, oIDIV, oIREM, oISHL, oISHR, oIUSHR, oLADD, oLSUB, oLMUL, oLOR, oLDIV, oLREM, oLCMP, oLSHL, oINEG, oI2L, oL2I, oI2B, oI2C, oDUP, oPOP, oDUP2, oIFEQ, oICEQ, oIFNE, oICNE, oIFLT, oICLT, oIFGE, oICGE, oIFGT, oICGT, oIFLE, oICLE, oIFNULL, oIFNONNULL, oTSW, oLSW, oGETI, oGETL, oGETR, oPUTI, oPUTZ, oPUTL, oPUTR, oIALD, oBALD, oZALD, oLALD, oAALD, oALEN, oIAST, oBAST, oZAST, oLAST, oIRET, oZRET, oLRET, oVRET, oARET, oOBJ, oINI, oPS, oNEW, oNEWAI, oNEWAB, oNEWAZ, oNEWAL, oCOPY, oINV0, oINS0, oINV1, oINS1, oINV2, oINS2, oINV3, oINS3, oINV4, oINS4, oINV5, oINS5, oINV6, oINS6, List.getElem?_cons_zero, List.getElem?_cons_succ, List.set_cons_zero, List.set_cons_succ, znl, zs4, zc1, true_and, and_self, Value.category, Option.toList, List.cons_append, List.nil_append, zvr, zc_s16 w, zc_s17 w, zc_s18 w, zc_s19 w, zc_s32 w, zc_s45 w, zc_s46 w, zc_s47 w, zc_s64 w, zc_s68 w, zc_s69 w, zc_s76 w, zc_s77 w, zc_r16_0 w, zc_r16_1 w, zc_r16_2 w, zc_r16_3 w, zc_r16_4 w, zc_r17_0 w, zc_r17_1 w, zc_r18_0 w, zc_r32_0 w, zc_r32_1 w, zc_r46_0 w, zc_r46_1 w, zc_r68_0 w, zc_r68_1 w]
  refine zdown (m := 144) (P := fun i => zV X M_X3_rowsToGoal (zQm M_X3_rowsToGoal R) 0 0 17 [.ref 68, .int (zj n), .int (zj a), .int (zj b), .int (zj (zrg (zgo h) n a b i : Nat)), .int (zj i)] [] h) (fun i hi ih => ?_) 0 (by omega)
  refine vb_X3_rowsToGoal_17 _ _ _ ?_
  simp only [B_X3_rowsToGoal_17, oPI, oPL, oILOAD, oLLOAD, oALOAD, oISTORE, oASTORE, oLSTORE, oIINC, oIADD, oISUB, oIMUL, oIAND, oIOR, oIXOR, oIDIV, oIREM, oISHL, oISHR, oIUSHR, oLADD, oLSUB, oLMUL, oLOR, oLDIV, oLREM, oLCMP, oLSHL, oINEG, oI2L, oL2I, oI2B, oI2C, oDUP, oPOP, oDUP2, oIFEQ, oICEQ, oIFNE, oICNE, oIFLT, oICLT, oIFGE, oICGE, oIFGT, oICGT, oIFLE, oICLE, oIFNULL, oIFNONNULL, oTSW, oLSW, oGETI, oGETL, oGETR, oPUTI, oPUTZ, oPUTL, oPUTR, oIALD, oBALD, oZALD, oLALD, oAALD, oALEN, oIAST, oBAST, oZAST, oLAST, oIRET, oZRET, oLRET, oVRET, oARET, oOBJ, oINI, oPS, oNEW, oNEWAI, oNEWAB, oNEWAZ, oNEWAL, oCOPY, oINV0, oINS0, oINV1, oINS1, oINV2, oINS2, oINV3, oINS3, oINV4, oINS4, oINV5, oINS5, oINV6, oINS6, List.getElem?_cons_zero, List.getElem?_cons_succ, List.set_cons_zero, List.set_cons_succ, znl, zs4, zc1, true_and, and_self, Value.category, Option.toList, List.cons_append, List.nil_append, zvr, zc_s16 w, zc_s17 w, zc_s18 w, zc_s19 w, zc_s32 w, zc_s45 w, zc_s46 w, zc_s47 w, zc_s64 w, zc_s68 w, zc_s69 w, zc_s76 w, zc_s77 w, zc_r16_0 w, zc_r16_1 w, zc_r16_2 w, zc_r16_3 w, zc_r16_4 w, zc_r17_0 w, zc_r17_1 w, zc_r18_0 w, zc_r32_0 w, zc_r32_1 w, zc_r46_0 w, zc_r46_1 w, zc_r68_0 w, zc_r68_1 w, zj_cn (show n < 2147483648 by omega), wc.1, wc.2]
  by_cases ci : i = 144
  · subst ci
    try simp (disch := omega) only [zgi_gz, zj_cn, zj_lt, zj_le, zj_eq, zj_add, zj_sub, zj_mul, zj_neg, zj_lt0, zj_le0, zj_0le, zj_0lt, zj_eq0]
    refine ⟨fun _ => ?_, fun c => by omega⟩
    refine vb_X3_rowsToGoal_82 _ _ _ ?_
    simp only [B_X3_rowsToGoal_82, oPI, oPL, oILOAD, oLLOAD, oALOAD, oISTORE, oASTORE, oLSTORE, oIINC, oIADD, oISUB, oIMUL, oIAND, oIOR, oIXOR, oIDIV, oIREM, oISHL, oISHR, oIUSHR, oLADD, oLSUB, oLMUL, oLOR, oLDIV, oLREM, oLCMP, oLSHL, oINEG, oI2L, oL2I, oI2B, oI2C, oDUP, oPOP, oDUP2, oIFEQ, oICEQ, oIFNE, oICNE, oIFLT, oICLT, oIFGE, oICGE, oIFGT, oICGT, oIFLE, oICLE, oIFNULL, oIFNONNULL, oTSW, oLSW, oGETI, oGETL, oGETR, oPUTI, oPUTZ, oPUTL, oPUTR, oIALD, oBALD, oZALD, oLALD, oAALD, oALEN, oIAST, oBAST, oZAST, oLAST, oIRET, oZRET, oLRET, oVRET, oARET, oOBJ, oINI, oPS, oNEW, oNEWAI, oNEWAB, oNEWAZ, oNEWAL, oCOPY, oINV0, oINS0, oINV1, oINS1, oINV2, oINS2, oINV3, oINS3, oINV4, oINS4, oINV5, oINS5, oINV6, oINS6, List.getElem?_cons_zero, List.getElem?_cons_succ, List.set_cons_zero, List.set_cons_succ, znl, zs4, zc1, true_and, and_self, Value.category, Option.toList, List.cons_append, List.nil_append, zvr]
    exact k
  have ih := ih (by omega)
  have hc := r n hn i (by omega)
  have h7 := zct_5 hn i
  try simp (disch := omega) only [zgi_gz, zj_cn, zj_lt, zj_le, zj_eq, zj_add, zj_sub, zj_mul, zj_neg, zj_lt0, zj_le0, zj_0le, zj_0lt, zj_eq0]
  rw [hc]
  refine ⟨fun c => by omega, fun _ => ⟨zj_in (by omega) (by omega) (by omega), zj_in (by omega) (by omega) (by omega), ?_⟩⟩
  try simp (disch := omega) only [zgi_gz, zj_cn, zj_lt, zj_le, zj_eq, zj_add, zj_sub, zj_mul, zj_neg, zj_lt0, zj_le0, zj_0le, zj_0lt, zj_eq0]
  refine ⟨fun c => ?_, fun c => ?_⟩
  · rw [zrg_z (by omega)] at ih
    refine vb_X3_rowsToGoal_76 _ _ _ ?_
    simp only [B_X3_rowsToGoal_76, oPI, oPL, oILOAD, oLLOAD, oALOAD, oISTORE, oASTORE, oLSTORE, oIINC, oIADD, oISUB, oIMUL, oIAND, oIOR, oIXOR, oIDIV, oIREM, oISHL, oISHR, oIUSHR, oLADD, oLSUB, oLMUL, oLOR, oLDIV, oLREM, oLCMP, oLSHL, oINEG, oI2L, oL2I, oI2B, oI2C, oDUP, oPOP, oDUP2, oIFEQ, oICEQ, oIFNE, oICNE, oIFLT, oICLT, oIFGE, oICGE, oIFGT, oICGT, oIFLE, oICLE, oIFNULL, oIFNONNULL, oTSW, oLSW, oGETI, oGETL, oGETR, oPUTI, oPUTZ, oPUTL, oPUTR, oIALD, oBALD, oZALD, oLALD, oAALD, oALEN, oIAST, oBAST, oZAST, oLAST, oIRET, oZRET, oLRET, oVRET, oARET, oOBJ, oINI, oPS, oNEW, oNEWAI, oNEWAB, oNEWAZ, oNEWAL, oCOPY, oINV0, oINS0, oINV1, oINS1, oINV2, oINS2, oINV3, oINS3, oINV4, oINS4, oINV5, oINS5, oINV6, oINS6, List.getElem?_cons_zero, List.getElem?_cons_succ, List.set_cons_zero, List.set_cons_succ, znl, zs4, zc1, true_and, and_self, Value.category, Option.toList, List.cons_append, List.nil_append, zvr]
    try simp (disch := omega) only [zgi_gz, zj_cn, zj_lt, zj_le, zj_eq, zj_add, zj_sub, zj_mul, zj_neg, zj_lt0, zj_le0, zj_0le, zj_0lt, zj_eq0]
    exact ih
  · have ei : zj (i : Int) / zj 12 = zj ((i / 12 : Nat) : Int) := by rw [zj_div (by omega) (by omega) (by omega) (by omega), Int.tdiv_eq_ediv_of_nonneg (by omega)]; rfl
    have em : zj (i : Int) % zj 12 = zj ((i % 12 : Nat) : Int) := by rw [zj_rem (by omega) (by omega) (by omega) (by omega), z_tmod_nn (by omega)]; rfl
    rw [ei, em, zj_add, zj_add]
    refine ⟨by omega, by omega, ?_⟩
    have hz := zsf_b (a + (i / 12 : Nat)) (b + (i % 12 : Nat))
    refine cc_shiftOf (by omega) (by omega) (by omega) (by omega) ?_
    simp only [oPI, oPL, oILOAD, oLLOAD, oALOAD, oISTORE, oASTORE, oLSTORE, oIINC, oIADD, oISUB, oIMUL, oIAND, oIOR, oIXOR, oIDIV, oIREM, oISHL, oISHR, oIUSHR, oLADD, oLSUB, oLMUL, oLOR, oLDIV, oLREM, oLCMP, oLSHL, oINEG, oI2L, oL2I, oI2B, oI2C, oDUP, oPOP, oDUP2, oIFEQ, oICEQ, oIFNE, oICNE, oIFLT, oICLT, oIFGE, oICGE, oIFGT, oICGT, oIFLE, oICLE, oIFNULL, oIFNONNULL, oTSW, oLSW, oGETI, oGETL, oGETR, oPUTI, oPUTZ, oPUTL, oPUTR, oIALD, oBALD, oZALD, oLALD, oAALD, oALEN, oIAST, oBAST, oZAST, oLAST, oIRET, oZRET, oLRET, oVRET, oARET, oOBJ, oINI, oPS, oNEW, oNEWAI, oNEWAB, oNEWAZ, oNEWAL, oCOPY, oINV0, oINS0, oINV1, oINS1, oINV2, oINS2, oINV3, oINS3, oINV4, oINS4, oINV5, oINS5, oINV6, oINS6, List.getElem?_cons_zero, List.getElem?_cons_succ, List.set_cons_zero, List.set_cons_succ, znl, zs4, zc1, true_and, and_self, Value.category, Option.toList, List.cons_append, List.nil_append, zvr, zc_s16 w, zc_s17 w, zc_s18 w, zc_s19 w, zc_s32 w, zc_s45 w, zc_s46 w, zc_s47 w, zc_s64 w, zc_s68 w, zc_s69 w, zc_s76 w, zc_s77 w, zc_r16_0 w, zc_r16_1 w, zc_r16_2 w, zc_r16_3 w, zc_r16_4 w, zc_r17_0 w, zc_r17_1 w, zc_r18_0 w, zc_r32_0 w, zc_r32_1 w, zc_r46_0 w, zc_r46_1 w, zc_r68_0 w, zc_r68_1 w, zj_cn (show n < 2147483648 by omega), wc.1, wc.2]
    rw [zj_nat (by omega) (by omega), ← zgi_gz]
    refine ⟨zj_in (by omega) (by omega) (by omega), fun c2 => ?_, fun c2 => ⟨zj_in (by omega) (by omega) (by omega), zj_in (by omega) (by omega) (by omega), ?_⟩⟩
    · rw [zrg_f (fun z => z c2)] at ih
      refine vb_X3_rowsToGoal_76 _ _ _ ?_
      simp only [B_X3_rowsToGoal_76, oPI, oPL, oILOAD, oLLOAD, oALOAD, oISTORE, oASTORE, oLSTORE, oIINC, oIADD, oISUB, oIMUL, oIAND, oIOR, oIXOR, oIDIV, oIREM, oISHL, oISHR, oIUSHR, oLADD, oLSUB, oLMUL, oLOR, oLDIV, oLREM, oLCMP, oLSHL, oINEG, oI2L, oL2I, oI2B, oI2C, oDUP, oPOP, oDUP2, oIFEQ, oICEQ, oIFNE, oICNE, oIFLT, oICLT, oIFGE, oICGE, oIFGT, oICGT, oIFLE, oICLE, oIFNULL, oIFNONNULL, oTSW, oLSW, oGETI, oGETL, oGETR, oPUTI, oPUTZ, oPUTL, oPUTR, oIALD, oBALD, oZALD, oLALD, oAALD, oALEN, oIAST, oBAST, oZAST, oLAST, oIRET, oZRET, oLRET, oVRET, oARET, oOBJ, oINI, oPS, oNEW, oNEWAI, oNEWAB, oNEWAZ, oNEWAL, oCOPY, oINV0, oINS0, oINV1, oINS1, oINV2, oINS2, oINV3, oINS3, oINV4, oINS4, oINV5, oINS5, oINV6, oINS6, List.getElem?_cons_zero, List.getElem?_cons_succ, List.set_cons_zero, List.set_cons_succ, znl, zs4, zc1, true_and, and_self, Value.category, Option.toList, List.cons_append, List.nil_append, zvr]
      try simp (disch := omega) only [zgi_gz, zj_cn, zj_lt, zj_le, zj_eq, zj_add, zj_sub, zj_mul, zj_neg, zj_lt0, zj_le0, zj_0le, zj_0lt, zj_eq0]
      exact ih
    · rw [zrg_t (G := zgo h) c2] at ih
      try simp (disch := omega) only [zgi_gz, zj_cn, zj_lt, zj_le, zj_eq, zj_add, zj_sub, zj_mul, zj_neg, zj_lt0, zj_le0, zj_0le, zj_0lt, zj_eq0]
      rw [hc]
      refine vb_X3_rowsToGoal_76 _ _ _ ?_
      simp only [B_X3_rowsToGoal_76, oPI, oPL, oILOAD, oLLOAD, oALOAD, oISTORE, oASTORE, oLSTORE, oIINC, oIADD, oISUB, oIMUL, oIAND, oIOR, oIXOR, oIDIV, oIREM, oISHL, oISHR, oIUSHR, oLADD, oLSUB, oLMUL, oLOR, oLDIV, oLREM, oLCMP, oLSHL, oINEG, oI2L, oL2I, oI2B, oI2C, oDUP, oPOP, oDUP2, oIFEQ, oICEQ, oIFNE, oICNE, oIFLT, oICLT, oIFGE, oICGE, oIFGT, oICGT, oIFLE, oICLE, oIFNULL, oIFNONNULL, oTSW, oLSW, oGETI, oGETL, oGETR, oPUTI, oPUTZ, oPUTL, oPUTR, oIALD, oBALD, oZALD, oLALD, oAALD, oALEN, oIAST, oBAST, oZAST, oLAST, oIRET, oZRET, oLRET, oVRET, oARET, oOBJ, oINI, oPS, oNEW, oNEWAI, oNEWAB, oNEWAZ, oNEWAL, oCOPY, oINV0, oINS0, oINV1, oINS1, oINV2, oINS2, oINV3, oINS3, oINV4, oINS4, oINV5, oINS5, oINV6, oINS6, List.getElem?_cons_zero, List.getElem?_cons_succ, List.set_cons_zero, List.set_cons_succ, znl, zs4, zc1, true_and, and_self, Value.category, Option.toList, List.cons_append, List.nil_append, zvr]
      try simp (disch := omega) only [zgi_gz, zj_cn, zj_lt, zj_le, zj_eq, zj_add, zj_sub, zj_mul, zj_neg, zj_lt0, zj_le0, zj_0le, zj_0lt, zj_eq0]
      exact ih
noncomputable def zfe (G : Nat → Prop) (m : Nat) : Int := zff (fun n => 0 < zrg G n 0 0 144) 0 (m + 1)
theorem cc_fewestTurns {m : Nat} (w : zCW h d p) (r : zRV h) (hm : m ≤ 5) (k : R (some (.int (zj (zfe (zgo h) m)))) h) : zCC X M_X3_fewestTurns [.ref 68, .int (zj m)] h R := by
  refine zCC_of (ls := [.ref 68, .int (zj m), .retAddr 0]) pf_X3_fewestTurns rfl (Nat.le_of_ble_eq_true rfl) ?_
  refine vb_X3_fewestTurns_0 _ _ _ ?_
  simp only [B_X3_fewestTurns_0, oPI, oPL, oILOAD, oLLOAD, oALOAD, oISTORE, oASTORE, oLSTORE, oIINC, oIADD, oISUB, oIMUL, oIAND, oIOR, oIXOR, oIDIV, oIREM, oISHL, oISHR, oIUSHR, oLADD, oLSUB, oLMUL, oLOR, oLDIV, oLREM, oLCMP, oLSHL, oINEG, oI2L, oL2I, oI2B, oI2C, oDUP, oPOP, oDUP2, oIFEQ, oICEQ, oIFNE, oICNE, oIFLT, oICLT, oIFGE, oICGE, oIFGT, oICGT, oIFLE, oICLE, oIFNULL, oIFNONNULL, oTSW, oLSW, oGETI, oGETL, oGETR, oPUTI, oPUTZ, oPUTL, oPUTR, oIALD, oBALD, oZALD, oLALD, oAALD, oALEN, oIAST, oBAST, oZAST, oLAST, oIRET, oZRET, oLRET, oVRET, oARET, oOBJ, oINI, oPS, oNEW, oNEWAI, oNEWAB, oNEWAZ, oNEWAL, oCOPY, oINV0, oINS0, oINV1, oINS1, oINV2, oINS2, oINV3, oINS3, oINV4, oINS4, oINV5, oINS5, oINV6, oINS6, List.getElem?_cons_zero, List.getElem?_cons_succ, List.set_cons_zero, List.set_cons_succ, znl, zs4, zc1, true_and, and_self, Value.category, Option.toList, List.cons_append, List.nil_append, zvr, zc_s16 w, zc_s17 w, zc_s18 w, zc_s19 w, zc_s32 w, zc_s45 w, zc_s46 w, zc_s47 w, zc_s64 w, zc_s68 w, zc_s69 w, zc_s76 w, zc_s77 w, zc_r16_0 w, zc_r16_1 w, zc_r16_2 w, zc_r16_3 w, zc_r16_4 w, zc_r17_0 w, zc_r17_1 w, zc_r18_0 w, zc_r32_0 w, zc_r32_1 w, zc_r46_0 w, zc_r46_1 w, zc_r68_0 w, zc_r68_1 w]
  refine zdown (m := m + 1) (P := fun i => R (some (.int (zj (zff (fun n => 0 < zrg (zgo h) n 0 0 144) i (m + 1 - i))))) h → zV X M_X3_fewestTurns (zQm M_X3_fewestTurns R) 0 0 2 [.ref 68, .int (zj m), .int (zj i)] [] h) (fun i hi ih k => ?_) 0 (by omega) k
  refine vb_X3_fewestTurns_2 _ _ _ ?_
  simp only [B_X3_fewestTurns_2, oPI, oPL, oILOAD, oLLOAD, oALOAD, oISTORE, oASTORE, oLSTORE, oIINC, oIADD, oISUB, oIMUL, oIAND, oIOR, oIXOR, oIDIV, oIREM, oISHL, oISHR, oIUSHR, oLADD, oLSUB, oLMUL, oLOR, oLDIV, oLREM, oLCMP, oLSHL, oINEG, oI2L, oL2I, oI2B, oI2C, oDUP, oPOP, oDUP2, oIFEQ, oICEQ, oIFNE, oICNE, oIFLT, oICLT, oIFGE, oICGE, oIFGT, oICGT, oIFLE, oICLE, oIFNULL, oIFNONNULL, oTSW, oLSW, oGETI, oGETL, oGETR, oPUTI, oPUTZ, oPUTL, oPUTR, oIALD, oBALD, oZALD, oLALD, oAALD, oALEN, oIAST, oBAST, oZAST, oLAST, oIRET, oZRET, oLRET, oVRET, oARET, oOBJ, oINI, oPS, oNEW, oNEWAI, oNEWAB, oNEWAZ, oNEWAL, oCOPY, oINV0, oINS0, oINV1, oINS1, oINV2, oINS2, oINV3, oINS3, oINV4, oINS4, oINV5, oINS5, oINV6, oINS6, List.getElem?_cons_zero, List.getElem?_cons_succ, List.set_cons_zero, List.set_cons_succ, znl, zs4, zc1, true_and, and_self, Value.category, Option.toList, List.cons_append, List.nil_append, zvr, zc_s16 w, zc_s17 w, zc_s18 w, zc_s19 w, zc_s32 w, zc_s45 w, zc_s46 w, zc_s47 w, zc_s64 w, zc_s68 w, zc_s69 w, zc_s76 w, zc_s77 w, zc_r16_0 w, zc_r16_1 w, zc_r16_2 w, zc_r16_3 w, zc_r16_4 w, zc_r17_0 w, zc_r17_1 w, zc_r18_0 w, zc_r32_0 w, zc_r32_1 w, zc_r46_0 w, zc_r46_1 w, zc_r68_0 w, zc_r68_1 w]
  by_cases ci : i = m + 1
  · subst ci
    try simp (disch := omega) only [zgi_gz, zj_cn, zj_lt, zj_le, zj_eq, zj_add, zj_sub, zj_mul, zj_neg, zj_lt0, zj_le0, zj_0le, zj_0lt, zj_eq0]
    refine ⟨fun _ => ?_, fun c => by omega⟩
    refine vb_X3_fewestTurns_25 _ _ _ ?_
    simp only [B_X3_fewestTurns_25, oPI, oPL, oILOAD, oLLOAD, oALOAD, oISTORE, oASTORE, oLSTORE, oIINC, oIADD, oISUB, oIMUL, oIAND, oIOR, oIXOR, oIDIV, oIREM, oISHL, oISHR, oIUSHR, oLADD, oLSUB, oLMUL, oLOR, oLDIV, oLREM, oLCMP, oLSHL, oINEG, oI2L, oL2I, oI2B, oI2C, oDUP, oPOP, oDUP2, oIFEQ, oICEQ, oIFNE, oICNE, oIFLT, oICLT, oIFGE, oICGE, oIFGT, oICGT, oIFLE, oICLE, oIFNULL, oIFNONNULL, oTSW, oLSW, oGETI, oGETL, oGETR, oPUTI, oPUTZ, oPUTL, oPUTR, oIALD, oBALD, oZALD, oLALD, oAALD, oALEN, oIAST, oBAST, oZAST, oLAST, oIRET, oZRET, oLRET, oVRET, oARET, oOBJ, oINI, oPS, oNEW, oNEWAI, oNEWAB, oNEWAZ, oNEWAL, oCOPY, oINV0, oINS0, oINV1, oINS1, oINV2, oINS2, oINV3, oINS3, oINV4, oINS4, oINV5, oINS5, oINV6, oINS6, List.getElem?_cons_zero, List.getElem?_cons_succ, List.set_cons_zero, List.set_cons_succ, znl, zs4, zc1, true_and, and_self, Value.category, Option.toList, List.cons_append, List.nil_append, zvr]
    rw [Nat.sub_self] at k
    exact k
  have hl := zrg_le (G := zgo h) (n := i) (a := 0) (b := 0) (by omega) 144
  try simp (disch := omega) only [zgi_gz, zj_cn, zj_lt, zj_le, zj_eq, zj_add, zj_sub, zj_mul, zj_neg, zj_lt0, zj_le0, zj_0le, zj_0lt, zj_eq0]
  refine ⟨fun c => by omega, fun _ => ?_⟩
  refine cc_rowsToGoal w r (by omega) (by omega) (by omega) (by omega) (by omega) ?_
  simp only [oPI, oPL, oILOAD, oLLOAD, oALOAD, oISTORE, oASTORE, oLSTORE, oIINC, oIADD, oISUB, oIMUL, oIAND, oIOR, oIXOR, oIDIV, oIREM, oISHL, oISHR, oIUSHR, oLADD, oLSUB, oLMUL, oLOR, oLDIV, oLREM, oLCMP, oLSHL, oINEG, oI2L, oL2I, oI2B, oI2C, oDUP, oPOP, oDUP2, oIFEQ, oICEQ, oIFNE, oICNE, oIFLT, oICLT, oIFGE, oICGE, oIFGT, oICGT, oIFLE, oICLE, oIFNULL, oIFNONNULL, oTSW, oLSW, oGETI, oGETL, oGETR, oPUTI, oPUTZ, oPUTL, oPUTR, oIALD, oBALD, oZALD, oLALD, oAALD, oALEN, oIAST, oBAST, oZAST, oLAST, oIRET, oZRET, oLRET, oVRET, oARET, oOBJ, oINI, oPS, oNEW, oNEWAI, oNEWAB, oNEWAZ, oNEWAL, oCOPY, oINV0, oINS0, oINV1, oINS1, oINV2, oINS2, oINV3, oINS3, oINV4, oINS4, oINV5, oINS5, oINV6, oINS6, List.getElem?_cons_zero, List.getElem?_cons_succ, List.set_cons_zero, List.set_cons_succ, znl, zs4, zc1, true_and, and_self, Value.category, Option.toList, List.cons_append, List.nil_append, zvr, zc_s16 w, zc_s17 w, zc_s18 w, zc_s19 w, zc_s32 w, zc_s45 w, zc_s46 w, zc_s47 w, zc_s64 w, zc_s68 w, zc_s69 w, zc_s76 w, zc_s77 w, zc_r16_0 w, zc_r16_1 w, zc_r16_2 w, zc_r16_3 w, zc_r16_4 w, zc_r17_0 w, zc_r17_1 w, zc_r18_0 w, zc_r32_0 w, zc_r32_1 w, zc_r46_0 w, zc_r46_1 w, zc_r68_0 w, zc_r68_1 w]
  try simp (disch := omega) only [zgi_gz, zj_cn, zj_lt, zj_le, zj_eq, zj_add, zj_sub, zj_mul, zj_neg, zj_lt0, zj_le0, zj_0le, zj_0lt, zj_eq0]
  refine ⟨fun c => ?_, fun c => ?_⟩
  · rw [zff_f (P := fun n => 0 < zrg (zgo h) n 0 0 144) (by omega) (by omega)] at k
    refine vb_X3_fewestTurns_19 _ _ _ ?_
    simp only [B_X3_fewestTurns_19, oPI, oPL, oILOAD, oLLOAD, oALOAD, oISTORE, oASTORE, oLSTORE, oIINC, oIADD, oISUB, oIMUL, oIAND, oIOR, oIXOR, oIDIV, oIREM, oISHL, oISHR, oIUSHR, oLADD, oLSUB, oLMUL, oLOR, oLDIV, oLREM, oLCMP, oLSHL, oINEG, oI2L, oL2I, oI2B, oI2C, oDUP, oPOP, oDUP2, oIFEQ, oICEQ, oIFNE, oICNE, oIFLT, oICLT, oIFGE, oICGE, oIFGT, oICGT, oIFLE, oICLE, oIFNULL, oIFNONNULL, oTSW, oLSW, oGETI, oGETL, oGETR, oPUTI, oPUTZ, oPUTL, oPUTR, oIALD, oBALD, oZALD, oLALD, oAALD, oALEN, oIAST, oBAST, oZAST, oLAST, oIRET, oZRET, oLRET, oVRET, oARET, oOBJ, oINI, oPS, oNEW, oNEWAI, oNEWAB, oNEWAZ, oNEWAL, oCOPY, oINV0, oINS0, oINV1, oINS1, oINV2, oINS2, oINV3, oINS3, oINV4, oINS4, oINV5, oINS5, oINV6, oINS6, List.getElem?_cons_zero, List.getElem?_cons_succ, List.set_cons_zero, List.set_cons_succ, znl, zs4, zc1, true_and, and_self, Value.category, Option.toList, List.cons_append, List.nil_append, zvr]
    try simp (disch := omega) only [zgi_gz, zj_cn, zj_lt, zj_le, zj_eq, zj_add, zj_sub, zj_mul, zj_neg, zj_lt0, zj_le0, zj_0le, zj_0lt, zj_eq0]
    exact ih (by omega) (by rw [show m + 1 - (i + 1) = m + 1 - i - 1 by omega]; exact k)
  · rw [zff_t (P := fun n => 0 < zrg (zgo h) n 0 0 144) (by omega) (by omega)] at k
    exact k
/-- the click under which the row of that index lies, and its index there: of those from c on (f of them) -/
def zin (am : Int → Nat) : Nat → Int → Int → Int × Int
  | 0, c, x => (c, x)
  | f + 1, c, x => if x < am c then (c, x) else zin am f (c + 1) (x - am c)
noncomputable def zam (G : Nat → Prop) (n : Nat) (a b c : Int) : Nat := if c = 0 then 0 else zrg G n (a + c) (b + c.tdiv 2) 144
/-- the digits of the row of an index -/
noncomputable def zra (G : Nat → Prop) : Nat → Int → Int → Int → Int → Int
  | 0, _, _, _, dg => dg
  | n + 1, a, b, x, dg => zra G n (a + (zin (zam G n a b) 6 (-3) x).1) (b + (zin (zam G n a b) 6 (-3) x).1.tdiv 2) (zin (zam G n a b) 6 (-3) x).2 (10 * dg + (zin (zam G n a b) 6 (-3) x).1 + 3)
theorem zin_b {am : Int → Nat} : ∀ (f : Nat) (c x : Int), c ≤ (zin am f c x).1 ∧ (zin am f c x).1 ≤ c + f ∧ (zin am f c x).2 ≤ x
  | 0, c, x => by unfold zin; dsimp only; omega
  | f + 1, c, x => by
    have ih := zin_b (am := am) f (c + 1) (x - am c)
    unfold zin
    split
    · dsimp only; omega
    · omega
theorem zin_l {am : Int → Nat} : ∀ (f : Nat) (c x : Int), 0 ≤ x → 0 ≤ (zin am f c x).2
  | 0, c, x, h => h
  | f + 1, c, x, h => by
    unfold zin
    split
    · exact h
    · exact zin_l f _ _ (by omega)
theorem cc_rowAt {n : Nat} {x : Int} (w : zCW h d p) (r : zRV h) (hn : n ≤ 5) (h1 : 0 ≤ x) (h2 : x ≤ 2000000) (k : R (some (.int (zj (zra (zgo h) n 0 0 x 0)))) h) : zCC X M_X3_rowAt [.ref 68, .int (zj n), .int (zj x)] h R := by
  refine zCC_of (ls := [.ref 68, .int (zj n), .int (zj x), .retAddr 0, .retAddr 0, .retAddr 0, .retAddr 0, .retAddr 0, .retAddr 0, .retAddr 0]) pf_X3_rowAt rfl (Nat.le_of_ble_eq_true rfl) ?_
  refine vb_X3_rowAt_0 _ _ _ ?_
  simp only [B_X3_rowAt_0, oPI, oPL, oILOAD, oLLOAD, oALOAD, oISTORE, oASTORE, oLSTORE, oIINC, oIADD, oISUB, oIMUL, oIAND, oIOR, oIXOR, oIDIV, oIREM, oISHL, oISHR, oIUSHR, oLADD, oLSUB, oLMUL, oLOR, oLDIV, oLREM, oLCMP, oLSHL, oINEG, oI2L, oL2I, oI2B, oI2C, oDUP, oPOP, oDUP2, oIFEQ, oICEQ, oIFNE, oICNE, oIFLT, oICLT, oIFGE, oICGE, oIFGT, oICGT, oIFLE, oICLE, oIFNULL, oIFNONNULL, oTSW, oLSW, oGETI, oGETL, oGETR, oPUTI, oPUTZ, oPUTL, oPUTR, oIALD, oBALD, oZALD, oLALD, oAALD, oALEN, oIAST, oBAST, oZAST, oLAST, oIRET, oZRET, oLRET, oVRET, oARET, oOBJ, oINI, oPS, oNEW, oNEWAI, oNEWAB, oNEWAZ, oNEWAL, oCOPY, oINV0, oINS0, oINV1, oINS1, oINV2, oINS2, oINV3, oINS3, oINV4, oINS4, oINV5, oINS5, oINV6, oINS6, List.getElem?_cons_zero, List.getElem?_cons_succ, List.set_cons_zero, List.set_cons_succ, znl, zs4, zc1, true_and, and_self, Value.category, Option.toList, List.cons_append, List.nil_append, zvr, zc_s16 w, zc_s17 w, zc_s18 w, zc_s19 w, zc_s32 w, zc_s45 w, zc_s46 w, zc_s47 w, zc_s64 w, zc_s68 w, zc_s69 w, zc_s76 w, zc_s77 w, zc_r16_0 w, zc_r16_1 w, zc_r16_2 w, zc_r16_3 w, zc_r16_4 w, zc_r17_0 w, zc_r17_1 w, zc_r18_0 w, zc_r32_0 w, zc_r32_1 w, zc_r46_0 w, zc_r46_1 w, zc_r68_0 w, zc_r68_1 w]
  try simp (disch := omega) only [zgi_gz, zj_cn, zj_lt, zj_le, zj_eq, zj_add, zj_sub, zj_mul, zj_neg, zj_lt0, zj_le0, zj_0le, zj_0lt, zj_eq0]
  have key : ∀ (m : Nat), m ≤ n → ∀ (a b y dg : Int) (z1 z2 : Value), -20 ≤ a → a ≤ 20 → -20 ≤ b → b ≤ 20 → -3 * ((n : Int) - m) ≤ a → a ≤ 3 * ((n : Int) - m) → -3 * ((n : Int) - m) ≤ b → b ≤ 3 * ((n : Int) - m) → 0 ≤ y → y ≤ 2000000 → R (some (.int (zj (zra (zgo h) m a b y dg)))) h → zV X M_X3_rowAt (zQm M_X3_rowAt R) 0 0 16 [.ref 68, .int (zj n), .int (zj x), .int (zj a), .int (zj b), .int (zj y), .int (zj dg), .int (zj ((m : Int) - 1)), z1, z2] [] h := by
    intro m
    induction m with
    | zero =>
      intro hm a b y dg z1 z2 a1 a2 b1 b2 a3 a4 b3 b4 y1 y2 k
      refine vb_X3_rowAt_16 _ _ _ ?_
      simp only [B_X3_rowAt_16, oPI, oPL, oILOAD, oLLOAD, oALOAD, oISTORE, oASTORE, oLSTORE, oIINC, oIADD, oISUB, oIMUL, oIAND, oIOR, oIXOR, oIDIV, oIREM, oISHL, oISHR, oIUSHR, oLADD, oLSUB, oLMUL, oLOR, oLDIV, oLREM, oLCMP, oLSHL, oINEG, oI2L, oL2I, oI2B, oI2C, oDUP, oPOP, oDUP2, oIFEQ, oICEQ, oIFNE, oICNE, oIFLT, oICLT, oIFGE, oICGE, oIFGT, oICGT, oIFLE, oICLE, oIFNULL, oIFNONNULL, oTSW, oLSW, oGETI, oGETL, oGETR, oPUTI, oPUTZ, oPUTL, oPUTR, oIALD, oBALD, oZALD, oLALD, oAALD, oALEN, oIAST, oBAST, oZAST, oLAST, oIRET, oZRET, oLRET, oVRET, oARET, oOBJ, oINI, oPS, oNEW, oNEWAI, oNEWAB, oNEWAZ, oNEWAL, oCOPY, oINV0, oINS0, oINV1, oINS1, oINV2, oINS2, oINV3, oINS3, oINV4, oINS4, oINV5, oINS5, oINV6, oINS6, List.getElem?_cons_zero, List.getElem?_cons_succ, List.set_cons_zero, List.set_cons_succ, znl, zs4, zc1, true_and, and_self, Value.category, Option.toList, List.cons_append, List.nil_append, zvr, zc_s16 w, zc_s17 w, zc_s18 w, zc_s19 w, zc_s32 w, zc_s45 w, zc_s46 w, zc_s47 w, zc_s64 w, zc_s68 w, zc_s69 w, zc_s76 w, zc_s77 w, zc_r16_0 w, zc_r16_1 w, zc_r16_2 w, zc_r16_3 w, zc_r16_4 w, zc_r17_0 w, zc_r17_1 w, zc_r18_0 w, zc_r32_0 w, zc_r32_1 w, zc_r46_0 w, zc_r46_1 w, zc_r68_0 w, zc_r68_1 w]
      try simp (disch := omega) only [zgi_gz, zj_cn, zj_lt, zj_le, zj_eq, zj_add, zj_sub, zj_mul, zj_neg, zj_lt0, zj_le0, zj_0le, zj_0lt, zj_eq0]
      refine ⟨fun _ => ?_, fun c => by omega⟩
      refine vb_X3_rowAt_116 _ _ _ ?_
      simp only [B_X3_rowAt_116, oPI, oPL, oILOAD, oLLOAD, oALOAD, oISTORE, oASTORE, oLSTORE, oIINC, oIADD, oISUB, oIMUL, oIAND, oIOR, oIXOR, oIDIV, oIREM, oISHL, oISHR, oIUSHR, oLADD, oLSUB, oLMUL, oLOR, oLDIV, oLREM, oLCMP, oLSHL, oINEG, oI2L, oL2I, oI2B, oI2C, oDUP, oPOP, oDUP2, oIFEQ, oICEQ, oIFNE, oICNE, oIFLT, oICLT, oIFGE, oICGE, oIFGT, oICGT, oIFLE, oICLE, oIFNULL, oIFNONNULL, oTSW, oLSW, oGETI, oGETL, oGETR, oPUTI, oPUTZ, oPUTL, oPUTR, oIALD, oBALD, oZALD, oLALD, oAALD, oALEN, oIAST, oBAST, oZAST, oLAST, oIRET, oZRET, oLRET, oVRET, oARET, oOBJ, oINI, oPS, oNEW, oNEWAI, oNEWAB, oNEWAZ, oNEWAL, oCOPY, oINV0, oINS0, oINV1, oINS1, oINV2, oINS2, oINV3, oINS3, oINV4, oINS4, oINV5, oINS5, oINV6, oINS6, List.getElem?_cons_zero, List.getElem?_cons_succ, List.set_cons_zero, List.set_cons_succ, znl, zs4, zc1, true_and, and_self, Value.category, Option.toList, List.cons_append, List.nil_append, zvr]
      exact k
    | succ m ih =>
      intro hm a b y dg z1 z2 a1 a2 b1 b2 a3 a4 b3 b4 y1 y2 k
      refine vb_X3_rowAt_16 _ _ _ ?_
      simp only [B_X3_rowAt_16, oPI, oPL, oILOAD, oLLOAD, oALOAD, oISTORE, oASTORE, oLSTORE, oIINC, oIADD, oISUB, oIMUL, oIAND, oIOR, oIXOR, oIDIV, oIREM, oISHL, oISHR, oIUSHR, oLADD, oLSUB, oLMUL, oLOR, oLDIV, oLREM, oLCMP, oLSHL, oINEG, oI2L, oL2I, oI2B, oI2C, oDUP, oPOP, oDUP2, oIFEQ, oICEQ, oIFNE, oICNE, oIFLT, oICLT, oIFGE, oICGE, oIFGT, oICGT, oIFLE, oICLE, oIFNULL, oIFNONNULL, oTSW, oLSW, oGETI, oGETL, oGETR, oPUTI, oPUTZ, oPUTL, oPUTR, oIALD, oBALD, oZALD, oLALD, oAALD, oALEN, oIAST, oBAST, oZAST, oLAST, oIRET, oZRET, oLRET, oVRET, oARET, oOBJ, oINI, oPS, oNEW, oNEWAI, oNEWAB, oNEWAZ, oNEWAL, oCOPY, oINV0, oINS0, oINV1, oINS1, oINV2, oINS2, oINV3, oINS3, oINV4, oINS4, oINV5, oINS5, oINV6, oINS6, List.getElem?_cons_zero, List.getElem?_cons_succ, List.set_cons_zero, List.set_cons_succ, znl, zs4, zc1, true_and, and_self, Value.category, Option.toList, List.cons_append, List.nil_append, zvr, zc_s16 w, zc_s17 w, zc_s18 w, zc_s19 w, zc_s32 w, zc_s45 w, zc_s46 w, zc_s47 w, zc_s64 w, zc_s68 w, zc_s69 w, zc_s76 w, zc_s77 w, zc_r16_0 w, zc_r16_1 w, zc_r16_2 w, zc_r16_3 w, zc_r16_4 w, zc_r17_0 w, zc_r17_1 w, zc_r18_0 w, zc_r32_0 w, zc_r32_1 w, zc_r46_0 w, zc_r46_1 w, zc_r68_0 w, zc_r68_1 w]
      try simp (disch := omega) only [zgi_gz, zj_cn, zj_lt, zj_le, zj_eq, zj_add, zj_sub, zj_mul, zj_neg, zj_lt0, zj_le0, zj_0le, zj_0lt, zj_eq0]
      refine ⟨fun c => by omega, fun _ => ?_⟩
      rw [show ((m + 1 : Nat) : Int) - 1 = (m : Int) by omega]
      have kk : R (some (.int (zj (zra (zgo h) m (a + (zin (zam (zgo h) m a b) 6 (-3) y).1) (b + (zin (zam (zgo h) m a b) 6 (-3) y).1.tdiv 2) (zin (zam (zgo h) m a b) 6 (-3) y).2 (10 * dg + (zin (zam (zgo h) m a b) 6 (-3) y).1 + 3))))) h := k
      have inner : ∀ (f : Nat) (c y : Int) (z2 : Value), c + f = 3 → -3 ≤ c → 0 ≤ y → y ≤ 2000000 → (∀ z2 : Value, zV X M_X3_rowAt (zQm M_X3_rowAt R) 0 0 83 [.ref 68, .int (zj n), .int (zj x), .int (zj a), .int (zj b), .int (zj (zin (zam (zgo h) m a b) f c y).2), .int (zj dg), .int (zj (m : Int)), .int (zj (zin (zam (zgo h) m a b) f c y).1), z2] [] h) → zV X M_X3_rowAt (zQm M_X3_rowAt R) 0 0 25 [.ref 68, .int (zj n), .int (zj x), .int (zj a), .int (zj b), .int (zj y), .int (zj dg), .int (zj (m : Int)), .int (zj c), z2] [] h := by
        intro f
        induction f with
        | zero =>
          intro c y z2 e1 e2 y1 y2 kc
          refine vb_X3_rowAt_25 _ _ _ ?_
          simp only [B_X3_rowAt_25, oPI, oPL, oILOAD, oLLOAD, oALOAD, oISTORE, oASTORE, oLSTORE, oIINC, oIADD, oISUB, oIMUL, oIAND, oIOR, oIXOR, oIDIV, oIREM, oISHL, oISHR, oIUSHR, oLADD, oLSUB, oLMUL, oLOR, oLDIV, oLREM, oLCMP, oLSHL, oINEG, oI2L, oL2I, oI2B, oI2C, oDUP, oPOP, oDUP2, oIFEQ, oICEQ, oIFNE, oICNE, oIFLT, oICLT, oIFGE, oICGE, oIFGT, oICGT, oIFLE, oICLE, oIFNULL, oIFNONNULL, oTSW, oLSW, oGETI, oGETL, oGETR, oPUTI, oPUTZ, oPUTL, oPUTR, oIALD, oBALD, oZALD, oLALD, oAALD, oALEN, oIAST, oBAST, oZAST, oLAST, oIRET, oZRET, oLRET, oVRET, oARET, oOBJ, oINI, oPS, oNEW, oNEWAI, oNEWAB, oNEWAZ, oNEWAL, oCOPY, oINV0, oINS0, oINV1, oINS1, oINV2, oINS2, oINV3, oINS3, oINV4, oINS4, oINV5, oINS5, oINV6, oINS6, List.getElem?_cons_zero, List.getElem?_cons_succ, List.set_cons_zero, List.set_cons_succ, znl, zs4, zc1, true_and, and_self, Value.category, Option.toList, List.cons_append, List.nil_append, zvr, zc_s16 w, zc_s17 w, zc_s18 w, zc_s19 w, zc_s32 w, zc_s45 w, zc_s46 w, zc_s47 w, zc_s64 w, zc_s68 w, zc_s69 w, zc_s76 w, zc_s77 w, zc_r16_0 w, zc_r16_1 w, zc_r16_2 w, zc_r16_3 w, zc_r16_4 w, zc_r17_0 w, zc_r17_1 w, zc_r18_0 w, zc_r32_0 w, zc_r32_1 w, zc_r46_0 w, zc_r46_1 w, zc_r68_0 w, zc_r68_1 w]
          try simp (disch := omega) only [zgi_gz, zj_cn, zj_lt, zj_le, zj_eq, zj_add, zj_sub, zj_mul, zj_neg, zj_lt0, zj_le0, zj_0le, zj_0lt, zj_eq0]
          exact ⟨fun _ => kc z2, fun g => by omega⟩
        | succ f ihf =>
          intro c y z2 e1 e2 y1 y2 kc
          have hl := zrg_le (G := zgo h) (n := m) (a := a + c) (b := b + c.tdiv 2) (by omega) 144
          have hd := z_tdiv2 c
          have hz : zin (zam (zgo h) m a b) (f + 1) c y = if y < zam (zgo h) m a b c then (c, y) else zin (zam (zgo h) m a b) f (c + 1) (y - zam (zgo h) m a b c) := rfl
          rw [hz] at kc
          have tail : ∀ (am : Nat), am = zam (zgo h) m a b c → am ≤ 3000000 → zV X M_X3_rowAt (zQm M_X3_rowAt R) 0 0 58 [.ref 68, .int (zj n), .int (zj x), .int (zj a), .int (zj b), .int (zj y), .int (zj dg), .int (zj (m : Int)), .int (zj c), z2] [.int (zj am)] h := by
            intro am ham hle
            refine vb_X3_rowAt_58 _ _ _ ?_
            simp only [B_X3_rowAt_58, oPI, oPL, oILOAD, oLLOAD, oALOAD, oISTORE, oASTORE, oLSTORE, oIINC, oIADD, oISUB, oIMUL, oIAND, oIOR, oIXOR, oIDIV, oIREM, oISHL, oISHR, oIUSHR, oLADD, oLSUB, oLMUL, oLOR, oLDIV, oLREM, oLCMP, oLSHL, oINEG, oI2L, oL2I, oI2B, oI2C, oDUP, oPOP, oDUP2, oIFEQ, oICEQ, oIFNE, oICNE, oIFLT, oICLT, oIFGE, oICGE, oIFGT, oICGT, oIFLE, oICLE, oIFNULL, oIFNONNULL, oTSW, oLSW, oGETI, oGETL, oGETR, oPUTI, oPUTZ, oPUTL, oPUTR, oIALD, oBALD, oZALD, oLALD, oAALD, oALEN, oIAST, oBAST, oZAST, oLAST, oIRET, oZRET, oLRET, oVRET, oARET, oOBJ, oINI, oPS, oNEW, oNEWAI, oNEWAB, oNEWAZ, oNEWAL, oCOPY, oINV0, oINS0, oINV1, oINS1, oINV2, oINS2, oINV3, oINS3, oINV4, oINS4, oINV5, oINS5, oINV6, oINS6, List.getElem?_cons_zero, List.getElem?_cons_succ, List.set_cons_zero, List.set_cons_succ, znl, zs4, zc1, true_and, and_self, Value.category, Option.toList, List.cons_append, List.nil_append, zvr, zc_s16 w, zc_s17 w, zc_s18 w, zc_s19 w, zc_s32 w, zc_s45 w, zc_s46 w, zc_s47 w, zc_s64 w, zc_s68 w, zc_s69 w, zc_s76 w, zc_s77 w, zc_r16_0 w, zc_r16_1 w, zc_r16_2 w, zc_r16_3 w, zc_r16_4 w, zc_r17_0 w, zc_r17_1 w, zc_r18_0 w, zc_r32_0 w, zc_r32_1 w, zc_r46_0 w, zc_r46_1 w, zc_r68_0 w, zc_r68_1 w]
            try simp (disch := omega) only [zgi_gz, zj_cn, zj_lt, zj_le, zj_eq, zj_add, zj_sub, zj_mul, zj_neg, zj_lt0, zj_le0, zj_0le, zj_0lt, zj_eq0]
            refine ⟨fun g => ?_, fun g => ?_⟩
            · rw [if_neg (by omega)] at kc
              refine vb_X3_rowAt_70 _ _ _ ?_
              simp only [B_X3_rowAt_70, oPI, oPL, oILOAD, oLLOAD, oALOAD, oISTORE, oASTORE, oLSTORE, oIINC, oIADD, oISUB, oIMUL, oIAND, oIOR, oIXOR, oIDIV, oIREM, oISHL, oISHR, oIUSHR, oLADD, oLSUB, oLMUL, oLOR, oLDIV, oLREM, oLCMP, oLSHL, oINEG, oI2L, oL2I, oI2B, oI2C, oDUP, oPOP, oDUP2, oIFEQ, oICEQ, oIFNE, oICNE, oIFLT, oICLT, oIFGE, oICGE, oIFGT, oICGT, oIFLE, oICLE, oIFNULL, oIFNONNULL, oTSW, oLSW, oGETI, oGETL, oGETR, oPUTI, oPUTZ, oPUTL, oPUTR, oIALD, oBALD, oZALD, oLALD, oAALD, oALEN, oIAST, oBAST, oZAST, oLAST, oIRET, oZRET, oLRET, oVRET, oARET, oOBJ, oINI, oPS, oNEW, oNEWAI, oNEWAB, oNEWAZ, oNEWAL, oCOPY, oINV0, oINS0, oINV1, oINS1, oINV2, oINS2, oINV3, oINS3, oINV4, oINS4, oINV5, oINS5, oINV6, oINS6, List.getElem?_cons_zero, List.getElem?_cons_succ, List.set_cons_zero, List.set_cons_succ, znl, zs4, zc1, true_and, and_self, Value.category, Option.toList, List.cons_append, List.nil_append, zvr, zc_s16 w, zc_s17 w, zc_s18 w, zc_s19 w, zc_s32 w, zc_s45 w, zc_s46 w, zc_s47 w, zc_s64 w, zc_s68 w, zc_s69 w, zc_s76 w, zc_s77 w, zc_r16_0 w, zc_r16_1 w, zc_r16_2 w, zc_r16_3 w, zc_r16_4 w, zc_r17_0 w, zc_r17_1 w, zc_r18_0 w, zc_r32_0 w, zc_r32_1 w, zc_r46_0 w, zc_r46_1 w, zc_r68_0 w, zc_r68_1 w]
              try simp (disch := omega) only [zgi_gz, zj_cn, zj_lt, zj_le, zj_eq, zj_add, zj_sub, zj_mul, zj_neg, zj_lt0, zj_le0, zj_0le, zj_0lt, zj_eq0]
              refine ihf (c + 1) (y - am) _ (by omega) (by omega) (by omega) (by omega) ?_
              rw [ham]
              exact kc
            · rw [if_pos (by omega)] at kc
              exact kc _
          refine vb_X3_rowAt_25 _ _ _ ?_
          simp only [B_X3_rowAt_25, oPI, oPL, oILOAD, oLLOAD, oALOAD, oISTORE, oASTORE, oLSTORE, oIINC, oIADD, oISUB, oIMUL, oIAND, oIOR, oIXOR, oIDIV, oIREM, oISHL, oISHR, oIUSHR, oLADD, oLSUB, oLMUL, oLOR, oLDIV, oLREM, oLCMP, oLSHL, oINEG, oI2L, oL2I, oI2B, oI2C, oDUP, oPOP, oDUP2, oIFEQ, oICEQ, oIFNE, oICNE, oIFLT, oICLT, oIFGE, oICGE, oIFGT, oICGT, oIFLE, oICLE, oIFNULL, oIFNONNULL, oTSW, oLSW, oGETI, oGETL, oGETR, oPUTI, oPUTZ, oPUTL, oPUTR, oIALD, oBALD, oZALD, oLALD, oAALD, oALEN, oIAST, oBAST, oZAST, oLAST, oIRET, oZRET, oLRET, oVRET, oARET, oOBJ, oINI, oPS, oNEW, oNEWAI, oNEWAB, oNEWAZ, oNEWAL, oCOPY, oINV0, oINS0, oINV1, oINS1, oINV2, oINS2, oINV3, oINS3, oINV4, oINS4, oINV5, oINS5, oINV6, oINS6, List.getElem?_cons_zero, List.getElem?_cons_succ, List.set_cons_zero, List.set_cons_succ, znl, zs4, zc1, true_and, and_self, Value.category, Option.toList, List.cons_append, List.nil_append, zvr, zc_s16 w, zc_s17 w, zc_s18 w, zc_s19 w, zc_s32 w, zc_s45 w, zc_s46 w, zc_s47 w, zc_s64 w, zc_s68 w, zc_s69 w, zc_s76 w, zc_s77 w, zc_r16_0 w, zc_r16_1 w, zc_r16_2 w, zc_r16_3 w, zc_r16_4 w, zc_r17_0 w, zc_r17_1 w, zc_r18_0 w, zc_r32_0 w, zc_r32_1 w, zc_r46_0 w, zc_r46_1 w, zc_r68_0 w, zc_r68_1 w]
          try simp (disch := omega) only [zgi_gz, zj_cn, zj_lt, zj_le, zj_eq, zj_add, zj_sub, zj_mul, zj_neg, zj_lt0, zj_le0, zj_0le, zj_0lt, zj_eq0]
          refine ⟨fun g => by omega, fun _ => ⟨fun g => ?_, fun g => ?_⟩⟩
          · refine vb_X3_rowAt_40 _ _ _ ?_
            simp only [B_X3_rowAt_40, oPI, oPL, oILOAD, oLLOAD, oALOAD, oISTORE, oASTORE, oLSTORE, oIINC, oIADD, oISUB, oIMUL, oIAND, oIOR, oIXOR, oIDIV, oIREM, oISHL, oISHR, oIUSHR, oLADD, oLSUB, oLMUL, oLOR, oLDIV, oLREM, oLCMP, oLSHL, oINEG, oI2L, oL2I, oI2B, oI2C, oDUP, oPOP, oDUP2, oIFEQ, oICEQ, oIFNE, oICNE, oIFLT, oICLT, oIFGE, oICGE, oIFGT, oICGT, oIFLE, oICLE, oIFNULL, oIFNONNULL, oTSW, oLSW, oGETI, oGETL, oGETR, oPUTI, oPUTZ, oPUTL, oPUTR, oIALD, oBALD, oZALD, oLALD, oAALD, oALEN, oIAST, oBAST, oZAST, oLAST, oIRET, oZRET, oLRET, oVRET, oARET, oOBJ, oINI, oPS, oNEW, oNEWAI, oNEWAB, oNEWAZ, oNEWAL, oCOPY, oINV0, oINS0, oINV1, oINS1, oINV2, oINS2, oINV3, oINS3, oINV4, oINS4, oINV5, oINS5, oINV6, oINS6, List.getElem?_cons_zero, List.getElem?_cons_succ, List.set_cons_zero, List.set_cons_succ, znl, zs4, zc1, true_and, and_self, Value.category, Option.toList, List.cons_append, List.nil_append, zvr, zc_s16 w, zc_s17 w, zc_s18 w, zc_s19 w, zc_s32 w, zc_s45 w, zc_s46 w, zc_s47 w, zc_s64 w, zc_s68 w, zc_s69 w, zc_s76 w, zc_s77 w, zc_r16_0 w, zc_r16_1 w, zc_r16_2 w, zc_r16_3 w, zc_r16_4 w, zc_r17_0 w, zc_r17_1 w, zc_r18_0 w, zc_r32_0 w, zc_r32_1 w, zc_r46_0 w, zc_r46_1 w, zc_r68_0 w, zc_r68_1 w]
            try simp (disch := omega) only [zgi_gz, zj_cn, zj_lt, zj_le, zj_eq, zj_add, zj_sub, zj_mul, zj_neg, zj_lt0, zj_le0, zj_0le, zj_0lt, zj_eq0]
            refine cc_half (by omega) (by omega) ?_
            simp only [oPI, oPL, oILOAD, oLLOAD, oALOAD, oISTORE, oASTORE, oLSTORE, oIINC, oIADD, oISUB, oIMUL, oIAND, oIOR, oIXOR, oIDIV, oIREM, oISHL, oISHR, oIUSHR, oLADD, oLSUB, oLMUL, oLOR, oLDIV, oLREM, oLCMP, oLSHL, oINEG, oI2L, oL2I, oI2B, oI2C, oDUP, oPOP, oDUP2, oIFEQ, oICEQ, oIFNE, oICNE, oIFLT, oICLT, oIFGE, oICGE, oIFGT, oICGT, oIFLE, oICLE, oIFNULL, oIFNONNULL, oTSW, oLSW, oGETI, oGETL, oGETR, oPUTI, oPUTZ, oPUTL, oPUTR, oIALD, oBALD, oZALD, oLALD, oAALD, oALEN, oIAST, oBAST, oZAST, oLAST, oIRET, oZRET, oLRET, oVRET, oARET, oOBJ, oINI, oPS, oNEW, oNEWAI, oNEWAB, oNEWAZ, oNEWAL, oCOPY, oINV0, oINS0, oINV1, oINS1, oINV2, oINS2, oINV3, oINS3, oINV4, oINS4, oINV5, oINS5, oINV6, oINS6, List.getElem?_cons_zero, List.getElem?_cons_succ, List.set_cons_zero, List.set_cons_succ, znl, zs4, zc1, true_and, and_self, Value.category, Option.toList, List.cons_append, List.nil_append, zvr, zc_s16 w, zc_s17 w, zc_s18 w, zc_s19 w, zc_s32 w, zc_s45 w, zc_s46 w, zc_s47 w, zc_s64 w, zc_s68 w, zc_s69 w, zc_s76 w, zc_s77 w, zc_r16_0 w, zc_r16_1 w, zc_r16_2 w, zc_r16_3 w, zc_r16_4 w, zc_r17_0 w, zc_r17_1 w, zc_r18_0 w, zc_r32_0 w, zc_r32_1 w, zc_r46_0 w, zc_r46_1 w, zc_r68_0 w, zc_r68_1 w]
            try simp (disch := omega) only [zgi_gz, zj_cn, zj_lt, zj_le, zj_eq, zj_add, zj_sub, zj_mul, zj_neg, zj_lt0, zj_le0, zj_0le, zj_0lt, zj_eq0]
            refine cc_rowsToGoal w r (by omega) (by omega) (by omega) (by omega) (by omega) ?_
            simp only [oPI, oPL, oILOAD, oLLOAD, oALOAD, oISTORE, oASTORE, oLSTORE, oIINC, oIADD, oISUB, oIMUL, oIAND, oIOR, oIXOR, oIDIV, oIREM, oISHL, oISHR, oIUSHR, oLADD, oLSUB, oLMUL, oLOR, oLDIV, oLREM, oLCMP, oLSHL, oINEG, oI2L, oL2I, oI2B, oI2C, oDUP, oPOP, oDUP2, oIFEQ, oICEQ, oIFNE, oICNE, oIFLT, oICLT, oIFGE, oICGE, oIFGT, oICGT, oIFLE, oICLE, oIFNULL, oIFNONNULL, oTSW, oLSW, oGETI, oGETL, oGETR, oPUTI, oPUTZ, oPUTL, oPUTR, oIALD, oBALD, oZALD, oLALD, oAALD, oALEN, oIAST, oBAST, oZAST, oLAST, oIRET, oZRET, oLRET, oVRET, oARET, oOBJ, oINI, oPS, oNEW, oNEWAI, oNEWAB, oNEWAZ, oNEWAL, oCOPY, oINV0, oINS0, oINV1, oINS1, oINV2, oINS2, oINV3, oINS3, oINV4, oINS4, oINV5, oINS5, oINV6, oINS6, List.getElem?_cons_zero, List.getElem?_cons_succ, List.set_cons_zero, List.set_cons_succ, znl, zs4, zc1, true_and, and_self, Value.category, Option.toList, List.cons_append, List.nil_append, zvr, zc_s16 w, zc_s17 w, zc_s18 w, zc_s19 w, zc_s32 w, zc_s45 w, zc_s46 w, zc_s47 w, zc_s64 w, zc_s68 w, zc_s69 w, zc_s76 w, zc_s77 w, zc_r16_0 w, zc_r16_1 w, zc_r16_2 w, zc_r16_3 w, zc_r16_4 w, zc_r17_0 w, zc_r17_1 w, zc_r18_0 w, zc_r32_0 w, zc_r32_1 w, zc_r46_0 w, zc_r46_1 w, zc_r68_0 w, zc_r68_1 w]
            exact tail _ (by unfold zam; rw [if_neg g]) (by omega)
          · exact tail 0 (by unfold zam; rw [if_pos g]) (by omega)
      refine inner 6 (-3) y z2 (by omega) (by omega) y1 y2 (fun z2 => ?_)
      have hb := zin_b (am := zam (zgo h) m a b) 6 (-3) y
      have hl := zin_l (am := zam (zgo h) m a b) 6 (-3) y y1
      have hd := z_tdiv2 (zin (zam (zgo h) m a b) 6 (-3) y).1
      refine vb_X3_rowAt_83 _ _ _ ?_
      simp only [B_X3_rowAt_83, oPI, oPL, oILOAD, oLLOAD, oALOAD, oISTORE, oASTORE, oLSTORE, oIINC, oIADD, oISUB, oIMUL, oIAND, oIOR, oIXOR, oIDIV, oIREM, oISHL, oISHR, oIUSHR, oLADD, oLSUB, oLMUL, oLOR, oLDIV, oLREM, oLCMP, oLSHL, oINEG, oI2L, oL2I, oI2B, oI2C, oDUP, oPOP, oDUP2, oIFEQ, oICEQ, oIFNE, oICNE, oIFLT, oICLT, oIFGE, oICGE, oIFGT, oICGT, oIFLE, oICLE, oIFNULL, oIFNONNULL, oTSW, oLSW, oGETI, oGETL, oGETR, oPUTI, oPUTZ, oPUTL, oPUTR, oIALD, oBALD, oZALD, oLALD, oAALD, oALEN, oIAST, oBAST, oZAST, oLAST, oIRET, oZRET, oLRET, oVRET, oARET, oOBJ, oINI, oPS, oNEW, oNEWAI, oNEWAB, oNEWAZ, oNEWAL, oCOPY, oINV0, oINS0, oINV1, oINS1, oINV2, oINS2, oINV3, oINS3, oINV4, oINS4, oINV5, oINS5, oINV6, oINS6, List.getElem?_cons_zero, List.getElem?_cons_succ, List.set_cons_zero, List.set_cons_succ, znl, zs4, zc1, true_and, and_self, Value.category, Option.toList, List.cons_append, List.nil_append, zvr, zc_s16 w, zc_s17 w, zc_s18 w, zc_s19 w, zc_s32 w, zc_s45 w, zc_s46 w, zc_s47 w, zc_s64 w, zc_s68 w, zc_s69 w, zc_s76 w, zc_s77 w, zc_r16_0 w, zc_r16_1 w, zc_r16_2 w, zc_r16_3 w, zc_r16_4 w, zc_r17_0 w, zc_r17_1 w, zc_r18_0 w, zc_r32_0 w, zc_r32_1 w, zc_r46_0 w, zc_r46_1 w, zc_r68_0 w, zc_r68_1 w]
      try simp (disch := omega) only [zgi_gz, zj_cn, zj_lt, zj_le, zj_eq, zj_add, zj_sub, zj_mul, zj_neg, zj_lt0, zj_le0, zj_0le, zj_0lt, zj_eq0]
      refine cc_half (by omega) (by omega) ?_
      simp only [oPI, oPL, oILOAD, oLLOAD, oALOAD, oISTORE, oASTORE, oLSTORE, oIINC, oIADD, oISUB, oIMUL, oIAND, oIOR, oIXOR, oIDIV, oIREM, oISHL, oISHR, oIUSHR, oLADD, oLSUB, oLMUL, oLOR, oLDIV, oLREM, oLCMP, oLSHL, oINEG, oI2L, oL2I, oI2B, oI2C, oDUP, oPOP, oDUP2, oIFEQ, oICEQ, oIFNE, oICNE, oIFLT, oICLT, oIFGE, oICGE, oIFGT, oICGT, oIFLE, oICLE, oIFNULL, oIFNONNULL, oTSW, oLSW, oGETI, oGETL, oGETR, oPUTI, oPUTZ, oPUTL, oPUTR, oIALD, oBALD, oZALD, oLALD, oAALD, oALEN, oIAST, oBAST, oZAST, oLAST, oIRET, oZRET, oLRET, oVRET, oARET, oOBJ, oINI, oPS, oNEW, oNEWAI, oNEWAB, oNEWAZ, oNEWAL, oCOPY, oINV0, oINS0, oINV1, oINS1, oINV2, oINS2, oINV3, oINS3, oINV4, oINS4, oINV5, oINS5, oINV6, oINS6, List.getElem?_cons_zero, List.getElem?_cons_succ, List.set_cons_zero, List.set_cons_succ, znl, zs4, zc1, true_and, and_self, Value.category, Option.toList, List.cons_append, List.nil_append, zvr, zc_s16 w, zc_s17 w, zc_s18 w, zc_s19 w, zc_s32 w, zc_s45 w, zc_s46 w, zc_s47 w, zc_s64 w, zc_s68 w, zc_s69 w, zc_s76 w, zc_s77 w, zc_r16_0 w, zc_r16_1 w, zc_r16_2 w, zc_r16_3 w, zc_r16_4 w, zc_r17_0 w, zc_r17_1 w, zc_r18_0 w, zc_r32_0 w, zc_r32_1 w, zc_r46_0 w, zc_r46_1 w, zc_r68_0 w, zc_r68_1 w]
      try simp (disch := omega) only [zgi_gz, zj_cn, zj_lt, zj_le, zj_eq, zj_add, zj_sub, zj_mul, zj_neg, zj_lt0, zj_le0, zj_0le, zj_0lt, zj_eq0]
      exact ih (by omega) _ _ _ _ _ _ (by omega) (by omega) (by omega) (by omega) (by omega) (by omega) (by omega) (by omega) hl (by omega) kk
  exact key n (Nat.le_refl n) 0 0 x 0 _ _ (by omega) (by omega) (by omega) (by omega) (by omega) (by omega) (by omega) (by omega) h1 h2 k
end ZRW2
