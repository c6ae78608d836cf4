theorem zsh_cp (h : zHp) (b sp e dp n a : Nat) : zsh (zcp h b sp e dp n) a = zsh h a := rfl
theorem zgr_cp (h : zHp) (b sp e dp n a c : Nat) : zgr (zcp h b sp e dp n) a c = zgr h a c := rfl
theorem zgi_cp (h : zHp) (b sp e dp n a c : Nat) : zgi (zcp h b sp e dp n) a c = if a = e ∧ dp ≤ c ∧ c < dp + n then zgi h b (sp + (c - dp)) else zgi h a c := rfl
/-- heaps alike in the plans, the places now and all ahead of them -/
def zLo (h h' : zHp) : Prop := h'.1 = h.1 ∧ h'.2.2 = h.2.2 ∧ ∀ x y, x ≤ 45 → zgi h' x y = zgi h x y
section ZLO
variable {h h' : zHp} {d p : Nat}
theorem zLo.gz (a : zLo h h') {x : Nat} (hx : x ≤ 45) (y : Nat) : gz h' x y = gz h x y := congrArg Int32.toInt (a.2.2 x y hx)
theorem zLo.gl (a : zLo h h') (x y : Nat) : zgl h' x y = zgl h x y := by unfold zgl; rw [a.2.1]
theorem zLo.PV (a : zLo h h') (w : zCW h d p) (v : zPV h p) : zPV h' p := by
  have hdp := zc_dp w
  unfold zPV at v ⊢
  rw [a.gz (x := p) (by omega), a.gz (x := p) (by omega), a.gz (x := p) (by omega), a.gz (x := p) (by omega), a.gz (x := p) (by omega)]
  refine ⟨v.1, fun b hb => ?_, v.2.2.1, fun b hb => ?_, v.2.2.2.2.1, fun b hb => ?_, v.2.2.2.2.2.2.1, fun b hb => ?_, v.2.2.2.2.2.2.2.2⟩
  · rw [a.gz (x := p + 2) (by omega), a.gz (x := p + 4) (by omega), a.gz (x := p + 5) (by omega), a.gz (x := p + 6) (by omega)]
    exact v.2.1 b hb
  · rw [a.gz (x := p + 7) (by omega)]
    exact v.2.2.2.1 b hb
  · rw [a.gz (x := p + 9) (by omega)]
    exact v.2.2.2.2.2.1 b hb
  · rw [a.gz (x := p + 11) (by omega)]
    exact v.2.2.2.2.2.2.2.1 b hb
theorem zLo.NV (a : zLo h h') (u : zNV h) : zNV h' := by
  unfold zNV at u ⊢
  rw [a.gz (x := 45) (by omega)]
  refine ⟨fun b hb => ?_, fun b hb => ?_, u.2.2⟩
  · rw [a.gz (x := 45) (by omega)]
    exact u.1 b hb
  · rw [a.gz (x := 45) (by omega)]
    exact u.2.1 b hb
theorem zLo.cl (a : zLo h h') (w : zCW h d p) (x y : Int) : zcl h' p x y = zcl h p x y := by
  have hdp := zc_dp w
  funext b
  unfold zcl
  rw [a.gz (x := p + 2) (by omega), a.gz (x := 45) (by omega)]
theorem zLo.n (a : zLo h h') (w : zCW h d p) : zn h' p = zn h p := by
  have hdp := zc_dp w
  unfold zn
  rw [a.gz (x := p) (by omega)]
theorem zLo.S (a : zLo h h') (w : zCW h d p) : zS h' p = zS h p := by
  have hdp := zc_dp w
  funext b
  exact a.gz (x := p + 2) (by omega) b
theorem zLo.T (a : zLo h h') (w : zCW h d p) (x y c : Int) : zT h' p x y c = zT h p x y c := by
  unfold zT
  rw [a.S w, a.cl w, a.n w]
theorem zLo.st2 (a : zLo h h') (w : zCW h d p) (q : Int) : zst2 h' p q = zst2 h p q := by
  unfold zst2
  rw [a.T w, a.S w]
end ZLO
section ZAC
variable {X : Nat × (Nat → Int32)} {R : zRt} {h : zHp} {d p q : Nat}
theorem cc_told {P : Prop} {n : Int} (w : zCW h d p) (k1 : P → R (some (.int (zj 1))) (zpi h 16 5 (zj 0))) (k2 : ¬ P → R (some (.int (zj 0))) (zpi h 16 5 (zj n))) : zCC X M_X7_told [.ref 16, .int (zb P), .int (zj n)] h R := by
  refine zCC_of (ls := [.ref 16, .int (zb P), .int (zj n)]) pf_X7_told rfl (Nat.le_of_ble_eq_true rfl) ?_
  refine vb_X7_told_0 _ _ _ ?_
  simp only [B_X7_told_0, oPI, oPL, oILOAD, oLLOAD, oALOAD, oISTORE, oASTORE, oLSTORE, oIINC, oIADD, oISUB, oIMUL, oIAND, oIOR, oIXOR, oIDIV, oIREM, oISHL, oISHR, oIUSHR, oLADD, oLSUB, oLMUL, oLOR, oLDIV, oLREM, oLCMP, oLSHL, oINEG, oI2L, oL2I, oI2B, oI2C, oDUP, oPOP, oDUP2, oIFEQ, oICEQ, oIFNE, oICNE, oIFLT, oICLT, oIFGE, oICGE, oIFGT, oICGT, oIFLE, oICLE, oIFNULL, oIFNONNULL, oTSW, oLSW, oGETI, oGETL, oGETR, oPUTI, oPUTZ, oPUTL, oPUTR, oIALD, oBALD, oZALD, oLALD, oAALD, oALEN, oIAST, oBAST, oZAST, oLAST, oIRET, oZRET, oLRET, oVRET, oARET, oOBJ, oINI, oPS, oNEW, oNEWAI, oNEWAB, oNEWAZ, oNEWAL, oCOPY, oINV0, oINS0, oINV1, oINS1, oINV2, oINS2, oINV3, oINS3, oINV4, oINS4, oINV5, oINS5, oINV6, oINS6, List.getElem?_cons_zero, List.getElem?_cons_succ, List.set_cons_zero, List.set_cons_succ, znl, zs4, zc1, true_and, and_self, Value.category, Option.toList, List.cons_append, List.nil_append, zvr, zc_s16 w, zc_s17 w, zc_s18 w, zc_s19 w, zc_s32 w, zc_s45 w, zc_s46 w, zc_s47 w, zc_s64 w, zc_s68 w, zc_s69 w, zc_s76 w, zc_s77 w, zc_r16_0 w, zc_r16_1 w, zc_r16_2 w, zc_r16_3 w, zc_r16_4 w, zc_r17_0 w, zc_r17_1 w, zc_r18_0 w, zc_r32_0 w, zc_r32_1 w, zc_r46_0 w, zc_r46_1 w, zc_r68_0 w, zc_r68_1 w]
  simp only [zb_0, zb_z, Classical.not_not]
  refine ⟨fun c => ?_, fun c => ?_⟩
  · refine vb_X7_told_9 _ _ _ ?_
    simp only [B_X7_told_9, oPI, oPL, oILOAD, oLLOAD, oALOAD, oISTORE, oASTORE, oLSTORE, oIINC, oIADD, oISUB, oIMUL, oIAND, oIOR, oIXOR, oIDIV, oIREM, oISHL, oISHR, oIUSHR, oLADD, oLSUB, oLMUL, oLOR, oLDIV, oLREM, oLCMP, oLSHL, oINEG, oI2L, oL2I, oI2B, oI2C, oDUP, oPOP, oDUP2, oIFEQ, oICEQ, oIFNE, oICNE, oIFLT, oICLT, oIFGE, oICGE, oIFGT, oICGT, oIFLE, oICLE, oIFNULL, oIFNONNULL, oTSW, oLSW, oGETI, oGETL, oGETR, oPUTI, oPUTZ, oPUTL, oPUTR, oIALD, oBALD, oZALD, oLALD, oAALD, oALEN, oIAST, oBAST, oZAST, oLAST, oIRET, oZRET, oLRET, oVRET, oARET, oOBJ, oINI, oPS, oNEW, oNEWAI, oNEWAB, oNEWAZ, oNEWAL, oCOPY, oINV0, oINS0, oINV1, oINS1, oINV2, oINS2, oINV3, oINS3, oINV4, oINS4, oINV5, oINS5, oINV6, oINS6, List.getElem?_cons_zero, List.getElem?_cons_succ, List.set_cons_zero, List.set_cons_succ, znl, zs4, zc1, true_and, and_self, Value.category, Option.toList, List.cons_append, List.nil_append, zvr, zc_s16 w, zc_s17 w, zc_s18 w, zc_s19 w, zc_s32 w, zc_s45 w, zc_s46 w, zc_s47 w, zc_s64 w, zc_s68 w, zc_s69 w, zc_s76 w, zc_s77 w, zc_r16_0 w, zc_r16_1 w, zc_r16_2 w, zc_r16_3 w, zc_r16_4 w, zc_r17_0 w, zc_r17_1 w, zc_r18_0 w, zc_r32_0 w, zc_r32_1 w, zc_r46_0 w, zc_r46_1 w, zc_r68_0 w, zc_r68_1 w]
    refine vb_X7_told_10 _ _ _ ?_
    simp only [B_X7_told_10, oPI, oPL, oILOAD, oLLOAD, oALOAD, oISTORE, oASTORE, oLSTORE, oIINC, oIADD, oISUB, oIMUL, oIAND, oIOR, oIXOR, oIDIV, oIREM, oISHL, oISHR, oIUSHR, oLADD, oLSUB, oLMUL, oLOR, oLDIV, oLREM, oLCMP, oLSHL, oINEG, oI2L, oL2I, oI2B, oI2C, oDUP, oPOP, oDUP2, oIFEQ, oICEQ, oIFNE, oICNE, oIFLT, oICLT, oIFGE, oICGE, oIFGT, oICGT, oIFLE, oICLE, oIFNULL, oIFNONNULL, oTSW, oLSW, oGETI, oGETL, oGETR, oPUTI, oPUTZ, oPUTL, oPUTR, oIALD, oBALD, oZALD, oLALD, oAALD, oALEN, oIAST, oBAST, oZAST, oLAST, oIRET, oZRET, oLRET, oVRET, oARET, oOBJ, oINI, oPS, oNEW, oNEWAI, oNEWAB, oNEWAZ, oNEWAL, oCOPY, oINV0, oINS0, oINV1, oINS1, oINV2, oINS2, oINV3, oINS3, oINV4, oINS4, oINV5, oINS5, oINV6, oINS6, List.getElem?_cons_zero, List.getElem?_cons_succ, List.set_cons_zero, List.set_cons_succ, znl, zs4, zc1, true_and, and_self, Value.category, Option.toList, List.cons_append, List.nil_append, zvr, zc_s16 w, zc_s17 w, zc_s18 w, zc_s19 w, zc_s32 w, zc_s45 w, zc_s46 w, zc_s47 w, zc_s64 w, zc_s68 w, zc_s69 w, zc_s76 w, zc_s77 w, zc_r16_0 w, zc_r16_1 w, zc_r16_2 w, zc_r16_3 w, zc_r16_4 w, zc_r17_0 w, zc_r17_1 w, zc_r18_0 w, zc_r32_0 w, zc_r32_1 w, zc_r46_0 w, zc_r46_1 w, zc_r68_0 w, zc_r68_1 w]
    rw [zb_f c]
    exact ⟨(by first | exact Or.inl rfl | exact Or.inr rfl | simp), k2 c⟩
  · refine vb_X7_told_10 _ _ _ ?_
    simp only [B_X7_told_10, oPI, oPL, oILOAD, oLLOAD, oALOAD, oISTORE, oASTORE, oLSTORE, oIINC, oIADD, oISUB, oIMUL, oIAND, oIOR, oIXOR, oIDIV, oIREM, oISHL, oISHR, oIUSHR, oLADD, oLSUB, oLMUL, oLOR, oLDIV, oLREM, oLCMP, oLSHL, oINEG, oI2L, oL2I, oI2B, oI2C, oDUP, oPOP, oDUP2, oIFEQ, oICEQ, oIFNE, oICNE, oIFLT, oICLT, oIFGE, oICGE, oIFGT, oICGT, oIFLE, oICLE, oIFNULL, oIFNONNULL, oTSW, oLSW, oGETI, oGETL, oGETR, oPUTI, oPUTZ, oPUTL, oPUTR, oIALD, oBALD, oZALD, oLALD, oAALD, oALEN, oIAST, oBAST, oZAST, oLAST, oIRET, oZRET, oLRET, oVRET, oARET, oOBJ, oINI, oPS, oNEW, oNEWAI, oNEWAB, oNEWAZ, oNEWAL, oCOPY, oINV0, oINS0, oINV1, oINS1, oINV2, oINS2, oINV3, oINS3, oINV4, oINS4, oINV5, oINS5, oINV6, oINS6, List.getElem?_cons_zero, List.getElem?_cons_succ, List.set_cons_zero, List.set_cons_succ, znl, zs4, zc1, true_and, and_self, Value.category, Option.toList, List.cons_append, List.nil_append, zvr, zc_s16 w, zc_s17 w, zc_s18 w, zc_s19 w, zc_s32 w, zc_s45 w, zc_s46 w, zc_s47 w, zc_s64 w, zc_s68 w, zc_s69 w, zc_s76 w, zc_s77 w, zc_r16_0 w, zc_r16_1 w, zc_r16_2 w, zc_r16_3 w, zc_r16_4 w, zc_r17_0 w, zc_r17_1 w, zc_r18_0 w, zc_r32_0 w, zc_r32_1 w, zc_r46_0 w, zc_r46_1 w, zc_r68_0 w, zc_r68_1 w]
    rw [zb_t c]
    exact ⟨(by first | exact Or.inl rfl | exact Or.inr rfl | simp), k1 c⟩
theorem cc_passDays {n : Int} (w : zCW h d p) (k : R none (zpi h 45 14 (zj (gz h 45 14 + n)))) : zCC X M_X4_passDays [.ref 32, .int (zj n)] h R := by
  refine zCC_of (ls := [.ref 32, .int (zj n)]) pf_X4_passDays rfl (Nat.le_of_ble_eq_true rfl) ?_
  refine vb_X4_passDays_0 _ _ _ ?_
  simp only [B_X4_passDays_0, oPI, oPL, oILOAD, oLLOAD, oALOAD, oISTORE, oASTORE, oLSTORE, oIINC, oIADD, oISUB, oIMUL, oIAND, oIOR, oIXOR, oIDIV, oIREM, oISHL, oISHR, oIUSHR, oLADD, oLSUB, oLMUL, oLOR, oLDIV, oLREM, oLCMP, oLSHL, oINEG, oI2L, oL2I, oI2B, oI2C, oDUP, oPOP, oDUP2, oIFEQ, oICEQ, oIFNE, oICNE, oIFLT, oICLT, oIFGE, oICGE, oIFGT, oICGT, oIFLE, oICLE, oIFNULL, oIFNONNULL, oTSW, oLSW, oGETI, oGETL, oGETR, oPUTI, oPUTZ, oPUTL, oPUTR, oIALD, oBALD, oZALD, oLALD, oAALD, oALEN, oIAST, oBAST, oZAST, oLAST, oIRET, oZRET, oLRET, oVRET, oARET, oOBJ, oINI, oPS, oNEW, oNEWAI, oNEWAB, oNEWAZ, oNEWAL, oCOPY, oINV0, oINS0, oINV1, oINS1, oINV2, oINS2, oINV3, oINS3, oINV4, oINS4, oINV5, oINS5, oINV6, oINS6, List.getElem?_cons_zero, List.getElem?_cons_succ, List.set_cons_zero, List.set_cons_succ, znl, zs4, zc1, true_and, and_self, Value.category, Option.toList, List.cons_append, List.nil_append, zvr, zc_s16 w, zc_s17 w, zc_s18 w, zc_s19 w, zc_s32 w, zc_s45 w, zc_s46 w, zc_s47 w, zc_s64 w, zc_s68 w, zc_s69 w, zc_s76 w, zc_s77 w, zc_r16_0 w, zc_r16_1 w, zc_r16_2 w, zc_r16_3 w, zc_r16_4 w, zc_r17_0 w, zc_r17_1 w, zc_r18_0 w, zc_r32_0 w, zc_r32_1 w, zc_r46_0 w, zc_r46_1 w, zc_r68_0 w, zc_r68_1 w]
  rw [zj_nat (by omega) (by omega)]
  try simp (disch := omega) only [zgi_gz, zj_cn, zj_lt, zj_le, zj_eq, zj_add, zj_sub, zj_mul, zj_neg, zj_lt0, zj_le0, zj_0le, zj_0lt, zj_eq0]
  exact ⟨zj_in (by omega) (by omega) (by omega), zj_in (by omega) (by omega) (by omega), k⟩
/-- what remembers: how many acts, the next row, how many images -/
def zMV (h : zHp) : Prop := (0 ≤ gz h 46 2 ∧ gz h 46 2 ≤ 16) ∧ (0 ≤ gz h 46 3 ∧ gz h 46 3 < 16) ∧ 0 ≤ gz h 46 4 ∧ gz h 46 4 ≤ 3
noncomputable def zka (h : zHp) : zHp := zpi (zpi (zcp h 45 0 (48 + (gz h 46 3).toNat) 0 15) 46 3 (zj ((gz h 46 3 + 1) % 16))) 46 2 (zj (min (gz h 46 2 + 1) 16))
theorem zka_lo (h : zHp) : zLo h (zka h) := by
  refine ⟨rfl, rfl, fun x y hx => ?_⟩
  unfold zka
  rw [zgi_pi, if_neg (by omega), zgi_pi, if_neg (by omega), zgi_cp, if_neg (by omega)]
theorem cc_keepAct (w : zCW h d p) (m : zMV h) (k : R none (zka h)) : zCC X M_X0_keepAct [.ref 46, .ref 45] h R := by
  obtain ⟨m1, m2, m3⟩ := m
  obtain ⟨na, hna⟩ : ∃ q : Nat, gz h 46 3 = q := ⟨(gz h 46 3).toNat, by omega⟩
  have wa := zc_act w na (by omega)
  unfold zka at k
  rw [hna] at k
  have e1 : zgi h 46 3 = zj na := by rw [zgi_gz, hna]
  refine zCC_of (ls := [.ref 46, .ref 45]) pf_X0_keepAct rfl (Nat.le_of_ble_eq_true rfl) ?_
  refine vb_X0_keepAct_0 _ _ _ ?_
  simp only [B_X0_keepAct_0, oPI, oPL, oILOAD, oLLOAD, oALOAD, oISTORE, oASTORE, oLSTORE, oIINC, oIADD, oISUB, oIMUL, oIAND, oIOR, oIXOR, oIDIV, oIREM, oISHL, oISHR, oIUSHR, oLADD, oLSUB, oLMUL, oLOR, oLDIV, oLREM, oLCMP, oLSHL, oINEG, oI2L, oL2I, oI2B, oI2C, oDUP, oPOP, oDUP2, oIFEQ, oICEQ, oIFNE, oICNE, oIFLT, oICLT, oIFGE, oICGE, oIFGT, oICGT, oIFLE, oICLE, oIFNULL, oIFNONNULL, oTSW, oLSW, oGETI, oGETL, oGETR, oPUTI, oPUTZ, oPUTL, oPUTR, oIALD, oBALD, oZALD, oLALD, oAALD, oALEN, oIAST, oBAST, oZAST, oLAST, oIRET, oZRET, oLRET, oVRET, oARET, oOBJ, oINI, oPS, oNEW, oNEWAI, oNEWAB, oNEWAZ, oNEWAL, oCOPY, oINV0, oINS0, oINV1, oINS1, oINV2, oINS2, oINV3, oINS3, oINV4, oINS4, oINV5, oINS5, oINV6, oINS6, List.getElem?_cons_zero, List.getElem?_cons_succ, List.set_cons_zero, List.set_cons_succ, znl, zs4, zc1, true_and, and_self, Value.category, Option.toList, List.cons_append, List.nil_append, zvr, zc_s16 w, zc_s17 w, zc_s18 w, zc_s19 w, zc_s32 w, zc_s45 w, zc_s46 w, zc_s47 w, zc_s64 w, zc_s68 w, zc_s69 w, zc_s76 w, zc_s77 w, zc_r16_0 w, zc_r16_1 w, zc_r16_2 w, zc_r16_3 w, zc_r16_4 w, zc_r17_0 w, zc_r17_1 w, zc_r18_0 w, zc_r32_0 w, zc_r32_1 w, zc_r46_0 w, zc_r46_1 w, zc_r68_0 w, zc_r68_1 w, e1, zj_cn (show na < 2147483648 by omega), wa.1, wa.2]
  have z0 : (zj 0).toNatClampNeg = 0 := rfl
  have z15 : (zj 15).toNatClampNeg = 15 := rfl
  have e3 : ∀ j, zgi (zcp h 45 0 (48 + na) 0 15) 46 j = zgi h 46 j := fun j => if_neg (by omega)
  have e4 : (zj (na : Int) + zj 1) % zj 16 = zj (((na : Int) + 1) % 16) := by rw [zj_add, zj_rem (by omega) (by omega) (by omega) (by omega), z_tmod_nn (by omega)]
  simp only [z0, z15, zsh_cp, zsh_pi, zc_s16 w, zc_s17 w, zc_s18 w, zc_s19 w, zc_s32 w, zc_s45 w, zc_s46 w, zc_s47 w, zc_s64 w, zc_s68 w, zc_s69 w, zc_s76 w, zc_s77 w, zc_r16_0 w, zc_r16_1 w, zc_r16_2 w, zc_r16_3 w, zc_r16_4 w, zc_r17_0 w, zc_r17_1 w, zc_r18_0 w, zc_r32_0 w, zc_r32_1 w, zc_r46_0 w, zc_r46_1 w, zc_r68_0 w, zc_r68_1 w, true_and, e3, e1, e4]
  refine ⟨zj_in (by omega) (by omega) (by omega), ⟨by decide, by decide, by decide, by omega⟩, z_lit (by omega) (by omega) (by omega), ?_⟩
  have e5 : zgi (zpi (zcp h 45 0 (48 + na) 0 15) 46 3 (zj (((na : Int) + 1) % 16))) 46 2 = zj (gz h 46 2) := by rw [zgi_pi, if_neg (by omega), e3, zgi_gz]
  rw [e5, zj_add]
  refine cc_min (by omega) (by omega) (by omega) (by omega) ?_
  simp only [oPI, oPL, oILOAD, oLLOAD, oALOAD, oISTORE, oASTORE, oLSTORE, oIINC, oIADD, oISUB, oIMUL, oIAND, oIOR, oIXOR, oIDIV, oIREM, oISHL, oISHR, oIUSHR, oLADD, oLSUB, oLMUL, oLOR, oLDIV, oLREM, oLCMP, oLSHL, oINEG, oI2L, oL2I, oI2B, oI2C, oDUP, oPOP, oDUP2, oIFEQ, oICEQ, oIFNE, oICNE, oIFLT, oICLT, oIFGE, oICGE, oIFGT, oICGT, oIFLE, oICLE, oIFNULL, oIFNONNULL, oTSW, oLSW, oGETI, oGETL, oGETR, oPUTI, oPUTZ, oPUTL, oPUTR, oIALD, oBALD, oZALD, oLALD, oAALD, oALEN, oIAST, oBAST, oZAST, oLAST, oIRET, oZRET, oLRET, oVRET, oARET, oOBJ, oINI, oPS, oNEW, oNEWAI, oNEWAB, oNEWAZ, oNEWAL, oCOPY, oINV0, oINS0, oINV1, oINS1, oINV2, oINS2, oINV3, oINS3, oINV4, oINS4, oINV5, oINS5, oINV6, oINS6, List.getElem?_cons_zero, List.getElem?_cons_succ, List.set_cons_zero, List.set_cons_succ, znl, zs4, zc1, true_and, and_self, Value.category, Option.toList, List.cons_append, List.nil_append, zvr, zsh_cp, zsh_pi, zc_s16 w, zc_s17 w, zc_s18 w, zc_s19 w, zc_s32 w, zc_s45 w, zc_s46 w, zc_s47 w, zc_s64 w, zc_s68 w, zc_s69 w, zc_s76 w, zc_s77 w, zc_r16_0 w, zc_r16_1 w, zc_r16_2 w, zc_r16_3 w, zc_r16_4 w, zc_r17_0 w, zc_r17_1 w, zc_r18_0 w, zc_r32_0 w, zc_r32_1 w, zc_r46_0 w, zc_r46_1 w, zc_r68_0 w, zc_r68_1 w]
  rw [show (if gz h 46 2 + 1 ≤ 16 then gz h 46 2 + 1 else 16) = min (gz h 46 2 + 1) 16 by split <;> omega]
  exact k
theorem cc_stepPerson {i : Nat} {up : Prop} [Decidable up] (w : zCW h d p) (v : zPV h p) (u : zNV h) (hi : i < 4) (k : R (some (.int (zj (zst2 h p (znb (gz h 45 (6 + i)) up))))) (zpi (zpi h 45 (6 + i) (zj (znb (gz h 45 (6 + i)) up))) 45 (10 + i) (zgi h 45 (10 + i) + zj (zst2 h p (znb (gz h 45 (6 + i)) up))))) : zCC X M_X4_stepPerson [.ref 32, .int (zj i), .int (zb up)] h R := by
  have hsp := u.2.1 i hi
  have hnb : 0 ≤ znb (gz h 45 (6 + i)) up ∧ znb (gz h 45 (6 + i)) up < 72 := by unfold znb; split <;> omega
  refine zCC_of (ls := [.ref 32, .int (zj i), .int (zb up), .retAddr 0, .retAddr 0]) pf_X4_stepPerson rfl (Nat.le_of_ble_eq_true rfl) ?_
  refine vb_X4_stepPerson_0 _ _ _ ?_
  simp only [B_X4_stepPerson_0, oPI, oPL, oILOAD, oLLOAD, oALOAD, oISTORE, oASTORE, oLSTORE, oIINC, oIADD, oISUB, oIMUL, oIAND, oIOR, oIXOR, oIDIV, oIREM, oISHL, oISHR, oIUSHR, oLADD, oLSUB, oLMUL, oLOR, oLDIV, oLREM, oLCMP, oLSHL, oINEG, oI2L, oL2I, oI2B, oI2C, oDUP, oPOP, oDUP2, oIFEQ, oICEQ, oIFNE, oICNE, oIFLT, oICLT, oIFGE, oICGE, oIFGT, oICGT, oIFLE, oICLE, oIFNULL, oIFNONNULL, oTSW, oLSW, oGETI, oGETL, oGETR, oPUTI, oPUTZ, oPUTL, oPUTR, oIALD, oBALD, oZALD, oLALD, oAALD, oALEN, oIAST, oBAST, oZAST, oLAST, oIRET, oZRET, oLRET, oVRET, oARET, oOBJ, oINI, oPS, oNEW, oNEWAI, oNEWAB, oNEWAZ, oNEWAL, oCOPY, oINV0, oINS0, oINV1, oINS1, oINV2, oINS2, oINV3, oINS3, oINV4, oINS4, oINV5, oINS5, oINV6, oINS6, List.getElem?_cons_zero, List.getElem?_cons_succ, List.set_cons_zero, List.set_cons_succ, znl, zs4, zc1, true_and, and_self, Value.category, Option.toList, List.cons_append, List.nil_append, zvr, zc_s16 w, zc_s17 w, zc_s18 w, zc_s19 w, zc_s32 w, zc_s45 w, zc_s46 w, zc_s47 w, zc_s64 w, zc_s68 w, zc_s69 w, zc_s76 w, zc_s77 w, zc_r16_0 w, zc_r16_1 w, zc_r16_2 w, zc_r16_3 w, zc_r16_4 w, zc_r17_0 w, zc_r17_1 w, zc_r18_0 w, zc_r32_0 w, zc_r32_1 w, zc_r46_0 w, zc_r46_1 w, zc_r68_0 w, zc_r68_1 w]
  refine cc_spotOf w hi ?_
  simp only [oPI, oPL, oILOAD, oLLOAD, oALOAD, oISTORE, oASTORE, oLSTORE, oIINC, oIADD, oISUB, oIMUL, oIAND, oIOR, oIXOR, oIDIV, oIREM, oISHL, oISHR, oIUSHR, oLADD, oLSUB, oLMUL, oLOR, oLDIV, oLREM, oLCMP, oLSHL, oINEG, oI2L, oL2I, oI2B, oI2C, oDUP, oPOP, oDUP2, oIFEQ, oICEQ, oIFNE, oICNE, oIFLT, oICLT, oIFGE, oICGE, oIFGT, oICGT, oIFLE, oICLE, oIFNULL, oIFNONNULL, oTSW, oLSW, oGETI, oGETL, oGETR, oPUTI, oPUTZ, oPUTL, oPUTR, oIALD, oBALD, oZALD, oLALD, oAALD, oALEN, oIAST, oBAST, oZAST, oLAST, oIRET, oZRET, oLRET, oVRET, oARET, oOBJ, oINI, oPS, oNEW, oNEWAI, oNEWAB, oNEWAZ, oNEWAL, oCOPY, oINV0, oINS0, oINV1, oINS1, oINV2, oINS2, oINV3, oINS3, oINV4, oINS4, oINV5, oINS5, oINV6, oINS6, List.getElem?_cons_zero, List.getElem?_cons_succ, List.set_cons_zero, List.set_cons_succ, znl, zs4, zc1, true_and, and_self, Value.category, Option.toList, List.cons_append, List.nil_append, zvr, zc_s16 w, zc_s17 w, zc_s18 w, zc_s19 w, zc_s32 w, zc_s45 w, zc_s46 w, zc_s47 w, zc_s64 w, zc_s68 w, zc_s69 w, zc_s76 w, zc_s77 w, zc_r16_0 w, zc_r16_1 w, zc_r16_2 w, zc_r16_3 w, zc_r16_4 w, zc_r17_0 w, zc_r17_1 w, zc_r18_0 w, zc_r32_0 w, zc_r32_1 w, zc_r46_0 w, zc_r46_1 w, zc_r68_0 w, zc_r68_1 w]
  refine cc_spotBeside hsp.1 hsp.2 ?_
  simp only [oPI, oPL, oILOAD, oLLOAD, oALOAD, oISTORE, oASTORE, oLSTORE, oIINC, oIADD, oISUB, oIMUL, oIAND, oIOR, oIXOR, oIDIV, oIREM, oISHL, oISHR, oIUSHR, oLADD, oLSUB, oLMUL, oLOR, oLDIV, oLREM, oLCMP, oLSHL, oINEG, oI2L, oL2I, oI2B, oI2C, oDUP, oPOP, oDUP2, oIFEQ, oICEQ, oIFNE, oICNE, oIFLT, oICLT, oIFGE, oICGE, oIFGT, oICGT, oIFLE, oICLE, oIFNULL, oIFNONNULL, oTSW, oLSW, oGETI, oGETL, oGETR, oPUTI, oPUTZ, oPUTL, oPUTR, oIALD, oBALD, oZALD, oLALD, oAALD, oALEN, oIAST, oBAST, oZAST, oLAST, oIRET, oZRET, oLRET, oVRET, oARET, oOBJ, oINI, oPS, oNEW, oNEWAI, oNEWAB, oNEWAZ, oNEWAL, oCOPY, oINV0, oINS0, oINV1, oINS1, oINV2, oINS2, oINV3, oINS3, oINV4, oINS4, oINV5, oINS5, oINV6, oINS6, List.getElem?_cons_zero, List.getElem?_cons_succ, List.set_cons_zero, List.set_cons_succ, znl, zs4, zc1, true_and, and_self, Value.category, Option.toList, List.cons_append, List.nil_append, zvr, zc_s16 w, zc_s17 w, zc_s18 w, zc_s19 w, zc_s32 w, zc_s45 w, zc_s46 w, zc_s47 w, zc_s64 w, zc_s68 w, zc_s69 w, zc_s76 w, zc_s77 w, zc_r16_0 w, zc_r16_1 w, zc_r16_2 w, zc_r16_3 w, zc_r16_4 w, zc_r17_0 w, zc_r17_1 w, zc_r18_0 w, zc_r32_0 w, zc_r32_1 w, zc_r46_0 w, zc_r46_1 w, zc_r68_0 w, zc_r68_1 w]
  refine cc_stepInto w v u hnb.1 hnb.2 ?_
  have e6 : (zj 6 + zj (i : Int)).toNatClampNeg = 6 + i := by rw [zj_add, zj_nat (by omega) (by omega)]; omega
  have e10 : (zj 10 + zj (i : Int)).toNatClampNeg = 10 + i := by rw [zj_add, zj_nat (by omega) (by omega)]; omega
  have v6 : vp_in (zj 6 + zj (i : Int)) 15 := by rw [zj_add]; exact zj_in (by omega) (by omega) (by omega)
  have v10 : vp_in (zj 10 + zj (i : Int)) 15 := by rw [zj_add]; exact zj_in (by omega) (by omega) (by omega)
  have e7 : zgi (zpi h 45 (6 + i) (zj (znb (gz h 45 (6 + i)) up))) 45 (10 + i) = zgi h 45 (10 + i) := by rw [zgi_pi, if_neg (by omega)]
  simp only [oPI, oPL, oILOAD, oLLOAD, oALOAD, oISTORE, oASTORE, oLSTORE, oIINC, oIADD, oISUB, oIMUL, oIAND, oIOR, oIXOR, oIDIV, oIREM, oISHL, oISHR, oIUSHR, oLADD, oLSUB, oLMUL, oLOR, oLDIV, oLREM, oLCMP, oLSHL, oINEG, oI2L, oL2I, oI2B, oI2C, oDUP, oPOP, oDUP2, oIFEQ, oICEQ, oIFNE, oICNE, oIFLT, oICLT, oIFGE, oICGE, oIFGT, oICGT, oIFLE, oICLE, oIFNULL, oIFNONNULL, oTSW, oLSW, oGETI, oGETL, oGETR, oPUTI, oPUTZ, oPUTL, oPUTR, oIALD, oBALD, oZALD, oLALD, oAALD, oALEN, oIAST, oBAST, oZAST, oLAST, oIRET, oZRET, oLRET, oVRET, oARET, oOBJ, oINI, oPS, oNEW, oNEWAI, oNEWAB, oNEWAZ, oNEWAL, oCOPY, oINV0, oINS0, oINV1, oINS1, oINV2, oINS2, oINV3, oINS3, oINV4, oINS4, oINV5, oINS5, oINV6, oINS6, List.getElem?_cons_zero, List.getElem?_cons_succ, List.set_cons_zero, List.set_cons_succ, znl, zs4, zc1, true_and, and_self, Value.category, Option.toList, List.cons_append, List.nil_append, zvr, zc_s16 w, zc_s17 w, zc_s18 w, zc_s19 w, zc_s32 w, zc_s45 w, zc_s46 w, zc_s47 w, zc_s64 w, zc_s68 w, zc_s69 w, zc_s76 w, zc_s77 w, zc_r16_0 w, zc_r16_1 w, zc_r16_2 w, zc_r16_3 w, zc_r16_4 w, zc_r17_0 w, zc_r17_1 w, zc_r18_0 w, zc_r32_0 w, zc_r32_1 w, zc_r46_0 w, zc_r46_1 w, zc_r68_0 w, zc_r68_1 w, zsh_pi, zgr_pi, e6, e10, e7]
  exact ⟨v6, v10, v10, k⟩
theorem cc_undoInto (w : zCW h d p) (m : zMV h) (k0 : gz h 46 2 = 0 → R (some (.int (zj 0))) h) (k1 : ¬ gz h 46 2 = 0 → R (some (.int (zj 1))) (zcp (zpi (zpi h 46 2 (zj (gz h 46 2 - 1))) 46 3 (zj ((gz h 46 3 + 15) % 16))) (48 + ((gz h 46 3 + 15) % 16).toNat) 0 45 0 15)) : zCC X M_X0_undoInto [.ref 46, .ref 45] h R := by
  obtain ⟨m1, m2, m3⟩ := m
  have z0 : (zj 0).toNatClampNeg = 0 := rfl
  have z15 : (zj 15).toNatClampNeg = 15 := rfl
  refine zCC_of (ls := [.ref 46, .ref 45]) pf_X0_undoInto rfl (Nat.le_of_ble_eq_true rfl) ?_
  refine vb_X0_undoInto_0 _ _ _ ?_
  simp only [B_X0_undoInto_0, oPI, oPL, oILOAD, oLLOAD, oALOAD, oISTORE, oASTORE, oLSTORE, oIINC, oIADD, oISUB, oIMUL, oIAND, oIOR, oIXOR, oIDIV, oIREM, oISHL, oISHR, oIUSHR, oLADD, oLSUB, oLMUL, oLOR, oLDIV, oLREM, oLCMP, oLSHL, oINEG, oI2L, oL2I, oI2B, oI2C, oDUP, oPOP, oDUP2, oIFEQ, oICEQ, oIFNE, oICNE, oIFLT, oICLT, oIFGE, oICGE, oIFGT, oICGT, oIFLE, oICLE, oIFNULL, oIFNONNULL, oTSW, oLSW, oGETI, oGETL, oGETR, oPUTI, oPUTZ, oPUTL, oPUTR, oIALD, oBALD, oZALD, oLALD, oAALD, oALEN, oIAST, oBAST, oZAST, oLAST, oIRET, oZRET, oLRET, oVRET, oARET, oOBJ, oINI, oPS, oNEW, oNEWAI, oNEWAB, oNEWAZ, oNEWAL, oCOPY, oINV0, oINS0, oINV1, oINS1, oINV2, oINS2, oINV3, oINS3, oINV4, oINS4, oINV5, oINS5, oINV6, oINS6, List.getElem?_cons_zero, List.getElem?_cons_succ, List.set_cons_zero, List.set_cons_succ, znl, zs4, zc1, true_and, and_self, Value.category, Option.toList, List.cons_append, List.nil_append, zvr, zc_s16 w, zc_s17 w, zc_s18 w, zc_s19 w, zc_s32 w, zc_s45 w, zc_s46 w, zc_s47 w, zc_s64 w, zc_s68 w, zc_s69 w, zc_s76 w, zc_s77 w, zc_r16_0 w, zc_r16_1 w, zc_r16_2 w, zc_r16_3 w, zc_r16_4 w, zc_r17_0 w, zc_r17_1 w, zc_r18_0 w, zc_r32_0 w, zc_r32_1 w, zc_r46_0 w, zc_r46_1 w, zc_r68_0 w, zc_r68_1 w]
  try simp (disch := omega) only [zgi_gz, zj_cn, zj_lt, zj_le, zj_eq, zj_add, zj_sub, zj_mul, zj_neg, zj_lt0, zj_le0, zj_0le, zj_0lt, zj_eq0]
  refine ⟨fun c => ?_, fun c => ⟨(by first | exact Or.inl rfl | exact Or.inr rfl | simp), k0 c⟩⟩
  have k := k1 c
  obtain ⟨nb, hnb⟩ : ∃ q : Nat, (gz h 46 3 + 15) % 16 = q := ⟨((gz h 46 3 + 15) % 16).toNat, by omega⟩
  have wa := zc_act w nb (by omega)
  rw [hnb] at k
  have e5 : zgi (zpi h 46 2 (zj (gz h 46 2 - 1))) 46 3 = zj (gz h 46 3) := by rw [zgi_pi, if_neg (by omega), zgi_gz]
  have e6 : (zj (gz h 46 3) + zj 16 - zj 1) % zj 16 = zj nb := by rw [zj_add, zj_sub, zj_rem (by omega) (by omega) (by omega) (by omega), z_tmod_nn (by omega), show gz h 46 3 + 16 - 1 = gz h 46 3 + 15 by omega, hnb]
  have e7 : zgi (zpi (zpi h 46 2 (zj (gz h 46 2 - 1))) 46 3 (zj nb)) 46 3 = zj nb := by rw [zgi_pi, if_pos ⟨rfl, rfl⟩]
  have e8 : zgi h 46 2 - zj 1 = zj (gz h 46 2 - 1) := by rw [zgi_gz, zj_sub]
  refine vb_X0_undoInto_9 _ _ _ ?_
  simp only [B_X0_undoInto_9, oPI, oPL, oILOAD, oLLOAD, oALOAD, oISTORE, oASTORE, oLSTORE, oIINC, oIADD, oISUB, oIMUL, oIAND, oIOR, oIXOR, oIDIV, oIREM, oISHL, oISHR, oIUSHR, oLADD, oLSUB, oLMUL, oLOR, oLDIV, oLREM, oLCMP, oLSHL, oINEG, oI2L, oL2I, oI2B, oI2C, oDUP, oPOP, oDUP2, oIFEQ, oICEQ, oIFNE, oICNE, oIFLT, oICLT, oIFGE, oICGE, oIFGT, oICGT, oIFLE, oICLE, oIFNULL, oIFNONNULL, oTSW, oLSW, oGETI, oGETL, oGETR, oPUTI, oPUTZ, oPUTL, oPUTR, oIALD, oBALD, oZALD, oLALD, oAALD, oALEN, oIAST, oBAST, oZAST, oLAST, oIRET, oZRET, oLRET, oVRET, oARET, oOBJ, oINI, oPS, oNEW, oNEWAI, oNEWAB, oNEWAZ, oNEWAL, oCOPY, oINV0, oINS0, oINV1, oINS1, oINV2, oINS2, oINV3, oINS3, oINV4, oINS4, oINV5, oINS5, oINV6, oINS6, List.getElem?_cons_zero, List.getElem?_cons_succ, List.set_cons_zero, List.set_cons_succ, znl, zs4, zc1, true_and, and_self, Value.category, Option.toList, List.cons_append, List.nil_append, zvr, zc_s16 w, zc_s17 w, zc_s18 w, zc_s19 w, zc_s32 w, zc_s45 w, zc_s46 w, zc_s47 w, zc_s64 w, zc_s68 w, zc_s69 w, zc_s76 w, zc_s77 w, zc_r16_0 w, zc_r16_1 w, zc_r16_2 w, zc_r16_3 w, zc_r16_4 w, zc_r17_0 w, zc_r17_1 w, zc_r18_0 w, zc_r32_0 w, zc_r32_1 w, zc_r46_0 w, zc_r46_1 w, zc_r68_0 w, zc_r68_1 w, zsh_pi, zgr_pi, e8, e5, e6, e7, zj_cn (show nb < 2147483648 by omega), wa.1, wa.2, z0, z15]
  exact ⟨z_lit (by omega) (by omega) (by omega), zj_in (by omega) (by omega) (by omega), ⟨by decide, by decide, by decide, by omega⟩, (by first | exact Or.inl rfl | exact Or.inr rfl | simp), k⟩
theorem cc_turnAll {a : Int} (w : zCW h d p) (v : zPV h p) (u : zNV h) (h1 : -6 ≤ a) (h2 : a ≤ 6) (k : R none (zwr h 45 (fun b => zj (zcl h p a (a.tdiv 2) b)) (zn h p))) : zCC X M_X4_turnAll [.ref 32, .int (zj a)] h R := by
  have hbt := v.1
  have hdp := zc_dp w
  have hd2 := z_tdiv2 a
  obtain ⟨m, hm⟩ : ∃ m : Nat, gz h p 1 = m := ⟨(gz h p 1).toNat, by omega⟩
  rw [show zn h p = m by unfold zn; omega] at k
  refine zCC_of (ls := [.ref 32, .int (zj a), .retAddr 0]) pf_X4_turnAll rfl (Nat.le_of_ble_eq_true rfl) ?_
  refine vb_X4_turnAll_0 _ _ _ ?_
  simp only [B_X4_turnAll_0, oPI, oPL, oILOAD, oLLOAD, oALOAD, oISTORE, oASTORE, oLSTORE, oIINC, oIADD, oISUB, oIMUL, oIAND, oIOR, oIXOR, oIDIV, oIREM, oISHL, oISHR, oIUSHR, oLADD, oLSUB, oLMUL, oLOR, oLDIV, oLREM, oLCMP, oLSHL, oINEG, oI2L, oL2I, oI2B, oI2C, oDUP, oPOP, oDUP2, oIFEQ, oICEQ, oIFNE, oICNE, oIFLT, oICLT, oIFGE, oICGE, oIFGT, oICGT, oIFLE, oICLE, oIFNULL, oIFNONNULL, oTSW, oLSW, oGETI, oGETL, oGETR, oPUTI, oPUTZ, oPUTL, oPUTR, oIALD, oBALD, oZALD, oLALD, oAALD, oALEN, oIAST, oBAST, oZAST, oLAST, oIRET, oZRET, oLRET, oVRET, oARET, oOBJ, oINI, oPS, oNEW, oNEWAI, oNEWAB, oNEWAZ, oNEWAL, oCOPY, oINV0, oINS0, oINV1, oINS1, oINV2, oINS2, oINV3, oINS3, oINV4, oINS4, oINV5, oINS5, oINV6, oINS6, List.getElem?_cons_zero, List.getElem?_cons_succ, List.set_cons_zero, List.set_cons_succ, znl, zs4, zc1, true_and, and_self, Value.category, Option.toList, List.cons_append, List.nil_append, zvr, zc_s16 w, zc_s17 w, zc_s18 w, zc_s19 w, zc_s32 w, zc_s45 w, zc_s46 w, zc_s47 w, zc_s64 w, zc_s68 w, zc_s69 w, zc_s76 w, zc_s77 w, zc_r16_0 w, zc_r16_1 w, zc_r16_2 w, zc_r16_3 w, zc_r16_4 w, zc_r17_0 w, zc_r17_1 w, zc_r18_0 w, zc_r32_0 w, zc_r32_1 w, zc_r46_0 w, zc_r46_1 w, zc_r68_0 w, zc_r68_1 w]
  have key : ∀ i : Nat, i ≤ m → zV X M_X4_turnAll (zQm M_X4_turnAll R) 0 0 2 [.ref 32, .int (zj a), .int (zj i)] [] (zwr h 45 (fun b => zj (zcl h p a (a.tdiv 2) b)) i) := by
    refine zdown (P := fun i => zV X M_X4_turnAll (zQm M_X4_turnAll R) 0 0 2 [.ref 32, .int (zj a), .int (zj i)] [] (zwr h 45 (fun b => zj (zcl h p a (a.tdiv 2) b)) i)) (fun i hi ih => ?_)
    have ag : zAg h (zwr h 45 (fun b => zj (zcl h p a (a.tdiv 2) b)) i) 45 := zwr_ag _ _ _ _
    have w1 : zCW (zwr h 45 (fun b => zj (zcl h p a (a.tdiv 2) b)) i) d p := w
    have wp := zc_pp w1
    have hm1 : gz (zwr h 45 (fun b => zj (zcl h p a (a.tdiv 2) b)) i) p 1 = m := by rw [ag.gz (by omega)]; exact hm
    refine vb_X4_turnAll_2 _ _ _ ?_
    simp only [B_X4_turnAll_2, oPI, oPL, oILOAD, oLLOAD, oALOAD, oISTORE, oASTORE, oLSTORE, oIINC, oIADD, oISUB, oIMUL, oIAND, oIOR, oIXOR, oIDIV, oIREM, oISHL, oISHR, oIUSHR, oLADD, oLSUB, oLMUL, oLOR, oLDIV, oLREM, oLCMP, oLSHL, oINEG, oI2L, oL2I, oI2B, oI2C, oDUP, oPOP, oDUP2, oIFEQ, oICEQ, oIFNE, oICNE, oIFLT, oICLT, oIFGE, oICGE, oIFGT, oICGT, oIFLE, oICLE, oIFNULL, oIFNONNULL, oTSW, oLSW, oGETI, oGETL, oGETR, oPUTI, oPUTZ, oPUTL, oPUTR, oIALD, oBALD, oZALD, oLALD, oAALD, oALEN, oIAST, oBAST, oZAST, oLAST, oIRET, oZRET, oLRET, oVRET, oARET, oOBJ, oINI, oPS, oNEW, oNEWAI, oNEWAB, oNEWAZ, oNEWAL, oCOPY, oINV0, oINS0, oINV1, oINS1, oINV2, oINS2, oINV3, oINS3, oINV4, oINS4, oINV5, oINS5, oINV6, oINS6, List.getElem?_cons_zero, List.getElem?_cons_succ, List.set_cons_zero, List.set_cons_succ, znl, zs4, zc1, true_and, and_self, Value.category, Option.toList, List.cons_append, List.nil_append, zvr, zc_s16 w1, zc_s17 w1, zc_s18 w1, zc_s19 w1, zc_s32 w1, zc_s45 w1, zc_s46 w1, zc_s47 w1, zc_s64 w1, zc_s68 w1, zc_s69 w1, zc_s76 w1, zc_s77 w1, zc_r16_0 w1, zc_r16_1 w1, zc_r16_2 w1, zc_r16_3 w1, zc_r16_4 w1, zc_r17_0 w1, zc_r17_1 w1, zc_r18_0 w1, zc_r32_0 w1, zc_r32_1 w1, zc_r46_0 w1, zc_r46_1 w1, zc_r68_0 w1, zc_r68_1 w1, zp_s wp, zp_s1 wp, zp_r2 wp, zp_s2 wp, zp_r3 wp, zp_s3 wp, zp_r4 wp, zp_s4 wp, zp_r5 wp, zp_s5 wp, zp_r6 wp, zp_s6 wp, zp_r7 wp, zp_s7 wp, zp_r9 wp, zp_s8 wp, zp_r10 wp, zp_s9 wp, zp_r12 wp, zp_s10 wp, zp_r14 wp, zp_s11 wp, zp_r15 wp]
    try simp (disch := omega) only [zgi_gz, zj_cn, zj_lt, zj_le, zj_eq, zj_add, zj_sub, zj_mul, zj_neg, zj_lt0, zj_le0, zj_0le, zj_0lt, zj_eq0]
    rw [hm1]
    by_cases ci : i = m
    · subst ci
      try simp (disch := omega) only [zgi_gz, zj_cn, zj_lt, zj_le, zj_eq, zj_add, zj_sub, zj_mul, zj_neg, zj_lt0, zj_le0, zj_0le, zj_0lt, zj_eq0]
      refine ⟨fun _ => ?_, fun c => by omega⟩
      refine vb_X4_turnAll_35 _ _ _ ?_
      simp only [B_X4_turnAll_35, oPI, oPL, oILOAD, oLLOAD, oALOAD, oISTORE, oASTORE, oLSTORE, oIINC, oIADD, oISUB, oIMUL, oIAND, oIOR, oIXOR, oIDIV, oIREM, oISHL, oISHR, oIUSHR, oLADD, oLSUB, oLMUL, oLOR, oLDIV, oLREM, oLCMP, oLSHL, oINEG, oI2L, oL2I, oI2B, oI2C, oDUP, oPOP, oDUP2, oIFEQ, oICEQ, oIFNE, oICNE, oIFLT, oICLT, oIFGE, oICGE, oIFGT, oICGT, oIFLE, oICLE, oIFNULL, oIFNONNULL, oTSW, oLSW, oGETI, oGETL, oGETR, oPUTI, oPUTZ, oPUTL, oPUTR, oIALD, oBALD, oZALD, oLALD, oAALD, oALEN, oIAST, oBAST, oZAST, oLAST, oIRET, oZRET, oLRET, oVRET, oARET, oOBJ, oINI, oPS, oNEW, oNEWAI, oNEWAB, oNEWAZ, oNEWAL, oCOPY, oINV0, oINS0, oINV1, oINS1, oINV2, oINS2, oINV3, oINS3, oINV4, oINS4, oINV5, oINS5, oINV6, oINS6, List.getElem?_cons_zero, List.getElem?_cons_succ, List.set_cons_zero, List.set_cons_succ, znl, zs4, zc1, true_and, and_self, Value.category, Option.toList, List.cons_append, List.nil_append, zvr]
      exact k
    try simp (disch := omega) only [zgi_gz, zj_cn, zj_lt, zj_le, zj_eq, zj_add, zj_sub, zj_mul, zj_neg, zj_lt0, zj_le0, zj_0le, zj_0lt, zj_eq0]
    refine ⟨fun c => by omega, fun _ => ?_⟩
    have u1 : zNV (zwr h 45 (fun b => zj (zcl h p a (a.tdiv 2) b)) i) := by
      refine ⟨fun b hb => ?_, fun b hb => ?_, ?_⟩
      · by_cases hbi : b < i
        · have e : gz (zwr h 45 (fun b => zj (zcl h p a (a.tdiv 2) b)) i) 45 b = zcl h p a (a.tdiv 2) b := by
            unfold gz
            rw [zwr_in hbi]
            have := zcl_b (p := p) u (a := a) (e := a.tdiv 2) hb
            exact zj_toInt (by omega) (by omega)
          rw [e]
          exact zcl_b u hb
        · have e : gz (zwr h 45 (fun b => zj (zcl h p a (a.tdiv 2) b)) i) 45 b = gz h 45 b := congrArg Int32.toInt (if_neg (fun z => hbi z.2))
          rw [e]
          exact u.1 b hb
      · have e : gz (zwr h 45 (fun b => zj (zcl h p a (a.tdiv 2) b)) i) 45 (6 + b) = gz h 45 (6 + b) := congrArg Int32.toInt (if_neg (fun z => by omega))
        rw [e]
        exact u.2.1 b hb
      · have e : gz (zwr h 45 (fun b => zj (zcl h p a (a.tdiv 2) b)) i) 45 14 = gz h 45 14 := congrArg Int32.toInt (if_neg (fun z => by omega))
        rw [e]
        exact u.2.2
    refine cc_half (by omega) (by omega) ?_
    simp only [oPI, oPL, oILOAD, oLLOAD, oALOAD, oISTORE, oASTORE, oLSTORE, oIINC, oIADD, oISUB, oIMUL, oIAND, oIOR, oIXOR, oIDIV, oIREM, oISHL, oISHR, oIUSHR, oLADD, oLSUB, oLMUL, oLOR, oLDIV, oLREM, oLCMP, oLSHL, oINEG, oI2L, oL2I, oI2B, oI2C, oDUP, oPOP, oDUP2, oIFEQ, oICEQ, oIFNE, oICNE, oIFLT, oICLT, oIFGE, oICGE, oIFGT, oICGT, oIFLE, oICLE, oIFNULL, oIFNONNULL, oTSW, oLSW, oGETI, oGETL, oGETR, oPUTI, oPUTZ, oPUTL, oPUTR, oIALD, oBALD, oZALD, oLALD, oAALD, oALEN, oIAST, oBAST, oZAST, oLAST, oIRET, oZRET, oLRET, oVRET, oARET, oOBJ, oINI, oPS, oNEW, oNEWAI, oNEWAB, oNEWAZ, oNEWAL, oCOPY, oINV0, oINS0, oINV1, oINS1, oINV2, oINS2, oINV3, oINS3, oINV4, oINS4, oINV5, oINS5, oINV6, oINS6, List.getElem?_cons_zero, List.getElem?_cons_succ, List.set_cons_zero, List.set_cons_succ, znl, zs4, zc1, true_and, and_self, Value.category, Option.toList, List.cons_append, List.nil_append, zvr, zc_s16 w1, zc_s17 w1, zc_s18 w1, zc_s19 w1, zc_s32 w1, zc_s45 w1, zc_s46 w1, zc_s47 w1, zc_s64 w1, zc_s68 w1, zc_s69 w1, zc_s76 w1, zc_s77 w1, zc_r16_0 w1, zc_r16_1 w1, zc_r16_2 w1, zc_r16_3 w1, zc_r16_4 w1, zc_r17_0 w1, zc_r17_1 w1, zc_r18_0 w1, zc_r32_0 w1, zc_r32_1 w1, zc_r46_0 w1, zc_r46_1 w1, zc_r68_0 w1, zc_r68_1 w1, zp_s wp, zp_s1 wp, zp_r2 wp, zp_s2 wp, zp_r3 wp, zp_s3 wp, zp_r4 wp, zp_s4 wp, zp_r5 wp, zp_s5 wp, zp_r6 wp, zp_s6 wp, zp_r7 wp, zp_s7 wp, zp_r9 wp, zp_s8 wp, zp_r10 wp, zp_s9 wp, zp_r12 wp, zp_s10 wp, zp_r14 wp, zp_s11 wp, zp_r15 wp]
    refine cc_cellBehind w1 (ag.PV w (by omega) v) u1 (by omega) (by omega) (by omega) (by omega) (by omega) ?_
    have e5 : zcl (zwr h 45 (fun b => zj (zcl h p a (a.tdiv 2) b)) i) p a (a.tdiv 2) i = zcl h p a (a.tdiv 2) i := by
      have a1 := ag.gz (x := p + 2) (by omega) i
      have a2 : gz (zwr h 45 (fun b => zj (zcl h p a (a.tdiv 2) b)) i) 45 i = gz h 45 i := congrArg Int32.toInt (if_neg (fun z => by omega))
      exact (congrArg (fun s => zmv s _ a (a.tdiv 2)) a1).trans (congrArg (fun c => zmv (gz h (p + 2) i) c a (a.tdiv 2)) a2)
    rw [e5]
    simp only [oPI, oPL, oILOAD, oLLOAD, oALOAD, oISTORE, oASTORE, oLSTORE, oIINC, oIADD, oISUB, oIMUL, oIAND, oIOR, oIXOR, oIDIV, oIREM, oISHL, oISHR, oIUSHR, oLADD, oLSUB, oLMUL, oLOR, oLDIV, oLREM, oLCMP, oLSHL, oINEG, oI2L, oL2I, oI2B, oI2C, oDUP, oPOP, oDUP2, oIFEQ, oICEQ, oIFNE, oICNE, oIFLT, oICLT, oIFGE, oICGE, oIFGT, oICGT, oIFLE, oICLE, oIFNULL, oIFNONNULL, oTSW, oLSW, oGETI, oGETL, oGETR, oPUTI, oPUTZ, oPUTL, oPUTR, oIALD, oBALD, oZALD, oLALD, oAALD, oALEN, oIAST, oBAST, oZAST, oLAST, oIRET, oZRET, oLRET, oVRET, oARET, oOBJ, oINI, oPS, oNEW, oNEWAI, oNEWAB, oNEWAZ, oNEWAL, oCOPY, oINV0, oINS0, oINV1, oINS1, oINV2, oINS2, oINV3, oINS3, oINV4, oINS4, oINV5, oINS5, oINV6, oINS6, List.getElem?_cons_zero, List.getElem?_cons_succ, List.set_cons_zero, List.set_cons_succ, znl, zs4, zc1, true_and, and_self, Value.category, Option.toList, List.cons_append, List.nil_append, zvr, zc_s16 w1, zc_s17 w1, zc_s18 w1, zc_s19 w1, zc_s32 w1, zc_s45 w1, zc_s46 w1, zc_s47 w1, zc_s64 w1, zc_s68 w1, zc_s69 w1, zc_s76 w1, zc_s77 w1, zc_r16_0 w1, zc_r16_1 w1, zc_r16_2 w1, zc_r16_3 w1, zc_r16_4 w1, zc_r17_0 w1, zc_r17_1 w1, zc_r18_0 w1, zc_r32_0 w1, zc_r32_1 w1, zc_r46_0 w1, zc_r46_1 w1, zc_r68_0 w1, zc_r68_1 w1, zp_s wp, zp_s1 wp, zp_r2 wp, zp_s2 wp, zp_r3 wp, zp_s3 wp, zp_r4 wp, zp_s4 wp, zp_r5 wp, zp_s5 wp, zp_r6 wp, zp_s6 wp, zp_r7 wp, zp_s7 wp, zp_r9 wp, zp_s8 wp, zp_r10 wp, zp_s9 wp, zp_r12 wp, zp_s10 wp, zp_r14 wp, zp_s11 wp, zp_r15 wp]
    rw [zj_cn (by omega)]
    refine ⟨zj_in (by omega) (by omega) (by omega), ?_⟩
    rw [zwr_s h 45 (fun b => zj (zcl h p a (a.tdiv 2) b)) i]
    try simp (disch := omega) only [zgi_gz, zj_cn, zj_lt, zj_le, zj_eq, zj_add, zj_sub, zj_mul, zj_neg, zj_lt0, zj_le0, zj_0le, zj_0lt, zj_eq0]
    exact ih (by omega)
  have q := key 0 (by omega)
  rw [zwr_0] at q
  exact q
end ZAC
