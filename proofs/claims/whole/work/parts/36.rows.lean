/-- heaps that differ in the ints of one cell alone -/
def zAg (h h' : zHp) (c : Nat) : Prop := h'.1 = h.1 ∧ h'.2.2 = h.2.2 ∧ ∀ x y, x ≠ c → zgi h' x y = zgi h x y
def zwr (h : zHp) (c : Nat) (f : Nat → Int32) (n : Nat) : zHp := (h.1, fun a b => if a = c ∧ b < n then f b else h.2.1 a b, h.2.2)
theorem zwr_ag (h : zHp) (c : Nat) (f : Nat → Int32) (n : Nat) : zAg h (zwr h c f n) c := ⟨rfl, rfl, fun x y hx => if_neg (fun z => hx z.1)⟩
theorem zwr_in {h : zHp} {c : Nat} {f : Nat → Int32} {n y : Nat} (hy : y < n) : zgi (zwr h c f n) c y = f y := if_pos ⟨rfl, hy⟩
theorem zwr_0 (h : zHp) (c : Nat) (f : Nat → Int32) : zwr h c f 0 = h := by
  unfold zwr
  refine Prod.ext rfl (Prod.ext ?_ rfl)
  funext x y
  dsimp only
  rw [if_neg (fun z => by omega)]
theorem zwr_s (h : zHp) (c : Nat) (f : Nat → Int32) (n : Nat) : zpi (zwr h c f n) c n (f n) = zwr h c f (n + 1) := by
  unfold zwr zpi
  refine Prod.ext rfl (Prod.ext ?_ rfl)
  funext x y
  dsimp only
  by_cases h1 : x = c ∧ y = n
  · rw [if_pos h1, if_pos ⟨h1.1, by omega⟩, h1.2]
  · rw [if_neg h1]
    by_cases h2 : x = c ∧ y < n
    · rw [if_pos h2, if_pos ⟨h2.1, by omega⟩]
    · rw [if_neg h2, if_neg (fun z => by
        rcases Nat.lt_or_ge y n with g | g
        · exact h2 ⟨z.1, g⟩
        · exact h1 ⟨z.1, by omega⟩)]
section ZAG
variable {h h' : zHp} {c d p : Nat}
theorem zAg.sh (a : zAg h h' c) (x : Nat) : zsh h' x = zsh h x := by unfold zsh; rw [a.1]
theorem zAg.gr (a : zAg h h' c) (x y : Nat) : zgr h' x y = zgr h x y := by unfold zgr; rw [a.2.1]
theorem zAg.gl (a : zAg h h' c) (x y : Nat) : zgl h' x y = zgl h x y := by unfold zgl; rw [a.2.1]
theorem zAg.gz (a : zAg h h' c) {x : Nat} (hx : x ≠ c) (y : Nat) : gz h' x y = gz h x y := congrArg Int32.toInt (a.2.2 x y hx)
theorem zAg.PV (a : zAg h h' c) (w : zCW h d p) (hc : 45 ≤ c) (v : zPV h p) : zPV h' p := by
  have hdp := zc_dp w
  unfold zPV at v ⊢
  rw [a.gz (x := p) (by omega), a.gz (x := p) (by omega), a.gz (x := p) (by omega), a.gz (x := p) (by omega), a.gz (x := p) (by omega)]
  refine ⟨v.1, fun b hb => ?_, v.2.2.1, fun b hb => ?_, v.2.2.2.2.1, fun b hb => ?_, v.2.2.2.2.2.2.1, fun b hb => ?_, v.2.2.2.2.2.2.2.2⟩
  · rw [a.gz (x := p + 2) (by omega), a.gz (x := p + 4) (by omega), a.gz (x := p + 5) (by omega), a.gz (x := p + 6) (by omega)]
    exact v.2.1 b hb
  · rw [a.gz (x := p + 7) (by omega)]
    exact v.2.2.2.1 b hb
  · rw [a.gz (x := p + 9) (by omega)]
    exact v.2.2.2.2.2.1 b hb
  · rw [a.gz (x := p + 11) (by omega)]
    exact v.2.2.2.2.2.2.2.1 b hb
theorem zAg.NV (a : zAg h h' c) (hc : 46 ≤ c) (u : zNV h) : zNV h' := by
  unfold zNV at u ⊢
  rw [a.gz (x := 45) (by omega)]
  refine ⟨fun b hb => ?_, fun b hb => ?_, u.2.2⟩
  · rw [a.gz (x := 45) (by omega)]
    exact u.1 b hb
  · rw [a.gz (x := 45) (by omega)]
    exact u.2.1 b hb
theorem zAg.cl (a : zAg h h' c) (w : zCW h d p) (hc : 46 ≤ c) (x y : Int) (b : Nat) : zcl h' p x y b = zcl h p x y b := by
  have hdp := zc_dp w
  unfold zcl
  rw [a.gz (x := p + 2) (by omega), a.gz (x := 45) (by omega)]
theorem zAg.n (a : zAg h h' c) (w : zCW h d p) (hc : 46 ≤ c) : zn h' p = zn h p := by
  have hdp := zc_dp w
  unfold zn
  rw [a.gz (x := p) (by omega)]
theorem zAg.ar (a : zAg h h' c) (w : zCW h d p) (hc : 46 ≤ c) (x y : Int) : zar h' p x y = zar h p x y := by
  have hdp := zc_dp w
  unfold zar
  rw [a.n w hc]
  simp only [a.cl w hc, a.gz (x := p + 5) (show p + 5 ≠ c by omega)]
end ZAG
section ZRW
variable {X : Nat × (Nat → Int32)} {R : zRt} {h : zHp} {d p q : Nat}
def zsf (a b : Int) : Int := 12 * (a % 12) + b % 12
theorem zsf_b (a b : Int) : 0 ≤ zsf a b ∧ zsf a b < 144 := by unfold zsf; omega
theorem cc_shiftOf {a b : Int} (h1 : -10000 ≤ a) (h2 : a ≤ 10000) (h3 : -10000 ≤ b) (h4 : b ≤ 10000) (k : R (some (.int (zj (zsf a b)))) h) : zCC X M_X3_shiftOf [.int (zj a), .int (zj b)] h R := by
  refine zCC_of (ls := [.int (zj a), .int (zj b)]) pf_X3_shiftOf rfl (Nat.le_of_ble_eq_true rfl) ?_
  refine vb_X3_shiftOf_0 _ _ _ ?_
  simp only [B_X3_shiftOf_0, oPI, oPL, oILOAD, oLLOAD, oALOAD, oISTORE, oASTORE, oLSTORE, oIINC, oIADD, oISUB, oIMUL, oIAND, oIOR, oIXOR, oIDIV, oIREM, oISHL, oISHR, oIUSHR, oLADD, oLSUB, oLMUL, oLOR, oLDIV, oLREM, oLCMP, oLSHL, oINEG, oI2L, oL2I, oI2B, oI2C, oDUP, oPOP, oDUP2, oIFEQ, oICEQ, oIFNE, oICNE, oIFLT, oICLT, oIFGE, oICGE, oIFGT, oICGT, oIFLE, oICLE, oIFNULL, oIFNONNULL, oTSW, oLSW, oGETI, oGETL, oGETR, oPUTI, oPUTZ, oPUTL, oPUTR, oIALD, oBALD, oZALD, oLALD, oAALD, oALEN, oIAST, oBAST, oZAST, oLAST, oIRET, oZRET, oLRET, oVRET, oARET, oOBJ, oINI, oPS, oNEW, oNEWAI, oNEWAB, oNEWAZ, oNEWAL, oCOPY, oINV0, oINS0, oINV1, oINS1, oINV2, oINS2, oINV3, oINS3, oINV4, oINS4, oINV5, oINS5, oINV6, oINS6, List.getElem?_cons_zero, List.getElem?_cons_succ, List.set_cons_zero, List.set_cons_succ, znl, zs4, zc1, true_and, and_self, Value.category, Option.toList, List.cons_append, List.nil_append, zvr]
  refine cc_floorMod (by omega) (by omega) (by omega) (by omega) ?_
  simp only [oPI, oPL, oILOAD, oLLOAD, oALOAD, oISTORE, oASTORE, oLSTORE, oIINC, oIADD, oISUB, oIMUL, oIAND, oIOR, oIXOR, oIDIV, oIREM, oISHL, oISHR, oIUSHR, oLADD, oLSUB, oLMUL, oLOR, oLDIV, oLREM, oLCMP, oLSHL, oINEG, oI2L, oL2I, oI2B, oI2C, oDUP, oPOP, oDUP2, oIFEQ, oICEQ, oIFNE, oICNE, oIFLT, oICLT, oIFGE, oICGE, oIFGT, oICGT, oIFLE, oICLE, oIFNULL, oIFNONNULL, oTSW, oLSW, oGETI, oGETL, oGETR, oPUTI, oPUTZ, oPUTL, oPUTR, oIALD, oBALD, oZALD, oLALD, oAALD, oALEN, oIAST, oBAST, oZAST, oLAST, oIRET, oZRET, oLRET, oVRET, oARET, oOBJ, oINI, oPS, oNEW, oNEWAI, oNEWAB, oNEWAZ, oNEWAL, oCOPY, oINV0, oINS0, oINV1, oINS1, oINV2, oINS2, oINV3, oINS3, oINV4, oINS4, oINV5, oINS5, oINV6, oINS6, List.getElem?_cons_zero, List.getElem?_cons_succ, List.set_cons_zero, List.set_cons_succ, znl, zs4, zc1, true_and, and_self, Value.category, Option.toList, List.cons_append, List.nil_append, zvr]
  refine cc_floorMod (by omega) (by omega) (by omega) (by omega) ?_
  simp only [oPI, oPL, oILOAD, oLLOAD, oALOAD, oISTORE, oASTORE, oLSTORE, oIINC, oIADD, oISUB, oIMUL, oIAND, oIOR, oIXOR, oIDIV, oIREM, oISHL, oISHR, oIUSHR, oLADD, oLSUB, oLMUL, oLOR, oLDIV, oLREM, oLCMP, oLSHL, oINEG, oI2L, oL2I, oI2B, oI2C, oDUP, oPOP, oDUP2, oIFEQ, oICEQ, oIFNE, oICNE, oIFLT, oICLT, oIFGE, oICGE, oIFGT, oICGT, oIFLE, oICLE, oIFNULL, oIFNONNULL, oTSW, oLSW, oGETI, oGETL, oGETR, oPUTI, oPUTZ, oPUTL, oPUTR, oIALD, oBALD, oZALD, oLALD, oAALD, oALEN, oIAST, oBAST, oZAST, oLAST, oIRET, oZRET, oLRET, oVRET, oARET, oOBJ, oINI, oPS, oNEW, oNEWAI, oNEWAB, oNEWAZ, oNEWAL, oCOPY, oINV0, oINS0, oINV1, oINS1, oINV2, oINS2, oINV3, oINS3, oINV4, oINS4, oINV5, oINS5, oINV6, oINS6, List.getElem?_cons_zero, List.getElem?_cons_succ, List.set_cons_zero, List.set_cons_succ, znl, zs4, zc1, true_and, and_self, Value.category, Option.toList, List.cons_append, List.nil_append, zvr]
  try simp (disch := omega) only [zgi_gz, zj_cn, zj_lt, zj_le, zj_eq, zj_add, zj_sub, zj_mul, zj_neg, zj_lt0, zj_le0, zj_0le, zj_0lt, zj_eq0]
  rw [show a % 12 * 12 + b % 12 = zsf a b by unfold zsf; omega]
  exact k
theorem z_narz (P : Prop) : vp_nar .boolean (zb P) = zb P := by
  by_cases hp : P
  · rw [zb_t hp]; rfl
  · rw [zb_f hp]; rfl
theorem cc_aim {i : Nat} {P : Prop} (w : zCW h d p) (hi : i < 144) (k : R none (zpi h 76 i (zb P))) : zCC X M_X3_aim [.ref 68, .int (zj (i / 12 : Nat)), .int (zj (i % 12 : Nat)), .int (zb P)] h R := by
  refine zCC_of (ls := [.ref 68, .int (zj (i / 12 : Nat)), .int (zj (i % 12 : Nat)), .int (zb P)]) pf_X3_aim rfl (Nat.le_of_ble_eq_true rfl) ?_
  refine vb_X3_aim_0 _ _ _ ?_
  simp only [B_X3_aim_0, oPI, oPL, oILOAD, oLLOAD, oALOAD, oISTORE, oASTORE, oLSTORE, oIINC, oIADD, oISUB, oIMUL, oIAND, oIOR, oIXOR, oIDIV, oIREM, oISHL, oISHR, oIUSHR, oLADD, oLSUB, oLMUL, oLOR, oLDIV, oLREM, oLCMP, oLSHL, oINEG, oI2L, oL2I, oI2B, oI2C, oDUP, oPOP, oDUP2, oIFEQ, oICEQ, oIFNE, oICNE, oIFLT, oICLT, oIFGE, oICGE, oIFGT, oICGT, oIFLE, oICLE, oIFNULL, oIFNONNULL, oTSW, oLSW, oGETI, oGETL, oGETR, oPUTI, oPUTZ, oPUTL, oPUTR, oIALD, oBALD, oZALD, oLALD, oAALD, oALEN, oIAST, oBAST, oZAST, oLAST, oIRET, oZRET, oLRET, oVRET, oARET, oOBJ, oINI, oPS, oNEW, oNEWAI, oNEWAB, oNEWAZ, oNEWAL, oCOPY, oINV0, oINS0, oINV1, oINS1, oINV2, oINS2, oINV3, oINS3, oINV4, oINS4, oINV5, oINS5, oINV6, oINS6, List.getElem?_cons_zero, List.getElem?_cons_succ, List.set_cons_zero, List.set_cons_succ, znl, zs4, zc1, true_and, and_self, Value.category, Option.toList, List.cons_append, List.nil_append, zvr, zc_s16 w, zc_s17 w, zc_s18 w, zc_s19 w, zc_s32 w, zc_s45 w, zc_s46 w, zc_s47 w, zc_s64 w, zc_s68 w, zc_s69 w, zc_s76 w, zc_s77 w, zc_r16_0 w, zc_r16_1 w, zc_r16_2 w, zc_r16_3 w, zc_r16_4 w, zc_r17_0 w, zc_r17_1 w, zc_r18_0 w, zc_r32_0 w, zc_r32_1 w, zc_r46_0 w, zc_r46_1 w, zc_r68_0 w, zc_r68_1 w]
  refine cc_shiftOf (by omega) (by omega) (by omega) (by omega) ?_
  simp only [oPI, oPL, oILOAD, oLLOAD, oALOAD, oISTORE, oASTORE, oLSTORE, oIINC, oIADD, oISUB, oIMUL, oIAND, oIOR, oIXOR, oIDIV, oIREM, oISHL, oISHR, oIUSHR, oLADD, oLSUB, oLMUL, oLOR, oLDIV, oLREM, oLCMP, oLSHL, oINEG, oI2L, oL2I, oI2B, oI2C, oDUP, oPOP, oDUP2, oIFEQ, oICEQ, oIFNE, oICNE, oIFLT, oICLT, oIFGE, oICGE, oIFGT, oICGT, oIFLE, oICLE, oIFNULL, oIFNONNULL, oTSW, oLSW, oGETI, oGETL, oGETR, oPUTI, oPUTZ, oPUTL, oPUTR, oIALD, oBALD, oZALD, oLALD, oAALD, oALEN, oIAST, oBAST, oZAST, oLAST, oIRET, oZRET, oLRET, oVRET, oARET, oOBJ, oINI, oPS, oNEW, oNEWAI, oNEWAB, oNEWAZ, oNEWAL, oCOPY, oINV0, oINS0, oINV1, oINS1, oINV2, oINS2, oINV3, oINS3, oINV4, oINS4, oINV5, oINS5, oINV6, oINS6, List.getElem?_cons_zero, List.getElem?_cons_succ, List.set_cons_zero, List.set_cons_succ, znl, zs4, zc1, true_and, and_self, Value.category, Option.toList, List.cons_append, List.nil_append, zvr, zc_s16 w, zc_s17 w, zc_s18 w, zc_s19 w, zc_s32 w, zc_s45 w, zc_s46 w, zc_s47 w, zc_s64 w, zc_s68 w, zc_s69 w, zc_s76 w, zc_s77 w, zc_r16_0 w, zc_r16_1 w, zc_r16_2 w, zc_r16_3 w, zc_r16_4 w, zc_r17_0 w, zc_r17_1 w, zc_r18_0 w, zc_r32_0 w, zc_r32_1 w, zc_r46_0 w, zc_r46_1 w, zc_r68_0 w, zc_r68_1 w]
  rw [show zsf ((i / 12 : Nat) : Int) ((i % 12 : Nat) : Int) = (i : Int) by unfold zsf; omega, zj_cn (by omega), z_narz]
  exact ⟨zj_in (by omega) (by omega) (by omega), k⟩
/-- what rows of turns are to bring about: 0 wanted, 1 after, 2 as now -/
def zgl3 (h : zHp) (p g : Nat) (a b : Int) : Prop := if g = 0 then zar h p a b else if g = 1 then (∀ c : Nat, c < zn h p → gz h (p + 6) c = -2 ∨ zmv (gz h (p + 2) c) (gz h (p + 4) c) a b = gz h (p + 6) c) else (∀ c : Nat, c < zn h p → zmv (gz h (p + 2) c) 0 a b = 0)
theorem cc_isAt {g : Nat} {a b : Int} (w : zCW h d p) (v : zPV h p) (u : zNV h) (hg : g < 3) (h1 : 0 ≤ a) (h2 : a < 12) (h3 : 0 ≤ b) (h4 : b < 12) (k : R (some (.int (zb (zgl3 h p g a b)))) h) : zCC X M_X7_isAt [.ref 16, .int (zj g), .int (zj a), .int (zj b)] h R := by
  have wp := zc_pp w
  refine zCC_of (ls := [.ref 16, .int (zj g), .int (zj a), .int (zj b)]) pf_X7_isAt rfl (Nat.le_of_ble_eq_true rfl) ?_
  refine vb_X7_isAt_0 _ _ _ ?_
  simp only [B_X7_isAt_0, oPI, oPL, oILOAD, oLLOAD, oALOAD, oISTORE, oASTORE, oLSTORE, oIINC, oIADD, oISUB, oIMUL, oIAND, oIOR, oIXOR, oIDIV, oIREM, oISHL, oISHR, oIUSHR, oLADD, oLSUB, oLMUL, oLOR, oLDIV, oLREM, oLCMP, oLSHL, oINEG, oI2L, oL2I, oI2B, oI2C, oDUP, oPOP, oDUP2, oIFEQ, oICEQ, oIFNE, oICNE, oIFLT, oICLT, oIFGE, oICGE, oIFGT, oICGT, oIFLE, oICLE, oIFNULL, oIFNONNULL, oTSW, oLSW, oGETI, oGETL, oGETR, oPUTI, oPUTZ, oPUTL, oPUTR, oIALD, oBALD, oZALD, oLALD, oAALD, oALEN, oIAST, oBAST, oZAST, oLAST, oIRET, oZRET, oLRET, oVRET, oARET, oOBJ, oINI, oPS, oNEW, oNEWAI, oNEWAB, oNEWAZ, oNEWAL, oCOPY, oINV0, oINS0, oINV1, oINS1, oINV2, oINS2, oINV3, oINS3, oINV4, oINS4, oINV5, oINS5, oINV6, oINS6, List.getElem?_cons_zero, List.getElem?_cons_succ, List.set_cons_zero, List.set_cons_succ, znl, zs4, zc1, true_and, and_self, Value.category, Option.toList, List.cons_append, List.nil_append, zvr, zc_s16 w, zc_s17 w, zc_s18 w, zc_s19 w, zc_s32 w, zc_s45 w, zc_s46 w, zc_s47 w, zc_s64 w, zc_s68 w, zc_s69 w, zc_s76 w, zc_s77 w, zc_r16_0 w, zc_r16_1 w, zc_r16_2 w, zc_r16_3 w, zc_r16_4 w, zc_r17_0 w, zc_r17_1 w, zc_r18_0 w, zc_r32_0 w, zc_r32_1 w, zc_r46_0 w, zc_r46_1 w, zc_r68_0 w, zc_r68_1 w]
  rw [show (1 : Int32) = zj 1 from rfl]
  try simp (disch := omega) only [zgi_gz, zj_cn, zj_lt, zj_le, zj_eq, zj_add, zj_sub, zj_mul, zj_neg, zj_lt0, zj_le0, zj_0le, zj_0lt, zj_eq0]
  refine ⟨fun c => ?_, fun c => ?_, fun c c2 => ?_⟩
  · refine vb_X7_isAt_28 _ _ _ ?_
    simp only [B_X7_isAt_28, oPI, oPL, oILOAD, oLLOAD, oALOAD, oISTORE, oASTORE, oLSTORE, oIINC, oIADD, oISUB, oIMUL, oIAND, oIOR, oIXOR, oIDIV, oIREM, oISHL, oISHR, oIUSHR, oLADD, oLSUB, oLMUL, oLOR, oLDIV, oLREM, oLCMP, oLSHL, oINEG, oI2L, oL2I, oI2B, oI2C, oDUP, oPOP, oDUP2, oIFEQ, oICEQ, oIFNE, oICNE, oIFLT, oICLT, oIFGE, oICGE, oIFGT, oICGT, oIFLE, oICLE, oIFNULL, oIFNONNULL, oTSW, oLSW, oGETI, oGETL, oGETR, oPUTI, oPUTZ, oPUTL, oPUTR, oIALD, oBALD, oZALD, oLALD, oAALD, oALEN, oIAST, oBAST, oZAST, oLAST, oIRET, oZRET, oLRET, oVRET, oARET, oOBJ, oINI, oPS, oNEW, oNEWAI, oNEWAB, oNEWAZ, oNEWAL, oCOPY, oINV0, oINS0, oINV1, oINS1, oINV2, oINS2, oINV3, oINS3, oINV4, oINS4, oINV5, oINS5, oINV6, oINS6, List.getElem?_cons_zero, List.getElem?_cons_succ, List.set_cons_zero, List.set_cons_succ, znl, zs4, zc1, true_and, and_self, Value.category, Option.toList, List.cons_append, List.nil_append, zvr, zc_s16 w, zc_s17 w, zc_s18 w, zc_s19 w, zc_s32 w, zc_s45 w, zc_s46 w, zc_s47 w, zc_s64 w, zc_s68 w, zc_s69 w, zc_s76 w, zc_s77 w, zc_r16_0 w, zc_r16_1 w, zc_r16_2 w, zc_r16_3 w, zc_r16_4 w, zc_r17_0 w, zc_r17_1 w, zc_r18_0 w, zc_r32_0 w, zc_r32_1 w, zc_r46_0 w, zc_r46_1 w, zc_r68_0 w, zc_r68_1 w]
    rw [show zgl3 h p g a b = zar h p a b by unfold zgl3; rw [if_pos (by omega)]] at k
    refine cc_allRight w v u (by omega) (by omega) (by omega) (by omega) ?_
    simp only [oPI, oPL, oILOAD, oLLOAD, oALOAD, oISTORE, oASTORE, oLSTORE, oIINC, oIADD, oISUB, oIMUL, oIAND, oIOR, oIXOR, oIDIV, oIREM, oISHL, oISHR, oIUSHR, oLADD, oLSUB, oLMUL, oLOR, oLDIV, oLREM, oLCMP, oLSHL, oINEG, oI2L, oL2I, oI2B, oI2C, oDUP, oPOP, oDUP2, oIFEQ, oICEQ, oIFNE, oICNE, oIFLT, oICLT, oIFGE, oICGE, oIFGT, oICGT, oIFLE, oICLE, oIFNULL, oIFNONNULL, oTSW, oLSW, oGETI, oGETL, oGETR, oPUTI, oPUTZ, oPUTL, oPUTR, oIALD, oBALD, oZALD, oLALD, oAALD, oALEN, oIAST, oBAST, oZAST, oLAST, oIRET, oZRET, oLRET, oVRET, oARET, oOBJ, oINI, oPS, oNEW, oNEWAI, oNEWAB, oNEWAZ, oNEWAL, oCOPY, oINV0, oINS0, oINV1, oINS1, oINV2, oINS2, oINV3, oINS3, oINV4, oINS4, oINV5, oINS5, oINV6, oINS6, List.getElem?_cons_zero, List.getElem?_cons_succ, List.set_cons_zero, List.set_cons_succ, znl, zs4, zc1, true_and, and_self, Value.category, Option.toList, List.cons_append, List.nil_append, zvr]
    exact ⟨zb_01 _, k⟩
  · refine vb_X7_isAt_38 _ _ _ ?_
    simp only [B_X7_isAt_38, oPI, oPL, oILOAD, oLLOAD, oALOAD, oISTORE, oASTORE, oLSTORE, oIINC, oIADD, oISUB, oIMUL, oIAND, oIOR, oIXOR, oIDIV, oIREM, oISHL, oISHR, oIUSHR, oLADD, oLSUB, oLMUL, oLOR, oLDIV, oLREM, oLCMP, oLSHL, oINEG, oI2L, oL2I, oI2B, oI2C, oDUP, oPOP, oDUP2, oIFEQ, oICEQ, oIFNE, oICNE, oIFLT, oICLT, oIFGE, oICGE, oIFGT, oICGT, oIFLE, oICLE, oIFNULL, oIFNONNULL, oTSW, oLSW, oGETI, oGETL, oGETR, oPUTI, oPUTZ, oPUTL, oPUTR, oIALD, oBALD, oZALD, oLALD, oAALD, oALEN, oIAST, oBAST, oZAST, oLAST, oIRET, oZRET, oLRET, oVRET, oARET, oOBJ, oINI, oPS, oNEW, oNEWAI, oNEWAB, oNEWAZ, oNEWAL, oCOPY, oINV0, oINS0, oINV1, oINS1, oINV2, oINS2, oINV3, oINS3, oINV4, oINS4, oINV5, oINS5, oINV6, oINS6, List.getElem?_cons_zero, List.getElem?_cons_succ, List.set_cons_zero, List.set_cons_succ, znl, zs4, zc1, true_and, and_self, Value.category, Option.toList, List.cons_append, List.nil_append, zvr, zc_s16 w, zc_s17 w, zc_s18 w, zc_s19 w, zc_s32 w, zc_s45 w, zc_s46 w, zc_s47 w, zc_s64 w, zc_s68 w, zc_s69 w, zc_s76 w, zc_s77 w, zc_r16_0 w, zc_r16_1 w, zc_r16_2 w, zc_r16_3 w, zc_r16_4 w, zc_r17_0 w, zc_r17_1 w, zc_r18_0 w, zc_r32_0 w, zc_r32_1 w, zc_r46_0 w, zc_r46_1 w, zc_r68_0 w, zc_r68_1 w, zp_s wp, zp_s1 wp, zp_r2 wp, zp_s2 wp, zp_r3 wp, zp_s3 wp, zp_r4 wp, zp_s4 wp, zp_r5 wp, zp_s5 wp, zp_r6 wp, zp_s6 wp, zp_r7 wp, zp_s7 wp, zp_r9 wp, zp_s8 wp, zp_r10 wp, zp_s9 wp, zp_r12 wp, zp_s10 wp, zp_r14 wp, zp_s11 wp, zp_r15 wp]
    unfold zgl3 at k
    rw [if_neg (by omega), if_pos (by omega)] at k
    refine cc_allAfter wp v (by omega) (by omega) (by omega) (by omega) ?_
    simp only [oPI, oPL, oILOAD, oLLOAD, oALOAD, oISTORE, oASTORE, oLSTORE, oIINC, oIADD, oISUB, oIMUL, oIAND, oIOR, oIXOR, oIDIV, oIREM, oISHL, oISHR, oIUSHR, oLADD, oLSUB, oLMUL, oLOR, oLDIV, oLREM, oLCMP, oLSHL, oINEG, oI2L, oL2I, oI2B, oI2C, oDUP, oPOP, oDUP2, oIFEQ, oICEQ, oIFNE, oICNE, oIFLT, oICLT, oIFGE, oICGE, oIFGT, oICGT, oIFLE, oICLE, oIFNULL, oIFNONNULL, oTSW, oLSW, oGETI, oGETL, oGETR, oPUTI, oPUTZ, oPUTL, oPUTR, oIALD, oBALD, oZALD, oLALD, oAALD, oALEN, oIAST, oBAST, oZAST, oLAST, oIRET, oZRET, oLRET, oVRET, oARET, oOBJ, oINI, oPS, oNEW, oNEWAI, oNEWAB, oNEWAZ, oNEWAL, oCOPY, oINV0, oINS0, oINV1, oINS1, oINV2, oINS2, oINV3, oINS3, oINV4, oINS4, oINV5, oINS5, oINV6, oINS6, List.getElem?_cons_zero, List.getElem?_cons_succ, List.set_cons_zero, List.set_cons_succ, znl, zs4, zc1, true_and, and_self, Value.category, Option.toList, List.cons_append, List.nil_append, zvr]
    exact ⟨zb_01 _, k⟩
  · refine vb_X7_isAt_51 _ _ _ ?_
    simp only [B_X7_isAt_51, oPI, oPL, oILOAD, oLLOAD, oALOAD, oISTORE, oASTORE, oLSTORE, oIINC, oIADD, oISUB, oIMUL, oIAND, oIOR, oIXOR, oIDIV, oIREM, oISHL, oISHR, oIUSHR, oLADD, oLSUB, oLMUL, oLOR, oLDIV, oLREM, oLCMP, oLSHL, oINEG, oI2L, oL2I, oI2B, oI2C, oDUP, oPOP, oDUP2, oIFEQ, oICEQ, oIFNE, oICNE, oIFLT, oICLT, oIFGE, oICGE, oIFGT, oICGT, oIFLE, oICLE, oIFNULL, oIFNONNULL, oTSW, oLSW, oGETI, oGETL, oGETR, oPUTI, oPUTZ, oPUTL, oPUTR, oIALD, oBALD, oZALD, oLALD, oAALD, oALEN, oIAST, oBAST, oZAST, oLAST, oIRET, oZRET, oLRET, oVRET, oARET, oOBJ, oINI, oPS, oNEW, oNEWAI, oNEWAB, oNEWAZ, oNEWAL, oCOPY, oINV0, oINS0, oINV1, oINS1, oINV2, oINS2, oINV3, oINS3, oINV4, oINS4, oINV5, oINS5, oINV6, oINS6, List.getElem?_cons_zero, List.getElem?_cons_succ, List.set_cons_zero, List.set_cons_succ, znl, zs4, zc1, true_and, and_self, Value.category, Option.toList, List.cons_append, List.nil_append, zvr, zc_s16 w, zc_s17 w, zc_s18 w, zc_s19 w, zc_s32 w, zc_s45 w, zc_s46 w, zc_s47 w, zc_s64 w, zc_s68 w, zc_s69 w, zc_s76 w, zc_s77 w, zc_r16_0 w, zc_r16_1 w, zc_r16_2 w, zc_r16_3 w, zc_r16_4 w, zc_r17_0 w, zc_r17_1 w, zc_r18_0 w, zc_r32_0 w, zc_r32_1 w, zc_r46_0 w, zc_r46_1 w, zc_r68_0 w, zc_r68_1 w, zp_s wp, zp_s1 wp, zp_r2 wp, zp_s2 wp, zp_r3 wp, zp_s3 wp, zp_r4 wp, zp_s4 wp, zp_r5 wp, zp_s5 wp, zp_r6 wp, zp_s6 wp, zp_r7 wp, zp_s7 wp, zp_r9 wp, zp_s8 wp, zp_r10 wp, zp_s9 wp, zp_r12 wp, zp_s10 wp, zp_r14 wp, zp_s11 wp, zp_r15 wp]
    unfold zgl3 at k
    rw [if_neg (by omega), if_neg (by omega)] at k
    refine cc_movesNone wp v (by omega) (by omega) (by omega) (by omega) ?_
    simp only [oPI, oPL, oILOAD, oLLOAD, oALOAD, oISTORE, oASTORE, oLSTORE, oIINC, oIADD, oISUB, oIMUL, oIAND, oIOR, oIXOR, oIDIV, oIREM, oISHL, oISHR, oIUSHR, oLADD, oLSUB, oLMUL, oLOR, oLDIV, oLREM, oLCMP, oLSHL, oINEG, oI2L, oL2I, oI2B, oI2C, oDUP, oPOP, oDUP2, oIFEQ, oICEQ, oIFNE, oICNE, oIFLT, oICLT, oIFGE, oICGE, oIFGT, oICGT, oIFLE, oICLE, oIFNULL, oIFNONNULL, oTSW, oLSW, oGETI, oGETL, oGETR, oPUTI, oPUTZ, oPUTL, oPUTR, oIALD, oBALD, oZALD, oLALD, oAALD, oALEN, oIAST, oBAST, oZAST, oLAST, oIRET, oZRET, oLRET, oVRET, oARET, oOBJ, oINI, oPS, oNEW, oNEWAI, oNEWAB, oNEWAZ, oNEWAL, oCOPY, oINV0, oINS0, oINV1, oINS1, oINV2, oINS2, oINV3, oINS3, oINV4, oINS4, oINV5, oINS5, oINV6, oINS6, List.getElem?_cons_zero, List.getElem?_cons_succ, List.set_cons_zero, List.set_cons_succ, znl, zs4, zc1, true_and, and_self, Value.category, Option.toList, List.cons_append, List.nil_append, zvr]
    exact ⟨zb_01 _, k⟩
theorem zAg.g3 {h' : zHp} {c g : Nat} (ag : zAg h h' c) (w : zCW h d p) (hc : 46 ≤ c) (a b : Int) : zgl3 h' p g a b = zgl3 h p g a b := by
  have hdp := zc_dp w
  unfold zgl3
  rw [ag.ar w hc, ag.n w hc]
  simp only [ag.gz (x := p + 6) (show p + 6 ≠ c by omega), ag.gz (x := p + 2) (show p + 2 ≠ c by omega), ag.gz (x := p + 4) (show p + 4 ≠ c by omega)]
/-- the heap with a goal set -/
noncomputable def zgh (h : zHp) (p g n : Nat) : zHp := zwr h 76 (fun j => zb (zgl3 h p g (j / 12 : Nat) (j % 12 : Nat))) n
theorem cc_aimAt {g : Nat} (w : zCW h d p) (v : zPV h p) (u : zNV h) (hg : g < 3) (k : R none (zgh h p g 144)) : zCC X M_X7_aimAt [.ref 16, .int (zj g)] h R := by
  refine zCC_of (ls := [.ref 16, .int (zj g), .retAddr 0, .retAddr 0]) pf_X7_aimAt rfl (Nat.le_of_ble_eq_true rfl) ?_
  refine vb_X7_aimAt_0 _ _ _ ?_
  simp only [B_X7_aimAt_0, oPI, oPL, oILOAD, oLLOAD, oALOAD, oISTORE, oASTORE, oLSTORE, oIINC, oIADD, oISUB, oIMUL, oIAND, oIOR, oIXOR, oIDIV, oIREM, oISHL, oISHR, oIUSHR, oLADD, oLSUB, oLMUL, oLOR, oLDIV, oLREM, oLCMP, oLSHL, oINEG, oI2L, oL2I, oI2B, oI2C, oDUP, oPOP, oDUP2, oIFEQ, oICEQ, oIFNE, oICNE, oIFLT, oICLT, oIFGE, oICGE, oIFGT, oICGT, oIFLE, oICLE, oIFNULL, oIFNONNULL, oTSW, oLSW, oGETI, oGETL, oGETR, oPUTI, oPUTZ, oPUTL, oPUTR, oIALD, oBALD, oZALD, oLALD, oAALD, oALEN, oIAST, oBAST, oZAST, oLAST, oIRET, oZRET, oLRET, oVRET, oARET, oOBJ, oINI, oPS, oNEW, oNEWAI, oNEWAB, oNEWAZ, oNEWAL, oCOPY, oINV0, oINS0, oINV1, oINS1, oINV2, oINS2, oINV3, oINS3, oINV4, oINS4, oINV5, oINS5, oINV6, oINS6, List.getElem?_cons_zero, List.getElem?_cons_succ, List.set_cons_zero, List.set_cons_succ, znl, zs4, zc1, true_and, and_self, Value.category, Option.toList, List.cons_append, List.nil_append, zvr, zc_s16 w, zc_s17 w, zc_s18 w, zc_s19 w, zc_s32 w, zc_s45 w, zc_s46 w, zc_s47 w, zc_s64 w, zc_s68 w, zc_s69 w, zc_s76 w, zc_s77 w, zc_r16_0 w, zc_r16_1 w, zc_r16_2 w, zc_r16_3 w, zc_r16_4 w, zc_r17_0 w, zc_r17_1 w, zc_r18_0 w, zc_r32_0 w, zc_r32_1 w, zc_r46_0 w, zc_r46_1 w, zc_r68_0 w, zc_r68_1 w]
  have key : ∀ i : Nat, i ≤ 12 → ∀ z : Value, zV X M_X7_aimAt (zQm M_X7_aimAt R) 0 0 2 [.ref 16, .int (zj g), .int (zj i), z] [] (zgh h p g (12 * i)) := by
    refine zdown (P := fun i => ∀ z : Value, zV X M_X7_aimAt (zQm M_X7_aimAt R) 0 0 2 [.ref 16, .int (zj g), .int (zj i), z] [] (zgh h p g (12 * i))) (fun i hi ih z => ?_)
    have w1 : zCW (zgh h p g (12 * i)) d p := w
    refine vb_X7_aimAt_2 _ _ _ ?_
    simp only [B_X7_aimAt_2, oPI, oPL, oILOAD, oLLOAD, oALOAD, oISTORE, oASTORE, oLSTORE, oIINC, oIADD, oISUB, oIMUL, oIAND, oIOR, oIXOR, oIDIV, oIREM, oISHL, oISHR, oIUSHR, oLADD, oLSUB, oLMUL, oLOR, oLDIV, oLREM, oLCMP, oLSHL, oINEG, oI2L, oL2I, oI2B, oI2C, oDUP, oPOP, oDUP2, oIFEQ, oICEQ, oIFNE, oICNE, oIFLT, oICLT, oIFGE, oICGE, oIFGT, oICGT, oIFLE, oICLE, oIFNULL, oIFNONNULL, oTSW, oLSW, oGETI, oGETL, oGETR, oPUTI, oPUTZ, oPUTL, oPUTR, oIALD, oBALD, oZALD, oLALD, oAALD, oALEN, oIAST, oBAST, oZAST, oLAST, oIRET, oZRET, oLRET, oVRET, oARET, oOBJ, oINI, oPS, oNEW, oNEWAI, oNEWAB, oNEWAZ, oNEWAL, oCOPY, oINV0, oINS0, oINV1, oINS1, oINV2, oINS2, oINV3, oINS3, oINV4, oINS4, oINV5, oINS5, oINV6, oINS6, List.getElem?_cons_zero, List.getElem?_cons_succ, List.set_cons_zero, List.set_cons_succ, znl, zs4, zc1, true_and, and_self, Value.category, Option.toList, List.cons_append, List.nil_append, zvr, zc_s16 w1, zc_s17 w1, zc_s18 w1, zc_s19 w1, zc_s32 w1, zc_s45 w1, zc_s46 w1, zc_s47 w1, zc_s64 w1, zc_s68 w1, zc_s69 w1, zc_s76 w1, zc_s77 w1, zc_r16_0 w1, zc_r16_1 w1, zc_r16_2 w1, zc_r16_3 w1, zc_r16_4 w1, zc_r17_0 w1, zc_r17_1 w1, zc_r18_0 w1, zc_r32_0 w1, zc_r32_1 w1, zc_r46_0 w1, zc_r46_1 w1, zc_r68_0 w1, zc_r68_1 w1]
    try simp (disch := omega) only [zgi_gz, zj_cn, zj_lt, zj_le, zj_eq, zj_add, zj_sub, zj_mul, zj_neg, zj_lt0, zj_le0, zj_0le, zj_0lt, zj_eq0]
    by_cases ci : i = 12
    · subst ci
      refine ⟨fun _ => ?_, fun c3 => by omega⟩
      refine vb_X7_aimAt_44 _ _ _ ?_
      simp only [B_X7_aimAt_44, oPI, oPL, oILOAD, oLLOAD, oALOAD, oISTORE, oASTORE, oLSTORE, oIINC, oIADD, oISUB, oIMUL, oIAND, oIOR, oIXOR, oIDIV, oIREM, oISHL, oISHR, oIUSHR, oLADD, oLSUB, oLMUL, oLOR, oLDIV, oLREM, oLCMP, oLSHL, oINEG, oI2L, oL2I, oI2B, oI2C, oDUP, oPOP, oDUP2, oIFEQ, oICEQ, oIFNE, oICNE, oIFLT, oICLT, oIFGE, oICGE, oIFGT, oICGT, oIFLE, oICLE, oIFNULL, oIFNONNULL, oTSW, oLSW, oGETI, oGETL, oGETR, oPUTI, oPUTZ, oPUTL, oPUTR, oIALD, oBALD, oZALD, oLALD, oAALD, oALEN, oIAST, oBAST, oZAST, oLAST, oIRET, oZRET, oLRET, oVRET, oARET, oOBJ, oINI, oPS, oNEW, oNEWAI, oNEWAB, oNEWAZ, oNEWAL, oCOPY, oINV0, oINS0, oINV1, oINS1, oINV2, oINS2, oINV3, oINS3, oINV4, oINS4, oINV5, oINS5, oINV6, oINS6, List.getElem?_cons_zero, List.getElem?_cons_succ, List.set_cons_zero, List.set_cons_succ, znl, zs4, zc1, true_and, and_self, Value.category, Option.toList, List.cons_append, List.nil_append, zvr]
      exact k
    refine ⟨fun c3 => by omega, fun _ => ?_⟩
    refine zdown (m := 12) (P := fun j => zV X M_X7_aimAt (zQm M_X7_aimAt R) 0 0 10 [.ref 16, .int (zj g), .int (zj i), .int (zj j)] [] (zgh h p g (12 * i + j))) (fun j hj ihj => ?_) 0 (by omega)
    have w2 : zCW (zgh h p g (12 * i + j)) d p := w
    have ag : zAg h (zgh h p g (12 * i + j)) 76 := zwr_ag _ _ _ _
    refine vb_X7_aimAt_10 _ _ _ ?_
    simp only [B_X7_aimAt_10, oPI, oPL, oILOAD, oLLOAD, oALOAD, oISTORE, oASTORE, oLSTORE, oIINC, oIADD, oISUB, oIMUL, oIAND, oIOR, oIXOR, oIDIV, oIREM, oISHL, oISHR, oIUSHR, oLADD, oLSUB, oLMUL, oLOR, oLDIV, oLREM, oLCMP, oLSHL, oINEG, oI2L, oL2I, oI2B, oI2C, oDUP, oPOP, oDUP2, oIFEQ, oICEQ, oIFNE, oICNE, oIFLT, oICLT, oIFGE, oICGE, oIFGT, oICGT, oIFLE, oICLE, oIFNULL, oIFNONNULL, oTSW, oLSW, oGETI, oGETL, oGETR, oPUTI, oPUTZ, oPUTL, oPUTR, oIALD, oBALD, oZALD, oLALD, oAALD, oALEN, oIAST, oBAST, oZAST, oLAST, oIRET, oZRET, oLRET, oVRET, oARET, oOBJ, oINI, oPS, oNEW, oNEWAI, oNEWAB, oNEWAZ, oNEWAL, oCOPY, oINV0, oINS0, oINV1, oINS1, oINV2, oINS2, oINV3, oINS3, oINV4, oINS4, oINV5, oINS5, oINV6, oINS6, List.getElem?_cons_zero, List.getElem?_cons_succ, List.set_cons_zero, List.set_cons_succ, znl, zs4, zc1, true_and, and_self, Value.category, Option.toList, List.cons_append, List.nil_append, zvr, zc_s16 w2, zc_s17 w2, zc_s18 w2, zc_s19 w2, zc_s32 w2, zc_s45 w2, zc_s46 w2, zc_s47 w2, zc_s64 w2, zc_s68 w2, zc_s69 w2, zc_s76 w2, zc_s77 w2, zc_r16_0 w2, zc_r16_1 w2, zc_r16_2 w2, zc_r16_3 w2, zc_r16_4 w2, zc_r17_0 w2, zc_r17_1 w2, zc_r18_0 w2, zc_r32_0 w2, zc_r32_1 w2, zc_r46_0 w2, zc_r46_1 w2, zc_r68_0 w2, zc_r68_1 w2]
    try simp (disch := omega) only [zgi_gz, zj_cn, zj_lt, zj_le, zj_eq, zj_add, zj_sub, zj_mul, zj_neg, zj_lt0, zj_le0, zj_0le, zj_0lt, zj_eq0]
    by_cases cj : j = 12
    · subst cj
      refine ⟨fun _ => ?_, fun c3 => by omega⟩
      refine vb_X7_aimAt_38 _ _ _ ?_
      simp only [B_X7_aimAt_38, oPI, oPL, oILOAD, oLLOAD, oALOAD, oISTORE, oASTORE, oLSTORE, oIINC, oIADD, oISUB, oIMUL, oIAND, oIOR, oIXOR, oIDIV, oIREM, oISHL, oISHR, oIUSHR, oLADD, oLSUB, oLMUL, oLOR, oLDIV, oLREM, oLCMP, oLSHL, oINEG, oI2L, oL2I, oI2B, oI2C, oDUP, oPOP, oDUP2, oIFEQ, oICEQ, oIFNE, oICNE, oIFLT, oICLT, oIFGE, oICGE, oIFGT, oICGT, oIFLE, oICLE, oIFNULL, oIFNONNULL, oTSW, oLSW, oGETI, oGETL, oGETR, oPUTI, oPUTZ, oPUTL, oPUTR, oIALD, oBALD, oZALD, oLALD, oAALD, oALEN, oIAST, oBAST, oZAST, oLAST, oIRET, oZRET, oLRET, oVRET, oARET, oOBJ, oINI, oPS, oNEW, oNEWAI, oNEWAB, oNEWAZ, oNEWAL, oCOPY, oINV0, oINS0, oINV1, oINS1, oINV2, oINS2, oINV3, oINS3, oINV4, oINS4, oINV5, oINS5, oINV6, oINS6, List.getElem?_cons_zero, List.getElem?_cons_succ, List.set_cons_zero, List.set_cons_succ, znl, zs4, zc1, true_and, and_self, Value.category, Option.toList, List.cons_append, List.nil_append, zvr]
      try simp (disch := omega) only [zgi_gz, zj_cn, zj_lt, zj_le, zj_eq, zj_add, zj_sub, zj_mul, zj_neg, zj_lt0, zj_le0, zj_0le, zj_0lt, zj_eq0]
      rw [show 12 * i + 12 = 12 * (i + 1) by omega]
      exact ih (by omega) _
    refine ⟨fun c3 => by omega, fun _ => ?_⟩
    refine cc_isAt w2 (ag.PV w (by omega) v) (ag.NV (by omega) u) hg (by omega) (by omega) (by omega) (by omega) ?_
    rw [ag.g3 w (by omega)]
    simp only [oPI, oPL, oILOAD, oLLOAD, oALOAD, oISTORE, oASTORE, oLSTORE, oIINC, oIADD, oISUB, oIMUL, oIAND, oIOR, oIXOR, oIDIV, oIREM, oISHL, oISHR, oIUSHR, oLADD, oLSUB, oLMUL, oLOR, oLDIV, oLREM, oLCMP, oLSHL, oINEG, oI2L, oL2I, oI2B, oI2C, oDUP, oPOP, oDUP2, oIFEQ, oICEQ, oIFNE, oICNE, oIFLT, oICLT, oIFGE, oICGE, oIFGT, oICGT, oIFLE, oICLE, oIFNULL, oIFNONNULL, oTSW, oLSW, oGETI, oGETL, oGETR, oPUTI, oPUTZ, oPUTL, oPUTR, oIALD, oBALD, oZALD, oLALD, oAALD, oALEN, oIAST, oBAST, oZAST, oLAST, oIRET, oZRET, oLRET, oVRET, oARET, oOBJ, oINI, oPS, oNEW, oNEWAI, oNEWAB, oNEWAZ, oNEWAL, oCOPY, oINV0, oINS0, oINV1, oINS1, oINV2, oINS2, oINV3, oINS3, oINV4, oINS4, oINV5, oINS5, oINV6, oINS6, List.getElem?_cons_zero, List.getElem?_cons_succ, List.set_cons_zero, List.set_cons_succ, znl, zs4, zc1, true_and, and_self, Value.category, Option.toList, List.cons_append, List.nil_append, zvr, zc_s16 w2, zc_s17 w2, zc_s18 w2, zc_s19 w2, zc_s32 w2, zc_s45 w2, zc_s46 w2, zc_s47 w2, zc_s64 w2, zc_s68 w2, zc_s69 w2, zc_s76 w2, zc_s77 w2, zc_r16_0 w2, zc_r16_1 w2, zc_r16_2 w2, zc_r16_3 w2, zc_r16_4 w2, zc_r17_0 w2, zc_r17_1 w2, zc_r18_0 w2, zc_r32_0 w2, zc_r32_1 w2, zc_r46_0 w2, zc_r46_1 w2, zc_r68_0 w2, zc_r68_1 w2]
    have e1 : (i : Int) = (((12 * i + j) / 12 : Nat) : Int) := by omega
    have e2 : (j : Int) = (((12 * i + j) % 12 : Nat) : Int) := by omega
    have key : zCC X M_X3_aim [.ref 68, .int (zj ((12 * i + j) / 12 : Nat)), .int (zj ((12 * i + j) % 12 : Nat)), .int (zb (zgl3 h p g ((12 * i + j) / 12 : Nat) ((12 * i + j) % 12 : Nat)))] (zgh h p g (12 * i + j)) (fun rv h' => zV X M_X7_aimAt (zQm M_X7_aimAt R) 0 0 10 [.ref 16, .int (zj g), .int (zj i), .int (zj (j + 1))] (rv.toList ++ []) h') := by
      refine cc_aim w2 (by omega) ?_
      have e3 : zpi (zgh h p g (12 * i + j)) 76 (12 * i + j) (zb (zgl3 h p g ((12 * i + j) / 12 : Nat) ((12 * i + j) % 12 : Nat))) = zgh h p g (12 * i + j + 1) := zwr_s h 76 (fun j => zb (zgl3 h p g (j / 12 : Nat) (j % 12 : Nat))) (12 * i + j)
      rw [e3]
      exact ihj (by omega)
    rw [← e1, ← e2] at key
    exact key
  have q := key 0 (by omega) (.retAddr 0)
  rw [show zgh h p g (12 * 0) = h from zwr_0 _ _ _] at q
  exact q
end ZRW
