section ZMB
variable {X : Nat × (Nat → Int32)} {R : zRt} {h : zHp} {p : Nat}
/-- how the told tube of the Model stands to the class's plan -/
def zTR (h : zHp) (p : Nat) : Prop := gz h 87 1 = gz h p 1 ∧ gz h 87 0 = gz h p 0 ∧ gz h 87 2 = (zcnt (fun b => ¬ gz h (p + 5) b = -2) (zn h p) : Nat) ∧ gz h 87 3 = (zcnt (fun b => ¬ gz h (p + 6) b = -2) (zn h p) : Nat) ∧ gz h 87 4 = gz h p 8 ∧ gz h 87 5 = gz h p 11 ∧ gz h 87 6 = gz h p 13 ∧ (∀ b : Nat, b < zn h p → gz h 88 b = zS h p b ∧ gz h 89 b = gz h (p + 4) b ∧ gz h 90 b = gz h (p + 5) b ∧ gz h 91 b = gz h (p + 6) b ∧ zCq (zgl h (p + 3) b) (zgl h 92 b)) ∧ (∀ i : Nat, (i : Int) < gz h p 8 → gz h 93 i = gz h (p + 7) i ∧ zCq (zgl h (p + 8) i) (zgl h 97 i)) ∧ (∀ i : Nat, (i : Int) < gz h p 11 → gz h 94 i = gz h (p + 9) i)
theorem zTR.ag {h' : zHp} {c : Nat} (r : zTR h p) (ag : zAg h h' c) (hp : p = 20 ∨ p = 33) (hc : 45 ≤ c ∧ c ≤ 86) : zTR h' p := by
  unfold zTR at r ⊢
  have en : zn h' p = zn h p := by unfold zn; rw [ag.gz (by omega)]
  have g : ∀ x y, x < 45 ∨ 86 < x → gz h' x y = gz h x y := fun x y hx => ag.gz (by omega) y
  have e5 : zcnt (fun b => ¬ gz h' (p + 5) b = -2) (zn h p) = zcnt (fun b => ¬ gz h (p + 5) b = -2) (zn h p) := zcnt_c _ (fun i _ => by rw [g _ _ (by omega)])
  have e6 : zcnt (fun b => ¬ gz h' (p + 6) b = -2) (zn h p) = zcnt (fun b => ¬ gz h (p + 6) b = -2) (zn h p) := zcnt_c _ (fun i _ => by rw [g _ _ (by omega)])
  rw [en, e5, e6, g 87 _ (by omega), g 87 _ (by omega), g 87 _ (by omega), g 87 _ (by omega), g 87 _ (by omega), g 87 _ (by omega), g 87 _ (by omega), g p _ (by omega), g p _ (by omega), g p _ (by omega), g p _ (by omega), g p _ (by omega)]
  refine ⟨r.1, r.2.1, r.2.2.1, r.2.2.2.1, r.2.2.2.2.1, r.2.2.2.2.2.1, r.2.2.2.2.2.2.1, fun b hb => ?_, fun i hi => ?_, fun i hi => ?_⟩
  · unfold zS
    rw [g 88 _ (by omega), g 89 _ (by omega), g 90 _ (by omega), g 91 _ (by omega), g (p + 2) _ (by omega), g (p + 4) _ (by omega), g (p + 5) _ (by omega), g (p + 6) _ (by omega), ag.gl, ag.gl]
    exact r.2.2.2.2.2.2.2.1 b hb
  · rw [g 93 _ (by omega), g (p + 7) _ (by omega), ag.gl, ag.gl]
    exact r.2.2.2.2.2.2.2.2.1 i hi
  · rw [g 94 _ (by omega), g (p + 9) _ (by omega)]
    exact r.2.2.2.2.2.2.2.2.2 i hi
theorem zPV.ag' {h' : zHp} {c : Nat} (v : zPV h p) (a : zAg h h' c) (hp : p = 20 ∨ p = 33) (hc : 45 ≤ c) : zPV h' p := by
  unfold zPV at v ⊢
  rw [a.gz (x := p) (by omega), a.gz (x := p) (by omega), a.gz (x := p) (by omega), a.gz (x := p) (by omega), a.gz (x := p) (by omega)]
  refine ⟨v.1, fun b hb => ?_, v.2.2.1, fun b hb => ?_, v.2.2.2.2.1, fun b hb => ?_, v.2.2.2.2.2.2.1, fun b hb => ?_, v.2.2.2.2.2.2.2.2⟩
  · rw [a.gz (x := p + 2) (by omega), a.gz (x := p + 4) (by omega), a.gz (x := p + 5) (by omega), a.gz (x := p + 6) (by omega)]
    exact v.2.1 b hb
  · rw [a.gz (x := p + 7) (by omega)]
    exact v.2.2.2.1 b hb
  · rw [a.gz (x := p + 9) (by omega)]
    exact v.2.2.2.2.2.1 b hb
  · rw [a.gz (x := p + 11) (by omega)]
    exact v.2.2.2.2.2.2.2.1 b hb
def zrf (h : zHp) (t : Int) : zHp := zpi (zpi h 78 1 (zj t)) 78 2 (zj (-1))
theorem cm_refused {n : Int} (w : zMW h) (k : R (some (.int (zj (-1)))) (zrf h n)) : zCC X M_X9_refused [.ref 78, .int (zj n)] h R := by
  refine zCC_of (ls := [.ref 78, .int (zj n)]) pf_X9_refused rfl (Nat.le_of_ble_eq_true rfl) ?_
  refine vb_X9_refused_0 _ _ _ ?_
  simp only [B_X9_refused_0, oPI, oPL, oILOAD, oLLOAD, oALOAD, oISTORE, oASTORE, oLSTORE, oIINC, oIADD, oISUB, oIMUL, oIAND, oIOR, oIXOR, oIDIV, oIREM, oISHL, oISHR, oIUSHR, oLADD, oLSUB, oLMUL, oLOR, oLDIV, oLREM, oLCMP, oLSHL, oINEG, oI2L, oL2I, oI2B, oI2C, oDUP, oPOP, oDUP2, oIFEQ, oICEQ, oIFNE, oICNE, oIFLT, oICLT, oIFGE, oICGE, oIFGT, oICGT, oIFLE, oICLE, oIFNULL, oIFNONNULL, oTSW, oLSW, oGETI, oGETL, oGETR, oPUTI, oPUTZ, oPUTL, oPUTR, oIALD, oBALD, oZALD, oLALD, oAALD, oALEN, oIAST, oBAST, oZAST, oLAST, oIRET, oZRET, oLRET, oVRET, oARET, oOBJ, oINI, oPS, oNEW, oNEWAI, oNEWAB, oNEWAZ, oNEWAL, oCOPY, oINV0, oINS0, oINV1, oINS1, oINV2, oINS2, oINV3, oINS3, oINV4, oINS4, oINV5, oINS5, oINV6, oINS6, List.getElem?_cons_zero, List.getElem?_cons_succ, List.set_cons_zero, List.set_cons_succ, znl, zs4, zc1, true_and, and_self, Value.category, Option.toList, List.cons_append, List.nil_append, zvr, mw_s w, mw_s79 w, mw_s80 w, mw_s81 w, mw_s82 w, mw_s83 w, mw_s84 w, mw_s85 w, mw_r5 w, mw_r15 w, mw_r16 w, mw_r17 w, mw_r18 w, mw_r21 w, mw_r22 w, zsh_pi]
  exact k
theorem cm_good {x : Int32} (w : zMW h) (k : R (some (.int x)) (zrf h 0)) : zCC X M_X9_good [.ref 78, .int x] h R := by
  refine zCC_of (ls := [.ref 78, .int x]) pf_X9_good rfl (Nat.le_of_ble_eq_true rfl) ?_
  refine vb_X9_good_0 _ _ _ ?_
  simp only [B_X9_good_0, oPI, oPL, oILOAD, oLLOAD, oALOAD, oISTORE, oASTORE, oLSTORE, oIINC, oIADD, oISUB, oIMUL, oIAND, oIOR, oIXOR, oIDIV, oIREM, oISHL, oISHR, oIUSHR, oLADD, oLSUB, oLMUL, oLOR, oLDIV, oLREM, oLCMP, oLSHL, oINEG, oI2L, oL2I, oI2B, oI2C, oDUP, oPOP, oDUP2, oIFEQ, oICEQ, oIFNE, oICNE, oIFLT, oICLT, oIFGE, oICGE, oIFGT, oICGT, oIFLE, oICLE, oIFNULL, oIFNONNULL, oTSW, oLSW, oGETI, oGETL, oGETR, oPUTI, oPUTZ, oPUTL, oPUTR, oIALD, oBALD, oZALD, oLALD, oAALD, oALEN, oIAST, oBAST, oZAST, oLAST, oIRET, oZRET, oLRET, oVRET, oARET, oOBJ, oINI, oPS, oNEW, oNEWAI, oNEWAB, oNEWAZ, oNEWAL, oCOPY, oINV0, oINS0, oINV1, oINS1, oINV2, oINS2, oINV3, oINS3, oINV4, oINS4, oINV5, oINS5, oINV6, oINS6, List.getElem?_cons_zero, List.getElem?_cons_succ, List.set_cons_zero, List.set_cons_succ, znl, zs4, zc1, true_and, and_self, Value.category, Option.toList, List.cons_append, List.nil_append, zvr, mw_s w, mw_s79 w, mw_s80 w, mw_s81 w, mw_s82 w, mw_s83 w, mw_s84 w, mw_s85 w, mw_r5 w, mw_r15 w, mw_r16 w, mw_r17 w, mw_r18 w, mw_r21 w, mw_r22 w, zsh_pi]
  exact k
theorem cm_lost {n : Int} (w : zMW h) (k : R (some (.int (zj (-100)))) (zrf h n)) : zCC X M_X9_lost [.ref 78, .int (zj n)] h R := by
  refine zCC_of (ls := [.ref 78, .int (zj n)]) pf_X9_lost rfl (Nat.le_of_ble_eq_true rfl) ?_
  refine vb_X9_lost_0 _ _ _ ?_
  simp only [B_X9_lost_0, oPI, oPL, oILOAD, oLLOAD, oALOAD, oISTORE, oASTORE, oLSTORE, oIINC, oIADD, oISUB, oIMUL, oIAND, oIOR, oIXOR, oIDIV, oIREM, oISHL, oISHR, oIUSHR, oLADD, oLSUB, oLMUL, oLOR, oLDIV, oLREM, oLCMP, oLSHL, oINEG, oI2L, oL2I, oI2B, oI2C, oDUP, oPOP, oDUP2, oIFEQ, oICEQ, oIFNE, oICNE, oIFLT, oICLT, oIFGE, oICGE, oIFGT, oICGT, oIFLE, oICLE, oIFNULL, oIFNONNULL, oTSW, oLSW, oGETI, oGETL, oGETR, oPUTI, oPUTZ, oPUTL, oPUTR, oIALD, oBALD, oZALD, oLALD, oAALD, oALEN, oIAST, oBAST, oZAST, oLAST, oIRET, oZRET, oLRET, oVRET, oARET, oOBJ, oINI, oPS, oNEW, oNEWAI, oNEWAB, oNEWAZ, oNEWAL, oCOPY, oINV0, oINS0, oINV1, oINS1, oINV2, oINS2, oINV3, oINS3, oINV4, oINS4, oINV5, oINS5, oINV6, oINS6, List.getElem?_cons_zero, List.getElem?_cons_succ, List.set_cons_zero, List.set_cons_succ, znl, zs4, zc1, true_and, and_self, Value.category, Option.toList, List.cons_append, List.nil_append, zvr, mw_s w, mw_s79 w, mw_s80 w, mw_s81 w, mw_s82 w, mw_s83 w, mw_s84 w, mw_s85 w, mw_r5 w, mw_r15 w, mw_r16 w, mw_r17 w, mw_r18 w, mw_r21 w, mw_r22 w, zsh_pi]
  refine cm_refused w ?_
  simp only [oPI, oPL, oILOAD, oLLOAD, oALOAD, oISTORE, oASTORE, oLSTORE, oIINC, oIADD, oISUB, oIMUL, oIAND, oIOR, oIXOR, oIDIV, oIREM, oISHL, oISHR, oIUSHR, oLADD, oLSUB, oLMUL, oLOR, oLDIV, oLREM, oLCMP, oLSHL, oINEG, oI2L, oL2I, oI2B, oI2C, oDUP, oPOP, oDUP2, oIFEQ, oICEQ, oIFNE, oICNE, oIFLT, oICLT, oIFGE, oICGE, oIFGT, oICGT, oIFLE, oICLE, oIFNULL, oIFNONNULL, oTSW, oLSW, oGETI, oGETL, oGETR, oPUTI, oPUTZ, oPUTL, oPUTR, oIALD, oBALD, oZALD, oLALD, oAALD, oALEN, oIAST, oBAST, oZAST, oLAST, oIRET, oZRET, oLRET, oVRET, oARET, oOBJ, oINI, oPS, oNEW, oNEWAI, oNEWAB, oNEWAZ, oNEWAL, oCOPY, oINV0, oINS0, oINV1, oINS1, oINV2, oINS2, oINV3, oINS3, oINV4, oINS4, oINV5, oINS5, oINV6, oINS6, List.getElem?_cons_zero, List.getElem?_cons_succ, List.set_cons_zero, List.set_cons_succ, znl, zs4, zc1, true_and, and_self, Value.category, Option.toList, List.cons_append, List.nil_append, zvr]
  exact k
theorem cm_denied {n : Int} (w : zMW h) (k : R (some (.int (zj 0))) (zrf h n)) : zCC X M_X9_denied [.ref 78, .int (zj n)] h R := by
  refine zCC_of (ls := [.ref 78, .int (zj n)]) pf_X9_denied rfl (Nat.le_of_ble_eq_true rfl) ?_
  refine vb_X9_denied_0 _ _ _ ?_
  simp only [B_X9_denied_0, oPI, oPL, oILOAD, oLLOAD, oALOAD, oISTORE, oASTORE, oLSTORE, oIINC, oIADD, oISUB, oIMUL, oIAND, oIOR, oIXOR, oIDIV, oIREM, oISHL, oISHR, oIUSHR, oLADD, oLSUB, oLMUL, oLOR, oLDIV, oLREM, oLCMP, oLSHL, oINEG, oI2L, oL2I, oI2B, oI2C, oDUP, oPOP, oDUP2, oIFEQ, oICEQ, oIFNE, oICNE, oIFLT, oICLT, oIFGE, oICGE, oIFGT, oICGT, oIFLE, oICLE, oIFNULL, oIFNONNULL, oTSW, oLSW, oGETI, oGETL, oGETR, oPUTI, oPUTZ, oPUTL, oPUTR, oIALD, oBALD, oZALD, oLALD, oAALD, oALEN, oIAST, oBAST, oZAST, oLAST, oIRET, oZRET, oLRET, oVRET, oARET, oOBJ, oINI, oPS, oNEW, oNEWAI, oNEWAB, oNEWAZ, oNEWAL, oCOPY, oINV0, oINS0, oINV1, oINS1, oINV2, oINS2, oINV3, oINS3, oINV4, oINS4, oINV5, oINS5, oINV6, oINS6, List.getElem?_cons_zero, List.getElem?_cons_succ, List.set_cons_zero, List.set_cons_succ, znl, zs4, zc1, true_and, and_self, Value.category, Option.toList, List.cons_append, List.nil_append, zvr, mw_s w, mw_s79 w, mw_s80 w, mw_s81 w, mw_s82 w, mw_s83 w, mw_s84 w, mw_s85 w, mw_r5 w, mw_r15 w, mw_r16 w, mw_r17 w, mw_r18 w, mw_r21 w, mw_r22 w, zsh_pi]
  refine cm_refused w ?_
  simp only [oPI, oPL, oILOAD, oLLOAD, oALOAD, oISTORE, oASTORE, oLSTORE, oIINC, oIADD, oISUB, oIMUL, oIAND, oIOR, oIXOR, oIDIV, oIREM, oISHL, oISHR, oIUSHR, oLADD, oLSUB, oLMUL, oLOR, oLDIV, oLREM, oLCMP, oLSHL, oINEG, oI2L, oL2I, oI2B, oI2C, oDUP, oPOP, oDUP2, oIFEQ, oICEQ, oIFNE, oICNE, oIFLT, oICLT, oIFGE, oICGE, oIFGT, oICGT, oIFLE, oICLE, oIFNULL, oIFNONNULL, oTSW, oLSW, oGETI, oGETL, oGETR, oPUTI, oPUTZ, oPUTL, oPUTR, oIALD, oBALD, oZALD, oLALD, oAALD, oALEN, oIAST, oBAST, oZAST, oLAST, oIRET, oZRET, oLRET, oVRET, oARET, oOBJ, oINI, oPS, oNEW, oNEWAI, oNEWAB, oNEWAZ, oNEWAL, oCOPY, oINV0, oINS0, oINV1, oINS1, oINV2, oINS2, oINV3, oINS3, oINV4, oINS4, oINV5, oINS5, oINV6, oINS6, List.getElem?_cons_zero, List.getElem?_cons_succ, List.set_cons_zero, List.set_cons_succ, znl, zs4, zc1, true_and, and_self, Value.category, Option.toList, List.cons_append, List.nil_append, zvr]
  exact ⟨(by first | exact Or.inl rfl | exact Or.inr rfl | simp), k⟩
theorem cm_granted (w : zMW h) (k : R (some (.int (zj 1))) (zrf h 0)) : zCC X M_X9_granted [.ref 78] h R := by
  refine zCC_of (ls := [.ref 78]) pf_X9_granted rfl (Nat.le_of_ble_eq_true rfl) ?_
  refine vb_X9_granted_0 _ _ _ ?_
  simp only [B_X9_granted_0, oPI, oPL, oILOAD, oLLOAD, oALOAD, oISTORE, oASTORE, oLSTORE, oIINC, oIADD, oISUB, oIMUL, oIAND, oIOR, oIXOR, oIDIV, oIREM, oISHL, oISHR, oIUSHR, oLADD, oLSUB, oLMUL, oLOR, oLDIV, oLREM, oLCMP, oLSHL, oINEG, oI2L, oL2I, oI2B, oI2C, oDUP, oPOP, oDUP2, oIFEQ, oICEQ, oIFNE, oICNE, oIFLT, oICLT, oIFGE, oICGE, oIFGT, oICGT, oIFLE, oICLE, oIFNULL, oIFNONNULL, oTSW, oLSW, oGETI, oGETL, oGETR, oPUTI, oPUTZ, oPUTL, oPUTR, oIALD, oBALD, oZALD, oLALD, oAALD, oALEN, oIAST, oBAST, oZAST, oLAST, oIRET, oZRET, oLRET, oVRET, oARET, oOBJ, oINI, oPS, oNEW, oNEWAI, oNEWAB, oNEWAZ, oNEWAL, oCOPY, oINV0, oINS0, oINV1, oINS1, oINV2, oINS2, oINV3, oINS3, oINV4, oINS4, oINV5, oINS5, oINV6, oINS6, List.getElem?_cons_zero, List.getElem?_cons_succ, List.set_cons_zero, List.set_cons_succ, znl, zs4, zc1, true_and, and_self, Value.category, Option.toList, List.cons_append, List.nil_append, zvr, mw_s w, mw_s79 w, mw_s80 w, mw_s81 w, mw_s82 w, mw_s83 w, mw_s84 w, mw_s85 w, mw_r5 w, mw_r15 w, mw_r16 w, mw_r17 w, mw_r18 w, mw_r21 w, mw_r22 w, zsh_pi]
  refine cm_good w ?_
  simp only [oPI, oPL, oILOAD, oLLOAD, oALOAD, oISTORE, oASTORE, oLSTORE, oIINC, oIADD, oISUB, oIMUL, oIAND, oIOR, oIXOR, oIDIV, oIREM, oISHL, oISHR, oIUSHR, oLADD, oLSUB, oLMUL, oLOR, oLDIV, oLREM, oLCMP, oLSHL, oINEG, oI2L, oL2I, oI2B, oI2C, oDUP, oPOP, oDUP2, oIFEQ, oICEQ, oIFNE, oICNE, oIFLT, oICLT, oIFGE, oICGE, oIFGT, oICGT, oIFLE, oICLE, oIFNULL, oIFNONNULL, oTSW, oLSW, oGETI, oGETL, oGETR, oPUTI, oPUTZ, oPUTL, oPUTR, oIALD, oBALD, oZALD, oLALD, oAALD, oALEN, oIAST, oBAST, oZAST, oLAST, oIRET, oZRET, oLRET, oVRET, oARET, oOBJ, oINI, oPS, oNEW, oNEWAI, oNEWAB, oNEWAZ, oNEWAL, oCOPY, oINV0, oINS0, oINV1, oINS1, oINV2, oINS2, oINV3, oINS3, oINV4, oINS4, oINV5, oINS5, oINV6, oINS6, List.getElem?_cons_zero, List.getElem?_cons_succ, List.set_cons_zero, List.set_cons_succ, znl, zs4, zc1, true_and, and_self, Value.category, Option.toList, List.cons_append, List.nil_append, zvr]
  exact ⟨(by first | exact Or.inl rfl | exact Or.inr rfl | simp), k⟩
theorem cm_in {a b c : Int} (h1 : -2147483648 ≤ a) (h2 : a < 2147483648) (h3 : -2147483648 ≤ b) (h4 : b < 2147483648) (h5 : -2147483648 ≤ c) (h6 : c < 2147483648) (k : R (some (.int (zb (b ≤ a ∧ a ≤ c)))) h) : zCC X M_X9_in [.int (zj a), .int (zj b), .int (zj c)] h R := by
  refine zCC_of (ls := [.int (zj a), .int (zj b), .int (zj c)]) pf_X9_in rfl (Nat.le_of_ble_eq_true rfl) ?_
  refine vb_X9_in_0 _ _ _ ?_
  simp only [B_X9_in_0, oPI, oPL, oILOAD, oLLOAD, oALOAD, oISTORE, oASTORE, oLSTORE, oIINC, oIADD, oISUB, oIMUL, oIAND, oIOR, oIXOR, oIDIV, oIREM, oISHL, oISHR, oIUSHR, oLADD, oLSUB, oLMUL, oLOR, oLDIV, oLREM, oLCMP, oLSHL, oINEG, oI2L, oL2I, oI2B, oI2C, oDUP, oPOP, oDUP2, oIFEQ, oICEQ, oIFNE, oICNE, oIFLT, oICLT, oIFGE, oICGE, oIFGT, oICGT, oIFLE, oICLE, oIFNULL, oIFNONNULL, oTSW, oLSW, oGETI, oGETL, oGETR, oPUTI, oPUTZ, oPUTL, oPUTR, oIALD, oBALD, oZALD, oLALD, oAALD, oALEN, oIAST, oBAST, oZAST, oLAST, oIRET, oZRET, oLRET, oVRET, oARET, oOBJ, oINI, oPS, oNEW, oNEWAI, oNEWAB, oNEWAZ, oNEWAL, oCOPY, oINV0, oINS0, oINV1, oINS1, oINV2, oINS2, oINV3, oINS3, oINV4, oINS4, oINV5, oINS5, oINV6, oINS6, List.getElem?_cons_zero, List.getElem?_cons_succ, List.set_cons_zero, List.set_cons_succ, znl, zs4, zc1, true_and, and_self, Value.category, Option.toList, List.cons_append, List.nil_append, zvr]
  try simp (disch := omega) only [zgi_gz, zj_cn, zj_lt, zj_le, zj_eq, zj_add, zj_sub, zj_mul, zj_neg, zj_lt0, zj_le0, zj_0le, zj_0lt, zj_eq0, zb_0, zb_z, Classical.not_not, Int.zero_add, Int.add_zero, zj_remn, zj_divn]
  repeat' (first
    | ((rw [zb_f (by omega)] at k; exact ⟨(by first | exact Or.inl rfl | exact Or.inr rfl | simp), k⟩))
    | ((rw [zb_t (by omega)] at k; exact ⟨(by first | exact Or.inl rfl | exact Or.inr rfl | simp), k⟩))
    | (refine vb_X9_in_0 _ _ _ ?_; simp only [B_X9_in_0, oPI, oPL, oILOAD, oLLOAD, oALOAD, oISTORE, oASTORE, oLSTORE, oIINC, oIADD, oISUB, oIMUL, oIAND, oIOR, oIXOR, oIDIV, oIREM, oISHL, oISHR, oIUSHR, oLADD, oLSUB, oLMUL, oLOR, oLDIV, oLREM, oLCMP, oLSHL, oINEG, oI2L, oL2I, oI2B, oI2C, oDUP, oPOP, oDUP2, oIFEQ, oICEQ, oIFNE, oICNE, oIFLT, oICLT, oIFGE, oICGE, oIFGT, oICGT, oIFLE, oICLE, oIFNULL, oIFNONNULL, oTSW, oLSW, oGETI, oGETL, oGETR, oPUTI, oPUTZ, oPUTL, oPUTR, oIALD, oBALD, oZALD, oLALD, oAALD, oALEN, oIAST, oBAST, oZAST, oLAST, oIRET, oZRET, oLRET, oVRET, oARET, oOBJ, oINI, oPS, oNEW, oNEWAI, oNEWAB, oNEWAZ, oNEWAL, oCOPY, oINV0, oINS0, oINV1, oINS1, oINV2, oINS2, oINV3, oINS3, oINV4, oINS4, oINV5, oINS5, oINV6, oINS6, List.getElem?_cons_zero, List.getElem?_cons_succ, List.set_cons_zero, List.set_cons_succ, znl, zs4, zc1, true_and, and_self, Value.category, Option.toList, List.cons_append, List.nil_append, zvr, zb_0]; try simp (disch := omega) only [zgi_gz, zj_cn, zj_lt, zj_le, zj_eq, zj_add, zj_sub, zj_mul, zj_neg, zj_lt0, zj_le0, zj_0le, zj_0lt, zj_eq0, zb_0, zb_z, Classical.not_not, Int.zero_add, Int.add_zero, zj_remn, zj_divn])
    | (refine vb_X9_in_14 _ _ _ ?_; simp only [B_X9_in_14, oPI, oPL, oILOAD, oLLOAD, oALOAD, oISTORE, oASTORE, oLSTORE, oIINC, oIADD, oISUB, oIMUL, oIAND, oIOR, oIXOR, oIDIV, oIREM, oISHL, oISHR, oIUSHR, oLADD, oLSUB, oLMUL, oLOR, oLDIV, oLREM, oLCMP, oLSHL, oINEG, oI2L, oL2I, oI2B, oI2C, oDUP, oPOP, oDUP2, oIFEQ, oICEQ, oIFNE, oICNE, oIFLT, oICLT, oIFGE, oICGE, oIFGT, oICGT, oIFLE, oICLE, oIFNULL, oIFNONNULL, oTSW, oLSW, oGETI, oGETL, oGETR, oPUTI, oPUTZ, oPUTL, oPUTR, oIALD, oBALD, oZALD, oLALD, oAALD, oALEN, oIAST, oBAST, oZAST, oLAST, oIRET, oZRET, oLRET, oVRET, oARET, oOBJ, oINI, oPS, oNEW, oNEWAI, oNEWAB, oNEWAZ, oNEWAL, oCOPY, oINV0, oINS0, oINV1, oINS1, oINV2, oINS2, oINV3, oINS3, oINV4, oINS4, oINV5, oINS5, oINV6, oINS6, List.getElem?_cons_zero, List.getElem?_cons_succ, List.set_cons_zero, List.set_cons_succ, znl, zs4, zc1, true_and, and_self, Value.category, Option.toList, List.cons_append, List.nil_append, zvr, zb_0]; try simp (disch := omega) only [zgi_gz, zj_cn, zj_lt, zj_le, zj_eq, zj_add, zj_sub, zj_mul, zj_neg, zj_lt0, zj_le0, zj_0le, zj_0lt, zj_eq0, zb_0, zb_z, Classical.not_not, Int.zero_add, Int.add_zero, zj_remn, zj_divn])
    | (refine vb_X9_in_15 _ _ _ ?_; simp only [B_X9_in_15, oPI, oPL, oILOAD, oLLOAD, oALOAD, oISTORE, oASTORE, oLSTORE, oIINC, oIADD, oISUB, oIMUL, oIAND, oIOR, oIXOR, oIDIV, oIREM, oISHL, oISHR, oIUSHR, oLADD, oLSUB, oLMUL, oLOR, oLDIV, oLREM, oLCMP, oLSHL, oINEG, oI2L, oL2I, oI2B, oI2C, oDUP, oPOP, oDUP2, oIFEQ, oICEQ, oIFNE, oICNE, oIFLT, oICLT, oIFGE, oICGE, oIFGT, oICGT, oIFLE, oICLE, oIFNULL, oIFNONNULL, oTSW, oLSW, oGETI, oGETL, oGETR, oPUTI, oPUTZ, oPUTL, oPUTR, oIALD, oBALD, oZALD, oLALD, oAALD, oALEN, oIAST, oBAST, oZAST, oLAST, oIRET, oZRET, oLRET, oVRET, oARET, oOBJ, oINI, oPS, oNEW, oNEWAI, oNEWAB, oNEWAZ, oNEWAL, oCOPY, oINV0, oINS0, oINV1, oINS1, oINV2, oINS2, oINV3, oINS3, oINV4, oINS4, oINV5, oINS5, oINV6, oINS6, List.getElem?_cons_zero, List.getElem?_cons_succ, List.set_cons_zero, List.set_cons_succ, znl, zs4, zc1, true_and, and_self, Value.category, Option.toList, List.cons_append, List.nil_append, zvr, zb_0]; try simp (disch := omega) only [zgi_gz, zj_cn, zj_lt, zj_le, zj_eq, zj_add, zj_sub, zj_mul, zj_neg, zj_lt0, zj_le0, zj_0le, zj_0lt, zj_eq0, zb_0, zb_z, Classical.not_not, Int.zero_add, Int.add_zero, zj_remn, zj_divn])
    | refine ⟨zj_in (by omega) (by omega) (by omega), ?_⟩
    | refine ⟨(by decide), ?_⟩
    | refine ⟨(by first | exact Or.inl rfl | exact Or.inr rfl), ?_⟩
    | refine ⟨fun _ => ?_, fun _ => ?_⟩)
theorem z_tb {n k : Nat} : (n &&& 2 ^ k = 0) = (n.testBit k = false) := by
  apply propext
  constructor
  · intro e
    have := congrArg (fun x => x.testBit k) e
    simpa [Nat.testBit_and, Nat.testBit_two_pow] using this
  · intro e
    apply Nat.eq_of_testBit_eq
    intro i
    rw [Nat.testBit_and, Nat.testBit_two_pow, Nat.zero_testBit]
    by_cases c : k = i
    · subst c; rw [e]; rfl
    · simp [c]
theorem zwr_o {h : zHp} {c : Nat} {f : Nat → Int32} {n x y : Nat} (hx : ¬ (x = c ∧ y < n)) : zgi (zwr h c f n) x y = zgi h x y := if_neg hx
theorem gz_wro {h : zHp} {c : Nat} {f : Nat → Int32} {n x y : Nat} (hx : ¬ (x = c ∧ y < n)) : gz (zwr h c f n) x y = gz h x y := congrArg Int32.toInt (zwr_o hx)
theorem cm_has {s k' : Nat} (h1 : s < 4096) (h2 : k' < 12) (k : R (some (.int (zb (s.testBit k' = true)))) h) : zCC X M_X9_has [.int (zj s), .int (zj k')] h R := by
  have e := zhas_64 k' h2 (s / 64) (by omega) (s % 64) (by omega)
  rw [show 64 * (s / 64) + s % 64 = s by omega] at e
  refine zCC_of (ls := [.int (zj s), .int (zj k')]) pf_X9_has rfl (Nat.le_of_ble_eq_true rfl) ?_
  refine vb_X9_has_0 _ _ _ ?_
  simp only [B_X9_has_0, oPI, oPL, oILOAD, oLLOAD, oALOAD, oISTORE, oASTORE, oLSTORE, oIINC, oIADD, oISUB, oIMUL, oIAND, oIOR, oIXOR, oIDIV, oIREM, oISHL, oISHR, oIUSHR, oLADD, oLSUB, oLMUL, oLOR, oLDIV, oLREM, oLCMP, oLSHL, oINEG, oI2L, oL2I, oI2B, oI2C, oDUP, oPOP, oDUP2, oIFEQ, oICEQ, oIFNE, oICNE, oIFLT, oICLT, oIFGE, oICGE, oIFGT, oICGT, oIFLE, oICLE, oIFNULL, oIFNONNULL, oTSW, oLSW, oGETI, oGETL, oGETR, oPUTI, oPUTZ, oPUTL, oPUTR, oIALD, oBALD, oZALD, oLALD, oAALD, oALEN, oIAST, oBAST, oZAST, oLAST, oIRET, oZRET, oLRET, oVRET, oARET, oOBJ, oINI, oPS, oNEW, oNEWAI, oNEWAB, oNEWAZ, oNEWAL, oCOPY, oINV0, oINS0, oINV1, oINS1, oINV2, oINS2, oINV3, oINS3, oINV4, oINS4, oINV5, oINS5, oINV6, oINS6, List.getElem?_cons_zero, List.getElem?_cons_succ, List.set_cons_zero, List.set_cons_succ, znl, zs4, zc1, true_and, and_self, Value.category, Option.toList, List.cons_append, List.nil_append, zvr]
  rw [e]
  cases hb : s.testBit k'
  · rw [hb, zb_f (by simp)] at k
    refine ⟨fun _ => ?_, fun c => absurd c (by decide)⟩
    refine vb_X9_has_13 _ _ _ ?_
    simp only [B_X9_has_13, oPI, oPL, oILOAD, oLLOAD, oALOAD, oISTORE, oASTORE, oLSTORE, oIINC, oIADD, oISUB, oIMUL, oIAND, oIOR, oIXOR, oIDIV, oIREM, oISHL, oISHR, oIUSHR, oLADD, oLSUB, oLMUL, oLOR, oLDIV, oLREM, oLCMP, oLSHL, oINEG, oI2L, oL2I, oI2B, oI2C, oDUP, oPOP, oDUP2, oIFEQ, oICEQ, oIFNE, oICNE, oIFLT, oICLT, oIFGE, oICGE, oIFGT, oICGT, oIFLE, oICLE, oIFNULL, oIFNONNULL, oTSW, oLSW, oGETI, oGETL, oGETR, oPUTI, oPUTZ, oPUTL, oPUTR, oIALD, oBALD, oZALD, oLALD, oAALD, oALEN, oIAST, oBAST, oZAST, oLAST, oIRET, oZRET, oLRET, oVRET, oARET, oOBJ, oINI, oPS, oNEW, oNEWAI, oNEWAB, oNEWAZ, oNEWAL, oCOPY, oINV0, oINS0, oINV1, oINS1, oINV2, oINS2, oINV3, oINS3, oINV4, oINS4, oINV5, oINS5, oINV6, oINS6, List.getElem?_cons_zero, List.getElem?_cons_succ, List.set_cons_zero, List.set_cons_succ, znl, zs4, zc1, true_and, and_self, Value.category, Option.toList, List.cons_append, List.nil_append, zvr]
    refine vb_X9_has_14 _ _ _ ?_
    simp only [B_X9_has_14, oPI, oPL, oILOAD, oLLOAD, oALOAD, oISTORE, oASTORE, oLSTORE, oIINC, oIADD, oISUB, oIMUL, oIAND, oIOR, oIXOR, oIDIV, oIREM, oISHL, oISHR, oIUSHR, oLADD, oLSUB, oLMUL, oLOR, oLDIV, oLREM, oLCMP, oLSHL, oINEG, oI2L, oL2I, oI2B, oI2C, oDUP, oPOP, oDUP2, oIFEQ, oICEQ, oIFNE, oICNE, oIFLT, oICLT, oIFGE, oICGE, oIFGT, oICGT, oIFLE, oICLE, oIFNULL, oIFNONNULL, oTSW, oLSW, oGETI, oGETL, oGETR, oPUTI, oPUTZ, oPUTL, oPUTR, oIALD, oBALD, oZALD, oLALD, oAALD, oALEN, oIAST, oBAST, oZAST, oLAST, oIRET, oZRET, oLRET, oVRET, oARET, oOBJ, oINI, oPS, oNEW, oNEWAI, oNEWAB, oNEWAZ, oNEWAL, oCOPY, oINV0, oINS0, oINV1, oINS1, oINV2, oINS2, oINV3, oINS3, oINV4, oINS4, oINV5, oINS5, oINV6, oINS6, List.getElem?_cons_zero, List.getElem?_cons_succ, List.set_cons_zero, List.set_cons_succ, znl, zs4, zc1, true_and, and_self, Value.category, Option.toList, List.cons_append, List.nil_append, zvr]
    exact ⟨(by first | exact Or.inl rfl | exact Or.inr rfl | simp), k⟩
  · rw [hb, zb_t (by simp)] at k
    refine ⟨fun c => absurd rfl c, fun c => ?_⟩
    refine vb_X9_has_14 _ _ _ ?_
    simp only [B_X9_has_14, oPI, oPL, oILOAD, oLLOAD, oALOAD, oISTORE, oASTORE, oLSTORE, oIINC, oIADD, oISUB, oIMUL, oIAND, oIOR, oIXOR, oIDIV, oIREM, oISHL, oISHR, oIUSHR, oLADD, oLSUB, oLMUL, oLOR, oLDIV, oLREM, oLCMP, oLSHL, oINEG, oI2L, oL2I, oI2B, oI2C, oDUP, oPOP, oDUP2, oIFEQ, oICEQ, oIFNE, oICNE, oIFLT, oICLT, oIFGE, oICGE, oIFGT, oICGT, oIFLE, oICLE, oIFNULL, oIFNONNULL, oTSW, oLSW, oGETI, oGETL, oGETR, oPUTI, oPUTZ, oPUTL, oPUTR, oIALD, oBALD, oZALD, oLALD, oAALD, oALEN, oIAST, oBAST, oZAST, oLAST, oIRET, oZRET, oLRET, oVRET, oARET, oOBJ, oINI, oPS, oNEW, oNEWAI, oNEWAB, oNEWAZ, oNEWAL, oCOPY, oINV0, oINS0, oINV1, oINS1, oINV2, oINS2, oINV3, oINS3, oINV4, oINS4, oINV5, oINS5, oINV6, oINS6, List.getElem?_cons_zero, List.getElem?_cons_succ, List.set_cons_zero, List.set_cons_succ, znl, zs4, zc1, true_and, and_self, Value.category, Option.toList, List.cons_append, List.nil_append, zvr]
    exact ⟨(by first | exact Or.inl rfl | exact Or.inr rfl | simp), k⟩
theorem cm_bits {s : Nat} (h1 : s < 4096) (k : R (some (.int (zj (zpop 12 s : Nat)))) h) : zCC X M_X9_bits [.int (zj s)] h R := by
  refine zCC_of (ls := [.int (zj s), .retAddr 0, .retAddr 0]) pf_X9_bits rfl (Nat.le_of_ble_eq_true rfl) ?_
  refine vb_X9_bits_0 _ _ _ ?_
  simp only [B_X9_bits_0, oPI, oPL, oILOAD, oLLOAD, oALOAD, oISTORE, oASTORE, oLSTORE, oIINC, oIADD, oISUB, oIMUL, oIAND, oIOR, oIXOR, oIDIV, oIREM, oISHL, oISHR, oIUSHR, oLADD, oLSUB, oLMUL, oLOR, oLDIV, oLREM, oLCMP, oLSHL, oINEG, oI2L, oL2I, oI2B, oI2C, oDUP, oPOP, oDUP2, oIFEQ, oICEQ, oIFNE, oICNE, oIFLT, oICLT, oIFGE, oICGE, oIFGT, oICGT, oIFLE, oICLE, oIFNULL, oIFNONNULL, oTSW, oLSW, oGETI, oGETL, oGETR, oPUTI, oPUTZ, oPUTL, oPUTR, oIALD, oBALD, oZALD, oLALD, oAALD, oALEN, oIAST, oBAST, oZAST, oLAST, oIRET, oZRET, oLRET, oVRET, oARET, oOBJ, oINI, oPS, oNEW, oNEWAI, oNEWAB, oNEWAZ, oNEWAL, oCOPY, oINV0, oINS0, oINV1, oINS1, oINV2, oINS2, oINV3, oINS3, oINV4, oINS4, oINV5, oINS5, oINV6, oINS6, List.getElem?_cons_zero, List.getElem?_cons_succ, List.set_cons_zero, List.set_cons_succ, znl, zs4, zc1, true_and, and_self, Value.category, Option.toList, List.cons_append, List.nil_append, zvr]
  have key : ∀ (m : Nat) (rest n : Nat), rest < 4096 → zpop 12 rest = m → n + m = zpop 12 s → zV X M_X9_bits (zQm M_X9_bits R) 0 0 4 [.int (zj s), .int (zj n), .int (zj rest)] [] h := by
    intro m
    induction m with
    | zero =>
      intro rest n hr hm hn
      refine vb_X9_bits_4 _ _ _ ?_
      simp only [B_X9_bits_4, oPI, oPL, oILOAD, oLLOAD, oALOAD, oISTORE, oASTORE, oLSTORE, oIINC, oIADD, oISUB, oIMUL, oIAND, oIOR, oIXOR, oIDIV, oIREM, oISHL, oISHR, oIUSHR, oLADD, oLSUB, oLMUL, oLOR, oLDIV, oLREM, oLCMP, oLSHL, oINEG, oI2L, oL2I, oI2B, oI2C, oDUP, oPOP, oDUP2, oIFEQ, oICEQ, oIFNE, oICNE, oIFLT, oICLT, oIFGE, oICGE, oIFGT, oICGT, oIFLE, oICLE, oIFNULL, oIFNONNULL, oTSW, oLSW, oGETI, oGETL, oGETR, oPUTI, oPUTZ, oPUTL, oPUTR, oIALD, oBALD, oZALD, oLALD, oAALD, oALEN, oIAST, oBAST, oZAST, oLAST, oIRET, oZRET, oLRET, oVRET, oARET, oOBJ, oINI, oPS, oNEW, oNEWAI, oNEWAB, oNEWAZ, oNEWAL, oCOPY, oINV0, oINS0, oINV1, oINS1, oINV2, oINS2, oINV3, oINS3, oINV4, oINS4, oINV5, oINS5, oINV6, oINS6, List.getElem?_cons_zero, List.getElem?_cons_succ, List.set_cons_zero, List.set_cons_succ, znl, zs4, zc1, true_and, and_self, Value.category, Option.toList, List.cons_append, List.nil_append, zvr]
      try simp (disch := omega) only [zgi_gz, zj_cn, zj_lt, zj_le, zj_eq, zj_add, zj_sub, zj_mul, zj_neg, zj_lt0, zj_le0, zj_0le, zj_0lt, zj_eq0]
      refine ⟨fun c => ?_, fun c => ?_⟩
      · refine vb_X9_bits_20 _ _ _ ?_
        simp only [B_X9_bits_20, oPI, oPL, oILOAD, oLLOAD, oALOAD, oISTORE, oASTORE, oLSTORE, oIINC, oIADD, oISUB, oIMUL, oIAND, oIOR, oIXOR, oIDIV, oIREM, oISHL, oISHR, oIUSHR, oLADD, oLSUB, oLMUL, oLOR, oLDIV, oLREM, oLCMP, oLSHL, oINEG, oI2L, oL2I, oI2B, oI2C, oDUP, oPOP, oDUP2, oIFEQ, oICEQ, oIFNE, oICNE, oIFLT, oICLT, oIFGE, oICGE, oIFGT, oICGT, oIFLE, oICLE, oIFNULL, oIFNONNULL, oTSW, oLSW, oGETI, oGETL, oGETR, oPUTI, oPUTZ, oPUTL, oPUTR, oIALD, oBALD, oZALD, oLALD, oAALD, oALEN, oIAST, oBAST, oZAST, oLAST, oIRET, oZRET, oLRET, oVRET, oARET, oOBJ, oINI, oPS, oNEW, oNEWAI, oNEWAB, oNEWAZ, oNEWAL, oCOPY, oINV0, oINS0, oINV1, oINS1, oINV2, oINS2, oINV3, oINS3, oINV4, oINS4, oINV5, oINS5, oINV6, oINS6, List.getElem?_cons_zero, List.getElem?_cons_succ, List.set_cons_zero, List.set_cons_succ, znl, zs4, zc1, true_and, and_self, Value.category, Option.toList, List.cons_append, List.nil_append, zvr]
        rw [show n = zpop 12 s by omega]
        exact k
      · have := zpop_and hr (by omega)
        omega
    | succ m ih =>
      intro rest n hr hm hn
      refine vb_X9_bits_4 _ _ _ ?_
      simp only [B_X9_bits_4, oPI, oPL, oILOAD, oLLOAD, oALOAD, oISTORE, oASTORE, oLSTORE, oIINC, oIADD, oISUB, oIMUL, oIAND, oIOR, oIXOR, oIDIV, oIREM, oISHL, oISHR, oIUSHR, oLADD, oLSUB, oLMUL, oLOR, oLDIV, oLREM, oLCMP, oLSHL, oINEG, oI2L, oL2I, oI2B, oI2C, oDUP, oPOP, oDUP2, oIFEQ, oICEQ, oIFNE, oICNE, oIFLT, oICLT, oIFGE, oICGE, oIFGT, oICGT, oIFLE, oICLE, oIFNULL, oIFNONNULL, oTSW, oLSW, oGETI, oGETL, oGETR, oPUTI, oPUTZ, oPUTL, oPUTR, oIALD, oBALD, oZALD, oLALD, oAALD, oALEN, oIAST, oBAST, oZAST, oLAST, oIRET, oZRET, oLRET, oVRET, oARET, oOBJ, oINI, oPS, oNEW, oNEWAI, oNEWAB, oNEWAZ, oNEWAL, oCOPY, oINV0, oINS0, oINV1, oINS1, oINV2, oINS2, oINV3, oINS3, oINV4, oINS4, oINV5, oINS5, oINV6, oINS6, List.getElem?_cons_zero, List.getElem?_cons_succ, List.set_cons_zero, List.set_cons_succ, znl, zs4, zc1, true_and, and_self, Value.category, Option.toList, List.cons_append, List.nil_append, zvr]
      try simp (disch := omega) only [zgi_gz, zj_cn, zj_lt, zj_le, zj_eq, zj_add, zj_sub, zj_mul, zj_neg, zj_lt0, zj_le0, zj_0le, zj_0lt, zj_eq0]
      refine ⟨fun c => ?_, fun c => ?_⟩
      · have : rest = 0 := by omega
        subst this
        have e0 : zpop 12 0 = 0 := by decide
        omega
      · have hp := zpop_and hr (by omega)
        have := ih (rest &&& (rest - 1)) (n + 1) (Nat.lt_of_le_of_lt Nat.and_le_left hr) (by omega) (by omega)
        rw [show (rest : Int) - 1 = ((rest - 1 : Nat) : Int) by omega, z_and]
        exact this
  exact key _ s 0 h1 rfl (by omega)
theorem cm_round {a : Int} (h1 : -1000 ≤ a) (h2 : a ≤ 1000) (k : R (some (.int (zj (a % 12)))) h) : zCC X M_X9_round [.int (zj a)] h R := by
  have t := tmod_bounds (a := a) (M := 12) (by omega)
  have e : (a.tmod 12 + 12).tmod 12 = a % 12 := by
    rw [z_tmod_nn (by omega), Int.add_emod_right]
    by_cases ha : 0 ≤ a
    · rw [z_tmod_nn ha, Int.emod_emod_of_dvd _ (Int.dvd_refl 12)]
    · have := z_tmod_neg (a := a) (b := 12) (by omega) (by omega)
      by_cases h0 : a.tmod 12 = 0
      · rw [h0, this.1 h0]; rfl
      · have g := this.2 h0
        omega
  refine zCC_of (ls := [.int (zj a)]) pf_X9_round rfl (Nat.le_of_ble_eq_true rfl) ?_
  refine vb_X9_round_0 _ _ _ ?_
  simp only [B_X9_round_0, oPI, oPL, oILOAD, oLLOAD, oALOAD, oISTORE, oASTORE, oLSTORE, oIINC, oIADD, oISUB, oIMUL, oIAND, oIOR, oIXOR, oIDIV, oIREM, oISHL, oISHR, oIUSHR, oLADD, oLSUB, oLMUL, oLOR, oLDIV, oLREM, oLCMP, oLSHL, oINEG, oI2L, oL2I, oI2B, oI2C, oDUP, oPOP, oDUP2, oIFEQ, oICEQ, oIFNE, oICNE, oIFLT, oICLT, oIFGE, oICGE, oIFGT, oICGT, oIFLE, oICLE, oIFNULL, oIFNONNULL, oTSW, oLSW, oGETI, oGETL, oGETR, oPUTI, oPUTZ, oPUTL, oPUTR, oIALD, oBALD, oZALD, oLALD, oAALD, oALEN, oIAST, oBAST, oZAST, oLAST, oIRET, oZRET, oLRET, oVRET, oARET, oOBJ, oINI, oPS, oNEW, oNEWAI, oNEWAB, oNEWAZ, oNEWAL, oCOPY, oINV0, oINS0, oINV1, oINS1, oINV2, oINS2, oINV3, oINS3, oINV4, oINS4, oINV5, oINS5, oINV6, oINS6, List.getElem?_cons_zero, List.getElem?_cons_succ, List.set_cons_zero, List.set_cons_succ, znl, zs4, zc1, true_and, and_self, Value.category, Option.toList, List.cons_append, List.nil_append, zvr]
  rw [zj_rem (by omega) (by omega) (by omega) (by omega), zj_add, zj_rem (by omega) (by omega) (by omega) (by omega), e]
  exact ⟨by decide, by decide, k⟩
/-- by how many cells a bit goes on -/
def zgb (s a : Int) : Int := if s = 0 then 2 * a else if s = 1 then a else if s = 2 then a.tdiv 2 else 0
theorem zgb_mv {s c a : Int} (h1 : 0 ≤ c) (h2 : c < 12) : (c + zgb s a) % 12 = zmv s c a (a.tdiv 2) := by
  unfold zgb zmv
  repeat' split
  all_goals omega
theorem cm_goesBy {b : Nat} {a : Int} (t : zTa h) (r : zTR h p) (v : zPV h p) (hb : b < zn h p) (h1 : -6 ≤ a) (h2 : a ≤ 6) (k : R (some (.int (zj (zgb (zS h p b) a)))) h) : zCC X M_X8_goesBy [.ref 87, .int (zj b), .int (zj a)] h R := by
  have hbt := v.1
  have hn : zn h p ≤ 6 := by unfold zn; omega
  have e := (r.2.2.2.2.2.2.2.1 b hb).1
  have hs : 0 ≤ zS h p b ∧ zS h p b ≤ 3 := (v.2.1 b (by omega)).1
  unfold zgb at k
  refine zCC_of (ls := [.ref 87, .int (zj b), .int (zj a)]) pf_X8_goesBy rfl (Nat.le_of_ble_eq_true rfl) ?_
  refine vb_X8_goesBy_0 _ _ _ ?_
  simp only [B_X8_goesBy_0, oPI, oPL, oILOAD, oLLOAD, oALOAD, oISTORE, oASTORE, oLSTORE, oIINC, oIADD, oISUB, oIMUL, oIAND, oIOR, oIXOR, oIDIV, oIREM, oISHL, oISHR, oIUSHR, oLADD, oLSUB, oLMUL, oLOR, oLDIV, oLREM, oLCMP, oLSHL, oINEG, oI2L, oL2I, oI2B, oI2C, oDUP, oPOP, oDUP2, oIFEQ, oICEQ, oIFNE, oICNE, oIFLT, oICLT, oIFGE, oICGE, oIFGT, oICGT, oIFLE, oICLE, oIFNULL, oIFNONNULL, oTSW, oLSW, oGETI, oGETL, oGETR, oPUTI, oPUTZ, oPUTL, oPUTR, oIALD, oBALD, oZALD, oLALD, oAALD, oALEN, oIAST, oBAST, oZAST, oLAST, oIRET, oZRET, oLRET, oVRET, oARET, oOBJ, oINI, oPS, oNEW, oNEWAI, oNEWAB, oNEWAZ, oNEWAL, oCOPY, oINV0, oINS0, oINV1, oINS1, oINV2, oINS2, oINV3, oINS3, oINV4, oINS4, oINV5, oINS5, oINV6, oINS6, List.getElem?_cons_zero, List.getElem?_cons_succ, List.set_cons_zero, List.set_cons_succ, znl, zs4, zc1, true_and, and_self, Value.category, Option.toList, List.cons_append, List.nil_append, zvr, ta_r3 t, ta_s t, ta_s1 t, ta_r8 t, ta_s2 t, ta_r9 t, ta_s3 t, ta_r10 t, ta_s4 t, ta_r11 t, ta_s5 t, ta_r12 t, ta_s6 t, ta_r13 t, ta_s7 t, ta_r14 t, ta_s8 t, ta_r15 t, ta_s9 t, ta_r16 t, ta_s10 t, ta_r17 t, ta_s11 t, ta_r18 t, ta_s12 t, ta_r19 t, ta_s13 t, ta_r20 t]
  try simp (disch := omega) only [zgi_gz, zj_cn, zj_lt, zj_le, zj_eq, zj_add, zj_sub, zj_mul, zj_neg, zj_lt0, zj_le0, zj_0le, zj_0lt, zj_eq0]
  rw [e, zj_toInt (by omega) (by omega)]
  refine ⟨zj_in (by omega) (by omega) (by omega), fun c => ?_, fun i hi c => ?_⟩
  · refine vb_X8_goesBy_42 _ _ _ ?_
    simp only [B_X8_goesBy_42, oPI, oPL, oILOAD, oLLOAD, oALOAD, oISTORE, oASTORE, oLSTORE, oIINC, oIADD, oISUB, oIMUL, oIAND, oIOR, oIXOR, oIDIV, oIREM, oISHL, oISHR, oIUSHR, oLADD, oLSUB, oLMUL, oLOR, oLDIV, oLREM, oLCMP, oLSHL, oINEG, oI2L, oL2I, oI2B, oI2C, oDUP, oPOP, oDUP2, oIFEQ, oICEQ, oIFNE, oICNE, oIFLT, oICLT, oIFGE, oICGE, oIFGT, oICGT, oIFLE, oICLE, oIFNULL, oIFNONNULL, oTSW, oLSW, oGETI, oGETL, oGETR, oPUTI, oPUTZ, oPUTL, oPUTR, oIALD, oBALD, oZALD, oLALD, oAALD, oALEN, oIAST, oBAST, oZAST, oLAST, oIRET, oZRET, oLRET, oVRET, oARET, oOBJ, oINI, oPS, oNEW, oNEWAI, oNEWAB, oNEWAZ, oNEWAL, oCOPY, oINV0, oINS0, oINV1, oINS1, oINV2, oINS2, oINV3, oINS3, oINV4, oINS4, oINV5, oINS5, oINV6, oINS6, List.getElem?_cons_zero, List.getElem?_cons_succ, List.set_cons_zero, List.set_cons_succ, znl, zs4, zc1, true_and, and_self, Value.category, Option.toList, List.cons_append, List.nil_append, zvr]
    rw [if_neg (by omega), if_neg (by omega), if_neg (by omega)] at k
    exact k
  · rcases (show i = 0 ∨ i = 1 ∨ i = 2 by omega) with rfl | rfl | rfl
    · refine vb_X8_goesBy_32 _ _ _ ?_
      simp only [B_X8_goesBy_32, oPI, oPL, oILOAD, oLLOAD, oALOAD, oISTORE, oASTORE, oLSTORE, oIINC, oIADD, oISUB, oIMUL, oIAND, oIOR, oIXOR, oIDIV, oIREM, oISHL, oISHR, oIUSHR, oLADD, oLSUB, oLMUL, oLOR, oLDIV, oLREM, oLCMP, oLSHL, oINEG, oI2L, oL2I, oI2B, oI2C, oDUP, oPOP, oDUP2, oIFEQ, oICEQ, oIFNE, oICNE, oIFLT, oICLT, oIFGE, oICGE, oIFGT, oICGT, oIFLE, oICLE, oIFNULL, oIFNONNULL, oTSW, oLSW, oGETI, oGETL, oGETR, oPUTI, oPUTZ, oPUTL, oPUTR, oIALD, oBALD, oZALD, oLALD, oAALD, oALEN, oIAST, oBAST, oZAST, oLAST, oIRET, oZRET, oLRET, oVRET, oARET, oOBJ, oINI, oPS, oNEW, oNEWAI, oNEWAB, oNEWAZ, oNEWAL, oCOPY, oINV0, oINS0, oINV1, oINS1, oINV2, oINS2, oINV3, oINS3, oINV4, oINS4, oINV5, oINS5, oINV6, oINS6, List.getElem?_cons_zero, List.getElem?_cons_succ, List.set_cons_zero, List.set_cons_succ, znl, zs4, zc1, true_and, and_self, Value.category, Option.toList, List.cons_append, List.nil_append, zvr]
      rw [if_pos (by omega)] at k
      try simp (disch := omega) only [zgi_gz, zj_cn, zj_lt, zj_le, zj_eq, zj_add, zj_sub, zj_mul, zj_neg, zj_lt0, zj_le0, zj_0le, zj_0lt, zj_eq0]
      exact k
    · refine vb_X8_goesBy_36 _ _ _ ?_
      simp only [B_X8_goesBy_36, oPI, oPL, oILOAD, oLLOAD, oALOAD, oISTORE, oASTORE, oLSTORE, oIINC, oIADD, oISUB, oIMUL, oIAND, oIOR, oIXOR, oIDIV, oIREM, oISHL, oISHR, oIUSHR, oLADD, oLSUB, oLMUL, oLOR, oLDIV, oLREM, oLCMP, oLSHL, oINEG, oI2L, oL2I, oI2B, oI2C, oDUP, oPOP, oDUP2, oIFEQ, oICEQ, oIFNE, oICNE, oIFLT, oICLT, oIFGE, oICGE, oIFGT, oICGT, oIFLE, oICLE, oIFNULL, oIFNONNULL, oTSW, oLSW, oGETI, oGETL, oGETR, oPUTI, oPUTZ, oPUTL, oPUTR, oIALD, oBALD, oZALD, oLALD, oAALD, oALEN, oIAST, oBAST, oZAST, oLAST, oIRET, oZRET, oLRET, oVRET, oARET, oOBJ, oINI, oPS, oNEW, oNEWAI, oNEWAB, oNEWAZ, oNEWAL, oCOPY, oINV0, oINS0, oINV1, oINS1, oINV2, oINS2, oINV3, oINS3, oINV4, oINS4, oINV5, oINS5, oINV6, oINS6, List.getElem?_cons_zero, List.getElem?_cons_succ, List.set_cons_zero, List.set_cons_succ, znl, zs4, zc1, true_and, and_self, Value.category, Option.toList, List.cons_append, List.nil_append, zvr]
      rw [if_neg (by omega), if_pos (by omega)] at k
      exact k
    · refine vb_X8_goesBy_38 _ _ _ ?_
      simp only [B_X8_goesBy_38, oPI, oPL, oILOAD, oLLOAD, oALOAD, oISTORE, oASTORE, oLSTORE, oIINC, oIADD, oISUB, oIMUL, oIAND, oIOR, oIXOR, oIDIV, oIREM, oISHL, oISHR, oIUSHR, oLADD, oLSUB, oLMUL, oLOR, oLDIV, oLREM, oLCMP, oLSHL, oINEG, oI2L, oL2I, oI2B, oI2C, oDUP, oPOP, oDUP2, oIFEQ, oICEQ, oIFNE, oICNE, oIFLT, oICLT, oIFGE, oICGE, oIFGT, oICGT, oIFLE, oICLE, oIFNULL, oIFNONNULL, oTSW, oLSW, oGETI, oGETL, oGETR, oPUTI, oPUTZ, oPUTL, oPUTR, oIALD, oBALD, oZALD, oLALD, oAALD, oALEN, oIAST, oBAST, oZAST, oLAST, oIRET, oZRET, oLRET, oVRET, oARET, oOBJ, oINI, oPS, oNEW, oNEWAI, oNEWAB, oNEWAZ, oNEWAL, oCOPY, oINV0, oINS0, oINV1, oINS1, oINV2, oINS2, oINV3, oINS3, oINV4, oINS4, oINV5, oINS5, oINV6, oINS6, List.getElem?_cons_zero, List.getElem?_cons_succ, List.set_cons_zero, List.set_cons_succ, znl, zs4, zc1, true_and, and_self, Value.category, Option.toList, List.cons_append, List.nil_append, zvr]
      rw [if_neg (by omega), if_neg (by omega), if_pos (by omega)] at k
      rw [zj_div (by omega) (by omega) (by omega) (by omega)]
      exact ⟨by decide, k⟩
theorem cm_tries (w : zMW h) (k : R none (zwr h 81 (fun b => zgi h 80 b) 15)) : zCC X M_X9_tries [.ref 78] h R := by
  refine zCC_of (ls := [.ref 78, .retAddr 0]) pf_X9_tries rfl (Nat.le_of_ble_eq_true rfl) ?_
  refine vb_X9_tries_0 _ _ _ ?_
  simp only [B_X9_tries_0, oPI, oPL, oILOAD, oLLOAD, oALOAD, oISTORE, oASTORE, oLSTORE, oIINC, oIADD, oISUB, oIMUL, oIAND, oIOR, oIXOR, oIDIV, oIREM, oISHL, oISHR, oIUSHR, oLADD, oLSUB, oLMUL, oLOR, oLDIV, oLREM, oLCMP, oLSHL, oINEG, oI2L, oL2I, oI2B, oI2C, oDUP, oPOP, oDUP2, oIFEQ, oICEQ, oIFNE, oICNE, oIFLT, oICLT, oIFGE, oICGE, oIFGT, oICGT, oIFLE, oICLE, oIFNULL, oIFNONNULL, oTSW, oLSW, oGETI, oGETL, oGETR, oPUTI, oPUTZ, oPUTL, oPUTR, oIALD, oBALD, oZALD, oLALD, oAALD, oALEN, oIAST, oBAST, oZAST, oLAST, oIRET, oZRET, oLRET, oVRET, oARET, oOBJ, oINI, oPS, oNEW, oNEWAI, oNEWAB, oNEWAZ, oNEWAL, oCOPY, oINV0, oINS0, oINV1, oINS1, oINV2, oINS2, oINV3, oINS3, oINV4, oINS4, oINV5, oINS5, oINV6, oINS6, List.getElem?_cons_zero, List.getElem?_cons_succ, List.set_cons_zero, List.set_cons_succ, znl, zs4, zc1, true_and, and_self, Value.category, Option.toList, List.cons_append, List.nil_append, zvr, mw_s w, mw_s79 w, mw_s80 w, mw_s81 w, mw_s82 w, mw_s83 w, mw_s84 w, mw_s85 w, mw_r5 w, mw_r15 w, mw_r16 w, mw_r17 w, mw_r18 w, mw_r21 w, mw_r22 w]
  have key : ∀ i : Nat, i ≤ 15 → zV X M_X9_tries (zQm M_X9_tries R) 0 0 2 [.ref 78, .int (zj i)] [] (zwr h 81 (fun b => zgi h 80 b) i) := by
    refine zdown (P := fun i => zV X M_X9_tries (zQm M_X9_tries R) 0 0 2 [.ref 78, .int (zj i)] [] (zwr h 81 (fun b => zgi h 80 b) i)) (fun i hi ih => ?_)
    have w1 : zMW (zwr h 81 (fun b => zgi h 80 b) i) := w
    have e : zgi (zwr h 81 (fun b => zgi h 80 b) i) 80 i = zgi h 80 i := zwr_o (by omega)
    refine vb_X9_tries_2 _ _ _ ?_
    simp only [B_X9_tries_2, oPI, oPL, oILOAD, oLLOAD, oALOAD, oISTORE, oASTORE, oLSTORE, oIINC, oIADD, oISUB, oIMUL, oIAND, oIOR, oIXOR, oIDIV, oIREM, oISHL, oISHR, oIUSHR, oLADD, oLSUB, oLMUL, oLOR, oLDIV, oLREM, oLCMP, oLSHL, oINEG, oI2L, oL2I, oI2B, oI2C, oDUP, oPOP, oDUP2, oIFEQ, oICEQ, oIFNE, oICNE, oIFLT, oICLT, oIFGE, oICGE, oIFGT, oICGT, oIFLE, oICLE, oIFNULL, oIFNONNULL, oTSW, oLSW, oGETI, oGETL, oGETR, oPUTI, oPUTZ, oPUTL, oPUTR, oIALD, oBALD, oZALD, oLALD, oAALD, oALEN, oIAST, oBAST, oZAST, oLAST, oIRET, oZRET, oLRET, oVRET, oARET, oOBJ, oINI, oPS, oNEW, oNEWAI, oNEWAB, oNEWAZ, oNEWAL, oCOPY, oINV0, oINS0, oINV1, oINS1, oINV2, oINS2, oINV3, oINS3, oINV4, oINS4, oINV5, oINS5, oINV6, oINS6, List.getElem?_cons_zero, List.getElem?_cons_succ, List.set_cons_zero, List.set_cons_succ, znl, zs4, zc1, true_and, and_self, Value.category, Option.toList, List.cons_append, List.nil_append, zvr, mw_s w1, mw_s79 w1, mw_s80 w1, mw_s81 w1, mw_s82 w1, mw_s83 w1, mw_s84 w1, mw_s85 w1, mw_r5 w1, mw_r15 w1, mw_r16 w1, mw_r17 w1, mw_r18 w1, mw_r21 w1, mw_r22 w1]
    by_cases ci : i = 15
    · subst ci
      refine ⟨fun _ => ?_, fun c => absurd (by decide) c⟩
      refine vb_X9_tries_26 _ _ _ ?_
      simp only [B_X9_tries_26, oPI, oPL, oILOAD, oLLOAD, oALOAD, oISTORE, oASTORE, oLSTORE, oIINC, oIADD, oISUB, oIMUL, oIAND, oIOR, oIXOR, oIDIV, oIREM, oISHL, oISHR, oIUSHR, oLADD, oLSUB, oLMUL, oLOR, oLDIV, oLREM, oLCMP, oLSHL, oINEG, oI2L, oL2I, oI2B, oI2C, oDUP, oPOP, oDUP2, oIFEQ, oICEQ, oIFNE, oICNE, oIFLT, oICLT, oIFGE, oICGE, oIFGT, oICGT, oIFLE, oICLE, oIFNULL, oIFNONNULL, oTSW, oLSW, oGETI, oGETL, oGETR, oPUTI, oPUTZ, oPUTL, oPUTR, oIALD, oBALD, oZALD, oLALD, oAALD, oALEN, oIAST, oBAST, oZAST, oLAST, oIRET, oZRET, oLRET, oVRET, oARET, oOBJ, oINI, oPS, oNEW, oNEWAI, oNEWAB, oNEWAZ, oNEWAL, oCOPY, oINV0, oINS0, oINV1, oINS1, oINV2, oINS2, oINV3, oINS3, oINV4, oINS4, oINV5, oINS5, oINV6, oINS6, List.getElem?_cons_zero, List.getElem?_cons_succ, List.set_cons_zero, List.set_cons_succ, znl, zs4, zc1, true_and, and_self, Value.category, Option.toList, List.cons_append, List.nil_append, zvr]
      exact k
    rw [zj_cn (by omega), e, zwr_s h 81 (fun b => zgi h 80 b) i]
    simp (disch := omega) only [zj_le, zj_lt, zj_add]
    exact ⟨fun c => by omega, fun _ => ⟨zj_in (by omega) (by omega) (by omega), zj_in (by omega) (by omega) (by omega), ih (by omega)⟩⟩
  have q := key 0 (by omega)
  rw [zwr_0] at q
  exact q
theorem cm_turns {q : Nat} {a : Int} (w : zMW h) (t : zTa h) (r : zTR h p) (v : zPV h p) (hp : p = 20 ∨ p = 33) (hq : q = 80 ∨ q = 81) (hC : ∀ b : Nat, b < zn h p → 0 ≤ gz h q b ∧ gz h q b < 12) (h1 : -6 ≤ a) (h2 : a ≤ 6) (k : R none (zwr h q (fun b => zj (zmv (zS h p b) (gz h q b) a (a.tdiv 2))) (zn h p))) : zCC X M_X9_turns [.ref 78, .ref q, .int (zj a)] h R := by
  have hbt := v.1
  have hd2 := z_tdiv2 a
  obtain ⟨m, hm⟩ : ∃ m : Nat, gz h p 1 = m := ⟨(gz h p 1).toNat, by omega⟩
  have hnm : zn h p = m := by unfold zn; omega
  have hqs : zsh h q = some (.inr (.int, 15)) := by rcases hq with rfl | rfl; exact mw_s80 w; exact mw_s81 w
  rw [hnm] at k hC
  refine zCC_of (ls := [.ref 78, .ref q, .int (zj a), .retAddr 0]) pf_X9_turns rfl (Nat.le_of_ble_eq_true rfl) ?_
  refine vb_X9_turns_0 _ _ _ ?_
  simp only [B_X9_turns_0, oPI, oPL, oILOAD, oLLOAD, oALOAD, oISTORE, oASTORE, oLSTORE, oIINC, oIADD, oISUB, oIMUL, oIAND, oIOR, oIXOR, oIDIV, oIREM, oISHL, oISHR, oIUSHR, oLADD, oLSUB, oLMUL, oLOR, oLDIV, oLREM, oLCMP, oLSHL, oINEG, oI2L, oL2I, oI2B, oI2C, oDUP, oPOP, oDUP2, oIFEQ, oICEQ, oIFNE, oICNE, oIFLT, oICLT, oIFGE, oICGE, oIFGT, oICGT, oIFLE, oICLE, oIFNULL, oIFNONNULL, oTSW, oLSW, oGETI, oGETL, oGETR, oPUTI, oPUTZ, oPUTL, oPUTR, oIALD, oBALD, oZALD, oLALD, oAALD, oALEN, oIAST, oBAST, oZAST, oLAST, oIRET, oZRET, oLRET, oVRET, oARET, oOBJ, oINI, oPS, oNEW, oNEWAI, oNEWAB, oNEWAZ, oNEWAL, oCOPY, oINV0, oINS0, oINV1, oINS1, oINV2, oINS2, oINV3, oINS3, oINV4, oINS4, oINV5, oINS5, oINV6, oINS6, List.getElem?_cons_zero, List.getElem?_cons_succ, List.set_cons_zero, List.set_cons_succ, znl, zs4, zc1, true_and, and_self, Value.category, Option.toList, List.cons_append, List.nil_append, zvr, mw_s w, mw_s79 w, mw_s80 w, mw_s81 w, mw_s82 w, mw_s83 w, mw_s84 w, mw_s85 w, mw_r5 w, mw_r15 w, mw_r16 w, mw_r17 w, mw_r18 w, mw_r21 w, mw_r22 w]
  have key : ∀ i : Nat, i ≤ m → zV X M_X9_turns (zQm M_X9_turns R) 0 0 2 [.ref 78, .ref q, .int (zj a), .int (zj i)] [] (zwr h q (fun b => zj (zmv (zS h p b) (gz h q b) a (a.tdiv 2))) i) := by
    refine zdown (P := fun i => zV X M_X9_turns (zQm M_X9_turns R) 0 0 2 [.ref 78, .ref q, .int (zj a), .int (zj i)] [] (zwr h q (fun b => zj (zmv (zS h p b) (gz h q b) a (a.tdiv 2))) i)) (fun i hi ih => ?_)
    have ag : zAg h (zwr h q (fun b => zj (zmv (zS h p b) (gz h q b) a (a.tdiv 2))) i) q := zwr_ag _ _ _ _
    have w1 : zMW (zwr h q (fun b => zj (zmv (zS h p b) (gz h q b) a (a.tdiv 2))) i) := w
    have t1 : zTa (zwr h q (fun b => zj (zmv (zS h p b) (gz h q b) a (a.tdiv 2))) i) := t
    have q1 : zsh (zwr h q (fun b => zj (zmv (zS h p b) (gz h q b) a (a.tdiv 2))) i) q = some (.inr (.int, 15)) := hqs
    have r1 := r.ag ag hp (by omega)
    have en : zn (zwr h q (fun b => zj (zmv (zS h p b) (gz h q b) a (a.tdiv 2))) i) p = m := by unfold zn; rw [ag.gz (by omega), hm]; rfl
    have eS : zS (zwr h q (fun b => zj (zmv (zS h p b) (gz h q b) a (a.tdiv 2))) i) p i = zS h p i := ag.gz (x := p + 2) (by omega) i
    have hm1 : gz (zwr h q (fun b => zj (zmv (zS h p b) (gz h q b) a (a.tdiv 2))) i) 87 1 = m := by rw [r1.1, ag.gz (by omega)]; exact hm
    have v1 : zPV (zwr h q (fun b => zj (zmv (zS h p b) (gz h q b) a (a.tdiv 2))) i) p := zPV.ag' v ag hp (by omega)
    have e : gz (zwr h q (fun b => zj (zmv (zS h p b) (gz h q b) a (a.tdiv 2))) i) q i = gz h q i := gz_wro (by omega)
    refine vb_X9_turns_2 _ _ _ ?_
    simp only [B_X9_turns_2, oPI, oPL, oILOAD, oLLOAD, oALOAD, oISTORE, oASTORE, oLSTORE, oIINC, oIADD, oISUB, oIMUL, oIAND, oIOR, oIXOR, oIDIV, oIREM, oISHL, oISHR, oIUSHR, oLADD, oLSUB, oLMUL, oLOR, oLDIV, oLREM, oLCMP, oLSHL, oINEG, oI2L, oL2I, oI2B, oI2C, oDUP, oPOP, oDUP2, oIFEQ, oICEQ, oIFNE, oICNE, oIFLT, oICLT, oIFGE, oICGE, oIFGT, oICGT, oIFLE, oICLE, oIFNULL, oIFNONNULL, oTSW, oLSW, oGETI, oGETL, oGETR, oPUTI, oPUTZ, oPUTL, oPUTR, oIALD, oBALD, oZALD, oLALD, oAALD, oALEN, oIAST, oBAST, oZAST, oLAST, oIRET, oZRET, oLRET, oVRET, oARET, oOBJ, oINI, oPS, oNEW, oNEWAI, oNEWAB, oNEWAZ, oNEWAL, oCOPY, oINV0, oINS0, oINV1, oINS1, oINV2, oINS2, oINV3, oINS3, oINV4, oINS4, oINV5, oINS5, oINV6, oINS6, List.getElem?_cons_zero, List.getElem?_cons_succ, List.set_cons_zero, List.set_cons_succ, znl, zs4, zc1, true_and, and_self, Value.category, Option.toList, List.cons_append, List.nil_append, zvr, mw_s w1, mw_s79 w1, mw_s80 w1, mw_s81 w1, mw_s82 w1, mw_s83 w1, mw_s84 w1, mw_s85 w1, mw_r5 w1, mw_r15 w1, mw_r16 w1, mw_r17 w1, mw_r18 w1, mw_r21 w1, mw_r22 w1, ta_r3 t1, ta_s t1, ta_s1 t1, ta_r8 t1, ta_s2 t1, ta_r9 t1, ta_s3 t1, ta_r10 t1, ta_s4 t1, ta_r11 t1, ta_s5 t1, ta_r12 t1, ta_s6 t1, ta_r13 t1, ta_s7 t1, ta_r14 t1, ta_s8 t1, ta_r15 t1, ta_s9 t1, ta_r16 t1, ta_s10 t1, ta_r17 t1, ta_s11 t1, ta_r18 t1, ta_s12 t1, ta_r19 t1, ta_s13 t1, ta_r20 t1, q1]
    try simp (disch := omega) only [zgi_gz, zj_cn, zj_lt, zj_le, zj_eq, zj_add, zj_sub, zj_mul, zj_neg, zj_lt0, zj_le0, zj_0le, zj_0lt, zj_eq0, zb_0, zb_z, Classical.not_not, Int.zero_add, Int.add_zero, zj_remn, zj_divn]
    rw [hm1]
    by_cases ci : i = m
    · subst ci
      try simp (disch := omega) only [zgi_gz, zj_cn, zj_lt, zj_le, zj_eq, zj_add, zj_sub, zj_mul, zj_neg, zj_lt0, zj_le0, zj_0le, zj_0lt, zj_eq0]
      refine ⟨fun _ => ?_, fun c => by omega⟩
      refine vb_X9_turns_42 _ _ _ ?_
      simp only [B_X9_turns_42, oPI, oPL, oILOAD, oLLOAD, oALOAD, oISTORE, oASTORE, oLSTORE, oIINC, oIADD, oISUB, oIMUL, oIAND, oIOR, oIXOR, oIDIV, oIREM, oISHL, oISHR, oIUSHR, oLADD, oLSUB, oLMUL, oLOR, oLDIV, oLREM, oLCMP, oLSHL, oINEG, oI2L, oL2I, oI2B, oI2C, oDUP, oPOP, oDUP2, oIFEQ, oICEQ, oIFNE, oICNE, oIFLT, oICLT, oIFGE, oICGE, oIFGT, oICGT, oIFLE, oICLE, oIFNULL, oIFNONNULL, oTSW, oLSW, oGETI, oGETL, oGETR, oPUTI, oPUTZ, oPUTL, oPUTR, oIALD, oBALD, oZALD, oLALD, oAALD, oALEN, oIAST, oBAST, oZAST, oLAST, oIRET, oZRET, oLRET, oVRET, oARET, oOBJ, oINI, oPS, oNEW, oNEWAI, oNEWAB, oNEWAZ, oNEWAL, oCOPY, oINV0, oINS0, oINV1, oINS1, oINV2, oINS2, oINV3, oINS3, oINV4, oINS4, oINV5, oINS5, oINV6, oINS6, List.getElem?_cons_zero, List.getElem?_cons_succ, List.set_cons_zero, List.set_cons_succ, znl, zs4, zc1, true_and, and_self, Value.category, Option.toList, List.cons_append, List.nil_append, zvr]
      exact k
    have hc := hC i (by omega)
    have hgb : -12 ≤ zgb (zS h p i) a ∧ zgb (zS h p i) a ≤ 12 := by unfold zgb; repeat' split; all_goals omega
    try simp (disch := omega) only [zgi_gz, zj_cn, zj_lt, zj_le, zj_eq, zj_add, zj_sub, zj_mul, zj_neg, zj_lt0, zj_le0, zj_0le, zj_0lt, zj_eq0]
    refine ⟨fun c => by omega, fun _ => ⟨zj_in (by omega) (by omega) (by omega), ?_⟩⟩
    refine cm_goesBy t1 r1 v1 (by omega) h1 h2 ?_
    rw [eS, e]
    simp only [oPI, oPL, oILOAD, oLLOAD, oALOAD, oISTORE, oASTORE, oLSTORE, oIINC, oIADD, oISUB, oIMUL, oIAND, oIOR, oIXOR, oIDIV, oIREM, oISHL, oISHR, oIUSHR, oLADD, oLSUB, oLMUL, oLOR, oLDIV, oLREM, oLCMP, oLSHL, oINEG, oI2L, oL2I, oI2B, oI2C, oDUP, oPOP, oDUP2, oIFEQ, oICEQ, oIFNE, oICNE, oIFLT, oICLT, oIFGE, oICGE, oIFGT, oICGT, oIFLE, oICLE, oIFNULL, oIFNONNULL, oTSW, oLSW, oGETI, oGETL, oGETR, oPUTI, oPUTZ, oPUTL, oPUTR, oIALD, oBALD, oZALD, oLALD, oAALD, oALEN, oIAST, oBAST, oZAST, oLAST, oIRET, oZRET, oLRET, oVRET, oARET, oOBJ, oINI, oPS, oNEW, oNEWAI, oNEWAB, oNEWAZ, oNEWAL, oCOPY, oINV0, oINS0, oINV1, oINS1, oINV2, oINS2, oINV3, oINS3, oINV4, oINS4, oINV5, oINS5, oINV6, oINS6, List.getElem?_cons_zero, List.getElem?_cons_succ, List.set_cons_zero, List.set_cons_succ, znl, zs4, zc1, true_and, and_self, Value.category, Option.toList, List.cons_append, List.nil_append, zvr, mw_s w1, mw_s79 w1, mw_s80 w1, mw_s81 w1, mw_s82 w1, mw_s83 w1, mw_s84 w1, mw_s85 w1, mw_r5 w1, mw_r15 w1, mw_r16 w1, mw_r17 w1, mw_r18 w1, mw_r21 w1, mw_r22 w1, ta_r3 t1, ta_s t1, ta_s1 t1, ta_r8 t1, ta_s2 t1, ta_r9 t1, ta_s3 t1, ta_r10 t1, ta_s4 t1, ta_r11 t1, ta_s5 t1, ta_r12 t1, ta_s6 t1, ta_r13 t1, ta_s7 t1, ta_r14 t1, ta_s8 t1, ta_r15 t1, ta_s9 t1, ta_r16 t1, ta_s10 t1, ta_r17 t1, ta_s11 t1, ta_r18 t1, ta_s12 t1, ta_r19 t1, ta_s13 t1, ta_r20 t1, q1]
    try simp (disch := omega) only [zgi_gz, zj_cn, zj_lt, zj_le, zj_eq, zj_add, zj_sub, zj_mul, zj_neg, zj_lt0, zj_le0, zj_0le, zj_0lt, zj_eq0, zb_0, zb_z, Classical.not_not, Int.zero_add, Int.add_zero, zj_remn, zj_divn]
    refine cm_round (by omega) (by omega) ?_
    simp only [oPI, oPL, oILOAD, oLLOAD, oALOAD, oISTORE, oASTORE, oLSTORE, oIINC, oIADD, oISUB, oIMUL, oIAND, oIOR, oIXOR, oIDIV, oIREM, oISHL, oISHR, oIUSHR, oLADD, oLSUB, oLMUL, oLOR, oLDIV, oLREM, oLCMP, oLSHL, oINEG, oI2L, oL2I, oI2B, oI2C, oDUP, oPOP, oDUP2, oIFEQ, oICEQ, oIFNE, oICNE, oIFLT, oICLT, oIFGE, oICGE, oIFGT, oICGT, oIFLE, oICLE, oIFNULL, oIFNONNULL, oTSW, oLSW, oGETI, oGETL, oGETR, oPUTI, oPUTZ, oPUTL, oPUTR, oIALD, oBALD, oZALD, oLALD, oAALD, oALEN, oIAST, oBAST, oZAST, oLAST, oIRET, oZRET, oLRET, oVRET, oARET, oOBJ, oINI, oPS, oNEW, oNEWAI, oNEWAB, oNEWAZ, oNEWAL, oCOPY, oINV0, oINS0, oINV1, oINS1, oINV2, oINS2, oINV3, oINS3, oINV4, oINS4, oINV5, oINS5, oINV6, oINS6, List.getElem?_cons_zero, List.getElem?_cons_succ, List.set_cons_zero, List.set_cons_succ, znl, zs4, zc1, true_and, and_self, Value.category, Option.toList, List.cons_append, List.nil_append, zvr, mw_s w1, mw_s79 w1, mw_s80 w1, mw_s81 w1, mw_s82 w1, mw_s83 w1, mw_s84 w1, mw_s85 w1, mw_r5 w1, mw_r15 w1, mw_r16 w1, mw_r17 w1, mw_r18 w1, mw_r21 w1, mw_r22 w1, ta_r3 t1, ta_s t1, ta_s1 t1, ta_r8 t1, ta_s2 t1, ta_r9 t1, ta_s3 t1, ta_r10 t1, ta_s4 t1, ta_r11 t1, ta_s5 t1, ta_r12 t1, ta_s6 t1, ta_r13 t1, ta_s7 t1, ta_r14 t1, ta_s8 t1, ta_r15 t1, ta_s9 t1, ta_r16 t1, ta_s10 t1, ta_r17 t1, ta_s11 t1, ta_r18 t1, ta_s12 t1, ta_r19 t1, ta_s13 t1, ta_r20 t1, q1]
    rw [zgb_mv hc.1 hc.2, zj_cn (by omega), zwr_s h q (fun b => zj (zmv (zS h p b) (gz h q b) a (a.tdiv 2))) i]
    try simp (disch := omega) only [zgi_gz, zj_cn, zj_lt, zj_le, zj_eq, zj_add, zj_sub, zj_mul, zj_neg, zj_lt0, zj_le0, zj_0le, zj_0lt, zj_eq0, zb_0, zb_z, Classical.not_not, Int.zero_add, Int.add_zero, zj_remn, zj_divn]
    exact ⟨zj_in (by omega) (by omega) (by omega), ih (by omega)⟩
  have q := key 0 (by omega)
  rw [zwr_0] at q
  exact q
end ZMB
