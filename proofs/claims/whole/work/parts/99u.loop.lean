section ZLP
variable {X : Nat × (Nat → Int32)}
theorem zofN (n : Nat) : Int32.ofNat n = zj (n : Nat) := by
  unfold zj
  first | rfl | exact (Int32.ofInt_eq_ofNat).symm | simp
theorem lw_loop (hL : X.1 ≤ 3072) : ∀ j, j ≤ 512 → ∀ (h : zHp) (d p : Nat) (u5 u6 : Value), zNf u5 → zNf u6 → zI h d p → zV X M_L_law zQL (71 + 20 * j) (3478 + 200 * j) 23 [.ref 14, .ref 16, .ref 78, .ref 86, .int (zj ((6 * j : Nat) : Int)), u5, u6] [] h := by
  refine zdown (m := 512) (P := fun j => ∀ (h : zHp) (d p : Nat) (u5 u6 : Value), zNf u5 → zNf u6 → zI h d p → zV X M_L_law zQL (71 + 20 * j) (3478 + 200 * j) 23 [.ref 14, .ref 16, .ref 78, .ref 86, .int (zj ((6 * j : Nat) : Int)), u5, u6] [] h) (fun j hj ih h d p u5 u6 hu5 hu6 I => ?_)
  have hk : 71 + 20 * j + 20 ≤ 601024 := by omega
  have hn : 3478 + 200 * j + 200 ≤ 7293034 := by omega
  refine vb_L_law_23 hk hn _ _ _ ?_
  simp only [B_L_law_23, oSLD, oSLE, oPI, oPL, oILOAD, oLLOAD, oALOAD, oISTORE, oASTORE, oLSTORE, oIINC, oIADD, oISUB, oIMUL, oIAND, oIOR, oIXOR, oIDIV, oIREM, oISHL, oISHR, oIUSHR, oLADD, oLSUB, oLMUL, oLOR, oLDIV, oLREM, oLCMP, oLSHL, oINEG, oI2L, oL2I, oI2B, oI2C, oDUP, oPOP, oDUP2, oIFEQ, oICEQ, oIFNE, oICNE, oIFLT, oICLT, oIFGE, oICGE, oIFGT, oICGT, oIFLE, oICLE, oIFNULL, oIFNONNULL, oTSW, oLSW, oGETI, oGETL, oGETR, oPUTI, oPUTZ, oPUTL, oPUTR, oIALD, oBALD, oZALD, oLALD, oAALD, oALEN, oIAST, oBAST, oZAST, oLAST, oIRET, oZRET, oLRET, oVRET, oARET, oOBJ, oINI, oPS, oNEW, oNEWAI, oNEWAB, oNEWAZ, oNEWAL, oCOPY, oINV0, oINS0, oINV1, oINS1, oINV2, oINS2, oINV3, oINS3, oINV4, oINS4, oINV5, oINS5, oINV6, oINS6, List.getElem?_cons_zero, List.getElem?_cons_succ, List.set_cons_zero, List.set_cons_succ, znl, zs4, zc1, true_and, and_self, Value.category, Option.toList, List.cons_append, List.nil_append, zvr]
  rw [zofN, zj_sub]
  rw [zj_lt (by omega) (by omega) (by omega) (by omega)]
  refine ⟨fun c => ?_, fun c => ?_⟩
  · refine vb_L_law_1874 (k := 71 + 20 * j) (n := 3478 + 200 * j) (by omega) (by omega) _ _ _ ?_
    simp only [B_L_law_1874, oEND, oPI, oPL, oILOAD, oLLOAD, oALOAD, oISTORE, oASTORE, oLSTORE, oIINC, oIADD, oISUB, oIMUL, oIAND, oIOR, oIXOR, oIDIV, oIREM, oISHL, oISHR, oIUSHR, oLADD, oLSUB, oLMUL, oLOR, oLDIV, oLREM, oLCMP, oLSHL, oINEG, oI2L, oL2I, oI2B, oI2C, oDUP, oPOP, oDUP2, oIFEQ, oICEQ, oIFNE, oICNE, oIFLT, oICLT, oIFGE, oICGE, oIFGT, oICGT, oIFLE, oICLE, oIFNULL, oIFNONNULL, oTSW, oLSW, oGETI, oGETL, oGETR, oPUTI, oPUTZ, oPUTL, oPUTR, oIALD, oBALD, oZALD, oLALD, oAALD, oALEN, oIAST, oBAST, oZAST, oLAST, oIRET, oZRET, oLRET, oVRET, oARET, oOBJ, oINI, oPS, oNEW, oNEWAI, oNEWAB, oNEWAZ, oNEWAL, oCOPY, oINV0, oINS0, oINV1, oINS1, oINV2, oINS2, oINV3, oINS3, oINV4, oINS4, oINV5, oINS5, oINV6, oINS6, List.getElem?_cons_zero, List.getElem?_cons_succ, List.set_cons_zero, List.set_cons_succ, znl, zs4, zc1, true_and, and_self, Value.category, Option.toList, List.cons_append, List.nil_append, zvr]
    rfl
  have hj6 : 6 * j + 6 ≤ X.1 := by omega
  have S : ∀ m : Nat, m ≤ 5 → vp_in (zj ((6 * j : Nat) : Int) + zj (m : Nat)) X.1 ∧ X.2 (zj ((6 * j : Nat) : Int) + zj (m : Nat)).toNatClampNeg = zj (X.2 (6 * j + m)).toInt := fun m hm => by
    rw [zj_add, show ((6 * j : Nat) : Int) + (m : Nat) = ((6 * j + m : Nat) : Int) by omega, zj_cn (by omega)]
    exact ⟨zj_in (by omega) (by omega) (by omega), (zj_of _).symm⟩
  have bd : ∀ m : Nat, -2147483648 ≤ (X.2 m).toInt ∧ (X.2 m).toInt < 2147483648 := fun m => ⟨by have := (X.2 m).le_toInt; omega, by have := (X.2 m).toInt_lt; omega⟩
  have s1 : vp_in (zj ((6 * j : Nat) : Int) + zj 1) X.1 := (S 1 (by omega)).1
  have e1 : X.2 (zj ((6 * j : Nat) : Int) + zj 1).toNatClampNeg = zj (X.2 (6 * j + 1)).toInt := (S 1 (by omega)).2
  have s2 : vp_in (zj ((6 * j : Nat) : Int) + zj 2) X.1 := (S 2 (by omega)).1
  have e2 : X.2 (zj ((6 * j : Nat) : Int) + zj 2).toNatClampNeg = zj (X.2 (6 * j + 2)).toInt := (S 2 (by omega)).2
  have s3 : vp_in (zj ((6 * j : Nat) : Int) + zj 3) X.1 := (S 3 (by omega)).1
  have e3 : X.2 (zj ((6 * j : Nat) : Int) + zj 3).toNatClampNeg = zj (X.2 (6 * j + 3)).toInt := (S 3 (by omega)).2
  have s4 : vp_in (zj ((6 * j : Nat) : Int) + zj 4) X.1 := (S 4 (by omega)).1
  have e4 : X.2 (zj ((6 * j : Nat) : Int) + zj 4).toNatClampNeg = zj (X.2 (6 * j + 4)).toInt := (S 4 (by omega)).2
  have s5 : vp_in (zj ((6 * j : Nat) : Int) + zj 5) X.1 := (S 5 (by omega)).1
  have e5 : X.2 (zj ((6 * j : Nat) : Int) + zj 5).toNatClampNeg = zj (X.2 (6 * j + 5)).toInt := (S 5 (by omega)).2
  have b1 := bd (6 * j + 1)
  have b2 := bd (6 * j + 2)
  have b3 := bd (6 * j + 3)
  have b4 := bd (6 * j + 4)
  have b5 := bd (6 * j + 5)
  have nx : zYx X (71 + 20 * j) (3478 + 200 * j) (zj ((6 * j : Nat) : Int)) := fun h' d' p' v5 v6 q5 q6 I' => by
    have t := ih (by omega) h' d' p' v5 v6 q5 q6 I'
    refine vb_L_law_1868 (k := 71 + 20 * j + 20) (n := 3478 + 200 * j + 200) (by omega) (by omega) _ _ _ ?_
    simp only [B_L_law_1868, oPI, oPL, oILOAD, oLLOAD, oALOAD, oISTORE, oASTORE, oLSTORE, oIINC, oIADD, oISUB, oIMUL, oIAND, oIOR, oIXOR, oIDIV, oIREM, oISHL, oISHR, oIUSHR, oLADD, oLSUB, oLMUL, oLOR, oLDIV, oLREM, oLCMP, oLSHL, oINEG, oI2L, oL2I, oI2B, oI2C, oDUP, oPOP, oDUP2, oIFEQ, oICEQ, oIFNE, oICNE, oIFLT, oICLT, oIFGE, oICGE, oIFGT, oICGT, oIFLE, oICLE, oIFNULL, oIFNONNULL, oTSW, oLSW, oGETI, oGETL, oGETR, oPUTI, oPUTZ, oPUTL, oPUTR, oIALD, oBALD, oZALD, oLALD, oAALD, oALEN, oIAST, oBAST, oZAST, oLAST, oIRET, oZRET, oLRET, oVRET, oARET, oOBJ, oINI, oPS, oNEW, oNEWAI, oNEWAB, oNEWAZ, oNEWAL, oCOPY, oINV0, oINS0, oINV1, oINS1, oINV2, oINS2, oINV3, oINS3, oINV4, oINS4, oINV5, oINS5, oINV6, oINS6, List.getElem?_cons_zero, List.getElem?_cons_succ, List.set_cons_zero, List.set_cons_succ, znl, zs4, zc1, true_and, and_self, Value.category, Option.toList, List.cons_append, List.nil_append, zvr]
    rw [zj_add, show ((6 * j : Nat) : Int) + 6 = ((6 * (j + 1) : Nat) : Int) by omega, show 71 + 20 * j + 20 = 71 + 20 * (j + 1) by omega, show 3478 + 200 * j + 200 = 3478 + 200 * (j + 1) by omega]
    exact t
  refine ⟨zj_in (by omega) (by omega) (by omega), fun _ => nx h d p u5 u6 hu5 hu6 I, fun q hq _ => ?_⟩
  clear ih S bd
  rcases (show q = 0 ∨ q = 1 ∨ q = 2 ∨ q = 3 ∨ q = 4 ∨ q = 5 ∨ q = 6 ∨ q = 7 ∨ q = 8 ∨ q = 9 ∨ q = 10 ∨ q = 11 ∨ q = 12 ∨ q = 13 ∨ q = 14 ∨ q = 15 ∨ q = 16 ∨ q = 17 ∨ q = 18 ∨ q = 19 ∨ q = 20 ∨ q = 21 ∨ q = 22 ∨ q = 23 ∨ q = 24 ∨ q = 25 ∨ q = 26 ∨ q = 27 ∨ q = 28 ∨ q = 29 ∨ q = 30 ∨ q = 31 ∨ q = 32 ∨ q = 33 ∨ q = 34 ∨ q = 35 ∨ q = 36 ∨ q = 37 ∨ q = 38 ∨ q = 39 ∨ q = 40 ∨ q = 41 ∨ q = 42 ∨ q = 43 ∨ q = 44 ∨ q = 45 ∨ q = 46 ∨ q = 47 ∨ q = 48 ∨ q = 49 ∨ q = 50 ∨ q = 51 ∨ q = 52 ∨ q = 53 ∨ q = 54 by omega) with rfl | rfl | rfl | rfl | rfl | rfl | rfl | rfl | rfl | rfl | rfl | rfl | rfl | rfl | rfl | rfl | rfl | rfl | rfl | rfl | rfl | rfl | rfl | rfl | rfl | rfl | rfl | rfl | rfl | rfl | rfl | rfl | rfl | rfl | rfl | rfl | rfl | rfl | rfl | rfl | rfl | rfl | rfl | rfl | rfl | rfl | rfl | rfl | rfl | rfl | rfl | rfl | rfl | rfl | rfl
  · exact lc_feed b1 s1 e1 b2 s2 e2 b3 s3 e3 b4 s4 e4 b5 s5 e5 hk hn hu5 hu6 I nx
  · exact lc_tube b1 s1 e1 hk hn hu5 hu6 I nx
  · exact lc_fault  hk hn hu5 hu6 I nx
  · exact lc_where  hk hn hu5 hu6 I nx
  · exact lc_bit b1 s1 e1 b2 s2 e2 hk hn hu5 hu6 I nx
  · exact lc_top b1 s1 e1 hk hn hu5 hu6 I nx
  · exact lc_stack b1 s1 e1 hk hn hu5 hu6 I nx
  · exact lc_seen b1 s1 e1 b2 s2 e2 hk hn hu5 hu6 I nx
  · exact lc_lies b1 s1 e1 b2 s2 e2 hk hn hu5 hu6 I nx
  · exact lc_under  hk hn hu5 hu6 I nx
  · exact lc_until b1 s1 e1 hk hn hu5 hu6 I nx
  · exact lc_behind b1 s1 e1 b2 s2 e2 hk hn hu5 hu6 I nx
  · exact lc_topsBehind b1 s1 e1 hk hn hu5 hu6 I nx
  · exact lc_twins  hk hn hu5 hu6 I nx
  · exact lc_mostTops  hk hn hu5 hu6 I nx
  · exact lc_right  hk hn hu5 hu6 I nx
  · exact lc_turnsTo  hk hn hu5 hu6 I nx
  · exact lc_turnAt b1 s1 e1 hk hn hu5 hu6 I nx
  · exact lc_bestTurn  hk hn hu5 hu6 I nx
  · exact lc_can b1 s1 e1 b2 s2 e2 hk hn hu5 hu6 I nx
  · exact lc_made b1 s1 e1 hk hn hu5 hu6 I nx
  · exact lc_madeAt b1 s1 e1 b2 s2 e2 hk hn hu5 hu6 I nx
  · exact lc_fewestMade  hk hn hu5 hu6 I nx
  · exact lc_same b1 s1 e1 hk hn hu5 hu6 I nx
  · exact lc_joins b1 s1 e1 hk hn hu5 hu6 I nx
  · exact lc_alike b1 s1 e1 b2 s2 e2 hk hn hu5 hu6 I nx
  · exact lc_which  hk hn hu5 hu6 I nx
  · exact lc_surely  hk hn hu5 hu6 I nx
  · exact lc_look  hk hn hu5 hu6 I nx
  · exact lc_lookLeaves  hk hn hu5 hu6 I nx
  · exact lc_judge b1 s1 e1 hk hn hu5 hu6 I nx
  · exact lc_rolls b1 s1 e1 b2 s2 e2 b3 s3 e3 hk hn hu5 hu6 I nx
  · exact lc_rollsMore b1 s1 e1 b2 s2 e2 b3 s3 e3 hk hn hu5 hu6 I nx
  · exact lc_watch b1 s1 e1 hk hn hu5 hu6 I nx
  · exact lc_person b1 s1 e1 b2 s2 e2 hk hn hu5 hu6 I nx
  · exact lc_way b1 s1 e1 b2 s2 e2 b3 s3 e3 hk hn hu5 hu6 I nx
  · exact lc_wayUp b1 s1 e1 b2 s2 e2 b3 s3 e3 hk hn hu5 hu6 I nx
  · exact lc_nearest b1 s1 e1 b2 s2 e2 hk hn hu5 hu6 I nx
  · exact lc_farthest b1 s1 e1 hk hn hu5 hu6 I nx
  · exact lc_ring  hk hn hu5 hu6 I nx
  · exact lc_two b1 s1 e1 b2 s2 e2 b3 s3 e3 hk hn hu5 hu6 I nx
  · exact lc_rests  hk hn hu5 hu6 I nx
  · exact lc_rest  hk hn hu5 hu6 I nx
  · exact lc_shaken b1 s1 e1 b2 s2 e2 b3 s3 e3 hk hn hu5 hu6 I nx
  · exact lc_topDays b1 s1 e1 b2 s2 e2 b3 s3 e3 hk hn hu5 hu6 I nx
  · exact lc_rightDays b1 s1 e1 b2 s2 e2 hk hn hu5 hu6 I nx
  · exact lc_turn b1 s1 e1 hk hn hu5 hu6 I nx
  · exact lc_go b1 s1 e1 b2 s2 e2 hk hn hu5 hu6 I nx
  · exact lc_waits b1 s1 e1 hk hn hu5 hu6 I nx
  · exact lc_undo  hk hn hu5 hu6 I nx
  · exact lc_image  hk hn hu5 hu6 I nx
  · exact lc_back b1 s1 e1 hk hn hu5 hu6 I nx
  · exact lc_led b1 s1 e1 hk hn hu5 hu6 I nx
  · exact lc_size b1 s1 e1 hk hn hu5 hu6 I nx
  · exact lc_trouble  hk hn hu5 hu6 I nx
/-- the empty heap of the law's start -/
def zh0 : zHp := ((16, fun _ => none), fun _ _ => 0, fun _ _ => 0, fun _ _ => none)
theorem zN_0 : zN zh0 16 [] zV0 := ⟨rfl, Nat.le_refl _, fun e he => (by cases he), fun x h1 h2 => (by omega)⟩
theorem lw_first (hL : X.1 ≤ 3072) : zV X M_L_law zQL 0 0 0 [.ref 14, .retAddr 0, .retAddr 0, .retAddr 0, .retAddr 0, .retAddr 0, .retAddr 0] [] zh0 := by
  refine vb_L_law_0 _ _ _ ?_
  simp only [B_L_law_0, oINIo, oPI, oPL, oILOAD, oLLOAD, oALOAD, oISTORE, oASTORE, oLSTORE, oIINC, oIADD, oISUB, oIMUL, oIAND, oIOR, oIXOR, oIDIV, oIREM, oISHL, oISHR, oIUSHR, oLADD, oLSUB, oLMUL, oLOR, oLDIV, oLREM, oLCMP, oLSHL, oINEG, oI2L, oL2I, oI2B, oI2C, oDUP, oPOP, oDUP2, oIFEQ, oICEQ, oIFNE, oICNE, oIFLT, oICLT, oIFGE, oICGE, oIFGT, oICGT, oIFLE, oICLE, oIFNULL, oIFNONNULL, oTSW, oLSW, oGETI, oGETL, oGETR, oPUTI, oPUTZ, oPUTL, oPUTR, oIALD, oBALD, oZALD, oLALD, oAALD, oALEN, oIAST, oBAST, oZAST, oLAST, oIRET, oZRET, oLRET, oVRET, oARET, oOBJ, oINI, oPS, oNEW, oNEWAI, oNEWAB, oNEWAZ, oNEWAL, oCOPY, oINV0, oINS0, oINV1, oINS1, oINV2, oINS2, oINV3, oINS3, oINV4, oINS4, oINV5, oINS5, oINV6, oINS6, List.getElem?_cons_zero, List.getElem?_cons_succ, List.set_cons_zero, List.set_cons_succ, znl, zs4, zc1, true_and, and_self, Value.category, Option.toList, List.cons_append, List.nil_append, zvr]
  have z0 := zN_0.al (c := .inl 7) rfl (fun _ => rfl) (by omega)
  refine ci_tube z0 (fun h1 z1 => ?_)
  simp only [oPI, oPL, oILOAD, oLLOAD, oALOAD, oISTORE, oASTORE, oLSTORE, oIINC, oIADD, oISUB, oIMUL, oIAND, oIOR, oIXOR, oIDIV, oIREM, oISHL, oISHR, oIUSHR, oLADD, oLSUB, oLMUL, oLOR, oLDIV, oLREM, oLCMP, oLSHL, oINEG, oI2L, oL2I, oI2B, oI2C, oDUP, oPOP, oDUP2, oIFEQ, oICEQ, oIFNE, oICNE, oIFLT, oICLT, oIFGE, oICGE, oIFGT, oICGT, oIFLE, oICLE, oIFNULL, oIFNONNULL, oTSW, oLSW, oGETI, oGETL, oGETR, oPUTI, oPUTZ, oPUTL, oPUTR, oIALD, oBALD, oZALD, oLALD, oAALD, oALEN, oIAST, oBAST, oZAST, oLAST, oIRET, oZRET, oLRET, oVRET, oARET, oOBJ, oINI, oPS, oNEW, oNEWAI, oNEWAB, oNEWAZ, oNEWAL, oCOPY, oINV0, oINS0, oINV1, oINS1, oINV2, oINS2, oINV3, oINS3, oINV4, oINS4, oINV5, oINS5, oINV6, oINS6, List.getElem?_cons_zero, List.getElem?_cons_succ, List.set_cons_zero, List.set_cons_succ, znl, zs4, zc1, true_and, and_self, Value.category, Option.toList, List.cons_append, List.nil_append, zvr]
  rw [z1.1]
  have z2 := z1.al (c := .inl 9) rfl (fun y => by unfold zV1; rw [if_neg (by omega)]) (by omega)
  refine ci_model z2 (fun h3 z3 => ?_)
  simp only [oPI, oPL, oILOAD, oLLOAD, oALOAD, oISTORE, oASTORE, oLSTORE, oIINC, oIADD, oISUB, oIMUL, oIAND, oIOR, oIXOR, oIDIV, oIREM, oISHL, oISHR, oIUSHR, oLADD, oLSUB, oLMUL, oLOR, oLDIV, oLREM, oLCMP, oLSHL, oINEG, oI2L, oL2I, oI2B, oI2C, oDUP, oPOP, oDUP2, oIFEQ, oICEQ, oIFNE, oICNE, oIFLT, oICLT, oIFGE, oICGE, oIFGT, oICGT, oIFLE, oICLE, oIFNULL, oIFNONNULL, oTSW, oLSW, oGETI, oGETL, oGETR, oPUTI, oPUTZ, oPUTL, oPUTR, oIALD, oBALD, oZALD, oLALD, oAALD, oALEN, oIAST, oBAST, oZAST, oLAST, oIRET, oZRET, oLRET, oVRET, oARET, oOBJ, oINI, oPS, oNEW, oNEWAI, oNEWAB, oNEWAZ, oNEWAL, oCOPY, oINV0, oINS0, oINV1, oINS1, oINV2, oINS2, oINV3, oINS3, oINV4, oINS4, oINV5, oINS5, oINV6, oINS6, List.getElem?_cons_zero, List.getElem?_cons_succ, List.set_cons_zero, List.set_cons_succ, znl, zs4, zc1, true_and, and_self, Value.category, Option.toList, List.cons_append, List.nil_append, zvr]
  have z4 := z3.al (c := .inr (.long, 1)) rfl (fun y => by rw [if_neg (by omega)]; unfold zV1; rw [if_neg (by omega)]) (by omega)
  rw [z3.1]
  refine ⟨⟨by decide, by decide⟩, ?_⟩
  refine zV_up (by rw [z4.1]; omega) ?_
  exact lw_loop hL 0 (by omega) _ 20 33 _ _ (fun q h => by cases h) (fun q h => by cases h) (zI_first z4)
end ZLP
