section ZNO
variable {X : Nat × (Nat → Int32)} {R : zRt} {h h' : zHp} {L : List ((Nat × Nat) × Nat)} {V : Nat → Nat → Int32}
theorem ci_tube (z : zN h 17 L zV0) (k : ∀ h', zN h' 78 (((16, 4), 77) :: ((16, 3), 68) :: ((68, 1), 76) :: ((68, 0), 69) :: ((16, 2), 46) :: ((46, 1), 64) :: ((46, 0), 47) :: ((16, 1), 32) :: ((32, 1), 45) :: ((32, 0), 33) :: ((33, 15), 44) :: ((33, 14), 43) :: ((33, 12), 42) :: ((33, 10), 41) :: ((33, 9), 40) :: ((33, 7), 39) :: ((33, 6), 38) :: ((33, 5), 37) :: ((33, 4), 36) :: ((33, 3), 35) :: ((33, 2), 34) :: ((16, 0), 17) :: ((17, 1), 20) :: ((20, 15), 31) :: ((20, 14), 30) :: ((20, 12), 29) :: ((20, 10), 28) :: ((20, 9), 27) :: ((20, 7), 26) :: ((20, 6), 25) :: ((20, 5), 24) :: ((20, 4), 23) :: ((20, 3), 22) :: ((20, 2), 21) :: ((17, 0), 18) :: ((18, 0), 19) :: L) zV1 → R none h') : zCCo X M_X7_init [.ref 16] h R := by
  refine zCCo_of (ls := [.ref 16]) pf_X7_init rfl (Nat.le_of_ble_eq_true rfl) ?_
  refine vb_X7_inito_0 _ _ _ ?_
  simp only [B_X7_inito_0, oINIo, oPI, oPL, oILOAD, oLLOAD, oALOAD, oISTORE, oASTORE, oLSTORE, oIINC, oIADD, oISUB, oIMUL, oIAND, oIOR, oIXOR, oIDIV, oIREM, oISHL, oISHR, oIUSHR, oLADD, oLSUB, oLMUL, oLOR, oLDIV, oLREM, oLCMP, oLSHL, oINEG, oI2L, oL2I, oI2B, oI2C, oDUP, oPOP, oDUP2, oIFEQ, oICEQ, oIFNE, oICNE, oIFLT, oICLT, oIFGE, oICGE, oIFGT, oICGT, oIFLE, oICLE, oIFNULL, oIFNONNULL, oTSW, oLSW, oGETI, oGETL, oGETR, oPUTI, oPUTZ, oPUTL, oPUTR, oIALD, oBALD, oZALD, oLALD, oAALD, oALEN, oIAST, oBAST, oZAST, oLAST, oIRET, oZRET, oLRET, oVRET, oARET, oOBJ, oINI, oPS, oNEW, oNEWAI, oNEWAB, oNEWAZ, oNEWAL, oCOPY, oINV0, oINS0, oINV1, oINS1, oINV2, oINS2, oINV3, oINS3, oINV4, oINS4, oINV5, oINS5, oINV6, oINS6, List.getElem?_cons_zero, List.getElem?_cons_succ, List.set_cons_zero, List.set_cons_succ, znl, zs4, zc1, true_and, and_self, Value.category, Option.toList, List.cons_append, List.nil_append, zvr]
  rw [z.1]
  refine ci_reader (z.al rfl (fun _ => rfl) (by omega)) (fun _ _ _ => rfl) (fun h1 z1 => ?_)
  have s1 : zsh h1 16 = some (.inl 7) := z1.sh (by omega) (by omega) rfl
  have z2 := z1.pr (x := 16) (j := 0) (q := 17) (by omega) (by omega)
  simp only [oPI, oPL, oILOAD, oLLOAD, oALOAD, oISTORE, oASTORE, oLSTORE, oIINC, oIADD, oISUB, oIMUL, oIAND, oIOR, oIXOR, oIDIV, oIREM, oISHL, oISHR, oIUSHR, oLADD, oLSUB, oLMUL, oLOR, oLDIV, oLREM, oLCMP, oLSHL, oINEG, oI2L, oL2I, oI2B, oI2C, oDUP, oPOP, oDUP2, oIFEQ, oICEQ, oIFNE, oICNE, oIFLT, oICLT, oIFGE, oICGE, oIFGT, oICGT, oIFLE, oICLE, oIFNULL, oIFNONNULL, oTSW, oLSW, oGETI, oGETL, oGETR, oPUTI, oPUTZ, oPUTL, oPUTR, oIALD, oBALD, oZALD, oLALD, oAALD, oALEN, oIAST, oBAST, oZAST, oLAST, oIRET, oZRET, oLRET, oVRET, oARET, oOBJ, oINI, oPS, oNEW, oNEWAI, oNEWAB, oNEWAZ, oNEWAL, oCOPY, oINV0, oINS0, oINV1, oINS1, oINV2, oINS2, oINV3, oINS3, oINV4, oINS4, oINV5, oINS5, oINV6, oINS6, List.getElem?_cons_zero, List.getElem?_cons_succ, List.set_cons_zero, List.set_cons_succ, znl, zs4, zc1, true_and, and_self, Value.category, Option.toList, List.cons_append, List.nil_append, zvr, s1]
  rw [z2.1]
  refine ci_scene (z2.al rfl (fun _ => rfl) (by omega)) (fun _ _ _ => rfl) (fun h3 z3 => ?_)
  have s3 : zsh h3 16 = some (.inl 7) := z3.sh (by omega) (by omega) rfl
  have z4 := z3.pr (x := 16) (j := 1) (q := 32) (by omega) (by omega)
  simp only [oPI, oPL, oILOAD, oLLOAD, oALOAD, oISTORE, oASTORE, oLSTORE, oIINC, oIADD, oISUB, oIMUL, oIAND, oIOR, oIXOR, oIDIV, oIREM, oISHL, oISHR, oIUSHR, oLADD, oLSUB, oLMUL, oLOR, oLDIV, oLREM, oLCMP, oLSHL, oINEG, oI2L, oL2I, oI2B, oI2C, oDUP, oPOP, oDUP2, oIFEQ, oICEQ, oIFNE, oICNE, oIFLT, oICLT, oIFGE, oICGE, oIFGT, oICGT, oIFLE, oICLE, oIFNULL, oIFNONNULL, oTSW, oLSW, oGETI, oGETL, oGETR, oPUTI, oPUTZ, oPUTL, oPUTR, oIALD, oBALD, oZALD, oLALD, oAALD, oALEN, oIAST, oBAST, oZAST, oLAST, oIRET, oZRET, oLRET, oVRET, oARET, oOBJ, oINI, oPS, oNEW, oNEWAI, oNEWAB, oNEWAZ, oNEWAL, oCOPY, oINV0, oINS0, oINV1, oINS1, oINV2, oINS2, oINV3, oINS3, oINV4, oINS4, oINV5, oINS5, oINV6, oINS6, List.getElem?_cons_zero, List.getElem?_cons_succ, List.set_cons_zero, List.set_cons_succ, znl, zs4, zc1, true_and, and_self, Value.category, Option.toList, List.cons_append, List.nil_append, zvr, s3, oINIo]
  rw [z4.1]
  refine ci_memory (z4.al rfl (fun _ => rfl) (by omega)) (fun _ _ _ => rfl) (fun h5 z5 => ?_)
  have s5 : zsh h5 16 = some (.inl 7) := z5.sh (by omega) (by omega) rfl
  have z6 := z5.pr (x := 16) (j := 2) (q := 46) (by omega) (by omega)
  simp only [oPI, oPL, oILOAD, oLLOAD, oALOAD, oISTORE, oASTORE, oLSTORE, oIINC, oIADD, oISUB, oIMUL, oIAND, oIOR, oIXOR, oIDIV, oIREM, oISHL, oISHR, oIUSHR, oLADD, oLSUB, oLMUL, oLOR, oLDIV, oLREM, oLCMP, oLSHL, oINEG, oI2L, oL2I, oI2B, oI2C, oDUP, oPOP, oDUP2, oIFEQ, oICEQ, oIFNE, oICNE, oIFLT, oICLT, oIFGE, oICGE, oIFGT, oICGT, oIFLE, oICLE, oIFNULL, oIFNONNULL, oTSW, oLSW, oGETI, oGETL, oGETR, oPUTI, oPUTZ, oPUTL, oPUTR, oIALD, oBALD, oZALD, oLALD, oAALD, oALEN, oIAST, oBAST, oZAST, oLAST, oIRET, oZRET, oLRET, oVRET, oARET, oOBJ, oINI, oPS, oNEW, oNEWAI, oNEWAB, oNEWAZ, oNEWAL, oCOPY, oINV0, oINS0, oINV1, oINS1, oINV2, oINS2, oINV3, oINS3, oINV4, oINS4, oINV5, oINS5, oINV6, oINS6, List.getElem?_cons_zero, List.getElem?_cons_succ, List.set_cons_zero, List.set_cons_succ, znl, zs4, zc1, true_and, and_self, Value.category, Option.toList, List.cons_append, List.nil_append, zvr, s5, oINIo]
  rw [z6.1]
  refine ci_rows (z6.al rfl (fun _ => rfl) (by omega)) (fun h7 z7 => ?_)
  have s7 : zsh h7 16 = some (.inl 7) := z7.sh (by omega) (by omega) rfl
  have z8 := z7.pr (x := 16) (j := 3) (q := 68) (by omega) (by omega)
  simp only [oPI, oPL, oILOAD, oLLOAD, oALOAD, oISTORE, oASTORE, oLSTORE, oIINC, oIADD, oISUB, oIMUL, oIAND, oIOR, oIXOR, oIDIV, oIREM, oISHL, oISHR, oIUSHR, oLADD, oLSUB, oLMUL, oLOR, oLDIV, oLREM, oLCMP, oLSHL, oINEG, oI2L, oL2I, oI2B, oI2C, oDUP, oPOP, oDUP2, oIFEQ, oICEQ, oIFNE, oICNE, oIFLT, oICLT, oIFGE, oICGE, oIFGT, oICGT, oIFLE, oICLE, oIFNULL, oIFNONNULL, oTSW, oLSW, oGETI, oGETL, oGETR, oPUTI, oPUTZ, oPUTL, oPUTR, oIALD, oBALD, oZALD, oLALD, oAALD, oALEN, oIAST, oBAST, oZAST, oLAST, oIRET, oZRET, oLRET, oVRET, oARET, oOBJ, oINI, oPS, oNEW, oNEWAI, oNEWAB, oNEWAZ, oNEWAL, oCOPY, oINV0, oINS0, oINV1, oINS1, oINV2, oINS2, oINV3, oINS3, oINV4, oINS4, oINV5, oINS5, oINV6, oINS6, List.getElem?_cons_zero, List.getElem?_cons_succ, List.set_cons_zero, List.set_cons_succ, znl, zs4, zc1, true_and, and_self, Value.category, Option.toList, List.cons_append, List.nil_append, zvr, s7]
  have z9 := z8.al (c := .inl 5) rfl (fun y => by unfold zV1; rw [if_neg (by omega)]) (by omega)
  have s9 : zsh (zal (zpr h7 16 3 (some 68)) (.inl 5)) 16 = some (.inl 7) := z9.sh (by omega) (by omega) rfl
  rw [z8.1]
  refine zCC_of (ls := [.ref 77]) pf_X5_init rfl (Nat.le_of_ble_eq_true rfl) ?_
  refine vb_X5_init_0 _ _ _ ?_
  simp only [B_X5_init_0, oPI, oPL, oILOAD, oLLOAD, oALOAD, oISTORE, oASTORE, oLSTORE, oIINC, oIADD, oISUB, oIMUL, oIAND, oIOR, oIXOR, oIDIV, oIREM, oISHL, oISHR, oIUSHR, oLADD, oLSUB, oLMUL, oLOR, oLDIV, oLREM, oLCMP, oLSHL, oINEG, oI2L, oL2I, oI2B, oI2C, oDUP, oPOP, oDUP2, oIFEQ, oICEQ, oIFNE, oICNE, oIFLT, oICLT, oIFGE, oICGE, oIFGT, oICGT, oIFLE, oICLE, oIFNULL, oIFNONNULL, oTSW, oLSW, oGETI, oGETL, oGETR, oPUTI, oPUTZ, oPUTL, oPUTR, oIALD, oBALD, oZALD, oLALD, oAALD, oALEN, oIAST, oBAST, oZAST, oLAST, oIRET, oZRET, oLRET, oVRET, oARET, oOBJ, oINI, oPS, oNEW, oNEWAI, oNEWAB, oNEWAZ, oNEWAL, oCOPY, oINV0, oINS0, oINV1, oINS1, oINV2, oINS2, oINV3, oINS3, oINV4, oINS4, oINV5, oINS5, oINV6, oINS6, List.getElem?_cons_zero, List.getElem?_cons_succ, List.set_cons_zero, List.set_cons_succ, znl, zs4, zc1, true_and, and_self, Value.category, Option.toList, List.cons_append, List.nil_append, zvr]
  simp only [oPI, oPL, oILOAD, oLLOAD, oALOAD, oISTORE, oASTORE, oLSTORE, oIINC, oIADD, oISUB, oIMUL, oIAND, oIOR, oIXOR, oIDIV, oIREM, oISHL, oISHR, oIUSHR, oLADD, oLSUB, oLMUL, oLOR, oLDIV, oLREM, oLCMP, oLSHL, oINEG, oI2L, oL2I, oI2B, oI2C, oDUP, oPOP, oDUP2, oIFEQ, oICEQ, oIFNE, oICNE, oIFLT, oICLT, oIFGE, oICGE, oIFGT, oICGT, oIFLE, oICLE, oIFNULL, oIFNONNULL, oTSW, oLSW, oGETI, oGETL, oGETR, oPUTI, oPUTZ, oPUTL, oPUTR, oIALD, oBALD, oZALD, oLALD, oAALD, oALEN, oIAST, oBAST, oZAST, oLAST, oIRET, oZRET, oLRET, oVRET, oARET, oOBJ, oINI, oPS, oNEW, oNEWAI, oNEWAB, oNEWAZ, oNEWAL, oCOPY, oINV0, oINS0, oINV1, oINS1, oINV2, oINS2, oINV3, oINS3, oINV4, oINS4, oINV5, oINS5, oINV6, oINS6, List.getElem?_cons_zero, List.getElem?_cons_succ, List.set_cons_zero, List.set_cons_succ, znl, zs4, zc1, true_and, and_self, Value.category, Option.toList, List.cons_append, List.nil_append, zvr, s9]
  exact k _ (z9.pr (by omega) (by omega))
theorem ci_model (z : zN h 79 L zV1) (k : ∀ h', zN h' 86 (((78, 22), 85) :: ((78, 21), 84) :: ((78, 18), 83) :: ((78, 17), 82) :: ((78, 16), 81) :: ((78, 15), 80) :: ((78, 5), 79) :: L) (fun a b => if a = 78 ∧ b = 2 then zj (-1) else zV1 a b) → R none h') : zCC X M_X9_init [.ref 78] h R := by
  have v1 : ∀ n, 76 < n → ∀ y, (if n = 78 ∧ y = 2 then zj (-1) else zV1 n y) = 0 ∨ n = 78 := fun n hn y => by
    by_cases c : n = 78
    · exact Or.inr c
    · refine Or.inl ?_
      rw [if_neg (fun q => c q.1)]
      unfold zV1
      rw [if_neg (by omega)]
  have v2 : ∀ n, 78 < n → ∀ y, (if n = 78 ∧ y = 2 then zj (-1) else zV1 n y) = 0 := fun n hn y => (v1 n (by omega) y).resolve_right (by omega)
  have s0 : zsh h 78 = some (.inl 9) := z.sh (by omega) (by omega) rfl
  have a0 := z.pi (x := 78) (y := 2) (v := zj (-1))
  have a1 := a0.ap (x := 78) (j := 5) (c := .inr (.byte, 800)) rfl (v2 _ (by omega)) (by omega) (by omega) (by omega)
  have a2 := a1.ap (x := 78) (j := 15) (c := .inr (.int, 15)) rfl (v2 _ (by omega)) (by omega) (by omega) (by omega)
  have a3 := a2.ap (x := 78) (j := 16) (c := .inr (.int, 15)) rfl (v2 _ (by omega)) (by omega) (by omega) (by omega)
  have a4 := a3.ap (x := 78) (j := 17) (c := .inr (.int, 240)) rfl (v2 _ (by omega)) (by omega) (by omega) (by omega)
  have a5 := a4.ap (x := 78) (j := 18) (c := .inr (.int, 45)) rfl (v2 _ (by omega)) (by omega) (by omega) (by omega)
  have a6 := a5.ap (x := 78) (j := 21) (c := .inr (.int, 5)) rfl (v2 _ (by omega)) (by omega) (by omega) (by omega)
  have a7 := a6.ap (x := 78) (j := 22) (c := .inr (.int, 5)) rfl (v2 _ (by omega)) (by omega) (by omega) (by omega)
  refine zCC_of (ls := [.ref 78]) pf_X9_init rfl (Nat.le_of_ble_eq_true rfl) ?_
  refine vb_X9_init_0 _ _ _ ?_
  simp only [B_X9_init_0, oPI, oPL, oILOAD, oLLOAD, oALOAD, oISTORE, oASTORE, oLSTORE, oIINC, oIADD, oISUB, oIMUL, oIAND, oIOR, oIXOR, oIDIV, oIREM, oISHL, oISHR, oIUSHR, oLADD, oLSUB, oLMUL, oLOR, oLDIV, oLREM, oLCMP, oLSHL, oINEG, oI2L, oL2I, oI2B, oI2C, oDUP, oPOP, oDUP2, oIFEQ, oICEQ, oIFNE, oICNE, oIFLT, oICLT, oIFGE, oICGE, oIFGT, oICGT, oIFLE, oICLE, oIFNULL, oIFNONNULL, oTSW, oLSW, oGETI, oGETL, oGETR, oPUTI, oPUTZ, oPUTL, oPUTR, oIALD, oBALD, oZALD, oLALD, oAALD, oALEN, oIAST, oBAST, oZAST, oLAST, oIRET, oZRET, oLRET, oVRET, oARET, oOBJ, oINI, oPS, oNEW, oNEWAI, oNEWAB, oNEWAZ, oNEWAL, oCOPY, oINV0, oINS0, oINV1, oINS1, oINV2, oINS2, oINV3, oINS3, oINV4, oINS4, oINV5, oINS5, oINV6, oINS6, List.getElem?_cons_zero, List.getElem?_cons_succ, List.set_cons_zero, List.set_cons_succ, znl, zs4, zc1, true_and, and_self, Value.category, Option.toList, List.cons_append, List.nil_append, zvr, s0]
  exact ⟨⟨by decide, by decide⟩, a0.sa (x := 78) (by omega) (by omega) rfl, ⟨by decide, by decide⟩, a1.sa (x := 78) (by omega) (by omega) rfl, ⟨by decide, by decide⟩, a2.sa (x := 78) (by omega) (by omega) rfl, ⟨by decide, by decide⟩, a3.sa (x := 78) (by omega) (by omega) rfl, ⟨by decide, by decide⟩, a4.sa (x := 78) (by omega) (by omega) rfl, ⟨by decide, by decide⟩, a5.sa (x := 78) (by omega) (by omega) rfl, ⟨by decide, by decide⟩, a6.sa (x := 78) (by omega) (by omega) rfl, k _ a7⟩
def zLf : List ((Nat × Nat) × Nat) := [((78, 22), 85), ((78, 21), 84), ((78, 18), 83), ((78, 17), 82), ((78, 16), 81), ((78, 15), 80), ((78, 5), 79), ((16, 4), 77), ((16, 3), 68), ((68, 1), 76), ((68, 0), 69), ((16, 2), 46), ((46, 1), 64), ((46, 0), 47), ((16, 1), 32), ((32, 1), 45), ((32, 0), 33), ((33, 15), 44), ((33, 14), 43), ((33, 12), 42), ((33, 10), 41), ((33, 9), 40), ((33, 7), 39), ((33, 6), 38), ((33, 5), 37), ((33, 4), 36), ((33, 3), 35), ((33, 2), 34), ((16, 0), 17), ((17, 1), 20), ((20, 15), 31), ((20, 14), 30), ((20, 12), 29), ((20, 10), 28), ((20, 9), 27), ((20, 7), 26), ((20, 6), 25), ((20, 5), 24), ((20, 4), 23), ((20, 3), 22), ((20, 2), 21), ((17, 0), 18), ((18, 0), 19)]
/-- the heap of the law's start -/
def zVf : Nat → Nat → Int32 := fun a b => if a = 78 ∧ b = 2 then zj (-1) else zV1 a b
def zUp (h : zHp) : zHp := ((102, h.1.2), h.2)
theorem zI_first (z : zN h 87 zLf zVf) : zI (zUp h) 20 33 := by
  have v0 : ∀ x y, 16 ≤ x → x < 87 → ¬ (70 ≤ x ∧ x ≤ 75) → x ≠ 78 → zgi h x y = 0 := fun x y q1 q2 q3 q4 => by
    rw [z.gi q1 q2 y]
    unfold zVf zV1
    rw [if_neg (by omega), if_neg (by omega)]
  have v78 : ∀ y, y ≠ 2 → zgi h 78 y = 0 := fun y hy => by
    rw [z.gi (by omega) (by omega) y]
    unfold zVf zV1
    rw [if_neg (by omega), if_neg (by omega)]
  have g0 : ∀ x y, 16 ≤ x → x < 87 → ¬ (70 ≤ x ∧ x ≤ 75) → x ≠ 78 → gz (zUp h) x y = 0 := fun x y q1 q2 q3 q4 => (congrArg Int32.toInt (v0 x y q1 q2 q3 q4)).trans rfl
  have g78 : ∀ y, y ≠ 2 → gz (zUp h) 78 y = 0 := fun y hy => (congrArg Int32.toInt (v78 y hy)).trans rfl
  have w : zCW (zUp h) 20 33 := ⟨⟨z.sh (by omega) (by omega) rfl, z.sh (by omega) (by omega) rfl, z.gr (by omega) (by omega) (by omega), z.sh (by omega) (by omega) rfl, z.gr (by omega) (by omega) (by omega), z.sh (by omega) (by omega) rfl, z.gr (by omega) (by omega) (by omega), z.sh (by omega) (by omega) rfl, z.gr (by omega) (by omega) (by omega), z.sh (by omega) (by omega) rfl, z.gr (by omega) (by omega) (by omega), z.sh (by omega) (by omega) rfl, z.gr (by omega) (by omega) (by omega), z.sh (by omega) (by omega) rfl, z.gr (by omega) (by omega) (by omega), z.sh (by omega) (by omega) rfl, z.gr (by omega) (by omega) (by omega), z.sh (by omega) (by omega) rfl, z.gr (by omega) (by omega) (by omega), z.sh (by omega) (by omega) rfl, z.gr (by omega) (by omega) (by omega), z.sh (by omega) (by omega) rfl, z.gr (by omega) (by omega) (by omega)⟩, ⟨z.sh (by omega) (by omega) rfl, z.sh (by omega) (by omega) rfl, z.gr (by omega) (by omega) (by omega), z.sh (by omega) (by omega) rfl, z.gr (by omega) (by omega) (by omega), z.sh (by omega) (by omega) rfl, z.gr (by omega) (by omega) (by omega), z.sh (by omega) (by omega) rfl, z.gr (by omega) (by omega) (by omega), z.sh (by omega) (by omega) rfl, z.gr (by omega) (by omega) (by omega), z.sh (by omega) (by omega) rfl, z.gr (by omega) (by omega) (by omega), z.sh (by omega) (by omega) rfl, z.gr (by omega) (by omega) (by omega), z.sh (by omega) (by omega) rfl, z.gr (by omega) (by omega) (by omega), z.sh (by omega) (by omega) rfl, z.gr (by omega) (by omega) (by omega), z.sh (by omega) (by omega) rfl, z.gr (by omega) (by omega) (by omega), z.sh (by omega) (by omega) rfl, z.gr (by omega) (by omega) (by omega)⟩, z.sh (by omega) (by omega) rfl, z.sh (by omega) (by omega) rfl, z.sh (by omega) (by omega) rfl, z.sh (by omega) (by omega) rfl, z.sh (by omega) (by omega) rfl, z.sh (by omega) (by omega) rfl, z.sh (by omega) (by omega) rfl, z.sh (by omega) (by omega) rfl, z.sh (by omega) (by omega) rfl, z.sh (by omega) (by omega) rfl, z.sh (by omega) (by omega) rfl, z.sh (by omega) (by omega) rfl, z.sh (by omega) (by omega) rfl, z.gr (by omega) (by omega) (by omega), z.gr (by omega) (by omega) (by omega), z.gr (by omega) (by omega) (by omega), z.gr (by omega) (by omega) (by omega), z.gr (by omega) (by omega) (by omega), z.gr (by omega) (by omega) (by omega), z.gr (by omega) (by omega) (by omega), z.gr (by omega) (by omega) (by omega), z.gr (by omega) (by omega) (by omega), z.gr (by omega) (by omega) (by omega), z.gr (by omega) (by omega) (by omega), z.gr (by omega) (by omega) (by omega), z.gr (by omega) (by omega) (by omega), z.gr (by omega) (by omega) (by omega), fun i hi => ⟨(z.2.2.2 (48 + i) (by omega) (by omega)).1.trans (by
      have := zSs_a i hi
      rw [show 32 + i = 48 + i - 16 by omega] at this
      exact this), (z.ga (by omega) (by omega) (by omega)).trans (if_pos hi)⟩, fun i hi => ⟨(z.2.2.2 (65 + i) (by omega) (by omega)).1.trans (by
      have := zSs_b i hi
      rw [show 49 + i = 65 + i - 16 by omega] at this
      exact this), (z.ga (by omega) (by omega) (by omega)).trans (if_pos hi)⟩, fun i hi => ⟨(z.2.2.2 (70 + i) (by omega) (by omega)).1.trans (by
      have := zSs_c i hi
      rw [show 54 + i = 70 + i - 16 by omega] at this
      exact this), (z.ga (by omega) (by omega) (by omega)).trans (if_pos hi)⟩, Or.inl ⟨rfl, rfl⟩⟩
  have mw : zMW (zUp h) := ⟨z.sh (by omega) (by omega) rfl, z.sh (by omega) (by omega) rfl, z.sh (by omega) (by omega) rfl, z.sh (by omega) (by omega) rfl, z.sh (by omega) (by omega) rfl, z.sh (by omega) (by omega) rfl, z.sh (by omega) (by omega) rfl, z.sh (by omega) (by omega) rfl, z.gr (by omega) (by omega) (by omega), z.gr (by omega) (by omega) (by omega), z.gr (by omega) (by omega) (by omega), z.gr (by omega) (by omega) (by omega), z.gr (by omega) (by omega) (by omega), z.gr (by omega) (by omega) (by omega), z.gr (by omega) (by omega) (by omega)⟩
  have pv : ∀ q, q = 20 ∨ q = 33 → zPV (zUp h) q := fun q hq => by
    unfold zPV
    rw [g0 q 1 (by omega) (by omega) (by omega) (by omega), g0 q 8 (by omega) (by omega) (by omega) (by omega), g0 q 11 (by omega) (by omega) (by omega) (by omega), g0 q 13 (by omega) (by omega) (by omega) (by omega), g0 q 0 (by omega) (by omega) (by omega) (by omega)]
    refine ⟨by omega, fun b hb => ?_, by omega, fun b hb => ?_, by omega, fun b hb => ?_, by omega, fun b hb => ?_, by omega⟩
    · rw [g0 (q + 2) b (by omega) (by omega) (by omega) (by omega), g0 (q + 4) b (by omega) (by omega) (by omega) (by omega), g0 (q + 5) b (by omega) (by omega) (by omega) (by omega), g0 (q + 6) b (by omega) (by omega) (by omega) (by omega)]
      omega
    · rw [g0 (q + 7) b (by omega) (by omega) (by omega) (by omega)]; omega
    · rw [g0 (q + 9) b (by omega) (by omega) (by omega) (by omega)]; omega
    · rw [g0 (q + 11) b (by omega) (by omega) (by omega) (by omega)]; omega
  have nr : ∀ q, 16 ≤ q → q < 87 → ¬ (70 ≤ q ∧ q ≤ 75) → q ≠ 78 → zNr (zUp h) q := fun q q1 q2 q3 q4 => by
    refine ⟨fun b hb => ?_, fun i hi => ?_, ?_⟩
    · rw [g0 q b q1 q2 q3 q4]; omega
    · rw [g0 q _ q1 q2 q3 q4]; omega
    · rw [g0 q _ q1 q2 q3 q4]; omega
  refine ⟨w, pv 33 (Or.inr rfl), nr 45 (by omega) (by omega) (by omega) (by omega), ?_, fun n hn s hs => ?_, Or.inl ⟨mw, z.gr (by omega) (by omega) (by omega), g0 33 1 (by omega) (by omega) (by omega) (by omega), Or.inr rfl, g0 33 13 (by omega) (by omega) (by omega) (by omega)⟩, ?_, ?_, ?_, ?_, ⟨rfl, z.sh (by omega) (by omega) rfl⟩, pv 20 (Or.inl rfl)⟩
  · unfold zMV
    rw [g0 46 2 (by omega) (by omega) (by omega) (by omega), g0 46 3 (by omega) (by omega) (by omega) (by omega), g0 46 4 (by omega) (by omega) (by omega) (by omega)]
    omega
  · show (zgi h (70 + n) s).toInt = _
    rw [z.gi (by omega) (by omega) s]
    unfold zVf zV1
    rw [if_neg (by omega), if_pos (by omega), show 70 + n - 70 = n by omega]
    have := zct_5 hn s
    exact zj_toInt (by omega) (by omega)
  · unfold zAc
    rw [g78 19 (by omega), g78 20 (by omega), g0 46 2 (by omega) (by omega) (by omega) (by omega), g0 46 4 (by omega) (by omega) (by omega) (by omega)]
    exact ⟨rfl, rfl, fun j hj => absurd hj (by omega), fun j _ hj => absurd hj (by omega), fun j hj => nr _ (by omega) (by omega) (by omega) (by omega), fun j hj => nr _ (by omega) (by omega) (by omega) (by omega)⟩
  · unfold zTp
    rw [g78 6 (by omega), g0 18 1 (by omega) (by omega) (by omega) (by omega)]
    exact ⟨rfl, by omega, fun i hi => absurd hi (by omega)⟩
  · have e1 : zgi (zUp h) 16 5 = 0 := v0 16 5 (by omega) (by omega) (by omega) (by omega)
    unfold zTb
    rw [e1, show zgi (zUp h) 78 1 = 0 from v78 1 (by omega), show zgi (zUp h) 78 12 = 0 from v78 12 (by omega), show zgi (zUp h) 17 3 = 0 from v0 17 3 (by omega) (by omega) (by omega) (by omega)]
    refine ⟨rfl, rfl, fun q => absurd q (by decide), fun _ => ?_⟩
    exact (z.gi (by omega) (by omega) 2).trans (if_pos ⟨rfl, rfl⟩)
  · intro _
    rw [g0 33 0 (by omega) (by omega) (by omega) (by omega), g0 33 8 (by omega) (by omega) (by omega) (by omega), g0 33 11 (by omega) (by omega) (by omega) (by omega), g0 33 13 (by omega) (by omega) (by omega) (by omega), g0 45 14 (by omega) (by omega) (by omega) (by omega), g0 46 2 (by omega) (by omega) (by omega) (by omega), g0 46 4 (by omega) (by omega) (by omega) (by omega)]
    omega
theorem zV_up {M : zM} {Q : zQt} {k n pc : Nat} {ls st : List Value} (hn : znx h ≤ 102) (hv : zV X M Q k n pc ls st (zUp h)) : zV X M Q k n pc ls st h := by
  intro p l e s m args below meth c A D ad0 ad tys ws H locs cls cst hB hls hst
  obtain ⟨hC, hE, hL, hK, hP, hD, hS, hH, hF⟩ := hB
  exact hv p l e s m args below meth c A D ad0 ad tys ws H locs cls cst ⟨hC, hE, hL, hK, hP, hD, hS, ⟨hH.1, fun k hk => hH.2.1 k (Nat.le_trans hn hk), hH.2.2⟩, hF⟩ hls hst
end ZNO
