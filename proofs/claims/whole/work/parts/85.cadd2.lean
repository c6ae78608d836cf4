section ZCB
variable {X : Nat × (Nat → Int32)} {R : zRt} {h h' h0 h1 h2 : zHp} {d p : Nat} {T : Nat → Int} {n s : Nat} {D D' : zDt}
theorem zRI.step (I : zRI h0 h d p T n s D) (e1 : h'.1 = h.1) (e2 : h'.2.2.2 = h.2.2.2) (e : ∀ x y, ¬ (d ≤ x ∧ x ≤ d + 11) → zgi h' x y = zgi h x y) (el : ∀ x y, ¬ (d ≤ x ∧ x ≤ d + 11) → zgl h' x y = zgl h x y) (dr : zDR h' d D') (pv : zPV h' d) (ht : D'.1 = D.1) (o : zDo D') : zRI h0 h' d p T n s D' := by
  have hd := I.hd
  refine ⟨I.w.mr e1 e2, I.fr.tr ⟨e1, e2, fun x y q1 _ _ => e x y q1, fun x y q1 _ => el x y q1⟩, dr, pv, I.b, ?_, ?_, I.tx, ?_, ?_, o⟩
  · rw [show gz h' 18 2 = gz h 18 2 from congrArg Int32.toInt (e 18 2 (by omega))]; exact I.en
  · rw [show gz h' 18 3 = gz h 18 3 from congrArg Int32.toInt (e 18 3 (by omega))]; exact I.at
  · rw [e 17 2 (by omega), ht]; exact I.ht
  · rw [e 17 3 (by omega)]; exact I.f0
theorem cc_addBit {a c : List Nat} {so v : Nat} (I : zRI h0 h d p T n s D) (h6 : D.2.1.length < 6) (ht : ¬ D.1 = -1) (ha : zlt a) (hc : zlt c) (hs : so ≤ 3) (hv : v < 12) (hn : ¬ zNmd D a) (k : ∀ h', zRI h0 h' d p T n s (zD_bit D a so c v) → R none h') : zCC X M_X1_addBit [.ref d, .long (zk (zfo 256 0 a : Nat)), .int (zj so), .long (zk (zfo 256 0 c : Nat)), .int (zj v)] h R := by
  have wd := zc_pd I.w
  have dr := I.dr
  have o := I.do
  have hd := I.hd
  have v0 := I.pv
  obtain ⟨i, ei⟩ : ∃ i, D.2.1.length = i := ⟨_, rfl⟩
  have g1 : gz h d 1 = i := by rw [dr.2.1, ei]
  refine zCC_of (ls := [.ref d, .long (zk (zfo 256 0 a : Nat)), .retAddr 0, .int (zj so), .long (zk (zfo 256 0 c : Nat)), .retAddr 0, .int (zj v)]) pf_X1_addBit rfl (Nat.le_of_ble_eq_true rfl) ?_
  refine vb_X1_addBit_0 _ _ _ ?_
  simp only [B_X1_addBit_0, oPI, oPL, oILOAD, oLLOAD, oALOAD, oISTORE, oASTORE, oLSTORE, oIINC, oIADD, oISUB, oIMUL, oIAND, oIOR, oIXOR, oIDIV, oIREM, oISHL, oISHR, oIUSHR, oLADD, oLSUB, oLMUL, oLOR, oLDIV, oLREM, oLCMP, oLSHL, oINEG, oI2L, oL2I, oI2B, oI2C, oDUP, oPOP, oDUP2, oIFEQ, oICEQ, oIFNE, oICNE, oIFLT, oICLT, oIFGE, oICGE, oIFGT, oICGT, oIFLE, oICLE, oIFNULL, oIFNONNULL, oTSW, oLSW, oGETI, oGETL, oGETR, oPUTI, oPUTZ, oPUTL, oPUTR, oIALD, oBALD, oZALD, oLALD, oAALD, oALEN, oIAST, oBAST, oZAST, oLAST, oIRET, oZRET, oLRET, oVRET, oARET, oOBJ, oINI, oPS, oNEW, oNEWAI, oNEWAB, oNEWAZ, oNEWAL, oCOPY, oINV0, oINS0, oINV1, oINS1, oINV2, oINS2, oINV3, oINS3, oINV4, oINS4, oINV5, oINS5, oINV6, oINS6, List.getElem?_cons_zero, List.getElem?_cons_succ, List.set_cons_zero, List.set_cons_succ, znl, zs4, zc1, true_and, and_self, Value.category, Option.toList, List.cons_append, List.nil_append, zvr, zp_s wd, zp_s1 wd, zp_r2 wd, zp_s2 wd, zp_r3 wd, zp_s3 wd, zp_r4 wd, zp_s4 wd, zp_r5 wd, zp_s5 wd, zp_r6 wd, zp_s6 wd, zp_r7 wd, zp_s7 wd, zp_r9 wd, zp_s8 wd, zp_r10 wd, zp_s9 wd, zp_r12 wd, zp_s10 wd, zp_r14 wd, zp_s11 wd, zp_r15 wd, zsh_pi, zsh_pl, zgr_pi, zgr_pl]
  simp (disch := omega) only [zpi_o, zgi_plo]
  rw [zgi_gz h d 1, g1, zj_cn (by omega), zj_add]
  simp (disch := omega) only [zj_le]
  refine ⟨fun c => by omega, fun _ => ⟨zj_in (by omega) (by omega) (by omega), zj_in (by omega) (by omega) (by omega), zj_in (by omega) (by omega) (by omega), zj_in (by omega) (by omega) (by omega), zj_in (by omega) (by omega) (by omega), zj_in (by omega) (by omega) (by omega), ?_⟩⟩
  refine vb_X1_addBit_83 _ _ _ ?_
  simp only [B_X1_addBit_83, oPI, oPL, oILOAD, oLLOAD, oALOAD, oISTORE, oASTORE, oLSTORE, oIINC, oIADD, oISUB, oIMUL, oIAND, oIOR, oIXOR, oIDIV, oIREM, oISHL, oISHR, oIUSHR, oLADD, oLSUB, oLMUL, oLOR, oLDIV, oLREM, oLCMP, oLSHL, oINEG, oI2L, oL2I, oI2B, oI2C, oDUP, oPOP, oDUP2, oIFEQ, oICEQ, oIFNE, oICNE, oIFLT, oICLT, oIFGE, oICGE, oIFGT, oICGT, oIFLE, oICLE, oIFNULL, oIFNONNULL, oTSW, oLSW, oGETI, oGETL, oGETR, oPUTI, oPUTZ, oPUTL, oPUTR, oIALD, oBALD, oZALD, oLALD, oAALD, oALEN, oIAST, oBAST, oZAST, oLAST, oIRET, oZRET, oLRET, oVRET, oARET, oOBJ, oINI, oPS, oNEW, oNEWAI, oNEWAB, oNEWAZ, oNEWAL, oCOPY, oINV0, oINS0, oINV1, oINS1, oINV2, oINS2, oINV3, oINS3, oINV4, oINS4, oINV5, oINS5, oINV6, oINS6, List.getElem?_cons_zero, List.getElem?_cons_succ, List.set_cons_zero, List.set_cons_succ, znl, zs4, zc1, true_and, and_self, Value.category, Option.toList, List.cons_append, List.nil_append, zvr]
  obtain ⟨h9, hh⟩ : ∃ h9, h9 = zpi (zpi (zpi (zpi (zpl (zpi (zpl h (d + 1) i (zk (zfo 256 0 a : Nat))) (d + 2) i (zj so)) (d + 3) i (zk (zfo 256 0 c : Nat))) (d + 4) i (zj v)) (d + 5) i (zj (-2))) (d + 6) i (zj (-2))) d 1 (zj ((i : Int) + 1)) := ⟨_, rfl⟩
  rw [← hh]
  have gi : ∀ x y, ¬ (x = d + 2 ∧ y = i) → ¬ (x = d + 4 ∧ y = i) → ¬ (x = d + 5 ∧ y = i) → ¬ (x = d + 6 ∧ y = i) → ¬ (x = d ∧ y = 1) → zgi h9 x y = zgi h x y := fun x y q1 q2 q3 q4 q5 => by rw [hh]; simp (disch := omega) only [zpi_o, zgi_plo]
  have gg : ∀ x y, ¬ (x = d + 2 ∧ y = i) → ¬ (x = d + 4 ∧ y = i) → ¬ (x = d + 5 ∧ y = i) → ¬ (x = d + 6 ∧ y = i) → ¬ (x = d ∧ y = 1) → gz h9 x y = gz h x y := fun x y q1 q2 q3 q4 q5 => congrArg Int32.toInt (gi x y q1 q2 q3 q4 q5)
  have gl : ∀ x y, ¬ (x = d + 1 ∧ y = i) → ¬ (x = d + 3 ∧ y = i) → zgl h9 x y = zgl h x y := fun x y q1 q2 => by rw [hh]; simp (disch := omega) only [zplo, zgl_pio]
  have f1 : gz h9 d 1 = (i : Int) + 1 := by rw [hh]; exact gz_pi1 (by omega) (by omega)
  have f2 : gz h9 (d + 2) i = so := by show (zgi h9 (d + 2) i).toInt = _; rw [hh]; simp (disch := omega) only [zpi_o, zgi_plo, zpi_s, zj_toInt]
  have f4 : gz h9 (d + 4) i = v := by show (zgi h9 (d + 4) i).toInt = _; rw [hh]; simp (disch := omega) only [zpi_o, zgi_plo, zpi_s, zj_toInt]
  have f5 : gz h9 (d + 5) i = -2 := by show (zgi h9 (d + 5) i).toInt = _; rw [hh]; simp (disch := omega) only [zpi_o, zgi_plo, zpi_s, zj_toInt]
  have f6 : gz h9 (d + 6) i = -2 := by show (zgi h9 (d + 6) i).toInt = _; rw [hh]; simp (disch := omega) only [zpi_o, zgi_plo, zpi_s, zj_toInt]
  have l1 : zgl h9 (d + 1) i = zk (zfo 256 0 a : Nat) := by rw [hh]; simp (disch := omega) only [zplo, zgl_pio, zpl_s]
  have l3 : zgl h9 (d + 3) i = zk (zfo 256 0 c : Nat) := by rw [hh]; simp (disch := omega) only [zplo, zgl_pio, zpl_s]
  refine k h9 (I.step (by rw [hh]; rfl) (by rw [hh]; rfl) (fun x y q => gi x y (by omega) (by omega) (by omega) (by omega) (by omega)) (fun x y q => gl x y (by omega) (by omega)) ?_ ?_ rfl (zDo_bit o h6 ht ha hc hs hv hn))
  · refine ⟨fun z => ?_, ?_, fun j b hb => ?_, ?_, fun j x hx => ?_, ?_, fun j x hx => ?_, ?_, fun j x hx => ?_⟩
    · rw [gg d 0 (by omega) (by omega) (by omega) (by omega) (by omega)]; exact dr.1 z
    · rw [f1]; show (i : Int) + 1 = (((D.2.1 ++ [(a, so, c, v, -2, -2)]).length : Nat) : Int); rw [List.length_append]; simp; omega
    · rcases zap1 hb with ⟨hj, hb⟩ | ⟨hj, rfl⟩
      · rw [gl _ _ (by omega) (by omega), gg _ _ (by omega) (by omega) (by omega) (by omega) (by omega), gl _ _ (by omega) (by omega), gg _ _ (by omega) (by omega) (by omega) (by omega) (by omega), gg _ _ (by omega) (by omega) (by omega) (by omega) (by omega), gg _ _ (by omega) (by omega) (by omega) (by omega) (by omega)]
        exact dr.2.2.1 j b hb
      · rw [hj, ei]
        exact ⟨l1, f2, l3, f4, f5, f6⟩
    · rw [gg d 8 (by omega) (by omega) (by omega) (by omega) (by omega)]; exact dr.2.2.2.1
    · rw [gg _ _ (by omega) (by omega) (by omega) (by omega) (by omega), gl _ _ (by omega) (by omega)]; exact dr.2.2.2.2.1 j x hx
    · rw [gg d 11 (by omega) (by omega) (by omega) (by omega) (by omega)]; exact dr.2.2.2.2.2.1
    · rw [gg _ _ (by omega) (by omega) (by omega) (by omega) (by omega)]; exact dr.2.2.2.2.2.2.1 j x hx
    · rw [gg d 13 (by omega) (by omega) (by omega) (by omega) (by omega)]; exact dr.2.2.2.2.2.2.2.1
    · rw [gl _ _ (by omega) (by omega), gg _ _ (by omega) (by omega) (by omega) (by omega) (by omega)]; exact dr.2.2.2.2.2.2.2.2 j x hx
  · refine ⟨by rw [f1]; omega, fun b hb => ?_, ?_, fun j hj => ?_, ?_, fun j hj => ?_, ?_, fun j hj => ?_, ?_⟩
    · by_cases e : b = i
      · rw [e, f2, f4, f5, f6]; omega
      · rw [gg _ _ (by omega) (by omega) (by omega) (by omega) (by omega), gg _ _ (by omega) (by omega) (by omega) (by omega) (by omega), gg _ _ (by omega) (by omega) (by omega) (by omega) (by omega), gg _ _ (by omega) (by omega) (by omega) (by omega) (by omega)]
        exact v0.2.1 b hb
    · rw [gg d 8 (by omega) (by omega) (by omega) (by omega) (by omega)]; exact v0.2.2.1
    · rw [gg _ _ (by omega) (by omega) (by omega) (by omega) (by omega)]; exact v0.2.2.2.1 j hj
    · rw [gg d 11 (by omega) (by omega) (by omega) (by omega) (by omega)]; exact v0.2.2.2.2.1
    · rw [gg _ _ (by omega) (by omega) (by omega) (by omega) (by omega)]; exact v0.2.2.2.2.2.1 j hj
    · rw [gg d 13 (by omega) (by omega) (by omega) (by omega) (by omega)]; exact v0.2.2.2.2.2.2.1
    · rw [gg _ _ (by omega) (by omega) (by omega) (by omega) (by omega)]; exact v0.2.2.2.2.2.2.2.1 j hj
    · rw [gg d 0 (by omega) (by omega) (by omega) (by omega) (by omega)]; exact v0.2.2.2.2.2.2.2.2
def zD_met (D : zDt) (a : Nat) (c : List Nat) : zDt := (D.1, D.2.1, D.2.2.1 ++ [(a, c)], D.2.2.2)
def zD_hol (D : zDt) (a : Nat) : zDt := (D.1, D.2.1, D.2.2.1, D.2.2.2.1 ++ [a], D.2.2.2.2)
theorem zDo_met {a : Nat} {c : List Nat} (o : zDo D) (h6 : D.2.2.1.length < 6) (ht : ¬ D.1 = -1) (hc : zlt c) (ha : a < 12) : zDo (zD_met D a c) := by
  obtain ⟨o1, o2, o3, o4, o5, o6, o7, o8, o9, o10, o11⟩ := o
  refine ⟨o1, fun z => absurd z ht, ⟨o3.1, ?_, o3.2.2⟩, o4, fun i x hx => ?_, o6, o7, o8, o9, o10, o11⟩
  · show (D.2.2.1 ++ [(a, c)]).length ≤ 6
    rw [List.length_append]; simp; omega
  · rcases zap1 hx with ⟨-, hx⟩ | ⟨-, rfl⟩
    · exact o5 i x hx
    · exact ⟨ha, hc⟩
theorem zDo_hol {a : Nat} (o : zDo D) (h6 : D.2.2.2.1.length < 8) (ht : ¬ D.1 = -1) (ha : a < 100) : zDo (zD_hol D a) := by
  obtain ⟨o1, o2, o3, o4, o5, o6, o7, o8, o9, o10, o11⟩ := o
  refine ⟨o1, fun z => absurd z ht, ⟨o3.1, o3.2.1, ?_, o3.2.2.2⟩, o4, o5, fun i x hx => ?_, o7, o8, o9, o10, o11⟩
  · show (D.2.2.2.1 ++ [a]).length ≤ 8
    rw [List.length_append]; simp; omega
  · rcases zap1 hx with ⟨-, hx⟩ | ⟨-, rfl⟩
    · exact o6 i x hx
    · exact ha
theorem cc_addMet {a : Nat} {c : List Nat} (I : zRI h0 h d p T n s D) (h6 : D.2.2.1.length < 6) (ht : ¬ D.1 = -1) (hc : zlt c) (ha : a < 12) (k : ∀ h', zRI h0 h' d p T n s (zD_met D a c) → R none h') : zCC X M_X1_addMet [.ref d, .int (zj a), .long (zk (zfo 256 0 c : Nat))] h R := by
  have wd := zc_pd I.w
  have dr := I.dr
  have o := I.do
  have hd := I.hd
  have v0 := I.pv
  obtain ⟨i, ei⟩ : ∃ i, D.2.2.1.length = i := ⟨_, rfl⟩
  have g1 : gz h d 8 = i := by rw [dr.2.2.2.1, ei]
  refine zCC_of (ls := [.ref d, .int (zj a), .long (zk (zfo 256 0 c : Nat)), .retAddr 0]) pf_X1_addMet rfl (Nat.le_of_ble_eq_true rfl) ?_
  refine vb_X1_addMet_0 _ _ _ ?_
  simp only [B_X1_addMet_0, oPI, oPL, oILOAD, oLLOAD, oALOAD, oISTORE, oASTORE, oLSTORE, oIINC, oIADD, oISUB, oIMUL, oIAND, oIOR, oIXOR, oIDIV, oIREM, oISHL, oISHR, oIUSHR, oLADD, oLSUB, oLMUL, oLOR, oLDIV, oLREM, oLCMP, oLSHL, oINEG, oI2L, oL2I, oI2B, oI2C, oDUP, oPOP, oDUP2, oIFEQ, oICEQ, oIFNE, oICNE, oIFLT, oICLT, oIFGE, oICGE, oIFGT, oICGT, oIFLE, oICLE, oIFNULL, oIFNONNULL, oTSW, oLSW, oGETI, oGETL, oGETR, oPUTI, oPUTZ, oPUTL, oPUTR, oIALD, oBALD, oZALD, oLALD, oAALD, oALEN, oIAST, oBAST, oZAST, oLAST, oIRET, oZRET, oLRET, oVRET, oARET, oOBJ, oINI, oPS, oNEW, oNEWAI, oNEWAB, oNEWAZ, oNEWAL, oCOPY, oINV0, oINS0, oINV1, oINS1, oINV2, oINS2, oINV3, oINS3, oINV4, oINS4, oINV5, oINS5, oINV6, oINS6, List.getElem?_cons_zero, List.getElem?_cons_succ, List.set_cons_zero, List.set_cons_succ, znl, zs4, zc1, true_and, and_self, Value.category, Option.toList, List.cons_append, List.nil_append, zvr, zp_s wd, zp_s1 wd, zp_r2 wd, zp_s2 wd, zp_r3 wd, zp_s3 wd, zp_r4 wd, zp_s4 wd, zp_r5 wd, zp_s5 wd, zp_r6 wd, zp_s6 wd, zp_r7 wd, zp_s7 wd, zp_r9 wd, zp_s8 wd, zp_r10 wd, zp_s9 wd, zp_r12 wd, zp_s10 wd, zp_r14 wd, zp_s11 wd, zp_r15 wd, zsh_pi, zsh_pl, zgr_pi, zgr_pl]
  simp (disch := omega) only [zpi_o, zgi_plo]
  rw [zgi_gz h d 8, g1, zj_cn (by omega), zj_add]
  simp (disch := omega) only [zj_le]
  refine ⟨fun c => by omega, fun _ => ⟨zj_in (by omega) (by omega) (by omega), zj_in (by omega) (by omega) (by omega), ?_⟩⟩
  refine vb_X1_addMet_39 _ _ _ ?_
  simp only [B_X1_addMet_39, oPI, oPL, oILOAD, oLLOAD, oALOAD, oISTORE, oASTORE, oLSTORE, oIINC, oIADD, oISUB, oIMUL, oIAND, oIOR, oIXOR, oIDIV, oIREM, oISHL, oISHR, oIUSHR, oLADD, oLSUB, oLMUL, oLOR, oLDIV, oLREM, oLCMP, oLSHL, oINEG, oI2L, oL2I, oI2B, oI2C, oDUP, oPOP, oDUP2, oIFEQ, oICEQ, oIFNE, oICNE, oIFLT, oICLT, oIFGE, oICGE, oIFGT, oICGT, oIFLE, oICLE, oIFNULL, oIFNONNULL, oTSW, oLSW, oGETI, oGETL, oGETR, oPUTI, oPUTZ, oPUTL, oPUTR, oIALD, oBALD, oZALD, oLALD, oAALD, oALEN, oIAST, oBAST, oZAST, oLAST, oIRET, oZRET, oLRET, oVRET, oARET, oOBJ, oINI, oPS, oNEW, oNEWAI, oNEWAB, oNEWAZ, oNEWAL, oCOPY, oINV0, oINS0, oINV1, oINS1, oINV2, oINS2, oINV3, oINS3, oINV4, oINS4, oINV5, oINS5, oINV6, oINS6, List.getElem?_cons_zero, List.getElem?_cons_succ, List.set_cons_zero, List.set_cons_succ, znl, zs4, zc1, true_and, and_self, Value.category, Option.toList, List.cons_append, List.nil_append, zvr]
  obtain ⟨h9, hh⟩ : ∃ h9, h9 = zpi (zpl (zpi h (d + 7) i (zj a)) (d + 8) i (zk (zfo 256 0 c : Nat))) d 8 (zj ((i : Int) + 1)) := ⟨_, rfl⟩
  rw [← hh]
  have gi : ∀ x y, ¬ (x = d + 7 ∧ y = i) → ¬ (x = d ∧ y = 8) → zgi h9 x y = zgi h x y := fun x y q1 q2 => by rw [hh]; simp (disch := omega) only [zpi_o, zgi_plo]
  have gg : ∀ x y, ¬ (x = d + 7 ∧ y = i) → ¬ (x = d ∧ y = 8) → gz h9 x y = gz h x y := fun x y q1 q2 => congrArg Int32.toInt (gi x y q1 q2)
  have gl : ∀ x y, ¬ (x = d + 8 ∧ y = i) → zgl h9 x y = zgl h x y := fun x y q1 => by rw [hh]; simp (disch := omega) only [zplo, zgl_pio]
  have f1 : gz h9 d 8 = (i : Int) + 1 := by rw [hh]; exact gz_pi1 (by omega) (by omega)
  have f2 : gz h9 (d + 7) i = a := by show (zgi h9 (d + 7) i).toInt = _; rw [hh]; simp (disch := omega) only [zpi_o, zgi_plo, zpi_s, zj_toInt]
  have l1 : zgl h9 (d + 8) i = zk (zfo 256 0 c : Nat) := by rw [hh]; simp (disch := omega) only [zplo, zgl_pio, zpl_s]
  refine k h9 (I.step (by rw [hh]; rfl) (by rw [hh]; rfl) (fun x y q => gi x y (by omega) (by omega)) (fun x y q => gl x y (by omega)) ?_ ?_ rfl (zDo_met o h6 ht hc ha))
  · refine ⟨fun z => ?_, ?_, fun j b hb => ?_, ?_, fun j x hx => ?_, ?_, fun j x hx => ?_, ?_, fun j x hx => ?_⟩
    · rw [gg d 0 (by omega) (by omega)]; exact dr.1 z
    · rw [gg d 1 (by omega) (by omega)]; exact dr.2.1
    · rw [gl _ _ (by omega), gg _ _ (by omega) (by omega), gl _ _ (by omega), gg _ _ (by omega) (by omega), gg _ _ (by omega) (by omega), gg _ _ (by omega) (by omega)]
      exact dr.2.2.1 j b hb
    · rw [f1]; show (i : Int) + 1 = (((D.2.2.1 ++ [(a, c)]).length : Nat) : Int); rw [List.length_append]; simp; omega
    · rcases zap1 hx with ⟨hj, hx⟩ | ⟨hj, rfl⟩
      · rw [gg _ _ (by omega) (by omega), gl _ _ (by omega)]; exact dr.2.2.2.2.1 j x hx
      · rw [hj, ei]; exact ⟨f2, l1⟩
    · rw [gg d 11 (by omega) (by omega)]; exact dr.2.2.2.2.2.1
    · rw [gg _ _ (by omega) (by omega)]; exact dr.2.2.2.2.2.2.1 j x hx
    · rw [gg d 13 (by omega) (by omega)]; exact dr.2.2.2.2.2.2.2.1
    · rw [gl _ _ (by omega), gg _ _ (by omega) (by omega)]; exact dr.2.2.2.2.2.2.2.2 j x hx
  · refine ⟨by rw [gg d 1 (by omega) (by omega)]; exact v0.1, fun b hb => ?_, by rw [f1]; omega, fun j hj => ?_, ?_, fun j hj => ?_, ?_, fun j hj => ?_, ?_⟩
    · rw [gg _ _ (by omega) (by omega), gg _ _ (by omega) (by omega), gg _ _ (by omega) (by omega), gg _ _ (by omega) (by omega)]
      exact v0.2.1 b hb
    · by_cases e : j = i
      · rw [e, f2]; omega
      · rw [gg _ _ (by omega) (by omega)]; exact v0.2.2.2.1 j hj
    · rw [gg d 11 (by omega) (by omega)]; exact v0.2.2.2.2.1
    · rw [gg _ _ (by omega) (by omega)]; exact v0.2.2.2.2.2.1 j hj
    · rw [gg d 13 (by omega) (by omega)]; exact v0.2.2.2.2.2.2.1
    · rw [gg _ _ (by omega) (by omega)]; exact v0.2.2.2.2.2.2.2.1 j hj
    · rw [gg d 0 (by omega) (by omega)]; exact v0.2.2.2.2.2.2.2.2
theorem cc_addHoliday {a : Nat} (I : zRI h0 h d p T n s D) (h6 : D.2.2.2.1.length < 8) (ht : ¬ D.1 = -1) (ha : a < 100) (k : ∀ h', zRI h0 h' d p T n s (zD_hol D a) → R none h') : zCC X M_X1_addHoliday [.ref d, .int (zj a)] h R := by
  have wd := zc_pd I.w
  have dr := I.dr
  have o := I.do
  have hd := I.hd
  have v0 := I.pv
  obtain ⟨i, ei⟩ : ∃ i, D.2.2.2.1.length = i := ⟨_, rfl⟩
  have g1 : gz h d 11 = i := by rw [dr.2.2.2.2.2.1, ei]
  refine zCC_of (ls := [.ref d, .int (zj a)]) pf_X1_addHoliday rfl (Nat.le_of_ble_eq_true rfl) ?_
  refine vb_X1_addHoliday_0 _ _ _ ?_
  simp only [B_X1_addHoliday_0, oPI, oPL, oILOAD, oLLOAD, oALOAD, oISTORE, oASTORE, oLSTORE, oIINC, oIADD, oISUB, oIMUL, oIAND, oIOR, oIXOR, oIDIV, oIREM, oISHL, oISHR, oIUSHR, oLADD, oLSUB, oLMUL, oLOR, oLDIV, oLREM, oLCMP, oLSHL, oINEG, oI2L, oL2I, oI2B, oI2C, oDUP, oPOP, oDUP2, oIFEQ, oICEQ, oIFNE, oICNE, oIFLT, oICLT, oIFGE, oICGE, oIFGT, oICGT, oIFLE, oICLE, oIFNULL, oIFNONNULL, oTSW, oLSW, oGETI, oGETL, oGETR, oPUTI, oPUTZ, oPUTL, oPUTR, oIALD, oBALD, oZALD, oLALD, oAALD, oALEN, oIAST, oBAST, oZAST, oLAST, oIRET, oZRET, oLRET, oVRET, oARET, oOBJ, oINI, oPS, oNEW, oNEWAI, oNEWAB, oNEWAZ, oNEWAL, oCOPY, oINV0, oINS0, oINV1, oINS1, oINV2, oINS2, oINV3, oINS3, oINV4, oINS4, oINV5, oINS5, oINV6, oINS6, List.getElem?_cons_zero, List.getElem?_cons_succ, List.set_cons_zero, List.set_cons_succ, znl, zs4, zc1, true_and, and_self, Value.category, Option.toList, List.cons_append, List.nil_append, zvr, zp_s wd, zp_s1 wd, zp_r2 wd, zp_s2 wd, zp_r3 wd, zp_s3 wd, zp_r4 wd, zp_s4 wd, zp_r5 wd, zp_s5 wd, zp_r6 wd, zp_s6 wd, zp_r7 wd, zp_s7 wd, zp_r9 wd, zp_s8 wd, zp_r10 wd, zp_s9 wd, zp_r12 wd, zp_s10 wd, zp_r14 wd, zp_s11 wd, zp_r15 wd, zsh_pi, zsh_pl, zgr_pi, zgr_pl]
  simp (disch := omega) only [zpi_o, zgi_plo]
  rw [zgi_gz h d 11, g1, zj_cn (by omega), zj_add]
  simp (disch := omega) only [zj_le]
  refine ⟨fun c => by omega, fun _ => ⟨zj_in (by omega) (by omega) (by omega), ?_⟩⟩
  refine vb_X1_addHoliday_29 _ _ _ ?_
  simp only [B_X1_addHoliday_29, oPI, oPL, oILOAD, oLLOAD, oALOAD, oISTORE, oASTORE, oLSTORE, oIINC, oIADD, oISUB, oIMUL, oIAND, oIOR, oIXOR, oIDIV, oIREM, oISHL, oISHR, oIUSHR, oLADD, oLSUB, oLMUL, oLOR, oLDIV, oLREM, oLCMP, oLSHL, oINEG, oI2L, oL2I, oI2B, oI2C, oDUP, oPOP, oDUP2, oIFEQ, oICEQ, oIFNE, oICNE, oIFLT, oICLT, oIFGE, oICGE, oIFGT, oICGT, oIFLE, oICLE, oIFNULL, oIFNONNULL, oTSW, oLSW, oGETI, oGETL, oGETR, oPUTI, oPUTZ, oPUTL, oPUTR, oIALD, oBALD, oZALD, oLALD, oAALD, oALEN, oIAST, oBAST, oZAST, oLAST, oIRET, oZRET, oLRET, oVRET, oARET, oOBJ, oINI, oPS, oNEW, oNEWAI, oNEWAB, oNEWAZ, oNEWAL, oCOPY, oINV0, oINS0, oINV1, oINS1, oINV2, oINS2, oINV3, oINS3, oINV4, oINS4, oINV5, oINS5, oINV6, oINS6, List.getElem?_cons_zero, List.getElem?_cons_succ, List.set_cons_zero, List.set_cons_succ, znl, zs4, zc1, true_and, and_self, Value.category, Option.toList, List.cons_append, List.nil_append, zvr]
  obtain ⟨h9, hh⟩ : ∃ h9, h9 = zpi (zpi h (d + 9) i (zj a)) d 11 (zj ((i : Int) + 1)) := ⟨_, rfl⟩
  rw [← hh]
  have gi : ∀ x y, ¬ (x = d + 9 ∧ y = i) → ¬ (x = d ∧ y = 11) → zgi h9 x y = zgi h x y := fun x y q1 q2 => by rw [hh]; simp (disch := omega) only [zpi_o, zgi_plo]
  have gg : ∀ x y, ¬ (x = d + 9 ∧ y = i) → ¬ (x = d ∧ y = 11) → gz h9 x y = gz h x y := fun x y q1 q2 => congrArg Int32.toInt (gi x y q1 q2)
  have gl : ∀ x y, zgl h9 x y = zgl h x y := fun x y => by rw [hh]; rfl
  have f1 : gz h9 d 11 = (i : Int) + 1 := by rw [hh]; exact gz_pi1 (by omega) (by omega)
  have f2 : gz h9 (d + 9) i = a := by show (zgi h9 (d + 9) i).toInt = _; rw [hh]; simp (disch := omega) only [zpi_o, zgi_plo, zpi_s, zj_toInt]
  refine k h9 (I.step (by rw [hh]; rfl) (by rw [hh]; rfl) (fun x y q => gi x y (by omega) (by omega)) (fun x y q => gl x y) ?_ ?_ rfl (zDo_hol o h6 ht ha))
  · refine ⟨fun z => ?_, ?_, fun j b hb => ?_, ?_, fun j x hx => ?_, ?_, fun j x hx => ?_, ?_, fun j x hx => ?_⟩
    · rw [gg d 0 (by omega) (by omega)]; exact dr.1 z
    · rw [gg d 1 (by omega) (by omega)]; exact dr.2.1
    · rw [gl, gg _ _ (by omega) (by omega), gl, gg _ _ (by omega) (by omega), gg _ _ (by omega) (by omega), gg _ _ (by omega) (by omega)]
      exact dr.2.2.1 j b hb
    · rw [gg d 8 (by omega) (by omega)]; exact dr.2.2.2.1
    · rw [gg _ _ (by omega) (by omega), gl]; exact dr.2.2.2.2.1 j x hx
    · rw [f1]; show (i : Int) + 1 = (((D.2.2.2.1 ++ [a]).length : Nat) : Int); rw [List.length_append]; simp; omega
    · rcases zap1 hx with ⟨hj, hx⟩ | ⟨hj, rfl⟩
      · rw [gg _ _ (by omega) (by omega)]; exact dr.2.2.2.2.2.2.1 j x hx
      · rw [hj, ei]; exact f2
    · rw [gg d 13 (by omega) (by omega)]; exact dr.2.2.2.2.2.2.2.1
    · rw [gl, gg _ _ (by omega) (by omega)]; exact dr.2.2.2.2.2.2.2.2 j x hx
  · refine ⟨by rw [gg d 1 (by omega) (by omega)]; exact v0.1, fun b hb => ?_, ?_, fun j hj => ?_, by rw [f1]; omega, fun j hj => ?_, ?_, fun j hj => ?_, ?_⟩
    · rw [gg _ _ (by omega) (by omega), gg _ _ (by omega) (by omega), gg _ _ (by omega) (by omega), gg _ _ (by omega) (by omega)]
      exact v0.2.1 b hb
    · rw [gg d 8 (by omega) (by omega)]; exact v0.2.2.1
    · rw [gg _ _ (by omega) (by omega)]; exact v0.2.2.2.1 j hj
    · by_cases e : j = i
      · rw [e, f2]; omega
      · rw [gg _ _ (by omega) (by omega)]; exact v0.2.2.2.2.2.1 j hj
    · rw [gg d 13 (by omega) (by omega)]; exact v0.2.2.2.2.2.2.1
    · rw [gg _ _ (by omega) (by omega)]; exact v0.2.2.2.2.2.2.2.1 j hj
    · rw [gg d 0 (by omega) (by omega)]; exact v0.2.2.2.2.2.2.2.2
theorem cc_addPerson {a : List Nat} {c v : Nat} (I : zRI h0 h d p T n s D) (h6 : D.2.2.2.2.1.length < 4) (ht : ¬ D.1 = -1) (ha : zlt a) (hc : c < 6) (hv : v < 12) (hn : ¬ zNmd D a) (k : ∀ h', zRI h0 h' d p T n s (zD_per D a c v) → R none h') : zCC X M_X1_addPerson [.ref d, .long (zk (zfo 256 0 a : Nat)), .int (zj (zsp c v))] h R := by
  have wd := zc_pd I.w
  have dr := I.dr
  have o := I.do
  have hd := I.hd
  have v0 := I.pv
  have hsp := zsp_b (j := c) (c := v) (by omega) (by omega) (by omega) (by omega)
  obtain ⟨i, ei⟩ : ∃ i, D.2.2.2.2.1.length = i := ⟨_, rfl⟩
  have g1 : gz h d 13 = i := by rw [dr.2.2.2.2.2.2.2.1, ei]
  refine zCC_of (ls := [.ref d, .long (zk (zfo 256 0 a : Nat)), .retAddr 0, .int (zj (zsp c v))]) pf_X1_addPerson rfl (Nat.le_of_ble_eq_true rfl) ?_
  refine vb_X1_addPerson_0 _ _ _ ?_
  simp only [B_X1_addPerson_0, oPI, oPL, oILOAD, oLLOAD, oALOAD, oISTORE, oASTORE, oLSTORE, oIINC, oIADD, oISUB, oIMUL, oIAND, oIOR, oIXOR, oIDIV, oIREM, oISHL, oISHR, oIUSHR, oLADD, oLSUB, oLMUL, oLOR, oLDIV, oLREM, oLCMP, oLSHL, oINEG, oI2L, oL2I, oI2B, oI2C, oDUP, oPOP, oDUP2, oIFEQ, oICEQ, oIFNE, oICNE, oIFLT, oICLT, oIFGE, oICGE, oIFGT, oICGT, oIFLE, oICLE, oIFNULL, oIFNONNULL, oTSW, oLSW, oGETI, oGETL, oGETR, oPUTI, oPUTZ, oPUTL, oPUTR, oIALD, oBALD, oZALD, oLALD, oAALD, oALEN, oIAST, oBAST, oZAST, oLAST, oIRET, oZRET, oLRET, oVRET, oARET, oOBJ, oINI, oPS, oNEW, oNEWAI, oNEWAB, oNEWAZ, oNEWAL, oCOPY, oINV0, oINS0, oINV1, oINS1, oINV2, oINS2, oINV3, oINS3, oINV4, oINS4, oINV5, oINS5, oINV6, oINS6, List.getElem?_cons_zero, List.getElem?_cons_succ, List.set_cons_zero, List.set_cons_succ, znl, zs4, zc1, true_and, and_self, Value.category, Option.toList, List.cons_append, List.nil_append, zvr, zp_s wd, zp_s1 wd, zp_r2 wd, zp_s2 wd, zp_r3 wd, zp_s3 wd, zp_r4 wd, zp_s4 wd, zp_r5 wd, zp_s5 wd, zp_r6 wd, zp_s6 wd, zp_r7 wd, zp_s7 wd, zp_r9 wd, zp_s8 wd, zp_r10 wd, zp_s9 wd, zp_r12 wd, zp_s10 wd, zp_r14 wd, zp_s11 wd, zp_r15 wd, zsh_pi, zsh_pl, zgr_pi, zgr_pl]
  simp (disch := omega) only [zpi_o, zgi_plo]
  rw [zgi_gz h d 13, g1, zj_cn (by omega), zj_add]
  simp (disch := omega) only [zj_le]
  refine ⟨fun c => by omega, fun _ => ⟨zj_in (by omega) (by omega) (by omega), zj_in (by omega) (by omega) (by omega), ?_⟩⟩
  refine vb_X1_addPerson_38 _ _ _ ?_
  simp only [B_X1_addPerson_38, oPI, oPL, oILOAD, oLLOAD, oALOAD, oISTORE, oASTORE, oLSTORE, oIINC, oIADD, oISUB, oIMUL, oIAND, oIOR, oIXOR, oIDIV, oIREM, oISHL, oISHR, oIUSHR, oLADD, oLSUB, oLMUL, oLOR, oLDIV, oLREM, oLCMP, oLSHL, oINEG, oI2L, oL2I, oI2B, oI2C, oDUP, oPOP, oDUP2, oIFEQ, oICEQ, oIFNE, oICNE, oIFLT, oICLT, oIFGE, oICGE, oIFGT, oICGT, oIFLE, oICLE, oIFNULL, oIFNONNULL, oTSW, oLSW, oGETI, oGETL, oGETR, oPUTI, oPUTZ, oPUTL, oPUTR, oIALD, oBALD, oZALD, oLALD, oAALD, oALEN, oIAST, oBAST, oZAST, oLAST, oIRET, oZRET, oLRET, oVRET, oARET, oOBJ, oINI, oPS, oNEW, oNEWAI, oNEWAB, oNEWAZ, oNEWAL, oCOPY, oINV0, oINS0, oINV1, oINS1, oINV2, oINS2, oINV3, oINS3, oINV4, oINS4, oINV5, oINS5, oINV6, oINS6, List.getElem?_cons_zero, List.getElem?_cons_succ, List.set_cons_zero, List.set_cons_succ, znl, zs4, zc1, true_and, and_self, Value.category, Option.toList, List.cons_append, List.nil_append, zvr]
  obtain ⟨h9, hh⟩ : ∃ h9, h9 = zpi (zpi (zpl h (d + 10) i (zk (zfo 256 0 a : Nat))) (d + 11) i (zj (zsp c v))) d 13 (zj ((i : Int) + 1)) := ⟨_, rfl⟩
  rw [← hh]
  have gi : ∀ x y, ¬ (x = d + 11 ∧ y = i) → ¬ (x = d ∧ y = 13) → zgi h9 x y = zgi h x y := fun x y q1 q2 => by rw [hh]; simp (disch := omega) only [zpi_o, zgi_plo]
  have gg : ∀ x y, ¬ (x = d + 11 ∧ y = i) → ¬ (x = d ∧ y = 13) → gz h9 x y = gz h x y := fun x y q1 q2 => congrArg Int32.toInt (gi x y q1 q2)
  have gl : ∀ x y, ¬ (x = d + 10 ∧ y = i) → zgl h9 x y = zgl h x y := fun x y q1 => by rw [hh]; simp (disch := omega) only [zplo, zgl_pio]
  have f1 : gz h9 d 13 = (i : Int) + 1 := by rw [hh]; exact gz_pi1 (by omega) (by omega)
  have f2 : gz h9 (d + 11) i = zsp c v := by show (zgi h9 (d + 11) i).toInt = _; rw [hh]; simp (disch := omega) only [zpi_o, zgi_plo, zpi_s, zj_toInt]
  have l1 : zgl h9 (d + 10) i = zk (zfo 256 0 a : Nat) := by rw [hh]; simp (disch := omega) only [zplo, zgl_pio, zpl_s]
  refine k h9 (I.step (by rw [hh]; rfl) (by rw [hh]; rfl) (fun x y q => gi x y (by omega) (by omega)) (fun x y q => gl x y (by omega)) ?_ ?_ rfl (zDo_per o h6 ht ha hc hv hn))
  · refine ⟨fun z => ?_, ?_, fun j b hb => ?_, ?_, fun j x hx => ?_, ?_, fun j x hx => ?_, ?_, fun j x hx => ?_⟩
    · rw [gg d 0 (by omega) (by omega)]; exact dr.1 z
    · rw [gg d 1 (by omega) (by omega)]; exact dr.2.1
    · rw [gl _ _ (by omega), gg _ _ (by omega) (by omega), gl _ _ (by omega), gg _ _ (by omega) (by omega), gg _ _ (by omega) (by omega), gg _ _ (by omega) (by omega)]
      exact dr.2.2.1 j b hb
    · rw [gg d 8 (by omega) (by omega)]; exact dr.2.2.2.1
    · rw [gg _ _ (by omega) (by omega), gl _ _ (by omega)]; exact dr.2.2.2.2.1 j x hx
    · rw [gg d 11 (by omega) (by omega)]; exact dr.2.2.2.2.2.1
    · rw [gg _ _ (by omega) (by omega)]; exact dr.2.2.2.2.2.2.1 j x hx
    · rw [f1]; show (i : Int) + 1 = (((D.2.2.2.2.1 ++ [(a, c, v)]).length : Nat) : Int); rw [List.length_append]; simp; omega
    · rcases zap1 hx with ⟨hj, hx⟩ | ⟨hj, rfl⟩
      · rw [gl _ _ (by omega), gg _ _ (by omega) (by omega)]; exact dr.2.2.2.2.2.2.2.2 j x hx
      · rw [hj, ei]; exact ⟨l1, f2⟩
  · refine ⟨by rw [gg d 1 (by omega) (by omega)]; exact v0.1, fun b hb => ?_, ?_, fun j hj => ?_, ?_, fun j hj => ?_, by rw [f1]; omega, fun j hj => ?_, ?_⟩
    · rw [gg _ _ (by omega) (by omega), gg _ _ (by omega) (by omega), gg _ _ (by omega) (by omega), gg _ _ (by omega) (by omega)]
      exact v0.2.1 b hb
    · rw [gg d 8 (by omega) (by omega)]; exact v0.2.2.1
    · rw [gg _ _ (by omega) (by omega)]; exact v0.2.2.2.1 j hj
    · rw [gg d 11 (by omega) (by omega)]; exact v0.2.2.2.2.1
    · rw [gg _ _ (by omega) (by omega)]; exact v0.2.2.2.2.2.1 j hj
    · by_cases e : j = i
      · rw [e, f2]; omega
      · rw [gg _ _ (by omega) (by omega)]; exact v0.2.2.2.2.2.2.2.1 j hj
    · rw [gg d 0 (by omega) (by omega)]; exact v0.2.2.2.2.2.2.2.2
end ZCB
