/-! a byte of a number -/
def zbc8 (n : Int32) (s : Nat) : Int32 := ((n.toUInt32 >>> ((zj (s : Int)).toUInt32 &&& Int32.toUInt32 31)).toInt32).toInt8.toInt32
def zbm8 (n : Int32) (s : Nat) : Int32 := (n >>> (zj (s : Int) &&& 31)).toInt8.toInt32
theorem z8_u (n : Int32) (s : Nat) (m : BitVec 32) (hm : ((zj (s : Int)).toUInt32 &&& Int32.toUInt32 31).toBitVec = m) (hs : m.toNat = s) (hlt : s < 32) : ((n.toUInt32 >>> ((zj (s : Int)).toUInt32 &&& Int32.toUInt32 31)).toInt32).toBitVec = n.toBitVec >>> s := by
  show (n.toUInt32 >>> ((zj (s : Int)).toUInt32 &&& Int32.toUInt32 31)).toBitVec = _
  rw [UInt32.toBitVec_shiftRight, hm]
  show n.toBitVec >>> (m % 32#32) = _
  have e : (m % 32#32).toNat = s := by
    rw [BitVec.toNat_umod, hs]
    show s % 32 = s
    omega
  show n.toBitVec >>> (m % 32#32).toNat = _
  rw [e]
theorem z8_s (n : Int32) (s : Nat) (m : BitVec 32) (hm : (zj (s : Int) &&& 31).toBitVec.smod 32 = m) (hs : m.toNat = s) : (n >>> (zj (s : Int) &&& 31)).toBitVec = n.toBitVec.sshiftRight s := by
  rw [Int32.toBitVec_shiftRight, hm]
  show n.toBitVec.sshiftRight m.toNat = _
  rw [hs]
theorem z8_e (x : BitVec 32) (s : Nat) (hs : s ≤ 24) : (x >>> s).signExtend 8 = (x.sshiftRight s).signExtend 8 := by
  apply BitVec.eq_of_getLsbD_eq
  intro i hi
  rw [BitVec.getLsbD_signExtend, BitVec.getLsbD_signExtend, BitVec.getLsbD_ushiftRight, BitVec.getLsbD_sshiftRight]
  have h1 : i < 32 := by omega
  have h2 : s + i < 32 := by omega
  have h3 : ¬ 32 ≤ i := by omega
  simp [h1, h2, h3]
theorem z8_q (n : Int32) {s : Nat} (hs : s = 24 ∨ s = 16 ∨ s = 8 ∨ s = 0) : zbc8 n s = zbm8 n s := by
  have e : ((n.toUInt32 >>> ((zj (s : Int)).toUInt32 &&& Int32.toUInt32 31)).toInt32).toInt8 = (n >>> (zj (s : Int) &&& 31)).toInt8 := by
    apply Int8.toBitVec_inj.mp
    rw [Int32.toBitVec_toInt8, Int32.toBitVec_toInt8]
    rcases hs with rfl | rfl | rfl | rfl
    · rw [z8_u n 24 24#32 (by decide) (by decide) (by decide), z8_s n 24 24#32 (by decide) (by decide)]; exact z8_e _ _ (by omega)
    · rw [z8_u n 16 16#32 (by decide) (by decide) (by decide), z8_s n 16 16#32 (by decide) (by decide)]; exact z8_e _ _ (by omega)
    · rw [z8_u n 8 8#32 (by decide) (by decide) (by decide), z8_s n 8 8#32 (by decide) (by decide)]; exact z8_e _ _ (by omega)
    · rw [z8_u n 0 0#32 (by decide) (by decide) (by decide), z8_s n 0 0#32 (by decide) (by decide)]; exact z8_e _ _ (by omega)
  unfold zbc8 zbm8
  rw [e]
theorem z8_b (x : Int8) : -128 ≤ x.toInt32.toInt ∧ x.toInt32.toInt ≤ 127 := by
  rw [Int8.toInt_toInt32]
  have h1 := x.le_toInt
  have h2 := x.toInt_lt
  omega
section ZSO
variable {X : Nat × (Nat → Int32)} {R : zRt} {h h' : zHp} {d p : Nat}
theorem zMu.mw (o : zMu h p) : zMW h := by
  rcases o with ⟨w, -⟩ | ⟨o, -⟩
  · exact w
  · exact o.mw
/-- what of the heap the invariant never looks at -/
theorem zI.mv (I : zI h d p) (e1 : h'.1 = h.1) (e2 : h'.2.2 = h.2.2) (e : ∀ x y, x ≠ 76 → x ≠ 77 → x ≠ 81 → x ≠ 84 → x ≠ 85 → ¬ (x = 78 ∧ (y = 0 ∨ 21 ≤ y)) → zgi h' x y = zgi h x y) : zI h' d p := by
  have g : ∀ x y, x ≠ 76 → x ≠ 77 → x ≠ 81 → x ≠ 84 → x ≠ 85 → ¬ (x = 78 ∧ (y = 0 ∨ 21 ≤ y)) → gz h' x y = gz h x y := fun x y h1 h2 h3 h4 h5 h6 => congrArg Int32.toInt (e x y h1 h2 h3 h4 h5 h6)
  have Lq : zLq h h' := ⟨e1, e2, fun x y hx => e x y (by omega) (by omega) (by omega) (by omega) (by omega) (by omega)⟩
  have hp := I.hp
  refine ⟨I.w.mv e1 e2, Lq.PV I.hp I.v, Lq.NV I.u, ?_, fun n hn s hs => ?_, zMu_mv I.o I.hp e1 e2 (fun x y hx => e x y (by omega) (by omega) (by omega) (by omega) (by omega) (by omega)), I.ac.mv (fun y h1 h2 => e 78 y (by omega) (by omega) (by omega) (by omega) (by omega) (by omega)) (fun x y hx => e x y (by omega) (by omega) (by omega) (by omega) (by omega) (by omega)), ?_, ?_, ?_, ?_, Lq.PV I.hd I.vd⟩
  · have := I.m
    unfold zMV at this ⊢
    rw [g 46 2 (by omega) (by omega) (by omega) (by omega) (by omega) (by omega), g 46 3 (by omega) (by omega) (by omega) (by omega) (by omega) (by omega), g 46 4 (by omega) (by omega) (by omega) (by omega) (by omega) (by omega)]
    exact this
  · rw [g (70 + n) s (by omega) (by omega) (by omega) (by omega) (by omega) (by omega)]
    exact I.r n hn s hs
  · have := I.tp
    unfold zTp at this ⊢
    rw [g 78 6 (by omega) (by omega) (by omega) (by omega) (by omega) (by omega), g 18 1 (by omega) (by omega) (by omega) (by omega) (by omega) (by omega)]
    refine ⟨this.1, this.2.1, fun i hi => ?_⟩
    rw [e 79 i (by omega) (by omega) (by omega) (by omega) (by omega) (by omega), e 19 i (by omega) (by omega) (by omega) (by omega) (by omega) (by omega), g 19 i (by omega) (by omega) (by omega) (by omega) (by omega) (by omega)]
    exact this.2.2 i hi
  · have := I.tb
    unfold zTb at this ⊢
    rw [e 16 5 (by omega) (by omega) (by omega) (by omega) (by omega) (by omega), e 78 1 (by omega) (by omega) (by omega) (by omega) (by omega) (by omega), e 78 2 (by omega) (by omega) (by omega) (by omega) (by omega) (by omega), e 78 12 (by omega) (by omega) (by omega) (by omega) (by omega) (by omega), e 17 3 (by omega) (by omega) (by omega) (by omega) (by omega) (by omega), e 17 4 (by omega) (by omega) (by omega) (by omega) (by omega) (by omega)]
    exact this
  · have := I.ze
    unfold zZe at this ⊢
    rw [Lq.gz (x := p) (by omega), Lq.gz (x := p) (by omega), Lq.gz (x := p) (by omega), Lq.gz (x := p) (by omega), Lq.gz (x := p) (by omega), Lq.gz (x := 45) (by omega), g 46 2 (by omega) (by omega) (by omega) (by omega) (by omega) (by omega), g 46 4 (by omega) (by omega) (by omega) (by omega) (by omega) (by omega)]
    exact this
  · have := I.ex
    unfold znx zsh at this ⊢
    rw [e1]
    exact this
theorem zI.t0 (I : zI h d p) : zI (zpi h 78 0 (zj 0)) d p := I.mv rfl rfl (fun x y _ _ _ _ _ hn => by rw [zgi_pi, if_neg (by omega)])
theorem zgi_t0 {y : Nat} (hy : y ≠ 0) : zgi (zpi h 78 0 (zj 0)) 78 y = zgi h 78 y := by rw [zgi_pi, if_neg (by omega)]
theorem st_fault (I : zI h d p) (k : ∀ x h1, zsh h1 78 = some (.inl 9) → (∀ R2 : zRt, (∀ h2, zI h2 d p → R2 (some (.int x)) h2) → zCC X M_X9_fault [.ref 78] h1 R2) → R (some (.int x)) h1) : zCC X M_X7_fault [.ref 16] h R := by
  refine cx_fault I.w (k _ _ (by first | exact I.s78 | exact I.s78q (zQh_gh h _ _ _ _) | exact I.s78q (zQh_sk h _ _ _ _)) (fun R2 k2 => ?_))
  have w := I.o.mw
  refine zCC_of (ls := [.ref 78]) pf_X9_fault rfl (Nat.le_of_ble_eq_true rfl) ?_
  refine vb_X9_fault_0 _ _ _ ?_
  simp only [B_X9_fault_0, oPI, oPL, oILOAD, oLLOAD, oALOAD, oISTORE, oASTORE, oLSTORE, oIINC, oIADD, oISUB, oIMUL, oIAND, oIOR, oIXOR, oIDIV, oIREM, oISHL, oISHR, oIUSHR, oLADD, oLSUB, oLMUL, oLOR, oLDIV, oLREM, oLCMP, oLSHL, oINEG, oI2L, oL2I, oI2B, oI2C, oDUP, oPOP, oDUP2, oIFEQ, oICEQ, oIFNE, oICNE, oIFLT, oICLT, oIFGE, oICGE, oIFGT, oICGT, oIFLE, oICLE, oIFNULL, oIFNONNULL, oTSW, oLSW, oGETI, oGETL, oGETR, oPUTI, oPUTZ, oPUTL, oPUTR, oIALD, oBALD, oZALD, oLALD, oAALD, oALEN, oIAST, oBAST, oZAST, oLAST, oIRET, oZRET, oLRET, oVRET, oARET, oOBJ, oINI, oPS, oNEW, oNEWAI, oNEWAB, oNEWAZ, oNEWAL, oCOPY, oINV0, oINS0, oINV1, oINS1, oINV2, oINS2, oINV3, oINS3, oINV4, oINS4, oINV5, oINS5, oINV6, oINS6, List.getElem?_cons_zero, List.getElem?_cons_succ, List.set_cons_zero, List.set_cons_succ, znl, zs4, zc1, true_and, and_self, Value.category, Option.toList, List.cons_append, List.nil_append, zvr, mw_s w, mw_s79 w, mw_s80 w, mw_s81 w, mw_s82 w, mw_s83 w, mw_s84 w, mw_s85 w, mw_r5 w, mw_r15 w, mw_r16 w, mw_r17 w, mw_r18 w, mw_r21 w, mw_r22 w, zsh_pi]
  rw [zgi_t0 (by omega), I.tb.2.1]
  exact k2 _ I.t0
theorem st_trouble (I : zI h d p) (k : ∀ x h1, zsh h1 78 = some (.inl 9) → (∀ R2 : zRt, (∀ h2, zI h2 d p → R2 (some (.int x)) h2) → zCC X M_X9_trouble [.ref 78] h1 R2) → R (some (.int x)) h1) : zCC X M_X7_trouble [.ref 16] h R := by
  refine cx_trouble I.w (k _ _ (by first | exact I.s78 | exact I.s78q (zQh_gh h _ _ _ _) | exact I.s78q (zQh_sk h _ _ _ _)) (fun R2 k2 => ?_))
  have w := I.o.mw
  refine zCC_of (ls := [.ref 78]) pf_X9_trouble rfl (Nat.le_of_ble_eq_true rfl) ?_
  refine vb_X9_trouble_0 _ _ _ ?_
  simp only [B_X9_trouble_0, oPI, oPL, oILOAD, oLLOAD, oALOAD, oISTORE, oASTORE, oLSTORE, oIINC, oIADD, oISUB, oIMUL, oIAND, oIOR, oIXOR, oIDIV, oIREM, oISHL, oISHR, oIUSHR, oLADD, oLSUB, oLMUL, oLOR, oLDIV, oLREM, oLCMP, oLSHL, oINEG, oI2L, oL2I, oI2B, oI2C, oDUP, oPOP, oDUP2, oIFEQ, oICEQ, oIFNE, oICNE, oIFLT, oICLT, oIFGE, oICGE, oIFGT, oICGT, oIFLE, oICLE, oIFNULL, oIFNONNULL, oTSW, oLSW, oGETI, oGETL, oGETR, oPUTI, oPUTZ, oPUTL, oPUTR, oIALD, oBALD, oZALD, oLALD, oAALD, oALEN, oIAST, oBAST, oZAST, oLAST, oIRET, oZRET, oLRET, oVRET, oARET, oOBJ, oINI, oPS, oNEW, oNEWAI, oNEWAB, oNEWAZ, oNEWAL, oCOPY, oINV0, oINS0, oINV1, oINS1, oINV2, oINS2, oINV3, oINS3, oINV4, oINS4, oINV5, oINS5, oINV6, oINS6, List.getElem?_cons_zero, List.getElem?_cons_succ, List.set_cons_zero, List.set_cons_succ, znl, zs4, zc1, true_and, and_self, Value.category, Option.toList, List.cons_append, List.nil_append, zvr, mw_s w, mw_s79 w, mw_s80 w, mw_s81 w, mw_s82 w, mw_s83 w, mw_s84 w, mw_s85 w, mw_r5 w, mw_r15 w, mw_r16 w, mw_r17 w, mw_r18 w, mw_r21 w, mw_r22 w, zsh_pi]
  rw [zgi_t0 (by omega), I.tb.1]
  exact k2 _ I.t0
theorem st_where (I : zI h d p) (k : ∀ x h1, zsh h1 78 = some (.inl 9) → (∀ R2 : zRt, (∀ h2, zI h2 d p → R2 (some (.int x)) h2) → zCC X M_X9_where [.ref 78] h1 R2) → R (some (.int x)) h1) : zCC X M_X7_where [.ref 16] h R := by
  refine cx_where I.w (k _ _ (by first | exact I.s78 | exact I.s78q (zQh_gh h _ _ _ _) | exact I.s78q (zQh_sk h _ _ _ _)) (fun R2 k2 => ?_))
  have w := I.o.mw
  refine zCC_of (ls := [.ref 78]) pf_X9_where rfl (Nat.le_of_ble_eq_true rfl) ?_
  refine vb_X9_where_0 _ _ _ ?_
  simp only [B_X9_where_0, oPI, oPL, oILOAD, oLLOAD, oALOAD, oISTORE, oASTORE, oLSTORE, oIINC, oIADD, oISUB, oIMUL, oIAND, oIOR, oIXOR, oIDIV, oIREM, oISHL, oISHR, oIUSHR, oLADD, oLSUB, oLMUL, oLOR, oLDIV, oLREM, oLCMP, oLSHL, oINEG, oI2L, oL2I, oI2B, oI2C, oDUP, oPOP, oDUP2, oIFEQ, oICEQ, oIFNE, oICNE, oIFLT, oICLT, oIFGE, oICGE, oIFGT, oICGT, oIFLE, oICLE, oIFNULL, oIFNONNULL, oTSW, oLSW, oGETI, oGETL, oGETR, oPUTI, oPUTZ, oPUTL, oPUTR, oIALD, oBALD, oZALD, oLALD, oAALD, oALEN, oIAST, oBAST, oZAST, oLAST, oIRET, oZRET, oLRET, oVRET, oARET, oOBJ, oINI, oPS, oNEW, oNEWAI, oNEWAB, oNEWAZ, oNEWAL, oCOPY, oINV0, oINS0, oINV1, oINS1, oINV2, oINS2, oINV3, oINS3, oINV4, oINS4, oINV5, oINS5, oINV6, oINS6, List.getElem?_cons_zero, List.getElem?_cons_succ, List.set_cons_zero, List.set_cons_succ, znl, zs4, zc1, true_and, and_self, Value.category, Option.toList, List.cons_append, List.nil_append, zvr, mw_s w, mw_s79 w, mw_s80 w, mw_s81 w, mw_s82 w, mw_s83 w, mw_s84 w, mw_s85 w, mw_r5 w, mw_r15 w, mw_r16 w, mw_r17 w, mw_r18 w, mw_r21 w, mw_r22 w, zsh_pi]
  rw [zgi_t0 (by omega)]
  by_cases c : zgi h 16 5 = zj 4
  · rw [if_pos c] at k2
    rw [I.tb.2.2.1 c]
    exact k2 _ I.t0
  · rw [if_neg c] at k2
    rw [I.tb.2.2.2 c]
    exact k2 _ I.t0
theorem st_size {a : Int} (ha1 : -2147483648 ≤ a) (ha2 : a < 2147483648) (I : zI h d p) (k : ∀ x h1, zsh h1 78 = some (.inl 9) → (∀ R2 : zRt, (∀ h2, zI h2 d p → R2 (some (.int x)) h2) → zCC X M_X9_size [.ref 78, .int (zj a)] h1 R2) → R (some (.int x)) h1) : zCC X M_X7_size [.ref 16, .int (zj a)] h R := by
  refine cx_size I.w I.v ha1 ha2 (k _ _ (by first | exact I.s78 | exact I.s78q (zQh_gh h _ _ _ _) | exact I.s78q (zQh_sk h _ _ _ _)) (fun R2 k2 => ?_))
  have w := I.o.mw
  unfold zsz at k2
  have w1 : zMW (zpi h 78 0 (zj 0)) := w
  have k2 := k2 _ I.t0
  obtain ⟨h1, hh1⟩ : ∃ h1, h1 = zpi h 78 0 (zj 0) := ⟨_, rfl⟩
  have g : ∀ x y, ¬ (x = 78 ∧ y = 0) → zgi h1 x y = zgi h x y := fun x y hn => by rw [hh1, zgi_pi, if_neg hn]
  rw [← hh1] at k2
  refine zCC_of (ls := [.ref 78, .int (zj a)]) pf_X9_size rfl (Nat.le_of_ble_eq_true rfl) ?_
  refine vb_X9_size_0 _ _ _ ?_
  simp only [B_X9_size_0, oPI, oPL, oILOAD, oLLOAD, oALOAD, oISTORE, oASTORE, oLSTORE, oIINC, oIADD, oISUB, oIMUL, oIAND, oIOR, oIXOR, oIDIV, oIREM, oISHL, oISHR, oIUSHR, oLADD, oLSUB, oLMUL, oLOR, oLDIV, oLREM, oLCMP, oLSHL, oINEG, oI2L, oL2I, oI2B, oI2C, oDUP, oPOP, oDUP2, oIFEQ, oICEQ, oIFNE, oICNE, oIFLT, oICLT, oIFGE, oICGE, oIFGT, oICGT, oIFLE, oICLE, oIFNULL, oIFNONNULL, oTSW, oLSW, oGETI, oGETL, oGETR, oPUTI, oPUTZ, oPUTL, oPUTR, oIALD, oBALD, oZALD, oLALD, oAALD, oALEN, oIAST, oBAST, oZAST, oLAST, oIRET, oZRET, oLRET, oVRET, oARET, oOBJ, oINI, oPS, oNEW, oNEWAI, oNEWAB, oNEWAZ, oNEWAL, oCOPY, oINV0, oINS0, oINV1, oINS1, oINV2, oINS2, oINV3, oINS3, oINV4, oINS4, oINV5, oINS5, oINV6, oINS6, List.getElem?_cons_zero, List.getElem?_cons_succ, List.set_cons_zero, List.set_cons_succ, znl, zs4, zc1, true_and, and_self, Value.category, Option.toList, List.cons_append, List.nil_append, zvr, mw_s w, mw_s79 w, mw_s80 w, mw_s81 w, mw_s82 w, mw_s83 w, mw_s84 w, mw_s85 w, mw_r5 w, mw_r15 w, mw_r16 w, mw_r17 w, mw_r18 w, mw_r21 w, mw_r22 w, zsh_pi]
  rw [← hh1]
  rw [← hh1] at w1
  try simp (disch := omega) only [zgi_gz, zj_cn, zj_lt, zj_le, zj_eq, zj_add, zj_sub, zj_mul, zj_neg, zj_lt0, zj_le0, zj_0le, zj_0lt, zj_eq0, zb_0, zb_z, Classical.not_not, Int.zero_add, Int.add_zero, zj_remn, zj_divn]
  refine ⟨fun c => ?_, fun c => ?_⟩
  rotate_left
  · subst c
    rw [show zj (gz h1 78 6) = zgi h1 78 6 from (zgi_gz _ _ _).symm, g 78 6 (by omega), zgi_gz, I.tp.1, ← zgi_gz]
    simp only [reduceIte, show ¬ (10 : Int) = 0 by omega, show ¬ (10 : Int) = 1 by omega, show ¬ (10 : Int) = 2 by omega, show ¬ (10 : Int) = 3 by omega, show ¬ (10 : Int) = 4 by omega, show ¬ (10 : Int) = 5 by omega, show ¬ (10 : Int) = 6 by omega, show ¬ (10 : Int) = 7 by omega, show ¬ (10 : Int) = 8 by omega, show ¬ (10 : Int) = 9 by omega] at k2
    exact k2
  refine vb_X9_size_16 _ _ _ ?_
  simp only [B_X9_size_16, oPI, oPL, oILOAD, oLLOAD, oALOAD, oISTORE, oASTORE, oLSTORE, oIINC, oIADD, oISUB, oIMUL, oIAND, oIOR, oIXOR, oIDIV, oIREM, oISHL, oISHR, oIUSHR, oLADD, oLSUB, oLMUL, oLOR, oLDIV, oLREM, oLCMP, oLSHL, oINEG, oI2L, oL2I, oI2B, oI2C, oDUP, oPOP, oDUP2, oIFEQ, oICEQ, oIFNE, oICNE, oIFLT, oICLT, oIFGE, oICGE, oIFGT, oICGT, oIFLE, oICLE, oIFNULL, oIFNONNULL, oTSW, oLSW, oGETI, oGETL, oGETR, oPUTI, oPUTZ, oPUTL, oPUTR, oIALD, oBALD, oZALD, oLALD, oAALD, oALEN, oIAST, oBAST, oZAST, oLAST, oIRET, oZRET, oLRET, oVRET, oARET, oOBJ, oINI, oPS, oNEW, oNEWAI, oNEWAB, oNEWAZ, oNEWAL, oCOPY, oINV0, oINS0, oINV1, oINS1, oINV2, oINS2, oINV3, oINS3, oINV4, oINS4, oINV5, oINS5, oINV6, oINS6, List.getElem?_cons_zero, List.getElem?_cons_succ, List.set_cons_zero, List.set_cons_succ, znl, zs4, zc1, true_and, and_self, Value.category, Option.toList, List.cons_append, List.nil_append, zvr]
  refine cm_in ha1 ha2 (by omega) (by omega) (by omega) (by omega) ?_
  simp only [oPI, oPL, oILOAD, oLLOAD, oALOAD, oISTORE, oASTORE, oLSTORE, oIINC, oIADD, oISUB, oIMUL, oIAND, oIOR, oIXOR, oIDIV, oIREM, oISHL, oISHR, oIUSHR, oLADD, oLSUB, oLMUL, oLOR, oLDIV, oLREM, oLCMP, oLSHL, oINEG, oI2L, oL2I, oI2B, oI2C, oDUP, oPOP, oDUP2, oIFEQ, oICEQ, oIFNE, oICNE, oIFLT, oICLT, oIFGE, oICGE, oIFGT, oICGT, oIFLE, oICLE, oIFNULL, oIFNONNULL, oTSW, oLSW, oGETI, oGETL, oGETR, oPUTI, oPUTZ, oPUTL, oPUTR, oIALD, oBALD, oZALD, oLALD, oAALD, oALEN, oIAST, oBAST, oZAST, oLAST, oIRET, oZRET, oLRET, oVRET, oARET, oOBJ, oINI, oPS, oNEW, oNEWAI, oNEWAB, oNEWAZ, oNEWAL, oCOPY, oINV0, oINS0, oINV1, oINS1, oINV2, oINS2, oINV3, oINS3, oINV4, oINS4, oINV5, oINS5, oINV6, oINS6, List.getElem?_cons_zero, List.getElem?_cons_succ, List.set_cons_zero, List.set_cons_succ, znl, zs4, zc1, true_and, and_self, Value.category, Option.toList, List.cons_append, List.nil_append, zvr]
  try simp (disch := omega) only [zgi_gz, zj_cn, zj_lt, zj_le, zj_eq, zj_add, zj_sub, zj_mul, zj_neg, zj_lt0, zj_le0, zj_0le, zj_0lt, zj_eq0, zb_0, zb_z, Classical.not_not, Int.zero_add, Int.add_zero, zj_remn, zj_divn]
  refine ⟨fun c2 => ?_, fun c2 => ?_⟩
  rotate_left
  · rw [if_neg (by omega), if_neg (by omega), if_neg (by omega), if_neg (by omega), if_neg (by omega), if_neg (by omega), if_neg (by omega), if_neg (by omega), if_neg (by omega), if_neg (by omega), if_neg (by omega)] at k2
    exact k2
  obtain ⟨i, rfl⟩ : ∃ i : Nat, a = (i : Int) := ⟨a.toNat, by omega⟩
  have zz : ∀ x y, gz h x y = 0 → zgi h x y = zj 0 := fun x y hz => by rw [zgi_gz, hz]
  rcases I.o with ⟨-, hz, h0, hp, h13⟩ | ⟨o, h0⟩
  · have z1 : zgr h1 78 3 = none := by rw [hh1]; exact hz
    have ze := I.ze h0
    have n0 : zn h p = 0 := by unfold zn; rw [h0]; rfl
    refine vb_X9_size_28 _ _ _ ?_
    simp only [B_X9_size_28, oPI, oPL, oILOAD, oLLOAD, oALOAD, oISTORE, oASTORE, oLSTORE, oIINC, oIADD, oISUB, oIMUL, oIAND, oIOR, oIXOR, oIDIV, oIREM, oISHL, oISHR, oIUSHR, oLADD, oLSUB, oLMUL, oLOR, oLDIV, oLREM, oLCMP, oLSHL, oINEG, oI2L, oL2I, oI2B, oI2C, oDUP, oPOP, oDUP2, oIFEQ, oICEQ, oIFNE, oICNE, oIFLT, oICLT, oIFGE, oICGE, oIFGT, oICGT, oIFLE, oICLE, oIFNULL, oIFNONNULL, oTSW, oLSW, oGETI, oGETL, oGETR, oPUTI, oPUTZ, oPUTL, oPUTR, oIALD, oBALD, oZALD, oLALD, oAALD, oALEN, oIAST, oBAST, oZAST, oLAST, oIRET, oZRET, oLRET, oVRET, oARET, oOBJ, oINI, oPS, oNEW, oNEWAI, oNEWAB, oNEWAZ, oNEWAL, oCOPY, oINV0, oINS0, oINV1, oINS1, oINV2, oINS2, oINV3, oINS3, oINV4, oINS4, oINV5, oINS5, oINV6, oINS6, List.getElem?_cons_zero, List.getElem?_cons_succ, List.set_cons_zero, List.set_cons_succ, znl, zs4, zc1, true_and, and_self, Value.category, Option.toList, List.cons_append, List.nil_append, zvr, mw_s w1, mw_s79 w1, mw_s80 w1, mw_s81 w1, mw_s82 w1, mw_s83 w1, mw_s84 w1, mw_s85 w1, mw_r5 w1, mw_r15 w1, mw_r16 w1, mw_r17 w1, mw_r18 w1, mw_r21 w1, mw_r22 w1, z1]
    rcases (show i = 0 ∨ i = 1 ∨ i = 2 ∨ i = 3 ∨ i = 4 ∨ i = 5 ∨ i = 6 ∨ i = 7 ∨ i = 8 ∨ i = 9 by omega) with rfl | rfl | rfl | rfl | rfl | rfl | rfl | rfl | rfl | rfl
    · rw [if_pos (by omega), zz _ _ ze.1] at k2; exact k2
    · rw [if_neg (by omega), if_pos (by omega), zz _ _ h0] at k2; exact k2
    · rw [if_neg (by omega), if_neg (by omega), if_pos (by omega), n0] at k2; exact k2
    · rw [if_neg (by omega), if_neg (by omega), if_neg (by omega), if_pos (by omega), n0] at k2; exact k2
    · rw [if_neg (by omega), if_neg (by omega), if_neg (by omega), if_neg (by omega), if_pos (by omega), zz _ _ ze.2.1] at k2; exact k2
    · rw [if_neg (by omega), if_neg (by omega), if_neg (by omega), if_neg (by omega), if_neg (by omega), if_pos (by omega), zz _ _ ze.2.2.1] at k2; exact k2
    · rw [if_neg (by omega), if_neg (by omega), if_neg (by omega), if_neg (by omega), if_neg (by omega), if_neg (by omega), if_pos (by omega), zz _ _ ze.2.2.2.1] at k2; exact k2
    · rw [if_neg (by omega), if_neg (by omega), if_neg (by omega), if_neg (by omega), if_neg (by omega), if_neg (by omega), if_neg (by omega), if_pos (by omega), zz _ _ ze.2.2.2.2.1] at k2; exact k2
    · rw [if_neg (by omega), if_neg (by omega), if_neg (by omega), if_neg (by omega), if_neg (by omega), if_neg (by omega), if_neg (by omega), if_neg (by omega), if_pos (by omega), zz _ _ ze.2.2.2.2.2.1] at k2; exact k2
    · rw [if_neg (by omega), if_neg (by omega), if_neg (by omega), if_neg (by omega), if_neg (by omega), if_neg (by omega), if_neg (by omega), if_neg (by omega), if_neg (by omega), if_pos (by omega), zz _ _ ze.2.2.2.2.2.2] at k2; exact k2
  · have t1 : zTa h1 := by rw [hh1]; exact o.ta
    have r := o.tr
    have ac := I.ac
    refine vb_X9_size_28 _ _ _ ?_
    simp only [B_X9_size_28, oPI, oPL, oILOAD, oLLOAD, oALOAD, oISTORE, oASTORE, oLSTORE, oIINC, oIADD, oISUB, oIMUL, oIAND, oIOR, oIXOR, oIDIV, oIREM, oISHL, oISHR, oIUSHR, oLADD, oLSUB, oLMUL, oLOR, oLDIV, oLREM, oLCMP, oLSHL, oINEG, oI2L, oL2I, oI2B, oI2C, oDUP, oPOP, oDUP2, oIFEQ, oICEQ, oIFNE, oICNE, oIFLT, oICLT, oIFGE, oICGE, oIFGT, oICGT, oIFLE, oICLE, oIFNULL, oIFNONNULL, oTSW, oLSW, oGETI, oGETL, oGETR, oPUTI, oPUTZ, oPUTL, oPUTR, oIALD, oBALD, oZALD, oLALD, oAALD, oALEN, oIAST, oBAST, oZAST, oLAST, oIRET, oZRET, oLRET, oVRET, oARET, oOBJ, oINI, oPS, oNEW, oNEWAI, oNEWAB, oNEWAZ, oNEWAL, oCOPY, oINV0, oINS0, oINV1, oINS1, oINV2, oINS2, oINV3, oINS3, oINV4, oINS4, oINV5, oINS5, oINV6, oINS6, List.getElem?_cons_zero, List.getElem?_cons_succ, List.set_cons_zero, List.set_cons_succ, znl, zs4, zc1, true_and, and_self, Value.category, Option.toList, List.cons_append, List.nil_append, zvr, mw_s w1, mw_s79 w1, mw_s80 w1, mw_s81 w1, mw_s82 w1, mw_s83 w1, mw_s84 w1, mw_s85 w1, mw_r5 w1, mw_r15 w1, mw_r16 w1, mw_r17 w1, mw_r18 w1, mw_r21 w1, mw_r22 w1, ta_r3 t1, ta_s t1, ta_s1 t1, ta_r8 t1, ta_s2 t1, ta_r9 t1, ta_s3 t1, ta_r10 t1, ta_s4 t1, ta_r11 t1, ta_s5 t1, ta_r12 t1, ta_s6 t1, ta_r13 t1, ta_s7 t1, ta_r14 t1, ta_s8 t1, ta_r15 t1, ta_s9 t1, ta_r16 t1, ta_s10 t1, ta_r17 t1, ta_s11 t1, ta_r18 t1, ta_s12 t1, ta_r19 t1, ta_s13 t1, ta_r20 t1]
    refine vb_X9_size_37 _ _ _ ?_
    simp only [B_X9_size_37, oPI, oPL, oILOAD, oLLOAD, oALOAD, oISTORE, oASTORE, oLSTORE, oIINC, oIADD, oISUB, oIMUL, oIAND, oIOR, oIXOR, oIDIV, oIREM, oISHL, oISHR, oIUSHR, oLADD, oLSUB, oLMUL, oLOR, oLDIV, oLREM, oLCMP, oLSHL, oINEG, oI2L, oL2I, oI2B, oI2C, oDUP, oPOP, oDUP2, oIFEQ, oICEQ, oIFNE, oICNE, oIFLT, oICLT, oIFGE, oICGE, oIFGT, oICGT, oIFLE, oICLE, oIFNULL, oIFNONNULL, oTSW, oLSW, oGETI, oGETL, oGETR, oPUTI, oPUTZ, oPUTL, oPUTR, oIALD, oBALD, oZALD, oLALD, oAALD, oALEN, oIAST, oBAST, oZAST, oLAST, oIRET, oZRET, oLRET, oVRET, oARET, oOBJ, oINI, oPS, oNEW, oNEWAI, oNEWAB, oNEWAZ, oNEWAL, oCOPY, oINV0, oINS0, oINV1, oINS1, oINV2, oINS2, oINV3, oINS3, oINV4, oINS4, oINV5, oINS5, oINV6, oINS6, List.getElem?_cons_zero, List.getElem?_cons_succ, List.set_cons_zero, List.set_cons_succ, znl, zs4, zc1, true_and, and_self, Value.category, Option.toList, List.cons_append, List.nil_append, zvr]
    rw [zj_toInt (by omega) (by omega)]
    have ei : ∀ x y x' y', ¬ (x = 78 ∧ y = 0) → gz h x y = gz h x' y' → zgi h1 x y = zgi h x' y' := fun x y x' y' hn e => by rw [g x y hn, zgi_gz, e, ← zgi_gz]
    refine ⟨fun c3 => ?_, fun j hj c3 => ?_⟩
    · have e9 : i = 9 := by omega
      subst e9
      rw [if_neg (by omega), if_neg (by omega), if_neg (by omega), if_neg (by omega), if_neg (by omega), if_neg (by omega), if_neg (by omega), if_neg (by omega), if_neg (by omega), if_pos (by omega)] at k2
      refine vb_X9_size_157 _ _ _ ?_
      simp only [B_X9_size_157, oPI, oPL, oILOAD, oLLOAD, oALOAD, oISTORE, oASTORE, oLSTORE, oIINC, oIADD, oISUB, oIMUL, oIAND, oIOR, oIXOR, oIDIV, oIREM, oISHL, oISHR, oIUSHR, oLADD, oLSUB, oLMUL, oLOR, oLDIV, oLREM, oLCMP, oLSHL, oINEG, oI2L, oL2I, oI2B, oI2C, oDUP, oPOP, oDUP2, oIFEQ, oICEQ, oIFNE, oICNE, oIFLT, oICLT, oIFGE, oICGE, oIFGT, oICGT, oIFLE, oICLE, oIFNULL, oIFNONNULL, oTSW, oLSW, oGETI, oGETL, oGETR, oPUTI, oPUTZ, oPUTL, oPUTR, oIALD, oBALD, oZALD, oLALD, oAALD, oALEN, oIAST, oBAST, oZAST, oLAST, oIRET, oZRET, oLRET, oVRET, oARET, oOBJ, oINI, oPS, oNEW, oNEWAI, oNEWAB, oNEWAZ, oNEWAL, oCOPY, oINV0, oINS0, oINV1, oINS1, oINV2, oINS2, oINV3, oINS3, oINV4, oINS4, oINV5, oINS5, oINV6, oINS6, List.getElem?_cons_zero, List.getElem?_cons_succ, List.set_cons_zero, List.set_cons_succ, znl, zs4, zc1, true_and, and_self, Value.category, Option.toList, List.cons_append, List.nil_append, zvr, mw_s w1, mw_s79 w1, mw_s80 w1, mw_s81 w1, mw_s82 w1, mw_s83 w1, mw_s84 w1, mw_s85 w1, mw_r5 w1, mw_r15 w1, mw_r16 w1, mw_r17 w1, mw_r18 w1, mw_r21 w1, mw_r22 w1]
      rw [ei 78 20 46 4 (by omega) ac.2.1]
      exact k2
    have e9 : i = j := by omega
    subst e9
    rcases (show i = 0 ∨ i = 1 ∨ i = 2 ∨ i = 3 ∨ i = 4 ∨ i = 5 ∨ i = 6 ∨ i = 7 ∨ i = 8 by omega) with rfl | rfl | rfl | rfl | rfl | rfl | rfl | rfl | rfl
    · refine vb_X9_size_88 _ _ _ ?_
      simp only [B_X9_size_88, oPI, oPL, oILOAD, oLLOAD, oALOAD, oISTORE, oASTORE, oLSTORE, oIINC, oIADD, oISUB, oIMUL, oIAND, oIOR, oIXOR, oIDIV, oIREM, oISHL, oISHR, oIUSHR, oLADD, oLSUB, oLMUL, oLOR, oLDIV, oLREM, oLCMP, oLSHL, oINEG, oI2L, oL2I, oI2B, oI2C, oDUP, oPOP, oDUP2, oIFEQ, oICEQ, oIFNE, oICNE, oIFLT, oICLT, oIFGE, oICGE, oIFGT, oICGT, oIFLE, oICLE, oIFNULL, oIFNONNULL, oTSW, oLSW, oGETI, oGETL, oGETR, oPUTI, oPUTZ, oPUTL, oPUTR, oIALD, oBALD, oZALD, oLALD, oAALD, oALEN, oIAST, oBAST, oZAST, oLAST, oIRET, oZRET, oLRET, oVRET, oARET, oOBJ, oINI, oPS, oNEW, oNEWAI, oNEWAB, oNEWAZ, oNEWAL, oCOPY, oINV0, oINS0, oINV1, oINS1, oINV2, oINS2, oINV3, oINS3, oINV4, oINS4, oINV5, oINS5, oINV6, oINS6, List.getElem?_cons_zero, List.getElem?_cons_succ, List.set_cons_zero, List.set_cons_succ, znl, zs4, zc1, true_and, and_self, Value.category, Option.toList, List.cons_append, List.nil_append, zvr, mw_s w1, mw_s79 w1, mw_s80 w1, mw_s81 w1, mw_s82 w1, mw_s83 w1, mw_s84 w1, mw_s85 w1, mw_r5 w1, mw_r15 w1, mw_r16 w1, mw_r17 w1, mw_r18 w1, mw_r21 w1, mw_r22 w1, ta_r3 t1, ta_s t1, ta_s1 t1, ta_r8 t1, ta_s2 t1, ta_r9 t1, ta_s3 t1, ta_r10 t1, ta_s4 t1, ta_r11 t1, ta_s5 t1, ta_r12 t1, ta_s6 t1, ta_r13 t1, ta_s7 t1, ta_r14 t1, ta_s8 t1, ta_r15 t1, ta_s9 t1, ta_r16 t1, ta_s10 t1, ta_r17 t1, ta_s11 t1, ta_r18 t1, ta_s12 t1, ta_r19 t1, ta_s13 t1, ta_r20 t1]
      rw [if_pos (by omega)] at k2
      rw [ei 87 0 p 0 (by omega) r.2.1]
      exact k2
    · refine vb_X9_size_96 _ _ _ ?_
      simp only [B_X9_size_96, oPI, oPL, oILOAD, oLLOAD, oALOAD, oISTORE, oASTORE, oLSTORE, oIINC, oIADD, oISUB, oIMUL, oIAND, oIOR, oIXOR, oIDIV, oIREM, oISHL, oISHR, oIUSHR, oLADD, oLSUB, oLMUL, oLOR, oLDIV, oLREM, oLCMP, oLSHL, oINEG, oI2L, oL2I, oI2B, oI2C, oDUP, oPOP, oDUP2, oIFEQ, oICEQ, oIFNE, oICNE, oIFLT, oICLT, oIFGE, oICGE, oIFGT, oICGT, oIFLE, oICLE, oIFNULL, oIFNONNULL, oTSW, oLSW, oGETI, oGETL, oGETR, oPUTI, oPUTZ, oPUTL, oPUTR, oIALD, oBALD, oZALD, oLALD, oAALD, oALEN, oIAST, oBAST, oZAST, oLAST, oIRET, oZRET, oLRET, oVRET, oARET, oOBJ, oINI, oPS, oNEW, oNEWAI, oNEWAB, oNEWAZ, oNEWAL, oCOPY, oINV0, oINS0, oINV1, oINS1, oINV2, oINS2, oINV3, oINS3, oINV4, oINS4, oINV5, oINS5, oINV6, oINS6, List.getElem?_cons_zero, List.getElem?_cons_succ, List.set_cons_zero, List.set_cons_succ, znl, zs4, zc1, true_and, and_self, Value.category, Option.toList, List.cons_append, List.nil_append, zvr, mw_s w1, mw_s79 w1, mw_s80 w1, mw_s81 w1, mw_s82 w1, mw_s83 w1, mw_s84 w1, mw_s85 w1, mw_r5 w1, mw_r15 w1, mw_r16 w1, mw_r17 w1, mw_r18 w1, mw_r21 w1, mw_r22 w1, ta_r3 t1, ta_s t1, ta_s1 t1, ta_r8 t1, ta_s2 t1, ta_r9 t1, ta_s3 t1, ta_r10 t1, ta_s4 t1, ta_r11 t1, ta_s5 t1, ta_r12 t1, ta_s6 t1, ta_r13 t1, ta_s7 t1, ta_r14 t1, ta_s8 t1, ta_r15 t1, ta_s9 t1, ta_r16 t1, ta_s10 t1, ta_r17 t1, ta_s11 t1, ta_r18 t1, ta_s12 t1, ta_r19 t1, ta_s13 t1, ta_r20 t1]
      rw [if_neg (by omega), if_pos (by omega)] at k2
      rw [ei 87 1 p 1 (by omega) r.1]
      exact k2
    · refine vb_X9_size_104 _ _ _ ?_
      simp only [B_X9_size_104, oPI, oPL, oILOAD, oLLOAD, oALOAD, oISTORE, oASTORE, oLSTORE, oIINC, oIADD, oISUB, oIMUL, oIAND, oIOR, oIXOR, oIDIV, oIREM, oISHL, oISHR, oIUSHR, oLADD, oLSUB, oLMUL, oLOR, oLDIV, oLREM, oLCMP, oLSHL, oINEG, oI2L, oL2I, oI2B, oI2C, oDUP, oPOP, oDUP2, oIFEQ, oICEQ, oIFNE, oICNE, oIFLT, oICLT, oIFGE, oICGE, oIFGT, oICGT, oIFLE, oICLE, oIFNULL, oIFNONNULL, oTSW, oLSW, oGETI, oGETL, oGETR, oPUTI, oPUTZ, oPUTL, oPUTR, oIALD, oBALD, oZALD, oLALD, oAALD, oALEN, oIAST, oBAST, oZAST, oLAST, oIRET, oZRET, oLRET, oVRET, oARET, oOBJ, oINI, oPS, oNEW, oNEWAI, oNEWAB, oNEWAZ, oNEWAL, oCOPY, oINV0, oINS0, oINV1, oINS1, oINV2, oINS2, oINV3, oINS3, oINV4, oINS4, oINV5, oINS5, oINV6, oINS6, List.getElem?_cons_zero, List.getElem?_cons_succ, List.set_cons_zero, List.set_cons_succ, znl, zs4, zc1, true_and, and_self, Value.category, Option.toList, List.cons_append, List.nil_append, zvr, mw_s w1, mw_s79 w1, mw_s80 w1, mw_s81 w1, mw_s82 w1, mw_s83 w1, mw_s84 w1, mw_s85 w1, mw_r5 w1, mw_r15 w1, mw_r16 w1, mw_r17 w1, mw_r18 w1, mw_r21 w1, mw_r22 w1, ta_r3 t1, ta_s t1, ta_s1 t1, ta_r8 t1, ta_s2 t1, ta_r9 t1, ta_s3 t1, ta_r10 t1, ta_s4 t1, ta_r11 t1, ta_s5 t1, ta_r12 t1, ta_s6 t1, ta_r13 t1, ta_s7 t1, ta_r14 t1, ta_s8 t1, ta_r15 t1, ta_s9 t1, ta_r16 t1, ta_s10 t1, ta_r17 t1, ta_s11 t1, ta_r18 t1, ta_s12 t1, ta_r19 t1, ta_s13 t1, ta_r20 t1]
      rw [if_neg (by omega), if_neg (by omega), if_pos (by omega)] at k2
      rw [g 87 2 (by omega), zgi_gz, r.2.2.1]
      exact k2
    · refine vb_X9_size_112 _ _ _ ?_
      simp only [B_X9_size_112, oPI, oPL, oILOAD, oLLOAD, oALOAD, oISTORE, oASTORE, oLSTORE, oIINC, oIADD, oISUB, oIMUL, oIAND, oIOR, oIXOR, oIDIV, oIREM, oISHL, oISHR, oIUSHR, oLADD, oLSUB, oLMUL, oLOR, oLDIV, oLREM, oLCMP, oLSHL, oINEG, oI2L, oL2I, oI2B, oI2C, oDUP, oPOP, oDUP2, oIFEQ, oICEQ, oIFNE, oICNE, oIFLT, oICLT, oIFGE, oICGE, oIFGT, oICGT, oIFLE, oICLE, oIFNULL, oIFNONNULL, oTSW, oLSW, oGETI, oGETL, oGETR, oPUTI, oPUTZ, oPUTL, oPUTR, oIALD, oBALD, oZALD, oLALD, oAALD, oALEN, oIAST, oBAST, oZAST, oLAST, oIRET, oZRET, oLRET, oVRET, oARET, oOBJ, oINI, oPS, oNEW, oNEWAI, oNEWAB, oNEWAZ, oNEWAL, oCOPY, oINV0, oINS0, oINV1, oINS1, oINV2, oINS2, oINV3, oINS3, oINV4, oINS4, oINV5, oINS5, oINV6, oINS6, List.getElem?_cons_zero, List.getElem?_cons_succ, List.set_cons_zero, List.set_cons_succ, znl, zs4, zc1, true_and, and_self, Value.category, Option.toList, List.cons_append, List.nil_append, zvr, mw_s w1, mw_s79 w1, mw_s80 w1, mw_s81 w1, mw_s82 w1, mw_s83 w1, mw_s84 w1, mw_s85 w1, mw_r5 w1, mw_r15 w1, mw_r16 w1, mw_r17 w1, mw_r18 w1, mw_r21 w1, mw_r22 w1, ta_r3 t1, ta_s t1, ta_s1 t1, ta_r8 t1, ta_s2 t1, ta_r9 t1, ta_s3 t1, ta_r10 t1, ta_s4 t1, ta_r11 t1, ta_s5 t1, ta_r12 t1, ta_s6 t1, ta_r13 t1, ta_s7 t1, ta_r14 t1, ta_s8 t1, ta_r15 t1, ta_s9 t1, ta_r16 t1, ta_s10 t1, ta_r17 t1, ta_s11 t1, ta_r18 t1, ta_s12 t1, ta_r19 t1, ta_s13 t1, ta_r20 t1]
      rw [if_neg (by omega), if_neg (by omega), if_neg (by omega), if_pos (by omega)] at k2
      rw [g 87 3 (by omega), zgi_gz, r.2.2.2.1]
      exact k2
    · refine vb_X9_size_120 _ _ _ ?_
      simp only [B_X9_size_120, oPI, oPL, oILOAD, oLLOAD, oALOAD, oISTORE, oASTORE, oLSTORE, oIINC, oIADD, oISUB, oIMUL, oIAND, oIOR, oIXOR, oIDIV, oIREM, oISHL, oISHR, oIUSHR, oLADD, oLSUB, oLMUL, oLOR, oLDIV, oLREM, oLCMP, oLSHL, oINEG, oI2L, oL2I, oI2B, oI2C, oDUP, oPOP, oDUP2, oIFEQ, oICEQ, oIFNE, oICNE, oIFLT, oICLT, oIFGE, oICGE, oIFGT, oICGT, oIFLE, oICLE, oIFNULL, oIFNONNULL, oTSW, oLSW, oGETI, oGETL, oGETR, oPUTI, oPUTZ, oPUTL, oPUTR, oIALD, oBALD, oZALD, oLALD, oAALD, oALEN, oIAST, oBAST, oZAST, oLAST, oIRET, oZRET, oLRET, oVRET, oARET, oOBJ, oINI, oPS, oNEW, oNEWAI, oNEWAB, oNEWAZ, oNEWAL, oCOPY, oINV0, oINS0, oINV1, oINS1, oINV2, oINS2, oINV3, oINS3, oINV4, oINS4, oINV5, oINS5, oINV6, oINS6, List.getElem?_cons_zero, List.getElem?_cons_succ, List.set_cons_zero, List.set_cons_succ, znl, zs4, zc1, true_and, and_self, Value.category, Option.toList, List.cons_append, List.nil_append, zvr, mw_s w1, mw_s79 w1, mw_s80 w1, mw_s81 w1, mw_s82 w1, mw_s83 w1, mw_s84 w1, mw_s85 w1, mw_r5 w1, mw_r15 w1, mw_r16 w1, mw_r17 w1, mw_r18 w1, mw_r21 w1, mw_r22 w1, ta_r3 t1, ta_s t1, ta_s1 t1, ta_r8 t1, ta_s2 t1, ta_r9 t1, ta_s3 t1, ta_r10 t1, ta_s4 t1, ta_r11 t1, ta_s5 t1, ta_r12 t1, ta_s6 t1, ta_r13 t1, ta_s7 t1, ta_r14 t1, ta_s8 t1, ta_r15 t1, ta_s9 t1, ta_r16 t1, ta_s10 t1, ta_r17 t1, ta_s11 t1, ta_r18 t1, ta_s12 t1, ta_r19 t1, ta_s13 t1, ta_r20 t1]
      rw [if_neg (by omega), if_neg (by omega), if_neg (by omega), if_neg (by omega), if_pos (by omega)] at k2
      rw [ei 87 4 p 8 (by omega) r.2.2.2.2.1]
      exact k2
    · refine vb_X9_size_128 _ _ _ ?_
      simp only [B_X9_size_128, oPI, oPL, oILOAD, oLLOAD, oALOAD, oISTORE, oASTORE, oLSTORE, oIINC, oIADD, oISUB, oIMUL, oIAND, oIOR, oIXOR, oIDIV, oIREM, oISHL, oISHR, oIUSHR, oLADD, oLSUB, oLMUL, oLOR, oLDIV, oLREM, oLCMP, oLSHL, oINEG, oI2L, oL2I, oI2B, oI2C, oDUP, oPOP, oDUP2, oIFEQ, oICEQ, oIFNE, oICNE, oIFLT, oICLT, oIFGE, oICGE, oIFGT, oICGT, oIFLE, oICLE, oIFNULL, oIFNONNULL, oTSW, oLSW, oGETI, oGETL, oGETR, oPUTI, oPUTZ, oPUTL, oPUTR, oIALD, oBALD, oZALD, oLALD, oAALD, oALEN, oIAST, oBAST, oZAST, oLAST, oIRET, oZRET, oLRET, oVRET, oARET, oOBJ, oINI, oPS, oNEW, oNEWAI, oNEWAB, oNEWAZ, oNEWAL, oCOPY, oINV0, oINS0, oINV1, oINS1, oINV2, oINS2, oINV3, oINS3, oINV4, oINS4, oINV5, oINS5, oINV6, oINS6, List.getElem?_cons_zero, List.getElem?_cons_succ, List.set_cons_zero, List.set_cons_succ, znl, zs4, zc1, true_and, and_self, Value.category, Option.toList, List.cons_append, List.nil_append, zvr, mw_s w1, mw_s79 w1, mw_s80 w1, mw_s81 w1, mw_s82 w1, mw_s83 w1, mw_s84 w1, mw_s85 w1, mw_r5 w1, mw_r15 w1, mw_r16 w1, mw_r17 w1, mw_r18 w1, mw_r21 w1, mw_r22 w1, ta_r3 t1, ta_s t1, ta_s1 t1, ta_r8 t1, ta_s2 t1, ta_r9 t1, ta_s3 t1, ta_r10 t1, ta_s4 t1, ta_r11 t1, ta_s5 t1, ta_r12 t1, ta_s6 t1, ta_r13 t1, ta_s7 t1, ta_r14 t1, ta_s8 t1, ta_r15 t1, ta_s9 t1, ta_r16 t1, ta_s10 t1, ta_r17 t1, ta_s11 t1, ta_r18 t1, ta_s12 t1, ta_r19 t1, ta_s13 t1, ta_r20 t1]
      rw [if_neg (by omega), if_neg (by omega), if_neg (by omega), if_neg (by omega), if_neg (by omega), if_pos (by omega)] at k2
      rw [ei 87 5 p 11 (by omega) r.2.2.2.2.2.1]
      exact k2
    · refine vb_X9_size_136 _ _ _ ?_
      simp only [B_X9_size_136, oPI, oPL, oILOAD, oLLOAD, oALOAD, oISTORE, oASTORE, oLSTORE, oIINC, oIADD, oISUB, oIMUL, oIAND, oIOR, oIXOR, oIDIV, oIREM, oISHL, oISHR, oIUSHR, oLADD, oLSUB, oLMUL, oLOR, oLDIV, oLREM, oLCMP, oLSHL, oINEG, oI2L, oL2I, oI2B, oI2C, oDUP, oPOP, oDUP2, oIFEQ, oICEQ, oIFNE, oICNE, oIFLT, oICLT, oIFGE, oICGE, oIFGT, oICGT, oIFLE, oICLE, oIFNULL, oIFNONNULL, oTSW, oLSW, oGETI, oGETL, oGETR, oPUTI, oPUTZ, oPUTL, oPUTR, oIALD, oBALD, oZALD, oLALD, oAALD, oALEN, oIAST, oBAST, oZAST, oLAST, oIRET, oZRET, oLRET, oVRET, oARET, oOBJ, oINI, oPS, oNEW, oNEWAI, oNEWAB, oNEWAZ, oNEWAL, oCOPY, oINV0, oINS0, oINV1, oINS1, oINV2, oINS2, oINV3, oINS3, oINV4, oINS4, oINV5, oINS5, oINV6, oINS6, List.getElem?_cons_zero, List.getElem?_cons_succ, List.set_cons_zero, List.set_cons_succ, znl, zs4, zc1, true_and, and_self, Value.category, Option.toList, List.cons_append, List.nil_append, zvr, mw_s w1, mw_s79 w1, mw_s80 w1, mw_s81 w1, mw_s82 w1, mw_s83 w1, mw_s84 w1, mw_s85 w1, mw_r5 w1, mw_r15 w1, mw_r16 w1, mw_r17 w1, mw_r18 w1, mw_r21 w1, mw_r22 w1, ta_r3 t1, ta_s t1, ta_s1 t1, ta_r8 t1, ta_s2 t1, ta_r9 t1, ta_s3 t1, ta_r10 t1, ta_s4 t1, ta_r11 t1, ta_s5 t1, ta_r12 t1, ta_s6 t1, ta_r13 t1, ta_s7 t1, ta_r14 t1, ta_s8 t1, ta_r15 t1, ta_s9 t1, ta_r16 t1, ta_s10 t1, ta_r17 t1, ta_s11 t1, ta_r18 t1, ta_s12 t1, ta_r19 t1, ta_s13 t1, ta_r20 t1]
      rw [if_neg (by omega), if_neg (by omega), if_neg (by omega), if_neg (by omega), if_neg (by omega), if_neg (by omega), if_pos (by omega)] at k2
      rw [ei 87 6 p 13 (by omega) r.2.2.2.2.2.2.1]
      exact k2
    · refine vb_X9_size_144 _ _ _ ?_
      simp only [B_X9_size_144, oPI, oPL, oILOAD, oLLOAD, oALOAD, oISTORE, oASTORE, oLSTORE, oIINC, oIADD, oISUB, oIMUL, oIAND, oIOR, oIXOR, oIDIV, oIREM, oISHL, oISHR, oIUSHR, oLADD, oLSUB, oLMUL, oLOR, oLDIV, oLREM, oLCMP, oLSHL, oINEG, oI2L, oL2I, oI2B, oI2C, oDUP, oPOP, oDUP2, oIFEQ, oICEQ, oIFNE, oICNE, oIFLT, oICLT, oIFGE, oICGE, oIFGT, oICGT, oIFLE, oICLE, oIFNULL, oIFNONNULL, oTSW, oLSW, oGETI, oGETL, oGETR, oPUTI, oPUTZ, oPUTL, oPUTR, oIALD, oBALD, oZALD, oLALD, oAALD, oALEN, oIAST, oBAST, oZAST, oLAST, oIRET, oZRET, oLRET, oVRET, oARET, oOBJ, oINI, oPS, oNEW, oNEWAI, oNEWAB, oNEWAZ, oNEWAL, oCOPY, oINV0, oINS0, oINV1, oINS1, oINV2, oINS2, oINV3, oINS3, oINV4, oINS4, oINV5, oINS5, oINV6, oINS6, List.getElem?_cons_zero, List.getElem?_cons_succ, List.set_cons_zero, List.set_cons_succ, znl, zs4, zc1, true_and, and_self, Value.category, Option.toList, List.cons_append, List.nil_append, zvr, mw_s w1, mw_s79 w1, mw_s80 w1, mw_s81 w1, mw_s82 w1, mw_s83 w1, mw_s84 w1, mw_s85 w1, mw_r5 w1, mw_r15 w1, mw_r16 w1, mw_r17 w1, mw_r18 w1, mw_r21 w1, mw_r22 w1, ta_r3 t1, ta_s t1, ta_s1 t1, ta_r8 t1, ta_s2 t1, ta_r9 t1, ta_s3 t1, ta_r10 t1, ta_s4 t1, ta_r11 t1, ta_s5 t1, ta_r12 t1, ta_s6 t1, ta_r13 t1, ta_s7 t1, ta_r14 t1, ta_s8 t1, ta_r15 t1, ta_s9 t1, ta_r16 t1, ta_s10 t1, ta_r17 t1, ta_s11 t1, ta_r18 t1, ta_s12 t1, ta_r19 t1, ta_s13 t1, ta_r20 t1]
      rw [if_neg (by omega), if_neg (by omega), if_neg (by omega), if_neg (by omega), if_neg (by omega), if_neg (by omega), if_neg (by omega), if_pos (by omega)] at k2
      rw [show (zj 14).toNatClampNeg = 14 from rfl, g 80 14 (by omega), o.vn 14 (by omega)]
      exact ⟨zj_in (by omega) (by omega) (by omega), k2⟩
    · refine vb_X9_size_152 _ _ _ ?_
      simp only [B_X9_size_152, oPI, oPL, oILOAD, oLLOAD, oALOAD, oISTORE, oASTORE, oLSTORE, oIINC, oIADD, oISUB, oIMUL, oIAND, oIOR, oIXOR, oIDIV, oIREM, oISHL, oISHR, oIUSHR, oLADD, oLSUB, oLMUL, oLOR, oLDIV, oLREM, oLCMP, oLSHL, oINEG, oI2L, oL2I, oI2B, oI2C, oDUP, oPOP, oDUP2, oIFEQ, oICEQ, oIFNE, oICNE, oIFLT, oICLT, oIFGE, oICGE, oIFGT, oICGT, oIFLE, oICLE, oIFNULL, oIFNONNULL, oTSW, oLSW, oGETI, oGETL, oGETR, oPUTI, oPUTZ, oPUTL, oPUTR, oIALD, oBALD, oZALD, oLALD, oAALD, oALEN, oIAST, oBAST, oZAST, oLAST, oIRET, oZRET, oLRET, oVRET, oARET, oOBJ, oINI, oPS, oNEW, oNEWAI, oNEWAB, oNEWAZ, oNEWAL, oCOPY, oINV0, oINS0, oINV1, oINS1, oINV2, oINS2, oINV3, oINS3, oINV4, oINS4, oINV5, oINS5, oINV6, oINS6, List.getElem?_cons_zero, List.getElem?_cons_succ, List.set_cons_zero, List.set_cons_succ, znl, zs4, zc1, true_and, and_self, Value.category, Option.toList, List.cons_append, List.nil_append, zvr, mw_s w1, mw_s79 w1, mw_s80 w1, mw_s81 w1, mw_s82 w1, mw_s83 w1, mw_s84 w1, mw_s85 w1, mw_r5 w1, mw_r15 w1, mw_r16 w1, mw_r17 w1, mw_r18 w1, mw_r21 w1, mw_r22 w1, ta_r3 t1, ta_s t1, ta_s1 t1, ta_r8 t1, ta_s2 t1, ta_r9 t1, ta_s3 t1, ta_r10 t1, ta_s4 t1, ta_r11 t1, ta_s5 t1, ta_r12 t1, ta_s6 t1, ta_r13 t1, ta_s7 t1, ta_r14 t1, ta_s8 t1, ta_r15 t1, ta_s9 t1, ta_r16 t1, ta_s10 t1, ta_r17 t1, ta_s11 t1, ta_r18 t1, ta_s12 t1, ta_r19 t1, ta_s13 t1, ta_r20 t1]
      rw [if_neg (by omega), if_neg (by omega), if_neg (by omega), if_neg (by omega), if_neg (by omega), if_neg (by omega), if_neg (by omega), if_neg (by omega), if_pos (by omega)] at k2
      rw [ei 78 19 46 2 (by omega) ac.1]
      exact k2
end ZSO
