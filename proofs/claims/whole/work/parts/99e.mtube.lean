section ZEK
variable {α β : Type} {T : Nat → Int} {n : Nat}
def zEk (x : zEr ⊕ α) : Prop := ∀ e, x = .inl e → 1 ≤ e.1 ∧ e.1 ≤ 6
theorem zEk_l {e : zEr} (h1 : 1 ≤ e.1) (h2 : e.1 ≤ 6) : zEk (.inl e : zEr ⊕ α) := fun e' h => by cases h; exact ⟨h1, h2⟩
theorem zEk_r (a : α) : zEk (.inr a : zEr ⊕ α) := fun e h => by cases h
theorem zEk_i {P : Prop} {x y : zEr ⊕ α} (hx : zEk x) (hy : zEk y) : zEk (zif P x y) := by
  by_cases c : P
  · rw [zif_t c]; exact hx
  · rw [zif_f c]; exact hy
theorem zEk_b {x : zEr ⊕ α} {f : α → zEr ⊕ β} (hx : zEk x) (hf : ∀ a, zEk (f a)) : zEk (zbd x f) := by
  cases x with
  | inl e => exact fun e' h => by cases h; exact hx e rfl
  | inr a => exact hf a
theorem ek_W (kw : List Nat) (s : Nat) : zEk (pW T n kw s) := zEk_i (zEk_r _) (zEk_l (by dsimp only; omega) (by dsimp only; omega))
theorem ek_A (s : Nat) : zEk (pA T n s) := zEk_i (zEk_r _) (zEk_l (by dsimp only; omega) (by dsimp only; omega))
theorem ek_N (m s : Nat) : zEk (pN T n m s) := zEk_i (zEk_i (zEk_r _) (zEk_l (by dsimp only; omega) (by dsimp only; omega))) (zEk_l (by dsimp only; omega) (by dsimp only; omega))
theorem ek_New (D : zDt) (s : Nat) : zEk (pNew T n D s) := zEk_i (zEk_i (zEk_l (by dsimp only; omega) (by dsimp only; omega)) (zEk_r _)) (zEk_l (by dsimp only; omega) (by dsimp only; omega))
theorem ek_Sort (s : Nat) : zEk (pSort T n s) := zEk_i (zEk_r _) (zEk_i (zEk_r _) (zEk_i (zEk_r _) (zEk_i (zEk_r _) (zEk_l (by dsimp only; omega) (by dsimp only; omega)))))
theorem ek_Old (D : zDt) (a : Bool) (s : Nat) : zEk (pOld T n D a s) := by
  unfold pOld
  refine zEk_i ?_ (zEk_l (by dsimp only; omega) (by dsimp only; omega))
  cases zbx (tk_w T n s) D.2.1 0 with
  | none => exact zEk_l (by dsimp only; omega) (by dsimp only; omega)
  | some b => exact zEk_i (zEk_r _) (zEk_l (by dsimp only; omega) (by dsimp only; omega))
theorem ek_Line (D : zDt) (s : Nat) : zEk (pLine T n D s) := by
  unfold pLine pTube pBit pCell pMet pHol pPer
  repeat' first | exact zEk_r _ | exact ek_W _ _ | exact ek_A _ | exact ek_N _ _ | exact ek_New _ _ | exact ek_Sort _ | exact ek_Old _ _ _ | exact zEk_l (by dsimp only; omega) (by dsimp only; omega) | refine zEk_i ?_ ?_ | refine zEk_b ?_ (fun a => ?_)
theorem ek_All : ∀ (f : Nat) (D : zDt) (s : Nat), zEk (pAll T n f D s)
  | 0, D, s => zEk_l (by dsimp only; omega) (by dsimp only; omega)
  | f + 1, D, s => zEk_b (ek_Line D s) (fun a => zEk_i (zEk_i (zEk_l (by dsimp only; omega) (by dsimp only; omega)) (zEk_r _)) (zEk_i (ek_All f _ _) (zEk_l (by dsimp only; omega) (by dsimp only; omega))))
end ZEK
section ZMT2
variable {X : Nat × (Nat → Int32)} {R : zRt} {h h' h0 h1 h2 : zHp} {t : Nat} {T : Nat → Int} {n s : Nat} {D : zDt} {e : zEr}
theorem znx_pi (h : zHp) (k j : Nat) (x : Int32) : znx (zpi h k j x) = znx h := rfl
/-- before the first token -/
def zBf (h h' : zHp) : Prop := znx h' = 116 ∧ zTq h' 102 ∧ (∀ x, x < 102 → zsh h' x = zsh h x) ∧ (∀ x y, x < 102 → ¬ (x = 78 ∧ (y = 0 ∨ (6 ≤ y ∧ y ≤ 13))) → zgi h' x y = zgi h x y) ∧ (∀ x y, x < 102 → zgl h' x y = zgl h x y) ∧ (∀ x y, x < 102 → ¬ (x = 78 ∧ y = 4) → zgr h' x y = zgr h x y) ∧ zgr h' 78 4 = some 102 ∧ gz h' 78 0 = 0 ∧ gz h' 78 6 = 0
theorem cm_tubeHead {c L : Int} (pk : zPk X) (w : zMW h) (hx : znx h = 102) (hL : gz h 78 6 = L) (hL0 : 0 ≤ L) (hL8 : L ≤ 800) (c1 : -2147483648 ≤ c) (c2 : c < 2147483648) (tx : ∀ i : Nat, (i : Int) < L → gz h 79 i = T i ∧ -128 ≤ T i ∧ T i ≤ 127) (k2 : ¬ (0 ≤ c ∧ c ≤ L) → R (some (.int (zj (-1)))) (zrf (zpi h 78 0 (zj 0)) 2)) (kF : ∀ n : Nat, c = n → c ≤ L → ∀ e, pAll T n (n + 1) zD0 0 = .inl e → ∀ h0 h', zBf h h0 → zMF h0 h' 102 e → R (some (.int (zj (-1)))) (zpi (zpi h' 78 1 (zj 4)) 78 2 (zj (e.2 : Nat)))) (kS : ∀ n : Nat, c = n → c ≤ L → ∀ D, pAll T n (n + 1) zD0 0 = .inr D → ¬ D.2.1 = [] → ∀ h0 h' s', zBf h h0 → zMI h0 h' 102 T n s' D → zV X M_X9_tube (zQm M_X9_tube R) 14 109 89 [.ref 78, .int (zj c), .retAddr 0] [] h') : zCC X M_X9_tube [.ref 78, .int (zj c)] h R := by
  have bad : ¬ (0 ≤ c ∧ c ≤ L) → zV X M_X9_tube (zQm M_X9_tube R) 0 0 17 [.ref 78, .int (zj c), .retAddr 0] [] (zpi h 78 0 (zj 0)) := fun q => by
    refine vb_X9_tube_17 _ _ _ ?_
    simp only [B_X9_tube_17, oPI, oPL, oILOAD, oLLOAD, oALOAD, oISTORE, oASTORE, oLSTORE, oIINC, oIADD, oISUB, oIMUL, oIAND, oIOR, oIXOR, oIDIV, oIREM, oISHL, oISHR, oIUSHR, oLADD, oLSUB, oLMUL, oLOR, oLDIV, oLREM, oLCMP, oLSHL, oINEG, oI2L, oL2I, oI2B, oI2C, oDUP, oPOP, oDUP2, oIFEQ, oICEQ, oIFNE, oICNE, oIFLT, oICLT, oIFGE, oICGE, oIFGT, oICGT, oIFLE, oICLE, oIFNULL, oIFNONNULL, oTSW, oLSW, oGETI, oGETL, oGETR, oPUTI, oPUTZ, oPUTL, oPUTR, oIALD, oBALD, oZALD, oLALD, oAALD, oALEN, oIAST, oBAST, oZAST, oLAST, oIRET, oZRET, oLRET, oVRET, oARET, oOBJ, oINI, oPS, oNEW, oNEWAI, oNEWAB, oNEWAZ, oNEWAL, oCOPY, oINV0, oINS0, oINV1, oINS1, oINV2, oINS2, oINV3, oINS3, oINV4, oINS4, oINV5, oINS5, oINV6, oINS6, List.getElem?_cons_zero, List.getElem?_cons_succ, List.set_cons_zero, List.set_cons_succ, znl, zs4, zc1, true_and, and_self, Value.category, Option.toList, List.cons_append, List.nil_append, zvr, mw_s w, mw_s79 w, mw_s80 w, mw_s81 w, mw_s82 w, mw_s83 w, mw_s84 w, mw_s85 w, mw_r5 w, mw_r15 w, mw_r16 w, mw_r17 w, mw_r18 w, mw_r21 w, mw_r22 w, zsh_pi]
    refine cm_refused (h := zpi h 78 0 (zj 0)) w ?_
    simp only [oPI, oPL, oILOAD, oLLOAD, oALOAD, oISTORE, oASTORE, oLSTORE, oIINC, oIADD, oISUB, oIMUL, oIAND, oIOR, oIXOR, oIDIV, oIREM, oISHL, oISHR, oIUSHR, oLADD, oLSUB, oLMUL, oLOR, oLDIV, oLREM, oLCMP, oLSHL, oINEG, oI2L, oL2I, oI2B, oI2C, oDUP, oPOP, oDUP2, oIFEQ, oICEQ, oIFNE, oICNE, oIFLT, oICLT, oIFGE, oICGE, oIFGT, oICGT, oIFLE, oICLE, oIFNULL, oIFNONNULL, oTSW, oLSW, oGETI, oGETL, oGETR, oPUTI, oPUTZ, oPUTL, oPUTR, oIALD, oBALD, oZALD, oLALD, oAALD, oALEN, oIAST, oBAST, oZAST, oLAST, oIRET, oZRET, oLRET, oVRET, oARET, oOBJ, oINI, oPS, oNEW, oNEWAI, oNEWAB, oNEWAZ, oNEWAL, oCOPY, oINV0, oINS0, oINV1, oINS1, oINV2, oINS2, oINV3, oINS3, oINV4, oINS4, oINV5, oINS5, oINV6, oINS6, List.getElem?_cons_zero, List.getElem?_cons_succ, List.set_cons_zero, List.set_cons_succ, znl, zs4, zc1, true_and, and_self, Value.category, Option.toList, List.cons_append, List.nil_append, zvr]
    exact k2 q
  have g6 : zgi (zpi h 78 0 (zj 0)) 78 6 = zj L := by rw [zpi_o (by omega), zgi_gz, hL]
  refine zCC_of (ls := [.ref 78, .int (zj c), .retAddr 0]) pf_X9_tube rfl (Nat.le_of_ble_eq_true rfl) ?_
  refine vb_X9_tube_0 _ _ _ ?_
  simp only [B_X9_tube_0, oPI, oPL, oILOAD, oLLOAD, oALOAD, oISTORE, oASTORE, oLSTORE, oIINC, oIADD, oISUB, oIMUL, oIAND, oIOR, oIXOR, oIDIV, oIREM, oISHL, oISHR, oIUSHR, oLADD, oLSUB, oLMUL, oLOR, oLDIV, oLREM, oLCMP, oLSHL, oINEG, oI2L, oL2I, oI2B, oI2C, oDUP, oPOP, oDUP2, oIFEQ, oICEQ, oIFNE, oICNE, oIFLT, oICLT, oIFGE, oICGE, oIFGT, oICGT, oIFLE, oICLE, oIFNULL, oIFNONNULL, oTSW, oLSW, oGETI, oGETL, oGETR, oPUTI, oPUTZ, oPUTL, oPUTR, oIALD, oBALD, oZALD, oLALD, oAALD, oALEN, oIAST, oBAST, oZAST, oLAST, oIRET, oZRET, oLRET, oVRET, oARET, oOBJ, oINI, oPS, oNEW, oNEWAI, oNEWAB, oNEWAZ, oNEWAL, oCOPY, oINV0, oINS0, oINV1, oINS1, oINV2, oINS2, oINV3, oINS3, oINV4, oINS4, oINV5, oINS5, oINV6, oINS6, List.getElem?_cons_zero, List.getElem?_cons_succ, List.set_cons_zero, List.set_cons_succ, znl, zs4, zc1, true_and, and_self, Value.category, Option.toList, List.cons_append, List.nil_append, zvr, mw_s w, mw_s79 w, mw_s80 w, mw_s81 w, mw_s82 w, mw_s83 w, mw_s84 w, mw_s85 w, mw_r5 w, mw_r15 w, mw_r16 w, mw_r17 w, mw_r18 w, mw_r21 w, mw_r22 w, zsh_pi]
  rw [g6]
  try simp (disch := omega) only [zgi_gz, zj_cn, zj_lt, zj_le, zj_eq, zj_add, zj_sub, zj_mul, zj_neg, zj_lt0, zj_le0, zj_0le, zj_0lt, zj_eq0, zb_0, zb_z, Classical.not_not, Int.zero_add, Int.add_zero, zj_remn, zj_divn]
  refine ⟨fun q => bad (by omega), fun q => ⟨fun q2 => ?_, fun q2 => bad (by omega)⟩⟩
  obtain ⟨n, hn⟩ : ∃ n : Nat, c = n := ⟨c.toNat, by omega⟩
  obtain ⟨h1, hh1⟩ : ∃ h1, h1 = zpi (zpi (zpi (zpi (zpi h 78 0 (zj 0)) 78 7 (zj c)) 78 6 (zj 0)) 78 8 (zj 0)) 78 12 (zj 0) := ⟨_, rfl⟩
  have x1 : znx h1 = 102 := by rw [hh1]; exact hx
  have w1 : zMW h1 := by rw [hh1]; exact w
  have sh1 : ∀ x, zsh h1 x = zsh h x := fun x => by rw [hh1]; rfl
  obtain ⟨h2, hh2⟩ : ∃ h2, h2 = zal h1 (.inl 8) := ⟨_, rfl⟩
  have s2 : ∀ x, zsh h2 x = if x = znx h1 then some (.inl 8) else zsh h1 x := fun x => by rw [hh2]; rfl
  have i2 : ∀ x y, zgi h2 x y = if x = znx h1 then 0 else zgi h1 x y := fun x y => by rw [hh2]; rfl
  have l2 : ∀ x y, zgl h2 x y = if x = znx h1 then 0 else zgl h1 x y := fun x y => by rw [hh2]; rfl
  have r2 : ∀ x y, zgr h2 x y = if x = znx h1 then none else zgr h1 x y := fun x y => by rw [hh2]; rfl
  have s2t : zsh h2 102 = some (.inl 8) := by rw [s2, if_pos x1.symm]
  have x2 : znx h2 = 103 := by rw [hh2]; show znx h1 + 1 = 103; rw [x1]
  refine vb_X9_tube_23 _ _ _ ?_
  simp only [B_X9_tube_23, oPI, oPL, oILOAD, oLLOAD, oALOAD, oISTORE, oASTORE, oLSTORE, oIINC, oIADD, oISUB, oIMUL, oIAND, oIOR, oIXOR, oIDIV, oIREM, oISHL, oISHR, oIUSHR, oLADD, oLSUB, oLMUL, oLOR, oLDIV, oLREM, oLCMP, oLSHL, oINEG, oI2L, oL2I, oI2B, oI2C, oDUP, oPOP, oDUP2, oIFEQ, oICEQ, oIFNE, oICNE, oIFLT, oICLT, oIFGE, oICGE, oIFGT, oICGT, oIFLE, oICLE, oIFNULL, oIFNONNULL, oTSW, oLSW, oGETI, oGETL, oGETR, oPUTI, oPUTZ, oPUTL, oPUTR, oIALD, oBALD, oZALD, oLALD, oAALD, oALEN, oIAST, oBAST, oZAST, oLAST, oIRET, oZRET, oLRET, oVRET, oARET, oOBJ, oINI, oPS, oNEW, oNEWAI, oNEWAB, oNEWAZ, oNEWAL, oCOPY, oINV0, oINS0, oINV1, oINS1, oINV2, oINS2, oINV3, oINS3, oINV4, oINS4, oINV5, oINS5, oINV6, oINS6, List.getElem?_cons_zero, List.getElem?_cons_succ, List.set_cons_zero, List.set_cons_succ, znl, zs4, zc1, true_and, and_self, Value.category, Option.toList, List.cons_append, List.nil_append, zvr, mw_s w, mw_s79 w, mw_s80 w, mw_s81 w, mw_s82 w, mw_s83 w, mw_s84 w, mw_s85 w, mw_r5 w, mw_r15 w, mw_r16 w, mw_r17 w, mw_r18 w, mw_r21 w, mw_r22 w, zsh_pi]
  rw [← hh1, x1, ← hh2]
  refine cm_tinit s2t x2 (fun h3 q3 => ?_)
  have tq3 := q3.tq s2t
  have b3 : ∀ x y, x < 102 → zgi h3 x y = zgi h1 x y := fun x y hx => by rw [q3.2.2.1 x y (by omega), zpi_o (by omega), i2, if_neg (by omega)]
  have s78 : zsh h3 78 = some (.inl 9) := by rw [q3.2.1 78 (by omega)]; show zsh h2 78 = _; rw [s2, if_neg (by omega), sh1]; exact w.1
  obtain ⟨h5, hh5⟩ : ∃ h5, h5 = zpi (zpr h3 78 4 (some 102)) 78 9 (zj 0) := ⟨_, rfl⟩
  have s5 : ∀ x, zsh h5 x = zsh h3 x := fun x => by rw [hh5]; rfl
  have r5 : ∀ x y, ¬ (x = 78 ∧ y = 4) → zgr h5 x y = zgr h3 x y := fun x y q => by rw [hh5, zgr_pi, zgr_pr, if_neg q]
  have r54 : zgr h5 78 4 = some 102 := by rw [hh5, zgr_pi, zgr_pr, if_pos ⟨rfl, rfl⟩]
  have g5 : ∀ x y, ¬ (x = 78 ∧ y = 9) → zgi h5 x y = zgi h3 x y := fun x y q => by rw [hh5, zpi_o q]; rfl
  have bs : ∀ x, x < 102 → zsh h5 x = zsh h x := fun x hx => by rw [s5, q3.2.1 x (by omega)]; show zsh h2 x = _; rw [s2, if_neg (by omega), sh1]
  have br : ∀ x y, x < 102 → ¬ (x = 78 ∧ y = 4) → zgr h5 x y = zgr h x y := fun x y hx q => by rw [r5 x y q, q3.2.2.2.2.1 x y hx]; show zgr h2 x y = _; rw [r2, if_neg (by omega), hh1]; rfl
  have w5 : zMW h5 := by
    unfold zMW at w ⊢
    simp (disch := omega) only [bs, br]
    exact w
  have tq5 : zTq h5 102 := by
    unfold zTq at tq3 ⊢
    simp (disch := omega) only [s5, r5]
    exact tq3
  have B : zBf h h5 := by
    refine ⟨by rw [hh5]; show znx h3 = 116; rw [q3.1], tq5, bs, fun x y hx q => ?_, fun x y hx => ?_, br, r54, ?_, ?_⟩
    · rw [g5 x y (by omega), b3 x y hx, hh1]; simp (disch := omega) only [zpi_o]
    · rw [hh5]; show zgl h3 x y = _; rw [q3.2.2.2.1 x y (by omega)]; show zgl h2 x y = _; rw [l2, if_neg (by omega), hh1]; rfl
    · show (zgi h5 78 0).toInt = _
      rw [g5 _ _ (by omega), b3 _ _ (by omega), hh1]; simp (disch := omega) only [zpi_o, zpi_s, zj_toInt]
    · show (zgi h5 78 6).toInt = _
      rw [g5 _ _ (by omega), b3 _ _ (by omega), hh1]; simp (disch := omega) only [zpi_o, zpi_s, zj_toInt]
  have e7 : gz h5 78 7 = n := by
    show (zgi h5 78 7).toInt = _
    rw [g5 _ _ (by omega), b3 _ _ (by omega), hh1, ← hn]; simp (disch := omega) only [zpi_o, zpi_s, zj_toInt]
  have e8 : gz h5 78 8 = 0 := by
    show (zgi h5 78 8).toInt = _
    rw [g5 _ _ (by omega), b3 _ _ (by omega), hh1]; simp (disch := omega) only [zpi_o, zpi_s, zj_toInt]
  have e12 : gz h5 78 12 = 0 := by
    show (zgi h5 78 12).toInt = _
    rw [g5 _ _ (by omega), b3 _ _ (by omega), hh1]; simp (disch := omega) only [zpi_o, zpi_s, zj_toInt]
  have e9 : gz h5 78 9 = 0 := by rw [hh5]; exact gz_pi1 (by omega) (by omega)
  have t5 : ∀ i : Nat, i < n → gz h5 79 i = T i ∧ -128 ≤ T i ∧ T i ≤ 127 := fun i hi => by
    rw [show gz h5 79 i = gz h 79 i from congrArg Int32.toInt (B.2.2.2.1 79 i (by omega) (by omega))]
    exact tx i (by omega)
  have z5 : ∀ y, ¬ y = 0 → gz h5 102 y = 0 := fun y hy => by
    show (zgi h5 102 y).toInt = _
    rw [g5 _ _ (by omega), q3.2.2.1 102 y (by omega), zpi_o (by omega), i2, if_pos x1.symm]; rfl
  have z50 : gz h5 102 0 = -1 := by
    show (zgi h5 102 0).toInt = _
    rw [g5 _ _ (by omega), q3.2.2.1 102 0 (by omega), zpi_s]; rfl
  simp only [oPI, oPL, oILOAD, oLLOAD, oALOAD, oISTORE, oASTORE, oLSTORE, oIINC, oIADD, oISUB, oIMUL, oIAND, oIOR, oIXOR, oIDIV, oIREM, oISHL, oISHR, oIUSHR, oLADD, oLSUB, oLMUL, oLOR, oLDIV, oLREM, oLCMP, oLSHL, oINEG, oI2L, oL2I, oI2B, oI2C, oDUP, oPOP, oDUP2, oIFEQ, oICEQ, oIFNE, oICNE, oIFLT, oICLT, oIFGE, oICGE, oIFGT, oICGT, oIFLE, oICLE, oIFNULL, oIFNONNULL, oTSW, oLSW, oGETI, oGETL, oGETR, oPUTI, oPUTZ, oPUTL, oPUTR, oIALD, oBALD, oZALD, oLALD, oAALD, oALEN, oIAST, oBAST, oZAST, oLAST, oIRET, oZRET, oLRET, oVRET, oARET, oOBJ, oINI, oPS, oNEW, oNEWAI, oNEWAB, oNEWAZ, oNEWAL, oCOPY, oINV0, oINS0, oINV1, oINS1, oINV2, oINS2, oINV3, oINS3, oINV4, oINS4, oINV5, oINS5, oINV6, oINS6, List.getElem?_cons_zero, List.getElem?_cons_succ, List.set_cons_zero, List.set_cons_succ, znl, zs4, zc1, true_and, and_self, Value.category, Option.toList, List.cons_append, List.nil_append, zvr, s78, zsh_pr, zsh_pi]
  rw [← hh5]
  refine cm_goesOn (T := T) (n := n) (s := 0) w5 (by omega) (by omega) e7 e8 (by omega) t5 (fun h6 a6 k6 => ?_)
  have g6 : ∀ x y, x = 102 → gz h6 x y = gz h5 x y := fun x y hx => congrArg Int32.toInt (a6.2.2.1 x y (by omega))
  have I6 : zMI h5 h6 102 T n 0 zD0 := by
    refine ⟨w5.mr a6.1 a6.2.1, tq5.mr a6.1 a6.2.1, ?_, ⟨a6.1, a6.2.1, fun x y q1 q2 => a6.2.2.1 x y (by omega), fun x y q1 q2 => a6.2.2.2 x y q2⟩, ?_, zDo_0, ⟨by omega, by omega, by omega⟩, ?_, t5, ?_, k6⟩
    · rw [← r54]; unfold zgr; rw [a6.2.1]
    · refine ⟨by rw [g6 _ _ rfl]; exact z50, by rw [g6 _ _ rfl]; exact z5 1 (by omega), by rw [g6 _ _ rfl]; exact z5 2 (by omega), by rw [g6 _ _ rfl]; exact z5 3 (by omega), fun i b hb => ?_, by rw [g6 _ _ rfl]; exact z5 4 (by omega), fun i b hb => ?_, by rw [g6 _ _ rfl]; exact z5 5 (by omega), fun i b hb => ?_, by rw [g6 _ _ rfl]; exact z5 6 (by omega), fun i b hb => ?_, by rw [g6 _ _ rfl]; exact z5 7 (by omega), fun i b hb => ?_⟩
      all_goals exact absurd (show (List.nil)[i]? = some b from hb) (by simp)
    · rw [show gz h6 78 7 = gz h5 78 7 from congrArg Int32.toInt (a6.2.2.1 78 7 (by omega))]; exact e7
    · rw [show gz h6 78 12 = gz h5 78 12 from congrArg Int32.toInt (a6.2.2.1 78 12 (by omega))]; exact e12
  have w6 := I6.w
  simp only [oPI, oPL, oILOAD, oLLOAD, oALOAD, oISTORE, oASTORE, oLSTORE, oIINC, oIADD, oISUB, oIMUL, oIAND, oIOR, oIXOR, oIDIV, oIREM, oISHL, oISHR, oIUSHR, oLADD, oLSUB, oLMUL, oLOR, oLDIV, oLREM, oLCMP, oLSHL, oINEG, oI2L, oL2I, oI2B, oI2C, oDUP, oPOP, oDUP2, oIFEQ, oICEQ, oIFNE, oICNE, oIFLT, oICLT, oIFGE, oICGE, oIFGT, oICGT, oIFLE, oICLE, oIFNULL, oIFNONNULL, oTSW, oLSW, oGETI, oGETL, oGETR, oPUTI, oPUTZ, oPUTL, oPUTR, oIALD, oBALD, oZALD, oLALD, oAALD, oALEN, oIAST, oBAST, oZAST, oLAST, oIRET, oZRET, oLRET, oVRET, oARET, oOBJ, oINI, oPS, oNEW, oNEWAI, oNEWAB, oNEWAZ, oNEWAL, oCOPY, oINV0, oINS0, oINV1, oINS1, oINV2, oINS2, oINV3, oINS3, oINV4, oINS4, oINV5, oINS5, oINV6, oINS6, List.getElem?_cons_zero, List.getElem?_cons_succ, List.set_cons_zero, List.set_cons_succ, znl, zs4, zc1, true_and, and_self, Value.category, Option.toList, List.cons_append, List.nil_append, zvr, mw_s w6, mw_s79 w6, mw_s80 w6, mw_s81 w6, mw_s82 w6, mw_s83 w6, mw_s84 w6, mw_s85 w6, mw_r5 w6, mw_r15 w6, mw_r16 w6, mw_r17 w6, mw_r18 w6, mw_r21 w6, mw_r22 w6]
  refine cm_readAll pk I6 (fun D' e1 hne h7 s7 I7 => ?_) (fun e e1 h7 F7 => ?_)
  · have w7 := I7.w
    simp only [oPI, oPL, oILOAD, oLLOAD, oALOAD, oISTORE, oASTORE, oLSTORE, oIINC, oIADD, oISUB, oIMUL, oIAND, oIOR, oIXOR, oIDIV, oIREM, oISHL, oISHR, oIUSHR, oLADD, oLSUB, oLMUL, oLOR, oLDIV, oLREM, oLCMP, oLSHL, oINEG, oI2L, oL2I, oI2B, oI2C, oDUP, oPOP, oDUP2, oIFEQ, oICEQ, oIFNE, oICNE, oIFLT, oICLT, oIFGE, oICGE, oIFGT, oICGT, oIFLE, oICLE, oIFNULL, oIFNONNULL, oTSW, oLSW, oGETI, oGETL, oGETR, oPUTI, oPUTZ, oPUTL, oPUTR, oIALD, oBALD, oZALD, oLALD, oAALD, oALEN, oIAST, oBAST, oZAST, oLAST, oIRET, oZRET, oLRET, oVRET, oARET, oOBJ, oINI, oPS, oNEW, oNEWAI, oNEWAB, oNEWAZ, oNEWAL, oCOPY, oINV0, oINS0, oINV1, oINS1, oINV2, oINS2, oINV3, oINS3, oINV4, oINS4, oINV5, oINS5, oINV6, oINS6, List.getElem?_cons_zero, List.getElem?_cons_succ, List.set_cons_zero, List.set_cons_succ, znl, zs4, zc1, true_and, and_self, Value.category, Option.toList, List.cons_append, List.nil_append, zvr, mw_s w7, mw_s79 w7, mw_s80 w7, mw_s81 w7, mw_s82 w7, mw_s83 w7, mw_s84 w7, mw_s85 w7, mw_r5 w7, mw_r15 w7, mw_r16 w7, mw_r17 w7, mw_r18 w7, mw_r21 w7, mw_r22 w7]
    rw [zgi_gz h7 78 12, I7.z]
    try simp (disch := omega) only [zgi_gz, zj_cn, zj_lt, zj_le, zj_eq, zj_add, zj_sub, zj_mul, zj_neg, zj_lt0, zj_le0, zj_0le, zj_0lt, zj_eq0, zb_0, zb_z, Classical.not_not, Int.zero_add, Int.add_zero, zj_remn, zj_divn]
    exact ⟨fun _ => kS n hn q2 D' e1 hne h5 h7 s7 B I7, fun z => by omega⟩
  · have w7 := F7.w
    have ek := ek_All (T := T) (n := n) (n + 1) zD0 0 e e1
    have g13 : zgi (zpi h7 78 1 (zj 4)) 78 13 = zj (e.2 : Nat) := by rw [zpi_o (by omega), zgi_gz, F7.a.2]
    simp only [oPI, oPL, oILOAD, oLLOAD, oALOAD, oISTORE, oASTORE, oLSTORE, oIINC, oIADD, oISUB, oIMUL, oIAND, oIOR, oIXOR, oIDIV, oIREM, oISHL, oISHR, oIUSHR, oLADD, oLSUB, oLMUL, oLOR, oLDIV, oLREM, oLCMP, oLSHL, oINEG, oI2L, oL2I, oI2B, oI2C, oDUP, oPOP, oDUP2, oIFEQ, oICEQ, oIFNE, oICNE, oIFLT, oICLT, oIFGE, oICGE, oIFGT, oICGT, oIFLE, oICLE, oIFNULL, oIFNONNULL, oTSW, oLSW, oGETI, oGETL, oGETR, oPUTI, oPUTZ, oPUTL, oPUTR, oIALD, oBALD, oZALD, oLALD, oAALD, oALEN, oIAST, oBAST, oZAST, oLAST, oIRET, oZRET, oLRET, oVRET, oARET, oOBJ, oINI, oPS, oNEW, oNEWAI, oNEWAB, oNEWAZ, oNEWAL, oCOPY, oINV0, oINS0, oINV1, oINS1, oINV2, oINS2, oINV3, oINS3, oINV4, oINS4, oINV5, oINS5, oINV6, oINS6, List.getElem?_cons_zero, List.getElem?_cons_succ, List.set_cons_zero, List.set_cons_succ, znl, zs4, zc1, true_and, and_self, Value.category, Option.toList, List.cons_append, List.nil_append, zvr, mw_s w7, mw_s79 w7, mw_s80 w7, mw_s81 w7, mw_s82 w7, mw_s83 w7, mw_s84 w7, mw_s85 w7, mw_r5 w7, mw_r15 w7, mw_r16 w7, mw_r17 w7, mw_r18 w7, mw_r21 w7, mw_r22 w7, zsh_pi]
    rw [zgi_gz h7 78 12, F7.a.1, g13]
    try simp (disch := omega) only [zgi_gz, zj_cn, zj_lt, zj_le, zj_eq, zj_add, zj_sub, zj_mul, zj_neg, zj_lt0, zj_le0, zj_0le, zj_0lt, zj_eq0, zb_0, zb_z, Classical.not_not, Int.zero_add, Int.add_zero, zj_remn, zj_divn]
    exact ⟨fun c => by omega, fun _ => kF n hn q2 e e1 h5 h7 B F7⟩
end ZMT2
