theorem zbx_u {l : List Nat} {bs : List zBt} {b : Nat} {x : zBt} (h1 : bs[b]? = some x) (h2 : x.1 = l) (h3 : ∀ (j : Nat) (y : zBt), bs[j]? = some y → j < b → ¬ y.1 = l) : zbx l bs 0 = some b := by
  cases hz : zbx l bs 0 with
  | none => exact absurd h2 (zbx_n bs 0 hz b x h1)
  | some b' =>
    obtain ⟨g1, g2, ⟨y, g3, g4⟩, g5⟩ := zbx_s bs 0 b' hz
    rw [Nat.sub_zero] at g3 g5
    rcases Nat.lt_trichotomy b b' with q | q | q
    · exact absurd h2 (g5 b x h1 q)
    · rw [q]
    · exact absurd g4 (h3 b' y g3 q)
theorem zbx_m {l : List Nat} {bs : List zBt} (h : ∀ (j : Nat) (y : zBt), bs[j]? = some y → ¬ y.1 = l) : zbx l bs 0 = none := by
  cases hz : zbx l bs 0 with
  | none => rfl
  | some b' =>
    obtain ⟨g1, g2, ⟨y, g3, g4⟩, g5⟩ := zbx_s bs 0 b' hz
    exact absurd g4 (h _ _ g3)
theorem zpi_s {h : zHp} {k j : Nat} {x : Int32} : zgi (zpi h k j x) k j = x := by rw [zgi_pi, if_pos ⟨rfl, rfl⟩]
theorem zpl_s {h : zHp} {k j : Nat} {x : Int64} : zgl (zpl h k j x) k j = x := by rw [zgl_pl, if_pos ⟨rfl, rfl⟩]
theorem zgi_plo {h : zHp} {k j : Nat} {x : Int64} {a b : Nat} : zgi (zpl h k j x) a b = zgi h a b := rfl
theorem zgl_pio {h : zHp} {k j : Nat} {x : Int32} {a b : Nat} : zgl (zpi h k j x) a b = zgl h a b := rfl
def zD_bit (D : zDt) (a : List Nat) (so : Nat) (c : List Nat) (v : Nat) : zDt := (D.1, D.2.1 ++ [(a, so, c, v, -2, -2)], D.2.2.1, D.2.2.2.1, D.2.2.2.2.1, D.2.2.2.2.2 ++ [(a, 0, D.2.1.length)])
def zD_per (D : zDt) (a : List Nat) (c v : Nat) : zDt := (D.1, D.2.1, D.2.2.1, D.2.2.2.1, D.2.2.2.2.1 ++ [(a, c, v)], D.2.2.2.2.2 ++ [(a, 1, D.2.2.2.2.1.length)])
theorem zap1 {α : Type} {l : List α} {x y : α} {i : Nat} (h : (l ++ [x])[i]? = some y) : (i < l.length ∧ l[i]? = some y) ∨ (i = l.length ∧ y = x) := by
  rcases Nat.lt_or_ge i l.length with q | q
  · rw [List.getElem?_append_left q] at h; exact Or.inl ⟨q, h⟩
  · rw [List.getElem?_append_right q] at h
    have : i - l.length = 0 := by
      rcases Nat.eq_zero_or_pos (i - l.length) with z | z
      · exact z
      · rw [List.getElem?_eq_none (by simp; omega)] at h; cases h
    rw [this] at h
    exact Or.inr ⟨by omega, by simpa using h.symm⟩
theorem zap2 {α : Type} {l : List α} {x : α} {i : Nat} {y : α} (h : l[i]? = some y) : (l ++ [x])[i]? = some y := by
  rw [List.getElem?_append_left (List.getElem?_eq_some_iff.mp h).1]; exact h
theorem zap3 {α : Type} {l : List α} {x : α} : (l ++ [x])[l.length]? = some x := by simp
theorem zlen_o {α : Type} {l : List α} {i : Nat} {y : α} (h : l[i]? = some y) : i < l.length := (List.getElem?_eq_some_iff.mp h).1
theorem zDo_bit {D : zDt} {a c : List Nat} {so v : Nat} (o : zDo D) (h6 : D.2.1.length < 6) (ht : ¬ D.1 = -1) (ha : zlt a) (hc : zlt c) (hs : so ≤ 3) (hv : v < 12) (hn : ¬ zNmd D a) : zDo (zD_bit D a so c v) := by
  obtain ⟨o1, o2, o3, o4, o5, o6, o7, o8, o9, o10, o11⟩ := o
  have hnn : ∀ (k : Nat) (x : List Nat × Nat × Nat), D.2.2.2.2.2[k]? = some x → ¬ x.1 = a := fun k x hx e => hn ⟨x, List.mem_of_getElem? hx, e⟩
  refine ⟨o1, fun z => absurd z ht, ⟨?_, o3.2.1, o3.2.2.1, o3.2.2.2.1, ?_⟩, fun i b hb => ?_, o5, o6, o7, fun k x hx => ?_, fun i b hb => ?_, fun i q hq => ?_, fun k k' x x' hx hx' he => ?_⟩
  · show (D.2.1 ++ [(a, so, c, v, -2, -2)]).length ≤ 6
    rw [List.length_append]; simp; omega
  · show (D.2.2.2.2.2 ++ [(a, 0, D.2.1.length)]).length = (D.2.1 ++ [(a, so, c, v, -2, -2)]).length + D.2.2.2.2.1.length
    rw [List.length_append, List.length_append]; have := o3.2.2.2.2; simp; omega
  · rcases zap1 hb with ⟨-, hb⟩ | ⟨-, rfl⟩
    · exact o4 i b hb
    · exact ⟨ha, hs, hc, hv, ⟨by dsimp only; omega, by dsimp only; omega⟩, by dsimp only; omega, by dsimp only; omega⟩
  · rcases zap1 hx with ⟨-, hx⟩ | ⟨-, rfl⟩
    · rcases o8 k x hx with ⟨q1, b, q2, q3⟩ | q
      · exact Or.inl ⟨q1, b, zap2 q2, q3⟩
      · exact Or.inr q
    · exact Or.inl ⟨rfl, _, zap3, rfl⟩
  · rcases zap1 hb with ⟨-, hb⟩ | ⟨hi, rfl⟩
    · obtain ⟨k, hk⟩ := o9 i b hb
      exact ⟨k, zap2 hk⟩
    · exact ⟨D.2.2.2.2.2.length, by rw [hi]; exact zap3⟩
  · obtain ⟨k, hk⟩ := o10 i q hq
    exact ⟨k, zap2 hk⟩
  · rcases zap1 hx with ⟨-, hx⟩ | ⟨hi, rfl⟩
    · rcases zap1 hx' with ⟨-, hx'⟩ | ⟨hi', rfl⟩
      · exact o11 k k' x x' hx hx' he
      · exact absurd he (hnn k x hx)
    · rcases zap1 hx' with ⟨-, hx'⟩ | ⟨hi', rfl⟩
      · exact absurd he.symm (hnn k' x' hx')
      · omega
theorem zDo_per {D : zDt} {a : List Nat} {c v : Nat} (o : zDo D) (h6 : D.2.2.2.2.1.length < 4) (ht : ¬ D.1 = -1) (ha : zlt a) (hc : c < 6) (hv : v < 12) (hn : ¬ zNmd D a) : zDo (zD_per D a c v) := by
  obtain ⟨o1, o2, o3, o4, o5, o6, o7, o8, o9, o10, o11⟩ := o
  have hnn : ∀ (k : Nat) (x : List Nat × Nat × Nat), D.2.2.2.2.2[k]? = some x → ¬ x.1 = a := fun k x hx e => hn ⟨x, List.mem_of_getElem? hx, e⟩
  refine ⟨o1, fun z => absurd z ht, ⟨o3.1, o3.2.1, o3.2.2.1, ?_, ?_⟩, o4, o5, o6, fun i b hb => ?_, fun k x hx => ?_, fun i b hb => ?_, fun i q hq => ?_, fun k k' x x' hx hx' he => ?_⟩
  · show (D.2.2.2.2.1 ++ [(a, c, v)]).length ≤ 4
    rw [List.length_append]; simp; omega
  · show (D.2.2.2.2.2 ++ [(a, 1, D.2.2.2.2.1.length)]).length = D.2.1.length + (D.2.2.2.2.1 ++ [(a, c, v)]).length
    rw [List.length_append, List.length_append]; have := o3.2.2.2.2; simp; omega
  · rcases zap1 hb with ⟨-, hb⟩ | ⟨-, rfl⟩
    · exact o7 i b hb
    · exact ⟨ha, hc, hv⟩
  · rcases zap1 hx with ⟨-, hx⟩ | ⟨-, rfl⟩
    · rcases o8 k x hx with q | ⟨q1, b, q2, q3⟩
      · exact Or.inl q
      · exact Or.inr ⟨q1, b, zap2 q2, q3⟩
    · exact Or.inr ⟨rfl, _, zap3, rfl⟩
  · obtain ⟨k, hk⟩ := o9 i b hb
    exact ⟨k, zap2 hk⟩
  · rcases zap1 hq with ⟨-, hq⟩ | ⟨hi, rfl⟩
    · obtain ⟨k, hk⟩ := o10 i q hq
      exact ⟨k, zap2 hk⟩
    · exact ⟨D.2.2.2.2.2.length, by rw [hi]; exact zap3⟩
  · rcases zap1 hx with ⟨-, hx⟩ | ⟨hi, rfl⟩
    · rcases zap1 hx' with ⟨-, hx'⟩ | ⟨hi', rfl⟩
      · exact o11 k k' x x' hx hx' he
      · exact absurd he (hnn k x hx)
    · rcases zap1 hx' with ⟨-, hx'⟩ | ⟨hi', rfl⟩
      · exact absurd he.symm (hnn k' x' hx')
      · omega
section ZCA
variable {X : Nat × (Nat → Int32)} {R : zRt} {h h' h0 h1 h2 : zHp} {d p : Nat} {T : Nat → Int} {n s : Nat} {D : zDt}
theorem cc_bitNamed {l : List Nat} (I : zRI h0 h d p T n s D) (hl : zlt l) (k : R (some (.int (zj (match zbx l D.2.1 0 with | none => -1 | some b => (b : Int))))) h) : zCC X M_X1_bitNamed [.ref d, .long (zk (zfo 256 0 l : Nat))] h R := by
  have wd := zc_pd I.w
  have dr := I.dr
  have o := I.do
  have hm : D.2.1.length ≤ 6 := o.2.2.1.1
  obtain ⟨m, em⟩ : ∃ m, D.2.1.length = m := ⟨_, rfl⟩
  have g1 : gz h d 1 = m := by rw [dr.2.1, em]
  refine zCC_of (ls := [.ref d, .long (zk (zfo 256 0 l : Nat)), .retAddr 0, .retAddr 0]) pf_X1_bitNamed rfl (Nat.le_of_ble_eq_true rfl) ?_
  refine vb_X1_bitNamed_0 _ _ _ ?_
  simp only [B_X1_bitNamed_0, oPI, oPL, oILOAD, oLLOAD, oALOAD, oISTORE, oASTORE, oLSTORE, oIINC, oIADD, oISUB, oIMUL, oIAND, oIOR, oIXOR, oIDIV, oIREM, oISHL, oISHR, oIUSHR, oLADD, oLSUB, oLMUL, oLOR, oLDIV, oLREM, oLCMP, oLSHL, oINEG, oI2L, oL2I, oI2B, oI2C, oDUP, oPOP, oDUP2, oIFEQ, oICEQ, oIFNE, oICNE, oIFLT, oICLT, oIFGE, oICGE, oIFGT, oICGT, oIFLE, oICLE, oIFNULL, oIFNONNULL, oTSW, oLSW, oGETI, oGETL, oGETR, oPUTI, oPUTZ, oPUTL, oPUTR, oIALD, oBALD, oZALD, oLALD, oAALD, oALEN, oIAST, oBAST, oZAST, oLAST, oIRET, oZRET, oLRET, oVRET, oARET, oOBJ, oINI, oPS, oNEW, oNEWAI, oNEWAB, oNEWAZ, oNEWAL, oCOPY, oINV0, oINS0, oINV1, oINS1, oINV2, oINS2, oINV3, oINS3, oINV4, oINS4, oINV5, oINS5, oINV6, oINS6, List.getElem?_cons_zero, List.getElem?_cons_succ, List.set_cons_zero, List.set_cons_succ, znl, zs4, zc1, true_and, and_self, Value.category, Option.toList, List.cons_append, List.nil_append, zvr, zp_s wd, zp_s1 wd, zp_r2 wd, zp_s2 wd, zp_r3 wd, zp_s3 wd, zp_r4 wd, zp_s4 wd, zp_r5 wd, zp_s5 wd, zp_r6 wd, zp_s6 wd, zp_r7 wd, zp_s7 wd, zp_r9 wd, zp_s8 wd, zp_r10 wd, zp_s9 wd, zp_r12 wd, zp_s10 wd, zp_r14 wd, zp_s11 wd, zp_r15 wd]
  refine zdown (m := m) (P := fun i => (∀ (j : Nat) (x : zBt), D.2.1[j]? = some x → j < i → ¬ x.1 = l) → zV X M_X1_bitNamed (zQm M_X1_bitNamed R) 0 0 2 [.ref d, .long (zk (zfo 256 0 l : Nat)), .retAddr 0, .int (zj i)] [] h) (fun i hi ih hj => ?_) 0 (by omega) (fun j x hx hj => by omega)
  refine vb_X1_bitNamed_2 _ _ _ ?_
  simp only [B_X1_bitNamed_2, oPI, oPL, oILOAD, oLLOAD, oALOAD, oISTORE, oASTORE, oLSTORE, oIINC, oIADD, oISUB, oIMUL, oIAND, oIOR, oIXOR, oIDIV, oIREM, oISHL, oISHR, oIUSHR, oLADD, oLSUB, oLMUL, oLOR, oLDIV, oLREM, oLCMP, oLSHL, oINEG, oI2L, oL2I, oI2B, oI2C, oDUP, oPOP, oDUP2, oIFEQ, oICEQ, oIFNE, oICNE, oIFLT, oICLT, oIFGE, oICGE, oIFGT, oICGT, oIFLE, oICLE, oIFNULL, oIFNONNULL, oTSW, oLSW, oGETI, oGETL, oGETR, oPUTI, oPUTZ, oPUTL, oPUTR, oIALD, oBALD, oZALD, oLALD, oAALD, oALEN, oIAST, oBAST, oZAST, oLAST, oIRET, oZRET, oLRET, oVRET, oARET, oOBJ, oINI, oPS, oNEW, oNEWAI, oNEWAB, oNEWAZ, oNEWAL, oCOPY, oINV0, oINS0, oINV1, oINS1, oINV2, oINS2, oINV3, oINS3, oINV4, oINS4, oINV5, oINS5, oINV6, oINS6, List.getElem?_cons_zero, List.getElem?_cons_succ, List.set_cons_zero, List.set_cons_succ, znl, zs4, zc1, true_and, and_self, Value.category, Option.toList, List.cons_append, List.nil_append, zvr, zp_s wd, zp_s1 wd, zp_r2 wd, zp_s2 wd, zp_r3 wd, zp_s3 wd, zp_r4 wd, zp_s4 wd, zp_r5 wd, zp_s5 wd, zp_r6 wd, zp_s6 wd, zp_r7 wd, zp_s7 wd, zp_r9 wd, zp_s8 wd, zp_r10 wd, zp_s9 wd, zp_r12 wd, zp_s10 wd, zp_r14 wd, zp_s11 wd, zp_r15 wd]
  rw [zgi_gz, g1]
  by_cases ci : i = m
  · subst ci
    rw [zbx_m (fun j y hy => hj j y hy (by have := zlen_o hy; omega))] at k
    try simp (disch := omega) only [zgi_gz, zj_cn, zj_lt, zj_le, zj_eq, zj_add, zj_sub, zj_mul, zj_neg, zj_lt0, zj_le0, zj_0le, zj_0lt, zj_eq0, zb_0, zb_z, Classical.not_not, Int.zero_add, Int.add_zero, zj_remn, zj_divn]
    refine ⟨fun _ => ?_, fun c => (by first | omega | exact absurd rfl c | exact absurd trivial c | exact absurd c (by decide))⟩
    refine vb_X1_bitNamed_29 _ _ _ ?_
    simp only [B_X1_bitNamed_29, oPI, oPL, oILOAD, oLLOAD, oALOAD, oISTORE, oASTORE, oLSTORE, oIINC, oIADD, oISUB, oIMUL, oIAND, oIOR, oIXOR, oIDIV, oIREM, oISHL, oISHR, oIUSHR, oLADD, oLSUB, oLMUL, oLOR, oLDIV, oLREM, oLCMP, oLSHL, oINEG, oI2L, oL2I, oI2B, oI2C, oDUP, oPOP, oDUP2, oIFEQ, oICEQ, oIFNE, oICNE, oIFLT, oICLT, oIFGE, oICGE, oIFGT, oICGT, oIFLE, oICLE, oIFNULL, oIFNONNULL, oTSW, oLSW, oGETI, oGETL, oGETR, oPUTI, oPUTZ, oPUTL, oPUTR, oIALD, oBALD, oZALD, oLALD, oAALD, oALEN, oIAST, oBAST, oZAST, oLAST, oIRET, oZRET, oLRET, oVRET, oARET, oOBJ, oINI, oPS, oNEW, oNEWAI, oNEWAB, oNEWAZ, oNEWAL, oCOPY, oINV0, oINS0, oINV1, oINS1, oINV2, oINS2, oINV3, oINS3, oINV4, oINS4, oINV5, oINS5, oINV6, oINS6, List.getElem?_cons_zero, List.getElem?_cons_succ, List.set_cons_zero, List.set_cons_succ, znl, zs4, zc1, true_and, and_self, Value.category, Option.toList, List.cons_append, List.nil_append, zvr]
    exact k
  obtain ⟨b, hb⟩ : ∃ b, D.2.1[i]? = some b := ⟨_, List.getElem?_eq_getElem (by omega)⟩
  have e := (dr.2.2.1 i b hb).1
  have hlb := (o.2.2.2.1 i b hb).1
  rw [zj_cn (by omega), e]
  try simp (disch := omega) only [zgi_gz, zj_cn, zj_lt, zj_le, zj_eq, zj_add, zj_sub, zj_mul, zj_neg, zj_lt0, zj_le0, zj_0le, zj_0lt, zj_eq0, zb_0, zb_z, Classical.not_not, Int.zero_add, Int.add_zero, zj_remn, zj_divn]
  simp only [z_cmp]
  refine ⟨fun c => by omega, fun _ => ⟨zj_in (by omega) (by omega) (by omega), fun c => ?_, fun c => ?_⟩⟩
  · refine vb_X1_bitNamed_23 _ _ _ ?_
    simp only [B_X1_bitNamed_23, oPI, oPL, oILOAD, oLLOAD, oALOAD, oISTORE, oASTORE, oLSTORE, oIINC, oIADD, oISUB, oIMUL, oIAND, oIOR, oIXOR, oIDIV, oIREM, oISHL, oISHR, oIUSHR, oLADD, oLSUB, oLMUL, oLOR, oLDIV, oLREM, oLCMP, oLSHL, oINEG, oI2L, oL2I, oI2B, oI2C, oDUP, oPOP, oDUP2, oIFEQ, oICEQ, oIFNE, oICNE, oIFLT, oICLT, oIFGE, oICGE, oIFGT, oICGT, oIFLE, oICLE, oIFNULL, oIFNONNULL, oTSW, oLSW, oGETI, oGETL, oGETR, oPUTI, oPUTZ, oPUTL, oPUTR, oIALD, oBALD, oZALD, oLALD, oAALD, oALEN, oIAST, oBAST, oZAST, oLAST, oIRET, oZRET, oLRET, oVRET, oARET, oOBJ, oINI, oPS, oNEW, oNEWAI, oNEWAB, oNEWAZ, oNEWAL, oCOPY, oINV0, oINS0, oINV1, oINS1, oINV2, oINS2, oINV3, oINS3, oINV4, oINS4, oINV5, oINS5, oINV6, oINS6, List.getElem?_cons_zero, List.getElem?_cons_succ, List.set_cons_zero, List.set_cons_succ, znl, zs4, zc1, true_and, and_self, Value.category, Option.toList, List.cons_append, List.nil_append, zvr]
    try simp (disch := omega) only [zgi_gz, zj_cn, zj_lt, zj_le, zj_eq, zj_add, zj_sub, zj_mul, zj_neg, zj_lt0, zj_le0, zj_0le, zj_0lt, zj_eq0, zb_0, zb_z, Classical.not_not, Int.zero_add, Int.add_zero, zj_remn, zj_divn]
    refine ih (by omega) (fun j x hx hj2 => ?_)
    by_cases e9 : j = i
    · subst e9
      cases hb.symm.trans hx
      exact fun z => c (by rw [z])
    · exact hj j x hx (by omega)
  · rw [zbx_u hb (zw8_inj hlb hl c) hj] at k
    exact k
theorem cc_isNamed {l : List Nat} (I : zRI h0 h d p T n s D) (hl : zlt l) (k : R (some (.int (zb (zNmd D l)))) h) : zCC X M_X1_isNamed [.ref d, .long (zk (zfo 256 0 l : Nat))] h R := by
  have wd := zc_pd I.w
  have dr := I.dr
  have o := I.do
  have hm : D.2.2.2.2.1.length ≤ 4 := o.2.2.1.2.2.2.1
  obtain ⟨m, em⟩ : ∃ m, D.2.2.2.2.1.length = m := ⟨_, rfl⟩
  have g1 : gz h d 13 = m := by rw [dr.2.2.2.2.2.2.2.1, em]
  refine zCC_of (ls := [.ref d, .long (zk (zfo 256 0 l : Nat)), .retAddr 0, .retAddr 0]) pf_X1_isNamed rfl (Nat.le_of_ble_eq_true rfl) ?_
  refine vb_X1_isNamed_0 _ _ _ ?_
  simp only [B_X1_isNamed_0, oPI, oPL, oILOAD, oLLOAD, oALOAD, oISTORE, oASTORE, oLSTORE, oIINC, oIADD, oISUB, oIMUL, oIAND, oIOR, oIXOR, oIDIV, oIREM, oISHL, oISHR, oIUSHR, oLADD, oLSUB, oLMUL, oLOR, oLDIV, oLREM, oLCMP, oLSHL, oINEG, oI2L, oL2I, oI2B, oI2C, oDUP, oPOP, oDUP2, oIFEQ, oICEQ, oIFNE, oICNE, oIFLT, oICLT, oIFGE, oICGE, oIFGT, oICGT, oIFLE, oICLE, oIFNULL, oIFNONNULL, oTSW, oLSW, oGETI, oGETL, oGETR, oPUTI, oPUTZ, oPUTL, oPUTR, oIALD, oBALD, oZALD, oLALD, oAALD, oALEN, oIAST, oBAST, oZAST, oLAST, oIRET, oZRET, oLRET, oVRET, oARET, oOBJ, oINI, oPS, oNEW, oNEWAI, oNEWAB, oNEWAZ, oNEWAL, oCOPY, oINV0, oINS0, oINV1, oINS1, oINV2, oINS2, oINV3, oINS3, oINV4, oINS4, oINV5, oINS5, oINV6, oINS6, List.getElem?_cons_zero, List.getElem?_cons_succ, List.set_cons_zero, List.set_cons_succ, znl, zs4, zc1, true_and, and_self, Value.category, Option.toList, List.cons_append, List.nil_append, zvr, zp_s wd, zp_s1 wd, zp_r2 wd, zp_s2 wd, zp_r3 wd, zp_s3 wd, zp_r4 wd, zp_s4 wd, zp_r5 wd, zp_s5 wd, zp_r6 wd, zp_s6 wd, zp_r7 wd, zp_s7 wd, zp_r9 wd, zp_s8 wd, zp_r10 wd, zp_s9 wd, zp_r12 wd, zp_s10 wd, zp_r14 wd, zp_s11 wd, zp_r15 wd]
  refine zdown (m := m) (P := fun i => (∀ (j : Nat) (x : List Nat × Nat × Nat), D.2.2.2.2.1[j]? = some x → j < i → ¬ x.1 = l) → zV X M_X1_isNamed (zQm M_X1_isNamed R) 0 0 2 [.ref d, .long (zk (zfo 256 0 l : Nat)), .retAddr 0, .int (zj i)] [] h) (fun i hi ih hj => ?_) 0 (by omega) (fun j x hx hj => by omega)
  refine vb_X1_isNamed_2 _ _ _ ?_
  simp only [B_X1_isNamed_2, oPI, oPL, oILOAD, oLLOAD, oALOAD, oISTORE, oASTORE, oLSTORE, oIINC, oIADD, oISUB, oIMUL, oIAND, oIOR, oIXOR, oIDIV, oIREM, oISHL, oISHR, oIUSHR, oLADD, oLSUB, oLMUL, oLOR, oLDIV, oLREM, oLCMP, oLSHL, oINEG, oI2L, oL2I, oI2B, oI2C, oDUP, oPOP, oDUP2, oIFEQ, oICEQ, oIFNE, oICNE, oIFLT, oICLT, oIFGE, oICGE, oIFGT, oICGT, oIFLE, oICLE, oIFNULL, oIFNONNULL, oTSW, oLSW, oGETI, oGETL, oGETR, oPUTI, oPUTZ, oPUTL, oPUTR, oIALD, oBALD, oZALD, oLALD, oAALD, oALEN, oIAST, oBAST, oZAST, oLAST, oIRET, oZRET, oLRET, oVRET, oARET, oOBJ, oINI, oPS, oNEW, oNEWAI, oNEWAB, oNEWAZ, oNEWAL, oCOPY, oINV0, oINS0, oINV1, oINS1, oINV2, oINS2, oINV3, oINS3, oINV4, oINS4, oINV5, oINS5, oINV6, oINS6, List.getElem?_cons_zero, List.getElem?_cons_succ, List.set_cons_zero, List.set_cons_succ, znl, zs4, zc1, true_and, and_self, Value.category, Option.toList, List.cons_append, List.nil_append, zvr, zp_s wd, zp_s1 wd, zp_r2 wd, zp_s2 wd, zp_r3 wd, zp_s3 wd, zp_r4 wd, zp_s4 wd, zp_r5 wd, zp_s5 wd, zp_r6 wd, zp_s6 wd, zp_r7 wd, zp_s7 wd, zp_r9 wd, zp_s8 wd, zp_r10 wd, zp_s9 wd, zp_r12 wd, zp_s10 wd, zp_r14 wd, zp_s11 wd, zp_r15 wd]
  rw [zgi_gz, g1]
  by_cases ci : i = m
  · subst ci
    try simp (disch := omega) only [zgi_gz, zj_cn, zj_lt, zj_le, zj_eq, zj_add, zj_sub, zj_mul, zj_neg, zj_lt0, zj_le0, zj_0le, zj_0lt, zj_eq0, zb_0, zb_z, Classical.not_not, Int.zero_add, Int.add_zero, zj_remn, zj_divn]
    refine ⟨fun _ => ?_, fun c => (by first | omega | exact absurd rfl c | exact absurd trivial c | exact absurd c (by decide))⟩
    refine vb_X1_isNamed_29 _ _ _ ?_
    simp only [B_X1_isNamed_29, oPI, oPL, oILOAD, oLLOAD, oALOAD, oISTORE, oASTORE, oLSTORE, oIINC, oIADD, oISUB, oIMUL, oIAND, oIOR, oIXOR, oIDIV, oIREM, oISHL, oISHR, oIUSHR, oLADD, oLSUB, oLMUL, oLOR, oLDIV, oLREM, oLCMP, oLSHL, oINEG, oI2L, oL2I, oI2B, oI2C, oDUP, oPOP, oDUP2, oIFEQ, oICEQ, oIFNE, oICNE, oIFLT, oICLT, oIFGE, oICGE, oIFGT, oICGT, oIFLE, oICLE, oIFNULL, oIFNONNULL, oTSW, oLSW, oGETI, oGETL, oGETR, oPUTI, oPUTZ, oPUTL, oPUTR, oIALD, oBALD, oZALD, oLALD, oAALD, oALEN, oIAST, oBAST, oZAST, oLAST, oIRET, oZRET, oLRET, oVRET, oARET, oOBJ, oINI, oPS, oNEW, oNEWAI, oNEWAB, oNEWAZ, oNEWAL, oCOPY, oINV0, oINS0, oINV1, oINS1, oINV2, oINS2, oINV3, oINS3, oINV4, oINS4, oINV5, oINS5, oINV6, oINS6, List.getElem?_cons_zero, List.getElem?_cons_succ, List.set_cons_zero, List.set_cons_succ, znl, zs4, zc1, true_and, and_self, Value.category, Option.toList, List.cons_append, List.nil_append, zvr, zp_s wd, zp_s1 wd, zp_r2 wd, zp_s2 wd, zp_r3 wd, zp_s3 wd, zp_r4 wd, zp_s4 wd, zp_r5 wd, zp_s5 wd, zp_r6 wd, zp_s6 wd, zp_r7 wd, zp_s7 wd, zp_r9 wd, zp_s8 wd, zp_r10 wd, zp_s9 wd, zp_r12 wd, zp_s10 wd, zp_r14 wd, zp_s11 wd, zp_r15 wd]
    refine cc_bitNamed I hl ?_
    have hbb : (match zbx l D.2.1 0 with | none => (-1 : Int) | some b => (b : Int)) = -1 ↔ ¬ zNmd D l := by
      cases hz : zbx l D.2.1 0 with
      | none =>
        refine ⟨fun _ => ?_, fun _ => rfl⟩
        rintro ⟨x, hx, e⟩
        obtain ⟨kk, hk⟩ := List.getElem?_of_mem hx
        rcases o.2.2.2.2.2.2.2.1 kk x hk with ⟨-, b, q2, q3⟩ | ⟨-, q, q2, q3⟩
        · exact zbx_n _ _ hz _ b q2 (q3.trans e)
        · exact hj _ q q2 (by have := zlen_o q2; omega) (q3.trans e)
      | some b =>
        have := zbx_s _ _ _ hz
        refine ⟨fun z => by dsimp only at z; omega, fun z => ?_⟩
        obtain ⟨x, q2, q3⟩ := this.2.2.1
        obtain ⟨kk, hk⟩ := o.2.2.2.2.2.2.2.2.1 _ x q2
        exact absurd ⟨_, List.mem_of_getElem? hk, q3⟩ z
    have hb6 : -1 ≤ (match zbx l D.2.1 0 with | none => (-1 : Int) | some b => (b : Int)) ∧ (match zbx l D.2.1 0 with | none => (-1 : Int) | some b => (b : Int)) < 10 := by
      cases hz : zbx l D.2.1 0 with
      | none => exact ⟨by dsimp only; omega, by dsimp only; omega⟩
      | some b =>
        have := zbx_s _ _ _ hz
        have h6 := o.2.2.1.1
        exact ⟨by dsimp only; omega, by dsimp only; omega⟩
    obtain ⟨B, hB⟩ : ∃ B, (match zbx l D.2.1 0 with | none => (-1 : Int) | some b => (b : Int)) = B := ⟨_, rfl⟩
    rw [hB] at hbb hb6 ⊢
    simp only [oPI, oPL, oILOAD, oLLOAD, oALOAD, oISTORE, oASTORE, oLSTORE, oIINC, oIADD, oISUB, oIMUL, oIAND, oIOR, oIXOR, oIDIV, oIREM, oISHL, oISHR, oIUSHR, oLADD, oLSUB, oLMUL, oLOR, oLDIV, oLREM, oLCMP, oLSHL, oINEG, oI2L, oL2I, oI2B, oI2C, oDUP, oPOP, oDUP2, oIFEQ, oICEQ, oIFNE, oICNE, oIFLT, oICLT, oIFGE, oICGE, oIFGT, oICGT, oIFLE, oICLE, oIFNULL, oIFNONNULL, oTSW, oLSW, oGETI, oGETL, oGETR, oPUTI, oPUTZ, oPUTL, oPUTR, oIALD, oBALD, oZALD, oLALD, oAALD, oALEN, oIAST, oBAST, oZAST, oLAST, oIRET, oZRET, oLRET, oVRET, oARET, oOBJ, oINI, oPS, oNEW, oNEWAI, oNEWAB, oNEWAZ, oNEWAL, oCOPY, oINV0, oINS0, oINV1, oINS1, oINV2, oINS2, oINV3, oINS3, oINV4, oINS4, oINV5, oINS5, oINV6, oINS6, List.getElem?_cons_zero, List.getElem?_cons_succ, List.set_cons_zero, List.set_cons_succ, znl, zs4, zc1, true_and, and_self, Value.category, Option.toList, List.cons_append, List.nil_append, zvr]
    try simp (disch := omega) only [zgi_gz, zj_cn, zj_lt, zj_le, zj_eq, zj_add, zj_sub, zj_mul, zj_neg, zj_lt0, zj_le0, zj_0le, zj_0lt, zj_eq0, zb_0, zb_z, Classical.not_not, Int.zero_add, Int.add_zero, zj_remn, zj_divn]
    refine ⟨fun c => ?_, fun c => ?_⟩
    · rw [zb_f (hbb.mp c)] at k
      refine vb_X1_isNamed_42 _ _ _ ?_
      simp only [B_X1_isNamed_42, oPI, oPL, oILOAD, oLLOAD, oALOAD, oISTORE, oASTORE, oLSTORE, oIINC, oIADD, oISUB, oIMUL, oIAND, oIOR, oIXOR, oIDIV, oIREM, oISHL, oISHR, oIUSHR, oLADD, oLSUB, oLMUL, oLOR, oLDIV, oLREM, oLCMP, oLSHL, oINEG, oI2L, oL2I, oI2B, oI2C, oDUP, oPOP, oDUP2, oIFEQ, oICEQ, oIFNE, oICNE, oIFLT, oICLT, oIFGE, oICGE, oIFGT, oICGT, oIFLE, oICLE, oIFNULL, oIFNONNULL, oTSW, oLSW, oGETI, oGETL, oGETR, oPUTI, oPUTZ, oPUTL, oPUTR, oIALD, oBALD, oZALD, oLALD, oAALD, oALEN, oIAST, oBAST, oZAST, oLAST, oIRET, oZRET, oLRET, oVRET, oARET, oOBJ, oINI, oPS, oNEW, oNEWAI, oNEWAB, oNEWAZ, oNEWAL, oCOPY, oINV0, oINS0, oINV1, oINS1, oINV2, oINS2, oINV3, oINS3, oINV4, oINS4, oINV5, oINS5, oINV6, oINS6, List.getElem?_cons_zero, List.getElem?_cons_succ, List.set_cons_zero, List.set_cons_succ, znl, zs4, zc1, true_and, and_self, Value.category, Option.toList, List.cons_append, List.nil_append, zvr]
      refine vb_X1_isNamed_43 _ _ _ ?_
      simp only [B_X1_isNamed_43, oPI, oPL, oILOAD, oLLOAD, oALOAD, oISTORE, oASTORE, oLSTORE, oIINC, oIADD, oISUB, oIMUL, oIAND, oIOR, oIXOR, oIDIV, oIREM, oISHL, oISHR, oIUSHR, oLADD, oLSUB, oLMUL, oLOR, oLDIV, oLREM, oLCMP, oLSHL, oINEG, oI2L, oL2I, oI2B, oI2C, oDUP, oPOP, oDUP2, oIFEQ, oICEQ, oIFNE, oICNE, oIFLT, oICLT, oIFGE, oICGE, oIFGT, oICGT, oIFLE, oICLE, oIFNULL, oIFNONNULL, oTSW, oLSW, oGETI, oGETL, oGETR, oPUTI, oPUTZ, oPUTL, oPUTR, oIALD, oBALD, oZALD, oLALD, oAALD, oALEN, oIAST, oBAST, oZAST, oLAST, oIRET, oZRET, oLRET, oVRET, oARET, oOBJ, oINI, oPS, oNEW, oNEWAI, oNEWAB, oNEWAZ, oNEWAL, oCOPY, oINV0, oINS0, oINV1, oINS1, oINV2, oINS2, oINV3, oINS3, oINV4, oINS4, oINV5, oINS5, oINV6, oINS6, List.getElem?_cons_zero, List.getElem?_cons_succ, List.set_cons_zero, List.set_cons_succ, znl, zs4, zc1, true_and, and_self, Value.category, Option.toList, List.cons_append, List.nil_append, zvr]
      exact ⟨(by first | exact Or.inl rfl | exact Or.inr rfl | simp), k⟩
    · rw [zb_t (Classical.not_not.mp (fun z => c (hbb.mpr z)))] at k
      refine vb_X1_isNamed_43 _ _ _ ?_
      simp only [B_X1_isNamed_43, oPI, oPL, oILOAD, oLLOAD, oALOAD, oISTORE, oASTORE, oLSTORE, oIINC, oIADD, oISUB, oIMUL, oIAND, oIOR, oIXOR, oIDIV, oIREM, oISHL, oISHR, oIUSHR, oLADD, oLSUB, oLMUL, oLOR, oLDIV, oLREM, oLCMP, oLSHL, oINEG, oI2L, oL2I, oI2B, oI2C, oDUP, oPOP, oDUP2, oIFEQ, oICEQ, oIFNE, oICNE, oIFLT, oICLT, oIFGE, oICGE, oIFGT, oICGT, oIFLE, oICLE, oIFNULL, oIFNONNULL, oTSW, oLSW, oGETI, oGETL, oGETR, oPUTI, oPUTZ, oPUTL, oPUTR, oIALD, oBALD, oZALD, oLALD, oAALD, oALEN, oIAST, oBAST, oZAST, oLAST, oIRET, oZRET, oLRET, oVRET, oARET, oOBJ, oINI, oPS, oNEW, oNEWAI, oNEWAB, oNEWAZ, oNEWAL, oCOPY, oINV0, oINS0, oINV1, oINS1, oINV2, oINS2, oINV3, oINS3, oINV4, oINS4, oINV5, oINS5, oINV6, oINS6, List.getElem?_cons_zero, List.getElem?_cons_succ, List.set_cons_zero, List.set_cons_succ, znl, zs4, zc1, true_and, and_self, Value.category, Option.toList, List.cons_append, List.nil_append, zvr]
      exact ⟨(by first | exact Or.inl rfl | exact Or.inr rfl | simp), k⟩
  obtain ⟨b, hb⟩ : ∃ b, D.2.2.2.2.1[i]? = some b := ⟨_, List.getElem?_eq_getElem (by omega)⟩
  have e := (dr.2.2.2.2.2.2.2.2 i b hb).1
  have hlb := (o.2.2.2.2.2.2.1 i b hb).1
  rw [zj_cn (by omega), e]
  try simp (disch := omega) only [zgi_gz, zj_cn, zj_lt, zj_le, zj_eq, zj_add, zj_sub, zj_mul, zj_neg, zj_lt0, zj_le0, zj_0le, zj_0lt, zj_eq0, zb_0, zb_z, Classical.not_not, Int.zero_add, Int.add_zero, zj_remn, zj_divn]
  simp only [z_cmp]
  refine ⟨fun c => by omega, fun _ => ⟨zj_in (by omega) (by omega) (by omega), fun c => ?_, fun c => ?_⟩⟩
  · refine vb_X1_isNamed_23 _ _ _ ?_
    simp only [B_X1_isNamed_23, oPI, oPL, oILOAD, oLLOAD, oALOAD, oISTORE, oASTORE, oLSTORE, oIINC, oIADD, oISUB, oIMUL, oIAND, oIOR, oIXOR, oIDIV, oIREM, oISHL, oISHR, oIUSHR, oLADD, oLSUB, oLMUL, oLOR, oLDIV, oLREM, oLCMP, oLSHL, oINEG, oI2L, oL2I, oI2B, oI2C, oDUP, oPOP, oDUP2, oIFEQ, oICEQ, oIFNE, oICNE, oIFLT, oICLT, oIFGE, oICGE, oIFGT, oICGT, oIFLE, oICLE, oIFNULL, oIFNONNULL, oTSW, oLSW, oGETI, oGETL, oGETR, oPUTI, oPUTZ, oPUTL, oPUTR, oIALD, oBALD, oZALD, oLALD, oAALD, oALEN, oIAST, oBAST, oZAST, oLAST, oIRET, oZRET, oLRET, oVRET, oARET, oOBJ, oINI, oPS, oNEW, oNEWAI, oNEWAB, oNEWAZ, oNEWAL, oCOPY, oINV0, oINS0, oINV1, oINS1, oINV2, oINS2, oINV3, oINS3, oINV4, oINS4, oINV5, oINS5, oINV6, oINS6, List.getElem?_cons_zero, List.getElem?_cons_succ, List.set_cons_zero, List.set_cons_succ, znl, zs4, zc1, true_and, and_self, Value.category, Option.toList, List.cons_append, List.nil_append, zvr]
    try simp (disch := omega) only [zgi_gz, zj_cn, zj_lt, zj_le, zj_eq, zj_add, zj_sub, zj_mul, zj_neg, zj_lt0, zj_le0, zj_0le, zj_0lt, zj_eq0, zb_0, zb_z, Classical.not_not, Int.zero_add, Int.add_zero, zj_remn, zj_divn]
    refine ih (by omega) (fun j x hx hj2 => ?_)
    by_cases e9 : j = i
    · subst e9
      cases hb.symm.trans hx
      exact fun z => c (by rw [z])
    · exact hj j x hx (by omega)
  · have e9 := zw8_inj hlb hl c
    obtain ⟨kk, hk⟩ := o.2.2.2.2.2.2.2.2.2.1 i b hb
    rw [zb_t ⟨_, List.mem_of_getElem? hk, e9⟩] at k
    exact ⟨(by first | exact Or.inl rfl | exact Or.inr rfl | simp), k⟩
end ZCA
