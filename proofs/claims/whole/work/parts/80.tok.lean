/-! tokens of a text -/
def tk_n (x : Int) : Nat := if 97 ≤ x ∧ x ≤ 122 then 1 else if 48 ≤ x ∧ x ≤ 57 then 2 else if x = 59 then 3 else 4
theorem tk_n_b (x : Int) : 1 ≤ tk_n x ∧ tk_n x ≤ 4 := by unfold tk_n; (repeat' split) <;> omega
def tk_c (T : Nat → Int) (n : Nat) : Nat → Nat → Nat
  | 0, i => i
  | f + 1, i => if i < n ∧ T i = 32 then tk_c T n f (i + 1) else i
def tk_r (T : Nat → Int) (n K : Nat) : Nat → Nat → Nat
  | 0, i => i
  | f + 1, i => if i < n ∧ tk_n (T i) = K then tk_r T n K f (i + 1) else i
theorem tk_c_b {T : Nat → Int} {n : Nat} : ∀ f i, i ≤ n → n ≤ i + f → i ≤ tk_c T n f i ∧ tk_c T n f i ≤ n ∧ (tk_c T n f i < n → ¬ T (tk_c T n f i) = 32)
  | 0, i, h1, h2 => ⟨Nat.le_refl _, h1, fun h => by have h : i < n := h; omega⟩
  | f + 1, i, h1, h2 => by
    unfold tk_c
    by_cases c : i < n ∧ T i = 32
    · rw [if_pos c]
      have ih := tk_c_b (T := T) (n := n) f (i + 1) (by omega) (by omega)
      exact ⟨by omega, ih.2.1, ih.2.2⟩
    · rw [if_neg c]
      exact ⟨Nat.le_refl _, h1, fun h z => c ⟨h, z⟩⟩
theorem tk_c_s {T : Nat → Int} {n f i : Nat} (h1 : i < n) (h2 : T i = 32) (h3 : n ≤ i + f) : tk_c T n f i = tk_c T n (f - 1) (i + 1) := by
  obtain ⟨f, rfl⟩ : ∃ g, f = g + 1 := ⟨f - 1, by omega⟩
  show (if i < n ∧ T i = 32 then _ else _) = _
  rw [if_pos ⟨h1, h2⟩]
  rfl
theorem tk_c_e {T : Nat → Int} {n f i : Nat} (h : ¬ (i < n ∧ T i = 32)) : tk_c T n f i = i := by
  cases f with
  | zero => rfl
  | succ f => exact if_neg h
theorem tk_r_b {T : Nat → Int} {n K : Nat} : ∀ f i, i ≤ n → n ≤ i + f → i ≤ tk_r T n K f i ∧ tk_r T n K f i ≤ n ∧ (tk_r T n K f i < n → ¬ tk_n (T (tk_r T n K f i)) = K) ∧ (∀ m, i ≤ m → m < tk_r T n K f i → tk_n (T m) = K)
  | 0, i, h1, h2 => ⟨Nat.le_refl _, h1, fun h => by have h : i < n := h; omega, fun m q1 q2 => by have q2 : m < i := q2; omega⟩
  | f + 1, i, h1, h2 => by
    unfold tk_r
    by_cases c : i < n ∧ tk_n (T i) = K
    · rw [if_pos c]
      have ih := tk_r_b (T := T) (n := n) (K := K) f (i + 1) (by omega) (by omega)
      refine ⟨by omega, ih.2.1, ih.2.2.1, fun m q1 q2 => ?_⟩
      by_cases e : m = i
      · rw [e]; exact c.2
      · exact ih.2.2.2 m (by omega) q2
    · rw [if_neg c]
      exact ⟨Nat.le_refl _, h1, fun h z => c ⟨h, z⟩, fun m q1 q2 => by omega⟩
theorem tk_r_u {T : Nat → Int} {n K f i j : Nat} (h1 : i ≤ j) (h2 : j ≤ n) (h3 : n ≤ i + f) (h4 : ∀ m, i ≤ m → m < j → tk_n (T m) = K) (h5 : j < n → ¬ tk_n (T j) = K) : tk_r T n K f i = j := by
  have hb := tk_r_b (T := T) (n := n) (K := K) f i (by omega) h3
  rcases Nat.lt_trichotomy (tk_r T n K f i) j with q | q | q
  · exact absurd (h4 _ hb.1 q) (hb.2.2.1 (by omega))
  · exact q
  · exact absurd (hb.2.2.2 j h1 q) (h5 (by omega))
def tk_p (T : Nat → Int) (n s : Nat) : Nat := tk_c T n n s
def tk_e (T : Nat → Int) (n s : Nat) : Nat := if n ≤ tk_p T n s then tk_p T n s else if tk_n (T (tk_p T n s)) ≤ 2 then tk_r T n (tk_n (T (tk_p T n s))) n (tk_p T n s) else tk_p T n s + 1
def tk_d (T : Nat → Int) (n s : Nat) : Nat := if n ≤ tk_p T n s then 0 else if tk_n (T (tk_p T n s)) = 1 ∧ 8 < tk_e T n s - tk_p T n s then 4 else if tk_n (T (tk_p T n s)) = 2 ∧ 3 < tk_e T n s - tk_p T n s then 4 else tk_n (T (tk_p T n s))
def tk_s (T : Nat → Int) (i j : Nat) : List Nat := (List.range (j - i)).map (fun k => (T (i + k)).toNat)
def tk_w (T : Nat → Int) (n s : Nat) : List Nat := tk_s T (tk_p T n s) (tk_e T n s)
def tk_v (T : Nat → Int) (n s : Nat) : Nat := zfo 10 48 (tk_s T (tk_p T n s) (tk_e T n s))
theorem tk_s_s {T : Nat → Int} {i j : Nat} (h : i ≤ j) : tk_s T i (j + 1) = tk_s T i j ++ [(T j).toNat] := by
  unfold tk_s
  rw [show j + 1 - i = (j - i) + 1 by omega, List.range_succ, List.map_append, List.map_singleton, show i + (j - i) = j by omega]
theorem tk_s_0 {T : Nat → Int} {i : Nat} : tk_s T i i = [] := by unfold tk_s; rw [Nat.sub_self]; rfl
theorem tk_s_len {T : Nat → Int} {i j : Nat} : (tk_s T i j).length = j - i := by unfold tk_s; rw [List.length_map, List.length_range]
theorem tk_s_mem {T : Nat → Int} {i j c : Nat} (h : c ∈ tk_s T i j) : ∃ m, i ≤ m ∧ m < j ∧ c = (T m).toNat := by
  unfold tk_s at h
  obtain ⟨k, h1, h2⟩ := List.mem_map.mp h
  have := List.mem_range.mp h1
  exact ⟨i + k, by omega, by omega, h2.symm⟩
theorem tk_n_1 {x : Int} : tk_n x = 1 ↔ 97 ≤ x ∧ x ≤ 122 := by unfold tk_n; (repeat' split) <;> omega
theorem tk_n_2 {x : Int} : tk_n x = 2 ↔ 48 ≤ x ∧ x ≤ 57 := by unfold tk_n; (repeat' split) <;> omega
theorem tk_n_3 {x : Int} : tk_n x = 3 ↔ x = 59 := by unfold tk_n; (repeat' split) <;> omega
section ZTK
variable {T : Nat → Int} {n s : Nat}
theorem tk_p_b (hs : s ≤ n) : s ≤ tk_p T n s ∧ tk_p T n s ≤ n := ⟨(tk_c_b n s hs (by omega)).1, (tk_c_b n s hs (by omega)).2.1⟩
theorem tk_e_b (hs : s ≤ n) : tk_p T n s ≤ tk_e T n s ∧ tk_e T n s ≤ n ∧ (tk_p T n s < n → tk_p T n s < tk_e T n s) := by
  have hp := tk_p_b (T := T) hs
  unfold tk_e
  by_cases c : n ≤ tk_p T n s
  · rw [if_pos c]; exact ⟨Nat.le_refl _, hp.2, fun h => by omega⟩
  · rw [if_neg c]
    split
    · have hb := tk_r_b (T := T) (n := n) (K := tk_n (T (tk_p T n s))) n (tk_p T n s) hp.2 (by omega)
      refine ⟨hb.1, hb.2.1, fun _ => ?_⟩
      rcases Nat.lt_or_ge (tk_p T n s) (tk_r T n (tk_n (T (tk_p T n s))) n (tk_p T n s)) with q | q
      · exact q
      · have e : tk_r T n (tk_n (T (tk_p T n s))) n (tk_p T n s) = tk_p T n s := by omega
        have := hb.2.2.1 (by omega)
        rw [e] at this
        exact absurd rfl this
    · omega
/-- what a word's letters are -/
theorem tk_d_1 (hs : s ≤ n) (h : tk_d T n s = 1) : zlt (tk_w T n s) := by
  have hp := tk_p_b (T := T) hs
  have he := tk_e_b (T := T) hs
  have hk := tk_n_b (T (tk_p T n s))
  unfold tk_d at h
  have c1 : ¬ n ≤ tk_p T n s := fun c => by rw [if_pos c] at h; omega
  rw [if_neg c1] at h
  by_cases c2 : tk_n (T (tk_p T n s)) = 1 ∧ 8 < tk_e T n s - tk_p T n s
  · rw [if_pos c2] at h; omega
  · rw [if_neg c2] at h
    have e1 : tk_n (T (tk_p T n s)) = 1 := by
      by_cases c3 : tk_n (T (tk_p T n s)) = 2 ∧ 3 < tk_e T n s - tk_p T n s
      · rw [if_pos c3] at h; omega
      · rw [if_neg c3] at h; exact h
    have ee : tk_e T n s = tk_r T n 1 n (tk_p T n s) := by unfold tk_e; rw [if_neg c1, e1, if_pos (by omega)]
    have hb := tk_r_b (T := T) (n := n) (K := 1) n (tk_p T n s) hp.2 (by omega)
    refine ⟨fun z => ?_, ?_, fun c hc => ?_⟩
    · have := congrArg List.length z
      unfold tk_w at this
      rw [tk_s_len] at this
      have := he.2.2 (by omega)
      simp at *
      omega
    · unfold tk_w
      rw [tk_s_len]
      omega
    · obtain ⟨m, q1, q2, q3⟩ := tk_s_mem hc
      rw [ee] at q2
      have := tk_n_1.mp (hb.2.2.2 m q1 q2)
      omega
theorem tk_d_2 (hs : s ≤ n) (h : tk_d T n s = 2) : (tk_w T n s).length ≤ 3 ∧ ∀ c ∈ tk_w T n s, 48 ≤ c ∧ c ≤ 57 := by
  have hp := tk_p_b (T := T) hs
  have hk := tk_n_b (T (tk_p T n s))
  unfold tk_d at h
  have c1 : ¬ n ≤ tk_p T n s := fun c => by rw [if_pos c] at h; omega
  rw [if_neg c1] at h
  by_cases c2 : tk_n (T (tk_p T n s)) = 1 ∧ 8 < tk_e T n s - tk_p T n s
  · rw [if_pos c2] at h; omega
  · rw [if_neg c2] at h
    by_cases c3 : tk_n (T (tk_p T n s)) = 2 ∧ 3 < tk_e T n s - tk_p T n s
    · rw [if_pos c3] at h; omega
    · rw [if_neg c3] at h
      have ee : tk_e T n s = tk_r T n 2 n (tk_p T n s) := by unfold tk_e; rw [if_neg c1, h, if_pos (by omega)]
      have hb := tk_r_b (T := T) (n := n) (K := 2) n (tk_p T n s) hp.2 (by omega)
      refine ⟨?_, fun c hc => ?_⟩
      · unfold tk_w; rw [tk_s_len]; omega
      · obtain ⟨m, q1, q2, q3⟩ := tk_s_mem hc
        rw [ee] at q2
        have := tk_n_2.mp (hb.2.2.2 m q1 q2)
        omega
theorem zfo10 : ∀ l : List Nat, l.length ≤ 3 → (∀ c ∈ l, 48 ≤ c ∧ c ≤ 57) → zfo 10 48 l < 1000 := fun l h1 h2 => by
  have := zfo_lt 10 48 (by omega) l.length l rfl (fun c hc => by have := h2 c hc; omega)
  have h3 : 10 ^ l.length ≤ 10 ^ 3 := Nat.pow_le_pow_right (by omega) h1
  omega
theorem tk_v_b (hs : s ≤ n) (h : tk_d T n s = 2) : tk_v T n s < 1000 := zfo10 _ (tk_d_2 hs h).1 (tk_d_2 hs h).2
end ZTK
section ZTL
variable {X : Nat × (Nat → Int32)} {R : zRt} {h h' h1 h2 : zHp} {d p : Nat} {T : Nat → Int} {n s : Nat}
theorem zCW.mr (w : zCW h d p) (e1 : h'.1 = h.1) (e2 : h'.2.2.2 = h.2.2.2) : zCW h' d p := by
  unfold zCW zPlan at w ⊢
  unfold zsh zgr at w ⊢
  rw [e1, e2]
  exact w
theorem zMW.mr (w : zMW h) (e1 : h'.1 = h.1) (e2 : h'.2.2.2 = h.2.2.2) : zMW h' := by
  unfold zMW at w ⊢
  unfold zsh zgr at w ⊢
  rw [e1, e2]
  exact w
/-- the class's tape behind its next token -/
def zNx (h h' : zHp) (T : Nat → Int) (n s : Nat) : Prop := h'.1 = h.1 ∧ h'.2.2.2 = h.2.2.2 ∧ (∀ x y, ¬ (x = 18 ∧ 3 ≤ y ∧ y ≤ 7) → zgi h' x y = zgi h x y) ∧ (∀ x y, ¬ (x = 18 ∧ y = 6) → zgl h' x y = zgl h x y) ∧ gz h' 18 3 = tk_e T n s ∧ gz h' 18 4 = tk_d T n s ∧ gz h' 18 5 = tk_p T n s ∧ (tk_d T n s = 1 → zgl h' 18 6 = zk (zfo 256 0 (tk_w T n s) : Nat)) ∧ (tk_d T n s = 2 → gz h' 18 7 = tk_v T n s)
theorem cc_kindOf {x : Int} (h1 : -128 ≤ x) (h2 : x ≤ 127) (k : R (some (.int (zj (tk_n x : Nat)))) h) : zCC X M_X6_kindOf [.int (zj x)] h R := by
  unfold tk_n at k
  refine zCC_of (ls := [.int (zj x)]) pf_X6_kindOf rfl (Nat.le_of_ble_eq_true rfl) ?_
  refine vb_X6_kindOf_0 _ _ _ ?_
  simp only [B_X6_kindOf_0, oPI, oPL, oILOAD, oLLOAD, oALOAD, oISTORE, oASTORE, oLSTORE, oIINC, oIADD, oISUB, oIMUL, oIAND, oIOR, oIXOR, oIDIV, oIREM, oISHL, oISHR, oIUSHR, oLADD, oLSUB, oLMUL, oLOR, oLDIV, oLREM, oLCMP, oLSHL, oINEG, oI2L, oL2I, oI2B, oI2C, oDUP, oPOP, oDUP2, oIFEQ, oICEQ, oIFNE, oICNE, oIFLT, oICLT, oIFGE, oICGE, oIFGT, oICGT, oIFLE, oICLE, oIFNULL, oIFNONNULL, oTSW, oLSW, oGETI, oGETL, oGETR, oPUTI, oPUTZ, oPUTL, oPUTR, oIALD, oBALD, oZALD, oLALD, oAALD, oALEN, oIAST, oBAST, oZAST, oLAST, oIRET, oZRET, oLRET, oVRET, oARET, oOBJ, oINI, oPS, oNEW, oNEWAI, oNEWAB, oNEWAZ, oNEWAL, oCOPY, oINV0, oINS0, oINV1, oINS1, oINV2, oINS2, oINV3, oINS3, oINV4, oINS4, oINV5, oINS5, oINV6, oINS6, List.getElem?_cons_zero, List.getElem?_cons_succ, List.set_cons_zero, List.set_cons_succ, znl, zs4, zc1, true_and, and_self, Value.category, Option.toList, List.cons_append, List.nil_append, zvr]
  try simp (disch := omega) only [zgi_gz, zj_cn, zj_lt, zj_le, zj_eq, zj_add, zj_sub, zj_mul, zj_neg, zj_lt0, zj_le0, zj_0le, zj_0lt, zj_eq0, zb_0, zb_z, Classical.not_not, Int.zero_add, Int.add_zero, zj_remn, zj_divn]
  have n28 : ¬ (97 ≤ x ∧ x ≤ 122) → ¬ (48 ≤ x ∧ x ≤ 57) → zV X M_X6_kindOf (zQm M_X6_kindOf R) 0 0 28 [.int (zj x)] [] h := fun q1 q2 => by
    rw [if_neg q1, if_neg q2] at k
    refine vb_X6_kindOf_28 _ _ _ ?_
    simp only [B_X6_kindOf_28, oPI, oPL, oILOAD, oLLOAD, oALOAD, oISTORE, oASTORE, oLSTORE, oIINC, oIADD, oISUB, oIMUL, oIAND, oIOR, oIXOR, oIDIV, oIREM, oISHL, oISHR, oIUSHR, oLADD, oLSUB, oLMUL, oLOR, oLDIV, oLREM, oLCMP, oLSHL, oINEG, oI2L, oL2I, oI2B, oI2C, oDUP, oPOP, oDUP2, oIFEQ, oICEQ, oIFNE, oICNE, oIFLT, oICLT, oIFGE, oICGE, oIFGT, oICGT, oIFLE, oICLE, oIFNULL, oIFNONNULL, oTSW, oLSW, oGETI, oGETL, oGETR, oPUTI, oPUTZ, oPUTL, oPUTR, oIALD, oBALD, oZALD, oLALD, oAALD, oALEN, oIAST, oBAST, oZAST, oLAST, oIRET, oZRET, oLRET, oVRET, oARET, oOBJ, oINI, oPS, oNEW, oNEWAI, oNEWAB, oNEWAZ, oNEWAL, oCOPY, oINV0, oINS0, oINV1, oINS1, oINV2, oINS2, oINV3, oINS3, oINV4, oINS4, oINV5, oINS5, oINV6, oINS6, List.getElem?_cons_zero, List.getElem?_cons_succ, List.set_cons_zero, List.set_cons_succ, znl, zs4, zc1, true_and, and_self, Value.category, Option.toList, List.cons_append, List.nil_append, zvr]
    try simp (disch := omega) only [zgi_gz, zj_cn, zj_lt, zj_le, zj_eq, zj_add, zj_sub, zj_mul, zj_neg, zj_lt0, zj_le0, zj_0le, zj_0lt, zj_eq0, zb_0, zb_z, Classical.not_not, Int.zero_add, Int.add_zero, zj_remn, zj_divn]
    refine ⟨fun c => ?_, fun c => ?_⟩
    · rw [if_neg c] at k
      refine vb_X6_kindOf_38 _ _ _ ?_
      simp only [B_X6_kindOf_38, oPI, oPL, oILOAD, oLLOAD, oALOAD, oISTORE, oASTORE, oLSTORE, oIINC, oIADD, oISUB, oIMUL, oIAND, oIOR, oIXOR, oIDIV, oIREM, oISHL, oISHR, oIUSHR, oLADD, oLSUB, oLMUL, oLOR, oLDIV, oLREM, oLCMP, oLSHL, oINEG, oI2L, oL2I, oI2B, oI2C, oDUP, oPOP, oDUP2, oIFEQ, oICEQ, oIFNE, oICNE, oIFLT, oICLT, oIFGE, oICGE, oIFGT, oICGT, oIFLE, oICLE, oIFNULL, oIFNONNULL, oTSW, oLSW, oGETI, oGETL, oGETR, oPUTI, oPUTZ, oPUTL, oPUTR, oIALD, oBALD, oZALD, oLALD, oAALD, oALEN, oIAST, oBAST, oZAST, oLAST, oIRET, oZRET, oLRET, oVRET, oARET, oOBJ, oINI, oPS, oNEW, oNEWAI, oNEWAB, oNEWAZ, oNEWAL, oCOPY, oINV0, oINS0, oINV1, oINS1, oINV2, oINS2, oINV3, oINS3, oINV4, oINS4, oINV5, oINS5, oINV6, oINS6, List.getElem?_cons_zero, List.getElem?_cons_succ, List.set_cons_zero, List.set_cons_succ, znl, zs4, zc1, true_and, and_self, Value.category, Option.toList, List.cons_append, List.nil_append, zvr]
      refine vb_X6_kindOf_39 _ _ _ ?_
      simp only [B_X6_kindOf_39, oPI, oPL, oILOAD, oLLOAD, oALOAD, oISTORE, oASTORE, oLSTORE, oIINC, oIADD, oISUB, oIMUL, oIAND, oIOR, oIXOR, oIDIV, oIREM, oISHL, oISHR, oIUSHR, oLADD, oLSUB, oLMUL, oLOR, oLDIV, oLREM, oLCMP, oLSHL, oINEG, oI2L, oL2I, oI2B, oI2C, oDUP, oPOP, oDUP2, oIFEQ, oICEQ, oIFNE, oICNE, oIFLT, oICLT, oIFGE, oICGE, oIFGT, oICGT, oIFLE, oICLE, oIFNULL, oIFNONNULL, oTSW, oLSW, oGETI, oGETL, oGETR, oPUTI, oPUTZ, oPUTL, oPUTR, oIALD, oBALD, oZALD, oLALD, oAALD, oALEN, oIAST, oBAST, oZAST, oLAST, oIRET, oZRET, oLRET, oVRET, oARET, oOBJ, oINI, oPS, oNEW, oNEWAI, oNEWAB, oNEWAZ, oNEWAL, oCOPY, oINV0, oINS0, oINV1, oINS1, oINV2, oINS2, oINV3, oINS3, oINV4, oINS4, oINV5, oINS5, oINV6, oINS6, List.getElem?_cons_zero, List.getElem?_cons_succ, List.set_cons_zero, List.set_cons_succ, znl, zs4, zc1, true_and, and_self, Value.category, Option.toList, List.cons_append, List.nil_append, zvr]
      exact k
    · rw [if_pos c] at k
      refine vb_X6_kindOf_39 _ _ _ ?_
      simp only [B_X6_kindOf_39, oPI, oPL, oILOAD, oLLOAD, oALOAD, oISTORE, oASTORE, oLSTORE, oIINC, oIADD, oISUB, oIMUL, oIAND, oIOR, oIXOR, oIDIV, oIREM, oISHL, oISHR, oIUSHR, oLADD, oLSUB, oLMUL, oLOR, oLDIV, oLREM, oLCMP, oLSHL, oINEG, oI2L, oL2I, oI2B, oI2C, oDUP, oPOP, oDUP2, oIFEQ, oICEQ, oIFNE, oICNE, oIFLT, oICLT, oIFGE, oICGE, oIFGT, oICGT, oIFLE, oICLE, oIFNULL, oIFNONNULL, oTSW, oLSW, oGETI, oGETL, oGETR, oPUTI, oPUTZ, oPUTL, oPUTR, oIALD, oBALD, oZALD, oLALD, oAALD, oALEN, oIAST, oBAST, oZAST, oLAST, oIRET, oZRET, oLRET, oVRET, oARET, oOBJ, oINI, oPS, oNEW, oNEWAI, oNEWAB, oNEWAZ, oNEWAL, oCOPY, oINV0, oINS0, oINV1, oINS1, oINV2, oINS2, oINV3, oINS3, oINV4, oINS4, oINV5, oINS5, oINV6, oINS6, List.getElem?_cons_zero, List.getElem?_cons_succ, List.set_cons_zero, List.set_cons_succ, znl, zs4, zc1, true_and, and_self, Value.category, Option.toList, List.cons_append, List.nil_append, zvr]
      exact k
  have n14 : ¬ (97 ≤ x ∧ x ≤ 122) → zV X M_X6_kindOf (zQm M_X6_kindOf R) 0 0 14 [.int (zj x)] [] h := fun q1 => by
    refine vb_X6_kindOf_14 _ _ _ ?_
    simp only [B_X6_kindOf_14, oPI, oPL, oILOAD, oLLOAD, oALOAD, oISTORE, oASTORE, oLSTORE, oIINC, oIADD, oISUB, oIMUL, oIAND, oIOR, oIXOR, oIDIV, oIREM, oISHL, oISHR, oIUSHR, oLADD, oLSUB, oLMUL, oLOR, oLDIV, oLREM, oLCMP, oLSHL, oINEG, oI2L, oL2I, oI2B, oI2C, oDUP, oPOP, oDUP2, oIFEQ, oICEQ, oIFNE, oICNE, oIFLT, oICLT, oIFGE, oICGE, oIFGT, oICGT, oIFLE, oICLE, oIFNULL, oIFNONNULL, oTSW, oLSW, oGETI, oGETL, oGETR, oPUTI, oPUTZ, oPUTL, oPUTR, oIALD, oBALD, oZALD, oLALD, oAALD, oALEN, oIAST, oBAST, oZAST, oLAST, oIRET, oZRET, oLRET, oVRET, oARET, oOBJ, oINI, oPS, oNEW, oNEWAI, oNEWAB, oNEWAZ, oNEWAL, oCOPY, oINV0, oINS0, oINV1, oINS1, oINV2, oINS2, oINV3, oINS3, oINV4, oINS4, oINV5, oINS5, oINV6, oINS6, List.getElem?_cons_zero, List.getElem?_cons_succ, List.set_cons_zero, List.set_cons_succ, znl, zs4, zc1, true_and, and_self, Value.category, Option.toList, List.cons_append, List.nil_append, zvr]
    try simp (disch := omega) only [zgi_gz, zj_cn, zj_lt, zj_le, zj_eq, zj_add, zj_sub, zj_mul, zj_neg, zj_lt0, zj_le0, zj_0le, zj_0lt, zj_eq0, zb_0, zb_z, Classical.not_not, Int.zero_add, Int.add_zero, zj_remn, zj_divn]
    refine ⟨fun c => n28 q1 (by omega), fun c => ⟨fun c2 => n28 q1 (by omega), fun c2 => ?_⟩⟩
    rw [if_neg q1, if_pos (by omega)] at k
    exact k
  refine ⟨fun c => n14 (by omega), fun c => ⟨fun c2 => n14 (by omega), fun c2 => ?_⟩⟩
  rw [if_pos (by omega)] at k
  exact k
theorem zshl8 {x c : Nat} (hx : x < 36028797018963968) (hc : c < 256) : zk (x : Int) <<< ((zj 8).toInt64 &&& 63) ||| (zj (c : Int)).toInt64 = zk ((256 * x + c : Nat) : Int) := by
  rw [zj_k (a := (c : Int)) (by omega) (by omega)]
  apply Int64.toBitVec_inj.mp
  rw [Int64.toBitVec_or, Int64.toBitVec_shiftLeft]
  show BitVec.ofInt 64 (x : Int) <<< (((zj 8).toInt64 &&& 63).toBitVec.smod 64) ||| BitVec.ofInt 64 (c : Int) = BitVec.ofInt 64 ((256 * x + c : Nat) : Int)
  rw [show ((zj 8).toInt64 &&& 63).toBitVec.smod 64 = 8#64 by decide, BitVec.ofInt_natCast, BitVec.ofInt_natCast, BitVec.ofInt_natCast]
  show BitVec.ofNat 64 x <<< (8#64).toNat ||| BitVec.ofNat 64 c = _
  rw [show (8#64).toNat = 8 from rfl]
  apply BitVec.eq_of_toNat_eq
  rw [BitVec.toNat_or, BitVec.toNat_shiftLeft, BitVec.toNat_ofNat, BitVec.toNat_ofNat, BitVec.toNat_ofNat, Nat.mod_eq_of_lt (show x < 2 ^ 64 by omega), Nat.mod_eq_of_lt (show c < 2 ^ 64 by omega), Nat.shiftLeft_eq, Nat.mod_eq_of_lt (show x * 2 ^ 8 < 2 ^ 64 by omega), Nat.mod_eq_of_lt (show 256 * x + c < 2 ^ 64 by omega)]
  have := Nat.two_pow_add_eq_or_of_lt (i := 8) (b := c) (by omega) x
  rw [show (2 : Nat) ^ 8 = 256 from rfl] at this ⊢
  rw [Nat.mul_comm x 256, ← this]
end ZTL
