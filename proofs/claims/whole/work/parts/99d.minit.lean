section ZMI
variable {X : Nat × (Nat → Int32)} {R : zRt} {h h' h0 h1 h2 : zHp} {t : Nat}
def zTs (i : Nat) : FieldType × Nat := ([(.int, 6), (.int, 6), (.int, 6), (.int, 6), (.long, 6), (.int, 6), (.int, 8), (.int, 4), (.int, 4), (.long, 6), (.long, 10), (.int, 10), (.int, 10)] : List (FieldType × Nat)).getD i (.int, 0)
def zQi (h h' : zHp) (t m : Nat) : Prop := znx h' = t + 1 + m ∧ (∀ x, x ≤ t → zsh h' x = zsh h x) ∧ (∀ x y, x ≤ t → zgi h' x y = zgi h x y) ∧ (∀ x y, x ≤ t → zgl h' x y = zgl h x y) ∧ (∀ x y, x < t → zgr h' x y = zgr h x y) ∧ ∀ i, i < m → zsh h' (t + 1 + i) = some (.inr (zTs i)) ∧ zgr h' t (8 + i) = some (t + 1 + i)
theorem zQi.step {m : Nat} (q : zQi h h' t m) : zQi h (zpr (zal h' (.inr (zTs m))) t (8 + m) (some (znx h'))) t (m + 1) := by
  obtain ⟨q1, q2, q3, q4, q5, q6⟩ := q
  have sl : ∀ x, zsh (zpr (zal h' (.inr (zTs m))) t (8 + m) (some (znx h'))) x = if x = znx h' then some (.inr (zTs m)) else zsh h' x := fun _ => rfl
  have rl : ∀ x y, zgr (zpr (zal h' (.inr (zTs m))) t (8 + m) (some (znx h'))) x y = if x = t ∧ y = 8 + m then some (znx h') else if x = znx h' then none else zgr h' x y := fun _ _ => rfl
  have il : ∀ x y, zgi (zpr (zal h' (.inr (zTs m))) t (8 + m) (some (znx h'))) x y = if x = znx h' then 0 else zgi h' x y := fun _ _ => rfl
  have ll : ∀ x y, zgl (zpr (zal h' (.inr (zTs m))) t (8 + m) (some (znx h'))) x y = if x = znx h' then 0 else zgl h' x y := fun _ _ => rfl
  refine ⟨?_, fun x hx => ?_, fun x y hx => ?_, fun x y hx => ?_, fun x y hx => ?_, fun i hi => ?_⟩
  · show znx h' + 1 = _
    rw [q1]; omega
  · rw [sl, if_neg (by omega)]; exact q2 x hx
  · rw [il, if_neg (by omega)]; exact q3 x y hx
  · rw [ll, if_neg (by omega)]; exact q4 x y hx
  · rw [rl, if_neg (by omega), if_neg (by omega)]; exact q5 x y hx
  · by_cases c : i = m
    · subst c
      rw [sl, if_pos (by omega), rl, if_pos ⟨rfl, rfl⟩, q1]
      exact ⟨rfl, rfl⟩
    · rw [sl, if_neg (by omega), rl, if_neg (by omega), if_neg (by omega)]
      exact q6 i (by omega)
theorem cm_tinit (s : zsh h t = some (.inl 8)) (x : znx h = t + 1) (k : ∀ h', zQi (zpi h t 0 (zj (-1))) h' t 13 → R none h') : zCC X M_X8_init [.ref t] h R := by
  have z0 : zQi (zpi h t 0 (zj (-1))) (zpi h t 0 (zj (-1))) t 0 := ⟨x, fun _ _ => rfl, fun _ _ _ => rfl, fun _ _ _ => rfl, fun _ _ _ => rfl, fun i hi => by omega⟩
  have sh : ∀ {m : Nat} {h' : zHp}, zQi (zpi h t 0 (zj (-1))) h' t m → ∀ c, zsh (zal h' c) t = some (.inl 8) := fun q c => by
    show (if t = znx _ then _ else _) = _
    rw [if_neg (by rw [q.1]; omega)]
    exact (q.2.1 t (Nat.le_refl _)).trans s
  have a1 := z0.step
  have a2 := a1.step
  have a3 := a2.step
  have a4 := a3.step
  have a5 := a4.step
  have a6 := a5.step
  have a7 := a6.step
  have a8 := a7.step
  have a9 := a8.step
  have a10 := a9.step
  have a11 := a10.step
  have a12 := a11.step
  have a13 := a12.step
  refine zCC_of (ls := [.ref t]) pf_X8_init rfl (Nat.le_of_ble_eq_true rfl) ?_
  refine vb_X8_init_0 _ _ _ ?_
  simp only [B_X8_init_0, oPI, oPL, oILOAD, oLLOAD, oALOAD, oISTORE, oASTORE, oLSTORE, oIINC, oIADD, oISUB, oIMUL, oIAND, oIOR, oIXOR, oIDIV, oIREM, oISHL, oISHR, oIUSHR, oLADD, oLSUB, oLMUL, oLOR, oLDIV, oLREM, oLCMP, oLSHL, oINEG, oI2L, oL2I, oI2B, oI2C, oDUP, oPOP, oDUP2, oIFEQ, oICEQ, oIFNE, oICNE, oIFLT, oICLT, oIFGE, oICGE, oIFGT, oICGT, oIFLE, oICLE, oIFNULL, oIFNONNULL, oTSW, oLSW, oGETI, oGETL, oGETR, oPUTI, oPUTZ, oPUTL, oPUTR, oIALD, oBALD, oZALD, oLALD, oAALD, oALEN, oIAST, oBAST, oZAST, oLAST, oIRET, oZRET, oLRET, oVRET, oARET, oOBJ, oINI, oPS, oNEW, oNEWAI, oNEWAB, oNEWAZ, oNEWAL, oCOPY, oINV0, oINS0, oINV1, oINS1, oINV2, oINS2, oINV3, oINS3, oINV4, oINS4, oINV5, oINS5, oINV6, oINS6, List.getElem?_cons_zero, List.getElem?_cons_succ, List.set_cons_zero, List.set_cons_succ, znl, zs4, zc1, true_and, and_self, Value.category, Option.toList, List.cons_append, List.nil_append, zvr, s]
  exact ⟨⟨by decide, by decide⟩, sh z0 _, ⟨by decide, by decide⟩, sh a1 _, ⟨by decide, by decide⟩, sh a2 _, ⟨by decide, by decide⟩, sh a3 _, ⟨by decide, by decide⟩, sh a4 _, ⟨by decide, by decide⟩, sh a5 _, ⟨by decide, by decide⟩, sh a6 _, ⟨by decide, by decide⟩, sh a7 _, ⟨by decide, by decide⟩, sh a8 _, ⟨by decide, by decide⟩, sh a9 _, ⟨by decide, by decide⟩, sh a10 _, ⟨by decide, by decide⟩, sh a11 _, ⟨by decide, by decide⟩, sh a12 _, k _ a13⟩
theorem zQi.tq (q : zQi h h' t 13) (s : zsh h t = some (.inl 8)) : zTq h' t := by
  have z := q.2.2.2.2.2
  exact ⟨(q.2.1 t (Nat.le_refl _)).trans s, (z 0 (by omega)).1, (z 0 (by omega)).2, (z 1 (by omega)).1, (z 1 (by omega)).2, (z 2 (by omega)).1, (z 2 (by omega)).2, (z 3 (by omega)).1, (z 3 (by omega)).2, (z 4 (by omega)).1, (z 4 (by omega)).2, (z 5 (by omega)).1, (z 5 (by omega)).2, (z 6 (by omega)).1, (z 6 (by omega)).2, (z 7 (by omega)).1, (z 7 (by omega)).2, (z 8 (by omega)).1, (z 8 (by omega)).2, (z 9 (by omega)).1, (z 9 (by omega)).2, (z 10 (by omega)).1, (z 10 (by omega)).2, (z 11 (by omega)).1, (z 11 (by omega)).2, (z 12 (by omega)).1, (z 12 (by omega)).2⟩
end ZMI
