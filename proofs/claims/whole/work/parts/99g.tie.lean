section ZTI
variable {h h' : zHp} {d t : Nat} {D : zDt}
theorem zcnt_li {P : zBt → Bool} : ∀ (m : Nat) (l : List zBt) (g : Nat → Prop), l.length = m → (∀ (i : Nat) (b : zBt), l[i]? = some b → (g i ↔ P b = true)) → zcnt g m = l.countP P := by
  intro m
  induction m with
  | zero => intro l g hl _; rw [List.length_eq_zero_iff.mp hl]; rfl
  | succ m ih =>
    intro l g hl hg
    obtain ⟨l', x, rfl⟩ : ∃ l' x, l = l' ++ [x] := ⟨l.dropLast, l.getLast (by intro z; rw [z] at hl; simp at hl), (List.dropLast_concat_getLast _).symm⟩
    have hl : l'.length = m := by rw [List.length_append] at hl; simp at hl; omega
    have e := ih l' g hl (fun i b hb => hg i b (zap2 hb))
    have gx := hg l'.length x zap3
    rw [hl] at gx
    rw [List.countP_append, ← e]
    by_cases c : g m
    · rw [zcnt_t c]; simp [gx.mp c]
    · have : P x = false := by
        cases hp : P x with
        | false => rfl
        | true => exact absurd (gx.mpr hp) c
      rw [zcnt_f c]; simp [this]
/-- the Model's Tube at t tells what the class's plan d tells -/
def zTRt (h : zHp) (t p : Nat) : Prop := gz h t 1 = gz h p 1 ∧ gz h t 0 = gz h p 0 ∧ gz h t 2 = (zcnt (fun b => ¬ gz h (p + 5) b = -2) (zn h p) : Nat) ∧ gz h t 3 = (zcnt (fun b => ¬ gz h (p + 6) b = -2) (zn h p) : Nat) ∧ gz h t 4 = gz h p 8 ∧ gz h t 5 = gz h p 11 ∧ gz h t 6 = gz h p 13 ∧ (∀ b : Nat, b < zn h p → gz h (t + 1) b = zS h p b ∧ gz h (t + 2) b = gz h (p + 4) b ∧ gz h (t + 3) b = gz h (p + 5) b ∧ gz h (t + 4) b = gz h (p + 6) b ∧ zCq (zgl h (p + 3) b) (zgl h (t + 5) b)) ∧ (∀ i : Nat, (i : Int) < gz h p 8 → gz h (t + 6) i = gz h (p + 7) i ∧ zCq (zgl h (p + 8) i) (zgl h (t + 10) i)) ∧ (∀ i : Nat, (i : Int) < gz h p 11 → gz h (t + 7) i = gz h (p + 9) i)
theorem zTRt_of (a : zDR h d D) (b : zMD h t D) (o : zDo D) (ht : ¬ D.1 = -1) : zTRt h t d := by
  obtain ⟨a0, a1, ab, a8, am, a11, ah, a13, ap⟩ := a
  obtain ⟨r0, r1, r2, r3, rb, r4, rm, r5, rh, r6, rp, r7, rn⟩ := b
  have hn : zn h d = D.2.1.length := by unfold zn; rw [a1]; omega
  refine ⟨by omega, by rw [a0 ht]; exact r0, ?_, ?_, by omega, by omega, by omega, fun i hi => ?_, fun i hi => ?_, fun i hi => ?_⟩
  · rw [hn, r2, zcnt_li (P := fun b => !decide (b.2.2.2.2.1 = -2)) _ D.2.1 _ rfl (fun i b hb => ?_)]
    rw [(ab i b hb).2.2.2.2.1]; simp
  · rw [hn, r3, zcnt_li (P := fun b => !decide (b.2.2.2.2.2 = -2)) _ D.2.1 _ rfl (fun i b hb => ?_)]
    rw [(ab i b hb).2.2.2.2.2]; simp
  · obtain ⟨b, hb⟩ : ∃ b, D.2.1[i]? = some b := ⟨_, List.getElem?_eq_getElem (by omega)⟩
    have x := ab i b hb
    have y := rb i b hb
    refine ⟨by unfold zS; omega, by omega, by omega, by omega, b.2.2.1, (o.2.2.2.1 i b hb).2.2.1, x.2.2.1, y.2.2.2.2⟩
  · rw [a8] at hi
    obtain ⟨b, hb⟩ : ∃ b, D.2.2.1[i]? = some b := ⟨_, List.getElem?_eq_getElem (by omega)⟩
    have x := am i b hb
    have y := rm i b hb
    exact ⟨by omega, b.2, (o.2.2.2.2.1 i b hb).2, x.2, y.2⟩
  · rw [a11] at hi
    obtain ⟨b, hb⟩ : ∃ b, D.2.2.2.1[i]? = some b := ⟨_, List.getElem?_eq_getElem (by omega)⟩
    have x := ah i b hb
    have y := rh i b hb
    omega
end ZTI
