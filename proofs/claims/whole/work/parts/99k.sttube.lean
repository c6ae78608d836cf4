section ZSU
variable {X : Nat × (Nat → Int32)} {R : zRt} {h h1 h2 : zHp} {d p t : Nat} {T : Nat → Int} {n s : Nat} {D : zDt}
theorem tq_ok {k j : Nat} {c : Nat ⊕ (FieldType × Nat)} (q : zTq h t) (g1 : t ≤ k) (g2 : k ≤ t + 13) (hc : zsh h k = some c) (hr : zRf c j) : ∃ x, zgr h k j = some x ∧ t + 1 ≤ x ∧ x ≤ t + 13 := by
  rcases (show k = t ∨ k = t + 1 ∨ k = t + 2 ∨ k = t + 3 ∨ k = t + 4 ∨ k = t + 5 ∨ k = t + 6 ∨ k = t + 7 ∨ k = t + 8 ∨ k = t + 9 ∨ k = t + 10 ∨ k = t + 11 ∨ k = t + 12 ∨ k = t + 13 by omega) with rfl | rfl | rfl | rfl | rfl | rfl | rfl | rfl | rfl | rfl | rfl | rfl | rfl | rfl
  · cases hc.symm.trans (zq_s q)
    have hj : j < 21 := zrj_lt hr
    rcases (show j = 0 ∨ j = 1 ∨ j = 2 ∨ j = 3 ∨ j = 4 ∨ j = 5 ∨ j = 6 ∨ j = 7 ∨ j = 8 ∨ j = 9 ∨ j = 10 ∨ j = 11 ∨ j = 12 ∨ j = 13 ∨ j = 14 ∨ j = 15 ∨ j = 16 ∨ j = 17 ∨ j = 18 ∨ j = 19 ∨ j = 20 by omega) with rfl | rfl | rfl | rfl | rfl | rfl | rfl | rfl | rfl | rfl | rfl | rfl | rfl | rfl | rfl | rfl | rfl | rfl | rfl | rfl | rfl
    · exact absurd (show zrj 8 0 = true from hr) (by decide)
    · exact absurd (show zrj 8 1 = true from hr) (by decide)
    · exact absurd (show zrj 8 2 = true from hr) (by decide)
    · exact absurd (show zrj 8 3 = true from hr) (by decide)
    · exact absurd (show zrj 8 4 = true from hr) (by decide)
    · exact absurd (show zrj 8 5 = true from hr) (by decide)
    · exact absurd (show zrj 8 6 = true from hr) (by decide)
    · exact absurd (show zrj 8 7 = true from hr) (by decide)
    · exact ⟨_, zq_r8 q, by omega, by omega⟩
    · exact ⟨_, zq_r9 q, by omega, by omega⟩
    · exact ⟨_, zq_r10 q, by omega, by omega⟩
    · exact ⟨_, zq_r11 q, by omega, by omega⟩
    · exact ⟨_, zq_r12 q, by omega, by omega⟩
    · exact ⟨_, zq_r13 q, by omega, by omega⟩
    · exact ⟨_, zq_r14 q, by omega, by omega⟩
    · exact ⟨_, zq_r15 q, by omega, by omega⟩
    · exact ⟨_, zq_r16 q, by omega, by omega⟩
    · exact ⟨_, zq_r17 q, by omega, by omega⟩
    · exact ⟨_, zq_r18 q, by omega, by omega⟩
    · exact ⟨_, zq_r19 q, by omega, by omega⟩
    · exact ⟨_, zq_r20 q, by omega, by omega⟩
  · cases hc.symm.trans (zq_s1 q); exact False.elim hr
  · cases hc.symm.trans (zq_s2 q); exact False.elim hr
  · cases hc.symm.trans (zq_s3 q); exact False.elim hr
  · cases hc.symm.trans (zq_s4 q); exact False.elim hr
  · cases hc.symm.trans (zq_s5 q); exact False.elim hr
  · cases hc.symm.trans (zq_s6 q); exact False.elim hr
  · cases hc.symm.trans (zq_s7 q); exact False.elim hr
  · cases hc.symm.trans (zq_s8 q); exact False.elim hr
  · cases hc.symm.trans (zq_s9 q); exact False.elim hr
  · cases hc.symm.trans (zq_s10 q); exact False.elim hr
  · cases hc.symm.trans (zq_s11 q); exact False.elim hr
  · cases hc.symm.trans (zq_s12 q); exact False.elim hr
  · cases hc.symm.trans (zq_s13 q); exact False.elim hr
/-- behind a fault: the Tube that was read stands at 101 -/
def zre (h : zHp) : zHp := ((102, fun k => if (16 ≤ k ∧ k ≤ 86) ∨ (87 ≤ k ∧ k ≤ 100 ∧ zgr h 78 3 = some 87) then zsh h k else none), h.2.1, h.2.2.1, fun a b => if a = 78 ∧ b = 4 then some 101 else zgr h a b)
theorem zre_rn (w : zCW h d p) (m : zMW h) (h86 : zsh h 86 = some (.inr (.long, 1))) (r4 : zgr h 78 4 = some 102) (r3 : zgr h 78 3 = none ∨ (zgr h 78 3 = some 87 ∧ zTq h 87)) : zRn h (zre h) := by
  refine ⟨fun k => if k = 101 then 102 else k, rfl, fun k hk => if_neg (by omega), fun k k' h1 h2 e => ?_, fun k c hc => ?_⟩
  · dsimp only at e
    split at e <;> split at e <;> omega
  have hc : (if (16 ≤ k ∧ k ≤ 86) ∨ (87 ≤ k ∧ k ≤ 100 ∧ zgr h 78 3 = some 87) then zsh h k else none) = some c := hc
  by_cases hk : (16 ≤ k ∧ k ≤ 86) ∨ (87 ≤ k ∧ k ≤ 100 ∧ zgr h 78 3 = some 87)
  rotate_left
  · rw [if_neg hk] at hc
    cases hc
  rw [if_pos hk] at hc
  have e0 : (if k = 101 then 102 else k) = k := if_neg (by omega)
  dsimp only
  rw [e0]
  refine ⟨by omega, hc, fun _ => rfl, fun _ => rfl, fun j hj => ?_⟩
  have low : ∀ q, zgr h k j = some q → q ≤ 100 → ¬ (k = 78 ∧ j = 4) → zgr h k j = (zgr (zre h) k j).map (fun k => if k = 101 then 102 else k) ∧ ∀ q, zgr (zre h) k j = some q → q < 102 := fun q hq hq2 hn => by
    have e1 : zgr (zre h) k j = some q := (if_neg hn).trans hq
    rw [e1, hq]
    refine ⟨?_, fun q' h' => by cases h'; omega⟩
    show some q = some (if q = 101 then 102 else q)
    rw [if_neg (by omega)]
  by_cases c4 : k = 78 ∧ j = 4
  · obtain ⟨rfl, rfl⟩ := c4
    have e1 : zgr (zre h) 78 4 = some 101 := rfl
    rw [e1, r4]
    exact ⟨rfl, fun q' h' => by cases h'; omega⟩
  by_cases c3 : k = 78 ∧ j = 3
  · obtain ⟨rfl, rfl⟩ := c3
    rcases r3 with r3 | r3
    · have e1 : zgr (zre h) 78 3 = none := r3
      rw [e1, r3]
      exact ⟨rfl, fun q' h' => by cases h'⟩
    · exact low 87 r3.1 (by omega) (by omega)
  rcases hk with hk | hk
  · obtain ⟨q, hq, hq2⟩ := zref_ok w m h86 hk.1 hk.2 hc hj (by omega)
    exact low q hq (by omega) c4
  · rcases r3 with r3 | r3
    · rw [r3] at hk
      exact absurd hk.2.2 (by simp)
    · obtain ⟨q, hq, hq1, hq2⟩ := tq_ok r3.2 hk.1 (by omega) hc hj
      exact low q hq (by omega) c4
/-- behind a tube that was laid: the Tube that was read stands at 87 -/
def zrlx (h : zHp) : zHp := ((102, fun k => if 16 ≤ k ∧ k ≤ 86 then zsh h k else if 87 ≤ k ∧ k ≤ 100 then zsh h (k + 15) else none), (fun a b => if 87 ≤ a then zgi h (a + 15) b else zgi h a b), (fun a b => if 87 ≤ a then zgl h (a + 15) b else zgl h a b), fun a b => if a = 78 ∧ (b = 3 ∨ b = 4) then some 87 else if 87 ≤ a then (zgr h (a + 15) b).map (fun q => q - 15) else zgr h a b)
theorem zrlx_rn (w : zCW h d p) (m : zMW h) (h86 : zsh h 86 = some (.inr (.long, 1))) (tq : zTq h 102) (r3 : zgr h 78 3 = some 102) (r4 : zgr h 78 4 = some 102) : zRn h (zrlx h) := by
  refine ⟨fun k => if k < 87 then k else k + 15, rfl, fun k hk => if_pos hk, fun k k' h1 h2 e => ?_, fun k c hc => ?_⟩
  · dsimp only at e
    split at e <;> split at e <;> omega
  have hc : (if 16 ≤ k ∧ k ≤ 86 then zsh h k else if 87 ≤ k ∧ k ≤ 100 then zsh h (k + 15) else none) = some c := hc
  by_cases hk : 16 ≤ k ∧ k ≤ 86
  · rw [if_pos hk] at hc
    have e0 : (if k < 87 then k else k + 15) = k := if_pos (by omega)
    dsimp only
    rw [e0]
    refine ⟨by omega, hc, fun j => if_neg (by omega), fun j => if_neg (by omega), fun j hj => ?_⟩
    by_cases c4 : k = 78 ∧ (j = 3 ∨ j = 4)
    · have e1 : zgr (zrlx h) k j = some 87 := if_pos c4
      have e2 : zgr h k j = some 102 := by
        obtain ⟨rfl, rfl | rfl⟩ := c4
        · exact r3
        · exact r4
      rw [e1, e2]
      exact ⟨rfl, fun q' h' => by cases h'; omega⟩
    · obtain ⟨q, hq, hq2⟩ := zref_ok w m h86 hk.1 hk.2 hc hj c4
      have e1 : zgr (zrlx h) k j = some q := (if_neg c4).trans ((if_neg (by omega)).trans hq)
      rw [e1, hq]
      refine ⟨?_, fun q' h' => by cases h'; omega⟩
      show some q = some (if q < 87 then q else q + 15)
      rw [if_pos (by omega)]
  · rw [if_neg hk] at hc
    by_cases hk2 : 87 ≤ k ∧ k ≤ 100
    rotate_left
    · rw [if_neg hk2] at hc
      cases hc
    rw [if_pos hk2] at hc
    have e0 : (if k < 87 then k else k + 15) = k + 15 := if_neg (by omega)
    dsimp only
    rw [e0]
    refine ⟨by omega, hc, fun j => if_pos hk2.1, fun j => if_pos hk2.1, fun j hj => ?_⟩
    obtain ⟨q, hq, hq1, hq2⟩ := tq_ok tq (by omega) (by omega) hc hj
    have e1 : zgr (zrlx h) k j = some (q - 15) := (if_neg (by omega)).trans ((if_pos hk2.1).trans (by rw [hq]; rfl))
    rw [e1, hq]
    refine ⟨?_, fun q' h' => by cases h'; omega⟩
    show some q = some (if q - 15 < 87 then q - 15 else q - 15 + 15)
    rw [if_neg (by omega), show q - 15 + 15 = q by omega]
theorem zrlx_ta (tq : zTq h 102) : zTa (zrlx h) := by
  have s3 : ∀ i, i ≤ 13 → zsh (zrlx h) (87 + i) = zsh h (102 + i) := fun i hi => by
    show (if 16 ≤ 87 + i ∧ 87 + i ≤ 86 then zsh h (87 + i) else if 87 ≤ 87 + i ∧ 87 + i ≤ 100 then zsh h (87 + i + 15) else none) = _
    rw [if_neg (by omega), if_pos (by omega), show 87 + i + 15 = 102 + i by omega]
  have r3 : ∀ y q, zgr h 102 y = some q → zgr (zrlx h) 87 y = some (q - 15) := fun y q hq => by
    show (if 87 = 78 ∧ (y = 3 ∨ y = 4) then some 87 else if 87 ≤ 87 then (zgr h (87 + 15) y).map (fun q => q - 15) else zgr h 87 y) = _
    rw [if_neg (by omega), if_pos (by omega)]
    show (zgr h 102 y).map (fun q => q - 15) = _
    rw [hq]; rfl
  exact ⟨rfl, (s3 0 (by omega)).trans (zq_s tq), (s3 1 (by omega)).trans (zq_s1 tq), r3 8 _ (zq_r8 tq), (s3 2 (by omega)).trans (zq_s2 tq), r3 9 _ (zq_r9 tq), (s3 3 (by omega)).trans (zq_s3 tq), r3 10 _ (zq_r10 tq), (s3 4 (by omega)).trans (zq_s4 tq), r3 11 _ (zq_r11 tq), (s3 5 (by omega)).trans (zq_s5 tq), r3 12 _ (zq_r12 tq), (s3 6 (by omega)).trans (zq_s6 tq), r3 13 _ (zq_r13 tq), (s3 7 (by omega)).trans (zq_s7 tq), r3 14 _ (zq_r14 tq), (s3 8 (by omega)).trans (zq_s8 tq), r3 15 _ (zq_r15 tq), (s3 9 (by omega)).trans (zq_s9 tq), r3 16 _ (zq_r16 tq), (s3 10 (by omega)).trans (zq_s10 tq), r3 17 _ (zq_r17 tq), (s3 11 (by omega)).trans (zq_s11 tq), r3 18 _ (zq_r18 tq), (s3 12 (by omega)).trans (zq_s12 tq), r3 19 _ (zq_r19 tq), (s3 13 (by omega)).trans (zq_s13 tq), r3 20 _ (zq_r20 tq)⟩
theorem zmw_of (I : zI h d p) : zMW h := by
  rcases I.o with o | o
  · exact o.1
  · exact o.1.mw
theorem zr3_of (I : zI h d p) : zgr h 78 3 = none ∨ (zgr h 78 3 = some 87 ∧ zTq h 87) := by
  rcases I.o with o | o
  · exact Or.inl o.2.1
  · exact Or.inr ⟨o.1.ta.1, o.1.ta.2⟩
theorem zTq_r (w : zTq h t) (s : ∀ i, i ≤ 13 → zsh h1 (t + i) = zsh h (t + i)) (r : ∀ y, zgr h1 t y = zgr h t y) : zTq h1 t := by
  exact ⟨(s 0 (by omega)).trans (zq_s w), (s 1 (by omega)).trans (zq_s1 w), (r 8).trans (zq_r8 w), (s 2 (by omega)).trans (zq_s2 w), (r 9).trans (zq_r9 w), (s 3 (by omega)).trans (zq_s3 w), (r 10).trans (zq_r10 w), (s 4 (by omega)).trans (zq_s4 w), (r 11).trans (zq_r11 w), (s 5 (by omega)).trans (zq_s5 w), (r 12).trans (zq_r12 w), (s 6 (by omega)).trans (zq_s6 w), (r 13).trans (zq_r13 w), (s 7 (by omega)).trans (zq_s7 w), (r 14).trans (zq_r14 w), (s 8 (by omega)).trans (zq_s8 w), (r 15).trans (zq_r15 w), (s 9 (by omega)).trans (zq_s9 w), (r 16).trans (zq_r16 w), (s 10 (by omega)).trans (zq_s10 w), (r 17).trans (zq_r17 w), (s 11 (by omega)).trans (zq_s11 w), (r 18).trans (zq_r18 w), (s 12 (by omega)).trans (zq_s12 w), (r 19).trans (zq_r19 w), (s 13 (by omega)).trans (zq_s13 w), (r 20).trans (zq_r20 w)⟩
/-- the whole invariant behind a fault -/
theorem zI_fault {e : zEr} (I : zI h d p) (s2 : ∀ x, x < 102 → zsh h2 x = zsh h x) (i2 : ∀ x y, x < 102 → x ≠ 78 → ¬ (d ≤ x ∧ x ≤ d + 11) → ¬ (x = 17 ∧ 2 ≤ y) → ¬ (x = 18 ∧ 1 ≤ y) → ¬ (x = 16 ∧ y = 5) → zgi h2 x y = zgi h x y) (i78 : ∀ y, 14 ≤ y → zgi h2 78 y = zgi h 78 y) (l2 : ∀ x y, x < 102 → x ≠ 78 → ¬ (d ≤ x ∧ x ≤ d + 11) → ¬ (x = 18 ∧ y = 6) → zgl h2 x y = zgl h x y) (r2 : ∀ x y, x < 102 → ¬ (x = 78 ∧ y = 4) → zgr h2 x y = zgr h x y)
    (pv : zPV h2 d) (a1 : zgi h2 78 1 = zj 4) (a2 : zgi h2 16 5 = zj 4) (a3 : zgi h2 78 2 = zgi h2 17 4) (a4 : zgi h2 78 12 = zgi h2 17 3) (a5 : gz h2 78 6 = 0) (a6 : gz h2 18 1 = 0) : zI (zre h2) d p := by
  have hdp := zc_dp I.w
  have s3 : ∀ x, 16 ≤ x → x ≤ 86 → zsh (zre h2) x = zsh h x := fun x g1 g2 => (if_pos (Or.inl ⟨g1, g2⟩)).trans (s2 x (by omega))
  have i3 : ∀ x y, zgi (zre h2) x y = zgi h2 x y := fun _ _ => rfl
  have l3 : ∀ x y, zgl (zre h2) x y = zgl h2 x y := fun _ _ => rfl
  have r3 : ∀ x y, x < 102 → ¬ (x = 78 ∧ y = 4) → zgr (zre h2) x y = zgr h x y := fun x y g1 g2 => (if_neg g2).trans (r2 x y g1 g2)
  have P3 : ∀ i y, i ≤ 11 → zgi (zre h2) (p + i) y = zgi h (p + i) y := fun i y hi => (i3 _ _).trans (i2 _ _ (by omega) (by omega) (by omega) (by omega) (by omega) (by omega))
  have L3 : ∀ i y, i ≤ 11 → zgl (zre h2) (p + i) y = zgl h (p + i) y := fun i y hi => (l3 _ _).trans (l2 _ _ (by omega) (by omega) (by omega) (by omega))
  have e3 : ∀ x y, x < 102 → x ≠ 78 → (44 < x) → zgi (zre h2) x y = zgi h x y := fun x y g1 g2 g3 => (i3 _ _).trans (i2 _ _ g1 g2 (by omega) (by omega) (by omega) (by omega))
  have g3 : ∀ x y, x < 102 → x ≠ 78 → (44 < x) → gz (zre h2) x y = gz h x y := fun x y q1 q2 q3 => congrArg Int32.toInt (e3 x y q1 q2 q3)
  have gp : ∀ y, gz (zre h2) p y = gz h p y := fun y => congrArg Int32.toInt (P3 0 y (by omega))
  have mw3 : zMW (zre h2) := zMW_r (zmw_of I) (fun x q1 q2 => s3 x (by omega) (by omega)) (fun y q1 q2 => r3 78 y (by omega) (by omega))
  have nv3 : zNV (zre h2) := zNr.mv (q := 45) (q' := 45) I.u (fun i _ => e3 45 i (by omega) (by omega) (by omega))
  refine ⟨zCW_r I.w (fun x q1 q2 => s3 x q1 (by omega)) (fun x y q1 q2 => r3 x y (by omega) (by omega)), zPV_r I.v P3, nv3, ?_, fun n hn s hs => ?_, ?_, I.ac.mv (fun y q1 q2 => (i3 _ _).trans (i78 y (by omega))) (fun x y hx => e3 x y (by omega) (by omega) (by omega)), ?_, ?_, ?_, ⟨rfl, (s3 86 (by omega) (by omega)).trans I.ex.2⟩, pv⟩
  · have := I.m
    unfold zMV at this ⊢
    rw [g3 46 2 (by omega) (by omega) (by omega), g3 46 3 (by omega) (by omega) (by omega), g3 46 4 (by omega) (by omega) (by omega)]
    exact this
  · rw [g3 (70 + n) s (by omega) (by omega) (by omega)]
    exact I.r n hn s hs
  · rcases I.o with ⟨w, hz, h0, hp, h13⟩ | ⟨o, h0⟩
    · exact Or.inl ⟨mw3, (r3 78 3 (by omega) (by omega)).trans hz, by rw [gp]; exact h0, hp, by rw [gp]; exact h13⟩
    · have r87 : zgr h2 78 3 = some 87 := (r2 78 3 (by omega) (by omega)).trans o.ta.1
      have s87 : ∀ x, 87 ≤ x → x ≤ 100 → zsh (zre h2) x = zsh h x := fun x q1 q2 => (if_pos (Or.inr ⟨q1, q2, r87⟩)).trans (s2 x (by omega))
      have tq : zTq (zre h2) 87 := zTq_r (h := h) (t := 87) o.ta.2 (fun i hi => s87 _ (by omega) (by omega)) (fun y => r3 87 y (by omega) (by omega))
      exact Or.inr ⟨⟨mw3, ⟨(r3 78 3 (by omega) (by omega)).trans o.ta.1, tq⟩, zTR_r (h := h) (t := 87) o.tr P3 L3 (fun i y hi => e3 _ _ (by omega) (by omega) (by omega)) (fun i y hi => (l3 _ _).trans (l2 _ _ (by omega) (by omega) (by omega) (by omega))), zPV_r I.v P3, o.pp, fun i hi => by rw [e3 80 i (by omega) (by omega) (by omega), e3 45 i (by omega) (by omega) (by omega)]; exact o.vn i hi, nv3⟩, by rw [gp]; exact h0⟩
  · exact ⟨a5.trans a6.symm, ⟨by show 0 ≤ gz h2 18 1; omega, by show gz h2 18 1 ≤ 800; omega⟩, fun i hi => absurd (show (i : Int) < gz h2 18 1 from hi) (by omega)⟩
  · exact ⟨a1.trans a2.symm, a4, fun _ => a3, fun z => absurd a2 z⟩
  · have := I.ze
    unfold zZe at this ⊢
    simp only [gp]
    rw [g3 45 14 (by omega) (by omega) (by omega), g3 46 2 (by omega) (by omega) (by omega), g3 46 4 (by omega) (by omega) (by omega)]
    exact this
/-- the whole invariant behind a tube that was laid; plan d is the new one -/
theorem zI_laid (I : zI h d p) (w : zCW h2 p d) (m : zMW h2) (tq : zTq h2 102) (s86 : zsh h2 86 = some (.inr (.long, 1))) (i2 : ∀ x y, 44 < x → x < 102 → x ≠ 45 → x ≠ 80 → x ≠ 78 → ¬ (x = 46 ∧ 2 ≤ y ∧ y ≤ 4) → zgi h2 x y = zgi h x y) (ip : ∀ i y, i ≤ 11 → zgi h2 (p + i) y = zgi h (p + i) y)
    (dr : zDR h2 d D) (md : zMD h2 102 D) (o : zDo D) (hne : ¬ D.2.1 = []) (pv : zPV h2 d) (rc : zrow0 h2 h2 d) (rm : ∀ i, i < 15 → gz h2 80 i = gz h2 45 i)
    (a1 : zgi h2 78 1 = zj 0) (a2 : zgi h2 16 5 = zj 0) (a3 : zgi h2 78 2 = zj (-1)) (a4 : zgi h2 78 12 = zgi h2 17 3) (a5 : gz h2 78 6 = 0) (a6 : gz h2 18 1 = 0) (b2 : gz h2 46 2 = 0) (b3 : gz h2 46 3 = 0) (b4 : gz h2 46 4 = 0) (b19 : gz h2 78 19 = 0) (b20 : gz h2 78 20 = 0) : zI (zrlx h2) p d := by
  have hdp := zc_dp w
  have s3 : ∀ x, 16 ≤ x → x ≤ 86 → zsh (zrlx h2) x = zsh h2 x := fun x g1 g2 => if_pos ⟨g1, g2⟩
  have i3 : ∀ x y, x < 87 → zgi (zrlx h2) x y = zgi h2 x y := fun x y q => if_neg (by omega)
  have l3 : ∀ x y, x < 87 → zgl (zrlx h2) x y = zgl h2 x y := fun x y q => if_neg (by omega)
  have r3 : ∀ x y, x < 87 → ¬ (x = 78 ∧ (y = 3 ∨ y = 4)) → zgr (zrlx h2) x y = zgr h2 x y := fun x y g1 g2 => (if_neg g2).trans (if_neg (by omega))
  have g3 : ∀ x y, x < 87 → gz (zrlx h2) x y = gz h2 x y := fun x y q => congrArg Int32.toInt (i3 x y q)
  have P3 : ∀ i y, i ≤ 11 → zgi (zrlx h2) (d + i) y = zgi h2 (d + i) y := fun i y hi => i3 _ _ (by omega)
  have gd : ∀ y, gz (zrlx h2) d y = gz h2 d y := fun y => g3 _ _ (by omega)
  have mw3 : zMW (zrlx h2) := zMW_r m (fun x q1 q2 => s3 x (by omega) (by omega)) (fun y q1 q2 => r3 78 y (by omega) (by omega))
  have pv3 : zPV (zrlx h2) d := zPV_r pv P3
  have nv2 : zNV h2 := by
    refine ⟨fun b hb => ?_, fun i hi => ?_, ?_⟩
    · rw [rc.1 b hb]
      have := pv.2.1 b hb
      split <;> omega
    · rw [(rc.2.1 i hi).1]
      have := pv.2.2.2.2.2.2.2.1 i hi
      split <;> omega
    · rw [rc.2.2]; omega
  have nv3 : zNV (zrlx h2) := zNr.mv (q := 45) (q' := 45) nv2 (fun i _ => i3 45 i (by omega))
  have hl : 1 ≤ D.2.1.length := by
    cases hD : D.2.1 with
    | nil => exact absurd hD hne
    | cons a l => simp
  have d1 : gz h2 d 1 = D.2.1.length := dr.2.1
  have ht : ¬ D.1 = -1 := fun z => hne (o.2.1 z).1
  refine ⟨zCW_r w (fun x q1 q2 => s3 x q1 (by omega)) (fun x y q1 q2 => r3 x y (by omega) (by omega)), pv3, nv3, ?_, fun n hn s hs => ?_, ?_, ?_, ?_, ?_, ?_, ⟨rfl, (s3 86 (by omega) (by omega)).trans s86⟩, zPV_r I.v (fun i y hi => (i3 _ _ (by omega)).trans (ip i y hi))⟩
  · unfold zMV
    rw [g3 46 2 (by omega), g3 46 3 (by omega), g3 46 4 (by omega), b2, b3, b4]
    omega
  · rw [g3 (70 + n) s (by omega), show gz h2 (70 + n) s = gz h (70 + n) s from congrArg Int32.toInt (i2 _ _ (by omega) (by omega) (by omega) (by omega) (by omega) (by omega))]
    exact I.r n hn s hs
  · refine Or.inr ⟨⟨mw3, zrlx_ta tq, zTR_r (zTRt_of dr md o ht) P3 (fun i y hi => l3 _ _ (by omega)) (fun i y hi => (if_pos (by omega)).trans (by rw [show 87 + i + 15 = 102 + i by omega])) (fun i y hi => (if_pos (by omega)).trans (by rw [show 87 + i + 15 = 102 + i by omega])), pv3, by omega, fun i hi => ?_, nv3⟩, by rw [gd]; omega⟩
    rw [i3 80 i (by omega), i3 45 i (by omega), zgi_gz h2 80 i, zgi_gz h2 45 i, rm i hi]
  · have nr : ∀ q, 48 ≤ q ∧ q ≤ 67 → zNr h q → zNr (zrlx h2) q := fun q hq z => z.mv (fun i _ => (i3 q i (by omega)).trans (i2 _ _ (by omega) (by omega) (by omega) (by omega) (by omega) (by omega)))
    unfold zAc
    rw [g3 78 19 (by omega), g3 78 20 (by omega), g3 46 2 (by omega), g3 46 4 (by omega), b2, b4, b19, b20]
    exact ⟨rfl, rfl, fun j hj => absurd hj (by omega), fun j _ hj => absurd hj (by omega), fun j hj => nr _ (by omega) (I.ac.2.2.2.2.1 j hj), fun j hj => nr _ (by omega) (I.ac.2.2.2.2.2 j hj)⟩
  · unfold zTp
    rw [g3 78 6 (by omega), g3 18 1 (by omega), a5, a6]
    exact ⟨rfl, by omega, fun i hi => absurd hi (by omega)⟩
  · unfold zTb
    rw [i3 78 1 (by omega), i3 16 5 (by omega), i3 78 12 (by omega), i3 17 3 (by omega), i3 78 2 (by omega), a1, a2, a3]
    exact ⟨rfl, a4, fun z => absurd z (by decide), fun _ => rfl⟩
  · unfold zZe
    rw [gd]
    exact fun z => absurd z (by omega)
theorem st_tube {a : Int} (pk : zPk X) (ha1 : -2147483648 ≤ a) (ha2 : a < 2147483648) (I : zI h d p) (k : ∀ x h1, zsh h1 78 = some (.inl 9) → (∀ R2 : zRt, (∀ h2 d' p', zI h2 d' p' → R2 (some (.int x)) h2) → (∀ h2 h3 d' p', zRn h2 h3 → zI h3 d' p' → R2 (some (.int x)) h2) → zCC X M_X9_tube [.ref 78, .int (zj a)] h1 R2) → R (some (.int x)) h1) : zCC X M_X7_tube [.ref 16, .int (zj a)] h R := by
  obtain ⟨tp1, tp2, tp3⟩ := I.tp
  have hdp := zc_dp I.w
  have mw := zmw_of I
  obtain ⟨T, hT⟩ : ∃ T : Nat → Int, T = fun i => gz h 19 i := ⟨_, rfl⟩
  have tx79 : ∀ (h1 : zHp), (∀ i, zgi h1 79 i = zgi h 79 i) → ∀ i : Nat, (i : Int) < gz h 18 1 → gz h1 79 i = T i ∧ -128 ≤ T i ∧ T i ≤ 127 := fun h1 e i hi => by
    rw [hT]
    refine ⟨?_, (tp3 i hi).2⟩
    show (zgi h1 79 i).toInt = (zgi h 19 i).toInt
    rw [e i, (tp3 i hi).1]
  refine cx_tube (T := T) (L := gz h 18 1) I.w I.vd rfl tp2.1 tp2.2 ha1 ha2 (fun i hi => by rw [hT]; exact ⟨rfl, (tp3 i hi).2⟩) (fun hb => ?_) (fun n hn hle e pe h' F => ?_) (fun n hn hle D pD hne h' s h'' RI Td => ?_)
  · refine k (zj (-1)) _ I.s78 (fun R2 q1 q2 => ?_)
    refine cm_tubeHead (T := T) (L := gz h 18 1) (h := zpi h 16 5 (zj 2)) pk mw I.ex.1 ((gz_pi0 (by omega)).trans tp1) tp2.1 tp2.2 ha1 ha2 (tx79 _ (fun i => zpi_o (by omega))) (fun _ => q1 _ d p (I.q (zQh_pi h 2) ⟨rfl, rfl, fun x y n1 _ _ _ => ?_, fun y _ _ => ?_, ?_, ?_, ?_⟩ (by decide))) (fun n hn hle => absurd ⟨by omega, hle⟩ hb) (fun n hn hle => absurd ⟨by omega, hle⟩ hb)
    · unfold zrf; rw [zpi_o (by omega), zpi_o (by omega), zpi_o (by omega)]
    · unfold zrf; rw [zpi_o (by omega), zpi_o (by omega), zpi_o (by omega)]
    · unfold zrf; rw [zpi_o (by omega), zpi_o (by omega), zpi_s]
    · unfold zrf; rw [zpi_o (by omega), zpi_s]
    · unfold zrf; rw [zpi_s]
  · obtain ⟨w', fr, pv', f1, f2⟩ := F
    obtain ⟨e1, e2, e3, e4⟩ := fr
    obtain ⟨h1, hh1⟩ : ∃ h1, h1 = zpi (zpi h' 18 1 (zj 0)) 16 5 (zj 4) := ⟨_, rfl⟩
    have s1 : h1.1 = h.1 := by rw [hh1]; exact e1
    have i1 : ∀ x y, ¬ (x = 18 ∧ y = 1) → ¬ (x = 16 ∧ y = 5) → zgi h1 x y = zgi h' x y := fun x y q1 q2 => by rw [hh1, zpi_o q2, zpi_o q1]
    have r1 : h1.2.2 = h'.2.2 := by rw [hh1]; rfl
    have rr1 : ∀ x y, zgr h1 x y = zgr h x y := fun x y => by unfold zgr; rw [r1, e2]
    have ss1 : ∀ x, zsh h1 x = zsh h x := fun x => by unfold zsh; rw [s1]
    have mw1 : zMW h1 := zMW_r mw (fun x _ _ => ss1 x) (fun y _ _ => rr1 78 y)
    have x1 : znx h1 = 102 := by unfold znx; rw [s1]; exact I.ex.1
    have g786 : gz h1 78 6 = gz h 18 1 := (congrArg Int32.toInt ((i1 78 6 (by omega) (by omega)).trans (e3 78 6 (by omega) (by omega) (by omega)))).trans tp1
    rw [← hh1]
    refine k (zj (-1)) h1 ((ss1 78).trans I.s78) (fun R2 q1 q2 => ?_)
    refine cm_tubeHead (T := T) (L := gz h 18 1) (h := h1) pk mw1 x1 g786 tp2.1 tp2.2 ha1 ha2 (tx79 _ (fun i => (i1 79 i (by omega) (by omega)).trans (e3 79 i (by omega) (by omega) (by omega)))) (fun z => absurd ⟨by omega, hle⟩ z) (fun n' hn' hle' e' pe' h0 hm B F' => ?_) (fun n' hn' hle' D pD _ h0 hm s' B _ => ?_)
    · have nn : n' = n := by omega
      subst nn
      rw [pe] at pe'
      cases pe'
      obtain ⟨wm, tqm, r4m, fm, -, -, m12, m13⟩ := F'
      obtain ⟨fm1, fm2, fm3, fm4⟩ := fm
      obtain ⟨B1, B2, B3, B4, B5, B6, B7, B8, B9⟩ := B
      obtain ⟨h2, hh2⟩ : ∃ h2, h2 = zpi (zpi hm 78 1 (zj 4)) 78 2 (zj (e.2 : Nat)) := ⟨_, rfl⟩
      have i2 : ∀ x y, x < 102 → ¬ (x = 78 ∧ y ≤ 2) → ¬ (x = 78 ∧ 6 ≤ y ∧ y ≤ 13) → zgi h2 x y = zgi h1 x y := fun x y q1 q2 q3 => by
        rw [hh2, zpi_o (by omega), zpi_o (by omega), fm3 x y (by omega) (by omega), B4 x y q1 (by omega)]
      have j2 : ∀ x y, x < 102 → ¬ (x = 78 ∧ y ≤ 2) → ¬ (x = 78 ∧ 6 ≤ y ∧ y ≤ 13) → ¬ (x = 18 ∧ y = 1) → ¬ (x = 16 ∧ y = 5) → zgi h2 x y = zgi h' x y := fun x y q1 q2 q3 q4 q5 => (i2 x y q1 q2 q3).trans (i1 x y q4 q5)
      have s2 : ∀ x, x < 102 → zsh h2 x = zsh h x := fun x hx => by
        rw [hh2]; show zsh hm x = _; unfold zsh; rw [fm1]; exact (B3 x hx).trans (ss1 x)
      have r2 : ∀ x y, x < 102 → ¬ (x = 78 ∧ y = 4) → zgr h2 x y = zgr h x y := fun x y hx q => by
        rw [hh2]; show zgr hm x y = _; unfold zgr; rw [fm2]; exact (B6 x y hx q).trans (rr1 x y)
      have l2 : ∀ x y, x < 102 → x ≠ 78 → ¬ (d ≤ x ∧ x ≤ d + 11) → ¬ (x = 18 ∧ y = 6) → zgl h2 x y = zgl h x y := fun x y hx q1 q2 q3 => by
        rw [hh2]; show zgl hm x y = _; rw [fm4 x y (by omega) (by omega), B5 x y hx]
        show h1.2.2.1 x y = _
        rw [r1]
        exact e4 x y q2 q3
      have w2 : zCW h2 d p := zCW_r I.w (fun x _ _ => s2 x (by omega)) (fun x y _ _ => r2 x y (by omega) (by omega))
      have mw2 : zMW h2 := zMW_r mw (fun x _ _ => s2 x (by omega)) (fun y q1 q2 => r2 78 y (by omega) (by omega))
      have r24 : zgr h2 78 4 = some 102 := by rw [hh2]; exact r4m
      have r3 : zgr h2 78 3 = none ∨ (zgr h2 78 3 = some 87 ∧ zTq h2 87) := by
        rcases zr3_of I with z | z
        · exact Or.inl ((r2 78 3 (by omega) (by omega)).trans z)
        · exact Or.inr ⟨(r2 78 3 (by omega) (by omega)).trans z.1, zTq_r z.2 (fun i hi => s2 _ (by omega)) (fun y => r2 87 y (by omega) (by omega))⟩
      rw [← hh2]
      refine q2 h2 (zre h2) d p (zre_rn w2 mw2 ((s2 86 (by omega)).trans I.ex.2) r24 r3) (zI_fault (e := e) I s2 (fun x y q1 q2 q3 q4 q5 q6 => (j2 x y q1 (by omega) (by omega) (by omega) q6).trans (e3 x y q3 q4 (by omega))) (fun y hy => (j2 78 y (by omega) (by omega) (by omega) (by omega) (by omega)).trans (e3 78 y (by omega) (by omega) (by omega))) l2 r2 ?_ ?_ ?_ ?_ ?_ ?_ ?_)
      · exact zPV_r pv' (fun i y hi => j2 _ _ (by omega) (by omega) (by omega) (by omega) (by omega))
      · rw [hh2, zpi_o (by omega), zpi_s]
      · rw [i2 16 5 (by omega) (by omega) (by omega), hh1, zpi_s]
      · rw [j2 17 4 (by omega) (by omega) (by omega) (by omega) (by omega), f2, hh2, zpi_s]
      · rw [j2 17 3 (by omega) (by omega) (by omega) (by omega) (by omega), f1, hh2, zpi_o (by omega), zpi_o (by omega), zgi_gz, m12]
      · rw [hh2, gz_pi0 (by omega), gz_pi0 (by omega)]
        exact (congrArg Int32.toInt (fm3 78 6 (by omega) (by omega))).trans B9
      · refine (congrArg Int32.toInt (i2 18 1 (by omega) (by omega) (by omega))).trans ?_
        rw [hh1, zpi_o (by omega), zpi_s]; rfl
    · have nn : n' = n := by omega
      subst nn
      rw [pe] at pD
      cases pD
  · obtain ⟨e1, e2, e3, e4⟩ := RI.fr
    obtain ⟨t1, t2, t3, t4, t5, t6, t7, t8, t9, t10, t11⟩ := Td
    have s1 : h''.1 = h.1 := t1.trans e1
    have ss1 : ∀ x, zsh h'' x = zsh h x := fun x => by unfold zsh; rw [s1]
    have rr1 : ∀ y, zgr h'' 78 y = zgr h 78 y := fun y => by rw [t4 78 y (by omega) (by omega)]; unfold zgr; rw [e2]
    have mw1 : zMW h'' := zMW_r mw (fun x _ _ => ss1 x) (fun y _ _ => rr1 y)
    have x1 : znx h'' = 102 := by unfold znx; rw [s1]; exact I.ex.1
    have i1 : ∀ x y, x ≠ 45 → ¬ (x = 18 ∧ y = 1) → ¬ (x = 46 ∧ 2 ≤ y ∧ y ≤ 4) → ¬ (x = 16 ∧ y = 5) → zgi h'' x y = zgi h' x y := t5
    have g786 : gz h'' 78 6 = gz h 18 1 := (congrArg Int32.toInt ((i1 78 6 (by omega) (by omega) (by omega) (by omega)).trans (e3 78 6 (by omega) (by omega) (by omega)))).trans tp1
    refine k _ h'' ((ss1 78).trans I.s78) (fun R2 q1 q2 => ?_)
    refine cm_tubeHead (T := T) (L := gz h 18 1) (h := h'') pk mw1 x1 g786 tp2.1 tp2.2 ha1 ha2 (tx79 _ (fun i => (i1 79 i (by omega) (by omega) (by omega) (by omega)).trans (e3 79 i (by omega) (by omega) (by omega)))) (fun z => absurd ⟨by omega, hle⟩ z) (fun n' hn' hle' e' pe' h0 hm B F' => ?_) (fun n' hn' hle' D' pD' _ h0 hm s' B MI => ?_)
    · have nn : n' = n := by omega
      subst nn
      rw [pD] at pe'
      cases pe'
    have nn : n' = n := by omega
    subst nn
    rw [pD] at pD'
    cases pD'
    obtain ⟨fm1, fm2, fm3, fm4⟩ := MI.f
    obtain ⟨B1, B2, B3, B4, B5, B6, B7, B8, B9⟩ := B
    refine cm_tubeTail MI (fun h2 k1 k2 k3 k4 k5 k6 k7 k8 k9 kr => ?_)
    have im : ∀ x y, x < 102 → ¬ (x = 78 ∧ y = 0) → ¬ (x = 78 ∧ 6 ≤ y ∧ y ≤ 13) → zgi hm x y = zgi h'' x y := fun x y q1 q2 q3 => (fm3 x y (by omega) (by omega)).trans (B4 x y q1 (by omega))
    have i2 : ∀ x y, x < 102 → x ≠ 78 → x ≠ 80 → zgi h2 x y = zgi h'' x y := fun x y q1 q2 q3 => (k3 x y q3 q2).trans (im x y q1 (by omega) (by omega))
    have j2 : ∀ x y, x < 102 → x ≠ 78 → x ≠ 80 → x ≠ 45 → ¬ (x = 18 ∧ y = 1) → ¬ (x = 46 ∧ 2 ≤ y ∧ y ≤ 4) → ¬ (x = 16 ∧ y = 5) → zgi h2 x y = zgi h' x y := fun x y q1 q2 q3 q4 q5 q6 q7 => (i2 x y q1 q2 q3).trans (i1 x y q4 q5 q6 q7)
    have s2 : ∀ x, x < 102 → zsh h2 x = zsh h x := fun x hx => by
      unfold zsh; rw [k1, fm1]; exact (B3 x hx).trans (ss1 x)
    have sm : ∀ x, zsh h2 x = zsh hm x := fun x => by unfold zsh; rw [k1]
    have rm : ∀ x y, ¬ (x = 78 ∧ y = 3) → zgr h2 x y = zgr hm x y := fun x y q => (congrArg (fun z => z.2 x y) k2 : h2.2.2.2 x y = (zpr hm 78 3 (some 102)).2.2.2 x y).trans (if_neg q)
    have r3 : zgr h2 78 3 = some 102 := (congrArg (fun z => z.2 78 3) k2 : zgr h2 78 3 = zgr (zpr hm 78 3 (some 102)) 78 3).trans (by rw [zgr_pr, if_pos ⟨rfl, rfl⟩])
    have r2 : ∀ x y, x < 102 → ¬ (x = 78 ∧ (y = 3 ∨ y = 4)) → zgr h2 x y = zgr h'' x y := fun x y hx q => by
      rw [rm x y (by omega)]; unfold zgr; rw [fm2]; exact B6 x y hx (by omega)
    have lm : ∀ x y, zgl h2 x y = zgl hm x y := fun x y => (congrArg (fun z => z.1 x y) k2 : h2.2.2.1 x y = (zpr hm 78 3 (some 102)).2.2.1 x y)
    have l2 : ∀ x y, x < 102 → x ≠ 78 → zgl h2 x y = zgl h' x y := fun x y hx q1 => by
      rw [lm x y, fm4 x y (by omega) (by omega), B5 x y hx]
      show h''.2.2.1 x y = _
      rw [t3]; rfl
    have w2 : zCW h2 p d := zCW_r t2 (fun x q1 q2 => (s2 x (by omega)).trans (ss1 x).symm) (fun x y q1 q2 => r2 x y (by omega) (by omega))
    have mw2 : zMW h2 := zMW_r MI.w (fun x _ _ => sm x) (fun y q1 q2 => rm 78 y (by omega))
    have tq2 : zTq h2 102 := zTq_r MI.q (fun i hi => sm _) (fun y => rm 102 y (by omega))
    have dr2 : zDR h2 d D := RI.dr.mv (fun x y hx => j2 x y (by omega) (by omega) (by omega) (by omega) (by omega) (by omega) (by omega)) (fun x y hx => l2 x y (by omega) (by omega))
    have md2 : zMD h2 102 D := MI.d.mv (fun x y hx => k3 x y (by omega) (by omega)) (fun x y hx => lm x y)
    have pv2 : zPV h2 d := zPV_r RI.pv (fun i y hi => j2 _ _ (by omega) (by omega) (by omega) (by omega) (by omega) (by omega) (by omega))
    have g2 : ∀ x y, x < 102 → x ≠ 78 → x ≠ 80 → gz h2 x y = gz h'' x y := fun x y q1 q2 q3 => congrArg Int32.toInt (i2 x y q1 q2 q3)
    have gd2 : ∀ i y, i ≤ 11 → gz h2 (d + i) y = gz h' (d + i) y := fun i y hi => congrArg Int32.toInt (j2 _ _ (by omega) (by omega) (by omega) (by omega) (by omega) (by omega) (by omega))
    have gd0 : ∀ y, gz h2 d y = gz h' d y := fun y => gd2 0 y (by omega)
    have row0 : zrow0 h2 h2 d := by
      refine ⟨fun b hb => ?_, fun i hi => ⟨?_, ?_⟩, ?_⟩
      · rw [g2 45 b (by omega) (by omega) (by omega), gd0, gd2 4 b (by omega)]
        exact t6.1 b hb
      · rw [g2 45 (6 + i) (by omega) (by omega) (by omega), gd0, gd2 11 i (by omega)]
        exact (t6.2.1 i hi).1
      · rw [g2 45 (10 + i) (by omega) (by omega) (by omega)]
        exact (t6.2.1 i hi).2
      · rw [g2 45 14 (by omega) (by omega) (by omega)]
        exact t6.2.2
    refine q2 h2 (zrlx h2) p d (zrlx_rn w2 mw2 ((s2 86 (by omega)).trans I.ex.2) tq2 r3 ((rm 78 4 (by omega)).trans MI.r)) (zI_laid (D := D) I w2 mw2 tq2 ((s2 86 (by omega)).trans I.ex.2) (fun x y q0 q1 q2 q3 q4 q5 => (j2 x y q1 q4 q3 q2 (by omega) q5 (by omega)).trans (e3 x y (by omega) (by omega) (by omega))) (fun i y hi => (j2 _ _ (by omega) (by omega) (by omega) (by omega) (by omega) (by omega) (by omega)).trans (e3 _ _ (by omega) (by omega) (by omega))) dr2 md2 RI.do hne pv2 row0 (fun i hi => (zrow_eq RI.dr MI.d t6 kr i hi).trans (g2 45 i (by omega) (by omega) (by omega)).symm) k6 ?_ k7 ?_ ?_ ?_ ?_ ?_ ?_ ?_ ?_)
    · exact (i2 16 5 (by omega) (by omega) (by omega)).trans t11
    · rw [k4 12 (by omega) (by omega) (by omega), j2 17 3 (by omega) (by omega) (by omega) (by omega) (by omega) (by omega) (by omega), RI.f0, zgi_gz, MI.z]
    · exact (congrArg Int32.toInt ((k4 6 (by omega) (by omega) (by omega)).trans (fm3 78 6 (by omega) (by omega)))).trans B9
    · exact (g2 18 1 (by omega) (by omega) (by omega)).trans t7
    · exact (g2 46 2 (by omega) (by omega) (by omega)).trans t8
    · exact (g2 46 3 (by omega) (by omega) (by omega)).trans t9
    · exact (g2 46 4 (by omega) (by omega) (by omega)).trans t10
    · show (zgi h2 78 19).toInt = 0
      rw [k8]; rfl
    · show (zgi h2 78 20).toInt = 0
      rw [k9]; rfl
end ZSU
