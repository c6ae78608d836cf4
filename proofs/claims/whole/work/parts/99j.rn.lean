def zisr (ty : FieldType) : Bool := match ty with
  | .object _ => true
  | .array _ => true
  | _ => false
def zrj (ci j : Nat) : Bool := match (zft ci)[j]? with
  | some ty => zisr ty
  | none => false
def zRf (c : Nat ⊕ (FieldType × Nat)) (j : Nat) : Prop := match c with
  | .inl ci => zrj ci j = true
  | .inr (.array _, n) => j < n
  | _ => False
theorem zrj_lt {ci j : Nat} (h : zrj ci j = true) : j < (zft ci).length := by
  apply Classical.byContradiction
  intro q
  have : (zft ci)[j]? = none := List.getElem?_eq_none (by omega)
  unfold zrj at h
  rw [this] at h
  cases h
/-- the cells of h stand in h' at other places -/
def zRn (h h' : zHp) : Prop := ∃ ρ : Nat → Nat, znx h' = 102 ∧ (∀ k, k < 87 → ρ k = k) ∧ (∀ k k', k < 102 → k' < 102 → ρ k = ρ k' → k = k') ∧ ∀ k c, zsh h' k = some c → k < 102 ∧ zsh h (ρ k) = some c ∧ (∀ j, zgi h' k j = zgi h (ρ k) j) ∧ (∀ j, zgl h' k j = zgl h (ρ k) j) ∧ ∀ j, zRf c j → zgr h (ρ k) j = (zgr h' k j).map ρ ∧ ∀ q, zgr h' k j = some q → q < 102
section ZRN
variable {h h' : zHp} {d p : Nat}
theorem zRn_rf (hx : znx h = 102) (hs : ∀ k c, zsh h k = some c → k < 102) (hr : ∀ k c j q, zsh h k = some c → zRf c j → zgr h k j = some q → q < 102) : zRn h h :=
  ⟨id, hx, fun _ _ => rfl, fun _ _ _ _ e => e, fun k c hc => ⟨hs k c hc, hc, fun _ => rfl, fun _ => rfl, fun j hj => ⟨by simp, fun q hq => hr k c j q hc hj hq⟩⟩⟩
theorem zcell_rn {ad : Nat → Option Nat} {tys : List (ClassId × FieldType)} {ρ : Nat → Nat} {k : Nat} {c : Nat ⊕ (FieldType × Nat)} {e : va_E} (hi : ∀ j, zgi h' k j = zgi h (ρ k) j) (hl : ∀ j, zgl h' k j = zgl h (ρ k) j) (hr : ∀ j, zRf c j → zgr h (ρ k) j = (zgr h' k j).map ρ ∧ ∀ q, zgr h' k j = some q → q < 102) (hc : zcell ad tys h (ρ k) c e) : zcell (fun k => if k < 102 then ad (ρ k) else none) tys h' k c e := by
  have rv : ∀ (j : Nat) (w : Value), zgr h (ρ k) j = (zgr h' k j).map ρ → (∀ q, zgr h' k j = some q → q < 102) → zrv ad (zgr h (ρ k) j) w → zrv (fun k => if k < 102 then ad (ρ k) else none) (zgr h' k j) w := fun j w e1 e2 hv => by
    rw [e1] at hv
    cases hq : zgr h' k j with
    | none => rw [hq] at hv; exact hv
    | some q =>
      rw [hq] at hv
      obtain ⟨a, h1, h2⟩ := hv
      exact ⟨a, (if_pos (e2 q hq)).trans h1, h2⟩
  have ro : ∀ (j : Nat) (w : Option Nat), zgr h (ρ k) j = (zgr h' k j).map ρ → (∀ q, zgr h' k j = some q → q < 102) → zro ad (zgr h (ρ k) j) w → zro (fun k => if k < 102 then ad (ρ k) else none) (zgr h' k j) w := fun j w e1 e2 hv => by
    rw [e1] at hv
    cases hq : zgr h' k j with
    | none => rw [hq] at hv; exact hv
    | some q =>
      rw [hq] at hv
      obtain ⟨a, h1, h2⟩ := hv
      exact ⟨a, (if_pos (e2 q hq)).trans h1, h2⟩
  cases c with
  | inl ci =>
    obtain ⟨fs, h1, h2, h3⟩ := hc
    refine ⟨fs, h1, h2, fun j ty hj => ?_⟩
    obtain ⟨w, g1, g2⟩ := h3 j ty hj
    refine ⟨w, g1, ?_⟩
    have hz : zisr ty = true → zRf (.inl ci) j := fun z => by
      show zrj ci j = true
      unfold zrj
      rw [hj]
      exact z
    unfold zfv at g2 ⊢
    cases ty <;> simp only [] at g2 ⊢ <;> first | exact g2.elim | (rw [hi]; exact g2) | (rw [hl]; exact g2) | exact rv j w (hr j (hz rfl)).1 (hr j (hz rfl)).2 g2
  | inr q =>
    obtain ⟨cA, t0, x, h1, h2, h3⟩ := hc
    refine ⟨cA, t0, x, h1, h2, ?_⟩
    obtain ⟨ty, n⟩ := q
    unfold zarr at h3 ⊢
    cases ty <;> simp only [] at h3 ⊢ <;> first | exact h3.elim | (obtain ⟨f, g1, g2⟩ := h3; exact ⟨f, g1, fun j hj => by rw [hi]; exact g2 j hj⟩) | (obtain ⟨f, g1, g2⟩ := h3; exact ⟨f, g1, fun j hj => by rw [hl]; exact g2 j hj⟩) | (obtain ⟨f, g1, g2⟩ := h3; exact ⟨f, g1, fun j hj => ro j _ (hr j hj).1 (hr j hj).2 (g2 j hj)⟩)
/-- the places that stand before the law are the first fifteen, or there is nothing to show -/
theorem zV_rn {X : Nat × (Nat → Int32)} {M : zM} {Q : zQt} {k n pc : Nat} {ls : List Value} (hq : ∀ below args s A D ad0 t, ¬ (∀ k, 15 ≤ k → ad0 k = none) → Q below args s A D ad0 t) (hr : zRn h h') (hl : ∀ (i : Nat) (q : Nat), ls[i]? = some (.ref q) → q < 87) (hv : zV X M Q k n pc ls [] h') : zV X M Q k n pc ls [] h := by
  obtain ⟨ρ, hx, h87, hinj, hcell⟩ := hr
  intro p l e s m args below meth c A D ad0 ad tys ws H locs cls cst hB hls hst
  by_cases h0 : ∀ k, 15 ≤ k → ad0 k = none
  rotate_left
  · intro T hT X
    exact ⟨_, Steps.refl _, hq _ _ _ _ _ _ _ h0⟩
  cases hst.nil
  obtain ⟨hC, hE, hL, hK, hP, hD, hS, hH, hF⟩ := hB
  have small : ∀ k, k < 87 → (if k < 102 then ad (ρ k) else none) = ad k := fun k hk => by rw [if_pos (by omega), h87 k hk]
  refine hv p l e s m args below meth c A D ad0 (fun k => if k < 102 then ad (ρ k) else none) tys ws H locs cls [] ⟨hC, hE, fun k a ha => ?_, hK, hP, hD, hS, ⟨fun k k' a ha ha' => ?_, fun k hk => ?_, fun k c hc => ?_⟩, fun k b hb => ?_⟩ ?_ trivial
  · have hk : k < 15 := Nat.not_le.mp fun z => by rw [h0 k z] at ha; cases ha
    show (if k < 102 then ad (ρ k) else none) = some a
    rw [small k (by omega)]
    exact hL k a ha
  · by_cases c1 : k < 102 <;> by_cases c2 : k' < 102
    · simp only [if_pos c1] at ha
      simp only [if_pos c2] at ha'
      exact hinj k k' c1 c2 (hH.1 _ _ _ ha ha')
    · simp only [if_neg c2] at ha'
      cases ha'
    · simp only [if_neg c1] at ha
      cases ha
    · simp only [if_neg c1] at ha
      cases ha
  · rw [hx] at hk
    exact if_neg (by omega)
  · obtain ⟨g1, g2, g3, g4, g5⟩ := hcell k c hc
    obtain ⟨a, q, e9, k1, k2, k3⟩ := hH.2.2 (ρ k) c g2
    exact ⟨a, q, e9, by show (if k < 102 then ad (ρ k) else none) = some a; rw [if_pos g1]; exact k1, k2, zcell_rn g3 g4 g5 k3⟩
  · by_cases c1 : k < 102
    · simp only [if_pos c1] at hb
      have := hF (ρ k) b hb
      refine ⟨?_, this.2⟩
      rcases this.1 with z | z
      · have hk : ρ k < 15 := Nat.not_le.mp fun z' => by rw [h0 _ z'] at z; cases z
        have : ρ k = k := hinj _ _ (by omega) c1 (h87 _ (by omega))
        rw [this] at z
        exact Or.inl z
      · exact Or.inr z
    · simp only [if_neg c1] at hb
      cases hb
  · obtain ⟨q0, lv, q1, q2⟩ := hls
    refine ⟨q0, lv, q1, fun i v hi => ?_⟩
    rcases q2 i v hi with z | ⟨w, z1, z2⟩
    · exact Or.inl z
    · refine Or.inr ⟨w, ?_, z2⟩
      cases v <;> first | exact z1 | (obtain ⟨a, y1, y2⟩ := z1; exact ⟨a, by show (if _ < 102 then ad (ρ _) else none) = some a; rw [small _ (hl i _ hi)]; exact y1, y2⟩)

theorem zref_ok {k j : Nat} {c : Nat ⊕ (FieldType × Nat)} (w : zCW h d p) (m : zMW h) (h86 : zsh h 86 = some (.inr (.long, 1))) (h1 : 16 ≤ k) (h2 : k ≤ 86) (hc : zsh h k = some c) (hr : zRf c j) (hn : ¬ (k = 78 ∧ (j = 3 ∨ j = 4))) : ∃ q, zgr h k j = some q ∧ q ≤ 86 := by
  have hdp := zc_dp w
  have pl : ∀ q, (q = 20 ∨ q = 33) → zPlan h q → q ≤ k → k ≤ q + 11 → ∃ q', zgr h k j = some q' ∧ q' ≤ 86 := fun q hq wq g1 g2 => by
    rcases (show k = q ∨ k = q + 1 ∨ k = q + 2 ∨ k = q + 3 ∨ k = q + 4 ∨ k = q + 5 ∨ k = q + 6 ∨ k = q + 7 ∨ k = q + 8 ∨ k = q + 9 ∨ k = q + 10 ∨ k = q + 11 by omega) with rfl | rfl | rfl | rfl | rfl | rfl | rfl | rfl | rfl | rfl | rfl | rfl
    · cases hc.symm.trans (zp_s wq)
      have hj : j < 16 := zrj_lt hr
      rcases (show j = 0 ∨ j = 1 ∨ j = 2 ∨ j = 3 ∨ j = 4 ∨ j = 5 ∨ j = 6 ∨ j = 7 ∨ j = 8 ∨ j = 9 ∨ j = 10 ∨ j = 11 ∨ j = 12 ∨ j = 13 ∨ j = 14 ∨ j = 15 by omega) with rfl | rfl | rfl | rfl | rfl | rfl | rfl | rfl | rfl | rfl | rfl | rfl | rfl | rfl | rfl | rfl
      · exact absurd (show zrj 1 0 = true from hr) (by decide)
      · exact absurd (show zrj 1 1 = true from hr) (by decide)
      · exact ⟨_, zp_r2 wq, by omega⟩
      · exact ⟨_, zp_r3 wq, by omega⟩
      · exact ⟨_, zp_r4 wq, by omega⟩
      · exact ⟨_, zp_r5 wq, by omega⟩
      · exact ⟨_, zp_r6 wq, by omega⟩
      · exact ⟨_, zp_r7 wq, by omega⟩
      · exact absurd (show zrj 1 8 = true from hr) (by decide)
      · exact ⟨_, zp_r9 wq, by omega⟩
      · exact ⟨_, zp_r10 wq, by omega⟩
      · exact absurd (show zrj 1 11 = true from hr) (by decide)
      · exact ⟨_, zp_r12 wq, by omega⟩
      · exact absurd (show zrj 1 13 = true from hr) (by decide)
      · exact ⟨_, zp_r14 wq, by omega⟩
      · exact ⟨_, zp_r15 wq, by omega⟩
    · cases hc.symm.trans (zp_s1 wq); exact False.elim hr
    · cases hc.symm.trans (zp_s2 wq); exact False.elim hr
    · cases hc.symm.trans (zp_s3 wq); exact False.elim hr
    · cases hc.symm.trans (zp_s4 wq); exact False.elim hr
    · cases hc.symm.trans (zp_s5 wq); exact False.elim hr
    · cases hc.symm.trans (zp_s6 wq); exact False.elim hr
    · cases hc.symm.trans (zp_s7 wq); exact False.elim hr
    · cases hc.symm.trans (zp_s8 wq); exact False.elim hr
    · cases hc.symm.trans (zp_s9 wq); exact False.elim hr
    · cases hc.symm.trans (zp_s10 wq); exact False.elim hr
    · cases hc.symm.trans (zp_s11 wq); exact False.elim hr
  rcases (show k = 16 ∨ k = 17 ∨ k = 18 ∨ k = 19 ∨ (20 ≤ k ∧ k ≤ 31) ∨ k = 32 ∨ (33 ≤ k ∧ k ≤ 44) ∨ k = 45 ∨ k = 46 ∨ k = 47 ∨ (48 ≤ k ∧ k ≤ 63) ∨ k = 64 ∨ (65 ≤ k ∧ k ≤ 67) ∨ k = 68 ∨ k = 69 ∨ (70 ≤ k ∧ k ≤ 75) ∨ k = 76 ∨ k = 77 ∨ k = 78 ∨ k = 79 ∨ k = 80 ∨ k = 81 ∨ k = 82 ∨ k = 83 ∨ k = 84 ∨ k = 85 ∨ k = 86 by omega) with rfl | rfl | rfl | rfl | g | rfl | g | rfl | rfl | rfl | g | rfl | g | rfl | rfl | g | rfl | rfl | rfl | rfl | rfl | rfl | rfl | rfl | rfl | rfl | rfl
  · cases hc.symm.trans (zc_s16 w)
    have hj : j < 6 := zrj_lt hr
    rcases (show j = 0 ∨ j = 1 ∨ j = 2 ∨ j = 3 ∨ j = 4 ∨ j = 5 by omega) with rfl | rfl | rfl | rfl | rfl | rfl
    · exact ⟨_, zc_r16_0 w, by omega⟩
    · exact ⟨_, zc_r16_1 w, by omega⟩
    · exact ⟨_, zc_r16_2 w, by omega⟩
    · exact ⟨_, zc_r16_3 w, by omega⟩
    · exact ⟨_, zc_r16_4 w, by omega⟩
    · exact absurd (show zrj 7 5 = true from hr) (by decide)
  · cases hc.symm.trans (zc_s17 w)
    have hj : j < 5 := zrj_lt hr
    rcases (show j = 0 ∨ j = 1 ∨ j = 2 ∨ j = 3 ∨ j = 4 by omega) with rfl | rfl | rfl | rfl | rfl
    · exact ⟨_, zc_r17_0 w, by omega⟩
    · exact ⟨_, zc_r17_1 w, by omega⟩
    · exact absurd (show zrj 2 2 = true from hr) (by decide)
    · exact absurd (show zrj 2 3 = true from hr) (by decide)
    · exact absurd (show zrj 2 4 = true from hr) (by decide)
  · cases hc.symm.trans (zc_s18 w)
    have hj : j < 8 := zrj_lt hr
    rcases (show j = 0 ∨ j = 1 ∨ j = 2 ∨ j = 3 ∨ j = 4 ∨ j = 5 ∨ j = 6 ∨ j = 7 by omega) with rfl | rfl | rfl | rfl | rfl | rfl | rfl | rfl
    · exact ⟨_, zc_r18_0 w, by omega⟩
    · exact absurd (show zrj 6 1 = true from hr) (by decide)
    · exact absurd (show zrj 6 2 = true from hr) (by decide)
    · exact absurd (show zrj 6 3 = true from hr) (by decide)
    · exact absurd (show zrj 6 4 = true from hr) (by decide)
    · exact absurd (show zrj 6 5 = true from hr) (by decide)
    · exact absurd (show zrj 6 6 = true from hr) (by decide)
    · exact absurd (show zrj 6 7 = true from hr) (by decide)
  · cases hc.symm.trans (zc_s19 w); exact False.elim hr
  · rcases hdp with ⟨e1, e2⟩ | ⟨e1, e2⟩
    · exact pl d (Or.inl e1) (zc_pd w) (by omega) (by omega)
    · exact pl p (Or.inl e2) (zc_pp w) (by omega) (by omega)
  · cases hc.symm.trans (zc_s32 w)
    have hj : j < 2 := zrj_lt hr
    rcases (show j = 0 ∨ j = 1 by omega) with rfl | rfl
    · exact ⟨_, zc_r32_0 w, by omega⟩
    · exact ⟨_, zc_r32_1 w, by omega⟩
  · rcases hdp with ⟨e1, e2⟩ | ⟨e1, e2⟩
    · exact pl p (Or.inr e2) (zc_pp w) (by omega) (by omega)
    · exact pl d (Or.inr e1) (zc_pd w) (by omega) (by omega)
  · cases hc.symm.trans (zc_s45 w); exact False.elim hr
  · cases hc.symm.trans (zc_s46 w)
    have hj : j < 5 := zrj_lt hr
    rcases (show j = 0 ∨ j = 1 ∨ j = 2 ∨ j = 3 ∨ j = 4 by omega) with rfl | rfl | rfl | rfl | rfl
    · exact ⟨_, zc_r46_0 w, by omega⟩
    · exact ⟨_, zc_r46_1 w, by omega⟩
    · exact absurd (show zrj 0 2 = true from hr) (by decide)
    · exact absurd (show zrj 0 3 = true from hr) (by decide)
    · exact absurd (show zrj 0 4 = true from hr) (by decide)
  · cases hc.symm.trans (zc_s47 w); have hj : j < 16 := hr; exact ⟨_, (zc_act w j hj).2, by omega⟩
  · obtain ⟨i, rfl⟩ : ∃ i, k = 48 + i := ⟨k - 48, by omega⟩
    cases hc.symm.trans (zc_act w i (by omega)).1; exact False.elim hr
  · cases hc.symm.trans (zc_s64 w); have hj : j < 3 := hr; exact ⟨_, (zc_img w j hj).2, by omega⟩
  · obtain ⟨i, rfl⟩ : ∃ i, k = 65 + i := ⟨k - 65, by omega⟩
    cases hc.symm.trans (zc_img w i (by omega)).1; exact False.elim hr
  · cases hc.symm.trans (zc_s68 w)
    have hj : j < 2 := zrj_lt hr
    rcases (show j = 0 ∨ j = 1 by omega) with rfl | rfl
    · exact ⟨_, zc_r68_0 w, by omega⟩
    · exact ⟨_, zc_r68_1 w, by omega⟩
  · cases hc.symm.trans (zc_s69 w); have hj : j < 6 := hr; exact ⟨_, (zc_cnt w j hj).2, by omega⟩
  · obtain ⟨i, rfl⟩ : ∃ i, k = 70 + i := ⟨k - 70, by omega⟩
    cases hc.symm.trans (zc_cnt w i (by omega)).1; exact False.elim hr
  · cases hc.symm.trans (zc_s76 w); exact False.elim hr
  · cases hc.symm.trans (zc_s77 w)
    have hj : j < 4 := zrj_lt hr
    rcases (show j = 0 ∨ j = 1 ∨ j = 2 ∨ j = 3 by omega) with rfl | rfl | rfl | rfl
    · exact absurd (show zrj 5 0 = true from hr) (by decide)
    · exact absurd (show zrj 5 1 = true from hr) (by decide)
    · exact absurd (show zrj 5 2 = true from hr) (by decide)
    · exact absurd (show zrj 5 3 = true from hr) (by decide)
  · cases hc.symm.trans (mw_s m)
    have hj : j < 27 := zrj_lt hr
    rcases (show j = 0 ∨ j = 1 ∨ j = 2 ∨ j = 3 ∨ j = 4 ∨ j = 5 ∨ j = 6 ∨ j = 7 ∨ j = 8 ∨ j = 9 ∨ j = 10 ∨ j = 11 ∨ j = 12 ∨ j = 13 ∨ j = 14 ∨ j = 15 ∨ j = 16 ∨ j = 17 ∨ j = 18 ∨ j = 19 ∨ j = 20 ∨ j = 21 ∨ j = 22 ∨ j = 23 ∨ j = 24 ∨ j = 25 ∨ j = 26 by omega) with rfl | rfl | rfl | rfl | rfl | rfl | rfl | rfl | rfl | rfl | rfl | rfl | rfl | rfl | rfl | rfl | rfl | rfl | rfl | rfl | rfl | rfl | rfl | rfl | rfl | rfl | rfl
    · exact absurd (show zrj 9 0 = true from hr) (by decide)
    · exact absurd (show zrj 9 1 = true from hr) (by decide)
    · exact absurd (show zrj 9 2 = true from hr) (by decide)
    · exact absurd ⟨rfl, by omega⟩ hn
    · exact absurd ⟨rfl, by omega⟩ hn
    · exact ⟨_, mw_r5 m, by omega⟩
    · exact absurd (show zrj 9 6 = true from hr) (by decide)
    · exact absurd (show zrj 9 7 = true from hr) (by decide)
    · exact absurd (show zrj 9 8 = true from hr) (by decide)
    · exact absurd (show zrj 9 9 = true from hr) (by decide)
    · exact absurd (show zrj 9 10 = true from hr) (by decide)
    · exact absurd (show zrj 9 11 = true from hr) (by decide)
    · exact absurd (show zrj 9 12 = true from hr) (by decide)
    · exact absurd (show zrj 9 13 = true from hr) (by decide)
    · exact absurd (show zrj 9 14 = true from hr) (by decide)
    · exact ⟨_, mw_r15 m, by omega⟩
    · exact ⟨_, mw_r16 m, by omega⟩
    · exact ⟨_, mw_r17 m, by omega⟩
    · exact ⟨_, mw_r18 m, by omega⟩
    · exact absurd (show zrj 9 19 = true from hr) (by decide)
    · exact absurd (show zrj 9 20 = true from hr) (by decide)
    · exact ⟨_, mw_r21 m, by omega⟩
    · exact ⟨_, mw_r22 m, by omega⟩
    · exact absurd (show zrj 9 23 = true from hr) (by decide)
    · exact absurd (show zrj 9 24 = true from hr) (by decide)
    · exact absurd (show zrj 9 25 = true from hr) (by decide)
    · exact absurd (show zrj 9 26 = true from hr) (by decide)
  · cases hc.symm.trans (mw_s79 m); exact False.elim hr
  · cases hc.symm.trans (mw_s80 m); exact False.elim hr
  · cases hc.symm.trans (mw_s81 m); exact False.elim hr
  · cases hc.symm.trans (mw_s82 m); exact False.elim hr
  · cases hc.symm.trans (mw_s83 m); exact False.elim hr
  · cases hc.symm.trans (mw_s84 m); exact False.elim hr
  · cases hc.symm.trans (mw_s85 m); exact False.elim hr
  · cases hc.symm.trans h86; exact False.elim hr
theorem zCW_r (w : zCW h d p) (a1 : ∀ x, 16 ≤ x → x ≤ 77 → zsh h' x = zsh h x) (r : ∀ x y, 16 ≤ x → x ≤ 77 → zgr h' x y = zgr h x y) : zCW h' d p := by
  have hdp := zc_dp w
  have pl : ∀ q, (q = 20 ∨ q = 33) → zPlan h q → zPlan h' q := fun q hq wq => by
    unfold zPlan at wq ⊢
    simp (disch := omega) only [a1, r]
    exact wq
  have c1 := zc_act w
  have c2 := zc_img w
  have c3 := zc_cnt w
  exact ⟨pl d (by omega) (zc_pd w), pl p (by omega) (zc_pp w), (a1 _ (by omega) (by omega)).trans (zc_s16 w), (a1 _ (by omega) (by omega)).trans (zc_s17 w), (a1 _ (by omega) (by omega)).trans (zc_s18 w), (a1 _ (by omega) (by omega)).trans (zc_s19 w), (a1 _ (by omega) (by omega)).trans (zc_s32 w), (a1 _ (by omega) (by omega)).trans (zc_s45 w), (a1 _ (by omega) (by omega)).trans (zc_s46 w), (a1 _ (by omega) (by omega)).trans (zc_s47 w), (a1 _ (by omega) (by omega)).trans (zc_s64 w), (a1 _ (by omega) (by omega)).trans (zc_s68 w), (a1 _ (by omega) (by omega)).trans (zc_s69 w), (a1 _ (by omega) (by omega)).trans (zc_s76 w), (a1 _ (by omega) (by omega)).trans (zc_s77 w), (r _ _ (by omega) (by omega)).trans (zc_r16_0 w), (r _ _ (by omega) (by omega)).trans (zc_r16_1 w), (r _ _ (by omega) (by omega)).trans (zc_r16_2 w), (r _ _ (by omega) (by omega)).trans (zc_r16_3 w), (r _ _ (by omega) (by omega)).trans (zc_r16_4 w), (r _ _ (by omega) (by omega)).trans (zc_r17_0 w), (r _ _ (by omega) (by omega)).trans (zc_r17_1 w), (r _ _ (by omega) (by omega)).trans (zc_r18_0 w), (r _ _ (by omega) (by omega)).trans (zc_r32_0 w), (r _ _ (by omega) (by omega)).trans (zc_r32_1 w), (r _ _ (by omega) (by omega)).trans (zc_r46_0 w), (r _ _ (by omega) (by omega)).trans (zc_r46_1 w), (r _ _ (by omega) (by omega)).trans (zc_r68_0 w), (r _ _ (by omega) (by omega)).trans (zc_r68_1 w), fun i hi => ⟨(a1 _ (by omega) (by omega)).trans (c1 i hi).1, (r _ _ (by omega) (by omega)).trans (c1 i hi).2⟩, fun i hi => ⟨(a1 _ (by omega) (by omega)).trans (c2 i hi).1, (r _ _ (by omega) (by omega)).trans (c2 i hi).2⟩, fun i hi => ⟨(a1 _ (by omega) (by omega)).trans (c3 i hi).1, (r _ _ (by omega) (by omega)).trans (c3 i hi).2⟩, hdp⟩
theorem zMW_r (w : zMW h) (a1 : ∀ x, 78 ≤ x → x ≤ 85 → zsh h' x = zsh h x) (r : ∀ y, y ≠ 3 → y ≠ 4 → zgr h' 78 y = zgr h 78 y) : zMW h' := by
  unfold zMW at w ⊢
  simp (disch := omega) only [a1, r]
  exact w
theorem zPV_r {q q' : Nat} (v : zPV h q) (e : ∀ i y, i ≤ 11 → zgi h' (q' + i) y = zgi h (q + i) y) : zPV h' q' := by
  have g : ∀ i y, i ≤ 11 → gz h' (q' + i) y = gz h (q + i) y := fun i y hi => congrArg Int32.toInt (e i y hi)
  have g0 : ∀ y, gz h' q' y = gz h q y := fun y => g 0 y (by omega)
  unfold zPV at v ⊢
  refine ⟨by rw [g0]; exact v.1, fun b hb => ?_, by rw [g0]; exact v.2.2.1, fun b hb => ?_, by rw [g0]; exact v.2.2.2.2.1, fun b hb => ?_, by rw [g0]; exact v.2.2.2.2.2.2.1, fun b hb => ?_, by rw [g0]; exact v.2.2.2.2.2.2.2.2⟩
  · rw [g 2 b (by omega), g 4 b (by omega), g 5 b (by omega), g 6 b (by omega)]
    exact v.2.1 b hb
  · rw [g 7 b (by omega)]
    exact v.2.2.2.1 b hb
  · rw [g 9 b (by omega)]
    exact v.2.2.2.2.2.1 b hb
  · rw [g 11 b (by omega)]
    exact v.2.2.2.2.2.2.2.1 b hb
theorem zTR_r {t : Nat} (r : zTRt h t p) (e : ∀ i y, i ≤ 11 → zgi h' (p + i) y = zgi h (p + i) y) (el : ∀ i y, i ≤ 11 → zgl h' (p + i) y = zgl h (p + i) y) (e2 : ∀ i y, i ≤ 13 → zgi h' (87 + i) y = zgi h (t + i) y) (el2 : ∀ i y, i ≤ 13 → zgl h' (87 + i) y = zgl h (t + i) y) : zTR h' p := by
  have g : ∀ i y, i ≤ 11 → gz h' (p + i) y = gz h (p + i) y := fun i y hi => congrArg Int32.toInt (e i y hi)
  have g0 : ∀ y, gz h' p y = gz h p y := fun y => g 0 y (by omega)
  have t0 : ∀ y, gz h' 87 y = gz h t y := fun y => congrArg Int32.toInt (e2 0 y (by omega))
  have t1 : ∀ y, gz h' 88 y = gz h (t + 1) y := fun y => congrArg Int32.toInt (e2 1 y (by omega))
  have t2 : ∀ y, gz h' 89 y = gz h (t + 2) y := fun y => congrArg Int32.toInt (e2 2 y (by omega))
  have t3 : ∀ y, gz h' 90 y = gz h (t + 3) y := fun y => congrArg Int32.toInt (e2 3 y (by omega))
  have t4 : ∀ y, gz h' 91 y = gz h (t + 4) y := fun y => congrArg Int32.toInt (e2 4 y (by omega))
  have t6 : ∀ y, gz h' 93 y = gz h (t + 6) y := fun y => congrArg Int32.toInt (e2 6 y (by omega))
  have t7 : ∀ y, gz h' 94 y = gz h (t + 7) y := fun y => congrArg Int32.toInt (e2 7 y (by omega))
  have u5 : ∀ y, zgl h' 92 y = zgl h (t + 5) y := fun y => el2 5 y (by omega)
  have u10 : ∀ y, zgl h' 97 y = zgl h (t + 10) y := fun y => el2 10 y (by omega)
  have en : zn h' p = zn h p := by unfold zn; rw [g0]
  have eS : zS h' p = zS h p := by funext b; exact g 2 b (by omega)
  have e5 : zcnt (fun b => ¬ gz h' (p + 5) b = -2) (zn h p) = zcnt (fun b => ¬ gz h (p + 5) b = -2) (zn h p) := zcnt_c _ (fun i _ => by rw [g 5 _ (by omega)])
  have e6 : zcnt (fun b => ¬ gz h' (p + 6) b = -2) (zn h p) = zcnt (fun b => ¬ gz h (p + 6) b = -2) (zn h p) := zcnt_c _ (fun i _ => by rw [g 6 _ (by omega)])
  unfold zTRt at r
  unfold zTR
  simp only [en, eS, e5, e6, g0, t0]
  refine ⟨r.1, r.2.1, r.2.2.1, r.2.2.2.1, r.2.2.2.2.1, r.2.2.2.2.2.1, r.2.2.2.2.2.2.1, fun b hb => ?_, fun i hi => ?_, fun i hi => ?_⟩
  · rw [t1, t2, t3, t4, g 4 _ (by omega), g 5 _ (by omega), g 6 _ (by omega), u5, el 3 _ (by omega)]
    exact r.2.2.2.2.2.2.2.1 b hb
  · rw [t6, g 7 _ (by omega), u10, el 8 _ (by omega)]
    exact r.2.2.2.2.2.2.2.2.1 i hi
  · rw [t7, g 9 _ (by omega)]
    exact r.2.2.2.2.2.2.2.2.2 i hi
end ZRN
