/-! a text's meaning -/
def zkw : List (List Nat) := [[116, 117, 98, 101], [114, 111, 108, 108, 115], [98, 105, 116], [119, 97, 110, 116], [97, 102, 116, 101, 114], [109, 101, 116], [104, 111, 108, 105, 100, 97, 121], [112, 101, 114, 115, 111, 110], [108, 105, 103, 104, 116], [112, 108, 97, 105, 110], [104, 101, 97, 118, 121], [103, 108, 117, 101, 100], [97, 116], [105, 110]]
def zk1 (i : Nat) : List Nat := zkw.getD i []
theorem zk1_lt : ∀ i, i < 14 → zlt (zk1 i) := by
  have : ∀ i, i < 14 → zk1 i ≠ [] ∧ (zk1 i).length ≤ 8 ∧ ∀ c ∈ zk1 i, 97 ≤ c ∧ c ≤ 122 := by decide
  exact this
abbrev zEr : Type := Nat × Nat
abbrev zBt : Type := List Nat × Nat × List Nat × Nat × Int × Int
abbrev zDt : Type := Int × List zBt × List (Nat × List Nat) × List Nat × List (List Nat × Nat × Nat) × List (List Nat × Nat × Nat)
noncomputable def zif {α : Type} (P : Prop) (a b : α) : α := @ite _ P (Classical.propDecidable P) a b
theorem zif_t {α : Type} {P : Prop} {a b : α} (h : P) : zif P a b = a := by unfold zif; rw [if_pos h]
theorem zif_f {α : Type} {P : Prop} {a b : α} (h : ¬ P) : zif P a b = b := by unfold zif; rw [if_neg h]
def zbd {α β : Type} (x : zEr ⊕ α) (f : α → zEr ⊕ β) : zEr ⊕ β := match x with
  | .inl e => .inl e
  | .inr a => f a
def isLn (l : List Nat) : Prop := l = zk1 0 ∨ l = zk1 2 ∨ l = zk1 3 ∨ l = zk1 4 ∨ l = zk1 5 ∨ l = zk1 6 ∨ l = zk1 7
section ZPU
variable (T : Nat → Int) (n : Nat)
noncomputable def pW (kw : List Nat) (s : Nat) : zEr ⊕ Nat := zif (tk_d T n s = 1 ∧ tk_w T n s = kw) (.inr (tk_e T n s)) (.inl (1, tk_p T n s))
noncomputable def pA (s : Nat) : zEr ⊕ (List Nat × Nat) := zif (tk_d T n s = 1) (.inr (tk_w T n s, tk_e T n s)) (.inl (1, tk_p T n s))
noncomputable def pN (m s : Nat) : zEr ⊕ (Nat × Nat) := zif (tk_d T n s = 2) (zif (tk_v T n s ≤ m) (.inr (tk_v T n s, tk_e T n s)) (.inl (4, tk_p T n s))) (.inl (1, tk_p T n s))
def zNmd (D : zDt) (l : List Nat) : Prop := ∃ x ∈ D.2.2.2.2.2, x.1 = l
noncomputable def pNew (D : zDt) (s : Nat) : zEr ⊕ (List Nat × Nat) := zif (tk_d T n s = 1 ∧ ¬ isLn (tk_w T n s)) (zif (zNmd D (tk_w T n s)) (.inl (3, tk_p T n s)) (.inr (tk_w T n s, tk_e T n s))) (.inl (1, tk_p T n s))
def zbx (l : List Nat) : List zBt → Nat → Option Nat
  | [], _ => none
  | b :: bs, i => if b.1 = l then some i else zbx l bs (i + 1)
def zwa (a : Bool) (b : zBt) : Int := if a = true then b.2.2.2.2.2 else b.2.2.2.2.1
def zws1 (a : Bool) (b : zBt) (v : Nat) : zBt := if a = true then (b.1, b.2.1, b.2.2.1, b.2.2.2.1, b.2.2.2.2.1, (v : Int)) else (b.1, b.2.1, b.2.2.1, b.2.2.2.1, (v : Int), b.2.2.2.2.2)
def zbt (D : zDt) (i : Nat) : zBt := D.2.1.getD i ([], 0, [], 0, 0, 0)
noncomputable def pOld (D : zDt) (a : Bool) (s : Nat) : zEr ⊕ (Nat × Nat) := zif (tk_d T n s = 1 ∧ ¬ isLn (tk_w T n s)) (match zbx (tk_w T n s) D.2.1 0 with
  | none => .inl (2, tk_p T n s)
  | some b => zif (zwa a (zbt D b) = -2) (.inr (b, tk_e T n s)) (.inl (3, tk_p T n s))) (.inl (1, tk_p T n s))
noncomputable def pSort (s : Nat) : zEr ⊕ (Nat × Nat) := zif (tk_d T n s = 1 ∧ tk_w T n s = zk1 8) (.inr (0, tk_e T n s)) (zif (tk_d T n s = 1 ∧ tk_w T n s = zk1 9) (.inr (1, tk_e T n s)) (zif (tk_d T n s = 1 ∧ tk_w T n s = zk1 10) (.inr (2, tk_e T n s)) (zif (tk_d T n s = 1 ∧ tk_w T n s = zk1 11) (.inr (3, tk_e T n s)) (.inl (1, tk_p T n s)))))
noncomputable def pTube (D : zDt) (pl s : Nat) : zEr ⊕ (zDt × Nat) := zif (D.1 = -1) (zbd (pW T n (zk1 1) s) (fun s1 => zbd (pN T n 100 s1) (fun v => .inr (((v.1 : Int), D.2), v.2)))) (.inl (3, pl))
noncomputable def pBit (D : zDt) (pl s : Nat) : zEr ⊕ (zDt × Nat) := zif (6 ≤ D.2.1.length) (.inl (5, pl)) (zbd (pNew T n D s) (fun a => zbd (pSort T n a.2) (fun b => zbd (pA T n b.2) (fun c => zbd (pW T n (zk1 12) c.2) (fun s4 => zbd (pN T n 11 s4) (fun v => .inr ((D.1, D.2.1 ++ [(a.1, b.1, c.1, v.1, -2, -2)], D.2.2.1, D.2.2.2.1, D.2.2.2.2.1, D.2.2.2.2.2 ++ [(a.1, 0, D.2.1.length)]), v.2)))))))
noncomputable def pCell (D : zDt) (a : Bool) (s : Nat) : zEr ⊕ (zDt × Nat) := zbd (pOld T n D a s) (fun b => zbd (pW T n (zk1 12) b.2) (fun s2 => zbd (pN T n 11 s2) (fun v => .inr ((D.1, D.2.1.set b.1 (zws1 a (zbt D b.1) v.1), D.2.2), v.2))))
noncomputable def pMet (D : zDt) (pl s : Nat) : zEr ⊕ (zDt × Nat) := zif (6 ≤ D.2.2.1.length) (.inl (5, pl)) (zbd (pN T n 11 s) (fun a => zif (∃ x ∈ D.2.2.1, x.1 = a.1) (.inl (3, tk_p T n s)) (zbd (pA T n a.2) (fun c => .inr ((D.1, D.2.1, D.2.2.1 ++ [(a.1, c.1)], D.2.2.2), c.2)))))
noncomputable def pHol (D : zDt) (pl s : Nat) : zEr ⊕ (zDt × Nat) := zif (8 ≤ D.2.2.2.1.length) (.inl (5, pl)) (zbd (pN T n 99 s) (fun a => zif (a.1 ∈ D.2.2.2.1) (.inl (3, tk_p T n s)) (.inr ((D.1, D.2.1, D.2.2.1, D.2.2.2.1 ++ [a.1], D.2.2.2.2), a.2))))
noncomputable def pPer (D : zDt) (pl s : Nat) : zEr ⊕ (zDt × Nat) := zif (4 ≤ D.2.2.2.2.1.length) (.inl (5, pl)) (zbd (pNew T n D s) (fun a => zbd (pW T n (zk1 13) a.2) (fun s2 => zbd (pN T n 5 s2) (fun c => zbd (pW T n (zk1 12) c.2) (fun s4 => zbd (pN T n 11 s4) (fun v => .inr ((D.1, D.2.1, D.2.2.1, D.2.2.2.1, D.2.2.2.2.1 ++ [(a.1, c.1, v.1)], D.2.2.2.2.2 ++ [(a.1, 1, D.2.2.2.2.1.length)]), v.2)))))))
noncomputable def pLine (D : zDt) (s : Nat) : zEr ⊕ (zDt × Nat) := zif (tk_d T n s = 1 ∧ isLn (tk_w T n s)) (zif (tk_w T n s = zk1 0) (pTube T n D (tk_p T n s) (tk_e T n s)) (zif (D.1 = -1) (.inl (6, tk_p T n s)) (zif (tk_w T n s = zk1 2) (pBit T n D (tk_p T n s) (tk_e T n s)) (zif (tk_w T n s = zk1 3) (pCell T n D false (tk_e T n s)) (zif (tk_w T n s = zk1 4) (pCell T n D true (tk_e T n s)) (zif (tk_w T n s = zk1 5) (pMet T n D (tk_p T n s) (tk_e T n s)) (zif (tk_w T n s = zk1 6) (pHol T n D (tk_p T n s) (tk_e T n s)) (pPer T n D (tk_p T n s) (tk_e T n s))))))))) (.inl (1, tk_p T n s))
noncomputable def pAll : Nat → zDt → Nat → zEr ⊕ zDt
  | 0, _, _ => .inl (1, 0)
  | f + 1, D, s => zbd (pLine T n D s) (fun a => zif (tk_d T n a.2 = 0) (zif (a.1.2.1 = []) (.inl (6, tk_p T n a.2)) (.inr a.1)) (zif (tk_d T n a.2 = 3) (pAll f a.1 (tk_e T n a.2)) (.inl (1, tk_p T n a.2))))
end ZPU
section ZPV2
variable {T : Nat → Int} {n : Nat}
theorem tk_pos {s : Nat} (hs : s ≤ n) (hd : ¬ tk_d T n s = 0) : s < tk_e T n s ∧ tk_e T n s ≤ n := by
  have hp := tk_p_b (T := T) hs
  have he := tk_e_b (T := T) hs
  have : tk_p T n s < n := by
    rcases Nat.lt_or_ge (tk_p T n s) n with q | q
    · exact q
    · exact absurd (by unfold tk_d; rw [if_pos q]) hd
  have := he.2.2 this
  omega
theorem zbd_r {α β : Type} {x : zEr ⊕ α} {f : α → zEr ⊕ β} {b : β} (h : zbd x f = .inr b) : ∃ a, x = .inr a ∧ f a = .inr b := by
  cases x with
  | inl e => cases h
  | inr a => exact ⟨a, rfl, h⟩
theorem zif_r {α β : Type} {P : Prop} {x y : α ⊕ β} {b : β} (h : zif P x y = .inr b) : (P ∧ x = .inr b) ∨ (¬ P ∧ y = .inr b) := by
  by_cases c : P
  · rw [zif_t c] at h; exact Or.inl ⟨c, h⟩
  · rw [zif_f c] at h; exact Or.inr ⟨c, h⟩
theorem pW_r {kw : List Nat} {s s' : Nat} (hs : s ≤ n) (h : pW T n kw s = .inr s') : s < s' ∧ s' ≤ n ∧ tk_d T n s = 1 ∧ tk_w T n s = kw ∧ s' = tk_e T n s := by
  unfold pW at h
  rcases zif_r h with ⟨c, e⟩ | ⟨-, e⟩
  · cases e
    have := tk_pos hs (by omega : ¬ tk_d T n s = 0)
    exact ⟨this.1, this.2, c.1, c.2, rfl⟩
  · cases e
theorem pA_r {s : Nat} {a : List Nat × Nat} (hs : s ≤ n) (h : pA T n s = .inr a) : s < a.2 ∧ a.2 ≤ n ∧ zlt a.1 ∧ tk_d T n s = 1 ∧ a = (tk_w T n s, tk_e T n s) := by
  unfold pA at h
  rcases zif_r h with ⟨c, e⟩ | ⟨-, e⟩
  · cases e
    have := tk_pos hs (by omega : ¬ tk_d T n s = 0)
    exact ⟨this.1, this.2, tk_d_1 hs c, c, rfl⟩
  · cases e
theorem pN_r {m s : Nat} {a : Nat × Nat} (hs : s ≤ n) (h : pN T n m s = .inr a) : s < a.2 ∧ a.2 ≤ n ∧ a.1 ≤ m ∧ tk_d T n s = 2 ∧ a = (tk_v T n s, tk_e T n s) := by
  unfold pN at h
  rcases zif_r h with ⟨c, e⟩ | ⟨-, e⟩
  · rcases zif_r e with ⟨c2, e⟩ | ⟨-, e⟩
    · cases e
      have := tk_pos hs (by omega : ¬ tk_d T n s = 0)
      exact ⟨this.1, this.2, c2, c, rfl⟩
    · cases e
  · cases e
theorem pNew_r {D : zDt} {s : Nat} {a : List Nat × Nat} (hs : s ≤ n) (h : pNew T n D s = .inr a) : s < a.2 ∧ a.2 ≤ n ∧ zlt a.1 ∧ ¬ zNmd D a.1 ∧ tk_d T n s = 1 ∧ ¬ isLn (tk_w T n s) ∧ a = (tk_w T n s, tk_e T n s) := by
  unfold pNew at h
  rcases zif_r h with ⟨c, e⟩ | ⟨-, e⟩
  · rcases zif_r e with ⟨-, e⟩ | ⟨c2, e⟩
    · cases e
    · cases e
      have := tk_pos hs (by omega : ¬ tk_d T n s = 0)
      exact ⟨this.1, this.2, tk_d_1 hs c.1, c2, c.1, c.2, rfl⟩
  · cases e
theorem pSort_r {s : Nat} {a : Nat × Nat} (hs : s ≤ n) (h : pSort T n s = .inr a) : s < a.2 ∧ a.2 ≤ n ∧ a.1 ≤ 3 ∧ tk_d T n s = 1 ∧ a.2 = tk_e T n s := by
  unfold pSort at h
  rcases zif_r h with ⟨c, e⟩ | ⟨-, h⟩
  · cases e
    have := tk_pos hs (by omega : ¬ tk_d T n s = 0)
    exact ⟨this.1, this.2, by omega, c.1, rfl⟩
  rcases zif_r h with ⟨c, e⟩ | ⟨-, h⟩
  · cases e
    have := tk_pos hs (by omega : ¬ tk_d T n s = 0)
    exact ⟨this.1, this.2, by omega, c.1, rfl⟩
  rcases zif_r h with ⟨c, e⟩ | ⟨-, h⟩
  · cases e
    have := tk_pos hs (by omega : ¬ tk_d T n s = 0)
    exact ⟨this.1, this.2, by omega, c.1, rfl⟩
  rcases zif_r h with ⟨c, e⟩ | ⟨-, h⟩
  · cases e
    have := tk_pos hs (by omega : ¬ tk_d T n s = 0)
    exact ⟨this.1, this.2, by omega, c.1, rfl⟩
  · cases h
theorem zbx_s {l : List Nat} : ∀ (bs : List zBt) (i b : Nat), zbx l bs i = some b → i ≤ b ∧ b < i + bs.length ∧ (∃ x, bs[b - i]? = some x ∧ x.1 = l) ∧ ∀ (j : Nat) (x : zBt), bs[j]? = some x → j < b - i → ¬ x.1 = l
  | [], i, b, h => by cases h
  | y :: bs, i, b, h => by
    unfold zbx at h
    by_cases c : y.1 = l
    · rw [if_pos c] at h
      cases h
      refine ⟨Nat.le_refl _, by simp, ⟨y, by rw [Nat.sub_self]; rfl, c⟩, fun j x _ hj => by omega⟩
    · rw [if_neg c] at h
      obtain ⟨h1, h2, ⟨x, h3, h4⟩, h5⟩ := zbx_s bs (i + 1) b h
      refine ⟨by omega, by rw [List.length_cons]; omega, ⟨x, by rw [show b - i = (b - (i + 1)) + 1 by omega]; exact h3, h4⟩, fun j x hx hj => ?_⟩
      cases j with
      | zero => cases hx; exact c
      | succ j => exact h5 j x hx (by omega)
theorem zbx_n {l : List Nat} : ∀ (bs : List zBt) (i : Nat), zbx l bs i = none → ∀ (j : Nat) (x : zBt), bs[j]? = some x → ¬ x.1 = l
  | [], i, h, j, x, hx => by simp at hx
  | y :: bs, i, h, j, x, hx => by
    unfold zbx at h
    by_cases c : y.1 = l
    · rw [if_pos c] at h; cases h
    · rw [if_neg c] at h
      cases j with
      | zero => cases hx; exact c
      | succ j => exact zbx_n bs (i + 1) h j x hx
theorem pOld_r {D : zDt} {a : Bool} {s : Nat} {b : Nat × Nat} (hs : s ≤ n) (h : pOld T n D a s = .inr b) : s < b.2 ∧ b.2 ≤ n ∧ b.1 < D.2.1.length ∧ zwa a (zbt D b.1) = -2 ∧ tk_d T n s = 1 ∧ b.2 = tk_e T n s ∧ zbx (tk_w T n s) D.2.1 0 = some b.1 := by
  unfold pOld at h
  rcases zif_r h with ⟨c, e⟩ | ⟨-, e⟩
  · cases hb : zbx (tk_w T n s) D.2.1 0 with
    | none => rw [hb] at e; cases e
    | some x =>
      rw [hb] at e
      rcases zif_r e with ⟨c2, e⟩ | ⟨-, e⟩
      · cases e
        have := tk_pos hs (by omega : ¬ tk_d T n s = 0)
        have h2 := zbx_s _ _ _ hb
        exact ⟨this.1, this.2, by omega, c2, c.1, rfl, rfl⟩
      · cases e
  · cases e
theorem pLine_r {D : zDt} {s : Nat} {a : zDt × Nat} (hs : s ≤ n) (h : pLine T n D s = .inr a) : s < a.2 ∧ a.2 ≤ n := by
  unfold pLine at h
  rcases zif_r h with ⟨c, h⟩ | ⟨-, e⟩
  rotate_left
  · cases e
  have h0 := tk_pos hs (by omega : ¬ tk_d T n s = 0)
  rcases zif_r h with ⟨-, h⟩ | ⟨-, h⟩
  · unfold pTube at h
    rcases zif_r h with ⟨-, h⟩ | ⟨-, e⟩
    · obtain ⟨x1, e1, h⟩ := zbd_r h
      obtain ⟨x2, e2, h⟩ := zbd_r h
      have r1 := pW_r h0.2 e1
      have r2 := pN_r r1.2.1 e2
      cases h
      exact ⟨by dsimp only; omega, by dsimp only; omega⟩
    · cases e
  rcases zif_r h with ⟨-, e⟩ | ⟨-, h⟩
  · cases e
  rcases zif_r h with ⟨-, h⟩ | ⟨-, h⟩
  · unfold pBit at h
    rcases zif_r h with ⟨-, e⟩ | ⟨-, h⟩
    · cases e
    · obtain ⟨x1, e1, h⟩ := zbd_r h
      obtain ⟨x2, e2, h⟩ := zbd_r h
      obtain ⟨x3, e3, h⟩ := zbd_r h
      obtain ⟨x4, e4, h⟩ := zbd_r h
      obtain ⟨x5, e5, h⟩ := zbd_r h
      have r1 := pNew_r h0.2 e1
      have r2 := pSort_r r1.2.1 e2
      have r3 := pA_r r2.2.1 e3
      have r4 := pW_r r3.2.1 e4
      have r5 := pN_r r4.2.1 e5
      cases h
      exact ⟨by dsimp only; omega, by dsimp only; omega⟩
  have hc : ∀ b, pCell T n D b (tk_e T n s) = .inr a → s < a.2 ∧ a.2 ≤ n := fun b h => by
    unfold pCell at h
    obtain ⟨x1, e1, h⟩ := zbd_r h
    obtain ⟨x2, e2, h⟩ := zbd_r h
    obtain ⟨x3, e3, h⟩ := zbd_r h
    have r1 := pOld_r h0.2 e1
    have r2 := pW_r r1.2.1 e2
    have r3 := pN_r r2.2.1 e3
    cases h
    exact ⟨by dsimp only; omega, by dsimp only; omega⟩
  rcases zif_r h with ⟨-, h⟩ | ⟨-, h⟩
  · exact hc _ h
  rcases zif_r h with ⟨-, h⟩ | ⟨-, h⟩
  · exact hc _ h
  rcases zif_r h with ⟨-, h⟩ | ⟨-, h⟩
  · unfold pMet at h
    rcases zif_r h with ⟨-, e⟩ | ⟨-, h⟩
    · cases e
    · obtain ⟨x1, e1, h⟩ := zbd_r h
      have r1 := pN_r h0.2 e1
      rcases zif_r h with ⟨-, e⟩ | ⟨-, h⟩
      · cases e
      · obtain ⟨x2, e2, h⟩ := zbd_r h
        have r2 := pA_r r1.2.1 e2
        cases h
        exact ⟨by dsimp only; omega, by dsimp only; omega⟩
  rcases zif_r h with ⟨-, h⟩ | ⟨-, h⟩
  · unfold pHol at h
    rcases zif_r h with ⟨-, e⟩ | ⟨-, h⟩
    · cases e
    · obtain ⟨x1, e1, h⟩ := zbd_r h
      have r1 := pN_r h0.2 e1
      rcases zif_r h with ⟨-, e⟩ | ⟨-, h⟩
      · cases e
      · cases h
        exact ⟨by dsimp only; omega, by dsimp only; omega⟩
  · unfold pPer at h
    rcases zif_r h with ⟨-, e⟩ | ⟨-, h⟩
    · cases e
    · obtain ⟨x1, e1, h⟩ := zbd_r h
      obtain ⟨x2, e2, h⟩ := zbd_r h
      obtain ⟨x3, e3, h⟩ := zbd_r h
      obtain ⟨x4, e4, h⟩ := zbd_r h
      obtain ⟨x5, e5, h⟩ := zbd_r h
      have r1 := pNew_r h0.2 e1
      have r2 := pW_r r1.2.1 e2
      have r3 := pN_r r2.2.1 e3
      have r4 := pW_r r3.2.1 e4
      have r5 := pN_r r4.2.1 e5
      cases h
      exact ⟨by dsimp only; omega, by dsimp only; omega⟩
end ZPV2
