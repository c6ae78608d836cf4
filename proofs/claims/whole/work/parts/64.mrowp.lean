/-! rows of turns: counted by shifts, and one by one -/
def zcl6 (d : Nat) : Int := if d < 3 then (d : Int) - 3 else (d : Int) - 2
theorem zcl6_b {d : Nat} (h : d < 6) : -3 ≤ zcl6 d ∧ zcl6 d ≤ 3 ∧ ¬ zcl6 d = 0 := by unfold zcl6; split <;> omega
def zs (f : Nat → Nat) : Nat → Nat
  | 0 => 0
  | n + 1 => zs f n + f n
theorem zs_c {f g : Nat → Nat} : ∀ n, (∀ i, i < n → f i = g i) → zs f n = zs g n
  | 0, _ => rfl
  | n + 1, h => by
    have ih := zs_c (f := f) (g := g) n (fun i hi => h i (by omega))
    have := h n (by omega)
    unfold zs
    rw [ih, this]
theorem zs_add (f : Nat → Nat) (m : Nat) : ∀ n, zs f (m + n) = zs f m + zs (fun i => f (m + i)) n
  | 0 => rfl
  | n + 1 => by
    have ih := zs_add f m n
    show zs f (m + n) + f (m + n) = zs f m + (zs (fun i => f (m + i)) n + f (m + n))
    omega
theorem zs_plus (f g : Nat → Nat) : ∀ n, zs (fun i => f i + g i) n = zs f n + zs g n
  | 0 => rfl
  | n + 1 => by
    have ih := zs_plus f g n
    show zs (fun i => f i + g i) n + (f n + g n) = zs f n + f n + (zs g n + g n)
    omega
theorem zs_mul (f : Nat → Nat) : ∀ m, zs f (12 * m) = zs (fun i => zs (fun j => f (12 * i + j)) 12) m
  | 0 => rfl
  | m + 1 => by
    have ih := zs_mul f m
    rw [show 12 * (m + 1) = 12 * m + 12 by omega, zs_add, ih]
    rfl
theorem zs_12 (f : Nat → Nat) : zs f 12 = f 0 + f 1 + f 2 + f 3 + f 4 + f 5 + f 6 + f 7 + f 8 + f 9 + f 10 + f 11 := by
  simp only [zs]
  omega
theorem zs_6 (f : Nat → Nat) : zs f 6 = f 0 + f 1 + f 2 + f 3 + f 4 + f 5 := by
  simp only [zs]
  omega
theorem zs_rot (f : Nat → Nat) (c : Nat) (hc : c < 12) : zs (fun i => f ((i + c) % 12)) 12 = zs f 12 := by
  rw [zs_12, zs_12]
  rcases (show c = 0 ∨ c = 1 ∨ c = 2 ∨ c = 3 ∨ c = 4 ∨ c = 5 ∨ c = 6 ∨ c = 7 ∨ c = 8 ∨ c = 9 ∨ c = 10 ∨ c = 11 by omega) with rfl | rfl | rfl | rfl | rfl | rfl | rfl | rfl | rfl | rfl | rfl | rfl <;> (simp only [Nat.reduceAdd, Nat.reduceMod, Nat.zero_add, Nat.add_zero]; try omega)
/-- a shift moved on -/
def zsh2 (c e : Int) (t : Nat) : Nat := (zsf ((t / 12 : Nat) + c) ((t % 12 : Nat) + e)).toNat
theorem zs_sh (F : Nat → Nat) (c e : Int) : zs (fun t => F (zsh2 c e t)) 144 = zs F 144 := by
  rw [show (144 : Nat) = 12 * 12 from rfl, zs_mul, zs_mul]
  have h1 : ∀ i j : Nat, i < 12 → j < 12 → zsh2 c e (12 * i + j) = 12 * ((i + (c % 12).toNat) % 12) + (j + (e % 12).toNat) % 12 := fun i j hi hj => by
    unfold zsh2 zsf
    rw [show (12 * i + j) / 12 = i by omega, show (12 * i + j) % 12 = j by omega]
    omega
  rw [zs_c 12 (fun i hi => zs_c (g := fun j => (fun j' => F (12 * ((i + (c % 12).toNat) % 12) + j')) ((j + (e % 12).toNat) % 12)) 12 (fun j hj => by rw [h1 i j hi hj]))]
  rw [zs_c 12 (fun i hi => zs_rot (fun j' => F (12 * ((i + (c % 12).toNat) % 12) + j')) (e % 12).toNat (by omega))]
  exact zs_rot (fun i' => zs (fun j' => F (12 * i' + j')) 12) (c % 12).toNat (by omega)
section ZRU
variable {G : Nat → Prop}
noncomputable def zug (G : Nat → Prop) (a b : Int) (t : Nat) : Nat := @ite _ (G (zsf (a + (t / 12 : Nat)) (b + (t % 12 : Nat))).toNat) (Classical.propDecidable _) 1 0
theorem zrg_u {n : Nat} {a b : Int} : ∀ s, zrg G n a b s = zs (fun t => zug G a b t * zct n t) s
  | 0 => rfl
  | s + 1 => by
    have ih := zrg_u (n := n) (a := a) (b := b) s
    show _ = zs (fun t => zug G a b t * zct n t) s + zug G a b s * zct n s
    by_cases hg : G (zsf (a + (s / 12 : Nat)) (b + (s % 12 : Nat))).toNat
    · rw [zrg_t hg, ih]
      unfold zug
      rw [if_pos hg, Nat.one_mul]
    · rw [zrg_f hg, ih]
      unfold zug
      rw [if_neg hg, Nat.zero_mul, Nat.add_zero]
theorem zrg_rot {n : Nat} {a b : Int} (c e : Int) : zs (fun t => zug G a b t * zct n (zsh2 c e t)) 144 = zrg G n (a - c) (b - e) 144 := by
  rw [zrg_u, ← zs_sh (fun t => zug G (a - c) (b - e) t * zct n t) c e]
  refine zs_c 144 (fun t ht => ?_)
  show zug G a b t * zct n (zsh2 c e t) = zug G (a - c) (b - e) (zsh2 c e t) * zct n (zsh2 c e t)
  have : zug G (a - c) (b - e) (zsh2 c e t) = zug G a b t := by
    unfold zug
    have e9 : zsf (a - c + (zsh2 c e t / 12 : Nat)) (b - e + (zsh2 c e t % 12 : Nat)) = zsf (a + (t / 12 : Nat)) (b + (t % 12 : Nat)) := by
      unfold zsh2 zsf
      omega
    rw [e9]
  rw [this]
theorem zrg_s {n : Nat} {a b : Int} : zrg G (n + 1) a b 144 = zrg G n (a - 3) (b - 1) 144 + zrg G n (a - 2) (b - 1) 144 + zrg G n (a - 1) (b - 0) 144 + zrg G n (a - -1) (b - 0) 144 + zrg G n (a - -2) (b - -1) 144 + zrg G n (a - -3) (b - -1) 144 := by
  rw [← zrg_rot 3 1, ← zrg_rot 2 1, ← zrg_rot 1 0, ← zrg_rot (-1) 0, ← zrg_rot (-2) (-1), ← zrg_rot (-3) (-1), zrg_u, ← zs_plus, ← zs_plus, ← zs_plus, ← zs_plus, ← zs_plus]
  refine zs_c 144 (fun t ht => ?_)
  show zug G a b t * zct (n + 1) t = _
  rw [← Nat.mul_add, ← Nat.mul_add, ← Nat.mul_add, ← Nat.mul_add, ← Nat.mul_add]
  congr 1
end ZRU
/-- the rows of n turns from here that reach a goal, one by one -/
noncomputable def zrw (G : Int → Int → Prop) : Nat → Int → Int → Nat
  | 0, a, b => @ite _ (G a b) (Classical.propDecidable _) 1 0
  | n + 1, a, b => zs (fun d => zrw G n (a + zcl6 d) (b + (zcl6 d).tdiv 2)) 6
section ZRX
variable {GG : Nat → Prop} {G : Int → Int → Prop}
theorem zrg_0 {a b : Int} : ∀ s, zrg GG 0 a b (s + 1) = @ite _ (GG (zsf a b).toNat) (Classical.propDecidable _) 1 0
  | 0 => by
    show @ite _ (GG (zsf (a + (0 / 12 : Nat)) (b + (0 % 12 : Nat))).toNat) (Classical.propDecidable _) (0 + zct 0 0) 0 = _
    rw [show ((0 / 12 : Nat) : Int) = 0 from rfl, Int.add_zero, Int.add_zero]
    rfl
  | s + 1 => by
    rw [zrg_z (by show (if s + 1 = 0 then 1 else 0) = 0; rw [if_neg (by omega)])]
    exact zrg_0 s
theorem zrg_w (hG : ∀ a b, GG (zsf a b).toNat = G a b) : ∀ n a b, zrg GG n a b 144 = zrw G n a b
  | 0, a, b => by
    rw [zrg_0 143, hG]
    rfl
  | n + 1, a, b => by
    rw [zrg_s, zrg_w hG n, zrg_w hG n, zrg_w hG n, zrg_w hG n, zrg_w hG n, zrg_w hG n]
    show _ = zs (fun d => zrw G n (a + zcl6 d) (b + (zcl6 d).tdiv 2)) 6
    rw [zs_6]
    rfl
end ZRX
/-- the sums of a row's clicks, and of the halves of each -/
def zsA : Nat → Nat → Int × Int
  | 0, _ => (0, 0)
  | n + 1, r => (zcl6 (r / 6 ^ n % 6) + (zsA n (r % 6 ^ n)).1, (zcl6 (r / 6 ^ n % 6)).tdiv 2 + (zsA n (r % 6 ^ n)).2)
theorem zcnt_add (P : Nat → Prop) (m : Nat) : ∀ n, zcnt P (m + n) = zcnt P m + zcnt (fun i => P (m + i)) n
  | 0 => rfl
  | n + 1 => by
    have ih := zcnt_add P m n
    by_cases h : P (m + n)
    · rw [zcnt_t (P := fun i => P (m + i)) h, ← Nat.add_assoc, zcnt_t h, ih]; omega
    · rw [zcnt_f (P := fun i => P (m + i)) h, ← Nat.add_assoc, zcnt_f h, ih]
theorem zcnt_mul (P : Nat → Prop) (N : Nat) : ∀ d, zcnt P (N * d) = zs (fun i => zcnt (fun r => P (N * i + r)) N) d
  | 0 => rfl
  | d + 1 => by
    have ih := zcnt_mul P N d
    rw [Nat.mul_succ, zcnt_add, ih]
    rfl
theorem zcnt_pos {P : Nat → Prop} : ∀ n, 0 < zcnt P n ↔ ∃ r, r < n ∧ P r
  | 0 => ⟨fun h => by have e : zcnt P 0 = 0 := rfl; omega, fun ⟨r, h, _⟩ => by omega⟩
  | n + 1 => by
    have ih := zcnt_pos (P := P) n
    by_cases h : P n
    · rw [zcnt_t h]
      exact ⟨fun _ => ⟨n, by omega, h⟩, fun _ => by omega⟩
    · rw [zcnt_f h, ih]
      constructor
      · rintro ⟨r, h1, h2⟩
        exact ⟨r, by omega, h2⟩
      · rintro ⟨r, h1, h2⟩
        by_cases e : r = n
        · subst e; exact absurd h2 h
        · exact ⟨r, by omega, h2⟩
theorem zcnt_mono {P : Nat → Prop} {r n : Nat} (h : r < n) (hr : P r) : zcnt P r < zcnt P n := by
  have e := zcnt_add P (r + 1) (n - (r + 1))
  rw [show r + 1 + (n - (r + 1)) = n by omega, zcnt_t hr] at e
  omega
theorem zsA_s {n i r : Nat} (hi : i < 6) (hr : r < 6 ^ n) : zsA (n + 1) (6 ^ n * i + r) = (zcl6 i + (zsA n r).1, (zcl6 i).tdiv 2 + (zsA n r).2) := by
  have hN : 0 < 6 ^ n := Nat.pow_pos (by omega)
  show (zcl6 ((6 ^ n * i + r) / 6 ^ n % 6) + (zsA n ((6 ^ n * i + r) % 6 ^ n)).1, (zcl6 ((6 ^ n * i + r) / 6 ^ n % 6)).tdiv 2 + (zsA n ((6 ^ n * i + r) % 6 ^ n)).2) = _
  rw [Nat.mul_add_div hN, Nat.div_eq_of_lt hr, Nat.add_zero, Nat.mod_eq_of_lt hi, Nat.mul_add_mod, Nat.mod_eq_of_lt hr]
section ZRY
variable {GG : Nat → Prop} {G : Int → Int → Prop}
theorem zcnt_rows : ∀ n a b, zcnt (fun r => G (a + (zsA n r).1) (b + (zsA n r).2)) (6 ^ n) = zrw G n a b
  | 0, a, b => by
    show zcnt (fun r => G (a + 0) (b + 0)) (0 + 1) = @ite _ (G a b) (Classical.propDecidable _) 1 0
    rw [Int.add_zero, Int.add_zero]
    by_cases h : G a b
    · rw [zcnt_t h, if_pos h]; rfl
    · rw [zcnt_f h, if_neg h]; rfl
  | n + 1, a, b => by
    rw [Nat.pow_succ, zcnt_mul]
    refine zs_c 6 (fun i hi => ?_)
    show zcnt (fun r => G (a + (zsA (n + 1) (6 ^ n * i + r)).1) (b + (zsA (n + 1) (6 ^ n * i + r)).2)) (6 ^ n) = zrw G n (a + zcl6 i) (b + (zcl6 i).tdiv 2)
    rw [← zcnt_rows n]
    refine zcnt_c _ (fun r hr => ?_)
    rw [zsA_s hi hr]
    dsimp only
    rw [Int.add_assoc, Int.add_assoc]
theorem zcnt_row {n : Nat} {a b : Int} {d r : Nat} (hd : d < 6) (hr : r < 6 ^ n) : zcnt (fun r => G (a + (zsA (n + 1) r).1) (b + (zsA (n + 1) r).2)) (6 ^ n * d + r) = zs (fun i => zrw G n (a + zcl6 i) (b + (zcl6 i).tdiv 2)) d + zcnt (fun r => G (a + zcl6 d + (zsA n r).1) (b + (zcl6 d).tdiv 2 + (zsA n r).2)) r := by
  rw [zcnt_add, zcnt_mul]
  congr 1
  · refine zs_c d (fun i hi => ?_)
    rw [← zcnt_rows n]
    refine zcnt_c _ (fun r hr => ?_)
    rw [zsA_s (by omega) hr]
    dsimp only
    rw [Int.add_assoc, Int.add_assoc]
  · refine zcnt_c _ (fun q hq => ?_)
    rw [zsA_s hd (by omega)]
    dsimp only
    rw [Int.add_assoc, Int.add_assoc]
/-- the digits of a row -/
def zcd : Nat → Nat → Int → Int
  | 0, _, D => D
  | n + 1, r, D => zcd n (r % 6 ^ n) (10 * D + zcl6 (r / 6 ^ n % 6) + 3)
theorem zin_row {am : Int → Nat} {W : Nat → Nat} (h0 : am (-3) = W 0) (h1 : am (-2) = W 1) (h2 : am (-1) = W 2) (hz : am 0 = 0) (h3 : am 1 = W 3) (h4 : am 2 = W 4) (h5 : am 3 = W 5) {d y : Nat} (hd : d < 6) (hy : y < W d) : zin am 6 (-3) ((zs W d + y : Nat) : Int) = (zcl6 d, (y : Int)) := by
  rcases (show d = 0 ∨ d = 1 ∨ d = 2 ∨ d = 3 ∨ d = 4 ∨ d = 5 by omega) with rfl | rfl | rfl | rfl | rfl | rfl
  · have e : zs W 0 = 0 := rfl
    unfold zin
    rw [h0, if_pos (by omega), e, Nat.zero_add]
    rfl
  · have e : zs W 1 = 0 + W 0 := rfl
    unfold zin
    rw [h0, if_neg (by omega)]
    unfold zin
    rw [show (-3 : Int) + 1 = -2 by omega, h1, if_pos (by omega)]
    refine Prod.ext rfl ?_
    dsimp only
    omega
  · have e : zs W 2 = 0 + W 0 + W 1 := rfl
    unfold zin
    rw [h0, if_neg (by omega)]
    unfold zin
    rw [show (-3 : Int) + 1 = -2 by omega, h1, if_neg (by omega)]
    unfold zin
    rw [show (-2 : Int) + 1 = -1 by omega, h2, if_pos (by omega)]
    refine Prod.ext rfl ?_
    dsimp only
    omega
  · have e : zs W 3 = 0 + W 0 + W 1 + W 2 := rfl
    unfold zin
    rw [h0, if_neg (by omega)]
    unfold zin
    rw [show (-3 : Int) + 1 = -2 by omega, h1, if_neg (by omega)]
    unfold zin
    rw [show (-2 : Int) + 1 = -1 by omega, h2, if_neg (by omega)]
    unfold zin
    rw [show (-1 : Int) + 1 = 0 by omega, hz, if_neg (by omega)]
    unfold zin
    rw [show (0 : Int) + 1 = 1 by omega, h3, if_pos (by omega)]
    refine Prod.ext rfl ?_
    dsimp only
    omega
  · have e : zs W 4 = 0 + W 0 + W 1 + W 2 + W 3 := rfl
    unfold zin
    rw [h0, if_neg (by omega)]
    unfold zin
    rw [show (-3 : Int) + 1 = -2 by omega, h1, if_neg (by omega)]
    unfold zin
    rw [show (-2 : Int) + 1 = -1 by omega, h2, if_neg (by omega)]
    unfold zin
    rw [show (-1 : Int) + 1 = 0 by omega, hz, if_neg (by omega)]
    unfold zin
    rw [show (0 : Int) + 1 = 1 by omega, h3, if_neg (by omega)]
    unfold zin
    rw [show (1 : Int) + 1 = 2 by omega, h4, if_pos (by omega)]
    refine Prod.ext rfl ?_
    dsimp only
    omega
  · have e : zs W 5 = 0 + W 0 + W 1 + W 2 + W 3 + W 4 := rfl
    unfold zin
    rw [h0, if_neg (by omega)]
    unfold zin
    rw [show (-3 : Int) + 1 = -2 by omega, h1, if_neg (by omega)]
    unfold zin
    rw [show (-2 : Int) + 1 = -1 by omega, h2, if_neg (by omega)]
    unfold zin
    rw [show (-1 : Int) + 1 = 0 by omega, hz, if_neg (by omega)]
    unfold zin
    rw [show (0 : Int) + 1 = 1 by omega, h3, if_neg (by omega)]
    unfold zin
    rw [show (1 : Int) + 1 = 2 by omega, h4, if_neg (by omega)]
    unfold zin
    refine Prod.ext rfl ?_
    dsimp only
    omega
theorem zra_r (hG : ∀ a b, GG (zsf a b).toNat = G a b) : ∀ (n : Nat) (a b : Int) (r : Nat) (D : Int), r < 6 ^ n → G (a + (zsA n r).1) (b + (zsA n r).2) → zra GG n a b (zcnt (fun r => G (a + (zsA n r).1) (b + (zsA n r).2)) r : Nat) D = zcd n r D
  | 0, a, b, r, D, hr, hg => rfl
  | n + 1, a, b, r, D, hr, hg => by
    have hN : 0 < 6 ^ n := Nat.pow_pos (by omega)
    obtain ⟨d, hd⟩ : ∃ d, r / 6 ^ n = d := ⟨_, rfl⟩
    obtain ⟨q, hq⟩ : ∃ q, r % 6 ^ n = q := ⟨_, rfl⟩
    have hq6 : q < 6 ^ n := by rw [← hq]; exact Nat.mod_lt _ hN
    have hd6 : d < 6 := by
      rw [← hd]
      exact Nat.div_lt_of_lt_mul (by rw [Nat.pow_succ] at hr; exact hr)
    have er : r = 6 ^ n * d + q := by rw [← hd, ← hq]; exact (Nat.div_add_mod r (6 ^ n)).symm
    rw [er, zsA_s hd6 hq6] at hg
    dsimp only at hg
    rw [← Int.add_assoc, ← Int.add_assoc] at hg
    have hlt := zcnt_mono (P := fun r => G (a + zcl6 d + (zsA n r).1) (b + (zcl6 d).tdiv 2 + (zsA n r).2)) hq6 hg
    rw [zcnt_rows n] at hlt
    have am : ∀ i, i < 6 → zam GG n a b (zcl6 i) = zrw G n (a + zcl6 i) (b + (zcl6 i).tdiv 2) := fun i hi => by
      unfold zam
      rw [if_neg (zcl6_b hi).2.2, zrg_w hG]
    have ez := zin_row (am := zam GG n a b) (W := fun i => zrw G n (a + zcl6 i) (b + (zcl6 i).tdiv 2)) (am 0 (by omega)) (am 1 (by omega)) (am 2 (by omega)) rfl (am 3 (by omega)) (am 4 (by omega)) (am 5 (by omega)) hd6 hlt
    have e9 := zcnt_row (G := G) (a := a) (b := b) hd6 hq6
    rw [er, e9]
    unfold zra
    rw [ez]
    dsimp only
    have ih := zra_r hG n (a + zcl6 d) (b + (zcl6 d).tdiv 2) q (10 * D + zcl6 d + 3) hq6 hg
    rw [ih]
    show _ = zcd n ((6 ^ n * d + q) % 6 ^ n) (10 * D + zcl6 ((6 ^ n * d + q) / 6 ^ n % 6) + 3)
    rw [Nat.mul_add_div hN, Nat.div_eq_of_lt hq6, Nat.add_zero, Nat.mod_eq_of_lt hd6, Nat.mul_add_mod, Nat.mod_eq_of_lt hq6]
end ZRY
theorem zcd_l : ∀ (n r : Nat) (D : Int), zcd (n + 1) r D = 10 * zcd n (r / 6) D + (zcl6 (r % 6) + 3)
  | 0, r, D => by
    show 10 * D + zcl6 (r / 6 ^ 0 % 6) + 3 = 10 * D + (zcl6 (r % 6) + 3)
    rw [Nat.pow_zero, Nat.div_one, Int.add_assoc]
  | n + 1, r, D => by
    show zcd (n + 1) (r % 6 ^ (n + 1)) (10 * D + zcl6 (r / 6 ^ (n + 1) % 6) + 3) = 10 * zcd n (r / 6 % 6 ^ n) (10 * D + zcl6 (r / 6 / 6 ^ n % 6) + 3) + (zcl6 (r % 6) + 3)
    rw [zcd_l n, Nat.pow_succ, Nat.mul_comm (6 ^ n) 6, Nat.mod_mul_right_div_self, Nat.mod_mul_right_mod, Nat.div_div_eq_div_mul]
theorem zd10_cd : ∀ (m n r : Nat), m < n → zd10 m (zcd n r 0) % 10 = zcl6 (r / 6 ^ m % 6) + 3
  | m, 0, r, h => by omega
  | 0, n + 1, r, h => by
    have := zcl6_b (d := r % 6) (by omega)
    rw [zcd_l, Nat.pow_zero, Nat.div_one]
    show (10 * zcd n (r / 6) 0 + (zcl6 (r % 6) + 3)) % 10 = _
    omega
  | m + 1, n + 1, r, h => by
    have := zcl6_b (d := r % 6) (by omega)
    have ih := zd10_cd m n (r / 6) (by omega)
    show zd10 m (zcd (n + 1) r 0 / 10) % 10 = _
    rw [zcd_l, show (10 * zcd n (r / 6) 0 + (zcl6 (r % 6) + 3)) / 10 = zcd n (r / 6) 0 by omega, ih, Nat.div_div_eq_div_mul, Nat.pow_succ, Nat.mul_comm 6]
def zdg (e r : Nat) : Nat := r / 6 ^ e % 6
theorem zdg_6 (e r : Nat) : zdg e r < 6 := Nat.mod_lt _ (by omega)
/-- the next row -/
theorem zdg_n {t r : Nat} (h1 : r % 6 ^ t = 6 ^ t - 1) (h2 : zdg t r + 1 < 6) : (∀ e, e < t → zdg e (r + 1) = 0) ∧ zdg t (r + 1) = zdg t r + 1 ∧ ∀ e, t < e → zdg e (r + 1) = zdg e r := by
  have hN : 0 < 6 ^ t := Nat.pow_pos (by omega)
  obtain ⟨m, hm⟩ : ∃ m, r / 6 ^ t = m := ⟨_, rfl⟩
  have er : r + 1 = 6 ^ t * (m + 1) := by
    have := Nat.div_add_mod r (6 ^ t)
    rw [hm, h1] at this
    rw [Nat.mul_succ]
    omega
  have ed : zdg t r = m % 6 := by unfold zdg; rw [hm]
  have en : (r + 1) / 6 ^ t = m + 1 := by rw [er, Nat.mul_div_cancel_left _ hN]
  refine ⟨fun e he => ?_, ?_, fun e he => ?_⟩
  · unfold zdg
    obtain ⟨f, rfl⟩ : ∃ f, t = e + (1 + f) := ⟨t - e - 1, by omega⟩
    rw [er, Nat.pow_add, Nat.pow_add, Nat.mul_assoc, Nat.mul_div_cancel_left _ (Nat.pow_pos (by omega)), Nat.pow_one, Nat.mul_assoc, Nat.mul_mod_right]
  · rw [ed] at h2 ⊢
    unfold zdg
    rw [en]
    omega
  · unfold zdg
    obtain ⟨f, rfl⟩ : ∃ f, e = t + (1 + f) := ⟨e - t - 1, by omega⟩
    rw [ed] at h2
    rw [Nat.pow_add, Nat.pow_add, ← Nat.div_div_eq_div_mul, ← Nat.div_div_eq_div_mul, ← Nat.div_div_eq_div_mul, ← Nat.div_div_eq_div_mul, en, hm, Nat.pow_one, show (m + 1) / 6 = m / 6 by omega]
theorem zdg_5 {t r : Nat} (h1 : r % 6 ^ t = 6 ^ t - 1) (h2 : zdg t r = 5) : r % 6 ^ (t + 1) = 6 ^ (t + 1) - 1 := by
  have hN : 0 < 6 ^ t := Nat.pow_pos (by omega)
  unfold zdg at h2
  rw [Nat.pow_succ, Nat.mod_mul, h1, h2]
  omega
theorem zdg_A {m r : Nat} : zsA (m + 1) (r % 6 ^ (m + 1)) = (zcl6 (zdg m r) + (zsA m (r % 6 ^ m)).1, (zcl6 (zdg m r)).tdiv 2 + (zsA m (r % 6 ^ m)).2) := by
  show (zcl6 (r % 6 ^ (m + 1) / 6 ^ m % 6) + (zsA m (r % 6 ^ (m + 1) % 6 ^ m)).1, (zcl6 (r % 6 ^ (m + 1) / 6 ^ m % 6)).tdiv 2 + (zsA m (r % 6 ^ (m + 1) % 6 ^ m)).2) = _
  rw [Nat.pow_succ, Nat.mod_mul_right_mod, Nat.mod_mul_right_div_self, Nat.mod_mod]
  rfl
theorem zsA_b : ∀ n r : Nat, -3 * (n : Int) ≤ (zsA n r).1 ∧ (zsA n r).1 ≤ 3 * n ∧ -3 * (n : Int) ≤ (zsA n r).2 ∧ (zsA n r).2 ≤ 3 * n
  | 0, r => by show _ ≤ (0 : Int) ∧ (0 : Int) ≤ _ ∧ _ ≤ (0 : Int) ∧ (0 : Int) ≤ _; omega
  | n + 1, r => by
    have ih := zsA_b n (r % 6 ^ n)
    have hb := zcl6_b (d := r / 6 ^ n % 6) (by omega)
    have hd := z_tdiv2 (zcl6 (r / 6 ^ n % 6))
    show _ ≤ zcl6 (r / 6 ^ n % 6) + (zsA n (r % 6 ^ n)).1 ∧ zcl6 (r / 6 ^ n % 6) + (zsA n (r % 6 ^ n)).1 ≤ _ ∧ _ ≤ (zcl6 (r / 6 ^ n % 6)).tdiv 2 + (zsA n (r % 6 ^ n)).2 ∧ (zcl6 (r / 6 ^ n % 6)).tdiv 2 + (zsA n (r % 6 ^ n)).2 ≤ _
    omega
