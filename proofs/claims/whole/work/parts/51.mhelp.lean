/-! words: the same letters in base 256 and in base 32 -/
def zfo (B o : Nat) (l : List Nat) : Nat := l.foldl (fun a c => B * a + (c - o)) 0
def zlt (l : List Nat) : Prop := l ≠ [] ∧ l.length ≤ 8 ∧ ∀ c ∈ l, 97 ≤ c ∧ c ≤ 122
def zCq (x y : Int64) : Prop := ∃ l : List Nat, zlt l ∧ x = zk (zfo 256 0 l : Nat) ∧ y = zk (zfo 32 96 l : Nat)
theorem zfo_app (B o : Nat) (l : List Nat) (c : Nat) : zfo B o (l ++ [c]) = B * zfo B o l + (c - o) := by
  unfold zfo
  rw [List.foldl_append]
  rfl
theorem zfo_inj (B o : Nat) : ∀ (n : Nat) (l m : List Nat), l.length = n → (∀ c ∈ l, 0 < c - o ∧ c - o < B) → (∀ c ∈ m, 0 < c - o ∧ c - o < B) → zfo B o l = zfo B o m → l.map (fun c => c - o) = m.map (fun c => c - o) := by
  intro n
  induction n with
  | zero =>
    intro l m hl h1 h2 e
    have := List.length_eq_zero_iff.mp hl
    subst this
    rcases List.eq_nil_or_concat m with rfl | ⟨m', c, rfl⟩
    · rfl
    · rw [List.concat_eq_append, zfo_app] at e
      have := h2 c (by simp)
      have : zfo B o [] = 0 := rfl
      omega
  | succ n ih =>
    intro l m hl h1 h2 e
    rcases List.eq_nil_or_concat l with rfl | ⟨l', c, rfl⟩
    · cases hl
    · rw [List.concat_eq_append] at *
      have hc := h1 c (by simp)
      rcases List.eq_nil_or_concat m with rfl | ⟨m', d, rfl⟩
      · rw [zfo_app] at e
        have : zfo B o [] = 0 := rfl
        omega
      · rw [List.concat_eq_append] at *
        have hd := h2 d (by simp)
        rw [zfo_app, zfo_app] at e
        have e1 : c - o = d - o := by
          have := congrArg (· % B) e
          simp only [Nat.mul_add_mod] at this
          rwa [Nat.mod_eq_of_lt hc.2, Nat.mod_eq_of_lt hd.2] at this
        have e2 : zfo B o l' = zfo B o m' := by
          have e3 : B * zfo B o l' = B * zfo B o m' := by omega
          exact Nat.eq_of_mul_eq_mul_left (by omega) e3
        have := ih l' m' (by simp at hl; exact hl) (fun x hx => h1 x (by simp [hx])) (fun x hx => h2 x (by simp [hx])) e2
        rw [List.map_append, List.map_append, this, List.map_singleton, List.map_singleton, e1]
theorem zfo_lt (B o : Nat) (hB : 0 < B) : ∀ (n : Nat) (l : List Nat), l.length = n → (∀ c ∈ l, c - o < B) → zfo B o l < B ^ n := by
  intro n
  induction n with
  | zero =>
    intro l hl _
    have := List.length_eq_zero_iff.mp hl
    subst this
    exact Nat.one_pos
  | succ n ih =>
    intro l hl h
    rcases List.eq_nil_or_concat l with rfl | ⟨l', c, rfl⟩
    · cases hl
    · rw [List.concat_eq_append] at *
      have := ih l' (by simp at hl; exact hl) (fun x hx => h x (by simp [hx]))
      have hc := h c (by simp)
      rw [zfo_app, Nat.pow_succ]
      have h3 : (zfo B o l' + 1) * B ≤ B ^ n * B := Nat.mul_le_mul_right B this
      rw [Nat.add_mul, Nat.one_mul, Nat.mul_comm (zfo B o l')] at h3
      omega
theorem zfo_mono (B o : Nat) {a b : Nat} (hB : 0 < B) (h : a ≤ b) : B ^ a ≤ B ^ b := Nat.pow_le_pow_right hB h
theorem zk_inj {a b : Nat} (ha : a < 9223372036854775808) (hb : b < 9223372036854775808) (e : zk (a : Int) = zk (b : Int)) : a = b := by
  have e2 := congrArg Int64.toInt e
  unfold zk at e2
  rw [Int64.toInt_ofInt_of_le (by omega) (by omega), Int64.toInt_ofInt_of_le (by omega) (by omega)] at e2
  omega
/-- eight letters in base 256 stay below 2 to the 63rd -/
theorem zfo_256 {l : List Nat} (hl : l.length ≤ 8) (h : ∀ c ∈ l, 97 ≤ c ∧ c ≤ 122) : zfo 256 0 l < 9223372036854775808 := by
  have key : ∀ (n : Nat) (l : List Nat), l.length = n → (∀ c ∈ l, 97 ≤ c ∧ c ≤ 122) → 2 * zfo 256 0 l + 2 ≤ 256 ^ n + 1 := by
    intro n
    induction n with
    | zero =>
      intro l hl _
      have := List.length_eq_zero_iff.mp hl
      subst this
      exact Nat.le_refl 2
    | succ n ih =>
      intro l hl h
      rcases List.eq_nil_or_concat l with rfl | ⟨l', c, rfl⟩
      · cases hl
      · rw [List.concat_eq_append] at *
        have := ih l' (by simp at hl; exact hl) (fun x hx => h x (by simp [hx]))
        have hc := h c (by simp)
        rw [zfo_app, Nat.pow_succ]
        omega
  have h1 := key l.length l rfl h
  have h2 : 256 ^ l.length ≤ 256 ^ 8 := Nat.pow_le_pow_right (by omega) hl
  omega
theorem zfo_32 {l : List Nat} (hl : l.length ≤ 8) (h : ∀ c ∈ l, 97 ≤ c ∧ c ≤ 122) : zfo 32 96 l < 1099511627776 := by
  have h1 := zfo_lt 32 96 (by omega) l.length l rfl (fun c hc => by have := h c hc; omega)
  have h2 : 32 ^ l.length ≤ 32 ^ 8 := Nat.pow_le_pow_right (by omega) hl
  omega
theorem zmap_inj {l m : List Nat} {o : Nat} (h1 : ∀ c ∈ l, o ≤ c) (h2 : ∀ c ∈ m, o ≤ c) (e : l.map (fun c => c - o) = m.map (fun c => c - o)) : l = m := by
  induction l generalizing m with
  | nil => cases m with
    | nil => rfl
    | cons b m => cases e
  | cons a l ih => cases m with
    | nil => cases e
    | cons b m =>
      rw [List.map_cons, List.map_cons] at e
      injection e with e1 e2
      have ha := h1 a (by simp)
      have hb := h2 b (by simp)
      rw [ih (fun c hc => h1 c (by simp [hc])) (fun c hc => h2 c (by simp [hc])) e2, show a = b by omega]
theorem zw8_inj {l m : List Nat} (hl : zlt l) (hm : zlt m) (e : zk (zfo 256 0 l : Nat) = zk (zfo 256 0 m : Nat)) : l = m := by
  have e2 := zk_inj (zfo_256 hl.2.1 hl.2.2) (zfo_256 hm.2.1 hm.2.2) e
  exact zmap_inj (fun c _ => Nat.zero_le c) (fun c _ => Nat.zero_le c) (zfo_inj 256 0 _ l m rfl (fun c hc => by have := hl.2.2 c hc; omega) (fun c hc => by have := hm.2.2 c hc; omega) e2)
theorem zw5_inj {l m : List Nat} (hl : zlt l) (hm : zlt m) (e : zk (zfo 32 96 l : Nat) = zk (zfo 32 96 m : Nat)) : l = m := by
  have e2 := zk_inj (Nat.lt_trans (zfo_32 hl.2.1 hl.2.2) (by omega)) (Nat.lt_trans (zfo_32 hm.2.1 hm.2.2) (by omega)) e
  exact zmap_inj (fun c hc => by have := hl.2.2 c hc; omega) (fun c hc => by have := hm.2.2 c hc; omega) (zfo_inj 32 96 _ l m rfl (fun c hc => by have := hl.2.2 c hc; omega) (fun c hc => by have := hm.2.2 c hc; omega) e2)
theorem zCq_eq {x y x' y' : Int64} (h : zCq x y) (h' : zCq x' y') : (x = x') = (y = y') := by
  obtain ⟨l, hl, rfl, rfl⟩ := h
  obtain ⟨m, hm, rfl, rfl⟩ := h'
  exact propext ⟨fun e => by rw [zw8_inj hl hm e], fun e => by rw [zw5_inj hl hm e]⟩
theorem zfo_pos {B o : Nat} (hB : 0 < B) {l : List Nat} (hl : l ≠ []) (h : ∀ c ∈ l, 0 < c - o) : 0 < zfo B o l := by
  rcases List.eq_nil_or_concat l with rfl | ⟨l', c, rfl⟩
  · exact absurd rfl hl
  · rw [List.concat_eq_append, zfo_app]
    have := h c (by simp)
    omega
theorem zCq_0 {x y : Int64} (h : zCq x y) : ¬ zk 0 = x := by
  obtain ⟨l, hl, rfl, rfl⟩ := h
  intro e
  have := zfo_pos (B := 256) (o := 0) (by omega) hl.1 (fun c hc => by have := hl.2.2 c hc; omega)
  have e2 := zk_inj (a := 0) (by omega) (zfo_256 hl.2.1 hl.2.2) e
  omega
/-! counting and bits -/
def zcb (n : Nat) : Nat → Nat
  | 0 => 0
  | k + 1 => if n.testBit k then zcb n k + 1 else zcb n k
theorem zcb_64 : ∀ a, a < 64 → ∀ b, b < 64 → zpop 12 (64 * a + b) = zcb (64 * a + b) 12 := by decide +kernel
theorem zpop_cb {n : Nat} (h : n < 4096) : zpop 12 n = zcb n 12 := by
  have := zcb_64 (n / 64) (by omega) (n % 64) (by omega)
  rwa [show 64 * (n / 64) + n % 64 = n by omega] at this
theorem zcb_cnt (n : Nat) : ∀ k, zcb n k = zcnt (fun i => n.testBit i = true) k
  | 0 => rfl
  | k + 1 => by
    by_cases h : n.testBit k = true
    · rw [zcnt_t h, ← zcb_cnt n k]
      show (if n.testBit k then zcb n k + 1 else zcb n k) = _
      rw [if_pos h]
    · rw [zcnt_f h, ← zcb_cnt n k]
      show (if n.testBit k then zcb n k + 1 else zcb n k) = _
      rw [if_neg h]
theorem zcnt_c {P Q : Nat → Prop} : ∀ n, (∀ i, i < n → (P i ↔ Q i)) → zcnt P n = zcnt Q n
  | 0, _ => rfl
  | n + 1, h => by
    have ih := zcnt_c n (fun i hi => h i (by omega))
    by_cases c : P n
    · rw [zcnt_t c, zcnt_t ((h n (by omega)).mp c), ih]
    · rw [zcnt_f c, zcnt_f (fun z => c ((h n (by omega)).mpr z)), ih]
theorem zset_tb (P : Nat → Prop) (i : Nat) : ∀ n, (zset P n).testBit i = true ↔ (i < n ∧ P i)
  | 0 => by simp [zset]
  | n + 1 => by
    have ih := zset_tb P i n
    by_cases c : P n
    · rw [zset_t c, Nat.testBit_or, Bool.or_eq_true, ih, Nat.testBit_two_pow]
      simp only [decide_eq_true_eq]
      constructor
      · rintro (⟨h1, h2⟩ | rfl)
        · exact ⟨by omega, h2⟩
        · exact ⟨by omega, c⟩
      · rintro ⟨h1, h2⟩
        by_cases e : n = i
        · exact Or.inr e
        · exact Or.inl ⟨by omega, h2⟩
    · rw [zset_f c, ih]
      constructor
      · rintro ⟨h1, h2⟩
        exact ⟨by omega, h2⟩
      · rintro ⟨h1, h2⟩
        by_cases e : i = n
        · subst e; exact absurd h2 c
        · exact ⟨by omega, h2⟩
theorem zcnt_more (P : Nat → Prop) {n : Nat} : ∀ m, n ≤ m → (∀ i, n ≤ i → ¬ P i) → zcnt P m = zcnt P n
  | 0, h, _ => by rw [show n = 0 by omega]
  | m + 1, h, hP => by
    by_cases e : n = m + 1
    · rw [e]
    · rw [zcnt_f (hP m (by omega)), zcnt_more P m (by omega) hP]
theorem zset_lt' (P : Nat → Prop) : ∀ n, zset P n < 2 ^ n
  | 0 => by show 0 < 1; omega
  | n + 1 => by
    have ih := zset_lt' P n
    have e : 2 ^ (n + 1) = 2 ^ n + 2 ^ n := by rw [Nat.pow_succ]; omega
    by_cases h : P n
    · rw [zset_t h]
      exact Nat.or_lt_two_pow (by omega) (by omega)
    · rw [zset_f h]; omega
theorem zpop_set (P : Nat → Prop) {n : Nat} (hn : n ≤ 12) : zpop 12 (zset P n) = zcnt P n := by
  have h1 := zset_lt' P n
  have h2 : 2 ^ n ≤ 2 ^ 12 := Nat.pow_le_pow_right (by omega) hn
  rw [zpop_cb (by omega), zcb_cnt, zcnt_more _ 12 hn]
  · exact zcnt_c n (fun i hi => by rw [zset_tb]; exact ⟨fun z => z.2, fun z => ⟨hi, z⟩⟩)
  · intro i hi z
    have := (zset_tb P i n).mp z
    omega
theorem zcnt_sub {P Q : Nat → Prop} : ∀ n, (∀ i, i < n → P i → Q i) → zcnt P n ≤ zcnt Q n ∧ (zcnt P n = zcnt Q n ↔ ∀ i, i < n → Q i → P i)
  | 0, _ => ⟨Nat.le_refl 0, ⟨fun _ i hi => by omega, fun _ => rfl⟩⟩
  | n + 1, h => by
    obtain ⟨h1, h2⟩ := zcnt_sub n (fun i hi => h i (by omega))
    by_cases c : P n
    · have d := h n (by omega) c
      rw [zcnt_t c, zcnt_t d]
      refine ⟨by omega, ⟨fun e i hi q => ?_, fun e => ?_⟩⟩
      · by_cases ei : i = n
        · subst ei; exact c
        · exact h2.mp (by omega) i (by omega) q
      · have := h2.mpr (fun i hi => e i (by omega))
        omega
    · by_cases d : Q n
      · rw [zcnt_f c, zcnt_t d]
        exact ⟨by omega, ⟨fun e => by omega, fun e => absurd (e n (by omega) d) c⟩⟩
      · rw [zcnt_f c, zcnt_f d]
        refine ⟨h1, ⟨fun e i hi q => ?_, fun e => h2.mpr (fun i hi => e i (by omega))⟩⟩
        by_cases ei : i = n
        · subst ei; exact absurd q d
        · exact h2.mp e i (by omega) q
/-! tops -/
theorem ztp_2 {S C : Nat → Int} {cell : Int} : ∀ n, (ztp S C cell n = (-2, -1)) ∨ ∃ b : Nat, b < n ∧ C b = cell ∧ ztp S C cell n = ((b : Int), S b)
  | 0 => Or.inl rfl
  | n + 1 => by
    unfold ztp
    split
    · rename_i h
      exact Or.inr ⟨n, by omega, h.2, rfl⟩
    · rcases ztp_2 (S := S) (C := C) (cell := cell) n with h | ⟨b, h1, h2, h3⟩
      · exact Or.inl h
      · exact Or.inr ⟨b, by omega, h2, h3⟩
theorem ztp_none {S C : Nat → Int} {cell : Int} : ∀ n, (∀ b, b < n → 0 ≤ S b) → ((ztp S C cell n).1 = -2 ↔ ∀ b, b < n → ¬ C b = cell)
  | 0, _ => ⟨fun _ b hb => by omega, fun _ => rfl⟩
  | n + 1, hS => by
    have ih := ztp_none (C := C) (cell := cell) n (fun b hb => hS b (by omega))
    have hs := hS n (by omega)
    unfold ztp
    split
    · rename_i h
      exact ⟨fun e => by dsimp only at e; omega, fun e => absurd h.2 (e n (by omega))⟩
    · rename_i h
      rw [ih]
      refine ⟨fun e b hb => ?_, fun e b hb => e b (by omega)⟩
      by_cases eb : b = n
      · subst eb
        intro hc
        have e1 := ih.mpr e
        rcases ztp_2 (S := S) (C := C) (cell := cell) b with g | ⟨b', g1, g2, g3⟩
        · rw [g] at h
          exact h ⟨by dsimp only; omega, hc⟩
        · rw [g3] at e1
          dsimp only at e1
          omega
      · exact e b (by omega)
/-- the set of all that are on top in the first cells -/
def ztps (T : Nat → Int) : Nat → Nat
  | 0 => 0
  | c + 1 => ztps T c ||| (if T c = -2 then 0 else 2 ^ (T c).toNat)
theorem ztps_lt {T : Nat → Int} (hT : ∀ c, T c < 6) : ∀ c, ztps T c < 64
  | 0 => by show 0 < 64; omega
  | c + 1 => by
    have ih := ztps_lt hT c
    have h := hT c
    unfold ztps
    split
    · rw [Nat.or_zero]; exact ih
    · exact Nat.or_lt_two_pow (n := 6) ih (Nat.pow_lt_pow_right (by omega) (by omega))
theorem ztps_tb {T : Nat → Int} (hT : ∀ c, T c = -2 ∨ 0 ≤ T c) (b : Nat) : ∀ c, (ztps T c).testBit b = true ↔ ∃ x : Nat, x < c ∧ T x = b
  | 0 => by simp [ztps]
  | c + 1 => by
    have ih := ztps_tb hT b c
    have h := hT c
    unfold ztps
    rw [Nat.testBit_or, Bool.or_eq_true, ih]
    by_cases e : T c = -2
    · rw [if_pos e]
      simp only [Nat.zero_testBit, Bool.false_eq_true, or_false]
      constructor
      · rintro ⟨x, h1, h2⟩
        exact ⟨x, by omega, h2⟩
      · rintro ⟨x, h1, h2⟩
        by_cases ex : x = c
        · subst ex; omega
        · exact ⟨x, by omega, h2⟩
    · rw [if_neg e, Nat.testBit_two_pow]
      simp only [decide_eq_true_eq]
      constructor
      · rintro (⟨x, h1, h2⟩ | h2)
        · exact ⟨x, by omega, h2⟩
        · exact ⟨c, by omega, by omega⟩
      · rintro ⟨x, h1, h2⟩
        by_cases ex : x = c
        · subst ex; exact Or.inr (by omega)
        · exact Or.inl ⟨x, by omega, h2⟩
theorem zheld_tb {C : Nat → Int} (c : Nat) : ∀ n, (∀ b, b < n → 0 ≤ C b) → ((zheld C n).testBit c = true ↔ ∃ b : Nat, b < n ∧ C b = c)
  | 0, _ => by simp [zheld]
  | n + 1, hC => by
    have ih := zheld_tb (C := C) c n (fun b hb => hC b (by omega))
    have h := hC n (by omega)
    unfold zheld
    rw [Nat.testBit_or, Bool.or_eq_true, ih, Nat.testBit_two_pow]
    simp only [decide_eq_true_eq]
    constructor
    · rintro (⟨x, h1, h2⟩ | h2)
      · exact ⟨x, by omega, h2⟩
      · exact ⟨n, by omega, by omega⟩
    · rintro ⟨x, h1, h2⟩
      by_cases ex : x = n
      · subst ex; exact Or.inr (by omega)
      · exact Or.inl ⟨x, by omega, h2⟩
theorem zpop_add : ∀ s, s < 64 → ∀ b, b < 6 → s.testBit b = false → zpop 12 (s ||| 2 ^ b) = zpop 12 s + 1 := by decide +kernel
/-- as many are on top as cells are held -/
theorem ztps_pop {S C : Nat → Int} {n : Nat} (hn : n ≤ 6) (hS : ∀ b, b < n → 0 ≤ S b) (hC : ∀ b, b < n → 0 ≤ C b ∧ C b < 12) : zpop 12 (ztps (fun c => (ztp S C (c : Int) n).1) 12) = zpop 12 (zheld C n) := by
  have hT : ∀ c : Nat, (ztp S C (c : Int) n).1 = -2 ∨ 0 ≤ (ztp S C (c : Int) n).1 := fun c => by
    rcases ztp_2 (S := S) (C := C) (cell := c) n with h | ⟨b, h1, h2, h3⟩
    · rw [h]; exact Or.inl rfl
    · rw [h3]; exact Or.inr (by dsimp only; omega)
  have hT6 : ∀ c : Nat, (ztp S C (c : Int) n).1 < 6 := fun c => by
    rcases ztp_2 (S := S) (C := C) (cell := c) n with h | ⟨b, h1, h2, h3⟩
    · rw [h]; dsimp only; omega
    · rw [h3]; dsimp only; omega
  have key : ∀ c, zpop 12 (ztps (fun c => (ztp S C (c : Int) n).1) c) = zcnt (fun c => ∃ b : Nat, b < n ∧ C b = c) c := by
    intro c
    induction c with
    | zero => show zpop 12 0 = 0; decide
    | succ c ih =>
      show zpop 12 (ztps (fun c => (ztp S C (c : Int) n).1) c ||| (if (ztp S C (c : Int) n).1 = -2 then 0 else 2 ^ ((ztp S C (c : Int) n).1).toNat)) = _
      by_cases e : (ztp S C (c : Int) n).1 = -2
      · rw [if_pos e, Nat.or_zero, ih, zcnt_f]
        rintro ⟨b, h1, h2⟩
        exact (ztp_none n hS).mp e b h1 h2
      · rw [if_neg e]
        rcases ztp_2 (S := S) (C := C) (cell := c) n with h | ⟨b, h1, h2, h3⟩
        · rw [h] at e; exact absurd rfl e
        · rw [h3, zcnt_t ⟨b, h1, h2⟩, ← ih]
          refine zpop_add _ (ztps_lt hT6 c) _ (by dsimp only; omega) ?_
          rw [Bool.eq_false_iff]
          intro z
          obtain ⟨x, g1, g2⟩ := (ztps_tb hT _ c).mp z
          have g2 : (ztp S C (x : Int) n).1 = (b : Int) := g2
          rcases ztp_2 (S := S) (C := C) (cell := x) n with g | ⟨b', k1, k2, k3⟩
          · rw [g] at g2; dsimp only at g2; omega
          · rw [k3] at g2
            dsimp only at g2
            have : b' = b := by omega
            subst this
            omega
  have hlt : zheld C n < 4096 := by
    have : ∀ m, m ≤ n → zheld C m < 2 ^ 12 := by
      intro m
      induction m with
      | zero => intro _; show 0 < 4096; omega
      | succ m ih =>
        intro hm
        have := hC m (by omega)
        exact Nat.or_lt_two_pow (ih (by omega)) (Nat.pow_lt_pow_right (by omega) (by omega))
    exact this n (Nat.le_refl n)
  rw [key 12, zpop_cb hlt, zcb_cnt]
  exact zcnt_c 12 (fun c hc => (zheld_tb c n (fun b hb => (hC b hb).1)).symm)
/-- a bit is on top where it lies, or nowhere -/
theorem ztps_is {S C : Nat → Int} {n : Nat} (hC : ∀ b, b < n → 0 ≤ C b ∧ C b < 12) {b : Nat} (hb : b < n) : (ztps (fun c => (ztp S C (c : Int) n).1) 12).testBit b = true ↔ (ztp S C (C b) n).1 = b := by
  have hT : ∀ c : Nat, (ztp S C (c : Int) n).1 = -2 ∨ 0 ≤ (ztp S C (c : Int) n).1 := fun c => by
    rcases ztp_2 (S := S) (C := C) (cell := c) n with h | ⟨b, h1, h2, h3⟩
    · rw [h]; exact Or.inl rfl
    · rw [h3]; exact Or.inr (by dsimp only; omega)
  rw [ztps_tb hT]
  constructor
  · rintro ⟨x, h1, h2⟩
    have h2 : (ztp S C (x : Int) n).1 = (b : Int) := h2
    rcases ztp_2 (S := S) (C := C) (cell := x) n with g | ⟨b', k1, k2, k3⟩
    · rw [g] at h2; dsimp only at h2; omega
    · have e := h2
      rw [k3] at e
      dsimp only at e
      have : b' = b := by omega
      subst this
      rw [k2]; exact h2
  · intro h
    have hc := hC b hb
    refine ⟨(C b).toNat, by omega, ?_⟩
    show (ztp S C (((C b).toNat : Nat) : Int) n).1 = (b : Int)
    rw [show (((C b).toNat : Nat) : Int) = C b by omega]
    exact h
theorem zeq_tb {a b n : Nat} (ha : a < 2 ^ n) (hb : b < 2 ^ n) (h : ∀ i, i < n → (a.testBit i = true ↔ b.testBit i = true)) : a = b := by
  apply Nat.eq_of_testBit_eq
  intro i
  by_cases hi : i < n
  · rw [Bool.eq_iff_iff]; exact h i hi
  · have h2 : 2 ^ n ≤ 2 ^ i := Nat.pow_le_pow_right (by omega) (by omega)
    rw [Nat.testBit_lt_two_pow (by omega), Nat.testBit_lt_two_pow (by omega)]
theorem zhas_64 : ∀ k : Nat, k < 12 → ∀ a : Nat, a < 64 → ∀ b : Nat, b < 64 → (zj (64 * a + b : Nat) >>> (zj k &&& 31)) &&& zj 1 = zj (((64 * a + b).testBit k).toNat : Nat) := by decide +kernel
theorem zpop_and64 : ∀ a, a < 64 → ∀ b, b < 64 → 64 * a + b = 0 ∨ (zpop 12 (64 * a + b) = zpop 12 ((64 * a + b) &&& (64 * a + b - 1)) + 1) := by decide +kernel
theorem zpop_and {n : Nat} (h : n < 4096) (h0 : ¬ n = 0) : zpop 12 n = zpop 12 (n &&& (n - 1)) + 1 := by
  have := zpop_and64 (n / 64) (by omega) (n % 64) (by omega)
  rw [show 64 * (n / 64) + n % 64 = n by omega] at this
  rcases this with h | h
  · exact absurd h h0
  · exact h
theorem zj_remn {a b : Int} (h1 : 0 ≤ a) (h2 : a < 2147483648) (h3 : 0 < b) (h4 : b < 2147483648) : zj a % zj b = zj (a % b) := by
  rw [zj_rem (by omega) h2 h3 h4, z_tmod_nn h1]
theorem zj_divn {a b : Int} (h1 : 0 ≤ a) (h2 : a < 2147483648) (h3 : 0 < b) (h4 : b < 2147483648) : zj a / zj b = zj (a / b) := by
  rw [zj_div (by omega) h2 (by omega) h4, Int.tdiv_eq_ediv_of_nonneg h1]
