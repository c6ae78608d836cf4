section ZTR
variable {h h' : zHp} {p c : Nat}
theorem zAg.lo (a : zAg h h' c) (hc : 46 ≤ c) : zLo h h' := ⟨a.1, a.2.1, fun x y hx => a.2.2 x y (by omega)⟩
theorem zLo.rf (h : zHp) : zLo h h := ⟨rfl, rfl, fun _ _ _ => rfl⟩
theorem zLo.tr {h'' : zHp} (a : zLo h h') (b : zLo h' h'') : zLo h h'' := ⟨b.1.trans a.1, b.2.1.trans a.2.1, fun x y hx => (b.2.2 x y hx).trans (a.2.2 x y hx)⟩
theorem lo_gl (L : zLo h h') : zgl h' = zgl h := by funext x y; exact L.gl x y
theorem lo_gz (L : zLo h h') (x y : Nat) (hx : x ≤ 45) : gz h' x y = gz h x y := L.gz hx y
theorem lo_n (L : zLo h h') (hp : p = 20 ∨ p = 33) : zn h' p = zn h p := by
  unfold zn
  rw [L.gz (by omega)]
theorem lo_S (L : zLo h h') (hp : p = 20 ∨ p = 33) : zS h' p = zS h p := by
  funext b
  unfold zS
  rw [L.gz (by omega)]
theorem lo_cl (L : zLo h h') (hp : p = 20 ∨ p = 33) : zcl h' p = zcl h p := by
  funext x y b
  unfold zcl
  rw [L.gz (by omega), L.gz (by omega)]
theorem lo_T (L : zLo h h') (hp : p = 20 ∨ p = 33) : zT h' p = zT h p := by
  funext x y e
  unfold zT
  rw [lo_S L hp, lo_cl L hp, lo_n L hp]
theorem lo_is (L : zLo h h') (hp : p = 20 ∨ p = 33) : zis h' p = zis h p := by
  funext x y b
  unfold zis
  rw [lo_T L hp, lo_cl L hp]
theorem lo_st2 (L : zLo h h') (hp : p = 20 ∨ p = 33) : zst2 h' p = zst2 h p := by
  funext q
  unfold zst2
  rw [lo_T L hp, lo_S L hp]
theorem lo_co (L : zLo h h') (hp : p = 20 ∨ p = 33) : zco h' p = zco h p := by
  funext j q
  unfold zco
  rw [lo_T L hp, lo_gl L]
theorem lo_fn (L : zLo h h') (hp : p = 20 ∨ p = 33) : zfn h' p = zfn h p := by
  funext j
  unfold zfn
  rw [lo_co L hp, lo_gl L, L.gz (x := p) (by omega)]
  have : ∀ m, gz h' (p + 7) m = gz h (p + 7) m := fun m => L.gz (by omega) m
  simp only [this]
theorem lo_ll (L : zLo h h') (hp : p = 20 ∨ p = 33) : zll h' p = zll h p := by
  funext s q j
  unfold zll
  rw [lo_co L hp]
theorem lo_ml (L : zLo h h') (hp : p = 20 ∨ p = 33) : zml h' p = zml h p := by
  funext s q
  unfold zml
  rw [lo_ll L hp]
theorem lo_wl (L : zLo h h') (hp : p = 20 ∨ p = 33) : zwl h' p = zwl h p := by
  funext a b
  unfold zwl
  rw [lo_st2 L hp]
theorem lo_sv (L : zLo h h') (hp : p = 20 ∨ p = 33) : zsv h' p = zsv h p := by
  funext a b ot
  unfold zsv
  rw [lo_cl L hp, lo_n L hp, L.gz (x := p) (by omega)]
theorem lo_rs (L : zLo h h') (hp : p = 20 ∨ p = 33) : zrs h' p = zrs h p := by
  funext a b
  unfold zrs
  rw [lo_sv L hp]
theorem lo_rp (L : zLo h h') (hp : p = 20 ∨ p = 33) : zrp h' p = zrp h p := by
  funext i
  unfold zrp
  rw [lo_rs L hp]
theorem lo_ar (L : zLo h h') (hp : p = 20 ∨ p = 33) : zar h' p = zar h p := by
  funext x y
  unfold zar
  rw [lo_cl L hp, lo_n L hp]
  have : ∀ m, gz h' (p + 5) m = gz h (p + 5) m := fun m => L.gz (by omega) m
  simp only [this]
theorem lo_hol (L : zLo h h') (hp : p = 20 ∨ p = 33) : zhol h' p = zhol h p := by
  funext x
  unfold zhol
  rw [L.gz (x := p) (by omega)]
  have : ∀ m, gz h' (p + 9) m = gz h (p + 9) m := fun m => L.gz (by omega) m
  simp only [this]
theorem lo_g3 (L : zLo h h') (hp : p = 20 ∨ p = 33) : zgl3 h' p = zgl3 h p := by
  funext g a b
  unfold zgl3
  rw [lo_ar L hp, lo_n L hp]
  have e6 : ∀ m, gz h' (p + 6) m = gz h (p + 6) m := fun m => L.gz (by omega) m
  have e2 : ∀ m, gz h' (p + 2) m = gz h (p + 2) m := fun m => L.gz (by omega) m
  have e4 : ∀ m, gz h' (p + 4) m = gz h (p + 4) m := fun m => L.gz (by omega) m
  simp only [e6, e2, e4]
theorem lo_GG (L : zLo h h') (hp : p = 20 ∨ p = 33) : zGG h' p = zGG h p := by
  funext g j
  unfold zGG
  rw [lo_g3 L hp]
theorem zpi_ag (h : zHp) (c j : Nat) (x : Int32) : zAg h (zpi h c j x) c := ⟨rfl, rfl, fun a b ha => if_neg (fun z => ha z.1)⟩
/-- a query of the Model is over: only what is tried and the answer's fields are changed -/
def zJd (h h' : zHp) (t : Int) : Prop := h'.1 = h.1 ∧ h'.2.2 = h.2.2 ∧ (∀ x y, x ≠ 78 → x ≠ 81 → x ≠ 84 → x ≠ 85 → zgi h' x y = zgi h x y) ∧ (∀ y, 3 ≤ y → y ≤ 20 → zgi h' 78 y = zgi h 78 y) ∧ zgi h' 78 0 = zj 0 ∧ zgi h' 78 1 = zj t ∧ zgi h' 78 2 = zj (-1)
/-- while it runs -/
def zJu (h h' : zHp) : Prop := h'.1 = h.1 ∧ h'.2.2 = h.2.2 ∧ (∀ x y, x ≠ 78 → x ≠ 81 → x ≠ 84 → x ≠ 85 → zgi h' x y = zgi h x y) ∧ (∀ y, y ≤ 20 → zgi h' 78 y = zgi h 78 y)
theorem zJu.rf (h : zHp) : zJu h h := ⟨rfl, rfl, fun _ _ _ _ _ _ => rfl, fun _ _ => rfl⟩
theorem zJu.tr {h'' : zHp} (a : zJu h h') (b : zJu h' h'') : zJu h h'' := ⟨b.1.trans a.1, b.2.1.trans a.2.1, fun x y h1 h2 h3 h4 => (b.2.2.1 x y h1 h2 h3 h4).trans (a.2.2.1 x y h1 h2 h3 h4), fun y hy => (b.2.2.2 y hy).trans (a.2.2.2 y hy)⟩
theorem zAg.ju (a : zAg h h' c) (hc : c = 81 ∨ c = 84 ∨ c = 85) : zJu h h' := ⟨a.1, a.2.1, fun x y h1 h2 h3 h4 => a.2.2 x y (by omega), fun y _ => a.2.2 78 y (by omega)⟩
theorem zpi_ju (h : zHp) (j : Nat) (x : Int32) (hj : 23 ≤ j) : zJu h (zpi h 78 j x) := ⟨rfl, rfl, fun a b h1 _ _ _ => if_neg (fun z => h1 z.1), fun y hy => if_neg (fun z => by omega)⟩
theorem zJu.lo (a : zJu h h') : zLo h h' := ⟨a.1, a.2.1, fun x y hx => a.2.2.1 x y (by omega) (by omega) (by omega) (by omega)⟩
theorem zJu.jd (a : zJu (zpi h 78 0 (zj 0)) h') (t : Int) : zJd h (zrf h' t) t := by
  refine ⟨a.1, a.2.1, fun x y h1 h2 h3 h4 => ?_, fun y h1 h2 => ?_, ?_, rfl, rfl⟩
  · unfold zrf
    rw [zgi_pi, if_neg (by omega), zgi_pi, if_neg (by omega), a.2.2.1 x y h1 h2 h3 h4, zgi_pi, if_neg (by omega)]
  · unfold zrf
    rw [zgi_pi, if_neg (by omega), zgi_pi, if_neg (by omega), a.2.2.2 y h2, zgi_pi, if_neg (by omega)]
  · unfold zrf
    rw [zgi_pi, if_neg (by omega), zgi_pi, if_neg (by omega), a.2.2.2 0 (by omega), zgi_pi, if_pos ⟨rfl, rfl⟩]
theorem zJd_0 (h : zHp) (t : Int) : zJd h (zrf (zpi h 78 0 (zj 0)) t) t := (zJu.rf _).jd t
theorem zMo.ju (o : zMo h p) (a : zJu h h') : zMo h' p := by
  have hp := o.pp
  have g : ∀ x y, x ≤ 77 ∨ x = 79 ∨ x = 80 ∨ (86 ≤ x) → gz h' x y = gz h x y := fun x y hx => congrArg Int32.toInt (a.2.2.1 x y (by omega) (by omega) (by omega) (by omega))
  have L := a.lo
  refine ⟨o.mw.mv a.1 a.2.1, o.ta.mv a.1 a.2.1, ?_, ?_, hp, fun i hi => ?_, L.NV o.nv⟩
  · have r := o.tr
    unfold zTR at r ⊢
    have e5 : zcnt (fun b => ¬ gz h' (p + 5) b = -2) (zn h p) = zcnt (fun b => ¬ gz h (p + 5) b = -2) (zn h p) := zcnt_c _ (fun i _ => by rw [g _ _ (by omega)])
    have e6 : zcnt (fun b => ¬ gz h' (p + 6) b = -2) (zn h p) = zcnt (fun b => ¬ gz h (p + 6) b = -2) (zn h p) := zcnt_c _ (fun i _ => by rw [g _ _ (by omega)])
    rw [lo_n L hp, lo_S L hp, lo_gl L, e5, e6, g 87 _ (by omega), g 87 _ (by omega), g 87 _ (by omega), g 87 _ (by omega), g 87 _ (by omega), g 87 _ (by omega), g 87 _ (by omega), g p _ (by omega), g p _ (by omega), g p _ (by omega), g p _ (by omega), g p _ (by omega)]
    refine ⟨r.1, r.2.1, r.2.2.1, r.2.2.2.1, r.2.2.2.2.1, r.2.2.2.2.2.1, r.2.2.2.2.2.2.1, fun b hb => ?_, fun i hi => ?_, fun i hi => ?_⟩
    · rw [g 88 _ (by omega), g 89 _ (by omega), g 90 _ (by omega), g 91 _ (by omega), g (p + 4) _ (by omega), g (p + 5) _ (by omega), g (p + 6) _ (by omega)]
      exact r.2.2.2.2.2.2.2.1 b hb
    · rw [g 93 _ (by omega), g (p + 7) _ (by omega)]
      exact r.2.2.2.2.2.2.2.2.1 i hi
    · rw [g 94 _ (by omega), g (p + 9) _ (by omega)]
      exact r.2.2.2.2.2.2.2.2.2 i hi
  · have v := o.pv
    unfold zPV at v ⊢
    rw [g p _ (by omega), g p _ (by omega), g p _ (by omega), g p _ (by omega), g p _ (by omega)]
    refine ⟨v.1, fun b hb => ?_, v.2.2.1, fun b hb => ?_, v.2.2.2.2.1, fun b hb => ?_, v.2.2.2.2.2.2.1, fun b hb => ?_, v.2.2.2.2.2.2.2.2⟩
    · rw [g (p + 2) _ (by omega), g (p + 4) _ (by omega), g (p + 5) _ (by omega), g (p + 6) _ (by omega)]
      exact v.2.1 b hb
    · rw [g (p + 7) _ (by omega)]
      exact v.2.2.2.1 b hb
    · rw [g (p + 9) _ (by omega)]
      exact v.2.2.2.2.2.1 b hb
    · rw [g (p + 11) _ (by omega)]
      exact v.2.2.2.2.2.2.2.1 b hb
  · rw [a.2.2.1 80 i (by omega) (by omega) (by omega) (by omega), a.2.2.1 45 i (by omega) (by omega) (by omega) (by omega)]
    exact o.vn i hi
/-- the Model: no tube told, or one told -/
def zMu (h : zHp) (p : Nat) : Prop := (zMW h ∧ zgr h 78 3 = none ∧ gz h p 1 = 0 ∧ (p = 20 ∨ p = 33) ∧ gz h p 13 = 0) ∨ (zMo h p ∧ ¬ gz h p 1 = 0)
end ZTR
