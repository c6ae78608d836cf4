/-- heaps alike in the plans and the places now -/
def zLq (h h' : zHp) : Prop := h'.1 = h.1 ∧ h'.2.2 = h.2.2 ∧ ∀ x y, 20 ≤ x ∧ x ≤ 45 → zgi h' x y = zgi h x y
section ZLQ
variable {h h' : zHp} {d p c : Nat}
theorem zLq.gz (a : zLq h h') {x : Nat} (hx : 20 ≤ x ∧ x ≤ 45) (y : Nat) : gz h' x y = gz h x y := congrArg Int32.toInt (a.2.2 x y hx)
theorem zLq.gl (a : zLq h h') (x y : Nat) : zgl h' x y = zgl h x y := by unfold zgl; rw [a.2.1]
theorem lq_gl (L : zLq h h') : zgl h' = zgl h := by funext x y; exact L.gl x y
theorem lq_n (L : zLq h h') (hp : p = 20 ∨ p = 33) : zn h' p = zn h p := by
  unfold zn
  rw [L.gz (by omega)]
theorem lq_S (L : zLq h h') (hp : p = 20 ∨ p = 33) : zS h' p = zS h p := by
  funext b
  unfold zS
  rw [L.gz (by omega)]
theorem lq_cl (L : zLq h h') (hp : p = 20 ∨ p = 33) : zcl h' p = zcl h p := by
  funext x y b
  unfold zcl
  rw [L.gz (by omega), L.gz (by omega)]
theorem lq_T (L : zLq h h') (hp : p = 20 ∨ p = 33) : zT h' p = zT h p := by
  funext x y e
  unfold zT
  rw [lq_S L hp, lq_cl L hp, lq_n L hp]
theorem lq_is (L : zLq h h') (hp : p = 20 ∨ p = 33) : zis h' p = zis h p := by
  funext x y b
  unfold zis
  rw [lq_T L hp, lq_cl L hp]
theorem lq_st2 (L : zLq h h') (hp : p = 20 ∨ p = 33) : zst2 h' p = zst2 h p := by
  funext q
  unfold zst2
  rw [lq_T L hp, lq_S L hp]
theorem lq_co (L : zLq h h') (hp : p = 20 ∨ p = 33) : zco h' p = zco h p := by
  funext j q
  unfold zco
  rw [lq_T L hp, lq_gl L]
theorem lq_fn (L : zLq h h') (hp : p = 20 ∨ p = 33) : zfn h' p = zfn h p := by
  funext j
  unfold zfn
  rw [lq_co L hp, lq_gl L, L.gz (x := p) (by omega)]
  have : ∀ m, gz h' (p + 7) m = gz h (p + 7) m := fun m => L.gz (by omega) m
  simp only [this]
theorem lq_ll (L : zLq h h') (hp : p = 20 ∨ p = 33) : zll h' p = zll h p := by
  funext s q j
  unfold zll
  rw [lq_co L hp]
theorem lq_ml (L : zLq h h') (hp : p = 20 ∨ p = 33) : zml h' p = zml h p := by
  funext s q
  unfold zml
  rw [lq_ll L hp]
theorem lq_wl (L : zLq h h') (hp : p = 20 ∨ p = 33) : zwl h' p = zwl h p := by
  funext a b
  unfold zwl
  rw [lq_st2 L hp]
theorem lq_sv (L : zLq h h') (hp : p = 20 ∨ p = 33) : zsv h' p = zsv h p := by
  funext a b ot
  unfold zsv
  rw [lq_cl L hp, lq_n L hp, L.gz (x := p) (by omega)]
theorem lq_rs (L : zLq h h') (hp : p = 20 ∨ p = 33) : zrs h' p = zrs h p := by
  funext a b
  unfold zrs
  rw [lq_sv L hp]
theorem lq_rp (L : zLq h h') (hp : p = 20 ∨ p = 33) : zrp h' p = zrp h p := by
  funext i
  unfold zrp
  rw [lq_rs L hp]
theorem lq_ar (L : zLq h h') (hp : p = 20 ∨ p = 33) : zar h' p = zar h p := by
  funext x y
  unfold zar
  rw [lq_cl L hp, lq_n L hp]
  have : ∀ m, gz h' (p + 5) m = gz h (p + 5) m := fun m => L.gz (by omega) m
  simp only [this]
theorem lq_hol (L : zLq h h') (hp : p = 20 ∨ p = 33) : zhol h' p = zhol h p := by
  funext x
  unfold zhol
  rw [L.gz (x := p) (by omega)]
  have : ∀ m, gz h' (p + 9) m = gz h (p + 9) m := fun m => L.gz (by omega) m
  simp only [this]
theorem lq_g3 (L : zLq h h') (hp : p = 20 ∨ p = 33) : zgl3 h' p = zgl3 h p := by
  funext g a b
  unfold zgl3
  rw [lq_ar L hp, lq_n L hp]
  have e6 : ∀ m, gz h' (p + 6) m = gz h (p + 6) m := fun m => L.gz (by omega) m
  have e2 : ∀ m, gz h' (p + 2) m = gz h (p + 2) m := fun m => L.gz (by omega) m
  have e4 : ∀ m, gz h' (p + 4) m = gz h (p + 4) m := fun m => L.gz (by omega) m
  simp only [e6, e2, e4]
theorem lq_GG (L : zLq h h') (hp : p = 20 ∨ p = 33) : zGG h' p = zGG h p := by
  funext g j
  unfold zGG
  rw [lq_g3 L hp]
theorem lq_Ro (L : zLq h h') (hp : p = 20 ∨ p = 33) : zRo h' p = zRo h p := by
  funext g n r
  unfold zRo
  rw [lq_g3 L hp]
theorem zLq.PV (a : zLq h h') (hp : p = 20 ∨ p = 33) (v : zPV h p) : zPV h' p := by
  unfold zPV at v ⊢
  rw [a.gz (x := p) (by omega), a.gz (x := p) (by omega), a.gz (x := p) (by omega), a.gz (x := p) (by omega), a.gz (x := p) (by omega)]
  refine ⟨v.1, fun b hb => ?_, v.2.2.1, fun b hb => ?_, v.2.2.2.2.1, fun b hb => ?_, v.2.2.2.2.2.2.1, fun b hb => ?_, v.2.2.2.2.2.2.2.2⟩
  · rw [a.gz (x := p + 2) (by omega), a.gz (x := p + 4) (by omega), a.gz (x := p + 5) (by omega), a.gz (x := p + 6) (by omega)]
    exact v.2.1 b hb
  · rw [a.gz (x := p + 7) (by omega)]
    exact v.2.2.2.1 b hb
  · rw [a.gz (x := p + 9) (by omega)]
    exact v.2.2.2.2.2.1 b hb
  · rw [a.gz (x := p + 11) (by omega)]
    exact v.2.2.2.2.2.2.2.1 b hb
theorem zLq.NV (a : zLq h h') (u : zNV h) : zNV h' := by
  unfold zNV at u ⊢
  rw [a.gz (x := 45) (by omega)]
  refine ⟨fun b hb => ?_, fun b hb => ?_, u.2.2⟩
  · rw [a.gz (x := 45) (by omega)]
    exact u.1 b hb
  · rw [a.gz (x := 45) (by omega)]
    exact u.2.1 b hb
theorem zPlan.mv {q : Nat} (w : zPlan h q) (e1 : h'.1 = h.1) (e2 : h'.2.2 = h.2.2) : zPlan h' q := by
  unfold zPlan at w ⊢
  unfold zsh zgr at w ⊢
  rw [e1, e2]
  exact w
theorem zCW.mv (w : zCW h d p) (e1 : h'.1 = h.1) (e2 : h'.2.2 = h.2.2) : zCW h' d p := by
  unfold zCW at w ⊢
  refine ⟨w.1.mv e1 e2, w.2.1.mv e1 e2, ?_⟩
  have w := w.2.2
  unfold zsh zgr at w ⊢
  rw [e1, e2]
  exact w
/-- a row of places is in its bounds -/
def zNr (h : zHp) (q : Nat) : Prop := (∀ b : Nat, b < 6 → 0 ≤ gz h q b ∧ gz h q b < 12) ∧ (∀ i : Nat, i < 4 → 0 ≤ gz h q (6 + i) ∧ gz h q (6 + i) < 72) ∧ (0 ≤ gz h q 14 ∧ gz h q 14 ≤ 999)
theorem zNr.mv {q q' : Nat} (w : zNr h q) (e : ∀ i, i < 15 → zgi h' q' i = zgi h q i) : zNr h' q' := by
  have g : ∀ i, i < 15 → gz h' q' i = gz h q i := fun i hi => congrArg Int32.toInt (e i hi)
  refine ⟨fun b hb => ?_, fun i hi => ?_, ?_⟩
  · rw [g b (by omega)]; exact w.1 b hb
  · rw [g (6 + i) (by omega)]; exact w.2.1 i hi
  · rw [g 14 (by omega)]; exact w.2.2
/-- what is remembered: the class's ring of rows, the Model's row of rows -/
def zAc (h : zHp) : Prop := gz h 78 19 = gz h 46 2 ∧ gz h 78 20 = gz h 46 4 ∧ (∀ j : Nat, (j : Int) < gz h 46 2 → ∀ i : Nat, i < 15 → zgi h 82 (15 * j + i) = zgi h (48 + ((gz h 46 3 + 16 - gz h 46 2 + j) % 16).toNat) i) ∧ (∀ j : Nat, j < 3 → (j : Int) < gz h 46 4 → ∀ i : Nat, i < 15 → zgi h 83 (15 * j + i) = zgi h (65 + j) i) ∧ (∀ j : Nat, j < 16 → zNr h (48 + j)) ∧ (∀ j : Nat, j < 3 → zNr h (65 + j))
theorem zAc.mv (a : zAc h) (e78 : ∀ y, 19 ≤ y → y ≤ 20 → zgi h' 78 y = zgi h 78 y) (e : ∀ x y, (46 ≤ x ∧ x ≤ 67) ∨ x = 82 ∨ x = 83 → zgi h' x y = zgi h x y) : zAc h' := by
  have g : ∀ x y, (46 ≤ x ∧ x ≤ 67) → gz h' x y = gz h x y := fun x y hx => congrArg Int32.toInt (e x y (Or.inl hx))
  have g78 : ∀ y, 19 ≤ y → y ≤ 20 → gz h' 78 y = gz h 78 y := fun y h1 h2 => congrArg Int32.toInt (e78 y h1 h2)
  unfold zAc at a ⊢
  rw [g78 19 (by omega) (by omega), g78 20 (by omega) (by omega), g 46 2 (by omega), g 46 3 (by omega), g 46 4 (by omega)]
  refine ⟨a.1, a.2.1, fun j hj i hi => ?_, fun j h3 hj i hi => ?_, fun j hj => (a.2.2.2.2.1 j hj).mv (fun i _ => e _ _ (by omega)), fun j hj => (a.2.2.2.2.2 j hj).mv (fun i _ => e _ _ (by omega))⟩
  · rw [e 82 _ (by omega), e (48 + ((gz h 46 3 + 16 - gz h 46 2 + j) % 16).toNat) _ (by omega)]
    exact a.2.2.1 j hj i hi
  · rw [e 83 _ (by omega), e (65 + j) _ (by omega)]
    exact a.2.2.2.1 j h3 hj i hi
/-- the tapes -/
def zTp (h : zHp) : Prop := gz h 78 6 = gz h 18 1 ∧ (0 ≤ gz h 18 1 ∧ gz h 18 1 ≤ 800) ∧ ∀ i : Nat, (i : Int) < gz h 18 1 → zgi h 79 i = zgi h 19 i ∧ -128 ≤ gz h 19 i ∧ gz h 19 i ≤ 127
/-- what is told of the last call -/
def zTb (h : zHp) : Prop := zgi h 78 1 = zgi h 16 5 ∧ zgi h 78 12 = zgi h 17 3 ∧ (zgi h 16 5 = zj 4 → zgi h 78 2 = zgi h 17 4) ∧ (¬ zgi h 16 5 = zj 4 → zgi h 78 2 = zj (-1))
/-- no tube: all is nought -/
def zZe (h : zHp) (p : Nat) : Prop := gz h p 1 = 0 → gz h p 0 = 0 ∧ gz h p 8 = 0 ∧ gz h p 11 = 0 ∧ gz h p 13 = 0 ∧ gz h 45 14 = 0 ∧ gz h 46 2 = 0 ∧ gz h 46 4 = 0
def zI (h : zHp) (d p : Nat) : Prop := zCW h d p ∧ zPV h p ∧ zNV h ∧ zMV h ∧ zRV h ∧ zMu h p ∧ zAc h ∧ zTp h ∧ zTb h ∧ zZe h p ∧ (znx h = 102 ∧ zsh h 86 = some (.inr (.long, 1))) ∧ zPV h d
theorem zI.w (I : zI h d p) : zCW h d p := I.1
theorem zI.v (I : zI h d p) : zPV h p := I.2.1
theorem zI.u (I : zI h d p) : zNV h := I.2.2.1
theorem zI.m (I : zI h d p) : zMV h := I.2.2.2.1
theorem zI.r (I : zI h d p) : zRV h := I.2.2.2.2.1
theorem zI.o (I : zI h d p) : zMu h p := I.2.2.2.2.2.1
theorem zI.ac (I : zI h d p) : zAc h := I.2.2.2.2.2.2.1
theorem zI.tp (I : zI h d p) : zTp h := I.2.2.2.2.2.2.2.1
theorem zI.tb (I : zI h d p) : zTb h := I.2.2.2.2.2.2.2.2.1
theorem zI.ze (I : zI h d p) : zZe h p := I.2.2.2.2.2.2.2.2.2.1
theorem zI.ex (I : zI h d p) : znx h = 102 ∧ zsh h 86 = some (.inr (.long, 1)) := I.2.2.2.2.2.2.2.2.2.2.1
theorem zI.vd (I : zI h d p) : zPV h d := I.2.2.2.2.2.2.2.2.2.2.2
theorem zI.hp (I : zI h d p) : p = 20 ∨ p = 33 := by have := zc_dp I.w; omega
theorem zI.hd (I : zI h d p) : d = 20 ∨ d = 33 := by have := zc_dp I.w; omega
/-- the class's half of a query: only its trouble and what it works in are changed -/
def zQh (h h' : zHp) (t : Int) : Prop := h'.1 = h.1 ∧ h'.2.2 = h.2.2 ∧ (∀ x y, x ≠ 76 → x ≠ 77 → ¬ (x = 16 ∧ y = 5) → zgi h' x y = zgi h x y) ∧ zgi h' 16 5 = zj t
theorem zQh.lq {t : Int} (a : zQh h h' t) : zLq h h' := ⟨a.1, a.2.1, fun x y hx => a.2.2.1 x y (by omega) (by omega) (by omega)⟩
theorem zQh_pi (h : zHp) (t : Int) : zQh h (zpi h 16 5 (zj t)) t := ⟨rfl, rfl, fun x y _ _ hn => if_neg hn, rfl⟩
theorem zQh_sk (h : zHp) (p : Nat) (s : Int) (n : Nat) (t : Int) : zQh h (zpi (zskn h p s n) 16 5 (zj t)) t := by
  refine ⟨rfl, rfl, fun x y h1 h2 hn => ?_, rfl⟩
  rw [zgi_pi, if_neg hn]
  unfold zskn zsk
  rw [zgi_pi, if_neg (by omega), zgi_pi, if_neg (by omega), zgi_pi, if_neg (by omega), zgi_pi, if_neg (by omega)]
theorem zQh_gh (h : zHp) (p g n : Nat) (t : Int) : zQh h (zpi (zgh h p g n) 16 5 (zj t)) t := by
  refine ⟨rfl, rfl, fun x y h1 h2 hn => ?_, rfl⟩
  rw [zgi_pi, if_neg hn]
  exact (zwr_ag h 76 _ n).2.2 x y h1
theorem zTR_mv (r : zTR h p) (hp : p = 20 ∨ p = 33) (e1 : h'.2.2 = h.2.2) (e : ∀ x y, (20 ≤ x ∧ x ≤ 44) ∨ (87 ≤ x ∧ x ≤ 100) → zgi h' x y = zgi h x y) : zTR h' p := by
  have g : ∀ x y, (20 ≤ x ∧ x ≤ 44) ∨ (87 ≤ x ∧ x ≤ 100) → gz h' x y = gz h x y := fun x y hx => congrArg Int32.toInt (e x y hx)
  have gl : zgl h' = zgl h := by funext x y; unfold zgl; rw [e1]
  have en : zn h' p = zn h p := by unfold zn; rw [g p 1 (by omega)]
  have eS : zS h' p = zS h p := by funext b; exact g (p + 2) b (by omega)
  unfold zTR at r ⊢
  have e5 : zcnt (fun b => ¬ gz h' (p + 5) b = -2) (zn h p) = zcnt (fun b => ¬ gz h (p + 5) b = -2) (zn h p) := zcnt_c _ (fun i _ => by rw [g _ _ (by omega)])
  have e6 : zcnt (fun b => ¬ gz h' (p + 6) b = -2) (zn h p) = zcnt (fun b => ¬ gz h (p + 6) b = -2) (zn h p) := zcnt_c _ (fun i _ => by rw [g _ _ (by omega)])
  rw [en, eS, gl, e5, e6, g 87 _ (by omega), g 87 _ (by omega), g 87 _ (by omega), g 87 _ (by omega), g 87 _ (by omega), g 87 _ (by omega), g 87 _ (by omega), g p _ (by omega), g p _ (by omega), g p _ (by omega), g p _ (by omega), g p _ (by omega)]
  refine ⟨r.1, r.2.1, r.2.2.1, r.2.2.2.1, r.2.2.2.2.1, r.2.2.2.2.2.1, r.2.2.2.2.2.2.1, fun b hb => ?_, fun i hi => ?_, fun i hi => ?_⟩
  · rw [g 88 _ (by omega), g 89 _ (by omega), g 90 _ (by omega), g 91 _ (by omega), g (p + 4) _ (by omega), g (p + 5) _ (by omega), g (p + 6) _ (by omega)]
    exact r.2.2.2.2.2.2.2.1 b hb
  · rw [g 93 _ (by omega), g (p + 7) _ (by omega)]
    exact r.2.2.2.2.2.2.2.2.1 i hi
  · rw [g 94 _ (by omega), g (p + 9) _ (by omega)]
    exact r.2.2.2.2.2.2.2.2.2 i hi
theorem zMo_mv (o : zMo h p) (e1 : h'.1 = h.1) (e2 : h'.2.2 = h.2.2) (e : ∀ x y, (20 ≤ x ∧ x ≤ 45) ∨ x = 80 ∨ (87 ≤ x ∧ x ≤ 100) → zgi h' x y = zgi h x y) : zMo h' p := by
  have Lq : zLq h h' := ⟨e1, e2, fun x y hx => e x y (Or.inl hx)⟩
  exact ⟨o.mw.mv e1 e2, o.ta.mv e1 e2, zTR_mv o.tr o.pp e2 (fun x y hx => e x y (by omega)), Lq.PV o.pp o.pv, o.pp, fun i hi => by rw [e 80 i (by omega), e 45 i (by omega)]; exact o.vn i hi, Lq.NV o.nv⟩
theorem zMu_mv (o : zMu h p) (hp : p = 20 ∨ p = 33) (e1 : h'.1 = h.1) (e2 : h'.2.2 = h.2.2) (e : ∀ x y, (20 ≤ x ∧ x ≤ 45) ∨ x = 80 ∨ (87 ≤ x ∧ x ≤ 100) → zgi h' x y = zgi h x y) : zMu h' p := by
  have g : ∀ x y, (20 ≤ x ∧ x ≤ 45) → gz h' x y = gz h x y := fun x y hx => congrArg Int32.toInt (e x y (Or.inl hx))
  rcases o with ⟨w, hz, h0, hp, h13⟩ | ⟨o, h0⟩
  · exact Or.inl ⟨w.mv e1 e2, by unfold zgr at hz ⊢; rw [e2]; exact hz, by rw [g p 1 (by omega)]; exact h0, hp, by rw [g p 13 (by omega)]; exact h13⟩
  · exact Or.inr ⟨zMo_mv o e1 e2 e, by rw [g p 1 (by omega)]; exact h0⟩
/-- the Model at the class's heap -/
theorem zI.oq {t : Int} (I : zI h d p) (a : zQh h h' t) : zMu h' p := zMu_mv I.o I.hp a.1 a.2.1 (fun x y hx => a.2.2.1 x y (by omega) (by omega) (by omega))
theorem zI.q {h'' : zHp} {t : Int} (I : zI h d p) (a : zQh h h' t) (j : zJd h' h'' t) (ht : ¬ zj t = zj 4) : zI h'' d p := by
  have e1 := j.1.trans a.1
  have e2 := j.2.1.trans a.2.1
  have e : ∀ x y, x ≠ 76 → x ≠ 77 → x ≠ 78 → x ≠ 81 → x ≠ 84 → x ≠ 85 → ¬ (x = 16 ∧ y = 5) → zgi h'' x y = zgi h x y := fun x y h1 h2 h3 h4 h5 h6 h7 => (j.2.2.1 x y h3 h4 h5 h6).trans (a.2.2.1 x y h1 h2 h7)
  have e78 : ∀ y, 3 ≤ y → y ≤ 20 → zgi h'' 78 y = zgi h 78 y := fun y h1 h2 => (j.2.2.2.1 y h1 h2).trans (a.2.2.1 78 y (by omega) (by omega) (by omega))
  have g : ∀ x y, x ≠ 76 → x ≠ 77 → x ≠ 78 → x ≠ 81 → x ≠ 84 → x ≠ 85 → ¬ (x = 16 ∧ y = 5) → gz h'' x y = gz h x y := fun x y h1 h2 h3 h4 h5 h6 h7 => congrArg Int32.toInt (e x y h1 h2 h3 h4 h5 h6 h7)
  have Lq : zLq h h'' := ⟨e1, e2, fun x y hx => e x y (by omega) (by omega) (by omega) (by omega) (by omega) (by omega) (by omega)⟩
  have e16 : zgi h'' 16 5 = zj t := (j.2.2.1 16 5 (by omega) (by omega) (by omega) (by omega)).trans a.2.2.2
  have hp := I.hp
  refine ⟨I.w.mv e1 e2, Lq.PV I.hp I.v, Lq.NV I.u, ?_, fun n hn s hs => ?_, zMu_mv I.o I.hp e1 e2 (fun x y hx => e x y (by omega) (by omega) (by omega) (by omega) (by omega) (by omega) (by omega)), I.ac.mv (fun y h1 h2 => e78 y (by omega) (by omega)) (fun x y hx => e x y (by omega) (by omega) (by omega) (by omega) (by omega) (by omega) (by omega)), ?_, ?_, ?_, ?_, Lq.PV I.hd I.vd⟩
  · have := I.m
    unfold zMV at this ⊢
    rw [g 46 2 (by omega) (by omega) (by omega) (by omega) (by omega) (by omega) (by omega), g 46 3 (by omega) (by omega) (by omega) (by omega) (by omega) (by omega) (by omega), g 46 4 (by omega) (by omega) (by omega) (by omega) (by omega) (by omega) (by omega)]
    exact this
  · rw [g (70 + n) s (by omega) (by omega) (by omega) (by omega) (by omega) (by omega) (by omega)]
    exact I.r n hn s hs
  · have := I.tp
    unfold zTp at this ⊢
    rw [show gz h'' 78 6 = gz h 78 6 from congrArg Int32.toInt (e78 6 (by omega) (by omega)), g 18 1 (by omega) (by omega) (by omega) (by omega) (by omega) (by omega) (by omega)]
    refine ⟨this.1, this.2.1, fun i hi => ?_⟩
    rw [e 79 i (by omega) (by omega) (by omega) (by omega) (by omega) (by omega) (by omega), e 19 i (by omega) (by omega) (by omega) (by omega) (by omega) (by omega) (by omega), g 19 i (by omega) (by omega) (by omega) (by omega) (by omega) (by omega) (by omega)]
    exact this.2.2 i hi
  · have := I.tb
    unfold zTb at this ⊢
    rw [e16, j.2.2.2.2.2.1, j.2.2.2.2.2.2, e78 12 (by omega) (by omega), e 17 3 (by omega) (by omega) (by omega) (by omega) (by omega) (by omega) (by omega)]
    exact ⟨rfl, this.2.1, fun z => absurd z ht, fun _ => rfl⟩
  · have := I.ze
    unfold zZe at this ⊢
    rw [Lq.gz (x := p) (by omega), Lq.gz (x := p) (by omega), Lq.gz (x := p) (by omega), Lq.gz (x := p) (by omega), Lq.gz (x := p) (by omega), Lq.gz (x := 45) (by omega), g 46 2 (by omega) (by omega) (by omega) (by omega) (by omega) (by omega) (by omega), g 46 4 (by omega) (by omega) (by omega) (by omega) (by omega) (by omega) (by omega)]
    exact this
  · have := I.ex
    unfold znx zsh at this ⊢
    rw [e1]
    exact this
end ZLQ
