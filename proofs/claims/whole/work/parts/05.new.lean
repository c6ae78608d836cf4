def zok (ty : FieldType) : Bool := match ty with
  | .int | .boolean | .long | .object _ | .array _ => true
  | _ => false
section ZN
variable {X : Nat × (Nat → Int32)} {M : zM} {Q : zQt} {k n pc : Nat} {K : zCf} {h : zHp} {p : Program} {l : Launch} {e : Env} {s : State} {m : MethodId} {args : Array Value} {below : List Frame} {meth : Method} {c : Code} {A : Nat → Prop} {D : va_G} {ad0 ad : Nat → Option Nat} {tys tys' : List (ClassId × FieldType)} {ws : va_W} {H H1 : Heap} {locs : List Loc}
theorem z_pushB {q : Nat} {x : va_E} {sp : Nat ⊕ (FieldType × Nat)} (hB : zB X M h l p s m args meth c A D ad0 ad tys ws H locs) (hK' : va_K D vwCl tys' s) (ht : ∀ (t : Nat) (q : ClassId × FieldType), tys[t]? = some q → ∃ t' : Nat, tys'[t']? = some q) (hP1 : va_P D vwCl (ws ++ [(q, x)]) H1) (hD1 : va_D A (ws ++ [(q, x)])) (hS1 : va_S A s.heap H1 locs)
    (he : ∀ ad' : Nat → Option Nat, zcell ad' tys' (zal h sp) (znx h) sp x) : ∃ ad', zLe ad ad' ∧ ad' (znx h) = some q ∧ zB X M (zal h sp) l p s m args meth c A D ad0 ad' tys' (ws ++ [(q, x)]) H1 locs := by
  obtain ⟨hC, hE, hL, hK, hP, hD, hS, hH, hF⟩ := hB
  have hlast : (ws ++ [(q, x)])[ws.length]? = some (q, x) := by simp
  have hfr : ∀ k b, ad k = some b → b ≠ q := by
    intro k b hb z
    subst z
    obtain ⟨q', e', h'⟩ := (hF k b hb).2 (hD1.2 _ _ hlast)
    have hlt : q' < ws.length := (List.getElem?_eq_some_iff.mp h').1
    have := hD1.1 q' ws.length (b, e') (b, x) (by rw [List.getElem?_append_left hlt]; exact h') hlast rfl
    omega
  obtain ⟨g1, g2⟩ := hH.push ht hfr he
  refine ⟨_, g2, if_pos rfl, hC, hE, hL.tr g2, hK', hP1, hD1, hS1, g1, fun k b hb => ?_⟩
  by_cases hk : k = znx h
  · simp only [if_pos hk] at hb
    cases hb
    exact ⟨Or.inr (hD1.2 _ _ hlast), fun _ => ⟨_, _, hlast⟩⟩
  · simp only [if_neg hk] at hb
    refine ⟨(hF k b hb).1, fun hA => ?_⟩
    obtain ⟨q', e', h'⟩ := (hF k b hb).2 hA
    have hlt : q' < ws.length := (List.getElem?_eq_some_iff.mp h').1
    exact ⟨q', e', by rw [List.getElem?_append_left hlt]; exact h'⟩
end ZN
section ZN2
variable {X : Nat × (Nat → Int32)} {M : zM} {Q : zQt} {k n pc : Nat} {K : zCf}
def oNEW (ci : Nat) (K : zCf) : zCf := fun ls st h => K ls (.ref (znx h) :: st) (zal h (.inl ci))
theorem sd_new {ci : Nat} {C : String} {T : u_T} {N idx : Nat} {t0 : Nat → FieldType} (hd : decode M.2.1 pc = .ok (.new idx, 3)) (hc : zCls ci C T N t0) (hok : ∀ j, j < N → zok (t0 j) = true) (h1 : Cond.classLink M.1.cls idx C ∈ zws) (h2 : Cond.instantiable C N ∈ zws) (h3 : Cond.initialized C ∈ zws) (hk1 : k + 1 ≤ M.2.2.2.2.cells) (hk2 : n + N ≤ M.2.2.2.2.slots)
    (hK : ∀ ls st h, K ls st h → zV X M Q (k + 1) (n + N) (pc + 3) ls st h) : ∀ ls st h, oNEW ci K ls st h → zV X M Q k n pc ls st h := by
  intro ls st h hk p l e s m args below meth c A D ad0 ad tys ws H locs cls cst hB hls hst
  obtain ⟨hC, hE, hL, hKK, hP, hD, hS, hH, hF⟩ := id hB
  obtain ⟨hx, hb, -, -, hown, hts, -, hA, -⟩ := id hC
  refine va_new (fs := (List.range N).map (fun j => defaultValue (t0 j))) hx hb hts hc.2.1 t0 hc.2.2.1 hown (hts _ h1) (hts _ h2) (hts _ h3) hKK hP hD hS hA hc.1 (fun j hj => by simp [vp_V, hj]) hk1 hk2 hd (fun q H1 hP1 hD1 hS1 => ?_)
  obtain ⟨ad', g1, g2, g3⟩ := z_pushB (sp := .inl ci) hB hKK (fun t q ht => ⟨t, ht⟩) hP1 hD1 hS1 (fun ad' => ⟨_, rfl, by rw [hc.2.2.2.2]; simp, fun j ty hj => by
    rw [hc.2.2.2.2] at hj
    have hjN : j < N := by
      have := (List.getElem?_eq_some_iff.mp hj).1
      simpa using this
    have e1 : ty = t0 j := by simpa [hjN] using hj.symm
    subst e1
    refine ⟨defaultValue (t0 j), by simp [hjN], ?_⟩
    have h9 := hok j hjN
    have z1 : zgi (zal h (.inl ci)) (znx h) j = 0 := if_pos rfl
    have z2 : zgl (zal h (.inl ci)) (znx h) j = 0 := if_pos rfl
    have z3 : zgr (zal h (.inl ci)) (znx h) j = none := if_pos rfl
    generalize t0 j = ty at h9 ⊢
    unfold zfv
    cases ty <;> simp only [zok, Bool.false_eq_true] at h9 ⊢ <;> first | (rw [z1]; rfl) | (rw [z2]; rfl) | (rw [z3]; rfl)⟩)
  exact hK _ _ _ hk p l e s m args below meth c A D ad0 ad' tys _ H1 locs cls _ g3 (hls.mono g1) ⟨⟨q, g2, rfl⟩, hst.mono g1⟩

def oNEWAI (N : Nat) (K : zCf) : zCf := fun ls st h => match st with
  | .int x :: t => (¬ x < 0 ∧ x.toNatClampNeg = N) ∧ K ls (.ref (znx h) :: t) (zal h (.inr (.int, N)))
  | _ => False
theorem sd_newai {N : Nat} (hd : decode M.2.1 pc = .ok (.newarray .int, 2)) (hw : Cond.arrayClass .int ∈ zws) (hN : N * componentBytes .int ≤ 536870912) (hk1 : k + 1 ≤ M.2.2.2.2.cells) (hk2 : n + N ≤ M.2.2.2.2.slots) (hK : ∀ ls st h, K ls st h → zV X M Q (k + 1) (n + N) (pc + 2) ls st h) : ∀ ls st h, oNEWAI N K ls st h → zV X M Q k n pc ls st h := by
  intro ls st h hk p l e s m args below meth c A D ad0 ad tys ws H locs cls cst hB hls hst
  unfold oNEWAI at hk
  split at hk
  · obtain ⟨⟨hx0, hxN⟩, hk⟩ := hk
    obtain ⟨c1, rfl, hs1⟩ := hst.i
    obtain ⟨hC, hE, hL, hKK, hP, hD, hS, hH, hF⟩ := id hB
    obtain ⟨hx, hb, -, -, hown, hts, -, hA, -⟩ := id hC
    refine va_newa (atype := .int) (ty := .int) (a0 := (N, .inl (fun _ => 0))) hx hb (hts _ hw) rfl hKK hP hD hS hA (fun cA => rfl) hx0 hxN hN hk1 hk2 hd (fun q cA H1 hK1 hP1 hD1 hS1 => ?_)
    obtain ⟨ad', g1, g2, g3⟩ := z_pushB (sp := .inr (.int, N)) hB hK1 (fun t q ht => ⟨t, by rw [List.getElem?_append_left (List.getElem?_eq_some_iff.mp ht).1]; exact ht⟩) hP1 hD1 hS1 (fun ad' => ⟨cA, tys.length, _, by simp, rfl, _, rfl, fun j hj => (if_pos rfl : zgi (zal h _) (znx h) j = 0).symm⟩)
    exact hK _ _ _ hk p l e s m args below meth c A D ad0 ad' _ _ H1 locs cls _ g3 (hls.mono g1) ⟨⟨q, g2, rfl⟩, hs1.mono g1⟩
  · exact hk.elim
def oNEWAB (N : Nat) (K : zCf) : zCf := fun ls st h => match st with
  | .int x :: t => (¬ x < 0 ∧ x.toNatClampNeg = N) ∧ K ls (.ref (znx h) :: t) (zal h (.inr (.byte, N)))
  | _ => False
theorem sd_newab {N : Nat} (hd : decode M.2.1 pc = .ok (.newarray .byte, 2)) (hw : Cond.arrayClass .byte ∈ zws) (hN : N * componentBytes .byte ≤ 536870912) (hk1 : k + 1 ≤ M.2.2.2.2.cells) (hk2 : n + N ≤ M.2.2.2.2.slots) (hK : ∀ ls st h, K ls st h → zV X M Q (k + 1) (n + N) (pc + 2) ls st h) : ∀ ls st h, oNEWAB N K ls st h → zV X M Q k n pc ls st h := by
  intro ls st h hk p l e s m args below meth c A D ad0 ad tys ws H locs cls cst hB hls hst
  unfold oNEWAB at hk
  split at hk
  · obtain ⟨⟨hx0, hxN⟩, hk⟩ := hk
    obtain ⟨c1, rfl, hs1⟩ := hst.i
    obtain ⟨hC, hE, hL, hKK, hP, hD, hS, hH, hF⟩ := id hB
    obtain ⟨hx, hb, -, -, hown, hts, -, hA, -⟩ := id hC
    refine va_newa (atype := .byte) (ty := .byte) (a0 := (N, .inl (fun _ => 0))) hx hb (hts _ hw) rfl hKK hP hD hS hA (fun cA => rfl) hx0 hxN hN hk1 hk2 hd (fun q cA H1 hK1 hP1 hD1 hS1 => ?_)
    obtain ⟨ad', g1, g2, g3⟩ := z_pushB (sp := .inr (.byte, N)) hB hK1 (fun t q ht => ⟨t, by rw [List.getElem?_append_left (List.getElem?_eq_some_iff.mp ht).1]; exact ht⟩) hP1 hD1 hS1 (fun ad' => ⟨cA, tys.length, _, by simp, rfl, _, rfl, fun j hj => (if_pos rfl : zgi (zal h _) (znx h) j = 0).symm⟩)
    exact hK _ _ _ hk p l e s m args below meth c A D ad0 ad' _ _ H1 locs cls _ g3 (hls.mono g1) ⟨⟨q, g2, rfl⟩, hs1.mono g1⟩
  · exact hk.elim
def oNEWAZ (N : Nat) (K : zCf) : zCf := fun ls st h => match st with
  | .int x :: t => (¬ x < 0 ∧ x.toNatClampNeg = N) ∧ K ls (.ref (znx h) :: t) (zal h (.inr (.boolean, N)))
  | _ => False
theorem sd_newaz {N : Nat} (hd : decode M.2.1 pc = .ok (.newarray .boolean, 2)) (hw : Cond.arrayClass .boolean ∈ zws) (hN : N * componentBytes .boolean ≤ 536870912) (hk1 : k + 1 ≤ M.2.2.2.2.cells) (hk2 : n + N ≤ M.2.2.2.2.slots) (hK : ∀ ls st h, K ls st h → zV X M Q (k + 1) (n + N) (pc + 2) ls st h) : ∀ ls st h, oNEWAZ N K ls st h → zV X M Q k n pc ls st h := by
  intro ls st h hk p l e s m args below meth c A D ad0 ad tys ws H locs cls cst hB hls hst
  unfold oNEWAZ at hk
  split at hk
  · obtain ⟨⟨hx0, hxN⟩, hk⟩ := hk
    obtain ⟨c1, rfl, hs1⟩ := hst.i
    obtain ⟨hC, hE, hL, hKK, hP, hD, hS, hH, hF⟩ := id hB
    obtain ⟨hx, hb, -, -, hown, hts, -, hA, -⟩ := id hC
    refine va_newa (atype := .boolean) (ty := .boolean) (a0 := (N, .inl (fun _ => 0))) hx hb (hts _ hw) rfl hKK hP hD hS hA (fun cA => rfl) hx0 hxN hN hk1 hk2 hd (fun q cA H1 hK1 hP1 hD1 hS1 => ?_)
    obtain ⟨ad', g1, g2, g3⟩ := z_pushB (sp := .inr (.boolean, N)) hB hK1 (fun t q ht => ⟨t, by rw [List.getElem?_append_left (List.getElem?_eq_some_iff.mp ht).1]; exact ht⟩) hP1 hD1 hS1 (fun ad' => ⟨cA, tys.length, _, by simp, rfl, _, rfl, fun j hj => (if_pos rfl : zgi (zal h _) (znx h) j = 0).symm⟩)
    exact hK _ _ _ hk p l e s m args below meth c A D ad0 ad' _ _ H1 locs cls _ g3 (hls.mono g1) ⟨⟨q, g2, rfl⟩, hs1.mono g1⟩
  · exact hk.elim
def oNEWAL (N : Nat) (K : zCf) : zCf := fun ls st h => match st with
  | .int x :: t => (¬ x < 0 ∧ x.toNatClampNeg = N) ∧ K ls (.ref (znx h) :: t) (zal h (.inr (.long, N)))
  | _ => False
theorem sd_newal {N : Nat} (hd : decode M.2.1 pc = .ok (.newarray .long, 2)) (hw : Cond.arrayClass .long ∈ zws) (hN : N * componentBytes .long ≤ 536870912) (hk1 : k + 1 ≤ M.2.2.2.2.cells) (hk2 : n + N ≤ M.2.2.2.2.slots) (hK : ∀ ls st h, K ls st h → zV X M Q (k + 1) (n + N) (pc + 2) ls st h) : ∀ ls st h, oNEWAL N K ls st h → zV X M Q k n pc ls st h := by
  intro ls st h hk p l e s m args below meth c A D ad0 ad tys ws H locs cls cst hB hls hst
  unfold oNEWAL at hk
  split at hk
  · obtain ⟨⟨hx0, hxN⟩, hk⟩ := hk
    obtain ⟨c1, rfl, hs1⟩ := hst.i
    obtain ⟨hC, hE, hL, hKK, hP, hD, hS, hH, hF⟩ := id hB
    obtain ⟨hx, hb, -, -, hown, hts, -, hA, -⟩ := id hC
    refine va_newa (atype := .long) (ty := .long) (a0 := (N, .inr (.inl (fun _ => 0)))) hx hb (hts _ hw) rfl hKK hP hD hS hA (fun cA => rfl) hx0 hxN hN hk1 hk2 hd (fun q cA H1 hK1 hP1 hD1 hS1 => ?_)
    obtain ⟨ad', g1, g2, g3⟩ := z_pushB (sp := .inr (.long, N)) hB hK1 (fun t q ht => ⟨t, by rw [List.getElem?_append_left (List.getElem?_eq_some_iff.mp ht).1]; exact ht⟩) hP1 hD1 hS1 (fun ad' => ⟨cA, tys.length, _, by simp, rfl, _, rfl, fun j hj => (if_pos rfl : zgl (zal h _) (znx h) j = 0).symm⟩)
    exact hK _ _ _ hk p l e s m args below meth c A D ad0 ad' _ _ H1 locs cls _ g3 (hls.mono g1) ⟨⟨q, g2, rfl⟩, hs1.mono g1⟩
  · exact hk.elim
def oCOPY (K : zCf) : zCf := fun ls st h => match st with
  | .int n :: .int dp :: .ref d :: .int sp :: .ref b :: t => match zsh h b, zsh h d with
    | some (.inr (.int, n0)), some (.inr (.int, n1)) => zs4 t ∧ (¬ sp < 0 ∧ ¬ dp < 0 ∧ ¬ n < 0 ∧ sp.toNatClampNeg + n.toNatClampNeg ≤ n0 ∧ dp.toNatClampNeg + n.toNatClampNeg ≤ n1) ∧ K ls t (zcp h b sp.toNatClampNeg d dp.toNatClampNeg n.toNatClampNeg)
    | _, _ => False
  | _ => False
theorem sd_copy {idx : Nat} (hd : decode M.2.1 pc = .ok (.invokestatic idx, 3)) (h1 : Cond.methodLink M.1.cls idx arraycopyName ∈ zws) (h2 : Cond.native arraycopyName ∈ zws) (h3 : Cond.static arraycopyName ∈ zws) (h4 : Cond.initialized "java/lang/System" ∈ zws) (hf : 1 ≤ M.2.2.2.2.frames) (hlo : 8 + (nativeFrameWords "java/lang/System" "arraycopy" 5 + 11) ≤ M.2.2.2.2.locals)
    (hK : ∀ ls st h, K ls st h → zV X M Q k n (pc + 3) ls st h) : ∀ ls st h, oCOPY K ls st h → zV X M Q k n pc ls st h := by
  intro ls st h hk p l e s m args below meth c A D ad0 ad tys ws H locs cls cst hB hls hst
  unfold oCOPY at hk
  split at hk
  · split at hk
    · rename_i n' dp d sp b t _ _ n0 n1 hz0 hz1
      obtain ⟨h9, ⟨e1, e2, e3, e4, e5⟩, hk⟩ := hk
      obtain ⟨c1, rfl, hs1⟩ := hst.i
      obtain ⟨c2, rfl, hs2⟩ := hs1.i
      obtain ⟨a1, c3, r1, rfl, hs3⟩ := hs2.r
      obtain ⟨c4, rfl, hs4⟩ := hs3.i
      obtain ⟨a0, c5, r0, rfl, hs5⟩ := hs4.r
      obtain ⟨hC, hE, hL, hKK, hP, hD, hS, hH, hF⟩ := id hB
      obtain ⟨hx, hb, -, hml, hown, hts, -, hA, -⟩ := id hC
      obtain ⟨-, lv, hlv, -⟩ := id hls
      obtain ⟨q0, cA0, t0, y0, g1, g2, f, rfl, g3⟩ := z_row hH hz0 r0
      obtain ⟨q1, cA1, t1, y1, k1, k2, g, rfl, k3⟩ := z_row hH hz1 r1
      have hsum := h9.sum hs5
      refine va_copyi hx hb (hml.trans hlv.1.symm) hown (hts _ h1) (hts _ h2) (hts _ h3) (hts _ h4) hKK hP hD hS q0 q1 t0 t1 g1 k1 g2 k2 rfl e1 e2 e3 e4 e5 (fun _ _ => rfl) hf (by omega) hd (fun H1 locs1 hP1 hD1 hS1 => hK _ _ _ hk p l e s m args below meth c A D ad0 ad tys _ H1 locs1 cls _ ⟨hC, hE, hL, hKK, hP1, hD1, hS1, hH.set rfl hz1 r1 k1 (fun a ha b => if_neg (fun z => ha z.1)) (fun a _ b => rfl) (fun a _ b => rfl) ⟨cA1, t1, _, k2, rfl, _, rfl, fun j hj => ?_⟩, hF.set k1⟩ hls hs5)
      show va_cpy f g sp.toNatClampNeg dp.toNatClampNeg n'.toNatClampNeg j = if d = d ∧ dp.toNatClampNeg ≤ j ∧ j < dp.toNatClampNeg + n'.toNatClampNeg then zgi h b (sp.toNatClampNeg + (j - dp.toNatClampNeg)) else zgi h d j
      unfold va_cpy
      by_cases hj2 : dp.toNatClampNeg ≤ j ∧ j < dp.toNatClampNeg + n'.toNatClampNeg
      · rw [if_pos hj2, if_pos ⟨rfl, hj2⟩]
        exact g3 _ (by omega)
      · rw [if_neg hj2, if_neg (fun z => hj2 z.2)]
        exact k3 j hj
    · exact hk.elim
  · exact hk.elim
end ZN2
