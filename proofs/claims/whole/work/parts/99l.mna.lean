/-- the array class over int[] stands -/
def zAO (U : State) : Prop := (Cond.arrayOver (.array .int)).before #[] U = true
theorem zAO.moved {u U : State} (hvm : u.vm.Alike U.vm) (h : zAO u) : zAO U := by
  unfold zAO at h ⊢
  simp only [Cond.before, Cond.holds, Cond.value, beq_iff_eq] at h ⊢
  obtain ⟨comp, h1, h⟩ := Option.bind_eq_some_iff.mp h
  obtain ⟨c, h2, h⟩ := Option.bind_eq_some_iff.mp h
  obtain ⟨k, h3, h4⟩ := Option.map_eq_some_iff.mp h
  obtain ⟨k', hk', he⟩ := hvm.2.2 _ _ h3
  have ek : k'.kind = k.kind := by rw [he]
  refine Option.bind_eq_some_iff.mpr ⟨comp, by rw [hvm.findClass]; exact h1, Option.bind_eq_some_iff.mpr ⟨c, (hvm.findIdx?_eqK _ (fun _ => rfl)).trans h2, Option.map_eq_some_iff.mpr ⟨k', hk', ?_⟩⟩⟩
  rw [ek, hvm.findClass]
  exact h4
theorem zAO.use {s : State} {args : Array Value} (h : zAO s) : (Cond.arrayOver (.array .int)).before args s = true := h
def zAq (Q : zQt) : zQt := fun below args s A D ad0 t => zAO s → Q below args s A D ad0 t
theorem zAq_of {X : Nat × (Nat → Int32)} {M : zM} {Q : zQt} {k n pc : Nat} {P : zCf} (hh : ∀ ls st h, P ls st h → zV X M Q k n pc ls st h) : ∀ ls st h, P ls st h → zV X M (zAq Q) k n pc ls st h := by
  intro ls st h hp p l e s m args below meth c A D ad0 ad tys ws H locs cls cst hB hls hst T hT Xs
  obtain ⟨t, a1, b1⟩ := hh ls st h hp p l e s m args below meth c A D ad0 ad tys ws H locs cls cst hB hls hst T hT Xs
  exact ⟨t, a1, fun _ => b1⟩
def zCCo (X : Nat × (Nat → Int32)) (M : zM) (av : List Value) (h : zHp) (R : zRt) : Prop :=
  ∀ (l : Launch) (D : va_G) (ad0 : Nat → Option Nat) (tys : List (ClassId × FieldType)) (ws : va_W) (cav : List Value) (sz : Nat), l.stackTraces = false → zst ad0 av cav → zH ad0 tys h ws → zF (va_A ws sz) ad0 ad0 ws →
    Met l M.1 (zwsM M) M.2.2.2.2 (va_Pc cav (fun U => (U.heap.size = sz ∧ va_P D vwCl ws U.heap ∧ va_K D vwCl tys U ∧ va_D (fun _ => True) ws ∧ zE X U (va_A ws sz) ad0) ∧ zAO U)) (zQ R (va_A ws sz) D ad0) M.2.2.2.2.cells M.2.2.2.2.slots (va_A ws sz)
theorem zCCo_of {X : Nat × (Nat → Int32)} {M : zM} {av ls : List Value} {h : zHp} {R : zRt} (hy : plainFor M.1 = true) (hls : zlo av ++ List.replicate (M.2.2.1 - (zlo av).length) (Value.retAddr 0) = ls) (hlen : (zlo av).length ≤ M.2.2.1) (hV : zV X M (zAq (zQm M R)) 0 0 0 ls [] h) : zCCo X M av h R := by
  intro l D ad0 tys ws cav sz hl hst hH hF
  refine va_MetF (cc := M.2.1) (maxL := M.2.2.1) (ret := M.2.2.2.1) hy rfl ?_
  intro p e s m args below meth c s₁ B hml hv
  obtain ⟨rfl, ⟨hsz, hP, hK, hD, hE⟩, hO⟩ := hv
  subst hsz
  obtain ⟨g1, g2⟩ := zlo_args av cav 0 hst
  rw [lg_entry_eq]
  have hle := lv_entry cav (n := M.2.2.1) (by omega)
  have W0 := hV p l e s m _ below meth c (va_A ws s.heap.size) D ad0 ad0 tys ws s.heap [] _ [] ⟨⟨B.exec, B.bytes, B.returns, hml, findClass_of_methodNamed B.named, fun w hw => atoms_spec (ws := zwsM M) B.pre w (List.mem_cons_of_mem _ hw), B.notSynchronized, fun q h => Or.inr h, (name_of_methodNamed B.named B.method).1, hl⟩, hE, zLe.rf, hK, hP, hD.self, va_S.rf, hH, hF⟩ ⟨by rw [← hls]; simp; omega, _, hle, fun i v hi => by
    rw [← hls] at hi
    by_cases hil : i < (zlo av).length
    · rw [List.getElem?_append_left hil] at hi
      have := g2 i v hi
      rwa [Nat.zero_add] at this
    · rw [List.getElem?_append_right (by omega)] at hi
      have := List.mem_of_getElem? hi
      exact Or.inl ⟨0, (List.mem_replicate.mp this).2⟩⟩ trivial
  intro T hT Xs
  obtain ⟨t, a1, b1⟩ := W0 T hT Xs
  exact ⟨t, a1, b1 hO⟩
section ZCO
variable {X : Nat × (Nat → Int32)} {M M' : zM} {Q : zQt} {k n pc : Nat} {K : zCf} {h : zHp} {p : Program} {l : Launch} {e : Env} {s : State} {m : MethodId} {args : Array Value} {below : List Frame} {meth : Method} {c : Code} {A : Nat → Prop} {D : va_G} {ad0 ad : Nat → Option Nat} {tys : List (ClassId × FieldType)} {ws : va_W} {H : Heap} {locs : List Loc} {cls : Array Slot} {R' : zRt} {ls t rest st0 : List Value}
theorem z_inio {k' idx : Nat} {cst : List Value} (hO : zAO s) (hB : zB X M h l p s m args meth c A D ad0 ad tys ws H locs) (hls : zls ad M.2.2.1 ls cls) (hst : zst ad (.ref k' :: t) cst) (h4 : zs4 t) (hcc : zCCo X M' [.ref k'] h R') (hv : zMi M') (hna : (parseMethodDescriptor M'.1.desc).map (fun d => d.parameters.length) = some 0) (hl : zMl M.1.cls idx M'.1)
    (hd : decode M.2.1 pc = .ok (.invokespecial idx, 3)) (hrm : zRm M.2.2.2.2 M' k n) (hK : ∀ rv h', R' rv h' → zV X M Q (k + M'.2.2.2.2.cells) (n + M'.2.2.2.2.slots) (pc + 3) ls (rv.toList ++ t) h') : W p l e M.2.2.2.2 s m args below meth c H locs k n (Q below args s A D ad0) (F0 m pc cls cst) := by
  obtain ⟨a, rest, h1, rfl, hrest⟩ := hst.r
  obtain ⟨hC, hE, hL, hKK, hP, hD, hS, hH, hF⟩ := id hB
  obtain ⟨q1, q3, q4, q6, q7, q5⟩ := hv
  have hM := hcc l D ad tys ws [.ref a] H.size hC.2.2.2.2.2.2.2.2.2 ⟨⟨a, h1, rfl⟩, trivial⟩ hH (z_zF hB)
  have hbl : FrameBlind (va_Pc [.ref a] (fun U => (U.heap.size = H.size ∧ va_P D vwCl ws U.heap ∧ va_K D vwCl tys U ∧ va_D (fun _ => True) ws ∧ zE X U (va_A ws H.size) ad) ∧ zAO U)) := by
    intro a' U g mk q
    obtain ⟨q0, ⟨q1, qP, qK, qD, qE⟩, qO⟩ := q
    exact ⟨q0, ⟨q1, qP, va_K.moved (u := U) (U := U.calling g mk a') (Vm.Alike.refl U.vm) qK, qD, qE.move (U := U.calling g mk a') (State.WarmedH.refl U) (fun _ _ _ => rfl) (fun _ h => h) (Nat.le_refl _) zLe.rf⟩, qO.moved (u := U) (U := U.calling g mk a') (Vm.Alike.refl U.vm)⟩
  have hp : PreS s H (va_Pc [.ref a] (fun U => (U.heap.size = H.size ∧ va_P D vwCl ws U.heap ∧ va_K D vwCl tys U ∧ va_D (fun _ => True) ws ∧ zE X U (va_A ws H.size) ad) ∧ zAO U)) [.ref a] := ⟨hbl, fun U hU hW => ⟨rfl, (z_pre (cav := [.ref a]) hB U hU hW).2, hO.moved hW.alike⟩⟩
  have q4' : Cond.code M'.1 M'.2.1 M'.2.2.1 M'.2.2.2.1 ∈ zws := by rw [q6]; exact q4
  have hwq : zwsM M' = Cond.code M'.1 M'.2.1 M'.2.2.1 none :: zws := by unfold zwsM; rw [q6]
  obtain ⟨-, lv, hlv, -⟩ := id hls
  rcases hl with hl | ⟨host, hl⟩
  · have cw := cwI (R := M.2.2.2.2) (s := s) (args := args) (own := M.1.cls) (index := idx) (y := M'.1) (rm := M'.2.2.2.2) 0 hC.2.2.2.2.2.1 (zws_good (zwsM_sub q4')) hwq rfl rfl (hC.2.2.2.2.2.1 _ q3) (hC.2.2.2.2.2.1 _ hl) (hC.2.2.2.2.2.1 _ q1) q7 ⟨q5.1, q5.2, hna⟩ hrm.1
    exact z_cont (va_runI (g := F0 m pc cls (.ref a :: rest)) (As := []) (rest := rest) ⟨hC.1, hC.2.1, hC.2.2.2.1, hC.2.2.2.2.1, hC.2.2.2.2.2.1⟩ hM cw hp rfl rfl hlv.1 rfl (lv_room (h4.sum hrest)) hd hrm.2) rfl hB hls hrest hK
  · have cw := va_cnB (R := M.2.2.2.2) (rm := M'.2.2.2.2) (own := M.1.cls) (host := host) (index := idx) (y := M'.1) 0 hC.2.2.2.2.2.1 (zws_good (zwsM_sub q4')) hwq rfl rfl (hE.1 _ hl) (hC.2.2.2.2.2.1 _ q3) ⟨q5.1, q5.2, hna⟩ hrm.1
    exact z_cont (va_runIN (g := F0 m pc cls (.ref a :: rest)) (As := []) (rest := rest) ⟨hC.1, hC.2.1, hC.2.2.2.1, hC.2.2.2.2.1, hC.2.2.2.2.2.1⟩ hM ⟨cw, q7, hC.2.2.2.2.2.1 _ q1⟩ hp rfl rfl hlv.1 rfl (lv_room (h4.sum hrest)) hd hrm.2) rfl hB hls hrest hK
end ZCO
section ZCP
variable {X : Nat × (Nat → Int32)} {M M' : zM} {Q : zQt} {k n pc : Nat} {K : zCf}
def oINIo (X : Nat × (Nat → Int32)) (M' : zM) (K : zCf) : zCf := fun ls st h => match st with
  | .ref k :: t => zs4 t ∧ zCCo X M' [.ref k] h (fun rv h' => K ls (rv.toList ++ t) h')
  | _ => False
theorem sd_inio {idx : Nat} (hq : ∀ below args s A D ad0 t, ¬ zAO s → Q below args s A D ad0 t) (hd : decode M.2.1 pc = .ok (.invokespecial idx, 3)) (hv : zMi M') (hna : (parseMethodDescriptor M'.1.desc).map (fun d => d.parameters.length) = some 0) (hl : zMl M.1.cls idx M'.1) (hrm : zRm M.2.2.2.2 M' k n) (hK : ∀ ls st h, K ls st h → zV X M Q (k + M'.2.2.2.2.cells) (n + M'.2.2.2.2.slots) (pc + 3) ls st h) : ∀ ls st h, oINIo X M' K ls st h → zV X M Q k n pc ls st h := by
  intro ls st h hk p l e s m args below meth c A D ad0 ad tys ws H locs cls cst hB hls hst
  by_cases hO : zAO s
  rotate_left
  · intro T hT Xs
    exact ⟨_, Steps.refl _, hq _ _ _ _ _ _ _ hO⟩
  unfold oINIo at hk
  split at hk
  · exact z_inio hO hB hls hst hk.1 hk.2 hv hna hl hd hrm (fun rv h' hr => hK _ _ _ hr)
  · exact hk.elim
/-- N rows of K ints, and the row of them -/
def zmn (h : zHp) (N K : Nat) : zHp := ((znx h + 1 + N, fun k => if k = znx h then some (.inr (.array .int, N)) else if znx h ≤ k ∧ k ≤ znx h + N then some (.inr (.int, K)) else zsh h k), (fun a b => if znx h ≤ a ∧ a ≤ znx h + N then 0 else zgi h a b), (fun a b => if znx h ≤ a ∧ a ≤ znx h + N then 0 else zgl h a b), fun a b => if a = znx h then (if b < N then some (znx h + 1 + b) else none) else if znx h ≤ a ∧ a ≤ znx h + N then none else zgr h a b)
def oMNEWA (N K : Nat) (Kc : zCf) : zCf := fun ls st h => match st with
  | .int y :: .int x :: t => (x = zj (N : Nat) ∧ y = zj (K : Nat)) ∧ Kc ls (.ref (znx h) :: t) (zmn h N K)
  | _ => False
theorem sd_mnewa {N K' idx : Nat} (hq : ∀ below args s A D ad0 t, ¬ zAO s → Q below args s A D ad0 t) (hd : decode M.2.1 pc = .ok (.multianewarray idx 2, 4)) (h1 : Cond.classLink M.1.cls idx "[[I" ∈ zws) (h2 : Cond.arrayClass .int ∈ zws) (hN : N ≤ 100000) (hK0 : K' ≤ 100000) (hk1 : k + (1 + N) ≤ M.2.2.2.2.cells) (hk2 : n + (N + N * K') ≤ M.2.2.2.2.slots)
    (hK : ∀ ls st h, K ls st h → zV X M Q (k + 1 + N) (n + N + N * K') (pc + 4) ls st h) : ∀ ls st h, oMNEWA N K' K ls st h → zV X M Q k n pc ls st h := by
  intro ls st h hk p l e s m args below meth c A D ad0 ad tys ws H locs cls cst hB hls hst
  by_cases hO : zAO s
  rotate_left
  · intro T hT Xs
    exact ⟨_, Steps.refl _, hq _ _ _ _ _ _ _ hO⟩
  unfold oMNEWA at hk
  split at hk
  rotate_left
  · exact hk.elim
  obtain ⟨⟨rfl, rfl⟩, hk⟩ := hk
  obtain ⟨c1, rfl, hs1⟩ := hst.i
  obtain ⟨rest, rfl, hs2⟩ := hs1.i
  obtain ⟨hC, hE, hL, hKK, hP, hD, hS, hH, hF⟩ := id hB
  obtain ⟨hx, hb, -, -, hown, hts, -, hA, -⟩ := id hC
  have cN : (zj (N : Nat)).toNatClampNeg = N := zj_cn (by omega)
  have cK : (zj (K' : Nat)).toNatClampNeg = K' := zj_cn (by omega)
  have nN : ¬ zj (N : Nat) < 0 := by
    have := zj_in (a := (N : Nat)) (n := N + 1) (by omega) (by omega) (by omega)
    exact fun z => this (Or.inl z)
  have nK : ¬ zj (K' : Nat) < 0 := by
    have := zj_in (a := (K' : Nat)) (n := K' + 1) (by omega) (by omega) (by omega)
    exact fun z => this (Or.inl z)
  intro T hT Xs
  refine yMmk (N := N) (K := K') Xs hx hown (idx := idx) (hts _ h1) hO.use (hts _ h2) (g := F0 m pc cls (.int (zj (K' : Nat)) :: .int (zj (N : Nat)) :: rest)) rfl (by rw [hb]; exact hd) rfl nN cN nK cK hN hK0 hk1 hk2 (fun cA comp F hAr fA hAi fC X' f1 hold f2 frow => ?_)
  rw [hT] at f1 f2 hold frow
  obtain ⟨oE, hoE⟩ : ∃ oE : va_E, oE = .inl (cA, N, .inr (.inr (.inr (.inr (fun i => if i < N then some (H.size + 1 + i) else none))))) := ⟨_, rfl⟩
  obtain ⟨iE, hiE⟩ : ∃ iE : va_E, iE = .inl (comp, K', .inl (fun _ => 0)) := ⟨_, rfl⟩
  obtain ⟨nw, hnw⟩ : ∃ nw : va_W, nw = (H.size, oE) :: (List.range N).map (fun i => (H.size + 1 + i, iE)) := ⟨_, rfl⟩
  have hrow : ∀ j : Nat, j < N → F.heap[H.size + 1 + j]? = some (vp_cell comp (K', .inl (fun _ => 0))) := frow
  have hout : F.heap[H.size]? = some (vp_cell cA (N, .inr (.inr (.inr (.inr (fun i => if i < N then some (H.size + 1 + i) else none)))))) := f2
  have nwa : ∀ (j : Nat) (x : Nat × va_E), nw[j]? = some x → j ≤ N ∧ x.1 = H.size + j ∧ x.2 = if j = 0 then oE else iE := fun j x hx => by
    rw [hnw] at hx
    cases j with
    | zero => cases hx; exact ⟨by omega, rfl, rfl⟩
    | succ j =>
      rw [List.getElem?_cons_succ, List.getElem?_map] at hx
      by_cases h9 : j < N
      · rw [List.getElem?_range h9] at hx
        cases hx
        exact ⟨by omega, by show H.size + 1 + j = H.size + (j + 1); omega, by rw [if_neg (by omega)]⟩
      · rw [List.getElem?_eq_none (by rw [List.length_range]; omega)] at hx
        cases hx
  have nwg : ∀ j, j ≤ N → nw[j]? = some (H.size + j, if j = 0 then oE else iE) := fun j hj => by
    rw [hnw]
    cases j with
    | zero => rfl
    | succ j =>
      rw [List.getElem?_cons_succ, List.getElem?_map, List.getElem?_range (by omega), if_neg (by omega)]
      show some (H.size + 1 + j, iE) = _
      rw [show H.size + 1 + j = H.size + (j + 1) by omega]
  have hP1 : va_P D vwCl (ws ++ nw) F.heap := (hP.kept (fun k9 x hx => hold x.1 ((hP k9 x hx).lt))).app (fun j x hx => by
    obtain ⟨g1, g2, g3⟩ := nwa j x hx
    obtain ⟨x1, x2⟩ := x
    dsimp only at g2 g3
    subst g2
    subst g3
    by_cases hj : j = 0
    · subst hj
      rw [if_pos rfl, hoE]
      exact hout
    · rw [if_neg hj, hiE]
      have := hrow (j - 1) (by omega)
      rw [show H.size + 1 + (j - 1) = H.size + j by omega] at this
      exact this)
  have wlt : ∀ (i : Nat) (x : Nat × va_E), ws[i]? = some x → x.1 < H.size := fun i x hx => (hP i x hx).lt
  have hD1 : va_D A (ws ++ nw) := by
    refine ⟨fun i j x y hi hj hxy => ?_, fun j x hx => ?_⟩
    · by_cases c1 : i < ws.length <;> by_cases c2 : j < ws.length
      · rw [List.getElem?_append_left c1] at hi
        rw [List.getElem?_append_left c2] at hj
        exact hD.1 i j x y hi hj hxy
      · rw [List.getElem?_append_left c1] at hi
        rw [List.getElem?_append_right (by omega)] at hj
        have a1 := wlt _ _ hi
        have a2 := (nwa _ _ hj).2.1
        omega
      · rw [List.getElem?_append_right (by omega)] at hi
        rw [List.getElem?_append_left c2] at hj
        have a1 := wlt _ _ hj
        have a2 := (nwa _ _ hi).2.1
        omega
      · rw [List.getElem?_append_right (by omega)] at hi hj
        have a1 := (nwa _ _ hi).2.1
        have a2 := (nwa _ _ hj).2.1
        omega
    · by_cases c1 : j < ws.length
      · rw [List.getElem?_append_left c1] at hx
        exact hD.2 j x hx
      · rw [List.getElem?_append_right (by omega)] at hx
        have a2 := (nwa _ _ hx).2.1
        exact hA _ (by have := hS.1; omega)
  have hS1 : va_S A s.heap F.heap locs := ⟨by rw [f1]; have := hS.1; omega, fun x h1 h2 => (hold x (Nat.lt_of_lt_of_le h1 hS.1)).trans (hS.2.1 x h1 h2), hS.2.2⟩
  have hK2 : va_K D vwCl (tys ++ [(cA, .array .int), (comp, .int)]) s := ⟨hKK.1, fun k9 x hx => by
    by_cases hl : k9 < tys.length
    · rw [List.getElem?_append_left hl] at hx
      exact hKK.2 k9 x hx
    · rw [List.getElem?_append_right (by omega)] at hx
      have h0 : k9 - tys.length < 2 := (List.getElem?_eq_some_iff.mp hx).1
      rcases (show k9 - tys.length = 0 ∨ k9 - tys.length = 1 by omega) with h0 | h0
      · rw [h0] at hx
        cases hx
        exact ⟨hAr, fA⟩
      · rw [h0] at hx
        cases hx
        exact ⟨hAi, fC⟩⟩
  have tA : (tys ++ [(cA, FieldType.array .int), (comp, FieldType.int)])[tys.length]? = some (cA, FieldType.array .int) := by rw [List.getElem?_append_right (by omega)]; simp
  have tI : (tys ++ [(cA, FieldType.array .int), (comp, FieldType.int)])[tys.length + 1]? = some (comp, FieldType.int) := by rw [List.getElem?_append_right (by omega)]; simp
  obtain ⟨h1H, h2H, h3H⟩ := hH
  have adlt : ∀ a b, ad a = some b → a < znx h ∧ b < H.size := fun a b hab => by
    refine ⟨Nat.not_le.mp (fun z => (by rw [h2H a z] at hab; cases hab)), ?_⟩
    by_cases hAb : A b
    · obtain ⟨q, e9, hq9⟩ := (hF a b hab).2 hAb
      exact wlt _ _ hq9
    · exact Nat.lt_of_lt_of_le (Nat.not_le.mp fun z => hAb (hA b z)) hS.1
  obtain ⟨ad', had⟩ : ∃ ad' : Nat → Option Nat, ad' = fun a => if znx h ≤ a ∧ a ≤ znx h + N then some (H.size + (a - znx h)) else ad a := ⟨_, rfl⟩
  have ad1 : ∀ a, znx h ≤ a → a ≤ znx h + N → ad' a = some (H.size + (a - znx h)) := fun a q1 q2 => by rw [had]; exact if_pos ⟨q1, q2⟩
  have ad2 : ∀ a, ¬ (znx h ≤ a ∧ a ≤ znx h + N) → ad' a = ad a := fun a q => by rw [had]; exact if_neg q
  have hle : zLe ad ad' := fun a b hab => by rw [ad2 a (by have := (adlt a b hab).1; omega)]; exact hab
  have sh : ∀ a, zsh (zmn h N K') a = if a = znx h then some (.inr (.array .int, N)) else if znx h ≤ a ∧ a ≤ znx h + N then some (.inr (.int, K')) else zsh h a := fun _ => rfl
  have hH' : zH ad' (tys ++ [(cA, .array .int), (comp, .int)]) (zmn h N K') (ws ++ nw) := by
    refine ⟨fun a a' b hb1 hb2 => ?_, fun a ha => ?_, fun a cc hcc => ?_⟩
    · by_cases c1 : znx h ≤ a ∧ a ≤ znx h + N <;> by_cases c2 : znx h ≤ a' ∧ a' ≤ znx h + N
      · rw [ad1 a c1.1 c1.2] at hb1
        rw [ad1 a' c2.1 c2.2] at hb2
        cases hb1
        have := Option.some.inj hb2
        omega
      · rw [ad1 a c1.1 c1.2] at hb1
        rw [ad2 a' c2] at hb2
        cases hb1
        have := (adlt _ _ hb2).2
        omega
      · rw [ad2 a c1] at hb1
        rw [ad1 a' c2.1 c2.2] at hb2
        cases hb2
        have := (adlt _ _ hb1).2
        omega
      · rw [ad2 a c1] at hb1
        rw [ad2 a' c2] at hb2
        exact h1H _ _ _ hb1 hb2
    · have ha : znx h + 1 + N ≤ a := ha
      rw [ad2 a (by omega)]
      exact h2H a (by omega)
    · rw [sh] at hcc
      by_cases c1 : a = znx h
      · rw [if_pos c1] at hcc
        cases hcc
        refine ⟨H.size, ws.length + 0, oE, by rw [ad1 a (by omega) (by omega), c1]; simp, ?_, cA, tys.length, _, tA, hoE, _, rfl, fun j hj => ?_⟩
        · rw [List.getElem?_append_right (by omega), show ws.length + 0 - ws.length = 0 by omega, nwg 0 (by omega)]; rfl
        · have e1 : zgr (zmn h N K') a j = some (znx h + 1 + j) := (if_pos c1).trans (if_pos hj)
          rw [e1]
          exact ⟨H.size + 1 + j, by rw [ad1 _ (by omega) (by omega), show H.size + (znx h + 1 + j - znx h) = H.size + 1 + j by omega], by show (if j < N then some (H.size + 1 + j) else none) = _; rw [if_pos hj]⟩
      · rw [if_neg c1] at hcc
        by_cases c2 : znx h ≤ a ∧ a ≤ znx h + N
        · rw [if_pos c2] at hcc
          cases hcc
          refine ⟨H.size + (a - znx h), ws.length + (a - znx h), iE, ad1 a c2.1 c2.2, ?_, comp, tys.length + 1, _, tI, hiE, _, rfl, fun j hj => ?_⟩
          · rw [List.getElem?_append_right (by omega), show ws.length + (a - znx h) - ws.length = a - znx h by omega, nwg _ (by omega), if_neg (by omega)]
          · exact (if_pos c2 : zgi (zmn h N K') a j = 0).symm
        · rw [if_neg c2] at hcc
          obtain ⟨b, q, e9, k1, k2, k3⟩ := h3H a cc hcc
          have hlt : q < ws.length := (List.getElem?_eq_some_iff.mp k2).1
          exact ⟨b, q, e9, hle _ _ k1, by rw [List.getElem?_append_left hlt]; exact k2, k3.same hle (fun t x ht => ⟨t, by rw [List.getElem?_append_left (List.getElem?_eq_some_iff.mp ht).1]; exact ht⟩) (fun j => if_neg c2) (fun j => if_neg c2) (fun j => (if_neg c1).trans (if_neg c2))⟩
  have hF' : zF A ad0 ad' (ws ++ nw) := fun a b hab => by
    by_cases c2 : znx h ≤ a ∧ a ≤ znx h + N
    · rw [ad1 a c2.1 c2.2] at hab
      cases hab
      refine ⟨Or.inr (hA _ (by have := hS.1; omega)), fun _ => ⟨ws.length + (a - znx h), (if a - znx h = 0 then oE else iE), ?_⟩⟩
      rw [List.getElem?_append_right (by omega), show ws.length + (a - znx h) - ws.length = a - znx h by omega]
      exact nwg _ (by omega)
    · rw [ad2 a c2] at hab
      refine ⟨(hF a b hab).1, fun hAb => ?_⟩
      obtain ⟨q, e9, hq9⟩ := (hF a b hab).2 hAb
      have hlt : q < ws.length := (List.getElem?_eq_some_iff.mp hq9).1
      exact ⟨q, e9, by rw [List.getElem?_append_left hlt]; exact hq9⟩
  obtain ⟨t, a1, b1⟩ := hK _ _ _ hk p l e s m args below meth c A D ad0 ad' (tys ++ [(cA, .array .int), (comp, .int)]) (ws ++ nw) F.heap locs cls (.ref H.size :: rest) ⟨hC, hE, hL.tr hle, hK2, hP1, hD1, hS1, hH', hF'⟩ (hls.mono hle) ⟨⟨H.size, by rw [ad1 _ (by omega) (by omega)]; simp, rfl⟩, hs2.mono hle⟩ F rfl X'
  rw [hT]
  exact ⟨t, a1, b1⟩
end ZCP

theorem dX0_init_0 : decode cX0_init 0 = .ok (.aload_n 0, 1) := by decide +kernel
theorem dX0_init_1 : decode cX0_init 1 = .ok (.invokespecial 3, 3) := by decide +kernel
theorem dX0_init_4 : decode cX0_init 4 = .ok (.aload_n 0, 1) := by decide +kernel
theorem dX0_init_5 : decode cX0_init 5 = .ok (.bipush 16, 2) := by decide +kernel
theorem dX0_init_7 : decode cX0_init 7 = .ok (.bipush 15, 2) := by decide +kernel
theorem dX0_init_9 : decode cX0_init 9 = .ok (.multianewarray 13 2, 4) := by decide +kernel
theorem dX0_init_13 : decode cX0_init 13 = .ok (.putfield 15, 3) := by decide +kernel
theorem dX0_init_16 : decode cX0_init 16 = .ok (.aload_n 0, 1) := by decide +kernel
theorem dX0_init_17 : decode cX0_init 17 = .ok (.iconst 3, 1) := by decide +kernel
theorem dX0_init_18 : decode cX0_init 18 = .ok (.bipush 15, 2) := by decide +kernel
theorem dX0_init_20 : decode cX0_init 20 = .ok (.multianewarray 13 2, 4) := by decide +kernel
theorem dX0_init_24 : decode cX0_init 24 = .ok (.putfield 18, 3) := by decide +kernel
theorem dX0_init_27 : decode cX0_init 27 = .ok (.return_, 1) := by decide +kernel
def B_X0_init_0 (X : Nat × (Nat → Int32)) (J : Nat → zCf) (R : zRt) : zCf := oALOAD 0 (oOBJ (oALOAD 0 (oPI (zj (16)) (oPI (zj (15)) (oMNEWA 16 15 (oPUTR 0 0 (oALOAD 0 (oPI (zj (3)) (oPI (zj (15)) (oMNEWA 3 15 (oPUTR 0 1 (oVRET R))))))))))))
set_option maxRecDepth 100000 in
theorem vb_X0_init_0 {X : Nat × (Nat → Int32)} {R : zRt} : ∀ ls st h, B_X0_init_0 X (fun t => zV X M_X0_init (zAq (zQm M_X0_init R)) (if t ≤ 20 then 0 else 21) (if t ≤ 20 then 0 else 304) t) R ls st h → zV X M_X0_init (zAq (zQm M_X0_init R)) 0 0 0 ls st h := sd_aload_n dX0_init_0 rfl (sd_obj dX0_init_1 (zmt (zt1 (i := 198) rfl) rfl) (zmt (zt1 (i := 28) rfl) rfl) (zmt (zt1 (i := 29) rfl) rfl) (Nat.le_of_ble_eq_true rfl) (Nat.le_of_ble_eq_true rfl) (sd_aload_n dX0_init_4 rfl (sd_bipush dX0_init_5 rfl (sd_bipush dX0_init_7 rfl (sd_mnewa (N := 16) (K' := 15) (fun _ _ _ _ _ _ _ h z => absurd z h) dX0_init_9 (zmt (zt1 (i := 199) rfl) rfl) (zmt (zt1 (i := 155) rfl) rfl) (by decide) (by decide) (Nat.le_of_ble_eq_true rfl) (Nat.le_of_ble_eq_true rfl) (sd_putr dX0_init_13 zCl0 (Nat.le_of_ble_eq_true rfl) lk_RX0_15 (Or.inr ⟨_, rfl⟩) (Or.inr ⟨rfl, rfl, rfl, (zmt (zt1 (i := 201) rfl) rfl)⟩) (sd_aload_n dX0_init_16 rfl (sd_iconst dX0_init_17 rfl (sd_bipush dX0_init_18 rfl (sd_mnewa (N := 3) (K' := 15) (fun _ _ _ _ _ _ _ h z => absurd z h) dX0_init_20 (zmt (zt1 (i := 199) rfl) rfl) (zmt (zt1 (i := 155) rfl) rfl) (by decide) (by decide) (Nat.le_of_ble_eq_true rfl) (Nat.le_of_ble_eq_true rfl) (sd_putr dX0_init_24 zCl0 (Nat.le_of_ble_eq_true rfl) lk_RX0_18 (Or.inr ⟨_, rfl⟩) (Or.inr ⟨rfl, rfl, rfl, (zmt (zt1 (i := 202) rfl) rfl)⟩) (zAq_of (sd_vret dX0_init_27 rfl (Nat.le_of_ble_eq_true rfl) (Nat.le_of_ble_eq_true rfl))))))))))))))
theorem dX3_init_0 : decode cX3_init 0 = .ok (.aload_n 0, 1) := by decide +kernel
theorem dX3_init_1 : decode cX3_init 1 = .ok (.invokespecial 3, 3) := by decide +kernel
theorem dX3_init_4 : decode cX3_init 4 = .ok (.aload_n 0, 1) := by decide +kernel
theorem dX3_init_5 : decode cX3_init 5 = .ok (.bipush 6, 2) := by decide +kernel
theorem dX3_init_7 : decode cX3_init 7 = .ok (.sipush 144, 3) := by decide +kernel
theorem dX3_init_10 : decode cX3_init 10 = .ok (.multianewarray 11 2, 4) := by decide +kernel
theorem dX3_init_14 : decode cX3_init 14 = .ok (.putfield 13, 3) := by decide +kernel
theorem dX3_init_17 : decode cX3_init 17 = .ok (.aload_n 0, 1) := by decide +kernel
theorem dX3_init_18 : decode cX3_init 18 = .ok (.sipush 144, 3) := by decide +kernel
theorem dX3_init_21 : decode cX3_init 21 = .ok (.newarray .boolean, 2) := by decide +kernel
theorem dX3_init_23 : decode cX3_init 23 = .ok (.putfield 16, 3) := by decide +kernel
theorem dX3_init_26 : decode cX3_init 26 = .ok (.aload_n 0, 1) := by decide +kernel
theorem dX3_init_27 : decode cX3_init 27 = .ok (.getfield 13, 3) := by decide +kernel
theorem dX3_init_30 : decode cX3_init 30 = .ok (.iconst 0, 1) := by decide +kernel
theorem dX3_init_31 : decode cX3_init 31 = .ok (.aaload, 1) := by decide +kernel
theorem dX3_init_32 : decode cX3_init 32 = .ok (.iconst 0, 1) := by decide +kernel
theorem dX3_init_33 : decode cX3_init 33 = .ok (.iconst 1, 1) := by decide +kernel
theorem dX3_init_34 : decode cX3_init 34 = .ok (.iastore, 1) := by decide +kernel
theorem dX3_init_35 : decode cX3_init 35 = .ok (.iconst 1, 1) := by decide +kernel
theorem dX3_init_36 : decode cX3_init 36 = .ok (.istore_n 1, 1) := by decide +kernel
theorem dX3_init_37 : decode cX3_init 37 = .ok (.iload_n 1, 1) := by decide +kernel
theorem dX3_init_38 : decode cX3_init 38 = .ok (.iconst 5, 1) := by decide +kernel
theorem dX3_init_39 : decode cX3_init 39 = .ok (.if_icmp .gt 84, 3) := by decide +kernel
theorem dX3_init_42 : decode cX3_init 42 = .ok (.iconst 0, 1) := by decide +kernel
theorem dX3_init_43 : decode cX3_init 43 = .ok (.istore_n 2, 1) := by decide +kernel
theorem dX3_init_44 : decode cX3_init 44 = .ok (.iload_n 2, 1) := by decide +kernel
theorem dX3_init_45 : decode cX3_init 45 = .ok (.sipush 144, 3) := by decide +kernel
theorem dX3_init_48 : decode cX3_init 48 = .ok (.if_icmp .ge 69, 3) := by decide +kernel
theorem dX3_init_51 : decode cX3_init 51 = .ok (.bipush (-3), 2) := by decide +kernel
theorem dX3_init_53 : decode cX3_init 53 = .ok (.istore_n 3, 1) := by decide +kernel
theorem dX3_init_54 : decode cX3_init 54 = .ok (.iload_n 3, 1) := by decide +kernel
theorem dX3_init_55 : decode cX3_init 55 = .ok (.iconst 3, 1) := by decide +kernel
theorem dX3_init_56 : decode cX3_init 56 = .ok (.if_icmp .gt 55, 3) := by decide +kernel
theorem dX3_init_59 : decode cX3_init 59 = .ok (.iload_n 3, 1) := by decide +kernel
theorem dX3_init_60 : decode cX3_init 60 = .ok (.ifCond .eq 45, 3) := by decide +kernel
theorem dX3_init_63 : decode cX3_init 63 = .ok (.iload_n 2, 1) := by decide +kernel
theorem dX3_init_64 : decode cX3_init 64 = .ok (.bipush 12, 2) := by decide +kernel
theorem dX3_init_66 : decode cX3_init 66 = .ok (.idiv, 1) := by decide +kernel
theorem dX3_init_67 : decode cX3_init 67 = .ok (.iload_n 3, 1) := by decide +kernel
theorem dX3_init_68 : decode cX3_init 68 = .ok (.iadd, 1) := by decide +kernel
theorem dX3_init_69 : decode cX3_init 69 = .ok (.iload_n 2, 1) := by decide +kernel
theorem dX3_init_70 : decode cX3_init 70 = .ok (.bipush 12, 2) := by decide +kernel
theorem dX3_init_72 : decode cX3_init 72 = .ok (.irem, 1) := by decide +kernel
theorem dX3_init_73 : decode cX3_init 73 = .ok (.iload_n 3, 1) := by decide +kernel
theorem dX3_init_74 : decode cX3_init 74 = .ok (.invokestatic 20, 3) := by decide +kernel
theorem dX3_init_77 : decode cX3_init 77 = .ok (.iadd, 1) := by decide +kernel
theorem dX3_init_78 : decode cX3_init 78 = .ok (.invokestatic 24, 3) := by decide +kernel
theorem dX3_init_81 : decode cX3_init 81 = .ok (.istore 4, 2) := by decide +kernel
theorem dX3_init_83 : decode cX3_init 83 = .ok (.aload_n 0, 1) := by decide +kernel
theorem dX3_init_84 : decode cX3_init 84 = .ok (.getfield 13, 3) := by decide +kernel
theorem dX3_init_87 : decode cX3_init 87 = .ok (.iload_n 1, 1) := by decide +kernel
theorem dX3_init_88 : decode cX3_init 88 = .ok (.aaload, 1) := by decide +kernel
theorem dX3_init_89 : decode cX3_init 89 = .ok (.iload 4, 2) := by decide +kernel
theorem dX3_init_91 : decode cX3_init 91 = .ok (.dup2, 1) := by decide +kernel
theorem dX3_init_92 : decode cX3_init 92 = .ok (.iaload, 1) := by decide +kernel
theorem dX3_init_93 : decode cX3_init 93 = .ok (.aload_n 0, 1) := by decide +kernel
theorem dX3_init_94 : decode cX3_init 94 = .ok (.getfield 13, 3) := by decide +kernel
theorem dX3_init_97 : decode cX3_init 97 = .ok (.iload_n 1, 1) := by decide +kernel
theorem dX3_init_98 : decode cX3_init 98 = .ok (.iconst 1, 1) := by decide +kernel
theorem dX3_init_99 : decode cX3_init 99 = .ok (.isub, 1) := by decide +kernel
theorem dX3_init_100 : decode cX3_init 100 = .ok (.aaload, 1) := by decide +kernel
theorem dX3_init_101 : decode cX3_init 101 = .ok (.iload_n 2, 1) := by decide +kernel
theorem dX3_init_102 : decode cX3_init 102 = .ok (.iaload, 1) := by decide +kernel
theorem dX3_init_103 : decode cX3_init 103 = .ok (.iadd, 1) := by decide +kernel
theorem dX3_init_104 : decode cX3_init 104 = .ok (.iastore, 1) := by decide +kernel
theorem dX3_init_105 : decode cX3_init 105 = .ok (.iinc 3 1, 3) := by decide +kernel
theorem dX3_init_108 : decode cX3_init 108 = .ok (.goto (-54), 3) := by decide +kernel
theorem dX3_init_111 : decode cX3_init 111 = .ok (.iinc 2 1, 3) := by decide +kernel
theorem dX3_init_114 : decode cX3_init 114 = .ok (.goto (-70), 3) := by decide +kernel
theorem dX3_init_117 : decode cX3_init 117 = .ok (.iinc 1 1, 3) := by decide +kernel
theorem dX3_init_120 : decode cX3_init 120 = .ok (.goto (-83), 3) := by decide +kernel
theorem dX3_init_123 : decode cX3_init 123 = .ok (.return_, 1) := by decide +kernel
def B_X3_init_0 (X : Nat × (Nat → Int32)) (J : Nat → zCf) (R : zRt) : zCf := oALOAD 0 (oOBJ (oALOAD 0 (oPI (zj (6)) (oPI (zj (144)) (oMNEWA 6 144 (oPUTR 3 0 (oALOAD 0 (oPI (zj (144)) (oNEWAZ 144 (oPUTR 3 1 (oALOAD 0 (oGETR 3 0 (oPI (zj (0)) (oAALD (oPI (zj (0)) (oPI (zj (1)) (oIAST (oPI (zj (1)) (oISTORE 0 1 (J 37))))))))))))))))))))
set_option maxRecDepth 100000 in
theorem vb_X3_init_0 {X : Nat × (Nat → Int32)} {R : zRt} : ∀ ls st h, B_X3_init_0 X (fun t => zV X M_X3_init (zAq (zQm M_X3_init R)) (if t ≤ 21 then 0 else 8) (if t ≤ 21 then 0 else 1014) t) R ls st h → zV X M_X3_init (zAq (zQm M_X3_init R)) 0 0 0 ls st h := sd_aload_n dX3_init_0 rfl (sd_obj dX3_init_1 (zmt (zt1 (i := 224) rfl) rfl) (zmt (zt1 (i := 28) rfl) rfl) (zmt (zt1 (i := 29) rfl) rfl) (Nat.le_of_ble_eq_true rfl) (Nat.le_of_ble_eq_true rfl) (sd_aload_n dX3_init_4 rfl (sd_bipush dX3_init_5 rfl (sd_sipush dX3_init_7 rfl (sd_mnewa (N := 6) (K' := 144) (fun _ _ _ _ _ _ _ h z => absurd z h) dX3_init_10 (zmt (zt1 (i := 225) rfl) rfl) (zmt (zt1 (i := 155) rfl) rfl) (by decide) (by decide) (Nat.le_of_ble_eq_true rfl) (Nat.le_of_ble_eq_true rfl) (sd_putr dX3_init_14 zCl3 (Nat.le_of_ble_eq_true rfl) lk_RX3_13 (Or.inr ⟨_, rfl⟩) (Or.inr ⟨rfl, rfl, rfl, (zmt (zt1 (i := 235) rfl) rfl)⟩) (sd_aload_n dX3_init_17 rfl (sd_sipush dX3_init_18 rfl (sd_newaz dX3_init_21 (zmt (zt2 (i := 2) rfl) rfl) (by decide) (Nat.le_of_ble_eq_true rfl) (Nat.le_of_ble_eq_true rfl) (sd_putr dX3_init_23 zCl3 (Nat.le_of_ble_eq_true rfl) lk_RX3_16 (Or.inr ⟨_, rfl⟩) (Or.inr ⟨rfl, rfl, rfl, (zmt (zt1 (i := 236) rfl) rfl)⟩) (sd_aload_n dX3_init_26 rfl (sd_getr dX3_init_27 zCl3 (Nat.le_of_ble_eq_true rfl) lk_RX3_13 (Or.inr ⟨_, rfl⟩) (sd_iconst dX3_init_30 rfl (sd_aald dX3_init_31 (sd_iconst dX3_init_32 rfl (sd_iconst dX3_init_33 rfl (sd_iast dX3_init_34 (sd_iconst dX3_init_35 rfl (sd_istore_n dX3_init_36 rfl (Nat.le_of_ble_eq_true rfl) (Or.inl rfl) (fun _ _ _ h => h))))))))))))))))))))
def B_X3_init_37 (X : Nat × (Nat → Int32)) (J : Nat → zCf) (R : zRt) : zCf := oILOAD 1 (oPI (zj (5)) (oICGT (J 123) (oPI (zj (0)) (oISTORE 1 2 (J 44)))))
set_option maxRecDepth 100000 in
theorem vb_X3_init_37 {X : Nat × (Nat → Int32)} {R : zRt} : ∀ ls st h, B_X3_init_37 X (fun t => zV X M_X3_init (zAq (zQm M_X3_init R)) (if t ≤ 21 then 0 else 8) (if t ≤ 21 then 0 else 1014) t) R ls st h → zV X M_X3_init (zAq (zQm M_X3_init R)) 8 1014 37 ls st h := sd_iload_n dX3_init_37 rfl (sd_iconst dX3_init_38 rfl (sd_icgt dX3_init_39 rfl (fun _ _ _ h => h) (sd_iconst dX3_init_42 rfl (sd_istore_n dX3_init_43 rfl (Nat.le_of_ble_eq_true rfl) (Or.inl rfl) (fun _ _ _ h => h)))))
def B_X3_init_44 (X : Nat × (Nat → Int32)) (J : Nat → zCf) (R : zRt) : zCf := oILOAD 2 (oPI (zj (144)) (oICGE (J 117) (oPI (zj (-3)) (oISTORE 2 3 (J 54)))))
set_option maxRecDepth 100000 in
theorem vb_X3_init_44 {X : Nat × (Nat → Int32)} {R : zRt} : ∀ ls st h, B_X3_init_44 X (fun t => zV X M_X3_init (zAq (zQm M_X3_init R)) (if t ≤ 21 then 0 else 8) (if t ≤ 21 then 0 else 1014) t) R ls st h → zV X M_X3_init (zAq (zQm M_X3_init R)) 8 1014 44 ls st h := sd_iload_n dX3_init_44 rfl (sd_sipush dX3_init_45 rfl (sd_icge dX3_init_48 rfl (fun _ _ _ h => h) (sd_bipush dX3_init_51 rfl (sd_istore_n dX3_init_53 rfl (Nat.le_of_ble_eq_true rfl) (Or.inl rfl) (fun _ _ _ h => h)))))
def B_X3_init_54 (X : Nat × (Nat → Int32)) (J : Nat → zCf) (R : zRt) : zCf := oILOAD 3 (oPI (zj (3)) (oICGT (J 111) (oILOAD 3 (oIFEQ (J 105) (oILOAD 2 (oPI (zj (12)) (oIDIV (oILOAD 3 (oIADD (oILOAD 2 (oPI (zj (12)) (oIREM (oILOAD 3 (oINS1 X M_X7_half (oIADD (oINS2 X M_X3_shiftOf (oISTORE 3 4 (oALOAD 0 (oGETR 3 0 (oILOAD 1 (oAALD (oILOAD 4 (oDUP2 (oIALD (oALOAD 0 (oGETR 3 0 (oILOAD 1 (oPI (zj (1)) (oISUB (oAALD (oILOAD 2 (oIALD (oIADD (oIAST (J 105)))))))))))))))))))))))))))))))))))
set_option maxRecDepth 100000 in
theorem vb_X3_init_54 {X : Nat × (Nat → Int32)} {R : zRt} : ∀ ls st h, B_X3_init_54 X (fun t => zV X M_X3_init (zAq (zQm M_X3_init R)) (if t ≤ 21 then 0 else 8) (if t ≤ 21 then 0 else 1014) t) R ls st h → zV X M_X3_init (zAq (zQm M_X3_init R)) 8 1014 54 ls st h := sd_iload_n dX3_init_54 rfl (sd_iconst dX3_init_55 rfl (sd_icgt dX3_init_56 rfl (fun _ _ _ h => h) (sd_iload_n dX3_init_59 rfl (sd_ifeq dX3_init_60 rfl (fun _ _ _ h => h) (sd_iload_n dX3_init_63 rfl (sd_bipush dX3_init_64 rfl (sd_idiv dX3_init_66 (sd_iload_n dX3_init_67 rfl (sd_iadd dX3_init_68 (sd_iload_n dX3_init_69 rfl (sd_bipush dX3_init_70 rfl (sd_irem dX3_init_72 (sd_iload_n dX3_init_73 rfl (sd_ins1 dX3_init_74 ms_X7_half na_X7_half ml_RX3_20 ⟨⟨Nat.le_of_ble_eq_true rfl, Nat.le_of_ble_eq_true rfl⟩, ⟨Nat.le_of_ble_eq_true rfl, Nat.le_of_ble_eq_true rfl⟩⟩ (sd_iadd dX3_init_77 (sd_ins2 dX3_init_78 ms_X3_shiftOf na_X3_shiftOf ml_RX3_24 ⟨⟨Nat.le_of_ble_eq_true rfl, Nat.le_of_ble_eq_true rfl⟩, ⟨Nat.le_of_ble_eq_true rfl, Nat.le_of_ble_eq_true rfl⟩⟩ (sd_istore dX3_init_81 (Nat.le_of_ble_eq_true rfl) (Or.inl rfl) (sd_aload_n dX3_init_83 rfl (sd_getr dX3_init_84 zCl3 (Nat.le_of_ble_eq_true rfl) lk_RX3_13 (Or.inr ⟨_, rfl⟩) (sd_iload_n dX3_init_87 rfl (sd_aald dX3_init_88 (sd_iload dX3_init_89 (sd_dup2 dX3_init_91 (sd_iald dX3_init_92 (sd_aload_n dX3_init_93 rfl (sd_getr dX3_init_94 zCl3 (Nat.le_of_ble_eq_true rfl) lk_RX3_13 (Or.inr ⟨_, rfl⟩) (sd_iload_n dX3_init_97 rfl (sd_iconst dX3_init_98 rfl (sd_isub dX3_init_99 (sd_aald dX3_init_100 (sd_iload_n dX3_init_101 rfl (sd_iald dX3_init_102 (sd_iadd dX3_init_103 (sd_iast dX3_init_104 (fun _ _ _ h => h)))))))))))))))))))))))))))))))))))
def B_X3_init_105 (X : Nat × (Nat → Int32)) (J : Nat → zCf) (R : zRt) : zCf := oIINC 2 3 (zj (1)) (J 54)
set_option maxRecDepth 100000 in
theorem vb_X3_init_105 {X : Nat × (Nat → Int32)} {R : zRt} : ∀ ls st h, B_X3_init_105 X (fun t => zV X M_X3_init (zAq (zQm M_X3_init R)) (if t ≤ 21 then 0 else 8) (if t ≤ 21 then 0 else 1014) t) R ls st h → zV X M_X3_init (zAq (zQm M_X3_init R)) 8 1014 105 ls st h := sd_iinc dX3_init_105 rfl (Nat.le_of_ble_eq_true rfl) (Or.inl rfl) (sd_goto dX3_init_108 rfl (fun _ _ _ h => h))
def B_X3_init_111 (X : Nat × (Nat → Int32)) (J : Nat → zCf) (R : zRt) : zCf := oIINC 1 2 (zj (1)) (J 44)
set_option maxRecDepth 100000 in
theorem vb_X3_init_111 {X : Nat × (Nat → Int32)} {R : zRt} : ∀ ls st h, B_X3_init_111 X (fun t => zV X M_X3_init (zAq (zQm M_X3_init R)) (if t ≤ 21 then 0 else 8) (if t ≤ 21 then 0 else 1014) t) R ls st h → zV X M_X3_init (zAq (zQm M_X3_init R)) 8 1014 111 ls st h := sd_iinc dX3_init_111 rfl (Nat.le_of_ble_eq_true rfl) (Or.inl rfl) (sd_goto dX3_init_114 rfl (fun _ _ _ h => h))
def B_X3_init_117 (X : Nat × (Nat → Int32)) (J : Nat → zCf) (R : zRt) : zCf := oIINC 0 1 (zj (1)) (J 37)
set_option maxRecDepth 100000 in
theorem vb_X3_init_117 {X : Nat × (Nat → Int32)} {R : zRt} : ∀ ls st h, B_X3_init_117 X (fun t => zV X M_X3_init (zAq (zQm M_X3_init R)) (if t ≤ 21 then 0 else 8) (if t ≤ 21 then 0 else 1014) t) R ls st h → zV X M_X3_init (zAq (zQm M_X3_init R)) 8 1014 117 ls st h := sd_iinc dX3_init_117 rfl (Nat.le_of_ble_eq_true rfl) (Or.inl rfl) (sd_goto dX3_init_120 rfl (fun _ _ _ h => h))
def B_X3_init_123 (X : Nat × (Nat → Int32)) (J : Nat → zCf) (R : zRt) : zCf := oVRET R
set_option maxRecDepth 100000 in
theorem vb_X3_init_123 {X : Nat × (Nat → Int32)} {R : zRt} : ∀ ls st h, B_X3_init_123 X (fun t => zV X M_X3_init (zAq (zQm M_X3_init R)) (if t ≤ 21 then 0 else 8) (if t ≤ 21 then 0 else 1014) t) R ls st h → zV X M_X3_init (zAq (zQm M_X3_init R)) 8 1014 123 ls st h := zAq_of (sd_vret dX3_init_123 rfl (Nat.le_of_ble_eq_true rfl) (Nat.le_of_ble_eq_true rfl))
def B_X7_inito_0 (X : Nat × (Nat → Int32)) (J : Nat → zCf) (R : zRt) : zCf := oALOAD 0 (oOBJ (oALOAD 0 (oNEW 2 (oDUP (oINI X M_X2_init (oPUTR 7 0 (oALOAD 0 (oNEW 4 (oDUP (oINI X M_X4_init (oPUTR 7 1 (oALOAD 0 (oNEW 0 (oDUP (oINIo X M_X0_init (oPUTR 7 2 (oALOAD 0 (oNEW 3 (oDUP (oINIo X M_X3_init (oPUTR 7 3 (oALOAD 0 (oNEW 5 (oDUP (oINI X M_X5_init (oPUTR 7 4 (oVRET R)))))))))))))))))))))))))))
set_option maxRecDepth 100000 in
theorem vb_X7_inito_0 {X : Nat × (Nat → Int32)} {R : zRt} : ∀ ls st h, B_X7_inito_0 X (fun t => zV X M_X7_init (zAq (zQm M_X7_init R)) (if t ≤ 49 then 0 else 61) (if t ≤ 49 then 0 else 2319) t) R ls st h → zV X M_X7_init (zAq (zQm M_X7_init R)) 0 0 0 ls st h := sd_aload_n dX7_init_0 rfl (sd_obj dX7_init_1 (zmt (zt1 (i := 27) rfl) rfl) (zmt (zt1 (i := 28) rfl) rfl) (zmt (zt1 (i := 29) rfl) rfl) (Nat.le_of_ble_eq_true rfl) (Nat.le_of_ble_eq_true rfl) (sd_aload_n dX7_init_4 rfl (sd_new dX7_init_5 zCl2 (by decide) (zmt (zt1 (i := 30) rfl) rfl) (zmt (zt1 (i := 31) rfl) rfl) (zmt (zt1 (i := 2) rfl) rfl) (Nat.le_of_ble_eq_true rfl) (Nat.le_of_ble_eq_true rfl) (sd_dup dX7_init_8 (sd_ini dX7_init_9 mi_X2_init na_X2_init ml_RX7_9 ⟨⟨Nat.le_of_ble_eq_true rfl, Nat.le_of_ble_eq_true rfl⟩, ⟨Nat.le_of_ble_eq_true rfl, Nat.le_of_ble_eq_true rfl⟩⟩ (sd_putr dX7_init_12 zCl7 (Nat.le_of_ble_eq_true rfl) lk_RX7_10 (Or.inl ⟨_, rfl⟩) (Or.inr ⟨rfl, rfl, rfl, (zmt (zt2 (i := 24) rfl) rfl)⟩) (sd_aload_n dX7_init_15 rfl (sd_new dX7_init_16 zCl4 (by decide) (zmt (zt1 (i := 176) rfl) rfl) (zmt (zt1 (i := 177) rfl) rfl) (zmt (zt1 (i := 5) rfl) rfl) (Nat.le_of_ble_eq_true rfl) (Nat.le_of_ble_eq_true rfl) (sd_dup dX7_init_19 (sd_ini dX7_init_20 mi_X4_init na_X4_init ml_RX7_18 ⟨⟨Nat.le_of_ble_eq_true rfl, Nat.le_of_ble_eq_true rfl⟩, ⟨Nat.le_of_ble_eq_true rfl, Nat.le_of_ble_eq_true rfl⟩⟩ (sd_putr dX7_init_23 zCl7 (Nat.le_of_ble_eq_true rfl) lk_RX7_19 (Or.inl ⟨_, rfl⟩) (Or.inr ⟨rfl, rfl, rfl, (zmt (zt2 (i := 25) rfl) rfl)⟩) (sd_aload_n dX7_init_26 rfl (sd_new dX7_init_27 zCl0 (by decide) (zmt (zt1 (i := 193) rfl) rfl) (zmt (zt1 (i := 194) rfl) rfl) (zmt (zt1 (i := 6) rfl) rfl) (Nat.le_of_ble_eq_true rfl) (Nat.le_of_ble_eq_true rfl) (sd_dup dX7_init_30 (sd_inio (fun _ _ _ _ _ _ _ h z => absurd z h) dX7_init_31 mi_X0_init na_X0_init ml_RX7_25 ⟨⟨Nat.le_of_ble_eq_true rfl, Nat.le_of_ble_eq_true rfl⟩, ⟨Nat.le_of_ble_eq_true rfl, Nat.le_of_ble_eq_true rfl⟩⟩ (sd_putr dX7_init_34 zCl7 (Nat.le_of_ble_eq_true rfl) lk_RX7_26 (Or.inl ⟨_, rfl⟩) (Or.inr ⟨rfl, rfl, rfl, (zmt (zt2 (i := 26) rfl) rfl)⟩) (sd_aload_n dX7_init_37 rfl (sd_new dX7_init_38 zCl3 (by decide) (zmt (zt1 (i := 219) rfl) rfl) (zmt (zt1 (i := 220) rfl) rfl) (zmt (zt1 (i := 7) rfl) rfl) (Nat.le_of_ble_eq_true rfl) (Nat.le_of_ble_eq_true rfl) (sd_dup dX7_init_41 (sd_inio (fun _ _ _ _ _ _ _ h z => absurd z h) dX7_init_42 mi_X3_init na_X3_init ml_RX7_32 ⟨⟨Nat.le_of_ble_eq_true rfl, Nat.le_of_ble_eq_true rfl⟩, ⟨Nat.le_of_ble_eq_true rfl, Nat.le_of_ble_eq_true rfl⟩⟩ (sd_putr dX7_init_45 zCl7 (Nat.le_of_ble_eq_true rfl) lk_RX7_33 (Or.inl ⟨_, rfl⟩) (Or.inr ⟨rfl, rfl, rfl, (zmt (zt2 (i := 27) rfl) rfl)⟩) (sd_aload_n dX7_init_48 rfl (sd_new dX7_init_49 zCl5 (by decide) (zmt (zt2 (i := 3) rfl) rfl) (zmt (zt2 (i := 4) rfl) rfl) (zmt (zt1 (i := 9) rfl) rfl) (Nat.le_of_ble_eq_true rfl) (Nat.le_of_ble_eq_true rfl) (sd_dup dX7_init_52 (sd_ini dX7_init_53 mi_X5_init na_X5_init ml_RX7_39 ⟨⟨Nat.le_of_ble_eq_true rfl, Nat.le_of_ble_eq_true rfl⟩, ⟨Nat.le_of_ble_eq_true rfl, Nat.le_of_ble_eq_true rfl⟩⟩ (sd_putr dX7_init_56 zCl7 (Nat.le_of_ble_eq_true rfl) lk_RX7_40 (Or.inl ⟨_, rfl⟩) (Or.inr ⟨rfl, rfl, rfl, (zmt (zt2 (i := 28) rfl) rfl)⟩) (zAq_of (sd_vret dX7_init_59 rfl (Nat.le_of_ble_eq_true rfl) (Nat.le_of_ble_eq_true rfl)))))))))))))))))))))))))))))
