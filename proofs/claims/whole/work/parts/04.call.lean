def zCC (X : Nat × (Nat → Int32)) (M : zM) (av : List Value) (h : zHp) (R : zRt) : Prop :=
  ∀ (l : Launch) (D : va_G) (ad0 : Nat → Option Nat) (tys : List (ClassId × FieldType)) (ws : va_W) (cav : List Value) (sz : Nat), l.stackTraces = false → zst ad0 av cav → zH ad0 tys h ws → zF (va_A ws sz) ad0 ad0 ws →
    Met l M.1 (zwsM M) M.2.2.2.2 (va_Pc cav (fun U => U.heap.size = sz ∧ va_P D vwCl ws U.heap ∧ va_K D vwCl tys U ∧ va_D (fun _ => True) ws ∧ zE X U (va_A ws sz) ad0)) (zQ R (va_A ws sz) D ad0) M.2.2.2.2.cells M.2.2.2.2.slots (va_A ws sz)
def zlo : List Value → List Value
  | [] => []
  | .long x :: t => .long x :: .retAddr 0 :: zlo t
  | v :: t => v :: zlo t
theorem zlo_args {ad : Nat → Option Nat} : ∀ (av cav : List Value) (o : Nat), zst ad av cav → (lg_sl cav).length = (zlo av).length ∧ ∀ (i : Nat) (v : Value), (zlo av)[i]? = some v → (∃ q, v = .retAddr q) ∨ ∃ w, zxv ad v w ∧ (o + i, w) ∈ lv_args o cav
  | [], [], o, _ => ⟨rfl, fun i v h => by simp [zlo] at h⟩
  | [], _ :: _, _, h => h.elim
  | _ :: _, [], _, h => h.elim
  | v :: av, w :: cav, o, h => by
    obtain ⟨h1, h2⟩ := h
    by_cases hl : v.category = 2
    · obtain ⟨x, rfl⟩ : ∃ x, v = .long x := by
        cases v <;> first | exact ⟨_, rfl⟩ | exact h1.elim | simp [Value.category] at hl
      cases h1
      obtain ⟨g1, g2⟩ := zlo_args av cav (o + 2) h2
      refine ⟨?_, fun i v hi => ?_⟩
      · show (lg_sl (.long x :: cav)).length = (zlo av).length + 1 + 1
        rw [← g1]
        simp [lg_sl, Value.category]
      · have hi : (Value.long x :: Value.retAddr 0 :: zlo av)[i]? = some v := hi
        match i, hi with
        | 0, hi => cases hi; exact Or.inr ⟨_, rfl, by simp [lv_args, Value.category]⟩
        | 1, hi => cases hi; exact Or.inl ⟨0, rfl⟩
        | i + 2, hi =>
          rcases g2 i v hi with h | ⟨w, g3, g4⟩
          · exact Or.inl h
          · refine Or.inr ⟨w, g3, ?_⟩
            rw [show o + (i + 2) = o + 2 + i by omega]
            simp only [lv_args, Value.category, if_true]
            exact List.mem_cons_of_mem _ g4
    · have hz : zlo (v :: av) = v :: zlo av := by
        cases v <;> first | rfl | exact absurd rfl hl
      have hw : ¬ w.category = 2 := by rw [h1.cat]; exact hl
      obtain ⟨g1, g2⟩ := zlo_args av cav (o + 1) h2
      rw [hz]
      refine ⟨?_, fun i u hi => ?_⟩
      · rw [List.length_cons, ← g1]
        simp [lg_sl, hw]
      · match i, hi with
        | 0, hi => cases hi; exact Or.inr ⟨w, h1, by simp [lv_args]⟩
        | i + 1, hi =>
          rcases g2 i u hi with h | ⟨w', g3, g4⟩
          · exact Or.inl h
          · refine Or.inr ⟨w', g3, ?_⟩
            rw [show o + (i + 1) = o + 1 + i by omega]
            simp only [lv_args, if_neg hw]
            exact List.mem_cons_of_mem _ g4
theorem zCC_of {X : Nat × (Nat → Int32)} {M : zM} {av ls : List Value} {h : zHp} {R : zRt} (hy : plainFor M.1 = true) (hls : zlo av ++ List.replicate (M.2.2.1 - (zlo av).length) (Value.retAddr 0) = ls) (hlen : (zlo av).length ≤ M.2.2.1) (hV : zV X M (zQm M R) 0 0 0 ls [] h) : zCC X M av h R := by
  intro l D ad0 tys ws cav sz hl hst hH hF
  refine va_MetF (cc := M.2.1) (maxL := M.2.2.1) (ret := M.2.2.2.1) hy rfl ?_
  intro p e s m args below meth c s₁ B hml hv
  obtain ⟨rfl, hsz, hP, hK, hD, hE⟩ := hv
  subst hsz
  obtain ⟨g1, g2⟩ := zlo_args av cav 0 hst
  rw [lg_entry_eq]
  have hle := lv_entry cav (n := M.2.2.1) (by omega)
  refine hV p l e s m _ below meth c (va_A ws s.heap.size) D ad0 ad0 tys ws s.heap [] _ [] ⟨⟨B.exec, B.bytes, B.returns, hml, findClass_of_methodNamed B.named, fun w hw => atoms_spec (ws := zwsM M) B.pre w (List.mem_cons_of_mem _ hw), B.notSynchronized, fun q h => Or.inr h, (name_of_methodNamed B.named B.method).1, hl⟩, hE, zLe.rf, hK, hP, hD.self, va_S.rf, hH, hF⟩ ⟨by rw [← hls]; simp; omega, _, hle, fun i v hi => ?_⟩ trivial
  rw [← hls] at hi
  by_cases hil : i < (zlo av).length
  · rw [List.getElem?_append_left hil] at hi
    have := g2 i v hi
    rwa [Nat.zero_add] at this
  · rw [List.getElem?_append_right (by omega)] at hi
    have := List.mem_of_getElem? hi
    exact Or.inl ⟨0, (List.mem_replicate.mp this).2⟩
def zc1 (v : Value) : Prop := match v with
  | .long _ => False
  | .double _ => False
  | _ => True
def zs4 (t : List Value) : Prop := match t with
  | [] => True
  | [_] => True
  | [_, _] => True
  | [_, _, _] => True
  | [_, _, _, _] => True
  | [a, b, c, d, e] => zc1 a ∧ zc1 b ∧ zc1 c ∧ zc1 d ∧ zc1 e
  | [a, b, c, d, e, f] => zc1 a ∧ zc1 b ∧ zc1 c ∧ zc1 d ∧ zc1 e ∧ zc1 f
  | [a, b, c, d, e, f, g] => zc1 a ∧ zc1 b ∧ zc1 c ∧ zc1 d ∧ zc1 e ∧ zc1 f ∧ zc1 g
  | _ => False
theorem zcat_le (v : Value) : v.category ≤ 2 := by cases v <;> simp [Value.category]
theorem zc1.cat {v : Value} (h : zc1 v) : v.category = 1 := by cases v <;> first | rfl | exact h.elim
theorem zs4.sum {ad : Nat → Option Nat} {t ct : List Value} (h : zs4 t) (hc : zst ad t ct) : (ct.map fun v => v.category).sum ≤ 8 := by
  rw [hc.cats]
  match t, h with
  | [], _ => simp
  | [a], _ => have := zcat_le a; simp; omega
  | [a, b], _ => have := zcat_le a; have := zcat_le b; simp; omega
  | [a, b, c], _ => have := zcat_le a; have := zcat_le b; have := zcat_le c; simp; omega
  | [a, b, c, d], _ => have := zcat_le a; have := zcat_le b; have := zcat_le c; have := zcat_le d; simp; omega
  | [a, b, c, d, e], h => have := h.1.cat; have := h.2.1.cat; have := h.2.2.1.cat; have := h.2.2.2.1.cat; have := h.2.2.2.2.cat; simp; omega
  | [a, b, c, d, e, f], h => have := h.1.cat; have := h.2.1.cat; have := h.2.2.1.cat; have := h.2.2.2.1.cat; have := h.2.2.2.2.1.cat; have := h.2.2.2.2.2.cat; simp; omega
  | [a, b, c, d, e, f, g], h => have := h.1.cat; have := h.2.1.cat; have := h.2.2.1.cat; have := h.2.2.2.1.cat; have := h.2.2.2.2.1.cat; have := h.2.2.2.2.2.1.cat; have := h.2.2.2.2.2.2.cat; simp; omega
def zMv (M : zM) : Prop := Cond.instanceMethod M.1 ∈ zws ∧ Cond.selects M.1.cls M.1 M.1 ∈ zws ∧ Cond.initialized M.1.cls ∈ zws ∧ Cond.code M.1 M.2.1 M.2.2.1 M.2.2.2.1 ∈ zws ∧ (M.1.cls ≠ "java/lang/invoke/MethodHandle" ∧ M.1.cls ≠ "java/lang/invoke/VarHandle")
def zMs (M : zM) : Prop := Cond.static M.1 ∈ zws ∧ Cond.initialized M.1.cls ∈ zws ∧ Cond.code M.1 M.2.1 M.2.2.1 M.2.2.2.1 ∈ zws ∧ (M.1.cls ≠ "java/lang/invoke/MethodHandle" ∧ M.1.cls ≠ "java/lang/invoke/VarHandle")
def zMi (M : zM) : Prop := Cond.instanceMethod M.1 ∈ zws ∧ Cond.initialized M.1.cls ∈ zws ∧ Cond.code M.1 M.2.1 M.2.2.1 none ∈ zws ∧ M.2.2.2.1 = none ∧ M.1.name = "<init>" ∧ (M.1.cls ≠ "java/lang/invoke/MethodHandle" ∧ M.1.cls ≠ "java/lang/invoke/VarHandle")
def zMl (own : String) (idx : Nat) (y : MethodName) : Prop := Cond.methodLink own idx y ∈ zws ∨ ∃ host, Cond.methodLinkNest own idx y host ∈ zwn
def zRm (R : Room) (M : zM) (k n : Nat) : Prop := (M.2.2.2.2.frames + 1 ≤ R.frames ∧ 8 + (M.2.2.1 + 11) + M.2.2.2.2.locals ≤ R.locals) ∧ (k + M.2.2.2.2.cells ≤ R.cells ∧ n + M.2.2.2.2.slots ≤ R.slots)
section ZC
variable {X : Nat × (Nat → Int32)} {M M' : zM} {Q : zQt} {k n pc : Nat} {K : zCf} {h : zHp} {p : Program} {l : Launch} {e : Env} {s : State} {m : MethodId} {args : Array Value} {below : List Frame} {meth : Method} {c : Code} {A : Nat → Prop} {D : va_G} {ad0 ad : Nat → Option Nat} {tys : List (ClassId × FieldType)} {ws : va_W} {H : Heap} {locs : List Loc} {cls : Array Slot} {R' : zRt} {ls t rest st0 : List Value}
theorem zB.sub (hB : zB X M h l p s m args meth c A D ad0 ad tys ws H locs) : ∀ q, va_A ws H.size q → A q := by
  obtain ⟨hC, -, -, -, -, hD, hS, -, -⟩ := hB
  intro q hq
  rcases hq with ⟨i, e, hq⟩ | hq
  · exact hD.2 i _ hq
  · exact hC.2.2.2.2.2.2.2.1 q (Nat.le_trans hS.1 hq)
theorem z_cont {a : Array Value} {mc ms : Nat} {R : Room} (hr : va_Run p l e R s m args below meth c H locs k n mc ms (F0 m pc cls st0) rest (zQ R' (va_A ws H.size) D ad a) (va_A ws H.size)) (hR : R = M.2.2.2.2) (hB : zB X M h l p s m args meth c A D ad0 ad tys ws H locs) (hls : zls ad M.2.2.1 ls cls) (hst : zst ad t rest)
    (hK : ∀ rv h', R' rv h' → zV X M Q (k + mc) (n + ms) (pc + 3) ls (rv.toList ++ t) h') : W p l e R s m args below meth c H locs k n (Q below args s A D ad0) (F0 m pc cls st0) := by
  subst hR
  have hsub := hB.sub
  obtain ⟨hC, hE, hL, -, hP, hD, hS, hH, hF⟩ := hB
  intro T hT Xs
  obtain ⟨v, st₀, t', T', L, h0, X', hL', e1, e2, ⟨⟨rv, v', h', ad', tys', ws', hR, hle, hK', hP', hD', hH', hF', hv, hov⟩, hz, hkk⟩, st⟩ := hr T hT Xs
  cases hv
  rw [h0] at hz hkk
  have hal : s.vm.Alike t'.vm := by rw [← e2]; exact X'.warmed.alike
  have hzv : zst ad' (rv.toList ++ t) (v.toList ++ rest) := by
    refine zst.app ?_ (hst.mono hle)
    cases rv with
    | none => cases hov; exact trivial
    | some x =>
      obtain ⟨w, rfl, hw⟩ := hov
      exact ⟨hw, trivial⟩
  have hFF : zF A ad0 ad' ws' := by
    intro k b hb
    have h1 := hF' k b hb
    refine ⟨?_, fun hA => ?_⟩
    · rcases h1.1 with g | g
      · exact (hF k b g).1
      · exact Or.inr (hsub b g)
    · rcases h1.1 with g | g
      · obtain ⟨q, e9, hq⟩ := (hF k b g).2 hA
        exact h1.2 (Or.inl ⟨q, e9, hq⟩)
      · exact h1.2 g
  obtain ⟨t2, a1, b1⟩ := hK rv h' hR p l e s m args below meth c A D ad0 ad' tys' ws' T'.heap (locs ++ L) cls (v.toList ++ rest)
    ⟨hC, hE, hL.tr hle, va_K.moved hal.symm hK', by rw [e1]; exact hP', hD'.weaken (fun _ q _ h => hsub q.1 h), ⟨Nat.le_trans hS.1 (by rw [e1]; exact hz), fun q h1 h2 => by rw [e1, hkk q (Nat.lt_of_lt_of_le h1 hS.1) (fun z => h2 (hsub q z))]; exact hS.2.1 q h1 h2, fun q hq => by
      rcases List.mem_append.mp hq with h | h
      · exact hS.2.2 q h
      · exact hsub _ (hL' q h)⟩, hH', hFF⟩ (hls.mono hle) hzv T' rfl X'
  exact ⟨t2, st t2 a1, b1⟩
theorem zwsM_sub (hc : Cond.code M'.1 M'.2.1 M'.2.2.1 M'.2.2.2.1 ∈ zws) : ∀ w ∈ zwsM M', w ∈ zws := fun w hw => by
  rcases List.mem_cons.mp hw with e | h
  · rw [e]; exact hc
  · exact h
theorem z_blind {cav : List Value} {sz : Nat} : FrameBlind (va_Pc cav (fun U => U.heap.size = sz ∧ va_P D vwCl ws U.heap ∧ va_K D vwCl tys U ∧ va_D (fun _ => True) ws ∧ zE X U (va_A ws sz) ad)) := by
  intro a U g mk q
  obtain ⟨q0, q1, qP, qK, qD, qE⟩ := q
  exact ⟨q0, q1, qP, va_K.moved (u := U) (U := U.calling g mk a) (Vm.Alike.refl U.vm) qK, qD, qE.move (U := U.calling g mk a) (State.WarmedH.refl U) (fun _ _ _ => rfl) (fun _ h => h) (Nat.le_refl _) zLe.rf⟩
theorem z_pre {cav : List Value} (hB : zB X M h l p s m args meth c A D ad0 ad tys ws H locs) : ∀ U : State, U.heap = H → s.WarmedH U.vm → va_Pc cav (fun U => U.heap.size = H.size ∧ va_P D vwCl ws U.heap ∧ va_K D vwCl tys U ∧ va_D (fun _ => True) ws ∧ zE X U (va_A ws H.size) ad) cav.toArray U := by
  have hsub := hB.sub
  obtain ⟨hC, hE, hL, hK, hP, hD, hS, hH, hF⟩ := hB
  intro U hU hW
  exact ⟨rfl, by rw [hU], by rw [hU]; exact hP, va_K.moved hW.alike hK, hD.weaken (fun _ _ _ _ => trivial), hE.move hW (fun a h1 h2 => by rw [hU]; exact hS.2.1 a h1 h2) hsub (by rw [hU]; exact hS.1) hL⟩
theorem z_zF (hB : zB X M h l p s m args meth c A D ad0 ad tys ws H locs) : zF (va_A ws H.size) ad ad ws := by
  obtain ⟨hC, hE, hL, hK, hP, hD, hS, hH, hF⟩ := hB
  intro k b hb
  refine ⟨Or.inl hb, fun h => ?_⟩
  rcases h with ⟨q, e, hq⟩ | h
  · exact ⟨q, e, hq⟩
  · exact (hF k b hb).2 (hC.2.2.2.2.2.2.2.1 b (Nat.le_trans hS.1 h))
theorem z_inv {As : List Value} {k' ci idx : Nat} {T : u_T} {N : Nat} {cst : List Value} (hB : zB X M h l p s m args meth c A D ad0 ad tys ws H locs) (hls : zls ad M.2.2.1 ls cls) (hst : zst ad (As.reverse ++ .ref k' :: t) cst) (hz : zsh h k' = some (.inl ci)) (hcl : vwCl[ci]? = some (M'.1.cls, T, N)) (h4 : zs4 t) (hcc : zCC X M' (.ref k' :: As) h R') (hv : zMv M') (hna : (parseMethodDescriptor M'.1.desc).map (fun d => d.parameters.length) = some As.length) (hl : zMl M.1.cls idx M'.1)
    (hd : decode M.2.1 pc = .ok (.invokevirtual idx, 3)) (hrm : zRm M.2.2.2.2 M' k n) (hK : ∀ rv h', R' rv h' → zV X M Q (k + M'.2.2.2.2.cells) (n + M'.2.2.2.2.slots) (pc + 3) ls (rv.toList ++ t) h') : W p l e M.2.2.2.2 s m args below meth c H locs k n (Q below args s A D ad0) (F0 m pc cls cst) := by
  obtain ⟨x, y, rfl, hx, hy⟩ := hst.split
  obtain ⟨a, rest, h1, rfl, hrest⟩ := hy.r
  have hAs : zst ad As x.reverse := by have := hx.rev; rwa [List.reverse_reverse] at this
  obtain ⟨hC, hE, hL, hKK, hP, hD, hS, hH, hF⟩ := id hB
  obtain ⟨q1, q2, q3, q4, q5⟩ := hv
  obtain ⟨a', q, e9, g1, g2, fs, rfl, -⟩ := hH.2.2 k' _ hz
  cases h1.symm.trans g1
  have hM := hcc l D ad tys ws (.ref a :: x.reverse) H.size hC.2.2.2.2.2.2.2.2.2 ⟨⟨a, h1, rfl⟩, hAs⟩ hH (z_zF hB)
  have hlen : x.reverse.length = As.length := hAs.len
  have hp : PreV s H M'.1.cls a (va_Pc (.ref a :: x.reverse) (fun U => U.heap.size = H.size ∧ va_P D vwCl ws U.heap ∧ va_K D vwCl tys U ∧ va_D (fun _ => True) ws ∧ zE X U (va_A ws H.size) ad)) x.reverse := ⟨z_blind, va_recv hKK hP hcl g2, z_pre hB⟩
  obtain ⟨-, lv, hlv, -⟩ := id hls
  rcases hl with hl | ⟨host, hl⟩
  · have cw := cwV (R := M.2.2.2.2) (s := s) (args := args) (own := M.1.cls) (C := M'.1.cls) (index := idx) (y := M'.1) (rm := M'.2.2.2.2) As.length hC.2.2.2.2.2.1 (zws_good (ws := wsV M.1.cls idx M'.1.cls M'.1 (zwsM M')) (fun w hw => by
      unfold wsV at hw
      rcases List.mem_append.mp hw with h | h
      · simp only [List.mem_cons, List.not_mem_nil, or_false] at h
        rcases h with rfl | rfl | rfl | rfl
        · exact hl
        · exact q1
        · exact q2
        · exact q3
      · exact zwsM_sub q4 w h)) rfl rfl rfl ⟨rfl, q5.1, q5.2, hna⟩ hrm.1
    exact z_cont (va_runV (g := F0 m pc cls (x ++ .ref a :: rest)) (As := x.reverse) (rest := rest) ⟨hC.1, hC.2.1, hC.2.2.2.1, hC.2.2.2.2.1, hC.2.2.2.2.2.1⟩ hM cw hp rfl hlen hlv.1 (by show x ++ _ = _; rw [List.reverse_reverse]) (lv_room (h4.sum hrest)) hd hrm.2) rfl hB hls hrest hK
  · have cw := va_cnB (R := M.2.2.2.2) (rm := M'.2.2.2.2) (own := M.1.cls) (host := host) (index := idx) (y := M'.1) As.length hC.2.2.2.2.2.1 (zws_good (zwsM_sub q4)) rfl rfl rfl (hE.1 _ hl) (hC.2.2.2.2.2.1 _ q3) ⟨q5.1, q5.2, hna⟩ hrm.1
    exact z_cont (va_runVN (g := F0 m pc cls (x ++ .ref a :: rest)) (As := x.reverse) (rest := rest) ⟨hC.1, hC.2.1, hC.2.2.2.1, hC.2.2.2.2.1, hC.2.2.2.2.2.1⟩ hM ⟨cw, hC.2.2.2.2.2.1 _ q1, hC.2.2.2.2.2.1 _ q2⟩ hp rfl hlen hlv.1 (by show x ++ _ = _; rw [List.reverse_reverse]) (lv_room (h4.sum hrest)) hd hrm.2) rfl hB hls hrest hK
theorem z_ins {As : List Value} {idx : Nat} {cst : List Value} (hB : zB X M h l p s m args meth c A D ad0 ad tys ws H locs) (hls : zls ad M.2.2.1 ls cls) (hst : zst ad (As.reverse ++ t) cst) (h4 : zs4 t) (hcc : zCC X M' As h R') (hv : zMs M') (hna : (parseMethodDescriptor M'.1.desc).map (fun d => d.parameters.length) = some As.length) (hl : zMl M.1.cls idx M'.1)
    (hd : decode M.2.1 pc = .ok (.invokestatic idx, 3)) (hrm : zRm M.2.2.2.2 M' k n) (hK : ∀ rv h', R' rv h' → zV X M Q (k + M'.2.2.2.2.cells) (n + M'.2.2.2.2.slots) (pc + 3) ls (rv.toList ++ t) h') : W p l e M.2.2.2.2 s m args below meth c H locs k n (Q below args s A D ad0) (F0 m pc cls cst) := by
  obtain ⟨x, rest, rfl, hx, hrest⟩ := hst.split
  have hAs : zst ad As x.reverse := by have := hx.rev; rwa [List.reverse_reverse] at this
  obtain ⟨hC, hE, hL, hKK, hP, hD, hS, hH, hF⟩ := id hB
  obtain ⟨q1, q3, q4, q5⟩ := hv
  have hM := hcc l D ad tys ws x.reverse H.size hC.2.2.2.2.2.2.2.2.2 hAs hH (z_zF hB)
  have hlen : x.reverse.length = As.length := hAs.len
  have hp : PreS s H (va_Pc x.reverse (fun U => U.heap.size = H.size ∧ va_P D vwCl ws U.heap ∧ va_K D vwCl tys U ∧ va_D (fun _ => True) ws ∧ zE X U (va_A ws H.size) ad)) x.reverse := ⟨z_blind, z_pre hB⟩
  obtain ⟨-, lv, hlv, -⟩ := id hls
  rcases hl with hl | ⟨host, hl⟩
  · have cw := va_cwS (R := M.2.2.2.2) (s := s) (args := args) (own := M.1.cls) (index := idx) (y := M'.1) (rm := M'.2.2.2.2) As.length hC.2.2.2.2.2.1 (zws_good (ws := va_wsS M.1.cls idx M'.1 (zwsM M')) (fun w hw => by
      unfold va_wsS at hw
      rcases List.mem_append.mp hw with h | h
      · simp only [List.mem_cons, List.not_mem_nil, or_false] at h
        rcases h with rfl | rfl | rfl
        · exact hl
        · exact q1
        · exact q3
      · exact zwsM_sub q4 w h)) rfl rfl rfl ⟨q5.1, q5.2, hna⟩ hrm.1
    exact z_cont (va_runS (g := F0 m pc cls (x ++ rest)) (As := x.reverse) (rest := rest) ⟨hC.1, hC.2.1, hC.2.2.2.1, hC.2.2.2.2.1, hC.2.2.2.2.2.1⟩ hM cw hp rfl hlen hlv.1 (by show x ++ _ = _; rw [List.reverse_reverse]) (lv_room (h4.sum hrest)) hd hrm.2) rfl hB hls hrest hK
  · have cw := va_cnB (R := M.2.2.2.2) (rm := M'.2.2.2.2) (own := M.1.cls) (host := host) (index := idx) (y := M'.1) As.length hC.2.2.2.2.2.1 (zws_good (zwsM_sub q4)) rfl rfl rfl (hE.1 _ hl) (hC.2.2.2.2.2.1 _ q3) ⟨q5.1, q5.2, hna⟩ hrm.1
    exact z_cont (va_runSN (g := F0 m pc cls (x ++ rest)) (As := x.reverse) (rest := rest) ⟨hC.1, hC.2.1, hC.2.2.2.1, hC.2.2.2.2.1, hC.2.2.2.2.2.1⟩ hM ⟨cw, hC.2.2.2.2.2.1 _ q1, trivial⟩ hp rfl hlen hlv.1 (by show x ++ _ = _; rw [List.reverse_reverse]) (lv_room (h4.sum hrest)) hd hrm.2) rfl hB hls hrest hK
theorem z_ini {k' idx : Nat} {cst : List Value} (hB : zB X M h l p s m args meth c A D ad0 ad tys ws H locs) (hls : zls ad M.2.2.1 ls cls) (hst : zst ad (.ref k' :: t) cst) (h4 : zs4 t) (hcc : zCC X M' [.ref k'] h R') (hv : zMi M') (hna : (parseMethodDescriptor M'.1.desc).map (fun d => d.parameters.length) = some 0) (hl : zMl M.1.cls idx M'.1)
    (hd : decode M.2.1 pc = .ok (.invokespecial idx, 3)) (hrm : zRm M.2.2.2.2 M' k n) (hK : ∀ rv h', R' rv h' → zV X M Q (k + M'.2.2.2.2.cells) (n + M'.2.2.2.2.slots) (pc + 3) ls (rv.toList ++ t) h') : W p l e M.2.2.2.2 s m args below meth c H locs k n (Q below args s A D ad0) (F0 m pc cls cst) := by
  obtain ⟨a, rest, h1, rfl, hrest⟩ := hst.r
  obtain ⟨hC, hE, hL, hKK, hP, hD, hS, hH, hF⟩ := id hB
  obtain ⟨q1, q3, q4, q6, q7, q5⟩ := hv
  have hM := hcc l D ad tys ws [.ref a] H.size hC.2.2.2.2.2.2.2.2.2 ⟨⟨a, h1, rfl⟩, trivial⟩ hH (z_zF hB)
  have hp : PreS s H (va_Pc [.ref a] (fun U => U.heap.size = H.size ∧ va_P D vwCl ws U.heap ∧ va_K D vwCl tys U ∧ va_D (fun _ => True) ws ∧ zE X U (va_A ws H.size) ad)) [.ref a] := ⟨z_blind, z_pre hB⟩
  have q4' : Cond.code M'.1 M'.2.1 M'.2.2.1 M'.2.2.2.1 ∈ zws := by rw [q6]; exact q4
  have hwq : zwsM M' = Cond.code M'.1 M'.2.1 M'.2.2.1 none :: zws := by unfold zwsM; rw [q6]
  obtain ⟨-, lv, hlv, -⟩ := id hls
  rcases hl with hl | ⟨host, hl⟩
  · have cw := cwI (R := M.2.2.2.2) (s := s) (args := args) (own := M.1.cls) (index := idx) (y := M'.1) (rm := M'.2.2.2.2) 0 hC.2.2.2.2.2.1 (zws_good (zwsM_sub q4')) hwq rfl rfl (hC.2.2.2.2.2.1 _ q3) (hC.2.2.2.2.2.1 _ hl) (hC.2.2.2.2.2.1 _ q1) q7 ⟨q5.1, q5.2, hna⟩ hrm.1
    exact z_cont (va_runI (g := F0 m pc cls (.ref a :: rest)) (As := []) (rest := rest) ⟨hC.1, hC.2.1, hC.2.2.2.1, hC.2.2.2.2.1, hC.2.2.2.2.2.1⟩ hM cw hp rfl rfl hlv.1 rfl (lv_room (h4.sum hrest)) hd hrm.2) rfl hB hls hrest hK
  · have cw := va_cnB (R := M.2.2.2.2) (rm := M'.2.2.2.2) (own := M.1.cls) (host := host) (index := idx) (y := M'.1) 0 hC.2.2.2.2.2.1 (zws_good (zwsM_sub q4')) hwq rfl rfl (hE.1 _ hl) (hC.2.2.2.2.2.1 _ q3) ⟨q5.1, q5.2, hna⟩ hrm.1
    exact z_cont (va_runIN (g := F0 m pc cls (.ref a :: rest)) (As := []) (rest := rest) ⟨hC.1, hC.2.1, hC.2.2.2.1, hC.2.2.2.2.1, hC.2.2.2.2.2.1⟩ hM ⟨cw, q7, hC.2.2.2.2.2.1 _ q1⟩ hp rfl rfl hlv.1 rfl (lv_room (h4.sum hrest)) hd hrm.2) rfl hB hls hrest hK
end ZC
section ZC2
variable {X : Nat × (Nat → Int32)} {M M' : zM} {Q : zQt} {k n pc : Nat} {K : zCf}

def oINV0 (X : Nat × (Nat → Int32)) (M' : zM) (ci : Nat) (K : zCf) : zCf := fun ls st h => match st with
  | .ref k :: t => zsh h k = some (.inl ci) ∧ zs4 t ∧ zCC X M' [.ref k] h (fun rv h' => K ls (rv.toList ++ t) h')
  | _ => False
theorem sd_inv0 {ci idx : Nat} {T : u_T} {N : Nat} (hd : decode M.2.1 pc = .ok (.invokevirtual idx, 3)) (hcl : vwCl[ci]? = some (M'.1.cls, T, N)) (hv : zMv M') (hna : (parseMethodDescriptor M'.1.desc).map (fun d => d.parameters.length) = some 0) (hl : zMl M.1.cls idx M'.1) (hrm : zRm M.2.2.2.2 M' k n) (hK : ∀ ls st h, K ls st h → zV X M Q (k + M'.2.2.2.2.cells) (n + M'.2.2.2.2.slots) (pc + 3) ls st h) : ∀ ls st h, oINV0 X M' ci K ls st h → zV X M Q k n pc ls st h := by
  intro ls st h hk p l e s m args below meth c A D ad0 ad tys ws H locs cls cst hB hls hst
  unfold oINV0 at hk
  split at hk
  · rename_i k' t'
    exact z_inv (As := []) hB hls hst hk.1 hcl hk.2.1 hk.2.2 hv hna hl hd hrm (fun rv h' hr => hK _ _ _ hr)
  · exact hk.elim
def oINS0 (X : Nat × (Nat → Int32)) (M' : zM) (K : zCf) : zCf := fun ls t h => zs4 t ∧ zCC X M' [] h (fun rv h' => K ls (rv.toList ++ t) h')
theorem sd_ins0 {idx : Nat} (hd : decode M.2.1 pc = .ok (.invokestatic idx, 3)) (hv : zMs M') (hna : (parseMethodDescriptor M'.1.desc).map (fun d => d.parameters.length) = some 0) (hl : zMl M.1.cls idx M'.1) (hrm : zRm M.2.2.2.2 M' k n) (hK : ∀ ls st h, K ls st h → zV X M Q (k + M'.2.2.2.2.cells) (n + M'.2.2.2.2.slots) (pc + 3) ls st h) : ∀ ls st h, oINS0 X M' K ls st h → zV X M Q k n pc ls st h := by
  intro ls st h hk p l e s m args below meth c A D ad0 ad tys ws H locs cls cst hB hls hst
  exact z_ins (As := []) hB hls hst hk.1 hk.2 hv hna hl hd hrm (fun rv h' hr => hK _ _ _ hr)
def oINV1 (X : Nat × (Nat → Int32)) (M' : zM) (ci : Nat) (K : zCf) : zCf := fun ls st h => match st with
  | a :: .ref k :: t => zsh h k = some (.inl ci) ∧ zs4 t ∧ zCC X M' [.ref k, a] h (fun rv h' => K ls (rv.toList ++ t) h')
  | _ => False
theorem sd_inv1 {ci idx : Nat} {T : u_T} {N : Nat} (hd : decode M.2.1 pc = .ok (.invokevirtual idx, 3)) (hcl : vwCl[ci]? = some (M'.1.cls, T, N)) (hv : zMv M') (hna : (parseMethodDescriptor M'.1.desc).map (fun d => d.parameters.length) = some 1) (hl : zMl M.1.cls idx M'.1) (hrm : zRm M.2.2.2.2 M' k n) (hK : ∀ ls st h, K ls st h → zV X M Q (k + M'.2.2.2.2.cells) (n + M'.2.2.2.2.slots) (pc + 3) ls st h) : ∀ ls st h, oINV1 X M' ci K ls st h → zV X M Q k n pc ls st h := by
  intro ls st h hk p l e s m args below meth c A D ad0 ad tys ws H locs cls cst hB hls hst
  unfold oINV1 at hk
  split at hk
  · rename_i a k' t'
    exact z_inv (As := [a]) hB hls hst hk.1 hcl hk.2.1 hk.2.2 hv hna hl hd hrm (fun rv h' hr => hK _ _ _ hr)
  · exact hk.elim
def oINS1 (X : Nat × (Nat → Int32)) (M' : zM) (K : zCf) : zCf := fun ls st h => match st with
  | a :: t => zs4 t ∧ zCC X M' [a] h (fun rv h' => K ls (rv.toList ++ t) h')
  | _ => False
theorem sd_ins1 {idx : Nat} (hd : decode M.2.1 pc = .ok (.invokestatic idx, 3)) (hv : zMs M') (hna : (parseMethodDescriptor M'.1.desc).map (fun d => d.parameters.length) = some 1) (hl : zMl M.1.cls idx M'.1) (hrm : zRm M.2.2.2.2 M' k n) (hK : ∀ ls st h, K ls st h → zV X M Q (k + M'.2.2.2.2.cells) (n + M'.2.2.2.2.slots) (pc + 3) ls st h) : ∀ ls st h, oINS1 X M' K ls st h → zV X M Q k n pc ls st h := by
  intro ls st h hk p l e s m args below meth c A D ad0 ad tys ws H locs cls cst hB hls hst
  unfold oINS1 at hk
  split at hk
  · rename_i a t'
    exact z_ins (As := [a]) hB hls hst hk.1 hk.2 hv hna hl hd hrm (fun rv h' hr => hK _ _ _ hr)
  · exact hk.elim
def oINV2 (X : Nat × (Nat → Int32)) (M' : zM) (ci : Nat) (K : zCf) : zCf := fun ls st h => match st with
  | b :: a :: .ref k :: t => zsh h k = some (.inl ci) ∧ zs4 t ∧ zCC X M' [.ref k, a, b] h (fun rv h' => K ls (rv.toList ++ t) h')
  | _ => False
theorem sd_inv2 {ci idx : Nat} {T : u_T} {N : Nat} (hd : decode M.2.1 pc = .ok (.invokevirtual idx, 3)) (hcl : vwCl[ci]? = some (M'.1.cls, T, N)) (hv : zMv M') (hna : (parseMethodDescriptor M'.1.desc).map (fun d => d.parameters.length) = some 2) (hl : zMl M.1.cls idx M'.1) (hrm : zRm M.2.2.2.2 M' k n) (hK : ∀ ls st h, K ls st h → zV X M Q (k + M'.2.2.2.2.cells) (n + M'.2.2.2.2.slots) (pc + 3) ls st h) : ∀ ls st h, oINV2 X M' ci K ls st h → zV X M Q k n pc ls st h := by
  intro ls st h hk p l e s m args below meth c A D ad0 ad tys ws H locs cls cst hB hls hst
  unfold oINV2 at hk
  split at hk
  · rename_i b a k' t'
    exact z_inv (As := [a, b]) hB hls hst hk.1 hcl hk.2.1 hk.2.2 hv hna hl hd hrm (fun rv h' hr => hK _ _ _ hr)
  · exact hk.elim
def oINS2 (X : Nat × (Nat → Int32)) (M' : zM) (K : zCf) : zCf := fun ls st h => match st with
  | b :: a :: t => zs4 t ∧ zCC X M' [a, b] h (fun rv h' => K ls (rv.toList ++ t) h')
  | _ => False
theorem sd_ins2 {idx : Nat} (hd : decode M.2.1 pc = .ok (.invokestatic idx, 3)) (hv : zMs M') (hna : (parseMethodDescriptor M'.1.desc).map (fun d => d.parameters.length) = some 2) (hl : zMl M.1.cls idx M'.1) (hrm : zRm M.2.2.2.2 M' k n) (hK : ∀ ls st h, K ls st h → zV X M Q (k + M'.2.2.2.2.cells) (n + M'.2.2.2.2.slots) (pc + 3) ls st h) : ∀ ls st h, oINS2 X M' K ls st h → zV X M Q k n pc ls st h := by
  intro ls st h hk p l e s m args below meth c A D ad0 ad tys ws H locs cls cst hB hls hst
  unfold oINS2 at hk
  split at hk
  · rename_i b a t'
    exact z_ins (As := [a, b]) hB hls hst hk.1 hk.2 hv hna hl hd hrm (fun rv h' hr => hK _ _ _ hr)
  · exact hk.elim
def oINV3 (X : Nat × (Nat → Int32)) (M' : zM) (ci : Nat) (K : zCf) : zCf := fun ls st h => match st with
  | c :: b :: a :: .ref k :: t => zsh h k = some (.inl ci) ∧ zs4 t ∧ zCC X M' [.ref k, a, b, c] h (fun rv h' => K ls (rv.toList ++ t) h')
  | _ => False
theorem sd_inv3 {ci idx : Nat} {T : u_T} {N : Nat} (hd : decode M.2.1 pc = .ok (.invokevirtual idx, 3)) (hcl : vwCl[ci]? = some (M'.1.cls, T, N)) (hv : zMv M') (hna : (parseMethodDescriptor M'.1.desc).map (fun d => d.parameters.length) = some 3) (hl : zMl M.1.cls idx M'.1) (hrm : zRm M.2.2.2.2 M' k n) (hK : ∀ ls st h, K ls st h → zV X M Q (k + M'.2.2.2.2.cells) (n + M'.2.2.2.2.slots) (pc + 3) ls st h) : ∀ ls st h, oINV3 X M' ci K ls st h → zV X M Q k n pc ls st h := by
  intro ls st h hk p l e s m args below meth c A D ad0 ad tys ws H locs cls cst hB hls hst
  unfold oINV3 at hk
  split at hk
  · rename_i c b a k' t'
    exact z_inv (As := [a, b, c]) hB hls hst hk.1 hcl hk.2.1 hk.2.2 hv hna hl hd hrm (fun rv h' hr => hK _ _ _ hr)
  · exact hk.elim
def oINS3 (X : Nat × (Nat → Int32)) (M' : zM) (K : zCf) : zCf := fun ls st h => match st with
  | c :: b :: a :: t => zs4 t ∧ zCC X M' [a, b, c] h (fun rv h' => K ls (rv.toList ++ t) h')
  | _ => False
theorem sd_ins3 {idx : Nat} (hd : decode M.2.1 pc = .ok (.invokestatic idx, 3)) (hv : zMs M') (hna : (parseMethodDescriptor M'.1.desc).map (fun d => d.parameters.length) = some 3) (hl : zMl M.1.cls idx M'.1) (hrm : zRm M.2.2.2.2 M' k n) (hK : ∀ ls st h, K ls st h → zV X M Q (k + M'.2.2.2.2.cells) (n + M'.2.2.2.2.slots) (pc + 3) ls st h) : ∀ ls st h, oINS3 X M' K ls st h → zV X M Q k n pc ls st h := by
  intro ls st h hk p l e s m args below meth c A D ad0 ad tys ws H locs cls cst hB hls hst
  unfold oINS3 at hk
  split at hk
  · rename_i c b a t'
    exact z_ins (As := [a, b, c]) hB hls hst hk.1 hk.2 hv hna hl hd hrm (fun rv h' hr => hK _ _ _ hr)
  · exact hk.elim
def oINV4 (X : Nat × (Nat → Int32)) (M' : zM) (ci : Nat) (K : zCf) : zCf := fun ls st h => match st with
  | d :: c :: b :: a :: .ref k :: t => zsh h k = some (.inl ci) ∧ zs4 t ∧ zCC X M' [.ref k, a, b, c, d] h (fun rv h' => K ls (rv.toList ++ t) h')
  | _ => False
theorem sd_inv4 {ci idx : Nat} {T : u_T} {N : Nat} (hd : decode M.2.1 pc = .ok (.invokevirtual idx, 3)) (hcl : vwCl[ci]? = some (M'.1.cls, T, N)) (hv : zMv M') (hna : (parseMethodDescriptor M'.1.desc).map (fun d => d.parameters.length) = some 4) (hl : zMl M.1.cls idx M'.1) (hrm : zRm M.2.2.2.2 M' k n) (hK : ∀ ls st h, K ls st h → zV X M Q (k + M'.2.2.2.2.cells) (n + M'.2.2.2.2.slots) (pc + 3) ls st h) : ∀ ls st h, oINV4 X M' ci K ls st h → zV X M Q k n pc ls st h := by
  intro ls st h hk p l e s m args below meth c A D ad0 ad tys ws H locs cls cst hB hls hst
  unfold oINV4 at hk
  split at hk
  · rename_i d c b a k' t'
    exact z_inv (As := [a, b, c, d]) hB hls hst hk.1 hcl hk.2.1 hk.2.2 hv hna hl hd hrm (fun rv h' hr => hK _ _ _ hr)
  · exact hk.elim
def oINS4 (X : Nat × (Nat → Int32)) (M' : zM) (K : zCf) : zCf := fun ls st h => match st with
  | d :: c :: b :: a :: t => zs4 t ∧ zCC X M' [a, b, c, d] h (fun rv h' => K ls (rv.toList ++ t) h')
  | _ => False
theorem sd_ins4 {idx : Nat} (hd : decode M.2.1 pc = .ok (.invokestatic idx, 3)) (hv : zMs M') (hna : (parseMethodDescriptor M'.1.desc).map (fun d => d.parameters.length) = some 4) (hl : zMl M.1.cls idx M'.1) (hrm : zRm M.2.2.2.2 M' k n) (hK : ∀ ls st h, K ls st h → zV X M Q (k + M'.2.2.2.2.cells) (n + M'.2.2.2.2.slots) (pc + 3) ls st h) : ∀ ls st h, oINS4 X M' K ls st h → zV X M Q k n pc ls st h := by
  intro ls st h hk p l e s m args below meth c A D ad0 ad tys ws H locs cls cst hB hls hst
  unfold oINS4 at hk
  split at hk
  · rename_i d c b a t'
    exact z_ins (As := [a, b, c, d]) hB hls hst hk.1 hk.2 hv hna hl hd hrm (fun rv h' hr => hK _ _ _ hr)
  · exact hk.elim
def oINV5 (X : Nat × (Nat → Int32)) (M' : zM) (ci : Nat) (K : zCf) : zCf := fun ls st h => match st with
  | e :: d :: c :: b :: a :: .ref k :: t => zsh h k = some (.inl ci) ∧ zs4 t ∧ zCC X M' [.ref k, a, b, c, d, e] h (fun rv h' => K ls (rv.toList ++ t) h')
  | _ => False
theorem sd_inv5 {ci idx : Nat} {T : u_T} {N : Nat} (hd : decode M.2.1 pc = .ok (.invokevirtual idx, 3)) (hcl : vwCl[ci]? = some (M'.1.cls, T, N)) (hv : zMv M') (hna : (parseMethodDescriptor M'.1.desc).map (fun d => d.parameters.length) = some 5) (hl : zMl M.1.cls idx M'.1) (hrm : zRm M.2.2.2.2 M' k n) (hK : ∀ ls st h, K ls st h → zV X M Q (k + M'.2.2.2.2.cells) (n + M'.2.2.2.2.slots) (pc + 3) ls st h) : ∀ ls st h, oINV5 X M' ci K ls st h → zV X M Q k n pc ls st h := by
  intro ls st h hk p l e s m args below meth c A D ad0 ad tys ws H locs cls cst hB hls hst
  unfold oINV5 at hk
  split at hk
  · rename_i e d c b a k' t'
    exact z_inv (As := [a, b, c, d, e]) hB hls hst hk.1 hcl hk.2.1 hk.2.2 hv hna hl hd hrm (fun rv h' hr => hK _ _ _ hr)
  · exact hk.elim
def oINS5 (X : Nat × (Nat → Int32)) (M' : zM) (K : zCf) : zCf := fun ls st h => match st with
  | e :: d :: c :: b :: a :: t => zs4 t ∧ zCC X M' [a, b, c, d, e] h (fun rv h' => K ls (rv.toList ++ t) h')
  | _ => False
theorem sd_ins5 {idx : Nat} (hd : decode M.2.1 pc = .ok (.invokestatic idx, 3)) (hv : zMs M') (hna : (parseMethodDescriptor M'.1.desc).map (fun d => d.parameters.length) = some 5) (hl : zMl M.1.cls idx M'.1) (hrm : zRm M.2.2.2.2 M' k n) (hK : ∀ ls st h, K ls st h → zV X M Q (k + M'.2.2.2.2.cells) (n + M'.2.2.2.2.slots) (pc + 3) ls st h) : ∀ ls st h, oINS5 X M' K ls st h → zV X M Q k n pc ls st h := by
  intro ls st h hk p l e s m args below meth c A D ad0 ad tys ws H locs cls cst hB hls hst
  unfold oINS5 at hk
  split at hk
  · rename_i e d c b a t'
    exact z_ins (As := [a, b, c, d, e]) hB hls hst hk.1 hk.2 hv hna hl hd hrm (fun rv h' hr => hK _ _ _ hr)
  · exact hk.elim
def oINV6 (X : Nat × (Nat → Int32)) (M' : zM) (ci : Nat) (K : zCf) : zCf := fun ls st h => match st with
  | f :: e :: d :: c :: b :: a :: .ref k :: t => zsh h k = some (.inl ci) ∧ zs4 t ∧ zCC X M' [.ref k, a, b, c, d, e, f] h (fun rv h' => K ls (rv.toList ++ t) h')
  | _ => False
theorem sd_inv6 {ci idx : Nat} {T : u_T} {N : Nat} (hd : decode M.2.1 pc = .ok (.invokevirtual idx, 3)) (hcl : vwCl[ci]? = some (M'.1.cls, T, N)) (hv : zMv M') (hna : (parseMethodDescriptor M'.1.desc).map (fun d => d.parameters.length) = some 6) (hl : zMl M.1.cls idx M'.1) (hrm : zRm M.2.2.2.2 M' k n) (hK : ∀ ls st h, K ls st h → zV X M Q (k + M'.2.2.2.2.cells) (n + M'.2.2.2.2.slots) (pc + 3) ls st h) : ∀ ls st h, oINV6 X M' ci K ls st h → zV X M Q k n pc ls st h := by
  intro ls st h hk p l e s m args below meth c A D ad0 ad tys ws H locs cls cst hB hls hst
  unfold oINV6 at hk
  split at hk
  · rename_i f e d c b a k' t'
    exact z_inv (As := [a, b, c, d, e, f]) hB hls hst hk.1 hcl hk.2.1 hk.2.2 hv hna hl hd hrm (fun rv h' hr => hK _ _ _ hr)
  · exact hk.elim
def oINS6 (X : Nat × (Nat → Int32)) (M' : zM) (K : zCf) : zCf := fun ls st h => match st with
  | f :: e :: d :: c :: b :: a :: t => zs4 t ∧ zCC X M' [a, b, c, d, e, f] h (fun rv h' => K ls (rv.toList ++ t) h')
  | _ => False
theorem sd_ins6 {idx : Nat} (hd : decode M.2.1 pc = .ok (.invokestatic idx, 3)) (hv : zMs M') (hna : (parseMethodDescriptor M'.1.desc).map (fun d => d.parameters.length) = some 6) (hl : zMl M.1.cls idx M'.1) (hrm : zRm M.2.2.2.2 M' k n) (hK : ∀ ls st h, K ls st h → zV X M Q (k + M'.2.2.2.2.cells) (n + M'.2.2.2.2.slots) (pc + 3) ls st h) : ∀ ls st h, oINS6 X M' K ls st h → zV X M Q k n pc ls st h := by
  intro ls st h hk p l e s m args below meth c A D ad0 ad tys ws H locs cls cst hB hls hst
  unfold oINS6 at hk
  split at hk
  · rename_i f e d c b a t'
    exact z_ins (As := [a, b, c, d, e, f]) hB hls hst hk.1 hk.2 hv hna hl hd hrm (fun rv h' hr => hK _ _ _ hr)
  · exact hk.elim
def oINI (X : Nat × (Nat → Int32)) (M' : zM) (K : zCf) : zCf := fun ls st h => match st with
  | .ref k :: t => zs4 t ∧ zCC X M' [.ref k] h (fun rv h' => K ls (rv.toList ++ t) h')
  | _ => False
theorem sd_ini {idx : Nat} (hd : decode M.2.1 pc = .ok (.invokespecial idx, 3)) (hv : zMi M') (hna : (parseMethodDescriptor M'.1.desc).map (fun d => d.parameters.length) = some 0) (hl : zMl M.1.cls idx M'.1) (hrm : zRm M.2.2.2.2 M' k n) (hK : ∀ ls st h, K ls st h → zV X M Q (k + M'.2.2.2.2.cells) (n + M'.2.2.2.2.slots) (pc + 3) ls st h) : ∀ ls st h, oINI X M' K ls st h → zV X M Q k n pc ls st h := by
  intro ls st h hk p l e s m args below meth c A D ad0 ad tys ws H locs cls cst hB hls hst
  unfold oINI at hk
  split at hk
  · exact z_ini hB hls hst hk.1 hk.2 hv hna hl hd hrm (fun rv h' hr => hK _ _ _ hr)
  · exact hk.elim
def oOBJ (K : zCf) : zCf := fun ls st h => match st with
  | .ref _ :: t => zs4 t ∧ K ls t h
  | _ => False
theorem sd_obj {idx : Nat} (hd : decode M.2.1 pc = .ok (.invokespecial idx, 3)) (hl : Cond.methodLink M.1.cls idx Lib.objectInit ∈ zws) (hi : Cond.instanceMethod Lib.objectInit ∈ zws) (hc : Cond.code Lib.objectInit ⟨#[0xb1]⟩ 1 none ∈ zws) (hf : 1 ≤ M.2.2.2.2.frames) (hlo : 20 ≤ M.2.2.2.2.locals) (hK : ∀ ls st h, K ls st h → zV X M Q k n (pc + 3) ls st h) : ∀ ls st h, oOBJ K ls st h → zV X M Q k n pc ls st h := by
  intro ls st h hk p l e s m args below meth c A D ad0 ad tys ws H locs cls cst hB hls hst
  unfold oOBJ at hk
  split at hk
  · obtain ⟨h4, hk⟩ := hk
    obtain ⟨a, rest, h1, rfl, hrest⟩ := hst.r
    obtain ⟨hC, -⟩ := id hB
    obtain ⟨-, lv, hlv, -⟩ := id hls
    refine W.objInit (g := F0 m pc cls (.ref a :: rest)) hC.1 hC.2.1 hC.2.2.2.2.1 (hC.2.2.2.2.2.1 _ hl) (hC.2.2.2.2.2.1 _ hi) (hC.2.2.2.2.2.1 _ hc) rfl (by show cls.size = _; rw [hlv.1]; exact hC.2.2.2.1.symm) rfl hd hf ?_ (hK _ _ _ hk p l e s m args below meth c A D ad0 ad tys ws H locs cls _ hB hls hrest)
    have := h4.sum hrest
    show 2 * 0 + _ + 12 ≤ _
    omega
  · exact hk.elim
end ZC2
