
section ZLL
variable {X : Nat × (Nat → Int32)} {M M' : zM} {Q : zQt} {k n pc : Nat} {K : zCf} {h h' : zHp} {p : Program} {l : Launch} {e : Env} {s : State} {m : MethodId} {args : Array Value} {below : List Frame} {meth : Method} {c : Code} {A : Nat → Prop} {D : va_G} {ad0 ad ad' : Nat → Option Nat} {tys tys' : List (ClassId × FieldType)} {ws ws' : va_W} {H : Heap} {locs : List Loc} {cls : Array Slot} {R : zRt} {ls t rest st0 : List Value}
theorem z_next {u T' : State} {L : List Loc} (hB : zB X M h l p s m args meth c A D ad0 ad tys ws H locs) (hle : zLe ad ad') (hK' : va_K D vwCl tys' u) (hP' : va_P D vwCl ws' u.heap) (hD' : va_D (va_A ws H.size) ws') (hH' : zH ad' tys' h' ws') (hF' : zF (va_A ws H.size) ad ad' ws') (hz : H.size ≤ u.heap.size) (hkk : ∀ q : Nat, q < H.size → ¬ va_A ws H.size q → u.heap[q]? = H[q]?) (e1 : T'.heap = u.heap) (hal : s.vm.Alike u.vm) (hL' : ∀ q ∈ L, va_A ws H.size q.base) : zB X M h' l p s m args meth c A D ad0 ad' tys' ws' T'.heap (locs ++ L) := by
  have hsub := hB.sub
  obtain ⟨hC, hE, hL, -, hP, hD, hS, hH, hF⟩ := hB
  have hFF : zF A ad0 ad' ws' := by
    intro k b hb
    have h1 := hF' k b hb
    refine ⟨?_, fun hA => ?_⟩
    · rcases h1.1 with g | g
      · exact (hF k b g).1
      · exact Or.inr (hsub b g)
    · rcases h1.1 with g | g
      · obtain ⟨q, e9, hq⟩ := (hF k b g).2 hA
        exact h1.2 (Or.inl ⟨q, e9, hq⟩)
      · exact h1.2 g
  exact ⟨hC, hE, hL.tr hle, va_K.moved hal.symm hK', by rw [e1]; exact hP', hD'.weaken (fun _ q _ h => hsub q.1 h), ⟨Nat.le_trans hS.1 (by rw [e1]; exact hz), fun q h1 h2 => by rw [e1, hkk q (Nat.lt_of_lt_of_le h1 hS.1) (fun z => h2 (hsub q z))]; exact hS.2.1 q h1 h2, fun q hq => by
      rcases List.mem_append.mp hq with h | h
      · exact hS.2.2 q h
      · exact hsub _ (hL' q h)⟩, hH', hFF⟩
theorem zls_stu {nL : Nat} {lv : List (Nat × Value)} {cls' : Array Slot} {i ip : Nat} {w : Value} (hip : ip + 1 = i ∨ i = 0) (hlen : ls.length = nL) (hall : ∀ (j : Nat) (u : Value), ls[j]? = some u → (∃ q, u = .retAddr q) ∨ ∃ w, zxv ad u w ∧ (j, w) ∈ lv) (hnl : znl ls[ip]?)
    (h' : lv_has cls' nL ((i, w) :: lv.filter (fun q => !(q.1 == i) && !(q.1 + 1 == i && q.2.category == 2)))) : zls ad nL (ls.set i (.retAddr 0)) cls' := by
  refine ⟨by rw [List.length_set]; exact hlen, _, h', fun j u hj => ?_⟩
  by_cases e : i = j
  · subst e
    rw [List.getElem?_set] at hj
    simp only [if_true] at hj
    split at hj
    · cases hj
      exact Or.inl ⟨0, rfl⟩
    · cases hj
  · rw [List.getElem?_set_ne e] at hj
    rcases hall j u hj with h | ⟨w', g1, g2⟩
    · exact Or.inl h
    · refine Or.inr ⟨w', g1, List.mem_cons_of_mem _ (List.mem_filter.mpr ⟨g2, ?_⟩)⟩
      have e1 : ¬ j = i := fun q => e q.symm
      by_cases e2 : j + 1 = i
      · have e3 : ip = j := by omega
        subst e3
        rw [hj] at hnl
        have := g1.nl hnl
        simp [e1, this]
      · simp [e1, e2]
def M_L_led : zM := (yL_led, cL_led, 4, some .int, { frames := 7, cells := 1, slots := 6, locals := 118 })
def zhh : List (Nat × Nat × Nat × Nat) := [(0, 9, 12, 13)]
def zQhl (R : zRt) : zQt := fun below args s A D ad0 t => (zXt (tableOf zhh) args below s ∧ zDw s) → zQm M_L_led R below args s A D ad0 t
theorem zQhl_of {P : zCf} (hh : ∀ ls st h, P ls st h → zV X M_L_led (zQm M_L_led R) k n pc ls st h) : ∀ ls st h, P ls st h → zV X M_L_led (zQhl R) k n pc ls st h := by
  intro ls st h hp p l e s m args below meth c A D ad0 ad tys ws H locs cls cst hB hls hst T hT Xs
  obtain ⟨t, a1, b1⟩ := hh ls st h hp p l e s m args below meth c A D ad0 ad tys ws H locs cls cst hB hls hst T hT Xs
  exact ⟨t, a1, fun _ => b1⟩
theorem dL_led_0 : decode cL_led 0 = .ok (.aload_n 2, 1) := by decide +kernel
theorem dL_led_1 : decode cL_led 1 = .ok (.iconst 0, 1) := by decide +kernel
theorem dL_led_2 : decode cL_led 2 = .ok (.aload_n 0, 1) := by decide +kernel
theorem dL_led_3 : decode cL_led 3 = .ok (.iload_n 1, 1) := by decide +kernel
theorem dL_led_4 : decode cL_led 4 = .ok (.invokevirtual 7, 3) := by decide +kernel
theorem dL_led_7 : decode cL_led 7 = .ok (.i2l, 1) := by decide +kernel
theorem dL_led_8 : decode cL_led 8 = .ok (.lastore, 1) := by decide +kernel
theorem dL_led_9 : decode cL_led 9 = .ok (.goto 6, 3) := by decide +kernel
theorem dL_led_12 : decode cL_led 12 = .ok (.astore_n 3, 1) := by decide +kernel
theorem dL_led_13 : decode cL_led 13 = .ok (.iconst 1, 1) := by decide +kernel
theorem dL_led_14 : decode cL_led 14 = .ok (.ireturn, 1) := by decide +kernel
theorem dL_led_15 : decode cL_led 15 = .ok (.iconst 0, 1) := by decide +kernel
theorem dL_led_16 : decode cL_led 16 = .ok (.ireturn, 1) := by decide +kernel
def oLED (X : Nat × (Nat → Int32)) (K : zCf) (Kx : zHp → Prop) : zCf := fun ls st h => match st with
  | a :: .ref k :: t => zsh h k = some (.inl 7) ∧ zs4 t ∧ znl ls[2]? ∧ zCX X M_X7_ledx [.ref k, a] h (fun rv h' => K ls (rv.toList ++ t) h') Kx
  | _ => False
theorem sd_led {Kx : zHp → Prop} (hK : ∀ ls st h, K ls st h → zV X M_L_led (zQhl R) 1 6 7 ls st h) (hKx : ∀ ls h, Kx h → zV X M_L_led (zQhl R) 1 6 13 ls [] h) : ∀ ls st h, oLED X K Kx ls st h → zV X M_L_led (zQhl R) 0 0 4 ls st h := by
  intro ls st h hk p l e s m args below meth c A D ad0 ad tys ws H locs cls cst hB hls hst T hT Xs
  by_cases hz : zXt (tableOf zhh) args below s ∧ zDw s
  rotate_left
  · exact ⟨_, Steps.refl _, fun z => absurd z hz⟩
  unfold oLED at hk
  split at hk
  rotate_left
  · exact hk.elim
  rename_i a k' t
  obtain ⟨hz0, h4, hnl, hcc⟩ := hk
  obtain ⟨x, y, rfl, hx, hy⟩ := (show zst ad ([a].reverse ++ .ref k' :: t) cst from hst).split
  obtain ⟨b, rest, h1, rfl, hrest⟩ := hy.r
  have hAs : zst ad [a] x.reverse := by have := hx.rev; rwa [List.reverse_reverse] at this
  obtain ⟨hC, hE, hL, hKK, hP, hD, hS, hH, hF⟩ := id hB
  obtain ⟨a', q, e9, g1, g2, fs, rfl, -⟩ := hH.2.2 k' _ hz0
  cases h1.symm.trans g1
  have hM := hcc l D ad tys ws (.ref b :: x.reverse) H.size hC.2.2.2.2.2.2.2.2.2 ⟨⟨b, h1, rfl⟩, hAs⟩ hH (z_zF hB)
  have hlen : x.reverse.length = 1 := hAs.len
  have hbl : FrameBlind (va_Pc (.ref b :: x.reverse) (fun U => (U.heap.size = H.size ∧ va_P D vwCl ws U.heap ∧ va_K D vwCl tys U ∧ va_D (fun _ => True) ws ∧ zE X U (va_A ws H.size) ad) ∧ zDw U)) := by
    intro a' U g mk q
    obtain ⟨q0, ⟨q1, qP, qK, qD, qE⟩, qO⟩ := q
    exact ⟨q0, ⟨q1, qP, va_K.moved (u := U) (U := U.calling g mk a') (Vm.Alike.refl U.vm) qK, qD, qE.move (U := U.calling g mk a') (State.WarmedH.refl U) (fun _ _ _ => rfl) (fun _ h => h) (Nat.le_refl _) zLe.rf⟩, qO.moved (u := U) (U := U.calling g mk a') (Vm.Alike.refl U.vm)⟩
  have hp : PreV s H M_X7_ledx.1.cls b (va_Pc (.ref b :: x.reverse) (fun U => (U.heap.size = H.size ∧ va_P D vwCl ws U.heap ∧ va_K D vwCl tys U ∧ va_D (fun _ => True) ws ∧ zE X U (va_A ws H.size) ad) ∧ zDw U)) x.reverse := ⟨hbl, va_recv hKK hP zCl7.1 g2, fun U hU hW => ⟨rfl, (z_pre (cav := .ref b :: x.reverse) hB U hU hW).2, hz.2.moved hW.alike⟩⟩
  obtain ⟨hlenl, lv, hlv, hall⟩ := id hls
  obtain ⟨q1, q2, q3, q4, q5⟩ := mv_X7_led
  have cw := cwV (R := M_L_led.2.2.2.2) (s := s) (args := args) (own := M_L_led.1.cls) (C := M_X7_ledx.1.cls) (index := 7) (y := M_X7_ledx.1) (rm := M_X7_ledx.2.2.2.2) 1 hC.2.2.2.2.2.1 (zws_good (ws := wsV M_L_led.1.cls 7 M_X7_ledx.1.cls M_X7_ledx.1 (zwsM M_X7_ledx)) (fun w hw => by
      unfold wsV at hw
      rcases List.mem_append.mp hw with h | h
      · simp only [List.mem_cons, List.not_mem_nil, or_false] at h
        rcases h with rfl | rfl | rfl | rfl
        · exact (zmt (zt5 (i := 23) rfl) rfl)
        · exact q1
        · exact q2
        · exact q3
      · exact zwsM_sub (M' := M_X7_ledx) q4 w h)) rfl rfl rfl ⟨rfl, q5.1, q5.2, na_X7_led⟩ ⟨by decide, by decide⟩
  have run := vx_runV (e := e) (below := below) (meth := meth) (g := F0 m 4 cls (x ++ .ref b :: rest)) (As := x.reverse) (rest := rest) (locs := locs) (cells := 0) (slots := 0) ⟨hC.1, hC.2.1, hC.2.2.2.1, hC.2.2.2.2.1, hC.2.2.2.2.2.1⟩ hM cw hp rfl hlen hlv.1 (by show x ++ _ = _; rw [List.reverse_reverse]) (lv_room (h4.sum hrest)) dL_led_4 ⟨by decide, by decide⟩
  rcases run T hT Xs with ⟨v, st₀, t', T', L, h0, X', hL', e1, e2, ⟨⟨rv, v', h', ad', tys', ws', hR, hle, hK', hP', hD', hH', hF', hv, hov⟩, hzz, hkk⟩, st⟩ | ⟨q', st₀, t', T', L, E, ce, h0, X', hL', e1, e2, ⟨⟨rfl, h', ad', tys', ws', hR, hle, hK', hP', hD', hH', hF'⟩, hzz, hkk⟩, hce, hcv, hcl, st⟩
  · cases hv
    rw [h0] at hzz hkk
    have hal : s.vm.Alike t'.vm := by rw [← e2]; exact X'.warmed.alike
    have hB' := z_next (T' := T') (L := L) hB hle hK' hP' hD' hH' hF' hzz hkk e1 hal hL'
    have hzv : zst ad' (rv.toList ++ t) (v.toList ++ rest) := by
      refine zst.app ?_ (hrest.mono hle)
      cases rv with
      | none => cases hov; exact trivial
      | some x =>
        obtain ⟨w, rfl, hw⟩ := hov
        exact ⟨hw, trivial⟩
    obtain ⟨t2, a1, b1⟩ := hK _ _ _ hR p l e s m args below meth c A D ad0 ad' tys' ws' T'.heap (locs ++ L) cls (v.toList ++ rest) hB' (hls.mono hle) hzv T' rfl X'
    exact ⟨t2, st t2 a1, b1⟩
  · rw [h0] at hzz hkk
    have hal : s.vm.Alike t'.vm := by rw [← e2]; exact X'.warmed.alike
    have hB' := z_next (T' := T') (L := L) hB hle hK' hP' hD' hH' hF' hzz hkk e1 hal hL'
    have ht := hz.1 m meth c Xs.frames Xs.method Xs.code
    have hall' : ∀ (j : Nat) (u : Value), ls[j]? = some u → (∃ q, u = .retAddr q) ∨ ∃ w, zxv ad' u w ∧ (j, w) ∈ lv := fun j u hj => by
      rcases hall j u hj with h | ⟨w, g1, g2⟩
      · exact Or.inl h
      · exact Or.inr ⟨w, g1.mono hle, g2⟩
    have kk : W p l e M_L_led.2.2.2.2 s m args below meth c T'.heap (locs ++ L) (0 + 1) (0 + 6) (zQhl R below args s A D ad0) (F0 m 12 cls [.ref q']) := lv_astore_n hC.1 hC.2.1 dL_led_12 rfl hlv (by decide) rfl (fun cls' hc' => hKx _ _ hR p l e s m args below meth c A D ad0 ad' tys' ws' T'.heap (locs ++ L) cls' [] hB' (zls_stu (i := 3) (ip := 2) (Or.inl rfl) hlenl hall' hnl hc') trivial)
    obtain ⟨t2, a1, b1⟩ := vx_catch (own := M_L_led.1.cls) (name := "java/util/NoSuchElementException") (pc := 4) (ls := cls) (rest := rest) hC.2.2.2.2.1 [] _ [] ht (fun z hz => nomatch hz) (by decide) (by decide) (hC.2.2.2.2.2.1 _ (zmt (zt5 (i := 22) rfl) rfl)) (hz.2.use _ (by simp [zDl])) (by rw [e1]; exact hce) hcv hcl kk T' rfl X'
    exact ⟨t2, st.trans a1, b1⟩
def zwsH : List Cond := Cond.codeWith yL_led cL_led 4 (some .int) zhh :: zws
def zCCh (X : Nat × (Nat → Int32)) (av : List Value) (h : zHp) (R : zRt) : Prop :=
  ∀ (l : Launch) (D : va_G) (ad0 : Nat → Option Nat) (tys : List (ClassId × FieldType)) (ws : va_W) (cav : List Value) (sz : Nat), l.stackTraces = false → zst ad0 av cav → zH ad0 tys h ws → zF (va_A ws sz) ad0 ad0 ws →
    Met l M_L_led.1 zwsH M_L_led.2.2.2.2 (va_Pc cav (fun U => (U.heap.size = sz ∧ va_P D vwCl ws U.heap ∧ va_K D vwCl tys U ∧ va_D (fun _ => True) ws ∧ zE X U (va_A ws sz) ad0) ∧ zDw U)) (zQ R (va_A ws sz) D ad0) M_L_led.2.2.2.2.cells M_L_led.2.2.2.2.slots (va_A ws sz)
theorem zCCh_of {av : List Value} (hls : zlo av ++ List.replicate (M_L_led.2.2.1 - (zlo av).length) (Value.retAddr 0) = ls) (hlen : (zlo av).length ≤ M_L_led.2.2.1) (hV : zV X M_L_led (zQhl R) 0 0 0 ls [] h) : zCCh X av h R := by
  intro l D ad0 tys ws cav sz hl hst hH hF
  refine MetFree.of_bodyS (code := cL_led) (maxLocals := 4) (ret := some .int) (by decide) ?_ ?_
  · intro args s m h hn
    obtain ⟨m9, meth, c, hn9, h1, h2, h3, h4, -, h5, h6, -⟩ := Cond.codeWith_spec (atoms_spec (ws := zwsH) h _ List.mem_cons_self)
    cases hn.symm.trans hn9
    exact ⟨meth, c, h1, h2, h3, h4, h5, h6⟩
  · intro p e s m args below meth c s₁ B hml hv _
    have hh0 : s₁.heap = s.heap := by rw [B.state]; rfl
    have htb : c.exceptionTable.toList = tableOf zhh := vx_table (x := yL_led) B (atoms_spec (ws := zwsH) B.pre _ List.mem_cons_self)
    obtain ⟨rfl, ⟨hsz, hP, hK, hD, hE⟩, hDw⟩ := hv
    subst hsz
    obtain ⟨g1, g2⟩ := zlo_args av cav 0 hst
    have hle := lv_entry cav (n := M_L_led.2.2.1) (by omega)
    have W0 := hV p l e s m cav.toArray below meth c (va_A ws s.heap.size) D ad0 ad0 tys ws s.heap [] _ [] ⟨⟨B.exec, B.bytes, B.returns, hml, findClass_of_methodNamed B.named, fun w hw => atoms_spec (ws := zwsH) B.pre w (List.mem_cons_of_mem _ hw), B.notSynchronized, fun q h => Or.inr h, (name_of_methodNamed B.named B.method).1, hl⟩, hE, zLe.rf, hK, hP, hD.self, va_S.rf, hH, hF⟩ ⟨by rw [← hls]; simp; omega, _, hle, fun i v hi => by
      rw [← hls] at hi
      by_cases hil : i < (zlo av).length
      · rw [List.getElem?_append_left hil] at hi
        have := g2 i v hi
        rwa [Nat.zero_add] at this
      · rw [List.getElem?_append_right (by omega)] at hi
        have := List.mem_of_getElem? hi
        exact Or.inl ⟨0, (List.mem_replicate.mp this).2⟩⟩ trivial
    obtain ⟨t, a1, b1⟩ := W0 s₁ hh0 (Stand.of_body B)
    obtain ⟨o, c1, c2, c3, c4⟩ := b1 ⟨fun m' meth' c' f1 f2 f3 => by
      have Xs := Stand.of_body B
      have e1 : m' = m := by
        have := f1.symm.trans Xs.frames
        cases this
        rfl
      subst e1
      cases Option.some.inj (f2.symm.trans Xs.method)
      cases Option.some.inj (f3.symm.trans Xs.code)
      exact htb, hDw⟩
    rw [← lg_entry_eq] at a1
    exact ⟨t, o, a1, c1, c2, ⟨c3, c4⟩⟩
/-- the law's led: nought and the bit told, or one -/
theorem cl_led {a : Int} {d p0 : Nat} (w : zCW h d p0) (v : zPV h p0) (u : zNV h) (s86 : zsh h 86 = some (.inr (.long, 1))) (ha1 : -2147483648 ≤ a) (ha2 : a < 2147483648) (k : ∀ b, zldf (fun b => zis h p0 0 0 b) a (zn h p0) 0 0 = some b → R (some (.int (zj 0))) (zpl h 86 0 (zk (b : Nat)))) (kx : zldf (fun b => zis h p0 0 0 b) a (zn h p0) 0 0 = none → R (some (.int (zj 1))) h) : zCCh X [.ref 16, .int (zj a), .ref 86] h R := by
  have v1 := v.1
  have hn6 : zn h p0 ≤ 6 := by unfold zn; omega
  refine zCCh_of (ls := [.ref 16, .int (zj a), .ref 86, .retAddr 0]) rfl (Nat.le_of_ble_eq_true rfl) ?_
  have e15 : ∀ ls h', R (some (.int (zj 0))) h' → zV X M_L_led (zQhl R) 1 6 15 ls [] h' := fun ls h' hr => sd_iconst dL_led_15 rfl (zQhl_of (sd_iret dL_led_16 rfl (Nat.le_of_ble_eq_true rfl) (Nat.le_of_ble_eq_true rfl))) ls [] h' hr
  have e13 : ∀ ls h', R (some (.int (zj 1))) h' → zV X M_L_led (zQhl R) 1 6 13 ls [] h' := fun ls h' hr => sd_iconst dL_led_13 rfl (zQhl_of (sd_iret dL_led_14 rfl (Nat.le_of_ble_eq_true rfl) (Nat.le_of_ble_eq_true rfl))) ls [] h' hr
  have vb : ∀ ls st h', oALOAD 2 (oPI (zj 0) (oALOAD 0 (oILOAD 1 (oLED X (oI2L (oLAST (fun _ st h' => st = [] ∧ R (some (.int (zj 0))) h'))) (fun h' => R (some (.int (zj 1))) h'))))) ls st h' → zV X M_L_led (zQhl R) 0 0 0 ls st h' := sd_aload_n dL_led_0 rfl (sd_iconst dL_led_1 rfl (sd_aload_n dL_led_2 rfl (sd_iload_n dL_led_3 rfl (sd_led (sd_i2l dL_led_7 (sd_last dL_led_8 (sd_goto dL_led_9 rfl (fun ls st h' hr => by obtain ⟨rfl, hr⟩ := hr; exact e15 ls h' hr)))) e13))))
  refine vb _ _ _ ?_
  simp only [oLED, oPI, oPL, oILOAD, oLLOAD, oALOAD, oISTORE, oASTORE, oLSTORE, oIINC, oIADD, oISUB, oIMUL, oIAND, oIOR, oIXOR, oIDIV, oIREM, oISHL, oISHR, oIUSHR, oLADD, oLSUB, oLMUL, oLOR, oLDIV, oLREM, oLCMP, oLSHL, oINEG, oI2L, oL2I, oI2B, oI2C, oDUP, oPOP, oDUP2, oIFEQ, oICEQ, oIFNE, oICNE, oIFLT, oICLT, oIFGE, oICGE, oIFGT, oICGT, oIFLE, oICLE, oIFNULL, oIFNONNULL, oTSW, oLSW, oGETI, oGETL, oGETR, oPUTI, oPUTZ, oPUTL, oPUTR, oIALD, oBALD, oZALD, oLALD, oAALD, oALEN, oIAST, oBAST, oZAST, oLAST, oIRET, oZRET, oLRET, oVRET, oARET, oOBJ, oINI, oPS, oNEW, oNEWAI, oNEWAB, oNEWAZ, oNEWAL, oCOPY, oINV0, oINS0, oINV1, oINS1, oINV2, oINS2, oINV3, oINS3, oINV4, oINS4, oINV5, oINS5, oINV6, oINS6, List.getElem?_cons_zero, List.getElem?_cons_succ, List.set_cons_zero, List.set_cons_succ, znl, zs4, zc1, true_and, and_self, Value.category, Option.toList, List.cons_append, List.nil_append, zvr, zc_s16 w, s86]
  refine cx_led w v u ha1 ha2 (fun b hb => ?_) kx
  have := zldf_b hb
  have ei : (zj (b : Nat)).toInt64 = zk (b : Nat) := by rw [zj_k (by omega) (by omega)]
  simp only [oPI, oPL, oILOAD, oLLOAD, oALOAD, oISTORE, oASTORE, oLSTORE, oIINC, oIADD, oISUB, oIMUL, oIAND, oIOR, oIXOR, oIDIV, oIREM, oISHL, oISHR, oIUSHR, oLADD, oLSUB, oLMUL, oLOR, oLDIV, oLREM, oLCMP, oLSHL, oINEG, oI2L, oL2I, oI2B, oI2C, oDUP, oPOP, oDUP2, oIFEQ, oICEQ, oIFNE, oICNE, oIFLT, oICLT, oIFGE, oICGE, oIFGT, oICGT, oIFLE, oICLE, oIFNULL, oIFNONNULL, oTSW, oLSW, oGETI, oGETL, oGETR, oPUTI, oPUTZ, oPUTL, oPUTR, oIALD, oBALD, oZALD, oLALD, oAALD, oALEN, oIAST, oBAST, oZAST, oLAST, oIRET, oZRET, oLRET, oVRET, oARET, oOBJ, oINI, oPS, oNEW, oNEWAI, oNEWAB, oNEWAZ, oNEWAL, oCOPY, oINV0, oINS0, oINV1, oINS1, oINV2, oINS2, oINV3, oINS3, oINV4, oINS4, oINV5, oINS5, oINV6, oINS6, List.getElem?_cons_zero, List.getElem?_cons_succ, List.set_cons_zero, List.set_cons_succ, znl, zs4, zc1, true_and, and_self, Value.category, Option.toList, List.cons_append, List.nil_append, zvr, zc_s16 w, s86]
  rw [ei]
  exact ⟨zj_in (by omega) (by omega) (by omega), k b hb⟩
end ZLL
