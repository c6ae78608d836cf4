/-! THE CLAIM OUT OF ONE WALK OF THE LAW'S BODY. Your part is whole_start (and what it stands on); all else here is the same for every law, but numbers. -/
def R_law : String := "MirrorTubeLaw"
def lw_P (b : Addr) (xs : List Int32) (args : Array Value) (s : State) : Prop := args = #[.ref b] ∧ s.IntsAt b xs ∧ xs.length ≤ 3072 ∧ (Jvm.Cond.and given_1 narrow_1).before args s = true
def lw_Q (_ : Array Value) (s : State) (o : Outcome) (t : State) : Prop := o = .returned (some (.int 1)) ∧ Framed s o t [] 601024 7293034
def lw_Z (below : List Frame) (a : Array Value) (s : State) : State → Prop := fun t => ∃ o, t.status = .running ∧ Ended t below o ∧ lw_Q a s o t
/-- the law's own end, with 1 on the stack, nothing written that was there before, its room as the claim has it -/
theorem lw_ret {p : Program} {l : Launch} {e : Env} {s : State} {m : MethodId} {below : List Frame} {meth : Method} {c : Code} {b : Nat} (hx : p.tables.exec = Jvm.exec) (hb : c.code = code) (hr : meth.sig.returnType = ret) (hlocks : meth.locks = false) {pc : Nat} {H : Heap} {ls : Array Slot} (hdg : decode code pc = .ok (.ireturn, 1)) : W p l e room_1 s m #[Value.ref b] below meth c H [] 601024 7293034 (lw_Z below #[Value.ref b] s) (F0 m pc ls [.int 1]) := by
  intro T hT X
  obtain ⟨fs, hret, hrun, hended, hW, hframe⟩ := X.leave (v := some (.int 1)) (hlocks := hlocks) (fun h => by rw [hr] at h; cases h)
  have hmeth' : T.vm.method? m = some meth := X.method'
  refine ⟨T.setFrames fs, ?_, .returned (some (.int 1)), hrun, hended, rfl, ⟨_, rfl⟩, hW, hframe⟩
  jvm_step X.here [X.here.top, hx, hb, hdg, hmeth', hr, ret, narrow_b1]
  (try refine ⟨rfl, ?_⟩); (try refine ⟨rfl, ?_⟩)
  first | (intro acts; rw [hret _ acts rfl rfl rfl]) | rw [hret _ _ rfl rfl rfl]
  exact Steps.refl _
/-- what holds at the law's entry: the machine, the code, the tables' words (any of lw_tbl by 'hts w (by decide +kernel)'), the script of L ints xs at the cell b, what the Statement gives of the start (any of its parts by flat_of_before) -/
def lw_At (p : Program) (s : State) (m : MethodId) (meth : Method) (c : Code) (b L : Nat) (xs : Nat → Int32) : Prop :=
  p.tables.exec = Jvm.exec ∧ c.code = code ∧ meth.sig.returnType = ret ∧ c.maxLocals = 7 ∧ s.vm.findClass R_law = some m.cls ∧ (∀ w ∈ lw_tbl, w.before #[Value.ref b] s = true) ∧ va_X b L xs s s.heap ∧ b < s.heap.size ∧ meth.locks = false ∧ (Jvm.Cond.and given_1 narrow_1).before #[Value.ref b] s = true ∧ meth.name = "law"
def M_L_law : zM := (yL_law, cL_law, 7, some .boolean, room_1)
/-- what stands at the law's start and is never written -/
def zLc (args : Array Value) (s : State) (A : Nat → Prop) (ad0 : Nat → Option Nat) : Prop := (zAO s ∧ zDw s) ∧ (∀ k, 15 ≤ k → ad0 k = none) ∧ (∀ q, A q → s.heap.size ≤ q) ∧ ∃ b : Nat, args = #[Value.ref b]
def zQL : zQt := fun below args s A D ad0 t => zLc args s A ad0 → lw_Z below args s t
section ZLW2
variable {X : Nat × (Nat → Int32)} {M : zM} {Q : zQt} {k n pc c1 c2 c3 T : Nat} {K : zCf}
theorem zw0 : k ≤ k + T := Nat.le_add_right k T
theorem zw1 (h : Nat.ble c1 T = true) : k + c1 ≤ k + T := Nat.add_le_add_left (Nat.le_of_ble_eq_true h) k
theorem zw2 (h : Nat.ble (c1 + c2) T = true) : k + c1 + c2 ≤ k + T := by have := Nat.le_of_ble_eq_true h; omega
theorem zw3 (h : Nat.ble (c1 + c2 + c3) T = true) : k + c1 + c2 + c3 ≤ k + T := by have := Nat.le_of_ble_eq_true h; omega
theorem zV_wd {a b c d : Nat} {ls st : List Value} {h : zHp} (h1 : a ≤ b) (h2 : c ≤ d) (hv : zV X M Q b d pc ls st h) : zV X M Q a c pc ls st h := by
  intro p l e s m args below meth cc A D ad0 ad tys ws H locs cls cst hB hls hst
  exact W.widen h1 h2 (hv p l e s m args below meth cc A D ad0 ad tys ws H locs cls cst hB hls hst)
def oBAD : zCf := fun _ _ _ => False
theorem sd_bad : ∀ ls st h, oBAD ls st h → zV X M Q k n pc ls st h := fun _ _ _ h => h.elim
def oSLD (X : Nat × (Nat → Int32)) (K : zCf) : zCf := fun ls st h => match st with
  | .int i :: .ref 14 :: t => vp_in i X.1 ∧ K ls (.int (X.2 i.toNatClampNeg) :: t) h
  | _ => False
theorem sd_sld (hd : decode M.2.1 pc = .ok (.iaload, 1)) (hK : ∀ ls st h, K ls st h → zV X M Q k n (pc + 1) ls st h) : ∀ ls st h, oSLD X K ls st h → zV X M Q k n pc ls st h := by
  intro ls st h hk p l e s m args below meth c A D ad0 ad tys ws H locs cls cst hB hls hst
  unfold oSLD at hk
  split at hk
  · obtain ⟨hin, hk⟩ := hk
    obtain ⟨cc1, rfl, hs1⟩ := hst.i
    obtain ⟨a, rest, h1, rfl, hrest⟩ := hs1.r
    obtain ⟨hC, hE, hL, -, -, -, hS, -, -⟩ := id hB
    obtain ⟨-, -, -, b, hX, hbl, hbA, hb14⟩ := hE
    cases Option.some.inj (h1.symm.trans (hL _ _ hb14))
    exact va_sld hC.1 hC.2.1 hX hbl hbA hS hin hd (hK _ _ _ hk p l e s m args below meth c A D ad0 ad tys ws H locs cls _ hB hls ⟨rfl, hrest⟩)
  · exact hk.elim
def oSLE (X : Nat × (Nat → Int32)) (K : zCf) : zCf := fun ls st h => match st with
  | .ref 14 :: t => K ls (.int (Int32.ofNat X.1) :: t) h
  | _ => False
theorem sd_sle (hd : decode M.2.1 pc = .ok (.arraylength, 1)) (hK : ∀ ls st h, K ls st h → zV X M Q k n (pc + 1) ls st h) : ∀ ls st h, oSLE X K ls st h → zV X M Q k n pc ls st h := by
  intro ls st h hk p l e s m args below meth c A D ad0 ad tys ws H locs cls cst hB hls hst
  unfold oSLE at hk
  split at hk
  · obtain ⟨a, rest, h1, rfl, hrest⟩ := hst.r
    obtain ⟨hC, hE, hL, -, -, -, hS, -, -⟩ := id hB
    obtain ⟨-, -, -, b, hX, hbl, hbA, hb14⟩ := hE
    cases Option.some.inj (h1.symm.trans (hL _ _ hb14))
    exact va_slen hC.1 hC.2.1 hX hbl hbA hS hd (hK _ _ _ hk p l e s m args below meth c A D ad0 ad tys ws H locs cls _ hB hls ⟨rfl, hrest⟩)
  · exact hk.elim
def oEND : zCf := fun _ st _ => match st with
  | [.int x] => x = 1
  | _ => False
theorem sd_end (hk1 : k ≤ 601024) (hn1 : n ≤ 7293034) (hd : decode cL_law pc = .ok (.ireturn, 1)) : ∀ ls st h, oEND ls st h → zV X M_L_law zQL k n pc ls st h := by
  intro ls st h hk p l e s m args below meth c A D ad0 ad tys ws H locs cls cst hB hls hst T hT Xs
  by_cases hc : zLc args s A ad0
  rotate_left
  · exact ⟨_, Steps.refl _, fun z => absurd z hc⟩
  unfold oEND at hk
  split at hk
  rotate_left
  · exact hk.elim
  subst hk
  obtain ⟨cc1, rfl, hs1⟩ := hst.i
  cases hs1.nil
  obtain ⟨hC, hE, hL, -, -, -, hS, -, -⟩ := id hB
  obtain ⟨-, -, hA, b, rfl⟩ := id hc
  obtain ⟨t, a1, b1⟩ := W.widen hk1 hn1 (va_forget (fun q hq => hA _ (hS.2.2 q hq)) (lw_ret hC.1 hC.2.1 hC.2.2.1 hC.2.2.2.2.2.2.1 hd)) T hT Xs
  exact ⟨t, a1, fun _ => b1⟩
def oINSH (X : Nat × (Nat → Int32)) (K : zCf) : zCf := fun ls st h => match st with
  | c :: b :: a :: t => zs4 t ∧ zCCh X [a, b, c] h (fun rv h' => K ls (rv.toList ++ t) h')
  | _ => False
theorem sd_insh {idx : Nat} (hq : ∀ below args s A D ad0 t, ¬ zDw s → Q below args s A D ad0 t) (hd : decode M.2.1 pc = .ok (.invokestatic idx, 3)) (hl : Cond.methodLink M.1.cls idx M_L_led.1 ∈ zws) (hrm : zRm M.2.2.2.2 M_L_led k n) (hK : ∀ ls st h, K ls st h → zV X M Q (k + M_L_led.2.2.2.2.cells) (n + M_L_led.2.2.2.2.slots) (pc + 3) ls st h) : ∀ ls st h, oINSH X K ls st h → zV X M Q k n pc ls st h := by
  intro ls st h hk p l e s m args below meth cc A D ad0 ad tys ws H locs cls cst hB hls hst
  by_cases hO : zDw s
  rotate_left
  · intro T hT Xs
    exact ⟨_, Steps.refl _, hq _ _ _ _ _ _ _ hO⟩
  unfold oINSH at hk
  split at hk
  rotate_left
  · exact hk.elim
  rename_i c b a t
  obtain ⟨h4, hcc⟩ := hk
  obtain ⟨x, rest, rfl, hx, hrest⟩ := (show zst ad ([a, b, c].reverse ++ t) cst from hst).split
  have hAs : zst ad [a, b, c] x.reverse := by have := hx.rev; rwa [List.reverse_reverse] at this
  obtain ⟨hC, hE, hL, hKK, hP, hD, hS, hH, hF⟩ := id hB
  have hM := hcc l D ad tys ws x.reverse H.size hC.2.2.2.2.2.2.2.2.2 hAs hH (z_zF hB)
  have hlen : x.reverse.length = 3 := hAs.len
  have hbl : FrameBlind (va_Pc x.reverse (fun U => (U.heap.size = H.size ∧ va_P D vwCl ws U.heap ∧ va_K D vwCl tys U ∧ va_D (fun _ => True) ws ∧ zE X U (va_A ws H.size) ad) ∧ zDw U)) := by
    intro a' U g mk q
    obtain ⟨q0, ⟨q1, qP, qK, qD, qE⟩, qO⟩ := q
    exact ⟨q0, ⟨q1, qP, va_K.moved (u := U) (U := U.calling g mk a') (Vm.Alike.refl U.vm) qK, qD, qE.move (U := U.calling g mk a') (State.WarmedH.refl U) (fun _ _ _ => rfl) (fun _ h => h) (Nat.le_refl _) zLe.rf⟩, qO.moved (u := U) (U := U.calling g mk a') (Vm.Alike.refl U.vm)⟩
  have hp : PreS s H (va_Pc x.reverse (fun U => (U.heap.size = H.size ∧ va_P D vwCl ws U.heap ∧ va_K D vwCl tys U ∧ va_D (fun _ => True) ws ∧ zE X U (va_A ws H.size) ad) ∧ zDw U)) x.reverse := ⟨hbl, fun U hU hW => ⟨rfl, (z_pre (cav := x.reverse) hB U hU hW).2, hO.moved hW.alike⟩⟩
  obtain ⟨-, lv, hlv, -⟩ := id hls
  have cw := vx_cwSW (R := M.2.2.2.2) (s := s) (args := args) (own := M.1.cls) (index := idx) (y := M_L_led.1) (bytes := cL_led) (maxL := 4) (ret := some .int) (hh := zhh) (rm := M_L_led.2.2.2.2) 3 hC.2.2.2.2.2.1 (zws_good (ws := va_wsS M.1.cls idx M_L_led.1 zwsH) (fun w hw => by
      unfold va_wsS at hw
      rcases List.mem_append.mp hw with h | h
      · simp only [List.mem_cons, List.not_mem_nil, or_false] at h
        rcases h with rfl | rfl | rfl
        · exact hl
        · exact (zmt (zt5 (i := 20) rfl) rfl)
        · exact (zmt (zt1 (i := 0) rfl) rfl)
      · rcases List.mem_cons.mp h with rfl | h
        · exact (zmt (zt5 (i := 21) rfl) rfl)
        · exact h)) rfl rfl rfl ⟨by decide, by decide, by decide +kernel⟩ hrm.1
  exact z_cont (vx_runSW (g := F0 m pc cls (x ++ rest)) (As := x.reverse) (rest := rest) ⟨hC.1, hC.2.1, hC.2.2.2.1, hC.2.2.2.2.1, hC.2.2.2.2.2.1⟩ hM cw hp rfl hlen hlv.1 (by show x ++ _ = _; rw [List.reverse_reverse]) (lv_room (h4.sum hrest)) hd hrm.2) rfl hB hls hrest (fun rv h' hr => hK _ _ _ hr)
end ZLW2
section ZLD
variable {h h' : zHp} {d p : Nat}
theorem zI_led (I : zI h d p) (e1 : h'.1 = h.1) (er : ∀ x y, zgr h' x y = zgr h x y) (ei : ∀ x y, ¬ (x = 78 ∧ y = 0) → zgi h' x y = zgi h x y) (el : ∀ x y, x ≠ 86 → zgl h' x y = zgl h x y) : zI h' d p := by
  have hdp := zc_dp I.w
  have s : ∀ x, zsh h' x = zsh h x := fun x => by unfold zsh; rw [e1]
  have g : ∀ x y, ¬ (x = 78 ∧ y = 0) → gz h' x y = gz h x y := fun x y q => congrArg Int32.toInt (ei x y q)
  have P3 : ∀ q, (q = 20 ∨ q = 33) → ∀ i y, i ≤ 11 → zgi h' (q + i) y = zgi h (q + i) y := fun q hq i y hi => ei _ _ (by omega)
  have mw : zMW h' := zMW_r (zmw_of I) (fun x _ _ => s x) (fun y _ _ => er 78 y)
  have nv : zNV h' := zNr.mv (q := 45) (q' := 45) I.u (fun i _ => ei 45 i (by omega))
  refine ⟨zCW_r I.w (fun x _ _ => s x) (fun x y _ _ => er x y), zPV_r I.v (P3 p (by omega)), nv, ?_, fun n hn s hs => ?_, ?_, I.ac.mv (fun y h1 h2 => ei 78 y (by omega)) (fun x y hx => ei x y (by omega)), ?_, ?_, ?_, ⟨by unfold znx; rw [e1]; exact I.ex.1, (s 86).trans I.ex.2⟩, zPV_r I.vd (P3 d (by omega))⟩
  · have := I.m
    unfold zMV at this ⊢
    rw [g 46 2 (by omega), g 46 3 (by omega), g 46 4 (by omega)]
    exact this
  · rw [g (70 + n) s (by omega)]
    exact I.r n hn s hs
  · rcases I.o with ⟨w, hz, h0, hp, h13⟩ | ⟨o, h0⟩
    · exact Or.inl ⟨mw, (er 78 3).trans hz, by rw [g p 1 (by omega)]; exact h0, hp, by rw [g p 13 (by omega)]; exact h13⟩
    · have tq : zTq h' 87 := zTq_r (h := h) (t := 87) o.ta.2 (fun i hi => s _) (fun y => er 87 y)
      exact Or.inr ⟨⟨mw, ⟨(er 78 3).trans o.ta.1, tq⟩, zTR_r (h := h) (t := 87) o.tr (P3 p (by omega)) (fun i y hi => el _ _ (by omega)) (fun i y hi => ei _ _ (by omega)) (fun i y hi => el _ _ (by omega)), zPV_r I.v (P3 p (by omega)), o.pp, fun i hi => by rw [ei 80 i (by omega), ei 45 i (by omega)]; exact o.vn i hi, nv⟩, by rw [g p 1 (by omega)]; exact h0⟩
  · have := I.tp
    unfold zTp at this ⊢
    rw [g 78 6 (by omega), g 18 1 (by omega)]
    refine ⟨this.1, this.2.1, fun i hi => ?_⟩
    rw [ei 79 i (by omega), ei 19 i (by omega), g 19 i (by omega)]
    exact this.2.2 i hi
  · have := I.tb
    unfold zTb at this ⊢
    rw [ei 78 1 (by omega), ei 16 5 (by omega), ei 78 12 (by omega), ei 17 3 (by omega), ei 78 2 (by omega), ei 17 4 (by omega)]
    exact this
  · have := I.ze
    unfold zZe at this ⊢
    rw [g p 1 (by omega), g p 0 (by omega), g p 8 (by omega), g p 11 (by omega), g p 13 (by omega), g 45 14 (by omega), g 46 2 (by omega), g 46 4 (by omega)]
    exact this
end ZLD
theorem zlcmp (x : Int64) : lg_cmp x x = 0 := by
  unfold lg_cmp
  rw [if_neg (by simp), if_pos rfl]
