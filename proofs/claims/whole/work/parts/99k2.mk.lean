/-- an instruction that ends in the ordinary way, its end left open -/
theorem yMin {p : Program} {e : Env} {below : List Frame} {u : State} {f : JFrame} {c : Code} {i : Instr} {len : Nat} {Q : State → Prop} (h : At u f.method c below) (hd : decode c.code f.pc = .ok (i, len))
    (hw : wpRun (p.tables.exec i) (fun _ u' _ => ∀ acts, ∃ t, Steps p.tables e below (afterInstr e len (.ok () u' acts)).1 t ∧ Q t) (fun _ _ _ => False) e (u.setTop f)) : ∃ t, Steps p.tables e below (u.setTop f) t ∧ Q t := by
  have hs := stepThread_java (tb := p.tables) (e := e) (State.frames_setTop' f h.top) h.plain h.code hd
  have hw := (wpRun_iff_run _ _ _ _ _).mp hw
  cases hx : (p.tables.exec i).run e (u.setTop f) with
  | ok a u' acts =>
    rw [hx] at hw hs
    obtain ⟨t, a1, b1⟩ := hw acts
    exact ⟨t, Steps.head ⟨h.running, by rw [State.curStatus?_setTop]; exact h.runnable, by rw [State.alone_setTop]; exact h.alone⟩ (h.within f) (by rw [hs]; exact a1), b1⟩
  | ctl x u' acts =>
    rw [hx] at hw
    cases x <;> exact hw.elim
/-- a loop that counts from i up to N -/
theorem yMlp {E : CtlPost} {e : Env} {N : Nat} {I : Nat → State → Prop} {f : Nat → PUnit → Sem (ForInStep PUnit)} (hs : ∀ (i : Nat) (u : State) (d : Bool) (acts : List Action) (Q : ForInStep PUnit → Pre), i < N → I i u → (∀ u' d' acts', I (i + 1) u' → Q (ForInStep.yield PUnit.unit) d' acts' u') → wp (f i PUnit.unit) Q E e d acts u) :
    ∀ (r i : Nat) (u : State) (d : Bool) (acts : List Action) (Q : PUnit → Pre), i + r = N → I i u → (∀ u' d' acts', I N u' → Q PUnit.unit d' acts' u') → wp (forIn (List.range' i r 1) PUnit.unit f) Q E e d acts u
  | 0, i, u, d, acts, Q, hi, hI, hq => by
    have hi : i = N := hi
    subst hi
    simp only [List.range'_zero, List.forIn_nil, wp_pure']
    exact hq _ _ _ hI
  | r + 1, i, u, d, acts, Q, hi, hI, hq => by
    simp only [List.range'_succ, List.forIn_cons, wp_bind']
    exact hs i u d acts _ (by omega) hI (fun u' d' acts' h => yMlp hs r (i + 1) u' d' acts' Q (by omega) h hq)
/-- the row of rows with the first i rows in it -/
def yMro (cA : ClassId) (N a i : Nat) : Cell := arrV cA N (fun j => va_rf (if j < i then some (a + 1 + j) else none))
def yMri (cI : ClassId) (K : Nat) : Cell := arrV cI K (fun _ => .int 0)
theorem yMro_0 (cA : ClassId) (N a : Nat) : ({ cls := cA, slots := Array.replicate N .null, vm := .none } : Cell) = yMro cA N a 0 := arrV_new cA N .null
theorem yMri_0 (cI : ClassId) (K : Nat) : ({ cls := cI, slots := Array.replicate K (.int 0), vm := .none } : Cell) = yMri cI K := arrV_new cI K (.int 0)
theorem yMro_s (cA : ClassId) (N a i : Nat) : (yMro cA N a i).setSlot i (.ref (a + 1 + i)) = yMro cA N a (i + 1) := by
  unfold yMro
  rw [arrV_store]
  congr 1
  funext j
  unfold updV
  by_cases h1 : j = i
  · rw [if_pos h1, if_pos (by omega), h1]; rfl
  · rw [if_neg h1]
    by_cases h2 : j < i
    · show va_rf (if j < i then some (a + 1 + j) else none) = _
      rw [if_pos h2, if_pos (by omega)]
    · show va_rf (if j < i then some (a + 1 + j) else none) = _
      rw [if_neg h2, if_neg (by omega)]
/-- F is T with i rows laid behind it -/
def yMmr (T : State) (cA cI : ClassId) (N K i : Nat) (F : State) : Prop :=
  (F.heap.size = T.heap.size + 1 + i ∧ F.vm = T.vm) ∧ (∀ x : Nat, x < T.heap.size → F.heap[x]? = T.heap[x]?) ∧ F.heap[T.heap.size]? = some (yMro cA N T.heap.size i) ∧ ∀ j : Nat, j < i → F.heap[T.heap.size + 1 + j]? = some (yMri cI K)
theorem yMmr_0 (T : State) (cA cI : ClassId) (N K : Nat) : yMmr T cA cI N K 0 (T.pushCell (yMro cA N T.heap.size 0)) :=
  ⟨⟨State.heap_size_pushCell .., rfl⟩, fun _ hx => State.heap_pushCell_of_lt _ _ hx, State.heap_pushCell_size .., fun _ h => absurd h (Nat.not_lt_zero _)⟩
theorem yMmr_o {T F : State} {cA cI : ClassId} {N K i : Nat} (h : yMmr T cA cI N K i F) : (F.pushCell (yMri cI K)).heap[T.heap.size]? = some (yMro cA N T.heap.size i) :=
  (State.heap_pushCell_of_lt _ _ (show T.heap.size < F.heap.size by have := h.1.1; omega)).trans h.2.2.1
theorem yMmr_s {T F : State} {cA cI : ClassId} {N K i : Nat} (h : yMmr T cA cI N K i F) : yMmr T cA cI N K (i + 1) ((F.pushCell (yMri cI K)).setCell T.heap.size (yMro cA N T.heap.size (i + 1))) := by
  have ho := yMmr_o h
  obtain ⟨⟨h1, h2⟩, h3, h4, h5⟩ := h
  refine ⟨⟨?_, h2⟩, fun x hx => ?_, State.heap_setCell_self ho, fun j hj => ?_⟩
  · show ((F.pushCell (yMri cI K)).heap.setIfInBounds _ _).size = _
    rw [Array.size_setIfInBounds, State.heap_size_pushCell, h1]
    omega
  · rw [State.heap_setCell_other (show T.heap.size ≠ x by omega), State.heap_pushCell_of_lt _ _ (show x < F.heap.size by omega)]
    exact h3 x hx
  · rw [State.heap_setCell_other (show T.heap.size ≠ T.heap.size + 1 + j by omega)]
    by_cases hji : j < i
    · rw [State.heap_pushCell_of_lt _ _ (show T.heap.size + 1 + j < F.heap.size by omega)]
      exact h5 j hji
    · rw [show T.heap.size + 1 + j = F.heap.size by omega]
      exact State.heap_pushCell_size ..
section ZMK
variable {p : Program} {l : Launch} {e : Env} {R : Room} {s : State} {m : MethodId} {args : Array Value} {below : List Frame} {meth : Method} {c : Code} {T F : State} {locs : List Loc} {cells slots k n : Nat} {cA cI : ClassId} {N K i : Nat}
theorem yMmr_X (X : Stand p l e R s m args below meth c F locs k n) (hg : s.heap.size ≤ T.heap.size) (h : yMmr T cA cI N K i F) : Stand p l e R s m args below meth c ((F.pushCell (yMri cI K)).setCell T.heap.size (yMro cA N T.heap.size (i + 1))) locs (k + 1) (n + K) := by
  have X1 := (X.pushed (yMri cI K)).stored (yMmr_o h) i (.ref (T.heap.size + 1 + i))
  rw [yMro_s, show (yMri cI K).slots.size = K from arrV_size ..] at X1
  exact X1.dropFresh (fun x hx => by cases List.mem_singleton.mp hx; exact hg)
/-- the classes of int[][] and int[] -/
theorem yMao {args : Array Value} (h : (Cond.arrayOver (.array .int)).before args s = true) : ∃ (cI cA : ClassId) (kA : Class), s.vm.findClass (FieldType.array .int).toString = some cI ∧ s.vm.classes[cA]? = some kA ∧ kA.kind = .array cI (.array .int) ∧ s.vm.findClass ("[" ++ (FieldType.array .int).toString) = some cA := by
  simp only [Cond.before, Cond.holds, Cond.value, beq_iff_eq] at h
  obtain ⟨cI, h1, h⟩ := Option.bind_eq_some_iff.mp h
  obtain ⟨cA, h2, h⟩ := Option.bind_eq_some_iff.mp h
  obtain ⟨kA, h3, h4⟩ := Option.map_eq_some_iff.mp h
  obtain ⟨hlt, hp, -⟩ := Array.findIdx?_eq_some_iff_getElem.mp h2
  rw [(Array.getElem?_eq_some_iff.mp h3).2] at hp
  revert h4 hp
  cases hk : kA.kind with
  | array a b =>
    intro h4 hp
    have e1 : a = cI := eq_of_beq hp
    obtain ⟨e2, e3⟩ := (Bool.and_eq_true _ _).mp h4
    subst e1
    exact ⟨_, _, _, h1, h3, hk.trans (by rw [of_decide_eq_true e2]), of_decide_eq_true e3⟩
  | _ => intro h4; cases h4
theorem yMmk1 {E : CtlPost} {d : Bool} {acts : List Action} {u : State} {cc : ClassId} {kI : Class} {y : Int32} {Q : Addr → Pre} (hk : u.vm.classes[cI]? = some kI) (hkind : kI.kind = .array cc .int) (hy : ¬ y < 0) (hK : y.toNatClampNeg = K) (h1 : ¬ K > e.platform.arrayLengthLimit) (h2 : ¬ K * 4 > e.platform.maxHeapBytes) (h3 : u.heap.size < e.platform.maxCells) (h4 : u.slotsUsed + K ≤ e.platform.maxSlots)
    (hq : ∀ acts', Q u.heap.size d acts' (u.pushCell (yMri cI K))) : wp (multianewarray.make cI [y]) Q E e d acts u := by
  subst hK
  rw [multianewarray.make]
  simp only [wp_bind', Jvm.W.ite, hy, if_false, wp_pure', Jvm.W.theClass, hk, hkind, Option.some.injEq, exists_eq_left']
  exact Jvm.W.newArray_of hk hkind h1 h2 h3 h4 rfl (fun acts' => by
    have := hq acts'
    rw [← yMri_0] at this
    exact this)
theorem yMmk2 {E : CtlPost} {d : Bool} {acts : List Action} {g : JFrame} {cc : ClassId} {kA kI : Class} {x y : Int32} {Q : Addr → Pre} (X : Stand p l e R s m args below meth c T locs cells slots) (hA : T.vm.classes[cA]? = some kA) (hAk : kA.kind = .array cI (.array .int)) (hI : T.vm.classes[cI]? = some kI) (hIk : kI.kind = .array cc .int)
    (hx : ¬ x < 0) (hN : x.toNatClampNeg = N) (hy : ¬ y < 0) (hK : y.toNatClampNeg = K) (bN : N ≤ 100000) (bK : K ≤ 100000) (hk1 : cells + (1 + N) ≤ R.cells) (hk2 : slots + (N + N * K) ≤ R.slots)
    (hq : ∀ (F : State) (d' : Bool) (acts' : List Action), Stand p l e R s m args below meth c F locs (cells + 1 + N) (slots + N + N * K) → yMmr T cA cI N K N F → Q T.heap.size d' acts' (F.setTop g)) : wp (multianewarray.make cA [x, y]) Q E e d acts (T.setTop g) := by
  have hl : ∀ {q : Nat}, q ≤ 100000 → ¬ q > e.platform.arrayLengthLimit := fun h => by rw [Launch.admits_arrayLengthLimit X.admits]; omega
  have hb : ∀ {q : Nat}, q ≤ 100000 → ¬ q * 4 > e.platform.maxHeapBytes := fun h => by rw [Launch.admits_maxHeapBytes X.admits]; omega
  have hf : ([y].find? (· < 0)) = none := by simp [hy]
  have hg := X.heapGrown
  have X0 := X.pushed (yMro cA N T.heap.size 0)
  rw [show (yMro cA N T.heap.size 0).slots.size = N from arrV_size ..] at X0
  obtain ⟨r1, r2⟩ := X.roomAbove (a := 1) (b := N) (by omega) (by omega)
  rw [multianewarray.make]
  simp only [wp_bind', Jvm.W.ite, hx, if_false, wp_pure', Jvm.W.theClass, State.vm_setTop, hA, hAk, Option.some.injEq, exists_eq_left', hN]
  refine Jvm.W.newArray_of (s := T.setTop g) hA hAk (hl bN) (hb bN) r1 r2 rfl (fun acts1 => ?_)
  simp only [hf]
  rw [ite_self, wp_bind', Std.Legacy.Range.forIn_eq_forIn_range', show ([:N] : Std.Legacy.Range).size = N by simp [Std.Legacy.Range.size]]
  refine yMlp (N := N) (I := fun i u => ∃ F, u = F.setTop g ∧ Stand p l e R s m args below meth c F locs (cells + 1 + i) (slots + N + i * K) ∧ yMmr T cA cI N K i F) ?_ N 0 _ _ _ _ (Nat.zero_add _) ⟨T.pushCell (yMro cA N T.heap.size 0), by rw [← yMro_0]; rfl, by rw [Nat.zero_mul]; exact X0, yMmr_0 ..⟩ ?_
  · rintro i u d2 acts2 Q2 hi ⟨F, rfl, XF, hF⟩ hq2
    have hm : i * K + K ≤ N * K := by rw [← Nat.succ_mul]; exact Nat.mul_le_mul_right K hi
    obtain ⟨q1, q2⟩ := XF.roomAbove (a := 1) (b := K) (by omega) (by omega)
    have X1 := yMmr_X XF hg hF
    rw [show slots + N + i * K + K = slots + N + (i + 1) * K by rw [Nat.succ_mul]; omega] at X1
    have hv : F.vm = T.vm := hF.1.2
    have hsz : F.heap.size = T.heap.size + 1 + i := hF.1.1
    simp only [wp_bind']
    refine yMmk1 (u := F.setTop g) (kI := kI) (K := K) (by show F.vm.classes[cI]? = _; rw [hv]; exact hI) hIk hy hK (hl bK) (hb bK) q1 q2 (fun acts3 => ?_)
    simp only [wp_bind', Jvm.W.writeLoc, wp_pure']
    refine ⟨yMro cA N T.heap.size i, yMmr_o hF, (fun z => by cases z), by rw [show (yMro cA N T.heap.size i).slots.size = N from arrV_size ..]; exact hi, ?_, hq2 _ _ _ ⟨_, ?_, X1, yMmr_s hF⟩⟩
    · show State.fitsSlot _ cA .none i _ = true
      simp [State.fitsSlot, State.slotType?, hv, hA, hAk]
      rfl
    · rw [← yMro_s]
      show _ = ((F.pushCell (yMri cI K)).setCell T.heap.size ((yMro cA N T.heap.size i).setSlot i (.ref (T.heap.size + 1 + i)))).setTop g
      rw [← hsz]
      rfl
  · rintro u d2 acts2 ⟨F, rfl, XF, hF⟩
    simp only [wp_pure']
    exact hq F d2 acts2 XF hF
theorem yMmk (X : Stand p l e R s m args below meth c T locs cells slots) (hexec : p.tables.exec = Jvm.exec) {own : String} {idx : Nat} (hown : s.vm.findClass own = some m.cls) (hL : (Cond.classLink own idx ("[" ++ (FieldType.array .int).toString)).before args s = true) (hO : (Cond.arrayOver (.array .int)).before args s = true) (hI : (Cond.arrayClass .int).before args s = true)
    {g : JFrame} (hg : g.method = m) (hd : decode c.code g.pc = .ok (.multianewarray idx 2, 4)) {x y : Int32} {rest : List Value} (hst : g.stack = .int y :: .int x :: rest) (hx : ¬ x < 0) (hN : x.toNatClampNeg = N) (hy : ¬ y < 0) (hK : y.toNatClampNeg = K) (bN : N ≤ 100000) (bK : K ≤ 100000) (hk1 : cells + (1 + N) ≤ R.cells) (hk2 : slots + (N + N * K) ≤ R.slots) {Q : State → Prop}
    (hq : ∀ (cA cI : ClassId) (F : State), ArrOfT s cA (.array .int) → s.vm.findClass ("[" ++ (FieldType.array .int).toString) = some cA → ArrOfT s cI .int → s.vm.findClass (FieldType.array .int).toString = some cI → Stand p l e R s m args below meth c F locs (cells + 1 + N) (slots + N + N * K) → F.heap.size = T.heap.size + 1 + N → (∀ a : Nat, a < T.heap.size → F.heap[a]? = T.heap[a]?) → F.heap[T.heap.size]? = some (yMro cA N T.heap.size N) → (∀ j : Nat, j < N → F.heap[T.heap.size + 1 + j]? = some (yMri cI K)) →
      ∃ t, Steps p.tables e below (F.setTop { g with pc := g.pc + 4, stack := .ref T.heap.size :: rest }) t ∧ Q t) : ∃ t, Steps p.tables e below (T.setTop g) t ∧ Q t := by
  subst hg
  obtain ⟨cI, cA, kA, fI, jA, jAk, fA⟩ := yMao hO
  obtain ⟨cI', kI, cc, fI', jI, jIk⟩ := Cond.arrayClass_spec hI
  obtain rfl : cI' = cI := Option.some.inj (fI'.symm.trans fI)
  have hpl : e.platform.magicAccessors = ({} : Platform).magicAccessors := by rw [X.admits.platform]
  obtain ⟨cA', fA', hcl⟩ := Cond.classLink_spec hown hL e.platform hpl
  obtain rfl : cA = cA' := Option.some.inj (fA.symm.trans fA')
  obtain ⟨g1, w1, -⟩ := State.classEntry (e := e) X.warmed hcl
  generalize T.vm.noted g.method.cls idx (.cls cA) = vm1 at g1 w1
  obtain ⟨kA1, jA1, eA⟩ := w1.alike.2.2 _ _ jA
  obtain ⟨kI1, jI1, eI⟩ := w1.alike.2.2 _ _ jI
  have X1 := X.noted w1
  refine yMin X.here hd ?_
  rw [hexec]
  simp only [wpRun, exec, multianewarray.sem, wp_bind', Jvm.W.resolveClassAt_links (State.method?_setTop g X.here.top) g1]
  refine (popN_top (s := T.setVm vm1) (f := g) (args := [.int x, .int y]) (rest := rest) X1.here.top hst).mpr ?_
  simp only [List.mapM_cons, List.mapM_nil, wp_bind', wp_pure']
  refine yMmk2 (g := { g with stack := rest }) X1 jA1 (by rw [eA]; exact jAk) jI1 (by rw [eI]; exact jIk) hx hN hy hK bN bK hk1 hk2 (fun F d' acts' XF hF => ?_)
  simp only [wp_bind', Jvm.W.mark, Jvm.W.pushRef, State.topJava?_setTop' _ XF.here.top, Option.some.injEq, exists_eq_left', State.setTop_setTop]
  intro acts
  rw [afterInstr_ok]
  obtain ⟨⟨f1, -⟩, f2, f3, f4⟩ := hF
  exact hq cA cI' F (fun _ _ => ⟨(fun q hq => by cases hq), kA, jA, cI', jAk⟩) fA (fun _ _ => ⟨(fun q hq => by cases hq), kI, jI, cc, jIk⟩) fI XF f1 f2 f3 f4
end ZMK
