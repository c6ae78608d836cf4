def zj (a : Int) : Int32 := Int32.ofInt a
def zk (a : Int) : Int64 := Int64.ofInt a
theorem z_irem (x y : Int32) : x - x / y * y = x % y := Int32.toInt_inj.mp ((rem_toInt x y).trans (Int32.toInt_mod x y).symm)
theorem z_lrem (x y : Int64) : x - x / y * y = x % y := by
  apply Int64.toInt_inj.mp
  have a := (x % y).toInt_lt
  have b := (x % y).le_toInt
  rw [Int64.toInt_mod] at a b ⊢
  rw [Int64.toInt_sub, Int64.toInt_mul, Int64.toInt_div, Int.bmod_mul_bmod, Int.sub_bmod_bmod, Int.mul_comm, ← Int.tmod_def]
  exact Int.bmod_eq_of_le (by omega) (by omega)
/-! the abstract heap: cells at fixed places; shapes, ints, longs, references -/
abbrev zHp : Type := (Nat × (Nat → Option (Nat ⊕ (FieldType × Nat)))) × (Nat → Nat → Int32) × (Nat → Nat → Int64) × (Nat → Nat → Option Nat)
def znx (h : zHp) : Nat := h.1.1
def zsh (h : zHp) (k : Nat) : Option (Nat ⊕ (FieldType × Nat)) := h.1.2 k
def zgi (h : zHp) (k j : Nat) : Int32 := h.2.1 k j
def zgl (h : zHp) (k j : Nat) : Int64 := h.2.2.1 k j
def zgr (h : zHp) (k j : Nat) : Option Nat := h.2.2.2 k j
def zpi (h : zHp) (k j : Nat) (x : Int32) : zHp := (h.1, fun a b => if a = k ∧ b = j then x else h.2.1 a b, h.2.2)
def zpl (h : zHp) (k j : Nat) (x : Int64) : zHp := (h.1, h.2.1, fun a b => if a = k ∧ b = j then x else h.2.2.1 a b, h.2.2.2)
def zpr (h : zHp) (k j : Nat) (x : Option Nat) : zHp := (h.1, h.2.1, h.2.2.1, fun a b => if a = k ∧ b = j then x else h.2.2.2 a b)
def zal (h : zHp) (c : Nat ⊕ (FieldType × Nat)) : zHp := ((h.1.1 + 1, fun k => if k = h.1.1 then some c else h.1.2 k), fun a b => if a = h.1.1 then 0 else h.2.1 a b, fun a b => if a = h.1.1 then 0 else h.2.2.1 a b, fun a b => if a = h.1.1 then none else h.2.2.2 a b)
def zcp (h : zHp) (src sp dst dp n : Nat) : zHp := (h.1, fun a b => if a = dst ∧ dp ≤ b ∧ b < dp + n then h.2.1 src (sp + (b - dp)) else h.2.1 a b, h.2.2)
def zvr (o : Option Nat) : Value := match o with | none => .null | some k => .ref k
abbrev zM : Type := MethodName × ByteArray × Nat × Option FieldType × Room
abbrev zCf : Type := List Value → List Value → zHp → Prop
def zws : List Cond := lw_tbl.filter goodWord
theorem zmem {i : Nat} {w : Cond} (h : lw_tbl[i]? = some w) (hg : goodWord w = true) : w ∈ zws := List.mem_filter.mpr ⟨List.mem_of_getElem? h, hg⟩
theorem zws_good {ws : List Cond} (h : ∀ w ∈ ws, w ∈ zws) : GoodIn zws ws := fun w hw => ⟨h w hw, good_of_word (List.mem_filter.mp (h w hw)).2⟩
def zisn (w : Cond) : Bool := match w with
  | .fieldLinkNest _ _ _ _ _ _ => true
  | .methodLinkNest _ _ _ _ => true
  | _ => false
def zwn : List Cond := tables_1.filter zisn
theorem zt1 {i : Nat} {w : Cond} (h : tables_1_1[i]? = some w) : w ∈ tables_1 := by
  show w ∈ tables_1_1 ++ (tables_1_2 ++ (tables_1_3 ++ (tables_1_4 ++ (tables_1_5 ++ (tables_1_6 ++ (tables_1_7 ++ tables_1_8))))))
  exact List.mem_append_left _ (List.mem_of_getElem? h)
theorem zt2 {i : Nat} {w : Cond} (h : tables_1_2[i]? = some w) : w ∈ tables_1 := by
  show w ∈ tables_1_1 ++ (tables_1_2 ++ (tables_1_3 ++ (tables_1_4 ++ (tables_1_5 ++ (tables_1_6 ++ (tables_1_7 ++ tables_1_8))))))
  exact List.mem_append_right _ (List.mem_append_left _ (List.mem_of_getElem? h))
theorem zt3 {i : Nat} {w : Cond} (h : tables_1_3[i]? = some w) : w ∈ tables_1 := by
  show w ∈ tables_1_1 ++ (tables_1_2 ++ (tables_1_3 ++ (tables_1_4 ++ (tables_1_5 ++ (tables_1_6 ++ (tables_1_7 ++ tables_1_8))))))
  exact List.mem_append_right _ (List.mem_append_right _ (List.mem_append_left _ (List.mem_of_getElem? h)))
theorem zt4 {i : Nat} {w : Cond} (h : tables_1_4[i]? = some w) : w ∈ tables_1 := by
  show w ∈ tables_1_1 ++ (tables_1_2 ++ (tables_1_3 ++ (tables_1_4 ++ (tables_1_5 ++ (tables_1_6 ++ (tables_1_7 ++ tables_1_8))))))
  exact List.mem_append_right _ (List.mem_append_right _ (List.mem_append_right _ (List.mem_append_left _ (List.mem_of_getElem? h))))
theorem zt5 {i : Nat} {w : Cond} (h : tables_1_5[i]? = some w) : w ∈ tables_1 := by
  show w ∈ tables_1_1 ++ (tables_1_2 ++ (tables_1_3 ++ (tables_1_4 ++ (tables_1_5 ++ (tables_1_6 ++ (tables_1_7 ++ tables_1_8))))))
  exact List.mem_append_right _ (List.mem_append_right _ (List.mem_append_right _ (List.mem_append_right _ (List.mem_append_left _ (List.mem_of_getElem? h)))))
theorem zt6 {i : Nat} {w : Cond} (h : tables_1_6[i]? = some w) : w ∈ tables_1 := by
  show w ∈ tables_1_1 ++ (tables_1_2 ++ (tables_1_3 ++ (tables_1_4 ++ (tables_1_5 ++ (tables_1_6 ++ (tables_1_7 ++ tables_1_8))))))
  exact List.mem_append_right _ (List.mem_append_right _ (List.mem_append_right _ (List.mem_append_right _ (List.mem_append_right _ (List.mem_append_left _ (List.mem_of_getElem? h))))))
theorem zt7 {i : Nat} {w : Cond} (h : tables_1_7[i]? = some w) : w ∈ tables_1 := by
  show w ∈ tables_1_1 ++ (tables_1_2 ++ (tables_1_3 ++ (tables_1_4 ++ (tables_1_5 ++ (tables_1_6 ++ (tables_1_7 ++ tables_1_8))))))
  exact List.mem_append_right _ (List.mem_append_right _ (List.mem_append_right _ (List.mem_append_right _ (List.mem_append_right _ (List.mem_append_right _ (List.mem_append_left _ (List.mem_of_getElem? h)))))))
theorem zt8 {i : Nat} {w : Cond} (h : tables_1_8[i]? = some w) : w ∈ tables_1 := by
  show w ∈ tables_1_1 ++ (tables_1_2 ++ (tables_1_3 ++ (tables_1_4 ++ (tables_1_5 ++ (tables_1_6 ++ (tables_1_7 ++ tables_1_8))))))
  exact List.mem_append_right _ (List.mem_append_right _ (List.mem_append_right _ (List.mem_append_right _ (List.mem_append_right _ (List.mem_append_right _ (List.mem_append_right _ (List.mem_of_getElem? h)))))))
theorem zmt {w : Cond} (h : w ∈ tables_1) (hg : goodWord w = true) : w ∈ zws := List.mem_filter.mpr ⟨List.mem_append_right _ h, hg⟩
theorem znt {w : Cond} (h : w ∈ tables_1) (hg : zisn w = true) : w ∈ zwn := List.mem_filter.mpr ⟨h, hg⟩
theorem zmp {i : Nat} {w : Cond} (h : (k2_sels lw_privs)[i]? = some w) (hg : goodWord w = true) : w ∈ zws := List.mem_filter.mpr ⟨List.mem_append_left _ (List.mem_of_getElem? h), hg⟩
def zwsM (M : zM) : List Cond := Cond.code M.1 M.2.1 M.2.2.1 M.2.2.2.1 :: zws
def zLe (ad ad' : Nat → Option Nat) : Prop := ∀ k a, ad k = some a → ad' k = some a
theorem zLe.rf {ad : Nat → Option Nat} : zLe ad ad := fun _ _ h => h
theorem zLe.tr {a b c : Nat → Option Nat} (h : zLe a b) (g : zLe b c) : zLe a c := fun k x e => g k x (h k x e)
def zxv (ad : Nat → Option Nat) (v w : Value) : Prop := match v with
  | .int x => w = .int x
  | .long x => w = .long x
  | .null => w = .null
  | .ref k => ∃ a, ad k = some a ∧ w = .ref a
  | _ => False
theorem zxv.mono {ad ad' : Nat → Option Nat} {v w : Value} (h : zLe ad ad') (hv : zxv ad v w) : zxv ad' v w := by
  cases v <;> first | exact hv | (obtain ⟨a, h1, h2⟩ := hv; exact ⟨a, h _ _ h1, h2⟩)
theorem zxv.cat {ad : Nat → Option Nat} {v w : Value} (hv : zxv ad v w) : w.category = v.category := by
  cases v <;> first | exact hv.elim | (cases hv; rfl) | (obtain ⟨a, h1, h2⟩ := hv; cases h2; rfl)
def zst (ad : Nat → Option Nat) : List Value → List Value → Prop
  | [], [] => True
  | v :: st, w :: ct => zxv ad v w ∧ zst ad st ct
  | _, _ => False
theorem zst.nil {ad : Nat → Option Nat} {ct : List Value} (h : zst ad [] ct) : ct = [] := by
  cases ct with
  | nil => rfl
  | cons w ct => exact h.elim
theorem zst.cons {ad : Nat → Option Nat} {v : Value} {st ct : List Value} (h : zst ad (v :: st) ct) : ∃ w c', ct = w :: c' ∧ zxv ad v w ∧ zst ad st c' := by
  cases ct with
  | nil => exact h.elim
  | cons w ct => exact ⟨w, ct, rfl, h.1, h.2⟩
theorem zst.i {ad : Nat → Option Nat} {x : Int32} {st ct : List Value} (h : zst ad (.int x :: st) ct) : ∃ c', ct = .int x :: c' ∧ zst ad st c' := by
  obtain ⟨w, c', rfl, h1, h2⟩ := h.cons
  cases h1
  exact ⟨c', rfl, h2⟩
theorem zst.l {ad : Nat → Option Nat} {x : Int64} {st ct : List Value} (h : zst ad (.long x :: st) ct) : ∃ c', ct = .long x :: c' ∧ zst ad st c' := by
  obtain ⟨w, c', rfl, h1, h2⟩ := h.cons
  cases h1
  exact ⟨c', rfl, h2⟩
theorem zst.n {ad : Nat → Option Nat} {st ct : List Value} (h : zst ad (.null :: st) ct) : ∃ c', ct = .null :: c' ∧ zst ad st c' := by
  obtain ⟨w, c', rfl, h1, h2⟩ := h.cons
  cases h1
  exact ⟨c', rfl, h2⟩
theorem zst.r {ad : Nat → Option Nat} {k : Nat} {st ct : List Value} (h : zst ad (.ref k :: st) ct) : ∃ a c', ad k = some a ∧ ct = .ref a :: c' ∧ zst ad st c' := by
  obtain ⟨w, c', rfl, ⟨a, h1, h3⟩, h2⟩ := h.cons
  cases h3
  exact ⟨a, c', h1, rfl, h2⟩
theorem zst.mono {ad ad' : Nat → Option Nat} (hl : zLe ad ad') : ∀ {st ct : List Value}, zst ad st ct → zst ad' st ct
  | [], [], _ => trivial
  | _ :: _, _ :: _, h => ⟨h.1.mono hl, zst.mono hl h.2⟩
  | [], _ :: _, h => h.elim
  | _ :: _, [], h => h.elim
theorem zst.len {ad : Nat → Option Nat} : ∀ {st ct : List Value}, zst ad st ct → ct.length = st.length
  | [], [], _ => rfl
  | _ :: _, _ :: _, h => congrArg (· + 1) (zst.len h.2)
  | [], _ :: _, h => h.elim
  | _ :: _, [], h => h.elim
theorem zst.cats {ad : Nat → Option Nat} : ∀ {st ct : List Value}, zst ad st ct → ct.map (fun v => v.category) = st.map (fun v => v.category)
  | [], [], _ => rfl
  | _ :: _, _ :: _, h => by rw [List.map_cons, List.map_cons, h.1.cat, zst.cats h.2]
  | [], _ :: _, h => h.elim
  | _ :: _, [], h => h.elim
theorem zst.app {ad : Nat → Option Nat} : ∀ {a b x y : List Value}, zst ad a x → zst ad b y → zst ad (a ++ b) (x ++ y)
  | [], _, [], _, _, h => h
  | _ :: _, _, _ :: _, _, h, g => ⟨h.1, zst.app h.2 g⟩
  | [], _, _ :: _, _, h, _ => h.elim
  | _ :: _, _, [], _, h, _ => h.elim
theorem zst.split {ad : Nat → Option Nat} : ∀ {a b ct : List Value}, zst ad (a ++ b) ct → ∃ x y, ct = x ++ y ∧ zst ad a x ∧ zst ad b y
  | [], _, ct, h => ⟨[], ct, rfl, trivial, h⟩
  | v :: a, b, ct, h => by
    obtain ⟨w, c', rfl, h1, h2⟩ := zst.cons (st := a ++ b) h
    obtain ⟨x, y, rfl, h3, h4⟩ := zst.split h2
    exact ⟨w :: x, y, rfl, ⟨h1, h3⟩, h4⟩
theorem zst.rev {ad : Nat → Option Nat} : ∀ {a x : List Value}, zst ad a x → zst ad a.reverse x.reverse
  | [], [], _ => trivial
  | v :: a, w :: x, h => by
    rw [List.reverse_cons, List.reverse_cons]
    exact zst.app (zst.rev h.2) ⟨h.1, trivial⟩
  | [], _ :: _, h => h.elim
  | _ :: _, [], h => h.elim
def znl (o : Option Value) : Prop := match o with | some (.long _) => False | _ => True
def zls (ad : Nat → Option Nat) (nL : Nat) (ls : List Value) (cls : Array Slot) : Prop := ls.length = nL ∧ ∃ lv : List (Nat × Value), lv_has cls nL lv ∧ ∀ (i : Nat) (v : Value), ls[i]? = some v → (∃ q, v = .retAddr q) ∨ ∃ w, zxv ad v w ∧ (i, w) ∈ lv
theorem zls.get {ad : Nat → Option Nat} {nL : Nat} {ls : List Value} {cls : Array Slot} (h : zls ad nL ls cls) {i : Nat} {v : Value} (hi : ls[i]? = some v) (hv : ∀ q, v ≠ .retAddr q) : ∃ w, zxv ad v w ∧ cls[i]? = some (.val w) := by
  obtain ⟨-, lv, h1, h2⟩ := h
  rcases h2 i v hi with ⟨q, e⟩ | ⟨w, g1, g2⟩
  · exact absurd e (hv q)
  · exact ⟨w, g1, h1.2.2 _ g2⟩
theorem zls.mono {ad ad' : Nat → Option Nat} (hl : zLe ad ad') {nL : Nat} {ls : List Value} {cls : Array Slot} (h : zls ad nL ls cls) : zls ad' nL ls cls := by
  obtain ⟨h0, lv, h1, h2⟩ := h
  refine ⟨h0, lv, h1, fun i v hi => ?_⟩
  rcases h2 i v hi with h | ⟨w, g1, g2⟩
  · exact Or.inl h
  · exact Or.inr ⟨w, g1.mono hl, g2⟩
theorem zxv.nl {ad : Nat → Option Nat} {v w : Value} (hv : zxv ad v w) (h : znl (some v)) : ¬ w.category = 2 := by
  rw [hv.cat]
  cases v <;> first | exact hv.elim | exact h.elim | simp [Value.category]
theorem zls_st1 {ad : Nat → Option Nat} {nL : Nat} {ls : List Value} {lv : List (Nat × Value)} {cls' : Array Slot} {i ip : Nat} {v w : Value} (hip : ip + 1 = i ∨ i = 0) (hlen : ls.length = nL) (hall : ∀ (j : Nat) (u : Value), ls[j]? = some u → (∃ q, u = .retAddr q) ∨ ∃ w, zxv ad u w ∧ (j, w) ∈ lv) (hnl : znl ls[ip]?) (hv : zxv ad v w)
    (h' : lv_has cls' nL ((i, w) :: lv.filter (fun q => !(q.1 == i) && !(q.1 + 1 == i && q.2.category == 2)))) : zls ad nL (ls.set i v) cls' := by
  refine ⟨by rw [List.length_set]; exact hlen, _, h', fun j u hj => ?_⟩
  by_cases e : i = j
  · subst e
    rw [List.getElem?_set] at hj
    simp only [if_true] at hj
    split at hj
    · cases hj
      exact Or.inr ⟨w, hv, List.mem_cons_self⟩
    · cases hj
  · rw [List.getElem?_set_ne e] at hj
    rcases hall j u hj with h | ⟨w', g1, g2⟩
    · exact Or.inl h
    · refine Or.inr ⟨w', g1, List.mem_cons_of_mem _ (List.mem_filter.mpr ⟨g2, ?_⟩)⟩
      have e1 : ¬ j = i := fun q => e q.symm
      by_cases e2 : j + 1 = i
      · have e3 : ip = j := by omega
        subst e3
        rw [hj] at hnl
        have := g1.nl hnl
        simp [e1, this]
      · simp [e1, e2]
theorem zls_st2 {ad : Nat → Option Nat} {nL : Nat} {ls : List Value} {lv : List (Nat × Value)} {cls' : Array Slot} {i ip : Nat} {v w : Value} (hip : ip + 1 = i ∨ i = 0) (hlen : ls.length = nL) (hall : ∀ (j : Nat) (u : Value), ls[j]? = some u → (∃ q, u = .retAddr q) ∨ ∃ w, zxv ad u w ∧ (j, w) ∈ lv) (hnl : znl ls[ip]?) (hv : zxv ad v w)
    (h' : lv_has cls' nL ((i, w) :: lv.filter (fun q => !(q.1 == i) && (!(q.1 == i + 1) && !(q.1 + 1 == i && q.2.category == 2))))) : zls ad nL ((ls.set i v).set (i + 1) (.retAddr 0)) cls' := by
  refine ⟨by rw [List.length_set, List.length_set]; exact hlen, _, h', fun j u hj => ?_⟩
  by_cases e0 : i + 1 = j
  · subst e0
    rw [List.getElem?_set] at hj
    simp only [if_true] at hj
    split at hj
    · cases hj
      exact Or.inl ⟨0, rfl⟩
    · cases hj
  rw [List.getElem?_set_ne e0] at hj
  by_cases e : i = j
  · subst e
    rw [List.getElem?_set] at hj
    simp only [if_true] at hj
    split at hj
    · cases hj
      exact Or.inr ⟨w, hv, List.mem_cons_self⟩
    · cases hj
  · rw [List.getElem?_set_ne e] at hj
    rcases hall j u hj with h | ⟨w', g1, g2⟩
    · exact Or.inl h
    · refine Or.inr ⟨w', g1, List.mem_cons_of_mem _ (List.mem_filter.mpr ⟨g2, ?_⟩)⟩
      have e1 : ¬ j = i := fun q => e q.symm
      have e4 : ¬ j = i + 1 := fun q => e0 q.symm
      by_cases e2 : j + 1 = i
      · have e3 : ip = j := by omega
        subst e3
        rw [hj] at hnl
        have := g1.nl hnl
        simp [e1, e4, this]
      · simp [e1, e2, e4]
/-! cells -/
def zft (ci : Nat) : List FieldType := match ci with
  | 0 => (List.range 5).map tyX0
  | 1 => (List.range 16).map tyX1
  | 2 => (List.range 5).map tyX2
  | 3 => (List.range 2).map tyX3
  | 4 => (List.range 2).map tyX4
  | 5 => (List.range 4).map tyX5
  | 6 => (List.range 8).map tyX6
  | 7 => (List.range 6).map tyX7
  | 8 => (List.range 21).map tyX8
  | 9 => (List.range 27).map tyX9
  | _ => []
def zrv (ad : Nat → Option Nat) (o : Option Nat) (w : Value) : Prop := match o with
  | none => w = .null
  | some q => ∃ a, ad q = some a ∧ w = .ref a
def zro (ad : Nat → Option Nat) (o b : Option Nat) : Prop := match o with
  | none => b = none
  | some q => ∃ a, ad q = some a ∧ b = some a
theorem zrv.mono {ad ad' : Nat → Option Nat} (hl : zLe ad ad') {o : Option Nat} {w : Value} (h : zrv ad o w) : zrv ad' o w := by
  cases o with
  | none => exact h
  | some q => obtain ⟨a, h1, h2⟩ := h; exact ⟨a, hl _ _ h1, h2⟩
theorem zro.mono {ad ad' : Nat → Option Nat} (hl : zLe ad ad') {o b : Option Nat} (h : zro ad o b) : zro ad' o b := by
  cases o with
  | none => exact h
  | some q => obtain ⟨a, h1, h2⟩ := h; exact ⟨a, hl _ _ h1, h2⟩
theorem zrv.xv {ad : Nat → Option Nat} {o : Option Nat} {w : Value} (h : zrv ad o w) : zxv ad (zvr o) w := by
  cases o with
  | none => exact h
  | some q => exact h
theorem zro.xv {ad : Nat → Option Nat} {o b : Option Nat} (h : zro ad o b) : zxv ad (zvr o) (va_rf b) := by
  cases o with
  | none => cases h; rfl
  | some q => obtain ⟨a, h1, rfl⟩ := h; exact ⟨a, h1, rfl⟩
def zfv (ad : Nat → Option Nat) (h : zHp) (k j : Nat) (ty : FieldType) (w : Value) : Prop := match ty with
  | .int => w = .int (zgi h k j)
  | .boolean => w = .int (zgi h k j)
  | .long => w = .long (zgl h k j)
  | .object _ => zrv ad (zgr h k j) w
  | .array _ => zrv ad (zgr h k j) w
  | _ => False
def zarr (ad : Nat → Option Nat) (h : zHp) (k n : Nat) (ty : FieldType) (x : (Nat → Int32) ⊕ (Nat → Int64) ⊕ (Nat → UInt32) ⊕ (Nat → UInt64) ⊕ (Nat → Option Nat)) : Prop := match ty with
  | .int => ∃ f, x = .inl f ∧ ∀ j, j < n → f j = zgi h k j
  | .byte => ∃ f, x = .inl f ∧ ∀ j, j < n → f j = zgi h k j
  | .boolean => ∃ f, x = .inl f ∧ ∀ j, j < n → f j = zgi h k j
  | .long => ∃ f, x = .inr (.inl f) ∧ ∀ j, j < n → f j = zgl h k j
  | .array _ => ∃ f, x = .inr (.inr (.inr (.inr f))) ∧ ∀ j, j < n → zro ad (zgr h k j) (f j)
  | _ => False
def zcell (ad : Nat → Option Nat) (tys : List (ClassId × FieldType)) (h : zHp) (k : Nat) (c : Nat ⊕ (FieldType × Nat)) (e : va_E) : Prop := match c with
  | .inl ci => ∃ fs : List Value, e = .inr (ci, fs) ∧ fs.length = (zft ci).length ∧ ∀ (j : Nat) (ty : FieldType), (zft ci)[j]? = some ty → ∃ w, fs[j]? = some w ∧ zfv ad h k j ty w
  | .inr q => ∃ (cA : ClassId) (t0 : Nat) (x : (Nat → Int32) ⊕ (Nat → Int64) ⊕ (Nat → UInt32) ⊕ (Nat → UInt64) ⊕ (Nat → Option Nat)), tys[t0]? = some (cA, q.1) ∧ e = .inl (cA, q.2, x) ∧ zarr ad h k q.2 q.1 x
def zH (ad : Nat → Option Nat) (tys : List (ClassId × FieldType)) (h : zHp) (ws : va_W) : Prop :=
  (∀ k k' a, ad k = some a → ad k' = some a → k = k') ∧ (∀ k, znx h ≤ k → ad k = none) ∧ ∀ k c, zsh h k = some c → ∃ (a q : Nat) (e : va_E), ad k = some a ∧ ws[q]? = some (a, e) ∧ zcell ad tys h k c e

theorem zfv.same {ad ad' : Nat → Option Nat} (hl : zLe ad ad') {h h' : zHp} {k j : Nat} {ty : FieldType} {w : Value} (hi : zgi h' k j = zgi h k j) (hll : zgl h' k j = zgl h k j) (hr : zgr h' k j = zgr h k j) (hv : zfv ad h k j ty w) : zfv ad' h' k j ty w := by
  unfold zfv at hv ⊢
  cases ty <;> simp only [] at hv ⊢ <;> first | exact hv.elim | (rw [hi]; exact hv) | (rw [hll]; exact hv) | (rw [hr]; exact hv.mono hl)
theorem zarr.same {ad ad' : Nat → Option Nat} (hl : zLe ad ad') {h h' : zHp} {k n : Nat} {ty : FieldType} {x : (Nat → Int32) ⊕ (Nat → Int64) ⊕ (Nat → UInt32) ⊕ (Nat → UInt64) ⊕ (Nat → Option Nat)} (hi : ∀ j, zgi h' k j = zgi h k j) (hll : ∀ j, zgl h' k j = zgl h k j) (hr : ∀ j, zgr h' k j = zgr h k j) (hv : zarr ad h k n ty x) : zarr ad' h' k n ty x := by
  unfold zarr at hv ⊢
  cases ty <;> simp only [] at hv ⊢ <;> first | exact hv.elim | (obtain ⟨f, h1, h2⟩ := hv; exact ⟨f, h1, fun j hj => by rw [hi]; exact h2 j hj⟩) | (obtain ⟨f, h1, h2⟩ := hv; exact ⟨f, h1, fun j hj => by rw [hll]; exact h2 j hj⟩) | (obtain ⟨f, h1, h2⟩ := hv; exact ⟨f, h1, fun j hj => by rw [hr]; exact (h2 j hj).mono hl⟩)
theorem zcell.same {ad ad' : Nat → Option Nat} (hl : zLe ad ad') {tys tys' : List (ClassId × FieldType)} (ht : ∀ (t : Nat) (q : ClassId × FieldType), tys[t]? = some q → ∃ t' : Nat, tys'[t']? = some q) {h h' : zHp} {k : Nat} {c : Nat ⊕ (FieldType × Nat)} {e : va_E} (hi : ∀ j, zgi h' k j = zgi h k j) (hll : ∀ j, zgl h' k j = zgl h k j) (hr : ∀ j, zgr h' k j = zgr h k j) (hc : zcell ad tys h k c e) : zcell ad' tys' h' k c e := by
  cases c with
  | inl ci =>
    obtain ⟨fs, h1, h2, h3⟩ := hc
    refine ⟨fs, h1, h2, fun j ty hj => ?_⟩
    obtain ⟨w, g1, g2⟩ := h3 j ty hj
    exact ⟨w, g1, g2.same hl (hi j) (hll j) (hr j)⟩
  | inr q =>
    obtain ⟨cA, t0, x, h1, h2, h3⟩ := hc
    obtain ⟨t', h1'⟩ := ht _ _ h1
    exact ⟨cA, t', x, h1', h2, h3.same hl hi hll hr⟩
/-- one cell is written anew -/
theorem zH.set {ad : Nat → Option Nat} {tys : List (ClassId × FieldType)} {h h' : zHp} {ws : va_W} (hH : zH ad tys h ws) {k a q : Nat} {e0 e : va_E} {c : Nat ⊕ (FieldType × Nat)} (hs : h'.1 = h.1) (hk : zsh h k = some c) (hak : ad k = some a) (hq : ws[q]? = some (a, e0))
    (hi : ∀ k', k' ≠ k → ∀ j, zgi h' k' j = zgi h k' j) (hl : ∀ k', k' ≠ k → ∀ j, zgl h' k' j = zgl h k' j) (hr : ∀ k', k' ≠ k → ∀ j, zgr h' k' j = zgr h k' j) (he : zcell ad tys h' k c e) : zH ad tys h' (ws.set q (a, e)) := by
  obtain ⟨h1, h2, h3⟩ := hH
  have hlt : q < ws.length := (List.getElem?_eq_some_iff.mp hq).1
  refine ⟨h1, fun k' hk' => h2 k' (by unfold znx at hk' ⊢; rw [hs] at hk'; exact hk'), fun k' c' hc' => ?_⟩
  have hc' : zsh h k' = some c' := by unfold zsh at hc' ⊢; rw [hs] at hc'; exact hc'
  by_cases hkk : k' = k
  · subst hkk
    cases hk.symm.trans hc'
    exact ⟨a, q, e, hak, List.getElem?_set_self hlt, he⟩
  · obtain ⟨a', q', e', g1, g2, g3⟩ := h3 k' c' hc'
    have hqq : q ≠ q' := fun z => by
      subst z
      have := hq.symm.trans g2
      cases this
      exact hkk (h1 _ _ _ g1 hak)
    exact ⟨a', q', e', g1, by rw [List.getElem?_set_ne hqq]; exact g2, g3.same zLe.rf (fun t x ht => ⟨t, ht⟩) (hi k' hkk) (hl k' hkk) (hr k' hkk)⟩
/-- a new cell -/
theorem zH.push {ad : Nat → Option Nat} {tys tys' : List (ClassId × FieldType)} {h : zHp} {ws : va_W} (hH : zH ad tys h ws) (ht : ∀ (t : Nat) (q : ClassId × FieldType), tys[t]? = some q → ∃ t' : Nat, tys'[t']? = some q) {a : Nat} {e : va_E} {c : Nat ⊕ (FieldType × Nat)} (hfr : ∀ k b, ad k = some b → b ≠ a)
    (he : ∀ ad' : Nat → Option Nat, zcell ad' tys' (zal h c) (znx h) c e) : zH (fun k => if k = znx h then some a else ad k) tys' (zal h c) (ws ++ [(a, e)]) ∧ zLe ad (fun k => if k = znx h then some a else ad k) := by
  obtain ⟨h1, h2, h3⟩ := hH
  have hn : ad (znx h) = none := h2 _ (Nat.le_refl _)
  have hle : zLe ad (fun k => if k = znx h then some a else ad k) := fun k b hb => by
    by_cases e : k = znx h
    · subst e; rw [hn] at hb; cases hb
    · simp only [if_neg e]; exact hb
  refine ⟨⟨fun k k' b hk hk' => ?_, fun k hk => ?_, fun k c' hc' => ?_⟩, hle⟩
  · by_cases e1 : k = znx h <;> by_cases e2 : k' = znx h
    · rw [e1, e2]
    · simp only [if_pos e1] at hk
      simp only [if_neg e2] at hk'
      cases hk
      exact absurd rfl (hfr _ _ hk')
    · simp only [if_neg e1] at hk
      simp only [if_pos e2] at hk'
      cases hk'
      exact absurd rfl (hfr _ _ hk)
    · simp only [if_neg e1] at hk
      simp only [if_neg e2] at hk'
      exact h1 _ _ _ hk hk'
  · have hk : znx h + 1 ≤ k := hk
    have e : ¬ k = znx h := by omega
    simp only [if_neg e]
    exact h2 k (by omega)
  · by_cases e1 : k = znx h
    · subst e1
      have hc2 : zsh (zal h c) (znx h) = some c := if_pos rfl
      cases hc2.symm.trans hc'
      exact ⟨a, ws.length, e, if_pos rfl, by simp, he _⟩
    · have hc2 : zsh (zal h c) k = zsh h k := if_neg e1
      obtain ⟨a', q', e', g1, g2, g3⟩ := h3 k c' (hc2.symm.trans hc')
      have hlt : q' < ws.length := (List.getElem?_eq_some_iff.mp g2).1
      exact ⟨a', q', e', hle _ _ g1, by rw [List.getElem?_append_left hlt]; exact g2, g3.same hle ht (fun j => if_neg e1) (fun j => if_neg e1) (fun j => if_neg e1)⟩

def zstr : List (String × Nat) := [("tube", 130), ("rolls", 204), ("bit", 132), ("want", 134), ("after", 136), ("met", 138), ("holiday", 140), ("person", 142), ("light", 217), ("plain", 219), ("heavy", 221), ("glued", 223), ("at", 228), ("in", 275)]
def zslen : List Nat := [4, 5, 3, 4, 5, 3, 7, 6, 5, 5, 5, 5, 2, 2]
def zsbyt : List (List Int32) := [[116, 117, 98, 101], [114, 111, 108, 108, 115], [98, 105, 116], [119, 97, 110, 116], [97, 102, 116, 101, 114], [109, 101, 116], [104, 111, 108, 105, 100, 97, 121], [112, 101, 114, 115, 111, 110], [108, 105, 103, 104, 116], [112, 108, 97, 105, 110], [104, 101, 97, 118, 121], [103, 108, 117, 101, 100], [97, 116], [105, 110]]
/-- what stands beside the world and never changes: the String constants (places 0 to 13), the law's script (place 14) -/
def zE (X : Nat × (Nat → Int32)) (s : State) (A : Nat → Prop) (ad : Nat → Option Nat) : Prop :=
  (∀ w ∈ zwn, va_Nw w s) ∧ (∃ adK adV : Nat → Nat, vk_S 14 zslen zsbyt adK adV A s s.heap ∧ ∀ (i : Nat) (q : String × Nat), zstr[i]? = some q → vk_R "MirrorTubeModel" q.2 q.1 (adK i) s ∧ ad i = some (adK i)) ∧ (va_Z "java/lang/String" "COMPACT_STRINGS" "Z" (.int 1) A s s.heap ∧ va_Zq "jdk/internal/util/Preconditions" "SIOOBE_FORMATTER" "Ljava/util/function/BiFunction;" A s s.heap ∧ vx_Zq Bundle.tN "UNASSIGNED_STACK" Bundle.steD A s s.heap ∧ vx_Zq Bundle.tN "SUPPRESSED_SENTINEL" Bundle.listD A s s.heap) ∧
  ∃ b : Nat, va_X b X.1 X.2 s s.heap ∧ b < s.heap.size ∧ ¬ A b ∧ ad 14 = some b
def zC (M : zM) (l : Launch) (p : Program) (s : State) (m : MethodId) (args : Array Value) (meth : Method) (c : Code) (A : Nat → Prop) : Prop :=
  p.tables.exec = Jvm.exec ∧ c.code = M.2.1 ∧ meth.sig.returnType = M.2.2.2.1 ∧ c.maxLocals = M.2.2.1 ∧ s.vm.findClass M.1.cls = some m.cls ∧ (∀ w ∈ zws, w.before args s = true) ∧ meth.locks = false ∧ (∀ q, s.heap.size ≤ q → A q) ∧ meth.name = M.1.name ∧ l.stackTraces = false
def zF (A : Nat → Prop) (ad0 ad : Nat → Option Nat) (ws : va_W) : Prop := ∀ k b, ad k = some b → (ad0 k = some b ∨ A b) ∧ (A b → ∃ (q : Nat) (e : va_E), ws[q]? = some (b, e))
theorem zF.set {A : Nat → Prop} {ad0 ad : Nat → Option Nat} {ws : va_W} (h : zF A ad0 ad ws) {q a : Nat} {e0 e : va_E} (hq : ws[q]? = some (a, e0)) : zF A ad0 ad (ws.set q (a, e)) := by
  intro k b hb
  refine ⟨(h k b hb).1, fun hA => ?_⟩
  obtain ⟨q', e', h'⟩ := (h k b hb).2 hA
  have hlt : q < ws.length := (List.getElem?_eq_some_iff.mp hq).1
  by_cases hqq : q = q'
  · subst hqq
    cases hq.symm.trans h'
    exact ⟨q, e, List.getElem?_set_self hlt⟩
  · exact ⟨q', e', by rw [List.getElem?_set_ne hqq]; exact h'⟩
def zB (X : Nat × (Nat → Int32)) (M : zM) (h : zHp) (l : Launch) (p : Program) (s : State) (m : MethodId) (args : Array Value) (meth : Method) (c : Code) (A : Nat → Prop) (D : va_G) (ad0 ad : Nat → Option Nat) (tys : List (ClassId × FieldType)) (ws : va_W) (H : Heap) (locs : List Loc) : Prop :=
  zC M l p s m args meth c A ∧ zE X s A ad0 ∧ zLe ad0 ad ∧ va_K D vwCl tys s ∧ va_P D vwCl ws H ∧ va_D A ws ∧ va_S A s.heap H locs ∧ zH ad tys h ws ∧ zF A ad0 ad ws
abbrev zQt : Type := List Frame → Array Value → State → (Nat → Prop) → va_G → (Nat → Option Nat) → State → Prop
def zV (X : Nat × (Nat → Int32)) (M : zM) (Q : zQt) (k n pc : Nat) (ls st : List Value) (h : zHp) : Prop :=
  ∀ (p : Program) (l : Launch) (e : Env) (s : State) (m : MethodId) (args : Array Value) (below : List Frame) (meth : Method) (c : Code) (A : Nat → Prop) (D : va_G) (ad0 ad : Nat → Option Nat) (tys : List (ClassId × FieldType)) (ws : va_W) (H : Heap) (locs : List Loc) (cls : Array Slot) (cst : List Value),
    zB X M h l p s m args meth c A D ad0 ad tys ws H locs → zls ad M.2.2.1 ls cls → zst ad st cst → W p l e M.2.2.2.2 s m args below meth c H locs k n (Q below args s A D ad0) (F0 m pc cls cst)
abbrev zRt : Type := Option Value → zHp → Prop
def zov (ad : Nat → Option Nat) (rv v : Option Value) : Prop := match rv with
  | none => v = none
  | some x => ∃ w, v = some w ∧ zxv ad x w
def zQ (R : zRt) (A : Nat → Prop) (D : va_G) (ad0 : Nat → Option Nat) : Array Value → State → Outcome → State → Prop := fun _ st oc t =>
  (∃ (rv v : Option Value) (h : zHp) (ad : Nat → Option Nat) (tys : List (ClassId × FieldType)) (ws : va_W), R rv h ∧ zLe ad0 ad ∧ va_K D vwCl tys t ∧ va_P D vwCl ws t.heap ∧ va_D A ws ∧ zH ad tys h ws ∧ zF A ad0 ad ws ∧ oc = .returned v ∧ zov ad rv v) ∧ va_F A st t
def zQm (M : zM) (R : zRt) : zQt := fun below args s A D ad0 => MQ below (zQ R A D ad0) args s M.2.2.2.2.cells M.2.2.2.2.slots A
section ZR
variable {X : Nat × (Nat → Int32)} {M : zM} {Q : zQt} {k n pc : Nat} {K : zCf}

def oPI (x : Int32) (K : zCf) : zCf := fun ls st h => K ls (.int x :: st) h
def oPL (x : Int64) (K : zCf) : zCf := fun ls st h => K ls (.long x :: st) h
theorem sd_iconst {v : Int} {x : Int32} (hd : decode M.2.1 pc = .ok (.iconst v, 1)) (hv : Int32.ofInt v = x) (hK : ∀ ls st h, K ls st h → zV X M Q k n (pc + 1) ls st h) : ∀ ls st h, oPI x K ls st h → zV X M Q k n pc ls st h := by
  intro ls st h hk p l e s m args below meth c A D ad0 ad tys ws H locs cls cst hB hls hst
  exact lv_iconst hB.1.1 hB.1.2.1 hd hv (hK _ _ _ hk p l e s m args below meth c A D ad0 ad tys ws H locs cls _ hB hls ⟨rfl, hst⟩)
theorem sd_bipush {v : Int} {x : Int32} (hd : decode M.2.1 pc = .ok (.bipush v, 2)) (hv : (Int8.ofInt v).toInt32 = x) (hK : ∀ ls st h, K ls st h → zV X M Q k n (pc + 2) ls st h) : ∀ ls st h, oPI x K ls st h → zV X M Q k n pc ls st h := by
  intro ls st h hk p l e s m args below meth c A D ad0 ad tys ws H locs cls cst hB hls hst
  exact lv_bipush hB.1.1 hB.1.2.1 hd hv (hK _ _ _ hk p l e s m args below meth c A D ad0 ad tys ws H locs cls _ hB hls ⟨rfl, hst⟩)
theorem sd_sipush {v : Int} {x : Int32} (hd : decode M.2.1 pc = .ok (.sipush v, 3)) (hv : (Int16.ofInt v).toInt32 = x) (hK : ∀ ls st h, K ls st h → zV X M Q k n (pc + 3) ls st h) : ∀ ls st h, oPI x K ls st h → zV X M Q k n pc ls st h := by
  intro ls st h hk p l e s m args below meth c A D ad0 ad tys ws H locs cls cst hB hls hst
  exact lv_sipush hB.1.1 hB.1.2.1 hd hv (hK _ _ _ hk p l e s m args below meth c A D ad0 ad tys ws H locs cls _ hB hls ⟨rfl, hst⟩)
theorem sd_ldc {i : Nat} {x : Int32} (hd : decode M.2.1 pc = .ok (.ldc i, 2)) (hw : Cond.constant M.1.cls i x ∈ zws) (hK : ∀ ls st h, K ls st h → zV X M Q k n (pc + 2) ls st h) : ∀ ls st h, oPI x K ls st h → zV X M Q k n pc ls st h := by
  intro ls st h hk p l e s m args below meth c A D ad0 ad tys ws H locs cls cst hB hls hst
  exact lv_ldc hB.1.1 hB.1.2.1 hB.1.2.2.2.2.1 (hB.1.2.2.2.2.2.1 _ hw) hd (hK _ _ _ hk p l e s m args below meth c A D ad0 ad tys ws H locs cls _ hB hls ⟨rfl, hst⟩)
theorem sd_ldc_w {i : Nat} {x : Int32} (hd : decode M.2.1 pc = .ok (.ldc_w i, 3)) (hw : Cond.constant M.1.cls i x ∈ zws) (hK : ∀ ls st h, K ls st h → zV X M Q k n (pc + 3) ls st h) : ∀ ls st h, oPI x K ls st h → zV X M Q k n pc ls st h := by
  intro ls st h hk p l e s m args below meth c A D ad0 ad tys ws H locs cls cst hB hls hst
  exact lv_ldcw hB.1.1 hB.1.2.1 hB.1.2.2.2.2.1 (hB.1.2.2.2.2.2.1 _ hw) hd (hK _ _ _ hk p l e s m args below meth c A D ad0 ad tys ws H locs cls _ hB hls ⟨rfl, hst⟩)
theorem sd_lconst {v : Fin 2} {x : Int64} (hd : decode M.2.1 pc = .ok (.lconst v, 1)) (hv : Int64.ofNat (v : Nat) = x) (hK : ∀ ls st h, K ls st h → zV X M Q k n (pc + 1) ls st h) : ∀ ls st h, oPL x K ls st h → zV X M Q k n pc ls st h := by
  intro ls st h hk p l e s m args below meth c A D ad0 ad tys ws H locs cls cst hB hls hst
  exact lv_lconst hB.1.1 hB.1.2.1 hd hv (hK _ _ _ hk p l e s m args below meth c A D ad0 ad tys ws H locs cls _ hB hls ⟨rfl, hst⟩)
theorem sd_ldc2 {i : Nat} {x : Int64} (hd : decode M.2.1 pc = .ok (.ldc2_w i, 3)) (hw : Cond.constantLong M.1.cls i x ∈ zws) (hK : ∀ ls st h, K ls st h → zV X M Q k n (pc + 3) ls st h) : ∀ ls st h, oPL x K ls st h → zV X M Q k n pc ls st h := by
  intro ls st h hk p l e s m args below meth c A D ad0 ad tys ws H locs cls cst hB hls hst
  exact lv_ldc2 hB.1.1 hB.1.2.1 hB.1.2.2.2.2.1 (hB.1.2.2.2.2.2.1 _ hw) hd (hK _ _ _ hk p l e s m args below meth c A D ad0 ad tys ws H locs cls _ hB hls ⟨rfl, hst⟩)
def oILOAD (i : Nat) (K : zCf) : zCf := fun ls st h => match ls[i]? with
  | some (.int x) => K ls (.int x :: st) h
  | _ => False
def oLLOAD (i : Nat) (K : zCf) : zCf := fun ls st h => match ls[i]? with
  | some (.long x) => K ls (.long x :: st) h
  | _ => False
def oALOAD (i : Nat) (K : zCf) : zCf := fun ls st h => match ls[i]? with
  | some (.ref x) => K ls (.ref x :: st) h
  | _ => False
theorem sd_iload_n {kf : Fin 4} {i : Nat} (hd : decode M.2.1 pc = .ok (.iload_n kf, 1)) (hi : (kf : Nat) = i) (hK : ∀ ls st h, K ls st h → zV X M Q k n (pc + 1) ls st h) : ∀ ls st h, oILOAD i K ls st h → zV X M Q k n pc ls st h := by
  intro ls st h hk p l e s m args below meth c A D ad0 ad tys ws H locs cls cst hB hls hst
  unfold oILOAD at hk
  split at hk
  · rename_i x hx
    obtain ⟨w, h1, h2⟩ := hls.get hx (fun q => by simp)
    cases h1
    exact lv_iload_n hB.1.1 hB.1.2.1 hd hi h2 (hK _ _ _ hk p l e s m args below meth c A D ad0 ad tys ws H locs cls _ hB hls ⟨rfl, hst⟩)
  · exact hk.elim
theorem sd_iload {i : Nat} (hd : decode M.2.1 pc = .ok (.iload i, 2)) (hK : ∀ ls st h, K ls st h → zV X M Q k n (pc + 2) ls st h) : ∀ ls st h, oILOAD i K ls st h → zV X M Q k n pc ls st h := by
  intro ls st h hk p l e s m args below meth c A D ad0 ad tys ws H locs cls cst hB hls hst
  unfold oILOAD at hk
  split at hk
  · rename_i x hx
    obtain ⟨w, h1, h2⟩ := hls.get hx (fun q => by simp)
    cases h1
    exact lv_iload hB.1.1 hB.1.2.1 hd h2 (hK _ _ _ hk p l e s m args below meth c A D ad0 ad tys ws H locs cls _ hB hls ⟨rfl, hst⟩)
  · exact hk.elim
theorem sd_lload_n {kf : Fin 4} {i : Nat} (hd : decode M.2.1 pc = .ok (.lload_n kf, 1)) (hi : (kf : Nat) = i) (hK : ∀ ls st h, K ls st h → zV X M Q k n (pc + 1) ls st h) : ∀ ls st h, oLLOAD i K ls st h → zV X M Q k n pc ls st h := by
  intro ls st h hk p l e s m args below meth c A D ad0 ad tys ws H locs cls cst hB hls hst
  unfold oLLOAD at hk
  split at hk
  · rename_i x hx
    obtain ⟨w, h1, h2⟩ := hls.get hx (fun q => by simp)
    cases h1
    exact lv_lload_n hB.1.1 hB.1.2.1 hd hi h2 (hK _ _ _ hk p l e s m args below meth c A D ad0 ad tys ws H locs cls _ hB hls ⟨rfl, hst⟩)
  · exact hk.elim
theorem sd_lload {i : Nat} (hd : decode M.2.1 pc = .ok (.lload i, 2)) (hK : ∀ ls st h, K ls st h → zV X M Q k n (pc + 2) ls st h) : ∀ ls st h, oLLOAD i K ls st h → zV X M Q k n pc ls st h := by
  intro ls st h hk p l e s m args below meth c A D ad0 ad tys ws H locs cls cst hB hls hst
  unfold oLLOAD at hk
  split at hk
  · rename_i x hx
    obtain ⟨w, h1, h2⟩ := hls.get hx (fun q => by simp)
    cases h1
    exact lv_lload hB.1.1 hB.1.2.1 hd h2 (hK _ _ _ hk p l e s m args below meth c A D ad0 ad tys ws H locs cls _ hB hls ⟨rfl, hst⟩)
  · exact hk.elim
theorem sd_aload_n {kf : Fin 4} {i : Nat} (hd : decode M.2.1 pc = .ok (.aload_n kf, 1)) (hi : (kf : Nat) = i) (hK : ∀ ls st h, K ls st h → zV X M Q k n (pc + 1) ls st h) : ∀ ls st h, oALOAD i K ls st h → zV X M Q k n pc ls st h := by
  intro ls st h hk p l e s m args below meth c A D ad0 ad tys ws H locs cls cst hB hls hst
  unfold oALOAD at hk
  split at hk
  · rename_i x hx
    obtain ⟨w, h1, h2⟩ := hls.get hx (fun q => by simp)
    obtain ⟨a, h3, h4⟩ := id h1
    subst h4
    exact lv_aload_n hB.1.1 hB.1.2.1 hd hi h2 (hK _ _ _ hk p l e s m args below meth c A D ad0 ad tys ws H locs cls _ hB hls ⟨h1, hst⟩)
  · exact hk.elim
theorem sd_aload {i : Nat} (hd : decode M.2.1 pc = .ok (.aload i, 2)) (hK : ∀ ls st h, K ls st h → zV X M Q k n (pc + 2) ls st h) : ∀ ls st h, oALOAD i K ls st h → zV X M Q k n pc ls st h := by
  intro ls st h hk p l e s m args below meth c A D ad0 ad tys ws H locs cls cst hB hls hst
  unfold oALOAD at hk
  split at hk
  · rename_i x hx
    obtain ⟨w, h1, h2⟩ := hls.get hx (fun q => by simp)
    obtain ⟨a, h3, h4⟩ := id h1
    subst h4
    exact lv_aload hB.1.1 hB.1.2.1 hd h2 (hK _ _ _ hk p l e s m args below meth c A D ad0 ad tys ws H locs cls _ hB hls ⟨h1, hst⟩)
  · exact hk.elim
def oISTORE (ip i : Nat) (K : zCf) : zCf := fun ls st h => match st with
  | .int x :: t => znl ls[ip]? ∧ K (ls.set i (.int x)) t h
  | _ => False
def oASTORE (ip i : Nat) (K : zCf) : zCf := fun ls st h => match st with
  | .ref x :: t => znl ls[ip]? ∧ K (ls.set i (.ref x)) t h
  | _ => False
def oLSTORE (ip i : Nat) (K : zCf) : zCf := fun ls st h => match st with
  | .long x :: t => znl ls[ip]? ∧ K ((ls.set i (.long x)).set (i + 1) (.retAddr 0)) t h
  | _ => False
theorem sd_istore_n {kf : Fin 4} {i ip : Nat} (hd : decode M.2.1 pc = .ok (.istore_n kf, 1)) (hi : (kf : Nat) = i) (hn : i < M.2.2.1) (hip : ip + 1 = i ∨ i = 0) (hK : ∀ ls st h, K ls st h → zV X M Q k n (pc + 1) ls st h) : ∀ ls st h, oISTORE ip i K ls st h → zV X M Q k n pc ls st h := by
  intro ls st h hk p l e s m args below meth c A D ad0 ad tys ws H locs cls cst hB hls hst
  unfold oISTORE at hk
  split at hk
  · obtain ⟨hz, hk⟩ := hk
    obtain ⟨c', rfl, h2⟩ := hst.i
    obtain ⟨hlen, lv, hlv, hall⟩ := id hls
    exact lv_istore_n hB.1.1 hB.1.2.1 hd hi hlv hn rfl (fun cls' h' => hK _ _ _ hk p l e s m args below meth c A D ad0 ad tys ws H locs cls' _ hB (zls_st1 hip hlen hall hz rfl h') h2)
  · exact hk.elim
theorem sd_istore {i ip : Nat} (hd : decode M.2.1 pc = .ok (.istore i, 2)) (hn : i < M.2.2.1) (hip : ip + 1 = i ∨ i = 0) (hK : ∀ ls st h, K ls st h → zV X M Q k n (pc + 2) ls st h) : ∀ ls st h, oISTORE ip i K ls st h → zV X M Q k n pc ls st h := by
  intro ls st h hk p l e s m args below meth c A D ad0 ad tys ws H locs cls cst hB hls hst
  unfold oISTORE at hk
  split at hk
  · obtain ⟨hz, hk⟩ := hk
    obtain ⟨c', rfl, h2⟩ := hst.i
    obtain ⟨hlen, lv, hlv, hall⟩ := id hls
    exact lv_istore hB.1.1 hB.1.2.1 hd hlv hn rfl (fun cls' h' => hK _ _ _ hk p l e s m args below meth c A D ad0 ad tys ws H locs cls' _ hB (zls_st1 hip hlen hall hz rfl h') h2)
  · exact hk.elim
theorem sd_astore_n {kf : Fin 4} {i ip : Nat} (hd : decode M.2.1 pc = .ok (.astore_n kf, 1)) (hi : (kf : Nat) = i) (hn : i < M.2.2.1) (hip : ip + 1 = i ∨ i = 0) (hK : ∀ ls st h, K ls st h → zV X M Q k n (pc + 1) ls st h) : ∀ ls st h, oASTORE ip i K ls st h → zV X M Q k n pc ls st h := by
  intro ls st h hk p l e s m args below meth c A D ad0 ad tys ws H locs cls cst hB hls hst
  unfold oASTORE at hk
  split at hk
  · obtain ⟨hz, hk⟩ := hk
    obtain ⟨a, c', h1, rfl, h2⟩ := hst.r
    obtain ⟨hlen, lv, hlv, hall⟩ := id hls
    exact lv_astore_n hB.1.1 hB.1.2.1 hd hi hlv hn rfl (fun cls' h' => hK _ _ _ hk p l e s m args below meth c A D ad0 ad tys ws H locs cls' _ hB (zls_st1 hip hlen hall hz ⟨a, h1, rfl⟩ h') h2)
  · exact hk.elim
theorem sd_astore {i ip : Nat} (hd : decode M.2.1 pc = .ok (.astore i, 2)) (hn : i < M.2.2.1) (hip : ip + 1 = i ∨ i = 0) (hK : ∀ ls st h, K ls st h → zV X M Q k n (pc + 2) ls st h) : ∀ ls st h, oASTORE ip i K ls st h → zV X M Q k n pc ls st h := by
  intro ls st h hk p l e s m args below meth c A D ad0 ad tys ws H locs cls cst hB hls hst
  unfold oASTORE at hk
  split at hk
  · obtain ⟨hz, hk⟩ := hk
    obtain ⟨a, c', h1, rfl, h2⟩ := hst.r
    obtain ⟨hlen, lv, hlv, hall⟩ := id hls
    exact lv_astore hB.1.1 hB.1.2.1 hd hlv hn rfl (fun cls' h' => hK _ _ _ hk p l e s m args below meth c A D ad0 ad tys ws H locs cls' _ hB (zls_st1 hip hlen hall hz ⟨a, h1, rfl⟩ h') h2)
  · exact hk.elim
theorem sd_lstore_n {kf : Fin 4} {i ip : Nat} (hd : decode M.2.1 pc = .ok (.lstore_n kf, 1)) (hi : (kf : Nat) = i) (hn : i + 1 < M.2.2.1) (hip : ip + 1 = i ∨ i = 0) (hK : ∀ ls st h, K ls st h → zV X M Q k n (pc + 1) ls st h) : ∀ ls st h, oLSTORE ip i K ls st h → zV X M Q k n pc ls st h := by
  intro ls st h hk p l e s m args below meth c A D ad0 ad tys ws H locs cls cst hB hls hst
  unfold oLSTORE at hk
  split at hk
  · obtain ⟨hz, hk⟩ := hk
    obtain ⟨c', rfl, h2⟩ := hst.l
    obtain ⟨hlen, lv, hlv, hall⟩ := id hls
    exact lv_lstore_n hB.1.1 hB.1.2.1 hd hi hlv hn rfl (fun cls' h' => hK _ _ _ hk p l e s m args below meth c A D ad0 ad tys ws H locs cls' _ hB (zls_st2 hip hlen hall hz rfl h') h2)
  · exact hk.elim
theorem sd_lstore {i ip : Nat} (hd : decode M.2.1 pc = .ok (.lstore i, 2)) (hn : i + 1 < M.2.2.1) (hip : ip + 1 = i ∨ i = 0) (hK : ∀ ls st h, K ls st h → zV X M Q k n (pc + 2) ls st h) : ∀ ls st h, oLSTORE ip i K ls st h → zV X M Q k n pc ls st h := by
  intro ls st h hk p l e s m args below meth c A D ad0 ad tys ws H locs cls cst hB hls hst
  unfold oLSTORE at hk
  split at hk
  · obtain ⟨hz, hk⟩ := hk
    obtain ⟨c', rfl, h2⟩ := hst.l
    obtain ⟨hlen, lv, hlv, hall⟩ := id hls
    exact lv_lstore hB.1.1 hB.1.2.1 hd hlv hn rfl (fun cls' h' => hK _ _ _ hk p l e s m args below meth c A D ad0 ad tys ws H locs cls' _ hB (zls_st2 hip hlen hall hz rfl h') h2)
  · exact hk.elim
def oIINC (ip i : Nat) (d : Int32) (K : zCf) : zCf := fun ls st h => match ls[i]? with
  | some (.int x) => znl ls[ip]? ∧ K (ls.set i (.int (x + d))) st h
  | _ => False
theorem sd_iinc {i ip : Nat} {v : Int} {d : Int32} (hd : decode M.2.1 pc = .ok (.iinc i v, 3)) (hv : Int32.ofInt v = d) (hn : i < M.2.2.1) (hip : ip + 1 = i ∨ i = 0) (hK : ∀ ls st h, K ls st h → zV X M Q k n (pc + 3) ls st h) : ∀ ls st h, oIINC ip i d K ls st h → zV X M Q k n pc ls st h := by
  intro ls st h hk p l e s m args below meth c A D ad0 ad tys ws H locs cls cst hB hls hst
  unfold oIINC at hk
  split at hk
  · rename_i x hx
    obtain ⟨hz, hk⟩ := hk
    obtain ⟨hlen, lv, hlv, hall⟩ := id hls
    rcases hall i _ hx with ⟨q, e⟩ | ⟨w, h1, h2⟩
    · cases e
    · cases h1
      obtain ⟨j, hj⟩ := List.getElem?_of_mem h2
      exact lv_iinc hB.1.1 hB.1.2.1 hd hlv hj (by rw [hv]) hn rfl (fun cls' h' => hK _ _ _ hk p l e s m args below meth c A D ad0 ad tys ws H locs cls' _ hB (zls_st1 hip hlen hall hz rfl h') hst)
  · exact hk.elim
def oIADD (K : zCf) : zCf := fun ls st h => match st with
  | .int y :: .int x :: t => K ls (.int (x + y) :: t) h
  | _ => False
theorem sd_iadd (hd : decode M.2.1 pc = .ok (.iadd, 1)) (hK : ∀ ls st h, K ls st h → zV X M Q k n (pc + 1) ls st h) : ∀ ls st h, oIADD K ls st h → zV X M Q k n pc ls st h := by
  intro ls st h hk p l e s m args below meth c A D ad0 ad tys ws H locs cls cst hB hls hst
  unfold oIADD at hk
  split at hk
  · obtain ⟨c1, rfl, hs1⟩ := hst.i
    obtain ⟨c2, rfl, hs2⟩ := hs1.i
    exact lv_iadd hB.1.1 hB.1.2.1 hd (hK _ _ _ hk p l e s m args below meth c A D ad0 ad tys ws H locs cls _ hB hls ⟨rfl, hs2⟩)
  · exact hk.elim
def oISUB (K : zCf) : zCf := fun ls st h => match st with
  | .int y :: .int x :: t => K ls (.int (x - y) :: t) h
  | _ => False
theorem sd_isub (hd : decode M.2.1 pc = .ok (.isub, 1)) (hK : ∀ ls st h, K ls st h → zV X M Q k n (pc + 1) ls st h) : ∀ ls st h, oISUB K ls st h → zV X M Q k n pc ls st h := by
  intro ls st h hk p l e s m args below meth c A D ad0 ad tys ws H locs cls cst hB hls hst
  unfold oISUB at hk
  split at hk
  · obtain ⟨c1, rfl, hs1⟩ := hst.i
    obtain ⟨c2, rfl, hs2⟩ := hs1.i
    exact lv_isub hB.1.1 hB.1.2.1 hd (hK _ _ _ hk p l e s m args below meth c A D ad0 ad tys ws H locs cls _ hB hls ⟨rfl, hs2⟩)
  · exact hk.elim
def oIMUL (K : zCf) : zCf := fun ls st h => match st with
  | .int y :: .int x :: t => K ls (.int (x * y) :: t) h
  | _ => False
theorem sd_imul (hd : decode M.2.1 pc = .ok (.imul, 1)) (hK : ∀ ls st h, K ls st h → zV X M Q k n (pc + 1) ls st h) : ∀ ls st h, oIMUL K ls st h → zV X M Q k n pc ls st h := by
  intro ls st h hk p l e s m args below meth c A D ad0 ad tys ws H locs cls cst hB hls hst
  unfold oIMUL at hk
  split at hk
  · obtain ⟨c1, rfl, hs1⟩ := hst.i
    obtain ⟨c2, rfl, hs2⟩ := hs1.i
    exact lv_imul hB.1.1 hB.1.2.1 hd (hK _ _ _ hk p l e s m args below meth c A D ad0 ad tys ws H locs cls _ hB hls ⟨rfl, hs2⟩)
  · exact hk.elim
def oIAND (K : zCf) : zCf := fun ls st h => match st with
  | .int y :: .int x :: t => K ls (.int (x &&& y) :: t) h
  | _ => False
theorem sd_iand (hd : decode M.2.1 pc = .ok (.iand, 1)) (hK : ∀ ls st h, K ls st h → zV X M Q k n (pc + 1) ls st h) : ∀ ls st h, oIAND K ls st h → zV X M Q k n pc ls st h := by
  intro ls st h hk p l e s m args below meth c A D ad0 ad tys ws H locs cls cst hB hls hst
  unfold oIAND at hk
  split at hk
  · obtain ⟨c1, rfl, hs1⟩ := hst.i
    obtain ⟨c2, rfl, hs2⟩ := hs1.i
    exact lv_iand hB.1.1 hB.1.2.1 hd (hK _ _ _ hk p l e s m args below meth c A D ad0 ad tys ws H locs cls _ hB hls ⟨rfl, hs2⟩)
  · exact hk.elim
def oIOR (K : zCf) : zCf := fun ls st h => match st with
  | .int y :: .int x :: t => K ls (.int (x ||| y) :: t) h
  | _ => False
theorem sd_ior (hd : decode M.2.1 pc = .ok (.ior, 1)) (hK : ∀ ls st h, K ls st h → zV X M Q k n (pc + 1) ls st h) : ∀ ls st h, oIOR K ls st h → zV X M Q k n pc ls st h := by
  intro ls st h hk p l e s m args below meth c A D ad0 ad tys ws H locs cls cst hB hls hst
  unfold oIOR at hk
  split at hk
  · obtain ⟨c1, rfl, hs1⟩ := hst.i
    obtain ⟨c2, rfl, hs2⟩ := hs1.i
    exact lv_ior hB.1.1 hB.1.2.1 hd (hK _ _ _ hk p l e s m args below meth c A D ad0 ad tys ws H locs cls _ hB hls ⟨rfl, hs2⟩)
  · exact hk.elim
def oIXOR (K : zCf) : zCf := fun ls st h => match st with
  | .int y :: .int x :: t => K ls (.int (x ^^^ y) :: t) h
  | _ => False
theorem sd_ixor (hd : decode M.2.1 pc = .ok (.ixor, 1)) (hK : ∀ ls st h, K ls st h → zV X M Q k n (pc + 1) ls st h) : ∀ ls st h, oIXOR K ls st h → zV X M Q k n pc ls st h := by
  intro ls st h hk p l e s m args below meth c A D ad0 ad tys ws H locs cls cst hB hls hst
  unfold oIXOR at hk
  split at hk
  · obtain ⟨c1, rfl, hs1⟩ := hst.i
    obtain ⟨c2, rfl, hs2⟩ := hs1.i
    exact lv_ixor hB.1.1 hB.1.2.1 hd (hK _ _ _ hk p l e s m args below meth c A D ad0 ad tys ws H locs cls _ hB hls ⟨rfl, hs2⟩)
  · exact hk.elim
def oIDIV (K : zCf) : zCf := fun ls st h => match st with
  | .int y :: .int x :: t => ¬ y = 0 ∧ K ls (.int (x / y) :: t) h
  | _ => False
theorem sd_idiv (hd : decode M.2.1 pc = .ok (.idiv, 1)) (hK : ∀ ls st h, K ls st h → zV X M Q k n (pc + 1) ls st h) : ∀ ls st h, oIDIV K ls st h → zV X M Q k n pc ls st h := by
  intro ls st h hk p l e s m args below meth c A D ad0 ad tys ws H locs cls cst hB hls hst
  unfold oIDIV at hk
  split at hk
  · obtain ⟨hz, hk⟩ := hk
    obtain ⟨c1, rfl, hs1⟩ := hst.i
    obtain ⟨c2, rfl, hs2⟩ := hs1.i
    exact lv_idiv hB.1.1 hB.1.2.1 hd hz (hK _ _ _ hk p l e s m args below meth c A D ad0 ad tys ws H locs cls _ hB hls ⟨rfl, hs2⟩)
  · exact hk.elim
def oIREM (K : zCf) : zCf := fun ls st h => match st with
  | .int y :: .int x :: t => ¬ y = 0 ∧ K ls (.int (x % y) :: t) h
  | _ => False
theorem sd_irem (hd : decode M.2.1 pc = .ok (.irem, 1)) (hK : ∀ ls st h, K ls st h → zV X M Q k n (pc + 1) ls st h) : ∀ ls st h, oIREM K ls st h → zV X M Q k n pc ls st h := by
  intro ls st h hk p l e s m args below meth c A D ad0 ad tys ws H locs cls cst hB hls hst
  unfold oIREM at hk
  split at hk
  · obtain ⟨hz, hk⟩ := hk
    obtain ⟨c1, rfl, hs1⟩ := hst.i
    obtain ⟨c2, rfl, hs2⟩ := hs1.i
    exact lv_irem hB.1.1 hB.1.2.1 hd hz (hK _ _ _ hk p l e s m args below meth c A D ad0 ad tys ws H locs cls _ hB hls ⟨congrArg Value.int (z_irem _ _), hs2⟩)
  · exact hk.elim
def oISHL (K : zCf) : zCf := fun ls st h => match st with
  | .int y :: .int x :: t => K ls (.int (x <<< (y &&& 31)) :: t) h
  | _ => False
theorem sd_ishl (hd : decode M.2.1 pc = .ok (.ishl, 1)) (hK : ∀ ls st h, K ls st h → zV X M Q k n (pc + 1) ls st h) : ∀ ls st h, oISHL K ls st h → zV X M Q k n pc ls st h := by
  intro ls st h hk p l e s m args below meth c A D ad0 ad tys ws H locs cls cst hB hls hst
  unfold oISHL at hk
  split at hk
  · obtain ⟨c1, rfl, hs1⟩ := hst.i
    obtain ⟨c2, rfl, hs2⟩ := hs1.i
    exact lv_ishl hB.1.1 hB.1.2.1 hd (hK _ _ _ hk p l e s m args below meth c A D ad0 ad tys ws H locs cls _ hB hls ⟨rfl, hs2⟩)
  · exact hk.elim
def oISHR (K : zCf) : zCf := fun ls st h => match st with
  | .int y :: .int x :: t => K ls (.int (x >>> (y &&& 31)) :: t) h
  | _ => False
theorem sd_ishr (hd : decode M.2.1 pc = .ok (.ishr, 1)) (hK : ∀ ls st h, K ls st h → zV X M Q k n (pc + 1) ls st h) : ∀ ls st h, oISHR K ls st h → zV X M Q k n pc ls st h := by
  intro ls st h hk p l e s m args below meth c A D ad0 ad tys ws H locs cls cst hB hls hst
  unfold oISHR at hk
  split at hk
  · obtain ⟨c1, rfl, hs1⟩ := hst.i
    obtain ⟨c2, rfl, hs2⟩ := hs1.i
    exact lv_ishr hB.1.1 hB.1.2.1 hd (hK _ _ _ hk p l e s m args below meth c A D ad0 ad tys ws H locs cls _ hB hls ⟨rfl, hs2⟩)
  · exact hk.elim
def oIUSHR (K : zCf) : zCf := fun ls st h => match st with
  | .int y :: .int x :: t => K ls (.int ((x.toUInt32 >>> (y.toUInt32 &&& Int32.toUInt32 31)).toInt32) :: t) h
  | _ => False
theorem sd_iushr (hd : decode M.2.1 pc = .ok (.iushr, 1)) (hK : ∀ ls st h, K ls st h → zV X M Q k n (pc + 1) ls st h) : ∀ ls st h, oIUSHR K ls st h → zV X M Q k n pc ls st h := by
  intro ls st h hk p l e s m args below meth c A D ad0 ad tys ws H locs cls cst hB hls hst
  unfold oIUSHR at hk
  split at hk
  · obtain ⟨c1, rfl, hs1⟩ := hst.i
    obtain ⟨c2, rfl, hs2⟩ := hs1.i
    exact lv_iushr hB.1.1 hB.1.2.1 hd rfl (hK _ _ _ hk p l e s m args below meth c A D ad0 ad tys ws H locs cls _ hB hls ⟨rfl, hs2⟩)
  · exact hk.elim
def oLADD (K : zCf) : zCf := fun ls st h => match st with
  | .long y :: .long x :: t => K ls (.long (x + y) :: t) h
  | _ => False
theorem sd_ladd (hd : decode M.2.1 pc = .ok (.ladd, 1)) (hK : ∀ ls st h, K ls st h → zV X M Q k n (pc + 1) ls st h) : ∀ ls st h, oLADD K ls st h → zV X M Q k n pc ls st h := by
  intro ls st h hk p l e s m args below meth c A D ad0 ad tys ws H locs cls cst hB hls hst
  unfold oLADD at hk
  split at hk
  · obtain ⟨c1, rfl, hs1⟩ := hst.l
    obtain ⟨c2, rfl, hs2⟩ := hs1.l
    exact lv_ladd hB.1.1 hB.1.2.1 hd (hK _ _ _ hk p l e s m args below meth c A D ad0 ad tys ws H locs cls _ hB hls ⟨rfl, hs2⟩)
  · exact hk.elim
def oLSUB (K : zCf) : zCf := fun ls st h => match st with
  | .long y :: .long x :: t => K ls (.long (x - y) :: t) h
  | _ => False
theorem sd_lsub (hd : decode M.2.1 pc = .ok (.lsub, 1)) (hK : ∀ ls st h, K ls st h → zV X M Q k n (pc + 1) ls st h) : ∀ ls st h, oLSUB K ls st h → zV X M Q k n pc ls st h := by
  intro ls st h hk p l e s m args below meth c A D ad0 ad tys ws H locs cls cst hB hls hst
  unfold oLSUB at hk
  split at hk
  · obtain ⟨c1, rfl, hs1⟩ := hst.l
    obtain ⟨c2, rfl, hs2⟩ := hs1.l
    exact lv_lsub hB.1.1 hB.1.2.1 hd (hK _ _ _ hk p l e s m args below meth c A D ad0 ad tys ws H locs cls _ hB hls ⟨rfl, hs2⟩)
  · exact hk.elim
def oLMUL (K : zCf) : zCf := fun ls st h => match st with
  | .long y :: .long x :: t => K ls (.long (x * y) :: t) h
  | _ => False
theorem sd_lmul (hd : decode M.2.1 pc = .ok (.lmul, 1)) (hK : ∀ ls st h, K ls st h → zV X M Q k n (pc + 1) ls st h) : ∀ ls st h, oLMUL K ls st h → zV X M Q k n pc ls st h := by
  intro ls st h hk p l e s m args below meth c A D ad0 ad tys ws H locs cls cst hB hls hst
  unfold oLMUL at hk
  split at hk
  · obtain ⟨c1, rfl, hs1⟩ := hst.l
    obtain ⟨c2, rfl, hs2⟩ := hs1.l
    exact lv_lmul hB.1.1 hB.1.2.1 hd (hK _ _ _ hk p l e s m args below meth c A D ad0 ad tys ws H locs cls _ hB hls ⟨rfl, hs2⟩)
  · exact hk.elim
def oLOR (K : zCf) : zCf := fun ls st h => match st with
  | .long y :: .long x :: t => K ls (.long (x ||| y) :: t) h
  | _ => False
theorem sd_lor (hd : decode M.2.1 pc = .ok (.lor, 1)) (hK : ∀ ls st h, K ls st h → zV X M Q k n (pc + 1) ls st h) : ∀ ls st h, oLOR K ls st h → zV X M Q k n pc ls st h := by
  intro ls st h hk p l e s m args below meth c A D ad0 ad tys ws H locs cls cst hB hls hst
  unfold oLOR at hk
  split at hk
  · obtain ⟨c1, rfl, hs1⟩ := hst.l
    obtain ⟨c2, rfl, hs2⟩ := hs1.l
    exact lv_lor hB.1.1 hB.1.2.1 hd (hK _ _ _ hk p l e s m args below meth c A D ad0 ad tys ws H locs cls _ hB hls ⟨rfl, hs2⟩)
  · exact hk.elim
def oLDIV (K : zCf) : zCf := fun ls st h => match st with
  | .long y :: .long x :: t => ¬ y = 0 ∧ K ls (.long (x / y) :: t) h
  | _ => False
theorem sd_ldiv (hd : decode M.2.1 pc = .ok (.ldiv, 1)) (hK : ∀ ls st h, K ls st h → zV X M Q k n (pc + 1) ls st h) : ∀ ls st h, oLDIV K ls st h → zV X M Q k n pc ls st h := by
  intro ls st h hk p l e s m args below meth c A D ad0 ad tys ws H locs cls cst hB hls hst
  unfold oLDIV at hk
  split at hk
  · obtain ⟨hz, hk⟩ := hk
    obtain ⟨c1, rfl, hs1⟩ := hst.l
    obtain ⟨c2, rfl, hs2⟩ := hs1.l
    exact lv_ldiv hB.1.1 hB.1.2.1 hd hz (hK _ _ _ hk p l e s m args below meth c A D ad0 ad tys ws H locs cls _ hB hls ⟨rfl, hs2⟩)
  · exact hk.elim
def oLREM (K : zCf) : zCf := fun ls st h => match st with
  | .long y :: .long x :: t => ¬ y = 0 ∧ K ls (.long (x % y) :: t) h
  | _ => False
theorem sd_lrem (hd : decode M.2.1 pc = .ok (.lrem, 1)) (hK : ∀ ls st h, K ls st h → zV X M Q k n (pc + 1) ls st h) : ∀ ls st h, oLREM K ls st h → zV X M Q k n pc ls st h := by
  intro ls st h hk p l e s m args below meth c A D ad0 ad tys ws H locs cls cst hB hls hst
  unfold oLREM at hk
  split at hk
  · obtain ⟨hz, hk⟩ := hk
    obtain ⟨c1, rfl, hs1⟩ := hst.l
    obtain ⟨c2, rfl, hs2⟩ := hs1.l
    exact lv_lrem hB.1.1 hB.1.2.1 hd hz (hK _ _ _ hk p l e s m args below meth c A D ad0 ad tys ws H locs cls _ hB hls ⟨congrArg Value.long (z_lrem _ _), hs2⟩)
  · exact hk.elim
def oLCMP (K : zCf) : zCf := fun ls st h => match st with
  | .long y :: .long x :: t => K ls (.int (lg_cmp x y) :: t) h
  | _ => False
theorem sd_lcmp (hd : decode M.2.1 pc = .ok (.lcmp, 1)) (hK : ∀ ls st h, K ls st h → zV X M Q k n (pc + 1) ls st h) : ∀ ls st h, oLCMP K ls st h → zV X M Q k n pc ls st h := by
  intro ls st h hk p l e s m args below meth c A D ad0 ad tys ws H locs cls cst hB hls hst
  unfold oLCMP at hk
  split at hk
  · obtain ⟨c1, rfl, hs1⟩ := hst.l
    obtain ⟨c2, rfl, hs2⟩ := hs1.l
    exact W.lcmp hB.1.1 hB.1.2.1 hd (hK _ _ _ hk p l e s m args below meth c A D ad0 ad tys ws H locs cls _ hB hls ⟨rfl, hs2⟩)
  · exact hk.elim
def oLSHL (K : zCf) : zCf := fun ls st h => match st with
  | .int y :: .long x :: t => K ls (.long (x <<< (y.toInt64 &&& 63)) :: t) h
  | _ => False
theorem sd_lshl (hd : decode M.2.1 pc = .ok (.lshl, 1)) (hK : ∀ ls st h, K ls st h → zV X M Q k n (pc + 1) ls st h) : ∀ ls st h, oLSHL K ls st h → zV X M Q k n pc ls st h := by
  intro ls st h hk p l e s m args below meth c A D ad0 ad tys ws H locs cls cst hB hls hst
  unfold oLSHL at hk
  split at hk
  · obtain ⟨c1, rfl, hs1⟩ := hst.i
    obtain ⟨c2, rfl, hs2⟩ := hs1.l
    exact lv_lshl hB.1.1 hB.1.2.1 hd rfl (hK _ _ _ hk p l e s m args below meth c A D ad0 ad tys ws H locs cls _ hB hls ⟨rfl, hs2⟩)
  · exact hk.elim
def oINEG (K : zCf) : zCf := fun ls st h => match st with
  | .int x :: t => K ls (.int (-x) :: t) h
  | _ => False
theorem sd_ineg (hd : decode M.2.1 pc = .ok (.ineg, 1)) (hK : ∀ ls st h, K ls st h → zV X M Q k n (pc + 1) ls st h) : ∀ ls st h, oINEG K ls st h → zV X M Q k n pc ls st h := by
  intro ls st h hk p l e s m args below meth c A D ad0 ad tys ws H locs cls cst hB hls hst
  unfold oINEG at hk
  split at hk
  · obtain ⟨c1, rfl, hs1⟩ := hst.i
    exact lv_ineg hB.1.1 hB.1.2.1 hd (hK _ _ _ hk p l e s m args below meth c A D ad0 ad tys ws H locs cls _ hB hls ⟨rfl, hs1⟩)
  · exact hk.elim
def oI2L (K : zCf) : zCf := fun ls st h => match st with
  | .int x :: t => K ls (.long x.toInt64 :: t) h
  | _ => False
theorem sd_i2l (hd : decode M.2.1 pc = .ok (.i2l, 1)) (hK : ∀ ls st h, K ls st h → zV X M Q k n (pc + 1) ls st h) : ∀ ls st h, oI2L K ls st h → zV X M Q k n pc ls st h := by
  intro ls st h hk p l e s m args below meth c A D ad0 ad tys ws H locs cls cst hB hls hst
  unfold oI2L at hk
  split at hk
  · obtain ⟨c1, rfl, hs1⟩ := hst.i
    exact lv_i2l hB.1.1 hB.1.2.1 hd rfl (hK _ _ _ hk p l e s m args below meth c A D ad0 ad tys ws H locs cls _ hB hls ⟨rfl, hs1⟩)
  · exact hk.elim
def oL2I (K : zCf) : zCf := fun ls st h => match st with
  | .long x :: t => K ls (.int x.toInt32 :: t) h
  | _ => False
theorem sd_l2i (hd : decode M.2.1 pc = .ok (.l2i, 1)) (hK : ∀ ls st h, K ls st h → zV X M Q k n (pc + 1) ls st h) : ∀ ls st h, oL2I K ls st h → zV X M Q k n pc ls st h := by
  intro ls st h hk p l e s m args below meth c A D ad0 ad tys ws H locs cls cst hB hls hst
  unfold oL2I at hk
  split at hk
  · obtain ⟨c1, rfl, hs1⟩ := hst.l
    exact lv_l2i hB.1.1 hB.1.2.1 hd rfl (hK _ _ _ hk p l e s m args below meth c A D ad0 ad tys ws H locs cls _ hB hls ⟨rfl, hs1⟩)
  · exact hk.elim
def oI2B (K : zCf) : zCf := fun ls st h => match st with
  | .int x :: t => K ls (.int x.toInt8.toInt32 :: t) h
  | _ => False
theorem sd_i2b (hd : decode M.2.1 pc = .ok (.i2b, 1)) (hK : ∀ ls st h, K ls st h → zV X M Q k n (pc + 1) ls st h) : ∀ ls st h, oI2B K ls st h → zV X M Q k n pc ls st h := by
  intro ls st h hk p l e s m args below meth c A D ad0 ad tys ws H locs cls cst hB hls hst
  unfold oI2B at hk
  split at hk
  · obtain ⟨c1, rfl, hs1⟩ := hst.i
    exact lv_i2b hB.1.1 hB.1.2.1 hd rfl (hK _ _ _ hk p l e s m args below meth c A D ad0 ad tys ws H locs cls _ hB hls ⟨rfl, hs1⟩)
  · exact hk.elim
def oI2C (K : zCf) : zCf := fun ls st h => match st with
  | .int x :: t => K ls (.int (x.toUInt32 % 65536).toInt32 :: t) h
  | _ => False
theorem sd_i2c (hd : decode M.2.1 pc = .ok (.i2c, 1)) (hK : ∀ ls st h, K ls st h → zV X M Q k n (pc + 1) ls st h) : ∀ ls st h, oI2C K ls st h → zV X M Q k n pc ls st h := by
  intro ls st h hk p l e s m args below meth c A D ad0 ad tys ws H locs cls cst hB hls hst
  unfold oI2C at hk
  split at hk
  · obtain ⟨c1, rfl, hs1⟩ := hst.i
    exact lv_i2c hB.1.1 hB.1.2.1 hd rfl (hK _ _ _ hk p l e s m args below meth c A D ad0 ad tys ws H locs cls _ hB hls ⟨rfl, hs1⟩)
  · exact hk.elim
def oDUP (K : zCf) : zCf := fun ls st h => match st with
  | v :: t => v.category = 1 ∧ K ls (v :: v :: t) h
  | _ => False
theorem sd_dup (hd : decode M.2.1 pc = .ok (.dup, 1)) (hK : ∀ ls st h, K ls st h → zV X M Q k n (pc + 1) ls st h) : ∀ ls st h, oDUP K ls st h → zV X M Q k n pc ls st h := by
  intro ls st h hk p l e s m args below meth c A D ad0 ad tys ws H locs cls cst hB hls hst
  unfold oDUP at hk
  split at hk
  · obtain ⟨hz, hk⟩ := hk
    obtain ⟨w, c1, rfl, h1, hs1⟩ := hst.cons
    exact lv_dup hB.1.1 hB.1.2.1 hd (h1.cat.trans hz) (hK _ _ _ hk p l e s m args below meth c A D ad0 ad tys ws H locs cls _ hB hls ⟨h1, h1, hs1⟩)
  · exact hk.elim
def oPOP (K : zCf) : zCf := fun ls st h => match st with
  | v :: t => v.category = 1 ∧ K ls t h
  | _ => False
theorem sd_pop (hd : decode M.2.1 pc = .ok (.pop, 1)) (hK : ∀ ls st h, K ls st h → zV X M Q k n (pc + 1) ls st h) : ∀ ls st h, oPOP K ls st h → zV X M Q k n pc ls st h := by
  intro ls st h hk p l e s m args below meth c A D ad0 ad tys ws H locs cls cst hB hls hst
  unfold oPOP at hk
  split at hk
  · obtain ⟨hz, hk⟩ := hk
    obtain ⟨w, c1, rfl, h1, hs1⟩ := hst.cons
    exact lv_pop hB.1.1 hB.1.2.1 hd (h1.cat.trans hz) (hK _ _ _ hk p l e s m args below meth c A D ad0 ad tys ws H locs cls _ hB hls hs1)
  · exact hk.elim
def oDUP2 (K : zCf) : zCf := fun ls st h => match st with
  | u :: v :: t => u.category = 1 ∧ v.category = 1 ∧ K ls (u :: v :: u :: v :: t) h
  | _ => False
theorem sd_dup2 (hd : decode M.2.1 pc = .ok (.dup2, 1)) (hK : ∀ ls st h, K ls st h → zV X M Q k n (pc + 1) ls st h) : ∀ ls st h, oDUP2 K ls st h → zV X M Q k n pc ls st h := by
  intro ls st h hk p l e s m args below meth c A D ad0 ad tys ws H locs cls cst hB hls hst
  unfold oDUP2 at hk
  split at hk
  · obtain ⟨hz, hz2, hk⟩ := hk
    obtain ⟨w, c1, rfl, h1, hs1⟩ := hst.cons
    obtain ⟨w2, c2, rfl, h2, hs2⟩ := hs1.cons
    exact lv_dup2_11 hB.1.1 hB.1.2.1 hd (h1.cat.trans hz) (h2.cat.trans hz2) (hK _ _ _ hk p l e s m args below meth c A D ad0 ad tys ws H locs cls _ hB hls ⟨h1, h2, h1, h2, hs2⟩)
  · exact hk.elim
def oIFEQ (J K : zCf) : zCf := fun ls st h => match st with
  | .int x :: t => (x = 0 → J ls t h) ∧ (¬ x = 0 → K ls t h)
  | _ => False
theorem sd_ifeq {J : zCf} {off : Int} {t : Nat} (hd : decode M.2.1 pc = .ok (.ifCond .eq off, 3)) (ht : (pc : Int) + off = (t : Int)) (hJ : ∀ ls st h, J ls st h → zV X M Q k n t ls st h) (hK : ∀ ls st h, K ls st h → zV X M Q k n (pc + 3) ls st h) : ∀ ls st h, oIFEQ J K ls st h → zV X M Q k n pc ls st h := by
  intro ls st h hk p l e s m args below meth c A D ad0 ad tys ws H locs cls cst hB hls hst
  unfold oIFEQ at hk
  split at hk
  · obtain ⟨c1, rfl, hs1⟩ := hst.i
    exact lv_if_eq hB.1.1 hB.1.2.1 hd ht (fun z => hJ _ _ _ (hk.1 z) p l e s m args below meth c A D ad0 ad tys ws H locs cls _ hB hls hs1) (fun z => hK _ _ _ (hk.2 z) p l e s m args below meth c A D ad0 ad tys ws H locs cls _ hB hls hs1)
  · exact hk.elim
def oICEQ (J K : zCf) : zCf := fun ls st h => match st with
  | .int y :: .int x :: t => (x = y → J ls t h) ∧ (¬ x = y → K ls t h)
  | _ => False
theorem sd_iceq {J : zCf} {off : Int} {t : Nat} (hd : decode M.2.1 pc = .ok (.if_icmp .eq off, 3)) (ht : (pc : Int) + off = (t : Int)) (hJ : ∀ ls st h, J ls st h → zV X M Q k n t ls st h) (hK : ∀ ls st h, K ls st h → zV X M Q k n (pc + 3) ls st h) : ∀ ls st h, oICEQ J K ls st h → zV X M Q k n pc ls st h := by
  intro ls st h hk p l e s m args below meth c A D ad0 ad tys ws H locs cls cst hB hls hst
  unfold oICEQ at hk
  split at hk
  · obtain ⟨c1, rfl, hs1⟩ := hst.i
    obtain ⟨c2, rfl, hs2⟩ := hs1.i
    exact lv_icmp_eq hB.1.1 hB.1.2.1 hd ht (fun z => hJ _ _ _ (hk.1 z) p l e s m args below meth c A D ad0 ad tys ws H locs cls _ hB hls hs2) (fun z => hK _ _ _ (hk.2 z) p l e s m args below meth c A D ad0 ad tys ws H locs cls _ hB hls hs2)
  · exact hk.elim
def oIFNE (J K : zCf) : zCf := fun ls st h => match st with
  | .int x :: t => (¬ x = 0 → J ls t h) ∧ (x = 0 → K ls t h)
  | _ => False
theorem sd_ifne {J : zCf} {off : Int} {t : Nat} (hd : decode M.2.1 pc = .ok (.ifCond .ne off, 3)) (ht : (pc : Int) + off = (t : Int)) (hJ : ∀ ls st h, J ls st h → zV X M Q k n t ls st h) (hK : ∀ ls st h, K ls st h → zV X M Q k n (pc + 3) ls st h) : ∀ ls st h, oIFNE J K ls st h → zV X M Q k n pc ls st h := by
  intro ls st h hk p l e s m args below meth c A D ad0 ad tys ws H locs cls cst hB hls hst
  unfold oIFNE at hk
  split at hk
  · obtain ⟨c1, rfl, hs1⟩ := hst.i
    exact lv_if_ne hB.1.1 hB.1.2.1 hd ht (fun z => hJ _ _ _ (hk.1 z) p l e s m args below meth c A D ad0 ad tys ws H locs cls _ hB hls hs1) (fun z => hK _ _ _ (hk.2 z) p l e s m args below meth c A D ad0 ad tys ws H locs cls _ hB hls hs1)
  · exact hk.elim
def oICNE (J K : zCf) : zCf := fun ls st h => match st with
  | .int y :: .int x :: t => (¬ x = y → J ls t h) ∧ (x = y → K ls t h)
  | _ => False
theorem sd_icne {J : zCf} {off : Int} {t : Nat} (hd : decode M.2.1 pc = .ok (.if_icmp .ne off, 3)) (ht : (pc : Int) + off = (t : Int)) (hJ : ∀ ls st h, J ls st h → zV X M Q k n t ls st h) (hK : ∀ ls st h, K ls st h → zV X M Q k n (pc + 3) ls st h) : ∀ ls st h, oICNE J K ls st h → zV X M Q k n pc ls st h := by
  intro ls st h hk p l e s m args below meth c A D ad0 ad tys ws H locs cls cst hB hls hst
  unfold oICNE at hk
  split at hk
  · obtain ⟨c1, rfl, hs1⟩ := hst.i
    obtain ⟨c2, rfl, hs2⟩ := hs1.i
    exact lv_icmp_ne hB.1.1 hB.1.2.1 hd ht (fun z => hJ _ _ _ (hk.1 z) p l e s m args below meth c A D ad0 ad tys ws H locs cls _ hB hls hs2) (fun z => hK _ _ _ (hk.2 z) p l e s m args below meth c A D ad0 ad tys ws H locs cls _ hB hls hs2)
  · exact hk.elim
def oIFLT (J K : zCf) : zCf := fun ls st h => match st with
  | .int x :: t => (x < 0 → J ls t h) ∧ (¬ x < 0 → K ls t h)
  | _ => False
theorem sd_iflt {J : zCf} {off : Int} {t : Nat} (hd : decode M.2.1 pc = .ok (.ifCond .lt off, 3)) (ht : (pc : Int) + off = (t : Int)) (hJ : ∀ ls st h, J ls st h → zV X M Q k n t ls st h) (hK : ∀ ls st h, K ls st h → zV X M Q k n (pc + 3) ls st h) : ∀ ls st h, oIFLT J K ls st h → zV X M Q k n pc ls st h := by
  intro ls st h hk p l e s m args below meth c A D ad0 ad tys ws H locs cls cst hB hls hst
  unfold oIFLT at hk
  split at hk
  · obtain ⟨c1, rfl, hs1⟩ := hst.i
    exact lv_if_lt hB.1.1 hB.1.2.1 hd ht (fun z => hJ _ _ _ (hk.1 z) p l e s m args below meth c A D ad0 ad tys ws H locs cls _ hB hls hs1) (fun z => hK _ _ _ (hk.2 z) p l e s m args below meth c A D ad0 ad tys ws H locs cls _ hB hls hs1)
  · exact hk.elim
def oICLT (J K : zCf) : zCf := fun ls st h => match st with
  | .int y :: .int x :: t => (x < y → J ls t h) ∧ (¬ x < y → K ls t h)
  | _ => False
theorem sd_iclt {J : zCf} {off : Int} {t : Nat} (hd : decode M.2.1 pc = .ok (.if_icmp .lt off, 3)) (ht : (pc : Int) + off = (t : Int)) (hJ : ∀ ls st h, J ls st h → zV X M Q k n t ls st h) (hK : ∀ ls st h, K ls st h → zV X M Q k n (pc + 3) ls st h) : ∀ ls st h, oICLT J K ls st h → zV X M Q k n pc ls st h := by
  intro ls st h hk p l e s m args below meth c A D ad0 ad tys ws H locs cls cst hB hls hst
  unfold oICLT at hk
  split at hk
  · obtain ⟨c1, rfl, hs1⟩ := hst.i
    obtain ⟨c2, rfl, hs2⟩ := hs1.i
    exact lv_icmp_lt hB.1.1 hB.1.2.1 hd ht (fun z => hJ _ _ _ (hk.1 z) p l e s m args below meth c A D ad0 ad tys ws H locs cls _ hB hls hs2) (fun z => hK _ _ _ (hk.2 z) p l e s m args below meth c A D ad0 ad tys ws H locs cls _ hB hls hs2)
  · exact hk.elim
def oIFGE (J K : zCf) : zCf := fun ls st h => match st with
  | .int x :: t => (0 ≤ x → J ls t h) ∧ (¬ 0 ≤ x → K ls t h)
  | _ => False
theorem sd_ifge {J : zCf} {off : Int} {t : Nat} (hd : decode M.2.1 pc = .ok (.ifCond .ge off, 3)) (ht : (pc : Int) + off = (t : Int)) (hJ : ∀ ls st h, J ls st h → zV X M Q k n t ls st h) (hK : ∀ ls st h, K ls st h → zV X M Q k n (pc + 3) ls st h) : ∀ ls st h, oIFGE J K ls st h → zV X M Q k n pc ls st h := by
  intro ls st h hk p l e s m args below meth c A D ad0 ad tys ws H locs cls cst hB hls hst
  unfold oIFGE at hk
  split at hk
  · obtain ⟨c1, rfl, hs1⟩ := hst.i
    exact lv_if_ge hB.1.1 hB.1.2.1 hd ht (fun z => hJ _ _ _ (hk.1 z) p l e s m args below meth c A D ad0 ad tys ws H locs cls _ hB hls hs1) (fun z => hK _ _ _ (hk.2 z) p l e s m args below meth c A D ad0 ad tys ws H locs cls _ hB hls hs1)
  · exact hk.elim
def oICGE (J K : zCf) : zCf := fun ls st h => match st with
  | .int y :: .int x :: t => (y ≤ x → J ls t h) ∧ (¬ y ≤ x → K ls t h)
  | _ => False
theorem sd_icge {J : zCf} {off : Int} {t : Nat} (hd : decode M.2.1 pc = .ok (.if_icmp .ge off, 3)) (ht : (pc : Int) + off = (t : Int)) (hJ : ∀ ls st h, J ls st h → zV X M Q k n t ls st h) (hK : ∀ ls st h, K ls st h → zV X M Q k n (pc + 3) ls st h) : ∀ ls st h, oICGE J K ls st h → zV X M Q k n pc ls st h := by
  intro ls st h hk p l e s m args below meth c A D ad0 ad tys ws H locs cls cst hB hls hst
  unfold oICGE at hk
  split at hk
  · obtain ⟨c1, rfl, hs1⟩ := hst.i
    obtain ⟨c2, rfl, hs2⟩ := hs1.i
    exact lv_icmp_ge hB.1.1 hB.1.2.1 hd ht (fun z => hJ _ _ _ (hk.1 z) p l e s m args below meth c A D ad0 ad tys ws H locs cls _ hB hls hs2) (fun z => hK _ _ _ (hk.2 z) p l e s m args below meth c A D ad0 ad tys ws H locs cls _ hB hls hs2)
  · exact hk.elim
def oIFGT (J K : zCf) : zCf := fun ls st h => match st with
  | .int x :: t => (0 < x → J ls t h) ∧ (¬ 0 < x → K ls t h)
  | _ => False
theorem sd_ifgt {J : zCf} {off : Int} {t : Nat} (hd : decode M.2.1 pc = .ok (.ifCond .gt off, 3)) (ht : (pc : Int) + off = (t : Int)) (hJ : ∀ ls st h, J ls st h → zV X M Q k n t ls st h) (hK : ∀ ls st h, K ls st h → zV X M Q k n (pc + 3) ls st h) : ∀ ls st h, oIFGT J K ls st h → zV X M Q k n pc ls st h := by
  intro ls st h hk p l e s m args below meth c A D ad0 ad tys ws H locs cls cst hB hls hst
  unfold oIFGT at hk
  split at hk
  · obtain ⟨c1, rfl, hs1⟩ := hst.i
    exact lv_if_gt hB.1.1 hB.1.2.1 hd ht (fun z => hJ _ _ _ (hk.1 z) p l e s m args below meth c A D ad0 ad tys ws H locs cls _ hB hls hs1) (fun z => hK _ _ _ (hk.2 z) p l e s m args below meth c A D ad0 ad tys ws H locs cls _ hB hls hs1)
  · exact hk.elim
def oICGT (J K : zCf) : zCf := fun ls st h => match st with
  | .int y :: .int x :: t => (y < x → J ls t h) ∧ (¬ y < x → K ls t h)
  | _ => False
theorem sd_icgt {J : zCf} {off : Int} {t : Nat} (hd : decode M.2.1 pc = .ok (.if_icmp .gt off, 3)) (ht : (pc : Int) + off = (t : Int)) (hJ : ∀ ls st h, J ls st h → zV X M Q k n t ls st h) (hK : ∀ ls st h, K ls st h → zV X M Q k n (pc + 3) ls st h) : ∀ ls st h, oICGT J K ls st h → zV X M Q k n pc ls st h := by
  intro ls st h hk p l e s m args below meth c A D ad0 ad tys ws H locs cls cst hB hls hst
  unfold oICGT at hk
  split at hk
  · obtain ⟨c1, rfl, hs1⟩ := hst.i
    obtain ⟨c2, rfl, hs2⟩ := hs1.i
    exact lv_icmp_gt hB.1.1 hB.1.2.1 hd ht (fun z => hJ _ _ _ (hk.1 z) p l e s m args below meth c A D ad0 ad tys ws H locs cls _ hB hls hs2) (fun z => hK _ _ _ (hk.2 z) p l e s m args below meth c A D ad0 ad tys ws H locs cls _ hB hls hs2)
  · exact hk.elim
def oIFLE (J K : zCf) : zCf := fun ls st h => match st with
  | .int x :: t => (x ≤ 0 → J ls t h) ∧ (¬ x ≤ 0 → K ls t h)
  | _ => False
theorem sd_ifle {J : zCf} {off : Int} {t : Nat} (hd : decode M.2.1 pc = .ok (.ifCond .le off, 3)) (ht : (pc : Int) + off = (t : Int)) (hJ : ∀ ls st h, J ls st h → zV X M Q k n t ls st h) (hK : ∀ ls st h, K ls st h → zV X M Q k n (pc + 3) ls st h) : ∀ ls st h, oIFLE J K ls st h → zV X M Q k n pc ls st h := by
  intro ls st h hk p l e s m args below meth c A D ad0 ad tys ws H locs cls cst hB hls hst
  unfold oIFLE at hk
  split at hk
  · obtain ⟨c1, rfl, hs1⟩ := hst.i
    exact lv_if_le hB.1.1 hB.1.2.1 hd ht (fun z => hJ _ _ _ (hk.1 z) p l e s m args below meth c A D ad0 ad tys ws H locs cls _ hB hls hs1) (fun z => hK _ _ _ (hk.2 z) p l e s m args below meth c A D ad0 ad tys ws H locs cls _ hB hls hs1)
  · exact hk.elim
def oICLE (J K : zCf) : zCf := fun ls st h => match st with
  | .int y :: .int x :: t => (x ≤ y → J ls t h) ∧ (¬ x ≤ y → K ls t h)
  | _ => False
theorem sd_icle {J : zCf} {off : Int} {t : Nat} (hd : decode M.2.1 pc = .ok (.if_icmp .le off, 3)) (ht : (pc : Int) + off = (t : Int)) (hJ : ∀ ls st h, J ls st h → zV X M Q k n t ls st h) (hK : ∀ ls st h, K ls st h → zV X M Q k n (pc + 3) ls st h) : ∀ ls st h, oICLE J K ls st h → zV X M Q k n pc ls st h := by
  intro ls st h hk p l e s m args below meth c A D ad0 ad tys ws H locs cls cst hB hls hst
  unfold oICLE at hk
  split at hk
  · obtain ⟨c1, rfl, hs1⟩ := hst.i
    obtain ⟨c2, rfl, hs2⟩ := hs1.i
    exact lv_icmp_le hB.1.1 hB.1.2.1 hd ht (fun z => hJ _ _ _ (hk.1 z) p l e s m args below meth c A D ad0 ad tys ws H locs cls _ hB hls hs2) (fun z => hK _ _ _ (hk.2 z) p l e s m args below meth c A D ad0 ad tys ws H locs cls _ hB hls hs2)
  · exact hk.elim
theorem sd_goto {J : zCf} {off : Int} {t : Nat} (hd : decode M.2.1 pc = .ok (.goto off, 3)) (ht : (pc : Int) + off = (t : Int)) (hJ : ∀ ls st h, J ls st h → zV X M Q k n t ls st h) : ∀ ls st h, J ls st h → zV X M Q k n pc ls st h := by
  intro ls st h hk p l e s m args below meth c A D ad0 ad tys ws H locs cls cst hB hls hst
  exact lv_goto hB.1.1 hB.1.2.1 hd ht (hJ _ _ _ hk p l e s m args below meth c A D ad0 ad tys ws H locs cls _ hB hls hst)
def oIFNULL (J K : zCf) : zCf := fun ls st h => match st with
  | .null :: t => J ls t h
  | .ref _ :: t => K ls t h
  | _ => False
def oIFNONNULL (J K : zCf) : zCf := fun ls st h => match st with
  | .null :: t => K ls t h
  | .ref _ :: t => J ls t h
  | _ => False
theorem sd_ifnull {J : zCf} {off : Int} {t : Nat} (hd : decode M.2.1 pc = .ok (.ifnull off, 3)) (ht : (pc : Int) + off = (t : Int)) (hJ : ∀ ls st h, J ls st h → zV X M Q k n t ls st h) (hK : ∀ ls st h, K ls st h → zV X M Q k n (pc + 3) ls st h) : ∀ ls st h, oIFNULL J K ls st h → zV X M Q k n pc ls st h := by
  intro ls st h hk p l e s m args below meth c A D ad0 ad tys ws H locs cls cst hB hls hst
  unfold oIFNULL at hk
  split at hk
  · obtain ⟨c1, rfl, hs1⟩ := hst.n
    exact lv_ifnullN hB.1.1 hB.1.2.1 hd ht (hJ _ _ _ hk p l e s m args below meth c A D ad0 ad tys ws H locs cls _ hB hls hs1)
  · obtain ⟨a, c1, h1, rfl, hs1⟩ := hst.r
    exact lv_ifnull hB.1.1 hB.1.2.1 hd (hK _ _ _ hk p l e s m args below meth c A D ad0 ad tys ws H locs cls _ hB hls hs1)
  · exact hk.elim
theorem sd_ifnonnull {J : zCf} {off : Int} {t : Nat} (hd : decode M.2.1 pc = .ok (.ifnonnull off, 3)) (ht : (pc : Int) + off = (t : Int)) (hJ : ∀ ls st h, J ls st h → zV X M Q k n t ls st h) (hK : ∀ ls st h, K ls st h → zV X M Q k n (pc + 3) ls st h) : ∀ ls st h, oIFNONNULL J K ls st h → zV X M Q k n pc ls st h := by
  intro ls st h hk p l e s m args below meth c A D ad0 ad tys ws H locs cls cst hB hls hst
  unfold oIFNONNULL at hk
  split at hk
  · obtain ⟨c1, rfl, hs1⟩ := hst.n
    exact lv_ifnonnullN hB.1.1 hB.1.2.1 hd (hK _ _ _ hk p l e s m args below meth c A D ad0 ad tys ws H locs cls _ hB hls hs1)
  · obtain ⟨a, c1, h1, rfl, hs1⟩ := hst.r
    exact lv_ifnonnull hB.1.1 hB.1.2.1 hd ht (hJ _ _ _ hk p l e s m args below meth c A D ad0 ad tys ws H locs cls _ hB hls hs1)
  · exact hk.elim
def oTSW (lo : Int) (n : Nat) (Js : Nat → zCf) (Jd : zCf) : zCf := fun ls st h => match st with
  | .int x :: t => (x.toInt < lo ∨ lo + n ≤ x.toInt → Jd ls t h) ∧ ∀ i : Nat, i < n → x.toInt = lo + i → Js i ls t h
  | _ => False
theorem sd_tsw {Js : Nat → zCf} {Jd : zCf} {dflt lo hi : Int} {offs : Array Int} {len td cnt : Nat} {tg : Nat → Nat} (hd : decode M.2.1 pc = .ok (.tableswitch dflt lo hi offs, len)) (hhi : hi + 1 = lo + cnt) (htd : (pc : Int) + dflt = (td : Int)) (ho : ∀ i, i < cnt → ∃ off, offs[i]? = some off ∧ (pc : Int) + off = (tg i : Int))
    (hJd : ∀ ls st h, Jd ls st h → zV X M Q k n td ls st h) (hJ : ∀ i, i < cnt → ∀ ls st h, Js i ls st h → zV X M Q k n (tg i) ls st h) : ∀ ls st h, oTSW lo cnt Js Jd ls st h → zV X M Q k n pc ls st h := by
  intro ls st h hk p l e s m args below meth c A D ad0 ad tys ws H locs cls cst hB hls hst
  unfold oTSW at hk
  split at hk
  · rename_i x t
    obtain ⟨c1, rfl, hs1⟩ := hst.i
    by_cases h1 : x.toInt < lo
    · exact lv_tableOut hB.1.1 hB.1.2.1 hd (Or.inl h1) htd (hJd _ _ _ (hk.1 (Or.inl h1)) p l e s m args below meth c A D ad0 ad tys ws H locs cls _ hB hls hs1)
    · by_cases h2 : hi < x.toInt
      · exact lv_tableOut hB.1.1 hB.1.2.1 hd (Or.inr h2) htd (hJd _ _ _ (hk.1 (Or.inr (by omega))) p l e s m args below meth c A D ad0 ad tys ws H locs cls _ hB hls hs1)
      · obtain ⟨off, g1, g2⟩ := ho (x.toInt - lo).toNat (by omega)
        exact lv_tableIn hB.1.1 hB.1.2.1 hd h1 h2 g1 g2 (hJ _ (by omega) _ _ _ (hk.2 (x.toInt - lo).toNat (by omega) (by omega)) p l e s m args below meth c A D ad0 ad tys ws H locs cls _ hB hls hs1)
  · exact hk.elim
end ZR
