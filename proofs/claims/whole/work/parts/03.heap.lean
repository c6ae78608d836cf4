theorem zNw {s U : State} (hW : s.WarmedH U.vm) {w : Cond} (hw : w ∈ zwn) (h : va_Nw w s) : va_Nw w U := by
  have h1 := (List.mem_filter.mp hw).2
  cases w <;> first | exact h.warmF hW | exact h.warmM hW | (simp [zisn] at h1; done) | exact va_Nw.warmF hW h | exact va_Nw.warmM hW h
theorem zE.move {X : Nat × (Nat → Int32)} {s U : State} {A A1 : Nat → Prop} {ad ad' : Nat → Option Nat} (hE : zE X s A ad) (hW : s.WarmedH U.vm) (hk : ∀ a : Nat, a < s.heap.size → ¬ A a → U.heap[a]? = s.heap[a]?) (hA : ∀ q, A1 q → A q) (hsz : s.heap.size ≤ U.heap.size) (hl : zLe ad ad') : zE X U A1 ad' := by
  obtain ⟨h0, ⟨adK, adV, h1, h2⟩, h3, b, h4, h5, h6, h7⟩ := hE
  exact ⟨fun w hw => zNw hW hw (h0 w hw), ⟨adK, adV, ((h1.moved hW.alike).kept hk).narrow hA, fun i q hi => ⟨(h2 i q hi).1.warm hW, hl _ _ (h2 i q hi).2⟩⟩, ⟨((h3.1.moved hW.alike).kept hk).narrow hA, ((h3.2.1.moved hW.alike).kept hk).narrow hA, ((h3.2.2.1.moved hW.alike).kept hk).narrow hA, ((h3.2.2.2.moved hW.alike).kept hk).narrow hA⟩, b, (h4.moved hW.alike).kept (hk b h5 h6), Nat.lt_of_lt_of_le h5 hsz, fun z => h6 (hA b z), hl _ _ h7⟩
def zCls (ci : Nat) (C : String) (T : u_T) (N : Nat) (t0 : Nat → FieldType) : Prop := vwCl[ci]? = some (C, T, N) ∧ (∀ w ∈ u_ws C T N, w ∈ zws) ∧ (∀ k, k < N → parseFieldDescriptor (T k).2.2.1 = some (t0 k)) ∧ (∀ a, a < N → ∀ b, b < N → a ≠ b → (T a).2.1 ≠ (T b).2.1) ∧ zft ci = (List.range N).map t0
def zLk (own : String) (idx : Nat) (T : u_T) (j : Nat) : Prop := Cond.fieldLink own idx (T j).1 (T j).2.1 (T j).2.2.1 ∈ zws ∨ ∃ host, Cond.fieldLinkNest own idx (T j).1 (T j).2.1 (T j).2.2.1 host ∈ zwn
section ZH
variable {X : Nat × (Nat → Int32)} {M : zM} {Q : zQt} {k n pc : Nat} {K : zCf} {h : zHp} {p : Program} {l : Launch} {e : Env} {s : State} {m : MethodId} {args : Array Value} {below : List Frame} {meth : Method} {c : Code} {A : Nat → Prop} {D : va_G} {ad0 ad : Nat → Option Nat} {tys : List (ClassId × FieldType)} {ws : va_W} {H : Heap} {locs : List Loc} {cls : Array Slot} {rest : List Value} {QQ : State → Prop} {R : Room}
theorem z_slot {ci : Nat} {C : String} {T : u_T} {N : Nat} {t0 : Nat → FieldType} {k' a j : Nat} (hH : zH ad tys h ws) (hz : zsh h k' = some (.inl ci)) (h1 : ad k' = some a) (hc : zCls ci C T N t0) (hj : j < N) :
    ∃ (q : Nat) (fs : List Value) (w : Value), ws[q]? = some (a, .inr (ci, fs)) ∧ fs[j]? = some w ∧ zfv ad h k' j (t0 j) w ∧ fs.length = N ∧ ∀ (j : Nat) (ty : FieldType), (zft ci)[j]? = some ty → ∃ w, fs[j]? = some w ∧ zfv ad h k' j ty w := by
  obtain ⟨a', q, e, g1, g2, fs, rfl, g3, g4⟩ := hH.2.2 k' _ hz
  cases h1.symm.trans g1
  have hN : (zft ci).length = N := by rw [hc.2.2.2.2]; simp
  have hj' : (zft ci)[j]? = some (t0 j) := by rw [hc.2.2.2.2]; simp [hj]
  obtain ⟨w, g5, g6⟩ := g4 j _ hj'
  exact ⟨q, fs, w, g2, g5, g6, g3.trans hN, g4⟩
theorem z_get {ci : Nat} {C : String} {T : u_T} {N idx : Nat} {t0 : Nat → FieldType} {k' a j : Nat} (hB : zB X M h l p s m args meth c A D ad0 ad tys ws H locs) (hz : zsh h k' = some (.inl ci)) (h1 : ad k' = some a) (hd : decode M.2.1 pc = .ok (.getfield idx, 3)) (hc : zCls ci C T N t0) (hj : j < N) (hl : zLk M.1.cls idx T j)
    (hk : ∀ w, zfv ad h k' j (t0 j) w → W p l e R s m args below meth c H locs k n QQ (F0 m (pc + 3) cls (w :: rest))) : W p l e R s m args below meth c H locs k n QQ (F0 m pc cls (.ref a :: rest)) := by
  obtain ⟨⟨hx, hb, -, -, hown, hts, -⟩, hE, -, hK, hP, hD, hS, hH, -⟩ := hB
  obtain ⟨q, fs, w, g1, g2, g3, -, -⟩ := z_slot hH hz h1 hc hj
  rcases hl with hl | ⟨host, hl⟩
  · exact va_get hx hb hts hc.2.1 hown hK hP q g1 hc.1 j hj (hts _ hl) (fun _ h9 => h9) g2 hd (hk w g3)
  · exact va_getN hx hb hts hc.2.1 hown hK hP q g1 hc.1 j hj (va_Nw.use rfl (hE.1 _ hl)) (fun _ h9 => h9) g2 hd (hk w g3)
theorem z_put {ci : Nat} {C : String} {T : u_T} {N idx : Nat} {t0 : Nat → FieldType} {k' a j : Nat} {v : Value} {h' : zHp} (hB : zB X M h l p s m args meth c A D ad0 ad tys ws H locs) (hz : zsh h k' = some (.inl ci)) (h1 : ad k' = some a) (hd : decode M.2.1 pc = .ok (.putfield idx, 3)) (hc : zCls ci C T N t0) (hj : j < N) (hl : zLk M.1.cls idx T j)
    (hfin : (T j).2.2.2 = false ∨ ((T j).2.2.2 = true ∧ M.1.name = "<init>" ∧ (T j).1 = M.1.cls ∧ Cond.fieldLink M.1.cls idx (T j).1 (T j).2.1 (T j).2.2.1 ∈ zws)) (hn : narrow (t0 j) v = v) (hfit : fits (t0 j) v = true)
    (hs : h'.1 = h.1) (hi : ∀ a b, ¬ (a = k' ∧ b = j) → zgi h' a b = zgi h a b) (hll : ∀ a b, ¬ (a = k' ∧ b = j) → zgl h' a b = zgl h a b) (hr : ∀ a b, ¬ (a = k' ∧ b = j) → zgr h' a b = zgr h a b) (hv : zfv ad h' k' j (t0 j) v)
    (hk : ∀ (ws : va_W) (H : Heap) (locs : List Loc), zB X M h' l p s m args meth c A D ad0 ad tys ws H locs → W p l e R s m args below meth c H locs k n QQ (F0 m (pc + 3) cls rest)) : W p l e R s m args below meth c H locs k n QQ (F0 m pc cls (v :: .ref a :: rest)) := by
  obtain ⟨hC, hE, hL, hK, hP, hD, hS, hH, hF⟩ := hB
  obtain ⟨hx, hb, hr0, hml, hown, hts, hlk, hA, hnm, -⟩ := id hC
  obtain ⟨q, fs, w, g1, g2, g3, g4, g5⟩ := z_slot hH hz h1 hc hj
  have key : zH ad tys h' (ws.set q (a, .inr (ci, fs.set j v))) := by
    refine hH.set hs hz h1 g1 (fun x hx b => hi x b (fun z => hx z.1)) (fun x hx b => hll x b (fun z => hx z.1)) (fun x hx b => hr x b (fun z => hx z.1)) ⟨fs.set j v, rfl, by rw [List.length_set, g4, hc.2.2.2.2]; simp, fun j' ty hj' => ?_⟩
    by_cases e : j' = j
    · subst e
      have : (zft ci)[j']? = some (t0 j') := by rw [hc.2.2.2.2]; simp [hj]
      cases this.symm.trans hj'
      exact ⟨v, List.getElem?_set_self (by omega), hv⟩
    · obtain ⟨w', g6, g7⟩ := g5 j' ty hj'
      exact ⟨w', by rw [List.getElem?_set_ne (fun z => e z.symm)]; exact g6, g7.same zLe.rf (hi _ _ (fun z => e z.2)) (hll _ _ (fun z => e z.2)) (hr _ _ (fun z => e z.2))⟩
  rcases hfin with hf | ⟨hf, hin, hdc, hl2⟩
  · rcases hl with hl | ⟨host, hl⟩
    · exact va_put hx hb hts hc.2.1 t0 hc.2.2.1 hc.2.2.2.1 hown hK hP hD hS q g1 hc.1 j hj (hts _ hl) (fun _ h9 => h9) hf (hc.2.2.1 j hj) hn hfit (by omega) hd (fun H1 locs1 hP1 hD1 hS1 => hk _ _ _ ⟨hC, hE, hL, hK, hP1, hD1, hS1, key, hF.set g1⟩)
    · exact va_putN hx hb hts hc.2.1 t0 hc.2.2.1 hc.2.2.2.1 hown hK hP hD hS q g1 hc.1 j hj (va_Nw.use rfl (hE.1 _ hl)) (fun _ h9 => h9) hf (hc.2.2.1 j hj) hn hfit (by omega) hd (fun H1 locs1 hP1 hD1 hS1 => hk _ _ _ ⟨hC, hE, hL, hK, hP1, hD1, hS1, key, hF.set g1⟩)
  · exact va_putF hx hb hts hc.2.1 t0 hc.2.2.1 hc.2.2.2.1 hown hK hP hD hS q g1 hc.1 j hj (hts _ hl2) (fun _ h9 => h9) hf (hnm.trans hin) hdc (hc.2.2.1 j hj) hn hfit (by omega) hd (fun H1 locs1 hP1 hD1 hS1 => hk _ _ _ ⟨hC, hE, hL, hK, hP1, hD1, hS1, key, hF.set g1⟩)
theorem z_row {k' a n' : Nat} {ty : FieldType} (hH : zH ad tys h ws) (hz : zsh h k' = some (.inr (ty, n'))) (h1 : ad k' = some a) : ∃ (q : Nat) (cA : ClassId) (t0 : Nat) (x : (Nat → Int32) ⊕ (Nat → Int64) ⊕ (Nat → UInt32) ⊕ (Nat → UInt64) ⊕ (Nat → Option Nat)), ws[q]? = some (a, .inl (cA, n', x)) ∧ tys[t0]? = some (cA, ty) ∧ zarr ad h k' n' ty x := by
  obtain ⟨a', q, e, g1, g2, cA, t0, x, g3, rfl, g4⟩ := hH.2.2 k' _ hz
  cases h1.symm.trans g1
  exact ⟨q, cA, t0, x, g2, g3, g4⟩
end ZH
section ZR2
variable {X : Nat × (Nat → Int32)} {M : zM} {Q : zQt} {k n pc : Nat} {K : zCf}

def oGETI (ci j : Nat) (K : zCf) : zCf := fun ls st h => match st with
  | .ref k :: t => zsh h k = some (.inl ci) ∧ K ls (.int (zgi h k j) :: t) h
  | _ => False
theorem sd_geti {ci : Nat} {C : String} {T : u_T} {N idx j : Nat} {t0 : Nat → FieldType} (hd : decode M.2.1 pc = .ok (.getfield idx, 3)) (hc : zCls ci C T N t0) (hj : j < N) (hl : zLk M.1.cls idx T j) (hty : t0 j = .int ∨ t0 j = .boolean) (hK : ∀ ls st h, K ls st h → zV X M Q k n (pc + 3) ls st h) : ∀ ls st h, oGETI ci j K ls st h → zV X M Q k n pc ls st h := by
  intro ls st h hk p l e s m args below meth c A D ad0 ad tys ws H locs cls cst hB hls hst
  unfold oGETI at hk
  split at hk
  · obtain ⟨hz, hk⟩ := hk
    obtain ⟨a, c1, h1, rfl, hs1⟩ := hst.r
    exact z_get hB hz h1 hd hc hj hl (fun w hw => by
      rcases hty with hty | hty <;> (rw [hty] at hw; exact hK _ _ _ hk p l e s m args below meth c A D ad0 ad tys ws H locs cls _ hB hls ⟨hw, hs1⟩))
  · exact hk.elim
def oGETL (ci j : Nat) (K : zCf) : zCf := fun ls st h => match st with
  | .ref k :: t => zsh h k = some (.inl ci) ∧ K ls (.long (zgl h k j) :: t) h
  | _ => False
theorem sd_getl {ci : Nat} {C : String} {T : u_T} {N idx j : Nat} {t0 : Nat → FieldType} (hd : decode M.2.1 pc = .ok (.getfield idx, 3)) (hc : zCls ci C T N t0) (hj : j < N) (hl : zLk M.1.cls idx T j) (hty : t0 j = .long) (hK : ∀ ls st h, K ls st h → zV X M Q k n (pc + 3) ls st h) : ∀ ls st h, oGETL ci j K ls st h → zV X M Q k n pc ls st h := by
  intro ls st h hk p l e s m args below meth c A D ad0 ad tys ws H locs cls cst hB hls hst
  unfold oGETL at hk
  split at hk
  · obtain ⟨hz, hk⟩ := hk
    obtain ⟨a, c1, h1, rfl, hs1⟩ := hst.r
    exact z_get hB hz h1 hd hc hj hl (fun w hw => by
      rw [hty] at hw
      exact hK _ _ _ hk p l e s m args below meth c A D ad0 ad tys ws H locs cls _ hB hls ⟨hw, hs1⟩)
  · exact hk.elim
def oGETR (ci j : Nat) (K : zCf) : zCf := fun ls st h => match st with
  | .ref k :: t => zsh h k = some (.inl ci) ∧ K ls (zvr (zgr h k j) :: t) h
  | _ => False
theorem sd_getr {ci : Nat} {C : String} {T : u_T} {N idx j : Nat} {t0 : Nat → FieldType} (hd : decode M.2.1 pc = .ok (.getfield idx, 3)) (hc : zCls ci C T N t0) (hj : j < N) (hl : zLk M.1.cls idx T j) (hty : (∃ C, t0 j = .object C) ∨ ∃ t, t0 j = .array t) (hK : ∀ ls st h, K ls st h → zV X M Q k n (pc + 3) ls st h) : ∀ ls st h, oGETR ci j K ls st h → zV X M Q k n pc ls st h := by
  intro ls st h hk p l e s m args below meth c A D ad0 ad tys ws H locs cls cst hB hls hst
  unfold oGETR at hk
  split at hk
  · obtain ⟨hz, hk⟩ := hk
    obtain ⟨a, c1, h1, rfl, hs1⟩ := hst.r
    exact z_get hB hz h1 hd hc hj hl (fun w hw => by
      rcases hty with ⟨C', hty⟩ | ⟨t', hty⟩ <;> (rw [hty] at hw; exact hK _ _ _ hk p l e s m args below meth c A D ad0 ad tys ws H locs cls _ hB hls ⟨zrv.xv hw, hs1⟩))
  · exact hk.elim
theorem z_bool {x : Int32} (h : x = 0 ∨ x = 1) : narrow .boolean (.int x) = .int x ∧ fits .boolean (.int x) = true := by
  rcases h with rfl | rfl <;> exact ⟨by decide, by decide⟩
def oPUTI (ci j : Nat) (K : zCf) : zCf := fun ls st h => match st with
  | .int x :: .ref k :: t => zsh h k = some (.inl ci) ∧ K ls t (zpi h k j x)
  | _ => False
theorem sd_puti {ci : Nat} {C : String} {T : u_T} {N idx j : Nat} {t0 : Nat → FieldType} (hd : decode M.2.1 pc = .ok (.putfield idx, 3)) (hc : zCls ci C T N t0) (hj : j < N) (hl : zLk M.1.cls idx T j) (hty : t0 j = .int) (hfin : (T j).2.2.2 = false ∨ ((T j).2.2.2 = true ∧ M.1.name = "<init>" ∧ (T j).1 = M.1.cls ∧ Cond.fieldLink M.1.cls idx (T j).1 (T j).2.1 (T j).2.2.1 ∈ zws)) (hK : ∀ ls st h, K ls st h → zV X M Q k n (pc + 3) ls st h) : ∀ ls st h, oPUTI ci j K ls st h → zV X M Q k n pc ls st h := by
  intro ls st h hk p l e s m args below meth c A D ad0 ad tys ws H locs cls cst hB hls hst
  unfold oPUTI at hk
  split at hk
  · rename_i x k' t
    obtain ⟨hz, hk⟩ := hk
    obtain ⟨c1, rfl, hs1⟩ := hst.i
    obtain ⟨a, c2, h1, rfl, hs2⟩ := hs1.r
    exact z_put (h' := zpi h k' j x) hB hz h1 hd hc hj hl hfin (by rw [hty]; rfl) (by rw [hty]; rfl) rfl (fun a b hab => if_neg hab) (fun a b _ => rfl) (fun a b _ => rfl) (by rw [hty]; exact congrArg Value.int (if_pos ⟨rfl, rfl⟩).symm) (fun ws H locs hB => hK _ _ _ hk p l e s m args below meth c A D ad0 ad tys ws H locs cls _ hB hls hs2)
  · exact hk.elim
def oPUTZ (ci j : Nat) (K : zCf) : zCf := fun ls st h => match st with
  | .int x :: .ref k :: t => zsh h k = some (.inl ci) ∧ (x = 0 ∨ x = 1) ∧ K ls t (zpi h k j x)
  | _ => False
theorem sd_putz {ci : Nat} {C : String} {T : u_T} {N idx j : Nat} {t0 : Nat → FieldType} (hd : decode M.2.1 pc = .ok (.putfield idx, 3)) (hc : zCls ci C T N t0) (hj : j < N) (hl : zLk M.1.cls idx T j) (hty : t0 j = .boolean) (hfin : (T j).2.2.2 = false ∨ ((T j).2.2.2 = true ∧ M.1.name = "<init>" ∧ (T j).1 = M.1.cls ∧ Cond.fieldLink M.1.cls idx (T j).1 (T j).2.1 (T j).2.2.1 ∈ zws)) (hK : ∀ ls st h, K ls st h → zV X M Q k n (pc + 3) ls st h) : ∀ ls st h, oPUTZ ci j K ls st h → zV X M Q k n pc ls st h := by
  intro ls st h hk p l e s m args below meth c A D ad0 ad tys ws H locs cls cst hB hls hst
  unfold oPUTZ at hk
  split at hk
  · rename_i x k' t
    obtain ⟨hz, hbx, hk⟩ := hk
    obtain ⟨c1, rfl, hs1⟩ := hst.i
    obtain ⟨a, c2, h1, rfl, hs2⟩ := hs1.r
    exact z_put (h' := zpi h k' j x) hB hz h1 hd hc hj hl hfin (by rw [hty]; exact (z_bool hbx).1) (by rw [hty]; exact (z_bool hbx).2) rfl (fun a b hab => if_neg hab) (fun a b _ => rfl) (fun a b _ => rfl) (by rw [hty]; exact congrArg Value.int (if_pos ⟨rfl, rfl⟩).symm) (fun ws H locs hB => hK _ _ _ hk p l e s m args below meth c A D ad0 ad tys ws H locs cls _ hB hls hs2)
  · exact hk.elim
def oPUTL (ci j : Nat) (K : zCf) : zCf := fun ls st h => match st with
  | .long x :: .ref k :: t => zsh h k = some (.inl ci) ∧ K ls t (zpl h k j x)
  | _ => False
theorem sd_putl {ci : Nat} {C : String} {T : u_T} {N idx j : Nat} {t0 : Nat → FieldType} (hd : decode M.2.1 pc = .ok (.putfield idx, 3)) (hc : zCls ci C T N t0) (hj : j < N) (hl : zLk M.1.cls idx T j) (hty : t0 j = .long) (hfin : (T j).2.2.2 = false ∨ ((T j).2.2.2 = true ∧ M.1.name = "<init>" ∧ (T j).1 = M.1.cls ∧ Cond.fieldLink M.1.cls idx (T j).1 (T j).2.1 (T j).2.2.1 ∈ zws)) (hK : ∀ ls st h, K ls st h → zV X M Q k n (pc + 3) ls st h) : ∀ ls st h, oPUTL ci j K ls st h → zV X M Q k n pc ls st h := by
  intro ls st h hk p l e s m args below meth c A D ad0 ad tys ws H locs cls cst hB hls hst
  unfold oPUTL at hk
  split at hk
  · rename_i x k' t
    obtain ⟨hz, hk⟩ := hk
    obtain ⟨c1, rfl, hs1⟩ := hst.l
    obtain ⟨a, c2, h1, rfl, hs2⟩ := hs1.r
    exact z_put (h' := zpl h k' j x) hB hz h1 hd hc hj hl hfin (by rw [hty]; rfl) (by rw [hty]; rfl) rfl (fun a b _ => rfl) (fun a b hab => if_neg hab) (fun a b _ => rfl) (by rw [hty]; exact congrArg Value.long (if_pos ⟨rfl, rfl⟩).symm) (fun ws H locs hB => hK _ _ _ hk p l e s m args below meth c A D ad0 ad tys ws H locs cls _ hB hls hs2)
  · exact hk.elim
def oPUTR (ci j : Nat) (K : zCf) : zCf := fun ls st h => match st with
  | .ref x :: .ref k :: t => zsh h k = some (.inl ci) ∧ K ls t (zpr h k j (some x))
  | _ => False
theorem sd_putr {ci : Nat} {C : String} {T : u_T} {N idx j : Nat} {t0 : Nat → FieldType} (hd : decode M.2.1 pc = .ok (.putfield idx, 3)) (hc : zCls ci C T N t0) (hj : j < N) (hl : zLk M.1.cls idx T j) (hty : (∃ C, t0 j = .object C) ∨ ∃ t, t0 j = .array t) (hfin : (T j).2.2.2 = false ∨ ((T j).2.2.2 = true ∧ M.1.name = "<init>" ∧ (T j).1 = M.1.cls ∧ Cond.fieldLink M.1.cls idx (T j).1 (T j).2.1 (T j).2.2.1 ∈ zws)) (hK : ∀ ls st h, K ls st h → zV X M Q k n (pc + 3) ls st h) : ∀ ls st h, oPUTR ci j K ls st h → zV X M Q k n pc ls st h := by
  intro ls st h hk p l e s m args below meth c A D ad0 ad tys ws H locs cls cst hB hls hst
  unfold oPUTR at hk
  split at hk
  · rename_i x k' t
    obtain ⟨hz, hk⟩ := hk
    obtain ⟨b, c1, h0, rfl, hs1⟩ := hst.r
    obtain ⟨a, c2, h1, rfl, hs2⟩ := hs1.r
    have hr : zrv ad (zgr (zpr h k' j (some x)) k' j) (Value.ref b) := by
      have e1 : zgr (zpr h k' j (some x)) k' j = some x := if_pos ⟨rfl, rfl⟩
      rw [e1]
      exact ⟨b, h0, rfl⟩
    refine z_put (h' := zpr h k' j (some x)) hB hz h1 hd hc hj hl hfin ?_ ?_ rfl (fun a b _ => rfl) (fun a b _ => rfl) (fun a b hab => if_neg hab) ?_ (fun ws H locs hB => hK _ _ _ hk p l e s m args below meth c A D ad0 ad tys ws H locs cls _ hB hls hs2)
    · rcases hty with ⟨C', hty⟩ | ⟨t', hty⟩ <;> (rw [hty]; rfl)
    · rcases hty with ⟨C', hty⟩ | ⟨t', hty⟩ <;> (rw [hty]; rfl)
    · rcases hty with ⟨C', hty⟩ | ⟨t', hty⟩ <;> (rw [hty]; exact hr)
  · exact hk.elim
def oIALD (K : zCf) : zCf := fun ls st h => match st with
  | .int i :: .ref k :: t => match zsh h k with
    | some (.inr (.int, n)) => vp_in i n ∧ K ls (.int (zgi h k i.toNatClampNeg) :: t) h
    | _ => False
  | _ => False
theorem sd_iald (hd : decode M.2.1 pc = .ok (.iaload, 1)) (hK : ∀ ls st h, K ls st h → zV X M Q k n (pc + 1) ls st h) : ∀ ls st h, oIALD K ls st h → zV X M Q k n pc ls st h := by
  intro ls st h hk p l e s m args below meth c A D ad0 ad tys ws H locs cls cst hB hls hst
  unfold oIALD at hk
  split at hk
  · split at hk
    · rename_i i k' t _ n' hz
      obtain ⟨hin, hk⟩ := hk
      obtain ⟨c1, rfl, hs1⟩ := hst.i
      obtain ⟨a, c2, h1, rfl, hs2⟩ := hs1.r
      obtain ⟨q, cA, t0, x, g1, g2, f, rfl, g3⟩ := z_row hB.2.2.2.2.2.2.2.1 hz h1
      have hlt : i.toNatClampNeg < n' := Nat.not_le.mp fun q => hin (Or.inr q)
      exact va_iald hB.1.1 hB.1.2.1 hB.2.2.2.1 hB.2.2.2.2.1 q t0 g1 g2 hin hd (hK _ _ _ hk p l e s m args below meth c A D ad0 ad tys ws H locs cls _ hB hls ⟨by rw [g3 _ hlt]; rfl, hs2⟩)
    · exact hk.elim
  · exact hk.elim
def oBALD (K : zCf) : zCf := fun ls st h => match st with
  | .int i :: .ref k :: t => match zsh h k with
    | some (.inr (.byte, n)) => vp_in i n ∧ K ls (.int (zgi h k i.toNatClampNeg) :: t) h
    | _ => False
  | _ => False
theorem sd_bald (hd : decode M.2.1 pc = .ok (.baload, 1)) (hK : ∀ ls st h, K ls st h → zV X M Q k n (pc + 1) ls st h) : ∀ ls st h, oBALD K ls st h → zV X M Q k n pc ls st h := by
  intro ls st h hk p l e s m args below meth c A D ad0 ad tys ws H locs cls cst hB hls hst
  unfold oBALD at hk
  split at hk
  · split at hk
    · rename_i i k' t _ n' hz
      obtain ⟨hin, hk⟩ := hk
      obtain ⟨c1, rfl, hs1⟩ := hst.i
      obtain ⟨a, c2, h1, rfl, hs2⟩ := hs1.r
      obtain ⟨q, cA, t0, x, g1, g2, f, rfl, g3⟩ := z_row hB.2.2.2.2.2.2.2.1 hz h1
      have hlt : i.toNatClampNeg < n' := Nat.not_le.mp fun q => hin (Or.inr q)
      exact va_bald hB.1.1 hB.1.2.1 hB.2.2.2.1 hB.2.2.2.2.1 q t0 g1 g2 hin hd (hK _ _ _ hk p l e s m args below meth c A D ad0 ad tys ws H locs cls _ hB hls ⟨by rw [g3 _ hlt]; rfl, hs2⟩)
    · exact hk.elim
  · exact hk.elim
def oZALD (K : zCf) : zCf := fun ls st h => match st with
  | .int i :: .ref k :: t => match zsh h k with
    | some (.inr (.boolean, n)) => vp_in i n ∧ K ls (.int (zgi h k i.toNatClampNeg) :: t) h
    | _ => False
  | _ => False
theorem sd_zald (hd : decode M.2.1 pc = .ok (.baload, 1)) (hK : ∀ ls st h, K ls st h → zV X M Q k n (pc + 1) ls st h) : ∀ ls st h, oZALD K ls st h → zV X M Q k n pc ls st h := by
  intro ls st h hk p l e s m args below meth c A D ad0 ad tys ws H locs cls cst hB hls hst
  unfold oZALD at hk
  split at hk
  · split at hk
    · rename_i i k' t _ n' hz
      obtain ⟨hin, hk⟩ := hk
      obtain ⟨c1, rfl, hs1⟩ := hst.i
      obtain ⟨a, c2, h1, rfl, hs2⟩ := hs1.r
      obtain ⟨q, cA, t0, x, g1, g2, f, rfl, g3⟩ := z_row hB.2.2.2.2.2.2.2.1 hz h1
      have hlt : i.toNatClampNeg < n' := Nat.not_le.mp fun q => hin (Or.inr q)
      exact va_zald hB.1.1 hB.1.2.1 hB.2.2.2.1 hB.2.2.2.2.1 q t0 g1 g2 hin hd (hK _ _ _ hk p l e s m args below meth c A D ad0 ad tys ws H locs cls _ hB hls ⟨by rw [g3 _ hlt]; rfl, hs2⟩)
    · exact hk.elim
  · exact hk.elim
def oLALD (K : zCf) : zCf := fun ls st h => match st with
  | .int i :: .ref k :: t => match zsh h k with
    | some (.inr (.long, n)) => vp_in i n ∧ K ls (.long (zgl h k i.toNatClampNeg) :: t) h
    | _ => False
  | _ => False
theorem sd_lald (hd : decode M.2.1 pc = .ok (.laload, 1)) (hK : ∀ ls st h, K ls st h → zV X M Q k n (pc + 1) ls st h) : ∀ ls st h, oLALD K ls st h → zV X M Q k n pc ls st h := by
  intro ls st h hk p l e s m args below meth c A D ad0 ad tys ws H locs cls cst hB hls hst
  unfold oLALD at hk
  split at hk
  · split at hk
    · rename_i i k' t _ n' hz
      obtain ⟨hin, hk⟩ := hk
      obtain ⟨c1, rfl, hs1⟩ := hst.i
      obtain ⟨a, c2, h1, rfl, hs2⟩ := hs1.r
      obtain ⟨q, cA, t0, x, g1, g2, f, rfl, g3⟩ := z_row hB.2.2.2.2.2.2.2.1 hz h1
      have hlt : i.toNatClampNeg < n' := Nat.not_le.mp fun q => hin (Or.inr q)
      exact va_lald hB.1.1 hB.1.2.1 hB.2.2.2.1 hB.2.2.2.2.1 q t0 g1 g2 hin hd (hK _ _ _ hk p l e s m args below meth c A D ad0 ad tys ws H locs cls _ hB hls ⟨by rw [g3 _ hlt]; rfl, hs2⟩)
    · exact hk.elim
  · exact hk.elim
def oAALD (K : zCf) : zCf := fun ls st h => match st with
  | .int i :: .ref k :: t => match zsh h k with
    | some (.inr (.array _, n)) => vp_in i n ∧ K ls (zvr (zgr h k i.toNatClampNeg) :: t) h
    | _ => False
  | _ => False
theorem sd_aald (hd : decode M.2.1 pc = .ok (.aaload, 1)) (hK : ∀ ls st h, K ls st h → zV X M Q k n (pc + 1) ls st h) : ∀ ls st h, oAALD K ls st h → zV X M Q k n pc ls st h := by
  intro ls st h hk p l e s m args below meth c A D ad0 ad tys ws H locs cls cst hB hls hst
  unfold oAALD at hk
  split at hk
  · split at hk
    · rename_i i k' t _ ty' n' hz
      obtain ⟨hin, hk⟩ := hk
      obtain ⟨c1, rfl, hs1⟩ := hst.i
      obtain ⟨a, c2, h1, rfl, hs2⟩ := hs1.r
      obtain ⟨q, cA, t0, x, g1, g2, f, rfl, g3⟩ := z_row hB.2.2.2.2.2.2.2.1 hz h1
      have hlt : i.toNatClampNeg < n' := Nat.not_le.mp fun q => hin (Or.inr q)
      exact W.aald (v := va_rf (f i.toNatClampNeg)) (ty := .array ty') hB.1.1 hB.1.2.1 (hB.2.2.2.2.1 q _ g1) ((hB.2.2.2.1.2 t0 _ g2).1 n' (fun j => va_rf (f j))) rfl (fun q => by cases q) (by show ¬ (i < 0 ∨ (arrV _ _ _).slots.size ≤ _); rw [arrV_size]; exact hin) (by show (arrV _ _ _).slots[_]? = _; rw [arrV_read _ _ hlt]) rfl rfl hd (hK _ _ _ hk p l e s m args below meth c A D ad0 ad tys ws H locs cls _ hB hls ⟨(g3 _ hlt).xv, hs2⟩)
    · exact hk.elim
  · exact hk.elim
def oALEN (K : zCf) : zCf := fun ls st h => match st with
  | .ref k :: t => match zsh h k with
    | some (.inr (_, n)) => K ls (.int (Int32.ofNat n) :: t) h
    | _ => False
  | _ => False
theorem sd_alen (hd : decode M.2.1 pc = .ok (.arraylength, 1)) (hK : ∀ ls st h, K ls st h → zV X M Q k n (pc + 1) ls st h) : ∀ ls st h, oALEN K ls st h → zV X M Q k n pc ls st h := by
  intro ls st h hk p l e s m args below meth c A D ad0 ad tys ws H locs cls cst hB hls hst
  unfold oALEN at hk
  split at hk
  · split at hk
    · rename_i k' t _ ty' n' hz
      obtain ⟨a, c2, h1, rfl, hs2⟩ := hst.r
      obtain ⟨q, cA, t0, x, g1, g2, g3⟩ := z_row hB.2.2.2.2.2.2.2.1 hz h1
      exact va_alen hB.1.1 hB.1.2.1 hB.2.2.2.1 hB.2.2.2.2.1 q t0 g1 g2 rfl hd (hK _ _ _ hk p l e s m args below meth c A D ad0 ad tys ws H locs cls _ hB hls ⟨rfl, hs2⟩)
    · exact hk.elim
  · exact hk.elim
def oIAST (K : zCf) : zCf := fun ls st h => match st with
  | .int x :: .int i :: .ref k :: t => match zsh h k with
    | some (.inr (.int, n)) => vp_in i n ∧ K ls t (zpi h k i.toNatClampNeg x)
    | _ => False
  | _ => False
theorem sd_iast (hd : decode M.2.1 pc = .ok (.iastore, 1)) (hK : ∀ ls st h, K ls st h → zV X M Q k n (pc + 1) ls st h) : ∀ ls st h, oIAST K ls st h → zV X M Q k n pc ls st h := by
  intro ls st h hk p l e s m args below meth c A D ad0 ad tys ws H locs cls cst hB hls hst
  unfold oIAST at hk
  split at hk
  · split at hk
    · rename_i x i k' t _ n' hz
      obtain ⟨hin, hk⟩ := hk
      obtain ⟨c1, rfl, hs1⟩ := hst.i
      obtain ⟨c2, rfl, hs2⟩ := hs1.i
      obtain ⟨a, c3, h1, rfl, hs3⟩ := hs2.r
      obtain ⟨hC, hE, hL, hKK, hP, hD, hS, hH, hF⟩ := hB
      obtain ⟨q, cA, t0, y, g1, g2, f, rfl, g3⟩ := z_row hH hz h1
      refine va_iast hC.1 hC.2.1 hKK hP hD hS q t0 g1 g2 hin hd (fun H1 locs1 hP1 hD1 hS1 => hK _ _ _ hk p l e s m args below meth c A D ad0 ad tys _ H1 locs1 cls _ ⟨hC, hE, hL, hKK, hP1, hD1, hS1, hH.set rfl hz h1 g1 (fun a ha b => if_neg (fun z => ha z.1)) (fun a _ b => rfl) (fun a _ b => rfl) ⟨cA, t0, _, g2, rfl, _, rfl, fun j hj => ?_⟩, hF.set g1⟩ hls hs3)
      show upd f i.toNatClampNeg x j = if k' = k' ∧ j = i.toNatClampNeg then x else zgi h k' j
      unfold upd
      by_cases hji : j = i.toNatClampNeg
      · rw [if_pos hji, if_pos ⟨rfl, hji⟩]
      · rw [if_neg hji, if_neg (fun z => hji z.2)]
        exact g3 j hj
    · exact hk.elim
  · exact hk.elim
def oBAST (K : zCf) : zCf := fun ls st h => match st with
  | .int x :: .int i :: .ref k :: t => match zsh h k with
    | some (.inr (.byte, n)) => vp_in i n ∧ K ls t (zpi h k i.toNatClampNeg (vp_nar .byte x))
    | _ => False
  | _ => False
theorem sd_bast (hd : decode M.2.1 pc = .ok (.bastore, 1)) (hK : ∀ ls st h, K ls st h → zV X M Q k n (pc + 1) ls st h) : ∀ ls st h, oBAST K ls st h → zV X M Q k n pc ls st h := by
  intro ls st h hk p l e s m args below meth c A D ad0 ad tys ws H locs cls cst hB hls hst
  unfold oBAST at hk
  split at hk
  · split at hk
    · rename_i x i k' t _ n' hz
      obtain ⟨hin, hk⟩ := hk
      obtain ⟨c1, rfl, hs1⟩ := hst.i
      obtain ⟨c2, rfl, hs2⟩ := hs1.i
      obtain ⟨a, c3, h1, rfl, hs3⟩ := hs2.r
      obtain ⟨hC, hE, hL, hKK, hP, hD, hS, hH, hF⟩ := hB
      obtain ⟨q, cA, t0, y, g1, g2, f, rfl, g3⟩ := z_row hH hz h1
      refine va_bast hC.1 hC.2.1 hKK hP hD hS q t0 g1 g2 hin hd (fun H1 locs1 hP1 hD1 hS1 => hK _ _ _ hk p l e s m args below meth c A D ad0 ad tys _ H1 locs1 cls _ ⟨hC, hE, hL, hKK, hP1, hD1, hS1, hH.set rfl hz h1 g1 (fun a ha b => if_neg (fun z => ha z.1)) (fun a _ b => rfl) (fun a _ b => rfl) ⟨cA, t0, _, g2, rfl, _, rfl, fun j hj => ?_⟩, hF.set g1⟩ hls hs3)
      show upd f i.toNatClampNeg (vp_nar .byte x) j = if k' = k' ∧ j = i.toNatClampNeg then (vp_nar .byte x) else zgi h k' j
      unfold upd
      by_cases hji : j = i.toNatClampNeg
      · rw [if_pos hji, if_pos ⟨rfl, hji⟩]
      · rw [if_neg hji, if_neg (fun z => hji z.2)]
        exact g3 j hj
    · exact hk.elim
  · exact hk.elim
def oZAST (K : zCf) : zCf := fun ls st h => match st with
  | .int x :: .int i :: .ref k :: t => match zsh h k with
    | some (.inr (.boolean, n)) => vp_in i n ∧ K ls t (zpi h k i.toNatClampNeg (vp_nar .boolean x))
    | _ => False
  | _ => False
theorem sd_zast (hd : decode M.2.1 pc = .ok (.bastore, 1)) (hK : ∀ ls st h, K ls st h → zV X M Q k n (pc + 1) ls st h) : ∀ ls st h, oZAST K ls st h → zV X M Q k n pc ls st h := by
  intro ls st h hk p l e s m args below meth c A D ad0 ad tys ws H locs cls cst hB hls hst
  unfold oZAST at hk
  split at hk
  · split at hk
    · rename_i x i k' t _ n' hz
      obtain ⟨hin, hk⟩ := hk
      obtain ⟨c1, rfl, hs1⟩ := hst.i
      obtain ⟨c2, rfl, hs2⟩ := hs1.i
      obtain ⟨a, c3, h1, rfl, hs3⟩ := hs2.r
      obtain ⟨hC, hE, hL, hKK, hP, hD, hS, hH, hF⟩ := hB
      obtain ⟨q, cA, t0, y, g1, g2, f, rfl, g3⟩ := z_row hH hz h1
      refine va_zast hC.1 hC.2.1 hKK hP hD hS q t0 g1 g2 hin hd (fun H1 locs1 hP1 hD1 hS1 => hK _ _ _ hk p l e s m args below meth c A D ad0 ad tys _ H1 locs1 cls _ ⟨hC, hE, hL, hKK, hP1, hD1, hS1, hH.set rfl hz h1 g1 (fun a ha b => if_neg (fun z => ha z.1)) (fun a _ b => rfl) (fun a _ b => rfl) ⟨cA, t0, _, g2, rfl, _, rfl, fun j hj => ?_⟩, hF.set g1⟩ hls hs3)
      show upd f i.toNatClampNeg (vp_nar .boolean x) j = if k' = k' ∧ j = i.toNatClampNeg then (vp_nar .boolean x) else zgi h k' j
      unfold upd
      by_cases hji : j = i.toNatClampNeg
      · rw [if_pos hji, if_pos ⟨rfl, hji⟩]
      · rw [if_neg hji, if_neg (fun z => hji z.2)]
        exact g3 j hj
    · exact hk.elim
  · exact hk.elim
def oLAST (K : zCf) : zCf := fun ls st h => match st with
  | .long x :: .int i :: .ref k :: t => match zsh h k with
    | some (.inr (.long, n)) => vp_in i n ∧ K ls t (zpl h k i.toNatClampNeg x)
    | _ => False
  | _ => False
theorem sd_last (hd : decode M.2.1 pc = .ok (.lastore, 1)) (hK : ∀ ls st h, K ls st h → zV X M Q k n (pc + 1) ls st h) : ∀ ls st h, oLAST K ls st h → zV X M Q k n pc ls st h := by
  intro ls st h hk p l e s m args below meth c A D ad0 ad tys ws H locs cls cst hB hls hst
  unfold oLAST at hk
  split at hk
  · split at hk
    · rename_i x i k' t _ n' hz
      obtain ⟨hin, hk⟩ := hk
      obtain ⟨c1, rfl, hs1⟩ := hst.l
      obtain ⟨c2, rfl, hs2⟩ := hs1.i
      obtain ⟨a, c3, h1, rfl, hs3⟩ := hs2.r
      obtain ⟨hC, hE, hL, hKK, hP, hD, hS, hH, hF⟩ := hB
      obtain ⟨q, cA, t0, y, g1, g2, f, rfl, g3⟩ := z_row hH hz h1
      refine va_last hC.1 hC.2.1 hKK hP hD hS q t0 g1 g2 hin hd (fun H1 locs1 hP1 hD1 hS1 => hK _ _ _ hk p l e s m args below meth c A D ad0 ad tys _ H1 locs1 cls _ ⟨hC, hE, hL, hKK, hP1, hD1, hS1, hH.set rfl hz h1 g1 (fun a _ b => rfl) (fun a ha b => if_neg (fun z => ha z.1)) (fun a _ b => rfl) ⟨cA, t0, _, g2, rfl, _, rfl, fun j hj => ?_⟩, hF.set g1⟩ hls hs3)
      show vp_updL f i.toNatClampNeg x j = if k' = k' ∧ j = i.toNatClampNeg then x else zgl h k' j
      unfold vp_updL
      by_cases hji : j = i.toNatClampNeg
      · rw [if_pos hji, if_pos ⟨rfl, hji⟩]
      · rw [if_neg hji, if_neg (fun z => hji z.2)]
        exact g3 j hj
    · exact hk.elim
  · exact hk.elim
end ZR2
section ZRET
variable {X : Nat × (Nat → Int32)} {M : zM} {R : zRt} {k n pc : Nat}
theorem z_q {l : Launch} {A : Nat → Prop} {D : va_G} {ad0 ad : Nat → Option Nat} {tys : List (ClassId × FieldType)} {ws : va_W} {H : Heap} {locs : List Loc} {s t : State} {args : Array Value} {rv v : Option Value} {h : zHp} {p : Program} {m : MethodId} {meth : Method} {c : Code} (hB : zB X M h l p s m args meth c A D ad0 ad tys ws H locs) (hR : R rv h) (hv : zov ad rv v) (ht : t.heap = H) (hW : s.WarmedH t.vm) : zQ R A D ad0 args s (.returned v) t := by
  obtain ⟨hC, hE, hL, hK, hP, hD, hS, hH, hF⟩ := hB
  exact ⟨⟨rv, v, h, ad, tys, ws, hR, hL, va_K.moved hW.alike hK, by rw [ht]; exact hP, hD, hH, hF, rfl, hv⟩, hS.F ht⟩
def oIRET (R : zRt) : zCf := fun _ st h => match st with
  | [.int x] => R (some (.int x)) h
  | _ => False
def oZRET (R : zRt) : zCf := fun _ st h => match st with
  | [.int x] => (x = 0 ∨ x = 1) ∧ R (some (.int x)) h
  | _ => False
def oLRET (R : zRt) : zCf := fun _ st h => match st with
  | [.long x] => R (some (.long x)) h
  | _ => False
def oVRET (R : zRt) : zCf := fun _ st h => match st with
  | [] => R none h
  | _ => False
def oARET (R : zRt) : zCf := fun _ st h => match st with
  | [.ref x] => R (some (.ref x)) h
  | _ => False
theorem sd_iret (hd : decode M.2.1 pc = .ok (.ireturn, 1)) (hr : M.2.2.2.1 = some .int) (hk1 : k ≤ M.2.2.2.2.cells) (hk2 : n ≤ M.2.2.2.2.slots) : ∀ ls st h, oIRET R ls st h → zV X M (zQm M R) k n pc ls st h := by
  intro ls st h hk p l e s m args below meth c A D ad0 ad tys ws H locs cls cst hB hls hst
  unfold oIRET at hk
  split at hk
  · obtain ⟨c1, rfl, hs1⟩ := hst.i
    cases hs1.nil
    exact W.widen hk1 hk2 (W.iret hB.1.1 hB.1.2.1 (hB.1.2.2.1.trans hr) (fun t ht hW => z_q hB hk ⟨_, rfl, rfl⟩ ht hW) hB.2.2.2.2.2.2.1.2.2 hd hB.1.2.2.2.2.2.2.1)
  · exact hk.elim
theorem sd_zret (hd : decode M.2.1 pc = .ok (.ireturn, 1)) (hr : M.2.2.2.1 = some .boolean) (hk1 : k ≤ M.2.2.2.2.cells) (hk2 : n ≤ M.2.2.2.2.slots) : ∀ ls st h, oZRET R ls st h → zV X M (zQm M R) k n pc ls st h := by
  intro ls st h hk p l e s m args below meth c A D ad0 ad tys ws H locs cls cst hB hls hst
  unfold oZRET at hk
  split at hk
  · obtain ⟨hz, hk⟩ := hk
    obtain ⟨c1, rfl, hs1⟩ := hst.i
    cases hs1.nil
    exact W.widen hk1 hk2 (W.zret hB.1.1 hB.1.2.1 (hB.1.2.2.1.trans hr) (z_bool hz).1 (fun t ht hW => z_q hB hk ⟨_, rfl, rfl⟩ ht hW) hB.2.2.2.2.2.2.1.2.2 hd hB.1.2.2.2.2.2.2.1)
  · exact hk.elim
theorem sd_lret (hd : decode M.2.1 pc = .ok (.lreturn, 1)) (hr : M.2.2.2.1 = some .long) (hk1 : k ≤ M.2.2.2.2.cells) (hk2 : n ≤ M.2.2.2.2.slots) : ∀ ls st h, oLRET R ls st h → zV X M (zQm M R) k n pc ls st h := by
  intro ls st h hk p l e s m args below meth c A D ad0 ad tys ws H locs cls cst hB hls hst
  unfold oLRET at hk
  split at hk
  · obtain ⟨c1, rfl, hs1⟩ := hst.l
    cases hs1.nil
    exact W.widen hk1 hk2 (W.lret hB.1.1 hB.1.2.1 (hB.1.2.2.1.trans hr) (fun t ht hW => z_q hB hk ⟨_, rfl, rfl⟩ ht hW) hB.2.2.2.2.2.2.1.2.2 hd hB.1.2.2.2.2.2.2.1)
  · exact hk.elim
theorem sd_vret (hd : decode M.2.1 pc = .ok (.return_, 1)) (hr : M.2.2.2.1 = none) (hk1 : k ≤ M.2.2.2.2.cells) (hk2 : n ≤ M.2.2.2.2.slots) : ∀ ls st h, oVRET R ls st h → zV X M (zQm M R) k n pc ls st h := by
  intro ls st h hk p l e s m args below meth c A D ad0 ad tys ws H locs cls cst hB hls hst
  unfold oVRET at hk
  split at hk
  · cases hst.nil
    exact W.widen hk1 hk2 (W.vret hB.1.1 hB.1.2.1 (hB.1.2.2.1.trans hr) (fun t ht hW => z_q hB hk rfl ht hW) hB.2.2.2.2.2.2.1.2.2 hd hB.1.2.2.2.2.2.2.1)
  · exact hk.elim
theorem sd_aret {C : String} (hd : decode M.2.1 pc = .ok (.areturn, 1)) (hr : M.2.2.2.1 = some (.object C)) (hk1 : k ≤ M.2.2.2.2.cells) (hk2 : n ≤ M.2.2.2.2.slots) : ∀ ls st h, oARET R ls st h → zV X M (zQm M R) k n pc ls st h := by
  intro ls st h hk p l e s m args below meth c A D ad0 ad tys ws H locs cls cst hB hls hst
  unfold oARET at hk
  split at hk
  · obtain ⟨a, c1, h1, rfl, hs1⟩ := hst.r
    cases hs1.nil
    exact W.widen hk1 hk2 (W.aret hB.1.1 hB.1.2.1 (hB.1.2.2.1.trans hr) (Or.inl ⟨C, rfl⟩) (Or.inr ⟨a, rfl⟩) (fun t ht hW => z_q hB hk ⟨_, rfl, a, h1, rfl⟩ ht hW) hB.2.2.2.2.2.2.1.2.2 hd hB.1.2.2.2.2.2.2.1)
  · exact hk.elim
end ZRET

