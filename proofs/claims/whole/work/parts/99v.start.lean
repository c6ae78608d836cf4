def zfl : List Cond := flatC (Jvm.Cond.and given_1 narrow_1)
def ztm (i : Nat) : Term := .string "MirrorTubeModel" (zstr.getD i ("", 0)).2
theorem zp_ex : ∀ i, i < 14 → Cond.exactly (ztm i) "java/lang/String" ∈ zfl := by decide +kernel
theorem zp_co : ∀ i, i < 14 → Cond.eq (.field (ztm i) "java/lang/String" "coder" "B") (.int 0) ∈ zfl := by decide +kernel
theorem zp_ar : ∀ i, i < 14 → Cond.arrayOf (.field (ztm i) "java/lang/String" "value" "[B") .byte ∈ zfl := by decide +kernel
theorem zp_le : ∀ i, i < 14 → Cond.eq (.length (.field (ztm i) "java/lang/String" "value" "[B")) (.int (Int32.ofNat (zslen.getD i 0))) ∈ zfl := by decide +kernel
theorem zp_el : ∀ i, i < 14 → ∀ j, j < zslen.getD i 0 → Cond.eq (.elem (.field (ztm i) "java/lang/String" "value" "[B") (.int (Int32.ofNat j))) (.int ((zsbyt.getD i []).getD j 0)) ∈ zfl := by decide +kernel
def zne1 : Cond → Option (String × Nat × String × Nat)
  | .not (.eq (.string c a) (.string d b)) => some (c, a, d, b)
  | _ => none
theorem zne1_of {w : Cond} {q : String × Nat × String × Nat} (h : zne1 w = some q) : w = Cond.not (Cond.eq (.string q.1 q.2.1) (.string q.2.2.1 q.2.2.2)) := by
  unfold zne1 at h
  split at h <;> cases h
  rfl
def zneL : List (Nat × Nat) := [(130, 204), (130, 132), (204, 132), (130, 134), (204, 134), (132, 134), (130, 136), (204, 136), (132, 136), (134, 136), (130, 138), (204, 138), (132, 138), (134, 138), (136, 138), (130, 140), (204, 140), (132, 140), (134, 140), (136, 140), (138, 140), (130, 142), (204, 142), (132, 142), (134, 142), (136, 142), (138, 142), (140, 142), (130, 217), (204, 217), (132, 217), (134, 217), (136, 217), (138, 217), (140, 217), (142, 217), (130, 219), (204, 219), (132, 219), (134, 219), (136, 219), (138, 219), (140, 219), (142, 219), (217, 219), (130, 221), (204, 221), (132, 221), (134, 221), (136, 221), (138, 221), (140, 221), (142, 221), (217, 221), (219, 221), (130, 223), (204, 223), (132, 223), (134, 223), (136, 223), (138, 223), (140, 223), (142, 223), (217, 223), (219, 223), (221, 223), (130, 228), (204, 228), (132, 228), (134, 228), (136, 228), (138, 228), (140, 228), (142, 228), (217, 228), (219, 228), (221, 228), (223, 228), (130, 275), (204, 275), (132, 275), (134, 275), (136, 275), (138, 275), (140, 275), (142, 275), (217, 275), (219, 275), (221, 275), (223, 275), (228, 275)]
theorem zne_eq : zfl.filterMap zne1 = zneL.map (fun q => ("MirrorTubeModel", q.1, "MirrorTubeModel", q.2)) := by decide +kernel
theorem zne_of {a b : Nat} (h : (a, b) ∈ zneL) : Cond.not (Cond.eq (.string "MirrorTubeModel" a) (.string "MirrorTubeModel" b)) ∈ zfl := by
  have h1 : ("MirrorTubeModel", a, "MirrorTubeModel", b) ∈ zfl.filterMap zne1 := by
    rw [zne_eq]
    exact List.mem_map.mpr ⟨_, h, rfl⟩
  obtain ⟨w, hw, hq⟩ := List.mem_filterMap.mp h1
  have := zne1_of hq
  subst this
  exact hw
def zsn (i : Nat) : Nat := (zstr.getD i ("", 0)).2
def znc (a b : Nat) : Bool := zneL.any (fun q => Nat.beq q.1 a && Nat.beq q.2 b)
theorem znc_of {a b : Nat} (h : znc a b = true) : (a, b) ∈ zneL := by
  obtain ⟨q, hq, h2⟩ := List.any_eq_true.mp h
  rw [Bool.and_eq_true] at h2
  have e1 : q.1 = a := Nat.eq_of_beq_eq_true h2.1
  have e2 : q.2 = b := Nat.eq_of_beq_eq_true h2.2
  have e3 : q = (a, b) := by rw [← e1, ← e2]
  rw [← e3]
  exact hq
theorem znq_b : ((List.range 14).all fun i => (List.range 14).all fun j => Nat.beq i j || (znc (zsn i) (zsn j) || znc (zsn j) (zsn i))) = true := by decide +kernel
theorem zne_in (i : Nat) (hi : i < 14) (j : Nat) (hj : j < 14) (hij : i ≠ j) : (zsn i, zsn j) ∈ zneL ∨ (zsn j, zsn i) ∈ zneL := by
  have h1 := List.all_eq_true.mp (List.all_eq_true.mp znq_b i (List.mem_range.mpr hi)) j (List.mem_range.mpr hj)
  rcases Bool.or_eq_true _ _ ▸ h1 with h | h
  · exact absurd (Nat.eq_of_beq_eq_true h) hij
  · rcases Bool.or_eq_true _ _ ▸ h with h | h
    · exact Or.inl (znc_of h)
    · exact Or.inr (znc_of h)
theorem zp_ne (i : Nat) (hi : i < 14) (j : Nat) (hj : j < 14) (hij : i ≠ j) : Cond.not (Cond.eq (ztm i) (ztm j)) ∈ zfl ∨ Cond.not (Cond.eq (ztm j) (ztm i)) ∈ zfl := (zne_in i hi j hj hij).imp zne_of zne_of
theorem zp_cs : Cond.eq (.static "java/lang/String" "COMPACT_STRINGS" "Z") (.int 1) ∈ zfl := by decide +kernel
theorem zp_si : Cond.isRef (.static "jdk/internal/util/Preconditions" "SIOOBE_FORMATTER" "Ljava/util/function/BiFunction;") ∈ zfl := by decide +kernel
theorem zp_us : Cond.isRef (.static Bundle.tN "UNASSIGNED_STACK" Bundle.steD) ∈ zfl := by decide +kernel
theorem zp_ss : Cond.isRef (.static Bundle.tN "SUPPRESSED_SENTINEL" Bundle.listD) ∈ zfl := by decide +kernel
theorem zsl_31 : ∀ i, i < 14 → zslen.getD i 0 < 2 ^ 31 := by decide
theorem zp_sr : ∀ (i : Nat) (q : String × Nat), zstr[i]? = some q → Cond.stringRef "MirrorTubeModel" q.2 q.1 ∈ lw_tbl
  | 0, _, h => by cases h; exact (List.mem_append_right _ (zt6 (i := 62) rfl))
  | 1, _, h => by cases h; exact (List.mem_append_right _ (zt6 (i := 126) rfl))
  | 2, _, h => by cases h; exact (List.mem_append_right _ (zt6 (i := 146) rfl))
  | 3, _, h => by cases h; exact (List.mem_append_right _ (zt6 (i := 163) rfl))
  | 4, _, h => by cases h; exact (List.mem_append_right _ (zt6 (i := 164) rfl))
  | 5, _, h => by cases h; exact (List.mem_append_right _ (zt6 (i := 165) rfl))
  | 6, _, h => by cases h; exact (List.mem_append_right _ (zt6 (i := 166) rfl))
  | 7, _, h => by cases h; exact (List.mem_append_right _ (zt6 (i := 167) rfl))
  | 8, _, h => by cases h; exact (List.mem_append_right _ (zt6 (i := 172) rfl))
  | 9, _, h => by cases h; exact (List.mem_append_right _ (zt6 (i := 173) rfl))
  | 10, _, h => by cases h; exact (List.mem_append_right _ (zt6 (i := 174) rfl))
  | 11, _, h => by cases h; exact (List.mem_append_right _ (zt6 (i := 175) rfl))
  | 12, _, h => by cases h; exact (List.mem_append_right _ (zt6 (i := 180) rfl))
  | 13, _, h => by cases h; exact (List.mem_append_right _ (zt6 (i := 217) rfl))
  | n + 14, _, h => by cases h
theorem whole_start {p : Program} {e : Env} {s : State} {m : MethodId} {below : List Frame} {meth : Method} {c : Code} (l : Launch) (hflags : l.flags = flags0) {b L : Nat} {xs : Nat → Int32} (hL : L ≤ 3072) (C0 : lw_At p s m meth c b L xs) : W p l e room_1 s m #[Value.ref b] below meth c s.heap [] 0 0 (lw_Z below #[Value.ref b] s) (entryFrame m ([Value.ref b] : List Value).toArray 7) := by
  obtain ⟨hx, hb, hr, hml, hown, hts, hX, hbl, hlocks, hgv, hname⟩ := id C0
  have hfl : ∀ w ∈ zfl, w.before #[Value.ref b] s = true := flat_of_before _ hgv
  have hz : ∀ w ∈ zws, w.before #[Value.ref b] s = true := fun w hw => hts w (List.mem_filter.mp hw).1
  obtain ⟨c0, i0, hK0⟩ := u_known (n := 5) hz zCl0.2.1 (hz _ (zmt (zt1 (i := 194) rfl) rfl))
  obtain ⟨c1, i1, hK1⟩ := u_known (n := 16) hz zCl1.2.1 (hz _ (zmt (zt1 (i := 74) rfl) rfl))
  obtain ⟨c2, i2, hK2⟩ := u_known (n := 5) hz zCl2.2.1 (hz _ (zmt (zt1 (i := 31) rfl) rfl))
  obtain ⟨c3, i3, hK3⟩ := u_known (n := 2) hz zCl3.2.1 (hz _ (zmt (zt1 (i := 220) rfl) rfl))
  obtain ⟨c4, i4, hK4⟩ := u_known (n := 2) hz zCl4.2.1 (hz _ (zmt (zt1 (i := 177) rfl) rfl))
  obtain ⟨c5, i5, hK5⟩ := u_known (n := 4) hz zCl5.2.1 (hz _ (zmt (zt2 (i := 4) rfl) rfl))
  obtain ⟨c6, i6, hK6⟩ := u_known (n := 8) hz zCl6.2.1 (hz _ (zmt (zt1 (i := 37) rfl) rfl))
  obtain ⟨c7, i7, hK7⟩ := u_known (n := 6) hz zCl7.2.1 (hz _ (zmt (zt1 (i := 23) rfl) rfl))
  obtain ⟨c8, i8, hK8⟩ := u_known (n := 21) hz zCl8.2.1 (hz _ (zmt (zt5 (i := 193) rfl) rfl))
  obtain ⟨c9, i9, hK9⟩ := u_known (n := 27) hz zCl9.2.1 (hz _ (zmt (zt5 (i := 89) rfl) rfl))
  obtain ⟨dC, dI, hKc⟩ : ∃ (dC : Nat → ClassId) (dI : Nat → Nat → Nat), ∀ (k : Nat) (q : vw_C), vwCl[k]? = some q → u_Kn s q.1 q.2.1 q.2.2 (dC k) (dI k) := by
    refine ⟨fun k => [c0, c1, c2, c3, c4, c5, c6, c7, c8, c9].getD k c0, fun k => [i0, i1, i2, i3, i4, i5, i6, i7, i8, i9].getD k i0, ?_⟩
    intro k q hq
    match k, hq with
    | 0, hq => cases hq; exact hK0
    | 1, hq => cases hq; exact hK1
    | 2, hq => cases hq; exact hK2
    | 3, hq => cases hq; exact hK3
    | 4, hq => cases hq; exact hK4
    | 5, hq => cases hq; exact hK5
    | 6, hq => cases hq; exact hK6
    | 7, hq => cases hq; exact hK7
    | 8, hq => cases hq; exact hK8
    | 9, hq => cases hq; exact hK9
    | k + 10, hq => simp [vwCl] at hq
  have hnA : ∀ a : Nat, a < s.heap.size → ¬ (fun q : Nat => s.heap.size ≤ q) a := fun a h => Nat.not_le.mpr h
  obtain ⟨adK, adV, hS, hev⟩ := vk_Sof (N := 14) (tm := ztm) (len := zslen) (byt := zsbyt) (A := fun q : Nat => s.heap.size ≤ q) zsl_31 (fun i hi => hfl _ (zp_ex i hi)) (fun i hi => hfl _ (zp_co i hi)) (fun i hi => hfl _ (zp_ar i hi)) (fun i hi => hfl _ (zp_le i hi)) (fun i hi j hj => hfl _ (zp_el i hi j hj)) (fun i j hi hj hij => (zp_ne i hi j hj hij).imp (fun h => hfl _ h) (fun h => hfl _ h)) hnA
  obtain ⟨ad0, had⟩ : ∃ ad0 : Nat → Option Nat, ad0 = fun k => if k < 14 then some (adK k) else if k = 14 then some b else none := ⟨_, rfl⟩
  have adS : ∀ k, k < 14 → ad0 k = some (adK k) := fun k hk => by rw [had]; exact if_pos hk
  have adB : ad0 14 = some b := by rw [had]; rfl
  have adN : ∀ k, 15 ≤ k → ad0 k = none := fun k hk => by
    rw [had]
    show (if k < 14 then some (adK k) else if k = 14 then some b else none) = none
    rw [if_neg (by omega), if_neg (by omega)]
  have hKb : ∀ k, k < 14 → adK k ≠ b := fun k hk e => by
    obtain ⟨cf, kk, fi, f, cell, -, -, q3, -, q5, -⟩ := (hS.1 k hk).2.2.1
    obtain ⟨scr, r1, -, -, r4, r5⟩ := hX
    rw [e, r1] at q3
    cases q3
    have hlt : f.slot < L := by
      have := (Array.getElem?_eq_some_iff.mp q5).1
      omega
    rw [r5 _ hlt] at q5
    cases q5
  have hKl : ∀ k, k < 14 → adK k < s.heap.size := fun k hk => by
    obtain ⟨cell, q1, -⟩ := (hS.1 k hk).1
    exact (Array.getElem?_eq_some_iff.mp q1).1
  have adC : ∀ k a, ad0 k = some a → (k < 14 ∧ a = adK k) ∨ (k = 14 ∧ a = b) := fun k a h => by
    by_cases c1 : k < 14
    · rw [adS k c1] at h
      exact Or.inl ⟨c1, (Option.some.inj h).symm⟩
    · by_cases c2 : k = 14
      · subst c2
        rw [adB] at h
        exact Or.inr ⟨rfl, (Option.some.inj h).symm⟩
      · rw [adN k (by omega)] at h
        cases h
  have hE : zE (L, xs) s (fun q : Nat => s.heap.size ≤ q) ad0 := by
    refine ⟨fun w hw => ?_, ⟨adK, adV, hS, fun i q hi => ?_⟩, ⟨va_Zof (hts _ (List.mem_append_right _ (zt6 (i := 79) rfl))) (hts _ (List.mem_append_right _ (zt1 (i := 12) rfl))) (va_eqt (hfl _ zp_cs)) hnA, va_Zqof (hts _ (List.mem_append_right _ (zt6 (i := 95) rfl))) (hts _ (List.mem_append_right _ (zt1 (i := 14) rfl))) (hfl _ zp_si) hnA, vx_Zqof (hts _ (List.mem_append_right _ (zt5 (i := 54) rfl))) (hts _ (List.mem_append_right _ (zt1 (i := 18) rfl))) (hfl _ zp_us) hnA, vx_Zqof (hts _ (List.mem_append_right _ (zt5 (i := 56) rfl))) (hts _ (List.mem_append_right _ (zt1 (i := 18) rfl))) (hfl _ zp_ss) hnA⟩, b, hX, hbl, Nat.not_le.mpr hbl, adB⟩
    · have h1 := List.mem_filter.mp hw
      refine va_Nw.of ?_ (hts w (List.mem_append_right _ h1.1))
      have h2 := h1.2
      cases w <;> first | rfl | (simp [zisn] at h2; done)
    · have hi14 : i < 14 := (List.getElem?_eq_some_iff.mp hi).1
      have e1 : (ztm i) = .string "MirrorTubeModel" q.2 := by
        unfold ztm
        rw [List.getD_eq_getElem?_getD, hi]
        rfl
      have h2 := hev i hi14
      rw [e1] at h2
      exact ⟨vk_R.of (hts _ (zp_sr i q hi)) h2, adS i hi14⟩
  have hl : l.stackTraces = false := by
    unfold Launch.stackTraces
    rw [hflags]
    decide +kernel
  have hAO : zAO s := hts _ (List.mem_append_right _ (zt1 (i := 200) rfl))
  have hDw : zDw s := fun w hw => by
    simp only [zDl, List.mem_cons, List.not_mem_nil, or_false] at hw
    rcases hw with rfl | rfl | rfl | rfl
    · exact va_any rfl (hts _ (List.mem_append_right _ (zt5 (i := 29) rfl)))
    · exact va_any rfl (hts _ (List.mem_append_right _ (zt5 (i := 30) rfl)))
    · exact va_any rfl (hts _ (List.mem_append_right _ (zt5 (i := 32) rfl)))
    · exact va_any rfl (hts _ (List.mem_append_right _ (zt5 (i := 34) rfl)))
  have hle := lv_entry ([.ref b] : List Value) (n := 7) (Nat.le_of_ble_eq_true rfl)
  rw [lg_entry_eq]
  have hB : zB (L, xs) M_L_law zh0 l p s m #[Value.ref b] meth c (fun q : Nat => s.heap.size ≤ q) (dC, dI) ad0 ad0 [] [] s.heap [] := by
    refine ⟨⟨hx, hb, hr, hml, hown, hz, hlocks, fun _ h => h, hname, hl⟩, hE, zLe.rf, ⟨hKc, fun k q h => by simp at h⟩, fun k q h => by simp at h, ⟨fun i j p q h => by simp at h, fun k q h => by simp at h⟩, va_S.rf, ⟨fun k k' a h1 h2 => ?_, fun k hk => adN k (by have : 16 ≤ k := hk; omega), fun k c hc => by cases hc⟩, fun k a h => ⟨Or.inl h, fun hA => ?_⟩⟩
    · rcases adC k a h1 with ⟨q1, q2⟩ | ⟨q1, q2⟩ <;> rcases adC k' a h2 with ⟨r1, r2⟩ | ⟨r1, r2⟩
      · exact hS.2 k k' q1 r1 (q2.symm.trans r2)
      · exact absurd (q2.symm.trans r2) (hKb k q1)
      · exact absurd (r2.symm.trans q2) (hKb k' r1)
      · rw [q1, r1]
    · rcases adC k a h with ⟨q1, q2⟩ | ⟨q1, q2⟩
      · have := hKl k q1
        have hA : s.heap.size ≤ a := hA
        omega
      · have hA : s.heap.size ≤ a := hA
        omega
  have hls : zls ad0 7 [.ref 14, .retAddr 0, .retAddr 0, .retAddr 0, .retAddr 0, .retAddr 0, .retAddr 0] ((lg_sl ([.ref b] : List Value) ++ List.replicate (7 - (lg_sl ([.ref b] : List Value)).length) Slot.unset).toArray) := by
    refine ⟨rfl, _, hle, fun i v hi => ?_⟩
    match i, hi with
    | 0, hi => cases hi; exact Or.inr ⟨.ref b, ⟨b, adB, rfl⟩, by simp [lv_args]⟩
    | 1, hi => cases hi; exact Or.inl ⟨0, rfl⟩
    | 2, hi => cases hi; exact Or.inl ⟨0, rfl⟩
    | 3, hi => cases hi; exact Or.inl ⟨0, rfl⟩
    | 4, hi => cases hi; exact Or.inl ⟨0, rfl⟩
    | 5, hi => cases hi; exact Or.inl ⟨0, rfl⟩
    | 6, hi => cases hi; exact Or.inl ⟨0, rfl⟩
    | i + 7, hi => cases hi
  have W0 := lw_first (X := (L, xs)) hL p l e s m #[Value.ref b] below meth c (fun q : Nat => s.heap.size ≤ q) (dC, dI) ad0 ad0 [] [] s.heap [] _ [] hB hls trivial
  intro T hT Xs
  obtain ⟨t, a1, b1⟩ := W0 T hT Xs
  exact ⟨t, a1, b1 ⟨⟨hAO, hDw⟩, adN, fun _ h => h, b, rfl⟩⟩
