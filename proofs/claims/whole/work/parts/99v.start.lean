def zfl : List Cond := flatC (Jvm.Cond.and given_1 narrow_1)
def ztm (i : Nat) : Term := .string "MirrorTubeModel" (zstr.getD i ("", 0)).2
theorem zp_ex : ∀ i, i < 14 → Cond.exactly (ztm i) "java/lang/String" ∈ zfl := by decide +kernel
theorem zp_co : ∀ i, i < 14 → Cond.eq (.field (ztm i) "java/lang/String" "coder" "B") (.int 0) ∈ zfl := by decide +kernel
theorem zp_ar : ∀ i, i < 14 → Cond.arrayOf (.field (ztm i) "java/lang/String" "value" "[B") .byte ∈ zfl := by decide +kernel
theorem zp_le : ∀ i, i < 14 → Cond.eq (.length (.field (ztm i) "java/lang/String" "value" "[B")) (.int (Int32.ofNat (zslen.getD i 0))) ∈ zfl := by decide +kernel
theorem zp_el : ∀ i, i < 14 → ∀ j, j < zslen.getD i 0 → Cond.eq (.elem (.field (ztm i) "java/lang/String" "value" "[B") (.int (Int32.ofNat j))) (.int ((zsbyt.getD i []).getD j 0)) ∈ zfl := by decide +kernel
theorem zp_ne : ∀ i, i < 14 → ∀ j, j < 14 → i ≠ j → Cond.not (Cond.eq (ztm i) (ztm j)) ∈ zfl ∨ Cond.not (Cond.eq (ztm j) (ztm i)) ∈ zfl := by decide +kernel
theorem zp_cs : Cond.eq (.static "java/lang/String" "COMPACT_STRINGS" "Z") (.int 1) ∈ zfl := by decide +kernel
theorem zp_si : Cond.isRef (.static "jdk/internal/util/Preconditions" "SIOOBE_FORMATTER" "Ljava/util/function/BiFunction;") ∈ zfl := by decide +kernel
theorem zp_us : Cond.isRef (.static Bundle.tN "UNASSIGNED_STACK" Bundle.steD) ∈ zfl := by decide +kernel
theorem zp_ss : Cond.isRef (.static Bundle.tN "SUPPRESSED_SENTINEL" Bundle.listD) ∈ zfl := by decide +kernel
theorem zsl_31 : ∀ i, i < 14 → zslen.getD i 0 < 2 ^ 31 := by decide
theorem zp_sr : ∀ (i : Nat) (q : String × Nat), zstr[i]? = some q → Cond.stringRef "MirrorTubeModel" q.2 q.1 ∈ lw_tbl
  | 0, _, h => by cases h; exact (List.mem_append_right _ (zt6 (i := 62) rfl))
  | 1, _, h => by cases h; exact (List.mem_append_right _ (zt6 (i := 126) rfl))
  | 2, _, h => by cases h; exact (List.mem_append_right _ (zt6 (i := 146) rfl))
  | 3, _, h => by cases h; exact (List.mem_append_right _ (zt6 (i := 163) rfl))
  | 4, _, h => by cases h; exact (List.mem_append_right _ (zt6 (i := 164) rfl))
  | 5, _, h => by cases h; exact (List.mem_append_right _ (zt6 (i := 165) rfl))
  | 6, _, h => by cases h; exact (List.mem_append_right _ (zt6 (i := 166) rfl))
  | 7, _, h => by cases h; exact (List.mem_append_right _ (zt6 (i := 167) rfl))
  | 8, _, h => by cases h; exact (List.mem_append_right _ (zt6 (i := 172) rfl))
  | 9, _, h => by cases h; exact (List.mem_append_right _ (zt6 (i := 173) rfl))
  | 10, _, h => by cases h; exact (List.mem_append_right _ (zt6 (i := 174) rfl))
  | 11, _, h => by cases h; exact (List.mem_append_right _ (zt6 (i := 175) rfl))
  | 12, _, h => by cases h; exact (List.mem_append_right _ (zt6 (i := 180) rfl))
  | 13, _, h => by cases h; exact (List.mem_append_right _ (zt6 (i := 217) rfl))
  | n + 14, _, h => by cases h
theorem whole_start {p : Program} {e : Env} {s : State} {m : MethodId} {below : List Frame} {meth : Method} {c : Code} (l : Launch) (hflags : l.flags = flags0) {b L : Nat} {xs : Nat → Int32} (hL : L ≤ 3072) (C0 : lw_At p s m meth c b L xs) : W p l e room_1 s m #[Value.ref b] below meth c s.heap [] 0 0 (lw_Z below #[Value.ref b] s) (entryFrame m ([Value.ref b] : List Value).toArray 7) := by
  obtain ⟨hx, hb, hr, hml, hown, hts, hX, hbl, hlocks, hgv, hname⟩ := id C0
  have hfl : ∀ w ∈ zfl, w.before #[Value.ref b] s = true := flat_of_before _ hgv
  have hz : ∀ w ∈ zws, w.before #[Value.ref b] s = true := fun w hw => hts w (List.mem_filter.mp hw).1
  obtain ⟨c0, i0, hK0⟩ := u_known (n := 5) hz zCl0.2.1 (hz _ (zmt (zt1 (i := 194) rfl) rfl))
  obtain ⟨c1, i1, hK1⟩ := u_known (n := 16) hz zCl1.2.1 (hz _ (zmt (zt1 (i := 74) rfl) rfl))
  obtain ⟨c2, i2, hK2⟩ := u_known (n := 5) hz zCl2.2.1 (hz _ (zmt (zt1 (i := 31) rfl) rfl))
  obtain ⟨c3, i3, hK3⟩ := u_known (n := 2) hz zCl3.2.1 (hz _ (zmt (zt1 (i := 220) rfl) rfl))
  obtain ⟨c4, i4, hK4⟩ := u_known (n := 2) hz zCl4.2.1 (hz _ (zmt (zt1 (i := 177) rfl) rfl))
  obtain ⟨c5, i5, hK5⟩ := u_known (n := 4) hz zCl5.2.1 (hz _ (zmt (zt2 (i := 4) rfl) rfl))
  obtain ⟨c6, i6, hK6⟩ := u_known (n := 8) hz zCl6.2.1 (hz _ (zmt (zt1 (i := 37) rfl) rfl))
  obtain ⟨c7, i7, hK7⟩ := u_known (n := 6) hz zCl7.2.1 (hz _ (zmt (zt1 (i := 23) rfl) rfl))
  obtain ⟨c8, i8, hK8⟩ := u_known (n := 21) hz zCl8.2.1 (hz _ (zmt (zt5 (i := 193) rfl) rfl))
  obtain ⟨c9, i9, hK9⟩ := u_known (n := 27) hz zCl9.2.1 (hz _ (zmt (zt5 (i := 89) rfl) rfl))
  obtain ⟨dC, dI, hKc⟩ : ∃ (dC : Nat → ClassId) (dI : Nat → Nat → Nat), ∀ (k : Nat) (q : vw_C), vwCl[k]? = some q → u_Kn s q.1 q.2.1 q.2.2 (dC k) (dI k) := by
    refine ⟨fun k => [c0, c1, c2, c3, c4, c5, c6, c7, c8, c9].getD k c0, fun k => [i0, i1, i2, i3, i4, i5, i6, i7, i8, i9].getD k i0, ?_⟩
    intro k q hq
    match k, hq with
    | 0, hq => cases hq; exact hK0
    | 1, hq => cases hq; exact hK1
    | 2, hq => cases hq; exact hK2
    | 3, hq => cases hq; exact hK3
    | 4, hq => cases hq; exact hK4
    | 5, hq => cases hq; exact hK5
    | 6, hq => cases hq; exact hK6
    | 7, hq => cases hq; exact hK7
    | 8, hq => cases hq; exact hK8
    | 9, hq => cases hq; exact hK9
    | k + 10, hq => simp [vwCl] at hq
  have hnA : ∀ a : Nat, a < s.heap.size → ¬ (fun q : Nat => s.heap.size ≤ q) a := fun a h => Nat.not_le.mpr h
  obtain ⟨adK, adV, hS, hev⟩ := vk_Sof (N := 14) (tm := ztm) (len := zslen) (byt := zsbyt) (A := fun q : Nat => s.heap.size ≤ q) zsl_31 (fun i hi => hfl _ (zp_ex i hi)) (fun i hi => hfl _ (zp_co i hi)) (fun i hi => hfl _ (zp_ar i hi)) (fun i hi => hfl _ (zp_le i hi)) (fun i hi j hj => hfl _ (zp_el i hi j hj)) (fun i j hi hj hij => (zp_ne i hi j hj hij).imp (fun h => hfl _ h) (fun h => hfl _ h)) hnA
  obtain ⟨ad0, had⟩ : ∃ ad0 : Nat → Option Nat, ad0 = fun k => if k < 14 then some (adK k) else if k = 14 then some b else none := ⟨_, rfl⟩
  have adS : ∀ k, k < 14 → ad0 k = some (adK k) := fun k hk => by rw [had]; exact if_pos hk
  have adB : ad0 14 = some b := by rw [had]; rfl
  have adN : ∀ k, 15 ≤ k → ad0 k = none := fun k hk => by
    rw [had]
    show (if k < 14 then some (adK k) else if k = 14 then some b else none) = none
    rw [if_neg (by omega), if_neg (by omega)]
  have hKb : ∀ k, k < 14 → adK k ≠ b := fun k hk e => by
    obtain ⟨cf, kk, fi, f, cell, -, -, q3, -, q5, -⟩ := (hS.1 k hk).2.2.1
    obtain ⟨scr, r1, -, -, r4, r5⟩ := hX
    rw [e, r1] at q3
    cases q3
    have hlt : f.slot < L := by
      have := (Array.getElem?_eq_some_iff.mp q5).1
      omega
    rw [r5 _ hlt] at q5
    cases q5
  have hKl : ∀ k, k < 14 → adK k < s.heap.size := fun k hk => by
    obtain ⟨cell, q1, -⟩ := (hS.1 k hk).1
    exact (Array.getElem?_eq_some_iff.mp q1).1
  have adC : ∀ k a, ad0 k = some a → (k < 14 ∧ a = adK k) ∨ (k = 14 ∧ a = b) := fun k a h => by
    by_cases c1 : k < 14
    · rw [adS k c1] at h
      exact Or.inl ⟨c1, (Option.some.inj h).symm⟩
    · by_cases c2 : k = 14
      · subst c2
        rw [adB] at h
        exact Or.inr ⟨rfl, (Option.some.inj h).symm⟩
      · rw [adN k (by omega)] at h
        cases h
  have hE : zE (L, xs) s (fun q : Nat => s.heap.size ≤ q) ad0 := by
    refine ⟨fun w hw => ?_, ⟨adK, adV, hS, fun i q hi => ?_⟩, ⟨va_Zof (hts _ (List.mem_append_right _ (zt6 (i := 79) rfl))) (hts _ (List.mem_append_right _ (zt1 (i := 12) rfl))) (va_eqt (hfl _ zp_cs)) hnA, va_Zqof (hts _ (List.mem_append_right _ (zt6 (i := 95) rfl))) (hts _ (List.mem_append_right _ (zt1 (i := 14) rfl))) (hfl _ zp_si) hnA, vx_Zqof (hts _ (List.mem_append_right _ (zt5 (i := 54) rfl))) (hts _ (List.mem_append_right _ (zt1 (i := 18) rfl))) (hfl _ zp_us) hnA, vx_Zqof (hts _ (List.mem_append_right _ (zt5 (i := 56) rfl))) (hts _ (List.mem_append_right _ (zt1 (i := 18) rfl))) (hfl _ zp_ss) hnA⟩, b, hX, hbl, Nat.not_le.mpr hbl, adB⟩
    · have h1 := List.mem_filter.mp hw
      refine va_Nw.of ?_ (hts w (List.mem_append_right _ h1.1))
      have h2 := h1.2
      cases w <;> first | rfl | (simp [zisn] at h2; done)
    · have hi14 : i < 14 := (List.getElem?_eq_some_iff.mp hi).1
      have e1 : (ztm i) = .string "MirrorTubeModel" q.2 := by
        unfold ztm
        rw [List.getD_eq_getElem?_getD, hi]
        rfl
      have h2 := hev i hi14
      rw [e1] at h2
      exact ⟨vk_R.of (hts _ (zp_sr i q hi)) h2, adS i hi14⟩
  have hl : l.stackTraces = false := by
    unfold Launch.stackTraces
    rw [hflags]
    decide +kernel
  have hAO : zAO s := Stand.arrayOver_alikeB (Vm.Alike.refl s.vm) (hts _ (List.mem_append_right _ (zt1 (i := 200) rfl)))
  have hDw : zDw s := fun w hw => by
    simp only [zDl, List.mem_cons, List.not_mem_nil, or_false] at hw
    rcases hw with rfl | rfl | rfl | rfl
    · exact va_any rfl (hts _ (List.mem_append_right _ (zt5 (i := 29) rfl)))
    · exact va_any rfl (hts _ (List.mem_append_right _ (zt5 (i := 30) rfl)))
    · exact va_any rfl (hts _ (List.mem_append_right _ (zt5 (i := 32) rfl)))
    · exact va_any rfl (hts _ (List.mem_append_right _ (zt5 (i := 34) rfl)))
  have hle := lv_entry ([.ref b] : List Value) (n := 7) (Nat.le_of_ble_eq_true rfl)
  rw [lg_entry_eq]
  have hB : zB (L, xs) M_L_law zh0 l p s m #[Value.ref b] meth c (fun q : Nat => s.heap.size ≤ q) (dC, dI) ad0 ad0 [] [] s.heap [] := by
    refine ⟨⟨hx, hb, hr, hml, hown, hz, hlocks, fun _ h => h, hname, hl⟩, hE, zLe.rf, ⟨hKc, fun k q h => by simp at h⟩, fun k q h => by simp at h, ⟨fun i j p q h => by simp at h, fun k q h => by simp at h⟩, va_S.rf, ⟨fun k k' a h1 h2 => ?_, fun k hk => adN k (by have : 16 ≤ k := hk; omega), fun k c hc => by cases hc⟩, fun k a h => ⟨Or.inl h, fun hA => ?_⟩⟩
    · rcases adC k a h1 with ⟨q1, q2⟩ | ⟨q1, q2⟩ <;> rcases adC k' a h2 with ⟨r1, r2⟩ | ⟨r1, r2⟩
      · exact hS.2 k k' q1 r1 (q2.symm.trans r2)
      · exact absurd (q2.symm.trans r2) (hKb k q1)
      · exact absurd (r2.symm.trans q2) (hKb k' r1)
      · rw [q1, r1]
    · rcases adC k a h with ⟨q1, q2⟩ | ⟨q1, q2⟩
      · have := hKl k q1
        have hA : s.heap.size ≤ a := hA
        omega
      · have hA : s.heap.size ≤ a := hA
        omega
  have hls : zls ad0 7 [.ref 14, .retAddr 0, .retAddr 0, .retAddr 0, .retAddr 0, .retAddr 0, .retAddr 0] ((lg_sl ([.ref b] : List Value) ++ List.replicate (7 - (lg_sl ([.ref b] : List Value)).length) Slot.unset).toArray) := by
    refine ⟨rfl, _, hle, fun i v hi => ?_⟩
    match i, hi with
    | 0, hi => cases hi; exact Or.inr ⟨.ref b, ⟨b, adB, rfl⟩, by simp [lv_args]⟩
    | 1, hi => cases hi; exact Or.inl ⟨0, rfl⟩
    | 2, hi => cases hi; exact Or.inl ⟨0, rfl⟩
    | 3, hi => cases hi; exact Or.inl ⟨0, rfl⟩
    | 4, hi => cases hi; exact Or.inl ⟨0, rfl⟩
    | 5, hi => cases hi; exact Or.inl ⟨0, rfl⟩
    | 6, hi => cases hi; exact Or.inl ⟨0, rfl⟩
    | i + 7, hi => cases hi
  have W0 := lw_first (X := (L, xs)) hL p l e s m #[Value.ref b] below meth c (fun q : Nat => s.heap.size ≤ q) (dC, dI) ad0 ad0 [] [] s.heap [] _ [] hB hls trivial
  intro T hT Xs
  obtain ⟨t, a1, b1⟩ := W0 T hT Xs
  exact ⟨t, a1, b1 ⟨⟨hAO, hDw⟩, adN, fun _ h => h, b, rfl⟩⟩
