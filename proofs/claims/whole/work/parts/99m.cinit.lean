def zSs : List (Nat ⊕ (FieldType × Nat)) := [.inl 7, .inl 2, .inl 6, .inr (.byte, 800), .inl 1, .inr (.long, 6), .inr (.int, 6), .inr (.long, 6), .inr (.int, 6), .inr (.int, 6), .inr (.int, 6), .inr (.int, 6), .inr (.long, 6), .inr (.int, 8), .inr (.long, 4), .inr (.int, 4), .inl 4, .inl 1, .inr (.long, 6), .inr (.int, 6), .inr (.long, 6), .inr (.int, 6), .inr (.int, 6), .inr (.int, 6), .inr (.int, 6), .inr (.long, 6), .inr (.int, 8), .inr (.long, 4), .inr (.int, 4), .inr (.int, 15), .inl 0, .inr (.array .int, 16), .inr (.int, 15), .inr (.int, 15), .inr (.int, 15), .inr (.int, 15), .inr (.int, 15), .inr (.int, 15), .inr (.int, 15), .inr (.int, 15), .inr (.int, 15), .inr (.int, 15), .inr (.int, 15), .inr (.int, 15), .inr (.int, 15), .inr (.int, 15), .inr (.int, 15), .inr (.int, 15), .inr (.array .int, 3), .inr (.int, 15), .inr (.int, 15), .inr (.int, 15), .inl 3, .inr (.array .int, 6), .inr (.int, 144), .inr (.int, 144), .inr (.int, 144), .inr (.int, 144), .inr (.int, 144), .inr (.int, 144), .inr (.boolean, 144), .inl 5, .inl 9, .inr (.byte, 800), .inr (.int, 15), .inr (.int, 15), .inr (.int, 240), .inr (.int, 45), .inr (.int, 5), .inr (.int, 5), .inr (.long, 1)]
def zAr (x y : Nat) : Option Nat := if y < (if x = 47 then 16 else if x = 64 then 3 else 6) then some (x + 1 + y) else none
/-- the cells 16 to n - 1 stand, and nothing else is written -/
def zN (h : zHp) (n : Nat) (L : List ((Nat × Nat) × Nat)) (V : Nat → Nat → Int32) : Prop := znx h = n ∧ 16 ≤ n ∧ (∀ e ∈ L, e.1.1 < n) ∧ ∀ x, 16 ≤ x → x < n → zsh h x = zSs[x - 16]? ∧ (∀ y, zgi h x y = V x y) ∧ (∀ y, zgl h x y = 0) ∧ ∀ y, zgr h x y = if x = 47 ∨ x = 64 ∨ x = 69 then zAr x y else L.lookup (x, y)
theorem zlk_n {n y : Nat} : ∀ {L : List ((Nat × Nat) × Nat)}, (∀ e ∈ L, e.1.1 < n) → L.lookup (n, y) = none
  | [], _ => rfl
  | e :: L, h => by
    have h1 := h e List.mem_cons_self
    have : ((n, y) == e.1) = false := by
      apply Bool.eq_false_iff.mpr
      intro z
      have := eq_of_beq z
      rw [← this] at h1
      exact Nat.lt_irrefl _ h1
    show (match (n, y) == e.1 with | true => some e.2 | false => L.lookup (n, y)) = none
    rw [this]
    exact zlk_n (fun e' he => h e' (List.mem_cons_of_mem _ he))
section ZNN
variable {X : Nat × (Nat → Int32)} {R : zRt} {h h' : zHp} {n x j q N K : Nat} {L : List ((Nat × Nat) × Nat)} {V : Nat → Nat → Int32} {c : Nat ⊕ (FieldType × Nat)}
theorem zN.sh (z : zN h n L V) (h1 : 16 ≤ x) (h2 : x < n) (hs : zSs[x - 16]? = some c) : zsh h x = some c := (z.2.2.2 x h1 h2).1.trans hs
theorem zN.gr (z : zN h n L V) (h1 : 16 ≤ x) (h2 : x < n) (h3 : ¬ (x = 47 ∨ x = 64 ∨ x = 69)) : zgr h x j = L.lookup (x, j) := ((z.2.2.2 x h1 h2).2.2.2 j).trans (if_neg h3)
theorem zN.ga (z : zN h n L V) (h1 : 16 ≤ x) (h2 : x < n) (h3 : x = 47 ∨ x = 64 ∨ x = 69) : zgr h x j = zAr x j := ((z.2.2.2 x h1 h2).2.2.2 j).trans (if_pos h3)
theorem zN.gi (z : zN h n L V) (h1 : 16 ≤ x) (h2 : x < n) (y : Nat) : zgi h x y = V x y := (z.2.2.2 x h1 h2).2.1 y
theorem zN.gl (z : zN h n L V) (h1 : 16 ≤ x) (h2 : x < n) (y : Nat) : zgl h x y = 0 := (z.2.2.2 x h1 h2).2.2.1 y
theorem zN.al (z : zN h n L V) (hs : zSs[n - 16]? = some c) (hV : ∀ y, V n y = 0) (h3 : ¬ (n = 47 ∨ n = 64 ∨ n = 69)) : zN (zal h c) (n + 1) L V := by
  refine ⟨by show znx h + 1 = _; rw [z.1], by have := z.2.1; omega, fun e he => Nat.lt_succ_of_lt (z.2.2.1 e he), fun x h1 h2 => ?_⟩
  have sl : zsh (zal h c) x = if x = n then some c else zsh h x := by rw [← z.1]; rfl
  have il : ∀ y, zgi (zal h c) x y = if x = n then 0 else zgi h x y := fun y => by rw [← z.1]; rfl
  have ll : ∀ y, zgl (zal h c) x y = if x = n then 0 else zgl h x y := fun y => by rw [← z.1]; rfl
  have rl : ∀ y, zgr (zal h c) x y = if x = n then none else zgr h x y := fun y => by rw [← z.1]; rfl
  by_cases e : x = n
  · subst e
    refine ⟨by rw [sl, if_pos rfl]; exact hs.symm, fun y => by rw [il, if_pos rfl]; exact (hV y).symm, fun y => by rw [ll, if_pos rfl], fun y => by rw [rl, if_pos rfl, if_neg h3]; exact (zlk_n z.2.2.1).symm⟩
  · have := z.2.2.2 x h1 (by omega)
    refine ⟨by rw [sl, if_neg e]; exact this.1, fun y => by rw [il, if_neg e]; exact this.2.1 y, fun y => by rw [ll, if_neg e]; exact this.2.2.1 y, fun y => by rw [rl, if_neg e]; exact this.2.2.2 y⟩
theorem zN.pr (z : zN h n L V) (hx : 16 ≤ x ∧ x < n) (h3 : ¬ (x = 47 ∨ x = 64 ∨ x = 69)) : zN (zpr h x j (some q)) n (((x, j), q) :: L) V := by
  refine ⟨z.1, z.2.1, fun e he => ?_, fun a h1 h2 => ?_⟩
  · rcases List.mem_cons.mp he with rfl | he
    · exact hx.2
    · exact z.2.2.1 e he
  · have := z.2.2.2 a h1 h2
    refine ⟨this.1, this.2.1, this.2.2.1, fun b => ?_⟩
    rw [zgr_pr]
    by_cases e : a = x ∧ b = j
    · obtain ⟨rfl, rfl⟩ := e
      rw [if_pos ⟨rfl, rfl⟩, if_neg h3]
      show _ = (match (a, b) == (a, b) with | true => some q | false => L.lookup (a, b))
      rw [show ((a, b) == (a, b)) = true from by simp]
    · rw [if_neg e, this.2.2.2 b]
      by_cases h9 : a = 47 ∨ a = 64 ∨ a = 69
      · rw [if_pos h9, if_pos h9]
      · rw [if_neg h9, if_neg h9]
        show _ = (match (a, b) == (x, j) with | true => some q | false => L.lookup (a, b))
        have : ((a, b) == (x, j)) = false := by
          apply Bool.eq_false_iff.mpr
          intro z
          have := eq_of_beq z
          cases this
          exact e ⟨rfl, rfl⟩
        rw [this]
theorem zN.ap (z : zN h n L V) (hs : zSs[n - 16]? = some c) (hV : ∀ y, V n y = 0) (h3 : ¬ (n = 47 ∨ n = 64 ∨ n = 69)) (hx : 16 ≤ x ∧ x < n) (h4 : ¬ (x = 47 ∨ x = 64 ∨ x = 69)) : zN (zpr (zal h c) x j (some (znx h))) (n + 1) (((x, j), n) :: L) V := by
  rw [z.1]
  exact (z.al hs hV h3).pr ⟨hx.1, by omega⟩ h4
theorem zN.sa {c' : Nat ⊕ (FieldType × Nat)} (z : zN h n L V) (h1 : 16 ≤ x) (h2 : x < n) (hs : zSs[x - 16]? = some c') : zsh (zal h c) x = some c' := by
  show (if x = znx h then some c else zsh h x) = _
  rw [z.1, if_neg (by omega)]
  exact z.sh h1 h2 hs
theorem zSs_a : ∀ i, i < 16 → zSs[32 + i]? = some (.inr (.int, 15)) := by decide
theorem zSs_b : ∀ i, i < 3 → zSs[49 + i]? = some (.inr (.int, 15)) := by decide
theorem zSs_c : ∀ i, i < 6 → zSs[54 + i]? = some (.inr (.int, 144)) := by decide
theorem zN.mn (z : zN h n L V) (hn : (n = 47 ∧ N = 16 ∧ K = 15) ∨ (n = 64 ∧ N = 3 ∧ K = 15) ∨ (n = 69 ∧ N = 6 ∧ K = 144)) (hV : ∀ x y, n ≤ x → V x y = 0) : zN (zmn h N K) (n + 1 + N) L V := by
  refine ⟨by show znx h + 1 + N = _; rw [z.1], by have := z.2.1; omega, fun e he => by have := z.2.2.1 e he; omega, fun x h1 h2 => ?_⟩
  have sl : zsh (zmn h N K) x = if x = n then some (.inr (.array .int, N)) else if n ≤ x ∧ x ≤ n + N then some (.inr (.int, K)) else zsh h x := by rw [← z.1]; rfl
  have il : ∀ y, zgi (zmn h N K) x y = if n ≤ x ∧ x ≤ n + N then 0 else zgi h x y := fun y => by rw [← z.1]; rfl
  have ll : ∀ y, zgl (zmn h N K) x y = if n ≤ x ∧ x ≤ n + N then 0 else zgl h x y := fun y => by rw [← z.1]; rfl
  have rl : ∀ y, zgr (zmn h N K) x y = if x = n then (if y < N then some (n + 1 + y) else none) else if n ≤ x ∧ x ≤ n + N then none else zgr h x y := fun y => by rw [← z.1]; rfl
  by_cases e : x = n
  · subst e
    refine ⟨?_, fun y => by rw [il, if_pos (by omega)]; exact (hV _ y (by omega)).symm, fun y => by rw [ll, if_pos (by omega)], fun y => ?_⟩
    · rw [sl, if_pos rfl]
      rcases hn with ⟨rfl, rfl, rfl⟩ | ⟨rfl, rfl, rfl⟩ | ⟨rfl, rfl, rfl⟩ <;> rfl
    · rw [rl, if_pos rfl]
      rcases hn with ⟨rfl, rfl, rfl⟩ | ⟨rfl, rfl, rfl⟩ | ⟨rfl, rfl, rfl⟩
      · exact (if_pos (Or.inl rfl)).symm
      · exact (if_pos (Or.inr (Or.inl rfl))).symm
      · exact (if_pos (Or.inr (Or.inr rfl))).symm
  · by_cases e2 : n ≤ x ∧ x ≤ n + N
    · refine ⟨?_, fun y => by rw [il, if_pos e2]; exact (hV x y e2.1).symm, fun y => by rw [ll, if_pos e2], fun y => ?_⟩
      · rw [sl, if_neg e, if_pos e2]
        rcases hn with ⟨rfl, rfl, rfl⟩ | ⟨rfl, rfl, rfl⟩ | ⟨rfl, rfl, rfl⟩
        · have := zSs_a (x - 48) (by omega)
          rw [show 32 + (x - 48) = x - 16 by omega] at this
          exact this.symm
        · have := zSs_b (x - 65) (by omega)
          rw [show 49 + (x - 65) = x - 16 by omega] at this
          exact this.symm
        · have := zSs_c (x - 70) (by omega)
          rw [show 54 + (x - 70) = x - 16 by omega] at this
          exact this.symm
      · rw [rl, if_neg e, if_pos e2, if_neg (by omega)]
        exact (zlk_n (fun e he => by have := z.2.2.1 e he; omega)).symm
    · have := z.2.2.2 x h1 (by omega)
      exact ⟨by rw [sl, if_neg e, if_neg e2]; exact this.1, fun y => by rw [il, if_neg e2]; exact this.2.1 y, fun y => by rw [ll, if_neg e2]; exact this.2.2.1 y, fun y => by rw [rl, if_neg e, if_neg e2]; exact this.2.2.2 y⟩
theorem zN.mp (z : zN h n L V) (hn : (n = 47 ∧ N = 16 ∧ K = 15) ∨ (n = 64 ∧ N = 3 ∧ K = 15) ∨ (n = 69 ∧ N = 6 ∧ K = 144)) (hV : ∀ x y, n ≤ x → V x y = 0) (hx : 16 ≤ x ∧ x < n) (h4 : ¬ (x = 47 ∨ x = 64 ∨ x = 69)) : zN (zpr (zmn h N K) x j (some (znx h))) (n + 1 + N) (((x, j), n) :: L) V := by
  rw [z.1]
  exact (z.mn hn hV).pr ⟨hx.1, by omega⟩ h4
theorem zN.sm {c' : Nat ⊕ (FieldType × Nat)} (z : zN h n L V) (h1 : 16 ≤ x) (h2 : x < n) (hs : zSs[x - 16]? = some c') : zsh (zmn h N K) x = some c' := by
  show (if x = znx h then _ else if znx h ≤ x ∧ x ≤ znx h + N then _ else zsh h x) = _
  rw [z.1, if_neg (by omega), if_neg (by omega)]
  exact z.sh h1 h2 hs
theorem zN.pi {y : Nat} {v : Int32} (z : zN h n L V) : zN (zpi h x y v) n L (fun a b => if a = x ∧ b = y then v else V a b) := by
  refine ⟨z.1, z.2.1, z.2.2.1, fun a h1 h2 => ?_⟩
  have := z.2.2.2 a h1 h2
  exact ⟨this.1, fun b => by rw [zgi_pi, this.2.1 b], this.2.2.1, this.2.2.2⟩
def zV0 : Nat → Nat → Int32 := fun _ _ => 0
theorem ci_tape (z : zN h 19 L V) (hV : ∀ x y, 19 ≤ x → V x y = 0) (k : ∀ h', zN h' 20 (((18, 0), 19) :: L) V → R none h') : zCC X M_X6_init [.ref 18] h R := by
  refine zCC_of (ls := [.ref 18]) pf_X6_init rfl (Nat.le_of_ble_eq_true rfl) ?_
  refine vb_X6_init_0 _ _ _ ?_
  simp only [B_X6_init_0, oPI, oPL, oILOAD, oLLOAD, oALOAD, oISTORE, oASTORE, oLSTORE, oIINC, oIADD, oISUB, oIMUL, oIAND, oIOR, oIXOR, oIDIV, oIREM, oISHL, oISHR, oIUSHR, oLADD, oLSUB, oLMUL, oLOR, oLDIV, oLREM, oLCMP, oLSHL, oINEG, oI2L, oL2I, oI2B, oI2C, oDUP, oPOP, oDUP2, oIFEQ, oICEQ, oIFNE, oICNE, oIFLT, oICLT, oIFGE, oICGE, oIFGT, oICGT, oIFLE, oICLE, oIFNULL, oIFNONNULL, oTSW, oLSW, oGETI, oGETL, oGETR, oPUTI, oPUTZ, oPUTL, oPUTR, oIALD, oBALD, oZALD, oLALD, oAALD, oALEN, oIAST, oBAST, oZAST, oLAST, oIRET, oZRET, oLRET, oVRET, oARET, oOBJ, oINI, oPS, oNEW, oNEWAI, oNEWAB, oNEWAZ, oNEWAL, oCOPY, oINV0, oINS0, oINV1, oINS1, oINV2, oINS2, oINV3, oINS3, oINV4, oINS4, oINV5, oINS5, oINV6, oINS6, List.getElem?_cons_zero, List.getElem?_cons_succ, List.set_cons_zero, List.set_cons_succ, znl, zs4, zc1, true_and, and_self, Value.category, Option.toList, List.cons_append, List.nil_append, zvr]
  exact ⟨⟨by decide, by decide⟩, z.sa (x := 18) (by omega) (by omega) rfl, k _ (z.ap rfl (fun y => hV _ y (by omega)) (by omega) (by omega) (by omega))⟩
theorem ci_plan20 (z : zN h 21 L V) (hV : ∀ x y, 21 ≤ x → V x y = 0) (k : ∀ h', zN h' 32 (((20, 15), 31) :: ((20, 14), 30) :: ((20, 12), 29) :: ((20, 10), 28) :: ((20, 9), 27) :: ((20, 7), 26) :: ((20, 6), 25) :: ((20, 5), 24) :: ((20, 4), 23) :: ((20, 3), 22) :: ((20, 2), 21) :: L) V → R none h') : zCC X M_X1_init [.ref 20] h R := by
  have a1 := z.ap (x := 20) (j := 2) (c := .inr (.long, 6)) rfl (fun y => hV _ y (by omega)) (by omega) (by omega) (by omega)
  have a2 := a1.ap (x := 20) (j := 3) (c := .inr (.int, 6)) rfl (fun y => hV _ y (by omega)) (by omega) (by omega) (by omega)
  have a3 := a2.ap (x := 20) (j := 4) (c := .inr (.long, 6)) rfl (fun y => hV _ y (by omega)) (by omega) (by omega) (by omega)
  have a4 := a3.ap (x := 20) (j := 5) (c := .inr (.int, 6)) rfl (fun y => hV _ y (by omega)) (by omega) (by omega) (by omega)
  have a5 := a4.ap (x := 20) (j := 6) (c := .inr (.int, 6)) rfl (fun y => hV _ y (by omega)) (by omega) (by omega) (by omega)
  have a6 := a5.ap (x := 20) (j := 7) (c := .inr (.int, 6)) rfl (fun y => hV _ y (by omega)) (by omega) (by omega) (by omega)
  have a7 := a6.ap (x := 20) (j := 9) (c := .inr (.int, 6)) rfl (fun y => hV _ y (by omega)) (by omega) (by omega) (by omega)
  have a8 := a7.ap (x := 20) (j := 10) (c := .inr (.long, 6)) rfl (fun y => hV _ y (by omega)) (by omega) (by omega) (by omega)
  have a9 := a8.ap (x := 20) (j := 12) (c := .inr (.int, 8)) rfl (fun y => hV _ y (by omega)) (by omega) (by omega) (by omega)
  have a10 := a9.ap (x := 20) (j := 14) (c := .inr (.long, 4)) rfl (fun y => hV _ y (by omega)) (by omega) (by omega) (by omega)
  have a11 := a10.ap (x := 20) (j := 15) (c := .inr (.int, 4)) rfl (fun y => hV _ y (by omega)) (by omega) (by omega) (by omega)
  refine zCC_of (ls := [.ref 20]) pf_X1_init rfl (Nat.le_of_ble_eq_true rfl) ?_
  refine vb_X1_init_0 _ _ _ ?_
  simp only [B_X1_init_0, oPI, oPL, oILOAD, oLLOAD, oALOAD, oISTORE, oASTORE, oLSTORE, oIINC, oIADD, oISUB, oIMUL, oIAND, oIOR, oIXOR, oIDIV, oIREM, oISHL, oISHR, oIUSHR, oLADD, oLSUB, oLMUL, oLOR, oLDIV, oLREM, oLCMP, oLSHL, oINEG, oI2L, oL2I, oI2B, oI2C, oDUP, oPOP, oDUP2, oIFEQ, oICEQ, oIFNE, oICNE, oIFLT, oICLT, oIFGE, oICGE, oIFGT, oICGT, oIFLE, oICLE, oIFNULL, oIFNONNULL, oTSW, oLSW, oGETI, oGETL, oGETR, oPUTI, oPUTZ, oPUTL, oPUTR, oIALD, oBALD, oZALD, oLALD, oAALD, oALEN, oIAST, oBAST, oZAST, oLAST, oIRET, oZRET, oLRET, oVRET, oARET, oOBJ, oINI, oPS, oNEW, oNEWAI, oNEWAB, oNEWAZ, oNEWAL, oCOPY, oINV0, oINS0, oINV1, oINS1, oINV2, oINS2, oINV3, oINS3, oINV4, oINS4, oINV5, oINS5, oINV6, oINS6, List.getElem?_cons_zero, List.getElem?_cons_succ, List.set_cons_zero, List.set_cons_succ, znl, zs4, zc1, true_and, and_self, Value.category, Option.toList, List.cons_append, List.nil_append, zvr]
  exact ⟨⟨by decide, by decide⟩, z.sa (x := 20) (by omega) (by omega) rfl, ⟨by decide, by decide⟩, a1.sa (x := 20) (by omega) (by omega) rfl, ⟨by decide, by decide⟩, a2.sa (x := 20) (by omega) (by omega) rfl, ⟨by decide, by decide⟩, a3.sa (x := 20) (by omega) (by omega) rfl, ⟨by decide, by decide⟩, a4.sa (x := 20) (by omega) (by omega) rfl, ⟨by decide, by decide⟩, a5.sa (x := 20) (by omega) (by omega) rfl, ⟨by decide, by decide⟩, a6.sa (x := 20) (by omega) (by omega) rfl, ⟨by decide, by decide⟩, a7.sa (x := 20) (by omega) (by omega) rfl, ⟨by decide, by decide⟩, a8.sa (x := 20) (by omega) (by omega) rfl, ⟨by decide, by decide⟩, a9.sa (x := 20) (by omega) (by omega) rfl, ⟨by decide, by decide⟩, a10.sa (x := 20) (by omega) (by omega) rfl, k _ a11⟩
theorem ci_plan33 (z : zN h 34 L V) (hV : ∀ x y, 34 ≤ x → V x y = 0) (k : ∀ h', zN h' 45 (((33, 15), 44) :: ((33, 14), 43) :: ((33, 12), 42) :: ((33, 10), 41) :: ((33, 9), 40) :: ((33, 7), 39) :: ((33, 6), 38) :: ((33, 5), 37) :: ((33, 4), 36) :: ((33, 3), 35) :: ((33, 2), 34) :: L) V → R none h') : zCC X M_X1_init [.ref 33] h R := by
  have a1 := z.ap (x := 33) (j := 2) (c := .inr (.long, 6)) rfl (fun y => hV _ y (by omega)) (by omega) (by omega) (by omega)
  have a2 := a1.ap (x := 33) (j := 3) (c := .inr (.int, 6)) rfl (fun y => hV _ y (by omega)) (by omega) (by omega) (by omega)
  have a3 := a2.ap (x := 33) (j := 4) (c := .inr (.long, 6)) rfl (fun y => hV _ y (by omega)) (by omega) (by omega) (by omega)
  have a4 := a3.ap (x := 33) (j := 5) (c := .inr (.int, 6)) rfl (fun y => hV _ y (by omega)) (by omega) (by omega) (by omega)
  have a5 := a4.ap (x := 33) (j := 6) (c := .inr (.int, 6)) rfl (fun y => hV _ y (by omega)) (by omega) (by omega) (by omega)
  have a6 := a5.ap (x := 33) (j := 7) (c := .inr (.int, 6)) rfl (fun y => hV _ y (by omega)) (by omega) (by omega) (by omega)
  have a7 := a6.ap (x := 33) (j := 9) (c := .inr (.int, 6)) rfl (fun y => hV _ y (by omega)) (by omega) (by omega) (by omega)
  have a8 := a7.ap (x := 33) (j := 10) (c := .inr (.long, 6)) rfl (fun y => hV _ y (by omega)) (by omega) (by omega) (by omega)
  have a9 := a8.ap (x := 33) (j := 12) (c := .inr (.int, 8)) rfl (fun y => hV _ y (by omega)) (by omega) (by omega) (by omega)
  have a10 := a9.ap (x := 33) (j := 14) (c := .inr (.long, 4)) rfl (fun y => hV _ y (by omega)) (by omega) (by omega) (by omega)
  have a11 := a10.ap (x := 33) (j := 15) (c := .inr (.int, 4)) rfl (fun y => hV _ y (by omega)) (by omega) (by omega) (by omega)
  refine zCC_of (ls := [.ref 33]) pf_X1_init rfl (Nat.le_of_ble_eq_true rfl) ?_
  refine vb_X1_init_0 _ _ _ ?_
  simp only [B_X1_init_0, oPI, oPL, oILOAD, oLLOAD, oALOAD, oISTORE, oASTORE, oLSTORE, oIINC, oIADD, oISUB, oIMUL, oIAND, oIOR, oIXOR, oIDIV, oIREM, oISHL, oISHR, oIUSHR, oLADD, oLSUB, oLMUL, oLOR, oLDIV, oLREM, oLCMP, oLSHL, oINEG, oI2L, oL2I, oI2B, oI2C, oDUP, oPOP, oDUP2, oIFEQ, oICEQ, oIFNE, oICNE, oIFLT, oICLT, oIFGE, oICGE, oIFGT, oICGT, oIFLE, oICLE, oIFNULL, oIFNONNULL, oTSW, oLSW, oGETI, oGETL, oGETR, oPUTI, oPUTZ, oPUTL, oPUTR, oIALD, oBALD, oZALD, oLALD, oAALD, oALEN, oIAST, oBAST, oZAST, oLAST, oIRET, oZRET, oLRET, oVRET, oARET, oOBJ, oINI, oPS, oNEW, oNEWAI, oNEWAB, oNEWAZ, oNEWAL, oCOPY, oINV0, oINS0, oINV1, oINS1, oINV2, oINS2, oINV3, oINS3, oINV4, oINS4, oINV5, oINS5, oINV6, oINS6, List.getElem?_cons_zero, List.getElem?_cons_succ, List.set_cons_zero, List.set_cons_succ, znl, zs4, zc1, true_and, and_self, Value.category, Option.toList, List.cons_append, List.nil_append, zvr]
  exact ⟨⟨by decide, by decide⟩, z.sa (x := 33) (by omega) (by omega) rfl, ⟨by decide, by decide⟩, a1.sa (x := 33) (by omega) (by omega) rfl, ⟨by decide, by decide⟩, a2.sa (x := 33) (by omega) (by omega) rfl, ⟨by decide, by decide⟩, a3.sa (x := 33) (by omega) (by omega) rfl, ⟨by decide, by decide⟩, a4.sa (x := 33) (by omega) (by omega) rfl, ⟨by decide, by decide⟩, a5.sa (x := 33) (by omega) (by omega) rfl, ⟨by decide, by decide⟩, a6.sa (x := 33) (by omega) (by omega) rfl, ⟨by decide, by decide⟩, a7.sa (x := 33) (by omega) (by omega) rfl, ⟨by decide, by decide⟩, a8.sa (x := 33) (by omega) (by omega) rfl, ⟨by decide, by decide⟩, a9.sa (x := 33) (by omega) (by omega) rfl, ⟨by decide, by decide⟩, a10.sa (x := 33) (by omega) (by omega) rfl, k _ a11⟩
theorem ci_reader (z : zN h 18 L V) (hV : ∀ x y, 18 ≤ x → V x y = 0) (k : ∀ h', zN h' 32 (((17, 1), 20) :: ((20, 15), 31) :: ((20, 14), 30) :: ((20, 12), 29) :: ((20, 10), 28) :: ((20, 9), 27) :: ((20, 7), 26) :: ((20, 6), 25) :: ((20, 5), 24) :: ((20, 4), 23) :: ((20, 3), 22) :: ((20, 2), 21) :: ((17, 0), 18) :: ((18, 0), 19) :: L) V → R none h') : zCC X M_X2_init [.ref 17] h R := by
  refine zCC_of (ls := [.ref 17]) pf_X2_init rfl (Nat.le_of_ble_eq_true rfl) ?_
  refine vb_X2_init_0 _ _ _ ?_
  simp only [B_X2_init_0, oPI, oPL, oILOAD, oLLOAD, oALOAD, oISTORE, oASTORE, oLSTORE, oIINC, oIADD, oISUB, oIMUL, oIAND, oIOR, oIXOR, oIDIV, oIREM, oISHL, oISHR, oIUSHR, oLADD, oLSUB, oLMUL, oLOR, oLDIV, oLREM, oLCMP, oLSHL, oINEG, oI2L, oL2I, oI2B, oI2C, oDUP, oPOP, oDUP2, oIFEQ, oICEQ, oIFNE, oICNE, oIFLT, oICLT, oIFGE, oICGE, oIFGT, oICGT, oIFLE, oICLE, oIFNULL, oIFNONNULL, oTSW, oLSW, oGETI, oGETL, oGETR, oPUTI, oPUTZ, oPUTL, oPUTR, oIALD, oBALD, oZALD, oLALD, oAALD, oALEN, oIAST, oBAST, oZAST, oLAST, oIRET, oZRET, oLRET, oVRET, oARET, oOBJ, oINI, oPS, oNEW, oNEWAI, oNEWAB, oNEWAZ, oNEWAL, oCOPY, oINV0, oINS0, oINV1, oINS1, oINV2, oINS2, oINV3, oINS3, oINV4, oINS4, oINV5, oINS5, oINV6, oINS6, List.getElem?_cons_zero, List.getElem?_cons_succ, List.set_cons_zero, List.set_cons_succ, znl, zs4, zc1, true_and, and_self, Value.category, Option.toList, List.cons_append, List.nil_append, zvr]
  rw [z.1]
  refine ci_tape (z.al rfl (fun y => hV _ y (by omega)) (by omega)) (fun x y q => hV x y (by omega)) (fun h1 z1 => ?_)
  have s1 : zsh h1 17 = some (.inl 2) := z1.sh (by omega) (by omega) rfl
  have z2 := z1.pr (x := 17) (j := 0) (q := 18) (by omega) (by omega)
  simp only [oPI, oPL, oILOAD, oLLOAD, oALOAD, oISTORE, oASTORE, oLSTORE, oIINC, oIADD, oISUB, oIMUL, oIAND, oIOR, oIXOR, oIDIV, oIREM, oISHL, oISHR, oIUSHR, oLADD, oLSUB, oLMUL, oLOR, oLDIV, oLREM, oLCMP, oLSHL, oINEG, oI2L, oL2I, oI2B, oI2C, oDUP, oPOP, oDUP2, oIFEQ, oICEQ, oIFNE, oICNE, oIFLT, oICLT, oIFGE, oICGE, oIFGT, oICGT, oIFLE, oICLE, oIFNULL, oIFNONNULL, oTSW, oLSW, oGETI, oGETL, oGETR, oPUTI, oPUTZ, oPUTL, oPUTR, oIALD, oBALD, oZALD, oLALD, oAALD, oALEN, oIAST, oBAST, oZAST, oLAST, oIRET, oZRET, oLRET, oVRET, oARET, oOBJ, oINI, oPS, oNEW, oNEWAI, oNEWAB, oNEWAZ, oNEWAL, oCOPY, oINV0, oINS0, oINV1, oINS1, oINV2, oINS2, oINV3, oINS3, oINV4, oINS4, oINV5, oINS5, oINV6, oINS6, List.getElem?_cons_zero, List.getElem?_cons_succ, List.set_cons_zero, List.set_cons_succ, znl, zs4, zc1, true_and, and_self, Value.category, Option.toList, List.cons_append, List.nil_append, zvr, s1]
  rw [z2.1]
  refine ci_plan20 (z2.al rfl (fun y => hV _ y (by omega)) (by omega)) (fun x y q => hV x y (by omega)) (fun h3 z3 => ?_)
  have s3 : zsh h3 17 = some (.inl 2) := z3.sh (by omega) (by omega) rfl
  simp only [oPI, oPL, oILOAD, oLLOAD, oALOAD, oISTORE, oASTORE, oLSTORE, oIINC, oIADD, oISUB, oIMUL, oIAND, oIOR, oIXOR, oIDIV, oIREM, oISHL, oISHR, oIUSHR, oLADD, oLSUB, oLMUL, oLOR, oLDIV, oLREM, oLCMP, oLSHL, oINEG, oI2L, oL2I, oI2B, oI2C, oDUP, oPOP, oDUP2, oIFEQ, oICEQ, oIFNE, oICNE, oIFLT, oICLT, oIFGE, oICGE, oIFGT, oICGT, oIFLE, oICLE, oIFNULL, oIFNONNULL, oTSW, oLSW, oGETI, oGETL, oGETR, oPUTI, oPUTZ, oPUTL, oPUTR, oIALD, oBALD, oZALD, oLALD, oAALD, oALEN, oIAST, oBAST, oZAST, oLAST, oIRET, oZRET, oLRET, oVRET, oARET, oOBJ, oINI, oPS, oNEW, oNEWAI, oNEWAB, oNEWAZ, oNEWAL, oCOPY, oINV0, oINS0, oINV1, oINS1, oINV2, oINS2, oINV3, oINS3, oINV4, oINS4, oINV5, oINS5, oINV6, oINS6, List.getElem?_cons_zero, List.getElem?_cons_succ, List.set_cons_zero, List.set_cons_succ, znl, zs4, zc1, true_and, and_self, Value.category, Option.toList, List.cons_append, List.nil_append, zvr, s3]
  exact k _ (z3.pr (by omega) (by omega))
theorem ci_scene (z : zN h 33 L V) (hV : ∀ x y, 33 ≤ x → V x y = 0) (k : ∀ h', zN h' 46 (((32, 1), 45) :: ((32, 0), 33) :: ((33, 15), 44) :: ((33, 14), 43) :: ((33, 12), 42) :: ((33, 10), 41) :: ((33, 9), 40) :: ((33, 7), 39) :: ((33, 6), 38) :: ((33, 5), 37) :: ((33, 4), 36) :: ((33, 3), 35) :: ((33, 2), 34) :: L) V → R none h') : zCC X M_X4_init [.ref 32] h R := by
  refine zCC_of (ls := [.ref 32]) pf_X4_init rfl (Nat.le_of_ble_eq_true rfl) ?_
  refine vb_X4_init_0 _ _ _ ?_
  simp only [B_X4_init_0, oPI, oPL, oILOAD, oLLOAD, oALOAD, oISTORE, oASTORE, oLSTORE, oIINC, oIADD, oISUB, oIMUL, oIAND, oIOR, oIXOR, oIDIV, oIREM, oISHL, oISHR, oIUSHR, oLADD, oLSUB, oLMUL, oLOR, oLDIV, oLREM, oLCMP, oLSHL, oINEG, oI2L, oL2I, oI2B, oI2C, oDUP, oPOP, oDUP2, oIFEQ, oICEQ, oIFNE, oICNE, oIFLT, oICLT, oIFGE, oICGE, oIFGT, oICGT, oIFLE, oICLE, oIFNULL, oIFNONNULL, oTSW, oLSW, oGETI, oGETL, oGETR, oPUTI, oPUTZ, oPUTL, oPUTR, oIALD, oBALD, oZALD, oLALD, oAALD, oALEN, oIAST, oBAST, oZAST, oLAST, oIRET, oZRET, oLRET, oVRET, oARET, oOBJ, oINI, oPS, oNEW, oNEWAI, oNEWAB, oNEWAZ, oNEWAL, oCOPY, oINV0, oINS0, oINV1, oINS1, oINV2, oINS2, oINV3, oINS3, oINV4, oINS4, oINV5, oINS5, oINV6, oINS6, List.getElem?_cons_zero, List.getElem?_cons_succ, List.set_cons_zero, List.set_cons_succ, znl, zs4, zc1, true_and, and_self, Value.category, Option.toList, List.cons_append, List.nil_append, zvr]
  rw [z.1]
  refine ci_plan33 (z.al rfl (fun y => hV _ y (by omega)) (by omega)) (fun x y q => hV x y (by omega)) (fun h1 z1 => ?_)
  have s1 : zsh h1 32 = some (.inl 4) := z1.sh (by omega) (by omega) rfl
  have z2 := z1.pr (x := 32) (j := 0) (q := 33) (by omega) (by omega)
  simp only [oPI, oPL, oILOAD, oLLOAD, oALOAD, oISTORE, oASTORE, oLSTORE, oIINC, oIADD, oISUB, oIMUL, oIAND, oIOR, oIXOR, oIDIV, oIREM, oISHL, oISHR, oIUSHR, oLADD, oLSUB, oLMUL, oLOR, oLDIV, oLREM, oLCMP, oLSHL, oINEG, oI2L, oL2I, oI2B, oI2C, oDUP, oPOP, oDUP2, oIFEQ, oICEQ, oIFNE, oICNE, oIFLT, oICLT, oIFGE, oICGE, oIFGT, oICGT, oIFLE, oICLE, oIFNULL, oIFNONNULL, oTSW, oLSW, oGETI, oGETL, oGETR, oPUTI, oPUTZ, oPUTL, oPUTR, oIALD, oBALD, oZALD, oLALD, oAALD, oALEN, oIAST, oBAST, oZAST, oLAST, oIRET, oZRET, oLRET, oVRET, oARET, oOBJ, oINI, oPS, oNEW, oNEWAI, oNEWAB, oNEWAZ, oNEWAL, oCOPY, oINV0, oINS0, oINV1, oINS1, oINV2, oINS2, oINV3, oINS3, oINV4, oINS4, oINV5, oINS5, oINV6, oINS6, List.getElem?_cons_zero, List.getElem?_cons_succ, List.set_cons_zero, List.set_cons_succ, znl, zs4, zc1, true_and, and_self, Value.category, Option.toList, List.cons_append, List.nil_append, zvr, s1]
  exact ⟨⟨by decide, by decide⟩, z2.sa (x := 32) (by omega) (by omega) rfl, k _ (z2.ap rfl (fun y => hV _ y (by omega)) (by omega) (by omega) (by omega))⟩
theorem ci_memory (z : zN h 47 L V) (hV : ∀ x y, 47 ≤ x → V x y = 0) (k : ∀ h', zN h' 68 (((46, 1), 64) :: ((46, 0), 47) :: L) V → R none h') : zCCo X M_X0_init [.ref 46] h R := by
  have z1 := z.mp (x := 46) (j := 0) (N := 16) (K := 15) (by omega) hV (by omega) (by omega)
  have z2 := z1.mp (x := 46) (j := 1) (N := 3) (K := 15) (by omega) (fun x y q => hV x y (by omega)) (by omega) (by omega)
  refine zCCo_of (ls := [.ref 46]) pf_X0_init rfl (Nat.le_of_ble_eq_true rfl) ?_
  refine vb_X0_init_0 _ _ _ ?_
  simp only [B_X0_init_0, oMNEWA, oPI, oPL, oILOAD, oLLOAD, oALOAD, oISTORE, oASTORE, oLSTORE, oIINC, oIADD, oISUB, oIMUL, oIAND, oIOR, oIXOR, oIDIV, oIREM, oISHL, oISHR, oIUSHR, oLADD, oLSUB, oLMUL, oLOR, oLDIV, oLREM, oLCMP, oLSHL, oINEG, oI2L, oL2I, oI2B, oI2C, oDUP, oPOP, oDUP2, oIFEQ, oICEQ, oIFNE, oICNE, oIFLT, oICLT, oIFGE, oICGE, oIFGT, oICGT, oIFLE, oICLE, oIFNULL, oIFNONNULL, oTSW, oLSW, oGETI, oGETL, oGETR, oPUTI, oPUTZ, oPUTL, oPUTR, oIALD, oBALD, oZALD, oLALD, oAALD, oALEN, oIAST, oBAST, oZAST, oLAST, oIRET, oZRET, oLRET, oVRET, oARET, oOBJ, oINI, oPS, oNEW, oNEWAI, oNEWAB, oNEWAZ, oNEWAL, oCOPY, oINV0, oINS0, oINV1, oINS1, oINV2, oINS2, oINV3, oINS3, oINV4, oINS4, oINV5, oINS5, oINV6, oINS6, List.getElem?_cons_zero, List.getElem?_cons_succ, List.set_cons_zero, List.set_cons_succ, znl, zs4, zc1, true_and, and_self, Value.category, Option.toList, List.cons_append, List.nil_append, zvr]
  exact ⟨⟨rfl, rfl⟩, z.sm (x := 46) (by omega) (by omega) rfl, ⟨rfl, rfl⟩, z1.sm (x := 46) (by omega) (by omega) rfl, k _ z2⟩
/-- where a shift comes from by a click, and where it goes -/
def zfr (s : Nat) : Nat → Nat
  | 0 => (zsf ((s / 12 : Nat) + 3) ((s % 12 : Nat) + 1)).toNat
  | 1 => (zsf ((s / 12 : Nat) + 2) ((s % 12 : Nat) + 1)).toNat
  | 2 => (zsf ((s / 12 : Nat) + 1) (s % 12 : Nat)).toNat
  | 4 => (zsf ((s / 12 : Nat) - 1) (s % 12 : Nat)).toNat
  | 5 => (zsf ((s / 12 : Nat) - 2) ((s % 12 : Nat) - 1)).toNat
  | _ => (zsf ((s / 12 : Nat) - 3) ((s % 12 : Nat) - 1)).toNat
def zto (s u : Nat) : Nat := (zsf ((s / 12 : Nat) + ((u : Int) - 3)) ((s % 12 : Nat) + ((u : Int) - 3).tdiv 2)).toNat
theorem zfr_lt (s u : Nat) : zfr s u < 144 := by
  have z : ∀ a b : Int, (zsf a b).toNat < 144 := fun a b => by have := zsf_b a b; omega
  unfold zfr
  split <;> exact z _ _
theorem zfr_to {s S u : Nat} (hs : s < 144) (hS : S < 144) (hu : u = 0 ∨ u = 1 ∨ u = 2 ∨ u = 4 ∨ u = 5 ∨ u = 6) : zfr s u = S ↔ zto S u = s := by
  rcases hu with rfl | rfl | rfl | rfl | rfl | rfl
  · show (zsf ((s / 12 : Nat) + 3) ((s % 12 : Nat) + 1)).toNat = S ↔ (zsf ((S / 12 : Nat) + (-3)) ((S % 12 : Nat) + (-1))).toNat = s
    unfold zsf; omega
  · show (zsf ((s / 12 : Nat) + 2) ((s % 12 : Nat) + 1)).toNat = S ↔ (zsf ((S / 12 : Nat) + (-2)) ((S % 12 : Nat) + (-1))).toNat = s
    unfold zsf; omega
  · show (zsf ((s / 12 : Nat) + 1) (s % 12 : Nat)).toNat = S ↔ (zsf ((S / 12 : Nat) + (-1)) ((S % 12 : Nat) + (0))).toNat = s
    unfold zsf; omega
  · show (zsf ((s / 12 : Nat) - 1) (s % 12 : Nat)).toNat = S ↔ (zsf ((S / 12 : Nat) + (1)) ((S % 12 : Nat) + (0))).toNat = s
    unfold zsf; omega
  · show (zsf ((s / 12 : Nat) - 2) ((s % 12 : Nat) - 1)).toNat = S ↔ (zsf ((S / 12 : Nat) + (2)) ((S % 12 : Nat) + (1))).toNat = s
    unfold zsf; omega
  · show (zsf ((s / 12 : Nat) - 3) ((s % 12 : Nat) - 1)).toNat = S ↔ (zsf ((S / 12 : Nat) + (3)) ((S % 12 : Nat) + (1))).toNat = s
    unfold zsf; omega
def zgt (r : Nat → Nat) (S u s v : Nat) : Nat := if zfr s v < S ∨ (zfr s v = S ∧ v < u) then r (zfr s v) else 0
def zFg (r : Nat → Nat) (S u s : Nat) : Nat := zgt r S u s 0 + zgt r S u s 1 + zgt r S u s 2 + zgt r S u s 4 + zgt r S u s 5 + zgt r S u s 6
theorem zgt_ne {r : Nat → Nat} {S u s v : Nat} (hv : v ≠ u) : zgt r S (u + 1) s v = zgt r S u s v := by
  unfold zgt
  by_cases c : zfr s v < S ∨ (zfr s v = S ∧ v < u)
  · rw [if_pos c, if_pos (by omega)]
  · rw [if_neg c, if_neg (by omega)]
theorem zgt_eq {r : Nat → Nat} {S u s : Nat} : zgt r S (u + 1) s u = zgt r S u s u + if zfr s u = S then r S else 0 := by
  unfold zgt
  by_cases c : zfr s u = S
  · rw [if_pos (Or.inr ⟨c, by omega⟩), if_neg (by omega), if_pos c, c]; omega
  · rw [if_neg c]
    by_cases c2 : zfr s u < S
    · rw [if_pos (Or.inl c2), if_pos (Or.inl c2)]; omega
    · rw [if_neg (by omega), if_neg (by omega)]
theorem zFg_s {r : Nat → Nat} {S u s : Nat} (hu : u = 0 ∨ u = 1 ∨ u = 2 ∨ u = 4 ∨ u = 5 ∨ u = 6) : zFg r S (u + 1) s = zFg r S u s + if zfr s u = S then r S else 0 := by
  unfold zFg
  rcases hu with rfl | rfl | rfl | rfl | rfl | rfl
  · rw [zgt_eq (u := 0), zgt_ne (u := 0) (v := 1) (by omega), zgt_ne (u := 0) (v := 2) (by omega), zgt_ne (u := 0) (v := 4) (by omega), zgt_ne (u := 0) (v := 5) (by omega), zgt_ne (u := 0) (v := 6) (by omega)]; omega
  · rw [zgt_eq (u := 1), zgt_ne (u := 1) (v := 0) (by omega), zgt_ne (u := 1) (v := 2) (by omega), zgt_ne (u := 1) (v := 4) (by omega), zgt_ne (u := 1) (v := 5) (by omega), zgt_ne (u := 1) (v := 6) (by omega)]; omega
  · rw [zgt_eq (u := 2), zgt_ne (u := 2) (v := 0) (by omega), zgt_ne (u := 2) (v := 1) (by omega), zgt_ne (u := 2) (v := 4) (by omega), zgt_ne (u := 2) (v := 5) (by omega), zgt_ne (u := 2) (v := 6) (by omega)]; omega
  · rw [zgt_eq (u := 4), zgt_ne (u := 4) (v := 0) (by omega), zgt_ne (u := 4) (v := 1) (by omega), zgt_ne (u := 4) (v := 2) (by omega), zgt_ne (u := 4) (v := 5) (by omega), zgt_ne (u := 4) (v := 6) (by omega)]; omega
  · rw [zgt_eq (u := 5), zgt_ne (u := 5) (v := 0) (by omega), zgt_ne (u := 5) (v := 1) (by omega), zgt_ne (u := 5) (v := 2) (by omega), zgt_ne (u := 5) (v := 4) (by omega), zgt_ne (u := 5) (v := 6) (by omega)]; omega
  · rw [zgt_eq (u := 6), zgt_ne (u := 6) (v := 0) (by omega), zgt_ne (u := 6) (v := 1) (by omega), zgt_ne (u := 6) (v := 2) (by omega), zgt_ne (u := 6) (v := 4) (by omega), zgt_ne (u := 6) (v := 5) (by omega)]; omega
theorem zFg_3 {r : Nat → Nat} {S s : Nat} : zFg r S 4 s = zFg r S 3 s := by
  unfold zFg
  rw [zgt_ne (u := 3) (v := 0) (by omega), zgt_ne (u := 3) (v := 1) (by omega), zgt_ne (u := 3) (v := 2) (by omega), zgt_ne (u := 3) (v := 4) (by omega), zgt_ne (u := 3) (v := 5) (by omega), zgt_ne (u := 3) (v := 6) (by omega)]
theorem zgt_n {r : Nat → Nat} {S s v : Nat} (hv : v < 7) : zgt r S 7 s v = zgt r (S + 1) 0 s v := by
  unfold zgt
  by_cases c : zfr s v < S + 1
  · rw [if_pos (by omega), if_pos (by omega)]
  · rw [if_neg (by omega), if_neg (by omega)]
theorem zFg_n {r : Nat → Nat} {S s : Nat} : zFg r S 7 s = zFg r (S + 1) 0 s := by
  unfold zFg
  rw [zgt_n (v := 0) (by omega), zgt_n (v := 1) (by omega), zgt_n (v := 2) (by omega), zgt_n (v := 4) (by omega), zgt_n (v := 5) (by omega), zgt_n (v := 6) (by omega)]
theorem zFg_0 {r : Nat → Nat} {s : Nat} : zFg r 0 0 s = 0 := by
  have z : ∀ v, zgt r 0 0 s v = 0 := fun v => by unfold zgt; rw [if_neg (by omega)]
  unfold zFg
  rw [z, z, z, z, z, z]
theorem zFg_e {n s : Nat} : zFg (zct n) 144 0 s = zct (n + 1) s := by
  have z : ∀ v, zgt (zct n) 144 0 s v = zct n (zfr s v) := fun v => by unfold zgt; rw [if_pos (Or.inl (zfr_lt s v))]
  unfold zFg
  rw [z, z, z, z, z, z]
  rfl
theorem zFg_b {n S u s : Nat} (hn : n ≤ 4) : zFg (zct n) S u s ≤ 46656 := by
  have z : ∀ v, zgt (zct n) S u s v ≤ 7776 := fun v => by
    unfold zgt
    have := zct_5 (n := n) (by omega) (zfr s v)
    split <;> omega
  have := z 0; have := z 1; have := z 2; have := z 4; have := z 5; have := z 6
  unfold zFg
  omega
def zV1 : Nat → Nat → Int32 := fun x y => if 70 ≤ x ∧ x ≤ 75 ∧ y < 144 then zj (zct (x - 70) y : Nat) else 0
/-- while the counts are made: row t up to shift S and click u -/
def zKt (h2 hk : zHp) (t : Nat) (F : Nat → Nat) : Prop := hk.1 = h2.1 ∧ hk.2.2 = h2.2.2 ∧ (∀ x y, 16 ≤ x → x < 77 → ¬ (70 ≤ x ∧ x ≤ 75 ∧ y < 144) → zgi hk x y = 0) ∧ ∀ m, m ≤ 5 → ∀ s, s < 144 → gz hk (70 + m) s = if m < t then (zct m s : Nat) else if m = t then (F s : Nat) else 0
theorem ci_rows (z : zN h 69 L zV0) (k : ∀ h', zN h' 77 (((68, 1), 76) :: ((68, 0), 69) :: L) zV1 → R none h') : zCCo X M_X3_init [.ref 68] h R := by
  have z1 := z.mp (x := 68) (j := 0) (N := 6) (K := 144) (by omega) (fun _ _ _ => rfl) (by omega) (by omega)
  have z2 := z1.ap (x := 68) (j := 1) (c := .inr (.boolean, 144)) rfl (fun _ => rfl) (by omega) (by omega) (by omega)
  have s1 : zsh (zmn h 6 144) 68 = some (.inl 3) := z.sm (by omega) (by omega) rfl
  have s2 : zsh (zal (zpr (zmn h 6 144) 68 0 (some (znx h))) (.inr (.boolean, 144))) 68 = some (.inl 3) := z1.sa (by omega) (by omega) rfl
  obtain ⟨h2, hh2⟩ : ∃ h2, h2 = zpr (zal (zpr (zmn h 6 144) 68 0 (some (znx h))) (.inr (.boolean, 144))) 68 1 (some (znx (zpr (zmn h 6 144) 68 0 (some (znx h))))) := ⟨_, rfl⟩
  rw [← hh2] at z2
  have t68 : zsh h2 68 = some (.inl 3) := z2.sh (by omega) (by omega) rfl
  have t69 : zsh h2 69 = some (.inr (.array .int, 6)) := z2.sh (by omega) (by omega) rfl
  have t7 : ∀ i, i < 6 → zsh h2 (70 + i) = some (.inr (.int, 144)) := fun i hi => z2.sh (by omega) (by omega) (by
    have := zSs_c i hi
    rw [show 54 + i = 70 + i - 16 by omega] at this
    exact this)
  have r68 : zgr h2 68 0 = some 69 := z2.gr (by omega) (by omega) (by omega)
  have r69 : ∀ i, i < 6 → zgr h2 69 i = some (70 + i) := fun i hi => (z2.ga (by omega) (by omega) (by omega)).trans (if_pos hi)
  have i2 : ∀ x y, 16 ≤ x → x < 77 → zgi h2 x y = 0 := fun x y q1 q2 => z2.gi q1 q2 y
  have t70 : zsh h2 70 = some (.inr (.int, 144)) := t7 0 (by omega)
  have r690 : zgr h2 69 (zj 0).toNatClampNeg = some 70 := r69 0 (by omega)
  refine zCCo_of (ls := [.ref 68, .retAddr 0, .retAddr 0, .retAddr 0, .retAddr 0]) pf_X3_init rfl (Nat.le_of_ble_eq_true rfl) ?_
  refine vb_X3_init_0 _ _ _ ?_
  simp only [B_X3_init_0, oMNEWA, oPI, oPL, oILOAD, oLLOAD, oALOAD, oISTORE, oASTORE, oLSTORE, oIINC, oIADD, oISUB, oIMUL, oIAND, oIOR, oIXOR, oIDIV, oIREM, oISHL, oISHR, oIUSHR, oLADD, oLSUB, oLMUL, oLOR, oLDIV, oLREM, oLCMP, oLSHL, oINEG, oI2L, oL2I, oI2B, oI2C, oDUP, oPOP, oDUP2, oIFEQ, oICEQ, oIFNE, oICNE, oIFLT, oICLT, oIFGE, oICGE, oIFGT, oICGT, oIFLE, oICLE, oIFNULL, oIFNONNULL, oTSW, oLSW, oGETI, oGETL, oGETR, oPUTI, oPUTZ, oPUTL, oPUTR, oIALD, oBALD, oZALD, oLALD, oAALD, oALEN, oIAST, oBAST, oZAST, oLAST, oIRET, oZRET, oLRET, oVRET, oARET, oOBJ, oINI, oPS, oNEW, oNEWAI, oNEWAB, oNEWAZ, oNEWAL, oCOPY, oINV0, oINS0, oINV1, oINS1, oINV2, oINS2, oINV3, oINS3, oINV4, oINS4, oINV5, oINS5, oINV6, oINS6, List.getElem?_cons_zero, List.getElem?_cons_succ, List.set_cons_zero, List.set_cons_succ, znl, zs4, zc1, true_and, and_self, Value.category, Option.toList, List.cons_append, List.nil_append, zvr]
  refine ⟨⟨rfl, rfl⟩, s1, ⟨by decide, by decide⟩, s2, ?_⟩
  rw [← hh2]
  simp only [t68, t69, r68, r690, t70]
  refine ⟨trivial, zj_in (by omega) (by omega) (by omega), zj_in (by omega) (by omega) (by omega), ?_⟩
  -- the loops
  have tr : ∀ {t : Nat} {F : Nat → Nat} {hk : zHp}, zKt h2 hk t F → zsh hk 68 = some (.inl 3) ∧ zsh hk 69 = some (.inr (.array .int, 6)) ∧ (∀ i, i < 6 → zsh hk (70 + i) = some (.inr (.int, 144))) ∧ zgr hk 68 0 = some 69 ∧ ∀ i, i < 6 → zgr hk 69 i = some (70 + i) := fun {t F hk} q => by
    have a1 : ∀ x, zsh hk x = zsh h2 x := fun x => by unfold zsh; rw [q.1]
    have a2 : ∀ x y, zgr hk x y = zgr h2 x y := fun x y => by unfold zgr; rw [q.2.1]
    exact ⟨(a1 _).trans t68, (a1 _).trans t69, fun i hi => (a1 _).trans (t7 i hi), (a2 _ _).trans r68, fun i hi => (a2 _ _).trans (r69 i hi)⟩
  refine zdown (m := 6) (P := fun t => 1 ≤ t → ∀ hk u2 u3 u4, zKt h2 hk t (fun _ => 0) → zV X M_X3_init (zAq (zQm M_X3_init R)) 8 1014 37 [.ref 68, .int (zj t), u2, u3, u4] [] hk) (fun t ht iht t1 hk u2 u3 u4 q => ?_) 1 (by omega) (by omega) (zpi h2 70 (zj 0).toNatClampNeg (zj 1)) _ _ _ ⟨rfl, rfl, fun x y q1 q2 q3 => ?_, fun m hm s hs => ?_⟩
  rotate_left
  · rw [show (zj 0).toNatClampNeg = 0 from rfl, zpi_o (by omega)]
    exact i2 x y q1 q2
  · rw [show (zj 0).toNatClampNeg = 0 from rfl, gz_pi]
    have g0 : gz h2 (70 + m) s = 0 := (congrArg Int32.toInt (i2 _ _ (by omega) (by omega))).trans rfl
    by_cases c : m = 0
    · subst c
      by_cases c2 : s = 0
      · subst c2
        rw [if_pos (by omega), if_pos (by omega)]; rfl
      · rw [if_neg (by omega), if_pos (by omega), g0]
        show (0 : Int) = ((if s = 0 then 1 else 0 : Nat) : Int)
        rw [if_neg c2]; rfl
    · rw [if_neg (by omega), if_neg (by omega), g0]
      split <;> rfl
  obtain ⟨a68, a69, a7, b68, b69⟩ := tr q
  by_cases c6 : t = 6
  · subst c6
    refine vb_X3_init_37 _ _ _ ?_
    simp only [B_X3_init_37, oPI, oPL, oILOAD, oLLOAD, oALOAD, oISTORE, oASTORE, oLSTORE, oIINC, oIADD, oISUB, oIMUL, oIAND, oIOR, oIXOR, oIDIV, oIREM, oISHL, oISHR, oIUSHR, oLADD, oLSUB, oLMUL, oLOR, oLDIV, oLREM, oLCMP, oLSHL, oINEG, oI2L, oL2I, oI2B, oI2C, oDUP, oPOP, oDUP2, oIFEQ, oICEQ, oIFNE, oICNE, oIFLT, oICLT, oIFGE, oICGE, oIFGT, oICGT, oIFLE, oICLE, oIFNULL, oIFNONNULL, oTSW, oLSW, oGETI, oGETL, oGETR, oPUTI, oPUTZ, oPUTL, oPUTR, oIALD, oBALD, oZALD, oLALD, oAALD, oALEN, oIAST, oBAST, oZAST, oLAST, oIRET, oZRET, oLRET, oVRET, oARET, oOBJ, oINI, oPS, oNEW, oNEWAI, oNEWAB, oNEWAZ, oNEWAL, oCOPY, oINV0, oINS0, oINV1, oINS1, oINV2, oINS2, oINV3, oINS3, oINV4, oINS4, oINV5, oINS5, oINV6, oINS6, List.getElem?_cons_zero, List.getElem?_cons_succ, List.set_cons_zero, List.set_cons_succ, znl, zs4, zc1, true_and, and_self, Value.category, Option.toList, List.cons_append, List.nil_append, zvr]
    try simp (disch := omega) only [zgi_gz, zj_cn, zj_lt, zj_le, zj_eq, zj_add, zj_sub, zj_mul, zj_neg, zj_lt0, zj_le0, zj_0le, zj_0lt, zj_eq0]
    refine ⟨fun _ => ?_, fun c => by omega⟩
    refine vb_X3_init_123 _ _ _ ?_
    simp only [B_X3_init_123, oPI, oPL, oILOAD, oLLOAD, oALOAD, oISTORE, oASTORE, oLSTORE, oIINC, oIADD, oISUB, oIMUL, oIAND, oIOR, oIXOR, oIDIV, oIREM, oISHL, oISHR, oIUSHR, oLADD, oLSUB, oLMUL, oLOR, oLDIV, oLREM, oLCMP, oLSHL, oINEG, oI2L, oL2I, oI2B, oI2C, oDUP, oPOP, oDUP2, oIFEQ, oICEQ, oIFNE, oICNE, oIFLT, oICLT, oIFGE, oICGE, oIFGT, oICGT, oIFLE, oICLE, oIFNULL, oIFNONNULL, oTSW, oLSW, oGETI, oGETL, oGETR, oPUTI, oPUTZ, oPUTL, oPUTR, oIALD, oBALD, oZALD, oLALD, oAALD, oALEN, oIAST, oBAST, oZAST, oLAST, oIRET, oZRET, oLRET, oVRET, oARET, oOBJ, oINI, oPS, oNEW, oNEWAI, oNEWAB, oNEWAZ, oNEWAL, oCOPY, oINV0, oINS0, oINV1, oINS1, oINV2, oINS2, oINV3, oINS3, oINV4, oINS4, oINV5, oINS5, oINV6, oINS6, List.getElem?_cons_zero, List.getElem?_cons_succ, List.set_cons_zero, List.set_cons_succ, znl, zs4, zc1, true_and, and_self, Value.category, Option.toList, List.cons_append, List.nil_append, zvr]
    refine k hk ⟨?_, by omega, z2.2.2.1, fun x h1 h2x => ?_⟩
    · unfold znx; rw [q.1]; exact z2.1
    · have := z2.2.2.2 x h1 h2x
      refine ⟨by unfold zsh; rw [q.1]; exact this.1, fun y => ?_, fun y => by unfold zgl; rw [q.2.1]; exact this.2.2.1 y, fun y => by unfold zgr; rw [q.2.1]; exact this.2.2.2 y⟩
      unfold zV1
      by_cases c : 70 ≤ x ∧ x ≤ 75 ∧ y < 144
      · rw [if_pos c]
        have := q.2.2.2 (x - 70) (by omega) y c.2.2
        rw [show 70 + (x - 70) = x by omega, if_pos (by omega)] at this
        rw [zgi_gz, this]
      · rw [if_neg c]
        exact q.2.2.1 x y h1 h2x c
  refine vb_X3_init_37 _ _ _ ?_
  simp only [B_X3_init_37, oPI, oPL, oILOAD, oLLOAD, oALOAD, oISTORE, oASTORE, oLSTORE, oIINC, oIADD, oISUB, oIMUL, oIAND, oIOR, oIXOR, oIDIV, oIREM, oISHL, oISHR, oIUSHR, oLADD, oLSUB, oLMUL, oLOR, oLDIV, oLREM, oLCMP, oLSHL, oINEG, oI2L, oL2I, oI2B, oI2C, oDUP, oPOP, oDUP2, oIFEQ, oICEQ, oIFNE, oICNE, oIFLT, oICLT, oIFGE, oICGE, oIFGT, oICGT, oIFLE, oICLE, oIFNULL, oIFNONNULL, oTSW, oLSW, oGETI, oGETL, oGETR, oPUTI, oPUTZ, oPUTL, oPUTR, oIALD, oBALD, oZALD, oLALD, oAALD, oALEN, oIAST, oBAST, oZAST, oLAST, oIRET, oZRET, oLRET, oVRET, oARET, oOBJ, oINI, oPS, oNEW, oNEWAI, oNEWAB, oNEWAZ, oNEWAL, oCOPY, oINV0, oINS0, oINV1, oINS1, oINV2, oINS2, oINV3, oINS3, oINV4, oINS4, oINV5, oINS5, oINV6, oINS6, List.getElem?_cons_zero, List.getElem?_cons_succ, List.set_cons_zero, List.set_cons_succ, znl, zs4, zc1, true_and, and_self, Value.category, Option.toList, List.cons_append, List.nil_append, zvr]
  try simp (disch := omega) only [zgi_gz, zj_cn, zj_lt, zj_le, zj_eq, zj_add, zj_sub, zj_mul, zj_neg, zj_lt0, zj_le0, zj_0le, zj_0lt, zj_eq0]
  refine ⟨fun c => by omega, fun _ => ?_⟩
  have q0 : zKt h2 hk t (zFg (zct (t - 1)) 0 0) := ⟨q.1, q.2.1, q.2.2.1, fun m hm s hs => by rw [q.2.2.2 m hm s hs, zFg_0]⟩
  refine zdown (m := 144) (P := fun S => ∀ hk u3 u4, zKt h2 hk t (zFg (zct (t - 1)) S 0) → zV X M_X3_init (zAq (zQm M_X3_init R)) 8 1014 44 [.ref 68, .int (zj t), .int (zj S), u3, u4] [] hk) (fun S hS ihS hk u3 u4 q => ?_) 0 (by omega) hk u3 u4 q0
  clear q0 a68 a69 a7 b68 b69
  obtain ⟨a68, a69, a7, b68, b69⟩ := tr q
  by_cases cS : S = 144
  · subst cS
    refine vb_X3_init_44 _ _ _ ?_
    simp only [B_X3_init_44, oPI, oPL, oILOAD, oLLOAD, oALOAD, oISTORE, oASTORE, oLSTORE, oIINC, oIADD, oISUB, oIMUL, oIAND, oIOR, oIXOR, oIDIV, oIREM, oISHL, oISHR, oIUSHR, oLADD, oLSUB, oLMUL, oLOR, oLDIV, oLREM, oLCMP, oLSHL, oINEG, oI2L, oL2I, oI2B, oI2C, oDUP, oPOP, oDUP2, oIFEQ, oICEQ, oIFNE, oICNE, oIFLT, oICLT, oIFGE, oICGE, oIFGT, oICGT, oIFLE, oICLE, oIFNULL, oIFNONNULL, oTSW, oLSW, oGETI, oGETL, oGETR, oPUTI, oPUTZ, oPUTL, oPUTR, oIALD, oBALD, oZALD, oLALD, oAALD, oALEN, oIAST, oBAST, oZAST, oLAST, oIRET, oZRET, oLRET, oVRET, oARET, oOBJ, oINI, oPS, oNEW, oNEWAI, oNEWAB, oNEWAZ, oNEWAL, oCOPY, oINV0, oINS0, oINV1, oINS1, oINV2, oINS2, oINV3, oINS3, oINV4, oINS4, oINV5, oINS5, oINV6, oINS6, List.getElem?_cons_zero, List.getElem?_cons_succ, List.set_cons_zero, List.set_cons_succ, znl, zs4, zc1, true_and, and_self, Value.category, Option.toList, List.cons_append, List.nil_append, zvr]
    try simp (disch := omega) only [zgi_gz, zj_cn, zj_lt, zj_le, zj_eq, zj_add, zj_sub, zj_mul, zj_neg, zj_lt0, zj_le0, zj_0le, zj_0lt, zj_eq0]
    refine ⟨fun _ => ?_, fun c => by omega⟩
    refine vb_X3_init_117 _ _ _ ?_
    simp only [B_X3_init_117, oPI, oPL, oILOAD, oLLOAD, oALOAD, oISTORE, oASTORE, oLSTORE, oIINC, oIADD, oISUB, oIMUL, oIAND, oIOR, oIXOR, oIDIV, oIREM, oISHL, oISHR, oIUSHR, oLADD, oLSUB, oLMUL, oLOR, oLDIV, oLREM, oLCMP, oLSHL, oINEG, oI2L, oL2I, oI2B, oI2C, oDUP, oPOP, oDUP2, oIFEQ, oICEQ, oIFNE, oICNE, oIFLT, oICLT, oIFGE, oICGE, oIFGT, oICGT, oIFLE, oICLE, oIFNULL, oIFNONNULL, oTSW, oLSW, oGETI, oGETL, oGETR, oPUTI, oPUTZ, oPUTL, oPUTR, oIALD, oBALD, oZALD, oLALD, oAALD, oALEN, oIAST, oBAST, oZAST, oLAST, oIRET, oZRET, oLRET, oVRET, oARET, oOBJ, oINI, oPS, oNEW, oNEWAI, oNEWAB, oNEWAZ, oNEWAL, oCOPY, oINV0, oINS0, oINV1, oINS1, oINV2, oINS2, oINV3, oINS3, oINV4, oINS4, oINV5, oINS5, oINV6, oINS6, List.getElem?_cons_zero, List.getElem?_cons_succ, List.set_cons_zero, List.set_cons_succ, znl, zs4, zc1, true_and, and_self, Value.category, Option.toList, List.cons_append, List.nil_append, zvr]
    rw [zj_add]
    refine iht (by omega) (by omega) hk _ _ _ ⟨q.1, q.2.1, q.2.2.1, fun m hm s hs => ?_⟩
    rw [q.2.2.2 m hm s hs]
    by_cases c1 : m < t
    · rw [if_pos c1, if_pos (by omega)]
    · rw [if_neg c1]
      by_cases c2 : m = t
      · rw [if_pos c2, if_pos (by omega), zFg_e, c2, show t - 1 + 1 = t by omega]
      · rw [if_neg c2, if_neg (by omega)]
        split <;> rfl
  refine vb_X3_init_44 _ _ _ ?_
  simp only [B_X3_init_44, oPI, oPL, oILOAD, oLLOAD, oALOAD, oISTORE, oASTORE, oLSTORE, oIINC, oIADD, oISUB, oIMUL, oIAND, oIOR, oIXOR, oIDIV, oIREM, oISHL, oISHR, oIUSHR, oLADD, oLSUB, oLMUL, oLOR, oLDIV, oLREM, oLCMP, oLSHL, oINEG, oI2L, oL2I, oI2B, oI2C, oDUP, oPOP, oDUP2, oIFEQ, oICEQ, oIFNE, oICNE, oIFLT, oICLT, oIFGE, oICGE, oIFGT, oICGT, oIFLE, oICLE, oIFNULL, oIFNONNULL, oTSW, oLSW, oGETI, oGETL, oGETR, oPUTI, oPUTZ, oPUTL, oPUTR, oIALD, oBALD, oZALD, oLALD, oAALD, oALEN, oIAST, oBAST, oZAST, oLAST, oIRET, oZRET, oLRET, oVRET, oARET, oOBJ, oINI, oPS, oNEW, oNEWAI, oNEWAB, oNEWAZ, oNEWAL, oCOPY, oINV0, oINS0, oINV1, oINS1, oINV2, oINS2, oINV3, oINS3, oINV4, oINS4, oINV5, oINS5, oINV6, oINS6, List.getElem?_cons_zero, List.getElem?_cons_succ, List.set_cons_zero, List.set_cons_succ, znl, zs4, zc1, true_and, and_self, Value.category, Option.toList, List.cons_append, List.nil_append, zvr]
  try simp (disch := omega) only [zgi_gz, zj_cn, zj_lt, zj_le, zj_eq, zj_add, zj_sub, zj_mul, zj_neg, zj_lt0, zj_le0, zj_0le, zj_0lt, zj_eq0]
  refine ⟨fun c => by omega, fun _ => ?_⟩
  refine zdown (m := 7) (P := fun u => ∀ hk u4, zKt h2 hk t (zFg (zct (t - 1)) S u) → zV X M_X3_init (zAq (zQm M_X3_init R)) 8 1014 54 [.ref 68, .int (zj t), .int (zj S), .int (zj ((u : Int) - 3)), u4] [] hk) (fun u hu ihu hk u4 q => ?_) 0 (by omega) hk u4 q
  clear a68 a69 a7 b68 b69
  obtain ⟨a68, a69, a7, b68, b69⟩ := tr q
  by_cases cu : u = 7
  · subst cu
    refine vb_X3_init_54 _ _ _ ?_
    simp only [B_X3_init_54, oPI, oPL, oILOAD, oLLOAD, oALOAD, oISTORE, oASTORE, oLSTORE, oIINC, oIADD, oISUB, oIMUL, oIAND, oIOR, oIXOR, oIDIV, oIREM, oISHL, oISHR, oIUSHR, oLADD, oLSUB, oLMUL, oLOR, oLDIV, oLREM, oLCMP, oLSHL, oINEG, oI2L, oL2I, oI2B, oI2C, oDUP, oPOP, oDUP2, oIFEQ, oICEQ, oIFNE, oICNE, oIFLT, oICLT, oIFGE, oICGE, oIFGT, oICGT, oIFLE, oICLE, oIFNULL, oIFNONNULL, oTSW, oLSW, oGETI, oGETL, oGETR, oPUTI, oPUTZ, oPUTL, oPUTR, oIALD, oBALD, oZALD, oLALD, oAALD, oALEN, oIAST, oBAST, oZAST, oLAST, oIRET, oZRET, oLRET, oVRET, oARET, oOBJ, oINI, oPS, oNEW, oNEWAI, oNEWAB, oNEWAZ, oNEWAL, oCOPY, oINV0, oINS0, oINV1, oINS1, oINV2, oINS2, oINV3, oINS3, oINV4, oINS4, oINV5, oINS5, oINV6, oINS6, List.getElem?_cons_zero, List.getElem?_cons_succ, List.set_cons_zero, List.set_cons_succ, znl, zs4, zc1, true_and, and_self, Value.category, Option.toList, List.cons_append, List.nil_append, zvr]
    try simp (disch := omega) only [zgi_gz, zj_cn, zj_lt, zj_le, zj_eq, zj_add, zj_sub, zj_mul, zj_neg, zj_lt0, zj_le0, zj_0le, zj_0lt, zj_eq0]
    refine ⟨fun _ => ?_, fun c => by omega⟩
    refine vb_X3_init_111 _ _ _ ?_
    simp only [B_X3_init_111, oPI, oPL, oILOAD, oLLOAD, oALOAD, oISTORE, oASTORE, oLSTORE, oIINC, oIADD, oISUB, oIMUL, oIAND, oIOR, oIXOR, oIDIV, oIREM, oISHL, oISHR, oIUSHR, oLADD, oLSUB, oLMUL, oLOR, oLDIV, oLREM, oLCMP, oLSHL, oINEG, oI2L, oL2I, oI2B, oI2C, oDUP, oPOP, oDUP2, oIFEQ, oICEQ, oIFNE, oICNE, oIFLT, oICLT, oIFGE, oICGE, oIFGT, oICGT, oIFLE, oICLE, oIFNULL, oIFNONNULL, oTSW, oLSW, oGETI, oGETL, oGETR, oPUTI, oPUTZ, oPUTL, oPUTR, oIALD, oBALD, oZALD, oLALD, oAALD, oALEN, oIAST, oBAST, oZAST, oLAST, oIRET, oZRET, oLRET, oVRET, oARET, oOBJ, oINI, oPS, oNEW, oNEWAI, oNEWAB, oNEWAZ, oNEWAL, oCOPY, oINV0, oINS0, oINV1, oINS1, oINV2, oINS2, oINV3, oINS3, oINV4, oINS4, oINV5, oINS5, oINV6, oINS6, List.getElem?_cons_zero, List.getElem?_cons_succ, List.set_cons_zero, List.set_cons_succ, znl, zs4, zc1, true_and, and_self, Value.category, Option.toList, List.cons_append, List.nil_append, zvr]
    rw [zj_add]
    exact ihS (by omega) hk _ _ ⟨q.1, q.2.1, q.2.2.1, fun m hm s hs => by rw [q.2.2.2 m hm s hs, zFg_n]⟩
  have nxt : u < 7 → ∀ hk u4, zKt h2 hk t (zFg (zct (t - 1)) S (u + 1)) → zV X M_X3_init (zAq (zQm M_X3_init R)) 8 1014 105 [.ref 68, .int (zj t), .int (zj S), .int (zj ((u : Int) - 3)), u4] [] hk := fun hu7 hk u4 q => by
    have ih := ihu hu7 hk u4 q
    refine vb_X3_init_105 _ _ _ ?_
    simp only [B_X3_init_105, oPI, oPL, oILOAD, oLLOAD, oALOAD, oISTORE, oASTORE, oLSTORE, oIINC, oIADD, oISUB, oIMUL, oIAND, oIOR, oIXOR, oIDIV, oIREM, oISHL, oISHR, oIUSHR, oLADD, oLSUB, oLMUL, oLOR, oLDIV, oLREM, oLCMP, oLSHL, oINEG, oI2L, oL2I, oI2B, oI2C, oDUP, oPOP, oDUP2, oIFEQ, oICEQ, oIFNE, oICNE, oIFLT, oICLT, oIFGE, oICGE, oIFGT, oICGT, oIFLE, oICLE, oIFNULL, oIFNONNULL, oTSW, oLSW, oGETI, oGETL, oGETR, oPUTI, oPUTZ, oPUTL, oPUTR, oIALD, oBALD, oZALD, oLALD, oAALD, oALEN, oIAST, oBAST, oZAST, oLAST, oIRET, oZRET, oLRET, oVRET, oARET, oOBJ, oINI, oPS, oNEW, oNEWAI, oNEWAB, oNEWAZ, oNEWAL, oCOPY, oINV0, oINS0, oINV1, oINS1, oINV2, oINS2, oINV3, oINS3, oINV4, oINS4, oINV5, oINS5, oINV6, oINS6, List.getElem?_cons_zero, List.getElem?_cons_succ, List.set_cons_zero, List.set_cons_succ, znl, zs4, zc1, true_and, and_self, Value.category, Option.toList, List.cons_append, List.nil_append, zvr]
    rw [zj_add]
    rw [show (u : Int) - 3 + 1 = ((u + 1 : Nat) : Int) - 3 by omega]
    exact ih
  refine vb_X3_init_54 _ _ _ ?_
  simp only [B_X3_init_54, oPI, oPL, oILOAD, oLLOAD, oALOAD, oISTORE, oASTORE, oLSTORE, oIINC, oIADD, oISUB, oIMUL, oIAND, oIOR, oIXOR, oIDIV, oIREM, oISHL, oISHR, oIUSHR, oLADD, oLSUB, oLMUL, oLOR, oLDIV, oLREM, oLCMP, oLSHL, oINEG, oI2L, oL2I, oI2B, oI2C, oDUP, oPOP, oDUP2, oIFEQ, oICEQ, oIFNE, oICNE, oIFLT, oICLT, oIFGE, oICGE, oIFGT, oICGT, oIFLE, oICLE, oIFNULL, oIFNONNULL, oTSW, oLSW, oGETI, oGETL, oGETR, oPUTI, oPUTZ, oPUTL, oPUTR, oIALD, oBALD, oZALD, oLALD, oAALD, oALEN, oIAST, oBAST, oZAST, oLAST, oIRET, oZRET, oLRET, oVRET, oARET, oOBJ, oINI, oPS, oNEW, oNEWAI, oNEWAB, oNEWAZ, oNEWAL, oCOPY, oINV0, oINS0, oINV1, oINS1, oINV2, oINS2, oINV3, oINS3, oINV4, oINS4, oINV5, oINS5, oINV6, oINS6, List.getElem?_cons_zero, List.getElem?_cons_succ, List.set_cons_zero, List.set_cons_succ, znl, zs4, zc1, true_and, and_self, Value.category, Option.toList, List.cons_append, List.nil_append, zvr]
  try simp (disch := omega) only [zgi_gz, zj_cn, zj_lt, zj_le, zj_eq, zj_add, zj_sub, zj_mul, zj_neg, zj_lt0, zj_le0, zj_0le, zj_0lt, zj_eq0]
  refine ⟨fun c => by omega, fun _ => ⟨fun c => ?_, fun c => ?_⟩⟩
  · have u3 : u = 3 := by omega
    subst u3
    exact nxt (by omega) hk _ ⟨q.1, q.2.1, q.2.2.1, fun m hm s hs => by rw [q.2.2.2 m hm s hs, zFg_3]⟩
  have hu6 : u = 0 ∨ u = 1 ∨ u = 2 ∨ u = 4 ∨ u = 5 ∨ u = 6 := by omega
  have ei : zj (S : Int) / zj 12 = zj ((S / 12 : Nat) : Int) := by rw [zj_div (by omega) (by omega) (by omega) (by omega), Int.tdiv_eq_ediv_of_nonneg (by omega)]; rfl
  have em : zj (S : Int) % zj 12 = zj ((S % 12 : Nat) : Int) := by rw [zj_rem (by omega) (by omega) (by omega) (by omega), z_tmod_nn (by omega)]; rfl
  rw [ei, em]
  refine ⟨by decide, by decide, ?_⟩
  refine cc_half (by omega) (by omega) ?_
  have hh : -2 ≤ ((u : Int) - 3).tdiv 2 ∧ ((u : Int) - 3).tdiv 2 ≤ 2 := by
    rcases hu6 with rfl | rfl | rfl | rfl | rfl | rfl <;> decide
  simp only [oPI, oPL, oILOAD, oLLOAD, oALOAD, oISTORE, oASTORE, oLSTORE, oIINC, oIADD, oISUB, oIMUL, oIAND, oIOR, oIXOR, oIDIV, oIREM, oISHL, oISHR, oIUSHR, oLADD, oLSUB, oLMUL, oLOR, oLDIV, oLREM, oLCMP, oLSHL, oINEG, oI2L, oL2I, oI2B, oI2C, oDUP, oPOP, oDUP2, oIFEQ, oICEQ, oIFNE, oICNE, oIFLT, oICLT, oIFGE, oICGE, oIFGT, oICGT, oIFLE, oICLE, oIFNULL, oIFNONNULL, oTSW, oLSW, oGETI, oGETL, oGETR, oPUTI, oPUTZ, oPUTL, oPUTR, oIALD, oBALD, oZALD, oLALD, oAALD, oALEN, oIAST, oBAST, oZAST, oLAST, oIRET, oZRET, oLRET, oVRET, oARET, oOBJ, oINI, oPS, oNEW, oNEWAI, oNEWAB, oNEWAZ, oNEWAL, oCOPY, oINV0, oINS0, oINV1, oINS1, oINV2, oINS2, oINV3, oINS3, oINV4, oINS4, oINV5, oINS5, oINV6, oINS6, List.getElem?_cons_zero, List.getElem?_cons_succ, List.set_cons_zero, List.set_cons_succ, znl, zs4, zc1, true_and, and_self, Value.category, Option.toList, List.cons_append, List.nil_append, zvr]
  rw [zj_add, zj_add]
  refine cc_shiftOf (by omega) (by omega) (by omega) (by omega) ?_
  have hto : zsf ((S / 12 : Nat) + ((u : Int) - 3)) ((S % 12 : Nat) + ((u : Int) - 3).tdiv 2) = (zto S u : Nat) := by
    unfold zto
    have := zsf_b ((S / 12 : Nat) + ((u : Int) - 3)) ((S % 12 : Nat) + ((u : Int) - 3).tdiv 2)
    omega
  have hto2 : zto S u < 144 := by
    have := zsf_b ((S / 12 : Nat) + ((u : Int) - 3)) ((S % 12 : Nat) + ((u : Int) - 3).tdiv 2)
    omega
  rw [hto]
  have ct : (zj (t : Int)).toNatClampNeg = t := zj_cn (by omega)
  have ct1 : (zj ((t : Int) - 1)).toNatClampNeg = t - 1 := by
    rw [show (t : Int) - 1 = ((t - 1 : Nat) : Int) by omega]
    exact zj_cn (by omega)
  have cto : (zj (zto S u : Nat)).toNatClampNeg = zto S u := zj_cn (by omega)
  have cS2 : (zj (S : Int)).toNatClampNeg = S := zj_cn (by omega)
  simp only [zj_sub, ct, ct1, cto, cS2, a68, a69, b68, a7 t (by omega), b69 t (by omega), a7 (t - 1) (by omega), b69 (t - 1) (by omega), oPI, oPL, oILOAD, oLLOAD, oALOAD, oISTORE, oASTORE, oLSTORE, oIINC, oIADD, oISUB, oIMUL, oIAND, oIOR, oIXOR, oIDIV, oIREM, oISHL, oISHR, oIUSHR, oLADD, oLSUB, oLMUL, oLOR, oLDIV, oLREM, oLCMP, oLSHL, oINEG, oI2L, oL2I, oI2B, oI2C, oDUP, oPOP, oDUP2, oIFEQ, oICEQ, oIFNE, oICNE, oIFLT, oICLT, oIFGE, oICGE, oIFGT, oICGT, oIFLE, oICLE, oIFNULL, oIFNONNULL, oTSW, oLSW, oGETI, oGETL, oGETR, oPUTI, oPUTZ, oPUTL, oPUTR, oIALD, oBALD, oZALD, oLALD, oAALD, oALEN, oIAST, oBAST, oZAST, oLAST, oIRET, oZRET, oLRET, oVRET, oARET, oOBJ, oINI, oPS, oNEW, oNEWAI, oNEWAB, oNEWAZ, oNEWAL, oCOPY, oINV0, oINS0, oINV1, oINS1, oINV2, oINS2, oINV3, oINS3, oINV4, oINS4, oINV5, oINS5, oINV6, oINS6, List.getElem?_cons_zero, List.getElem?_cons_succ, List.set_cons_zero, List.set_cons_succ, znl, zs4, zc1, true_and, and_self, Value.category, Option.toList, List.cons_append, List.nil_append, zvr]
  have v1 := q.2.2.2 t (by omega) (zto S u) hto2
  rw [if_neg (by omega), if_pos rfl] at v1
  have v2 := q.2.2.2 (t - 1) (by omega) S (by omega)
  rw [if_pos (by omega)] at v2
  have w1 : zgi hk (70 + t) (zto S u) = zj (zFg (zct (t - 1)) S u (zto S u) : Nat) := by rw [zgi_gz, v1]
  have w2 : zgi hk (70 + (t - 1)) S = zj (zct (t - 1) S : Nat) := by rw [zgi_gz, v2]
  have bb := zFg_b (n := t - 1) (S := S) (u := u) (s := zto S u) (by omega)
  have bc := zct_5 (n := t - 1) (by omega) S
  try rw [w1, w2]
  try rw [v1, v2]
  rw [zj_add]
  refine ⟨zj_in (by omega) (by omega) (by omega), zj_in (by omega) (by omega) (by omega), zj_in (by omega) (by omega) (by omega), zj_in (by omega) (by omega) (by omega), zj_in (by omega) (by omega) (by omega), nxt (by omega) _ _ ⟨q.1, q.2.1, fun x y q1 q2 q3 => ?_, fun m hm s hs => ?_⟩⟩
  · rw [zpi_o (by omega)]
    exact q.2.2.1 x y q1 q2 q3
  · rw [gz_pi]
    by_cases cm : m = t
    · subst cm
      have er : ∀ F : Nat → Nat, (if m < m then zct m s else if m = m then F s else 0) = F s := fun F => by rw [if_neg (by omega), if_pos rfl]
      rw [er (zFg (zct (m - 1)) S (u + 1)), zFg_s hu6]
      by_cases cs : s = zto S u
      · rw [← cs] at bb
        rw [if_pos ⟨rfl, cs⟩, if_pos ((zfr_to hs (by omega) hu6).mpr cs.symm), ← cs, zj_toInt (by omega) (by omega)]
        omega
      · rw [if_neg (fun z => cs z.2), if_neg (fun z => cs ((zfr_to hs (by omega) hu6).mp z).symm), q.2.2.2 m hm s hs, er (zFg (zct (m - 1)) S u)]
        omega
    · rw [if_neg (by omega), q.2.2.2 m hm s hs]
      by_cases c1 : m < t
      · rw [if_pos c1, if_pos c1]
      · rw [if_neg c1, if_neg c1, if_neg cm, if_neg cm]
end ZNN
