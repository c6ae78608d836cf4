section ZSA
variable {X : Nat × (Nat → Int32)} {R : zRt} {h h' h1 h2 : zHp} {d p : Nat}
theorem zka_46 (m : zMV h) : gz (zka h) 46 3 = (gz h 46 3 + 1) % 16 ∧ gz (zka h) 46 2 = min (gz h 46 2 + 1) 16 ∧ zgi (zka h) 46 4 = zgi h 46 4 := by
  have m1 := m.1
  have m2 := m.2.1
  unfold zka
  refine ⟨?_, ?_, ?_⟩
  · rw [gz_pi0 (by omega), gz_pi1 (by omega) (by omega)]
  · rw [gz_pi1 (by omega) (by omega)]
  · rw [zgi_pi, if_neg (by omega), zgi_pi, if_neg (by omega), zgi_cp, if_neg (by omega)]
theorem zka_o {x y : Nat} (h1 : x ≠ 46) (h2 : x ≠ 48 + (gz h 46 3).toNat) : zgi (zka h) x y = zgi h x y := by
  unfold zka
  rw [zgi_pi, if_neg (by omega), zgi_pi, if_neg (by omega), zgi_cp, if_neg (by omega)]
theorem zka_n (m : zMV h) {y : Nat} (hy : y < 15) : zgi (zka h) (48 + (gz h 46 3).toNat) y = zgi h 45 y := by
  unfold zka
  rw [zgi_pi, if_neg (by omega), zgi_pi, if_neg (by omega), zgi_cp, if_pos (by omega), show 0 + (y - 0) = y by omega]
theorem zAc_k {A N : Nat} (ac : zAc h) (u : zNV h) (hA : gz h 46 2 = A) (hA2 : A ≤ 16) (hN : gz h 46 3 = N) (hN2 : N < 16)
    (c1 : ∀ y, y < 15 → zgi h' (48 + N) y = zgi h 45 y) (c2 : ∀ j, j < 16 → j ≠ N → ∀ y, y < 15 → zgi h' (48 + j) y = zgi h (48 + j) y) (c3 : gz h' 46 3 = ((N : Int) + 1) % 16) (c4 : gz h' 46 2 = min ((A : Int) + 1) 16) (c5 : gz h' 46 4 = gz h 46 4)
    (m1 : gz h' 78 19 = min A 15 + 1) (m2 : ∀ i : Nat, i < 15 → zgi h' 82 (15 * (min A 15) + i) = zgi h 45 i) (m3 : ∀ i : Nat, i < 15 * (min A 15) → zgi h' 82 i = zgi h 82 (if A = 16 then i + 15 else i)) (m4 : gz h' 78 20 = gz h 78 20) (m5 : ∀ x y, (65 ≤ x ∧ x ≤ 67) ∨ x = 83 → zgi h' x y = zgi h x y) : zAc h' := by
  obtain ⟨a1, a2, a3, a4, a5, a6⟩ := ac
  rw [hA, hN] at a3
  unfold zAc
  rw [c3, c4, c5, m1, m4]
  refine ⟨by omega, a2, fun j hj i hi => ?_, fun j h3 hj i hi => ?_, fun j hj => ?_, fun j hj => (a6 j hj).mv (fun i _ => m5 _ _ (by omega))⟩
  · by_cases cj : j = min A 15
    · subst cj
      rw [m2 i hi, show (((N : Int) + 1) % 16 + 16 - min ((A : Int) + 1) 16 + ((min A 15 : Nat) : Int)) % 16 = (N : Int) by omega, Int.toNat_natCast, c1 i hi]
    · have hj2 : j < min A 15 := by omega
      rw [m3 _ (by omega)]
      by_cases c16 : A = 16
      · subst c16
        rw [if_pos rfl, show 15 * j + i + 15 = 15 * (j + 1) + i by omega, a3 (j + 1) (by omega) i hi]
        rw [show (((N : Int) + 1) % 16 + 16 - min (((16 : Nat) : Int) + 1) 16 + (j : Int)) % 16 = ((N : Int) + 16 - ((16 : Nat) : Int) + ((j + 1 : Nat) : Int)) % 16 by omega]
        exact (c2 _ (by omega) (by omega) i hi).symm
      · rw [if_neg c16, a3 j (by omega) i hi]
        rw [show (((N : Int) + 1) % 16 + 16 - min ((A : Int) + 1) 16 + (j : Int)) % 16 = ((N : Int) + 16 - (A : Int) + (j : Int)) % 16 by omega]
        exact (c2 _ (by omega) (by omega) i hi).symm
  · rw [m5 83 _ (by omega), m5 (65 + j) _ (by omega)]
    exact a4 j h3 hj i hi
  · by_cases cj : j = N
    · subst cj
      exact zNr.mv (h := h) (q := 45) u c1
    · exact (a5 j hj).mv (c2 j hj cj)
/-- behind an act -/
theorem zI.act {t : Int} (I : zI h d p) (h0 : ¬ gz h p 1 = 0) (e1 : h2.1 = h.1) (e2 : h2.2.2 = h.2.2) (e : ∀ x y, x ≠ 45 → x ≠ 46 → ¬ (48 ≤ x ∧ x ≤ 67) → x ≠ 76 → x ≠ 77 → x ≠ 78 → ¬ (80 ≤ x ∧ x ≤ 85) → ¬ (x = 16 ∧ y = 5) → zgi h2 x y = zgi h x y) (e78 : ∀ y, 3 ≤ y → y ≤ 18 → zgi h2 78 y = zgi h 78 y)
    (t1 : zgi h2 16 5 = zj t) (t2 : zgi h2 78 1 = zj t) (t3 : zgi h2 78 2 = zj (-1)) (ht : ¬ zj t = zj 4) (u : zNV h2) (m : zMV h2) (ac : zAc h2) (vn : ∀ i : Nat, i < 15 → zgi h2 80 i = zgi h2 45 i) : zI h2 d p := by
  have g : ∀ x y, x ≠ 45 → x ≠ 46 → ¬ (48 ≤ x ∧ x ≤ 67) → x ≠ 76 → x ≠ 77 → x ≠ 78 → ¬ (80 ≤ x ∧ x ≤ 85) → ¬ (x = 16 ∧ y = 5) → gz h2 x y = gz h x y := fun x y q1 q2 q3 q4 q5 q6 q7 q8 => congrArg Int32.toInt (e x y q1 q2 q3 q4 q5 q6 q7 q8)
  have hp := I.hp
  have hd := I.hd
  have PV : ∀ q, (q = 20 ∨ q = 33) → zPV h q → zPV h2 q := fun q hq v => by
    unfold zPV at v ⊢
    have gq : ∀ y, gz h2 q y = gz h q y := fun y => g q y (by omega) (by omega) (by omega) (by omega) (by omega) (by omega) (by omega) (by omega)
    have gk : ∀ k y, k ≤ 11 → gz h2 (q + k) y = gz h (q + k) y := fun k y hk => g (q + k) y (by omega) (by omega) (by omega) (by omega) (by omega) (by omega) (by omega) (by omega)
    rw [gq, gq, gq, gq, gq]
    refine ⟨v.1, fun b hb => ?_, v.2.2.1, fun b hb => ?_, v.2.2.2.2.1, fun b hb => ?_, v.2.2.2.2.2.2.1, fun b hb => ?_, v.2.2.2.2.2.2.2.2⟩
    · rw [gk 2 b (by omega), gk 4 b (by omega), gk 5 b (by omega), gk 6 b (by omega)]
      exact v.2.1 b hb
    · rw [gk 7 b (by omega)]
      exact v.2.2.2.1 b hb
    · rw [gk 9 b (by omega)]
      exact v.2.2.2.2.2.1 b hb
    · rw [gk 11 b (by omega)]
      exact v.2.2.2.2.2.2.2.1 b hb
  have gp : gz h2 p 1 = gz h p 1 := g p 1 (by omega) (by omega) (by omega) (by omega) (by omega) (by omega) (by omega) (by omega)
  refine ⟨I.w.mv e1 e2, PV p hp I.v, u, m, fun n hn s hs => ?_, Or.inr ⟨?_, by rw [gp]; exact h0⟩, ac, ?_, ?_, fun z => absurd z (by rw [gp]; exact h0), ?_, PV d hd I.vd⟩
  · rw [g (70 + n) s (by omega) (by omega) (by omega) (by omega) (by omega) (by omega) (by omega) (by omega)]
    exact I.r n hn s hs
  · rcases I.o with ⟨-, -, z, -⟩ | ⟨o, -⟩
    · exact absurd z h0
    · exact ⟨o.mw.mv e1 e2, o.ta.mv e1 e2, zTR_mv o.tr o.pp e2 (fun x y hx => e x y (by omega) (by omega) (by omega) (by omega) (by omega) (by omega) (by omega) (by omega)), PV p hp I.v, hp, vn, u⟩
  · have := I.tp
    unfold zTp at this ⊢
    rw [show gz h2 78 6 = gz h 78 6 from congrArg Int32.toInt (e78 6 (by omega) (by omega)), g 18 1 (by omega) (by omega) (by omega) (by omega) (by omega) (by omega) (by omega) (by omega)]
    refine ⟨this.1, this.2.1, fun i hi => ?_⟩
    rw [e 79 i (by omega) (by omega) (by omega) (by omega) (by omega) (by omega) (by omega) (by omega), e 19 i (by omega) (by omega) (by omega) (by omega) (by omega) (by omega) (by omega) (by omega), g 19 i (by omega) (by omega) (by omega) (by omega) (by omega) (by omega) (by omega) (by omega)]
    exact this.2.2 i hi
  · have := I.tb
    unfold zTb at this ⊢
    rw [t1, t2, t3, e78 12 (by omega) (by omega), e 17 3 (by omega) (by omega) (by omega) (by omega) (by omega) (by omega) (by omega) (by omega)]
    exact ⟨rfl, this.2.1, fun z => absurd z ht, fun _ => rfl⟩
  · have := I.ex
    unfold znx zsh at this ⊢
    rw [e1]
    exact this
theorem zI.mo (I : zI h d p) (h0 : ¬ gz h p 1 = 0) : zMo h p := by
  rcases I.o with ⟨-, -, z, -⟩ | ⟨o, -⟩
  · exact absurd z h0
  · exact o
theorem zI.A (I : zI h d p) : ∃ A N B : Nat, gz h 46 2 = A ∧ A ≤ 16 ∧ gz h 46 3 = N ∧ N < 16 ∧ gz h 46 4 = B ∧ B ≤ 3 ∧ gz h 78 19 = A ∧ gz h 78 20 = B := by
  have m := I.m
  have m1 := m.1
  have m2 := m.2.1
  have m3 := m.2.2
  refine ⟨(gz h 46 2).toNat, (gz h 46 3).toNat, (gz h 46 4).toNat, by omega, by omega, by omega, by omega, by omega, by omega, ?_, ?_⟩
  · rw [I.ac.1]; omega
  · rw [I.ac.2.1]; omega
/-- behind an act that is remembered -/
theorem zI.rem {A N : Nat} (I : zI h d p) (h0 : ¬ gz h p 1 = 0) (hA : gz h 46 2 = A) (hA2 : A ≤ 16) (hN : gz h 46 3 = N) (hN2 : N < 16) (e1 : h2.1 = h.1) (e2 : h2.2.2 = h.2.2) (e : ∀ x y, x ≠ 45 → x ≠ 46 → ¬ (48 ≤ x ∧ x ≤ 63) → x ≠ 76 → x ≠ 77 → x ≠ 78 → ¬ (80 ≤ x ∧ x ≤ 85 ∧ x ≠ 83) → ¬ (x = 16 ∧ y = 5) → zgi h2 x y = zgi h x y) (ek : ∀ x y, x = 46 ∨ (48 ≤ x ∧ x ≤ 63) → zgi h2 x y = zgi (zka h) x y) (e78 : ∀ y, 3 ≤ y → y ≤ 18 → zgi h2 78 y = zgi h 78 y)
    (t1 : zgi h2 16 5 = zj 0) (t2 : zgi h2 78 1 = zj 0) (t3 : zgi h2 78 2 = zj (-1)) (r4 : gz h2 78 19 = min A 15 + 1) (m4 : gz h2 78 20 = gz h 78 20) (u : zNV h2) (r5 : ∀ i : Nat, i < 15 → zgi h2 82 (15 * (min A 15) + i) = zgi h 45 i) (r6 : ∀ i : Nat, i < 15 * (min A 15) → zgi h2 82 i = zgi h 82 (if A = 16 then i + 15 else i)) (vn : ∀ i : Nat, i < 15 → zgi h2 80 i = zgi h2 45 i) : zI h2 d p := by
  have hNt : (gz h 46 3).toNat = N := by omega
  have k46 := zka_46 I.m
  have m3 := I.m.2.2
  have gk : ∀ y, gz h2 46 y = gz (zka h) 46 y := fun y => congrArg Int32.toInt (ek 46 y (by omega))
  refine I.act (t := 0) h0 e1 e2 (fun x y q1 q2 q3 q4 q5 q6 q7 q8 => e x y q1 q2 (by omega) q4 q5 q6 (by omega) q8) e78 t1 t2 t3 (by decide) u ?_ ?_ vn
  · unfold zMV
    rw [gk, gk, gk, k46.1, k46.2.1, show gz (zka h) 46 4 = gz h 46 4 from congrArg Int32.toInt k46.2.2]
    omega
  · refine zAc_k (A := A) (N := N) I.ac I.u hA hA2 hN hN2 (fun y hy => ?_) (fun j hj hjN y hy => ?_) ?_ ?_ ?_ r4 r5 r6 m4 (fun x y hx => e x y (by omega) (by omega) (by omega) (by omega) (by omega) (by omega) (by omega) (by omega))
    · rw [ek (48 + N) y (by omega), ← hNt]; exact zka_n I.m hy
    · rw [ek (48 + j) y (by omega)]; exact zka_o (by omega) (by omega)
    · rw [gk, k46.1, hN]
    · rw [gk, k46.2.1, hA]
    · rw [gk]; exact congrArg Int32.toInt k46.2.2
theorem zpi_o {k j : Nat} {x : Int32} {a b : Nat} (hn : ¬ (a = k ∧ b = j)) : zgi (zpi h k j x) a b = zgi h a b := by rw [zgi_pi, if_neg hn]
theorem st_waits {a : Int} (ha1 : -2147483648 ≤ a) (ha2 : a < 2147483648) (I : zI h d p) (k : ∀ x h1, zsh h1 78 = some (.inl 9) → (∀ R2 : zRt, (∀ h2, zI h2 d p → R2 (some (.int x)) h2) → zCC X M_X9_waits [.ref 78, .int (zj a)] h1 R2) → R (some (.int x)) h1) : zCC X M_X7_waits [.ref 16, .int (zj a)] h R := by
  have hp := I.hp
  have refu : ∀ t : Int, ¬ zj t = zj 4 → ∀ R2 : zRt, (∀ h2, zI h2 d p → R2 (some (.int (zj (-1)))) h2) → R2 (some (.int (zj (-1)))) (zrf (zpi (zpi h 16 5 (zj t)) 78 0 (zj 0)) t) := fun t ht R2 k2 => k2 _ (I.q (zQh_pi h t) (zJd_0 _ t) ht)
  refine cx_waits I.w I.v I.u I.m ha1 ha2 (fun c0 => k _ _ (by first | exact I.s78 | exact I.s78q (zQh_gh h _ _ _ _) | exact I.s78q (zQh_sk h _ _ _ _)) (fun R2 k2 => ?_)) (fun c0 c1 => k _ _ (by first | exact I.s78 | exact I.s78q (zQh_gh h _ _ _ _) | exact I.s78q (zQh_sk h _ _ _ _)) (fun R2 k2 => ?_)) (fun c0 c1 c2 => k _ _ (by first | exact I.s78 | exact I.s78q (zQh_gh h _ _ _ _) | exact I.s78q (zQh_sk h _ _ _ _)) (fun R2 k2 => ?_)) (fun c0 c1 c2 => k _ _ (by first | exact I.s78 | exact I.s78q (zQh_gh h _ _ _ _) | exact I.s78q (zQh_sk h _ _ _ _)) (fun R2 k2 => ?_))
  · rcases I.oq (zQh_pi h 1) with ⟨w, hz, -⟩ | ⟨o, z⟩
    · obtain ⟨h1, hh1⟩ : ∃ h1, h1 = zpi (zpi h 16 5 (zj 1)) 78 0 (zj 0) := ⟨_, rfl⟩
      have w1 : zMW h1 := by rw [hh1]; exact w
      have rf := refu 1 (by decide) R2 k2
      rw [← hh1] at rf
      refine zCC_of (ls := [.ref 78, .int (zj a)]) pf_X9_waits rfl (Nat.le_of_ble_eq_true rfl) ?_
      refine vb_X9_waits_0 _ _ _ ?_
      simp only [B_X9_waits_0, oPI, oPL, oILOAD, oLLOAD, oALOAD, oISTORE, oASTORE, oLSTORE, oIINC, oIADD, oISUB, oIMUL, oIAND, oIOR, oIXOR, oIDIV, oIREM, oISHL, oISHR, oIUSHR, oLADD, oLSUB, oLMUL, oLOR, oLDIV, oLREM, oLCMP, oLSHL, oINEG, oI2L, oL2I, oI2B, oI2C, oDUP, oPOP, oDUP2, oIFEQ, oICEQ, oIFNE, oICNE, oIFLT, oICLT, oIFGE, oICGE, oIFGT, oICGT, oIFLE, oICLE, oIFNULL, oIFNONNULL, oTSW, oLSW, oGETI, oGETL, oGETR, oPUTI, oPUTZ, oPUTL, oPUTR, oIALD, oBALD, oZALD, oLALD, oAALD, oALEN, oIAST, oBAST, oZAST, oLAST, oIRET, oZRET, oLRET, oVRET, oARET, oOBJ, oINI, oPS, oNEW, oNEWAI, oNEWAB, oNEWAZ, oNEWAL, oCOPY, oINV0, oINS0, oINV1, oINS1, oINV2, oINS2, oINV3, oINS3, oINV4, oINS4, oINV5, oINS5, oINV6, oINS6, List.getElem?_cons_zero, List.getElem?_cons_succ, List.set_cons_zero, List.set_cons_succ, znl, zs4, zc1, true_and, and_self, Value.category, Option.toList, List.cons_append, List.nil_append, zvr, mw_s w, mw_s79 w, mw_s80 w, mw_s81 w, mw_s82 w, mw_s83 w, mw_s84 w, mw_s85 w, mw_r5 w, mw_r15 w, mw_r16 w, mw_r17 w, mw_r18 w, mw_r21 w, mw_r22 w, zsh_pi, zgr_pi, hz]
      rw [← hh1]
      refine cm_refused w1 ?_
      simp only [oPI, oPL, oILOAD, oLLOAD, oALOAD, oISTORE, oASTORE, oLSTORE, oIINC, oIADD, oISUB, oIMUL, oIAND, oIOR, oIXOR, oIDIV, oIREM, oISHL, oISHR, oIUSHR, oLADD, oLSUB, oLMUL, oLOR, oLDIV, oLREM, oLCMP, oLSHL, oINEG, oI2L, oL2I, oI2B, oI2C, oDUP, oPOP, oDUP2, oIFEQ, oICEQ, oIFNE, oICNE, oIFLT, oICLT, oIFGE, oICGE, oIFGT, oICGT, oIFLE, oICLE, oIFNULL, oIFNONNULL, oTSW, oLSW, oGETI, oGETL, oGETR, oPUTI, oPUTZ, oPUTL, oPUTR, oIALD, oBALD, oZALD, oLALD, oAALD, oALEN, oIAST, oBAST, oZAST, oLAST, oIRET, oZRET, oLRET, oVRET, oARET, oOBJ, oINI, oPS, oNEW, oNEWAI, oNEWAB, oNEWAZ, oNEWAL, oCOPY, oINV0, oINS0, oINV1, oINS1, oINV2, oINS2, oINV3, oINS3, oINV4, oINS4, oINV5, oINS5, oINV6, oINS6, List.getElem?_cons_zero, List.getElem?_cons_succ, List.set_cons_zero, List.set_cons_succ, znl, zs4, zc1, true_and, and_self, Value.category, Option.toList, List.cons_append, List.nil_append, zvr]
      exact rf
    · exact absurd (by rw [show gz (zpi h 16 5 (zj 1)) p 1 = gz h p 1 from (zQh_pi h 1).lq.gz (by omega) 1]; exact c0) z
  all_goals have o := I.mo c0
  · have w := o.mw
    have t := o.ta
    obtain ⟨h1, hh1⟩ : ∃ h1, h1 = zpi (zpi h 16 5 (zj 2)) 78 0 (zj 0) := ⟨_, rfl⟩
    have w1 : zMW h1 := by rw [hh1]; exact w
    have rf := refu 2 (by decide) R2 k2
    rw [← hh1] at rf
    refine zCC_of (ls := [.ref 78, .int (zj a)]) pf_X9_waits rfl (Nat.le_of_ble_eq_true rfl) ?_
    refine vb_X9_waits_0 _ _ _ ?_
    simp only [B_X9_waits_0, oPI, oPL, oILOAD, oLLOAD, oALOAD, oISTORE, oASTORE, oLSTORE, oIINC, oIADD, oISUB, oIMUL, oIAND, oIOR, oIXOR, oIDIV, oIREM, oISHL, oISHR, oIUSHR, oLADD, oLSUB, oLMUL, oLOR, oLDIV, oLREM, oLCMP, oLSHL, oINEG, oI2L, oL2I, oI2B, oI2C, oDUP, oPOP, oDUP2, oIFEQ, oICEQ, oIFNE, oICNE, oIFLT, oICLT, oIFGE, oICGE, oIFGT, oICGT, oIFLE, oICLE, oIFNULL, oIFNONNULL, oTSW, oLSW, oGETI, oGETL, oGETR, oPUTI, oPUTZ, oPUTL, oPUTR, oIALD, oBALD, oZALD, oLALD, oAALD, oALEN, oIAST, oBAST, oZAST, oLAST, oIRET, oZRET, oLRET, oVRET, oARET, oOBJ, oINI, oPS, oNEW, oNEWAI, oNEWAB, oNEWAZ, oNEWAL, oCOPY, oINV0, oINS0, oINV1, oINS1, oINV2, oINS2, oINV3, oINS3, oINV4, oINS4, oINV5, oINS5, oINV6, oINS6, List.getElem?_cons_zero, List.getElem?_cons_succ, List.set_cons_zero, List.set_cons_succ, znl, zs4, zc1, true_and, and_self, Value.category, Option.toList, List.cons_append, List.nil_append, zvr, mw_s w, mw_s79 w, mw_s80 w, mw_s81 w, mw_s82 w, mw_s83 w, mw_s84 w, mw_s85 w, mw_r5 w, mw_r15 w, mw_r16 w, mw_r17 w, mw_r18 w, mw_r21 w, mw_r22 w, ta_r3 t, ta_s t, ta_s1 t, ta_r8 t, ta_s2 t, ta_r9 t, ta_s3 t, ta_r10 t, ta_s4 t, ta_r11 t, ta_s5 t, ta_r12 t, ta_s6 t, ta_r13 t, ta_s7 t, ta_r14 t, ta_s8 t, ta_r15 t, ta_s9 t, ta_r16 t, ta_s10 t, ta_r17 t, ta_s11 t, ta_r18 t, ta_s12 t, ta_r19 t, ta_s13 t, ta_r20 t, zsh_pi, zgr_pi]
    rw [← hh1]
    refine vb_X9_waits_18 _ _ _ ?_
    simp only [B_X9_waits_18, oPI, oPL, oILOAD, oLLOAD, oALOAD, oISTORE, oASTORE, oLSTORE, oIINC, oIADD, oISUB, oIMUL, oIAND, oIOR, oIXOR, oIDIV, oIREM, oISHL, oISHR, oIUSHR, oLADD, oLSUB, oLMUL, oLOR, oLDIV, oLREM, oLCMP, oLSHL, oINEG, oI2L, oL2I, oI2B, oI2C, oDUP, oPOP, oDUP2, oIFEQ, oICEQ, oIFNE, oICNE, oIFLT, oICLT, oIFGE, oICGE, oIFGT, oICGT, oIFLE, oICLE, oIFNULL, oIFNONNULL, oTSW, oLSW, oGETI, oGETL, oGETR, oPUTI, oPUTZ, oPUTL, oPUTR, oIALD, oBALD, oZALD, oLALD, oAALD, oALEN, oIAST, oBAST, oZAST, oLAST, oIRET, oZRET, oLRET, oVRET, oARET, oOBJ, oINI, oPS, oNEW, oNEWAI, oNEWAB, oNEWAZ, oNEWAL, oCOPY, oINV0, oINS0, oINV1, oINS1, oINV2, oINS2, oINV3, oINS3, oINV4, oINS4, oINV5, oINS5, oINV6, oINS6, List.getElem?_cons_zero, List.getElem?_cons_succ, List.set_cons_zero, List.set_cons_succ, znl, zs4, zc1, true_and, and_self, Value.category, Option.toList, List.cons_append, List.nil_append, zvr]
    refine cm_in ha1 ha2 (by omega) (by omega) (by omega) (by omega) ?_
    simp only [oPI, oPL, oILOAD, oLLOAD, oALOAD, oISTORE, oASTORE, oLSTORE, oIINC, oIADD, oISUB, oIMUL, oIAND, oIOR, oIXOR, oIDIV, oIREM, oISHL, oISHR, oIUSHR, oLADD, oLSUB, oLMUL, oLOR, oLDIV, oLREM, oLCMP, oLSHL, oINEG, oI2L, oL2I, oI2B, oI2C, oDUP, oPOP, oDUP2, oIFEQ, oICEQ, oIFNE, oICNE, oIFLT, oICLT, oIFGE, oICGE, oIFGT, oICGT, oIFLE, oICLE, oIFNULL, oIFNONNULL, oTSW, oLSW, oGETI, oGETL, oGETR, oPUTI, oPUTZ, oPUTL, oPUTR, oIALD, oBALD, oZALD, oLALD, oAALD, oALEN, oIAST, oBAST, oZAST, oLAST, oIRET, oZRET, oLRET, oVRET, oARET, oOBJ, oINI, oPS, oNEW, oNEWAI, oNEWAB, oNEWAZ, oNEWAL, oCOPY, oINV0, oINS0, oINV1, oINS1, oINV2, oINS2, oINV3, oINS3, oINV4, oINS4, oINV5, oINS5, oINV6, oINS6, List.getElem?_cons_zero, List.getElem?_cons_succ, List.set_cons_zero, List.set_cons_succ, znl, zs4, zc1, true_and, and_self, Value.category, Option.toList, List.cons_append, List.nil_append, zvr, mw_s w1, mw_s79 w1, mw_s80 w1, mw_s81 w1, mw_s82 w1, mw_s83 w1, mw_s84 w1, mw_s85 w1, mw_r5 w1, mw_r15 w1, mw_r16 w1, mw_r17 w1, mw_r18 w1, mw_r21 w1, mw_r22 w1]
    try simp (disch := omega) only [zgi_gz, zj_cn, zj_lt, zj_le, zj_eq, zj_add, zj_sub, zj_mul, zj_neg, zj_lt0, zj_le0, zj_0le, zj_0lt, zj_eq0, zb_0, zb_z, Classical.not_not, Int.zero_add, Int.add_zero, zj_remn, zj_divn]
    refine ⟨fun c => absurd c c1, fun _ => ?_⟩
    refine cm_refused w1 ?_
    simp only [oPI, oPL, oILOAD, oLLOAD, oALOAD, oISTORE, oASTORE, oLSTORE, oIINC, oIADD, oISUB, oIMUL, oIAND, oIOR, oIXOR, oIDIV, oIREM, oISHL, oISHR, oIUSHR, oLADD, oLSUB, oLMUL, oLOR, oLDIV, oLREM, oLCMP, oLSHL, oINEG, oI2L, oL2I, oI2B, oI2C, oDUP, oPOP, oDUP2, oIFEQ, oICEQ, oIFNE, oICNE, oIFLT, oICLT, oIFGE, oICGE, oIFGT, oICGT, oIFLE, oICLE, oIFNULL, oIFNONNULL, oTSW, oLSW, oGETI, oGETL, oGETR, oPUTI, oPUTZ, oPUTL, oPUTR, oIALD, oBALD, oZALD, oLALD, oAALD, oALEN, oIAST, oBAST, oZAST, oLAST, oIRET, oZRET, oLRET, oVRET, oARET, oOBJ, oINI, oPS, oNEW, oNEWAI, oNEWAB, oNEWAZ, oNEWAL, oCOPY, oINV0, oINS0, oINV1, oINS1, oINV2, oINS2, oINV3, oINS3, oINV4, oINS4, oINV5, oINS5, oINV6, oINS6, List.getElem?_cons_zero, List.getElem?_cons_succ, List.set_cons_zero, List.set_cons_succ, znl, zs4, zc1, true_and, and_self, Value.category, Option.toList, List.cons_append, List.nil_append, zvr]
    exact rf
  · have w := o.mw
    have t := o.ta
    have hday := I.u.2.2
    obtain ⟨h1, hh1⟩ : ∃ h1, h1 = zpi (zpi h 16 5 (zj 3)) 78 0 (zj 0) := ⟨_, rfl⟩
    have w1 : zMW h1 := by rw [hh1]; exact w
    have e14 : gz h1 80 14 = gz h 45 14 := by rw [hh1]; exact congrArg Int32.toInt (o.vn 14 (by omega))
    have rf := refu 3 (by decide) R2 k2
    rw [← hh1] at rf
    refine zCC_of (ls := [.ref 78, .int (zj a)]) pf_X9_waits rfl (Nat.le_of_ble_eq_true rfl) ?_
    refine vb_X9_waits_0 _ _ _ ?_
    simp only [B_X9_waits_0, oPI, oPL, oILOAD, oLLOAD, oALOAD, oISTORE, oASTORE, oLSTORE, oIINC, oIADD, oISUB, oIMUL, oIAND, oIOR, oIXOR, oIDIV, oIREM, oISHL, oISHR, oIUSHR, oLADD, oLSUB, oLMUL, oLOR, oLDIV, oLREM, oLCMP, oLSHL, oINEG, oI2L, oL2I, oI2B, oI2C, oDUP, oPOP, oDUP2, oIFEQ, oICEQ, oIFNE, oICNE, oIFLT, oICLT, oIFGE, oICGE, oIFGT, oICGT, oIFLE, oICLE, oIFNULL, oIFNONNULL, oTSW, oLSW, oGETI, oGETL, oGETR, oPUTI, oPUTZ, oPUTL, oPUTR, oIALD, oBALD, oZALD, oLALD, oAALD, oALEN, oIAST, oBAST, oZAST, oLAST, oIRET, oZRET, oLRET, oVRET, oARET, oOBJ, oINI, oPS, oNEW, oNEWAI, oNEWAB, oNEWAZ, oNEWAL, oCOPY, oINV0, oINS0, oINV1, oINS1, oINV2, oINS2, oINV3, oINS3, oINV4, oINS4, oINV5, oINS5, oINV6, oINS6, List.getElem?_cons_zero, List.getElem?_cons_succ, List.set_cons_zero, List.set_cons_succ, znl, zs4, zc1, true_and, and_self, Value.category, Option.toList, List.cons_append, List.nil_append, zvr, mw_s w, mw_s79 w, mw_s80 w, mw_s81 w, mw_s82 w, mw_s83 w, mw_s84 w, mw_s85 w, mw_r5 w, mw_r15 w, mw_r16 w, mw_r17 w, mw_r18 w, mw_r21 w, mw_r22 w, ta_r3 t, ta_s t, ta_s1 t, ta_r8 t, ta_s2 t, ta_r9 t, ta_s3 t, ta_r10 t, ta_s4 t, ta_r11 t, ta_s5 t, ta_r12 t, ta_s6 t, ta_r13 t, ta_s7 t, ta_r14 t, ta_s8 t, ta_r15 t, ta_s9 t, ta_r16 t, ta_s10 t, ta_r17 t, ta_s11 t, ta_r18 t, ta_s12 t, ta_r19 t, ta_s13 t, ta_r20 t, zsh_pi, zgr_pi]
    rw [← hh1]
    refine vb_X9_waits_18 _ _ _ ?_
    simp only [B_X9_waits_18, oPI, oPL, oILOAD, oLLOAD, oALOAD, oISTORE, oASTORE, oLSTORE, oIINC, oIADD, oISUB, oIMUL, oIAND, oIOR, oIXOR, oIDIV, oIREM, oISHL, oISHR, oIUSHR, oLADD, oLSUB, oLMUL, oLOR, oLDIV, oLREM, oLCMP, oLSHL, oINEG, oI2L, oL2I, oI2B, oI2C, oDUP, oPOP, oDUP2, oIFEQ, oICEQ, oIFNE, oICNE, oIFLT, oICLT, oIFGE, oICGE, oIFGT, oICGT, oIFLE, oICLE, oIFNULL, oIFNONNULL, oTSW, oLSW, oGETI, oGETL, oGETR, oPUTI, oPUTZ, oPUTL, oPUTR, oIALD, oBALD, oZALD, oLALD, oAALD, oALEN, oIAST, oBAST, oZAST, oLAST, oIRET, oZRET, oLRET, oVRET, oARET, oOBJ, oINI, oPS, oNEW, oNEWAI, oNEWAB, oNEWAZ, oNEWAL, oCOPY, oINV0, oINS0, oINV1, oINS1, oINV2, oINS2, oINV3, oINS3, oINV4, oINS4, oINV5, oINS5, oINV6, oINS6, List.getElem?_cons_zero, List.getElem?_cons_succ, List.set_cons_zero, List.set_cons_succ, znl, zs4, zc1, true_and, and_self, Value.category, Option.toList, List.cons_append, List.nil_append, zvr]
    refine cm_in ha1 ha2 (by omega) (by omega) (by omega) (by omega) ?_
    simp only [oPI, oPL, oILOAD, oLLOAD, oALOAD, oISTORE, oASTORE, oLSTORE, oIINC, oIADD, oISUB, oIMUL, oIAND, oIOR, oIXOR, oIDIV, oIREM, oISHL, oISHR, oIUSHR, oLADD, oLSUB, oLMUL, oLOR, oLDIV, oLREM, oLCMP, oLSHL, oINEG, oI2L, oL2I, oI2B, oI2C, oDUP, oPOP, oDUP2, oIFEQ, oICEQ, oIFNE, oICNE, oIFLT, oICLT, oIFGE, oICGE, oIFGT, oICGT, oIFLE, oICLE, oIFNULL, oIFNONNULL, oTSW, oLSW, oGETI, oGETL, oGETR, oPUTI, oPUTZ, oPUTL, oPUTR, oIALD, oBALD, oZALD, oLALD, oAALD, oALEN, oIAST, oBAST, oZAST, oLAST, oIRET, oZRET, oLRET, oVRET, oARET, oOBJ, oINI, oPS, oNEW, oNEWAI, oNEWAB, oNEWAZ, oNEWAL, oCOPY, oINV0, oINS0, oINV1, oINS1, oINV2, oINS2, oINV3, oINS3, oINV4, oINS4, oINV5, oINS5, oINV6, oINS6, List.getElem?_cons_zero, List.getElem?_cons_succ, List.set_cons_zero, List.set_cons_succ, znl, zs4, zc1, true_and, and_self, Value.category, Option.toList, List.cons_append, List.nil_append, zvr, mw_s w1, mw_s79 w1, mw_s80 w1, mw_s81 w1, mw_s82 w1, mw_s83 w1, mw_s84 w1, mw_s85 w1, mw_r5 w1, mw_r15 w1, mw_r16 w1, mw_r17 w1, mw_r18 w1, mw_r21 w1, mw_r22 w1]
    try simp (disch := omega) only [zgi_gz, zj_cn, zj_lt, zj_le, zj_eq, zj_add, zj_sub, zj_mul, zj_neg, zj_lt0, zj_le0, zj_0le, zj_0lt, zj_eq0, zb_0, zb_z, Classical.not_not, Int.zero_add, Int.add_zero, zj_remn, zj_divn]
    refine ⟨fun _ => ?_, fun c => absurd c1 c⟩
    refine vb_X9_waits_34 _ _ _ ?_
    simp only [B_X9_waits_34, oPI, oPL, oILOAD, oLLOAD, oALOAD, oISTORE, oASTORE, oLSTORE, oIINC, oIADD, oISUB, oIMUL, oIAND, oIOR, oIXOR, oIDIV, oIREM, oISHL, oISHR, oIUSHR, oLADD, oLSUB, oLMUL, oLOR, oLDIV, oLREM, oLCMP, oLSHL, oINEG, oI2L, oL2I, oI2B, oI2C, oDUP, oPOP, oDUP2, oIFEQ, oICEQ, oIFNE, oICNE, oIFLT, oICLT, oIFGE, oICGE, oIFGT, oICGT, oIFLE, oICLE, oIFNULL, oIFNONNULL, oTSW, oLSW, oGETI, oGETL, oGETR, oPUTI, oPUTZ, oPUTL, oPUTR, oIALD, oBALD, oZALD, oLALD, oAALD, oALEN, oIAST, oBAST, oZAST, oLAST, oIRET, oZRET, oLRET, oVRET, oARET, oOBJ, oINI, oPS, oNEW, oNEWAI, oNEWAB, oNEWAZ, oNEWAL, oCOPY, oINV0, oINS0, oINV1, oINS1, oINV2, oINS2, oINV3, oINS3, oINV4, oINS4, oINV5, oINS5, oINV6, oINS6, List.getElem?_cons_zero, List.getElem?_cons_succ, List.set_cons_zero, List.set_cons_succ, znl, zs4, zc1, true_and, and_self, Value.category, Option.toList, List.cons_append, List.nil_append, zvr, mw_s w1, mw_s79 w1, mw_s80 w1, mw_s81 w1, mw_s82 w1, mw_s83 w1, mw_s84 w1, mw_s85 w1, mw_r5 w1, mw_r15 w1, mw_r16 w1, mw_r17 w1, mw_r18 w1, mw_r21 w1, mw_r22 w1]
    rw [show (zj 14).toNatClampNeg = 14 from rfl, zgi_gz, e14, zj_sub]
    simp (disch := omega) only [zj_le]
    refine ⟨zj_in (by omega) (by omega) (by omega), fun c => by omega, fun _ => ?_⟩
    refine cm_refused w1 ?_
    simp only [oPI, oPL, oILOAD, oLLOAD, oALOAD, oISTORE, oASTORE, oLSTORE, oIINC, oIADD, oISUB, oIMUL, oIAND, oIOR, oIXOR, oIDIV, oIREM, oISHL, oISHR, oIUSHR, oLADD, oLSUB, oLMUL, oLOR, oLDIV, oLREM, oLCMP, oLSHL, oINEG, oI2L, oL2I, oI2B, oI2C, oDUP, oPOP, oDUP2, oIFEQ, oICEQ, oIFNE, oICNE, oIFLT, oICLT, oIFGE, oICGE, oIFGT, oICGT, oIFLE, oICLE, oIFNULL, oIFNONNULL, oTSW, oLSW, oGETI, oGETL, oGETR, oPUTI, oPUTZ, oPUTL, oPUTR, oIALD, oBALD, oZALD, oLALD, oAALD, oALEN, oIAST, oBAST, oZAST, oLAST, oIRET, oZRET, oLRET, oVRET, oARET, oOBJ, oINI, oPS, oNEW, oNEWAI, oNEWAB, oNEWAZ, oNEWAL, oCOPY, oINV0, oINS0, oINV1, oINS1, oINV2, oINS2, oINV3, oINS3, oINV4, oINS4, oINV5, oINS5, oINV6, oINS6, List.getElem?_cons_zero, List.getElem?_cons_succ, List.set_cons_zero, List.set_cons_succ, znl, zs4, zc1, true_and, and_self, Value.category, Option.toList, List.cons_append, List.nil_append, zvr]
    exact rf
  · have w := o.mw
    have t := o.ta
    have hday := I.u.2.2
    obtain ⟨A, N, B, hA, hA2, hN, hN2, hB, hB2, hA3, hB3⟩ := I.A
    have hNt : (gz h 46 3).toNat = N := by omega
    obtain ⟨hc, hhc⟩ : ∃ hc, hc = zpi (zpi (zka h) 45 14 (zj (gz h 45 14 + a))) 16 5 (zj 0) := ⟨_, rfl⟩
    have ec : ∀ x y, x ≠ 46 → x ≠ 48 + N → ¬ (x = 45 ∧ y = 14) → ¬ (x = 16 ∧ y = 5) → zgi hc x y = zgi h x y := fun x y q1 q2 q3 q4 => by rw [hhc, zpi_o q4, zpi_o q3]; exact zka_o q1 (by rw [hNt]; exact q2)
    obtain ⟨h1, hh1⟩ : ∃ h1, h1 = zpi hc 78 0 (zj 0) := ⟨_, rfl⟩
    have w0 : zMW hc := by rw [hhc]; exact w
    have t0 : zTa hc := by rw [hhc]; exact t
    have w1 : zMW h1 := by rw [hh1]; exact w0
    have e1 : ∀ x y, x ≠ 46 → x ≠ 48 + N → ¬ (x = 45 ∧ y = 14) → ¬ (x = 16 ∧ y = 5) → ¬ (x = 78 ∧ y = 0) → zgi h1 x y = zgi h x y := fun x y q1 q2 q3 q4 q5 => by rw [hh1, zpi_o q5]; exact ec x y q1 q2 q3 q4
    have e14 : gz h1 80 14 = gz h 45 14 := by rw [show gz h1 80 14 = gz h 80 14 from congrArg Int32.toInt (e1 80 14 (by omega) (by omega) (by omega) (by omega) (by omega))]; exact congrArg Int32.toInt (o.vn 14 (by omega))
    rw [← hhc]
    refine zCC_of (ls := [.ref 78, .int (zj a)]) pf_X9_waits rfl (Nat.le_of_ble_eq_true rfl) ?_
    refine vb_X9_waits_0 _ _ _ ?_
    simp only [B_X9_waits_0, oPI, oPL, oILOAD, oLLOAD, oALOAD, oISTORE, oASTORE, oLSTORE, oIINC, oIADD, oISUB, oIMUL, oIAND, oIOR, oIXOR, oIDIV, oIREM, oISHL, oISHR, oIUSHR, oLADD, oLSUB, oLMUL, oLOR, oLDIV, oLREM, oLCMP, oLSHL, oINEG, oI2L, oL2I, oI2B, oI2C, oDUP, oPOP, oDUP2, oIFEQ, oICEQ, oIFNE, oICNE, oIFLT, oICLT, oIFGE, oICGE, oIFGT, oICGT, oIFLE, oICLE, oIFNULL, oIFNONNULL, oTSW, oLSW, oGETI, oGETL, oGETR, oPUTI, oPUTZ, oPUTL, oPUTR, oIALD, oBALD, oZALD, oLALD, oAALD, oALEN, oIAST, oBAST, oZAST, oLAST, oIRET, oZRET, oLRET, oVRET, oARET, oOBJ, oINI, oPS, oNEW, oNEWAI, oNEWAB, oNEWAZ, oNEWAL, oCOPY, oINV0, oINS0, oINV1, oINS1, oINV2, oINS2, oINV3, oINS3, oINV4, oINS4, oINV5, oINS5, oINV6, oINS6, List.getElem?_cons_zero, List.getElem?_cons_succ, List.set_cons_zero, List.set_cons_succ, znl, zs4, zc1, true_and, and_self, Value.category, Option.toList, List.cons_append, List.nil_append, zvr, mw_s w0, mw_s79 w0, mw_s80 w0, mw_s81 w0, mw_s82 w0, mw_s83 w0, mw_s84 w0, mw_s85 w0, mw_r5 w0, mw_r15 w0, mw_r16 w0, mw_r17 w0, mw_r18 w0, mw_r21 w0, mw_r22 w0, ta_r3 t0, ta_s t0, ta_s1 t0, ta_r8 t0, ta_s2 t0, ta_r9 t0, ta_s3 t0, ta_r10 t0, ta_s4 t0, ta_r11 t0, ta_s5 t0, ta_r12 t0, ta_s6 t0, ta_r13 t0, ta_s7 t0, ta_r14 t0, ta_s8 t0, ta_r15 t0, ta_s9 t0, ta_r16 t0, ta_s10 t0, ta_r17 t0, ta_s11 t0, ta_r18 t0, ta_s12 t0, ta_r19 t0, ta_s13 t0, ta_r20 t0, zsh_pi, zgr_pi]
    rw [← hh1]
    refine vb_X9_waits_18 _ _ _ ?_
    simp only [B_X9_waits_18, oPI, oPL, oILOAD, oLLOAD, oALOAD, oISTORE, oASTORE, oLSTORE, oIINC, oIADD, oISUB, oIMUL, oIAND, oIOR, oIXOR, oIDIV, oIREM, oISHL, oISHR, oIUSHR, oLADD, oLSUB, oLMUL, oLOR, oLDIV, oLREM, oLCMP, oLSHL, oINEG, oI2L, oL2I, oI2B, oI2C, oDUP, oPOP, oDUP2, oIFEQ, oICEQ, oIFNE, oICNE, oIFLT, oICLT, oIFGE, oICGE, oIFGT, oICGT, oIFLE, oICLE, oIFNULL, oIFNONNULL, oTSW, oLSW, oGETI, oGETL, oGETR, oPUTI, oPUTZ, oPUTL, oPUTR, oIALD, oBALD, oZALD, oLALD, oAALD, oALEN, oIAST, oBAST, oZAST, oLAST, oIRET, oZRET, oLRET, oVRET, oARET, oOBJ, oINI, oPS, oNEW, oNEWAI, oNEWAB, oNEWAZ, oNEWAL, oCOPY, oINV0, oINS0, oINV1, oINS1, oINV2, oINS2, oINV3, oINS3, oINV4, oINS4, oINV5, oINS5, oINV6, oINS6, List.getElem?_cons_zero, List.getElem?_cons_succ, List.set_cons_zero, List.set_cons_succ, znl, zs4, zc1, true_and, and_self, Value.category, Option.toList, List.cons_append, List.nil_append, zvr]
    refine cm_in ha1 ha2 (by omega) (by omega) (by omega) (by omega) ?_
    simp only [oPI, oPL, oILOAD, oLLOAD, oALOAD, oISTORE, oASTORE, oLSTORE, oIINC, oIADD, oISUB, oIMUL, oIAND, oIOR, oIXOR, oIDIV, oIREM, oISHL, oISHR, oIUSHR, oLADD, oLSUB, oLMUL, oLOR, oLDIV, oLREM, oLCMP, oLSHL, oINEG, oI2L, oL2I, oI2B, oI2C, oDUP, oPOP, oDUP2, oIFEQ, oICEQ, oIFNE, oICNE, oIFLT, oICLT, oIFGE, oICGE, oIFGT, oICGT, oIFLE, oICLE, oIFNULL, oIFNONNULL, oTSW, oLSW, oGETI, oGETL, oGETR, oPUTI, oPUTZ, oPUTL, oPUTR, oIALD, oBALD, oZALD, oLALD, oAALD, oALEN, oIAST, oBAST, oZAST, oLAST, oIRET, oZRET, oLRET, oVRET, oARET, oOBJ, oINI, oPS, oNEW, oNEWAI, oNEWAB, oNEWAZ, oNEWAL, oCOPY, oINV0, oINS0, oINV1, oINS1, oINV2, oINS2, oINV3, oINS3, oINV4, oINS4, oINV5, oINS5, oINV6, oINS6, List.getElem?_cons_zero, List.getElem?_cons_succ, List.set_cons_zero, List.set_cons_succ, znl, zs4, zc1, true_and, and_self, Value.category, Option.toList, List.cons_append, List.nil_append, zvr, mw_s w1, mw_s79 w1, mw_s80 w1, mw_s81 w1, mw_s82 w1, mw_s83 w1, mw_s84 w1, mw_s85 w1, mw_r5 w1, mw_r15 w1, mw_r16 w1, mw_r17 w1, mw_r18 w1, mw_r21 w1, mw_r22 w1]
    try simp (disch := omega) only [zgi_gz, zj_cn, zj_lt, zj_le, zj_eq, zj_add, zj_sub, zj_mul, zj_neg, zj_lt0, zj_le0, zj_0le, zj_0lt, zj_eq0, zb_0, zb_z, Classical.not_not, Int.zero_add, Int.add_zero, zj_remn, zj_divn]
    refine ⟨fun _ => ?_, fun c => absurd c1 c⟩
    refine vb_X9_waits_34 _ _ _ ?_
    simp only [B_X9_waits_34, oPI, oPL, oILOAD, oLLOAD, oALOAD, oISTORE, oASTORE, oLSTORE, oIINC, oIADD, oISUB, oIMUL, oIAND, oIOR, oIXOR, oIDIV, oIREM, oISHL, oISHR, oIUSHR, oLADD, oLSUB, oLMUL, oLOR, oLDIV, oLREM, oLCMP, oLSHL, oINEG, oI2L, oL2I, oI2B, oI2C, oDUP, oPOP, oDUP2, oIFEQ, oICEQ, oIFNE, oICNE, oIFLT, oICLT, oIFGE, oICGE, oIFGT, oICGT, oIFLE, oICLE, oIFNULL, oIFNONNULL, oTSW, oLSW, oGETI, oGETL, oGETR, oPUTI, oPUTZ, oPUTL, oPUTR, oIALD, oBALD, oZALD, oLALD, oAALD, oALEN, oIAST, oBAST, oZAST, oLAST, oIRET, oZRET, oLRET, oVRET, oARET, oOBJ, oINI, oPS, oNEW, oNEWAI, oNEWAB, oNEWAZ, oNEWAL, oCOPY, oINV0, oINS0, oINV1, oINS1, oINV2, oINS2, oINV3, oINS3, oINV4, oINS4, oINV5, oINS5, oINV6, oINS6, List.getElem?_cons_zero, List.getElem?_cons_succ, List.set_cons_zero, List.set_cons_succ, znl, zs4, zc1, true_and, and_self, Value.category, Option.toList, List.cons_append, List.nil_append, zvr, mw_s w1, mw_s79 w1, mw_s80 w1, mw_s81 w1, mw_s82 w1, mw_s83 w1, mw_s84 w1, mw_s85 w1, mw_r5 w1, mw_r15 w1, mw_r16 w1, mw_r17 w1, mw_r18 w1, mw_r21 w1, mw_r22 w1]
    rw [show (zj 14).toNatClampNeg = 14 from rfl, zgi_gz, e14, zj_sub]
    simp (disch := omega) only [zj_le]
    refine ⟨zj_in (by omega) (by omega) (by omega), fun _ => ?_, fun c => by omega⟩
    refine vb_X9_waits_55 _ _ _ ?_
    simp only [B_X9_waits_55, oPI, oPL, oILOAD, oLLOAD, oALOAD, oISTORE, oASTORE, oLSTORE, oIINC, oIADD, oISUB, oIMUL, oIAND, oIOR, oIXOR, oIDIV, oIREM, oISHL, oISHR, oIUSHR, oLADD, oLSUB, oLMUL, oLOR, oLDIV, oLREM, oLCMP, oLSHL, oINEG, oI2L, oL2I, oI2B, oI2C, oDUP, oPOP, oDUP2, oIFEQ, oICEQ, oIFNE, oICNE, oIFLT, oICLT, oIFGE, oICGE, oIFGT, oICGT, oIFLE, oICLE, oIFNULL, oIFNONNULL, oTSW, oLSW, oGETI, oGETL, oGETR, oPUTI, oPUTZ, oPUTL, oPUTR, oIALD, oBALD, oZALD, oLALD, oAALD, oALEN, oIAST, oBAST, oZAST, oLAST, oIRET, oZRET, oLRET, oVRET, oARET, oOBJ, oINI, oPS, oNEW, oNEWAI, oNEWAB, oNEWAZ, oNEWAL, oCOPY, oINV0, oINS0, oINV1, oINS1, oINV2, oINS2, oINV3, oINS3, oINV4, oINS4, oINV5, oINS5, oINV6, oINS6, List.getElem?_cons_zero, List.getElem?_cons_succ, List.set_cons_zero, List.set_cons_succ, znl, zs4, zc1, true_and, and_self, Value.category, Option.toList, List.cons_append, List.nil_append, zvr, mw_s w1, mw_s79 w1, mw_s80 w1, mw_s81 w1, mw_s82 w1, mw_s83 w1, mw_s84 w1, mw_s85 w1, mw_r5 w1, mw_r15 w1, mw_r16 w1, mw_r17 w1, mw_r18 w1, mw_r21 w1, mw_r22 w1]
    refine cm_remembers (A := A) w1 (by rw [show gz h1 78 19 = gz h 78 19 from congrArg Int32.toInt (e1 78 19 (by omega) (by omega) (by omega) (by omega) (by omega))]; exact hA3) hA2 (fun h2 r1 r2 r3 r4 r5 r6 => ?_)
    have w2 := w1.mv r1 r2
    have e80 : zgi h2 80 14 = zj (gz h 45 14) := by rw [r3 80 14 (by omega) (by omega), zgi_gz, e14]
    simp only [oPI, oPL, oILOAD, oLLOAD, oALOAD, oISTORE, oASTORE, oLSTORE, oIINC, oIADD, oISUB, oIMUL, oIAND, oIOR, oIXOR, oIDIV, oIREM, oISHL, oISHR, oIUSHR, oLADD, oLSUB, oLMUL, oLOR, oLDIV, oLREM, oLCMP, oLSHL, oINEG, oI2L, oL2I, oI2B, oI2C, oDUP, oPOP, oDUP2, oIFEQ, oICEQ, oIFNE, oICNE, oIFLT, oICLT, oIFGE, oICGE, oIFGT, oICGT, oIFLE, oICLE, oIFNULL, oIFNONNULL, oTSW, oLSW, oGETI, oGETL, oGETR, oPUTI, oPUTZ, oPUTL, oPUTR, oIALD, oBALD, oZALD, oLALD, oAALD, oALEN, oIAST, oBAST, oZAST, oLAST, oIRET, oZRET, oLRET, oVRET, oARET, oOBJ, oINI, oPS, oNEW, oNEWAI, oNEWAB, oNEWAZ, oNEWAL, oCOPY, oINV0, oINS0, oINV1, oINS1, oINV2, oINS2, oINV3, oINS3, oINV4, oINS4, oINV5, oINS5, oINV6, oINS6, List.getElem?_cons_zero, List.getElem?_cons_succ, List.set_cons_zero, List.set_cons_succ, znl, zs4, zc1, true_and, and_self, Value.category, Option.toList, List.cons_append, List.nil_append, zvr, mw_s w2, mw_s79 w2, mw_s80 w2, mw_s81 w2, mw_s82 w2, mw_s83 w2, mw_s84 w2, mw_s85 w2, mw_r5 w2, mw_r15 w2, mw_r16 w2, mw_r17 w2, mw_r18 w2, mw_r21 w2, mw_r22 w2, zsh_pi, zgr_pi]
    rw [show (zj 14).toNatClampNeg = 14 from rfl, e80, zj_add]
    refine ⟨zj_in (by omega) (by omega) (by omega), zj_in (by omega) (by omega) (by omega), zj_in (by omega) (by omega) (by omega), ?_⟩
    rw [show zgi (zpi h2 80 14 (zj (gz h 45 14 + a))) 80 14 = zj (gz h 45 14 + a) by rw [zgi_pi, if_pos ⟨rfl, rfl⟩]]
    have w3 : zMW (zpi h2 80 14 (zj (gz h 45 14 + a))) := w2
    refine cm_good w3 ?_
    simp only [oPI, oPL, oILOAD, oLLOAD, oALOAD, oISTORE, oASTORE, oLSTORE, oIINC, oIADD, oISUB, oIMUL, oIAND, oIOR, oIXOR, oIDIV, oIREM, oISHL, oISHR, oIUSHR, oLADD, oLSUB, oLMUL, oLOR, oLDIV, oLREM, oLCMP, oLSHL, oINEG, oI2L, oL2I, oI2B, oI2C, oDUP, oPOP, oDUP2, oIFEQ, oICEQ, oIFNE, oICNE, oIFLT, oICLT, oIFGE, oICGE, oIFGT, oICGT, oIFLE, oICLE, oIFNULL, oIFNONNULL, oTSW, oLSW, oGETI, oGETL, oGETR, oPUTI, oPUTZ, oPUTL, oPUTR, oIALD, oBALD, oZALD, oLALD, oAALD, oALEN, oIAST, oBAST, oZAST, oLAST, oIRET, oZRET, oLRET, oVRET, oARET, oOBJ, oINI, oPS, oNEW, oNEWAI, oNEWAB, oNEWAZ, oNEWAL, oCOPY, oINV0, oINS0, oINV1, oINS1, oINV2, oINS2, oINV3, oINS3, oINV4, oINS4, oINV5, oINS5, oINV6, oINS6, List.getElem?_cons_zero, List.getElem?_cons_succ, List.set_cons_zero, List.set_cons_succ, znl, zs4, zc1, true_and, and_self, Value.category, Option.toList, List.cons_append, List.nil_append, zvr]
    obtain ⟨h3, hh3⟩ : ∃ h3, h3 = zrf (zpi h2 80 14 (zj (gz h 45 14 + a))) 0 := ⟨_, rfl⟩
    rw [← hh3]
    have e3 : ∀ x y, ¬ (x = 80 ∧ y = 14) → ¬ (x = 78 ∧ (y = 1 ∨ y = 2)) → zgi h3 x y = zgi h2 x y := fun x y q1 q2 => by
      rw [hh3]; unfold zrf; rw [zpi_o (by omega), zpi_o (by omega), zpi_o q1]
    have eh : ∀ x y, x ≠ 46 → x ≠ 48 + N → ¬ (x = 45 ∧ y = 14) → ¬ (x = 16 ∧ y = 5) → x ≠ 82 → ¬ (x = 78 ∧ (y = 0 ∨ y = 1 ∨ y = 2 ∨ y = 19)) → ¬ (x = 80 ∧ y = 14) → zgi h3 x y = zgi h x y := fun x y q1 q2 q3 q4 q5 q6 q7 => by rw [e3 x y q7 (by omega), r3 x y q5 (by omega)]; exact e1 x y q1 q2 q3 q4 (by omega)
    have ehc : ∀ x y, x ≠ 82 → x ≠ 78 → x ≠ 80 → zgi h3 x y = zgi hc x y := fun x y q1 q2 q3 => by rw [e3 x y (by omega) (by omega), r3 x y q1 (by omega), hh1, zpi_o (by omega)]
    have ehk : ∀ x y, x ≠ 82 → x ≠ 78 → x ≠ 80 → x ≠ 45 → x ≠ 16 → zgi h3 x y = zgi (zka h) x y := fun x y q1 q2 q3 q4 q5 => by rw [ehc x y q1 q2 q3, hhc, zpi_o (by omega), zpi_o (by omega)]
    have g45 : ∀ y, y ≠ 14 → gz h3 45 y = gz h 45 y := fun y hy => congrArg Int32.toInt (eh 45 y (by omega) (by omega) (by omega) (by omega) (by omega) (by omega) (by omega))
    have z45 : zgi h3 45 14 = zj (gz h 45 14 + a) := by rw [ehc 45 14 (by omega) (by omega) (by omega), hhc, zpi_o (by omega), zgi_pi, if_pos ⟨rfl, rfl⟩]
    have g14 : gz h3 45 14 = gz h 45 14 + a := by show (zgi h3 45 14).toInt = _; rw [z45, zj_toInt (by omega) (by omega)]
    have h1e : h3.1 = h.1 := by rw [hh3]; show h2.1 = h.1; rw [r1, hh1, hhc]; rfl
    have h2e : h3.2.2 = h.2.2 := by rw [hh3]; show h2.2.2 = h.2.2; rw [r2, hh1, hhc]; rfl
    refine k2 h3 (I.rem c0 hA hA2 hN hN2 h1e h2e (fun x y q1 q2 q3 q4 q5 q6 q7 q8 => eh x y q2 (by omega) (by omega) (by omega) (by omega) (by omega) (by omega)) (fun x y hx => ehk x y (by omega) (by omega) (by omega) (by omega) (by omega)) (fun y q1 q2 => eh 78 y (by omega) (by omega) (by omega) (by omega) (by omega) (by omega) (by omega)) ?_ ?_ ?_ ?_ (congrArg Int32.toInt (eh 78 20 (by omega) (by omega) (by omega) (by omega) (by omega) (by omega) (by omega))) ?_ (fun i hi => ?_) (fun i hi => ?_) (fun i hi => ?_))
    · rw [ehc 16 5 (by omega) (by omega) (by omega), hhc]; rfl
    · rw [hh3]; rfl
    · rw [hh3]; rfl
    · rw [show gz h3 78 19 = gz h2 78 19 from congrArg Int32.toInt (e3 78 19 (by omega) (by omega))]; exact r4
    · refine ⟨fun b hb => ?_, fun i hi => ?_, ?_⟩
      · rw [g45 b (by omega)]; exact I.u.1 b hb
      · rw [g45 (6 + i) (by omega)]; exact I.u.2.1 i hi
      · rw [g14]; omega
    · rw [e3 82 _ (by omega) (by omega), r5 i hi, e1 80 i (by omega) (by omega) (by omega) (by omega) (by omega)]; exact o.vn i hi
    · rw [e3 82 _ (by omega) (by omega), r6 i hi, e1 82 _ (by omega) (by omega) (by omega) (by omega) (by omega)]
    · by_cases ci : i = 14
      · subst ci
        rw [z45, hh3]
        unfold zrf
        rw [zpi_o (by omega), zpi_o (by omega), zgi_pi, if_pos ⟨rfl, rfl⟩]
      · rw [eh 80 i (by omega) (by omega) (by omega) (by omega) (by omega) (by omega) (by omega), eh 45 i (by omega) (by omega) (by omega) (by omega) (by omega) (by omega) (by omega)]
        exact o.vn i hi
end ZSA
