/-! numbers as Int -/
theorem zj_of (x : Int32) : zj x.toInt = x := Int32.ofInt_toInt x
theorem zj_add (a b : Int) : zj a + zj b = zj (a + b) := (Int32.ofInt_add a b).symm
theorem zj_sub (a b : Int) : zj a - zj b = zj (a - b) := (Int32.ofInt_sub a b).symm
theorem zj_mul (a b : Int) : zj a * zj b = zj (a * b) := (Int32.ofInt_mul a b).symm
theorem zj_neg (a : Int) : - zj a = zj (- a) := (Int32.ofInt_neg a).symm
theorem zj_toInt {a : Int} (h1 : -2147483648 ≤ a) (h2 : a < 2147483648) : (zj a).toInt = a := Int32.toInt_ofInt_of_le (by omega) (by omega)
theorem zj_lt {a b : Int} (h1 : -2147483648 ≤ a) (h2 : a < 2147483648) (h3 : -2147483648 ≤ b) (h4 : b < 2147483648) : (zj a < zj b) = (a < b) := by
  rw [Int32.lt_iff_toInt_lt, zj_toInt h1 h2, zj_toInt h3 h4]
theorem zj_le {a b : Int} (h1 : -2147483648 ≤ a) (h2 : a < 2147483648) (h3 : -2147483648 ≤ b) (h4 : b < 2147483648) : (zj a ≤ zj b) = (a ≤ b) := by
  rw [Int32.le_iff_toInt_le, zj_toInt h1 h2, zj_toInt h3 h4]
theorem zj_eq {a b : Int} (h1 : -2147483648 ≤ a) (h2 : a < 2147483648) (h3 : -2147483648 ≤ b) (h4 : b < 2147483648) : (zj a = zj b) = (a = b) := by
  rw [← Int32.toInt_inj, zj_toInt h1 h2, zj_toInt h3 h4]
theorem zj_0 : (0 : Int32) = zj 0 := rfl
theorem zj_lt0 {a : Int} (h1 : -2147483648 ≤ a) (h2 : a < 2147483648) : (zj a < 0) = (a < 0) := zj_lt (b := 0) h1 h2 (by omega) (by omega)
theorem zj_le0 {a : Int} (h1 : -2147483648 ≤ a) (h2 : a < 2147483648) : (zj a ≤ 0) = (a ≤ 0) := zj_le (b := 0) h1 h2 (by omega) (by omega)
theorem zj_0le {a : Int} (h1 : -2147483648 ≤ a) (h2 : a < 2147483648) : (0 ≤ zj a) = (0 ≤ a) := zj_le (a := 0) (by omega) (by omega) h1 h2
theorem zj_0lt {a : Int} (h1 : -2147483648 ≤ a) (h2 : a < 2147483648) : (0 < zj a) = (0 < a) := zj_lt (a := 0) (by omega) (by omega) h1 h2
theorem zj_eq0 {a : Int} (h1 : -2147483648 ≤ a) (h2 : a < 2147483648) : (zj a = 0) = (a = 0) := zj_eq (b := 0) h1 h2 (by omega) (by omega)
theorem zj_nat {a : Int} (h1 : -2147483648 ≤ a) (h2 : a < 2147483648) : (zj a).toNatClampNeg = a.toNat := by
  show (zj a).toInt.toNat = a.toNat
  rw [zj_toInt h1 h2]
theorem zj_cn {n : Nat} (h : n < 2147483648) : (zj (n : Int)).toNatClampNeg = n := by
  rw [zj_nat (by omega) (by omega)]
  rfl
theorem zdown {m : Nat} {P : Nat → Prop} (hs : ∀ i, i ≤ m → (i < m → P (i + 1)) → P i) : ∀ i, i ≤ m → P i := by
  have : ∀ n i, m = i + n → P i := by
    intro n
    induction n with
    | zero => exact fun i hi => hs i (by omega) (fun h => by omega)
    | succ n ih => exact fun i hi => hs i (by omega) (fun h => ih (i + 1) (by omega))
  exact fun i hi => this (m - i) i (by omega)
theorem zj_in {a : Int} {n : Nat} (h1 : 0 ≤ a) (h2 : a < n) (h3 : n < 2147483648) : vp_in (zj a) n := by
  rw [vp_in_iff, zj_toInt (by omega) (by omega)]
  exact ⟨h1, h2⟩
theorem zj_div {a b : Int} (h1 : -2147483648 < a) (h2 : a < 2147483648) (h3 : -2147483648 < b) (h4 : b < 2147483648) : zj a / zj b = zj (a.tdiv b) := by
  apply Int32.toInt_inj.mp
  have hb : (a.tdiv b).natAbs ≤ a.natAbs := Int.natAbs_tdiv_le_natAbs a b
  rw [Int32.toInt_div, zj_toInt (by omega) h2, zj_toInt (by omega) h4, zj_toInt (by omega) (by omega)]
  exact Int.bmod_eq_of_le (by omega) (by omega)
theorem zj_rem {a b : Int} (h1 : -2147483648 ≤ a) (h2 : a < 2147483648) (h3 : 0 < b) (h4 : b < 2147483648) : zj a % zj b = zj (a.tmod b) := by
  apply Int32.toInt_inj.mp
  have hb := tmod_bounds (a := a) h3
  rw [Int32.toInt_mod, zj_toInt h1 h2, zj_toInt (by omega) h4, zj_toInt (by omega) (by omega)]
/-! the heap's algebra -/
theorem zsh_pi (h : zHp) (k j : Nat) (x : Int32) (a : Nat) : zsh (zpi h k j x) a = zsh h a := rfl
theorem zsh_pl (h : zHp) (k j : Nat) (x : Int64) (a : Nat) : zsh (zpl h k j x) a = zsh h a := rfl
theorem zsh_pr (h : zHp) (k j : Nat) (x : Option Nat) (a : Nat) : zsh (zpr h k j x) a = zsh h a := rfl
theorem zgr_pi (h : zHp) (k j : Nat) (x : Int32) (a b : Nat) : zgr (zpi h k j x) a b = zgr h a b := rfl
theorem zgr_pl (h : zHp) (k j : Nat) (x : Int64) (a b : Nat) : zgr (zpl h k j x) a b = zgr h a b := rfl
theorem zgl_pi (h : zHp) (k j : Nat) (x : Int32) (a b : Nat) : zgl (zpi h k j x) a b = zgl h a b := rfl
theorem zgl_pr (h : zHp) (k j : Nat) (x : Option Nat) (a b : Nat) : zgl (zpr h k j x) a b = zgl h a b := rfl
theorem zgi_pl (h : zHp) (k j : Nat) (x : Int64) (a b : Nat) : zgi (zpl h k j x) a b = zgi h a b := rfl
theorem zgi_pr (h : zHp) (k j : Nat) (x : Option Nat) (a b : Nat) : zgi (zpr h k j x) a b = zgi h a b := rfl
theorem zgi_pi (h : zHp) (k j : Nat) (x : Int32) (a b : Nat) : zgi (zpi h k j x) a b = if a = k ∧ b = j then x else zgi h a b := rfl
theorem zgl_pl (h : zHp) (k j : Nat) (x : Int64) (a b : Nat) : zgl (zpl h k j x) a b = if a = k ∧ b = j then x else zgl h a b := rfl
theorem zgr_pr (h : zHp) (k j : Nat) (x : Option Nat) (a b : Nat) : zgr (zpr h k j x) a b = if a = k ∧ b = j then x else zgr h a b := rfl
def gz (h : zHp) (k j : Nat) : Int := (zgi h k j).toInt
theorem zgi_gz (h : zHp) (k j : Nat) : zgi h k j = zj (gz h k j) := (zj_of _).symm
theorem gz_lo (h : zHp) (k j : Nat) : -2147483648 ≤ gz h k j := Int32.le_toInt _
theorem gz_hi (h : zHp) (k j : Nat) : gz h k j < 2147483648 := Int32.toInt_lt _
/-! floorMod -/
theorem z_nn (x : Int32) : 0 ≤ x ↔ x.toBitVec.msb = false := by
  rw [Int32.le_iff_toInt_le, BitVec.msb_eq_toInt]
  show (0 : Int) ≤ x.toBitVec.toInt ↔ _
  rw [decide_eq_false_iff_not]
  omega
theorem z_xnn (x y : Int32) : 0 ≤ x ^^^ y ↔ (0 ≤ x ↔ 0 ≤ y) := by
  rw [z_nn, z_nn, z_nn, Int32.toBitVec_xor, BitVec.msb_xor]
  cases x.toBitVec.msb <;> cases y.toBitVec.msb <;> simp
theorem z_tmod_nn {a b : Int} (h : 0 ≤ a) : a.tmod b = a % b := Int.tmod_eq_emod_of_nonneg h
theorem z_tmod_neg {a b : Int} (hb : 0 < b) (ha : a < 0) : (a.tmod b = 0 → a % b = 0) ∧ (¬ a.tmod b = 0 → a.tmod b + b = a % b) := by
  have e : a % b = a.tmod b % b := by
    have e1 : b * a.tdiv b + a.tmod b = a := Int.mul_tdiv_add_tmod a b
    have e2 : (b * a.tdiv b + a.tmod b) % b = a.tmod b % b := Int.mul_add_emod_self_left ..
    rw [e1] at e2
    exact e2
  have t := tmod_bounds (a := a) hb
  have t2 : a.tmod b ≤ 0 := by
    have := Int.tmod_nonneg b (a := -a) (by omega)
    rw [Int.neg_tmod] at this
    omega
  refine ⟨fun h => by rw [e, h]; rfl, fun h => ?_⟩
  rw [e, ← Int.add_emod_right]
  exact (Int.emod_eq_of_lt (by omega) (by omega)).symm
section ZP
variable {X : Nat × (Nat → Int32)} {R : zRt} {h : zHp}
theorem cc_floorMod {a b : Int} (h1 : -1000000 ≤ a) (h2 : a ≤ 1000000) (h3 : 0 < b) (h4 : b ≤ 1000) (k : R (some (.int (zj (a % b)))) h) : zCC X M_J9_floorMod_7cf53 [.int (zj a), .int (zj b)] h R := by
  have t := tmod_bounds (a := a) h3
  refine zCC_of (ls := [.int (zj a), .int (zj b), .retAddr 0]) pf_J9_floorMod_7cf53 rfl (Nat.le_of_ble_eq_true rfl) ?_
  refine vb_J9_floorMod_7cf53_0 _ _ _ ?_
  simp only [B_J9_floorMod_7cf53_0, oPI, oPL, oILOAD, oLLOAD, oALOAD, oISTORE, oASTORE, oLSTORE, oIINC, oIADD, oISUB, oIMUL, oIAND, oIOR, oIXOR, oIDIV, oIREM, oISHL, oISHR, oIUSHR, oLADD, oLSUB, oLMUL, oLOR, oLDIV, oLREM, oLCMP, oLSHL, oINEG, oI2L, oL2I, oI2B, oI2C, oDUP, oPOP, oDUP2, oIFEQ, oICEQ, oIFNE, oICNE, oIFLT, oICLT, oIFGE, oICGE, oIFGT, oICGT, oIFLE, oICLE, oIFNULL, oIFNONNULL, oTSW, oLSW, oGETI, oGETL, oGETR, oPUTI, oPUTZ, oPUTL, oPUTR, oIALD, oBALD, oZALD, oLALD, oAALD, oALEN, oIAST, oBAST, oZAST, oLAST, oIRET, oZRET, oLRET, oVRET, oARET, oOBJ, oINI, oPS, oNEW, oNEWAI, oNEWAB, oNEWAZ, oNEWAL, oCOPY, oINV0, oINS0, oINV1, oINS1, oINV2, oINS2, oINV3, oINS3, oINV4, oINS4, oINV5, oINS5, oINV6, oINS6, List.getElem?_cons_zero, List.getElem?_cons_succ, List.set_cons_zero, List.set_cons_succ, znl, zs4, zc1, true_and, and_self, Value.category, Option.toList, List.cons_append, List.nil_append, zvr]
  rw [zj_rem (by omega) (by omega) (by omega) (by omega), zj_add, z_xnn, zj_0, zj_eq (by omega) (by omega) (by omega) (by omega), zj_eq (by omega) (by omega) (by omega) (by omega), zj_le (by omega) (by omega) (by omega) (by omega), zj_le (by omega) (by omega) (by omega) (by omega)]
  refine ⟨by omega, fun c => ?_, fun c => ⟨fun c2 => ?_, fun c2 => ?_⟩⟩
  · refine vb_J9_floorMod_7cf53_18 _ _ _ ?_
    simp only [B_J9_floorMod_7cf53_18, oPI, oPL, oILOAD, oLLOAD, oALOAD, oISTORE, oASTORE, oLSTORE, oIINC, oIADD, oISUB, oIMUL, oIAND, oIOR, oIXOR, oIDIV, oIREM, oISHL, oISHR, oIUSHR, oLADD, oLSUB, oLMUL, oLOR, oLDIV, oLREM, oLCMP, oLSHL, oINEG, oI2L, oL2I, oI2B, oI2C, oDUP, oPOP, oDUP2, oIFEQ, oICEQ, oIFNE, oICNE, oIFLT, oICLT, oIFGE, oICGE, oIFGT, oICGT, oIFLE, oICLE, oIFNULL, oIFNONNULL, oTSW, oLSW, oGETI, oGETL, oGETR, oPUTI, oPUTZ, oPUTL, oPUTR, oIALD, oBALD, oZALD, oLALD, oAALD, oALEN, oIAST, oBAST, oZAST, oLAST, oIRET, oZRET, oLRET, oVRET, oARET, oOBJ, oINI, oPS, oNEW, oNEWAI, oNEWAB, oNEWAZ, oNEWAL, oCOPY, oINV0, oINS0, oINV1, oINS1, oINV2, oINS2, oINV3, oINS3, oINV4, oINS4, oINV5, oINS5, oINV6, oINS6, List.getElem?_cons_zero, List.getElem?_cons_succ, List.set_cons_zero, List.set_cons_succ, znl, zs4, zc1, true_and, and_self, Value.category, Option.toList, List.cons_append, List.nil_append, zvr]
    rw [z_tmod_nn (by omega)]
    exact k
  · refine vb_J9_floorMod_7cf53_18 _ _ _ ?_
    simp only [B_J9_floorMod_7cf53_18, oPI, oPL, oILOAD, oLLOAD, oALOAD, oISTORE, oASTORE, oLSTORE, oIINC, oIADD, oISUB, oIMUL, oIAND, oIOR, oIXOR, oIDIV, oIREM, oISHL, oISHR, oIUSHR, oLADD, oLSUB, oLMUL, oLOR, oLDIV, oLREM, oLCMP, oLSHL, oINEG, oI2L, oL2I, oI2B, oI2C, oDUP, oPOP, oDUP2, oIFEQ, oICEQ, oIFNE, oICNE, oIFLT, oICLT, oIFGE, oICGE, oIFGT, oICGT, oIFLE, oICLE, oIFNULL, oIFNONNULL, oTSW, oLSW, oGETI, oGETL, oGETR, oPUTI, oPUTZ, oPUTL, oPUTR, oIALD, oBALD, oZALD, oLALD, oAALD, oALEN, oIAST, oBAST, oZAST, oLAST, oIRET, oZRET, oLRET, oVRET, oARET, oOBJ, oINI, oPS, oNEW, oNEWAI, oNEWAB, oNEWAZ, oNEWAL, oCOPY, oINV0, oINS0, oINV1, oINS1, oINV2, oINS2, oINV3, oINS3, oINV4, oINS4, oINV5, oINS5, oINV6, oINS6, List.getElem?_cons_zero, List.getElem?_cons_succ, List.set_cons_zero, List.set_cons_succ, znl, zs4, zc1, true_and, and_self, Value.category, Option.toList, List.cons_append, List.nil_append, zvr]
    rw [c2, ← (z_tmod_neg h3 (by omega)).1 c2]
    exact k
  · rw [(z_tmod_neg h3 (by omega)).2 c2]
    exact k
theorem cc_max {a b : Int} (h1 : -2147483648 ≤ a) (h2 : a < 2147483648) (h3 : -2147483648 ≤ b) (h4 : b < 2147483648) (k : R (some (.int (zj (if b ≤ a then a else b)))) h) : zCC X M_J9_max_7cf53 [.int (zj a), .int (zj b)] h R := by
  refine zCC_of (ls := [.int (zj a), .int (zj b)]) pf_J9_max_7cf53 rfl (Nat.le_of_ble_eq_true rfl) ?_
  refine vb_J9_max_7cf53_0 _ _ _ ?_
  simp only [B_J9_max_7cf53_0, oPI, oPL, oILOAD, oLLOAD, oALOAD, oISTORE, oASTORE, oLSTORE, oIINC, oIADD, oISUB, oIMUL, oIAND, oIOR, oIXOR, oIDIV, oIREM, oISHL, oISHR, oIUSHR, oLADD, oLSUB, oLMUL, oLOR, oLDIV, oLREM, oLCMP, oLSHL, oINEG, oI2L, oL2I, oI2B, oI2C, oDUP, oPOP, oDUP2, oIFEQ, oICEQ, oIFNE, oICNE, oIFLT, oICLT, oIFGE, oICGE, oIFGT, oICGT, oIFLE, oICLE, oIFNULL, oIFNONNULL, oTSW, oLSW, oGETI, oGETL, oGETR, oPUTI, oPUTZ, oPUTL, oPUTR, oIALD, oBALD, oZALD, oLALD, oAALD, oALEN, oIAST, oBAST, oZAST, oLAST, oIRET, oZRET, oLRET, oVRET, oARET, oOBJ, oINI, oPS, oNEW, oNEWAI, oNEWAB, oNEWAZ, oNEWAL, oCOPY, oINV0, oINS0, oINV1, oINS1, oINV2, oINS2, oINV3, oINS3, oINV4, oINS4, oINV5, oINS5, oINV6, oINS6, List.getElem?_cons_zero, List.getElem?_cons_succ, List.set_cons_zero, List.set_cons_succ, znl, zs4, zc1, true_and, and_self, Value.category, Option.toList, List.cons_append, List.nil_append, zvr]
  rw [zj_lt h1 h2 h3 h4]
  refine ⟨fun c => ?_, fun c => ?_⟩
  · refine vb_J9_max_7cf53_9 _ _ _ ?_
    simp only [B_J9_max_7cf53_9, oPI, oPL, oILOAD, oLLOAD, oALOAD, oISTORE, oASTORE, oLSTORE, oIINC, oIADD, oISUB, oIMUL, oIAND, oIOR, oIXOR, oIDIV, oIREM, oISHL, oISHR, oIUSHR, oLADD, oLSUB, oLMUL, oLOR, oLDIV, oLREM, oLCMP, oLSHL, oINEG, oI2L, oL2I, oI2B, oI2C, oDUP, oPOP, oDUP2, oIFEQ, oICEQ, oIFNE, oICNE, oIFLT, oICLT, oIFGE, oICGE, oIFGT, oICGT, oIFLE, oICLE, oIFNULL, oIFNONNULL, oTSW, oLSW, oGETI, oGETL, oGETR, oPUTI, oPUTZ, oPUTL, oPUTR, oIALD, oBALD, oZALD, oLALD, oAALD, oALEN, oIAST, oBAST, oZAST, oLAST, oIRET, oZRET, oLRET, oVRET, oARET, oOBJ, oINI, oPS, oNEW, oNEWAI, oNEWAB, oNEWAZ, oNEWAL, oCOPY, oINV0, oINS0, oINV1, oINS1, oINV2, oINS2, oINV3, oINS3, oINV4, oINS4, oINV5, oINS5, oINV6, oINS6, List.getElem?_cons_zero, List.getElem?_cons_succ, List.set_cons_zero, List.set_cons_succ, znl, zs4, zc1, true_and, and_self, Value.category, Option.toList, List.cons_append, List.nil_append, zvr]
    refine vb_J9_max_7cf53_10 _ _ _ ?_
    simp only [B_J9_max_7cf53_10, oPI, oPL, oILOAD, oLLOAD, oALOAD, oISTORE, oASTORE, oLSTORE, oIINC, oIADD, oISUB, oIMUL, oIAND, oIOR, oIXOR, oIDIV, oIREM, oISHL, oISHR, oIUSHR, oLADD, oLSUB, oLMUL, oLOR, oLDIV, oLREM, oLCMP, oLSHL, oINEG, oI2L, oL2I, oI2B, oI2C, oDUP, oPOP, oDUP2, oIFEQ, oICEQ, oIFNE, oICNE, oIFLT, oICLT, oIFGE, oICGE, oIFGT, oICGT, oIFLE, oICLE, oIFNULL, oIFNONNULL, oTSW, oLSW, oGETI, oGETL, oGETR, oPUTI, oPUTZ, oPUTL, oPUTR, oIALD, oBALD, oZALD, oLALD, oAALD, oALEN, oIAST, oBAST, oZAST, oLAST, oIRET, oZRET, oLRET, oVRET, oARET, oOBJ, oINI, oPS, oNEW, oNEWAI, oNEWAB, oNEWAZ, oNEWAL, oCOPY, oINV0, oINS0, oINV1, oINS1, oINV2, oINS2, oINV3, oINS3, oINV4, oINS4, oINV5, oINS5, oINV6, oINS6, List.getElem?_cons_zero, List.getElem?_cons_succ, List.set_cons_zero, List.set_cons_succ, znl, zs4, zc1, true_and, and_self, Value.category, Option.toList, List.cons_append, List.nil_append, zvr]
    rw [if_neg (by omega)] at k
    exact k
  · refine vb_J9_max_7cf53_10 _ _ _ ?_
    simp only [B_J9_max_7cf53_10, oPI, oPL, oILOAD, oLLOAD, oALOAD, oISTORE, oASTORE, oLSTORE, oIINC, oIADD, oISUB, oIMUL, oIAND, oIOR, oIXOR, oIDIV, oIREM, oISHL, oISHR, oIUSHR, oLADD, oLSUB, oLMUL, oLOR, oLDIV, oLREM, oLCMP, oLSHL, oINEG, oI2L, oL2I, oI2B, oI2C, oDUP, oPOP, oDUP2, oIFEQ, oICEQ, oIFNE, oICNE, oIFLT, oICLT, oIFGE, oICGE, oIFGT, oICGT, oIFLE, oICLE, oIFNULL, oIFNONNULL, oTSW, oLSW, oGETI, oGETL, oGETR, oPUTI, oPUTZ, oPUTL, oPUTR, oIALD, oBALD, oZALD, oLALD, oAALD, oALEN, oIAST, oBAST, oZAST, oLAST, oIRET, oZRET, oLRET, oVRET, oARET, oOBJ, oINI, oPS, oNEW, oNEWAI, oNEWAB, oNEWAZ, oNEWAL, oCOPY, oINV0, oINS0, oINV1, oINS1, oINV2, oINS2, oINV3, oINS3, oINV4, oINS4, oINV5, oINS5, oINV6, oINS6, List.getElem?_cons_zero, List.getElem?_cons_succ, List.set_cons_zero, List.set_cons_succ, znl, zs4, zc1, true_and, and_self, Value.category, Option.toList, List.cons_append, List.nil_append, zvr]
    rw [if_pos (by omega)] at k
    exact k
theorem cc_min {a b : Int} (h1 : -2147483648 ≤ a) (h2 : a < 2147483648) (h3 : -2147483648 ≤ b) (h4 : b < 2147483648) (k : R (some (.int (zj (if a ≤ b then a else b)))) h) : zCC X M_J9_min_7cf53 [.int (zj a), .int (zj b)] h R := by
  refine zCC_of (ls := [.int (zj a), .int (zj b)]) pf_J9_min_7cf53 rfl (Nat.le_of_ble_eq_true rfl) ?_
  refine vb_J9_min_7cf53_0 _ _ _ ?_
  simp only [B_J9_min_7cf53_0, oPI, oPL, oILOAD, oLLOAD, oALOAD, oISTORE, oASTORE, oLSTORE, oIINC, oIADD, oISUB, oIMUL, oIAND, oIOR, oIXOR, oIDIV, oIREM, oISHL, oISHR, oIUSHR, oLADD, oLSUB, oLMUL, oLOR, oLDIV, oLREM, oLCMP, oLSHL, oINEG, oI2L, oL2I, oI2B, oI2C, oDUP, oPOP, oDUP2, oIFEQ, oICEQ, oIFNE, oICNE, oIFLT, oICLT, oIFGE, oICGE, oIFGT, oICGT, oIFLE, oICLE, oIFNULL, oIFNONNULL, oTSW, oLSW, oGETI, oGETL, oGETR, oPUTI, oPUTZ, oPUTL, oPUTR, oIALD, oBALD, oZALD, oLALD, oAALD, oALEN, oIAST, oBAST, oZAST, oLAST, oIRET, oZRET, oLRET, oVRET, oARET, oOBJ, oINI, oPS, oNEW, oNEWAI, oNEWAB, oNEWAZ, oNEWAL, oCOPY, oINV0, oINS0, oINV1, oINS1, oINV2, oINS2, oINV3, oINS3, oINV4, oINS4, oINV5, oINS5, oINV6, oINS6, List.getElem?_cons_zero, List.getElem?_cons_succ, List.set_cons_zero, List.set_cons_succ, znl, zs4, zc1, true_and, and_self, Value.category, Option.toList, List.cons_append, List.nil_append, zvr]
  rw [zj_lt h3 h4 h1 h2]
  refine ⟨fun c => ?_, fun c => ?_⟩
  · refine vb_J9_min_7cf53_9 _ _ _ ?_
    simp only [B_J9_min_7cf53_9, oPI, oPL, oILOAD, oLLOAD, oALOAD, oISTORE, oASTORE, oLSTORE, oIINC, oIADD, oISUB, oIMUL, oIAND, oIOR, oIXOR, oIDIV, oIREM, oISHL, oISHR, oIUSHR, oLADD, oLSUB, oLMUL, oLOR, oLDIV, oLREM, oLCMP, oLSHL, oINEG, oI2L, oL2I, oI2B, oI2C, oDUP, oPOP, oDUP2, oIFEQ, oICEQ, oIFNE, oICNE, oIFLT, oICLT, oIFGE, oICGE, oIFGT, oICGT, oIFLE, oICLE, oIFNULL, oIFNONNULL, oTSW, oLSW, oGETI, oGETL, oGETR, oPUTI, oPUTZ, oPUTL, oPUTR, oIALD, oBALD, oZALD, oLALD, oAALD, oALEN, oIAST, oBAST, oZAST, oLAST, oIRET, oZRET, oLRET, oVRET, oARET, oOBJ, oINI, oPS, oNEW, oNEWAI, oNEWAB, oNEWAZ, oNEWAL, oCOPY, oINV0, oINS0, oINV1, oINS1, oINV2, oINS2, oINV3, oINS3, oINV4, oINS4, oINV5, oINS5, oINV6, oINS6, List.getElem?_cons_zero, List.getElem?_cons_succ, List.set_cons_zero, List.set_cons_succ, znl, zs4, zc1, true_and, and_self, Value.category, Option.toList, List.cons_append, List.nil_append, zvr]
    refine vb_J9_min_7cf53_10 _ _ _ ?_
    simp only [B_J9_min_7cf53_10, oPI, oPL, oILOAD, oLLOAD, oALOAD, oISTORE, oASTORE, oLSTORE, oIINC, oIADD, oISUB, oIMUL, oIAND, oIOR, oIXOR, oIDIV, oIREM, oISHL, oISHR, oIUSHR, oLADD, oLSUB, oLMUL, oLOR, oLDIV, oLREM, oLCMP, oLSHL, oINEG, oI2L, oL2I, oI2B, oI2C, oDUP, oPOP, oDUP2, oIFEQ, oICEQ, oIFNE, oICNE, oIFLT, oICLT, oIFGE, oICGE, oIFGT, oICGT, oIFLE, oICLE, oIFNULL, oIFNONNULL, oTSW, oLSW, oGETI, oGETL, oGETR, oPUTI, oPUTZ, oPUTL, oPUTR, oIALD, oBALD, oZALD, oLALD, oAALD, oALEN, oIAST, oBAST, oZAST, oLAST, oIRET, oZRET, oLRET, oVRET, oARET, oOBJ, oINI, oPS, oNEW, oNEWAI, oNEWAB, oNEWAZ, oNEWAL, oCOPY, oINV0, oINS0, oINV1, oINS1, oINV2, oINS2, oINV3, oINS3, oINV4, oINS4, oINV5, oINS5, oINV6, oINS6, List.getElem?_cons_zero, List.getElem?_cons_succ, List.set_cons_zero, List.set_cons_succ, znl, zs4, zc1, true_and, and_self, Value.category, Option.toList, List.cons_append, List.nil_append, zvr]
    rw [if_neg (by omega)] at k
    exact k
  · refine vb_J9_min_7cf53_10 _ _ _ ?_
    simp only [B_J9_min_7cf53_10, oPI, oPL, oILOAD, oLLOAD, oALOAD, oISTORE, oASTORE, oLSTORE, oIINC, oIADD, oISUB, oIMUL, oIAND, oIOR, oIXOR, oIDIV, oIREM, oISHL, oISHR, oIUSHR, oLADD, oLSUB, oLMUL, oLOR, oLDIV, oLREM, oLCMP, oLSHL, oINEG, oI2L, oL2I, oI2B, oI2C, oDUP, oPOP, oDUP2, oIFEQ, oICEQ, oIFNE, oICNE, oIFLT, oICLT, oIFGE, oICGE, oIFGT, oICGT, oIFLE, oICLE, oIFNULL, oIFNONNULL, oTSW, oLSW, oGETI, oGETL, oGETR, oPUTI, oPUTZ, oPUTL, oPUTR, oIALD, oBALD, oZALD, oLALD, oAALD, oALEN, oIAST, oBAST, oZAST, oLAST, oIRET, oZRET, oLRET, oVRET, oARET, oOBJ, oINI, oPS, oNEW, oNEWAI, oNEWAB, oNEWAZ, oNEWAL, oCOPY, oINV0, oINS0, oINV1, oINS1, oINV2, oINS2, oINV3, oINS3, oINV4, oINS4, oINV5, oINS5, oINV6, oINS6, List.getElem?_cons_zero, List.getElem?_cons_succ, List.set_cons_zero, List.set_cons_succ, znl, zs4, zc1, true_and, and_self, Value.category, Option.toList, List.cons_append, List.nil_append, zvr]
    rw [if_pos (by omega)] at k
    exact k
theorem cc_abs {a : Int} (h1 : -2147483648 < a) (h2 : a < 2147483648) (k : R (some (.int (zj (if 0 ≤ a then a else -a)))) h) : zCC X M_J9_abs_0f7a4 [.int (zj a)] h R := by
  refine zCC_of (ls := [.int (zj a)]) pf_J9_abs_0f7a4 rfl (Nat.le_of_ble_eq_true rfl) ?_
  refine vb_J9_abs_0f7a4_0 _ _ _ ?_
  simp only [B_J9_abs_0f7a4_0, oPI, oPL, oILOAD, oLLOAD, oALOAD, oISTORE, oASTORE, oLSTORE, oIINC, oIADD, oISUB, oIMUL, oIAND, oIOR, oIXOR, oIDIV, oIREM, oISHL, oISHR, oIUSHR, oLADD, oLSUB, oLMUL, oLOR, oLDIV, oLREM, oLCMP, oLSHL, oINEG, oI2L, oL2I, oI2B, oI2C, oDUP, oPOP, oDUP2, oIFEQ, oICEQ, oIFNE, oICNE, oIFLT, oICLT, oIFGE, oICGE, oIFGT, oICGT, oIFLE, oICLE, oIFNULL, oIFNONNULL, oTSW, oLSW, oGETI, oGETL, oGETR, oPUTI, oPUTZ, oPUTL, oPUTR, oIALD, oBALD, oZALD, oLALD, oAALD, oALEN, oIAST, oBAST, oZAST, oLAST, oIRET, oZRET, oLRET, oVRET, oARET, oOBJ, oINI, oPS, oNEW, oNEWAI, oNEWAB, oNEWAZ, oNEWAL, oCOPY, oINV0, oINS0, oINV1, oINS1, oINV2, oINS2, oINV3, oINS3, oINV4, oINS4, oINV5, oINS5, oINV6, oINS6, List.getElem?_cons_zero, List.getElem?_cons_succ, List.set_cons_zero, List.set_cons_succ, znl, zs4, zc1, true_and, and_self, Value.category, Option.toList, List.cons_append, List.nil_append, zvr]
  rw [zj_neg, zj_0, zj_le (by omega) (by omega) (by omega) (by omega)]
  refine ⟨fun c => ?_, fun c => ?_⟩
  · refine vb_J9_abs_0f7a4_9 _ _ _ ?_
    simp only [B_J9_abs_0f7a4_9, oPI, oPL, oILOAD, oLLOAD, oALOAD, oISTORE, oASTORE, oLSTORE, oIINC, oIADD, oISUB, oIMUL, oIAND, oIOR, oIXOR, oIDIV, oIREM, oISHL, oISHR, oIUSHR, oLADD, oLSUB, oLMUL, oLOR, oLDIV, oLREM, oLCMP, oLSHL, oINEG, oI2L, oL2I, oI2B, oI2C, oDUP, oPOP, oDUP2, oIFEQ, oICEQ, oIFNE, oICNE, oIFLT, oICLT, oIFGE, oICGE, oIFGT, oICGT, oIFLE, oICLE, oIFNULL, oIFNONNULL, oTSW, oLSW, oGETI, oGETL, oGETR, oPUTI, oPUTZ, oPUTL, oPUTR, oIALD, oBALD, oZALD, oLALD, oAALD, oALEN, oIAST, oBAST, oZAST, oLAST, oIRET, oZRET, oLRET, oVRET, oARET, oOBJ, oINI, oPS, oNEW, oNEWAI, oNEWAB, oNEWAZ, oNEWAL, oCOPY, oINV0, oINS0, oINV1, oINS1, oINV2, oINS2, oINV3, oINS3, oINV4, oINS4, oINV5, oINS5, oINV6, oINS6, List.getElem?_cons_zero, List.getElem?_cons_succ, List.set_cons_zero, List.set_cons_succ, znl, zs4, zc1, true_and, and_self, Value.category, Option.toList, List.cons_append, List.nil_append, zvr]
    refine vb_J9_abs_0f7a4_10 _ _ _ ?_
    simp only [B_J9_abs_0f7a4_10, oPI, oPL, oILOAD, oLLOAD, oALOAD, oISTORE, oASTORE, oLSTORE, oIINC, oIADD, oISUB, oIMUL, oIAND, oIOR, oIXOR, oIDIV, oIREM, oISHL, oISHR, oIUSHR, oLADD, oLSUB, oLMUL, oLOR, oLDIV, oLREM, oLCMP, oLSHL, oINEG, oI2L, oL2I, oI2B, oI2C, oDUP, oPOP, oDUP2, oIFEQ, oICEQ, oIFNE, oICNE, oIFLT, oICLT, oIFGE, oICGE, oIFGT, oICGT, oIFLE, oICLE, oIFNULL, oIFNONNULL, oTSW, oLSW, oGETI, oGETL, oGETR, oPUTI, oPUTZ, oPUTL, oPUTR, oIALD, oBALD, oZALD, oLALD, oAALD, oALEN, oIAST, oBAST, oZAST, oLAST, oIRET, oZRET, oLRET, oVRET, oARET, oOBJ, oINI, oPS, oNEW, oNEWAI, oNEWAB, oNEWAZ, oNEWAL, oCOPY, oINV0, oINS0, oINV1, oINS1, oINV2, oINS2, oINV3, oINS3, oINV4, oINS4, oINV5, oINS5, oINV6, oINS6, List.getElem?_cons_zero, List.getElem?_cons_succ, List.set_cons_zero, List.set_cons_succ, znl, zs4, zc1, true_and, and_self, Value.category, Option.toList, List.cons_append, List.nil_append, zvr]
    rw [if_pos (by omega)] at k
    exact k
  · refine vb_J9_abs_0f7a4_10 _ _ _ ?_
    simp only [B_J9_abs_0f7a4_10, oPI, oPL, oILOAD, oLLOAD, oALOAD, oISTORE, oASTORE, oLSTORE, oIINC, oIADD, oISUB, oIMUL, oIAND, oIOR, oIXOR, oIDIV, oIREM, oISHL, oISHR, oIUSHR, oLADD, oLSUB, oLMUL, oLOR, oLDIV, oLREM, oLCMP, oLSHL, oINEG, oI2L, oL2I, oI2B, oI2C, oDUP, oPOP, oDUP2, oIFEQ, oICEQ, oIFNE, oICNE, oIFLT, oICLT, oIFGE, oICGE, oIFGT, oICGT, oIFLE, oICLE, oIFNULL, oIFNONNULL, oTSW, oLSW, oGETI, oGETL, oGETR, oPUTI, oPUTZ, oPUTL, oPUTR, oIALD, oBALD, oZALD, oLALD, oAALD, oALEN, oIAST, oBAST, oZAST, oLAST, oIRET, oZRET, oLRET, oVRET, oARET, oOBJ, oINI, oPS, oNEW, oNEWAI, oNEWAB, oNEWAZ, oNEWAL, oCOPY, oINV0, oINS0, oINV1, oINS1, oINV2, oINS2, oINV3, oINS3, oINV4, oINS4, oINV5, oINS5, oINV6, oINS6, List.getElem?_cons_zero, List.getElem?_cons_succ, List.set_cons_zero, List.set_cons_succ, znl, zs4, zc1, true_and, and_self, Value.category, Option.toList, List.cons_append, List.nil_append, zvr]
    rw [if_neg (by omega)] at k
    exact k
def zpop : Nat → Nat → Nat
  | 0, _ => 0
  | k + 1, n => n % 2 + zpop k (n / 2)
def zus (x : Int32) (n : Int32) : Int32 := (x.toUInt32 >>> (n.toUInt32 &&& Int32.toUInt32 31)).toInt32
def zbc1 (x : Int32) : Int32 := x - (zus x (zj 1) &&& zj 1431655765)
def zbc2 (x : Int32) : Int32 := (x &&& zj 858993459) + (zus x (zj 2) &&& zj 858993459)
def zbc3 (x : Int32) : Int32 := (x + zus x (zj 4)) &&& zj 252645135
def zbc4 (x : Int32) : Int32 := x + zus x (zj 8)
def zbc5 (x : Int32) : Int32 := x + zus x (zj 16)
def zbc (x : Int32) : Int32 := zbc5 (zbc4 (zbc3 (zbc2 (zbc1 x)))) &&& zj 63
theorem zbc_64 : ∀ a, a < 64 → ∀ b, b < 64 → zbc (zj (64 * a + b : Nat)) = zj (zpop 12 (64 * a + b) : Nat) := by decide +kernel
theorem zbc_ok {n : Nat} (h : n < 4096) : zbc (zj n) = zj (zpop 12 n : Nat) := by
  have := zbc_64 (n / 64) (by omega) (n % 64) (by omega)
  rw [show 64 * (n / 64) + n % 64 = n by omega] at this
  exact this
theorem cc_bitCount {a : Nat} (h1 : a < 4096) (k : R (some (.int (zj (zpop 12 a : Nat)))) h) : zCC X M_J6_bitCount_0f7a4 [.int (zj a)] h R := by
  refine zCC_of (ls := [.int (zj a)]) pf_J6_bitCount_0f7a4 rfl (Nat.le_of_ble_eq_true rfl) ?_
  refine vb_J6_bitCount_0f7a4_0 _ _ _ ?_
  simp only [B_J6_bitCount_0f7a4_0, oPI, oPL, oILOAD, oLLOAD, oALOAD, oISTORE, oASTORE, oLSTORE, oIINC, oIADD, oISUB, oIMUL, oIAND, oIOR, oIXOR, oIDIV, oIREM, oISHL, oISHR, oIUSHR, oLADD, oLSUB, oLMUL, oLOR, oLDIV, oLREM, oLCMP, oLSHL, oINEG, oI2L, oL2I, oI2B, oI2C, oDUP, oPOP, oDUP2, oIFEQ, oICEQ, oIFNE, oICNE, oIFLT, oICLT, oIFGE, oICGE, oIFGT, oICGT, oIFLE, oICLE, oIFNULL, oIFNONNULL, oTSW, oLSW, oGETI, oGETL, oGETR, oPUTI, oPUTZ, oPUTL, oPUTR, oIALD, oBALD, oZALD, oLALD, oAALD, oALEN, oIAST, oBAST, oZAST, oLAST, oIRET, oZRET, oLRET, oVRET, oARET, oOBJ, oINI, oPS, oNEW, oNEWAI, oNEWAB, oNEWAZ, oNEWAL, oCOPY, oINV0, oINS0, oINV1, oINS1, oINV2, oINS2, oINV3, oINS3, oINV4, oINS4, oINV5, oINS5, oINV6, oINS6, List.getElem?_cons_zero, List.getElem?_cons_succ, List.set_cons_zero, List.set_cons_succ, znl, zs4, zc1, true_and, and_self, Value.category, Option.toList, List.cons_append, List.nil_append, zvr]
  show R (some (.int (zbc (zj a)))) h
  rw [zbc_ok h1]
  exact k
/-- a boolean answer -/
noncomputable def zb (P : Prop) : Int32 := zj (@ite _ P (Classical.propDecidable P) 1 0)
theorem zb_t {P : Prop} (h : P) : zb P = zj 1 := by unfold zb; rw [if_pos h]
theorem zb_f {P : Prop} (h : ¬ P) : zb P = zj 0 := by unfold zb; rw [if_neg h]
theorem zb_0 (P : Prop) : (zb P = 0) = ¬ P := by
  by_cases h : P
  · rw [zb_t h]; simp [h]; decide
  · rw [zb_f h]; simp [h]; decide
theorem zb_z (P : Prop) : (zb P = zj 0) = ¬ P := zb_0 P
theorem zb_01 (P : Prop) : zb P = 0 ∨ zb P = 1 := by
  by_cases h : P
  · rw [zb_t h]; exact Or.inr rfl
  · rw [zb_f h]; exact Or.inl rfl
end ZP
