/-! numbers as Int -/
theorem zj_of (x : Int32) : zj x.toInt = x := Int32.ofInt_toInt x
theorem zj_add (a b : Int) : zj a + zj b = zj (a + b) := (Int32.ofInt_add a b).symm
theorem zj_sub (a b : Int) : zj a - zj b = zj (a - b) := (Int32.ofInt_sub a b).symm
theorem zj_mul (a b : Int) : zj a * zj b = zj (a * b) := (Int32.ofInt_mul a b).symm
theorem zj_neg (a : Int) : - zj a = zj (- a) := (Int32.ofInt_neg a).symm
theorem zj_toInt {a : Int} (h1 : -2147483648 ≤ a) (h2 : a < 2147483648) : (zj a).toInt = a := Int32.toInt_ofInt_of_le (by omega) (by omega)
theorem zj_lt {a b : Int} (h1 : -2147483648 ≤ a) (h2 : a < 2147483648) (h3 : -2147483648 ≤ b) (h4 : b < 2147483648) : (zj a < zj b) = (a < b) := by
  rw [Int32.lt_iff_toInt_lt, zj_toInt h1 h2, zj_toInt h3 h4]
theorem zj_le {a b : Int} (h1 : -2147483648 ≤ a) (h2 : a < 2147483648) (h3 : -2147483648 ≤ b) (h4 : b < 2147483648) : (zj a ≤ zj b) = (a ≤ b) := by
  rw [Int32.le_iff_toInt_le, zj_toInt h1 h2, zj_toInt h3 h4]
theorem zj_eq {a b : Int} (h1 : -2147483648 ≤ a) (h2 : a < 2147483648) (h3 : -2147483648 ≤ b) (h4 : b < 2147483648) : (zj a = zj b) = (a = b) := by
  rw [← Int32.toInt_inj, zj_toInt h1 h2, zj_toInt h3 h4]
theorem zj_0 : (0 : Int32) = zj 0 := rfl
theorem zj_nat {a : Int} (h1 : -2147483648 ≤ a) (h2 : a < 2147483648) : (zj a).toNatClampNeg = a.toNat := by
  show (zj a).toInt.toNat = a.toNat
  rw [zj_toInt h1 h2]
theorem zj_in {a : Int} {n : Nat} (h1 : 0 ≤ a) (h2 : a < n) (h3 : n < 2147483648) : vp_in (zj a) n := by
  rw [vp_in_iff, zj_toInt (by omega) (by omega)]
  exact ⟨h1, h2⟩
theorem zj_div {a b : Int} (h1 : -2147483648 < a) (h2 : a < 2147483648) (h3 : -2147483648 < b) (h4 : b < 2147483648) : zj a / zj b = zj (a.tdiv b) := by
  apply Int32.toInt_inj.mp
  have hb : (a.tdiv b).natAbs ≤ a.natAbs := Int.natAbs_tdiv_le_natAbs a b
  rw [Int32.toInt_div, zj_toInt (by omega) h2, zj_toInt (by omega) h4, zj_toInt (by omega) (by omega)]
  exact Int.bmod_eq_of_le (by omega) (by omega)
theorem zj_rem {a b : Int} (h1 : -2147483648 ≤ a) (h2 : a < 2147483648) (h3 : 0 < b) (h4 : b < 2147483648) : zj a % zj b = zj (a.tmod b) := by
  apply Int32.toInt_inj.mp
  have hb := tmod_bounds (a := a) h3
  rw [Int32.toInt_mod, zj_toInt h1 h2, zj_toInt (by omega) h4, zj_toInt (by omega) (by omega)]
/-! the heap's algebra -/
theorem zsh_pi (h : zHp) (k j : Nat) (x : Int32) (a : Nat) : zsh (zpi h k j x) a = zsh h a := rfl
theorem zsh_pl (h : zHp) (k j : Nat) (x : Int64) (a : Nat) : zsh (zpl h k j x) a = zsh h a := rfl
theorem zsh_pr (h : zHp) (k j : Nat) (x : Option Nat) (a : Nat) : zsh (zpr h k j x) a = zsh h a := rfl
theorem zgr_pi (h : zHp) (k j : Nat) (x : Int32) (a b : Nat) : zgr (zpi h k j x) a b = zgr h a b := rfl
theorem zgr_pl (h : zHp) (k j : Nat) (x : Int64) (a b : Nat) : zgr (zpl h k j x) a b = zgr h a b := rfl
theorem zgl_pi (h : zHp) (k j : Nat) (x : Int32) (a b : Nat) : zgl (zpi h k j x) a b = zgl h a b := rfl
theorem zgl_pr (h : zHp) (k j : Nat) (x : Option Nat) (a b : Nat) : zgl (zpr h k j x) a b = zgl h a b := rfl
theorem zgi_pl (h : zHp) (k j : Nat) (x : Int64) (a b : Nat) : zgi (zpl h k j x) a b = zgi h a b := rfl
theorem zgi_pr (h : zHp) (k j : Nat) (x : Option Nat) (a b : Nat) : zgi (zpr h k j x) a b = zgi h a b := rfl
theorem zgi_pi (h : zHp) (k j : Nat) (x : Int32) (a b : Nat) : zgi (zpi h k j x) a b = if a = k ∧ b = j then x else zgi h a b := rfl
theorem zgl_pl (h : zHp) (k j : Nat) (x : Int64) (a b : Nat) : zgl (zpl h k j x) a b = if a = k ∧ b = j then x else zgl h a b := rfl
theorem zgr_pr (h : zHp) (k j : Nat) (x : Option Nat) (a b : Nat) : zgr (zpr h k j x) a b = if a = k ∧ b = j then x else zgr h a b := rfl
def gz (h : zHp) (k j : Nat) : Int := (zgi h k j).toInt
theorem zgi_gz (h : zHp) (k j : Nat) : zgi h k j = zj (gz h k j) := (zj_of _).symm
theorem gz_lo (h : zHp) (k j : Nat) : -2147483648 ≤ gz h k j := Int32.le_toInt _
theorem gz_hi (h : zHp) (k j : Nat) : gz h k j < 2147483648 := Int32.toInt_lt _
/-! floorMod -/
theorem cc_floorMod {X : Nat × (Nat → Int32)} {R : zRt} {h : zHp} {a b : Int} (h1 : -1000000 ≤ a) (h2 : a ≤ 1000000) (h3 : 0 < b) (h4 : b ≤ 1000) (k : R (some (.int (zj (a % b)))) h) : zCC X M_J9_floorMod_7cf53 [.int (zj a), .int (zj b)] h R := by
  refine zCC_of pf_J9_floorMod_7cf53 rfl (Nat.le_of_ble_eq_true rfl) ?_
  refine vb_J9_floorMod_7cf53_0 _ _ _ ?_
  simp only [B_J9_floorMod_7cf53_0, oPI, oPL, oILOAD, oLLOAD, oALOAD, oISTORE, oASTORE, oLSTORE, oIINC, oIADD, oISUB, oIMUL, oIAND, oIOR, oIXOR, oIDIV, oIREM, oISHL, oISHR, oIUSHR, oLADD, oLSUB, oLMUL, oLOR, oLDIV, oLREM, oLCMP, oLSHL, oINEG, oI2L, oL2I, oI2B, oI2C, oDUP, oPOP, oDUP2, oIFEQ, oICEQ, oIFNE, oICNE, oIFLT, oICLT, oIFGE, oICGE, oIFGT, oICGT, oIFLE, oICLE, oIFNULL, oIFNONNULL, oTSW, oLSW, oGETI, oGETL, oGETR, oPUTI, oPUTZ, oPUTL, oPUTR, oIALD, oBALD, oZALD, oLALD, oAALD, oALEN, oIAST, oBAST, oZAST, oLAST, oIRET, oZRET, oLRET, oVRET, oARET, oOBJ, oINI, oPS, oNEW, oNEWAI, oNEWAB, oNEWAZ, oNEWAL, oCOPY, oINV0, oINS0, oINV1, oINS1, oINV2, oINS2, oINV3, oINS3, oINV4, oINS4, oINV5, oINS5, oINV6, oINS6, List.getElem?_cons_zero, List.getElem?_cons_succ, List.set_cons_zero, List.set_cons_succ, znl, zs4, true_and, Option.toList, List.cons_append, List.nil_append, zvr]
  trace_state
  sorry
