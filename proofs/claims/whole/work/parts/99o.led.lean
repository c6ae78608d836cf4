/-- words on classes that a throw needs and that the tables alone decide -/
def zDl : List Cond := [.castable "java/util/NoSuchElementException" "java/util/NoSuchElementException", .declares ⟨"java/lang/RuntimeException", "<init>", "()V"⟩, .declares ⟨"java/lang/Exception", "<init>", "()V"⟩, .declares ⟨"java/lang/Throwable", "<init>", "()V"⟩]
def zDw (U : State) : Prop := ∀ w ∈ zDl, w.before #[] U = true
theorem zDl_t : ∀ w ∈ zDl, w.onTables = true := by decide
theorem zDw.moved {u U : State} (hvm : u.vm.Alike U.vm) (h : zDw u) : zDw U := fun w hw => by
  have h1 := h w hw
  have ht := zDl_t w hw
  have e : w.before #[] (u.setVm U.vm) = true := by
    simp only [zDl, List.mem_cons, List.not_mem_nil, or_false] at hw
    rcases hw with rfl | rfl | rfl | rfl
    · rw [Cond.castable_setVm hvm]; exact h1
    · rw [Cond.declares_setVm hvm]; exact h1
    · rw [Cond.declares_setVm hvm]; exact h1
    · rw [Cond.declares_setVm hvm]; exact h1
  exact va_tabs ht (rfl : (u.setVm U.vm).vm = U.vm) e
theorem zDw.use {s : State} {args : Array Value} (h : zDw s) : ∀ w ∈ zDl, w.before args s = true := fun w hw => va_any (zDl_t w hw) (h w hw)
/-- the exception table of the method that runs -/
def zXt (T : List ExceptionTableEntry) (args : Array Value) (below : List Frame) (s : State) : Prop := ∀ (m : MethodId) (meth : Method) (c : Code), s.frames = .invoking m args :: below → s.vm.method? m = some meth → meth.code = some c → c.exceptionTable.toList = T
def zXC (RX : zHp → Prop) (A : Nat → Prop) (D : va_G) (ad0 : Nat → Option Nat) : String → State → State → Prop := fun E st t =>
  (E = "java/util/NoSuchElementException" ∧ ∃ (h : zHp) (ad : Nat → Option Nat) (tys : List (ClassId × FieldType)) (ws : va_W), RX h ∧ zLe ad0 ad ∧ va_K D vwCl tys t ∧ va_P D vwCl ws t.heap ∧ va_D A ws ∧ zH ad tys h ws ∧ zF A ad0 ad ws) ∧ va_F A st t
def zQx (M : zM) (R : zRt) (RX : zHp → Prop) : zQt := fun below args s A D ad0 t => (zXt [] args below s ∧ zDw s) → vx_MQ below (zQ R A D ad0) (zXC RX A D ad0) args s M.2.2.2.2.cells M.2.2.2.2.slots A t
theorem zQx_of {X : Nat × (Nat → Int32)} {M : zM} {R : zRt} {RX : zHp → Prop} {k n pc : Nat} {P : zCf} (hh : ∀ ls st h, P ls st h → zV X M (zQm M R) k n pc ls st h) : ∀ ls st h, P ls st h → zV X M (zQx M R RX) k n pc ls st h := by
  intro ls st h hp p l e s m args below meth c A D ad0 ad tys ws H locs cls cst hB hls hst T hT Xs
  obtain ⟨t, a1, b1⟩ := vx_ret (XC := zXC RX A D ad0) (hh ls st h hp p l e s m args below meth c A D ad0 ad tys ws H locs cls cst hB hls hst) T hT Xs
  exact ⟨t, a1, fun _ => b1⟩
def zCX (X : Nat × (Nat → Int32)) (M : zM) (av : List Value) (h : zHp) (R : zRt) (RX : zHp → Prop) : Prop :=
  ∀ (l : Launch) (D : va_G) (ad0 : Nat → Option Nat) (tys : List (ClassId × FieldType)) (ws : va_W) (cav : List Value) (sz : Nat), l.stackTraces = false → zst ad0 av cav → zH ad0 tys h ws → zF (va_A ws sz) ad0 ad0 ws →
    vx_Met l M.1 (zwsM M) M.2.2.2.2 (va_Pc cav (fun U => (U.heap.size = sz ∧ va_P D vwCl ws U.heap ∧ va_K D vwCl tys U ∧ va_D (fun _ => True) ws ∧ zE X U (va_A ws sz) ad0) ∧ zDw U)) (zQ R (va_A ws sz) D ad0) (zXC RX (va_A ws sz) D ad0) M.2.2.2.2.cells M.2.2.2.2.slots (va_A ws sz)
theorem zCX_of {X : Nat × (Nat → Int32)} {M : zM} {av ls : List Value} {h : zHp} {R : zRt} {RX : zHp → Prop} (hy : plainName M.1.cls = true) (hls : zlo av ++ List.replicate (M.2.2.1 - (zlo av).length) (Value.retAddr 0) = ls) (hlen : (zlo av).length ≤ M.2.2.1) (hV : zV X M (zQx M R RX) 0 0 0 ls [] h) : zCX X M av h R RX := by
  intro l D ad0 tys ws cav sz hl hst hH hF
  refine vx_ofW (cc := M.2.1) (maxL := M.2.2.1) (ret := M.2.2.2.1) hy rfl ?_
  intro p e s m args below meth c s₁ B hml ht hv
  obtain ⟨rfl, ⟨hsz, hP, hK, hD, hE⟩, hDw⟩ := hv
  subst hsz
  obtain ⟨g1, g2⟩ := zlo_args av cav 0 hst
  rw [lg_entry_eq]
  have hle := lv_entry cav (n := M.2.2.1) (by omega)
  have W0 := hV p l e s m _ below meth c (va_A ws s.heap.size) D ad0 ad0 tys ws s.heap [] _ [] ⟨⟨B.exec, B.bytes, B.returns, hml, findClass_of_methodNamed B.named, fun w hw => atoms_spec (ws := zwsM M) B.pre w (List.mem_cons_of_mem _ hw), B.notSynchronized, fun q h => Or.inr h, (name_of_methodNamed B.named B.method).1, hl⟩, hE, zLe.rf, hK, hP, hD.self, va_S.rf, hH, hF⟩ ⟨by rw [← hls]; simp; omega, _, hle, fun i v hi => by
    rw [← hls] at hi
    by_cases hil : i < (zlo av).length
    · rw [List.getElem?_append_left hil] at hi
      have := g2 i v hi
      rwa [Nat.zero_add] at this
    · rw [List.getElem?_append_right (by omega)] at hi
      have := List.mem_of_getElem? hi
      exact Or.inl ⟨0, (List.mem_replicate.mp this).2⟩⟩ trivial
  intro T hT Xs
  obtain ⟨t, a1, b1⟩ := W0 T hT Xs
  refine ⟨t, a1, b1 ⟨fun m' meth' c' f1 f2 f3 => ?_, hDw⟩⟩
  have e1 : m' = m := by
    have := f1.symm.trans Xs.frames
    cases this
    rfl
  subst e1
  cases Option.some.inj (f2.symm.trans Xs.method)
  cases Option.some.inj (f3.symm.trans Xs.code)
  exact List.eq_nil_iff_forall_not_mem.mpr (fun x hx => ht x hx)
def M_X7_ledx : zM := (yX7_led, cX7_led, 4, some .int, { frames := 6, cells := 1, slots := 6, locals := 95 })
theorem zled_in : ∀ w ∈ (vx_at0 RX7 321 "java/util/NoSuchElementException" ["java/lang/RuntimeException", "java/lang/Exception"]).filter goodWord, w ∈ lw_tbl := by decide +kernel
theorem zled_no : ∀ w ∈ (vx_at0 RX7 321 "java/util/NoSuchElementException" ["java/lang/RuntimeException", "java/lang/Exception"]).filter (fun w => !goodWord w), w ∈ zDl := by decide +kernel
theorem zled_ot : ∀ w ∈ Cond.classLink RX7 319 "java/util/NoSuchElementException" :: Cond.initialized "java/util/NoSuchElementException" :: vx_at0 RX7 321 "java/util/NoSuchElementException" ["java/lang/RuntimeException", "java/lang/Exception"], vx_ot w = true := by decide +kernel
theorem zled_fit : ∀ n ∈ (["java/lang/RuntimeException", "java/lang/Exception"] : List String), Bundle.fit n = true := by decide +kernel
theorem dX7_led_0 : decode cX7_led 0 = .ok (.iconst 0, 1) := by decide +kernel
theorem dX7_led_1 : decode cX7_led 1 = .ok (.istore_n 2, 1) := by decide +kernel
theorem dX7_led_2 : decode cX7_led 2 = .ok (.iconst 0, 1) := by decide +kernel
theorem dX7_led_3 : decode cX7_led 3 = .ok (.istore_n 3, 1) := by decide +kernel
theorem dX7_led_4 : decode cX7_led 4 = .ok (.iload_n 3, 1) := by decide +kernel
theorem dX7_led_5 : decode cX7_led 5 = .ok (.aload_n 0, 1) := by decide +kernel
theorem dX7_led_6 : decode cX7_led 6 = .ok (.getfield 19, 3) := by decide +kernel
theorem dX7_led_9 : decode cX7_led 9 = .ok (.getfield 77, 3) := by decide +kernel
theorem dX7_led_12 : decode cX7_led 12 = .ok (.getfield 80, 3) := by decide +kernel
theorem dX7_led_15 : decode cX7_led 15 = .ok (.if_icmp .ge 32, 3) := by decide +kernel
theorem dX7_led_18 : decode cX7_led 18 = .ok (.aload_n 0, 1) := by decide +kernel
theorem dX7_led_19 : decode cX7_led 19 = .ok (.getfield 19, 3) := by decide +kernel
theorem dX7_led_22 : decode cX7_led 22 = .ok (.iload_n 3, 1) := by decide +kernel
theorem dX7_led_23 : decode cX7_led 23 = .ok (.iconst 0, 1) := by decide +kernel
theorem dX7_led_24 : decode cX7_led 24 = .ok (.iconst 0, 1) := by decide +kernel
theorem dX7_led_25 : decode cX7_led 25 = .ok (.invokevirtual 111, 3) := by decide +kernel
theorem dX7_led_28 : decode cX7_led 28 = .ok (.ifCond .eq 13, 3) := by decide +kernel
theorem dX7_led_31 : decode cX7_led 31 = .ok (.iload_n 2, 1) := by decide +kernel
theorem dX7_led_32 : decode cX7_led 32 = .ok (.iload_n 1, 1) := by decide +kernel
theorem dX7_led_33 : decode cX7_led 33 = .ok (.if_icmp .ne 5, 3) := by decide +kernel
theorem dX7_led_36 : decode cX7_led 36 = .ok (.iload_n 3, 1) := by decide +kernel
theorem dX7_led_37 : decode cX7_led 37 = .ok (.ireturn, 1) := by decide +kernel
theorem dX7_led_38 : decode cX7_led 38 = .ok (.iinc 2 1, 3) := by decide +kernel
theorem dX7_led_41 : decode cX7_led 41 = .ok (.iinc 3 1, 3) := by decide +kernel
theorem dX7_led_44 : decode cX7_led 44 = .ok (.goto (-40), 3) := by decide +kernel
theorem dX7_led_47 : decode cX7_led 47 = .ok (.new 319, 3) := by decide +kernel
theorem dX7_led_50 : decode cX7_led 50 = .ok (.dup, 1) := by decide +kernel
theorem dX7_led_51 : decode cX7_led 51 = .ok (.invokespecial 321, 3) := by decide +kernel
theorem dX7_led_54 : decode cX7_led 54 = .ok (.athrow, 1) := by decide +kernel
def oTHR (RX : zHp → Prop) : zCf := fun _ st h => match st with
  | [] => RX h
  | _ => False
theorem sd_thr {X : Nat × (Nat → Int32)} {R : zRt} {RX : zHp → Prop} : ∀ ls st h, oTHR RX ls st h → zV X M_X7_ledx (zQx M_X7_ledx R RX) 0 0 47 ls st h := by
  intro ls st h hk p l e s m args below meth c A D ad0 ad tys ws H locs cls cst hB hls hst
  unfold oTHR at hk
  split at hk
  rotate_left
  · exact hk.elim
  cases hst.nil
  obtain ⟨hC, hE, hL, hKK, hP, hD, hS, hH, hF⟩ := id hB
  obtain ⟨hx, hb, -, hml, hown, hts, hlk, hA, -, hl⟩ := id hC
  obtain ⟨-, -, ⟨-, -, hU, hN⟩, -⟩ := id hE
  obtain ⟨-, lv, hlv, -⟩ := id hls
  intro T hT Xs
  by_cases hz : zXt [] args below s ∧ zDw s
  rotate_left
  · exact ⟨_, Steps.refl _, fun z => absurd z hz⟩
  have ht := hz.1 m meth c Xs.frames Xs.method Xs.code
  obtain ⟨t, a1, b1⟩ := vx_throw0 (cc := cX7_led) (pc := 47) (own := RX7) (cls := "java/util/NoSuchElementException") (names := ["java/lang/RuntimeException", "java/lang/Exception"]) (ik := 319) (ic := 321) (A := A) (Qc := zQ R A D ad0) (XC := zXC RX A D ad0) (mc := 1) (ms := 6) (free := A) (rest := []) hx hb hl hown (by decide +kernel) zled_fit (hts _ (zmt (zt5 (i := 27) rfl) rfl)) (hts _ (zmt (zt1 (i := 21) rfl) rfl)) (vx_hat (fun w hw => hts w (List.mem_filter.mpr ⟨zled_in w hw, (List.mem_filter.mp hw).2⟩)) zled_no hz.2.use) zled_ot hU hN hS (hlv.1.trans hml.symm) dX7_led_47 dX7_led_50 dX7_led_51 dX7_led_54 (fun x hx => by rw [ht] at hx; cases hx) (by decide) (by decide) (by decide) (by decide) hlk (fun t hal hsz hkp => ⟨⟨rfl, h, ad, tys, ws, hk, hL, va_K.moved hal hKK, hP.kept (fun k x hx => hkp x.1 ((hP k x hx).lt)), hD, hH, hF⟩, Nat.le_trans hS.1 hsz, fun q h1 h2 => (hkp q (Nat.lt_of_lt_of_le h1 hS.1)).trans (hS.2.1 q h1 h2)⟩) hS.2.2 (by decide) (by decide) T hT Xs
  exact ⟨t, a1, fun _ => b1⟩
def B_X7_ledx_0 (X : Nat × (Nat → Int32)) (J : Nat → zCf) (R : zRt) : zCf := oPI (zj (0)) (oISTORE 1 2 (oPI (zj (0)) (oISTORE 2 3 (J 4))))
set_option maxRecDepth 100000 in
theorem vb_X7_ledx_0 {X : Nat × (Nat → Int32)} {R : zRt} {RX : zHp → Prop} : ∀ ls st h, B_X7_ledx_0 X (zV X M_X7_ledx (zQx M_X7_ledx R RX) 0 0) R ls st h → zV X M_X7_ledx (zQx M_X7_ledx R RX) 0 0 0 ls st h := sd_iconst dX7_led_0 rfl (sd_istore_n dX7_led_1 rfl (Nat.le_of_ble_eq_true rfl) (Or.inl rfl) (sd_iconst dX7_led_2 rfl (sd_istore_n dX7_led_3 rfl (Nat.le_of_ble_eq_true rfl) (Or.inl rfl) (fun _ _ _ h => h))))
def B_X7_ledx_4 (X : Nat × (Nat → Int32)) (J : Nat → zCf) (R : zRt) : zCf := oILOAD 3 (oALOAD 0 (oGETR 7 1 (oGETR 4 0 (oGETI 1 1 (oICGE (J 47) (oALOAD 0 (oGETR 7 1 (oILOAD 3 (oPI (zj (0)) (oPI (zj (0)) (oINV3 X M_X4_isTop 4 (oIFEQ (J 41) (oILOAD 2 (oILOAD 1 (oICNE (J 38) (oILOAD 3 (oIRET R)))))))))))))))))
set_option maxRecDepth 100000 in
theorem vb_X7_ledx_4 {X : Nat × (Nat → Int32)} {R : zRt} {RX : zHp → Prop} : ∀ ls st h, B_X7_ledx_4 X (zV X M_X7_ledx (zQx M_X7_ledx R RX) 0 0) R ls st h → zV X M_X7_ledx (zQx M_X7_ledx R RX) 0 0 4 ls st h := sd_iload_n dX7_led_4 rfl (sd_aload_n dX7_led_5 rfl (sd_getr dX7_led_6 zCl7 (Nat.le_of_ble_eq_true rfl) lk_RX7_19 (Or.inl ⟨_, rfl⟩) (sd_getr dX7_led_9 zCl4 (Nat.le_of_ble_eq_true rfl) lk_RX7_77 (Or.inl ⟨_, rfl⟩) (sd_geti dX7_led_12 zCl1 (Nat.le_of_ble_eq_true rfl) lk_RX7_80 (Or.inl rfl) (sd_icge dX7_led_15 rfl (fun _ _ _ h => h) (sd_aload_n dX7_led_18 rfl (sd_getr dX7_led_19 zCl7 (Nat.le_of_ble_eq_true rfl) lk_RX7_19 (Or.inl ⟨_, rfl⟩) (sd_iload_n dX7_led_22 rfl (sd_iconst dX7_led_23 rfl (sd_iconst dX7_led_24 rfl (sd_inv3 dX7_led_25 rfl mv_X4_isTop na_X4_isTop ml_RX7_111 ⟨⟨Nat.le_of_ble_eq_true rfl, Nat.le_of_ble_eq_true rfl⟩, ⟨Nat.le_of_ble_eq_true rfl, Nat.le_of_ble_eq_true rfl⟩⟩ (sd_ifeq dX7_led_28 rfl (fun _ _ _ h => h) (sd_iload_n dX7_led_31 rfl (sd_iload_n dX7_led_32 rfl (sd_icne dX7_led_33 rfl (fun _ _ _ h => h) (sd_iload_n dX7_led_36 rfl (zQx_of (sd_iret dX7_led_37 rfl (Nat.le_of_ble_eq_true rfl) (Nat.le_of_ble_eq_true rfl)))))))))))))))))))
def B_X7_ledx_38 (X : Nat × (Nat → Int32)) (J : Nat → zCf) (R : zRt) : zCf := oIINC 1 2 (zj (1)) (J 41)
set_option maxRecDepth 100000 in
theorem vb_X7_ledx_38 {X : Nat × (Nat → Int32)} {R : zRt} {RX : zHp → Prop} : ∀ ls st h, B_X7_ledx_38 X (zV X M_X7_ledx (zQx M_X7_ledx R RX) 0 0) R ls st h → zV X M_X7_ledx (zQx M_X7_ledx R RX) 0 0 38 ls st h := sd_iinc dX7_led_38 rfl (Nat.le_of_ble_eq_true rfl) (Or.inl rfl) (fun _ _ _ h => h)
def B_X7_ledx_41 (X : Nat × (Nat → Int32)) (J : Nat → zCf) (R : zRt) : zCf := oIINC 2 3 (zj (1)) (J 4)
set_option maxRecDepth 100000 in
theorem vb_X7_ledx_41 {X : Nat × (Nat → Int32)} {R : zRt} {RX : zHp → Prop} : ∀ ls st h, B_X7_ledx_41 X (zV X M_X7_ledx (zQx M_X7_ledx R RX) 0 0) R ls st h → zV X M_X7_ledx (zQx M_X7_ledx R RX) 0 0 41 ls st h := sd_iinc dX7_led_41 rfl (Nat.le_of_ble_eq_true rfl) (Or.inl rfl) (sd_goto dX7_led_44 rfl (fun _ _ _ h => h))
section ZLE
variable {X : Nat × (Nat → Int32)} {R : zRt} {RX : zHp → Prop} {h h' : zHp} {d p : Nat}
noncomputable def zldf (P : Nat → Prop) (a : Int) : Nat → Nat → Nat → Option Nat
  | 0, _, _ => none
  | r + 1, i, c => @ite _ (P i) (Classical.propDecidable _) (if (c : Int) = a then some i else zldf P a r (i + 1) (c + 1)) (zldf P a r (i + 1) c)
theorem zldf_t {P : Nat → Prop} {a : Int} {r i c : Nat} (hp : P i) (hc : (c : Int) = a) : zldf P a (r + 1) i c = some i := by
  show @ite _ (P i) (Classical.propDecidable _) (if (c : Int) = a then some i else zldf P a r (i + 1) (c + 1)) (zldf P a r (i + 1) c) = _
  rw [if_pos hp, if_pos hc]
theorem zldf_n {P : Nat → Prop} {a : Int} {r i c : Nat} (hp : P i) (hc : ¬ (c : Int) = a) : zldf P a (r + 1) i c = zldf P a r (i + 1) (c + 1) := by
  show @ite _ (P i) (Classical.propDecidable _) (if (c : Int) = a then some i else zldf P a r (i + 1) (c + 1)) (zldf P a r (i + 1) c) = _
  rw [if_pos hp, if_neg hc]
theorem zldf_f {P : Nat → Prop} {a : Int} {r i c : Nat} (hp : ¬ P i) : zldf P a (r + 1) i c = zldf P a r (i + 1) c := by
  show @ite _ (P i) (Classical.propDecidable _) (if (c : Int) = a then some i else zldf P a r (i + 1) (c + 1)) (zldf P a r (i + 1) c) = _
  rw [if_neg hp]
theorem zldf_b {P : Nat → Prop} {a : Int} : ∀ {r i c b : Nat}, zldf P a r i c = some b → b < i + r
  | 0, i, c, b, h => by cases h
  | r + 1, i, c, b, h => by
    by_cases hp : P i
    · by_cases hc : (c : Int) = a
      · rw [zldf_t hp hc] at h
        cases h
        omega
      · rw [zldf_n hp hc] at h
        have := zldf_b h
        omega
    · rw [zldf_f hp] at h
      have := zldf_b h
      omega
theorem cx_led {a : Int} (w : zCW h d p) (v : zPV h p) (u : zNV h) (ha1 : -2147483648 ≤ a) (ha2 : a < 2147483648) (k : ∀ b, zldf (fun b => zis h p 0 0 b) a (zn h p) 0 0 = some b → R (some (.int (zj (b : Nat)))) h) (kx : zldf (fun b => zis h p 0 0 b) a (zn h p) 0 0 = none → RX h) : zCX X M_X7_ledx [.ref 16, .int (zj a)] h R RX := by
  have hn : gz h p 1 = zn h p := by have := v.1; unfold zn; omega
  have hn6 : zn h p ≤ 6 := by have := v.1; omega
  have wp := zc_pp w
  refine zCX_of (ls := [.ref 16, .int (zj a), .retAddr 0, .retAddr 0]) (by decide) rfl (Nat.le_of_ble_eq_true rfl) ?_
  refine vb_X7_ledx_0 _ _ _ ?_
  simp only [B_X7_ledx_0, oPI, oPL, oILOAD, oLLOAD, oALOAD, oISTORE, oASTORE, oLSTORE, oIINC, oIADD, oISUB, oIMUL, oIAND, oIOR, oIXOR, oIDIV, oIREM, oISHL, oISHR, oIUSHR, oLADD, oLSUB, oLMUL, oLOR, oLDIV, oLREM, oLCMP, oLSHL, oINEG, oI2L, oL2I, oI2B, oI2C, oDUP, oPOP, oDUP2, oIFEQ, oICEQ, oIFNE, oICNE, oIFLT, oICLT, oIFGE, oICGE, oIFGT, oICGT, oIFLE, oICLE, oIFNULL, oIFNONNULL, oTSW, oLSW, oGETI, oGETL, oGETR, oPUTI, oPUTZ, oPUTL, oPUTR, oIALD, oBALD, oZALD, oLALD, oAALD, oALEN, oIAST, oBAST, oZAST, oLAST, oIRET, oZRET, oLRET, oVRET, oARET, oOBJ, oINI, oPS, oNEW, oNEWAI, oNEWAB, oNEWAZ, oNEWAL, oCOPY, oINV0, oINS0, oINV1, oINS1, oINV2, oINS2, oINV3, oINS3, oINV4, oINS4, oINV5, oINS5, oINV6, oINS6, List.getElem?_cons_zero, List.getElem?_cons_succ, List.set_cons_zero, List.set_cons_succ, znl, zs4, zc1, true_and, and_self, Value.category, Option.toList, List.cons_append, List.nil_append, zvr]
  refine zdown (m := zn h p) (P := fun i => ∀ c : Nat, c ≤ i → (∀ b, zldf (fun b => zis h p 0 0 b) a (zn h p - i) i c = some b → R (some (.int (zj (b : Nat)))) h) → (zldf (fun b => zis h p 0 0 b) a (zn h p - i) i c = none → RX h) → zV X M_X7_ledx (zQx M_X7_ledx R RX) 0 0 4 [.ref 16, .int (zj a), .int (zj c), .int (zj i)] [] h) (fun i hi ih c hc k kx => ?_) 0 (by omega) 0 (by omega) k kx
  have fin : i < zn h p → ∀ c' : Nat, c' ≤ i + 1 → (∀ b, zldf (fun b => zis h p 0 0 b) a (zn h p - (i + 1)) (i + 1) c' = some b → R (some (.int (zj (b : Nat)))) h) → (zldf (fun b => zis h p 0 0 b) a (zn h p - (i + 1)) (i + 1) c' = none → RX h) → zV X M_X7_ledx (zQx M_X7_ledx R RX) 0 0 41 [.ref 16, .int (zj a), .int (zj c'), .int (zj i)] [] h := fun h1 c' h2 k1 k2 => by
    have := ih h1 c' h2 k1 k2
    refine vb_X7_ledx_41 _ _ _ ?_
    simp only [B_X7_ledx_41, oPI, oPL, oILOAD, oLLOAD, oALOAD, oISTORE, oASTORE, oLSTORE, oIINC, oIADD, oISUB, oIMUL, oIAND, oIOR, oIXOR, oIDIV, oIREM, oISHL, oISHR, oIUSHR, oLADD, oLSUB, oLMUL, oLOR, oLDIV, oLREM, oLCMP, oLSHL, oINEG, oI2L, oL2I, oI2B, oI2C, oDUP, oPOP, oDUP2, oIFEQ, oICEQ, oIFNE, oICNE, oIFLT, oICLT, oIFGE, oICGE, oIFGT, oICGT, oIFLE, oICLE, oIFNULL, oIFNONNULL, oTSW, oLSW, oGETI, oGETL, oGETR, oPUTI, oPUTZ, oPUTL, oPUTR, oIALD, oBALD, oZALD, oLALD, oAALD, oALEN, oIAST, oBAST, oZAST, oLAST, oIRET, oZRET, oLRET, oVRET, oARET, oOBJ, oINI, oPS, oNEW, oNEWAI, oNEWAB, oNEWAZ, oNEWAL, oCOPY, oINV0, oINS0, oINV1, oINS1, oINV2, oINS2, oINV3, oINS3, oINV4, oINS4, oINV5, oINS5, oINV6, oINS6, List.getElem?_cons_zero, List.getElem?_cons_succ, List.set_cons_zero, List.set_cons_succ, znl, zs4, zc1, true_and, and_self, Value.category, Option.toList, List.cons_append, List.nil_append, zvr]
    rw [zj_add]
    exact this
  refine vb_X7_ledx_4 _ _ _ ?_
  simp only [B_X7_ledx_4, oPI, oPL, oILOAD, oLLOAD, oALOAD, oISTORE, oASTORE, oLSTORE, oIINC, oIADD, oISUB, oIMUL, oIAND, oIOR, oIXOR, oIDIV, oIREM, oISHL, oISHR, oIUSHR, oLADD, oLSUB, oLMUL, oLOR, oLDIV, oLREM, oLCMP, oLSHL, oINEG, oI2L, oL2I, oI2B, oI2C, oDUP, oPOP, oDUP2, oIFEQ, oICEQ, oIFNE, oICNE, oIFLT, oICLT, oIFGE, oICGE, oIFGT, oICGT, oIFLE, oICLE, oIFNULL, oIFNONNULL, oTSW, oLSW, oGETI, oGETL, oGETR, oPUTI, oPUTZ, oPUTL, oPUTR, oIALD, oBALD, oZALD, oLALD, oAALD, oALEN, oIAST, oBAST, oZAST, oLAST, oIRET, oZRET, oLRET, oVRET, oARET, oOBJ, oINI, oPS, oNEW, oNEWAI, oNEWAB, oNEWAZ, oNEWAL, oCOPY, oINV0, oINS0, oINV1, oINS1, oINV2, oINS2, oINV3, oINS3, oINV4, oINS4, oINV5, oINS5, oINV6, oINS6, List.getElem?_cons_zero, List.getElem?_cons_succ, List.set_cons_zero, List.set_cons_succ, znl, zs4, zc1, true_and, and_self, Value.category, Option.toList, List.cons_append, List.nil_append, zvr, zc_s16 w, zc_s17 w, zc_s18 w, zc_s19 w, zc_s32 w, zc_s45 w, zc_s46 w, zc_s47 w, zc_s64 w, zc_s68 w, zc_s69 w, zc_s76 w, zc_s77 w, zc_r16_0 w, zc_r16_1 w, zc_r16_2 w, zc_r16_3 w, zc_r16_4 w, zc_r17_0 w, zc_r17_1 w, zc_r18_0 w, zc_r32_0 w, zc_r32_1 w, zc_r46_0 w, zc_r46_1 w, zc_r68_0 w, zc_r68_1 w, zp_s wp, zp_s1 wp, zp_r2 wp, zp_s2 wp, zp_r3 wp, zp_s3 wp, zp_r4 wp, zp_s4 wp, zp_r5 wp, zp_s5 wp, zp_r6 wp, zp_s6 wp, zp_r7 wp, zp_s7 wp, zp_r9 wp, zp_s8 wp, zp_r10 wp, zp_s9 wp, zp_r12 wp, zp_s10 wp, zp_r14 wp, zp_s11 wp, zp_r15 wp]
  rw [zgi_gz, hn]
  by_cases ci : i = zn h p
  · subst ci
    try simp (disch := omega) only [zgi_gz, zj_cn, zj_lt, zj_le, zj_eq, zj_add, zj_sub, zj_mul, zj_neg, zj_lt0, zj_le0, zj_0le, zj_0lt, zj_eq0]
    refine ⟨fun _ => ?_, fun z => (by first | omega | exact absurd rfl z | exact absurd trivial z | exact absurd z (by decide))⟩
    refine sd_thr _ _ _ ?_
    exact kx (by rw [show zn h p - zn h p = 0 by omega]; rfl)
  try simp (disch := omega) only [zgi_gz, zj_cn, zj_lt, zj_le, zj_eq, zj_add, zj_sub, zj_mul, zj_neg, zj_lt0, zj_le0, zj_0le, zj_0lt, zj_eq0]
  refine ⟨fun z => by omega, fun _ => ?_⟩
  refine cc_isTop' w v u (by omega) (by omega) (by omega) (by omega) (by omega) ?_
  simp only [oPI, oPL, oILOAD, oLLOAD, oALOAD, oISTORE, oASTORE, oLSTORE, oIINC, oIADD, oISUB, oIMUL, oIAND, oIOR, oIXOR, oIDIV, oIREM, oISHL, oISHR, oIUSHR, oLADD, oLSUB, oLMUL, oLOR, oLDIV, oLREM, oLCMP, oLSHL, oINEG, oI2L, oL2I, oI2B, oI2C, oDUP, oPOP, oDUP2, oIFEQ, oICEQ, oIFNE, oICNE, oIFLT, oICLT, oIFGE, oICGE, oIFGT, oICGT, oIFLE, oICLE, oIFNULL, oIFNONNULL, oTSW, oLSW, oGETI, oGETL, oGETR, oPUTI, oPUTZ, oPUTL, oPUTR, oIALD, oBALD, oZALD, oLALD, oAALD, oALEN, oIAST, oBAST, oZAST, oLAST, oIRET, oZRET, oLRET, oVRET, oARET, oOBJ, oINI, oPS, oNEW, oNEWAI, oNEWAB, oNEWAZ, oNEWAL, oCOPY, oINV0, oINS0, oINV1, oINS1, oINV2, oINS2, oINV3, oINS3, oINV4, oINS4, oINV5, oINS5, oINV6, oINS6, List.getElem?_cons_zero, List.getElem?_cons_succ, List.set_cons_zero, List.set_cons_succ, znl, zs4, zc1, true_and, and_self, Value.category, Option.toList, List.cons_append, List.nil_append, zvr]
  have er : zn h p - i = zn h p - (i + 1) + 1 := by omega
  rw [er] at k kx
  by_cases ct : zis h p 0 0 i
  · simp only [zb_0, zb_z, ct, not_true_eq_false]
    refine ⟨fun z => z.elim, fun _ => ?_⟩
    refine ⟨fun z => ?_, fun z => ?_⟩
    · rw [zldf_n ct z] at k kx
      refine vb_X7_ledx_38 _ _ _ ?_
      simp only [B_X7_ledx_38, oPI, oPL, oILOAD, oLLOAD, oALOAD, oISTORE, oASTORE, oLSTORE, oIINC, oIADD, oISUB, oIMUL, oIAND, oIOR, oIXOR, oIDIV, oIREM, oISHL, oISHR, oIUSHR, oLADD, oLSUB, oLMUL, oLOR, oLDIV, oLREM, oLCMP, oLSHL, oINEG, oI2L, oL2I, oI2B, oI2C, oDUP, oPOP, oDUP2, oIFEQ, oICEQ, oIFNE, oICNE, oIFLT, oICLT, oIFGE, oICGE, oIFGT, oICGT, oIFLE, oICLE, oIFNULL, oIFNONNULL, oTSW, oLSW, oGETI, oGETL, oGETR, oPUTI, oPUTZ, oPUTL, oPUTR, oIALD, oBALD, oZALD, oLALD, oAALD, oALEN, oIAST, oBAST, oZAST, oLAST, oIRET, oZRET, oLRET, oVRET, oARET, oOBJ, oINI, oPS, oNEW, oNEWAI, oNEWAB, oNEWAZ, oNEWAL, oCOPY, oINV0, oINS0, oINV1, oINS1, oINV2, oINS2, oINV3, oINS3, oINV4, oINS4, oINV5, oINS5, oINV6, oINS6, List.getElem?_cons_zero, List.getElem?_cons_succ, List.set_cons_zero, List.set_cons_succ, znl, zs4, zc1, true_and, and_self, Value.category, Option.toList, List.cons_append, List.nil_append, zvr]
      rw [zj_add]
      exact fin (by omega) (c + 1) (by omega) k kx
    · exact k i (zldf_t ct z)
  · simp only [zb_0, zb_z, ct, not_false_eq_true]
    refine ⟨fun _ => ?_, fun z => absurd trivial z⟩
    rw [zldf_f ct] at k kx
    exact fin (by omega) c (by omega) k kx
theorem cm_led {a : Int} (o : zMu h p) (v : zPV h p) (ha1 : -2147483648 ≤ a) (ha2 : a < 2147483648) (k : ∀ b, zldf (fun b => zis h p 0 0 b) a (zn h p) 0 0 = some b → R (some (.int (zj (b : Nat)))) (zpi h 78 0 (zj 0))) (kx : zldf (fun b => zis h p 0 0 b) a (zn h p) 0 0 = none → R (some (.int (zj 0))) (zpi (zpi h 78 0 (zj 0)) 78 0 (zj 1))) : zCC X M_X9_led [.ref 78, .int (zj a)] h R := by
  obtain ⟨h1, hh1⟩ : ∃ h1, h1 = zpi h 78 0 (zj 0) := ⟨_, rfl⟩
  have mw : zMW h := by
    rcases o with o | o
    · exact o.1
    · exact o.1.mw
  have mw1 : zMW h1 := by rw [hh1]; exact mw
  refine zCC_of (ls := [.ref 78, .int (zj a), .retAddr 0, .retAddr 0]) pf_X9_led rfl (Nat.le_of_ble_eq_true rfl) ?_
  refine vb_X9_led_0 _ _ _ ?_
  simp only [B_X9_led_0, oPI, oPL, oILOAD, oLLOAD, oALOAD, oISTORE, oASTORE, oLSTORE, oIINC, oIADD, oISUB, oIMUL, oIAND, oIOR, oIXOR, oIDIV, oIREM, oISHL, oISHR, oIUSHR, oLADD, oLSUB, oLMUL, oLOR, oLDIV, oLREM, oLCMP, oLSHL, oINEG, oI2L, oL2I, oI2B, oI2C, oDUP, oPOP, oDUP2, oIFEQ, oICEQ, oIFNE, oICNE, oIFLT, oICLT, oIFGE, oICGE, oIFGT, oICGT, oIFLE, oICLE, oIFNULL, oIFNONNULL, oTSW, oLSW, oGETI, oGETL, oGETR, oPUTI, oPUTZ, oPUTL, oPUTR, oIALD, oBALD, oZALD, oLALD, oAALD, oALEN, oIAST, oBAST, oZAST, oLAST, oIRET, oZRET, oLRET, oVRET, oARET, oOBJ, oINI, oPS, oNEW, oNEWAI, oNEWAB, oNEWAZ, oNEWAL, oCOPY, oINV0, oINS0, oINV1, oINS1, oINV2, oINS2, oINV3, oINS3, oINV4, oINS4, oINV5, oINS5, oINV6, oINS6, List.getElem?_cons_zero, List.getElem?_cons_succ, List.set_cons_zero, List.set_cons_succ, znl, zs4, zc1, true_and, and_self, Value.category, Option.toList, List.cons_append, List.nil_append, zvr, mw_s mw, mw_s79 mw, mw_s80 mw, mw_s81 mw, mw_s82 mw, mw_s83 mw, mw_s84 mw, mw_s85 mw, mw_r5 mw, mw_r15 mw, mw_r16 mw, mw_r17 mw, mw_r18 mw, mw_r21 mw, mw_r22 mw]
  rw [← hh1]
  rw [← hh1] at k kx
  have out : ∀ c2 c3 : Int32, zldf (fun b => zis h p 0 0 b) a (zn h p) 0 0 = none → zV X M_X9_led (zQm M_X9_led R) 0 0 66 [.ref 78, .int (zj a), .int c2, .int c3] [] h1 := fun c2 c3 hz => by
    refine vb_X9_led_66 _ _ _ ?_
    simp only [B_X9_led_66, oPI, oPL, oILOAD, oLLOAD, oALOAD, oISTORE, oASTORE, oLSTORE, oIINC, oIADD, oISUB, oIMUL, oIAND, oIOR, oIXOR, oIDIV, oIREM, oISHL, oISHR, oIUSHR, oLADD, oLSUB, oLMUL, oLOR, oLDIV, oLREM, oLCMP, oLSHL, oINEG, oI2L, oL2I, oI2B, oI2C, oDUP, oPOP, oDUP2, oIFEQ, oICEQ, oIFNE, oICNE, oIFLT, oICLT, oIFGE, oICGE, oIFGT, oICGT, oIFLE, oICLE, oIFNULL, oIFNONNULL, oTSW, oLSW, oGETI, oGETL, oGETR, oPUTI, oPUTZ, oPUTL, oPUTR, oIALD, oBALD, oZALD, oLALD, oAALD, oALEN, oIAST, oBAST, oZAST, oLAST, oIRET, oZRET, oLRET, oVRET, oARET, oOBJ, oINI, oPS, oNEW, oNEWAI, oNEWAB, oNEWAZ, oNEWAL, oCOPY, oINV0, oINS0, oINV1, oINS1, oINV2, oINS2, oINV3, oINS3, oINV4, oINS4, oINV5, oINS5, oINV6, oINS6, List.getElem?_cons_zero, List.getElem?_cons_succ, List.set_cons_zero, List.set_cons_succ, znl, zs4, zc1, true_and, and_self, Value.category, Option.toList, List.cons_append, List.nil_append, zvr, mw_s mw1, mw_s79 mw1, mw_s80 mw1, mw_s81 mw1, mw_s82 mw1, mw_s83 mw1, mw_s84 mw1, mw_s85 mw1, mw_r5 mw1, mw_r15 mw1, mw_r16 mw1, mw_r17 mw1, mw_r18 mw1, mw_r21 mw1, mw_r22 mw1]
    exact kx hz
  rcases o with ⟨-, hz, h0, -, -⟩ | ⟨o, h0⟩
  · have r3 : zgr h1 78 3 = none := by rw [hh1]; exact hz
    refine vb_X9_led_9 _ _ _ ?_
    simp only [B_X9_led_9, oPI, oPL, oILOAD, oLLOAD, oALOAD, oISTORE, oASTORE, oLSTORE, oIINC, oIADD, oISUB, oIMUL, oIAND, oIOR, oIXOR, oIDIV, oIREM, oISHL, oISHR, oIUSHR, oLADD, oLSUB, oLMUL, oLOR, oLDIV, oLREM, oLCMP, oLSHL, oINEG, oI2L, oL2I, oI2B, oI2C, oDUP, oPOP, oDUP2, oIFEQ, oICEQ, oIFNE, oICNE, oIFLT, oICLT, oIFGE, oICGE, oIFGT, oICGT, oIFLE, oICLE, oIFNULL, oIFNONNULL, oTSW, oLSW, oGETI, oGETL, oGETR, oPUTI, oPUTZ, oPUTL, oPUTR, oIALD, oBALD, oZALD, oLALD, oAALD, oALEN, oIAST, oBAST, oZAST, oLAST, oIRET, oZRET, oLRET, oVRET, oARET, oOBJ, oINI, oPS, oNEW, oNEWAI, oNEWAB, oNEWAZ, oNEWAL, oCOPY, oINV0, oINS0, oINV1, oINS1, oINV2, oINS2, oINV3, oINS3, oINV4, oINS4, oINV5, oINS5, oINV6, oINS6, List.getElem?_cons_zero, List.getElem?_cons_succ, List.set_cons_zero, List.set_cons_succ, znl, zs4, zc1, true_and, and_self, Value.category, Option.toList, List.cons_append, List.nil_append, zvr, mw_s mw1, mw_s79 mw1, mw_s80 mw1, mw_s81 mw1, mw_s82 mw1, mw_s83 mw1, mw_s84 mw1, mw_s85 mw1, mw_r5 mw1, mw_r15 mw1, mw_r16 mw1, mw_r17 mw1, mw_r18 mw1, mw_r21 mw1, mw_r22 mw1, r3]
    refine out _ _ ?_
    have : zn h p = 0 := by unfold zn; omega
    rw [this]; rfl
  have hn : gz h p 1 = zn h p := by have := v.1; unfold zn; omega
  have hn6 : zn h p ≤ 6 := by have := v.1; omega
  have o1 : zMo h1 p := by rw [hh1]; exact zMo_mv o rfl rfl (fun x y hx => zpi_o (by omega))
  have ta1 := o1.ta
  have L1 : zLq h h1 := ⟨by rw [hh1]; rfl, by rw [hh1]; rfl, fun x y hx => by rw [hh1, zpi_o (by omega)]⟩
  have en : zn h1 p = zn h p := lq_n L1 o.pp
  have eis : zis h1 p = zis h p := lq_is L1 o.pp
  have g1 : zgi h1 87 1 = zj (zn h p : Nat) := by rw [zgi_gz, o1.tr.1, L1.gz (x := p) (by have := o.pp; omega), hn]
  refine zdown (m := zn h p) (P := fun i => ∀ c : Nat, c ≤ i → (zldf (fun b => zis h p 0 0 b) a (zn h p) 0 0 = zldf (fun b => zis h p 0 0 b) a (zn h p - i) i c) → zV X M_X9_led (zQm M_X9_led R) 0 0 9 [.ref 78, .int (zj a), .int (zj c), .int (zj i)] [] h1) (fun i hi ih c hc ev => ?_) 0 (by omega) 0 (by omega) rfl
  have fin : i < zn h p → ∀ c' : Nat, c' ≤ i + 1 → (zldf (fun b => zis h p 0 0 b) a (zn h p) 0 0 = zldf (fun b => zis h p 0 0 b) a (zn h p - (i + 1)) (i + 1) c') → zV X M_X9_led (zQm M_X9_led R) 0 0 60 [.ref 78, .int (zj a), .int (zj c'), .int (zj i)] [] h1 := fun q1 c' q2 q3 => by
    have := ih q1 c' q2 q3
    refine vb_X9_led_60 _ _ _ ?_
    simp only [B_X9_led_60, oPI, oPL, oILOAD, oLLOAD, oALOAD, oISTORE, oASTORE, oLSTORE, oIINC, oIADD, oISUB, oIMUL, oIAND, oIOR, oIXOR, oIDIV, oIREM, oISHL, oISHR, oIUSHR, oLADD, oLSUB, oLMUL, oLOR, oLDIV, oLREM, oLCMP, oLSHL, oINEG, oI2L, oL2I, oI2B, oI2C, oDUP, oPOP, oDUP2, oIFEQ, oICEQ, oIFNE, oICNE, oIFLT, oICLT, oIFGE, oICGE, oIFGT, oICGT, oIFLE, oICLE, oIFNULL, oIFNONNULL, oTSW, oLSW, oGETI, oGETL, oGETR, oPUTI, oPUTZ, oPUTL, oPUTR, oIALD, oBALD, oZALD, oLALD, oAALD, oALEN, oIAST, oBAST, oZAST, oLAST, oIRET, oZRET, oLRET, oVRET, oARET, oOBJ, oINI, oPS, oNEW, oNEWAI, oNEWAB, oNEWAZ, oNEWAL, oCOPY, oINV0, oINS0, oINV1, oINS1, oINV2, oINS2, oINV3, oINS3, oINV4, oINS4, oINV5, oINS5, oINV6, oINS6, List.getElem?_cons_zero, List.getElem?_cons_succ, List.set_cons_zero, List.set_cons_succ, znl, zs4, zc1, true_and, and_self, Value.category, Option.toList, List.cons_append, List.nil_append, zvr]
    rw [zj_add]
    exact this
  refine vb_X9_led_9 _ _ _ ?_
  simp only [B_X9_led_9, oPI, oPL, oILOAD, oLLOAD, oALOAD, oISTORE, oASTORE, oLSTORE, oIINC, oIADD, oISUB, oIMUL, oIAND, oIOR, oIXOR, oIDIV, oIREM, oISHL, oISHR, oIUSHR, oLADD, oLSUB, oLMUL, oLOR, oLDIV, oLREM, oLCMP, oLSHL, oINEG, oI2L, oL2I, oI2B, oI2C, oDUP, oPOP, oDUP2, oIFEQ, oICEQ, oIFNE, oICNE, oIFLT, oICLT, oIFGE, oICGE, oIFGT, oICGT, oIFLE, oICLE, oIFNULL, oIFNONNULL, oTSW, oLSW, oGETI, oGETL, oGETR, oPUTI, oPUTZ, oPUTL, oPUTR, oIALD, oBALD, oZALD, oLALD, oAALD, oALEN, oIAST, oBAST, oZAST, oLAST, oIRET, oZRET, oLRET, oVRET, oARET, oOBJ, oINI, oPS, oNEW, oNEWAI, oNEWAB, oNEWAZ, oNEWAL, oCOPY, oINV0, oINS0, oINV1, oINS1, oINV2, oINS2, oINV3, oINS3, oINV4, oINS4, oINV5, oINS5, oINV6, oINS6, List.getElem?_cons_zero, List.getElem?_cons_succ, List.set_cons_zero, List.set_cons_succ, znl, zs4, zc1, true_and, and_self, Value.category, Option.toList, List.cons_append, List.nil_append, zvr, mw_s mw1, mw_s79 mw1, mw_s80 mw1, mw_s81 mw1, mw_s82 mw1, mw_s83 mw1, mw_s84 mw1, mw_s85 mw1, mw_r5 mw1, mw_r15 mw1, mw_r16 mw1, mw_r17 mw1, mw_r18 mw1, mw_r21 mw1, mw_r22 mw1, ta_r3 ta1, ta_s ta1, ta_s1 ta1, ta_r8 ta1, ta_s2 ta1, ta_r9 ta1, ta_s3 ta1, ta_r10 ta1, ta_s4 ta1, ta_r11 ta1, ta_s5 ta1, ta_r12 ta1, ta_s6 ta1, ta_r13 ta1, ta_s7 ta1, ta_r14 ta1, ta_s8 ta1, ta_r15 ta1, ta_s9 ta1, ta_r16 ta1, ta_s10 ta1, ta_r17 ta1, ta_s11 ta1, ta_r18 ta1, ta_s12 ta1, ta_r19 ta1, ta_s13 ta1, ta_r20 ta1]
  rw [g1]
  by_cases ci : i = zn h p
  · subst ci
    try simp (disch := omega) only [zgi_gz, zj_cn, zj_lt, zj_le, zj_eq, zj_add, zj_sub, zj_mul, zj_neg, zj_lt0, zj_le0, zj_0le, zj_0lt, zj_eq0]
    refine ⟨fun _ => ?_, fun z => (by first | omega | exact absurd rfl z | exact absurd trivial z | exact absurd z (by decide))⟩
    refine out _ _ ?_
    rw [ev, show zn h p - zn h p = 0 by omega]; rfl
  have er : zn h p - i = zn h p - (i + 1) + 1 := by omega
  rw [er] at ev
  rw [zj_add, Int.zero_add]
  have ci2 : (zj (i : Int)).toNatClampNeg = i := zj_cn (by omega)
  rw [ci2]
  have vc : gz h1 80 i = zcl h1 p 0 0 i := o1.vcl (by omega)
  have vb := o1.nv.1 i (by omega)
  have ve : zgi h1 80 i = zgi h1 45 i := o1.vn i (by omega)
  have vg : gz h1 80 i = gz h1 45 i := congrArg Int32.toInt ve
  rw [zgi_gz h1 80 i]
  try simp (disch := omega) only [zgi_gz, zj_cn, zj_lt, zj_le, zj_eq, zj_add, zj_sub, zj_mul, zj_neg, zj_lt0, zj_le0, zj_0le, zj_0lt, zj_eq0]
  refine ⟨fun z => by omega, fun _ => ⟨zj_in (by omega) (by omega) (by omega), ?_⟩⟩
  refine cm_topInV o1 (by omega) (by omega) ?_
  simp only [oPI, oPL, oILOAD, oLLOAD, oALOAD, oISTORE, oASTORE, oLSTORE, oIINC, oIADD, oISUB, oIMUL, oIAND, oIOR, oIXOR, oIDIV, oIREM, oISHL, oISHR, oIUSHR, oLADD, oLSUB, oLMUL, oLOR, oLDIV, oLREM, oLCMP, oLSHL, oINEG, oI2L, oL2I, oI2B, oI2C, oDUP, oPOP, oDUP2, oIFEQ, oICEQ, oIFNE, oICNE, oIFLT, oICLT, oIFGE, oICGE, oIFGT, oICGT, oIFLE, oICLE, oIFNULL, oIFNONNULL, oTSW, oLSW, oGETI, oGETL, oGETR, oPUTI, oPUTZ, oPUTL, oPUTR, oIALD, oBALD, oZALD, oLALD, oAALD, oALEN, oIAST, oBAST, oZAST, oLAST, oIRET, oZRET, oLRET, oVRET, oARET, oOBJ, oINI, oPS, oNEW, oNEWAI, oNEWAB, oNEWAZ, oNEWAL, oCOPY, oINV0, oINS0, oINV1, oINS1, oINV2, oINS2, oINV3, oINS3, oINV4, oINS4, oINV5, oINS5, oINV6, oINS6, List.getElem?_cons_zero, List.getElem?_cons_succ, List.set_cons_zero, List.set_cons_succ, znl, zs4, zc1, true_and, and_self, Value.category, Option.toList, List.cons_append, List.nil_append, zvr]
  rw [vc]
  have tb : zis h1 p 0 0 i ↔ zT h1 p 0 0 (zcl h1 p 0 0 i) = (i : Nat) := Iff.rfl
  obtain ⟨tt, htt⟩ : ∃ tt, tt = zT h1 p 0 0 (zcl h1 p 0 0 i) := ⟨_, rfl⟩
  have tbd : -2 ≤ tt ∧ tt < 7 := by
    rw [htt]
    have := zT_b o1.pv 0 0 (zcl h1 p 0 0 i)
    omega
  rw [← htt] at tb ⊢
  rw [zj_eq (by omega) (by omega) (by omega) (by omega)]
  rw [eis] at tb
  refine ⟨fun z => ?_, fun z => ?_⟩
  · have ct : zis h p 0 0 i := tb.mpr z
    refine vb_X9_led_50 _ _ _ ?_
    simp only [B_X9_led_50, oPI, oPL, oILOAD, oLLOAD, oALOAD, oISTORE, oASTORE, oLSTORE, oIINC, oIADD, oISUB, oIMUL, oIAND, oIOR, oIXOR, oIDIV, oIREM, oISHL, oISHR, oIUSHR, oLADD, oLSUB, oLMUL, oLOR, oLDIV, oLREM, oLCMP, oLSHL, oINEG, oI2L, oL2I, oI2B, oI2C, oDUP, oPOP, oDUP2, oIFEQ, oICEQ, oIFNE, oICNE, oIFLT, oICLT, oIFGE, oICGE, oIFGT, oICGT, oIFLE, oICLE, oIFNULL, oIFNONNULL, oTSW, oLSW, oGETI, oGETL, oGETR, oPUTI, oPUTZ, oPUTL, oPUTR, oIALD, oBALD, oZALD, oLALD, oAALD, oALEN, oIAST, oBAST, oZAST, oLAST, oIRET, oZRET, oLRET, oVRET, oARET, oOBJ, oINI, oPS, oNEW, oNEWAI, oNEWAB, oNEWAZ, oNEWAL, oCOPY, oINV0, oINS0, oINV1, oINS1, oINV2, oINS2, oINV3, oINS3, oINV4, oINS4, oINV5, oINS5, oINV6, oINS6, List.getElem?_cons_zero, List.getElem?_cons_succ, List.set_cons_zero, List.set_cons_succ, znl, zs4, zc1, true_and, and_self, Value.category, Option.toList, List.cons_append, List.nil_append, zvr]
    rw [zj_eq (by omega) (by omega) (by omega) (by omega)]
    refine ⟨fun z => ?_, fun z => ?_⟩
    · rw [zldf_n ct z] at ev
      refine vb_X9_led_57 _ _ _ ?_
      simp only [B_X9_led_57, oPI, oPL, oILOAD, oLLOAD, oALOAD, oISTORE, oASTORE, oLSTORE, oIINC, oIADD, oISUB, oIMUL, oIAND, oIOR, oIXOR, oIDIV, oIREM, oISHL, oISHR, oIUSHR, oLADD, oLSUB, oLMUL, oLOR, oLDIV, oLREM, oLCMP, oLSHL, oINEG, oI2L, oL2I, oI2B, oI2C, oDUP, oPOP, oDUP2, oIFEQ, oICEQ, oIFNE, oICNE, oIFLT, oICLT, oIFGE, oICGE, oIFGT, oICGT, oIFLE, oICLE, oIFNULL, oIFNONNULL, oTSW, oLSW, oGETI, oGETL, oGETR, oPUTI, oPUTZ, oPUTL, oPUTR, oIALD, oBALD, oZALD, oLALD, oAALD, oALEN, oIAST, oBAST, oZAST, oLAST, oIRET, oZRET, oLRET, oVRET, oARET, oOBJ, oINI, oPS, oNEW, oNEWAI, oNEWAB, oNEWAZ, oNEWAL, oCOPY, oINV0, oINS0, oINV1, oINS1, oINV2, oINS2, oINV3, oINS3, oINV4, oINS4, oINV5, oINS5, oINV6, oINS6, List.getElem?_cons_zero, List.getElem?_cons_succ, List.set_cons_zero, List.set_cons_succ, znl, zs4, zc1, true_and, and_self, Value.category, Option.toList, List.cons_append, List.nil_append, zvr]
      rw [zj_add]
      exact fin (by omega) (c + 1) (by omega) ev
    · exact k i (by rw [ev]; exact zldf_t ct (by first | exact z | exact Classical.not_not.mp z))
  · have ct : ¬ zis h p 0 0 i := fun q => z (tb.mp q)
    rw [zldf_f ct] at ev
    exact fin (by omega) c (by omega) ev
theorem cm_thrown (mw : zMW h) (k : R (some (.int (zgi h 78 0))) h) : zCC X M_X9_thrown [.ref 78] h R := by
  refine zCC_of (ls := [.ref 78]) pf_X9_thrown rfl (Nat.le_of_ble_eq_true rfl) ?_
  refine vb_X9_thrown_0 _ _ _ ?_
  simp only [B_X9_thrown_0, oPI, oPL, oILOAD, oLLOAD, oALOAD, oISTORE, oASTORE, oLSTORE, oIINC, oIADD, oISUB, oIMUL, oIAND, oIOR, oIXOR, oIDIV, oIREM, oISHL, oISHR, oIUSHR, oLADD, oLSUB, oLMUL, oLOR, oLDIV, oLREM, oLCMP, oLSHL, oINEG, oI2L, oL2I, oI2B, oI2C, oDUP, oPOP, oDUP2, oIFEQ, oICEQ, oIFNE, oICNE, oIFLT, oICLT, oIFGE, oICGE, oIFGT, oICGT, oIFLE, oICLE, oIFNULL, oIFNONNULL, oTSW, oLSW, oGETI, oGETL, oGETR, oPUTI, oPUTZ, oPUTL, oPUTR, oIALD, oBALD, oZALD, oLALD, oAALD, oALEN, oIAST, oBAST, oZAST, oLAST, oIRET, oZRET, oLRET, oVRET, oARET, oOBJ, oINI, oPS, oNEW, oNEWAI, oNEWAB, oNEWAZ, oNEWAL, oCOPY, oINV0, oINS0, oINV1, oINS1, oINV2, oINS2, oINV3, oINS3, oINV4, oINS4, oINV5, oINS5, oINV6, oINS6, List.getElem?_cons_zero, List.getElem?_cons_succ, List.set_cons_zero, List.set_cons_succ, znl, zs4, zc1, true_and, and_self, Value.category, Option.toList, List.cons_append, List.nil_append, zvr, mw_s mw, mw_s79 mw, mw_s80 mw, mw_s81 mw, mw_s82 mw, mw_s83 mw, mw_s84 mw, mw_s85 mw, mw_r5 mw, mw_r15 mw, mw_r16 mw, mw_r17 mw, mw_r18 mw, mw_r21 mw, mw_r22 mw]
  exact k
end ZLE
