def M_J0_length : zM := (yJ0_length_8abf5, cJ0_length_8abf5, 1, some .int, { frames := 1, cells := 0, slots := 0, locals := 20 })
theorem mv_J0_length : zMv M_J0_length := ⟨(zmt (zt6 (i := 71) rfl) rfl), (zmt (zt6 (i := 72) rfl) rfl), (zmt (zt1 (i := 12) rfl) rfl), (zmt (zt6 (i := 73) rfl) rfl), ⟨by decide, by decide⟩⟩
theorem na_J0_length : (parseMethodDescriptor M_J0_length.1.desc).map (fun d => d.parameters.length) = some 0 := by decide +kernel
theorem pf_J0_length : plainFor M_J0_length.1 = true := by decide +kernel
theorem dJ0_length_0 : decode cJ0_length_8abf5 0 = .ok (.aload_n 0, 1) := by decide +kernel
theorem dJ0_length_1 : decode cJ0_length_8abf5 1 = .ok (.getfield 9, 3) := by decide +kernel
theorem dJ0_length_4 : decode cJ0_length_8abf5 4 = .ok (.arraylength, 1) := by decide +kernel
theorem dJ0_length_5 : decode cJ0_length_8abf5 5 = .ok (.aload_n 0, 1) := by decide +kernel
theorem dJ0_length_6 : decode cJ0_length_8abf5 6 = .ok (.invokevirtual 335, 3) := by decide +kernel
theorem dJ0_length_9 : decode cJ0_length_8abf5 9 = .ok (.ishr, 1) := by decide +kernel
theorem dJ0_length_10 : decode cJ0_length_8abf5 10 = .ok (.ireturn, 1) := by decide +kernel
def M_J0_coder : zM := (yJ0_coder_7d493, cJ0_coder_7d493, 1, some .byte, { frames := 0, cells := 0, slots := 0, locals := 0 })
theorem mv_J0_coder : zMv M_J0_coder := ⟨(zmt (zt6 (i := 75) rfl) rfl), (zmt (zt6 (i := 76) rfl) rfl), (zmt (zt1 (i := 12) rfl) rfl), (zmt (zt6 (i := 77) rfl) rfl), ⟨by decide, by decide⟩⟩
theorem na_J0_coder : (parseMethodDescriptor M_J0_coder.1.desc).map (fun d => d.parameters.length) = some 0 := by decide +kernel
theorem pf_J0_coder : plainFor M_J0_coder.1 = true := by decide +kernel
theorem dJ0_coder_0 : decode cJ0_coder_7d493 0 = .ok (.getstatic 38, 3) := by decide +kernel
theorem dJ0_coder_3 : decode cJ0_coder_7d493 3 = .ok (.ifCond .eq 10, 3) := by decide +kernel
theorem dJ0_coder_6 : decode cJ0_coder_7d493 6 = .ok (.aload_n 0, 1) := by decide +kernel
theorem dJ0_coder_7 : decode cJ0_coder_7d493 7 = .ok (.getfield 15, 3) := by decide +kernel
theorem dJ0_coder_10 : decode cJ0_coder_7d493 10 = .ok (.goto 4, 3) := by decide +kernel
theorem dJ0_coder_13 : decode cJ0_coder_7d493 13 = .ok (.iconst 1, 1) := by decide +kernel
theorem dJ0_coder_14 : decode cJ0_coder_7d493 14 = .ok (.ireturn, 1) := by decide +kernel
def M_J0_charAt : zM := (yJ0_charAt_5068e, cJ0_charAt_5068e, 2, some .char, { frames := 4, cells := 0, slots := 0, locals := 85 })
theorem mv_J0_charAt : zMv M_J0_charAt := ⟨(zmt (zt6 (i := 81) rfl) rfl), (zmt (zt6 (i := 82) rfl) rfl), (zmt (zt1 (i := 12) rfl) rfl), (zmt (zt6 (i := 83) rfl) rfl), ⟨by decide, by decide⟩⟩
theorem na_J0_charAt : (parseMethodDescriptor M_J0_charAt.1.desc).map (fun d => d.parameters.length) = some 1 := by decide +kernel
theorem pf_J0_charAt : plainFor M_J0_charAt.1 = true := by decide +kernel
theorem dJ0_charAt_0 : decode cJ0_charAt_5068e 0 = .ok (.aload_n 0, 1) := by decide +kernel
theorem dJ0_charAt_1 : decode cJ0_charAt_5068e 1 = .ok (.invokevirtual 492, 3) := by decide +kernel
theorem dJ0_charAt_4 : decode cJ0_charAt_5068e 4 = .ok (.ifCond .eq 12, 3) := by decide +kernel
theorem dJ0_charAt_7 : decode cJ0_charAt_5068e 7 = .ok (.aload_n 0, 1) := by decide +kernel
theorem dJ0_charAt_8 : decode cJ0_charAt_5068e 8 = .ok (.getfield 9, 3) := by decide +kernel
theorem dJ0_charAt_11 : decode cJ0_charAt_5068e 11 = .ok (.iload_n 1, 1) := by decide +kernel
theorem dJ0_charAt_12 : decode cJ0_charAt_5068e 12 = .ok (.invokestatic 495, 3) := by decide +kernel
theorem dJ0_charAt_15 : decode cJ0_charAt_5068e 15 = .ok (.ireturn, 1) := by decide +kernel
theorem dJ0_charAt_16 : decode cJ0_charAt_5068e 16 = .ok (.aload_n 0, 1) := by decide +kernel
theorem dJ0_charAt_17 : decode cJ0_charAt_5068e 17 = .ok (.getfield 9, 3) := by decide +kernel
theorem dJ0_charAt_20 : decode cJ0_charAt_5068e 20 = .ok (.iload_n 1, 1) := by decide +kernel
theorem dJ0_charAt_21 : decode cJ0_charAt_5068e 21 = .ok (.invokestatic 498, 3) := by decide +kernel
theorem dJ0_charAt_24 : decode cJ0_charAt_5068e 24 = .ok (.ireturn, 1) := by decide +kernel
def M_J0_isLatin1 : zM := (yJ0_isLatin1_aae02, cJ0_isLatin1_aae02, 1, some .boolean, { frames := 0, cells := 0, slots := 0, locals := 0 })
theorem mv_J0_isLatin1 : zMv M_J0_isLatin1 := ⟨(zmt (zt6 (i := 85) rfl) rfl), (zmt (zt6 (i := 86) rfl) rfl), (zmt (zt1 (i := 12) rfl) rfl), (zmt (zt6 (i := 87) rfl) rfl), ⟨by decide, by decide⟩⟩
theorem na_J0_isLatin1 : (parseMethodDescriptor M_J0_isLatin1.1.desc).map (fun d => d.parameters.length) = some 0 := by decide +kernel
theorem pf_J0_isLatin1 : plainFor M_J0_isLatin1.1 = true := by decide +kernel
theorem dJ0_isLatin1_0 : decode cJ0_isLatin1_aae02 0 = .ok (.getstatic 38, 3) := by decide +kernel
theorem dJ0_isLatin1_3 : decode cJ0_isLatin1_aae02 3 = .ok (.ifCond .eq 14, 3) := by decide +kernel
theorem dJ0_isLatin1_6 : decode cJ0_isLatin1_aae02 6 = .ok (.aload_n 0, 1) := by decide +kernel
theorem dJ0_isLatin1_7 : decode cJ0_isLatin1_aae02 7 = .ok (.getfield 15, 3) := by decide +kernel
theorem dJ0_isLatin1_10 : decode cJ0_isLatin1_aae02 10 = .ok (.ifCond .ne 7, 3) := by decide +kernel
theorem dJ0_isLatin1_13 : decode cJ0_isLatin1_aae02 13 = .ok (.iconst 1, 1) := by decide +kernel
theorem dJ0_isLatin1_14 : decode cJ0_isLatin1_aae02 14 = .ok (.goto 4, 3) := by decide +kernel
theorem dJ0_isLatin1_17 : decode cJ0_isLatin1_aae02 17 = .ok (.iconst 0, 1) := by decide +kernel
theorem dJ0_isLatin1_18 : decode cJ0_isLatin1_aae02 18 = .ok (.ireturn, 1) := by decide +kernel
def M_J1_charAt : zM := (yJ1_charAt_3b067, cJ1_charAt_3b067, 2, some .char, { frames := 2, cells := 0, slots := 0, locals := 43 })
theorem ms_J1_charAt : zMs M_J1_charAt := ⟨(zmt (zt6 (i := 89) rfl) rfl), (zmt (zt1 (i := 13) rfl) rfl), (zmt (zt6 (i := 90) rfl) rfl), ⟨by decide, by decide⟩⟩
theorem na_J1_charAt : (parseMethodDescriptor M_J1_charAt.1.desc).map (fun d => d.parameters.length) = some 2 := by decide +kernel
theorem pf_J1_charAt : plainFor M_J1_charAt.1 = true := by decide +kernel
theorem dJ1_charAt_0 : decode cJ1_charAt_3b067 0 = .ok (.iload_n 1, 1) := by decide +kernel
theorem dJ1_charAt_1 : decode cJ1_charAt_3b067 1 = .ok (.aload_n 0, 1) := by decide +kernel
theorem dJ1_charAt_2 : decode cJ1_charAt_3b067 2 = .ok (.arraylength, 1) := by decide +kernel
theorem dJ1_charAt_3 : decode cJ1_charAt_3b067 3 = .ok (.invokestatic 9, 3) := by decide +kernel
theorem dJ1_charAt_6 : decode cJ1_charAt_3b067 6 = .ok (.aload_n 0, 1) := by decide +kernel
theorem dJ1_charAt_7 : decode cJ1_charAt_3b067 7 = .ok (.iload_n 1, 1) := by decide +kernel
theorem dJ1_charAt_8 : decode cJ1_charAt_3b067 8 = .ok (.baload, 1) := by decide +kernel
theorem dJ1_charAt_9 : decode cJ1_charAt_3b067 9 = .ok (.sipush 255, 3) := by decide +kernel
theorem dJ1_charAt_12 : decode cJ1_charAt_3b067 12 = .ok (.iand, 1) := by decide +kernel
theorem dJ1_charAt_13 : decode cJ1_charAt_3b067 13 = .ok (.i2c, 1) := by decide +kernel
theorem dJ1_charAt_14 : decode cJ1_charAt_3b067 14 = .ok (.ireturn, 1) := by decide +kernel
def M_J0_checkIndex : zM := (yJ0_checkIndex_df160, cJ0_checkIndex_df160, 2, none, { frames := 1, cells := 0, slots := 0, locals := 22 })
theorem ms_J0_checkIndex : zMs M_J0_checkIndex := ⟨(zmt (zt6 (i := 92) rfl) rfl), (zmt (zt1 (i := 12) rfl) rfl), (zmt (zt6 (i := 93) rfl) rfl), ⟨by decide, by decide⟩⟩
theorem na_J0_checkIndex : (parseMethodDescriptor M_J0_checkIndex.1.desc).map (fun d => d.parameters.length) = some 2 := by decide +kernel
theorem pf_J0_checkIndex : plainFor M_J0_checkIndex.1 = true := by decide +kernel
theorem dJ0_checkIndex_0 : decode cJ0_checkIndex_df160 0 = .ok (.iload_n 0, 1) := by decide +kernel
theorem dJ0_checkIndex_1 : decode cJ0_checkIndex_df160 1 = .ok (.iload_n 1, 1) := by decide +kernel
theorem dJ0_checkIndex_2 : decode cJ0_checkIndex_df160 2 = .ok (.getstatic 1053, 3) := by decide +kernel
theorem dJ0_checkIndex_5 : decode cJ0_checkIndex_df160 5 = .ok (.invokestatic 1059, 3) := by decide +kernel
theorem dJ0_checkIndex_8 : decode cJ0_checkIndex_df160 8 = .ok (.pop, 1) := by decide +kernel
theorem dJ0_checkIndex_9 : decode cJ0_checkIndex_df160 9 = .ok (.return_, 1) := by decide +kernel
def M_J3_checkIndex : zM := (yJ3_checkIndex_8e157, cJ3_checkIndex_8e157, 3, some .int, { frames := 0, cells := 0, slots := 0, locals := 0 })
theorem ms_J3_checkIndex : zMs M_J3_checkIndex := ⟨(zmt (zt6 (i := 97) rfl) rfl), (zmt (zt1 (i := 14) rfl) rfl), (zmt (zt6 (i := 98) rfl) rfl), ⟨by decide, by decide⟩⟩
theorem na_J3_checkIndex : (parseMethodDescriptor M_J3_checkIndex.1.desc).map (fun d => d.parameters.length) = some 3 := by decide +kernel
theorem pf_J3_checkIndex : plainFor M_J3_checkIndex.1 = true := by decide +kernel
theorem dJ3_checkIndex_0 : decode cJ3_checkIndex_8e157 0 = .ok (.iload_n 0, 1) := by decide +kernel
theorem dJ3_checkIndex_1 : decode cJ3_checkIndex_8e157 1 = .ok (.ifCond .lt 8, 3) := by decide +kernel
theorem dJ3_checkIndex_4 : decode cJ3_checkIndex_8e157 4 = .ok (.iload_n 0, 1) := by decide +kernel
theorem dJ3_checkIndex_5 : decode cJ3_checkIndex_8e157 5 = .ok (.iload_n 1, 1) := by decide +kernel
theorem dJ3_checkIndex_6 : decode cJ3_checkIndex_8e157 6 = .ok (.if_icmp .lt 10, 3) := by decide +kernel
theorem dJ3_checkIndex_9 : decode cJ3_checkIndex_8e157 9 = .ok (.aload_n 2, 1) := by decide +kernel
theorem dJ3_checkIndex_10 : decode cJ3_checkIndex_8e157 10 = .ok (.iload_n 0, 1) := by decide +kernel
theorem dJ3_checkIndex_11 : decode cJ3_checkIndex_8e157 11 = .ok (.iload_n 1, 1) := by decide +kernel
theorem dJ3_checkIndex_12 : decode cJ3_checkIndex_8e157 12 = .ok (.invokestatic 95, 3) := by decide +kernel
theorem dJ3_checkIndex_15 : decode cJ3_checkIndex_8e157 15 = .ok (.athrow, 1) := by decide +kernel
theorem dJ3_checkIndex_16 : decode cJ3_checkIndex_8e157 16 = .ok (.iload_n 0, 1) := by decide +kernel
theorem dJ3_checkIndex_17 : decode cJ3_checkIndex_8e157 17 = .ok (.ireturn, 1) := by decide +kernel
/-- a method that writes nothing: its answer -/
def zRO (l : Launch) (M : zM) (cav : List Value) (P : State → Prop) (rv : Option Value) : Prop := Met l M.1 (zwsM M) M.2.2.2.2 (va_Pc cav P) (fun _ st oc t => oc = .returned rv ∧ t.heap = st.heap) 0 0 (fun _ => False)
def zRB (M : zM) (p : Program) (s : State) (m : MethodId) (args : Array Value) (meth : Method) (c : Code) : Prop := p.tables.exec = Jvm.exec ∧ c.code = M.2.1 ∧ meth.sig.returnType = M.2.2.2.1 ∧ c.maxLocals = M.2.2.1 ∧ s.vm.findClass M.1.cls = some m.cls ∧ (∀ w ∈ zws, w.before args s = true) ∧ meth.locks = false
def zBl (P : State → Prop) : Prop := ∀ (U V : State), P U → U.vm.Alike V.vm → V.heap = U.heap → P V
section ZJD
variable {p : Program} {l : Launch} {e : Env} {R : Room} {s : State} {m : MethodId} {args : Array Value} {below : List Frame} {meth : Method} {c : Code} {H : Heap} {locs : List Loc} {cells slots : Nat} {Q : State → Prop} {pc : Nat} {ls : Array Slot} {st0 rest cav As : List Value} {rv : Option Value} {P : State → Prop} {M M' : zM} {idx : Nat}
theorem zRO_of (hy : plainFor M.1 = true) (hlen : (lg_sl cav).length ≤ M.2.2.1)
    (body : ∀ (p : Program) (e : Env) (s : State) (m : MethodId) (args : Array Value) (below : List Frame) (meth : Method) (c : Code) (ls : Array Slot), zRB M p s m args meth c → lv_has ls M.2.2.1 (lv_args 0 cav) → P s → W p l e M.2.2.2.2 s m args below meth c s.heap [] 0 0 (MQ below (fun _ st oc t => oc = .returned rv ∧ t.heap = st.heap) args s 0 0 (fun _ => False)) (F0 m 0 ls [])) : zRO l M cav P rv := by
  refine va_MetF (cc := M.2.1) (maxL := M.2.2.1) (ret := M.2.2.2.1) hy rfl ?_
  intro p e s m args below meth c s₁ B hml hv
  obtain ⟨rfl, hP⟩ := hv
  rw [lg_entry_eq]
  exact body p e s m _ below meth c _ ⟨B.exec, B.bytes, B.returns, hml, findClass_of_methodNamed B.named, fun w hw => atoms_spec (ws := zwsM M) B.pre w (List.mem_cons_of_mem _ hw), B.notSynchronized⟩ (lv_entry cav (n := M.2.2.1) hlen) hP
theorem z_ro (hr : va_Run p l e R s m args below meth c H locs cells slots 0 0 (F0 m pc ls st0) rest (fun st oc t => oc = .returned rv ∧ t.heap = st.heap) (fun _ => False)) (k : W p l e R s m args below meth c H locs cells slots Q (F0 m (pc + 3) ls (rv.toList ++ rest))) : W p l e R s m args below meth c H locs cells slots Q (F0 m pc ls st0) := by
  intro T hT X
  obtain ⟨v, st₀, t, T', L, h0, X', hL, e1, e2, ⟨hv, hh⟩, st⟩ := hr T hT X
  cases hv
  have hL0 : L = [] := by
    cases L with
    | nil => rfl
    | cons q L => exact (hL q List.mem_cons_self).elim
  subst hL0
  rw [List.append_nil] at X'
  obtain ⟨t2, a1, b1⟩ := k T' (by rw [e1, hh, h0]) X'
  exact ⟨t2, st t2 a1, b1⟩
theorem z_bl (hb : zBl P) : FrameBlind (va_Pc cav P) := by
  intro a U g mk q
  exact ⟨q.1, hb U _ q.2 (Vm.Alike.refl U.vm) rfl⟩
theorem z_roS (hB : zRB M p s m args meth c) (hM : zRO l M' As P rv) (hb : zBl P) (hP : ∀ U : State, U.heap = H → s.WarmedH U.vm → P U) (hv : zMs M') (hna : (parseMethodDescriptor M'.1.desc).map (fun d => d.parameters.length) = some As.length) (hl : Cond.methodLink M.1.cls idx M'.1 ∈ zws) (h0 : M'.2.2.2.2.cells = 0 ∧ M'.2.2.2.2.slots = 0)
    (hrm : M'.2.2.2.2.frames + 1 ≤ M.2.2.2.2.frames ∧ 8 + (M'.2.2.1 + 11) + M'.2.2.2.2.locals ≤ M.2.2.2.2.locals) (hcs : cells ≤ M.2.2.2.2.cells ∧ slots ≤ M.2.2.2.2.slots) (hsz : ls.size = M.2.2.1) (hst : st0 = As.reverse ++ rest) (h8 : (rest.map fun v => v.category).sum ≤ 8) (hd : decode M.2.1 pc = .ok (.invokestatic idx, 3))
    (k : W p l e M.2.2.2.2 s m args below meth c H locs cells slots Q (F0 m (pc + 3) ls (rv.toList ++ rest))) : W p l e M.2.2.2.2 s m args below meth c H locs cells slots Q (F0 m pc ls st0) := by
  obtain ⟨hx, hbb, hr, hml, hown, hts, hlk⟩ := hB
  obtain ⟨q1, q3, q4, q5⟩ := hv
  have cw := va_cwS (R := M.2.2.2.2) (s := s) (args := args) (own := M.1.cls) (index := idx) (y := M'.1) (rm := M'.2.2.2.2) (mc := 0) (ms := 0) As.length hts (zws_good (ws := va_wsS M.1.cls idx M'.1 (zwsM M')) (fun w hw => by
      unfold va_wsS at hw
      rcases List.mem_append.mp hw with h | h
      · simp only [List.mem_cons, List.not_mem_nil, or_false] at h
        rcases h with rfl | rfl | rfl
        · exact hl
        · exact q1
        · exact q3
      · exact zwsM_sub q4 w h)) rfl h0.1 h0.2 ⟨q5.1, q5.2, hna⟩ hrm
  exact z_ro (va_runS (g := F0 m pc ls st0) (As := As) (rest := rest) ⟨hx, hbb, hml, hown, hts⟩ hM cw ⟨z_bl hb, fun U hU hW => ⟨rfl, hP U hU hW⟩⟩ rfl rfl hsz hst (lv_room h8) hd hcs) k
theorem z_roV {b : Nat} (hB : zRB M p s m args meth c) (hM : zRO l M' (.ref b :: As) P rv) (hb : zBl P) (hP : ∀ U : State, U.heap = H → s.WarmedH U.vm → P U) (hv : zMv M') (hrc : ∃ cell : Cell, H[b]? = some cell ∧ cell.vm.isStatics = false ∧ s.vm.findClass M'.1.cls = some cell.cls) (hna : (parseMethodDescriptor M'.1.desc).map (fun d => d.parameters.length) = some As.length) (hl : Cond.methodLink M.1.cls idx M'.1 ∈ zws) (h0 : M'.2.2.2.2.cells = 0 ∧ M'.2.2.2.2.slots = 0)
    (hrm : M'.2.2.2.2.frames + 1 ≤ M.2.2.2.2.frames ∧ 8 + (M'.2.2.1 + 11) + M'.2.2.2.2.locals ≤ M.2.2.2.2.locals) (hcs : cells ≤ M.2.2.2.2.cells ∧ slots ≤ M.2.2.2.2.slots) (hsz : ls.size = M.2.2.1) (hst : st0 = As.reverse ++ .ref b :: rest) (h8 : (rest.map fun v => v.category).sum ≤ 8) (hd : decode M.2.1 pc = .ok (.invokevirtual idx, 3))
    (k : W p l e M.2.2.2.2 s m args below meth c H locs cells slots Q (F0 m (pc + 3) ls (rv.toList ++ rest))) : W p l e M.2.2.2.2 s m args below meth c H locs cells slots Q (F0 m pc ls st0) := by
  obtain ⟨hx, hbb, hr, hml, hown, hts, hlk⟩ := hB
  obtain ⟨q1, q2, q3, q4, q5⟩ := hv
  have cw := cwV (R := M.2.2.2.2) (s := s) (args := args) (own := M.1.cls) (C := M'.1.cls) (index := idx) (y := M'.1) (rm := M'.2.2.2.2) (mc := 0) (ms := 0) As.length hts (zws_good (ws := wsV M.1.cls idx M'.1.cls M'.1 (zwsM M')) (fun w hw => by
      unfold wsV at hw
      rcases List.mem_append.mp hw with h | h
      · simp only [List.mem_cons, List.not_mem_nil, or_false] at h
        rcases h with rfl | rfl | rfl | rfl
        · exact hl
        · exact q1
        · exact q2
        · exact q3
      · exact zwsM_sub q4 w h)) rfl h0.1 h0.2 ⟨rfl, q5.1, q5.2, hna⟩ hrm
  exact z_ro (va_runV (g := F0 m pc ls st0) (As := As) (rest := rest) ⟨hx, hbb, hml, hown, hts⟩ hM cw ⟨z_bl hb, hrc, fun U hU hW => ⟨rfl, hP U hU hW⟩⟩ rfl rfl hsz hst (lv_room h8) hd hcs) k
abbrev zNo : Nat → Prop := fun _ => False
def zSf (U : State) : Prop := va_Zq "jdk/internal/util/Preconditions" "SIOOBE_FORMATTER" "Ljava/util/function/BiFunction;" zNo U U.heap
def zSt (b n : Nat) (f : Nat → Int32) (U : State) : Prop := va_T .byte b n (fun j => .int (f j)) zNo U U.heap
def zSg (a b n : Nat) (f : Nat → Int32) (U : State) : Prop := (zSf U ∧ zSt b n f U) ∧ va_Z "java/lang/String" "COMPACT_STRINGS" "Z" (.int 1) zNo U U.heap ∧ va_O "java/lang/String" a zNo U U.heap ∧ va_OF "java/lang/String" "coder" "B" (.int 0) a zNo U U.heap ∧ va_OF "java/lang/String" "value" "[B" (.ref b) a zNo U U.heap
theorem zSf_b : zBl zSf := fun U V h hW hh => by
  unfold zSf at h ⊢
  rw [hh]
  exact h.moved hW
theorem zSt_b {b n : Nat} {f : Nat → Int32} : zBl (zSt b n f) := fun U V h hW hh => by
  unfold zSt at h ⊢
  rw [hh]
  exact h.moved hW
theorem zSft_b {b n : Nat} {f : Nat → Int32} : zBl (fun U => zSf U ∧ zSt b n f U) := fun U V h hW hh => ⟨zSf_b U V h.1 hW hh, zSt_b U V h.2 hW hh⟩
theorem zSg_b {a b n : Nat} {f : Nat → Int32} : zBl (zSg a b n f) := fun U V h hW hh => by
  refine ⟨zSft_b U V h.1 hW hh, ?_⟩
  have h := h.2
  rw [hh]
  exact ⟨h.1.moved hW, h.2.1.moved hW, h.2.2.1.moved hW, h.2.2.2.moved hW⟩
theorem z_s0 : va_S zNo s.heap s.heap [] := va_S.rf
theorem ro_J3 {x y : Int32} {v : Value} (hc : v.category = 1) (h0 : ¬ x < 0) (h1 : x < y) : zRO l M_J3_checkIndex [.int x, .int y, v] (fun _ => True) (some (.int x)) := by
  refine zRO_of pf_J3_checkIndex (by cases v <;> first | (simp [lg_sl, Value.category, M_J3_checkIndex]; done) | (simp [Value.category] at hc)) (fun p e s m args below meth c ls hB hl _ => ?_)
  obtain ⟨hx, hb, hr, hml, hown, hts, hlk⟩ := hB
  have l0 : ls[0]? = some (.val (.int x)) := lv_at hl 0 rfl
  have l1 : ls[1]? = some (.val (.int y)) := lv_at hl 1 rfl
  refine lv_iload_n hx hb dJ3_checkIndex_0 rfl l0 ?_
  refine lv_if_lt hx hb dJ3_checkIndex_1 rfl (fun z => absurd z h0) (fun _ => ?_)
  refine lv_iload_n hx hb dJ3_checkIndex_4 rfl l0 ?_
  refine lv_iload_n hx hb dJ3_checkIndex_5 rfl l1 ?_
  refine lv_icmp_lt hx hb dJ3_checkIndex_6 rfl (fun _ => ?_) (fun z => absurd h1 z)
  refine lv_iload_n hx hb dJ3_checkIndex_16 rfl l0 ?_
  exact W.iret hx hb (hr.trans rfl) (fun t ht _ => ⟨rfl, ht⟩) (fun q hq => nomatch hq) dJ3_checkIndex_17 hlk
theorem ro_check {x y : Int32} (h0 : ¬ x < 0) (h1 : x < y) : zRO l M_J0_checkIndex [.int x, .int y] zSf none := by
  refine zRO_of pf_J0_checkIndex (by simp [lg_sl, Value.category, M_J0_checkIndex]) (fun p e s m args below meth c ls hB hl hP => ?_)
  have hB' := hB
  obtain ⟨hx, hb, hr, hml, hown, hts, hlk⟩ := hB
  have l0 : ls[0]? = some (.val (.int x)) := lv_at hl 0 rfl
  have l1 : ls[1]? = some (.val (.int y)) := lv_at hl 1 rfl
  refine lv_iload_n hx hb dJ0_checkIndex_0 rfl l0 ?_
  refine lv_iload_n hx hb dJ0_checkIndex_1 rfl l1 ?_
  have tail : ∀ v : Value, v.category = 1 → W p l e M_J0_checkIndex.2.2.2.2 s m args below meth c s.heap [] 0 0 (MQ below (fun _ st oc t => oc = .returned none ∧ t.heap = st.heap) args s 0 0 (fun _ => False)) (F0 m 5 ls [v, .int y, .int x]) := fun v hv => by
    refine z_roS (M := M_J0_checkIndex) (M' := M_J3_checkIndex) (As := [.int x, .int y, v]) (rest := []) hB' (ro_J3 hv h0 h1) (fun _ _ _ _ _ => trivial) (fun _ _ _ => trivial) ms_J3_checkIndex na_J3_checkIndex (zmt (zt6 (i := 96) rfl) rfl) ⟨rfl, rfl⟩ ⟨Nat.le_of_ble_eq_true rfl, Nat.le_of_ble_eq_true rfl⟩ ⟨Nat.le_of_ble_eq_true rfl, Nat.le_of_ble_eq_true rfl⟩ hl.1 rfl (by simp) dJ0_checkIndex_5 ?_
    refine lv_pop hx hb dJ0_checkIndex_8 rfl ?_
    exact W.vret hx hb (hr.trans rfl) (fun t ht _ => ⟨rfl, ht⟩) (fun q hq => nomatch hq) dJ0_checkIndex_9 hlk
  rcases hP with hZ | ⟨t, hZ⟩
  · exact va_gets hx hb hZ z_s0 hown (hts _ (zmt (zt6 (i := 94) rfl) rfl)) (fun _ z => z) dJ0_checkIndex_2 (tail _ rfl)
  · exact va_gets hx hb hZ z_s0 hown (hts _ (zmt (zt6 (i := 94) rfl) rfl)) (fun _ z => z) dJ0_checkIndex_2 (tail _ rfl)
theorem ro_char1 {b n : Nat} {f : Nat → Int32} {x v : Int32} (h0 : ¬ x < 0) (h1 : x < Int32.ofNat n) (h2 : vp_in x n) (hv : ((f x.toNatClampNeg &&& 255).toUInt32 % 65536).toInt32 = v) (hn : narrow .char (.int v) = .int v) : zRO l M_J1_charAt [.ref b, .int x] (fun U => zSf U ∧ zSt b n f U) (some (.int v)) := by
  refine zRO_of pf_J1_charAt (by simp [lg_sl, Value.category, M_J1_charAt]) (fun p e s m args below meth c ls hB hl hP => ?_)
  have hB' := hB
  obtain ⟨hx, hb, hr, hml, hown, hts, hlk⟩ := hB
  have l0 : ls[0]? = some (.val (.ref b)) := lv_at hl 0 rfl
  have l1 : ls[1]? = some (.val (.int x)) := lv_at hl 1 rfl
  refine lv_iload_n hx hb dJ1_charAt_0 rfl l1 ?_
  refine lv_aload_n hx hb dJ1_charAt_1 rfl l0 ?_
  refine va_tlen hx hb hP.2 z_s0 rfl dJ1_charAt_2 ?_
  refine z_roS (M := M_J1_charAt) (M' := M_J0_checkIndex) (As := [.int x, .int (Int32.ofNat n)]) (rest := []) hB' (ro_check h0 h1) zSf_b (fun U hU hW => zSf_b s U hP.1 hW.alike hU) ms_J0_checkIndex na_J0_checkIndex (zmt (zt6 (i := 91) rfl) rfl) ⟨rfl, rfl⟩ ⟨Nat.le_of_ble_eq_true rfl, Nat.le_of_ble_eq_true rfl⟩ ⟨Nat.le_of_ble_eq_true rfl, Nat.le_of_ble_eq_true rfl⟩ hl.1 rfl (by simp) dJ1_charAt_3 ?_
  refine lv_aload_n hx hb dJ1_charAt_6 rfl l0 ?_
  refine lv_iload_n hx hb dJ1_charAt_7 rfl l1 ?_
  refine va_tb hx hb hP.2 z_s0 h2 rfl dJ1_charAt_8 ?_
  refine lv_sipush hx hb dJ1_charAt_9 rfl ?_
  refine lv_iand hx hb dJ1_charAt_12 ?_
  refine lv_i2c hx hb dJ1_charAt_13 hv ?_
  exact W.zret hx hb (hr.trans rfl) hn (fun t ht _ => ⟨rfl, ht⟩) (fun q hq => nomatch hq) dJ1_charAt_14 hlk
theorem ro_coder {a b n : Nat} {f : Nat → Int32} : zRO l M_J0_coder [.ref a] (zSg a b n f) (some (.int 0)) := by
  refine zRO_of pf_J0_coder (by simp [lg_sl, Value.category, M_J0_coder]) (fun p e s m args below meth c ls hB hl hP => ?_)
  obtain ⟨hx, hb, hr, hml, hown, hts, hlk⟩ := hB
  have l0 : ls[0]? = some (.val (.ref a)) := lv_at hl 0 rfl
  refine va_gets hx hb hP.2.1 z_s0 hown (hts _ (zmt (zt6 (i := 78) rfl) rfl)) (fun _ z => z) dJ0_coder_0 ?_
  refine lv_if_eq hx hb dJ0_coder_3 rfl (fun z => absurd z (by decide)) (fun _ => ?_)
  refine lv_aload_n hx hb dJ0_coder_6 rfl l0 ?_
  refine vk_getf hx hb hP.2.2.2.1 z_s0 hown (hts _ (zmt (zt8 (i := 188) rfl) rfl)) (fun _ z => z) dJ0_coder_7 ?_
  refine lv_goto hx hb dJ0_coder_10 rfl ?_
  exact W.zret hx hb (hr.trans rfl) rfl (fun t ht _ => ⟨rfl, ht⟩) (fun q hq => nomatch hq) dJ0_coder_14 hlk
theorem ro_latin {a b n : Nat} {f : Nat → Int32} : zRO l M_J0_isLatin1 [.ref a] (zSg a b n f) (some (.int 1)) := by
  refine zRO_of pf_J0_isLatin1 (by simp [lg_sl, Value.category, M_J0_isLatin1]) (fun p e s m args below meth c ls hB hl hP => ?_)
  obtain ⟨hx, hb, hr, hml, hown, hts, hlk⟩ := hB
  have l0 : ls[0]? = some (.val (.ref a)) := lv_at hl 0 rfl
  refine va_gets hx hb hP.2.1 z_s0 hown (hts _ (zmt (zt6 (i := 78) rfl) rfl)) (fun _ z => z) dJ0_isLatin1_0 ?_
  refine lv_if_eq hx hb dJ0_isLatin1_3 rfl (fun z => absurd z (by decide)) (fun _ => ?_)
  refine lv_aload_n hx hb dJ0_isLatin1_6 rfl l0 ?_
  refine vk_getf hx hb hP.2.2.2.1 z_s0 hown (hts _ (zmt (zt8 (i := 188) rfl) rfl)) (fun _ z => z) dJ0_isLatin1_7 ?_
  refine lv_if_ne hx hb dJ0_isLatin1_10 rfl (fun z => absurd rfl z) (fun _ => ?_)
  refine lv_iconst hx hb dJ0_isLatin1_13 rfl ?_
  refine lv_goto hx hb dJ0_isLatin1_14 rfl ?_
  exact W.zret hx hb (hr.trans rfl) (z_bool (Or.inr rfl)).1 (fun t ht _ => ⟨rfl, ht⟩) (fun q hq => nomatch hq) dJ0_isLatin1_18 hlk
theorem zSg_rc {a b n : Nat} {f : Nat → Int32} (h : zSg a b n f s) : ∃ cell : Cell, s.heap[a]? = some cell ∧ cell.vm.isStatics = false ∧ s.vm.findClass "java/lang/String" = some cell.cls := by
  obtain ⟨cell, h1, h2, h3, -⟩ := h.2.2.1
  exact ⟨cell, h1, h2, h3⟩
theorem ro_length {a b n : Nat} {f : Nat → Int32} {v : Int32} (hv : Int32.ofNat n >>> ((0 : Int32) &&& 31) = v) : zRO l M_J0_length [.ref a] (zSg a b n f) (some (.int v)) := by
  refine zRO_of pf_J0_length (by simp [lg_sl, Value.category, M_J0_length]) (fun p e s m args below meth c ls hB hl hP => ?_)
  have hB' := hB
  obtain ⟨hx, hb, hr, hml, hown, hts, hlk⟩ := hB
  have l0 : ls[0]? = some (.val (.ref a)) := lv_at hl 0 rfl
  refine lv_aload_n hx hb dJ0_length_0 rfl l0 ?_
  refine vk_getf hx hb hP.2.2.2.2 z_s0 hown (hts _ (zmt (zt8 (i := 187) rfl) rfl)) (fun _ z => z) dJ0_length_1 ?_
  refine va_tlen hx hb hP.1.2 z_s0 rfl dJ0_length_4 ?_
  refine lv_aload_n hx hb dJ0_length_5 rfl l0 ?_
  refine z_roV (M := M_J0_length) (M' := M_J0_coder) (As := []) (rest := [.int (Int32.ofNat n)]) hB' ro_coder zSg_b (fun U hU hW => zSg_b s U hP hW.alike hU) mv_J0_coder (zSg_rc hP) na_J0_coder (zmt (zt6 (i := 74) rfl) rfl) ⟨rfl, rfl⟩ ⟨Nat.le_of_ble_eq_true rfl, Nat.le_of_ble_eq_true rfl⟩ ⟨Nat.le_of_ble_eq_true rfl, Nat.le_of_ble_eq_true rfl⟩ hl.1 rfl (by simp [Value.category]) dJ0_length_6 ?_
  refine lv_ishr hx hb dJ0_length_9 ?_
  rw [hv]
  exact W.iret hx hb (hr.trans rfl) (fun t ht _ => ⟨rfl, ht⟩) (fun q hq => nomatch hq) dJ0_length_10 hlk
theorem ro_char {a b n : Nat} {f : Nat → Int32} {x v : Int32} (h0 : ¬ x < 0) (h1 : x < Int32.ofNat n) (h2 : vp_in x n) (hv : ((f x.toNatClampNeg &&& 255).toUInt32 % 65536).toInt32 = v) (hn : narrow .char (.int v) = .int v) : zRO l M_J0_charAt [.ref a, .int x] (zSg a b n f) (some (.int v)) := by
  refine zRO_of pf_J0_charAt (by simp [lg_sl, Value.category, M_J0_charAt]) (fun p e s m args below meth c ls hB hl hP => ?_)
  have hB' := hB
  obtain ⟨hx, hb, hr, hml, hown, hts, hlk⟩ := hB
  have l0 : ls[0]? = some (.val (.ref a)) := lv_at hl 0 rfl
  have l1 : ls[1]? = some (.val (.int x)) := lv_at hl 1 rfl
  refine lv_aload_n hx hb dJ0_charAt_0 rfl l0 ?_
  refine z_roV (M := M_J0_charAt) (M' := M_J0_isLatin1) (As := []) (rest := []) hB' ro_latin zSg_b (fun U hU hW => zSg_b s U hP hW.alike hU) mv_J0_isLatin1 (zSg_rc hP) na_J0_isLatin1 (zmt (zt6 (i := 84) rfl) rfl) ⟨rfl, rfl⟩ ⟨Nat.le_of_ble_eq_true rfl, Nat.le_of_ble_eq_true rfl⟩ ⟨Nat.le_of_ble_eq_true rfl, Nat.le_of_ble_eq_true rfl⟩ hl.1 rfl (by simp) dJ0_charAt_1 ?_
  refine lv_if_eq hx hb dJ0_charAt_4 rfl (fun z => absurd z (by decide)) (fun _ => ?_)
  refine lv_aload_n hx hb dJ0_charAt_7 rfl l0 ?_
  refine vk_getf hx hb hP.2.2.2.2 z_s0 hown (hts _ (zmt (zt8 (i := 187) rfl) rfl)) (fun _ z => z) dJ0_charAt_8 ?_
  refine lv_iload_n hx hb dJ0_charAt_11 rfl l1 ?_
  refine z_roS (M := M_J0_charAt) (M' := M_J1_charAt) (As := [.ref b, .int x]) (rest := []) hB' (ro_char1 h0 h1 h2 hv hn) zSft_b (fun U hU hW => zSft_b s U hP.1 hW.alike hU) ms_J1_charAt na_J1_charAt (zmt (zt6 (i := 88) rfl) rfl) ⟨rfl, rfl⟩ ⟨Nat.le_of_ble_eq_true rfl, Nat.le_of_ble_eq_true rfl⟩ ⟨Nat.le_of_ble_eq_true rfl, Nat.le_of_ble_eq_true rfl⟩ hl.1 rfl (by simp) dJ0_charAt_12 ?_
  exact W.zret hx hb (hr.trans rfl) hn (fun t ht _ => ⟨rfl, ht⟩) (fun q hq => nomatch hq) dJ0_charAt_15 hlk
end ZJD
section ZJE
variable {X : Nat × (Nat → Int32)} {M : zM} {Q : zQt} {k n pc : Nat} {K : zCf}
def zby (i j : Nat) : Int32 := (zsbyt.getD i []).getD j 0
theorem z_strE {h : zHp} {l : Launch} {p : Program} {s : State} {m : MethodId} {args : Array Value} {meth : Method} {c : Code} {A : Nat → Prop} {D : va_G} {ad0 ad : Nat → Option Nat} {tys : List (ClassId × FieldType)} {ws : va_W} {H : Heap} {locs : List Loc} {i a : Nat} (hB : zB X M h l p s m args meth c A D ad0 ad tys ws H locs) (hi : i < 14) (ha : ad i = some a) :
    ∃ b : Nat, (∀ U : State, U.heap = H → s.WarmedH U.vm → zSg a b (zslen.getD i 0) (zby i) U) ∧ ∃ cell : Cell, H[a]? = some cell ∧ cell.vm.isStatics = false ∧ s.vm.findClass "java/lang/String" = some cell.cls := by
  obtain ⟨hC, hE, hL, -, -, -, hS, -, -⟩ := hB
  obtain ⟨-, ⟨adK, adV, g1, g2⟩, g3, -⟩ := hE
  obtain ⟨q, hq⟩ : ∃ q, zstr[i]? = some q := ⟨_, List.getElem?_eq_getElem (by show i < 14; exact hi)⟩
  have e : a = adK i := Option.some.inj (ha.symm.trans (hL _ _ (g2 i q hq).2))
  subst e
  refine ⟨adV i, fun U hU hW => ?_, vk_recv g1 hi hS⟩
  have hk : ∀ a : Nat, a < s.heap.size → ¬ A a → U.heap[a]? = s.heap[a]? := fun a h1 h2 => by rw [hU]; exact hS.2.1 a h1 h2
  have z := (((g1.moved hW.alike).kept hk).narrow (B := zNo) (fun _ q => q.elim)).1 i hi
  exact ⟨⟨((g3.2.1.moved hW.alike).kept hk).narrow (B := zNo) (fun _ q => q.elim), z.2.2.2⟩, ((g3.1.moved hW.alike).kept hk).narrow (B := zNo) (fun _ q => q.elim), z.1, z.2.1, z.2.2.1⟩
def oSLN (K : zCf) : zCf := fun ls st h => match st with
  | .ref i :: t => i < 14 ∧ zs4 t ∧ K ls (.int (zj (zslen.getD i 0 : Nat)) :: t) h
  | _ => False
theorem zsl_ok : ∀ i : Nat, i < 14 → Int32.ofNat (zslen.getD i 0) >>> ((0 : Int32) &&& 31) = zj (zslen.getD i 0 : Nat) := by decide
theorem sd_sln {idx : Nat} (hd : decode M.2.1 pc = .ok (.invokevirtual idx, 3)) (hl : Cond.methodLink "MirrorTubeModel" idx M_J0_length.1 ∈ zws) (hM : M.1.cls = "MirrorTubeModel") (hrm : (M_J0_length.2.2.2.2.frames + 1 ≤ M.2.2.2.2.frames ∧ 8 + (M_J0_length.2.2.1 + 11) + M_J0_length.2.2.2.2.locals ≤ M.2.2.2.2.locals) ∧ (k ≤ M.2.2.2.2.cells ∧ n ≤ M.2.2.2.2.slots)) (hK : ∀ ls st h, K ls st h → zV X M Q k n (pc + 3) ls st h) : ∀ ls st h, oSLN K ls st h → zV X M Q k n pc ls st h := by
  intro ls st h hk p l e s m args below meth c A D ad0 ad tys ws H locs cls cst hB hls hst
  unfold oSLN at hk
  split at hk
  · rename_i i t
    obtain ⟨hi, h4, hk⟩ := hk
    obtain ⟨a, rest, h1, rfl, hrest⟩ := hst.r
    obtain ⟨b, hU, hrc⟩ := z_strE hB hi h1
    obtain ⟨-, lv, hlv, -⟩ := id hls
    obtain ⟨hC, -⟩ := id hB
    refine z_roV (M := M) (M' := M_J0_length) (As := []) (rest := rest) ⟨hC.1, hC.2.1, hC.2.2.1, hC.2.2.2.1, hC.2.2.2.2.1, hC.2.2.2.2.2.1, hC.2.2.2.2.2.2.1⟩ (ro_length (zsl_ok i hi)) zSg_b hU mv_J0_length hrc na_J0_length (by rw [hM]; exact hl) ⟨rfl, rfl⟩ hrm.1 hrm.2 hlv.1 rfl (h4.sum hrest) hd ?_
    exact hK _ _ _ hk p l e s m args below meth c A D ad0 ad tys ws H locs cls _ hB hls ⟨rfl, hrest⟩
  · exact hk.elim
def oSCH (K : zCf) : zCf := fun ls st h => match st with
  | .int x :: .ref i :: t => i < 14 ∧ zs4 t ∧ ∃ j : Nat, x = zj j ∧ j < zslen.getD i 0 ∧ K ls (.int (zby i j) :: t) h
  | _ => False
theorem zch_ok : ∀ i : Nat, i < 14 → ∀ j : Nat, j < zslen.getD i 0 → (¬ zj j < 0 ∧ zj j < Int32.ofNat (zslen.getD i 0) ∧ (zj j).toNatClampNeg = j ∧ ((zby i j &&& 255).toUInt32 % 65536).toInt32 = zby i j ∧ narrow .char (.int (zby i j)) = .int (zby i j)) := by decide +kernel
theorem sd_sch {idx : Nat} (hd : decode M.2.1 pc = .ok (.invokevirtual idx, 3)) (hl : Cond.methodLink "MirrorTubeModel" idx M_J0_charAt.1 ∈ zws) (hM : M.1.cls = "MirrorTubeModel") (hrm : (M_J0_charAt.2.2.2.2.frames + 1 ≤ M.2.2.2.2.frames ∧ 8 + (M_J0_charAt.2.2.1 + 11) + M_J0_charAt.2.2.2.2.locals ≤ M.2.2.2.2.locals) ∧ (k ≤ M.2.2.2.2.cells ∧ n ≤ M.2.2.2.2.slots)) (hK : ∀ ls st h, K ls st h → zV X M Q k n (pc + 3) ls st h) : ∀ ls st h, oSCH K ls st h → zV X M Q k n pc ls st h := by
  intro ls st h hk p l e s m args below meth c A D ad0 ad tys ws H locs cls cst hB hls hst
  unfold oSCH at hk
  split at hk
  · rename_i x i t
    obtain ⟨hi, h4, j, rfl, hj, hk⟩ := hk
    obtain ⟨c1, rfl, hs1⟩ := hst.i
    obtain ⟨a, rest, h1, rfl, hrest⟩ := hs1.r
    obtain ⟨b, hU, hrc⟩ := z_strE hB hi h1
    obtain ⟨-, lv, hlv, -⟩ := id hls
    obtain ⟨hC, -⟩ := id hB
    obtain ⟨o1, o2, o3, o4, o5⟩ := zch_ok i hi j hj
    refine z_roV (M := M) (M' := M_J0_charAt) (As := [.int (zj j)]) (rest := rest) ⟨hC.1, hC.2.1, hC.2.2.1, hC.2.2.2.1, hC.2.2.2.2.1, hC.2.2.2.2.2.1, hC.2.2.2.2.2.2.1⟩ (ro_char (v := zby i j) o1 o2 (fun z => by rw [o3] at z; rcases z with z | z; exact o1 z; omega) (by rw [o3]; exact o4) o5) zSg_b hU mv_J0_charAt hrc na_J0_charAt (by rw [hM]; exact hl) ⟨rfl, rfl⟩ hrm.1 hrm.2 hlv.1 rfl (h4.sum hrest) hd ?_
    exact hK _ _ _ hk p l e s m args below meth c A D ad0 ad tys ws H locs cls _ hB hls ⟨rfl, hrest⟩
  · exact hk.elim
end ZJE

theorem dX9_packed_0 : decode cX9_packed 0 = .ok (.lconst 0, 1) := by decide +kernel
theorem dX9_packed_1 : decode cX9_packed 1 = .ok (.lstore_n 1, 1) := by decide +kernel
theorem dX9_packed_2 : decode cX9_packed 2 = .ok (.iconst 0, 1) := by decide +kernel
theorem dX9_packed_3 : decode cX9_packed 3 = .ok (.istore_n 3, 1) := by decide +kernel
theorem dX9_packed_4 : decode cX9_packed 4 = .ok (.iload_n 3, 1) := by decide +kernel
theorem dX9_packed_5 : decode cX9_packed 5 = .ok (.aload_n 0, 1) := by decide +kernel
theorem dX9_packed_6 : decode cX9_packed 6 = .ok (.invokevirtual 56, 3) := by decide +kernel
theorem dX9_packed_9 : decode cX9_packed 9 = .ok (.if_icmp .ge 27, 3) := by decide +kernel
theorem dX9_packed_12 : decode cX9_packed 12 = .ok (.ldc2_w 62, 3) := by decide +kernel
theorem dX9_packed_15 : decode cX9_packed 15 = .ok (.lload_n 1, 1) := by decide +kernel
theorem dX9_packed_16 : decode cX9_packed 16 = .ok (.lmul, 1) := by decide +kernel
theorem dX9_packed_17 : decode cX9_packed 17 = .ok (.aload_n 0, 1) := by decide +kernel
theorem dX9_packed_18 : decode cX9_packed 18 = .ok (.iload_n 3, 1) := by decide +kernel
theorem dX9_packed_19 : decode cX9_packed 19 = .ok (.invokevirtual 64, 3) := by decide +kernel
theorem dX9_packed_22 : decode cX9_packed 22 = .ok (.bipush 97, 2) := by decide +kernel
theorem dX9_packed_24 : decode cX9_packed 24 = .ok (.isub, 1) := by decide +kernel
theorem dX9_packed_25 : decode cX9_packed 25 = .ok (.iconst 1, 1) := by decide +kernel
theorem dX9_packed_26 : decode cX9_packed 26 = .ok (.iadd, 1) := by decide +kernel
theorem dX9_packed_27 : decode cX9_packed 27 = .ok (.i2l, 1) := by decide +kernel
theorem dX9_packed_28 : decode cX9_packed 28 = .ok (.ladd, 1) := by decide +kernel
theorem dX9_packed_29 : decode cX9_packed 29 = .ok (.lstore_n 1, 1) := by decide +kernel
theorem dX9_packed_30 : decode cX9_packed 30 = .ok (.iinc 3 1, 3) := by decide +kernel
theorem dX9_packed_33 : decode cX9_packed 33 = .ok (.goto (-29), 3) := by decide +kernel
theorem dX9_packed_36 : decode cX9_packed 36 = .ok (.lload_n 1, 1) := by decide +kernel
theorem dX9_packed_37 : decode cX9_packed 37 = .ok (.lreturn, 1) := by decide +kernel
def B_X9_packed_0 (X : Nat × (Nat → Int32)) (J : Nat → zCf) (R : zRt) : zCf := oPL (zk (0)) (oLSTORE 0 1 (oPI (zj (0)) (oISTORE 2 3 (J 4))))
set_option maxRecDepth 100000 in
theorem vb_X9_packed_0 {X : Nat × (Nat → Int32)} {R : zRt} : ∀ ls st h, B_X9_packed_0 X (zV X M_X9_packed (zQm M_X9_packed R) 0 0) R ls st h → zV X M_X9_packed (zQm M_X9_packed R) 0 0 0 ls st h := sd_lconst dX9_packed_0 rfl (sd_lstore_n dX9_packed_1 rfl (Nat.le_of_ble_eq_true rfl) (Or.inl rfl) (sd_iconst dX9_packed_2 rfl (sd_istore_n dX9_packed_3 rfl (Nat.le_of_ble_eq_true rfl) (Or.inl rfl) (fun _ _ _ h => h))))
def B_X9_packed_4 (X : Nat × (Nat → Int32)) (J : Nat → zCf) (R : zRt) : zCf := oILOAD 3 (oALOAD 0 (oSLN (oICGE (J 36) (oPL (zk (32)) (oLLOAD 1 (oLMUL (oALOAD 0 (oILOAD 3 (oSCH (oPI (zj (97)) (oISUB (oPI (zj (1)) (oIADD (oI2L (oLADD (oLSTORE 0 1 (oIINC 2 3 (zj (1)) (J 4))))))))))))))))))
set_option maxRecDepth 100000 in
theorem vb_X9_packed_4 {X : Nat × (Nat → Int32)} {R : zRt} : ∀ ls st h, B_X9_packed_4 X (zV X M_X9_packed (zQm M_X9_packed R) 0 0) R ls st h → zV X M_X9_packed (zQm M_X9_packed R) 0 0 4 ls st h := sd_iload_n dX9_packed_4 rfl (sd_aload_n dX9_packed_5 rfl (sd_sln dX9_packed_6 (zmt (zt6 (i := 70) rfl) rfl) rfl ⟨⟨(Nat.le_of_ble_eq_true rfl), (Nat.le_of_ble_eq_true rfl)⟩, ⟨(Nat.le_of_ble_eq_true rfl), (Nat.le_of_ble_eq_true rfl)⟩⟩ (sd_icge dX9_packed_9 rfl (fun _ _ _ h => h) (sd_ldc2 dX9_packed_12 (zmt (zt6 (i := 50) rfl) rfl) (sd_lload_n dX9_packed_15 rfl (sd_lmul dX9_packed_16 (sd_aload_n dX9_packed_17 rfl (sd_iload_n dX9_packed_18 rfl (sd_sch dX9_packed_19 (zmt (zt6 (i := 80) rfl) rfl) rfl ⟨⟨(Nat.le_of_ble_eq_true rfl), (Nat.le_of_ble_eq_true rfl)⟩, ⟨(Nat.le_of_ble_eq_true rfl), (Nat.le_of_ble_eq_true rfl)⟩⟩ (sd_bipush dX9_packed_22 rfl (sd_isub dX9_packed_24 (sd_iconst dX9_packed_25 rfl (sd_iadd dX9_packed_26 (sd_i2l dX9_packed_27 (sd_ladd dX9_packed_28 (sd_lstore_n dX9_packed_29 rfl (Nat.le_of_ble_eq_true rfl) (Or.inl rfl) (sd_iinc dX9_packed_30 rfl (Nat.le_of_ble_eq_true rfl) (Or.inl rfl) (sd_goto dX9_packed_33 rfl (fun _ _ _ h => h)))))))))))))))))))
def B_X9_packed_36 (X : Nat × (Nat → Int32)) (J : Nat → zCf) (R : zRt) : zCf := oLLOAD 1 (oLRET R)
set_option maxRecDepth 100000 in
theorem vb_X9_packed_36 {X : Nat × (Nat → Int32)} {R : zRt} : ∀ ls st h, B_X9_packed_36 X (zV X M_X9_packed (zQm M_X9_packed R) 0 0) R ls st h → zV X M_X9_packed (zQm M_X9_packed R) 0 0 36 ls st h := sd_lload_n dX9_packed_36 rfl (sd_lret dX9_packed_37 rfl (Nat.le_of_ble_eq_true rfl) (Nat.le_of_ble_eq_true rfl))

section ZJF
variable {X : Nat × (Nat → Int32)} {R : zRt} {h : zHp}
def zpv (i : Nat) : Nat → Int64
  | 0 => zk 0
  | j + 1 => zk 32 * zpv i j + (zby i j - zj 97 + zj 1).toInt64
theorem zpv_ok : ∀ i : Nat, i < 14 → zpv i (zslen.getD i 0) = zk (zfo 32 96 (zk1 i) : Nat) := by decide +kernel
theorem zsl_le : ∀ i : Nat, i < 14 → zslen.getD i 0 ≤ 8 := by decide
theorem zPk_ok : zPk X := by
  intro i h R hi k
  have h8 := zsl_le i hi
  obtain ⟨L, hL⟩ : ∃ L, L = zslen.getD i 0 := ⟨_, rfl⟩
  rw [← hL] at h8
  refine zCC_of (ls := [.ref i, .retAddr 0, .retAddr 0, .retAddr 0]) pf_X9_packed rfl (Nat.le_of_ble_eq_true rfl) ?_
  refine vb_X9_packed_0 _ _ _ ?_
  simp only [B_X9_packed_0, oPI, oPL, oILOAD, oLLOAD, oALOAD, oISTORE, oASTORE, oLSTORE, oIINC, oIADD, oISUB, oIMUL, oIAND, oIOR, oIXOR, oIDIV, oIREM, oISHL, oISHR, oIUSHR, oLADD, oLSUB, oLMUL, oLOR, oLDIV, oLREM, oLCMP, oLSHL, oINEG, oI2L, oL2I, oI2B, oI2C, oDUP, oPOP, oDUP2, oIFEQ, oICEQ, oIFNE, oICNE, oIFLT, oICLT, oIFGE, oICGE, oIFGT, oICGT, oIFLE, oICLE, oIFNULL, oIFNONNULL, oTSW, oLSW, oGETI, oGETL, oGETR, oPUTI, oPUTZ, oPUTL, oPUTR, oIALD, oBALD, oZALD, oLALD, oAALD, oALEN, oIAST, oBAST, oZAST, oLAST, oIRET, oZRET, oLRET, oVRET, oARET, oOBJ, oINI, oPS, oNEW, oNEWAI, oNEWAB, oNEWAZ, oNEWAL, oCOPY, oINV0, oINS0, oINV1, oINS1, oINV2, oINS2, oINV3, oINS3, oINV4, oINS4, oINV5, oINS5, oINV6, oINS6, List.getElem?_cons_zero, List.getElem?_cons_succ, List.set_cons_zero, List.set_cons_succ, znl, zs4, zc1, true_and, and_self, Value.category, Option.toList, List.cons_append, List.nil_append, zvr]
  refine zdown (m := L) (P := fun j => zV X M_X9_packed (zQm M_X9_packed R) 0 0 4 [.ref i, .long (zpv i j), .retAddr 0, .int (zj j)] [] h) (fun j hj ih => ?_) 0 (by omega)
  refine vb_X9_packed_4 _ _ _ ?_
  simp only [B_X9_packed_4, oPI, oPL, oILOAD, oLLOAD, oALOAD, oISTORE, oASTORE, oLSTORE, oIINC, oIADD, oISUB, oIMUL, oIAND, oIOR, oIXOR, oIDIV, oIREM, oISHL, oISHR, oIUSHR, oLADD, oLSUB, oLMUL, oLOR, oLDIV, oLREM, oLCMP, oLSHL, oINEG, oI2L, oL2I, oI2B, oI2C, oDUP, oPOP, oDUP2, oIFEQ, oICEQ, oIFNE, oICNE, oIFLT, oICLT, oIFGE, oICGE, oIFGT, oICGT, oIFLE, oICLE, oIFNULL, oIFNONNULL, oTSW, oLSW, oGETI, oGETL, oGETR, oPUTI, oPUTZ, oPUTL, oPUTR, oIALD, oBALD, oZALD, oLALD, oAALD, oALEN, oIAST, oBAST, oZAST, oLAST, oIRET, oZRET, oLRET, oVRET, oARET, oOBJ, oINI, oPS, oNEW, oNEWAI, oNEWAB, oNEWAZ, oNEWAL, oCOPY, oINV0, oINS0, oINV1, oINS1, oINV2, oINS2, oINV3, oINS3, oINV4, oINS4, oINV5, oINS5, oINV6, oINS6, List.getElem?_cons_zero, List.getElem?_cons_succ, List.set_cons_zero, List.set_cons_succ, znl, zs4, zc1, true_and, and_self, Value.category, Option.toList, List.cons_append, List.nil_append, zvr, oSLN]
  rw [← hL]
  by_cases cj : j = L
  · subst cj
    try simp (disch := omega) only [zgi_gz, zj_cn, zj_lt, zj_le, zj_eq, zj_add, zj_sub, zj_mul, zj_neg, zj_lt0, zj_le0, zj_0le, zj_0lt, zj_eq0]
    refine ⟨hi, fun _ => ?_, fun z => (by first | omega | exact absurd rfl z | exact absurd trivial z | exact absurd z (by decide))⟩
    refine vb_X9_packed_36 _ _ _ ?_
    simp only [B_X9_packed_36, oPI, oPL, oILOAD, oLLOAD, oALOAD, oISTORE, oASTORE, oLSTORE, oIINC, oIADD, oISUB, oIMUL, oIAND, oIOR, oIXOR, oIDIV, oIREM, oISHL, oISHR, oIUSHR, oLADD, oLSUB, oLMUL, oLOR, oLDIV, oLREM, oLCMP, oLSHL, oINEG, oI2L, oL2I, oI2B, oI2C, oDUP, oPOP, oDUP2, oIFEQ, oICEQ, oIFNE, oICNE, oIFLT, oICLT, oIFGE, oICGE, oIFGT, oICGT, oIFLE, oICLE, oIFNULL, oIFNONNULL, oTSW, oLSW, oGETI, oGETL, oGETR, oPUTI, oPUTZ, oPUTL, oPUTR, oIALD, oBALD, oZALD, oLALD, oAALD, oALEN, oIAST, oBAST, oZAST, oLAST, oIRET, oZRET, oLRET, oVRET, oARET, oOBJ, oINI, oPS, oNEW, oNEWAI, oNEWAB, oNEWAZ, oNEWAL, oCOPY, oINV0, oINS0, oINV1, oINS1, oINV2, oINS2, oINV3, oINS3, oINV4, oINS4, oINV5, oINS5, oINV6, oINS6, List.getElem?_cons_zero, List.getElem?_cons_succ, List.set_cons_zero, List.set_cons_succ, znl, zs4, zc1, true_and, and_self, Value.category, Option.toList, List.cons_append, List.nil_append, zvr]
    rw [hL, zpv_ok i hi]
    exact k
  try simp (disch := omega) only [zgi_gz, zj_cn, zj_lt, zj_le, zj_eq, zj_add, zj_sub, zj_mul, zj_neg, zj_lt0, zj_le0, zj_0le, zj_0lt, zj_eq0]
  refine ⟨hi, fun z => by omega, fun _ => ?_⟩
  simp only [oSCH, oPI, oPL, oILOAD, oLLOAD, oALOAD, oISTORE, oASTORE, oLSTORE, oIINC, oIADD, oISUB, oIMUL, oIAND, oIOR, oIXOR, oIDIV, oIREM, oISHL, oISHR, oIUSHR, oLADD, oLSUB, oLMUL, oLOR, oLDIV, oLREM, oLCMP, oLSHL, oINEG, oI2L, oL2I, oI2B, oI2C, oDUP, oPOP, oDUP2, oIFEQ, oICEQ, oIFNE, oICNE, oIFLT, oICLT, oIFGE, oICGE, oIFGT, oICGT, oIFLE, oICLE, oIFNULL, oIFNONNULL, oTSW, oLSW, oGETI, oGETL, oGETR, oPUTI, oPUTZ, oPUTL, oPUTR, oIALD, oBALD, oZALD, oLALD, oAALD, oALEN, oIAST, oBAST, oZAST, oLAST, oIRET, oZRET, oLRET, oVRET, oARET, oOBJ, oINI, oPS, oNEW, oNEWAI, oNEWAB, oNEWAZ, oNEWAL, oCOPY, oINV0, oINS0, oINV1, oINS1, oINV2, oINS2, oINV3, oINS3, oINV4, oINS4, oINV5, oINS5, oINV6, oINS6, List.getElem?_cons_zero, List.getElem?_cons_succ, List.set_cons_zero, List.set_cons_succ, znl, zs4, zc1, true_and, and_self, Value.category, Option.toList, List.cons_append, List.nil_append, zvr]
  refine ⟨hi, j, rfl, by omega, ?_⟩
  try rw [zj_add]
  exact ih (by omega)
end ZJF
