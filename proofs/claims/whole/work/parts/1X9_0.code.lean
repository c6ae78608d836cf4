section ZLW
variable {X : Nat × (Nat → Int32)} {M : zM} {Q : zQt} {k n pc : Nat} {K : zCf}
theorem z_ldcsW {p : Program} {l : Launch} {e : Env} {R : Room} {s : State} {m : MethodId} {args : Array Value} {below : List Frame} {meth : Method} {c : Code} {T : State} {locs : List Loc} {cells slots : Nat}
    (X : Stand p l e R s m args below meth c T locs cells slots) (hexec : p.tables.exec = Jvm.exec) {own text : String} {index : Nat} {a : Addr} (hown : s.vm.findClass own = some m.cls)
    (hconst : (Cond.stringRef own index text).before #[] s = true) (hev : (Term.string own index).eval #[] s none [] s = some (.ref a)) {g : JFrame} (hg : g.method = m) (hdg : decode c.code g.pc = .ok (.ldc_w index, 3)) :
    ∀ target, Steps p.tables e below (T.setTop { g with pc := g.pc + 3, stack := .ref a :: g.stack }) target → Steps p.tables e below (T.setTop g) target := by
  obtain ⟨k, cf, i, a', hk, hcf, hcp, -, hr, hev'⟩ := Cond.stringRef_spec hown hconst
  cases hev.symm.trans hev'
  obtain ⟨k', hk', he⟩ := X.warmed.alike.2.2 _ _ hk
  have hr' : k'.resolved[index]? = some (some (.string a)) := by
    rcases X.warmed.entry hk hk' index with h | ⟨h, -⟩
    · rw [h]; exact hr
    · rw [hr] at h; cases h
  intro target hrest
  subst hg
  jvm_step X.here [hexec, hdg, ldc_w.wp_string (e := e) (s := T) (f := g) X.here.top hk' (by rw [he]; exact hcf) hcp hr']
  exact hrest
theorem sd_ldcsw {i idx : Nat} {tx : String} (hd : decode M.2.1 pc = .ok (.ldc_w idx, 3)) (hi : zstr[i]? = some (tx, idx)) (hM : M.1.cls = "MirrorTubeModel") (hK : ∀ ls st h, K ls st h → zV X M Q k n (pc + 3) ls st h) : ∀ ls st h, oPS i K ls st h → zV X M Q k n pc ls st h := by
  intro ls st h hk p l e s m args below meth c A D ad0 ad tys ws H locs cls cst hB hls hst
  obtain ⟨-, ⟨adK, adV, g1, g2⟩, -⟩ := hB.2.1
  obtain ⟨h1, h2⟩ := g2 i _ hi
  have kk := hK _ _ _ hk p l e s m args below meth c A D ad0 ad tys ws H locs cls (.ref (adK i) :: cst) hB hls ⟨⟨_, hB.2.2.1 _ _ h2, rfl⟩, hst⟩
  intro T hT Xs
  obtain ⟨t, a, b⟩ := kk T hT Xs
  exact ⟨t, z_ldcsW Xs hB.1.1 (own := "MirrorTubeModel") (hM ▸ hB.1.2.2.2.2.1) h1.1 h1.2 (g := F0 m pc cls cst) rfl (by rw [hB.1.2.1]; exact hd) t a, b⟩
end ZLW
theorem dX9_init_0 : decode cX9_init 0 = .ok (.aload_n 0, 1) := by decide +kernel
theorem dX9_init_1 : decode cX9_init 1 = .ok (.invokespecial 3, 3) := by decide +kernel
theorem dX9_init_4 : decode cX9_init 4 = .ok (.aload_n 0, 1) := by decide +kernel
theorem dX9_init_5 : decode cX9_init 5 = .ok (.iconst (-1), 1) := by decide +kernel
theorem dX9_init_6 : decode cX9_init 6 = .ok (.putfield 9, 3) := by decide +kernel
theorem dX9_init_9 : decode cX9_init 9 = .ok (.aload_n 0, 1) := by decide +kernel
theorem dX9_init_10 : decode cX9_init 10 = .ok (.sipush 800, 3) := by decide +kernel
theorem dX9_init_13 : decode cX9_init 13 = .ok (.newarray .byte, 2) := by decide +kernel
theorem dX9_init_15 : decode cX9_init 15 = .ok (.putfield 13, 3) := by decide +kernel
theorem dX9_init_18 : decode cX9_init 18 = .ok (.aload_n 0, 1) := by decide +kernel
theorem dX9_init_19 : decode cX9_init 19 = .ok (.bipush 15, 2) := by decide +kernel
theorem dX9_init_21 : decode cX9_init 21 = .ok (.newarray .int, 2) := by decide +kernel
theorem dX9_init_23 : decode cX9_init 23 = .ok (.putfield 17, 3) := by decide +kernel
theorem dX9_init_26 : decode cX9_init 26 = .ok (.aload_n 0, 1) := by decide +kernel
theorem dX9_init_27 : decode cX9_init 27 = .ok (.bipush 15, 2) := by decide +kernel
theorem dX9_init_29 : decode cX9_init 29 = .ok (.newarray .int, 2) := by decide +kernel
theorem dX9_init_31 : decode cX9_init 31 = .ok (.putfield 21, 3) := by decide +kernel
theorem dX9_init_34 : decode cX9_init 34 = .ok (.aload_n 0, 1) := by decide +kernel
theorem dX9_init_35 : decode cX9_init 35 = .ok (.sipush 240, 3) := by decide +kernel
theorem dX9_init_38 : decode cX9_init 38 = .ok (.newarray .int, 2) := by decide +kernel
theorem dX9_init_40 : decode cX9_init 40 = .ok (.putfield 24, 3) := by decide +kernel
theorem dX9_init_43 : decode cX9_init 43 = .ok (.aload_n 0, 1) := by decide +kernel
theorem dX9_init_44 : decode cX9_init 44 = .ok (.bipush 45, 2) := by decide +kernel
theorem dX9_init_46 : decode cX9_init 46 = .ok (.newarray .int, 2) := by decide +kernel
theorem dX9_init_48 : decode cX9_init 48 = .ok (.putfield 27, 3) := by decide +kernel
theorem dX9_init_51 : decode cX9_init 51 = .ok (.aload_n 0, 1) := by decide +kernel
theorem dX9_init_52 : decode cX9_init 52 = .ok (.iconst 5, 1) := by decide +kernel
theorem dX9_init_53 : decode cX9_init 53 = .ok (.newarray .int, 2) := by decide +kernel
theorem dX9_init_55 : decode cX9_init 55 = .ok (.putfield 30, 3) := by decide +kernel
theorem dX9_init_58 : decode cX9_init 58 = .ok (.aload_n 0, 1) := by decide +kernel
theorem dX9_init_59 : decode cX9_init 59 = .ok (.iconst 5, 1) := by decide +kernel
theorem dX9_init_60 : decode cX9_init 60 = .ok (.newarray .int, 2) := by decide +kernel
theorem dX9_init_62 : decode cX9_init 62 = .ok (.putfield 33, 3) := by decide +kernel
theorem dX9_init_65 : decode cX9_init 65 = .ok (.return_, 1) := by decide +kernel
def B_X9_init_0 (X : Nat × (Nat → Int32)) (J : Nat → zCf) (R : zRt) : zCf := oALOAD 0 (oOBJ (oALOAD 0 (oPI (zj (-1)) (oPUTI 9 2 (oALOAD 0 (oPI (zj (800)) (oNEWAB 800 (oPUTR 9 5 (oALOAD 0 (oPI (zj (15)) (oNEWAI 15 (oPUTR 9 15 (oALOAD 0 (oPI (zj (15)) (oNEWAI 15 (oPUTR 9 16 (oALOAD 0 (oPI (zj (240)) (oNEWAI 240 (oPUTR 9 17 (oALOAD 0 (oPI (zj (45)) (oNEWAI 45 (oPUTR 9 18 (oALOAD 0 (oPI (zj (5)) (oNEWAI 5 (oPUTR 9 21 (oALOAD 0 (oPI (zj (5)) (oNEWAI 5 (oPUTR 9 22 (oVRET R)))))))))))))))))))))))))))))))))
set_option maxRecDepth 100000 in
theorem vb_X9_init_0 {X : Nat × (Nat → Int32)} {R : zRt} : ∀ ls st h, B_X9_init_0 X (fun t => zV X M_X9_init (zQm M_X9_init R) (if t ≤ 60 then 0 else 7) (if t ≤ 60 then 0 else 1125) t) R ls st h → zV X M_X9_init (zQm M_X9_init R) 0 0 0 ls st h := sd_aload_n dX9_init_0 rfl (sd_obj dX9_init_1 (zmt (zt5 (i := 93) rfl) rfl) (zmt (zt1 (i := 28) rfl) rfl) (zmt (zt1 (i := 29) rfl) rfl) (Nat.le_of_ble_eq_true rfl) (Nat.le_of_ble_eq_true rfl) (sd_aload_n dX9_init_4 rfl (sd_iconst dX9_init_5 rfl (sd_puti dX9_init_6 zCl9 (Nat.le_of_ble_eq_true rfl) lk_RX9_9 rfl (Or.inl rfl) (sd_aload_n dX9_init_9 rfl (sd_sipush dX9_init_10 rfl (sd_newab dX9_init_13 (zmt (zt1 (i := 72) rfl) rfl) (by decide) (Nat.le_of_ble_eq_true rfl) (Nat.le_of_ble_eq_true rfl) (sd_putr dX9_init_15 zCl9 (Nat.le_of_ble_eq_true rfl) lk_RX9_13 (Or.inr ⟨_, rfl⟩) (Or.inr ⟨rfl, rfl, rfl, (zmt (zt5 (i := 99) rfl) rfl)⟩) (sd_aload_n dX9_init_18 rfl (sd_bipush dX9_init_19 rfl (sd_newai dX9_init_21 (zmt (zt1 (i := 155) rfl) rfl) (by decide) (Nat.le_of_ble_eq_true rfl) (Nat.le_of_ble_eq_true rfl) (sd_putr dX9_init_23 zCl9 (Nat.le_of_ble_eq_true rfl) lk_RX9_17 (Or.inr ⟨_, rfl⟩) (Or.inr ⟨rfl, rfl, rfl, (zmt (zt5 (i := 109) rfl) rfl)⟩) (sd_aload_n dX9_init_26 rfl (sd_bipush dX9_init_27 rfl (sd_newai dX9_init_29 (zmt (zt1 (i := 155) rfl) rfl) (by decide) (Nat.le_of_ble_eq_true rfl) (Nat.le_of_ble_eq_true rfl) (sd_putr dX9_init_31 zCl9 (Nat.le_of_ble_eq_true rfl) lk_RX9_21 (Or.inr ⟨_, rfl⟩) (Or.inr ⟨rfl, rfl, rfl, (zmt (zt5 (i := 110) rfl) rfl)⟩) (sd_aload_n dX9_init_34 rfl (sd_sipush dX9_init_35 rfl (sd_newai dX9_init_38 (zmt (zt1 (i := 155) rfl) rfl) (by decide) (Nat.le_of_ble_eq_true rfl) (Nat.le_of_ble_eq_true rfl) (sd_putr dX9_init_40 zCl9 (Nat.le_of_ble_eq_true rfl) lk_RX9_24 (Or.inr ⟨_, rfl⟩) (Or.inr ⟨rfl, rfl, rfl, (zmt (zt5 (i := 111) rfl) rfl)⟩) (sd_aload_n dX9_init_43 rfl (sd_bipush dX9_init_44 rfl (sd_newai dX9_init_46 (zmt (zt1 (i := 155) rfl) rfl) (by decide) (Nat.le_of_ble_eq_true rfl) (Nat.le_of_ble_eq_true rfl) (sd_putr dX9_init_48 zCl9 (Nat.le_of_ble_eq_true rfl) lk_RX9_27 (Or.inr ⟨_, rfl⟩) (Or.inr ⟨rfl, rfl, rfl, (zmt (zt5 (i := 112) rfl) rfl)⟩) (sd_aload_n dX9_init_51 rfl (sd_iconst dX9_init_52 rfl (sd_newai dX9_init_53 (zmt (zt1 (i := 155) rfl) rfl) (by decide) (Nat.le_of_ble_eq_true rfl) (Nat.le_of_ble_eq_true rfl) (sd_putr dX9_init_55 zCl9 (Nat.le_of_ble_eq_true rfl) lk_RX9_30 (Or.inr ⟨_, rfl⟩) (Or.inr ⟨rfl, rfl, rfl, (zmt (zt5 (i := 115) rfl) rfl)⟩) (sd_aload_n dX9_init_58 rfl (sd_iconst dX9_init_59 rfl (sd_newai dX9_init_60 (zmt (zt1 (i := 155) rfl) rfl) (by decide) (Nat.le_of_ble_eq_true rfl) (Nat.le_of_ble_eq_true rfl) (sd_putr dX9_init_62 zCl9 (Nat.le_of_ble_eq_true rfl) lk_RX9_33 (Or.inr ⟨_, rfl⟩) (Or.inr ⟨rfl, rfl, rfl, (zmt (zt5 (i := 116) rfl) rfl)⟩) (sd_vret dX9_init_65 rfl (Nat.le_of_ble_eq_true rfl) (Nat.le_of_ble_eq_true rfl))))))))))))))))))))))))))))))))))
theorem dX9_thrown_0 : decode cX9_thrown 0 = .ok (.aload_n 0, 1) := by decide +kernel
theorem dX9_thrown_1 : decode cX9_thrown 1 = .ok (.getfield 36, 3) := by decide +kernel
theorem dX9_thrown_4 : decode cX9_thrown 4 = .ok (.ireturn, 1) := by decide +kernel
def B_X9_thrown_0 (X : Nat × (Nat → Int32)) (J : Nat → zCf) (R : zRt) : zCf := oALOAD 0 (oGETI 9 0 (oIRET R))
set_option maxRecDepth 100000 in
theorem vb_X9_thrown_0 {X : Nat × (Nat → Int32)} {R : zRt} : ∀ ls st h, B_X9_thrown_0 X (zV X M_X9_thrown (zQm M_X9_thrown R) 0 0) R ls st h → zV X M_X9_thrown (zQm M_X9_thrown R) 0 0 0 ls st h := sd_aload_n dX9_thrown_0 rfl (sd_geti dX9_thrown_1 zCl9 (Nat.le_of_ble_eq_true rfl) lk_RX9_36 (Or.inl rfl) (sd_iret dX9_thrown_4 rfl (Nat.le_of_ble_eq_true rfl) (Nat.le_of_ble_eq_true rfl)))
theorem dX9_refused_0 : decode cX9_refused 0 = .ok (.aload_n 0, 1) := by decide +kernel
theorem dX9_refused_1 : decode cX9_refused 1 = .ok (.iload_n 1, 1) := by decide +kernel
theorem dX9_refused_2 : decode cX9_refused 2 = .ok (.putfield 39, 3) := by decide +kernel
theorem dX9_refused_5 : decode cX9_refused 5 = .ok (.aload_n 0, 1) := by decide +kernel
theorem dX9_refused_6 : decode cX9_refused 6 = .ok (.iconst (-1), 1) := by decide +kernel
theorem dX9_refused_7 : decode cX9_refused 7 = .ok (.putfield 9, 3) := by decide +kernel
theorem dX9_refused_10 : decode cX9_refused 10 = .ok (.iconst (-1), 1) := by decide +kernel
theorem dX9_refused_11 : decode cX9_refused 11 = .ok (.ireturn, 1) := by decide +kernel
def B_X9_refused_0 (X : Nat × (Nat → Int32)) (J : Nat → zCf) (R : zRt) : zCf := oALOAD 0 (oILOAD 1 (oPUTI 9 1 (oALOAD 0 (oPI (zj (-1)) (oPUTI 9 2 (oPI (zj (-1)) (oIRET R)))))))
set_option maxRecDepth 100000 in
theorem vb_X9_refused_0 {X : Nat × (Nat → Int32)} {R : zRt} : ∀ ls st h, B_X9_refused_0 X (zV X M_X9_refused (zQm M_X9_refused R) 0 0) R ls st h → zV X M_X9_refused (zQm M_X9_refused R) 0 0 0 ls st h := sd_aload_n dX9_refused_0 rfl (sd_iload_n dX9_refused_1 rfl (sd_puti dX9_refused_2 zCl9 (Nat.le_of_ble_eq_true rfl) lk_RX9_39 rfl (Or.inl rfl) (sd_aload_n dX9_refused_5 rfl (sd_iconst dX9_refused_6 rfl (sd_puti dX9_refused_7 zCl9 (Nat.le_of_ble_eq_true rfl) lk_RX9_9 rfl (Or.inl rfl) (sd_iconst dX9_refused_10 rfl (sd_iret dX9_refused_11 rfl (Nat.le_of_ble_eq_true rfl) (Nat.le_of_ble_eq_true rfl))))))))
theorem dX9_lost_0 : decode cX9_lost 0 = .ok (.aload_n 0, 1) := by decide +kernel
theorem dX9_lost_1 : decode cX9_lost 1 = .ok (.iload_n 1, 1) := by decide +kernel
theorem dX9_lost_2 : decode cX9_lost 2 = .ok (.invokevirtual 42, 3) := by decide +kernel
theorem dX9_lost_5 : decode cX9_lost 5 = .ok (.pop, 1) := by decide +kernel
theorem dX9_lost_6 : decode cX9_lost 6 = .ok (.bipush (-100), 2) := by decide +kernel
theorem dX9_lost_8 : decode cX9_lost 8 = .ok (.ireturn, 1) := by decide +kernel
def B_X9_lost_0 (X : Nat × (Nat → Int32)) (J : Nat → zCf) (R : zRt) : zCf := oALOAD 0 (oILOAD 1 (oINV1 X M_X9_refused 9 (oPOP (oPI (zj (-100)) (oIRET R)))))
set_option maxRecDepth 100000 in
theorem vb_X9_lost_0 {X : Nat × (Nat → Int32)} {R : zRt} : ∀ ls st h, B_X9_lost_0 X (zV X M_X9_lost (zQm M_X9_lost R) 0 0) R ls st h → zV X M_X9_lost (zQm M_X9_lost R) 0 0 0 ls st h := sd_aload_n dX9_lost_0 rfl (sd_iload_n dX9_lost_1 rfl (sd_inv1 dX9_lost_2 rfl mv_X9_refused na_X9_refused ml_RX9_42 ⟨⟨Nat.le_of_ble_eq_true rfl, Nat.le_of_ble_eq_true rfl⟩, ⟨Nat.le_of_ble_eq_true rfl, Nat.le_of_ble_eq_true rfl⟩⟩ (sd_pop dX9_lost_5 (sd_bipush dX9_lost_6 rfl (sd_iret dX9_lost_8 rfl (Nat.le_of_ble_eq_true rfl) (Nat.le_of_ble_eq_true rfl))))))
theorem dX9_denied_0 : decode cX9_denied 0 = .ok (.aload_n 0, 1) := by decide +kernel
theorem dX9_denied_1 : decode cX9_denied 1 = .ok (.iload_n 1, 1) := by decide +kernel
theorem dX9_denied_2 : decode cX9_denied 2 = .ok (.invokevirtual 42, 3) := by decide +kernel
theorem dX9_denied_5 : decode cX9_denied 5 = .ok (.pop, 1) := by decide +kernel
theorem dX9_denied_6 : decode cX9_denied 6 = .ok (.iconst 0, 1) := by decide +kernel
theorem dX9_denied_7 : decode cX9_denied 7 = .ok (.ireturn, 1) := by decide +kernel
def B_X9_denied_0 (X : Nat × (Nat → Int32)) (J : Nat → zCf) (R : zRt) : zCf := oALOAD 0 (oILOAD 1 (oINV1 X M_X9_refused 9 (oPOP (oPI (zj (0)) (oZRET R)))))
set_option maxRecDepth 100000 in
theorem vb_X9_denied_0 {X : Nat × (Nat → Int32)} {R : zRt} : ∀ ls st h, B_X9_denied_0 X (zV X M_X9_denied (zQm M_X9_denied R) 0 0) R ls st h → zV X M_X9_denied (zQm M_X9_denied R) 0 0 0 ls st h := sd_aload_n dX9_denied_0 rfl (sd_iload_n dX9_denied_1 rfl (sd_inv1 dX9_denied_2 rfl mv_X9_refused na_X9_refused ml_RX9_42 ⟨⟨Nat.le_of_ble_eq_true rfl, Nat.le_of_ble_eq_true rfl⟩, ⟨Nat.le_of_ble_eq_true rfl, Nat.le_of_ble_eq_true rfl⟩⟩ (sd_pop dX9_denied_5 (sd_iconst dX9_denied_6 rfl (sd_zret dX9_denied_7 rfl (Nat.le_of_ble_eq_true rfl) (Nat.le_of_ble_eq_true rfl))))))
theorem dX9_good_0 : decode cX9_good 0 = .ok (.aload_n 0, 1) := by decide +kernel
theorem dX9_good_1 : decode cX9_good 1 = .ok (.iconst 0, 1) := by decide +kernel
theorem dX9_good_2 : decode cX9_good 2 = .ok (.putfield 39, 3) := by decide +kernel
theorem dX9_good_5 : decode cX9_good 5 = .ok (.aload_n 0, 1) := by decide +kernel
theorem dX9_good_6 : decode cX9_good 6 = .ok (.iconst (-1), 1) := by decide +kernel
theorem dX9_good_7 : decode cX9_good 7 = .ok (.putfield 9, 3) := by decide +kernel
theorem dX9_good_10 : decode cX9_good 10 = .ok (.iload_n 1, 1) := by decide +kernel
theorem dX9_good_11 : decode cX9_good 11 = .ok (.ireturn, 1) := by decide +kernel
def B_X9_good_0 (X : Nat × (Nat → Int32)) (J : Nat → zCf) (R : zRt) : zCf := oALOAD 0 (oPI (zj (0)) (oPUTI 9 1 (oALOAD 0 (oPI (zj (-1)) (oPUTI 9 2 (oILOAD 1 (oIRET R)))))))
set_option maxRecDepth 100000 in
theorem vb_X9_good_0 {X : Nat × (Nat → Int32)} {R : zRt} : ∀ ls st h, B_X9_good_0 X (zV X M_X9_good (zQm M_X9_good R) 0 0) R ls st h → zV X M_X9_good (zQm M_X9_good R) 0 0 0 ls st h := sd_aload_n dX9_good_0 rfl (sd_iconst dX9_good_1 rfl (sd_puti dX9_good_2 zCl9 (Nat.le_of_ble_eq_true rfl) lk_RX9_39 rfl (Or.inl rfl) (sd_aload_n dX9_good_5 rfl (sd_iconst dX9_good_6 rfl (sd_puti dX9_good_7 zCl9 (Nat.le_of_ble_eq_true rfl) lk_RX9_9 rfl (Or.inl rfl) (sd_iload_n dX9_good_10 rfl (sd_iret dX9_good_11 rfl (Nat.le_of_ble_eq_true rfl) (Nat.le_of_ble_eq_true rfl))))))))
theorem dX9_granted_0 : decode cX9_granted 0 = .ok (.aload_n 0, 1) := by decide +kernel
theorem dX9_granted_1 : decode cX9_granted 1 = .ok (.iconst 0, 1) := by decide +kernel
theorem dX9_granted_2 : decode cX9_granted 2 = .ok (.invokevirtual 46, 3) := by decide +kernel
theorem dX9_granted_5 : decode cX9_granted 5 = .ok (.pop, 1) := by decide +kernel
theorem dX9_granted_6 : decode cX9_granted 6 = .ok (.iconst 1, 1) := by decide +kernel
theorem dX9_granted_7 : decode cX9_granted 7 = .ok (.ireturn, 1) := by decide +kernel
def B_X9_granted_0 (X : Nat × (Nat → Int32)) (J : Nat → zCf) (R : zRt) : zCf := oALOAD 0 (oPI (zj (0)) (oINV1 X M_X9_good 9 (oPOP (oPI (zj (1)) (oZRET R)))))
set_option maxRecDepth 100000 in
theorem vb_X9_granted_0 {X : Nat × (Nat → Int32)} {R : zRt} : ∀ ls st h, B_X9_granted_0 X (zV X M_X9_granted (zQm M_X9_granted R) 0 0) R ls st h → zV X M_X9_granted (zQm M_X9_granted R) 0 0 0 ls st h := sd_aload_n dX9_granted_0 rfl (sd_iconst dX9_granted_1 rfl (sd_inv1 dX9_granted_2 rfl mv_X9_good na_X9_good ml_RX9_46 ⟨⟨Nat.le_of_ble_eq_true rfl, Nat.le_of_ble_eq_true rfl⟩, ⟨Nat.le_of_ble_eq_true rfl, Nat.le_of_ble_eq_true rfl⟩⟩ (sd_pop dX9_granted_5 (sd_iconst dX9_granted_6 rfl (sd_zret dX9_granted_7 rfl (Nat.le_of_ble_eq_true rfl) (Nat.le_of_ble_eq_true rfl))))))
theorem dX9_in_0 : decode cX9_in 0 = .ok (.iload_n 0, 1) := by decide +kernel
theorem dX9_in_1 : decode cX9_in 1 = .ok (.iload_n 1, 1) := by decide +kernel
theorem dX9_in_2 : decode cX9_in 2 = .ok (.if_icmp .lt 12, 3) := by decide +kernel
theorem dX9_in_5 : decode cX9_in 5 = .ok (.iload_n 0, 1) := by decide +kernel
theorem dX9_in_6 : decode cX9_in 6 = .ok (.iload_n 2, 1) := by decide +kernel
theorem dX9_in_7 : decode cX9_in 7 = .ok (.if_icmp .gt 7, 3) := by decide +kernel
theorem dX9_in_10 : decode cX9_in 10 = .ok (.iconst 1, 1) := by decide +kernel
theorem dX9_in_11 : decode cX9_in 11 = .ok (.goto 4, 3) := by decide +kernel
theorem dX9_in_14 : decode cX9_in 14 = .ok (.iconst 0, 1) := by decide +kernel
theorem dX9_in_15 : decode cX9_in 15 = .ok (.ireturn, 1) := by decide +kernel
def B_X9_in_0 (X : Nat × (Nat → Int32)) (J : Nat → zCf) (R : zRt) : zCf := oILOAD 0 (oILOAD 1 (oICLT (J 14) (oILOAD 0 (oILOAD 2 (oICGT (J 14) (oPI (zj (1)) (J 15)))))))
set_option maxRecDepth 100000 in
theorem vb_X9_in_0 {X : Nat × (Nat → Int32)} {R : zRt} : ∀ ls st h, B_X9_in_0 X (zV X M_X9_in (zQm M_X9_in R) 0 0) R ls st h → zV X M_X9_in (zQm M_X9_in R) 0 0 0 ls st h := sd_iload_n dX9_in_0 rfl (sd_iload_n dX9_in_1 rfl (sd_iclt dX9_in_2 rfl (fun _ _ _ h => h) (sd_iload_n dX9_in_5 rfl (sd_iload_n dX9_in_6 rfl (sd_icgt dX9_in_7 rfl (fun _ _ _ h => h) (sd_iconst dX9_in_10 rfl (sd_goto dX9_in_11 rfl (fun _ _ _ h => h))))))))
def B_X9_in_14 (X : Nat × (Nat → Int32)) (J : Nat → zCf) (R : zRt) : zCf := oPI (zj (0)) (J 15)
set_option maxRecDepth 100000 in
theorem vb_X9_in_14 {X : Nat × (Nat → Int32)} {R : zRt} : ∀ ls st h, B_X9_in_14 X (zV X M_X9_in (zQm M_X9_in R) 0 0) R ls st h → zV X M_X9_in (zQm M_X9_in R) 0 0 14 ls st h := sd_iconst dX9_in_14 rfl (fun _ _ _ h => h)
def B_X9_in_15 (X : Nat × (Nat → Int32)) (J : Nat → zCf) (R : zRt) : zCf := oZRET R
set_option maxRecDepth 100000 in
theorem vb_X9_in_15 {X : Nat × (Nat → Int32)} {R : zRt} : ∀ ls st h, B_X9_in_15 X (zV X M_X9_in (zQm M_X9_in R) 0 0) R ls st h → zV X M_X9_in (zQm M_X9_in R) 0 0 15 ls st h := sd_zret dX9_in_15 rfl (Nat.le_of_ble_eq_true rfl) (Nat.le_of_ble_eq_true rfl)
theorem dX9_has_0 : decode cX9_has 0 = .ok (.iload_n 0, 1) := by decide +kernel
theorem dX9_has_1 : decode cX9_has 1 = .ok (.iload_n 1, 1) := by decide +kernel
theorem dX9_has_2 : decode cX9_has 2 = .ok (.ishr, 1) := by decide +kernel
theorem dX9_has_3 : decode cX9_has 3 = .ok (.iconst 1, 1) := by decide +kernel
theorem dX9_has_4 : decode cX9_has 4 = .ok (.iand, 1) := by decide +kernel
theorem dX9_has_5 : decode cX9_has 5 = .ok (.iconst 1, 1) := by decide +kernel
theorem dX9_has_6 : decode cX9_has 6 = .ok (.if_icmp .ne 7, 3) := by decide +kernel
theorem dX9_has_9 : decode cX9_has 9 = .ok (.iconst 1, 1) := by decide +kernel
theorem dX9_has_10 : decode cX9_has 10 = .ok (.goto 4, 3) := by decide +kernel
theorem dX9_has_13 : decode cX9_has 13 = .ok (.iconst 0, 1) := by decide +kernel
theorem dX9_has_14 : decode cX9_has 14 = .ok (.ireturn, 1) := by decide +kernel
def B_X9_has_0 (X : Nat × (Nat → Int32)) (J : Nat → zCf) (R : zRt) : zCf := oILOAD 0 (oILOAD 1 (oISHR (oPI (zj (1)) (oIAND (oPI (zj (1)) (oICNE (J 13) (oPI (zj (1)) (J 14))))))))
set_option maxRecDepth 100000 in
theorem vb_X9_has_0 {X : Nat × (Nat → Int32)} {R : zRt} : ∀ ls st h, B_X9_has_0 X (zV X M_X9_has (zQm M_X9_has R) 0 0) R ls st h → zV X M_X9_has (zQm M_X9_has R) 0 0 0 ls st h := sd_iload_n dX9_has_0 rfl (sd_iload_n dX9_has_1 rfl (sd_ishr dX9_has_2 (sd_iconst dX9_has_3 rfl (sd_iand dX9_has_4 (sd_iconst dX9_has_5 rfl (sd_icne dX9_has_6 rfl (fun _ _ _ h => h) (sd_iconst dX9_has_9 rfl (sd_goto dX9_has_10 rfl (fun _ _ _ h => h)))))))))
def B_X9_has_13 (X : Nat × (Nat → Int32)) (J : Nat → zCf) (R : zRt) : zCf := oPI (zj (0)) (J 14)
set_option maxRecDepth 100000 in
theorem vb_X9_has_13 {X : Nat × (Nat → Int32)} {R : zRt} : ∀ ls st h, B_X9_has_13 X (zV X M_X9_has (zQm M_X9_has R) 0 0) R ls st h → zV X M_X9_has (zQm M_X9_has R) 0 0 13 ls st h := sd_iconst dX9_has_13 rfl (fun _ _ _ h => h)
def B_X9_has_14 (X : Nat × (Nat → Int32)) (J : Nat → zCf) (R : zRt) : zCf := oZRET R
set_option maxRecDepth 100000 in
theorem vb_X9_has_14 {X : Nat × (Nat → Int32)} {R : zRt} : ∀ ls st h, B_X9_has_14 X (zV X M_X9_has (zQm M_X9_has R) 0 0) R ls st h → zV X M_X9_has (zQm M_X9_has R) 0 0 14 ls st h := sd_zret dX9_has_14 rfl (Nat.le_of_ble_eq_true rfl) (Nat.le_of_ble_eq_true rfl)
theorem dX9_bits_0 : decode cX9_bits 0 = .ok (.iconst 0, 1) := by decide +kernel
theorem dX9_bits_1 : decode cX9_bits 1 = .ok (.istore_n 1, 1) := by decide +kernel
theorem dX9_bits_2 : decode cX9_bits 2 = .ok (.iload_n 0, 1) := by decide +kernel
theorem dX9_bits_3 : decode cX9_bits 3 = .ok (.istore_n 2, 1) := by decide +kernel
theorem dX9_bits_4 : decode cX9_bits 4 = .ok (.iload_n 2, 1) := by decide +kernel
theorem dX9_bits_5 : decode cX9_bits 5 = .ok (.ifCond .eq 15, 3) := by decide +kernel
theorem dX9_bits_8 : decode cX9_bits 8 = .ok (.iinc 1 1, 3) := by decide +kernel
theorem dX9_bits_11 : decode cX9_bits 11 = .ok (.iload_n 2, 1) := by decide +kernel
theorem dX9_bits_12 : decode cX9_bits 12 = .ok (.iload_n 2, 1) := by decide +kernel
theorem dX9_bits_13 : decode cX9_bits 13 = .ok (.iconst 1, 1) := by decide +kernel
theorem dX9_bits_14 : decode cX9_bits 14 = .ok (.isub, 1) := by decide +kernel
theorem dX9_bits_15 : decode cX9_bits 15 = .ok (.iand, 1) := by decide +kernel
theorem dX9_bits_16 : decode cX9_bits 16 = .ok (.istore_n 2, 1) := by decide +kernel
theorem dX9_bits_17 : decode cX9_bits 17 = .ok (.goto (-13), 3) := by decide +kernel
theorem dX9_bits_20 : decode cX9_bits 20 = .ok (.iload_n 1, 1) := by decide +kernel
theorem dX9_bits_21 : decode cX9_bits 21 = .ok (.ireturn, 1) := by decide +kernel
def B_X9_bits_0 (X : Nat × (Nat → Int32)) (J : Nat → zCf) (R : zRt) : zCf := oPI (zj (0)) (oISTORE 0 1 (oILOAD 0 (oISTORE 1 2 (J 4))))
set_option maxRecDepth 100000 in
theorem vb_X9_bits_0 {X : Nat × (Nat → Int32)} {R : zRt} : ∀ ls st h, B_X9_bits_0 X (zV X M_X9_bits (zQm M_X9_bits R) 0 0) R ls st h → zV X M_X9_bits (zQm M_X9_bits R) 0 0 0 ls st h := sd_iconst dX9_bits_0 rfl (sd_istore_n dX9_bits_1 rfl (Nat.le_of_ble_eq_true rfl) (Or.inl rfl) (sd_iload_n dX9_bits_2 rfl (sd_istore_n dX9_bits_3 rfl (Nat.le_of_ble_eq_true rfl) (Or.inl rfl) (fun _ _ _ h => h))))
def B_X9_bits_4 (X : Nat × (Nat → Int32)) (J : Nat → zCf) (R : zRt) : zCf := oILOAD 2 (oIFEQ (J 20) (oIINC 0 1 (zj (1)) (oILOAD 2 (oILOAD 2 (oPI (zj (1)) (oISUB (oIAND (oISTORE 1 2 (J 4)))))))))
set_option maxRecDepth 100000 in
theorem vb_X9_bits_4 {X : Nat × (Nat → Int32)} {R : zRt} : ∀ ls st h, B_X9_bits_4 X (zV X M_X9_bits (zQm M_X9_bits R) 0 0) R ls st h → zV X M_X9_bits (zQm M_X9_bits R) 0 0 4 ls st h := sd_iload_n dX9_bits_4 rfl (sd_ifeq dX9_bits_5 rfl (fun _ _ _ h => h) (sd_iinc dX9_bits_8 rfl (Nat.le_of_ble_eq_true rfl) (Or.inl rfl) (sd_iload_n dX9_bits_11 rfl (sd_iload_n dX9_bits_12 rfl (sd_iconst dX9_bits_13 rfl (sd_isub dX9_bits_14 (sd_iand dX9_bits_15 (sd_istore_n dX9_bits_16 rfl (Nat.le_of_ble_eq_true rfl) (Or.inl rfl) (sd_goto dX9_bits_17 rfl (fun _ _ _ h => h))))))))))
def B_X9_bits_20 (X : Nat × (Nat → Int32)) (J : Nat → zCf) (R : zRt) : zCf := oILOAD 1 (oIRET R)
set_option maxRecDepth 100000 in
theorem vb_X9_bits_20 {X : Nat × (Nat → Int32)} {R : zRt} : ∀ ls st h, B_X9_bits_20 X (zV X M_X9_bits (zQm M_X9_bits R) 0 0) R ls st h → zV X M_X9_bits (zQm M_X9_bits R) 0 0 20 ls st h := sd_iload_n dX9_bits_20 rfl (sd_iret dX9_bits_21 rfl (Nat.le_of_ble_eq_true rfl) (Nat.le_of_ble_eq_true rfl))
theorem dX9_round_0 : decode cX9_round 0 = .ok (.iload_n 0, 1) := by decide +kernel
theorem dX9_round_1 : decode cX9_round 1 = .ok (.bipush 12, 2) := by decide +kernel
theorem dX9_round_3 : decode cX9_round 3 = .ok (.irem, 1) := by decide +kernel
theorem dX9_round_4 : decode cX9_round 4 = .ok (.bipush 12, 2) := by decide +kernel
theorem dX9_round_6 : decode cX9_round 6 = .ok (.iadd, 1) := by decide +kernel
theorem dX9_round_7 : decode cX9_round 7 = .ok (.bipush 12, 2) := by decide +kernel
theorem dX9_round_9 : decode cX9_round 9 = .ok (.irem, 1) := by decide +kernel
theorem dX9_round_10 : decode cX9_round 10 = .ok (.ireturn, 1) := by decide +kernel
def B_X9_round_0 (X : Nat × (Nat → Int32)) (J : Nat → zCf) (R : zRt) : zCf := oILOAD 0 (oPI (zj (12)) (oIREM (oPI (zj (12)) (oIADD (oPI (zj (12)) (oIREM (oIRET R)))))))
set_option maxRecDepth 100000 in
theorem vb_X9_round_0 {X : Nat × (Nat → Int32)} {R : zRt} : ∀ ls st h, B_X9_round_0 X (zV X M_X9_round (zQm M_X9_round R) 0 0) R ls st h → zV X M_X9_round (zQm M_X9_round R) 0 0 0 ls st h := sd_iload_n dX9_round_0 rfl (sd_bipush dX9_round_1 rfl (sd_irem dX9_round_3 (sd_bipush dX9_round_4 rfl (sd_iadd dX9_round_6 (sd_bipush dX9_round_7 rfl (sd_irem dX9_round_9 (sd_iret dX9_round_10 rfl (Nat.le_of_ble_eq_true rfl) (Nat.le_of_ble_eq_true rfl))))))))
theorem dX9_common_0 : decode cX9_common 0 = .ok (.lload_n 0, 1) := by decide +kernel
theorem dX9_common_1 : decode cX9_common 1 = .ok (.lstore 4, 2) := by decide +kernel
theorem dX9_common_3 : decode cX9_common 3 = .ok (.lload_n 2, 1) := by decide +kernel
theorem dX9_common_4 : decode cX9_common 4 = .ok (.lstore 6, 2) := by decide +kernel
theorem dX9_common_6 : decode cX9_common 6 = .ok (.lload 6, 2) := by decide +kernel
theorem dX9_common_8 : decode cX9_common 8 = .ok (.lconst 0, 1) := by decide +kernel
theorem dX9_common_9 : decode cX9_common 9 = .ok (.lcmp, 1) := by decide +kernel
theorem dX9_common_10 : decode cX9_common 10 = .ok (.ifCond .eq 21, 3) := by decide +kernel
theorem dX9_common_13 : decode cX9_common 13 = .ok (.lload 4, 2) := by decide +kernel
theorem dX9_common_15 : decode cX9_common 15 = .ok (.lload 6, 2) := by decide +kernel
theorem dX9_common_17 : decode cX9_common 17 = .ok (.lrem, 1) := by decide +kernel
theorem dX9_common_18 : decode cX9_common 18 = .ok (.lstore 8, 2) := by decide +kernel
theorem dX9_common_20 : decode cX9_common 20 = .ok (.lload 6, 2) := by decide +kernel
theorem dX9_common_22 : decode cX9_common 22 = .ok (.lstore 4, 2) := by decide +kernel
theorem dX9_common_24 : decode cX9_common 24 = .ok (.lload 8, 2) := by decide +kernel
theorem dX9_common_26 : decode cX9_common 26 = .ok (.lstore 6, 2) := by decide +kernel
theorem dX9_common_28 : decode cX9_common 28 = .ok (.goto (-22), 3) := by decide +kernel
theorem dX9_common_31 : decode cX9_common 31 = .ok (.lload 4, 2) := by decide +kernel
theorem dX9_common_33 : decode cX9_common 33 = .ok (.lreturn, 1) := by decide +kernel
def B_X9_common_0 (X : Nat × (Nat → Int32)) (J : Nat → zCf) (R : zRt) : zCf := oLLOAD 0 (oLSTORE 3 4 (oLLOAD 2 (oLSTORE 5 6 (J 6))))
set_option maxRecDepth 100000 in
theorem vb_X9_common_0 {X : Nat × (Nat → Int32)} {R : zRt} : ∀ ls st h, B_X9_common_0 X (zV X M_X9_common (zQm M_X9_common R) 0 0) R ls st h → zV X M_X9_common (zQm M_X9_common R) 0 0 0 ls st h := sd_lload_n dX9_common_0 rfl (sd_lstore dX9_common_1 (Nat.le_of_ble_eq_true rfl) (Or.inl rfl) (sd_lload_n dX9_common_3 rfl (sd_lstore dX9_common_4 (Nat.le_of_ble_eq_true rfl) (Or.inl rfl) (fun _ _ _ h => h))))
def B_X9_common_6 (X : Nat × (Nat → Int32)) (J : Nat → zCf) (R : zRt) : zCf := oLLOAD 6 (oPL (zk (0)) (oLCMP (oIFEQ (J 31) (oLLOAD 4 (oLLOAD 6 (oLREM (oLSTORE 7 8 (oLLOAD 6 (oLSTORE 3 4 (oLLOAD 8 (oLSTORE 5 6 (J 6))))))))))))
set_option maxRecDepth 100000 in
theorem vb_X9_common_6 {X : Nat × (Nat → Int32)} {R : zRt} : ∀ ls st h, B_X9_common_6 X (zV X M_X9_common (zQm M_X9_common R) 0 0) R ls st h → zV X M_X9_common (zQm M_X9_common R) 0 0 6 ls st h := sd_lload dX9_common_6 (sd_lconst dX9_common_8 rfl (sd_lcmp dX9_common_9 (sd_ifeq dX9_common_10 rfl (fun _ _ _ h => h) (sd_lload dX9_common_13 (sd_lload dX9_common_15 (sd_lrem dX9_common_17 (sd_lstore dX9_common_18 (Nat.le_of_ble_eq_true rfl) (Or.inl rfl) (sd_lload dX9_common_20 (sd_lstore dX9_common_22 (Nat.le_of_ble_eq_true rfl) (Or.inl rfl) (sd_lload dX9_common_24 (sd_lstore dX9_common_26 (Nat.le_of_ble_eq_true rfl) (Or.inl rfl) (sd_goto dX9_common_28 rfl (fun _ _ _ h => h)))))))))))))
def B_X9_common_31 (X : Nat × (Nat → Int32)) (J : Nat → zCf) (R : zRt) : zCf := oLLOAD 4 (oLRET R)
set_option maxRecDepth 100000 in
theorem vb_X9_common_31 {X : Nat × (Nat → Int32)} {R : zRt} : ∀ ls st h, B_X9_common_31 X (zV X M_X9_common (zQm M_X9_common R) 0 0) R ls st h → zV X M_X9_common (zQm M_X9_common R) 0 0 31 ls st h := sd_lload dX9_common_31 (sd_lret dX9_common_33 rfl (Nat.le_of_ble_eq_true rfl) (Nat.le_of_ble_eq_true rfl))
theorem dX9_fraction_0 : decode cX9_fraction 0 = .ok (.aload_n 0, 1) := by decide +kernel
theorem dX9_fraction_1 : decode cX9_fraction 1 = .ok (.iconst 0, 1) := by decide +kernel
theorem dX9_fraction_2 : decode cX9_fraction 2 = .ok (.invokevirtual 46, 3) := by decide +kernel
theorem dX9_fraction_5 : decode cX9_fraction 5 = .ok (.pop, 1) := by decide +kernel
theorem dX9_fraction_6 : decode cX9_fraction 6 = .ok (.iload 5, 2) := by decide +kernel
theorem dX9_fraction_8 : decode cX9_fraction 8 = .ok (.ifCond .eq 7, 3) := by decide +kernel
theorem dX9_fraction_11 : decode cX9_fraction 11 = .ok (.lload_n 3, 1) := by decide +kernel
theorem dX9_fraction_12 : decode cX9_fraction 12 = .ok (.goto 4, 3) := by decide +kernel
theorem dX9_fraction_15 : decode cX9_fraction 15 = .ok (.lload_n 1, 1) := by decide +kernel
theorem dX9_fraction_16 : decode cX9_fraction 16 = .ok (.lload_n 1, 1) := by decide +kernel
theorem dX9_fraction_17 : decode cX9_fraction 17 = .ok (.lload_n 3, 1) := by decide +kernel
theorem dX9_fraction_18 : decode cX9_fraction 18 = .ok (.invokestatic 49, 3) := by decide +kernel
theorem dX9_fraction_21 : decode cX9_fraction 21 = .ok (.ldiv, 1) := by decide +kernel
theorem dX9_fraction_22 : decode cX9_fraction 22 = .ok (.lreturn, 1) := by decide +kernel
def B_X9_fraction_0 (X : Nat × (Nat → Int32)) (J : Nat → zCf) (R : zRt) : zCf := oALOAD 0 (oPI (zj (0)) (oINV1 X M_X9_good 9 (oPOP (oILOAD 5 (oIFEQ (J 15) (oLLOAD 3 (J 16)))))))
set_option maxRecDepth 100000 in
theorem vb_X9_fraction_0 {X : Nat × (Nat → Int32)} {R : zRt} : ∀ ls st h, B_X9_fraction_0 X (zV X M_X9_fraction (zQm M_X9_fraction R) 0 0) R ls st h → zV X M_X9_fraction (zQm M_X9_fraction R) 0 0 0 ls st h := sd_aload_n dX9_fraction_0 rfl (sd_iconst dX9_fraction_1 rfl (sd_inv1 dX9_fraction_2 rfl mv_X9_good na_X9_good ml_RX9_46 ⟨⟨Nat.le_of_ble_eq_true rfl, Nat.le_of_ble_eq_true rfl⟩, ⟨Nat.le_of_ble_eq_true rfl, Nat.le_of_ble_eq_true rfl⟩⟩ (sd_pop dX9_fraction_5 (sd_iload dX9_fraction_6 (sd_ifeq dX9_fraction_8 rfl (fun _ _ _ h => h) (sd_lload_n dX9_fraction_11 rfl (sd_goto dX9_fraction_12 rfl (fun _ _ _ h => h))))))))
def B_X9_fraction_15 (X : Nat × (Nat → Int32)) (J : Nat → zCf) (R : zRt) : zCf := oLLOAD 1 (J 16)
set_option maxRecDepth 100000 in
theorem vb_X9_fraction_15 {X : Nat × (Nat → Int32)} {R : zRt} : ∀ ls st h, B_X9_fraction_15 X (zV X M_X9_fraction (zQm M_X9_fraction R) 0 0) R ls st h → zV X M_X9_fraction (zQm M_X9_fraction R) 0 0 15 ls st h := sd_lload_n dX9_fraction_15 rfl (fun _ _ _ h => h)
def B_X9_fraction_16 (X : Nat × (Nat → Int32)) (J : Nat → zCf) (R : zRt) : zCf := oLLOAD 1 (oLLOAD 3 (oINS2 X M_X9_common (oLDIV (oLRET R))))
set_option maxRecDepth 100000 in
theorem vb_X9_fraction_16 {X : Nat × (Nat → Int32)} {R : zRt} : ∀ ls st h, B_X9_fraction_16 X (zV X M_X9_fraction (zQm M_X9_fraction R) 0 0) R ls st h → zV X M_X9_fraction (zQm M_X9_fraction R) 0 0 16 ls st h := sd_lload_n dX9_fraction_16 rfl (sd_lload_n dX9_fraction_17 rfl (sd_ins2 dX9_fraction_18 ms_X9_common na_X9_common ml_RX9_49 ⟨⟨Nat.le_of_ble_eq_true rfl, Nat.le_of_ble_eq_true rfl⟩, ⟨Nat.le_of_ble_eq_true rfl, Nat.le_of_ble_eq_true rfl⟩⟩ (sd_ldiv dX9_fraction_21 (sd_lret dX9_fraction_22 rfl (Nat.le_of_ble_eq_true rfl) (Nat.le_of_ble_eq_true rfl)))))
theorem dX9_byteAt_0 : decode cX9_byteAt 0 = .ok (.iload_n 1, 1) := by decide +kernel
theorem dX9_byteAt_1 : decode cX9_byteAt 1 = .ok (.aload_n 0, 1) := by decide +kernel
theorem dX9_byteAt_2 : decode cX9_byteAt 2 = .ok (.getfield 53, 3) := by decide +kernel
theorem dX9_byteAt_5 : decode cX9_byteAt 5 = .ok (.if_icmp .ge 16, 3) := by decide +kernel
theorem dX9_byteAt_8 : decode cX9_byteAt 8 = .ok (.aload_n 0, 1) := by decide +kernel
theorem dX9_byteAt_9 : decode cX9_byteAt 9 = .ok (.getfield 13, 3) := by decide +kernel
theorem dX9_byteAt_12 : decode cX9_byteAt 12 = .ok (.iload_n 1, 1) := by decide +kernel
theorem dX9_byteAt_13 : decode cX9_byteAt 13 = .ok (.baload, 1) := by decide +kernel
theorem dX9_byteAt_14 : decode cX9_byteAt 14 = .ok (.sipush 255, 3) := by decide +kernel
theorem dX9_byteAt_17 : decode cX9_byteAt 17 = .ok (.iand, 1) := by decide +kernel
theorem dX9_byteAt_18 : decode cX9_byteAt 18 = .ok (.goto 4, 3) := by decide +kernel
theorem dX9_byteAt_21 : decode cX9_byteAt 21 = .ok (.iconst (-1), 1) := by decide +kernel
theorem dX9_byteAt_22 : decode cX9_byteAt 22 = .ok (.ireturn, 1) := by decide +kernel
def B_X9_byteAt_0 (X : Nat × (Nat → Int32)) (J : Nat → zCf) (R : zRt) : zCf := oILOAD 1 (oALOAD 0 (oGETI 9 7 (oICGE (J 21) (oALOAD 0 (oGETR 9 5 (oILOAD 1 (oBALD (oPI (zj (255)) (oIAND (J 22))))))))))
set_option maxRecDepth 100000 in
theorem vb_X9_byteAt_0 {X : Nat × (Nat → Int32)} {R : zRt} : ∀ ls st h, B_X9_byteAt_0 X (zV X M_X9_byteAt (zQm M_X9_byteAt R) 0 0) R ls st h → zV X M_X9_byteAt (zQm M_X9_byteAt R) 0 0 0 ls st h := sd_iload_n dX9_byteAt_0 rfl (sd_aload_n dX9_byteAt_1 rfl (sd_geti dX9_byteAt_2 zCl9 (Nat.le_of_ble_eq_true rfl) lk_RX9_53 (Or.inl rfl) (sd_icge dX9_byteAt_5 rfl (fun _ _ _ h => h) (sd_aload_n dX9_byteAt_8 rfl (sd_getr dX9_byteAt_9 zCl9 (Nat.le_of_ble_eq_true rfl) lk_RX9_13 (Or.inr ⟨_, rfl⟩) (sd_iload_n dX9_byteAt_12 rfl (sd_bald dX9_byteAt_13 (sd_sipush dX9_byteAt_14 rfl (sd_iand dX9_byteAt_17 (sd_goto dX9_byteAt_18 rfl (fun _ _ _ h => h)))))))))))
def B_X9_byteAt_21 (X : Nat × (Nat → Int32)) (J : Nat → zCf) (R : zRt) : zCf := oPI (zj (-1)) (J 22)
set_option maxRecDepth 100000 in
theorem vb_X9_byteAt_21 {X : Nat × (Nat → Int32)} {R : zRt} : ∀ ls st h, B_X9_byteAt_21 X (zV X M_X9_byteAt (zQm M_X9_byteAt R) 0 0) R ls st h → zV X M_X9_byteAt (zQm M_X9_byteAt R) 0 0 21 ls st h := sd_iconst dX9_byteAt_21 rfl (fun _ _ _ h => h)
def B_X9_byteAt_22 (X : Nat × (Nat → Int32)) (J : Nat → zCf) (R : zRt) : zCf := oIRET R
set_option maxRecDepth 100000 in
theorem vb_X9_byteAt_22 {X : Nat × (Nat → Int32)} {R : zRt} : ∀ ls st h, B_X9_byteAt_22 X (zV X M_X9_byteAt (zQm M_X9_byteAt R) 0 0) R ls st h → zV X M_X9_byteAt (zQm M_X9_byteAt R) 0 0 22 ls st h := sd_iret dX9_byteAt_22 rfl (Nat.le_of_ble_eq_true rfl) (Nat.le_of_ble_eq_true rfl)
theorem dX9_isLetter_0 : decode cX9_isLetter 0 = .ok (.iload_n 0, 1) := by decide +kernel
theorem dX9_isLetter_1 : decode cX9_isLetter 1 = .ok (.bipush 97, 2) := by decide +kernel
theorem dX9_isLetter_3 : decode cX9_isLetter 3 = .ok (.if_icmp .lt 13, 3) := by decide +kernel
theorem dX9_isLetter_6 : decode cX9_isLetter 6 = .ok (.iload_n 0, 1) := by decide +kernel
theorem dX9_isLetter_7 : decode cX9_isLetter 7 = .ok (.bipush 122, 2) := by decide +kernel
theorem dX9_isLetter_9 : decode cX9_isLetter 9 = .ok (.if_icmp .gt 7, 3) := by decide +kernel
theorem dX9_isLetter_12 : decode cX9_isLetter 12 = .ok (.iconst 1, 1) := by decide +kernel
theorem dX9_isLetter_13 : decode cX9_isLetter 13 = .ok (.goto 4, 3) := by decide +kernel
theorem dX9_isLetter_16 : decode cX9_isLetter 16 = .ok (.iconst 0, 1) := by decide +kernel
theorem dX9_isLetter_17 : decode cX9_isLetter 17 = .ok (.ireturn, 1) := by decide +kernel
def B_X9_isLetter_0 (X : Nat × (Nat → Int32)) (J : Nat → zCf) (R : zRt) : zCf := oILOAD 0 (oPI (zj (97)) (oICLT (J 16) (oILOAD 0 (oPI (zj (122)) (oICGT (J 16) (oPI (zj (1)) (J 17)))))))
set_option maxRecDepth 100000 in
theorem vb_X9_isLetter_0 {X : Nat × (Nat → Int32)} {R : zRt} : ∀ ls st h, B_X9_isLetter_0 X (zV X M_X9_isLetter (zQm M_X9_isLetter R) 0 0) R ls st h → zV X M_X9_isLetter (zQm M_X9_isLetter R) 0 0 0 ls st h := sd_iload_n dX9_isLetter_0 rfl (sd_bipush dX9_isLetter_1 rfl (sd_iclt dX9_isLetter_3 rfl (fun _ _ _ h => h) (sd_iload_n dX9_isLetter_6 rfl (sd_bipush dX9_isLetter_7 rfl (sd_icgt dX9_isLetter_9 rfl (fun _ _ _ h => h) (sd_iconst dX9_isLetter_12 rfl (sd_goto dX9_isLetter_13 rfl (fun _ _ _ h => h))))))))
def B_X9_isLetter_16 (X : Nat × (Nat → Int32)) (J : Nat → zCf) (R : zRt) : zCf := oPI (zj (0)) (J 17)
set_option maxRecDepth 100000 in
theorem vb_X9_isLetter_16 {X : Nat × (Nat → Int32)} {R : zRt} : ∀ ls st h, B_X9_isLetter_16 X (zV X M_X9_isLetter (zQm M_X9_isLetter R) 0 0) R ls st h → zV X M_X9_isLetter (zQm M_X9_isLetter R) 0 0 16 ls st h := sd_iconst dX9_isLetter_16 rfl (fun _ _ _ h => h)
def B_X9_isLetter_17 (X : Nat × (Nat → Int32)) (J : Nat → zCf) (R : zRt) : zCf := oZRET R
set_option maxRecDepth 100000 in
theorem vb_X9_isLetter_17 {X : Nat × (Nat → Int32)} {R : zRt} : ∀ ls st h, B_X9_isLetter_17 X (zV X M_X9_isLetter (zQm M_X9_isLetter R) 0 0) R ls st h → zV X M_X9_isLetter (zQm M_X9_isLetter R) 0 0 17 ls st h := sd_zret dX9_isLetter_17 rfl (Nat.le_of_ble_eq_true rfl) (Nat.le_of_ble_eq_true rfl)
theorem dX9_isDigit_0 : decode cX9_isDigit 0 = .ok (.iload_n 0, 1) := by decide +kernel
theorem dX9_isDigit_1 : decode cX9_isDigit 1 = .ok (.bipush 48, 2) := by decide +kernel
theorem dX9_isDigit_3 : decode cX9_isDigit 3 = .ok (.if_icmp .lt 13, 3) := by decide +kernel
theorem dX9_isDigit_6 : decode cX9_isDigit 6 = .ok (.iload_n 0, 1) := by decide +kernel
theorem dX9_isDigit_7 : decode cX9_isDigit 7 = .ok (.bipush 57, 2) := by decide +kernel
theorem dX9_isDigit_9 : decode cX9_isDigit 9 = .ok (.if_icmp .gt 7, 3) := by decide +kernel
theorem dX9_isDigit_12 : decode cX9_isDigit 12 = .ok (.iconst 1, 1) := by decide +kernel
theorem dX9_isDigit_13 : decode cX9_isDigit 13 = .ok (.goto 4, 3) := by decide +kernel
theorem dX9_isDigit_16 : decode cX9_isDigit 16 = .ok (.iconst 0, 1) := by decide +kernel
theorem dX9_isDigit_17 : decode cX9_isDigit 17 = .ok (.ireturn, 1) := by decide +kernel
def B_X9_isDigit_0 (X : Nat × (Nat → Int32)) (J : Nat → zCf) (R : zRt) : zCf := oILOAD 0 (oPI (zj (48)) (oICLT (J 16) (oILOAD 0 (oPI (zj (57)) (oICGT (J 16) (oPI (zj (1)) (J 17)))))))
set_option maxRecDepth 100000 in
theorem vb_X9_isDigit_0 {X : Nat × (Nat → Int32)} {R : zRt} : ∀ ls st h, B_X9_isDigit_0 X (zV X M_X9_isDigit (zQm M_X9_isDigit R) 0 0) R ls st h → zV X M_X9_isDigit (zQm M_X9_isDigit R) 0 0 0 ls st h := sd_iload_n dX9_isDigit_0 rfl (sd_bipush dX9_isDigit_1 rfl (sd_iclt dX9_isDigit_3 rfl (fun _ _ _ h => h) (sd_iload_n dX9_isDigit_6 rfl (sd_bipush dX9_isDigit_7 rfl (sd_icgt dX9_isDigit_9 rfl (fun _ _ _ h => h) (sd_iconst dX9_isDigit_12 rfl (sd_goto dX9_isDigit_13 rfl (fun _ _ _ h => h))))))))
def B_X9_isDigit_16 (X : Nat × (Nat → Int32)) (J : Nat → zCf) (R : zRt) : zCf := oPI (zj (0)) (J 17)
set_option maxRecDepth 100000 in
theorem vb_X9_isDigit_16 {X : Nat × (Nat → Int32)} {R : zRt} : ∀ ls st h, B_X9_isDigit_16 X (zV X M_X9_isDigit (zQm M_X9_isDigit R) 0 0) R ls st h → zV X M_X9_isDigit (zQm M_X9_isDigit R) 0 0 16 ls st h := sd_iconst dX9_isDigit_16 rfl (fun _ _ _ h => h)
def B_X9_isDigit_17 (X : Nat × (Nat → Int32)) (J : Nat → zCf) (R : zRt) : zCf := oZRET R
set_option maxRecDepth 100000 in
theorem vb_X9_isDigit_17 {X : Nat × (Nat → Int32)} {R : zRt} : ∀ ls st h, B_X9_isDigit_17 X (zV X M_X9_isDigit (zQm M_X9_isDigit R) 0 0) R ls st h → zV X M_X9_isDigit (zQm M_X9_isDigit R) 0 0 17 ls st h := sd_zret dX9_isDigit_17 rfl (Nat.le_of_ble_eq_true rfl) (Nat.le_of_ble_eq_true rfl)
theorem dX9_goesOn_0 : decode cX9_goesOn 0 = .ok (.aload_n 0, 1) := by decide +kernel
theorem dX9_goesOn_1 : decode cX9_goesOn 1 = .ok (.getfield 68, 3) := by decide +kernel
theorem dX9_goesOn_4 : decode cX9_goesOn 4 = .ok (.iconst 5, 1) := by decide +kernel
theorem dX9_goesOn_5 : decode cX9_goesOn 5 = .ok (.if_icmp .ne 4, 3) := by decide +kernel
theorem dX9_goesOn_8 : decode cX9_goesOn 8 = .ok (.return_, 1) := by decide +kernel
theorem dX9_goesOn_9 : decode cX9_goesOn 9 = .ok (.aload_n 0, 1) := by decide +kernel
theorem dX9_goesOn_10 : decode cX9_goesOn 10 = .ok (.aload_n 0, 1) := by decide +kernel
theorem dX9_goesOn_11 : decode cX9_goesOn 11 = .ok (.getfield 71, 3) := by decide +kernel
theorem dX9_goesOn_14 : decode cX9_goesOn 14 = .ok (.invokevirtual 74, 3) := by decide +kernel
theorem dX9_goesOn_17 : decode cX9_goesOn 17 = .ok (.bipush 32, 2) := by decide +kernel
theorem dX9_goesOn_19 : decode cX9_goesOn 19 = .ok (.if_icmp .ne 16, 3) := by decide +kernel
theorem dX9_goesOn_22 : decode cX9_goesOn 22 = .ok (.aload_n 0, 1) := by decide +kernel
theorem dX9_goesOn_23 : decode cX9_goesOn 23 = .ok (.dup, 1) := by decide +kernel
theorem dX9_goesOn_24 : decode cX9_goesOn 24 = .ok (.getfield 71, 3) := by decide +kernel
theorem dX9_goesOn_27 : decode cX9_goesOn 27 = .ok (.iconst 1, 1) := by decide +kernel
theorem dX9_goesOn_28 : decode cX9_goesOn 28 = .ok (.iadd, 1) := by decide +kernel
theorem dX9_goesOn_29 : decode cX9_goesOn 29 = .ok (.putfield 71, 3) := by decide +kernel
theorem dX9_goesOn_32 : decode cX9_goesOn 32 = .ok (.goto (-23), 3) := by decide +kernel
theorem dX9_goesOn_35 : decode cX9_goesOn 35 = .ok (.aload_n 0, 1) := by decide +kernel
theorem dX9_goesOn_36 : decode cX9_goesOn 36 = .ok (.aload_n 0, 1) := by decide +kernel
theorem dX9_goesOn_37 : decode cX9_goesOn 37 = .ok (.getfield 71, 3) := by decide +kernel
theorem dX9_goesOn_40 : decode cX9_goesOn 40 = .ok (.putfield 77, 3) := by decide +kernel
theorem dX9_goesOn_43 : decode cX9_goesOn 43 = .ok (.aload_n 0, 1) := by decide +kernel
theorem dX9_goesOn_44 : decode cX9_goesOn 44 = .ok (.iconst 0, 1) := by decide +kernel
theorem dX9_goesOn_45 : decode cX9_goesOn 45 = .ok (.putfield 68, 3) := by decide +kernel
theorem dX9_goesOn_48 : decode cX9_goesOn 48 = .ok (.aload_n 0, 1) := by decide +kernel
theorem dX9_goesOn_49 : decode cX9_goesOn 49 = .ok (.aload_n 0, 1) := by decide +kernel
theorem dX9_goesOn_50 : decode cX9_goesOn 50 = .ok (.getfield 71, 3) := by decide +kernel
theorem dX9_goesOn_53 : decode cX9_goesOn 53 = .ok (.invokevirtual 74, 3) := by decide +kernel
theorem dX9_goesOn_56 : decode cX9_goesOn 56 = .ok (.istore_n 1, 1) := by decide +kernel
theorem dX9_goesOn_57 : decode cX9_goesOn 57 = .ok (.iconst 0, 1) := by decide +kernel
theorem dX9_goesOn_58 : decode cX9_goesOn 58 = .ok (.istore_n 2, 1) := by decide +kernel
theorem dX9_goesOn_59 : decode cX9_goesOn 59 = .ok (.iload_n 1, 1) := by decide +kernel
theorem dX9_goesOn_60 : decode cX9_goesOn 60 = .ok (.iconst (-1), 1) := by decide +kernel
theorem dX9_goesOn_61 : decode cX9_goesOn 61 = .ok (.if_icmp .ne 11, 3) := by decide +kernel
theorem dX9_goesOn_64 : decode cX9_goesOn 64 = .ok (.aload_n 0, 1) := by decide +kernel
theorem dX9_goesOn_65 : decode cX9_goesOn 65 = .ok (.iconst 1, 1) := by decide +kernel
theorem dX9_goesOn_66 : decode cX9_goesOn 66 = .ok (.putfield 68, 3) := by decide +kernel
theorem dX9_goesOn_69 : decode cX9_goesOn 69 = .ok (.goto 196, 3) := by decide +kernel
theorem dX9_goesOn_72 : decode cX9_goesOn 72 = .ok (.iload_n 1, 1) := by decide +kernel
theorem dX9_goesOn_73 : decode cX9_goesOn 73 = .ok (.invokestatic 80, 3) := by decide +kernel
theorem dX9_goesOn_76 : decode cX9_goesOn 76 = .ok (.ifCond .eq 85, 3) := by decide +kernel
theorem dX9_goesOn_79 : decode cX9_goesOn 79 = .ok (.aload_n 0, 1) := by decide +kernel
theorem dX9_goesOn_80 : decode cX9_goesOn 80 = .ok (.lconst 0, 1) := by decide +kernel
theorem dX9_goesOn_81 : decode cX9_goesOn 81 = .ok (.putfield 84, 3) := by decide +kernel
theorem dX9_goesOn_84 : decode cX9_goesOn 84 = .ok (.aload_n 0, 1) := by decide +kernel
theorem dX9_goesOn_85 : decode cX9_goesOn 85 = .ok (.aload_n 0, 1) := by decide +kernel
theorem dX9_goesOn_86 : decode cX9_goesOn 86 = .ok (.getfield 71, 3) := by decide +kernel
theorem dX9_goesOn_89 : decode cX9_goesOn 89 = .ok (.invokevirtual 74, 3) := by decide +kernel
theorem dX9_goesOn_92 : decode cX9_goesOn 92 = .ok (.invokestatic 80, 3) := by decide +kernel
theorem dX9_goesOn_95 : decode cX9_goesOn 95 = .ok (.ifCond .eq 52, 3) := by decide +kernel
theorem dX9_goesOn_98 : decode cX9_goesOn 98 = .ok (.iload_n 2, 1) := by decide +kernel
theorem dX9_goesOn_99 : decode cX9_goesOn 99 = .ok (.bipush 8, 2) := by decide +kernel
theorem dX9_goesOn_101 : decode cX9_goesOn 101 = .ok (.if_icmp .ge 30, 3) := by decide +kernel
theorem dX9_goesOn_104 : decode cX9_goesOn 104 = .ok (.aload_n 0, 1) := by decide +kernel
theorem dX9_goesOn_105 : decode cX9_goesOn 105 = .ok (.ldc2_w 62, 3) := by decide +kernel
theorem dX9_goesOn_108 : decode cX9_goesOn 108 = .ok (.aload_n 0, 1) := by decide +kernel
theorem dX9_goesOn_109 : decode cX9_goesOn 109 = .ok (.getfield 84, 3) := by decide +kernel
theorem dX9_goesOn_112 : decode cX9_goesOn 112 = .ok (.lmul, 1) := by decide +kernel
theorem dX9_goesOn_113 : decode cX9_goesOn 113 = .ok (.aload_n 0, 1) := by decide +kernel
theorem dX9_goesOn_114 : decode cX9_goesOn 114 = .ok (.aload_n 0, 1) := by decide +kernel
theorem dX9_goesOn_115 : decode cX9_goesOn 115 = .ok (.getfield 71, 3) := by decide +kernel
theorem dX9_goesOn_118 : decode cX9_goesOn 118 = .ok (.invokevirtual 74, 3) := by decide +kernel
theorem dX9_goesOn_121 : decode cX9_goesOn 121 = .ok (.bipush 97, 2) := by decide +kernel
theorem dX9_goesOn_123 : decode cX9_goesOn 123 = .ok (.isub, 1) := by decide +kernel
theorem dX9_goesOn_124 : decode cX9_goesOn 124 = .ok (.iconst 1, 1) := by decide +kernel
theorem dX9_goesOn_125 : decode cX9_goesOn 125 = .ok (.iadd, 1) := by decide +kernel
theorem dX9_goesOn_126 : decode cX9_goesOn 126 = .ok (.i2l, 1) := by decide +kernel
theorem dX9_goesOn_127 : decode cX9_goesOn 127 = .ok (.ladd, 1) := by decide +kernel
theorem dX9_goesOn_128 : decode cX9_goesOn 128 = .ok (.putfield 84, 3) := by decide +kernel
theorem dX9_goesOn_131 : decode cX9_goesOn 131 = .ok (.iinc 2 1, 3) := by decide +kernel
theorem dX9_goesOn_134 : decode cX9_goesOn 134 = .ok (.aload_n 0, 1) := by decide +kernel
theorem dX9_goesOn_135 : decode cX9_goesOn 135 = .ok (.dup, 1) := by decide +kernel
theorem dX9_goesOn_136 : decode cX9_goesOn 136 = .ok (.getfield 71, 3) := by decide +kernel
theorem dX9_goesOn_139 : decode cX9_goesOn 139 = .ok (.iconst 1, 1) := by decide +kernel
theorem dX9_goesOn_140 : decode cX9_goesOn 140 = .ok (.iadd, 1) := by decide +kernel
theorem dX9_goesOn_141 : decode cX9_goesOn 141 = .ok (.putfield 71, 3) := by decide +kernel
theorem dX9_goesOn_144 : decode cX9_goesOn 144 = .ok (.goto (-60), 3) := by decide +kernel
theorem dX9_goesOn_147 : decode cX9_goesOn 147 = .ok (.iload_n 2, 1) := by decide +kernel
theorem dX9_goesOn_148 : decode cX9_goesOn 148 = .ok (.bipush 8, 2) := by decide +kernel
theorem dX9_goesOn_150 : decode cX9_goesOn 150 = .ok (.if_icmp .gt 115, 3) := by decide +kernel
theorem dX9_goesOn_153 : decode cX9_goesOn 153 = .ok (.aload_n 0, 1) := by decide +kernel
theorem dX9_goesOn_154 : decode cX9_goesOn 154 = .ok (.iconst 2, 1) := by decide +kernel
theorem dX9_goesOn_155 : decode cX9_goesOn 155 = .ok (.putfield 68, 3) := by decide +kernel
theorem dX9_goesOn_158 : decode cX9_goesOn 158 = .ok (.goto 107, 3) := by decide +kernel
theorem dX9_goesOn_161 : decode cX9_goesOn 161 = .ok (.iload_n 1, 1) := by decide +kernel
theorem dX9_goesOn_162 : decode cX9_goesOn 162 = .ok (.invokestatic 88, 3) := by decide +kernel
theorem dX9_goesOn_165 : decode cX9_goesOn 165 = .ok (.ifCond .eq 79, 3) := by decide +kernel
theorem dX9_goesOn_168 : decode cX9_goesOn 168 = .ok (.aload_n 0, 1) := by decide +kernel
theorem dX9_goesOn_169 : decode cX9_goesOn 169 = .ok (.iconst 0, 1) := by decide +kernel
theorem dX9_goesOn_170 : decode cX9_goesOn 170 = .ok (.putfield 91, 3) := by decide +kernel
theorem dX9_goesOn_173 : decode cX9_goesOn 173 = .ok (.aload_n 0, 1) := by decide +kernel
theorem dX9_goesOn_174 : decode cX9_goesOn 174 = .ok (.aload_n 0, 1) := by decide +kernel
theorem dX9_goesOn_175 : decode cX9_goesOn 175 = .ok (.getfield 71, 3) := by decide +kernel
theorem dX9_goesOn_178 : decode cX9_goesOn 178 = .ok (.invokevirtual 74, 3) := by decide +kernel
theorem dX9_goesOn_181 : decode cX9_goesOn 181 = .ok (.invokestatic 88, 3) := by decide +kernel
theorem dX9_goesOn_184 : decode cX9_goesOn 184 = .ok (.ifCond .eq 47, 3) := by decide +kernel
theorem dX9_goesOn_187 : decode cX9_goesOn 187 = .ok (.iload_n 2, 1) := by decide +kernel
theorem dX9_goesOn_188 : decode cX9_goesOn 188 = .ok (.iconst 3, 1) := by decide +kernel
theorem dX9_goesOn_189 : decode cX9_goesOn 189 = .ok (.if_icmp .ge 26, 3) := by decide +kernel
theorem dX9_goesOn_192 : decode cX9_goesOn 192 = .ok (.aload_n 0, 1) := by decide +kernel
theorem dX9_goesOn_193 : decode cX9_goesOn 193 = .ok (.bipush 10, 2) := by decide +kernel
theorem dX9_goesOn_195 : decode cX9_goesOn 195 = .ok (.aload_n 0, 1) := by decide +kernel
theorem dX9_goesOn_196 : decode cX9_goesOn 196 = .ok (.getfield 91, 3) := by decide +kernel
theorem dX9_goesOn_199 : decode cX9_goesOn 199 = .ok (.imul, 1) := by decide +kernel
theorem dX9_goesOn_200 : decode cX9_goesOn 200 = .ok (.aload_n 0, 1) := by decide +kernel
theorem dX9_goesOn_201 : decode cX9_goesOn 201 = .ok (.aload_n 0, 1) := by decide +kernel
theorem dX9_goesOn_202 : decode cX9_goesOn 202 = .ok (.getfield 71, 3) := by decide +kernel
theorem dX9_goesOn_205 : decode cX9_goesOn 205 = .ok (.invokevirtual 74, 3) := by decide +kernel
theorem dX9_goesOn_208 : decode cX9_goesOn 208 = .ok (.iadd, 1) := by decide +kernel
theorem dX9_goesOn_209 : decode cX9_goesOn 209 = .ok (.bipush 48, 2) := by decide +kernel
theorem dX9_goesOn_211 : decode cX9_goesOn 211 = .ok (.isub, 1) := by decide +kernel
theorem dX9_goesOn_212 : decode cX9_goesOn 212 = .ok (.putfield 91, 3) := by decide +kernel
theorem dX9_goesOn_215 : decode cX9_goesOn 215 = .ok (.iinc 2 1, 3) := by decide +kernel
theorem dX9_goesOn_218 : decode cX9_goesOn 218 = .ok (.aload_n 0, 1) := by decide +kernel
theorem dX9_goesOn_219 : decode cX9_goesOn 219 = .ok (.dup, 1) := by decide +kernel
theorem dX9_goesOn_220 : decode cX9_goesOn 220 = .ok (.getfield 71, 3) := by decide +kernel
theorem dX9_goesOn_223 : decode cX9_goesOn 223 = .ok (.iconst 1, 1) := by decide +kernel
theorem dX9_goesOn_224 : decode cX9_goesOn 224 = .ok (.iadd, 1) := by decide +kernel
theorem dX9_goesOn_225 : decode cX9_goesOn 225 = .ok (.putfield 71, 3) := by decide +kernel
theorem dX9_goesOn_228 : decode cX9_goesOn 228 = .ok (.goto (-55), 3) := by decide +kernel
theorem dX9_goesOn_231 : decode cX9_goesOn 231 = .ok (.iload_n 2, 1) := by decide +kernel
theorem dX9_goesOn_232 : decode cX9_goesOn 232 = .ok (.iconst 3, 1) := by decide +kernel
theorem dX9_goesOn_233 : decode cX9_goesOn 233 = .ok (.if_icmp .gt 32, 3) := by decide +kernel
theorem dX9_goesOn_236 : decode cX9_goesOn 236 = .ok (.aload_n 0, 1) := by decide +kernel
theorem dX9_goesOn_237 : decode cX9_goesOn 237 = .ok (.iconst 3, 1) := by decide +kernel
theorem dX9_goesOn_238 : decode cX9_goesOn 238 = .ok (.putfield 68, 3) := by decide +kernel
theorem dX9_goesOn_241 : decode cX9_goesOn 241 = .ok (.goto 24, 3) := by decide +kernel
theorem dX9_goesOn_244 : decode cX9_goesOn 244 = .ok (.iload_n 1, 1) := by decide +kernel
theorem dX9_goesOn_245 : decode cX9_goesOn 245 = .ok (.bipush 59, 2) := by decide +kernel
theorem dX9_goesOn_247 : decode cX9_goesOn 247 = .ok (.if_icmp .ne 18, 3) := by decide +kernel
theorem dX9_goesOn_250 : decode cX9_goesOn 250 = .ok (.aload_n 0, 1) := by decide +kernel
theorem dX9_goesOn_251 : decode cX9_goesOn 251 = .ok (.iconst 4, 1) := by decide +kernel
theorem dX9_goesOn_252 : decode cX9_goesOn 252 = .ok (.putfield 68, 3) := by decide +kernel
theorem dX9_goesOn_255 : decode cX9_goesOn 255 = .ok (.aload_n 0, 1) := by decide +kernel
theorem dX9_goesOn_256 : decode cX9_goesOn 256 = .ok (.dup, 1) := by decide +kernel
theorem dX9_goesOn_257 : decode cX9_goesOn 257 = .ok (.getfield 71, 3) := by decide +kernel
theorem dX9_goesOn_260 : decode cX9_goesOn 260 = .ok (.iconst 1, 1) := by decide +kernel
theorem dX9_goesOn_261 : decode cX9_goesOn 261 = .ok (.iadd, 1) := by decide +kernel
theorem dX9_goesOn_262 : decode cX9_goesOn 262 = .ok (.putfield 71, 3) := by decide +kernel
theorem dX9_goesOn_265 : decode cX9_goesOn 265 = .ok (.return_, 1) := by decide +kernel
def B_X9_goesOn_0 (X : Nat × (Nat → Int32)) (J : Nat → zCf) (R : zRt) : zCf := oALOAD 0 (oGETI 9 9 (oPI (zj (5)) (oICNE (J 9) (oVRET R))))
set_option maxRecDepth 100000 in
theorem vb_X9_goesOn_0 {X : Nat × (Nat → Int32)} {R : zRt} : ∀ ls st h, B_X9_goesOn_0 X (zV X M_X9_goesOn (zQm M_X9_goesOn R) 0 0) R ls st h → zV X M_X9_goesOn (zQm M_X9_goesOn R) 0 0 0 ls st h := sd_aload_n dX9_goesOn_0 rfl (sd_geti dX9_goesOn_1 zCl9 (Nat.le_of_ble_eq_true rfl) lk_RX9_68 (Or.inl rfl) (sd_iconst dX9_goesOn_4 rfl (sd_icne dX9_goesOn_5 rfl (fun _ _ _ h => h) (sd_vret dX9_goesOn_8 rfl (Nat.le_of_ble_eq_true rfl) (Nat.le_of_ble_eq_true rfl)))))
def B_X9_goesOn_9 (X : Nat × (Nat → Int32)) (J : Nat → zCf) (R : zRt) : zCf := oALOAD 0 (oALOAD 0 (oGETI 9 8 (oINV1 X M_X9_byteAt 9 (oPI (zj (32)) (oICNE (J 35) (oALOAD 0 (oDUP (oGETI 9 8 (oPI (zj (1)) (oIADD (oPUTI 9 8 (J 9))))))))))))
set_option maxRecDepth 100000 in
theorem vb_X9_goesOn_9 {X : Nat × (Nat → Int32)} {R : zRt} : ∀ ls st h, B_X9_goesOn_9 X (zV X M_X9_goesOn (zQm M_X9_goesOn R) 0 0) R ls st h → zV X M_X9_goesOn (zQm M_X9_goesOn R) 0 0 9 ls st h := sd_aload_n dX9_goesOn_9 rfl (sd_aload_n dX9_goesOn_10 rfl (sd_geti dX9_goesOn_11 zCl9 (Nat.le_of_ble_eq_true rfl) lk_RX9_71 (Or.inl rfl) (sd_inv1 dX9_goesOn_14 rfl mv_X9_byteAt na_X9_byteAt ml_RX9_74 ⟨⟨Nat.le_of_ble_eq_true rfl, Nat.le_of_ble_eq_true rfl⟩, ⟨Nat.le_of_ble_eq_true rfl, Nat.le_of_ble_eq_true rfl⟩⟩ (sd_bipush dX9_goesOn_17 rfl (sd_icne dX9_goesOn_19 rfl (fun _ _ _ h => h) (sd_aload_n dX9_goesOn_22 rfl (sd_dup dX9_goesOn_23 (sd_geti dX9_goesOn_24 zCl9 (Nat.le_of_ble_eq_true rfl) lk_RX9_71 (Or.inl rfl) (sd_iconst dX9_goesOn_27 rfl (sd_iadd dX9_goesOn_28 (sd_puti dX9_goesOn_29 zCl9 (Nat.le_of_ble_eq_true rfl) lk_RX9_71 rfl (Or.inl rfl) (sd_goto dX9_goesOn_32 rfl (fun _ _ _ h => h)))))))))))))
def B_X9_goesOn_35 (X : Nat × (Nat → Int32)) (J : Nat → zCf) (R : zRt) : zCf := oALOAD 0 (oALOAD 0 (oGETI 9 8 (oPUTI 9 10 (oALOAD 0 (oPI (zj (0)) (oPUTI 9 9 (oALOAD 0 (oALOAD 0 (oGETI 9 8 (oINV1 X M_X9_byteAt 9 (oISTORE 0 1 (oPI (zj (0)) (oISTORE 1 2 (oILOAD 1 (oPI (zj (-1)) (oICNE (J 72) (oALOAD 0 (oPI (zj (1)) (oPUTI 9 9 (J 265))))))))))))))))))))
set_option maxRecDepth 100000 in
theorem vb_X9_goesOn_35 {X : Nat × (Nat → Int32)} {R : zRt} : ∀ ls st h, B_X9_goesOn_35 X (zV X M_X9_goesOn (zQm M_X9_goesOn R) 0 0) R ls st h → zV X M_X9_goesOn (zQm M_X9_goesOn R) 0 0 35 ls st h := sd_aload_n dX9_goesOn_35 rfl (sd_aload_n dX9_goesOn_36 rfl (sd_geti dX9_goesOn_37 zCl9 (Nat.le_of_ble_eq_true rfl) lk_RX9_71 (Or.inl rfl) (sd_puti dX9_goesOn_40 zCl9 (Nat.le_of_ble_eq_true rfl) lk_RX9_77 rfl (Or.inl rfl) (sd_aload_n dX9_goesOn_43 rfl (sd_iconst dX9_goesOn_44 rfl (sd_puti dX9_goesOn_45 zCl9 (Nat.le_of_ble_eq_true rfl) lk_RX9_68 rfl (Or.inl rfl) (sd_aload_n dX9_goesOn_48 rfl (sd_aload_n dX9_goesOn_49 rfl (sd_geti dX9_goesOn_50 zCl9 (Nat.le_of_ble_eq_true rfl) lk_RX9_71 (Or.inl rfl) (sd_inv1 dX9_goesOn_53 rfl mv_X9_byteAt na_X9_byteAt ml_RX9_74 ⟨⟨Nat.le_of_ble_eq_true rfl, Nat.le_of_ble_eq_true rfl⟩, ⟨Nat.le_of_ble_eq_true rfl, Nat.le_of_ble_eq_true rfl⟩⟩ (sd_istore_n dX9_goesOn_56 rfl (Nat.le_of_ble_eq_true rfl) (Or.inl rfl) (sd_iconst dX9_goesOn_57 rfl (sd_istore_n dX9_goesOn_58 rfl (Nat.le_of_ble_eq_true rfl) (Or.inl rfl) (sd_iload_n dX9_goesOn_59 rfl (sd_iconst dX9_goesOn_60 rfl (sd_icne dX9_goesOn_61 rfl (fun _ _ _ h => h) (sd_aload_n dX9_goesOn_64 rfl (sd_iconst dX9_goesOn_65 rfl (sd_puti dX9_goesOn_66 zCl9 (Nat.le_of_ble_eq_true rfl) lk_RX9_68 rfl (Or.inl rfl) (sd_goto dX9_goesOn_69 rfl (fun _ _ _ h => h)))))))))))))))))))))
def B_X9_goesOn_72 (X : Nat × (Nat → Int32)) (J : Nat → zCf) (R : zRt) : zCf := oILOAD 1 (oINS1 X M_X9_isLetter (oIFEQ (J 161) (oALOAD 0 (oPL (zk (0)) (oPUTL 9 14 (J 84))))))
set_option maxRecDepth 100000 in
theorem vb_X9_goesOn_72 {X : Nat × (Nat → Int32)} {R : zRt} : ∀ ls st h, B_X9_goesOn_72 X (zV X M_X9_goesOn (zQm M_X9_goesOn R) 0 0) R ls st h → zV X M_X9_goesOn (zQm M_X9_goesOn R) 0 0 72 ls st h := sd_iload_n dX9_goesOn_72 rfl (sd_ins1 dX9_goesOn_73 ms_X9_isLetter na_X9_isLetter ml_RX9_80 ⟨⟨Nat.le_of_ble_eq_true rfl, Nat.le_of_ble_eq_true rfl⟩, ⟨Nat.le_of_ble_eq_true rfl, Nat.le_of_ble_eq_true rfl⟩⟩ (sd_ifeq dX9_goesOn_76 rfl (fun _ _ _ h => h) (sd_aload_n dX9_goesOn_79 rfl (sd_lconst dX9_goesOn_80 rfl (sd_putl dX9_goesOn_81 zCl9 (Nat.le_of_ble_eq_true rfl) lk_RX9_84 rfl (Or.inl rfl) (fun _ _ _ h => h))))))
def B_X9_goesOn_84 (X : Nat × (Nat → Int32)) (J : Nat → zCf) (R : zRt) : zCf := oALOAD 0 (oALOAD 0 (oGETI 9 8 (oINV1 X M_X9_byteAt 9 (oINS1 X M_X9_isLetter (oIFEQ (J 147) (oILOAD 2 (oPI (zj (8)) (oICGE (J 131) (oALOAD 0 (oPL (zk (32)) (oALOAD 0 (oGETL 9 14 (oLMUL (oALOAD 0 (oALOAD 0 (oGETI 9 8 (oINV1 X M_X9_byteAt 9 (oPI (zj (97)) (oISUB (oPI (zj (1)) (oIADD (oI2L (oLADD (oPUTL 9 14 (J 131)))))))))))))))))))))))))
set_option maxRecDepth 100000 in
theorem vb_X9_goesOn_84 {X : Nat × (Nat → Int32)} {R : zRt} : ∀ ls st h, B_X9_goesOn_84 X (zV X M_X9_goesOn (zQm M_X9_goesOn R) 0 0) R ls st h → zV X M_X9_goesOn (zQm M_X9_goesOn R) 0 0 84 ls st h := sd_aload_n dX9_goesOn_84 rfl (sd_aload_n dX9_goesOn_85 rfl (sd_geti dX9_goesOn_86 zCl9 (Nat.le_of_ble_eq_true rfl) lk_RX9_71 (Or.inl rfl) (sd_inv1 dX9_goesOn_89 rfl mv_X9_byteAt na_X9_byteAt ml_RX9_74 ⟨⟨Nat.le_of_ble_eq_true rfl, Nat.le_of_ble_eq_true rfl⟩, ⟨Nat.le_of_ble_eq_true rfl, Nat.le_of_ble_eq_true rfl⟩⟩ (sd_ins1 dX9_goesOn_92 ms_X9_isLetter na_X9_isLetter ml_RX9_80 ⟨⟨Nat.le_of_ble_eq_true rfl, Nat.le_of_ble_eq_true rfl⟩, ⟨Nat.le_of_ble_eq_true rfl, Nat.le_of_ble_eq_true rfl⟩⟩ (sd_ifeq dX9_goesOn_95 rfl (fun _ _ _ h => h) (sd_iload_n dX9_goesOn_98 rfl (sd_bipush dX9_goesOn_99 rfl (sd_icge dX9_goesOn_101 rfl (fun _ _ _ h => h) (sd_aload_n dX9_goesOn_104 rfl (sd_ldc2 dX9_goesOn_105 (zmt (zt6 (i := 50) rfl) rfl) (sd_aload_n dX9_goesOn_108 rfl (sd_getl dX9_goesOn_109 zCl9 (Nat.le_of_ble_eq_true rfl) lk_RX9_84 rfl (sd_lmul dX9_goesOn_112 (sd_aload_n dX9_goesOn_113 rfl (sd_aload_n dX9_goesOn_114 rfl (sd_geti dX9_goesOn_115 zCl9 (Nat.le_of_ble_eq_true rfl) lk_RX9_71 (Or.inl rfl) (sd_inv1 dX9_goesOn_118 rfl mv_X9_byteAt na_X9_byteAt ml_RX9_74 ⟨⟨Nat.le_of_ble_eq_true rfl, Nat.le_of_ble_eq_true rfl⟩, ⟨Nat.le_of_ble_eq_true rfl, Nat.le_of_ble_eq_true rfl⟩⟩ (sd_bipush dX9_goesOn_121 rfl (sd_isub dX9_goesOn_123 (sd_iconst dX9_goesOn_124 rfl (sd_iadd dX9_goesOn_125 (sd_i2l dX9_goesOn_126 (sd_ladd dX9_goesOn_127 (sd_putl dX9_goesOn_128 zCl9 (Nat.le_of_ble_eq_true rfl) lk_RX9_84 rfl (Or.inl rfl) (fun _ _ _ h => h)))))))))))))))))))))))))
def B_X9_goesOn_131 (X : Nat × (Nat → Int32)) (J : Nat → zCf) (R : zRt) : zCf := oIINC 1 2 (zj (1)) (oALOAD 0 (oDUP (oGETI 9 8 (oPI (zj (1)) (oIADD (oPUTI 9 8 (J 84)))))))
set_option maxRecDepth 100000 in
theorem vb_X9_goesOn_131 {X : Nat × (Nat → Int32)} {R : zRt} : ∀ ls st h, B_X9_goesOn_131 X (zV X M_X9_goesOn (zQm M_X9_goesOn R) 0 0) R ls st h → zV X M_X9_goesOn (zQm M_X9_goesOn R) 0 0 131 ls st h := sd_iinc dX9_goesOn_131 rfl (Nat.le_of_ble_eq_true rfl) (Or.inl rfl) (sd_aload_n dX9_goesOn_134 rfl (sd_dup dX9_goesOn_135 (sd_geti dX9_goesOn_136 zCl9 (Nat.le_of_ble_eq_true rfl) lk_RX9_71 (Or.inl rfl) (sd_iconst dX9_goesOn_139 rfl (sd_iadd dX9_goesOn_140 (sd_puti dX9_goesOn_141 zCl9 (Nat.le_of_ble_eq_true rfl) lk_RX9_71 rfl (Or.inl rfl) (sd_goto dX9_goesOn_144 rfl (fun _ _ _ h => h))))))))
def B_X9_goesOn_147 (X : Nat × (Nat → Int32)) (J : Nat → zCf) (R : zRt) : zCf := oILOAD 2 (oPI (zj (8)) (oICGT (J 265) (oALOAD 0 (oPI (zj (2)) (oPUTI 9 9 (J 265))))))
set_option maxRecDepth 100000 in
theorem vb_X9_goesOn_147 {X : Nat × (Nat → Int32)} {R : zRt} : ∀ ls st h, B_X9_goesOn_147 X (zV X M_X9_goesOn (zQm M_X9_goesOn R) 0 0) R ls st h → zV X M_X9_goesOn (zQm M_X9_goesOn R) 0 0 147 ls st h := sd_iload_n dX9_goesOn_147 rfl (sd_bipush dX9_goesOn_148 rfl (sd_icgt dX9_goesOn_150 rfl (fun _ _ _ h => h) (sd_aload_n dX9_goesOn_153 rfl (sd_iconst dX9_goesOn_154 rfl (sd_puti dX9_goesOn_155 zCl9 (Nat.le_of_ble_eq_true rfl) lk_RX9_68 rfl (Or.inl rfl) (sd_goto dX9_goesOn_158 rfl (fun _ _ _ h => h)))))))
def B_X9_goesOn_161 (X : Nat × (Nat → Int32)) (J : Nat → zCf) (R : zRt) : zCf := oILOAD 1 (oINS1 X M_X9_isDigit (oIFEQ (J 244) (oALOAD 0 (oPI (zj (0)) (oPUTI 9 11 (J 173))))))
set_option maxRecDepth 100000 in
theorem vb_X9_goesOn_161 {X : Nat × (Nat → Int32)} {R : zRt} : ∀ ls st h, B_X9_goesOn_161 X (zV X M_X9_goesOn (zQm M_X9_goesOn R) 0 0) R ls st h → zV X M_X9_goesOn (zQm M_X9_goesOn R) 0 0 161 ls st h := sd_iload_n dX9_goesOn_161 rfl (sd_ins1 dX9_goesOn_162 ms_X9_isDigit na_X9_isDigit ml_RX9_88 ⟨⟨Nat.le_of_ble_eq_true rfl, Nat.le_of_ble_eq_true rfl⟩, ⟨Nat.le_of_ble_eq_true rfl, Nat.le_of_ble_eq_true rfl⟩⟩ (sd_ifeq dX9_goesOn_165 rfl (fun _ _ _ h => h) (sd_aload_n dX9_goesOn_168 rfl (sd_iconst dX9_goesOn_169 rfl (sd_puti dX9_goesOn_170 zCl9 (Nat.le_of_ble_eq_true rfl) lk_RX9_91 rfl (Or.inl rfl) (fun _ _ _ h => h))))))
def B_X9_goesOn_173 (X : Nat × (Nat → Int32)) (J : Nat → zCf) (R : zRt) : zCf := oALOAD 0 (oALOAD 0 (oGETI 9 8 (oINV1 X M_X9_byteAt 9 (oINS1 X M_X9_isDigit (oIFEQ (J 231) (oILOAD 2 (oPI (zj (3)) (oICGE (J 215) (oALOAD 0 (oPI (zj (10)) (oALOAD 0 (oGETI 9 11 (oIMUL (oALOAD 0 (oALOAD 0 (oGETI 9 8 (oINV1 X M_X9_byteAt 9 (oIADD (oPI (zj (48)) (oISUB (oPUTI 9 11 (J 215))))))))))))))))))))))
set_option maxRecDepth 100000 in
theorem vb_X9_goesOn_173 {X : Nat × (Nat → Int32)} {R : zRt} : ∀ ls st h, B_X9_goesOn_173 X (zV X M_X9_goesOn (zQm M_X9_goesOn R) 0 0) R ls st h → zV X M_X9_goesOn (zQm M_X9_goesOn R) 0 0 173 ls st h := sd_aload_n dX9_goesOn_173 rfl (sd_aload_n dX9_goesOn_174 rfl (sd_geti dX9_goesOn_175 zCl9 (Nat.le_of_ble_eq_true rfl) lk_RX9_71 (Or.inl rfl) (sd_inv1 dX9_goesOn_178 rfl mv_X9_byteAt na_X9_byteAt ml_RX9_74 ⟨⟨Nat.le_of_ble_eq_true rfl, Nat.le_of_ble_eq_true rfl⟩, ⟨Nat.le_of_ble_eq_true rfl, Nat.le_of_ble_eq_true rfl⟩⟩ (sd_ins1 dX9_goesOn_181 ms_X9_isDigit na_X9_isDigit ml_RX9_88 ⟨⟨Nat.le_of_ble_eq_true rfl, Nat.le_of_ble_eq_true rfl⟩, ⟨Nat.le_of_ble_eq_true rfl, Nat.le_of_ble_eq_true rfl⟩⟩ (sd_ifeq dX9_goesOn_184 rfl (fun _ _ _ h => h) (sd_iload_n dX9_goesOn_187 rfl (sd_iconst dX9_goesOn_188 rfl (sd_icge dX9_goesOn_189 rfl (fun _ _ _ h => h) (sd_aload_n dX9_goesOn_192 rfl (sd_bipush dX9_goesOn_193 rfl (sd_aload_n dX9_goesOn_195 rfl (sd_geti dX9_goesOn_196 zCl9 (Nat.le_of_ble_eq_true rfl) lk_RX9_91 (Or.inl rfl) (sd_imul dX9_goesOn_199 (sd_aload_n dX9_goesOn_200 rfl (sd_aload_n dX9_goesOn_201 rfl (sd_geti dX9_goesOn_202 zCl9 (Nat.le_of_ble_eq_true rfl) lk_RX9_71 (Or.inl rfl) (sd_inv1 dX9_goesOn_205 rfl mv_X9_byteAt na_X9_byteAt ml_RX9_74 ⟨⟨Nat.le_of_ble_eq_true rfl, Nat.le_of_ble_eq_true rfl⟩, ⟨Nat.le_of_ble_eq_true rfl, Nat.le_of_ble_eq_true rfl⟩⟩ (sd_iadd dX9_goesOn_208 (sd_bipush dX9_goesOn_209 rfl (sd_isub dX9_goesOn_211 (sd_puti dX9_goesOn_212 zCl9 (Nat.le_of_ble_eq_true rfl) lk_RX9_91 rfl (Or.inl rfl) (fun _ _ _ h => h))))))))))))))))))))))
def B_X9_goesOn_215 (X : Nat × (Nat → Int32)) (J : Nat → zCf) (R : zRt) : zCf := oIINC 1 2 (zj (1)) (oALOAD 0 (oDUP (oGETI 9 8 (oPI (zj (1)) (oIADD (oPUTI 9 8 (J 173)))))))
set_option maxRecDepth 100000 in
theorem vb_X9_goesOn_215 {X : Nat × (Nat → Int32)} {R : zRt} : ∀ ls st h, B_X9_goesOn_215 X (zV X M_X9_goesOn (zQm M_X9_goesOn R) 0 0) R ls st h → zV X M_X9_goesOn (zQm M_X9_goesOn R) 0 0 215 ls st h := sd_iinc dX9_goesOn_215 rfl (Nat.le_of_ble_eq_true rfl) (Or.inl rfl) (sd_aload_n dX9_goesOn_218 rfl (sd_dup dX9_goesOn_219 (sd_geti dX9_goesOn_220 zCl9 (Nat.le_of_ble_eq_true rfl) lk_RX9_71 (Or.inl rfl) (sd_iconst dX9_goesOn_223 rfl (sd_iadd dX9_goesOn_224 (sd_puti dX9_goesOn_225 zCl9 (Nat.le_of_ble_eq_true rfl) lk_RX9_71 rfl (Or.inl rfl) (sd_goto dX9_goesOn_228 rfl (fun _ _ _ h => h))))))))
def B_X9_goesOn_231 (X : Nat × (Nat → Int32)) (J : Nat → zCf) (R : zRt) : zCf := oILOAD 2 (oPI (zj (3)) (oICGT (J 265) (oALOAD 0 (oPI (zj (3)) (oPUTI 9 9 (J 265))))))
set_option maxRecDepth 100000 in
theorem vb_X9_goesOn_231 {X : Nat × (Nat → Int32)} {R : zRt} : ∀ ls st h, B_X9_goesOn_231 X (zV X M_X9_goesOn (zQm M_X9_goesOn R) 0 0) R ls st h → zV X M_X9_goesOn (zQm M_X9_goesOn R) 0 0 231 ls st h := sd_iload_n dX9_goesOn_231 rfl (sd_iconst dX9_goesOn_232 rfl (sd_icgt dX9_goesOn_233 rfl (fun _ _ _ h => h) (sd_aload_n dX9_goesOn_236 rfl (sd_iconst dX9_goesOn_237 rfl (sd_puti dX9_goesOn_238 zCl9 (Nat.le_of_ble_eq_true rfl) lk_RX9_68 rfl (Or.inl rfl) (sd_goto dX9_goesOn_241 rfl (fun _ _ _ h => h)))))))
def B_X9_goesOn_244 (X : Nat × (Nat → Int32)) (J : Nat → zCf) (R : zRt) : zCf := oILOAD 1 (oPI (zj (59)) (oICNE (J 265) (oALOAD 0 (oPI (zj (4)) (oPUTI 9 9 (oALOAD 0 (oDUP (oGETI 9 8 (oPI (zj (1)) (oIADD (oPUTI 9 8 (J 265))))))))))))
set_option maxRecDepth 100000 in
theorem vb_X9_goesOn_244 {X : Nat × (Nat → Int32)} {R : zRt} : ∀ ls st h, B_X9_goesOn_244 X (zV X M_X9_goesOn (zQm M_X9_goesOn R) 0 0) R ls st h → zV X M_X9_goesOn (zQm M_X9_goesOn R) 0 0 244 ls st h := sd_iload_n dX9_goesOn_244 rfl (sd_bipush dX9_goesOn_245 rfl (sd_icne dX9_goesOn_247 rfl (fun _ _ _ h => h) (sd_aload_n dX9_goesOn_250 rfl (sd_iconst dX9_goesOn_251 rfl (sd_puti dX9_goesOn_252 zCl9 (Nat.le_of_ble_eq_true rfl) lk_RX9_68 rfl (Or.inl rfl) (sd_aload_n dX9_goesOn_255 rfl (sd_dup dX9_goesOn_256 (sd_geti dX9_goesOn_257 zCl9 (Nat.le_of_ble_eq_true rfl) lk_RX9_71 (Or.inl rfl) (sd_iconst dX9_goesOn_260 rfl (sd_iadd dX9_goesOn_261 (sd_puti dX9_goesOn_262 zCl9 (Nat.le_of_ble_eq_true rfl) lk_RX9_71 rfl (Or.inl rfl) (fun _ _ _ h => h))))))))))))
def B_X9_goesOn_265 (X : Nat × (Nat → Int32)) (J : Nat → zCf) (R : zRt) : zCf := oVRET R
set_option maxRecDepth 100000 in
theorem vb_X9_goesOn_265 {X : Nat × (Nat → Int32)} {R : zRt} : ∀ ls st h, B_X9_goesOn_265 X (zV X M_X9_goesOn (zQm M_X9_goesOn R) 0 0) R ls st h → zV X M_X9_goesOn (zQm M_X9_goesOn R) 0 0 265 ls st h := sd_vret dX9_goesOn_265 rfl (Nat.le_of_ble_eq_true rfl) (Nat.le_of_ble_eq_true rfl)
theorem dX9_flaw_0 : decode cX9_flaw 0 = .ok (.aload_n 0, 1) := by decide +kernel
theorem dX9_flaw_1 : decode cX9_flaw 1 = .ok (.getfield 68, 3) := by decide +kernel
theorem dX9_flaw_4 : decode cX9_flaw 4 = .ok (.iconst 5, 1) := by decide +kernel
theorem dX9_flaw_5 : decode cX9_flaw 5 = .ok (.if_icmp .ne 4, 3) := by decide +kernel
theorem dX9_flaw_8 : decode cX9_flaw 8 = .ok (.return_, 1) := by decide +kernel
theorem dX9_flaw_9 : decode cX9_flaw 9 = .ok (.aload_n 0, 1) := by decide +kernel
theorem dX9_flaw_10 : decode cX9_flaw 10 = .ok (.iload_n 1, 1) := by decide +kernel
theorem dX9_flaw_11 : decode cX9_flaw 11 = .ok (.putfield 94, 3) := by decide +kernel
theorem dX9_flaw_14 : decode cX9_flaw 14 = .ok (.aload_n 0, 1) := by decide +kernel
theorem dX9_flaw_15 : decode cX9_flaw 15 = .ok (.aload_n 0, 1) := by decide +kernel
theorem dX9_flaw_16 : decode cX9_flaw 16 = .ok (.getfield 77, 3) := by decide +kernel
theorem dX9_flaw_19 : decode cX9_flaw 19 = .ok (.putfield 97, 3) := by decide +kernel
theorem dX9_flaw_22 : decode cX9_flaw 22 = .ok (.aload_n 0, 1) := by decide +kernel
theorem dX9_flaw_23 : decode cX9_flaw 23 = .ok (.iconst 5, 1) := by decide +kernel
theorem dX9_flaw_24 : decode cX9_flaw 24 = .ok (.putfield 68, 3) := by decide +kernel
theorem dX9_flaw_27 : decode cX9_flaw 27 = .ok (.return_, 1) := by decide +kernel
def B_X9_flaw_0 (X : Nat × (Nat → Int32)) (J : Nat → zCf) (R : zRt) : zCf := oALOAD 0 (oGETI 9 9 (oPI (zj (5)) (oICNE (J 9) (oVRET R))))
set_option maxRecDepth 100000 in
theorem vb_X9_flaw_0 {X : Nat × (Nat → Int32)} {R : zRt} : ∀ ls st h, B_X9_flaw_0 X (zV X M_X9_flaw (zQm M_X9_flaw R) 0 0) R ls st h → zV X M_X9_flaw (zQm M_X9_flaw R) 0 0 0 ls st h := sd_aload_n dX9_flaw_0 rfl (sd_geti dX9_flaw_1 zCl9 (Nat.le_of_ble_eq_true rfl) lk_RX9_68 (Or.inl rfl) (sd_iconst dX9_flaw_4 rfl (sd_icne dX9_flaw_5 rfl (fun _ _ _ h => h) (sd_vret dX9_flaw_8 rfl (Nat.le_of_ble_eq_true rfl) (Nat.le_of_ble_eq_true rfl)))))
def B_X9_flaw_9 (X : Nat × (Nat → Int32)) (J : Nat → zCf) (R : zRt) : zCf := oALOAD 0 (oILOAD 1 (oPUTI 9 12 (oALOAD 0 (oALOAD 0 (oGETI 9 10 (oPUTI 9 13 (oALOAD 0 (oPI (zj (5)) (oPUTI 9 9 (oVRET R))))))))))
set_option maxRecDepth 100000 in
theorem vb_X9_flaw_9 {X : Nat × (Nat → Int32)} {R : zRt} : ∀ ls st h, B_X9_flaw_9 X (zV X M_X9_flaw (zQm M_X9_flaw R) 0 0) R ls st h → zV X M_X9_flaw (zQm M_X9_flaw R) 0 0 9 ls st h := sd_aload_n dX9_flaw_9 rfl (sd_iload_n dX9_flaw_10 rfl (sd_puti dX9_flaw_11 zCl9 (Nat.le_of_ble_eq_true rfl) lk_RX9_94 rfl (Or.inl rfl) (sd_aload_n dX9_flaw_14 rfl (sd_aload_n dX9_flaw_15 rfl (sd_geti dX9_flaw_16 zCl9 (Nat.le_of_ble_eq_true rfl) lk_RX9_77 (Or.inl rfl) (sd_puti dX9_flaw_19 zCl9 (Nat.le_of_ble_eq_true rfl) lk_RX9_97 rfl (Or.inl rfl) (sd_aload_n dX9_flaw_22 rfl (sd_iconst dX9_flaw_23 rfl (sd_puti dX9_flaw_24 zCl9 (Nat.le_of_ble_eq_true rfl) lk_RX9_68 rfl (Or.inl rfl) (sd_vret dX9_flaw_27 rfl (Nat.le_of_ble_eq_true rfl) (Nat.le_of_ble_eq_true rfl)))))))))))
theorem dX9_isWord_0 : decode cX9_isWord 0 = .ok (.aload_n 0, 1) := by decide +kernel
theorem dX9_isWord_1 : decode cX9_isWord 1 = .ok (.getfield 68, 3) := by decide +kernel
theorem dX9_isWord_4 : decode cX9_isWord 4 = .ok (.iconst 2, 1) := by decide +kernel
theorem dX9_isWord_5 : decode cX9_isWord 5 = .ok (.if_icmp .ne 19, 3) := by decide +kernel
theorem dX9_isWord_8 : decode cX9_isWord 8 = .ok (.aload_n 0, 1) := by decide +kernel
theorem dX9_isWord_9 : decode cX9_isWord 9 = .ok (.getfield 84, 3) := by decide +kernel
theorem dX9_isWord_12 : decode cX9_isWord 12 = .ok (.aload_n 1, 1) := by decide +kernel
theorem dX9_isWord_13 : decode cX9_isWord 13 = .ok (.invokestatic 100, 3) := by decide +kernel
theorem dX9_isWord_16 : decode cX9_isWord 16 = .ok (.lcmp, 1) := by decide +kernel
theorem dX9_isWord_17 : decode cX9_isWord 17 = .ok (.ifCond .ne 7, 3) := by decide +kernel
theorem dX9_isWord_20 : decode cX9_isWord 20 = .ok (.iconst 1, 1) := by decide +kernel
theorem dX9_isWord_21 : decode cX9_isWord 21 = .ok (.goto 4, 3) := by decide +kernel
theorem dX9_isWord_24 : decode cX9_isWord 24 = .ok (.iconst 0, 1) := by decide +kernel
theorem dX9_isWord_25 : decode cX9_isWord 25 = .ok (.ireturn, 1) := by decide +kernel
def B_X9_isWord_0 (X : Nat × (Nat → Int32)) (J : Nat → zCf) (R : zRt) : zCf := oALOAD 0 (oGETI 9 9 (oPI (zj (2)) (oICNE (J 24) (oALOAD 0 (oGETL 9 14 (oALOAD 1 (oINS1 X M_X9_packed (oLCMP (oIFNE (J 24) (oPI (zj (1)) (J 25)))))))))))
set_option maxRecDepth 100000 in
theorem vb_X9_isWord_0 {X : Nat × (Nat → Int32)} {R : zRt} : ∀ ls st h, B_X9_isWord_0 X (zV X M_X9_isWord (zQm M_X9_isWord R) 0 0) R ls st h → zV X M_X9_isWord (zQm M_X9_isWord R) 0 0 0 ls st h := sd_aload_n dX9_isWord_0 rfl (sd_geti dX9_isWord_1 zCl9 (Nat.le_of_ble_eq_true rfl) lk_RX9_68 (Or.inl rfl) (sd_iconst dX9_isWord_4 rfl (sd_icne dX9_isWord_5 rfl (fun _ _ _ h => h) (sd_aload_n dX9_isWord_8 rfl (sd_getl dX9_isWord_9 zCl9 (Nat.le_of_ble_eq_true rfl) lk_RX9_84 rfl (sd_aload_n dX9_isWord_12 rfl (sd_ins1 dX9_isWord_13 ms_X9_packed na_X9_packed ml_RX9_100 ⟨⟨Nat.le_of_ble_eq_true rfl, Nat.le_of_ble_eq_true rfl⟩, ⟨Nat.le_of_ble_eq_true rfl, Nat.le_of_ble_eq_true rfl⟩⟩ (sd_lcmp dX9_isWord_16 (sd_ifne dX9_isWord_17 rfl (fun _ _ _ h => h) (sd_iconst dX9_isWord_20 rfl (sd_goto dX9_isWord_21 rfl (fun _ _ _ h => h))))))))))))
def B_X9_isWord_24 (X : Nat × (Nat → Int32)) (J : Nat → zCf) (R : zRt) : zCf := oPI (zj (0)) (J 25)
set_option maxRecDepth 100000 in
theorem vb_X9_isWord_24 {X : Nat × (Nat → Int32)} {R : zRt} : ∀ ls st h, B_X9_isWord_24 X (zV X M_X9_isWord (zQm M_X9_isWord R) 0 0) R ls st h → zV X M_X9_isWord (zQm M_X9_isWord R) 0 0 24 ls st h := sd_iconst dX9_isWord_24 rfl (fun _ _ _ h => h)
def B_X9_isWord_25 (X : Nat × (Nat → Int32)) (J : Nat → zCf) (R : zRt) : zCf := oZRET R
set_option maxRecDepth 100000 in
theorem vb_X9_isWord_25 {X : Nat × (Nat → Int32)} {R : zRt} : ∀ ls st h, B_X9_isWord_25 X (zV X M_X9_isWord (zQm M_X9_isWord R) 0 0) R ls st h → zV X M_X9_isWord (zQm M_X9_isWord R) 0 0 25 ls st h := sd_zret dX9_isWord_25 rfl (Nat.le_of_ble_eq_true rfl) (Nat.le_of_ble_eq_true rfl)
theorem dX9_eatsSemicolon_0 : decode cX9_eatsSemicolon 0 = .ok (.aload_n 0, 1) := by decide +kernel
theorem dX9_eatsSemicolon_1 : decode cX9_eatsSemicolon 1 = .ok (.getfield 68, 3) := by decide +kernel
theorem dX9_eatsSemicolon_4 : decode cX9_eatsSemicolon 4 = .ok (.iconst 4, 1) := by decide +kernel
theorem dX9_eatsSemicolon_5 : decode cX9_eatsSemicolon 5 = .ok (.if_icmp .ne 7, 3) := by decide +kernel
theorem dX9_eatsSemicolon_8 : decode cX9_eatsSemicolon 8 = .ok (.iconst 1, 1) := by decide +kernel
theorem dX9_eatsSemicolon_9 : decode cX9_eatsSemicolon 9 = .ok (.goto 4, 3) := by decide +kernel
theorem dX9_eatsSemicolon_12 : decode cX9_eatsSemicolon 12 = .ok (.iconst 0, 1) := by decide +kernel
theorem dX9_eatsSemicolon_13 : decode cX9_eatsSemicolon 13 = .ok (.istore_n 1, 1) := by decide +kernel
theorem dX9_eatsSemicolon_14 : decode cX9_eatsSemicolon 14 = .ok (.iload_n 1, 1) := by decide +kernel
theorem dX9_eatsSemicolon_15 : decode cX9_eatsSemicolon 15 = .ok (.ifCond .eq 7, 3) := by decide +kernel
theorem dX9_eatsSemicolon_18 : decode cX9_eatsSemicolon 18 = .ok (.aload_n 0, 1) := by decide +kernel
theorem dX9_eatsSemicolon_19 : decode cX9_eatsSemicolon 19 = .ok (.invokevirtual 104, 3) := by decide +kernel
theorem dX9_eatsSemicolon_22 : decode cX9_eatsSemicolon 22 = .ok (.iload_n 1, 1) := by decide +kernel
theorem dX9_eatsSemicolon_23 : decode cX9_eatsSemicolon 23 = .ok (.ireturn, 1) := by decide +kernel
def B_X9_eatsSemicolon_0 (X : Nat × (Nat → Int32)) (J : Nat → zCf) (R : zRt) : zCf := oALOAD 0 (oGETI 9 9 (oPI (zj (4)) (oICNE (J 12) (oPI (zj (1)) (J 13)))))
set_option maxRecDepth 100000 in
theorem vb_X9_eatsSemicolon_0 {X : Nat × (Nat → Int32)} {R : zRt} : ∀ ls st h, B_X9_eatsSemicolon_0 X (zV X M_X9_eatsSemicolon (zQm M_X9_eatsSemicolon R) 0 0) R ls st h → zV X M_X9_eatsSemicolon (zQm M_X9_eatsSemicolon R) 0 0 0 ls st h := sd_aload_n dX9_eatsSemicolon_0 rfl (sd_geti dX9_eatsSemicolon_1 zCl9 (Nat.le_of_ble_eq_true rfl) lk_RX9_68 (Or.inl rfl) (sd_iconst dX9_eatsSemicolon_4 rfl (sd_icne dX9_eatsSemicolon_5 rfl (fun _ _ _ h => h) (sd_iconst dX9_eatsSemicolon_8 rfl (sd_goto dX9_eatsSemicolon_9 rfl (fun _ _ _ h => h))))))
def B_X9_eatsSemicolon_12 (X : Nat × (Nat → Int32)) (J : Nat → zCf) (R : zRt) : zCf := oPI (zj (0)) (J 13)
set_option maxRecDepth 100000 in
theorem vb_X9_eatsSemicolon_12 {X : Nat × (Nat → Int32)} {R : zRt} : ∀ ls st h, B_X9_eatsSemicolon_12 X (zV X M_X9_eatsSemicolon (zQm M_X9_eatsSemicolon R) 0 0) R ls st h → zV X M_X9_eatsSemicolon (zQm M_X9_eatsSemicolon R) 0 0 12 ls st h := sd_iconst dX9_eatsSemicolon_12 rfl (fun _ _ _ h => h)
def B_X9_eatsSemicolon_13 (X : Nat × (Nat → Int32)) (J : Nat → zCf) (R : zRt) : zCf := oISTORE 0 1 (oILOAD 1 (oIFEQ (J 22) (oALOAD 0 (oINV0 X M_X9_goesOn 9 (J 22)))))
set_option maxRecDepth 100000 in
theorem vb_X9_eatsSemicolon_13 {X : Nat × (Nat → Int32)} {R : zRt} : ∀ ls st h, B_X9_eatsSemicolon_13 X (zV X M_X9_eatsSemicolon (zQm M_X9_eatsSemicolon R) 0 0) R ls st h → zV X M_X9_eatsSemicolon (zQm M_X9_eatsSemicolon R) 0 0 13 ls st h := sd_istore_n dX9_eatsSemicolon_13 rfl (Nat.le_of_ble_eq_true rfl) (Or.inl rfl) (sd_iload_n dX9_eatsSemicolon_14 rfl (sd_ifeq dX9_eatsSemicolon_15 rfl (fun _ _ _ h => h) (sd_aload_n dX9_eatsSemicolon_18 rfl (sd_inv0 dX9_eatsSemicolon_19 rfl mv_X9_goesOn na_X9_goesOn ml_RX9_104 ⟨⟨Nat.le_of_ble_eq_true rfl, Nat.le_of_ble_eq_true rfl⟩, ⟨Nat.le_of_ble_eq_true rfl, Nat.le_of_ble_eq_true rfl⟩⟩ (fun _ _ _ h => h)))))
def B_X9_eatsSemicolon_22 (X : Nat × (Nat → Int32)) (J : Nat → zCf) (R : zRt) : zCf := oILOAD 1 (oZRET R)
set_option maxRecDepth 100000 in
theorem vb_X9_eatsSemicolon_22 {X : Nat × (Nat → Int32)} {R : zRt} : ∀ ls st h, B_X9_eatsSemicolon_22 X (zV X M_X9_eatsSemicolon (zQm M_X9_eatsSemicolon R) 0 0) R ls st h → zV X M_X9_eatsSemicolon (zQm M_X9_eatsSemicolon R) 0 0 22 ls st h := sd_iload_n dX9_eatsSemicolon_22 rfl (sd_zret dX9_eatsSemicolon_23 rfl (Nat.le_of_ble_eq_true rfl) (Nat.le_of_ble_eq_true rfl))
theorem dX9_needs_0 : decode cX9_needs 0 = .ok (.aload_n 0, 1) := by decide +kernel
theorem dX9_needs_1 : decode cX9_needs 1 = .ok (.aload_n 1, 1) := by decide +kernel
theorem dX9_needs_2 : decode cX9_needs 2 = .ok (.invokevirtual 107, 3) := by decide +kernel
theorem dX9_needs_5 : decode cX9_needs 5 = .ok (.ifCond .ne 8, 3) := by decide +kernel
theorem dX9_needs_8 : decode cX9_needs 8 = .ok (.aload_n 0, 1) := by decide +kernel
theorem dX9_needs_9 : decode cX9_needs 9 = .ok (.iconst 1, 1) := by decide +kernel
theorem dX9_needs_10 : decode cX9_needs 10 = .ok (.invokevirtual 111, 3) := by decide +kernel
theorem dX9_needs_13 : decode cX9_needs 13 = .ok (.aload_n 0, 1) := by decide +kernel
theorem dX9_needs_14 : decode cX9_needs 14 = .ok (.invokevirtual 104, 3) := by decide +kernel
theorem dX9_needs_17 : decode cX9_needs 17 = .ok (.return_, 1) := by decide +kernel
def B_X9_needs_0 (X : Nat × (Nat → Int32)) (J : Nat → zCf) (R : zRt) : zCf := oALOAD 0 (oALOAD 1 (oINV1 X M_X9_isWord 9 (oIFNE (J 13) (oALOAD 0 (oPI (zj (1)) (oINV1 X M_X9_flaw 9 (J 13)))))))
set_option maxRecDepth 100000 in
theorem vb_X9_needs_0 {X : Nat × (Nat → Int32)} {R : zRt} : ∀ ls st h, B_X9_needs_0 X (zV X M_X9_needs (zQm M_X9_needs R) 0 0) R ls st h → zV X M_X9_needs (zQm M_X9_needs R) 0 0 0 ls st h := sd_aload_n dX9_needs_0 rfl (sd_aload_n dX9_needs_1 rfl (sd_inv1 dX9_needs_2 rfl mv_X9_isWord na_X9_isWord ml_RX9_107 ⟨⟨Nat.le_of_ble_eq_true rfl, Nat.le_of_ble_eq_true rfl⟩, ⟨Nat.le_of_ble_eq_true rfl, Nat.le_of_ble_eq_true rfl⟩⟩ (sd_ifne dX9_needs_5 rfl (fun _ _ _ h => h) (sd_aload_n dX9_needs_8 rfl (sd_iconst dX9_needs_9 rfl (sd_inv1 dX9_needs_10 rfl mv_X9_flaw na_X9_flaw ml_RX9_111 ⟨⟨Nat.le_of_ble_eq_true rfl, Nat.le_of_ble_eq_true rfl⟩, ⟨Nat.le_of_ble_eq_true rfl, Nat.le_of_ble_eq_true rfl⟩⟩ (fun _ _ _ h => h)))))))
def B_X9_needs_13 (X : Nat × (Nat → Int32)) (J : Nat → zCf) (R : zRt) : zCf := oALOAD 0 (oINV0 X M_X9_goesOn 9 (oVRET R))
set_option maxRecDepth 100000 in
theorem vb_X9_needs_13 {X : Nat × (Nat → Int32)} {R : zRt} : ∀ ls st h, B_X9_needs_13 X (zV X M_X9_needs (zQm M_X9_needs R) 0 0) R ls st h → zV X M_X9_needs (zQm M_X9_needs R) 0 0 13 ls st h := sd_aload_n dX9_needs_13 rfl (sd_inv0 dX9_needs_14 rfl mv_X9_goesOn na_X9_goesOn ml_RX9_104 ⟨⟨Nat.le_of_ble_eq_true rfl, Nat.le_of_ble_eq_true rfl⟩, ⟨Nat.le_of_ble_eq_true rfl, Nat.le_of_ble_eq_true rfl⟩⟩ (sd_vret dX9_needs_17 rfl (Nat.le_of_ble_eq_true rfl) (Nat.le_of_ble_eq_true rfl)))
theorem dX9_bounded_0 : decode cX9_bounded 0 = .ok (.aload_n 0, 1) := by decide +kernel
theorem dX9_bounded_1 : decode cX9_bounded 1 = .ok (.getfield 68, 3) := by decide +kernel
theorem dX9_bounded_4 : decode cX9_bounded 4 = .ok (.iconst 3, 1) := by decide +kernel
theorem dX9_bounded_5 : decode cX9_bounded 5 = .ok (.if_icmp .eq 11, 3) := by decide +kernel
theorem dX9_bounded_8 : decode cX9_bounded 8 = .ok (.aload_n 0, 1) := by decide +kernel
theorem dX9_bounded_9 : decode cX9_bounded 9 = .ok (.iconst 1, 1) := by decide +kernel
theorem dX9_bounded_10 : decode cX9_bounded 10 = .ok (.invokevirtual 111, 3) := by decide +kernel
theorem dX9_bounded_13 : decode cX9_bounded 13 = .ok (.goto 20, 3) := by decide +kernel
theorem dX9_bounded_16 : decode cX9_bounded 16 = .ok (.aload_n 0, 1) := by decide +kernel
theorem dX9_bounded_17 : decode cX9_bounded 17 = .ok (.getfield 91, 3) := by decide +kernel
theorem dX9_bounded_20 : decode cX9_bounded 20 = .ok (.iload_n 1, 1) := by decide +kernel
theorem dX9_bounded_21 : decode cX9_bounded 21 = .ok (.iload_n 2, 1) := by decide +kernel
theorem dX9_bounded_22 : decode cX9_bounded 22 = .ok (.invokestatic 115, 3) := by decide +kernel
theorem dX9_bounded_25 : decode cX9_bounded 25 = .ok (.ifCond .ne 8, 3) := by decide +kernel
theorem dX9_bounded_28 : decode cX9_bounded 28 = .ok (.aload_n 0, 1) := by decide +kernel
theorem dX9_bounded_29 : decode cX9_bounded 29 = .ok (.iconst 4, 1) := by decide +kernel
theorem dX9_bounded_30 : decode cX9_bounded 30 = .ok (.invokevirtual 111, 3) := by decide +kernel
theorem dX9_bounded_33 : decode cX9_bounded 33 = .ok (.aload_n 0, 1) := by decide +kernel
theorem dX9_bounded_34 : decode cX9_bounded 34 = .ok (.getfield 68, 3) := by decide +kernel
theorem dX9_bounded_37 : decode cX9_bounded 37 = .ok (.iconst 5, 1) := by decide +kernel
theorem dX9_bounded_38 : decode cX9_bounded 38 = .ok (.if_icmp .ne 7, 3) := by decide +kernel
theorem dX9_bounded_41 : decode cX9_bounded 41 = .ok (.iload_n 1, 1) := by decide +kernel
theorem dX9_bounded_42 : decode cX9_bounded 42 = .ok (.goto 7, 3) := by decide +kernel
theorem dX9_bounded_45 : decode cX9_bounded 45 = .ok (.aload_n 0, 1) := by decide +kernel
theorem dX9_bounded_46 : decode cX9_bounded 46 = .ok (.getfield 91, 3) := by decide +kernel
theorem dX9_bounded_49 : decode cX9_bounded 49 = .ok (.ireturn, 1) := by decide +kernel
def B_X9_bounded_0 (X : Nat × (Nat → Int32)) (J : Nat → zCf) (R : zRt) : zCf := oALOAD 0 (oGETI 9 9 (oPI (zj (3)) (oICEQ (J 16) (oALOAD 0 (oPI (zj (1)) (oINV1 X M_X9_flaw 9 (J 33)))))))
set_option maxRecDepth 100000 in
theorem vb_X9_bounded_0 {X : Nat × (Nat → Int32)} {R : zRt} : ∀ ls st h, B_X9_bounded_0 X (zV X M_X9_bounded (zQm M_X9_bounded R) 0 0) R ls st h → zV X M_X9_bounded (zQm M_X9_bounded R) 0 0 0 ls st h := sd_aload_n dX9_bounded_0 rfl (sd_geti dX9_bounded_1 zCl9 (Nat.le_of_ble_eq_true rfl) lk_RX9_68 (Or.inl rfl) (sd_iconst dX9_bounded_4 rfl (sd_iceq dX9_bounded_5 rfl (fun _ _ _ h => h) (sd_aload_n dX9_bounded_8 rfl (sd_iconst dX9_bounded_9 rfl (sd_inv1 dX9_bounded_10 rfl mv_X9_flaw na_X9_flaw ml_RX9_111 ⟨⟨Nat.le_of_ble_eq_true rfl, Nat.le_of_ble_eq_true rfl⟩, ⟨Nat.le_of_ble_eq_true rfl, Nat.le_of_ble_eq_true rfl⟩⟩ (sd_goto dX9_bounded_13 rfl (fun _ _ _ h => h))))))))
def B_X9_bounded_16 (X : Nat × (Nat → Int32)) (J : Nat → zCf) (R : zRt) : zCf := oALOAD 0 (oGETI 9 11 (oILOAD 1 (oILOAD 2 (oINS3 X M_X9_in (oIFNE (J 33) (oALOAD 0 (oPI (zj (4)) (oINV1 X M_X9_flaw 9 (J 33)))))))))
set_option maxRecDepth 100000 in
theorem vb_X9_bounded_16 {X : Nat × (Nat → Int32)} {R : zRt} : ∀ ls st h, B_X9_bounded_16 X (zV X M_X9_bounded (zQm M_X9_bounded R) 0 0) R ls st h → zV X M_X9_bounded (zQm M_X9_bounded R) 0 0 16 ls st h := sd_aload_n dX9_bounded_16 rfl (sd_geti dX9_bounded_17 zCl9 (Nat.le_of_ble_eq_true rfl) lk_RX9_91 (Or.inl rfl) (sd_iload_n dX9_bounded_20 rfl (sd_iload_n dX9_bounded_21 rfl (sd_ins3 dX9_bounded_22 ms_X9_in na_X9_in ml_RX9_115 ⟨⟨Nat.le_of_ble_eq_true rfl, Nat.le_of_ble_eq_true rfl⟩, ⟨Nat.le_of_ble_eq_true rfl, Nat.le_of_ble_eq_true rfl⟩⟩ (sd_ifne dX9_bounded_25 rfl (fun _ _ _ h => h) (sd_aload_n dX9_bounded_28 rfl (sd_iconst dX9_bounded_29 rfl (sd_inv1 dX9_bounded_30 rfl mv_X9_flaw na_X9_flaw ml_RX9_111 ⟨⟨Nat.le_of_ble_eq_true rfl, Nat.le_of_ble_eq_true rfl⟩, ⟨Nat.le_of_ble_eq_true rfl, Nat.le_of_ble_eq_true rfl⟩⟩ (fun _ _ _ h => h)))))))))
def B_X9_bounded_33 (X : Nat × (Nat → Int32)) (J : Nat → zCf) (R : zRt) : zCf := oALOAD 0 (oGETI 9 9 (oPI (zj (5)) (oICNE (J 45) (oILOAD 1 (J 49)))))
set_option maxRecDepth 100000 in
theorem vb_X9_bounded_33 {X : Nat × (Nat → Int32)} {R : zRt} : ∀ ls st h, B_X9_bounded_33 X (zV X M_X9_bounded (zQm M_X9_bounded R) 0 0) R ls st h → zV X M_X9_bounded (zQm M_X9_bounded R) 0 0 33 ls st h := sd_aload_n dX9_bounded_33 rfl (sd_geti dX9_bounded_34 zCl9 (Nat.le_of_ble_eq_true rfl) lk_RX9_68 (Or.inl rfl) (sd_iconst dX9_bounded_37 rfl (sd_icne dX9_bounded_38 rfl (fun _ _ _ h => h) (sd_iload_n dX9_bounded_41 rfl (sd_goto dX9_bounded_42 rfl (fun _ _ _ h => h))))))
def B_X9_bounded_45 (X : Nat × (Nat → Int32)) (J : Nat → zCf) (R : zRt) : zCf := oALOAD 0 (oGETI 9 11 (J 49))
set_option maxRecDepth 100000 in
theorem vb_X9_bounded_45 {X : Nat × (Nat → Int32)} {R : zRt} : ∀ ls st h, B_X9_bounded_45 X (zV X M_X9_bounded (zQm M_X9_bounded R) 0 0) R ls st h → zV X M_X9_bounded (zQm M_X9_bounded R) 0 0 45 ls st h := sd_aload_n dX9_bounded_45 rfl (sd_geti dX9_bounded_46 zCl9 (Nat.le_of_ble_eq_true rfl) lk_RX9_91 (Or.inl rfl) (fun _ _ _ h => h))
def B_X9_bounded_49 (X : Nat × (Nat → Int32)) (J : Nat → zCf) (R : zRt) : zCf := oIRET R
set_option maxRecDepth 100000 in
theorem vb_X9_bounded_49 {X : Nat × (Nat → Int32)} {R : zRt} : ∀ ls st h, B_X9_bounded_49 X (zV X M_X9_bounded (zQm M_X9_bounded R) 0 0) R ls st h → zV X M_X9_bounded (zQm M_X9_bounded R) 0 0 49 ls st h := sd_iret dX9_bounded_49 rfl (Nat.le_of_ble_eq_true rfl) (Nat.le_of_ble_eq_true rfl)
theorem dX9_readWhole_0 : decode cX9_readWhole 0 = .ok (.aload_n 0, 1) := by decide +kernel
theorem dX9_readWhole_1 : decode cX9_readWhole 1 = .ok (.iload_n 1, 1) := by decide +kernel
theorem dX9_readWhole_2 : decode cX9_readWhole 2 = .ok (.iload_n 2, 1) := by decide +kernel
theorem dX9_readWhole_3 : decode cX9_readWhole 3 = .ok (.invokevirtual 119, 3) := by decide +kernel
theorem dX9_readWhole_6 : decode cX9_readWhole 6 = .ok (.istore_n 3, 1) := by decide +kernel
theorem dX9_readWhole_7 : decode cX9_readWhole 7 = .ok (.aload_n 0, 1) := by decide +kernel
theorem dX9_readWhole_8 : decode cX9_readWhole 8 = .ok (.invokevirtual 104, 3) := by decide +kernel
theorem dX9_readWhole_11 : decode cX9_readWhole 11 = .ok (.iload_n 3, 1) := by decide +kernel
theorem dX9_readWhole_12 : decode cX9_readWhole 12 = .ok (.ireturn, 1) := by decide +kernel
def B_X9_readWhole_0 (X : Nat × (Nat → Int32)) (J : Nat → zCf) (R : zRt) : zCf := oALOAD 0 (oILOAD 1 (oILOAD 2 (oINV2 X M_X9_bounded 9 (oISTORE 2 3 (oALOAD 0 (oINV0 X M_X9_goesOn 9 (oILOAD 3 (oIRET R))))))))
set_option maxRecDepth 100000 in
theorem vb_X9_readWhole_0 {X : Nat × (Nat → Int32)} {R : zRt} : ∀ ls st h, B_X9_readWhole_0 X (zV X M_X9_readWhole (zQm M_X9_readWhole R) 0 0) R ls st h → zV X M_X9_readWhole (zQm M_X9_readWhole R) 0 0 0 ls st h := sd_aload_n dX9_readWhole_0 rfl (sd_iload_n dX9_readWhole_1 rfl (sd_iload_n dX9_readWhole_2 rfl (sd_inv2 dX9_readWhole_3 rfl mv_X9_bounded na_X9_bounded ml_RX9_119 ⟨⟨Nat.le_of_ble_eq_true rfl, Nat.le_of_ble_eq_true rfl⟩, ⟨Nat.le_of_ble_eq_true rfl, Nat.le_of_ble_eq_true rfl⟩⟩ (sd_istore_n dX9_readWhole_6 rfl (Nat.le_of_ble_eq_true rfl) (Or.inl rfl) (sd_aload_n dX9_readWhole_7 rfl (sd_inv0 dX9_readWhole_8 rfl mv_X9_goesOn na_X9_goesOn ml_RX9_104 ⟨⟨Nat.le_of_ble_eq_true rfl, Nat.le_of_ble_eq_true rfl⟩, ⟨Nat.le_of_ble_eq_true rfl, Nat.le_of_ble_eq_true rfl⟩⟩ (sd_iload_n dX9_readWhole_11 rfl (sd_iret dX9_readWhole_12 rfl (Nat.le_of_ble_eq_true rfl) (Nat.le_of_ble_eq_true rfl)))))))))
theorem dX9_readPart_0 : decode cX9_readPart 0 = .ok (.aload_n 0, 1) := by decide +kernel
theorem dX9_readPart_1 : decode cX9_readPart 1 = .ok (.aload_n 1, 1) := by decide +kernel
theorem dX9_readPart_2 : decode cX9_readPart 2 = .ok (.invokevirtual 123, 3) := by decide +kernel
theorem dX9_readPart_5 : decode cX9_readPart 5 = .ok (.aload_n 0, 1) := by decide +kernel
theorem dX9_readPart_6 : decode cX9_readPart 6 = .ok (.iload_n 2, 1) := by decide +kernel
theorem dX9_readPart_7 : decode cX9_readPart 7 = .ok (.iload_n 3, 1) := by decide +kernel
theorem dX9_readPart_8 : decode cX9_readPart 8 = .ok (.invokevirtual 127, 3) := by decide +kernel
theorem dX9_readPart_11 : decode cX9_readPart 11 = .ok (.ireturn, 1) := by decide +kernel
def B_X9_readPart_0 (X : Nat × (Nat → Int32)) (J : Nat → zCf) (R : zRt) : zCf := oALOAD 0 (oALOAD 1 (oINV1 X M_X9_needs 9 (oALOAD 0 (oILOAD 2 (oILOAD 3 (oINV2 X M_X9_readWhole 9 (oIRET R)))))))
set_option maxRecDepth 100000 in
theorem vb_X9_readPart_0 {X : Nat × (Nat → Int32)} {R : zRt} : ∀ ls st h, B_X9_readPart_0 X (zV X M_X9_readPart (zQm M_X9_readPart R) 0 0) R ls st h → zV X M_X9_readPart (zQm M_X9_readPart R) 0 0 0 ls st h := sd_aload_n dX9_readPart_0 rfl (sd_aload_n dX9_readPart_1 rfl (sd_inv1 dX9_readPart_2 rfl mv_X9_needs na_X9_needs ml_RX9_123 ⟨⟨Nat.le_of_ble_eq_true rfl, Nat.le_of_ble_eq_true rfl⟩, ⟨Nat.le_of_ble_eq_true rfl, Nat.le_of_ble_eq_true rfl⟩⟩ (sd_aload_n dX9_readPart_5 rfl (sd_iload_n dX9_readPart_6 rfl (sd_iload_n dX9_readPart_7 rfl (sd_inv2 dX9_readPart_8 rfl mv_X9_readWhole na_X9_readWhole ml_RX9_127 ⟨⟨Nat.le_of_ble_eq_true rfl, Nat.le_of_ble_eq_true rfl⟩, ⟨Nat.le_of_ble_eq_true rfl, Nat.le_of_ble_eq_true rfl⟩⟩ (sd_iret dX9_readPart_11 rfl (Nat.le_of_ble_eq_true rfl) (Nat.le_of_ble_eq_true rfl))))))))
theorem dX9_readWord_0 : decode cX9_readWord 0 = .ok (.aload_n 0, 1) := by decide +kernel
theorem dX9_readWord_1 : decode cX9_readWord 1 = .ok (.getfield 68, 3) := by decide +kernel
theorem dX9_readWord_4 : decode cX9_readWord 4 = .ok (.iconst 2, 1) := by decide +kernel
theorem dX9_readWord_5 : decode cX9_readWord 5 = .ok (.if_icmp .eq 8, 3) := by decide +kernel
theorem dX9_readWord_8 : decode cX9_readWord 8 = .ok (.aload_n 0, 1) := by decide +kernel
theorem dX9_readWord_9 : decode cX9_readWord 9 = .ok (.iconst 1, 1) := by decide +kernel
theorem dX9_readWord_10 : decode cX9_readWord 10 = .ok (.invokevirtual 111, 3) := by decide +kernel
theorem dX9_readWord_13 : decode cX9_readWord 13 = .ok (.aload_n 0, 1) := by decide +kernel
theorem dX9_readWord_14 : decode cX9_readWord 14 = .ok (.getfield 84, 3) := by decide +kernel
theorem dX9_readWord_17 : decode cX9_readWord 17 = .ok (.lstore_n 1, 1) := by decide +kernel
theorem dX9_readWord_18 : decode cX9_readWord 18 = .ok (.aload_n 0, 1) := by decide +kernel
theorem dX9_readWord_19 : decode cX9_readWord 19 = .ok (.invokevirtual 104, 3) := by decide +kernel
theorem dX9_readWord_22 : decode cX9_readWord 22 = .ok (.lload_n 1, 1) := by decide +kernel
theorem dX9_readWord_23 : decode cX9_readWord 23 = .ok (.lreturn, 1) := by decide +kernel
def B_X9_readWord_0 (X : Nat × (Nat → Int32)) (J : Nat → zCf) (R : zRt) : zCf := oALOAD 0 (oGETI 9 9 (oPI (zj (2)) (oICEQ (J 13) (oALOAD 0 (oPI (zj (1)) (oINV1 X M_X9_flaw 9 (J 13)))))))
set_option maxRecDepth 100000 in
theorem vb_X9_readWord_0 {X : Nat × (Nat → Int32)} {R : zRt} : ∀ ls st h, B_X9_readWord_0 X (zV X M_X9_readWord (zQm M_X9_readWord R) 0 0) R ls st h → zV X M_X9_readWord (zQm M_X9_readWord R) 0 0 0 ls st h := sd_aload_n dX9_readWord_0 rfl (sd_geti dX9_readWord_1 zCl9 (Nat.le_of_ble_eq_true rfl) lk_RX9_68 (Or.inl rfl) (sd_iconst dX9_readWord_4 rfl (sd_iceq dX9_readWord_5 rfl (fun _ _ _ h => h) (sd_aload_n dX9_readWord_8 rfl (sd_iconst dX9_readWord_9 rfl (sd_inv1 dX9_readWord_10 rfl mv_X9_flaw na_X9_flaw ml_RX9_111 ⟨⟨Nat.le_of_ble_eq_true rfl, Nat.le_of_ble_eq_true rfl⟩, ⟨Nat.le_of_ble_eq_true rfl, Nat.le_of_ble_eq_true rfl⟩⟩ (fun _ _ _ h => h)))))))
def B_X9_readWord_13 (X : Nat × (Nat → Int32)) (J : Nat → zCf) (R : zRt) : zCf := oALOAD 0 (oGETL 9 14 (oLSTORE 0 1 (oALOAD 0 (oINV0 X M_X9_goesOn 9 (oLLOAD 1 (oLRET R))))))
set_option maxRecDepth 100000 in
theorem vb_X9_readWord_13 {X : Nat × (Nat → Int32)} {R : zRt} : ∀ ls st h, B_X9_readWord_13 X (zV X M_X9_readWord (zQm M_X9_readWord R) 0 0) R ls st h → zV X M_X9_readWord (zQm M_X9_readWord R) 0 0 13 ls st h := sd_aload_n dX9_readWord_13 rfl (sd_getl dX9_readWord_14 zCl9 (Nat.le_of_ble_eq_true rfl) lk_RX9_84 rfl (sd_lstore_n dX9_readWord_17 rfl (Nat.le_of_ble_eq_true rfl) (Or.inl rfl) (sd_aload_n dX9_readWord_18 rfl (sd_inv0 dX9_readWord_19 rfl mv_X9_goesOn na_X9_goesOn ml_RX9_104 ⟨⟨Nat.le_of_ble_eq_true rfl, Nat.le_of_ble_eq_true rfl⟩, ⟨Nat.le_of_ble_eq_true rfl, Nat.le_of_ble_eq_true rfl⟩⟩ (sd_lload_n dX9_readWord_22 rfl (sd_lret dX9_readWord_23 rfl (Nat.le_of_ble_eq_true rfl) (Nat.le_of_ble_eq_true rfl)))))))
theorem dX9_isName_0 : decode cX9_isName 0 = .ok (.aload_n 0, 1) := by decide +kernel
theorem dX9_isName_1 : decode cX9_isName 1 = .ok (.getfield 68, 3) := by decide +kernel
theorem dX9_isName_4 : decode cX9_isName 4 = .ok (.iconst 2, 1) := by decide +kernel
theorem dX9_isName_5 : decode cX9_isName 5 = .ok (.if_icmp .ne 39, 3) := by decide +kernel
theorem dX9_isName_8 : decode cX9_isName 8 = .ok (.aload_n 0, 1) := by decide +kernel
theorem dX9_isName_9 : decode cX9_isName 9 = .ok (.ldc 130, 2) := by decide +kernel
theorem dX9_isName_11 : decode cX9_isName 11 = .ok (.invokevirtual 107, 3) := by decide +kernel
theorem dX9_isName_14 : decode cX9_isName 14 = .ok (.ifCond .ne 30, 3) := by decide +kernel
theorem dX9_isName_17 : decode cX9_isName 17 = .ok (.aload_n 0, 1) := by decide +kernel
theorem dX9_isName_18 : decode cX9_isName 18 = .ok (.ldc 132, 2) := by decide +kernel
theorem dX9_isName_20 : decode cX9_isName 20 = .ok (.invokevirtual 107, 3) := by decide +kernel
theorem dX9_isName_23 : decode cX9_isName 23 = .ok (.ifCond .ne 21, 3) := by decide +kernel
theorem dX9_isName_26 : decode cX9_isName 26 = .ok (.aload_n 0, 1) := by decide +kernel
theorem dX9_isName_27 : decode cX9_isName 27 = .ok (.ldc 134, 2) := by decide +kernel
theorem dX9_isName_29 : decode cX9_isName 29 = .ok (.invokevirtual 107, 3) := by decide +kernel
theorem dX9_isName_32 : decode cX9_isName 32 = .ok (.ifCond .ne 12, 3) := by decide +kernel
theorem dX9_isName_35 : decode cX9_isName 35 = .ok (.aload_n 0, 1) := by decide +kernel
theorem dX9_isName_36 : decode cX9_isName 36 = .ok (.ldc 136, 2) := by decide +kernel
theorem dX9_isName_38 : decode cX9_isName 38 = .ok (.invokevirtual 107, 3) := by decide +kernel
theorem dX9_isName_41 : decode cX9_isName 41 = .ok (.ifCond .eq 5, 3) := by decide +kernel
theorem dX9_isName_44 : decode cX9_isName 44 = .ok (.iconst 0, 1) := by decide +kernel
theorem dX9_isName_45 : decode cX9_isName 45 = .ok (.ireturn, 1) := by decide +kernel
theorem dX9_isName_46 : decode cX9_isName 46 = .ok (.aload_n 0, 1) := by decide +kernel
theorem dX9_isName_47 : decode cX9_isName 47 = .ok (.ldc 138, 2) := by decide +kernel
theorem dX9_isName_49 : decode cX9_isName 49 = .ok (.invokevirtual 107, 3) := by decide +kernel
theorem dX9_isName_52 : decode cX9_isName 52 = .ok (.ifCond .ne 25, 3) := by decide +kernel
theorem dX9_isName_55 : decode cX9_isName 55 = .ok (.aload_n 0, 1) := by decide +kernel
theorem dX9_isName_56 : decode cX9_isName 56 = .ok (.ldc 140, 2) := by decide +kernel
theorem dX9_isName_58 : decode cX9_isName 58 = .ok (.invokevirtual 107, 3) := by decide +kernel
theorem dX9_isName_61 : decode cX9_isName 61 = .ok (.ifCond .ne 16, 3) := by decide +kernel
theorem dX9_isName_64 : decode cX9_isName 64 = .ok (.aload_n 0, 1) := by decide +kernel
theorem dX9_isName_65 : decode cX9_isName 65 = .ok (.ldc 142, 2) := by decide +kernel
theorem dX9_isName_67 : decode cX9_isName 67 = .ok (.invokevirtual 107, 3) := by decide +kernel
theorem dX9_isName_70 : decode cX9_isName 70 = .ok (.ifCond .ne 7, 3) := by decide +kernel
theorem dX9_isName_73 : decode cX9_isName 73 = .ok (.iconst 1, 1) := by decide +kernel
theorem dX9_isName_74 : decode cX9_isName 74 = .ok (.goto 4, 3) := by decide +kernel
theorem dX9_isName_77 : decode cX9_isName 77 = .ok (.iconst 0, 1) := by decide +kernel
theorem dX9_isName_78 : decode cX9_isName 78 = .ok (.ireturn, 1) := by decide +kernel
def B_X9_isName_0 (X : Nat × (Nat → Int32)) (J : Nat → zCf) (R : zRt) : zCf := oALOAD 0 (oGETI 9 9 (oPI (zj (2)) (oICNE (J 44) (oALOAD 0 (oPS 0 (oINV1 X M_X9_isWord 9 (oIFNE (J 44) (oALOAD 0 (oPS 2 (oINV1 X M_X9_isWord 9 (oIFNE (J 44) (oALOAD 0 (oPS 3 (oINV1 X M_X9_isWord 9 (oIFNE (J 44) (oALOAD 0 (oPS 4 (oINV1 X M_X9_isWord 9 (oIFEQ (J 46) (J 44))))))))))))))))))))
set_option maxRecDepth 100000 in
theorem vb_X9_isName_0 {X : Nat × (Nat → Int32)} {R : zRt} : ∀ ls st h, B_X9_isName_0 X (zV X M_X9_isName (zQm M_X9_isName R) 0 0) R ls st h → zV X M_X9_isName (zQm M_X9_isName R) 0 0 0 ls st h := sd_aload_n dX9_isName_0 rfl (sd_geti dX9_isName_1 zCl9 (Nat.le_of_ble_eq_true rfl) lk_RX9_68 (Or.inl rfl) (sd_iconst dX9_isName_4 rfl (sd_icne dX9_isName_5 rfl (fun _ _ _ h => h) (sd_aload_n dX9_isName_8 rfl (sd_ldcs dX9_isName_9 rfl rfl (sd_inv1 dX9_isName_11 rfl mv_X9_isWord na_X9_isWord ml_RX9_107 ⟨⟨Nat.le_of_ble_eq_true rfl, Nat.le_of_ble_eq_true rfl⟩, ⟨Nat.le_of_ble_eq_true rfl, Nat.le_of_ble_eq_true rfl⟩⟩ (sd_ifne dX9_isName_14 rfl (fun _ _ _ h => h) (sd_aload_n dX9_isName_17 rfl (sd_ldcs dX9_isName_18 rfl rfl (sd_inv1 dX9_isName_20 rfl mv_X9_isWord na_X9_isWord ml_RX9_107 ⟨⟨Nat.le_of_ble_eq_true rfl, Nat.le_of_ble_eq_true rfl⟩, ⟨Nat.le_of_ble_eq_true rfl, Nat.le_of_ble_eq_true rfl⟩⟩ (sd_ifne dX9_isName_23 rfl (fun _ _ _ h => h) (sd_aload_n dX9_isName_26 rfl (sd_ldcs dX9_isName_27 rfl rfl (sd_inv1 dX9_isName_29 rfl mv_X9_isWord na_X9_isWord ml_RX9_107 ⟨⟨Nat.le_of_ble_eq_true rfl, Nat.le_of_ble_eq_true rfl⟩, ⟨Nat.le_of_ble_eq_true rfl, Nat.le_of_ble_eq_true rfl⟩⟩ (sd_ifne dX9_isName_32 rfl (fun _ _ _ h => h) (sd_aload_n dX9_isName_35 rfl (sd_ldcs dX9_isName_36 rfl rfl (sd_inv1 dX9_isName_38 rfl mv_X9_isWord na_X9_isWord ml_RX9_107 ⟨⟨Nat.le_of_ble_eq_true rfl, Nat.le_of_ble_eq_true rfl⟩, ⟨Nat.le_of_ble_eq_true rfl, Nat.le_of_ble_eq_true rfl⟩⟩ (sd_ifeq dX9_isName_41 rfl (fun _ _ _ h => h) (fun _ _ _ h => h))))))))))))))))))))
def B_X9_isName_44 (X : Nat × (Nat → Int32)) (J : Nat → zCf) (R : zRt) : zCf := oPI (zj (0)) (oZRET R)
set_option maxRecDepth 100000 in
theorem vb_X9_isName_44 {X : Nat × (Nat → Int32)} {R : zRt} : ∀ ls st h, B_X9_isName_44 X (zV X M_X9_isName (zQm M_X9_isName R) 0 0) R ls st h → zV X M_X9_isName (zQm M_X9_isName R) 0 0 44 ls st h := sd_iconst dX9_isName_44 rfl (sd_zret dX9_isName_45 rfl (Nat.le_of_ble_eq_true rfl) (Nat.le_of_ble_eq_true rfl))
def B_X9_isName_46 (X : Nat × (Nat → Int32)) (J : Nat → zCf) (R : zRt) : zCf := oALOAD 0 (oPS 5 (oINV1 X M_X9_isWord 9 (oIFNE (J 77) (oALOAD 0 (oPS 6 (oINV1 X M_X9_isWord 9 (oIFNE (J 77) (oALOAD 0 (oPS 7 (oINV1 X M_X9_isWord 9 (oIFNE (J 77) (oPI (zj (1)) (J 78)))))))))))))
set_option maxRecDepth 100000 in
theorem vb_X9_isName_46 {X : Nat × (Nat → Int32)} {R : zRt} : ∀ ls st h, B_X9_isName_46 X (zV X M_X9_isName (zQm M_X9_isName R) 0 0) R ls st h → zV X M_X9_isName (zQm M_X9_isName R) 0 0 46 ls st h := sd_aload_n dX9_isName_46 rfl (sd_ldcs dX9_isName_47 rfl rfl (sd_inv1 dX9_isName_49 rfl mv_X9_isWord na_X9_isWord ml_RX9_107 ⟨⟨Nat.le_of_ble_eq_true rfl, Nat.le_of_ble_eq_true rfl⟩, ⟨Nat.le_of_ble_eq_true rfl, Nat.le_of_ble_eq_true rfl⟩⟩ (sd_ifne dX9_isName_52 rfl (fun _ _ _ h => h) (sd_aload_n dX9_isName_55 rfl (sd_ldcs dX9_isName_56 rfl rfl (sd_inv1 dX9_isName_58 rfl mv_X9_isWord na_X9_isWord ml_RX9_107 ⟨⟨Nat.le_of_ble_eq_true rfl, Nat.le_of_ble_eq_true rfl⟩, ⟨Nat.le_of_ble_eq_true rfl, Nat.le_of_ble_eq_true rfl⟩⟩ (sd_ifne dX9_isName_61 rfl (fun _ _ _ h => h) (sd_aload_n dX9_isName_64 rfl (sd_ldcs dX9_isName_65 rfl rfl (sd_inv1 dX9_isName_67 rfl mv_X9_isWord na_X9_isWord ml_RX9_107 ⟨⟨Nat.le_of_ble_eq_true rfl, Nat.le_of_ble_eq_true rfl⟩, ⟨Nat.le_of_ble_eq_true rfl, Nat.le_of_ble_eq_true rfl⟩⟩ (sd_ifne dX9_isName_70 rfl (fun _ _ _ h => h) (sd_iconst dX9_isName_73 rfl (sd_goto dX9_isName_74 rfl (fun _ _ _ h => h))))))))))))))
def B_X9_isName_77 (X : Nat × (Nat → Int32)) (J : Nat → zCf) (R : zRt) : zCf := oPI (zj (0)) (J 78)
set_option maxRecDepth 100000 in
theorem vb_X9_isName_77 {X : Nat × (Nat → Int32)} {R : zRt} : ∀ ls st h, B_X9_isName_77 X (zV X M_X9_isName (zQm M_X9_isName R) 0 0) R ls st h → zV X M_X9_isName (zQm M_X9_isName R) 0 0 77 ls st h := sd_iconst dX9_isName_77 rfl (fun _ _ _ h => h)
def B_X9_isName_78 (X : Nat × (Nat → Int32)) (J : Nat → zCf) (R : zRt) : zCf := oZRET R
set_option maxRecDepth 100000 in
theorem vb_X9_isName_78 {X : Nat × (Nat → Int32)} {R : zRt} : ∀ ls st h, B_X9_isName_78 X (zV X M_X9_isName (zQm M_X9_isName R) 0 0) R ls st h → zV X M_X9_isName (zQm M_X9_isName R) 0 0 78 ls st h := sd_zret dX9_isName_78 rfl (Nat.le_of_ble_eq_true rfl) (Nat.le_of_ble_eq_true rfl)
theorem dX9_lineBegins_0 : decode cX9_lineBegins 0 = .ok (.iload_n 1, 1) := by decide +kernel
theorem dX9_lineBegins_1 : decode cX9_lineBegins 1 = .ok (.iload_n 2, 1) := by decide +kernel
theorem dX9_lineBegins_2 : decode cX9_lineBegins 2 = .ok (.if_icmp .ne 8, 3) := by decide +kernel
theorem dX9_lineBegins_5 : decode cX9_lineBegins 5 = .ok (.aload_n 0, 1) := by decide +kernel
theorem dX9_lineBegins_6 : decode cX9_lineBegins 6 = .ok (.iconst 5, 1) := by decide +kernel
theorem dX9_lineBegins_7 : decode cX9_lineBegins 7 = .ok (.invokevirtual 111, 3) := by decide +kernel
theorem dX9_lineBegins_10 : decode cX9_lineBegins 10 = .ok (.aload_n 0, 1) := by decide +kernel
theorem dX9_lineBegins_11 : decode cX9_lineBegins 11 = .ok (.getfield 144, 3) := by decide +kernel
theorem dX9_lineBegins_14 : decode cX9_lineBegins 14 = .ok (.getfield 148, 3) := by decide +kernel
theorem dX9_lineBegins_17 : decode cX9_lineBegins 17 = .ok (.iconst (-1), 1) := by decide +kernel
theorem dX9_lineBegins_18 : decode cX9_lineBegins 18 = .ok (.if_icmp .ne 9, 3) := by decide +kernel
theorem dX9_lineBegins_21 : decode cX9_lineBegins 21 = .ok (.aload_n 0, 1) := by decide +kernel
theorem dX9_lineBegins_22 : decode cX9_lineBegins 22 = .ok (.bipush 6, 2) := by decide +kernel
theorem dX9_lineBegins_24 : decode cX9_lineBegins 24 = .ok (.invokevirtual 111, 3) := by decide +kernel
theorem dX9_lineBegins_27 : decode cX9_lineBegins 27 = .ok (.aload_n 0, 1) := by decide +kernel
theorem dX9_lineBegins_28 : decode cX9_lineBegins 28 = .ok (.invokevirtual 104, 3) := by decide +kernel
theorem dX9_lineBegins_31 : decode cX9_lineBegins 31 = .ok (.return_, 1) := by decide +kernel
def B_X9_lineBegins_0 (X : Nat × (Nat → Int32)) (J : Nat → zCf) (R : zRt) : zCf := oILOAD 1 (oILOAD 2 (oICNE (J 10) (oALOAD 0 (oPI (zj (5)) (oINV1 X M_X9_flaw 9 (J 10))))))
set_option maxRecDepth 100000 in
theorem vb_X9_lineBegins_0 {X : Nat × (Nat → Int32)} {R : zRt} : ∀ ls st h, B_X9_lineBegins_0 X (zV X M_X9_lineBegins (zQm M_X9_lineBegins R) 0 0) R ls st h → zV X M_X9_lineBegins (zQm M_X9_lineBegins R) 0 0 0 ls st h := sd_iload_n dX9_lineBegins_0 rfl (sd_iload_n dX9_lineBegins_1 rfl (sd_icne dX9_lineBegins_2 rfl (fun _ _ _ h => h) (sd_aload_n dX9_lineBegins_5 rfl (sd_iconst dX9_lineBegins_6 rfl (sd_inv1 dX9_lineBegins_7 rfl mv_X9_flaw na_X9_flaw ml_RX9_111 ⟨⟨Nat.le_of_ble_eq_true rfl, Nat.le_of_ble_eq_true rfl⟩, ⟨Nat.le_of_ble_eq_true rfl, Nat.le_of_ble_eq_true rfl⟩⟩ (fun _ _ _ h => h))))))
def B_X9_lineBegins_10 (X : Nat × (Nat → Int32)) (J : Nat → zCf) (R : zRt) : zCf := oALOAD 0 (oGETR 9 4 (oGETI 8 0 (oPI (zj (-1)) (oICNE (J 27) (oALOAD 0 (oPI (zj (6)) (oINV1 X M_X9_flaw 9 (J 27))))))))
set_option maxRecDepth 100000 in
theorem vb_X9_lineBegins_10 {X : Nat × (Nat → Int32)} {R : zRt} : ∀ ls st h, B_X9_lineBegins_10 X (zV X M_X9_lineBegins (zQm M_X9_lineBegins R) 0 0) R ls st h → zV X M_X9_lineBegins (zQm M_X9_lineBegins R) 0 0 10 ls st h := sd_aload_n dX9_lineBegins_10 rfl (sd_getr dX9_lineBegins_11 zCl9 (Nat.le_of_ble_eq_true rfl) lk_RX9_144 (Or.inl ⟨_, rfl⟩) (sd_geti dX9_lineBegins_14 zCl8 (Nat.le_of_ble_eq_true rfl) lk_RX9_148 (Or.inl rfl) (sd_iconst dX9_lineBegins_17 rfl (sd_icne dX9_lineBegins_18 rfl (fun _ _ _ h => h) (sd_aload_n dX9_lineBegins_21 rfl (sd_bipush dX9_lineBegins_22 rfl (sd_inv1 dX9_lineBegins_24 rfl mv_X9_flaw na_X9_flaw ml_RX9_111 ⟨⟨Nat.le_of_ble_eq_true rfl, Nat.le_of_ble_eq_true rfl⟩, ⟨Nat.le_of_ble_eq_true rfl, Nat.le_of_ble_eq_true rfl⟩⟩ (fun _ _ _ h => h))))))))
def B_X9_lineBegins_27 (X : Nat × (Nat → Int32)) (J : Nat → zCf) (R : zRt) : zCf := oALOAD 0 (oINV0 X M_X9_goesOn 9 (oVRET R))
set_option maxRecDepth 100000 in
theorem vb_X9_lineBegins_27 {X : Nat × (Nat → Int32)} {R : zRt} : ∀ ls st h, B_X9_lineBegins_27 X (zV X M_X9_lineBegins (zQm M_X9_lineBegins R) 0 0) R ls st h → zV X M_X9_lineBegins (zQm M_X9_lineBegins R) 0 0 27 ls st h := sd_aload_n dX9_lineBegins_27 rfl (sd_inv0 dX9_lineBegins_28 rfl mv_X9_goesOn na_X9_goesOn ml_RX9_104 ⟨⟨Nat.le_of_ble_eq_true rfl, Nat.le_of_ble_eq_true rfl⟩, ⟨Nat.le_of_ble_eq_true rfl, Nat.le_of_ble_eq_true rfl⟩⟩ (sd_vret dX9_lineBegins_31 rfl (Nat.le_of_ble_eq_true rfl) (Nat.le_of_ble_eq_true rfl)))
theorem dX9_readFresh_0 : decode cX9_readFresh 0 = .ok (.aload_n 0, 1) := by decide +kernel
theorem dX9_readFresh_1 : decode cX9_readFresh 1 = .ok (.invokevirtual 153, 3) := by decide +kernel
theorem dX9_readFresh_4 : decode cX9_readFresh 4 = .ok (.ifCond .ne 8, 3) := by decide +kernel
theorem dX9_readFresh_7 : decode cX9_readFresh 7 = .ok (.aload_n 0, 1) := by decide +kernel
theorem dX9_readFresh_8 : decode cX9_readFresh 8 = .ok (.iconst 1, 1) := by decide +kernel
theorem dX9_readFresh_9 : decode cX9_readFresh 9 = .ok (.invokevirtual 111, 3) := by decide +kernel
theorem dX9_readFresh_12 : decode cX9_readFresh 12 = .ok (.aload_n 0, 1) := by decide +kernel
theorem dX9_readFresh_13 : decode cX9_readFresh 13 = .ok (.getfield 144, 3) := by decide +kernel
theorem dX9_readFresh_16 : decode cX9_readFresh 16 = .ok (.aload_n 0, 1) := by decide +kernel
theorem dX9_readFresh_17 : decode cX9_readFresh 17 = .ok (.getfield 84, 3) := by decide +kernel
theorem dX9_readFresh_20 : decode cX9_readFresh 20 = .ok (.invokevirtual 157, 3) := by decide +kernel
theorem dX9_readFresh_23 : decode cX9_readFresh 23 = .ok (.iconst (-1), 1) := by decide +kernel
theorem dX9_readFresh_24 : decode cX9_readFresh 24 = .ok (.if_icmp .eq 8, 3) := by decide +kernel
theorem dX9_readFresh_27 : decode cX9_readFresh 27 = .ok (.aload_n 0, 1) := by decide +kernel
theorem dX9_readFresh_28 : decode cX9_readFresh 28 = .ok (.iconst 3, 1) := by decide +kernel
theorem dX9_readFresh_29 : decode cX9_readFresh 29 = .ok (.invokevirtual 111, 3) := by decide +kernel
theorem dX9_readFresh_32 : decode cX9_readFresh 32 = .ok (.aload_n 0, 1) := by decide +kernel
theorem dX9_readFresh_33 : decode cX9_readFresh 33 = .ok (.getfield 84, 3) := by decide +kernel
theorem dX9_readFresh_36 : decode cX9_readFresh 36 = .ok (.lstore_n 1, 1) := by decide +kernel
theorem dX9_readFresh_37 : decode cX9_readFresh 37 = .ok (.aload_n 0, 1) := by decide +kernel
theorem dX9_readFresh_38 : decode cX9_readFresh 38 = .ok (.invokevirtual 104, 3) := by decide +kernel
theorem dX9_readFresh_41 : decode cX9_readFresh 41 = .ok (.lload_n 1, 1) := by decide +kernel
theorem dX9_readFresh_42 : decode cX9_readFresh 42 = .ok (.lreturn, 1) := by decide +kernel
def B_X9_readFresh_0 (X : Nat × (Nat → Int32)) (J : Nat → zCf) (R : zRt) : zCf := oALOAD 0 (oINV0 X M_X9_isName 9 (oIFNE (J 12) (oALOAD 0 (oPI (zj (1)) (oINV1 X M_X9_flaw 9 (J 12))))))
set_option maxRecDepth 100000 in
theorem vb_X9_readFresh_0 {X : Nat × (Nat → Int32)} {R : zRt} : ∀ ls st h, B_X9_readFresh_0 X (zV X M_X9_readFresh (zQm M_X9_readFresh R) 0 0) R ls st h → zV X M_X9_readFresh (zQm M_X9_readFresh R) 0 0 0 ls st h := sd_aload_n dX9_readFresh_0 rfl (sd_inv0 dX9_readFresh_1 rfl mv_X9_isName na_X9_isName ml_RX9_153 ⟨⟨Nat.le_of_ble_eq_true rfl, Nat.le_of_ble_eq_true rfl⟩, ⟨Nat.le_of_ble_eq_true rfl, Nat.le_of_ble_eq_true rfl⟩⟩ (sd_ifne dX9_readFresh_4 rfl (fun _ _ _ h => h) (sd_aload_n dX9_readFresh_7 rfl (sd_iconst dX9_readFresh_8 rfl (sd_inv1 dX9_readFresh_9 rfl mv_X9_flaw na_X9_flaw ml_RX9_111 ⟨⟨Nat.le_of_ble_eq_true rfl, Nat.le_of_ble_eq_true rfl⟩, ⟨Nat.le_of_ble_eq_true rfl, Nat.le_of_ble_eq_true rfl⟩⟩ (fun _ _ _ h => h))))))
def B_X9_readFresh_12 (X : Nat × (Nat → Int32)) (J : Nat → zCf) (R : zRt) : zCf := oALOAD 0 (oGETR 9 4 (oALOAD 0 (oGETL 9 14 (oINV1 X M_X8_find 8 (oPI (zj (-1)) (oICEQ (J 32) (oALOAD 0 (oPI (zj (3)) (oINV1 X M_X9_flaw 9 (J 32))))))))))
set_option maxRecDepth 100000 in
theorem vb_X9_readFresh_12 {X : Nat × (Nat → Int32)} {R : zRt} : ∀ ls st h, B_X9_readFresh_12 X (zV X M_X9_readFresh (zQm M_X9_readFresh R) 0 0) R ls st h → zV X M_X9_readFresh (zQm M_X9_readFresh R) 0 0 12 ls st h := sd_aload_n dX9_readFresh_12 rfl (sd_getr dX9_readFresh_13 zCl9 (Nat.le_of_ble_eq_true rfl) lk_RX9_144 (Or.inl ⟨_, rfl⟩) (sd_aload_n dX9_readFresh_16 rfl (sd_getl dX9_readFresh_17 zCl9 (Nat.le_of_ble_eq_true rfl) lk_RX9_84 rfl (sd_inv1 dX9_readFresh_20 rfl mv_X8_find na_X8_find ml_RX9_157 ⟨⟨Nat.le_of_ble_eq_true rfl, Nat.le_of_ble_eq_true rfl⟩, ⟨Nat.le_of_ble_eq_true rfl, Nat.le_of_ble_eq_true rfl⟩⟩ (sd_iconst dX9_readFresh_23 rfl (sd_iceq dX9_readFresh_24 rfl (fun _ _ _ h => h) (sd_aload_n dX9_readFresh_27 rfl (sd_iconst dX9_readFresh_28 rfl (sd_inv1 dX9_readFresh_29 rfl mv_X9_flaw na_X9_flaw ml_RX9_111 ⟨⟨Nat.le_of_ble_eq_true rfl, Nat.le_of_ble_eq_true rfl⟩, ⟨Nat.le_of_ble_eq_true rfl, Nat.le_of_ble_eq_true rfl⟩⟩ (fun _ _ _ h => h))))))))))
def B_X9_readFresh_32 (X : Nat × (Nat → Int32)) (J : Nat → zCf) (R : zRt) : zCf := oALOAD 0 (oGETL 9 14 (oLSTORE 0 1 (oALOAD 0 (oINV0 X M_X9_goesOn 9 (oLLOAD 1 (oLRET R))))))
set_option maxRecDepth 100000 in
theorem vb_X9_readFresh_32 {X : Nat × (Nat → Int32)} {R : zRt} : ∀ ls st h, B_X9_readFresh_32 X (zV X M_X9_readFresh (zQm M_X9_readFresh R) 0 0) R ls st h → zV X M_X9_readFresh (zQm M_X9_readFresh R) 0 0 32 ls st h := sd_aload_n dX9_readFresh_32 rfl (sd_getl dX9_readFresh_33 zCl9 (Nat.le_of_ble_eq_true rfl) lk_RX9_84 rfl (sd_lstore_n dX9_readFresh_36 rfl (Nat.le_of_ble_eq_true rfl) (Or.inl rfl) (sd_aload_n dX9_readFresh_37 rfl (sd_inv0 dX9_readFresh_38 rfl mv_X9_goesOn na_X9_goesOn ml_RX9_104 ⟨⟨Nat.le_of_ble_eq_true rfl, Nat.le_of_ble_eq_true rfl⟩, ⟨Nat.le_of_ble_eq_true rfl, Nat.le_of_ble_eq_true rfl⟩⟩ (sd_lload_n dX9_readFresh_41 rfl (sd_lret dX9_readFresh_42 rfl (Nat.le_of_ble_eq_true rfl) (Nat.le_of_ble_eq_true rfl)))))))
theorem dX9_names_0 : decode cX9_names 0 = .ok (.aload_n 0, 1) := by decide +kernel
theorem dX9_names_1 : decode cX9_names 1 = .ok (.getfield 144, 3) := by decide +kernel
theorem dX9_names_4 : decode cX9_names 4 = .ok (.getfield 161, 3) := by decide +kernel
theorem dX9_names_7 : decode cX9_names 7 = .ok (.aload_n 0, 1) := by decide +kernel
theorem dX9_names_8 : decode cX9_names 8 = .ok (.getfield 144, 3) := by decide +kernel
theorem dX9_names_11 : decode cX9_names 11 = .ok (.getfield 165, 3) := by decide +kernel
theorem dX9_names_14 : decode cX9_names 14 = .ok (.lload_n 1, 1) := by decide +kernel
theorem dX9_names_15 : decode cX9_names 15 = .ok (.lastore, 1) := by decide +kernel
theorem dX9_names_16 : decode cX9_names 16 = .ok (.aload_n 0, 1) := by decide +kernel
theorem dX9_names_17 : decode cX9_names 17 = .ok (.getfield 144, 3) := by decide +kernel
theorem dX9_names_20 : decode cX9_names 20 = .ok (.getfield 168, 3) := by decide +kernel
theorem dX9_names_23 : decode cX9_names 23 = .ok (.aload_n 0, 1) := by decide +kernel
theorem dX9_names_24 : decode cX9_names 24 = .ok (.getfield 144, 3) := by decide +kernel
theorem dX9_names_27 : decode cX9_names 27 = .ok (.getfield 165, 3) := by decide +kernel
theorem dX9_names_30 : decode cX9_names 30 = .ok (.iload_n 3, 1) := by decide +kernel
theorem dX9_names_31 : decode cX9_names 31 = .ok (.iastore, 1) := by decide +kernel
theorem dX9_names_32 : decode cX9_names 32 = .ok (.aload_n 0, 1) := by decide +kernel
theorem dX9_names_33 : decode cX9_names 33 = .ok (.getfield 144, 3) := by decide +kernel
theorem dX9_names_36 : decode cX9_names 36 = .ok (.getfield 171, 3) := by decide +kernel
theorem dX9_names_39 : decode cX9_names 39 = .ok (.aload_n 0, 1) := by decide +kernel
theorem dX9_names_40 : decode cX9_names 40 = .ok (.getfield 144, 3) := by decide +kernel
theorem dX9_names_43 : decode cX9_names 43 = .ok (.getfield 165, 3) := by decide +kernel
theorem dX9_names_46 : decode cX9_names 46 = .ok (.iload 4, 2) := by decide +kernel
theorem dX9_names_48 : decode cX9_names 48 = .ok (.iastore, 1) := by decide +kernel
theorem dX9_names_49 : decode cX9_names 49 = .ok (.aload_n 0, 1) := by decide +kernel
theorem dX9_names_50 : decode cX9_names 50 = .ok (.getfield 144, 3) := by decide +kernel
theorem dX9_names_53 : decode cX9_names 53 = .ok (.dup, 1) := by decide +kernel
theorem dX9_names_54 : decode cX9_names 54 = .ok (.getfield 165, 3) := by decide +kernel
theorem dX9_names_57 : decode cX9_names 57 = .ok (.iconst 1, 1) := by decide +kernel
theorem dX9_names_58 : decode cX9_names 58 = .ok (.iadd, 1) := by decide +kernel
theorem dX9_names_59 : decode cX9_names 59 = .ok (.putfield 165, 3) := by decide +kernel
theorem dX9_names_62 : decode cX9_names 62 = .ok (.return_, 1) := by decide +kernel
def B_X9_names_0 (X : Nat × (Nat → Int32)) (J : Nat → zCf) (R : zRt) : zCf := oALOAD 0 (oGETR 9 4 (oGETR 8 18 (oALOAD 0 (oGETR 9 4 (oGETI 8 7 (oLLOAD 1 (oLAST (oALOAD 0 (oGETR 9 4 (oGETR 8 19 (oALOAD 0 (oGETR 9 4 (oGETI 8 7 (oILOAD 3 (oIAST (oALOAD 0 (oGETR 9 4 (oGETR 8 20 (oALOAD 0 (oGETR 9 4 (oGETI 8 7 (oILOAD 4 (oIAST (oALOAD 0 (oGETR 9 4 (oDUP (oGETI 8 7 (oPI (zj (1)) (oIADD (oPUTI 8 7 (oVRET R)))))))))))))))))))))))))))))))
set_option maxRecDepth 100000 in
theorem vb_X9_names_0 {X : Nat × (Nat → Int32)} {R : zRt} : ∀ ls st h, B_X9_names_0 X (zV X M_X9_names (zQm M_X9_names R) 0 0) R ls st h → zV X M_X9_names (zQm M_X9_names R) 0 0 0 ls st h := sd_aload_n dX9_names_0 rfl (sd_getr dX9_names_1 zCl9 (Nat.le_of_ble_eq_true rfl) lk_RX9_144 (Or.inl ⟨_, rfl⟩) (sd_getr dX9_names_4 zCl8 (Nat.le_of_ble_eq_true rfl) lk_RX9_161 (Or.inr ⟨_, rfl⟩) (sd_aload_n dX9_names_7 rfl (sd_getr dX9_names_8 zCl9 (Nat.le_of_ble_eq_true rfl) lk_RX9_144 (Or.inl ⟨_, rfl⟩) (sd_geti dX9_names_11 zCl8 (Nat.le_of_ble_eq_true rfl) lk_RX9_165 (Or.inl rfl) (sd_lload_n dX9_names_14 rfl (sd_last dX9_names_15 (sd_aload_n dX9_names_16 rfl (sd_getr dX9_names_17 zCl9 (Nat.le_of_ble_eq_true rfl) lk_RX9_144 (Or.inl ⟨_, rfl⟩) (sd_getr dX9_names_20 zCl8 (Nat.le_of_ble_eq_true rfl) lk_RX9_168 (Or.inr ⟨_, rfl⟩) (sd_aload_n dX9_names_23 rfl (sd_getr dX9_names_24 zCl9 (Nat.le_of_ble_eq_true rfl) lk_RX9_144 (Or.inl ⟨_, rfl⟩) (sd_geti dX9_names_27 zCl8 (Nat.le_of_ble_eq_true rfl) lk_RX9_165 (Or.inl rfl) (sd_iload_n dX9_names_30 rfl (sd_iast dX9_names_31 (sd_aload_n dX9_names_32 rfl (sd_getr dX9_names_33 zCl9 (Nat.le_of_ble_eq_true rfl) lk_RX9_144 (Or.inl ⟨_, rfl⟩) (sd_getr dX9_names_36 zCl8 (Nat.le_of_ble_eq_true rfl) lk_RX9_171 (Or.inr ⟨_, rfl⟩) (sd_aload_n dX9_names_39 rfl (sd_getr dX9_names_40 zCl9 (Nat.le_of_ble_eq_true rfl) lk_RX9_144 (Or.inl ⟨_, rfl⟩) (sd_geti dX9_names_43 zCl8 (Nat.le_of_ble_eq_true rfl) lk_RX9_165 (Or.inl rfl) (sd_iload dX9_names_46 (sd_iast dX9_names_48 (sd_aload_n dX9_names_49 rfl (sd_getr dX9_names_50 zCl9 (Nat.le_of_ble_eq_true rfl) lk_RX9_144 (Or.inl ⟨_, rfl⟩) (sd_dup dX9_names_53 (sd_geti dX9_names_54 zCl8 (Nat.le_of_ble_eq_true rfl) lk_RX9_165 (Or.inl rfl) (sd_iconst dX9_names_57 rfl (sd_iadd dX9_names_58 (sd_puti dX9_names_59 zCl8 (Nat.le_of_ble_eq_true rfl) lk_RX9_165 rfl (Or.inl rfl) (sd_vret dX9_names_62 rfl (Nat.le_of_ble_eq_true rfl) (Nat.le_of_ble_eq_true rfl))))))))))))))))))))))))))))))))
theorem dX9_knownBit_0 : decode cX9_knownBit 0 = .ok (.aload_n 0, 1) := by decide +kernel
theorem dX9_knownBit_1 : decode cX9_knownBit 1 = .ok (.invokevirtual 153, 3) := by decide +kernel
theorem dX9_knownBit_4 : decode cX9_knownBit 4 = .ok (.ifCond .ne 8, 3) := by decide +kernel
theorem dX9_knownBit_7 : decode cX9_knownBit 7 = .ok (.aload_n 0, 1) := by decide +kernel
theorem dX9_knownBit_8 : decode cX9_knownBit 8 = .ok (.iconst 1, 1) := by decide +kernel
theorem dX9_knownBit_9 : decode cX9_knownBit 9 = .ok (.invokevirtual 111, 3) := by decide +kernel
theorem dX9_knownBit_12 : decode cX9_knownBit 12 = .ok (.aload_n 0, 1) := by decide +kernel
theorem dX9_knownBit_13 : decode cX9_knownBit 13 = .ok (.getfield 144, 3) := by decide +kernel
theorem dX9_knownBit_16 : decode cX9_knownBit 16 = .ok (.aload_n 0, 1) := by decide +kernel
theorem dX9_knownBit_17 : decode cX9_knownBit 17 = .ok (.getfield 84, 3) := by decide +kernel
theorem dX9_knownBit_20 : decode cX9_knownBit 20 = .ok (.invokevirtual 157, 3) := by decide +kernel
theorem dX9_knownBit_23 : decode cX9_knownBit 23 = .ok (.istore_n 1, 1) := by decide +kernel
theorem dX9_knownBit_24 : decode cX9_knownBit 24 = .ok (.iload_n 1, 1) := by decide +kernel
theorem dX9_knownBit_25 : decode cX9_knownBit 25 = .ok (.iconst (-1), 1) := by decide +kernel
theorem dX9_knownBit_26 : decode cX9_knownBit 26 = .ok (.if_icmp .eq 15, 3) := by decide +kernel
theorem dX9_knownBit_29 : decode cX9_knownBit 29 = .ok (.aload_n 0, 1) := by decide +kernel
theorem dX9_knownBit_30 : decode cX9_knownBit 30 = .ok (.getfield 144, 3) := by decide +kernel
theorem dX9_knownBit_33 : decode cX9_knownBit 33 = .ok (.getfield 168, 3) := by decide +kernel
theorem dX9_knownBit_36 : decode cX9_knownBit 36 = .ok (.iload_n 1, 1) := by decide +kernel
theorem dX9_knownBit_37 : decode cX9_knownBit 37 = .ok (.iaload, 1) := by decide +kernel
theorem dX9_knownBit_38 : decode cX9_knownBit 38 = .ok (.ifCond .eq 8, 3) := by decide +kernel
theorem dX9_knownBit_41 : decode cX9_knownBit 41 = .ok (.aload_n 0, 1) := by decide +kernel
theorem dX9_knownBit_42 : decode cX9_knownBit 42 = .ok (.iconst 2, 1) := by decide +kernel
theorem dX9_knownBit_43 : decode cX9_knownBit 43 = .ok (.invokevirtual 111, 3) := by decide +kernel
theorem dX9_knownBit_46 : decode cX9_knownBit 46 = .ok (.aload_n 0, 1) := by decide +kernel
theorem dX9_knownBit_47 : decode cX9_knownBit 47 = .ok (.getfield 68, 3) := by decide +kernel
theorem dX9_knownBit_50 : decode cX9_knownBit 50 = .ok (.iconst 5, 1) := by decide +kernel
theorem dX9_knownBit_51 : decode cX9_knownBit 51 = .ok (.if_icmp .ne 7, 3) := by decide +kernel
theorem dX9_knownBit_54 : decode cX9_knownBit 54 = .ok (.iconst 0, 1) := by decide +kernel
theorem dX9_knownBit_55 : decode cX9_knownBit 55 = .ok (.goto 12, 3) := by decide +kernel
theorem dX9_knownBit_58 : decode cX9_knownBit 58 = .ok (.aload_n 0, 1) := by decide +kernel
theorem dX9_knownBit_59 : decode cX9_knownBit 59 = .ok (.getfield 144, 3) := by decide +kernel
theorem dX9_knownBit_62 : decode cX9_knownBit 62 = .ok (.getfield 171, 3) := by decide +kernel
theorem dX9_knownBit_65 : decode cX9_knownBit 65 = .ok (.iload_n 1, 1) := by decide +kernel
theorem dX9_knownBit_66 : decode cX9_knownBit 66 = .ok (.iaload, 1) := by decide +kernel
theorem dX9_knownBit_67 : decode cX9_knownBit 67 = .ok (.ireturn, 1) := by decide +kernel
def B_X9_knownBit_0 (X : Nat × (Nat → Int32)) (J : Nat → zCf) (R : zRt) : zCf := oALOAD 0 (oINV0 X M_X9_isName 9 (oIFNE (J 12) (oALOAD 0 (oPI (zj (1)) (oINV1 X M_X9_flaw 9 (J 12))))))
set_option maxRecDepth 100000 in
theorem vb_X9_knownBit_0 {X : Nat × (Nat → Int32)} {R : zRt} : ∀ ls st h, B_X9_knownBit_0 X (zV X M_X9_knownBit (zQm M_X9_knownBit R) 0 0) R ls st h → zV X M_X9_knownBit (zQm M_X9_knownBit R) 0 0 0 ls st h := sd_aload_n dX9_knownBit_0 rfl (sd_inv0 dX9_knownBit_1 rfl mv_X9_isName na_X9_isName ml_RX9_153 ⟨⟨Nat.le_of_ble_eq_true rfl, Nat.le_of_ble_eq_true rfl⟩, ⟨Nat.le_of_ble_eq_true rfl, Nat.le_of_ble_eq_true rfl⟩⟩ (sd_ifne dX9_knownBit_4 rfl (fun _ _ _ h => h) (sd_aload_n dX9_knownBit_7 rfl (sd_iconst dX9_knownBit_8 rfl (sd_inv1 dX9_knownBit_9 rfl mv_X9_flaw na_X9_flaw ml_RX9_111 ⟨⟨Nat.le_of_ble_eq_true rfl, Nat.le_of_ble_eq_true rfl⟩, ⟨Nat.le_of_ble_eq_true rfl, Nat.le_of_ble_eq_true rfl⟩⟩ (fun _ _ _ h => h))))))
def B_X9_knownBit_12 (X : Nat × (Nat → Int32)) (J : Nat → zCf) (R : zRt) : zCf := oALOAD 0 (oGETR 9 4 (oALOAD 0 (oGETL 9 14 (oINV1 X M_X8_find 8 (oISTORE 0 1 (oILOAD 1 (oPI (zj (-1)) (oICEQ (J 41) (oALOAD 0 (oGETR 9 4 (oGETR 8 19 (oILOAD 1 (oIALD (oIFEQ (J 46) (J 41)))))))))))))))
set_option maxRecDepth 100000 in
theorem vb_X9_knownBit_12 {X : Nat × (Nat → Int32)} {R : zRt} : ∀ ls st h, B_X9_knownBit_12 X (zV X M_X9_knownBit (zQm M_X9_knownBit R) 0 0) R ls st h → zV X M_X9_knownBit (zQm M_X9_knownBit R) 0 0 12 ls st h := sd_aload_n dX9_knownBit_12 rfl (sd_getr dX9_knownBit_13 zCl9 (Nat.le_of_ble_eq_true rfl) lk_RX9_144 (Or.inl ⟨_, rfl⟩) (sd_aload_n dX9_knownBit_16 rfl (sd_getl dX9_knownBit_17 zCl9 (Nat.le_of_ble_eq_true rfl) lk_RX9_84 rfl (sd_inv1 dX9_knownBit_20 rfl mv_X8_find na_X8_find ml_RX9_157 ⟨⟨Nat.le_of_ble_eq_true rfl, Nat.le_of_ble_eq_true rfl⟩, ⟨Nat.le_of_ble_eq_true rfl, Nat.le_of_ble_eq_true rfl⟩⟩ (sd_istore_n dX9_knownBit_23 rfl (Nat.le_of_ble_eq_true rfl) (Or.inl rfl) (sd_iload_n dX9_knownBit_24 rfl (sd_iconst dX9_knownBit_25 rfl (sd_iceq dX9_knownBit_26 rfl (fun _ _ _ h => h) (sd_aload_n dX9_knownBit_29 rfl (sd_getr dX9_knownBit_30 zCl9 (Nat.le_of_ble_eq_true rfl) lk_RX9_144 (Or.inl ⟨_, rfl⟩) (sd_getr dX9_knownBit_33 zCl8 (Nat.le_of_ble_eq_true rfl) lk_RX9_168 (Or.inr ⟨_, rfl⟩) (sd_iload_n dX9_knownBit_36 rfl (sd_iald dX9_knownBit_37 (sd_ifeq dX9_knownBit_38 rfl (fun _ _ _ h => h) (fun _ _ _ h => h)))))))))))))))
def B_X9_knownBit_41 (X : Nat × (Nat → Int32)) (J : Nat → zCf) (R : zRt) : zCf := oALOAD 0 (oPI (zj (2)) (oINV1 X M_X9_flaw 9 (J 46)))
set_option maxRecDepth 100000 in
theorem vb_X9_knownBit_41 {X : Nat × (Nat → Int32)} {R : zRt} : ∀ ls st h, B_X9_knownBit_41 X (zV X M_X9_knownBit (zQm M_X9_knownBit R) 0 0) R ls st h → zV X M_X9_knownBit (zQm M_X9_knownBit R) 0 0 41 ls st h := sd_aload_n dX9_knownBit_41 rfl (sd_iconst dX9_knownBit_42 rfl (sd_inv1 dX9_knownBit_43 rfl mv_X9_flaw na_X9_flaw ml_RX9_111 ⟨⟨Nat.le_of_ble_eq_true rfl, Nat.le_of_ble_eq_true rfl⟩, ⟨Nat.le_of_ble_eq_true rfl, Nat.le_of_ble_eq_true rfl⟩⟩ (fun _ _ _ h => h)))
def B_X9_knownBit_46 (X : Nat × (Nat → Int32)) (J : Nat → zCf) (R : zRt) : zCf := oALOAD 0 (oGETI 9 9 (oPI (zj (5)) (oICNE (J 58) (oPI (zj (0)) (J 67)))))
set_option maxRecDepth 100000 in
theorem vb_X9_knownBit_46 {X : Nat × (Nat → Int32)} {R : zRt} : ∀ ls st h, B_X9_knownBit_46 X (zV X M_X9_knownBit (zQm M_X9_knownBit R) 0 0) R ls st h → zV X M_X9_knownBit (zQm M_X9_knownBit R) 0 0 46 ls st h := sd_aload_n dX9_knownBit_46 rfl (sd_geti dX9_knownBit_47 zCl9 (Nat.le_of_ble_eq_true rfl) lk_RX9_68 (Or.inl rfl) (sd_iconst dX9_knownBit_50 rfl (sd_icne dX9_knownBit_51 rfl (fun _ _ _ h => h) (sd_iconst dX9_knownBit_54 rfl (sd_goto dX9_knownBit_55 rfl (fun _ _ _ h => h))))))
def B_X9_knownBit_58 (X : Nat × (Nat → Int32)) (J : Nat → zCf) (R : zRt) : zCf := oALOAD 0 (oGETR 9 4 (oGETR 8 20 (oILOAD 1 (oIALD (J 67)))))
set_option maxRecDepth 100000 in
theorem vb_X9_knownBit_58 {X : Nat × (Nat → Int32)} {R : zRt} : ∀ ls st h, B_X9_knownBit_58 X (zV X M_X9_knownBit (zQm M_X9_knownBit R) 0 0) R ls st h → zV X M_X9_knownBit (zQm M_X9_knownBit R) 0 0 58 ls st h := sd_aload_n dX9_knownBit_58 rfl (sd_getr dX9_knownBit_59 zCl9 (Nat.le_of_ble_eq_true rfl) lk_RX9_144 (Or.inl ⟨_, rfl⟩) (sd_getr dX9_knownBit_62 zCl8 (Nat.le_of_ble_eq_true rfl) lk_RX9_171 (Or.inr ⟨_, rfl⟩) (sd_iload_n dX9_knownBit_65 rfl (sd_iald dX9_knownBit_66 (fun _ _ _ h => h)))))
def B_X9_knownBit_67 (X : Nat × (Nat → Int32)) (J : Nat → zCf) (R : zRt) : zCf := oIRET R
set_option maxRecDepth 100000 in
theorem vb_X9_knownBit_67 {X : Nat × (Nat → Int32)} {R : zRt} : ∀ ls st h, B_X9_knownBit_67 X (zV X M_X9_knownBit (zQm M_X9_knownBit R) 0 0) R ls st h → zV X M_X9_knownBit (zQm M_X9_knownBit R) 0 0 67 ls st h := sd_iret dX9_knownBit_67 rfl (Nat.le_of_ble_eq_true rfl) (Nat.le_of_ble_eq_true rfl)
theorem dX9_readAll_0 : decode cX9_readAll 0 = .ok (.iconst 1, 1) := by decide +kernel
theorem dX9_readAll_1 : decode cX9_readAll 1 = .ok (.istore_n 1, 1) := by decide +kernel
theorem dX9_readAll_2 : decode cX9_readAll 2 = .ok (.iload_n 1, 1) := by decide +kernel
theorem dX9_readAll_3 : decode cX9_readAll 3 = .ok (.ifCond .eq 15, 3) := by decide +kernel
theorem dX9_readAll_6 : decode cX9_readAll 6 = .ok (.aload_n 0, 1) := by decide +kernel
theorem dX9_readAll_7 : decode cX9_readAll 7 = .ok (.invokevirtual 174, 3) := by decide +kernel
theorem dX9_readAll_10 : decode cX9_readAll 10 = .ok (.aload_n 0, 1) := by decide +kernel
theorem dX9_readAll_11 : decode cX9_readAll 11 = .ok (.invokevirtual 177, 3) := by decide +kernel
theorem dX9_readAll_14 : decode cX9_readAll 14 = .ok (.istore_n 1, 1) := by decide +kernel
theorem dX9_readAll_15 : decode cX9_readAll 15 = .ok (.goto (-13), 3) := by decide +kernel
theorem dX9_readAll_18 : decode cX9_readAll 18 = .ok (.aload_n 0, 1) := by decide +kernel
theorem dX9_readAll_19 : decode cX9_readAll 19 = .ok (.getfield 68, 3) := by decide +kernel
theorem dX9_readAll_22 : decode cX9_readAll 22 = .ok (.iconst 1, 1) := by decide +kernel
theorem dX9_readAll_23 : decode cX9_readAll 23 = .ok (.if_icmp .eq 8, 3) := by decide +kernel
theorem dX9_readAll_26 : decode cX9_readAll 26 = .ok (.aload_n 0, 1) := by decide +kernel
theorem dX9_readAll_27 : decode cX9_readAll 27 = .ok (.iconst 1, 1) := by decide +kernel
theorem dX9_readAll_28 : decode cX9_readAll 28 = .ok (.invokevirtual 111, 3) := by decide +kernel
theorem dX9_readAll_31 : decode cX9_readAll 31 = .ok (.aload_n 0, 1) := by decide +kernel
theorem dX9_readAll_32 : decode cX9_readAll 32 = .ok (.getfield 144, 3) := by decide +kernel
theorem dX9_readAll_35 : decode cX9_readAll 35 = .ok (.getfield 180, 3) := by decide +kernel
theorem dX9_readAll_38 : decode cX9_readAll 38 = .ok (.ifCond .ne 9, 3) := by decide +kernel
theorem dX9_readAll_41 : decode cX9_readAll 41 = .ok (.aload_n 0, 1) := by decide +kernel
theorem dX9_readAll_42 : decode cX9_readAll 42 = .ok (.bipush 6, 2) := by decide +kernel
theorem dX9_readAll_44 : decode cX9_readAll 44 = .ok (.invokevirtual 111, 3) := by decide +kernel
theorem dX9_readAll_47 : decode cX9_readAll 47 = .ok (.return_, 1) := by decide +kernel
def B_X9_readAll_0 (X : Nat × (Nat → Int32)) (J : Nat → zCf) (R : zRt) : zCf := oPI (zj (1)) (oISTORE 0 1 (J 2))
set_option maxRecDepth 100000 in
theorem vb_X9_readAll_0 {X : Nat × (Nat → Int32)} {R : zRt} : ∀ ls st h, B_X9_readAll_0 X (zV X M_X9_readAll (zQm M_X9_readAll R) 0 0) R ls st h → zV X M_X9_readAll (zQm M_X9_readAll R) 0 0 0 ls st h := sd_iconst dX9_readAll_0 rfl (sd_istore_n dX9_readAll_1 rfl (Nat.le_of_ble_eq_true rfl) (Or.inl rfl) (fun _ _ _ h => h))
def B_X9_readAll_2 (X : Nat × (Nat → Int32)) (J : Nat → zCf) (R : zRt) : zCf := oILOAD 1 (oIFEQ (J 18) (oALOAD 0 (oINV0 X M_X9_readLine 9 (oALOAD 0 (oINV0 X M_X9_eatsSemicolon 9 (oISTORE 0 1 (J 2)))))))
set_option maxRecDepth 100000 in
theorem vb_X9_readAll_2 {X : Nat × (Nat → Int32)} {R : zRt} : ∀ ls st h, B_X9_readAll_2 X (zV X M_X9_readAll (zQm M_X9_readAll R) 0 0) R ls st h → zV X M_X9_readAll (zQm M_X9_readAll R) 0 0 2 ls st h := sd_iload_n dX9_readAll_2 rfl (sd_ifeq dX9_readAll_3 rfl (fun _ _ _ h => h) (sd_aload_n dX9_readAll_6 rfl (sd_inv0 dX9_readAll_7 rfl mv_X9_readLine na_X9_readLine ml_RX9_174 ⟨⟨Nat.le_of_ble_eq_true rfl, Nat.le_of_ble_eq_true rfl⟩, ⟨Nat.le_of_ble_eq_true rfl, Nat.le_of_ble_eq_true rfl⟩⟩ (sd_aload_n dX9_readAll_10 rfl (sd_inv0 dX9_readAll_11 rfl mv_X9_eatsSemicolon na_X9_eatsSemicolon ml_RX9_177 ⟨⟨Nat.le_of_ble_eq_true rfl, Nat.le_of_ble_eq_true rfl⟩, ⟨Nat.le_of_ble_eq_true rfl, Nat.le_of_ble_eq_true rfl⟩⟩ (sd_istore_n dX9_readAll_14 rfl (Nat.le_of_ble_eq_true rfl) (Or.inl rfl) (sd_goto dX9_readAll_15 rfl (fun _ _ _ h => h))))))))
def B_X9_readAll_18 (X : Nat × (Nat → Int32)) (J : Nat → zCf) (R : zRt) : zCf := oALOAD 0 (oGETI 9 9 (oPI (zj (1)) (oICEQ (J 31) (oALOAD 0 (oPI (zj (1)) (oINV1 X M_X9_flaw 9 (J 31)))))))
set_option maxRecDepth 100000 in
theorem vb_X9_readAll_18 {X : Nat × (Nat → Int32)} {R : zRt} : ∀ ls st h, B_X9_readAll_18 X (zV X M_X9_readAll (zQm M_X9_readAll R) 0 0) R ls st h → zV X M_X9_readAll (zQm M_X9_readAll R) 0 0 18 ls st h := sd_aload_n dX9_readAll_18 rfl (sd_geti dX9_readAll_19 zCl9 (Nat.le_of_ble_eq_true rfl) lk_RX9_68 (Or.inl rfl) (sd_iconst dX9_readAll_22 rfl (sd_iceq dX9_readAll_23 rfl (fun _ _ _ h => h) (sd_aload_n dX9_readAll_26 rfl (sd_iconst dX9_readAll_27 rfl (sd_inv1 dX9_readAll_28 rfl mv_X9_flaw na_X9_flaw ml_RX9_111 ⟨⟨Nat.le_of_ble_eq_true rfl, Nat.le_of_ble_eq_true rfl⟩, ⟨Nat.le_of_ble_eq_true rfl, Nat.le_of_ble_eq_true rfl⟩⟩ (fun _ _ _ h => h)))))))
def B_X9_readAll_31 (X : Nat × (Nat → Int32)) (J : Nat → zCf) (R : zRt) : zCf := oALOAD 0 (oGETR 9 4 (oGETI 8 1 (oIFNE (J 47) (oALOAD 0 (oPI (zj (6)) (oINV1 X M_X9_flaw 9 (J 47)))))))
set_option maxRecDepth 100000 in
theorem vb_X9_readAll_31 {X : Nat × (Nat → Int32)} {R : zRt} : ∀ ls st h, B_X9_readAll_31 X (zV X M_X9_readAll (zQm M_X9_readAll R) 0 0) R ls st h → zV X M_X9_readAll (zQm M_X9_readAll R) 0 0 31 ls st h := sd_aload_n dX9_readAll_31 rfl (sd_getr dX9_readAll_32 zCl9 (Nat.le_of_ble_eq_true rfl) lk_RX9_144 (Or.inl ⟨_, rfl⟩) (sd_geti dX9_readAll_35 zCl8 (Nat.le_of_ble_eq_true rfl) lk_RX9_180 (Or.inl rfl) (sd_ifne dX9_readAll_38 rfl (fun _ _ _ h => h) (sd_aload_n dX9_readAll_41 rfl (sd_bipush dX9_readAll_42 rfl (sd_inv1 dX9_readAll_44 rfl mv_X9_flaw na_X9_flaw ml_RX9_111 ⟨⟨Nat.le_of_ble_eq_true rfl, Nat.le_of_ble_eq_true rfl⟩, ⟨Nat.le_of_ble_eq_true rfl, Nat.le_of_ble_eq_true rfl⟩⟩ (fun _ _ _ h => h)))))))
def B_X9_readAll_47 (X : Nat × (Nat → Int32)) (J : Nat → zCf) (R : zRt) : zCf := oVRET R
set_option maxRecDepth 100000 in
theorem vb_X9_readAll_47 {X : Nat × (Nat → Int32)} {R : zRt} : ∀ ls st h, B_X9_readAll_47 X (zV X M_X9_readAll (zQm M_X9_readAll R) 0 0) R ls st h → zV X M_X9_readAll (zQm M_X9_readAll R) 0 0 47 ls st h := sd_vret dX9_readAll_47 rfl (Nat.le_of_ble_eq_true rfl) (Nat.le_of_ble_eq_true rfl)
theorem dX9_readLine_0 : decode cX9_readLine 0 = .ok (.aload_n 0, 1) := by decide +kernel
theorem dX9_readLine_1 : decode cX9_readLine 1 = .ok (.ldc 130, 2) := by decide +kernel
theorem dX9_readLine_3 : decode cX9_readLine 3 = .ok (.invokevirtual 107, 3) := by decide +kernel
theorem dX9_readLine_6 : decode cX9_readLine 6 = .ok (.ifCond .eq 10, 3) := by decide +kernel
theorem dX9_readLine_9 : decode cX9_readLine 9 = .ok (.aload_n 0, 1) := by decide +kernel
theorem dX9_readLine_10 : decode cX9_readLine 10 = .ok (.invokevirtual 183, 3) := by decide +kernel
theorem dX9_readLine_13 : decode cX9_readLine 13 = .ok (.goto 104, 3) := by decide +kernel
theorem dX9_readLine_16 : decode cX9_readLine 16 = .ok (.aload_n 0, 1) := by decide +kernel
theorem dX9_readLine_17 : decode cX9_readLine 17 = .ok (.ldc 132, 2) := by decide +kernel
theorem dX9_readLine_19 : decode cX9_readLine 19 = .ok (.invokevirtual 107, 3) := by decide +kernel
theorem dX9_readLine_22 : decode cX9_readLine 22 = .ok (.ifCond .eq 10, 3) := by decide +kernel
theorem dX9_readLine_25 : decode cX9_readLine 25 = .ok (.aload_n 0, 1) := by decide +kernel
theorem dX9_readLine_26 : decode cX9_readLine 26 = .ok (.invokevirtual 186, 3) := by decide +kernel
theorem dX9_readLine_29 : decode cX9_readLine 29 = .ok (.goto 88, 3) := by decide +kernel
theorem dX9_readLine_32 : decode cX9_readLine 32 = .ok (.aload_n 0, 1) := by decide +kernel
theorem dX9_readLine_33 : decode cX9_readLine 33 = .ok (.ldc 134, 2) := by decide +kernel
theorem dX9_readLine_35 : decode cX9_readLine 35 = .ok (.invokevirtual 107, 3) := by decide +kernel
theorem dX9_readLine_38 : decode cX9_readLine 38 = .ok (.ifCond .eq 10, 3) := by decide +kernel
theorem dX9_readLine_41 : decode cX9_readLine 41 = .ok (.aload_n 0, 1) := by decide +kernel
theorem dX9_readLine_42 : decode cX9_readLine 42 = .ok (.invokevirtual 189, 3) := by decide +kernel
theorem dX9_readLine_45 : decode cX9_readLine 45 = .ok (.goto 72, 3) := by decide +kernel
theorem dX9_readLine_48 : decode cX9_readLine 48 = .ok (.aload_n 0, 1) := by decide +kernel
theorem dX9_readLine_49 : decode cX9_readLine 49 = .ok (.ldc 136, 2) := by decide +kernel
theorem dX9_readLine_51 : decode cX9_readLine 51 = .ok (.invokevirtual 107, 3) := by decide +kernel
theorem dX9_readLine_54 : decode cX9_readLine 54 = .ok (.ifCond .eq 10, 3) := by decide +kernel
theorem dX9_readLine_57 : decode cX9_readLine 57 = .ok (.aload_n 0, 1) := by decide +kernel
theorem dX9_readLine_58 : decode cX9_readLine 58 = .ok (.invokevirtual 192, 3) := by decide +kernel
theorem dX9_readLine_61 : decode cX9_readLine 61 = .ok (.goto 56, 3) := by decide +kernel
theorem dX9_readLine_64 : decode cX9_readLine 64 = .ok (.aload_n 0, 1) := by decide +kernel
theorem dX9_readLine_65 : decode cX9_readLine 65 = .ok (.ldc 138, 2) := by decide +kernel
theorem dX9_readLine_67 : decode cX9_readLine 67 = .ok (.invokevirtual 107, 3) := by decide +kernel
theorem dX9_readLine_70 : decode cX9_readLine 70 = .ok (.ifCond .eq 10, 3) := by decide +kernel
theorem dX9_readLine_73 : decode cX9_readLine 73 = .ok (.aload_n 0, 1) := by decide +kernel
theorem dX9_readLine_74 : decode cX9_readLine 74 = .ok (.invokevirtual 195, 3) := by decide +kernel
theorem dX9_readLine_77 : decode cX9_readLine 77 = .ok (.goto 40, 3) := by decide +kernel
theorem dX9_readLine_80 : decode cX9_readLine 80 = .ok (.aload_n 0, 1) := by decide +kernel
theorem dX9_readLine_81 : decode cX9_readLine 81 = .ok (.ldc 140, 2) := by decide +kernel
theorem dX9_readLine_83 : decode cX9_readLine 83 = .ok (.invokevirtual 107, 3) := by decide +kernel
theorem dX9_readLine_86 : decode cX9_readLine 86 = .ok (.ifCond .eq 10, 3) := by decide +kernel
theorem dX9_readLine_89 : decode cX9_readLine 89 = .ok (.aload_n 0, 1) := by decide +kernel
theorem dX9_readLine_90 : decode cX9_readLine 90 = .ok (.invokevirtual 198, 3) := by decide +kernel
theorem dX9_readLine_93 : decode cX9_readLine 93 = .ok (.goto 24, 3) := by decide +kernel
theorem dX9_readLine_96 : decode cX9_readLine 96 = .ok (.aload_n 0, 1) := by decide +kernel
theorem dX9_readLine_97 : decode cX9_readLine 97 = .ok (.ldc 142, 2) := by decide +kernel
theorem dX9_readLine_99 : decode cX9_readLine 99 = .ok (.invokevirtual 107, 3) := by decide +kernel
theorem dX9_readLine_102 : decode cX9_readLine 102 = .ok (.ifCond .eq 10, 3) := by decide +kernel
theorem dX9_readLine_105 : decode cX9_readLine 105 = .ok (.aload_n 0, 1) := by decide +kernel
theorem dX9_readLine_106 : decode cX9_readLine 106 = .ok (.invokevirtual 201, 3) := by decide +kernel
theorem dX9_readLine_109 : decode cX9_readLine 109 = .ok (.goto 8, 3) := by decide +kernel
theorem dX9_readLine_112 : decode cX9_readLine 112 = .ok (.aload_n 0, 1) := by decide +kernel
theorem dX9_readLine_113 : decode cX9_readLine 113 = .ok (.iconst 1, 1) := by decide +kernel
theorem dX9_readLine_114 : decode cX9_readLine 114 = .ok (.invokevirtual 111, 3) := by decide +kernel
theorem dX9_readLine_117 : decode cX9_readLine 117 = .ok (.return_, 1) := by decide +kernel
def B_X9_readLine_0 (X : Nat × (Nat → Int32)) (J : Nat → zCf) (R : zRt) : zCf := oALOAD 0 (oPS 0 (oINV1 X M_X9_isWord 9 (oIFEQ (J 16) (oALOAD 0 (oINV0 X M_X9_readTube 9 (J 117))))))
set_option maxRecDepth 100000 in
theorem vb_X9_readLine_0 {X : Nat × (Nat → Int32)} {R : zRt} : ∀ ls st h, B_X9_readLine_0 X (zV X M_X9_readLine (zQm M_X9_readLine R) 0 0) R ls st h → zV X M_X9_readLine (zQm M_X9_readLine R) 0 0 0 ls st h := sd_aload_n dX9_readLine_0 rfl (sd_ldcs dX9_readLine_1 rfl rfl (sd_inv1 dX9_readLine_3 rfl mv_X9_isWord na_X9_isWord ml_RX9_107 ⟨⟨Nat.le_of_ble_eq_true rfl, Nat.le_of_ble_eq_true rfl⟩, ⟨Nat.le_of_ble_eq_true rfl, Nat.le_of_ble_eq_true rfl⟩⟩ (sd_ifeq dX9_readLine_6 rfl (fun _ _ _ h => h) (sd_aload_n dX9_readLine_9 rfl (sd_inv0 dX9_readLine_10 rfl mv_X9_readTube na_X9_readTube ml_RX9_183 ⟨⟨Nat.le_of_ble_eq_true rfl, Nat.le_of_ble_eq_true rfl⟩, ⟨Nat.le_of_ble_eq_true rfl, Nat.le_of_ble_eq_true rfl⟩⟩ (sd_goto dX9_readLine_13 rfl (fun _ _ _ h => h)))))))
def B_X9_readLine_16 (X : Nat × (Nat → Int32)) (J : Nat → zCf) (R : zRt) : zCf := oALOAD 0 (oPS 2 (oINV1 X M_X9_isWord 9 (oIFEQ (J 32) (oALOAD 0 (oINV0 X M_X9_readBit 9 (J 117))))))
set_option maxRecDepth 100000 in
theorem vb_X9_readLine_16 {X : Nat × (Nat → Int32)} {R : zRt} : ∀ ls st h, B_X9_readLine_16 X (zV X M_X9_readLine (zQm M_X9_readLine R) 0 0) R ls st h → zV X M_X9_readLine (zQm M_X9_readLine R) 0 0 16 ls st h := sd_aload_n dX9_readLine_16 rfl (sd_ldcs dX9_readLine_17 rfl rfl (sd_inv1 dX9_readLine_19 rfl mv_X9_isWord na_X9_isWord ml_RX9_107 ⟨⟨Nat.le_of_ble_eq_true rfl, Nat.le_of_ble_eq_true rfl⟩, ⟨Nat.le_of_ble_eq_true rfl, Nat.le_of_ble_eq_true rfl⟩⟩ (sd_ifeq dX9_readLine_22 rfl (fun _ _ _ h => h) (sd_aload_n dX9_readLine_25 rfl (sd_inv0 dX9_readLine_26 rfl mv_X9_readBit na_X9_readBit ml_RX9_186 ⟨⟨Nat.le_of_ble_eq_true rfl, Nat.le_of_ble_eq_true rfl⟩, ⟨Nat.le_of_ble_eq_true rfl, Nat.le_of_ble_eq_true rfl⟩⟩ (sd_goto dX9_readLine_29 rfl (fun _ _ _ h => h)))))))
def B_X9_readLine_32 (X : Nat × (Nat → Int32)) (J : Nat → zCf) (R : zRt) : zCf := oALOAD 0 (oPS 3 (oINV1 X M_X9_isWord 9 (oIFEQ (J 48) (oALOAD 0 (oINV0 X M_X9_readWant 9 (J 117))))))
set_option maxRecDepth 100000 in
theorem vb_X9_readLine_32 {X : Nat × (Nat → Int32)} {R : zRt} : ∀ ls st h, B_X9_readLine_32 X (zV X M_X9_readLine (zQm M_X9_readLine R) 0 0) R ls st h → zV X M_X9_readLine (zQm M_X9_readLine R) 0 0 32 ls st h := sd_aload_n dX9_readLine_32 rfl (sd_ldcs dX9_readLine_33 rfl rfl (sd_inv1 dX9_readLine_35 rfl mv_X9_isWord na_X9_isWord ml_RX9_107 ⟨⟨Nat.le_of_ble_eq_true rfl, Nat.le_of_ble_eq_true rfl⟩, ⟨Nat.le_of_ble_eq_true rfl, Nat.le_of_ble_eq_true rfl⟩⟩ (sd_ifeq dX9_readLine_38 rfl (fun _ _ _ h => h) (sd_aload_n dX9_readLine_41 rfl (sd_inv0 dX9_readLine_42 rfl mv_X9_readWant na_X9_readWant ml_RX9_189 ⟨⟨Nat.le_of_ble_eq_true rfl, Nat.le_of_ble_eq_true rfl⟩, ⟨Nat.le_of_ble_eq_true rfl, Nat.le_of_ble_eq_true rfl⟩⟩ (sd_goto dX9_readLine_45 rfl (fun _ _ _ h => h)))))))
def B_X9_readLine_48 (X : Nat × (Nat → Int32)) (J : Nat → zCf) (R : zRt) : zCf := oALOAD 0 (oPS 4 (oINV1 X M_X9_isWord 9 (oIFEQ (J 64) (oALOAD 0 (oINV0 X M_X9_readAfter 9 (J 117))))))
set_option maxRecDepth 100000 in
theorem vb_X9_readLine_48 {X : Nat × (Nat → Int32)} {R : zRt} : ∀ ls st h, B_X9_readLine_48 X (zV X M_X9_readLine (zQm M_X9_readLine R) 0 0) R ls st h → zV X M_X9_readLine (zQm M_X9_readLine R) 0 0 48 ls st h := sd_aload_n dX9_readLine_48 rfl (sd_ldcs dX9_readLine_49 rfl rfl (sd_inv1 dX9_readLine_51 rfl mv_X9_isWord na_X9_isWord ml_RX9_107 ⟨⟨Nat.le_of_ble_eq_true rfl, Nat.le_of_ble_eq_true rfl⟩, ⟨Nat.le_of_ble_eq_true rfl, Nat.le_of_ble_eq_true rfl⟩⟩ (sd_ifeq dX9_readLine_54 rfl (fun _ _ _ h => h) (sd_aload_n dX9_readLine_57 rfl (sd_inv0 dX9_readLine_58 rfl mv_X9_readAfter na_X9_readAfter ml_RX9_192 ⟨⟨Nat.le_of_ble_eq_true rfl, Nat.le_of_ble_eq_true rfl⟩, ⟨Nat.le_of_ble_eq_true rfl, Nat.le_of_ble_eq_true rfl⟩⟩ (sd_goto dX9_readLine_61 rfl (fun _ _ _ h => h)))))))
def B_X9_readLine_64 (X : Nat × (Nat → Int32)) (J : Nat → zCf) (R : zRt) : zCf := oALOAD 0 (oPS 5 (oINV1 X M_X9_isWord 9 (oIFEQ (J 80) (oALOAD 0 (oINV0 X M_X9_readMet 9 (J 117))))))
set_option maxRecDepth 100000 in
theorem vb_X9_readLine_64 {X : Nat × (Nat → Int32)} {R : zRt} : ∀ ls st h, B_X9_readLine_64 X (zV X M_X9_readLine (zQm M_X9_readLine R) 0 0) R ls st h → zV X M_X9_readLine (zQm M_X9_readLine R) 0 0 64 ls st h := sd_aload_n dX9_readLine_64 rfl (sd_ldcs dX9_readLine_65 rfl rfl (sd_inv1 dX9_readLine_67 rfl mv_X9_isWord na_X9_isWord ml_RX9_107 ⟨⟨Nat.le_of_ble_eq_true rfl, Nat.le_of_ble_eq_true rfl⟩, ⟨Nat.le_of_ble_eq_true rfl, Nat.le_of_ble_eq_true rfl⟩⟩ (sd_ifeq dX9_readLine_70 rfl (fun _ _ _ h => h) (sd_aload_n dX9_readLine_73 rfl (sd_inv0 dX9_readLine_74 rfl mv_X9_readMet na_X9_readMet ml_RX9_195 ⟨⟨Nat.le_of_ble_eq_true rfl, Nat.le_of_ble_eq_true rfl⟩, ⟨Nat.le_of_ble_eq_true rfl, Nat.le_of_ble_eq_true rfl⟩⟩ (sd_goto dX9_readLine_77 rfl (fun _ _ _ h => h)))))))
def B_X9_readLine_80 (X : Nat × (Nat → Int32)) (J : Nat → zCf) (R : zRt) : zCf := oALOAD 0 (oPS 6 (oINV1 X M_X9_isWord 9 (oIFEQ (J 96) (oALOAD 0 (oINV0 X M_X9_readHoliday 9 (J 117))))))
set_option maxRecDepth 100000 in
theorem vb_X9_readLine_80 {X : Nat × (Nat → Int32)} {R : zRt} : ∀ ls st h, B_X9_readLine_80 X (zV X M_X9_readLine (zQm M_X9_readLine R) 0 0) R ls st h → zV X M_X9_readLine (zQm M_X9_readLine R) 0 0 80 ls st h := sd_aload_n dX9_readLine_80 rfl (sd_ldcs dX9_readLine_81 rfl rfl (sd_inv1 dX9_readLine_83 rfl mv_X9_isWord na_X9_isWord ml_RX9_107 ⟨⟨Nat.le_of_ble_eq_true rfl, Nat.le_of_ble_eq_true rfl⟩, ⟨Nat.le_of_ble_eq_true rfl, Nat.le_of_ble_eq_true rfl⟩⟩ (sd_ifeq dX9_readLine_86 rfl (fun _ _ _ h => h) (sd_aload_n dX9_readLine_89 rfl (sd_inv0 dX9_readLine_90 rfl mv_X9_readHoliday na_X9_readHoliday ml_RX9_198 ⟨⟨Nat.le_of_ble_eq_true rfl, Nat.le_of_ble_eq_true rfl⟩, ⟨Nat.le_of_ble_eq_true rfl, Nat.le_of_ble_eq_true rfl⟩⟩ (sd_goto dX9_readLine_93 rfl (fun _ _ _ h => h)))))))
def B_X9_readLine_96 (X : Nat × (Nat → Int32)) (J : Nat → zCf) (R : zRt) : zCf := oALOAD 0 (oPS 7 (oINV1 X M_X9_isWord 9 (oIFEQ (J 112) (oALOAD 0 (oINV0 X M_X9_readPerson 9 (J 117))))))
set_option maxRecDepth 100000 in
theorem vb_X9_readLine_96 {X : Nat × (Nat → Int32)} {R : zRt} : ∀ ls st h, B_X9_readLine_96 X (zV X M_X9_readLine (zQm M_X9_readLine R) 0 0) R ls st h → zV X M_X9_readLine (zQm M_X9_readLine R) 0 0 96 ls st h := sd_aload_n dX9_readLine_96 rfl (sd_ldcs dX9_readLine_97 rfl rfl (sd_inv1 dX9_readLine_99 rfl mv_X9_isWord na_X9_isWord ml_RX9_107 ⟨⟨Nat.le_of_ble_eq_true rfl, Nat.le_of_ble_eq_true rfl⟩, ⟨Nat.le_of_ble_eq_true rfl, Nat.le_of_ble_eq_true rfl⟩⟩ (sd_ifeq dX9_readLine_102 rfl (fun _ _ _ h => h) (sd_aload_n dX9_readLine_105 rfl (sd_inv0 dX9_readLine_106 rfl mv_X9_readPerson na_X9_readPerson ml_RX9_201 ⟨⟨Nat.le_of_ble_eq_true rfl, Nat.le_of_ble_eq_true rfl⟩, ⟨Nat.le_of_ble_eq_true rfl, Nat.le_of_ble_eq_true rfl⟩⟩ (sd_goto dX9_readLine_109 rfl (fun _ _ _ h => h)))))))
def B_X9_readLine_112 (X : Nat × (Nat → Int32)) (J : Nat → zCf) (R : zRt) : zCf := oALOAD 0 (oPI (zj (1)) (oINV1 X M_X9_flaw 9 (J 117)))
set_option maxRecDepth 100000 in
theorem vb_X9_readLine_112 {X : Nat × (Nat → Int32)} {R : zRt} : ∀ ls st h, B_X9_readLine_112 X (zV X M_X9_readLine (zQm M_X9_readLine R) 0 0) R ls st h → zV X M_X9_readLine (zQm M_X9_readLine R) 0 0 112 ls st h := sd_aload_n dX9_readLine_112 rfl (sd_iconst dX9_readLine_113 rfl (sd_inv1 dX9_readLine_114 rfl mv_X9_flaw na_X9_flaw ml_RX9_111 ⟨⟨Nat.le_of_ble_eq_true rfl, Nat.le_of_ble_eq_true rfl⟩, ⟨Nat.le_of_ble_eq_true rfl, Nat.le_of_ble_eq_true rfl⟩⟩ (fun _ _ _ h => h)))
def B_X9_readLine_117 (X : Nat × (Nat → Int32)) (J : Nat → zCf) (R : zRt) : zCf := oVRET R
set_option maxRecDepth 100000 in
theorem vb_X9_readLine_117 {X : Nat × (Nat → Int32)} {R : zRt} : ∀ ls st h, B_X9_readLine_117 X (zV X M_X9_readLine (zQm M_X9_readLine R) 0 0) R ls st h → zV X M_X9_readLine (zQm M_X9_readLine R) 0 0 117 ls st h := sd_vret dX9_readLine_117 rfl (Nat.le_of_ble_eq_true rfl) (Nat.le_of_ble_eq_true rfl)
theorem dX9_readTube_0 : decode cX9_readTube 0 = .ok (.aload_n 0, 1) := by decide +kernel
theorem dX9_readTube_1 : decode cX9_readTube 1 = .ok (.getfield 144, 3) := by decide +kernel
theorem dX9_readTube_4 : decode cX9_readTube 4 = .ok (.getfield 148, 3) := by decide +kernel
theorem dX9_readTube_7 : decode cX9_readTube 7 = .ok (.iconst (-1), 1) := by decide +kernel
theorem dX9_readTube_8 : decode cX9_readTube 8 = .ok (.if_icmp .eq 8, 3) := by decide +kernel
theorem dX9_readTube_11 : decode cX9_readTube 11 = .ok (.aload_n 0, 1) := by decide +kernel
theorem dX9_readTube_12 : decode cX9_readTube 12 = .ok (.iconst 3, 1) := by decide +kernel
theorem dX9_readTube_13 : decode cX9_readTube 13 = .ok (.invokevirtual 111, 3) := by decide +kernel
theorem dX9_readTube_16 : decode cX9_readTube 16 = .ok (.aload_n 0, 1) := by decide +kernel
theorem dX9_readTube_17 : decode cX9_readTube 17 = .ok (.invokevirtual 104, 3) := by decide +kernel
theorem dX9_readTube_20 : decode cX9_readTube 20 = .ok (.aload_n 0, 1) := by decide +kernel
theorem dX9_readTube_21 : decode cX9_readTube 21 = .ok (.ldc 204, 2) := by decide +kernel
theorem dX9_readTube_23 : decode cX9_readTube 23 = .ok (.iconst 0, 1) := by decide +kernel
theorem dX9_readTube_24 : decode cX9_readTube 24 = .ok (.bipush 100, 2) := by decide +kernel
theorem dX9_readTube_26 : decode cX9_readTube 26 = .ok (.invokevirtual 205, 3) := by decide +kernel
theorem dX9_readTube_29 : decode cX9_readTube 29 = .ok (.istore_n 1, 1) := by decide +kernel
theorem dX9_readTube_30 : decode cX9_readTube 30 = .ok (.aload_n 0, 1) := by decide +kernel
theorem dX9_readTube_31 : decode cX9_readTube 31 = .ok (.getfield 68, 3) := by decide +kernel
theorem dX9_readTube_34 : decode cX9_readTube 34 = .ok (.iconst 5, 1) := by decide +kernel
theorem dX9_readTube_35 : decode cX9_readTube 35 = .ok (.if_icmp .eq 11, 3) := by decide +kernel
theorem dX9_readTube_38 : decode cX9_readTube 38 = .ok (.aload_n 0, 1) := by decide +kernel
theorem dX9_readTube_39 : decode cX9_readTube 39 = .ok (.getfield 144, 3) := by decide +kernel
theorem dX9_readTube_42 : decode cX9_readTube 42 = .ok (.iload_n 1, 1) := by decide +kernel
theorem dX9_readTube_43 : decode cX9_readTube 43 = .ok (.putfield 148, 3) := by decide +kernel
theorem dX9_readTube_46 : decode cX9_readTube 46 = .ok (.return_, 1) := by decide +kernel
def B_X9_readTube_0 (X : Nat × (Nat → Int32)) (J : Nat → zCf) (R : zRt) : zCf := oALOAD 0 (oGETR 9 4 (oGETI 8 0 (oPI (zj (-1)) (oICEQ (J 16) (oALOAD 0 (oPI (zj (3)) (oINV1 X M_X9_flaw 9 (J 16))))))))
set_option maxRecDepth 100000 in
theorem vb_X9_readTube_0 {X : Nat × (Nat → Int32)} {R : zRt} : ∀ ls st h, B_X9_readTube_0 X (zV X M_X9_readTube (zQm M_X9_readTube R) 0 0) R ls st h → zV X M_X9_readTube (zQm M_X9_readTube R) 0 0 0 ls st h := sd_aload_n dX9_readTube_0 rfl (sd_getr dX9_readTube_1 zCl9 (Nat.le_of_ble_eq_true rfl) lk_RX9_144 (Or.inl ⟨_, rfl⟩) (sd_geti dX9_readTube_4 zCl8 (Nat.le_of_ble_eq_true rfl) lk_RX9_148 (Or.inl rfl) (sd_iconst dX9_readTube_7 rfl (sd_iceq dX9_readTube_8 rfl (fun _ _ _ h => h) (sd_aload_n dX9_readTube_11 rfl (sd_iconst dX9_readTube_12 rfl (sd_inv1 dX9_readTube_13 rfl mv_X9_flaw na_X9_flaw ml_RX9_111 ⟨⟨Nat.le_of_ble_eq_true rfl, Nat.le_of_ble_eq_true rfl⟩, ⟨Nat.le_of_ble_eq_true rfl, Nat.le_of_ble_eq_true rfl⟩⟩ (fun _ _ _ h => h))))))))
def B_X9_readTube_16 (X : Nat × (Nat → Int32)) (J : Nat → zCf) (R : zRt) : zCf := oALOAD 0 (oINV0 X M_X9_goesOn 9 (oALOAD 0 (oPS 1 (oPI (zj (0)) (oPI (zj (100)) (oINV3 X M_X9_readPart 9 (oISTORE 0 1 (oALOAD 0 (oGETI 9 9 (oPI (zj (5)) (oICEQ (J 46) (oALOAD 0 (oGETR 9 4 (oILOAD 1 (oPUTI 8 0 (J 46))))))))))))))))
set_option maxRecDepth 100000 in
theorem vb_X9_readTube_16 {X : Nat × (Nat → Int32)} {R : zRt} : ∀ ls st h, B_X9_readTube_16 X (zV X M_X9_readTube (zQm M_X9_readTube R) 0 0) R ls st h → zV X M_X9_readTube (zQm M_X9_readTube R) 0 0 16 ls st h := sd_aload_n dX9_readTube_16 rfl (sd_inv0 dX9_readTube_17 rfl mv_X9_goesOn na_X9_goesOn ml_RX9_104 ⟨⟨Nat.le_of_ble_eq_true rfl, Nat.le_of_ble_eq_true rfl⟩, ⟨Nat.le_of_ble_eq_true rfl, Nat.le_of_ble_eq_true rfl⟩⟩ (sd_aload_n dX9_readTube_20 rfl (sd_ldcs dX9_readTube_21 rfl rfl (sd_iconst dX9_readTube_23 rfl (sd_bipush dX9_readTube_24 rfl (sd_inv3 dX9_readTube_26 rfl mv_X9_readPart na_X9_readPart ml_RX9_205 ⟨⟨Nat.le_of_ble_eq_true rfl, Nat.le_of_ble_eq_true rfl⟩, ⟨Nat.le_of_ble_eq_true rfl, Nat.le_of_ble_eq_true rfl⟩⟩ (sd_istore_n dX9_readTube_29 rfl (Nat.le_of_ble_eq_true rfl) (Or.inl rfl) (sd_aload_n dX9_readTube_30 rfl (sd_geti dX9_readTube_31 zCl9 (Nat.le_of_ble_eq_true rfl) lk_RX9_68 (Or.inl rfl) (sd_iconst dX9_readTube_34 rfl (sd_iceq dX9_readTube_35 rfl (fun _ _ _ h => h) (sd_aload_n dX9_readTube_38 rfl (sd_getr dX9_readTube_39 zCl9 (Nat.le_of_ble_eq_true rfl) lk_RX9_144 (Or.inl ⟨_, rfl⟩) (sd_iload_n dX9_readTube_42 rfl (sd_puti dX9_readTube_43 zCl8 (Nat.le_of_ble_eq_true rfl) lk_RX9_148 rfl (Or.inl rfl) (fun _ _ _ h => h))))))))))))))))
def B_X9_readTube_46 (X : Nat × (Nat → Int32)) (J : Nat → zCf) (R : zRt) : zCf := oVRET R
set_option maxRecDepth 100000 in
theorem vb_X9_readTube_46 {X : Nat × (Nat → Int32)} {R : zRt} : ∀ ls st h, B_X9_readTube_46 X (zV X M_X9_readTube (zQm M_X9_readTube R) 0 0) R ls st h → zV X M_X9_readTube (zQm M_X9_readTube R) 0 0 46 ls st h := sd_vret dX9_readTube_46 rfl (Nat.le_of_ble_eq_true rfl) (Nat.le_of_ble_eq_true rfl)
theorem dX9_readBit_0 : decode cX9_readBit 0 = .ok (.aload_n 0, 1) := by decide +kernel
theorem dX9_readBit_1 : decode cX9_readBit 1 = .ok (.aload_n 0, 1) := by decide +kernel
theorem dX9_readBit_2 : decode cX9_readBit 2 = .ok (.getfield 144, 3) := by decide +kernel
theorem dX9_readBit_5 : decode cX9_readBit 5 = .ok (.getfield 180, 3) := by decide +kernel
theorem dX9_readBit_8 : decode cX9_readBit 8 = .ok (.bipush 6, 2) := by decide +kernel
theorem dX9_readBit_10 : decode cX9_readBit 10 = .ok (.invokevirtual 209, 3) := by decide +kernel
theorem dX9_readBit_13 : decode cX9_readBit 13 = .ok (.aload_n 0, 1) := by decide +kernel
theorem dX9_readBit_14 : decode cX9_readBit 14 = .ok (.invokevirtual 213, 3) := by decide +kernel
theorem dX9_readBit_17 : decode cX9_readBit 17 = .ok (.lstore_n 1, 1) := by decide +kernel
theorem dX9_readBit_18 : decode cX9_readBit 18 = .ok (.aload_n 0, 1) := by decide +kernel
theorem dX9_readBit_19 : decode cX9_readBit 19 = .ok (.ldc 217, 2) := by decide +kernel
theorem dX9_readBit_21 : decode cX9_readBit 21 = .ok (.invokevirtual 107, 3) := by decide +kernel
theorem dX9_readBit_24 : decode cX9_readBit 24 = .ok (.ifCond .eq 7, 3) := by decide +kernel
theorem dX9_readBit_27 : decode cX9_readBit 27 = .ok (.iconst 0, 1) := by decide +kernel
theorem dX9_readBit_28 : decode cX9_readBit 28 = .ok (.goto 43, 3) := by decide +kernel
theorem dX9_readBit_31 : decode cX9_readBit 31 = .ok (.aload_n 0, 1) := by decide +kernel
theorem dX9_readBit_32 : decode cX9_readBit 32 = .ok (.ldc 219, 2) := by decide +kernel
theorem dX9_readBit_34 : decode cX9_readBit 34 = .ok (.invokevirtual 107, 3) := by decide +kernel
theorem dX9_readBit_37 : decode cX9_readBit 37 = .ok (.ifCond .eq 7, 3) := by decide +kernel
theorem dX9_readBit_40 : decode cX9_readBit 40 = .ok (.iconst 1, 1) := by decide +kernel
theorem dX9_readBit_41 : decode cX9_readBit 41 = .ok (.goto 30, 3) := by decide +kernel
theorem dX9_readBit_44 : decode cX9_readBit 44 = .ok (.aload_n 0, 1) := by decide +kernel
theorem dX9_readBit_45 : decode cX9_readBit 45 = .ok (.ldc 221, 2) := by decide +kernel
theorem dX9_readBit_47 : decode cX9_readBit 47 = .ok (.invokevirtual 107, 3) := by decide +kernel
theorem dX9_readBit_50 : decode cX9_readBit 50 = .ok (.ifCond .eq 7, 3) := by decide +kernel
theorem dX9_readBit_53 : decode cX9_readBit 53 = .ok (.iconst 2, 1) := by decide +kernel
theorem dX9_readBit_54 : decode cX9_readBit 54 = .ok (.goto 17, 3) := by decide +kernel
theorem dX9_readBit_57 : decode cX9_readBit 57 = .ok (.aload_n 0, 1) := by decide +kernel
theorem dX9_readBit_58 : decode cX9_readBit 58 = .ok (.ldc 223, 2) := by decide +kernel
theorem dX9_readBit_60 : decode cX9_readBit 60 = .ok (.invokevirtual 107, 3) := by decide +kernel
theorem dX9_readBit_63 : decode cX9_readBit 63 = .ok (.ifCond .eq 7, 3) := by decide +kernel
theorem dX9_readBit_66 : decode cX9_readBit 66 = .ok (.iconst 3, 1) := by decide +kernel
theorem dX9_readBit_67 : decode cX9_readBit 67 = .ok (.goto 4, 3) := by decide +kernel
theorem dX9_readBit_70 : decode cX9_readBit 70 = .ok (.iconst (-1), 1) := by decide +kernel
theorem dX9_readBit_71 : decode cX9_readBit 71 = .ok (.istore_n 3, 1) := by decide +kernel
theorem dX9_readBit_72 : decode cX9_readBit 72 = .ok (.iload_n 3, 1) := by decide +kernel
theorem dX9_readBit_73 : decode cX9_readBit 73 = .ok (.iconst (-1), 1) := by decide +kernel
theorem dX9_readBit_74 : decode cX9_readBit 74 = .ok (.if_icmp .ne 8, 3) := by decide +kernel
theorem dX9_readBit_77 : decode cX9_readBit 77 = .ok (.aload_n 0, 1) := by decide +kernel
theorem dX9_readBit_78 : decode cX9_readBit 78 = .ok (.iconst 1, 1) := by decide +kernel
theorem dX9_readBit_79 : decode cX9_readBit 79 = .ok (.invokevirtual 111, 3) := by decide +kernel
theorem dX9_readBit_82 : decode cX9_readBit 82 = .ok (.aload_n 0, 1) := by decide +kernel
theorem dX9_readBit_83 : decode cX9_readBit 83 = .ok (.invokevirtual 104, 3) := by decide +kernel
theorem dX9_readBit_86 : decode cX9_readBit 86 = .ok (.aload_n 0, 1) := by decide +kernel
theorem dX9_readBit_87 : decode cX9_readBit 87 = .ok (.invokevirtual 225, 3) := by decide +kernel
theorem dX9_readBit_90 : decode cX9_readBit 90 = .ok (.lstore 4, 2) := by decide +kernel
theorem dX9_readBit_92 : decode cX9_readBit 92 = .ok (.aload_n 0, 1) := by decide +kernel
theorem dX9_readBit_93 : decode cX9_readBit 93 = .ok (.ldc 228, 2) := by decide +kernel
theorem dX9_readBit_95 : decode cX9_readBit 95 = .ok (.iconst 0, 1) := by decide +kernel
theorem dX9_readBit_96 : decode cX9_readBit 96 = .ok (.bipush 11, 2) := by decide +kernel
theorem dX9_readBit_98 : decode cX9_readBit 98 = .ok (.invokevirtual 205, 3) := by decide +kernel
theorem dX9_readBit_101 : decode cX9_readBit 101 = .ok (.istore 6, 2) := by decide +kernel
theorem dX9_readBit_103 : decode cX9_readBit 103 = .ok (.aload_n 0, 1) := by decide +kernel
theorem dX9_readBit_104 : decode cX9_readBit 104 = .ok (.getfield 68, 3) := by decide +kernel
theorem dX9_readBit_107 : decode cX9_readBit 107 = .ok (.iconst 5, 1) := by decide +kernel
theorem dX9_readBit_108 : decode cX9_readBit 108 = .ok (.if_icmp .ne 4, 3) := by decide +kernel
theorem dX9_readBit_111 : decode cX9_readBit 111 = .ok (.return_, 1) := by decide +kernel
theorem dX9_readBit_112 : decode cX9_readBit 112 = .ok (.aload_n 0, 1) := by decide +kernel
theorem dX9_readBit_113 : decode cX9_readBit 113 = .ok (.getfield 144, 3) := by decide +kernel
theorem dX9_readBit_116 : decode cX9_readBit 116 = .ok (.getfield 180, 3) := by decide +kernel
theorem dX9_readBit_119 : decode cX9_readBit 119 = .ok (.istore 7, 2) := by decide +kernel
theorem dX9_readBit_121 : decode cX9_readBit 121 = .ok (.aload_n 0, 1) := by decide +kernel
theorem dX9_readBit_122 : decode cX9_readBit 122 = .ok (.lload_n 1, 1) := by decide +kernel
theorem dX9_readBit_123 : decode cX9_readBit 123 = .ok (.iconst 0, 1) := by decide +kernel
theorem dX9_readBit_124 : decode cX9_readBit 124 = .ok (.iload 7, 2) := by decide +kernel
theorem dX9_readBit_126 : decode cX9_readBit 126 = .ok (.invokevirtual 230, 3) := by decide +kernel
theorem dX9_readBit_129 : decode cX9_readBit 129 = .ok (.aload_n 0, 1) := by decide +kernel
theorem dX9_readBit_130 : decode cX9_readBit 130 = .ok (.getfield 144, 3) := by decide +kernel
theorem dX9_readBit_133 : decode cX9_readBit 133 = .ok (.getfield 233, 3) := by decide +kernel
theorem dX9_readBit_136 : decode cX9_readBit 136 = .ok (.iload 7, 2) := by decide +kernel
theorem dX9_readBit_138 : decode cX9_readBit 138 = .ok (.iload_n 3, 1) := by decide +kernel
theorem dX9_readBit_139 : decode cX9_readBit 139 = .ok (.iastore, 1) := by decide +kernel
theorem dX9_readBit_140 : decode cX9_readBit 140 = .ok (.aload_n 0, 1) := by decide +kernel
theorem dX9_readBit_141 : decode cX9_readBit 141 = .ok (.getfield 144, 3) := by decide +kernel
theorem dX9_readBit_144 : decode cX9_readBit 144 = .ok (.getfield 235, 3) := by decide +kernel
theorem dX9_readBit_147 : decode cX9_readBit 147 = .ok (.iload 7, 2) := by decide +kernel
theorem dX9_readBit_149 : decode cX9_readBit 149 = .ok (.lload 4, 2) := by decide +kernel
theorem dX9_readBit_151 : decode cX9_readBit 151 = .ok (.lastore, 1) := by decide +kernel
theorem dX9_readBit_152 : decode cX9_readBit 152 = .ok (.aload_n 0, 1) := by decide +kernel
theorem dX9_readBit_153 : decode cX9_readBit 153 = .ok (.getfield 144, 3) := by decide +kernel
theorem dX9_readBit_156 : decode cX9_readBit 156 = .ok (.getfield 238, 3) := by decide +kernel
theorem dX9_readBit_159 : decode cX9_readBit 159 = .ok (.iload 7, 2) := by decide +kernel
theorem dX9_readBit_161 : decode cX9_readBit 161 = .ok (.iload 6, 2) := by decide +kernel
theorem dX9_readBit_163 : decode cX9_readBit 163 = .ok (.iastore, 1) := by decide +kernel
theorem dX9_readBit_164 : decode cX9_readBit 164 = .ok (.aload_n 0, 1) := by decide +kernel
theorem dX9_readBit_165 : decode cX9_readBit 165 = .ok (.getfield 144, 3) := by decide +kernel
theorem dX9_readBit_168 : decode cX9_readBit 168 = .ok (.getfield 240, 3) := by decide +kernel
theorem dX9_readBit_171 : decode cX9_readBit 171 = .ok (.iload 7, 2) := by decide +kernel
theorem dX9_readBit_173 : decode cX9_readBit 173 = .ok (.bipush (-2), 2) := by decide +kernel
theorem dX9_readBit_175 : decode cX9_readBit 175 = .ok (.iastore, 1) := by decide +kernel
theorem dX9_readBit_176 : decode cX9_readBit 176 = .ok (.aload_n 0, 1) := by decide +kernel
theorem dX9_readBit_177 : decode cX9_readBit 177 = .ok (.getfield 144, 3) := by decide +kernel
theorem dX9_readBit_180 : decode cX9_readBit 180 = .ok (.getfield 242, 3) := by decide +kernel
theorem dX9_readBit_183 : decode cX9_readBit 183 = .ok (.iload 7, 2) := by decide +kernel
theorem dX9_readBit_185 : decode cX9_readBit 185 = .ok (.bipush (-2), 2) := by decide +kernel
theorem dX9_readBit_187 : decode cX9_readBit 187 = .ok (.iastore, 1) := by decide +kernel
theorem dX9_readBit_188 : decode cX9_readBit 188 = .ok (.aload_n 0, 1) := by decide +kernel
theorem dX9_readBit_189 : decode cX9_readBit 189 = .ok (.getfield 144, 3) := by decide +kernel
theorem dX9_readBit_192 : decode cX9_readBit 192 = .ok (.dup, 1) := by decide +kernel
theorem dX9_readBit_193 : decode cX9_readBit 193 = .ok (.getfield 180, 3) := by decide +kernel
theorem dX9_readBit_196 : decode cX9_readBit 196 = .ok (.iconst 1, 1) := by decide +kernel
theorem dX9_readBit_197 : decode cX9_readBit 197 = .ok (.iadd, 1) := by decide +kernel
theorem dX9_readBit_198 : decode cX9_readBit 198 = .ok (.putfield 180, 3) := by decide +kernel
theorem dX9_readBit_201 : decode cX9_readBit 201 = .ok (.return_, 1) := by decide +kernel
def B_X9_readBit_0 (X : Nat × (Nat → Int32)) (J : Nat → zCf) (R : zRt) : zCf := oALOAD 0 (oALOAD 0 (oGETR 9 4 (oGETI 8 1 (oPI (zj (6)) (oINV2 X M_X9_lineBegins 9 (oALOAD 0 (oINV0 X M_X9_readFresh 9 (oLSTORE 0 1 (oALOAD 0 (oPS 8 (oINV1 X M_X9_isWord 9 (oIFEQ (J 31) (oPI (zj (0)) (J 71))))))))))))))
set_option maxRecDepth 100000 in
theorem vb_X9_readBit_0 {X : Nat × (Nat → Int32)} {R : zRt} : ∀ ls st h, B_X9_readBit_0 X (zV X M_X9_readBit (zQm M_X9_readBit R) 0 0) R ls st h → zV X M_X9_readBit (zQm M_X9_readBit R) 0 0 0 ls st h := sd_aload_n dX9_readBit_0 rfl (sd_aload_n dX9_readBit_1 rfl (sd_getr dX9_readBit_2 zCl9 (Nat.le_of_ble_eq_true rfl) lk_RX9_144 (Or.inl ⟨_, rfl⟩) (sd_geti dX9_readBit_5 zCl8 (Nat.le_of_ble_eq_true rfl) lk_RX9_180 (Or.inl rfl) (sd_bipush dX9_readBit_8 rfl (sd_inv2 dX9_readBit_10 rfl mv_X9_lineBegins na_X9_lineBegins ml_RX9_209 ⟨⟨Nat.le_of_ble_eq_true rfl, Nat.le_of_ble_eq_true rfl⟩, ⟨Nat.le_of_ble_eq_true rfl, Nat.le_of_ble_eq_true rfl⟩⟩ (sd_aload_n dX9_readBit_13 rfl (sd_inv0 dX9_readBit_14 rfl mv_X9_readFresh na_X9_readFresh ml_RX9_213 ⟨⟨Nat.le_of_ble_eq_true rfl, Nat.le_of_ble_eq_true rfl⟩, ⟨Nat.le_of_ble_eq_true rfl, Nat.le_of_ble_eq_true rfl⟩⟩ (sd_lstore_n dX9_readBit_17 rfl (Nat.le_of_ble_eq_true rfl) (Or.inl rfl) (sd_aload_n dX9_readBit_18 rfl (sd_ldcs dX9_readBit_19 rfl rfl (sd_inv1 dX9_readBit_21 rfl mv_X9_isWord na_X9_isWord ml_RX9_107 ⟨⟨Nat.le_of_ble_eq_true rfl, Nat.le_of_ble_eq_true rfl⟩, ⟨Nat.le_of_ble_eq_true rfl, Nat.le_of_ble_eq_true rfl⟩⟩ (sd_ifeq dX9_readBit_24 rfl (fun _ _ _ h => h) (sd_iconst dX9_readBit_27 rfl (sd_goto dX9_readBit_28 rfl (fun _ _ _ h => h)))))))))))))))
def B_X9_readBit_31 (X : Nat × (Nat → Int32)) (J : Nat → zCf) (R : zRt) : zCf := oALOAD 0 (oPS 9 (oINV1 X M_X9_isWord 9 (oIFEQ (J 44) (oPI (zj (1)) (J 71)))))
set_option maxRecDepth 100000 in
theorem vb_X9_readBit_31 {X : Nat × (Nat → Int32)} {R : zRt} : ∀ ls st h, B_X9_readBit_31 X (zV X M_X9_readBit (zQm M_X9_readBit R) 0 0) R ls st h → zV X M_X9_readBit (zQm M_X9_readBit R) 0 0 31 ls st h := sd_aload_n dX9_readBit_31 rfl (sd_ldcs dX9_readBit_32 rfl rfl (sd_inv1 dX9_readBit_34 rfl mv_X9_isWord na_X9_isWord ml_RX9_107 ⟨⟨Nat.le_of_ble_eq_true rfl, Nat.le_of_ble_eq_true rfl⟩, ⟨Nat.le_of_ble_eq_true rfl, Nat.le_of_ble_eq_true rfl⟩⟩ (sd_ifeq dX9_readBit_37 rfl (fun _ _ _ h => h) (sd_iconst dX9_readBit_40 rfl (sd_goto dX9_readBit_41 rfl (fun _ _ _ h => h))))))
def B_X9_readBit_44 (X : Nat × (Nat → Int32)) (J : Nat → zCf) (R : zRt) : zCf := oALOAD 0 (oPS 10 (oINV1 X M_X9_isWord 9 (oIFEQ (J 57) (oPI (zj (2)) (J 71)))))
set_option maxRecDepth 100000 in
theorem vb_X9_readBit_44 {X : Nat × (Nat → Int32)} {R : zRt} : ∀ ls st h, B_X9_readBit_44 X (zV X M_X9_readBit (zQm M_X9_readBit R) 0 0) R ls st h → zV X M_X9_readBit (zQm M_X9_readBit R) 0 0 44 ls st h := sd_aload_n dX9_readBit_44 rfl (sd_ldcs dX9_readBit_45 rfl rfl (sd_inv1 dX9_readBit_47 rfl mv_X9_isWord na_X9_isWord ml_RX9_107 ⟨⟨Nat.le_of_ble_eq_true rfl, Nat.le_of_ble_eq_true rfl⟩, ⟨Nat.le_of_ble_eq_true rfl, Nat.le_of_ble_eq_true rfl⟩⟩ (sd_ifeq dX9_readBit_50 rfl (fun _ _ _ h => h) (sd_iconst dX9_readBit_53 rfl (sd_goto dX9_readBit_54 rfl (fun _ _ _ h => h))))))
def B_X9_readBit_57 (X : Nat × (Nat → Int32)) (J : Nat → zCf) (R : zRt) : zCf := oALOAD 0 (oPS 11 (oINV1 X M_X9_isWord 9 (oIFEQ (J 70) (oPI (zj (3)) (J 71)))))
set_option maxRecDepth 100000 in
theorem vb_X9_readBit_57 {X : Nat × (Nat → Int32)} {R : zRt} : ∀ ls st h, B_X9_readBit_57 X (zV X M_X9_readBit (zQm M_X9_readBit R) 0 0) R ls st h → zV X M_X9_readBit (zQm M_X9_readBit R) 0 0 57 ls st h := sd_aload_n dX9_readBit_57 rfl (sd_ldcs dX9_readBit_58 rfl rfl (sd_inv1 dX9_readBit_60 rfl mv_X9_isWord na_X9_isWord ml_RX9_107 ⟨⟨Nat.le_of_ble_eq_true rfl, Nat.le_of_ble_eq_true rfl⟩, ⟨Nat.le_of_ble_eq_true rfl, Nat.le_of_ble_eq_true rfl⟩⟩ (sd_ifeq dX9_readBit_63 rfl (fun _ _ _ h => h) (sd_iconst dX9_readBit_66 rfl (sd_goto dX9_readBit_67 rfl (fun _ _ _ h => h))))))
def B_X9_readBit_70 (X : Nat × (Nat → Int32)) (J : Nat → zCf) (R : zRt) : zCf := oPI (zj (-1)) (J 71)
set_option maxRecDepth 100000 in
theorem vb_X9_readBit_70 {X : Nat × (Nat → Int32)} {R : zRt} : ∀ ls st h, B_X9_readBit_70 X (zV X M_X9_readBit (zQm M_X9_readBit R) 0 0) R ls st h → zV X M_X9_readBit (zQm M_X9_readBit R) 0 0 70 ls st h := sd_iconst dX9_readBit_70 rfl (fun _ _ _ h => h)
def B_X9_readBit_71 (X : Nat × (Nat → Int32)) (J : Nat → zCf) (R : zRt) : zCf := oISTORE 2 3 (oILOAD 3 (oPI (zj (-1)) (oICNE (J 82) (oALOAD 0 (oPI (zj (1)) (oINV1 X M_X9_flaw 9 (J 82)))))))
set_option maxRecDepth 100000 in
theorem vb_X9_readBit_71 {X : Nat × (Nat → Int32)} {R : zRt} : ∀ ls st h, B_X9_readBit_71 X (zV X M_X9_readBit (zQm M_X9_readBit R) 0 0) R ls st h → zV X M_X9_readBit (zQm M_X9_readBit R) 0 0 71 ls st h := sd_istore_n dX9_readBit_71 rfl (Nat.le_of_ble_eq_true rfl) (Or.inl rfl) (sd_iload_n dX9_readBit_72 rfl (sd_iconst dX9_readBit_73 rfl (sd_icne dX9_readBit_74 rfl (fun _ _ _ h => h) (sd_aload_n dX9_readBit_77 rfl (sd_iconst dX9_readBit_78 rfl (sd_inv1 dX9_readBit_79 rfl mv_X9_flaw na_X9_flaw ml_RX9_111 ⟨⟨Nat.le_of_ble_eq_true rfl, Nat.le_of_ble_eq_true rfl⟩, ⟨Nat.le_of_ble_eq_true rfl, Nat.le_of_ble_eq_true rfl⟩⟩ (fun _ _ _ h => h)))))))
def B_X9_readBit_82 (X : Nat × (Nat → Int32)) (J : Nat → zCf) (R : zRt) : zCf := oALOAD 0 (oINV0 X M_X9_goesOn 9 (oALOAD 0 (oINV0 X M_X9_readWord 9 (oLSTORE 3 4 (oALOAD 0 (oPS 12 (oPI (zj (0)) (oPI (zj (11)) (oINV3 X M_X9_readPart 9 (oISTORE 5 6 (oALOAD 0 (oGETI 9 9 (oPI (zj (5)) (oICNE (J 112) (oVRET R)))))))))))))))
set_option maxRecDepth 100000 in
theorem vb_X9_readBit_82 {X : Nat × (Nat → Int32)} {R : zRt} : ∀ ls st h, B_X9_readBit_82 X (zV X M_X9_readBit (zQm M_X9_readBit R) 0 0) R ls st h → zV X M_X9_readBit (zQm M_X9_readBit R) 0 0 82 ls st h := sd_aload_n dX9_readBit_82 rfl (sd_inv0 dX9_readBit_83 rfl mv_X9_goesOn na_X9_goesOn ml_RX9_104 ⟨⟨Nat.le_of_ble_eq_true rfl, Nat.le_of_ble_eq_true rfl⟩, ⟨Nat.le_of_ble_eq_true rfl, Nat.le_of_ble_eq_true rfl⟩⟩ (sd_aload_n dX9_readBit_86 rfl (sd_inv0 dX9_readBit_87 rfl mv_X9_readWord na_X9_readWord ml_RX9_225 ⟨⟨Nat.le_of_ble_eq_true rfl, Nat.le_of_ble_eq_true rfl⟩, ⟨Nat.le_of_ble_eq_true rfl, Nat.le_of_ble_eq_true rfl⟩⟩ (sd_lstore dX9_readBit_90 (Nat.le_of_ble_eq_true rfl) (Or.inl rfl) (sd_aload_n dX9_readBit_92 rfl (sd_ldcs dX9_readBit_93 rfl rfl (sd_iconst dX9_readBit_95 rfl (sd_bipush dX9_readBit_96 rfl (sd_inv3 dX9_readBit_98 rfl mv_X9_readPart na_X9_readPart ml_RX9_205 ⟨⟨Nat.le_of_ble_eq_true rfl, Nat.le_of_ble_eq_true rfl⟩, ⟨Nat.le_of_ble_eq_true rfl, Nat.le_of_ble_eq_true rfl⟩⟩ (sd_istore dX9_readBit_101 (Nat.le_of_ble_eq_true rfl) (Or.inl rfl) (sd_aload_n dX9_readBit_103 rfl (sd_geti dX9_readBit_104 zCl9 (Nat.le_of_ble_eq_true rfl) lk_RX9_68 (Or.inl rfl) (sd_iconst dX9_readBit_107 rfl (sd_icne dX9_readBit_108 rfl (fun _ _ _ h => h) (sd_vret dX9_readBit_111 rfl (Nat.le_of_ble_eq_true rfl) (Nat.le_of_ble_eq_true rfl))))))))))))))))
def B_X9_readBit_112 (X : Nat × (Nat → Int32)) (J : Nat → zCf) (R : zRt) : zCf := oALOAD 0 (oGETR 9 4 (oGETI 8 1 (oISTORE 6 7 (oALOAD 0 (oLLOAD 1 (oPI (zj (0)) (oILOAD 7 (oINV3 X M_X9_names 9 (oALOAD 0 (oGETR 9 4 (oGETR 8 8 (oILOAD 7 (oILOAD 3 (oIAST (oALOAD 0 (oGETR 9 4 (oGETR 8 12 (oILOAD 7 (oLLOAD 4 (oLAST (oALOAD 0 (oGETR 9 4 (oGETR 8 9 (oILOAD 7 (oILOAD 6 (oIAST (oALOAD 0 (oGETR 9 4 (oGETR 8 10 (oILOAD 7 (oPI (zj (-2)) (oIAST (oALOAD 0 (oGETR 9 4 (oGETR 8 11 (oILOAD 7 (oPI (zj (-2)) (oIAST (oALOAD 0 (oGETR 9 4 (oDUP (oGETI 8 1 (oPI (zj (1)) (oIADD (oPUTI 8 1 (oVRET R))))))))))))))))))))))))))))))))))))))))))))))
set_option maxRecDepth 100000 in
theorem vb_X9_readBit_112 {X : Nat × (Nat → Int32)} {R : zRt} : ∀ ls st h, B_X9_readBit_112 X (zV X M_X9_readBit (zQm M_X9_readBit R) 0 0) R ls st h → zV X M_X9_readBit (zQm M_X9_readBit R) 0 0 112 ls st h := sd_aload_n dX9_readBit_112 rfl (sd_getr dX9_readBit_113 zCl9 (Nat.le_of_ble_eq_true rfl) lk_RX9_144 (Or.inl ⟨_, rfl⟩) (sd_geti dX9_readBit_116 zCl8 (Nat.le_of_ble_eq_true rfl) lk_RX9_180 (Or.inl rfl) (sd_istore dX9_readBit_119 (Nat.le_of_ble_eq_true rfl) (Or.inl rfl) (sd_aload_n dX9_readBit_121 rfl (sd_lload_n dX9_readBit_122 rfl (sd_iconst dX9_readBit_123 rfl (sd_iload dX9_readBit_124 (sd_inv3 dX9_readBit_126 rfl mv_X9_names na_X9_names ml_RX9_230 ⟨⟨Nat.le_of_ble_eq_true rfl, Nat.le_of_ble_eq_true rfl⟩, ⟨Nat.le_of_ble_eq_true rfl, Nat.le_of_ble_eq_true rfl⟩⟩ (sd_aload_n dX9_readBit_129 rfl (sd_getr dX9_readBit_130 zCl9 (Nat.le_of_ble_eq_true rfl) lk_RX9_144 (Or.inl ⟨_, rfl⟩) (sd_getr dX9_readBit_133 zCl8 (Nat.le_of_ble_eq_true rfl) lk_RX9_233 (Or.inr ⟨_, rfl⟩) (sd_iload dX9_readBit_136 (sd_iload_n dX9_readBit_138 rfl (sd_iast dX9_readBit_139 (sd_aload_n dX9_readBit_140 rfl (sd_getr dX9_readBit_141 zCl9 (Nat.le_of_ble_eq_true rfl) lk_RX9_144 (Or.inl ⟨_, rfl⟩) (sd_getr dX9_readBit_144 zCl8 (Nat.le_of_ble_eq_true rfl) lk_RX9_235 (Or.inr ⟨_, rfl⟩) (sd_iload dX9_readBit_147 (sd_lload dX9_readBit_149 (sd_last dX9_readBit_151 (sd_aload_n dX9_readBit_152 rfl (sd_getr dX9_readBit_153 zCl9 (Nat.le_of_ble_eq_true rfl) lk_RX9_144 (Or.inl ⟨_, rfl⟩) (sd_getr dX9_readBit_156 zCl8 (Nat.le_of_ble_eq_true rfl) lk_RX9_238 (Or.inr ⟨_, rfl⟩) (sd_iload dX9_readBit_159 (sd_iload dX9_readBit_161 (sd_iast dX9_readBit_163 (sd_aload_n dX9_readBit_164 rfl (sd_getr dX9_readBit_165 zCl9 (Nat.le_of_ble_eq_true rfl) lk_RX9_144 (Or.inl ⟨_, rfl⟩) (sd_getr dX9_readBit_168 zCl8 (Nat.le_of_ble_eq_true rfl) lk_RX9_240 (Or.inr ⟨_, rfl⟩) (sd_iload dX9_readBit_171 (sd_bipush dX9_readBit_173 rfl (sd_iast dX9_readBit_175 (sd_aload_n dX9_readBit_176 rfl (sd_getr dX9_readBit_177 zCl9 (Nat.le_of_ble_eq_true rfl) lk_RX9_144 (Or.inl ⟨_, rfl⟩) (sd_getr dX9_readBit_180 zCl8 (Nat.le_of_ble_eq_true rfl) lk_RX9_242 (Or.inr ⟨_, rfl⟩) (sd_iload dX9_readBit_183 (sd_bipush dX9_readBit_185 rfl (sd_iast dX9_readBit_187 (sd_aload_n dX9_readBit_188 rfl (sd_getr dX9_readBit_189 zCl9 (Nat.le_of_ble_eq_true rfl) lk_RX9_144 (Or.inl ⟨_, rfl⟩) (sd_dup dX9_readBit_192 (sd_geti dX9_readBit_193 zCl8 (Nat.le_of_ble_eq_true rfl) lk_RX9_180 (Or.inl rfl) (sd_iconst dX9_readBit_196 rfl (sd_iadd dX9_readBit_197 (sd_puti dX9_readBit_198 zCl8 (Nat.le_of_ble_eq_true rfl) lk_RX9_180 rfl (Or.inl rfl) (sd_vret dX9_readBit_201 rfl (Nat.le_of_ble_eq_true rfl) (Nat.le_of_ble_eq_true rfl)))))))))))))))))))))))))))))))))))))))))))))))
theorem dX9_readWant_0 : decode cX9_readWant 0 = .ok (.aload_n 0, 1) := by decide +kernel
theorem dX9_readWant_1 : decode cX9_readWant 1 = .ok (.iconst 0, 1) := by decide +kernel
theorem dX9_readWant_2 : decode cX9_readWant 2 = .ok (.iconst 1, 1) := by decide +kernel
theorem dX9_readWant_3 : decode cX9_readWant 3 = .ok (.invokevirtual 209, 3) := by decide +kernel
theorem dX9_readWant_6 : decode cX9_readWant 6 = .ok (.aload_n 0, 1) := by decide +kernel
theorem dX9_readWant_7 : decode cX9_readWant 7 = .ok (.invokevirtual 244, 3) := by decide +kernel
theorem dX9_readWant_10 : decode cX9_readWant 10 = .ok (.istore_n 1, 1) := by decide +kernel
theorem dX9_readWant_11 : decode cX9_readWant 11 = .ok (.aload_n 0, 1) := by decide +kernel
theorem dX9_readWant_12 : decode cX9_readWant 12 = .ok (.getfield 68, 3) := by decide +kernel
theorem dX9_readWant_15 : decode cX9_readWant 15 = .ok (.iconst 5, 1) := by decide +kernel
theorem dX9_readWant_16 : decode cX9_readWant 16 = .ok (.if_icmp .eq 22, 3) := by decide +kernel
theorem dX9_readWant_19 : decode cX9_readWant 19 = .ok (.aload_n 0, 1) := by decide +kernel
theorem dX9_readWant_20 : decode cX9_readWant 20 = .ok (.getfield 144, 3) := by decide +kernel
theorem dX9_readWant_23 : decode cX9_readWant 23 = .ok (.getfield 240, 3) := by decide +kernel
theorem dX9_readWant_26 : decode cX9_readWant 26 = .ok (.iload_n 1, 1) := by decide +kernel
theorem dX9_readWant_27 : decode cX9_readWant 27 = .ok (.iaload, 1) := by decide +kernel
theorem dX9_readWant_28 : decode cX9_readWant 28 = .ok (.bipush (-2), 2) := by decide +kernel
theorem dX9_readWant_30 : decode cX9_readWant 30 = .ok (.if_icmp .eq 8, 3) := by decide +kernel
theorem dX9_readWant_33 : decode cX9_readWant 33 = .ok (.aload_n 0, 1) := by decide +kernel
theorem dX9_readWant_34 : decode cX9_readWant 34 = .ok (.iconst 3, 1) := by decide +kernel
theorem dX9_readWant_35 : decode cX9_readWant 35 = .ok (.invokevirtual 111, 3) := by decide +kernel
theorem dX9_readWant_38 : decode cX9_readWant 38 = .ok (.aload_n 0, 1) := by decide +kernel
theorem dX9_readWant_39 : decode cX9_readWant 39 = .ok (.invokevirtual 104, 3) := by decide +kernel
theorem dX9_readWant_42 : decode cX9_readWant 42 = .ok (.aload_n 0, 1) := by decide +kernel
theorem dX9_readWant_43 : decode cX9_readWant 43 = .ok (.ldc 228, 2) := by decide +kernel
theorem dX9_readWant_45 : decode cX9_readWant 45 = .ok (.iconst 0, 1) := by decide +kernel
theorem dX9_readWant_46 : decode cX9_readWant 46 = .ok (.bipush 11, 2) := by decide +kernel
theorem dX9_readWant_48 : decode cX9_readWant 48 = .ok (.invokevirtual 205, 3) := by decide +kernel
theorem dX9_readWant_51 : decode cX9_readWant 51 = .ok (.istore_n 2, 1) := by decide +kernel
theorem dX9_readWant_52 : decode cX9_readWant 52 = .ok (.aload_n 0, 1) := by decide +kernel
theorem dX9_readWant_53 : decode cX9_readWant 53 = .ok (.getfield 68, 3) := by decide +kernel
theorem dX9_readWant_56 : decode cX9_readWant 56 = .ok (.iconst 5, 1) := by decide +kernel
theorem dX9_readWant_57 : decode cX9_readWant 57 = .ok (.if_icmp .ne 4, 3) := by decide +kernel
theorem dX9_readWant_60 : decode cX9_readWant 60 = .ok (.return_, 1) := by decide +kernel
theorem dX9_readWant_61 : decode cX9_readWant 61 = .ok (.aload_n 0, 1) := by decide +kernel
theorem dX9_readWant_62 : decode cX9_readWant 62 = .ok (.getfield 144, 3) := by decide +kernel
theorem dX9_readWant_65 : decode cX9_readWant 65 = .ok (.getfield 240, 3) := by decide +kernel
theorem dX9_readWant_68 : decode cX9_readWant 68 = .ok (.iload_n 1, 1) := by decide +kernel
theorem dX9_readWant_69 : decode cX9_readWant 69 = .ok (.iload_n 2, 1) := by decide +kernel
theorem dX9_readWant_70 : decode cX9_readWant 70 = .ok (.iastore, 1) := by decide +kernel
theorem dX9_readWant_71 : decode cX9_readWant 71 = .ok (.aload_n 0, 1) := by decide +kernel
theorem dX9_readWant_72 : decode cX9_readWant 72 = .ok (.getfield 144, 3) := by decide +kernel
theorem dX9_readWant_75 : decode cX9_readWant 75 = .ok (.dup, 1) := by decide +kernel
theorem dX9_readWant_76 : decode cX9_readWant 76 = .ok (.getfield 247, 3) := by decide +kernel
theorem dX9_readWant_79 : decode cX9_readWant 79 = .ok (.iconst 1, 1) := by decide +kernel
theorem dX9_readWant_80 : decode cX9_readWant 80 = .ok (.iadd, 1) := by decide +kernel
theorem dX9_readWant_81 : decode cX9_readWant 81 = .ok (.putfield 247, 3) := by decide +kernel
theorem dX9_readWant_84 : decode cX9_readWant 84 = .ok (.return_, 1) := by decide +kernel
def B_X9_readWant_0 (X : Nat × (Nat → Int32)) (J : Nat → zCf) (R : zRt) : zCf := oALOAD 0 (oPI (zj (0)) (oPI (zj (1)) (oINV2 X M_X9_lineBegins 9 (oALOAD 0 (oINV0 X M_X9_knownBit 9 (oISTORE 0 1 (oALOAD 0 (oGETI 9 9 (oPI (zj (5)) (oICEQ (J 38) (oALOAD 0 (oGETR 9 4 (oGETR 8 10 (oILOAD 1 (oIALD (oPI (zj (-2)) (oICEQ (J 38) (oALOAD 0 (oPI (zj (3)) (oINV1 X M_X9_flaw 9 (J 38)))))))))))))))))))))
set_option maxRecDepth 100000 in
theorem vb_X9_readWant_0 {X : Nat × (Nat → Int32)} {R : zRt} : ∀ ls st h, B_X9_readWant_0 X (zV X M_X9_readWant (zQm M_X9_readWant R) 0 0) R ls st h → zV X M_X9_readWant (zQm M_X9_readWant R) 0 0 0 ls st h := sd_aload_n dX9_readWant_0 rfl (sd_iconst dX9_readWant_1 rfl (sd_iconst dX9_readWant_2 rfl (sd_inv2 dX9_readWant_3 rfl mv_X9_lineBegins na_X9_lineBegins ml_RX9_209 ⟨⟨Nat.le_of_ble_eq_true rfl, Nat.le_of_ble_eq_true rfl⟩, ⟨Nat.le_of_ble_eq_true rfl, Nat.le_of_ble_eq_true rfl⟩⟩ (sd_aload_n dX9_readWant_6 rfl (sd_inv0 dX9_readWant_7 rfl mv_X9_knownBit na_X9_knownBit ml_RX9_244 ⟨⟨Nat.le_of_ble_eq_true rfl, Nat.le_of_ble_eq_true rfl⟩, ⟨Nat.le_of_ble_eq_true rfl, Nat.le_of_ble_eq_true rfl⟩⟩ (sd_istore_n dX9_readWant_10 rfl (Nat.le_of_ble_eq_true rfl) (Or.inl rfl) (sd_aload_n dX9_readWant_11 rfl (sd_geti dX9_readWant_12 zCl9 (Nat.le_of_ble_eq_true rfl) lk_RX9_68 (Or.inl rfl) (sd_iconst dX9_readWant_15 rfl (sd_iceq dX9_readWant_16 rfl (fun _ _ _ h => h) (sd_aload_n dX9_readWant_19 rfl (sd_getr dX9_readWant_20 zCl9 (Nat.le_of_ble_eq_true rfl) lk_RX9_144 (Or.inl ⟨_, rfl⟩) (sd_getr dX9_readWant_23 zCl8 (Nat.le_of_ble_eq_true rfl) lk_RX9_240 (Or.inr ⟨_, rfl⟩) (sd_iload_n dX9_readWant_26 rfl (sd_iald dX9_readWant_27 (sd_bipush dX9_readWant_28 rfl (sd_iceq dX9_readWant_30 rfl (fun _ _ _ h => h) (sd_aload_n dX9_readWant_33 rfl (sd_iconst dX9_readWant_34 rfl (sd_inv1 dX9_readWant_35 rfl mv_X9_flaw na_X9_flaw ml_RX9_111 ⟨⟨Nat.le_of_ble_eq_true rfl, Nat.le_of_ble_eq_true rfl⟩, ⟨Nat.le_of_ble_eq_true rfl, Nat.le_of_ble_eq_true rfl⟩⟩ (fun _ _ _ h => h)))))))))))))))))))))
def B_X9_readWant_38 (X : Nat × (Nat → Int32)) (J : Nat → zCf) (R : zRt) : zCf := oALOAD 0 (oINV0 X M_X9_goesOn 9 (oALOAD 0 (oPS 12 (oPI (zj (0)) (oPI (zj (11)) (oINV3 X M_X9_readPart 9 (oISTORE 1 2 (oALOAD 0 (oGETI 9 9 (oPI (zj (5)) (oICNE (J 61) (oVRET R))))))))))))
set_option maxRecDepth 100000 in
theorem vb_X9_readWant_38 {X : Nat × (Nat → Int32)} {R : zRt} : ∀ ls st h, B_X9_readWant_38 X (zV X M_X9_readWant (zQm M_X9_readWant R) 0 0) R ls st h → zV X M_X9_readWant (zQm M_X9_readWant R) 0 0 38 ls st h := sd_aload_n dX9_readWant_38 rfl (sd_inv0 dX9_readWant_39 rfl mv_X9_goesOn na_X9_goesOn ml_RX9_104 ⟨⟨Nat.le_of_ble_eq_true rfl, Nat.le_of_ble_eq_true rfl⟩, ⟨Nat.le_of_ble_eq_true rfl, Nat.le_of_ble_eq_true rfl⟩⟩ (sd_aload_n dX9_readWant_42 rfl (sd_ldcs dX9_readWant_43 rfl rfl (sd_iconst dX9_readWant_45 rfl (sd_bipush dX9_readWant_46 rfl (sd_inv3 dX9_readWant_48 rfl mv_X9_readPart na_X9_readPart ml_RX9_205 ⟨⟨Nat.le_of_ble_eq_true rfl, Nat.le_of_ble_eq_true rfl⟩, ⟨Nat.le_of_ble_eq_true rfl, Nat.le_of_ble_eq_true rfl⟩⟩ (sd_istore_n dX9_readWant_51 rfl (Nat.le_of_ble_eq_true rfl) (Or.inl rfl) (sd_aload_n dX9_readWant_52 rfl (sd_geti dX9_readWant_53 zCl9 (Nat.le_of_ble_eq_true rfl) lk_RX9_68 (Or.inl rfl) (sd_iconst dX9_readWant_56 rfl (sd_icne dX9_readWant_57 rfl (fun _ _ _ h => h) (sd_vret dX9_readWant_60 rfl (Nat.le_of_ble_eq_true rfl) (Nat.le_of_ble_eq_true rfl)))))))))))))
def B_X9_readWant_61 (X : Nat × (Nat → Int32)) (J : Nat → zCf) (R : zRt) : zCf := oALOAD 0 (oGETR 9 4 (oGETR 8 10 (oILOAD 1 (oILOAD 2 (oIAST (oALOAD 0 (oGETR 9 4 (oDUP (oGETI 8 2 (oPI (zj (1)) (oIADD (oPUTI 8 2 (oVRET R)))))))))))))
set_option maxRecDepth 100000 in
theorem vb_X9_readWant_61 {X : Nat × (Nat → Int32)} {R : zRt} : ∀ ls st h, B_X9_readWant_61 X (zV X M_X9_readWant (zQm M_X9_readWant R) 0 0) R ls st h → zV X M_X9_readWant (zQm M_X9_readWant R) 0 0 61 ls st h := sd_aload_n dX9_readWant_61 rfl (sd_getr dX9_readWant_62 zCl9 (Nat.le_of_ble_eq_true rfl) lk_RX9_144 (Or.inl ⟨_, rfl⟩) (sd_getr dX9_readWant_65 zCl8 (Nat.le_of_ble_eq_true rfl) lk_RX9_240 (Or.inr ⟨_, rfl⟩) (sd_iload_n dX9_readWant_68 rfl (sd_iload_n dX9_readWant_69 rfl (sd_iast dX9_readWant_70 (sd_aload_n dX9_readWant_71 rfl (sd_getr dX9_readWant_72 zCl9 (Nat.le_of_ble_eq_true rfl) lk_RX9_144 (Or.inl ⟨_, rfl⟩) (sd_dup dX9_readWant_75 (sd_geti dX9_readWant_76 zCl8 (Nat.le_of_ble_eq_true rfl) lk_RX9_247 (Or.inl rfl) (sd_iconst dX9_readWant_79 rfl (sd_iadd dX9_readWant_80 (sd_puti dX9_readWant_81 zCl8 (Nat.le_of_ble_eq_true rfl) lk_RX9_247 rfl (Or.inl rfl) (sd_vret dX9_readWant_84 rfl (Nat.le_of_ble_eq_true rfl) (Nat.le_of_ble_eq_true rfl))))))))))))))
theorem dX9_readAfter_0 : decode cX9_readAfter 0 = .ok (.aload_n 0, 1) := by decide +kernel
theorem dX9_readAfter_1 : decode cX9_readAfter 1 = .ok (.iconst 0, 1) := by decide +kernel
theorem dX9_readAfter_2 : decode cX9_readAfter 2 = .ok (.iconst 1, 1) := by decide +kernel
theorem dX9_readAfter_3 : decode cX9_readAfter 3 = .ok (.invokevirtual 209, 3) := by decide +kernel
theorem dX9_readAfter_6 : decode cX9_readAfter 6 = .ok (.aload_n 0, 1) := by decide +kernel
theorem dX9_readAfter_7 : decode cX9_readAfter 7 = .ok (.invokevirtual 244, 3) := by decide +kernel
theorem dX9_readAfter_10 : decode cX9_readAfter 10 = .ok (.istore_n 1, 1) := by decide +kernel
theorem dX9_readAfter_11 : decode cX9_readAfter 11 = .ok (.aload_n 0, 1) := by decide +kernel
theorem dX9_readAfter_12 : decode cX9_readAfter 12 = .ok (.getfield 68, 3) := by decide +kernel
theorem dX9_readAfter_15 : decode cX9_readAfter 15 = .ok (.iconst 5, 1) := by decide +kernel
theorem dX9_readAfter_16 : decode cX9_readAfter 16 = .ok (.if_icmp .eq 22, 3) := by decide +kernel
theorem dX9_readAfter_19 : decode cX9_readAfter 19 = .ok (.aload_n 0, 1) := by decide +kernel
theorem dX9_readAfter_20 : decode cX9_readAfter 20 = .ok (.getfield 144, 3) := by decide +kernel
theorem dX9_readAfter_23 : decode cX9_readAfter 23 = .ok (.getfield 242, 3) := by decide +kernel
theorem dX9_readAfter_26 : decode cX9_readAfter 26 = .ok (.iload_n 1, 1) := by decide +kernel
theorem dX9_readAfter_27 : decode cX9_readAfter 27 = .ok (.iaload, 1) := by decide +kernel
theorem dX9_readAfter_28 : decode cX9_readAfter 28 = .ok (.bipush (-2), 2) := by decide +kernel
theorem dX9_readAfter_30 : decode cX9_readAfter 30 = .ok (.if_icmp .eq 8, 3) := by decide +kernel
theorem dX9_readAfter_33 : decode cX9_readAfter 33 = .ok (.aload_n 0, 1) := by decide +kernel
theorem dX9_readAfter_34 : decode cX9_readAfter 34 = .ok (.iconst 3, 1) := by decide +kernel
theorem dX9_readAfter_35 : decode cX9_readAfter 35 = .ok (.invokevirtual 111, 3) := by decide +kernel
theorem dX9_readAfter_38 : decode cX9_readAfter 38 = .ok (.aload_n 0, 1) := by decide +kernel
theorem dX9_readAfter_39 : decode cX9_readAfter 39 = .ok (.invokevirtual 104, 3) := by decide +kernel
theorem dX9_readAfter_42 : decode cX9_readAfter 42 = .ok (.aload_n 0, 1) := by decide +kernel
theorem dX9_readAfter_43 : decode cX9_readAfter 43 = .ok (.ldc 228, 2) := by decide +kernel
theorem dX9_readAfter_45 : decode cX9_readAfter 45 = .ok (.iconst 0, 1) := by decide +kernel
theorem dX9_readAfter_46 : decode cX9_readAfter 46 = .ok (.bipush 11, 2) := by decide +kernel
theorem dX9_readAfter_48 : decode cX9_readAfter 48 = .ok (.invokevirtual 205, 3) := by decide +kernel
theorem dX9_readAfter_51 : decode cX9_readAfter 51 = .ok (.istore_n 2, 1) := by decide +kernel
theorem dX9_readAfter_52 : decode cX9_readAfter 52 = .ok (.aload_n 0, 1) := by decide +kernel
theorem dX9_readAfter_53 : decode cX9_readAfter 53 = .ok (.getfield 68, 3) := by decide +kernel
theorem dX9_readAfter_56 : decode cX9_readAfter 56 = .ok (.iconst 5, 1) := by decide +kernel
theorem dX9_readAfter_57 : decode cX9_readAfter 57 = .ok (.if_icmp .ne 4, 3) := by decide +kernel
theorem dX9_readAfter_60 : decode cX9_readAfter 60 = .ok (.return_, 1) := by decide +kernel
theorem dX9_readAfter_61 : decode cX9_readAfter 61 = .ok (.aload_n 0, 1) := by decide +kernel
theorem dX9_readAfter_62 : decode cX9_readAfter 62 = .ok (.getfield 144, 3) := by decide +kernel
theorem dX9_readAfter_65 : decode cX9_readAfter 65 = .ok (.getfield 242, 3) := by decide +kernel
theorem dX9_readAfter_68 : decode cX9_readAfter 68 = .ok (.iload_n 1, 1) := by decide +kernel
theorem dX9_readAfter_69 : decode cX9_readAfter 69 = .ok (.iload_n 2, 1) := by decide +kernel
theorem dX9_readAfter_70 : decode cX9_readAfter 70 = .ok (.iastore, 1) := by decide +kernel
theorem dX9_readAfter_71 : decode cX9_readAfter 71 = .ok (.aload_n 0, 1) := by decide +kernel
theorem dX9_readAfter_72 : decode cX9_readAfter 72 = .ok (.getfield 144, 3) := by decide +kernel
theorem dX9_readAfter_75 : decode cX9_readAfter 75 = .ok (.dup, 1) := by decide +kernel
theorem dX9_readAfter_76 : decode cX9_readAfter 76 = .ok (.getfield 250, 3) := by decide +kernel
theorem dX9_readAfter_79 : decode cX9_readAfter 79 = .ok (.iconst 1, 1) := by decide +kernel
theorem dX9_readAfter_80 : decode cX9_readAfter 80 = .ok (.iadd, 1) := by decide +kernel
theorem dX9_readAfter_81 : decode cX9_readAfter 81 = .ok (.putfield 250, 3) := by decide +kernel
theorem dX9_readAfter_84 : decode cX9_readAfter 84 = .ok (.return_, 1) := by decide +kernel
def B_X9_readAfter_0 (X : Nat × (Nat → Int32)) (J : Nat → zCf) (R : zRt) : zCf := oALOAD 0 (oPI (zj (0)) (oPI (zj (1)) (oINV2 X M_X9_lineBegins 9 (oALOAD 0 (oINV0 X M_X9_knownBit 9 (oISTORE 0 1 (oALOAD 0 (oGETI 9 9 (oPI (zj (5)) (oICEQ (J 38) (oALOAD 0 (oGETR 9 4 (oGETR 8 11 (oILOAD 1 (oIALD (oPI (zj (-2)) (oICEQ (J 38) (oALOAD 0 (oPI (zj (3)) (oINV1 X M_X9_flaw 9 (J 38)))))))))))))))))))))
set_option maxRecDepth 100000 in
theorem vb_X9_readAfter_0 {X : Nat × (Nat → Int32)} {R : zRt} : ∀ ls st h, B_X9_readAfter_0 X (zV X M_X9_readAfter (zQm M_X9_readAfter R) 0 0) R ls st h → zV X M_X9_readAfter (zQm M_X9_readAfter R) 0 0 0 ls st h := sd_aload_n dX9_readAfter_0 rfl (sd_iconst dX9_readAfter_1 rfl (sd_iconst dX9_readAfter_2 rfl (sd_inv2 dX9_readAfter_3 rfl mv_X9_lineBegins na_X9_lineBegins ml_RX9_209 ⟨⟨Nat.le_of_ble_eq_true rfl, Nat.le_of_ble_eq_true rfl⟩, ⟨Nat.le_of_ble_eq_true rfl, Nat.le_of_ble_eq_true rfl⟩⟩ (sd_aload_n dX9_readAfter_6 rfl (sd_inv0 dX9_readAfter_7 rfl mv_X9_knownBit na_X9_knownBit ml_RX9_244 ⟨⟨Nat.le_of_ble_eq_true rfl, Nat.le_of_ble_eq_true rfl⟩, ⟨Nat.le_of_ble_eq_true rfl, Nat.le_of_ble_eq_true rfl⟩⟩ (sd_istore_n dX9_readAfter_10 rfl (Nat.le_of_ble_eq_true rfl) (Or.inl rfl) (sd_aload_n dX9_readAfter_11 rfl (sd_geti dX9_readAfter_12 zCl9 (Nat.le_of_ble_eq_true rfl) lk_RX9_68 (Or.inl rfl) (sd_iconst dX9_readAfter_15 rfl (sd_iceq dX9_readAfter_16 rfl (fun _ _ _ h => h) (sd_aload_n dX9_readAfter_19 rfl (sd_getr dX9_readAfter_20 zCl9 (Nat.le_of_ble_eq_true rfl) lk_RX9_144 (Or.inl ⟨_, rfl⟩) (sd_getr dX9_readAfter_23 zCl8 (Nat.le_of_ble_eq_true rfl) lk_RX9_242 (Or.inr ⟨_, rfl⟩) (sd_iload_n dX9_readAfter_26 rfl (sd_iald dX9_readAfter_27 (sd_bipush dX9_readAfter_28 rfl (sd_iceq dX9_readAfter_30 rfl (fun _ _ _ h => h) (sd_aload_n dX9_readAfter_33 rfl (sd_iconst dX9_readAfter_34 rfl (sd_inv1 dX9_readAfter_35 rfl mv_X9_flaw na_X9_flaw ml_RX9_111 ⟨⟨Nat.le_of_ble_eq_true rfl, Nat.le_of_ble_eq_true rfl⟩, ⟨Nat.le_of_ble_eq_true rfl, Nat.le_of_ble_eq_true rfl⟩⟩ (fun _ _ _ h => h)))))))))))))))))))))
def B_X9_readAfter_38 (X : Nat × (Nat → Int32)) (J : Nat → zCf) (R : zRt) : zCf := oALOAD 0 (oINV0 X M_X9_goesOn 9 (oALOAD 0 (oPS 12 (oPI (zj (0)) (oPI (zj (11)) (oINV3 X M_X9_readPart 9 (oISTORE 1 2 (oALOAD 0 (oGETI 9 9 (oPI (zj (5)) (oICNE (J 61) (oVRET R))))))))))))
set_option maxRecDepth 100000 in
theorem vb_X9_readAfter_38 {X : Nat × (Nat → Int32)} {R : zRt} : ∀ ls st h, B_X9_readAfter_38 X (zV X M_X9_readAfter (zQm M_X9_readAfter R) 0 0) R ls st h → zV X M_X9_readAfter (zQm M_X9_readAfter R) 0 0 38 ls st h := sd_aload_n dX9_readAfter_38 rfl (sd_inv0 dX9_readAfter_39 rfl mv_X9_goesOn na_X9_goesOn ml_RX9_104 ⟨⟨Nat.le_of_ble_eq_true rfl, Nat.le_of_ble_eq_true rfl⟩, ⟨Nat.le_of_ble_eq_true rfl, Nat.le_of_ble_eq_true rfl⟩⟩ (sd_aload_n dX9_readAfter_42 rfl (sd_ldcs dX9_readAfter_43 rfl rfl (sd_iconst dX9_readAfter_45 rfl (sd_bipush dX9_readAfter_46 rfl (sd_inv3 dX9_readAfter_48 rfl mv_X9_readPart na_X9_readPart ml_RX9_205 ⟨⟨Nat.le_of_ble_eq_true rfl, Nat.le_of_ble_eq_true rfl⟩, ⟨Nat.le_of_ble_eq_true rfl, Nat.le_of_ble_eq_true rfl⟩⟩ (sd_istore_n dX9_readAfter_51 rfl (Nat.le_of_ble_eq_true rfl) (Or.inl rfl) (sd_aload_n dX9_readAfter_52 rfl (sd_geti dX9_readAfter_53 zCl9 (Nat.le_of_ble_eq_true rfl) lk_RX9_68 (Or.inl rfl) (sd_iconst dX9_readAfter_56 rfl (sd_icne dX9_readAfter_57 rfl (fun _ _ _ h => h) (sd_vret dX9_readAfter_60 rfl (Nat.le_of_ble_eq_true rfl) (Nat.le_of_ble_eq_true rfl)))))))))))))
def B_X9_readAfter_61 (X : Nat × (Nat → Int32)) (J : Nat → zCf) (R : zRt) : zCf := oALOAD 0 (oGETR 9 4 (oGETR 8 11 (oILOAD 1 (oILOAD 2 (oIAST (oALOAD 0 (oGETR 9 4 (oDUP (oGETI 8 3 (oPI (zj (1)) (oIADD (oPUTI 8 3 (oVRET R)))))))))))))
set_option maxRecDepth 100000 in
theorem vb_X9_readAfter_61 {X : Nat × (Nat → Int32)} {R : zRt} : ∀ ls st h, B_X9_readAfter_61 X (zV X M_X9_readAfter (zQm M_X9_readAfter R) 0 0) R ls st h → zV X M_X9_readAfter (zQm M_X9_readAfter R) 0 0 61 ls st h := sd_aload_n dX9_readAfter_61 rfl (sd_getr dX9_readAfter_62 zCl9 (Nat.le_of_ble_eq_true rfl) lk_RX9_144 (Or.inl ⟨_, rfl⟩) (sd_getr dX9_readAfter_65 zCl8 (Nat.le_of_ble_eq_true rfl) lk_RX9_242 (Or.inr ⟨_, rfl⟩) (sd_iload_n dX9_readAfter_68 rfl (sd_iload_n dX9_readAfter_69 rfl (sd_iast dX9_readAfter_70 (sd_aload_n dX9_readAfter_71 rfl (sd_getr dX9_readAfter_72 zCl9 (Nat.le_of_ble_eq_true rfl) lk_RX9_144 (Or.inl ⟨_, rfl⟩) (sd_dup dX9_readAfter_75 (sd_geti dX9_readAfter_76 zCl8 (Nat.le_of_ble_eq_true rfl) lk_RX9_250 (Or.inl rfl) (sd_iconst dX9_readAfter_79 rfl (sd_iadd dX9_readAfter_80 (sd_puti dX9_readAfter_81 zCl8 (Nat.le_of_ble_eq_true rfl) lk_RX9_250 rfl (Or.inl rfl) (sd_vret dX9_readAfter_84 rfl (Nat.le_of_ble_eq_true rfl) (Nat.le_of_ble_eq_true rfl))))))))))))))
theorem dX9_readMet_0 : decode cX9_readMet 0 = .ok (.aload_n 0, 1) := by decide +kernel
theorem dX9_readMet_1 : decode cX9_readMet 1 = .ok (.aload_n 0, 1) := by decide +kernel
theorem dX9_readMet_2 : decode cX9_readMet 2 = .ok (.getfield 144, 3) := by decide +kernel
theorem dX9_readMet_5 : decode cX9_readMet 5 = .ok (.getfield 253, 3) := by decide +kernel
theorem dX9_readMet_8 : decode cX9_readMet 8 = .ok (.bipush 6, 2) := by decide +kernel
theorem dX9_readMet_10 : decode cX9_readMet 10 = .ok (.invokevirtual 209, 3) := by decide +kernel
theorem dX9_readMet_13 : decode cX9_readMet 13 = .ok (.aload_n 0, 1) := by decide +kernel
theorem dX9_readMet_14 : decode cX9_readMet 14 = .ok (.iconst 0, 1) := by decide +kernel
theorem dX9_readMet_15 : decode cX9_readMet 15 = .ok (.bipush 11, 2) := by decide +kernel
theorem dX9_readMet_17 : decode cX9_readMet 17 = .ok (.invokevirtual 119, 3) := by decide +kernel
theorem dX9_readMet_20 : decode cX9_readMet 20 = .ok (.istore_n 1, 1) := by decide +kernel
theorem dX9_readMet_21 : decode cX9_readMet 21 = .ok (.aload_n 0, 1) := by decide +kernel
theorem dX9_readMet_22 : decode cX9_readMet 22 = .ok (.getfield 68, 3) := by decide +kernel
theorem dX9_readMet_25 : decode cX9_readMet 25 = .ok (.iconst 5, 1) := by decide +kernel
theorem dX9_readMet_26 : decode cX9_readMet 26 = .ok (.if_icmp .eq 19, 3) := by decide +kernel
theorem dX9_readMet_29 : decode cX9_readMet 29 = .ok (.aload_n 0, 1) := by decide +kernel
theorem dX9_readMet_30 : decode cX9_readMet 30 = .ok (.getfield 144, 3) := by decide +kernel
theorem dX9_readMet_33 : decode cX9_readMet 33 = .ok (.iload_n 1, 1) := by decide +kernel
theorem dX9_readMet_34 : decode cX9_readMet 34 = .ok (.invokevirtual 255, 3) := by decide +kernel
theorem dX9_readMet_37 : decode cX9_readMet 37 = .ok (.ifCond .eq 8, 3) := by decide +kernel
theorem dX9_readMet_40 : decode cX9_readMet 40 = .ok (.aload_n 0, 1) := by decide +kernel
theorem dX9_readMet_41 : decode cX9_readMet 41 = .ok (.iconst 3, 1) := by decide +kernel
theorem dX9_readMet_42 : decode cX9_readMet 42 = .ok (.invokevirtual 111, 3) := by decide +kernel
theorem dX9_readMet_45 : decode cX9_readMet 45 = .ok (.aload_n 0, 1) := by decide +kernel
theorem dX9_readMet_46 : decode cX9_readMet 46 = .ok (.invokevirtual 104, 3) := by decide +kernel
theorem dX9_readMet_49 : decode cX9_readMet 49 = .ok (.aload_n 0, 1) := by decide +kernel
theorem dX9_readMet_50 : decode cX9_readMet 50 = .ok (.invokevirtual 225, 3) := by decide +kernel
theorem dX9_readMet_53 : decode cX9_readMet 53 = .ok (.lstore_n 2, 1) := by decide +kernel
theorem dX9_readMet_54 : decode cX9_readMet 54 = .ok (.aload_n 0, 1) := by decide +kernel
theorem dX9_readMet_55 : decode cX9_readMet 55 = .ok (.getfield 68, 3) := by decide +kernel
theorem dX9_readMet_58 : decode cX9_readMet 58 = .ok (.iconst 5, 1) := by decide +kernel
theorem dX9_readMet_59 : decode cX9_readMet 59 = .ok (.if_icmp .ne 4, 3) := by decide +kernel
theorem dX9_readMet_62 : decode cX9_readMet 62 = .ok (.return_, 1) := by decide +kernel
theorem dX9_readMet_63 : decode cX9_readMet 63 = .ok (.aload_n 0, 1) := by decide +kernel
theorem dX9_readMet_64 : decode cX9_readMet 64 = .ok (.getfield 144, 3) := by decide +kernel
theorem dX9_readMet_67 : decode cX9_readMet 67 = .ok (.getfield 258, 3) := by decide +kernel
theorem dX9_readMet_70 : decode cX9_readMet 70 = .ok (.aload_n 0, 1) := by decide +kernel
theorem dX9_readMet_71 : decode cX9_readMet 71 = .ok (.getfield 144, 3) := by decide +kernel
theorem dX9_readMet_74 : decode cX9_readMet 74 = .ok (.getfield 253, 3) := by decide +kernel
theorem dX9_readMet_77 : decode cX9_readMet 77 = .ok (.iload_n 1, 1) := by decide +kernel
theorem dX9_readMet_78 : decode cX9_readMet 78 = .ok (.iastore, 1) := by decide +kernel
theorem dX9_readMet_79 : decode cX9_readMet 79 = .ok (.aload_n 0, 1) := by decide +kernel
theorem dX9_readMet_80 : decode cX9_readMet 80 = .ok (.getfield 144, 3) := by decide +kernel
theorem dX9_readMet_83 : decode cX9_readMet 83 = .ok (.getfield 261, 3) := by decide +kernel
theorem dX9_readMet_86 : decode cX9_readMet 86 = .ok (.aload_n 0, 1) := by decide +kernel
theorem dX9_readMet_87 : decode cX9_readMet 87 = .ok (.getfield 144, 3) := by decide +kernel
theorem dX9_readMet_90 : decode cX9_readMet 90 = .ok (.getfield 253, 3) := by decide +kernel
theorem dX9_readMet_93 : decode cX9_readMet 93 = .ok (.lload_n 2, 1) := by decide +kernel
theorem dX9_readMet_94 : decode cX9_readMet 94 = .ok (.lastore, 1) := by decide +kernel
theorem dX9_readMet_95 : decode cX9_readMet 95 = .ok (.aload_n 0, 1) := by decide +kernel
theorem dX9_readMet_96 : decode cX9_readMet 96 = .ok (.getfield 144, 3) := by decide +kernel
theorem dX9_readMet_99 : decode cX9_readMet 99 = .ok (.dup, 1) := by decide +kernel
theorem dX9_readMet_100 : decode cX9_readMet 100 = .ok (.getfield 253, 3) := by decide +kernel
theorem dX9_readMet_103 : decode cX9_readMet 103 = .ok (.iconst 1, 1) := by decide +kernel
theorem dX9_readMet_104 : decode cX9_readMet 104 = .ok (.iadd, 1) := by decide +kernel
theorem dX9_readMet_105 : decode cX9_readMet 105 = .ok (.putfield 253, 3) := by decide +kernel
theorem dX9_readMet_108 : decode cX9_readMet 108 = .ok (.return_, 1) := by decide +kernel
def B_X9_readMet_0 (X : Nat × (Nat → Int32)) (J : Nat → zCf) (R : zRt) : zCf := oALOAD 0 (oALOAD 0 (oGETR 9 4 (oGETI 8 4 (oPI (zj (6)) (oINV2 X M_X9_lineBegins 9 (oALOAD 0 (oPI (zj (0)) (oPI (zj (11)) (oINV2 X M_X9_bounded 9 (oISTORE 0 1 (oALOAD 0 (oGETI 9 9 (oPI (zj (5)) (oICEQ (J 45) (oALOAD 0 (oGETR 9 4 (oILOAD 1 (oINV1 X M_X8_isMet 8 (oIFEQ (J 45) (oALOAD 0 (oPI (zj (3)) (oINV1 X M_X9_flaw 9 (J 45)))))))))))))))))))))))
set_option maxRecDepth 100000 in
theorem vb_X9_readMet_0 {X : Nat × (Nat → Int32)} {R : zRt} : ∀ ls st h, B_X9_readMet_0 X (zV X M_X9_readMet (zQm M_X9_readMet R) 0 0) R ls st h → zV X M_X9_readMet (zQm M_X9_readMet R) 0 0 0 ls st h := sd_aload_n dX9_readMet_0 rfl (sd_aload_n dX9_readMet_1 rfl (sd_getr dX9_readMet_2 zCl9 (Nat.le_of_ble_eq_true rfl) lk_RX9_144 (Or.inl ⟨_, rfl⟩) (sd_geti dX9_readMet_5 zCl8 (Nat.le_of_ble_eq_true rfl) lk_RX9_253 (Or.inl rfl) (sd_bipush dX9_readMet_8 rfl (sd_inv2 dX9_readMet_10 rfl mv_X9_lineBegins na_X9_lineBegins ml_RX9_209 ⟨⟨Nat.le_of_ble_eq_true rfl, Nat.le_of_ble_eq_true rfl⟩, ⟨Nat.le_of_ble_eq_true rfl, Nat.le_of_ble_eq_true rfl⟩⟩ (sd_aload_n dX9_readMet_13 rfl (sd_iconst dX9_readMet_14 rfl (sd_bipush dX9_readMet_15 rfl (sd_inv2 dX9_readMet_17 rfl mv_X9_bounded na_X9_bounded ml_RX9_119 ⟨⟨Nat.le_of_ble_eq_true rfl, Nat.le_of_ble_eq_true rfl⟩, ⟨Nat.le_of_ble_eq_true rfl, Nat.le_of_ble_eq_true rfl⟩⟩ (sd_istore_n dX9_readMet_20 rfl (Nat.le_of_ble_eq_true rfl) (Or.inl rfl) (sd_aload_n dX9_readMet_21 rfl (sd_geti dX9_readMet_22 zCl9 (Nat.le_of_ble_eq_true rfl) lk_RX9_68 (Or.inl rfl) (sd_iconst dX9_readMet_25 rfl (sd_iceq dX9_readMet_26 rfl (fun _ _ _ h => h) (sd_aload_n dX9_readMet_29 rfl (sd_getr dX9_readMet_30 zCl9 (Nat.le_of_ble_eq_true rfl) lk_RX9_144 (Or.inl ⟨_, rfl⟩) (sd_iload_n dX9_readMet_33 rfl (sd_inv1 dX9_readMet_34 rfl mv_X8_isMet na_X8_isMet ml_RX9_255 ⟨⟨Nat.le_of_ble_eq_true rfl, Nat.le_of_ble_eq_true rfl⟩, ⟨Nat.le_of_ble_eq_true rfl, Nat.le_of_ble_eq_true rfl⟩⟩ (sd_ifeq dX9_readMet_37 rfl (fun _ _ _ h => h) (sd_aload_n dX9_readMet_40 rfl (sd_iconst dX9_readMet_41 rfl (sd_inv1 dX9_readMet_42 rfl mv_X9_flaw na_X9_flaw ml_RX9_111 ⟨⟨Nat.le_of_ble_eq_true rfl, Nat.le_of_ble_eq_true rfl⟩, ⟨Nat.le_of_ble_eq_true rfl, Nat.le_of_ble_eq_true rfl⟩⟩ (fun _ _ _ h => h)))))))))))))))))))))))
def B_X9_readMet_45 (X : Nat × (Nat → Int32)) (J : Nat → zCf) (R : zRt) : zCf := oALOAD 0 (oINV0 X M_X9_goesOn 9 (oALOAD 0 (oINV0 X M_X9_readWord 9 (oLSTORE 1 2 (oALOAD 0 (oGETI 9 9 (oPI (zj (5)) (oICNE (J 63) (oVRET R)))))))))
set_option maxRecDepth 100000 in
theorem vb_X9_readMet_45 {X : Nat × (Nat → Int32)} {R : zRt} : ∀ ls st h, B_X9_readMet_45 X (zV X M_X9_readMet (zQm M_X9_readMet R) 0 0) R ls st h → zV X M_X9_readMet (zQm M_X9_readMet R) 0 0 45 ls st h := sd_aload_n dX9_readMet_45 rfl (sd_inv0 dX9_readMet_46 rfl mv_X9_goesOn na_X9_goesOn ml_RX9_104 ⟨⟨Nat.le_of_ble_eq_true rfl, Nat.le_of_ble_eq_true rfl⟩, ⟨Nat.le_of_ble_eq_true rfl, Nat.le_of_ble_eq_true rfl⟩⟩ (sd_aload_n dX9_readMet_49 rfl (sd_inv0 dX9_readMet_50 rfl mv_X9_readWord na_X9_readWord ml_RX9_225 ⟨⟨Nat.le_of_ble_eq_true rfl, Nat.le_of_ble_eq_true rfl⟩, ⟨Nat.le_of_ble_eq_true rfl, Nat.le_of_ble_eq_true rfl⟩⟩ (sd_lstore_n dX9_readMet_53 rfl (Nat.le_of_ble_eq_true rfl) (Or.inl rfl) (sd_aload_n dX9_readMet_54 rfl (sd_geti dX9_readMet_55 zCl9 (Nat.le_of_ble_eq_true rfl) lk_RX9_68 (Or.inl rfl) (sd_iconst dX9_readMet_58 rfl (sd_icne dX9_readMet_59 rfl (fun _ _ _ h => h) (sd_vret dX9_readMet_62 rfl (Nat.le_of_ble_eq_true rfl) (Nat.le_of_ble_eq_true rfl))))))))))
def B_X9_readMet_63 (X : Nat × (Nat → Int32)) (J : Nat → zCf) (R : zRt) : zCf := oALOAD 0 (oGETR 9 4 (oGETR 8 13 (oALOAD 0 (oGETR 9 4 (oGETI 8 4 (oILOAD 1 (oIAST (oALOAD 0 (oGETR 9 4 (oGETR 8 17 (oALOAD 0 (oGETR 9 4 (oGETI 8 4 (oLLOAD 2 (oLAST (oALOAD 0 (oGETR 9 4 (oDUP (oGETI 8 4 (oPI (zj (1)) (oIADD (oPUTI 8 4 (oVRET R)))))))))))))))))))))))
set_option maxRecDepth 100000 in
theorem vb_X9_readMet_63 {X : Nat × (Nat → Int32)} {R : zRt} : ∀ ls st h, B_X9_readMet_63 X (zV X M_X9_readMet (zQm M_X9_readMet R) 0 0) R ls st h → zV X M_X9_readMet (zQm M_X9_readMet R) 0 0 63 ls st h := sd_aload_n dX9_readMet_63 rfl (sd_getr dX9_readMet_64 zCl9 (Nat.le_of_ble_eq_true rfl) lk_RX9_144 (Or.inl ⟨_, rfl⟩) (sd_getr dX9_readMet_67 zCl8 (Nat.le_of_ble_eq_true rfl) lk_RX9_258 (Or.inr ⟨_, rfl⟩) (sd_aload_n dX9_readMet_70 rfl (sd_getr dX9_readMet_71 zCl9 (Nat.le_of_ble_eq_true rfl) lk_RX9_144 (Or.inl ⟨_, rfl⟩) (sd_geti dX9_readMet_74 zCl8 (Nat.le_of_ble_eq_true rfl) lk_RX9_253 (Or.inl rfl) (sd_iload_n dX9_readMet_77 rfl (sd_iast dX9_readMet_78 (sd_aload_n dX9_readMet_79 rfl (sd_getr dX9_readMet_80 zCl9 (Nat.le_of_ble_eq_true rfl) lk_RX9_144 (Or.inl ⟨_, rfl⟩) (sd_getr dX9_readMet_83 zCl8 (Nat.le_of_ble_eq_true rfl) lk_RX9_261 (Or.inr ⟨_, rfl⟩) (sd_aload_n dX9_readMet_86 rfl (sd_getr dX9_readMet_87 zCl9 (Nat.le_of_ble_eq_true rfl) lk_RX9_144 (Or.inl ⟨_, rfl⟩) (sd_geti dX9_readMet_90 zCl8 (Nat.le_of_ble_eq_true rfl) lk_RX9_253 (Or.inl rfl) (sd_lload_n dX9_readMet_93 rfl (sd_last dX9_readMet_94 (sd_aload_n dX9_readMet_95 rfl (sd_getr dX9_readMet_96 zCl9 (Nat.le_of_ble_eq_true rfl) lk_RX9_144 (Or.inl ⟨_, rfl⟩) (sd_dup dX9_readMet_99 (sd_geti dX9_readMet_100 zCl8 (Nat.le_of_ble_eq_true rfl) lk_RX9_253 (Or.inl rfl) (sd_iconst dX9_readMet_103 rfl (sd_iadd dX9_readMet_104 (sd_puti dX9_readMet_105 zCl8 (Nat.le_of_ble_eq_true rfl) lk_RX9_253 rfl (Or.inl rfl) (sd_vret dX9_readMet_108 rfl (Nat.le_of_ble_eq_true rfl) (Nat.le_of_ble_eq_true rfl))))))))))))))))))))))))
theorem dX9_readHoliday_0 : decode cX9_readHoliday 0 = .ok (.aload_n 0, 1) := by decide +kernel
theorem dX9_readHoliday_1 : decode cX9_readHoliday 1 = .ok (.aload_n 0, 1) := by decide +kernel
theorem dX9_readHoliday_2 : decode cX9_readHoliday 2 = .ok (.getfield 144, 3) := by decide +kernel
theorem dX9_readHoliday_5 : decode cX9_readHoliday 5 = .ok (.getfield 264, 3) := by decide +kernel
theorem dX9_readHoliday_8 : decode cX9_readHoliday 8 = .ok (.bipush 8, 2) := by decide +kernel
theorem dX9_readHoliday_10 : decode cX9_readHoliday 10 = .ok (.invokevirtual 209, 3) := by decide +kernel
theorem dX9_readHoliday_13 : decode cX9_readHoliday 13 = .ok (.aload_n 0, 1) := by decide +kernel
theorem dX9_readHoliday_14 : decode cX9_readHoliday 14 = .ok (.iconst 0, 1) := by decide +kernel
theorem dX9_readHoliday_15 : decode cX9_readHoliday 15 = .ok (.bipush 99, 2) := by decide +kernel
theorem dX9_readHoliday_17 : decode cX9_readHoliday 17 = .ok (.invokevirtual 119, 3) := by decide +kernel
theorem dX9_readHoliday_20 : decode cX9_readHoliday 20 = .ok (.istore_n 1, 1) := by decide +kernel
theorem dX9_readHoliday_21 : decode cX9_readHoliday 21 = .ok (.aload_n 0, 1) := by decide +kernel
theorem dX9_readHoliday_22 : decode cX9_readHoliday 22 = .ok (.getfield 68, 3) := by decide +kernel
theorem dX9_readHoliday_25 : decode cX9_readHoliday 25 = .ok (.iconst 5, 1) := by decide +kernel
theorem dX9_readHoliday_26 : decode cX9_readHoliday 26 = .ok (.if_icmp .eq 19, 3) := by decide +kernel
theorem dX9_readHoliday_29 : decode cX9_readHoliday 29 = .ok (.aload_n 0, 1) := by decide +kernel
theorem dX9_readHoliday_30 : decode cX9_readHoliday 30 = .ok (.getfield 144, 3) := by decide +kernel
theorem dX9_readHoliday_33 : decode cX9_readHoliday 33 = .ok (.iload_n 1, 1) := by decide +kernel
theorem dX9_readHoliday_34 : decode cX9_readHoliday 34 = .ok (.invokevirtual 267, 3) := by decide +kernel
theorem dX9_readHoliday_37 : decode cX9_readHoliday 37 = .ok (.ifCond .eq 8, 3) := by decide +kernel
theorem dX9_readHoliday_40 : decode cX9_readHoliday 40 = .ok (.aload_n 0, 1) := by decide +kernel
theorem dX9_readHoliday_41 : decode cX9_readHoliday 41 = .ok (.iconst 3, 1) := by decide +kernel
theorem dX9_readHoliday_42 : decode cX9_readHoliday 42 = .ok (.invokevirtual 111, 3) := by decide +kernel
theorem dX9_readHoliday_45 : decode cX9_readHoliday 45 = .ok (.aload_n 0, 1) := by decide +kernel
theorem dX9_readHoliday_46 : decode cX9_readHoliday 46 = .ok (.invokevirtual 104, 3) := by decide +kernel
theorem dX9_readHoliday_49 : decode cX9_readHoliday 49 = .ok (.aload_n 0, 1) := by decide +kernel
theorem dX9_readHoliday_50 : decode cX9_readHoliday 50 = .ok (.getfield 68, 3) := by decide +kernel
theorem dX9_readHoliday_53 : decode cX9_readHoliday 53 = .ok (.iconst 5, 1) := by decide +kernel
theorem dX9_readHoliday_54 : decode cX9_readHoliday 54 = .ok (.if_icmp .ne 4, 3) := by decide +kernel
theorem dX9_readHoliday_57 : decode cX9_readHoliday 57 = .ok (.return_, 1) := by decide +kernel
theorem dX9_readHoliday_58 : decode cX9_readHoliday 58 = .ok (.aload_n 0, 1) := by decide +kernel
theorem dX9_readHoliday_59 : decode cX9_readHoliday 59 = .ok (.getfield 144, 3) := by decide +kernel
theorem dX9_readHoliday_62 : decode cX9_readHoliday 62 = .ok (.getfield 270, 3) := by decide +kernel
theorem dX9_readHoliday_65 : decode cX9_readHoliday 65 = .ok (.aload_n 0, 1) := by decide +kernel
theorem dX9_readHoliday_66 : decode cX9_readHoliday 66 = .ok (.getfield 144, 3) := by decide +kernel
theorem dX9_readHoliday_69 : decode cX9_readHoliday 69 = .ok (.getfield 264, 3) := by decide +kernel
theorem dX9_readHoliday_72 : decode cX9_readHoliday 72 = .ok (.iload_n 1, 1) := by decide +kernel
theorem dX9_readHoliday_73 : decode cX9_readHoliday 73 = .ok (.iastore, 1) := by decide +kernel
theorem dX9_readHoliday_74 : decode cX9_readHoliday 74 = .ok (.aload_n 0, 1) := by decide +kernel
theorem dX9_readHoliday_75 : decode cX9_readHoliday 75 = .ok (.getfield 144, 3) := by decide +kernel
theorem dX9_readHoliday_78 : decode cX9_readHoliday 78 = .ok (.dup, 1) := by decide +kernel
theorem dX9_readHoliday_79 : decode cX9_readHoliday 79 = .ok (.getfield 264, 3) := by decide +kernel
theorem dX9_readHoliday_82 : decode cX9_readHoliday 82 = .ok (.iconst 1, 1) := by decide +kernel
theorem dX9_readHoliday_83 : decode cX9_readHoliday 83 = .ok (.iadd, 1) := by decide +kernel
theorem dX9_readHoliday_84 : decode cX9_readHoliday 84 = .ok (.putfield 264, 3) := by decide +kernel
theorem dX9_readHoliday_87 : decode cX9_readHoliday 87 = .ok (.return_, 1) := by decide +kernel
def B_X9_readHoliday_0 (X : Nat × (Nat → Int32)) (J : Nat → zCf) (R : zRt) : zCf := oALOAD 0 (oALOAD 0 (oGETR 9 4 (oGETI 8 5 (oPI (zj (8)) (oINV2 X M_X9_lineBegins 9 (oALOAD 0 (oPI (zj (0)) (oPI (zj (99)) (oINV2 X M_X9_bounded 9 (oISTORE 0 1 (oALOAD 0 (oGETI 9 9 (oPI (zj (5)) (oICEQ (J 45) (oALOAD 0 (oGETR 9 4 (oILOAD 1 (oINV1 X M_X8_isHoliday 8 (oIFEQ (J 45) (oALOAD 0 (oPI (zj (3)) (oINV1 X M_X9_flaw 9 (J 45)))))))))))))))))))))))
set_option maxRecDepth 100000 in
theorem vb_X9_readHoliday_0 {X : Nat × (Nat → Int32)} {R : zRt} : ∀ ls st h, B_X9_readHoliday_0 X (zV X M_X9_readHoliday (zQm M_X9_readHoliday R) 0 0) R ls st h → zV X M_X9_readHoliday (zQm M_X9_readHoliday R) 0 0 0 ls st h := sd_aload_n dX9_readHoliday_0 rfl (sd_aload_n dX9_readHoliday_1 rfl (sd_getr dX9_readHoliday_2 zCl9 (Nat.le_of_ble_eq_true rfl) lk_RX9_144 (Or.inl ⟨_, rfl⟩) (sd_geti dX9_readHoliday_5 zCl8 (Nat.le_of_ble_eq_true rfl) lk_RX9_264 (Or.inl rfl) (sd_bipush dX9_readHoliday_8 rfl (sd_inv2 dX9_readHoliday_10 rfl mv_X9_lineBegins na_X9_lineBegins ml_RX9_209 ⟨⟨Nat.le_of_ble_eq_true rfl, Nat.le_of_ble_eq_true rfl⟩, ⟨Nat.le_of_ble_eq_true rfl, Nat.le_of_ble_eq_true rfl⟩⟩ (sd_aload_n dX9_readHoliday_13 rfl (sd_iconst dX9_readHoliday_14 rfl (sd_bipush dX9_readHoliday_15 rfl (sd_inv2 dX9_readHoliday_17 rfl mv_X9_bounded na_X9_bounded ml_RX9_119 ⟨⟨Nat.le_of_ble_eq_true rfl, Nat.le_of_ble_eq_true rfl⟩, ⟨Nat.le_of_ble_eq_true rfl, Nat.le_of_ble_eq_true rfl⟩⟩ (sd_istore_n dX9_readHoliday_20 rfl (Nat.le_of_ble_eq_true rfl) (Or.inl rfl) (sd_aload_n dX9_readHoliday_21 rfl (sd_geti dX9_readHoliday_22 zCl9 (Nat.le_of_ble_eq_true rfl) lk_RX9_68 (Or.inl rfl) (sd_iconst dX9_readHoliday_25 rfl (sd_iceq dX9_readHoliday_26 rfl (fun _ _ _ h => h) (sd_aload_n dX9_readHoliday_29 rfl (sd_getr dX9_readHoliday_30 zCl9 (Nat.le_of_ble_eq_true rfl) lk_RX9_144 (Or.inl ⟨_, rfl⟩) (sd_iload_n dX9_readHoliday_33 rfl (sd_inv1 dX9_readHoliday_34 rfl mv_X8_isHoliday na_X8_isHoliday ml_RX9_267 ⟨⟨Nat.le_of_ble_eq_true rfl, Nat.le_of_ble_eq_true rfl⟩, ⟨Nat.le_of_ble_eq_true rfl, Nat.le_of_ble_eq_true rfl⟩⟩ (sd_ifeq dX9_readHoliday_37 rfl (fun _ _ _ h => h) (sd_aload_n dX9_readHoliday_40 rfl (sd_iconst dX9_readHoliday_41 rfl (sd_inv1 dX9_readHoliday_42 rfl mv_X9_flaw na_X9_flaw ml_RX9_111 ⟨⟨Nat.le_of_ble_eq_true rfl, Nat.le_of_ble_eq_true rfl⟩, ⟨Nat.le_of_ble_eq_true rfl, Nat.le_of_ble_eq_true rfl⟩⟩ (fun _ _ _ h => h)))))))))))))))))))))))
def B_X9_readHoliday_45 (X : Nat × (Nat → Int32)) (J : Nat → zCf) (R : zRt) : zCf := oALOAD 0 (oINV0 X M_X9_goesOn 9 (oALOAD 0 (oGETI 9 9 (oPI (zj (5)) (oICNE (J 58) (oVRET R))))))
set_option maxRecDepth 100000 in
theorem vb_X9_readHoliday_45 {X : Nat × (Nat → Int32)} {R : zRt} : ∀ ls st h, B_X9_readHoliday_45 X (zV X M_X9_readHoliday (zQm M_X9_readHoliday R) 0 0) R ls st h → zV X M_X9_readHoliday (zQm M_X9_readHoliday R) 0 0 45 ls st h := sd_aload_n dX9_readHoliday_45 rfl (sd_inv0 dX9_readHoliday_46 rfl mv_X9_goesOn na_X9_goesOn ml_RX9_104 ⟨⟨Nat.le_of_ble_eq_true rfl, Nat.le_of_ble_eq_true rfl⟩, ⟨Nat.le_of_ble_eq_true rfl, Nat.le_of_ble_eq_true rfl⟩⟩ (sd_aload_n dX9_readHoliday_49 rfl (sd_geti dX9_readHoliday_50 zCl9 (Nat.le_of_ble_eq_true rfl) lk_RX9_68 (Or.inl rfl) (sd_iconst dX9_readHoliday_53 rfl (sd_icne dX9_readHoliday_54 rfl (fun _ _ _ h => h) (sd_vret dX9_readHoliday_57 rfl (Nat.le_of_ble_eq_true rfl) (Nat.le_of_ble_eq_true rfl)))))))
def B_X9_readHoliday_58 (X : Nat × (Nat → Int32)) (J : Nat → zCf) (R : zRt) : zCf := oALOAD 0 (oGETR 9 4 (oGETR 8 14 (oALOAD 0 (oGETR 9 4 (oGETI 8 5 (oILOAD 1 (oIAST (oALOAD 0 (oGETR 9 4 (oDUP (oGETI 8 5 (oPI (zj (1)) (oIADD (oPUTI 8 5 (oVRET R)))))))))))))))
set_option maxRecDepth 100000 in
theorem vb_X9_readHoliday_58 {X : Nat × (Nat → Int32)} {R : zRt} : ∀ ls st h, B_X9_readHoliday_58 X (zV X M_X9_readHoliday (zQm M_X9_readHoliday R) 0 0) R ls st h → zV X M_X9_readHoliday (zQm M_X9_readHoliday R) 0 0 58 ls st h := sd_aload_n dX9_readHoliday_58 rfl (sd_getr dX9_readHoliday_59 zCl9 (Nat.le_of_ble_eq_true rfl) lk_RX9_144 (Or.inl ⟨_, rfl⟩) (sd_getr dX9_readHoliday_62 zCl8 (Nat.le_of_ble_eq_true rfl) lk_RX9_270 (Or.inr ⟨_, rfl⟩) (sd_aload_n dX9_readHoliday_65 rfl (sd_getr dX9_readHoliday_66 zCl9 (Nat.le_of_ble_eq_true rfl) lk_RX9_144 (Or.inl ⟨_, rfl⟩) (sd_geti dX9_readHoliday_69 zCl8 (Nat.le_of_ble_eq_true rfl) lk_RX9_264 (Or.inl rfl) (sd_iload_n dX9_readHoliday_72 rfl (sd_iast dX9_readHoliday_73 (sd_aload_n dX9_readHoliday_74 rfl (sd_getr dX9_readHoliday_75 zCl9 (Nat.le_of_ble_eq_true rfl) lk_RX9_144 (Or.inl ⟨_, rfl⟩) (sd_dup dX9_readHoliday_78 (sd_geti dX9_readHoliday_79 zCl8 (Nat.le_of_ble_eq_true rfl) lk_RX9_264 (Or.inl rfl) (sd_iconst dX9_readHoliday_82 rfl (sd_iadd dX9_readHoliday_83 (sd_puti dX9_readHoliday_84 zCl8 (Nat.le_of_ble_eq_true rfl) lk_RX9_264 rfl (Or.inl rfl) (sd_vret dX9_readHoliday_87 rfl (Nat.le_of_ble_eq_true rfl) (Nat.le_of_ble_eq_true rfl))))))))))))))))
theorem dX9_readPerson_0 : decode cX9_readPerson 0 = .ok (.aload_n 0, 1) := by decide +kernel
theorem dX9_readPerson_1 : decode cX9_readPerson 1 = .ok (.aload_n 0, 1) := by decide +kernel
theorem dX9_readPerson_2 : decode cX9_readPerson 2 = .ok (.getfield 144, 3) := by decide +kernel
theorem dX9_readPerson_5 : decode cX9_readPerson 5 = .ok (.getfield 272, 3) := by decide +kernel
theorem dX9_readPerson_8 : decode cX9_readPerson 8 = .ok (.iconst 4, 1) := by decide +kernel
theorem dX9_readPerson_9 : decode cX9_readPerson 9 = .ok (.invokevirtual 209, 3) := by decide +kernel
theorem dX9_readPerson_12 : decode cX9_readPerson 12 = .ok (.aload_n 0, 1) := by decide +kernel
theorem dX9_readPerson_13 : decode cX9_readPerson 13 = .ok (.invokevirtual 213, 3) := by decide +kernel
theorem dX9_readPerson_16 : decode cX9_readPerson 16 = .ok (.lstore_n 1, 1) := by decide +kernel
theorem dX9_readPerson_17 : decode cX9_readPerson 17 = .ok (.aload_n 0, 1) := by decide +kernel
theorem dX9_readPerson_18 : decode cX9_readPerson 18 = .ok (.ldc_w 275, 3) := by decide +kernel
theorem dX9_readPerson_21 : decode cX9_readPerson 21 = .ok (.iconst 0, 1) := by decide +kernel
theorem dX9_readPerson_22 : decode cX9_readPerson 22 = .ok (.iconst 5, 1) := by decide +kernel
theorem dX9_readPerson_23 : decode cX9_readPerson 23 = .ok (.invokevirtual 205, 3) := by decide +kernel
theorem dX9_readPerson_26 : decode cX9_readPerson 26 = .ok (.istore_n 3, 1) := by decide +kernel
theorem dX9_readPerson_27 : decode cX9_readPerson 27 = .ok (.aload_n 0, 1) := by decide +kernel
theorem dX9_readPerson_28 : decode cX9_readPerson 28 = .ok (.ldc 228, 2) := by decide +kernel
theorem dX9_readPerson_30 : decode cX9_readPerson 30 = .ok (.iconst 0, 1) := by decide +kernel
theorem dX9_readPerson_31 : decode cX9_readPerson 31 = .ok (.bipush 11, 2) := by decide +kernel
theorem dX9_readPerson_33 : decode cX9_readPerson 33 = .ok (.invokevirtual 205, 3) := by decide +kernel
theorem dX9_readPerson_36 : decode cX9_readPerson 36 = .ok (.istore 4, 2) := by decide +kernel
theorem dX9_readPerson_38 : decode cX9_readPerson 38 = .ok (.aload_n 0, 1) := by decide +kernel
theorem dX9_readPerson_39 : decode cX9_readPerson 39 = .ok (.getfield 68, 3) := by decide +kernel
theorem dX9_readPerson_42 : decode cX9_readPerson 42 = .ok (.iconst 5, 1) := by decide +kernel
theorem dX9_readPerson_43 : decode cX9_readPerson 43 = .ok (.if_icmp .ne 4, 3) := by decide +kernel
theorem dX9_readPerson_46 : decode cX9_readPerson 46 = .ok (.return_, 1) := by decide +kernel
theorem dX9_readPerson_47 : decode cX9_readPerson 47 = .ok (.aload_n 0, 1) := by decide +kernel
theorem dX9_readPerson_48 : decode cX9_readPerson 48 = .ok (.lload_n 1, 1) := by decide +kernel
theorem dX9_readPerson_49 : decode cX9_readPerson 49 = .ok (.iconst 1, 1) := by decide +kernel
theorem dX9_readPerson_50 : decode cX9_readPerson 50 = .ok (.aload_n 0, 1) := by decide +kernel
theorem dX9_readPerson_51 : decode cX9_readPerson 51 = .ok (.getfield 144, 3) := by decide +kernel
theorem dX9_readPerson_54 : decode cX9_readPerson 54 = .ok (.getfield 272, 3) := by decide +kernel
theorem dX9_readPerson_57 : decode cX9_readPerson 57 = .ok (.invokevirtual 230, 3) := by decide +kernel
theorem dX9_readPerson_60 : decode cX9_readPerson 60 = .ok (.aload_n 0, 1) := by decide +kernel
theorem dX9_readPerson_61 : decode cX9_readPerson 61 = .ok (.getfield 144, 3) := by decide +kernel
theorem dX9_readPerson_64 : decode cX9_readPerson 64 = .ok (.getfield 276, 3) := by decide +kernel
theorem dX9_readPerson_67 : decode cX9_readPerson 67 = .ok (.aload_n 0, 1) := by decide +kernel
theorem dX9_readPerson_68 : decode cX9_readPerson 68 = .ok (.getfield 144, 3) := by decide +kernel
theorem dX9_readPerson_71 : decode cX9_readPerson 71 = .ok (.getfield 272, 3) := by decide +kernel
theorem dX9_readPerson_74 : decode cX9_readPerson 74 = .ok (.iload_n 3, 1) := by decide +kernel
theorem dX9_readPerson_75 : decode cX9_readPerson 75 = .ok (.iastore, 1) := by decide +kernel
theorem dX9_readPerson_76 : decode cX9_readPerson 76 = .ok (.aload_n 0, 1) := by decide +kernel
theorem dX9_readPerson_77 : decode cX9_readPerson 77 = .ok (.getfield 144, 3) := by decide +kernel
theorem dX9_readPerson_80 : decode cX9_readPerson 80 = .ok (.getfield 279, 3) := by decide +kernel
theorem dX9_readPerson_83 : decode cX9_readPerson 83 = .ok (.aload_n 0, 1) := by decide +kernel
theorem dX9_readPerson_84 : decode cX9_readPerson 84 = .ok (.getfield 144, 3) := by decide +kernel
theorem dX9_readPerson_87 : decode cX9_readPerson 87 = .ok (.getfield 272, 3) := by decide +kernel
theorem dX9_readPerson_90 : decode cX9_readPerson 90 = .ok (.iload 4, 2) := by decide +kernel
theorem dX9_readPerson_92 : decode cX9_readPerson 92 = .ok (.iastore, 1) := by decide +kernel
theorem dX9_readPerson_93 : decode cX9_readPerson 93 = .ok (.aload_n 0, 1) := by decide +kernel
theorem dX9_readPerson_94 : decode cX9_readPerson 94 = .ok (.getfield 144, 3) := by decide +kernel
theorem dX9_readPerson_97 : decode cX9_readPerson 97 = .ok (.dup, 1) := by decide +kernel
theorem dX9_readPerson_98 : decode cX9_readPerson 98 = .ok (.getfield 272, 3) := by decide +kernel
theorem dX9_readPerson_101 : decode cX9_readPerson 101 = .ok (.iconst 1, 1) := by decide +kernel
theorem dX9_readPerson_102 : decode cX9_readPerson 102 = .ok (.iadd, 1) := by decide +kernel
theorem dX9_readPerson_103 : decode cX9_readPerson 103 = .ok (.putfield 272, 3) := by decide +kernel
theorem dX9_readPerson_106 : decode cX9_readPerson 106 = .ok (.return_, 1) := by decide +kernel
def B_X9_readPerson_0 (X : Nat × (Nat → Int32)) (J : Nat → zCf) (R : zRt) : zCf := oALOAD 0 (oALOAD 0 (oGETR 9 4 (oGETI 8 6 (oPI (zj (4)) (oINV2 X M_X9_lineBegins 9 (oALOAD 0 (oINV0 X M_X9_readFresh 9 (oLSTORE 0 1 (oALOAD 0 (oPS 13 (oPI (zj (0)) (oPI (zj (5)) (oINV3 X M_X9_readPart 9 (oISTORE 2 3 (oALOAD 0 (oPS 12 (oPI (zj (0)) (oPI (zj (11)) (oINV3 X M_X9_readPart 9 (oISTORE 3 4 (oALOAD 0 (oGETI 9 9 (oPI (zj (5)) (oICNE (J 47) (oVRET R)))))))))))))))))))))))))
set_option maxRecDepth 100000 in
theorem vb_X9_readPerson_0 {X : Nat × (Nat → Int32)} {R : zRt} : ∀ ls st h, B_X9_readPerson_0 X (zV X M_X9_readPerson (zQm M_X9_readPerson R) 0 0) R ls st h → zV X M_X9_readPerson (zQm M_X9_readPerson R) 0 0 0 ls st h := sd_aload_n dX9_readPerson_0 rfl (sd_aload_n dX9_readPerson_1 rfl (sd_getr dX9_readPerson_2 zCl9 (Nat.le_of_ble_eq_true rfl) lk_RX9_144 (Or.inl ⟨_, rfl⟩) (sd_geti dX9_readPerson_5 zCl8 (Nat.le_of_ble_eq_true rfl) lk_RX9_272 (Or.inl rfl) (sd_iconst dX9_readPerson_8 rfl (sd_inv2 dX9_readPerson_9 rfl mv_X9_lineBegins na_X9_lineBegins ml_RX9_209 ⟨⟨Nat.le_of_ble_eq_true rfl, Nat.le_of_ble_eq_true rfl⟩, ⟨Nat.le_of_ble_eq_true rfl, Nat.le_of_ble_eq_true rfl⟩⟩ (sd_aload_n dX9_readPerson_12 rfl (sd_inv0 dX9_readPerson_13 rfl mv_X9_readFresh na_X9_readFresh ml_RX9_213 ⟨⟨Nat.le_of_ble_eq_true rfl, Nat.le_of_ble_eq_true rfl⟩, ⟨Nat.le_of_ble_eq_true rfl, Nat.le_of_ble_eq_true rfl⟩⟩ (sd_lstore_n dX9_readPerson_16 rfl (Nat.le_of_ble_eq_true rfl) (Or.inl rfl) (sd_aload_n dX9_readPerson_17 rfl (sd_ldcsw dX9_readPerson_18 rfl rfl (sd_iconst dX9_readPerson_21 rfl (sd_iconst dX9_readPerson_22 rfl (sd_inv3 dX9_readPerson_23 rfl mv_X9_readPart na_X9_readPart ml_RX9_205 ⟨⟨Nat.le_of_ble_eq_true rfl, Nat.le_of_ble_eq_true rfl⟩, ⟨Nat.le_of_ble_eq_true rfl, Nat.le_of_ble_eq_true rfl⟩⟩ (sd_istore_n dX9_readPerson_26 rfl (Nat.le_of_ble_eq_true rfl) (Or.inl rfl) (sd_aload_n dX9_readPerson_27 rfl (sd_ldcs dX9_readPerson_28 rfl rfl (sd_iconst dX9_readPerson_30 rfl (sd_bipush dX9_readPerson_31 rfl (sd_inv3 dX9_readPerson_33 rfl mv_X9_readPart na_X9_readPart ml_RX9_205 ⟨⟨Nat.le_of_ble_eq_true rfl, Nat.le_of_ble_eq_true rfl⟩, ⟨Nat.le_of_ble_eq_true rfl, Nat.le_of_ble_eq_true rfl⟩⟩ (sd_istore dX9_readPerson_36 (Nat.le_of_ble_eq_true rfl) (Or.inl rfl) (sd_aload_n dX9_readPerson_38 rfl (sd_geti dX9_readPerson_39 zCl9 (Nat.le_of_ble_eq_true rfl) lk_RX9_68 (Or.inl rfl) (sd_iconst dX9_readPerson_42 rfl (sd_icne dX9_readPerson_43 rfl (fun _ _ _ h => h) (sd_vret dX9_readPerson_46 rfl (Nat.le_of_ble_eq_true rfl) (Nat.le_of_ble_eq_true rfl))))))))))))))))))))))))))
def B_X9_readPerson_47 (X : Nat × (Nat → Int32)) (J : Nat → zCf) (R : zRt) : zCf := oALOAD 0 (oLLOAD 1 (oPI (zj (1)) (oALOAD 0 (oGETR 9 4 (oGETI 8 6 (oINV3 X M_X9_names 9 (oALOAD 0 (oGETR 9 4 (oGETR 8 15 (oALOAD 0 (oGETR 9 4 (oGETI 8 6 (oILOAD 3 (oIAST (oALOAD 0 (oGETR 9 4 (oGETR 8 16 (oALOAD 0 (oGETR 9 4 (oGETI 8 6 (oILOAD 4 (oIAST (oALOAD 0 (oGETR 9 4 (oDUP (oGETI 8 6 (oPI (zj (1)) (oIADD (oPUTI 8 6 (oVRET R))))))))))))))))))))))))))))))
set_option maxRecDepth 100000 in
theorem vb_X9_readPerson_47 {X : Nat × (Nat → Int32)} {R : zRt} : ∀ ls st h, B_X9_readPerson_47 X (zV X M_X9_readPerson (zQm M_X9_readPerson R) 0 0) R ls st h → zV X M_X9_readPerson (zQm M_X9_readPerson R) 0 0 47 ls st h := sd_aload_n dX9_readPerson_47 rfl (sd_lload_n dX9_readPerson_48 rfl (sd_iconst dX9_readPerson_49 rfl (sd_aload_n dX9_readPerson_50 rfl (sd_getr dX9_readPerson_51 zCl9 (Nat.le_of_ble_eq_true rfl) lk_RX9_144 (Or.inl ⟨_, rfl⟩) (sd_geti dX9_readPerson_54 zCl8 (Nat.le_of_ble_eq_true rfl) lk_RX9_272 (Or.inl rfl) (sd_inv3 dX9_readPerson_57 rfl mv_X9_names na_X9_names ml_RX9_230 ⟨⟨Nat.le_of_ble_eq_true rfl, Nat.le_of_ble_eq_true rfl⟩, ⟨Nat.le_of_ble_eq_true rfl, Nat.le_of_ble_eq_true rfl⟩⟩ (sd_aload_n dX9_readPerson_60 rfl (sd_getr dX9_readPerson_61 zCl9 (Nat.le_of_ble_eq_true rfl) lk_RX9_144 (Or.inl ⟨_, rfl⟩) (sd_getr dX9_readPerson_64 zCl8 (Nat.le_of_ble_eq_true rfl) lk_RX9_276 (Or.inr ⟨_, rfl⟩) (sd_aload_n dX9_readPerson_67 rfl (sd_getr dX9_readPerson_68 zCl9 (Nat.le_of_ble_eq_true rfl) lk_RX9_144 (Or.inl ⟨_, rfl⟩) (sd_geti dX9_readPerson_71 zCl8 (Nat.le_of_ble_eq_true rfl) lk_RX9_272 (Or.inl rfl) (sd_iload_n dX9_readPerson_74 rfl (sd_iast dX9_readPerson_75 (sd_aload_n dX9_readPerson_76 rfl (sd_getr dX9_readPerson_77 zCl9 (Nat.le_of_ble_eq_true rfl) lk_RX9_144 (Or.inl ⟨_, rfl⟩) (sd_getr dX9_readPerson_80 zCl8 (Nat.le_of_ble_eq_true rfl) lk_RX9_279 (Or.inr ⟨_, rfl⟩) (sd_aload_n dX9_readPerson_83 rfl (sd_getr dX9_readPerson_84 zCl9 (Nat.le_of_ble_eq_true rfl) lk_RX9_144 (Or.inl ⟨_, rfl⟩) (sd_geti dX9_readPerson_87 zCl8 (Nat.le_of_ble_eq_true rfl) lk_RX9_272 (Or.inl rfl) (sd_iload dX9_readPerson_90 (sd_iast dX9_readPerson_92 (sd_aload_n dX9_readPerson_93 rfl (sd_getr dX9_readPerson_94 zCl9 (Nat.le_of_ble_eq_true rfl) lk_RX9_144 (Or.inl ⟨_, rfl⟩) (sd_dup dX9_readPerson_97 (sd_geti dX9_readPerson_98 zCl8 (Nat.le_of_ble_eq_true rfl) lk_RX9_272 (Or.inl rfl) (sd_iconst dX9_readPerson_101 rfl (sd_iadd dX9_readPerson_102 (sd_puti dX9_readPerson_103 zCl8 (Nat.le_of_ble_eq_true rfl) lk_RX9_272 rfl (Or.inl rfl) (sd_vret dX9_readPerson_106 rfl (Nat.le_of_ble_eq_true rfl) (Nat.le_of_ble_eq_true rfl)))))))))))))))))))))))))))))))
theorem dX9_feed_0 : decode cX9_feed 0 = .ok (.aload_n 0, 1) := by decide +kernel
theorem dX9_feed_1 : decode cX9_feed 1 = .ok (.iconst 0, 1) := by decide +kernel
theorem dX9_feed_2 : decode cX9_feed 2 = .ok (.putfield 36, 3) := by decide +kernel
theorem dX9_feed_5 : decode cX9_feed 5 = .ok (.aload_n 0, 1) := by decide +kernel
theorem dX9_feed_6 : decode cX9_feed 6 = .ok (.getfield 282, 3) := by decide +kernel
theorem dX9_feed_9 : decode cX9_feed 9 = .ok (.bipush 20, 2) := by decide +kernel
theorem dX9_feed_11 : decode cX9_feed 11 = .ok (.iadd, 1) := by decide +kernel
theorem dX9_feed_12 : decode cX9_feed 12 = .ok (.sipush 800, 3) := by decide +kernel
theorem dX9_feed_15 : decode cX9_feed 15 = .ok (.if_icmp .le 5, 3) := by decide +kernel
theorem dX9_feed_18 : decode cX9_feed 18 = .ok (.iconst (-1), 1) := by decide +kernel
theorem dX9_feed_19 : decode cX9_feed 19 = .ok (.ireturn, 1) := by decide +kernel
theorem dX9_feed_20 : decode cX9_feed 20 = .ok (.iconst 0, 1) := by decide +kernel
theorem dX9_feed_21 : decode cX9_feed 21 = .ok (.istore 6, 2) := by decide +kernel
theorem dX9_feed_23 : decode cX9_feed 23 = .ok (.iload 6, 2) := by decide +kernel
theorem dX9_feed_25 : decode cX9_feed 25 = .ok (.bipush 20, 2) := by decide +kernel
theorem dX9_feed_27 : decode cX9_feed 27 = .ok (.if_icmp .ge 90, 3) := by decide +kernel
theorem dX9_feed_30 : decode cX9_feed 30 = .ok (.iload 6, 2) := by decide +kernel
theorem dX9_feed_32 : decode cX9_feed 32 = .ok (.iconst 4, 1) := by decide +kernel
theorem dX9_feed_33 : decode cX9_feed 33 = .ok (.if_icmp .ge 7, 3) := by decide +kernel
theorem dX9_feed_36 : decode cX9_feed 36 = .ok (.iload_n 1, 1) := by decide +kernel
theorem dX9_feed_37 : decode cX9_feed 37 = .ok (.goto 39, 3) := by decide +kernel
theorem dX9_feed_40 : decode cX9_feed 40 = .ok (.iload 6, 2) := by decide +kernel
theorem dX9_feed_42 : decode cX9_feed 42 = .ok (.bipush 8, 2) := by decide +kernel
theorem dX9_feed_44 : decode cX9_feed 44 = .ok (.if_icmp .ge 7, 3) := by decide +kernel
theorem dX9_feed_47 : decode cX9_feed 47 = .ok (.iload_n 2, 1) := by decide +kernel
theorem dX9_feed_48 : decode cX9_feed 48 = .ok (.goto 28, 3) := by decide +kernel
theorem dX9_feed_51 : decode cX9_feed 51 = .ok (.iload 6, 2) := by decide +kernel
theorem dX9_feed_53 : decode cX9_feed 53 = .ok (.bipush 12, 2) := by decide +kernel
theorem dX9_feed_55 : decode cX9_feed 55 = .ok (.if_icmp .ge 7, 3) := by decide +kernel
theorem dX9_feed_58 : decode cX9_feed 58 = .ok (.iload_n 3, 1) := by decide +kernel
theorem dX9_feed_59 : decode cX9_feed 59 = .ok (.goto 17, 3) := by decide +kernel
theorem dX9_feed_62 : decode cX9_feed 62 = .ok (.iload 6, 2) := by decide +kernel
theorem dX9_feed_64 : decode cX9_feed 64 = .ok (.bipush 16, 2) := by decide +kernel
theorem dX9_feed_66 : decode cX9_feed 66 = .ok (.if_icmp .ge 8, 3) := by decide +kernel
theorem dX9_feed_69 : decode cX9_feed 69 = .ok (.iload 4, 2) := by decide +kernel
theorem dX9_feed_71 : decode cX9_feed 71 = .ok (.goto 5, 3) := by decide +kernel
theorem dX9_feed_74 : decode cX9_feed 74 = .ok (.iload 5, 2) := by decide +kernel
theorem dX9_feed_76 : decode cX9_feed 76 = .ok (.istore 7, 2) := by decide +kernel
theorem dX9_feed_78 : decode cX9_feed 78 = .ok (.aload_n 0, 1) := by decide +kernel
theorem dX9_feed_79 : decode cX9_feed 79 = .ok (.getfield 13, 3) := by decide +kernel
theorem dX9_feed_82 : decode cX9_feed 82 = .ok (.aload_n 0, 1) := by decide +kernel
theorem dX9_feed_83 : decode cX9_feed 83 = .ok (.getfield 282, 3) := by decide +kernel
theorem dX9_feed_86 : decode cX9_feed 86 = .ok (.iload 7, 2) := by decide +kernel
theorem dX9_feed_88 : decode cX9_feed 88 = .ok (.bipush 24, 2) := by decide +kernel
theorem dX9_feed_90 : decode cX9_feed 90 = .ok (.bipush 8, 2) := by decide +kernel
theorem dX9_feed_92 : decode cX9_feed 92 = .ok (.iload 6, 2) := by decide +kernel
theorem dX9_feed_94 : decode cX9_feed 94 = .ok (.iconst 4, 1) := by decide +kernel
theorem dX9_feed_95 : decode cX9_feed 95 = .ok (.irem, 1) := by decide +kernel
theorem dX9_feed_96 : decode cX9_feed 96 = .ok (.imul, 1) := by decide +kernel
theorem dX9_feed_97 : decode cX9_feed 97 = .ok (.isub, 1) := by decide +kernel
theorem dX9_feed_98 : decode cX9_feed 98 = .ok (.ishr, 1) := by decide +kernel
theorem dX9_feed_99 : decode cX9_feed 99 = .ok (.i2b, 1) := by decide +kernel
theorem dX9_feed_100 : decode cX9_feed 100 = .ok (.bastore, 1) := by decide +kernel
theorem dX9_feed_101 : decode cX9_feed 101 = .ok (.aload_n 0, 1) := by decide +kernel
theorem dX9_feed_102 : decode cX9_feed 102 = .ok (.dup, 1) := by decide +kernel
theorem dX9_feed_103 : decode cX9_feed 103 = .ok (.getfield 282, 3) := by decide +kernel
theorem dX9_feed_106 : decode cX9_feed 106 = .ok (.iconst 1, 1) := by decide +kernel
theorem dX9_feed_107 : decode cX9_feed 107 = .ok (.iadd, 1) := by decide +kernel
theorem dX9_feed_108 : decode cX9_feed 108 = .ok (.putfield 282, 3) := by decide +kernel
theorem dX9_feed_111 : decode cX9_feed 111 = .ok (.iinc 6 1, 3) := by decide +kernel
theorem dX9_feed_114 : decode cX9_feed 114 = .ok (.goto (-91), 3) := by decide +kernel
theorem dX9_feed_117 : decode cX9_feed 117 = .ok (.aload_n 0, 1) := by decide +kernel
theorem dX9_feed_118 : decode cX9_feed 118 = .ok (.getfield 282, 3) := by decide +kernel
theorem dX9_feed_121 : decode cX9_feed 121 = .ok (.ireturn, 1) := by decide +kernel
def B_X9_feed_0 (X : Nat × (Nat → Int32)) (J : Nat → zCf) (R : zRt) : zCf := oALOAD 0 (oPI (zj (0)) (oPUTI 9 0 (oALOAD 0 (oGETI 9 6 (oPI (zj (20)) (oIADD (oPI (zj (800)) (oICLE (J 20) (oPI (zj (-1)) (oIRET R))))))))))
set_option maxRecDepth 100000 in
theorem vb_X9_feed_0 {X : Nat × (Nat → Int32)} {R : zRt} : ∀ ls st h, B_X9_feed_0 X (zV X M_X9_feed (zQm M_X9_feed R) 0 0) R ls st h → zV X M_X9_feed (zQm M_X9_feed R) 0 0 0 ls st h := sd_aload_n dX9_feed_0 rfl (sd_iconst dX9_feed_1 rfl (sd_puti dX9_feed_2 zCl9 (Nat.le_of_ble_eq_true rfl) lk_RX9_36 rfl (Or.inl rfl) (sd_aload_n dX9_feed_5 rfl (sd_geti dX9_feed_6 zCl9 (Nat.le_of_ble_eq_true rfl) lk_RX9_282 (Or.inl rfl) (sd_bipush dX9_feed_9 rfl (sd_iadd dX9_feed_11 (sd_sipush dX9_feed_12 rfl (sd_icle dX9_feed_15 rfl (fun _ _ _ h => h) (sd_iconst dX9_feed_18 rfl (sd_iret dX9_feed_19 rfl (Nat.le_of_ble_eq_true rfl) (Nat.le_of_ble_eq_true rfl)))))))))))
def B_X9_feed_20 (X : Nat × (Nat → Int32)) (J : Nat → zCf) (R : zRt) : zCf := oPI (zj (0)) (oISTORE 5 6 (J 23))
set_option maxRecDepth 100000 in
theorem vb_X9_feed_20 {X : Nat × (Nat → Int32)} {R : zRt} : ∀ ls st h, B_X9_feed_20 X (zV X M_X9_feed (zQm M_X9_feed R) 0 0) R ls st h → zV X M_X9_feed (zQm M_X9_feed R) 0 0 20 ls st h := sd_iconst dX9_feed_20 rfl (sd_istore dX9_feed_21 (Nat.le_of_ble_eq_true rfl) (Or.inl rfl) (fun _ _ _ h => h))
def B_X9_feed_23 (X : Nat × (Nat → Int32)) (J : Nat → zCf) (R : zRt) : zCf := oILOAD 6 (oPI (zj (20)) (oICGE (J 117) (oILOAD 6 (oPI (zj (4)) (oICGE (J 40) (oILOAD 1 (J 76)))))))
set_option maxRecDepth 100000 in
theorem vb_X9_feed_23 {X : Nat × (Nat → Int32)} {R : zRt} : ∀ ls st h, B_X9_feed_23 X (zV X M_X9_feed (zQm M_X9_feed R) 0 0) R ls st h → zV X M_X9_feed (zQm M_X9_feed R) 0 0 23 ls st h := sd_iload dX9_feed_23 (sd_bipush dX9_feed_25 rfl (sd_icge dX9_feed_27 rfl (fun _ _ _ h => h) (sd_iload dX9_feed_30 (sd_iconst dX9_feed_32 rfl (sd_icge dX9_feed_33 rfl (fun _ _ _ h => h) (sd_iload_n dX9_feed_36 rfl (sd_goto dX9_feed_37 rfl (fun _ _ _ h => h))))))))
def B_X9_feed_40 (X : Nat × (Nat → Int32)) (J : Nat → zCf) (R : zRt) : zCf := oILOAD 6 (oPI (zj (8)) (oICGE (J 51) (oILOAD 2 (J 76))))
set_option maxRecDepth 100000 in
theorem vb_X9_feed_40 {X : Nat × (Nat → Int32)} {R : zRt} : ∀ ls st h, B_X9_feed_40 X (zV X M_X9_feed (zQm M_X9_feed R) 0 0) R ls st h → zV X M_X9_feed (zQm M_X9_feed R) 0 0 40 ls st h := sd_iload dX9_feed_40 (sd_bipush dX9_feed_42 rfl (sd_icge dX9_feed_44 rfl (fun _ _ _ h => h) (sd_iload_n dX9_feed_47 rfl (sd_goto dX9_feed_48 rfl (fun _ _ _ h => h)))))
def B_X9_feed_51 (X : Nat × (Nat → Int32)) (J : Nat → zCf) (R : zRt) : zCf := oILOAD 6 (oPI (zj (12)) (oICGE (J 62) (oILOAD 3 (J 76))))
set_option maxRecDepth 100000 in
theorem vb_X9_feed_51 {X : Nat × (Nat → Int32)} {R : zRt} : ∀ ls st h, B_X9_feed_51 X (zV X M_X9_feed (zQm M_X9_feed R) 0 0) R ls st h → zV X M_X9_feed (zQm M_X9_feed R) 0 0 51 ls st h := sd_iload dX9_feed_51 (sd_bipush dX9_feed_53 rfl (sd_icge dX9_feed_55 rfl (fun _ _ _ h => h) (sd_iload_n dX9_feed_58 rfl (sd_goto dX9_feed_59 rfl (fun _ _ _ h => h)))))
def B_X9_feed_62 (X : Nat × (Nat → Int32)) (J : Nat → zCf) (R : zRt) : zCf := oILOAD 6 (oPI (zj (16)) (oICGE (J 74) (oILOAD 4 (J 76))))
set_option maxRecDepth 100000 in
theorem vb_X9_feed_62 {X : Nat × (Nat → Int32)} {R : zRt} : ∀ ls st h, B_X9_feed_62 X (zV X M_X9_feed (zQm M_X9_feed R) 0 0) R ls st h → zV X M_X9_feed (zQm M_X9_feed R) 0 0 62 ls st h := sd_iload dX9_feed_62 (sd_bipush dX9_feed_64 rfl (sd_icge dX9_feed_66 rfl (fun _ _ _ h => h) (sd_iload dX9_feed_69 (sd_goto dX9_feed_71 rfl (fun _ _ _ h => h)))))
def B_X9_feed_74 (X : Nat × (Nat → Int32)) (J : Nat → zCf) (R : zRt) : zCf := oILOAD 5 (J 76)
set_option maxRecDepth 100000 in
theorem vb_X9_feed_74 {X : Nat × (Nat → Int32)} {R : zRt} : ∀ ls st h, B_X9_feed_74 X (zV X M_X9_feed (zQm M_X9_feed R) 0 0) R ls st h → zV X M_X9_feed (zQm M_X9_feed R) 0 0 74 ls st h := sd_iload dX9_feed_74 (fun _ _ _ h => h)
def B_X9_feed_76 (X : Nat × (Nat → Int32)) (J : Nat → zCf) (R : zRt) : zCf := oISTORE 6 7 (oALOAD 0 (oGETR 9 5 (oALOAD 0 (oGETI 9 6 (oILOAD 7 (oPI (zj (24)) (oPI (zj (8)) (oILOAD 6 (oPI (zj (4)) (oIREM (oIMUL (oISUB (oISHR (oI2B (oBAST (oALOAD 0 (oDUP (oGETI 9 6 (oPI (zj (1)) (oIADD (oPUTI 9 6 (oIINC 5 6 (zj (1)) (J 23)))))))))))))))))))))))
set_option maxRecDepth 100000 in
theorem vb_X9_feed_76 {X : Nat × (Nat → Int32)} {R : zRt} : ∀ ls st h, B_X9_feed_76 X (zV X M_X9_feed (zQm M_X9_feed R) 0 0) R ls st h → zV X M_X9_feed (zQm M_X9_feed R) 0 0 76 ls st h := sd_istore dX9_feed_76 (Nat.le_of_ble_eq_true rfl) (Or.inl rfl) (sd_aload_n dX9_feed_78 rfl (sd_getr dX9_feed_79 zCl9 (Nat.le_of_ble_eq_true rfl) lk_RX9_13 (Or.inr ⟨_, rfl⟩) (sd_aload_n dX9_feed_82 rfl (sd_geti dX9_feed_83 zCl9 (Nat.le_of_ble_eq_true rfl) lk_RX9_282 (Or.inl rfl) (sd_iload dX9_feed_86 (sd_bipush dX9_feed_88 rfl (sd_bipush dX9_feed_90 rfl (sd_iload dX9_feed_92 (sd_iconst dX9_feed_94 rfl (sd_irem dX9_feed_95 (sd_imul dX9_feed_96 (sd_isub dX9_feed_97 (sd_ishr dX9_feed_98 (sd_i2b dX9_feed_99 (sd_bast dX9_feed_100 (sd_aload_n dX9_feed_101 rfl (sd_dup dX9_feed_102 (sd_geti dX9_feed_103 zCl9 (Nat.le_of_ble_eq_true rfl) lk_RX9_282 (Or.inl rfl) (sd_iconst dX9_feed_106 rfl (sd_iadd dX9_feed_107 (sd_puti dX9_feed_108 zCl9 (Nat.le_of_ble_eq_true rfl) lk_RX9_282 rfl (Or.inl rfl) (sd_iinc dX9_feed_111 rfl (Nat.le_of_ble_eq_true rfl) (Or.inl rfl) (sd_goto dX9_feed_114 rfl (fun _ _ _ h => h))))))))))))))))))))))))
def B_X9_feed_117 (X : Nat × (Nat → Int32)) (J : Nat → zCf) (R : zRt) : zCf := oALOAD 0 (oGETI 9 6 (oIRET R))
set_option maxRecDepth 100000 in
theorem vb_X9_feed_117 {X : Nat × (Nat → Int32)} {R : zRt} : ∀ ls st h, B_X9_feed_117 X (zV X M_X9_feed (zQm M_X9_feed R) 0 0) R ls st h → zV X M_X9_feed (zQm M_X9_feed R) 0 0 117 ls st h := sd_aload_n dX9_feed_117 rfl (sd_geti dX9_feed_118 zCl9 (Nat.le_of_ble_eq_true rfl) lk_RX9_282 (Or.inl rfl) (sd_iret dX9_feed_121 rfl (Nat.le_of_ble_eq_true rfl) (Nat.le_of_ble_eq_true rfl)))
