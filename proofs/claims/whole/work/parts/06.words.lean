section ZL
variable {X : Nat × (Nat → Int32)} {M : zM} {Q : zQt} {k n pc : Nat} {K : zCf}
def oLSW (J0 J1 Jd : zCf) : zCf := fun ls st h => match st with
  | .int x :: t => (x = 0 → J0 ls t h) ∧ (x = 1 → J1 ls t h) ∧ (¬ x = 0 → ¬ x = 1 → Jd ls t h)
  | _ => False
theorem z_off01 (x : Int32) (d o0 o1 : Int) : (x = 0 ∧ Op.lookupswitch.offset [((0 : Int), o0), (1, o1)] d x.toInt = o0) ∨ (x = 1 ∧ Op.lookupswitch.offset [((0 : Int), o0), (1, o1)] d x.toInt = o1) ∨ (¬ x = 0 ∧ ¬ x = 1 ∧ Op.lookupswitch.offset [((0 : Int), o0), (1, o1)] d x.toInt = d) := by
  by_cases h0 : x = 0
  · subst h0; exact Or.inl ⟨rfl, rfl⟩
  · by_cases h1 : x = 1
    · subst h1; exact Or.inr (Or.inl ⟨rfl, rfl⟩)
    · refine Or.inr (Or.inr ⟨h0, h1, ?_⟩)
      have e0 : ¬ x.toInt = 0 := fun z => h0 (Int32.toInt_inj.mp (by rw [z]; rfl))
      have e1 : ¬ x.toInt = 1 := fun z => h1 (Int32.toInt_inj.mp (by rw [z]; rfl))
      have e0' : ¬ 0 = x.toInt := fun z => e0 z.symm
      have e1' : ¬ 1 = x.toInt := fun z => e1 z.symm
      simp [Op.lookupswitch.offset, e0, e1, e0', e1']
theorem sd_lsw {J0 J1 Jd : zCf} {dflt o0 o1 : Int} {len t0 t1 td : Nat} (hd : decode M.2.1 pc = .ok (.lookupswitch dflt #[(0, o0), (1, o1)], len)) (h0 : (pc : Int) + o0 = (t0 : Int)) (h1 : (pc : Int) + o1 = (t1 : Int)) (hdd : (pc : Int) + dflt = (td : Int))
    (hJ0 : ∀ ls st h, J0 ls st h → zV X M Q k n t0 ls st h) (hJ1 : ∀ ls st h, J1 ls st h → zV X M Q k n t1 ls st h) (hJd : ∀ ls st h, Jd ls st h → zV X M Q k n td ls st h) : ∀ ls st h, oLSW J0 J1 Jd ls st h → zV X M Q k n pc ls st h := by
  intro ls st h hk p l e s m args below meth c A D ad0 ad tys ws H locs cls cst hB hls hst
  unfold oLSW at hk
  split at hk
  · rename_i x t
    obtain ⟨c1, rfl, hs1⟩ := hst.i
    rcases z_off01 x dflt o0 o1 with ⟨g, e⟩ | ⟨g, e⟩ | ⟨g, g', e⟩
    · exact lv_lookup hB.1.1 hB.1.2.1 hd rfl e h0 (hJ0 _ _ _ (hk.1 g) p l _ s m args below meth c A D ad0 ad tys ws H locs cls _ hB hls hs1)
    · exact lv_lookup hB.1.1 hB.1.2.1 hd rfl e h1 (hJ1 _ _ _ (hk.2.1 g) p l _ s m args below meth c A D ad0 ad tys ws H locs cls _ hB hls hs1)
    · exact lv_lookup hB.1.1 hB.1.2.1 hd rfl e hdd (hJd _ _ _ (hk.2.2 g g') p l _ s m args below meth c A D ad0 ad tys ws H locs cls _ hB hls hs1)
  · exact hk.elim
def oPS (i : Nat) (K : zCf) : zCf := fun ls st h => K ls (.ref i :: st) h
theorem sd_ldcs {i idx : Nat} {tx : String} (hd : decode M.2.1 pc = .ok (.ldc idx, 2)) (hi : zstr[i]? = some (tx, idx)) (hM : M.1.cls = "MirrorTubeModel") (hK : ∀ ls st h, K ls st h → zV X M Q k n (pc + 2) ls st h) : ∀ ls st h, oPS i K ls st h → zV X M Q k n pc ls st h := by
  intro ls st h hk p l e s m args below meth c A D ad0 ad tys ws H locs cls cst hB hls hst
  obtain ⟨-, ⟨adK, adV, g1, g2⟩, -⟩ := hB.2.1
  obtain ⟨h1, h2⟩ := g2 i _ hi
  exact va_ldcS (own := "MirrorTubeModel") hB.1.1 hB.1.2.1 (hM ▸ hB.1.2.2.2.2.1) h1 hd (hK _ _ _ hk p l e s m args below meth c A D ad0 ad tys ws H locs cls _ hB hls ⟨⟨_, hB.2.2.1 _ _ h2, rfl⟩, hst⟩)
end ZL
theorem zCl0_w : ∀ w ∈ u_ws RX0 TX0 5, w ∈ zws := by
  intro w hw
  obtain ⟨j, hj, rfl⟩ := List.mem_map.mp hw
  have hj := List.mem_range.mp hj
  match j, hj with
  | 0, _ => exact zmt (zt1 (i := 208) rfl) rfl
  | 1, _ => exact zmt (zt1 (i := 210) rfl) rfl
  | 2, _ => exact zmt (zt1 (i := 212) rfl) rfl
  | 3, _ => exact zmt (zt1 (i := 214) rfl) rfl
  | 4, _ => exact zmt (zt1 (i := 216) rfl) rfl
  | j + 5, hj => omega
theorem zCl0 : zCls 0 RX0 TX0 5 tyX0 := ⟨rfl, zCl0_w, tyX0_ok, nmX0, rfl⟩
theorem zCl1_w : ∀ w ∈ u_ws RX1 TX1 16, w ∈ zws := by
  intro w hw
  obtain ⟨j, hj, rfl⟩ := List.mem_map.mp hw
  have hj := List.mem_range.mp hj
  match j, hj with
  | 0, _ => exact zmt (zt1 (i := 121) rfl) rfl
  | 1, _ => exact zmt (zt1 (i := 123) rfl) rfl
  | 2, _ => exact zmt (zt1 (i := 125) rfl) rfl
  | 3, _ => exact zmt (zt1 (i := 127) rfl) rfl
  | 4, _ => exact zmt (zt1 (i := 129) rfl) rfl
  | 5, _ => exact zmt (zt1 (i := 131) rfl) rfl
  | 6, _ => exact zmt (zt1 (i := 133) rfl) rfl
  | 7, _ => exact zmt (zt1 (i := 135) rfl) rfl
  | 8, _ => exact zmt (zt1 (i := 137) rfl) rfl
  | 9, _ => exact zmt (zt1 (i := 139) rfl) rfl
  | 10, _ => exact zmt (zt1 (i := 141) rfl) rfl
  | 11, _ => exact zmt (zt1 (i := 143) rfl) rfl
  | 12, _ => exact zmt (zt1 (i := 145) rfl) rfl
  | 13, _ => exact zmt (zt1 (i := 147) rfl) rfl
  | 14, _ => exact zmt (zt1 (i := 149) rfl) rfl
  | 15, _ => exact zmt (zt1 (i := 151) rfl) rfl
  | j + 16, hj => omega
theorem zCl1 : zCls 1 RX1 TX1 16 tyX1 := ⟨rfl, zCl1_w, tyX1_ok, nmX1, rfl⟩
theorem zCl2_w : ∀ w ∈ u_ws RX2 TX2 5, w ∈ zws := by
  intro w hw
  obtain ⟨j, hj, rfl⟩ := List.mem_map.mp hw
  have hj := List.mem_range.mp hj
  match j, hj with
  | 0, _ => exact zmt (zt1 (i := 165) rfl) rfl
  | 1, _ => exact zmt (zt1 (i := 167) rfl) rfl
  | 2, _ => exact zmt (zt1 (i := 169) rfl) rfl
  | 3, _ => exact zmt (zt1 (i := 171) rfl) rfl
  | 4, _ => exact zmt (zt1 (i := 173) rfl) rfl
  | j + 5, hj => omega
theorem zCl2 : zCls 2 RX2 TX2 5 tyX2 := ⟨rfl, zCl2_w, tyX2_ok, nmX2, rfl⟩
theorem zCl3_w : ∀ w ∈ u_ws RX3 TX3 2, w ∈ zws := by
  intro w hw
  obtain ⟨j, hj, rfl⟩ := List.mem_map.mp hw
  have hj := List.mem_range.mp hj
  match j, hj with
  | 0, _ => exact zmt (zt1 (i := 237) rfl) rfl
  | 1, _ => exact zmt (zt1 (i := 239) rfl) rfl
  | j + 2, hj => omega
theorem zCl3 : zCls 3 RX3 TX3 2 tyX3 := ⟨rfl, zCl3_w, tyX3_ok, nmX3, rfl⟩
theorem zCl4_w : ∀ w ∈ u_ws RX4 TX4 2, w ∈ zws := by
  intro w hw
  obtain ⟨j, hj, rfl⟩ := List.mem_map.mp hw
  have hj := List.mem_range.mp hj
  match j, hj with
  | 0, _ => exact zmt (zt1 (i := 188) rfl) rfl
  | 1, _ => exact zmt (zt1 (i := 190) rfl) rfl
  | j + 2, hj => omega
theorem zCl4 : zCls 4 RX4 TX4 2 tyX4 := ⟨rfl, zCl4_w, tyX4_ok, nmX4, rfl⟩
theorem zCl5_w : ∀ w ∈ u_ws RX5 TX5 4, w ∈ zws := by
  intro w hw
  obtain ⟨j, hj, rfl⟩ := List.mem_map.mp hw
  have hj := List.mem_range.mp hj
  match j, hj with
  | 0, _ => exact zmt (zt2 (i := 15) rfl) rfl
  | 1, _ => exact zmt (zt2 (i := 17) rfl) rfl
  | 2, _ => exact zmt (zt2 (i := 19) rfl) rfl
  | 3, _ => exact zmt (zt2 (i := 21) rfl) rfl
  | j + 4, hj => omega
theorem zCl5 : zCls 5 RX5 TX5 4 tyX5 := ⟨rfl, zCl5_w, tyX5_ok, nmX5, rfl⟩
theorem zCl6_w : ∀ w ∈ u_ws RX6 TX6 8, w ∈ zws := by
  intro w hw
  obtain ⟨j, hj, rfl⟩ := List.mem_map.mp hw
  have hj := List.mem_range.mp hj
  match j, hj with
  | 0, _ => exact zmt (zt1 (i := 55) rfl) rfl
  | 1, _ => exact zmt (zt1 (i := 57) rfl) rfl
  | 2, _ => exact zmt (zt1 (i := 59) rfl) rfl
  | 3, _ => exact zmt (zt1 (i := 61) rfl) rfl
  | 4, _ => exact zmt (zt1 (i := 63) rfl) rfl
  | 5, _ => exact zmt (zt1 (i := 65) rfl) rfl
  | 6, _ => exact zmt (zt1 (i := 67) rfl) rfl
  | 7, _ => exact zmt (zt1 (i := 69) rfl) rfl
  | j + 8, hj => omega
theorem zCl6 : zCls 6 RX6 TX6 8 tyX6 := ⟨rfl, zCl6_w, tyX6_ok, nmX6, rfl⟩
theorem zCl7_w : ∀ w ∈ u_ws RX7 TX7 6, w ∈ zws := by
  intro w hw
  obtain ⟨j, hj, rfl⟩ := List.mem_map.mp hw
  have hj := List.mem_range.mp hj
  match j, hj with
  | 0, _ => exact zmt (zt2 (i := 30) rfl) rfl
  | 1, _ => exact zmt (zt2 (i := 32) rfl) rfl
  | 2, _ => exact zmt (zt2 (i := 34) rfl) rfl
  | 3, _ => exact zmt (zt2 (i := 36) rfl) rfl
  | 4, _ => exact zmt (zt2 (i := 38) rfl) rfl
  | 5, _ => exact zmt (zt2 (i := 40) rfl) rfl
  | j + 6, hj => omega
theorem zCl7 : zCls 7 RX7 TX7 6 tyX7 := ⟨rfl, zCl7_w, tyX7_ok, nmX7, rfl⟩
theorem zCl8_w : ∀ w ∈ u_ws RX8 TX8 21, w ∈ zws := by
  intro w hw
  obtain ⟨j, hj, rfl⟩ := List.mem_map.mp hw
  have hj := List.mem_range.mp hj
  match j, hj with
  | 0, _ => exact zmt (zt5 (i := 236) rfl) rfl
  | 1, _ => exact zmt (zt5 (i := 238) rfl) rfl
  | 2, _ => exact zmt (zt6 (i := 0) rfl) rfl
  | 3, _ => exact zmt (zt6 (i := 2) rfl) rfl
  | 4, _ => exact zmt (zt6 (i := 4) rfl) rfl
  | 5, _ => exact zmt (zt6 (i := 6) rfl) rfl
  | 6, _ => exact zmt (zt6 (i := 8) rfl) rfl
  | 7, _ => exact zmt (zt6 (i := 10) rfl) rfl
  | 8, _ => exact zmt (zt6 (i := 12) rfl) rfl
  | 9, _ => exact zmt (zt6 (i := 14) rfl) rfl
  | 10, _ => exact zmt (zt6 (i := 16) rfl) rfl
  | 11, _ => exact zmt (zt6 (i := 18) rfl) rfl
  | 12, _ => exact zmt (zt6 (i := 20) rfl) rfl
  | 13, _ => exact zmt (zt6 (i := 22) rfl) rfl
  | 14, _ => exact zmt (zt6 (i := 24) rfl) rfl
  | 15, _ => exact zmt (zt6 (i := 26) rfl) rfl
  | 16, _ => exact zmt (zt6 (i := 28) rfl) rfl
  | 17, _ => exact zmt (zt6 (i := 30) rfl) rfl
  | 18, _ => exact zmt (zt6 (i := 32) rfl) rfl
  | 19, _ => exact zmt (zt6 (i := 34) rfl) rfl
  | 20, _ => exact zmt (zt6 (i := 36) rfl) rfl
  | j + 21, hj => omega
theorem zCl8 : zCls 8 RX8 TX8 21 tyX8 := ⟨rfl, zCl8_w, tyX8_ok, nmX8, rfl⟩
theorem zCl9_w : ∀ w ∈ u_ws RX9 TX9 27, w ∈ zws := by
  intro w hw
  obtain ⟨j, hj, rfl⟩ := List.mem_map.mp hw
  have hj := List.mem_range.mp hj
  match j, hj with
  | 0, _ => exact zmt (zt5 (i := 121) rfl) rfl
  | 1, _ => exact zmt (zt5 (i := 123) rfl) rfl
  | 2, _ => exact zmt (zt5 (i := 125) rfl) rfl
  | 3, _ => exact zmt (zt5 (i := 127) rfl) rfl
  | 4, _ => exact zmt (zt5 (i := 129) rfl) rfl
  | 5, _ => exact zmt (zt5 (i := 131) rfl) rfl
  | 6, _ => exact zmt (zt5 (i := 133) rfl) rfl
  | 7, _ => exact zmt (zt5 (i := 135) rfl) rfl
  | 8, _ => exact zmt (zt5 (i := 137) rfl) rfl
  | 9, _ => exact zmt (zt5 (i := 139) rfl) rfl
  | 10, _ => exact zmt (zt5 (i := 141) rfl) rfl
  | 11, _ => exact zmt (zt5 (i := 143) rfl) rfl
  | 12, _ => exact zmt (zt5 (i := 145) rfl) rfl
  | 13, _ => exact zmt (zt5 (i := 147) rfl) rfl
  | 14, _ => exact zmt (zt5 (i := 149) rfl) rfl
  | 15, _ => exact zmt (zt5 (i := 151) rfl) rfl
  | 16, _ => exact zmt (zt5 (i := 153) rfl) rfl
  | 17, _ => exact zmt (zt5 (i := 155) rfl) rfl
  | 18, _ => exact zmt (zt5 (i := 157) rfl) rfl
  | 19, _ => exact zmt (zt5 (i := 159) rfl) rfl
  | 20, _ => exact zmt (zt5 (i := 161) rfl) rfl
  | 21, _ => exact zmt (zt5 (i := 163) rfl) rfl
  | 22, _ => exact zmt (zt5 (i := 165) rfl) rfl
  | 23, _ => exact zmt (zt5 (i := 167) rfl) rfl
  | 24, _ => exact zmt (zt5 (i := 169) rfl) rfl
  | 25, _ => exact zmt (zt5 (i := 171) rfl) rfl
  | 26, _ => exact zmt (zt5 (i := 173) rfl) rfl
  | j + 27, hj => omega
theorem zCl9 : zCls 9 RX9 TX9 27 tyX9 := ⟨rfl, zCl9_w, tyX9_ok, nmX9, rfl⟩
def M_X0_init : zM := (yX0_init, cX0_init, 1, none, { frames := 1, cells := 21, slots := 304, locals := 20 })
theorem mi_X0_init : zMi M_X0_init := ⟨(zmt (zt1 (i := 196) rfl) rfl), (zmt (zt1 (i := 6) rfl) rfl), (zmt (zt1 (i := 197) rfl) rfl), rfl, rfl, ⟨by decide, by decide⟩⟩
theorem na_X0_init : (parseMethodDescriptor M_X0_init.1.desc).map (fun d => d.parameters.length) = some 0 := by decide +kernel
theorem pf_X0_init : plainFor M_X0_init.1 = true := by decide +kernel
def M_X0_forget : zM := (yX0_forget, cX0_forget, 1, none, { frames := 0, cells := 0, slots := 0, locals := 0 })
theorem mv_X0_forget : zMv M_X0_forget := ⟨(zmt (zt2 (i := 203) rfl) rfl), (zmt (zt2 (i := 204) rfl) rfl), (zmt (zt1 (i := 6) rfl) rfl), (zmt (zt2 (i := 205) rfl) rfl), ⟨by decide, by decide⟩⟩
theorem na_X0_forget : (parseMethodDescriptor M_X0_forget.1.desc).map (fun d => d.parameters.length) = some 0 := by decide +kernel
theorem pf_X0_forget : plainFor M_X0_forget.1 = true := by decide +kernel
def M_X0_keepAct : zM := (yX0_keepAct, cX0_keepAct, 2, none, { frames := 1, cells := 0, slots := 0, locals := 26 })
theorem mv_X0_keepAct : zMv M_X0_keepAct := ⟨(zmt (zt4 (i := 190) rfl) rfl), (zmt (zt4 (i := 191) rfl) rfl), (zmt (zt1 (i := 6) rfl) rfl), (zmt (zt4 (i := 192) rfl) rfl), ⟨by decide, by decide⟩⟩
theorem na_X0_keepAct : (parseMethodDescriptor M_X0_keepAct.1.desc).map (fun d => d.parameters.length) = some 1 := by decide +kernel
theorem pf_X0_keepAct : plainFor M_X0_keepAct.1 = true := by decide +kernel
def M_X0_undoInto : zM := (yX0_undoInto, cX0_undoInto, 2, some .boolean, { frames := 1, cells := 0, slots := 0, locals := 26 })
theorem mv_X0_undoInto : zMv M_X0_undoInto := ⟨(zmt (zt4 (i := 224) rfl) rfl), (zmt (zt4 (i := 225) rfl) rfl), (zmt (zt1 (i := 6) rfl) rfl), (zmt (zt4 (i := 226) rfl) rfl), ⟨by decide, by decide⟩⟩
theorem na_X0_undoInto : (parseMethodDescriptor M_X0_undoInto.1.desc).map (fun d => d.parameters.length) = some 1 := by decide +kernel
theorem pf_X0_undoInto : plainFor M_X0_undoInto.1 = true := by decide +kernel
def M_X0_keepImage : zM := (yX0_keepImage, cX0_keepImage, 2, some .int, { frames := 1, cells := 0, slots := 0, locals := 26 })
theorem mv_X0_keepImage : zMv M_X0_keepImage := ⟨(zmt (zt4 (i := 236) rfl) rfl), (zmt (zt4 (i := 237) rfl) rfl), (zmt (zt1 (i := 6) rfl) rfl), (zmt (zt4 (i := 238) rfl) rfl), ⟨by decide, by decide⟩⟩
theorem na_X0_keepImage : (parseMethodDescriptor M_X0_keepImage.1.desc).map (fun d => d.parameters.length) = some 1 := by decide +kernel
theorem pf_X0_keepImage : plainFor M_X0_keepImage.1 = true := by decide +kernel
def M_X0_backInto : zM := (yX0_backInto, cX0_backInto, 3, some .boolean, { frames := 1, cells := 0, slots := 0, locals := 26 })
theorem mv_X0_backInto : zMv M_X0_backInto := ⟨(zmt (zt5 (i := 4) rfl) rfl), (zmt (zt5 (i := 5) rfl) rfl), (zmt (zt1 (i := 6) rfl) rfl), (zmt (zt5 (i := 6) rfl) rfl), ⟨by decide, by decide⟩⟩
theorem na_X0_backInto : (parseMethodDescriptor M_X0_backInto.1.desc).map (fun d => d.parameters.length) = some 2 := by decide +kernel
theorem pf_X0_backInto : plainFor M_X0_backInto.1 = true := by decide +kernel
def M_X1_init : zM := (yX1_init, cX1_init, 1, none, { frames := 1, cells := 11, slots := 64, locals := 20 })
theorem mi_X1_init : zMi M_X1_init := ⟨(zmt (zt1 (i := 76) rfl) rfl), (zmt (zt1 (i := 4) rfl) rfl), (zmt (zt1 (i := 77) rfl) rfl), rfl, rfl, ⟨by decide, by decide⟩⟩
theorem na_X1_init : (parseMethodDescriptor M_X1_init.1.desc).map (fun d => d.parameters.length) = some 0 := by decide +kernel
theorem pf_X1_init : plainFor M_X1_init.1 = true := by decide +kernel
def M_X1_clear : zM := (yX1_clear, cX1_clear, 1, none, { frames := 0, cells := 0, slots := 0, locals := 0 })
theorem mv_X1_clear : zMv M_X1_clear := ⟨(zmt (zt2 (i := 71) rfl) rfl), (zmt (zt2 (i := 72) rfl) rfl), (zmt (zt1 (i := 4) rfl) rfl), (zmt (zt2 (i := 73) rfl) rfl), ⟨by decide, by decide⟩⟩
theorem na_X1_clear : (parseMethodDescriptor M_X1_clear.1.desc).map (fun d => d.parameters.length) = some 0 := by decide +kernel
theorem pf_X1_clear : plainFor M_X1_clear.1 = true := by decide +kernel
def M_X1_addBit : zM := (yX1_addBit, cX1_addBit, 7, none, { frames := 0, cells := 0, slots := 0, locals := 0 })
theorem mv_X1_addBit : zMv M_X1_addBit := ⟨(zmt (zt2 (i := 147) rfl) rfl), (zmt (zt2 (i := 148) rfl) rfl), (zmt (zt1 (i := 4) rfl) rfl), (zmt (zt2 (i := 149) rfl) rfl), ⟨by decide, by decide⟩⟩
theorem na_X1_addBit : (parseMethodDescriptor M_X1_addBit.1.desc).map (fun d => d.parameters.length) = some 4 := by decide +kernel
theorem pf_X1_addBit : plainFor M_X1_addBit.1 = true := by decide +kernel
def M_X1_addMet : zM := (yX1_addMet, cX1_addMet, 4, none, { frames := 0, cells := 0, slots := 0, locals := 0 })
theorem mv_X1_addMet : zMv M_X1_addMet := ⟨(zmt (zt2 (i := 168) rfl) rfl), (zmt (zt2 (i := 169) rfl) rfl), (zmt (zt1 (i := 4) rfl) rfl), (zmt (zt2 (i := 170) rfl) rfl), ⟨by decide, by decide⟩⟩
theorem na_X1_addMet : (parseMethodDescriptor M_X1_addMet.1.desc).map (fun d => d.parameters.length) = some 2 := by decide +kernel
theorem pf_X1_addMet : plainFor M_X1_addMet.1 = true := by decide +kernel
def M_X1_addHoliday : zM := (yX1_addHoliday, cX1_addHoliday, 2, none, { frames := 0, cells := 0, slots := 0, locals := 0 })
theorem mv_X1_addHoliday : zMv M_X1_addHoliday := ⟨(zmt (zt2 (i := 180) rfl) rfl), (zmt (zt2 (i := 181) rfl) rfl), (zmt (zt1 (i := 4) rfl) rfl), (zmt (zt2 (i := 182) rfl) rfl), ⟨by decide, by decide⟩⟩
theorem na_X1_addHoliday : (parseMethodDescriptor M_X1_addHoliday.1.desc).map (fun d => d.parameters.length) = some 1 := by decide +kernel
theorem pf_X1_addHoliday : plainFor M_X1_addHoliday.1 = true := by decide +kernel
def M_X1_addPerson : zM := (yX1_addPerson, cX1_addPerson, 4, none, { frames := 0, cells := 0, slots := 0, locals := 0 })
theorem mv_X1_addPerson : zMv M_X1_addPerson := ⟨(zmt (zt2 (i := 195) rfl) rfl), (zmt (zt2 (i := 196) rfl) rfl), (zmt (zt1 (i := 4) rfl) rfl), (zmt (zt2 (i := 197) rfl) rfl), ⟨by decide, by decide⟩⟩
theorem na_X1_addPerson : (parseMethodDescriptor M_X1_addPerson.1.desc).map (fun d => d.parameters.length) = some 2 := by decide +kernel
theorem pf_X1_addPerson : plainFor M_X1_addPerson.1 = true := by decide +kernel
def M_X1_bitNamed : zM := (yX1_bitNamed, cX1_bitNamed, 4, some .int, { frames := 0, cells := 0, slots := 0, locals := 0 })
theorem mv_X1_bitNamed : zMv M_X1_bitNamed := ⟨(zmt (zt2 (i := 130) rfl) rfl), (zmt (zt2 (i := 131) rfl) rfl), (zmt (zt1 (i := 4) rfl) rfl), (zmt (zt2 (i := 132) rfl) rfl), ⟨by decide, by decide⟩⟩
theorem na_X1_bitNamed : (parseMethodDescriptor M_X1_bitNamed.1.desc).map (fun d => d.parameters.length) = some 1 := by decide +kernel
theorem pf_X1_bitNamed : plainFor M_X1_bitNamed.1 = true := by decide +kernel
def M_X1_isNamed : zM := (yX1_isNamed, cX1_isNamed, 4, some .boolean, { frames := 1, cells := 0, slots := 0, locals := 23 })
theorem mv_X1_isNamed : zMv M_X1_isNamed := ⟨(zmt (zt2 (i := 126) rfl) rfl), (zmt (zt2 (i := 127) rfl) rfl), (zmt (zt1 (i := 4) rfl) rfl), (zmt (zt2 (i := 128) rfl) rfl), ⟨by decide, by decide⟩⟩
theorem na_X1_isNamed : (parseMethodDescriptor M_X1_isNamed.1.desc).map (fun d => d.parameters.length) = some 1 := by decide +kernel
theorem pf_X1_isNamed : plainFor M_X1_isNamed.1 = true := by decide +kernel
def M_X1_hasMet : zM := (yX1_hasMet, cX1_hasMet, 3, some .boolean, { frames := 0, cells := 0, slots := 0, locals := 0 })
theorem mv_X1_hasMet : zMv M_X1_hasMet := ⟨(zmt (zt2 (i := 164) rfl) rfl), (zmt (zt2 (i := 165) rfl) rfl), (zmt (zt1 (i := 4) rfl) rfl), (zmt (zt2 (i := 166) rfl) rfl), ⟨by decide, by decide⟩⟩
theorem na_X1_hasMet : (parseMethodDescriptor M_X1_hasMet.1.desc).map (fun d => d.parameters.length) = some 1 := by decide +kernel
theorem pf_X1_hasMet : plainFor M_X1_hasMet.1 = true := by decide +kernel
def M_X1_isHoliday : zM := (yX1_isHoliday, cX1_isHoliday, 3, some .boolean, { frames := 0, cells := 0, slots := 0, locals := 0 })
theorem mv_X1_isHoliday : zMv M_X1_isHoliday := ⟨(zmt (zt2 (i := 176) rfl) rfl), (zmt (zt2 (i := 177) rfl) rfl), (zmt (zt1 (i := 4) rfl) rfl), (zmt (zt2 (i := 178) rfl) rfl), ⟨by decide, by decide⟩⟩
theorem na_X1_isHoliday : (parseMethodDescriptor M_X1_isHoliday.1.desc).map (fun d => d.parameters.length) = some 1 := by decide +kernel
theorem pf_X1_isHoliday : plainFor M_X1_isHoliday.1 = true := by decide +kernel
def M_X1_cellsTold : zM := (yX1_cellsTold, cX1_cellsTold, 4, some .int, { frames := 0, cells := 0, slots := 0, locals := 0 })
theorem mv_X1_cellsTold : zMv M_X1_cellsTold := ⟨(zmt (zt5 (i := 12) rfl) rfl), (zmt (zt5 (i := 13) rfl) rfl), (zmt (zt1 (i := 4) rfl) rfl), (zmt (zt5 (i := 14) rfl) rfl), ⟨by decide, by decide⟩⟩
theorem na_X1_cellsTold : (parseMethodDescriptor M_X1_cellsTold.1.desc).map (fun d => d.parameters.length) = some 1 := by decide +kernel
theorem pf_X1_cellsTold : plainFor M_X1_cellsTold.1 = true := by decide +kernel
def M_X1_weight : zM := (yX1_weight, cX1_weight, 2, some .int, { frames := 0, cells := 0, slots := 0, locals := 0 })
theorem mv_X1_weight : zMv M_X1_weight := ⟨(zmt (zt3 (i := 5) rfl) rfl), (zmt (zt3 (i := 6) rfl) rfl), (zmt (zt1 (i := 4) rfl) rfl), (zmt (zt3 (i := 7) rfl) rfl), ⟨by decide, by decide⟩⟩
theorem na_X1_weight : (parseMethodDescriptor M_X1_weight.1.desc).map (fun d => d.parameters.length) = some 1 := by decide +kernel
theorem pf_X1_weight : plainFor M_X1_weight.1 = true := by decide +kernel
def M_X1_firstTwins : zM := (yX1_firstTwins, cX1_firstTwins, 3, some .int, { frames := 0, cells := 0, slots := 0, locals := 0 })
theorem mv_X1_firstTwins : zMv M_X1_firstTwins := ⟨(zmt (zt3 (i := 97) rfl) rfl), (zmt (zt3 (i := 98) rfl) rfl), (zmt (zt1 (i := 4) rfl) rfl), (zmt (zt3 (i := 99) rfl) rfl), ⟨by decide, by decide⟩⟩
theorem na_X1_firstTwins : (parseMethodDescriptor M_X1_firstTwins.1.desc).map (fun d => d.parameters.length) = some 0 := by decide +kernel
theorem pf_X1_firstTwins : plainFor M_X1_firstTwins.1 = true := by decide +kernel
def M_X1_cellMoved : zM := (yX1_cellMoved, cX1_cellMoved, 5, some .int, { frames := 1, cells := 0, slots := 0, locals := 22 })
theorem mv_X1_cellMoved : zMv M_X1_cellMoved := ⟨(zmt (zt2 (i := 231) rfl) rfl), (zmt (zt2 (i := 232) rfl) rfl), (zmt (zt1 (i := 4) rfl) rfl), (zmt (zt2 (i := 233) rfl) rfl), ⟨by decide, by decide⟩⟩
theorem na_X1_cellMoved : (parseMethodDescriptor M_X1_cellMoved.1.desc).map (fun d => d.parameters.length) = some 4 := by decide +kernel
theorem pf_X1_cellMoved : plainFor M_X1_cellMoved.1 = true := by decide +kernel
def M_X1_allAfter : zM := (yX1_allAfter, cX1_allAfter, 4, some .boolean, { frames := 2, cells := 0, slots := 0, locals := 46 })
theorem mv_X1_allAfter : zMv M_X1_allAfter := ⟨(zmt (zt3 (i := 129) rfl) rfl), (zmt (zt3 (i := 130) rfl) rfl), (zmt (zt1 (i := 4) rfl) rfl), (zmt (zt3 (i := 131) rfl) rfl), ⟨by decide, by decide⟩⟩
theorem na_X1_allAfter : (parseMethodDescriptor M_X1_allAfter.1.desc).map (fun d => d.parameters.length) = some 2 := by decide +kernel
theorem pf_X1_allAfter : plainFor M_X1_allAfter.1 = true := by decide +kernel
def M_X1_movesNone : zM := (yX1_movesNone, cX1_movesNone, 4, some .boolean, { frames := 2, cells := 0, slots := 0, locals := 46 })
theorem mv_X1_movesNone : zMv M_X1_movesNone := ⟨(zmt (zt3 (i := 134) rfl) rfl), (zmt (zt3 (i := 135) rfl) rfl), (zmt (zt1 (i := 4) rfl) rfl), (zmt (zt3 (i := 136) rfl) rfl), ⟨by decide, by decide⟩⟩
theorem na_X1_movesNone : (parseMethodDescriptor M_X1_movesNone.1.desc).map (fun d => d.parameters.length) = some 2 := by decide +kernel
theorem pf_X1_movesNone : plainFor M_X1_movesNone.1 = true := by decide +kernel
def M_X2_init : zM := (yX2_init, cX2_init, 1, none, { frames := 2, cells := 14, slots := 888, locals := 40 })
theorem mi_X2_init : zMi M_X2_init := ⟨(zmt (zt1 (i := 33) rfl) rfl), (zmt (zt1 (i := 2) rfl) rfl), (zmt (zt1 (i := 34) rfl) rfl), rfl, rfl, ⟨by decide, by decide⟩⟩
theorem na_X2_init : (parseMethodDescriptor M_X2_init.1.desc).map (fun d => d.parameters.length) = some 0 := by decide +kernel
theorem pf_X2_init : plainFor M_X2_init.1 = true := by decide +kernel
def M_X2_reads : zM := (yX2_reads, cX2_reads, 3, some .boolean, { frames := 5, cells := 0, slots := 0, locals := 111 })
theorem mv_X2_reads : zMv M_X2_reads := ⟨(zmt (zt2 (i := 60) rfl) rfl), (zmt (zt2 (i := 61) rfl) rfl), (zmt (zt1 (i := 2) rfl) rfl), (zmt (zt2 (i := 62) rfl) rfl), ⟨by decide, by decide⟩⟩
theorem na_X2_reads : (parseMethodDescriptor M_X2_reads.1.desc).map (fun d => d.parameters.length) = some 1 := by decide +kernel
theorem pf_X2_reads : plainFor M_X2_reads.1 = true := by decide +kernel
def M_X2_fails : zM := (yX2_fails, cX2_fails, 2, some .boolean, { frames := 0, cells := 0, slots := 0, locals := 0 })
theorem mv_X2_fails : zMv M_X2_fails := ⟨(zmt (zt2 (i := 101) rfl) rfl), (zmt (zt2 (i := 102) rfl) rfl), (zmt (zt1 (i := 2) rfl) rfl), (zmt (zt2 (i := 103) rfl) rfl), ⟨by decide, by decide⟩⟩
theorem na_X2_fails : (parseMethodDescriptor M_X2_fails.1.desc).map (fun d => d.parameters.length) = some 1 := by decide +kernel
theorem pf_X2_fails : plainFor M_X2_fails.1 = true := by decide +kernel
def M_X2_readsLine : zM := (yX2_readsLine, cX2_readsLine, 1, some .boolean, { frames := 4, cells := 0, slots := 0, locals := 91 })
theorem mv_X2_readsLine : zMv M_X2_readsLine := ⟨(zmt (zt2 (i := 75) rfl) rfl), (zmt (zt2 (i := 76) rfl) rfl), (zmt (zt1 (i := 2) rfl) rfl), (zmt (zt2 (i := 77) rfl) rfl), ⟨by decide, by decide⟩⟩
theorem na_X2_readsLine : (parseMethodDescriptor M_X2_readsLine.1.desc).map (fun d => d.parameters.length) = some 0 := by decide +kernel
theorem pf_X2_readsLine : plainFor M_X2_readsLine.1 = true := by decide +kernel
def M_X2_startsLine : zM := (yX2_startsLine, cX2_startsLine, 1, some .boolean, { frames := 1, cells := 0, slots := 0, locals := 22 })
theorem mv_X2_startsLine : zMv M_X2_startsLine := ⟨(zmt (zt2 (i := 86) rfl) rfl), (zmt (zt2 (i := 87) rfl) rfl), (zmt (zt1 (i := 2) rfl) rfl), (zmt (zt2 (i := 88) rfl) rfl), ⟨by decide, by decide⟩⟩
theorem na_X2_startsLine : (parseMethodDescriptor M_X2_startsLine.1.desc).map (fun d => d.parameters.length) = some 0 := by decide +kernel
theorem pf_X2_startsLine : plainFor M_X2_startsLine.1 = true := by decide +kernel
def M_X2_readsTube : zM := (yX2_readsTube, cX2_readsTube, 1, some .boolean, { frames := 3, cells := 0, slots := 0, locals := 63 })
theorem mv_X2_readsTube : zMv M_X2_readsTube := ⟨(zmt (zt2 (i := 105) rfl) rfl), (zmt (zt2 (i := 106) rfl) rfl), (zmt (zt1 (i := 2) rfl) rfl), (zmt (zt2 (i := 107) rfl) rfl), ⟨by decide, by decide⟩⟩
theorem na_X2_readsTube : (parseMethodDescriptor M_X2_readsTube.1.desc).map (fun d => d.parameters.length) = some 0 := by decide +kernel
theorem pf_X2_readsTube : plainFor M_X2_readsTube.1 = true := by decide +kernel
def M_X2_readsBit : zM := (yX2_readsBit, cX2_readsBit, 6, some .boolean, { frames := 3, cells := 0, slots := 0, locals := 66 })
theorem mv_X2_readsBit : zMv M_X2_readsBit := ⟨(zmt (zt2 (i := 118) rfl) rfl), (zmt (zt2 (i := 119) rfl) rfl), (zmt (zt1 (i := 2) rfl) rfl), (zmt (zt2 (i := 120) rfl) rfl), ⟨by decide, by decide⟩⟩
theorem na_X2_readsBit : (parseMethodDescriptor M_X2_readsBit.1.desc).map (fun d => d.parameters.length) = some 0 := by decide +kernel
theorem pf_X2_readsBit : plainFor M_X2_readsBit.1 = true := by decide +kernel
def M_X2_sortTold : zM := (yX2_sortTold, cX2_sortTold, 1, some .int, { frames := 1, cells := 0, slots := 0, locals := 22 })
theorem mv_X2_sortTold : zMv M_X2_sortTold := ⟨(zmt (zt2 (i := 134) rfl) rfl), (zmt (zt2 (i := 135) rfl) rfl), (zmt (zt1 (i := 2) rfl) rfl), (zmt (zt2 (i := 136) rfl) rfl), ⟨by decide, by decide⟩⟩
theorem na_X2_sortTold : (parseMethodDescriptor M_X2_sortTold.1.desc).map (fun d => d.parameters.length) = some 0 := by decide +kernel
theorem pf_X2_sortTold : plainFor M_X2_sortTold.1 = true := by decide +kernel
def M_X2_readsCellOfBit : zM := (yX2_readsCellOfBit, cX2_readsCellOfBit, 3, some .boolean, { frames := 3, cells := 0, slots := 0, locals := 64 })
theorem mv_X2_readsCellOfBit : zMv M_X2_readsCellOfBit := ⟨(zmt (zt2 (i := 151) rfl) rfl), (zmt (zt2 (i := 152) rfl) rfl), (zmt (zt1 (i := 2) rfl) rfl), (zmt (zt2 (i := 153) rfl) rfl), ⟨by decide, by decide⟩⟩
theorem na_X2_readsCellOfBit : (parseMethodDescriptor M_X2_readsCellOfBit.1.desc).map (fun d => d.parameters.length) = some 1 := by decide +kernel
theorem pf_X2_readsCellOfBit : plainFor M_X2_readsCellOfBit.1 = true := by decide +kernel
def M_X2_readsMet : zM := (yX2_readsMet, cX2_readsMet, 2, some .boolean, { frames := 3, cells := 0, slots := 0, locals := 62 })
theorem mv_X2_readsMet : zMv M_X2_readsMet := ⟨(zmt (zt2 (i := 160) rfl) rfl), (zmt (zt2 (i := 161) rfl) rfl), (zmt (zt1 (i := 2) rfl) rfl), (zmt (zt2 (i := 162) rfl) rfl), ⟨by decide, by decide⟩⟩
theorem na_X2_readsMet : (parseMethodDescriptor M_X2_readsMet.1.desc).map (fun d => d.parameters.length) = some 0 := by decide +kernel
theorem pf_X2_readsMet : plainFor M_X2_readsMet.1 = true := by decide +kernel
def M_X2_readsHoliday : zM := (yX2_readsHoliday, cX2_readsHoliday, 1, some .boolean, { frames := 3, cells := 0, slots := 0, locals := 62 })
theorem mv_X2_readsHoliday : zMv M_X2_readsHoliday := ⟨(zmt (zt2 (i := 172) rfl) rfl), (zmt (zt2 (i := 173) rfl) rfl), (zmt (zt1 (i := 2) rfl) rfl), (zmt (zt2 (i := 174) rfl) rfl), ⟨by decide, by decide⟩⟩
theorem na_X2_readsHoliday : (parseMethodDescriptor M_X2_readsHoliday.1.desc).map (fun d => d.parameters.length) = some 0 := by decide +kernel
theorem pf_X2_readsHoliday : plainFor M_X2_readsHoliday.1 = true := by decide +kernel
def M_X2_readsPerson : zM := (yX2_readsPerson, cX2_readsPerson, 4, some .boolean, { frames := 3, cells := 0, slots := 0, locals := 66 })
theorem mv_X2_readsPerson : zMv M_X2_readsPerson := ⟨(zmt (zt2 (i := 184) rfl) rfl), (zmt (zt2 (i := 185) rfl) rfl), (zmt (zt1 (i := 2) rfl) rfl), (zmt (zt2 (i := 186) rfl) rfl), ⟨by decide, by decide⟩⟩
theorem na_X2_readsPerson : (parseMethodDescriptor M_X2_readsPerson.1.desc).map (fun d => d.parameters.length) = some 0 := by decide +kernel
theorem pf_X2_readsPerson : plainFor M_X2_readsPerson.1 = true := by decide +kernel
def M_X2_readsWord : zM := (yX2_readsWord, cX2_readsWord, 3, some .boolean, { frames := 2, cells := 0, slots := 0, locals := 41 })
theorem mv_X2_readsWord : zMv M_X2_readsWord := ⟨(zmt (zt2 (i := 110) rfl) rfl), (zmt (zt2 (i := 111) rfl) rfl), (zmt (zt1 (i := 2) rfl) rfl), (zmt (zt2 (i := 112) rfl) rfl), ⟨by decide, by decide⟩⟩
theorem na_X2_readsWord : (parseMethodDescriptor M_X2_readsWord.1.desc).map (fun d => d.parameters.length) = some 1 := by decide +kernel
theorem pf_X2_readsWord : plainFor M_X2_readsWord.1 = true := by decide +kernel
def M_X2_readsAnyWord : zM := (yX2_readsAnyWord, cX2_readsAnyWord, 1, some .boolean, { frames := 2, cells := 0, slots := 0, locals := 41 })
theorem mv_X2_readsAnyWord : zMv M_X2_readsAnyWord := ⟨(zmt (zt2 (i := 142) rfl) rfl), (zmt (zt2 (i := 143) rfl) rfl), (zmt (zt1 (i := 2) rfl) rfl), (zmt (zt2 (i := 144) rfl) rfl), ⟨by decide, by decide⟩⟩
theorem na_X2_readsAnyWord : (parseMethodDescriptor M_X2_readsAnyWord.1.desc).map (fun d => d.parameters.length) = some 0 := by decide +kernel
theorem pf_X2_readsAnyWord : plainFor M_X2_readsAnyWord.1 = true := by decide +kernel
def M_X2_readsWhole : zM := (yX2_readsWhole, cX2_readsWhole, 2, some .boolean, { frames := 2, cells := 0, slots := 0, locals := 41 })
theorem mv_X2_readsWhole : zMv M_X2_readsWhole := ⟨(zmt (zt2 (i := 114) rfl) rfl), (zmt (zt2 (i := 115) rfl) rfl), (zmt (zt1 (i := 2) rfl) rfl), (zmt (zt2 (i := 116) rfl) rfl), ⟨by decide, by decide⟩⟩
theorem na_X2_readsWhole : (parseMethodDescriptor M_X2_readsWhole.1.desc).map (fun d => d.parameters.length) = some 1 := by decide +kernel
theorem pf_X2_readsWhole : plainFor M_X2_readsWhole.1 = true := by decide +kernel
def M_X2_readsNewName : zM := (yX2_readsNewName, cX2_readsNewName, 1, some .boolean, { frames := 2, cells := 0, slots := 0, locals := 46 })
theorem mv_X2_readsNewName : zMv M_X2_readsNewName := ⟨(zmt (zt2 (i := 122) rfl) rfl), (zmt (zt2 (i := 123) rfl) rfl), (zmt (zt1 (i := 2) rfl) rfl), (zmt (zt2 (i := 124) rfl) rfl), ⟨by decide, by decide⟩⟩
theorem na_X2_readsNewName : (parseMethodDescriptor M_X2_readsNewName.1.desc).map (fun d => d.parameters.length) = some 0 := by decide +kernel
theorem pf_X2_readsNewName : plainFor M_X2_readsNewName.1 = true := by decide +kernel
def M_X2_readsOldBit : zM := (yX2_readsOldBit, cX2_readsOldBit, 3, some .int, { frames := 2, cells := 0, slots := 0, locals := 42 })
theorem mv_X2_readsOldBit : zMv M_X2_readsOldBit := ⟨(zmt (zt2 (i := 155) rfl) rfl), (zmt (zt2 (i := 156) rfl) rfl), (zmt (zt1 (i := 2) rfl) rfl), (zmt (zt2 (i := 157) rfl) rfl), ⟨by decide, by decide⟩⟩
theorem na_X2_readsOldBit : (parseMethodDescriptor M_X2_readsOldBit.1.desc).map (fun d => d.parameters.length) = some 1 := by decide +kernel
theorem pf_X2_readsOldBit : plainFor M_X2_readsOldBit.1 = true := by decide +kernel
def M_X3_init : zM := (yX3_init, cX3_init, 5, none, { frames := 2, cells := 8, slots := 1014, locals := 43 })
theorem mi_X3_init : zMi M_X3_init := ⟨(zmt (zt1 (i := 222) rfl) rfl), (zmt (zt1 (i := 7) rfl) rfl), (zmt (zt1 (i := 223) rfl) rfl), rfl, rfl, ⟨by decide, by decide⟩⟩
theorem na_X3_init : (parseMethodDescriptor M_X3_init.1.desc).map (fun d => d.parameters.length) = some 0 := by decide +kernel
theorem pf_X3_init : plainFor M_X3_init.1 = true := by decide +kernel
def M_X3_shiftOf : zM := (yX3_shiftOf, cX3_shiftOf, 2, some .int, { frames := 1, cells := 0, slots := 0, locals := 22 })
theorem ms_X3_shiftOf : zMs M_X3_shiftOf := ⟨(zmt (zt1 (i := 230) rfl) rfl), (zmt (zt1 (i := 7) rfl) rfl), (zmt (zt1 (i := 231) rfl) rfl), ⟨by decide, by decide⟩⟩
theorem na_X3_shiftOf : (parseMethodDescriptor M_X3_shiftOf.1.desc).map (fun d => d.parameters.length) = some 2 := by decide +kernel
theorem pf_X3_shiftOf : plainFor M_X3_shiftOf.1 = true := by decide +kernel
def M_X3_aim : zM := (yX3_aim, cX3_aim, 4, none, { frames := 2, cells := 0, slots := 0, locals := 43 })
theorem mv_X3_aim : zMv M_X3_aim := ⟨(zmt (zt3 (i := 138) rfl) rfl), (zmt (zt3 (i := 139) rfl) rfl), (zmt (zt1 (i := 7) rfl) rfl), (zmt (zt3 (i := 140) rfl) rfl), ⟨by decide, by decide⟩⟩
theorem na_X3_aim : (parseMethodDescriptor M_X3_aim.1.desc).map (fun d => d.parameters.length) = some 3 := by decide +kernel
theorem pf_X3_aim : plainFor M_X3_aim.1 = true := by decide +kernel
def M_X3_rowsToGoal : zM := (yX3_rowsToGoal, cX3_rowsToGoal, 6, some .int, { frames := 2, cells := 0, slots := 0, locals := 43 })
theorem mv_X3_rowsToGoal : zMv M_X3_rowsToGoal := ⟨(zmt (zt3 (i := 146) rfl) rfl), (zmt (zt3 (i := 147) rfl) rfl), (zmt (zt1 (i := 7) rfl) rfl), (zmt (zt3 (i := 148) rfl) rfl), ⟨by decide, by decide⟩⟩
theorem na_X3_rowsToGoal : (parseMethodDescriptor M_X3_rowsToGoal.1.desc).map (fun d => d.parameters.length) = some 3 := by decide +kernel
theorem pf_X3_rowsToGoal : plainFor M_X3_rowsToGoal.1 = true := by decide +kernel
def M_X3_fewestTurns : zM := (yX3_fewestTurns, cX3_fewestTurns, 3, some .int, { frames := 3, cells := 0, slots := 0, locals := 68 })
theorem mv_X3_fewestTurns : zMv M_X3_fewestTurns := ⟨(zmt (zt3 (i := 142) rfl) rfl), (zmt (zt3 (i := 143) rfl) rfl), (zmt (zt1 (i := 7) rfl) rfl), (zmt (zt3 (i := 144) rfl) rfl), ⟨by decide, by decide⟩⟩
theorem na_X3_fewestTurns : (parseMethodDescriptor M_X3_fewestTurns.1.desc).map (fun d => d.parameters.length) = some 1 := by decide +kernel
theorem pf_X3_fewestTurns : plainFor M_X3_fewestTurns.1 = true := by decide +kernel
def M_X3_rowAt : zM := (yX3_rowAt, cX3_rowAt, 10, some .int, { frames := 3, cells := 0, slots := 0, locals := 68 })
theorem mv_X3_rowAt : zMv M_X3_rowAt := ⟨(zmt (zt3 (i := 154) rfl) rfl), (zmt (zt3 (i := 155) rfl) rfl), (zmt (zt1 (i := 7) rfl) rfl), (zmt (zt3 (i := 156) rfl) rfl), ⟨by decide, by decide⟩⟩
theorem na_X3_rowAt : (parseMethodDescriptor M_X3_rowAt.1.desc).map (fun d => d.parameters.length) = some 2 := by decide +kernel
theorem pf_X3_rowAt : plainFor M_X3_rowAt.1 = true := by decide +kernel
def M_X4_init : zM := (yX4_init, cX4_init, 1, none, { frames := 2, cells := 13, slots := 95, locals := 40 })
theorem mi_X4_init : zMi M_X4_init := ⟨(zmt (zt1 (i := 179) rfl) rfl), (zmt (zt1 (i := 5) rfl) rfl), (zmt (zt1 (i := 180) rfl) rfl), rfl, rfl, ⟨by decide, by decide⟩⟩
theorem na_X4_init : (parseMethodDescriptor M_X4_init.1.desc).map (fun d => d.parameters.length) = some 0 := by decide +kernel
theorem pf_X4_init : plainFor M_X4_init.1 = true := by decide +kernel
def M_X4_begin : zM := (yX4_begin, cX4_begin, 4, some (.object "MirrorTube$Plan"), { frames := 0, cells := 0, slots := 0, locals := 0 })
theorem mv_X4_begin : zMv M_X4_begin := ⟨(zmt (zt2 (i := 199) rfl) rfl), (zmt (zt2 (i := 200) rfl) rfl), (zmt (zt1 (i := 5) rfl) rfl), (zmt (zt2 (i := 201) rfl) rfl), ⟨by decide, by decide⟩⟩
theorem na_X4_begin : (parseMethodDescriptor M_X4_begin.1.desc).map (fun d => d.parameters.length) = some 1 := by decide +kernel
theorem pf_X4_begin : plainFor M_X4_begin.1 = true := by decide +kernel
def M_X4_day : zM := (yX4_day, cX4_day, 1, some .int, { frames := 0, cells := 0, slots := 0, locals := 0 })
theorem mv_X4_day : zMv M_X4_day := ⟨(zmt (zt4 (i := 162) rfl) rfl), (zmt (zt4 (i := 163) rfl) rfl), (zmt (zt1 (i := 5) rfl) rfl), (zmt (zt4 (i := 164) rfl) rfl), ⟨by decide, by decide⟩⟩
theorem na_X4_day : (parseMethodDescriptor M_X4_day.1.desc).map (fun d => d.parameters.length) = some 0 := by decide +kernel
theorem pf_X4_day : plainFor M_X4_day.1 = true := by decide +kernel
def M_X4_spotOf : zM := (yX4_spotOf, cX4_spotOf, 2, some .int, { frames := 0, cells := 0, slots := 0, locals := 0 })
theorem mv_X4_spotOf : zMv M_X4_spotOf := ⟨(zmt (zt4 (i := 58) rfl) rfl), (zmt (zt4 (i := 59) rfl) rfl), (zmt (zt1 (i := 5) rfl) rfl), (zmt (zt4 (i := 60) rfl) rfl), ⟨by decide, by decide⟩⟩
theorem na_X4_spotOf : (parseMethodDescriptor M_X4_spotOf.1.desc).map (fun d => d.parameters.length) = some 1 := by decide +kernel
theorem pf_X4_spotOf : plainFor M_X4_spotOf.1 = true := by decide +kernel
def M_X4_stepsOf : zM := (yX4_stepsOf, cX4_stepsOf, 2, some .int, { frames := 0, cells := 0, slots := 0, locals := 0 })
theorem mv_X4_stepsOf : zMv M_X4_stepsOf := ⟨(zmt (zt4 (i := 68) rfl) rfl), (zmt (zt4 (i := 69) rfl) rfl), (zmt (zt1 (i := 5) rfl) rfl), (zmt (zt4 (i := 70) rfl) rfl), ⟨by decide, by decide⟩⟩
theorem na_X4_stepsOf : (parseMethodDescriptor M_X4_stepsOf.1.desc).map (fun d => d.parameters.length) = some 1 := by decide +kernel
theorem pf_X4_stepsOf : plainFor M_X4_stepsOf.1 = true := by decide +kernel
def M_X4_passDays : zM := (yX4_passDays, cX4_passDays, 2, none, { frames := 0, cells := 0, slots := 0, locals := 0 })
theorem mv_X4_passDays : zMv M_X4_passDays := ⟨(zmt (zt4 (i := 216) rfl) rfl), (zmt (zt4 (i := 217) rfl) rfl), (zmt (zt1 (i := 5) rfl) rfl), (zmt (zt4 (i := 218) rfl) rfl), ⟨by decide, by decide⟩⟩
theorem na_X4_passDays : (parseMethodDescriptor M_X4_passDays.1.desc).map (fun d => d.parameters.length) = some 1 := by decide +kernel
theorem pf_X4_passDays : plainFor M_X4_passDays.1 = true := by decide +kernel
def M_X4_turnAll : zM := (yX4_turnAll, cX4_turnAll, 3, none, { frames := 3, cells := 0, slots := 0, locals := 69 })
theorem mv_X4_turnAll : zMv M_X4_turnAll := ⟨(zmt (zt4 (i := 198) rfl) rfl), (zmt (zt4 (i := 199) rfl) rfl), (zmt (zt1 (i := 5) rfl) rfl), (zmt (zt4 (i := 200) rfl) rfl), ⟨by decide, by decide⟩⟩
theorem na_X4_turnAll : (parseMethodDescriptor M_X4_turnAll.1.desc).map (fun d => d.parameters.length) = some 1 := by decide +kernel
theorem pf_X4_turnAll : plainFor M_X4_turnAll.1 = true := by decide +kernel
def M_X4_stepPerson : zM := (yX4_stepPerson, cX4_stepPerson, 5, some .int, { frames := 4, cells := 0, slots := 0, locals := 94 })
theorem mv_X4_stepPerson : zMv M_X4_stepPerson := ⟨(zmt (zt4 (i := 207) rfl) rfl), (zmt (zt4 (i := 208) rfl) rfl), (zmt (zt1 (i := 5) rfl) rfl), (zmt (zt4 (i := 209) rfl) rfl), ⟨by decide, by decide⟩⟩
theorem na_X4_stepPerson : (parseMethodDescriptor M_X4_stepPerson.1.desc).map (fun d => d.parameters.length) = some 2 := by decide +kernel
theorem pf_X4_stepPerson : plainFor M_X4_stepPerson.1 = true := by decide +kernel
def M_X4_cellBehind : zM := (yX4_cellBehind, cX4_cellBehind, 4, some .int, { frames := 2, cells := 0, slots := 0, locals := 46 })
theorem mv_X4_cellBehind : zMv M_X4_cellBehind := ⟨(zmt (zt2 (i := 227) rfl) rfl), (zmt (zt2 (i := 228) rfl) rfl), (zmt (zt1 (i := 5) rfl) rfl), (zmt (zt2 (i := 229) rfl) rfl), ⟨by decide, by decide⟩⟩
theorem na_X4_cellBehind : (parseMethodDescriptor M_X4_cellBehind.1.desc).map (fun d => d.parameters.length) = some 3 := by decide +kernel
theorem pf_X4_cellBehind : plainFor M_X4_cellBehind.1 = true := by decide +kernel
def M_X4_topIn : zM := (yX4_topIn, cX4_topIn, 7, some .int, { frames := 2, cells := 0, slots := 0, locals := 46 })
theorem mv_X4_topIn : zMv M_X4_topIn := ⟨(zmt (zt3 (i := 1) rfl) rfl), (zmt (zt3 (i := 2) rfl) rfl), (zmt (zt1 (i := 5) rfl) rfl), (zmt (zt3 (i := 3) rfl) rfl), ⟨by decide, by decide⟩⟩
theorem na_X4_topIn : (parseMethodDescriptor M_X4_topIn.1.desc).map (fun d => d.parameters.length) = some 3 := by decide +kernel
theorem pf_X4_topIn : plainFor M_X4_topIn.1 = true := by decide +kernel
def M_X4_isTop : zM := (yX4_isTop, cX4_isTop, 4, some .boolean, { frames := 3, cells := 0, slots := 0, locals := 72 })
theorem mv_X4_isTop : zMv M_X4_isTop := ⟨(zmt (zt2 (i := 236) rfl) rfl), (zmt (zt2 (i := 237) rfl) rfl), (zmt (zt1 (i := 5) rfl) rfl), (zmt (zt2 (i := 238) rfl) rfl), ⟨by decide, by decide⟩⟩
theorem na_X4_isTop : (parseMethodDescriptor M_X4_isTop.1.desc).map (fun d => d.parameters.length) = some 3 := by decide +kernel
theorem pf_X4_isTop : plainFor M_X4_isTop.1 = true := by decide +kernel
def M_X4_topCount : zM := (yX4_topCount, cX4_topCount, 3, some .int, { frames := 3, cells := 0, slots := 0, locals := 70 })
theorem mv_X4_topCount : zMv M_X4_topCount := ⟨(zmt (zt3 (i := 79) rfl) rfl), (zmt (zt3 (i := 80) rfl) rfl), (zmt (zt1 (i := 5) rfl) rfl), (zmt (zt3 (i := 81) rfl) rfl), ⟨by decide, by decide⟩⟩
theorem na_X4_topCount : (parseMethodDescriptor M_X4_topCount.1.desc).map (fun d => d.parameters.length) = some 2 := by decide +kernel
theorem pf_X4_topCount : plainFor M_X4_topCount.1 = true := by decide +kernel
def M_X4_heldCells : zM := (yX4_heldCells, cX4_heldCells, 5, some .int, { frames := 2, cells := 0, slots := 0, locals := 46 })
theorem mv_X4_heldCells : zMv M_X4_heldCells := ⟨(zmt (zt3 (i := 83) rfl) rfl), (zmt (zt3 (i := 84) rfl) rfl), (zmt (zt1 (i := 5) rfl) rfl), (zmt (zt3 (i := 85) rfl) rfl), ⟨by decide, by decide⟩⟩
theorem na_X4_heldCells : (parseMethodDescriptor M_X4_heldCells.1.desc).map (fun d => d.parameters.length) = some 2 := by decide +kernel
theorem pf_X4_heldCells : plainFor M_X4_heldCells.1 = true := by decide +kernel
def M_X4_bitsIn : zM := (yX4_bitsIn, cX4_bitsIn, 4, some .int, { frames := 3, cells := 0, slots := 0, locals := 69 })
theorem mv_X4_bitsIn : zMv M_X4_bitsIn := ⟨(zmt (zt3 (i := 25) rfl) rfl), (zmt (zt3 (i := 26) rfl) rfl), (zmt (zt1 (i := 5) rfl) rfl), (zmt (zt3 (i := 27) rfl) rfl), ⟨by decide, by decide⟩⟩
theorem na_X4_bitsIn : (parseMethodDescriptor M_X4_bitsIn.1.desc).map (fun d => d.parameters.length) = some 1 := by decide +kernel
theorem pf_X4_bitsIn : plainFor M_X4_bitsIn.1 = true := by decide +kernel
def M_X4_bitsUnder : zM := (yX4_bitsUnder, cX4_bitsUnder, 3, some .int, { frames := 4, cells := 0, slots := 0, locals := 95 })
theorem mv_X4_bitsUnder : zMv M_X4_bitsUnder := ⟨(zmt (zt3 (i := 58) rfl) rfl), (zmt (zt3 (i := 59) rfl) rfl), (zmt (zt1 (i := 5) rfl) rfl), (zmt (zt3 (i := 60) rfl) rfl), ⟨by decide, by decide⟩⟩
theorem na_X4_bitsUnder : (parseMethodDescriptor M_X4_bitsUnder.1.desc).map (fun d => d.parameters.length) = some 0 := by decide +kernel
theorem pf_X4_bitsUnder : plainFor M_X4_bitsUnder.1 = true := by decide +kernel
def M_X4_rightBits : zM := (yX4_rightBits, cX4_rightBits, 5, some .int, { frames := 3, cells := 0, slots := 0, locals := 69 })
theorem mv_X4_rightBits : zMv M_X4_rightBits := ⟨(zmt (zt3 (i := 109) rfl) rfl), (zmt (zt3 (i := 110) rfl) rfl), (zmt (zt1 (i := 5) rfl) rfl), (zmt (zt3 (i := 111) rfl) rfl), ⟨by decide, by decide⟩⟩
theorem na_X4_rightBits : (parseMethodDescriptor M_X4_rightBits.1.desc).map (fun d => d.parameters.length) = some 2 := by decide +kernel
theorem pf_X4_rightBits : plainFor M_X4_rightBits.1 = true := by decide +kernel
def M_X4_allRight : zM := (yX4_allRight, cX4_allRight, 4, some .boolean, { frames := 3, cells := 0, slots := 0, locals := 69 })
theorem mv_X4_allRight : zMv M_X4_allRight := ⟨(zmt (zt3 (i := 125) rfl) rfl), (zmt (zt3 (i := 126) rfl) rfl), (zmt (zt1 (i := 5) rfl) rfl), (zmt (zt3 (i := 127) rfl) rfl), ⟨by decide, by decide⟩⟩
theorem na_X4_allRight : (parseMethodDescriptor M_X4_allRight.1.desc).map (fun d => d.parameters.length) = some 2 := by decide +kernel
theorem pf_X4_allRight : plainFor M_X4_allRight.1 = true := by decide +kernel
def M_X4_canLie : zM := (yX4_canLie, cX4_canLie, 4, some .boolean, { frames := 0, cells := 0, slots := 0, locals := 0 })
theorem mv_X4_canLie : zMv M_X4_canLie := ⟨(zmt (zt3 (i := 167) rfl) rfl), (zmt (zt3 (i := 168) rfl) rfl), (zmt (zt1 (i := 5) rfl) rfl), (zmt (zt3 (i := 169) rfl) rfl), ⟨by decide, by decide⟩⟩
theorem na_X4_canLie : (parseMethodDescriptor M_X4_canLie.1.desc).map (fun d => d.parameters.length) = some 2 := by decide +kernel
theorem pf_X4_canLie : plainFor M_X4_canLie.1 = true := by decide +kernel
def M_X4_shownAt : zM := (yX4_shownAt, cX4_shownAt, 3, some .int, { frames := 3, cells := 0, slots := 0, locals := 72 })
theorem mv_X4_shownAt : zMv M_X4_shownAt := ⟨(zmt (zt3 (i := 39) rfl) rfl), (zmt (zt3 (i := 40) rfl) rfl), (zmt (zt1 (i := 5) rfl) rfl), (zmt (zt3 (i := 41) rfl) rfl), ⟨by decide, by decide⟩⟩
theorem na_X4_shownAt : (parseMethodDescriptor M_X4_shownAt.1.desc).map (fun d => d.parameters.length) = some 2 := by decide +kernel
theorem pf_X4_shownAt : plainFor M_X4_shownAt.1 = true := by decide +kernel
def M_X4_colourAt : zM := (yX4_colourAt, cX4_colourAt, 4, some .long, { frames := 3, cells := 0, slots := 0, locals := 72 })
theorem mv_X4_colourAt : zMv M_X4_colourAt := ⟨(zmt (zt3 (i := 212) rfl) rfl), (zmt (zt3 (i := 213) rfl) rfl), (zmt (zt1 (i := 5) rfl) rfl), (zmt (zt3 (i := 214) rfl) rfl), ⟨by decide, by decide⟩⟩
theorem na_X4_colourAt : (parseMethodDescriptor M_X4_colourAt.1.desc).map (fun d => d.parameters.length) = some 2 := by decide +kernel
theorem pf_X4_colourAt : plainFor M_X4_colourAt.1 = true := by decide +kernel
def M_X4_firstNotMet : zM := (yX4_firstNotMet, cX4_firstNotMet, 3, some .int, { frames := 4, cells := 0, slots := 0, locals := 95 })
theorem mv_X4_firstNotMet : zMv M_X4_firstNotMet := ⟨(zmt (zt3 (i := 208) rfl) rfl), (zmt (zt3 (i := 209) rfl) rfl), (zmt (zt1 (i := 5) rfl) rfl), (zmt (zt3 (i := 210) rfl) rfl), ⟨by decide, by decide⟩⟩
theorem na_X4_firstNotMet : (parseMethodDescriptor M_X4_firstNotMet.1.desc).map (fun d => d.parameters.length) = some 1 := by decide +kernel
theorem pf_X4_firstNotMet : plainFor M_X4_firstNotMet.1 = true := by decide +kernel
def M_X4_countriesMet : zM := (yX4_countriesMet, cX4_countriesMet, 3, some .int, { frames := 5, cells := 0, slots := 0, locals := 117 })
theorem mv_X4_countriesMet : zMv M_X4_countriesMet := ⟨(zmt (zt3 (i := 204) rfl) rfl), (zmt (zt3 (i := 205) rfl) rfl), (zmt (zt1 (i := 5) rfl) rfl), (zmt (zt3 (i := 206) rfl) rfl), ⟨by decide, by decide⟩⟩
theorem na_X4_countriesMet : (parseMethodDescriptor M_X4_countriesMet.1.desc).map (fun d => d.parameters.length) = some 0 := by decide +kernel
theorem pf_X4_countriesMet : plainFor M_X4_countriesMet.1 = true := by decide +kernel
def M_X4_bestLook : zM := (yX4_bestLook, cX4_bestLook, 6, some .int, { frames := 6, cells := 0, slots := 0, locals := 145 })
theorem mv_X4_bestLook : zMv M_X4_bestLook := ⟨(zmt (zt3 (i := 228) rfl) rfl), (zmt (zt3 (i := 229) rfl) rfl), (zmt (zt1 (i := 5) rfl) rfl), (zmt (zt3 (i := 230) rfl) rfl), ⟨by decide, by decide⟩⟩
theorem na_X4_bestLook : (parseMethodDescriptor M_X4_bestLook.1.desc).map (fun d => d.parameters.length) = some 1 := by decide +kernel
theorem pf_X4_bestLook : plainFor M_X4_bestLook.1 = true := by decide +kernel
def M_X4_mostLeft : zM := (yX4_mostLeft, cX4_mostLeft, 5, some .int, { frames := 5, cells := 0, slots := 0, locals := 121 })
theorem mv_X4_mostLeft : zMv M_X4_mostLeft := ⟨(zmt (zt3 (i := 232) rfl) rfl), (zmt (zt3 (i := 233) rfl) rfl), (zmt (zt1 (i := 5) rfl) rfl), (zmt (zt3 (i := 234) rfl) rfl), ⟨by decide, by decide⟩⟩
theorem na_X4_mostLeft : (parseMethodDescriptor M_X4_mostLeft.1.desc).map (fun d => d.parameters.length) = some 2 := by decide +kernel
theorem pf_X4_mostLeft : plainFor M_X4_mostLeft.1 = true := by decide +kernel
def M_X4_lookingLike : zM := (yX4_lookingLike, cX4_lookingLike, 7, some .int, { frames := 4, cells := 0, slots := 0, locals := 95 })
theorem mv_X4_lookingLike : zMv M_X4_lookingLike := ⟨(zmt (zt3 (i := 236) rfl) rfl), (zmt (zt3 (i := 237) rfl) rfl), (zmt (zt1 (i := 5) rfl) rfl), (zmt (zt3 (i := 238) rfl) rfl), ⟨by decide, by decide⟩⟩
theorem na_X4_lookingLike : (parseMethodDescriptor M_X4_lookingLike.1.desc).map (fun d => d.parameters.length) = some 3 := by decide +kernel
theorem pf_X4_lookingLike : plainFor M_X4_lookingLike.1 = true := by decide +kernel
def M_X4_fewestWatchers : zM := (yX4_fewestWatchers, cX4_fewestWatchers, 6, some .int, { frames := 3, cells := 0, slots := 0, locals := 70 })
theorem mv_X4_fewestWatchers : zMv M_X4_fewestWatchers := ⟨(zmt (zt4 (i := 42) rfl) rfl), (zmt (zt4 (i := 43) rfl) rfl), (zmt (zt1 (i := 5) rfl) rfl), (zmt (zt4 (i := 44) rfl) rfl), ⟨by decide, by decide⟩⟩
theorem na_X4_fewestWatchers : (parseMethodDescriptor M_X4_fewestWatchers.1.desc).map (fun d => d.parameters.length) = some 1 := by decide +kernel
theorem pf_X4_fewestWatchers : plainFor M_X4_fewestWatchers.1 = true := by decide +kernel
def M_X4_widened : zM := (yX4_widened, cX4_widened, 5, some .int, { frames := 0, cells := 0, slots := 0, locals := 0 })
theorem mv_X4_widened : zMv M_X4_widened := ⟨(zmt (zt4 (i := 46) rfl) rfl), (zmt (zt4 (i := 47) rfl) rfl), (zmt (zt1 (i := 5) rfl) rfl), (zmt (zt4 (i := 48) rfl) rfl), ⟨by decide, by decide⟩⟩
theorem na_X4_widened : (parseMethodDescriptor M_X4_widened.1.desc).map (fun d => d.parameters.length) = some 2 := by decide +kernel
theorem pf_X4_widened : plainFor M_X4_widened.1 = true := by decide +kernel
def M_X4_stepInto : zM := (yX4_stepInto, cX4_stepInto, 3, some .int, { frames := 3, cells := 0, slots := 0, locals := 72 })
theorem mv_X4_stepInto : zMv M_X4_stepInto := ⟨(zmt (zt4 (i := 88) rfl) rfl), (zmt (zt4 (i := 89) rfl) rfl), (zmt (zt1 (i := 5) rfl) rfl), (zmt (zt4 (i := 90) rfl) rfl), ⟨by decide, by decide⟩⟩
theorem na_X4_stepInto : (parseMethodDescriptor M_X4_stepInto.1.desc).map (fun d => d.parameters.length) = some 1 := by decide +kernel
theorem pf_X4_stepInto : plainFor M_X4_stepInto.1 = true := by decide +kernel
def M_X4_lengthTo : zM := (yX4_lengthTo, cX4_lengthTo, 7, some .int, { frames := 4, cells := 0, slots := 0, locals := 94 })
theorem mv_X4_lengthTo : zMv M_X4_lengthTo := ⟨(zmt (zt4 (i := 81) rfl) rfl), (zmt (zt4 (i := 82) rfl) rfl), (zmt (zt1 (i := 5) rfl) rfl), (zmt (zt4 (i := 83) rfl) rfl), ⟨by decide, by decide⟩⟩
theorem na_X4_lengthTo : (parseMethodDescriptor M_X4_lengthTo.1.desc).map (fun d => d.parameters.length) = some 3 := by decide +kernel
theorem pf_X4_lengthTo : plainFor M_X4_lengthTo.1 = true := by decide +kernel
def M_X4_wayLength : zM := (yX4_wayLength, cX4_wayLength, 3, some .int, { frames := 5, cells := 0, slots := 0, locals := 120 })
theorem mv_X4_wayLength : zMv M_X4_wayLength := ⟨(zmt (zt4 (i := 77) rfl) rfl), (zmt (zt4 (i := 78) rfl) rfl), (zmt (zt1 (i := 5) rfl) rfl), (zmt (zt4 (i := 79) rfl) rfl), ⟨by decide, by decide⟩⟩
theorem na_X4_wayLength : (parseMethodDescriptor M_X4_wayLength.1.desc).map (fun d => d.parameters.length) = some 2 := by decide +kernel
theorem pf_X4_wayLength : plainFor M_X4_wayLength.1 = true := by decide +kernel
def M_X4_goesUp : zM := (yX4_goesUp, cX4_goesUp, 3, some .boolean, { frames := 5, cells := 0, slots := 0, locals := 120 })
theorem mv_X4_goesUp : zMv M_X4_goesUp := ⟨(zmt (zt4 (i := 100) rfl) rfl), (zmt (zt4 (i := 101) rfl) rfl), (zmt (zt1 (i := 5) rfl) rfl), (zmt (zt4 (i := 102) rfl) rfl), ⟨by decide, by decide⟩⟩
theorem na_X4_goesUp : (parseMethodDescriptor M_X4_goesUp.1.desc).map (fun d => d.parameters.length) = some 2 := by decide +kernel
theorem pf_X4_goesUp : plainFor M_X4_goesUp.1 = true := by decide +kernel
def M_X4_nearestLength : zM := (yX4_nearestLength, cX4_nearestLength, 7, some .int, { frames := 6, cells := 0, slots := 0, locals := 142 })
theorem mv_X4_nearestLength : zMv M_X4_nearestLength := ⟨(zmt (zt4 (i := 108) rfl) rfl), (zmt (zt4 (i := 109) rfl) rfl), (zmt (zt1 (i := 5) rfl) rfl), (zmt (zt4 (i := 110) rfl) rfl), ⟨by decide, by decide⟩⟩
theorem na_X4_nearestLength : (parseMethodDescriptor M_X4_nearestLength.1.desc).map (fun d => d.parameters.length) = some 2 := by decide +kernel
theorem pf_X4_nearestLength : plainFor M_X4_nearestLength.1 = true := by decide +kernel
def M_X4_farthestCountry : zM := (yX4_farthestCountry, cX4_farthestCountry, 6, some .int, { frames := 6, cells := 0, slots := 0, locals := 142 })
theorem mv_X4_farthestCountry : zMv M_X4_farthestCountry := ⟨(zmt (zt4 (i := 119) rfl) rfl), (zmt (zt4 (i := 120) rfl) rfl), (zmt (zt1 (i := 5) rfl) rfl), (zmt (zt4 (i := 121) rfl) rfl), ⟨by decide, by decide⟩⟩
theorem na_X4_farthestCountry : (parseMethodDescriptor M_X4_farthestCountry.1.desc).map (fun d => d.parameters.length) = some 1 := by decide +kernel
theorem pf_X4_farthestCountry : plainFor M_X4_farthestCountry.1 = true := by decide +kernel
def M_X5_init : zM := (yX5_init, cX5_init, 1, none, { frames := 1, cells := 0, slots := 0, locals := 20 })
theorem mi_X5_init : zMi M_X5_init := ⟨(zmt (zt2 (i := 6) rfl) rfl), (zmt (zt1 (i := 9) rfl) rfl), (zmt (zt2 (i := 7) rfl) rfl), rfl, rfl, ⟨by decide, by decide⟩⟩
theorem na_X5_init : (parseMethodDescriptor M_X5_init.1.desc).map (fun d => d.parameters.length) = some 0 := by decide +kernel
theorem pf_X5_init : plainFor M_X5_init.1 = true := by decide +kernel
def M_X5_begin : zM := (yX5_begin, cX5_begin, 3, none, { frames := 0, cells := 0, slots := 0, locals := 0 })
theorem mv_X5_begin : zMv M_X5_begin := ⟨(zmt (zt4 (i := 166) rfl) rfl), (zmt (zt4 (i := 167) rfl) rfl), (zmt (zt1 (i := 9) rfl) rfl), (zmt (zt4 (i := 168) rfl) rfl), ⟨by decide, by decide⟩⟩
theorem na_X5_begin : (parseMethodDescriptor M_X5_begin.1.desc).map (fun d => d.parameters.length) = some 2 := by decide +kernel
theorem pf_X5_begin : plainFor M_X5_begin.1 = true := by decide +kernel
def M_X5_passDay : zM := (yX5_passDay, cX5_passDay, 3, none, { frames := 1, cells := 0, slots := 0, locals := 22 })
theorem mv_X5_passDay : zMv M_X5_passDay := ⟨(zmt (zt4 (i := 170) rfl) rfl), (zmt (zt4 (i := 171) rfl) rfl), (zmt (zt1 (i := 9) rfl) rfl), (zmt (zt4 (i := 172) rfl) rfl), ⟨by decide, by decide⟩⟩
theorem na_X5_passDay : (parseMethodDescriptor M_X5_passDay.1.desc).map (fun d => d.parameters.length) = some 1 := by decide +kernel
theorem pf_X5_passDay : plainFor M_X5_passDay.1 = true := by decide +kernel
def M_X6_init : zM := (yX6_init, cX6_init, 1, none, { frames := 1, cells := 1, slots := 800, locals := 20 })
theorem mi_X6_init : zMi M_X6_init := ⟨(zmt (zt1 (i := 39) rfl) rfl), (zmt (zt1 (i := 3) rfl) rfl), (zmt (zt1 (i := 40) rfl) rfl), rfl, rfl, ⟨by decide, by decide⟩⟩
theorem na_X6_init : (parseMethodDescriptor M_X6_init.1.desc).map (fun d => d.parameters.length) = some 0 := by decide +kernel
theorem pf_X6_init : plainFor M_X6_init.1 = true := by decide +kernel
def M_X6_put : zM := (yX6_put, cX6_put, 3, none, { frames := 0, cells := 0, slots := 0, locals := 0 })
theorem mv_X6_put : zMv M_X6_put := ⟨(zmt (zt2 (i := 48) rfl) rfl), (zmt (zt2 (i := 49) rfl) rfl), (zmt (zt1 (i := 3) rfl) rfl), (zmt (zt2 (i := 50) rfl) rfl), ⟨by decide, by decide⟩⟩
theorem na_X6_put : (parseMethodDescriptor M_X6_put.1.desc).map (fun d => d.parameters.length) = some 1 := by decide +kernel
theorem pf_X6_put : plainFor M_X6_put.1 = true := by decide +kernel
def M_X6_startOver : zM := (yX6_startOver, cX6_startOver, 2, none, { frames := 1, cells := 0, slots := 0, locals := 21 })
theorem mv_X6_startOver : zMv M_X6_startOver := ⟨(zmt (zt2 (i := 64) rfl) rfl), (zmt (zt2 (i := 65) rfl) rfl), (zmt (zt1 (i := 3) rfl) rfl), (zmt (zt2 (i := 66) rfl) rfl), ⟨by decide, by decide⟩⟩
theorem na_X6_startOver : (parseMethodDescriptor M_X6_startOver.1.desc).map (fun d => d.parameters.length) = some 1 := by decide +kernel
theorem pf_X6_startOver : plainFor M_X6_startOver.1 = true := by decide +kernel
def M_X6_next : zM := (yX6_next, cX6_next, 2, none, { frames := 1, cells := 0, slots := 0, locals := 20 })
theorem mv_X6_next : zMv M_X6_next := ⟨(zmt (zt2 (i := 79) rfl) rfl), (zmt (zt2 (i := 80) rfl) rfl), (zmt (zt1 (i := 3) rfl) rfl), (zmt (zt2 (i := 81) rfl) rfl), ⟨by decide, by decide⟩⟩
theorem na_X6_next : (parseMethodDescriptor M_X6_next.1.desc).map (fun d => d.parameters.length) = some 0 := by decide +kernel
theorem pf_X6_next : plainFor M_X6_next.1 = true := by decide +kernel
def M_X6_kindOf : zM := (yX6_kindOf, cX6_kindOf, 1, some .int, { frames := 0, cells := 0, slots := 0, locals := 0 })
theorem ms_X6_kindOf : zMs M_X6_kindOf := ⟨(zmt (zt2 (i := 83) rfl) rfl), (zmt (zt1 (i := 3) rfl) rfl), (zmt (zt2 (i := 84) rfl) rfl), ⟨by decide, by decide⟩⟩
theorem na_X6_kindOf : (parseMethodDescriptor M_X6_kindOf.1.desc).map (fun d => d.parameters.length) = some 1 := by decide +kernel
theorem pf_X6_kindOf : plainFor M_X6_kindOf.1 = true := by decide +kernel
def M_X6_isWord : zM := (yX6_isWord, cX6_isWord, 3, some .boolean, { frames := 0, cells := 0, slots := 0, locals := 0 })
theorem mv_X6_isWord : zMv M_X6_isWord := ⟨(zmt (zt2 (i := 91) rfl) rfl), (zmt (zt2 (i := 92) rfl) rfl), (zmt (zt1 (i := 3) rfl) rfl), (zmt (zt2 (i := 93) rfl) rfl), ⟨by decide, by decide⟩⟩
theorem na_X6_isWord : (parseMethodDescriptor M_X6_isWord.1.desc).map (fun d => d.parameters.length) = some 1 := by decide +kernel
theorem pf_X6_isWord : plainFor M_X6_isWord.1 = true := by decide +kernel
def M_X7_init : zM := (yX7_init, cX7_init, 1, none, { frames := 3, cells := 61, slots := 2319, locals := 67 })
theorem mi_X7_init : zMi M_X7_init := ⟨(zmt (zt1 (i := 25) rfl) rfl), (zmt (zt1 (i := 1) rfl) rfl), (zmt (zt1 (i := 26) rfl) rfl), rfl, rfl, ⟨by decide, by decide⟩⟩
theorem na_X7_init : (parseMethodDescriptor M_X7_init.1.desc).map (fun d => d.parameters.length) = some 0 := by decide +kernel
theorem pf_X7_init : plainFor M_X7_init.1 = true := by decide +kernel
def M_X7_feed : zM := (yX7_feed, cX7_feed, 6, some .int, { frames := 1, cells := 0, slots := 0, locals := 22 })
theorem mv_X7_feed : zMv M_X7_feed := ⟨(zmt (zt2 (i := 44) rfl) rfl), (zmt (zt2 (i := 45) rfl) rfl), (zmt (zt1 (i := 1) rfl) rfl), (zmt (zt2 (i := 46) rfl) rfl), ⟨by decide, by decide⟩⟩
theorem na_X7_feed : (parseMethodDescriptor M_X7_feed.1.desc).map (fun d => d.parameters.length) = some 5 := by decide +kernel
theorem pf_X7_feed : plainFor M_X7_feed.1 = true := by decide +kernel
def M_X7_tube : zM := (yX7_tube, cX7_tube, 3, some .int, { frames := 6, cells := 0, slots := 0, locals := 133 })
theorem mv_X7_tube : zMv M_X7_tube := ⟨(zmt (zt2 (i := 52) rfl) rfl), (zmt (zt2 (i := 53) rfl) rfl), (zmt (zt1 (i := 1) rfl) rfl), (zmt (zt2 (i := 54) rfl) rfl), ⟨by decide, by decide⟩⟩
theorem na_X7_tube : (parseMethodDescriptor M_X7_tube.1.desc).map (fun d => d.parameters.length) = some 1 := by decide +kernel
theorem pf_X7_tube : plainFor M_X7_tube.1 = true := by decide +kernel
def M_X7_fault : zM := (yX7_fault, cX7_fault, 1, some .int, { frames := 0, cells := 0, slots := 0, locals := 0 })
theorem mv_X7_fault : zMv M_X7_fault := ⟨(zmt (zt2 (i := 211) rfl) rfl), (zmt (zt2 (i := 212) rfl) rfl), (zmt (zt1 (i := 1) rfl) rfl), (zmt (zt2 (i := 213) rfl) rfl), ⟨by decide, by decide⟩⟩
theorem na_X7_fault : (parseMethodDescriptor M_X7_fault.1.desc).map (fun d => d.parameters.length) = some 0 := by decide +kernel
theorem pf_X7_fault : plainFor M_X7_fault.1 = true := by decide +kernel
def M_X7_where : zM := (yX7_where, cX7_where, 1, some .int, { frames := 0, cells := 0, slots := 0, locals := 0 })
theorem mv_X7_where : zMv M_X7_where := ⟨(zmt (zt2 (i := 215) rfl) rfl), (zmt (zt2 (i := 216) rfl) rfl), (zmt (zt1 (i := 1) rfl) rfl), (zmt (zt2 (i := 217) rfl) rfl), ⟨by decide, by decide⟩⟩
theorem na_X7_where : (parseMethodDescriptor M_X7_where.1.desc).map (fun d => d.parameters.length) = some 0 := by decide +kernel
theorem pf_X7_where : plainFor M_X7_where.1 = true := by decide +kernel
def M_X7_bit : zM := (yX7_bit, cX7_bit, 3, some .int, { frames := 4, cells := 0, slots := 0, locals := 95 })
theorem mv_X7_bit : zMv M_X7_bit := ⟨(zmt (zt2 (i := 219) rfl) rfl), (zmt (zt2 (i := 220) rfl) rfl), (zmt (zt1 (i := 1) rfl) rfl), (zmt (zt2 (i := 221) rfl) rfl), ⟨by decide, by decide⟩⟩
theorem na_X7_bit : (parseMethodDescriptor M_X7_bit.1.desc).map (fun d => d.parameters.length) = some 2 := by decide +kernel
theorem pf_X7_bit : plainFor M_X7_bit.1 = true := by decide +kernel
def M_X7_top : zM := (yX7_top, cX7_top, 2, some .int, { frames := 3, cells := 0, slots := 0, locals := 72 })
theorem mv_X7_top : zMv M_X7_top := ⟨(zmt (zt3 (i := 9) rfl) rfl), (zmt (zt3 (i := 10) rfl) rfl), (zmt (zt1 (i := 1) rfl) rfl), (zmt (zt3 (i := 11) rfl) rfl), ⟨by decide, by decide⟩⟩
theorem na_X7_top : (parseMethodDescriptor M_X7_top.1.desc).map (fun d => d.parameters.length) = some 1 := by decide +kernel
theorem pf_X7_top : plainFor M_X7_top.1 = true := by decide +kernel
def M_X7_stack : zM := (yX7_stack, cX7_stack, 2, some .int, { frames := 4, cells := 0, slots := 0, locals := 92 })
theorem mv_X7_stack : zMv M_X7_stack := ⟨(zmt (zt3 (i := 21) rfl) rfl), (zmt (zt3 (i := 22) rfl) rfl), (zmt (zt1 (i := 1) rfl) rfl), (zmt (zt3 (i := 23) rfl) rfl), ⟨by decide, by decide⟩⟩
theorem na_X7_stack : (parseMethodDescriptor M_X7_stack.1.desc).map (fun d => d.parameters.length) = some 1 := by decide +kernel
theorem pf_X7_stack : plainFor M_X7_stack.1 = true := by decide +kernel
def M_X7_seen : zM := (yX7_seen, cX7_seen, 3, some .int, { frames := 4, cells := 0, slots := 0, locals := 94 })
theorem mv_X7_seen : zMv M_X7_seen := ⟨(zmt (zt3 (i := 32) rfl) rfl), (zmt (zt3 (i := 33) rfl) rfl), (zmt (zt1 (i := 1) rfl) rfl), (zmt (zt3 (i := 34) rfl) rfl), ⟨by decide, by decide⟩⟩
theorem na_X7_seen : (parseMethodDescriptor M_X7_seen.1.desc).map (fun d => d.parameters.length) = some 2 := by decide +kernel
theorem pf_X7_seen : plainFor M_X7_seen.1 = true := by decide +kernel
def M_X7_lies : zM := (yX7_lies, cX7_lies, 3, some .int, { frames := 3, cells := 0, slots := 0, locals := 69 })
theorem mv_X7_lies : zMv M_X7_lies := ⟨(zmt (zt3 (i := 47) rfl) rfl), (zmt (zt3 (i := 48) rfl) rfl), (zmt (zt1 (i := 1) rfl) rfl), (zmt (zt3 (i := 49) rfl) rfl), ⟨by decide, by decide⟩⟩
theorem na_X7_lies : (parseMethodDescriptor M_X7_lies.1.desc).map (fun d => d.parameters.length) = some 2 := by decide +kernel
theorem pf_X7_lies : plainFor M_X7_lies.1 = true := by decide +kernel
def M_X7_under : zM := (yX7_under, cX7_under, 1, some .int, { frames := 5, cells := 0, slots := 0, locals := 117 })
theorem mv_X7_under : zMv M_X7_under := ⟨(zmt (zt3 (i := 54) rfl) rfl), (zmt (zt3 (i := 55) rfl) rfl), (zmt (zt1 (i := 1) rfl) rfl), (zmt (zt3 (i := 56) rfl) rfl), ⟨by decide, by decide⟩⟩
theorem na_X7_under : (parseMethodDescriptor M_X7_under.1.desc).map (fun d => d.parameters.length) = some 0 := by decide +kernel
theorem pf_X7_under : plainFor M_X7_under.1 = true := by decide +kernel
def M_X7_until : zM := (yX7_until, cX7_until, 3, some .int, { frames := 4, cells := 0, slots := 0, locals := 95 })
theorem mv_X7_until : zMv M_X7_until := ⟨(zmt (zt3 (i := 63) rfl) rfl), (zmt (zt3 (i := 64) rfl) rfl), (zmt (zt1 (i := 1) rfl) rfl), (zmt (zt3 (i := 65) rfl) rfl), ⟨by decide, by decide⟩⟩
theorem na_X7_until : (parseMethodDescriptor M_X7_until.1.desc).map (fun d => d.parameters.length) = some 1 := by decide +kernel
theorem pf_X7_until : plainFor M_X7_until.1 = true := by decide +kernel
def M_X7_behind : zM := (yX7_behind, cX7_behind, 3, some .int, { frames := 3, cells := 0, slots := 0, locals := 69 })
theorem mv_X7_behind : zMv M_X7_behind := ⟨(zmt (zt3 (i := 67) rfl) rfl), (zmt (zt3 (i := 68) rfl) rfl), (zmt (zt1 (i := 1) rfl) rfl), (zmt (zt3 (i := 69) rfl) rfl), ⟨by decide, by decide⟩⟩
theorem na_X7_behind : (parseMethodDescriptor M_X7_behind.1.desc).map (fun d => d.parameters.length) = some 2 := by decide +kernel
theorem pf_X7_behind : plainFor M_X7_behind.1 = true := by decide +kernel
def M_X7_topsBehind : zM := (yX7_topsBehind, cX7_topsBehind, 2, some .int, { frames := 4, cells := 0, slots := 0, locals := 92 })
theorem mv_X7_topsBehind : zMv M_X7_topsBehind := ⟨(zmt (zt3 (i := 75) rfl) rfl), (zmt (zt3 (i := 76) rfl) rfl), (zmt (zt1 (i := 1) rfl) rfl), (zmt (zt3 (i := 77) rfl) rfl), ⟨by decide, by decide⟩⟩
theorem na_X7_topsBehind : (parseMethodDescriptor M_X7_topsBehind.1.desc).map (fun d => d.parameters.length) = some 1 := by decide +kernel
theorem pf_X7_topsBehind : plainFor M_X7_topsBehind.1 = true := by decide +kernel
def M_X7_twins : zM := (yX7_twins, cX7_twins, 1, some .int, { frames := 1, cells := 0, slots := 0, locals := 22 })
theorem mv_X7_twins : zMv M_X7_twins := ⟨(zmt (zt3 (i := 93) rfl) rfl), (zmt (zt3 (i := 94) rfl) rfl), (zmt (zt1 (i := 1) rfl) rfl), (zmt (zt3 (i := 95) rfl) rfl), ⟨by decide, by decide⟩⟩
theorem na_X7_twins : (parseMethodDescriptor M_X7_twins.1.desc).map (fun d => d.parameters.length) = some 0 := by decide +kernel
theorem pf_X7_twins : plainFor M_X7_twins.1 = true := by decide +kernel
def M_X7_mostTops : zM := (yX7_mostTops, cX7_mostTops, 5, some .int, { frames := 4, cells := 0, slots := 0, locals := 92 })
theorem mv_X7_mostTops : zMv M_X7_mostTops := ⟨(zmt (zt3 (i := 101) rfl) rfl), (zmt (zt3 (i := 102) rfl) rfl), (zmt (zt1 (i := 1) rfl) rfl), (zmt (zt3 (i := 103) rfl) rfl), ⟨by decide, by decide⟩⟩
theorem na_X7_mostTops : (parseMethodDescriptor M_X7_mostTops.1.desc).map (fun d => d.parameters.length) = some 0 := by decide +kernel
theorem pf_X7_mostTops : plainFor M_X7_mostTops.1 = true := by decide +kernel
def M_X7_right : zM := (yX7_right, cX7_right, 1, some .int, { frames := 4, cells := 0, slots := 0, locals := 93 })
theorem mv_X7_right : zMv M_X7_right := ⟨(zmt (zt3 (i := 105) rfl) rfl), (zmt (zt3 (i := 106) rfl) rfl), (zmt (zt1 (i := 1) rfl) rfl), (zmt (zt3 (i := 107) rfl) rfl), ⟨by decide, by decide⟩⟩
theorem na_X7_right : (parseMethodDescriptor M_X7_right.1.desc).map (fun d => d.parameters.length) = some 0 := by decide +kernel
theorem pf_X7_right : plainFor M_X7_right.1 = true := by decide +kernel
def M_X7_turnsTo : zM := (yX7_turnsTo, cX7_turnsTo, 1, some .int, { frames := 6, cells := 0, slots := 0, locals := 138 })
theorem mv_X7_turnsTo : zMv M_X7_turnsTo := ⟨(zmt (zt3 (i := 113) rfl) rfl), (zmt (zt3 (i := 114) rfl) rfl), (zmt (zt1 (i := 1) rfl) rfl), (zmt (zt3 (i := 115) rfl) rfl), ⟨by decide, by decide⟩⟩
theorem na_X7_turnsTo : (parseMethodDescriptor M_X7_turnsTo.1.desc).map (fun d => d.parameters.length) = some 0 := by decide +kernel
theorem pf_X7_turnsTo : plainFor M_X7_turnsTo.1 = true := by decide +kernel
def M_X7_turnAt : zM := (yX7_turnAt, cX7_turnAt, 5, some .int, { frames := 6, cells := 0, slots := 0, locals := 138 })
theorem mv_X7_turnAt : zMv M_X7_turnAt := ⟨(zmt (zt3 (i := 150) rfl) rfl), (zmt (zt3 (i := 151) rfl) rfl), (zmt (zt1 (i := 1) rfl) rfl), (zmt (zt3 (i := 152) rfl) rfl), ⟨by decide, by decide⟩⟩
theorem na_X7_turnAt : (parseMethodDescriptor M_X7_turnAt.1.desc).map (fun d => d.parameters.length) = some 1 := by decide +kernel
theorem pf_X7_turnAt : plainFor M_X7_turnAt.1 = true := by decide +kernel
def M_X7_bestTurn : zM := (yX7_bestTurn, cX7_bestTurn, 5, some .int, { frames := 4, cells := 0, slots := 0, locals := 93 })
theorem mv_X7_bestTurn : zMv M_X7_bestTurn := ⟨(zmt (zt3 (i := 158) rfl) rfl), (zmt (zt3 (i := 159) rfl) rfl), (zmt (zt1 (i := 1) rfl) rfl), (zmt (zt3 (i := 160) rfl) rfl), ⟨by decide, by decide⟩⟩
theorem na_X7_bestTurn : (parseMethodDescriptor M_X7_bestTurn.1.desc).map (fun d => d.parameters.length) = some 0 := by decide +kernel
theorem pf_X7_bestTurn : plainFor M_X7_bestTurn.1 = true := by decide +kernel
def M_X7_can : zM := (yX7_can, cX7_can, 3, some .int, { frames := 1, cells := 0, slots := 0, locals := 23 })
theorem mv_X7_can : zMv M_X7_can := ⟨(zmt (zt3 (i := 163) rfl) rfl), (zmt (zt3 (i := 164) rfl) rfl), (zmt (zt1 (i := 1) rfl) rfl), (zmt (zt3 (i := 165) rfl) rfl), ⟨by decide, by decide⟩⟩
theorem na_X7_can : (parseMethodDescriptor M_X7_can.1.desc).map (fun d => d.parameters.length) = some 2 := by decide +kernel
theorem pf_X7_can : plainFor M_X7_can.1 = true := by decide +kernel
def M_X7_made : zM := (yX7_made, cX7_made, 2, some .int, { frames := 6, cells := 0, slots := 0, locals := 138 })
theorem mv_X7_made : zMv M_X7_made := ⟨(zmt (zt3 (i := 171) rfl) rfl), (zmt (zt3 (i := 172) rfl) rfl), (zmt (zt1 (i := 1) rfl) rfl), (zmt (zt3 (i := 173) rfl) rfl), ⟨by decide, by decide⟩⟩
theorem na_X7_made : (parseMethodDescriptor M_X7_made.1.desc).map (fun d => d.parameters.length) = some 1 := by decide +kernel
theorem pf_X7_made : plainFor M_X7_made.1 = true := by decide +kernel
def M_X7_madeAt : zM := (yX7_madeAt, cX7_madeAt, 3, some .int, { frames := 6, cells := 0, slots := 0, locals := 138 })
theorem mv_X7_madeAt : zMv M_X7_madeAt := ⟨(zmt (zt3 (i := 179) rfl) rfl), (zmt (zt3 (i := 180) rfl) rfl), (zmt (zt1 (i := 1) rfl) rfl), (zmt (zt3 (i := 181) rfl) rfl), ⟨by decide, by decide⟩⟩
theorem na_X7_madeAt : (parseMethodDescriptor M_X7_madeAt.1.desc).map (fun d => d.parameters.length) = some 2 := by decide +kernel
theorem pf_X7_madeAt : plainFor M_X7_madeAt.1 = true := by decide +kernel
def M_X7_fewestMade : zM := (yX7_fewestMade, cX7_fewestMade, 1, some .int, { frames := 6, cells := 0, slots := 0, locals := 138 })
theorem mv_X7_fewestMade : zMv M_X7_fewestMade := ⟨(zmt (zt3 (i := 183) rfl) rfl), (zmt (zt3 (i := 184) rfl) rfl), (zmt (zt1 (i := 1) rfl) rfl), (zmt (zt3 (i := 185) rfl) rfl), ⟨by decide, by decide⟩⟩
theorem na_X7_fewestMade : (parseMethodDescriptor M_X7_fewestMade.1.desc).map (fun d => d.parameters.length) = some 0 := by decide +kernel
theorem pf_X7_fewestMade : plainFor M_X7_fewestMade.1 = true := by decide +kernel
def M_X7_same : zM := (yX7_same, cX7_same, 2, some .int, { frames := 6, cells := 0, slots := 0, locals := 138 })
theorem mv_X7_same : zMv M_X7_same := ⟨(zmt (zt3 (i := 187) rfl) rfl), (zmt (zt3 (i := 188) rfl) rfl), (zmt (zt1 (i := 1) rfl) rfl), (zmt (zt3 (i := 189) rfl) rfl), ⟨by decide, by decide⟩⟩
theorem na_X7_same : (parseMethodDescriptor M_X7_same.1.desc).map (fun d => d.parameters.length) = some 1 := by decide +kernel
theorem pf_X7_same : plainFor M_X7_same.1 = true := by decide +kernel
def M_X7_joins : zM := (yX7_joins, cX7_joins, 2, some .int, { frames := 4, cells := 0, slots := 0, locals := 94 })
theorem mv_X7_joins : zMv M_X7_joins := ⟨(zmt (zt3 (i := 191) rfl) rfl), (zmt (zt3 (i := 192) rfl) rfl), (zmt (zt1 (i := 1) rfl) rfl), (zmt (zt3 (i := 193) rfl) rfl), ⟨by decide, by decide⟩⟩
theorem na_X7_joins : (parseMethodDescriptor M_X7_joins.1.desc).map (fun d => d.parameters.length) = some 1 := by decide +kernel
theorem pf_X7_joins : plainFor M_X7_joins.1 = true := by decide +kernel
def M_X7_alike : zM := (yX7_alike, cX7_alike, 5, some .int, { frames := 4, cells := 0, slots := 0, locals := 94 })
theorem mv_X7_alike : zMv M_X7_alike := ⟨(zmt (zt3 (i := 196) rfl) rfl), (zmt (zt3 (i := 197) rfl) rfl), (zmt (zt1 (i := 1) rfl) rfl), (zmt (zt3 (i := 198) rfl) rfl), ⟨by decide, by decide⟩⟩
theorem na_X7_alike : (parseMethodDescriptor M_X7_alike.1.desc).map (fun d => d.parameters.length) = some 2 := by decide +kernel
theorem pf_X7_alike : plainFor M_X7_alike.1 = true := by decide +kernel
def M_X7_which : zM := (yX7_which, cX7_which, 1, some .int, { frames := 6, cells := 0, slots := 0, locals := 139 })
theorem mv_X7_which : zMv M_X7_which := ⟨(zmt (zt3 (i := 200) rfl) rfl), (zmt (zt3 (i := 201) rfl) rfl), (zmt (zt1 (i := 1) rfl) rfl), (zmt (zt3 (i := 202) rfl) rfl), ⟨by decide, by decide⟩⟩
theorem na_X7_which : (parseMethodDescriptor M_X7_which.1.desc).map (fun d => d.parameters.length) = some 0 := by decide +kernel
theorem pf_X7_which : plainFor M_X7_which.1 = true := by decide +kernel
def M_X7_surely : zM := (yX7_surely, cX7_surely, 2, some .int, { frames := 6, cells := 0, slots := 0, locals := 139 })
theorem mv_X7_surely : zMv M_X7_surely := ⟨(zmt (zt3 (i := 216) rfl) rfl), (zmt (zt3 (i := 217) rfl) rfl), (zmt (zt1 (i := 1) rfl) rfl), (zmt (zt3 (i := 218) rfl) rfl), ⟨by decide, by decide⟩⟩
theorem na_X7_surely : (parseMethodDescriptor M_X7_surely.1.desc).map (fun d => d.parameters.length) = some 0 := by decide +kernel
theorem pf_X7_surely : plainFor M_X7_surely.1 = true := by decide +kernel
def M_X7_look : zM := (yX7_look, cX7_look, 1, some .int, { frames := 7, cells := 0, slots := 0, locals := 170 })
theorem mv_X7_look : zMv M_X7_look := ⟨(zmt (zt3 (i := 224) rfl) rfl), (zmt (zt3 (i := 225) rfl) rfl), (zmt (zt1 (i := 1) rfl) rfl), (zmt (zt3 (i := 226) rfl) rfl), ⟨by decide, by decide⟩⟩
theorem na_X7_look : (parseMethodDescriptor M_X7_look.1.desc).map (fun d => d.parameters.length) = some 0 := by decide +kernel
theorem pf_X7_look : plainFor M_X7_look.1 = true := by decide +kernel
def M_X7_lookLeaves : zM := (yX7_lookLeaves, cX7_lookLeaves, 3, some .int, { frames := 7, cells := 0, slots := 0, locals := 170 })
theorem mv_X7_lookLeaves : zMv M_X7_lookLeaves := ⟨(zmt (zt4 (i := 3) rfl) rfl), (zmt (zt4 (i := 4) rfl) rfl), (zmt (zt1 (i := 1) rfl) rfl), (zmt (zt4 (i := 5) rfl) rfl), ⟨by decide, by decide⟩⟩
theorem na_X7_lookLeaves : (parseMethodDescriptor M_X7_lookLeaves.1.desc).map (fun d => d.parameters.length) = some 0 := by decide +kernel
theorem pf_X7_lookLeaves : plainFor M_X7_lookLeaves.1 = true := by decide +kernel
def M_X7_judge : zM := (yX7_judge, cX7_judge, 2, some .int, { frames := 5, cells := 0, slots := 0, locals := 117 })
theorem mv_X7_judge : zMv M_X7_judge := ⟨(zmt (zt4 (i := 8) rfl) rfl), (zmt (zt4 (i := 9) rfl) rfl), (zmt (zt1 (i := 1) rfl) rfl), (zmt (zt4 (i := 10) rfl) rfl), ⟨by decide, by decide⟩⟩
theorem na_X7_judge : (parseMethodDescriptor M_X7_judge.1.desc).map (fun d => d.parameters.length) = some 1 := by decide +kernel
theorem pf_X7_judge : plainFor M_X7_judge.1 = true := by decide +kernel
def M_X7_rolls : zM := (yX7_rolls, cX7_rolls, 4, some .long, { frames := 2, cells := 0, slots := 0, locals := 60 })
theorem mv_X7_rolls : zMv M_X7_rolls := ⟨(zmt (zt4 (i := 13) rfl) rfl), (zmt (zt4 (i := 14) rfl) rfl), (zmt (zt1 (i := 1) rfl) rfl), (zmt (zt4 (i := 15) rfl) rfl), ⟨by decide, by decide⟩⟩
theorem na_X7_rolls : (parseMethodDescriptor M_X7_rolls.1.desc).map (fun d => d.parameters.length) = some 3 := by decide +kernel
theorem pf_X7_rolls : plainFor M_X7_rolls.1 = true := by decide +kernel
def M_X7_rollsMore : zM := (yX7_rollsMore, cX7_rollsMore, 4, some .long, { frames := 2, cells := 0, slots := 0, locals := 60 })
theorem mv_X7_rollsMore : zMv M_X7_rollsMore := ⟨(zmt (zt4 (i := 34) rfl) rfl), (zmt (zt4 (i := 35) rfl) rfl), (zmt (zt1 (i := 1) rfl) rfl), (zmt (zt4 (i := 36) rfl) rfl), ⟨by decide, by decide⟩⟩
theorem na_X7_rollsMore : (parseMethodDescriptor M_X7_rollsMore.1.desc).map (fun d => d.parameters.length) = some 3 := by decide +kernel
theorem pf_X7_rollsMore : plainFor M_X7_rollsMore.1 = true := by decide +kernel
def M_X7_watch : zM := (yX7_watch, cX7_watch, 2, some .int, { frames := 4, cells := 0, slots := 0, locals := 95 })
theorem mv_X7_watch : zMv M_X7_watch := ⟨(zmt (zt4 (i := 38) rfl) rfl), (zmt (zt4 (i := 39) rfl) rfl), (zmt (zt1 (i := 1) rfl) rfl), (zmt (zt4 (i := 40) rfl) rfl), ⟨by decide, by decide⟩⟩
theorem na_X7_watch : (parseMethodDescriptor M_X7_watch.1.desc).map (fun d => d.parameters.length) = some 1 := by decide +kernel
theorem pf_X7_watch : plainFor M_X7_watch.1 = true := by decide +kernel
def M_X7_person : zM := (yX7_person, cX7_person, 3, some .int, { frames := 2, cells := 0, slots := 0, locals := 40 })
theorem mv_X7_person : zMv M_X7_person := ⟨(zmt (zt4 (i := 50) rfl) rfl), (zmt (zt4 (i := 51) rfl) rfl), (zmt (zt1 (i := 1) rfl) rfl), (zmt (zt4 (i := 52) rfl) rfl), ⟨by decide, by decide⟩⟩
theorem na_X7_person : (parseMethodDescriptor M_X7_person.1.desc).map (fun d => d.parameters.length) = some 2 := by decide +kernel
theorem pf_X7_person : plainFor M_X7_person.1 = true := by decide +kernel
def M_X7_way : zM := (yX7_way, cX7_way, 4, some .int, { frames := 6, cells := 0, slots := 0, locals := 142 })
theorem mv_X7_way : zMv M_X7_way := ⟨(zmt (zt4 (i := 72) rfl) rfl), (zmt (zt4 (i := 73) rfl) rfl), (zmt (zt1 (i := 1) rfl) rfl), (zmt (zt4 (i := 74) rfl) rfl), ⟨by decide, by decide⟩⟩
theorem na_X7_way : (parseMethodDescriptor M_X7_way.1.desc).map (fun d => d.parameters.length) = some 3 := by decide +kernel
theorem pf_X7_way : plainFor M_X7_way.1 = true := by decide +kernel
def M_X7_wayUp : zM := (yX7_wayUp, cX7_wayUp, 4, some .int, { frames := 6, cells := 0, slots := 0, locals := 142 })
theorem mv_X7_wayUp : zMv M_X7_wayUp := ⟨(zmt (zt4 (i := 96) rfl) rfl), (zmt (zt4 (i := 97) rfl) rfl), (zmt (zt1 (i := 1) rfl) rfl), (zmt (zt4 (i := 98) rfl) rfl), ⟨by decide, by decide⟩⟩
theorem na_X7_wayUp : (parseMethodDescriptor M_X7_wayUp.1.desc).map (fun d => d.parameters.length) = some 3 := by decide +kernel
theorem pf_X7_wayUp : plainFor M_X7_wayUp.1 = true := by decide +kernel
def M_X7_nearest : zM := (yX7_nearest, cX7_nearest, 3, some .int, { frames := 7, cells := 0, slots := 0, locals := 168 })
theorem mv_X7_nearest : zMv M_X7_nearest := ⟨(zmt (zt4 (i := 104) rfl) rfl), (zmt (zt4 (i := 105) rfl) rfl), (zmt (zt1 (i := 1) rfl) rfl), (zmt (zt4 (i := 106) rfl) rfl), ⟨by decide, by decide⟩⟩
theorem na_X7_nearest : (parseMethodDescriptor M_X7_nearest.1.desc).map (fun d => d.parameters.length) = some 2 := by decide +kernel
theorem pf_X7_nearest : plainFor M_X7_nearest.1 = true := by decide +kernel
def M_X7_farthest : zM := (yX7_farthest, cX7_farthest, 2, some .int, { frames := 7, cells := 0, slots := 0, locals := 167 })
theorem mv_X7_farthest : zMv M_X7_farthest := ⟨(zmt (zt4 (i := 115) rfl) rfl), (zmt (zt4 (i := 116) rfl) rfl), (zmt (zt1 (i := 1) rfl) rfl), (zmt (zt4 (i := 117) rfl) rfl), ⟨by decide, by decide⟩⟩
theorem na_X7_farthest : (parseMethodDescriptor M_X7_farthest.1.desc).map (fun d => d.parameters.length) = some 1 := by decide +kernel
theorem pf_X7_farthest : plainFor M_X7_farthest.1 = true := by decide +kernel
def M_X7_ring : zM := (yX7_ring, cX7_ring, 3, some .int, { frames := 4, cells := 0, slots := 0, locals := 94 })
theorem mv_X7_ring : zMv M_X7_ring := ⟨(zmt (zt4 (i := 123) rfl) rfl), (zmt (zt4 (i := 124) rfl) rfl), (zmt (zt1 (i := 1) rfl) rfl), (zmt (zt4 (i := 125) rfl) rfl), ⟨by decide, by decide⟩⟩
theorem na_X7_ring : (parseMethodDescriptor M_X7_ring.1.desc).map (fun d => d.parameters.length) = some 0 := by decide +kernel
theorem pf_X7_ring : plainFor M_X7_ring.1 = true := by decide +kernel
def M_X7_two : zM := (yX7_two, cX7_two, 4, some .int, { frames := 5, cells := 0, slots := 0, locals := 117 })
theorem mv_X7_two : zMv M_X7_two := ⟨(zmt (zt4 (i := 128) rfl) rfl), (zmt (zt4 (i := 129) rfl) rfl), (zmt (zt1 (i := 1) rfl) rfl), (zmt (zt4 (i := 130) rfl) rfl), ⟨by decide, by decide⟩⟩
theorem na_X7_two : (parseMethodDescriptor M_X7_two.1.desc).map (fun d => d.parameters.length) = some 3 := by decide +kernel
theorem pf_X7_two : plainFor M_X7_two.1 = true := by decide +kernel
def M_X7_rests : zM := (yX7_rests, cX7_rests, 4, some .int, { frames := 6, cells := 0, slots := 0, locals := 142 })
theorem mv_X7_rests : zMv M_X7_rests := ⟨(zmt (zt4 (i := 142) rfl) rfl), (zmt (zt4 (i := 143) rfl) rfl), (zmt (zt1 (i := 1) rfl) rfl), (zmt (zt4 (i := 144) rfl) rfl), ⟨by decide, by decide⟩⟩
theorem na_X7_rests : (parseMethodDescriptor M_X7_rests.1.desc).map (fun d => d.parameters.length) = some 0 := by decide +kernel
theorem pf_X7_rests : plainFor M_X7_rests.1 = true := by decide +kernel
def M_X7_rest : zM := (yX7_rest, cX7_rest, 3, some .int, { frames := 6, cells := 0, slots := 0, locals := 142 })
theorem mv_X7_rest : zMv M_X7_rest := ⟨(zmt (zt4 (i := 150) rfl) rfl), (zmt (zt4 (i := 151) rfl) rfl), (zmt (zt1 (i := 1) rfl) rfl), (zmt (zt4 (i := 152) rfl) rfl), ⟨by decide, by decide⟩⟩
theorem na_X7_rest : (parseMethodDescriptor M_X7_rest.1.desc).map (fun d => d.parameters.length) = some 0 := by decide +kernel
theorem pf_X7_rest : plainFor M_X7_rest.1 = true := by decide +kernel
def M_X7_shaken : zM := (yX7_shaken, cX7_shaken, 5, some .int, { frames := 3, cells := 0, slots := 0, locals := 69 })
theorem mv_X7_shaken : zMv M_X7_shaken := ⟨(zmt (zt4 (i := 154) rfl) rfl), (zmt (zt4 (i := 155) rfl) rfl), (zmt (zt1 (i := 1) rfl) rfl), (zmt (zt4 (i := 156) rfl) rfl), ⟨by decide, by decide⟩⟩
theorem na_X7_shaken : (parseMethodDescriptor M_X7_shaken.1.desc).map (fun d => d.parameters.length) = some 3 := by decide +kernel
theorem pf_X7_shaken : plainFor M_X7_shaken.1 = true := by decide +kernel
def M_X7_topDays : zM := (yX7_topDays, cX7_topDays, 6, some .int, { frames := 4, cells := 0, slots := 0, locals := 95 })
theorem mv_X7_topDays : zMv M_X7_topDays := ⟨(zmt (zt4 (i := 177) rfl) rfl), (zmt (zt4 (i := 178) rfl) rfl), (zmt (zt1 (i := 1) rfl) rfl), (zmt (zt4 (i := 179) rfl) rfl), ⟨by decide, by decide⟩⟩
theorem na_X7_topDays : (parseMethodDescriptor M_X7_topDays.1.desc).map (fun d => d.parameters.length) = some 3 := by decide +kernel
theorem pf_X7_topDays : plainFor M_X7_topDays.1 = true := by decide +kernel
def M_X7_rightDays : zM := (yX7_rightDays, cX7_rightDays, 5, some .int, { frames := 4, cells := 0, slots := 0, locals := 92 })
theorem mv_X7_rightDays : zMv M_X7_rightDays := ⟨(zmt (zt4 (i := 181) rfl) rfl), (zmt (zt4 (i := 182) rfl) rfl), (zmt (zt1 (i := 1) rfl) rfl), (zmt (zt4 (i := 183) rfl) rfl), ⟨by decide, by decide⟩⟩
theorem na_X7_rightDays : (parseMethodDescriptor M_X7_rightDays.1.desc).map (fun d => d.parameters.length) = some 2 := by decide +kernel
theorem pf_X7_rightDays : plainFor M_X7_rightDays.1 = true := by decide +kernel
def M_X7_turn : zM := (yX7_turn, cX7_turn, 2, some .int, { frames := 4, cells := 0, slots := 0, locals := 92 })
theorem mv_X7_turn : zMv M_X7_turn := ⟨(zmt (zt4 (i := 185) rfl) rfl), (zmt (zt4 (i := 186) rfl) rfl), (zmt (zt1 (i := 1) rfl) rfl), (zmt (zt4 (i := 187) rfl) rfl), ⟨by decide, by decide⟩⟩
theorem na_X7_turn : (parseMethodDescriptor M_X7_turn.1.desc).map (fun d => d.parameters.length) = some 1 := by decide +kernel
theorem pf_X7_turn : plainFor M_X7_turn.1 = true := by decide +kernel
def M_X7_go : zM := (yX7_go, cX7_go, 3, some .int, { frames := 5, cells := 0, slots := 0, locals := 118 })
theorem mv_X7_go : zMv M_X7_go := ⟨(zmt (zt4 (i := 203) rfl) rfl), (zmt (zt4 (i := 204) rfl) rfl), (zmt (zt1 (i := 1) rfl) rfl), (zmt (zt4 (i := 205) rfl) rfl), ⟨by decide, by decide⟩⟩
theorem na_X7_go : (parseMethodDescriptor M_X7_go.1.desc).map (fun d => d.parameters.length) = some 2 := by decide +kernel
theorem pf_X7_go : plainFor M_X7_go.1 = true := by decide +kernel
def M_X7_waits : zM := (yX7_waits, cX7_waits, 2, some .int, { frames := 2, cells := 0, slots := 0, locals := 47 })
theorem mv_X7_waits : zMv M_X7_waits := ⟨(zmt (zt4 (i := 212) rfl) rfl), (zmt (zt4 (i := 213) rfl) rfl), (zmt (zt1 (i := 1) rfl) rfl), (zmt (zt4 (i := 214) rfl) rfl), ⟨by decide, by decide⟩⟩
theorem na_X7_waits : (parseMethodDescriptor M_X7_waits.1.desc).map (fun d => d.parameters.length) = some 1 := by decide +kernel
theorem pf_X7_waits : plainFor M_X7_waits.1 = true := by decide +kernel
def M_X7_undo : zM := (yX7_undo, cX7_undo, 1, some .boolean, { frames := 2, cells := 0, slots := 0, locals := 47 })
theorem mv_X7_undo : zMv M_X7_undo := ⟨(zmt (zt4 (i := 220) rfl) rfl), (zmt (zt4 (i := 221) rfl) rfl), (zmt (zt1 (i := 1) rfl) rfl), (zmt (zt4 (i := 222) rfl) rfl), ⟨by decide, by decide⟩⟩
theorem na_X7_undo : (parseMethodDescriptor M_X7_undo.1.desc).map (fun d => d.parameters.length) = some 0 := by decide +kernel
theorem pf_X7_undo : plainFor M_X7_undo.1 = true := by decide +kernel
def M_X7_image : zM := (yX7_image, cX7_image, 2, some .int, { frames := 2, cells := 0, slots := 0, locals := 47 })
theorem mv_X7_image : zMv M_X7_image := ⟨(zmt (zt4 (i := 232) rfl) rfl), (zmt (zt4 (i := 233) rfl) rfl), (zmt (zt1 (i := 1) rfl) rfl), (zmt (zt4 (i := 234) rfl) rfl), ⟨by decide, by decide⟩⟩
theorem na_X7_image : (parseMethodDescriptor M_X7_image.1.desc).map (fun d => d.parameters.length) = some 0 := by decide +kernel
theorem pf_X7_image : plainFor M_X7_image.1 = true := by decide +kernel
def M_X7_back : zM := (yX7_back, cX7_back, 2, some .boolean, { frames := 2, cells := 0, slots := 0, locals := 48 })
theorem mv_X7_back : zMv M_X7_back := ⟨(zmt (zt5 (i := 0) rfl) rfl), (zmt (zt5 (i := 1) rfl) rfl), (zmt (zt1 (i := 1) rfl) rfl), (zmt (zt5 (i := 2) rfl) rfl), ⟨by decide, by decide⟩⟩
theorem na_X7_back : (parseMethodDescriptor M_X7_back.1.desc).map (fun d => d.parameters.length) = some 1 := by decide +kernel
theorem pf_X7_back : plainFor M_X7_back.1 = true := by decide +kernel
def M_X7_led : zM := (yX7_led, cX7_led, 4, some .int, { frames := 4, cells := 0, slots := 0, locals := 95 })
theorem mv_X7_led : zMv M_X7_led := ⟨(zmt (zt5 (i := 24) rfl) rfl), (zmt (zt5 (i := 25) rfl) rfl), (zmt (zt1 (i := 1) rfl) rfl), (zmt (zt5 (i := 26) rfl) rfl), ⟨by decide, by decide⟩⟩
theorem na_X7_led : (parseMethodDescriptor M_X7_led.1.desc).map (fun d => d.parameters.length) = some 1 := by decide +kernel
theorem pf_X7_led : plainFor M_X7_led.1 = true := by decide +kernel
def M_X7_size : zM := (yX7_size, cX7_size, 2, some .int, { frames := 1, cells := 0, slots := 0, locals := 23 })
theorem mv_X7_size : zMv M_X7_size := ⟨(zmt (zt5 (i := 8) rfl) rfl), (zmt (zt5 (i := 9) rfl) rfl), (zmt (zt1 (i := 1) rfl) rfl), (zmt (zt5 (i := 10) rfl) rfl), ⟨by decide, by decide⟩⟩
theorem na_X7_size : (parseMethodDescriptor M_X7_size.1.desc).map (fun d => d.parameters.length) = some 1 := by decide +kernel
theorem pf_X7_size : plainFor M_X7_size.1 = true := by decide +kernel
def M_X7_trouble : zM := (yX7_trouble, cX7_trouble, 1, some .int, { frames := 0, cells := 0, slots := 0, locals := 0 })
theorem mv_X7_trouble : zMv M_X7_trouble := ⟨(zmt (zt5 (i := 16) rfl) rfl), (zmt (zt5 (i := 17) rfl) rfl), (zmt (zt1 (i := 1) rfl) rfl), (zmt (zt5 (i := 18) rfl) rfl), ⟨by decide, by decide⟩⟩
theorem na_X7_trouble : (parseMethodDescriptor M_X7_trouble.1.desc).map (fun d => d.parameters.length) = some 0 := by decide +kernel
theorem pf_X7_trouble : plainFor M_X7_trouble.1 = true := by decide +kernel
def M_X7_refuse : zM := (yX7_refuse, cX7_refuse, 2, some .int, { frames := 0, cells := 0, slots := 0, locals := 0 })
theorem mv_X7_refuse : zMv M_X7_refuse := ⟨(zmt (zt2 (i := 57) rfl) rfl), (zmp (i := 0) rfl rfl), (zmt (zt1 (i := 1) rfl) rfl), (zmt (zt2 (i := 58) rfl) rfl), ⟨by decide, by decide⟩⟩
theorem na_X7_refuse : (parseMethodDescriptor M_X7_refuse.1.desc).map (fun d => d.parameters.length) = some 1 := by decide +kernel
theorem pf_X7_refuse : plainFor M_X7_refuse.1 = true := by decide +kernel
def M_X7_answer : zM := (yX7_answer, cX7_answer, 2, some .int, { frames := 0, cells := 0, slots := 0, locals := 0 })
theorem mv_X7_answer : zMv M_X7_answer := ⟨(zmt (zt2 (i := 208) rfl) rfl), (zmp (i := 1) rfl rfl), (zmt (zt1 (i := 1) rfl) rfl), (zmt (zt2 (i := 209) rfl) rfl), ⟨by decide, by decide⟩⟩
theorem na_X7_answer : (parseMethodDescriptor M_X7_answer.1.desc).map (fun d => d.parameters.length) = some 1 := by decide +kernel
theorem pf_X7_answer : plainFor M_X7_answer.1 = true := by decide +kernel
def M_X7_told : zM := (yX7_told, cX7_told, 3, some .boolean, { frames := 0, cells := 0, slots := 0, locals := 0 })
theorem mv_X7_told : zMv M_X7_told := ⟨(zmt (zt4 (i := 229) rfl) rfl), (zmp (i := 10) rfl rfl), (zmt (zt1 (i := 1) rfl) rfl), (zmt (zt4 (i := 230) rfl) rfl), ⟨by decide, by decide⟩⟩
theorem na_X7_told : (parseMethodDescriptor M_X7_told.1.desc).map (fun d => d.parameters.length) = some 2 := by decide +kernel
theorem pf_X7_told : plainFor M_X7_told.1 = true := by decide +kernel
def M_X7_noTube : zM := (yX7_noTube, cX7_noTube, 1, some .boolean, { frames := 0, cells := 0, slots := 0, locals := 0 })
theorem mv_X7_noTube : zMv M_X7_noTube := ⟨(zmt (zt3 (i := 14) rfl) rfl), (zmp (i := 3) rfl rfl), (zmt (zt1 (i := 1) rfl) rfl), (zmt (zt3 (i := 15) rfl) rfl), ⟨by decide, by decide⟩⟩
theorem na_X7_noTube : (parseMethodDescriptor M_X7_noTube.1.desc).map (fun d => d.parameters.length) = some 0 := by decide +kernel
theorem pf_X7_noTube : plainFor M_X7_noTube.1 = true := by decide +kernel
def M_X7_isBit : zM := (yX7_isBit, cX7_isBit, 2, some .boolean, { frames := 0, cells := 0, slots := 0, locals := 0 })
theorem mv_X7_isBit : zMv M_X7_isBit := ⟨(zmt (zt2 (i := 224) rfl) rfl), (zmp (i := 2) rfl rfl), (zmt (zt1 (i := 1) rfl) rfl), (zmt (zt2 (i := 225) rfl) rfl), ⟨by decide, by decide⟩⟩
theorem na_X7_isBit : (parseMethodDescriptor M_X7_isBit.1.desc).map (fun d => d.parameters.length) = some 1 := by decide +kernel
theorem pf_X7_isBit : plainFor M_X7_isBit.1 = true := by decide +kernel
def M_X7_isPerson : zM := (yX7_isPerson, cX7_isPerson, 2, some .boolean, { frames := 0, cells := 0, slots := 0, locals := 0 })
theorem mv_X7_isPerson : zMv M_X7_isPerson := ⟨(zmt (zt4 (i := 55) rfl) rfl), (zmp (i := 7) rfl rfl), (zmt (zt1 (i := 1) rfl) rfl), (zmt (zt4 (i := 56) rfl) rfl), ⟨by decide, by decide⟩⟩
theorem na_X7_isPerson : (parseMethodDescriptor M_X7_isPerson.1.desc).map (fun d => d.parameters.length) = some 1 := by decide +kernel
theorem pf_X7_isPerson : plainFor M_X7_isPerson.1 = true := by decide +kernel
def M_X7_isCell : zM := (yX7_isCell, cX7_isCell, 1, some .boolean, { frames := 0, cells := 0, slots := 0, locals := 0 })
theorem ms_X7_isCell : zMs M_X7_isCell := ⟨(zmt (zt3 (i := 17) rfl) rfl), (zmt (zt1 (i := 1) rfl) rfl), (zmt (zt3 (i := 18) rfl) rfl), ⟨by decide, by decide⟩⟩
theorem na_X7_isCell : (parseMethodDescriptor M_X7_isCell.1.desc).map (fun d => d.parameters.length) = some 1 := by decide +kernel
theorem pf_X7_isCell : plainFor M_X7_isCell.1 = true := by decide +kernel
def M_X7_isCountry : zM := (yX7_isCountry, cX7_isCountry, 1, some .boolean, { frames := 0, cells := 0, slots := 0, locals := 0 })
theorem ms_X7_isCountry : zMs M_X7_isCountry := ⟨(zmt (zt3 (i := 36) rfl) rfl), (zmt (zt1 (i := 1) rfl) rfl), (zmt (zt3 (i := 37) rfl) rfl), ⟨by decide, by decide⟩⟩
theorem na_X7_isCountry : (parseMethodDescriptor M_X7_isCountry.1.desc).map (fun d => d.parameters.length) = some 1 := by decide +kernel
theorem pf_X7_isCountry : plainFor M_X7_isCountry.1 = true := by decide +kernel
def M_X7_isTurn : zM := (yX7_isTurn, cX7_isTurn, 1, some .boolean, { frames := 0, cells := 0, slots := 0, locals := 0 })
theorem ms_X7_isTurn : zMs M_X7_isTurn := ⟨(zmt (zt3 (i := 71) rfl) rfl), (zmt (zt1 (i := 1) rfl) rfl), (zmt (zt3 (i := 72) rfl) rfl), ⟨by decide, by decide⟩⟩
theorem na_X7_isTurn : (parseMethodDescriptor M_X7_isTurn.1.desc).map (fun d => d.parameters.length) = some 1 := by decide +kernel
theorem pf_X7_isTurn : plainFor M_X7_isTurn.1 = true := by decide +kernel
def M_X7_isHandTurn : zM := (yX7_isHandTurn, cX7_isHandTurn, 1, some .boolean, { frames := 0, cells := 0, slots := 0, locals := 0 })
theorem ms_X7_isHandTurn : zMs M_X7_isHandTurn := ⟨(zmt (zt4 (i := 132) rfl) rfl), (zmt (zt1 (i := 1) rfl) rfl), (zmt (zt4 (i := 133) rfl) rfl), ⟨by decide, by decide⟩⟩
theorem na_X7_isHandTurn : (parseMethodDescriptor M_X7_isHandTurn.1.desc).map (fun d => d.parameters.length) = some 1 := by decide +kernel
theorem pf_X7_isHandTurn : plainFor M_X7_isHandTurn.1 = true := by decide +kernel
def M_X7_isMadeLength : zM := (yX7_isMadeLength, cX7_isMadeLength, 1, some .boolean, { frames := 0, cells := 0, slots := 0, locals := 0 })
theorem ms_X7_isMadeLength : zMs M_X7_isMadeLength := ⟨(zmt (zt3 (i := 175) rfl) rfl), (zmt (zt1 (i := 1) rfl) rfl), (zmt (zt3 (i := 176) rfl) rfl), ⟨by decide, by decide⟩⟩
theorem na_X7_isMadeLength : (parseMethodDescriptor M_X7_isMadeLength.1.desc).map (fun d => d.parameters.length) = some 1 := by decide +kernel
theorem pf_X7_isMadeLength : plainFor M_X7_isMadeLength.1 = true := by decide +kernel
def M_X7_areRolls : zM := (yX7_areRolls, cX7_areRolls, 2, some .boolean, { frames := 0, cells := 0, slots := 0, locals := 0 })
theorem ms_X7_areRolls : zMs M_X7_areRolls := ⟨(zmt (zt4 (i := 17) rfl) rfl), (zmt (zt1 (i := 1) rfl) rfl), (zmt (zt4 (i := 18) rfl) rfl), ⟨by decide, by decide⟩⟩
theorem na_X7_areRolls : (parseMethodDescriptor M_X7_areRolls.1.desc).map (fun d => d.parameters.length) = some 2 := by decide +kernel
theorem pf_X7_areRolls : plainFor M_X7_areRolls.1 = true := by decide +kernel
def M_X7_areShakes : zM := (yX7_areShakes, cX7_areShakes, 2, some .boolean, { frames := 0, cells := 0, slots := 0, locals := 0 })
theorem ms_X7_areShakes : zMs M_X7_areShakes := ⟨(zmt (zt4 (i := 158) rfl) rfl), (zmt (zt1 (i := 1) rfl) rfl), (zmt (zt4 (i := 159) rfl) rfl), ⟨by decide, by decide⟩⟩
theorem na_X7_areShakes : (parseMethodDescriptor M_X7_areShakes.1.desc).map (fun d => d.parameters.length) = some 2 := by decide +kernel
theorem pf_X7_areShakes : plainFor M_X7_areShakes.1 = true := by decide +kernel
def M_X7_aimAt : zM := (yX7_aimAt, cX7_aimAt, 4, none, { frames := 5, cells := 0, slots := 0, locals := 115 })
theorem mv_X7_aimAt : zMv M_X7_aimAt := ⟨(zmt (zt3 (i := 118) rfl) rfl), (zmp (i := 4) rfl rfl), (zmt (zt1 (i := 1) rfl) rfl), (zmt (zt3 (i := 119) rfl) rfl), ⟨by decide, by decide⟩⟩
theorem na_X7_aimAt : (parseMethodDescriptor M_X7_aimAt.1.desc).map (fun d => d.parameters.length) = some 1 := by decide +kernel
theorem pf_X7_aimAt : plainFor M_X7_aimAt.1 = true := by decide +kernel
def M_X7_isAt : zM := (yX7_isAt, cX7_isAt, 4, some .boolean, { frames := 4, cells := 0, slots := 0, locals := 92 })
theorem mv_X7_isAt : zMv M_X7_isAt := ⟨(zmt (zt3 (i := 122) rfl) rfl), (zmp (i := 5) rfl rfl), (zmt (zt1 (i := 1) rfl) rfl), (zmt (zt3 (i := 123) rfl) rfl), ⟨by decide, by decide⟩⟩
theorem na_X7_isAt : (parseMethodDescriptor M_X7_isAt.1.desc).map (fun d => d.parameters.length) = some 3 := by decide +kernel
theorem pf_X7_isAt : plainFor M_X7_isAt.1 = true := by decide +kernel
def M_X7_shareOf : zM := (yX7_shareOf, cX7_shareOf, 6, some .int, { frames := 4, cells := 0, slots := 0, locals := 92 })
theorem mv_X7_shareOf : zMv M_X7_shareOf := ⟨(zmt (zt4 (i := 136) rfl) rfl), (zmp (i := 8) rfl rfl), (zmt (zt1 (i := 1) rfl) rfl), (zmt (zt4 (i := 137) rfl) rfl), ⟨by decide, by decide⟩⟩
theorem na_X7_shareOf : (parseMethodDescriptor M_X7_shareOf.1.desc).map (fun d => d.parameters.length) = some 3 := by decide +kernel
theorem pf_X7_shareOf : plainFor M_X7_shareOf.1 = true := by decide +kernel
def M_X7_isRest : zM := (yX7_isRest, cX7_isRest, 6, some .boolean, { frames := 5, cells := 0, slots := 0, locals := 117 })
theorem mv_X7_isRest : zMv M_X7_isRest := ⟨(zmt (zt4 (i := 147) rfl) rfl), (zmp (i := 9) rfl rfl), (zmt (zt1 (i := 1) rfl) rfl), (zmt (zt4 (i := 148) rfl) rfl), ⟨by decide, by decide⟩⟩
theorem na_X7_isRest : (parseMethodDescriptor M_X7_isRest.1.desc).map (fun d => d.parameters.length) = some 2 := by decide +kernel
theorem pf_X7_isRest : plainFor M_X7_isRest.1 = true := by decide +kernel
def M_X7_oddsPart : zM := (yX7_oddsPart, cX7_oddsPart, 11, some .long, { frames := 1, cells := 0, slots := 0, locals := 30 })
theorem mv_X7_oddsPart : zMv M_X7_oddsPart := ⟨(zmt (zt4 (i := 21) rfl) rfl), (zmp (i := 6) rfl rfl), (zmt (zt1 (i := 1) rfl) rfl), (zmt (zt4 (i := 22) rfl) rfl), ⟨by decide, by decide⟩⟩
theorem na_X7_oddsPart : (parseMethodDescriptor M_X7_oddsPart.1.desc).map (fun d => d.parameters.length) = some 4 := by decide +kernel
theorem pf_X7_oddsPart : plainFor M_X7_oddsPart.1 = true := by decide +kernel
def M_X7_choices : zM := (yX7_choices, cX7_choices, 5, some .long, { frames := 0, cells := 0, slots := 0, locals := 0 })
theorem ms_X7_choices : zMs M_X7_choices := ⟨(zmt (zt4 (i := 24) rfl) rfl), (zmt (zt1 (i := 1) rfl) rfl), (zmt (zt4 (i := 25) rfl) rfl), ⟨by decide, by decide⟩⟩
theorem na_X7_choices : (parseMethodDescriptor M_X7_choices.1.desc).map (fun d => d.parameters.length) = some 2 := by decide +kernel
theorem pf_X7_choices : plainFor M_X7_choices.1 = true := by decide +kernel
def M_X7_power : zM := (yX7_power, cX7_power, 6, some .long, { frames := 0, cells := 0, slots := 0, locals := 0 })
theorem ms_X7_power : zMs M_X7_power := ⟨(zmt (zt4 (i := 27) rfl) rfl), (zmt (zt1 (i := 1) rfl) rfl), (zmt (zt4 (i := 28) rfl) rfl), ⟨by decide, by decide⟩⟩
theorem na_X7_power : (parseMethodDescriptor M_X7_power.1.desc).map (fun d => d.parameters.length) = some 2 := by decide +kernel
theorem pf_X7_power : plainFor M_X7_power.1 = true := by decide +kernel
def M_X7_commonDivisor : zM := (yX7_commonDivisor, cX7_commonDivisor, 11, some .long, { frames := 0, cells := 0, slots := 0, locals := 0 })
theorem ms_X7_commonDivisor : zMs M_X7_commonDivisor := ⟨(zmt (zt4 (i := 31) rfl) rfl), (zmt (zt1 (i := 1) rfl) rfl), (zmt (zt4 (i := 32) rfl) rfl), ⟨by decide, by decide⟩⟩
theorem na_X7_commonDivisor : (parseMethodDescriptor M_X7_commonDivisor.1.desc).map (fun d => d.parameters.length) = some 2 := by decide +kernel
theorem pf_X7_commonDivisor : plainFor M_X7_commonDivisor.1 = true := by decide +kernel
def M_X7_half : zM := (yX7_half, cX7_half, 1, some .int, { frames := 0, cells := 0, slots := 0, locals := 0 })
theorem ms_X7_half : zMs M_X7_half := ⟨(zmt (zt1 (i := 227) rfl) rfl), (zmt (zt1 (i := 1) rfl) rfl), (zmt (zt1 (i := 228) rfl) rfl), ⟨by decide, by decide⟩⟩
theorem na_X7_half : (parseMethodDescriptor M_X7_half.1.desc).map (fun d => d.parameters.length) = some 1 := by decide +kernel
theorem pf_X7_half : plainFor M_X7_half.1 = true := by decide +kernel
def M_X7_asBit : zM := (yX7_asBit, cX7_asBit, 1, some .int, { frames := 0, cells := 0, slots := 0, locals := 0 })
theorem ms_X7_asBit : zMs M_X7_asBit := ⟨(zmt (zt3 (i := 29) rfl) rfl), (zmt (zt1 (i := 1) rfl) rfl), (zmt (zt3 (i := 30) rfl) rfl), ⟨by decide, by decide⟩⟩
theorem na_X7_asBit : (parseMethodDescriptor M_X7_asBit.1.desc).map (fun d => d.parameters.length) = some 1 := by decide +kernel
theorem pf_X7_asBit : plainFor M_X7_asBit.1 = true := by decide +kernel
def M_X7_runsUpwards : zM := (yX7_runsUpwards, cX7_runsUpwards, 1, some .boolean, { frames := 0, cells := 0, slots := 0, locals := 0 })
theorem ms_X7_runsUpwards : zMs M_X7_runsUpwards := ⟨(zmt (zt2 (i := 192) rfl) rfl), (zmt (zt1 (i := 1) rfl) rfl), (zmt (zt2 (i := 193) rfl) rfl), ⟨by decide, by decide⟩⟩
theorem na_X7_runsUpwards : (parseMethodDescriptor M_X7_runsUpwards.1.desc).map (fun d => d.parameters.length) = some 1 := by decide +kernel
theorem pf_X7_runsUpwards : plainFor M_X7_runsUpwards.1 = true := by decide +kernel
def M_X7_tubeCell : zM := (yX7_tubeCell, cX7_tubeCell, 3, some .int, { frames := 1, cells := 0, slots := 0, locals := 22 })
theorem ms_X7_tubeCell : zMs M_X7_tubeCell := ⟨(zmt (zt3 (i := 43) rfl) rfl), (zmt (zt1 (i := 1) rfl) rfl), (zmt (zt3 (i := 44) rfl) rfl), ⟨by decide, by decide⟩⟩
theorem na_X7_tubeCell : (parseMethodDescriptor M_X7_tubeCell.1.desc).map (fun d => d.parameters.length) = some 2 := by decide +kernel
theorem pf_X7_tubeCell : plainFor M_X7_tubeCell.1 = true := by decide +kernel
def M_X7_mirroredCell : zM := (yX7_mirroredCell, cX7_mirroredCell, 3, some .int, { frames := 1, cells := 0, slots := 0, locals := 22 })
theorem ms_X7_mirroredCell : zMs M_X7_mirroredCell := ⟨(zmt (zt3 (i := 51) rfl) rfl), (zmt (zt1 (i := 1) rfl) rfl), (zmt (zt3 (i := 52) rfl) rfl), ⟨by decide, by decide⟩⟩
theorem na_X7_mirroredCell : (parseMethodDescriptor M_X7_mirroredCell.1.desc).map (fun d => d.parameters.length) = some 2 := by decide +kernel
theorem pf_X7_mirroredCell : plainFor M_X7_mirroredCell.1 = true := by decide +kernel
def M_X7_spotAt : zM := (yX7_spotAt, cX7_spotAt, 2, some .int, { frames := 1, cells := 0, slots := 0, locals := 20 })
theorem ms_X7_spotAt : zMs M_X7_spotAt := ⟨(zmt (zt2 (i := 189) rfl) rfl), (zmt (zt1 (i := 1) rfl) rfl), (zmt (zt2 (i := 190) rfl) rfl), ⟨by decide, by decide⟩⟩
theorem na_X7_spotAt : (parseMethodDescriptor M_X7_spotAt.1.desc).map (fun d => d.parameters.length) = some 2 := by decide +kernel
theorem pf_X7_spotAt : plainFor M_X7_spotAt.1 = true := by decide +kernel
def M_X7_countryAt : zM := (yX7_countryAt, cX7_countryAt, 1, some .int, { frames := 0, cells := 0, slots := 0, locals := 0 })
theorem ms_X7_countryAt : zMs M_X7_countryAt := ⟨(zmt (zt4 (i := 62) rfl) rfl), (zmt (zt1 (i := 1) rfl) rfl), (zmt (zt4 (i := 63) rfl) rfl), ⟨by decide, by decide⟩⟩
theorem na_X7_countryAt : (parseMethodDescriptor M_X7_countryAt.1.desc).map (fun d => d.parameters.length) = some 1 := by decide +kernel
theorem pf_X7_countryAt : plainFor M_X7_countryAt.1 = true := by decide +kernel
def M_X7_cellAt : zM := (yX7_cellAt, cX7_cellAt, 1, some .int, { frames := 1, cells := 0, slots := 0, locals := 20 })
theorem ms_X7_cellAt : zMs M_X7_cellAt := ⟨(zmt (zt4 (i := 65) rfl) rfl), (zmt (zt1 (i := 1) rfl) rfl), (zmt (zt4 (i := 66) rfl) rfl), ⟨by decide, by decide⟩⟩
theorem na_X7_cellAt : (parseMethodDescriptor M_X7_cellAt.1.desc).map (fun d => d.parameters.length) = some 1 := by decide +kernel
theorem pf_X7_cellAt : plainFor M_X7_cellAt.1 = true := by decide +kernel
def M_X7_spotBeside : zM := (yX7_spotBeside, cX7_spotBeside, 2, some .int, { frames := 1, cells := 0, slots := 0, locals := 22 })
theorem ms_X7_spotBeside : zMs M_X7_spotBeside := ⟨(zmt (zt4 (i := 85) rfl) rfl), (zmt (zt1 (i := 1) rfl) rfl), (zmt (zt4 (i := 86) rfl) rfl), ⟨by decide, by decide⟩⟩
theorem na_X7_spotBeside : (parseMethodDescriptor M_X7_spotBeside.1.desc).map (fun d => d.parameters.length) = some 2 := by decide +kernel
theorem pf_X7_spotBeside : plainFor M_X7_spotBeside.1 = true := by decide +kernel
def M_X8_init : zM := (yX8_init, cX8_init, 1, none, { frames := 1, cells := 13, slots := 88, locals := 20 })
theorem mi_X8_init : zMi M_X8_init := ⟨(zmt (zt5 (i := 195) rfl) rfl), (zmt (zt1 (i := 11) rfl) rfl), (zmt (zt5 (i := 196) rfl) rfl), rfl, rfl, ⟨by decide, by decide⟩⟩
theorem na_X8_init : (parseMethodDescriptor M_X8_init.1.desc).map (fun d => d.parameters.length) = some 0 := by decide +kernel
theorem pf_X8_init : plainFor M_X8_init.1 = true := by decide +kernel
def M_X8_find : zM := (yX8_find, cX8_find, 4, some .int, { frames := 0, cells := 0, slots := 0, locals := 0 })
theorem mv_X8_find : zMv M_X8_find := ⟨(zmt (zt6 (i := 169) rfl) rfl), (zmt (zt6 (i := 170) rfl) rfl), (zmt (zt1 (i := 11) rfl) rfl), (zmt (zt6 (i := 171) rfl) rfl), ⟨by decide, by decide⟩⟩
theorem na_X8_find : (parseMethodDescriptor M_X8_find.1.desc).map (fun d => d.parameters.length) = some 1 := by decide +kernel
theorem pf_X8_find : plainFor M_X8_find.1 = true := by decide +kernel
def M_X8_isHoliday : zM := (yX8_isHoliday, cX8_isHoliday, 3, some .boolean, { frames := 0, cells := 0, slots := 0, locals := 0 })
theorem mv_X8_isHoliday : zMv M_X8_isHoliday := ⟨(zmt (zt6 (i := 210) rfl) rfl), (zmt (zt6 (i := 211) rfl) rfl), (zmt (zt1 (i := 11) rfl) rfl), (zmt (zt6 (i := 212) rfl) rfl), ⟨by decide, by decide⟩⟩
theorem na_X8_isHoliday : (parseMethodDescriptor M_X8_isHoliday.1.desc).map (fun d => d.parameters.length) = some 1 := by decide +kernel
theorem pf_X8_isHoliday : plainFor M_X8_isHoliday.1 = true := by decide +kernel
def M_X8_isMet : zM := (yX8_isMet, cX8_isMet, 3, some .boolean, { frames := 0, cells := 0, slots := 0, locals := 0 })
theorem mv_X8_isMet : zMv M_X8_isMet := ⟨(zmt (zt6 (i := 202) rfl) rfl), (zmt (zt6 (i := 203) rfl) rfl), (zmt (zt1 (i := 11) rfl) rfl), (zmt (zt6 (i := 204) rfl) rfl), ⟨by decide, by decide⟩⟩
theorem na_X8_isMet : (parseMethodDescriptor M_X8_isMet.1.desc).map (fun d => d.parameters.length) = some 1 := by decide +kernel
theorem pf_X8_isMet : plainFor M_X8_isMet.1 = true := by decide +kernel
def M_X8_goesBy : zM := (yX8_goesBy, cX8_goesBy, 3, some .int, { frames := 0, cells := 0, slots := 0, locals := 0 })
theorem mv_X8_goesBy : zMv M_X8_goesBy := ⟨(zmt (zt7 (i := 63) rfl) rfl), (zmt (zt7 (i := 64) rfl) rfl), (zmt (zt1 (i := 11) rfl) rfl), (zmt (zt7 (i := 65) rfl) rfl), ⟨by decide, by decide⟩⟩
theorem na_X8_goesBy : (parseMethodDescriptor M_X8_goesBy.1.desc).map (fun d => d.parameters.length) = some 2 := by decide +kernel
theorem pf_X8_goesBy : plainFor M_X8_goesBy.1 = true := by decide +kernel
def M_X9_init : zM := (yX9_init, cX9_init, 1, none, { frames := 1, cells := 7, slots := 1125, locals := 20 })
theorem mi_X9_init : zMi M_X9_init := ⟨(zmt (zt5 (i := 91) rfl) rfl), (zmt (zt1 (i := 10) rfl) rfl), (zmt (zt5 (i := 92) rfl) rfl), rfl, rfl, ⟨by decide, by decide⟩⟩
theorem na_X9_init : (parseMethodDescriptor M_X9_init.1.desc).map (fun d => d.parameters.length) = some 0 := by decide +kernel
theorem pf_X9_init : plainFor M_X9_init.1 = true := by decide +kernel
def M_X9_thrown : zM := (yX9_thrown, cX9_thrown, 1, some .int, { frames := 0, cells := 0, slots := 0, locals := 0 })
theorem mv_X9_thrown : zMv M_X9_thrown := ⟨(zmt (zt5 (i := 177) rfl) rfl), (zmt (zt5 (i := 178) rfl) rfl), (zmt (zt1 (i := 10) rfl) rfl), (zmt (zt5 (i := 179) rfl) rfl), ⟨by decide, by decide⟩⟩
theorem na_X9_thrown : (parseMethodDescriptor M_X9_thrown.1.desc).map (fun d => d.parameters.length) = some 0 := by decide +kernel
theorem pf_X9_thrown : plainFor M_X9_thrown.1 = true := by decide +kernel
def M_X9_refused : zM := (yX9_refused, cX9_refused, 2, some .int, { frames := 0, cells := 0, slots := 0, locals := 0 })
theorem mv_X9_refused : zMv M_X9_refused := ⟨(zmt (zt5 (i := 190) rfl) rfl), (zmp (i := 12) rfl rfl), (zmt (zt1 (i := 10) rfl) rfl), (zmt (zt5 (i := 191) rfl) rfl), ⟨by decide, by decide⟩⟩
theorem na_X9_refused : (parseMethodDescriptor M_X9_refused.1.desc).map (fun d => d.parameters.length) = some 1 := by decide +kernel
theorem pf_X9_refused : plainFor M_X9_refused.1 = true := by decide +kernel
def M_X9_lost : zM := (yX9_lost, cX9_lost, 2, some .int, { frames := 1, cells := 0, slots := 0, locals := 21 })
theorem mv_X9_lost : zMv M_X9_lost := ⟨(zmt (zt8 (i := 80) rfl) rfl), (zmp (i := 71) rfl rfl), (zmt (zt1 (i := 10) rfl) rfl), (zmt (zt8 (i := 81) rfl) rfl), ⟨by decide, by decide⟩⟩
theorem na_X9_lost : (parseMethodDescriptor M_X9_lost.1.desc).map (fun d => d.parameters.length) = some 1 := by decide +kernel
theorem pf_X9_lost : plainFor M_X9_lost.1 = true := by decide +kernel
def M_X9_denied : zM := (yX9_denied, cX9_denied, 2, some .boolean, { frames := 1, cells := 0, slots := 0, locals := 21 })
theorem mv_X9_denied : zMv M_X9_denied := ⟨(zmt (zt8 (i := 147) rfl) rfl), (zmp (i := 77) rfl rfl), (zmt (zt1 (i := 10) rfl) rfl), (zmt (zt8 (i := 148) rfl) rfl), ⟨by decide, by decide⟩⟩
theorem na_X9_denied : (parseMethodDescriptor M_X9_denied.1.desc).map (fun d => d.parameters.length) = some 1 := by decide +kernel
theorem pf_X9_denied : plainFor M_X9_denied.1 = true := by decide +kernel
def M_X9_good : zM := (yX9_good, cX9_good, 2, some .int, { frames := 0, cells := 0, slots := 0, locals := 0 })
theorem mv_X9_good : zMv M_X9_good := ⟨(zmt (zt6 (i := 227) rfl) rfl), (zmp (i := 37) rfl rfl), (zmt (zt1 (i := 10) rfl) rfl), (zmt (zt6 (i := 228) rfl) rfl), ⟨by decide, by decide⟩⟩
theorem na_X9_good : (parseMethodDescriptor M_X9_good.1.desc).map (fun d => d.parameters.length) = some 1 := by decide +kernel
theorem pf_X9_good : plainFor M_X9_good.1 = true := by decide +kernel
def M_X9_granted : zM := (yX9_granted, cX9_granted, 1, some .boolean, { frames := 1, cells := 0, slots := 0, locals := 21 })
theorem mv_X9_granted : zMv M_X9_granted := ⟨(zmt (zt8 (i := 151) rfl) rfl), (zmp (i := 78) rfl rfl), (zmt (zt1 (i := 10) rfl) rfl), (zmt (zt8 (i := 152) rfl) rfl), ⟨by decide, by decide⟩⟩
theorem na_X9_granted : (parseMethodDescriptor M_X9_granted.1.desc).map (fun d => d.parameters.length) = some 0 := by decide +kernel
theorem pf_X9_granted : plainFor M_X9_granted.1 = true := by decide +kernel
def M_X9_in : zM := (yX9_in, cX9_in, 3, some .boolean, { frames := 0, cells := 0, slots := 0, locals := 0 })
theorem ms_X9_in : zMs M_X9_in := ⟨(zmt (zt6 (i := 144) rfl) rfl), (zmt (zt1 (i := 10) rfl) rfl), (zmt (zt6 (i := 145) rfl) rfl), ⟨by decide, by decide⟩⟩
theorem na_X9_in : (parseMethodDescriptor M_X9_in.1.desc).map (fun d => d.parameters.length) = some 3 := by decide +kernel
theorem pf_X9_in : plainFor M_X9_in.1 = true := by decide +kernel
def M_X9_has : zM := (yX9_has, cX9_has, 2, some .boolean, { frames := 0, cells := 0, slots := 0, locals := 0 })
theorem ms_X9_has : zMs M_X9_has := ⟨(zmt (zt7 (i := 141) rfl) rfl), (zmt (zt1 (i := 10) rfl) rfl), (zmt (zt7 (i := 142) rfl) rfl), ⟨by decide, by decide⟩⟩
theorem na_X9_has : (parseMethodDescriptor M_X9_has.1.desc).map (fun d => d.parameters.length) = some 2 := by decide +kernel
theorem pf_X9_has : plainFor M_X9_has.1 = true := by decide +kernel
def M_X9_bits : zM := (yX9_bits, cX9_bits, 3, some .int, { frames := 0, cells := 0, slots := 0, locals := 0 })
theorem ms_X9_bits : zMs M_X9_bits := ⟨(zmt (zt7 (i := 83) rfl) rfl), (zmt (zt1 (i := 10) rfl) rfl), (zmt (zt7 (i := 84) rfl) rfl), ⟨by decide, by decide⟩⟩
theorem na_X9_bits : (parseMethodDescriptor M_X9_bits.1.desc).map (fun d => d.parameters.length) = some 1 := by decide +kernel
theorem pf_X9_bits : plainFor M_X9_bits.1 = true := by decide +kernel
def M_X9_round : zM := (yX9_round, cX9_round, 1, some .int, { frames := 0, cells := 0, slots := 0, locals := 0 })
theorem ms_X9_round : zMs M_X9_round := ⟨(zmt (zt7 (i := 36) rfl) rfl), (zmt (zt1 (i := 10) rfl) rfl), (zmt (zt7 (i := 37) rfl) rfl), ⟨by decide, by decide⟩⟩
theorem na_X9_round : (parseMethodDescriptor M_X9_round.1.desc).map (fun d => d.parameters.length) = some 1 := by decide +kernel
theorem pf_X9_round : plainFor M_X9_round.1 = true := by decide +kernel
def M_X9_common : zM := (yX9_common, cX9_common, 10, some .long, { frames := 0, cells := 0, slots := 0, locals := 0 })
theorem ms_X9_common : zMs M_X9_common := ⟨(zmt (zt8 (i := 4) rfl) rfl), (zmt (zt1 (i := 10) rfl) rfl), (zmt (zt8 (i := 5) rfl) rfl), ⟨by decide, by decide⟩⟩
theorem na_X9_common : (parseMethodDescriptor M_X9_common.1.desc).map (fun d => d.parameters.length) = some 2 := by decide +kernel
theorem pf_X9_common : plainFor M_X9_common.1 = true := by decide +kernel
def M_X9_fraction : zM := (yX9_fraction, cX9_fraction, 6, some .long, { frames := 1, cells := 0, slots := 0, locals := 29 })
theorem mv_X9_fraction : zMv M_X9_fraction := ⟨(zmt (zt8 (i := 1) rfl) rfl), (zmp (i := 64) rfl rfl), (zmt (zt1 (i := 10) rfl) rfl), (zmt (zt8 (i := 2) rfl) rfl), ⟨by decide, by decide⟩⟩
theorem na_X9_fraction : (parseMethodDescriptor M_X9_fraction.1.desc).map (fun d => d.parameters.length) = some 3 := by decide +kernel
theorem pf_X9_fraction : plainFor M_X9_fraction.1 = true := by decide +kernel
def M_X9_byteAt : zM := (yX9_byteAt, cX9_byteAt, 2, some .int, { frames := 0, cells := 0, slots := 0, locals := 0 })
theorem mv_X9_byteAt : zMv M_X9_byteAt := ⟨(zmt (zt6 (i := 45) rfl) rfl), (zmp (i := 14) rfl rfl), (zmt (zt1 (i := 10) rfl) rfl), (zmt (zt6 (i := 46) rfl) rfl), ⟨by decide, by decide⟩⟩
theorem na_X9_byteAt : (parseMethodDescriptor M_X9_byteAt.1.desc).map (fun d => d.parameters.length) = some 1 := by decide +kernel
theorem pf_X9_byteAt : plainFor M_X9_byteAt.1 = true := by decide +kernel
def M_X9_isLetter : zM := (yX9_isLetter, cX9_isLetter, 1, some .boolean, { frames := 0, cells := 0, slots := 0, locals := 0 })
theorem ms_X9_isLetter : zMs M_X9_isLetter := ⟨(zmt (zt6 (i := 48) rfl) rfl), (zmt (zt1 (i := 10) rfl) rfl), (zmt (zt6 (i := 49) rfl) rfl), ⟨by decide, by decide⟩⟩
theorem na_X9_isLetter : (parseMethodDescriptor M_X9_isLetter.1.desc).map (fun d => d.parameters.length) = some 1 := by decide +kernel
theorem pf_X9_isLetter : plainFor M_X9_isLetter.1 = true := by decide +kernel
def M_X9_isDigit : zM := (yX9_isDigit, cX9_isDigit, 1, some .boolean, { frames := 0, cells := 0, slots := 0, locals := 0 })
theorem ms_X9_isDigit : zMs M_X9_isDigit := ⟨(zmt (zt6 (i := 52) rfl) rfl), (zmt (zt1 (i := 10) rfl) rfl), (zmt (zt6 (i := 53) rfl) rfl), ⟨by decide, by decide⟩⟩
theorem na_X9_isDigit : (parseMethodDescriptor M_X9_isDigit.1.desc).map (fun d => d.parameters.length) = some 1 := by decide +kernel
theorem pf_X9_isDigit : plainFor M_X9_isDigit.1 = true := by decide +kernel
def M_X9_packed : zM := (yX9_packed, cX9_packed, 4, some .long, { frames := 5, cells := 0, slots := 0, locals := 106 })
theorem ms_X9_packed : zMs M_X9_packed := ⟨(zmt (zt6 (i := 68) rfl) rfl), (zmt (zt1 (i := 10) rfl) rfl), (zmt (zt6 (i := 69) rfl) rfl), ⟨by decide, by decide⟩⟩
theorem na_X9_packed : (parseMethodDescriptor M_X9_packed.1.desc).map (fun d => d.parameters.length) = some 1 := by decide +kernel
theorem pf_X9_packed : plainFor M_X9_packed.1 = true := by decide +kernel
def M_X9_goesOn : zM := (yX9_goesOn, cX9_goesOn, 3, none, { frames := 1, cells := 0, slots := 0, locals := 21 })
theorem mv_X9_goesOn : zMv M_X9_goesOn := ⟨(zmt (zt6 (i := 41) rfl) rfl), (zmp (i := 13) rfl rfl), (zmt (zt1 (i := 10) rfl) rfl), (zmt (zt6 (i := 42) rfl) rfl), ⟨by decide, by decide⟩⟩
theorem na_X9_goesOn : (parseMethodDescriptor M_X9_goesOn.1.desc).map (fun d => d.parameters.length) = some 0 := by decide +kernel
theorem pf_X9_goesOn : plainFor M_X9_goesOn.1 = true := by decide +kernel
def M_X9_flaw : zM := (yX9_flaw, cX9_flaw, 2, none, { frames := 0, cells := 0, slots := 0, locals := 0 })
theorem mv_X9_flaw : zMv M_X9_flaw := ⟨(zmt (zt6 (i := 124) rfl) rfl), (zmp (i := 19) rfl rfl), (zmt (zt1 (i := 10) rfl) rfl), (zmt (zt6 (i := 125) rfl) rfl), ⟨by decide, by decide⟩⟩
theorem na_X9_flaw : (parseMethodDescriptor M_X9_flaw.1.desc).map (fun d => d.parameters.length) = some 1 := by decide +kernel
theorem pf_X9_flaw : plainFor M_X9_flaw.1 = true := by decide +kernel
def M_X9_isWord : zM := (yX9_isWord, cX9_isWord, 2, some .boolean, { frames := 6, cells := 0, slots := 0, locals := 129 })
theorem mv_X9_isWord : zMv M_X9_isWord := ⟨(zmt (zt6 (i := 65) rfl) rfl), (zmp (i := 17) rfl rfl), (zmt (zt1 (i := 10) rfl) rfl), (zmt (zt6 (i := 66) rfl) rfl), ⟨by decide, by decide⟩⟩
theorem na_X9_isWord : (parseMethodDescriptor M_X9_isWord.1.desc).map (fun d => d.parameters.length) = some 1 := by decide +kernel
theorem pf_X9_isWord : plainFor M_X9_isWord.1 = true := by decide +kernel
def M_X9_eatsSemicolon : zM := (yX9_eatsSemicolon, cX9_eatsSemicolon, 2, some .boolean, { frames := 2, cells := 0, slots := 0, locals := 43 })
theorem mv_X9_eatsSemicolon : zMv M_X9_eatsSemicolon := ⟨(zmt (zt6 (i := 220) rfl) rfl), (zmp (i := 36) rfl rfl), (zmt (zt1 (i := 10) rfl) rfl), (zmt (zt6 (i := 221) rfl) rfl), ⟨by decide, by decide⟩⟩
theorem na_X9_eatsSemicolon : (parseMethodDescriptor M_X9_eatsSemicolon.1.desc).map (fun d => d.parameters.length) = some 0 := by decide +kernel
theorem pf_X9_eatsSemicolon : plainFor M_X9_eatsSemicolon.1 = true := by decide +kernel
def M_X9_needs : zM := (yX9_needs, cX9_needs, 2, none, { frames := 7, cells := 0, slots := 0, locals := 150 })
theorem mv_X9_needs : zMv M_X9_needs := ⟨(zmt (zt6 (i := 133) rfl) rfl), (zmp (i := 21) rfl rfl), (zmt (zt1 (i := 10) rfl) rfl), (zmt (zt6 (i := 134) rfl) rfl), ⟨by decide, by decide⟩⟩
theorem na_X9_needs : (parseMethodDescriptor M_X9_needs.1.desc).map (fun d => d.parameters.length) = some 1 := by decide +kernel
theorem pf_X9_needs : plainFor M_X9_needs.1 = true := by decide +kernel
def M_X9_bounded : zM := (yX9_bounded, cX9_bounded, 3, some .int, { frames := 1, cells := 0, slots := 0, locals := 22 })
theorem mv_X9_bounded : zMv M_X9_bounded := ⟨(zmt (zt6 (i := 141) rfl) rfl), (zmp (i := 23) rfl rfl), (zmt (zt1 (i := 10) rfl) rfl), (zmt (zt6 (i := 142) rfl) rfl), ⟨by decide, by decide⟩⟩
theorem na_X9_bounded : (parseMethodDescriptor M_X9_bounded.1.desc).map (fun d => d.parameters.length) = some 2 := by decide +kernel
theorem pf_X9_bounded : plainFor M_X9_bounded.1 = true := by decide +kernel
def M_X9_readWhole : zM := (yX9_readWhole, cX9_readWhole, 4, some .int, { frames := 2, cells := 0, slots := 0, locals := 44 })
theorem mv_X9_readWhole : zMv M_X9_readWhole := ⟨(zmt (zt6 (i := 137) rfl) rfl), (zmp (i := 22) rfl rfl), (zmt (zt1 (i := 10) rfl) rfl), (zmt (zt6 (i := 138) rfl) rfl), ⟨by decide, by decide⟩⟩
theorem na_X9_readWhole : (parseMethodDescriptor M_X9_readWhole.1.desc).map (fun d => d.parameters.length) = some 2 := by decide +kernel
theorem pf_X9_readWhole : plainFor M_X9_readWhole.1 = true := by decide +kernel
def M_X9_readPart : zM := (yX9_readPart, cX9_readPart, 4, some .int, { frames := 8, cells := 0, slots := 0, locals := 171 })
theorem mv_X9_readPart : zMv M_X9_readPart := ⟨(zmt (zt6 (i := 129) rfl) rfl), (zmp (i := 20) rfl rfl), (zmt (zt1 (i := 10) rfl) rfl), (zmt (zt6 (i := 130) rfl) rfl), ⟨by decide, by decide⟩⟩
theorem na_X9_readPart : (parseMethodDescriptor M_X9_readPart.1.desc).map (fun d => d.parameters.length) = some 3 := by decide +kernel
theorem pf_X9_readPart : plainFor M_X9_readPart.1 = true := by decide +kernel
def M_X9_readWord : zM := (yX9_readWord, cX9_readWord, 3, some .long, { frames := 2, cells := 0, slots := 0, locals := 43 })
theorem mv_X9_readWord : zMv M_X9_readWord := ⟨(zmt (zt6 (i := 178) rfl) rfl), (zmp (i := 28) rfl rfl), (zmt (zt1 (i := 10) rfl) rfl), (zmt (zt6 (i := 179) rfl) rfl), ⟨by decide, by decide⟩⟩
theorem na_X9_readWord : (parseMethodDescriptor M_X9_readWord.1.desc).map (fun d => d.parameters.length) = some 0 := by decide +kernel
theorem pf_X9_readWord : plainFor M_X9_readWord.1 = true := by decide +kernel
def M_X9_isName : zM := (yX9_isName, cX9_isName, 1, some .boolean, { frames := 7, cells := 0, slots := 0, locals := 150 })
theorem mv_X9_isName : zMv M_X9_isName := ⟨(zmt (zt6 (i := 161) rfl) rfl), (zmp (i := 27) rfl rfl), (zmt (zt1 (i := 10) rfl) rfl), (zmt (zt6 (i := 162) rfl) rfl), ⟨by decide, by decide⟩⟩
theorem na_X9_isName : (parseMethodDescriptor M_X9_isName.1.desc).map (fun d => d.parameters.length) = some 0 := by decide +kernel
theorem pf_X9_isName : plainFor M_X9_isName.1 = true := by decide +kernel
def M_X9_lineBegins : zM := (yX9_lineBegins, cX9_lineBegins, 3, none, { frames := 2, cells := 0, slots := 0, locals := 43 })
theorem mv_X9_lineBegins : zMv M_X9_lineBegins := ⟨(zmt (zt6 (i := 153) rfl) rfl), (zmp (i := 25) rfl rfl), (zmt (zt1 (i := 10) rfl) rfl), (zmt (zt6 (i := 154) rfl) rfl), ⟨by decide, by decide⟩⟩
theorem na_X9_lineBegins : (parseMethodDescriptor M_X9_lineBegins.1.desc).map (fun d => d.parameters.length) = some 2 := by decide +kernel
theorem pf_X9_lineBegins : plainFor M_X9_lineBegins.1 = true := by decide +kernel
def M_X9_readFresh : zM := (yX9_readFresh, cX9_readFresh, 3, some .long, { frames := 8, cells := 0, slots := 0, locals := 170 })
theorem mv_X9_readFresh : zMv M_X9_readFresh := ⟨(zmt (zt6 (i := 157) rfl) rfl), (zmp (i := 26) rfl rfl), (zmt (zt1 (i := 10) rfl) rfl), (zmt (zt6 (i := 158) rfl) rfl), ⟨by decide, by decide⟩⟩
theorem na_X9_readFresh : (parseMethodDescriptor M_X9_readFresh.1.desc).map (fun d => d.parameters.length) = some 0 := by decide +kernel
theorem pf_X9_readFresh : plainFor M_X9_readFresh.1 = true := by decide +kernel
def M_X9_names : zM := (yX9_names, cX9_names, 5, none, { frames := 0, cells := 0, slots := 0, locals := 0 })
theorem mv_X9_names : zMv M_X9_names := ⟨(zmt (zt6 (i := 183) rfl) rfl), (zmp (i := 29) rfl rfl), (zmt (zt1 (i := 10) rfl) rfl), (zmt (zt6 (i := 184) rfl) rfl), ⟨by decide, by decide⟩⟩
theorem na_X9_names : (parseMethodDescriptor M_X9_names.1.desc).map (fun d => d.parameters.length) = some 3 := by decide +kernel
theorem pf_X9_names : plainFor M_X9_names.1 = true := by decide +kernel
def M_X9_knownBit : zM := (yX9_knownBit, cX9_knownBit, 2, some .int, { frames := 8, cells := 0, slots := 0, locals := 170 })
theorem mv_X9_knownBit : zMv M_X9_knownBit := ⟨(zmt (zt6 (i := 191) rfl) rfl), (zmp (i := 31) rfl rfl), (zmt (zt1 (i := 10) rfl) rfl), (zmt (zt6 (i := 192) rfl) rfl), ⟨by decide, by decide⟩⟩
theorem na_X9_knownBit : (parseMethodDescriptor M_X9_knownBit.1.desc).map (fun d => d.parameters.length) = some 0 := by decide +kernel
theorem pf_X9_knownBit : plainFor M_X9_knownBit.1 = true := by decide +kernel
def M_X9_readAll : zM := (yX9_readAll, cX9_readAll, 2, none, { frames := 11, cells := 0, slots := 0, locals := 241 })
theorem mv_X9_readAll : zMv M_X9_readAll := ⟨(zmt (zt6 (i := 56) rfl) rfl), (zmp (i := 15) rfl rfl), (zmt (zt1 (i := 10) rfl) rfl), (zmt (zt6 (i := 57) rfl) rfl), ⟨by decide, by decide⟩⟩
theorem na_X9_readAll : (parseMethodDescriptor M_X9_readAll.1.desc).map (fun d => d.parameters.length) = some 0 := by decide +kernel
theorem pf_X9_readAll : plainFor M_X9_readAll.1 = true := by decide +kernel
def M_X9_readLine : zM := (yX9_readLine, cX9_readLine, 1, none, { frames := 10, cells := 0, slots := 0, locals := 221 })
theorem mv_X9_readLine : zMv M_X9_readLine := ⟨(zmt (zt6 (i := 60) rfl) rfl), (zmp (i := 16) rfl rfl), (zmt (zt1 (i := 10) rfl) rfl), (zmt (zt6 (i := 61) rfl) rfl), ⟨by decide, by decide⟩⟩
theorem na_X9_readLine : (parseMethodDescriptor M_X9_readLine.1.desc).map (fun d => d.parameters.length) = some 0 := by decide +kernel
theorem pf_X9_readLine : plainFor M_X9_readLine.1 = true := by decide +kernel
def M_X9_readTube : zM := (yX9_readTube, cX9_readTube, 2, none, { frames := 9, cells := 0, slots := 0, locals := 194 })
theorem mv_X9_readTube : zMv M_X9_readTube := ⟨(zmt (zt6 (i := 120) rfl) rfl), (zmp (i := 18) rfl rfl), (zmt (zt1 (i := 10) rfl) rfl), (zmt (zt6 (i := 121) rfl) rfl), ⟨by decide, by decide⟩⟩
theorem na_X9_readTube : (parseMethodDescriptor M_X9_readTube.1.desc).map (fun d => d.parameters.length) = some 0 := by decide +kernel
theorem pf_X9_readTube : plainFor M_X9_readTube.1 = true := by decide +kernel
def M_X9_readBit : zM := (yX9_readBit, cX9_readBit, 8, none, { frames := 9, cells := 0, slots := 0, locals := 194 })
theorem mv_X9_readBit : zMv M_X9_readBit := ⟨(zmt (zt6 (i := 149) rfl) rfl), (zmp (i := 24) rfl rfl), (zmt (zt1 (i := 10) rfl) rfl), (zmt (zt6 (i := 150) rfl) rfl), ⟨by decide, by decide⟩⟩
theorem na_X9_readBit : (parseMethodDescriptor M_X9_readBit.1.desc).map (fun d => d.parameters.length) = some 0 := by decide +kernel
theorem pf_X9_readBit : plainFor M_X9_readBit.1 = true := by decide +kernel
def M_X9_readWant : zM := (yX9_readWant, cX9_readWant, 3, none, { frames := 9, cells := 0, slots := 0, locals := 194 })
theorem mv_X9_readWant : zMv M_X9_readWant := ⟨(zmt (zt6 (i := 187) rfl) rfl), (zmp (i := 30) rfl rfl), (zmt (zt1 (i := 10) rfl) rfl), (zmt (zt6 (i := 188) rfl) rfl), ⟨by decide, by decide⟩⟩
theorem na_X9_readWant : (parseMethodDescriptor M_X9_readWant.1.desc).map (fun d => d.parameters.length) = some 0 := by decide +kernel
theorem pf_X9_readWant : plainFor M_X9_readWant.1 = true := by decide +kernel
def M_X9_readAfter : zM := (yX9_readAfter, cX9_readAfter, 3, none, { frames := 9, cells := 0, slots := 0, locals := 194 })
theorem mv_X9_readAfter : zMv M_X9_readAfter := ⟨(zmt (zt6 (i := 195) rfl) rfl), (zmp (i := 32) rfl rfl), (zmt (zt1 (i := 10) rfl) rfl), (zmt (zt6 (i := 196) rfl) rfl), ⟨by decide, by decide⟩⟩
theorem na_X9_readAfter : (parseMethodDescriptor M_X9_readAfter.1.desc).map (fun d => d.parameters.length) = some 0 := by decide +kernel
theorem pf_X9_readAfter : plainFor M_X9_readAfter.1 = true := by decide +kernel
def M_X9_readMet : zM := (yX9_readMet, cX9_readMet, 4, none, { frames := 3, cells := 0, slots := 0, locals := 65 })
theorem mv_X9_readMet : zMv M_X9_readMet := ⟨(zmt (zt6 (i := 199) rfl) rfl), (zmp (i := 33) rfl rfl), (zmt (zt1 (i := 10) rfl) rfl), (zmt (zt6 (i := 200) rfl) rfl), ⟨by decide, by decide⟩⟩
theorem na_X9_readMet : (parseMethodDescriptor M_X9_readMet.1.desc).map (fun d => d.parameters.length) = some 0 := by decide +kernel
theorem pf_X9_readMet : plainFor M_X9_readMet.1 = true := by decide +kernel
def M_X9_readHoliday : zM := (yX9_readHoliday, cX9_readHoliday, 2, none, { frames := 3, cells := 0, slots := 0, locals := 65 })
theorem mv_X9_readHoliday : zMv M_X9_readHoliday := ⟨(zmt (zt6 (i := 207) rfl) rfl), (zmp (i := 34) rfl rfl), (zmt (zt1 (i := 10) rfl) rfl), (zmt (zt6 (i := 208) rfl) rfl), ⟨by decide, by decide⟩⟩
theorem na_X9_readHoliday : (parseMethodDescriptor M_X9_readHoliday.1.desc).map (fun d => d.parameters.length) = some 0 := by decide +kernel
theorem pf_X9_readHoliday : plainFor M_X9_readHoliday.1 = true := by decide +kernel
def M_X9_readPerson : zM := (yX9_readPerson, cX9_readPerson, 5, none, { frames := 9, cells := 0, slots := 0, locals := 194 })
theorem mv_X9_readPerson : zMv M_X9_readPerson := ⟨(zmt (zt6 (i := 215) rfl) rfl), (zmp (i := 35) rfl rfl), (zmt (zt1 (i := 10) rfl) rfl), (zmt (zt6 (i := 216) rfl) rfl), ⟨by decide, by decide⟩⟩
theorem na_X9_readPerson : (parseMethodDescriptor M_X9_readPerson.1.desc).map (fun d => d.parameters.length) = some 0 := by decide +kernel
theorem pf_X9_readPerson : plainFor M_X9_readPerson.1 = true := by decide +kernel
def M_X9_feed : zM := (yX9_feed, cX9_feed, 8, some .int, { frames := 0, cells := 0, slots := 0, locals := 0 })
theorem mv_X9_feed : zMv M_X9_feed := ⟨(zmt (zt5 (i := 181) rfl) rfl), (zmt (zt5 (i := 182) rfl) rfl), (zmt (zt1 (i := 10) rfl) rfl), (zmt (zt5 (i := 183) rfl) rfl), ⟨by decide, by decide⟩⟩
theorem na_X9_feed : (parseMethodDescriptor M_X9_feed.1.desc).map (fun d => d.parameters.length) = some 5 := by decide +kernel
theorem pf_X9_feed : plainFor M_X9_feed.1 = true := by decide +kernel
def M_X9_tube : zM := (yX9_tube, cX9_tube, 3, some .int, { frames := 12, cells := 14, slots := 109, locals := 262 })
theorem mv_X9_tube : zMv M_X9_tube := ⟨(zmt (zt5 (i := 185) rfl) rfl), (zmt (zt5 (i := 186) rfl) rfl), (zmt (zt1 (i := 10) rfl) rfl), (zmt (zt5 (i := 187) rfl) rfl), ⟨by decide, by decide⟩⟩
theorem na_X9_tube : (parseMethodDescriptor M_X9_tube.1.desc).map (fun d => d.parameters.length) = some 1 := by decide +kernel
theorem pf_X9_tube : plainFor M_X9_tube.1 = true := by decide +kernel
def M_X9_fault : zM := (yX9_fault, cX9_fault, 1, some .int, { frames := 0, cells := 0, slots := 0, locals := 0 })
theorem mv_X9_fault : zMv M_X9_fault := ⟨(zmt (zt6 (i := 230) rfl) rfl), (zmt (zt6 (i := 231) rfl) rfl), (zmt (zt1 (i := 10) rfl) rfl), (zmt (zt6 (i := 232) rfl) rfl), ⟨by decide, by decide⟩⟩
theorem na_X9_fault : (parseMethodDescriptor M_X9_fault.1.desc).map (fun d => d.parameters.length) = some 0 := by decide +kernel
theorem pf_X9_fault : plainFor M_X9_fault.1 = true := by decide +kernel
def M_X9_where : zM := (yX9_where, cX9_where, 1, some .int, { frames := 0, cells := 0, slots := 0, locals := 0 })
theorem mv_X9_where : zMv M_X9_where := ⟨(zmt (zt6 (i := 234) rfl) rfl), (zmt (zt6 (i := 235) rfl) rfl), (zmt (zt1 (i := 10) rfl) rfl), (zmt (zt6 (i := 236) rfl) rfl), ⟨by decide, by decide⟩⟩
theorem na_X9_where : (parseMethodDescriptor M_X9_where.1.desc).map (fun d => d.parameters.length) = some 0 := by decide +kernel
theorem pf_X9_where : plainFor M_X9_where.1 = true := by decide +kernel
def M_X9_tries : zM := (yX9_tries, cX9_tries, 2, none, { frames := 0, cells := 0, slots := 0, locals := 0 })
theorem mv_X9_tries : zMv M_X9_tries := ⟨(zmt (zt7 (i := 56) rfl) rfl), (zmp (i := 43) rfl rfl), (zmt (zt1 (i := 10) rfl) rfl), (zmt (zt7 (i := 57) rfl) rfl), ⟨by decide, by decide⟩⟩
theorem na_X9_tries : (parseMethodDescriptor M_X9_tries.1.desc).map (fun d => d.parameters.length) = some 0 := by decide +kernel
theorem pf_X9_tries : plainFor M_X9_tries.1 = true := by decide +kernel
def M_X9_isBit : zM := (yX9_isBit, cX9_isBit, 2, some .boolean, { frames := 0, cells := 0, slots := 0, locals := 0 })
theorem mv_X9_isBit : zMv M_X9_isBit := ⟨(zmt (zt7 (i := 3) rfl) rfl), (zmp (i := 38) rfl rfl), (zmt (zt1 (i := 10) rfl) rfl), (zmt (zt7 (i := 4) rfl) rfl), ⟨by decide, by decide⟩⟩
theorem na_X9_isBit : (parseMethodDescriptor M_X9_isBit.1.desc).map (fun d => d.parameters.length) = some 1 := by decide +kernel
theorem pf_X9_isBit : plainFor M_X9_isBit.1 = true := by decide +kernel
def M_X9_isPerson : zM := (yX9_isPerson, cX9_isPerson, 2, some .boolean, { frames := 0, cells := 0, slots := 0, locals := 0 })
theorem mv_X9_isPerson : zMv M_X9_isPerson := ⟨(zmt (zt8 (i := 27) rfl) rfl), (zmp (i := 66) rfl rfl), (zmt (zt1 (i := 10) rfl) rfl), (zmt (zt8 (i := 28) rfl) rfl), ⟨by decide, by decide⟩⟩
theorem na_X9_isPerson : (parseMethodDescriptor M_X9_isPerson.1.desc).map (fun d => d.parameters.length) = some 1 := by decide +kernel
theorem pf_X9_isPerson : plainFor M_X9_isPerson.1 = true := by decide +kernel
def M_X9_turns : zM := (yX9_turns, cX9_turns, 4, none, { frames := 1, cells := 0, slots := 0, locals := 22 })
theorem mv_X9_turns : zMv M_X9_turns := ⟨(zmt (zt7 (i := 60) rfl) rfl), (zmp (i := 44) rfl rfl), (zmt (zt1 (i := 10) rfl) rfl), (zmt (zt7 (i := 61) rfl) rfl), ⟨by decide, by decide⟩⟩
theorem na_X9_turns : (parseMethodDescriptor M_X9_turns.1.desc).map (fun d => d.parameters.length) = some 2 := by decide +kernel
theorem pf_X9_turns : plainFor M_X9_turns.1 = true := by decide +kernel
def M_X9_topIn : zM := (yX9_topIn, cX9_topIn, 5, some .int, { frames := 0, cells := 0, slots := 0, locals := 0 })
theorem mv_X9_topIn : zMv M_X9_topIn := ⟨(zmt (zt7 (i := 7) rfl) rfl), (zmp (i := 39) rfl rfl), (zmt (zt1 (i := 10) rfl) rfl), (zmt (zt7 (i := 8) rfl) rfl), ⟨by decide, by decide⟩⟩
theorem na_X9_topIn : (parseMethodDescriptor M_X9_topIn.1.desc).map (fun d => d.parameters.length) = some 2 := by decide +kernel
theorem pf_X9_topIn : plainFor M_X9_topIn.1 = true := by decide +kernel
def M_X9_topsIn : zM := (yX9_topsIn, cX9_topsIn, 4, some .int, { frames := 1, cells := 0, slots := 0, locals := 24 })
theorem mv_X9_topsIn : zMv M_X9_topsIn := ⟨(zmt (zt7 (i := 48) rfl) rfl), (zmp (i := 42) rfl rfl), (zmt (zt1 (i := 10) rfl) rfl), (zmt (zt7 (i := 49) rfl) rfl), ⟨by decide, by decide⟩⟩
theorem na_X9_topsIn : (parseMethodDescriptor M_X9_topsIn.1.desc).map (fun d => d.parameters.length) = some 1 := by decide +kernel
theorem pf_X9_topsIn : plainFor M_X9_topsIn.1 = true := by decide +kernel
def M_X9_rightIn : zM := (yX9_rightIn, cX9_rightIn, 4, some .int, { frames := 0, cells := 0, slots := 0, locals := 0 })
theorem mv_X9_rightIn : zMv M_X9_rightIn := ⟨(zmt (zt7 (i := 99) rfl) rfl), (zmp (i := 47) rfl rfl), (zmt (zt1 (i := 10) rfl) rfl), (zmt (zt7 (i := 100) rfl) rfl), ⟨by decide, by decide⟩⟩
theorem na_X9_rightIn : (parseMethodDescriptor M_X9_rightIn.1.desc).map (fun d => d.parameters.length) = some 1 := by decide +kernel
theorem pf_X9_rightIn : plainFor M_X9_rightIn.1 = true := by decide +kernel
def M_X9_placeOf : zM := (yX9_placeOf, cX9_placeOf, 2, some .int, { frames := 0, cells := 0, slots := 0, locals := 0 })
theorem ms_X9_placeOf : zMs M_X9_placeOf := ⟨(zmt (zt6 (i := 223) rfl) rfl), (zmt (zt1 (i := 10) rfl) rfl), (zmt (zt6 (i := 224) rfl) rfl), ⟨by decide, by decide⟩⟩
theorem na_X9_placeOf : (parseMethodDescriptor M_X9_placeOf.1.desc).map (fun d => d.parameters.length) = some 2 := by decide +kernel
theorem pf_X9_placeOf : plainFor M_X9_placeOf.1 = true := by decide +kernel
def M_X9_countryOf : zM := (yX9_countryOf, cX9_countryOf, 1, some .int, { frames := 0, cells := 0, slots := 0, locals := 0 })
theorem ms_X9_countryOf : zMs M_X9_countryOf := ⟨(zmt (zt8 (i := 30) rfl) rfl), (zmt (zt1 (i := 10) rfl) rfl), (zmt (zt8 (i := 31) rfl) rfl), ⟨by decide, by decide⟩⟩
theorem na_X9_countryOf : (parseMethodDescriptor M_X9_countryOf.1.desc).map (fun d => d.parameters.length) = some 1 := by decide +kernel
theorem pf_X9_countryOf : plainFor M_X9_countryOf.1 = true := by decide +kernel
def M_X9_cellOf : zM := (yX9_cellOf, cX9_cellOf, 1, some .int, { frames := 1, cells := 0, slots := 0, locals := 20 })
theorem ms_X9_cellOf : zMs M_X9_cellOf := ⟨(zmt (zt8 (i := 33) rfl) rfl), (zmt (zt1 (i := 10) rfl) rfl), (zmt (zt8 (i := 34) rfl) rfl), ⟨by decide, by decide⟩⟩
theorem na_X9_cellOf : (parseMethodDescriptor M_X9_cellOf.1.desc).map (fun d => d.parameters.length) = some 1 := by decide +kernel
theorem pf_X9_cellOf : plainFor M_X9_cellOf.1 = true := by decide +kernel
def M_X9_shown : zM := (yX9_shown, cX9_shown, 2, some .int, { frames := 1, cells := 0, slots := 0, locals := 20 })
theorem ms_X9_shown : zMs M_X9_shown := ⟨(zmt (zt7 (i := 33) rfl) rfl), (zmt (zt1 (i := 10) rfl) rfl), (zmt (zt7 (i := 34) rfl) rfl), ⟨by decide, by decide⟩⟩
theorem na_X9_shown : (parseMethodDescriptor M_X9_shown.1.desc).map (fun d => d.parameters.length) = some 2 := by decide +kernel
theorem pf_X9_shown : plainFor M_X9_shown.1 = true := by decide +kernel
def M_X9_seenIn : zM := (yX9_seenIn, cX9_seenIn, 3, some .int, { frames := 2, cells := 0, slots := 0, locals := 41 })
theorem mv_X9_seenIn : zMv M_X9_seenIn := ⟨(zmt (zt7 (i := 30) rfl) rfl), (zmp (i := 41) rfl rfl), (zmt (zt1 (i := 10) rfl) rfl), (zmt (zt7 (i := 31) rfl) rfl), ⟨by decide, by decide⟩⟩
theorem na_X9_seenIn : (parseMethodDescriptor M_X9_seenIn.1.desc).map (fun d => d.parameters.length) = some 2 := by decide +kernel
theorem pf_X9_seenIn : plainFor M_X9_seenIn.1 = true := by decide +kernel
def M_X9_costOf : zM := (yX9_costOf, cX9_costOf, 3, some .int, { frames := 3, cells := 0, slots := 0, locals := 63 })
theorem mv_X9_costOf : zMv M_X9_costOf := ⟨(zmt (zt8 (i := 56) rfl) rfl), (zmp (i := 70) rfl rfl), (zmt (zt1 (i := 10) rfl) rfl), (zmt (zt8 (i := 57) rfl) rfl), ⟨by decide, by decide⟩⟩
theorem na_X9_costOf : (parseMethodDescriptor M_X9_costOf.1.desc).map (fun d => d.parameters.length) = some 1 := by decide +kernel
theorem pf_X9_costOf : plainFor M_X9_costOf.1 = true := by decide +kernel
def M_X9_bit : zM := (yX9_bit, cX9_bit, 3, some .int, { frames := 1, cells := 0, slots := 0, locals := 24 })
theorem mv_X9_bit : zMv M_X9_bit := ⟨(zmt (zt6 (i := 238) rfl) rfl), (zmt (zt6 (i := 239) rfl) rfl), (zmt (zt1 (i := 10) rfl) rfl), (zmt (zt7 (i := 0) rfl) rfl), ⟨by decide, by decide⟩⟩
theorem na_X9_bit : (parseMethodDescriptor M_X9_bit.1.desc).map (fun d => d.parameters.length) = some 2 := by decide +kernel
theorem pf_X9_bit : plainFor M_X9_bit.1 = true := by decide +kernel
def M_X9_refusesCell : zM := (yX9_refusesCell, cX9_refusesCell, 2, some .int, { frames := 1, cells := 0, slots := 0, locals := 22 })
theorem mv_X9_refusesCell : zMv M_X9_refusesCell := ⟨(zmt (zt7 (i := 15) rfl) rfl), (zmp (i := 40) rfl rfl), (zmt (zt1 (i := 10) rfl) rfl), (zmt (zt7 (i := 16) rfl) rfl), ⟨by decide, by decide⟩⟩
theorem na_X9_refusesCell : (parseMethodDescriptor M_X9_refusesCell.1.desc).map (fun d => d.parameters.length) = some 1 := by decide +kernel
theorem pf_X9_refusesCell : plainFor M_X9_refusesCell.1 = true := by decide +kernel
def M_X9_top : zM := (yX9_top, cX9_top, 3, some .int, { frames := 2, cells := 0, slots := 0, locals := 43 })
theorem mv_X9_top : zMv M_X9_top := ⟨(zmt (zt7 (i := 10) rfl) rfl), (zmt (zt7 (i := 11) rfl) rfl), (zmt (zt1 (i := 10) rfl) rfl), (zmt (zt7 (i := 12) rfl) rfl), ⟨by decide, by decide⟩⟩
theorem na_X9_top : (parseMethodDescriptor M_X9_top.1.desc).map (fun d => d.parameters.length) = some 1 := by decide +kernel
theorem pf_X9_top : plainFor M_X9_top.1 = true := by decide +kernel
def M_X9_stack : zM := (yX9_stack, cX9_stack, 5, some .int, { frames := 2, cells := 0, slots := 0, locals := 43 })
theorem mv_X9_stack : zMv M_X9_stack := ⟨(zmt (zt7 (i := 18) rfl) rfl), (zmt (zt7 (i := 19) rfl) rfl), (zmt (zt1 (i := 10) rfl) rfl), (zmt (zt7 (i := 20) rfl) rfl), ⟨by decide, by decide⟩⟩
theorem na_X9_stack : (parseMethodDescriptor M_X9_stack.1.desc).map (fun d => d.parameters.length) = some 1 := by decide +kernel
theorem pf_X9_stack : plainFor M_X9_stack.1 = true := by decide +kernel
def M_X9_isPlace : zM := (yX9_isPlace, cX9_isPlace, 2, some .boolean, { frames := 1, cells := 0, slots := 0, locals := 22 })
theorem ms_X9_isPlace : zMs M_X9_isPlace := ⟨(zmt (zt7 (i := 26) rfl) rfl), (zmt (zt1 (i := 10) rfl) rfl), (zmt (zt7 (i := 27) rfl) rfl), ⟨by decide, by decide⟩⟩
theorem na_X9_isPlace : (parseMethodDescriptor M_X9_isPlace.1.desc).map (fun d => d.parameters.length) = some 2 := by decide +kernel
theorem pf_X9_isPlace : plainFor M_X9_isPlace.1 = true := by decide +kernel
def M_X9_seen : zM := (yX9_seen, cX9_seen, 3, some .int, { frames := 3, cells := 0, slots := 0, locals := 63 })
theorem mv_X9_seen : zMv M_X9_seen := ⟨(zmt (zt7 (i := 22) rfl) rfl), (zmt (zt7 (i := 23) rfl) rfl), (zmt (zt1 (i := 10) rfl) rfl), (zmt (zt7 (i := 24) rfl) rfl), ⟨by decide, by decide⟩⟩
theorem na_X9_seen : (parseMethodDescriptor M_X9_seen.1.desc).map (fun d => d.parameters.length) = some 2 := by decide +kernel
theorem pf_X9_seen : plainFor M_X9_seen.1 = true := by decide +kernel
def M_X9_lies : zM := (yX9_lies, cX9_lies, 4, some .int, { frames := 2, cells := 0, slots := 0, locals := 41 })
theorem mv_X9_lies : zMv M_X9_lies := ⟨(zmt (zt7 (i := 39) rfl) rfl), (zmt (zt7 (i := 40) rfl) rfl), (zmt (zt1 (i := 10) rfl) rfl), (zmt (zt7 (i := 41) rfl) rfl), ⟨by decide, by decide⟩⟩
theorem na_X9_lies : (parseMethodDescriptor M_X9_lies.1.desc).map (fun d => d.parameters.length) = some 2 := by decide +kernel
theorem pf_X9_lies : plainFor M_X9_lies.1 = true := by decide +kernel
def M_X9_under : zM := (yX9_under, cX9_under, 1, some .int, { frames := 2, cells := 0, slots := 0, locals := 47 })
theorem mv_X9_under : zMv M_X9_under := ⟨(zmt (zt7 (i := 43) rfl) rfl), (zmt (zt7 (i := 44) rfl) rfl), (zmt (zt1 (i := 10) rfl) rfl), (zmt (zt7 (i := 45) rfl) rfl), ⟨by decide, by decide⟩⟩
theorem na_X9_under : (parseMethodDescriptor M_X9_under.1.desc).map (fun d => d.parameters.length) = some 0 := by decide +kernel
theorem pf_X9_under : plainFor M_X9_under.1 = true := by decide +kernel
def M_X9_until : zM := (yX9_until, cX9_until, 3, some .int, { frames := 2, cells := 0, slots := 0, locals := 45 })
theorem mv_X9_until : zMv M_X9_until := ⟨(zmt (zt7 (i := 51) rfl) rfl), (zmt (zt7 (i := 52) rfl) rfl), (zmt (zt1 (i := 10) rfl) rfl), (zmt (zt7 (i := 53) rfl) rfl), ⟨by decide, by decide⟩⟩
theorem na_X9_until : (parseMethodDescriptor M_X9_until.1.desc).map (fun d => d.parameters.length) = some 1 := by decide +kernel
theorem pf_X9_until : plainFor M_X9_until.1 = true := by decide +kernel
def M_X9_refusesClicks : zM := (yX9_refusesClicks, cX9_refusesClicks, 3, some .int, { frames := 1, cells := 0, slots := 0, locals := 22 })
theorem mv_X9_refusesClicks : zMv M_X9_refusesClicks := ⟨(zmt (zt7 (i := 72) rfl) rfl), (zmp (i := 45) rfl rfl), (zmt (zt1 (i := 10) rfl) rfl), (zmt (zt7 (i := 73) rfl) rfl), ⟨by decide, by decide⟩⟩
theorem na_X9_refusesClicks : (parseMethodDescriptor M_X9_refusesClicks.1.desc).map (fun d => d.parameters.length) = some 2 := by decide +kernel
theorem pf_X9_refusesClicks : plainFor M_X9_refusesClicks.1 = true := by decide +kernel
def M_X9_behind : zM := (yX9_behind, cX9_behind, 4, some .int, { frames := 2, cells := 0, slots := 0, locals := 44 })
theorem mv_X9_behind : zMv M_X9_behind := ⟨(zmt (zt7 (i := 67) rfl) rfl), (zmt (zt7 (i := 68) rfl) rfl), (zmt (zt1 (i := 10) rfl) rfl), (zmt (zt7 (i := 69) rfl) rfl), ⟨by decide, by decide⟩⟩
theorem na_X9_behind : (parseMethodDescriptor M_X9_behind.1.desc).map (fun d => d.parameters.length) = some 2 := by decide +kernel
theorem pf_X9_behind : plainFor M_X9_behind.1 = true := by decide +kernel
def M_X9_topsBy : zM := (yX9_topsBy, cX9_topsBy, 2, some .int, { frames := 2, cells := 0, slots := 0, locals := 47 })
theorem mv_X9_topsBy : zMv M_X9_topsBy := ⟨(zmt (zt7 (i := 80) rfl) rfl), (zmp (i := 46) rfl rfl), (zmt (zt1 (i := 10) rfl) rfl), (zmt (zt7 (i := 81) rfl) rfl), ⟨by decide, by decide⟩⟩
theorem na_X9_topsBy : (parseMethodDescriptor M_X9_topsBy.1.desc).map (fun d => d.parameters.length) = some 1 := by decide +kernel
theorem pf_X9_topsBy : plainFor M_X9_topsBy.1 = true := by decide +kernel
def M_X9_topsBehind : zM := (yX9_topsBehind, cX9_topsBehind, 3, some .int, { frames := 3, cells := 0, slots := 0, locals := 68 })
theorem mv_X9_topsBehind : zMv M_X9_topsBehind := ⟨(zmt (zt7 (i := 75) rfl) rfl), (zmt (zt7 (i := 76) rfl) rfl), (zmt (zt1 (i := 10) rfl) rfl), (zmt (zt7 (i := 77) rfl) rfl), ⟨by decide, by decide⟩⟩
theorem na_X9_topsBehind : (parseMethodDescriptor M_X9_topsBehind.1.desc).map (fun d => d.parameters.length) = some 1 := by decide +kernel
theorem pf_X9_topsBehind : plainFor M_X9_topsBehind.1 = true := by decide +kernel
def M_X9_twins : zM := (yX9_twins, cX9_twins, 3, some .int, { frames := 1, cells := 0, slots := 0, locals := 21 })
theorem mv_X9_twins : zMv M_X9_twins := ⟨(zmt (zt7 (i := 86) rfl) rfl), (zmt (zt7 (i := 87) rfl) rfl), (zmt (zt1 (i := 10) rfl) rfl), (zmt (zt7 (i := 88) rfl) rfl), ⟨by decide, by decide⟩⟩
theorem na_X9_twins : (parseMethodDescriptor M_X9_twins.1.desc).map (fun d => d.parameters.length) = some 0 := by decide +kernel
theorem pf_X9_twins : plainFor M_X9_twins.1 = true := by decide +kernel
def M_X9_mostTops : zM := (yX9_mostTops, cX9_mostTops, 3, some .int, { frames := 3, cells := 0, slots := 0, locals := 68 })
theorem mv_X9_mostTops : zMv M_X9_mostTops := ⟨(zmt (zt7 (i := 90) rfl) rfl), (zmt (zt7 (i := 91) rfl) rfl), (zmt (zt1 (i := 10) rfl) rfl), (zmt (zt7 (i := 92) rfl) rfl), ⟨by decide, by decide⟩⟩
theorem na_X9_mostTops : (parseMethodDescriptor M_X9_mostTops.1.desc).map (fun d => d.parameters.length) = some 0 := by decide +kernel
theorem pf_X9_mostTops : plainFor M_X9_mostTops.1 = true := by decide +kernel
def M_X9_clicksOf : zM := (yX9_clicksOf, cX9_clicksOf, 1, some .int, { frames := 0, cells := 0, slots := 0, locals := 0 })
theorem ms_X9_clicksOf : zMs M_X9_clicksOf := ⟨(zmt (zt7 (i := 118) rfl) rfl), (zmt (zt1 (i := 10) rfl) rfl), (zmt (zt7 (i := 119) rfl) rfl), ⟨by decide, by decide⟩⟩
theorem na_X9_clicksOf : (parseMethodDescriptor M_X9_clicksOf.1.desc).map (fun d => d.parameters.length) = some 1 := by decide +kernel
theorem pf_X9_clicksOf : plainFor M_X9_clicksOf.1 = true := by decide +kernel
def M_X9_nextRow : zM := (yX9_nextRow, cX9_nextRow, 3, some .boolean, { frames := 0, cells := 0, slots := 0, locals := 0 })
theorem mv_X9_nextRow : zMv M_X9_nextRow := ⟨(zmt (zt7 (i := 126) rfl) rfl), (zmp (i := 52) rfl rfl), (zmt (zt1 (i := 10) rfl) rfl), (zmt (zt7 (i := 127) rfl) rfl), ⟨by decide, by decide⟩⟩
theorem na_X9_nextRow : (parseMethodDescriptor M_X9_nextRow.1.desc).map (fun d => d.parameters.length) = some 1 := by decide +kernel
theorem pf_X9_nextRow : plainFor M_X9_nextRow.1 = true := by decide +kernel
def M_X9_firstRow : zM := (yX9_firstRow, cX9_firstRow, 3, none, { frames := 0, cells := 0, slots := 0, locals := 0 })
theorem mv_X9_firstRow : zMv M_X9_firstRow := ⟨(zmt (zt7 (i := 111) rfl) rfl), (zmp (i := 49) rfl rfl), (zmt (zt1 (i := 10) rfl) rfl), (zmt (zt7 (i := 112) rfl) rfl), ⟨by decide, by decide⟩⟩
theorem na_X9_firstRow : (parseMethodDescriptor M_X9_firstRow.1.desc).map (fun d => d.parameters.length) = some 1 := by decide +kernel
theorem pf_X9_firstRow : plainFor M_X9_firstRow.1 = true := by decide +kernel
def M_X9_turnsRow : zM := (yX9_turnsRow, cX9_turnsRow, 3, none, { frames := 2, cells := 0, slots := 0, locals := 45 })
theorem mv_X9_turnsRow : zMv M_X9_turnsRow := ⟨(zmt (zt7 (i := 115) rfl) rfl), (zmp (i := 50) rfl rfl), (zmt (zt1 (i := 10) rfl) rfl), (zmt (zt7 (i := 116) rfl) rfl), ⟨by decide, by decide⟩⟩
theorem na_X9_turnsRow : (parseMethodDescriptor M_X9_turnsRow.1.desc).map (fun d => d.parameters.length) = some 1 := by decide +kernel
theorem pf_X9_turnsRow : plainFor M_X9_turnsRow.1 = true := by decide +kernel
def M_X9_isAllRight : zM := (yX9_isAllRight, cX9_isAllRight, 2, some .boolean, { frames := 1, cells := 0, slots := 0, locals := 23 })
theorem mv_X9_isAllRight : zMv M_X9_isAllRight := ⟨(zmt (zt7 (i := 122) rfl) rfl), (zmp (i := 51) rfl rfl), (zmt (zt1 (i := 10) rfl) rfl), (zmt (zt7 (i := 123) rfl) rfl), ⟨by decide, by decide⟩⟩
theorem na_X9_isAllRight : (parseMethodDescriptor M_X9_isAllRight.1.desc).map (fun d => d.parameters.length) = some 1 := by decide +kernel
theorem pf_X9_isAllRight : plainFor M_X9_isAllRight.1 = true := by decide +kernel
def M_X9_right : zM := (yX9_right, cX9_right, 1, some .int, { frames := 1, cells := 0, slots := 0, locals := 23 })
theorem mv_X9_right : zMv M_X9_right := ⟨(zmt (zt7 (i := 94) rfl) rfl), (zmt (zt7 (i := 95) rfl) rfl), (zmt (zt1 (i := 10) rfl) rfl), (zmt (zt7 (i := 96) rfl) rfl), ⟨by decide, by decide⟩⟩
theorem na_X9_right : (parseMethodDescriptor M_X9_right.1.desc).map (fun d => d.parameters.length) = some 0 := by decide +kernel
theorem pf_X9_right : plainFor M_X9_right.1 = true := by decide +kernel
def M_X9_toWant : zM := (yX9_toWant, cX9_toWant, 4, some .int, { frames := 3, cells := 0, slots := 0, locals := 67 })
theorem mv_X9_toWant : zMv M_X9_toWant := ⟨(zmt (zt7 (i := 107) rfl) rfl), (zmp (i := 48) rfl rfl), (zmt (zt1 (i := 10) rfl) rfl), (zmt (zt7 (i := 108) rfl) rfl), ⟨by decide, by decide⟩⟩
theorem na_X9_toWant : (parseMethodDescriptor M_X9_toWant.1.desc).map (fun d => d.parameters.length) = some 0 := by decide +kernel
theorem pf_X9_toWant : plainFor M_X9_toWant.1 = true := by decide +kernel
def M_X9_turnsTo : zM := (yX9_turnsTo, cX9_turnsTo, 1, some .int, { frames := 4, cells := 0, slots := 0, locals := 90 })
theorem mv_X9_turnsTo : zMv M_X9_turnsTo := ⟨(zmt (zt7 (i := 102) rfl) rfl), (zmt (zt7 (i := 103) rfl) rfl), (zmt (zt1 (i := 10) rfl) rfl), (zmt (zt7 (i := 104) rfl) rfl), ⟨by decide, by decide⟩⟩
theorem na_X9_turnsTo : (parseMethodDescriptor M_X9_turnsTo.1.desc).map (fun d => d.parameters.length) = some 0 := by decide +kernel
theorem pf_X9_turnsTo : plainFor M_X9_turnsTo.1 = true := by decide +kernel
def M_X9_turnAt : zM := (yX9_turnAt, cX9_turnAt, 3, some .int, { frames := 4, cells := 0, slots := 0, locals := 90 })
theorem mv_X9_turnAt : zMv M_X9_turnAt := ⟨(zmt (zt7 (i := 129) rfl) rfl), (zmt (zt7 (i := 130) rfl) rfl), (zmt (zt1 (i := 10) rfl) rfl), (zmt (zt7 (i := 131) rfl) rfl), ⟨by decide, by decide⟩⟩
theorem na_X9_turnAt : (parseMethodDescriptor M_X9_turnAt.1.desc).map (fun d => d.parameters.length) = some 1 := by decide +kernel
theorem pf_X9_turnAt : plainFor M_X9_turnAt.1 = true := by decide +kernel
def M_X9_bestTurn : zM := (yX9_bestTurn, cX9_bestTurn, 4, some .int, { frames := 2, cells := 0, slots := 0, locals := 45 })
theorem mv_X9_bestTurn : zMv M_X9_bestTurn := ⟨(zmt (zt7 (i := 133) rfl) rfl), (zmt (zt7 (i := 134) rfl) rfl), (zmt (zt1 (i := 10) rfl) rfl), (zmt (zt7 (i := 135) rfl) rfl), ⟨by decide, by decide⟩⟩
theorem na_X9_bestTurn : (parseMethodDescriptor M_X9_bestTurn.1.desc).map (fun d => d.parameters.length) = some 0 := by decide +kernel
theorem pf_X9_bestTurn : plainFor M_X9_bestTurn.1 = true := by decide +kernel
def M_X9_can : zM := (yX9_can, cX9_can, 8, some .int, { frames := 1, cells := 0, slots := 0, locals := 22 })
theorem mv_X9_can : zMv M_X9_can := ⟨(zmt (zt7 (i := 137) rfl) rfl), (zmt (zt7 (i := 138) rfl) rfl), (zmt (zt1 (i := 10) rfl) rfl), (zmt (zt7 (i := 139) rfl) rfl), ⟨by decide, by decide⟩⟩
theorem na_X9_can : (parseMethodDescriptor M_X9_can.1.desc).map (fun d => d.parameters.length) = some 2 := by decide +kernel
theorem pf_X9_can : plainFor M_X9_can.1 = true := by decide +kernel
def M_X9_isMade : zM := (yX9_isMade, cX9_isMade, 3, some .boolean, { frames := 3, cells := 0, slots := 0, locals := 67 })
theorem mv_X9_isMade : zMv M_X9_isMade := ⟨(zmt (zt7 (i := 157) rfl) rfl), (zmp (i := 55) rfl rfl), (zmt (zt1 (i := 10) rfl) rfl), (zmt (zt7 (i := 158) rfl) rfl), ⟨by decide, by decide⟩⟩
theorem na_X9_isMade : (parseMethodDescriptor M_X9_isMade.1.desc).map (fun d => d.parameters.length) = some 1 := by decide +kernel
theorem pf_X9_isMade : plainFor M_X9_isMade.1 = true := by decide +kernel
def M_X9_countsMade : zM := (yX9_countsMade, cX9_countsMade, 5, some .int, { frames := 4, cells := 0, slots := 0, locals := 89 })
theorem mv_X9_countsMade : zMv M_X9_countsMade := ⟨(zmt (zt7 (i := 153) rfl) rfl), (zmp (i := 54) rfl rfl), (zmt (zt1 (i := 10) rfl) rfl), (zmt (zt7 (i := 154) rfl) rfl), ⟨by decide, by decide⟩⟩
theorem na_X9_countsMade : (parseMethodDescriptor M_X9_countsMade.1.desc).map (fun d => d.parameters.length) = some 2 := by decide +kernel
theorem pf_X9_countsMade : plainFor M_X9_countsMade.1 = true := by decide +kernel
def M_X9_codes : zM := (yX9_codes, cX9_codes, 3, none, { frames := 1, cells := 0, slots := 0, locals := 20 })
theorem mv_X9_codes : zMv M_X9_codes := ⟨(zmt (zt7 (i := 161) rfl) rfl), (zmp (i := 56) rfl rfl), (zmt (zt1 (i := 10) rfl) rfl), (zmt (zt7 (i := 162) rfl) rfl), ⟨by decide, by decide⟩⟩
theorem na_X9_codes : (parseMethodDescriptor M_X9_codes.1.desc).map (fun d => d.parameters.length) = some 1 := by decide +kernel
theorem pf_X9_codes : plainFor M_X9_codes.1 = true := by decide +kernel
def M_X9_refusesMade : zM := (yX9_refusesMade, cX9_refusesMade, 2, some .int, { frames := 1, cells := 0, slots := 0, locals := 22 })
theorem mv_X9_refusesMade : zMv M_X9_refusesMade := ⟨(zmt (zt7 (i := 149) rfl) rfl), (zmp (i := 53) rfl rfl), (zmt (zt1 (i := 10) rfl) rfl), (zmt (zt7 (i := 150) rfl) rfl), ⟨by decide, by decide⟩⟩
theorem na_X9_refusesMade : (parseMethodDescriptor M_X9_refusesMade.1.desc).map (fun d => d.parameters.length) = some 1 := by decide +kernel
theorem pf_X9_refusesMade : plainFor M_X9_refusesMade.1 = true := by decide +kernel
def M_X9_made : zM := (yX9_made, cX9_made, 3, some .int, { frames := 5, cells := 0, slots := 0, locals := 113 })
theorem mv_X9_made : zMv M_X9_made := ⟨(zmt (zt7 (i := 144) rfl) rfl), (zmt (zt7 (i := 145) rfl) rfl), (zmt (zt1 (i := 10) rfl) rfl), (zmt (zt7 (i := 146) rfl) rfl), ⟨by decide, by decide⟩⟩
theorem na_X9_made : (parseMethodDescriptor M_X9_made.1.desc).map (fun d => d.parameters.length) = some 1 := by decide +kernel
theorem pf_X9_made : plainFor M_X9_made.1 = true := by decide +kernel
def M_X9_madeAt : zM := (yX9_madeAt, cX9_madeAt, 4, some .int, { frames := 5, cells := 0, slots := 0, locals := 113 })
theorem mv_X9_madeAt : zMv M_X9_madeAt := ⟨(zmt (zt7 (i := 164) rfl) rfl), (zmt (zt7 (i := 165) rfl) rfl), (zmt (zt1 (i := 10) rfl) rfl), (zmt (zt7 (i := 166) rfl) rfl), ⟨by decide, by decide⟩⟩
theorem na_X9_madeAt : (parseMethodDescriptor M_X9_madeAt.1.desc).map (fun d => d.parameters.length) = some 2 := by decide +kernel
theorem pf_X9_madeAt : plainFor M_X9_madeAt.1 = true := by decide +kernel
def M_X9_fewestMade : zM := (yX9_fewestMade, cX9_fewestMade, 2, some .int, { frames := 5, cells := 0, slots := 0, locals := 113 })
theorem mv_X9_fewestMade : zMv M_X9_fewestMade := ⟨(zmt (zt7 (i := 168) rfl) rfl), (zmt (zt7 (i := 169) rfl) rfl), (zmt (zt1 (i := 10) rfl) rfl), (zmt (zt7 (i := 170) rfl) rfl), ⟨by decide, by decide⟩⟩
theorem na_X9_fewestMade : (parseMethodDescriptor M_X9_fewestMade.1.desc).map (fun d => d.parameters.length) = some 0 := by decide +kernel
theorem pf_X9_fewestMade : plainFor M_X9_fewestMade.1 = true := by decide +kernel
def M_X9_same : zM := (yX9_same, cX9_same, 7, some .int, { frames := 3, cells := 0, slots := 0, locals := 67 })
theorem mv_X9_same : zMv M_X9_same := ⟨(zmt (zt7 (i := 172) rfl) rfl), (zmt (zt7 (i := 173) rfl) rfl), (zmt (zt1 (i := 10) rfl) rfl), (zmt (zt7 (i := 174) rfl) rfl), ⟨by decide, by decide⟩⟩
theorem na_X9_same : (parseMethodDescriptor M_X9_same.1.desc).map (fun d => d.parameters.length) = some 1 := by decide +kernel
theorem pf_X9_same : plainFor M_X9_same.1 = true := by decide +kernel
def M_X9_joins : zM := (yX9_joins, cX9_joins, 4, some .int, { frames := 3, cells := 0, slots := 0, locals := 63 })
theorem mv_X9_joins : zMv M_X9_joins := ⟨(zmt (zt7 (i := 176) rfl) rfl), (zmt (zt7 (i := 177) rfl) rfl), (zmt (zt1 (i := 10) rfl) rfl), (zmt (zt7 (i := 178) rfl) rfl), ⟨by decide, by decide⟩⟩
theorem na_X9_joins : (parseMethodDescriptor M_X9_joins.1.desc).map (fun d => d.parameters.length) = some 1 := by decide +kernel
theorem pf_X9_joins : plainFor M_X9_joins.1 = true := by decide +kernel
def M_X9_alike : zM := (yX9_alike, cX9_alike, 5, some .int, { frames := 3, cells := 0, slots := 0, locals := 63 })
theorem mv_X9_alike : zMv M_X9_alike := ⟨(zmt (zt7 (i := 180) rfl) rfl), (zmt (zt7 (i := 181) rfl) rfl), (zmt (zt1 (i := 10) rfl) rfl), (zmt (zt7 (i := 182) rfl) rfl), ⟨by decide, by decide⟩⟩
theorem na_X9_alike : (parseMethodDescriptor M_X9_alike.1.desc).map (fun d => d.parameters.length) = some 2 := by decide +kernel
theorem pf_X9_alike : plainFor M_X9_alike.1 = true := by decide +kernel
def M_X9_wrongMet : zM := (yX9_wrongMet, cX9_wrongMet, 4, some .int, { frames := 3, cells := 0, slots := 0, locals := 63 })
theorem mv_X9_wrongMet : zMv M_X9_wrongMet := ⟨(zmt (zt7 (i := 193) rfl) rfl), (zmp (i := 58) rfl rfl), (zmt (zt1 (i := 10) rfl) rfl), (zmt (zt7 (i := 194) rfl) rfl), ⟨by decide, by decide⟩⟩
theorem na_X9_wrongMet : (parseMethodDescriptor M_X9_wrongMet.1.desc).map (fun d => d.parameters.length) = some 1 := by decide +kernel
theorem pf_X9_wrongMet : plainFor M_X9_wrongMet.1 = true := by decide +kernel
def M_X9_fitting : zM := (yX9_fitting, cX9_fitting, 3, some .int, { frames := 4, cells := 0, slots := 0, locals := 86 })
theorem mv_X9_fitting : zMv M_X9_fitting := ⟨(zmt (zt7 (i := 189) rfl) rfl), (zmp (i := 57) rfl rfl), (zmt (zt1 (i := 10) rfl) rfl), (zmt (zt7 (i := 190) rfl) rfl), ⟨by decide, by decide⟩⟩
theorem na_X9_fitting : (parseMethodDescriptor M_X9_fitting.1.desc).map (fun d => d.parameters.length) = some 0 := by decide +kernel
theorem pf_X9_fitting : plainFor M_X9_fitting.1 = true := by decide +kernel
def M_X9_which : zM := (yX9_which, cX9_which, 1, some .int, { frames := 5, cells := 0, slots := 0, locals := 108 })
theorem mv_X9_which : zMv M_X9_which := ⟨(zmt (zt7 (i := 184) rfl) rfl), (zmt (zt7 (i := 185) rfl) rfl), (zmt (zt1 (i := 10) rfl) rfl), (zmt (zt7 (i := 186) rfl) rfl), ⟨by decide, by decide⟩⟩
theorem na_X9_which : (parseMethodDescriptor M_X9_which.1.desc).map (fun d => d.parameters.length) = some 0 := by decide +kernel
theorem pf_X9_which : plainFor M_X9_which.1 = true := by decide +kernel
def M_X9_surely : zM := (yX9_surely, cX9_surely, 2, some .int, { frames := 5, cells := 0, slots := 0, locals := 108 })
theorem mv_X9_surely : zMv M_X9_surely := ⟨(zmt (zt7 (i := 196) rfl) rfl), (zmt (zt7 (i := 197) rfl) rfl), (zmt (zt1 (i := 10) rfl) rfl), (zmt (zt7 (i := 198) rfl) rfl), ⟨by decide, by decide⟩⟩
theorem na_X9_surely : (parseMethodDescriptor M_X9_surely.1.desc).map (fun d => d.parameters.length) = some 0 := by decide +kernel
theorem pf_X9_surely : plainFor M_X9_surely.1 = true := by decide +kernel
def M_X9_looksAlike : zM := (yX9_looksAlike, cX9_looksAlike, 6, some .boolean, { frames := 3, cells := 0, slots := 0, locals := 63 })
theorem mv_X9_looksAlike : zMv M_X9_looksAlike := ⟨(zmt (zt7 (i := 213) rfl) rfl), (zmp (i := 61) rfl rfl), (zmt (zt1 (i := 10) rfl) rfl), (zmt (zt7 (i := 214) rfl) rfl), ⟨by decide, by decide⟩⟩
theorem na_X9_looksAlike : (parseMethodDescriptor M_X9_looksAlike.1.desc).map (fun d => d.parameters.length) = some 3 := by decide +kernel
theorem pf_X9_looksAlike : plainFor M_X9_looksAlike.1 = true := by decide +kernel
def M_X9_leaves : zM := (yX9_leaves, cX9_leaves, 7, some .int, { frames := 4, cells := 0, slots := 0, locals := 88 })
theorem mv_X9_leaves : zMv M_X9_leaves := ⟨(zmt (zt7 (i := 209) rfl) rfl), (zmp (i := 60) rfl rfl), (zmt (zt1 (i := 10) rfl) rfl), (zmt (zt7 (i := 210) rfl) rfl), ⟨by decide, by decide⟩⟩
theorem na_X9_leaves : (parseMethodDescriptor M_X9_leaves.1.desc).map (fun d => d.parameters.length) = some 2 := by decide +kernel
theorem pf_X9_leaves : plainFor M_X9_leaves.1 = true := by decide +kernel
def M_X9_looks : zM := (yX9_looks, cX9_looks, 5, some .int, { frames := 5, cells := 0, slots := 0, locals := 114 })
theorem mv_X9_looks : zMv M_X9_looks := ⟨(zmt (zt7 (i := 205) rfl) rfl), (zmp (i := 59) rfl rfl), (zmt (zt1 (i := 10) rfl) rfl), (zmt (zt7 (i := 206) rfl) rfl), ⟨by decide, by decide⟩⟩
theorem na_X9_looks : (parseMethodDescriptor M_X9_looks.1.desc).map (fun d => d.parameters.length) = some 0 := by decide +kernel
theorem pf_X9_looks : plainFor M_X9_looks.1 = true := by decide +kernel
def M_X9_look : zM := (yX9_look, cX9_look, 1, some .int, { frames := 6, cells := 0, slots := 0, locals := 138 })
theorem mv_X9_look : zMv M_X9_look := ⟨(zmt (zt7 (i := 200) rfl) rfl), (zmt (zt7 (i := 201) rfl) rfl), (zmt (zt1 (i := 10) rfl) rfl), (zmt (zt7 (i := 202) rfl) rfl), ⟨by decide, by decide⟩⟩
theorem na_X9_look : (parseMethodDescriptor M_X9_look.1.desc).map (fun d => d.parameters.length) = some 0 := by decide +kernel
theorem pf_X9_look : plainFor M_X9_look.1 = true := by decide +kernel
def M_X9_lookLeaves : zM := (yX9_lookLeaves, cX9_lookLeaves, 1, some .int, { frames := 6, cells := 0, slots := 0, locals := 138 })
theorem mv_X9_lookLeaves : zMv M_X9_lookLeaves := ⟨(zmt (zt7 (i := 216) rfl) rfl), (zmt (zt7 (i := 217) rfl) rfl), (zmt (zt1 (i := 10) rfl) rfl), (zmt (zt7 (i := 218) rfl) rfl), ⟨by decide, by decide⟩⟩
theorem na_X9_lookLeaves : (parseMethodDescriptor M_X9_lookLeaves.1.desc).map (fun d => d.parameters.length) = some 0 := by decide +kernel
theorem pf_X9_lookLeaves : plainFor M_X9_lookLeaves.1 = true := by decide +kernel
def M_X9_judge : zM := (yX9_judge, cX9_judge, 2, some .int, { frames := 4, cells := 0, slots := 0, locals := 86 })
theorem mv_X9_judge : zMv M_X9_judge := ⟨(zmt (zt7 (i := 220) rfl) rfl), (zmt (zt7 (i := 221) rfl) rfl), (zmt (zt1 (i := 10) rfl) rfl), (zmt (zt7 (i := 222) rfl) rfl), ⟨by decide, by decide⟩⟩
theorem na_X9_judge : (parseMethodDescriptor M_X9_judge.1.desc).map (fun d => d.parameters.length) = some 1 := by decide +kernel
theorem pf_X9_judge : plainFor M_X9_judge.1 = true := by decide +kernel
def M_X9_power : zM := (yX9_power, cX9_power, 6, some .long, { frames := 0, cells := 0, slots := 0, locals := 0 })
theorem ms_X9_power : zMs M_X9_power := ⟨(zmt (zt7 (i := 236) rfl) rfl), (zmt (zt1 (i := 10) rfl) rfl), (zmt (zt7 (i := 237) rfl) rfl), ⟨by decide, by decide⟩⟩
theorem na_X9_power : (parseMethodDescriptor M_X9_power.1.desc).map (fun d => d.parameters.length) = some 2 := by decide +kernel
theorem pf_X9_power : plainFor M_X9_power.1 = true := by decide +kernel
def M_X9_rollsOf : zM := (yX9_rollsOf, cX9_rollsOf, 6, some .long, { frames := 1, cells := 0, slots := 0, locals := 25 })
theorem mv_X9_rollsOf : zMv M_X9_rollsOf := ⟨(zmt (zt7 (i := 233) rfl) rfl), (zmp (i := 63) rfl rfl), (zmt (zt1 (i := 10) rfl) rfl), (zmt (zt7 (i := 234) rfl) rfl), ⟨by decide, by decide⟩⟩
theorem na_X9_rollsOf : (parseMethodDescriptor M_X9_rollsOf.1.desc).map (fun d => d.parameters.length) = some 2 := by decide +kernel
theorem pf_X9_rollsOf : plainFor M_X9_rollsOf.1 = true := by decide +kernel
def M_X9_refusesRolls : zM := (yX9_refusesRolls, cX9_refusesRolls, 3, some .int, { frames := 1, cells := 0, slots := 0, locals := 22 })
theorem mv_X9_refusesRolls : zMv M_X9_refusesRolls := ⟨(zmt (zt7 (i := 229) rfl) rfl), (zmp (i := 62) rfl rfl), (zmt (zt1 (i := 10) rfl) rfl), (zmt (zt7 (i := 230) rfl) rfl), ⟨by decide, by decide⟩⟩
theorem na_X9_refusesRolls : (parseMethodDescriptor M_X9_refusesRolls.1.desc).map (fun d => d.parameters.length) = some 2 := by decide +kernel
theorem pf_X9_refusesRolls : plainFor M_X9_refusesRolls.1 = true := by decide +kernel
def M_X9_rolls : zM := (yX9_rolls, cX9_rolls, 5, some .long, { frames := 2, cells := 0, slots := 0, locals := 54 })
theorem mv_X9_rolls : zMv M_X9_rolls := ⟨(zmt (zt7 (i := 224) rfl) rfl), (zmt (zt7 (i := 225) rfl) rfl), (zmt (zt1 (i := 10) rfl) rfl), (zmt (zt7 (i := 226) rfl) rfl), ⟨by decide, by decide⟩⟩
theorem na_X9_rolls : (parseMethodDescriptor M_X9_rolls.1.desc).map (fun d => d.parameters.length) = some 3 := by decide +kernel
theorem pf_X9_rolls : plainFor M_X9_rolls.1 = true := by decide +kernel
def M_X9_rollsMore : zM := (yX9_rollsMore, cX9_rollsMore, 8, some .long, { frames := 2, cells := 0, slots := 0, locals := 54 })
theorem mv_X9_rollsMore : zMv M_X9_rollsMore := ⟨(zmt (zt8 (i := 7) rfl) rfl), (zmt (zt8 (i := 8) rfl) rfl), (zmt (zt1 (i := 10) rfl) rfl), (zmt (zt8 (i := 9) rfl) rfl), ⟨by decide, by decide⟩⟩
theorem na_X9_rollsMore : (parseMethodDescriptor M_X9_rollsMore.1.desc).map (fun d => d.parameters.length) = some 3 := by decide +kernel
theorem pf_X9_rollsMore : plainFor M_X9_rollsMore.1 = true := by decide +kernel
def M_X9_apart : zM := (yX9_apart, cX9_apart, 3, some .int, { frames := 1, cells := 0, slots := 0, locals := 20 })
theorem ms_X9_apart : zMs M_X9_apart := ⟨(zmt (zt8 (i := 19) rfl) rfl), (zmt (zt1 (i := 10) rfl) rfl), (zmt (zt8 (i := 20) rfl) rfl), ⟨by decide, by decide⟩⟩
theorem na_X9_apart : (parseMethodDescriptor M_X9_apart.1.desc).map (fun d => d.parameters.length) = some 2 := by decide +kernel
theorem pf_X9_apart : plainFor M_X9_apart.1 = true := by decide +kernel
def M_X9_isWatched : zM := (yX9_isWatched, cX9_isWatched, 6, some .boolean, { frames := 2, cells := 0, slots := 0, locals := 42 })
theorem mv_X9_isWatched : zMv M_X9_isWatched := ⟨(zmt (zt8 (i := 16) rfl) rfl), (zmp (i := 65) rfl rfl), (zmt (zt1 (i := 10) rfl) rfl), (zmt (zt8 (i := 17) rfl) rfl), ⟨by decide, by decide⟩⟩
theorem na_X9_isWatched : (parseMethodDescriptor M_X9_isWatched.1.desc).map (fun d => d.parameters.length) = some 2 := by decide +kernel
theorem pf_X9_isWatched : plainFor M_X9_isWatched.1 = true := by decide +kernel
def M_X9_watch : zM := (yX9_watch, cX9_watch, 4, some .int, { frames := 3, cells := 0, slots := 0, locals := 67 })
theorem mv_X9_watch : zMv M_X9_watch := ⟨(zmt (zt8 (i := 11) rfl) rfl), (zmt (zt8 (i := 12) rfl) rfl), (zmt (zt1 (i := 10) rfl) rfl), (zmt (zt8 (i := 13) rfl) rfl), ⟨by decide, by decide⟩⟩
theorem na_X9_watch : (parseMethodDescriptor M_X9_watch.1.desc).map (fun d => d.parameters.length) = some 1 := by decide +kernel
theorem pf_X9_watch : plainFor M_X9_watch.1 = true := by decide +kernel
def M_X9_person : zM := (yX9_person, cX9_person, 3, some .int, { frames := 2, cells := 0, slots := 0, locals := 40 })
theorem mv_X9_person : zMv M_X9_person := ⟨(zmt (zt8 (i := 22) rfl) rfl), (zmt (zt8 (i := 23) rfl) rfl), (zmt (zt1 (i := 10) rfl) rfl), (zmt (zt8 (i := 24) rfl) rfl), ⟨by decide, by decide⟩⟩
theorem na_X9_person : (parseMethodDescriptor M_X9_person.1.desc).map (fun d => d.parameters.length) = some 2 := by decide +kernel
theorem pf_X9_person : plainFor M_X9_person.1 = true := by decide +kernel
def M_X9_step : zM := (yX9_step, cX9_step, 2, some .int, { frames := 0, cells := 0, slots := 0, locals := 0 })
theorem ms_X9_step : zMs M_X9_step := ⟨(zmt (zt8 (i := 52) rfl) rfl), (zmt (zt1 (i := 10) rfl) rfl), (zmt (zt8 (i := 53) rfl) rfl), ⟨by decide, by decide⟩⟩
theorem na_X9_step : (parseMethodDescriptor M_X9_step.1.desc).map (fun d => d.parameters.length) = some 2 := by decide +kernel
theorem pf_X9_step : plainFor M_X9_step.1 = true := by decide +kernel
def M_X9_longBy : zM := (yX9_longBy, cX9_longBy, 6, some .int, { frames := 4, cells := 0, slots := 0, locals := 85 })
theorem mv_X9_longBy : zMv M_X9_longBy := ⟨(zmt (zt8 (i := 49) rfl) rfl), (zmp (i := 69) rfl rfl), (zmt (zt1 (i := 10) rfl) rfl), (zmt (zt8 (i := 50) rfl) rfl), ⟨by decide, by decide⟩⟩
theorem na_X9_longBy : (parseMethodDescriptor M_X9_longBy.1.desc).map (fun d => d.parameters.length) = some 3 := by decide +kernel
theorem pf_X9_longBy : plainFor M_X9_longBy.1 = true := by decide +kernel
def M_X9_wayTo : zM := (yX9_wayTo, cX9_wayTo, 5, some .int, { frames := 5, cells := 0, slots := 0, locals := 110 })
theorem mv_X9_wayTo : zMv M_X9_wayTo := ⟨(zmt (zt8 (i := 45) rfl) rfl), (zmp (i := 68) rfl rfl), (zmt (zt1 (i := 10) rfl) rfl), (zmt (zt8 (i := 46) rfl) rfl), ⟨by decide, by decide⟩⟩
theorem na_X9_wayTo : (parseMethodDescriptor M_X9_wayTo.1.desc).map (fun d => d.parameters.length) = some 2 := by decide +kernel
theorem pf_X9_wayTo : plainFor M_X9_wayTo.1 = true := by decide +kernel
def M_X9_refusesWay : zM := (yX9_refusesWay, cX9_refusesWay, 4, some .int, { frames := 2, cells := 0, slots := 0, locals := 43 })
theorem mv_X9_refusesWay : zMv M_X9_refusesWay := ⟨(zmt (zt8 (i := 41) rfl) rfl), (zmp (i := 67) rfl rfl), (zmt (zt1 (i := 10) rfl) rfl), (zmt (zt8 (i := 42) rfl) rfl), ⟨by decide, by decide⟩⟩
theorem na_X9_refusesWay : (parseMethodDescriptor M_X9_refusesWay.1.desc).map (fun d => d.parameters.length) = some 3 := by decide +kernel
theorem pf_X9_refusesWay : plainFor M_X9_refusesWay.1 = true := by decide +kernel
def M_X9_way : zM := (yX9_way, cX9_way, 5, some .int, { frames := 6, cells := 0, slots := 0, locals := 134 })
theorem mv_X9_way : zMv M_X9_way := ⟨(zmt (zt8 (i := 36) rfl) rfl), (zmt (zt8 (i := 37) rfl) rfl), (zmt (zt1 (i := 10) rfl) rfl), (zmt (zt8 (i := 38) rfl) rfl), ⟨by decide, by decide⟩⟩
theorem na_X9_way : (parseMethodDescriptor M_X9_way.1.desc).map (fun d => d.parameters.length) = some 3 := by decide +kernel
theorem pf_X9_way : plainFor M_X9_way.1 = true := by decide +kernel
def M_X9_wayUp : zM := (yX9_wayUp, cX9_wayUp, 7, some .int, { frames := 5, cells := 0, slots := 0, locals := 110 })
theorem mv_X9_wayUp : zMv M_X9_wayUp := ⟨(zmt (zt8 (i := 59) rfl) rfl), (zmt (zt8 (i := 60) rfl) rfl), (zmt (zt1 (i := 10) rfl) rfl), (zmt (zt8 (i := 61) rfl) rfl), ⟨by decide, by decide⟩⟩
theorem na_X9_wayUp : (parseMethodDescriptor M_X9_wayUp.1.desc).map (fun d => d.parameters.length) = some 3 := by decide +kernel
theorem pf_X9_wayUp : plainFor M_X9_wayUp.1 = true := by decide +kernel
def M_X9_nearest : zM := (yX9_nearest, cX9_nearest, 6, some .int, { frames := 6, cells := 0, slots := 0, locals := 134 })
theorem mv_X9_nearest : zMv M_X9_nearest := ⟨(zmt (zt8 (i := 63) rfl) rfl), (zmt (zt8 (i := 64) rfl) rfl), (zmt (zt1 (i := 10) rfl) rfl), (zmt (zt8 (i := 65) rfl) rfl), ⟨by decide, by decide⟩⟩
theorem na_X9_nearest : (parseMethodDescriptor M_X9_nearest.1.desc).map (fun d => d.parameters.length) = some 2 := by decide +kernel
theorem pf_X9_nearest : plainFor M_X9_nearest.1 = true := by decide +kernel
def M_X9_farthest : zM := (yX9_farthest, cX9_farthest, 4, some .int, { frames := 6, cells := 0, slots := 0, locals := 134 })
theorem mv_X9_farthest : zMv M_X9_farthest := ⟨(zmt (zt8 (i := 67) rfl) rfl), (zmt (zt8 (i := 68) rfl) rfl), (zmt (zt1 (i := 10) rfl) rfl), (zmt (zt8 (i := 69) rfl) rfl), ⟨by decide, by decide⟩⟩
theorem na_X9_farthest : (parseMethodDescriptor M_X9_farthest.1.desc).map (fun d => d.parameters.length) = some 1 := by decide +kernel
theorem pf_X9_farthest : plainFor M_X9_farthest.1 = true := by decide +kernel
def M_X9_ring : zM := (yX9_ring, cX9_ring, 3, some .int, { frames := 4, cells := 0, slots := 0, locals := 85 })
theorem mv_X9_ring : zMv M_X9_ring := ⟨(zmt (zt8 (i := 71) rfl) rfl), (zmt (zt8 (i := 72) rfl) rfl), (zmt (zt1 (i := 10) rfl) rfl), (zmt (zt8 (i := 73) rfl) rfl), ⟨by decide, by decide⟩⟩
theorem na_X9_ring : (parseMethodDescriptor M_X9_ring.1.desc).map (fun d => d.parameters.length) = some 0 := by decide +kernel
theorem pf_X9_ring : plainFor M_X9_ring.1 = true := by decide +kernel
def M_X9_far : zM := (yX9_far, cX9_far, 1, some .int, { frames := 0, cells := 0, slots := 0, locals := 0 })
theorem ms_X9_far : zMs M_X9_far := ⟨(zmt (zt8 (i := 87) rfl) rfl), (zmt (zt1 (i := 10) rfl) rfl), (zmt (zt8 (i := 88) rfl) rfl), ⟨by decide, by decide⟩⟩
theorem na_X9_far : (parseMethodDescriptor M_X9_far.1.desc).map (fun d => d.parameters.length) = some 1 := by decide +kernel
theorem pf_X9_far : plainFor M_X9_far.1 = true := by decide +kernel
def M_X9_gets : zM := (yX9_gets, cX9_gets, 5, some .int, { frames := 3, cells := 0, slots := 0, locals := 68 })
theorem mv_X9_gets : zMv M_X9_gets := ⟨(zmt (zt8 (i := 84) rfl) rfl), (zmp (i := 72) rfl rfl), (zmt (zt1 (i := 10) rfl) rfl), (zmt (zt8 (i := 85) rfl) rfl), ⟨by decide, by decide⟩⟩
theorem na_X9_gets : (parseMethodDescriptor M_X9_gets.1.desc).map (fun d => d.parameters.length) = some 3 := by decide +kernel
theorem pf_X9_gets : plainFor M_X9_gets.1 = true := by decide +kernel
def M_X9_two : zM := (yX9_two, cX9_two, 4, some .int, { frames := 4, cells := 0, slots := 0, locals := 92 })
theorem mv_X9_two : zMv M_X9_two := ⟨(zmt (zt8 (i := 75) rfl) rfl), (zmt (zt8 (i := 76) rfl) rfl), (zmt (zt1 (i := 10) rfl) rfl), (zmt (zt8 (i := 77) rfl) rfl), ⟨by decide, by decide⟩⟩
theorem na_X9_two : (parseMethodDescriptor M_X9_two.1.desc).map (fun d => d.parameters.length) = some 3 := by decide +kernel
theorem pf_X9_two : plainFor M_X9_two.1 = true := by decide +kernel
def M_X9_isRest : zM := (yX9_isRest, cX9_isRest, 4, some .boolean, { frames := 4, cells := 0, slots := 0, locals := 92 })
theorem mv_X9_isRest : zMv M_X9_isRest := ⟨(zmt (zt8 (i := 95) rfl) rfl), (zmp (i := 73) rfl rfl), (zmt (zt1 (i := 10) rfl) rfl), (zmt (zt8 (i := 96) rfl) rfl), ⟨by decide, by decide⟩⟩
theorem na_X9_isRest : (parseMethodDescriptor M_X9_isRest.1.desc).map (fun d => d.parameters.length) = some 2 := by decide +kernel
theorem pf_X9_isRest : plainFor M_X9_isRest.1 = true := by decide +kernel
def M_X9_rests : zM := (yX9_rests, cX9_rests, 4, some .int, { frames := 5, cells := 0, slots := 0, locals := 115 })
theorem mv_X9_rests : zMv M_X9_rests := ⟨(zmt (zt8 (i := 90) rfl) rfl), (zmt (zt8 (i := 91) rfl) rfl), (zmt (zt1 (i := 10) rfl) rfl), (zmt (zt8 (i := 92) rfl) rfl), ⟨by decide, by decide⟩⟩
theorem na_X9_rests : (parseMethodDescriptor M_X9_rests.1.desc).map (fun d => d.parameters.length) = some 0 := by decide +kernel
theorem pf_X9_rests : plainFor M_X9_rests.1 = true := by decide +kernel
def M_X9_rest : zM := (yX9_rest, cX9_rest, 3, some .int, { frames := 5, cells := 0, slots := 0, locals := 115 })
theorem mv_X9_rest : zMv M_X9_rest := ⟨(zmt (zt8 (i := 98) rfl) rfl), (zmt (zt8 (i := 99) rfl) rfl), (zmt (zt1 (i := 10) rfl) rfl), (zmt (zt8 (i := 100) rfl) rfl), ⟨by decide, by decide⟩⟩
theorem na_X9_rest : (parseMethodDescriptor M_X9_rest.1.desc).map (fun d => d.parameters.length) = some 0 := by decide +kernel
theorem pf_X9_rest : plainFor M_X9_rest.1 = true := by decide +kernel
def M_X9_refusesShakes : zM := (yX9_refusesShakes, cX9_refusesShakes, 4, some .int, { frames := 1, cells := 0, slots := 0, locals := 22 })
theorem mv_X9_refusesShakes : zMv M_X9_refusesShakes := ⟨(zmt (zt8 (i := 107) rfl) rfl), (zmp (i := 74) rfl rfl), (zmt (zt1 (i := 10) rfl) rfl), (zmt (zt8 (i := 108) rfl) rfl), ⟨by decide, by decide⟩⟩
theorem na_X9_refusesShakes : (parseMethodDescriptor M_X9_refusesShakes.1.desc).map (fun d => d.parameters.length) = some 3 := by decide +kernel
theorem pf_X9_refusesShakes : plainFor M_X9_refusesShakes.1 = true := by decide +kernel
def M_X9_shakes : zM := (yX9_shakes, cX9_shakes, 6, none, { frames := 2, cells := 0, slots := 0, locals := 45 })
theorem mv_X9_shakes : zMv M_X9_shakes := ⟨(zmt (zt8 (i := 112) rfl) rfl), (zmp (i := 75) rfl rfl), (zmt (zt1 (i := 10) rfl) rfl), (zmt (zt8 (i := 113) rfl) rfl), ⟨by decide, by decide⟩⟩
theorem na_X9_shakes : (parseMethodDescriptor M_X9_shakes.1.desc).map (fun d => d.parameters.length) = some 3 := by decide +kernel
theorem pf_X9_shakes : plainFor M_X9_shakes.1 = true := by decide +kernel
def M_X9_shaken : zM := (yX9_shaken, cX9_shaken, 5, some .int, { frames := 3, cells := 0, slots := 0, locals := 70 })
theorem mv_X9_shaken : zMv M_X9_shaken := ⟨(zmt (zt8 (i := 102) rfl) rfl), (zmt (zt8 (i := 103) rfl) rfl), (zmt (zt1 (i := 10) rfl) rfl), (zmt (zt8 (i := 104) rfl) rfl), ⟨by decide, by decide⟩⟩
theorem na_X9_shaken : (parseMethodDescriptor M_X9_shaken.1.desc).map (fun d => d.parameters.length) = some 3 := by decide +kernel
theorem pf_X9_shaken : plainFor M_X9_shaken.1 = true := by decide +kernel
def M_X9_topDays : zM := (yX9_topDays, cX9_topDays, 5, some .int, { frames := 3, cells := 0, slots := 0, locals := 70 })
theorem mv_X9_topDays : zMv M_X9_topDays := ⟨(zmt (zt8 (i := 118) rfl) rfl), (zmt (zt8 (i := 119) rfl) rfl), (zmt (zt1 (i := 10) rfl) rfl), (zmt (zt8 (i := 120) rfl) rfl), ⟨by decide, by decide⟩⟩
theorem na_X9_topDays : (parseMethodDescriptor M_X9_topDays.1.desc).map (fun d => d.parameters.length) = some 3 := by decide +kernel
theorem pf_X9_topDays : plainFor M_X9_topDays.1 = true := by decide +kernel
def M_X9_rightDays : zM := (yX9_rightDays, cX9_rightDays, 4, some .int, { frames := 3, cells := 0, slots := 0, locals := 70 })
theorem mv_X9_rightDays : zMv M_X9_rightDays := ⟨(zmt (zt8 (i := 122) rfl) rfl), (zmt (zt8 (i := 123) rfl) rfl), (zmt (zt1 (i := 10) rfl) rfl), (zmt (zt8 (i := 124) rfl) rfl), ⟨by decide, by decide⟩⟩
theorem na_X9_rightDays : (parseMethodDescriptor M_X9_rightDays.1.desc).map (fun d => d.parameters.length) = some 2 := by decide +kernel
theorem pf_X9_rightDays : plainFor M_X9_rightDays.1 = true := by decide +kernel
def M_X9_remembers : zM := (yX9_remembers, cX9_remembers, 2, none, { frames := 0, cells := 0, slots := 0, locals := 0 })
theorem mv_X9_remembers : zMv M_X9_remembers := ⟨(zmt (zt8 (i := 131) rfl) rfl), (zmp (i := 76) rfl rfl), (zmt (zt1 (i := 10) rfl) rfl), (zmt (zt8 (i := 132) rfl) rfl), ⟨by decide, by decide⟩⟩
theorem na_X9_remembers : (parseMethodDescriptor M_X9_remembers.1.desc).map (fun d => d.parameters.length) = some 0 := by decide +kernel
theorem pf_X9_remembers : plainFor M_X9_remembers.1 = true := by decide +kernel
def M_X9_turn : zM := (yX9_turn, cX9_turn, 2, some .int, { frames := 2, cells := 0, slots := 0, locals := 47 })
theorem mv_X9_turn : zMv M_X9_turn := ⟨(zmt (zt8 (i := 126) rfl) rfl), (zmt (zt8 (i := 127) rfl) rfl), (zmt (zt1 (i := 10) rfl) rfl), (zmt (zt8 (i := 128) rfl) rfl), ⟨by decide, by decide⟩⟩
theorem na_X9_turn : (parseMethodDescriptor M_X9_turn.1.desc).map (fun d => d.parameters.length) = some 1 := by decide +kernel
theorem pf_X9_turn : plainFor M_X9_turn.1 = true := by decide +kernel
def M_X9_go : zM := (yX9_go, cX9_go, 4, some .int, { frames := 4, cells := 0, slots := 0, locals := 85 })
theorem mv_X9_go : zMv M_X9_go := ⟨(zmt (zt8 (i := 134) rfl) rfl), (zmt (zt8 (i := 135) rfl) rfl), (zmt (zt1 (i := 10) rfl) rfl), (zmt (zt8 (i := 136) rfl) rfl), ⟨by decide, by decide⟩⟩
theorem na_X9_go : (parseMethodDescriptor M_X9_go.1.desc).map (fun d => d.parameters.length) = some 2 := by decide +kernel
theorem pf_X9_go : plainFor M_X9_go.1 = true := by decide +kernel
def M_X9_waits : zM := (yX9_waits, cX9_waits, 2, some .int, { frames := 1, cells := 0, slots := 0, locals := 22 })
theorem mv_X9_waits : zMv M_X9_waits := ⟨(zmt (zt8 (i := 138) rfl) rfl), (zmt (zt8 (i := 139) rfl) rfl), (zmt (zt1 (i := 10) rfl) rfl), (zmt (zt8 (i := 140) rfl) rfl), ⟨by decide, by decide⟩⟩
theorem na_X9_waits : (parseMethodDescriptor M_X9_waits.1.desc).map (fun d => d.parameters.length) = some 1 := by decide +kernel
theorem pf_X9_waits : plainFor M_X9_waits.1 = true := by decide +kernel
def M_X9_undo : zM := (yX9_undo, cX9_undo, 2, some .boolean, { frames := 2, cells := 0, slots := 0, locals := 42 })
theorem mv_X9_undo : zMv M_X9_undo := ⟨(zmt (zt8 (i := 142) rfl) rfl), (zmt (zt8 (i := 143) rfl) rfl), (zmt (zt1 (i := 10) rfl) rfl), (zmt (zt8 (i := 144) rfl) rfl), ⟨by decide, by decide⟩⟩
theorem na_X9_undo : (parseMethodDescriptor M_X9_undo.1.desc).map (fun d => d.parameters.length) = some 0 := by decide +kernel
theorem pf_X9_undo : plainFor M_X9_undo.1 = true := by decide +kernel
def M_X9_image : zM := (yX9_image, cX9_image, 2, some .int, { frames := 1, cells := 0, slots := 0, locals := 21 })
theorem mv_X9_image : zMv M_X9_image := ⟨(zmt (zt8 (i := 154) rfl) rfl), (zmt (zt8 (i := 155) rfl) rfl), (zmt (zt1 (i := 10) rfl) rfl), (zmt (zt8 (i := 156) rfl) rfl), ⟨by decide, by decide⟩⟩
theorem na_X9_image : (parseMethodDescriptor M_X9_image.1.desc).map (fun d => d.parameters.length) = some 0 := by decide +kernel
theorem pf_X9_image : plainFor M_X9_image.1 = true := by decide +kernel
def M_X9_back : zM := (yX9_back, cX9_back, 3, some .boolean, { frames := 2, cells := 0, slots := 0, locals := 42 })
theorem mv_X9_back : zMv M_X9_back := ⟨(zmt (zt8 (i := 158) rfl) rfl), (zmt (zt8 (i := 159) rfl) rfl), (zmt (zt1 (i := 10) rfl) rfl), (zmt (zt8 (i := 160) rfl) rfl), ⟨by decide, by decide⟩⟩
theorem na_X9_back : (parseMethodDescriptor M_X9_back.1.desc).map (fun d => d.parameters.length) = some 1 := by decide +kernel
theorem pf_X9_back : plainFor M_X9_back.1 = true := by decide +kernel
def M_X9_led : zM := (yX9_led, cX9_led, 4, some .int, { frames := 1, cells := 0, slots := 0, locals := 24 })
theorem mv_X9_led : zMv M_X9_led := ⟨(zmt (zt8 (i := 162) rfl) rfl), (zmt (zt8 (i := 163) rfl) rfl), (zmt (zt1 (i := 10) rfl) rfl), (zmt (zt8 (i := 164) rfl) rfl), ⟨by decide, by decide⟩⟩
theorem na_X9_led : (parseMethodDescriptor M_X9_led.1.desc).map (fun d => d.parameters.length) = some 1 := by decide +kernel
theorem pf_X9_led : plainFor M_X9_led.1 = true := by decide +kernel
def M_X9_size : zM := (yX9_size, cX9_size, 2, some .int, { frames := 1, cells := 0, slots := 0, locals := 22 })
theorem mv_X9_size : zMv M_X9_size := ⟨(zmt (zt8 (i := 166) rfl) rfl), (zmt (zt8 (i := 167) rfl) rfl), (zmt (zt1 (i := 10) rfl) rfl), (zmt (zt8 (i := 168) rfl) rfl), ⟨by decide, by decide⟩⟩
theorem na_X9_size : (parseMethodDescriptor M_X9_size.1.desc).map (fun d => d.parameters.length) = some 1 := by decide +kernel
theorem pf_X9_size : plainFor M_X9_size.1 = true := by decide +kernel
def M_X9_trouble : zM := (yX9_trouble, cX9_trouble, 1, some .int, { frames := 0, cells := 0, slots := 0, locals := 0 })
theorem mv_X9_trouble : zMv M_X9_trouble := ⟨(zmt (zt8 (i := 170) rfl) rfl), (zmt (zt8 (i := 171) rfl) rfl), (zmt (zt1 (i := 10) rfl) rfl), (zmt (zt8 (i := 172) rfl) rfl), ⟨by decide, by decide⟩⟩
theorem na_X9_trouble : (parseMethodDescriptor M_X9_trouble.1.desc).map (fun d => d.parameters.length) = some 0 := by decide +kernel
theorem pf_X9_trouble : plainFor M_X9_trouble.1 = true := by decide +kernel
def M_J6_numberOfTrailingZeros_0f7a4 : zM := (yJ6_numberOfTrailingZeros_0f7a4, cJ6_numberOfTrailingZeros_0f7a4, 2, some .int, { frames := 0, cells := 0, slots := 0, locals := 0 })
theorem ms_J6_numberOfTrailingZeros_0f7a4 : zMs M_J6_numberOfTrailingZeros_0f7a4 := ⟨(zmt (zt3 (i := 220) rfl) rfl), (zmt (zt1 (i := 16) rfl) rfl), (zmt (zt3 (i := 221) rfl) rfl), ⟨by decide, by decide⟩⟩
theorem na_J6_numberOfTrailingZeros_0f7a4 : (parseMethodDescriptor M_J6_numberOfTrailingZeros_0f7a4.1.desc).map (fun d => d.parameters.length) = some 1 := by decide +kernel
theorem pf_J6_numberOfTrailingZeros_0f7a4 : plainFor M_J6_numberOfTrailingZeros_0f7a4.1 = true := by decide +kernel
def M_J6_bitCount_0f7a4 : zM := (yJ6_bitCount_0f7a4, cJ6_bitCount_0f7a4, 1, some .int, { frames := 0, cells := 0, slots := 0, locals := 0 })
theorem ms_J6_bitCount_0f7a4 : zMs M_J6_bitCount_0f7a4 := ⟨(zmt (zt3 (i := 87) rfl) rfl), (zmt (zt1 (i := 16) rfl) rfl), (zmt (zt3 (i := 88) rfl) rfl), ⟨by decide, by decide⟩⟩
theorem na_J6_bitCount_0f7a4 : (parseMethodDescriptor M_J6_bitCount_0f7a4.1.desc).map (fun d => d.parameters.length) = some 1 := by decide +kernel
theorem pf_J6_bitCount_0f7a4 : plainFor M_J6_bitCount_0f7a4.1 = true := by decide +kernel
def M_J9_floorMod_7cf53 : zM := (yJ9_floorMod_7cf53, cJ9_floorMod_7cf53, 3, some .int, { frames := 0, cells := 0, slots := 0, locals := 0 })
theorem ms_J9_floorMod_7cf53 : zMs M_J9_floorMod_7cf53 := ⟨(zmt (zt1 (i := 233) rfl) rfl), (zmt (zt1 (i := 8) rfl) rfl), (zmt (zt1 (i := 234) rfl) rfl), ⟨by decide, by decide⟩⟩
theorem na_J9_floorMod_7cf53 : (parseMethodDescriptor M_J9_floorMod_7cf53.1.desc).map (fun d => d.parameters.length) = some 2 := by decide +kernel
theorem pf_J9_floorMod_7cf53 : plainFor M_J9_floorMod_7cf53.1 = true := by decide +kernel
def M_J9_abs_0f7a4 : zM := (yJ9_abs_0f7a4, cJ9_abs_0f7a4, 1, some .int, { frames := 0, cells := 0, slots := 0, locals := 0 })
theorem ms_J9_abs_0f7a4 : zMs M_J9_abs_0f7a4 := ⟨(zmt (zt4 (i := 139) rfl) rfl), (zmt (zt1 (i := 8) rfl) rfl), (zmt (zt4 (i := 140) rfl) rfl), ⟨by decide, by decide⟩⟩
theorem na_J9_abs_0f7a4 : (parseMethodDescriptor M_J9_abs_0f7a4.1.desc).map (fun d => d.parameters.length) = some 1 := by decide +kernel
theorem pf_J9_abs_0f7a4 : plainFor M_J9_abs_0f7a4.1 = true := by decide +kernel
def M_J9_max_7cf53 : zM := (yJ9_max_7cf53, cJ9_max_7cf53, 2, some .int, { frames := 0, cells := 0, slots := 0, locals := 0 })
theorem ms_J9_max_7cf53 : zMs M_J9_max_7cf53 := ⟨(zmt (zt4 (i := 0) rfl) rfl), (zmt (zt1 (i := 8) rfl) rfl), (zmt (zt4 (i := 1) rfl) rfl), ⟨by decide, by decide⟩⟩
theorem na_J9_max_7cf53 : (parseMethodDescriptor M_J9_max_7cf53.1.desc).map (fun d => d.parameters.length) = some 2 := by decide +kernel
theorem pf_J9_max_7cf53 : plainFor M_J9_max_7cf53.1 = true := by decide +kernel
def M_J9_min_7cf53 : zM := (yJ9_min_7cf53, cJ9_min_7cf53, 2, some .int, { frames := 0, cells := 0, slots := 0, locals := 0 })
theorem ms_J9_min_7cf53 : zMs M_J9_min_7cf53 := ⟨(zmt (zt2 (i := 68) rfl) rfl), (zmt (zt1 (i := 8) rfl) rfl), (zmt (zt2 (i := 69) rfl) rfl), ⟨by decide, by decide⟩⟩
theorem na_J9_min_7cf53 : (parseMethodDescriptor M_J9_min_7cf53.1.desc).map (fun d => d.parameters.length) = some 2 := by decide +kernel
theorem pf_J9_min_7cf53 : plainFor M_J9_min_7cf53.1 = true := by decide +kernel
theorem lk_RX7_10 : zLk RX7 10 TX7 0 := Or.inl (zmt (zt2 (i := 24) rfl) rfl)
theorem lk_RX7_19 : zLk RX7 19 TX7 1 := Or.inl (zmt (zt2 (i := 25) rfl) rfl)
theorem lk_RX7_26 : zLk RX7 26 TX7 2 := Or.inl (zmt (zt2 (i := 26) rfl) rfl)
theorem lk_RX7_33 : zLk RX7 33 TX7 3 := Or.inl (zmt (zt2 (i := 27) rfl) rfl)
theorem lk_RX7_40 : zLk RX7 40 TX7 4 := Or.inl (zmt (zt2 (i := 28) rfl) rfl)
theorem lk_RX7_44 : zLk RX7 44 TX2 0 := Or.inl (zmt (zt1 (i := 157) rfl) rfl)
theorem lk_RX7_48 : zLk RX7 48 TX6 1 := Or.inl (zmt (zt1 (i := 43) rfl) rfl)
theorem lk_RX7_66 : zLk RX7 66 TX2 1 := Or.inl (zmt (zt1 (i := 159) rfl) rfl)
theorem lk_RX7_77 : zLk RX7 77 TX4 0 := Or.inl (zmt (zt1 (i := 185) rfl) rfl)
theorem lk_RX7_80 : zLk RX7 80 TX1 1 := Or.inl (zmt (zt1 (i := 85) rfl) rfl)
theorem lk_RX7_88 : zLk RX7 88 TX2 3 := Or.inl (zmt (zt1 (i := 162) rfl) rfl)
theorem lk_RX7_91 : zLk RX7 91 TX7 5 := Or.inl (zmt (zt2 (i := 29) rfl) rfl)
theorem lk_RX7_94 : zLk RX7 94 TX2 4 := Or.inl (zmt (zt1 (i := 164) rfl) rfl)
theorem lk_RX7_100 : zLk RX7 100 TX1 3 := Or.inl (zmt (zt1 (i := 88) rfl) rfl)
theorem lk_RX7_104 : zLk RX7 104 TX1 5 := Or.inl (zmt (zt1 (i := 94) rfl) rfl)
theorem lk_RX7_118 : zLk RX7 118 TX1 6 := Or.inl (zmt (zt1 (i := 97) rfl) rfl)
theorem lk_RX7_121 : zLk RX7 121 TX1 7 := Or.inl (zmt (zt1 (i := 101) rfl) rfl)
theorem lk_RX7_274 : zLk RX7 274 TX5 2 := Or.inl (zmt (zt2 (i := 12) rfl) rfl)
theorem lk_RX7_277 : zLk RX7 277 TX5 3 := Or.inl (zmt (zt2 (i := 14) rfl) rfl)
theorem lk_RX7_286 : zLk RX7 286 TX4 1 := Or.inl (zmt (zt1 (i := 187) rfl) rfl)
theorem lk_RX7_322 : zLk RX7 322 TX1 0 := Or.inl (zmt (zt1 (i := 81) rfl) rfl)
theorem lk_RX7_328 : zLk RX7 328 TX1 8 := Or.inl (zmt (zt1 (i := 105) rfl) rfl)
theorem lk_RX7_331 : zLk RX7 331 TX1 11 := Or.inl (zmt (zt1 (i := 112) rfl) rfl)
theorem lk_RX7_334 : zLk RX7 334 TX1 13 := Or.inl (zmt (zt1 (i := 117) rfl) rfl)
theorem lk_RX7_337 : zLk RX7 337 TX0 2 := Or.inl (zmt (zt1 (i := 204) rfl) rfl)
theorem lk_RX7_340 : zLk RX7 340 TX0 4 := Or.inl (zmt (zt1 (i := 207) rfl) rfl)
theorem lk_RX0_15 : zLk RX0 15 TX0 0 := Or.inl (zmt (zt1 (i := 201) rfl) rfl)
theorem lk_RX0_18 : zLk RX0 18 TX0 1 := Or.inl (zmt (zt1 (i := 202) rfl) rfl)
theorem lk_RX0_21 : zLk RX0 21 TX0 2 := Or.inl (zmt (zt1 (i := 203) rfl) rfl)
theorem lk_RX0_25 : zLk RX0 25 TX0 3 := Or.inl (zmt (zt1 (i := 205) rfl) rfl)
theorem lk_RX0_28 : zLk RX0 28 TX0 4 := Or.inl (zmt (zt1 (i := 206) rfl) rfl)
theorem lk_RX1_9 : zLk RX1 9 TX1 2 := Or.inl (zmt (zt1 (i := 86) rfl) rfl)
theorem lk_RX1_15 : zLk RX1 15 TX1 3 := Or.inl (zmt (zt1 (i := 87) rfl) rfl)
theorem lk_RX1_19 : zLk RX1 19 TX1 4 := Or.inl (zmt (zt1 (i := 90) rfl) rfl)
theorem lk_RX1_22 : zLk RX1 22 TX1 5 := Or.inl (zmt (zt1 (i := 92) rfl) rfl)
theorem lk_RX1_25 : zLk RX1 25 TX1 6 := Or.inl (zmt (zt1 (i := 95) rfl) rfl)
theorem lk_RX1_28 : zLk RX1 28 TX1 7 := Or.inl (zmt (zt1 (i := 99) rfl) rfl)
theorem lk_RX1_31 : zLk RX1 31 TX1 9 := Or.inl (zmt (zt1 (i := 106) rfl) rfl)
theorem lk_RX1_34 : zLk RX1 34 TX1 10 := Or.inl (zmt (zt1 (i := 108) rfl) rfl)
theorem lk_RX1_37 : zLk RX1 37 TX1 12 := Or.inl (zmt (zt1 (i := 113) rfl) rfl)
theorem lk_RX1_40 : zLk RX1 40 TX1 14 := Or.inl (zmt (zt1 (i := 118) rfl) rfl)
theorem lk_RX1_43 : zLk RX1 43 TX1 15 := Or.inl (zmt (zt1 (i := 119) rfl) rfl)
theorem lk_RX1_46 : zLk RX1 46 TX1 0 := Or.inl (zmt (zt1 (i := 79) rfl) rfl)
theorem lk_RX1_50 : zLk RX1 50 TX1 1 := Or.inl (zmt (zt1 (i := 82) rfl) rfl)
theorem lk_RX1_53 : zLk RX1 53 TX1 8 := Or.inl (zmt (zt1 (i := 102) rfl) rfl)
theorem lk_RX1_56 : zLk RX1 56 TX1 11 := Or.inl (zmt (zt1 (i := 110) rfl) rfl)
theorem lk_RX1_59 : zLk RX1 59 TX1 13 := Or.inl (zmt (zt1 (i := 114) rfl) rfl)
theorem lk_RX2_12 : zLk RX2 12 TX2 0 := Or.inl (zmt (zt1 (i := 156) rfl) rfl)
theorem lk_RX2_21 : zLk RX2 21 TX2 1 := Or.inl (zmt (zt1 (i := 158) rfl) rfl)
theorem lk_RX2_32 : zLk RX2 32 TX2 2 := Or.inl (zmt (zt1 (i := 160) rfl) rfl)
theorem lk_RX2_36 : zLk RX2 36 TX2 3 := Or.inl (zmt (zt1 (i := 161) rfl) rfl)
theorem lk_RX2_47 : zLk RX2 47 TX6 4 := Or.inl (zmt (zt1 (i := 47) rfl) rfl)
theorem lk_RX2_50 : zLk RX2 50 TX1 1 := Or.inl (zmt (zt1 (i := 84) rfl) rfl)
theorem lk_RX2_57 : zLk RX2 57 TX6 5 := Or.inl (zmt (zt1 (i := 49) rfl) rfl)
theorem lk_RX2_60 : zLk RX2 60 TX2 4 := Or.inl (zmt (zt1 (i := 163) rfl) rfl)
theorem lk_RX2_82 : zLk RX2 82 TX1 6 := Or.inl (zmt (zt1 (i := 96) rfl) rfl)
theorem lk_RX2_92 : zLk RX2 92 TX1 7 := Or.inl (zmt (zt1 (i := 100) rfl) rfl)
theorem lk_RX2_118 : zLk RX2 118 TX6 7 := Or.inl (zmt (zt1 (i := 54) rfl) rfl)
theorem lk_RX2_121 : zLk RX2 121 TX1 0 := Or.inl (zmt (zt1 (i := 80) rfl) rfl)
theorem lk_RX2_127 : zLk RX2 127 TX6 6 := Or.inl (zmt (zt1 (i := 52) rfl) rfl)
theorem lk_RX2_156 : zLk RX2 156 TX1 8 := Or.inl (zmt (zt1 (i := 103) rfl) rfl)
theorem lk_RX2_166 : zLk RX2 166 TX1 11 := Or.inl (zmt (zt1 (i := 111) rfl) rfl)
theorem lk_RX2_175 : zLk RX2 175 TX1 13 := Or.inl (zmt (zt1 (i := 116) rfl) rfl)
theorem lk_RX3_13 : zLk RX3 13 TX3 0 := Or.inl (zmt (zt1 (i := 235) rfl) rfl)
theorem lk_RX3_16 : zLk RX3 16 TX3 1 := Or.inl (zmt (zt1 (i := 236) rfl) rfl)
theorem lk_RX4_14 : zLk RX4 14 TX4 0 := Or.inl (zmt (zt1 (i := 184) rfl) rfl)
theorem lk_RX4_18 : zLk RX4 18 TX4 1 := Or.inl (zmt (zt1 (i := 186) rfl) rfl)
theorem lk_RX4_22 : zLk RX4 22 TX1 1 := Or.inl (zmt (zt1 (i := 83) rfl) rfl)
theorem lk_RX4_26 : zLk RX4 26 TX1 5 := Or.inl (zmt (zt1 (i := 93) rfl) rfl)
theorem lk_RX4_29 : zLk RX4 29 TX1 13 := Or.inl (zmt (zt1 (i := 115) rfl) rfl)
theorem lk_RX4_32 : zLk RX4 32 TX1 15 := Or.inl (zmt (zt1 (i := 120) rfl) rfl)
theorem lk_RX4_57 : zLk RX4 57 TX1 3 := Or.inl (zmt (zt1 (i := 89) rfl) rfl)
theorem lk_RX4_79 : zLk RX4 79 TX1 6 := Or.inl (zmt (zt1 (i := 98) rfl) rfl)
theorem lk_RX4_85 : zLk RX4 85 TX1 4 := Or.inl (zmt (zt1 (i := 91) rfl) rfl)
theorem lk_RX4_89 : zLk RX4 89 TX1 8 := Or.inl (zmt (zt1 (i := 104) rfl) rfl)
theorem lk_RX4_92 : zLk RX4 92 TX1 9 := Or.inl (zmt (zt1 (i := 107) rfl) rfl)
theorem lk_RX4_99 : zLk RX4 99 TX1 10 := Or.inl (zmt (zt1 (i := 109) rfl) rfl)
theorem lk_RX5_9 : zLk RX5 9 TX5 0 := Or.inl (zmt (zt2 (i := 9) rfl) rfl)
theorem lk_RX5_15 : zLk RX5 15 TX5 1 := Or.inl (zmt (zt2 (i := 10) rfl) rfl)
theorem lk_RX5_18 : zLk RX5 18 TX5 2 := Or.inl (zmt (zt2 (i := 11) rfl) rfl)
theorem lk_RX5_21 : zLk RX5 21 TX5 3 := Or.inl (zmt (zt2 (i := 13) rfl) rfl)
theorem lk_RX6_9 : zLk RX6 9 TX6 0 := Or.inl (zmt (zt1 (i := 42) rfl) rfl)
theorem lk_RX6_15 : zLk RX6 15 TX6 1 := Or.inl (zmt (zt1 (i := 44) rfl) rfl)
theorem lk_RX6_25 : zLk RX6 25 TX6 2 := Or.inl (zmt (zt1 (i := 45) rfl) rfl)
theorem lk_RX6_28 : zLk RX6 28 TX6 3 := Or.inl (zmt (zt1 (i := 46) rfl) rfl)
theorem lk_RX6_31 : zLk RX6 31 TX6 5 := Or.inl (zmt (zt1 (i := 50) rfl) rfl)
theorem lk_RX6_34 : zLk RX6 34 TX6 6 := Or.inl (zmt (zt1 (i := 51) rfl) rfl)
theorem lk_RX6_38 : zLk RX6 38 TX6 7 := Or.inl (zmt (zt1 (i := 53) rfl) rfl)
theorem lk_RX6_45 : zLk RX6 45 TX6 4 := Or.inl (zmt (zt1 (i := 48) rfl) rfl)
theorem lk_RX9_9 : zLk RX9 9 TX9 2 := Or.inl (zmt (zt5 (i := 96) rfl) rfl)
theorem lk_RX9_13 : zLk RX9 13 TX9 5 := Or.inl (zmt (zt5 (i := 99) rfl) rfl)
theorem lk_RX9_17 : zLk RX9 17 TX9 15 := Or.inl (zmt (zt5 (i := 109) rfl) rfl)
theorem lk_RX9_21 : zLk RX9 21 TX9 16 := Or.inl (zmt (zt5 (i := 110) rfl) rfl)
theorem lk_RX9_24 : zLk RX9 24 TX9 17 := Or.inl (zmt (zt5 (i := 111) rfl) rfl)
theorem lk_RX9_27 : zLk RX9 27 TX9 18 := Or.inl (zmt (zt5 (i := 112) rfl) rfl)
theorem lk_RX9_30 : zLk RX9 30 TX9 21 := Or.inl (zmt (zt5 (i := 115) rfl) rfl)
theorem lk_RX9_33 : zLk RX9 33 TX9 22 := Or.inl (zmt (zt5 (i := 116) rfl) rfl)
theorem lk_RX9_36 : zLk RX9 36 TX9 0 := Or.inl (zmt (zt5 (i := 94) rfl) rfl)
theorem lk_RX9_39 : zLk RX9 39 TX9 1 := Or.inl (zmt (zt5 (i := 95) rfl) rfl)
theorem lk_RX9_53 : zLk RX9 53 TX9 7 := Or.inl (zmt (zt5 (i := 101) rfl) rfl)
theorem lk_RX9_68 : zLk RX9 68 TX9 9 := Or.inl (zmt (zt5 (i := 103) rfl) rfl)
theorem lk_RX9_71 : zLk RX9 71 TX9 8 := Or.inl (zmt (zt5 (i := 102) rfl) rfl)
theorem lk_RX9_77 : zLk RX9 77 TX9 10 := Or.inl (zmt (zt5 (i := 104) rfl) rfl)
theorem lk_RX9_84 : zLk RX9 84 TX9 14 := Or.inl (zmt (zt5 (i := 108) rfl) rfl)
theorem lk_RX9_91 : zLk RX9 91 TX9 11 := Or.inl (zmt (zt5 (i := 105) rfl) rfl)
theorem lk_RX9_94 : zLk RX9 94 TX9 12 := Or.inl (zmt (zt5 (i := 106) rfl) rfl)
theorem lk_RX9_97 : zLk RX9 97 TX9 13 := Or.inl (zmt (zt5 (i := 107) rfl) rfl)
theorem lk_RX9_144 : zLk RX9 144 TX9 4 := Or.inl (zmt (zt5 (i := 98) rfl) rfl)
theorem lk_RX9_148 : zLk RX9 148 TX8 0 := Or.inr ⟨"MirrorTubeModel", znt (zt5 (i := 199) rfl) rfl⟩
theorem lk_RX9_161 : zLk RX9 161 TX8 18 := Or.inr ⟨"MirrorTubeModel", znt (zt5 (i := 231) rfl) rfl⟩
theorem lk_RX9_165 : zLk RX9 165 TX8 7 := Or.inr ⟨"MirrorTubeModel", znt (zt5 (i := 209) rfl) rfl⟩
theorem lk_RX9_168 : zLk RX9 168 TX8 19 := Or.inr ⟨"MirrorTubeModel", znt (zt5 (i := 233) rfl) rfl⟩
theorem lk_RX9_171 : zLk RX9 171 TX8 20 := Or.inr ⟨"MirrorTubeModel", znt (zt5 (i := 235) rfl) rfl⟩
theorem lk_RX9_180 : zLk RX9 180 TX8 1 := Or.inr ⟨"MirrorTubeModel", znt (zt5 (i := 200) rfl) rfl⟩
theorem lk_RX9_233 : zLk RX9 233 TX8 8 := Or.inr ⟨"MirrorTubeModel", znt (zt5 (i := 211) rfl) rfl⟩
theorem lk_RX9_235 : zLk RX9 235 TX8 12 := Or.inr ⟨"MirrorTubeModel", znt (zt5 (i := 219) rfl) rfl⟩
theorem lk_RX9_238 : zLk RX9 238 TX8 9 := Or.inr ⟨"MirrorTubeModel", znt (zt5 (i := 213) rfl) rfl⟩
theorem lk_RX9_240 : zLk RX9 240 TX8 10 := Or.inr ⟨"MirrorTubeModel", znt (zt5 (i := 215) rfl) rfl⟩
theorem lk_RX9_242 : zLk RX9 242 TX8 11 := Or.inr ⟨"MirrorTubeModel", znt (zt5 (i := 217) rfl) rfl⟩
theorem lk_RX9_247 : zLk RX9 247 TX8 2 := Or.inr ⟨"MirrorTubeModel", znt (zt5 (i := 201) rfl) rfl⟩
theorem lk_RX9_250 : zLk RX9 250 TX8 3 := Or.inr ⟨"MirrorTubeModel", znt (zt5 (i := 202) rfl) rfl⟩
theorem lk_RX9_253 : zLk RX9 253 TX8 4 := Or.inr ⟨"MirrorTubeModel", znt (zt5 (i := 204) rfl) rfl⟩
theorem lk_RX9_258 : zLk RX9 258 TX8 13 := Or.inr ⟨"MirrorTubeModel", znt (zt5 (i := 221) rfl) rfl⟩
theorem lk_RX9_261 : zLk RX9 261 TX8 17 := Or.inr ⟨"MirrorTubeModel", znt (zt5 (i := 229) rfl) rfl⟩
theorem lk_RX9_264 : zLk RX9 264 TX8 5 := Or.inr ⟨"MirrorTubeModel", znt (zt5 (i := 206) rfl) rfl⟩
theorem lk_RX9_270 : zLk RX9 270 TX8 14 := Or.inr ⟨"MirrorTubeModel", znt (zt5 (i := 223) rfl) rfl⟩
theorem lk_RX9_272 : zLk RX9 272 TX8 6 := Or.inr ⟨"MirrorTubeModel", znt (zt5 (i := 207) rfl) rfl⟩
theorem lk_RX9_276 : zLk RX9 276 TX8 15 := Or.inr ⟨"MirrorTubeModel", znt (zt5 (i := 225) rfl) rfl⟩
theorem lk_RX9_279 : zLk RX9 279 TX8 16 := Or.inr ⟨"MirrorTubeModel", znt (zt5 (i := 227) rfl) rfl⟩
theorem lk_RX9_282 : zLk RX9 282 TX9 6 := Or.inl (zmt (zt5 (i := 100) rfl) rfl)
theorem lk_RX9_289 : zLk RX9 289 TX9 3 := Or.inl (zmt (zt5 (i := 97) rfl) rfl)
theorem lk_RX9_294 : zLk RX9 294 TX9 19 := Or.inl (zmt (zt5 (i := 113) rfl) rfl)
theorem lk_RX9_297 : zLk RX9 297 TX9 20 := Or.inl (zmt (zt5 (i := 114) rfl) rfl)
theorem lk_RX9_383 : zLk RX9 383 TX9 23 := Or.inl (zmt (zt5 (i := 117) rfl) rfl)
theorem lk_RX9_401 : zLk RX9 401 TX9 24 := Or.inl (zmt (zt5 (i := 118) rfl) rfl)
theorem lk_RX9_467 : zLk RX9 467 TX9 25 := Or.inl (zmt (zt5 (i := 119) rfl) rfl)
theorem lk_RX9_470 : zLk RX9 470 TX9 26 := Or.inl (zmt (zt5 (i := 120) rfl) rfl)
theorem lk_RX8_9 : zLk RX8 9 TX8 0 := Or.inl (zmt (zt5 (i := 198) rfl) rfl)
theorem lk_RX8_15 : zLk RX8 15 TX8 8 := Or.inl (zmt (zt5 (i := 210) rfl) rfl)
theorem lk_RX8_19 : zLk RX8 19 TX8 9 := Or.inl (zmt (zt5 (i := 212) rfl) rfl)
theorem lk_RX8_22 : zLk RX8 22 TX8 10 := Or.inl (zmt (zt5 (i := 214) rfl) rfl)
theorem lk_RX8_25 : zLk RX8 25 TX8 11 := Or.inl (zmt (zt5 (i := 216) rfl) rfl)
theorem lk_RX8_28 : zLk RX8 28 TX8 12 := Or.inl (zmt (zt5 (i := 218) rfl) rfl)
theorem lk_RX8_32 : zLk RX8 32 TX8 13 := Or.inl (zmt (zt5 (i := 220) rfl) rfl)
theorem lk_RX8_35 : zLk RX8 35 TX8 14 := Or.inl (zmt (zt5 (i := 222) rfl) rfl)
theorem lk_RX8_38 : zLk RX8 38 TX8 15 := Or.inl (zmt (zt5 (i := 224) rfl) rfl)
theorem lk_RX8_41 : zLk RX8 41 TX8 16 := Or.inl (zmt (zt5 (i := 226) rfl) rfl)
theorem lk_RX8_44 : zLk RX8 44 TX8 17 := Or.inl (zmt (zt5 (i := 228) rfl) rfl)
theorem lk_RX8_47 : zLk RX8 47 TX8 18 := Or.inl (zmt (zt5 (i := 230) rfl) rfl)
theorem lk_RX8_50 : zLk RX8 50 TX8 19 := Or.inl (zmt (zt5 (i := 232) rfl) rfl)
theorem lk_RX8_53 : zLk RX8 53 TX8 20 := Or.inl (zmt (zt5 (i := 234) rfl) rfl)
theorem lk_RX8_56 : zLk RX8 56 TX8 7 := Or.inl (zmt (zt5 (i := 208) rfl) rfl)
theorem lk_RX8_59 : zLk RX8 59 TX8 5 := Or.inl (zmt (zt5 (i := 205) rfl) rfl)
theorem lk_RX8_62 : zLk RX8 62 TX8 4 := Or.inl (zmt (zt5 (i := 203) rfl) rfl)
theorem ml_RX7_9 : zMl RX7 9 yX2_init := Or.inr ⟨"MirrorTube", znt (zt1 (i := 32) rfl) rfl⟩
theorem ml_RX7_18 : zMl RX7 18 yX4_init := Or.inr ⟨"MirrorTube", znt (zt1 (i := 178) rfl) rfl⟩
theorem ml_RX7_25 : zMl RX7 25 yX0_init := Or.inr ⟨"MirrorTube", znt (zt1 (i := 195) rfl) rfl⟩
theorem ml_RX7_32 : zMl RX7 32 yX3_init := Or.inl (zmt (zt1 (i := 221) rfl) rfl)
theorem ml_RX7_39 : zMl RX7 39 yX5_init := Or.inr ⟨"MirrorTube", znt (zt2 (i := 5) rfl) rfl⟩
theorem ml_RX7_54 : zMl RX7 54 yX6_put := Or.inl (zmt (zt2 (i := 47) rfl) rfl)
theorem ml_RX7_58 : zMl RX7 58 yX7_refuse := Or.inl (zmt (zt2 (i := 55) rfl) rfl)
theorem ml_RX7_62 : zMl RX7 62 yX2_reads := Or.inl (zmt (zt2 (i := 59) rfl) rfl)
theorem ml_RX7_70 : zMl RX7 70 yX4_begin := Or.inl (zmt (zt2 (i := 198) rfl) rfl)
theorem ml_RX7_74 : zMl RX7 74 yX0_forget := Or.inl (zmt (zt2 (i := 202) rfl) rfl)
theorem ml_RX7_85 : zMl RX7 85 yX7_answer := Or.inl (zmt (zt2 (i := 206) rfl) rfl)
theorem ml_RX7_97 : zMl RX7 97 yX7_isBit := Or.inl (zmt (zt2 (i := 222) rfl) rfl)
theorem ml_RX7_107 : zMl RX7 107 yX4_cellBehind := Or.inl (zmt (zt2 (i := 226) rfl) rfl)
theorem ml_RX7_111 : zMl RX7 111 yX4_isTop := Or.inl (zmt (zt2 (i := 235) rfl) rfl)
theorem ml_RX7_115 : zMl RX7 115 yX1_weight := Or.inl (zmt (zt3 (i := 4) rfl) rfl)
theorem ml_RX7_124 : zMl RX7 124 yX7_noTube := Or.inl (zmt (zt3 (i := 12) rfl) rfl)
theorem ml_RX7_128 : zMl RX7 128 yX7_isCell := Or.inl (zmt (zt3 (i := 16) rfl) rfl)
theorem ml_RX7_131 : zMl RX7 131 yX4_topIn := Or.inl (zmt (zt3 (i := 19) rfl) rfl)
theorem ml_RX7_134 : zMl RX7 134 yX4_bitsIn := Or.inl (zmt (zt3 (i := 24) rfl) rfl)
theorem ml_RX7_137 : zMl RX7 137 yX7_isCountry := Or.inl (zmt (zt3 (i := 35) rfl) rfl)
theorem ml_RX7_140 : zMl RX7 140 yX4_shownAt := Or.inl (zmt (zt3 (i := 38) rfl) rfl)
theorem ml_RX7_144 : zMl RX7 144 yX7_mirroredCell := Or.inl (zmt (zt3 (i := 50) rfl) rfl)
theorem ml_RX7_147 : zMl RX7 147 yX4_bitsUnder := Or.inl (zmt (zt3 (i := 57) rfl) rfl)
theorem ml_RX7_151 : zMl RX7 151 yX7_isTurn := Or.inl (zmt (zt3 (i := 70) rfl) rfl)
theorem ml_RX7_154 : zMl RX7 154 yX7_half := Or.inl (zmt (zt3 (i := 73) rfl) rfl)
theorem ml_RX7_157 : zMl RX7 157 yX4_topCount := Or.inl (zmt (zt3 (i := 78) rfl) rfl)
theorem ml_RX7_160 : zMl RX7 160 yX1_firstTwins := Or.inl (zmt (zt3 (i := 96) rfl) rfl)
theorem ml_RX7_163 : zMl RX7 163 yX4_rightBits := Or.inl (zmt (zt3 (i := 108) rfl) rfl)
theorem ml_RX7_166 : zMl RX7 166 yX7_aimAt := Or.inl (zmt (zt3 (i := 116) rfl) rfl)
theorem ml_RX7_169 : zMl RX7 169 yX3_fewestTurns := Or.inl (zmt (zt3 (i := 141) rfl) rfl)
theorem ml_RX7_172 : zMl RX7 172 yX3_rowAt := Or.inl (zmt (zt3 (i := 153) rfl) rfl)
theorem ml_RX7_175 : zMl RX7 175 yJ6_bitCount_0f7a4 := Or.inl (zmt (zt3 (i := 161) rfl) rfl)
theorem ml_RX7_180 : zMl RX7 180 yX4_canLie := Or.inl (zmt (zt3 (i := 166) rfl) rfl)
theorem ml_RX7_184 : zMl RX7 184 yX7_isMadeLength := Or.inl (zmt (zt3 (i := 174) rfl) rfl)
theorem ml_RX7_187 : zMl RX7 187 yX3_rowsToGoal := Or.inl (zmt (zt3 (i := 177) rfl) rfl)
theorem ml_RX7_190 : zMl RX7 190 yX7_asBit := Or.inl (zmt (zt3 (i := 194) rfl) rfl)
theorem ml_RX7_193 : zMl RX7 193 yX4_countriesMet := Or.inl (zmt (zt3 (i := 203) rfl) rfl)
theorem ml_RX7_196 : zMl RX7 196 yJ6_numberOfTrailingZeros_0f7a4 := Or.inl (zmt (zt3 (i := 219) rfl) rfl)
theorem ml_RX7_199 : zMl RX7 199 yX4_bestLook := Or.inl (zmt (zt3 (i := 227) rfl) rfl)
theorem ml_RX7_202 : zMl RX7 202 yX4_mostLeft := Or.inl (zmt (zt4 (i := 6) rfl) rfl)
theorem ml_RX7_205 : zMl RX7 205 yX4_firstNotMet := Or.inl (zmt (zt4 (i := 11) rfl) rfl)
theorem ml_RX7_208 : zMl RX7 208 yX7_areRolls := Or.inl (zmt (zt4 (i := 16) rfl) rfl)
theorem ml_RX7_211 : zMl RX7 211 yX7_oddsPart := Or.inl (zmt (zt4 (i := 19) rfl) rfl)
theorem ml_RX7_215 : zMl RX7 215 yX4_fewestWatchers := Or.inl (zmt (zt4 (i := 41) rfl) rfl)
theorem ml_RX7_218 : zMl RX7 218 yX7_isPerson := Or.inl (zmt (zt4 (i := 53) rfl) rfl)
theorem ml_RX7_221 : zMl RX7 221 yX4_spotOf := Or.inl (zmt (zt4 (i := 57) rfl) rfl)
theorem ml_RX7_224 : zMl RX7 224 yX7_countryAt := Or.inl (zmt (zt4 (i := 61) rfl) rfl)
theorem ml_RX7_227 : zMl RX7 227 yX7_cellAt := Or.inl (zmt (zt4 (i := 64) rfl) rfl)
theorem ml_RX7_230 : zMl RX7 230 yX4_stepsOf := Or.inl (zmt (zt4 (i := 67) rfl) rfl)
theorem ml_RX7_233 : zMl RX7 233 yX7_spotAt := Or.inl (zmt (zt4 (i := 75) rfl) rfl)
theorem ml_RX7_236 : zMl RX7 236 yX4_wayLength := Or.inl (zmt (zt4 (i := 76) rfl) rfl)
theorem ml_RX7_239 : zMl RX7 239 yX4_goesUp := Or.inl (zmt (zt4 (i := 99) rfl) rfl)
theorem ml_RX7_242 : zMl RX7 242 yX4_nearestLength := Or.inl (zmt (zt4 (i := 107) rfl) rfl)
theorem ml_RX7_245 : zMl RX7 245 yX4_farthestCountry := Or.inl (zmt (zt4 (i := 118) rfl) rfl)
theorem ml_RX7_248 : zMl RX7 248 yX4_stepInto := Or.inl (zmt (zt4 (i := 126) rfl) rfl)
theorem ml_RX7_251 : zMl RX7 251 yX7_isHandTurn := Or.inl (zmt (zt4 (i := 131) rfl) rfl)
theorem ml_RX7_254 : zMl RX7 254 yX7_shareOf := Or.inl (zmt (zt4 (i := 134) rfl) rfl)
theorem ml_RX7_258 : zMl RX7 258 yX7_isRest := Or.inl (zmt (zt4 (i := 145) rfl) rfl)
theorem ml_RX7_261 : zMl RX7 261 yX7_areShakes := Or.inl (zmt (zt4 (i := 157) rfl) rfl)
theorem ml_RX7_264 : zMl RX7 264 yX4_day := Or.inl (zmt (zt4 (i := 161) rfl) rfl)
theorem ml_RX7_267 : zMl RX7 267 yX5_begin := Or.inl (zmt (zt4 (i := 165) rfl) rfl)
theorem ml_RX7_270 : zMl RX7 270 yX5_passDay := Or.inl (zmt (zt4 (i := 169) rfl) rfl)
theorem ml_RX7_280 : zMl RX7 280 yX4_allRight := Or.inl (zmt (zt3 (i := 124) rfl) rfl)
theorem ml_RX7_283 : zMl RX7 283 yX1_isHoliday := Or.inl (zmt (zt4 (i := 188) rfl) rfl)
theorem ml_RX7_289 : zMl RX7 289 yX0_keepAct := Or.inl (zmt (zt4 (i := 189) rfl) rfl)
theorem ml_RX7_293 : zMl RX7 293 yX4_turnAll := Or.inl (zmt (zt4 (i := 197) rfl) rfl)
theorem ml_RX7_296 : zMl RX7 296 yX4_stepPerson := Or.inl (zmt (zt4 (i := 206) rfl) rfl)
theorem ml_RX7_300 : zMl RX7 300 yX4_passDays := Or.inl (zmt (zt4 (i := 215) rfl) rfl)
theorem ml_RX7_303 : zMl RX7 303 yX0_undoInto := Or.inl (zmt (zt4 (i := 223) rfl) rfl)
theorem ml_RX7_307 : zMl RX7 307 yX7_told := Or.inl (zmt (zt4 (i := 227) rfl) rfl)
theorem ml_RX7_311 : zMl RX7 311 yX0_keepImage := Or.inl (zmt (zt4 (i := 235) rfl) rfl)
theorem ml_RX7_315 : zMl RX7 315 yX0_backInto := Or.inl (zmt (zt5 (i := 3) rfl) rfl)
theorem ml_RX7_325 : zMl RX7 325 yX1_cellsTold := Or.inl (zmt (zt5 (i := 11) rfl) rfl)
theorem ml_RX7_344 : zMl RX7 344 yX7_isAt := Or.inl (zmt (zt3 (i := 120) rfl) rfl)
theorem ml_RX7_347 : zMl RX7 347 yX3_aim := Or.inl (zmt (zt3 (i := 137) rfl) rfl)
theorem ml_RX7_351 : zMl RX7 351 yX1_allAfter := Or.inl (zmt (zt3 (i := 128) rfl) rfl)
theorem ml_RX7_354 : zMl RX7 354 yX1_movesNone := Or.inl (zmt (zt3 (i := 133) rfl) rfl)
theorem ml_RX7_357 : zMl RX7 357 yJ9_abs_0f7a4 := Or.inl (zmt (zt4 (i := 138) rfl) rfl)
theorem ml_RX7_362 : zMl RX7 362 yX7_choices := Or.inl (zmt (zt4 (i := 23) rfl) rfl)
theorem ml_RX7_366 : zMl RX7 366 yX7_power := Or.inl (zmt (zt4 (i := 26) rfl) rfl)
theorem ml_RX7_372 : zMl RX7 372 yX7_commonDivisor := Or.inl (zmt (zt4 (i := 30) rfl) rfl)
theorem ml_RX7_376 : zMl RX7 376 yX7_runsUpwards := Or.inl (zmt (zt2 (i := 191) rfl) rfl)
theorem ml_RX7_379 : zMl RX7 379 yJ9_floorMod_7cf53 := Or.inl (zmt (zt3 (i := 45) rfl) rfl)
theorem ml_RX0_37 : zMl RX0 37 yJ9_min_7cf53 := Or.inl (zmt (zt4 (i := 196) rfl) rfl)
theorem ml_RX1_62 : zMl RX1 62 yX1_bitNamed := Or.inl (zmt (zt2 (i := 129) rfl) rfl)
theorem ml_RX1_66 : zMl RX1 66 yJ9_floorMod_7cf53 := Or.inl (zmt (zt2 (i := 234) rfl) rfl)
theorem ml_RX1_72 : zMl RX1 72 yX1_cellMoved := Or.inl (zmt (zt3 (i := 132) rfl) rfl)
theorem ml_RX2_11 : zMl RX2 11 yX6_init := Or.inr ⟨"MirrorTube", znt (zt1 (i := 38) rfl) rfl⟩
theorem ml_RX2_20 : zMl RX2 20 yX1_init := Or.inr ⟨"MirrorTube", znt (zt1 (i := 75) rfl) rfl⟩
theorem ml_RX2_25 : zMl RX2 25 yX6_startOver := Or.inl (zmt (zt2 (i := 63) rfl) rfl)
theorem ml_RX2_29 : zMl RX2 29 yX1_clear := Or.inl (zmt (zt2 (i := 70) rfl) rfl)
theorem ml_RX2_40 : zMl RX2 40 yX2_readsLine := Or.inl (zmt (zt2 (i := 74) rfl) rfl)
theorem ml_RX2_44 : zMl RX2 44 yX6_next := Or.inl (zmt (zt2 (i := 78) rfl) rfl)
theorem ml_RX2_53 : zMl RX2 53 yX2_fails := Or.inl (zmt (zt2 (i := 100) rfl) rfl)
theorem ml_RX2_63 : zMl RX2 63 yX2_startsLine := Or.inl (zmt (zt2 (i := 85) rfl) rfl)
theorem ml_RX2_68 : zMl RX2 68 yX6_isWord := Or.inl (zmt (zt2 (i := 90) rfl) rfl)
theorem ml_RX2_72 : zMl RX2 72 yX2_readsTube := Or.inl (zmt (zt2 (i := 104) rfl) rfl)
theorem ml_RX2_77 : zMl RX2 77 yX2_readsBit := Or.inl (zmt (zt2 (i := 117) rfl) rfl)
theorem ml_RX2_86 : zMl RX2 86 yX2_readsCellOfBit := Or.inl (zmt (zt2 (i := 150) rfl) rfl)
theorem ml_RX2_97 : zMl RX2 97 yX2_readsMet := Or.inl (zmt (zt2 (i := 159) rfl) rfl)
theorem ml_RX2_102 : zMl RX2 102 yX2_readsHoliday := Or.inl (zmt (zt2 (i := 171) rfl) rfl)
theorem ml_RX2_105 : zMl RX2 105 yX2_readsPerson := Or.inl (zmt (zt2 (i := 183) rfl) rfl)
theorem ml_RX2_112 : zMl RX2 112 yX2_readsWord := Or.inl (zmt (zt2 (i := 109) rfl) rfl)
theorem ml_RX2_115 : zMl RX2 115 yX2_readsWhole := Or.inl (zmt (zt2 (i := 113) rfl) rfl)
theorem ml_RX2_124 : zMl RX2 124 yX2_readsNewName := Or.inl (zmt (zt2 (i := 121) rfl) rfl)
theorem ml_RX2_131 : zMl RX2 131 yX2_sortTold := Or.inl (zmt (zt2 (i := 133) rfl) rfl)
theorem ml_RX2_135 : zMl RX2 135 yX2_readsAnyWord := Or.inl (zmt (zt2 (i := 141) rfl) rfl)
theorem ml_RX2_140 : zMl RX2 140 yX1_addBit := Or.inl (zmt (zt2 (i := 146) rfl) rfl)
theorem ml_RX2_152 : zMl RX2 152 yX2_readsOldBit := Or.inl (zmt (zt2 (i := 154) rfl) rfl)
theorem ml_RX2_159 : zMl RX2 159 yX1_hasMet := Or.inl (zmt (zt2 (i := 163) rfl) rfl)
theorem ml_RX2_162 : zMl RX2 162 yX1_addMet := Or.inl (zmt (zt2 (i := 167) rfl) rfl)
theorem ml_RX2_169 : zMl RX2 169 yX1_isHoliday := Or.inl (zmt (zt2 (i := 175) rfl) rfl)
theorem ml_RX2_172 : zMl RX2 172 yX1_addHoliday := Or.inl (zmt (zt2 (i := 179) rfl) rfl)
theorem ml_RX2_180 : zMl RX2 180 yX7_spotAt := Or.inr ⟨"MirrorTube", znt (zt2 (i := 188) rfl) rfl⟩
theorem ml_RX2_184 : zMl RX2 184 yX1_addPerson := Or.inl (zmt (zt2 (i := 194) rfl) rfl)
theorem ml_RX2_188 : zMl RX2 188 yX1_isNamed := Or.inl (zmt (zt2 (i := 125) rfl) rfl)
theorem ml_RX2_191 : zMl RX2 191 yX1_bitNamed := Or.inl (zmt (zt2 (i := 158) rfl) rfl)
theorem ml_RX3_20 : zMl RX3 20 yX7_half := Or.inr ⟨"MirrorTube", znt (zt1 (i := 226) rfl) rfl⟩
theorem ml_RX3_24 : zMl RX3 24 yX3_shiftOf := Or.inl (zmt (zt1 (i := 229) rfl) rfl)
theorem ml_RX3_28 : zMl RX3 28 yJ9_floorMod_7cf53 := Or.inl (zmt (zt1 (i := 232) rfl) rfl)
theorem ml_RX3_33 : zMl RX3 33 yX3_rowsToGoal := Or.inl (zmt (zt3 (i := 145) rfl) rfl)
theorem ml_RX4_13 : zMl RX4 13 yX1_init := Or.inr ⟨"MirrorTube", znt (zt1 (i := 183) rfl) rfl⟩
theorem ml_RX4_35 : zMl RX4 35 yX7_half := Or.inr ⟨"MirrorTube", znt (zt4 (i := 201) rfl) rfl⟩
theorem ml_RX4_39 : zMl RX4 39 yX4_cellBehind := Or.inl (zmt (zt2 (i := 239) rfl) rfl)
theorem ml_RX4_43 : zMl RX4 43 yX4_spotOf := Or.inl (zmt (zt4 (i := 210) rfl) rfl)
theorem ml_RX4_46 : zMl RX4 46 yX7_spotBeside := Or.inr ⟨"MirrorTube", znt (zt4 (i := 84) rfl) rfl⟩
theorem ml_RX4_50 : zMl RX4 50 yX4_stepInto := Or.inl (zmt (zt4 (i := 87) rfl) rfl)
theorem ml_RX4_53 : zMl RX4 53 yX1_cellMoved := Or.inl (zmt (zt2 (i := 230) rfl) rfl)
theorem ml_RX4_60 : zMl RX4 60 yX4_topIn := Or.inl (zmt (zt3 (i := 0) rfl) rfl)
theorem ml_RX4_63 : zMl RX4 63 yX4_heldCells := Or.inl (zmt (zt3 (i := 82) rfl) rfl)
theorem ml_RX4_67 : zMl RX4 67 yJ6_bitCount_0f7a4 := Or.inl (zmt (zt3 (i := 86) rfl) rfl)
theorem ml_RX4_72 : zMl RX4 72 yX7_asBit := Or.inr ⟨"MirrorTube", znt (zt3 (i := 28) rfl) rfl⟩
theorem ml_RX4_75 : zMl RX4 75 yX4_isTop := Or.inl (zmt (zt3 (i := 61) rfl) rfl)
theorem ml_RX4_82 : zMl RX4 82 yX7_tubeCell := Or.inr ⟨"MirrorTube", znt (zt3 (i := 42) rfl) rfl⟩
theorem ml_RX4_95 : zMl RX4 95 yX4_colourAt := Or.inl (zmt (zt3 (i := 211) rfl) rfl)
theorem ml_RX4_102 : zMl RX4 102 yX4_firstNotMet := Or.inl (zmt (zt3 (i := 207) rfl) rfl)
theorem ml_RX4_105 : zMl RX4 105 yX4_mostLeft := Or.inl (zmt (zt3 (i := 231) rfl) rfl)
theorem ml_RX4_108 : zMl RX4 108 yX4_lookingLike := Or.inl (zmt (zt3 (i := 235) rfl) rfl)
theorem ml_RX4_112 : zMl RX4 112 yJ9_max_7cf53 := Or.inl (zmt (zt3 (i := 239) rfl) rfl)
theorem ml_RX4_117 : zMl RX4 117 yX4_widened := Or.inl (zmt (zt4 (i := 45) rfl) rfl)
theorem ml_RX4_120 : zMl RX4 120 yX7_countryAt := Or.inr ⟨"MirrorTube", znt (zt4 (i := 91) rfl) rfl⟩
theorem ml_RX4_123 : zMl RX4 123 yX7_cellAt := Or.inr ⟨"MirrorTube", znt (zt4 (i := 92) rfl) rfl⟩
theorem ml_RX4_126 : zMl RX4 126 yX1_weight := Or.inl (zmt (zt4 (i := 93) rfl) rfl)
theorem ml_RX4_129 : zMl RX4 129 yX4_lengthTo := Or.inl (zmt (zt4 (i := 80) rfl) rfl)
theorem ml_RX4_133 : zMl RX4 133 yJ9_min_7cf53 := Or.inl (zmt (zt4 (i := 94) rfl) rfl)
theorem ml_RX4_136 : zMl RX4 136 yX7_mirroredCell := Or.inr ⟨"MirrorTube", znt (zt4 (i := 111) rfl) rfl⟩
theorem ml_RX4_139 : zMl RX4 139 yX7_spotAt := Or.inr ⟨"MirrorTube", znt (zt4 (i := 112) rfl) rfl⟩
theorem ml_RX4_142 : zMl RX4 142 yX4_wayLength := Or.inl (zmt (zt4 (i := 113) rfl) rfl)
theorem ml_RX5_24 : zMl RX5 24 yX1_isHoliday := Or.inl (zmt (zt4 (i := 173) rfl) rfl)
theorem ml_RX5_31 : zMl RX5 31 yX7_half := Or.inr ⟨"MirrorTube", znt (zt4 (i := 175) rfl) rfl⟩
theorem ml_RX6_19 : zMl RX6 19 yJ9_min_7cf53 := Or.inl (zmt (zt2 (i := 67) rfl) rfl)
theorem ml_RX6_41 : zMl RX6 41 yX6_kindOf := Or.inl (zmt (zt2 (i := 82) rfl) rfl)
theorem ml_RX9_42 : zMl RX9 42 yX9_refused := Or.inl (zmt (zt5 (i := 188) rfl) rfl)
theorem ml_RX9_46 : zMl RX9 46 yX9_good := Or.inl (zmt (zt6 (i := 225) rfl) rfl)
theorem ml_RX9_49 : zMl RX9 49 yX9_common := Or.inl (zmt (zt8 (i := 3) rfl) rfl)
theorem ml_RX9_74 : zMl RX9 74 yX9_byteAt := Or.inl (zmt (zt6 (i := 43) rfl) rfl)
theorem ml_RX9_80 : zMl RX9 80 yX9_isLetter := Or.inl (zmt (zt6 (i := 47) rfl) rfl)
theorem ml_RX9_88 : zMl RX9 88 yX9_isDigit := Or.inl (zmt (zt6 (i := 51) rfl) rfl)
theorem ml_RX9_100 : zMl RX9 100 yX9_packed := Or.inl (zmt (zt6 (i := 67) rfl) rfl)
theorem ml_RX9_104 : zMl RX9 104 yX9_goesOn := Or.inl (zmt (zt6 (i := 39) rfl) rfl)
theorem ml_RX9_107 : zMl RX9 107 yX9_isWord := Or.inl (zmt (zt6 (i := 63) rfl) rfl)
theorem ml_RX9_111 : zMl RX9 111 yX9_flaw := Or.inl (zmt (zt6 (i := 122) rfl) rfl)
theorem ml_RX9_115 : zMl RX9 115 yX9_in := Or.inl (zmt (zt6 (i := 143) rfl) rfl)
theorem ml_RX9_119 : zMl RX9 119 yX9_bounded := Or.inl (zmt (zt6 (i := 139) rfl) rfl)
theorem ml_RX9_123 : zMl RX9 123 yX9_needs := Or.inl (zmt (zt6 (i := 131) rfl) rfl)
theorem ml_RX9_127 : zMl RX9 127 yX9_readWhole := Or.inl (zmt (zt6 (i := 135) rfl) rfl)
theorem ml_RX9_153 : zMl RX9 153 yX9_isName := Or.inl (zmt (zt6 (i := 159) rfl) rfl)
theorem ml_RX9_157 : zMl RX9 157 yX8_find := Or.inl (zmt (zt6 (i := 168) rfl) rfl)
theorem ml_RX9_174 : zMl RX9 174 yX9_readLine := Or.inl (zmt (zt6 (i := 58) rfl) rfl)
theorem ml_RX9_177 : zMl RX9 177 yX9_eatsSemicolon := Or.inl (zmt (zt6 (i := 218) rfl) rfl)
theorem ml_RX9_183 : zMl RX9 183 yX9_readTube := Or.inl (zmt (zt6 (i := 118) rfl) rfl)
theorem ml_RX9_186 : zMl RX9 186 yX9_readBit := Or.inl (zmt (zt6 (i := 147) rfl) rfl)
theorem ml_RX9_189 : zMl RX9 189 yX9_readWant := Or.inl (zmt (zt6 (i := 185) rfl) rfl)
theorem ml_RX9_192 : zMl RX9 192 yX9_readAfter := Or.inl (zmt (zt6 (i := 193) rfl) rfl)
theorem ml_RX9_195 : zMl RX9 195 yX9_readMet := Or.inl (zmt (zt6 (i := 197) rfl) rfl)
theorem ml_RX9_198 : zMl RX9 198 yX9_readHoliday := Or.inl (zmt (zt6 (i := 205) rfl) rfl)
theorem ml_RX9_201 : zMl RX9 201 yX9_readPerson := Or.inl (zmt (zt6 (i := 213) rfl) rfl)
theorem ml_RX9_205 : zMl RX9 205 yX9_readPart := Or.inl (zmt (zt6 (i := 127) rfl) rfl)
theorem ml_RX9_209 : zMl RX9 209 yX9_lineBegins := Or.inl (zmt (zt6 (i := 151) rfl) rfl)
theorem ml_RX9_213 : zMl RX9 213 yX9_readFresh := Or.inl (zmt (zt6 (i := 155) rfl) rfl)
theorem ml_RX9_225 : zMl RX9 225 yX9_readWord := Or.inl (zmt (zt6 (i := 176) rfl) rfl)
theorem ml_RX9_230 : zMl RX9 230 yX9_names := Or.inl (zmt (zt6 (i := 181) rfl) rfl)
theorem ml_RX9_244 : zMl RX9 244 yX9_knownBit := Or.inl (zmt (zt6 (i := 189) rfl) rfl)
theorem ml_RX9_255 : zMl RX9 255 yX8_isMet := Or.inl (zmt (zt6 (i := 201) rfl) rfl)
theorem ml_RX9_267 : zMl RX9 267 yX8_isHoliday := Or.inl (zmt (zt6 (i := 209) rfl) rfl)
theorem ml_RX9_285 : zMl RX9 285 yX8_init := Or.inr ⟨"MirrorTubeModel", znt (zt5 (i := 194) rfl) rfl⟩
theorem ml_RX9_286 : zMl RX9 286 yX9_readAll := Or.inl (zmt (zt6 (i := 54) rfl) rfl)
theorem ml_RX9_291 : zMl RX9 291 yX9_placeOf := Or.inl (zmt (zt6 (i := 222) rfl) rfl)
theorem ml_RX9_300 : zMl RX9 300 yX8_goesBy := Or.inl (zmt (zt7 (i := 62) rfl) rfl)
theorem ml_RX9_303 : zMl RX9 303 yX9_round := Or.inl (zmt (zt7 (i := 35) rfl) rfl)
theorem ml_RX9_306 : zMl RX9 306 yX9_topIn := Or.inl (zmt (zt7 (i := 5) rfl) rfl)
theorem ml_RX9_310 : zMl RX9 310 yX9_countryOf := Or.inl (zmt (zt8 (i := 29) rfl) rfl)
theorem ml_RX9_313 : zMl RX9 313 yX9_shown := Or.inl (zmt (zt7 (i := 32) rfl) rfl)
theorem ml_RX9_316 : zMl RX9 316 yX9_cellOf := Or.inl (zmt (zt8 (i := 32) rfl) rfl)
theorem ml_RX9_319 : zMl RX9 319 yX9_seenIn := Or.inl (zmt (zt7 (i := 28) rfl) rfl)
theorem ml_RX9_322 : zMl RX9 322 yX9_isBit := Or.inl (zmt (zt7 (i := 1) rfl) rfl)
theorem ml_RX9_325 : zMl RX9 325 yX9_refusesCell := Or.inl (zmt (zt7 (i := 13) rfl) rfl)
theorem ml_RX9_328 : zMl RX9 328 yX9_isPlace := Or.inl (zmt (zt7 (i := 25) rfl) rfl)
theorem ml_RX9_332 : zMl RX9 332 yX9_topsIn := Or.inl (zmt (zt7 (i := 46) rfl) rfl)
theorem ml_RX9_336 : zMl RX9 336 yX9_tries := Or.inl (zmt (zt7 (i := 54) rfl) rfl)
theorem ml_RX9_339 : zMl RX9 339 yX9_turns := Or.inl (zmt (zt7 (i := 58) rfl) rfl)
theorem ml_RX9_343 : zMl RX9 343 yX9_refusesClicks := Or.inl (zmt (zt7 (i := 70) rfl) rfl)
theorem ml_RX9_347 : zMl RX9 347 yX9_bits := Or.inl (zmt (zt7 (i := 82) rfl) rfl)
theorem ml_RX9_349 : zMl RX9 349 yX9_topsBy := Or.inl (zmt (zt7 (i := 78) rfl) rfl)
theorem ml_RX9_352 : zMl RX9 352 yX9_clicksOf := Or.inl (zmt (zt7 (i := 117) rfl) rfl)
theorem ml_RX9_355 : zMl RX9 355 yX9_rightIn := Or.inl (zmt (zt7 (i := 97) rfl) rfl)
theorem ml_RX9_358 : zMl RX9 358 yX9_firstRow := Or.inl (zmt (zt7 (i := 109) rfl) rfl)
theorem ml_RX9_361 : zMl RX9 361 yX9_turnsRow := Or.inl (zmt (zt7 (i := 113) rfl) rfl)
theorem ml_RX9_364 : zMl RX9 364 yX9_isAllRight := Or.inl (zmt (zt7 (i := 120) rfl) rfl)
theorem ml_RX9_368 : zMl RX9 368 yX9_nextRow := Or.inl (zmt (zt7 (i := 124) rfl) rfl)
theorem ml_RX9_371 : zMl RX9 371 yX9_toWant := Or.inl (zmt (zt7 (i := 105) rfl) rfl)
theorem ml_RX9_374 : zMl RX9 374 yX9_has := Or.inl (zmt (zt7 (i := 140) rfl) rfl)
theorem ml_RX9_377 : zMl RX9 377 yX9_isMade := Or.inl (zmt (zt7 (i := 155) rfl) rfl)
theorem ml_RX9_380 : zMl RX9 380 yX9_codes := Or.inl (zmt (zt7 (i := 159) rfl) rfl)
theorem ml_RX9_386 : zMl RX9 386 yX9_refusesMade := Or.inl (zmt (zt7 (i := 147) rfl) rfl)
theorem ml_RX9_389 : zMl RX9 389 yX9_countsMade := Or.inl (zmt (zt7 (i := 151) rfl) rfl)
theorem ml_RX9_392 : zMl RX9 392 yX9_wrongMet := Or.inl (zmt (zt7 (i := 191) rfl) rfl)
theorem ml_RX9_395 : zMl RX9 395 yX9_fitting := Or.inl (zmt (zt7 (i := 187) rfl) rfl)
theorem ml_RX9_398 : zMl RX9 398 yX9_looksAlike := Or.inl (zmt (zt7 (i := 211) rfl) rfl)
theorem ml_RX9_404 : zMl RX9 404 yX9_leaves := Or.inl (zmt (zt7 (i := 207) rfl) rfl)
theorem ml_RX9_407 : zMl RX9 407 yX9_looks := Or.inl (zmt (zt7 (i := 203) rfl) rfl)
theorem ml_RX9_410 : zMl RX9 410 yX9_power := Or.inl (zmt (zt7 (i := 235) rfl) rfl)
theorem ml_RX9_416 : zMl RX9 416 yX9_refusesRolls := Or.inl (zmt (zt7 (i := 227) rfl) rfl)
theorem ml_RX9_419 : zMl RX9 419 yX9_rollsOf := Or.inl (zmt (zt7 (i := 231) rfl) rfl)
theorem ml_RX9_423 : zMl RX9 423 yX9_fraction := Or.inl (zmt (zt7 (i := 239) rfl) rfl)
theorem ml_RX9_427 : zMl RX9 427 yX9_apart := Or.inl (zmt (zt8 (i := 18) rfl) rfl)
theorem ml_RX9_430 : zMl RX9 430 yX9_isWatched := Or.inl (zmt (zt8 (i := 14) rfl) rfl)
theorem ml_RX9_433 : zMl RX9 433 yX9_isPerson := Or.inl (zmt (zt8 (i := 25) rfl) rfl)
theorem ml_RX9_436 : zMl RX9 436 yX9_step := Or.inl (zmt (zt8 (i := 51) rfl) rfl)
theorem ml_RX9_440 : zMl RX9 440 yX9_costOf := Or.inl (zmt (zt8 (i := 54) rfl) rfl)
theorem ml_RX9_443 : zMl RX9 443 yX9_longBy := Or.inl (zmt (zt8 (i := 47) rfl) rfl)
theorem ml_RX9_447 : zMl RX9 447 yX9_refusesWay := Or.inl (zmt (zt8 (i := 39) rfl) rfl)
theorem ml_RX9_451 : zMl RX9 451 yX9_wayTo := Or.inl (zmt (zt8 (i := 43) rfl) rfl)
theorem ml_RX9_454 : zMl RX9 454 yX9_far := Or.inl (zmt (zt8 (i := 86) rfl) rfl)
theorem ml_RX9_457 : zMl RX9 457 yX9_lost := Or.inl (zmt (zt8 (i := 78) rfl) rfl)
theorem ml_RX9_460 : zMl RX9 460 yX9_gets := Or.inl (zmt (zt8 (i := 82) rfl) rfl)
theorem ml_RX9_463 : zMl RX9 463 yX9_isRest := Or.inl (zmt (zt8 (i := 93) rfl) rfl)
theorem ml_RX9_479 : zMl RX9 479 yX9_refusesShakes := Or.inl (zmt (zt8 (i := 105) rfl) rfl)
theorem ml_RX9_483 : zMl RX9 483 yX9_shakes := Or.inl (zmt (zt8 (i := 110) rfl) rfl)
theorem ml_RX9_487 : zMl RX9 487 yX9_remembers := Or.inl (zmt (zt8 (i := 129) rfl) rfl)
theorem ml_RX9_490 : zMl RX9 490 yX9_denied := Or.inl (zmt (zt8 (i := 145) rfl) rfl)
theorem ml_RX9_493 : zMl RX9 493 yX9_granted := Or.inl (zmt (zt8 (i := 149) rfl) rfl)
