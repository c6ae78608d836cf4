theorem zI.s78 {h : zHp} {d p : Nat} (I : zI h d p) : zsh h 78 = some (.inl 9) := by
  rcases I.o with o | o
  · exact o.1.1
  · exact o.1.mw.1
theorem zI.s78e {h h' : zHp} {d p : Nat} (I : zI h d p) (e : h'.1 = h.1) : zsh h' 78 = some (.inl 9) := by
  have := I.s78
  unfold zsh at this ⊢
  rw [e]
  exact this
theorem zI.s78q {h h' : zHp} {d p : Nat} {t : Int} (I : zI h d p) (q : zQh h h' t) : zsh h' 78 = some (.inl 9) := I.s78e q.1
theorem zt4_0 : ¬ zj 0 = zj 4 := by decide
theorem zt4_1 : ¬ zj 1 = zj 4 := by decide
theorem zt4_2 : ¬ zj 2 = zj 4 := by decide
section ZST
variable {X : Nat × (Nat → Int32)} {R : zRt} {h : zHp} {d p : Nat}
theorem st_top {a : Int} (ha1 : -2147483648 ≤ a) (ha2 : a < 2147483648) (I : zI h d p) (k : ∀ x h1, zsh h1 78 = some (.inl 9) → (∀ R2 : zRt, (∀ h2, zI h2 d p → R2 (some (.int x)) h2) → zCC X M_X9_top [.ref 78, .int (zj a)] h1 R2) → R (some (.int x)) h1) : zCC X M_X7_top [.ref 16, .int (zj a)] h R := by
  refine cx_top I.w I.v I.u ha1 ha2 (k _ _ (by first | exact I.s78 | exact I.s78q (zQh_gh h _ _ _ _) | exact I.s78q (zQh_sk h _ _ _ _)) (fun R2 k2 => ?_))
  suffices hs : ∀ h1, zQh h h1 ((if gz h p 1 = 0 then (1, -1) else if 0 ≤ a ∧ a < 12 then ((0 : Int), (zT h p 0 0 a : Int)) else (2, -1)).1) → zCC X M_X9_top [.ref 78, .int (zj a)] h1 R2 from hs _ (zQh_pi h _)
  intro h1 q
  have o := I.oq q
  have L := q.lq
  have hp := I.hp
  have hv1 := I.v.1
  have hn : ((zn h p : Nat) : Int) = gz h p 1 := by unfold zn; omega
  have gp : ∀ y, gz h1 p y = gz h p y := L.gz (by omega)
  have g2 : ∀ y, gz h1 (p + 2) y = gz h (p + 2) y := L.gz (by omega)
  have g4 : ∀ y, gz h1 (p + 4) y = gz h (p + 4) y := L.gz (by omega)
  have g5 : ∀ y, gz h1 (p + 5) y = gz h (p + 5) y := L.gz (by omega)
  have g6 : ∀ y, gz h1 (p + 6) y = gz h (p + 6) y := L.gz (by omega)
  have g7 : ∀ y, gz h1 (p + 7) y = gz h (p + 7) y := L.gz (by omega)
  have g9 : ∀ y, gz h1 (p + 9) y = gz h (p + 9) y := L.gz (by omega)
  have g11 : ∀ y, gz h1 (p + 11) y = gz h (p + 11) y := L.gz (by omega)
  have g45 : ∀ y, gz h1 45 y = gz h 45 y := L.gz (by omega)
  have z45 : ∀ y, zgi h1 45 y = zgi h 45 y := fun y => L.2.2 45 y (by omega)
  refine cq_top o ha1 ha2 (fun  h' j => ?_)
  try simp only [lq_n L hp, lq_S L hp, lq_cl L hp, lq_T L hp, lq_is L hp, lq_st2 L hp, lq_co L hp, lq_fn L hp, lq_ml L hp, lq_wl L hp, lq_sv L hp, lq_rs L hp, lq_rp L hp, lq_ar L hp, lq_hol L hp, lq_GG L hp, lq_Ro L hp, lq_gl L, gp, g2, g4, g5, g6, g7, g9, g11, g45, z45] at  j ⊢
  first | exact k2 h' (I.q q j (by first | decide | (repeat' split) <;> first | exact zt4_0 | exact zt4_1 | exact zt4_2)) | (exfalso; first | contradiction | omega)
theorem st_stack {a : Int} (ha1 : -2147483648 ≤ a) (ha2 : a < 2147483648) (I : zI h d p) (k : ∀ x h1, zsh h1 78 = some (.inl 9) → (∀ R2 : zRt, (∀ h2, zI h2 d p → R2 (some (.int x)) h2) → zCC X M_X9_stack [.ref 78, .int (zj a)] h1 R2) → R (some (.int x)) h1) : zCC X M_X7_stack [.ref 16, .int (zj a)] h R := by
  refine cx_stack I.w I.v I.u ha1 ha2 (k _ _ (by first | exact I.s78 | exact I.s78q (zQh_gh h _ _ _ _) | exact I.s78q (zQh_sk h _ _ _ _)) (fun R2 k2 => ?_))
  suffices hs : ∀ h1, zQh h h1 ((if gz h p 1 = 0 then (1, -1) else if 0 ≤ a ∧ a < 12 then ((0 : Int), ((zset (fun b => zcl h p 0 0 b = a) (zn h p) : Nat) : Int)) else (2, -1)).1) → zCC X M_X9_stack [.ref 78, .int (zj a)] h1 R2 from hs _ (zQh_pi h _)
  intro h1 q
  have o := I.oq q
  have L := q.lq
  have hp := I.hp
  have hv1 := I.v.1
  have hn : ((zn h p : Nat) : Int) = gz h p 1 := by unfold zn; omega
  have gp : ∀ y, gz h1 p y = gz h p y := L.gz (by omega)
  have g2 : ∀ y, gz h1 (p + 2) y = gz h (p + 2) y := L.gz (by omega)
  have g4 : ∀ y, gz h1 (p + 4) y = gz h (p + 4) y := L.gz (by omega)
  have g5 : ∀ y, gz h1 (p + 5) y = gz h (p + 5) y := L.gz (by omega)
  have g6 : ∀ y, gz h1 (p + 6) y = gz h (p + 6) y := L.gz (by omega)
  have g7 : ∀ y, gz h1 (p + 7) y = gz h (p + 7) y := L.gz (by omega)
  have g9 : ∀ y, gz h1 (p + 9) y = gz h (p + 9) y := L.gz (by omega)
  have g11 : ∀ y, gz h1 (p + 11) y = gz h (p + 11) y := L.gz (by omega)
  have g45 : ∀ y, gz h1 45 y = gz h 45 y := L.gz (by omega)
  have z45 : ∀ y, zgi h1 45 y = zgi h 45 y := fun y => L.2.2 45 y (by omega)
  refine cq_stack o ha1 ha2 (fun  h' j => ?_)
  try simp only [lq_n L hp, lq_S L hp, lq_cl L hp, lq_T L hp, lq_is L hp, lq_st2 L hp, lq_co L hp, lq_fn L hp, lq_ml L hp, lq_wl L hp, lq_sv L hp, lq_rs L hp, lq_rp L hp, lq_ar L hp, lq_hol L hp, lq_GG L hp, lq_Ro L hp, lq_gl L, gp, g2, g4, g5, g6, g7, g9, g11, g45, z45] at  j ⊢
  first | exact k2 h' (I.q q j (by first | decide | (repeat' split) <;> first | exact zt4_0 | exact zt4_1 | exact zt4_2)) | (exfalso; first | contradiction | omega)
theorem st_seen {a b : Int} (ha1 : -2147483648 ≤ a) (ha2 : a < 2147483648) (hb1 : -2147483648 ≤ b) (hb2 : b < 2147483648) (I : zI h d p) (k : ∀ x h1, zsh h1 78 = some (.inl 9) → (∀ R2 : zRt, (∀ h2, zI h2 d p → R2 (some (.int x)) h2) → zCC X M_X9_seen [.ref 78, .int (zj a), .int (zj b)] h1 R2) → R (some (.int x)) h1) : zCC X M_X7_seen [.ref 16, .int (zj a), .int (zj b)] h R := by
  refine cx_seen I.w I.v I.u ha1 ha2 hb1 hb2 (k _ _ (by first | exact I.s78 | exact I.s78q (zQh_gh h _ _ _ _) | exact I.s78q (zQh_sk h _ _ _ _)) (fun R2 k2 => ?_))
  suffices hs : ∀ h1, zQh h h1 ((if gz h p 1 = 0 then (1, -1) else if (0 ≤ a ∧ a < 6) ∧ 0 ≤ b ∧ b < 12 then ((0 : Int), (zT h p 0 0 (ztc a b) : Int)) else (2, -1)).1) → zCC X M_X9_seen [.ref 78, .int (zj a), .int (zj b)] h1 R2 from hs _ (zQh_pi h _)
  intro h1 q
  have o := I.oq q
  have L := q.lq
  have hp := I.hp
  have hv1 := I.v.1
  have hn : ((zn h p : Nat) : Int) = gz h p 1 := by unfold zn; omega
  have gp : ∀ y, gz h1 p y = gz h p y := L.gz (by omega)
  have g2 : ∀ y, gz h1 (p + 2) y = gz h (p + 2) y := L.gz (by omega)
  have g4 : ∀ y, gz h1 (p + 4) y = gz h (p + 4) y := L.gz (by omega)
  have g5 : ∀ y, gz h1 (p + 5) y = gz h (p + 5) y := L.gz (by omega)
  have g6 : ∀ y, gz h1 (p + 6) y = gz h (p + 6) y := L.gz (by omega)
  have g7 : ∀ y, gz h1 (p + 7) y = gz h (p + 7) y := L.gz (by omega)
  have g9 : ∀ y, gz h1 (p + 9) y = gz h (p + 9) y := L.gz (by omega)
  have g11 : ∀ y, gz h1 (p + 11) y = gz h (p + 11) y := L.gz (by omega)
  have g45 : ∀ y, gz h1 45 y = gz h 45 y := L.gz (by omega)
  have z45 : ∀ y, zgi h1 45 y = zgi h 45 y := fun y => L.2.2 45 y (by omega)
  refine cq_seen o ha1 ha2 hb1 hb2 (fun  h' j => ?_)
  try simp only [lq_n L hp, lq_S L hp, lq_cl L hp, lq_T L hp, lq_is L hp, lq_st2 L hp, lq_co L hp, lq_fn L hp, lq_ml L hp, lq_wl L hp, lq_sv L hp, lq_rs L hp, lq_rp L hp, lq_ar L hp, lq_hol L hp, lq_GG L hp, lq_Ro L hp, lq_gl L, gp, g2, g4, g5, g6, g7, g9, g11, g45, z45] at  j ⊢
  first | exact k2 h' (I.q q j (by first | decide | (repeat' split) <;> first | exact zt4_0 | exact zt4_1 | exact zt4_2)) | (exfalso; first | contradiction | omega)
theorem st_lies {a b : Int} (ha1 : -2147483648 ≤ a) (ha2 : a < 2147483648) (hb1 : -2147483648 ≤ b) (hb2 : b < 2147483648) (I : zI h d p) (k : ∀ x h1, zsh h1 78 = some (.inl 9) → (∀ R2 : zRt, (∀ h2, zI h2 d p → R2 (some (.int x)) h2) → zCC X M_X9_lies [.ref 78, .int (zj a), .int (zj b)] h1 R2) → R (some (.int x)) h1) : zCC X M_X7_lies [.ref 16, .int (zj a), .int (zj b)] h R := by
  refine cx_lies I.w I.v I.u ha1 ha2 hb1 hb2 (k _ _ (by first | exact I.s78 | exact I.s78q (zQh_gh h _ _ _ _) | exact I.s78q (zQh_sk h _ _ _ _)) (fun R2 k2 => ?_))
  suffices hs : ∀ h1, zQh h h1 ((if 0 ≤ a ∧ a < gz h p 1 then (if 0 ≤ b ∧ b < 6 then ((0 : Int), (zmc b (zcl h p 0 0 a.toNat) : Int)) else (2, -1)) else (1, -1)).1) → zCC X M_X9_lies [.ref 78, .int (zj a), .int (zj b)] h1 R2 from hs _ (zQh_pi h _)
  intro h1 q
  have o := I.oq q
  have L := q.lq
  have hp := I.hp
  have hv1 := I.v.1
  have hn : ((zn h p : Nat) : Int) = gz h p 1 := by unfold zn; omega
  have gp : ∀ y, gz h1 p y = gz h p y := L.gz (by omega)
  have g2 : ∀ y, gz h1 (p + 2) y = gz h (p + 2) y := L.gz (by omega)
  have g4 : ∀ y, gz h1 (p + 4) y = gz h (p + 4) y := L.gz (by omega)
  have g5 : ∀ y, gz h1 (p + 5) y = gz h (p + 5) y := L.gz (by omega)
  have g6 : ∀ y, gz h1 (p + 6) y = gz h (p + 6) y := L.gz (by omega)
  have g7 : ∀ y, gz h1 (p + 7) y = gz h (p + 7) y := L.gz (by omega)
  have g9 : ∀ y, gz h1 (p + 9) y = gz h (p + 9) y := L.gz (by omega)
  have g11 : ∀ y, gz h1 (p + 11) y = gz h (p + 11) y := L.gz (by omega)
  have g45 : ∀ y, gz h1 45 y = gz h 45 y := L.gz (by omega)
  have z45 : ∀ y, zgi h1 45 y = zgi h 45 y := fun y => L.2.2 45 y (by omega)
  refine cq_lies o ha1 ha2 hb1 hb2 (fun  h' j => ?_)
  try simp only [lq_n L hp, lq_S L hp, lq_cl L hp, lq_T L hp, lq_is L hp, lq_st2 L hp, lq_co L hp, lq_fn L hp, lq_ml L hp, lq_wl L hp, lq_sv L hp, lq_rs L hp, lq_rp L hp, lq_ar L hp, lq_hol L hp, lq_GG L hp, lq_Ro L hp, lq_gl L, gp, g2, g4, g5, g6, g7, g9, g11, g45, z45] at  j ⊢
  first | exact k2 h' (I.q q j (by first | decide | (repeat' split) <;> first | exact zt4_0 | exact zt4_1 | exact zt4_2)) | (exfalso; first | contradiction | omega)
theorem st_under  (I : zI h d p) (k : ∀ x h1, zsh h1 78 = some (.inl 9) → (∀ R2 : zRt, (∀ h2, zI h2 d p → R2 (some (.int x)) h2) → zCC X M_X9_under [.ref 78] h1 R2) → R (some (.int x)) h1) : zCC X M_X7_under [.ref 16] h R := by
  refine cx_under I.w I.v I.u (k _ _ (by first | exact I.s78 | exact I.s78q (zQh_gh h _ _ _ _) | exact I.s78q (zQh_sk h _ _ _ _)) (fun R2 k2 => ?_))
  suffices hs : ∀ h1, zQh h h1 ((if gz h p 1 = 0 then (1, -1) else ((0 : Int), ((zset (fun b => ¬ zis h p 0 0 b) (zn h p) : Nat) : Int))).1) → zCC X M_X9_under [.ref 78] h1 R2 from hs _ (zQh_pi h _)
  intro h1 q
  have o := I.oq q
  have L := q.lq
  have hp := I.hp
  have hv1 := I.v.1
  have hn : ((zn h p : Nat) : Int) = gz h p 1 := by unfold zn; omega
  have gp : ∀ y, gz h1 p y = gz h p y := L.gz (by omega)
  have g2 : ∀ y, gz h1 (p + 2) y = gz h (p + 2) y := L.gz (by omega)
  have g4 : ∀ y, gz h1 (p + 4) y = gz h (p + 4) y := L.gz (by omega)
  have g5 : ∀ y, gz h1 (p + 5) y = gz h (p + 5) y := L.gz (by omega)
  have g6 : ∀ y, gz h1 (p + 6) y = gz h (p + 6) y := L.gz (by omega)
  have g7 : ∀ y, gz h1 (p + 7) y = gz h (p + 7) y := L.gz (by omega)
  have g9 : ∀ y, gz h1 (p + 9) y = gz h (p + 9) y := L.gz (by omega)
  have g11 : ∀ y, gz h1 (p + 11) y = gz h (p + 11) y := L.gz (by omega)
  have g45 : ∀ y, gz h1 45 y = gz h 45 y := L.gz (by omega)
  have z45 : ∀ y, zgi h1 45 y = zgi h 45 y := fun y => L.2.2 45 y (by omega)
  refine cq_under o (fun  h' j => ?_)
  try simp only [lq_n L hp, lq_S L hp, lq_cl L hp, lq_T L hp, lq_is L hp, lq_st2 L hp, lq_co L hp, lq_fn L hp, lq_ml L hp, lq_wl L hp, lq_sv L hp, lq_rs L hp, lq_rp L hp, lq_ar L hp, lq_hol L hp, lq_GG L hp, lq_Ro L hp, lq_gl L, gp, g2, g4, g5, g6, g7, g9, g11, g45, z45] at  j ⊢
  first | exact k2 h' (I.q q j (by first | decide | (repeat' split) <;> first | exact zt4_0 | exact zt4_1 | exact zt4_2)) | (exfalso; first | contradiction | omega)
theorem st_until {a : Int} (ha1 : -2147483648 ≤ a) (ha2 : a < 2147483648) (I : zI h d p) (k : ∀ x h1, zsh h1 78 = some (.inl 9) → (∀ R2 : zRt, (∀ h2, zI h2 d p → R2 (some (.int x)) h2) → zCC X M_X9_until [.ref 78, .int (zj a)] h1 R2) → R (some (.int x)) h1) : zCC X M_X7_until [.ref 16, .int (zj a)] h R := by
  refine cx_until I.w I.v I.u ha1 ha2 (k _ _ (by first | exact I.s78 | exact I.s78q (zQh_gh h _ _ _ _) | exact I.s78q (zQh_sk h _ _ _ _)) (fun R2 k2 => ?_))
  suffices hs : ∀ h1, zQh h h1 ((if 0 ≤ a ∧ a < gz h p 1 then ((0 : Int), (zff (fun t => zis h p t 0 a.toNat) 0 25 : Int)) else (1, -1)).1) → zCC X M_X9_until [.ref 78, .int (zj a)] h1 R2 from hs _ (zQh_pi h _)
  intro h1 q
  have o := I.oq q
  have L := q.lq
  have hp := I.hp
  have hv1 := I.v.1
  have hn : ((zn h p : Nat) : Int) = gz h p 1 := by unfold zn; omega
  have gp : ∀ y, gz h1 p y = gz h p y := L.gz (by omega)
  have g2 : ∀ y, gz h1 (p + 2) y = gz h (p + 2) y := L.gz (by omega)
  have g4 : ∀ y, gz h1 (p + 4) y = gz h (p + 4) y := L.gz (by omega)
  have g5 : ∀ y, gz h1 (p + 5) y = gz h (p + 5) y := L.gz (by omega)
  have g6 : ∀ y, gz h1 (p + 6) y = gz h (p + 6) y := L.gz (by omega)
  have g7 : ∀ y, gz h1 (p + 7) y = gz h (p + 7) y := L.gz (by omega)
  have g9 : ∀ y, gz h1 (p + 9) y = gz h (p + 9) y := L.gz (by omega)
  have g11 : ∀ y, gz h1 (p + 11) y = gz h (p + 11) y := L.gz (by omega)
  have g45 : ∀ y, gz h1 45 y = gz h 45 y := L.gz (by omega)
  have z45 : ∀ y, zgi h1 45 y = zgi h 45 y := fun y => L.2.2 45 y (by omega)
  refine cq_until o ha1 ha2 (fun  h' j => ?_)
  try simp only [lq_n L hp, lq_S L hp, lq_cl L hp, lq_T L hp, lq_is L hp, lq_st2 L hp, lq_co L hp, lq_fn L hp, lq_ml L hp, lq_wl L hp, lq_sv L hp, lq_rs L hp, lq_rp L hp, lq_ar L hp, lq_hol L hp, lq_GG L hp, lq_Ro L hp, lq_gl L, gp, g2, g4, g5, g6, g7, g9, g11, g45, z45] at  j ⊢
  first | exact k2 h' (I.q q j (by first | decide | (repeat' split) <;> first | exact zt4_0 | exact zt4_1 | exact zt4_2)) | (exfalso; first | contradiction | omega)
theorem st_behind {a b : Int} (ha1 : -2147483648 ≤ a) (ha2 : a < 2147483648) (hb1 : -2147483648 ≤ b) (hb2 : b < 2147483648) (I : zI h d p) (k : ∀ x h1, zsh h1 78 = some (.inl 9) → (∀ R2 : zRt, (∀ h2, zI h2 d p → R2 (some (.int x)) h2) → zCC X M_X9_behind [.ref 78, .int (zj a), .int (zj b)] h1 R2) → R (some (.int x)) h1) : zCC X M_X7_behind [.ref 16, .int (zj a), .int (zj b)] h R := by
  refine cx_behind I.w I.v I.u ha1 ha2 hb1 hb2 (k _ _ (by first | exact I.s78 | exact I.s78q (zQh_gh h _ _ _ _) | exact I.s78q (zQh_sk h _ _ _ _)) (fun R2 k2 => ?_))
  suffices hs : ∀ h1, zQh h h1 ((if 0 ≤ a ∧ a < gz h p 1 then (if -6 ≤ b ∧ b ≤ 6 then ((0 : Int), (zcl h p b (b.tdiv 2) a.toNat : Int)) else (2, -1)) else (1, -1)).1) → zCC X M_X9_behind [.ref 78, .int (zj a), .int (zj b)] h1 R2 from hs _ (zQh_pi h _)
  intro h1 q
  have o := I.oq q
  have L := q.lq
  have hp := I.hp
  have hv1 := I.v.1
  have hn : ((zn h p : Nat) : Int) = gz h p 1 := by unfold zn; omega
  have gp : ∀ y, gz h1 p y = gz h p y := L.gz (by omega)
  have g2 : ∀ y, gz h1 (p + 2) y = gz h (p + 2) y := L.gz (by omega)
  have g4 : ∀ y, gz h1 (p + 4) y = gz h (p + 4) y := L.gz (by omega)
  have g5 : ∀ y, gz h1 (p + 5) y = gz h (p + 5) y := L.gz (by omega)
  have g6 : ∀ y, gz h1 (p + 6) y = gz h (p + 6) y := L.gz (by omega)
  have g7 : ∀ y, gz h1 (p + 7) y = gz h (p + 7) y := L.gz (by omega)
  have g9 : ∀ y, gz h1 (p + 9) y = gz h (p + 9) y := L.gz (by omega)
  have g11 : ∀ y, gz h1 (p + 11) y = gz h (p + 11) y := L.gz (by omega)
  have g45 : ∀ y, gz h1 45 y = gz h 45 y := L.gz (by omega)
  have z45 : ∀ y, zgi h1 45 y = zgi h 45 y := fun y => L.2.2 45 y (by omega)
  refine cq_behind o ha1 ha2 hb1 hb2 (fun  h' j => ?_)
  try simp only [lq_n L hp, lq_S L hp, lq_cl L hp, lq_T L hp, lq_is L hp, lq_st2 L hp, lq_co L hp, lq_fn L hp, lq_ml L hp, lq_wl L hp, lq_sv L hp, lq_rs L hp, lq_rp L hp, lq_ar L hp, lq_hol L hp, lq_GG L hp, lq_Ro L hp, lq_gl L, gp, g2, g4, g5, g6, g7, g9, g11, g45, z45] at  j ⊢
  first | exact k2 h' (I.q q j (by first | decide | (repeat' split) <;> first | exact zt4_0 | exact zt4_1 | exact zt4_2)) | (exfalso; first | contradiction | omega)
theorem st_topsBehind {a : Int} (ha1 : -2147483648 ≤ a) (ha2 : a < 2147483648) (I : zI h d p) (k : ∀ x h1, zsh h1 78 = some (.inl 9) → (∀ R2 : zRt, (∀ h2, zI h2 d p → R2 (some (.int x)) h2) → zCC X M_X9_topsBehind [.ref 78, .int (zj a)] h1 R2) → R (some (.int x)) h1) : zCC X M_X7_topsBehind [.ref 16, .int (zj a)] h R := by
  refine cx_topsBehind I.w I.v I.u ha1 ha2 (k _ _ (by first | exact I.s78 | exact I.s78q (zQh_gh h _ _ _ _) | exact I.s78q (zQh_sk h _ _ _ _)) (fun R2 k2 => ?_))
  suffices hs : ∀ h1, zQh h h1 ((if gz h p 1 = 0 then (1, -1) else if -6 ≤ a ∧ a ≤ 6 then ((0 : Int), ((zpop 12 (zheld (zcl h p a (a.tdiv 2)) (zn h p)) : Nat) : Int)) else (2, -1)).1) → zCC X M_X9_topsBehind [.ref 78, .int (zj a)] h1 R2 from hs _ (zQh_pi h _)
  intro h1 q
  have o := I.oq q
  have L := q.lq
  have hp := I.hp
  have hv1 := I.v.1
  have hn : ((zn h p : Nat) : Int) = gz h p 1 := by unfold zn; omega
  have gp : ∀ y, gz h1 p y = gz h p y := L.gz (by omega)
  have g2 : ∀ y, gz h1 (p + 2) y = gz h (p + 2) y := L.gz (by omega)
  have g4 : ∀ y, gz h1 (p + 4) y = gz h (p + 4) y := L.gz (by omega)
  have g5 : ∀ y, gz h1 (p + 5) y = gz h (p + 5) y := L.gz (by omega)
  have g6 : ∀ y, gz h1 (p + 6) y = gz h (p + 6) y := L.gz (by omega)
  have g7 : ∀ y, gz h1 (p + 7) y = gz h (p + 7) y := L.gz (by omega)
  have g9 : ∀ y, gz h1 (p + 9) y = gz h (p + 9) y := L.gz (by omega)
  have g11 : ∀ y, gz h1 (p + 11) y = gz h (p + 11) y := L.gz (by omega)
  have g45 : ∀ y, gz h1 45 y = gz h 45 y := L.gz (by omega)
  have z45 : ∀ y, zgi h1 45 y = zgi h 45 y := fun y => L.2.2 45 y (by omega)
  refine cq_topsBehind o ha1 ha2 (fun  h' j => ?_)
  try simp only [lq_n L hp, lq_S L hp, lq_cl L hp, lq_T L hp, lq_is L hp, lq_st2 L hp, lq_co L hp, lq_fn L hp, lq_ml L hp, lq_wl L hp, lq_sv L hp, lq_rs L hp, lq_rp L hp, lq_ar L hp, lq_hol L hp, lq_GG L hp, lq_Ro L hp, lq_gl L, gp, g2, g4, g5, g6, g7, g9, g11, g45, z45] at  j ⊢
  first | exact k2 h' (I.q q j (by first | decide | (repeat' split) <;> first | exact zt4_0 | exact zt4_1 | exact zt4_2)) | (exfalso; first | contradiction | omega)
theorem st_twins  (I : zI h d p) (k : ∀ x h1, zsh h1 78 = some (.inl 9) → (∀ R2 : zRt, (∀ h2, zI h2 d p → R2 (some (.int x)) h2) → zCC X M_X9_twins [.ref 78] h1 R2) → R (some (.int x)) h1) : zCC X M_X7_twins [.ref 16] h R := by
  refine cx_twins I.w I.v (k _ _ (by first | exact I.s78 | exact I.s78q (zQh_gh h _ _ _ _) | exact I.s78q (zQh_sk h _ _ _ _)) (fun R2 k2 => ?_))
  suffices hs : ∀ h1, zQh h h1 ((if gz h p 1 = 0 then (1, -1) else ((0 : Int), ztw (fun b c => zgl h (p + 3) b = zgl h (p + 3) c) (zn h p) 0 (zn h p))).1) → zCC X M_X9_twins [.ref 78] h1 R2 from hs _ (zQh_pi h _)
  intro h1 q
  have o := I.oq q
  have L := q.lq
  have hp := I.hp
  have hv1 := I.v.1
  have hn : ((zn h p : Nat) : Int) = gz h p 1 := by unfold zn; omega
  have gp : ∀ y, gz h1 p y = gz h p y := L.gz (by omega)
  have g2 : ∀ y, gz h1 (p + 2) y = gz h (p + 2) y := L.gz (by omega)
  have g4 : ∀ y, gz h1 (p + 4) y = gz h (p + 4) y := L.gz (by omega)
  have g5 : ∀ y, gz h1 (p + 5) y = gz h (p + 5) y := L.gz (by omega)
  have g6 : ∀ y, gz h1 (p + 6) y = gz h (p + 6) y := L.gz (by omega)
  have g7 : ∀ y, gz h1 (p + 7) y = gz h (p + 7) y := L.gz (by omega)
  have g9 : ∀ y, gz h1 (p + 9) y = gz h (p + 9) y := L.gz (by omega)
  have g11 : ∀ y, gz h1 (p + 11) y = gz h (p + 11) y := L.gz (by omega)
  have g45 : ∀ y, gz h1 45 y = gz h 45 y := L.gz (by omega)
  have z45 : ∀ y, zgi h1 45 y = zgi h 45 y := fun y => L.2.2 45 y (by omega)
  refine cq_twins o (fun  h' j => ?_)
  try simp only [lq_n L hp, lq_S L hp, lq_cl L hp, lq_T L hp, lq_is L hp, lq_st2 L hp, lq_co L hp, lq_fn L hp, lq_ml L hp, lq_wl L hp, lq_sv L hp, lq_rs L hp, lq_rp L hp, lq_ar L hp, lq_hol L hp, lq_GG L hp, lq_Ro L hp, lq_gl L, gp, g2, g4, g5, g6, g7, g9, g11, g45, z45] at  j ⊢
  first | exact k2 h' (I.q q j (by first | decide | (repeat' split) <;> first | exact zt4_0 | exact zt4_1 | exact zt4_2)) | (exfalso; first | contradiction | omega)
theorem st_mostTops  (I : zI h d p) (k : ∀ x h1, zsh h1 78 = some (.inl 9) → (∀ R2 : zRt, (∀ h2, zI h2 d p → R2 (some (.int x)) h2) → zCC X M_X9_mostTops [.ref 78] h1 R2) → R (some (.int x)) h1) : zCC X M_X7_mostTops [.ref 16] h R := by
  refine cx_mostTops I.w I.v I.u (k _ _ (by first | exact I.s78 | exact I.s78q (zQh_gh h _ _ _ _) | exact I.s78q (zQh_sk h _ _ _ _)) (fun R2 k2 => ?_))
  suffices hs : ∀ h1, zQh h h1 ((if gz h p 1 = 0 then (1, -1) else ((0 : Int), ((zmt2 (fun i : Nat => zpop 12 (zheld (zcl h p ((i : Int) + (-6)) (((i : Int) + (-6)).tdiv 2)) (zn h p))) 13).1 : Int))).1) → zCC X M_X9_mostTops [.ref 78] h1 R2 from hs _ (zQh_pi h _)
  intro h1 q
  have o := I.oq q
  have L := q.lq
  have hp := I.hp
  have hv1 := I.v.1
  have hn : ((zn h p : Nat) : Int) = gz h p 1 := by unfold zn; omega
  have gp : ∀ y, gz h1 p y = gz h p y := L.gz (by omega)
  have g2 : ∀ y, gz h1 (p + 2) y = gz h (p + 2) y := L.gz (by omega)
  have g4 : ∀ y, gz h1 (p + 4) y = gz h (p + 4) y := L.gz (by omega)
  have g5 : ∀ y, gz h1 (p + 5) y = gz h (p + 5) y := L.gz (by omega)
  have g6 : ∀ y, gz h1 (p + 6) y = gz h (p + 6) y := L.gz (by omega)
  have g7 : ∀ y, gz h1 (p + 7) y = gz h (p + 7) y := L.gz (by omega)
  have g9 : ∀ y, gz h1 (p + 9) y = gz h (p + 9) y := L.gz (by omega)
  have g11 : ∀ y, gz h1 (p + 11) y = gz h (p + 11) y := L.gz (by omega)
  have g45 : ∀ y, gz h1 45 y = gz h 45 y := L.gz (by omega)
  have z45 : ∀ y, zgi h1 45 y = zgi h 45 y := fun y => L.2.2 45 y (by omega)
  refine cq_mostTops o (fun  h' j => ?_)
  try simp only [lq_n L hp, lq_S L hp, lq_cl L hp, lq_T L hp, lq_is L hp, lq_st2 L hp, lq_co L hp, lq_fn L hp, lq_ml L hp, lq_wl L hp, lq_sv L hp, lq_rs L hp, lq_rp L hp, lq_ar L hp, lq_hol L hp, lq_GG L hp, lq_Ro L hp, lq_gl L, gp, g2, g4, g5, g6, g7, g9, g11, g45, z45] at  j ⊢
  first | exact k2 h' (I.q q j (by first | decide | (repeat' split) <;> first | exact zt4_0 | exact zt4_1 | exact zt4_2)) | (exfalso; first | contradiction | omega)
theorem st_right  (I : zI h d p) (k : ∀ x h1, zsh h1 78 = some (.inl 9) → (∀ R2 : zRt, (∀ h2, zI h2 d p → R2 (some (.int x)) h2) → zCC X M_X9_right [.ref 78] h1 R2) → R (some (.int x)) h1) : zCC X M_X7_right [.ref 16] h R := by
  refine cx_right I.w I.v I.u (k _ _ (by first | exact I.s78 | exact I.s78q (zQh_gh h _ _ _ _) | exact I.s78q (zQh_sk h _ _ _ _)) (fun R2 k2 => ?_))
  suffices hs : ∀ h1, zQh h h1 ((if gz h p 1 = 0 then (1, -1) else ((0 : Int), ((zset (fun b => zcl h p 0 0 b = gz h (p + 5) b) (zn h p) : Nat) : Int))).1) → zCC X M_X9_right [.ref 78] h1 R2 from hs _ (zQh_pi h _)
  intro h1 q
  have o := I.oq q
  have L := q.lq
  have hp := I.hp
  have hv1 := I.v.1
  have hn : ((zn h p : Nat) : Int) = gz h p 1 := by unfold zn; omega
  have gp : ∀ y, gz h1 p y = gz h p y := L.gz (by omega)
  have g2 : ∀ y, gz h1 (p + 2) y = gz h (p + 2) y := L.gz (by omega)
  have g4 : ∀ y, gz h1 (p + 4) y = gz h (p + 4) y := L.gz (by omega)
  have g5 : ∀ y, gz h1 (p + 5) y = gz h (p + 5) y := L.gz (by omega)
  have g6 : ∀ y, gz h1 (p + 6) y = gz h (p + 6) y := L.gz (by omega)
  have g7 : ∀ y, gz h1 (p + 7) y = gz h (p + 7) y := L.gz (by omega)
  have g9 : ∀ y, gz h1 (p + 9) y = gz h (p + 9) y := L.gz (by omega)
  have g11 : ∀ y, gz h1 (p + 11) y = gz h (p + 11) y := L.gz (by omega)
  have g45 : ∀ y, gz h1 45 y = gz h 45 y := L.gz (by omega)
  have z45 : ∀ y, zgi h1 45 y = zgi h 45 y := fun y => L.2.2 45 y (by omega)
  refine cq_right o (fun  h' j => ?_)
  try simp only [lq_n L hp, lq_S L hp, lq_cl L hp, lq_T L hp, lq_is L hp, lq_st2 L hp, lq_co L hp, lq_fn L hp, lq_ml L hp, lq_wl L hp, lq_sv L hp, lq_rs L hp, lq_rp L hp, lq_ar L hp, lq_hol L hp, lq_GG L hp, lq_Ro L hp, lq_gl L, gp, g2, g4, g5, g6, g7, g9, g11, g45, z45] at  j ⊢
  first | exact k2 h' (I.q q j (by first | decide | (repeat' split) <;> first | exact zt4_0 | exact zt4_1 | exact zt4_2)) | (exfalso; first | contradiction | omega)
theorem st_turnsTo  (I : zI h d p) (k : ∀ x h1, zsh h1 78 = some (.inl 9) → (∀ R2 : zRt, (∀ h2, zI h2 d p → R2 (some (.int x)) h2) → zCC X M_X9_turnsTo [.ref 78] h1 R2) → R (some (.int x)) h1) : zCC X M_X7_turnsTo [.ref 16] h R := by
  refine cx_turnsTo I.w I.v I.u I.r (fun c0 => k _ _ (by first | exact I.s78 | exact I.s78q (zQh_gh h _ _ _ _) | exact I.s78q (zQh_sk h _ _ _ _)) (fun R2 k2 => ?_)) (fun c0 => k _ _ (by first | exact I.s78 | exact I.s78q (zQh_gh h _ _ _ _) | exact I.s78q (zQh_sk h _ _ _ _)) (fun R2 k2 => ?_))
  · suffices hs : ∀ h1, zQh h h1 (1) → zCC X M_X9_turnsTo [.ref 78] h1 R2 from hs _ (zQh_pi h _)
    intro h1 q
    have o := I.oq q
    have L := q.lq
    have hp := I.hp
    have hv1 := I.v.1
    have hn : ((zn h p : Nat) : Int) = gz h p 1 := by unfold zn; omega
    have gp : ∀ y, gz h1 p y = gz h p y := L.gz (by omega)
    have g2 : ∀ y, gz h1 (p + 2) y = gz h (p + 2) y := L.gz (by omega)
    have g4 : ∀ y, gz h1 (p + 4) y = gz h (p + 4) y := L.gz (by omega)
    have g5 : ∀ y, gz h1 (p + 5) y = gz h (p + 5) y := L.gz (by omega)
    have g6 : ∀ y, gz h1 (p + 6) y = gz h (p + 6) y := L.gz (by omega)
    have g7 : ∀ y, gz h1 (p + 7) y = gz h (p + 7) y := L.gz (by omega)
    have g9 : ∀ y, gz h1 (p + 9) y = gz h (p + 9) y := L.gz (by omega)
    have g11 : ∀ y, gz h1 (p + 11) y = gz h (p + 11) y := L.gz (by omega)
    have g45 : ∀ y, gz h1 45 y = gz h 45 y := L.gz (by omega)
    have z45 : ∀ y, zgi h1 45 y = zgi h 45 y := fun y => L.2.2 45 y (by omega)
    refine cq_turnsTo o (fun e0 h' j => ?_) (fun e0 h' j => ?_)
    · try simp only [lq_n L hp, lq_S L hp, lq_cl L hp, lq_T L hp, lq_is L hp, lq_st2 L hp, lq_co L hp, lq_fn L hp, lq_ml L hp, lq_wl L hp, lq_sv L hp, lq_rs L hp, lq_rp L hp, lq_ar L hp, lq_hol L hp, lq_GG L hp, lq_Ro L hp, lq_gl L, gp, g2, g4, g5, g6, g7, g9, g11, g45, z45] at e0 j ⊢
      first | exact k2 h' (I.q q j (by first | decide | (repeat' split) <;> first | exact zt4_0 | exact zt4_1 | exact zt4_2)) | (exfalso; first | contradiction | omega)
    · try simp only [lq_n L hp, lq_S L hp, lq_cl L hp, lq_T L hp, lq_is L hp, lq_st2 L hp, lq_co L hp, lq_fn L hp, lq_ml L hp, lq_wl L hp, lq_sv L hp, lq_rs L hp, lq_rp L hp, lq_ar L hp, lq_hol L hp, lq_GG L hp, lq_Ro L hp, lq_gl L, gp, g2, g4, g5, g6, g7, g9, g11, g45, z45] at e0 j ⊢
      first | exact k2 h' (I.q q j (by first | decide | (repeat' split) <;> first | exact zt4_0 | exact zt4_1 | exact zt4_2)) | (exfalso; first | contradiction | omega)
  · suffices hs : ∀ h1, zQh h h1 (0) → zCC X M_X9_turnsTo [.ref 78] h1 R2 from hs _ (zQh_gh h _ _ _ _)
    intro h1 q
    have o := I.oq q
    have L := q.lq
    have hp := I.hp
    have hv1 := I.v.1
    have hn : ((zn h p : Nat) : Int) = gz h p 1 := by unfold zn; omega
    have gp : ∀ y, gz h1 p y = gz h p y := L.gz (by omega)
    have g2 : ∀ y, gz h1 (p + 2) y = gz h (p + 2) y := L.gz (by omega)
    have g4 : ∀ y, gz h1 (p + 4) y = gz h (p + 4) y := L.gz (by omega)
    have g5 : ∀ y, gz h1 (p + 5) y = gz h (p + 5) y := L.gz (by omega)
    have g6 : ∀ y, gz h1 (p + 6) y = gz h (p + 6) y := L.gz (by omega)
    have g7 : ∀ y, gz h1 (p + 7) y = gz h (p + 7) y := L.gz (by omega)
    have g9 : ∀ y, gz h1 (p + 9) y = gz h (p + 9) y := L.gz (by omega)
    have g11 : ∀ y, gz h1 (p + 11) y = gz h (p + 11) y := L.gz (by omega)
    have g45 : ∀ y, gz h1 45 y = gz h 45 y := L.gz (by omega)
    have z45 : ∀ y, zgi h1 45 y = zgi h 45 y := fun y => L.2.2 45 y (by omega)
    refine cq_turnsTo o (fun e0 h' j => ?_) (fun e0 h' j => ?_)
    · try simp only [lq_n L hp, lq_S L hp, lq_cl L hp, lq_T L hp, lq_is L hp, lq_st2 L hp, lq_co L hp, lq_fn L hp, lq_ml L hp, lq_wl L hp, lq_sv L hp, lq_rs L hp, lq_rp L hp, lq_ar L hp, lq_hol L hp, lq_GG L hp, lq_Ro L hp, lq_gl L, gp, g2, g4, g5, g6, g7, g9, g11, g45, z45] at e0 j ⊢
      first | exact k2 h' (I.q q j (by first | decide | (repeat' split) <;> first | exact zt4_0 | exact zt4_1 | exact zt4_2)) | (exfalso; first | contradiction | omega)
    · try simp only [lq_n L hp, lq_S L hp, lq_cl L hp, lq_T L hp, lq_is L hp, lq_st2 L hp, lq_co L hp, lq_fn L hp, lq_ml L hp, lq_wl L hp, lq_sv L hp, lq_rs L hp, lq_rp L hp, lq_ar L hp, lq_hol L hp, lq_GG L hp, lq_Ro L hp, lq_gl L, gp, g2, g4, g5, g6, g7, g9, g11, g45, z45] at e0 j ⊢
      first | exact k2 h' (I.q q j (by first | decide | (repeat' split) <;> first | exact zt4_0 | exact zt4_1 | exact zt4_2)) | (exfalso; first | contradiction | omega)
theorem st_turnAt {a : Int} (ha1 : -2147483648 ≤ a) (ha2 : a < 2147483648) (I : zI h d p) (k : ∀ x h1, zsh h1 78 = some (.inl 9) → (∀ R2 : zRt, (∀ h2, zI h2 d p → R2 (some (.int x)) h2) → zCC X M_X9_turnAt [.ref 78, .int (zj a)] h1 R2) → R (some (.int x)) h1) : zCC X M_X7_turnAt [.ref 16, .int (zj a)] h R := by
  refine cx_turnAt I.w I.v I.u I.r ha1 ha2 (fun c0 => k _ _ (by first | exact I.s78 | exact I.s78q (zQh_gh h _ _ _ _) | exact I.s78q (zQh_sk h _ _ _ _)) (fun R2 k2 => ?_)) (fun c0 c1 => k _ _ (by first | exact I.s78 | exact I.s78q (zQh_gh h _ _ _ _) | exact I.s78q (zQh_sk h _ _ _ _)) (fun R2 k2 => ?_)) (fun c0 c1 c2 => k _ _ (by first | exact I.s78 | exact I.s78q (zQh_gh h _ _ _ _) | exact I.s78q (zQh_sk h _ _ _ _)) (fun R2 k2 => ?_)) (fun c0 c1 => k _ _ (by first | exact I.s78 | exact I.s78q (zQh_gh h _ _ _ _) | exact I.s78q (zQh_sk h _ _ _ _)) (fun R2 k2 => ?_))
  · suffices hs : ∀ h1, zQh h h1 (1) → zCC X M_X9_turnAt [.ref 78, .int (zj a)] h1 R2 from hs _ (zQh_pi h _)
    intro h1 q
    have o := I.oq q
    have L := q.lq
    have hp := I.hp
    have hv1 := I.v.1
    have hn : ((zn h p : Nat) : Int) = gz h p 1 := by unfold zn; omega
    have gp : ∀ y, gz h1 p y = gz h p y := L.gz (by omega)
    have g2 : ∀ y, gz h1 (p + 2) y = gz h (p + 2) y := L.gz (by omega)
    have g4 : ∀ y, gz h1 (p + 4) y = gz h (p + 4) y := L.gz (by omega)
    have g5 : ∀ y, gz h1 (p + 5) y = gz h (p + 5) y := L.gz (by omega)
    have g6 : ∀ y, gz h1 (p + 6) y = gz h (p + 6) y := L.gz (by omega)
    have g7 : ∀ y, gz h1 (p + 7) y = gz h (p + 7) y := L.gz (by omega)
    have g9 : ∀ y, gz h1 (p + 9) y = gz h (p + 9) y := L.gz (by omega)
    have g11 : ∀ y, gz h1 (p + 11) y = gz h (p + 11) y := L.gz (by omega)
    have g45 : ∀ y, gz h1 45 y = gz h 45 y := L.gz (by omega)
    have z45 : ∀ y, zgi h1 45 y = zgi h 45 y := fun y => L.2.2 45 y (by omega)
    refine cq_turnAt o ha1 ha2 (fun e0 h' j => ?_) (fun e0 e1 h' j => ?_) (fun e0 e1 e2 h' j => ?_) (fun e0 e1 h' j => ?_)
    · try simp only [lq_n L hp, lq_S L hp, lq_cl L hp, lq_T L hp, lq_is L hp, lq_st2 L hp, lq_co L hp, lq_fn L hp, lq_ml L hp, lq_wl L hp, lq_sv L hp, lq_rs L hp, lq_rp L hp, lq_ar L hp, lq_hol L hp, lq_GG L hp, lq_Ro L hp, lq_gl L, gp, g2, g4, g5, g6, g7, g9, g11, g45, z45] at e0 j ⊢
      first | exact k2 h' (I.q q j (by first | decide | (repeat' split) <;> first | exact zt4_0 | exact zt4_1 | exact zt4_2)) | (exfalso; first | contradiction | omega)
    · try simp only [lq_n L hp, lq_S L hp, lq_cl L hp, lq_T L hp, lq_is L hp, lq_st2 L hp, lq_co L hp, lq_fn L hp, lq_ml L hp, lq_wl L hp, lq_sv L hp, lq_rs L hp, lq_rp L hp, lq_ar L hp, lq_hol L hp, lq_GG L hp, lq_Ro L hp, lq_gl L, gp, g2, g4, g5, g6, g7, g9, g11, g45, z45] at e0 e1 j ⊢
      first | exact k2 h' (I.q q j (by first | decide | (repeat' split) <;> first | exact zt4_0 | exact zt4_1 | exact zt4_2)) | (exfalso; first | contradiction | omega)
    · try simp only [lq_n L hp, lq_S L hp, lq_cl L hp, lq_T L hp, lq_is L hp, lq_st2 L hp, lq_co L hp, lq_fn L hp, lq_ml L hp, lq_wl L hp, lq_sv L hp, lq_rs L hp, lq_rp L hp, lq_ar L hp, lq_hol L hp, lq_GG L hp, lq_Ro L hp, lq_gl L, gp, g2, g4, g5, g6, g7, g9, g11, g45, z45] at e0 e1 e2 j ⊢
      first | exact k2 h' (I.q q j (by first | decide | (repeat' split) <;> first | exact zt4_0 | exact zt4_1 | exact zt4_2)) | (exfalso; first | contradiction | omega)
    · try simp only [lq_n L hp, lq_S L hp, lq_cl L hp, lq_T L hp, lq_is L hp, lq_st2 L hp, lq_co L hp, lq_fn L hp, lq_ml L hp, lq_wl L hp, lq_sv L hp, lq_rs L hp, lq_rp L hp, lq_ar L hp, lq_hol L hp, lq_GG L hp, lq_Ro L hp, lq_gl L, gp, g2, g4, g5, g6, g7, g9, g11, g45, z45] at e0 e1 j ⊢
      first | exact k2 h' (I.q q j (by first | decide | (repeat' split) <;> first | exact zt4_0 | exact zt4_1 | exact zt4_2)) | (exfalso; first | contradiction | omega)
  · suffices hs : ∀ h1, zQh h h1 (6) → zCC X M_X9_turnAt [.ref 78, .int (zj a)] h1 R2 from hs _ (zQh_gh h _ _ _ _)
    intro h1 q
    have o := I.oq q
    have L := q.lq
    have hp := I.hp
    have hv1 := I.v.1
    have hn : ((zn h p : Nat) : Int) = gz h p 1 := by unfold zn; omega
    have gp : ∀ y, gz h1 p y = gz h p y := L.gz (by omega)
    have g2 : ∀ y, gz h1 (p + 2) y = gz h (p + 2) y := L.gz (by omega)
    have g4 : ∀ y, gz h1 (p + 4) y = gz h (p + 4) y := L.gz (by omega)
    have g5 : ∀ y, gz h1 (p + 5) y = gz h (p + 5) y := L.gz (by omega)
    have g6 : ∀ y, gz h1 (p + 6) y = gz h (p + 6) y := L.gz (by omega)
    have g7 : ∀ y, gz h1 (p + 7) y = gz h (p + 7) y := L.gz (by omega)
    have g9 : ∀ y, gz h1 (p + 9) y = gz h (p + 9) y := L.gz (by omega)
    have g11 : ∀ y, gz h1 (p + 11) y = gz h (p + 11) y := L.gz (by omega)
    have g45 : ∀ y, gz h1 45 y = gz h 45 y := L.gz (by omega)
    have z45 : ∀ y, zgi h1 45 y = zgi h 45 y := fun y => L.2.2 45 y (by omega)
    refine cq_turnAt o ha1 ha2 (fun e0 h' j => ?_) (fun e0 e1 h' j => ?_) (fun e0 e1 e2 h' j => ?_) (fun e0 e1 h' j => ?_)
    · try simp only [lq_n L hp, lq_S L hp, lq_cl L hp, lq_T L hp, lq_is L hp, lq_st2 L hp, lq_co L hp, lq_fn L hp, lq_ml L hp, lq_wl L hp, lq_sv L hp, lq_rs L hp, lq_rp L hp, lq_ar L hp, lq_hol L hp, lq_GG L hp, lq_Ro L hp, lq_gl L, gp, g2, g4, g5, g6, g7, g9, g11, g45, z45] at e0 j ⊢
      first | exact k2 h' (I.q q j (by first | decide | (repeat' split) <;> first | exact zt4_0 | exact zt4_1 | exact zt4_2)) | (exfalso; first | contradiction | omega)
    · try simp only [lq_n L hp, lq_S L hp, lq_cl L hp, lq_T L hp, lq_is L hp, lq_st2 L hp, lq_co L hp, lq_fn L hp, lq_ml L hp, lq_wl L hp, lq_sv L hp, lq_rs L hp, lq_rp L hp, lq_ar L hp, lq_hol L hp, lq_GG L hp, lq_Ro L hp, lq_gl L, gp, g2, g4, g5, g6, g7, g9, g11, g45, z45] at e0 e1 j ⊢
      first | exact k2 h' (I.q q j (by first | decide | (repeat' split) <;> first | exact zt4_0 | exact zt4_1 | exact zt4_2)) | (exfalso; first | contradiction | omega)
    · try simp only [lq_n L hp, lq_S L hp, lq_cl L hp, lq_T L hp, lq_is L hp, lq_st2 L hp, lq_co L hp, lq_fn L hp, lq_ml L hp, lq_wl L hp, lq_sv L hp, lq_rs L hp, lq_rp L hp, lq_ar L hp, lq_hol L hp, lq_GG L hp, lq_Ro L hp, lq_gl L, gp, g2, g4, g5, g6, g7, g9, g11, g45, z45] at e0 e1 e2 j ⊢
      first | exact k2 h' (I.q q j (by first | decide | (repeat' split) <;> first | exact zt4_0 | exact zt4_1 | exact zt4_2)) | (exfalso; first | contradiction | omega)
    · try simp only [lq_n L hp, lq_S L hp, lq_cl L hp, lq_T L hp, lq_is L hp, lq_st2 L hp, lq_co L hp, lq_fn L hp, lq_ml L hp, lq_wl L hp, lq_sv L hp, lq_rs L hp, lq_rp L hp, lq_ar L hp, lq_hol L hp, lq_GG L hp, lq_Ro L hp, lq_gl L, gp, g2, g4, g5, g6, g7, g9, g11, g45, z45] at e0 e1 j ⊢
      first | exact k2 h' (I.q q j (by first | decide | (repeat' split) <;> first | exact zt4_0 | exact zt4_1 | exact zt4_2)) | (exfalso; first | contradiction | omega)
  · suffices hs : ∀ h1, zQh h h1 (1) → zCC X M_X9_turnAt [.ref 78, .int (zj a)] h1 R2 from hs _ (zQh_gh h _ _ _ _)
    intro h1 q
    have o := I.oq q
    have L := q.lq
    have hp := I.hp
    have hv1 := I.v.1
    have hn : ((zn h p : Nat) : Int) = gz h p 1 := by unfold zn; omega
    have gp : ∀ y, gz h1 p y = gz h p y := L.gz (by omega)
    have g2 : ∀ y, gz h1 (p + 2) y = gz h (p + 2) y := L.gz (by omega)
    have g4 : ∀ y, gz h1 (p + 4) y = gz h (p + 4) y := L.gz (by omega)
    have g5 : ∀ y, gz h1 (p + 5) y = gz h (p + 5) y := L.gz (by omega)
    have g6 : ∀ y, gz h1 (p + 6) y = gz h (p + 6) y := L.gz (by omega)
    have g7 : ∀ y, gz h1 (p + 7) y = gz h (p + 7) y := L.gz (by omega)
    have g9 : ∀ y, gz h1 (p + 9) y = gz h (p + 9) y := L.gz (by omega)
    have g11 : ∀ y, gz h1 (p + 11) y = gz h (p + 11) y := L.gz (by omega)
    have g45 : ∀ y, gz h1 45 y = gz h 45 y := L.gz (by omega)
    have z45 : ∀ y, zgi h1 45 y = zgi h 45 y := fun y => L.2.2 45 y (by omega)
    refine cq_turnAt o ha1 ha2 (fun e0 h' j => ?_) (fun e0 e1 h' j => ?_) (fun e0 e1 e2 h' j => ?_) (fun e0 e1 h' j => ?_)
    · try simp only [lq_n L hp, lq_S L hp, lq_cl L hp, lq_T L hp, lq_is L hp, lq_st2 L hp, lq_co L hp, lq_fn L hp, lq_ml L hp, lq_wl L hp, lq_sv L hp, lq_rs L hp, lq_rp L hp, lq_ar L hp, lq_hol L hp, lq_GG L hp, lq_Ro L hp, lq_gl L, gp, g2, g4, g5, g6, g7, g9, g11, g45, z45] at e0 j ⊢
      first | exact k2 h' (I.q q j (by first | decide | (repeat' split) <;> first | exact zt4_0 | exact zt4_1 | exact zt4_2)) | (exfalso; first | contradiction | omega)
    · try simp only [lq_n L hp, lq_S L hp, lq_cl L hp, lq_T L hp, lq_is L hp, lq_st2 L hp, lq_co L hp, lq_fn L hp, lq_ml L hp, lq_wl L hp, lq_sv L hp, lq_rs L hp, lq_rp L hp, lq_ar L hp, lq_hol L hp, lq_GG L hp, lq_Ro L hp, lq_gl L, gp, g2, g4, g5, g6, g7, g9, g11, g45, z45] at e0 e1 j ⊢
      first | exact k2 h' (I.q q j (by first | decide | (repeat' split) <;> first | exact zt4_0 | exact zt4_1 | exact zt4_2)) | (exfalso; first | contradiction | omega)
    · try simp only [lq_n L hp, lq_S L hp, lq_cl L hp, lq_T L hp, lq_is L hp, lq_st2 L hp, lq_co L hp, lq_fn L hp, lq_ml L hp, lq_wl L hp, lq_sv L hp, lq_rs L hp, lq_rp L hp, lq_ar L hp, lq_hol L hp, lq_GG L hp, lq_Ro L hp, lq_gl L, gp, g2, g4, g5, g6, g7, g9, g11, g45, z45] at e0 e1 e2 j ⊢
      first | exact k2 h' (I.q q j (by first | decide | (repeat' split) <;> first | exact zt4_0 | exact zt4_1 | exact zt4_2)) | (exfalso; first | contradiction | omega)
    · try simp only [lq_n L hp, lq_S L hp, lq_cl L hp, lq_T L hp, lq_is L hp, lq_st2 L hp, lq_co L hp, lq_fn L hp, lq_ml L hp, lq_wl L hp, lq_sv L hp, lq_rs L hp, lq_rp L hp, lq_ar L hp, lq_hol L hp, lq_GG L hp, lq_Ro L hp, lq_gl L, gp, g2, g4, g5, g6, g7, g9, g11, g45, z45] at e0 e1 j ⊢
      first | exact k2 h' (I.q q j (by first | decide | (repeat' split) <;> first | exact zt4_0 | exact zt4_1 | exact zt4_2)) | (exfalso; first | contradiction | omega)
  · suffices hs : ∀ h1, zQh h h1 (0) → zCC X M_X9_turnAt [.ref 78, .int (zj a)] h1 R2 from hs _ (zQh_gh h _ _ _ _)
    intro h1 q
    have o := I.oq q
    have L := q.lq
    have hp := I.hp
    have hv1 := I.v.1
    have hn : ((zn h p : Nat) : Int) = gz h p 1 := by unfold zn; omega
    have gp : ∀ y, gz h1 p y = gz h p y := L.gz (by omega)
    have g2 : ∀ y, gz h1 (p + 2) y = gz h (p + 2) y := L.gz (by omega)
    have g4 : ∀ y, gz h1 (p + 4) y = gz h (p + 4) y := L.gz (by omega)
    have g5 : ∀ y, gz h1 (p + 5) y = gz h (p + 5) y := L.gz (by omega)
    have g6 : ∀ y, gz h1 (p + 6) y = gz h (p + 6) y := L.gz (by omega)
    have g7 : ∀ y, gz h1 (p + 7) y = gz h (p + 7) y := L.gz (by omega)
    have g9 : ∀ y, gz h1 (p + 9) y = gz h (p + 9) y := L.gz (by omega)
    have g11 : ∀ y, gz h1 (p + 11) y = gz h (p + 11) y := L.gz (by omega)
    have g45 : ∀ y, gz h1 45 y = gz h 45 y := L.gz (by omega)
    have z45 : ∀ y, zgi h1 45 y = zgi h 45 y := fun y => L.2.2 45 y (by omega)
    refine cq_turnAt o ha1 ha2 (fun e0 h' j => ?_) (fun e0 e1 h' j => ?_) (fun e0 e1 e2 h' j => ?_) (fun e0 e1 h' j => ?_)
    · try simp only [lq_n L hp, lq_S L hp, lq_cl L hp, lq_T L hp, lq_is L hp, lq_st2 L hp, lq_co L hp, lq_fn L hp, lq_ml L hp, lq_wl L hp, lq_sv L hp, lq_rs L hp, lq_rp L hp, lq_ar L hp, lq_hol L hp, lq_GG L hp, lq_Ro L hp, lq_gl L, gp, g2, g4, g5, g6, g7, g9, g11, g45, z45] at e0 j ⊢
      first | exact k2 h' (I.q q j (by first | decide | (repeat' split) <;> first | exact zt4_0 | exact zt4_1 | exact zt4_2)) | (exfalso; first | contradiction | omega)
    · try simp only [lq_n L hp, lq_S L hp, lq_cl L hp, lq_T L hp, lq_is L hp, lq_st2 L hp, lq_co L hp, lq_fn L hp, lq_ml L hp, lq_wl L hp, lq_sv L hp, lq_rs L hp, lq_rp L hp, lq_ar L hp, lq_hol L hp, lq_GG L hp, lq_Ro L hp, lq_gl L, gp, g2, g4, g5, g6, g7, g9, g11, g45, z45] at e0 e1 j ⊢
      first | exact k2 h' (I.q q j (by first | decide | (repeat' split) <;> first | exact zt4_0 | exact zt4_1 | exact zt4_2)) | (exfalso; first | contradiction | omega)
    · try simp only [lq_n L hp, lq_S L hp, lq_cl L hp, lq_T L hp, lq_is L hp, lq_st2 L hp, lq_co L hp, lq_fn L hp, lq_ml L hp, lq_wl L hp, lq_sv L hp, lq_rs L hp, lq_rp L hp, lq_ar L hp, lq_hol L hp, lq_GG L hp, lq_Ro L hp, lq_gl L, gp, g2, g4, g5, g6, g7, g9, g11, g45, z45] at e0 e1 e2 j ⊢
      first | exact k2 h' (I.q q j (by first | decide | (repeat' split) <;> first | exact zt4_0 | exact zt4_1 | exact zt4_2)) | (exfalso; first | contradiction | omega)
    · try simp only [lq_n L hp, lq_S L hp, lq_cl L hp, lq_T L hp, lq_is L hp, lq_st2 L hp, lq_co L hp, lq_fn L hp, lq_ml L hp, lq_wl L hp, lq_sv L hp, lq_rs L hp, lq_rp L hp, lq_ar L hp, lq_hol L hp, lq_GG L hp, lq_Ro L hp, lq_gl L, gp, g2, g4, g5, g6, g7, g9, g11, g45, z45] at e0 e1 j ⊢
      first | exact k2 h' (I.q q j (by first | decide | (repeat' split) <;> first | exact zt4_0 | exact zt4_1 | exact zt4_2)) | (exfalso; first | contradiction | omega)
theorem st_bestTurn  (I : zI h d p) (k : ∀ x h1, zsh h1 78 = some (.inl 9) → (∀ R2 : zRt, (∀ h2, zI h2 d p → R2 (some (.int x)) h2) → zCC X M_X9_bestTurn [.ref 78] h1 R2) → R (some (.int x)) h1) : zCC X M_X7_bestTurn [.ref 16] h R := by
  refine cx_bestTurn I.w I.v I.u (k _ _ (by first | exact I.s78 | exact I.s78q (zQh_gh h _ _ _ _) | exact I.s78q (zQh_sk h _ _ _ _)) (fun R2 k2 => ?_))
  suffices hs : ∀ h1, zQh h h1 ((if gz h p 1 = 0 then (1, -1) else ((0 : Int), ((zmt2 (fun i : Nat => zpop 12 (zset (fun b => zcl h p ((i : Int) + (-3)) (((i : Int) + (-3)).tdiv 2) b = gz h (p + 5) b) (zn h p))) 7).1 : Int))).1) → zCC X M_X9_bestTurn [.ref 78] h1 R2 from hs _ (zQh_pi h _)
  intro h1 q
  have o := I.oq q
  have L := q.lq
  have hp := I.hp
  have hv1 := I.v.1
  have hn : ((zn h p : Nat) : Int) = gz h p 1 := by unfold zn; omega
  have gp : ∀ y, gz h1 p y = gz h p y := L.gz (by omega)
  have g2 : ∀ y, gz h1 (p + 2) y = gz h (p + 2) y := L.gz (by omega)
  have g4 : ∀ y, gz h1 (p + 4) y = gz h (p + 4) y := L.gz (by omega)
  have g5 : ∀ y, gz h1 (p + 5) y = gz h (p + 5) y := L.gz (by omega)
  have g6 : ∀ y, gz h1 (p + 6) y = gz h (p + 6) y := L.gz (by omega)
  have g7 : ∀ y, gz h1 (p + 7) y = gz h (p + 7) y := L.gz (by omega)
  have g9 : ∀ y, gz h1 (p + 9) y = gz h (p + 9) y := L.gz (by omega)
  have g11 : ∀ y, gz h1 (p + 11) y = gz h (p + 11) y := L.gz (by omega)
  have g45 : ∀ y, gz h1 45 y = gz h 45 y := L.gz (by omega)
  have z45 : ∀ y, zgi h1 45 y = zgi h 45 y := fun y => L.2.2 45 y (by omega)
  refine cq_bestTurn o (fun  h' j => ?_)
  try simp only [lq_n L hp, lq_S L hp, lq_cl L hp, lq_T L hp, lq_is L hp, lq_st2 L hp, lq_co L hp, lq_fn L hp, lq_ml L hp, lq_wl L hp, lq_sv L hp, lq_rs L hp, lq_rp L hp, lq_ar L hp, lq_hol L hp, lq_GG L hp, lq_Ro L hp, lq_gl L, gp, g2, g4, g5, g6, g7, g9, g11, g45, z45] at  j ⊢
  first | exact k2 h' (I.q q j (by first | decide | (repeat' split) <;> first | exact zt4_0 | exact zt4_1 | exact zt4_2)) | (exfalso; first | contradiction | omega)
theorem st_can {a b : Int} (ha1 : -2147483648 ≤ a) (ha2 : a < 2147483648) (hb1 : -2147483648 ≤ b) (hb2 : b < 2147483648) (I : zI h d p) (k : ∀ x h1, zsh h1 78 = some (.inl 9) → (∀ R2 : zRt, (∀ h2, zI h2 d p → R2 (some (.int x)) h2) → zCC X M_X9_can [.ref 78, .int (zj a), .int (zj b)] h1 R2) → R (some (.int x)) h1) : zCC X M_X7_can [.ref 16, .int (zj a), .int (zj b)] h R := by
  refine cx_can I.w I.v I.u ha1 ha2 hb1 hb2 (k _ _ (by first | exact I.s78 | exact I.s78q (zQh_gh h _ _ _ _) | exact I.s78q (zQh_sk h _ _ _ _)) (fun R2 k2 => ?_))
  suffices hs : ∀ h1, zQh h h1 ((if 0 ≤ a ∧ a < gz h p 1 then (if 0 ≤ b ∧ b < 12 then ((0 : Int), (@ite _ ((zS h p a.toNat = 3 ∧ b = gz h 45 a.toNat) ∨ (¬ zS h p a.toNat = 3 ∧ (¬ zS h p a.toNat = 0 ∨ (b - gz h 45 a.toNat) % 2 = 0))) (Classical.propDecidable _) 1 0 : Int)) else (2, -1)) else (1, -1)).1) → zCC X M_X9_can [.ref 78, .int (zj a), .int (zj b)] h1 R2 from hs _ (zQh_pi h _)
  intro h1 q
  have o := I.oq q
  have L := q.lq
  have hp := I.hp
  have hv1 := I.v.1
  have hn : ((zn h p : Nat) : Int) = gz h p 1 := by unfold zn; omega
  have gp : ∀ y, gz h1 p y = gz h p y := L.gz (by omega)
  have g2 : ∀ y, gz h1 (p + 2) y = gz h (p + 2) y := L.gz (by omega)
  have g4 : ∀ y, gz h1 (p + 4) y = gz h (p + 4) y := L.gz (by omega)
  have g5 : ∀ y, gz h1 (p + 5) y = gz h (p + 5) y := L.gz (by omega)
  have g6 : ∀ y, gz h1 (p + 6) y = gz h (p + 6) y := L.gz (by omega)
  have g7 : ∀ y, gz h1 (p + 7) y = gz h (p + 7) y := L.gz (by omega)
  have g9 : ∀ y, gz h1 (p + 9) y = gz h (p + 9) y := L.gz (by omega)
  have g11 : ∀ y, gz h1 (p + 11) y = gz h (p + 11) y := L.gz (by omega)
  have g45 : ∀ y, gz h1 45 y = gz h 45 y := L.gz (by omega)
  have z45 : ∀ y, zgi h1 45 y = zgi h 45 y := fun y => L.2.2 45 y (by omega)
  refine cq_can o ha1 ha2 hb1 hb2 (fun  h' j => ?_)
  skip
  repeat rw [lq_n L hp] at j
  repeat rw [lq_n L hp]
  repeat rw [lq_S L hp] at j
  repeat rw [lq_S L hp]
  repeat rw [lq_cl L hp] at j
  repeat rw [lq_cl L hp]
  repeat rw [lq_T L hp] at j
  repeat rw [lq_T L hp]
  repeat rw [lq_is L hp] at j
  repeat rw [lq_is L hp]
  repeat rw [lq_st2 L hp] at j
  repeat rw [lq_st2 L hp]
  repeat rw [lq_co L hp] at j
  repeat rw [lq_co L hp]
  repeat rw [lq_fn L hp] at j
  repeat rw [lq_fn L hp]
  repeat rw [lq_ml L hp] at j
  repeat rw [lq_ml L hp]
  repeat rw [lq_wl L hp] at j
  repeat rw [lq_wl L hp]
  repeat rw [lq_sv L hp] at j
  repeat rw [lq_sv L hp]
  repeat rw [lq_rs L hp] at j
  repeat rw [lq_rs L hp]
  repeat rw [lq_rp L hp] at j
  repeat rw [lq_rp L hp]
  repeat rw [lq_ar L hp] at j
  repeat rw [lq_ar L hp]
  repeat rw [lq_hol L hp] at j
  repeat rw [lq_hol L hp]
  repeat rw [lq_GG L hp] at j
  repeat rw [lq_GG L hp]
  repeat rw [lq_Ro L hp] at j
  repeat rw [lq_Ro L hp]
  repeat rw [lq_gl L] at j
  repeat rw [lq_gl L]
  repeat rw [gp] at j
  repeat rw [gp]
  repeat rw [g2] at j
  repeat rw [g2]
  repeat rw [g4] at j
  repeat rw [g4]
  repeat rw [g5] at j
  repeat rw [g5]
  repeat rw [g6] at j
  repeat rw [g6]
  repeat rw [g7] at j
  repeat rw [g7]
  repeat rw [g9] at j
  repeat rw [g9]
  repeat rw [g11] at j
  repeat rw [g11]
  repeat rw [g45] at j
  repeat rw [g45]
  repeat rw [z45] at j
  repeat rw [z45]
  first | exact k2 h' (I.q q j (by first | decide | (repeat' split) <;> first | exact zt4_0 | exact zt4_1 | exact zt4_2)) | (exfalso; first | contradiction | omega)
theorem st_made {a : Int} (ha1 : -2147483648 ≤ a) (ha2 : a < 2147483648) (I : zI h d p) (k : ∀ x h1, zsh h1 78 = some (.inl 9) → (∀ R2 : zRt, (∀ h2, zI h2 d p → R2 (some (.int x)) h2) → zCC X M_X9_made [.ref 78, .int (zj a)] h1 R2) → R (some (.int x)) h1) : zCC X M_X7_made [.ref 16, .int (zj a)] h R := by
  refine cx_made I.w I.v I.u I.r ha1 ha2 (fun c0 => k _ _ (by first | exact I.s78 | exact I.s78q (zQh_gh h _ _ _ _) | exact I.s78q (zQh_sk h _ _ _ _)) (fun R2 k2 => ?_)) (fun c0 c1 => k _ _ (by first | exact I.s78 | exact I.s78q (zQh_gh h _ _ _ _) | exact I.s78q (zQh_sk h _ _ _ _)) (fun R2 k2 => ?_)) (fun c0 c1 => k _ _ (by first | exact I.s78 | exact I.s78q (zQh_gh h _ _ _ _) | exact I.s78q (zQh_sk h _ _ _ _)) (fun R2 k2 => ?_))
  · suffices hs : ∀ h1, zQh h h1 (1) → zCC X M_X9_made [.ref 78, .int (zj a)] h1 R2 from hs _ (zQh_pi h _)
    intro h1 q
    have o := I.oq q
    have L := q.lq
    have hp := I.hp
    have hv1 := I.v.1
    have hn : ((zn h p : Nat) : Int) = gz h p 1 := by unfold zn; omega
    have gp : ∀ y, gz h1 p y = gz h p y := L.gz (by omega)
    have g2 : ∀ y, gz h1 (p + 2) y = gz h (p + 2) y := L.gz (by omega)
    have g4 : ∀ y, gz h1 (p + 4) y = gz h (p + 4) y := L.gz (by omega)
    have g5 : ∀ y, gz h1 (p + 5) y = gz h (p + 5) y := L.gz (by omega)
    have g6 : ∀ y, gz h1 (p + 6) y = gz h (p + 6) y := L.gz (by omega)
    have g7 : ∀ y, gz h1 (p + 7) y = gz h (p + 7) y := L.gz (by omega)
    have g9 : ∀ y, gz h1 (p + 9) y = gz h (p + 9) y := L.gz (by omega)
    have g11 : ∀ y, gz h1 (p + 11) y = gz h (p + 11) y := L.gz (by omega)
    have g45 : ∀ y, gz h1 45 y = gz h 45 y := L.gz (by omega)
    have z45 : ∀ y, zgi h1 45 y = zgi h 45 y := fun y => L.2.2 45 y (by omega)
    refine cq_made o ha1 ha2 (fun e0 h' j => ?_) (fun e0 e1 h' j => ?_) (fun e0 e1 h' j => ?_)
    · try simp only [lq_n L hp, lq_S L hp, lq_cl L hp, lq_T L hp, lq_is L hp, lq_st2 L hp, lq_co L hp, lq_fn L hp, lq_ml L hp, lq_wl L hp, lq_sv L hp, lq_rs L hp, lq_rp L hp, lq_ar L hp, lq_hol L hp, lq_GG L hp, lq_Ro L hp, lq_gl L, gp, g2, g4, g5, g6, g7, g9, g11, g45, z45] at e0 j ⊢
      first | exact k2 h' (I.q q j (by first | decide | (repeat' split) <;> first | exact zt4_0 | exact zt4_1 | exact zt4_2)) | (exfalso; first | contradiction | omega)
    · try simp only [lq_n L hp, lq_S L hp, lq_cl L hp, lq_T L hp, lq_is L hp, lq_st2 L hp, lq_co L hp, lq_fn L hp, lq_ml L hp, lq_wl L hp, lq_sv L hp, lq_rs L hp, lq_rp L hp, lq_ar L hp, lq_hol L hp, lq_GG L hp, lq_Ro L hp, lq_gl L, gp, g2, g4, g5, g6, g7, g9, g11, g45, z45] at e0 e1 j ⊢
      first | exact k2 h' (I.q q j (by first | decide | (repeat' split) <;> first | exact zt4_0 | exact zt4_1 | exact zt4_2)) | (exfalso; first | contradiction | omega)
    · try simp only [lq_n L hp, lq_S L hp, lq_cl L hp, lq_T L hp, lq_is L hp, lq_st2 L hp, lq_co L hp, lq_fn L hp, lq_ml L hp, lq_wl L hp, lq_sv L hp, lq_rs L hp, lq_rp L hp, lq_ar L hp, lq_hol L hp, lq_GG L hp, lq_Ro L hp, lq_gl L, gp, g2, g4, g5, g6, g7, g9, g11, g45, z45] at e0 e1 j ⊢
      first | exact k2 h' (I.q q j (by first | decide | (repeat' split) <;> first | exact zt4_0 | exact zt4_1 | exact zt4_2)) | (exfalso; first | contradiction | omega)
  · suffices hs : ∀ h1, zQh h h1 (2) → zCC X M_X9_made [.ref 78, .int (zj a)] h1 R2 from hs _ (zQh_pi h _)
    intro h1 q
    have o := I.oq q
    have L := q.lq
    have hp := I.hp
    have hv1 := I.v.1
    have hn : ((zn h p : Nat) : Int) = gz h p 1 := by unfold zn; omega
    have gp : ∀ y, gz h1 p y = gz h p y := L.gz (by omega)
    have g2 : ∀ y, gz h1 (p + 2) y = gz h (p + 2) y := L.gz (by omega)
    have g4 : ∀ y, gz h1 (p + 4) y = gz h (p + 4) y := L.gz (by omega)
    have g5 : ∀ y, gz h1 (p + 5) y = gz h (p + 5) y := L.gz (by omega)
    have g6 : ∀ y, gz h1 (p + 6) y = gz h (p + 6) y := L.gz (by omega)
    have g7 : ∀ y, gz h1 (p + 7) y = gz h (p + 7) y := L.gz (by omega)
    have g9 : ∀ y, gz h1 (p + 9) y = gz h (p + 9) y := L.gz (by omega)
    have g11 : ∀ y, gz h1 (p + 11) y = gz h (p + 11) y := L.gz (by omega)
    have g45 : ∀ y, gz h1 45 y = gz h 45 y := L.gz (by omega)
    have z45 : ∀ y, zgi h1 45 y = zgi h 45 y := fun y => L.2.2 45 y (by omega)
    refine cq_made o ha1 ha2 (fun e0 h' j => ?_) (fun e0 e1 h' j => ?_) (fun e0 e1 h' j => ?_)
    · try simp only [lq_n L hp, lq_S L hp, lq_cl L hp, lq_T L hp, lq_is L hp, lq_st2 L hp, lq_co L hp, lq_fn L hp, lq_ml L hp, lq_wl L hp, lq_sv L hp, lq_rs L hp, lq_rp L hp, lq_ar L hp, lq_hol L hp, lq_GG L hp, lq_Ro L hp, lq_gl L, gp, g2, g4, g5, g6, g7, g9, g11, g45, z45] at e0 j ⊢
      first | exact k2 h' (I.q q j (by first | decide | (repeat' split) <;> first | exact zt4_0 | exact zt4_1 | exact zt4_2)) | (exfalso; first | contradiction | omega)
    · try simp only [lq_n L hp, lq_S L hp, lq_cl L hp, lq_T L hp, lq_is L hp, lq_st2 L hp, lq_co L hp, lq_fn L hp, lq_ml L hp, lq_wl L hp, lq_sv L hp, lq_rs L hp, lq_rp L hp, lq_ar L hp, lq_hol L hp, lq_GG L hp, lq_Ro L hp, lq_gl L, gp, g2, g4, g5, g6, g7, g9, g11, g45, z45] at e0 e1 j ⊢
      first | exact k2 h' (I.q q j (by first | decide | (repeat' split) <;> first | exact zt4_0 | exact zt4_1 | exact zt4_2)) | (exfalso; first | contradiction | omega)
    · try simp only [lq_n L hp, lq_S L hp, lq_cl L hp, lq_T L hp, lq_is L hp, lq_st2 L hp, lq_co L hp, lq_fn L hp, lq_ml L hp, lq_wl L hp, lq_sv L hp, lq_rs L hp, lq_rp L hp, lq_ar L hp, lq_hol L hp, lq_GG L hp, lq_Ro L hp, lq_gl L, gp, g2, g4, g5, g6, g7, g9, g11, g45, z45] at e0 e1 j ⊢
      first | exact k2 h' (I.q q j (by first | decide | (repeat' split) <;> first | exact zt4_0 | exact zt4_1 | exact zt4_2)) | (exfalso; first | contradiction | omega)
  · suffices hs : ∀ h1, zQh h h1 (0) → zCC X M_X9_made [.ref 78, .int (zj a)] h1 R2 from hs _ (zQh_gh h _ _ _ _)
    intro h1 q
    have o := I.oq q
    have L := q.lq
    have hp := I.hp
    have hv1 := I.v.1
    have hn : ((zn h p : Nat) : Int) = gz h p 1 := by unfold zn; omega
    have gp : ∀ y, gz h1 p y = gz h p y := L.gz (by omega)
    have g2 : ∀ y, gz h1 (p + 2) y = gz h (p + 2) y := L.gz (by omega)
    have g4 : ∀ y, gz h1 (p + 4) y = gz h (p + 4) y := L.gz (by omega)
    have g5 : ∀ y, gz h1 (p + 5) y = gz h (p + 5) y := L.gz (by omega)
    have g6 : ∀ y, gz h1 (p + 6) y = gz h (p + 6) y := L.gz (by omega)
    have g7 : ∀ y, gz h1 (p + 7) y = gz h (p + 7) y := L.gz (by omega)
    have g9 : ∀ y, gz h1 (p + 9) y = gz h (p + 9) y := L.gz (by omega)
    have g11 : ∀ y, gz h1 (p + 11) y = gz h (p + 11) y := L.gz (by omega)
    have g45 : ∀ y, gz h1 45 y = gz h 45 y := L.gz (by omega)
    have z45 : ∀ y, zgi h1 45 y = zgi h 45 y := fun y => L.2.2 45 y (by omega)
    refine cq_made o ha1 ha2 (fun e0 h' j => ?_) (fun e0 e1 h' j => ?_) (fun e0 e1 h' j => ?_)
    · try simp only [lq_n L hp, lq_S L hp, lq_cl L hp, lq_T L hp, lq_is L hp, lq_st2 L hp, lq_co L hp, lq_fn L hp, lq_ml L hp, lq_wl L hp, lq_sv L hp, lq_rs L hp, lq_rp L hp, lq_ar L hp, lq_hol L hp, lq_GG L hp, lq_Ro L hp, lq_gl L, gp, g2, g4, g5, g6, g7, g9, g11, g45, z45] at e0 j ⊢
      first | exact k2 h' (I.q q j (by first | decide | (repeat' split) <;> first | exact zt4_0 | exact zt4_1 | exact zt4_2)) | (exfalso; first | contradiction | omega)
    · try simp only [lq_n L hp, lq_S L hp, lq_cl L hp, lq_T L hp, lq_is L hp, lq_st2 L hp, lq_co L hp, lq_fn L hp, lq_ml L hp, lq_wl L hp, lq_sv L hp, lq_rs L hp, lq_rp L hp, lq_ar L hp, lq_hol L hp, lq_GG L hp, lq_Ro L hp, lq_gl L, gp, g2, g4, g5, g6, g7, g9, g11, g45, z45] at e0 e1 j ⊢
      first | exact k2 h' (I.q q j (by first | decide | (repeat' split) <;> first | exact zt4_0 | exact zt4_1 | exact zt4_2)) | (exfalso; first | contradiction | omega)
    · try simp only [lq_n L hp, lq_S L hp, lq_cl L hp, lq_T L hp, lq_is L hp, lq_st2 L hp, lq_co L hp, lq_fn L hp, lq_ml L hp, lq_wl L hp, lq_sv L hp, lq_rs L hp, lq_rp L hp, lq_ar L hp, lq_hol L hp, lq_GG L hp, lq_Ro L hp, lq_gl L, gp, g2, g4, g5, g6, g7, g9, g11, g45, z45] at e0 e1 j ⊢
      first | exact k2 h' (I.q q j (by first | decide | (repeat' split) <;> first | exact zt4_0 | exact zt4_1 | exact zt4_2)) | (exfalso; first | contradiction | omega)
theorem st_madeAt {a b : Int} (ha1 : -2147483648 ≤ a) (ha2 : a < 2147483648) (hb1 : -2147483648 ≤ b) (hb2 : b < 2147483648) (I : zI h d p) (k : ∀ x h1, zsh h1 78 = some (.inl 9) → (∀ R2 : zRt, (∀ h2, zI h2 d p → R2 (some (.int x)) h2) → zCC X M_X9_madeAt [.ref 78, .int (zj a), .int (zj b)] h1 R2) → R (some (.int x)) h1) : zCC X M_X7_madeAt [.ref 16, .int (zj a), .int (zj b)] h R := by
  refine cx_madeAt I.w I.v I.u I.r ha1 ha2 hb1 hb2 (fun c0 => k _ _ (by first | exact I.s78 | exact I.s78q (zQh_gh h _ _ _ _) | exact I.s78q (zQh_sk h _ _ _ _)) (fun R2 k2 => ?_)) (fun c0 c1 => k _ _ (by first | exact I.s78 | exact I.s78q (zQh_gh h _ _ _ _) | exact I.s78q (zQh_sk h _ _ _ _)) (fun R2 k2 => ?_)) (fun c0 c1 c2 => k _ _ (by first | exact I.s78 | exact I.s78q (zQh_gh h _ _ _ _) | exact I.s78q (zQh_sk h _ _ _ _)) (fun R2 k2 => ?_)) (fun c0 c1 c2 => k _ _ (by first | exact I.s78 | exact I.s78q (zQh_gh h _ _ _ _) | exact I.s78q (zQh_sk h _ _ _ _)) (fun R2 k2 => ?_))
  · suffices hs : ∀ h1, zQh h h1 (1) → zCC X M_X9_madeAt [.ref 78, .int (zj a), .int (zj b)] h1 R2 from hs _ (zQh_pi h _)
    intro h1 q
    have o := I.oq q
    have L := q.lq
    have hp := I.hp
    have hv1 := I.v.1
    have hn : ((zn h p : Nat) : Int) = gz h p 1 := by unfold zn; omega
    have gp : ∀ y, gz h1 p y = gz h p y := L.gz (by omega)
    have g2 : ∀ y, gz h1 (p + 2) y = gz h (p + 2) y := L.gz (by omega)
    have g4 : ∀ y, gz h1 (p + 4) y = gz h (p + 4) y := L.gz (by omega)
    have g5 : ∀ y, gz h1 (p + 5) y = gz h (p + 5) y := L.gz (by omega)
    have g6 : ∀ y, gz h1 (p + 6) y = gz h (p + 6) y := L.gz (by omega)
    have g7 : ∀ y, gz h1 (p + 7) y = gz h (p + 7) y := L.gz (by omega)
    have g9 : ∀ y, gz h1 (p + 9) y = gz h (p + 9) y := L.gz (by omega)
    have g11 : ∀ y, gz h1 (p + 11) y = gz h (p + 11) y := L.gz (by omega)
    have g45 : ∀ y, gz h1 45 y = gz h 45 y := L.gz (by omega)
    have z45 : ∀ y, zgi h1 45 y = zgi h 45 y := fun y => L.2.2 45 y (by omega)
    refine cq_madeAt o ha1 ha2 hb1 hb2 (fun e0 h' j => ?_) (fun e0 e1 h' j => ?_) (fun e0 e1 e2 h' j => ?_) (fun e0 e1 e2 h' j => ?_)
    · try simp only [lq_n L hp, lq_S L hp, lq_cl L hp, lq_T L hp, lq_is L hp, lq_st2 L hp, lq_co L hp, lq_fn L hp, lq_ml L hp, lq_wl L hp, lq_sv L hp, lq_rs L hp, lq_rp L hp, lq_ar L hp, lq_hol L hp, lq_GG L hp, lq_Ro L hp, lq_gl L, gp, g2, g4, g5, g6, g7, g9, g11, g45, z45] at e0 j ⊢
      first | exact k2 h' (I.q q j (by first | decide | (repeat' split) <;> first | exact zt4_0 | exact zt4_1 | exact zt4_2)) | (exfalso; first | contradiction | omega)
    · try simp only [lq_n L hp, lq_S L hp, lq_cl L hp, lq_T L hp, lq_is L hp, lq_st2 L hp, lq_co L hp, lq_fn L hp, lq_ml L hp, lq_wl L hp, lq_sv L hp, lq_rs L hp, lq_rp L hp, lq_ar L hp, lq_hol L hp, lq_GG L hp, lq_Ro L hp, lq_gl L, gp, g2, g4, g5, g6, g7, g9, g11, g45, z45] at e0 e1 j ⊢
      first | exact k2 h' (I.q q j (by first | decide | (repeat' split) <;> first | exact zt4_0 | exact zt4_1 | exact zt4_2)) | (exfalso; first | contradiction | omega)
    · try simp only [lq_n L hp, lq_S L hp, lq_cl L hp, lq_T L hp, lq_is L hp, lq_st2 L hp, lq_co L hp, lq_fn L hp, lq_ml L hp, lq_wl L hp, lq_sv L hp, lq_rs L hp, lq_rp L hp, lq_ar L hp, lq_hol L hp, lq_GG L hp, lq_Ro L hp, lq_gl L, gp, g2, g4, g5, g6, g7, g9, g11, g45, z45] at e0 e1 e2 j ⊢
      first | exact k2 h' (I.q q j (by first | decide | (repeat' split) <;> first | exact zt4_0 | exact zt4_1 | exact zt4_2)) | (exfalso; first | contradiction | omega)
    · try simp only [lq_n L hp, lq_S L hp, lq_cl L hp, lq_T L hp, lq_is L hp, lq_st2 L hp, lq_co L hp, lq_fn L hp, lq_ml L hp, lq_wl L hp, lq_sv L hp, lq_rs L hp, lq_rp L hp, lq_ar L hp, lq_hol L hp, lq_GG L hp, lq_Ro L hp, lq_gl L, gp, g2, g4, g5, g6, g7, g9, g11, g45, z45] at e0 e1 e2 j ⊢
      first | exact k2 h' (I.q q j (by first | decide | (repeat' split) <;> first | exact zt4_0 | exact zt4_1 | exact zt4_2)) | (exfalso; first | contradiction | omega)
  · suffices hs : ∀ h1, zQh h h1 (2) → zCC X M_X9_madeAt [.ref 78, .int (zj a), .int (zj b)] h1 R2 from hs _ (zQh_pi h _)
    intro h1 q
    have o := I.oq q
    have L := q.lq
    have hp := I.hp
    have hv1 := I.v.1
    have hn : ((zn h p : Nat) : Int) = gz h p 1 := by unfold zn; omega
    have gp : ∀ y, gz h1 p y = gz h p y := L.gz (by omega)
    have g2 : ∀ y, gz h1 (p + 2) y = gz h (p + 2) y := L.gz (by omega)
    have g4 : ∀ y, gz h1 (p + 4) y = gz h (p + 4) y := L.gz (by omega)
    have g5 : ∀ y, gz h1 (p + 5) y = gz h (p + 5) y := L.gz (by omega)
    have g6 : ∀ y, gz h1 (p + 6) y = gz h (p + 6) y := L.gz (by omega)
    have g7 : ∀ y, gz h1 (p + 7) y = gz h (p + 7) y := L.gz (by omega)
    have g9 : ∀ y, gz h1 (p + 9) y = gz h (p + 9) y := L.gz (by omega)
    have g11 : ∀ y, gz h1 (p + 11) y = gz h (p + 11) y := L.gz (by omega)
    have g45 : ∀ y, gz h1 45 y = gz h 45 y := L.gz (by omega)
    have z45 : ∀ y, zgi h1 45 y = zgi h 45 y := fun y => L.2.2 45 y (by omega)
    refine cq_madeAt o ha1 ha2 hb1 hb2 (fun e0 h' j => ?_) (fun e0 e1 h' j => ?_) (fun e0 e1 e2 h' j => ?_) (fun e0 e1 e2 h' j => ?_)
    · try simp only [lq_n L hp, lq_S L hp, lq_cl L hp, lq_T L hp, lq_is L hp, lq_st2 L hp, lq_co L hp, lq_fn L hp, lq_ml L hp, lq_wl L hp, lq_sv L hp, lq_rs L hp, lq_rp L hp, lq_ar L hp, lq_hol L hp, lq_GG L hp, lq_Ro L hp, lq_gl L, gp, g2, g4, g5, g6, g7, g9, g11, g45, z45] at e0 j ⊢
      first | exact k2 h' (I.q q j (by first | decide | (repeat' split) <;> first | exact zt4_0 | exact zt4_1 | exact zt4_2)) | (exfalso; first | contradiction | omega)
    · try simp only [lq_n L hp, lq_S L hp, lq_cl L hp, lq_T L hp, lq_is L hp, lq_st2 L hp, lq_co L hp, lq_fn L hp, lq_ml L hp, lq_wl L hp, lq_sv L hp, lq_rs L hp, lq_rp L hp, lq_ar L hp, lq_hol L hp, lq_GG L hp, lq_Ro L hp, lq_gl L, gp, g2, g4, g5, g6, g7, g9, g11, g45, z45] at e0 e1 j ⊢
      first | exact k2 h' (I.q q j (by first | decide | (repeat' split) <;> first | exact zt4_0 | exact zt4_1 | exact zt4_2)) | (exfalso; first | contradiction | omega)
    · try simp only [lq_n L hp, lq_S L hp, lq_cl L hp, lq_T L hp, lq_is L hp, lq_st2 L hp, lq_co L hp, lq_fn L hp, lq_ml L hp, lq_wl L hp, lq_sv L hp, lq_rs L hp, lq_rp L hp, lq_ar L hp, lq_hol L hp, lq_GG L hp, lq_Ro L hp, lq_gl L, gp, g2, g4, g5, g6, g7, g9, g11, g45, z45] at e0 e1 e2 j ⊢
      first | exact k2 h' (I.q q j (by first | decide | (repeat' split) <;> first | exact zt4_0 | exact zt4_1 | exact zt4_2)) | (exfalso; first | contradiction | omega)
    · try simp only [lq_n L hp, lq_S L hp, lq_cl L hp, lq_T L hp, lq_is L hp, lq_st2 L hp, lq_co L hp, lq_fn L hp, lq_ml L hp, lq_wl L hp, lq_sv L hp, lq_rs L hp, lq_rp L hp, lq_ar L hp, lq_hol L hp, lq_GG L hp, lq_Ro L hp, lq_gl L, gp, g2, g4, g5, g6, g7, g9, g11, g45, z45] at e0 e1 e2 j ⊢
      first | exact k2 h' (I.q q j (by first | decide | (repeat' split) <;> first | exact zt4_0 | exact zt4_1 | exact zt4_2)) | (exfalso; first | contradiction | omega)
  · suffices hs : ∀ h1, zQh h h1 (1) → zCC X M_X9_madeAt [.ref 78, .int (zj a), .int (zj b)] h1 R2 from hs _ (zQh_gh h _ _ _ _)
    intro h1 q
    have o := I.oq q
    have L := q.lq
    have hp := I.hp
    have hv1 := I.v.1
    have hn : ((zn h p : Nat) : Int) = gz h p 1 := by unfold zn; omega
    have gp : ∀ y, gz h1 p y = gz h p y := L.gz (by omega)
    have g2 : ∀ y, gz h1 (p + 2) y = gz h (p + 2) y := L.gz (by omega)
    have g4 : ∀ y, gz h1 (p + 4) y = gz h (p + 4) y := L.gz (by omega)
    have g5 : ∀ y, gz h1 (p + 5) y = gz h (p + 5) y := L.gz (by omega)
    have g6 : ∀ y, gz h1 (p + 6) y = gz h (p + 6) y := L.gz (by omega)
    have g7 : ∀ y, gz h1 (p + 7) y = gz h (p + 7) y := L.gz (by omega)
    have g9 : ∀ y, gz h1 (p + 9) y = gz h (p + 9) y := L.gz (by omega)
    have g11 : ∀ y, gz h1 (p + 11) y = gz h (p + 11) y := L.gz (by omega)
    have g45 : ∀ y, gz h1 45 y = gz h 45 y := L.gz (by omega)
    have z45 : ∀ y, zgi h1 45 y = zgi h 45 y := fun y => L.2.2 45 y (by omega)
    refine cq_madeAt o ha1 ha2 hb1 hb2 (fun e0 h' j => ?_) (fun e0 e1 h' j => ?_) (fun e0 e1 e2 h' j => ?_) (fun e0 e1 e2 h' j => ?_)
    · try simp only [lq_n L hp, lq_S L hp, lq_cl L hp, lq_T L hp, lq_is L hp, lq_st2 L hp, lq_co L hp, lq_fn L hp, lq_ml L hp, lq_wl L hp, lq_sv L hp, lq_rs L hp, lq_rp L hp, lq_ar L hp, lq_hol L hp, lq_GG L hp, lq_Ro L hp, lq_gl L, gp, g2, g4, g5, g6, g7, g9, g11, g45, z45] at e0 j ⊢
      first | exact k2 h' (I.q q j (by first | decide | (repeat' split) <;> first | exact zt4_0 | exact zt4_1 | exact zt4_2)) | (exfalso; first | contradiction | omega)
    · try simp only [lq_n L hp, lq_S L hp, lq_cl L hp, lq_T L hp, lq_is L hp, lq_st2 L hp, lq_co L hp, lq_fn L hp, lq_ml L hp, lq_wl L hp, lq_sv L hp, lq_rs L hp, lq_rp L hp, lq_ar L hp, lq_hol L hp, lq_GG L hp, lq_Ro L hp, lq_gl L, gp, g2, g4, g5, g6, g7, g9, g11, g45, z45] at e0 e1 j ⊢
      first | exact k2 h' (I.q q j (by first | decide | (repeat' split) <;> first | exact zt4_0 | exact zt4_1 | exact zt4_2)) | (exfalso; first | contradiction | omega)
    · try simp only [lq_n L hp, lq_S L hp, lq_cl L hp, lq_T L hp, lq_is L hp, lq_st2 L hp, lq_co L hp, lq_fn L hp, lq_ml L hp, lq_wl L hp, lq_sv L hp, lq_rs L hp, lq_rp L hp, lq_ar L hp, lq_hol L hp, lq_GG L hp, lq_Ro L hp, lq_gl L, gp, g2, g4, g5, g6, g7, g9, g11, g45, z45] at e0 e1 e2 j ⊢
      first | exact k2 h' (I.q q j (by first | decide | (repeat' split) <;> first | exact zt4_0 | exact zt4_1 | exact zt4_2)) | (exfalso; first | contradiction | omega)
    · try simp only [lq_n L hp, lq_S L hp, lq_cl L hp, lq_T L hp, lq_is L hp, lq_st2 L hp, lq_co L hp, lq_fn L hp, lq_ml L hp, lq_wl L hp, lq_sv L hp, lq_rs L hp, lq_rp L hp, lq_ar L hp, lq_hol L hp, lq_GG L hp, lq_Ro L hp, lq_gl L, gp, g2, g4, g5, g6, g7, g9, g11, g45, z45] at e0 e1 e2 j ⊢
      first | exact k2 h' (I.q q j (by first | decide | (repeat' split) <;> first | exact zt4_0 | exact zt4_1 | exact zt4_2)) | (exfalso; first | contradiction | omega)
  · suffices hs : ∀ h1, zQh h h1 (0) → zCC X M_X9_madeAt [.ref 78, .int (zj a), .int (zj b)] h1 R2 from hs _ (zQh_gh h _ _ _ _)
    intro h1 q
    have o := I.oq q
    have L := q.lq
    have hp := I.hp
    have hv1 := I.v.1
    have hn : ((zn h p : Nat) : Int) = gz h p 1 := by unfold zn; omega
    have gp : ∀ y, gz h1 p y = gz h p y := L.gz (by omega)
    have g2 : ∀ y, gz h1 (p + 2) y = gz h (p + 2) y := L.gz (by omega)
    have g4 : ∀ y, gz h1 (p + 4) y = gz h (p + 4) y := L.gz (by omega)
    have g5 : ∀ y, gz h1 (p + 5) y = gz h (p + 5) y := L.gz (by omega)
    have g6 : ∀ y, gz h1 (p + 6) y = gz h (p + 6) y := L.gz (by omega)
    have g7 : ∀ y, gz h1 (p + 7) y = gz h (p + 7) y := L.gz (by omega)
    have g9 : ∀ y, gz h1 (p + 9) y = gz h (p + 9) y := L.gz (by omega)
    have g11 : ∀ y, gz h1 (p + 11) y = gz h (p + 11) y := L.gz (by omega)
    have g45 : ∀ y, gz h1 45 y = gz h 45 y := L.gz (by omega)
    have z45 : ∀ y, zgi h1 45 y = zgi h 45 y := fun y => L.2.2 45 y (by omega)
    refine cq_madeAt o ha1 ha2 hb1 hb2 (fun e0 h' j => ?_) (fun e0 e1 h' j => ?_) (fun e0 e1 e2 h' j => ?_) (fun e0 e1 e2 h' j => ?_)
    · try simp only [lq_n L hp, lq_S L hp, lq_cl L hp, lq_T L hp, lq_is L hp, lq_st2 L hp, lq_co L hp, lq_fn L hp, lq_ml L hp, lq_wl L hp, lq_sv L hp, lq_rs L hp, lq_rp L hp, lq_ar L hp, lq_hol L hp, lq_GG L hp, lq_Ro L hp, lq_gl L, gp, g2, g4, g5, g6, g7, g9, g11, g45, z45] at e0 j ⊢
      first | exact k2 h' (I.q q j (by first | decide | (repeat' split) <;> first | exact zt4_0 | exact zt4_1 | exact zt4_2)) | (exfalso; first | contradiction | omega)
    · try simp only [lq_n L hp, lq_S L hp, lq_cl L hp, lq_T L hp, lq_is L hp, lq_st2 L hp, lq_co L hp, lq_fn L hp, lq_ml L hp, lq_wl L hp, lq_sv L hp, lq_rs L hp, lq_rp L hp, lq_ar L hp, lq_hol L hp, lq_GG L hp, lq_Ro L hp, lq_gl L, gp, g2, g4, g5, g6, g7, g9, g11, g45, z45] at e0 e1 j ⊢
      first | exact k2 h' (I.q q j (by first | decide | (repeat' split) <;> first | exact zt4_0 | exact zt4_1 | exact zt4_2)) | (exfalso; first | contradiction | omega)
    · try simp only [lq_n L hp, lq_S L hp, lq_cl L hp, lq_T L hp, lq_is L hp, lq_st2 L hp, lq_co L hp, lq_fn L hp, lq_ml L hp, lq_wl L hp, lq_sv L hp, lq_rs L hp, lq_rp L hp, lq_ar L hp, lq_hol L hp, lq_GG L hp, lq_Ro L hp, lq_gl L, gp, g2, g4, g5, g6, g7, g9, g11, g45, z45] at e0 e1 e2 j ⊢
      first | exact k2 h' (I.q q j (by first | decide | (repeat' split) <;> first | exact zt4_0 | exact zt4_1 | exact zt4_2)) | (exfalso; first | contradiction | omega)
    · try simp only [lq_n L hp, lq_S L hp, lq_cl L hp, lq_T L hp, lq_is L hp, lq_st2 L hp, lq_co L hp, lq_fn L hp, lq_ml L hp, lq_wl L hp, lq_sv L hp, lq_rs L hp, lq_rp L hp, lq_ar L hp, lq_hol L hp, lq_GG L hp, lq_Ro L hp, lq_gl L, gp, g2, g4, g5, g6, g7, g9, g11, g45, z45] at e0 e1 e2 j ⊢
      first | exact k2 h' (I.q q j (by first | decide | (repeat' split) <;> first | exact zt4_0 | exact zt4_1 | exact zt4_2)) | (exfalso; first | contradiction | omega)
theorem st_fewestMade  (I : zI h d p) (k : ∀ x h1, zsh h1 78 = some (.inl 9) → (∀ R2 : zRt, (∀ h2, zI h2 d p → R2 (some (.int x)) h2) → zCC X M_X9_fewestMade [.ref 78] h1 R2) → R (some (.int x)) h1) : zCC X M_X7_fewestMade [.ref 16] h R := by
  refine cx_fewestMade I.w I.v I.u I.r (fun c0 => k _ _ (by first | exact I.s78 | exact I.s78q (zQh_gh h _ _ _ _) | exact I.s78q (zQh_sk h _ _ _ _)) (fun R2 k2 => ?_)) (fun c0 => k _ _ (by first | exact I.s78 | exact I.s78q (zQh_gh h _ _ _ _) | exact I.s78q (zQh_sk h _ _ _ _)) (fun R2 k2 => ?_))
  · suffices hs : ∀ h1, zQh h h1 (1) → zCC X M_X9_fewestMade [.ref 78] h1 R2 from hs _ (zQh_pi h _)
    intro h1 q
    have o := I.oq q
    have L := q.lq
    have hp := I.hp
    have hv1 := I.v.1
    have hn : ((zn h p : Nat) : Int) = gz h p 1 := by unfold zn; omega
    have gp : ∀ y, gz h1 p y = gz h p y := L.gz (by omega)
    have g2 : ∀ y, gz h1 (p + 2) y = gz h (p + 2) y := L.gz (by omega)
    have g4 : ∀ y, gz h1 (p + 4) y = gz h (p + 4) y := L.gz (by omega)
    have g5 : ∀ y, gz h1 (p + 5) y = gz h (p + 5) y := L.gz (by omega)
    have g6 : ∀ y, gz h1 (p + 6) y = gz h (p + 6) y := L.gz (by omega)
    have g7 : ∀ y, gz h1 (p + 7) y = gz h (p + 7) y := L.gz (by omega)
    have g9 : ∀ y, gz h1 (p + 9) y = gz h (p + 9) y := L.gz (by omega)
    have g11 : ∀ y, gz h1 (p + 11) y = gz h (p + 11) y := L.gz (by omega)
    have g45 : ∀ y, gz h1 45 y = gz h 45 y := L.gz (by omega)
    have z45 : ∀ y, zgi h1 45 y = zgi h 45 y := fun y => L.2.2 45 y (by omega)
    refine cq_fewestMade o (fun e0 h' j => ?_) (fun e0 h' j => ?_)
    · try simp only [lq_n L hp, lq_S L hp, lq_cl L hp, lq_T L hp, lq_is L hp, lq_st2 L hp, lq_co L hp, lq_fn L hp, lq_ml L hp, lq_wl L hp, lq_sv L hp, lq_rs L hp, lq_rp L hp, lq_ar L hp, lq_hol L hp, lq_GG L hp, lq_Ro L hp, lq_gl L, gp, g2, g4, g5, g6, g7, g9, g11, g45, z45] at e0 j ⊢
      first | exact k2 h' (I.q q j (by first | decide | (repeat' split) <;> first | exact zt4_0 | exact zt4_1 | exact zt4_2)) | (exfalso; first | contradiction | omega)
    · try simp only [lq_n L hp, lq_S L hp, lq_cl L hp, lq_T L hp, lq_is L hp, lq_st2 L hp, lq_co L hp, lq_fn L hp, lq_ml L hp, lq_wl L hp, lq_sv L hp, lq_rs L hp, lq_rp L hp, lq_ar L hp, lq_hol L hp, lq_GG L hp, lq_Ro L hp, lq_gl L, gp, g2, g4, g5, g6, g7, g9, g11, g45, z45] at e0 j ⊢
      first | exact k2 h' (I.q q j (by first | decide | (repeat' split) <;> first | exact zt4_0 | exact zt4_1 | exact zt4_2)) | (exfalso; first | contradiction | omega)
  · suffices hs : ∀ h1, zQh h h1 (0) → zCC X M_X9_fewestMade [.ref 78] h1 R2 from hs _ (zQh_gh h _ _ _ _)
    intro h1 q
    have o := I.oq q
    have L := q.lq
    have hp := I.hp
    have hv1 := I.v.1
    have hn : ((zn h p : Nat) : Int) = gz h p 1 := by unfold zn; omega
    have gp : ∀ y, gz h1 p y = gz h p y := L.gz (by omega)
    have g2 : ∀ y, gz h1 (p + 2) y = gz h (p + 2) y := L.gz (by omega)
    have g4 : ∀ y, gz h1 (p + 4) y = gz h (p + 4) y := L.gz (by omega)
    have g5 : ∀ y, gz h1 (p + 5) y = gz h (p + 5) y := L.gz (by omega)
    have g6 : ∀ y, gz h1 (p + 6) y = gz h (p + 6) y := L.gz (by omega)
    have g7 : ∀ y, gz h1 (p + 7) y = gz h (p + 7) y := L.gz (by omega)
    have g9 : ∀ y, gz h1 (p + 9) y = gz h (p + 9) y := L.gz (by omega)
    have g11 : ∀ y, gz h1 (p + 11) y = gz h (p + 11) y := L.gz (by omega)
    have g45 : ∀ y, gz h1 45 y = gz h 45 y := L.gz (by omega)
    have z45 : ∀ y, zgi h1 45 y = zgi h 45 y := fun y => L.2.2 45 y (by omega)
    refine cq_fewestMade o (fun e0 h' j => ?_) (fun e0 h' j => ?_)
    · try simp only [lq_n L hp, lq_S L hp, lq_cl L hp, lq_T L hp, lq_is L hp, lq_st2 L hp, lq_co L hp, lq_fn L hp, lq_ml L hp, lq_wl L hp, lq_sv L hp, lq_rs L hp, lq_rp L hp, lq_ar L hp, lq_hol L hp, lq_GG L hp, lq_Ro L hp, lq_gl L, gp, g2, g4, g5, g6, g7, g9, g11, g45, z45] at e0 j ⊢
      first | exact k2 h' (I.q q j (by first | decide | (repeat' split) <;> first | exact zt4_0 | exact zt4_1 | exact zt4_2)) | (exfalso; first | contradiction | omega)
    · try simp only [lq_n L hp, lq_S L hp, lq_cl L hp, lq_T L hp, lq_is L hp, lq_st2 L hp, lq_co L hp, lq_fn L hp, lq_ml L hp, lq_wl L hp, lq_sv L hp, lq_rs L hp, lq_rp L hp, lq_ar L hp, lq_hol L hp, lq_GG L hp, lq_Ro L hp, lq_gl L, gp, g2, g4, g5, g6, g7, g9, g11, g45, z45] at e0 j ⊢
      first | exact k2 h' (I.q q j (by first | decide | (repeat' split) <;> first | exact zt4_0 | exact zt4_1 | exact zt4_2)) | (exfalso; first | contradiction | omega)
theorem st_same {a : Int} (ha1 : -2147483648 ≤ a) (ha2 : a < 2147483648) (I : zI h d p) (k : ∀ x h1, zsh h1 78 = some (.inl 9) → (∀ R2 : zRt, (∀ h2, zI h2 d p → R2 (some (.int x)) h2) → zCC X M_X9_same [.ref 78, .int (zj a)] h1 R2) → R (some (.int x)) h1) : zCC X M_X7_same [.ref 16, .int (zj a)] h R := by
  refine cx_same I.w I.v I.u I.r ha1 ha2 (fun c0 => k _ _ (by first | exact I.s78 | exact I.s78q (zQh_gh h _ _ _ _) | exact I.s78q (zQh_sk h _ _ _ _)) (fun R2 k2 => ?_)) (fun c0 c1 => k _ _ (by first | exact I.s78 | exact I.s78q (zQh_gh h _ _ _ _) | exact I.s78q (zQh_sk h _ _ _ _)) (fun R2 k2 => ?_)) (fun c0 c1 => k _ _ (by first | exact I.s78 | exact I.s78q (zQh_gh h _ _ _ _) | exact I.s78q (zQh_sk h _ _ _ _)) (fun R2 k2 => ?_))
  · suffices hs : ∀ h1, zQh h h1 (1) → zCC X M_X9_same [.ref 78, .int (zj a)] h1 R2 from hs _ (zQh_pi h _)
    intro h1 q
    have o := I.oq q
    have L := q.lq
    have hp := I.hp
    have hv1 := I.v.1
    have hn : ((zn h p : Nat) : Int) = gz h p 1 := by unfold zn; omega
    have gp : ∀ y, gz h1 p y = gz h p y := L.gz (by omega)
    have g2 : ∀ y, gz h1 (p + 2) y = gz h (p + 2) y := L.gz (by omega)
    have g4 : ∀ y, gz h1 (p + 4) y = gz h (p + 4) y := L.gz (by omega)
    have g5 : ∀ y, gz h1 (p + 5) y = gz h (p + 5) y := L.gz (by omega)
    have g6 : ∀ y, gz h1 (p + 6) y = gz h (p + 6) y := L.gz (by omega)
    have g7 : ∀ y, gz h1 (p + 7) y = gz h (p + 7) y := L.gz (by omega)
    have g9 : ∀ y, gz h1 (p + 9) y = gz h (p + 9) y := L.gz (by omega)
    have g11 : ∀ y, gz h1 (p + 11) y = gz h (p + 11) y := L.gz (by omega)
    have g45 : ∀ y, gz h1 45 y = gz h 45 y := L.gz (by omega)
    have z45 : ∀ y, zgi h1 45 y = zgi h 45 y := fun y => L.2.2 45 y (by omega)
    refine cq_same o ha1 ha2 (fun e0 h' j => ?_) (fun e0 e1 h' j => ?_) (fun e0 e1 h' j => ?_)
    · try simp only [lq_n L hp, lq_S L hp, lq_cl L hp, lq_T L hp, lq_is L hp, lq_st2 L hp, lq_co L hp, lq_fn L hp, lq_ml L hp, lq_wl L hp, lq_sv L hp, lq_rs L hp, lq_rp L hp, lq_ar L hp, lq_hol L hp, lq_GG L hp, lq_Ro L hp, lq_gl L, gp, g2, g4, g5, g6, g7, g9, g11, g45, z45] at e0 j ⊢
      first | exact k2 h' (I.q q j (by first | decide | (repeat' split) <;> first | exact zt4_0 | exact zt4_1 | exact zt4_2)) | (exfalso; first | contradiction | omega)
    · try simp only [lq_n L hp, lq_S L hp, lq_cl L hp, lq_T L hp, lq_is L hp, lq_st2 L hp, lq_co L hp, lq_fn L hp, lq_ml L hp, lq_wl L hp, lq_sv L hp, lq_rs L hp, lq_rp L hp, lq_ar L hp, lq_hol L hp, lq_GG L hp, lq_Ro L hp, lq_gl L, gp, g2, g4, g5, g6, g7, g9, g11, g45, z45] at e0 e1 j ⊢
      first | exact k2 h' (I.q q j (by first | decide | (repeat' split) <;> first | exact zt4_0 | exact zt4_1 | exact zt4_2)) | (exfalso; first | contradiction | omega)
    · try simp only [lq_n L hp, lq_S L hp, lq_cl L hp, lq_T L hp, lq_is L hp, lq_st2 L hp, lq_co L hp, lq_fn L hp, lq_ml L hp, lq_wl L hp, lq_sv L hp, lq_rs L hp, lq_rp L hp, lq_ar L hp, lq_hol L hp, lq_GG L hp, lq_Ro L hp, lq_gl L, gp, g2, g4, g5, g6, g7, g9, g11, g45, z45] at e0 e1 j ⊢
      first | exact k2 h' (I.q q j (by first | decide | (repeat' split) <;> first | exact zt4_0 | exact zt4_1 | exact zt4_2)) | (exfalso; first | contradiction | omega)
  · suffices hs : ∀ h1, zQh h h1 (2) → zCC X M_X9_same [.ref 78, .int (zj a)] h1 R2 from hs _ (zQh_pi h _)
    intro h1 q
    have o := I.oq q
    have L := q.lq
    have hp := I.hp
    have hv1 := I.v.1
    have hn : ((zn h p : Nat) : Int) = gz h p 1 := by unfold zn; omega
    have gp : ∀ y, gz h1 p y = gz h p y := L.gz (by omega)
    have g2 : ∀ y, gz h1 (p + 2) y = gz h (p + 2) y := L.gz (by omega)
    have g4 : ∀ y, gz h1 (p + 4) y = gz h (p + 4) y := L.gz (by omega)
    have g5 : ∀ y, gz h1 (p + 5) y = gz h (p + 5) y := L.gz (by omega)
    have g6 : ∀ y, gz h1 (p + 6) y = gz h (p + 6) y := L.gz (by omega)
    have g7 : ∀ y, gz h1 (p + 7) y = gz h (p + 7) y := L.gz (by omega)
    have g9 : ∀ y, gz h1 (p + 9) y = gz h (p + 9) y := L.gz (by omega)
    have g11 : ∀ y, gz h1 (p + 11) y = gz h (p + 11) y := L.gz (by omega)
    have g45 : ∀ y, gz h1 45 y = gz h 45 y := L.gz (by omega)
    have z45 : ∀ y, zgi h1 45 y = zgi h 45 y := fun y => L.2.2 45 y (by omega)
    refine cq_same o ha1 ha2 (fun e0 h' j => ?_) (fun e0 e1 h' j => ?_) (fun e0 e1 h' j => ?_)
    · try simp only [lq_n L hp, lq_S L hp, lq_cl L hp, lq_T L hp, lq_is L hp, lq_st2 L hp, lq_co L hp, lq_fn L hp, lq_ml L hp, lq_wl L hp, lq_sv L hp, lq_rs L hp, lq_rp L hp, lq_ar L hp, lq_hol L hp, lq_GG L hp, lq_Ro L hp, lq_gl L, gp, g2, g4, g5, g6, g7, g9, g11, g45, z45] at e0 j ⊢
      first | exact k2 h' (I.q q j (by first | decide | (repeat' split) <;> first | exact zt4_0 | exact zt4_1 | exact zt4_2)) | (exfalso; first | contradiction | omega)
    · try simp only [lq_n L hp, lq_S L hp, lq_cl L hp, lq_T L hp, lq_is L hp, lq_st2 L hp, lq_co L hp, lq_fn L hp, lq_ml L hp, lq_wl L hp, lq_sv L hp, lq_rs L hp, lq_rp L hp, lq_ar L hp, lq_hol L hp, lq_GG L hp, lq_Ro L hp, lq_gl L, gp, g2, g4, g5, g6, g7, g9, g11, g45, z45] at e0 e1 j ⊢
      first | exact k2 h' (I.q q j (by first | decide | (repeat' split) <;> first | exact zt4_0 | exact zt4_1 | exact zt4_2)) | (exfalso; first | contradiction | omega)
    · try simp only [lq_n L hp, lq_S L hp, lq_cl L hp, lq_T L hp, lq_is L hp, lq_st2 L hp, lq_co L hp, lq_fn L hp, lq_ml L hp, lq_wl L hp, lq_sv L hp, lq_rs L hp, lq_rp L hp, lq_ar L hp, lq_hol L hp, lq_GG L hp, lq_Ro L hp, lq_gl L, gp, g2, g4, g5, g6, g7, g9, g11, g45, z45] at e0 e1 j ⊢
      first | exact k2 h' (I.q q j (by first | decide | (repeat' split) <;> first | exact zt4_0 | exact zt4_1 | exact zt4_2)) | (exfalso; first | contradiction | omega)
  · suffices hs : ∀ h1, zQh h h1 (0) → zCC X M_X9_same [.ref 78, .int (zj a)] h1 R2 from hs _ (zQh_gh h _ _ _ _)
    intro h1 q
    have o := I.oq q
    have L := q.lq
    have hp := I.hp
    have hv1 := I.v.1
    have hn : ((zn h p : Nat) : Int) = gz h p 1 := by unfold zn; omega
    have gp : ∀ y, gz h1 p y = gz h p y := L.gz (by omega)
    have g2 : ∀ y, gz h1 (p + 2) y = gz h (p + 2) y := L.gz (by omega)
    have g4 : ∀ y, gz h1 (p + 4) y = gz h (p + 4) y := L.gz (by omega)
    have g5 : ∀ y, gz h1 (p + 5) y = gz h (p + 5) y := L.gz (by omega)
    have g6 : ∀ y, gz h1 (p + 6) y = gz h (p + 6) y := L.gz (by omega)
    have g7 : ∀ y, gz h1 (p + 7) y = gz h (p + 7) y := L.gz (by omega)
    have g9 : ∀ y, gz h1 (p + 9) y = gz h (p + 9) y := L.gz (by omega)
    have g11 : ∀ y, gz h1 (p + 11) y = gz h (p + 11) y := L.gz (by omega)
    have g45 : ∀ y, gz h1 45 y = gz h 45 y := L.gz (by omega)
    have z45 : ∀ y, zgi h1 45 y = zgi h 45 y := fun y => L.2.2 45 y (by omega)
    refine cq_same o ha1 ha2 (fun e0 h' j => ?_) (fun e0 e1 h' j => ?_) (fun e0 e1 h' j => ?_)
    · try simp only [lq_n L hp, lq_S L hp, lq_cl L hp, lq_T L hp, lq_is L hp, lq_st2 L hp, lq_co L hp, lq_fn L hp, lq_ml L hp, lq_wl L hp, lq_sv L hp, lq_rs L hp, lq_rp L hp, lq_ar L hp, lq_hol L hp, lq_GG L hp, lq_Ro L hp, lq_gl L, gp, g2, g4, g5, g6, g7, g9, g11, g45, z45] at e0 j ⊢
      first | exact k2 h' (I.q q j (by first | decide | (repeat' split) <;> first | exact zt4_0 | exact zt4_1 | exact zt4_2)) | (exfalso; first | contradiction | omega)
    · try simp only [lq_n L hp, lq_S L hp, lq_cl L hp, lq_T L hp, lq_is L hp, lq_st2 L hp, lq_co L hp, lq_fn L hp, lq_ml L hp, lq_wl L hp, lq_sv L hp, lq_rs L hp, lq_rp L hp, lq_ar L hp, lq_hol L hp, lq_GG L hp, lq_Ro L hp, lq_gl L, gp, g2, g4, g5, g6, g7, g9, g11, g45, z45] at e0 e1 j ⊢
      first | exact k2 h' (I.q q j (by first | decide | (repeat' split) <;> first | exact zt4_0 | exact zt4_1 | exact zt4_2)) | (exfalso; first | contradiction | omega)
    · try simp only [lq_n L hp, lq_S L hp, lq_cl L hp, lq_T L hp, lq_is L hp, lq_st2 L hp, lq_co L hp, lq_fn L hp, lq_ml L hp, lq_wl L hp, lq_sv L hp, lq_rs L hp, lq_rp L hp, lq_ar L hp, lq_hol L hp, lq_GG L hp, lq_Ro L hp, lq_gl L, gp, g2, g4, g5, g6, g7, g9, g11, g45, z45] at e0 e1 j ⊢
      first | exact k2 h' (I.q q j (by first | decide | (repeat' split) <;> first | exact zt4_0 | exact zt4_1 | exact zt4_2)) | (exfalso; first | contradiction | omega)
theorem st_joins {a : Int} (ha1 : -2147483648 ≤ a) (ha2 : a < 2147483648) (I : zI h d p) (k : ∀ x h1, zsh h1 78 = some (.inl 9) → (∀ R2 : zRt, (∀ h2, zI h2 d p → R2 (some (.int x)) h2) → zCC X M_X9_joins [.ref 78, .int (zj a)] h1 R2) → R (some (.int x)) h1) : zCC X M_X7_joins [.ref 16, .int (zj a)] h R := by
  refine cx_joins I.w I.v I.u ha1 ha2 (k _ _ (by first | exact I.s78 | exact I.s78q (zQh_gh h _ _ _ _) | exact I.s78q (zQh_sk h _ _ _ _)) (fun R2 k2 => ?_))
  suffices hs : ∀ h1, zQh h h1 ((if gz h p 1 = 0 then (1, -1) else if 0 ≤ a ∧ a < 6 then ((0 : Int), (((zab (zT h p 0 0 (ztc a 0)) ||| zab (zT h p 0 0 (ztc a 11)) : Nat) : Int) : Int)) else (2, -1)).1) → zCC X M_X9_joins [.ref 78, .int (zj a)] h1 R2 from hs _ (zQh_pi h _)
  intro h1 q
  have o := I.oq q
  have L := q.lq
  have hp := I.hp
  have hv1 := I.v.1
  have hn : ((zn h p : Nat) : Int) = gz h p 1 := by unfold zn; omega
  have gp : ∀ y, gz h1 p y = gz h p y := L.gz (by omega)
  have g2 : ∀ y, gz h1 (p + 2) y = gz h (p + 2) y := L.gz (by omega)
  have g4 : ∀ y, gz h1 (p + 4) y = gz h (p + 4) y := L.gz (by omega)
  have g5 : ∀ y, gz h1 (p + 5) y = gz h (p + 5) y := L.gz (by omega)
  have g6 : ∀ y, gz h1 (p + 6) y = gz h (p + 6) y := L.gz (by omega)
  have g7 : ∀ y, gz h1 (p + 7) y = gz h (p + 7) y := L.gz (by omega)
  have g9 : ∀ y, gz h1 (p + 9) y = gz h (p + 9) y := L.gz (by omega)
  have g11 : ∀ y, gz h1 (p + 11) y = gz h (p + 11) y := L.gz (by omega)
  have g45 : ∀ y, gz h1 45 y = gz h 45 y := L.gz (by omega)
  have z45 : ∀ y, zgi h1 45 y = zgi h 45 y := fun y => L.2.2 45 y (by omega)
  refine cq_joins o ha1 ha2 (fun  h' j => ?_)
  try simp only [lq_n L hp, lq_S L hp, lq_cl L hp, lq_T L hp, lq_is L hp, lq_st2 L hp, lq_co L hp, lq_fn L hp, lq_ml L hp, lq_wl L hp, lq_sv L hp, lq_rs L hp, lq_rp L hp, lq_ar L hp, lq_hol L hp, lq_GG L hp, lq_Ro L hp, lq_gl L, gp, g2, g4, g5, g6, g7, g9, g11, g45, z45] at  j ⊢
  first | exact k2 h' (I.q q j (by first | decide | (repeat' split) <;> first | exact zt4_0 | exact zt4_1 | exact zt4_2)) | (exfalso; first | contradiction | omega)
theorem st_alike {a b : Int} (ha1 : -2147483648 ≤ a) (ha2 : a < 2147483648) (hb1 : -2147483648 ≤ b) (hb2 : b < 2147483648) (I : zI h d p) (k : ∀ x h1, zsh h1 78 = some (.inl 9) → (∀ R2 : zRt, (∀ h2, zI h2 d p → R2 (some (.int x)) h2) → zCC X M_X9_alike [.ref 78, .int (zj a), .int (zj b)] h1 R2) → R (some (.int x)) h1) : zCC X M_X7_alike [.ref 16, .int (zj a), .int (zj b)] h R := by
  refine cx_alike I.w I.v I.u ha1 ha2 hb1 hb2 (k _ _ (by first | exact I.s78 | exact I.s78q (zQh_gh h _ _ _ _) | exact I.s78q (zQh_sk h _ _ _ _)) (fun R2 k2 => ?_))
  suffices hs : ∀ h1, zQh h h1 ((if gz h p 1 = 0 then (1, -1) else if (0 ≤ a ∧ a < 6) ∧ 0 ≤ b ∧ b < 6 then ((0 : Int), ((zcnt (fun c => zT h p 0 0 (ztc a c) = zT h p 0 0 (ztc b c)) 12 : Nat) : Int)) else (2, -1)).1) → zCC X M_X9_alike [.ref 78, .int (zj a), .int (zj b)] h1 R2 from hs _ (zQh_pi h _)
  intro h1 q
  have o := I.oq q
  have L := q.lq
  have hp := I.hp
  have hv1 := I.v.1
  have hn : ((zn h p : Nat) : Int) = gz h p 1 := by unfold zn; omega
  have gp : ∀ y, gz h1 p y = gz h p y := L.gz (by omega)
  have g2 : ∀ y, gz h1 (p + 2) y = gz h (p + 2) y := L.gz (by omega)
  have g4 : ∀ y, gz h1 (p + 4) y = gz h (p + 4) y := L.gz (by omega)
  have g5 : ∀ y, gz h1 (p + 5) y = gz h (p + 5) y := L.gz (by omega)
  have g6 : ∀ y, gz h1 (p + 6) y = gz h (p + 6) y := L.gz (by omega)
  have g7 : ∀ y, gz h1 (p + 7) y = gz h (p + 7) y := L.gz (by omega)
  have g9 : ∀ y, gz h1 (p + 9) y = gz h (p + 9) y := L.gz (by omega)
  have g11 : ∀ y, gz h1 (p + 11) y = gz h (p + 11) y := L.gz (by omega)
  have g45 : ∀ y, gz h1 45 y = gz h 45 y := L.gz (by omega)
  have z45 : ∀ y, zgi h1 45 y = zgi h 45 y := fun y => L.2.2 45 y (by omega)
  refine cq_alike o ha1 ha2 hb1 hb2 (fun  h' j => ?_)
  try simp only [lq_n L hp, lq_S L hp, lq_cl L hp, lq_T L hp, lq_is L hp, lq_st2 L hp, lq_co L hp, lq_fn L hp, lq_ml L hp, lq_wl L hp, lq_sv L hp, lq_rs L hp, lq_rp L hp, lq_ar L hp, lq_hol L hp, lq_GG L hp, lq_Ro L hp, lq_gl L, gp, g2, g4, g5, g6, g7, g9, g11, g45, z45] at  j ⊢
  first | exact k2 h' (I.q q j (by first | decide | (repeat' split) <;> first | exact zt4_0 | exact zt4_1 | exact zt4_2)) | (exfalso; first | contradiction | omega)
theorem st_which  (I : zI h d p) (k : ∀ x h1, zsh h1 78 = some (.inl 9) → (∀ R2 : zRt, (∀ h2, zI h2 d p → R2 (some (.int x)) h2) → zCC X M_X9_which [.ref 78] h1 R2) → R (some (.int x)) h1) : zCC X M_X7_which [.ref 16] h R := by
  refine cx_which I.w I.v I.u (k _ _ (by first | exact I.s78 | exact I.s78q (zQh_gh h _ _ _ _) | exact I.s78q (zQh_sk h _ _ _ _)) (fun R2 k2 => ?_))
  suffices hs : ∀ h1, zQh h h1 ((if gz h p 1 = 0 then (1, -1) else ((0 : Int), ((zset (fun j => zfn h p j = -2) 6 : Nat) : Int))).1) → zCC X M_X9_which [.ref 78] h1 R2 from hs _ (zQh_pi h _)
  intro h1 q
  have o := I.oq q
  have L := q.lq
  have hp := I.hp
  have hv1 := I.v.1
  have hn : ((zn h p : Nat) : Int) = gz h p 1 := by unfold zn; omega
  have gp : ∀ y, gz h1 p y = gz h p y := L.gz (by omega)
  have g2 : ∀ y, gz h1 (p + 2) y = gz h (p + 2) y := L.gz (by omega)
  have g4 : ∀ y, gz h1 (p + 4) y = gz h (p + 4) y := L.gz (by omega)
  have g5 : ∀ y, gz h1 (p + 5) y = gz h (p + 5) y := L.gz (by omega)
  have g6 : ∀ y, gz h1 (p + 6) y = gz h (p + 6) y := L.gz (by omega)
  have g7 : ∀ y, gz h1 (p + 7) y = gz h (p + 7) y := L.gz (by omega)
  have g9 : ∀ y, gz h1 (p + 9) y = gz h (p + 9) y := L.gz (by omega)
  have g11 : ∀ y, gz h1 (p + 11) y = gz h (p + 11) y := L.gz (by omega)
  have g45 : ∀ y, gz h1 45 y = gz h 45 y := L.gz (by omega)
  have z45 : ∀ y, zgi h1 45 y = zgi h 45 y := fun y => L.2.2 45 y (by omega)
  refine cq_which o (fun  h' j => ?_)
  try simp only [lq_n L hp, lq_S L hp, lq_cl L hp, lq_T L hp, lq_is L hp, lq_st2 L hp, lq_co L hp, lq_fn L hp, lq_ml L hp, lq_wl L hp, lq_sv L hp, lq_rs L hp, lq_rp L hp, lq_ar L hp, lq_hol L hp, lq_GG L hp, lq_Ro L hp, lq_gl L, gp, g2, g4, g5, g6, g7, g9, g11, g45, z45] at  j ⊢
  first | exact k2 h' (I.q q j (by first | decide | (repeat' split) <;> first | exact zt4_0 | exact zt4_1 | exact zt4_2)) | (exfalso; first | contradiction | omega)
theorem st_surely  (I : zI h d p) (k : ∀ x h1, zsh h1 78 = some (.inl 9) → (∀ R2 : zRt, (∀ h2, zI h2 d p → R2 (some (.int x)) h2) → zCC X M_X9_surely [.ref 78] h1 R2) → R (some (.int x)) h1) : zCC X M_X7_surely [.ref 16] h R := by
  refine cx_surely I.w I.v I.u (k _ _ (by first | exact I.s78 | exact I.s78q (zQh_gh h _ _ _ _) | exact I.s78q (zQh_sk h _ _ _ _)) (fun R2 k2 => ?_))
  suffices hs : ∀ h1, zQh h h1 ((if gz h p 1 = 0 then (1, -1) else ((0 : Int), zsu (zset (fun j => zfn h p j = -2) 6))).1) → zCC X M_X9_surely [.ref 78] h1 R2 from hs _ (zQh_pi h _)
  intro h1 q
  have o := I.oq q
  have L := q.lq
  have hp := I.hp
  have hv1 := I.v.1
  have hn : ((zn h p : Nat) : Int) = gz h p 1 := by unfold zn; omega
  have gp : ∀ y, gz h1 p y = gz h p y := L.gz (by omega)
  have g2 : ∀ y, gz h1 (p + 2) y = gz h (p + 2) y := L.gz (by omega)
  have g4 : ∀ y, gz h1 (p + 4) y = gz h (p + 4) y := L.gz (by omega)
  have g5 : ∀ y, gz h1 (p + 5) y = gz h (p + 5) y := L.gz (by omega)
  have g6 : ∀ y, gz h1 (p + 6) y = gz h (p + 6) y := L.gz (by omega)
  have g7 : ∀ y, gz h1 (p + 7) y = gz h (p + 7) y := L.gz (by omega)
  have g9 : ∀ y, gz h1 (p + 9) y = gz h (p + 9) y := L.gz (by omega)
  have g11 : ∀ y, gz h1 (p + 11) y = gz h (p + 11) y := L.gz (by omega)
  have g45 : ∀ y, gz h1 45 y = gz h 45 y := L.gz (by omega)
  have z45 : ∀ y, zgi h1 45 y = zgi h 45 y := fun y => L.2.2 45 y (by omega)
  refine cq_surely o (fun  h' j => ?_)
  try simp only [lq_n L hp, lq_S L hp, lq_cl L hp, lq_T L hp, lq_is L hp, lq_st2 L hp, lq_co L hp, lq_fn L hp, lq_ml L hp, lq_wl L hp, lq_sv L hp, lq_rs L hp, lq_rp L hp, lq_ar L hp, lq_hol L hp, lq_GG L hp, lq_Ro L hp, lq_gl L, gp, g2, g4, g5, g6, g7, g9, g11, g45, z45] at  j ⊢
  first | exact k2 h' (I.q q j (by first | decide | (repeat' split) <;> first | exact zt4_0 | exact zt4_1 | exact zt4_2)) | (exfalso; first | contradiction | omega)
theorem st_look  (I : zI h d p) (k : ∀ x h1, zsh h1 78 = some (.inl 9) → (∀ R2 : zRt, (∀ h2, zI h2 d p → R2 (some (.int x)) h2) → zCC X M_X9_look [.ref 78] h1 R2) → R (some (.int x)) h1) : zCC X M_X7_look [.ref 16] h R := by
  refine cx_look I.w I.v I.u (k _ _ (by first | exact I.s78 | exact I.s78q (zQh_gh h _ _ _ _) | exact I.s78q (zQh_sk h _ _ _ _)) (fun R2 k2 => ?_))
  suffices hs : ∀ h1, zQh h h1 ((if gz h p 1 = 0 then (1, -1) else ((0 : Int), (if zset (fun j => zfn h p j = -2) 6 = 0 then -2 else (zbl (fun c => zml h p (zset (fun j => zfn h p j = -2) 6) c) 12).1 : Int))).1) → zCC X M_X9_look [.ref 78] h1 R2 from hs _ (zQh_pi h _)
  intro h1 q
  have o := I.oq q
  have L := q.lq
  have hp := I.hp
  have hv1 := I.v.1
  have hn : ((zn h p : Nat) : Int) = gz h p 1 := by unfold zn; omega
  have gp : ∀ y, gz h1 p y = gz h p y := L.gz (by omega)
  have g2 : ∀ y, gz h1 (p + 2) y = gz h (p + 2) y := L.gz (by omega)
  have g4 : ∀ y, gz h1 (p + 4) y = gz h (p + 4) y := L.gz (by omega)
  have g5 : ∀ y, gz h1 (p + 5) y = gz h (p + 5) y := L.gz (by omega)
  have g6 : ∀ y, gz h1 (p + 6) y = gz h (p + 6) y := L.gz (by omega)
  have g7 : ∀ y, gz h1 (p + 7) y = gz h (p + 7) y := L.gz (by omega)
  have g9 : ∀ y, gz h1 (p + 9) y = gz h (p + 9) y := L.gz (by omega)
  have g11 : ∀ y, gz h1 (p + 11) y = gz h (p + 11) y := L.gz (by omega)
  have g45 : ∀ y, gz h1 45 y = gz h 45 y := L.gz (by omega)
  have z45 : ∀ y, zgi h1 45 y = zgi h 45 y := fun y => L.2.2 45 y (by omega)
  refine cq_look o (fun  h' j => ?_)
  try simp only [lq_n L hp, lq_S L hp, lq_cl L hp, lq_T L hp, lq_is L hp, lq_st2 L hp, lq_co L hp, lq_fn L hp, lq_ml L hp, lq_wl L hp, lq_sv L hp, lq_rs L hp, lq_rp L hp, lq_ar L hp, lq_hol L hp, lq_GG L hp, lq_Ro L hp, lq_gl L, gp, g2, g4, g5, g6, g7, g9, g11, g45, z45] at  j ⊢
  first | exact k2 h' (I.q q j (by first | decide | (repeat' split) <;> first | exact zt4_0 | exact zt4_1 | exact zt4_2)) | (exfalso; first | contradiction | omega)
theorem st_lookLeaves  (I : zI h d p) (k : ∀ x h1, zsh h1 78 = some (.inl 9) → (∀ R2 : zRt, (∀ h2, zI h2 d p → R2 (some (.int x)) h2) → zCC X M_X9_lookLeaves [.ref 78] h1 R2) → R (some (.int x)) h1) : zCC X M_X7_lookLeaves [.ref 16] h R := by
  refine cx_lookLeaves I.w I.v I.u (k _ _ (by first | exact I.s78 | exact I.s78q (zQh_gh h _ _ _ _) | exact I.s78q (zQh_sk h _ _ _ _)) (fun R2 k2 => ?_))
  suffices hs : ∀ h1, zQh h h1 ((if gz h p 1 = 0 then (1, -1) else ((0 : Int), (if zset (fun j => zfn h p j = -2) 6 = 0 then -2 else (zml h p (zset (fun j => zfn h p j = -2) 6) (zbl (fun c => zml h p (zset (fun j => zfn h p j = -2) 6) c) 12).1 : Nat) : Int))).1) → zCC X M_X9_lookLeaves [.ref 78] h1 R2 from hs _ (zQh_pi h _)
  intro h1 q
  have o := I.oq q
  have L := q.lq
  have hp := I.hp
  have hv1 := I.v.1
  have hn : ((zn h p : Nat) : Int) = gz h p 1 := by unfold zn; omega
  have gp : ∀ y, gz h1 p y = gz h p y := L.gz (by omega)
  have g2 : ∀ y, gz h1 (p + 2) y = gz h (p + 2) y := L.gz (by omega)
  have g4 : ∀ y, gz h1 (p + 4) y = gz h (p + 4) y := L.gz (by omega)
  have g5 : ∀ y, gz h1 (p + 5) y = gz h (p + 5) y := L.gz (by omega)
  have g6 : ∀ y, gz h1 (p + 6) y = gz h (p + 6) y := L.gz (by omega)
  have g7 : ∀ y, gz h1 (p + 7) y = gz h (p + 7) y := L.gz (by omega)
  have g9 : ∀ y, gz h1 (p + 9) y = gz h (p + 9) y := L.gz (by omega)
  have g11 : ∀ y, gz h1 (p + 11) y = gz h (p + 11) y := L.gz (by omega)
  have g45 : ∀ y, gz h1 45 y = gz h 45 y := L.gz (by omega)
  have z45 : ∀ y, zgi h1 45 y = zgi h 45 y := fun y => L.2.2 45 y (by omega)
  refine cq_lookLeaves o (fun  h' j => ?_)
  try simp only [lq_n L hp, lq_S L hp, lq_cl L hp, lq_T L hp, lq_is L hp, lq_st2 L hp, lq_co L hp, lq_fn L hp, lq_ml L hp, lq_wl L hp, lq_sv L hp, lq_rs L hp, lq_rp L hp, lq_ar L hp, lq_hol L hp, lq_GG L hp, lq_Ro L hp, lq_gl L, gp, g2, g4, g5, g6, g7, g9, g11, g45, z45] at  j ⊢
  first | exact k2 h' (I.q q j (by first | decide | (repeat' split) <;> first | exact zt4_0 | exact zt4_1 | exact zt4_2)) | (exfalso; first | contradiction | omega)
theorem st_judge {a : Int} (ha1 : -2147483648 ≤ a) (ha2 : a < 2147483648) (I : zI h d p) (k : ∀ x h1, zsh h1 78 = some (.inl 9) → (∀ R2 : zRt, (∀ h2, zI h2 d p → R2 (some (.int x)) h2) → zCC X M_X9_judge [.ref 78, .int (zj a)] h1 R2) → R (some (.int x)) h1) : zCC X M_X7_judge [.ref 16, .int (zj a)] h R := by
  refine cx_judge I.w I.v I.u ha1 ha2 (k _ _ (by first | exact I.s78 | exact I.s78q (zQh_gh h _ _ _ _) | exact I.s78q (zQh_sk h _ _ _ _)) (fun R2 k2 => ?_))
  suffices hs : ∀ h1, zQh h h1 ((if gz h p 1 = 0 then (1, -1) else if 0 ≤ a ∧ a < 6 then ((0 : Int), (zfn h p a : Int)) else (2, -1)).1) → zCC X M_X9_judge [.ref 78, .int (zj a)] h1 R2 from hs _ (zQh_pi h _)
  intro h1 q
  have o := I.oq q
  have L := q.lq
  have hp := I.hp
  have hv1 := I.v.1
  have hn : ((zn h p : Nat) : Int) = gz h p 1 := by unfold zn; omega
  have gp : ∀ y, gz h1 p y = gz h p y := L.gz (by omega)
  have g2 : ∀ y, gz h1 (p + 2) y = gz h (p + 2) y := L.gz (by omega)
  have g4 : ∀ y, gz h1 (p + 4) y = gz h (p + 4) y := L.gz (by omega)
  have g5 : ∀ y, gz h1 (p + 5) y = gz h (p + 5) y := L.gz (by omega)
  have g6 : ∀ y, gz h1 (p + 6) y = gz h (p + 6) y := L.gz (by omega)
  have g7 : ∀ y, gz h1 (p + 7) y = gz h (p + 7) y := L.gz (by omega)
  have g9 : ∀ y, gz h1 (p + 9) y = gz h (p + 9) y := L.gz (by omega)
  have g11 : ∀ y, gz h1 (p + 11) y = gz h (p + 11) y := L.gz (by omega)
  have g45 : ∀ y, gz h1 45 y = gz h 45 y := L.gz (by omega)
  have z45 : ∀ y, zgi h1 45 y = zgi h 45 y := fun y => L.2.2 45 y (by omega)
  refine cq_judge o ha1 ha2 (fun  h' j => ?_)
  try simp only [lq_n L hp, lq_S L hp, lq_cl L hp, lq_T L hp, lq_is L hp, lq_st2 L hp, lq_co L hp, lq_fn L hp, lq_ml L hp, lq_wl L hp, lq_sv L hp, lq_rs L hp, lq_rp L hp, lq_ar L hp, lq_hol L hp, lq_GG L hp, lq_Ro L hp, lq_gl L, gp, g2, g4, g5, g6, g7, g9, g11, g45, z45] at  j ⊢
  first | exact k2 h' (I.q q j (by first | decide | (repeat' split) <;> first | exact zt4_0 | exact zt4_1 | exact zt4_2)) | (exfalso; first | contradiction | omega)
theorem st_person {a b : Int} (ha1 : -2147483648 ≤ a) (ha2 : a < 2147483648) (hb1 : -2147483648 ≤ b) (hb2 : b < 2147483648) (I : zI h d p) (k : ∀ x h1, zsh h1 78 = some (.inl 9) → (∀ R2 : zRt, (∀ h2, zI h2 d p → R2 (some (.int x)) h2) → zCC X M_X9_person [.ref 78, .int (zj a), .int (zj b)] h1 R2) → R (some (.int x)) h1) : zCC X M_X7_person [.ref 16, .int (zj a), .int (zj b)] h R := by
  refine cx_person I.w I.v I.u ha1 ha2 hb1 hb2 (fun c0 => k _ _ (by first | exact I.s78 | exact I.s78q (zQh_gh h _ _ _ _) | exact I.s78q (zQh_sk h _ _ _ _)) (fun R2 k2 => ?_)) (fun c0 c1 => k _ _ (by first | exact I.s78 | exact I.s78q (zQh_gh h _ _ _ _) | exact I.s78q (zQh_sk h _ _ _ _)) (fun R2 k2 => ?_)) (fun c0 c1 => k _ _ (by first | exact I.s78 | exact I.s78q (zQh_gh h _ _ _ _) | exact I.s78q (zQh_sk h _ _ _ _)) (fun R2 k2 => ?_)) (fun c0 c1 => k _ _ (by first | exact I.s78 | exact I.s78q (zQh_gh h _ _ _ _) | exact I.s78q (zQh_sk h _ _ _ _)) (fun R2 k2 => ?_))
  · suffices hs : ∀ h1, zQh h h1 (1) → zCC X M_X9_person [.ref 78, .int (zj a), .int (zj b)] h1 R2 from hs _ (zQh_pi h _)
    intro h1 q
    have o := I.oq q
    have L := q.lq
    have hp := I.hp
    have hv1 := I.v.1
    have hn : ((zn h p : Nat) : Int) = gz h p 1 := by unfold zn; omega
    have gp : ∀ y, gz h1 p y = gz h p y := L.gz (by omega)
    have g2 : ∀ y, gz h1 (p + 2) y = gz h (p + 2) y := L.gz (by omega)
    have g4 : ∀ y, gz h1 (p + 4) y = gz h (p + 4) y := L.gz (by omega)
    have g5 : ∀ y, gz h1 (p + 5) y = gz h (p + 5) y := L.gz (by omega)
    have g6 : ∀ y, gz h1 (p + 6) y = gz h (p + 6) y := L.gz (by omega)
    have g7 : ∀ y, gz h1 (p + 7) y = gz h (p + 7) y := L.gz (by omega)
    have g9 : ∀ y, gz h1 (p + 9) y = gz h (p + 9) y := L.gz (by omega)
    have g11 : ∀ y, gz h1 (p + 11) y = gz h (p + 11) y := L.gz (by omega)
    have g45 : ∀ y, gz h1 45 y = gz h 45 y := L.gz (by omega)
    have z45 : ∀ y, zgi h1 45 y = zgi h 45 y := fun y => L.2.2 45 y (by omega)
    refine cq_person o ha1 ha2 hb1 hb2 (fun e0 h' j => ?_) (fun e0 e1 h' j => ?_) (fun e0 e1 h' j => ?_) (fun e0 e1 h' j => ?_)
    · try simp only [lq_n L hp, lq_S L hp, lq_cl L hp, lq_T L hp, lq_is L hp, lq_st2 L hp, lq_co L hp, lq_fn L hp, lq_ml L hp, lq_wl L hp, lq_sv L hp, lq_rs L hp, lq_rp L hp, lq_ar L hp, lq_hol L hp, lq_GG L hp, lq_Ro L hp, lq_gl L, gp, g2, g4, g5, g6, g7, g9, g11, g45, z45] at e0 j ⊢
      first | exact k2 h' (I.q q j (by first | decide | (repeat' split) <;> first | exact zt4_0 | exact zt4_1 | exact zt4_2)) | (exfalso; first | contradiction | omega)
    · try simp only [lq_n L hp, lq_S L hp, lq_cl L hp, lq_T L hp, lq_is L hp, lq_st2 L hp, lq_co L hp, lq_fn L hp, lq_ml L hp, lq_wl L hp, lq_sv L hp, lq_rs L hp, lq_rp L hp, lq_ar L hp, lq_hol L hp, lq_GG L hp, lq_Ro L hp, lq_gl L, gp, g2, g4, g5, g6, g7, g9, g11, g45, z45] at e0 e1 j ⊢
      first | exact k2 h' (I.q q j (by first | decide | (repeat' split) <;> first | exact zt4_0 | exact zt4_1 | exact zt4_2)) | (exfalso; first | contradiction | omega)
    · try simp only [lq_n L hp, lq_S L hp, lq_cl L hp, lq_T L hp, lq_is L hp, lq_st2 L hp, lq_co L hp, lq_fn L hp, lq_ml L hp, lq_wl L hp, lq_sv L hp, lq_rs L hp, lq_rp L hp, lq_ar L hp, lq_hol L hp, lq_GG L hp, lq_Ro L hp, lq_gl L, gp, g2, g4, g5, g6, g7, g9, g11, g45, z45] at e0 e1 j ⊢
      first | exact k2 h' (I.q q j (by first | decide | (repeat' split) <;> first | exact zt4_0 | exact zt4_1 | exact zt4_2)) | (exfalso; first | contradiction | omega)
    · try simp only [lq_n L hp, lq_S L hp, lq_cl L hp, lq_T L hp, lq_is L hp, lq_st2 L hp, lq_co L hp, lq_fn L hp, lq_ml L hp, lq_wl L hp, lq_sv L hp, lq_rs L hp, lq_rp L hp, lq_ar L hp, lq_hol L hp, lq_GG L hp, lq_Ro L hp, lq_gl L, gp, g2, g4, g5, g6, g7, g9, g11, g45, z45] at e0 e1 j ⊢
      first | exact k2 h' (I.q q j (by first | decide | (repeat' split) <;> first | exact zt4_0 | exact zt4_1 | exact zt4_2)) | (exfalso; first | contradiction | omega)
  · suffices hs : ∀ h1, zQh h h1 (0) → zCC X M_X9_person [.ref 78, .int (zj a), .int (zj b)] h1 R2 from hs _ (zQh_pi h _)
    intro h1 q
    have o := I.oq q
    have L := q.lq
    have hp := I.hp
    have hv1 := I.v.1
    have hn : ((zn h p : Nat) : Int) = gz h p 1 := by unfold zn; omega
    have gp : ∀ y, gz h1 p y = gz h p y := L.gz (by omega)
    have g2 : ∀ y, gz h1 (p + 2) y = gz h (p + 2) y := L.gz (by omega)
    have g4 : ∀ y, gz h1 (p + 4) y = gz h (p + 4) y := L.gz (by omega)
    have g5 : ∀ y, gz h1 (p + 5) y = gz h (p + 5) y := L.gz (by omega)
    have g6 : ∀ y, gz h1 (p + 6) y = gz h (p + 6) y := L.gz (by omega)
    have g7 : ∀ y, gz h1 (p + 7) y = gz h (p + 7) y := L.gz (by omega)
    have g9 : ∀ y, gz h1 (p + 9) y = gz h (p + 9) y := L.gz (by omega)
    have g11 : ∀ y, gz h1 (p + 11) y = gz h (p + 11) y := L.gz (by omega)
    have g45 : ∀ y, gz h1 45 y = gz h 45 y := L.gz (by omega)
    have z45 : ∀ y, zgi h1 45 y = zgi h 45 y := fun y => L.2.2 45 y (by omega)
    refine cq_person o ha1 ha2 hb1 hb2 (fun e0 h' j => ?_) (fun e0 e1 h' j => ?_) (fun e0 e1 h' j => ?_) (fun e0 e1 h' j => ?_)
    · try simp only [lq_n L hp, lq_S L hp, lq_cl L hp, lq_T L hp, lq_is L hp, lq_st2 L hp, lq_co L hp, lq_fn L hp, lq_ml L hp, lq_wl L hp, lq_sv L hp, lq_rs L hp, lq_rp L hp, lq_ar L hp, lq_hol L hp, lq_GG L hp, lq_Ro L hp, lq_gl L, gp, g2, g4, g5, g6, g7, g9, g11, g45, z45] at e0 j ⊢
      first | exact k2 h' (I.q q j (by first | decide | (repeat' split) <;> first | exact zt4_0 | exact zt4_1 | exact zt4_2)) | (exfalso; first | contradiction | omega)
    · try simp only [lq_n L hp, lq_S L hp, lq_cl L hp, lq_T L hp, lq_is L hp, lq_st2 L hp, lq_co L hp, lq_fn L hp, lq_ml L hp, lq_wl L hp, lq_sv L hp, lq_rs L hp, lq_rp L hp, lq_ar L hp, lq_hol L hp, lq_GG L hp, lq_Ro L hp, lq_gl L, gp, g2, g4, g5, g6, g7, g9, g11, g45, z45] at e0 e1 j ⊢
      first | exact k2 h' (I.q q j (by first | decide | (repeat' split) <;> first | exact zt4_0 | exact zt4_1 | exact zt4_2)) | (exfalso; first | contradiction | omega)
    · try simp only [lq_n L hp, lq_S L hp, lq_cl L hp, lq_T L hp, lq_is L hp, lq_st2 L hp, lq_co L hp, lq_fn L hp, lq_ml L hp, lq_wl L hp, lq_sv L hp, lq_rs L hp, lq_rp L hp, lq_ar L hp, lq_hol L hp, lq_GG L hp, lq_Ro L hp, lq_gl L, gp, g2, g4, g5, g6, g7, g9, g11, g45, z45] at e0 e1 j ⊢
      first | exact k2 h' (I.q q j (by first | decide | (repeat' split) <;> first | exact zt4_0 | exact zt4_1 | exact zt4_2)) | (exfalso; first | contradiction | omega)
    · try simp only [lq_n L hp, lq_S L hp, lq_cl L hp, lq_T L hp, lq_is L hp, lq_st2 L hp, lq_co L hp, lq_fn L hp, lq_ml L hp, lq_wl L hp, lq_sv L hp, lq_rs L hp, lq_rp L hp, lq_ar L hp, lq_hol L hp, lq_GG L hp, lq_Ro L hp, lq_gl L, gp, g2, g4, g5, g6, g7, g9, g11, g45, z45] at e0 e1 j ⊢
      first | exact k2 h' (I.q q j (by first | decide | (repeat' split) <;> first | exact zt4_0 | exact zt4_1 | exact zt4_2)) | (exfalso; first | contradiction | omega)
  · suffices hs : ∀ h1, zQh h h1 (0) → zCC X M_X9_person [.ref 78, .int (zj a), .int (zj b)] h1 R2 from hs _ (zQh_pi h _)
    intro h1 q
    have o := I.oq q
    have L := q.lq
    have hp := I.hp
    have hv1 := I.v.1
    have hn : ((zn h p : Nat) : Int) = gz h p 1 := by unfold zn; omega
    have gp : ∀ y, gz h1 p y = gz h p y := L.gz (by omega)
    have g2 : ∀ y, gz h1 (p + 2) y = gz h (p + 2) y := L.gz (by omega)
    have g4 : ∀ y, gz h1 (p + 4) y = gz h (p + 4) y := L.gz (by omega)
    have g5 : ∀ y, gz h1 (p + 5) y = gz h (p + 5) y := L.gz (by omega)
    have g6 : ∀ y, gz h1 (p + 6) y = gz h (p + 6) y := L.gz (by omega)
    have g7 : ∀ y, gz h1 (p + 7) y = gz h (p + 7) y := L.gz (by omega)
    have g9 : ∀ y, gz h1 (p + 9) y = gz h (p + 9) y := L.gz (by omega)
    have g11 : ∀ y, gz h1 (p + 11) y = gz h (p + 11) y := L.gz (by omega)
    have g45 : ∀ y, gz h1 45 y = gz h 45 y := L.gz (by omega)
    have z45 : ∀ y, zgi h1 45 y = zgi h 45 y := fun y => L.2.2 45 y (by omega)
    refine cq_person o ha1 ha2 hb1 hb2 (fun e0 h' j => ?_) (fun e0 e1 h' j => ?_) (fun e0 e1 h' j => ?_) (fun e0 e1 h' j => ?_)
    · try simp only [lq_n L hp, lq_S L hp, lq_cl L hp, lq_T L hp, lq_is L hp, lq_st2 L hp, lq_co L hp, lq_fn L hp, lq_ml L hp, lq_wl L hp, lq_sv L hp, lq_rs L hp, lq_rp L hp, lq_ar L hp, lq_hol L hp, lq_GG L hp, lq_Ro L hp, lq_gl L, gp, g2, g4, g5, g6, g7, g9, g11, g45, z45] at e0 j ⊢
      first | exact k2 h' (I.q q j (by first | decide | (repeat' split) <;> first | exact zt4_0 | exact zt4_1 | exact zt4_2)) | (exfalso; first | contradiction | omega)
    · try simp only [lq_n L hp, lq_S L hp, lq_cl L hp, lq_T L hp, lq_is L hp, lq_st2 L hp, lq_co L hp, lq_fn L hp, lq_ml L hp, lq_wl L hp, lq_sv L hp, lq_rs L hp, lq_rp L hp, lq_ar L hp, lq_hol L hp, lq_GG L hp, lq_Ro L hp, lq_gl L, gp, g2, g4, g5, g6, g7, g9, g11, g45, z45] at e0 e1 j ⊢
      first | exact k2 h' (I.q q j (by first | decide | (repeat' split) <;> first | exact zt4_0 | exact zt4_1 | exact zt4_2)) | (exfalso; first | contradiction | omega)
    · try simp only [lq_n L hp, lq_S L hp, lq_cl L hp, lq_T L hp, lq_is L hp, lq_st2 L hp, lq_co L hp, lq_fn L hp, lq_ml L hp, lq_wl L hp, lq_sv L hp, lq_rs L hp, lq_rp L hp, lq_ar L hp, lq_hol L hp, lq_GG L hp, lq_Ro L hp, lq_gl L, gp, g2, g4, g5, g6, g7, g9, g11, g45, z45] at e0 e1 j ⊢
      first | exact k2 h' (I.q q j (by first | decide | (repeat' split) <;> first | exact zt4_0 | exact zt4_1 | exact zt4_2)) | (exfalso; first | contradiction | omega)
    · try simp only [lq_n L hp, lq_S L hp, lq_cl L hp, lq_T L hp, lq_is L hp, lq_st2 L hp, lq_co L hp, lq_fn L hp, lq_ml L hp, lq_wl L hp, lq_sv L hp, lq_rs L hp, lq_rp L hp, lq_ar L hp, lq_hol L hp, lq_GG L hp, lq_Ro L hp, lq_gl L, gp, g2, g4, g5, g6, g7, g9, g11, g45, z45] at e0 e1 j ⊢
      first | exact k2 h' (I.q q j (by first | decide | (repeat' split) <;> first | exact zt4_0 | exact zt4_1 | exact zt4_2)) | (exfalso; first | contradiction | omega)
  · suffices hs : ∀ h1, zQh h h1 (0) → zCC X M_X9_person [.ref 78, .int (zj a), .int (zj b)] h1 R2 from hs _ (zQh_pi h _)
    intro h1 q
    have o := I.oq q
    have L := q.lq
    have hp := I.hp
    have hv1 := I.v.1
    have hn : ((zn h p : Nat) : Int) = gz h p 1 := by unfold zn; omega
    have gp : ∀ y, gz h1 p y = gz h p y := L.gz (by omega)
    have g2 : ∀ y, gz h1 (p + 2) y = gz h (p + 2) y := L.gz (by omega)
    have g4 : ∀ y, gz h1 (p + 4) y = gz h (p + 4) y := L.gz (by omega)
    have g5 : ∀ y, gz h1 (p + 5) y = gz h (p + 5) y := L.gz (by omega)
    have g6 : ∀ y, gz h1 (p + 6) y = gz h (p + 6) y := L.gz (by omega)
    have g7 : ∀ y, gz h1 (p + 7) y = gz h (p + 7) y := L.gz (by omega)
    have g9 : ∀ y, gz h1 (p + 9) y = gz h (p + 9) y := L.gz (by omega)
    have g11 : ∀ y, gz h1 (p + 11) y = gz h (p + 11) y := L.gz (by omega)
    have g45 : ∀ y, gz h1 45 y = gz h 45 y := L.gz (by omega)
    have z45 : ∀ y, zgi h1 45 y = zgi h 45 y := fun y => L.2.2 45 y (by omega)
    refine cq_person o ha1 ha2 hb1 hb2 (fun e0 h' j => ?_) (fun e0 e1 h' j => ?_) (fun e0 e1 h' j => ?_) (fun e0 e1 h' j => ?_)
    · try simp only [lq_n L hp, lq_S L hp, lq_cl L hp, lq_T L hp, lq_is L hp, lq_st2 L hp, lq_co L hp, lq_fn L hp, lq_ml L hp, lq_wl L hp, lq_sv L hp, lq_rs L hp, lq_rp L hp, lq_ar L hp, lq_hol L hp, lq_GG L hp, lq_Ro L hp, lq_gl L, gp, g2, g4, g5, g6, g7, g9, g11, g45, z45] at e0 j ⊢
      first | exact k2 h' (I.q q j (by first | decide | (repeat' split) <;> first | exact zt4_0 | exact zt4_1 | exact zt4_2)) | (exfalso; first | contradiction | omega)
    · try simp only [lq_n L hp, lq_S L hp, lq_cl L hp, lq_T L hp, lq_is L hp, lq_st2 L hp, lq_co L hp, lq_fn L hp, lq_ml L hp, lq_wl L hp, lq_sv L hp, lq_rs L hp, lq_rp L hp, lq_ar L hp, lq_hol L hp, lq_GG L hp, lq_Ro L hp, lq_gl L, gp, g2, g4, g5, g6, g7, g9, g11, g45, z45] at e0 e1 j ⊢
      first | exact k2 h' (I.q q j (by first | decide | (repeat' split) <;> first | exact zt4_0 | exact zt4_1 | exact zt4_2)) | (exfalso; first | contradiction | omega)
    · try simp only [lq_n L hp, lq_S L hp, lq_cl L hp, lq_T L hp, lq_is L hp, lq_st2 L hp, lq_co L hp, lq_fn L hp, lq_ml L hp, lq_wl L hp, lq_sv L hp, lq_rs L hp, lq_rp L hp, lq_ar L hp, lq_hol L hp, lq_GG L hp, lq_Ro L hp, lq_gl L, gp, g2, g4, g5, g6, g7, g9, g11, g45, z45] at e0 e1 j ⊢
      first | exact k2 h' (I.q q j (by first | decide | (repeat' split) <;> first | exact zt4_0 | exact zt4_1 | exact zt4_2)) | (exfalso; first | contradiction | omega)
    · try simp only [lq_n L hp, lq_S L hp, lq_cl L hp, lq_T L hp, lq_is L hp, lq_st2 L hp, lq_co L hp, lq_fn L hp, lq_ml L hp, lq_wl L hp, lq_sv L hp, lq_rs L hp, lq_rp L hp, lq_ar L hp, lq_hol L hp, lq_GG L hp, lq_Ro L hp, lq_gl L, gp, g2, g4, g5, g6, g7, g9, g11, g45, z45] at e0 e1 j ⊢
      first | exact k2 h' (I.q q j (by first | decide | (repeat' split) <;> first | exact zt4_0 | exact zt4_1 | exact zt4_2)) | (exfalso; first | contradiction | omega)
theorem st_way {a b c : Int} (ha1 : -2147483648 ≤ a) (ha2 : a < 2147483648) (hb1 : -2147483648 ≤ b) (hb2 : b < 2147483648) (hc1 : -2147483648 ≤ c) (hc2 : c < 2147483648) (I : zI h d p) (k : ∀ x h1, zsh h1 78 = some (.inl 9) → (∀ R2 : zRt, (∀ h2, zI h2 d p → R2 (some (.int x)) h2) → zCC X M_X9_way [.ref 78, .int (zj a), .int (zj b), .int (zj c)] h1 R2) → R (some (.int x)) h1) : zCC X M_X7_way [.ref 16, .int (zj a), .int (zj b), .int (zj c)] h R := by
  refine cx_way I.w I.v I.u ha1 ha2 hb1 hb2 hc1 hc2 (k _ _ (by first | exact I.s78 | exact I.s78q (zQh_gh h _ _ _ _) | exact I.s78q (zQh_sk h _ _ _ _)) (fun R2 k2 => ?_))
  suffices hs : ∀ h1, zQh h h1 ((if 0 ≤ a ∧ a < gz h p 13 then (if (0 ≤ b ∧ b < 6) ∧ 0 ≤ c ∧ c < 12 then ((0 : Int), (zwl h p (gz h 45 (6 + a.toNat)) (zsp b c) : Int)) else (2, -1)) else (1, -1)).1) → zCC X M_X9_way [.ref 78, .int (zj a), .int (zj b), .int (zj c)] h1 R2 from hs _ (zQh_pi h _)
  intro h1 q
  have o := I.oq q
  have L := q.lq
  have hp := I.hp
  have hv1 := I.v.1
  have hn : ((zn h p : Nat) : Int) = gz h p 1 := by unfold zn; omega
  have gp : ∀ y, gz h1 p y = gz h p y := L.gz (by omega)
  have g2 : ∀ y, gz h1 (p + 2) y = gz h (p + 2) y := L.gz (by omega)
  have g4 : ∀ y, gz h1 (p + 4) y = gz h (p + 4) y := L.gz (by omega)
  have g5 : ∀ y, gz h1 (p + 5) y = gz h (p + 5) y := L.gz (by omega)
  have g6 : ∀ y, gz h1 (p + 6) y = gz h (p + 6) y := L.gz (by omega)
  have g7 : ∀ y, gz h1 (p + 7) y = gz h (p + 7) y := L.gz (by omega)
  have g9 : ∀ y, gz h1 (p + 9) y = gz h (p + 9) y := L.gz (by omega)
  have g11 : ∀ y, gz h1 (p + 11) y = gz h (p + 11) y := L.gz (by omega)
  have g45 : ∀ y, gz h1 45 y = gz h 45 y := L.gz (by omega)
  have z45 : ∀ y, zgi h1 45 y = zgi h 45 y := fun y => L.2.2 45 y (by omega)
  refine cq_way o ha1 ha2 hb1 hb2 hc1 hc2 (fun  h' j => ?_)
  try simp only [lq_n L hp, lq_S L hp, lq_cl L hp, lq_T L hp, lq_is L hp, lq_st2 L hp, lq_co L hp, lq_fn L hp, lq_ml L hp, lq_wl L hp, lq_sv L hp, lq_rs L hp, lq_rp L hp, lq_ar L hp, lq_hol L hp, lq_GG L hp, lq_Ro L hp, lq_gl L, gp, g2, g4, g5, g6, g7, g9, g11, g45, z45] at  j ⊢
  first | exact k2 h' (I.q q j (by first | decide | (repeat' split) <;> first | exact zt4_0 | exact zt4_1 | exact zt4_2)) | (exfalso; first | contradiction | omega)
theorem st_wayUp {a b c : Int} (ha1 : -2147483648 ≤ a) (ha2 : a < 2147483648) (hb1 : -2147483648 ≤ b) (hb2 : b < 2147483648) (hc1 : -2147483648 ≤ c) (hc2 : c < 2147483648) (I : zI h d p) (k : ∀ x h1, zsh h1 78 = some (.inl 9) → (∀ R2 : zRt, (∀ h2, zI h2 d p → R2 (some (.int x)) h2) → zCC X M_X9_wayUp [.ref 78, .int (zj a), .int (zj b), .int (zj c)] h1 R2) → R (some (.int x)) h1) : zCC X M_X7_wayUp [.ref 16, .int (zj a), .int (zj b), .int (zj c)] h R := by
  refine cx_wayUp I.w I.v I.u ha1 ha2 hb1 hb2 hc1 hc2 (k _ _ (by first | exact I.s78 | exact I.s78q (zQh_gh h _ _ _ _) | exact I.s78q (zQh_sk h _ _ _ _)) (fun R2 k2 => ?_))
  suffices hs : ∀ h1, zQh h h1 ((if 0 ≤ a ∧ a < gz h p 13 then (if (0 ≤ b ∧ b < 6) ∧ 0 ≤ c ∧ c < 12 then ((0 : Int), (if ¬ gz h 45 (6 + a.toNat) = zsp b c ∧ zln (fun q => znb q True) (zst2 h p) (zsp b c) 72 (gz h 45 (6 + a.toNat)) ≤ zln (fun q => znb q False) (zst2 h p) (zsp b c) 72 (gz h 45 (6 + a.toNat)) then 1 else 0 : Int)) else (2, -1)) else (1, -1)).1) → zCC X M_X9_wayUp [.ref 78, .int (zj a), .int (zj b), .int (zj c)] h1 R2 from hs _ (zQh_pi h _)
  intro h1 q
  have o := I.oq q
  have L := q.lq
  have hp := I.hp
  have hv1 := I.v.1
  have hn : ((zn h p : Nat) : Int) = gz h p 1 := by unfold zn; omega
  have gp : ∀ y, gz h1 p y = gz h p y := L.gz (by omega)
  have g2 : ∀ y, gz h1 (p + 2) y = gz h (p + 2) y := L.gz (by omega)
  have g4 : ∀ y, gz h1 (p + 4) y = gz h (p + 4) y := L.gz (by omega)
  have g5 : ∀ y, gz h1 (p + 5) y = gz h (p + 5) y := L.gz (by omega)
  have g6 : ∀ y, gz h1 (p + 6) y = gz h (p + 6) y := L.gz (by omega)
  have g7 : ∀ y, gz h1 (p + 7) y = gz h (p + 7) y := L.gz (by omega)
  have g9 : ∀ y, gz h1 (p + 9) y = gz h (p + 9) y := L.gz (by omega)
  have g11 : ∀ y, gz h1 (p + 11) y = gz h (p + 11) y := L.gz (by omega)
  have g45 : ∀ y, gz h1 45 y = gz h 45 y := L.gz (by omega)
  have z45 : ∀ y, zgi h1 45 y = zgi h 45 y := fun y => L.2.2 45 y (by omega)
  refine cq_wayUp o ha1 ha2 hb1 hb2 hc1 hc2 (fun  h' j => ?_)
  try simp only [lq_n L hp, lq_S L hp, lq_cl L hp, lq_T L hp, lq_is L hp, lq_st2 L hp, lq_co L hp, lq_fn L hp, lq_ml L hp, lq_wl L hp, lq_sv L hp, lq_rs L hp, lq_rp L hp, lq_ar L hp, lq_hol L hp, lq_GG L hp, lq_Ro L hp, lq_gl L, gp, g2, g4, g5, g6, g7, g9, g11, g45, z45] at  j ⊢
  first | exact k2 h' (I.q q j (by first | decide | (repeat' split) <;> first | exact zt4_0 | exact zt4_1 | exact zt4_2)) | (exfalso; first | contradiction | omega)
theorem st_nearest {a b : Int} (ha1 : -2147483648 ≤ a) (ha2 : a < 2147483648) (hb1 : -2147483648 ≤ b) (hb2 : b < 2147483648) (I : zI h d p) (k : ∀ x h1, zsh h1 78 = some (.inl 9) → (∀ R2 : zRt, (∀ h2, zI h2 d p → R2 (some (.int x)) h2) → zCC X M_X9_nearest [.ref 78, .int (zj a), .int (zj b)] h1 R2) → R (some (.int x)) h1) : zCC X M_X7_nearest [.ref 16, .int (zj a), .int (zj b)] h R := by
  refine cx_nearest I.w I.v I.u ha1 ha2 hb1 hb2 (k _ _ (by first | exact I.s78 | exact I.s78q (zQh_gh h _ _ _ _) | exact I.s78q (zQh_sk h _ _ _ _)) (fun R2 k2 => ?_))
  suffices hs : ∀ h1, zQh h h1 ((if (0 ≤ a ∧ a < gz h p 13) ∧ 0 ≤ b ∧ b < gz h p 1 then ((0 : Int), (@ite _ (zis h p 0 0 b.toNat) (Classical.propDecidable _) (zne (fun j => zwl h p (gz h 45 (6 + a.toNat)) (zsp j (zmc j (zcl h p 0 0 b.toNat)))) 6) (-2) : Int)) else (1, -1)).1) → zCC X M_X9_nearest [.ref 78, .int (zj a), .int (zj b)] h1 R2 from hs _ (zQh_pi h _)
  intro h1 q
  have o := I.oq q
  have L := q.lq
  have hp := I.hp
  have hv1 := I.v.1
  have hn : ((zn h p : Nat) : Int) = gz h p 1 := by unfold zn; omega
  have gp : ∀ y, gz h1 p y = gz h p y := L.gz (by omega)
  have g2 : ∀ y, gz h1 (p + 2) y = gz h (p + 2) y := L.gz (by omega)
  have g4 : ∀ y, gz h1 (p + 4) y = gz h (p + 4) y := L.gz (by omega)
  have g5 : ∀ y, gz h1 (p + 5) y = gz h (p + 5) y := L.gz (by omega)
  have g6 : ∀ y, gz h1 (p + 6) y = gz h (p + 6) y := L.gz (by omega)
  have g7 : ∀ y, gz h1 (p + 7) y = gz h (p + 7) y := L.gz (by omega)
  have g9 : ∀ y, gz h1 (p + 9) y = gz h (p + 9) y := L.gz (by omega)
  have g11 : ∀ y, gz h1 (p + 11) y = gz h (p + 11) y := L.gz (by omega)
  have g45 : ∀ y, gz h1 45 y = gz h 45 y := L.gz (by omega)
  have z45 : ∀ y, zgi h1 45 y = zgi h 45 y := fun y => L.2.2 45 y (by omega)
  refine cq_nearest o ha1 ha2 hb1 hb2 (fun  h' j => ?_)
  skip
  repeat rw [lq_n L hp] at j
  repeat rw [lq_n L hp]
  repeat rw [lq_S L hp] at j
  repeat rw [lq_S L hp]
  repeat rw [lq_cl L hp] at j
  repeat rw [lq_cl L hp]
  repeat rw [lq_T L hp] at j
  repeat rw [lq_T L hp]
  repeat rw [lq_is L hp] at j
  repeat rw [lq_is L hp]
  repeat rw [lq_st2 L hp] at j
  repeat rw [lq_st2 L hp]
  repeat rw [lq_co L hp] at j
  repeat rw [lq_co L hp]
  repeat rw [lq_fn L hp] at j
  repeat rw [lq_fn L hp]
  repeat rw [lq_ml L hp] at j
  repeat rw [lq_ml L hp]
  repeat rw [lq_wl L hp] at j
  repeat rw [lq_wl L hp]
  repeat rw [lq_sv L hp] at j
  repeat rw [lq_sv L hp]
  repeat rw [lq_rs L hp] at j
  repeat rw [lq_rs L hp]
  repeat rw [lq_rp L hp] at j
  repeat rw [lq_rp L hp]
  repeat rw [lq_ar L hp] at j
  repeat rw [lq_ar L hp]
  repeat rw [lq_hol L hp] at j
  repeat rw [lq_hol L hp]
  repeat rw [lq_GG L hp] at j
  repeat rw [lq_GG L hp]
  repeat rw [lq_Ro L hp] at j
  repeat rw [lq_Ro L hp]
  repeat rw [lq_gl L] at j
  repeat rw [lq_gl L]
  repeat rw [gp] at j
  repeat rw [gp]
  repeat rw [g2] at j
  repeat rw [g2]
  repeat rw [g4] at j
  repeat rw [g4]
  repeat rw [g5] at j
  repeat rw [g5]
  repeat rw [g6] at j
  repeat rw [g6]
  repeat rw [g7] at j
  repeat rw [g7]
  repeat rw [g9] at j
  repeat rw [g9]
  repeat rw [g11] at j
  repeat rw [g11]
  repeat rw [g45] at j
  repeat rw [g45]
  repeat rw [z45] at j
  repeat rw [z45]
  first | exact k2 h' (I.q q j (by first | decide | (repeat' split) <;> first | exact zt4_0 | exact zt4_1 | exact zt4_2)) | (exfalso; first | contradiction | omega)
theorem st_farthest {a : Int} (ha1 : -2147483648 ≤ a) (ha2 : a < 2147483648) (I : zI h d p) (k : ∀ x h1, zsh h1 78 = some (.inl 9) → (∀ R2 : zRt, (∀ h2, zI h2 d p → R2 (some (.int x)) h2) → zCC X M_X9_farthest [.ref 78, .int (zj a)] h1 R2) → R (some (.int x)) h1) : zCC X M_X7_farthest [.ref 16, .int (zj a)] h R := by
  refine cx_farthest I.w I.v I.u ha1 ha2 (k _ _ (by first | exact I.s78 | exact I.s78q (zQh_gh h _ _ _ _) | exact I.s78q (zQh_sk h _ _ _ _)) (fun R2 k2 => ?_))
  suffices hs : ∀ h1, zQh h h1 ((if 0 ≤ a ∧ a < gz h p 13 then ((0 : Int), ((zfa (fun j => zwl h p (gz h 45 (6 + a.toNat)) (zsp j 0)) 6).1 : Int)) else (1, -1)).1) → zCC X M_X9_farthest [.ref 78, .int (zj a)] h1 R2 from hs _ (zQh_pi h _)
  intro h1 q
  have o := I.oq q
  have L := q.lq
  have hp := I.hp
  have hv1 := I.v.1
  have hn : ((zn h p : Nat) : Int) = gz h p 1 := by unfold zn; omega
  have gp : ∀ y, gz h1 p y = gz h p y := L.gz (by omega)
  have g2 : ∀ y, gz h1 (p + 2) y = gz h (p + 2) y := L.gz (by omega)
  have g4 : ∀ y, gz h1 (p + 4) y = gz h (p + 4) y := L.gz (by omega)
  have g5 : ∀ y, gz h1 (p + 5) y = gz h (p + 5) y := L.gz (by omega)
  have g6 : ∀ y, gz h1 (p + 6) y = gz h (p + 6) y := L.gz (by omega)
  have g7 : ∀ y, gz h1 (p + 7) y = gz h (p + 7) y := L.gz (by omega)
  have g9 : ∀ y, gz h1 (p + 9) y = gz h (p + 9) y := L.gz (by omega)
  have g11 : ∀ y, gz h1 (p + 11) y = gz h (p + 11) y := L.gz (by omega)
  have g45 : ∀ y, gz h1 45 y = gz h 45 y := L.gz (by omega)
  have z45 : ∀ y, zgi h1 45 y = zgi h 45 y := fun y => L.2.2 45 y (by omega)
  refine cq_farthest o ha1 ha2 (fun  h' j => ?_)
  try simp only [lq_n L hp, lq_S L hp, lq_cl L hp, lq_T L hp, lq_is L hp, lq_st2 L hp, lq_co L hp, lq_fn L hp, lq_ml L hp, lq_wl L hp, lq_sv L hp, lq_rs L hp, lq_rp L hp, lq_ar L hp, lq_hol L hp, lq_GG L hp, lq_Ro L hp, lq_gl L, gp, g2, g4, g5, g6, g7, g9, g11, g45, z45] at  j ⊢
  first | exact k2 h' (I.q q j (by first | decide | (repeat' split) <;> first | exact zt4_0 | exact zt4_1 | exact zt4_2)) | (exfalso; first | contradiction | omega)
theorem st_ring  (I : zI h d p) (k : ∀ x h1, zsh h1 78 = some (.inl 9) → (∀ R2 : zRt, (∀ h2, zI h2 d p → R2 (some (.int x)) h2) → zCC X M_X9_ring [.ref 78] h1 R2) → R (some (.int x)) h1) : zCC X M_X7_ring [.ref 16] h R := by
  refine cx_ring I.w I.v I.u (k _ _ (by first | exact I.s78 | exact I.s78q (zQh_gh h _ _ _ _) | exact I.s78q (zQh_sk h _ _ _ _)) (fun R2 k2 => ?_))
  suffices hs : ∀ h1, zQh h h1 ((if gz h p 1 = 0 then (1, -1) else ((0 : Int), (zsum (fun i => zst2 h p i) 72 : Int))).1) → zCC X M_X9_ring [.ref 78] h1 R2 from hs _ (zQh_pi h _)
  intro h1 q
  have o := I.oq q
  have L := q.lq
  have hp := I.hp
  have hv1 := I.v.1
  have hn : ((zn h p : Nat) : Int) = gz h p 1 := by unfold zn; omega
  have gp : ∀ y, gz h1 p y = gz h p y := L.gz (by omega)
  have g2 : ∀ y, gz h1 (p + 2) y = gz h (p + 2) y := L.gz (by omega)
  have g4 : ∀ y, gz h1 (p + 4) y = gz h (p + 4) y := L.gz (by omega)
  have g5 : ∀ y, gz h1 (p + 5) y = gz h (p + 5) y := L.gz (by omega)
  have g6 : ∀ y, gz h1 (p + 6) y = gz h (p + 6) y := L.gz (by omega)
  have g7 : ∀ y, gz h1 (p + 7) y = gz h (p + 7) y := L.gz (by omega)
  have g9 : ∀ y, gz h1 (p + 9) y = gz h (p + 9) y := L.gz (by omega)
  have g11 : ∀ y, gz h1 (p + 11) y = gz h (p + 11) y := L.gz (by omega)
  have g45 : ∀ y, gz h1 45 y = gz h 45 y := L.gz (by omega)
  have z45 : ∀ y, zgi h1 45 y = zgi h 45 y := fun y => L.2.2 45 y (by omega)
  refine cq_ring o (fun  h' j => ?_)
  try simp only [lq_n L hp, lq_S L hp, lq_cl L hp, lq_T L hp, lq_is L hp, lq_st2 L hp, lq_co L hp, lq_fn L hp, lq_ml L hp, lq_wl L hp, lq_sv L hp, lq_rs L hp, lq_rp L hp, lq_ar L hp, lq_hol L hp, lq_GG L hp, lq_Ro L hp, lq_gl L, gp, g2, g4, g5, g6, g7, g9, g11, g45, z45] at  j ⊢
  first | exact k2 h' (I.q q j (by first | decide | (repeat' split) <;> first | exact zt4_0 | exact zt4_1 | exact zt4_2)) | (exfalso; first | contradiction | omega)
theorem st_two {a b : Int} {ot : Prop} (ha1 : -2147483648 ≤ a) (ha2 : a < 2147483648) (hb1 : -2147483648 ≤ b) (hb2 : b < 2147483648) (I : zI h d p) (k : ∀ x h1, zsh h1 78 = some (.inl 9) → (∀ R2 : zRt, (∀ h2, zI h2 d p → R2 (some (.int x)) h2) → zCC X M_X9_two [.ref 78, .int (zj a), .int (zj b), .int (zb ot)] h1 R2) → R (some (.int x)) h1) : zCC X M_X7_two [.ref 16, .int (zj a), .int (zj b), .int (zb ot)] h R := by
  refine cx_two I.w I.v I.u ha1 ha2 hb1 hb2 (k _ _ (by first | exact I.s78 | exact I.s78q (zQh_gh h _ _ _ _) | exact I.s78q (zQh_sk h _ _ _ _)) (fun R2 k2 => ?_))
  suffices hs : ∀ h1, zQh h h1 ((if gz h p 1 = 0 then (1, -100) else if (-3 ≤ a ∧ a ≤ 3) ∧ -3 ≤ b ∧ b ≤ 3 then ((0 : Int), zsv h p a b ot) else (2, -100)).1) → zCC X M_X9_two [.ref 78, .int (zj a), .int (zj b), .int (zb ot)] h1 R2 from hs _ (zQh_pi h _)
  intro h1 q
  have o := I.oq q
  have L := q.lq
  have hp := I.hp
  have hv1 := I.v.1
  have hn : ((zn h p : Nat) : Int) = gz h p 1 := by unfold zn; omega
  have gp : ∀ y, gz h1 p y = gz h p y := L.gz (by omega)
  have g2 : ∀ y, gz h1 (p + 2) y = gz h (p + 2) y := L.gz (by omega)
  have g4 : ∀ y, gz h1 (p + 4) y = gz h (p + 4) y := L.gz (by omega)
  have g5 : ∀ y, gz h1 (p + 5) y = gz h (p + 5) y := L.gz (by omega)
  have g6 : ∀ y, gz h1 (p + 6) y = gz h (p + 6) y := L.gz (by omega)
  have g7 : ∀ y, gz h1 (p + 7) y = gz h (p + 7) y := L.gz (by omega)
  have g9 : ∀ y, gz h1 (p + 9) y = gz h (p + 9) y := L.gz (by omega)
  have g11 : ∀ y, gz h1 (p + 11) y = gz h (p + 11) y := L.gz (by omega)
  have g45 : ∀ y, gz h1 45 y = gz h 45 y := L.gz (by omega)
  have z45 : ∀ y, zgi h1 45 y = zgi h 45 y := fun y => L.2.2 45 y (by omega)
  refine cq_two o ha1 ha2 hb1 hb2 (fun  h' j => ?_)
  try simp only [lq_n L hp, lq_S L hp, lq_cl L hp, lq_T L hp, lq_is L hp, lq_st2 L hp, lq_co L hp, lq_fn L hp, lq_ml L hp, lq_wl L hp, lq_sv L hp, lq_rs L hp, lq_rp L hp, lq_ar L hp, lq_hol L hp, lq_GG L hp, lq_Ro L hp, lq_gl L, gp, g2, g4, g5, g6, g7, g9, g11, g45, z45] at  j ⊢
  first | exact k2 h' (I.q q j (by first | decide | (repeat' split) <;> first | exact zt4_0 | exact zt4_1 | exact zt4_2)) | (exfalso; first | contradiction | omega)
theorem st_rests  (I : zI h d p) (k : ∀ x h1, zsh h1 78 = some (.inl 9) → (∀ R2 : zRt, (∀ h2, zI h2 d p → R2 (some (.int x)) h2) → zCC X M_X9_rests [.ref 78] h1 R2) → R (some (.int x)) h1) : zCC X M_X7_rests [.ref 16] h R := by
  refine cx_rests I.w I.v I.u (fun c0 => k _ _ (by first | exact I.s78 | exact I.s78q (zQh_gh h _ _ _ _) | exact I.s78q (zQh_sk h _ _ _ _)) (fun R2 k2 => ?_)) (fun c0 => k _ _ (by first | exact I.s78 | exact I.s78q (zQh_gh h _ _ _ _) | exact I.s78q (zQh_sk h _ _ _ _)) (fun R2 k2 => ?_))
  · suffices hs : ∀ h1, zQh h h1 (1) → zCC X M_X9_rests [.ref 78] h1 R2 from hs _ (zQh_pi h _)
    intro h1 q
    have o := I.oq q
    have L := q.lq
    have hp := I.hp
    have hv1 := I.v.1
    have hn : ((zn h p : Nat) : Int) = gz h p 1 := by unfold zn; omega
    have gp : ∀ y, gz h1 p y = gz h p y := L.gz (by omega)
    have g2 : ∀ y, gz h1 (p + 2) y = gz h (p + 2) y := L.gz (by omega)
    have g4 : ∀ y, gz h1 (p + 4) y = gz h (p + 4) y := L.gz (by omega)
    have g5 : ∀ y, gz h1 (p + 5) y = gz h (p + 5) y := L.gz (by omega)
    have g6 : ∀ y, gz h1 (p + 6) y = gz h (p + 6) y := L.gz (by omega)
    have g7 : ∀ y, gz h1 (p + 7) y = gz h (p + 7) y := L.gz (by omega)
    have g9 : ∀ y, gz h1 (p + 9) y = gz h (p + 9) y := L.gz (by omega)
    have g11 : ∀ y, gz h1 (p + 11) y = gz h (p + 11) y := L.gz (by omega)
    have g45 : ∀ y, gz h1 45 y = gz h 45 y := L.gz (by omega)
    have z45 : ∀ y, zgi h1 45 y = zgi h 45 y := fun y => L.2.2 45 y (by omega)
    refine cq_rests o (fun e0 h' j => ?_) (fun e0 h' j => ?_)
    · try simp only [lq_n L hp, lq_S L hp, lq_cl L hp, lq_T L hp, lq_is L hp, lq_st2 L hp, lq_co L hp, lq_fn L hp, lq_ml L hp, lq_wl L hp, lq_sv L hp, lq_rs L hp, lq_rp L hp, lq_ar L hp, lq_hol L hp, lq_GG L hp, lq_Ro L hp, lq_gl L, gp, g2, g4, g5, g6, g7, g9, g11, g45, z45] at e0 j ⊢
      first | exact k2 h' (I.q q j (by first | decide | (repeat' split) <;> first | exact zt4_0 | exact zt4_1 | exact zt4_2)) | (exfalso; first | contradiction | omega)
    · try simp only [lq_n L hp, lq_S L hp, lq_cl L hp, lq_T L hp, lq_is L hp, lq_st2 L hp, lq_co L hp, lq_fn L hp, lq_ml L hp, lq_wl L hp, lq_sv L hp, lq_rs L hp, lq_rp L hp, lq_ar L hp, lq_hol L hp, lq_GG L hp, lq_Ro L hp, lq_gl L, gp, g2, g4, g5, g6, g7, g9, g11, g45, z45] at e0 j ⊢
      first | exact k2 h' (I.q q j (by first | decide | (repeat' split) <;> first | exact zt4_0 | exact zt4_1 | exact zt4_2)) | (exfalso; first | contradiction | omega)
  · suffices hs : ∀ h1, zQh h h1 (0) → zCC X M_X9_rests [.ref 78] h1 R2 from hs _ (zQh_pi h _)
    intro h1 q
    have o := I.oq q
    have L := q.lq
    have hp := I.hp
    have hv1 := I.v.1
    have hn : ((zn h p : Nat) : Int) = gz h p 1 := by unfold zn; omega
    have gp : ∀ y, gz h1 p y = gz h p y := L.gz (by omega)
    have g2 : ∀ y, gz h1 (p + 2) y = gz h (p + 2) y := L.gz (by omega)
    have g4 : ∀ y, gz h1 (p + 4) y = gz h (p + 4) y := L.gz (by omega)
    have g5 : ∀ y, gz h1 (p + 5) y = gz h (p + 5) y := L.gz (by omega)
    have g6 : ∀ y, gz h1 (p + 6) y = gz h (p + 6) y := L.gz (by omega)
    have g7 : ∀ y, gz h1 (p + 7) y = gz h (p + 7) y := L.gz (by omega)
    have g9 : ∀ y, gz h1 (p + 9) y = gz h (p + 9) y := L.gz (by omega)
    have g11 : ∀ y, gz h1 (p + 11) y = gz h (p + 11) y := L.gz (by omega)
    have g45 : ∀ y, gz h1 45 y = gz h 45 y := L.gz (by omega)
    have z45 : ∀ y, zgi h1 45 y = zgi h 45 y := fun y => L.2.2 45 y (by omega)
    refine cq_rests o (fun e0 h' j => ?_) (fun e0 h' j => ?_)
    · try simp only [lq_n L hp, lq_S L hp, lq_cl L hp, lq_T L hp, lq_is L hp, lq_st2 L hp, lq_co L hp, lq_fn L hp, lq_ml L hp, lq_wl L hp, lq_sv L hp, lq_rs L hp, lq_rp L hp, lq_ar L hp, lq_hol L hp, lq_GG L hp, lq_Ro L hp, lq_gl L, gp, g2, g4, g5, g6, g7, g9, g11, g45, z45] at e0 j ⊢
      first | exact k2 h' (I.q q j (by first | decide | (repeat' split) <;> first | exact zt4_0 | exact zt4_1 | exact zt4_2)) | (exfalso; first | contradiction | omega)
    · try simp only [lq_n L hp, lq_S L hp, lq_cl L hp, lq_T L hp, lq_is L hp, lq_st2 L hp, lq_co L hp, lq_fn L hp, lq_ml L hp, lq_wl L hp, lq_sv L hp, lq_rs L hp, lq_rp L hp, lq_ar L hp, lq_hol L hp, lq_GG L hp, lq_Ro L hp, lq_gl L, gp, g2, g4, g5, g6, g7, g9, g11, g45, z45] at e0 j ⊢
      first | exact k2 h' (I.q q j (by first | decide | (repeat' split) <;> first | exact zt4_0 | exact zt4_1 | exact zt4_2)) | (exfalso; first | contradiction | omega)
theorem st_rest  (I : zI h d p) (k : ∀ x h1, zsh h1 78 = some (.inl 9) → (∀ R2 : zRt, (∀ h2, zI h2 d p → R2 (some (.int x)) h2) → zCC X M_X9_rest [.ref 78] h1 R2) → R (some (.int x)) h1) : zCC X M_X7_rest [.ref 16] h R := by
  refine cx_rest I.w I.v I.u (fun c0 => k _ _ (by first | exact I.s78 | exact I.s78q (zQh_gh h _ _ _ _) | exact I.s78q (zQh_sk h _ _ _ _)) (fun R2 k2 => ?_)) (fun c0 => k _ _ (by first | exact I.s78 | exact I.s78q (zQh_gh h _ _ _ _) | exact I.s78q (zQh_sk h _ _ _ _)) (fun R2 k2 => ?_))
  · suffices hs : ∀ h1, zQh h h1 (1) → zCC X M_X9_rest [.ref 78] h1 R2 from hs _ (zQh_pi h _)
    intro h1 q
    have o := I.oq q
    have L := q.lq
    have hp := I.hp
    have hv1 := I.v.1
    have hn : ((zn h p : Nat) : Int) = gz h p 1 := by unfold zn; omega
    have gp : ∀ y, gz h1 p y = gz h p y := L.gz (by omega)
    have g2 : ∀ y, gz h1 (p + 2) y = gz h (p + 2) y := L.gz (by omega)
    have g4 : ∀ y, gz h1 (p + 4) y = gz h (p + 4) y := L.gz (by omega)
    have g5 : ∀ y, gz h1 (p + 5) y = gz h (p + 5) y := L.gz (by omega)
    have g6 : ∀ y, gz h1 (p + 6) y = gz h (p + 6) y := L.gz (by omega)
    have g7 : ∀ y, gz h1 (p + 7) y = gz h (p + 7) y := L.gz (by omega)
    have g9 : ∀ y, gz h1 (p + 9) y = gz h (p + 9) y := L.gz (by omega)
    have g11 : ∀ y, gz h1 (p + 11) y = gz h (p + 11) y := L.gz (by omega)
    have g45 : ∀ y, gz h1 45 y = gz h 45 y := L.gz (by omega)
    have z45 : ∀ y, zgi h1 45 y = zgi h 45 y := fun y => L.2.2 45 y (by omega)
    refine cq_rest o (fun e0 h' j => ?_) (fun e0 h' j => ?_)
    · try simp only [lq_n L hp, lq_S L hp, lq_cl L hp, lq_T L hp, lq_is L hp, lq_st2 L hp, lq_co L hp, lq_fn L hp, lq_ml L hp, lq_wl L hp, lq_sv L hp, lq_rs L hp, lq_rp L hp, lq_ar L hp, lq_hol L hp, lq_GG L hp, lq_Ro L hp, lq_gl L, gp, g2, g4, g5, g6, g7, g9, g11, g45, z45] at e0 j ⊢
      first | exact k2 h' (I.q q j (by first | decide | (repeat' split) <;> first | exact zt4_0 | exact zt4_1 | exact zt4_2)) | (exfalso; first | contradiction | omega)
    · try simp only [lq_n L hp, lq_S L hp, lq_cl L hp, lq_T L hp, lq_is L hp, lq_st2 L hp, lq_co L hp, lq_fn L hp, lq_ml L hp, lq_wl L hp, lq_sv L hp, lq_rs L hp, lq_rp L hp, lq_ar L hp, lq_hol L hp, lq_GG L hp, lq_Ro L hp, lq_gl L, gp, g2, g4, g5, g6, g7, g9, g11, g45, z45] at e0 j ⊢
      first | exact k2 h' (I.q q j (by first | decide | (repeat' split) <;> first | exact zt4_0 | exact zt4_1 | exact zt4_2)) | (exfalso; first | contradiction | omega)
  · suffices hs : ∀ h1, zQh h h1 (0) → zCC X M_X9_rest [.ref 78] h1 R2 from hs _ (zQh_pi h _)
    intro h1 q
    have o := I.oq q
    have L := q.lq
    have hp := I.hp
    have hv1 := I.v.1
    have hn : ((zn h p : Nat) : Int) = gz h p 1 := by unfold zn; omega
    have gp : ∀ y, gz h1 p y = gz h p y := L.gz (by omega)
    have g2 : ∀ y, gz h1 (p + 2) y = gz h (p + 2) y := L.gz (by omega)
    have g4 : ∀ y, gz h1 (p + 4) y = gz h (p + 4) y := L.gz (by omega)
    have g5 : ∀ y, gz h1 (p + 5) y = gz h (p + 5) y := L.gz (by omega)
    have g6 : ∀ y, gz h1 (p + 6) y = gz h (p + 6) y := L.gz (by omega)
    have g7 : ∀ y, gz h1 (p + 7) y = gz h (p + 7) y := L.gz (by omega)
    have g9 : ∀ y, gz h1 (p + 9) y = gz h (p + 9) y := L.gz (by omega)
    have g11 : ∀ y, gz h1 (p + 11) y = gz h (p + 11) y := L.gz (by omega)
    have g45 : ∀ y, gz h1 45 y = gz h 45 y := L.gz (by omega)
    have z45 : ∀ y, zgi h1 45 y = zgi h 45 y := fun y => L.2.2 45 y (by omega)
    refine cq_rest o (fun e0 h' j => ?_) (fun e0 h' j => ?_)
    · try simp only [lq_n L hp, lq_S L hp, lq_cl L hp, lq_T L hp, lq_is L hp, lq_st2 L hp, lq_co L hp, lq_fn L hp, lq_ml L hp, lq_wl L hp, lq_sv L hp, lq_rs L hp, lq_rp L hp, lq_ar L hp, lq_hol L hp, lq_GG L hp, lq_Ro L hp, lq_gl L, gp, g2, g4, g5, g6, g7, g9, g11, g45, z45] at e0 j ⊢
      first | exact k2 h' (I.q q j (by first | decide | (repeat' split) <;> first | exact zt4_0 | exact zt4_1 | exact zt4_2)) | (exfalso; first | contradiction | omega)
    · try simp only [lq_n L hp, lq_S L hp, lq_cl L hp, lq_T L hp, lq_is L hp, lq_st2 L hp, lq_co L hp, lq_fn L hp, lq_ml L hp, lq_wl L hp, lq_sv L hp, lq_rs L hp, lq_rp L hp, lq_ar L hp, lq_hol L hp, lq_GG L hp, lq_Ro L hp, lq_gl L, gp, g2, g4, g5, g6, g7, g9, g11, g45, z45] at e0 j ⊢
      first | exact k2 h' (I.q q j (by first | decide | (repeat' split) <;> first | exact zt4_0 | exact zt4_1 | exact zt4_2)) | (exfalso; first | contradiction | omega)
theorem st_shaken {a b c : Int} (ha1 : -2147483648 ≤ a) (ha2 : a < 2147483648) (hb1 : -2147483648 ≤ b) (hb2 : b < 2147483648) (hc1 : -2147483648 ≤ c) (hc2 : c < 2147483648) (I : zI h d p) (k : ∀ x h1, zsh h1 78 = some (.inl 9) → (∀ R2 : zRt, (∀ h2, zI h2 d p → R2 (some (.int x)) h2) → zCC X M_X9_shaken [.ref 78, .int (zj a), .int (zj b), .int (zj c)] h1 R2) → R (some (.int x)) h1) : zCC X M_X7_shaken [.ref 16, .int (zj a), .int (zj b), .int (zj c)] h R := by
  refine cx_shaken I.w I.v I.u ha1 ha2 hb1 hb2 hc1 hc2 (fun c0 => k _ _ (by first | exact I.s78 | exact I.s78q (zQh_gh h _ _ _ _) | exact I.s78q (zQh_sk h _ _ _ _)) (fun R2 k2 => ?_)) (fun c0 c1 => k _ _ (by first | exact I.s78 | exact I.s78q (zQh_gh h _ _ _ _) | exact I.s78q (zQh_sk h _ _ _ _)) (fun R2 k2 => ?_)) (fun c0 c1 => k _ _ (by first | exact I.s78 | exact I.s78q (zQh_gh h _ _ _ _) | exact I.s78q (zQh_sk h _ _ _ _)) (fun R2 k2 => ?_))
  · suffices hs : ∀ h1, zQh h h1 (1) → zCC X M_X9_shaken [.ref 78, .int (zj a), .int (zj b), .int (zj c)] h1 R2 from hs _ (zQh_pi h _)
    intro h1 q
    have o := I.oq q
    have L := q.lq
    have hp := I.hp
    have hv1 := I.v.1
    have hn : ((zn h p : Nat) : Int) = gz h p 1 := by unfold zn; omega
    have gp : ∀ y, gz h1 p y = gz h p y := L.gz (by omega)
    have g2 : ∀ y, gz h1 (p + 2) y = gz h (p + 2) y := L.gz (by omega)
    have g4 : ∀ y, gz h1 (p + 4) y = gz h (p + 4) y := L.gz (by omega)
    have g5 : ∀ y, gz h1 (p + 5) y = gz h (p + 5) y := L.gz (by omega)
    have g6 : ∀ y, gz h1 (p + 6) y = gz h (p + 6) y := L.gz (by omega)
    have g7 : ∀ y, gz h1 (p + 7) y = gz h (p + 7) y := L.gz (by omega)
    have g9 : ∀ y, gz h1 (p + 9) y = gz h (p + 9) y := L.gz (by omega)
    have g11 : ∀ y, gz h1 (p + 11) y = gz h (p + 11) y := L.gz (by omega)
    have g45 : ∀ y, gz h1 45 y = gz h 45 y := L.gz (by omega)
    have z45 : ∀ y, zgi h1 45 y = zgi h 45 y := fun y => L.2.2 45 y (by omega)
    refine cq_shaken o ha1 ha2 hb1 hb2 hc1 hc2 (fun e0 h' j => ?_) (fun e0 e1 h' j => ?_) (fun e0 e1 h' j => ?_)
    · try simp only [lq_n L hp, lq_S L hp, lq_cl L hp, lq_T L hp, lq_is L hp, lq_st2 L hp, lq_co L hp, lq_fn L hp, lq_ml L hp, lq_wl L hp, lq_sv L hp, lq_rs L hp, lq_rp L hp, lq_ar L hp, lq_hol L hp, lq_GG L hp, lq_Ro L hp, lq_gl L, gp, g2, g4, g5, g6, g7, g9, g11, g45, z45] at e0 j ⊢
      first | exact k2 h' (I.q q j (by first | decide | (repeat' split) <;> first | exact zt4_0 | exact zt4_1 | exact zt4_2)) | (exfalso; first | contradiction | omega)
    · try simp only [lq_n L hp, lq_S L hp, lq_cl L hp, lq_T L hp, lq_is L hp, lq_st2 L hp, lq_co L hp, lq_fn L hp, lq_ml L hp, lq_wl L hp, lq_sv L hp, lq_rs L hp, lq_rp L hp, lq_ar L hp, lq_hol L hp, lq_GG L hp, lq_Ro L hp, lq_gl L, gp, g2, g4, g5, g6, g7, g9, g11, g45, z45] at e0 e1 j ⊢
      first | exact k2 h' (I.q q j (by first | decide | (repeat' split) <;> first | exact zt4_0 | exact zt4_1 | exact zt4_2)) | (exfalso; first | contradiction | omega)
    · try simp only [lq_n L hp, lq_S L hp, lq_cl L hp, lq_T L hp, lq_is L hp, lq_st2 L hp, lq_co L hp, lq_fn L hp, lq_ml L hp, lq_wl L hp, lq_sv L hp, lq_rs L hp, lq_rp L hp, lq_ar L hp, lq_hol L hp, lq_GG L hp, lq_Ro L hp, lq_gl L, gp, g2, g4, g5, g6, g7, g9, g11, g45, z45] at e0 e1 j ⊢
      first | exact k2 h' (I.q q j (by first | decide | (repeat' split) <;> first | exact zt4_0 | exact zt4_1 | exact zt4_2)) | (exfalso; first | contradiction | omega)
  · suffices hs : ∀ h1, zQh h h1 (2) → zCC X M_X9_shaken [.ref 78, .int (zj a), .int (zj b), .int (zj c)] h1 R2 from hs _ (zQh_pi h _)
    intro h1 q
    have o := I.oq q
    have L := q.lq
    have hp := I.hp
    have hv1 := I.v.1
    have hn : ((zn h p : Nat) : Int) = gz h p 1 := by unfold zn; omega
    have gp : ∀ y, gz h1 p y = gz h p y := L.gz (by omega)
    have g2 : ∀ y, gz h1 (p + 2) y = gz h (p + 2) y := L.gz (by omega)
    have g4 : ∀ y, gz h1 (p + 4) y = gz h (p + 4) y := L.gz (by omega)
    have g5 : ∀ y, gz h1 (p + 5) y = gz h (p + 5) y := L.gz (by omega)
    have g6 : ∀ y, gz h1 (p + 6) y = gz h (p + 6) y := L.gz (by omega)
    have g7 : ∀ y, gz h1 (p + 7) y = gz h (p + 7) y := L.gz (by omega)
    have g9 : ∀ y, gz h1 (p + 9) y = gz h (p + 9) y := L.gz (by omega)
    have g11 : ∀ y, gz h1 (p + 11) y = gz h (p + 11) y := L.gz (by omega)
    have g45 : ∀ y, gz h1 45 y = gz h 45 y := L.gz (by omega)
    have z45 : ∀ y, zgi h1 45 y = zgi h 45 y := fun y => L.2.2 45 y (by omega)
    refine cq_shaken o ha1 ha2 hb1 hb2 hc1 hc2 (fun e0 h' j => ?_) (fun e0 e1 h' j => ?_) (fun e0 e1 h' j => ?_)
    · try simp only [lq_n L hp, lq_S L hp, lq_cl L hp, lq_T L hp, lq_is L hp, lq_st2 L hp, lq_co L hp, lq_fn L hp, lq_ml L hp, lq_wl L hp, lq_sv L hp, lq_rs L hp, lq_rp L hp, lq_ar L hp, lq_hol L hp, lq_GG L hp, lq_Ro L hp, lq_gl L, gp, g2, g4, g5, g6, g7, g9, g11, g45, z45] at e0 j ⊢
      first | exact k2 h' (I.q q j (by first | decide | (repeat' split) <;> first | exact zt4_0 | exact zt4_1 | exact zt4_2)) | (exfalso; first | contradiction | omega)
    · try simp only [lq_n L hp, lq_S L hp, lq_cl L hp, lq_T L hp, lq_is L hp, lq_st2 L hp, lq_co L hp, lq_fn L hp, lq_ml L hp, lq_wl L hp, lq_sv L hp, lq_rs L hp, lq_rp L hp, lq_ar L hp, lq_hol L hp, lq_GG L hp, lq_Ro L hp, lq_gl L, gp, g2, g4, g5, g6, g7, g9, g11, g45, z45] at e0 e1 j ⊢
      first | exact k2 h' (I.q q j (by first | decide | (repeat' split) <;> first | exact zt4_0 | exact zt4_1 | exact zt4_2)) | (exfalso; first | contradiction | omega)
    · try simp only [lq_n L hp, lq_S L hp, lq_cl L hp, lq_T L hp, lq_is L hp, lq_st2 L hp, lq_co L hp, lq_fn L hp, lq_ml L hp, lq_wl L hp, lq_sv L hp, lq_rs L hp, lq_rp L hp, lq_ar L hp, lq_hol L hp, lq_GG L hp, lq_Ro L hp, lq_gl L, gp, g2, g4, g5, g6, g7, g9, g11, g45, z45] at e0 e1 j ⊢
      first | exact k2 h' (I.q q j (by first | decide | (repeat' split) <;> first | exact zt4_0 | exact zt4_1 | exact zt4_2)) | (exfalso; first | contradiction | omega)
  · suffices hs : ∀ h1, zQh h h1 (0) → zCC X M_X9_shaken [.ref 78, .int (zj a), .int (zj b), .int (zj c)] h1 R2 from hs _ (zQh_sk h _ _ _ _)
    intro h1 q
    have o := I.oq q
    have L := q.lq
    have hp := I.hp
    have hv1 := I.v.1
    have hn : ((zn h p : Nat) : Int) = gz h p 1 := by unfold zn; omega
    have gp : ∀ y, gz h1 p y = gz h p y := L.gz (by omega)
    have g2 : ∀ y, gz h1 (p + 2) y = gz h (p + 2) y := L.gz (by omega)
    have g4 : ∀ y, gz h1 (p + 4) y = gz h (p + 4) y := L.gz (by omega)
    have g5 : ∀ y, gz h1 (p + 5) y = gz h (p + 5) y := L.gz (by omega)
    have g6 : ∀ y, gz h1 (p + 6) y = gz h (p + 6) y := L.gz (by omega)
    have g7 : ∀ y, gz h1 (p + 7) y = gz h (p + 7) y := L.gz (by omega)
    have g9 : ∀ y, gz h1 (p + 9) y = gz h (p + 9) y := L.gz (by omega)
    have g11 : ∀ y, gz h1 (p + 11) y = gz h (p + 11) y := L.gz (by omega)
    have g45 : ∀ y, gz h1 45 y = gz h 45 y := L.gz (by omega)
    have z45 : ∀ y, zgi h1 45 y = zgi h 45 y := fun y => L.2.2 45 y (by omega)
    refine cq_shaken o ha1 ha2 hb1 hb2 hc1 hc2 (fun e0 h' j => ?_) (fun e0 e1 h' j => ?_) (fun e0 e1 h' j => ?_)
    · try simp only [lq_n L hp, lq_S L hp, lq_cl L hp, lq_T L hp, lq_is L hp, lq_st2 L hp, lq_co L hp, lq_fn L hp, lq_ml L hp, lq_wl L hp, lq_sv L hp, lq_rs L hp, lq_rp L hp, lq_ar L hp, lq_hol L hp, lq_GG L hp, lq_Ro L hp, lq_gl L, gp, g2, g4, g5, g6, g7, g9, g11, g45, z45] at e0 j ⊢
      first | exact k2 h' (I.q q j (by first | decide | (repeat' split) <;> first | exact zt4_0 | exact zt4_1 | exact zt4_2)) | (exfalso; first | contradiction | omega)
    · try simp only [lq_n L hp, lq_S L hp, lq_cl L hp, lq_T L hp, lq_is L hp, lq_st2 L hp, lq_co L hp, lq_fn L hp, lq_ml L hp, lq_wl L hp, lq_sv L hp, lq_rs L hp, lq_rp L hp, lq_ar L hp, lq_hol L hp, lq_GG L hp, lq_Ro L hp, lq_gl L, gp, g2, g4, g5, g6, g7, g9, g11, g45, z45] at e0 e1 j ⊢
      first | exact k2 h' (I.q q j (by first | decide | (repeat' split) <;> first | exact zt4_0 | exact zt4_1 | exact zt4_2)) | (exfalso; first | contradiction | omega)
    · try simp only [lq_n L hp, lq_S L hp, lq_cl L hp, lq_T L hp, lq_is L hp, lq_st2 L hp, lq_co L hp, lq_fn L hp, lq_ml L hp, lq_wl L hp, lq_sv L hp, lq_rs L hp, lq_rp L hp, lq_ar L hp, lq_hol L hp, lq_GG L hp, lq_Ro L hp, lq_gl L, gp, g2, g4, g5, g6, g7, g9, g11, g45, z45] at e0 e1 j ⊢
      first | exact k2 h' (I.q q j (by first | decide | (repeat' split) <;> first | exact zt4_0 | exact zt4_1 | exact zt4_2)) | (exfalso; first | contradiction | omega)
theorem st_topDays {a b c : Int} (ha1 : -2147483648 ≤ a) (ha2 : a < 2147483648) (hb1 : -2147483648 ≤ b) (hb2 : b < 2147483648) (hc1 : -2147483648 ≤ c) (hc2 : c < 2147483648) (I : zI h d p) (k : ∀ x h1, zsh h1 78 = some (.inl 9) → (∀ R2 : zRt, (∀ h2, zI h2 d p → R2 (some (.int x)) h2) → zCC X M_X9_topDays [.ref 78, .int (zj a), .int (zj b), .int (zj c)] h1 R2) → R (some (.int x)) h1) : zCC X M_X7_topDays [.ref 16, .int (zj a), .int (zj b), .int (zj c)] h R := by
  refine cx_topDays I.w I.v I.u ha1 ha2 hb1 hb2 hc1 hc2 (fun c0 => k _ _ (by first | exact I.s78 | exact I.s78q (zQh_gh h _ _ _ _) | exact I.s78q (zQh_sk h _ _ _ _)) (fun R2 k2 => ?_)) (fun c0 c1 => k _ _ (by first | exact I.s78 | exact I.s78q (zQh_gh h _ _ _ _) | exact I.s78q (zQh_sk h _ _ _ _)) (fun R2 k2 => ?_)) (fun c0 c1 => k _ _ (by first | exact I.s78 | exact I.s78q (zQh_gh h _ _ _ _) | exact I.s78q (zQh_sk h _ _ _ _)) (fun R2 k2 => ?_))
  · suffices hs : ∀ h1, zQh h h1 (1) → zCC X M_X9_topDays [.ref 78, .int (zj a), .int (zj b), .int (zj c)] h1 R2 from hs _ (zQh_pi h _)
    intro h1 q
    have o := I.oq q
    have L := q.lq
    have hp := I.hp
    have hv1 := I.v.1
    have hn : ((zn h p : Nat) : Int) = gz h p 1 := by unfold zn; omega
    have gp : ∀ y, gz h1 p y = gz h p y := L.gz (by omega)
    have g2 : ∀ y, gz h1 (p + 2) y = gz h (p + 2) y := L.gz (by omega)
    have g4 : ∀ y, gz h1 (p + 4) y = gz h (p + 4) y := L.gz (by omega)
    have g5 : ∀ y, gz h1 (p + 5) y = gz h (p + 5) y := L.gz (by omega)
    have g6 : ∀ y, gz h1 (p + 6) y = gz h (p + 6) y := L.gz (by omega)
    have g7 : ∀ y, gz h1 (p + 7) y = gz h (p + 7) y := L.gz (by omega)
    have g9 : ∀ y, gz h1 (p + 9) y = gz h (p + 9) y := L.gz (by omega)
    have g11 : ∀ y, gz h1 (p + 11) y = gz h (p + 11) y := L.gz (by omega)
    have g45 : ∀ y, gz h1 45 y = gz h 45 y := L.gz (by omega)
    have z45 : ∀ y, zgi h1 45 y = zgi h 45 y := fun y => L.2.2 45 y (by omega)
    refine cq_topDays o ha1 ha2 hb1 hb2 hc1 hc2 (fun e0 h' j => ?_) (fun e0 e1 h' j => ?_) (fun e0 e1 h' j => ?_)
    · try simp only [lq_n L hp, lq_S L hp, lq_cl L hp, lq_T L hp, lq_is L hp, lq_st2 L hp, lq_co L hp, lq_fn L hp, lq_ml L hp, lq_wl L hp, lq_sv L hp, lq_rs L hp, lq_rp L hp, lq_ar L hp, lq_hol L hp, lq_GG L hp, lq_Ro L hp, lq_gl L, gp, g2, g4, g5, g6, g7, g9, g11, g45, z45] at e0 j ⊢
      first | exact k2 h' (I.q q j (by first | decide | (repeat' split) <;> first | exact zt4_0 | exact zt4_1 | exact zt4_2)) | (exfalso; first | contradiction | omega)
    · try simp only [lq_n L hp, lq_S L hp, lq_cl L hp, lq_T L hp, lq_is L hp, lq_st2 L hp, lq_co L hp, lq_fn L hp, lq_ml L hp, lq_wl L hp, lq_sv L hp, lq_rs L hp, lq_rp L hp, lq_ar L hp, lq_hol L hp, lq_GG L hp, lq_Ro L hp, lq_gl L, gp, g2, g4, g5, g6, g7, g9, g11, g45, z45] at e0 e1 j ⊢
      first | exact k2 h' (I.q q j (by first | decide | (repeat' split) <;> first | exact zt4_0 | exact zt4_1 | exact zt4_2)) | (exfalso; first | contradiction | omega)
    · try simp only [lq_n L hp, lq_S L hp, lq_cl L hp, lq_T L hp, lq_is L hp, lq_st2 L hp, lq_co L hp, lq_fn L hp, lq_ml L hp, lq_wl L hp, lq_sv L hp, lq_rs L hp, lq_rp L hp, lq_ar L hp, lq_hol L hp, lq_GG L hp, lq_Ro L hp, lq_gl L, gp, g2, g4, g5, g6, g7, g9, g11, g45, z45] at e0 e1 j ⊢
      first | exact k2 h' (I.q q j (by first | decide | (repeat' split) <;> first | exact zt4_0 | exact zt4_1 | exact zt4_2)) | (exfalso; first | contradiction | omega)
  · suffices hs : ∀ h1, zQh h h1 (2) → zCC X M_X9_topDays [.ref 78, .int (zj a), .int (zj b), .int (zj c)] h1 R2 from hs _ (zQh_pi h _)
    intro h1 q
    have o := I.oq q
    have L := q.lq
    have hp := I.hp
    have hv1 := I.v.1
    have hn : ((zn h p : Nat) : Int) = gz h p 1 := by unfold zn; omega
    have gp : ∀ y, gz h1 p y = gz h p y := L.gz (by omega)
    have g2 : ∀ y, gz h1 (p + 2) y = gz h (p + 2) y := L.gz (by omega)
    have g4 : ∀ y, gz h1 (p + 4) y = gz h (p + 4) y := L.gz (by omega)
    have g5 : ∀ y, gz h1 (p + 5) y = gz h (p + 5) y := L.gz (by omega)
    have g6 : ∀ y, gz h1 (p + 6) y = gz h (p + 6) y := L.gz (by omega)
    have g7 : ∀ y, gz h1 (p + 7) y = gz h (p + 7) y := L.gz (by omega)
    have g9 : ∀ y, gz h1 (p + 9) y = gz h (p + 9) y := L.gz (by omega)
    have g11 : ∀ y, gz h1 (p + 11) y = gz h (p + 11) y := L.gz (by omega)
    have g45 : ∀ y, gz h1 45 y = gz h 45 y := L.gz (by omega)
    have z45 : ∀ y, zgi h1 45 y = zgi h 45 y := fun y => L.2.2 45 y (by omega)
    refine cq_topDays o ha1 ha2 hb1 hb2 hc1 hc2 (fun e0 h' j => ?_) (fun e0 e1 h' j => ?_) (fun e0 e1 h' j => ?_)
    · try simp only [lq_n L hp, lq_S L hp, lq_cl L hp, lq_T L hp, lq_is L hp, lq_st2 L hp, lq_co L hp, lq_fn L hp, lq_ml L hp, lq_wl L hp, lq_sv L hp, lq_rs L hp, lq_rp L hp, lq_ar L hp, lq_hol L hp, lq_GG L hp, lq_Ro L hp, lq_gl L, gp, g2, g4, g5, g6, g7, g9, g11, g45, z45] at e0 j ⊢
      first | exact k2 h' (I.q q j (by first | decide | (repeat' split) <;> first | exact zt4_0 | exact zt4_1 | exact zt4_2)) | (exfalso; first | contradiction | omega)
    · try simp only [lq_n L hp, lq_S L hp, lq_cl L hp, lq_T L hp, lq_is L hp, lq_st2 L hp, lq_co L hp, lq_fn L hp, lq_ml L hp, lq_wl L hp, lq_sv L hp, lq_rs L hp, lq_rp L hp, lq_ar L hp, lq_hol L hp, lq_GG L hp, lq_Ro L hp, lq_gl L, gp, g2, g4, g5, g6, g7, g9, g11, g45, z45] at e0 e1 j ⊢
      first | exact k2 h' (I.q q j (by first | decide | (repeat' split) <;> first | exact zt4_0 | exact zt4_1 | exact zt4_2)) | (exfalso; first | contradiction | omega)
    · try simp only [lq_n L hp, lq_S L hp, lq_cl L hp, lq_T L hp, lq_is L hp, lq_st2 L hp, lq_co L hp, lq_fn L hp, lq_ml L hp, lq_wl L hp, lq_sv L hp, lq_rs L hp, lq_rp L hp, lq_ar L hp, lq_hol L hp, lq_GG L hp, lq_Ro L hp, lq_gl L, gp, g2, g4, g5, g6, g7, g9, g11, g45, z45] at e0 e1 j ⊢
      first | exact k2 h' (I.q q j (by first | decide | (repeat' split) <;> first | exact zt4_0 | exact zt4_1 | exact zt4_2)) | (exfalso; first | contradiction | omega)
  · suffices hs : ∀ h1, zQh h h1 (0) → zCC X M_X9_topDays [.ref 78, .int (zj a), .int (zj b), .int (zj c)] h1 R2 from hs _ (zQh_sk h _ _ _ _)
    intro h1 q
    have o := I.oq q
    have L := q.lq
    have hp := I.hp
    have hv1 := I.v.1
    have hn : ((zn h p : Nat) : Int) = gz h p 1 := by unfold zn; omega
    have gp : ∀ y, gz h1 p y = gz h p y := L.gz (by omega)
    have g2 : ∀ y, gz h1 (p + 2) y = gz h (p + 2) y := L.gz (by omega)
    have g4 : ∀ y, gz h1 (p + 4) y = gz h (p + 4) y := L.gz (by omega)
    have g5 : ∀ y, gz h1 (p + 5) y = gz h (p + 5) y := L.gz (by omega)
    have g6 : ∀ y, gz h1 (p + 6) y = gz h (p + 6) y := L.gz (by omega)
    have g7 : ∀ y, gz h1 (p + 7) y = gz h (p + 7) y := L.gz (by omega)
    have g9 : ∀ y, gz h1 (p + 9) y = gz h (p + 9) y := L.gz (by omega)
    have g11 : ∀ y, gz h1 (p + 11) y = gz h (p + 11) y := L.gz (by omega)
    have g45 : ∀ y, gz h1 45 y = gz h 45 y := L.gz (by omega)
    have z45 : ∀ y, zgi h1 45 y = zgi h 45 y := fun y => L.2.2 45 y (by omega)
    refine cq_topDays o ha1 ha2 hb1 hb2 hc1 hc2 (fun e0 h' j => ?_) (fun e0 e1 h' j => ?_) (fun e0 e1 h' j => ?_)
    · try simp only [lq_n L hp, lq_S L hp, lq_cl L hp, lq_T L hp, lq_is L hp, lq_st2 L hp, lq_co L hp, lq_fn L hp, lq_ml L hp, lq_wl L hp, lq_sv L hp, lq_rs L hp, lq_rp L hp, lq_ar L hp, lq_hol L hp, lq_GG L hp, lq_Ro L hp, lq_gl L, gp, g2, g4, g5, g6, g7, g9, g11, g45, z45] at e0 j ⊢
      first | exact k2 h' (I.q q j (by first | decide | (repeat' split) <;> first | exact zt4_0 | exact zt4_1 | exact zt4_2)) | (exfalso; first | contradiction | omega)
    · try simp only [lq_n L hp, lq_S L hp, lq_cl L hp, lq_T L hp, lq_is L hp, lq_st2 L hp, lq_co L hp, lq_fn L hp, lq_ml L hp, lq_wl L hp, lq_sv L hp, lq_rs L hp, lq_rp L hp, lq_ar L hp, lq_hol L hp, lq_GG L hp, lq_Ro L hp, lq_gl L, gp, g2, g4, g5, g6, g7, g9, g11, g45, z45] at e0 e1 j ⊢
      first | exact k2 h' (I.q q j (by first | decide | (repeat' split) <;> first | exact zt4_0 | exact zt4_1 | exact zt4_2)) | (exfalso; first | contradiction | omega)
    · try simp only [lq_n L hp, lq_S L hp, lq_cl L hp, lq_T L hp, lq_is L hp, lq_st2 L hp, lq_co L hp, lq_fn L hp, lq_ml L hp, lq_wl L hp, lq_sv L hp, lq_rs L hp, lq_rp L hp, lq_ar L hp, lq_hol L hp, lq_GG L hp, lq_Ro L hp, lq_gl L, gp, g2, g4, g5, g6, g7, g9, g11, g45, z45] at e0 e1 j ⊢
      first | exact k2 h' (I.q q j (by first | decide | (repeat' split) <;> first | exact zt4_0 | exact zt4_1 | exact zt4_2)) | (exfalso; first | contradiction | omega)
theorem st_rightDays {b c : Int} (hb1 : -2147483648 ≤ b) (hb2 : b < 2147483648) (hc1 : -2147483648 ≤ c) (hc2 : c < 2147483648) (I : zI h d p) (k : ∀ x h1, zsh h1 78 = some (.inl 9) → (∀ R2 : zRt, (∀ h2, zI h2 d p → R2 (some (.int x)) h2) → zCC X M_X9_rightDays [.ref 78, .int (zj b), .int (zj c)] h1 R2) → R (some (.int x)) h1) : zCC X M_X7_rightDays [.ref 16, .int (zj b), .int (zj c)] h R := by
  refine cx_rightDays I.w I.v I.u hb1 hb2 hc1 hc2 (fun c0 => k _ _ (by first | exact I.s78 | exact I.s78q (zQh_gh h _ _ _ _) | exact I.s78q (zQh_sk h _ _ _ _)) (fun R2 k2 => ?_)) (fun c0 c1 => k _ _ (by first | exact I.s78 | exact I.s78q (zQh_gh h _ _ _ _) | exact I.s78q (zQh_sk h _ _ _ _)) (fun R2 k2 => ?_)) (fun c0 c1 => k _ _ (by first | exact I.s78 | exact I.s78q (zQh_gh h _ _ _ _) | exact I.s78q (zQh_sk h _ _ _ _)) (fun R2 k2 => ?_))
  · suffices hs : ∀ h1, zQh h h1 (1) → zCC X M_X9_rightDays [.ref 78, .int (zj b), .int (zj c)] h1 R2 from hs _ (zQh_pi h _)
    intro h1 q
    have o := I.oq q
    have L := q.lq
    have hp := I.hp
    have hv1 := I.v.1
    have hn : ((zn h p : Nat) : Int) = gz h p 1 := by unfold zn; omega
    have gp : ∀ y, gz h1 p y = gz h p y := L.gz (by omega)
    have g2 : ∀ y, gz h1 (p + 2) y = gz h (p + 2) y := L.gz (by omega)
    have g4 : ∀ y, gz h1 (p + 4) y = gz h (p + 4) y := L.gz (by omega)
    have g5 : ∀ y, gz h1 (p + 5) y = gz h (p + 5) y := L.gz (by omega)
    have g6 : ∀ y, gz h1 (p + 6) y = gz h (p + 6) y := L.gz (by omega)
    have g7 : ∀ y, gz h1 (p + 7) y = gz h (p + 7) y := L.gz (by omega)
    have g9 : ∀ y, gz h1 (p + 9) y = gz h (p + 9) y := L.gz (by omega)
    have g11 : ∀ y, gz h1 (p + 11) y = gz h (p + 11) y := L.gz (by omega)
    have g45 : ∀ y, gz h1 45 y = gz h 45 y := L.gz (by omega)
    have z45 : ∀ y, zgi h1 45 y = zgi h 45 y := fun y => L.2.2 45 y (by omega)
    refine cq_rightDays o hb1 hb2 hc1 hc2 (fun e0 h' j => ?_) (fun e0 e1 h' j => ?_) (fun e0 e1 h' j => ?_)
    · try simp only [lq_n L hp, lq_S L hp, lq_cl L hp, lq_T L hp, lq_is L hp, lq_st2 L hp, lq_co L hp, lq_fn L hp, lq_ml L hp, lq_wl L hp, lq_sv L hp, lq_rs L hp, lq_rp L hp, lq_ar L hp, lq_hol L hp, lq_GG L hp, lq_Ro L hp, lq_gl L, gp, g2, g4, g5, g6, g7, g9, g11, g45, z45] at e0 j ⊢
      first | exact k2 h' (I.q q j (by first | decide | (repeat' split) <;> first | exact zt4_0 | exact zt4_1 | exact zt4_2)) | (exfalso; first | contradiction | omega)
    · try simp only [lq_n L hp, lq_S L hp, lq_cl L hp, lq_T L hp, lq_is L hp, lq_st2 L hp, lq_co L hp, lq_fn L hp, lq_ml L hp, lq_wl L hp, lq_sv L hp, lq_rs L hp, lq_rp L hp, lq_ar L hp, lq_hol L hp, lq_GG L hp, lq_Ro L hp, lq_gl L, gp, g2, g4, g5, g6, g7, g9, g11, g45, z45] at e0 e1 j ⊢
      first | exact k2 h' (I.q q j (by first | decide | (repeat' split) <;> first | exact zt4_0 | exact zt4_1 | exact zt4_2)) | (exfalso; first | contradiction | omega)
    · try simp only [lq_n L hp, lq_S L hp, lq_cl L hp, lq_T L hp, lq_is L hp, lq_st2 L hp, lq_co L hp, lq_fn L hp, lq_ml L hp, lq_wl L hp, lq_sv L hp, lq_rs L hp, lq_rp L hp, lq_ar L hp, lq_hol L hp, lq_GG L hp, lq_Ro L hp, lq_gl L, gp, g2, g4, g5, g6, g7, g9, g11, g45, z45] at e0 e1 j ⊢
      first | exact k2 h' (I.q q j (by first | decide | (repeat' split) <;> first | exact zt4_0 | exact zt4_1 | exact zt4_2)) | (exfalso; first | contradiction | omega)
  · suffices hs : ∀ h1, zQh h h1 (2) → zCC X M_X9_rightDays [.ref 78, .int (zj b), .int (zj c)] h1 R2 from hs _ (zQh_pi h _)
    intro h1 q
    have o := I.oq q
    have L := q.lq
    have hp := I.hp
    have hv1 := I.v.1
    have hn : ((zn h p : Nat) : Int) = gz h p 1 := by unfold zn; omega
    have gp : ∀ y, gz h1 p y = gz h p y := L.gz (by omega)
    have g2 : ∀ y, gz h1 (p + 2) y = gz h (p + 2) y := L.gz (by omega)
    have g4 : ∀ y, gz h1 (p + 4) y = gz h (p + 4) y := L.gz (by omega)
    have g5 : ∀ y, gz h1 (p + 5) y = gz h (p + 5) y := L.gz (by omega)
    have g6 : ∀ y, gz h1 (p + 6) y = gz h (p + 6) y := L.gz (by omega)
    have g7 : ∀ y, gz h1 (p + 7) y = gz h (p + 7) y := L.gz (by omega)
    have g9 : ∀ y, gz h1 (p + 9) y = gz h (p + 9) y := L.gz (by omega)
    have g11 : ∀ y, gz h1 (p + 11) y = gz h (p + 11) y := L.gz (by omega)
    have g45 : ∀ y, gz h1 45 y = gz h 45 y := L.gz (by omega)
    have z45 : ∀ y, zgi h1 45 y = zgi h 45 y := fun y => L.2.2 45 y (by omega)
    refine cq_rightDays o hb1 hb2 hc1 hc2 (fun e0 h' j => ?_) (fun e0 e1 h' j => ?_) (fun e0 e1 h' j => ?_)
    · try simp only [lq_n L hp, lq_S L hp, lq_cl L hp, lq_T L hp, lq_is L hp, lq_st2 L hp, lq_co L hp, lq_fn L hp, lq_ml L hp, lq_wl L hp, lq_sv L hp, lq_rs L hp, lq_rp L hp, lq_ar L hp, lq_hol L hp, lq_GG L hp, lq_Ro L hp, lq_gl L, gp, g2, g4, g5, g6, g7, g9, g11, g45, z45] at e0 j ⊢
      first | exact k2 h' (I.q q j (by first | decide | (repeat' split) <;> first | exact zt4_0 | exact zt4_1 | exact zt4_2)) | (exfalso; first | contradiction | omega)
    · try simp only [lq_n L hp, lq_S L hp, lq_cl L hp, lq_T L hp, lq_is L hp, lq_st2 L hp, lq_co L hp, lq_fn L hp, lq_ml L hp, lq_wl L hp, lq_sv L hp, lq_rs L hp, lq_rp L hp, lq_ar L hp, lq_hol L hp, lq_GG L hp, lq_Ro L hp, lq_gl L, gp, g2, g4, g5, g6, g7, g9, g11, g45, z45] at e0 e1 j ⊢
      first | exact k2 h' (I.q q j (by first | decide | (repeat' split) <;> first | exact zt4_0 | exact zt4_1 | exact zt4_2)) | (exfalso; first | contradiction | omega)
    · try simp only [lq_n L hp, lq_S L hp, lq_cl L hp, lq_T L hp, lq_is L hp, lq_st2 L hp, lq_co L hp, lq_fn L hp, lq_ml L hp, lq_wl L hp, lq_sv L hp, lq_rs L hp, lq_rp L hp, lq_ar L hp, lq_hol L hp, lq_GG L hp, lq_Ro L hp, lq_gl L, gp, g2, g4, g5, g6, g7, g9, g11, g45, z45] at e0 e1 j ⊢
      first | exact k2 h' (I.q q j (by first | decide | (repeat' split) <;> first | exact zt4_0 | exact zt4_1 | exact zt4_2)) | (exfalso; first | contradiction | omega)
  · suffices hs : ∀ h1, zQh h h1 (0) → zCC X M_X9_rightDays [.ref 78, .int (zj b), .int (zj c)] h1 R2 from hs _ (zQh_sk h _ _ _ _)
    intro h1 q
    have o := I.oq q
    have L := q.lq
    have hp := I.hp
    have hv1 := I.v.1
    have hn : ((zn h p : Nat) : Int) = gz h p 1 := by unfold zn; omega
    have gp : ∀ y, gz h1 p y = gz h p y := L.gz (by omega)
    have g2 : ∀ y, gz h1 (p + 2) y = gz h (p + 2) y := L.gz (by omega)
    have g4 : ∀ y, gz h1 (p + 4) y = gz h (p + 4) y := L.gz (by omega)
    have g5 : ∀ y, gz h1 (p + 5) y = gz h (p + 5) y := L.gz (by omega)
    have g6 : ∀ y, gz h1 (p + 6) y = gz h (p + 6) y := L.gz (by omega)
    have g7 : ∀ y, gz h1 (p + 7) y = gz h (p + 7) y := L.gz (by omega)
    have g9 : ∀ y, gz h1 (p + 9) y = gz h (p + 9) y := L.gz (by omega)
    have g11 : ∀ y, gz h1 (p + 11) y = gz h (p + 11) y := L.gz (by omega)
    have g45 : ∀ y, gz h1 45 y = gz h 45 y := L.gz (by omega)
    have z45 : ∀ y, zgi h1 45 y = zgi h 45 y := fun y => L.2.2 45 y (by omega)
    refine cq_rightDays o hb1 hb2 hc1 hc2 (fun e0 h' j => ?_) (fun e0 e1 h' j => ?_) (fun e0 e1 h' j => ?_)
    · try simp only [lq_n L hp, lq_S L hp, lq_cl L hp, lq_T L hp, lq_is L hp, lq_st2 L hp, lq_co L hp, lq_fn L hp, lq_ml L hp, lq_wl L hp, lq_sv L hp, lq_rs L hp, lq_rp L hp, lq_ar L hp, lq_hol L hp, lq_GG L hp, lq_Ro L hp, lq_gl L, gp, g2, g4, g5, g6, g7, g9, g11, g45, z45] at e0 j ⊢
      first | exact k2 h' (I.q q j (by first | decide | (repeat' split) <;> first | exact zt4_0 | exact zt4_1 | exact zt4_2)) | (exfalso; first | contradiction | omega)
    · try simp only [lq_n L hp, lq_S L hp, lq_cl L hp, lq_T L hp, lq_is L hp, lq_st2 L hp, lq_co L hp, lq_fn L hp, lq_ml L hp, lq_wl L hp, lq_sv L hp, lq_rs L hp, lq_rp L hp, lq_ar L hp, lq_hol L hp, lq_GG L hp, lq_Ro L hp, lq_gl L, gp, g2, g4, g5, g6, g7, g9, g11, g45, z45] at e0 e1 j ⊢
      first | exact k2 h' (I.q q j (by first | decide | (repeat' split) <;> first | exact zt4_0 | exact zt4_1 | exact zt4_2)) | (exfalso; first | contradiction | omega)
    · try simp only [lq_n L hp, lq_S L hp, lq_cl L hp, lq_T L hp, lq_is L hp, lq_st2 L hp, lq_co L hp, lq_fn L hp, lq_ml L hp, lq_wl L hp, lq_sv L hp, lq_rs L hp, lq_rp L hp, lq_ar L hp, lq_hol L hp, lq_GG L hp, lq_Ro L hp, lq_gl L, gp, g2, g4, g5, g6, g7, g9, g11, g45, z45] at e0 e1 j ⊢
      first | exact k2 h' (I.q q j (by first | decide | (repeat' split) <;> first | exact zt4_0 | exact zt4_1 | exact zt4_2)) | (exfalso; first | contradiction | omega)
theorem st_bit {a b : Int} (ha1 : -2147483648 ≤ a) (ha2 : a < 2147483648) (hb1 : -2147483648 ≤ b) (hb2 : b < 2147483648) (I : zI h d p) (k : ∀ x h1, zsh h1 78 = some (.inl 9) → (∀ R2 : zRt, (∀ h2, zI h2 d p → R2 (some (.int x)) h2) → zCC X M_X9_bit [.ref 78, .int (zj a), .int (zj b)] h1 R2) → R (some (.int x)) h1) : zCC X M_X7_bit [.ref 16, .int (zj a), .int (zj b)] h R := by
  refine cx_bit I.w I.v I.u ha1 ha2 hb1 hb2 (fun c0 => k _ _ (by first | exact I.s78 | exact I.s78q (zQh_gh h _ _ _ _) | exact I.s78q (zQh_sk h _ _ _ _)) (fun R2 k2 => ?_)) (fun c0 c1 c2 c3 c4 => k _ _ (by first | exact I.s78 | exact I.s78q (zQh_gh h _ _ _ _) | exact I.s78q (zQh_sk h _ _ _ _)) (fun R2 k2 => ?_))
  · suffices hs : ∀ h1, zQh h h1 (1) → zCC X M_X9_bit [.ref 78, .int (zj a), .int (zj b)] h1 R2 from hs _ (zQh_pi h _)
    intro h1 q
    have o := I.oq q
    have L := q.lq
    have hp := I.hp
    have hv1 := I.v.1
    have hn : ((zn h p : Nat) : Int) = gz h p 1 := by unfold zn; omega
    have gp : ∀ y, gz h1 p y = gz h p y := L.gz (by omega)
    have g2 : ∀ y, gz h1 (p + 2) y = gz h (p + 2) y := L.gz (by omega)
    have g4 : ∀ y, gz h1 (p + 4) y = gz h (p + 4) y := L.gz (by omega)
    have g5 : ∀ y, gz h1 (p + 5) y = gz h (p + 5) y := L.gz (by omega)
    have g6 : ∀ y, gz h1 (p + 6) y = gz h (p + 6) y := L.gz (by omega)
    have g7 : ∀ y, gz h1 (p + 7) y = gz h (p + 7) y := L.gz (by omega)
    have g9 : ∀ y, gz h1 (p + 9) y = gz h (p + 9) y := L.gz (by omega)
    have g11 : ∀ y, gz h1 (p + 11) y = gz h (p + 11) y := L.gz (by omega)
    have g45 : ∀ y, gz h1 45 y = gz h 45 y := L.gz (by omega)
    have z45 : ∀ y, zgi h1 45 y = zgi h 45 y := fun y => L.2.2 45 y (by omega)
    refine cq_bit o ha1 ha2 hb1 hb2 (fun e0 h' j => ?_) (fun e0 e1 e2 e3 e4 h' j => ?_)
    · skip
      repeat rw [lq_n L hp] at e0
      repeat rw [lq_n L hp] at j
      repeat rw [lq_n L hp]
      repeat rw [lq_S L hp] at e0
      repeat rw [lq_S L hp] at j
      repeat rw [lq_S L hp]
      repeat rw [lq_cl L hp] at e0
      repeat rw [lq_cl L hp] at j
      repeat rw [lq_cl L hp]
      repeat rw [lq_T L hp] at e0
      repeat rw [lq_T L hp] at j
      repeat rw [lq_T L hp]
      repeat rw [lq_is L hp] at e0
      repeat rw [lq_is L hp] at j
      repeat rw [lq_is L hp]
      repeat rw [lq_st2 L hp] at e0
      repeat rw [lq_st2 L hp] at j
      repeat rw [lq_st2 L hp]
      repeat rw [lq_co L hp] at e0
      repeat rw [lq_co L hp] at j
      repeat rw [lq_co L hp]
      repeat rw [lq_fn L hp] at e0
      repeat rw [lq_fn L hp] at j
      repeat rw [lq_fn L hp]
      repeat rw [lq_ml L hp] at e0
      repeat rw [lq_ml L hp] at j
      repeat rw [lq_ml L hp]
      repeat rw [lq_wl L hp] at e0
      repeat rw [lq_wl L hp] at j
      repeat rw [lq_wl L hp]
      repeat rw [lq_sv L hp] at e0
      repeat rw [lq_sv L hp] at j
      repeat rw [lq_sv L hp]
      repeat rw [lq_rs L hp] at e0
      repeat rw [lq_rs L hp] at j
      repeat rw [lq_rs L hp]
      repeat rw [lq_rp L hp] at e0
      repeat rw [lq_rp L hp] at j
      repeat rw [lq_rp L hp]
      repeat rw [lq_ar L hp] at e0
      repeat rw [lq_ar L hp] at j
      repeat rw [lq_ar L hp]
      repeat rw [lq_hol L hp] at e0
      repeat rw [lq_hol L hp] at j
      repeat rw [lq_hol L hp]
      repeat rw [lq_GG L hp] at e0
      repeat rw [lq_GG L hp] at j
      repeat rw [lq_GG L hp]
      repeat rw [lq_Ro L hp] at e0
      repeat rw [lq_Ro L hp] at j
      repeat rw [lq_Ro L hp]
      repeat rw [lq_gl L] at e0
      repeat rw [lq_gl L] at j
      repeat rw [lq_gl L]
      repeat rw [gp] at e0
      repeat rw [gp] at j
      repeat rw [gp]
      repeat rw [g2] at e0
      repeat rw [g2] at j
      repeat rw [g2]
      repeat rw [g4] at e0
      repeat rw [g4] at j
      repeat rw [g4]
      repeat rw [g5] at e0
      repeat rw [g5] at j
      repeat rw [g5]
      repeat rw [g6] at e0
      repeat rw [g6] at j
      repeat rw [g6]
      repeat rw [g7] at e0
      repeat rw [g7] at j
      repeat rw [g7]
      repeat rw [g9] at e0
      repeat rw [g9] at j
      repeat rw [g9]
      repeat rw [g11] at e0
      repeat rw [g11] at j
      repeat rw [g11]
      repeat rw [g45] at e0
      repeat rw [g45] at j
      repeat rw [g45]
      repeat rw [z45] at e0
      repeat rw [z45] at j
      repeat rw [z45]
      first | exact k2 h' (I.q q j (by first | decide | (repeat' split) <;> first | exact zt4_0 | exact zt4_1 | exact zt4_2)) | (exfalso; first | contradiction | omega)
    · skip
      repeat rw [lq_n L hp] at e0
      repeat rw [lq_n L hp] at e1
      repeat rw [lq_n L hp] at e2
      repeat rw [lq_n L hp] at e3
      repeat rw [lq_n L hp] at e4
      repeat rw [lq_n L hp] at j
      repeat rw [lq_n L hp]
      repeat rw [lq_S L hp] at e0
      repeat rw [lq_S L hp] at e1
      repeat rw [lq_S L hp] at e2
      repeat rw [lq_S L hp] at e3
      repeat rw [lq_S L hp] at e4
      repeat rw [lq_S L hp] at j
      repeat rw [lq_S L hp]
      repeat rw [lq_cl L hp] at e0
      repeat rw [lq_cl L hp] at e1
      repeat rw [lq_cl L hp] at e2
      repeat rw [lq_cl L hp] at e3
      repeat rw [lq_cl L hp] at e4
      repeat rw [lq_cl L hp] at j
      repeat rw [lq_cl L hp]
      repeat rw [lq_T L hp] at e0
      repeat rw [lq_T L hp] at e1
      repeat rw [lq_T L hp] at e2
      repeat rw [lq_T L hp] at e3
      repeat rw [lq_T L hp] at e4
      repeat rw [lq_T L hp] at j
      repeat rw [lq_T L hp]
      repeat rw [lq_is L hp] at e0
      repeat rw [lq_is L hp] at e1
      repeat rw [lq_is L hp] at e2
      repeat rw [lq_is L hp] at e3
      repeat rw [lq_is L hp] at e4
      repeat rw [lq_is L hp] at j
      repeat rw [lq_is L hp]
      repeat rw [lq_st2 L hp] at e0
      repeat rw [lq_st2 L hp] at e1
      repeat rw [lq_st2 L hp] at e2
      repeat rw [lq_st2 L hp] at e3
      repeat rw [lq_st2 L hp] at e4
      repeat rw [lq_st2 L hp] at j
      repeat rw [lq_st2 L hp]
      repeat rw [lq_co L hp] at e0
      repeat rw [lq_co L hp] at e1
      repeat rw [lq_co L hp] at e2
      repeat rw [lq_co L hp] at e3
      repeat rw [lq_co L hp] at e4
      repeat rw [lq_co L hp] at j
      repeat rw [lq_co L hp]
      repeat rw [lq_fn L hp] at e0
      repeat rw [lq_fn L hp] at e1
      repeat rw [lq_fn L hp] at e2
      repeat rw [lq_fn L hp] at e3
      repeat rw [lq_fn L hp] at e4
      repeat rw [lq_fn L hp] at j
      repeat rw [lq_fn L hp]
      repeat rw [lq_ml L hp] at e0
      repeat rw [lq_ml L hp] at e1
      repeat rw [lq_ml L hp] at e2
      repeat rw [lq_ml L hp] at e3
      repeat rw [lq_ml L hp] at e4
      repeat rw [lq_ml L hp] at j
      repeat rw [lq_ml L hp]
      repeat rw [lq_wl L hp] at e0
      repeat rw [lq_wl L hp] at e1
      repeat rw [lq_wl L hp] at e2
      repeat rw [lq_wl L hp] at e3
      repeat rw [lq_wl L hp] at e4
      repeat rw [lq_wl L hp] at j
      repeat rw [lq_wl L hp]
      repeat rw [lq_sv L hp] at e0
      repeat rw [lq_sv L hp] at e1
      repeat rw [lq_sv L hp] at e2
      repeat rw [lq_sv L hp] at e3
      repeat rw [lq_sv L hp] at e4
      repeat rw [lq_sv L hp] at j
      repeat rw [lq_sv L hp]
      repeat rw [lq_rs L hp] at e0
      repeat rw [lq_rs L hp] at e1
      repeat rw [lq_rs L hp] at e2
      repeat rw [lq_rs L hp] at e3
      repeat rw [lq_rs L hp] at e4
      repeat rw [lq_rs L hp] at j
      repeat rw [lq_rs L hp]
      repeat rw [lq_rp L hp] at e0
      repeat rw [lq_rp L hp] at e1
      repeat rw [lq_rp L hp] at e2
      repeat rw [lq_rp L hp] at e3
      repeat rw [lq_rp L hp] at e4
      repeat rw [lq_rp L hp] at j
      repeat rw [lq_rp L hp]
      repeat rw [lq_ar L hp] at e0
      repeat rw [lq_ar L hp] at e1
      repeat rw [lq_ar L hp] at e2
      repeat rw [lq_ar L hp] at e3
      repeat rw [lq_ar L hp] at e4
      repeat rw [lq_ar L hp] at j
      repeat rw [lq_ar L hp]
      repeat rw [lq_hol L hp] at e0
      repeat rw [lq_hol L hp] at e1
      repeat rw [lq_hol L hp] at e2
      repeat rw [lq_hol L hp] at e3
      repeat rw [lq_hol L hp] at e4
      repeat rw [lq_hol L hp] at j
      repeat rw [lq_hol L hp]
      repeat rw [lq_GG L hp] at e0
      repeat rw [lq_GG L hp] at e1
      repeat rw [lq_GG L hp] at e2
      repeat rw [lq_GG L hp] at e3
      repeat rw [lq_GG L hp] at e4
      repeat rw [lq_GG L hp] at j
      repeat rw [lq_GG L hp]
      repeat rw [lq_Ro L hp] at e0
      repeat rw [lq_Ro L hp] at e1
      repeat rw [lq_Ro L hp] at e2
      repeat rw [lq_Ro L hp] at e3
      repeat rw [lq_Ro L hp] at e4
      repeat rw [lq_Ro L hp] at j
      repeat rw [lq_Ro L hp]
      repeat rw [lq_gl L] at e0
      repeat rw [lq_gl L] at e1
      repeat rw [lq_gl L] at e2
      repeat rw [lq_gl L] at e3
      repeat rw [lq_gl L] at e4
      repeat rw [lq_gl L] at j
      repeat rw [lq_gl L]
      repeat rw [gp] at e0
      repeat rw [gp] at e1
      repeat rw [gp] at e2
      repeat rw [gp] at e3
      repeat rw [gp] at e4
      repeat rw [gp] at j
      repeat rw [gp]
      repeat rw [g2] at e0
      repeat rw [g2] at e1
      repeat rw [g2] at e2
      repeat rw [g2] at e3
      repeat rw [g2] at e4
      repeat rw [g2] at j
      repeat rw [g2]
      repeat rw [g4] at e0
      repeat rw [g4] at e1
      repeat rw [g4] at e2
      repeat rw [g4] at e3
      repeat rw [g4] at e4
      repeat rw [g4] at j
      repeat rw [g4]
      repeat rw [g5] at e0
      repeat rw [g5] at e1
      repeat rw [g5] at e2
      repeat rw [g5] at e3
      repeat rw [g5] at e4
      repeat rw [g5] at j
      repeat rw [g5]
      repeat rw [g6] at e0
      repeat rw [g6] at e1
      repeat rw [g6] at e2
      repeat rw [g6] at e3
      repeat rw [g6] at e4
      repeat rw [g6] at j
      repeat rw [g6]
      repeat rw [g7] at e0
      repeat rw [g7] at e1
      repeat rw [g7] at e2
      repeat rw [g7] at e3
      repeat rw [g7] at e4
      repeat rw [g7] at j
      repeat rw [g7]
      repeat rw [g9] at e0
      repeat rw [g9] at e1
      repeat rw [g9] at e2
      repeat rw [g9] at e3
      repeat rw [g9] at e4
      repeat rw [g9] at j
      repeat rw [g9]
      repeat rw [g11] at e0
      repeat rw [g11] at e1
      repeat rw [g11] at e2
      repeat rw [g11] at e3
      repeat rw [g11] at e4
      repeat rw [g11] at j
      repeat rw [g11]
      repeat rw [g45] at e0
      repeat rw [g45] at e1
      repeat rw [g45] at e2
      repeat rw [g45] at e3
      repeat rw [g45] at e4
      repeat rw [g45] at j
      repeat rw [g45]
      repeat rw [z45] at e0
      repeat rw [z45] at e1
      repeat rw [z45] at e2
      repeat rw [z45] at e3
      repeat rw [z45] at e4
      repeat rw [z45] at j
      repeat rw [z45]
      first | exact k2 h' (I.q q j (by first | decide | (repeat' split) <;> first | exact zt4_0 | exact zt4_1 | exact zt4_2)) | (exfalso; first | contradiction | omega)
  · suffices hs : ∀ h1, zQh h h1 (0) → zCC X M_X9_bit [.ref 78, .int (zj a), .int (zj b)] h1 R2 from hs _ (zQh_pi h _)
    intro h1 q
    have o := I.oq q
    have L := q.lq
    have hp := I.hp
    have hv1 := I.v.1
    have hn : ((zn h p : Nat) : Int) = gz h p 1 := by unfold zn; omega
    have gp : ∀ y, gz h1 p y = gz h p y := L.gz (by omega)
    have g2 : ∀ y, gz h1 (p + 2) y = gz h (p + 2) y := L.gz (by omega)
    have g4 : ∀ y, gz h1 (p + 4) y = gz h (p + 4) y := L.gz (by omega)
    have g5 : ∀ y, gz h1 (p + 5) y = gz h (p + 5) y := L.gz (by omega)
    have g6 : ∀ y, gz h1 (p + 6) y = gz h (p + 6) y := L.gz (by omega)
    have g7 : ∀ y, gz h1 (p + 7) y = gz h (p + 7) y := L.gz (by omega)
    have g9 : ∀ y, gz h1 (p + 9) y = gz h (p + 9) y := L.gz (by omega)
    have g11 : ∀ y, gz h1 (p + 11) y = gz h (p + 11) y := L.gz (by omega)
    have g45 : ∀ y, gz h1 45 y = gz h 45 y := L.gz (by omega)
    have z45 : ∀ y, zgi h1 45 y = zgi h 45 y := fun y => L.2.2 45 y (by omega)
    refine cq_bit o ha1 ha2 hb1 hb2 (fun e0 h' j => ?_) (fun e0 e1 e2 e3 e4 h' j => ?_)
    · skip
      repeat rw [lq_n L hp] at e0
      repeat rw [lq_n L hp] at j
      repeat rw [lq_n L hp]
      repeat rw [lq_S L hp] at e0
      repeat rw [lq_S L hp] at j
      repeat rw [lq_S L hp]
      repeat rw [lq_cl L hp] at e0
      repeat rw [lq_cl L hp] at j
      repeat rw [lq_cl L hp]
      repeat rw [lq_T L hp] at e0
      repeat rw [lq_T L hp] at j
      repeat rw [lq_T L hp]
      repeat rw [lq_is L hp] at e0
      repeat rw [lq_is L hp] at j
      repeat rw [lq_is L hp]
      repeat rw [lq_st2 L hp] at e0
      repeat rw [lq_st2 L hp] at j
      repeat rw [lq_st2 L hp]
      repeat rw [lq_co L hp] at e0
      repeat rw [lq_co L hp] at j
      repeat rw [lq_co L hp]
      repeat rw [lq_fn L hp] at e0
      repeat rw [lq_fn L hp] at j
      repeat rw [lq_fn L hp]
      repeat rw [lq_ml L hp] at e0
      repeat rw [lq_ml L hp] at j
      repeat rw [lq_ml L hp]
      repeat rw [lq_wl L hp] at e0
      repeat rw [lq_wl L hp] at j
      repeat rw [lq_wl L hp]
      repeat rw [lq_sv L hp] at e0
      repeat rw [lq_sv L hp] at j
      repeat rw [lq_sv L hp]
      repeat rw [lq_rs L hp] at e0
      repeat rw [lq_rs L hp] at j
      repeat rw [lq_rs L hp]
      repeat rw [lq_rp L hp] at e0
      repeat rw [lq_rp L hp] at j
      repeat rw [lq_rp L hp]
      repeat rw [lq_ar L hp] at e0
      repeat rw [lq_ar L hp] at j
      repeat rw [lq_ar L hp]
      repeat rw [lq_hol L hp] at e0
      repeat rw [lq_hol L hp] at j
      repeat rw [lq_hol L hp]
      repeat rw [lq_GG L hp] at e0
      repeat rw [lq_GG L hp] at j
      repeat rw [lq_GG L hp]
      repeat rw [lq_Ro L hp] at e0
      repeat rw [lq_Ro L hp] at j
      repeat rw [lq_Ro L hp]
      repeat rw [lq_gl L] at e0
      repeat rw [lq_gl L] at j
      repeat rw [lq_gl L]
      repeat rw [gp] at e0
      repeat rw [gp] at j
      repeat rw [gp]
      repeat rw [g2] at e0
      repeat rw [g2] at j
      repeat rw [g2]
      repeat rw [g4] at e0
      repeat rw [g4] at j
      repeat rw [g4]
      repeat rw [g5] at e0
      repeat rw [g5] at j
      repeat rw [g5]
      repeat rw [g6] at e0
      repeat rw [g6] at j
      repeat rw [g6]
      repeat rw [g7] at e0
      repeat rw [g7] at j
      repeat rw [g7]
      repeat rw [g9] at e0
      repeat rw [g9] at j
      repeat rw [g9]
      repeat rw [g11] at e0
      repeat rw [g11] at j
      repeat rw [g11]
      repeat rw [g45] at e0
      repeat rw [g45] at j
      repeat rw [g45]
      repeat rw [z45] at e0
      repeat rw [z45] at j
      repeat rw [z45]
      first | exact k2 h' (I.q q j (by first | decide | (repeat' split) <;> first | exact zt4_0 | exact zt4_1 | exact zt4_2)) | (exfalso; first | contradiction | omega)
    · skip
      repeat rw [lq_n L hp] at e0
      repeat rw [lq_n L hp] at e1
      repeat rw [lq_n L hp] at e2
      repeat rw [lq_n L hp] at e3
      repeat rw [lq_n L hp] at e4
      repeat rw [lq_n L hp] at j
      repeat rw [lq_n L hp]
      repeat rw [lq_S L hp] at e0
      repeat rw [lq_S L hp] at e1
      repeat rw [lq_S L hp] at e2
      repeat rw [lq_S L hp] at e3
      repeat rw [lq_S L hp] at e4
      repeat rw [lq_S L hp] at j
      repeat rw [lq_S L hp]
      repeat rw [lq_cl L hp] at e0
      repeat rw [lq_cl L hp] at e1
      repeat rw [lq_cl L hp] at e2
      repeat rw [lq_cl L hp] at e3
      repeat rw [lq_cl L hp] at e4
      repeat rw [lq_cl L hp] at j
      repeat rw [lq_cl L hp]
      repeat rw [lq_T L hp] at e0
      repeat rw [lq_T L hp] at e1
      repeat rw [lq_T L hp] at e2
      repeat rw [lq_T L hp] at e3
      repeat rw [lq_T L hp] at e4
      repeat rw [lq_T L hp] at j
      repeat rw [lq_T L hp]
      repeat rw [lq_is L hp] at e0
      repeat rw [lq_is L hp] at e1
      repeat rw [lq_is L hp] at e2
      repeat rw [lq_is L hp] at e3
      repeat rw [lq_is L hp] at e4
      repeat rw [lq_is L hp] at j
      repeat rw [lq_is L hp]
      repeat rw [lq_st2 L hp] at e0
      repeat rw [lq_st2 L hp] at e1
      repeat rw [lq_st2 L hp] at e2
      repeat rw [lq_st2 L hp] at e3
      repeat rw [lq_st2 L hp] at e4
      repeat rw [lq_st2 L hp] at j
      repeat rw [lq_st2 L hp]
      repeat rw [lq_co L hp] at e0
      repeat rw [lq_co L hp] at e1
      repeat rw [lq_co L hp] at e2
      repeat rw [lq_co L hp] at e3
      repeat rw [lq_co L hp] at e4
      repeat rw [lq_co L hp] at j
      repeat rw [lq_co L hp]
      repeat rw [lq_fn L hp] at e0
      repeat rw [lq_fn L hp] at e1
      repeat rw [lq_fn L hp] at e2
      repeat rw [lq_fn L hp] at e3
      repeat rw [lq_fn L hp] at e4
      repeat rw [lq_fn L hp] at j
      repeat rw [lq_fn L hp]
      repeat rw [lq_ml L hp] at e0
      repeat rw [lq_ml L hp] at e1
      repeat rw [lq_ml L hp] at e2
      repeat rw [lq_ml L hp] at e3
      repeat rw [lq_ml L hp] at e4
      repeat rw [lq_ml L hp] at j
      repeat rw [lq_ml L hp]
      repeat rw [lq_wl L hp] at e0
      repeat rw [lq_wl L hp] at e1
      repeat rw [lq_wl L hp] at e2
      repeat rw [lq_wl L hp] at e3
      repeat rw [lq_wl L hp] at e4
      repeat rw [lq_wl L hp] at j
      repeat rw [lq_wl L hp]
      repeat rw [lq_sv L hp] at e0
      repeat rw [lq_sv L hp] at e1
      repeat rw [lq_sv L hp] at e2
      repeat rw [lq_sv L hp] at e3
      repeat rw [lq_sv L hp] at e4
      repeat rw [lq_sv L hp] at j
      repeat rw [lq_sv L hp]
      repeat rw [lq_rs L hp] at e0
      repeat rw [lq_rs L hp] at e1
      repeat rw [lq_rs L hp] at e2
      repeat rw [lq_rs L hp] at e3
      repeat rw [lq_rs L hp] at e4
      repeat rw [lq_rs L hp] at j
      repeat rw [lq_rs L hp]
      repeat rw [lq_rp L hp] at e0
      repeat rw [lq_rp L hp] at e1
      repeat rw [lq_rp L hp] at e2
      repeat rw [lq_rp L hp] at e3
      repeat rw [lq_rp L hp] at e4
      repeat rw [lq_rp L hp] at j
      repeat rw [lq_rp L hp]
      repeat rw [lq_ar L hp] at e0
      repeat rw [lq_ar L hp] at e1
      repeat rw [lq_ar L hp] at e2
      repeat rw [lq_ar L hp] at e3
      repeat rw [lq_ar L hp] at e4
      repeat rw [lq_ar L hp] at j
      repeat rw [lq_ar L hp]
      repeat rw [lq_hol L hp] at e0
      repeat rw [lq_hol L hp] at e1
      repeat rw [lq_hol L hp] at e2
      repeat rw [lq_hol L hp] at e3
      repeat rw [lq_hol L hp] at e4
      repeat rw [lq_hol L hp] at j
      repeat rw [lq_hol L hp]
      repeat rw [lq_GG L hp] at e0
      repeat rw [lq_GG L hp] at e1
      repeat rw [lq_GG L hp] at e2
      repeat rw [lq_GG L hp] at e3
      repeat rw [lq_GG L hp] at e4
      repeat rw [lq_GG L hp] at j
      repeat rw [lq_GG L hp]
      repeat rw [lq_Ro L hp] at e0
      repeat rw [lq_Ro L hp] at e1
      repeat rw [lq_Ro L hp] at e2
      repeat rw [lq_Ro L hp] at e3
      repeat rw [lq_Ro L hp] at e4
      repeat rw [lq_Ro L hp] at j
      repeat rw [lq_Ro L hp]
      repeat rw [lq_gl L] at e0
      repeat rw [lq_gl L] at e1
      repeat rw [lq_gl L] at e2
      repeat rw [lq_gl L] at e3
      repeat rw [lq_gl L] at e4
      repeat rw [lq_gl L] at j
      repeat rw [lq_gl L]
      repeat rw [gp] at e0
      repeat rw [gp] at e1
      repeat rw [gp] at e2
      repeat rw [gp] at e3
      repeat rw [gp] at e4
      repeat rw [gp] at j
      repeat rw [gp]
      repeat rw [g2] at e0
      repeat rw [g2] at e1
      repeat rw [g2] at e2
      repeat rw [g2] at e3
      repeat rw [g2] at e4
      repeat rw [g2] at j
      repeat rw [g2]
      repeat rw [g4] at e0
      repeat rw [g4] at e1
      repeat rw [g4] at e2
      repeat rw [g4] at e3
      repeat rw [g4] at e4
      repeat rw [g4] at j
      repeat rw [g4]
      repeat rw [g5] at e0
      repeat rw [g5] at e1
      repeat rw [g5] at e2
      repeat rw [g5] at e3
      repeat rw [g5] at e4
      repeat rw [g5] at j
      repeat rw [g5]
      repeat rw [g6] at e0
      repeat rw [g6] at e1
      repeat rw [g6] at e2
      repeat rw [g6] at e3
      repeat rw [g6] at e4
      repeat rw [g6] at j
      repeat rw [g6]
      repeat rw [g7] at e0
      repeat rw [g7] at e1
      repeat rw [g7] at e2
      repeat rw [g7] at e3
      repeat rw [g7] at e4
      repeat rw [g7] at j
      repeat rw [g7]
      repeat rw [g9] at e0
      repeat rw [g9] at e1
      repeat rw [g9] at e2
      repeat rw [g9] at e3
      repeat rw [g9] at e4
      repeat rw [g9] at j
      repeat rw [g9]
      repeat rw [g11] at e0
      repeat rw [g11] at e1
      repeat rw [g11] at e2
      repeat rw [g11] at e3
      repeat rw [g11] at e4
      repeat rw [g11] at j
      repeat rw [g11]
      repeat rw [g45] at e0
      repeat rw [g45] at e1
      repeat rw [g45] at e2
      repeat rw [g45] at e3
      repeat rw [g45] at e4
      repeat rw [g45] at j
      repeat rw [g45]
      repeat rw [z45] at e0
      repeat rw [z45] at e1
      repeat rw [z45] at e2
      repeat rw [z45] at e3
      repeat rw [z45] at e4
      repeat rw [z45] at j
      repeat rw [z45]
      have q9 : e0 = c0 := by omega
      subst q9
      exact k2 h' (I.q q j (by decide))
end ZST
