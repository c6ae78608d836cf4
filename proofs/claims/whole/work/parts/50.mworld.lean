def zTub (h : zHp) (t : Nat) : Prop := zsh h t = some (.inl 8) ∧ zsh h (t + 1) = some (.inr (.int, 6)) ∧ zgr h t 8 = some (t + 1) ∧ zsh h (t + 2) = some (.inr (.int, 6)) ∧ zgr h t 9 = some (t + 2) ∧ zsh h (t + 3) = some (.inr (.int, 6)) ∧ zgr h t 10 = some (t + 3) ∧ zsh h (t + 4) = some (.inr (.int, 6)) ∧ zgr h t 11 = some (t + 4) ∧ zsh h (t + 5) = some (.inr (.long, 6)) ∧ zgr h t 12 = some (t + 5) ∧ zsh h (t + 6) = some (.inr (.int, 6)) ∧ zgr h t 13 = some (t + 6) ∧ zsh h (t + 7) = some (.inr (.int, 8)) ∧ zgr h t 14 = some (t + 7) ∧ zsh h (t + 8) = some (.inr (.int, 4)) ∧ zgr h t 15 = some (t + 8) ∧ zsh h (t + 9) = some (.inr (.int, 4)) ∧ zgr h t 16 = some (t + 9) ∧ zsh h (t + 10) = some (.inr (.long, 6)) ∧ zgr h t 17 = some (t + 10) ∧ zsh h (t + 11) = some (.inr (.long, 10)) ∧ zgr h t 18 = some (t + 11) ∧ zsh h (t + 12) = some (.inr (.int, 10)) ∧ zgr h t 19 = some (t + 12) ∧ zsh h (t + 13) = some (.inr (.int, 10)) ∧ zgr h t 20 = some (t + 13)
theorem tb_s {h : zHp} {t : Nat} (w : zTub h t) : zsh h t = some (.inl 8) := w.1
theorem tb_s1 {h : zHp} {t : Nat} (w : zTub h t) : zsh h (t + 1) = some (.inr (.int, 6)) := w.2.1
theorem tb_r8 {h : zHp} {t : Nat} (w : zTub h t) : zgr h t 8 = some (t + 1) := w.2.2.1
theorem tb_s2 {h : zHp} {t : Nat} (w : zTub h t) : zsh h (t + 2) = some (.inr (.int, 6)) := w.2.2.2.1
theorem tb_r9 {h : zHp} {t : Nat} (w : zTub h t) : zgr h t 9 = some (t + 2) := w.2.2.2.2.1
theorem tb_s3 {h : zHp} {t : Nat} (w : zTub h t) : zsh h (t + 3) = some (.inr (.int, 6)) := w.2.2.2.2.2.1
theorem tb_r10 {h : zHp} {t : Nat} (w : zTub h t) : zgr h t 10 = some (t + 3) := w.2.2.2.2.2.2.1
theorem tb_s4 {h : zHp} {t : Nat} (w : zTub h t) : zsh h (t + 4) = some (.inr (.int, 6)) := w.2.2.2.2.2.2.2.1
theorem tb_r11 {h : zHp} {t : Nat} (w : zTub h t) : zgr h t 11 = some (t + 4) := w.2.2.2.2.2.2.2.2.1
theorem tb_s5 {h : zHp} {t : Nat} (w : zTub h t) : zsh h (t + 5) = some (.inr (.long, 6)) := w.2.2.2.2.2.2.2.2.2.1
theorem tb_r12 {h : zHp} {t : Nat} (w : zTub h t) : zgr h t 12 = some (t + 5) := w.2.2.2.2.2.2.2.2.2.2.1
theorem tb_s6 {h : zHp} {t : Nat} (w : zTub h t) : zsh h (t + 6) = some (.inr (.int, 6)) := w.2.2.2.2.2.2.2.2.2.2.2.1
theorem tb_r13 {h : zHp} {t : Nat} (w : zTub h t) : zgr h t 13 = some (t + 6) := w.2.2.2.2.2.2.2.2.2.2.2.2.1
theorem tb_s7 {h : zHp} {t : Nat} (w : zTub h t) : zsh h (t + 7) = some (.inr (.int, 8)) := w.2.2.2.2.2.2.2.2.2.2.2.2.2.1
theorem tb_r14 {h : zHp} {t : Nat} (w : zTub h t) : zgr h t 14 = some (t + 7) := w.2.2.2.2.2.2.2.2.2.2.2.2.2.2.1
theorem tb_s8 {h : zHp} {t : Nat} (w : zTub h t) : zsh h (t + 8) = some (.inr (.int, 4)) := w.2.2.2.2.2.2.2.2.2.2.2.2.2.2.2.1
theorem tb_r15 {h : zHp} {t : Nat} (w : zTub h t) : zgr h t 15 = some (t + 8) := w.2.2.2.2.2.2.2.2.2.2.2.2.2.2.2.2.1
theorem tb_s9 {h : zHp} {t : Nat} (w : zTub h t) : zsh h (t + 9) = some (.inr (.int, 4)) := w.2.2.2.2.2.2.2.2.2.2.2.2.2.2.2.2.2.1
theorem tb_r16 {h : zHp} {t : Nat} (w : zTub h t) : zgr h t 16 = some (t + 9) := w.2.2.2.2.2.2.2.2.2.2.2.2.2.2.2.2.2.2.1
theorem tb_s10 {h : zHp} {t : Nat} (w : zTub h t) : zsh h (t + 10) = some (.inr (.long, 6)) := w.2.2.2.2.2.2.2.2.2.2.2.2.2.2.2.2.2.2.2.1
theorem tb_r17 {h : zHp} {t : Nat} (w : zTub h t) : zgr h t 17 = some (t + 10) := w.2.2.2.2.2.2.2.2.2.2.2.2.2.2.2.2.2.2.2.2.1
theorem tb_s11 {h : zHp} {t : Nat} (w : zTub h t) : zsh h (t + 11) = some (.inr (.long, 10)) := w.2.2.2.2.2.2.2.2.2.2.2.2.2.2.2.2.2.2.2.2.2.1
theorem tb_r18 {h : zHp} {t : Nat} (w : zTub h t) : zgr h t 18 = some (t + 11) := w.2.2.2.2.2.2.2.2.2.2.2.2.2.2.2.2.2.2.2.2.2.2.1
theorem tb_s12 {h : zHp} {t : Nat} (w : zTub h t) : zsh h (t + 12) = some (.inr (.int, 10)) := w.2.2.2.2.2.2.2.2.2.2.2.2.2.2.2.2.2.2.2.2.2.2.2.1
theorem tb_r19 {h : zHp} {t : Nat} (w : zTub h t) : zgr h t 19 = some (t + 12) := w.2.2.2.2.2.2.2.2.2.2.2.2.2.2.2.2.2.2.2.2.2.2.2.2.1
theorem tb_s13 {h : zHp} {t : Nat} (w : zTub h t) : zsh h (t + 13) = some (.inr (.int, 10)) := w.2.2.2.2.2.2.2.2.2.2.2.2.2.2.2.2.2.2.2.2.2.2.2.2.2.1
theorem tb_r20 {h : zHp} {t : Nat} (w : zTub h t) : zgr h t 20 = some (t + 13) := w.2.2.2.2.2.2.2.2.2.2.2.2.2.2.2.2.2.2.2.2.2.2.2.2.2.2
def zMW (h : zHp) : Prop := zsh h 78 = some (.inl 9) ∧ zsh h 79 = some (.inr (.byte, 800)) ∧ zsh h 80 = some (.inr (.int, 15)) ∧ zsh h 81 = some (.inr (.int, 15)) ∧ zsh h 82 = some (.inr (.int, 240)) ∧ zsh h 83 = some (.inr (.int, 45)) ∧ zsh h 84 = some (.inr (.int, 5)) ∧ zsh h 85 = some (.inr (.int, 5)) ∧ zgr h 78 5 = some 79 ∧ zgr h 78 15 = some 80 ∧ zgr h 78 16 = some 81 ∧ zgr h 78 17 = some 82 ∧ zgr h 78 18 = some 83 ∧ zgr h 78 21 = some 84 ∧ zgr h 78 22 = some 85
theorem mw_s {h : zHp} (w : zMW h) : zsh h 78 = some (.inl 9) := w.1
theorem mw_s79 {h : zHp} (w : zMW h) : zsh h 79 = some (.inr (.byte, 800)) := w.2.1
theorem mw_s80 {h : zHp} (w : zMW h) : zsh h 80 = some (.inr (.int, 15)) := w.2.2.1
theorem mw_s81 {h : zHp} (w : zMW h) : zsh h 81 = some (.inr (.int, 15)) := w.2.2.2.1
theorem mw_s82 {h : zHp} (w : zMW h) : zsh h 82 = some (.inr (.int, 240)) := w.2.2.2.2.1
theorem mw_s83 {h : zHp} (w : zMW h) : zsh h 83 = some (.inr (.int, 45)) := w.2.2.2.2.2.1
theorem mw_s84 {h : zHp} (w : zMW h) : zsh h 84 = some (.inr (.int, 5)) := w.2.2.2.2.2.2.1
theorem mw_s85 {h : zHp} (w : zMW h) : zsh h 85 = some (.inr (.int, 5)) := w.2.2.2.2.2.2.2.1
theorem mw_r5 {h : zHp} (w : zMW h) : zgr h 78 5 = some 79 := w.2.2.2.2.2.2.2.2.1
theorem mw_r15 {h : zHp} (w : zMW h) : zgr h 78 15 = some 80 := w.2.2.2.2.2.2.2.2.2.1
theorem mw_r16 {h : zHp} (w : zMW h) : zgr h 78 16 = some 81 := w.2.2.2.2.2.2.2.2.2.2.1
theorem mw_r17 {h : zHp} (w : zMW h) : zgr h 78 17 = some 82 := w.2.2.2.2.2.2.2.2.2.2.2.1
theorem mw_r18 {h : zHp} (w : zMW h) : zgr h 78 18 = some 83 := w.2.2.2.2.2.2.2.2.2.2.2.2.1
theorem mw_r21 {h : zHp} (w : zMW h) : zgr h 78 21 = some 84 := w.2.2.2.2.2.2.2.2.2.2.2.2.2.1
theorem mw_r22 {h : zHp} (w : zMW h) : zgr h 78 22 = some 85 := w.2.2.2.2.2.2.2.2.2.2.2.2.2.2
def zTa (h : zHp) : Prop := zgr h 78 3 = some 87 ∧ zsh h 87 = some (.inl 8) ∧ zsh h 88 = some (.inr (.int, 6)) ∧ zgr h 87 8 = some 88 ∧ zsh h 89 = some (.inr (.int, 6)) ∧ zgr h 87 9 = some 89 ∧ zsh h 90 = some (.inr (.int, 6)) ∧ zgr h 87 10 = some 90 ∧ zsh h 91 = some (.inr (.int, 6)) ∧ zgr h 87 11 = some 91 ∧ zsh h 92 = some (.inr (.long, 6)) ∧ zgr h 87 12 = some 92 ∧ zsh h 93 = some (.inr (.int, 6)) ∧ zgr h 87 13 = some 93 ∧ zsh h 94 = some (.inr (.int, 8)) ∧ zgr h 87 14 = some 94 ∧ zsh h 95 = some (.inr (.int, 4)) ∧ zgr h 87 15 = some 95 ∧ zsh h 96 = some (.inr (.int, 4)) ∧ zgr h 87 16 = some 96 ∧ zsh h 97 = some (.inr (.long, 6)) ∧ zgr h 87 17 = some 97 ∧ zsh h 98 = some (.inr (.long, 10)) ∧ zgr h 87 18 = some 98 ∧ zsh h 99 = some (.inr (.int, 10)) ∧ zgr h 87 19 = some 99 ∧ zsh h 100 = some (.inr (.int, 10)) ∧ zgr h 87 20 = some 100
theorem ta_r3 {h : zHp} (w : zTa h) : zgr h 78 3 = some 87 := w.1
theorem ta_s {h : zHp} (w : zTa h) : zsh h 87 = some (.inl 8) := w.2.1
theorem ta_s1 {h : zHp} (w : zTa h) : zsh h 88 = some (.inr (.int, 6)) := w.2.2.1
theorem ta_r8 {h : zHp} (w : zTa h) : zgr h 87 8 = some 88 := w.2.2.2.1
theorem ta_s2 {h : zHp} (w : zTa h) : zsh h 89 = some (.inr (.int, 6)) := w.2.2.2.2.1
theorem ta_r9 {h : zHp} (w : zTa h) : zgr h 87 9 = some 89 := w.2.2.2.2.2.1
theorem ta_s3 {h : zHp} (w : zTa h) : zsh h 90 = some (.inr (.int, 6)) := w.2.2.2.2.2.2.1
theorem ta_r10 {h : zHp} (w : zTa h) : zgr h 87 10 = some 90 := w.2.2.2.2.2.2.2.1
theorem ta_s4 {h : zHp} (w : zTa h) : zsh h 91 = some (.inr (.int, 6)) := w.2.2.2.2.2.2.2.2.1
theorem ta_r11 {h : zHp} (w : zTa h) : zgr h 87 11 = some 91 := w.2.2.2.2.2.2.2.2.2.1
theorem ta_s5 {h : zHp} (w : zTa h) : zsh h 92 = some (.inr (.long, 6)) := w.2.2.2.2.2.2.2.2.2.2.1
theorem ta_r12 {h : zHp} (w : zTa h) : zgr h 87 12 = some 92 := w.2.2.2.2.2.2.2.2.2.2.2.1
theorem ta_s6 {h : zHp} (w : zTa h) : zsh h 93 = some (.inr (.int, 6)) := w.2.2.2.2.2.2.2.2.2.2.2.2.1
theorem ta_r13 {h : zHp} (w : zTa h) : zgr h 87 13 = some 93 := w.2.2.2.2.2.2.2.2.2.2.2.2.2.1
theorem ta_s7 {h : zHp} (w : zTa h) : zsh h 94 = some (.inr (.int, 8)) := w.2.2.2.2.2.2.2.2.2.2.2.2.2.2.1
theorem ta_r14 {h : zHp} (w : zTa h) : zgr h 87 14 = some 94 := w.2.2.2.2.2.2.2.2.2.2.2.2.2.2.2.1
theorem ta_s8 {h : zHp} (w : zTa h) : zsh h 95 = some (.inr (.int, 4)) := w.2.2.2.2.2.2.2.2.2.2.2.2.2.2.2.2.1
theorem ta_r15 {h : zHp} (w : zTa h) : zgr h 87 15 = some 95 := w.2.2.2.2.2.2.2.2.2.2.2.2.2.2.2.2.2.1
theorem ta_s9 {h : zHp} (w : zTa h) : zsh h 96 = some (.inr (.int, 4)) := w.2.2.2.2.2.2.2.2.2.2.2.2.2.2.2.2.2.2.1
theorem ta_r16 {h : zHp} (w : zTa h) : zgr h 87 16 = some 96 := w.2.2.2.2.2.2.2.2.2.2.2.2.2.2.2.2.2.2.2.1
theorem ta_s10 {h : zHp} (w : zTa h) : zsh h 97 = some (.inr (.long, 6)) := w.2.2.2.2.2.2.2.2.2.2.2.2.2.2.2.2.2.2.2.2.1
theorem ta_r17 {h : zHp} (w : zTa h) : zgr h 87 17 = some 97 := w.2.2.2.2.2.2.2.2.2.2.2.2.2.2.2.2.2.2.2.2.2.1
theorem ta_s11 {h : zHp} (w : zTa h) : zsh h 98 = some (.inr (.long, 10)) := w.2.2.2.2.2.2.2.2.2.2.2.2.2.2.2.2.2.2.2.2.2.2.1
theorem ta_r18 {h : zHp} (w : zTa h) : zgr h 87 18 = some 98 := w.2.2.2.2.2.2.2.2.2.2.2.2.2.2.2.2.2.2.2.2.2.2.2.1
theorem ta_s12 {h : zHp} (w : zTa h) : zsh h 99 = some (.inr (.int, 10)) := w.2.2.2.2.2.2.2.2.2.2.2.2.2.2.2.2.2.2.2.2.2.2.2.2.1
theorem ta_r19 {h : zHp} (w : zTa h) : zgr h 87 19 = some 99 := w.2.2.2.2.2.2.2.2.2.2.2.2.2.2.2.2.2.2.2.2.2.2.2.2.2.1
theorem ta_s13 {h : zHp} (w : zTa h) : zsh h 100 = some (.inr (.int, 10)) := w.2.2.2.2.2.2.2.2.2.2.2.2.2.2.2.2.2.2.2.2.2.2.2.2.2.2.1
theorem ta_r20 {h : zHp} (w : zTa h) : zgr h 87 20 = some 100 := w.2.2.2.2.2.2.2.2.2.2.2.2.2.2.2.2.2.2.2.2.2.2.2.2.2.2.2
