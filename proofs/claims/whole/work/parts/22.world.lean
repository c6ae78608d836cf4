def zPlan (h : zHp) (q : Nat) : Prop := zsh h q = some (.inl 1) ∧ zsh h (q + 1) = some (.inr (.long, 6)) ∧ zgr h q 2 = some (q + 1) ∧ zsh h (q + 2) = some (.inr (.int, 6)) ∧ zgr h q 3 = some (q + 2) ∧ zsh h (q + 3) = some (.inr (.long, 6)) ∧ zgr h q 4 = some (q + 3) ∧ zsh h (q + 4) = some (.inr (.int, 6)) ∧ zgr h q 5 = some (q + 4) ∧ zsh h (q + 5) = some (.inr (.int, 6)) ∧ zgr h q 6 = some (q + 5) ∧ zsh h (q + 6) = some (.inr (.int, 6)) ∧ zgr h q 7 = some (q + 6) ∧ zsh h (q + 7) = some (.inr (.int, 6)) ∧ zgr h q 9 = some (q + 7) ∧ zsh h (q + 8) = some (.inr (.long, 6)) ∧ zgr h q 10 = some (q + 8) ∧ zsh h (q + 9) = some (.inr (.int, 8)) ∧ zgr h q 12 = some (q + 9) ∧ zsh h (q + 10) = some (.inr (.long, 4)) ∧ zgr h q 14 = some (q + 10) ∧ zsh h (q + 11) = some (.inr (.int, 4)) ∧ zgr h q 15 = some (q + 11)
theorem zp_s {h : zHp} {q : Nat} (w : zPlan h q) : zsh h q = some (.inl 1) := w.1
theorem zp_s1 {h : zHp} {q : Nat} (w : zPlan h q) : zsh h (q + 1) = some (.inr (.long, 6)) := w.2.1
theorem zp_r2 {h : zHp} {q : Nat} (w : zPlan h q) : zgr h q 2 = some (q + 1) := w.2.2.1
theorem zp_s2 {h : zHp} {q : Nat} (w : zPlan h q) : zsh h (q + 2) = some (.inr (.int, 6)) := w.2.2.2.1
theorem zp_r3 {h : zHp} {q : Nat} (w : zPlan h q) : zgr h q 3 = some (q + 2) := w.2.2.2.2.1
theorem zp_s3 {h : zHp} {q : Nat} (w : zPlan h q) : zsh h (q + 3) = some (.inr (.long, 6)) := w.2.2.2.2.2.1
theorem zp_r4 {h : zHp} {q : Nat} (w : zPlan h q) : zgr h q 4 = some (q + 3) := w.2.2.2.2.2.2.1
theorem zp_s4 {h : zHp} {q : Nat} (w : zPlan h q) : zsh h (q + 4) = some (.inr (.int, 6)) := w.2.2.2.2.2.2.2.1
theorem zp_r5 {h : zHp} {q : Nat} (w : zPlan h q) : zgr h q 5 = some (q + 4) := w.2.2.2.2.2.2.2.2.1
theorem zp_s5 {h : zHp} {q : Nat} (w : zPlan h q) : zsh h (q + 5) = some (.inr (.int, 6)) := w.2.2.2.2.2.2.2.2.2.1
theorem zp_r6 {h : zHp} {q : Nat} (w : zPlan h q) : zgr h q 6 = some (q + 5) := w.2.2.2.2.2.2.2.2.2.2.1
theorem zp_s6 {h : zHp} {q : Nat} (w : zPlan h q) : zsh h (q + 6) = some (.inr (.int, 6)) := w.2.2.2.2.2.2.2.2.2.2.2.1
theorem zp_r7 {h : zHp} {q : Nat} (w : zPlan h q) : zgr h q 7 = some (q + 6) := w.2.2.2.2.2.2.2.2.2.2.2.2.1
theorem zp_s7 {h : zHp} {q : Nat} (w : zPlan h q) : zsh h (q + 7) = some (.inr (.int, 6)) := w.2.2.2.2.2.2.2.2.2.2.2.2.2.1
theorem zp_r9 {h : zHp} {q : Nat} (w : zPlan h q) : zgr h q 9 = some (q + 7) := w.2.2.2.2.2.2.2.2.2.2.2.2.2.2.1
theorem zp_s8 {h : zHp} {q : Nat} (w : zPlan h q) : zsh h (q + 8) = some (.inr (.long, 6)) := w.2.2.2.2.2.2.2.2.2.2.2.2.2.2.2.1
theorem zp_r10 {h : zHp} {q : Nat} (w : zPlan h q) : zgr h q 10 = some (q + 8) := w.2.2.2.2.2.2.2.2.2.2.2.2.2.2.2.2.1
theorem zp_s9 {h : zHp} {q : Nat} (w : zPlan h q) : zsh h (q + 9) = some (.inr (.int, 8)) := w.2.2.2.2.2.2.2.2.2.2.2.2.2.2.2.2.2.1
theorem zp_r12 {h : zHp} {q : Nat} (w : zPlan h q) : zgr h q 12 = some (q + 9) := w.2.2.2.2.2.2.2.2.2.2.2.2.2.2.2.2.2.2.1
theorem zp_s10 {h : zHp} {q : Nat} (w : zPlan h q) : zsh h (q + 10) = some (.inr (.long, 4)) := w.2.2.2.2.2.2.2.2.2.2.2.2.2.2.2.2.2.2.2.1
theorem zp_r14 {h : zHp} {q : Nat} (w : zPlan h q) : zgr h q 14 = some (q + 10) := w.2.2.2.2.2.2.2.2.2.2.2.2.2.2.2.2.2.2.2.2.1
theorem zp_s11 {h : zHp} {q : Nat} (w : zPlan h q) : zsh h (q + 11) = some (.inr (.int, 4)) := w.2.2.2.2.2.2.2.2.2.2.2.2.2.2.2.2.2.2.2.2.2.1
theorem zp_r15 {h : zHp} {q : Nat} (w : zPlan h q) : zgr h q 15 = some (q + 11) := w.2.2.2.2.2.2.2.2.2.2.2.2.2.2.2.2.2.2.2.2.2.2
def zCW (h : zHp) (d p : Nat) : Prop := zPlan h d ∧ zPlan h p ∧ zsh h 16 = some (.inl 7) ∧ zsh h 17 = some (.inl 2) ∧ zsh h 18 = some (.inl 6) ∧ zsh h 19 = some (.inr (.byte, 800)) ∧ zsh h 32 = some (.inl 4) ∧ zsh h 45 = some (.inr (.int, 15)) ∧ zsh h 46 = some (.inl 0) ∧ zsh h 47 = some (.inr (.array .int, 16)) ∧ zsh h 64 = some (.inr (.array .int, 3)) ∧ zsh h 68 = some (.inl 3) ∧ zsh h 69 = some (.inr (.array .int, 6)) ∧ zsh h 76 = some (.inr (.boolean, 144)) ∧ zsh h 77 = some (.inl 5) ∧ zgr h 16 0 = some 17 ∧ zgr h 16 1 = some 32 ∧ zgr h 16 2 = some 46 ∧ zgr h 16 3 = some 68 ∧ zgr h 16 4 = some 77 ∧ zgr h 17 0 = some 18 ∧ zgr h 17 1 = some d ∧ zgr h 18 0 = some 19 ∧ zgr h 32 0 = some p ∧ zgr h 32 1 = some 45 ∧ zgr h 46 0 = some 47 ∧ zgr h 46 1 = some 64 ∧ zgr h 68 0 = some 69 ∧ zgr h 68 1 = some 76 ∧ (∀ i, i < 16 → zsh h (48 + i) = some (.inr (.int, 15)) ∧ zgr h 47 i = some (48 + i)) ∧ (∀ i, i < 3 → zsh h (65 + i) = some (.inr (.int, 15)) ∧ zgr h 64 i = some (65 + i)) ∧ (∀ i, i < 6 → zsh h (70 + i) = some (.inr (.int, 144)) ∧ zgr h 69 i = some (70 + i)) ∧ ((d = 20 ∧ p = 33) ∨ (d = 33 ∧ p = 20))
theorem zc_pd {h : zHp} {d p : Nat} (w : zCW h d p) : zPlan h d := w.1
theorem zc_pp {h : zHp} {d p : Nat} (w : zCW h d p) : zPlan h p := w.2.1
theorem zc_s16 {h : zHp} {d p : Nat} (w : zCW h d p) : zsh h 16 = some (.inl 7) := w.2.2.1
theorem zc_s17 {h : zHp} {d p : Nat} (w : zCW h d p) : zsh h 17 = some (.inl 2) := w.2.2.2.1
theorem zc_s18 {h : zHp} {d p : Nat} (w : zCW h d p) : zsh h 18 = some (.inl 6) := w.2.2.2.2.1
theorem zc_s19 {h : zHp} {d p : Nat} (w : zCW h d p) : zsh h 19 = some (.inr (.byte, 800)) := w.2.2.2.2.2.1
theorem zc_s32 {h : zHp} {d p : Nat} (w : zCW h d p) : zsh h 32 = some (.inl 4) := w.2.2.2.2.2.2.1
theorem zc_s45 {h : zHp} {d p : Nat} (w : zCW h d p) : zsh h 45 = some (.inr (.int, 15)) := w.2.2.2.2.2.2.2.1
theorem zc_s46 {h : zHp} {d p : Nat} (w : zCW h d p) : zsh h 46 = some (.inl 0) := w.2.2.2.2.2.2.2.2.1
theorem zc_s47 {h : zHp} {d p : Nat} (w : zCW h d p) : zsh h 47 = some (.inr (.array .int, 16)) := w.2.2.2.2.2.2.2.2.2.1
theorem zc_s64 {h : zHp} {d p : Nat} (w : zCW h d p) : zsh h 64 = some (.inr (.array .int, 3)) := w.2.2.2.2.2.2.2.2.2.2.1
theorem zc_s68 {h : zHp} {d p : Nat} (w : zCW h d p) : zsh h 68 = some (.inl 3) := w.2.2.2.2.2.2.2.2.2.2.2.1
theorem zc_s69 {h : zHp} {d p : Nat} (w : zCW h d p) : zsh h 69 = some (.inr (.array .int, 6)) := w.2.2.2.2.2.2.2.2.2.2.2.2.1
theorem zc_s76 {h : zHp} {d p : Nat} (w : zCW h d p) : zsh h 76 = some (.inr (.boolean, 144)) := w.2.2.2.2.2.2.2.2.2.2.2.2.2.1
theorem zc_s77 {h : zHp} {d p : Nat} (w : zCW h d p) : zsh h 77 = some (.inl 5) := w.2.2.2.2.2.2.2.2.2.2.2.2.2.2.1
theorem zc_r16_0 {h : zHp} {d p : Nat} (w : zCW h d p) : zgr h 16 0 = some 17 := w.2.2.2.2.2.2.2.2.2.2.2.2.2.2.2.1
theorem zc_r16_1 {h : zHp} {d p : Nat} (w : zCW h d p) : zgr h 16 1 = some 32 := w.2.2.2.2.2.2.2.2.2.2.2.2.2.2.2.2.1
theorem zc_r16_2 {h : zHp} {d p : Nat} (w : zCW h d p) : zgr h 16 2 = some 46 := w.2.2.2.2.2.2.2.2.2.2.2.2.2.2.2.2.2.1
theorem zc_r16_3 {h : zHp} {d p : Nat} (w : zCW h d p) : zgr h 16 3 = some 68 := w.2.2.2.2.2.2.2.2.2.2.2.2.2.2.2.2.2.2.1
theorem zc_r16_4 {h : zHp} {d p : Nat} (w : zCW h d p) : zgr h 16 4 = some 77 := w.2.2.2.2.2.2.2.2.2.2.2.2.2.2.2.2.2.2.2.1
theorem zc_r17_0 {h : zHp} {d p : Nat} (w : zCW h d p) : zgr h 17 0 = some 18 := w.2.2.2.2.2.2.2.2.2.2.2.2.2.2.2.2.2.2.2.2.1
theorem zc_r17_1 {h : zHp} {d p : Nat} (w : zCW h d p) : zgr h 17 1 = some d := w.2.2.2.2.2.2.2.2.2.2.2.2.2.2.2.2.2.2.2.2.2.1
theorem zc_r18_0 {h : zHp} {d p : Nat} (w : zCW h d p) : zgr h 18 0 = some 19 := w.2.2.2.2.2.2.2.2.2.2.2.2.2.2.2.2.2.2.2.2.2.2.1
theorem zc_r32_0 {h : zHp} {d p : Nat} (w : zCW h d p) : zgr h 32 0 = some p := w.2.2.2.2.2.2.2.2.2.2.2.2.2.2.2.2.2.2.2.2.2.2.2.1
theorem zc_r32_1 {h : zHp} {d p : Nat} (w : zCW h d p) : zgr h 32 1 = some 45 := w.2.2.2.2.2.2.2.2.2.2.2.2.2.2.2.2.2.2.2.2.2.2.2.2.1
theorem zc_r46_0 {h : zHp} {d p : Nat} (w : zCW h d p) : zgr h 46 0 = some 47 := w.2.2.2.2.2.2.2.2.2.2.2.2.2.2.2.2.2.2.2.2.2.2.2.2.2.1
theorem zc_r46_1 {h : zHp} {d p : Nat} (w : zCW h d p) : zgr h 46 1 = some 64 := w.2.2.2.2.2.2.2.2.2.2.2.2.2.2.2.2.2.2.2.2.2.2.2.2.2.2.1
theorem zc_r68_0 {h : zHp} {d p : Nat} (w : zCW h d p) : zgr h 68 0 = some 69 := w.2.2.2.2.2.2.2.2.2.2.2.2.2.2.2.2.2.2.2.2.2.2.2.2.2.2.2.1
theorem zc_r68_1 {h : zHp} {d p : Nat} (w : zCW h d p) : zgr h 68 1 = some 76 := w.2.2.2.2.2.2.2.2.2.2.2.2.2.2.2.2.2.2.2.2.2.2.2.2.2.2.2.2.1
theorem zc_act {h : zHp} {d p : Nat} (w : zCW h d p) : (∀ i, i < 16 → zsh h (48 + i) = some (.inr (.int, 15)) ∧ zgr h 47 i = some (48 + i)) := w.2.2.2.2.2.2.2.2.2.2.2.2.2.2.2.2.2.2.2.2.2.2.2.2.2.2.2.2.2.1
theorem zc_img {h : zHp} {d p : Nat} (w : zCW h d p) : (∀ i, i < 3 → zsh h (65 + i) = some (.inr (.int, 15)) ∧ zgr h 64 i = some (65 + i)) := w.2.2.2.2.2.2.2.2.2.2.2.2.2.2.2.2.2.2.2.2.2.2.2.2.2.2.2.2.2.2.1
theorem zc_cnt {h : zHp} {d p : Nat} (w : zCW h d p) : (∀ i, i < 6 → zsh h (70 + i) = some (.inr (.int, 144)) ∧ zgr h 69 i = some (70 + i)) := w.2.2.2.2.2.2.2.2.2.2.2.2.2.2.2.2.2.2.2.2.2.2.2.2.2.2.2.2.2.2.2.1
theorem zc_dp {h : zHp} {d p : Nat} (w : zCW h d p) : ((d = 20 ∧ p = 33) ∨ (d = 33 ∧ p = 20)) := w.2.2.2.2.2.2.2.2.2.2.2.2.2.2.2.2.2.2.2.2.2.2.2.2.2.2.2.2.2.2.2.2
