section ZTJ
variable {h h' h1 h2 : zHp} {d t : Nat} {D : zDt}
theorem zrow_eq (a : zDR h d D) (b : zMD h' t D) (r0 : zrow0 h h1 d) (rM : zrowM h' h2 t) : ∀ i, i < 15 → gz h2 80 i = gz h1 45 i := by
  obtain ⟨-, a1, ab, -, -, -, -, a13, ap⟩ := a
  obtain ⟨-, b1, -, -, rb, -, -, -, -, r6, rp, -, -⟩ := b
  intro i hi
  rcases Nat.lt_or_ge i 6 with q | q
  · rw [r0.1 i q, rM.1 i q, a1, b1]
    by_cases c : (i : Int) < ((D.2.1.length : Nat) : Int)
    · rw [if_pos c, if_pos c]
      obtain ⟨x, hx⟩ : ∃ x, D.2.1[i]? = some x := ⟨_, List.getElem?_eq_getElem (by omega)⟩
      rw [(ab i x hx).2.2.2.1, (rb i x hx).2.1]
    · rw [if_neg c, if_neg c]
  · rcases Nat.lt_or_ge i 10 with q2 | q2
    · obtain ⟨j, rfl⟩ : ∃ j, i = 6 + j := ⟨i - 6, by omega⟩
      rw [(r0.2.1 j (by omega)).1, (rM.2.1 j (by omega)).1, a13, r6]
      by_cases c : (j : Int) < ((D.2.2.2.2.1.length : Nat) : Int)
      · rw [if_pos c, if_pos c]
        obtain ⟨x, hx⟩ : ∃ x, D.2.2.2.2.1[j]? = some x := ⟨_, List.getElem?_eq_getElem (by omega)⟩
        rw [(ap j x hx).2, (rp j x hx).1, (rp j x hx).2]
      · rw [if_neg c, if_neg c]
    · rcases Nat.lt_or_ge i 14 with q3 | q3
      · obtain ⟨j, rfl⟩ : ∃ j, i = 10 + j := ⟨i - 10, by omega⟩
        rw [(r0.2.1 j (by omega)).2, (rM.2.1 j (by omega)).2]
      · rw [show i = 14 by omega, r0.2.2, rM.2.2]
end ZTJ
