/-! two pads that took the same word -/
theorem cnz_hit {w : Int32} : ∀ (p i : Nat), i < cnz w p → ∃ q, q < p ∧ (byt w (nI q)).toInt ≠ 0 ∧ cnz w q = i
  | 0, i, h => absurd h (Nat.not_lt_zero i)
  | p + 1, i, h => by
    by_cases h1 : i < cnz w p
    · obtain ⟨q, a, b, c⟩ := cnz_hit p i h1
      exact ⟨q, by omega, b, c⟩
    · have h2 : i < cnz w p + (if (byt w (nI p)).toInt = 0 then 0 else 1) := h
      by_cases hb : (byt w (nI p)).toInt = 0
      · rw [if_pos hb] at h2; omega
      · rw [if_neg hb] at h2
        exact ⟨p, by omega, hb, by omega⟩
theorem padI_eq {h h' g g' : Nat → Int32} {n0 : Nat} {w : Int32} (e : ∀ j, j < n0 → h j = h' j) (a : padI h g n0 w 4) (b : padI h' g' n0 w 4) : ∀ j, j < n0 + cnz w 4 → g j = g' j := by
  intro j hj
  by_cases h1 : j < n0
  · rw [a.1 j h1, b.1 j h1]; exact e j h1
  · obtain ⟨q, q1, q2, q3⟩ := cnz_hit (w := w) 4 (j - n0) (by omega)
    have hj2 : j = n0 + cnz w q := by omega
    rw [hj2, a.2 q q1 q2, b.2 q q1 q2]
