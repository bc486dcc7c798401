/-! the pad, as a word's signs go onto it -/
theorem cg_up_row {f : cg_G} {a k : Nat} {x : Int32} : cg_up f a k x a = cj_up (f a) k x := by unfold cg_up; rw [cj_up_s]
theorem cnz_mono (w : Int32) : ∀ {n m : Nat}, n ≤ m → cnz w n ≤ cnz w m := by
  intro n m h
  induction m with
  | zero => have : n = 0 := by omega
            subst this; exact Nat.le_refl _
  | succ m ih =>
    by_cases hm : n = m + 1
    · subst hm; exact Nat.le_refl _
    · exact Nat.le_trans (ih (by omega)) (Nat.le_add_right _ _)
theorem cnz_lt {w : Int32} {q p : Nat} (h : q < p) (hb : (byt w (nI q)).toInt ≠ 0) : cnz w q < cnz w p := by
  have h1 := cnz_mono w (n := q + 1) (m := p) h
  have h2 : cnz w (q + 1) = cnz w q + 1 := by
    show cnz w q + (if (byt w (nI q)).toInt = 0 then 0 else 1) = _
    rw [if_neg hb]
  omega
theorem cnz_4 {w x : Int32} (h : 0 ≤ x.toInt ∧ x.toInt < 4) (hb : (byt w x).toInt ≠ 0) : cnz w x.toNatClampNeg + 1 ≤ cnz w 4 := by
  have h1 := cnz_lt (w := w) (q := x.toNatClampNeg) (p := 4) (by rw [t_cl]; omega) (by rw [(nx_cl (by omega)).2]; exact hb)
  omega
def padI (h g : Nat → Int32) (n0 : Nat) (w : Int32) (p : Nat) : Prop := (∀ j, j < n0 → g j = h j) ∧ ∀ q, q < p → (byt w (nI q)).toInt ≠ 0 → g (n0 + cnz w q) = byt w (nI q)
theorem padI_00 {h : Nat → Int32} {n0 : Nat} {w : Int32} : padI h h n0 w (nI 0).toNatClampNeg := ⟨fun _ _ => rfl, fun q hq => absurd hq (Nat.not_lt_zero q)⟩
theorem padI_skip {h g : Nat → Int32} {n0 : Nat} {w x : Int32} (hi : padI h g n0 w x.toNatClampNeg) (hx : 0 ≤ x.toInt ∧ x.toInt < 4) (hb : (byt w x).toInt = 0) : padI h g n0 w (x + nI 1).toNatClampNeg := by
  obtain ⟨h1, h2⟩ := nx_cl (x := x) (by omega)
  rw [h1]
  refine ⟨hi.1, fun q hq hn => ?_⟩
  by_cases hqx : q = x.toNatClampNeg
  · rw [hqx, h2] at hn; exact absurd hb hn
  · exact hi.2 q (by omega) hn
theorem padI_put {h g : Nat → Int32} {n0 K : Nat} {w x : Int32} (hi : padI h g n0 w x.toNatClampNeg) (hx : 0 ≤ x.toInt ∧ x.toInt < 4) (hK : K = n0 + cnz w x.toNatClampNeg) (hb : (byt w x).toInt ≠ 0) : padI h (cj_up g K (byt w x)) n0 w (x + nI 1).toNatClampNeg := by
  obtain ⟨h1, h2⟩ := nx_cl (x := x) (by omega)
  rw [h1]
  refine ⟨fun j hj => ?_, fun q hq hn => ?_⟩
  · rw [cj_up_n _ _ (by omega)]; exact hi.1 j hj
  · by_cases hqx : q = x.toNatClampNeg
    · rw [hqx, ← hK, cj_up_s, h2]
    · rw [cj_up_n _ _ (by have := cnz_lt (w := w) (q := q) (p := x.toNatClampNeg) (by omega) hn; omega)]
      exact hi.2 q (by omega) hn
theorem pad_ln {L a : Nat} (h : sh_ a = 0) : ln_ L (a + 1 + 1) = 32 := by
  have h1 : a = 1 := (by decide +kernel : ∀ a, a < 237 → sh_ a = 0 → a = 1) a (sh_lt h (by decide)) h
  subst h1
  rfl
theorem padI_putc {h g : Nat → Int32} {n0 K : Nat} {w x y : Int32} (hy : y = byt w x) (hi : padI h g n0 w x.toNatClampNeg) (hx : 0 ≤ x.toInt ∧ x.toInt < 4) (hK : K = n0 + cnz w x.toNatClampNeg) (hb : (byt w x).toInt ≠ 0) : padI h (cj_up g K (chr y)) n0 w (x + nI 1).toNatClampNeg := by
  rw [hy, chr_byt]
  exact padI_put hi hx hK hb
