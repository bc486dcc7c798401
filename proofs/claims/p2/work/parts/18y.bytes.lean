/-! the four bytes of a word -/
def byt (w p : Int32) : Int32 := ((w.toUInt32 >>> (((nI 8) * p).toUInt32 &&& Int32.toUInt32 31)).toInt32) &&& (nI 255)
def cnz (w : Int32) : Nat → Nat
  | 0 => 0
  | p + 1 => cnz w p + (if (byt w (nI p)).toInt = 0 then 0 else 1)
def cbd (w : Int32) : Nat → Nat
  | 0 => 0
  | p + 1 => cbd w p + (if (byt w (nI p)).toInt = 0 ∨ (32 ≤ (byt w (nI p)).toInt ∧ (byt w (nI p)).toInt ≤ 126) then 0 else 1)
theorem nx_cl {x : Int32} (h : 0 ≤ x.toInt ∧ x.toInt < 1000000) : (x + nI 1).toNatClampNeg = x.toNatClampNeg + 1 ∧ nI x.toNatClampNeg = x := by
  have h1 : (nI 1).toInt = 1 := nI_toInt (by decide)
  have h2 : (x + nI 1).toInt = x.toInt + (nI 1).toInt := t_addn (by omega)
  constructor
  · rw [t_cl, t_cl]; omega
  · rw [t_eq, nI_toInt (by rw [t_cl]; omega), t_cl]; omega
theorem cnz_0 {w : Int32} : cnz w (nI 0).toNatClampNeg = 0 := rfl
theorem cbd_0 {w : Int32} : cbd w (nI 0).toNatClampNeg = 0 := rfl
theorem cnz_s {w x : Int32} (h : 0 ≤ x.toInt ∧ x.toInt < 1000000) : cnz w (x + nI 1).toNatClampNeg = cnz w x.toNatClampNeg + (if (byt w x).toInt = 0 then 0 else 1) := by
  rw [(nx_cl h).1]
  show cnz w x.toNatClampNeg + (if (byt w (nI x.toNatClampNeg)).toInt = 0 then 0 else 1) = _
  rw [(nx_cl h).2]
theorem cbd_s {w x : Int32} (h : 0 ≤ x.toInt ∧ x.toInt < 1000000) : cbd w (x + nI 1).toNatClampNeg = cbd w x.toNatClampNeg + (if (byt w x).toInt = 0 ∨ (32 ≤ (byt w x).toInt ∧ (byt w x).toInt ≤ 126) then 0 else 1) := by
  rw [(nx_cl h).1]
  show cbd w x.toNatClampNeg + (if (byt w (nI x.toNatClampNeg)).toInt = 0 ∨ (32 ≤ (byt w (nI x.toNatClampNeg)).toInt ∧ (byt w (nI x.toNatClampNeg)).toInt ≤ 126) then 0 else 1) = _
  rw [(nx_cl h).2]
theorem cnz_le (w : Int32) : ∀ n, cnz w n ≤ n
  | 0 => Nat.le_refl _
  | n + 1 => by
    have := cnz_le w n
    unfold cnz
    split <;> omega
theorem cl4 {x : Int32} (h : x.toInt = 4) : x.toNatClampNeg = 4 := by rw [t_cl, h]; rfl
theorem cbd_mono (w : Int32) : ∀ {n m : Nat}, n ≤ m → cbd w n ≤ cbd w m := by
  intro n m h
  induction m with
  | zero => have : n = 0 := by omega
            subst this; exact Nat.le_refl _
  | succ m ih =>
    by_cases hm : n = m + 1
    · subst hm; exact Nat.le_refl _
    · exact Nat.le_trans (ih (by omega)) (Nat.le_add_right _ _)
/-- a bad byte stays bad -/
theorem cbd_4 {w x : Int32} (h : 0 ≤ x.toInt ∧ x.toInt < 4) : (if (byt w x).toInt = 0 ∨ (32 ≤ (byt w x).toInt ∧ (byt w x).toInt ≤ 126) then 0 else 1) ≤ cbd w 4 := by
  have h1 := cbd_s (w := w) (x := x) (by omega)
  have h2 := cbd_mono w (n := (x + nI 1).toNatClampNeg) (m := 4) (by rw [(nx_cl (by omega)).1, t_cl]; omega)
  omega
def chr (x : Int32) : Int32 := (x.toUInt32 % 65536).toInt32
theorem byt_lt (w p : Int32) : (byt w p).toUInt32.toNat < 256 := by
  have h : ∀ a : Int32, (a &&& nI 255).toUInt32.toNat < 256 := by
    intro a
    have h1 : (a &&& nI 255).toUInt32 = a.toUInt32 &&& (nI 255).toUInt32 := rfl
    rw [h1, UInt32.toNat_and]
    have h2 : (nI 255).toUInt32.toNat = 255 := by decide
    rw [h2]
    exact Nat.lt_of_le_of_lt Nat.and_le_right (by decide)
  exact h _
theorem chr_byt (w p : Int32) : chr (byt w p) = byt w p := by
  unfold chr
  have h : (byt w p).toUInt32 % 65536 = (byt w p).toUInt32 := by
    apply UInt32.toNat_inj.mp
    rw [UInt32.toNat_mod]
    exact Nat.mod_eq_of_lt (Nat.lt_trans (byt_lt w p) (by decide))
  rw [h]
  rfl
