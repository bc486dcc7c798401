theorem ln_lt {L a : Nat} (h : a ≠ 0) : ln_ L a < 4096 := by unfold ln_; rw [if_neg h]; exact Nat.mod_lt _ (by decide)
theorem ln_small {L a : Nat} (h : a ≠ 0) : ln_ L a < 2 ^ 31 := Nat.lt_trans (ln_lt h) (by decide)
theorem t_bool {x : Int32} (h : 0 ≤ x.toInt) (h2 : x.toInt ≤ 1) : x = 0 ∨ x = 1 := by
  rw [t_eq, t_eq, t_0, t_1]; omega
theorem cF_no {f f' : cg_G} (h : cF (fun _ => False) f f') : f = f' := funext (fun o => (h o id).symm)
theorem ne_sh {a b s t : Nat} (h : sh_ a = s) (h2 : sh_ b = t) (hn : s ≠ t) : a ≠ b := fun e => hn (by rw [← h, ← h2, e])
set_option maxRecDepth 100000 in
theorem rg_1 {a : Nat} (h : sh_ a = 1) : 124 ≤ a ∧ a + 3 < 206 := (by decide +kernel : ∀ a, a < 237 → sh_ a = 1 → 124 ≤ a ∧ a + 3 < 206) a (sh_lt h (by decide)) h
set_option maxRecDepth 100000 in
theorem rg_3 {a : Nat} (h : sh_ a = 3) : 124 ≤ a ∧ a + 3 < 206 := (by decide +kernel : ∀ a, a < 237 → sh_ a = 3 → 124 ≤ a ∧ a + 3 < 206) a (sh_lt h (by decide)) h
set_option maxRecDepth 100000 in
theorem rg_4 {a : Nat} (h : sh_ a = 4) : 124 ≤ a ∧ a + 7 < 206 := (by decide +kernel : ∀ a, a < 237 → sh_ a = 4 → 124 ≤ a ∧ a + 7 < 206) a (sh_lt h (by decide)) h
set_option maxRecDepth 100000 in
theorem rg_5 {a : Nat} (h : sh_ a = 5) : 124 ≤ a ∧ a + 36 < 206 := (by decide +kernel : ∀ a, a < 237 → sh_ a = 5 → 124 ≤ a ∧ a + 36 < 206) a (sh_lt h (by decide)) h
theorem t_ite {a b x y : Int32} : (a.toInt < b.toInt ∧ (if a < b then x else y).toInt = x.toInt) ∨ (b.toInt ≤ a.toInt ∧ (if a < b then x else y).toInt = y.toInt) := by
  by_cases h : a < b
  · rw [if_pos h]; exact Or.inl ⟨t_lt.mp h, rfl⟩
  · rw [if_neg h]; rw [t_lt] at h; exact Or.inr ⟨by omega, rfl⟩
theorem cl_lt (x : Int32) : x.toNatClampNeg < 2 ^ 31 := by
  have := t_rng x
  rw [t_cl]; omega
set_option maxRecDepth 100000 in
theorem mo_sh {L : Nat} {f : cg_G} {a : Nat} (h : cI L f) (hs : sh_ a = 2) : sh_ (f a 2).toNatClampNeg = 6 := by
  have hl := sh_lt hs (by decide)
  rcases (cI_at h 2 hs).1 rfl with ⟨t, h1, h2⟩ | h2
  case inr =>
    rw [h2, nI_clamp (by omega)]
    exact (by decide +kernel : ∀ a, a < 237 → sh_ a = 2 → sh_ (a + 3) = 6) a hl hs
  rw [h2, nI_clamp (by omega)]
  exact (by decide +kernel : ∀ t, t < 6 → sh_ (7 + 2 * t) = 6) t h1
theorem la_sh9 {L : Nat} {f : cg_G} {a : Nat} (h : cI L f) (hs : sh_ a = 0) : sh_ (f a 9).toNatClampNeg = 5 := by
  rcases (cI_at h 9 hs).2.2.2.2.1 rfl with h1 | h1 <;> rw [h1, nI_clamp (by decide)] <;> decide +kernel
theorem la_sh10 {L : Nat} {f : cg_G} {a : Nat} (h : cI L f) (hs : sh_ a = 0) : sh_ (f a 10).toNatClampNeg = 5 := by
  rcases (cI_at h 10 hs).2.2.2.2.2 rfl with h1 | h1 <;> rw [h1, nI_clamp (by decide)] <;> decide +kernel
theorem la_ok {x : Int32} (h : x = nI 132 ∨ x = nI 169) : nI x.toNatClampNeg = nI 132 ∨ nI x.toNatClampNeg = nI 169 := by
  rcases h with h | h
  · left; rw [h, nI_clamp (by decide)]
  · right; rw [h, nI_clamp (by decide)]
theorem t_bmn {z : Int} (h : -2147483648 ≤ z ∧ z < 2147483648) : z.bmod 4294967296 = z := by
  obtain ⟨k, hk⟩ := t_bm z
  have h1 := Int.le_bmod (x := z) (m := 4294967296) (by decide)
  have h2 := Int.bmod_lt (x := z) (m := 4294967296) (by decide)
  omega
theorem t_addn {x y : Int32} (h : -2147483648 ≤ x.toInt + y.toInt ∧ x.toInt + y.toInt < 2147483648) : (x + y).toInt = x.toInt + y.toInt := by
  rw [Int32.toInt_add]; exact t_bmn h
theorem t_subn {x y : Int32} (h : -2147483648 ≤ x.toInt - y.toInt ∧ x.toInt - y.toInt < 2147483648) : (x - y).toInt = x.toInt - y.toInt := by
  rw [Int32.toInt_sub]; exact t_bmn h
theorem t_mulc {x : Int32} {c : Nat} (hc : c < 2 ^ 31) (h : -2147483648 ≤ (c : Int) * x.toInt ∧ (c : Int) * x.toInt < 2147483648) : (nI c * x).toInt = (c : Int) * x.toInt := by
  rw [Int32.toInt_mul, nI_toInt hc]; exact t_bmn h
theorem t_mulc' {x : Int32} {c : Nat} (hc : c < 2 ^ 31) (h : -2147483648 ≤ x.toInt * (c : Int) ∧ x.toInt * (c : Int) < 2147483648) : (x * nI c).toInt = x.toInt * (c : Int) := by
  rw [Int32.toInt_mul, nI_toInt hc]; exact t_bmn h
