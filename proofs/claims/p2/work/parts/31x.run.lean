/-! the reference's run: what a template is, what the rows hold -/
theorem t_b01 {x : Int32} (h : x = 0 ∨ x = 1) : 0 ≤ x.toInt ∧ x.toInt ≤ 1 := by
  rcases h with h | h <;> subst h <;> decide
def sg (f : cg_G) (t k : Nat) : Int := (f 209 (32 * t + k)).toInt
def mkc (f : cg_G) (t : Nat) : Nat → Nat
  | 0 => 0
  | k + 1 => mkc f t k + (if sg f t k = 35 ∨ sg f t k = 64 then 1 else 0)
theorem mkc_le {f : cg_G} {t a b : Nat} (h : a ≤ b) : mkc f t a ≤ mkc f t b := by
  induction b with
  | zero => have : a = 0 := by omega
            subst this; exact Nat.le_refl _
  | succ b ih =>
    by_cases e : a = b + 1
    · subst e; exact Nat.le_refl _
    · exact Nat.le_trans (ih (by omega)) (Nat.le_add_right _ _)
theorem mkc_1 {f : cg_G} {t k : Nat} (h : sg f t k = 35 ∨ sg f t k = 64) : mkc f t (k + 1) = mkc f t k + 1 := by
  show mkc f t k + (if sg f t k = 35 ∨ sg f t k = 64 then 1 else 0) = _
  rw [if_pos h]
def wfT (f : cg_G) (t n : Nat) : Prop := mkc f t n ≤ 6 ∧ ∀ k, k < n → (sg f t k = 35 → k + 1 < n ∧ 48 ≤ sg f t (k + 1) ∧ sg f t (k + 1) ≤ 51) ∧ (sg f t k = 64 → k + 1 < n ∧ 48 ≤ sg f t (k + 1) ∧ sg f t (k + 1) ≤ 55) ∧ (sg f t k = 91 → ∃ j, k < j ∧ j < n ∧ sg f t j = 93)
theorem ix32 {x y : Int32} (hx : 0 ≤ x.toInt ∧ x.toInt ≤ 5) (hy : 0 ≤ y.toInt ∧ y.toInt ≤ 40) : (nI 32 * x + y).toInt = 32 * x.toInt + y.toInt ∧ (nI 32 * x + y).toNatClampNeg = 32 * x.toNatClampNeg + y.toNatClampNeg := by
  have h1 : (nI 32 * x).toInt = (32 : Nat) * x.toInt := t_mulc (by decide) (by omega)
  have h2 : (nI 32 * x + y).toInt = (nI 32 * x).toInt + y.toInt := t_addn (by omega)
  rw [t_cl, t_cl, t_cl]
  omega
theorem sg_at {f f0 : cg_G} {a0 : Nat} {x y : Int32} {K : Nat} (hm : a0 = 206) (h3 : f (a0 + 3) = f0 (a0 + 3)) (hx : 0 ≤ x.toInt ∧ x.toInt ≤ 5) (hy : y.toInt = K) (hK : K ≤ 40) : (f (a0 + 3) (nI 32 * x + y).toNatClampNeg).toInt = sg f0 x.toNatClampNeg K := by
  subst hm
  have e : y.toNatClampNeg = K := by rw [t_cl]; omega
  rw [(ix32 hx (by omega)).2, h3, e]
  rfl
theorem sg_at1 {f f0 : cg_G} {a0 : Nat} {x y : Int32} {K : Nat} (hm : a0 = 206) (h3 : f (a0 + 3) = f0 (a0 + 3)) (hx : 0 ≤ x.toInt ∧ x.toInt ≤ 5) (hy : y.toInt = K) (hK : K ≤ 40) : (f (a0 + 3) (nI 32 * x + y + nI 1).toNatClampNeg).toInt = sg f0 x.toNatClampNeg (K + 1) := by
  subst hm
  have n1 : (nI 1).toInt = 1 := nI_toInt (by decide)
  have e := (ix32 (x := x) (y := y) hx (by omega)).1
  have h2 : (nI 32 * x + y + nI 1).toInt = (nI 32 * x + y).toInt + (nI 1).toInt := t_addn (by omega)
  have e2 : (nI 32 * x + y + nI 1).toNatClampNeg = 32 * x.toNatClampNeg + (K + 1) := by rw [t_cl, t_cl]; omega
  rw [e2, h3]
  rfl
theorem cj_upc {g : Nat → Int32} {K k : Nat} {x : Int32} : (k = K ∧ (cj_up g K x k).toInt = x.toInt) ∨ (k ≠ K ∧ (cj_up g K x k).toInt = (g k).toInt) := by
  by_cases h : k = K
  · subst h; exact Or.inl ⟨rfl, by rw [cj_up_s]⟩
  · exact Or.inr ⟨h, by rw [cj_up_n _ _ h]⟩
/-- lines lie within the text -/
def JL (b s : Nat → Int32) : Prop := ∀ k, 0 ≤ (b k).toInt ∧ (b k).toInt + (s k).toInt ≤ 240
theorem JL_up {b s : Nat → Int32} {K : Nat} {x y : Int32} (h : JL b s) (h1 : 0 ≤ x.toInt) (h2 : x.toInt + y.toInt ≤ 240) : JL (cj_up b K x) (cj_up s K y) := by
  intro k
  have q := h k
  have p1 := cj_upc (g := b) (K := K) (k := k) (x := x)
  have p2 := cj_upc (g := s) (K := K) (k := k) (x := y)
  omega
def fitW (b e : Nat → Int32) (W n : Int) : Prop := ∀ w : Nat, (w : Int) < n → (e w).toInt - (b w).toInt ≤ W
theorem fit_old {b e : Nat → Int32} {W n : Int} {K : Nat} {v : Int32} (h : fitW b e W n) (hK : (K : Int) = n - 1) (hv : v.toInt - (b K).toInt ≤ W) : fitW b (cj_up e K v) W n := by
  intro w hw
  have q := h w hw
  rcases cj_upc (g := e) (K := K) (k := w) (x := v) with ⟨p1, p2⟩ | ⟨p1, p2⟩
  · subst p1; omega
  · omega
theorem fit_new {b e : Nat → Int32} {W n m : Int} {K K2 : Nat} {x v : Int32} (h : fitW b e W n) (hK : (K : Int) = n) (hK2 : K2 = K) (hm : m = n + 1) (hv : v.toInt - x.toInt ≤ W) : fitW (cj_up b K x) (cj_up e K2 v) W m := by
  intro w hw
  subst hK2
  have p1 := cj_upc (g := e) (K := K2) (k := w) (x := v)
  have p2 := cj_upc (g := b) (K := K2) (k := w) (x := x)
  have q := h w
  omega
/-- the rows of the best ways, from behind -/
def solved (c t : Nat → Int32) (a n : Int) : Prop := ∀ j : Nat, a < j → (j : Int) < n → 0 ≤ (c j).toInt ∧ 1 ≤ (t j).toInt ∧ j + (t j).toInt ≤ n
theorem solved_fr {c t c' t' : Nat → Int32} {a b n : Int} {K : Nat} (h : solved c t a n) (hK : (K : Int) = a) (hb : b = a - 1) (hc : ∀ j, j ≠ K → c' j = c j) (ht : ∀ j, j ≠ K → t' j = t j) (h0 : 0 ≤ (c' K).toInt) (h1 : 1 ≤ (t' K).toInt) (h2 : K + (t' K).toInt ≤ n) : solved c' t' b n := by
  intro j q1 q2
  by_cases e : j = K
  · subst e; exact ⟨h0, h1, h2⟩
  · rw [hc j e, ht j e]; exact h j (by omega) q2
theorem solved_0 {c t : Nat → Int32} {a n : Int} (h : n ≤ a + 1) : solved c t a n := fun j q1 q2 => by omega
/-- units fit a page -/
def hok (p l : Nat → Int32) (b n H : Int) : Prop := ∀ u : Nat, b ≤ u → (u : Int) < b + n → (p u).toInt + (l u).toInt ≤ H
theorem hok_up {p l : Nat → Int32} {b n H m : Int} {K : Nat} {x y : Int32} (h : hok p l b n H) (hK : (K : Int) = b + n) (hm : m = n + 1) (hx : x.toInt + y.toInt ≤ H) : hok (cj_up p K x) (cj_up l K y) b m H := by
  intro u h1 h2
  have q := h u h1
  have p1 := cj_upc (g := p) (K := K) (k := u) (x := x)
  have p2 := cj_upc (g := l) (K := K) (k := u) (x := y)
  omega
theorem wf_end {f : cg_G} {t n : Nat} (w : wfT f t n) (K : Nat) : ∃ j0 : Nat, K < n → sg f t K = 91 → K < j0 ∧ j0 < n ∧ sg f t j0 = 93 := by
  by_cases h : K < n ∧ sg f t K = 91
  · obtain ⟨j, h1⟩ := (w.2 K h.1).2.2 h.2
    exact ⟨j, fun _ _ => h1⟩
  · exact ⟨0, fun a b => absurd ⟨a, b⟩ h⟩
theorem at_1 {g : Nat → Int32} {x y : Int32} (h : y.toInt = 1) : (g (x + y - nI 1).toNatClampNeg).toInt = (g x.toNatClampNeg).toInt := by
  have n1 : (nI 1).toInt = 1 := nI_toInt (by decide)
  have e : y = nI 1 := t_eq.mpr (by omega)
  rw [e, Int32.add_sub_cancel]
theorem t_sub240 {e b : Int32} (he : 0 ≤ e.toInt ∧ e.toInt ≤ 240) (hb : 0 ≤ b.toInt ∧ b.toInt ≤ 240) : b.toInt + (e - b).toInt ≤ 240 := by
  rw [t_subn (by omega)]; omega
def gapI (z : Prop) (w n i : Int) : Prop := (z → 2 * w ≤ i ∧ (w = 0 ∨ n + 1 ≤ i)) ∧ (¬ z → 1 ≤ w)
theorem gapI_mk {z : Prop} {w n i : Int} (h : z → 2 * w ≤ i ∧ (w = 0 ∨ n + 1 ≤ i)) (h2 : ¬ z → 1 ≤ w) : gapI z w n i := ⟨h, h2⟩
theorem fit_0 {b e : Nat → Int32} {W n : Int} (h : n ≤ 0) : fitW b e W n := fun w hw => by omega
theorem dec_eq {x : Int32} (h : ¬ x.toInt < 0) : (x + - nI 1).toInt = x.toInt - 1 := by
  have h1 := t_neg1
  have h2 := t_rng x
  rw [t_addn (by omega)]
  omega
theorem dec_lt {x : Int32} {n : Int} (h : ¬ x.toInt < 0) (h2 : x.toInt < n) : -1 ≤ (x + - nI 1).toInt ∧ (x + - nI 1).toInt < n := by
  rw [dec_eq h]; omega
theorem dec_me {x : Int32} {k : Nat} (h : ¬ x.toInt < 0) (h2 : (x.toInt + 1).toNat < k + 1) : ((x + - nI 1).toInt + 1).toNat < k := by
  rw [dec_eq h]; omega
/-- every entry's template is one -/
def WF (f : cg_G) : Prop := ∀ e : Nat, (e : Int) < (f 206 8).toInt → wfT f (f 210 e).toNatClampNeg (f 208 (f 210 e).toNatClampNeg).toNatClampNeg
theorem mkc_fr {f f0 : cg_G} (h : f 209 = f0 209) (t : Nat) : ∀ n, mkc f t n = mkc f0 t n
  | 0 => rfl
  | n + 1 => by
    show mkc f t n + (if sg f t n = 35 ∨ sg f t n = 64 then 1 else 0) = mkc f0 t n + (if sg f0 t n = 35 ∨ sg f0 t n = 64 then 1 else 0)
    have e : sg f t n = sg f0 t n := by unfold sg; rw [h]
    rw [mkc_fr h t n, e]
theorem wfT_fr {f f0 : cg_G} {t n : Nat} (h : f 209 = f0 209) (w : wfT f0 t n) : wfT f t n := by
  have e : ∀ k, sg f t k = sg f0 t k := fun k => by unfold sg; rw [h]
  refine ⟨by rw [mkc_fr h]; exact w.1, fun k hk => ?_⟩
  have q := w.2 k hk
  refine ⟨fun z => by rw [e] at z ⊢; exact q.1 z, fun z => by rw [e] at z ⊢; exact q.2.1 z, fun z => ?_⟩
  rw [e] at z
  obtain ⟨j, j1, j2, j3⟩ := q.2.2 z
  exact ⟨j, j1, j2, by rw [e]; exact j3⟩
theorem WF_at {f f0 : cg_G} {a0 : Nat} {x : Int32} (w : WF f0) (hm : a0 = 206) (h2 : f (a0 + 2) = f0 (a0 + 2)) (h3 : f (a0 + 3) = f0 (a0 + 3)) (h4 : f (a0 + 4) = f0 (a0 + 4)) (hx : 0 ≤ x.toInt) (he : x.toInt < (f0 a0 8).toInt) : wfT f (f (a0 + 4) x.toNatClampNeg).toNatClampNeg (f (a0 + 2) (f (a0 + 4) x.toNatClampNeg).toNatClampNeg).toNatClampNeg := by
  subst hm
  rw [h2, h4]
  exact wfT_fr h3 (w x.toNatClampNeg (by rw [t_cl]; omega))
theorem WF_fr {f f0 : cg_G} (w : WF f0) (h8 : f 206 8 = f0 206 8) (h2 : f 208 = f0 208) (h3 : f 209 = f0 209) (h4 : f 210 = f0 210) : WF f := by
  intro e he
  rw [h8] at he
  rw [h2, h4]
  exact wfT_fr h3 (w e he)
theorem hok_fr {p l p' l' : Nat → Int32} {b n n' H : Int} (h : hok p l b n H) (e1 : p' = p) (e2 : l' = l) (e3 : n' = n) : hok p' l' b n' H := by
  subst e1; subst e2; subst e3; exact h
theorem solved_rw {c t c' t' : Nat → Int32} {a n n' : Int} (h : solved c t a n) (e1 : c' = c) (e2 : t' = t) (e3 : n' = n) : solved c' t' a n' := by
  subst e1; subst e2; subst e3; exact h
