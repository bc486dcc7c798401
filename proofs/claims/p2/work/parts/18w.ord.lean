/-! texts of fields, orders of letters, as predicates over a row -/
def plnG (g : Nat → Int32) (n : Int) : Prop := ∀ i : Nat, (i : Int) < n → (97 ≤ (g i).toInt ∧ (g i).toInt ≤ 122) ∨ (g i).toInt = 32
theorem plnG_0 {g : Nat → Int32} {n : Int} (h : n ≤ 0) : plnG g n := fun i hi => by omega
theorem plnG_s {g : Nat → Int32} {n m : Int} {k : Nat} (h : plnG g n) (hk : (k : Int) = n) (hm : m = n + 1) (hs : (97 ≤ (g k).toInt ∧ (g k).toInt ≤ 122) ∨ (g k).toInt = 32) : plnG g m := fun i hi => by
  by_cases e : i = k
  · subst e; exact hs
  · exact h i (by omega)
theorem plnG_no {g : Nat → Int32} {n : Int} {k : Nat} (hk : (k : Int) < n) (hs : ¬ ((97 ≤ (g k).toInt ∧ (g k).toInt ≤ 122) ∨ (g k).toInt = 32)) : ¬ plnG g n := fun h => hs (h k hk)
theorem plnG_le {g : Nat → Int32} {n m : Int} (h : plnG g n) (hm : m ≤ n) : plnG g m := fun i hi => h i (by omega)
theorem plnG_cg {g g' : Nat → Int32} {n : Int} (e : ∀ i : Nat, (i : Int) < n → (g i).toInt = (g' i).toInt) : plnG g n ↔ plnG g' n :=
  ⟨fun h i hi => by rw [← e i hi]; exact h i hi, fun h i hi => by rw [e i hi]; exact h i hi⟩
def ordG (g : Nat → Int32) (n : Int) : Prop := ∀ i : Nat, (i : Int) < n → (97 ≤ (g i).toInt ∧ (g i).toInt ≤ 122) ∧ ∀ j, j < i → (g j).toInt ≠ (g i).toInt
def ordP (g : Nat → Int32) (i : Nat) (j : Int) : Prop := ordG g i ∧ (97 ≤ (g i).toInt ∧ (g i).toInt ≤ 122) ∧ ∀ q : Nat, (q : Int) < j → (g q).toInt ≠ (g i).toInt
theorem ordG_0 {g : Nat → Int32} {n : Int} (h : n ≤ 0) : ordG g n := fun i hi => by omega
theorem ordG_cg {g g' : Nat → Int32} {n : Int} (e : ∀ i : Nat, (i : Int) < n → (g i).toInt = (g' i).toInt) : ordG g n ↔ ordG g' n :=
  ⟨fun h i hi => by rw [← e i hi]; exact ⟨(h i hi).1, fun j hj => by rw [← e j (by omega)]; exact (h i hi).2 j hj⟩, fun h i hi => by rw [e i hi]; exact ⟨(h i hi).1, fun j hj => by rw [e j (by omega)]; exact (h i hi).2 j hj⟩⟩
theorem ordP_all {g : Nat → Int32} {i : Nat} {j m : Int} (hj : j = i) (hm : m = i + 1) : ordP g i j ↔ ordG g m := by
  subst hj; subst hm
  constructor
  · rintro ⟨a, b, c⟩ k hk
    by_cases e : k = i
    · subst e; exact ⟨b, fun q hq => c q (by omega)⟩
    · exact a k (by omega)
  · intro h
    exact ⟨fun k hk => h k (by omega), (h i (by omega)).1, fun q hq => (h i (by omega)).2 q (by omega)⟩
theorem ordP_0 {g : Nat → Int32} {i : Nat} {n j : Int} (hn : n = i) (hj : j ≤ 0) : ordP g i j ↔ ordG g n ∧ (97 ≤ (g i).toInt ∧ (g i).toInt ≤ 122) := by
  subst hn
  exact ⟨fun h => ⟨h.1, h.2.1⟩, fun h => ⟨h.1, h.2, fun q hq => by omega⟩⟩
theorem ordP_s {g : Nat → Int32} {i k : Nat} {j m : Int} (hk : (k : Int) = j) (hm : m = j + 1) : ordP g i m ↔ ordP g i j ∧ (g k).toInt ≠ (g i).toInt := by
  subst hk; subst hm
  constructor
  · rintro ⟨a, b, c⟩; exact ⟨⟨a, b, fun q hq => c q (by omega)⟩, c k (by omega)⟩
  · rintro ⟨⟨a, b, c⟩, d⟩
    refine ⟨a, b, fun q hq => ?_⟩
    by_cases e : q = k
    · subst e; exact d
    · exact c q (by omega)
theorem ph_ {m : Nat} : ∀ {n : Nat} {g : Nat → Int}, (∀ i, i < n → 0 ≤ g i ∧ g i < m) → (∀ i, i < n → ∀ j, j < i → g j ≠ g i) → n ≤ m := by
  induction m with
  | zero =>
    intro n g h1 h2
    by_cases e : n = 0
    · omega
    · have := h1 0 (by omega); omega
  | succ m ih =>
    intro n g h1 h2
    by_cases e : ∃ k, k < n ∧ g k = m
    · obtain ⟨k, k1, k2⟩ := e
      have hne : ∀ i, i < n → i ≠ k → g i ≠ m := fun i hi hk he => by
        by_cases c : i < k
        · exact h2 k k1 i c (by omega)
        · exact h2 i hi k (by omega) (by omega)
      have := ih (n := n - 1) (g := fun i => g (if i < k then i else i + 1)) (fun i hi => by
        by_cases c : i < k
        · have a := h1 i (by omega); have b := hne i (by omega) (by omega); simp only [if_pos c]; omega
        · have a := h1 (i + 1) (by omega); have b := hne (i + 1) (by omega) (by omega); simp only [if_neg c]; omega) (fun i hi j hj => by
        by_cases c : i < k
        · simp only [if_pos c, if_pos (show j < k by omega)]; exact h2 i (by omega) j hj
        · by_cases d : j < k
          · simp only [if_neg c, if_pos d]; exact h2 (i + 1) (by omega) j (by omega)
          · simp only [if_neg c, if_neg d]; exact h2 (i + 1) (by omega) (j + 1) (by omega))
      omega
    · have := ih (n := n) (g := g) (fun i hi => by
        have a := h1 i hi
        have b : g i ≠ m := fun h => e ⟨i, hi, h⟩
        omega) h2
      omega
theorem ord_26 {g : Nat → Int32} {n : Int} (h : ordG g n) : n ≤ 26 := by
  have := ph_ (m := 26) (n := n.toNat) (g := fun i => (g i).toInt - 97) (fun i hi => by have := (h i (by omega)).1; omega) (fun i hi j hj => by have := (h i (by omega)).2 j hj; omega)
  omega
def plc (g : Nat → Int32) (n s x : Int) : Prop := (x = -1 ∧ ∀ j : Nat, (j : Int) < n → (g j).toInt ≠ s) ∨ ∃ p : Nat, x = p ∧ (p : Int) < n ∧ (g p).toInt = s ∧ ∀ j : Nat, j < p → (g j).toInt ≠ s
theorem ordG_n1 {g : Nat → Int32} {n : Int} {k : Nat} (hk : (k : Int) < n) (hs : ¬ (97 ≤ (g k).toInt ∧ (g k).toInt ≤ 122)) : ¬ ordG g n := fun h => hs (h k hk).1
theorem ordG_n2 {g : Nat → Int32} {n s x : Int} {k : Nat} (hp : plc g n s x) (hs : s = (g k).toInt) (hk : (k : Int) < n) (hx : x ≠ k) : ¬ ordG g n := by
  intro h
  rcases hp with ⟨a, b⟩ | ⟨p, a, b, c, d⟩
  · exact b k hk hs.symm
  · by_cases e : p < k
    · exact (h k hk).2 p e (by omega)
    · exact d k (by omega) hs.symm
theorem ordG_sp {g : Nat → Int32} {n s x m i : Int} {k : Nat} (h : ordG g i) (hi : (k : Int) = i) (hm : m = i + 1) (hl : 97 ≤ (g k).toInt ∧ (g k).toInt ≤ 122) (hp : plc g n s x) (hs : s = (g k).toInt) (hx : x = k) : ordG g m := by
  refine (ordP_all (i := k) (j := (k : Int)) rfl (by omega)).mp ⟨by rw [hi]; exact h, hl, fun q hq => ?_⟩
  rcases hp with ⟨a, b⟩ | ⟨p, a, b, c, d⟩
  · omega
  · rw [← hs]; exact d q (by omega)
/-! the answer NONE -/
theorem eq_n1 {y : Int32} (h : y = - nI 1) : y.toInt = -1 := by rw [h]; exact t_neg1
theorem ne_n1 {y : Int32} (h : ¬ y = - nI 1) : ¬ y.toInt = -1 := fun q => h (t_eq.mpr (by rw [q]; exact t_neg1.symm))
theorem t_sn1 {y : Int32} (h : -1 ≤ y.toInt) : (- nI 1 - y).toInt = -1 - y.toInt := by
  have h1 := t_rng y
  have h2 := t_neg1
  rw [t_subn (by rw [h2]; omega), h2]
