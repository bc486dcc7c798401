/-! the first wrong place of a template's text, as a function -/
def fw (g : Nat → Int32) : Nat → Nat → Int → Int → Int → Int
  | 0, i, w, _, p => if 0 < w ∨ p ≠ 0 then (i : Int) else -1
  | r + 1, i, w, m, p =>
    if 0 < w then (if 48 ≤ (g i).toInt ∧ (g i).toInt ≤ 48 + w then fw g r (i + 1) 0 m p else i)
    else if (g i).toInt = 35 then (if m < 6 then fw g r (i + 1) 3 (m + 1) p else i)
    else if (g i).toInt = 64 then (if m < 6 then fw g r (i + 1) 7 (m + 1) p else i)
    else if (g i).toInt = 91 then (if p = 0 then fw g r (i + 1) 0 m 1 else i)
    else if (g i).toInt = 93 then (if p = 0 then i else fw g r (i + 1) 0 m 0)
    else if (97 ≤ (g i).toInt ∧ (g i).toInt ≤ 122) ∨ (g i).toInt = 32 then fw g r (i + 1) 0 m p else i
theorem fw_s {g : Nat → Int32} {r i : Nat} {w m p : Int} : fw g (r + 1) i w m p = (
    if 0 < w then (if 48 ≤ (g i).toInt ∧ (g i).toInt ≤ 48 + w then fw g r (i + 1) 0 m p else i)
    else if (g i).toInt = 35 then (if m < 6 then fw g r (i + 1) 3 (m + 1) p else i)
    else if (g i).toInt = 64 then (if m < 6 then fw g r (i + 1) 7 (m + 1) p else i)
    else if (g i).toInt = 91 then (if p = 0 then fw g r (i + 1) 0 m 1 else i)
    else if (g i).toInt = 93 then (if p = 0 then i else fw g r (i + 1) 0 m 0)
    else if (97 ≤ (g i).toInt ∧ (g i).toInt ≤ 122) ∨ (g i).toInt = 32 then fw g r (i + 1) 0 m p else i) := rfl
theorem fw_z {g : Nat → Int32} {i : Nat} {w m p : Int} : fw g 0 i w m p = if 0 < w ∨ p ≠ 0 then (i : Int) else -1 := rfl
def fwN (w m p s w' m' p' : Int) : Prop := (0 < w ∧ 48 ≤ s ∧ s ≤ 48 + w ∧ w' = 0 ∧ m' = m ∧ p' = p) ∨ (w ≤ 0 ∧ s = 35 ∧ m < 6 ∧ w' = 3 ∧ m' = m + 1 ∧ p' = p) ∨ (w ≤ 0 ∧ s = 64 ∧ m < 6 ∧ w' = 7 ∧ m' = m + 1 ∧ p' = p) ∨ (w ≤ 0 ∧ s = 91 ∧ p = 0 ∧ w' = 0 ∧ m' = m ∧ p' = 1) ∨ (w ≤ 0 ∧ s = 93 ∧ p ≠ 0 ∧ w' = 0 ∧ m' = m ∧ p' = 0) ∨ (w ≤ 0 ∧ ((97 ≤ s ∧ s ≤ 122) ∨ s = 32) ∧ w' = 0 ∧ m' = m ∧ p' = p)
def fwB (w m p s : Int) : Prop := (0 < w ∧ ¬ (48 ≤ s ∧ s ≤ 48 + w)) ∨ (w ≤ 0 ∧ (s = 35 ∨ s = 64) ∧ 6 ≤ m) ∨ (w ≤ 0 ∧ s = 91 ∧ p ≠ 0) ∨ (w ≤ 0 ∧ s = 93 ∧ p = 0) ∨ (w ≤ 0 ∧ s ≠ 35 ∧ s ≠ 64 ∧ s ≠ 91 ∧ s ≠ 93 ∧ ¬ (97 ≤ s ∧ s ≤ 122) ∧ s ≠ 32)
theorem fw_go {g : Nat → Int32} {r r' i i' : Nat} {w m p w' m' p' : Int} (hr : r = r' + 1) (hi : i' = i + 1) (h : fwN w m p (g i).toInt w' m' p') : fw g r i w m p = fw g r' i' w' m' p' := by
  subst hr; subst hi
  rw [fw_s]
  rcases h with ⟨a, b, c, d, e, q⟩ | ⟨a, b, c, d, e, q⟩ | ⟨a, b, c, d, e, q⟩ | ⟨a, b, c, d, e, q⟩ | ⟨a, b, c, d, e, q⟩ | ⟨a, b, d, e, q⟩ <;> subst d <;> subst e <;> subst q
  · rw [if_pos a, if_pos ⟨b, c⟩]
  · rw [if_neg (by omega), if_pos b, if_pos c]
  · rw [if_neg (by omega), if_neg (by omega), if_pos b, if_pos c]
  · rw [if_neg (by omega), if_neg (by omega), if_neg (by omega), if_pos b, if_pos c]
  · rw [if_neg (by omega), if_neg (by omega), if_neg (by omega), if_neg (by omega), if_pos b, if_neg c]
  · rw [if_neg (by omega), if_neg (by omega), if_neg (by omega), if_neg (by omega), if_neg (by omega), if_pos b]
theorem fw_bd {g : Nat → Int32} {r r' i : Nat} {w m p x : Int} (hr : r = r' + 1) (hx : x = i) (h : fwB w m p (g i).toInt) : x = fw g r i w m p := by
  subst hr; subst hx
  rw [fw_s]
  rcases h with ⟨a, b⟩ | ⟨a, b, c⟩ | ⟨a, b, c⟩ | ⟨a, b, c⟩ | ⟨a, b, c, d, e, q, z⟩
  · rw [if_pos a, if_neg b]
  · rw [if_neg (by omega)]
    by_cases h3 : (g i).toInt = 35
    · rw [if_pos h3, if_neg (by omega)]
    · rw [if_neg h3, if_pos (by omega), if_neg (by omega)]
  · rw [if_neg (by omega), if_neg (by omega), if_neg (by omega), if_pos b, if_neg c]
  · rw [if_neg (by omega), if_neg (by omega), if_neg (by omega), if_neg (by omega), if_pos b, if_pos c]
  · rw [if_neg (by omega), if_neg b, if_neg c, if_neg d, if_neg e, if_neg (by omega)]
theorem fw_en {g : Nat → Int32} {r i : Nat} {w m p x : Int} (hr : r = 0) (h : ((0 < w ∨ p ≠ 0) ∧ x = i) ∨ (w ≤ 0 ∧ p = 0 ∧ x = -1)) : x = fw g r i w m p := by
  subst hr
  rw [fw_z]
  rcases h with ⟨a, b⟩ | ⟨a, b, c⟩
  · rw [if_pos a, b]
  · rw [if_neg (by omega), c]
theorem fw_cg {g g' : Nat → Int32} : ∀ (r i : Nat) (w m p : Int), (∀ j, i ≤ j → j < i + r → (g j).toInt = (g' j).toInt) → fw g r i w m p = fw g' r i w m p
  | 0, i, w, m, p, _ => rfl
  | r + 1, i, w, m, p, h => by
    have h0 := h i (Nat.le_refl i) (by omega)
    have h1 : ∀ w' m' p', fw g r (i + 1) w' m' p' = fw g' r (i + 1) w' m' p' := fun w' m' p' => fw_cg r (i + 1) w' m' p' (fun j q1 q2 => h j (by omega) (by omega))
    rw [fw_s, fw_s]
    simp only [h0, h1]
/-- what a good text is -/
def mcS (S : Nat → Int) : Nat → Nat
  | 0 => 0
  | k + 1 => mcS S k + (if S k = 35 ∨ S k = 64 then 1 else 0)
theorem fw_wf {g : Nat → Int32} : ∀ (r i : Nat) (w m p : Int), m ≤ 6 ∧ w ≤ 7 → fw g r i w m p = -1 → (mcS (fun k => (g k).toInt) (i + r) : Int) + m ≤ 6 + (mcS (fun k => (g k).toInt) i : Nat) ∧ (0 < w → 1 ≤ r ∧ 48 ≤ (g i).toInt ∧ (g i).toInt ≤ 48 + w) ∧ (p ≠ 0 → ∃ j, i ≤ j ∧ j < i + r ∧ (g j).toInt = 93) ∧ ∀ k, i ≤ k → k < i + r → ((0 < w → i < k) → (g k).toInt = 35 → k + 1 < i + r ∧ 48 ≤ (g (k + 1)).toInt ∧ (g (k + 1)).toInt ≤ 51) ∧ ((0 < w → i < k) → (g k).toInt = 64 → k + 1 < i + r ∧ 48 ≤ (g (k + 1)).toInt ∧ (g (k + 1)).toInt ≤ 55) ∧ ((0 < w → i < k) → (g k).toInt = 91 → ∃ j, k < j ∧ j < i + r ∧ (g j).toInt = 93)
  | 0, i, w, m, p, hm, h => by
    rw [fw_z] at h
    by_cases c : 0 < w ∨ p ≠ 0
    · rw [if_pos c] at h; omega
    · refine ⟨by show ((mcS (fun k => (g k).toInt) i : Nat) : Int) + m ≤ _; omega, fun q => absurd (Or.inl q) c, fun q => absurd (Or.inr q) c, fun k q1 q2 => by omega⟩
  | r + 1, i, w, m, p, hm, h => by
    have hs : ∃ w' m' p', fwN w m p (g i).toInt w' m' p' := by
      by_cases b : fwB w m p (g i).toInt
      · have := fw_bd (g := g) (r := r + 1) (r' := r) (i := i) (x := (i : Int)) rfl rfl b; rw [h] at this; omega
      · unfold fwB at b
        by_cases c0 : 0 < w
        · exact ⟨0, m, p, Or.inl ⟨c0, by omega, by omega, rfl, rfl, rfl⟩⟩
        · by_cases c1 : (g i).toInt = 35
          · exact ⟨3, m + 1, p, Or.inr (Or.inl ⟨by omega, c1, by omega, rfl, rfl, rfl⟩)⟩
          · by_cases c2 : (g i).toInt = 64
            · exact ⟨7, m + 1, p, Or.inr (Or.inr (Or.inl ⟨by omega, c2, by omega, rfl, rfl, rfl⟩))⟩
            · by_cases c3 : (g i).toInt = 91
              · exact ⟨0, m, 1, Or.inr (Or.inr (Or.inr (Or.inl ⟨by omega, c3, by omega, rfl, rfl, rfl⟩)))⟩
              · by_cases c4 : (g i).toInt = 93
                · exact ⟨0, m, 0, Or.inr (Or.inr (Or.inr (Or.inr (Or.inl ⟨by omega, c4, by omega, rfl, rfl, rfl⟩))))⟩
                · exact ⟨0, m, p, Or.inr (Or.inr (Or.inr (Or.inr (Or.inr ⟨by omega, by omega, rfl, rfl, rfl⟩))))⟩
    obtain ⟨w', m', p', hn⟩ := hs
    have hm' : m' ≤ 6 ∧ w' ≤ 7 := by unfold fwN at hn; omega
    have hf : fw g r (i + 1) w' m' p' = -1 := by rw [← fw_go (r := r + 1) rfl rfl hn]; exact h
    obtain ⟨a1, a2, a3, a4⟩ := fw_wf r (i + 1) w' m' p' hm' hf
    have e1 : i + 1 + r = i + (r + 1) := by omega
    rw [e1] at a1 a3 a4
    have e2 : mcS (fun k => (g k).toInt) (i + 1) = mcS (fun k => (g k).toInt) i + (if (g i).toInt = 35 ∨ (g i).toInt = 64 then 1 else 0) := rfl
    rw [e2] at a1
    refine ⟨?_, ?_, ?_, ?_⟩
    · clear a3 a4
      unfold fwN at hn
      by_cases c : (g i).toInt = 35 ∨ (g i).toInt = 64
      · rw [if_pos c] at a1; omega
      · rw [if_neg c] at a1; omega
    · intro q; clear a3 a4; unfold fwN at hn; omega
    · intro q
      by_cases c : (g i).toInt = 93
      · exact ⟨i, by omega, by omega, c⟩
      · obtain ⟨j, j1, j2, j3⟩ := a3 (by clear a3 a4; unfold fwN at hn; omega)
        exact ⟨j, by omega, by omega, j3⟩
    · intro k q1 q2
      by_cases c : k = i
      · subst c
        refine ⟨fun z s => ?_, fun z s => ?_, fun z s => ?_⟩
        · have := a2 (by clear a3 a4; unfold fwN at hn; omega); clear a3 a4; unfold fwN at hn; omega
        · have := a2 (by clear a3 a4; unfold fwN at hn; omega); clear a3 a4; unfold fwN at hn; omega
        · obtain ⟨j, j1, j2, j3⟩ := a3 (by clear a3 a4; unfold fwN at hn; omega)
          exact ⟨j, by omega, by omega, j3⟩
      · obtain ⟨b1, b2, b3⟩ := a4 k (by omega) q2
        by_cases d : 0 < w' ∧ k = i + 1
        · have := a2 d.1
          have e : k = i + 1 := d.2
          subst e
          have hw : w' ≤ 7 := by clear a3 a4 b1 b2 b3; unfold fwN at hn; omega
          clear a3 a4 b1 b2 b3
          exact ⟨fun _ s => by omega, fun _ s => by omega, fun _ s => by omega⟩
        · have hk : 0 < w' → i + 1 < k := by clear a3 a4 b1 b2 b3; intro z; omega
          exact ⟨fun _ s => b1 hk s, fun _ s => b2 hk s, fun _ s => b3 hk s⟩
def wd (x : Int) : Int := if x = 0 then 0 else x - 48
theorem wd_c (x : Int) : (x = 0 ∧ wd x = 0) ∨ (x ≠ 0 ∧ wd x = x - 48) := by
  unfold wd
  by_cases h : x = 0
  · exact Or.inl ⟨h, if_pos h⟩
  · exact Or.inr ⟨h, if_neg h⟩
/-- a new template is one -/
theorem wf_new {f : cg_G} {g : Nat → Int32} {t n : Nat} (h : fw g n 0 0 0 0 = -1) (e : ∀ k, k < n → sg f t k = (g k).toInt) : wfT f t n := by
  obtain ⟨a1, -, -, a4⟩ := fw_wf n 0 0 0 0 ⟨by decide, by decide⟩ h
  rw [Nat.zero_add] at a1 a4
  have em : ∀ k, k ≤ n → mkc f t k = mcS (fun k => (g k).toInt) k := by
    intro k
    induction k with
    | zero => intro _; rfl
    | succ k ih =>
      intro hk
      show mkc f t k + (if sg f t k = 35 ∨ sg f t k = 64 then 1 else 0) = mcS (fun k => (g k).toInt) k + (if (g k).toInt = 35 ∨ (g k).toInt = 64 then 1 else 0)
      rw [ih (by omega), e k (by omega)]
  refine ⟨by rw [em n (Nat.le_refl n)]; have : mcS (fun k => (g k).toInt) 0 = 0 := rfl; omega, fun k hk => ?_⟩
  obtain ⟨b1, b2, b3⟩ := a4 k (Nat.zero_le k) hk
  refine ⟨fun z => ?_, fun z => ?_, fun z => ?_⟩
  · rw [e k hk] at z; have q := b1 (fun h => absurd h (by decide)) z; rw [e (k + 1) q.1]; exact q
  · rw [e k hk] at z; have q := b2 (fun h => absurd h (by decide)) z; rw [e (k + 1) q.1]; exact q
  · rw [e k hk] at z
    obtain ⟨j, j1, j2, j3⟩ := b3 (fun h => absurd h (by decide)) z
    exact ⟨j, j1, j2, by rw [e j j2]; exact j3⟩
theorem fw_in {g : Nat → Int32} {n : Int32} : fw g (n.toInt - (nI 0).toInt).toNat (nI 0).toNatClampNeg (nI 0).toInt (nI 0).toInt (nI 0).toInt = fw g n.toNatClampNeg 0 0 0 0 := by
  have h : (nI 0).toInt = 0 := nI_toInt (by decide)
  have h2 : (nI 0).toNatClampNeg = 0 := nI_clamp (by decide)
  rw [h, h2, Int.sub_zero]; rfl
theorem fw_in2 {g : Nat → Int32} {n : Int32} : fw g (n.toInt - (nI 0).toInt).toNat (nI 0).toNatClampNeg (wd (nI 0).toInt) (nI 0).toInt (nI 0).toInt = fw g n.toNatClampNeg 0 0 0 0 := by
  have h : (nI 0).toInt = 0 := nI_toInt (by decide)
  have h2 : (nI 0).toNatClampNeg = 0 := nI_clamp (by decide)
  rw [h, h2, Int.sub_zero]; rfl
set_option maxRecDepth 100000 in
theorem tx_ln {L e f a : Nat} (he : e < 8) (hf : f < 4) (ha : a = 20 + 13 * e + 1 + 4 + 2 * f + 1) : ln_ L a = 32 := by
  subst ha
  unfold ln_
  rw [if_neg (by omega)]
  exact (by decide +kernel : ∀ e, e < 8 → ∀ f, f < 4 → lnl_ (20 + 13 * e + 1 + 4 + 2 * f + 1) = 32) e he f hf
theorem lo_ln {L a : Nat} (h : sh_ a = 0) : ln_ L (a + 3 + 1) = 26 := by
  have h1 := one_0 h
  subst h1
  rfl
noncomputable def fwv (g : Nat → Int32) (n : Int32) : Int := Classical.choose (⟨_, rfl⟩ : ∃ x : Int, x = fw g n.toNatClampNeg 0 0 0 0)
theorem fwv_eq {g : Nat → Int32} {n : Int32} : fwv g n = fw g n.toNatClampNeg 0 0 0 0 := Classical.choose_spec (⟨_, rfl⟩ : ∃ x : Int, x = fw g n.toNatClampNeg 0 0 0 0)
