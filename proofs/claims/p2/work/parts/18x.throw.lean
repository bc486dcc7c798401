/-! methods that may throw -/
def cX (m pc : Nat) (ls st : List Value) (L : Nat) (e : Nat × Nat) (P : Nat → Prop) (f0 f : cg_G) (Q : cj_O → cg_G → Prop) : Prop := ∃ o f' e', cj_res m pc ls st (cg_M L f e) = some (o, cg_M L f' e') ∧ cI L f' ∧ cF P f0 f' ∧ Q o f' ∧ e.1 ≤ e'.1 ∧ e'.1 ≤ e.1 + 1 ∧ e.2 ≤ e'.2 ∧ e'.2 ≤ e.2 + 6
def cEx (m : Nat) (as : List Value) (L : Nat) (e : Nat × Nat) (P : Nat → Prop) (f : cg_G) (Q : cj_O → cg_G → Prop) : Prop := ∃ o f' e', cj_ev m as (cg_M L f e) = some (o, cg_M L f' e') ∧ cI L f' ∧ cF P f f' ∧ Q o f' ∧ e.1 ≤ e'.1 ∧ e'.1 ≤ e.1 + 1 ∧ e.2 ≤ e'.2 ∧ e'.2 ≤ e.2 + 6
section
variable {m pc : Nat} {ls st : List Value} {L : Nat} {e : Nat × Nat} {P : Nat → Prop} {f0 f : cg_G} {Q : cj_O → cg_G → Prop}
theorem cEx_of {as : List Value} (h : cj_lay as (km_ m).2 = ls) (ht : cX m 0 ls [] L e P f f Q) : cEx m as L e P f Q := by
  subst h
  exact ht
theorem cX_go {pc' : Nat} {ls' st' : List Value} {f1 : cg_G} (h : cj_res m pc ls st (cg_M L f e) = cj_res m pc' ls' st' (cg_M L f1 e)) (ht : cX m pc' ls' st' L e P f0 f1 Q) : cX m pc ls st L e P f0 f Q := by
  unfold cX; rw [h]; exact ht
theorem cX_if {c : Prop} [Decidable c] {p1 p2 : Nat} {l1 l2 s1 s2 : List Value} {f1 f2 : cg_G} (h : cj_res m pc ls st (cg_M L f e) = if c then cj_res m p1 l1 s1 (cg_M L f1 e) else cj_res m p2 l2 s2 (cg_M L f2 e)) (h1 : c → cX m p1 l1 s1 L e P f0 f1 Q) (h2 : ¬ c → cX m p2 l2 s2 L e P f0 f2 Q) : cX m pc ls st L e P f0 f Q := by
  by_cases hc : c
  · unfold cX; rw [h, if_pos hc]; exact h1 hc
  · unfold cX; rw [h, if_neg hc]; exact h2 hc
theorem cX_ret {v : Option Value} {f1 : cg_G} (h : cj_res m pc ls st (cg_M L f e) = some (.inl v, cg_M L f1 e)) (hI : cI L f1) (hF : cF P f0 f1) (hQ : Q (.inl v) f1) : cX m pc ls st L e P f0 f Q := ⟨.inl v, f1, e, h, hI, hF, hQ, Nat.le_refl _, Nat.le_succ _, Nat.le_refl _, Nat.le_add_right _ _⟩
theorem cX_throw {a : Nat} {f1 : cg_G} (h : cj_res m pc ls st (cg_M L f e) = some (.inr a, cj_pay (cg_M L f1 e) 1 6)) (hI : cI L f1) (hF : cF P f0 f1) (hQ : Q (.inr a) f1) : cX m pc ls st L e P f0 f Q := ⟨.inr a, f1, (e.1 + 1, e.2 + 6), h, hI, hF, hQ, Nat.le_succ _, Nat.le_refl _, Nat.le_add_right _ _, Nat.le_refl _⟩
theorem cX_call {nx a : Nat} {ls' r as : List Value} {f1 : cg_G} {P' : Nat → Prop} {Q' : Option Value → cg_G → Prop} (h : cj_res m pc ls st (cg_M L f e) = cj_aft m pc nx ls' r (cj_ev a as (cg_M L f1 e))) (hc : cE a as L e P' f1 Q') (hF : cF P f0 f1) (hP : ∀ o, P' o → P o) (k : ∀ v f', cI L f' → cF P' f1 f' → cF P f0 f' → Q' v f' → cX m nx ls' (v.toList ++ r) L e P f0 f' Q) : cX m pc ls st L e P f0 f Q := by
  obtain ⟨v, f', h1, h2, h3, h4⟩ := hc
  unfold cX; rw [h, h1]
  exact k v f' h2 h3 (cF_tr hF h3 hP) h4
theorem cX_sw {x : Int32} {lo d : Nat} {l : List Nat} {ls' st' : List Value} {f1 : cg_G} (h : cj_res m pc ls st (cg_M L f e) = cj_res m (cj_sw x lo d l) ls' st' (cg_M L f1 e)) (ht : cX m (cj_sw x lo d l) ls' st' L e P f0 f1 Q) : cX m pc ls st L e P f0 f Q := by
  unfold cX; rw [h]; exact ht
end
/-- a switch's place -/
theorem sw_cases {x : Int32} {lo d : Nat} {l : List Nat} {A : Nat → Prop} (hd : (x.toInt < lo ∨ (lo : Int) + l.length ≤ x.toInt) → A d) (hl : ∀ i, i < l.length → x.toInt = lo + i → A (l.getD i d)) : A (cj_sw x lo d l) := by
  unfold cj_sw
  by_cases h : x.toInt < lo
  · rw [if_pos h]; exact hd (Or.inl h)
  · rw [if_neg h]
    by_cases h2 : (x.toInt - lo).toNat < l.length
    · exact hl _ h2 (by omega)
    · have e0 : l.getD (x.toInt - lo).toNat d = d := by
        rw [List.getD_eq_getElem?_getD, List.getElem?_eq_none (by omega)]; rfl
      rw [e0]; exact hd (Or.inr (by omega))
set_option maxRecDepth 100000 in
theorem one_0 {a : Nat} (h : sh_ a = 0) : a = 1 := (by decide +kernel : ∀ a, a < 237 → sh_ a = 0 → a = 1) a (sh_lt h (by decide)) h
set_option maxRecDepth 100000 in
theorem one_7 {a : Nat} (h : sh_ a = 7) : a = 206 := (by decide +kernel : ∀ a, a < 237 → sh_ a = 7 → a = 206) a (sh_lt h (by decide)) h
set_option maxRecDepth 100000 in
theorem rg_2 {a : Nat} (h : sh_ a = 2) : 20 ≤ a ∧ a + 12 < 124 := (by decide +kernel : ∀ a, a < 237 → sh_ a = 2 → 20 ≤ a ∧ a + 12 < 124) a (sh_lt h (by decide)) h
