/-! what holds of the cells by their class at every call's end, and how a method comes to its end -/
def okv (L s a k : Nat) (x : Int32) : Prop := match s with
  | 0 => (k = 0 → 3 ≤ x.toInt ∧ x.toInt ≤ 30) ∧ (k = 6 → 0 ≤ x.toInt ∧ x.toInt ≤ 6) ∧ (k = 7 → 0 ≤ x.toInt ∧ x.toInt ≤ 8) ∧ (k = 8 → 0 ≤ x.toInt ∧ x.toInt ≤ 1) ∧ (k = 9 → x = nI 132 ∨ x = nI 169) ∧ (k = 10 → x = nI 132 ∨ x = nI 169)
  | 1 => k = 2 → 0 ≤ x.toInt ∧ x.toInt ≤ 106
  | 2 => (k = 2 → (∃ t : Nat, t < 6 ∧ x = nI (7 + 2 * t)) ∨ x = nI (a + 3)) ∧ (k = 3 → 0 ≤ x.toInt ∧ x.toInt ≤ 30)
  | 3 => k = 3 → 0 ≤ x.toInt ∧ x.toInt ≤ 848
  | 5 => (k = 4 → 0 ≤ x.toInt ∧ x.toInt ≤ 8) ∧ (k = 5 → 0 ≤ x.toInt ∧ x.toInt ≤ 848) ∧ (k = 7 → 0 ≤ x.toInt ∧ x.toInt ≤ 1)
  | 6 => k = 1 → 0 ≤ x.toInt ∧ x.toInt ≤ (ln_ L (a + 1) : Int)
  | 7 => (k = 0 → 6 ≤ x.toInt ∧ x.toInt ≤ 40) ∧ (k = 1 → 3 ≤ x.toInt ∧ x.toInt ≤ 30) ∧ (k = 2 → 0 ≤ x.toInt ∧ x.toInt ≤ 2) ∧ (k = 3 → 0 ≤ x.toInt ∧ x.toInt ≤ 32) ∧ (k = 5 → 0 ≤ x.toInt ∧ x.toInt ≤ 6) ∧ (k = 8 → 0 ≤ x.toInt ∧ x.toInt ≤ 8) ∧ (k = 14 → 0 ≤ x.toInt ∧ x.toInt ≤ 26) ∧ (k = 16 → 0 ≤ x.toInt ∧ x.toInt ≤ 256) ∧ (k = 18 → 0 ≤ x.toInt ∧ x.toInt ≤ 130) ∧ (k = 23 → -1 ≤ x.toInt ∧ x.toInt ≤ 1)
  | 100 => (a = 208 → 0 ≤ x.toInt ∧ x.toInt ≤ 32) ∧ (a = 210 → 0 ≤ x.toInt ∧ x.toInt ≤ 5) ∧ (a = 211 → 0 ≤ x.toInt ∧ x.toInt ≤ 32) ∧ (a = 213 → 0 ≤ x.toInt ∧ x.toInt ≤ 30) ∧ (a = 221 → 0 ≤ x.toInt ∧ x.toInt ≤ 8) ∧ (a = 225 → 0 ≤ x.toInt ∧ x.toInt ≤ 112) ∧ (a = 229 → 0 ≤ x.toInt ∧ x.toInt ≤ 900) ∧ (a = 230 → 0 ≤ x.toInt ∧ x.toInt ≤ 7) ∧ (a = 217 → 0 ≤ x.toInt ∧ x.toInt ≤ 240) ∧ (a = 218 → 0 ≤ x.toInt ∧ x.toInt ≤ 240) ∧ (a = 219 → -1 ≤ x.toInt ∧ x.toInt ≤ 78400 * ((901 - k : Nat) : Int)) ∧ (a = 231 → 0 ≤ x.toInt ∧ x.toInt ≤ 30) ∧ (a = 233 → 0 ≤ x.toInt ∧ x.toInt ≤ 2)
  | _ => True
theorem ok100 {L a k : Nat} {x : Int32} (h : a < 206) : okv L 100 a k x := ⟨fun q => by omega, fun q => by omega, fun q => by omega, fun q => by omega, fun q => by omega, fun q => by omega, fun q => by omega, fun q => by omega, fun q => by omega, fun q => by omega, fun q => by omega, fun q => by omega, fun q => by omega⟩
def cI (L : Nat) (f : cg_G) : Prop := ∀ a k, okv L (sh_ a) a k (f a k)
def cF (P : Nat → Prop) (f f' : cg_G) : Prop := ∀ o, ¬ P o → f' o = f o
theorem cg_up_s {f : cg_G} {a k : Nat} {x : Int32} : cg_up f a k x a k = x := by unfold cg_up; rw [cj_up_s, cj_up_s]
theorem cg_up_k {f : cg_G} {a k j : Nat} {x : Int32} (h : j ≠ k) : cg_up f a k x a j = f a j := by unfold cg_up; rw [cj_up_s, cj_up_n _ _ h]
theorem cg_up_o {f : cg_G} {a k o : Nat} {x : Int32} (h : o ≠ a) : cg_up f a k x o = f o := by unfold cg_up; rw [cj_up_n _ _ h]
theorem cI_up {L : Nat} {f : cg_G} {a k s : Nat} {x : Int32} (h : cI L f) (hs : sh_ a = s) (hx : okv L s a k x) : cI L (cg_up f a k x) := by
  intro o j
  by_cases ho : o = a
  · subst ho
    by_cases hj : j = k
    · subst hj; rw [cg_up_s, hs]; exact hx
    · rw [cg_up_k hj]; exact h o j
  · rw [cg_up_o ho]; exact h o j
theorem cI_at {L : Nat} {f : cg_G} {a s : Nat} (h : cI L f) (k : Nat) (hs : sh_ a = s) : okv L s a k (f a k) := by rw [← hs]; exact h a k
theorem cF_rf {P : Nat → Prop} {f : cg_G} : cF P f f := fun _ _ => rfl
theorem cF_up {P : Nat → Prop} {f0 f : cg_G} {a k : Nat} {x : Int32} (h : cF P f0 f) (ha : P a) : cF P f0 (cg_up f a k x) := fun o ho => by
  rw [cg_up_o (fun e => ho (by rw [e]; exact ha))]; exact h o ho
theorem cF_tr {P P' : Nat → Prop} {f g k : cg_G} (h : cF P f g) (h2 : cF P' g k) (hp : ∀ o, P' o → P o) : cF P f k := fun o ho => (h2 o (fun q => ho (hp o q))).trans (h o ho)
def cT (m pc : Nat) (ls st : List Value) (L : Nat) (e : Nat × Nat) (P : Nat → Prop) (f0 f : cg_G) (Q : Option Value → cg_G → Prop) : Prop := ∃ v f', cj_res m pc ls st (cg_M L f e) = some (.inl v, cg_M L f' e) ∧ cI L f' ∧ cF P f0 f' ∧ Q v f'
def cE (m : Nat) (as : List Value) (L : Nat) (e : Nat × Nat) (P : Nat → Prop) (f : cg_G) (Q : Option Value → cg_G → Prop) : Prop := ∃ v f', cj_ev m as (cg_M L f e) = some (.inl v, cg_M L f' e) ∧ cI L f' ∧ cF P f f' ∧ Q v f'
section
variable {m pc : Nat} {ls st : List Value} {L : Nat} {e : Nat × Nat} {P : Nat → Prop} {f0 f : cg_G} {Q : Option Value → cg_G → Prop}
theorem cE_of {as : List Value} (h : cj_lay as (km_ m).2 = ls) (ht : cT m 0 ls [] L e P f f Q) : cE m as L e P f Q := by
  subst h
  exact ht
theorem cT_go {pc' : Nat} {ls' st' : List Value} {f1 : cg_G} (h : cj_res m pc ls st (cg_M L f e) = cj_res m pc' ls' st' (cg_M L f1 e)) (ht : cT m pc' ls' st' L e P f0 f1 Q) : cT m pc ls st L e P f0 f Q := by
  unfold cT; rw [h]; exact ht
theorem cT_if {c : Prop} [Decidable c] {p1 p2 : Nat} {l1 l2 s1 s2 : List Value} {f1 f2 : cg_G} (h : cj_res m pc ls st (cg_M L f e) = if c then cj_res m p1 l1 s1 (cg_M L f1 e) else cj_res m p2 l2 s2 (cg_M L f2 e)) (h1 : c → cT m p1 l1 s1 L e P f0 f1 Q) (h2 : ¬ c → cT m p2 l2 s2 L e P f0 f2 Q) : cT m pc ls st L e P f0 f Q := by
  by_cases hc : c
  · unfold cT; rw [h, if_pos hc]; exact h1 hc
  · unfold cT; rw [h, if_neg hc]; exact h2 hc
theorem cT_ret {v : Option Value} {f1 : cg_G} (h : cj_res m pc ls st (cg_M L f e) = some (.inl v, cg_M L f1 e)) (hI : cI L f1) (hF : cF P f0 f1) (hQ : Q v f1) : cT m pc ls st L e P f0 f Q := ⟨v, f1, h, hI, hF, hQ⟩
theorem cT_call {nx a : Nat} {ls' r as : List Value} {f1 : cg_G} {P' : Nat → Prop} {Q' : Option Value → cg_G → Prop} (h : cj_res m pc ls st (cg_M L f e) = cj_aft m pc nx ls' r (cj_ev a as (cg_M L f1 e))) (hc : cE a as L e P' f1 Q') (hF : cF P f0 f1) (hP : ∀ o, P' o → P o) (k : ∀ v f', cI L f' → cF P' f1 f' → cF P f0 f' → Q' v f' → cT m nx ls' (v.toList ++ r) L e P f0 f' Q) : cT m pc ls st L e P f0 f Q := by
  obtain ⟨v, f', h1, h2, h3, h4⟩ := hc
  unfold cT; rw [h, h1]
  exact k v f' h2 h3 (cF_tr hF h3 hP) h4
theorem cT_sw {x : Int32} {lo d : Nat} {l : List Nat} {ls' st' : List Value} {f1 : cg_G} (h : cj_res m pc ls st (cg_M L f e) = cj_res m (cj_sw x lo d l) ls' st' (cg_M L f1 e)) (ht : cT m (cj_sw x lo d l) ls' st' L e P f0 f1 Q) : cT m pc ls st L e P f0 f Q := by
  unfold cT; rw [h]; exact ht
end
/-! arithmetic, as integers -/
theorem t_rng (x : Int32) : -2147483648 ≤ x.toInt ∧ x.toInt < 2147483648 := ⟨Int32.le_toInt x, Int32.toInt_lt x⟩
theorem t_bm (z : Int) : ∃ k : Int, z.bmod 4294967296 = z + 4294967296 * k := by
  refine ⟨-((z - z.bmod 4294967296) / 4294967296), ?_⟩
  have h : (4294967296 : Int) ∣ z - z.bmod 4294967296 := by
    have := Int.bmod_emod (x := z) (m := 4294967296)
    omega
  omega
theorem t_add (x y : Int32) : ∃ k : Int, (x + y).toInt = x.toInt + y.toInt + 4294967296 * k ∧ -2147483648 ≤ (x + y).toInt ∧ (x + y).toInt < 2147483648 := by
  obtain ⟨k, hk⟩ := t_bm (x.toInt + y.toInt)
  exact ⟨k, by rw [Int32.toInt_add]; exact hk, (t_rng _).1, (t_rng _).2⟩
theorem t_sub (x y : Int32) : ∃ k : Int, (x - y).toInt = x.toInt - y.toInt + 4294967296 * k ∧ -2147483648 ≤ (x - y).toInt ∧ (x - y).toInt < 2147483648 := by
  obtain ⟨k, hk⟩ := t_bm (x.toInt - y.toInt)
  exact ⟨k, by rw [Int32.toInt_sub]; exact hk, (t_rng _).1, (t_rng _).2⟩
theorem t_mul (x y : Int32) : ∃ k : Int, (x * y).toInt = x.toInt * y.toInt + 4294967296 * k ∧ -2147483648 ≤ (x * y).toInt ∧ (x * y).toInt < 2147483648 := by
  obtain ⟨k, hk⟩ := t_bm (x.toInt * y.toInt)
  exact ⟨k, by rw [Int32.toInt_mul]; exact hk, (t_rng _).1, (t_rng _).2⟩
theorem t_sq (x : Int32) : 0 ≤ x.toInt → x.toInt ≤ 280 → 0 ≤ (x * x).toInt ∧ (x * x).toInt ≤ 78400 := by
  intro h1 h2
  have h3 : x.toInt * x.toInt ≤ 280 * 280 := Int.mul_le_mul h2 h2 h1 (by decide)
  have h4 : 0 ≤ x.toInt * x.toInt := Int.mul_nonneg h1 h1
  obtain ⟨k, hk, h5, h6⟩ := t_mul x x
  omega
theorem t_upc {f : cg_G} {a K k : Nat} {x : Int32} : (k = K ∧ (cg_up f a K x a k).toInt = x.toInt) ∨ (k ≠ K ∧ (cg_up f a K x a k).toInt = (f a k).toInt) := by
  by_cases h : k = K
  · subst h; exact Or.inl ⟨rfl, by rw [cg_up_s]⟩
  · exact Or.inr ⟨h, by rw [cg_up_k h]⟩
theorem t_neg1 : (- nI 1).toInt = -1 := by decide
theorem t_0 : (0 : Int32).toInt = 0 := by decide
theorem t_1 : (1 : Int32).toInt = 1 := by decide
theorem t_lt {x y : Int32} : x < y ↔ x.toInt < y.toInt := Int32.lt_iff_toInt_lt
theorem t_le {x y : Int32} : x ≤ y ↔ x.toInt ≤ y.toInt := Int32.le_iff_toInt_le
theorem t_eq {x y : Int32} : x = y ↔ x.toInt = y.toInt := Int32.toInt_inj.symm
theorem t_cl (x : Int32) : x.toNatClampNeg = x.toInt.toNat := rfl
theorem t_in {j : Int32} {n : Nat} : cg_in j n ↔ 0 ≤ j.toInt ∧ j.toInt < (n : Int) := by
  unfold cg_in
  rw [t_lt, t_cl, t_0]
  omega
