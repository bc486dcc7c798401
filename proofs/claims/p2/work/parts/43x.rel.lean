/-! class and reference, side by side -/
def RPd (f : cg_G) : Prop := (f 2 1).toInt = (f 206 3).toInt ∧ ∀ j : Nat, (j : Int) < (f 206 3).toInt → (f 3 j).toInt = (f 207 j).toInt
def REd (f : cg_G) : Prop := (∀ e c : Nat, e < 8 → c < 4 → f (22 + 13 * e) c = f 214 (4 * e + c)) ∧ ∀ e : Nat, e < 8 → f (20 + 13 * e) 3 = f 213 e
def REL (f : cg_G) : Prop := RPd f ∧ ((f 1 6).toInt = (f 206 5).toInt ∧ (f 1 7).toInt = (f 206 8).toInt) ∧ REd f ∧ WT f ∧ TE_ f ∧ JL (f 226) (f 227)
theorem RPd_fr {f g : cg_G} (h : RPd f) (a : g 2 1 = f 2 1) (b : g 3 = f 3) (c : g 206 3 = f 206 3) (d : g 207 = f 207) : RPd g := by
  unfold RPd; rw [a, b, c, d]; exact h
theorem RPd_z {f : cg_G} (a : (f 2 1).toInt = 0) (b : (f 206 3).toInt = 0) : RPd f := ⟨by omega, fun j hj => by omega⟩
theorem REd_fr {f g : cg_G} (h : REd f) (a : ∀ e : Nat, e < 8 → g (22 + 13 * e) = f (22 + 13 * e)) (b : ∀ e : Nat, e < 8 → g (20 + 13 * e) 3 = f (20 + 13 * e) 3) (c : g 214 = f 214) (d : g 213 = f 213) : REd g :=
  ⟨fun e q h1 h2 => by rw [a e h1, c]; exact h.1 e q h1 h2, fun e h1 => by rw [b e h1, d]; exact h.2 e h1⟩
theorem REL_same {f g : cg_G} (h : REL f) (ho : ∀ o, 1 ≤ o → o < 236 → o ≠ 206 → g o = f o) (hk : ∀ k, k ≠ 2 → g 206 k = f 206 k) : REL g := by
  obtain ⟨h1, ⟨h2, h3⟩, h4, h5, h6, h7⟩ := h
  refine ⟨RPd_fr h1 (by rw [ho 2 (by decide) (by decide) (by decide)]) (ho 3 (by decide) (by decide) (by decide)) (hk 3 (by decide)) (ho 207 (by decide) (by decide) (by decide)), ⟨?_, ?_⟩, REd_fr h4 (fun e he => ho _ (by omega) (by omega) (by omega)) (fun e he => by rw [ho _ (by omega) (by omega) (by omega)]) (ho 214 (by decide) (by decide) (by decide)) (ho 213 (by decide) (by decide) (by decide)), WT_fr h5 (hk 5 (by decide)) (ho 208 (by decide) (by decide) (by decide)) (ho 209 (by decide) (by decide) (by decide)), TE_fr h6 (by rw [hk 5 (by decide)]; omega) (hk 8 (by decide)) (ho 210 (by decide) (by decide) (by decide)), ?_⟩
  · rw [ho 1 (by decide) (by decide) (by decide), hk 5 (by decide)]; exact h2
  · rw [ho 1 (by decide) (by decide) (by decide), hk 8 (by decide)]; exact h3
  · rw [ho 226 (by decide) (by decide) (by decide), ho 227 (by decide) (by decide) (by decide)]; exact h7
theorem Q_inl {A : Int32 → Prop} {B : Nat → Prop} {x : Int32} (h : (∃ y : Int32, (.inl (some (.int x)) : cj_O) = .inl (some (.int y)) ∧ A y) ∨ ∃ k : Nat, (.inl (some (.int x)) : cj_O) = .inr k ∧ k < 3 ∧ B k) : A x := by
  rcases h with ⟨y, e, a⟩ | ⟨k, e, _⟩
  · cases e; exact a
  · cases e
theorem Q_inr {A : Int32 → Prop} {B : Nat → Prop} {q : Nat} (h : (∃ y : Int32, (.inr q : cj_O) = .inl (some (.int y)) ∧ A y) ∨ ∃ k : Nat, (.inr q : cj_O) = .inr k ∧ k < 3 ∧ B k) : B q := by
  rcases h with ⟨y, e, a⟩ | ⟨k, e, _, b⟩
  · cases e
  · cases e; exact b
theorem Q_val {A : Int32 → Prop} {B : Nat → Prop} {v : Option Value} (h : (∃ y : Int32, (.inl v : cj_O) = .inl (some (.int y)) ∧ A y) ∨ ∃ k : Nat, (.inl v : cj_O) = .inr k ∧ k < 3 ∧ B k) : ∃ x : Int32, v = some (.int x) := by
  rcases h with ⟨y, e, a⟩ | ⟨k, e, _⟩
  · cases e; exact ⟨y, rfl⟩
  · cases e
theorem s_1 : sh_ 1 = 0 := by decide +kernel
theorem s_190 : sh_ 206 = 7 := by decide +kernel
