/-! each instruction of each method is as the small machine has it -/
def cj_V1 (l : Launch) (mm pc : Nat) (i : cj_I) (nx : Nat) : Prop := (cj_pl i ∧ cj_Ok (kb_ mm) (ky_ mm).cls (ky_ mm).name (kq_ mm).1 (kq_ mm).2 i pc nx) ∨ (90 ≤ i.1 ∧ (cj_Ve mm (kb_ mm) i pc ∨ cj_Vt l mm (kb_ mm) (ky_ mm).cls (ky_ mm).name (kq_ mm).1 (kq_ mm).2 i pc)) ∨ (¬ cj_pl i ∧ i.1 < 90 ∧ nx = pc + 3 ∧ cj_Vc mm (kb_ mm) (ky_ mm).cls (ky_ mm).name (kq_ mm).1 (kq_ mm).2 i pc ∧ cj_Vx l mm (kb_ mm) (ky_ mm).cls (ky_ mm).name (kq_ mm).1 (kq_ mm).2 i pc) ∨ i.1 = 86
def cj_Va (l : Launch) (mm : Nat) : List (Nat × cj_I × Nat) → Prop
  | [] => True
  | e :: r => cj_V1 l mm e.1 e.2.1 e.2.2 ∧ cj_Va l mm r
theorem cj_Va_find {l : Launch} {mm : Nat} : ∀ (r : List (Nat × cj_I × Nat)), cj_Va l mm r → ∀ (pc : Nat) (i : cj_I) (nx : Nat), cj_find pc r = (i, nx) → cj_V1 l mm pc i nx := by
  intro r
  induction r with
  | nil =>
    intro _ pc i nx h
    cases h
    exact Or.inr (Or.inr (Or.inr rfl))
  | cons e r ih =>
    intro hv pc i nx h
    unfold cj_find at h
    by_cases he : e.1 = pc
    · rw [if_pos he] at h
      have h1 := hv.1
      rw [he, h] at h1
      exact h1
    · rw [if_neg he] at h
      exact ih hv.2 pc i nx h
theorem cj_Vm_of {l : Launch} {mm : Nat} {r : List (Nat × cj_I × Nat)} (hk : kc_ mm = r) (hv : cj_Va l mm r) : cj_Vm l mm := by
  intro pc i nx h
  unfold kd_ at h
  rw [hk] at h
  exact cj_Va_find r hv pc i nx h
