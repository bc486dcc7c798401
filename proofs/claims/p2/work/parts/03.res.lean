/-! the machine's answer, without fuel -/
theorem cj_run_mono {n : Nat} : ∀ {m pc : Nat} {ls st : List Value} {M : cj_M} {r : cj_O × cj_M} (k : Nat), cj_run n m pc ls st M = some r → cj_run (n + k) m pc ls st M = some r := by
  induction n with
  | zero => intro m pc ls st M r k h; simp [cj_run] at h
  | succ n ih =>
    intro m pc ls st M r k h
    rw [Nat.add_right_comm]
    unfold cj_run at h ⊢
    by_cases c1 : cj_pl (kd_ m pc).1
    · rw [if_pos c1] at h ⊢
      cases hs : cj_step (kd_ m pc).1 (kd_ m pc).2 ls st M with
      | none => rw [hs] at h; cases h
      | some f => rw [hs] at h; exact ih k h
    · rw [if_neg c1] at h ⊢
      by_cases c2 : 90 ≤ (kd_ m pc).1.1
      · rw [if_pos c2] at h ⊢
        exact h
      · rw [if_neg c2] at h ⊢
        by_cases c3 : cj_gq (kd_ m pc).1 m st M = true
        · rw [if_pos c3] at h ⊢
          cases hs : cj_run n (kd_ m pc).1.2.1 0 (cj_lay (st.take (kd_ m pc).1.2.2.1).reverse (km_ (kd_ m pc).1.2.1).2) [] M with
          | none => rw [hs] at h; cases h
          | some q =>
            rw [hs] at h
            rw [ih k hs]
            obtain ⟨o, M'⟩ := q
            cases o with
            | inl v => exact ih k h
            | inr j =>
              dsimp only at h ⊢
              cases hh : cj_hdl (kh_ m) pc j with
              | none => rw [hh] at h; cases h
              | some z => rw [hh] at h; exact ih k h
        · rw [if_neg c3] at h
          cases h
noncomputable def cj_res (m pc : Nat) (ls st : List Value) (M : cj_M) : Option (cj_O × cj_M) :=
  @dite _ (∃ r, ∃ n, cj_run n m pc ls st M = some r) (Classical.propDecidable _) (fun h => some (Classical.choose h)) (fun _ => none)
theorem cj_res_iff {m pc : Nat} {ls st : List Value} {M : cj_M} {r : cj_O × cj_M} : cj_res m pc ls st M = some r ↔ ∃ n, cj_run n m pc ls st M = some r := by
  unfold cj_res
  by_cases h : ∃ r, ∃ n, cj_run n m pc ls st M = some r
  · rw [dif_pos h]
    obtain ⟨n1, h1⟩ := Classical.choose_spec h
    constructor
    · intro e
      cases e
      exact ⟨n1, h1⟩
    · rintro ⟨n2, h2⟩
      have a1 := cj_run_mono n2 h1
      have a2 := cj_run_mono n1 h2
      rw [Nat.add_comm] at a2
      rw [a1] at a2
      exact a2
  · rw [dif_neg h]
    constructor
    · intro e; cases e
    · rintro ⟨n, hn⟩
      exact absurd ⟨r, n, hn⟩ h
/-- a call's answer -/
noncomputable def cj_ev (m : Nat) (as : List Value) (M : cj_M) : Option (cj_O × cj_M) := cj_res m 0 (cj_lay as (km_ m).2) [] M
noncomputable def cj_aft (m pc nx : Nat) (ls r : List Value) (q : Option (cj_O × cj_M)) : Option (cj_O × cj_M) := match q with
  | some (.inl v, M') => cj_res m nx ls (v.toList ++ r) M'
  | some (.inr k, M') => match cj_hdl (kh_ m) pc k with
    | some (pc', i) => cj_res m pc' (ls.set i (.retAddr 0)) [] M'
    | none => none
  | none => none
noncomputable def cj_go (m : Nat) (q : Option cj_F) : Option (cj_O × cj_M) := match q with
  | some f => cj_res m f.1 f.2.1 f.2.2.1 f.2.2.2
  | none => none
theorem cj_res_plain {m pc : Nat} {ls st : List Value} {M : cj_M} {i : cj_I} {nx : Nat} (hk : kd_ m pc = (i, nx)) (c1 : cj_pl i) : cj_res m pc ls st M = cj_go m (cj_step i nx ls st M) := by
  apply Option.ext
  intro r
  rw [cj_res_iff]
  constructor
  · rintro ⟨n, h⟩
    cases n with
    | zero => simp [cj_run] at h
    | succ n =>
      unfold cj_run at h
      rw [hk] at h
      rw [if_pos c1] at h
      dsimp only at h
      unfold cj_go
      cases hs : cj_step i nx ls st M with
      | none => rw [hs] at h; cases h
      | some f => rw [hs] at h; exact cj_res_iff.mpr ⟨n, h⟩
  · intro h
    unfold cj_go at h
    cases hs : cj_step i nx ls st M with
    | none => rw [hs] at h; cases h
    | some f =>
      rw [hs] at h
      obtain ⟨n, hn⟩ := cj_res_iff.mp h
      refine ⟨n + 1, ?_⟩
      unfold cj_run
      rw [hk, if_pos c1]
      dsimp only
      rw [hs]
      exact hn
theorem cj_res_end {m pc : Nat} {ls st : List Value} {M : cj_M} {i : cj_I} {nx : Nat} (hk : kd_ m pc = (i, nx)) (c2 : 90 ≤ i.1) : cj_res m pc ls st M = cj_end i st M := by
  have c1 : ¬ cj_pl i := by unfold cj_pl; omega
  apply Option.ext
  intro r
  rw [cj_res_iff]
  constructor
  · rintro ⟨n, h⟩
    cases n with
    | zero => simp [cj_run] at h
    | succ n =>
      unfold cj_run at h
      rw [hk, if_neg c1, if_pos c2] at h
      exact h
  · intro h
    refine ⟨1, ?_⟩
    unfold cj_run
    rw [hk, if_neg c1, if_pos c2]
    exact h
theorem cj_res_call {m pc : Nat} {ls st : List Value} {M : cj_M} {i : cj_I} {nx : Nat} (hk : kd_ m pc = (i, nx)) (c1 : i.1 = 80 ∨ i.1 = 81 ∨ i.1 = 82) (hg : cj_gq i m st M = true) : cj_res m pc ls st M = cj_aft m pc nx ls (st.drop i.2.2.1) (cj_ev i.2.1 (st.take i.2.2.1).reverse M) := by
  have c2 : ¬ cj_pl i := by unfold cj_pl; omega
  have c3 : ¬ 90 ≤ i.1 := by omega
  apply Option.ext
  intro r
  rw [cj_res_iff]
  constructor
  · rintro ⟨n, h⟩
    cases n with
    | zero => simp [cj_run] at h
    | succ n =>
      unfold cj_run at h
      rw [hk, if_neg c2, if_neg c3, if_pos hg] at h
      dsimp only at h
      cases hs : cj_run n i.2.1 0 (cj_lay (st.take i.2.2.1).reverse (km_ i.2.1).2) [] M with
      | none => rw [hs] at h; cases h
      | some q =>
        have he : cj_ev i.2.1 (st.take i.2.2.1).reverse M = some q := cj_res_iff.mpr ⟨n, hs⟩
        rw [he]
        rw [hs] at h
        obtain ⟨o, M'⟩ := q
        cases o with
        | inl v => exact cj_res_iff.mpr ⟨n, h⟩
        | inr j =>
          unfold cj_aft
          dsimp only at h ⊢
          cases hh : cj_hdl (kh_ m) pc j with
          | none => rw [hh] at h; cases h
          | some z => rw [hh] at h; exact cj_res_iff.mpr ⟨n, h⟩
  · intro h
    cases he : cj_ev i.2.1 (st.take i.2.2.1).reverse M with
    | none => rw [he] at h; cases h
    | some q =>
      rw [he] at h
      obtain ⟨n1, h1⟩ := cj_res_iff.mp he
      obtain ⟨o, M'⟩ := q
      cases o with
      | inl v =>
        obtain ⟨n2, h2⟩ := cj_res_iff.mp h
        refine ⟨n1 + n2 + 1, ?_⟩
        unfold cj_run
        rw [hk, if_neg c2, if_neg c3, if_pos hg]
        dsimp only
        rw [cj_run_mono n2 h1]
        dsimp only
        rw [Nat.add_comm n1 n2]
        exact cj_run_mono n1 h2
      | inr j =>
        unfold cj_aft at h
        dsimp only at h
        cases hh : cj_hdl (kh_ m) pc j with
        | none => rw [hh] at h; cases h
        | some z =>
          rw [hh] at h
          obtain ⟨n2, h2⟩ := cj_res_iff.mp h
          refine ⟨n1 + n2 + 1, ?_⟩
          unfold cj_run
          rw [hk, if_neg c2, if_neg c3, if_pos hg]
          dsimp only
          rw [cj_run_mono n2 h1]
          dsimp only
          rw [hh]
          dsimp only
          rw [Nat.add_comm n1 n2]
          exact cj_run_mono n1 h2
