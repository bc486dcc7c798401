/-! the law's helpers: what they answer, by what the class did -/
theorem w_unit {L : Nat} {f : cg_G} {e : Nat × Nat} {a0 a3 : Nat} {x1 : Int32} {x2 : Int32} {P : Nat → Prop} {Q : cj_O → cg_G → Prop} (s0 : sh_ a0 = 0) (so : a3 = 236) (hc : cEx 105 [.ref a0, .int x1, .int x2] L e P f Q) (hq : ∀ k f', Q (.inr k) f' → k = 0 ∨ k = 1) (hr : ∀ v f', Q (.inl v) f' → ∃ x : Int32, v = some (.int x)) : ∃ (k : Int32) (f' : cg_G) (e' : Nat × Nat), cj_ev 135 [.ref a0, .int x1, .int x2, .ref a3] (cg_M L f e) = some (.inl (some (.int k)), cg_M L f' e') ∧ cI L f' ∧ cF (fun o => P o ∨ o = 236) f f' ∧ e'.1 ≤ e.1 + 1 ∧ e'.2 ≤ e.2 + 6 ∧ ((∃ (x : Int32) (f1 : cg_G), k = nI 0 ∧ f' = cg_up f1 236 0 x ∧ Q (.inl (some (.int x))) f1) ∨ (∃ kk : Nat, Q (.inr kk) f' ∧ ((kk = 0 ∧ k = (nI 1)) ∨ (kk = 1 ∧ k = (nI 2))))) := by
  subst so
  obtain ⟨q, f1, e1, h1, h2, h3, h4, h5, h6, h7, h8⟩ := hc
  have hs : sh_ 236 = 102 := by decide +kernel
  have hn : ln_ L 236 = 1 := rfl
  have hj : cg_in (nI 0) (ln_ L 236) := by rw [hn, t_in, nI_toInt (by decide)]; decide
  have hl : cj_ev 135 [.ref a0, .int x1, .int x2, .ref 236] (cg_M L f e) = cj_res 135 0 [.ref a0, .int x1, .int x2, .ref 236, .retAddr 0] [] (cg_M L f e) := rfl
  rw [hl, b_W_unit_0 s0, h1]
  cases q with
  | inl v =>
    obtain ⟨x, rfl⟩ := hr v f1 h4
    refine ⟨nI 0, cg_up f1 236 0 x, e1, ?_, cI_up h2 hs trivial, fun o ho => ?_, h6, h8, Or.inl ⟨x, f1, rfl, rfl, h4⟩⟩
    · show cj_res 135 8 [.ref a0, .int x1, .int x2, .ref 236, .retAddr 0] [.int x, .int (nI 0), .ref 236] (cg_M L f1 e1) = _
      rw [b_W_unit_8 hs hj, b_W_unit_21]
      rfl
    · rw [cg_up_o (fun q => ho (Or.inr q))]; exact h3 o (fun q => ho (Or.inl q))
  | inr kk =>
    rcases hq kk f1 h4 with rfl | rfl
    · exact ⟨(nI 1), f1, e1, b_W_unit_15, h2, fun o ho => h3 o (fun q => ho (Or.inl q)), h6, h8, Or.inr ⟨0, h4, (Or.inl ⟨rfl, rfl⟩)⟩⟩
    · exact ⟨(nI 2), f1, e1, b_W_unit_19, h2, fun o ho => h3 o (fun q => ho (Or.inl q)), h6, h8, Or.inr ⟨1, h4, (Or.inr ⟨rfl, rfl⟩)⟩⟩
theorem w_template {L : Nat} {f : cg_G} {e : Nat × Nat} {a0 a1 : Nat}  {P : Nat → Prop} {Q : cj_O → cg_G → Prop} (s0 : sh_ a0 = 0) (so : a1 = 236) (hc : cEx 128 [.ref a0] L e P f Q) (hq : ∀ k f', Q (.inr k) f' → k = 0) (hr : ∀ v f', Q (.inl v) f' → ∃ x : Int32, v = some (.int x)) : ∃ (k : Int32) (f' : cg_G) (e' : Nat × Nat), cj_ev 141 [.ref a0, .ref a1] (cg_M L f e) = some (.inl (some (.int k)), cg_M L f' e') ∧ cI L f' ∧ cF (fun o => P o ∨ o = 236) f f' ∧ e'.1 ≤ e.1 + 1 ∧ e'.2 ≤ e.2 + 6 ∧ ((∃ (x : Int32) (f1 : cg_G), k = nI 0 ∧ f' = cg_up f1 236 0 x ∧ Q (.inl (some (.int x))) f1) ∨ (∃ kk : Nat, Q (.inr kk) f' ∧ ((kk = 0 ∧ k = (nI 1))))) := by
  subst so
  obtain ⟨q, f1, e1, h1, h2, h3, h4, h5, h6, h7, h8⟩ := hc
  have hs : sh_ 236 = 102 := by decide +kernel
  have hn : ln_ L 236 = 1 := rfl
  have hj : cg_in (nI 0) (ln_ L 236) := by rw [hn, t_in, nI_toInt (by decide)]; decide
  have hl : cj_ev 141 [.ref a0, .ref 236] (cg_M L f e) = cj_res 141 0 [.ref a0, .ref 236, .retAddr 0] [] (cg_M L f e) := rfl
  rw [hl, b_W_template_0 s0, h1]
  cases q with
  | inl v =>
    obtain ⟨x, rfl⟩ := hr v f1 h4
    refine ⟨nI 0, cg_up f1 236 0 x, e1, ?_, cI_up h2 hs trivial, fun o ho => ?_, h6, h8, Or.inl ⟨x, f1, rfl, rfl, h4⟩⟩
    · show cj_res 141 6 [.ref a0, .ref 236, .retAddr 0] [.int x, .int (nI 0), .ref 236] (cg_M L f1 e1) = _
      rw [b_W_template_6 hs hj, b_W_template_14]
      rfl
    · rw [cg_up_o (fun q => ho (Or.inr q))]; exact h3 o (fun q => ho (Or.inl q))
  | inr kk =>
    rcases hq kk f1 h4 with rfl
    · exact ⟨(nI 1), f1, e1, b_W_template_12, h2, fun o ho => h3 o (fun q => ho (Or.inl q)), h6, h8, Or.inr ⟨0, h4, ⟨rfl, rfl⟩⟩⟩
theorem w_entry {L : Nat} {f : cg_G} {e : Nat × Nat} {a0 a2 : Nat} {x1 : Int32} {P : Nat → Prop} {Q : cj_O → cg_G → Prop} (s0 : sh_ a0 = 0) (so : a2 = 236) (hc : cEx 61 [.ref a0, .int x1] L e P f Q) (hq : ∀ k f', Q (.inr k) f' → k = 2 ∨ k = 0) (hr : ∀ v f', Q (.inl v) f' → ∃ x : Int32, v = some (.int x)) : ∃ (k : Int32) (f' : cg_G) (e' : Nat × Nat), cj_ev 113 [.ref a0, .int x1, .ref a2] (cg_M L f e) = some (.inl (some (.int k)), cg_M L f' e') ∧ cI L f' ∧ cF (fun o => P o ∨ o = 236) f f' ∧ e'.1 ≤ e.1 + 1 ∧ e'.2 ≤ e.2 + 6 ∧ ((∃ (x : Int32) (f1 : cg_G), k = nI 0 ∧ f' = cg_up f1 236 0 x ∧ Q (.inl (some (.int x))) f1) ∨ (∃ kk : Nat, Q (.inr kk) f' ∧ ((kk = 2 ∧ k = (nI 1)) ∨ (kk = 0 ∧ k = (nI 2))))) := by
  subst so
  obtain ⟨q, f1, e1, h1, h2, h3, h4, h5, h6, h7, h8⟩ := hc
  have hs : sh_ 236 = 102 := by decide +kernel
  have hn : ln_ L 236 = 1 := rfl
  have hj : cg_in (nI 0) (ln_ L 236) := by rw [hn, t_in, nI_toInt (by decide)]; decide
  have hl : cj_ev 113 [.ref a0, .int x1, .ref 236] (cg_M L f e) = cj_res 113 0 [.ref a0, .int x1, .ref 236, .retAddr 0] [] (cg_M L f e) := rfl
  rw [hl, b_W_entry_0 s0, h1]
  cases q with
  | inl v =>
    obtain ⟨x, rfl⟩ := hr v f1 h4
    refine ⟨nI 0, cg_up f1 236 0 x, e1, ?_, cI_up h2 hs trivial, fun o ho => ?_, h6, h8, Or.inl ⟨x, f1, rfl, rfl, h4⟩⟩
    · show cj_res 113 7 [.ref a0, .int x1, .ref 236, .retAddr 0] [.int x, .int (nI 0), .ref 236] (cg_M L f1 e1) = _
      rw [b_W_entry_7 hs hj, b_W_entry_18]
      rfl
    · rw [cg_up_o (fun q => ho (Or.inr q))]; exact h3 o (fun q => ho (Or.inl q))
  | inr kk =>
    rcases hq kk f1 h4 with rfl | rfl
    · exact ⟨(nI 1), f1, e1, b_W_entry_13, h2, fun o ho => h3 o (fun q => ho (Or.inl q)), h6, h8, Or.inr ⟨2, h4, (Or.inl ⟨rfl, rfl⟩)⟩⟩
    · exact ⟨(nI 2), f1, e1, b_W_entry_16, h2, fun o ho => h3 o (fun q => ho (Or.inl q)), h6, h8, Or.inr ⟨0, h4, (Or.inr ⟨rfl, rfl⟩)⟩⟩
theorem w_field {L : Nat} {f : cg_G} {e : Nat × Nat} {a0 a3 : Nat} {x1 : Int32} {x2 : Int32} {P : Nat → Prop} {Q : cj_O → cg_G → Prop} (s0 : sh_ a0 = 0) (so : a3 = 236) (hc : cEx 126 [.ref a0, .int x1, .int x2] L e P f Q) (hq : ∀ k f', Q (.inr k) f' → k = 2 ∨ k = 1) (hr : ∀ v f', Q (.inl v) f' → ∃ x : Int32, v = some (.int x)) : ∃ (k : Int32) (f' : cg_G) (e' : Nat × Nat), cj_ev 139 [.ref a0, .int x1, .int x2, .ref a3] (cg_M L f e) = some (.inl (some (.int k)), cg_M L f' e') ∧ cI L f' ∧ cF (fun o => P o ∨ o = 236) f f' ∧ e'.1 ≤ e.1 + 1 ∧ e'.2 ≤ e.2 + 6 ∧ ((∃ (x : Int32) (f1 : cg_G), k = nI 0 ∧ f' = cg_up f1 236 0 x ∧ Q (.inl (some (.int x))) f1) ∨ (∃ kk : Nat, Q (.inr kk) f' ∧ ((kk = 2 ∧ k = (nI 1)) ∨ (kk = 1 ∧ k = (nI 2))))) := by
  subst so
  obtain ⟨q, f1, e1, h1, h2, h3, h4, h5, h6, h7, h8⟩ := hc
  have hs : sh_ 236 = 102 := by decide +kernel
  have hn : ln_ L 236 = 1 := rfl
  have hj : cg_in (nI 0) (ln_ L 236) := by rw [hn, t_in, nI_toInt (by decide)]; decide
  have hl : cj_ev 139 [.ref a0, .int x1, .int x2, .ref 236] (cg_M L f e) = cj_res 139 0 [.ref a0, .int x1, .int x2, .ref 236, .retAddr 0] [] (cg_M L f e) := rfl
  rw [hl, b_W_field_0 s0, h1]
  cases q with
  | inl v =>
    obtain ⟨x, rfl⟩ := hr v f1 h4
    refine ⟨nI 0, cg_up f1 236 0 x, e1, ?_, cI_up h2 hs trivial, fun o ho => ?_, h6, h8, Or.inl ⟨x, f1, rfl, rfl, h4⟩⟩
    · show cj_res 139 8 [.ref a0, .int x1, .int x2, .ref 236, .retAddr 0] [.int x, .int (nI 0), .ref 236] (cg_M L f1 e1) = _
      rw [b_W_field_8 hs hj, b_W_field_21]
      rfl
    · rw [cg_up_o (fun q => ho (Or.inr q))]; exact h3 o (fun q => ho (Or.inl q))
  | inr kk =>
    rcases hq kk f1 h4 with rfl | rfl
    · exact ⟨(nI 1), f1, e1, b_W_field_15, h2, fun o ho => h3 o (fun q => ho (Or.inl q)), h6, h8, Or.inr ⟨2, h4, (Or.inl ⟨rfl, rfl⟩)⟩⟩
    · exact ⟨(nI 2), f1, e1, b_W_field_19, h2, fun o ho => h3 o (fun q => ho (Or.inl q)), h6, h8, Or.inr ⟨1, h4, (Or.inr ⟨rfl, rfl⟩)⟩⟩
theorem w_claim {L : Nat} {f : cg_G} {e : Nat × Nat} {a0 a4 : Nat} {x1 : Int32} {x2 : Int32} {x3 : Int32} {P : Nat → Prop} {Q : cj_O → cg_G → Prop} (s0 : sh_ a0 = 0) (so : a4 = 236) (hc : cEx 59 [.ref a0, .int x1, .int x2, .int x3] L e P f Q) (hq : ∀ k f', Q (.inr k) f' → k = 2 ∨ k = 1) (hr : ∀ v f', Q (.inl v) f' → ∃ x : Int32, v = some (.int x)) : ∃ (k : Int32) (f' : cg_G) (e' : Nat × Nat), cj_ev 111 [.ref a0, .int x1, .int x2, .int x3, .ref a4] (cg_M L f e) = some (.inl (some (.int k)), cg_M L f' e') ∧ cI L f' ∧ cF (fun o => P o ∨ o = 236) f f' ∧ e'.1 ≤ e.1 + 1 ∧ e'.2 ≤ e.2 + 6 ∧ ((∃ (x : Int32) (f1 : cg_G), k = nI 0 ∧ f' = cg_up f1 236 0 x ∧ Q (.inl (some (.int x))) f1) ∨ (∃ kk : Nat, Q (.inr kk) f' ∧ ((kk = 2 ∧ k = (nI 1)) ∨ (kk = 1 ∧ k = (nI 2))))) := by
  subst so
  obtain ⟨q, f1, e1, h1, h2, h3, h4, h5, h6, h7, h8⟩ := hc
  have hs : sh_ 236 = 102 := by decide +kernel
  have hn : ln_ L 236 = 1 := rfl
  have hj : cg_in (nI 0) (ln_ L 236) := by rw [hn, t_in, nI_toInt (by decide)]; decide
  have hl : cj_ev 111 [.ref a0, .int x1, .int x2, .int x3, .ref 236] (cg_M L f e) = cj_res 111 0 [.ref a0, .int x1, .int x2, .int x3, .ref 236, .retAddr 0] [] (cg_M L f e) := rfl
  rw [hl, b_W_claim_0 s0, h1]
  cases q with
  | inl v =>
    obtain ⟨x, rfl⟩ := hr v f1 h4
    refine ⟨nI 0, cg_up f1 236 0 x, e1, ?_, cI_up h2 hs trivial, fun o ho => ?_, h6, h8, Or.inl ⟨x, f1, rfl, rfl, h4⟩⟩
    · show cj_res 111 10 [.ref a0, .int x1, .int x2, .int x3, .ref 236, .retAddr 0] [.int x, .int (nI 0), .ref 236] (cg_M L f1 e1) = _
      rw [b_W_claim_10 hs hj, b_W_claim_23]
      rfl
    · rw [cg_up_o (fun q => ho (Or.inr q))]; exact h3 o (fun q => ho (Or.inl q))
  | inr kk =>
    rcases hq kk f1 h4 with rfl | rfl
    · exact ⟨(nI 1), f1, e1, b_W_claim_17, h2, fun o ho => h3 o (fun q => ho (Or.inl q)), h6, h8, Or.inr ⟨2, h4, (Or.inl ⟨rfl, rfl⟩)⟩⟩
    · exact ⟨(nI 2), f1, e1, b_W_claim_21, h2, fun o ho => h3 o (fun q => ho (Or.inl q)), h6, h8, Or.inr ⟨1, h4, (Or.inr ⟨rfl, rfl⟩)⟩⟩
theorem w_picture {L : Nat} {f : cg_G} {e : Nat × Nat} {a0 a3 : Nat} {x1 : Int32} {x2 : Int32} {P : Nat → Prop} {Q : cj_O → cg_G → Prop} (s0 : sh_ a0 = 0) (so : a3 = 236) (hc : cEx 67 [.ref a0, .int x1, .int x2] L e P f Q) (hq : ∀ k f', Q (.inr k) f' → k = 2 ∨ k = 1) (hr : ∀ v f', Q (.inl v) f' → ∃ x : Int32, v = some (.int x)) : ∃ (k : Int32) (f' : cg_G) (e' : Nat × Nat), cj_ev 114 [.ref a0, .int x1, .int x2, .ref a3] (cg_M L f e) = some (.inl (some (.int k)), cg_M L f' e') ∧ cI L f' ∧ cF (fun o => P o ∨ o = 236) f f' ∧ e'.1 ≤ e.1 + 1 ∧ e'.2 ≤ e.2 + 6 ∧ ((∃ (x : Int32) (f1 : cg_G), k = nI 0 ∧ f' = cg_up f1 236 0 x ∧ Q (.inl (some (.int x))) f1) ∨ (∃ kk : Nat, Q (.inr kk) f' ∧ ((kk = 2 ∧ k = (nI 1)) ∨ (kk = 1 ∧ k = (nI 2))))) := by
  subst so
  obtain ⟨q, f1, e1, h1, h2, h3, h4, h5, h6, h7, h8⟩ := hc
  have hs : sh_ 236 = 102 := by decide +kernel
  have hn : ln_ L 236 = 1 := rfl
  have hj : cg_in (nI 0) (ln_ L 236) := by rw [hn, t_in, nI_toInt (by decide)]; decide
  have hl : cj_ev 114 [.ref a0, .int x1, .int x2, .ref 236] (cg_M L f e) = cj_res 114 0 [.ref a0, .int x1, .int x2, .ref 236, .retAddr 0] [] (cg_M L f e) := rfl
  rw [hl, b_W_picture_0 s0, h1]
  cases q with
  | inl v =>
    obtain ⟨x, rfl⟩ := hr v f1 h4
    refine ⟨nI 0, cg_up f1 236 0 x, e1, ?_, cI_up h2 hs trivial, fun o ho => ?_, h6, h8, Or.inl ⟨x, f1, rfl, rfl, h4⟩⟩
    · show cj_res 114 8 [.ref a0, .int x1, .int x2, .ref 236, .retAddr 0] [.int x, .int (nI 0), .ref 236] (cg_M L f1 e1) = _
      rw [b_W_picture_8 hs hj, b_W_picture_21]
      rfl
    · rw [cg_up_o (fun q => ho (Or.inr q))]; exact h3 o (fun q => ho (Or.inl q))
  | inr kk =>
    rcases hq kk f1 h4 with rfl | rfl
    · exact ⟨(nI 1), f1, e1, b_W_picture_15, h2, fun o ho => h3 o (fun q => ho (Or.inl q)), h6, h8, Or.inr ⟨2, h4, (Or.inl ⟨rfl, rfl⟩)⟩⟩
    · exact ⟨(nI 2), f1, e1, b_W_picture_19, h2, fun o ho => h3 o (fun q => ho (Or.inl q)), h6, h8, Or.inr ⟨1, h4, (Or.inr ⟨rfl, rfl⟩)⟩⟩
theorem w_order {L : Nat} {f : cg_G} {e : Nat × Nat} {a0 a1 : Nat}  {P : Nat → Prop} {Q : cj_O → cg_G → Prop} (s0 : sh_ a0 = 0) (so : a1 = 236) (hc : cEx 127 [.ref a0] L e P f Q) (hq : ∀ k f', Q (.inr k) f' → k = 1) (hr : ∀ v f', Q (.inl v) f' → ∃ x : Int32, v = some (.int x)) : ∃ (k : Int32) (f' : cg_G) (e' : Nat × Nat), cj_ev 140 [.ref a0, .ref a1] (cg_M L f e) = some (.inl (some (.int k)), cg_M L f' e') ∧ cI L f' ∧ cF (fun o => P o ∨ o = 236) f f' ∧ e'.1 ≤ e.1 + 1 ∧ e'.2 ≤ e.2 + 6 ∧ ((∃ (x : Int32) (f1 : cg_G), k = nI 0 ∧ f' = cg_up f1 236 0 x ∧ Q (.inl (some (.int x))) f1) ∨ (∃ kk : Nat, Q (.inr kk) f' ∧ ((kk = 1 ∧ k = (nI 1))))) := by
  subst so
  obtain ⟨q, f1, e1, h1, h2, h3, h4, h5, h6, h7, h8⟩ := hc
  have hs : sh_ 236 = 102 := by decide +kernel
  have hn : ln_ L 236 = 1 := rfl
  have hj : cg_in (nI 0) (ln_ L 236) := by rw [hn, t_in, nI_toInt (by decide)]; decide
  have hl : cj_ev 140 [.ref a0, .ref 236] (cg_M L f e) = cj_res 140 0 [.ref a0, .ref 236, .retAddr 0] [] (cg_M L f e) := rfl
  rw [hl, b_W_order_0 s0, h1]
  cases q with
  | inl v =>
    obtain ⟨x, rfl⟩ := hr v f1 h4
    refine ⟨nI 0, cg_up f1 236 0 x, e1, ?_, cI_up h2 hs trivial, fun o ho => ?_, h6, h8, Or.inl ⟨x, f1, rfl, rfl, h4⟩⟩
    · show cj_res 140 6 [.ref a0, .ref 236, .retAddr 0] [.int x, .int (nI 0), .ref 236] (cg_M L f1 e1) = _
      rw [b_W_order_6 hs hj, b_W_order_14]
      rfl
    · rw [cg_up_o (fun q => ho (Or.inr q))]; exact h3 o (fun q => ho (Or.inl q))
  | inr kk =>
    rcases hq kk f1 h4 with rfl
    · exact ⟨(nI 1), f1, e1, b_W_order_12, h2, fun o ho => h3 o (fun q => ho (Or.inl q)), h6, h8, Or.inr ⟨1, h4, ⟨rfl, rfl⟩⟩⟩
theorem w_about {L : Nat} {f : cg_G} {e : Nat × Nat} {a0 a2 : Nat} {x1 : Int32} {P : Nat → Prop} {Q : cj_O → cg_G → Prop} (s0 : sh_ a0 = 0) (so : a2 = 236) (hc : cEx 57 [.ref a0, .int x1] L e P f Q) (hq : ∀ k f', Q (.inr k) f' → k = 2 ∨ k = 0) (hr : ∀ v f', Q (.inl v) f' → ∃ x : Int32, v = some (.int x)) : ∃ (k : Int32) (f' : cg_G) (e' : Nat × Nat), cj_ev 110 [.ref a0, .int x1, .ref a2] (cg_M L f e) = some (.inl (some (.int k)), cg_M L f' e') ∧ cI L f' ∧ cF (fun o => P o ∨ o = 236) f f' ∧ e'.1 ≤ e.1 + 1 ∧ e'.2 ≤ e.2 + 6 ∧ ((∃ (x : Int32) (f1 : cg_G), k = nI 0 ∧ f' = cg_up f1 236 0 x ∧ Q (.inl (some (.int x))) f1) ∨ (∃ kk : Nat, Q (.inr kk) f' ∧ ((kk = 2 ∧ k = (nI 1)) ∨ (kk = 0 ∧ k = (nI 2))))) := by
  subst so
  obtain ⟨q, f1, e1, h1, h2, h3, h4, h5, h6, h7, h8⟩ := hc
  have hs : sh_ 236 = 102 := by decide +kernel
  have hn : ln_ L 236 = 1 := rfl
  have hj : cg_in (nI 0) (ln_ L 236) := by rw [hn, t_in, nI_toInt (by decide)]; decide
  have hl : cj_ev 110 [.ref a0, .int x1, .ref 236] (cg_M L f e) = cj_res 110 0 [.ref a0, .int x1, .ref 236, .retAddr 0] [] (cg_M L f e) := rfl
  rw [hl, b_W_about_0 s0, h1]
  cases q with
  | inl v =>
    obtain ⟨x, rfl⟩ := hr v f1 h4
    refine ⟨nI 0, cg_up f1 236 0 x, e1, ?_, cI_up h2 hs trivial, fun o ho => ?_, h6, h8, Or.inl ⟨x, f1, rfl, rfl, h4⟩⟩
    · show cj_res 110 7 [.ref a0, .int x1, .ref 236, .retAddr 0] [.int x, .int (nI 0), .ref 236] (cg_M L f1 e1) = _
      rw [b_W_about_7 hs hj, b_W_about_18]
      rfl
    · rw [cg_up_o (fun q => ho (Or.inr q))]; exact h3 o (fun q => ho (Or.inl q))
  | inr kk =>
    rcases hq kk f1 h4 with rfl | rfl
    · exact ⟨(nI 1), f1, e1, b_W_about_13, h2, fun o ho => h3 o (fun q => ho (Or.inl q)), h6, h8, Or.inr ⟨2, h4, (Or.inl ⟨rfl, rfl⟩)⟩⟩
    · exact ⟨(nI 2), f1, e1, b_W_about_16, h2, fun o ho => h3 o (fun q => ho (Or.inl q)), h6, h8, Or.inr ⟨0, h4, (Or.inr ⟨rfl, rfl⟩)⟩⟩
theorem w_page {L : Nat} {f : cg_G} {e : Nat × Nat} {a0 a2 : Nat} {x1 : Int32} {P : Nat → Prop} {Q : cj_O → cg_G → Prop} (s0 : sh_ a0 = 0) (so : a2 = 236) (hc : cEx 103 [.ref a0, .int x1] L e P f Q) (hq : ∀ k f', Q (.inr k) f' → k = 2 ∨ k = 0) (hr : ∀ v f', Q (.inl v) f' → ∃ x : Int32, v = some (.int x)) : ∃ (k : Int32) (f' : cg_G) (e' : Nat × Nat), cj_ev 133 [.ref a0, .int x1, .ref a2] (cg_M L f e) = some (.inl (some (.int k)), cg_M L f' e') ∧ cI L f' ∧ cF (fun o => P o ∨ o = 236) f f' ∧ e'.1 ≤ e.1 + 1 ∧ e'.2 ≤ e.2 + 6 ∧ ((∃ (x : Int32) (f1 : cg_G), k = nI 0 ∧ f' = cg_up f1 236 0 x ∧ Q (.inl (some (.int x))) f1) ∨ (∃ kk : Nat, Q (.inr kk) f' ∧ ((kk = 2 ∧ k = (nI 1)) ∨ (kk = 0 ∧ k = (nI 2))))) := by
  subst so
  obtain ⟨q, f1, e1, h1, h2, h3, h4, h5, h6, h7, h8⟩ := hc
  have hs : sh_ 236 = 102 := by decide +kernel
  have hn : ln_ L 236 = 1 := rfl
  have hj : cg_in (nI 0) (ln_ L 236) := by rw [hn, t_in, nI_toInt (by decide)]; decide
  have hl : cj_ev 133 [.ref a0, .int x1, .ref 236] (cg_M L f e) = cj_res 133 0 [.ref a0, .int x1, .ref 236, .retAddr 0] [] (cg_M L f e) := rfl
  rw [hl, b_W_page_0 s0, h1]
  cases q with
  | inl v =>
    obtain ⟨x, rfl⟩ := hr v f1 h4
    refine ⟨nI 0, cg_up f1 236 0 x, e1, ?_, cI_up h2 hs trivial, fun o ho => ?_, h6, h8, Or.inl ⟨x, f1, rfl, rfl, h4⟩⟩
    · show cj_res 133 7 [.ref a0, .int x1, .ref 236, .retAddr 0] [.int x, .int (nI 0), .ref 236] (cg_M L f1 e1) = _
      rw [b_W_page_7 hs hj, b_W_page_18]
      rfl
    · rw [cg_up_o (fun q => ho (Or.inr q))]; exact h3 o (fun q => ho (Or.inl q))
  | inr kk =>
    rcases hq kk f1 h4 with rfl | rfl
    · exact ⟨(nI 1), f1, e1, b_W_page_13, h2, fun o ho => h3 o (fun q => ho (Or.inl q)), h6, h8, Or.inr ⟨2, h4, (Or.inl ⟨rfl, rfl⟩)⟩⟩
    · exact ⟨(nI 2), f1, e1, b_W_page_16, h2, fun o ho => h3 o (fun q => ho (Or.inl q)), h6, h8, Or.inr ⟨0, h4, (Or.inr ⟨rfl, rfl⟩)⟩⟩
theorem w_line {L : Nat} {f : cg_G} {e : Nat × Nat} {a0 a4 : Nat} {x1 : Int32} {x2 : Int32} {x3 : Int32} {P : Nat → Prop} {Q : cj_O → cg_G → Prop} (s0 : sh_ a0 = 0) (so : a4 = 236) (hc : cEx 101 [.ref a0, .int x1, .int x2, .int x3] L e P f Q) (hq : ∀ k f', Q (.inr k) f' → k = 2 ∨ k = 0) (hr : ∀ v f', Q (.inl v) f' → ∃ x : Int32, v = some (.int x)) : ∃ (k : Int32) (f' : cg_G) (e' : Nat × Nat), cj_ev 132 [.ref a0, .int x1, .int x2, .int x3, .ref a4] (cg_M L f e) = some (.inl (some (.int k)), cg_M L f' e') ∧ cI L f' ∧ cF (fun o => P o ∨ o = 236) f f' ∧ e'.1 ≤ e.1 + 1 ∧ e'.2 ≤ e.2 + 6 ∧ ((∃ (x : Int32) (f1 : cg_G), k = nI 0 ∧ f' = cg_up f1 236 0 x ∧ Q (.inl (some (.int x))) f1) ∨ (∃ kk : Nat, Q (.inr kk) f' ∧ ((kk = 2 ∧ k = (nI 1)) ∨ (kk = 0 ∧ k = (nI 2))))) := by
  subst so
  obtain ⟨q, f1, e1, h1, h2, h3, h4, h5, h6, h7, h8⟩ := hc
  have hs : sh_ 236 = 102 := by decide +kernel
  have hn : ln_ L 236 = 1 := rfl
  have hj : cg_in (nI 0) (ln_ L 236) := by rw [hn, t_in, nI_toInt (by decide)]; decide
  have hl : cj_ev 132 [.ref a0, .int x1, .int x2, .int x3, .ref 236] (cg_M L f e) = cj_res 132 0 [.ref a0, .int x1, .int x2, .int x3, .ref 236, .retAddr 0] [] (cg_M L f e) := rfl
  rw [hl, b_W_line_0 s0, h1]
  cases q with
  | inl v =>
    obtain ⟨x, rfl⟩ := hr v f1 h4
    refine ⟨nI 0, cg_up f1 236 0 x, e1, ?_, cI_up h2 hs trivial, fun o ho => ?_, h6, h8, Or.inl ⟨x, f1, rfl, rfl, h4⟩⟩
    · show cj_res 132 10 [.ref a0, .int x1, .int x2, .int x3, .ref 236, .retAddr 0] [.int x, .int (nI 0), .ref 236] (cg_M L f1 e1) = _
      rw [b_W_line_10 hs hj, b_W_line_23]
      rfl
    · rw [cg_up_o (fun q => ho (Or.inr q))]; exact h3 o (fun q => ho (Or.inl q))
  | inr kk =>
    rcases hq kk f1 h4 with rfl | rfl
    · exact ⟨(nI 1), f1, e1, b_W_line_17, h2, fun o ho => h3 o (fun q => ho (Or.inl q)), h6, h8, Or.inr ⟨2, h4, (Or.inl ⟨rfl, rfl⟩)⟩⟩
    · exact ⟨(nI 2), f1, e1, b_W_line_21, h2, fun o ho => h3 o (fun q => ho (Or.inl q)), h6, h8, Or.inr ⟨0, h4, (Or.inr ⟨rfl, rfl⟩)⟩⟩
theorem w_sign {L : Nat} {f : cg_G} {e : Nat × Nat} {a0 a4 : Nat} {x1 : Int32} {x2 : Int32} {x3 : Int32} {P : Nat → Prop} {Q : cj_O → cg_G → Prop} (s0 : sh_ a0 = 0) (so : a4 = 236) (hc : cEx 104 [.ref a0, .int x1, .int x2, .int x3] L e P f Q) (hq : ∀ k f', Q (.inr k) f' → k = 2 ∨ k = 0) (hr : ∀ v f', Q (.inl v) f' → ∃ x : Int32, v = some (.int x)) : ∃ (k : Int32) (f' : cg_G) (e' : Nat × Nat), cj_ev 134 [.ref a0, .int x1, .int x2, .int x3, .ref a4] (cg_M L f e) = some (.inl (some (.int k)), cg_M L f' e') ∧ cI L f' ∧ cF (fun o => P o ∨ o = 236) f f' ∧ e'.1 ≤ e.1 + 1 ∧ e'.2 ≤ e.2 + 6 ∧ ((∃ (x : Int32) (f1 : cg_G), k = nI 0 ∧ f' = cg_up f1 236 0 x ∧ Q (.inl (some (.int x))) f1) ∨ (∃ kk : Nat, Q (.inr kk) f' ∧ ((kk = 2 ∧ k = (nI 1)) ∨ (kk = 0 ∧ k = (nI 2))))) := by
  subst so
  obtain ⟨q, f1, e1, h1, h2, h3, h4, h5, h6, h7, h8⟩ := hc
  have hs : sh_ 236 = 102 := by decide +kernel
  have hn : ln_ L 236 = 1 := rfl
  have hj : cg_in (nI 0) (ln_ L 236) := by rw [hn, t_in, nI_toInt (by decide)]; decide
  have hl : cj_ev 134 [.ref a0, .int x1, .int x2, .int x3, .ref 236] (cg_M L f e) = cj_res 134 0 [.ref a0, .int x1, .int x2, .int x3, .ref 236, .retAddr 0] [] (cg_M L f e) := rfl
  rw [hl, b_W_sign_0 s0, h1]
  cases q with
  | inl v =>
    obtain ⟨x, rfl⟩ := hr v f1 h4
    refine ⟨nI 0, cg_up f1 236 0 x, e1, ?_, cI_up h2 hs trivial, fun o ho => ?_, h6, h8, Or.inl ⟨x, f1, rfl, rfl, h4⟩⟩
    · show cj_res 134 10 [.ref a0, .int x1, .int x2, .int x3, .ref 236, .retAddr 0] [.int x, .int (nI 0), .ref 236] (cg_M L f1 e1) = _
      rw [b_W_sign_10 hs hj, b_W_sign_23]
      rfl
    · rw [cg_up_o (fun q => ho (Or.inr q))]; exact h3 o (fun q => ho (Or.inl q))
  | inr kk =>
    rcases hq kk f1 h4 with rfl | rfl
    · exact ⟨(nI 1), f1, e1, b_W_sign_17, h2, fun o ho => h3 o (fun q => ho (Or.inl q)), h6, h8, Or.inr ⟨2, h4, (Or.inl ⟨rfl, rfl⟩)⟩⟩
    · exact ⟨(nI 2), f1, e1, b_W_sign_21, h2, fun o ho => h3 o (fun q => ho (Or.inl q)), h6, h8, Or.inr ⟨0, h4, (Or.inr ⟨rfl, rfl⟩)⟩⟩
theorem w_index {L : Nat} {f : cg_G} {e : Nat × Nat} {a0 a3 : Nat} {x1 : Int32} {x2 : Int32} {P : Nat → Prop} {Q : cj_O → cg_G → Prop} (s0 : sh_ a0 = 0) (so : a3 = 236) (hc : cEx 137 [.ref a0, .int x1, .int x2] L e P f Q) (hq : ∀ k f', Q (.inr k) f' → k = 2) (hr : ∀ v f', Q (.inl v) f' → ∃ x : Int32, v = some (.int x)) : ∃ (k : Int32) (f' : cg_G) (e' : Nat × Nat), cj_ev 144 [.ref a0, .int x1, .int x2, .ref a3] (cg_M L f e) = some (.inl (some (.int k)), cg_M L f' e') ∧ cI L f' ∧ cF (fun o => P o ∨ o = 236) f f' ∧ e'.1 ≤ e.1 + 1 ∧ e'.2 ≤ e.2 + 6 ∧ ((∃ (x : Int32) (f1 : cg_G), k = nI 0 ∧ f' = cg_up f1 236 0 x ∧ Q (.inl (some (.int x))) f1) ∨ (∃ kk : Nat, Q (.inr kk) f' ∧ ((kk = 2 ∧ k = (nI 1))))) := by
  subst so
  obtain ⟨q, f1, e1, h1, h2, h3, h4, h5, h6, h7, h8⟩ := hc
  have hs : sh_ 236 = 102 := by decide +kernel
  have hn : ln_ L 236 = 1 := rfl
  have hj : cg_in (nI 0) (ln_ L 236) := by rw [hn, t_in, nI_toInt (by decide)]; decide
  have hl : cj_ev 144 [.ref a0, .int x1, .int x2, .ref 236] (cg_M L f e) = cj_res 144 0 [.ref a0, .int x1, .int x2, .ref 236, .retAddr 0] [] (cg_M L f e) := rfl
  rw [hl, b_W_index_0 s0, h1]
  cases q with
  | inl v =>
    obtain ⟨x, rfl⟩ := hr v f1 h4
    refine ⟨nI 0, cg_up f1 236 0 x, e1, ?_, cI_up h2 hs trivial, fun o ho => ?_, h6, h8, Or.inl ⟨x, f1, rfl, rfl, h4⟩⟩
    · show cj_res 144 8 [.ref a0, .int x1, .int x2, .ref 236, .retAddr 0] [.int x, .int (nI 0), .ref 236] (cg_M L f1 e1) = _
      rw [b_W_index_8 hs hj, b_W_index_17]
      rfl
    · rw [cg_up_o (fun q => ho (Or.inr q))]; exact h3 o (fun q => ho (Or.inl q))
  | inr kk =>
    rcases hq kk f1 h4 with rfl
    · exact ⟨(nI 1), f1, e1, b_W_index_15, h2, fun o ho => h3 o (fun q => ho (Or.inl q)), h6, h8, Or.inr ⟨2, h4, ⟨rfl, rfl⟩⟩⟩
theorem w_count {L : Nat} {f : cg_G} {e : Nat × Nat} {a0 a2 : Nat} {x1 : Int32} {P : Nat → Prop} {Q : cj_O → cg_G → Prop} (s0 : sh_ a0 = 0) (so : a2 = 236) (hc : cEx 60 [.ref a0, .int x1] L e P f Q) (hq : ∀ k f', Q (.inr k) f' → k = 2) (hr : ∀ v f', Q (.inl v) f' → ∃ x : Int32, v = some (.int x)) : ∃ (k : Int32) (f' : cg_G) (e' : Nat × Nat), cj_ev 112 [.ref a0, .int x1, .ref a2] (cg_M L f e) = some (.inl (some (.int k)), cg_M L f' e') ∧ cI L f' ∧ cF (fun o => P o ∨ o = 236) f f' ∧ e'.1 ≤ e.1 + 1 ∧ e'.2 ≤ e.2 + 6 ∧ ((∃ (x : Int32) (f1 : cg_G), k = nI 0 ∧ f' = cg_up f1 236 0 x ∧ Q (.inl (some (.int x))) f1) ∨ (∃ kk : Nat, Q (.inr kk) f' ∧ ((kk = 2 ∧ k = (nI 1))))) := by
  subst so
  obtain ⟨q, f1, e1, h1, h2, h3, h4, h5, h6, h7, h8⟩ := hc
  have hs : sh_ 236 = 102 := by decide +kernel
  have hn : ln_ L 236 = 1 := rfl
  have hj : cg_in (nI 0) (ln_ L 236) := by rw [hn, t_in, nI_toInt (by decide)]; decide
  have hl : cj_ev 112 [.ref a0, .int x1, .ref 236] (cg_M L f e) = cj_res 112 0 [.ref a0, .int x1, .ref 236, .retAddr 0] [] (cg_M L f e) := rfl
  rw [hl, b_W_count_0 s0, h1]
  cases q with
  | inl v =>
    obtain ⟨x, rfl⟩ := hr v f1 h4
    refine ⟨nI 0, cg_up f1 236 0 x, e1, ?_, cI_up h2 hs trivial, fun o ho => ?_, h6, h8, Or.inl ⟨x, f1, rfl, rfl, h4⟩⟩
    · show cj_res 112 7 [.ref a0, .int x1, .ref 236, .retAddr 0] [.int x, .int (nI 0), .ref 236] (cg_M L f1 e1) = _
      rw [b_W_count_7 hs hj, b_W_count_15]
      rfl
    · rw [cg_up_o (fun q => ho (Or.inr q))]; exact h3 o (fun q => ho (Or.inl q))
  | inr kk =>
    rcases hq kk f1 h4 with rfl
    · exact ⟨(nI 1), f1, e1, b_W_count_13, h2, fun o ho => h3 o (fun q => ho (Or.inl q)), h6, h8, Or.inr ⟨2, h4, ⟨rfl, rfl⟩⟩⟩
