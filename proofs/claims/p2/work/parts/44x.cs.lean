/-! one call on both sides -/
def CS (L : Nat) (f : cg_G) (e : Nat × Nat) (w : Nat) (ws : List Value) (m : Nat) (ms : List Value) (R : Int32 → cg_G → Int32 → Prop) : Prop := ∃ (k : Int32) (f1 : cg_G) (e1 : Nat × Nat) (b : Int32) (f2 : cg_G), cj_ev w ws (cg_M L f e) = some (.inl (some (.int k)), cg_M L f1 e1) ∧ cI L f1 ∧ f1 0 = f 0 ∧ cj_ev m ms (cg_M L f1 e1) = some (.inl (some (.int b)), cg_M L f2 e1) ∧ cI L f2 ∧ f2 0 = f1 0 ∧ REL f2 ∧ (e1.1 ≤ e.1 + 1 ∧ e1.2 ≤ e.2 + 6) ∧ R k f2 b
def CMP (k : Int32) (f2 : cg_G) (b : Int32) : Prop := (f2 206 2).toInt = k.toInt ∧ (k.toInt = 0 → f2 236 0 = b)
theorem cs_about {L : Nat} {f : cg_G} {e : Nat × Nat} {x1 : Int32} (hI : cI L f) (h : REL f) : CS L f e 110 [.ref 1, .int x1, .ref 236] 85 [.ref 206, .int x1] (fun _ _ _ => True) := by
  obtain ⟨k, f1, e1, w1, w2, w3, w4, w5, w6⟩ := w_about (L := L) (f := f) (e := e) (a0 := 1) s_1 rfl (c_C_about (x1 := x1) hI s_1) (fun k g q => Q_inr q) (fun v g q => Q_val q)
  have hf : ∀ o, o ≠ 236 → f1 o = f o := fun o ho => w3 o (fun q => q.elim (fun z => z) ho)
  obtain ⟨v, f2, m1, m2, m3, m4⟩ := c_M_about (x1 := x1) (e := e1) w2 s_190
  obtain ⟨b, rfl, m4⟩ := m4
  exact ⟨k, f1, e1, b, f2, w1, w2, hf 0 (by decide), m1, m2, m3 0 (by decide), REL_same h (fun o q1 q2 q3 => (m3 o q3).trans (hf o (by omega))) (fun q hq => (m4 q hq).trans (by rw [hf 206 (by decide)])), ⟨w4, w5⟩, trivial⟩
theorem cs_page {L : Nat} {f : cg_G} {e : Nat × Nat} {x1 : Int32} (hI : cI L f) (h : REL f) : CS L f e 133 [.ref 1, .int x1, .ref 236] 118 [.ref 206, .int x1] (fun _ _ _ => True) := by
  obtain ⟨k, f1, e1, w1, w2, w3, w4, w5, w6⟩ := w_page (L := L) (f := f) (e := e) (a0 := 1) s_1 rfl (c_C_page (x1 := x1) hI s_1) (fun k g q => Q_inr q) (fun v g q => Q_val q)
  have hf : ∀ o, o ≠ 236 → f1 o = f o := fun o ho => w3 o (fun q => q.elim (fun z => z) ho)
  obtain ⟨v, f2, m1, m2, m3, m4⟩ := c_M_page (x1 := x1) (e := e1) w2 s_190
  obtain ⟨b, rfl, m4⟩ := m4
  exact ⟨k, f1, e1, b, f2, w1, w2, hf 0 (by decide), m1, m2, m3 0 (by decide), REL_same h (fun o q1 q2 q3 => (m3 o q3).trans (hf o (by omega))) (fun q hq => (m4 q hq).trans (by rw [hf 206 (by decide)])), ⟨w4, w5⟩, trivial⟩
theorem cs_line {L : Nat} {f : cg_G} {e : Nat × Nat} {x1 x2 x3 : Int32} (hI : cI L f) (h : REL f) : CS L f e 132 [.ref 1, .int x1, .int x2, .int x3, .ref 236] 92 [.ref 206, .int x1, .int x2, .int x3] (fun _ _ _ => True) := by
  obtain ⟨k, f1, e1, w1, w2, w3, w4, w5, w6⟩ := w_line (L := L) (f := f) (e := e) (a0 := 1) s_1 rfl (c_C_line (x1 := x1) (x2 := x2) (x3 := x3) hI s_1) (fun k g q => Q_inr q) (fun v g q => Q_val q)
  have hf : ∀ o, o ≠ 236 → f1 o = f o := fun o ho => w3 o (fun q => q.elim (fun z => z) ho)
  obtain ⟨v, f2, m1, m2, m3, m4⟩ := c_M_line (x1 := x1) (x2 := x2) (x3 := x3) (e := e1) w2 s_190
  obtain ⟨b, rfl, m4⟩ := m4
  exact ⟨k, f1, e1, b, f2, w1, w2, hf 0 (by decide), m1, m2, m3 0 (by decide), REL_same h (fun o q1 q2 q3 => (m3 o q3).trans (hf o (by omega))) (fun q hq => (m4 q hq).trans (by rw [hf 206 (by decide)])), ⟨w4, w5⟩, trivial⟩
theorem cs_sign {L : Nat} {f : cg_G} {e : Nat × Nat} {x1 x2 x3 : Int32} (hI : cI L f) (h : REL f) : CS L f e 134 [.ref 1, .int x1, .int x2, .int x3, .ref 236] 121 [.ref 206, .int x1, .int x2, .int x3] (fun _ _ _ => True) := by
  obtain ⟨k, f1, e1, w1, w2, w3, w4, w5, w6⟩ := w_sign (L := L) (f := f) (e := e) (a0 := 1) s_1 rfl (c_C_sign (x1 := x1) (x2 := x2) (x3 := x3) hI s_1) (fun k g q => Q_inr q) (fun v g q => Q_val q)
  have hf : ∀ o, o ≠ 236 → f1 o = f o := fun o ho => w3 o (fun q => q.elim (fun z => z) ho)
  obtain ⟨v, f2, m1, m2, m3, m4⟩ := c_M_sign (x1 := x1) (x2 := x2) (x3 := x3) (e := e1) w2 s_190 (by rw [hf (206 + 20) (by decide), hf (206 + 21) (by decide)]; exact h.2.2.2.2.2)
  obtain ⟨b, rfl, m4⟩ := m4
  exact ⟨k, f1, e1, b, f2, w1, w2, hf 0 (by decide), m1, m2, m3 0 (by decide), REL_same h (fun o q1 q2 q3 => (m3 o q3).trans (hf o (by omega))) (fun q hq => (m4 q hq).trans (by rw [hf 206 (by decide)])), ⟨w4, w5⟩, trivial⟩
theorem cs_index {L : Nat} {f : cg_G} {e : Nat × Nat} {x1 x2 : Int32} (hI : cI L f) (h : REL f) : CS L f e 144 [.ref 1, .int x1, .int x2, .ref 236] 117 [.ref 206, .int x1, .int x2] (fun _ _ _ => True) := by
  obtain ⟨k, f1, e1, w1, w2, w3, w4, w5, w6⟩ := w_index (L := L) (f := f) (e := e) (a0 := 1) s_1 rfl (c_C_index (x1 := x1) (x2 := x2) hI s_1) (fun k g q => Q_inr (B := fun k => k = 2) q) (fun v g q => Q_val q)
  have hf : ∀ o, o ≠ 236 → f1 o = f o := fun o ho => w3 o (fun q => q.elim (fun z => z) ho)
  obtain ⟨v, f2, m1, m2, m3, m4⟩ := c_M_index (x1 := x1) (x2 := x2) (e := e1) w2 s_190
  obtain ⟨b, rfl, m4⟩ := m4
  exact ⟨k, f1, e1, b, f2, w1, w2, hf 0 (by decide), m1, m2, m3 0 (by decide), REL_same h (fun o q1 q2 q3 => (m3 o q3).trans (hf o (by omega))) (fun q hq => (m4 q hq).trans (by rw [hf 206 (by decide)])), ⟨w4, w5⟩, trivial⟩
theorem cs_run {L : Nat} {f : cg_G} {e : Nat × Nat} (hI : cI L f) (h : REL f) : CS L f e 145 [.ref 1] 142 [.ref 206] (fun _ _ _ => True) := by
  obtain ⟨v, f1, c1, c2, c3, c4⟩ := c_C_run (e := e) hI s_1
  obtain ⟨k, rfl, c4⟩ := c4
  have hf : ∀ o, ¬ (o = 1 ∨ 124 ≤ o ∧ o < 206) → f1 o = f o := c3
  obtain ⟨h1, ⟨h2, h3⟩, h4, h5, h6, h7⟩ := h
  have wt1 : WT f1 := WT_fr h5 (by rw [hf 206 (by decide)]) (hf 208 (by decide)) (hf 209 (by decide))
  have te1 : TE_ f1 := TE_fr h6 (by rw [hf 206 (by decide)]; omega) (by rw [hf 206 (by decide)]) (hf 210 (by decide))
  obtain ⟨v, f2, m1, m2, m3, m4⟩ := c_M_run (e := e) c2 s_190 (WF_of c2 wt1 te1) (by rw [hf (206 + 20) (by decide), hf (206 + 21) (by decide)]; exact h7)
  obtain ⟨b, rfl, jl, m4⟩ := m4
  have hg : ∀ o, ¬ (o = 206 ∨ 206 + 10 ≤ o ∧ o ≤ 206 + 29) → f2 o = f1 o := m3
  have k5 : f2 206 5 = f 206 5 := by rw [m4 5 (by decide) (by decide) (by decide) (by decide), hf 206 (by decide)]
  have k8 : f2 206 8 = f 206 8 := by rw [m4 8 (by decide) (by decide) (by decide) (by decide), hf 206 (by decide)]
  have k3 : f2 206 3 = f 206 3 := by rw [m4 3 (by decide) (by decide) (by decide) (by decide), hf 206 (by decide)]
  refine ⟨k, f1, e, b, f2, c1, c2, hf 0 (by decide), m1, m2, hg 0 (by decide), ⟨RPd_fr h1 (by rw [hg 2 (by decide), hf 2 (by decide)]) (by rw [hg 3 (by decide), hf 3 (by decide)]) k3 (by rw [hg 207 (by decide), hf 207 (by decide)]), ⟨?_, ?_⟩, REd_fr h4 (fun e he => by rw [hg _ (by omega), hf _ (by omega)]) (fun e he => by rw [hg _ (by omega), hf _ (by omega)]) (by rw [hg 214 (by decide), hf 214 (by decide)]) (by rw [hg 213 (by decide), hf 213 (by decide)]), WT_fr h5 k5 (by rw [hg 208 (by decide), hf 208 (by decide)]) (by rw [hg 209 (by decide), hf 209 (by decide)]), TE_fr h6 (by rw [k5]; omega) k8 (by rw [hg 210 (by decide), hf 210 (by decide)]), jl⟩, ⟨Nat.le_succ _, Nat.le_add_right _ _⟩, trivial⟩
  · rw [k5, hg 1 (by decide), c4 6 (by decide) (by decide) (by decide)]; exact h2
  · rw [k8, hg 1 (by decide), c4 7 (by decide) (by decide) (by decide)]; exact h3
theorem cs_count {L : Nat} {f : cg_G} {e : Nat × Nat} {x1 : Int32} (hI : cI L f) (h : REL f) : CS L f e 112 [.ref 1, .int x1, .ref 236] 86 [.ref 206, .int x1] CMP := by
  obtain ⟨k, f1, e1, w1, w2, w3, w4, w5, w6⟩ := w_count (L := L) (f := f) (e := e) (a0 := 1) s_1 rfl (c_C_count (x1 := x1) hI s_1) (fun k g q => (Q_inr q).1) (fun v g q => Q_val q)
  have hf : ∀ o, o ≠ 236 → f1 o = f o := fun o ho => w3 o (fun q => q.elim (fun z => z) ho)
  obtain ⟨v, f2, m1, m2, m3, m4⟩ := c_M_count (x1 := x1) (e := e1) w2 s_190
  obtain ⟨b, rfl, m4, m5⟩ := m4
  refine ⟨k, f1, e1, b, f2, w1, w2, hf 0 (by decide), m1, m2, m3 0 (by decide), REL_same h (fun o q1 q2 q3 => (m3 o q3).trans (hf o (by omega))) (fun q hq => (m4 q hq).trans (by rw [hf 206 (by decide)])), ⟨w4, w5⟩, ?_⟩
  have z0 : (nI 0).toInt = 0 := nI_toInt (by decide)
  have z1 : (nI 1).toInt = 1 := nI_toInt (by decide)
  rw [hf 206 (by decide)] at m5
  obtain ⟨⟨p1, -⟩, ⟨p2, p3⟩, -⟩ := h
  rcases w6 with ⟨x, fa, rfl, rfl, q⟩ | ⟨kk, q, -, rfl⟩
  · have q9 := Q_inl q
    clear q
    refine ⟨by omega, fun _ => ?_⟩
    rw [m3 236 (by decide), cg_up_s, t_eq]
    have q2 : x.toInt = b.toInt := by
      have c : x1.toInt = 0 ∨ x1.toInt = 1 ∨ x1.toInt = 2 := by omega
      rcases c with c | c | c
      · have a1 := q9.2.1 c; have a2 : b.toInt = (f 206 3).toInt := by omega
        rw [a1, a2]; exact p1
      · have a1 := q9.2.2.1 c; have a2 : b.toInt = (f 206 5).toInt := by omega
        rw [a1, a2]; exact p2
      · have a1 := q9.2.2.2 c; have a2 : b.toInt = (f 206 8).toInt := by omega
        rw [a1, a2]; exact p3
    exact q2
  · have q9 := Q_inr q
    clear q
    exact ⟨by omega, fun hk => by omega⟩
