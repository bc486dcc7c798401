/-! one call on both sides: unit -/
theorem cs_unit {L : Nat} {f : cg_G} {e : Nat × Nat} {x1 x2 : Int32} (hI : cI L f) (h : REL f) : CS L f e 135 [.ref 1, .int x1, .int x2, .ref 236] 98 [.ref 206, .int x1, .int x2] CMP := by
  obtain ⟨k, f1, e1, w1, w2, w3, w4, w5, w6⟩ := w_unit (L := L) (f := f) (e := e) (a0 := 1) s_1 rfl (c_C_unit (x1 := x1) (x2 := x2) hI s_1) (fun k g q => (Q_inr q).1.elim (fun z => Or.inl z.1) (fun z => Or.inr z.1)) (fun v g q => Q_val q)
  have hm : ∀ o, o ≠ 2 → o ≠ 3 → o ≠ 236 → f1 o = f o := fun o a b c => w3 o (fun z => z.elim (fun y => y.elim a b) c)
  obtain ⟨h1, ⟨h2, h3⟩, h4, h5, h6, h7⟩ := h
  obtain ⟨v, f2, m1, m2, m3, m4⟩ := c_M_unit (x1 := x1) (x2 := x2) (e := e1) w2 s_190
  obtain ⟨b, rfl, m4, m5⟩ := m4
  have hg : ∀ o, o ≠ 206 → o ≠ 207 → f2 o = f1 o := fun o q1 q2 => m3 o (fun z => z.elim q1 q2)
  have h11 : (f (1 + 1) 1).toInt = (f 206 3).toInt := h1.1
  have e11 : f (1 + 1) 1 = f 206 3 := t_eq.mpr h11
  have hc := t_cl (f 206 3)
  have hb := (cI_at hI 3 s_190).2.2.2.1 rfl
  rw [hm 206 (by decide) (by decide) (by decide), hm (206 + 1) (by decide) (by decide) (by decide)] at m4
  rw [hm 206 (by decide) (by decide) (by decide)] at m5
  have hrest : ∀ (p : RPd f2), REL f2 := fun p => ⟨p, ⟨by rw [hg 1 (by decide) (by decide), hm 1 (by decide) (by decide) (by decide), m5 5 (by decide) (by decide)]; exact h2, by rw [hg 1 (by decide) (by decide), hm 1 (by decide) (by decide) (by decide), m5 8 (by decide) (by decide)]; exact h3⟩, REd_fr h4 (fun a ha => by rw [hg _ (by omega) (by omega), hm _ (by omega) (by omega) (by omega)]) (fun a ha => by rw [hg _ (by omega) (by omega), hm _ (by omega) (by omega) (by omega)]) (by rw [hg 214 (by decide) (by decide), hm 214 (by decide) (by decide) (by decide)]) (by rw [hg 213 (by decide) (by decide), hm 213 (by decide) (by decide) (by decide)]), WT_fr h5 (m5 5 (by decide) (by decide)) (by rw [hg 208 (by decide) (by decide), hm 208 (by decide) (by decide) (by decide)]) (by rw [hg 209 (by decide) (by decide), hm 209 (by decide) (by decide) (by decide)]), TE_fr h6 (by rw [m5 5 (by decide) (by decide)]; omega) (m5 8 (by decide) (by decide)) (by rw [hg 210 (by decide) (by decide), hm 210 (by decide) (by decide) (by decide)]), by rw [hg 226 (by decide) (by decide), hg 227 (by decide) (by decide), hm 226 (by decide) (by decide) (by decide), hm 227 (by decide) (by decide) (by decide)]; exact h7⟩
  have z0 : (nI 0).toInt = 0 := nI_toInt (by decide)
  have z1 : (nI 1).toInt = 1 := nI_toInt (by decide)
  have z2 : (nI 2).toInt = 2 := nI_toInt (by decide)
  rcases w6 with ⟨x, fa, rfl, rfl, q⟩ | ⟨kk, q, hk⟩
  · obtain ⟨q1, q2, ⟨g1, n1, a1, a2, a3⟩, q4⟩ := Q_inl q
    clear q
    rw [e11] at q1 q2 a1 a3 q4
    rcases m4 with ⟨m6, -, -⟩ | ⟨⟨m6, m7, m8⟩, ⟨g2, n2, b1, b2, b3⟩, m9⟩
    · exfalso; omega
    · have r1 := padI_eq (fun j hj => t_eq.mpr (h1.2 j (by omega))) a1 b1
      have en : n1 = n2 := by omega
      subst en
      have r2 := padI_eq (fun j hj => r1 j (by omega)) a2 b2
      have e2 : f2 2 = fa 2 := by rw [hg 2 (by decide) (by decide), cg_up_o (by decide)]
      have e3 : f2 3 = fa 3 := by rw [hg 3 (by decide) (by decide), cg_up_o (by decide)]
      refine ⟨nI 0, _, e1, b, f2, w1, w2, hm 0 (by decide) (by decide) (by decide), m1, m2, hg 0 (by decide) (by decide), hrest ⟨?_, fun j hj => ?_⟩, ⟨w4, w5⟩, ⟨by omega, fun _ => ?_⟩⟩
      · rw [e2]; exact q4.trans m9.symm
      · rw [e3]; exact congrArg Int32.toInt (r2 j (by omega))
      · rw [hg 236 (by decide) (by decide), cg_up_s, t_eq]; exact q2.trans m8.symm
  · obtain ⟨q1, q2⟩ := Q_inr q
    clear q
    subst q2
    rw [e11] at q1
    rcases m4 with ⟨m6, m7, m8⟩ | ⟨⟨m6, -, -⟩, -, -⟩
    · refine ⟨k, f1, e1, b, f2, w1, w2, rfl, m1, m2, hg 0 (by decide) (by decide), hrest (RPd_fr h1 (by rw [hg 2 (by decide) (by decide)]) (hg 3 (by decide) (by decide)) (t_eq.mpr m8) m7), ⟨w4, w5⟩, ?_⟩
      rcases hk with ⟨rfl, rfl⟩ | ⟨rfl, rfl⟩ <;> exact ⟨by omega, fun z => by omega⟩
    · exfalso; rcases hk with ⟨rfl, rfl⟩ | ⟨rfl, rfl⟩ <;> omega
