/-! one call on both sides: entry, claim, picture -/
theorem cs_entry {L : Nat} {f : cg_G} {e : Nat × Nat} {x1 : Int32} (hI : cI L f) (h : REL f) : CS L f e 113 [.ref 1, .int x1, .ref 236] 87 [.ref 206, .int x1] CMP := by
  obtain ⟨k, f1, e1, w1, w2, w3, w4, w5, w6⟩ := w_entry (L := L) (f := f) (e := e) (a0 := 1) s_1 rfl (c_C_entry (x1 := x1) hI s_1) (fun k g q => (Q_inr q).1.elim (fun z => Or.inl z.1) (fun z => Or.inr z.1)) (fun v g q => Q_val q)
  have hm : ∀ o, 124 ≤ o → o ≠ 236 → f1 o = f o := fun o q1 q2 => w3 o (fun z => z.elim (fun y => by omega) q2)
  have hf0 : f1 0 = f 0 := w3 0 (fun z => by omega)
  obtain ⟨v, f2, m1, m2, m3, m4⟩ := c_M_entry (x1 := x1) (e := e1) w2 s_190
  obtain ⟨b, rfl, m4⟩ := m4
  have hg : ∀ o, o ≠ 206 → o ≠ 210 → f2 o = f1 o := fun o q1 q2 => m3 o (fun z => z.elim q1 q2)
  have hb := (cI_at hI 7 s_1).2.2.1 rfl
  have hc := t_cl (f 1 7)
  rw [hm 206 (by decide) (by decide)] at m4
  obtain ⟨h1, ⟨h2, h3⟩, h4, h5, h6, h7⟩ := h
  have z0 : (nI 0).toInt = 0 := nI_toInt (by decide)
  have z1 : (nI 1).toInt = 1 := nI_toInt (by decide)
  have z2 : (nI 2).toInt = 2 := nI_toInt (by decide)
  rcases w6 with ⟨x, fa, rfl, rfl, q⟩ | ⟨kk, q, hk⟩
  · obtain ⟨q1, q2, q3, q4, q5⟩ := Q_inl q
    clear q
    rcases m4 with ⟨m5, -, -⟩ | ⟨m5, m6, m7⟩
    · exfalso; omega
    · have k5 : f2 206 5 = f 206 5 := m7 5 (by decide) (by decide)
      have h17 : (f2 1 7).toInt = (f 1 7).toInt + 1 := by
        rw [hg 1 (by decide) (by decide), q5, cg_up_o (by decide), cg_up_s, t_addn (by omega)]; omega
      subst q5
      refine ⟨nI 0, _, e1, b, f2, w1, w2, hf0, m1, m2, hg 0 (by decide) (by decide), ⟨RPd_fr h1 ?_ ?_ (m7 3 (by decide) (by decide)) (by rw [hg 207 (by decide) (by decide), hm 207 (by decide) (by decide)]), ⟨?_, ?_⟩, REd_fr h4 ?_ ?_ (by rw [hg 214 (by decide) (by decide), hm 214 (by decide) (by decide)]) (by rw [hg 213 (by decide) (by decide), hm 213 (by decide) (by decide)]), WT_fr h5 k5 (by rw [hg 208 (by decide) (by decide), hm 208 (by decide) (by decide)]) (by rw [hg 209 (by decide) (by decide), hm 209 (by decide) (by decide)]), ?_, by rw [hg 226 (by decide) (by decide), hg 227 (by decide) (by decide), hm 226 (by decide) (by decide), hm 227 (by decide) (by decide)]; exact h7⟩, ⟨w4, w5⟩, ⟨by omega, fun _ => ?_⟩⟩
      · rw [hg 2 (by decide) (by decide)]; simp (disch := omega) only [cg_up_o]
      · rw [hg 3 (by decide) (by decide)]; simp (disch := omega) only [cg_up_o]
      · rw [hg 1 (by decide) (by decide), cg_up_o (by decide), cg_up_k (by decide), cg_up_o (by omega), k5]; exact h2
      · omega
      · intro a ha; rw [hg _ (by omega) (by omega)]; simp (disch := omega) only [cg_up_o]
      · intro a ha
        rw [hg _ (by omega) (by omega), cg_up_o (by omega), cg_up_o (by omega)]
        by_cases c : 20 + 13 * a = 1 + 18 + 1 + 13 * (f 1 7).toNatClampNeg
        · rw [c, cg_up_k (by decide)]
        · rw [cg_up_o c]
      · intro a ha
        have e4 : f2 210 = cj_up (f 210) (f 206 8).toNatClampNeg x1 := by rw [show f2 210 = _ from m6, hm (206 + 4) (by decide) (by decide)]
        rw [e4, k5]
        have hc8 := t_cl (f 206 8)
        by_cases c : a = (f 206 8).toNatClampNeg
        · rw [c, cj_up_s]; omega
        · rw [cj_up_n _ _ c]; exact h6 a (by omega)
      · rw [hg 236 (by decide) (by decide), cg_up_s, t_eq]; omega
  · obtain ⟨q1, q2⟩ := Q_inr q
    clear q
    subst q2
    rcases m4 with ⟨m5, m6, m7⟩ | ⟨m5, -, -⟩
    · refine ⟨k, f1, e1, b, f2, w1, w2, rfl, m1, m2, hg 0 (by decide) (by decide), REL_same ⟨h1, ⟨h2, h3⟩, h4, h5, h6, h7⟩ (fun o q3 q4 q5 => ?_) m7, ⟨w4, w5⟩, ?_⟩
      · by_cases c : o = 210
        · rw [c]; exact m6
        · exact hg o q5 c
      · rcases hk with ⟨rfl, rfl⟩ | ⟨rfl, rfl⟩ <;> exact ⟨by omega, fun z => by omega⟩
    · exfalso; rcases hk with ⟨rfl, rfl⟩ | ⟨rfl, rfl⟩ <;> omega
theorem ix4 {x y : Int32} (hx : 0 ≤ x.toInt ∧ x.toInt ≤ 8) (hy : 0 ≤ y.toInt ∧ y.toInt < 4) : (nI 4 * x + y).toNatClampNeg = 4 * x.toNatClampNeg + y.toNatClampNeg := by
  have h1 : (nI 4 * x).toInt = (4 : Nat) * x.toInt := t_mulc (by decide) (by omega)
  have h2 : (nI 4 * x + y).toInt = (nI 4 * x).toInt + y.toInt := t_addn (by omega)
  rw [t_cl, t_cl, t_cl]
  omega
theorem cs_claim {L : Nat} {f : cg_G} {e : Nat × Nat} {x1 x2 x3 : Int32} (hI : cI L f) (h : REL f) : CS L f e 111 [.ref 1, .int x1, .int x2, .int x3, .ref 236] 115 [.ref 206, .int x1, .int x2, .int x3] CMP := by
  obtain ⟨k, f1, e1, w1, w2, w3, w4, w5, w6⟩ := w_claim (L := L) (f := f) (e := e) (a0 := 1) s_1 rfl (c_C_claim (x1 := x1) (x2 := x2) (x3 := x3) hI s_1) (fun k g q => (Q_inr q).1.elim (fun z => Or.inl z.1) (fun z => Or.inr z.1)) (fun v g q => Q_val q)
  have hm : ∀ o, 124 ≤ o → o ≠ 236 → f1 o = f o := fun o q1 q2 => w3 o (fun z => z.elim (fun y => by omega) q2)
  have hf0 : f1 0 = f 0 := w3 0 (fun z => by omega)
  obtain ⟨v, f2, m1, m2, m3, m4⟩ := c_M_claim (x1 := x1) (x2 := x2) (x3 := x3) (e := e1) w2 s_190
  obtain ⟨b, rfl, m4⟩ := m4
  have hg : ∀ o, o ≠ 206 → o ≠ 214 → f2 o = f1 o := fun o q1 q2 => m3 o (fun z => z.elim q1 q2)
  have hb := (cI_at hI 7 s_1).2.2.1 rfl
  have hc1 := t_cl x1
  have hc2 := t_cl x2
  rw [hm 206 (by decide) (by decide), hm (206 + 8) (by decide) (by decide)] at m4
  obtain ⟨h1, ⟨h2, h3⟩, h4, h5, h6, h7⟩ := h
  have z0 : (nI 0).toInt = 0 := nI_toInt (by decide)
  have z1 : (nI 1).toInt = 1 := nI_toInt (by decide)
  have z2 : (nI 2).toInt = 2 := nI_toInt (by decide)
  rcases w6 with ⟨x, fa, rfl, rfl, q⟩ | ⟨kk, q, hk⟩
  · obtain ⟨q1, q2, q3⟩ := Q_inl q
    clear q
    rcases m4 with ⟨m5, -, -⟩ | ⟨m5, m6, m7, m8⟩
    · exfalso; omega
    · have ei := ix4 (x := x1) (y := x2) (by omega) (by omega)
      have e8 : f2 214 = cj_up (f 214) (4 * x1.toNatClampNeg + x2.toNatClampNeg) x3 := by rw [← ei]; exact m7
      subst q3
      refine ⟨nI 0, _, e1, b, f2, w1, w2, hf0, m1, m2, hg 0 (by decide) (by decide), ⟨RPd_fr h1 ?_ ?_ (m8 3 (by decide)) (by rw [hg 207 (by decide) (by decide), hm 207 (by decide) (by decide)]), ⟨?_, ?_⟩, ⟨?_, ?_⟩, WT_fr h5 (m8 5 (by decide)) (by rw [hg 208 (by decide) (by decide), hm 208 (by decide) (by decide)]) (by rw [hg 209 (by decide) (by decide), hm 209 (by decide) (by decide)]), TE_fr h6 (by rw [m8 5 (by decide)]; omega) (m8 8 (by decide)) (by rw [hg 210 (by decide) (by decide), hm 210 (by decide) (by decide)]), by rw [hg 226 (by decide) (by decide), hg 227 (by decide) (by decide), hm 226 (by decide) (by decide), hm 227 (by decide) (by decide)]; exact h7⟩, ⟨w4, w5⟩, ⟨by omega, fun _ => ?_⟩⟩
      · rw [hg 2 (by decide) (by decide)]; simp (disch := omega) only [cg_up_o]
      · rw [hg 3 (by decide) (by decide)]; simp (disch := omega) only [cg_up_o]
      · rw [hg 1 (by decide) (by decide), m8 5 (by decide)]; simp (disch := omega) only [cg_up_o]; exact h2
      · rw [hg 1 (by decide) (by decide), m8 8 (by decide)]; simp (disch := omega) only [cg_up_o]; exact h3
      · intro a c ha hc
        rw [hg _ (by omega) (by omega), e8, cg_up_o (by omega)]
        by_cases d : a = x1.toNatClampNeg
        · subst d
          rw [show 22 + 13 * x1.toNatClampNeg = 1 + 18 + 1 + 13 * x1.toNatClampNeg + 2 by omega, cg_up_row]
          by_cases d2 : c = x2.toNatClampNeg
          · subst d2; rw [cj_up_s, cj_up_s]
          · rw [cj_up_n _ _ d2, cj_up_n _ _ (by omega), show 1 + 18 + 1 + 13 * x1.toNatClampNeg + 2 = 22 + 13 * x1.toNatClampNeg by omega]; exact h4.1 _ c ha hc
        · rw [cg_up_o (by omega), cj_up_n _ _ (by omega)]; exact h4.1 a c ha hc
      · intro a ha
        rw [hg _ (by omega) (by omega), hg 213 (by decide) (by decide), hm 213 (by decide) (by decide), cg_up_o (by omega), cg_up_o (by omega)]; exact h4.2 a ha
      · rw [hg 236 (by decide) (by decide), cg_up_s, q2, m6, ei, show 1 + 18 + 1 + 13 * x1.toNatClampNeg + 2 = 22 + 13 * x1.toNatClampNeg by omega]
        exact h4.1 _ _ (by omega) (by omega)
  · obtain ⟨q1, q2⟩ := Q_inr q
    clear q
    subst q2
    rcases m4 with ⟨m5, m6, m7⟩ | ⟨m5, -, -, -⟩
    · refine ⟨k, f1, e1, b, f2, w1, w2, rfl, m1, m2, hg 0 (by decide) (by decide), REL_same ⟨h1, ⟨h2, h3⟩, h4, h5, h6, h7⟩ (fun o q3 q4 q5 => ?_) m7, ⟨w4, w5⟩, ?_⟩
      · by_cases c : o = 214
        · rw [c]; exact m6
        · exact hg o q5 c
      · rcases hk with ⟨rfl, rfl⟩ | ⟨rfl, rfl⟩ <;> exact ⟨by omega, fun z => by omega⟩
    · exfalso; rcases hk with ⟨rfl, rfl⟩ | ⟨rfl, rfl⟩ <;> omega
theorem cs_picture {L : Nat} {f : cg_G} {e : Nat × Nat} {x1 x2 : Int32} (hI : cI L f) (h : REL f) : CS L f e 114 [.ref 1, .int x1, .int x2, .ref 236] 119 [.ref 206, .int x1, .int x2] CMP := by
  obtain ⟨k, f1, e1, w1, w2, w3, w4, w5, w6⟩ := w_picture (L := L) (f := f) (e := e) (a0 := 1) s_1 rfl (c_C_picture (x1 := x1) (x2 := x2) hI s_1) (fun k g q => (Q_inr q).1.elim (fun z => Or.inl z.1) (fun z => Or.inr z.1)) (fun v g q => Q_val q)
  have hm : ∀ o, 124 ≤ o → o ≠ 236 → f1 o = f o := fun o q1 q2 => w3 o (fun z => z.elim (fun y => by omega) q2)
  have hf0 : f1 0 = f 0 := w3 0 (fun z => by omega)
  obtain ⟨v, f2, m1, m2, m3, m4⟩ := c_M_picture (x1 := x1) (x2 := x2) (e := e1) w2 s_190
  obtain ⟨b, rfl, m4⟩ := m4
  have hg : ∀ o, o ≠ 206 → o ≠ 213 → f2 o = f1 o := fun o q1 q2 => m3 o (fun z => z.elim q1 q2)
  have hb := (cI_at hI 7 s_1).2.2.1 rfl
  have hc1 := t_cl x1
  rw [hm 206 (by decide) (by decide), hm (206 + 7) (by decide) (by decide)] at m4
  obtain ⟨h1, ⟨h2, h3⟩, h4, h5, h6, h7⟩ := h
  have z0 : (nI 0).toInt = 0 := nI_toInt (by decide)
  have z1 : (nI 1).toInt = 1 := nI_toInt (by decide)
  have z2 : (nI 2).toInt = 2 := nI_toInt (by decide)
  rcases w6 with ⟨x, fa, rfl, rfl, q⟩ | ⟨kk, q, hk⟩
  · obtain ⟨q1, q2, q3⟩ := Q_inl q
    clear q
    rcases m4 with ⟨m5, -, -⟩ | ⟨m5, m6, m7, m8⟩
    · exfalso; omega
    · have e8 : f2 213 = cj_up (f 213) x1.toNatClampNeg x2 := m7
      subst q3
      refine ⟨nI 0, _, e1, b, f2, w1, w2, hf0, m1, m2, hg 0 (by decide) (by decide), ⟨RPd_fr h1 ?_ ?_ (m8 3 (by decide)) (by rw [hg 207 (by decide) (by decide), hm 207 (by decide) (by decide)]), ⟨?_, ?_⟩, ⟨?_, ?_⟩, WT_fr h5 (m8 5 (by decide)) (by rw [hg 208 (by decide) (by decide), hm 208 (by decide) (by decide)]) (by rw [hg 209 (by decide) (by decide), hm 209 (by decide) (by decide)]), TE_fr h6 (by rw [m8 5 (by decide)]; omega) (m8 8 (by decide)) (by rw [hg 210 (by decide) (by decide), hm 210 (by decide) (by decide)]), by rw [hg 226 (by decide) (by decide), hg 227 (by decide) (by decide), hm 226 (by decide) (by decide), hm 227 (by decide) (by decide)]; exact h7⟩, ⟨w4, w5⟩, ⟨by omega, fun _ => ?_⟩⟩
      · rw [hg 2 (by decide) (by decide)]; simp (disch := omega) only [cg_up_o]
      · rw [hg 3 (by decide) (by decide)]; simp (disch := omega) only [cg_up_o]
      · rw [hg 1 (by decide) (by decide), m8 5 (by decide)]; simp (disch := omega) only [cg_up_o]; exact h2
      · rw [hg 1 (by decide) (by decide), m8 8 (by decide)]; simp (disch := omega) only [cg_up_o]; exact h3
      · intro a c ha hc
        rw [hg _ (by omega) (by omega), hg 214 (by decide) (by decide), hm 214 (by decide) (by decide), cg_up_o (by omega), cg_up_o (by omega)]; exact h4.1 a c ha hc
      · intro a ha
        rw [hg _ (by omega) (by omega), e8, cg_up_o (by omega)]
        by_cases d : a = x1.toNatClampNeg
        · subst d
          rw [show 20 + 13 * x1.toNatClampNeg = 1 + 18 + 1 + 13 * x1.toNatClampNeg by omega, cg_up_s, cj_up_s]
        · rw [cg_up_o (by omega), cj_up_n _ _ d]; exact h4.2 a ha
      · rw [hg 236 (by decide) (by decide), cg_up_s, q2, m6, show 1 + 18 + 1 + 13 * x1.toNatClampNeg = 20 + 13 * x1.toNatClampNeg by omega]
        exact h4.2 _ (by omega)
  · obtain ⟨q1, q2⟩ := Q_inr q
    clear q
    subst q2
    rcases m4 with ⟨m5, m6, m7⟩ | ⟨m5, -, -, -⟩
    · refine ⟨k, f1, e1, b, f2, w1, w2, rfl, m1, m2, hg 0 (by decide) (by decide), REL_same ⟨h1, ⟨h2, h3⟩, h4, h5, h6, h7⟩ (fun o q3 q4 q5 => ?_) m7, ⟨w4, w5⟩, ?_⟩
      · by_cases c : o = 213
        · rw [c]; exact m6
        · exact hg o q5 c
      · rcases hk with ⟨rfl, rfl⟩ | ⟨rfl, rfl⟩ <;> exact ⟨by omega, fun z => by omega⟩
    · exfalso; rcases hk with ⟨rfl, rfl⟩ | ⟨rfl, rfl⟩ <;> omega
