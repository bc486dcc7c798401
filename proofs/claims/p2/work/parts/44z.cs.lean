/-! one call on both sides: template, field, order, unit -/
theorem fwv_cg {f : cg_G} (h : RPd f) : fwv (f 3) (f 2 1) = fwv (f 207) (f 206 3) := by
  have e : f 2 1 = f 206 3 := t_eq.mpr h.1
  rw [fwv_eq, fwv_eq, e]
  exact fw_cg _ 0 0 0 0 (fun j _ hj => h.2 j (by have := t_cl (f 206 3); omega))
theorem cs_template {L : Nat} {f : cg_G} {e : Nat × Nat} (hI : cI L f) (h : REL f) : CS L f e 141 [.ref 1, .ref 236] 122 [.ref 206] CMP := by
  obtain ⟨k, f1, e1, w1, w2, w3, w4, w5, w6⟩ := w_template (L := L) (f := f) (e := e) (a0 := 1) s_1 rfl (c_C_template hI s_1) (fun k g q => (Q_inr q).1) (fun v g q => Q_val q)
  have hm : ∀ o, 19 ≤ o → o ≠ 236 → f1 o = f o := fun o q1 q2 => w3 o (fun z => z.elim (fun y => by omega) q2)
  have hf0 : f1 0 = f 0 := w3 0 (fun z => by omega)
  obtain ⟨h1, ⟨h2, h3⟩, h4, h5, h6, h7⟩ := h
  have wt1 : WT f1 := WT_fr h5 (by rw [hm 206 (by decide) (by decide)]) (hm 208 (by decide) (by decide)) (hm 209 (by decide) (by decide))
  obtain ⟨v, f2, m1, m2, m3, m4⟩ := c_M_template (e := e1) w2 s_190 wt1
  obtain ⟨b, rfl, m4, m5, -, m6⟩ := m4
  have hg : ∀ o, o ≠ 206 → o ≠ 208 → o ≠ 209 → f2 o = f1 o := fun o q1 q2 q3 => m3 o (fun z => z.elim q1 (fun y => y.elim q2 q3))
  have hW : fwv (f (1 + 1 + 1)) (f (1 + 1) 1) = fwv (f (206 + 1)) (f 206 3) := fwv_cg h1
  rw [hm 206 (by decide) (by decide), hm (206 + 1) (by decide) (by decide)] at m4
  rw [hm 206 (by decide) (by decide)] at m6
  have z0 : (nI 0).toInt = 0 := nI_toInt (by decide)
  have z1 : (nI 1).toInt = 1 := nI_toInt (by decide)
  have z2 : (nI 2).toInt = 2 := nI_toInt (by decide)
  rcases w6 with ⟨x, fa, rfl, rfl, q⟩ | ⟨kk, q, hk⟩
  · obtain ⟨q1, q2, q3, q4⟩ := Q_inl q
    clear q
    rw [hW] at q2
    rcases m4 with ⟨m7, -⟩ | ⟨m7, m8, m9, m10⟩
    · exfalso; omega
    · have a6 : (f2 1 6).toInt = (fa 1 6).toInt := by rw [hg 1 (by decide) (by decide) (by decide), cg_up_o (by decide)]
      have a5 : (fa 1 6).toInt = (f2 206 5).toInt ∧ x.toInt = b.toInt ∧ (f 206 5).toInt ≤ (f2 206 5).toInt := by
        rcases q2 with ⟨u1, u2, u3⟩ | ⟨u1, u2, u3⟩
        · rcases m10 with ⟨v1, v2, v3⟩ | ⟨v1, -, -⟩
          · exact ⟨by omega, by omega, by omega⟩
          · exact absurd v1 u1
        · rcases m10 with ⟨v1, -, -⟩ | ⟨v1, v2, v3⟩
          · exact absurd u1 v1
          · exact ⟨by omega, by omega, by omega⟩
      refine ⟨nI 0, _, e1, b, f2, w1, w2, hf0, m1, m2, hg 0 (by decide) (by decide) (by decide), ⟨RPd_z (by rw [hg 2 (by decide) (by decide) (by decide), cg_up_o (by decide)]; exact q3) m9, ⟨by rw [a6]; exact a5.1, ?_⟩, REd_fr h4 (fun a ha => by rw [hg _ (by omega) (by omega) (by omega), hm _ (by omega) (by omega)]) (fun a ha => by rw [hg _ (by omega) (by omega) (by omega), hm _ (by omega) (by omega)]) (by rw [hg 214 (by decide) (by decide) (by decide), hm 214 (by decide) (by decide)]) (by rw [hg 213 (by decide) (by decide) (by decide), hm 213 (by decide) (by decide)]), m5, TE_fr h6 a5.2.2 (m6 8 (by decide) (by decide) (by decide)) (by rw [hg 210 (by decide) (by decide) (by decide), hm 210 (by decide) (by decide)]), by rw [hg 226 (by decide) (by decide) (by decide), hg 227 (by decide) (by decide) (by decide), hm 226 (by decide) (by decide), hm 227 (by decide) (by decide)]; exact h7⟩, ⟨w4, w5⟩, ⟨by omega, fun _ => ?_⟩⟩
      · rw [hg 1 (by decide) (by decide) (by decide), cg_up_o (by decide), q4 7 (by decide), m6 8 (by decide) (by decide) (by decide)]; exact h3
      · rw [hg 236 (by decide) (by decide) (by decide), cg_up_s, t_eq]; exact a5.2.1
  · obtain ⟨q1, q2, q3⟩ := Q_inr q
    clear q
    subst q3
    obtain ⟨rfl, rfl⟩ := hk
    rcases m4 with ⟨m7, m8, m9, m10⟩ | ⟨m7, -⟩
    · have k3 : f2 206 3 = f1 206 3 := t_eq.mpr m9
      have k5 : f2 206 5 = f1 206 5 := t_eq.mpr m10
      refine ⟨nI 1, f1, e1, b, f2, w1, w2, rfl, m1, m2, hg 0 (by decide) (by decide) (by decide), ⟨RPd_fr h1 (by rw [hg 2 (by decide) (by decide) (by decide)]) (hg 3 (by decide) (by decide) (by decide)) k3 (hg 207 (by decide) (by decide) (by decide)), ⟨by rw [hg 1 (by decide) (by decide) (by decide), k5]; exact h2, by rw [hg 1 (by decide) (by decide) (by decide), m6 8 (by decide) (by decide) (by decide)]; exact h3⟩, REd_fr h4 (fun a ha => hg _ (by omega) (by omega) (by omega)) (fun a ha => by rw [hg _ (by omega) (by omega) (by omega)]) (hg 214 (by decide) (by decide) (by decide)) (hg 213 (by decide) (by decide) (by decide)), m5, TE_fr h6 (by rw [k5]; omega) (m6 8 (by decide) (by decide) (by decide)) (hg 210 (by decide) (by decide) (by decide)), by rw [hg 226 (by decide) (by decide) (by decide), hg 227 (by decide) (by decide) (by decide)]; exact h7⟩, ⟨w4, w5⟩, ⟨by omega, fun z => by omega⟩⟩
    · exfalso; omega
theorem cs_order {L : Nat} {f : cg_G} {e : Nat × Nat} (hI : cI L f) (h : REL f) : CS L f e 140 [.ref 1, .ref 236] 93 [.ref 206] CMP := by
  obtain ⟨k, f1, e1, w1, w2, w3, w4, w5, w6⟩ := w_order (L := L) (f := f) (e := e) (a0 := 1) s_1 rfl (c_C_order hI s_1) (fun k g q => (Q_inr q).1) (fun v g q => Q_val q)
  have hm : ∀ o, 6 ≤ o → o ≠ 236 → f1 o = f o := fun o q1 q2 => w3 o (fun z => z.elim (fun y => by omega) q2)
  have hf0 : f1 0 = f 0 := w3 0 (fun z => by omega)
  have hf1 : f1 1 = f 1 := w3 1 (fun z => by omega)
  obtain ⟨h1, ⟨h2, h3⟩, h4, h5, h6, h7⟩ := h
  obtain ⟨v, f2, m1, m2, m3, m4⟩ := c_M_order (e := e1) w2 s_190
  obtain ⟨b, rfl, m4⟩ := m4
  have hg : ∀ o, o ≠ 206 → o ≠ 215 → f2 o = f1 o := fun o q1 q2 => m3 o (fun z => z.elim q1 q2)
  have hO : ordG (f (1 + 1 + 1)) (f (1 + 1) 1).toInt ↔ ordG (f (206 + 1)) (f 206 3).toInt := by rw [show (f (1 + 1) 1).toInt = (f 206 3).toInt from h1.1]; exact ordG_cg h1.2
  rw [hm 206 (by decide) (by decide), hm (206 + 1) (by decide) (by decide)] at m4
  have z0 : (nI 0).toInt = 0 := nI_toInt (by decide)
  have z1 : (nI 1).toInt = 1 := nI_toInt (by decide)
  have z2 : (nI 2).toInt = 2 := nI_toInt (by decide)
  rcases w6 with ⟨x, fa, rfl, rfl, q⟩ | ⟨kk, q, hk⟩
  · obtain ⟨q1, q2, q3⟩ := Q_inl q
    clear q
    rcases m4 with ⟨m5, -, -⟩ | ⟨-, m6, m7, m8, m9⟩
    · exact absurd (hO.mp q1) m5
    · refine ⟨nI 0, _, e1, b, f2, w1, w2, hf0, m1, m2, hg 0 (by decide) (by decide), ⟨RPd_z (by rw [hg 2 (by decide) (by decide), cg_up_o (by decide)]; exact q3) m8, ⟨by rw [hg 1 (by decide) (by decide), hf1, m9 5 (by decide) (by decide) (by decide)]; exact h2, by rw [hg 1 (by decide) (by decide), hf1, m9 8 (by decide) (by decide) (by decide)]; exact h3⟩, REd_fr h4 (fun a ha => by rw [hg _ (by omega) (by omega), hm _ (by omega) (by omega)]) (fun a ha => by rw [hg _ (by omega) (by omega), hm _ (by omega) (by omega)]) (by rw [hg 214 (by decide) (by decide), hm 214 (by decide) (by decide)]) (by rw [hg 213 (by decide) (by decide), hm 213 (by decide) (by decide)]), WT_fr h5 (m9 5 (by decide) (by decide) (by decide)) (by rw [hg 208 (by decide) (by decide), hm 208 (by decide) (by decide)]) (by rw [hg 209 (by decide) (by decide), hm 209 (by decide) (by decide)]), TE_fr h6 (by rw [m9 5 (by decide) (by decide) (by decide)]; omega) (m9 8 (by decide) (by decide) (by decide)) (by rw [hg 210 (by decide) (by decide), hm 210 (by decide) (by decide)]), by rw [hg 226 (by decide) (by decide), hg 227 (by decide) (by decide), hm 226 (by decide) (by decide), hm 227 (by decide) (by decide)]; exact h7⟩, ⟨w4, w5⟩, ⟨by omega, fun _ => ?_⟩⟩
      rw [hg 236 (by decide) (by decide), cg_up_s, t_eq, q2, m7]; exact h1.1
  · obtain ⟨q1, q2, q3⟩ := Q_inr q
    clear q
    subst q3
    obtain ⟨rfl, rfl⟩ := hk
    rcases m4 with ⟨m5, m6, m7⟩ | ⟨m5, -, -, -, -⟩
    · exact ⟨nI 1, f1, e1, b, f2, w1, w2, rfl, m1, m2, hg 0 (by decide) (by decide), ⟨RPd_fr h1 (by rw [hg 2 (by decide) (by decide)]) (hg 3 (by decide) (by decide)) (m7 3 (by decide)) (hg 207 (by decide) (by decide)), ⟨by rw [hg 1 (by decide) (by decide), m7 5 (by decide)]; exact h2, by rw [hg 1 (by decide) (by decide), m7 8 (by decide)]; exact h3⟩, REd_fr h4 (fun a ha => hg _ (by omega) (by omega)) (fun a ha => by rw [hg _ (by omega) (by omega)]) (hg 214 (by decide) (by decide)) (hg 213 (by decide) (by decide)), WT_fr h5 (m7 5 (by decide)) (hg 208 (by decide) (by decide)) (hg 209 (by decide) (by decide)), TE_fr h6 (by rw [m7 5 (by decide)]; omega) (m7 8 (by decide)) (hg 210 (by decide) (by decide)), by rw [hg 226 (by decide) (by decide), hg 227 (by decide) (by decide)]; exact h7⟩, ⟨w4, w5⟩, ⟨by omega, fun z => by omega⟩⟩
    · exact absurd (hO.mpr m5) q2
theorem cs_field {L : Nat} {f : cg_G} {e : Nat × Nat} {x1 x2 : Int32} (hI : cI L f) (h : REL f) : CS L f e 139 [.ref 1, .int x1, .int x2, .ref 236] 116 [.ref 206, .int x1, .int x2] CMP := by
  obtain ⟨k, f1, e1, w1, w2, w3, w4, w5, w6⟩ := w_field (L := L) (f := f) (e := e) (a0 := 1) s_1 rfl (c_C_field (x1 := x1) (x2 := x2) hI s_1) (fun k g q => (Q_inr q).1.elim (fun z => Or.inl z.1) (fun z => Or.inr z.1)) (fun v g q => Q_val q)
  obtain ⟨h1, ⟨h2, h3⟩, h4, h5, h6, h7⟩ := h
  obtain ⟨v, f2, m1, m2, m3, m4⟩ := c_M_field (x1 := x1) (x2 := x2) (e := e1) w2 s_190
  obtain ⟨b, rfl, m4⟩ := m4
  have hg : ∀ o, o ≠ 206 → o ≠ 211 → o ≠ 212 → f2 o = f1 o := fun o q1 q2 q3 => m3 o (fun z => z.elim q1 (fun y => y.elim q2 q3))
  have hO : plnG (f (1 + 1 + 1)) (f (1 + 1) 1).toInt ↔ plnG (f (206 + 1)) (f 206 3).toInt := by rw [show (f (1 + 1) 1).toInt = (f 206 3).toInt from h1.1]; exact plnG_cg h1.2
  have hb := (cI_at hI 7 s_1).2.2.1 rfl
  have hc1 := t_cl x1
  have hc2 := t_cl x2
  have z0 : (nI 0).toInt = 0 := nI_toInt (by decide)
  have z1 : (nI 1).toInt = 1 := nI_toInt (by decide)
  have z2 : (nI 2).toInt = 2 := nI_toInt (by decide)
  rcases w6 with ⟨x, fa, rfl, rfl, q⟩ | ⟨kk, q, hk⟩
  · obtain ⟨q1, q2, q3, q4⟩ := Q_inl q
    clear q
    have hm : ∀ o, 124 ≤ o → o ≠ 236 → cg_up fa 236 0 x o = f o := fun o u1 u2 => w3 o (fun z => z.elim (fun y => by omega) u2)
    have hf0 : cg_up fa 236 0 x 0 = f 0 := w3 0 (fun z => by omega)
    have hf1 : cg_up fa 236 0 x 1 = f 1 := w3 1 (fun z => by omega)
    have hma : ∀ a : Nat, a < 8 → cg_up fa 236 0 x (22 + 13 * a) = f (22 + 13 * a) := fun a ha => w3 _ (fun z => by omega)
    have hmb : ∀ a : Nat, a < 8 → cg_up fa 236 0 x (20 + 13 * a) = f (20 + 13 * a) := fun a ha => w3 _ (fun z => by omega)
    rw [hm 206 (by decide) (by decide), hm (206 + 1) (by decide) (by decide)] at m4
    rcases m4 with ⟨m5, -⟩ | ⟨-, -, m6, m7, m8, m9⟩
    · rcases m5 with ⟨m5, -⟩ | ⟨-, m5, -⟩
      · exfalso; omega
      · exact absurd (hO.mp q2) m5
    · refine ⟨nI 0, _, e1, b, f2, w1, w2, hf0, m1, m2, hg 0 (by decide) (by decide) (by decide), ⟨RPd_z (by rw [hg 2 (by decide) (by decide) (by decide), cg_up_o (by decide)]; exact q4) m8, ⟨by rw [hg 1 (by decide) (by decide) (by decide), hf1, m9 5 (by decide) (by decide)]; exact h2, by rw [hg 1 (by decide) (by decide) (by decide), hf1, m9 8 (by decide) (by decide)]; exact h3⟩, REd_fr h4 (fun a ha => by rw [hg _ (by omega) (by omega) (by omega), hma a ha]) (fun a ha => by rw [hg _ (by omega) (by omega) (by omega), hmb a ha]) (by rw [hg 214 (by decide) (by decide) (by decide), hm 214 (by decide) (by decide)]) (by rw [hg 213 (by decide) (by decide) (by decide), hm 213 (by decide) (by decide)]), WT_fr h5 (m9 5 (by decide) (by decide)) (by rw [hg 208 (by decide) (by decide) (by decide), hm 208 (by decide) (by decide)]) (by rw [hg 209 (by decide) (by decide) (by decide), hm 209 (by decide) (by decide)]), TE_fr h6 (by rw [m9 5 (by decide) (by decide)]; omega) (m9 8 (by decide) (by decide)) (by rw [hg 210 (by decide) (by decide) (by decide), hm 210 (by decide) (by decide)]), by rw [hg 226 (by decide) (by decide) (by decide), hg 227 (by decide) (by decide) (by decide), hm 226 (by decide) (by decide), hm 227 (by decide) (by decide)]; exact h7⟩, ⟨w4, w5⟩, ⟨by omega, fun _ => ?_⟩⟩
      rw [hg 236 (by decide) (by decide) (by decide), cg_up_s, t_eq, q3, m7]; exact h1.1
  · obtain ⟨q1, q3⟩ := Q_inr q
    clear q
    subst q3
    have hfail : ∀ (m7 : ∀ k, k ≠ 2 → f2 206 k = f1 206 k), REL f2 := fun m7 => ⟨RPd_fr h1 (by rw [hg 2 (by decide) (by decide) (by decide)]) (hg 3 (by decide) (by decide) (by decide)) (m7 3 (by decide)) (hg 207 (by decide) (by decide) (by decide)), ⟨by rw [hg 1 (by decide) (by decide) (by decide), m7 5 (by decide)]; exact h2, by rw [hg 1 (by decide) (by decide) (by decide), m7 8 (by decide)]; exact h3⟩, REd_fr h4 (fun a ha => hg _ (by omega) (by omega) (by omega)) (fun a ha => by rw [hg _ (by omega) (by omega) (by omega)]) (hg 214 (by decide) (by decide) (by decide)) (hg 213 (by decide) (by decide) (by decide)), WT_fr h5 (m7 5 (by decide)) (hg 208 (by decide) (by decide) (by decide)) (hg 209 (by decide) (by decide) (by decide)), TE_fr h6 (by rw [m7 5 (by decide)]; omega) (m7 8 (by decide)) (hg 210 (by decide) (by decide) (by decide)), by rw [hg 226 (by decide) (by decide) (by decide), hg 227 (by decide) (by decide) (by decide)]; exact h7⟩
    rcases q1 with ⟨rfl, q1⟩ | ⟨rfl, q1, q2⟩
    · have hk1 : k = nI 1 := by rcases hk with ⟨-, hk⟩ | ⟨hk, -⟩; exact hk; cases hk
      subst hk1
      rcases m4 with ⟨m5, m6⟩ | ⟨m5, -, -, -, -, -⟩
      · rcases m5 with ⟨-, m5⟩ | ⟨m5, -, -⟩
        · exact ⟨nI 1, f1, e1, b, f2, w1, w2, rfl, m1, m2, hg 0 (by decide) (by decide) (by decide), hfail m6, ⟨w4, w5⟩, ⟨by omega, fun z => by omega⟩⟩
        · exfalso; omega
      · exfalso; omega
    · have hk1 : k = nI 2 := by rcases hk with ⟨hk, -⟩ | ⟨-, hk⟩; cases hk; exact hk
      subst hk1
      rcases m4 with ⟨m5, m6⟩ | ⟨-, m5, -, -, -, -⟩
      · rcases m5 with ⟨m5, -⟩ | ⟨-, -, m5⟩
        · exfalso; omega
        · exact ⟨nI 2, f1, e1, b, f2, w1, w2, rfl, m1, m2, hg 0 (by decide) (by decide) (by decide), hfail m6, ⟨w4, w5⟩, ⟨by omega, fun z => by omega⟩⟩
      · exact absurd (hO.mpr m5) q2
