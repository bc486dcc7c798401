/-! what was left -/
theorem lw_done : lw_goal := by
  intro L xs hL
  obtain ⟨f0, e0, h1, h2, h3, h4, h5⟩ := lw_start (xs := xs) hL
  have z2 : (nI 2).toInt = 2 := nI_toInt (by decide)
  obtain ⟨M', q1, q2, q3⟩ := lw_loop hL 3000 (f := f0) (e := e0) (x4 := nI 2) (u5 := .retAddr 0) (u6 := .retAddr 0) (by rw [z2]; omega) h2 h3 (by rw [z2]; decide) (by rw [z2]; decide) (by omega) (by omega)
  exact ⟨M', h1.trans q1, q2, q3⟩
theorem i_vc : Claimed_1_1 ∧ Claimed_1_2 := lw_vc lw_done
