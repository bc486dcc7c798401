/-! the templates that were taken -/
def WT (f : cg_G) : Prop := ∀ t : Nat, (t : Int) < (f 206 5).toInt → wfT f t (f 208 t).toNatClampNeg
def TE_ (f : cg_G) : Prop := ∀ e : Nat, (e : Int) < (f 206 8).toInt → (f 210 e).toInt < (f 206 5).toInt
theorem WT_fr {f f0 : cg_G} (w : WT f0) (h5 : f 206 5 = f0 206 5) (h2 : f 208 = f0 208) (h3 : f 209 = f0 209) : WT f := by
  intro t ht
  rw [h5] at ht
  rw [h2]
  exact wfT_fr h3 (w t ht)
theorem TE_fr {f f0 : cg_G} (w : TE_ f0) (h5 : (f0 206 5).toInt ≤ (f 206 5).toInt) (h8 : f 206 8 = f0 206 8) (h4 : f 210 = f0 210) : TE_ f := by
  intro e he
  rw [h8] at he
  rw [h4]
  have := w e he
  omega
theorem WF_of {L : Nat} {f : cg_G} (hI : cI L f) (w : WT f) (t : TE_ f) : WF f := by
  intro e he
  have h1 := t e he
  have h2 := (cI_at hI e (show sh_ 210 = 100 by decide +kernel)).2.1 rfl
  exact w _ (by rw [t_cl]; omega)
theorem mkc_loc {f f0 : cg_G} {t : Nat} : ∀ n, (∀ k, k < n → sg f t k = sg f0 t k) → mkc f t n = mkc f0 t n
  | 0, _ => rfl
  | n + 1, h => by
    show mkc f t n + (if sg f t n = 35 ∨ sg f t n = 64 then 1 else 0) = mkc f0 t n + (if sg f0 t n = 35 ∨ sg f0 t n = 64 then 1 else 0)
    rw [mkc_loc n (fun k hk => h k (by omega)), h n (by omega)]
theorem wfT_loc {f f0 : cg_G} {t n : Nat} (e : ∀ k, k < n → sg f t k = sg f0 t k) (w : wfT f0 t n) : wfT f t n := by
  refine ⟨by rw [mkc_loc n e]; exact w.1, fun k hk => ?_⟩
  have q := w.2 k hk
  refine ⟨fun z => ?_, fun z => ?_, fun z => ?_⟩
  · rw [e k hk] at z; have q2 := q.1 z; rw [e (k + 1) q2.1]; exact q2
  · rw [e k hk] at z; have q2 := q.2.1 z; rw [e (k + 1) q2.1]; exact q2
  · rw [e k hk] at z
    obtain ⟨j, j1, j2, j3⟩ := q.2.2 z
    exact ⟨j, j1, j2, by rw [e j j2]; exact j3⟩
theorem WT_old {L : Nat} {f f0 F : cg_G} (hI : cI L f) (r2 : f 208 = f0 208) (w : WT f0) {t : Nat} (ht : (t : Int) < (f0 206 5).toInt) (e2 : F 208 t = f0 208 t) (e3 : ∀ j : Nat, (j : Int) < 32 * (f0 206 5).toInt → F 209 j = f0 209 j) : wfT F t (F 208 t).toNatClampNeg := by
  have hb := (cI_at hI t (show sh_ 208 = 100 by decide +kernel)).1 rfl
  rw [r2] at hb
  have hc := t_cl (f0 208 t)
  rw [e2]
  exact wfT_loc (fun k hk => by unfold sg; rw [e3 _ (by omega)]) (w t ht)
theorem WT_st {L : Nat} {f f0 F : cg_G} (hI : cI L f) (r2 : f 208 = f0 208) (w : WT f0) (e5 : (F 206 5).toInt ≤ (f0 206 5).toInt) (e2 : ∀ t : Nat, (t : Int) < (f0 206 5).toInt → F 208 t = f0 208 t) (e3 : ∀ j : Nat, (j : Int) < 32 * (f0 206 5).toInt → F 209 j = f0 209 j) : WT F := fun t ht => WT_old hI r2 w (by omega) (e2 t (by omega)) e3
theorem WT_ad {L : Nat} {f f0 F : cg_G} {T : Nat} {n : Int32} (hI : cI L f) (r2 : f 208 = f0 208) (w : WT f0) (hT : (T : Int) = (f0 206 5).toInt) (e5 : (F 206 5).toInt ≤ (f0 206 5).toInt + 1) (e2 : ∀ t : Nat, (t : Int) < (f0 206 5).toInt → F 208 t = f0 208 t) (e3 : ∀ j : Nat, (j : Int) < 32 * (f0 206 5).toInt → F 209 j = f0 209 j) (en : F 208 T = n) (hf : fwv (f0 207) n = -1) (ek : ∀ k : Nat, (k : Int) < n.toInt → F 209 (32 * T + k) = f0 207 k) : WT F := by
  intro t ht
  by_cases h : (t : Int) < (f0 206 5).toInt
  · exact WT_old hI r2 w h (e2 t h) e3
  · have e : t = T := by omega
    subst e
    rw [en]
    rw [fwv_eq] at hf
    refine wf_new hf (fun k hk => ?_)
    have hc := t_cl n
    unfold sg
    rw [ek k (by omega)]
def cpT (f0 f : cg_G) (T n : Int) : Prop := (∀ j : Nat, (j : Int) < 32 * T → f 209 j = f0 209 j) ∧ ∀ k : Nat, (k : Int) < n → f 209 (32 * T.toNat + k) = f0 207 k
theorem cpT_0 {f0 f : cg_G} {a0 : Nat} {T n : Int} (hm : a0 = 206) (h : f (a0 + 3) = f0 (a0 + 3)) (hn : n ≤ 0) : cpT f0 f T n := by
  subst hm
  exact ⟨fun j _ => congrFun h j, fun k hk => by omega⟩
theorem cpT_s {f0 f : cg_G} {a0 K Q : Nat} {T n m : Int} {v : Int32} (hm : a0 = 206) (h : cpT f0 f T n) (hT : 0 ≤ T) (hn : (Q : Int) = n) (hK : (K : Int) = 32 * T + n) (hm2 : m = n + 1) (hv : v = f0 (a0 + 1) Q) : cpT f0 (cg_up f (a0 + 3) K v) T m := by
  subst hm
  have e : cg_up f (206 + 3) K v 209 = cj_up (f 209) K v := cg_up_row
  constructor
  · intro j hj
    rw [e, cj_up_n _ _ (by omega)]
    exact h.1 j hj
  · intro k hk
    rw [e]
    by_cases c : k = Q
    · subst c
      rw [show 32 * T.toNat + k = K by omega, cj_up_s, hv]
    · rw [cj_up_n _ _ (by omega)]
      exact h.2 k (by omega)
