/-! both objects made: the law up to its loop -/
theorem mC_n {C : Nat → Option cj_C} {w h : Int32} {o : Nat} (hh : ¬ (1 ≤ o ∧ o < 206)) : mC C w h o = C o := by
  unfold mC
  repeat (first | rfl | rw [cj_up_n _ _ (by omega)] | rw [mEntry_n (by omega)] | rw [mPress_n (by omega)] | rw [mSetting_n (by omega)])
theorem mM_n {C : Nat → Option cj_C} {o : Nat} (hh : ¬ (206 ≤ o ∧ o < 236)) : mM C o = C o := by
  unfold mM
  repeat (first | rfl | rw [cj_up_n _ _ (by omega)])
theorem mM_206 {C : Nat → Option cj_C} : mM C 206 = some (.inr (7, [.int (0), .int (0), .int (0), .int (0), .ref 207, .int (0), .ref 208, .ref 209, .int (0), .ref 210, .ref 211, .ref 212, .ref 213, .ref 214, .int (0), .ref 215, .int (0), .ref 216, .int (0), .ref 217, .ref 218, .ref 219, .ref 220, .int (- nI 1), .ref 221, .ref 222, .ref 223, .ref 224, .ref 225, .ref 226, .ref 227, .ref 228, .ref 229, .ref 230, .ref 231, .ref 232, .ref 233, .ref 234, .ref 235])) := by
  unfold mM
  exact cj_up_s _ _ _
set_option maxRecDepth 100000 in
theorem fm_207 {C : Nat → Option cj_C} : mM C 207 = some (.inl (0, 32, .inl (fun _ => 0))) := by
  unfold mM
  exact (cj_up_n (k := 206) (j := 207) _ _ (by decide)).trans ((cj_up_n (k := 235) (j := 207) _ _ (by decide)).trans ((cj_up_n (k := 206) (j := 207) _ _ (by decide)).trans ((cj_up_n (k := 234) (j := 207) _ _ (by decide)).trans ((cj_up_n (k := 206) (j := 207) _ _ (by decide)).trans ((cj_up_n (k := 233) (j := 207) _ _ (by decide)).trans ((cj_up_n (k := 206) (j := 207) _ _ (by decide)).trans ((cj_up_n (k := 232) (j := 207) _ _ (by decide)).trans ((cj_up_n (k := 206) (j := 207) _ _ (by decide)).trans ((cj_up_n (k := 231) (j := 207) _ _ (by decide)).trans ((cj_up_n (k := 206) (j := 207) _ _ (by decide)).trans ((cj_up_n (k := 230) (j := 207) _ _ (by decide)).trans ((cj_up_n (k := 206) (j := 207) _ _ (by decide)).trans ((cj_up_n (k := 229) (j := 207) _ _ (by decide)).trans ((cj_up_n (k := 206) (j := 207) _ _ (by decide)).trans ((cj_up_n (k := 228) (j := 207) _ _ (by decide)).trans ((cj_up_n (k := 206) (j := 207) _ _ (by decide)).trans ((cj_up_n (k := 227) (j := 207) _ _ (by decide)).trans ((cj_up_n (k := 206) (j := 207) _ _ (by decide)).trans ((cj_up_n (k := 226) (j := 207) _ _ (by decide)).trans ((cj_up_n (k := 206) (j := 207) _ _ (by decide)).trans ((cj_up_n (k := 225) (j := 207) _ _ (by decide)).trans ((cj_up_n (k := 206) (j := 207) _ _ (by decide)).trans ((cj_up_n (k := 224) (j := 207) _ _ (by decide)).trans ((cj_up_n (k := 206) (j := 207) _ _ (by decide)).trans ((cj_up_n (k := 223) (j := 207) _ _ (by decide)).trans ((cj_up_n (k := 206) (j := 207) _ _ (by decide)).trans ((cj_up_n (k := 222) (j := 207) _ _ (by decide)).trans ((cj_up_n (k := 206) (j := 207) _ _ (by decide)).trans ((cj_up_n (k := 221) (j := 207) _ _ (by decide)).trans ((cj_up_n (k := 206) (j := 207) _ _ (by decide)).trans ((cj_up_n (k := 206) (j := 207) _ _ (by decide)).trans ((cj_up_n (k := 220) (j := 207) _ _ (by decide)).trans ((cj_up_n (k := 206) (j := 207) _ _ (by decide)).trans ((cj_up_n (k := 219) (j := 207) _ _ (by decide)).trans ((cj_up_n (k := 206) (j := 207) _ _ (by decide)).trans ((cj_up_n (k := 218) (j := 207) _ _ (by decide)).trans ((cj_up_n (k := 206) (j := 207) _ _ (by decide)).trans ((cj_up_n (k := 217) (j := 207) _ _ (by decide)).trans ((cj_up_n (k := 206) (j := 207) _ _ (by decide)).trans ((cj_up_n (k := 216) (j := 207) _ _ (by decide)).trans ((cj_up_n (k := 206) (j := 207) _ _ (by decide)).trans ((cj_up_n (k := 215) (j := 207) _ _ (by decide)).trans ((cj_up_n (k := 206) (j := 207) _ _ (by decide)).trans ((cj_up_n (k := 214) (j := 207) _ _ (by decide)).trans ((cj_up_n (k := 206) (j := 207) _ _ (by decide)).trans ((cj_up_n (k := 213) (j := 207) _ _ (by decide)).trans ((cj_up_n (k := 206) (j := 207) _ _ (by decide)).trans ((cj_up_n (k := 212) (j := 207) _ _ (by decide)).trans ((cj_up_n (k := 206) (j := 207) _ _ (by decide)).trans ((cj_up_n (k := 211) (j := 207) _ _ (by decide)).trans ((cj_up_n (k := 206) (j := 207) _ _ (by decide)).trans ((cj_up_n (k := 210) (j := 207) _ _ (by decide)).trans ((cj_up_n (k := 206) (j := 207) _ _ (by decide)).trans ((cj_up_n (k := 209) (j := 207) _ _ (by decide)).trans ((cj_up_n (k := 206) (j := 207) _ _ (by decide)).trans ((cj_up_n (k := 208) (j := 207) _ _ (by decide)).trans ((cj_up_n (k := 206) (j := 207) _ _ (by decide)).trans (cj_up_s _ _ _))))))))))))))))))))))))))))))))))))))))))))))))))))))))))
set_option maxRecDepth 100000 in
theorem fm_208 {C : Nat → Option cj_C} : mM C 208 = some (.inl (0, 6, .inl (fun _ => 0))) := by
  unfold mM
  exact (cj_up_n (k := 206) (j := 208) _ _ (by decide)).trans ((cj_up_n (k := 235) (j := 208) _ _ (by decide)).trans ((cj_up_n (k := 206) (j := 208) _ _ (by decide)).trans ((cj_up_n (k := 234) (j := 208) _ _ (by decide)).trans ((cj_up_n (k := 206) (j := 208) _ _ (by decide)).trans ((cj_up_n (k := 233) (j := 208) _ _ (by decide)).trans ((cj_up_n (k := 206) (j := 208) _ _ (by decide)).trans ((cj_up_n (k := 232) (j := 208) _ _ (by decide)).trans ((cj_up_n (k := 206) (j := 208) _ _ (by decide)).trans ((cj_up_n (k := 231) (j := 208) _ _ (by decide)).trans ((cj_up_n (k := 206) (j := 208) _ _ (by decide)).trans ((cj_up_n (k := 230) (j := 208) _ _ (by decide)).trans ((cj_up_n (k := 206) (j := 208) _ _ (by decide)).trans ((cj_up_n (k := 229) (j := 208) _ _ (by decide)).trans ((cj_up_n (k := 206) (j := 208) _ _ (by decide)).trans ((cj_up_n (k := 228) (j := 208) _ _ (by decide)).trans ((cj_up_n (k := 206) (j := 208) _ _ (by decide)).trans ((cj_up_n (k := 227) (j := 208) _ _ (by decide)).trans ((cj_up_n (k := 206) (j := 208) _ _ (by decide)).trans ((cj_up_n (k := 226) (j := 208) _ _ (by decide)).trans ((cj_up_n (k := 206) (j := 208) _ _ (by decide)).trans ((cj_up_n (k := 225) (j := 208) _ _ (by decide)).trans ((cj_up_n (k := 206) (j := 208) _ _ (by decide)).trans ((cj_up_n (k := 224) (j := 208) _ _ (by decide)).trans ((cj_up_n (k := 206) (j := 208) _ _ (by decide)).trans ((cj_up_n (k := 223) (j := 208) _ _ (by decide)).trans ((cj_up_n (k := 206) (j := 208) _ _ (by decide)).trans ((cj_up_n (k := 222) (j := 208) _ _ (by decide)).trans ((cj_up_n (k := 206) (j := 208) _ _ (by decide)).trans ((cj_up_n (k := 221) (j := 208) _ _ (by decide)).trans ((cj_up_n (k := 206) (j := 208) _ _ (by decide)).trans ((cj_up_n (k := 206) (j := 208) _ _ (by decide)).trans ((cj_up_n (k := 220) (j := 208) _ _ (by decide)).trans ((cj_up_n (k := 206) (j := 208) _ _ (by decide)).trans ((cj_up_n (k := 219) (j := 208) _ _ (by decide)).trans ((cj_up_n (k := 206) (j := 208) _ _ (by decide)).trans ((cj_up_n (k := 218) (j := 208) _ _ (by decide)).trans ((cj_up_n (k := 206) (j := 208) _ _ (by decide)).trans ((cj_up_n (k := 217) (j := 208) _ _ (by decide)).trans ((cj_up_n (k := 206) (j := 208) _ _ (by decide)).trans ((cj_up_n (k := 216) (j := 208) _ _ (by decide)).trans ((cj_up_n (k := 206) (j := 208) _ _ (by decide)).trans ((cj_up_n (k := 215) (j := 208) _ _ (by decide)).trans ((cj_up_n (k := 206) (j := 208) _ _ (by decide)).trans ((cj_up_n (k := 214) (j := 208) _ _ (by decide)).trans ((cj_up_n (k := 206) (j := 208) _ _ (by decide)).trans ((cj_up_n (k := 213) (j := 208) _ _ (by decide)).trans ((cj_up_n (k := 206) (j := 208) _ _ (by decide)).trans ((cj_up_n (k := 212) (j := 208) _ _ (by decide)).trans ((cj_up_n (k := 206) (j := 208) _ _ (by decide)).trans ((cj_up_n (k := 211) (j := 208) _ _ (by decide)).trans ((cj_up_n (k := 206) (j := 208) _ _ (by decide)).trans ((cj_up_n (k := 210) (j := 208) _ _ (by decide)).trans ((cj_up_n (k := 206) (j := 208) _ _ (by decide)).trans ((cj_up_n (k := 209) (j := 208) _ _ (by decide)).trans ((cj_up_n (k := 206) (j := 208) _ _ (by decide)).trans (cj_up_s _ _ _))))))))))))))))))))))))))))))))))))))))))))))))))))))))
set_option maxRecDepth 100000 in
theorem fm_209 {C : Nat → Option cj_C} : mM C 209 = some (.inl (0, 192, .inl (fun _ => 0))) := by
  unfold mM
  exact (cj_up_n (k := 206) (j := 209) _ _ (by decide)).trans ((cj_up_n (k := 235) (j := 209) _ _ (by decide)).trans ((cj_up_n (k := 206) (j := 209) _ _ (by decide)).trans ((cj_up_n (k := 234) (j := 209) _ _ (by decide)).trans ((cj_up_n (k := 206) (j := 209) _ _ (by decide)).trans ((cj_up_n (k := 233) (j := 209) _ _ (by decide)).trans ((cj_up_n (k := 206) (j := 209) _ _ (by decide)).trans ((cj_up_n (k := 232) (j := 209) _ _ (by decide)).trans ((cj_up_n (k := 206) (j := 209) _ _ (by decide)).trans ((cj_up_n (k := 231) (j := 209) _ _ (by decide)).trans ((cj_up_n (k := 206) (j := 209) _ _ (by decide)).trans ((cj_up_n (k := 230) (j := 209) _ _ (by decide)).trans ((cj_up_n (k := 206) (j := 209) _ _ (by decide)).trans ((cj_up_n (k := 229) (j := 209) _ _ (by decide)).trans ((cj_up_n (k := 206) (j := 209) _ _ (by decide)).trans ((cj_up_n (k := 228) (j := 209) _ _ (by decide)).trans ((cj_up_n (k := 206) (j := 209) _ _ (by decide)).trans ((cj_up_n (k := 227) (j := 209) _ _ (by decide)).trans ((cj_up_n (k := 206) (j := 209) _ _ (by decide)).trans ((cj_up_n (k := 226) (j := 209) _ _ (by decide)).trans ((cj_up_n (k := 206) (j := 209) _ _ (by decide)).trans ((cj_up_n (k := 225) (j := 209) _ _ (by decide)).trans ((cj_up_n (k := 206) (j := 209) _ _ (by decide)).trans ((cj_up_n (k := 224) (j := 209) _ _ (by decide)).trans ((cj_up_n (k := 206) (j := 209) _ _ (by decide)).trans ((cj_up_n (k := 223) (j := 209) _ _ (by decide)).trans ((cj_up_n (k := 206) (j := 209) _ _ (by decide)).trans ((cj_up_n (k := 222) (j := 209) _ _ (by decide)).trans ((cj_up_n (k := 206) (j := 209) _ _ (by decide)).trans ((cj_up_n (k := 221) (j := 209) _ _ (by decide)).trans ((cj_up_n (k := 206) (j := 209) _ _ (by decide)).trans ((cj_up_n (k := 206) (j := 209) _ _ (by decide)).trans ((cj_up_n (k := 220) (j := 209) _ _ (by decide)).trans ((cj_up_n (k := 206) (j := 209) _ _ (by decide)).trans ((cj_up_n (k := 219) (j := 209) _ _ (by decide)).trans ((cj_up_n (k := 206) (j := 209) _ _ (by decide)).trans ((cj_up_n (k := 218) (j := 209) _ _ (by decide)).trans ((cj_up_n (k := 206) (j := 209) _ _ (by decide)).trans ((cj_up_n (k := 217) (j := 209) _ _ (by decide)).trans ((cj_up_n (k := 206) (j := 209) _ _ (by decide)).trans ((cj_up_n (k := 216) (j := 209) _ _ (by decide)).trans ((cj_up_n (k := 206) (j := 209) _ _ (by decide)).trans ((cj_up_n (k := 215) (j := 209) _ _ (by decide)).trans ((cj_up_n (k := 206) (j := 209) _ _ (by decide)).trans ((cj_up_n (k := 214) (j := 209) _ _ (by decide)).trans ((cj_up_n (k := 206) (j := 209) _ _ (by decide)).trans ((cj_up_n (k := 213) (j := 209) _ _ (by decide)).trans ((cj_up_n (k := 206) (j := 209) _ _ (by decide)).trans ((cj_up_n (k := 212) (j := 209) _ _ (by decide)).trans ((cj_up_n (k := 206) (j := 209) _ _ (by decide)).trans ((cj_up_n (k := 211) (j := 209) _ _ (by decide)).trans ((cj_up_n (k := 206) (j := 209) _ _ (by decide)).trans ((cj_up_n (k := 210) (j := 209) _ _ (by decide)).trans ((cj_up_n (k := 206) (j := 209) _ _ (by decide)).trans (cj_up_s _ _ _))))))))))))))))))))))))))))))))))))))))))))))))))))))
set_option maxRecDepth 100000 in
theorem fm_210 {C : Nat → Option cj_C} : mM C 210 = some (.inl (0, 8, .inl (fun _ => 0))) := by
  unfold mM
  exact (cj_up_n (k := 206) (j := 210) _ _ (by decide)).trans ((cj_up_n (k := 235) (j := 210) _ _ (by decide)).trans ((cj_up_n (k := 206) (j := 210) _ _ (by decide)).trans ((cj_up_n (k := 234) (j := 210) _ _ (by decide)).trans ((cj_up_n (k := 206) (j := 210) _ _ (by decide)).trans ((cj_up_n (k := 233) (j := 210) _ _ (by decide)).trans ((cj_up_n (k := 206) (j := 210) _ _ (by decide)).trans ((cj_up_n (k := 232) (j := 210) _ _ (by decide)).trans ((cj_up_n (k := 206) (j := 210) _ _ (by decide)).trans ((cj_up_n (k := 231) (j := 210) _ _ (by decide)).trans ((cj_up_n (k := 206) (j := 210) _ _ (by decide)).trans ((cj_up_n (k := 230) (j := 210) _ _ (by decide)).trans ((cj_up_n (k := 206) (j := 210) _ _ (by decide)).trans ((cj_up_n (k := 229) (j := 210) _ _ (by decide)).trans ((cj_up_n (k := 206) (j := 210) _ _ (by decide)).trans ((cj_up_n (k := 228) (j := 210) _ _ (by decide)).trans ((cj_up_n (k := 206) (j := 210) _ _ (by decide)).trans ((cj_up_n (k := 227) (j := 210) _ _ (by decide)).trans ((cj_up_n (k := 206) (j := 210) _ _ (by decide)).trans ((cj_up_n (k := 226) (j := 210) _ _ (by decide)).trans ((cj_up_n (k := 206) (j := 210) _ _ (by decide)).trans ((cj_up_n (k := 225) (j := 210) _ _ (by decide)).trans ((cj_up_n (k := 206) (j := 210) _ _ (by decide)).trans ((cj_up_n (k := 224) (j := 210) _ _ (by decide)).trans ((cj_up_n (k := 206) (j := 210) _ _ (by decide)).trans ((cj_up_n (k := 223) (j := 210) _ _ (by decide)).trans ((cj_up_n (k := 206) (j := 210) _ _ (by decide)).trans ((cj_up_n (k := 222) (j := 210) _ _ (by decide)).trans ((cj_up_n (k := 206) (j := 210) _ _ (by decide)).trans ((cj_up_n (k := 221) (j := 210) _ _ (by decide)).trans ((cj_up_n (k := 206) (j := 210) _ _ (by decide)).trans ((cj_up_n (k := 206) (j := 210) _ _ (by decide)).trans ((cj_up_n (k := 220) (j := 210) _ _ (by decide)).trans ((cj_up_n (k := 206) (j := 210) _ _ (by decide)).trans ((cj_up_n (k := 219) (j := 210) _ _ (by decide)).trans ((cj_up_n (k := 206) (j := 210) _ _ (by decide)).trans ((cj_up_n (k := 218) (j := 210) _ _ (by decide)).trans ((cj_up_n (k := 206) (j := 210) _ _ (by decide)).trans ((cj_up_n (k := 217) (j := 210) _ _ (by decide)).trans ((cj_up_n (k := 206) (j := 210) _ _ (by decide)).trans ((cj_up_n (k := 216) (j := 210) _ _ (by decide)).trans ((cj_up_n (k := 206) (j := 210) _ _ (by decide)).trans ((cj_up_n (k := 215) (j := 210) _ _ (by decide)).trans ((cj_up_n (k := 206) (j := 210) _ _ (by decide)).trans ((cj_up_n (k := 214) (j := 210) _ _ (by decide)).trans ((cj_up_n (k := 206) (j := 210) _ _ (by decide)).trans ((cj_up_n (k := 213) (j := 210) _ _ (by decide)).trans ((cj_up_n (k := 206) (j := 210) _ _ (by decide)).trans ((cj_up_n (k := 212) (j := 210) _ _ (by decide)).trans ((cj_up_n (k := 206) (j := 210) _ _ (by decide)).trans ((cj_up_n (k := 211) (j := 210) _ _ (by decide)).trans ((cj_up_n (k := 206) (j := 210) _ _ (by decide)).trans (cj_up_s _ _ _))))))))))))))))))))))))))))))))))))))))))))))))))))
set_option maxRecDepth 100000 in
theorem fm_211 {C : Nat → Option cj_C} : mM C 211 = some (.inl (0, 32, .inl (fun _ => 0))) := by
  unfold mM
  exact (cj_up_n (k := 206) (j := 211) _ _ (by decide)).trans ((cj_up_n (k := 235) (j := 211) _ _ (by decide)).trans ((cj_up_n (k := 206) (j := 211) _ _ (by decide)).trans ((cj_up_n (k := 234) (j := 211) _ _ (by decide)).trans ((cj_up_n (k := 206) (j := 211) _ _ (by decide)).trans ((cj_up_n (k := 233) (j := 211) _ _ (by decide)).trans ((cj_up_n (k := 206) (j := 211) _ _ (by decide)).trans ((cj_up_n (k := 232) (j := 211) _ _ (by decide)).trans ((cj_up_n (k := 206) (j := 211) _ _ (by decide)).trans ((cj_up_n (k := 231) (j := 211) _ _ (by decide)).trans ((cj_up_n (k := 206) (j := 211) _ _ (by decide)).trans ((cj_up_n (k := 230) (j := 211) _ _ (by decide)).trans ((cj_up_n (k := 206) (j := 211) _ _ (by decide)).trans ((cj_up_n (k := 229) (j := 211) _ _ (by decide)).trans ((cj_up_n (k := 206) (j := 211) _ _ (by decide)).trans ((cj_up_n (k := 228) (j := 211) _ _ (by decide)).trans ((cj_up_n (k := 206) (j := 211) _ _ (by decide)).trans ((cj_up_n (k := 227) (j := 211) _ _ (by decide)).trans ((cj_up_n (k := 206) (j := 211) _ _ (by decide)).trans ((cj_up_n (k := 226) (j := 211) _ _ (by decide)).trans ((cj_up_n (k := 206) (j := 211) _ _ (by decide)).trans ((cj_up_n (k := 225) (j := 211) _ _ (by decide)).trans ((cj_up_n (k := 206) (j := 211) _ _ (by decide)).trans ((cj_up_n (k := 224) (j := 211) _ _ (by decide)).trans ((cj_up_n (k := 206) (j := 211) _ _ (by decide)).trans ((cj_up_n (k := 223) (j := 211) _ _ (by decide)).trans ((cj_up_n (k := 206) (j := 211) _ _ (by decide)).trans ((cj_up_n (k := 222) (j := 211) _ _ (by decide)).trans ((cj_up_n (k := 206) (j := 211) _ _ (by decide)).trans ((cj_up_n (k := 221) (j := 211) _ _ (by decide)).trans ((cj_up_n (k := 206) (j := 211) _ _ (by decide)).trans ((cj_up_n (k := 206) (j := 211) _ _ (by decide)).trans ((cj_up_n (k := 220) (j := 211) _ _ (by decide)).trans ((cj_up_n (k := 206) (j := 211) _ _ (by decide)).trans ((cj_up_n (k := 219) (j := 211) _ _ (by decide)).trans ((cj_up_n (k := 206) (j := 211) _ _ (by decide)).trans ((cj_up_n (k := 218) (j := 211) _ _ (by decide)).trans ((cj_up_n (k := 206) (j := 211) _ _ (by decide)).trans ((cj_up_n (k := 217) (j := 211) _ _ (by decide)).trans ((cj_up_n (k := 206) (j := 211) _ _ (by decide)).trans ((cj_up_n (k := 216) (j := 211) _ _ (by decide)).trans ((cj_up_n (k := 206) (j := 211) _ _ (by decide)).trans ((cj_up_n (k := 215) (j := 211) _ _ (by decide)).trans ((cj_up_n (k := 206) (j := 211) _ _ (by decide)).trans ((cj_up_n (k := 214) (j := 211) _ _ (by decide)).trans ((cj_up_n (k := 206) (j := 211) _ _ (by decide)).trans ((cj_up_n (k := 213) (j := 211) _ _ (by decide)).trans ((cj_up_n (k := 206) (j := 211) _ _ (by decide)).trans ((cj_up_n (k := 212) (j := 211) _ _ (by decide)).trans ((cj_up_n (k := 206) (j := 211) _ _ (by decide)).trans (cj_up_s _ _ _))))))))))))))))))))))))))))))))))))))))))))))))))
set_option maxRecDepth 100000 in
theorem fm_212 {C : Nat → Option cj_C} : mM C 212 = some (.inl (0, 1024, .inl (fun _ => 0))) := by
  unfold mM
  exact (cj_up_n (k := 206) (j := 212) _ _ (by decide)).trans ((cj_up_n (k := 235) (j := 212) _ _ (by decide)).trans ((cj_up_n (k := 206) (j := 212) _ _ (by decide)).trans ((cj_up_n (k := 234) (j := 212) _ _ (by decide)).trans ((cj_up_n (k := 206) (j := 212) _ _ (by decide)).trans ((cj_up_n (k := 233) (j := 212) _ _ (by decide)).trans ((cj_up_n (k := 206) (j := 212) _ _ (by decide)).trans ((cj_up_n (k := 232) (j := 212) _ _ (by decide)).trans ((cj_up_n (k := 206) (j := 212) _ _ (by decide)).trans ((cj_up_n (k := 231) (j := 212) _ _ (by decide)).trans ((cj_up_n (k := 206) (j := 212) _ _ (by decide)).trans ((cj_up_n (k := 230) (j := 212) _ _ (by decide)).trans ((cj_up_n (k := 206) (j := 212) _ _ (by decide)).trans ((cj_up_n (k := 229) (j := 212) _ _ (by decide)).trans ((cj_up_n (k := 206) (j := 212) _ _ (by decide)).trans ((cj_up_n (k := 228) (j := 212) _ _ (by decide)).trans ((cj_up_n (k := 206) (j := 212) _ _ (by decide)).trans ((cj_up_n (k := 227) (j := 212) _ _ (by decide)).trans ((cj_up_n (k := 206) (j := 212) _ _ (by decide)).trans ((cj_up_n (k := 226) (j := 212) _ _ (by decide)).trans ((cj_up_n (k := 206) (j := 212) _ _ (by decide)).trans ((cj_up_n (k := 225) (j := 212) _ _ (by decide)).trans ((cj_up_n (k := 206) (j := 212) _ _ (by decide)).trans ((cj_up_n (k := 224) (j := 212) _ _ (by decide)).trans ((cj_up_n (k := 206) (j := 212) _ _ (by decide)).trans ((cj_up_n (k := 223) (j := 212) _ _ (by decide)).trans ((cj_up_n (k := 206) (j := 212) _ _ (by decide)).trans ((cj_up_n (k := 222) (j := 212) _ _ (by decide)).trans ((cj_up_n (k := 206) (j := 212) _ _ (by decide)).trans ((cj_up_n (k := 221) (j := 212) _ _ (by decide)).trans ((cj_up_n (k := 206) (j := 212) _ _ (by decide)).trans ((cj_up_n (k := 206) (j := 212) _ _ (by decide)).trans ((cj_up_n (k := 220) (j := 212) _ _ (by decide)).trans ((cj_up_n (k := 206) (j := 212) _ _ (by decide)).trans ((cj_up_n (k := 219) (j := 212) _ _ (by decide)).trans ((cj_up_n (k := 206) (j := 212) _ _ (by decide)).trans ((cj_up_n (k := 218) (j := 212) _ _ (by decide)).trans ((cj_up_n (k := 206) (j := 212) _ _ (by decide)).trans ((cj_up_n (k := 217) (j := 212) _ _ (by decide)).trans ((cj_up_n (k := 206) (j := 212) _ _ (by decide)).trans ((cj_up_n (k := 216) (j := 212) _ _ (by decide)).trans ((cj_up_n (k := 206) (j := 212) _ _ (by decide)).trans ((cj_up_n (k := 215) (j := 212) _ _ (by decide)).trans ((cj_up_n (k := 206) (j := 212) _ _ (by decide)).trans ((cj_up_n (k := 214) (j := 212) _ _ (by decide)).trans ((cj_up_n (k := 206) (j := 212) _ _ (by decide)).trans ((cj_up_n (k := 213) (j := 212) _ _ (by decide)).trans ((cj_up_n (k := 206) (j := 212) _ _ (by decide)).trans (cj_up_s _ _ _))))))))))))))))))))))))))))))))))))))))))))))))
set_option maxRecDepth 100000 in
theorem fm_213 {C : Nat → Option cj_C} : mM C 213 = some (.inl (0, 8, .inl (fun _ => 0))) := by
  unfold mM
  exact (cj_up_n (k := 206) (j := 213) _ _ (by decide)).trans ((cj_up_n (k := 235) (j := 213) _ _ (by decide)).trans ((cj_up_n (k := 206) (j := 213) _ _ (by decide)).trans ((cj_up_n (k := 234) (j := 213) _ _ (by decide)).trans ((cj_up_n (k := 206) (j := 213) _ _ (by decide)).trans ((cj_up_n (k := 233) (j := 213) _ _ (by decide)).trans ((cj_up_n (k := 206) (j := 213) _ _ (by decide)).trans ((cj_up_n (k := 232) (j := 213) _ _ (by decide)).trans ((cj_up_n (k := 206) (j := 213) _ _ (by decide)).trans ((cj_up_n (k := 231) (j := 213) _ _ (by decide)).trans ((cj_up_n (k := 206) (j := 213) _ _ (by decide)).trans ((cj_up_n (k := 230) (j := 213) _ _ (by decide)).trans ((cj_up_n (k := 206) (j := 213) _ _ (by decide)).trans ((cj_up_n (k := 229) (j := 213) _ _ (by decide)).trans ((cj_up_n (k := 206) (j := 213) _ _ (by decide)).trans ((cj_up_n (k := 228) (j := 213) _ _ (by decide)).trans ((cj_up_n (k := 206) (j := 213) _ _ (by decide)).trans ((cj_up_n (k := 227) (j := 213) _ _ (by decide)).trans ((cj_up_n (k := 206) (j := 213) _ _ (by decide)).trans ((cj_up_n (k := 226) (j := 213) _ _ (by decide)).trans ((cj_up_n (k := 206) (j := 213) _ _ (by decide)).trans ((cj_up_n (k := 225) (j := 213) _ _ (by decide)).trans ((cj_up_n (k := 206) (j := 213) _ _ (by decide)).trans ((cj_up_n (k := 224) (j := 213) _ _ (by decide)).trans ((cj_up_n (k := 206) (j := 213) _ _ (by decide)).trans ((cj_up_n (k := 223) (j := 213) _ _ (by decide)).trans ((cj_up_n (k := 206) (j := 213) _ _ (by decide)).trans ((cj_up_n (k := 222) (j := 213) _ _ (by decide)).trans ((cj_up_n (k := 206) (j := 213) _ _ (by decide)).trans ((cj_up_n (k := 221) (j := 213) _ _ (by decide)).trans ((cj_up_n (k := 206) (j := 213) _ _ (by decide)).trans ((cj_up_n (k := 206) (j := 213) _ _ (by decide)).trans ((cj_up_n (k := 220) (j := 213) _ _ (by decide)).trans ((cj_up_n (k := 206) (j := 213) _ _ (by decide)).trans ((cj_up_n (k := 219) (j := 213) _ _ (by decide)).trans ((cj_up_n (k := 206) (j := 213) _ _ (by decide)).trans ((cj_up_n (k := 218) (j := 213) _ _ (by decide)).trans ((cj_up_n (k := 206) (j := 213) _ _ (by decide)).trans ((cj_up_n (k := 217) (j := 213) _ _ (by decide)).trans ((cj_up_n (k := 206) (j := 213) _ _ (by decide)).trans ((cj_up_n (k := 216) (j := 213) _ _ (by decide)).trans ((cj_up_n (k := 206) (j := 213) _ _ (by decide)).trans ((cj_up_n (k := 215) (j := 213) _ _ (by decide)).trans ((cj_up_n (k := 206) (j := 213) _ _ (by decide)).trans ((cj_up_n (k := 214) (j := 213) _ _ (by decide)).trans ((cj_up_n (k := 206) (j := 213) _ _ (by decide)).trans (cj_up_s _ _ _))))))))))))))))))))))))))))))))))))))))))))))
set_option maxRecDepth 100000 in
theorem fm_214 {C : Nat → Option cj_C} : mM C 214 = some (.inl (0, 32, .inl (fun _ => 0))) := by
  unfold mM
  exact (cj_up_n (k := 206) (j := 214) _ _ (by decide)).trans ((cj_up_n (k := 235) (j := 214) _ _ (by decide)).trans ((cj_up_n (k := 206) (j := 214) _ _ (by decide)).trans ((cj_up_n (k := 234) (j := 214) _ _ (by decide)).trans ((cj_up_n (k := 206) (j := 214) _ _ (by decide)).trans ((cj_up_n (k := 233) (j := 214) _ _ (by decide)).trans ((cj_up_n (k := 206) (j := 214) _ _ (by decide)).trans ((cj_up_n (k := 232) (j := 214) _ _ (by decide)).trans ((cj_up_n (k := 206) (j := 214) _ _ (by decide)).trans ((cj_up_n (k := 231) (j := 214) _ _ (by decide)).trans ((cj_up_n (k := 206) (j := 214) _ _ (by decide)).trans ((cj_up_n (k := 230) (j := 214) _ _ (by decide)).trans ((cj_up_n (k := 206) (j := 214) _ _ (by decide)).trans ((cj_up_n (k := 229) (j := 214) _ _ (by decide)).trans ((cj_up_n (k := 206) (j := 214) _ _ (by decide)).trans ((cj_up_n (k := 228) (j := 214) _ _ (by decide)).trans ((cj_up_n (k := 206) (j := 214) _ _ (by decide)).trans ((cj_up_n (k := 227) (j := 214) _ _ (by decide)).trans ((cj_up_n (k := 206) (j := 214) _ _ (by decide)).trans ((cj_up_n (k := 226) (j := 214) _ _ (by decide)).trans ((cj_up_n (k := 206) (j := 214) _ _ (by decide)).trans ((cj_up_n (k := 225) (j := 214) _ _ (by decide)).trans ((cj_up_n (k := 206) (j := 214) _ _ (by decide)).trans ((cj_up_n (k := 224) (j := 214) _ _ (by decide)).trans ((cj_up_n (k := 206) (j := 214) _ _ (by decide)).trans ((cj_up_n (k := 223) (j := 214) _ _ (by decide)).trans ((cj_up_n (k := 206) (j := 214) _ _ (by decide)).trans ((cj_up_n (k := 222) (j := 214) _ _ (by decide)).trans ((cj_up_n (k := 206) (j := 214) _ _ (by decide)).trans ((cj_up_n (k := 221) (j := 214) _ _ (by decide)).trans ((cj_up_n (k := 206) (j := 214) _ _ (by decide)).trans ((cj_up_n (k := 206) (j := 214) _ _ (by decide)).trans ((cj_up_n (k := 220) (j := 214) _ _ (by decide)).trans ((cj_up_n (k := 206) (j := 214) _ _ (by decide)).trans ((cj_up_n (k := 219) (j := 214) _ _ (by decide)).trans ((cj_up_n (k := 206) (j := 214) _ _ (by decide)).trans ((cj_up_n (k := 218) (j := 214) _ _ (by decide)).trans ((cj_up_n (k := 206) (j := 214) _ _ (by decide)).trans ((cj_up_n (k := 217) (j := 214) _ _ (by decide)).trans ((cj_up_n (k := 206) (j := 214) _ _ (by decide)).trans ((cj_up_n (k := 216) (j := 214) _ _ (by decide)).trans ((cj_up_n (k := 206) (j := 214) _ _ (by decide)).trans ((cj_up_n (k := 215) (j := 214) _ _ (by decide)).trans ((cj_up_n (k := 206) (j := 214) _ _ (by decide)).trans (cj_up_s _ _ _))))))))))))))))))))))))))))))))))))))))))))
set_option maxRecDepth 100000 in
theorem fm_215 {C : Nat → Option cj_C} : mM C 215 = some (.inl (0, 26, .inl (fun _ => 0))) := by
  unfold mM
  exact (cj_up_n (k := 206) (j := 215) _ _ (by decide)).trans ((cj_up_n (k := 235) (j := 215) _ _ (by decide)).trans ((cj_up_n (k := 206) (j := 215) _ _ (by decide)).trans ((cj_up_n (k := 234) (j := 215) _ _ (by decide)).trans ((cj_up_n (k := 206) (j := 215) _ _ (by decide)).trans ((cj_up_n (k := 233) (j := 215) _ _ (by decide)).trans ((cj_up_n (k := 206) (j := 215) _ _ (by decide)).trans ((cj_up_n (k := 232) (j := 215) _ _ (by decide)).trans ((cj_up_n (k := 206) (j := 215) _ _ (by decide)).trans ((cj_up_n (k := 231) (j := 215) _ _ (by decide)).trans ((cj_up_n (k := 206) (j := 215) _ _ (by decide)).trans ((cj_up_n (k := 230) (j := 215) _ _ (by decide)).trans ((cj_up_n (k := 206) (j := 215) _ _ (by decide)).trans ((cj_up_n (k := 229) (j := 215) _ _ (by decide)).trans ((cj_up_n (k := 206) (j := 215) _ _ (by decide)).trans ((cj_up_n (k := 228) (j := 215) _ _ (by decide)).trans ((cj_up_n (k := 206) (j := 215) _ _ (by decide)).trans ((cj_up_n (k := 227) (j := 215) _ _ (by decide)).trans ((cj_up_n (k := 206) (j := 215) _ _ (by decide)).trans ((cj_up_n (k := 226) (j := 215) _ _ (by decide)).trans ((cj_up_n (k := 206) (j := 215) _ _ (by decide)).trans ((cj_up_n (k := 225) (j := 215) _ _ (by decide)).trans ((cj_up_n (k := 206) (j := 215) _ _ (by decide)).trans ((cj_up_n (k := 224) (j := 215) _ _ (by decide)).trans ((cj_up_n (k := 206) (j := 215) _ _ (by decide)).trans ((cj_up_n (k := 223) (j := 215) _ _ (by decide)).trans ((cj_up_n (k := 206) (j := 215) _ _ (by decide)).trans ((cj_up_n (k := 222) (j := 215) _ _ (by decide)).trans ((cj_up_n (k := 206) (j := 215) _ _ (by decide)).trans ((cj_up_n (k := 221) (j := 215) _ _ (by decide)).trans ((cj_up_n (k := 206) (j := 215) _ _ (by decide)).trans ((cj_up_n (k := 206) (j := 215) _ _ (by decide)).trans ((cj_up_n (k := 220) (j := 215) _ _ (by decide)).trans ((cj_up_n (k := 206) (j := 215) _ _ (by decide)).trans ((cj_up_n (k := 219) (j := 215) _ _ (by decide)).trans ((cj_up_n (k := 206) (j := 215) _ _ (by decide)).trans ((cj_up_n (k := 218) (j := 215) _ _ (by decide)).trans ((cj_up_n (k := 206) (j := 215) _ _ (by decide)).trans ((cj_up_n (k := 217) (j := 215) _ _ (by decide)).trans ((cj_up_n (k := 206) (j := 215) _ _ (by decide)).trans ((cj_up_n (k := 216) (j := 215) _ _ (by decide)).trans ((cj_up_n (k := 206) (j := 215) _ _ (by decide)).trans (cj_up_s _ _ _))))))))))))))))))))))))))))))))))))))))))
set_option maxRecDepth 100000 in
theorem fm_216 {C : Nat → Option cj_C} : mM C 216 = some (.inl (0, 256, .inl (fun _ => 0))) := by
  unfold mM
  exact (cj_up_n (k := 206) (j := 216) _ _ (by decide)).trans ((cj_up_n (k := 235) (j := 216) _ _ (by decide)).trans ((cj_up_n (k := 206) (j := 216) _ _ (by decide)).trans ((cj_up_n (k := 234) (j := 216) _ _ (by decide)).trans ((cj_up_n (k := 206) (j := 216) _ _ (by decide)).trans ((cj_up_n (k := 233) (j := 216) _ _ (by decide)).trans ((cj_up_n (k := 206) (j := 216) _ _ (by decide)).trans ((cj_up_n (k := 232) (j := 216) _ _ (by decide)).trans ((cj_up_n (k := 206) (j := 216) _ _ (by decide)).trans ((cj_up_n (k := 231) (j := 216) _ _ (by decide)).trans ((cj_up_n (k := 206) (j := 216) _ _ (by decide)).trans ((cj_up_n (k := 230) (j := 216) _ _ (by decide)).trans ((cj_up_n (k := 206) (j := 216) _ _ (by decide)).trans ((cj_up_n (k := 229) (j := 216) _ _ (by decide)).trans ((cj_up_n (k := 206) (j := 216) _ _ (by decide)).trans ((cj_up_n (k := 228) (j := 216) _ _ (by decide)).trans ((cj_up_n (k := 206) (j := 216) _ _ (by decide)).trans ((cj_up_n (k := 227) (j := 216) _ _ (by decide)).trans ((cj_up_n (k := 206) (j := 216) _ _ (by decide)).trans ((cj_up_n (k := 226) (j := 216) _ _ (by decide)).trans ((cj_up_n (k := 206) (j := 216) _ _ (by decide)).trans ((cj_up_n (k := 225) (j := 216) _ _ (by decide)).trans ((cj_up_n (k := 206) (j := 216) _ _ (by decide)).trans ((cj_up_n (k := 224) (j := 216) _ _ (by decide)).trans ((cj_up_n (k := 206) (j := 216) _ _ (by decide)).trans ((cj_up_n (k := 223) (j := 216) _ _ (by decide)).trans ((cj_up_n (k := 206) (j := 216) _ _ (by decide)).trans ((cj_up_n (k := 222) (j := 216) _ _ (by decide)).trans ((cj_up_n (k := 206) (j := 216) _ _ (by decide)).trans ((cj_up_n (k := 221) (j := 216) _ _ (by decide)).trans ((cj_up_n (k := 206) (j := 216) _ _ (by decide)).trans ((cj_up_n (k := 206) (j := 216) _ _ (by decide)).trans ((cj_up_n (k := 220) (j := 216) _ _ (by decide)).trans ((cj_up_n (k := 206) (j := 216) _ _ (by decide)).trans ((cj_up_n (k := 219) (j := 216) _ _ (by decide)).trans ((cj_up_n (k := 206) (j := 216) _ _ (by decide)).trans ((cj_up_n (k := 218) (j := 216) _ _ (by decide)).trans ((cj_up_n (k := 206) (j := 216) _ _ (by decide)).trans ((cj_up_n (k := 217) (j := 216) _ _ (by decide)).trans ((cj_up_n (k := 206) (j := 216) _ _ (by decide)).trans (cj_up_s _ _ _))))))))))))))))))))))))))))))))))))))))
set_option maxRecDepth 100000 in
theorem fm_217 {C : Nat → Option cj_C} : mM C 217 = some (.inl (0, 130, .inl (fun _ => 0))) := by
  unfold mM
  exact (cj_up_n (k := 206) (j := 217) _ _ (by decide)).trans ((cj_up_n (k := 235) (j := 217) _ _ (by decide)).trans ((cj_up_n (k := 206) (j := 217) _ _ (by decide)).trans ((cj_up_n (k := 234) (j := 217) _ _ (by decide)).trans ((cj_up_n (k := 206) (j := 217) _ _ (by decide)).trans ((cj_up_n (k := 233) (j := 217) _ _ (by decide)).trans ((cj_up_n (k := 206) (j := 217) _ _ (by decide)).trans ((cj_up_n (k := 232) (j := 217) _ _ (by decide)).trans ((cj_up_n (k := 206) (j := 217) _ _ (by decide)).trans ((cj_up_n (k := 231) (j := 217) _ _ (by decide)).trans ((cj_up_n (k := 206) (j := 217) _ _ (by decide)).trans ((cj_up_n (k := 230) (j := 217) _ _ (by decide)).trans ((cj_up_n (k := 206) (j := 217) _ _ (by decide)).trans ((cj_up_n (k := 229) (j := 217) _ _ (by decide)).trans ((cj_up_n (k := 206) (j := 217) _ _ (by decide)).trans ((cj_up_n (k := 228) (j := 217) _ _ (by decide)).trans ((cj_up_n (k := 206) (j := 217) _ _ (by decide)).trans ((cj_up_n (k := 227) (j := 217) _ _ (by decide)).trans ((cj_up_n (k := 206) (j := 217) _ _ (by decide)).trans ((cj_up_n (k := 226) (j := 217) _ _ (by decide)).trans ((cj_up_n (k := 206) (j := 217) _ _ (by decide)).trans ((cj_up_n (k := 225) (j := 217) _ _ (by decide)).trans ((cj_up_n (k := 206) (j := 217) _ _ (by decide)).trans ((cj_up_n (k := 224) (j := 217) _ _ (by decide)).trans ((cj_up_n (k := 206) (j := 217) _ _ (by decide)).trans ((cj_up_n (k := 223) (j := 217) _ _ (by decide)).trans ((cj_up_n (k := 206) (j := 217) _ _ (by decide)).trans ((cj_up_n (k := 222) (j := 217) _ _ (by decide)).trans ((cj_up_n (k := 206) (j := 217) _ _ (by decide)).trans ((cj_up_n (k := 221) (j := 217) _ _ (by decide)).trans ((cj_up_n (k := 206) (j := 217) _ _ (by decide)).trans ((cj_up_n (k := 206) (j := 217) _ _ (by decide)).trans ((cj_up_n (k := 220) (j := 217) _ _ (by decide)).trans ((cj_up_n (k := 206) (j := 217) _ _ (by decide)).trans ((cj_up_n (k := 219) (j := 217) _ _ (by decide)).trans ((cj_up_n (k := 206) (j := 217) _ _ (by decide)).trans ((cj_up_n (k := 218) (j := 217) _ _ (by decide)).trans ((cj_up_n (k := 206) (j := 217) _ _ (by decide)).trans (cj_up_s _ _ _))))))))))))))))))))))))))))))))))))))
set_option maxRecDepth 100000 in
theorem fm_218 {C : Nat → Option cj_C} : mM C 218 = some (.inl (0, 130, .inl (fun _ => 0))) := by
  unfold mM
  exact (cj_up_n (k := 206) (j := 218) _ _ (by decide)).trans ((cj_up_n (k := 235) (j := 218) _ _ (by decide)).trans ((cj_up_n (k := 206) (j := 218) _ _ (by decide)).trans ((cj_up_n (k := 234) (j := 218) _ _ (by decide)).trans ((cj_up_n (k := 206) (j := 218) _ _ (by decide)).trans ((cj_up_n (k := 233) (j := 218) _ _ (by decide)).trans ((cj_up_n (k := 206) (j := 218) _ _ (by decide)).trans ((cj_up_n (k := 232) (j := 218) _ _ (by decide)).trans ((cj_up_n (k := 206) (j := 218) _ _ (by decide)).trans ((cj_up_n (k := 231) (j := 218) _ _ (by decide)).trans ((cj_up_n (k := 206) (j := 218) _ _ (by decide)).trans ((cj_up_n (k := 230) (j := 218) _ _ (by decide)).trans ((cj_up_n (k := 206) (j := 218) _ _ (by decide)).trans ((cj_up_n (k := 229) (j := 218) _ _ (by decide)).trans ((cj_up_n (k := 206) (j := 218) _ _ (by decide)).trans ((cj_up_n (k := 228) (j := 218) _ _ (by decide)).trans ((cj_up_n (k := 206) (j := 218) _ _ (by decide)).trans ((cj_up_n (k := 227) (j := 218) _ _ (by decide)).trans ((cj_up_n (k := 206) (j := 218) _ _ (by decide)).trans ((cj_up_n (k := 226) (j := 218) _ _ (by decide)).trans ((cj_up_n (k := 206) (j := 218) _ _ (by decide)).trans ((cj_up_n (k := 225) (j := 218) _ _ (by decide)).trans ((cj_up_n (k := 206) (j := 218) _ _ (by decide)).trans ((cj_up_n (k := 224) (j := 218) _ _ (by decide)).trans ((cj_up_n (k := 206) (j := 218) _ _ (by decide)).trans ((cj_up_n (k := 223) (j := 218) _ _ (by decide)).trans ((cj_up_n (k := 206) (j := 218) _ _ (by decide)).trans ((cj_up_n (k := 222) (j := 218) _ _ (by decide)).trans ((cj_up_n (k := 206) (j := 218) _ _ (by decide)).trans ((cj_up_n (k := 221) (j := 218) _ _ (by decide)).trans ((cj_up_n (k := 206) (j := 218) _ _ (by decide)).trans ((cj_up_n (k := 206) (j := 218) _ _ (by decide)).trans ((cj_up_n (k := 220) (j := 218) _ _ (by decide)).trans ((cj_up_n (k := 206) (j := 218) _ _ (by decide)).trans ((cj_up_n (k := 219) (j := 218) _ _ (by decide)).trans ((cj_up_n (k := 206) (j := 218) _ _ (by decide)).trans (cj_up_s _ _ _))))))))))))))))))))))))))))))))))))
set_option maxRecDepth 100000 in
theorem fm_219 {C : Nat → Option cj_C} : mM C 219 = some (.inl (0, 901, .inl (fun _ => 0))) := by
  unfold mM
  exact (cj_up_n (k := 206) (j := 219) _ _ (by decide)).trans ((cj_up_n (k := 235) (j := 219) _ _ (by decide)).trans ((cj_up_n (k := 206) (j := 219) _ _ (by decide)).trans ((cj_up_n (k := 234) (j := 219) _ _ (by decide)).trans ((cj_up_n (k := 206) (j := 219) _ _ (by decide)).trans ((cj_up_n (k := 233) (j := 219) _ _ (by decide)).trans ((cj_up_n (k := 206) (j := 219) _ _ (by decide)).trans ((cj_up_n (k := 232) (j := 219) _ _ (by decide)).trans ((cj_up_n (k := 206) (j := 219) _ _ (by decide)).trans ((cj_up_n (k := 231) (j := 219) _ _ (by decide)).trans ((cj_up_n (k := 206) (j := 219) _ _ (by decide)).trans ((cj_up_n (k := 230) (j := 219) _ _ (by decide)).trans ((cj_up_n (k := 206) (j := 219) _ _ (by decide)).trans ((cj_up_n (k := 229) (j := 219) _ _ (by decide)).trans ((cj_up_n (k := 206) (j := 219) _ _ (by decide)).trans ((cj_up_n (k := 228) (j := 219) _ _ (by decide)).trans ((cj_up_n (k := 206) (j := 219) _ _ (by decide)).trans ((cj_up_n (k := 227) (j := 219) _ _ (by decide)).trans ((cj_up_n (k := 206) (j := 219) _ _ (by decide)).trans ((cj_up_n (k := 226) (j := 219) _ _ (by decide)).trans ((cj_up_n (k := 206) (j := 219) _ _ (by decide)).trans ((cj_up_n (k := 225) (j := 219) _ _ (by decide)).trans ((cj_up_n (k := 206) (j := 219) _ _ (by decide)).trans ((cj_up_n (k := 224) (j := 219) _ _ (by decide)).trans ((cj_up_n (k := 206) (j := 219) _ _ (by decide)).trans ((cj_up_n (k := 223) (j := 219) _ _ (by decide)).trans ((cj_up_n (k := 206) (j := 219) _ _ (by decide)).trans ((cj_up_n (k := 222) (j := 219) _ _ (by decide)).trans ((cj_up_n (k := 206) (j := 219) _ _ (by decide)).trans ((cj_up_n (k := 221) (j := 219) _ _ (by decide)).trans ((cj_up_n (k := 206) (j := 219) _ _ (by decide)).trans ((cj_up_n (k := 206) (j := 219) _ _ (by decide)).trans ((cj_up_n (k := 220) (j := 219) _ _ (by decide)).trans ((cj_up_n (k := 206) (j := 219) _ _ (by decide)).trans (cj_up_s _ _ _))))))))))))))))))))))))))))))))))
set_option maxRecDepth 100000 in
theorem fm_220 {C : Nat → Option cj_C} : mM C 220 = some (.inl (0, 901, .inl (fun _ => 0))) := by
  unfold mM
  exact (cj_up_n (k := 206) (j := 220) _ _ (by decide)).trans ((cj_up_n (k := 235) (j := 220) _ _ (by decide)).trans ((cj_up_n (k := 206) (j := 220) _ _ (by decide)).trans ((cj_up_n (k := 234) (j := 220) _ _ (by decide)).trans ((cj_up_n (k := 206) (j := 220) _ _ (by decide)).trans ((cj_up_n (k := 233) (j := 220) _ _ (by decide)).trans ((cj_up_n (k := 206) (j := 220) _ _ (by decide)).trans ((cj_up_n (k := 232) (j := 220) _ _ (by decide)).trans ((cj_up_n (k := 206) (j := 220) _ _ (by decide)).trans ((cj_up_n (k := 231) (j := 220) _ _ (by decide)).trans ((cj_up_n (k := 206) (j := 220) _ _ (by decide)).trans ((cj_up_n (k := 230) (j := 220) _ _ (by decide)).trans ((cj_up_n (k := 206) (j := 220) _ _ (by decide)).trans ((cj_up_n (k := 229) (j := 220) _ _ (by decide)).trans ((cj_up_n (k := 206) (j := 220) _ _ (by decide)).trans ((cj_up_n (k := 228) (j := 220) _ _ (by decide)).trans ((cj_up_n (k := 206) (j := 220) _ _ (by decide)).trans ((cj_up_n (k := 227) (j := 220) _ _ (by decide)).trans ((cj_up_n (k := 206) (j := 220) _ _ (by decide)).trans ((cj_up_n (k := 226) (j := 220) _ _ (by decide)).trans ((cj_up_n (k := 206) (j := 220) _ _ (by decide)).trans ((cj_up_n (k := 225) (j := 220) _ _ (by decide)).trans ((cj_up_n (k := 206) (j := 220) _ _ (by decide)).trans ((cj_up_n (k := 224) (j := 220) _ _ (by decide)).trans ((cj_up_n (k := 206) (j := 220) _ _ (by decide)).trans ((cj_up_n (k := 223) (j := 220) _ _ (by decide)).trans ((cj_up_n (k := 206) (j := 220) _ _ (by decide)).trans ((cj_up_n (k := 222) (j := 220) _ _ (by decide)).trans ((cj_up_n (k := 206) (j := 220) _ _ (by decide)).trans ((cj_up_n (k := 221) (j := 220) _ _ (by decide)).trans ((cj_up_n (k := 206) (j := 220) _ _ (by decide)).trans ((cj_up_n (k := 206) (j := 220) _ _ (by decide)).trans (cj_up_s _ _ _))))))))))))))))))))))))))))))))
set_option maxRecDepth 100000 in
theorem fm_221 {C : Nat → Option cj_C} : mM C 221 = some (.inl (0, 2, .inl (fun _ => 0))) := by
  unfold mM
  exact (cj_up_n (k := 206) (j := 221) _ _ (by decide)).trans ((cj_up_n (k := 235) (j := 221) _ _ (by decide)).trans ((cj_up_n (k := 206) (j := 221) _ _ (by decide)).trans ((cj_up_n (k := 234) (j := 221) _ _ (by decide)).trans ((cj_up_n (k := 206) (j := 221) _ _ (by decide)).trans ((cj_up_n (k := 233) (j := 221) _ _ (by decide)).trans ((cj_up_n (k := 206) (j := 221) _ _ (by decide)).trans ((cj_up_n (k := 232) (j := 221) _ _ (by decide)).trans ((cj_up_n (k := 206) (j := 221) _ _ (by decide)).trans ((cj_up_n (k := 231) (j := 221) _ _ (by decide)).trans ((cj_up_n (k := 206) (j := 221) _ _ (by decide)).trans ((cj_up_n (k := 230) (j := 221) _ _ (by decide)).trans ((cj_up_n (k := 206) (j := 221) _ _ (by decide)).trans ((cj_up_n (k := 229) (j := 221) _ _ (by decide)).trans ((cj_up_n (k := 206) (j := 221) _ _ (by decide)).trans ((cj_up_n (k := 228) (j := 221) _ _ (by decide)).trans ((cj_up_n (k := 206) (j := 221) _ _ (by decide)).trans ((cj_up_n (k := 227) (j := 221) _ _ (by decide)).trans ((cj_up_n (k := 206) (j := 221) _ _ (by decide)).trans ((cj_up_n (k := 226) (j := 221) _ _ (by decide)).trans ((cj_up_n (k := 206) (j := 221) _ _ (by decide)).trans ((cj_up_n (k := 225) (j := 221) _ _ (by decide)).trans ((cj_up_n (k := 206) (j := 221) _ _ (by decide)).trans ((cj_up_n (k := 224) (j := 221) _ _ (by decide)).trans ((cj_up_n (k := 206) (j := 221) _ _ (by decide)).trans ((cj_up_n (k := 223) (j := 221) _ _ (by decide)).trans ((cj_up_n (k := 206) (j := 221) _ _ (by decide)).trans ((cj_up_n (k := 222) (j := 221) _ _ (by decide)).trans ((cj_up_n (k := 206) (j := 221) _ _ (by decide)).trans (cj_up_s _ _ _)))))))))))))))))))))))))))))
set_option maxRecDepth 100000 in
theorem fm_222 {C : Nat → Option cj_C} : mM C 222 = some (.inl (0, 10, .inl (fun _ => 0))) := by
  unfold mM
  exact (cj_up_n (k := 206) (j := 222) _ _ (by decide)).trans ((cj_up_n (k := 235) (j := 222) _ _ (by decide)).trans ((cj_up_n (k := 206) (j := 222) _ _ (by decide)).trans ((cj_up_n (k := 234) (j := 222) _ _ (by decide)).trans ((cj_up_n (k := 206) (j := 222) _ _ (by decide)).trans ((cj_up_n (k := 233) (j := 222) _ _ (by decide)).trans ((cj_up_n (k := 206) (j := 222) _ _ (by decide)).trans ((cj_up_n (k := 232) (j := 222) _ _ (by decide)).trans ((cj_up_n (k := 206) (j := 222) _ _ (by decide)).trans ((cj_up_n (k := 231) (j := 222) _ _ (by decide)).trans ((cj_up_n (k := 206) (j := 222) _ _ (by decide)).trans ((cj_up_n (k := 230) (j := 222) _ _ (by decide)).trans ((cj_up_n (k := 206) (j := 222) _ _ (by decide)).trans ((cj_up_n (k := 229) (j := 222) _ _ (by decide)).trans ((cj_up_n (k := 206) (j := 222) _ _ (by decide)).trans ((cj_up_n (k := 228) (j := 222) _ _ (by decide)).trans ((cj_up_n (k := 206) (j := 222) _ _ (by decide)).trans ((cj_up_n (k := 227) (j := 222) _ _ (by decide)).trans ((cj_up_n (k := 206) (j := 222) _ _ (by decide)).trans ((cj_up_n (k := 226) (j := 222) _ _ (by decide)).trans ((cj_up_n (k := 206) (j := 222) _ _ (by decide)).trans ((cj_up_n (k := 225) (j := 222) _ _ (by decide)).trans ((cj_up_n (k := 206) (j := 222) _ _ (by decide)).trans ((cj_up_n (k := 224) (j := 222) _ _ (by decide)).trans ((cj_up_n (k := 206) (j := 222) _ _ (by decide)).trans ((cj_up_n (k := 223) (j := 222) _ _ (by decide)).trans ((cj_up_n (k := 206) (j := 222) _ _ (by decide)).trans (cj_up_s _ _ _)))))))))))))))))))))))))))
set_option maxRecDepth 100000 in
theorem fm_223 {C : Nat → Option cj_C} : mM C 223 = some (.inl (0, 16, .inl (fun _ => 0))) := by
  unfold mM
  exact (cj_up_n (k := 206) (j := 223) _ _ (by decide)).trans ((cj_up_n (k := 235) (j := 223) _ _ (by decide)).trans ((cj_up_n (k := 206) (j := 223) _ _ (by decide)).trans ((cj_up_n (k := 234) (j := 223) _ _ (by decide)).trans ((cj_up_n (k := 206) (j := 223) _ _ (by decide)).trans ((cj_up_n (k := 233) (j := 223) _ _ (by decide)).trans ((cj_up_n (k := 206) (j := 223) _ _ (by decide)).trans ((cj_up_n (k := 232) (j := 223) _ _ (by decide)).trans ((cj_up_n (k := 206) (j := 223) _ _ (by decide)).trans ((cj_up_n (k := 231) (j := 223) _ _ (by decide)).trans ((cj_up_n (k := 206) (j := 223) _ _ (by decide)).trans ((cj_up_n (k := 230) (j := 223) _ _ (by decide)).trans ((cj_up_n (k := 206) (j := 223) _ _ (by decide)).trans ((cj_up_n (k := 229) (j := 223) _ _ (by decide)).trans ((cj_up_n (k := 206) (j := 223) _ _ (by decide)).trans ((cj_up_n (k := 228) (j := 223) _ _ (by decide)).trans ((cj_up_n (k := 206) (j := 223) _ _ (by decide)).trans ((cj_up_n (k := 227) (j := 223) _ _ (by decide)).trans ((cj_up_n (k := 206) (j := 223) _ _ (by decide)).trans ((cj_up_n (k := 226) (j := 223) _ _ (by decide)).trans ((cj_up_n (k := 206) (j := 223) _ _ (by decide)).trans ((cj_up_n (k := 225) (j := 223) _ _ (by decide)).trans ((cj_up_n (k := 206) (j := 223) _ _ (by decide)).trans ((cj_up_n (k := 224) (j := 223) _ _ (by decide)).trans ((cj_up_n (k := 206) (j := 223) _ _ (by decide)).trans (cj_up_s _ _ _)))))))))))))))))))))))))
set_option maxRecDepth 100000 in
theorem fm_224 {C : Nat → Option cj_C} : mM C 224 = some (.inl (0, 8, .inl (fun _ => 0))) := by
  unfold mM
  exact (cj_up_n (k := 206) (j := 224) _ _ (by decide)).trans ((cj_up_n (k := 235) (j := 224) _ _ (by decide)).trans ((cj_up_n (k := 206) (j := 224) _ _ (by decide)).trans ((cj_up_n (k := 234) (j := 224) _ _ (by decide)).trans ((cj_up_n (k := 206) (j := 224) _ _ (by decide)).trans ((cj_up_n (k := 233) (j := 224) _ _ (by decide)).trans ((cj_up_n (k := 206) (j := 224) _ _ (by decide)).trans ((cj_up_n (k := 232) (j := 224) _ _ (by decide)).trans ((cj_up_n (k := 206) (j := 224) _ _ (by decide)).trans ((cj_up_n (k := 231) (j := 224) _ _ (by decide)).trans ((cj_up_n (k := 206) (j := 224) _ _ (by decide)).trans ((cj_up_n (k := 230) (j := 224) _ _ (by decide)).trans ((cj_up_n (k := 206) (j := 224) _ _ (by decide)).trans ((cj_up_n (k := 229) (j := 224) _ _ (by decide)).trans ((cj_up_n (k := 206) (j := 224) _ _ (by decide)).trans ((cj_up_n (k := 228) (j := 224) _ _ (by decide)).trans ((cj_up_n (k := 206) (j := 224) _ _ (by decide)).trans ((cj_up_n (k := 227) (j := 224) _ _ (by decide)).trans ((cj_up_n (k := 206) (j := 224) _ _ (by decide)).trans ((cj_up_n (k := 226) (j := 224) _ _ (by decide)).trans ((cj_up_n (k := 206) (j := 224) _ _ (by decide)).trans ((cj_up_n (k := 225) (j := 224) _ _ (by decide)).trans ((cj_up_n (k := 206) (j := 224) _ _ (by decide)).trans (cj_up_s _ _ _)))))))))))))))))))))))
set_option maxRecDepth 100000 in
theorem fm_225 {C : Nat → Option cj_C} : mM C 225 = some (.inl (0, 16, .inl (fun _ => 0))) := by
  unfold mM
  exact (cj_up_n (k := 206) (j := 225) _ _ (by decide)).trans ((cj_up_n (k := 235) (j := 225) _ _ (by decide)).trans ((cj_up_n (k := 206) (j := 225) _ _ (by decide)).trans ((cj_up_n (k := 234) (j := 225) _ _ (by decide)).trans ((cj_up_n (k := 206) (j := 225) _ _ (by decide)).trans ((cj_up_n (k := 233) (j := 225) _ _ (by decide)).trans ((cj_up_n (k := 206) (j := 225) _ _ (by decide)).trans ((cj_up_n (k := 232) (j := 225) _ _ (by decide)).trans ((cj_up_n (k := 206) (j := 225) _ _ (by decide)).trans ((cj_up_n (k := 231) (j := 225) _ _ (by decide)).trans ((cj_up_n (k := 206) (j := 225) _ _ (by decide)).trans ((cj_up_n (k := 230) (j := 225) _ _ (by decide)).trans ((cj_up_n (k := 206) (j := 225) _ _ (by decide)).trans ((cj_up_n (k := 229) (j := 225) _ _ (by decide)).trans ((cj_up_n (k := 206) (j := 225) _ _ (by decide)).trans ((cj_up_n (k := 228) (j := 225) _ _ (by decide)).trans ((cj_up_n (k := 206) (j := 225) _ _ (by decide)).trans ((cj_up_n (k := 227) (j := 225) _ _ (by decide)).trans ((cj_up_n (k := 206) (j := 225) _ _ (by decide)).trans ((cj_up_n (k := 226) (j := 225) _ _ (by decide)).trans ((cj_up_n (k := 206) (j := 225) _ _ (by decide)).trans (cj_up_s _ _ _)))))))))))))))))))))
set_option maxRecDepth 100000 in
theorem fm_226 {C : Nat → Option cj_C} : mM C 226 = some (.inl (0, 1792, .inl (fun _ => 0))) := by
  unfold mM
  exact (cj_up_n (k := 206) (j := 226) _ _ (by decide)).trans ((cj_up_n (k := 235) (j := 226) _ _ (by decide)).trans ((cj_up_n (k := 206) (j := 226) _ _ (by decide)).trans ((cj_up_n (k := 234) (j := 226) _ _ (by decide)).trans ((cj_up_n (k := 206) (j := 226) _ _ (by decide)).trans ((cj_up_n (k := 233) (j := 226) _ _ (by decide)).trans ((cj_up_n (k := 206) (j := 226) _ _ (by decide)).trans ((cj_up_n (k := 232) (j := 226) _ _ (by decide)).trans ((cj_up_n (k := 206) (j := 226) _ _ (by decide)).trans ((cj_up_n (k := 231) (j := 226) _ _ (by decide)).trans ((cj_up_n (k := 206) (j := 226) _ _ (by decide)).trans ((cj_up_n (k := 230) (j := 226) _ _ (by decide)).trans ((cj_up_n (k := 206) (j := 226) _ _ (by decide)).trans ((cj_up_n (k := 229) (j := 226) _ _ (by decide)).trans ((cj_up_n (k := 206) (j := 226) _ _ (by decide)).trans ((cj_up_n (k := 228) (j := 226) _ _ (by decide)).trans ((cj_up_n (k := 206) (j := 226) _ _ (by decide)).trans ((cj_up_n (k := 227) (j := 226) _ _ (by decide)).trans ((cj_up_n (k := 206) (j := 226) _ _ (by decide)).trans (cj_up_s _ _ _)))))))))))))))))))
set_option maxRecDepth 100000 in
theorem fm_227 {C : Nat → Option cj_C} : mM C 227 = some (.inl (0, 1792, .inl (fun _ => 0))) := by
  unfold mM
  exact (cj_up_n (k := 206) (j := 227) _ _ (by decide)).trans ((cj_up_n (k := 235) (j := 227) _ _ (by decide)).trans ((cj_up_n (k := 206) (j := 227) _ _ (by decide)).trans ((cj_up_n (k := 234) (j := 227) _ _ (by decide)).trans ((cj_up_n (k := 206) (j := 227) _ _ (by decide)).trans ((cj_up_n (k := 233) (j := 227) _ _ (by decide)).trans ((cj_up_n (k := 206) (j := 227) _ _ (by decide)).trans ((cj_up_n (k := 232) (j := 227) _ _ (by decide)).trans ((cj_up_n (k := 206) (j := 227) _ _ (by decide)).trans ((cj_up_n (k := 231) (j := 227) _ _ (by decide)).trans ((cj_up_n (k := 206) (j := 227) _ _ (by decide)).trans ((cj_up_n (k := 230) (j := 227) _ _ (by decide)).trans ((cj_up_n (k := 206) (j := 227) _ _ (by decide)).trans ((cj_up_n (k := 229) (j := 227) _ _ (by decide)).trans ((cj_up_n (k := 206) (j := 227) _ _ (by decide)).trans ((cj_up_n (k := 228) (j := 227) _ _ (by decide)).trans ((cj_up_n (k := 206) (j := 227) _ _ (by decide)).trans (cj_up_s _ _ _)))))))))))))))))
set_option maxRecDepth 100000 in
theorem fm_228 {C : Nat → Option cj_C} : mM C 228 = some (.inl (0, 3840, .inl (fun _ => 0))) := by
  unfold mM
  exact (cj_up_n (k := 206) (j := 228) _ _ (by decide)).trans ((cj_up_n (k := 235) (j := 228) _ _ (by decide)).trans ((cj_up_n (k := 206) (j := 228) _ _ (by decide)).trans ((cj_up_n (k := 234) (j := 228) _ _ (by decide)).trans ((cj_up_n (k := 206) (j := 228) _ _ (by decide)).trans ((cj_up_n (k := 233) (j := 228) _ _ (by decide)).trans ((cj_up_n (k := 206) (j := 228) _ _ (by decide)).trans ((cj_up_n (k := 232) (j := 228) _ _ (by decide)).trans ((cj_up_n (k := 206) (j := 228) _ _ (by decide)).trans ((cj_up_n (k := 231) (j := 228) _ _ (by decide)).trans ((cj_up_n (k := 206) (j := 228) _ _ (by decide)).trans ((cj_up_n (k := 230) (j := 228) _ _ (by decide)).trans ((cj_up_n (k := 206) (j := 228) _ _ (by decide)).trans ((cj_up_n (k := 229) (j := 228) _ _ (by decide)).trans ((cj_up_n (k := 206) (j := 228) _ _ (by decide)).trans (cj_up_s _ _ _)))))))))))))))
set_option maxRecDepth 100000 in
theorem fm_229 {C : Nat → Option cj_C} : mM C 229 = some (.inl (0, 2, .inl (fun _ => 0))) := by
  unfold mM
  exact (cj_up_n (k := 206) (j := 229) _ _ (by decide)).trans ((cj_up_n (k := 235) (j := 229) _ _ (by decide)).trans ((cj_up_n (k := 206) (j := 229) _ _ (by decide)).trans ((cj_up_n (k := 234) (j := 229) _ _ (by decide)).trans ((cj_up_n (k := 206) (j := 229) _ _ (by decide)).trans ((cj_up_n (k := 233) (j := 229) _ _ (by decide)).trans ((cj_up_n (k := 206) (j := 229) _ _ (by decide)).trans ((cj_up_n (k := 232) (j := 229) _ _ (by decide)).trans ((cj_up_n (k := 206) (j := 229) _ _ (by decide)).trans ((cj_up_n (k := 231) (j := 229) _ _ (by decide)).trans ((cj_up_n (k := 206) (j := 229) _ _ (by decide)).trans ((cj_up_n (k := 230) (j := 229) _ _ (by decide)).trans ((cj_up_n (k := 206) (j := 229) _ _ (by decide)).trans (cj_up_s _ _ _)))))))))))))
set_option maxRecDepth 100000 in
theorem fm_230 {C : Nat → Option cj_C} : mM C 230 = some (.inl (0, 1800, .inl (fun _ => 0))) := by
  unfold mM
  exact (cj_up_n (k := 206) (j := 230) _ _ (by decide)).trans ((cj_up_n (k := 235) (j := 230) _ _ (by decide)).trans ((cj_up_n (k := 206) (j := 230) _ _ (by decide)).trans ((cj_up_n (k := 234) (j := 230) _ _ (by decide)).trans ((cj_up_n (k := 206) (j := 230) _ _ (by decide)).trans ((cj_up_n (k := 233) (j := 230) _ _ (by decide)).trans ((cj_up_n (k := 206) (j := 230) _ _ (by decide)).trans ((cj_up_n (k := 232) (j := 230) _ _ (by decide)).trans ((cj_up_n (k := 206) (j := 230) _ _ (by decide)).trans ((cj_up_n (k := 231) (j := 230) _ _ (by decide)).trans ((cj_up_n (k := 206) (j := 230) _ _ (by decide)).trans (cj_up_s _ _ _)))))))))))
set_option maxRecDepth 100000 in
theorem fm_231 {C : Nat → Option cj_C} : mM C 231 = some (.inl (0, 1800, .inl (fun _ => 0))) := by
  unfold mM
  exact (cj_up_n (k := 206) (j := 231) _ _ (by decide)).trans ((cj_up_n (k := 235) (j := 231) _ _ (by decide)).trans ((cj_up_n (k := 206) (j := 231) _ _ (by decide)).trans ((cj_up_n (k := 234) (j := 231) _ _ (by decide)).trans ((cj_up_n (k := 206) (j := 231) _ _ (by decide)).trans ((cj_up_n (k := 233) (j := 231) _ _ (by decide)).trans ((cj_up_n (k := 206) (j := 231) _ _ (by decide)).trans ((cj_up_n (k := 232) (j := 231) _ _ (by decide)).trans ((cj_up_n (k := 206) (j := 231) _ _ (by decide)).trans (cj_up_s _ _ _)))))))))
set_option maxRecDepth 100000 in
theorem fm_232 {C : Nat → Option cj_C} : mM C 232 = some (.inl (0, 1800, .inl (fun _ => 0))) := by
  unfold mM
  exact (cj_up_n (k := 206) (j := 232) _ _ (by decide)).trans ((cj_up_n (k := 235) (j := 232) _ _ (by decide)).trans ((cj_up_n (k := 206) (j := 232) _ _ (by decide)).trans ((cj_up_n (k := 234) (j := 232) _ _ (by decide)).trans ((cj_up_n (k := 206) (j := 232) _ _ (by decide)).trans ((cj_up_n (k := 233) (j := 232) _ _ (by decide)).trans ((cj_up_n (k := 206) (j := 232) _ _ (by decide)).trans (cj_up_s _ _ _)))))))
set_option maxRecDepth 100000 in
theorem fm_233 {C : Nat → Option cj_C} : mM C 233 = some (.inl (0, 1800, .inl (fun _ => 0))) := by
  unfold mM
  exact (cj_up_n (k := 206) (j := 233) _ _ (by decide)).trans ((cj_up_n (k := 235) (j := 233) _ _ (by decide)).trans ((cj_up_n (k := 206) (j := 233) _ _ (by decide)).trans ((cj_up_n (k := 234) (j := 233) _ _ (by decide)).trans ((cj_up_n (k := 206) (j := 233) _ _ (by decide)).trans (cj_up_s _ _ _)))))
set_option maxRecDepth 100000 in
theorem fm_234 {C : Nat → Option cj_C} : mM C 234 = some (.inl (0, 1800, .inl (fun _ => 0))) := by
  unfold mM
  exact (cj_up_n (k := 206) (j := 234) _ _ (by decide)).trans ((cj_up_n (k := 235) (j := 234) _ _ (by decide)).trans ((cj_up_n (k := 206) (j := 234) _ _ (by decide)).trans (cj_up_s _ _ _)))
set_option maxRecDepth 100000 in
theorem fm_235 {C : Nat → Option cj_C} : mM C 235 = some (.inl (0, 1800, .inl (fun _ => 0))) := by
  unfold mM
  exact (cj_up_n (k := 206) (j := 235) _ _ (by decide)).trans (cj_up_s _ _ _)
def Cb (L : Nat) (xs : Nat → Int32) (w h : Int32) : Nat → Option cj_C := cj_up (mC (Ca L xs) w h) 206 (some (.inr (7, [.int (0), .int (0), .int (0), .int (0), .null, .int (0), .null, .null, .int (0), .null, .null, .null, .null, .null, .int (0), .null, .int (0), .null, .int (0), .null, .null, .null, .null, .int (0), .null, .null, .null, .null, .null, .null, .null, .null, .null, .null, .null, .null, .null, .null, .null])))
theorem fm_z {L : Nat} {o q : Nat} {xs : Nat → Int32} {w h v1 v2 : Int32} (h0 : 206 < o) (h1 : o ≠ 214) (hq : lnl_ o = q) : some (.inl (0, q, .inl (fun _ => 0))) = cg_c 100 L o (fz xs w h v1 v2 o) := by
  have e : fz xs w h v1 v2 o = fun _ => 0 := by
    unfold fz
    rw [if_neg (by omega), if_neg (by omega), if_neg (by omega), if_neg (by omega), if_neg h1, if_neg (by omega), if_neg (by omega), if_neg (by omega)]
  show _ = some (Sum.inl (0, ln_ L o, Sum.inl (fz xs w h v1 v2 o)))
  rw [e, lnz (by omega) hq]
def fsM : List Value := [.int (0), .int (0), .int (0), .int (0), .ref 207, .int (0), .ref 208, .ref 209, .int (0), .ref 210, .ref 211, .ref 212, .ref 213, .ref 214, .int (0), .ref 215, .int (0), .ref 216, .int (0), .ref 217, .ref 218, .ref 219, .ref 220, .int (- nI 1), .ref 221, .ref 222, .ref 223, .ref 224, .ref 225, .ref 226, .ref 227, .ref 228, .ref 229, .ref 230, .ref 231, .ref 232, .ref 233, .ref 234, .ref 235]
theorem fmem {L : Nat} {xs : Nat → Int32} {w h v1 v2 : Int32} {D : Nat → Option cj_C} (h214 : D 214 = some (.inl (0, 32, .inl (clm 32)))) (hD : ∀ o, o ≠ 214 → D o = cj_up (cj_up (mM (Cb L xs w h)) 206 (some (.inr (7, fsM.set 0 (.int v1))))) 206 (some (.inr (7, (fsM.set 0 (.int v1)).set 1 (.int v2)))) o) : ∀ o, cj_up D 236 (some (.inl (2, 1, .inr (.inl (fun _ => 0))))) o = cg_c (sh_ o) L o (fz xs w h v1 v2 o) := by
  intro o
  by_cases c236 : o = 236
  · subst c236
    rw [cj_up_s, s_220]
    show _ = some (Sum.inl (2, ln_ L 236, Sum.inr (Sum.inl (fun j => (fz xs w h v1 v2 236 j).toInt64))))
    have e : fz xs w h v1 v2 236 = fun _ => 0 := by
      unfold fz
      rw [if_neg (by omega), if_neg (by omega), if_neg (by omega), if_neg (by omega), if_neg (by omega), if_neg (by omega), if_neg (by omega), if_neg (by omega)]
    rw [e]; rfl
  rw [cj_up_n _ _ c236]
  by_cases c214 : o = 214
  · subst c214
    rw [h214, show sh_ 214 = 100 by decide +kernel]; rfl
  rw [hD o c214]
  by_cases c206 : o = 206
  · subst c206
    rw [cj_up_s, s_190]; rfl
  rw [cj_up_n _ _ c206, cj_up_n _ _ c206]
  by_cases hm : 206 ≤ o ∧ o < 236
  · obtain ⟨m1, m2⟩ := hm
    by_cases g206_236 : o < 221
    ·
      by_cases g206_221 : o < 213
      ·
        by_cases g206_213 : o < 209
        ·
          by_cases g206_209 : o < 207
          ·
            exact absurd (show o = 206 by omega) c206
          ·
            by_cases g207_209 : o < 208
            ·
              (have q : o = 207 := (by omega); subst q; rw [show sh_ 207 = 100 by decide +kernel]; exact fm_207.trans (fm_z (by decide) (by decide) (by decide +kernel)))
            ·
              (have q : o = 208 := (by omega); subst q; rw [show sh_ 208 = 100 by decide +kernel]; exact fm_208.trans (fm_z (by decide) (by decide) (by decide +kernel)))
        ·
          by_cases g209_213 : o < 211
          ·
            by_cases g209_211 : o < 210
            ·
              (have q : o = 209 := (by omega); subst q; rw [show sh_ 209 = 100 by decide +kernel]; exact fm_209.trans (fm_z (by decide) (by decide) (by decide +kernel)))
            ·
              (have q : o = 210 := (by omega); subst q; rw [show sh_ 210 = 100 by decide +kernel]; exact fm_210.trans (fm_z (by decide) (by decide) (by decide +kernel)))
          ·
            by_cases g211_213 : o < 212
            ·
              (have q : o = 211 := (by omega); subst q; rw [show sh_ 211 = 100 by decide +kernel]; exact fm_211.trans (fm_z (by decide) (by decide) (by decide +kernel)))
            ·
              (have q : o = 212 := (by omega); subst q; rw [show sh_ 212 = 100 by decide +kernel]; exact fm_212.trans (fm_z (by decide) (by decide) (by decide +kernel)))
      ·
        by_cases g213_221 : o < 217
        ·
          by_cases g213_217 : o < 215
          ·
            by_cases g213_215 : o < 214
            ·
              (have q : o = 213 := (by omega); subst q; rw [show sh_ 213 = 100 by decide +kernel]; exact fm_213.trans (fm_z (by decide) (by decide) (by decide +kernel)))
            ·
              exact absurd (show o = 214 by omega) c214
          ·
            by_cases g215_217 : o < 216
            ·
              (have q : o = 215 := (by omega); subst q; rw [show sh_ 215 = 100 by decide +kernel]; exact fm_215.trans (fm_z (by decide) (by decide) (by decide +kernel)))
            ·
              (have q : o = 216 := (by omega); subst q; rw [show sh_ 216 = 100 by decide +kernel]; exact fm_216.trans (fm_z (by decide) (by decide) (by decide +kernel)))
        ·
          by_cases g217_221 : o < 219
          ·
            by_cases g217_219 : o < 218
            ·
              (have q : o = 217 := (by omega); subst q; rw [show sh_ 217 = 100 by decide +kernel]; exact fm_217.trans (fm_z (by decide) (by decide) (by decide +kernel)))
            ·
              (have q : o = 218 := (by omega); subst q; rw [show sh_ 218 = 100 by decide +kernel]; exact fm_218.trans (fm_z (by decide) (by decide) (by decide +kernel)))
          ·
            by_cases g219_221 : o < 220
            ·
              (have q : o = 219 := (by omega); subst q; rw [show sh_ 219 = 100 by decide +kernel]; exact fm_219.trans (fm_z (by decide) (by decide) (by decide +kernel)))
            ·
              (have q : o = 220 := (by omega); subst q; rw [show sh_ 220 = 100 by decide +kernel]; exact fm_220.trans (fm_z (by decide) (by decide) (by decide +kernel)))
    ·
      by_cases g221_236 : o < 228
      ·
        by_cases g221_228 : o < 224
        ·
          by_cases g221_224 : o < 222
          ·
            (have q : o = 221 := (by omega); subst q; rw [show sh_ 221 = 100 by decide +kernel]; exact fm_221.trans (fm_z (by decide) (by decide) (by decide +kernel)))
          ·
            by_cases g222_224 : o < 223
            ·
              (have q : o = 222 := (by omega); subst q; rw [show sh_ 222 = 100 by decide +kernel]; exact fm_222.trans (fm_z (by decide) (by decide) (by decide +kernel)))
            ·
              (have q : o = 223 := (by omega); subst q; rw [show sh_ 223 = 100 by decide +kernel]; exact fm_223.trans (fm_z (by decide) (by decide) (by decide +kernel)))
        ·
          by_cases g224_228 : o < 226
          ·
            by_cases g224_226 : o < 225
            ·
              (have q : o = 224 := (by omega); subst q; rw [show sh_ 224 = 100 by decide +kernel]; exact fm_224.trans (fm_z (by decide) (by decide) (by decide +kernel)))
            ·
              (have q : o = 225 := (by omega); subst q; rw [show sh_ 225 = 100 by decide +kernel]; exact fm_225.trans (fm_z (by decide) (by decide) (by decide +kernel)))
          ·
            by_cases g226_228 : o < 227
            ·
              (have q : o = 226 := (by omega); subst q; rw [show sh_ 226 = 100 by decide +kernel]; exact fm_226.trans (fm_z (by decide) (by decide) (by decide +kernel)))
            ·
              (have q : o = 227 := (by omega); subst q; rw [show sh_ 227 = 100 by decide +kernel]; exact fm_227.trans (fm_z (by decide) (by decide) (by decide +kernel)))
      ·
        by_cases g228_236 : o < 232
        ·
          by_cases g228_232 : o < 230
          ·
            by_cases g228_230 : o < 229
            ·
              (have q : o = 228 := (by omega); subst q; rw [show sh_ 228 = 100 by decide +kernel]; exact fm_228.trans (fm_z (by decide) (by decide) (by decide +kernel)))
            ·
              (have q : o = 229 := (by omega); subst q; rw [show sh_ 229 = 100 by decide +kernel]; exact fm_229.trans (fm_z (by decide) (by decide) (by decide +kernel)))
          ·
            by_cases g230_232 : o < 231
            ·
              (have q : o = 230 := (by omega); subst q; rw [show sh_ 230 = 100 by decide +kernel]; exact fm_230.trans (fm_z (by decide) (by decide) (by decide +kernel)))
            ·
              (have q : o = 231 := (by omega); subst q; rw [show sh_ 231 = 100 by decide +kernel]; exact fm_231.trans (fm_z (by decide) (by decide) (by decide +kernel)))
        ·
          by_cases g232_236 : o < 234
          ·
            by_cases g232_234 : o < 233
            ·
              (have q : o = 232 := (by omega); subst q; rw [show sh_ 232 = 100 by decide +kernel]; exact fm_232.trans (fm_z (by decide) (by decide) (by decide +kernel)))
            ·
              (have q : o = 233 := (by omega); subst q; rw [show sh_ 233 = 100 by decide +kernel]; exact fm_233.trans (fm_z (by decide) (by decide) (by decide +kernel)))
          ·
            by_cases g234_236 : o < 235
            ·
              (have q : o = 234 := (by omega); subst q; rw [show sh_ 234 = 100 by decide +kernel]; exact fm_234.trans (fm_z (by decide) (by decide) (by decide +kernel)))
            ·
              (have q : o = 235 := (by omega); subst q; rw [show sh_ 235 = 100 by decide +kernel]; exact fm_235.trans (fm_z (by decide) (by decide) (by decide +kernel)))
  rw [mM_n hm]
  show cj_up (mC (Ca L xs) w h) 206 _ o = _
  rw [cj_up_n _ _ c206]
  by_cases hc : 1 ≤ o ∧ o < 206
  · obtain ⟨m1, m2⟩ := hc
    by_cases g1_206 : o < 103
    ·
      by_cases g1_103 : o < 52
      ·
        by_cases g1_52 : o < 26
        ·
          by_cases g1_26 : o < 13
          ·
            by_cases g1_13 : o < 7
            ·
              by_cases g1_7 : o < 4
              ·
                by_cases g1_4 : o < 2
                ·
                  (have q : o = 1 := (by omega); subst q; rw [show sh_ 1 = 0 by decide +kernel]; exact fc_1)
                ·
                  by_cases g2_4 : o < 3
                  ·
                    (have q : o = 2 := (by omega); subst q; rw [show sh_ 2 = 6 by decide +kernel]; exact fc_2)
                  ·
                    (have q : o = 3 := (by omega); subst q; rw [show sh_ 3 = 101 by decide +kernel]; exact fc_3)
              ·
                by_cases g4_7 : o < 5
                ·
                  (have q : o = 4 := (by omega); subst q; rw [show sh_ 4 = 6 by decide +kernel]; exact fc_4)
                ·
                  by_cases g5_7 : o < 6
                  ·
                    (have q : o = 5 := (by omega); subst q; rw [show sh_ 5 = 101 by decide +kernel]; exact fc_5)
                  ·
                    (have q : o = 6 := (by omega); subst q; rw [show sh_ 6 = 103 by decide +kernel]; exact fc_6)
            ·
              by_cases g7_13 : o < 10
              ·
                by_cases g7_10 : o < 8
                ·
                  (have q : o = 7 := (by omega); subst q; rw [show sh_ 7 = 6 by decide +kernel]; exact fc_7)
                ·
                  by_cases g8_10 : o < 9
                  ·
                    (have q : o = 8 := (by omega); subst q; rw [show sh_ 8 = 101 by decide +kernel]; exact fc_8)
                  ·
                    (have q : o = 9 := (by omega); subst q; rw [show sh_ 9 = 6 by decide +kernel]; exact fc_9)
              ·
                by_cases g10_13 : o < 11
                ·
                  (have q : o = 10 := (by omega); subst q; rw [show sh_ 10 = 101 by decide +kernel]; exact fc_10)
                ·
                  by_cases g11_13 : o < 12
                  ·
                    (have q : o = 11 := (by omega); subst q; rw [show sh_ 11 = 6 by decide +kernel]; exact fc_11)
                  ·
                    (have q : o = 12 := (by omega); subst q; rw [show sh_ 12 = 101 by decide +kernel]; exact fc_12)
          ·
            by_cases g13_26 : o < 19
            ·
              by_cases g13_19 : o < 16
              ·
                by_cases g13_16 : o < 14
                ·
                  (have q : o = 13 := (by omega); subst q; rw [show sh_ 13 = 6 by decide +kernel]; exact fc_13)
                ·
                  by_cases g14_16 : o < 15
                  ·
                    (have q : o = 14 := (by omega); subst q; rw [show sh_ 14 = 101 by decide +kernel]; exact fc_14)
                  ·
                    (have q : o = 15 := (by omega); subst q; rw [show sh_ 15 = 6 by decide +kernel]; exact fc_15)
              ·
                by_cases g16_19 : o < 17
                ·
                  (have q : o = 16 := (by omega); subst q; rw [show sh_ 16 = 101 by decide +kernel]; exact fc_16)
                ·
                  by_cases g17_19 : o < 18
                  ·
                    (have q : o = 17 := (by omega); subst q; rw [show sh_ 17 = 6 by decide +kernel]; exact fc_17)
                  ·
                    (have q : o = 18 := (by omega); subst q; rw [show sh_ 18 = 101 by decide +kernel]; exact fc_18)
            ·
              by_cases g19_26 : o < 22
              ·
                by_cases g19_22 : o < 20
                ·
                  (have q : o = 19 := (by omega); subst q; rw [show sh_ 19 = 104 by decide +kernel]; exact fc_19)
                ·
                  by_cases g20_22 : o < 21
                  ·
                    (have q : o = 20 := (by omega); subst q; rw [show sh_ 20 = 2 by decide +kernel]; exact fc_20)
                  ·
                    (have q : o = 21 := (by omega); subst q; rw [show sh_ 21 = 106 by decide +kernel]; exact fc_21)
              ·
                by_cases g22_26 : o < 24
                ·
                  by_cases g22_24 : o < 23
                  ·
                    (have q : o = 22 := (by omega); subst q; rw [show sh_ 22 = 100 by decide +kernel]; exact fc_22)
                  ·
                    (have q : o = 23 := (by omega); subst q; rw [show sh_ 23 = 6 by decide +kernel]; exact fc_23)
                ·
                  by_cases g24_26 : o < 25
                  ·
                    (have q : o = 24 := (by omega); subst q; rw [show sh_ 24 = 101 by decide +kernel]; exact fc_24)
                  ·
                    (have q : o = 25 := (by omega); subst q; rw [show sh_ 25 = 6 by decide +kernel]; exact fc_25)
        ·
          by_cases g26_52 : o < 39
          ·
            by_cases g26_39 : o < 32
            ·
              by_cases g26_32 : o < 29
              ·
                by_cases g26_29 : o < 27
                ·
                  (have q : o = 26 := (by omega); subst q; rw [show sh_ 26 = 101 by decide +kernel]; exact fc_26)
                ·
                  by_cases g27_29 : o < 28
                  ·
                    (have q : o = 27 := (by omega); subst q; rw [show sh_ 27 = 6 by decide +kernel]; exact fc_27)
                  ·
                    (have q : o = 28 := (by omega); subst q; rw [show sh_ 28 = 101 by decide +kernel]; exact fc_28)
              ·
                by_cases g29_32 : o < 30
                ·
                  (have q : o = 29 := (by omega); subst q; rw [show sh_ 29 = 6 by decide +kernel]; exact fc_29)
                ·
                  by_cases g30_32 : o < 31
                  ·
                    (have q : o = 30 := (by omega); subst q; rw [show sh_ 30 = 101 by decide +kernel]; exact fc_30)
                  ·
                    (have q : o = 31 := (by omega); subst q; rw [show sh_ 31 = 6 by decide +kernel]; exact fc_31)
            ·
              by_cases g32_39 : o < 35
              ·
                by_cases g32_35 : o < 33
                ·
                  (have q : o = 32 := (by omega); subst q; rw [show sh_ 32 = 101 by decide +kernel]; exact fc_32)
                ·
                  by_cases g33_35 : o < 34
                  ·
                    (have q : o = 33 := (by omega); subst q; rw [show sh_ 33 = 2 by decide +kernel]; exact fc_33)
                  ·
                    (have q : o = 34 := (by omega); subst q; rw [show sh_ 34 = 106 by decide +kernel]; exact fc_34)
              ·
                by_cases g35_39 : o < 37
                ·
                  by_cases g35_37 : o < 36
                  ·
                    (have q : o = 35 := (by omega); subst q; rw [show sh_ 35 = 100 by decide +kernel]; exact fc_35)
                  ·
                    (have q : o = 36 := (by omega); subst q; rw [show sh_ 36 = 6 by decide +kernel]; exact fc_36)
                ·
                  by_cases g37_39 : o < 38
                  ·
                    (have q : o = 37 := (by omega); subst q; rw [show sh_ 37 = 101 by decide +kernel]; exact fc_37)
                  ·
                    (have q : o = 38 := (by omega); subst q; rw [show sh_ 38 = 6 by decide +kernel]; exact fc_38)
          ·
            by_cases g39_52 : o < 45
            ·
              by_cases g39_45 : o < 42
              ·
                by_cases g39_42 : o < 40
                ·
                  (have q : o = 39 := (by omega); subst q; rw [show sh_ 39 = 101 by decide +kernel]; exact fc_39)
                ·
                  by_cases g40_42 : o < 41
                  ·
                    (have q : o = 40 := (by omega); subst q; rw [show sh_ 40 = 6 by decide +kernel]; exact fc_40)
                  ·
                    (have q : o = 41 := (by omega); subst q; rw [show sh_ 41 = 101 by decide +kernel]; exact fc_41)
              ·
                by_cases g42_45 : o < 43
                ·
                  (have q : o = 42 := (by omega); subst q; rw [show sh_ 42 = 6 by decide +kernel]; exact fc_42)
                ·
                  by_cases g43_45 : o < 44
                  ·
                    (have q : o = 43 := (by omega); subst q; rw [show sh_ 43 = 101 by decide +kernel]; exact fc_43)
                  ·
                    (have q : o = 44 := (by omega); subst q; rw [show sh_ 44 = 6 by decide +kernel]; exact fc_44)
            ·
              by_cases g45_52 : o < 48
              ·
                by_cases g45_48 : o < 46
                ·
                  (have q : o = 45 := (by omega); subst q; rw [show sh_ 45 = 101 by decide +kernel]; exact fc_45)
                ·
                  by_cases g46_48 : o < 47
                  ·
                    (have q : o = 46 := (by omega); subst q; rw [show sh_ 46 = 2 by decide +kernel]; exact fc_46)
                  ·
                    (have q : o = 47 := (by omega); subst q; rw [show sh_ 47 = 106 by decide +kernel]; exact fc_47)
              ·
                by_cases g48_52 : o < 50
                ·
                  by_cases g48_50 : o < 49
                  ·
                    (have q : o = 48 := (by omega); subst q; rw [show sh_ 48 = 100 by decide +kernel]; exact fc_48)
                  ·
                    (have q : o = 49 := (by omega); subst q; rw [show sh_ 49 = 6 by decide +kernel]; exact fc_49)
                ·
                  by_cases g50_52 : o < 51
                  ·
                    (have q : o = 50 := (by omega); subst q; rw [show sh_ 50 = 101 by decide +kernel]; exact fc_50)
                  ·
                    (have q : o = 51 := (by omega); subst q; rw [show sh_ 51 = 6 by decide +kernel]; exact fc_51)
      ·
        by_cases g52_103 : o < 77
        ·
          by_cases g52_77 : o < 64
          ·
            by_cases g52_64 : o < 58
            ·
              by_cases g52_58 : o < 55
              ·
                by_cases g52_55 : o < 53
                ·
                  (have q : o = 52 := (by omega); subst q; rw [show sh_ 52 = 101 by decide +kernel]; exact fc_52)
                ·
                  by_cases g53_55 : o < 54
                  ·
                    (have q : o = 53 := (by omega); subst q; rw [show sh_ 53 = 6 by decide +kernel]; exact fc_53)
                  ·
                    (have q : o = 54 := (by omega); subst q; rw [show sh_ 54 = 101 by decide +kernel]; exact fc_54)
              ·
                by_cases g55_58 : o < 56
                ·
                  (have q : o = 55 := (by omega); subst q; rw [show sh_ 55 = 6 by decide +kernel]; exact fc_55)
                ·
                  by_cases g56_58 : o < 57
                  ·
                    (have q : o = 56 := (by omega); subst q; rw [show sh_ 56 = 101 by decide +kernel]; exact fc_56)
                  ·
                    (have q : o = 57 := (by omega); subst q; rw [show sh_ 57 = 6 by decide +kernel]; exact fc_57)
            ·
              by_cases g58_64 : o < 61
              ·
                by_cases g58_61 : o < 59
                ·
                  (have q : o = 58 := (by omega); subst q; rw [show sh_ 58 = 101 by decide +kernel]; exact fc_58)
                ·
                  by_cases g59_61 : o < 60
                  ·
                    (have q : o = 59 := (by omega); subst q; rw [show sh_ 59 = 2 by decide +kernel]; exact fc_59)
                  ·
                    (have q : o = 60 := (by omega); subst q; rw [show sh_ 60 = 106 by decide +kernel]; exact fc_60)
              ·
                by_cases g61_64 : o < 62
                ·
                  (have q : o = 61 := (by omega); subst q; rw [show sh_ 61 = 100 by decide +kernel]; exact fc_61)
                ·
                  by_cases g62_64 : o < 63
                  ·
                    (have q : o = 62 := (by omega); subst q; rw [show sh_ 62 = 6 by decide +kernel]; exact fc_62)
                  ·
                    (have q : o = 63 := (by omega); subst q; rw [show sh_ 63 = 101 by decide +kernel]; exact fc_63)
          ·
            by_cases g64_77 : o < 70
            ·
              by_cases g64_70 : o < 67
              ·
                by_cases g64_67 : o < 65
                ·
                  (have q : o = 64 := (by omega); subst q; rw [show sh_ 64 = 6 by decide +kernel]; exact fc_64)
                ·
                  by_cases g65_67 : o < 66
                  ·
                    (have q : o = 65 := (by omega); subst q; rw [show sh_ 65 = 101 by decide +kernel]; exact fc_65)
                  ·
                    (have q : o = 66 := (by omega); subst q; rw [show sh_ 66 = 6 by decide +kernel]; exact fc_66)
              ·
                by_cases g67_70 : o < 68
                ·
                  (have q : o = 67 := (by omega); subst q; rw [show sh_ 67 = 101 by decide +kernel]; exact fc_67)
                ·
                  by_cases g68_70 : o < 69
                  ·
                    (have q : o = 68 := (by omega); subst q; rw [show sh_ 68 = 6 by decide +kernel]; exact fc_68)
                  ·
                    (have q : o = 69 := (by omega); subst q; rw [show sh_ 69 = 101 by decide +kernel]; exact fc_69)
            ·
              by_cases g70_77 : o < 73
              ·
                by_cases g70_73 : o < 71
                ·
                  (have q : o = 70 := (by omega); subst q; rw [show sh_ 70 = 6 by decide +kernel]; exact fc_70)
                ·
                  by_cases g71_73 : o < 72
                  ·
                    (have q : o = 71 := (by omega); subst q; rw [show sh_ 71 = 101 by decide +kernel]; exact fc_71)
                  ·
                    (have q : o = 72 := (by omega); subst q; rw [show sh_ 72 = 2 by decide +kernel]; exact fc_72)
              ·
                by_cases g73_77 : o < 75
                ·
                  by_cases g73_75 : o < 74
                  ·
                    (have q : o = 73 := (by omega); subst q; rw [show sh_ 73 = 106 by decide +kernel]; exact fc_73)
                  ·
                    (have q : o = 74 := (by omega); subst q; rw [show sh_ 74 = 100 by decide +kernel]; exact fc_74)
                ·
                  by_cases g75_77 : o < 76
                  ·
                    (have q : o = 75 := (by omega); subst q; rw [show sh_ 75 = 6 by decide +kernel]; exact fc_75)
                  ·
                    (have q : o = 76 := (by omega); subst q; rw [show sh_ 76 = 101 by decide +kernel]; exact fc_76)
        ·
          by_cases g77_103 : o < 90
          ·
            by_cases g77_90 : o < 83
            ·
              by_cases g77_83 : o < 80
              ·
                by_cases g77_80 : o < 78
                ·
                  (have q : o = 77 := (by omega); subst q; rw [show sh_ 77 = 6 by decide +kernel]; exact fc_77)
                ·
                  by_cases g78_80 : o < 79
                  ·
                    (have q : o = 78 := (by omega); subst q; rw [show sh_ 78 = 101 by decide +kernel]; exact fc_78)
                  ·
                    (have q : o = 79 := (by omega); subst q; rw [show sh_ 79 = 6 by decide +kernel]; exact fc_79)
              ·
                by_cases g80_83 : o < 81
                ·
                  (have q : o = 80 := (by omega); subst q; rw [show sh_ 80 = 101 by decide +kernel]; exact fc_80)
                ·
                  by_cases g81_83 : o < 82
                  ·
                    (have q : o = 81 := (by omega); subst q; rw [show sh_ 81 = 6 by decide +kernel]; exact fc_81)
                  ·
                    (have q : o = 82 := (by omega); subst q; rw [show sh_ 82 = 101 by decide +kernel]; exact fc_82)
            ·
              by_cases g83_90 : o < 86
              ·
                by_cases g83_86 : o < 84
                ·
                  (have q : o = 83 := (by omega); subst q; rw [show sh_ 83 = 6 by decide +kernel]; exact fc_83)
                ·
                  by_cases g84_86 : o < 85
                  ·
                    (have q : o = 84 := (by omega); subst q; rw [show sh_ 84 = 101 by decide +kernel]; exact fc_84)
                  ·
                    (have q : o = 85 := (by omega); subst q; rw [show sh_ 85 = 2 by decide +kernel]; exact fc_85)
              ·
                by_cases g86_90 : o < 88
                ·
                  by_cases g86_88 : o < 87
                  ·
                    (have q : o = 86 := (by omega); subst q; rw [show sh_ 86 = 106 by decide +kernel]; exact fc_86)
                  ·
                    (have q : o = 87 := (by omega); subst q; rw [show sh_ 87 = 100 by decide +kernel]; exact fc_87)
                ·
                  by_cases g88_90 : o < 89
                  ·
                    (have q : o = 88 := (by omega); subst q; rw [show sh_ 88 = 6 by decide +kernel]; exact fc_88)
                  ·
                    (have q : o = 89 := (by omega); subst q; rw [show sh_ 89 = 101 by decide +kernel]; exact fc_89)
          ·
            by_cases g90_103 : o < 96
            ·
              by_cases g90_96 : o < 93
              ·
                by_cases g90_93 : o < 91
                ·
                  (have q : o = 90 := (by omega); subst q; rw [show sh_ 90 = 6 by decide +kernel]; exact fc_90)
                ·
                  by_cases g91_93 : o < 92
                  ·
                    (have q : o = 91 := (by omega); subst q; rw [show sh_ 91 = 101 by decide +kernel]; exact fc_91)
                  ·
                    (have q : o = 92 := (by omega); subst q; rw [show sh_ 92 = 6 by decide +kernel]; exact fc_92)
              ·
                by_cases g93_96 : o < 94
                ·
                  (have q : o = 93 := (by omega); subst q; rw [show sh_ 93 = 101 by decide +kernel]; exact fc_93)
                ·
                  by_cases g94_96 : o < 95
                  ·
                    (have q : o = 94 := (by omega); subst q; rw [show sh_ 94 = 6 by decide +kernel]; exact fc_94)
                  ·
                    (have q : o = 95 := (by omega); subst q; rw [show sh_ 95 = 101 by decide +kernel]; exact fc_95)
            ·
              by_cases g96_103 : o < 99
              ·
                by_cases g96_99 : o < 97
                ·
                  (have q : o = 96 := (by omega); subst q; rw [show sh_ 96 = 6 by decide +kernel]; exact fc_96)
                ·
                  by_cases g97_99 : o < 98
                  ·
                    (have q : o = 97 := (by omega); subst q; rw [show sh_ 97 = 101 by decide +kernel]; exact fc_97)
                  ·
                    (have q : o = 98 := (by omega); subst q; rw [show sh_ 98 = 2 by decide +kernel]; exact fc_98)
              ·
                by_cases g99_103 : o < 101
                ·
                  by_cases g99_101 : o < 100
                  ·
                    (have q : o = 99 := (by omega); subst q; rw [show sh_ 99 = 106 by decide +kernel]; exact fc_99)
                  ·
                    (have q : o = 100 := (by omega); subst q; rw [show sh_ 100 = 100 by decide +kernel]; exact fc_100)
                ·
                  by_cases g101_103 : o < 102
                  ·
                    (have q : o = 101 := (by omega); subst q; rw [show sh_ 101 = 6 by decide +kernel]; exact fc_101)
                  ·
                    (have q : o = 102 := (by omega); subst q; rw [show sh_ 102 = 101 by decide +kernel]; exact fc_102)
    ·
      by_cases g103_206 : o < 154
      ·
        by_cases g103_154 : o < 128
        ·
          by_cases g103_128 : o < 115
          ·
            by_cases g103_115 : o < 109
            ·
              by_cases g103_109 : o < 106
              ·
                by_cases g103_106 : o < 104
                ·
                  (have q : o = 103 := (by omega); subst q; rw [show sh_ 103 = 6 by decide +kernel]; exact fc_103)
                ·
                  by_cases g104_106 : o < 105
                  ·
                    (have q : o = 104 := (by omega); subst q; rw [show sh_ 104 = 101 by decide +kernel]; exact fc_104)
                  ·
                    (have q : o = 105 := (by omega); subst q; rw [show sh_ 105 = 6 by decide +kernel]; exact fc_105)
              ·
                by_cases g106_109 : o < 107
                ·
                  (have q : o = 106 := (by omega); subst q; rw [show sh_ 106 = 101 by decide +kernel]; exact fc_106)
                ·
                  by_cases g107_109 : o < 108
                  ·
                    (have q : o = 107 := (by omega); subst q; rw [show sh_ 107 = 6 by decide +kernel]; exact fc_107)
                  ·
                    (have q : o = 108 := (by omega); subst q; rw [show sh_ 108 = 101 by decide +kernel]; exact fc_108)
            ·
              by_cases g109_115 : o < 112
              ·
                by_cases g109_112 : o < 110
                ·
                  (have q : o = 109 := (by omega); subst q; rw [show sh_ 109 = 6 by decide +kernel]; exact fc_109)
                ·
                  by_cases g110_112 : o < 111
                  ·
                    (have q : o = 110 := (by omega); subst q; rw [show sh_ 110 = 101 by decide +kernel]; exact fc_110)
                  ·
                    (have q : o = 111 := (by omega); subst q; rw [show sh_ 111 = 2 by decide +kernel]; exact fc_111)
              ·
                by_cases g112_115 : o < 113
                ·
                  (have q : o = 112 := (by omega); subst q; rw [show sh_ 112 = 106 by decide +kernel]; exact fc_112)
                ·
                  by_cases g113_115 : o < 114
                  ·
                    (have q : o = 113 := (by omega); subst q; rw [show sh_ 113 = 100 by decide +kernel]; exact fc_113)
                  ·
                    (have q : o = 114 := (by omega); subst q; rw [show sh_ 114 = 6 by decide +kernel]; exact fc_114)
          ·
            by_cases g115_128 : o < 121
            ·
              by_cases g115_121 : o < 118
              ·
                by_cases g115_118 : o < 116
                ·
                  (have q : o = 115 := (by omega); subst q; rw [show sh_ 115 = 101 by decide +kernel]; exact fc_115)
                ·
                  by_cases g116_118 : o < 117
                  ·
                    (have q : o = 116 := (by omega); subst q; rw [show sh_ 116 = 6 by decide +kernel]; exact fc_116)
                  ·
                    (have q : o = 117 := (by omega); subst q; rw [show sh_ 117 = 101 by decide +kernel]; exact fc_117)
              ·
                by_cases g118_121 : o < 119
                ·
                  (have q : o = 118 := (by omega); subst q; rw [show sh_ 118 = 6 by decide +kernel]; exact fc_118)
                ·
                  by_cases g119_121 : o < 120
                  ·
                    (have q : o = 119 := (by omega); subst q; rw [show sh_ 119 = 101 by decide +kernel]; exact fc_119)
                  ·
                    (have q : o = 120 := (by omega); subst q; rw [show sh_ 120 = 6 by decide +kernel]; exact fc_120)
            ·
              by_cases g121_128 : o < 124
              ·
                by_cases g121_124 : o < 122
                ·
                  (have q : o = 121 := (by omega); subst q; rw [show sh_ 121 = 101 by decide +kernel]; exact fc_121)
                ·
                  by_cases g122_124 : o < 123
                  ·
                    (have q : o = 122 := (by omega); subst q; rw [show sh_ 122 = 6 by decide +kernel]; exact fc_122)
                  ·
                    (have q : o = 123 := (by omega); subst q; rw [show sh_ 123 = 101 by decide +kernel]; exact fc_123)
              ·
                by_cases g124_128 : o < 126
                ·
                  by_cases g124_126 : o < 125
                  ·
                    (have q : o = 124 := (by omega); subst q; rw [show sh_ 124 = 4 by decide +kernel]; exact fc_124)
                  ·
                    (have q : o = 125 := (by omega); subst q; rw [show sh_ 125 = 6 by decide +kernel]; exact fc_125)
                ·
                  by_cases g126_128 : o < 127
                  ·
                    (have q : o = 126 := (by omega); subst q; rw [show sh_ 126 = 101 by decide +kernel]; exact fc_126)
                  ·
                    (have q : o = 127 := (by omega); subst q; rw [show sh_ 127 = 3 by decide +kernel]; exact fc_127)
        ·
          by_cases g128_154 : o < 141
          ·
            by_cases g128_141 : o < 134
            ·
              by_cases g128_134 : o < 131
              ·
                by_cases g128_131 : o < 129
                ·
                  (have q : o = 128 := (by omega); subst q; rw [show sh_ 128 = 100 by decide +kernel]; exact fc_128)
                ·
                  by_cases g129_131 : o < 130
                  ·
                    (have q : o = 129 := (by omega); subst q; rw [show sh_ 129 = 100 by decide +kernel]; exact fc_129)
                  ·
                    (have q : o = 130 := (by omega); subst q; rw [show sh_ 130 = 100 by decide +kernel]; exact fc_130)
              ·
                by_cases g131_134 : o < 132
                ·
                  (have q : o = 131 := (by omega); subst q; rw [show sh_ 131 = 100 by decide +kernel]; exact fc_131)
                ·
                  by_cases g132_134 : o < 133
                  ·
                    (have q : o = 132 := (by omega); subst q; rw [show sh_ 132 = 5 by decide +kernel]; exact fc_132)
                  ·
                    (have q : o = 133 := (by omega); subst q; rw [show sh_ 133 = 105 by decide +kernel]; exact fc_133)
            ·
              by_cases g134_141 : o < 137
              ·
                by_cases g134_137 : o < 135
                ·
                  (have q : o = 134 := (by omega); subst q; rw [show sh_ 134 = 100 by decide +kernel]; exact fc_134)
                ·
                  by_cases g135_137 : o < 136
                  ·
                    (have q : o = 135 := (by omega); subst q; rw [show sh_ 135 = 100 by decide +kernel]; exact fc_135)
                  ·
                    (have q : o = 136 := (by omega); subst q; rw [show sh_ 136 = 100 by decide +kernel]; exact fc_136)
              ·
                by_cases g137_141 : o < 139
                ·
                  by_cases g137_139 : o < 138
                  ·
                    (have q : o = 137 := (by omega); subst q; rw [show sh_ 137 = 1 by decide +kernel]; exact fc_137)
                  ·
                    (have q : o = 138 := (by omega); subst q; rw [show sh_ 138 = 6 by decide +kernel]; exact fc_138)
                ·
                  by_cases g139_141 : o < 140
                  ·
                    (have q : o = 139 := (by omega); subst q; rw [show sh_ 139 = 101 by decide +kernel]; exact fc_139)
                  ·
                    (have q : o = 140 := (by omega); subst q; rw [show sh_ 140 = 100 by decide +kernel]; exact fc_140)
          ·
            by_cases g141_154 : o < 147
            ·
              by_cases g141_147 : o < 144
              ·
                by_cases g141_144 : o < 142
                ·
                  (have q : o = 141 := (by omega); subst q; rw [show sh_ 141 = 1 by decide +kernel]; exact fc_141)
                ·
                  by_cases g142_144 : o < 143
                  ·
                    (have q : o = 142 := (by omega); subst q; rw [show sh_ 142 = 6 by decide +kernel]; exact fc_142)
                  ·
                    (have q : o = 143 := (by omega); subst q; rw [show sh_ 143 = 101 by decide +kernel]; exact fc_143)
              ·
                by_cases g144_147 : o < 145
                ·
                  (have q : o = 144 := (by omega); subst q; rw [show sh_ 144 = 100 by decide +kernel]; exact fc_144)
                ·
                  by_cases g145_147 : o < 146
                  ·
                    (have q : o = 145 := (by omega); subst q; rw [show sh_ 145 = 1 by decide +kernel]; exact fc_145)
                  ·
                    (have q : o = 146 := (by omega); subst q; rw [show sh_ 146 = 6 by decide +kernel]; exact fc_146)
            ·
              by_cases g147_154 : o < 150
              ·
                by_cases g147_150 : o < 148
                ·
                  (have q : o = 147 := (by omega); subst q; rw [show sh_ 147 = 101 by decide +kernel]; exact fc_147)
                ·
                  by_cases g148_150 : o < 149
                  ·
                    (have q : o = 148 := (by omega); subst q; rw [show sh_ 148 = 100 by decide +kernel]; exact fc_148)
                  ·
                    (have q : o = 149 := (by omega); subst q; rw [show sh_ 149 = 1 by decide +kernel]; exact fc_149)
              ·
                by_cases g150_154 : o < 152
                ·
                  by_cases g150_152 : o < 151
                  ·
                    (have q : o = 150 := (by omega); subst q; rw [show sh_ 150 = 6 by decide +kernel]; exact fc_150)
                  ·
                    (have q : o = 151 := (by omega); subst q; rw [show sh_ 151 = 101 by decide +kernel]; exact fc_151)
                ·
                  by_cases g152_154 : o < 153
                  ·
                    (have q : o = 152 := (by omega); subst q; rw [show sh_ 152 = 100 by decide +kernel]; exact fc_152)
                  ·
                    (have q : o = 153 := (by omega); subst q; rw [show sh_ 153 = 1 by decide +kernel]; exact fc_153)
      ·
        by_cases g154_206 : o < 180
        ·
          by_cases g154_180 : o < 167
          ·
            by_cases g154_167 : o < 160
            ·
              by_cases g154_160 : o < 157
              ·
                by_cases g154_157 : o < 155
                ·
                  (have q : o = 154 := (by omega); subst q; rw [show sh_ 154 = 6 by decide +kernel]; exact fc_154)
                ·
                  by_cases g155_157 : o < 156
                  ·
                    (have q : o = 155 := (by omega); subst q; rw [show sh_ 155 = 101 by decide +kernel]; exact fc_155)
                  ·
                    (have q : o = 156 := (by omega); subst q; rw [show sh_ 156 = 100 by decide +kernel]; exact fc_156)
              ·
                by_cases g157_160 : o < 158
                ·
                  (have q : o = 157 := (by omega); subst q; rw [show sh_ 157 = 1 by decide +kernel]; exact fc_157)
                ·
                  by_cases g158_160 : o < 159
                  ·
                    (have q : o = 158 := (by omega); subst q; rw [show sh_ 158 = 6 by decide +kernel]; exact fc_158)
                  ·
                    (have q : o = 159 := (by omega); subst q; rw [show sh_ 159 = 101 by decide +kernel]; exact fc_159)
            ·
              by_cases g160_167 : o < 163
              ·
                by_cases g160_163 : o < 161
                ·
                  (have q : o = 160 := (by omega); subst q; rw [show sh_ 160 = 100 by decide +kernel]; exact fc_160)
                ·
                  by_cases g161_163 : o < 162
                  ·
                    (have q : o = 161 := (by omega); subst q; rw [show sh_ 161 = 1 by decide +kernel]; exact fc_161)
                  ·
                    (have q : o = 162 := (by omega); subst q; rw [show sh_ 162 = 6 by decide +kernel]; exact fc_162)
              ·
                by_cases g163_167 : o < 165
                ·
                  by_cases g163_165 : o < 164
                  ·
                    (have q : o = 163 := (by omega); subst q; rw [show sh_ 163 = 101 by decide +kernel]; exact fc_163)
                  ·
                    (have q : o = 164 := (by omega); subst q; rw [show sh_ 164 = 100 by decide +kernel]; exact fc_164)
                ·
                  by_cases g165_167 : o < 166
                  ·
                    (have q : o = 165 := (by omega); subst q; rw [show sh_ 165 = 1 by decide +kernel]; exact fc_165)
                  ·
                    (have q : o = 166 := (by omega); subst q; rw [show sh_ 166 = 6 by decide +kernel]; exact fc_166)
          ·
            by_cases g167_180 : o < 173
            ·
              by_cases g167_173 : o < 170
              ·
                by_cases g167_170 : o < 168
                ·
                  (have q : o = 167 := (by omega); subst q; rw [show sh_ 167 = 101 by decide +kernel]; exact fc_167)
                ·
                  by_cases g168_170 : o < 169
                  ·
                    (have q : o = 168 := (by omega); subst q; rw [show sh_ 168 = 100 by decide +kernel]; exact fc_168)
                  ·
                    (have q : o = 169 := (by omega); subst q; rw [show sh_ 169 = 5 by decide +kernel]; exact fc_169)
              ·
                by_cases g170_173 : o < 171
                ·
                  (have q : o = 170 := (by omega); subst q; rw [show sh_ 170 = 105 by decide +kernel]; exact fc_170)
                ·
                  by_cases g171_173 : o < 172
                  ·
                    (have q : o = 171 := (by omega); subst q; rw [show sh_ 171 = 100 by decide +kernel]; exact fc_171)
                  ·
                    (have q : o = 172 := (by omega); subst q; rw [show sh_ 172 = 100 by decide +kernel]; exact fc_172)
            ·
              by_cases g173_180 : o < 176
              ·
                by_cases g173_176 : o < 174
                ·
                  (have q : o = 173 := (by omega); subst q; rw [show sh_ 173 = 100 by decide +kernel]; exact fc_173)
                ·
                  by_cases g174_176 : o < 175
                  ·
                    (have q : o = 174 := (by omega); subst q; rw [show sh_ 174 = 1 by decide +kernel]; exact fc_174)
                  ·
                    (have q : o = 175 := (by omega); subst q; rw [show sh_ 175 = 6 by decide +kernel]; exact fc_175)
              ·
                by_cases g176_180 : o < 178
                ·
                  by_cases g176_178 : o < 177
                  ·
                    (have q : o = 176 := (by omega); subst q; rw [show sh_ 176 = 101 by decide +kernel]; exact fc_176)
                  ·
                    (have q : o = 177 := (by omega); subst q; rw [show sh_ 177 = 100 by decide +kernel]; exact fc_177)
                ·
                  by_cases g178_180 : o < 179
                  ·
                    (have q : o = 178 := (by omega); subst q; rw [show sh_ 178 = 1 by decide +kernel]; exact fc_178)
                  ·
                    (have q : o = 179 := (by omega); subst q; rw [show sh_ 179 = 6 by decide +kernel]; exact fc_179)
        ·
          by_cases g180_206 : o < 193
          ·
            by_cases g180_193 : o < 186
            ·
              by_cases g180_186 : o < 183
              ·
                by_cases g180_183 : o < 181
                ·
                  (have q : o = 180 := (by omega); subst q; rw [show sh_ 180 = 101 by decide +kernel]; exact fc_180)
                ·
                  by_cases g181_183 : o < 182
                  ·
                    (have q : o = 181 := (by omega); subst q; rw [show sh_ 181 = 100 by decide +kernel]; exact fc_181)
                  ·
                    (have q : o = 182 := (by omega); subst q; rw [show sh_ 182 = 1 by decide +kernel]; exact fc_182)
              ·
                by_cases g183_186 : o < 184
                ·
                  (have q : o = 183 := (by omega); subst q; rw [show sh_ 183 = 6 by decide +kernel]; exact fc_183)
                ·
                  by_cases g184_186 : o < 185
                  ·
                    (have q : o = 184 := (by omega); subst q; rw [show sh_ 184 = 101 by decide +kernel]; exact fc_184)
                  ·
                    (have q : o = 185 := (by omega); subst q; rw [show sh_ 185 = 100 by decide +kernel]; exact fc_185)
            ·
              by_cases g186_193 : o < 189
              ·
                by_cases g186_189 : o < 187
                ·
                  (have q : o = 186 := (by omega); subst q; rw [show sh_ 186 = 1 by decide +kernel]; exact fc_186)
                ·
                  by_cases g187_189 : o < 188
                  ·
                    (have q : o = 187 := (by omega); subst q; rw [show sh_ 187 = 6 by decide +kernel]; exact fc_187)
                  ·
                    (have q : o = 188 := (by omega); subst q; rw [show sh_ 188 = 101 by decide +kernel]; exact fc_188)
              ·
                by_cases g189_193 : o < 191
                ·
                  by_cases g189_191 : o < 190
                  ·
                    (have q : o = 189 := (by omega); subst q; rw [show sh_ 189 = 100 by decide +kernel]; exact fc_189)
                  ·
                    (have q : o = 190 := (by omega); subst q; rw [show sh_ 190 = 1 by decide +kernel]; exact fc_190)
                ·
                  by_cases g191_193 : o < 192
                  ·
                    (have q : o = 191 := (by omega); subst q; rw [show sh_ 191 = 6 by decide +kernel]; exact fc_191)
                  ·
                    (have q : o = 192 := (by omega); subst q; rw [show sh_ 192 = 101 by decide +kernel]; exact fc_192)
          ·
            by_cases g193_206 : o < 199
            ·
              by_cases g193_199 : o < 196
              ·
                by_cases g193_196 : o < 194
                ·
                  (have q : o = 193 := (by omega); subst q; rw [show sh_ 193 = 100 by decide +kernel]; exact fc_193)
                ·
                  by_cases g194_196 : o < 195
                  ·
                    (have q : o = 194 := (by omega); subst q; rw [show sh_ 194 = 1 by decide +kernel]; exact fc_194)
                  ·
                    (have q : o = 195 := (by omega); subst q; rw [show sh_ 195 = 6 by decide +kernel]; exact fc_195)
              ·
                by_cases g196_199 : o < 197
                ·
                  (have q : o = 196 := (by omega); subst q; rw [show sh_ 196 = 101 by decide +kernel]; exact fc_196)
                ·
                  by_cases g197_199 : o < 198
                  ·
                    (have q : o = 197 := (by omega); subst q; rw [show sh_ 197 = 100 by decide +kernel]; exact fc_197)
                  ·
                    (have q : o = 198 := (by omega); subst q; rw [show sh_ 198 = 1 by decide +kernel]; exact fc_198)
            ·
              by_cases g199_206 : o < 202
              ·
                by_cases g199_202 : o < 200
                ·
                  (have q : o = 199 := (by omega); subst q; rw [show sh_ 199 = 6 by decide +kernel]; exact fc_199)
                ·
                  by_cases g200_202 : o < 201
                  ·
                    (have q : o = 200 := (by omega); subst q; rw [show sh_ 200 = 101 by decide +kernel]; exact fc_200)
                  ·
                    (have q : o = 201 := (by omega); subst q; rw [show sh_ 201 = 100 by decide +kernel]; exact fc_201)
              ·
                by_cases g202_206 : o < 204
                ·
                  by_cases g202_204 : o < 203
                  ·
                    (have q : o = 202 := (by omega); subst q; rw [show sh_ 202 = 1 by decide +kernel]; exact fc_202)
                  ·
                    (have q : o = 203 := (by omega); subst q; rw [show sh_ 203 = 6 by decide +kernel]; exact fc_203)
                ·
                  by_cases g204_206 : o < 205
                  ·
                    (have q : o = 204 := (by omega); subst q; rw [show sh_ 204 = 101 by decide +kernel]; exact fc_204)
                  ·
                    (have q : o = 205 := (by omega); subst q; rw [show sh_ 205 = 100 by decide +kernel]; exact fc_205)
  rw [mC_n hc]
  by_cases c0 : o = 0
  · subst c0
    rw [s_0]; rfl
  · have hs : sh_ o = 999 := by unfold sh_; rw [if_neg (by omega)]
    rw [hs]
    show cj_up (Cz L xs) 1 _ o = none
    rw [cj_up_n _ _ (by omega)]
    unfold Cz
    rw [if_neg c0]
