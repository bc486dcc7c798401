/-! where the cells lie once both objects are made (laid by a program: gen/layout.py, gen/mem.py) -/
def nn_ : Nat := 237
def shb_ : Nat := 27529983152041206721066947983224980456788626542810528981251626332826967381513447853218595629916222550898634032287686715969804583265843196533406689004220499351204939844103156143271147546302365345578566606424544307805843397416292840058991493350378450540089074320039520099891193315929986193671449080086064163956166910312501850661564868100038032587197885614592796926362572760225779451373809966547239864100128261366173541819553038613640393655603734521208246993921186312969282277542164125882073244772621525655953697886497872165130104199015529085963133615935301508753302419752123655276449187470800773871004415690833080183082033250754363197575671893088943717066540120784353526891289408333626614574187201941232304452010084
def lnb_ : Nat := 4733448144487111062256232730869214016020137061169146401328882990635615452209999797744924417386416100454470610730881131356532515130716475404191037008078881979445664896260640040257880491470848523867032320598397823892024978046007052786400234037733492183656301132060065493000935872105407417123380343294392872365461817550361435861701155036222387146654743869185969450006988822103638396833928641685864840731849301505329460788544843895503964885918294375336235081190479762824181868698468836589868227748280820230528520298544809215899204497457534207308279188166902038591007729595219514372799388342468209243641628818372148969371595016354096175114766867128027898468051345887573041975263111981880665089638683998428918456172809099732403822866119479588509327686872077194241887936006813915353652431669826533956772870217188685058099028355057965339086000858784544394838016
def sh_ (o : Nat) : Nat := if o < 237 then shb_ / 1024 ^ o % 1024 else 999
def lnl_ (o : Nat) : Nat := lnb_ / 4096 ^ o % 4096
def ln_ (L o : Nat) : Nat := if o = 0 then L else lnl_ o
def cg_c (s L o : Nat) (g : Nat → Int32) : Option cj_C := match s with
  | 0 => some (.inr (0, [.int (g 0), .ref (o + 1), .ref (o + 3), .ref (o + 5), .ref (o + 18), .ref (o + 123), .int (g 6), .int (g 7), .int (g 8), .ref (g 9).toNatClampNeg, .ref (g 10).toNatClampNeg]))
  | 1 => some (.inr (1, [.ref (o + 1), .ref (o + 3), .int (g 2), .int (g 3)]))
  | 2 => some (.inr (2, [.ref (o + 1), .ref (o + 2), .ref (g 2).toNatClampNeg, .int (g 3)]))
  | 3 => some (.inr (3, [.ref (o + 1), .ref (o + 2), .ref (o + 3), .int (g 3), .int (g 4), .int (g 5)]))
  | 4 => some (.inr (4, [.int (g 0), .int (g 1), .ref (o + 1), .ref (o + 3), .ref (o + 7)]))
  | 5 => some (.inr (5, [.ref (o + 1), .ref (o + 2), .ref (o + 3), .ref (o + 4), .int (g 4), .int (g 5), .int (g 6), .int (g 7), .int (g 8), .int (g 9)]))
  | 6 => some (.inr (6, [.ref (o + 1), .int (g 1)]))
  | 7 => some (.inr (7, [.int (g 0), .int (g 1), .int (g 2), .int (g 3), .ref (o + 1), .int (g 5), .ref (o + 2), .ref (o + 3), .int (g 8), .ref (o + 4), .ref (o + 5), .ref (o + 6), .ref (o + 7), .ref (o + 8), .int (g 14), .ref (o + 9), .int (g 16), .ref (o + 10), .int (g 18), .ref (o + 11), .ref (o + 12), .ref (o + 13), .ref (o + 14), .int (g 23), .ref (o + 15), .ref (o + 16), .ref (o + 17), .ref (o + 18), .ref (o + 19), .ref (o + 20), .ref (o + 21), .ref (o + 22), .ref (o + 23), .ref (o + 24), .ref (o + 25), .ref (o + 26), .ref (o + 27), .ref (o + 28), .ref (o + 29)]))
  | 100 => some (.inl (0, ln_ L o, .inl g))
  | 101 => some (.inl (1, ln_ L o, .inl g))
  | 102 => some (.inl (2, ln_ L o, .inr (.inl (fun j => (g j).toInt64))))
  | 103 => some (.inl (3, ln_ L o, .inr (.inr (fun j => if j < 6 then some (o + 1 + 2 * j) else none))))
  | 104 => some (.inl (4, ln_ L o, .inr (.inr (fun j => if j < 8 then some (o + 1 + 13 * j) else none))))
  | 105 => some (.inl (5, ln_ L o, .inr (.inr (fun j => if j < 8 then some (o + 4 + 4 * j) else none))))
  | 106 => some (.inl (3, ln_ L o, .inr (.inr (fun j => if j < 4 then some (o + 4 + 2 * j) else none))))
  | _ => none
theorem cg_dyn_0_9 {L o c : Nat} {g : Nat → Int32} (h : c < 2 ^ 31) : some (.inr (0, [.int (g 0), .ref (o + 1), .ref (o + 3), .ref (o + 5), .ref (o + 18), .ref (o + 123), .int (g 6), .int (g 7), .int (g 8), .ref c, .ref (g 10).toNatClampNeg])) = cg_c 0 L o (cj_up g 9 (nI c)) := by
  have e : (cj_up g 9 (nI c) 9).toNatClampNeg = c := by rw [cj_up_s]; exact nI_clamp h
  show (_ : Option cj_C) = some (.inr (0, [.int (g 0), .ref (o + 1), .ref (o + 3), .ref (o + 5), .ref (o + 18), .ref (o + 123), .int (g 6), .int (g 7), .int (g 8), .ref (cj_up g 9 (nI c) 9).toNatClampNeg, .ref (g 10).toNatClampNeg]))
  rw [e]
theorem cg_dyn_0_10 {L o c : Nat} {g : Nat → Int32} (h : c < 2 ^ 31) : some (.inr (0, [.int (g 0), .ref (o + 1), .ref (o + 3), .ref (o + 5), .ref (o + 18), .ref (o + 123), .int (g 6), .int (g 7), .int (g 8), .ref (g 9).toNatClampNeg, .ref c])) = cg_c 0 L o (cj_up g 10 (nI c)) := by
  have e : (cj_up g 10 (nI c) 10).toNatClampNeg = c := by rw [cj_up_s]; exact nI_clamp h
  show (_ : Option cj_C) = some (.inr (0, [.int (g 0), .ref (o + 1), .ref (o + 3), .ref (o + 5), .ref (o + 18), .ref (o + 123), .int (g 6), .int (g 7), .int (g 8), .ref (g 9).toNatClampNeg, .ref (cj_up g 10 (nI c) 10).toNatClampNeg]))
  rw [e]
theorem cg_dyn_2_2 {L o c : Nat} {g : Nat → Int32} (h : c < 2 ^ 31) : some (.inr (2, [.ref (o + 1), .ref (o + 2), .ref c, .int (g 3)])) = cg_c 2 L o (cj_up g 2 (nI c)) := by
  have e : (cj_up g 2 (nI c) 2).toNatClampNeg = c := by rw [cj_up_s]; exact nI_clamp h
  show (_ : Option cj_C) = some (.inr (2, [.ref (o + 1), .ref (o + 2), .ref (cj_up g 2 (nI c) 2).toNatClampNeg, .int (g 3)]))
  rw [e]
theorem sh_lt {a c : Nat} (h : sh_ a = c) (hc : c ≠ 999) : a < 237 := by
  refine Nat.lt_of_not_le (fun hn => hc ?_)
  rw [← h]; unfold sh_; rw [if_neg (Nat.not_lt.mpr hn)]
set_option maxRecDepth 100000 in
theorem sc_0_1 {a : Nat} (h : sh_ a = 0) : sh_ (a + 1) = 6 := (by decide +kernel : ∀ a, a < 237 → sh_ a = 0 → sh_ (a + 1) = 6) a (sh_lt h (by decide)) h
set_option maxRecDepth 100000 in
theorem sc_0_2 {a : Nat} (h : sh_ a = 0) : sh_ (a + 3) = 6 := (by decide +kernel : ∀ a, a < 237 → sh_ a = 0 → sh_ (a + 3) = 6) a (sh_lt h (by decide)) h
set_option maxRecDepth 100000 in
theorem sc_0_3 {a : Nat} (h : sh_ a = 0) : sh_ (a + 5) = 103 := (by decide +kernel : ∀ a, a < 237 → sh_ a = 0 → sh_ (a + 5) = 103) a (sh_lt h (by decide)) h
set_option maxRecDepth 100000 in
theorem sl_0_3 {L a : Nat} (h : sh_ a = 0) : ln_ L (a + 5) = 6 := by
  unfold ln_; rw [if_neg (by omega)]; exact (by decide +kernel : ∀ a, a < 237 → sh_ a = 0 → lnl_ (a + 5) = 6) a (sh_lt h (by decide)) h
set_option maxRecDepth 100000 in
theorem sc_0_4 {a : Nat} (h : sh_ a = 0) : sh_ (a + 18) = 104 := (by decide +kernel : ∀ a, a < 237 → sh_ a = 0 → sh_ (a + 18) = 104) a (sh_lt h (by decide)) h
set_option maxRecDepth 100000 in
theorem sl_0_4 {L a : Nat} (h : sh_ a = 0) : ln_ L (a + 18) = 8 := by
  unfold ln_; rw [if_neg (by omega)]; exact (by decide +kernel : ∀ a, a < 237 → sh_ a = 0 → lnl_ (a + 18) = 8) a (sh_lt h (by decide)) h
set_option maxRecDepth 100000 in
theorem sc_0_5 {a : Nat} (h : sh_ a = 0) : sh_ (a + 123) = 4 := (by decide +kernel : ∀ a, a < 237 → sh_ a = 0 → sh_ (a + 123) = 4) a (sh_lt h (by decide)) h
set_option maxRecDepth 100000 in
theorem sc_1_0 {a : Nat} (h : sh_ a = 1) : sh_ (a + 1) = 6 := (by decide +kernel : ∀ a, a < 237 → sh_ a = 1 → sh_ (a + 1) = 6) a (sh_lt h (by decide)) h
set_option maxRecDepth 100000 in
theorem sc_1_1 {a : Nat} (h : sh_ a = 1) : sh_ (a + 3) = 100 := (by decide +kernel : ∀ a, a < 237 → sh_ a = 1 → sh_ (a + 3) = 100) a (sh_lt h (by decide)) h
set_option maxRecDepth 100000 in
theorem sl_1_1 {L a : Nat} (h : sh_ a = 1) : ln_ L (a + 3) = 107 := by
  unfold ln_; rw [if_neg (by omega)]; exact (by decide +kernel : ∀ a, a < 237 → sh_ a = 1 → lnl_ (a + 3) = 107) a (sh_lt h (by decide)) h
set_option maxRecDepth 100000 in
theorem sc_2_0 {a : Nat} (h : sh_ a = 2) : sh_ (a + 1) = 106 := (by decide +kernel : ∀ a, a < 237 → sh_ a = 2 → sh_ (a + 1) = 106) a (sh_lt h (by decide)) h
set_option maxRecDepth 100000 in
theorem sl_2_0 {L a : Nat} (h : sh_ a = 2) : ln_ L (a + 1) = 4 := by
  unfold ln_; rw [if_neg (by omega)]; exact (by decide +kernel : ∀ a, a < 237 → sh_ a = 2 → lnl_ (a + 1) = 4) a (sh_lt h (by decide)) h
set_option maxRecDepth 100000 in
theorem sc_2_1 {a : Nat} (h : sh_ a = 2) : sh_ (a + 2) = 100 := (by decide +kernel : ∀ a, a < 237 → sh_ a = 2 → sh_ (a + 2) = 100) a (sh_lt h (by decide)) h
set_option maxRecDepth 100000 in
theorem sl_2_1 {L a : Nat} (h : sh_ a = 2) : ln_ L (a + 2) = 4 := by
  unfold ln_; rw [if_neg (by omega)]; exact (by decide +kernel : ∀ a, a < 237 → sh_ a = 2 → lnl_ (a + 2) = 4) a (sh_lt h (by decide)) h
set_option maxRecDepth 100000 in
theorem sc_3_0 {a : Nat} (h : sh_ a = 3) : sh_ (a + 1) = 100 := (by decide +kernel : ∀ a, a < 237 → sh_ a = 3 → sh_ (a + 1) = 100) a (sh_lt h (by decide)) h
set_option maxRecDepth 100000 in
theorem sl_3_0 {L a : Nat} (h : sh_ a = 3) : ln_ L (a + 1) = 848 := by
  unfold ln_; rw [if_neg (by omega)]; exact (by decide +kernel : ∀ a, a < 237 → sh_ a = 3 → lnl_ (a + 1) = 848) a (sh_lt h (by decide)) h
set_option maxRecDepth 100000 in
theorem sc_3_1 {a : Nat} (h : sh_ a = 3) : sh_ (a + 2) = 100 := (by decide +kernel : ∀ a, a < 237 → sh_ a = 3 → sh_ (a + 2) = 100) a (sh_lt h (by decide)) h
set_option maxRecDepth 100000 in
theorem sl_3_1 {L a : Nat} (h : sh_ a = 3) : ln_ L (a + 2) = 849 := by
  unfold ln_; rw [if_neg (by omega)]; exact (by decide +kernel : ∀ a, a < 237 → sh_ a = 3 → lnl_ (a + 2) = 849) a (sh_lt h (by decide)) h
set_option maxRecDepth 100000 in
theorem sc_3_2 {a : Nat} (h : sh_ a = 3) : sh_ (a + 3) = 100 := (by decide +kernel : ∀ a, a < 237 → sh_ a = 3 → sh_ (a + 3) = 100) a (sh_lt h (by decide)) h
set_option maxRecDepth 100000 in
theorem sl_3_2 {L a : Nat} (h : sh_ a = 3) : ln_ L (a + 3) = 848 := by
  unfold ln_; rw [if_neg (by omega)]; exact (by decide +kernel : ∀ a, a < 237 → sh_ a = 3 → lnl_ (a + 3) = 848) a (sh_lt h (by decide)) h
set_option maxRecDepth 100000 in
theorem sc_4_2 {a : Nat} (h : sh_ a = 4) : sh_ (a + 1) = 6 := (by decide +kernel : ∀ a, a < 237 → sh_ a = 4 → sh_ (a + 1) = 6) a (sh_lt h (by decide)) h
set_option maxRecDepth 100000 in
theorem sc_4_3 {a : Nat} (h : sh_ a = 4) : sh_ (a + 3) = 3 := (by decide +kernel : ∀ a, a < 237 → sh_ a = 4 → sh_ (a + 3) = 3) a (sh_lt h (by decide)) h
set_option maxRecDepth 100000 in
theorem sc_4_4 {a : Nat} (h : sh_ a = 4) : sh_ (a + 7) = 100 := (by decide +kernel : ∀ a, a < 237 → sh_ a = 4 → sh_ (a + 7) = 100) a (sh_lt h (by decide)) h
set_option maxRecDepth 100000 in
theorem sl_4_4 {L a : Nat} (h : sh_ a = 4) : ln_ L (a + 7) = 8 := by
  unfold ln_; rw [if_neg (by omega)]; exact (by decide +kernel : ∀ a, a < 237 → sh_ a = 4 → lnl_ (a + 7) = 8) a (sh_lt h (by decide)) h
set_option maxRecDepth 100000 in
theorem sc_5_0 {a : Nat} (h : sh_ a = 5) : sh_ (a + 1) = 105 := (by decide +kernel : ∀ a, a < 237 → sh_ a = 5 → sh_ (a + 1) = 105) a (sh_lt h (by decide)) h
set_option maxRecDepth 100000 in
theorem sl_5_0 {L a : Nat} (h : sh_ a = 5) : ln_ L (a + 1) = 8 := by
  unfold ln_; rw [if_neg (by omega)]; exact (by decide +kernel : ∀ a, a < 237 → sh_ a = 5 → lnl_ (a + 1) = 8) a (sh_lt h (by decide)) h
set_option maxRecDepth 100000 in
theorem sc_5_1 {a : Nat} (h : sh_ a = 5) : sh_ (a + 2) = 100 := (by decide +kernel : ∀ a, a < 237 → sh_ a = 5 → sh_ (a + 2) = 100) a (sh_lt h (by decide)) h
set_option maxRecDepth 100000 in
theorem sl_5_1 {L a : Nat} (h : sh_ a = 5) : ln_ L (a + 2) = 9 := by
  unfold ln_; rw [if_neg (by omega)]; exact (by decide +kernel : ∀ a, a < 237 → sh_ a = 5 → lnl_ (a + 2) = 9) a (sh_lt h (by decide)) h
set_option maxRecDepth 100000 in
theorem sc_5_2 {a : Nat} (h : sh_ a = 5) : sh_ (a + 3) = 100 := (by decide +kernel : ∀ a, a < 237 → sh_ a = 5 → sh_ (a + 3) = 100) a (sh_lt h (by decide)) h
set_option maxRecDepth 100000 in
theorem sl_5_2 {L a : Nat} (h : sh_ a = 5) : ln_ L (a + 3) = 849 := by
  unfold ln_; rw [if_neg (by omega)]; exact (by decide +kernel : ∀ a, a < 237 → sh_ a = 5 → lnl_ (a + 3) = 849) a (sh_lt h (by decide)) h
set_option maxRecDepth 100000 in
theorem sc_5_3 {a : Nat} (h : sh_ a = 5) : sh_ (a + 4) = 100 := (by decide +kernel : ∀ a, a < 237 → sh_ a = 5 → sh_ (a + 4) = 100) a (sh_lt h (by decide)) h
set_option maxRecDepth 100000 in
theorem sl_5_3 {L a : Nat} (h : sh_ a = 5) : ln_ L (a + 4) = 8 := by
  unfold ln_; rw [if_neg (by omega)]; exact (by decide +kernel : ∀ a, a < 237 → sh_ a = 5 → lnl_ (a + 4) = 8) a (sh_lt h (by decide)) h
set_option maxRecDepth 100000 in
theorem sc_6_0 {a : Nat} (h : sh_ a = 6) : sh_ (a + 1) = 101 := (by decide +kernel : ∀ a, a < 237 → sh_ a = 6 → sh_ (a + 1) = 101) a (sh_lt h (by decide)) h
set_option maxRecDepth 100000 in
theorem sc_7_4 {a : Nat} (h : sh_ a = 7) : sh_ (a + 1) = 100 := (by decide +kernel : ∀ a, a < 237 → sh_ a = 7 → sh_ (a + 1) = 100) a (sh_lt h (by decide)) h
set_option maxRecDepth 100000 in
theorem sl_7_4 {L a : Nat} (h : sh_ a = 7) : ln_ L (a + 1) = 32 := by
  unfold ln_; rw [if_neg (by omega)]; exact (by decide +kernel : ∀ a, a < 237 → sh_ a = 7 → lnl_ (a + 1) = 32) a (sh_lt h (by decide)) h
set_option maxRecDepth 100000 in
theorem sc_7_6 {a : Nat} (h : sh_ a = 7) : sh_ (a + 2) = 100 := (by decide +kernel : ∀ a, a < 237 → sh_ a = 7 → sh_ (a + 2) = 100) a (sh_lt h (by decide)) h
set_option maxRecDepth 100000 in
theorem sl_7_6 {L a : Nat} (h : sh_ a = 7) : ln_ L (a + 2) = 6 := by
  unfold ln_; rw [if_neg (by omega)]; exact (by decide +kernel : ∀ a, a < 237 → sh_ a = 7 → lnl_ (a + 2) = 6) a (sh_lt h (by decide)) h
set_option maxRecDepth 100000 in
theorem sc_7_7 {a : Nat} (h : sh_ a = 7) : sh_ (a + 3) = 100 := (by decide +kernel : ∀ a, a < 237 → sh_ a = 7 → sh_ (a + 3) = 100) a (sh_lt h (by decide)) h
set_option maxRecDepth 100000 in
theorem sl_7_7 {L a : Nat} (h : sh_ a = 7) : ln_ L (a + 3) = 192 := by
  unfold ln_; rw [if_neg (by omega)]; exact (by decide +kernel : ∀ a, a < 237 → sh_ a = 7 → lnl_ (a + 3) = 192) a (sh_lt h (by decide)) h
set_option maxRecDepth 100000 in
theorem sc_7_9 {a : Nat} (h : sh_ a = 7) : sh_ (a + 4) = 100 := (by decide +kernel : ∀ a, a < 237 → sh_ a = 7 → sh_ (a + 4) = 100) a (sh_lt h (by decide)) h
set_option maxRecDepth 100000 in
theorem sl_7_9 {L a : Nat} (h : sh_ a = 7) : ln_ L (a + 4) = 8 := by
  unfold ln_; rw [if_neg (by omega)]; exact (by decide +kernel : ∀ a, a < 237 → sh_ a = 7 → lnl_ (a + 4) = 8) a (sh_lt h (by decide)) h
set_option maxRecDepth 100000 in
theorem sc_7_10 {a : Nat} (h : sh_ a = 7) : sh_ (a + 5) = 100 := (by decide +kernel : ∀ a, a < 237 → sh_ a = 7 → sh_ (a + 5) = 100) a (sh_lt h (by decide)) h
set_option maxRecDepth 100000 in
theorem sl_7_10 {L a : Nat} (h : sh_ a = 7) : ln_ L (a + 5) = 32 := by
  unfold ln_; rw [if_neg (by omega)]; exact (by decide +kernel : ∀ a, a < 237 → sh_ a = 7 → lnl_ (a + 5) = 32) a (sh_lt h (by decide)) h
set_option maxRecDepth 100000 in
theorem sc_7_11 {a : Nat} (h : sh_ a = 7) : sh_ (a + 6) = 100 := (by decide +kernel : ∀ a, a < 237 → sh_ a = 7 → sh_ (a + 6) = 100) a (sh_lt h (by decide)) h
set_option maxRecDepth 100000 in
theorem sl_7_11 {L a : Nat} (h : sh_ a = 7) : ln_ L (a + 6) = 1024 := by
  unfold ln_; rw [if_neg (by omega)]; exact (by decide +kernel : ∀ a, a < 237 → sh_ a = 7 → lnl_ (a + 6) = 1024) a (sh_lt h (by decide)) h
set_option maxRecDepth 100000 in
theorem sc_7_12 {a : Nat} (h : sh_ a = 7) : sh_ (a + 7) = 100 := (by decide +kernel : ∀ a, a < 237 → sh_ a = 7 → sh_ (a + 7) = 100) a (sh_lt h (by decide)) h
set_option maxRecDepth 100000 in
theorem sl_7_12 {L a : Nat} (h : sh_ a = 7) : ln_ L (a + 7) = 8 := by
  unfold ln_; rw [if_neg (by omega)]; exact (by decide +kernel : ∀ a, a < 237 → sh_ a = 7 → lnl_ (a + 7) = 8) a (sh_lt h (by decide)) h
set_option maxRecDepth 100000 in
theorem sc_7_13 {a : Nat} (h : sh_ a = 7) : sh_ (a + 8) = 100 := (by decide +kernel : ∀ a, a < 237 → sh_ a = 7 → sh_ (a + 8) = 100) a (sh_lt h (by decide)) h
set_option maxRecDepth 100000 in
theorem sl_7_13 {L a : Nat} (h : sh_ a = 7) : ln_ L (a + 8) = 32 := by
  unfold ln_; rw [if_neg (by omega)]; exact (by decide +kernel : ∀ a, a < 237 → sh_ a = 7 → lnl_ (a + 8) = 32) a (sh_lt h (by decide)) h
set_option maxRecDepth 100000 in
theorem sc_7_15 {a : Nat} (h : sh_ a = 7) : sh_ (a + 9) = 100 := (by decide +kernel : ∀ a, a < 237 → sh_ a = 7 → sh_ (a + 9) = 100) a (sh_lt h (by decide)) h
set_option maxRecDepth 100000 in
theorem sl_7_15 {L a : Nat} (h : sh_ a = 7) : ln_ L (a + 9) = 26 := by
  unfold ln_; rw [if_neg (by omega)]; exact (by decide +kernel : ∀ a, a < 237 → sh_ a = 7 → lnl_ (a + 9) = 26) a (sh_lt h (by decide)) h
set_option maxRecDepth 100000 in
theorem sc_7_17 {a : Nat} (h : sh_ a = 7) : sh_ (a + 10) = 100 := (by decide +kernel : ∀ a, a < 237 → sh_ a = 7 → sh_ (a + 10) = 100) a (sh_lt h (by decide)) h
set_option maxRecDepth 100000 in
theorem sl_7_17 {L a : Nat} (h : sh_ a = 7) : ln_ L (a + 10) = 256 := by
  unfold ln_; rw [if_neg (by omega)]; exact (by decide +kernel : ∀ a, a < 237 → sh_ a = 7 → lnl_ (a + 10) = 256) a (sh_lt h (by decide)) h
set_option maxRecDepth 100000 in
theorem sc_7_19 {a : Nat} (h : sh_ a = 7) : sh_ (a + 11) = 100 := (by decide +kernel : ∀ a, a < 237 → sh_ a = 7 → sh_ (a + 11) = 100) a (sh_lt h (by decide)) h
set_option maxRecDepth 100000 in
theorem sl_7_19 {L a : Nat} (h : sh_ a = 7) : ln_ L (a + 11) = 130 := by
  unfold ln_; rw [if_neg (by omega)]; exact (by decide +kernel : ∀ a, a < 237 → sh_ a = 7 → lnl_ (a + 11) = 130) a (sh_lt h (by decide)) h
set_option maxRecDepth 100000 in
theorem sc_7_20 {a : Nat} (h : sh_ a = 7) : sh_ (a + 12) = 100 := (by decide +kernel : ∀ a, a < 237 → sh_ a = 7 → sh_ (a + 12) = 100) a (sh_lt h (by decide)) h
set_option maxRecDepth 100000 in
theorem sl_7_20 {L a : Nat} (h : sh_ a = 7) : ln_ L (a + 12) = 130 := by
  unfold ln_; rw [if_neg (by omega)]; exact (by decide +kernel : ∀ a, a < 237 → sh_ a = 7 → lnl_ (a + 12) = 130) a (sh_lt h (by decide)) h
set_option maxRecDepth 100000 in
theorem sc_7_21 {a : Nat} (h : sh_ a = 7) : sh_ (a + 13) = 100 := (by decide +kernel : ∀ a, a < 237 → sh_ a = 7 → sh_ (a + 13) = 100) a (sh_lt h (by decide)) h
set_option maxRecDepth 100000 in
theorem sl_7_21 {L a : Nat} (h : sh_ a = 7) : ln_ L (a + 13) = 901 := by
  unfold ln_; rw [if_neg (by omega)]; exact (by decide +kernel : ∀ a, a < 237 → sh_ a = 7 → lnl_ (a + 13) = 901) a (sh_lt h (by decide)) h
set_option maxRecDepth 100000 in
theorem sc_7_22 {a : Nat} (h : sh_ a = 7) : sh_ (a + 14) = 100 := (by decide +kernel : ∀ a, a < 237 → sh_ a = 7 → sh_ (a + 14) = 100) a (sh_lt h (by decide)) h
set_option maxRecDepth 100000 in
theorem sl_7_22 {L a : Nat} (h : sh_ a = 7) : ln_ L (a + 14) = 901 := by
  unfold ln_; rw [if_neg (by omega)]; exact (by decide +kernel : ∀ a, a < 237 → sh_ a = 7 → lnl_ (a + 14) = 901) a (sh_lt h (by decide)) h
set_option maxRecDepth 100000 in
theorem sc_7_24 {a : Nat} (h : sh_ a = 7) : sh_ (a + 15) = 100 := (by decide +kernel : ∀ a, a < 237 → sh_ a = 7 → sh_ (a + 15) = 100) a (sh_lt h (by decide)) h
set_option maxRecDepth 100000 in
theorem sl_7_24 {L a : Nat} (h : sh_ a = 7) : ln_ L (a + 15) = 2 := by
  unfold ln_; rw [if_neg (by omega)]; exact (by decide +kernel : ∀ a, a < 237 → sh_ a = 7 → lnl_ (a + 15) = 2) a (sh_lt h (by decide)) h
set_option maxRecDepth 100000 in
theorem sc_7_25 {a : Nat} (h : sh_ a = 7) : sh_ (a + 16) = 100 := (by decide +kernel : ∀ a, a < 237 → sh_ a = 7 → sh_ (a + 16) = 100) a (sh_lt h (by decide)) h
set_option maxRecDepth 100000 in
theorem sl_7_25 {L a : Nat} (h : sh_ a = 7) : ln_ L (a + 16) = 10 := by
  unfold ln_; rw [if_neg (by omega)]; exact (by decide +kernel : ∀ a, a < 237 → sh_ a = 7 → lnl_ (a + 16) = 10) a (sh_lt h (by decide)) h
set_option maxRecDepth 100000 in
theorem sc_7_26 {a : Nat} (h : sh_ a = 7) : sh_ (a + 17) = 100 := (by decide +kernel : ∀ a, a < 237 → sh_ a = 7 → sh_ (a + 17) = 100) a (sh_lt h (by decide)) h
set_option maxRecDepth 100000 in
theorem sl_7_26 {L a : Nat} (h : sh_ a = 7) : ln_ L (a + 17) = 16 := by
  unfold ln_; rw [if_neg (by omega)]; exact (by decide +kernel : ∀ a, a < 237 → sh_ a = 7 → lnl_ (a + 17) = 16) a (sh_lt h (by decide)) h
set_option maxRecDepth 100000 in
theorem sc_7_27 {a : Nat} (h : sh_ a = 7) : sh_ (a + 18) = 100 := (by decide +kernel : ∀ a, a < 237 → sh_ a = 7 → sh_ (a + 18) = 100) a (sh_lt h (by decide)) h
set_option maxRecDepth 100000 in
theorem sl_7_27 {L a : Nat} (h : sh_ a = 7) : ln_ L (a + 18) = 8 := by
  unfold ln_; rw [if_neg (by omega)]; exact (by decide +kernel : ∀ a, a < 237 → sh_ a = 7 → lnl_ (a + 18) = 8) a (sh_lt h (by decide)) h
set_option maxRecDepth 100000 in
theorem sc_7_28 {a : Nat} (h : sh_ a = 7) : sh_ (a + 19) = 100 := (by decide +kernel : ∀ a, a < 237 → sh_ a = 7 → sh_ (a + 19) = 100) a (sh_lt h (by decide)) h
set_option maxRecDepth 100000 in
theorem sl_7_28 {L a : Nat} (h : sh_ a = 7) : ln_ L (a + 19) = 16 := by
  unfold ln_; rw [if_neg (by omega)]; exact (by decide +kernel : ∀ a, a < 237 → sh_ a = 7 → lnl_ (a + 19) = 16) a (sh_lt h (by decide)) h
set_option maxRecDepth 100000 in
theorem sc_7_29 {a : Nat} (h : sh_ a = 7) : sh_ (a + 20) = 100 := (by decide +kernel : ∀ a, a < 237 → sh_ a = 7 → sh_ (a + 20) = 100) a (sh_lt h (by decide)) h
set_option maxRecDepth 100000 in
theorem sl_7_29 {L a : Nat} (h : sh_ a = 7) : ln_ L (a + 20) = 1792 := by
  unfold ln_; rw [if_neg (by omega)]; exact (by decide +kernel : ∀ a, a < 237 → sh_ a = 7 → lnl_ (a + 20) = 1792) a (sh_lt h (by decide)) h
set_option maxRecDepth 100000 in
theorem sc_7_30 {a : Nat} (h : sh_ a = 7) : sh_ (a + 21) = 100 := (by decide +kernel : ∀ a, a < 237 → sh_ a = 7 → sh_ (a + 21) = 100) a (sh_lt h (by decide)) h
set_option maxRecDepth 100000 in
theorem sl_7_30 {L a : Nat} (h : sh_ a = 7) : ln_ L (a + 21) = 1792 := by
  unfold ln_; rw [if_neg (by omega)]; exact (by decide +kernel : ∀ a, a < 237 → sh_ a = 7 → lnl_ (a + 21) = 1792) a (sh_lt h (by decide)) h
set_option maxRecDepth 100000 in
theorem sc_7_31 {a : Nat} (h : sh_ a = 7) : sh_ (a + 22) = 100 := (by decide +kernel : ∀ a, a < 237 → sh_ a = 7 → sh_ (a + 22) = 100) a (sh_lt h (by decide)) h
set_option maxRecDepth 100000 in
theorem sl_7_31 {L a : Nat} (h : sh_ a = 7) : ln_ L (a + 22) = 3840 := by
  unfold ln_; rw [if_neg (by omega)]; exact (by decide +kernel : ∀ a, a < 237 → sh_ a = 7 → lnl_ (a + 22) = 3840) a (sh_lt h (by decide)) h
set_option maxRecDepth 100000 in
theorem sc_7_32 {a : Nat} (h : sh_ a = 7) : sh_ (a + 23) = 100 := (by decide +kernel : ∀ a, a < 237 → sh_ a = 7 → sh_ (a + 23) = 100) a (sh_lt h (by decide)) h
set_option maxRecDepth 100000 in
theorem sl_7_32 {L a : Nat} (h : sh_ a = 7) : ln_ L (a + 23) = 2 := by
  unfold ln_; rw [if_neg (by omega)]; exact (by decide +kernel : ∀ a, a < 237 → sh_ a = 7 → lnl_ (a + 23) = 2) a (sh_lt h (by decide)) h
set_option maxRecDepth 100000 in
theorem sc_7_33 {a : Nat} (h : sh_ a = 7) : sh_ (a + 24) = 100 := (by decide +kernel : ∀ a, a < 237 → sh_ a = 7 → sh_ (a + 24) = 100) a (sh_lt h (by decide)) h
set_option maxRecDepth 100000 in
theorem sl_7_33 {L a : Nat} (h : sh_ a = 7) : ln_ L (a + 24) = 1800 := by
  unfold ln_; rw [if_neg (by omega)]; exact (by decide +kernel : ∀ a, a < 237 → sh_ a = 7 → lnl_ (a + 24) = 1800) a (sh_lt h (by decide)) h
set_option maxRecDepth 100000 in
theorem sc_7_34 {a : Nat} (h : sh_ a = 7) : sh_ (a + 25) = 100 := (by decide +kernel : ∀ a, a < 237 → sh_ a = 7 → sh_ (a + 25) = 100) a (sh_lt h (by decide)) h
set_option maxRecDepth 100000 in
theorem sl_7_34 {L a : Nat} (h : sh_ a = 7) : ln_ L (a + 25) = 1800 := by
  unfold ln_; rw [if_neg (by omega)]; exact (by decide +kernel : ∀ a, a < 237 → sh_ a = 7 → lnl_ (a + 25) = 1800) a (sh_lt h (by decide)) h
set_option maxRecDepth 100000 in
theorem sc_7_35 {a : Nat} (h : sh_ a = 7) : sh_ (a + 26) = 100 := (by decide +kernel : ∀ a, a < 237 → sh_ a = 7 → sh_ (a + 26) = 100) a (sh_lt h (by decide)) h
set_option maxRecDepth 100000 in
theorem sl_7_35 {L a : Nat} (h : sh_ a = 7) : ln_ L (a + 26) = 1800 := by
  unfold ln_; rw [if_neg (by omega)]; exact (by decide +kernel : ∀ a, a < 237 → sh_ a = 7 → lnl_ (a + 26) = 1800) a (sh_lt h (by decide)) h
set_option maxRecDepth 100000 in
theorem sc_7_36 {a : Nat} (h : sh_ a = 7) : sh_ (a + 27) = 100 := (by decide +kernel : ∀ a, a < 237 → sh_ a = 7 → sh_ (a + 27) = 100) a (sh_lt h (by decide)) h
set_option maxRecDepth 100000 in
theorem sl_7_36 {L a : Nat} (h : sh_ a = 7) : ln_ L (a + 27) = 1800 := by
  unfold ln_; rw [if_neg (by omega)]; exact (by decide +kernel : ∀ a, a < 237 → sh_ a = 7 → lnl_ (a + 27) = 1800) a (sh_lt h (by decide)) h
set_option maxRecDepth 100000 in
theorem sc_7_37 {a : Nat} (h : sh_ a = 7) : sh_ (a + 28) = 100 := (by decide +kernel : ∀ a, a < 237 → sh_ a = 7 → sh_ (a + 28) = 100) a (sh_lt h (by decide)) h
set_option maxRecDepth 100000 in
theorem sl_7_37 {L a : Nat} (h : sh_ a = 7) : ln_ L (a + 28) = 1800 := by
  unfold ln_; rw [if_neg (by omega)]; exact (by decide +kernel : ∀ a, a < 237 → sh_ a = 7 → lnl_ (a + 28) = 1800) a (sh_lt h (by decide)) h
set_option maxRecDepth 100000 in
theorem sc_7_38 {a : Nat} (h : sh_ a = 7) : sh_ (a + 29) = 100 := (by decide +kernel : ∀ a, a < 237 → sh_ a = 7 → sh_ (a + 29) = 100) a (sh_lt h (by decide)) h
set_option maxRecDepth 100000 in
theorem sl_7_38 {L a : Nat} (h : sh_ a = 7) : ln_ L (a + 29) = 1800 := by
  unfold ln_; rw [if_neg (by omega)]; exact (by decide +kernel : ∀ a, a < 237 → sh_ a = 7 → lnl_ (a + 29) = 1800) a (sh_lt h (by decide)) h
set_option maxRecDepth 100000 in
theorem sa_103 {a j : Nat} (h : sh_ a = 103) (hj : j < 6) : sh_ (a + 1 + 2 * j) = 6 := (by decide +kernel : ∀ a, a < 237 → sh_ a = 103 → ∀ j, j < 6 → sh_ (a + 1 + 2 * j) = 6) a (sh_lt h (by decide)) h j hj
set_option maxRecDepth 100000 in
theorem sla_103 {L a : Nat} (h : sh_ a = 103) : ln_ L a = 6 := by
  have h1 : a ≠ 0 := fun e => by subst e; revert h; decide
  unfold ln_; rw [if_neg h1]; exact (by decide +kernel : ∀ a, a < 237 → sh_ a = 103 → lnl_ a = 6) a (sh_lt h (by decide)) h
set_option maxRecDepth 100000 in
theorem sa_106 {a j : Nat} (h : sh_ a = 106) (hj : j < 4) : sh_ (a + 4 + 2 * j) = 6 := (by decide +kernel : ∀ a, a < 237 → sh_ a = 106 → ∀ j, j < 4 → sh_ (a + 4 + 2 * j) = 6) a (sh_lt h (by decide)) h j hj
set_option maxRecDepth 100000 in
theorem sla_106 {L a : Nat} (h : sh_ a = 106) : ln_ L a = 4 := by
  have h1 : a ≠ 0 := fun e => by subst e; revert h; decide
  unfold ln_; rw [if_neg h1]; exact (by decide +kernel : ∀ a, a < 237 → sh_ a = 106 → lnl_ a = 4) a (sh_lt h (by decide)) h
set_option maxRecDepth 100000 in
theorem sa_104 {a j : Nat} (h : sh_ a = 104) (hj : j < 8) : sh_ (a + 1 + 13 * j) = 2 := (by decide +kernel : ∀ a, a < 237 → sh_ a = 104 → ∀ j, j < 8 → sh_ (a + 1 + 13 * j) = 2) a (sh_lt h (by decide)) h j hj
set_option maxRecDepth 100000 in
theorem sla_104 {L a : Nat} (h : sh_ a = 104) : ln_ L a = 8 := by
  have h1 : a ≠ 0 := fun e => by subst e; revert h; decide
  unfold ln_; rw [if_neg h1]; exact (by decide +kernel : ∀ a, a < 237 → sh_ a = 104 → lnl_ a = 8) a (sh_lt h (by decide)) h
set_option maxRecDepth 100000 in
theorem sa_105 {a j : Nat} (h : sh_ a = 105) (hj : j < 8) : sh_ (a + 4 + 4 * j) = 1 := (by decide +kernel : ∀ a, a < 237 → sh_ a = 105 → ∀ j, j < 8 → sh_ (a + 4 + 4 * j) = 1) a (sh_lt h (by decide)) h j hj
set_option maxRecDepth 100000 in
theorem sla_105 {L a : Nat} (h : sh_ a = 105) : ln_ L a = 8 := by
  have h1 : a ≠ 0 := fun e => by subst e; revert h; decide
  unfold ln_; rw [if_neg h1]; exact (by decide +kernel : ∀ a, a < 237 → sh_ a = 105 → lnl_ a = 8) a (sh_lt h (by decide)) h
theorem sz_0 {a : Nat} (h : sh_ a = 0) : a ≠ 0 := fun e => by subst e; revert h; decide
theorem sz_1 {a : Nat} (h : sh_ a = 1) : a ≠ 0 := fun e => by subst e; revert h; decide
theorem sz_2 {a : Nat} (h : sh_ a = 2) : a ≠ 0 := fun e => by subst e; revert h; decide
theorem sz_3 {a : Nat} (h : sh_ a = 3) : a ≠ 0 := fun e => by subst e; revert h; decide
theorem sz_4 {a : Nat} (h : sh_ a = 4) : a ≠ 0 := fun e => by subst e; revert h; decide
theorem sz_5 {a : Nat} (h : sh_ a = 5) : a ≠ 0 := fun e => by subst e; revert h; decide
theorem sz_6 {a : Nat} (h : sh_ a = 6) : a ≠ 0 := fun e => by subst e; revert h; decide
theorem sz_7 {a : Nat} (h : sh_ a = 7) : a ≠ 0 := fun e => by subst e; revert h; decide
theorem sz_101 {a : Nat} (h : sh_ a = 101) : a ≠ 0 := fun e => by subst e; revert h; decide
theorem sz_102 {a : Nat} (h : sh_ a = 102) : a ≠ 0 := fun e => by subst e; revert h; decide
theorem sz_103 {a : Nat} (h : sh_ a = 103) : a ≠ 0 := fun e => by subst e; revert h; decide
theorem sz_104 {a : Nat} (h : sh_ a = 104) : a ≠ 0 := fun e => by subst e; revert h; decide
theorem sz_105 {a : Nat} (h : sh_ a = 105) : a ≠ 0 := fun e => by subst e; revert h; decide
theorem sz_106 {a : Nat} (h : sh_ a = 106) : a ≠ 0 := fun e => by subst e; revert h; decide
