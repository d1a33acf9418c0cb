set_option maxRecDepth 100000 in
set_option maxHeartbeats 40000000 in
theorem cC_0 (x : Int32) (hx : x = 0) (Q : nk_Q) (hq : Q (some (.int 0)) hC0) : ev_X5_counted [.ref 0, .int x] hC0 Q := by
  subst hx
  refine nk_s (nk_s (nk_s (nk_s ?_)))
  refine And.intro (fun h => ?_) (fun j t hj hx => ?_)
  · exact absurd h (by decide)
  · obtain rfl : j = 0 := by
      simp only [li_0] at hx
      omega
    cases hj
    repeat' first
      | refine nk_s ?_
      | refine nk_br.t (by decide) ?_
      | refine nk_br.f (by decide) ?_
      | (refine nk_br.mk (fun _ => ?_) (fun _ => ?_) <;> try (exfalso; simp only [Int32.lt_iff_toInt_lt, Int32.le_iff_toInt_le, li_m9, li_m4, li_m3, li_m2, li_m1, li_0, li_1, li_2, li_3, li_4, li_5, li_6, li_7, li_9, li_10, li_12, li_15, li_16, li_20, li_40, li_99, li_999, show fC0 2 = 0 from rfl, show fC0 3 = 0 from rfl, show fC0 26 = 0 from rfl, show fC0 27 = 0 from rfl, show fC0 28 = 0 from rfl, show fC0 29 = 0 from rfl, show Int32.ofNat 6 = 6 from rfl, show Int32.ofNat 4 = 4 from rfl, show (0 : Int32) - 1 = -1 from rfl, show iR0 18 = (fun _ => 0) from rfl] at *; omega; done))
      | refine nk_bo0 ?_
      | refine nk_bo1 ?_
      | refine And.intro (by unfold vp_in; decide) ?_
      | (fail; refine nk_swx ?_; first | refine nk_sw_d (by decide) (by decide) ?_ | refine nk_sw_i 0 (by decide) (by decide) ?_ | refine nk_sw_i 1 (by decide) (by decide) ?_ | refine nk_sw_i 2 (by decide) (by decide) ?_ | refine nk_sw_i 3 (by decide) (by decide) ?_ | refine nk_sw_i 4 (by decide) (by decide) ?_ | refine nk_sw_i 5 (by decide) (by decide) ?_ | fail)
      | fail
    all_goals exact hq

set_option maxRecDepth 100000 in
set_option maxHeartbeats 40000000 in
theorem cC_1 (x : Int32) (hx : x = 1) (Q : nk_Q) (hq : Q (some (.int 0)) hC0) : ev_X5_counted [.ref 0, .int x] hC0 Q := by
  subst hx
  refine nk_s (nk_s (nk_s (nk_s ?_)))
  refine And.intro (fun h => ?_) (fun j t hj hx => ?_)
  · exact absurd h (by decide)
  · obtain rfl : j = 1 := by
      simp only [li_1] at hx
      omega
    cases hj
    repeat' first
      | refine nk_s ?_
      | refine nk_br.t (by decide) ?_
      | refine nk_br.f (by decide) ?_
      | (refine nk_br.mk (fun _ => ?_) (fun _ => ?_) <;> try (exfalso; simp only [Int32.lt_iff_toInt_lt, Int32.le_iff_toInt_le, li_m9, li_m4, li_m3, li_m2, li_m1, li_0, li_1, li_2, li_3, li_4, li_5, li_6, li_7, li_9, li_10, li_12, li_15, li_16, li_20, li_40, li_99, li_999, show fC0 2 = 0 from rfl, show fC0 3 = 0 from rfl, show fC0 26 = 0 from rfl, show fC0 27 = 0 from rfl, show fC0 28 = 0 from rfl, show fC0 29 = 0 from rfl, show Int32.ofNat 6 = 6 from rfl, show Int32.ofNat 4 = 4 from rfl, show (0 : Int32) - 1 = -1 from rfl, show iR0 18 = (fun _ => 0) from rfl] at *; omega; done))
      | refine nk_bo0 ?_
      | refine nk_bo1 ?_
      | refine And.intro (by unfold vp_in; decide) ?_
      | (fail; refine nk_swx ?_; first | refine nk_sw_d (by decide) (by decide) ?_ | refine nk_sw_i 0 (by decide) (by decide) ?_ | refine nk_sw_i 1 (by decide) (by decide) ?_ | refine nk_sw_i 2 (by decide) (by decide) ?_ | refine nk_sw_i 3 (by decide) (by decide) ?_ | refine nk_sw_i 4 (by decide) (by decide) ?_ | refine nk_sw_i 5 (by decide) (by decide) ?_ | fail)
      | fail
    all_goals exact hq

set_option maxRecDepth 100000 in
set_option maxHeartbeats 40000000 in
theorem cC_2 (x : Int32) (hx : x = 2) (Q : nk_Q) (hq : Q (some (.int 0)) hC0) : ev_X5_counted [.ref 0, .int x] hC0 Q := by
  subst hx
  refine nk_s (nk_s (nk_s (nk_s ?_)))
  refine And.intro (fun h => ?_) (fun j t hj hx => ?_)
  · exact absurd h (by decide)
  · obtain rfl : j = 2 := by
      simp only [li_2] at hx
      omega
    cases hj
    repeat' first
      | refine nk_s ?_
      | refine nk_br.t (by decide) ?_
      | refine nk_br.f (by decide) ?_
      | (refine nk_br.mk (fun _ => ?_) (fun _ => ?_) <;> try (exfalso; simp only [Int32.lt_iff_toInt_lt, Int32.le_iff_toInt_le, li_m9, li_m4, li_m3, li_m2, li_m1, li_0, li_1, li_2, li_3, li_4, li_5, li_6, li_7, li_9, li_10, li_12, li_15, li_16, li_20, li_40, li_99, li_999, show fC0 2 = 0 from rfl, show fC0 3 = 0 from rfl, show fC0 26 = 0 from rfl, show fC0 27 = 0 from rfl, show fC0 28 = 0 from rfl, show fC0 29 = 0 from rfl, show Int32.ofNat 6 = 6 from rfl, show Int32.ofNat 4 = 4 from rfl, show (0 : Int32) - 1 = -1 from rfl, show iR0 18 = (fun _ => 0) from rfl] at *; omega; done))
      | refine nk_bo0 ?_
      | refine nk_bo1 ?_
      | refine And.intro (by unfold vp_in; decide) ?_
      | (fail; refine nk_swx ?_; first | refine nk_sw_d (by decide) (by decide) ?_ | refine nk_sw_i 0 (by decide) (by decide) ?_ | refine nk_sw_i 1 (by decide) (by decide) ?_ | refine nk_sw_i 2 (by decide) (by decide) ?_ | refine nk_sw_i 3 (by decide) (by decide) ?_ | refine nk_sw_i 4 (by decide) (by decide) ?_ | refine nk_sw_i 5 (by decide) (by decide) ?_ | fail)
      | fail
    all_goals exact hq

set_option maxRecDepth 100000 in
set_option maxHeartbeats 40000000 in
theorem cC_3 (x : Int32) (hx : x = 3) (Q : nk_Q) (hq : Q (some (.int 0)) hC0) : ev_X5_counted [.ref 0, .int x] hC0 Q := by
  subst hx
  refine nk_s (nk_s (nk_s (nk_s ?_)))
  refine And.intro (fun h => ?_) (fun j t hj hx => ?_)
  · exact absurd h (by decide)
  · obtain rfl : j = 3 := by
      simp only [li_3] at hx
      omega
    cases hj
    repeat' first
      | refine nk_s ?_
      | refine nk_br.t (by decide) ?_
      | refine nk_br.f (by decide) ?_
      | (refine nk_br.mk (fun _ => ?_) (fun _ => ?_) <;> try (exfalso; simp only [Int32.lt_iff_toInt_lt, Int32.le_iff_toInt_le, li_m9, li_m4, li_m3, li_m2, li_m1, li_0, li_1, li_2, li_3, li_4, li_5, li_6, li_7, li_9, li_10, li_12, li_15, li_16, li_20, li_40, li_99, li_999, show fC0 2 = 0 from rfl, show fC0 3 = 0 from rfl, show fC0 26 = 0 from rfl, show fC0 27 = 0 from rfl, show fC0 28 = 0 from rfl, show fC0 29 = 0 from rfl, show Int32.ofNat 6 = 6 from rfl, show Int32.ofNat 4 = 4 from rfl, show (0 : Int32) - 1 = -1 from rfl, show iR0 18 = (fun _ => 0) from rfl] at *; omega; done))
      | refine nk_bo0 ?_
      | refine nk_bo1 ?_
      | refine And.intro (by unfold vp_in; decide) ?_
      | (fail; refine nk_swx ?_; first | refine nk_sw_d (by decide) (by decide) ?_ | refine nk_sw_i 0 (by decide) (by decide) ?_ | refine nk_sw_i 1 (by decide) (by decide) ?_ | refine nk_sw_i 2 (by decide) (by decide) ?_ | refine nk_sw_i 3 (by decide) (by decide) ?_ | refine nk_sw_i 4 (by decide) (by decide) ?_ | refine nk_sw_i 5 (by decide) (by decide) ?_ | fail)
      | fail
    all_goals exact hq

set_option maxRecDepth 100000 in
set_option maxHeartbeats 40000000 in
theorem cC_4 (x : Int32) (hx : x = 4) (Q : nk_Q) (hq : Q (some (.int 0)) hC0) : ev_X5_counted [.ref 0, .int x] hC0 Q := by
  subst hx
  refine nk_s (nk_s (nk_s (nk_s ?_)))
  refine And.intro (fun h => ?_) (fun j t hj hx => ?_)
  · exact absurd h (by decide)
  · obtain rfl : j = 4 := by
      simp only [li_4] at hx
      omega
    cases hj
    repeat' first
      | refine nk_s ?_
      | refine nk_br.t (by decide) ?_
      | refine nk_br.f (by decide) ?_
      | (refine nk_br.mk (fun _ => ?_) (fun _ => ?_) <;> try (exfalso; simp only [Int32.lt_iff_toInt_lt, Int32.le_iff_toInt_le, li_m9, li_m4, li_m3, li_m2, li_m1, li_0, li_1, li_2, li_3, li_4, li_5, li_6, li_7, li_9, li_10, li_12, li_15, li_16, li_20, li_40, li_99, li_999, show fC0 2 = 0 from rfl, show fC0 3 = 0 from rfl, show fC0 26 = 0 from rfl, show fC0 27 = 0 from rfl, show fC0 28 = 0 from rfl, show fC0 29 = 0 from rfl, show Int32.ofNat 6 = 6 from rfl, show Int32.ofNat 4 = 4 from rfl, show (0 : Int32) - 1 = -1 from rfl, show iR0 18 = (fun _ => 0) from rfl] at *; omega; done))
      | refine nk_bo0 ?_
      | refine nk_bo1 ?_
      | refine And.intro (by unfold vp_in; decide) ?_
      | (fail; refine nk_swx ?_; first | refine nk_sw_d (by decide) (by decide) ?_ | refine nk_sw_i 0 (by decide) (by decide) ?_ | refine nk_sw_i 1 (by decide) (by decide) ?_ | refine nk_sw_i 2 (by decide) (by decide) ?_ | refine nk_sw_i 3 (by decide) (by decide) ?_ | refine nk_sw_i 4 (by decide) (by decide) ?_ | refine nk_sw_i 5 (by decide) (by decide) ?_ | fail)
      | fail
    all_goals exact hq

set_option maxRecDepth 100000 in
set_option maxHeartbeats 40000000 in
theorem cC_5 (x : Int32) (hx : x = 5) (Q : nk_Q) (hq : Q (some (.int 0)) hC0) : ev_X5_counted [.ref 0, .int x] hC0 Q := by
  subst hx
  refine nk_s (nk_s (nk_s (nk_s ?_)))
  refine And.intro (fun h => ?_) (fun j t hj hx => ?_)
  · exact absurd h (by decide)
  · obtain rfl : j = 5 := by
      simp only [li_5] at hx
      omega
    cases hj
    repeat' first
      | refine nk_s ?_
      | refine nk_br.t (by decide) ?_
      | refine nk_br.f (by decide) ?_
      | (refine nk_br.mk (fun _ => ?_) (fun _ => ?_) <;> try (exfalso; simp only [Int32.lt_iff_toInt_lt, Int32.le_iff_toInt_le, li_m9, li_m4, li_m3, li_m2, li_m1, li_0, li_1, li_2, li_3, li_4, li_5, li_6, li_7, li_9, li_10, li_12, li_15, li_16, li_20, li_40, li_99, li_999, show fC0 2 = 0 from rfl, show fC0 3 = 0 from rfl, show fC0 26 = 0 from rfl, show fC0 27 = 0 from rfl, show fC0 28 = 0 from rfl, show fC0 29 = 0 from rfl, show Int32.ofNat 6 = 6 from rfl, show Int32.ofNat 4 = 4 from rfl, show (0 : Int32) - 1 = -1 from rfl, show iR0 18 = (fun _ => 0) from rfl] at *; omega; done))
      | refine nk_bo0 ?_
      | refine nk_bo1 ?_
      | refine And.intro (by unfold vp_in; decide) ?_
      | (fail; refine nk_swx ?_; first | refine nk_sw_d (by decide) (by decide) ?_ | refine nk_sw_i 0 (by decide) (by decide) ?_ | refine nk_sw_i 1 (by decide) (by decide) ?_ | refine nk_sw_i 2 (by decide) (by decide) ?_ | refine nk_sw_i 3 (by decide) (by decide) ?_ | refine nk_sw_i 4 (by decide) (by decide) ?_ | refine nk_sw_i 5 (by decide) (by decide) ?_ | fail)
      | fail
    all_goals exact hq

set_option maxRecDepth 100000 in
set_option maxHeartbeats 40000000 in
theorem cC_6 (x : Int32) (hx : x = 6) (Q : nk_Q) (hq : Q (some (.int 0)) hC0) : ev_X5_counted [.ref 0, .int x] hC0 Q := by
  subst hx
  refine nk_s (nk_s (nk_s (nk_s ?_)))
  refine And.intro (fun h => ?_) (fun j t hj hx => ?_)
  rotate_left
  · obtain rfl : j = 6 := by
      simp only [li_6] at hx
      omega
    cases hj
  repeat' first
    | refine nk_s ?_
    | refine nk_br.t (by decide) ?_
    | refine nk_br.f (by decide) ?_
    | (refine nk_br.mk (fun _ => ?_) (fun _ => ?_) <;> try (exfalso; simp only [Int32.lt_iff_toInt_lt, Int32.le_iff_toInt_le, li_m9, li_m4, li_m3, li_m2, li_m1, li_0, li_1, li_2, li_3, li_4, li_5, li_6, li_7, li_9, li_10, li_12, li_15, li_16, li_20, li_40, li_99, li_999, show fC0 2 = 0 from rfl, show fC0 3 = 0 from rfl, show fC0 26 = 0 from rfl, show fC0 27 = 0 from rfl, show fC0 28 = 0 from rfl, show fC0 29 = 0 from rfl, show Int32.ofNat 6 = 6 from rfl, show Int32.ofNat 4 = 4 from rfl, show (0 : Int32) - 1 = -1 from rfl, show iR0 18 = (fun _ => 0) from rfl] at *; omega; done))
    | refine nk_bo0 ?_
    | refine nk_bo1 ?_
    | refine And.intro (by unfold vp_in; decide) ?_
    | (fail; refine nk_swx ?_; first | refine nk_sw_d (by decide) (by decide) ?_ | refine nk_sw_i 0 (by decide) (by decide) ?_ | refine nk_sw_i 1 (by decide) (by decide) ?_ | refine nk_sw_i 2 (by decide) (by decide) ?_ | refine nk_sw_i 3 (by decide) (by decide) ?_ | refine nk_sw_i 4 (by decide) (by decide) ?_ | refine nk_sw_i 5 (by decide) (by decide) ?_ | fail)
    | fail
  all_goals exact hq

set_option maxRecDepth 100000 in
set_option maxHeartbeats 40000000 in
theorem pC_upper (Q : nk_Q) (hq : ∀ h : nk_H, Q (some (.long (0))) h) : ev_X5_upper [.ref 0] hC0 Q := by
  repeat' first
    | refine nk_s ?_
    | refine nk_br.t (by decide) ?_
    | refine nk_br.f (by decide) ?_
    | (refine nk_br.mk (fun _ => ?_) (fun _ => ?_) <;> try (exfalso; simp only [Int32.lt_iff_toInt_lt, Int32.le_iff_toInt_le, li_m9, li_m4, li_m3, li_m2, li_m1, li_0, li_1, li_2, li_3, li_4, li_5, li_6, li_7, li_9, li_10, li_12, li_15, li_16, li_20, li_40, li_99, li_999, show fC0 2 = 0 from rfl, show fC0 3 = 0 from rfl, show fC0 26 = 0 from rfl, show fC0 27 = 0 from rfl, show fC0 28 = 0 from rfl, show fC0 29 = 0 from rfl, show Int32.ofNat 6 = 6 from rfl, show Int32.ofNat 4 = 4 from rfl, show (0 : Int32) - 1 = -1 from rfl, show iR0 18 = (fun _ => 0) from rfl] at *; omega; done))
    | refine nk_bo0 ?_
    | refine nk_bo1 ?_
    | refine And.intro (by unfold vp_in; decide) ?_
    | (fail; refine nk_swx ?_; first | refine nk_sw_d (by decide) (by decide) ?_ | refine nk_sw_i 0 (by decide) (by decide) ?_ | refine nk_sw_i 1 (by decide) (by decide) ?_ | refine nk_sw_i 2 (by decide) (by decide) ?_ | refine nk_sw_i 3 (by decide) (by decide) ?_ | refine nk_sw_i 4 (by decide) (by decide) ?_ | refine nk_sw_i 5 (by decide) (by decide) ?_ | fail)
    | fail
  all_goals (refine lfl hq ?_; decide +kernel)

set_option maxRecDepth 100000 in
set_option maxHeartbeats 40000000 in
theorem pC_lower (Q : nk_Q) (hq : ∀ h : nk_H, Q (some (.long (1))) h) : ev_X5_lower [.ref 0] hC0 Q := by
  repeat' first
    | refine nk_s ?_
    | refine nk_br.t (by decide) ?_
    | refine nk_br.f (by decide) ?_
    | (refine nk_br.mk (fun _ => ?_) (fun _ => ?_) <;> try (exfalso; simp only [Int32.lt_iff_toInt_lt, Int32.le_iff_toInt_le, li_m9, li_m4, li_m3, li_m2, li_m1, li_0, li_1, li_2, li_3, li_4, li_5, li_6, li_7, li_9, li_10, li_12, li_15, li_16, li_20, li_40, li_99, li_999, show fC0 2 = 0 from rfl, show fC0 3 = 0 from rfl, show fC0 26 = 0 from rfl, show fC0 27 = 0 from rfl, show fC0 28 = 0 from rfl, show fC0 29 = 0 from rfl, show Int32.ofNat 6 = 6 from rfl, show Int32.ofNat 4 = 4 from rfl, show (0 : Int32) - 1 = -1 from rfl, show iR0 18 = (fun _ => 0) from rfl] at *; omega; done))
    | refine nk_bo0 ?_
    | refine nk_bo1 ?_
    | refine And.intro (by unfold vp_in; decide) ?_
    | (fail; refine nk_swx ?_; first | refine nk_sw_d (by decide) (by decide) ?_ | refine nk_sw_i 0 (by decide) (by decide) ?_ | refine nk_sw_i 1 (by decide) (by decide) ?_ | refine nk_sw_i 2 (by decide) (by decide) ?_ | refine nk_sw_i 3 (by decide) (by decide) ?_ | refine nk_sw_i 4 (by decide) (by decide) ?_ | refine nk_sw_i 5 (by decide) (by decide) ?_ | fail)
    | fail
  all_goals (refine lfl hq ?_; decide +kernel)

set_option maxRecDepth 100000 in
set_option maxHeartbeats 40000000 in
theorem pC_digest (Q : nk_Q) (hq : ∀ h : nk_H, Q (some (.long (5707539891658476591))) h) : ev_X5_digest [.ref 0] hC0 Q := by
  repeat' first
    | refine cC_0 _ (by decide) _ ?_
    | refine cC_1 _ (by decide) _ ?_
    | refine cC_2 _ (by decide) _ ?_
    | refine cC_3 _ (by decide) _ ?_
    | refine cC_4 _ (by decide) _ ?_
    | refine cC_5 _ (by decide) _ ?_
    | refine cC_6 _ (by decide) _ ?_
    | refine nk_s ?_
    | refine nk_br.t (by decide) ?_
    | refine nk_br.f (by decide) ?_
    | (refine nk_br.mk (fun _ => ?_) (fun _ => ?_) <;> try (exfalso; simp only [Int32.lt_iff_toInt_lt, Int32.le_iff_toInt_le, li_m9, li_m4, li_m3, li_m2, li_m1, li_0, li_1, li_2, li_3, li_4, li_5, li_6, li_7, li_9, li_10, li_12, li_15, li_16, li_20, li_40, li_99, li_999, show fC0 2 = 0 from rfl, show fC0 3 = 0 from rfl, show fC0 26 = 0 from rfl, show fC0 27 = 0 from rfl, show fC0 28 = 0 from rfl, show fC0 29 = 0 from rfl, show Int32.ofNat 6 = 6 from rfl, show Int32.ofNat 4 = 4 from rfl, show (0 : Int32) - 1 = -1 from rfl, show iR0 18 = (fun _ => 0) from rfl] at *; omega; done))
    | refine nk_bo0 ?_
    | refine nk_bo1 ?_
    | refine And.intro (by unfold vp_in; decide) ?_
    | (fail; refine nk_swx ?_; first | refine nk_sw_d (by decide) (by decide) ?_ | refine nk_sw_i 0 (by decide) (by decide) ?_ | refine nk_sw_i 1 (by decide) (by decide) ?_ | refine nk_sw_i 2 (by decide) (by decide) ?_ | refine nk_sw_i 3 (by decide) (by decide) ?_ | refine nk_sw_i 4 (by decide) (by decide) ?_ | refine nk_sw_i 5 (by decide) (by decide) ?_ | fail)
    | fail
  all_goals (refine lfl hq ?_; decide +kernel)

set_option maxRecDepth 100000 in
set_option maxHeartbeats 40000000 in
theorem pR_upper (Q : nk_Q) (hq : ∀ h : nk_H, Q (some (.long (0))) h) : ev_X6_upper [.ref 0] hR0 Q := by
  repeat' first
    | refine nk_s ?_
    | refine nk_br.t (by decide) ?_
    | refine nk_br.f (by decide) ?_
    | (refine nk_br.mk (fun _ => ?_) (fun _ => ?_) <;> try (exfalso; simp only [Int32.lt_iff_toInt_lt, Int32.le_iff_toInt_le, li_m9, li_m4, li_m3, li_m2, li_m1, li_0, li_1, li_2, li_3, li_4, li_5, li_6, li_7, li_9, li_10, li_12, li_15, li_16, li_20, li_40, li_99, li_999, show fC0 2 = 0 from rfl, show fC0 3 = 0 from rfl, show fC0 26 = 0 from rfl, show fC0 27 = 0 from rfl, show fC0 28 = 0 from rfl, show fC0 29 = 0 from rfl, show Int32.ofNat 6 = 6 from rfl, show Int32.ofNat 4 = 4 from rfl, show (0 : Int32) - 1 = -1 from rfl, show iR0 18 = (fun _ => 0) from rfl] at *; omega; done))
    | refine nk_bo0 ?_
    | refine nk_bo1 ?_
    | refine And.intro (by unfold vp_in; decide) ?_
    | (fail; refine nk_swx ?_; first | refine nk_sw_d (by decide) (by decide) ?_ | refine nk_sw_i 0 (by decide) (by decide) ?_ | refine nk_sw_i 1 (by decide) (by decide) ?_ | refine nk_sw_i 2 (by decide) (by decide) ?_ | refine nk_sw_i 3 (by decide) (by decide) ?_ | refine nk_sw_i 4 (by decide) (by decide) ?_ | refine nk_sw_i 5 (by decide) (by decide) ?_ | fail)
    | fail
  all_goals (refine lfl hq ?_; decide +kernel)

set_option maxRecDepth 100000 in
set_option maxHeartbeats 40000000 in
theorem pR_lower (Q : nk_Q) (hq : ∀ h : nk_H, Q (some (.long (1))) h) : ev_X6_lower [.ref 0] hR0 Q := by
  repeat' first
    | refine nk_s ?_
    | refine nk_br.t (by decide) ?_
    | refine nk_br.f (by decide) ?_
    | (refine nk_br.mk (fun _ => ?_) (fun _ => ?_) <;> try (exfalso; simp only [Int32.lt_iff_toInt_lt, Int32.le_iff_toInt_le, li_m9, li_m4, li_m3, li_m2, li_m1, li_0, li_1, li_2, li_3, li_4, li_5, li_6, li_7, li_9, li_10, li_12, li_15, li_16, li_20, li_40, li_99, li_999, show fC0 2 = 0 from rfl, show fC0 3 = 0 from rfl, show fC0 26 = 0 from rfl, show fC0 27 = 0 from rfl, show fC0 28 = 0 from rfl, show fC0 29 = 0 from rfl, show Int32.ofNat 6 = 6 from rfl, show Int32.ofNat 4 = 4 from rfl, show (0 : Int32) - 1 = -1 from rfl, show iR0 18 = (fun _ => 0) from rfl] at *; omega; done))
    | refine nk_bo0 ?_
    | refine nk_bo1 ?_
    | refine And.intro (by unfold vp_in; decide) ?_
    | (fail; refine nk_swx ?_; first | refine nk_sw_d (by decide) (by decide) ?_ | refine nk_sw_i 0 (by decide) (by decide) ?_ | refine nk_sw_i 1 (by decide) (by decide) ?_ | refine nk_sw_i 2 (by decide) (by decide) ?_ | refine nk_sw_i 3 (by decide) (by decide) ?_ | refine nk_sw_i 4 (by decide) (by decide) ?_ | refine nk_sw_i 5 (by decide) (by decide) ?_ | fail)
    | fail
  all_goals (refine lfl hq ?_; decide +kernel)

set_option maxRecDepth 100000 in
set_option maxHeartbeats 40000000 in
theorem pR_digest (Q : nk_Q) (hq : ∀ h : nk_H, Q (some (.long (5707539891658476591))) h) : ev_X6_digest [.ref 0] hR0 Q := by
  repeat' first
    | refine nk_s ?_
    | refine nk_br.t (by decide) ?_
    | refine nk_br.f (by decide) ?_
    | (refine nk_br.mk (fun _ => ?_) (fun _ => ?_) <;> try (exfalso; simp only [Int32.lt_iff_toInt_lt, Int32.le_iff_toInt_le, li_m9, li_m4, li_m3, li_m2, li_m1, li_0, li_1, li_2, li_3, li_4, li_5, li_6, li_7, li_9, li_10, li_12, li_15, li_16, li_20, li_40, li_99, li_999, show fC0 2 = 0 from rfl, show fC0 3 = 0 from rfl, show fC0 26 = 0 from rfl, show fC0 27 = 0 from rfl, show fC0 28 = 0 from rfl, show fC0 29 = 0 from rfl, show Int32.ofNat 6 = 6 from rfl, show Int32.ofNat 4 = 4 from rfl, show (0 : Int32) - 1 = -1 from rfl, show iR0 18 = (fun _ => 0) from rfl] at *; omega; done))
    | refine nk_bo0 ?_
    | refine nk_bo1 ?_
    | refine And.intro (by unfold vp_in; decide) ?_
    | (fail; refine nk_swx ?_; first | refine nk_sw_d (by decide) (by decide) ?_ | refine nk_sw_i 0 (by decide) (by decide) ?_ | refine nk_sw_i 1 (by decide) (by decide) ?_ | refine nk_sw_i 2 (by decide) (by decide) ?_ | refine nk_sw_i 3 (by decide) (by decide) ?_ | refine nk_sw_i 4 (by decide) (by decide) ?_ | refine nk_sw_i 5 (by decide) (by decide) ?_ | fail)
    | fail
  all_goals (refine lfl hq ?_; decide +kernel)
