/-! ===== p1: one call on new objects ===== -/
set_option maxRecDepth 100000 in
set_option maxHeartbeats 4000000 in
theorem le_end (xs : Nat → Int32) (h1 h2 : nk_H) : nl_wp kC_L 8 xs kc_L 1805 [some (.ref 0), some (.ref 1), some (.ref 2), some (.int 0)] [] h1 h2 := by
  repeat (first | refine nl_s ?_ | refine And.intro (by unfold vp_in; decide) ?_)
  refine nk_br.t (by decide) ?_
  repeat (first | refine nl_s ?_ | refine And.intro (by unfold vp_in; decide) ?_)
  rfl
set_option maxRecDepth 100000 in
set_option maxHeartbeats 4000000 in
theorem lc_row (xs : Nat → Int32) : nl_wp kC_L 8 xs kc_L 216 [some (.ref 0), some (.ref 1), some (.ref 2), some (.int 0)] [] hC0 hR0 := by
  repeat (first | refine nl_s ?_ | refine And.intro (by unfold vp_in; decide) ?_)
  refine pC_row _ _ _ (fun h1 => ?_)
  repeat (first | refine nl_s ?_ | refine And.intro (by unfold vp_in; decide) ?_)
  refine pR_row _ _ _ (fun h2 => ?_)
  repeat (first | refine nl_s ?_ | refine And.intro (by unfold vp_in; decide) ?_)
  refine nk_br.t rfl ?_
  exact le_end xs h1 h2
set_option maxRecDepth 100000 in
set_option maxHeartbeats 4000000 in
theorem lc_lay (xs : Nat → Int32) : nl_wp kC_L 8 xs kc_L 249 [some (.ref 0), some (.ref 1), some (.ref 2), some (.int 0)] [] hC0 hR0 := by
  repeat (first | refine nl_s ?_ | refine And.intro (by unfold vp_in; decide) ?_)
  refine pC_lay _ _ _ _ (fun h1 => ?_)
  repeat (first | refine nl_s ?_ | refine And.intro (by unfold vp_in; decide) ?_)
  refine pR_lay _ _ _ _ (fun h2 => ?_)
  repeat (first | refine nl_s ?_ | refine And.intro (by unfold vp_in; decide) ?_)
  refine nk_br.t rfl ?_
  exact le_end xs h1 h2
set_option maxRecDepth 100000 in
set_option maxHeartbeats 4000000 in
theorem lc_at (xs : Nat → Int32) : nl_wp kC_L 8 xs kc_L 292 [some (.ref 0), some (.ref 1), some (.ref 2), some (.int 0)] [] hC0 hR0 := by
  repeat (first | refine nl_s ?_ | refine And.intro (by unfold vp_in; decide) ?_)
  refine pC_at _ _ _ (fun h1 => ?_)
  repeat (first | refine nl_s ?_ | refine And.intro (by unfold vp_in; decide) ?_)
  refine pR_at _ _ _ (fun h2 => ?_)
  repeat (first | refine nl_s ?_ | refine And.intro (by unfold vp_in; decide) ?_)
  refine nk_br.t rfl ?_
  exact le_end xs h1 h2
set_option maxRecDepth 100000 in
set_option maxHeartbeats 4000000 in
theorem lc_tear (xs : Nat → Int32) : nl_wp kC_L 8 xs kc_L 325 [some (.ref 0), some (.ref 1), some (.ref 2), some (.int 0)] [] hC0 hR0 := by
  repeat (first | refine nl_s ?_ | refine And.intro (by unfold vp_in; decide) ?_)
  refine pC_tear _ _ (fun h1 => ?_)
  repeat (first | refine nl_s ?_ | refine And.intro (by unfold vp_in; decide) ?_)
  refine pR_tear _ _ (fun h2 => ?_)
  repeat (first | refine nl_s ?_ | refine And.intro (by unfold vp_in; decide) ?_)
  refine nk_br.t rfl ?_
  exact le_end xs h1 h2
set_option maxRecDepth 100000 in
set_option maxHeartbeats 4000000 in
theorem lc_copy (xs : Nat → Int32) : nl_wp kC_L 8 xs kc_L 348 [some (.ref 0), some (.ref 1), some (.ref 2), some (.int 0)] [] hC0 hR0 := by
  repeat (first | refine nl_s ?_ | refine And.intro (by unfold vp_in; decide) ?_)
  refine pC_copy _ _ _ _ _ _ (fun h1 => ?_)
  repeat (first | refine nl_s ?_ | refine And.intro (by unfold vp_in; decide) ?_)
  refine pR_copy _ _ _ _ _ _ (fun h2 => ?_)
  repeat (first | refine nl_s ?_ | refine And.intro (by unfold vp_in; decide) ?_)
  refine nk_br.t rfl ?_
  exact le_end xs h1 h2
set_option maxRecDepth 100000 in
set_option maxHeartbeats 4000000 in
theorem lc_mean (xs : Nat → Int32) : nl_wp kC_L 8 xs kc_L 411 [some (.ref 0), some (.ref 1), some (.ref 2), some (.int 0)] [] hC0 hR0 := by
  repeat (first | refine nl_s ?_ | refine And.intro (by unfold vp_in; decide) ?_)
  refine pC_mean _ _ (fun h1 => ?_)
  repeat (first | refine nl_s ?_ | refine And.intro (by unfold vp_in; decide) ?_)
  refine pR_mean _ _ (fun h2 => ?_)
  repeat (first | refine nl_s ?_ | refine And.intro (by unfold vp_in; decide) ?_)
  refine nk_br.t rfl ?_
  exact le_end xs h1 h2
set_option maxRecDepth 100000 in
set_option maxHeartbeats 4000000 in
theorem lc_text (xs : Nat → Int32) : nl_wp kC_L 8 xs kc_L 434 [some (.ref 0), some (.ref 1), some (.ref 2), some (.int 0)] [] hC0 hR0 := by
  repeat (first | refine nl_s ?_ | refine And.intro (by unfold vp_in; decide) ?_)
  refine pC_text _ _ _ (fun h1 => ?_)
  repeat (first | refine nl_s ?_ | refine And.intro (by unfold vp_in; decide) ?_)
  refine pR_text _ _ _ (fun h2 => ?_)
  repeat (first | refine nl_s ?_ | refine And.intro (by unfold vp_in; decide) ?_)
  refine nk_br.t rfl ?_
  exact le_end xs h1 h2
set_option maxRecDepth 100000 in
set_option maxHeartbeats 4000000 in
theorem lc_put (xs : Nat → Int32) : nl_wp kC_L 8 xs kc_L 467 [some (.ref 0), some (.ref 1), some (.ref 2), some (.int 0)] [] hC0 hR0 := by
  repeat (first | refine nl_s ?_ | refine And.intro (by unfold vp_in; decide) ?_)
  refine pC_put _ _ _ _ (fun h1 => ?_)
  repeat (first | refine nl_s ?_ | refine And.intro (by unfold vp_in; decide) ?_)
  refine pR_put _ _ _ _ (fun h2 => ?_)
  repeat (first | refine nl_s ?_ | refine And.intro (by unfold vp_in; decide) ?_)
  refine nk_br.t rfl ?_
  exact le_end xs h1 h2
set_option maxRecDepth 100000 in
set_option maxHeartbeats 4000000 in
theorem lc_stuff (xs : Nat → Int32) : nl_wp kC_L 8 xs kc_L 510 [some (.ref 0), some (.ref 1), some (.ref 2), some (.int 0)] [] hC0 hR0 := by
  repeat (first | refine nl_s ?_ | refine And.intro (by unfold vp_in; decide) ?_)
  refine pC_stuff _ _ _ _ _ (fun h1 => ?_)
  repeat (first | refine nl_s ?_ | refine And.intro (by unfold vp_in; decide) ?_)
  refine pR_stuff _ _ _ _ _ (fun h2 => ?_)
  repeat (first | refine nl_s ?_ | refine And.intro (by unfold vp_in; decide) ?_)
  refine nk_br.t rfl ?_
  exact le_end xs h1 h2
set_option maxRecDepth 100000 in
set_option maxHeartbeats 4000000 in
theorem lc_stuffs (xs : Nat → Int32) : nl_wp kC_L 8 xs kc_L 563 [some (.ref 0), some (.ref 1), some (.ref 2), some (.int 0)] [] hC0 hR0 := by
  repeat (first | refine nl_s ?_ | refine And.intro (by unfold vp_in; decide) ?_)
  refine pC_stuffs _ _ (fun h1 => ?_)
  repeat (first | refine nl_s ?_ | refine And.intro (by unfold vp_in; decide) ?_)
  refine pR_stuffs _ _ (fun h2 => ?_)
  repeat (first | refine nl_s ?_ | refine And.intro (by unfold vp_in; decide) ?_)
  refine nk_br.t rfl ?_
  exact le_end xs h1 h2
set_option maxRecDepth 100000 in
set_option maxHeartbeats 4000000 in
theorem lc_debt (xs : Nat → Int32) : nl_wp kC_L 8 xs kc_L 586 [some (.ref 0), some (.ref 1), some (.ref 2), some (.int 0)] [] hC0 hR0 := by
  repeat (first | refine nl_s ?_ | refine And.intro (by unfold vp_in; decide) ?_)
  refine pC_debt _ _ _ (fun h1 => ?_)
  repeat (first | refine nl_s ?_ | refine And.intro (by unfold vp_in; decide) ?_)
  refine pR_debt _ _ _ (fun h2 => ?_)
  repeat (first | refine nl_s ?_ | refine And.intro (by unfold vp_in; decide) ?_)
  refine nk_br.t rfl ?_
  exact le_end xs h1 h2
set_option maxRecDepth 100000 in
set_option maxHeartbeats 4000000 in
theorem lc_making (xs : Nat → Int32) : nl_wp kC_L 8 xs kc_L 619 [some (.ref 0), some (.ref 1), some (.ref 2), some (.int 0)] [] hC0 hR0 := by
  by_cases h7 : xs (Int32.toNatClampNeg (0 + 7)) = 0
  · repeat (first | refine nl_s ?_ | refine And.intro (by unfold vp_in; decide) ?_)
    refine nk_br.t h7 ?_
    repeat (first | refine nl_s ?_ | refine And.intro (by unfold vp_in; decide) ?_)
    refine pC_making _ _ _ _ _ _ _ _ (fun h1 => ?_)
    repeat (first | refine nl_s ?_ | refine And.intro (by unfold vp_in; decide) ?_)
    refine nk_br.t h7 ?_
    repeat (first | refine nl_s ?_ | refine And.intro (by unfold vp_in; decide) ?_)
    refine pR_making _ _ _ _ _ _ _ _ (fun h2 => ?_)
    repeat (first | refine nl_s ?_ | refine And.intro (by unfold vp_in; decide) ?_)
    refine nk_br.t rfl ?_
    exact le_end xs h1 h2
  · repeat (first | refine nl_s ?_ | refine And.intro (by unfold vp_in; decide) ?_)
    refine nk_br.f h7 ?_
    repeat (first | refine nl_s ?_ | refine And.intro (by unfold vp_in; decide) ?_)
    refine pC_making _ _ _ _ _ _ _ _ (fun h1 => ?_)
    repeat (first | refine nl_s ?_ | refine And.intro (by unfold vp_in; decide) ?_)
    refine nk_br.f h7 ?_
    repeat (first | refine nl_s ?_ | refine And.intro (by unfold vp_in; decide) ?_)
    refine pR_making _ _ _ _ _ _ _ _ (fun h2 => ?_)
    repeat (first | refine nl_s ?_ | refine And.intro (by unfold vp_in; decide) ?_)
    refine nk_br.t rfl ?_
    exact le_end xs h1 h2

set_option maxRecDepth 100000 in
set_option maxHeartbeats 4000000 in
theorem lc_about (xs : Nat → Int32) : nl_wp kC_L 8 xs kc_L 722 [some (.ref 0), some (.ref 1), some (.ref 2), some (.int 0)] [] hC0 hR0 := by
  repeat (first | refine nl_s ?_ | refine And.intro (by unfold vp_in; decide) ?_)
  refine pC_about _ _ _ (fun h1 => ?_)
  repeat (first | refine nl_s ?_ | refine And.intro (by unfold vp_in; decide) ?_)
  refine pR_about _ _ _ (fun h2 => ?_)
  repeat (first | refine nl_s ?_ | refine And.intro (by unfold vp_in; decide) ?_)
  refine nk_br.t rfl ?_
  exact le_end xs h1 h2
set_option maxRecDepth 100000 in
set_option maxHeartbeats 4000000 in
theorem lc_told (xs : Nat → Int32) : nl_wp kC_L 8 xs kc_L 755 [some (.ref 0), some (.ref 1), some (.ref 2), some (.int 0)] [] hC0 hR0 := by
  repeat (first | refine nl_s ?_ | refine And.intro (by unfold vp_in; decide) ?_)
  refine pC_told _ _ _ (fun h1 => ?_)
  repeat (first | refine nl_s ?_ | refine And.intro (by unfold vp_in; decide) ?_)
  refine pR_told _ _ _ (fun h2 => ?_)
  repeat (first | refine nl_s ?_ | refine And.intro (by unfold vp_in; decide) ?_)
  refine nk_br.t rfl ?_
  exact le_end xs h1 h2
set_option maxRecDepth 100000 in
set_option maxHeartbeats 4000000 in
theorem lc_mark (xs : Nat → Int32) : nl_wp kC_L 8 xs kc_L 788 [some (.ref 0), some (.ref 1), some (.ref 2), some (.int 0)] [] hC0 hR0 := by
  repeat (first | refine nl_s ?_ | refine And.intro (by unfold vp_in; decide) ?_)
  refine pC_mark _ _ _ (fun h1 => ?_)
  repeat (first | refine nl_s ?_ | refine And.intro (by unfold vp_in; decide) ?_)
  refine pR_mark _ _ _ (fun h2 => ?_)
  repeat (first | refine nl_s ?_ | refine And.intro (by unfold vp_in; decide) ?_)
  refine nk_br.t rfl ?_
  exact le_end xs h1 h2
set_option maxRecDepth 100000 in
set_option maxHeartbeats 4000000 in
theorem lc_fault (xs : Nat → Int32) : nl_wp kC_L 8 xs kc_L 821 [some (.ref 0), some (.ref 1), some (.ref 2), some (.int 0)] [] hC0 hR0 := by
  repeat (first | refine nl_s ?_ | refine And.intro (by unfold vp_in; decide) ?_)
  refine pC_fault _ _ (fun h1 => ?_)
  repeat (first | refine nl_s ?_ | refine And.intro (by unfold vp_in; decide) ?_)
  refine pR_fault _ _ (fun h2 => ?_)
  repeat (first | refine nl_s ?_ | refine And.intro (by unfold vp_in; decide) ?_)
  refine nk_br.t rfl ?_
  exact le_end xs h1 h2
set_option maxRecDepth 100000 in
set_option maxHeartbeats 4000000 in
theorem lc_laws (xs : Nat → Int32) : nl_wp kC_L 8 xs kc_L 844 [some (.ref 0), some (.ref 1), some (.ref 2), some (.int 0)] [] hC0 hR0 := by
  repeat (first | refine nl_s ?_ | refine And.intro (by unfold vp_in; decide) ?_)
  refine pC_laws _ _ _ (fun h1 => ?_)
  repeat (first | refine nl_s ?_ | refine And.intro (by unfold vp_in; decide) ?_)
  refine pR_laws _ _ _ (fun h2 => ?_)
  repeat (first | refine nl_s ?_ | refine And.intro (by unfold vp_in; decide) ?_)
  refine nk_br.t rfl ?_
  exact le_end xs h1 h2
set_option maxRecDepth 100000 in
set_option maxHeartbeats 4000000 in
theorem lc_law (xs : Nat → Int32) : nl_wp kC_L 8 xs kc_L 877 [some (.ref 0), some (.ref 1), some (.ref 2), some (.int 0)] [] hC0 hR0 := by
  repeat (first | refine nl_s ?_ | refine And.intro (by unfold vp_in; decide) ?_)
  refine pC_law _ _ (fun h1 => ?_)
  repeat (first | refine nl_s ?_ | refine And.intro (by unfold vp_in; decide) ?_)
  refine pR_law _ _ (fun h2 => ?_)
  repeat (first | refine nl_s ?_ | refine And.intro (by unfold vp_in; decide) ?_)
  refine nk_br.t rfl ?_
  exact le_end xs h1 h2
set_option maxRecDepth 100000 in
set_option maxHeartbeats 4000000 in
theorem lc_inside (xs : Nat → Int32) : nl_wp kC_L 8 xs kc_L 900 [some (.ref 0), some (.ref 1), some (.ref 2), some (.int 0)] [] hC0 hR0 := by
  repeat (first | refine nl_s ?_ | refine And.intro (by unfold vp_in; decide) ?_)
  refine pC_inside _ _ _ (fun h1 => ?_)
  repeat (first | refine nl_s ?_ | refine And.intro (by unfold vp_in; decide) ?_)
  refine pR_inside _ _ _ (fun h2 => ?_)
  repeat (first | refine nl_s ?_ | refine And.intro (by unfold vp_in; decide) ?_)
  refine nk_br.t rfl ?_
  exact le_end xs h1 h2
set_option maxRecDepth 100000 in
set_option maxHeartbeats 4000000 in
theorem lc_now (xs : Nat → Int32) : nl_wp kC_L 8 xs kc_L 933 [some (.ref 0), some (.ref 1), some (.ref 2), some (.int 0)] [] hC0 hR0 := by
  repeat (first | refine nl_s ?_ | refine And.intro (by unfold vp_in; decide) ?_)
  refine pC_now _ _ _ _ (fun h1 => ?_)
  repeat (first | refine nl_s ?_ | refine And.intro (by unfold vp_in; decide) ?_)
  refine pR_now _ _ _ _ (fun h2 => ?_)
  repeat (first | refine nl_s ?_ | refine And.intro (by unfold vp_in; decide) ?_)
  refine nk_br.t rfl ?_
  exact le_end xs h1 h2
set_option maxRecDepth 100000 in
set_option maxHeartbeats 4000000 in
theorem lc_whose (xs : Nat → Int32) : nl_wp kC_L 8 xs kc_L 976 [some (.ref 0), some (.ref 1), some (.ref 2), some (.int 0)] [] hC0 hR0 := by
  repeat (first | refine nl_s ?_ | refine And.intro (by unfold vp_in; decide) ?_)
  refine pC_whose _ _ _ _ _ _ (fun h1 => ?_)
  repeat (first | refine nl_s ?_ | refine And.intro (by unfold vp_in; decide) ?_)
  refine pR_whose _ _ _ _ _ _ (fun h2 => ?_)
  repeat (first | refine nl_s ?_ | refine And.intro (by unfold vp_in; decide) ?_)
  refine nk_br.t rfl ?_
  exact le_end xs h1 h2
set_option maxRecDepth 100000 in
set_option maxHeartbeats 4000000 in
theorem lc_owners (xs : Nat → Int32) : nl_wp kC_L 8 xs kc_L 1039 [some (.ref 0), some (.ref 1), some (.ref 2), some (.int 0)] [] hC0 hR0 := by
  repeat (first | refine nl_s ?_ | refine And.intro (by unfold vp_in; decide) ?_)
  refine pC_owners _ _ _ _ _ (fun h1 => ?_)
  repeat (first | refine nl_s ?_ | refine And.intro (by unfold vp_in; decide) ?_)
  refine pR_owners _ _ _ _ _ (fun h2 => ?_)
  repeat (first | refine nl_s ?_ | refine And.intro (by unfold vp_in; decide) ?_)
  refine nk_br.t rfl ?_
  exact le_end xs h1 h2
set_option maxRecDepth 100000 in
set_option maxHeartbeats 4000000 in
theorem lc_changes (xs : Nat → Int32) : nl_wp kC_L 8 xs kc_L 1092 [some (.ref 0), some (.ref 1), some (.ref 2), some (.int 0)] [] hC0 hR0 := by
  repeat (first | refine nl_s ?_ | refine And.intro (by unfold vp_in; decide) ?_)
  refine pC_changes _ _ _ _ _ (fun h1 => ?_)
  repeat (first | refine nl_s ?_ | refine And.intro (by unfold vp_in; decide) ?_)
  refine pR_changes _ _ _ _ _ (fun h2 => ?_)
  repeat (first | refine nl_s ?_ | refine And.intro (by unfold vp_in; decide) ?_)
  refine nk_br.t rfl ?_
  exact le_end xs h1 h2
set_option maxRecDepth 100000 in
set_option maxHeartbeats 4000000 in
theorem lc_lost (xs : Nat → Int32) : nl_wp kC_L 8 xs kc_L 1145 [some (.ref 0), some (.ref 1), some (.ref 2), some (.int 0)] [] hC0 hR0 := by
  repeat (first | refine nl_s ?_ | refine And.intro (by unfold vp_in; decide) ?_)
  refine pC_lost _ _ _ _ _ (fun h1 => ?_)
  repeat (first | refine nl_s ?_ | refine And.intro (by unfold vp_in; decide) ?_)
  refine pR_lost _ _ _ _ _ (fun h2 => ?_)
  repeat (first | refine nl_s ?_ | refine And.intro (by unfold vp_in; decide) ?_)
  refine nk_br.t rfl ?_
  exact le_end xs h1 h2
set_option maxRecDepth 100000 in
set_option maxHeartbeats 4000000 in
theorem lc_beside (xs : Nat → Int32) : nl_wp kC_L 8 xs kc_L 1198 [some (.ref 0), some (.ref 1), some (.ref 2), some (.int 0)] [] hC0 hR0 := by
  repeat (first | refine nl_s ?_ | refine And.intro (by unfold vp_in; decide) ?_)
  refine pC_beside _ _ _ _ (fun h1 => ?_)
  repeat (first | refine nl_s ?_ | refine And.intro (by unfold vp_in; decide) ?_)
  refine pR_beside _ _ _ _ (fun h2 => ?_)
  repeat (first | refine nl_s ?_ | refine And.intro (by unfold vp_in; decide) ?_)
  refine nk_br.t rfl ?_
  exact le_end xs h1 h2
set_option maxRecDepth 100000 in
set_option maxHeartbeats 4000000 in
theorem lc_undo (xs : Nat → Int32) : nl_wp kC_L 8 xs kc_L 1241 [some (.ref 0), some (.ref 1), some (.ref 2), some (.int 0)] [] hC0 hR0 := by
  repeat (first | refine nl_s ?_ | refine And.intro (by unfold vp_in; decide) ?_)
  refine pC_undo _ _ _ (fun h1 => ?_)
  repeat (first | refine nl_s ?_ | refine And.intro (by unfold vp_in; decide) ?_)
  refine pR_undo _ _ _ (fun h2 => ?_)
  repeat (first | refine nl_s ?_ | refine And.intro (by unfold vp_in; decide) ?_)
  refine nk_br.t rfl ?_
  exact le_end xs h1 h2
set_option maxRecDepth 100000 in
set_option maxHeartbeats 4000000 in
theorem lc_sure (xs : Nat → Int32) : nl_wp kC_L 8 xs kc_L 1274 [some (.ref 0), some (.ref 1), some (.ref 2), some (.int 0)] [] hC0 hR0 := by
  repeat (first | refine nl_s ?_ | refine And.intro (by unfold vp_in; decide) ?_)
  refine pC_sure _ _ _ _ _ (fun h1 => ?_)
  repeat (first | refine nl_s ?_ | refine And.intro (by unfold vp_in; decide) ?_)
  refine pR_sure _ _ _ _ _ (fun h2 => ?_)
  repeat (first | refine nl_s ?_ | refine And.intro (by unfold vp_in; decide) ?_)
  refine nk_br.t rfl ?_
  exact le_end xs h1 h2
set_option maxRecDepth 100000 in
set_option maxHeartbeats 4000000 in
theorem lc_hangs (xs : Nat → Int32) : nl_wp kC_L 8 xs kc_L 1327 [some (.ref 0), some (.ref 1), some (.ref 2), some (.int 0)] [] hC0 hR0 := by
  repeat (first | refine nl_s ?_ | refine And.intro (by unfold vp_in; decide) ?_)
  refine pC_hangs _ _ _ _ _ (fun h1 => ?_)
  repeat (first | refine nl_s ?_ | refine And.intro (by unfold vp_in; decide) ?_)
  refine pR_hangs _ _ _ _ _ (fun h2 => ?_)
  repeat (first | refine nl_s ?_ | refine And.intro (by unfold vp_in; decide) ?_)
  refine nk_br.t rfl ?_
  exact le_end xs h1 h2
set_option maxRecDepth 100000 in
set_option maxHeartbeats 4000000 in
theorem lc_sly (xs : Nat → Int32) : nl_wp kC_L 8 xs kc_L 1380 [some (.ref 0), some (.ref 1), some (.ref 2), some (.int 0)] [] hC0 hR0 := by
  repeat (first | refine nl_s ?_ | refine And.intro (by unfold vp_in; decide) ?_)
  refine pC_sly _ _ _ _ _ (fun h1 => ?_)
  repeat (first | refine nl_s ?_ | refine And.intro (by unfold vp_in; decide) ?_)
  refine pR_sly _ _ _ _ _ (fun h2 => ?_)
  repeat (first | refine nl_s ?_ | refine And.intro (by unfold vp_in; decide) ?_)
  refine nk_br.t rfl ?_
  exact le_end xs h1 h2
set_option maxRecDepth 100000 in
set_option maxHeartbeats 4000000 in
theorem lc_stop (xs : Nat → Int32) : nl_wp kC_L 8 xs kc_L 1433 [some (.ref 0), some (.ref 1), some (.ref 2), some (.int 0)] [] hC0 hR0 := by
  repeat (first | refine nl_s ?_ | refine And.intro (by unfold vp_in; decide) ?_)
  refine pC_stop _ _ _ _ _ (fun h1 => ?_)
  repeat (first | refine nl_s ?_ | refine And.intro (by unfold vp_in; decide) ?_)
  refine pR_stop _ _ _ _ _ (fun h2 => ?_)
  repeat (first | refine nl_s ?_ | refine And.intro (by unfold vp_in; decide) ?_)
  refine nk_br.t rfl ?_
  exact le_end xs h1 h2
set_option maxRecDepth 100000 in
set_option maxHeartbeats 4000000 in
theorem lc_inTime (xs : Nat → Int32) : nl_wp kC_L 8 xs kc_L 1486 [some (.ref 0), some (.ref 1), some (.ref 2), some (.int 0)] [] hC0 hR0 := by
  repeat (first | refine nl_s ?_ | refine And.intro (by unfold vp_in; decide) ?_)
  refine pC_inTime _ _ _ _ (fun h1 => ?_)
  repeat (first | refine nl_s ?_ | refine And.intro (by unfold vp_in; decide) ?_)
  refine pR_inTime _ _ _ _ (fun h2 => ?_)
  repeat (first | refine nl_s ?_ | refine And.intro (by unfold vp_in; decide) ?_)
  refine nk_br.t rfl ?_
  exact le_end xs h1 h2
set_option maxRecDepth 100000 in
set_option maxHeartbeats 4000000 in
theorem lc_heap (xs : Nat → Int32) : nl_wp kC_L 8 xs kc_L 1529 [some (.ref 0), some (.ref 1), some (.ref 2), some (.int 0)] [] hC0 hR0 := by
  repeat (first | refine nl_s ?_ | refine And.intro (by unfold vp_in; decide) ?_)
  refine pC_heap _ _ _ _ (fun h1 => ?_)
  repeat (first | refine nl_s ?_ | refine And.intro (by unfold vp_in; decide) ?_)
  refine pR_heap _ _ _ _ (fun h2 => ?_)
  repeat (first | refine nl_s ?_ | refine And.intro (by unfold vp_in; decide) ?_)
  refine nk_br.t rfl ?_
  exact le_end xs h1 h2
set_option maxRecDepth 100000 in
set_option maxHeartbeats 4000000 in
theorem lc_draw (xs : Nat → Int32) : nl_wp kC_L 8 xs kc_L 1572 [some (.ref 0), some (.ref 1), some (.ref 2), some (.int 0)] [] hC0 hR0 := by
  repeat (first | refine nl_s ?_ | refine And.intro (by unfold vp_in; decide) ?_)
  refine pC_draw _ _ _ _ _ (fun h1 => ?_)
  repeat (first | refine nl_s ?_ | refine And.intro (by unfold vp_in; decide) ?_)
  refine pR_draw _ _ _ _ _ (fun h2 => ?_)
  repeat (first | refine nl_s ?_ | refine And.intro (by unfold vp_in; decide) ?_)
  refine nk_br.t rfl ?_
  exact le_end xs h1 h2
set_option maxRecDepth 100000 in
set_option maxHeartbeats 4000000 in
theorem lc_left (xs : Nat → Int32) : nl_wp kC_L 8 xs kc_L 1625 [some (.ref 0), some (.ref 1), some (.ref 2), some (.int 0)] [] hC0 hR0 := by
  repeat (first | refine nl_s ?_ | refine And.intro (by unfold vp_in; decide) ?_)
  refine pC_left _ _ _ (fun h1 => ?_)
  repeat (first | refine nl_s ?_ | refine And.intro (by unfold vp_in; decide) ?_)
  refine pR_left _ _ _ (fun h2 => ?_)
  repeat (first | refine nl_s ?_ | refine And.intro (by unfold vp_in; decide) ?_)
  refine nk_br.t rfl ?_
  exact le_end xs h1 h2
set_option maxRecDepth 100000 in
set_option maxHeartbeats 4000000 in
theorem lc_layer (xs : Nat → Int32) : nl_wp kC_L 8 xs kc_L 1658 [some (.ref 0), some (.ref 1), some (.ref 2), some (.int 0)] [] hC0 hR0 := by
  repeat (first | refine nl_s ?_ | refine And.intro (by unfold vp_in; decide) ?_)
  refine pC_layer _ _ _ (fun h1 => ?_)
  repeat (first | refine nl_s ?_ | refine And.intro (by unfold vp_in; decide) ?_)
  refine pR_layer _ _ _ (fun h2 => ?_)
  repeat (first | refine nl_s ?_ | refine And.intro (by unfold vp_in; decide) ?_)
  refine nk_br.t rfl ?_
  exact le_end xs h1 h2
set_option maxRecDepth 100000 in
set_option maxHeartbeats 4000000 in
theorem lc_asked (xs : Nat → Int32) : nl_wp kC_L 8 xs kc_L 1691 [some (.ref 0), some (.ref 1), some (.ref 2), some (.int 0)] [] hC0 hR0 := by
  repeat (first | refine nl_s ?_ | refine And.intro (by unfold vp_in; decide) ?_)
  refine pC_asked _ (fun h1 => ?_)
  repeat (first | refine nl_s ?_ | refine And.intro (by unfold vp_in; decide) ?_)
  refine pR_asked _ (fun h2 => ?_)
  repeat (first | refine nl_s ?_ | refine And.intro (by unfold vp_in; decide) ?_)
  refine nk_br.t rfl ?_
  exact le_end xs h1 h2
set_option maxRecDepth 100000 in
set_option maxHeartbeats 4000000 in
theorem lc_upper (xs : Nat → Int32) : nl_wp kC_L 8 xs kc_L 1704 [some (.ref 0), some (.ref 1), some (.ref 2), some (.int 0)] [] hC0 hR0 := by
  repeat (first | refine nl_s ?_ | refine And.intro (by unfold vp_in; decide) ?_)
  refine pC_upper _ (fun h1 => ?_)
  repeat (first | refine nl_s ?_ | refine And.intro (by unfold vp_in; decide) ?_)
  refine pR_upper _ (fun h2 => ?_)
  repeat (first | refine nl_s ?_ | refine And.intro (by unfold vp_in; decide) ?_)
  refine nk_br.t (by decide) ?_
  exact le_end xs h1 h2
set_option maxRecDepth 100000 in
set_option maxHeartbeats 4000000 in
theorem lc_lower (xs : Nat → Int32) : nl_wp kC_L 8 xs kc_L 1718 [some (.ref 0), some (.ref 1), some (.ref 2), some (.int 0)] [] hC0 hR0 := by
  repeat (first | refine nl_s ?_ | refine And.intro (by unfold vp_in; decide) ?_)
  refine pC_lower _ (fun h1 => ?_)
  repeat (first | refine nl_s ?_ | refine And.intro (by unfold vp_in; decide) ?_)
  refine pR_lower _ (fun h2 => ?_)
  repeat (first | refine nl_s ?_ | refine And.intro (by unfold vp_in; decide) ?_)
  refine nk_br.t (by decide) ?_
  exact le_end xs h1 h2
set_option maxRecDepth 100000 in
set_option maxHeartbeats 4000000 in
theorem lc_count (xs : Nat → Int32) : nl_wp kC_L 8 xs kc_L 1732 [some (.ref 0), some (.ref 1), some (.ref 2), some (.int 0)] [] hC0 hR0 := by
  repeat (first | refine nl_s ?_ | refine And.intro (by unfold vp_in; decide) ?_)
  refine pC_count _ _ (fun h1 => ?_)
  repeat (first | refine nl_s ?_ | refine And.intro (by unfold vp_in; decide) ?_)
  refine pR_count _ _ (fun h2 => ?_)
  repeat (first | refine nl_s ?_ | refine And.intro (by unfold vp_in; decide) ?_)
  refine nk_br.t rfl ?_
  exact le_end xs h1 h2
set_option maxRecDepth 100000 in
set_option maxHeartbeats 4000000 in
theorem lc_finding (xs : Nat → Int32) : nl_wp kC_L 8 xs kc_L 1755 [some (.ref 0), some (.ref 1), some (.ref 2), some (.int 0)] [] hC0 hR0 := by
  repeat (first | refine nl_s ?_ | refine And.intro (by unfold vp_in; decide) ?_)
  refine pC_finding _ (fun h1 => ?_)
  repeat (first | refine nl_s ?_ | refine And.intro (by unfold vp_in; decide) ?_)
  refine pR_finding _ (fun h2 => ?_)
  repeat (first | refine nl_s ?_ | refine And.intro (by unfold vp_in; decide) ?_)
  refine nk_br.t rfl ?_
  exact le_end xs h1 h2
set_option maxRecDepth 100000 in
set_option maxHeartbeats 4000000 in
theorem lc_findings (xs : Nat → Int32) : nl_wp kC_L 8 xs kc_L 1768 [some (.ref 0), some (.ref 1), some (.ref 2), some (.int 0)] [] hC0 hR0 := by
  repeat (first | refine nl_s ?_ | refine And.intro (by unfold vp_in; decide) ?_)
  refine pC_findings _ _ (fun h1 => ?_)
  repeat (first | refine nl_s ?_ | refine And.intro (by unfold vp_in; decide) ?_)
  refine pR_findings _ _ (fun h2 => ?_)
  repeat (first | refine nl_s ?_ | refine And.intro (by unfold vp_in; decide) ?_)
  refine nk_br.t rfl ?_
  exact le_end xs h1 h2
set_option maxRecDepth 100000 in
set_option maxHeartbeats 4000000 in
theorem lc_digest (xs : Nat → Int32) : nl_wp kC_L 8 xs kc_L 1791 [some (.ref 0), some (.ref 1), some (.ref 2), some (.int 0)] [] hC0 hR0 := by
  repeat (first | refine nl_s ?_ | refine And.intro (by unfold vp_in; decide) ?_)
  refine pC_digest _ (fun h1 => ?_)
  repeat (first | refine nl_s ?_ | refine And.intro (by unfold vp_in; decide) ?_)
  refine pR_digest _ (fun h2 => ?_)
  repeat (first | refine nl_s ?_ | refine And.intro (by unfold vp_in; decide) ?_)
  refine nk_br.t (by decide) ?_
  exact le_end xs h1 h2
theorem lp_len {L : Nat} (hL : L ≤ 8) : ((Int32.ofNat L) - 8 < 0 ∧ L < 8) ∨ L = 8 := by
  rcases Nat.lt_or_ge L 8 with q | q
  · left
    refine ⟨?_, q⟩
    match L, q with
    | 0, _ => exact (by decide)
    | 1, _ => exact (by decide)
    | 2, _ => exact (by decide)
    | 3, _ => exact (by decide)
    | 4, _ => exact (by decide)
    | 5, _ => exact (by decide)
    | 6, _ => exact (by decide)
    | 7, _ => exact (by decide)
    | L + 8, q => omega
  · right
    omega
set_option maxRecDepth 100000 in
set_option maxHeartbeats 4000000 in
theorem lp_loop {L : Nat} (hL : L ≤ 8) (xs : Nat → Int32) : nl_wp kC_L L xs kc_L 18 [some (.ref 0), some (.ref 1), some (.ref 2), some (.int 0)] [] hC0 hR0 := by
  rcases lp_len hL with ⟨hlt, -⟩ | rfl
  · repeat (first | refine nl_s ?_ | refine And.intro (by unfold vp_in; decide) ?_)
    refine nk_br.t hlt ?_
    repeat (first | refine nl_s ?_ | refine And.intro (by unfold vp_in; decide) ?_)
    rfl
  · repeat (first | refine nl_s ?_ | refine And.intro (by unfold vp_in; decide) ?_)
    refine nk_br.f (by decide) ?_
    repeat (first | refine nl_s ?_ | refine And.intro (by unfold vp_in; decide) ?_)
    refine And.intro (fun _ => ?_) (fun j t hj _ => ?_)
    · exact le_end xs _ _
    match j, hj with
    | 0, hj => cases hj; exact lc_row xs
    | 1, hj => cases hj; exact lc_lay xs
    | 2, hj => cases hj; exact lc_at xs
    | 3, hj => cases hj; exact lc_tear xs
    | 4, hj => cases hj; exact lc_copy xs
    | 5, hj => cases hj; exact lc_mean xs
    | 6, hj => cases hj; exact lc_text xs
    | 7, hj => cases hj; exact lc_put xs
    | 8, hj => cases hj; exact lc_stuff xs
    | 9, hj => cases hj; exact lc_stuffs xs
    | 10, hj => cases hj; exact lc_debt xs
    | 11, hj => cases hj; exact lc_making xs
    | 12, hj => cases hj; exact lc_about xs
    | 13, hj => cases hj; exact lc_told xs
    | 14, hj => cases hj; exact lc_mark xs
    | 15, hj => cases hj; exact lc_fault xs
    | 16, hj => cases hj; exact lc_laws xs
    | 17, hj => cases hj; exact lc_law xs
    | 18, hj => cases hj; exact lc_inside xs
    | 19, hj => cases hj; exact lc_now xs
    | 20, hj => cases hj; exact lc_whose xs
    | 21, hj => cases hj; exact lc_owners xs
    | 22, hj => cases hj; exact lc_changes xs
    | 23, hj => cases hj; exact lc_lost xs
    | 24, hj => cases hj; exact lc_beside xs
    | 25, hj => cases hj; exact lc_undo xs
    | 26, hj => cases hj; exact lc_sure xs
    | 27, hj => cases hj; exact lc_hangs xs
    | 28, hj => cases hj; exact lc_sly xs
    | 29, hj => cases hj; exact lc_stop xs
    | 30, hj => cases hj; exact lc_inTime xs
    | 31, hj => cases hj; exact lc_heap xs
    | 32, hj => cases hj; exact lc_draw xs
    | 33, hj => cases hj; exact lc_left xs
    | 34, hj => cases hj; exact lc_layer xs
    | 35, hj => cases hj; exact lc_asked xs
    | 36, hj => cases hj; exact lc_upper xs
    | 37, hj => cases hj; exact lc_lower xs
    | 38, hj => cases hj; exact lc_count xs
    | 39, hj => cases hj; exact lc_finding xs
    | 40, hj => cases hj; exact lc_findings xs
    | 41, hj => cases hj; exact lc_digest xs
    | j + 42, hj => cases hj
