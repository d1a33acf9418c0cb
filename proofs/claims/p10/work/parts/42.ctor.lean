/-! ===== the constructors ===== -/
set_option maxRecDepth 100000 in
set_option maxHeartbeats 40000000 in
theorem ct_C (Q : nk_Q) (hq : Q none hC0) : ev_X5_init [.ref 0] [.inr (5, [.null, .null, .null, .null, .null, .null, .null, .null, .null, .int 0, .int 0, .long 0, .long 0])] Q := by
  repeat refine nk_s ?_
  refine And.intro (by decide) (And.intro (by decide) (Exists.intro 1 (Exists.intro 6 (Exists.intro _ (And.intro rfl (And.intro (by decide) (And.intro rfl ?_)))))))
  repeat refine nk_s ?_
  refine And.intro (by decide) (And.intro (by decide) (Exists.intro 2 (Exists.intro 4 (Exists.intro _ (And.intro rfl (And.intro (by decide) (And.intro rfl ?_)))))))
  repeat refine nk_s ?_
  refine Exists.intro 3 (Exists.intro _ (And.intro rfl (And.intro rfl ?_)))
  repeat refine nk_s ?_
  refine And.intro (by decide) (And.intro (by decide) (Exists.intro 4 (Exists.intro 80 (Exists.intro _ (And.intro rfl (And.intro (by decide) (And.intro rfl ?_)))))))
  repeat refine nk_s ?_
  refine And.intro (by decide) (And.intro (by decide) (Exists.intro 5 (Exists.intro 84 (Exists.intro _ (And.intro rfl (And.intro (by decide) (And.intro rfl ?_)))))))
  repeat refine nk_s ?_
  refine Exists.intro 6 (Exists.intro _ (And.intro rfl (And.intro rfl ?_)))
  repeat refine nk_s ?_
  refine And.intro (by decide) (And.intro (by decide) (Exists.intro 7 (Exists.intro 5 (Exists.intro _ (And.intro rfl (And.intro (by decide) (And.intro rfl ?_)))))))
  repeat refine nk_s ?_
  refine And.intro (by decide) (And.intro (by decide) (Exists.intro 8 (Exists.intro 4 (Exists.intro _ (And.intro rfl (And.intro (by decide) (And.intro rfl ?_)))))))
  repeat refine nk_s ?_
  refine Exists.intro 9 (Exists.intro _ (And.intro rfl (And.intro rfl ?_)))
  repeat refine nk_s ?_
  refine And.intro (by decide) (And.intro (by decide) (Exists.intro 10 (Exists.intro 5 (Exists.intro _ (And.intro rfl (And.intro (by decide) (And.intro rfl ?_)))))))
  repeat refine nk_s ?_
  refine And.intro (by decide) (And.intro (by decide) (Exists.intro 11 (Exists.intro 16 (Exists.intro _ (And.intro rfl (And.intro (by decide) (And.intro rfl ?_)))))))
  repeat refine nk_s ?_
  refine And.intro (by decide) (And.intro (by decide) (Exists.intro 12 (Exists.intro 16 (Exists.intro _ (And.intro rfl (And.intro (by decide) (And.intro rfl ?_)))))))
  repeat refine nk_s ?_
  refine And.intro (by decide) (And.intro (by decide) (Exists.intro 13 (Exists.intro 16 (Exists.intro _ (And.intro rfl (And.intro (by decide) (And.intro rfl ?_)))))))
  repeat refine nk_s ?_
  refine And.intro (by decide) (And.intro (by decide) (Exists.intro 14 (Exists.intro 16 (Exists.intro _ (And.intro rfl (And.intro (by decide) (And.intro rfl ?_)))))))
  repeat refine nk_s ?_
  refine And.intro (by decide) (And.intro (by decide) (Exists.intro 15 (Exists.intro 16 (Exists.intro _ (And.intro rfl (And.intro (by decide) (And.intro rfl ?_)))))))
  repeat refine nk_s ?_
  refine And.intro (by decide) (And.intro (by decide) (Exists.intro 16 (Exists.intro 96 (Exists.intro _ (And.intro rfl (And.intro (by decide) (And.intro rfl ?_)))))))
  repeat refine nk_s ?_
  refine And.intro (by decide) (And.intro (by decide) (Exists.intro 17 (Exists.intro 6 (Exists.intro _ (And.intro rfl (And.intro (by decide) (And.intro rfl ?_)))))))
  repeat refine nk_s ?_
  refine nk_bo0 ?_
  repeat refine nk_s ?_
  refine Exists.intro 18 (Exists.intro _ (And.intro rfl (And.intro rfl ?_)))
  repeat refine nk_s ?_
  refine And.intro (by decide) (And.intro (by decide) (Exists.intro 19 (Exists.intro 5 (Exists.intro _ (And.intro rfl (And.intro (by decide) (And.intro rfl ?_)))))))
  repeat refine nk_s ?_
  refine And.intro (by decide) (And.intro (by decide) (Exists.intro 20 (Exists.intro 16 (Exists.intro _ (And.intro rfl (And.intro (by decide) (And.intro rfl ?_)))))))
  repeat refine nk_s ?_
  refine And.intro (by decide) (And.intro (by decide) (Exists.intro 21 (Exists.intro 16 (Exists.intro _ (And.intro rfl (And.intro (by decide) (And.intro rfl ?_)))))))
  repeat refine nk_s ?_
  refine And.intro (by decide) (And.intro (by decide) (Exists.intro 22 (Exists.intro 16 (Exists.intro _ (And.intro rfl (And.intro (by decide) (And.intro rfl ?_)))))))
  repeat refine nk_s ?_
  refine And.intro (by decide) (And.intro (by decide) (Exists.intro 23 (Exists.intro 16 (Exists.intro _ (And.intro rfl (And.intro (by decide) (And.intro rfl ?_)))))))
  repeat refine nk_s ?_
  refine And.intro (by decide) (And.intro (by decide) (Exists.intro 24 (Exists.intro 16 (Exists.intro _ (And.intro rfl (And.intro (by decide) (And.intro rfl ?_)))))))
  repeat refine nk_s ?_
  refine And.intro (by decide) (And.intro (by decide) (Exists.intro 25 (Exists.intro 96 (Exists.intro _ (And.intro rfl (And.intro (by decide) (And.intro rfl ?_)))))))
  repeat refine nk_s ?_
  refine And.intro (by decide) (And.intro (by decide) (Exists.intro 26 (Exists.intro 6 (Exists.intro _ (And.intro rfl (And.intro (by decide) (And.intro rfl ?_)))))))
  repeat refine nk_s ?_
  refine nk_bo0 ?_
  repeat refine nk_s ?_
  refine And.intro (by decide) (And.intro (by decide) (Exists.intro 27 (Exists.intro 4 (Exists.intro _ (And.intro rfl (And.intro (by decide) (And.intro rfl ?_)))))))
  repeat refine nk_s ?_
  refine And.intro (by decide) (And.intro (by decide) (Exists.intro 28 (Exists.intro 6 (Exists.intro _ (And.intro rfl (And.intro (by decide) (And.intro rfl ?_)))))))
  repeat refine nk_s ?_
  refine nk_br.f (by decide) ?_
  repeat refine nk_s ?_
  refine Exists.intro 29 (Exists.intro _ (And.intro rfl (And.intro rfl ?_)))
  repeat refine nk_s ?_
  refine And.intro (by decide) (And.intro (by decide) (Exists.intro 30 (Exists.intro 40 (Exists.intro _ (And.intro rfl (And.intro (by decide) (And.intro rfl ?_)))))))
  repeat refine nk_s ?_
  refine And.intro (by unfold vp_in; decide) ?_
  repeat refine nk_s ?_
  refine nk_br.f (by decide) ?_
  repeat refine nk_s ?_
  refine Exists.intro 31 (Exists.intro _ (And.intro rfl (And.intro rfl ?_)))
  repeat refine nk_s ?_
  refine And.intro (by decide) (And.intro (by decide) (Exists.intro 32 (Exists.intro 40 (Exists.intro _ (And.intro rfl (And.intro (by decide) (And.intro rfl ?_)))))))
  repeat refine nk_s ?_
  refine And.intro (by unfold vp_in; decide) ?_
  repeat refine nk_s ?_
  refine nk_br.f (by decide) ?_
  repeat refine nk_s ?_
  refine Exists.intro 33 (Exists.intro _ (And.intro rfl (And.intro rfl ?_)))
  repeat refine nk_s ?_
  refine And.intro (by decide) (And.intro (by decide) (Exists.intro 34 (Exists.intro 40 (Exists.intro _ (And.intro rfl (And.intro (by decide) (And.intro rfl ?_)))))))
  repeat refine nk_s ?_
  refine And.intro (by unfold vp_in; decide) ?_
  repeat refine nk_s ?_
  refine nk_br.f (by decide) ?_
  repeat refine nk_s ?_
  refine Exists.intro 35 (Exists.intro _ (And.intro rfl (And.intro rfl ?_)))
  repeat refine nk_s ?_
  refine And.intro (by decide) (And.intro (by decide) (Exists.intro 36 (Exists.intro 40 (Exists.intro _ (And.intro rfl (And.intro (by decide) (And.intro rfl ?_)))))))
  repeat refine nk_s ?_
  refine And.intro (by unfold vp_in; decide) ?_
  repeat refine nk_s ?_
  refine nk_br.f (by decide) ?_
  repeat refine nk_s ?_
  refine Exists.intro 37 (Exists.intro _ (And.intro rfl (And.intro rfl ?_)))
  repeat refine nk_s ?_
  refine And.intro (by decide) (And.intro (by decide) (Exists.intro 38 (Exists.intro 40 (Exists.intro _ (And.intro rfl (And.intro (by decide) (And.intro rfl ?_)))))))
  repeat refine nk_s ?_
  refine And.intro (by unfold vp_in; decide) ?_
  repeat refine nk_s ?_
  refine nk_br.f (by decide) ?_
  repeat refine nk_s ?_
  refine Exists.intro 39 (Exists.intro _ (And.intro rfl (And.intro rfl ?_)))
  repeat refine nk_s ?_
  refine And.intro (by decide) (And.intro (by decide) (Exists.intro 40 (Exists.intro 40 (Exists.intro _ (And.intro rfl (And.intro (by decide) (And.intro rfl ?_)))))))
  repeat refine nk_s ?_
  refine And.intro (by unfold vp_in; decide) ?_
  repeat refine nk_s ?_
  refine nk_br.t (by decide) ?_
  repeat refine nk_s ?_
  refine nk_br.f (by decide) ?_
  repeat refine nk_s ?_
  refine Exists.intro 41 (Exists.intro _ (And.intro rfl (And.intro rfl ?_)))
  repeat refine nk_s ?_
  refine And.intro (by decide) (And.intro (by decide) (Exists.intro 42 (Exists.intro 40 (Exists.intro _ (And.intro rfl (And.intro (by decide) (And.intro rfl ?_)))))))
  repeat refine nk_s ?_
  refine And.intro (by unfold vp_in; decide) ?_
  repeat refine nk_s ?_
  refine nk_br.f (by decide) ?_
  repeat refine nk_s ?_
  refine Exists.intro 43 (Exists.intro _ (And.intro rfl (And.intro rfl ?_)))
  repeat refine nk_s ?_
  refine And.intro (by decide) (And.intro (by decide) (Exists.intro 44 (Exists.intro 40 (Exists.intro _ (And.intro rfl (And.intro (by decide) (And.intro rfl ?_)))))))
  repeat refine nk_s ?_
  refine And.intro (by unfold vp_in; decide) ?_
  repeat refine nk_s ?_
  refine nk_br.f (by decide) ?_
  repeat refine nk_s ?_
  refine Exists.intro 45 (Exists.intro _ (And.intro rfl (And.intro rfl ?_)))
  repeat refine nk_s ?_
  refine And.intro (by decide) (And.intro (by decide) (Exists.intro 46 (Exists.intro 40 (Exists.intro _ (And.intro rfl (And.intro (by decide) (And.intro rfl ?_)))))))
  repeat refine nk_s ?_
  refine And.intro (by unfold vp_in; decide) ?_
  repeat refine nk_s ?_
  refine nk_br.f (by decide) ?_
  repeat refine nk_s ?_
  refine Exists.intro 47 (Exists.intro _ (And.intro rfl (And.intro rfl ?_)))
  repeat refine nk_s ?_
  refine And.intro (by decide) (And.intro (by decide) (Exists.intro 48 (Exists.intro 40 (Exists.intro _ (And.intro rfl (And.intro (by decide) (And.intro rfl ?_)))))))
  repeat refine nk_s ?_
  refine And.intro (by unfold vp_in; decide) ?_
  repeat refine nk_s ?_
  refine nk_br.t (by decide) ?_
  repeat refine nk_s ?_
  refine nk_br.f (by decide) ?_
  repeat refine nk_s ?_
  refine And.intro (by unfold vp_in; decide) ?_
  repeat refine nk_s ?_
  refine nk_br.f (by decide) ?_
  repeat refine nk_s ?_
  refine And.intro (by unfold vp_in; decide) ?_
  repeat refine nk_s ?_
  refine nk_br.f (by decide) ?_
  repeat refine nk_s ?_
  refine And.intro (by unfold vp_in; decide) ?_
  repeat refine nk_s ?_
  refine nk_br.f (by decide) ?_
  repeat refine nk_s ?_
  refine And.intro (by unfold vp_in; decide) ?_
  repeat refine nk_s ?_
  refine nk_br.t (by decide) ?_
  repeat refine nk_s ?_
  refine nk_br.f (by decide) ?_
  repeat refine nk_s ?_
  refine Exists.intro 49 (Exists.intro _ (And.intro rfl (And.intro rfl ?_)))
  repeat refine nk_s ?_
  refine And.intro (by decide) (And.intro (by decide) (Exists.intro 50 (Exists.intro 20 (Exists.intro _ (And.intro rfl (And.intro (by decide) (And.intro rfl ?_)))))))
  repeat refine nk_s ?_
  refine And.intro (by decide) (And.intro (by decide) (Exists.intro 51 (Exists.intro 20 (Exists.intro _ (And.intro rfl (And.intro (by decide) (And.intro rfl ?_)))))))
  repeat refine nk_s ?_
  refine And.intro (by unfold vp_in; decide) ?_
  repeat refine nk_s ?_
  refine nk_br.f (by decide) ?_
  repeat refine nk_s ?_
  refine Exists.intro 52 (Exists.intro _ (And.intro rfl (And.intro rfl ?_)))
  repeat refine nk_s ?_
  refine And.intro (by decide) (And.intro (by decide) (Exists.intro 53 (Exists.intro 20 (Exists.intro _ (And.intro rfl (And.intro (by decide) (And.intro rfl ?_)))))))
  repeat refine nk_s ?_
  refine And.intro (by decide) (And.intro (by decide) (Exists.intro 54 (Exists.intro 20 (Exists.intro _ (And.intro rfl (And.intro (by decide) (And.intro rfl ?_)))))))
  repeat refine nk_s ?_
  refine And.intro (by unfold vp_in; decide) ?_
  repeat refine nk_s ?_
  refine nk_br.f (by decide) ?_
  repeat refine nk_s ?_
  refine Exists.intro 55 (Exists.intro _ (And.intro rfl (And.intro rfl ?_)))
  repeat refine nk_s ?_
  refine And.intro (by decide) (And.intro (by decide) (Exists.intro 56 (Exists.intro 20 (Exists.intro _ (And.intro rfl (And.intro (by decide) (And.intro rfl ?_)))))))
  repeat refine nk_s ?_
  refine And.intro (by decide) (And.intro (by decide) (Exists.intro 57 (Exists.intro 20 (Exists.intro _ (And.intro rfl (And.intro (by decide) (And.intro rfl ?_)))))))
  repeat refine nk_s ?_
  refine And.intro (by unfold vp_in; decide) ?_
  repeat refine nk_s ?_
  refine nk_br.f (by decide) ?_
  repeat refine nk_s ?_
  refine Exists.intro 58 (Exists.intro _ (And.intro rfl (And.intro rfl ?_)))
  repeat refine nk_s ?_
  refine And.intro (by decide) (And.intro (by decide) (Exists.intro 59 (Exists.intro 20 (Exists.intro _ (And.intro rfl (And.intro (by decide) (And.intro rfl ?_)))))))
  repeat refine nk_s ?_
  refine And.intro (by decide) (And.intro (by decide) (Exists.intro 60 (Exists.intro 20 (Exists.intro _ (And.intro rfl (And.intro (by decide) (And.intro rfl ?_)))))))
  repeat refine nk_s ?_
  refine And.intro (by unfold vp_in; decide) ?_
  repeat refine nk_s ?_
  refine nk_br.t (by decide) ?_
  repeat refine nk_s ?_
  exact hq
