set_option maxRecDepth 100000 in
set_option maxHeartbeats 40000000 in
theorem ct_R (Q : nk_Q) (hq : Q none (hC0 ++ encRb 61 iR0 (fun _ _ => 0) (fun _ => 0) gC0)) : ev_X6_init [.ref 61] (hC0 ++ [.inr (6, [.int 0, .null, .int 0, .long 0, .long 0, .null, .null, .null, .null, .null, .int 0, .null, .int 0, .null, .null, .int 0, .null, .null, .null, .null, .null, .null, .int 0, .int 0, .int 0, .null, .null, .null, .null, .null, .int 0, .long 0])]) Q := by
  repeat refine nk_s ?_
  refine And.intro (by decide) (And.intro (by decide) (Exists.intro 62 (Exists.intro 6 (Exists.intro _ (And.intro rfl (And.intro (by decide) (And.intro rfl ?_)))))))
  repeat refine nk_s ?_
  refine And.intro (by decide) (And.intro (by decide) (Exists.intro 63 (Exists.intro 6 (Exists.intro _ (And.intro rfl (And.intro (by decide) (And.intro rfl ?_)))))))
  repeat refine nk_s ?_
  refine And.intro (by decide) (And.intro (by decide) (Exists.intro 64 (Exists.intro 240 (Exists.intro _ (And.intro rfl (And.intro (by decide) (And.intro rfl ?_)))))))
  repeat refine nk_s ?_
  refine And.intro (by decide) (And.intro (by decide) (Exists.intro 65 (Exists.intro 40 (Exists.intro _ (And.intro rfl (And.intro (by decide) (And.intro rfl ?_)))))))
  repeat refine nk_s ?_
  refine And.intro (by decide) (And.intro (by decide) (Exists.intro 66 (Exists.intro 4 (Exists.intro _ (And.intro rfl (And.intro (by decide) (And.intro rfl ?_)))))))
  repeat refine nk_s ?_
  refine And.intro (by decide) (And.intro (by decide) (Exists.intro 67 (Exists.intro 160 (Exists.intro _ (And.intro rfl (And.intro (by decide) (And.intro rfl ?_)))))))
  repeat refine nk_s ?_
  refine And.intro (by decide) (And.intro (by decide) (Exists.intro 68 (Exists.intro 80 (Exists.intro _ (And.intro rfl (And.intro (by decide) (And.intro rfl ?_)))))))
  repeat refine nk_s ?_
  refine And.intro (by decide) (And.intro (by decide) (Exists.intro 69 (Exists.intro 84 (Exists.intro _ (And.intro rfl (And.intro (by decide) (And.intro rfl ?_)))))))
  repeat refine nk_s ?_
  refine And.intro (by decide) (And.intro (by decide) (Exists.intro 70 (Exists.intro 4 (Exists.intro _ (And.intro rfl (And.intro (by decide) (And.intro rfl ?_)))))))
  repeat refine nk_s ?_
  refine And.intro (by decide) (And.intro (by decide) (Exists.intro 71 (Exists.intro 16 (Exists.intro _ (And.intro rfl (And.intro (by decide) (And.intro rfl ?_)))))))
  repeat refine nk_s ?_
  refine And.intro (by decide) (And.intro (by decide) (Exists.intro 72 (Exists.intro 16 (Exists.intro _ (And.intro rfl (And.intro (by decide) (And.intro rfl ?_)))))))
  repeat refine nk_s ?_
  refine And.intro (by decide) (And.intro (by decide) (Exists.intro 73 (Exists.intro 16 (Exists.intro _ (And.intro rfl (And.intro (by decide) (And.intro rfl ?_)))))))
  repeat refine nk_s ?_
  refine And.intro (by decide) (And.intro (by decide) (Exists.intro 74 (Exists.intro 16 (Exists.intro _ (And.intro rfl (And.intro (by decide) (And.intro rfl ?_)))))))
  repeat refine nk_s ?_
  refine And.intro (by decide) (And.intro (by decide) (Exists.intro 75 (Exists.intro 96 (Exists.intro _ (And.intro rfl (And.intro (by decide) (And.intro rfl ?_)))))))
  repeat refine nk_s ?_
  refine And.intro (by decide) (And.intro (by decide) (Exists.intro 76 (Exists.intro 16 (Exists.intro _ (And.intro rfl (And.intro (by decide) (And.intro rfl ?_)))))))
  repeat refine nk_s ?_
  refine And.intro (by decide) (And.intro (by decide) (Exists.intro 77 (Exists.intro 6 (Exists.intro _ (And.intro rfl (And.intro (by decide) (And.intro rfl ?_)))))))
  repeat refine nk_s ?_
  refine And.intro (by decide) (And.intro (by decide) (Exists.intro 78 (Exists.intro 84 (Exists.intro _ (And.intro rfl (And.intro (by decide) (And.intro rfl ?_)))))))
  repeat refine nk_s ?_
  refine And.intro (by decide) (And.intro (by decide) (Exists.intro 79 (Exists.intro 4 (Exists.intro _ (And.intro rfl (And.intro (by decide) (And.intro rfl ?_)))))))
  repeat refine nk_s ?_
  refine And.intro (by decide) (And.intro (by decide) (Exists.intro 80 (Exists.intro 80 (Exists.intro _ (And.intro rfl (And.intro (by decide) (And.intro rfl ?_)))))))
  repeat refine nk_s ?_
  refine And.intro (by decide) (And.intro (by decide) (Exists.intro 81 (Exists.intro 80 (Exists.intro _ (And.intro rfl (And.intro (by decide) (And.intro rfl ?_)))))))
  repeat refine nk_s ?_
  refine nk_br.f (by decide) ?_
  repeat refine nk_s ?_
  refine And.intro (by unfold vp_in; decide) ?_
  repeat refine nk_s ?_
  refine nk_br.f (by decide) ?_
  repeat refine nk_s ?_
  refine And.intro (by unfold vp_in; decide) ?_
  repeat refine nk_s ?_
  refine nk_br.f (by decide) ?_
  repeat refine nk_s ?_
  refine And.intro (by unfold vp_in; decide) ?_
  repeat refine nk_s ?_
  refine nk_br.f (by decide) ?_
  repeat refine nk_s ?_
  refine And.intro (by unfold vp_in; decide) ?_
  repeat refine nk_s ?_
  refine nk_br.f (by decide) ?_
  repeat refine nk_s ?_
  refine And.intro (by unfold vp_in; decide) ?_
  repeat refine nk_s ?_
  refine nk_br.f (by decide) ?_
  repeat refine nk_s ?_
  refine And.intro (by unfold vp_in; decide) ?_
  repeat refine nk_s ?_
  refine nk_br.t (by decide) ?_
  repeat refine nk_s ?_
  refine nk_br.f (by decide) ?_
  repeat refine nk_s ?_
  refine And.intro (by unfold vp_in; decide) ?_
  repeat refine nk_s ?_
  refine nk_br.f (by decide) ?_
  repeat refine nk_s ?_
  refine And.intro (by unfold vp_in; decide) ?_
  repeat refine nk_s ?_
  refine nk_br.f (by decide) ?_
  repeat refine nk_s ?_
  refine And.intro (by unfold vp_in; decide) ?_
  repeat refine nk_s ?_
  refine nk_br.f (by decide) ?_
  repeat refine nk_s ?_
  refine And.intro (by unfold vp_in; decide) ?_
  repeat refine nk_s ?_
  refine nk_br.t (by decide) ?_
  repeat refine nk_s ?_
  exact hq
