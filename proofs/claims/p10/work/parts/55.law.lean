/-! ===== the law, call by call, at any state ===== -/
theorem le_i {I : Int32} (h0 : 0 ≤ I.toInt) (h1 : I.toInt ≤ 4096) : (I + 1).toInt = I.toInt + 1 ∧ (I + 2).toInt = I.toInt + 2 ∧ (I + 3).toInt = I.toInt + 3 ∧ (I + 4).toInt = I.toInt + 4 ∧ (I + 5).toInt = I.toInt + 5 ∧ (I + 6).toInt = I.toInt + 6 ∧ (I + 7).toInt = I.toInt + 7 ∧ (I + 8).toInt = I.toInt + 8 := by
  refine ⟨?_, ?_, ?_, ?_, ?_, ?_, ?_, ?_⟩
  · have hk : (1 : Int32).toInt = 1 := rfl
    rw [i_add (by omega) (by omega), hk]
  · have hk : (2 : Int32).toInt = 2 := rfl
    rw [i_add (by omega) (by omega), hk]
  · have hk : (3 : Int32).toInt = 3 := rfl
    rw [i_add (by omega) (by omega), hk]
  · have hk : (4 : Int32).toInt = 4 := rfl
    rw [i_add (by omega) (by omega), hk]
  · have hk : (5 : Int32).toInt = 5 := rfl
    rw [i_add (by omega) (by omega), hk]
  · have hk : (6 : Int32).toInt = 6 := rfl
    rw [i_add (by omega) (by omega), hk]
  · have hk : (7 : Int32).toInt = 7 := rfl
    rw [i_add (by omega) (by omega), hk]
  · have hk : (8 : Int32).toInt = 8 := rfl
    rw [i_add (by omega) (by omega), hk]
set_option maxRecDepth 100000 in
set_option maxHeartbeats 4000000 in
theorem lc_row (Lx : Nat) (xs : Nat → Int32) (I : Int32) (s1 s2 : nx_S) (hI0 : 0 ≤ I.toInt) (hI8 : I.toInt + 8 ≤ Lx) (hL : Lx ≤ 4096) (i1 : nx_Inv gC s1) (i2 : nx_Inv gR s2) (hJ : nJ s2) (hz : RR s1 s2) (K : ∀ t1 t2 : nx_S, nx_Inv gC t1 → nx_Inv gR t2 → nJ t2 → RR t1 t2 → nl_wp kC_L Lx xs kc_L 1802 [some (.ref 0), some (.ref 1), some (.ref 2), some (.int I)] [] (nx_enc t1 0 shC) (nx_enc t2 0 shR)) : nl_wp kC_L Lx xs kc_L 216 [some (.ref 0), some (.ref 1), some (.ref 2), some (.int I)] [] (nx_enc s1 0 shC) (nx_enc s2 0 shR) := by
  obtain ⟨e1, e2, e3, e4, e5, e6, e7, e8⟩ := le_i hI0 (by omega)
  repeat (first | refine nl_s ?_ | refine And.intro (nx_in (n := Lx) (by omega) (by omega)) ?_)
  refine ro_Ca _ s1 _ _ i1 (fun t1 r1 j1 z1 => ?_)
  repeat (first | refine nl_s ?_ | refine And.intro (nx_in (n := Lx) (by omega) (by omega)) ?_)
  refine ro_Ra _ s2 _ _ i2 hJ (fun t2 r2 j2 jJ z2 => ?_)
  refine nl_s (nl_s ?_)
  exact K t1 t2 j1 j2 jJ (rr_row hz z1 z2)
set_option maxRecDepth 100000 in
set_option maxHeartbeats 4000000 in
theorem lc_lay (Lx : Nat) (xs : Nat → Int32) (I : Int32) (s1 s2 : nx_S) (hI0 : 0 ≤ I.toInt) (hI8 : I.toInt + 8 ≤ Lx) (hL : Lx ≤ 4096) (i1 : nx_Inv gC s1) (i2 : nx_Inv gR s2) (hJ : nJ s2) (hz : RR s1 s2) (K : ∀ t1 t2 : nx_S, nx_Inv gC t1 → nx_Inv gR t2 → nJ t2 → RR t1 t2 → nl_wp kC_L Lx xs kc_L 1802 [some (.ref 0), some (.ref 1), some (.ref 2), some (.int I)] [] (nx_enc t1 0 shC) (nx_enc t2 0 shR)) : nl_wp kC_L Lx xs kc_L 249 [some (.ref 0), some (.ref 1), some (.ref 2), some (.int I)] [] (nx_enc s1 0 shC) (nx_enc s2 0 shR) := by
  obtain ⟨e1, e2, e3, e4, e5, e6, e7, e8⟩ := le_i hI0 (by omega)
  repeat (first | refine nl_s ?_ | refine And.intro (nx_in (n := Lx) (by omega) (by omega)) ?_)
  refine la_Ca _ s1 _ _ _ i1 (fun t1 r1 j1 z1 => ?_)
  repeat (first | refine nl_s ?_ | refine And.intro (nx_in (n := Lx) (by omega) (by omega)) ?_)
  refine la_Ra _ s2 _ _ _ i2 hJ (fun t2 r2 j2 jJ z2 => ?_)
  refine nl_s (nl_s ?_)
  exact K t1 t2 j1 j2 jJ (rr_lay hz z1 z2)
set_option maxRecDepth 100000 in
set_option maxHeartbeats 4000000 in
theorem lc_at (Lx : Nat) (xs : Nat → Int32) (I : Int32) (s1 s2 : nx_S) (hI0 : 0 ≤ I.toInt) (hI8 : I.toInt + 8 ≤ Lx) (hL : Lx ≤ 4096) (i1 : nx_Inv gC s1) (i2 : nx_Inv gR s2) (hJ : nJ s2) (hz : RR s1 s2) (K : ∀ t1 t2 : nx_S, nx_Inv gC t1 → nx_Inv gR t2 → nJ t2 → RR t1 t2 → nl_wp kC_L Lx xs kc_L 1802 [some (.ref 0), some (.ref 1), some (.ref 2), some (.int I)] [] (nx_enc t1 0 shC) (nx_enc t2 0 shR)) : nl_wp kC_L Lx xs kc_L 292 [some (.ref 0), some (.ref 1), some (.ref 2), some (.int I)] [] (nx_enc s1 0 shC) (nx_enc s2 0 shR) := by
  obtain ⟨e1, e2, e3, e4, e5, e6, e7, e8⟩ := le_i hI0 (by omega)
  repeat (first | refine nl_s ?_ | refine And.intro (nx_in (n := Lx) (by omega) (by omega)) ?_)
  refine pC_at _ s1 _ _ i1 (fun t1 r1 j1 z1 => ?_)
  repeat (first | refine nl_s ?_ | refine And.intro (nx_in (n := Lx) (by omega) (by omega)) ?_)
  refine pR_at _ s2 _ _ i2 hJ (fun t2 r2 j2 jJ z2 => ?_)
  refine nl_s (nl_s ?_)
  exact K t1 t2 j1 j2 jJ (rr_k hz z1 z2)
set_option maxRecDepth 100000 in
set_option maxHeartbeats 4000000 in
theorem lc_tear (Lx : Nat) (xs : Nat → Int32) (I : Int32) (s1 s2 : nx_S) (hI0 : 0 ≤ I.toInt) (hI8 : I.toInt + 8 ≤ Lx) (hL : Lx ≤ 4096) (i1 : nx_Inv gC s1) (i2 : nx_Inv gR s2) (hJ : nJ s2) (hz : RR s1 s2) (K : ∀ t1 t2 : nx_S, nx_Inv gC t1 → nx_Inv gR t2 → nJ t2 → RR t1 t2 → nl_wp kC_L Lx xs kc_L 1802 [some (.ref 0), some (.ref 1), some (.ref 2), some (.int I)] [] (nx_enc t1 0 shC) (nx_enc t2 0 shR)) : nl_wp kC_L Lx xs kc_L 325 [some (.ref 0), some (.ref 1), some (.ref 2), some (.int I)] [] (nx_enc s1 0 shC) (nx_enc s2 0 shR) := by
  obtain ⟨e1, e2, e3, e4, e5, e6, e7, e8⟩ := le_i hI0 (by omega)
  repeat (first | refine nl_s ?_ | refine And.intro (nx_in (n := Lx) (by omega) (by omega)) ?_)
  refine te_Ca _ s1 _ i1 (fun t1 r1 j1 z1 => ?_)
  repeat (first | refine nl_s ?_ | refine And.intro (nx_in (n := Lx) (by omega) (by omega)) ?_)
  refine te_Ra _ s2 _ i2 hJ (fun t2 r2 j2 jJ z2 => ?_)
  refine nl_s (nl_s ?_)
  exact K t1 t2 j1 j2 jJ (rr_tear hz z1 z2)
set_option maxRecDepth 100000 in
set_option maxHeartbeats 4000000 in
theorem lc_copy (Lx : Nat) (xs : Nat → Int32) (I : Int32) (s1 s2 : nx_S) (hI0 : 0 ≤ I.toInt) (hI8 : I.toInt + 8 ≤ Lx) (hL : Lx ≤ 4096) (i1 : nx_Inv gC s1) (i2 : nx_Inv gR s2) (hJ : nJ s2) (hz : RR s1 s2) (K : ∀ t1 t2 : nx_S, nx_Inv gC t1 → nx_Inv gR t2 → nJ t2 → RR t1 t2 → nl_wp kC_L Lx xs kc_L 1802 [some (.ref 0), some (.ref 1), some (.ref 2), some (.int I)] [] (nx_enc t1 0 shC) (nx_enc t2 0 shR)) : nl_wp kC_L Lx xs kc_L 348 [some (.ref 0), some (.ref 1), some (.ref 2), some (.int I)] [] (nx_enc s1 0 shC) (nx_enc s2 0 shR) := by
  obtain ⟨e1, e2, e3, e4, e5, e6, e7, e8⟩ := le_i hI0 (by omega)
  repeat (first | refine nl_s ?_ | refine And.intro (nx_in (n := Lx) (by omega) (by omega)) ?_)
  refine cp_Ca _ s1 _ _ _ _ _ i1 (fun t1 r1 j1 z1 => ?_)
  repeat (first | refine nl_s ?_ | refine And.intro (nx_in (n := Lx) (by omega) (by omega)) ?_)
  refine cp_Ra _ s2 _ _ _ _ _ i2 hJ (fun t2 r2 j2 jJ z2 => ?_)
  refine nl_s (nl_s ?_)
  exact K t1 t2 j1 j2 jJ (rr_copy hz z1 z2)
set_option maxRecDepth 100000 in
set_option maxHeartbeats 4000000 in
theorem lc_mean (Lx : Nat) (xs : Nat → Int32) (I : Int32) (s1 s2 : nx_S) (hI0 : 0 ≤ I.toInt) (hI8 : I.toInt + 8 ≤ Lx) (hL : Lx ≤ 4096) (i1 : nx_Inv gC s1) (i2 : nx_Inv gR s2) (hJ : nJ s2) (hz : RR s1 s2) (K : ∀ t1 t2 : nx_S, nx_Inv gC t1 → nx_Inv gR t2 → nJ t2 → RR t1 t2 → nl_wp kC_L Lx xs kc_L 1802 [some (.ref 0), some (.ref 1), some (.ref 2), some (.int I)] [] (nx_enc t1 0 shC) (nx_enc t2 0 shR)) : nl_wp kC_L Lx xs kc_L 411 [some (.ref 0), some (.ref 1), some (.ref 2), some (.int I)] [] (nx_enc s1 0 shC) (nx_enc s2 0 shR) := by
  obtain ⟨e1, e2, e3, e4, e5, e6, e7, e8⟩ := le_i hI0 (by omega)
  repeat (first | refine nl_s ?_ | refine And.intro (nx_in (n := Lx) (by omega) (by omega)) ?_)
  refine pC_mean _ s1 _ i1 (fun t1 r1 j1 z1 => ?_)
  repeat (first | refine nl_s ?_ | refine And.intro (nx_in (n := Lx) (by omega) (by omega)) ?_)
  refine pR_mean _ s2 _ i2 hJ (fun t2 r2 j2 jJ z2 => ?_)
  refine nl_s (nl_s ?_)
  exact K t1 t2 j1 j2 jJ (rr_k hz z1 z2)
set_option maxRecDepth 100000 in
set_option maxHeartbeats 4000000 in
theorem lc_text (Lx : Nat) (xs : Nat → Int32) (I : Int32) (s1 s2 : nx_S) (hI0 : 0 ≤ I.toInt) (hI8 : I.toInt + 8 ≤ Lx) (hL : Lx ≤ 4096) (i1 : nx_Inv gC s1) (i2 : nx_Inv gR s2) (hJ : nJ s2) (hz : RR s1 s2) (K : ∀ t1 t2 : nx_S, nx_Inv gC t1 → nx_Inv gR t2 → nJ t2 → RR t1 t2 → nl_wp kC_L Lx xs kc_L 1802 [some (.ref 0), some (.ref 1), some (.ref 2), some (.int I)] [] (nx_enc t1 0 shC) (nx_enc t2 0 shR)) : nl_wp kC_L Lx xs kc_L 434 [some (.ref 0), some (.ref 1), some (.ref 2), some (.int I)] [] (nx_enc s1 0 shC) (nx_enc s2 0 shR) := by
  obtain ⟨e1, e2, e3, e4, e5, e6, e7, e8⟩ := le_i hI0 (by omega)
  repeat (first | refine nl_s ?_ | refine And.intro (nx_in (n := Lx) (by omega) (by omega)) ?_)
  refine pC_text _ s1 _ _ i1 (fun t1 r1 j1 z1 => ?_)
  repeat (first | refine nl_s ?_ | refine And.intro (nx_in (n := Lx) (by omega) (by omega)) ?_)
  refine pR_text _ s2 _ _ i2 hJ (fun t2 r2 j2 jJ z2 => ?_)
  refine nl_s (nl_s ?_)
  exact K t1 t2 j1 j2 jJ (rr_k hz z1 z2)
set_option maxRecDepth 100000 in
set_option maxHeartbeats 4000000 in
theorem lc_put (Lx : Nat) (xs : Nat → Int32) (I : Int32) (s1 s2 : nx_S) (hI0 : 0 ≤ I.toInt) (hI8 : I.toInt + 8 ≤ Lx) (hL : Lx ≤ 4096) (i1 : nx_Inv gC s1) (i2 : nx_Inv gR s2) (hJ : nJ s2) (hz : RR s1 s2) (K : ∀ t1 t2 : nx_S, nx_Inv gC t1 → nx_Inv gR t2 → nJ t2 → RR t1 t2 → nl_wp kC_L Lx xs kc_L 1802 [some (.ref 0), some (.ref 1), some (.ref 2), some (.int I)] [] (nx_enc t1 0 shC) (nx_enc t2 0 shR)) : nl_wp kC_L Lx xs kc_L 467 [some (.ref 0), some (.ref 1), some (.ref 2), some (.int I)] [] (nx_enc s1 0 shC) (nx_enc s2 0 shR) := by
  obtain ⟨e1, e2, e3, e4, e5, e6, e7, e8⟩ := le_i hI0 (by omega)
  repeat (first | refine nl_s ?_ | refine And.intro (nx_in (n := Lx) (by omega) (by omega)) ?_)
  refine pC_put _ s1 _ _ _ i1 (fun t1 r1 j1 z1 => ?_)
  repeat (first | refine nl_s ?_ | refine And.intro (nx_in (n := Lx) (by omega) (by omega)) ?_)
  refine pR_put _ s2 _ _ _ i2 hJ (fun t2 r2 j2 jJ z2 => ?_)
  refine nl_s (nl_s ?_)
  exact K t1 t2 j1 j2 jJ (rr_k hz z1 z2)
set_option maxRecDepth 100000 in
set_option maxHeartbeats 4000000 in
theorem lc_stuff (Lx : Nat) (xs : Nat → Int32) (I : Int32) (s1 s2 : nx_S) (hI0 : 0 ≤ I.toInt) (hI8 : I.toInt + 8 ≤ Lx) (hL : Lx ≤ 4096) (i1 : nx_Inv gC s1) (i2 : nx_Inv gR s2) (hJ : nJ s2) (hz : RR s1 s2) (K : ∀ t1 t2 : nx_S, nx_Inv gC t1 → nx_Inv gR t2 → nJ t2 → RR t1 t2 → nl_wp kC_L Lx xs kc_L 1802 [some (.ref 0), some (.ref 1), some (.ref 2), some (.int I)] [] (nx_enc t1 0 shC) (nx_enc t2 0 shR)) : nl_wp kC_L Lx xs kc_L 510 [some (.ref 0), some (.ref 1), some (.ref 2), some (.int I)] [] (nx_enc s1 0 shC) (nx_enc s2 0 shR) := by
  obtain ⟨e1, e2, e3, e4, e5, e6, e7, e8⟩ := le_i hI0 (by omega)
  repeat (first | refine nl_s ?_ | refine And.intro (nx_in (n := Lx) (by omega) (by omega)) ?_)
  refine su_Ca _ s1 _ _ _ _ i1 (fun t1 r1 j1 z1 => ?_)
  repeat (first | refine nl_s ?_ | refine And.intro (nx_in (n := Lx) (by omega) (by omega)) ?_)
  refine su_Ra _ s2 _ _ _ _ i2 hJ (fun t2 r2 j2 jJ z2 => ?_)
  refine nl_s ?_
  refine nk_br.t ((rr_g hz z1 z2).2) ?_
  exact K t1 t2 j1 j2 jJ ((rr_g hz z1 z2).1)
set_option maxRecDepth 100000 in
set_option maxHeartbeats 4000000 in
theorem lc_stuffs (Lx : Nat) (xs : Nat → Int32) (I : Int32) (s1 s2 : nx_S) (hI0 : 0 ≤ I.toInt) (hI8 : I.toInt + 8 ≤ Lx) (hL : Lx ≤ 4096) (i1 : nx_Inv gC s1) (i2 : nx_Inv gR s2) (hJ : nJ s2) (hz : RR s1 s2) (K : ∀ t1 t2 : nx_S, nx_Inv gC t1 → nx_Inv gR t2 → nJ t2 → RR t1 t2 → nl_wp kC_L Lx xs kc_L 1802 [some (.ref 0), some (.ref 1), some (.ref 2), some (.int I)] [] (nx_enc t1 0 shC) (nx_enc t2 0 shR)) : nl_wp kC_L Lx xs kc_L 563 [some (.ref 0), some (.ref 1), some (.ref 2), some (.int I)] [] (nx_enc s1 0 shC) (nx_enc s2 0 shR) := by
  obtain ⟨e1, e2, e3, e4, e5, e6, e7, e8⟩ := le_i hI0 (by omega)
  repeat (first | refine nl_s ?_ | refine And.intro (nx_in (n := Lx) (by omega) (by omega)) ?_)
  refine st_Ca _ s1 _ i1 (fun t1 r1 j1 z1 => ?_)
  repeat (first | refine nl_s ?_ | refine And.intro (nx_in (n := Lx) (by omega) (by omega)) ?_)
  refine st_Ra _ s2 _ i2 hJ (fun t2 r2 j2 jJ z2 => ?_)
  refine nl_s (nl_s ?_)
  exact K t1 t2 j1 j2 jJ ((rr_stuffs hz z1 z2).1)
set_option maxRecDepth 100000 in
set_option maxHeartbeats 4000000 in
theorem lc_debt (Lx : Nat) (xs : Nat → Int32) (I : Int32) (s1 s2 : nx_S) (hI0 : 0 ≤ I.toInt) (hI8 : I.toInt + 8 ≤ Lx) (hL : Lx ≤ 4096) (i1 : nx_Inv gC s1) (i2 : nx_Inv gR s2) (hJ : nJ s2) (hz : RR s1 s2) (K : ∀ t1 t2 : nx_S, nx_Inv gC t1 → nx_Inv gR t2 → nJ t2 → RR t1 t2 → nl_wp kC_L Lx xs kc_L 1802 [some (.ref 0), some (.ref 1), some (.ref 2), some (.int I)] [] (nx_enc t1 0 shC) (nx_enc t2 0 shR)) : nl_wp kC_L Lx xs kc_L 586 [some (.ref 0), some (.ref 1), some (.ref 2), some (.int I)] [] (nx_enc s1 0 shC) (nx_enc s2 0 shR) := by
  obtain ⟨e1, e2, e3, e4, e5, e6, e7, e8⟩ := le_i hI0 (by omega)
  repeat (first | refine nl_s ?_ | refine And.intro (nx_in (n := Lx) (by omega) (by omega)) ?_)
  refine db_Ca _ s1 _ _ i1 (fun t1 r1 j1 z1 => ?_)
  repeat (first | refine nl_s ?_ | refine And.intro (nx_in (n := Lx) (by omega) (by omega)) ?_)
  refine db_Ra _ s2 _ _ i2 hJ (fun t2 r2 j2 jJ z2 => ?_)
  refine nl_s (nl_s ?_)
  exact K t1 t2 j1 j2 jJ ((rr_g hz z1 z2).1)
set_option maxRecDepth 100000 in
set_option maxHeartbeats 4000000 in
theorem lc_making (Lx : Nat) (xs : Nat → Int32) (I : Int32) (s1 s2 : nx_S) (hI0 : 0 ≤ I.toInt) (hI8 : I.toInt + 8 ≤ Lx) (hL : Lx ≤ 4096) (i1 : nx_Inv gC s1) (i2 : nx_Inv gR s2) (hJ : nJ s2) (hz : RR s1 s2) (K : ∀ t1 t2 : nx_S, nx_Inv gC t1 → nx_Inv gR t2 → nJ t2 → RR t1 t2 → nl_wp kC_L Lx xs kc_L 1802 [some (.ref 0), some (.ref 1), some (.ref 2), some (.int I)] [] (nx_enc t1 0 shC) (nx_enc t2 0 shR)) : nl_wp kC_L Lx xs kc_L 619 [some (.ref 0), some (.ref 1), some (.ref 2), some (.int I)] [] (nx_enc s1 0 shC) (nx_enc s2 0 shR) := by
  obtain ⟨e1, e2, e3, e4, e5, e6, e7, e8⟩ := le_i hI0 (by omega)
  by_cases h7 : xs (I + 7).toNatClampNeg = 0
  · repeat (first | refine nl_s ?_ | refine And.intro (nx_in (n := Lx) (by omega) (by omega)) ?_)
    refine nk_br.t h7 ?_
    repeat (first | refine nl_s ?_ | refine And.intro (nx_in (n := Lx) (by omega) (by omega)) ?_)
    refine mg_Ca _ s1 _ _ _ _ _ _ _ i1 (fun t1 r1 j1 z1 => ?_)
    repeat (first | refine nl_s ?_ | refine And.intro (nx_in (n := Lx) (by omega) (by omega)) ?_)
    refine nk_br.t h7 ?_
    repeat (first | refine nl_s ?_ | refine And.intro (nx_in (n := Lx) (by omega) (by omega)) ?_)
    refine mg_Ra _ s2 _ _ _ _ _ _ _ i2 hJ (fun t2 r2 j2 jJ z2 => ?_)
    refine nl_s (nl_s ?_)
    exact K t1 t2 j1 j2 jJ ((rr_g hz z1 z2).1)
  · repeat (first | refine nl_s ?_ | refine And.intro (nx_in (n := Lx) (by omega) (by omega)) ?_)
    refine nk_br.f h7 ?_
    repeat (first | refine nl_s ?_ | refine And.intro (nx_in (n := Lx) (by omega) (by omega)) ?_)
    refine mg_Ca _ s1 _ _ _ _ _ _ _ i1 (fun t1 r1 j1 z1 => ?_)
    repeat (first | refine nl_s ?_ | refine And.intro (nx_in (n := Lx) (by omega) (by omega)) ?_)
    refine nk_br.f h7 ?_
    repeat (first | refine nl_s ?_ | refine And.intro (nx_in (n := Lx) (by omega) (by omega)) ?_)
    refine mg_Ra _ s2 _ _ _ _ _ _ _ i2 hJ (fun t2 r2 j2 jJ z2 => ?_)
    refine nl_s (nl_s ?_)
    exact K t1 t2 j1 j2 jJ ((rr_g hz z1 z2).1)

set_option maxRecDepth 100000 in
set_option maxHeartbeats 4000000 in
theorem lc_about (Lx : Nat) (xs : Nat → Int32) (I : Int32) (s1 s2 : nx_S) (hI0 : 0 ≤ I.toInt) (hI8 : I.toInt + 8 ≤ Lx) (hL : Lx ≤ 4096) (i1 : nx_Inv gC s1) (i2 : nx_Inv gR s2) (hJ : nJ s2) (hz : RR s1 s2) (K : ∀ t1 t2 : nx_S, nx_Inv gC t1 → nx_Inv gR t2 → nJ t2 → RR t1 t2 → nl_wp kC_L Lx xs kc_L 1802 [some (.ref 0), some (.ref 1), some (.ref 2), some (.int I)] [] (nx_enc t1 0 shC) (nx_enc t2 0 shR)) : nl_wp kC_L Lx xs kc_L 722 [some (.ref 0), some (.ref 1), some (.ref 2), some (.int I)] [] (nx_enc s1 0 shC) (nx_enc s2 0 shR) := by
  obtain ⟨e1, e2, e3, e4, e5, e6, e7, e8⟩ := le_i hI0 (by omega)
  repeat (first | refine nl_s ?_ | refine And.intro (nx_in (n := Lx) (by omega) (by omega)) ?_)
  refine ab_Ca _ s1 _ _ i1 (fun t1 r1 j1 z1 => ?_)
  repeat (first | refine nl_s ?_ | refine And.intro (nx_in (n := Lx) (by omega) (by omega)) ?_)
  refine ab_Ra _ s2 _ _ i2 hJ (fun t2 r2 j2 jJ z2 => ?_)
  refine nl_s (nl_s ?_)
  exact K t1 t2 j1 j2 jJ ((rr_g hz z1 z2).1)
set_option maxRecDepth 100000 in
set_option maxHeartbeats 4000000 in
theorem lc_told (Lx : Nat) (xs : Nat → Int32) (I : Int32) (s1 s2 : nx_S) (hI0 : 0 ≤ I.toInt) (hI8 : I.toInt + 8 ≤ Lx) (hL : Lx ≤ 4096) (i1 : nx_Inv gC s1) (i2 : nx_Inv gR s2) (hJ : nJ s2) (hz : RR s1 s2) (K : ∀ t1 t2 : nx_S, nx_Inv gC t1 → nx_Inv gR t2 → nJ t2 → RR t1 t2 → nl_wp kC_L Lx xs kc_L 1802 [some (.ref 0), some (.ref 1), some (.ref 2), some (.int I)] [] (nx_enc t1 0 shC) (nx_enc t2 0 shR)) : nl_wp kC_L Lx xs kc_L 755 [some (.ref 0), some (.ref 1), some (.ref 2), some (.int I)] [] (nx_enc s1 0 shC) (nx_enc s2 0 shR) := by
  obtain ⟨e1, e2, e3, e4, e5, e6, e7, e8⟩ := le_i hI0 (by omega)
  repeat (first | refine nl_s ?_ | refine And.intro (nx_in (n := Lx) (by omega) (by omega)) ?_)
  refine td_Ca _ s1 _ _ i1 (fun t1 r1 j1 z1 => ?_)
  repeat (first | refine nl_s ?_ | refine And.intro (nx_in (n := Lx) (by omega) (by omega)) ?_)
  refine td_Ra _ s2 _ _ i2 hJ (fun t2 r2 j2 jJ z2 => ?_)
  refine nl_s (nl_s ?_)
  exact K t1 t2 j1 j2 jJ ((rr_g hz z1 z2).1)
set_option maxRecDepth 100000 in
set_option maxHeartbeats 4000000 in
theorem lc_mark (Lx : Nat) (xs : Nat → Int32) (I : Int32) (s1 s2 : nx_S) (hI0 : 0 ≤ I.toInt) (hI8 : I.toInt + 8 ≤ Lx) (hL : Lx ≤ 4096) (i1 : nx_Inv gC s1) (i2 : nx_Inv gR s2) (hJ : nJ s2) (hz : RR s1 s2) (K : ∀ t1 t2 : nx_S, nx_Inv gC t1 → nx_Inv gR t2 → nJ t2 → RR t1 t2 → nl_wp kC_L Lx xs kc_L 1802 [some (.ref 0), some (.ref 1), some (.ref 2), some (.int I)] [] (nx_enc t1 0 shC) (nx_enc t2 0 shR)) : nl_wp kC_L Lx xs kc_L 788 [some (.ref 0), some (.ref 1), some (.ref 2), some (.int I)] [] (nx_enc s1 0 shC) (nx_enc s2 0 shR) := by
  obtain ⟨e1, e2, e3, e4, e5, e6, e7, e8⟩ := le_i hI0 (by omega)
  repeat (first | refine nl_s ?_ | refine And.intro (nx_in (n := Lx) (by omega) (by omega)) ?_)
  refine pC_mark _ s1 _ _ i1 (fun t1 r1 j1 z1 => ?_)
  repeat (first | refine nl_s ?_ | refine And.intro (nx_in (n := Lx) (by omega) (by omega)) ?_)
  refine pR_mark _ s2 _ _ i2 hJ (fun t2 r2 j2 jJ z2 => ?_)
  refine nl_s (nl_s ?_)
  exact K t1 t2 j1 j2 jJ (rr_k hz z1 z2)
set_option maxRecDepth 100000 in
set_option maxHeartbeats 4000000 in
theorem lc_fault (Lx : Nat) (xs : Nat → Int32) (I : Int32) (s1 s2 : nx_S) (hI0 : 0 ≤ I.toInt) (hI8 : I.toInt + 8 ≤ Lx) (hL : Lx ≤ 4096) (i1 : nx_Inv gC s1) (i2 : nx_Inv gR s2) (hJ : nJ s2) (hz : RR s1 s2) (K : ∀ t1 t2 : nx_S, nx_Inv gC t1 → nx_Inv gR t2 → nJ t2 → RR t1 t2 → nl_wp kC_L Lx xs kc_L 1802 [some (.ref 0), some (.ref 1), some (.ref 2), some (.int I)] [] (nx_enc t1 0 shC) (nx_enc t2 0 shR)) : nl_wp kC_L Lx xs kc_L 821 [some (.ref 0), some (.ref 1), some (.ref 2), some (.int I)] [] (nx_enc s1 0 shC) (nx_enc s2 0 shR) := by
  obtain ⟨e1, e2, e3, e4, e5, e6, e7, e8⟩ := le_i hI0 (by omega)
  repeat (first | refine nl_s ?_ | refine And.intro (nx_in (n := Lx) (by omega) (by omega)) ?_)
  refine pC_fault _ s1 _ i1 (fun t1 r1 j1 z1 => ?_)
  repeat (first | refine nl_s ?_ | refine And.intro (nx_in (n := Lx) (by omega) (by omega)) ?_)
  refine pR_fault _ s2 _ i2 hJ (fun t2 r2 j2 jJ z2 => ?_)
  refine nl_s (nl_s ?_)
  exact K t1 t2 j1 j2 jJ (rr_k hz z1 z2)
set_option maxRecDepth 100000 in
set_option maxHeartbeats 4000000 in
theorem lc_laws (Lx : Nat) (xs : Nat → Int32) (I : Int32) (s1 s2 : nx_S) (hI0 : 0 ≤ I.toInt) (hI8 : I.toInt + 8 ≤ Lx) (hL : Lx ≤ 4096) (i1 : nx_Inv gC s1) (i2 : nx_Inv gR s2) (hJ : nJ s2) (hz : RR s1 s2) (K : ∀ t1 t2 : nx_S, nx_Inv gC t1 → nx_Inv gR t2 → nJ t2 → RR t1 t2 → nl_wp kC_L Lx xs kc_L 1802 [some (.ref 0), some (.ref 1), some (.ref 2), some (.int I)] [] (nx_enc t1 0 shC) (nx_enc t2 0 shR)) : nl_wp kC_L Lx xs kc_L 844 [some (.ref 0), some (.ref 1), some (.ref 2), some (.int I)] [] (nx_enc s1 0 shC) (nx_enc s2 0 shR) := by
  obtain ⟨e1, e2, e3, e4, e5, e6, e7, e8⟩ := le_i hI0 (by omega)
  repeat (first | refine nl_s ?_ | refine And.intro (nx_in (n := Lx) (by omega) (by omega)) ?_)
  refine pC_laws _ s1 _ _ i1 (fun t1 r1 j1 z1 => ?_)
  repeat (first | refine nl_s ?_ | refine And.intro (nx_in (n := Lx) (by omega) (by omega)) ?_)
  refine pR_laws _ s2 _ _ i2 hJ (fun t2 r2 j2 jJ z2 => ?_)
  refine nl_s (nl_s ?_)
  exact K t1 t2 j1 j2 jJ (rr_k hz z1 z2)
set_option maxRecDepth 100000 in
set_option maxHeartbeats 4000000 in
theorem lc_law (Lx : Nat) (xs : Nat → Int32) (I : Int32) (s1 s2 : nx_S) (hI0 : 0 ≤ I.toInt) (hI8 : I.toInt + 8 ≤ Lx) (hL : Lx ≤ 4096) (i1 : nx_Inv gC s1) (i2 : nx_Inv gR s2) (hJ : nJ s2) (hz : RR s1 s2) (K : ∀ t1 t2 : nx_S, nx_Inv gC t1 → nx_Inv gR t2 → nJ t2 → RR t1 t2 → nl_wp kC_L Lx xs kc_L 1802 [some (.ref 0), some (.ref 1), some (.ref 2), some (.int I)] [] (nx_enc t1 0 shC) (nx_enc t2 0 shR)) : nl_wp kC_L Lx xs kc_L 877 [some (.ref 0), some (.ref 1), some (.ref 2), some (.int I)] [] (nx_enc s1 0 shC) (nx_enc s2 0 shR) := by
  obtain ⟨e1, e2, e3, e4, e5, e6, e7, e8⟩ := le_i hI0 (by omega)
  repeat (first | refine nl_s ?_ | refine And.intro (nx_in (n := Lx) (by omega) (by omega)) ?_)
  refine pC_law _ s1 _ i1 (fun t1 r1 j1 z1 => ?_)
  repeat (first | refine nl_s ?_ | refine And.intro (nx_in (n := Lx) (by omega) (by omega)) ?_)
  refine pR_law _ s2 _ i2 hJ (fun t2 r2 j2 jJ z2 => ?_)
  refine nl_s (nl_s ?_)
  exact K t1 t2 j1 j2 jJ (rr_k hz z1 z2)
set_option maxRecDepth 100000 in
set_option maxHeartbeats 4000000 in
theorem lc_inside (Lx : Nat) (xs : Nat → Int32) (I : Int32) (s1 s2 : nx_S) (hI0 : 0 ≤ I.toInt) (hI8 : I.toInt + 8 ≤ Lx) (hL : Lx ≤ 4096) (i1 : nx_Inv gC s1) (i2 : nx_Inv gR s2) (hJ : nJ s2) (hz : RR s1 s2) (K : ∀ t1 t2 : nx_S, nx_Inv gC t1 → nx_Inv gR t2 → nJ t2 → RR t1 t2 → nl_wp kC_L Lx xs kc_L 1802 [some (.ref 0), some (.ref 1), some (.ref 2), some (.int I)] [] (nx_enc t1 0 shC) (nx_enc t2 0 shR)) : nl_wp kC_L Lx xs kc_L 900 [some (.ref 0), some (.ref 1), some (.ref 2), some (.int I)] [] (nx_enc s1 0 shC) (nx_enc s2 0 shR) := by
  obtain ⟨e1, e2, e3, e4, e5, e6, e7, e8⟩ := le_i hI0 (by omega)
  repeat (first | refine nl_s ?_ | refine And.intro (nx_in (n := Lx) (by omega) (by omega)) ?_)
  refine pC_inside _ s1 _ _ i1 (fun t1 r1 j1 z1 => ?_)
  repeat (first | refine nl_s ?_ | refine And.intro (nx_in (n := Lx) (by omega) (by omega)) ?_)
  refine pR_inside _ s2 _ _ i2 hJ (fun t2 r2 j2 jJ z2 => ?_)
  refine nl_s (nl_s ?_)
  exact K t1 t2 j1 j2 jJ (rr_k hz z1 z2)
set_option maxRecDepth 100000 in
set_option maxHeartbeats 4000000 in
theorem lc_now (Lx : Nat) (xs : Nat → Int32) (I : Int32) (s1 s2 : nx_S) (hI0 : 0 ≤ I.toInt) (hI8 : I.toInt + 8 ≤ Lx) (hL : Lx ≤ 4096) (i1 : nx_Inv gC s1) (i2 : nx_Inv gR s2) (hJ : nJ s2) (hz : RR s1 s2) (K : ∀ t1 t2 : nx_S, nx_Inv gC t1 → nx_Inv gR t2 → nJ t2 → RR t1 t2 → nl_wp kC_L Lx xs kc_L 1802 [some (.ref 0), some (.ref 1), some (.ref 2), some (.int I)] [] (nx_enc t1 0 shC) (nx_enc t2 0 shR)) : nl_wp kC_L Lx xs kc_L 933 [some (.ref 0), some (.ref 1), some (.ref 2), some (.int I)] [] (nx_enc s1 0 shC) (nx_enc s2 0 shR) := by
  obtain ⟨e1, e2, e3, e4, e5, e6, e7, e8⟩ := le_i hI0 (by omega)
  repeat (first | refine nl_s ?_ | refine And.intro (nx_in (n := Lx) (by omega) (by omega)) ?_)
  refine pC_now _ s1 _ _ _ i1 (fun t1 r1 j1 z1 => ?_)
  repeat (first | refine nl_s ?_ | refine And.intro (nx_in (n := Lx) (by omega) (by omega)) ?_)
  refine pR_now _ s2 _ _ _ i2 hJ (fun t2 r2 j2 jJ z2 => ?_)
  refine nl_s (nl_s ?_)
  exact K t1 t2 j1 j2 jJ (rr_k hz z1 z2)
set_option maxRecDepth 100000 in
set_option maxHeartbeats 4000000 in
theorem lc_whose (Lx : Nat) (xs : Nat → Int32) (I : Int32) (s1 s2 : nx_S) (hI0 : 0 ≤ I.toInt) (hI8 : I.toInt + 8 ≤ Lx) (hL : Lx ≤ 4096) (i1 : nx_Inv gC s1) (i2 : nx_Inv gR s2) (hJ : nJ s2) (hz : RR s1 s2) (K : ∀ t1 t2 : nx_S, nx_Inv gC t1 → nx_Inv gR t2 → nJ t2 → RR t1 t2 → nl_wp kC_L Lx xs kc_L 1802 [some (.ref 0), some (.ref 1), some (.ref 2), some (.int I)] [] (nx_enc t1 0 shC) (nx_enc t2 0 shR)) : nl_wp kC_L Lx xs kc_L 976 [some (.ref 0), some (.ref 1), some (.ref 2), some (.int I)] [] (nx_enc s1 0 shC) (nx_enc s2 0 shR) := by
  obtain ⟨e1, e2, e3, e4, e5, e6, e7, e8⟩ := le_i hI0 (by omega)
  repeat (first | refine nl_s ?_ | refine And.intro (nx_in (n := Lx) (by omega) (by omega)) ?_)
  refine pC_whose _ s1 _ _ _ _ _ i1 (fun t1 r1 j1 z1 => ?_)
  repeat (first | refine nl_s ?_ | refine And.intro (nx_in (n := Lx) (by omega) (by omega)) ?_)
  refine pR_whose _ s2 _ _ _ _ _ i2 hJ (fun t2 r2 j2 jJ z2 => ?_)
  refine nl_s (nl_s ?_)
  exact K t1 t2 j1 j2 jJ (rr_k hz z1 z2)
set_option maxRecDepth 100000 in
set_option maxHeartbeats 4000000 in
theorem lc_owners (Lx : Nat) (xs : Nat → Int32) (I : Int32) (s1 s2 : nx_S) (hI0 : 0 ≤ I.toInt) (hI8 : I.toInt + 8 ≤ Lx) (hL : Lx ≤ 4096) (i1 : nx_Inv gC s1) (i2 : nx_Inv gR s2) (hJ : nJ s2) (hz : RR s1 s2) (K : ∀ t1 t2 : nx_S, nx_Inv gC t1 → nx_Inv gR t2 → nJ t2 → RR t1 t2 → nl_wp kC_L Lx xs kc_L 1802 [some (.ref 0), some (.ref 1), some (.ref 2), some (.int I)] [] (nx_enc t1 0 shC) (nx_enc t2 0 shR)) : nl_wp kC_L Lx xs kc_L 1039 [some (.ref 0), some (.ref 1), some (.ref 2), some (.int I)] [] (nx_enc s1 0 shC) (nx_enc s2 0 shR) := by
  obtain ⟨e1, e2, e3, e4, e5, e6, e7, e8⟩ := le_i hI0 (by omega)
  repeat (first | refine nl_s ?_ | refine And.intro (nx_in (n := Lx) (by omega) (by omega)) ?_)
  refine pC_owners _ s1 _ _ _ _ i1 (fun t1 r1 j1 z1 => ?_)
  repeat (first | refine nl_s ?_ | refine And.intro (nx_in (n := Lx) (by omega) (by omega)) ?_)
  refine pR_owners _ s2 _ _ _ _ i2 hJ (fun t2 r2 j2 jJ z2 => ?_)
  refine nl_s (nl_s ?_)
  exact K t1 t2 j1 j2 jJ (rr_k hz z1 z2)
set_option maxRecDepth 100000 in
set_option maxHeartbeats 4000000 in
theorem lc_changes (Lx : Nat) (xs : Nat → Int32) (I : Int32) (s1 s2 : nx_S) (hI0 : 0 ≤ I.toInt) (hI8 : I.toInt + 8 ≤ Lx) (hL : Lx ≤ 4096) (i1 : nx_Inv gC s1) (i2 : nx_Inv gR s2) (hJ : nJ s2) (hz : RR s1 s2) (K : ∀ t1 t2 : nx_S, nx_Inv gC t1 → nx_Inv gR t2 → nJ t2 → RR t1 t2 → nl_wp kC_L Lx xs kc_L 1802 [some (.ref 0), some (.ref 1), some (.ref 2), some (.int I)] [] (nx_enc t1 0 shC) (nx_enc t2 0 shR)) : nl_wp kC_L Lx xs kc_L 1092 [some (.ref 0), some (.ref 1), some (.ref 2), some (.int I)] [] (nx_enc s1 0 shC) (nx_enc s2 0 shR) := by
  obtain ⟨e1, e2, e3, e4, e5, e6, e7, e8⟩ := le_i hI0 (by omega)
  repeat (first | refine nl_s ?_ | refine And.intro (nx_in (n := Lx) (by omega) (by omega)) ?_)
  refine pC_changes _ s1 _ _ _ _ i1 (fun t1 r1 j1 z1 => ?_)
  repeat (first | refine nl_s ?_ | refine And.intro (nx_in (n := Lx) (by omega) (by omega)) ?_)
  refine pR_changes _ s2 _ _ _ _ i2 hJ (fun t2 r2 j2 jJ z2 => ?_)
  refine nl_s (nl_s ?_)
  exact K t1 t2 j1 j2 jJ (rr_k hz z1 z2)
set_option maxRecDepth 100000 in
set_option maxHeartbeats 4000000 in
theorem lc_lost (Lx : Nat) (xs : Nat → Int32) (I : Int32) (s1 s2 : nx_S) (hI0 : 0 ≤ I.toInt) (hI8 : I.toInt + 8 ≤ Lx) (hL : Lx ≤ 4096) (i1 : nx_Inv gC s1) (i2 : nx_Inv gR s2) (hJ : nJ s2) (hz : RR s1 s2) (K : ∀ t1 t2 : nx_S, nx_Inv gC t1 → nx_Inv gR t2 → nJ t2 → RR t1 t2 → nl_wp kC_L Lx xs kc_L 1802 [some (.ref 0), some (.ref 1), some (.ref 2), some (.int I)] [] (nx_enc t1 0 shC) (nx_enc t2 0 shR)) : nl_wp kC_L Lx xs kc_L 1145 [some (.ref 0), some (.ref 1), some (.ref 2), some (.int I)] [] (nx_enc s1 0 shC) (nx_enc s2 0 shR) := by
  obtain ⟨e1, e2, e3, e4, e5, e6, e7, e8⟩ := le_i hI0 (by omega)
  repeat (first | refine nl_s ?_ | refine And.intro (nx_in (n := Lx) (by omega) (by omega)) ?_)
  refine pC_lost _ s1 _ _ _ _ i1 (fun t1 r1 j1 z1 => ?_)
  repeat (first | refine nl_s ?_ | refine And.intro (nx_in (n := Lx) (by omega) (by omega)) ?_)
  refine pR_lost _ s2 _ _ _ _ i2 hJ (fun t2 r2 j2 jJ z2 => ?_)
  refine nl_s (nl_s ?_)
  exact K t1 t2 j1 j2 jJ (rr_k hz z1 z2)
set_option maxRecDepth 100000 in
set_option maxHeartbeats 4000000 in
theorem lc_beside (Lx : Nat) (xs : Nat → Int32) (I : Int32) (s1 s2 : nx_S) (hI0 : 0 ≤ I.toInt) (hI8 : I.toInt + 8 ≤ Lx) (hL : Lx ≤ 4096) (i1 : nx_Inv gC s1) (i2 : nx_Inv gR s2) (hJ : nJ s2) (hz : RR s1 s2) (K : ∀ t1 t2 : nx_S, nx_Inv gC t1 → nx_Inv gR t2 → nJ t2 → RR t1 t2 → nl_wp kC_L Lx xs kc_L 1802 [some (.ref 0), some (.ref 1), some (.ref 2), some (.int I)] [] (nx_enc t1 0 shC) (nx_enc t2 0 shR)) : nl_wp kC_L Lx xs kc_L 1198 [some (.ref 0), some (.ref 1), some (.ref 2), some (.int I)] [] (nx_enc s1 0 shC) (nx_enc s2 0 shR) := by
  obtain ⟨e1, e2, e3, e4, e5, e6, e7, e8⟩ := le_i hI0 (by omega)
  repeat (first | refine nl_s ?_ | refine And.intro (nx_in (n := Lx) (by omega) (by omega)) ?_)
  refine pC_beside _ s1 _ _ _ i1 (fun t1 r1 j1 z1 => ?_)
  repeat (first | refine nl_s ?_ | refine And.intro (nx_in (n := Lx) (by omega) (by omega)) ?_)
  refine pR_beside _ s2 _ _ _ i2 hJ (fun t2 r2 j2 jJ z2 => ?_)
  refine nl_s (nl_s ?_)
  exact K t1 t2 j1 j2 jJ (rr_k hz z1 z2)
set_option maxRecDepth 100000 in
set_option maxHeartbeats 4000000 in
theorem lc_undo (Lx : Nat) (xs : Nat → Int32) (I : Int32) (s1 s2 : nx_S) (hI0 : 0 ≤ I.toInt) (hI8 : I.toInt + 8 ≤ Lx) (hL : Lx ≤ 4096) (i1 : nx_Inv gC s1) (i2 : nx_Inv gR s2) (hJ : nJ s2) (hz : RR s1 s2) (K : ∀ t1 t2 : nx_S, nx_Inv gC t1 → nx_Inv gR t2 → nJ t2 → RR t1 t2 → nl_wp kC_L Lx xs kc_L 1802 [some (.ref 0), some (.ref 1), some (.ref 2), some (.int I)] [] (nx_enc t1 0 shC) (nx_enc t2 0 shR)) : nl_wp kC_L Lx xs kc_L 1241 [some (.ref 0), some (.ref 1), some (.ref 2), some (.int I)] [] (nx_enc s1 0 shC) (nx_enc s2 0 shR) := by
  obtain ⟨e1, e2, e3, e4, e5, e6, e7, e8⟩ := le_i hI0 (by omega)
  repeat (first | refine nl_s ?_ | refine And.intro (nx_in (n := Lx) (by omega) (by omega)) ?_)
  refine pC_undo _ s1 _ _ i1 (fun t1 r1 j1 z1 => ?_)
  repeat (first | refine nl_s ?_ | refine And.intro (nx_in (n := Lx) (by omega) (by omega)) ?_)
  refine pR_undo _ s2 _ _ i2 hJ (fun t2 r2 j2 jJ z2 => ?_)
  refine nl_s (nl_s ?_)
  exact K t1 t2 j1 j2 jJ (rr_k hz z1 z2)
set_option maxRecDepth 100000 in
set_option maxHeartbeats 4000000 in
theorem lc_sure (Lx : Nat) (xs : Nat → Int32) (I : Int32) (s1 s2 : nx_S) (hI0 : 0 ≤ I.toInt) (hI8 : I.toInt + 8 ≤ Lx) (hL : Lx ≤ 4096) (i1 : nx_Inv gC s1) (i2 : nx_Inv gR s2) (hJ : nJ s2) (hz : RR s1 s2) (K : ∀ t1 t2 : nx_S, nx_Inv gC t1 → nx_Inv gR t2 → nJ t2 → RR t1 t2 → nl_wp kC_L Lx xs kc_L 1802 [some (.ref 0), some (.ref 1), some (.ref 2), some (.int I)] [] (nx_enc t1 0 shC) (nx_enc t2 0 shR)) : nl_wp kC_L Lx xs kc_L 1274 [some (.ref 0), some (.ref 1), some (.ref 2), some (.int I)] [] (nx_enc s1 0 shC) (nx_enc s2 0 shR) := by
  obtain ⟨e1, e2, e3, e4, e5, e6, e7, e8⟩ := le_i hI0 (by omega)
  repeat (first | refine nl_s ?_ | refine And.intro (nx_in (n := Lx) (by omega) (by omega)) ?_)
  refine pC_sure _ s1 _ _ _ _ i1 (fun t1 r1 j1 z1 => ?_)
  repeat (first | refine nl_s ?_ | refine And.intro (nx_in (n := Lx) (by omega) (by omega)) ?_)
  refine pR_sure _ s2 _ _ _ _ i2 hJ (fun t2 r2 j2 jJ z2 => ?_)
  refine nl_s (nl_s ?_)
  exact K t1 t2 j1 j2 jJ (rr_k hz z1 z2)
set_option maxRecDepth 100000 in
set_option maxHeartbeats 4000000 in
theorem lc_hangs (Lx : Nat) (xs : Nat → Int32) (I : Int32) (s1 s2 : nx_S) (hI0 : 0 ≤ I.toInt) (hI8 : I.toInt + 8 ≤ Lx) (hL : Lx ≤ 4096) (i1 : nx_Inv gC s1) (i2 : nx_Inv gR s2) (hJ : nJ s2) (hz : RR s1 s2) (K : ∀ t1 t2 : nx_S, nx_Inv gC t1 → nx_Inv gR t2 → nJ t2 → RR t1 t2 → nl_wp kC_L Lx xs kc_L 1802 [some (.ref 0), some (.ref 1), some (.ref 2), some (.int I)] [] (nx_enc t1 0 shC) (nx_enc t2 0 shR)) : nl_wp kC_L Lx xs kc_L 1327 [some (.ref 0), some (.ref 1), some (.ref 2), some (.int I)] [] (nx_enc s1 0 shC) (nx_enc s2 0 shR) := by
  obtain ⟨e1, e2, e3, e4, e5, e6, e7, e8⟩ := le_i hI0 (by omega)
  repeat (first | refine nl_s ?_ | refine And.intro (nx_in (n := Lx) (by omega) (by omega)) ?_)
  refine pC_hangs _ s1 _ _ _ _ i1 (fun t1 r1 j1 z1 => ?_)
  repeat (first | refine nl_s ?_ | refine And.intro (nx_in (n := Lx) (by omega) (by omega)) ?_)
  refine pR_hangs _ s2 _ _ _ _ i2 hJ (fun t2 r2 j2 jJ z2 => ?_)
  refine nl_s (nl_s ?_)
  exact K t1 t2 j1 j2 jJ (rr_k hz z1 z2)
set_option maxRecDepth 100000 in
set_option maxHeartbeats 4000000 in
theorem lc_sly (Lx : Nat) (xs : Nat → Int32) (I : Int32) (s1 s2 : nx_S) (hI0 : 0 ≤ I.toInt) (hI8 : I.toInt + 8 ≤ Lx) (hL : Lx ≤ 4096) (i1 : nx_Inv gC s1) (i2 : nx_Inv gR s2) (hJ : nJ s2) (hz : RR s1 s2) (K : ∀ t1 t2 : nx_S, nx_Inv gC t1 → nx_Inv gR t2 → nJ t2 → RR t1 t2 → nl_wp kC_L Lx xs kc_L 1802 [some (.ref 0), some (.ref 1), some (.ref 2), some (.int I)] [] (nx_enc t1 0 shC) (nx_enc t2 0 shR)) : nl_wp kC_L Lx xs kc_L 1380 [some (.ref 0), some (.ref 1), some (.ref 2), some (.int I)] [] (nx_enc s1 0 shC) (nx_enc s2 0 shR) := by
  obtain ⟨e1, e2, e3, e4, e5, e6, e7, e8⟩ := le_i hI0 (by omega)
  repeat (first | refine nl_s ?_ | refine And.intro (nx_in (n := Lx) (by omega) (by omega)) ?_)
  refine pC_sly _ s1 _ _ _ _ i1 (fun t1 r1 j1 z1 => ?_)
  repeat (first | refine nl_s ?_ | refine And.intro (nx_in (n := Lx) (by omega) (by omega)) ?_)
  refine pR_sly _ s2 _ _ _ _ i2 hJ (fun t2 r2 j2 jJ z2 => ?_)
  refine nl_s (nl_s ?_)
  exact K t1 t2 j1 j2 jJ (rr_k hz z1 z2)
set_option maxRecDepth 100000 in
set_option maxHeartbeats 4000000 in
theorem lc_stop (Lx : Nat) (xs : Nat → Int32) (I : Int32) (s1 s2 : nx_S) (hI0 : 0 ≤ I.toInt) (hI8 : I.toInt + 8 ≤ Lx) (hL : Lx ≤ 4096) (i1 : nx_Inv gC s1) (i2 : nx_Inv gR s2) (hJ : nJ s2) (hz : RR s1 s2) (K : ∀ t1 t2 : nx_S, nx_Inv gC t1 → nx_Inv gR t2 → nJ t2 → RR t1 t2 → nl_wp kC_L Lx xs kc_L 1802 [some (.ref 0), some (.ref 1), some (.ref 2), some (.int I)] [] (nx_enc t1 0 shC) (nx_enc t2 0 shR)) : nl_wp kC_L Lx xs kc_L 1433 [some (.ref 0), some (.ref 1), some (.ref 2), some (.int I)] [] (nx_enc s1 0 shC) (nx_enc s2 0 shR) := by
  obtain ⟨e1, e2, e3, e4, e5, e6, e7, e8⟩ := le_i hI0 (by omega)
  repeat (first | refine nl_s ?_ | refine And.intro (nx_in (n := Lx) (by omega) (by omega)) ?_)
  refine pC_stop _ s1 _ _ _ _ i1 (fun t1 r1 j1 z1 => ?_)
  repeat (first | refine nl_s ?_ | refine And.intro (nx_in (n := Lx) (by omega) (by omega)) ?_)
  refine pR_stop _ s2 _ _ _ _ i2 hJ (fun t2 r2 j2 jJ z2 => ?_)
  refine nl_s (nl_s ?_)
  exact K t1 t2 j1 j2 jJ (rr_k hz z1 z2)
set_option maxRecDepth 100000 in
set_option maxHeartbeats 4000000 in
theorem lc_inTime (Lx : Nat) (xs : Nat → Int32) (I : Int32) (s1 s2 : nx_S) (hI0 : 0 ≤ I.toInt) (hI8 : I.toInt + 8 ≤ Lx) (hL : Lx ≤ 4096) (i1 : nx_Inv gC s1) (i2 : nx_Inv gR s2) (hJ : nJ s2) (hz : RR s1 s2) (K : ∀ t1 t2 : nx_S, nx_Inv gC t1 → nx_Inv gR t2 → nJ t2 → RR t1 t2 → nl_wp kC_L Lx xs kc_L 1802 [some (.ref 0), some (.ref 1), some (.ref 2), some (.int I)] [] (nx_enc t1 0 shC) (nx_enc t2 0 shR)) : nl_wp kC_L Lx xs kc_L 1486 [some (.ref 0), some (.ref 1), some (.ref 2), some (.int I)] [] (nx_enc s1 0 shC) (nx_enc s2 0 shR) := by
  obtain ⟨e1, e2, e3, e4, e5, e6, e7, e8⟩ := le_i hI0 (by omega)
  repeat (first | refine nl_s ?_ | refine And.intro (nx_in (n := Lx) (by omega) (by omega)) ?_)
  refine pC_inTime _ s1 _ _ _ i1 (fun t1 r1 j1 z1 => ?_)
  repeat (first | refine nl_s ?_ | refine And.intro (nx_in (n := Lx) (by omega) (by omega)) ?_)
  refine pR_inTime _ s2 _ _ _ i2 hJ (fun t2 r2 j2 jJ z2 => ?_)
  refine nl_s (nl_s ?_)
  exact K t1 t2 j1 j2 jJ (rr_k hz z1 z2)
set_option maxRecDepth 100000 in
set_option maxHeartbeats 4000000 in
theorem lc_heap (Lx : Nat) (xs : Nat → Int32) (I : Int32) (s1 s2 : nx_S) (hI0 : 0 ≤ I.toInt) (hI8 : I.toInt + 8 ≤ Lx) (hL : Lx ≤ 4096) (i1 : nx_Inv gC s1) (i2 : nx_Inv gR s2) (hJ : nJ s2) (hz : RR s1 s2) (K : ∀ t1 t2 : nx_S, nx_Inv gC t1 → nx_Inv gR t2 → nJ t2 → RR t1 t2 → nl_wp kC_L Lx xs kc_L 1802 [some (.ref 0), some (.ref 1), some (.ref 2), some (.int I)] [] (nx_enc t1 0 shC) (nx_enc t2 0 shR)) : nl_wp kC_L Lx xs kc_L 1529 [some (.ref 0), some (.ref 1), some (.ref 2), some (.int I)] [] (nx_enc s1 0 shC) (nx_enc s2 0 shR) := by
  obtain ⟨e1, e2, e3, e4, e5, e6, e7, e8⟩ := le_i hI0 (by omega)
  repeat (first | refine nl_s ?_ | refine And.intro (nx_in (n := Lx) (by omega) (by omega)) ?_)
  refine pC_heap _ s1 _ _ _ i1 (fun t1 r1 j1 z1 => ?_)
  repeat (first | refine nl_s ?_ | refine And.intro (nx_in (n := Lx) (by omega) (by omega)) ?_)
  refine pR_heap _ s2 _ _ _ i2 hJ (fun t2 r2 j2 jJ z2 => ?_)
  refine nl_s (nl_s ?_)
  exact K t1 t2 j1 j2 jJ (rr_k hz z1 z2)
set_option maxRecDepth 100000 in
set_option maxHeartbeats 4000000 in
theorem lc_draw (Lx : Nat) (xs : Nat → Int32) (I : Int32) (s1 s2 : nx_S) (hI0 : 0 ≤ I.toInt) (hI8 : I.toInt + 8 ≤ Lx) (hL : Lx ≤ 4096) (i1 : nx_Inv gC s1) (i2 : nx_Inv gR s2) (hJ : nJ s2) (hz : RR s1 s2) (K : ∀ t1 t2 : nx_S, nx_Inv gC t1 → nx_Inv gR t2 → nJ t2 → RR t1 t2 → nl_wp kC_L Lx xs kc_L 1802 [some (.ref 0), some (.ref 1), some (.ref 2), some (.int I)] [] (nx_enc t1 0 shC) (nx_enc t2 0 shR)) : nl_wp kC_L Lx xs kc_L 1572 [some (.ref 0), some (.ref 1), some (.ref 2), some (.int I)] [] (nx_enc s1 0 shC) (nx_enc s2 0 shR) := by
  obtain ⟨e1, e2, e3, e4, e5, e6, e7, e8⟩ := le_i hI0 (by omega)
  repeat (first | refine nl_s ?_ | refine And.intro (nx_in (n := Lx) (by omega) (by omega)) ?_)
  refine pC_draw _ s1 _ _ _ _ i1 (fun t1 r1 j1 z1 => ?_)
  repeat (first | refine nl_s ?_ | refine And.intro (nx_in (n := Lx) (by omega) (by omega)) ?_)
  refine pR_draw _ s2 _ _ _ _ i2 hJ (fun t2 r2 j2 jJ z2 => ?_)
  refine nl_s (nl_s ?_)
  exact K t1 t2 j1 j2 jJ (rr_k hz z1 z2)
set_option maxRecDepth 100000 in
set_option maxHeartbeats 4000000 in
theorem lc_left (Lx : Nat) (xs : Nat → Int32) (I : Int32) (s1 s2 : nx_S) (hI0 : 0 ≤ I.toInt) (hI8 : I.toInt + 8 ≤ Lx) (hL : Lx ≤ 4096) (i1 : nx_Inv gC s1) (i2 : nx_Inv gR s2) (hJ : nJ s2) (hz : RR s1 s2) (K : ∀ t1 t2 : nx_S, nx_Inv gC t1 → nx_Inv gR t2 → nJ t2 → RR t1 t2 → nl_wp kC_L Lx xs kc_L 1802 [some (.ref 0), some (.ref 1), some (.ref 2), some (.int I)] [] (nx_enc t1 0 shC) (nx_enc t2 0 shR)) : nl_wp kC_L Lx xs kc_L 1625 [some (.ref 0), some (.ref 1), some (.ref 2), some (.int I)] [] (nx_enc s1 0 shC) (nx_enc s2 0 shR) := by
  obtain ⟨e1, e2, e3, e4, e5, e6, e7, e8⟩ := le_i hI0 (by omega)
  repeat (first | refine nl_s ?_ | refine And.intro (nx_in (n := Lx) (by omega) (by omega)) ?_)
  refine pC_left _ s1 _ _ i1 (fun t1 r1 j1 z1 => ?_)
  repeat (first | refine nl_s ?_ | refine And.intro (nx_in (n := Lx) (by omega) (by omega)) ?_)
  refine pR_left _ s2 _ _ i2 hJ (fun t2 r2 j2 jJ z2 => ?_)
  refine nl_s (nl_s ?_)
  exact K t1 t2 j1 j2 jJ (rr_k hz z1 z2)
set_option maxRecDepth 100000 in
set_option maxHeartbeats 4000000 in
theorem lc_layer (Lx : Nat) (xs : Nat → Int32) (I : Int32) (s1 s2 : nx_S) (hI0 : 0 ≤ I.toInt) (hI8 : I.toInt + 8 ≤ Lx) (hL : Lx ≤ 4096) (i1 : nx_Inv gC s1) (i2 : nx_Inv gR s2) (hJ : nJ s2) (hz : RR s1 s2) (K : ∀ t1 t2 : nx_S, nx_Inv gC t1 → nx_Inv gR t2 → nJ t2 → RR t1 t2 → nl_wp kC_L Lx xs kc_L 1802 [some (.ref 0), some (.ref 1), some (.ref 2), some (.int I)] [] (nx_enc t1 0 shC) (nx_enc t2 0 shR)) : nl_wp kC_L Lx xs kc_L 1658 [some (.ref 0), some (.ref 1), some (.ref 2), some (.int I)] [] (nx_enc s1 0 shC) (nx_enc s2 0 shR) := by
  obtain ⟨e1, e2, e3, e4, e5, e6, e7, e8⟩ := le_i hI0 (by omega)
  repeat (first | refine nl_s ?_ | refine And.intro (nx_in (n := Lx) (by omega) (by omega)) ?_)
  refine pC_layer _ s1 _ _ i1 (fun t1 r1 j1 z1 => ?_)
  repeat (first | refine nl_s ?_ | refine And.intro (nx_in (n := Lx) (by omega) (by omega)) ?_)
  refine pR_layer _ s2 _ _ i2 hJ (fun t2 r2 j2 jJ z2 => ?_)
  refine nl_s (nl_s ?_)
  exact K t1 t2 j1 j2 jJ (rr_k hz z1 z2)
set_option maxRecDepth 100000 in
set_option maxHeartbeats 4000000 in
theorem lc_asked (Lx : Nat) (xs : Nat → Int32) (I : Int32) (s1 s2 : nx_S) (hI0 : 0 ≤ I.toInt) (hI8 : I.toInt + 8 ≤ Lx) (hL : Lx ≤ 4096) (i1 : nx_Inv gC s1) (i2 : nx_Inv gR s2) (hJ : nJ s2) (hz : RR s1 s2) (K : ∀ t1 t2 : nx_S, nx_Inv gC t1 → nx_Inv gR t2 → nJ t2 → RR t1 t2 → nl_wp kC_L Lx xs kc_L 1802 [some (.ref 0), some (.ref 1), some (.ref 2), some (.int I)] [] (nx_enc t1 0 shC) (nx_enc t2 0 shR)) : nl_wp kC_L Lx xs kc_L 1691 [some (.ref 0), some (.ref 1), some (.ref 2), some (.int I)] [] (nx_enc s1 0 shC) (nx_enc s2 0 shR) := by
  obtain ⟨e1, e2, e3, e4, e5, e6, e7, e8⟩ := le_i hI0 (by omega)
  repeat (first | refine nl_s ?_ | refine And.intro (nx_in (n := Lx) (by omega) (by omega)) ?_)
  refine pC_asked _ s1 i1 (fun t1 r1 j1 z1 => ?_)
  repeat (first | refine nl_s ?_ | refine And.intro (nx_in (n := Lx) (by omega) (by omega)) ?_)
  refine pR_asked _ s2 i2 hJ (fun t2 r2 j2 jJ z2 => ?_)
  refine nl_s (nl_s ?_)
  exact K t1 t2 j1 j2 jJ (rr_k hz z1 z2)
set_option maxRecDepth 100000 in
set_option maxHeartbeats 4000000 in
theorem lc_upper (Lx : Nat) (xs : Nat → Int32) (I : Int32) (s1 s2 : nx_S) (hI0 : 0 ≤ I.toInt) (hI8 : I.toInt + 8 ≤ Lx) (hL : Lx ≤ 4096) (i1 : nx_Inv gC s1) (i2 : nx_Inv gR s2) (hJ : nJ s2) (hz : RR s1 s2) (K : ∀ t1 t2 : nx_S, nx_Inv gC t1 → nx_Inv gR t2 → nJ t2 → RR t1 t2 → nl_wp kC_L Lx xs kc_L 1802 [some (.ref 0), some (.ref 1), some (.ref 2), some (.int I)] [] (nx_enc t1 0 shC) (nx_enc t2 0 shR)) : nl_wp kC_L Lx xs kc_L 1704 [some (.ref 0), some (.ref 1), some (.ref 2), some (.int I)] [] (nx_enc s1 0 shC) (nx_enc s2 0 shR) := by
  obtain ⟨e1, e2, e3, e4, e5, e6, e7, e8⟩ := le_i hI0 (by omega)
  repeat (first | refine nl_s ?_ | refine And.intro (nx_in (n := Lx) (by omega) (by omega)) ?_)
  refine pC_upper _ s1 i1 (fun t1 r1 j1 z1 => ?_)
  repeat (first | refine nl_s ?_ | refine And.intro (nx_in (n := Lx) (by omega) (by omega)) ?_)
  refine pR_upper _ s2 i2 hJ (fun t2 r2 j2 jJ z2 => ?_)
  refine nl_s (nl_s ?_)
  exact K t1 t2 j1 j2 jJ (rr_k hz z1 z2)
set_option maxRecDepth 100000 in
set_option maxHeartbeats 4000000 in
theorem lc_lower (Lx : Nat) (xs : Nat → Int32) (I : Int32) (s1 s2 : nx_S) (hI0 : 0 ≤ I.toInt) (hI8 : I.toInt + 8 ≤ Lx) (hL : Lx ≤ 4096) (i1 : nx_Inv gC s1) (i2 : nx_Inv gR s2) (hJ : nJ s2) (hz : RR s1 s2) (K : ∀ t1 t2 : nx_S, nx_Inv gC t1 → nx_Inv gR t2 → nJ t2 → RR t1 t2 → nl_wp kC_L Lx xs kc_L 1802 [some (.ref 0), some (.ref 1), some (.ref 2), some (.int I)] [] (nx_enc t1 0 shC) (nx_enc t2 0 shR)) : nl_wp kC_L Lx xs kc_L 1717 [some (.ref 0), some (.ref 1), some (.ref 2), some (.int I)] [] (nx_enc s1 0 shC) (nx_enc s2 0 shR) := by
  obtain ⟨e1, e2, e3, e4, e5, e6, e7, e8⟩ := le_i hI0 (by omega)
  repeat (first | refine nl_s ?_ | refine And.intro (nx_in (n := Lx) (by omega) (by omega)) ?_)
  refine pC_lower _ s1 i1 (fun t1 r1 j1 z1 => ?_)
  repeat (first | refine nl_s ?_ | refine And.intro (nx_in (n := Lx) (by omega) (by omega)) ?_)
  refine pR_lower _ s2 i2 hJ (fun t2 r2 j2 jJ z2 => ?_)
  refine nl_s (nl_s ?_)
  exact K t1 t2 j1 j2 jJ (rr_k hz z1 z2)
set_option maxRecDepth 100000 in
set_option maxHeartbeats 4000000 in
theorem lc_count (Lx : Nat) (xs : Nat → Int32) (I : Int32) (s1 s2 : nx_S) (hI0 : 0 ≤ I.toInt) (hI8 : I.toInt + 8 ≤ Lx) (hL : Lx ≤ 4096) (i1 : nx_Inv gC s1) (i2 : nx_Inv gR s2) (hJ : nJ s2) (hz : RR s1 s2) (K : ∀ t1 t2 : nx_S, nx_Inv gC t1 → nx_Inv gR t2 → nJ t2 → RR t1 t2 → nl_wp kC_L Lx xs kc_L 1802 [some (.ref 0), some (.ref 1), some (.ref 2), some (.int I)] [] (nx_enc t1 0 shC) (nx_enc t2 0 shR)) : nl_wp kC_L Lx xs kc_L 1730 [some (.ref 0), some (.ref 1), some (.ref 2), some (.int I)] [] (nx_enc s1 0 shC) (nx_enc s2 0 shR) := by
  obtain ⟨e1, e2, e3, e4, e5, e6, e7, e8⟩ := le_i hI0 (by omega)
  repeat (first | refine nl_s ?_ | refine And.intro (nx_in (n := Lx) (by omega) (by omega)) ?_)
  refine pC_count _ s1 _ i1 (fun t1 r1 j1 z1 => ?_)
  repeat (first | refine nl_s ?_ | refine And.intro (nx_in (n := Lx) (by omega) (by omega)) ?_)
  refine pR_count _ s2 _ i2 hJ (fun t2 r2 j2 jJ z2 => ?_)
  refine nl_s (nl_s ?_)
  exact K t1 t2 j1 j2 jJ (rr_k hz z1 z2)
set_option maxRecDepth 100000 in
set_option maxHeartbeats 4000000 in
theorem lc_finding (Lx : Nat) (xs : Nat → Int32) (I : Int32) (s1 s2 : nx_S) (hI0 : 0 ≤ I.toInt) (hI8 : I.toInt + 8 ≤ Lx) (hL : Lx ≤ 4096) (i1 : nx_Inv gC s1) (i2 : nx_Inv gR s2) (hJ : nJ s2) (hz : RR s1 s2) (K : ∀ t1 t2 : nx_S, nx_Inv gC t1 → nx_Inv gR t2 → nJ t2 → RR t1 t2 → nl_wp kC_L Lx xs kc_L 1802 [some (.ref 0), some (.ref 1), some (.ref 2), some (.int I)] [] (nx_enc t1 0 shC) (nx_enc t2 0 shR)) : nl_wp kC_L Lx xs kc_L 1753 [some (.ref 0), some (.ref 1), some (.ref 2), some (.int I)] [] (nx_enc s1 0 shC) (nx_enc s2 0 shR) := by
  obtain ⟨e1, e2, e3, e4, e5, e6, e7, e8⟩ := le_i hI0 (by omega)
  repeat (first | refine nl_s ?_ | refine And.intro (nx_in (n := Lx) (by omega) (by omega)) ?_)
  refine pC_finding _ s1 i1 (fun t1 r1 j1 z1 => ?_)
  repeat (first | refine nl_s ?_ | refine And.intro (nx_in (n := Lx) (by omega) (by omega)) ?_)
  refine pR_finding _ s2 i2 hJ (fun t2 r2 j2 jJ z2 => ?_)
  refine nl_s (nl_s ?_)
  exact K t1 t2 j1 j2 jJ (rr_k hz z1 z2)
set_option maxRecDepth 100000 in
set_option maxHeartbeats 4000000 in
theorem lc_findings (Lx : Nat) (xs : Nat → Int32) (I : Int32) (s1 s2 : nx_S) (hI0 : 0 ≤ I.toInt) (hI8 : I.toInt + 8 ≤ Lx) (hL : Lx ≤ 4096) (i1 : nx_Inv gC s1) (i2 : nx_Inv gR s2) (hJ : nJ s2) (hz : RR s1 s2) (K : ∀ t1 t2 : nx_S, nx_Inv gC t1 → nx_Inv gR t2 → nJ t2 → RR t1 t2 → nl_wp kC_L Lx xs kc_L 1802 [some (.ref 0), some (.ref 1), some (.ref 2), some (.int I)] [] (nx_enc t1 0 shC) (nx_enc t2 0 shR)) : nl_wp kC_L Lx xs kc_L 1766 [some (.ref 0), some (.ref 1), some (.ref 2), some (.int I)] [] (nx_enc s1 0 shC) (nx_enc s2 0 shR) := by
  obtain ⟨e1, e2, e3, e4, e5, e6, e7, e8⟩ := le_i hI0 (by omega)
  repeat (first | refine nl_s ?_ | refine And.intro (nx_in (n := Lx) (by omega) (by omega)) ?_)
  refine pC_findings _ s1 _ i1 (fun t1 r1 j1 z1 => ?_)
  repeat (first | refine nl_s ?_ | refine And.intro (nx_in (n := Lx) (by omega) (by omega)) ?_)
  refine pR_findings _ s2 _ i2 hJ (fun t2 r2 j2 jJ z2 => ?_)
  refine nl_s (nl_s ?_)
  exact K t1 t2 j1 j2 jJ (rr_k hz z1 z2)
set_option maxRecDepth 100000 in
set_option maxHeartbeats 4000000 in
theorem lc_digest (Lx : Nat) (xs : Nat → Int32) (I : Int32) (s1 s2 : nx_S) (hI0 : 0 ≤ I.toInt) (hI8 : I.toInt + 8 ≤ Lx) (hL : Lx ≤ 4096) (i1 : nx_Inv gC s1) (i2 : nx_Inv gR s2) (hJ : nJ s2) (hz : RR s1 s2) (K : ∀ t1 t2 : nx_S, nx_Inv gC t1 → nx_Inv gR t2 → nJ t2 → RR t1 t2 → nl_wp kC_L Lx xs kc_L 1802 [some (.ref 0), some (.ref 1), some (.ref 2), some (.int I)] [] (nx_enc t1 0 shC) (nx_enc t2 0 shR)) : nl_wp kC_L Lx xs kc_L 1789 [some (.ref 0), some (.ref 1), some (.ref 2), some (.int I)] [] (nx_enc s1 0 shC) (nx_enc s2 0 shR) := by
  obtain ⟨e1, e2, e3, e4, e5, e6, e7, e8⟩ := le_i hI0 (by omega)
  repeat (first | refine nl_s ?_ | refine And.intro (nx_in (n := Lx) (by omega) (by omega)) ?_)
  refine pC_digest _ s1 i1 (fun t1 r1 j1 z1 => ?_)
  repeat (first | refine nl_s ?_ | refine And.intro (nx_in (n := Lx) (by omega) (by omega)) ?_)
  refine pR_digest _ s2 i2 hJ (fun t2 r2 j2 jJ z2 => ?_)
  refine nl_s (nl_s ?_)
  exact K t1 t2 j1 j2 jJ (rr_k hz z1 z2)
set_option maxRecDepth 100000 in
set_option maxHeartbeats 8000000 in
theorem lp_loop {Lx : Nat} (hL : Lx ≤ 4096) (xs : Nat → Int32) : ∀ (n i : Nat) (I : Int32) (s1 s2 : nx_S), Lx ≤ 8 * (i + n) + 7 → I.toInt = 8 * i → nx_Inv gC s1 → nx_Inv gR s2 → nJ s2 → RR s1 s2 → nl_wp kC_L Lx xs kc_L 18 [some (.ref 0), some (.ref 1), some (.ref 2), some (.int I)] [] (nx_enc s1 0 shC) (nx_enc s2 0 shR) := by
  have z8 : (8 : Int32).toInt = 8 := rfl
  have eL : (Int32.ofNat Lx).toInt = (Lx : Int) := Int32.toInt_ofNat_of_lt (by omega)
  have e8 : (Int32.ofNat Lx - 8).toInt = (Lx : Int) - 8 := by
    rw [Int32.toInt_sub, eL, z8, na_bm (show (-2147483648 : Int) ≤ _ by omega) (show _ ≤ (2147483647 : Int) by omega)]
  intro n
  induction n with
  | zero =>
    intro i I s1 s2 hn hI i1 i2 hJ hz
    refine nl_s (nl_s (nl_s (nl_s (nl_s (nl_s ?_)))))
    refine nk_br.t (Int32.lt_iff_toInt_lt.mpr (show (Int32.ofNat Lx - 8).toInt < I.toInt by omega)) ?_
    refine nl_s (nl_s ?_)
    rfl
  | succ n ih =>
    intro i I s1 s2 hn hI i1 i2 hJ hz
    refine nl_s (nl_s (nl_s (nl_s (nl_s (nl_s ?_)))))
    refine br_lt (fun _ => ?_) (fun h => ?_)
    · refine nl_s (nl_s ?_)
      rfl
    have h : I.toInt ≤ (Int32.ofNat Lx - 8).toInt := h
    have hI9 : (I + 8).toInt = 8 * ((i + 1 : Nat) : Int) := by
      rw [i_add (by omega) (by omega), z8]
      omega
    have next : ∀ t1 t2 : nx_S, nx_Inv gC t1 → nx_Inv gR t2 → nJ t2 → RR t1 t2 → nl_wp kC_L Lx xs kc_L 1802 [some (.ref 0), some (.ref 1), some (.ref 2), some (.int I)] [] (nx_enc t1 0 shC) (nx_enc t2 0 shR) := by
      intro t1 t2 j1 j2 jJ jz
      refine nl_s (nl_s ?_)
      exact ih (i + 1) (I + 8) t1 t2 (by omega) hI9 j1 j2 jJ jz
    refine nl_s (nl_s (nl_s ?_))
    refine And.intro (nx_in (n := Lx) (by omega) (by omega)) ?_
    refine nl_s (nl_s (nl_s ?_))
    refine And.intro (fun _ => ?_) (fun j t hj _ => ?_)
    · exact next s1 s2 i1 i2 hJ hz
    match j, hj with
    | 0, hj => cases hj; exact lc_row Lx xs I s1 s2 (by omega) (by omega) hL i1 i2 hJ hz next
    | 1, hj => cases hj; exact lc_lay Lx xs I s1 s2 (by omega) (by omega) hL i1 i2 hJ hz next
    | 2, hj => cases hj; exact lc_at Lx xs I s1 s2 (by omega) (by omega) hL i1 i2 hJ hz next
    | 3, hj => cases hj; exact lc_tear Lx xs I s1 s2 (by omega) (by omega) hL i1 i2 hJ hz next
    | 4, hj => cases hj; exact lc_copy Lx xs I s1 s2 (by omega) (by omega) hL i1 i2 hJ hz next
    | 5, hj => cases hj; exact lc_mean Lx xs I s1 s2 (by omega) (by omega) hL i1 i2 hJ hz next
    | 6, hj => cases hj; exact lc_text Lx xs I s1 s2 (by omega) (by omega) hL i1 i2 hJ hz next
    | 7, hj => cases hj; exact lc_put Lx xs I s1 s2 (by omega) (by omega) hL i1 i2 hJ hz next
    | 8, hj => cases hj; exact lc_stuff Lx xs I s1 s2 (by omega) (by omega) hL i1 i2 hJ hz next
    | 9, hj => cases hj; exact lc_stuffs Lx xs I s1 s2 (by omega) (by omega) hL i1 i2 hJ hz next
    | 10, hj => cases hj; exact lc_debt Lx xs I s1 s2 (by omega) (by omega) hL i1 i2 hJ hz next
    | 11, hj => cases hj; exact lc_making Lx xs I s1 s2 (by omega) (by omega) hL i1 i2 hJ hz next
    | 12, hj => cases hj; exact lc_about Lx xs I s1 s2 (by omega) (by omega) hL i1 i2 hJ hz next
    | 13, hj => cases hj; exact lc_told Lx xs I s1 s2 (by omega) (by omega) hL i1 i2 hJ hz next
    | 14, hj => cases hj; exact lc_mark Lx xs I s1 s2 (by omega) (by omega) hL i1 i2 hJ hz next
    | 15, hj => cases hj; exact lc_fault Lx xs I s1 s2 (by omega) (by omega) hL i1 i2 hJ hz next
    | 16, hj => cases hj; exact lc_laws Lx xs I s1 s2 (by omega) (by omega) hL i1 i2 hJ hz next
    | 17, hj => cases hj; exact lc_law Lx xs I s1 s2 (by omega) (by omega) hL i1 i2 hJ hz next
    | 18, hj => cases hj; exact lc_inside Lx xs I s1 s2 (by omega) (by omega) hL i1 i2 hJ hz next
    | 19, hj => cases hj; exact lc_now Lx xs I s1 s2 (by omega) (by omega) hL i1 i2 hJ hz next
    | 20, hj => cases hj; exact lc_whose Lx xs I s1 s2 (by omega) (by omega) hL i1 i2 hJ hz next
    | 21, hj => cases hj; exact lc_owners Lx xs I s1 s2 (by omega) (by omega) hL i1 i2 hJ hz next
    | 22, hj => cases hj; exact lc_changes Lx xs I s1 s2 (by omega) (by omega) hL i1 i2 hJ hz next
    | 23, hj => cases hj; exact lc_lost Lx xs I s1 s2 (by omega) (by omega) hL i1 i2 hJ hz next
    | 24, hj => cases hj; exact lc_beside Lx xs I s1 s2 (by omega) (by omega) hL i1 i2 hJ hz next
    | 25, hj => cases hj; exact lc_undo Lx xs I s1 s2 (by omega) (by omega) hL i1 i2 hJ hz next
    | 26, hj => cases hj; exact lc_sure Lx xs I s1 s2 (by omega) (by omega) hL i1 i2 hJ hz next
    | 27, hj => cases hj; exact lc_hangs Lx xs I s1 s2 (by omega) (by omega) hL i1 i2 hJ hz next
    | 28, hj => cases hj; exact lc_sly Lx xs I s1 s2 (by omega) (by omega) hL i1 i2 hJ hz next
    | 29, hj => cases hj; exact lc_stop Lx xs I s1 s2 (by omega) (by omega) hL i1 i2 hJ hz next
    | 30, hj => cases hj; exact lc_inTime Lx xs I s1 s2 (by omega) (by omega) hL i1 i2 hJ hz next
    | 31, hj => cases hj; exact lc_heap Lx xs I s1 s2 (by omega) (by omega) hL i1 i2 hJ hz next
    | 32, hj => cases hj; exact lc_draw Lx xs I s1 s2 (by omega) (by omega) hL i1 i2 hJ hz next
    | 33, hj => cases hj; exact lc_left Lx xs I s1 s2 (by omega) (by omega) hL i1 i2 hJ hz next
    | 34, hj => cases hj; exact lc_layer Lx xs I s1 s2 (by omega) (by omega) hL i1 i2 hJ hz next
    | 35, hj => cases hj; exact lc_asked Lx xs I s1 s2 (by omega) (by omega) hL i1 i2 hJ hz next
    | 36, hj => cases hj; exact lc_upper Lx xs I s1 s2 (by omega) (by omega) hL i1 i2 hJ hz next
    | 37, hj => cases hj; exact lc_lower Lx xs I s1 s2 (by omega) (by omega) hL i1 i2 hJ hz next
    | 38, hj => cases hj; exact lc_count Lx xs I s1 s2 (by omega) (by omega) hL i1 i2 hJ hz next
    | 39, hj => cases hj; exact lc_finding Lx xs I s1 s2 (by omega) (by omega) hL i1 i2 hJ hz next
    | 40, hj => cases hj; exact lc_findings Lx xs I s1 s2 (by omega) (by omega) hL i1 i2 hJ hz next
    | 41, hj => cases hj; exact lc_digest Lx xs I s1 s2 (by omega) (by omega) hL i1 i2 hJ hz next
    | j + 42, hj => cases hj

