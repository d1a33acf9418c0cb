/-! ===== ROWS: their sizes, and what is answered by them (reference) ===== -/
abbrev rQ (Q : nk_Q) (s : nx_S) (a : Int32) : Prop := ∀ (s1 : nx_S) (r : Int32), nx_Inv gR s1 → nJ s1 → zk (zR s) (zR s1) → r = a → Q (some (.int r)) (nx_enc s1 0 shR)
theorem zk_me {s s1 : nx_S} (h : me_P s s1) : zk (zR s) (zR s1) := fun k _ => by
  unfold zR
  rw [h.1 2 (by decide)]
theorem zk_2 {s s1 : nx_S} (h : s1.1 2 = s.1 2) : zk (zR s) (zR s1) := fun k _ => by
  unfold zR
  rw [h]
set_option maxRecDepth 100000 in
theorem ir_Rx (Q : nk_Q) (s : nx_S) (v : Int32) (h1 : 0 ≤ v.toInt → v.toInt ≤ 5 → Q (some (.int 1)) (nx_enc s 0 shR)) (h2 : ¬ (0 ≤ v.toInt ∧ v.toInt ≤ 5) → Q (some (.int 0)) (nx_enc s 0 shR)) : ev_X6_isRow [.int v] (nx_enc s 0 shR) Q := by
  have a0 : (0 : Int32).toInt = 0 := rfl
  have a5 : (5 : Int32).toInt = 5 := rfl
  refine nx_s (nx_s (nx_s (nx_s ?_)))
  refine in_R _ _ v 0 5 (fun x y => ?_) (fun x => ?_)
  · refine nx_s ?_
    refine nk_bo1 ?_
    exact h1 (by omega) (by omega)
  · refine nx_s ?_
    refine nk_bo0 ?_
    exact h2 (by omega)
set_option maxRecDepth 100000 in
theorem ak_Rx (Q : nk_Q) (s : nx_S) (v : Int32) (h1 : 0 ≤ v.toInt → v.toInt ≤ 5 → 0 ≤ (s.1 2 v.toNatClampNeg).toInt → Q (some (.int 0)) (nx_enc s 0 shR)) (h2 : ¬ (0 ≤ v.toInt ∧ v.toInt ≤ 5) → Q (some (.int (-1))) (nx_enc s 0 shR)) (h3 : ∀ s1 : nx_S, me_P s s1 → 0 ≤ v.toInt → v.toInt ≤ 5 → (s.1 2 v.toNatClampNeg).toInt < 0 → Q (some (.int (-3))) (nx_enc s1 0 shR)) : ev_X6_askedRow [.ref 0, .int v] (nx_enc s 0 shR) Q := by
  have a0 : (0 : Int32).toInt = 0 := rfl
  refine nx_s (nx_s ?_)
  refine ir_Rx _ s v (fun x y => ?_) (fun hn => ?_)
  · refine nx_s ?_
    refine nk_br.f (by decide) ?_
    refine nx_s (nx_s (nx_s (nx_s ?_)))
    refine ⟨nx_in (n := 6) (by omega) (by omega), ?_⟩
    refine nx_s ?_
    refine br_le (fun e => ?_) (fun e => ?_)
    · refine nx_s (nx_s ?_)
      have e : (0 : Int32).toInt ≤ (s.1 2 v.toNatClampNeg).toInt := e
      exact h1 x y (by omega)
    · have e : (s.1 2 v.toNatClampNeg).toInt < (0 : Int32).toInt := e
      refine nx_s (nx_s (nx_s ?_))
      refine me_R _ s 1 (by decide) (by decide) (fun s1 hm => ?_)
      refine nx_s (nx_s ?_)
      exact h3 s1 hm x y (by omega)
  · refine nx_s ?_
    refine nk_br.t (by decide) ?_
    refine nx_s (nx_s (nx_s ?_))
    exact h2 hn
theorem ar_inv {s : nx_S} {v : Int32} (h : nx_Inv gR s) : nx_Inv gR (nx_uf s 0 2 v) := by
  refine ⟨fun i k b hi hb => ?_, h.2.1, h.2.2.1, ke_R.2.1 s 0 2 v (by decide) h.2.2.2⟩
  by_cases e : k.1 = 0 ∧ k.2 = 2
  · have hk : k = (0, 2) := Prod.ext e.1 e.2
    subst hk
    match i, hi, hb with
    | 0, hi, hb => cases hi
    | 1, hi, hb => cases hb; exact na_i32 _
    | 2, hi, hb => cases hi
    | 3, hi, hb => cases hi
    | 4, hi, hb => cases hi
    | 5, hi, hb => cases hi
    | 6, hi, hb => cases hi
    | 7, hi, hb => cases hi
    | 8, hi, hb => cases hi
    | i + 9, hi, hb => cases hi
  · show b.1 ≤ (if k.1 = 0 ∧ k.2 = 2 then v else s.2.2.1 k.1 k.2).toInt ∧ (if k.1 = 0 ∧ k.2 = 2 then v else s.2.2.1 k.1 k.2).toInt ≤ b.2
    rw [if_neg e]
    exact h.1 i k b hi hb
theorem nJ_uf {s : nx_S} {v : Int32} (h : nJ s) : nJ (nx_uf s 0 2 v) := h
set_option maxRecDepth 100000 in
theorem as_R (Q : nk_Q) (s : nx_S) (v r : Int32) (hq : Q (some (.int r)) (nx_enc (nx_uf s 0 2 v) 0 shR)) : ev_X6_ask [.ref 0, .int v, .int r] (nx_enc s 0 shR) Q := by
  refine nx_s (nx_s (nx_s (nx_s (nx_s ?_))))
  exact hq
set_option maxRecDepth 100000 in
set_option maxHeartbeats 4000000 in
theorem at_R (Q : nk_Q) (s : nx_S) (R I : Int32) (hInv : nx_Inv gR s) (h1 : ∀ v : Int32, 0 ≤ R.toInt → R.toInt ≤ 5 → 0 ≤ I.toInt → I.toInt < (s.1 2 R.toNatClampNeg).toInt → Q (some (.int 1)) (nx_enc (nx_uf s 0 2 v) 0 shR)) (h2 : ¬ (0 ≤ R.toInt ∧ R.toInt ≤ 5) → Q (some (.int (-1))) (nx_enc s 0 shR)) (h3 : ∀ s1 : nx_S, me_P s s1 → 0 ≤ R.toInt → R.toInt ≤ 5 → ¬ (0 ≤ (s.1 2 R.toNatClampNeg).toInt ∧ 0 ≤ I.toInt ∧ I.toInt < (s.1 2 R.toNatClampNeg).toInt) → Q (some (.int (-3))) (nx_enc s1 0 shR)) : ev_X6_at [.ref 0, .int R, .int I] (nx_enc s 0 shR) Q := by
  have a0 : (0 : Int32).toInt = 0 := rfl
  have a1 : (1 : Int32).toInt = 1 := rfl
  refine nx_s (nx_s (nx_s ?_))
  refine ak_Rx _ s R (fun r0 r1 sz => ?_) (fun hn => ?_) (fun s1 hm r0 r1 sz => ?_)
  rotate_left
  · refine nx_s (nx_s (nx_s ?_))
    refine nk_br.f (by decide) ?_
    refine nx_s (nx_s ?_)
    exact h2 hn
  · refine nx_s (nx_s (nx_s ?_))
    refine nk_br.f (by decide) ?_
    refine nx_s (nx_s ?_)
    exact h3 s1 hm r0 r1 (fun h => by omega)
  have eR : R.toInt.toNat = R.toNatClampNeg := Int32.toNat_toInt R
  have pr : (s.1 2 R.toNatClampNeg).toInt ≤ 40 := (hInv.2.1 2 6 [] rfl R.toNatClampNeg (by omega)).2
  have es : (s.1 2 R.toNatClampNeg - 1).toInt = (s.1 2 R.toNatClampNeg).toInt - 1 := by
    rw [Int32.toInt_sub, a1, na_bm (show (-2147483648 : Int) ≤ _ by omega) (show _ ≤ (2147483647 : Int) by omega)]
  refine nx_s (nx_s (nx_s ?_))
  refine nk_br.t (by decide) ?_
  refine nx_s (nx_s (nx_s (nx_s (nx_s (nx_s ?_)))))
  refine ⟨nx_in (n := 6) (by omega) (by omega), ?_⟩
  refine nx_s (nx_s (nx_s ?_))
  refine in_R _ _ I 0 (s.1 2 R.toNatClampNeg - 1) (fun x y => ?_) (fun x => ?_)
  · refine nx_s ?_
    refine nk_br.f (by decide) ?_
    refine nx_s (nx_s (nx_s (nx_s (nx_s ?_))))
    refine ra_R _ s R I r0 r1 (by omega) (by omega) ?_
    refine nx_s (nx_s ?_)
    refine as_R _ s _ 1 ?_
    refine nx_s (nx_s ?_)
    exact h1 _ r0 r1 (by omega) (by omega)
  · refine nx_s ?_
    refine nk_br.t (by decide) ?_
    refine nx_s (nx_s (nx_s ?_))
    refine me_R _ s 2 (by decide) (by decide) (fun s1 hm => ?_)
    refine nx_s ?_
    exact h3 s1 hm r0 r1 (by omega)
theorem zR_e {s : nx_S} {R : Int32} (r0 : 0 ≤ R.toInt) : zR s R.toInt.toNat = (s.1 2 R.toNatClampNeg).toInt := by
  have eR : R.toInt.toNat = R.toNatClampNeg := Int32.toNat_toInt R
  unfold zR
  rw [eR]
theorem at_Rx (Q : nk_Q) (s : nx_S) (R I : Int32) (hInv : nx_Inv gR s) (hJ : nJ s) (hq : rQ Q s (f_place (zR s) R I)) : ev_X6_at [.ref 0, .int R, .int I] (nx_enc s 0 shR) Q := by
  refine at_R Q s R I hInv (fun v r0 r1 i0 i1 => ?_) (fun hn => ?_) (fun s1 hm r0 r1 hn => ?_)
  · refine hq _ _ (ar_inv hInv) (nJ_uf hJ) (zk_rf _) ?_
    unfold f_place
    rw [if_pos ⟨r0, r1⟩, zR_e r0, if_pos ⟨by omega, i0, i1⟩]
  · refine hq s _ hInv hJ (zk_rf _) ?_
    unfold f_place
    rw [if_neg hn]
  · refine hq s1 _ (me_inv hInv hm) (nJ_me hJ hm) (zk_me hm) ?_
    unfold f_place
    rw [if_pos ⟨r0, r1⟩, zR_e r0, if_neg hn]
set_option maxRecDepth 100000 in
set_option maxHeartbeats 4000000 in
theorem la_Rx (Q : nk_Q) (s : nx_S) (R I V : Int32) (hInv : nx_Inv gR s) (hJ : nJ s) (hq : rQ Q s (f_place (zR s) R I)) : ev_X6_lay [.ref 0, .int R, .int I, .int V] (nx_enc s 0 shR) Q := by
  refine nx_s (nx_s (nx_s (nx_s ?_)))
  refine at_R _ s R I hInv (fun v r0 r1 i0 i1 => ?_) (fun hn => ?_) (fun s1 hm r0 r1 hn => ?_)
  · have eR : R.toInt.toNat = R.toNatClampNeg := Int32.toNat_toInt R
    have pr : (s.1 2 R.toNatClampNeg).toInt ≤ 40 := (hInv.2.1 2 6 [] rfl R.toNatClampNeg (by omega)).2
    have e := (i_40 r0 r1 i0 (show I.toInt ≤ 39 by omega)).2
    refine nx_s (nx_s (nx_s ?_))
    refine nk_br.t (by decide) ?_
    refine nx_s (nx_s (nx_s (nx_s (nx_s (nx_s (nx_s (nx_s (nx_s ?_))))))))
    refine ⟨nx_in (n := 240) (by omega) (by omega), ?_⟩
    refine nx_s (nx_s ?_)
    refine hq _ _ (cp_inv (ar_inv hInv) ⟨fun q h3 h4 => if_neg h3, rfl⟩) hJ (zk_rf _) ?_
    unfold f_place
    rw [if_pos ⟨r0, r1⟩, zR_e r0, if_pos ⟨by omega, i0, i1⟩]
  · refine nx_s (nx_s (nx_s ?_))
    refine nk_br.f (by decide) ?_
    refine nx_s (nx_s ?_)
    refine hq s _ hInv hJ (zk_rf _) ?_
    unfold f_place
    rw [if_neg hn]
  · refine nx_s (nx_s (nx_s ?_))
    refine nk_br.f (by decide) ?_
    refine nx_s (nx_s ?_)
    refine hq s1 _ (me_inv hInv hm) (nJ_me hJ hm) (zk_me hm) ?_
    unfold f_place
    rw [if_pos ⟨r0, r1⟩, zR_e r0, if_neg hn]
theorem tz_inv {s : nx_S} {k : Nat} {v : Int32} (h : nx_Inv gR s) (v0 : -9 ≤ v.toInt) (v1 : v.toInt ≤ 40) : nx_Inv gR (nx_ui s 2 (upd (s.1 2) k v)) := by
  refine ⟨h.1, fun q n l hq i hi => ?_, h.2.2.1, ke_R.1 s 2 _ (by decide) h.2.2.2⟩
  by_cases e : q = 2
  · subst e
    show (-9 : Int) ≤ (upd (s.1 2) k v i).toInt ∧ (upd (s.1 2) k v i).toInt ≤ 40
    by_cases ei : i = k
    · rw [ei, upd_s]
      exact ⟨v0, v1⟩
    · rw [upd_n _ _ ei]
      exact h.2.1 2 n l hq i hi
  · have e2 : (nx_ui s 2 (upd (s.1 2) k v)).1 q = s.1 q := if_neg e
    rw [e2]
    exact h.2.1 q n l hq i hi
set_option maxRecDepth 100000 in
set_option maxHeartbeats 4000000 in
theorem te_Rx (Q : nk_Q) (s : nx_S) (R : Int32) (hInv : nx_Inv gR s) (hJ : nJ s) (hq : ∀ (s1 : nx_S) (r : Int32), nx_Inv gR s1 → nJ s1 → zk (ztear (zR s) R (-9)) (zR s1) → r = f_tear (zR s) R → Q (some (.int r)) (nx_enc s1 0 shR)) : ev_X6_tear [.ref 0, .int R] (nx_enc s 0 shR) Q := by
  refine nx_s (nx_s (nx_s ?_))
  refine ak_Rx _ s R (fun r0 r1 sz => ?_) (fun hn => ?_) (fun s1 hm r0 r1 sz => ?_)
  rotate_left
  · refine nx_s (nx_s (nx_s ?_))
    refine nk_br.f (by decide) ?_
    refine nx_s (nx_s ?_)
    exact hq s _ hInv hJ (fun k hk => by unfold ztear; rw [if_neg (fun h => hn h.1.1)]) (by unfold f_tear; rw [if_neg hn])
  · refine nx_s (nx_s (nx_s ?_))
    refine nk_br.f (by decide) ?_
    refine nx_s (nx_s ?_)
    have ez := zR_e (s := s) r0
    exact hq s1 _ (me_inv hInv hm) (nJ_me hJ hm) (fun k hk => by unfold ztear; rw [if_neg (fun h => by omega)]; exact zk_me hm k hk) (by unfold f_tear; rw [if_pos ⟨r0, r1⟩, if_neg (by omega)])
  have eR : R.toInt.toNat = R.toNatClampNeg := Int32.toNat_toInt R
  have ez := zR_e (s := s) r0
  refine nx_s (nx_s (nx_s ?_))
  refine nk_br.t (by decide) ?_
  refine nx_s (nx_s (nx_s (nx_s (nx_s ?_))))
  refine ⟨nx_in (n := 6) (by omega) (by omega), ?_⟩
  refine nx_s (nx_s ?_)
  refine hq _ _ (tz_inv hInv (by decide) (by decide)) hJ (fun k hk => ?_) (by unfold f_tear; rw [if_pos ⟨r0, r1⟩, if_pos (by omega)])
  unfold ztear
  show (upd (s.1 2) R.toNatClampNeg (-9) k).toInt = _
  by_cases ek : k = R.toInt.toNat
  · rw [if_pos ⟨⟨⟨r0, r1⟩, by omega⟩, ek⟩, ek, eR, upd_s]
    rfl
  · rw [if_neg (fun h => ek h.2), upd_n _ _ (by omega)]
    rfl
set_option maxRecDepth 100000 in
theorem rl_R (Q : nk_Q) (s : nx_S) (R N : Int32) (r0 : 0 ≤ R.toInt) (r1 : R.toInt ≤ 5) (hq : ∀ s1 : nx_S, cp_P s s1 → Q (some (.int N)) (nx_enc s1 0 shR)) : ∀ (n i : Nat) (I : Int32) (s1 : nx_S), i + n = 40 → I.toInt = i → cp_P s s1 → nk_wp kx_X6_row kc_X6_row Q 34 [some (.ref 0), some (.int R), some (.int N), some (.int I)] [] (nx_enc s1 0 shR) 0 0 := by
  have h40 : (40 : Int32).toInt = 40 := rfl
  have h1 : (1 : Int32).toInt = 1 := rfl
  intro n
  induction n with
  | zero =>
    intro i I s1 hi hI hp
    refine nx_s (nx_s (nx_s ?_))
    refine nk_br.t (i_le (by omega)) ?_
    refine nx_s (nx_s ?_)
    exact hq s1 hp
  | succ n ih =>
    intro i I s1 hi hI hp
    have e1 : (I + 1).toInt = ((i + 1 : Nat) : Int) := by
      rw [i_add (by omega) (by omega)]
      omega
    have e := (i_40 r0 r1 (show 0 ≤ I.toInt by omega) (show I.toInt ≤ 39 by omega)).2
    refine nx_s (nx_s (nx_s ?_))
    refine nk_br.f (i_nle (by omega)) ?_
    refine nx_s (nx_s (nx_s (nx_s (nx_s (nx_s (nx_s (nx_s (nx_s ?_))))))))
    refine ⟨nx_in (n := 240) (by omega) (by omega), ?_⟩
    refine nx_s (nx_s ?_)
    exact ih (i + 1) (I + 1) _ (by omega) e1 (cp_st hp 3 (Or.inl rfl) _)
set_option maxRecDepth 100000 in
set_option maxHeartbeats 4000000 in
theorem ro_Rx (Q : nk_Q) (s : nx_S) (R N : Int32) (hInv : nx_Inv gR s) (hJ : nJ s) (hq : ∀ (s1 : nx_S) (r : Int32), nx_Inv gR s1 → nJ s1 → zk (zrow (zR s) R N) (zR s1) → r = f_row R N → Q (some (.int r)) (nx_enc s1 0 shR)) : ev_X6_row [.ref 0, .int R, .int N] (nx_enc s 0 shR) Q := by
  have h40 : (40 : Int32).toInt = 40 := rfl
  have h0 : (0 : Int32).toInt = 0 := rfl
  have bad : ¬ ((0 ≤ R.toInt ∧ R.toInt ≤ 5) ∧ N.toInt ≤ 40) → nk_wp kx_X6_row kc_X6_row Q 13 [some (.ref 0), some (.int R), some (.int N), none] [] (nx_enc s 0 shR) 0 0 := by
    intro hn
    refine nx_s (nx_s ?_)
    exact hq s _ hInv hJ (fun k hk => by unfold zrow; rw [if_neg (fun h => by omega)]) (by unfold f_row; rw [if_neg hn])
  refine nx_s (nx_s ?_)
  refine ir_Rx _ s R (fun r0 r1 => ?_) (fun hn => ?_)
  rotate_left
  · refine nx_s ?_
    refine nk_br.t (by decide) ?_
    exact bad (fun h => hn h.1)
  refine nx_s ?_
  refine nk_br.f (by decide) ?_
  refine nx_s (nx_s (nx_s ?_))
  refine br_le (fun n1 => ?_) (fun n1 => ?_)
  rotate_left
  · exact bad (by omega)
  refine nx_s (nx_s ?_)
  refine br_le (fun n0 => ?_) (fun n0 => ?_)
  rotate_left
  · refine nx_s (nx_s (nx_s ?_))
    refine me_R _ s 5 (by decide) (by decide) (fun s1 hm => ?_)
    refine nx_s ?_
    exact hq s1 _ (me_inv hInv hm) (nJ_me hJ hm) (fun k hk => by unfold zrow; rw [if_neg (fun h => by omega)]; exact zk_me hm k hk) (by unfold f_row; rw [if_pos ⟨⟨r0, r1⟩, by omega⟩, if_pos (by omega)])
  have eR : R.toInt.toNat = R.toNatClampNeg := Int32.toNat_toInt R
  refine nx_s (nx_s (nx_s (nx_s (nx_s ?_))))
  refine ⟨nx_in (n := 6) (by omega) (by omega), ?_⟩
  refine nx_s (nx_s ?_)
  refine rl_R Q (nx_ui s 2 (upd (s.1 2) R.toNatClampNeg N)) R N r0 r1 (fun s1 hp => ?_) 40 0 0 _ rfl rfl ⟨fun _ _ _ => rfl, rfl⟩
  have hI2 := cp_inv (tz_inv (k := R.toNatClampNeg) hInv (show -9 ≤ N.toInt by omega) (show N.toInt ≤ 40 by omega)) hp
  refine hq s1 _ hI2 (nJ_s hJ (by rw [hp.2]; rfl) (by rw [hp.2]; exact Int.le_refl _)) (fun k hk => ?_) (by unfold f_row; rw [if_pos ⟨⟨r0, r1⟩, by omega⟩, if_neg (by omega)])
  have e2 : s1.1 2 = upd (s.1 2) R.toNatClampNeg N := hp.1 2 (by decide) (by decide)
  unfold zrow zR
  rw [e2]
  by_cases ek : k = R.toInt.toNat
  · rw [if_pos ⟨⟨⟨r0, r1⟩, by omega, by omega⟩, ek⟩, ek, eR, upd_s]
  · rw [if_neg (fun h => ek h.2), upd_n _ _ (by omega)]
set_option maxRecDepth 100000 in
theorem ml_R (Q : nk_Q) (s : nx_S) (R B : Int32) (k : Nat) (r0 : 0 ≤ R.toInt) (r1 : R.toInt ≤ 5) (hk : (s.1 2 R.toNatClampNeg).toInt = k) (hk4 : k ≤ 40) (hq : ∀ (Y : Int64) (I : Int32), nk_wp kx_X6_mean kc_X6_mean Q 45 [some (.ref 0), some (.int R), some (.int B), some (.long Y), none, some (.int I)] [] (nx_enc s 0 shR) 0 0) : ∀ (n i : Nat) (I : Int32) (Y : Int64), i + n = k → I.toInt = i → nk_wp kx_X6_mean kc_X6_mean Q 17 [some (.ref 0), some (.int R), some (.int B), some (.long Y), none, some (.int I)] [] (nx_enc s 0 shR) 0 0 := by
  have h1 : (1 : Int32).toInt = 1 := rfl
  intro n
  induction n with
  | zero =>
    intro i I Y hi hI
    refine nx_s (nx_s (nx_s (nx_s (nx_s ?_))))
    refine ⟨nx_in (n := 6) (by omega) (by omega), ?_⟩
    refine nx_s ?_
    refine nk_br.t (i_le (show (s.1 2 R.toNatClampNeg).toInt ≤ I.toInt by omega)) ?_
    exact hq Y I
  | succ n ih =>
    intro i I Y hi hI
    have e1 : (I + 1).toInt = ((i + 1 : Nat) : Int) := by
      rw [i_add (by omega) (by omega)]
      omega
    refine nx_s (nx_s (nx_s (nx_s (nx_s ?_))))
    refine ⟨nx_in (n := 6) (by omega) (by omega), ?_⟩
    refine nx_s ?_
    refine nk_br.f (i_nle (show I.toInt < (s.1 2 R.toNatClampNeg).toInt by omega)) ?_
    refine nx_s (nx_s (nx_s (nx_s (nx_s ?_))))
    refine ra_R _ s R I r0 r1 (by omega) (by omega) ?_
    refine nx_s (nx_s (nx_s (nx_s (nx_s ?_))))
    exact ih (i + 1) (I + 1) _ (by omega) e1
set_option maxRecDepth 100000 in
set_option maxHeartbeats 4000000 in
theorem me_Rx (Q : nk_Q) (s : nx_S) (R : Int32) (hInv : nx_Inv gR s) (hJ : nJ s) (hq : rQ Q s (f_mean (zR s) R)) : ev_X6_mean [.ref 0, .int R] (nx_enc s 0 shR) Q := by
  have h0 : (0 : Int32).toInt = 0 := rfl
  refine nx_s (nx_s (nx_s ?_))
  refine ak_Rx _ s R (fun r0 r1 sz => ?_) (fun hn => ?_) (fun s1 hm r0 r1 sz => ?_)
  rotate_left
  · refine nx_s (nx_s (nx_s ?_))
    refine nk_br.f (by decide) ?_
    refine nx_s (nx_s ?_)
    exact hq s _ hInv hJ (zk_rf _) (by unfold f_mean; rw [if_neg hn])
  · refine nx_s (nx_s (nx_s ?_))
    refine nk_br.f (by decide) ?_
    refine nx_s (nx_s ?_)
    exact hq s1 _ (me_inv hInv hm) (nJ_me hJ hm) (zk_me hm) (by unfold f_mean; rw [if_pos ⟨r0, r1⟩, zR_e r0, if_neg (by omega)])
  have eR : R.toInt.toNat = R.toNatClampNeg := Int32.toNat_toInt R
  have pr : (s.1 2 R.toNatClampNeg).toInt ≤ 40 := (hInv.2.1 2 6 [] rfl R.toNatClampNeg (by omega)).2
  refine nx_s (nx_s (nx_s ?_))
  refine nk_br.t (by decide) ?_
  refine nx_s (nx_s (nx_s (nx_s ?_)))
  refine ml_R Q s R _ (s.1 2 R.toNatClampNeg).toInt.toNat r0 r1 (by omega) (by omega) (fun Y I => ?_) (s.1 2 R.toNatClampNeg).toInt.toNat 0 0 _ (by omega) rfl
  refine nx_s (nx_s (nx_s (nx_s ?_)))
  refine ⟨nx_in (n := 6) (by omega) (by omega), ?_⟩
  refine nx_s ?_
  refine br_eq (fun e => ?_) (fun e => ?_)
  · have e : (s.1 2 R.toNatClampNeg).toInt = (0 : Int32).toInt := e
    refine nx_s (nx_s (nx_s ?_))
    refine me_R _ s 4 (by decide) (by decide) (fun s1 hm => ?_)
    refine nx_s (nx_s ?_)
    exact hq s1 _ (me_inv hInv hm) (nJ_me hJ hm) (zk_me hm) (by unfold f_mean; rw [if_pos ⟨r0, r1⟩, zR_e r0, if_neg (by omega)])
  · have e : (s.1 2 R.toNatClampNeg).toInt ≠ (0 : Int32).toInt := e
    refine nx_s (nx_s (nx_s (nx_s (nx_s (nx_s ?_)))))
    refine ⟨nx_in (n := 6) (by omega) (by omega), ?_⟩
    refine nx_s (nx_s ?_)
    refine ⟨ld_nz (show (s.1 2 R.toNatClampNeg).toInt ≠ 0 by omega), ?_⟩
    refine nx_s (nx_s (nx_s ?_))
    refine as_R _ s _ 1 ?_
    refine nx_s ?_
    exact hq _ _ (ar_inv hInv) (nJ_uf hJ) (zk_rf _) (by unfold f_mean; rw [if_pos ⟨r0, r1⟩, zR_e r0, if_pos (by omega)])
set_option maxRecDepth 100000 in
set_option maxHeartbeats 4000000 in
theorem cp_Rx (Q : nk_Q) (s : nx_S) (R I T J N : Int32) (hInv : nx_Inv gR s) (hJ : nJ s) (hq : rQ Q s (f_copy (zR s) R I T J N)) : ev_X6_copy [.ref 0, .int R, .int I, .int T, .int J, .int N] (nx_enc s 0 shR) Q := by
  have a0 : (0 : Int32).toInt = 0 := rfl
  have no : ¬ ((0 ≤ R.toInt ∧ R.toInt ≤ 5) ∧ (0 ≤ T.toInt ∧ T.toInt ≤ 5)) → nk_wp kx_X6_copy kc_X6_copy Q 14 [some (.ref 0), some (.int R), some (.int I), some (.int T), some (.int J), some (.int N), none] [] (nx_enc s 0 shR) 0 0 := by
    intro hn
    refine nx_s (nx_s ?_)
    exact hq s (-1) hInv hJ (zk_rf _) (by unfold f_copy; rw [if_neg hn])
  refine nx_s (nx_s ?_)
  refine ir_Rx _ s R (fun r0 r1 => ?_) (fun hn => ?_)
  rotate_left
  · refine nx_s ?_
    refine nk_br.t (by decide) ?_
    exact no (fun h => by omega)
  refine nx_s ?_
  refine nk_br.f (by decide) ?_
  refine nx_s (nx_s ?_)
  refine ir_Rx _ s T (fun t0 t1 => ?_) (fun hn => ?_)
  rotate_left
  · refine nx_s ?_
    refine nk_br.t (by decide) ?_
    exact no (fun h => by omega)
  refine nx_s ?_
  refine nk_br.f (by decide) ?_
  have hRT : (0 ≤ R.toInt ∧ R.toInt ≤ 5) ∧ (0 ≤ T.toInt ∧ T.toInt ≤ 5) := ⟨⟨r0, r1⟩, t0, t1⟩
  unfold f_copy at hq
  rw [if_pos hRT, zR_e r0, zR_e t0] at hq
  have me : ¬ (0 ≤ N.toInt ∧ (0 ≤ (s.1 2 R.toNatClampNeg).toInt ∧ 0 ≤ (s.1 2 T.toNatClampNeg).toInt) ∧ (0 ≤ I.toInt ∧ I.toInt + N.toInt ≤ (s.1 2 R.toNatClampNeg).toInt) ∧ 0 ≤ J.toInt ∧ J.toInt + N.toInt ≤ (s.1 2 T.toNatClampNeg).toInt) → ∀ (f : Int32) (L : nk_Ls) (pc : Nat), 0 ≤ f.toInt → f.toInt ≤ 5 → kc_X6_copy pc = some (.ireturn, 1, pc + 1, [], 0) → ev_X6_meets [.ref 0, .int f] (nx_enc s 0 shR) (fun v h' => nk_ret v [] (fun T' => nk_wp kx_X6_copy kc_X6_copy Q pc L T' h' 0 0)) := by
    intro hc f L pc h0 h5 hk
    refine me_R _ s f h0 h5 (fun s1 hm => ?_)
    refine nk_s ?_
    unfold nk_at
    rw [hk]
    exact hq s1 (-3) (me_inv hInv hm) (nJ_me hJ hm) (zk_me hm) (by rw [if_neg hc])
  refine nx_s (nx_s ?_)
  refine br_le (fun n0 => ?_) (fun n0 => ?_)
  rotate_left
  · refine nx_s (nx_s (nx_s ?_))
    exact me (fun h => by omega) 5 _ 26 (by decide) (by decide) rfl
  have pr := hInv.2.1 2 6 [] rfl R.toNatClampNeg (by have : R.toInt.toNat = R.toNatClampNeg := Int32.toNat_toInt R; omega)
  have pt := hInv.2.1 2 6 [] rfl T.toNatClampNeg (by have : T.toInt.toNat = T.toNatClampNeg := Int32.toNat_toInt T; omega)
  have pr1 : (s.1 2 R.toNatClampNeg).toInt ≤ 40 := pr.2
  have pt1 : (s.1 2 T.toNatClampNeg).toInt ≤ 40 := pt.2
  have eR : (s.1 2 R.toNatClampNeg).toInt64.toInt = (s.1 2 R.toNatClampNeg).toInt := Int32.toInt_toInt64 _
  have eT : (s.1 2 T.toNatClampNeg).toInt64.toInt = (s.1 2 T.toNatClampNeg).toInt := Int32.toInt_toInt64 _
  have bad : ¬ (0 ≤ N.toInt ∧ (0 ≤ (s.1 2 R.toNatClampNeg).toInt ∧ 0 ≤ (s.1 2 T.toNatClampNeg).toInt) ∧ (0 ≤ I.toInt ∧ I.toInt + N.toInt ≤ (s.1 2 R.toNatClampNeg).toInt) ∧ 0 ≤ J.toInt ∧ J.toInt + N.toInt ≤ (s.1 2 T.toNatClampNeg).toInt) → nk_wp kx_X6_copy kc_X6_copy Q 95 [some (.ref 0), some (.int R), some (.int I), some (.int T), some (.int J), some (.int N), none] [] (nx_enc s 0 shR) 0 0 := by
    intro hc
    refine nx_s (nx_s (nx_s ?_))
    exact me hc 2 _ 100 (by decide) (by decide) rfl
  have non : ¬ (0 ≤ N.toInt ∧ (0 ≤ (s.1 2 R.toNatClampNeg).toInt ∧ 0 ≤ (s.1 2 T.toNatClampNeg).toInt) ∧ (0 ≤ I.toInt ∧ I.toInt + N.toInt ≤ (s.1 2 R.toNatClampNeg).toInt) ∧ 0 ≤ J.toInt ∧ J.toInt + N.toInt ≤ (s.1 2 T.toNatClampNeg).toInt) → nk_wp kx_X6_copy kc_X6_copy Q 45 [some (.ref 0), some (.int R), some (.int I), some (.int T), some (.int J), some (.int N), none] [] (nx_enc s 0 shR) 0 0 := by
    intro hc
    refine nx_s (nx_s (nx_s ?_))
    exact me hc 1 _ 50 (by decide) (by decide) rfl
  refine nx_s (nx_s (nx_s (nx_s ?_)))
  refine ⟨nx_in (n := 6) (by omega) (by omega), ?_⟩
  refine nx_s ?_
  refine br_lt (fun z1 => non (fun h => by have z1 : (s.1 2 R.toNatClampNeg).toInt < (0 : Int32).toInt := z1; omega)) (fun z1 => ?_)
  have z1 : (0 : Int32).toInt ≤ (s.1 2 R.toNatClampNeg).toInt := z1
  refine nx_s (nx_s (nx_s (nx_s ?_)))
  refine ⟨nx_in (n := 6) (by omega) (by omega), ?_⟩
  refine nx_s ?_
  refine br_le (fun z2 => ?_) (fun z2 => non (fun h => by have z2 : (s.1 2 T.toNatClampNeg).toInt < (0 : Int32).toInt := z2; omega))
  have z2 : (0 : Int32).toInt ≤ (s.1 2 T.toNatClampNeg).toInt := z2
  refine nx_s (nx_s ?_)
  refine br_lt (fun i0 => bad (fun h => by omega)) (fun i0 => ?_)
  refine nx_s (nx_s ?_)
  refine br_lt (fun j0 => bad (fun h => by omega)) (fun j0 => ?_)
  refine nx_s (nx_s (nx_s (nx_s (nx_s (nx_s (nx_s (nx_s (nx_s ?_))))))))
  refine ⟨nx_in (n := 6) (by omega) (by omega), ?_⟩
  refine nx_s (nx_s (nx_s ?_))
  show nk_br (0 < lg_cmp (I.toInt64 + N.toInt64) (s.1 2 R.toNatClampNeg).toInt64) _ _
  by_cases hi : I.toInt + N.toInt ≤ (s.1 2 R.toNatClampNeg).toInt
  rotate_left
  · refine nk_br.t (ll_cg2.2 (by rw [ll_i2, eR]; omega)) ?_
    exact bad (fun h => by omega)
  refine nk_br.f (ll_cg2.1 (by rw [ll_i2, eR]; exact hi)) ?_
  refine nx_s (nx_s (nx_s (nx_s (nx_s (nx_s (nx_s (nx_s (nx_s ?_))))))))
  refine ⟨nx_in (n := 6) (by omega) (by omega), ?_⟩
  refine nx_s (nx_s (nx_s ?_))
  show nk_br (lg_cmp (J.toInt64 + N.toInt64) (s.1 2 T.toNatClampNeg).toInt64 ≤ 0) _ _
  by_cases hj : J.toInt + N.toInt ≤ (s.1 2 T.toNatClampNeg).toInt
  rotate_left
  · refine nk_br.f (ll_cl.2 (by rw [ll_i2, eT]; omega)) ?_
    exact bad (fun h => by omega)
  refine nk_br.t (ll_cl.1 (by rw [ll_i2, eT]; exact hj)) ?_
  refine nx_s (nx_s ?_)
  exact cp_l1 Q s R I T J N N.toInt.toNat (by omega) r0 r1 (by omega) (by omega) t0 t1 (by omega) (by omega) (fun s1 h1 => hq s1 1 (cp_inv hInv h1) (nJ_s hJ (by rw [h1.2]) (by rw [h1.2]; exact Int.le_refl _)) (zk_2 (h1.1 2 (by decide) (by decide))) (by rw [if_pos ⟨by omega, ⟨by omega, by omega⟩, ⟨by omega, by omega⟩, by omega, by omega⟩])) N.toInt.toNat 0 0 s (by omega) rfl ⟨fun _ _ _ => rfl, rfl⟩
