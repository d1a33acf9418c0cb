/-! ===== ROWS: their sizes, and what is answered by them (class) ===== -/
noncomputable def zC (s : nx_S) (r : Nat) : Int := (s.2.2.1 (29 + 2 * r) 1).toInt
noncomputable def zR (s : nx_S) (r : Nat) : Int := (s.1 2 r).toInt
noncomputable def f_place (z : Nat → Int) (r i : Int32) : Int32 := if 0 ≤ r.toInt ∧ r.toInt ≤ 5 then (if 0 ≤ z r.toInt.toNat ∧ 0 ≤ i.toInt ∧ i.toInt < z r.toInt.toNat then 1 else -3) else -1
noncomputable def f_tear (z : Nat → Int) (r : Int32) : Int32 := if 0 ≤ r.toInt ∧ r.toInt ≤ 5 then (if 0 ≤ z r.toInt.toNat then 1 else -3) else -1
noncomputable def f_mean (z : Nat → Int) (r : Int32) : Int32 := if 0 ≤ r.toInt ∧ r.toInt ≤ 5 then (if 0 < z r.toInt.toNat then 1 else -3) else -1
noncomputable def f_copy (z : Nat → Int) (r i t j n : Int32) : Int32 := if (0 ≤ r.toInt ∧ r.toInt ≤ 5) ∧ (0 ≤ t.toInt ∧ t.toInt ≤ 5) then (if 0 ≤ n.toInt ∧ (0 ≤ z r.toInt.toNat ∧ 0 ≤ z t.toInt.toNat) ∧ (0 ≤ i.toInt ∧ i.toInt + n.toInt ≤ z r.toInt.toNat) ∧ 0 ≤ j.toInt ∧ j.toInt + n.toInt ≤ z t.toInt.toNat then 1 else -3) else -1
noncomputable def f_row (r n : Int32) : Int32 := if (0 ≤ r.toInt ∧ r.toInt ≤ 5) ∧ n.toInt ≤ 40 then (if n.toInt < 0 then -3 else n) else -1
/-- the sizes stay -/
noncomputable def zk (f g : Nat → Int) : Prop := ∀ k : Nat, k < 6 → g k = f k
/-- the sizes behind row -/
noncomputable def zrow (z : Nat → Int) (r n : Int32) (k : Nat) : Int := if ((0 ≤ r.toInt ∧ r.toInt ≤ 5) ∧ 0 ≤ n.toInt ∧ n.toInt ≤ 40) ∧ k = r.toInt.toNat then n.toInt else z k
noncomputable def ztear (z : Nat → Int) (r : Int32) (c : Int) (k : Nat) : Int := if ((0 ≤ r.toInt ∧ r.toInt ≤ 5) ∧ 0 ≤ z r.toInt.toNat) ∧ k = r.toInt.toNat then c else z k
theorem nx_iw {sh : List nx_C} {X : nk_T} {kc : Nat → Option nk_I} {Q : nk_Q} {pc : Nat} {L : nk_Ls} {S : List Value} {s : nx_S} {q n nx m : Nat} {tg l : List Nat} {lit i v : Int32} (hk : kc pc = some (Instr.iastore, n, nx, tg, lit)) (hq : nk_lg sh q = some (.inr (0, m, l))) (hb : vp_in i m) (h : nk_wp X kc Q nx L S (nx_enc (nx_ui s q (upd (s.1 q) i.toNatClampNeg v)) 0 sh) 0 0) : nk_wp X kc Q pc L (.int v :: .int i :: .ref q :: S) (nx_enc s 0 sh) 0 0 := by
  refine nx_s ?_
  unfold nx_at
  rw [hk]
  show nx_ai sh q 0 (fun n _ => vp_in i n ∧ nk_wp X kc Q nx L S (nx_enc (nx_ui s q (upd (s.1 q) i.toNatClampNeg v)) 0 sh) 0 0)
  unfold nx_ai
  rw [hq]
  exact ⟨hb, h⟩
theorem nx_pq {sh : List nx_C} {X : nk_T} {kc : Nat → Option nk_I} {Q : nk_Q} {pc : Nat} {L : nk_Ls} {S : List Value} {s : nx_S} {q x n nx a b : Nat} {tg : List Nat} {lit v : Int32} {sl : List Nat} (hk : kc pc = some (Instr.putfield x, n, nx, tg, lit)) (hx : nk_lk X.1 x = some (a, b, 0)) (hq : nk_lg sh q = some (.inl (a, sl))) (hf : nk_lg sl b = some 0) (h : nk_wp X kc Q nx L S (nx_enc (nx_uf s q b v) 0 sh) 0 0) : nk_wp X kc Q pc L (.int v :: .ref q :: S) (nx_enc s 0 sh) 0 0 := by
  refine nx_s ?_
  unfold nx_at
  rw [hk]
  show nk_sm (nk_lk X.1 x) _
  rw [hx]
  refine (nx_obm hq ?_ : nx_ob sh q a (fun sl => nk_sm (nk_lg sl b) (fun k => nx_put 0 k (.int v) (fun x => nk_wp X kc Q nx L S (nx_enc (nx_uf s q b x) 0 sh) 0 0) (fun y => nk_wp X kc Q nx L S (nx_enc (nx_ug s q b y) 0 sh) 0 0))))
  rw [hf]
  exact h
theorem rq_ey {s : nx_S} (hInv : nx_Inv gC s) {R : Int32} (h0 : 0 ≤ R.toInt) (h1 : R.toInt ≤ 5) : nk_lg [29, 31, 33, 35, 37, 39] R.toNatClampNeg = some (29 + 2 * R.toInt.toNat) ∧ rq_C s (29 + 2 * R.toInt.toNat) := by
  rcases sp6 h0 (by omega) with rfl | rfl | rfl | rfl | rfl | rfl
  · exact ⟨rfl, rfl, rfl, by decide, hInv.1 16 (29, 1) (-1, 40) rfl rfl⟩
  · exact ⟨rfl, rfl, rfl, by decide, hInv.1 17 (31, 1) (-1, 40) rfl rfl⟩
  · exact ⟨rfl, rfl, rfl, by decide, hInv.1 18 (33, 1) (-1, 40) rfl rfl⟩
  · exact ⟨rfl, rfl, rfl, by decide, hInv.1 19 (35, 1) (-1, 40) rfl rfl⟩
  · exact ⟨rfl, rfl, rfl, by decide, hInv.1 20 (37, 1) (-1, 40) rfl rfl⟩
  · exact ⟨rfl, rfl, rfl, by decide, hInv.1 21 (39, 1) (-1, 40) rfl rfl⟩
theorem zf_b {r i : Nat} {b : Int × Int} (hr : r < 6) (hi : gC.2.1[i]? = some (29 + 2 * r, 1)) (hb : gC.2.2.1[i]? = some b) : b = (-1, 40) := by
  have key : ∀ (j : Nat) (k : Nat × Nat), gC.2.1[j]? = some k → gC.2.1[i]? = some k → i = j := fun j k h1 h2 => (List.getElem?_inj (List.getElem?_eq_some_iff.mp h2).1 ndk_C).mp (h2.trans h1.symm)
  match r, hr with
  | 0, _ => have e := key 16 (29, 1) rfl hi; subst e; cases hb; rfl
  | 1, _ => have e := key 17 (31, 1) rfl hi; subst e; cases hb; rfl
  | 2, _ => have e := key 18 (33, 1) rfl hi; subst e; cases hb; rfl
  | 3, _ => have e := key 19 (35, 1) rfl hi; subst e; cases hb; rfl
  | 4, _ => have e := key 20 (37, 1) rfl hi; subst e; cases hb; rfl
  | 5, _ => have e := key 21 (39, 1) rfl hi; subst e; cases hb; rfl
  | r + 6, hr => omega
theorem zf_inv {s : nx_S} {r : Nat} {v : Int32} (h : nx_Inv gC s) (hr : r < 6) (v0 : -1 ≤ v.toInt) (v1 : v.toInt ≤ 40) : nx_Inv gC (nx_uf s (29 + 2 * r) 1 v) := by
  refine ⟨fun i k b hi hb => ?_, h.2.1, h.2.2.1, trivial⟩
  by_cases e : k.1 = 29 + 2 * r ∧ k.2 = 1
  · have hk : k = (29 + 2 * r, 1) := Prod.ext e.1 e.2
    subst hk
    have hb2 := zf_b hr hi hb
    subst hb2
    show -1 ≤ (if 29 + 2 * r = 29 + 2 * r ∧ 1 = 1 then v else _).toInt ∧ (if 29 + 2 * r = 29 + 2 * r ∧ 1 = 1 then v else _).toInt ≤ 40
    rw [if_pos ⟨rfl, rfl⟩]
    exact ⟨v0, v1⟩
  · show b.1 ≤ (if k.1 = 29 + 2 * r ∧ k.2 = 1 then v else s.2.2.1 k.1 k.2).toInt ∧ (if k.1 = 29 + 2 * r ∧ k.2 = 1 then v else s.2.2.1 k.1 k.2).toInt ≤ b.2
    rw [if_neg e]
    exact h.1 i k b hi hb
theorem af_inv {s : nx_S} {v : Int32} (h : nx_Inv gC s) : nx_Inv gC (nx_uf s 0 10 v) := by
  refine ⟨fun i k b hi hb => ?_, h.2.1, h.2.2.1, trivial⟩
  by_cases e : k.1 = 0 ∧ k.2 = 10
  · have hk : k = (0, 10) := Prod.ext e.1 e.2
    subst hk
    have h0 : gC.2.1[1]? = some ((0 : Nat), (10 : Nat)) := rfl
    have hi0 : i = 1 := (List.getElem?_inj (List.getElem?_eq_some_iff.mp hi).1 ndk_C).mp (hi.trans h0.symm)
    subst hi0
    cases hb
    exact na_i32 _
  · show b.1 ≤ (if k.1 = 0 ∧ k.2 = 10 then v else s.2.2.1 k.1 k.2).toInt ∧ (if k.1 = 0 ∧ k.2 = 10 then v else s.2.2.1 k.1 k.2).toInt ≤ b.2
    rw [if_neg e]
    exact h.1 i k b hi hb
theorem zk_fd {s s1 : nx_S} (h : fd_P s s1) : zk (zC s) (zC s1) := fun k _ => by
  unfold zC
  rw [h.2.2 (29 + 2 * k) 1 (fun e => by omega)]
theorem zk_rf (f : Nat → Int) : zk f f := fun _ _ => rfl
theorem zk_as (s : nx_S) (x : Int32) : zk (zC s) (zC (nx_uf s 0 10 x)) := fun k _ => by
  have e : (nx_uf s 0 10 x).2.2.1 (29 + 2 * k) 1 = s.2.2.1 (29 + 2 * k) 1 := if_neg (fun e => by omega)
  unfold zC
  rw [e]
set_option maxRecDepth 100000 in
set_option maxHeartbeats 4000000 in
theorem rp_C (Q : nk_Q) (s : nx_S) (R I : Int32) (hInv : nx_Inv gC s) (h1 : 0 ≤ R.toInt → R.toInt ≤ 5 → 0 ≤ I.toInt → I.toInt < zC s R.toInt.toNat → Q (some (.int 0)) (nx_enc s 0 shC)) (h2 : ¬ (0 ≤ R.toInt ∧ R.toInt ≤ 5) → Q (some (.int (-1))) (nx_enc s 0 shC)) (h3 : ∀ s1 : nx_S, fd_P s s1 → 0 ≤ R.toInt → R.toInt ≤ 5 → ¬ (0 ≤ zC s R.toInt.toNat ∧ 0 ≤ I.toInt ∧ I.toInt < zC s R.toInt.toNat) → Q (some (.int (-3))) (nx_enc s1 0 shC)) : ev_X5_refusalOfPlace [.ref 0, .ref 1, .int R, .int I] (nx_enc s 0 shC) Q := by
  have h6 : (Int32.ofNat 6).toInt = 6 := rfl
  refine nx_s (nx_s (nx_s (nx_s ?_)))
  refine wi_C _ _ R (Int32.ofNat 6) (fun r0 r1 => ?_) (fun hn => ?_)
  rotate_left
  · refine nx_s ?_
    refine nk_br.t (by decide) ?_
    refine nx_s (nx_s ?_)
    exact h2 (by omega)
  refine nx_s ?_
  refine nk_br.f (by decide) ?_
  obtain ⟨hq1, hr⟩ := rq_ey hInv (R := R) r0 (by omega)
  have hz : zC s R.toInt.toNat = (s.2.2.1 (29 + 2 * R.toInt.toNat) 1).toInt := rfl
  have hb := hr.2.2.2
  generalize 29 + 2 * R.toInt.toNat = q at *
  refine nx_s (nx_s (nx_s ?_))
  refine ⟨nx_in (n := 6) r0 (by omega), ?_⟩
  show nk_wp kx_X5_refusalOfPlace kc_X5_refusalOfPlace Q 14 [some (.ref 0), some (.ref 1), some (.int R), some (.int I)] [va_rf (nk_lg [29, 31, 33, 35, 37, 39] R.toNatClampNeg)] (nx_enc s 0 shC) 0 0
  rw [hq1]
  refine nx_s ?_
  refine (nk_obm hr.1 ?_ : nk_obj (nx_enc s 0 shC) q 3 (fun _ => ev_X3_isMissing [.ref q] (nx_enc s 0 shC) (fun r h' => nk_ret r [] (fun Z => nk_wp kx_X5_refusalOfPlace kc_X5_refusalOfPlace Q 17 [some (.ref 0), some (.ref 1), some (.int R), some (.int I)] Z h' 0 0))))
  refine mi_C _ s q hr (fun zq => ?_) (fun zq => ?_)
  · refine nx_s ?_
    refine nk_br.f (by decide) ?_
    refine nx_s (nx_s (nx_s ?_))
    refine fd_C _ s 1 (by decide) (by decide) (fun s1 hm => ?_)
    refine nx_s ?_
    exact h3 s1 hm r0 (by omega) (by omega)
  refine nx_s ?_
  refine nk_br.t (by decide) ?_
  refine nx_s (nx_s (nx_s (nx_s ?_)))
  refine ⟨nx_in (n := 6) r0 (by omega), ?_⟩
  show nk_wp kx_X5_refusalOfPlace kc_X5_refusalOfPlace Q 30 [some (.ref 0), some (.ref 1), some (.int R), some (.int I)] [va_rf (nk_lg [29, 31, 33, 35, 37, 39] R.toNatClampNeg), .int I] (nx_enc s 0 shC) 0 0
  rw [hq1]
  refine nx_gq rfl rfl hr.1 rfl ?_
  show nk_wp kx_X5_refusalOfPlace kc_X5_refusalOfPlace Q 33 [some (.ref 0), some (.ref 1), some (.int R), some (.int I)] [.int (s.2.2.1 q 1), .int I] (nx_enc s 0 shC) 0 0
  refine nx_s ?_
  refine wi_C _ _ I (s.2.2.1 q 1) (fun i0 i1 => ?_) (fun hn => ?_)
  · refine nx_s ?_
    refine nk_br.f (by decide) ?_
    refine nx_s (nx_s (nx_s ?_))
    exact h1 r0 (by omega) i0 (by omega)
  · refine nx_s ?_
    refine nk_br.t (by decide) ?_
    refine nx_s (nx_s (nx_s ?_))
    refine fd_C _ s 2 (by decide) (by decide) (fun s1 hm => ?_)
    refine nx_s ?_
    exact h3 s1 hm r0 (by omega) (by omega)
/-- what lay, at, tear, copy, mean, row leave of the class -/
abbrev zQ (Q : nk_Q) (s : nx_S) (a : Int32) : Prop := ∀ (s1 : nx_S) (r : Int32), nx_Inv gC s1 → zk (zC s) (zC s1) → r = a → Q (some (.int r)) (nx_enc s1 0 shC)
set_option maxRecDepth 100000 in
set_option maxHeartbeats 4000000 in
theorem at_C (Q : nk_Q) (s : nx_S) (R I : Int32) (hInv : nx_Inv gC s) (hq : zQ Q s (f_place (zC s) R I)) : ev_X5_at [.ref 0, .int R, .int I] (nx_enc s 0 shC) Q := by
  refine nx_s (nx_s (nx_s (nx_s (nx_s (nx_s ?_)))))
  refine rp_C _ s R I hInv (fun r0 r1 i0 i1 => ?_) (fun hn => ?_) (fun s1 hm r0 r1 hn => ?_)
  rotate_left
  · refine nx_s (nx_s (nx_s ?_))
    refine nk_br.f (by decide) ?_
    refine nx_s (nx_s ?_)
    exact hq s _ hInv (zk_rf _) (by unfold f_place; rw [if_neg hn])
  · refine nx_s (nx_s (nx_s ?_))
    refine nk_br.f (by decide) ?_
    refine nx_s (nx_s ?_)
    exact hq s1 _ (fd_inv hInv hm) (zk_fd hm) (by unfold f_place; rw [if_pos ⟨r0, r1⟩, if_neg hn])
  obtain ⟨hq1, hr⟩ := rq_ey hInv (R := R) r0 r1
  have hz : zC s R.toInt.toNat = (s.2.2.1 (29 + 2 * R.toInt.toNat) 1).toInt := rfl
  have hb := hr.2.2.2
  have ans : (1 : Int32) = f_place (zC s) R I := by
    unfold f_place
    rw [if_pos ⟨r0, r1⟩, if_pos ⟨by omega, i0, i1⟩]
  rw [hz] at i1
  generalize 29 + 2 * R.toInt.toNat = q at *
  refine nx_s (nx_s (nx_s ?_))
  refine nk_br.t (by decide) ?_
  refine nx_s (nx_s (nx_s (nx_s (nx_s ?_))))
  refine ⟨nx_in (n := 6) r0 (by omega), ?_⟩
  show nk_wp kx_X5_at kc_X5_at Q 24 [some (.ref 0), some (.int R), some (.int I), some (.int 0)] [va_rf (nk_lg [29, 31, 33, 35, 37, 39] R.toNatClampNeg), .ref 0] (nx_enc s 0 shC) 0 0
  rw [hq1]
  refine nx_gq rfl rfl hr.1 rfl ?_
  show nk_wp kx_X5_at kc_X5_at Q 27 [some (.ref 0), some (.int R), some (.int I), some (.int 0)] [.ref (q + 1), .ref 0] (nx_enc s 0 shC) 0 0
  refine nx_s (nx_iq rfl hr.2.1 (nx_in (n := 40) i0 (by omega)) ?_)
  refine nx_s (nx_s (nx_s ?_))
  exact hq _ _ (af_inv hInv) (zk_as s _) ans
set_option maxRecDepth 100000 in
set_option maxHeartbeats 4000000 in
theorem la_C (Q : nk_Q) (s : nx_S) (R I V : Int32) (hInv : nx_Inv gC s) (hq : zQ Q s (f_place (zC s) R I)) : ev_X5_lay [.ref 0, .int R, .int I, .int V] (nx_enc s 0 shC) Q := by
  refine nx_s (nx_s (nx_s (nx_s (nx_s (nx_s ?_)))))
  refine rp_C _ s R I hInv (fun r0 r1 i0 i1 => ?_) (fun hn => ?_) (fun s1 hm r0 r1 hn => ?_)
  rotate_left
  · refine nx_s (nx_s (nx_s ?_))
    refine nk_br.f (by decide) ?_
    refine nx_s (nx_s ?_)
    exact hq s _ hInv (zk_rf _) (by unfold f_place; rw [if_neg hn])
  · refine nx_s (nx_s (nx_s ?_))
    refine nk_br.f (by decide) ?_
    refine nx_s (nx_s ?_)
    exact hq s1 _ (fd_inv hInv hm) (zk_fd hm) (by unfold f_place; rw [if_pos ⟨r0, r1⟩, if_neg hn])
  obtain ⟨hq1, hr⟩ := rq_ey hInv (R := R) r0 r1
  have hz : zC s R.toInt.toNat = (s.2.2.1 (29 + 2 * R.toInt.toNat) 1).toInt := rfl
  have hb := hr.2.2.2
  have ans : (1 : Int32) = f_place (zC s) R I := by
    unfold f_place
    rw [if_pos ⟨r0, r1⟩, if_pos ⟨by omega, i0, i1⟩]
  rw [hz] at i1
  generalize 29 + 2 * R.toInt.toNat = q at *
  refine nx_s (nx_s (nx_s ?_))
  refine nk_br.t (by decide) ?_
  refine nx_s (nx_s (nx_s (nx_s (nx_s ?_))))
  refine ⟨nx_in (n := 6) r0 (by omega), ?_⟩
  show nk_wp kx_X5_lay kc_X5_lay Q 27 [some (.ref 0), some (.int R), some (.int I), some (.int V), some (.int 0)] [va_rf (nk_lg [29, 31, 33, 35, 37, 39] R.toNatClampNeg), .ref 0] (nx_enc s 0 shC) 0 0
  rw [hq1]
  refine nx_gq rfl rfl hr.1 rfl ?_
  show nk_wp kx_X5_lay kc_X5_lay Q 30 [some (.ref 0), some (.int R), some (.int I), some (.int V), some (.int 0)] [.ref (q + 1), .ref 0] (nx_enc s 0 shC) 0 0
  refine nx_s (nx_iq rfl hr.2.1 (nx_in (n := 40) i0 (by omega)) ?_)
  refine nx_s (nx_s (nx_s (nx_s (nx_s ?_))))
  refine ⟨nx_in (n := 6) r0 (by omega), ?_⟩
  show nk_wp kx_X5_lay kc_X5_lay Q 41 [some (.ref 0), some (.int R), some (.int I), some (.int V), some (.int 0)] [va_rf (nk_lg [29, 31, 33, 35, 37, 39] R.toNatClampNeg)] (nx_enc (nx_uf s 0 10 (s.1 (q + 1) I.toNatClampNeg)) 0 shC) 0 0
  rw [hq1]
  refine nx_gq rfl rfl hr.1 rfl ?_
  show nk_wp kx_X5_lay kc_X5_lay Q 44 [some (.ref 0), some (.int R), some (.int I), some (.int V), some (.int 0)] [.ref (q + 1)] (nx_enc (nx_uf s 0 10 (s.1 (q + 1) I.toNatClampNeg)) 0 shC) 0 0
  refine nx_s (nx_s (nx_iw rfl hr.2.1 (nx_in (n := 40) i0 (by omega)) ?_))
  refine nx_s (nx_s ?_)
  have hr2 : rq_C (nx_uf s 0 10 (s.1 (q + 1) I.toNatClampNeg)) q := rq_at hr (by
    show (if q = 0 ∧ 1 = 10 then _ else s.2.2.1 q 1) = s.2.2.1 q 1
    rw [if_neg (fun e => absurd e.2 (by decide))])
  exact hq _ _ (rq_inv (af_inv hInv) hr2 _) (show zk (zC s) (zC (nx_uf s 0 10 (s.1 (q + 1) I.toNatClampNeg))) from zk_as s _) ans
set_option maxRecDepth 100000 in
set_option maxHeartbeats 4000000 in
theorem te_C (Q : nk_Q) (s : nx_S) (R : Int32) (hInv : nx_Inv gC s) (hq : ∀ (s1 : nx_S) (r : Int32), nx_Inv gC s1 → zk (ztear (zC s) R (-1)) (zC s1) → r = f_tear (zC s) R → Q (some (.int r)) (nx_enc s1 0 shC)) : ev_X5_tear [.ref 0, .int R] (nx_enc s 0 shC) Q := by
  have h6 : (6 : Int32).toInt = 6 := rfl
  have hm1 : (-1 : Int32).toInt = -1 := rfl
  refine nx_s (nx_s (nx_s ?_))
  refine wi_C _ _ R 6 (fun r0 r1 => ?_) (fun hn => ?_)
  rotate_left
  · refine nx_s ?_
    refine nk_br.t (by decide) ?_
    refine nx_s (nx_s ?_)
    exact hq s _ hInv (fun k hk => by unfold ztear; rw [if_neg (fun h => by omega)]) (by unfold f_tear; rw [if_neg (fun h => by omega)])
  refine nx_s ?_
  refine nk_br.f (by decide) ?_
  obtain ⟨hq1, hr⟩ := rq_ey hInv (R := R) r0 (by omega)
  have hz : zC s R.toInt.toNat = (s.2.2.1 (29 + 2 * R.toInt.toNat) 1).toInt := rfl
  have hb := hr.2.2.2
  refine nx_s (nx_s (nx_s (nx_s ?_)))
  refine ⟨nx_in (n := 6) r0 (by omega), ?_⟩
  show nk_wp kx_X5_tear kc_X5_tear Q 17 [some (.ref 0), some (.int R)] [va_rf (nk_lg [29, 31, 33, 35, 37, 39] R.toNatClampNeg)] (nx_enc s 0 shC) 0 0
  rw [hq1]
  refine nx_s ?_
  refine (nk_obm hr.1 ?_ : nk_obj (nx_enc s 0 shC) (29 + 2 * R.toInt.toNat) 3 (fun _ => ev_X3_isMissing [.ref (29 + 2 * R.toInt.toNat)] (nx_enc s 0 shC) (fun r h' => nk_ret r [] (fun Z => nk_wp kx_X5_tear kc_X5_tear Q 20 [some (.ref 0), some (.int R)] Z h' 0 0))))
  refine mi_C _ s _ hr (fun zq => ?_) (fun zq => ?_)
  · refine nx_s ?_
    refine nk_br.f (by decide) ?_
    refine nx_s (nx_s (nx_s ?_))
    refine fd_C _ s 1 (by decide) (by decide) (fun s1 hm => ?_)
    refine nx_s ?_
    exact hq s1 _ (fd_inv hInv hm) (fun k hk => by unfold ztear; rw [if_neg (fun h => by omega)]; exact zk_fd hm k hk) (by unfold f_tear; rw [if_pos ⟨r0, by omega⟩, if_neg (by omega)])
  refine nx_s ?_
  refine nk_br.t (by decide) ?_
  refine nx_s (nx_s (nx_s (nx_s ?_)))
  refine ⟨nx_in (n := 6) r0 (by omega), ?_⟩
  show nk_wp kx_X5_tear kc_X5_tear Q 35 [some (.ref 0), some (.int R)] [va_rf (nk_lg [29, 31, 33, 35, 37, 39] R.toNatClampNeg)] (nx_enc s 0 shC) 0 0
  rw [hq1]
  refine nx_s (nx_pq rfl rfl hr.1 rfl ?_)
  refine nx_s (nx_s ?_)
  refine hq _ _ (zf_inv hInv (by omega) (by decide) (by decide)) (fun k hk => ?_) (by unfold f_tear; rw [if_pos ⟨r0, by omega⟩, if_pos (by omega)])
  unfold ztear
  show (if 29 + 2 * k = 29 + 2 * R.toInt.toNat ∧ 1 = 1 then (-1 : Int32) else s.2.2.1 (29 + 2 * k) 1).toInt = _
  by_cases ek : k = R.toInt.toNat
  · rw [if_pos ⟨by rw [ek], rfl⟩, if_pos ⟨⟨⟨r0, by omega⟩, by omega⟩, ek⟩]
    rfl
  · rw [if_neg (fun e => by omega), if_neg (fun h => ek h.2)]
    rfl
set_option maxRecDepth 100000 in
theorem bb_C (Q : nk_Q) (s : nx_S) (q : Nat) (N V : Int32) (hr : rq_C s q) (hq : ∀ f : Nat → Int32, Q none (nx_enc (nx_uf (nx_ui s (q + 1) f) q 1 N) 0 shC)) : ∀ (n i : Nat) (I : Int32) (f : Nat → Int32), i + n = 40 → I.toInt = i → nk_wp kx_X3_begin kc_X3_begin Q 2 [some (.ref q), some (.int N), some (.int V), some (.int I)] [] (nx_enc (nx_ui s (q + 1) f) 0 shC) 0 0 := by
  have h40 : (40 : Int32).toInt = 40 := rfl
  have h1 : (1 : Int32).toInt = 1 := rfl
  intro n
  induction n with
  | zero =>
    intro i I f hi hI
    refine nx_s (nx_s (nx_s ?_))
    refine nk_br.t (i_le (by omega)) ?_
    refine nx_s (nx_s (nx_pq rfl rfl hr.1 rfl ?_))
    refine nx_s ?_
    exact hq f
  | succ n ih =>
    intro i I f hi hI
    have e1 : (I + 1).toInt = ((i + 1 : Nat) : Int) := by
      rw [i_add (by omega) (by omega)]
      omega
    refine nx_s (nx_s (nx_s ?_))
    refine nk_br.f (i_nle (by omega)) ?_
    refine nx_s (nx_gq rfl rfl hr.1 rfl ?_)
    show nk_wp kx_X3_begin kc_X3_begin Q 12 [some (.ref q), some (.int N), some (.int V), some (.int I)] [.ref (q + 1)] (nx_enc (nx_ui s (q + 1) f) 0 shC) 0 0
    refine nx_s (nx_s (nx_iw rfl hr.2.1 (nx_in (n := 40) (by omega) (by omega)) ?_))
    rw [nx_uu]
    refine nx_s (nx_s ?_)
    exact ih (i + 1) (I + 1) _ (by omega) e1
set_option maxRecDepth 100000 in
set_option maxHeartbeats 4000000 in
theorem ro_C (Q : nk_Q) (s : nx_S) (R N : Int32) (hInv : nx_Inv gC s) (hq : ∀ (s1 : nx_S) (r : Int32), nx_Inv gC s1 → zk (zrow (zC s) R N) (zC s1) → r = f_row R N → Q (some (.int r)) (nx_enc s1 0 shC)) : ev_X5_row [.ref 0, .int R, .int N] (nx_enc s 0 shC) Q := by
  have h6 : (Int32.ofNat 6).toInt = 6 := rfl
  have h40 : (40 : Int32).toInt = 40 := rfl
  have h0 : (0 : Int32).toInt = 0 := rfl
  have bad : ¬ ((0 ≤ R.toInt ∧ R.toInt ≤ 5) ∧ N.toInt ≤ 40) → nk_wp kx_X5_begin kc_X5_begin (fun v h' => nk_ret v [] (fun T => nk_wp kx_X5_row kc_X5_row Q 11 [some (.ref 0), some (.int R), some (.int N)] T h' 0 0)) 15 [some (.ref 0), some (.ref 1), some (.int R), some (.int N), some (.int 0)] [] (nx_enc s 0 shC) 0 0 := by
    intro hn
    refine nx_s (nx_s ?_)
    refine nx_s ?_
    exact hq s _ hInv (fun k hk => by unfold zrow; rw [if_neg (fun h => by omega)]) (by unfold f_row; rw [if_neg hn])
  refine nx_s (nx_s (nx_s (nx_s (nx_s (nx_s (nx_s ?_))))))
  refine nx_s (nx_s (nx_s (nx_s ?_)))
  refine wi_C _ _ R (Int32.ofNat 6) (fun r0 r1 => ?_) (fun hn => ?_)
  rotate_left
  · refine nx_s ?_
    refine nk_br.t (by decide) ?_
    exact bad (by omega)
  refine nx_s ?_
  refine nk_br.f (by decide) ?_
  refine nx_s (nx_s (nx_s ?_))
  refine br_le (fun n1 => ?_) (fun n1 => ?_)
  rotate_left
  · exact bad (by omega)
  refine nx_s (nx_s ?_)
  refine br_le (fun n0 => ?_) (fun n0 => ?_)
  rotate_left
  · refine nx_s (nx_s (nx_s ?_))
    refine fd_C _ s 5 (by decide) (by decide) (fun s1 hm => ?_)
    refine nx_s (nx_s ?_)
    exact hq s1 _ (fd_inv hInv hm) (fun k hk => by unfold zrow; rw [if_neg (fun h => by omega)]; exact zk_fd hm k hk) (by unfold f_row; rw [if_pos ⟨⟨r0, by omega⟩, by omega⟩, if_pos (by omega)])
  obtain ⟨hq1, hr⟩ := rq_ey hInv (R := R) r0 (by omega)
  refine nx_s (nx_s (nx_s ?_))
  refine ⟨nx_in (n := 6) r0 (by omega), ?_⟩
  show nk_wp kx_X5_begin kc_X5_begin (fun v h' => nk_ret v [] (fun T => nk_wp kx_X5_row kc_X5_row Q 11 [some (.ref 0), some (.int R), some (.int N)] T h' 0 0)) 30 [some (.ref 0), some (.ref 1), some (.int R), some (.int N), some (.int 0)] [va_rf (nk_lg [29, 31, 33, 35, 37, 39] R.toNatClampNeg)] (nx_enc s 0 shC) 0 0
  rw [hq1]
  refine nx_s (nx_s (nx_s ?_))
  refine (nk_obm hr.1 ?_ : nk_obj (nx_enc s 0 shC) (29 + 2 * R.toInt.toNat) 3 (fun _ => ev_X3_begin [.ref (29 + 2 * R.toInt.toNat), .int N, .int 0] (nx_enc s 0 shC) (fun r h' => nk_ret r [] (fun Z => nk_wp kx_X5_begin kc_X5_begin (fun v h' => nk_ret v [] (fun T => nk_wp kx_X5_row kc_X5_row Q 11 [some (.ref 0), some (.int R), some (.int N)] T h' 0 0)) 36 [some (.ref 0), some (.ref 1), some (.int R), some (.int N), some (.int 0)] Z h' 0 0))))
  refine nx_s (nx_s ?_)
  have es : s = nx_ui s (29 + 2 * R.toInt.toNat + 1) (s.1 (29 + 2 * R.toInt.toNat + 1)) := by
    refine Prod.ext (funext (fun q => ?_)) rfl
    show s.1 q = if q = 29 + 2 * R.toInt.toNat + 1 then _ else s.1 q
    by_cases e : q = 29 + 2 * R.toInt.toNat + 1
    · rw [if_pos e, e]
    · rw [if_neg e]
  have go := bb_C (fun r h' => nk_ret r [] (fun Z => nk_wp kx_X5_begin kc_X5_begin (fun v h' => nk_ret v [] (fun T => nk_wp kx_X5_row kc_X5_row Q 11 [some (.ref 0), some (.int R), some (.int N)] T h' 0 0)) 36 [some (.ref 0), some (.ref 1), some (.int R), some (.int N), some (.int 0)] Z h' 0 0)) s (29 + 2 * R.toInt.toNat) N 0 hr (fun f => ?_) 40 0 0 (s.1 (29 + 2 * R.toInt.toNat + 1)) rfl rfl
  · rw [← es] at go
    exact go
  refine nx_s (nx_s (nx_s ?_))
  refine hq _ _ (zf_inv (rq_inv hInv hr f) (by omega) (by omega) (by omega)) (fun k hk => ?_) (by unfold f_row; rw [if_pos ⟨⟨r0, by omega⟩, by omega⟩, if_neg (by omega)])
  unfold zrow
  show (if 29 + 2 * k = 29 + 2 * R.toInt.toNat ∧ 1 = 1 then N else s.2.2.1 (29 + 2 * k) 1).toInt = _
  by_cases ek : k = R.toInt.toNat
  · rw [if_pos ⟨by rw [ek], rfl⟩, if_pos ⟨⟨⟨r0, by omega⟩, by omega, by omega⟩, ek⟩]
  · rw [if_neg (fun e => by omega), if_neg (fun h => ek h.2)]
    rfl
set_option maxRecDepth 100000 in
theorem sm_l (Q : nk_Q) (s : nx_S) (q : Nat) (k : Nat) (hr : rq_C s q) (hk : (s.2.2.1 q 1).toInt = k) (hq : ∀ y : Int64, Q (some (.long y)) (nx_enc s 0 shC)) : ∀ (n i : Nat) (I : Int32) (Y : Int64), i + n = k → I.toInt = i → nk_wp kx_X3_sum kc_X3_sum Q 4 [some (.ref q), some (.long Y), none, some (.int I)] [] (nx_enc s 0 shC) 0 0 := by
  have h1 : (1 : Int32).toInt = 1 := rfl
  have hb := hr.2.2.2
  intro n
  induction n with
  | zero =>
    intro i I Y hi hI
    refine nx_s (nx_s (nx_gq rfl rfl hr.1 rfl ?_))
    show nk_wp kx_X3_sum kc_X3_sum Q 9 [some (.ref q), some (.long Y), none, some (.int I)] [.int (s.2.2.1 q 1), .int I] (nx_enc s 0 shC) 0 0
    refine nx_s ?_
    refine nk_br.t (i_le (by omega)) ?_
    refine nx_s (nx_s ?_)
    exact hq Y
  | succ n ih =>
    intro i I Y hi hI
    have e1 : (I + 1).toInt = ((i + 1 : Nat) : Int) := by
      rw [i_add (by omega) (by omega)]
      omega
    refine nx_s (nx_s (nx_gq rfl rfl hr.1 rfl ?_))
    show nk_wp kx_X3_sum kc_X3_sum Q 9 [some (.ref q), some (.long Y), none, some (.int I)] [.int (s.2.2.1 q 1), .int I] (nx_enc s 0 shC) 0 0
    refine nx_s ?_
    refine nk_br.f (i_nle (by omega)) ?_
    refine nx_s (nx_s (nx_gq rfl rfl hr.1 rfl ?_))
    show nk_wp kx_X3_sum kc_X3_sum Q 17 [some (.ref q), some (.long Y), none, some (.int I)] [.ref (q + 1), .long Y] (nx_enc s 0 shC) 0 0
    refine nx_s (nx_iq rfl hr.2.1 (nx_in (n := 40) (by omega) (by omega)) ?_)
    refine nx_s (nx_s (nx_s (nx_s (nx_s ?_))))
    exact ih (i + 1) (I + 1) _ (by omega) e1
theorem ld_nz {z : Int32} (h : z.toInt ≠ 0) : ¬ z.toInt64 = 0 := fun e => by
  have h1 : z.toInt64.toInt = z.toInt := Int32.toInt_toInt64 z
  rw [e] at h1
  exact h (h1.symm.trans rfl)
set_option maxRecDepth 100000 in
set_option maxHeartbeats 4000000 in
theorem me_C (Q : nk_Q) (s : nx_S) (R : Int32) (hInv : nx_Inv gC s) (hq : zQ Q s (f_mean (zC s) R)) : ev_X5_mean [.ref 0, .int R] (nx_enc s 0 shC) Q := by
  have h6 : (6 : Int32).toInt = 6 := rfl
  have h0 : (0 : Int32).toInt = 0 := rfl
  refine nx_s (nx_s (nx_s ?_))
  refine wi_C _ _ R 6 (fun r0 r1 => ?_) (fun hn => ?_)
  rotate_left
  · refine nx_s ?_
    refine nk_br.t (by decide) ?_
    refine nx_s (nx_s ?_)
    exact hq s _ hInv (zk_rf _) (by unfold f_mean; rw [if_neg (fun h => by omega)])
  refine nx_s ?_
  refine nk_br.f (by decide) ?_
  obtain ⟨hq1, hr⟩ := rq_ey hInv (R := R) r0 (by omega)
  have hz : zC s R.toInt.toNat = (s.2.2.1 (29 + 2 * R.toInt.toNat) 1).toInt := rfl
  have hb := hr.2.2.2
  have hR : 0 ≤ R.toInt ∧ R.toInt ≤ 5 := ⟨r0, by omega⟩
  unfold f_mean at hq
  rw [if_pos hR, hz] at hq
  generalize 29 + 2 * R.toInt.toNat = q at *
  refine nx_s (nx_s (nx_s (nx_s ?_)))
  refine ⟨nx_in (n := 6) r0 (by omega), ?_⟩
  show nk_wp kx_X5_mean kc_X5_mean Q 17 [some (.ref 0), some (.int R), none] [va_rf (nk_lg [29, 31, 33, 35, 37, 39] R.toNatClampNeg)] (nx_enc s 0 shC) 0 0
  rw [hq1]
  refine nx_s (nx_s (nx_s ?_))
  refine (nk_obm hr.1 ?_ : nk_obj (nx_enc s 0 shC) q 3 (fun _ => ev_X3_isMissing [.ref q] (nx_enc s 0 shC) (fun r h' => nk_ret r [] (fun Z => nk_wp kx_X5_mean kc_X5_mean Q 22 [some (.ref 0), some (.int R), some (.ref q)] Z h' 0 0))))
  refine mi_C _ s q hr (fun zq => ?_) (fun zq => ?_)
  · refine nx_s ?_
    refine nk_br.f (by decide) ?_
    refine nx_s (nx_s (nx_s ?_))
    refine fd_C _ s 1 (by decide) (by decide) (fun s1 hm => ?_)
    refine nx_s ?_
    exact hq s1 _ (fd_inv hInv hm) (zk_fd hm) (by rw [if_neg (by omega)])
  refine nx_s ?_
  refine nk_br.t (by decide) ?_
  refine nx_s (nx_gq rfl rfl hr.1 rfl ?_)
  show nk_wp kx_X5_mean kc_X5_mean Q 35 [some (.ref 0), some (.int R), some (.ref q)] [.int (s.2.2.1 q 1)] (nx_enc s 0 shC) 0 0
  refine nx_s ?_
  refine br_eq (fun e => ?_) (fun e => ?_)
  · have e : (s.2.2.1 q 1).toInt = (0 : Int32).toInt := e
    refine nx_s (nx_s (nx_s ?_))
    refine fd_C _ s 4 (by decide) (by decide) (fun s1 hm => ?_)
    refine nx_s ?_
    exact hq s1 _ (fd_inv hInv hm) (zk_fd hm) (by rw [if_neg (by omega)])
  have e : (s.2.2.1 q 1).toInt ≠ (0 : Int32).toInt := e
  refine nx_s (nx_s (nx_s ?_))
  refine (nk_obm hr.1 ?_ : nk_obj (nx_enc s 0 shC) q 3 (fun _ => ev_X3_sum [.ref q] (nx_enc s 0 shC) (fun r h' => nk_ret r [.ref 0] (fun Z => nk_wp kx_X5_mean kc_X5_mean Q 49 [some (.ref 0), some (.int R), some (.ref q)] Z h' 0 0))))
  refine nx_s (nx_s (nx_s (nx_s ?_)))
  refine sm_l _ s q (s.2.2.1 q 1).toInt.toNat hr (by omega) (fun y => ?_) (s.2.2.1 q 1).toInt.toNat 0 0 _ (by omega) rfl
  refine nx_s (nx_gq rfl rfl hr.1 rfl ?_)
  show nk_wp kx_X5_mean kc_X5_mean Q 53 [some (.ref 0), some (.int R), some (.ref q)] [.int (s.2.2.1 q 1), .long y, .ref 0] (nx_enc s 0 shC) 0 0
  refine nx_s (nx_s ?_)
  refine ⟨ld_nz (by omega), ?_⟩
  refine nx_s (nx_s (nx_s (nx_s ?_)))
  exact hq _ _ (af_inv hInv) (zk_as s _) (by rw [if_pos (by omega)])
set_option maxRecDepth 100000 in
theorem hf_Cx (Q : nk_Q) (s : nx_S) (q : Nat) (I N : Int32) (hr : rq_C s q) (hN : 0 ≤ N.toInt) (h1 : 0 ≤ I.toInt → I.toInt + N.toInt ≤ (s.2.2.1 q 1).toInt → Q (some (.int 1)) (nx_enc s 0 shC)) (h2 : ¬ (0 ≤ I.toInt ∧ I.toInt + N.toInt ≤ (s.2.2.1 q 1).toInt) → Q (some (.int 0)) (nx_enc s 0 shC)) : ev_X3_hasFrom [.ref q, .int I, .int N] (nx_enc s 0 shC) Q := by
  have h0 : (0 : Int32).toInt = 0 := rfl
  have b := hr.2.2.2
  refine nx_s (nx_s ?_)
  refine br_lt (fun e => ?_) (fun e => ?_)
  · refine nx_s (nx_s ?_)
    exact nk_bo0 (h2 (by omega))
  refine nx_s (nx_s (nx_gq rfl rfl hr.1 rfl ?_))
  show nk_wp kx_X3_hasFrom kc_X3_hasFrom Q 9 [some (.ref q), some (.int I), some (.int N)] [.int (s.2.2.1 q 1), .int I] (nx_enc s 0 shC) 0 0
  refine nx_s ?_
  refine br_lt (fun e2 => ?_) (fun e2 => ?_)
  · refine nx_s (nx_s ?_)
    exact nk_bo0 (h2 (by omega))
  refine nx_s (nx_s (nx_gq rfl rfl hr.1 rfl ?_))
  show nk_wp kx_X3_hasFrom kc_X3_hasFrom Q 17 [some (.ref q), some (.int I), some (.int N)] [.int (s.2.2.1 q 1), .int N] (nx_enc s 0 shC) 0 0
  have es : (s.2.2.1 q 1 - I).toInt = (s.2.2.1 q 1).toInt - I.toInt := by
    rw [Int32.toInt_sub, na_bm (show (-2147483648 : Int) ≤ _ by omega) (show _ ≤ (2147483647 : Int) by omega)]
  refine nx_s (nx_s (nx_s ?_))
  refine br_lt (fun e3 => ?_) (fun e3 => ?_)
  · have e3 : (s.2.2.1 q 1 - I).toInt < N.toInt := e3
    refine nx_s (nx_s ?_)
    exact nk_bo0 (h2 (by omega))
  have e3 : N.toInt ≤ (s.2.2.1 q 1 - I).toInt := e3
  refine nx_s (nx_s (nx_s ?_))
  exact nk_bo1 (h1 (by omega) (by omega))
set_option maxRecDepth 100000 in
set_option maxHeartbeats 4000000 in
theorem cp_Cx (Q : nk_Q) (s : nx_S) (R I T J N : Int32) (hInv : nx_Inv gC s) (hq : zQ Q s (f_copy (zC s) R I T J N)) : ev_X5_copy [.ref 0, .int R, .int I, .int T, .int J, .int N] (nx_enc s 0 shC) Q := by
  have h0 : (0 : Int32).toInt = 0 := rfl
  have h6 : (6 : Int32).toInt = 6 := rfl
  refine nx_s (nx_s (nx_s ?_))
  refine wi_C _ _ R 6 (fun r0 r1 => ?_) (fun hn => ?_)
  rotate_left
  · refine nx_s ?_
    refine nk_br.t (by decide) ?_
    refine nx_s (nx_s ?_)
    exact hq s _ hInv (zk_rf _) (by unfold f_copy; rw [if_neg (fun h => by omega)])
  refine nx_s ?_
  refine nk_br.f (by decide) ?_
  refine nx_s (nx_s (nx_s ?_))
  refine wi_C _ _ T 6 (fun t0 t1 => ?_) (fun hn => ?_)
  rotate_left
  · refine nx_s ?_
    refine nk_br.t (by decide) ?_
    refine nx_s (nx_s ?_)
    exact hq s _ hInv (zk_rf _) (by unfold f_copy; rw [if_neg (fun h => by omega)])
  refine nx_s ?_
  refine nk_br.f (by decide) ?_
  obtain ⟨hq1, hrq⟩ := rq_ey hInv (R := R) r0 (by omega)
  obtain ⟨ht1, hrt⟩ := rq_ey hInv (R := T) t0 (by omega)
  have hzq : zC s R.toInt.toNat = (s.2.2.1 (29 + 2 * R.toInt.toNat) 1).toInt := rfl
  have hzt : zC s T.toInt.toNat = (s.2.2.1 (29 + 2 * T.toInt.toNat) 1).toInt := rfl
  have hRT : (0 ≤ R.toInt ∧ R.toInt ≤ 5) ∧ (0 ≤ T.toInt ∧ T.toInt ≤ 5) := ⟨⟨r0, by omega⟩, t0, by omega⟩
  unfold f_copy at hq
  rw [if_pos hRT, hzq, hzt] at hq
  generalize 29 + 2 * R.toInt.toNat = q at *
  generalize 29 + 2 * T.toInt.toNat = t at *
  have bq := hrq.2.2.2
  have bt := hrt.2.2.2
  refine nx_s (nx_s ?_)
  refine br_le (fun n0 => ?_) (fun n0 => ?_)
  rotate_left
  · refine nx_s (nx_s (nx_s ?_))
    refine fd_C _ s 5 (by decide) (by decide) (fun s1 hm => ?_)
    refine nx_s ?_
    exact hq s1 _ (fd_inv hInv hm) (zk_fd hm) (by rw [if_neg (fun h => by omega)])
  refine nx_s (nx_s (nx_s (nx_s ?_)))
  refine ⟨nx_in (n := 6) r0 (by omega), ?_⟩
  show nk_wp kx_X5_copy kc_X5_copy Q 37 [some (.ref 0), some (.int R), some (.int I), some (.int T), some (.int J), some (.int N), none, none] [va_rf (nk_lg [29, 31, 33, 35, 37, 39] R.toNatClampNeg)] (nx_enc s 0 shC) 0 0
  rw [hq1]
  refine nx_s (nx_s (nx_s (nx_s (nx_s ?_))))
  refine ⟨nx_in (n := 6) t0 (by omega), ?_⟩
  show nk_wp kx_X5_copy kc_X5_copy Q 45 [some (.ref 0), some (.int R), some (.int I), some (.int T), some (.int J), some (.int N), some (.ref q), none] [va_rf (nk_lg [29, 31, 33, 35, 37, 39] T.toNatClampNeg)] (nx_enc s 0 shC) 0 0
  rw [ht1]
  have nothing : ¬ (0 ≤ N.toInt ∧ (0 ≤ (s.2.2.1 q 1).toInt ∧ 0 ≤ (s.2.2.1 t 1).toInt) ∧ (0 ≤ I.toInt ∧ I.toInt + N.toInt ≤ (s.2.2.1 q 1).toInt) ∧ 0 ≤ J.toInt ∧ J.toInt + N.toInt ≤ (s.2.2.1 t 1).toInt) → nk_wp kx_X5_copy kc_X5_copy Q 63 [some (.ref 0), some (.int R), some (.int I), some (.int T), some (.int J), some (.int N), some (.ref q), some (.ref t)] [] (nx_enc s 0 shC) 0 0 := by
    intro hc
    refine nx_s (nx_s (nx_s ?_))
    refine fd_C _ s 1 (by decide) (by decide) (fun s1 hm => ?_)
    refine nx_s ?_
    exact hq s1 _ (fd_inv hInv hm) (zk_fd hm) (by rw [if_neg hc])
  have beyond : ¬ (0 ≤ N.toInt ∧ (0 ≤ (s.2.2.1 q 1).toInt ∧ 0 ≤ (s.2.2.1 t 1).toInt) ∧ (0 ≤ I.toInt ∧ I.toInt + N.toInt ≤ (s.2.2.1 q 1).toInt) ∧ 0 ≤ J.toInt ∧ J.toInt + N.toInt ≤ (s.2.2.1 t 1).toInt) → nk_wp kx_X5_copy kc_X5_copy Q 92 [some (.ref 0), some (.int R), some (.int I), some (.int T), some (.int J), some (.int N), some (.ref q), some (.ref t)] [] (nx_enc s 0 shC) 0 0 := by
    intro hc
    refine nx_s (nx_s (nx_s ?_))
    refine fd_C _ s 2 (by decide) (by decide) (fun s1 hm => ?_)
    refine nx_s ?_
    exact hq s1 _ (fd_inv hInv hm) (zk_fd hm) (by rw [if_neg hc])
  refine nx_s (nx_s (nx_s ?_))
  refine (nk_obm hrq.1 ?_ : nk_obj (nx_enc s 0 shC) q 3 (fun _ => ev_X3_isMissing [.ref q] (nx_enc s 0 shC) (fun r h' => nk_ret r [] (fun Z => nk_wp kx_X5_copy kc_X5_copy Q 52 [some (.ref 0), some (.int R), some (.int I), some (.int T), some (.int J), some (.int N), some (.ref q), some (.ref t)] Z h' 0 0))))
  refine mi_C _ s q hrq (fun zq => ?_) (fun zq => ?_)
  · refine nx_s ?_
    refine nk_br.f (by decide) ?_
    exact nothing (fun h => by omega)
  refine nx_s ?_
  refine nk_br.t (by decide) ?_
  refine nx_s (nx_s ?_)
  refine (nk_obm hrt.1 ?_ : nk_obj (nx_enc s 0 shC) t 3 (fun _ => ev_X3_isMissing [.ref t] (nx_enc s 0 shC) (fun r h' => nk_ret r [] (fun Z => nk_wp kx_X5_copy kc_X5_copy Q 60 [some (.ref 0), some (.int R), some (.int I), some (.int T), some (.int J), some (.int N), some (.ref q), some (.ref t)] Z h' 0 0))))
  refine mi_C _ s t hrt (fun zt => ?_) (fun zt => ?_)
  · refine nx_s ?_
    refine nk_br.f (by decide) ?_
    exact nothing (fun h => by omega)
  refine nx_s ?_
  refine nk_br.t (by decide) ?_
  refine nx_s (nx_s (nx_s (nx_s ?_)))
  refine (nk_obm hrq.1 ?_ : nk_obj (nx_enc s 0 shC) q 3 (fun _ => ev_X3_hasFrom [.ref q, .int I, .int N] (nx_enc s 0 shC) (fun r h' => nk_ret r [] (fun Z => nk_wp kx_X5_copy kc_X5_copy Q 77 [some (.ref 0), some (.int R), some (.int I), some (.int T), some (.int J), some (.int N), some (.ref q), some (.ref t)] Z h' 0 0))))
  refine hf_Cx _ s q I N hrq (by omega) (fun i0 i1 => ?_) (fun hn => ?_)
  rotate_left
  · refine nx_s ?_
    refine nk_br.t (by decide) ?_
    exact beyond (fun h => by omega)
  refine nx_s ?_
  refine nk_br.f (by decide) ?_
  refine nx_s (nx_s (nx_s (nx_s ?_)))
  refine (nk_obm hrt.1 ?_ : nk_obj (nx_enc s 0 shC) t 3 (fun _ => ev_X3_hasFrom [.ref t, .int J, .int N] (nx_enc s 0 shC) (fun r h' => nk_ret r [] (fun Z => nk_wp kx_X5_copy kc_X5_copy Q 89 [some (.ref 0), some (.int R), some (.int I), some (.int T), some (.int J), some (.int N), some (.ref q), some (.ref t)] Z h' 0 0))))
  refine hf_Cx _ s t J N hrt (by omega) (fun j0 j1 => ?_) (fun hn => ?_)
  rotate_left
  · refine nx_s ?_
    refine nk_br.t (by decide) ?_
    exact beyond (fun h => by omega)
  refine nx_s ?_
  refine nk_br.f (by decide) ?_
  refine nx_s (nx_gq rfl rfl hrq.1 rfl ?_)
  refine nx_s (nx_s (nx_gq rfl rfl hrt.1 rfl ?_))
  show nk_wp kx_X5_copy kc_X5_copy Q 109 [some (.ref 0), some (.int R), some (.int I), some (.int T), some (.int J), some (.int N), some (.ref q), some (.ref t)] [.ref (t + 1), .int I, .ref (q + 1)] (nx_enc s 0 shC) 0 0
  refine nx_s (nx_s (nx_s ?_))
  show nk_acp [.ref (q + 1), .int I, .ref (t + 1), .int J, .int N] (nx_enc s 0 shC) (fun r h' => nk_ret r [] (fun Z => nk_wp kx_X5_copy kc_X5_copy Q 116 [some (.ref 0), some (.int R), some (.int I), some (.int T), some (.int J), some (.int N), some (.ref q), some (.ref t)] Z h' 0 0))
  refine acp_C (s := s) (q0 := q + 1) (q1 := t + 1) (sp := I) (dp := J) (n := N) hrq.2.1 hrt.2.1 i0 j0 (by omega) (by omega) (by omega) (fun f => ?_)
  refine nx_s (nx_s ?_)
  exact hq _ _ (rq_inv hInv hrt f) (zk_rf _) (by rw [if_pos ⟨by omega, ⟨by omega, by omega⟩, ⟨i0, i1⟩, j0, j1⟩])
