/-! ===== what the calls do to ROWS, STUFFS, MAKINGS: the class ===== -/
abbrev okS (a b c d : Int32) : Prop := (0 ≤ a.toInt ∧ a.toInt ≤ 9) ∧ (1 ≤ b.toInt ∧ b.toInt ≤ 99) ∧ (1 ≤ c.toInt ∧ c.toInt ≤ 99) ∧ (0 ≤ d.toInt ∧ d.toInt ≤ 5)
abbrev okP (z : Nat → Int) (r i : Int32) : Prop := (0 ≤ r.toInt ∧ r.toInt ≤ 5) ∧ 0 ≤ z r.toInt.toNat ∧ 0 ≤ i.toInt ∧ i.toInt < z r.toInt.toNat
noncomputable def g_row (A : AS) (r n : Int32) : AS := if (0 ≤ r.toInt ∧ r.toInt ≤ 5) ∧ 0 ≤ n.toInt ∧ n.toInt ≤ 40 then (fun k => if k = r.toInt.toNat then n.toInt else A.1 k, fun k j => if k = r.toInt.toNat then 0 else A.2.1 k j, A.2.2) else A
noncomputable def g_lay (A : AS) (r i v : Int32) : AS := if okP A.1 r i then (A.1, fun k j => if k = r.toInt.toNat ∧ j = i.toInt.toNat then v else A.2.1 k j, A.2.2) else A
noncomputable def g_tear (A : AS) (r : Int32) : AS := if (0 ≤ r.toInt ∧ r.toInt ≤ 5) ∧ 0 ≤ A.1 r.toInt.toNat then (fun k => if k = r.toInt.toNat then -1 else A.1 k, A.2) else A
abbrev okM (z : Nat → Int) (r i t j n : Int32) : Prop := ((0 ≤ r.toInt ∧ r.toInt ≤ 5) ∧ (0 ≤ t.toInt ∧ t.toInt ≤ 5)) ∧ 0 ≤ n.toInt ∧ (0 ≤ z r.toInt.toNat ∧ 0 ≤ z t.toInt.toNat) ∧ (0 ≤ i.toInt ∧ i.toInt + n.toInt ≤ z r.toInt.toNat) ∧ 0 ≤ j.toInt ∧ j.toInt + n.toInt ≤ z t.toInt.toNat
noncomputable def g_copy (A : AS) (r i t j n : Int32) : AS := if okM A.1 r i t j n then (A.1, fun k m => if k = t.toInt.toNat ∧ j.toInt.toNat ≤ m ∧ m < j.toInt.toNat + n.toInt.toNat then A.2.1 r.toInt.toNat (i.toInt.toNat + (m - j.toInt.toNat)) else A.2.1 k m, A.2.2) else A
/-- one STUFF more -/
noncomputable def g_add (A : AS) (a b c d : Int32) : AS := (A.1, A.2.1, (A.2.2.1.1 + 1, A.2.2.1.2), upd (upd (upd (upd A.2.2.2.1 (5 * A.2.2.1.1.toInt.toNat) a) (5 * A.2.2.1.1.toInt.toNat + 1) b) (5 * A.2.2.1.1.toInt.toNat + 2) c) (5 * A.2.2.1.1.toInt.toNat + 3) d, A.2.2.2.2)
noncomputable def g_stuff (A : AS) (a b c d : Int32) : AS := if okS a b c d ∧ A.2.2.1.1.toInt < 16 then g_add A a b c d else A
noncomputable def f_stuff (A : AS) (a b c d : Int32) : Int32 := if okS a b c d then (if A.2.2.1.1.toInt < 16 then A.2.2.1.1 else -2) else -1
/-- k fours of row r -/
noncomputable def g_fours (A : AS) (w : Nat → Int32) : Nat → AS
  | 0 => A
  | k + 1 => g_add (g_fours A w k) (w (4 * k)) (w (4 * k + 1)) (w (4 * k + 2)) (w (4 * k + 3))
noncomputable def okF (w : Nat → Int32) (k : Nat) : Prop := ∀ j : Nat, j < k → okS (w (4 * j)) (w (4 * j + 1)) (w (4 * j + 2)) (w (4 * j + 3))
theorem g_foursc {A : AS} {w w' : Nat → Int32} : ∀ k : Nat, (∀ j : Nat, j < 4 * k → w j = w' j) → g_fours A w k = g_fours A w' k
  | 0, _ => rfl
  | k + 1, h => by
    show g_add (g_fours A w k) (w (4 * k)) (w (4 * k + 1)) (w (4 * k + 2)) (w (4 * k + 3)) = g_add (g_fours A w' k) (w' (4 * k)) (w' (4 * k + 1)) (w' (4 * k + 2)) (w' (4 * k + 3))
    rw [g_foursc k (fun j hj => h j (by omega)), h _ (by omega), h _ (by omega), h _ (by omega), h _ (by omega)]
theorem okFc {w w' : Nat → Int32} {k : Nat} (h : ∀ j : Nat, j < 4 * k → w j = w' j) (ok : okF w k) : okF w' k := fun j hj => by
  have := ok j hj
  rw [h _ (by omega), h _ (by omega), h _ (by omega), h _ (by omega)] at this
  exact this
/-- what stuffs answers and does -/
noncomputable def h_stuffs (A A' : AS) (r x : Int32) : Prop := (¬ (0 ≤ r.toInt ∧ r.toInt ≤ 5) ∧ x = -1 ∧ A' = A) ∨ ((0 ≤ r.toInt ∧ r.toInt ≤ 5) ∧ (A.1 r.toInt.toNat < 0 ∨ A.1 r.toInt.toNat % 4 ≠ 0) ∧ x = -3 ∧ A' = A) ∨ ((0 ≤ r.toInt ∧ r.toInt ≤ 5) ∧ 0 ≤ A.1 r.toInt.toNat ∧ A.1 r.toInt.toNat % 4 = 0 ∧ 16 < A.2.2.1.1.toInt + A.1 r.toInt.toNat / 4 ∧ x = -2 ∧ A' = A) ∨ ((0 ≤ r.toInt ∧ r.toInt ≤ 5) ∧ 0 ≤ A.1 r.toInt.toNat ∧ A.1 r.toInt.toNat % 4 = 0 ∧ A.2.2.1.1.toInt + A.1 r.toInt.toNat / 4 ≤ 16 ∧ ¬ okF (A.2.1 r.toInt.toNat) (A.1 r.toInt.toNat / 4).toNat ∧ x = -3 ∧ A' = A) ∨ ((0 ≤ r.toInt ∧ r.toInt ≤ 5) ∧ 0 ≤ A.1 r.toInt.toNat ∧ A.1 r.toInt.toNat % 4 = 0 ∧ A.2.2.1.1.toInt + A.1 r.toInt.toNat / 4 ≤ 16 ∧ okF (A.2.1 r.toInt.toNat) (A.1 r.toInt.toNat / 4).toNat ∧ x.toInt = A.1 r.toInt.toNat / 4 ∧ A' = g_fours A (A.2.1 r.toInt.toNat) (A.1 r.toInt.toNat / 4).toNat)
noncomputable def g_debt (A : AS) (s v : Int32) : AS := if (0 ≤ s.toInt ∧ s.toInt < A.2.2.1.1.toInt) ∧ 0 ≤ v.toInt ∧ v.toInt ≤ 999 then (A.1, A.2.1, A.2.2.1, upd A.2.2.2.1 (5 * s.toInt.toNat + 4) v, A.2.2.2.2) else A
noncomputable def f_debt (A : AS) (s v : Int32) : Int32 := if (0 ≤ s.toInt ∧ s.toInt < A.2.2.1.1.toInt) ∧ 0 ≤ v.toInt ∧ v.toInt ≤ 999 then A.2.2.2.1 (5 * s.toInt.toNat + 4) else -1
/-! ### ROWS -/
theorem zn_le {x y : Int} (h : zn x y) : (0 ≤ x ↔ 0 ≤ y) ∧ (0 ≤ x → x = y) := by
  unfold zn at h
  omega
set_option maxRecDepth 100000 in
set_option maxHeartbeats 4000000 in
theorem la_Ca (Q : nk_Q) (s : nx_S) (R I V : Int32) (hInv : nx_Inv gC s) (hq : ∀ (s1 : nx_S) (r : Int32), nx_Inv gC s1 → (∀ A : AS, aC s A → aC s1 (g_lay A R I V)) → Q (some (.int r)) (nx_enc s1 0 shC)) : ev_X5_lay [.ref 0, .int R, .int I, .int V] (nx_enc s 0 shC) Q := by
  refine nx_s (nx_s (nx_s (nx_s (nx_s (nx_s ?_)))))
  refine rp_C _ s R I hInv (fun r0 r1 i0 i1 => ?_) (fun hn => ?_) (fun s1 hm r0 r1 hn => ?_)
  rotate_left
  · refine nx_s (nx_s (nx_s ?_))
    refine nk_br.f (by decide) ?_
    refine nx_s (nx_s ?_)
    exact hq s _ hInv (fun A h => by unfold g_lay; rw [if_neg (fun c => hn c.1)]; exact h)
  · refine nx_s (nx_s (nx_s ?_))
    refine nk_br.f (by decide) ?_
    refine nx_s (nx_s ?_)
    refine hq s1 _ (fd_inv hInv hm) (fun A h => ?_)
    have hz := zn_le (h.1 R.toInt.toNat (by omega))
    have hz2 : zC s R.toInt.toNat = (s.2.2.1 (29 + 2 * R.toInt.toNat) 1).toInt := rfl
    unfold g_lay
    rw [if_neg (fun c => by
      have c2 := c.2
      omega)]
    exact aC_fd hm h
  obtain ⟨hq1, hr⟩ := rq_ey hInv (R := R) r0 r1
  have hz : zC s R.toInt.toNat = (s.2.2.1 (29 + 2 * R.toInt.toNat) 1).toInt := rfl
  have hb := hr.2.2.2
  have hIn : I.toNatClampNeg = I.toInt.toNat := (Int32.toNat_toInt I).symm
  have fin : ∀ x : Int32, ∀ A : AS, aC s A → aC (nx_ui (nx_uf s 0 10 x) (29 + 2 * R.toInt.toNat + 1) (upd (s.1 (29 + 2 * R.toInt.toNat + 1)) I.toNatClampNeg V)) (g_lay A R I V) := fun x A h => by
    have hzn := zn_le (h.1 R.toInt.toNat (by omega))
    have e1 : 29 + 2 * R.toInt.toNat + 1 = 30 + 2 * R.toInt.toNat := by omega
    unfold g_lay
    rw [if_pos (show okP A.1 R I from ⟨⟨r0, r1⟩, by omega, i0, by omega⟩), e1, hIn]
    refine aC_row (aC_as h) (by omega) (fun _ _ => rfl) (fun k j hk hj => ?_) rfl
    show (if k = R.toInt.toNat ∧ j = I.toInt.toNat then V else A.2.1 k j) = if k = R.toInt.toNat then upd (s.1 (30 + 2 * R.toInt.toNat)) I.toInt.toNat V j else A.2.1 k j
    by_cases ek : k = R.toInt.toNat
    · rw [if_pos ek]
      by_cases ej : j = I.toInt.toNat
      · rw [if_pos ⟨ek, ej⟩, ej, upd_s]
      · rw [if_neg (fun q => ej q.2), upd_n _ _ ej, ← ek]
        exact (h.2.1 k j hk hj).symm
    · rw [if_neg (fun q => ek q.1), if_neg ek]
  rw [hz] at i1
  generalize 29 + 2 * R.toInt.toNat = q at *
  refine nx_s (nx_s (nx_s ?_))
  refine nk_br.t (by decide) ?_
  refine nx_s (nx_s (nx_s (nx_s (nx_s ?_))))
  refine ⟨nx_in (n := 6) r0 (by omega), ?_⟩
  show nk_wp kx_X5_lay kc_X5_lay Q 27 [some (.ref 0), some (.int R), some (.int I), some (.int V), some (.int 0)] [va_rf (nk_lg [29, 31, 33, 35, 37, 39] R.toNatClampNeg), .ref 0] (nx_enc s 0 shC) 0 0
  rw [hq1]
  refine nx_gq rfl rfl hr.1 rfl ?_
  show nk_wp kx_X5_lay kc_X5_lay Q 30 [some (.ref 0), some (.int R), some (.int I), some (.int V), some (.int 0)] [.ref (q + 1), .ref 0] (nx_enc s 0 shC) 0 0
  refine nx_s (nx_iq rfl hr.2.1 (nx_in (n := 40) i0 (by omega)) ?_)
  refine nx_s (nx_s (nx_s (nx_s (nx_s ?_))))
  refine ⟨nx_in (n := 6) r0 (by omega), ?_⟩
  show nk_wp kx_X5_lay kc_X5_lay Q 41 [some (.ref 0), some (.int R), some (.int I), some (.int V), some (.int 0)] [va_rf (nk_lg [29, 31, 33, 35, 37, 39] R.toNatClampNeg)] (nx_enc (nx_uf s 0 10 (s.1 (q + 1) I.toNatClampNeg)) 0 shC) 0 0
  rw [hq1]
  refine nx_gq rfl rfl hr.1 rfl ?_
  show nk_wp kx_X5_lay kc_X5_lay Q 44 [some (.ref 0), some (.int R), some (.int I), some (.int V), some (.int 0)] [.ref (q + 1)] (nx_enc (nx_uf s 0 10 (s.1 (q + 1) I.toNatClampNeg)) 0 shC) 0 0
  refine nx_s (nx_s (nx_iw rfl hr.2.1 (nx_in (n := 40) i0 (by omega)) ?_))
  refine nx_s (nx_s ?_)
  have hr2 : rq_C (nx_uf s 0 10 (s.1 (q + 1) I.toNatClampNeg)) q := rq_at hr (by
    show (if q = 0 ∧ 1 = 10 then _ else s.2.2.1 q 1) = s.2.2.1 q 1
    rw [if_neg (fun e => absurd e.2 (by decide))])
  exact hq _ _ (rq_inv (af_inv hInv) hr2 _) (fin _)
set_option maxRecDepth 100000 in
set_option maxHeartbeats 4000000 in
theorem te_Ca (Q : nk_Q) (s : nx_S) (R : Int32) (hInv : nx_Inv gC s) (hq : ∀ (s1 : nx_S) (r : Int32), nx_Inv gC s1 → (∀ A : AS, aC s A → aC s1 (g_tear A R)) → Q (some (.int r)) (nx_enc s1 0 shC)) : ev_X5_tear [.ref 0, .int R] (nx_enc s 0 shC) Q := by
  have h6 : (6 : Int32).toInt = 6 := rfl
  have hm1 : (-1 : Int32).toInt = -1 := rfl
  refine nx_s (nx_s (nx_s ?_))
  refine wi_C _ _ R 6 (fun r0 r1 => ?_) (fun hn => ?_)
  rotate_left
  · refine nx_s ?_
    refine nk_br.t (by decide) ?_
    refine nx_s (nx_s ?_)
    exact hq s _ hInv (fun A h => by unfold g_tear; rw [if_neg (fun c => by omega)]; exact h)
  refine nx_s ?_
  refine nk_br.f (by decide) ?_
  obtain ⟨hq1, hr⟩ := rq_ey hInv (R := R) r0 (by omega)
  refine nx_s (nx_s (nx_s (nx_s ?_)))
  refine ⟨nx_in (n := 6) r0 (by omega), ?_⟩
  show nk_wp kx_X5_tear kc_X5_tear Q 17 [some (.ref 0), some (.int R)] [va_rf (nk_lg [29, 31, 33, 35, 37, 39] R.toNatClampNeg)] (nx_enc s 0 shC) 0 0
  rw [hq1]
  refine nx_s ?_
  refine (nk_obm hr.1 ?_ : nk_obj (nx_enc s 0 shC) (29 + 2 * R.toInt.toNat) 3 (fun _ => ev_X3_isMissing [.ref (29 + 2 * R.toInt.toNat)] (nx_enc s 0 shC) (fun r h' => nk_ret r [] (fun Z => nk_wp kx_X5_tear kc_X5_tear Q 20 [some (.ref 0), some (.int R)] Z h' 0 0))))
  refine mi_C _ s _ hr (fun zq => ?_) (fun zq => ?_)
  · refine nx_s ?_
    refine nk_br.f (by decide) ?_
    refine nx_s (nx_s (nx_s ?_))
    refine fd_C _ s 1 (by decide) (by decide) (fun s1 hm => ?_)
    refine nx_s ?_
    refine hq s1 _ (fd_inv hInv hm) (fun A h => ?_)
    have hz := zn_le (h.1 R.toInt.toNat (by omega))
    unfold g_tear
    rw [if_neg (fun c => by omega)]
    exact aC_fd hm h
  refine nx_s ?_
  refine nk_br.t (by decide) ?_
  refine nx_s (nx_s (nx_s (nx_s ?_)))
  refine ⟨nx_in (n := 6) r0 (by omega), ?_⟩
  show nk_wp kx_X5_tear kc_X5_tear Q 35 [some (.ref 0), some (.int R)] [va_rf (nk_lg [29, 31, 33, 35, 37, 39] R.toNatClampNeg)] (nx_enc s 0 shC) 0 0
  rw [hq1]
  refine nx_s (nx_pq rfl rfl hr.1 rfl ?_)
  refine nx_s (nx_s ?_)
  refine hq _ _ (zf_inv hInv (by omega) (by decide) (by decide)) (fun A h => ?_)
  have hz := zn_le (h.1 R.toInt.toNat (by omega))
  unfold g_tear
  rw [if_pos ⟨⟨r0, by omega⟩, by omega⟩]
  exact aC_siz h (by omega) (fun k hk => rfl) rfl
set_option maxRecDepth 100000 in
theorem bb_Ca (Q : nk_Q) (s : nx_S) (q : Nat) (N V : Int32) (hr : rq_C s q) (hq : ∀ f : Nat → Int32, (∀ j : Nat, j < 40 → f j = V) → Q none (nx_enc (nx_uf (nx_ui s (q + 1) f) q 1 N) 0 shC)) : ∀ (n i : Nat) (I : Int32) (f : Nat → Int32), i + n = 40 → I.toInt = i → (∀ j : Nat, j < i → f j = V) → nk_wp kx_X3_begin kc_X3_begin Q 2 [some (.ref q), some (.int N), some (.int V), some (.int I)] [] (nx_enc (nx_ui s (q + 1) f) 0 shC) 0 0 := by
  have h40 : (40 : Int32).toInt = 40 := rfl
  have h1 : (1 : Int32).toInt = 1 := rfl
  intro n
  induction n with
  | zero =>
    intro i I f hi hI hf
    refine nx_s (nx_s (nx_s ?_))
    refine nk_br.t (i_le (by omega)) ?_
    refine nx_s (nx_s (nx_pq rfl rfl hr.1 rfl ?_))
    refine nx_s ?_
    exact hq f (fun j hj => hf j (by omega))
  | succ n ih =>
    intro i I f hi hI hf
    have e1 : (I + 1).toInt = ((i + 1 : Nat) : Int) := by
      rw [i_add (by omega) (by omega)]
      omega
    have eI : I.toNatClampNeg = i := nx_cl hI
    refine nx_s (nx_s (nx_s ?_))
    refine nk_br.f (i_nle (by omega)) ?_
    refine nx_s (nx_gq rfl rfl hr.1 rfl ?_)
    show nk_wp kx_X3_begin kc_X3_begin Q 12 [some (.ref q), some (.int N), some (.int V), some (.int I)] [.ref (q + 1)] (nx_enc (nx_ui s (q + 1) f) 0 shC) 0 0
    refine nx_s (nx_s (nx_iw rfl hr.2.1 (nx_in (n := 40) (by omega) (by omega)) ?_))
    rw [nx_uu, nx_u1, eI]
    refine nx_s (nx_s ?_)
    refine ih (i + 1) (I + 1) _ (by omega) e1 (fun j hj => ?_)
    by_cases ej : j = i
    · rw [ej, upd_s]
    · rw [upd_n _ _ ej]
      exact hf j (by omega)
set_option maxRecDepth 100000 in
set_option maxHeartbeats 4000000 in
theorem ro_Ca (Q : nk_Q) (s : nx_S) (R N : Int32) (hInv : nx_Inv gC s) (hq : ∀ (s1 : nx_S) (r : Int32), nx_Inv gC s1 → (∀ A : AS, aC s A → aC s1 (g_row A R N)) → Q (some (.int r)) (nx_enc s1 0 shC)) : ev_X5_row [.ref 0, .int R, .int N] (nx_enc s 0 shC) Q := by
  have h6 : (Int32.ofNat 6).toInt = 6 := rfl
  have h40 : (40 : Int32).toInt = 40 := rfl
  have h0 : (0 : Int32).toInt = 0 := rfl
  have bad : ¬ ((0 ≤ R.toInt ∧ R.toInt ≤ 5) ∧ N.toInt ≤ 40) → nk_wp kx_X5_begin kc_X5_begin (fun v h' => nk_ret v [] (fun T => nk_wp kx_X5_row kc_X5_row Q 11 [some (.ref 0), some (.int R), some (.int N)] T h' 0 0)) 15 [some (.ref 0), some (.ref 1), some (.int R), some (.int N), some (.int 0)] [] (nx_enc s 0 shC) 0 0 := by
    intro hn
    refine nx_s (nx_s ?_)
    refine nx_s ?_
    exact hq s _ hInv (fun A h => by unfold g_row; rw [if_neg (fun c => by omega)]; exact h)
  refine nx_s (nx_s (nx_s (nx_s (nx_s (nx_s (nx_s ?_))))))
  refine nx_s (nx_s (nx_s (nx_s ?_)))
  refine wi_C _ _ R (Int32.ofNat 6) (fun r0 r1 => ?_) (fun hn => ?_)
  rotate_left
  · refine nx_s ?_
    refine nk_br.t (by decide) ?_
    exact bad (by omega)
  refine nx_s ?_
  refine nk_br.f (by decide) ?_
  refine nx_s (nx_s (nx_s ?_))
  refine br_le (fun n1 => ?_) (fun n1 => ?_)
  rotate_left
  · exact bad (by omega)
  refine nx_s (nx_s ?_)
  refine br_le (fun n0 => ?_) (fun n0 => ?_)
  rotate_left
  · refine nx_s (nx_s (nx_s ?_))
    refine fd_C _ s 5 (by decide) (by decide) (fun s1 hm => ?_)
    refine nx_s (nx_s ?_)
    exact hq s1 _ (fd_inv hInv hm) (fun A h => by unfold g_row; rw [if_neg (fun c => by omega)]; exact aC_fd hm h)
  obtain ⟨hq1, hr⟩ := rq_ey hInv (R := R) r0 (by omega)
  refine nx_s (nx_s (nx_s ?_))
  refine ⟨nx_in (n := 6) r0 (by omega), ?_⟩
  show nk_wp kx_X5_begin kc_X5_begin (fun v h' => nk_ret v [] (fun T => nk_wp kx_X5_row kc_X5_row Q 11 [some (.ref 0), some (.int R), some (.int N)] T h' 0 0)) 30 [some (.ref 0), some (.ref 1), some (.int R), some (.int N), some (.int 0)] [va_rf (nk_lg [29, 31, 33, 35, 37, 39] R.toNatClampNeg)] (nx_enc s 0 shC) 0 0
  rw [hq1]
  refine nx_s (nx_s (nx_s ?_))
  refine (nk_obm hr.1 ?_ : nk_obj (nx_enc s 0 shC) (29 + 2 * R.toInt.toNat) 3 (fun _ => ev_X3_begin [.ref (29 + 2 * R.toInt.toNat), .int N, .int 0] (nx_enc s 0 shC) (fun r h' => nk_ret r [] (fun Z => nk_wp kx_X5_begin kc_X5_begin (fun v h' => nk_ret v [] (fun T => nk_wp kx_X5_row kc_X5_row Q 11 [some (.ref 0), some (.int R), some (.int N)] T h' 0 0)) 36 [some (.ref 0), some (.ref 1), some (.int R), some (.int N), some (.int 0)] Z h' 0 0))))
  refine nx_s (nx_s ?_)
  have es : s = nx_ui s (29 + 2 * R.toInt.toNat + 1) (s.1 (29 + 2 * R.toInt.toNat + 1)) := by
    refine Prod.ext (funext (fun q => ?_)) rfl
    show s.1 q = if q = 29 + 2 * R.toInt.toNat + 1 then _ else s.1 q
    by_cases e : q = 29 + 2 * R.toInt.toNat + 1
    · rw [if_pos e, e]
    · rw [if_neg e]
  have go := bb_Ca (fun r h' => nk_ret r [] (fun Z => nk_wp kx_X5_begin kc_X5_begin (fun v h' => nk_ret v [] (fun T => nk_wp kx_X5_row kc_X5_row Q 11 [some (.ref 0), some (.int R), some (.int N)] T h' 0 0)) 36 [some (.ref 0), some (.ref 1), some (.int R), some (.int N), some (.int 0)] Z h' 0 0)) s (29 + 2 * R.toInt.toNat) N 0 hr (fun f hf => ?_) 40 0 0 (s.1 (29 + 2 * R.toInt.toNat + 1)) rfl rfl (fun j hj => absurd hj (Nat.not_lt_zero j))
  · rw [← es] at go
    exact go
  refine nx_s (nx_s (nx_s ?_))
  refine hq _ _ (zf_inv (rq_inv hInv hr f) (by omega) (by omega) (by omega)) (fun A h => ?_)
  have e1 : 29 + 2 * R.toInt.toNat + 1 = 30 + 2 * R.toInt.toNat := by omega
  unfold g_row
  rw [if_pos ⟨⟨r0, by omega⟩, by omega, by omega⟩, e1]
  refine aC_siz (aC_row (A' := (A.1, fun k j => if k = R.toInt.toNat then 0 else A.2.1 k j, A.2.2)) h (by omega) (fun _ _ => rfl) (fun k j hk hj => ?_) rfl) (by omega) (fun k hk => rfl) rfl
  show (if k = R.toInt.toNat then 0 else A.2.1 k j) = if k = R.toInt.toNat then f j else A.2.1 k j
  by_cases ek : k = R.toInt.toNat
  · rw [if_pos ek, if_pos ek, hf j hj]
  · rw [if_neg ek, if_neg ek]
theorem acp_Cx {s : nx_S} {sh : List nx_C} {Q : nk_Q} {q0 q1 n0 n1 : Nat} {l0 l1 : List Nat} {sp dp n : Int32} (g0 : nk_lg sh q0 = some (.inr (0, n0, l0))) (g1 : nk_lg sh q1 = some (.inr (0, n1, l1))) (a : 0 ≤ sp.toInt) (b : 0 ≤ dp.toInt) (c : 0 ≤ n.toInt) (d : sp.toInt + n.toInt ≤ n0) (e : dp.toInt + n.toInt ≤ n1) (hq : Q none (nx_enc (nx_ui s q1 (fun k => if dp.toInt.toNat ≤ k ∧ k < dp.toInt.toNat + n.toInt.toNat then s.1 q0 (sp.toInt.toNat + (k - dp.toInt.toNat)) else s.1 q1 k)) 0 sh)) : nk_acp [.ref q0, .int sp, .ref q1, .int dp, .int n] (nx_enc s 0 sh) Q := by
  have a0 : (0 : Int32).toInt = 0 := rfl
  have e1 : sp.toInt.toNat = sp.toNatClampNeg := Int32.toNat_toInt sp
  have e2 : dp.toInt.toNat = dp.toNatClampNeg := Int32.toNat_toInt dp
  have e3 : n.toInt.toNat = n.toNatClampNeg := Int32.toNat_toInt n
  have ng : ∀ x : Int32, 0 ≤ x.toInt → ¬ x < 0 := fun x hx h => by
    have := Int32.lt_iff_toInt_lt.mp h
    omega
  refine ⟨q0, q1, sp, dp, n, n0, n1, s.1 q0, s.1 q1, rfl, nx_ge g0, nx_ge g1, ng _ a, ng _ b, ng _ c, by omega, by omega, ?_⟩
  rw [nx_set_i _ g1]
  rw [e1, e2, e3] at hq
  exact hq
set_option maxRecDepth 100000 in
set_option maxHeartbeats 4000000 in
theorem cp_Ca (Q : nk_Q) (s : nx_S) (R I T J N : Int32) (hInv : nx_Inv gC s) (hq : ∀ (s1 : nx_S) (r : Int32), nx_Inv gC s1 → (∀ A : AS, aC s A → aC s1 (g_copy A R I T J N)) → Q (some (.int r)) (nx_enc s1 0 shC)) : ev_X5_copy [.ref 0, .int R, .int I, .int T, .int J, .int N] (nx_enc s 0 shC) Q := by
  have h0 : (0 : Int32).toInt = 0 := rfl
  have h6 : (6 : Int32).toInt = 6 := rfl
  refine nx_s (nx_s (nx_s ?_))
  refine wi_C _ _ R 6 (fun r0 r1 => ?_) (fun hn => ?_)
  rotate_left
  · refine nx_s ?_
    refine nk_br.t (by decide) ?_
    refine nx_s (nx_s ?_)
    exact hq s _ hInv (fun A h => by unfold g_copy; rw [if_neg (fun c => by have c1 := c.1; omega)]; exact h)
  refine nx_s ?_
  refine nk_br.f (by decide) ?_
  refine nx_s (nx_s (nx_s ?_))
  refine wi_C _ _ T 6 (fun t0 t1 => ?_) (fun hn => ?_)
  rotate_left
  · refine nx_s ?_
    refine nk_br.t (by decide) ?_
    refine nx_s (nx_s ?_)
    exact hq s _ hInv (fun A h => by unfold g_copy; rw [if_neg (fun c => by have c1 := c.1; omega)]; exact h)
  refine nx_s ?_
  refine nk_br.f (by decide) ?_
  obtain ⟨hq1, hrq⟩ := rq_ey hInv (R := R) r0 (by omega)
  obtain ⟨ht1, hrt⟩ := rq_ey hInv (R := T) t0 (by omega)
  have hzq : zC s R.toInt.toNat = (s.2.2.1 (29 + 2 * R.toInt.toNat) 1).toInt := rfl
  have hzt : zC s T.toInt.toNat = (s.2.2.1 (29 + 2 * T.toInt.toNat) 1).toInt := rfl
  have hRT : (0 ≤ R.toInt ∧ R.toInt ≤ 5) ∧ (0 ≤ T.toInt ∧ T.toInt ≤ 5) := ⟨⟨r0, by omega⟩, t0, by omega⟩
  have keep : ¬ (0 ≤ N.toInt ∧ (0 ≤ (s.2.2.1 (29 + 2 * R.toInt.toNat) 1).toInt ∧ 0 ≤ (s.2.2.1 (29 + 2 * T.toInt.toNat) 1).toInt) ∧ (0 ≤ I.toInt ∧ I.toInt + N.toInt ≤ (s.2.2.1 (29 + 2 * R.toInt.toNat) 1).toInt) ∧ 0 ≤ J.toInt ∧ J.toInt + N.toInt ≤ (s.2.2.1 (29 + 2 * T.toInt.toNat) 1).toInt) → ∀ s1 : nx_S, (∀ A : AS, aC s A → aC s1 A) → ∀ A : AS, aC s A → aC s1 (g_copy A R I T J N) := fun hc s1 hk A h => by
    have z1 := zn_le (h.1 R.toInt.toNat (by omega))
    have z2 := zn_le (h.1 T.toInt.toNat (by omega))
    unfold g_copy
    rw [if_neg (fun c => by
      have c2 := c.2
      omega)]
    exact hk A h
  have fin : (0 ≤ N.toInt ∧ (0 ≤ (s.2.2.1 (29 + 2 * R.toInt.toNat) 1).toInt ∧ 0 ≤ (s.2.2.1 (29 + 2 * T.toInt.toNat) 1).toInt) ∧ (0 ≤ I.toInt ∧ I.toInt + N.toInt ≤ (s.2.2.1 (29 + 2 * R.toInt.toNat) 1).toInt) ∧ 0 ≤ J.toInt ∧ J.toInt + N.toInt ≤ (s.2.2.1 (29 + 2 * T.toInt.toNat) 1).toInt) → ∀ A : AS, aC s A → aC (nx_ui s (29 + 2 * T.toInt.toNat + 1) (fun k => if J.toInt.toNat ≤ k ∧ k < J.toInt.toNat + N.toInt.toNat then s.1 (29 + 2 * R.toInt.toNat + 1) (I.toInt.toNat + (k - J.toInt.toNat)) else s.1 (29 + 2 * T.toInt.toNat + 1) k)) (g_copy A R I T J N) := fun hc A h => by
    have z1 := zn_le (h.1 R.toInt.toNat (by omega))
    have z2 := zn_le (h.1 T.toInt.toNat (by omega))
    have bq := hrq.2.2.2
    have bt := hrt.2.2.2
    have e1 : 29 + 2 * T.toInt.toNat + 1 = 30 + 2 * T.toInt.toNat := by omega
    have e2 : 29 + 2 * R.toInt.toNat + 1 = 30 + 2 * R.toInt.toNat := by omega
    unfold g_copy
    rw [if_pos (show okM A.1 R I T J N from ⟨hRT, by omega, by omega, by omega, by omega, by omega⟩), e1, e2]
    refine aC_row h (by omega) (fun _ _ => rfl) (fun k j hk hj => ?_) rfl
    show (if k = T.toInt.toNat ∧ J.toInt.toNat ≤ j ∧ j < J.toInt.toNat + N.toInt.toNat then A.2.1 R.toInt.toNat (I.toInt.toNat + (j - J.toInt.toNat)) else A.2.1 k j) = if k = T.toInt.toNat then (if J.toInt.toNat ≤ j ∧ j < J.toInt.toNat + N.toInt.toNat then s.1 (30 + 2 * R.toInt.toNat) (I.toInt.toNat + (j - J.toInt.toNat)) else s.1 (30 + 2 * T.toInt.toNat) j) else A.2.1 k j
    by_cases ek : k = T.toInt.toNat
    · rw [if_pos ek]
      by_cases ej : J.toInt.toNat ≤ j ∧ j < J.toInt.toNat + N.toInt.toNat
      · rw [if_pos ⟨ek, ej⟩, if_pos ej]
        exact (h.2.1 _ _ (by omega) (by omega)).symm
      · rw [if_neg (fun q => ej q.2), if_neg ej, ← ek]
        exact (h.2.1 k j hk hj).symm
    · rw [if_neg (fun q => ek q.1), if_neg ek]
  generalize 29 + 2 * R.toInt.toNat = q at *
  generalize 29 + 2 * T.toInt.toNat = t at *
  have bq := hrq.2.2.2
  have bt := hrt.2.2.2
  refine nx_s (nx_s ?_)
  refine br_le (fun n0 => ?_) (fun n0 => ?_)
  rotate_left
  · refine nx_s (nx_s (nx_s ?_))
    refine fd_C _ s 5 (by decide) (by decide) (fun s1 hm => ?_)
    refine nx_s ?_
    exact hq s1 _ (fd_inv hInv hm) (keep (fun h => by omega) s1 (fun A h => aC_fd hm h))
  refine nx_s (nx_s (nx_s (nx_s ?_)))
  refine ⟨nx_in (n := 6) r0 (by omega), ?_⟩
  show nk_wp kx_X5_copy kc_X5_copy Q 37 [some (.ref 0), some (.int R), some (.int I), some (.int T), some (.int J), some (.int N), none, none] [va_rf (nk_lg [29, 31, 33, 35, 37, 39] R.toNatClampNeg)] (nx_enc s 0 shC) 0 0
  rw [hq1]
  refine nx_s (nx_s (nx_s (nx_s (nx_s ?_))))
  refine ⟨nx_in (n := 6) t0 (by omega), ?_⟩
  show nk_wp kx_X5_copy kc_X5_copy Q 45 [some (.ref 0), some (.int R), some (.int I), some (.int T), some (.int J), some (.int N), some (.ref q), none] [va_rf (nk_lg [29, 31, 33, 35, 37, 39] T.toNatClampNeg)] (nx_enc s 0 shC) 0 0
  rw [ht1]
  have nothing : ¬ (0 ≤ N.toInt ∧ (0 ≤ (s.2.2.1 q 1).toInt ∧ 0 ≤ (s.2.2.1 t 1).toInt) ∧ (0 ≤ I.toInt ∧ I.toInt + N.toInt ≤ (s.2.2.1 q 1).toInt) ∧ 0 ≤ J.toInt ∧ J.toInt + N.toInt ≤ (s.2.2.1 t 1).toInt) → nk_wp kx_X5_copy kc_X5_copy Q 63 [some (.ref 0), some (.int R), some (.int I), some (.int T), some (.int J), some (.int N), some (.ref q), some (.ref t)] [] (nx_enc s 0 shC) 0 0 := by
    intro hc
    refine nx_s (nx_s (nx_s ?_))
    refine fd_C _ s 1 (by decide) (by decide) (fun s1 hm => ?_)
    refine nx_s ?_
    exact hq s1 _ (fd_inv hInv hm) (keep hc s1 (fun A h => aC_fd hm h))
  have beyond : ¬ (0 ≤ N.toInt ∧ (0 ≤ (s.2.2.1 q 1).toInt ∧ 0 ≤ (s.2.2.1 t 1).toInt) ∧ (0 ≤ I.toInt ∧ I.toInt + N.toInt ≤ (s.2.2.1 q 1).toInt) ∧ 0 ≤ J.toInt ∧ J.toInt + N.toInt ≤ (s.2.2.1 t 1).toInt) → nk_wp kx_X5_copy kc_X5_copy Q 92 [some (.ref 0), some (.int R), some (.int I), some (.int T), some (.int J), some (.int N), some (.ref q), some (.ref t)] [] (nx_enc s 0 shC) 0 0 := by
    intro hc
    refine nx_s (nx_s (nx_s ?_))
    refine fd_C _ s 2 (by decide) (by decide) (fun s1 hm => ?_)
    refine nx_s ?_
    exact hq s1 _ (fd_inv hInv hm) (keep hc s1 (fun A h => aC_fd hm h))
  refine nx_s (nx_s (nx_s ?_))
  refine (nk_obm hrq.1 ?_ : nk_obj (nx_enc s 0 shC) q 3 (fun _ => ev_X3_isMissing [.ref q] (nx_enc s 0 shC) (fun r h' => nk_ret r [] (fun Z => nk_wp kx_X5_copy kc_X5_copy Q 52 [some (.ref 0), some (.int R), some (.int I), some (.int T), some (.int J), some (.int N), some (.ref q), some (.ref t)] Z h' 0 0))))
  refine mi_C _ s q hrq (fun zq => ?_) (fun zq => ?_)
  · refine nx_s ?_
    refine nk_br.f (by decide) ?_
    exact nothing (fun h => by omega)
  refine nx_s ?_
  refine nk_br.t (by decide) ?_
  refine nx_s (nx_s ?_)
  refine (nk_obm hrt.1 ?_ : nk_obj (nx_enc s 0 shC) t 3 (fun _ => ev_X3_isMissing [.ref t] (nx_enc s 0 shC) (fun r h' => nk_ret r [] (fun Z => nk_wp kx_X5_copy kc_X5_copy Q 60 [some (.ref 0), some (.int R), some (.int I), some (.int T), some (.int J), some (.int N), some (.ref q), some (.ref t)] Z h' 0 0))))
  refine mi_C _ s t hrt (fun zt => ?_) (fun zt => ?_)
  · refine nx_s ?_
    refine nk_br.f (by decide) ?_
    exact nothing (fun h => by omega)
  refine nx_s ?_
  refine nk_br.t (by decide) ?_
  refine nx_s (nx_s (nx_s (nx_s ?_)))
  refine (nk_obm hrq.1 ?_ : nk_obj (nx_enc s 0 shC) q 3 (fun _ => ev_X3_hasFrom [.ref q, .int I, .int N] (nx_enc s 0 shC) (fun r h' => nk_ret r [] (fun Z => nk_wp kx_X5_copy kc_X5_copy Q 77 [some (.ref 0), some (.int R), some (.int I), some (.int T), some (.int J), some (.int N), some (.ref q), some (.ref t)] Z h' 0 0))))
  refine hf_Cx _ s q I N hrq (by omega) (fun i0 i1 => ?_) (fun hn => ?_)
  rotate_left
  · refine nx_s ?_
    refine nk_br.t (by decide) ?_
    exact beyond (fun h => by omega)
  refine nx_s ?_
  refine nk_br.f (by decide) ?_
  refine nx_s (nx_s (nx_s (nx_s ?_)))
  refine (nk_obm hrt.1 ?_ : nk_obj (nx_enc s 0 shC) t 3 (fun _ => ev_X3_hasFrom [.ref t, .int J, .int N] (nx_enc s 0 shC) (fun r h' => nk_ret r [] (fun Z => nk_wp kx_X5_copy kc_X5_copy Q 89 [some (.ref 0), some (.int R), some (.int I), some (.int T), some (.int J), some (.int N), some (.ref q), some (.ref t)] Z h' 0 0))))
  refine hf_Cx _ s t J N hrt (by omega) (fun j0 j1 => ?_) (fun hn => ?_)
  rotate_left
  · refine nx_s ?_
    refine nk_br.t (by decide) ?_
    exact beyond (fun h => by omega)
  refine nx_s ?_
  refine nk_br.f (by decide) ?_
  refine nx_s (nx_gq rfl rfl hrq.1 rfl ?_)
  refine nx_s (nx_s (nx_gq rfl rfl hrt.1 rfl ?_))
  show nk_wp kx_X5_copy kc_X5_copy Q 109 [some (.ref 0), some (.int R), some (.int I), some (.int T), some (.int J), some (.int N), some (.ref q), some (.ref t)] [.ref (t + 1), .int I, .ref (q + 1)] (nx_enc s 0 shC) 0 0
  refine nx_s (nx_s (nx_s ?_))
  show nk_acp [.ref (q + 1), .int I, .ref (t + 1), .int J, .int N] (nx_enc s 0 shC) (fun r h' => nk_ret r [] (fun Z => nk_wp kx_X5_copy kc_X5_copy Q 116 [some (.ref 0), some (.int R), some (.int I), some (.int T), some (.int J), some (.int N), some (.ref q), some (.ref t)] Z h' 0 0))
  refine acp_Cx (s := s) (q0 := q + 1) (q1 := t + 1) (sp := I) (dp := J) (n := N) hrq.2.1 hrt.2.1 i0 j0 (by omega) (by omega) (by omega) ?_
  refine nx_s (nx_s ?_)
  exact hq _ _ (rq_inv hInv hrt _) (fin ⟨by omega, ⟨by omega, by omega⟩, ⟨i0, i1⟩, j0, j1⟩)
/-! ### STUFFS -/
set_option maxRecDepth 100000 in
theorem it_Cx (Q : nk_Q) (h : nk_H) (a b c d : Int32) (h1 : okS a b c d → Q (some (.int 1)) h) (h2 : ¬ okS a b c d → Q (some (.int 0)) h) : ev_X5_isStuffAsTold [.int a, .int b, .int c, .int d] h Q := by
  have z1 : (1 : Int32).toInt = 1 := rfl
  have z6 : (6 : Int32).toInt = 6 := rfl
  have z10 : (10 : Int32).toInt = 10 := rfl
  have z99 : (99 : Int32).toInt = 99 := rfl
  have no : ¬ okS a b c d → nk_wp kx_X5_isStuffAsTold kc_X5_isStuffAsTold Q 44 [some (.int a), some (.int b), some (.int c), some (.int d)] [] h 0 0 := by
    intro hn
    refine nk_s (nk_s ?_)
    exact nk_bo0 (h2 hn)
  refine nk_s (nk_s (nk_s ?_))
  refine wi_C _ _ a 10 (fun a0 a1 => ?_) (fun hn => ?_)
  rotate_left
  · refine nk_s ?_
    refine nk_br.t (by decide) ?_
    exact no (fun q => by have q1 := q.1; omega)
  refine nk_s ?_
  refine nk_br.f (by decide) ?_
  refine nk_s (nk_s (nk_s ?_))
  refine br_lt (fun e => no (fun q => by have q1 := q.2.1; omega)) (fun b0 => ?_)
  refine nk_s (nk_s (nk_s ?_))
  refine br_lt (fun e => no (fun q => by have q1 := q.2.1; omega)) (fun b1 => ?_)
  refine nk_s (nk_s (nk_s ?_))
  refine br_lt (fun e => no (fun q => by have q1 := q.2.2.1; omega)) (fun c0 => ?_)
  refine nk_s (nk_s (nk_s ?_))
  refine br_lt (fun e => no (fun q => by have q1 := q.2.2.1; omega)) (fun c1 => ?_)
  refine nk_s (nk_s (nk_s ?_))
  refine wi_C _ _ d 6 (fun d0 d1 => ?_) (fun hn => ?_)
  rotate_left
  · refine nk_s ?_
    refine nk_br.t (by decide) ?_
    exact no (fun q => by have q1 := q.2.2.2; omega)
  refine nk_s ?_
  refine nk_br.f (by decide) ?_
  refine nk_s (nk_s (nk_s ?_))
  exact nk_bo1 (h1 ⟨⟨a0, by omega⟩, ⟨by omega, by omega⟩, ⟨by omega, by omega⟩, d0, by omega⟩)
/-- the class behind addStuff -/
noncomputable def ad_s (s : nx_S) (a b c d : Int32) : nx_S := nx_uf (nx_ui s 4 (upd (upd (upd (upd (s.1 4) (5 * (s.2.2.1 3 2).toInt.toNat) a) (5 * (s.2.2.1 3 2).toInt.toNat + 1) b) (5 * (s.2.2.1 3 2).toInt.toNat + 2) c) (5 * (s.2.2.1 3 2).toInt.toNat + 3) d)) 3 2 (s.2.2.1 3 2 + 1)
theorem ad_sP {s : nx_S} (a b c d : Int32) (hInv : nx_Inv gC s) (hN15 : (s.2.2.1 3 2).toInt ≤ 15) : ad_P s (ad_s s a b c d) := by
  have hN := nC_N hInv
  have z1 : (1 : Int32).toInt = 1 := rfl
  refine ⟨fun q h4 => if_neg h4, fun q p hp => if_neg hp, ?_⟩
  show (s.2.2.1 3 2 + 1).toInt = (s.2.2.1 3 2).toInt + 1
  rw [i_add (by omega) (by omega), z1]
set_option maxRecDepth 100000 in
set_option maxHeartbeats 4000000 in
theorem ad_Cx (Q : nk_Q) (s : nx_S) (a b c d : Int32) (hInv : nx_Inv gC s) (hN15 : (s.2.2.1 3 2).toInt ≤ 15) (hq : Q (some (.int (s.2.2.1 3 2))) (nx_enc (ad_s s a b c d) 0 shC)) : ev_X4_addStuff [.ref 3, .int a, .int b, .int c, .int d] (nx_enc s 0 shC) Q := by
  have hN := nC_N hInv
  have z0 : (0 : Int32).toInt = 0 := rfl
  have z1 : (1 : Int32).toInt = 1 := rfl
  have z2 : (2 : Int32).toInt = 2 := rfl
  have z3 : (3 : Int32).toInt = 3 := rfl
  unfold ad_s at hq
  refine nx_s (nx_s ?_)
  show nk_wp kx_X4_addStuff kc_X4_addStuff Q 4 [some (.ref 3), some (.int a), some (.int b), some (.int c), some (.int d), none] [.int (s.2.2.1 3 2)] (nx_enc s 0 shC) 0 0
  have hNp : (s.2.2.1 3 2 + 1).toInt = (s.2.2.1 3 2).toInt + 1 := by
    rw [i_add (by omega) (by omega), z1]
  have hret : s.2.2.1 3 2 + 1 - 1 = s.2.2.1 3 2 := Int32.toInt_inj.mp (by
    rw [Int32.toInt_sub, hNp, z1, na_bm (show (-2147483648 : Int) ≤ _ by omega) (show _ ≤ (2147483647 : Int) by omega)]
    omega)
  generalize hg : s.2.2.1 3 2 = N at *
  have x0 : (N * 5 + 0).toInt = 5 * N.toInt + 0 := i_n5 (by omega) (by omega) (by decide) (by decide)
  have x1 : (N * 5 + 1).toInt = 5 * N.toInt + 1 := i_n5 (by omega) (by omega) (by decide) (by decide)
  have x2 : (N * 5 + 2).toInt = 5 * N.toInt + 2 := i_n5 (by omega) (by omega) (by decide) (by decide)
  have x3 : (N * 5 + 3).toInt = 5 * N.toInt + 3 := i_n5 (by omega) (by omega) (by decide) (by decide)
  have c0 : (N * 5 + 0).toNatClampNeg = 5 * N.toInt.toNat := nx_cl (by omega)
  have c1 : (N * 5 + 1).toNatClampNeg = 5 * N.toInt.toNat + 1 := nx_cl (by omega)
  have c2 : (N * 5 + 2).toNatClampNeg = 5 * N.toInt.toNat + 2 := nx_cl (by omega)
  have c3 : (N * 5 + 3).toNatClampNeg = 5 * N.toInt.toNat + 3 := nx_cl (by omega)
  refine nx_s (nx_s (nx_s (nx_s (nx_s (nx_s (nx_s (nx_s (nx_s (nx_s ?_)))))))))
  refine ⟨nx_in (n := 80) (by omega) (by omega), ?_⟩
  refine nx_s (nx_s (nx_s (nx_s (nx_s (nx_s (nx_s ?_))))))
  refine ⟨nx_in (n := 80) (by omega) (by omega), ?_⟩
  refine nx_s (nx_s (nx_s (nx_s (nx_s (nx_s (nx_s ?_))))))
  refine ⟨nx_in (n := 80) (by omega) (by omega), ?_⟩
  refine nx_s (nx_s (nx_s (nx_s (nx_s (nx_s (nx_s ?_))))))
  refine ⟨nx_in (n := 80) (by omega) (by omega), ?_⟩
  rw [c0, c1, c2, c3, nx_uu, nx_u1, nx_uu, nx_u1, nx_uu, nx_u1]
  refine nx_s (nx_s (nx_s (nx_s (nx_s (nx_s (nx_s (nx_s (nx_s (nx_s (nx_s ?_))))))))))
  show Q (some (.int (s.2.2.1 3 2 + 1 - 1))) (nx_enc (nx_uf (nx_ui s 4 (upd (upd (upd (upd (s.1 4) (5 * N.toInt.toNat) a) (5 * N.toInt.toNat + 1) b) (5 * N.toInt.toNat + 2) c) (5 * N.toInt.toNat + 3) d)) 3 2 (s.2.2.1 3 2 + 1)) 0 shC)
  rw [hg, hret]
  exact hq
theorem upd_c {f g : Nat → Int32} {k i : Nat} {x : Int32} (h : f i = g i) : upd f k x i = upd g k x i := by
  by_cases e : i = k
  · rw [e, upd_s, upd_s]
  · rw [upd_n _ _ e, upd_n _ _ e]
    exact h
theorem aC_add {s : nx_S} {A : AS} (a b c d : Int32) (h : aC s A) : aC (ad_s s a b c d) (g_add A a b c d) := by
  obtain ⟨h1, h2, h5, h6, h7, h8⟩ := h
  have nq : ∀ q : Nat, q ≠ 4 → (ad_s s a b c d).1 q = s.1 q := fun q e => if_neg e
  have nf : ∀ q p : Nat, ¬ (q = 3 ∧ p = 2) → (ad_s s a b c d).2.2.1 q p = s.2.2.1 q p := fun q p e => if_neg e
  refine ⟨fun k hk => ?_, fun k i hk hi => ?_, ?_, ?_, fun i hi => ?_, fun i hi => ?_⟩
  · rw [nf _ _ (fun e => by omega)]
    exact h1 k hk
  · rw [nq _ (by omega)]
    exact h2 k i hk hi
  · show s.2.2.1 3 2 + 1 = A.2.2.1.1 + 1
    rw [h5]
  · rw [nf _ _ (fun e => by omega)]
    exact h6
  · show upd (upd (upd (upd (s.1 4) (5 * (s.2.2.1 3 2).toInt.toNat) a) (5 * (s.2.2.1 3 2).toInt.toNat + 1) b) (5 * (s.2.2.1 3 2).toInt.toNat + 2) c) (5 * (s.2.2.1 3 2).toInt.toNat + 3) d i = _
    rw [h5]
    exact upd_c (upd_c (upd_c (upd_c (h7 i hi))))
  · rw [nq _ (by decide)]
    exact h8 i hi
set_option maxRecDepth 100000 in
set_option maxHeartbeats 4000000 in
theorem su_Ca (Q : nk_Q) (s : nx_S) (a b c d : Int32) (hInv : nx_Inv gC s) (hq : ∀ (s1 : nx_S) (r : Int32), nx_Inv gC s1 → (∀ A : AS, aC s A → aC s1 (g_stuff A a b c d) ∧ r = f_stuff A a b c d) → Q (some (.int r)) (nx_enc s1 0 shC)) : ev_X5_stuff [.ref 0, .int a, .int b, .int c, .int d] (nx_enc s 0 shC) Q := by
  have z16 : (16 : Int32).toInt = 16 := rfl
  refine nx_s (nx_s (nx_s (nx_s (nx_s ?_))))
  refine it_Cx _ _ a b c d (fun ok => ?_) (fun no => ?_)
  rotate_left
  · refine nx_s ?_
    refine nk_br.t (by decide) ?_
    refine nx_s (nx_s ?_)
    refine hq s _ hInv (fun A h => ⟨?_, ?_⟩)
    · unfold g_stuff
      rw [if_neg (fun q => no q.1)]
      exact h
    · unfold f_stuff
      rw [if_neg no]
  refine nx_s ?_
  refine nk_br.f (by decide) ?_
  refine nx_s (nx_s (nx_s (nx_s (nx_s ?_))))
  refine br_lt (fun e => ?_) (fun e => ?_)
  rotate_left
  · have e : (16 : Int32).toInt ≤ (s.2.2.1 3 2).toInt := e
    refine nx_s (nx_s ?_)
    refine hq s _ hInv (fun A h => ?_)
    have h5 := h.2.2.1
    rw [h5] at e
    refine ⟨?_, ?_⟩
    · unfold g_stuff
      rw [if_neg (fun q => by have q2 := q.2; omega)]
      exact h
    · unfold f_stuff
      rw [if_pos ok, if_neg (by omega)]
  have e : (s.2.2.1 3 2).toInt < (16 : Int32).toInt := e
  refine nx_s (nx_s (nx_s (nx_s (nx_s (nx_s (nx_s ?_))))))
  refine ad_Cx _ s a b c d hInv (by omega) ?_
  refine nx_s ?_
  refine hq _ _ (ad_inv hInv (by omega) (ad_sP a b c d hInv (by omega))) (fun A h => ?_)
  have h5 := h.2.2.1
  have e2 : A.2.2.1.1.toInt < 16 := by rw [← h5]; omega
  refine ⟨?_, ?_⟩
  · unfold g_stuff
    rw [if_pos ⟨ok, e2⟩]
    exact aC_add a b c d h
  · unfold f_stuff
    rw [if_pos ok, if_pos e2, h5]
/-! ### stuffs -/
set_option maxRecDepth 100000 in
set_option maxHeartbeats 4000000 in
theorem st_C1a (Q : nk_Q) (s : nx_S) (R : Int32) (q : Nat) (k : Nat) (hInv : nx_Inv gC s) (hr : rq_C s q) (hz : (s.2.2.1 q 1).toInt = 4 * k) (hq : ∀ (s1 : nx_S), fd_P s s1 → ¬ okF (s.1 (q + 1)) k → Q (some (.int (-3))) (nx_enc s1 0 shC))
    (hend : ∀ I : Int32, okF (s.1 (q + 1)) k → nk_wp kx_X5_stuffs kc_X5_stuffs Q 127 [some (.ref 0), some (.int R), some (.ref q), some (.ref (q + 1)), some (.int I)] [] (nx_enc s 0 shC) 0 0) :
    ∀ (n i : Nat) (I : Int32), i + n = k → I.toInt = 4 * i → okF (s.1 (q + 1)) i → nk_wp kx_X5_stuffs kc_X5_stuffs Q 76 [some (.ref 0), some (.int R), some (.ref q), some (.ref (q + 1)), some (.int I)] [] (nx_enc s 0 shC) 0 0 := by
  have z1 : (1 : Int32).toInt = 1 := rfl
  have z2 : (2 : Int32).toInt = 2 := rfl
  have z3 : (3 : Int32).toInt = 3 := rfl
  have z4 : (4 : Int32).toInt = 4 := rfl
  have hb := hr.2.2.2
  intro n
  induction n with
  | zero =>
    intro i I hi hI hok
    have e3 : (I + 3).toInt = I.toInt + 3 := by rw [i_add (by omega) (by omega), z3]
    refine nx_s (nx_s (nx_s (nx_s (nx_gq rfl rfl hr.1 rfl ?_))))
    show nk_wp kx_X5_stuffs kc_X5_stuffs Q 84 [some (.ref 0), some (.int R), some (.ref q), some (.ref (q + 1)), some (.int I)] [.int (s.2.2.1 q 1), .int (I + 3)] (nx_enc s 0 shC) 0 0
    refine nx_s ?_
    refine br_le (fun _ => ?_) (fun e => ?_)
    · have e : i = k := by omega
      subst e
      exact hend I hok
    · exfalso
      omega
  | succ n ih =>
    intro i I hi hI hok
    have e1 : (I + 1).toInt = I.toInt + 1 := by rw [i_add (by omega) (by omega), z1]
    have e2 : (I + 2).toInt = I.toInt + 2 := by rw [i_add (by omega) (by omega), z2]
    have e3 : (I + 3).toInt = I.toInt + 3 := by rw [i_add (by omega) (by omega), z3]
    have e4 : (I + 4).toInt = I.toInt + 4 := by rw [i_add (by omega) (by omega), z4]
    have c0 : I.toNatClampNeg = 4 * i := nx_cl (by omega)
    have c1 : (I + 1).toNatClampNeg = 4 * i + 1 := nx_cl (by omega)
    have c2 : (I + 2).toNatClampNeg = 4 * i + 2 := nx_cl (by omega)
    have c3 : (I + 3).toNatClampNeg = 4 * i + 3 := nx_cl (by omega)
    refine nx_s (nx_s (nx_s (nx_s (nx_gq rfl rfl hr.1 rfl ?_))))
    show nk_wp kx_X5_stuffs kc_X5_stuffs Q 84 [some (.ref 0), some (.int R), some (.ref q), some (.ref (q + 1)), some (.int I)] [.int (s.2.2.1 q 1), .int (I + 3)] (nx_enc s 0 shC) 0 0
    refine nx_s ?_
    refine br_le (fun e => ?_) (fun e => ?_)
    · exfalso
      omega
    refine nx_s (nx_s (nx_iq rfl hr.2.1 (nx_in (n := 40) (by omega) (by omega)) ?_))
    refine nx_s (nx_s (nx_s (nx_s (nx_iq rfl hr.2.1 (nx_in (n := 40) (by omega) (by omega)) ?_))))
    refine nx_s (nx_s (nx_s (nx_s (nx_iq rfl hr.2.1 (nx_in (n := 40) (by omega) (by omega)) ?_))))
    refine nx_s (nx_s (nx_s (nx_s (nx_iq rfl hr.2.1 (nx_in (n := 40) (by omega) (by omega)) ?_))))
    rw [c0, c1, c2, c3]
    refine nx_s ?_
    refine it_Cx _ _ _ _ _ _ (fun ok => ?_) (fun no => ?_)
    · refine nx_s ?_
      refine nk_br.f (by decide) ?_
      refine nx_s (nx_s ?_)
      refine ih (i + 1) (I + 4) (by omega) (by omega) (fun j hj => ?_)
      by_cases ej : j = i
      · rw [ej]
        exact ok
      · exact hok j (by omega)
    · refine nx_s ?_
      refine nk_br.t (by decide) ?_
      refine nx_s (nx_s (nx_s ?_))
      refine fd_C _ s 3 (by decide) (by decide) (fun s1 hm => ?_)
      refine nx_s ?_
      exact hq s1 hm (fun q => no (q i (by omega)))
set_option maxRecDepth 100000 in
set_option maxHeartbeats 4000000 in
theorem st_C2a (Q : nk_Q) (s0 : nx_S) (w : Nat → Int32) (R : Int32) (q : Nat) (k : Nat) (z : Int32) (hz : z.toInt = 4 * k) (hq : ∀ (s1 : nx_S), nx_Inv gC s1 → (∀ A : AS, aC s0 A → aC s1 (g_fours A w k)) → Q (some (.int (z / 4))) (nx_enc s1 0 shC)) :
    ∀ (n i : Nat) (I : Int32) (s : nx_S), (∀ A : AS, aC s0 A → aC s (g_fours A w i)) → s.1 (q + 1) = w → i + n = k → I.toInt = 4 * i → nx_Inv gC s → rq_C s q → s.2.2.1 q 1 = z → (s.2.2.1 3 2).toInt + n ≤ 16 → nk_wp kx_X5_stuffs kc_X5_stuffs Q 130 [some (.ref 0), some (.int R), some (.ref q), some (.ref (q + 1)), some (.int I)] [] (nx_enc s 0 shC) 0 0 := by
  have z1 : (1 : Int32).toInt = 1 := rfl
  have z2 : (2 : Int32).toInt = 2 := rfl
  have z3 : (3 : Int32).toInt = 3 := rfl
  have z4 : (4 : Int32).toInt = 4 := rfl
  intro n
  induction n with
  | zero =>
    intro i I s hA hw hi hI hInv hr hs hn
    have hb := hr.2.2.2
    rw [hs] at hb
    have e3 : (I + 3).toInt = I.toInt + 3 := by rw [i_add (by omega) (by omega), z3]
    refine nx_s (nx_s (nx_s (nx_s (nx_gq rfl rfl hr.1 rfl ?_))))
    show nk_wp kx_X5_stuffs kc_X5_stuffs Q 138 [some (.ref 0), some (.int R), some (.ref q), some (.ref (q + 1)), some (.int I)] [.int (s.2.2.1 q 1), .int (I + 3)] (nx_enc s 0 shC) 0 0
    rw [hs]
    refine nx_s ?_
    refine br_le (fun _ => ?_) (fun e => ?_)
    · refine nx_s (nx_gq rfl rfl hr.1 rfl ?_)
      show nk_wp kx_X5_stuffs kc_X5_stuffs Q 181 [some (.ref 0), some (.int R), some (.ref q), some (.ref (q + 1)), some (.int I)] [.int (s.2.2.1 q 1)] (nx_enc s 0 shC) 0 0
      rw [hs]
      refine nx_s (nx_s ?_)
      refine ⟨by decide, ?_⟩
      refine nx_s ?_
      have e : i = k := by omega
      subst e
      exact hq s hInv hA
    · exfalso
      omega
  | succ n ih =>
    intro i I s hA hw hi hI hInv hr hs hn
    have hb := hr.2.2.2
    rw [hs] at hb
    have e1 : (I + 1).toInt = I.toInt + 1 := by rw [i_add (by omega) (by omega), z1]
    have e2 : (I + 2).toInt = I.toInt + 2 := by rw [i_add (by omega) (by omega), z2]
    have e3 : (I + 3).toInt = I.toInt + 3 := by rw [i_add (by omega) (by omega), z3]
    have e4 : (I + 4).toInt = I.toInt + 4 := by rw [i_add (by omega) (by omega), z4]
    have c0 : I.toNatClampNeg = 4 * i := nx_cl (by omega)
    have c1 : (I + 1).toNatClampNeg = 4 * i + 1 := nx_cl (by omega)
    have c2 : (I + 2).toNatClampNeg = 4 * i + 2 := nx_cl (by omega)
    have c3 : (I + 3).toNatClampNeg = 4 * i + 3 := nx_cl (by omega)
    refine nx_s (nx_s (nx_s (nx_s (nx_gq rfl rfl hr.1 rfl ?_))))
    show nk_wp kx_X5_stuffs kc_X5_stuffs Q 138 [some (.ref 0), some (.int R), some (.ref q), some (.ref (q + 1)), some (.int I)] [.int (s.2.2.1 q 1), .int (I + 3)] (nx_enc s 0 shC) 0 0
    rw [hs]
    refine nx_s ?_
    refine br_le (fun e => ?_) (fun e => ?_)
    · exfalso
      omega
    refine nx_s (nx_s (nx_s (nx_s (nx_iq rfl hr.2.1 (nx_in (n := 40) (by omega) (by omega)) ?_))))
    refine nx_s (nx_s (nx_s (nx_s (nx_iq rfl hr.2.1 (nx_in (n := 40) (by omega) (by omega)) ?_))))
    refine nx_s (nx_s (nx_s (nx_s (nx_iq rfl hr.2.1 (nx_in (n := 40) (by omega) (by omega)) ?_))))
    refine nx_s (nx_s (nx_s (nx_s (nx_iq rfl hr.2.1 (nx_in (n := 40) (by omega) (by omega)) ?_))))
    rw [c0, c1, c2, c3, hw]
    refine nx_s ?_
    refine ad_Cx _ s _ _ _ _ hInv (by omega) ?_
    refine nx_s (nx_s (nx_s ?_))
    have hm := ad_sP (s := s) (w (4 * i)) (w (4 * i + 1)) (w (4 * i + 2)) (w (4 * i + 3)) hInv (by omega)
    have hq1 := hm.2.1 q 1 (fun e => absurd e.2 (by decide))
    have hr29 := hr.2.2.1
    exact ih (i + 1) (I + 4) _ (fun A h => aC_add _ _ _ _ (hA A h)) ((hm.1 (q + 1) (by omega)).trans hw) (by omega) (by omega) (ad_inv hInv (by omega) hm) (rq_at hr hq1) (hq1.trans hs) (by rw [hm.2.2]; omega)
set_option maxRecDepth 100000 in
set_option maxHeartbeats 4000000 in
theorem st_Ca (Q : nk_Q) (s : nx_S) (R : Int32) (hInv : nx_Inv gC s) (hq : ∀ (s1 : nx_S) (r : Int32), nx_Inv gC s1 → (∀ A : AS, aC s A → ∃ A' : AS, aC s1 A' ∧ h_stuffs A A' R r) → Q (some (.int r)) (nx_enc s1 0 shC)) : ev_X5_stuffs [.ref 0, .int R] (nx_enc s 0 shC) Q := by
  have h0 : (0 : Int32).toInt = 0 := rfl
  have h6 : (6 : Int32).toInt = 6 := rfl
  have h16 : (16 : Int32).toInt = 16 := rfl
  have hN := nC_N hInv
  refine nx_s (nx_s (nx_s ?_))
  refine wi_C _ _ R 6 (fun r0 r1 => ?_) (fun hn => ?_)
  rotate_left
  · refine nx_s ?_
    refine nk_br.t (by decide) ?_
    refine nx_s (nx_s ?_)
    exact hq s _ hInv (fun A h => ⟨A, h, Or.inl ⟨by omega, rfl, rfl⟩⟩)
  refine nx_s ?_
  refine nk_br.f (by decide) ?_
  obtain ⟨hq1, hr⟩ := rq_ey hInv (R := R) r0 (by omega)
  have hb := hr.2.2.2
  have hR : 0 ≤ R.toInt ∧ R.toInt ≤ 5 := ⟨r0, by omega⟩
  have hv : ∀ A : AS, aC s A → ∀ j : Nat, j < 40 → s.1 (29 + 2 * R.toInt.toNat + 1) j = A.2.1 R.toInt.toNat j := fun A h j hj => by
    rw [show 29 + 2 * R.toInt.toNat + 1 = 30 + 2 * R.toInt.toNat by omega]
    exact h.2.1 R.toInt.toNat j (by omega) hj
  have hzn : ∀ A : AS, aC s A → (0 ≤ (s.2.2.1 (29 + 2 * R.toInt.toNat) 1).toInt ↔ 0 ≤ A.1 R.toInt.toNat) ∧ (0 ≤ (s.2.2.1 (29 + 2 * R.toInt.toNat) 1).toInt → (s.2.2.1 (29 + 2 * R.toInt.toNat) 1).toInt = A.1 R.toInt.toNat) := fun A h => zn_le (h.1 R.toInt.toNat (by omega))
  generalize 29 + 2 * R.toInt.toNat = q at *
  refine nx_s (nx_s (nx_s (nx_s ?_)))
  refine ⟨nx_in (n := 6) r0 (by omega), ?_⟩
  show nk_wp kx_X5_stuffs kc_X5_stuffs Q 17 [some (.ref 0), some (.int R), none, none, none] [va_rf (nk_lg [29, 31, 33, 35, 37, 39] R.toNatClampNeg)] (nx_enc s 0 shC) 0 0
  rw [hq1]
  refine nx_s (nx_s (nx_s ?_))
  refine (nk_obm hr.1 ?_ : nk_obj (nx_enc s 0 shC) q 3 (fun _ => ev_X3_isMissing [.ref q] (nx_enc s 0 shC) (fun r h' => nk_ret r [] (fun Z => nk_wp kx_X5_stuffs kc_X5_stuffs Q 22 [some (.ref 0), some (.int R), some (.ref q), none, none] Z h' 0 0))))
  refine mi_C _ s q hr (fun zq => ?_) (fun zq => ?_)
  · refine nx_s ?_
    refine nk_br.f (by decide) ?_
    refine nx_s (nx_s (nx_s ?_))
    refine fd_C _ s 1 (by decide) (by decide) (fun s1 hm => ?_)
    refine nx_s ?_
    refine hq s1 _ (fd_inv hInv hm) (fun A h => ⟨A, aC_fd hm h, Or.inr (Or.inl ⟨hR, Or.inl ?_, rfl, rfl⟩)⟩)
    have := hzn A h
    omega
  refine nx_s ?_
  refine nk_br.t (by decide) ?_
  refine nx_s (nx_gq rfl rfl hr.1 rfl ?_)
  show nk_wp kx_X5_stuffs kc_X5_stuffs Q 35 [some (.ref 0), some (.int R), some (.ref q), none, none] [.int (s.2.2.1 q 1)] (nx_enc s 0 shC) 0 0
  have hd := i_d4 zq hb.2
  have hm4 := i_r4 zq hb.2
  generalize hz : s.2.2.1 q 1 = z at *
  have hzA : ∀ A : AS, aC s A → A.1 R.toInt.toNat = z.toInt := fun A h => ((hzn A h).2 zq).symm
  refine nx_s (nx_s ?_)
  refine ⟨by decide, ?_⟩
  refine nx_s ?_
  refine br_eq (fun e => ?_) (fun e => ?_)
  rotate_left
  · have e : (z - z / 4 * 4).toInt ≠ (0 : Int32).toInt := e
    refine nx_s (nx_s (nx_s ?_))
    refine fd_C _ s 5 (by decide) (by decide) (fun s1 hm => ?_)
    refine nx_s ?_
    refine hq s1 _ (fd_inv hInv hm) (fun A h => ⟨A, aC_fd hm h, Or.inr (Or.inl ⟨hR, Or.inr ?_, rfl, rfl⟩)⟩)
    rw [hzA A h]
    omega
  have e : (z - z / 4 * 4).toInt = (0 : Int32).toInt := e
  refine nx_s (nx_gq rfl rfl hr.1 rfl ?_)
  show nk_wp kx_X5_stuffs kc_X5_stuffs Q 50 [some (.ref 0), some (.int R), some (.ref q), none, none] [.int (s.2.2.1 q 1)] (nx_enc s 0 shC) 0 0
  rw [hz]
  refine nx_s (nx_s ?_)
  refine ⟨by decide, ?_⟩
  refine nx_s (nx_s (nx_s (nx_s ?_)))
  show nk_wp kx_X5_stuffs kc_X5_stuffs Q 61 [some (.ref 0), some (.int R), some (.ref q), none, none] [.int (s.2.2.1 3 2), .int 16, .int (z / 4)] (nx_enc s 0 shC) 0 0
  have es : (16 - s.2.2.1 3 2).toInt = 16 - (s.2.2.1 3 2).toInt := by
    rw [Int32.toInt_sub, h16, na_bm (show (-2147483648 : Int) ≤ _ by omega) (show _ ≤ (2147483647 : Int) by omega)]
  have hNA : ∀ A : AS, aC s A → A.2.2.1.1.toInt = (s.2.2.1 3 2).toInt := fun A h => by rw [h.2.2.1]
  refine nx_s (nx_s ?_)
  refine br_le (fun e2 => ?_) (fun e2 => ?_)
  rotate_left
  · refine nx_s (nx_s ?_)
    refine hq s _ hInv (fun A h => ⟨A, h, Or.inr (Or.inr (Or.inl ⟨hR, ?_, ?_, ?_, rfl, rfl⟩))⟩)
    · rw [hzA A h]
      omega
    · rw [hzA A h]
      omega
    · rw [hzA A h, hNA A h]
      omega
  refine nx_s (nx_gq rfl rfl hr.1 rfl ?_)
  show nk_wp kx_X5_stuffs kc_X5_stuffs Q 72 [some (.ref 0), some (.int R), some (.ref q), none, none] [.ref (q + 1)] (nx_enc s 0 shC) 0 0
  refine nx_s (nx_s (nx_s ?_))
  obtain ⟨k, hk⟩ : ∃ k : Nat, z.toInt = 4 * k := ⟨(z.toInt / 4).toNat, by omega⟩
  have hk4 : ∀ A : AS, aC s A → (A.1 R.toInt.toNat / 4).toNat = k := fun A h => by
    rw [hzA A h]
    omega
  refine st_C1a Q s R q k hInv hr (by rw [hz]; exact hk) (fun s1 hm no => ?_) (fun I ok => ?_) k 0 0 (by omega) (by omega) (fun j hj => absurd hj (Nat.not_lt_zero j))
  · refine hq s1 _ (fd_inv hInv hm) (fun A h => ⟨A, aC_fd hm h, Or.inr (Or.inr (Or.inr (Or.inl ⟨hR, ?_, ?_, ?_, ?_, rfl, rfl⟩)))⟩)
    · rw [hzA A h]
      omega
    · rw [hzA A h]
      omega
    · rw [hzA A h, hNA A h]
      omega
    · rw [hk4 A h]
      exact fun q2 => no (okFc (fun j hj => (hv A h j (by omega)).symm) q2)
  refine nx_s (nx_s ?_)
  refine st_C2a Q s (s.1 (q + 1)) R q k z hk (fun s1 i1 hA => ?_) k 0 0 s (fun A h => h) rfl (by omega) (by omega) hInv hr hz (by omega)
  refine hq s1 _ i1 (fun A h => ⟨_, hA A h, Or.inr (Or.inr (Or.inr (Or.inr ⟨hR, ?_, ?_, ?_, ?_, ?_, ?_⟩)))⟩)
  · rw [hzA A h]
    omega
  · rw [hzA A h]
    omega
  · rw [hzA A h, hNA A h]
    omega
  · rw [hk4 A h]
    exact okFc (fun j hj => hv A h j (by omega)) ok
  · rw [hzA A h]
    exact hd
  · rw [hk4 A h]
    exact g_foursc k (fun j hj => hv A h j (by omega))
/-! ### debt -/
set_option maxRecDepth 100000 in
theorem ix_C (Q : nk_Q) (s : nx_S) (v : Int32) (h1 : 0 ≤ v.toInt → v.toInt < (s.2.2.1 3 2).toInt → Q (some (.int 1)) (nx_enc s 0 shC)) (h2 : ¬ (0 ≤ v.toInt ∧ v.toInt < (s.2.2.1 3 2).toInt) → Q (some (.int 0)) (nx_enc s 0 shC)) : ev_X5_isStuff [.ref 0, .int v] (nx_enc s 0 shC) Q := by
  refine nx_s (nx_s (nx_s (nx_s (nx_s ?_))))
  refine wi_C _ _ v (s.2.2.1 3 2) (fun x y => ?_) (fun x => ?_)
  · refine nx_s ?_
    refine nk_bo1 ?_
    exact h1 x y
  · refine nx_s ?_
    refine nk_bo0 ?_
    exact h2 x
set_option maxRecDepth 100000 in
theorem iy_C (Q : nk_Q) (s : nx_S) (v : Int32) (h1 : 0 ≤ v.toInt → v.toInt < (s.2.2.1 3 3).toInt → Q (some (.int 1)) (nx_enc s 0 shC)) (h2 : ¬ (0 ≤ v.toInt ∧ v.toInt < (s.2.2.1 3 3).toInt) → Q (some (.int 0)) (nx_enc s 0 shC)) : ev_X5_isMaking [.ref 0, .int v] (nx_enc s 0 shC) Q := by
  refine nx_s (nx_s (nx_s (nx_s (nx_s ?_))))
  refine wi_C _ _ v (s.2.2.1 3 3) (fun x y => ?_) (fun x => ?_)
  · refine nx_s ?_
    refine nk_bo1 ?_
    exact h1 x y
  · refine nx_s ?_
    refine nk_bo0 ?_
    exact h2 x
set_option maxRecDepth 100000 in
theorem os_C (Q : nk_Q) (s : nx_S) (v j : Int32) (v0 : 0 ≤ v.toInt) (v1 : v.toInt ≤ 15) (j0 : 0 ≤ j.toInt) (j1 : j.toInt ≤ 4) (hq : Q (some (.int (s.1 4 (5 * v.toInt.toNat + j.toInt.toNat)))) (nx_enc s 0 shC)) : ev_X4_ofStuff [.ref 3, .int v, .int j] (nx_enc s 0 shC) Q := by
  have e : (v * 5 + j).toInt = 5 * v.toInt + j.toInt := i_n5 v0 (by omega) j0 (by omega)
  have c : (v * 5 + j).toNatClampNeg = 5 * v.toInt.toNat + j.toInt.toNat := nx_cl (by omega)
  refine nx_s (nx_s (nx_s (nx_s (nx_s (nx_s (nx_s (nx_s ?_)))))))
  refine ⟨nx_in (n := 80) (by omega) (by omega), ?_⟩
  refine nx_s ?_
  show Q (some (.int (s.1 4 (v * 5 + j).toNatClampNeg))) (nx_enc s 0 shC)
  rw [c]
  exact hq
theorem a4_inv {s : nx_S} (f : Nat → Int32) (h : nx_Inv gC s) : nx_Inv gC (nx_ui s 4 f) := by
  refine ⟨h.1, fun q n l hq i hi => ?_, h.2.2.1, trivial⟩
  by_cases e : q = 4
  · subst e
    exact na_i32 _
  · have e2 : (nx_ui s 4 f).1 q = s.1 q := if_neg e
    rw [e2]
    exact h.2.1 q n l hq i hi
theorem aC_deb {s : nx_S} {A : AS} (k : Nat) (v : Int32) (h : aC s A) : aC (nx_ui s 4 (upd (s.1 4) k v)) (A.1, A.2.1, A.2.2.1, upd A.2.2.2.1 k v, A.2.2.2.2) := by
  obtain ⟨h1, h2, h5, h6, h7, h8⟩ := h
  have nq : ∀ q : Nat, q ≠ 4 → (nx_ui s 4 (upd (s.1 4) k v)).1 q = s.1 q := fun q e => if_neg e
  refine ⟨h1, fun k i hk hi => ?_, h5, h6, fun i hi => ?_, fun i hi => ?_⟩
  · rw [nq _ (by omega)]
    exact h2 k i hk hi
  · show upd (s.1 4) k v i = upd A.2.2.2.1 k v i
    exact upd_c (h7 i hi)
  · rw [nq _ (by decide)]
    exact h8 i hi
set_option maxRecDepth 100000 in
set_option maxHeartbeats 4000000 in
theorem db_Ca (Q : nk_Q) (s : nx_S) (S V : Int32) (hInv : nx_Inv gC s) (hq : ∀ (s1 : nx_S) (r : Int32), nx_Inv gC s1 → (∀ A : AS, aC s A → aC s1 (g_debt A S V) ∧ r = f_debt A S V) → Q (some (.int r)) (nx_enc s1 0 shC)) : ev_X5_debt [.ref 0, .int S, .int V] (nx_enc s 0 shC) Q := by
  have z0 : (0 : Int32).toInt = 0 := rfl
  have z4 : (4 : Int32).toInt = 4 := rfl
  have z9 : (999 : Int32).toInt = 999 := rfl
  have hN := nC_N hInv
  have no : ¬ ((0 ≤ S.toInt ∧ S.toInt < (s.2.2.1 3 2).toInt) ∧ 0 ≤ V.toInt ∧ V.toInt ≤ 999) → nk_wp kx_X5_debt kc_X5_debt Q 19 [some (.ref 0), some (.int S), some (.int V), none] [] (nx_enc s 0 shC) 0 0 := by
    intro hn
    refine nx_s (nx_s ?_)
    refine hq s _ hInv (fun A h => ?_)
    have h5 := h.2.2.1
    rw [h5] at hn
    refine ⟨?_, ?_⟩
    · unfold g_debt
      rw [if_neg hn]
      exact h
    · unfold f_debt
      rw [if_neg hn]
  refine nx_s (nx_s (nx_s ?_))
  refine ix_C _ s S (fun s0 s1 => ?_) (fun hn => ?_)
  rotate_left
  · refine nx_s ?_
    refine nk_br.t (by decide) ?_
    exact no (fun q => hn q.1)
  refine nx_s ?_
  refine nk_br.f (by decide) ?_
  refine nx_s (nx_s ?_)
  refine br_lt (fun e => no (fun q => by omega)) (fun v0 => ?_)
  refine nx_s (nx_s (nx_s ?_))
  refine br_le (fun v1 => ?_) (fun e => no (fun q => by omega))
  refine nx_s (nx_s (nx_s (nx_s (nx_s ?_))))
  refine os_C _ s S 4 s0 (by omega) (by decide) (by decide) ?_
  refine nx_s (nx_s (nx_s (nx_s (nx_s (nx_s ?_)))))
  have e : (S * 5 + 4).toInt = 5 * S.toInt + 4 := i_n5 s0 (by omega) (by decide) (by decide)
  have c : (S * 5 + 4).toNatClampNeg = 5 * S.toInt.toNat + 4 := nx_cl (by omega)
  refine nx_s (nx_s (nx_s (nx_s (nx_s (nx_s (nx_s (nx_s (nx_s ?_))))))))
  refine ⟨nx_in (n := 80) (by omega) (by omega), ?_⟩
  rw [c]
  refine nx_s ?_
  refine nx_s (nx_s ?_)
  refine hq _ _ (a4_inv _ hInv) (fun A h => ?_)
  have h5 := h.2.2.1
  have hc : (0 ≤ S.toInt ∧ S.toInt < A.2.2.1.1.toInt) ∧ 0 ≤ V.toInt ∧ V.toInt ≤ 999 := ⟨⟨s0, by rw [← h5]; exact s1⟩, by omega, by omega⟩
  refine ⟨?_, ?_⟩
  · unfold g_debt
    rw [if_pos hc]
    exact aC_deb _ _ h
  · unfold f_debt
    rw [if_pos hc]
    exact h.2.2.2.2.1 _ (by omega)
/-! ### making -/
noncomputable def mv (K V : Int32) : Int32 := if K = 0 ∨ K = 4 then 0 else V
noncomputable def mp (K PT : Int32) : Int32 := if PT ≠ 0 ∧ (K = 2 ∨ K = 5) then 1 else 0
set_option maxRecDepth 100000 in
set_option maxHeartbeats 8000000 in
theorem am_Cx (Q : nk_Q) (s : nx_S) (K S V MK W KN PT : Int32) (hInv : nx_Inv gC s) (hM : (s.2.2.1 3 3).toInt ≤ 11) (hK : 0 ≤ K.toInt ∧ K.toInt ≤ 6) (hS : 0 ≤ S.toInt ∧ S.toInt ≤ 15) (hV : K = 0 ∨ K = 4 ∨ (0 ≤ V.toInt ∧ (V.toInt ≤ 15 ∨ (K = 6 ∧ V.toInt ≤ 99)))) (hMK : 0 ≤ MK.toInt ∧ MK.toInt ≤ 5) (hW : 0 ≤ W.toInt ∧ W.toInt ≤ 99) (hKN : 0 ≤ KN.toInt ∧ KN.toInt ≤ 5) (hq : ∀ f : Nat → Int32, nx_PM f → f = am_f (s.1 5) (s.2.2.1 3 3).toNatClampNeg K S (mv K V) MK W KN (mp K PT) → Q (some (.int (s.2.2.1 3 3 + 1 - 1))) (nx_enc (nx_uf (nx_ui s 5 f) 3 3 (s.2.2.1 3 3 + 1)) 0 shC)) : ev_X4_addMaking [.ref 3, .int K, .int S, .int V, .int MK, .int W, .int KN, .int PT] (nx_enc s 0 shC) Q := by
  have hM0 : 0 ≤ (s.2.2.1 3 3).toInt := (hInv.1 3 (3, 3) (0, 12) rfl rfl).1
  have hPM := hInv.2.2.1
  refine nx_s (nx_s ?_)
  show nk_wp kx_X4_addMaking kc_X4_addMaking Q 4 [some (.ref 3), some (.int K), some (.int S), some (.int V), some (.int MK), some (.int W), some (.int KN), some (.int PT), none] [.int (s.2.2.1 3 3)] (nx_enc s 0 shC) 0 0
  have hq2 : ∀ M : Int32, M = s.2.2.1 3 3 → ∀ f : Nat → Int32, nx_PM f → f = am_f (s.1 5) M.toNatClampNeg K S (mv K V) MK W KN (mp K PT) → nk_wp kx_X4_addMaking kc_X4_addMaking Q 115 [some (.ref 3), some (.int K), some (.int S), some (.int V), some (.int MK), some (.int W), some (.int KN), some (.int PT), some (.int (M * 7))] [] (nx_enc (nx_ui s 5 f) 0 shC) 0 0 := by
    intro M hMe f hf he
    refine nx_s (nx_s (nx_s (nx_s (nx_s (nx_s (nx_s (nx_s (nx_s (nx_s (nx_s ?_))))))))))
    exact hq f hf (by rw [← hMe]; exact he)
  have key := hq2 (s.2.2.1 3 3) rfl
  generalize s.2.2.1 3 3 = M at hM hM0 key ⊢
  obtain ⟨a0, b0, c0⟩ := am_ix (j := 0) hM0 hM (by decide) (by decide)
  obtain ⟨a1, b1, c1⟩ := am_ix (j := 1) hM0 hM (by decide) (by decide)
  obtain ⟨a2, b2, c2⟩ := am_ix (j := 2) hM0 hM (by decide) (by decide)
  obtain ⟨a3, b3, c3⟩ := am_ix (j := 3) hM0 hM (by decide) (by decide)
  obtain ⟨a4, b4, c4⟩ := am_ix (j := 4) hM0 hM (by decide) (by decide)
  obtain ⟨a5, b5, c5⟩ := am_ix (j := 5) hM0 hM (by decide) (by decide)
  obtain ⟨a6, b6, c6⟩ := am_ix (j := 6) hM0 hM (by decide) (by decide)
  have tail : ∀ (c : Int32) (f : Nat → Int32), 0 ≤ c.toInt → c.toInt ≤ 99 → (c.toInt ≤ 15 ∨ K = 6) → c = mv K V → f = upd (upd (upd (s.1 5) (7 * M.toNatClampNeg + 0) K) (7 * M.toNatClampNeg + 1) S) (7 * M.toNatClampNeg + 2) c → nk_wp kx_X4_addMaking kc_X4_addMaking Q 52 [some (.ref 3), some (.int K), some (.int S), some (.int V), some (.int MK), some (.int W), some (.int KN), some (.int PT), some (.int (M * 7))] [] (nx_enc (nx_ui s 5 f) 0 shC) 0 0 := by
    intro c f hc0 hc1 hc2 hcv hf
    have last : ∀ h : Int32, (h = 0 ∨ (h = 1 ∧ K ≠ 6)) → h = mp K PT → nk_wp kx_X4_addMaking kc_X4_addMaking Q 115 [some (.ref 3), some (.int K), some (.int S), some (.int V), some (.int MK), some (.int W), some (.int KN), some (.int PT), some (.int (M * 7))] [] (nx_enc (nx_ui s 5 (am_f (s.1 5) M.toNatClampNeg K S c MK W KN h)) 0 shC) 0 0 := by
      intro h hh hhp
      refine key _ (am_PM hPM hK hS ⟨hc0, hc1⟩ hMK hW hKN ?_ ?_) (by rw [hcv, hhp])
      · rcases hh with e | e
        · rw [e]; decide
        · rw [e.1]; decide
      · rcases hc2 with e | e
        · exact Or.inl e
        · rcases hh with e2 | e2
          · exact Or.inr ⟨by rw [e]; rfl, by rw [e2]; rfl⟩
          · exact absurd e e2.2
    refine nx_s (nx_s (nx_s (nx_s (nx_s (nx_s (nx_s ?_))))))
    refine ⟨nx_in (n := 84) a3 b3, ?_⟩
    refine nx_s (nx_s (nx_s (nx_s (nx_s (nx_s (nx_s ?_))))))
    refine ⟨nx_in (n := 84) a4 b4, ?_⟩
    refine nx_s (nx_s (nx_s (nx_s (nx_s (nx_s (nx_s ?_))))))
    refine ⟨nx_in (n := 84) a5 b5, ?_⟩
    rw [c3, c4, c5, nx_uu, nx_u1, nx_uu, nx_u1, nx_uu, nx_u1, hf]
    refine nx_s (nx_s (nx_s (nx_s (nx_s (nx_s (nx_s ?_))))))
    refine nk_br.mk (fun p0 => ?_) (fun p0 => ?_)
    · refine nx_s (nx_s ?_)
      refine ⟨nx_in (n := 84) a6 b6, ?_⟩
      rw [c6, nx_uu, nx_u1]
      exact last 0 (Or.inl rfl) (by unfold mp; rw [if_neg (fun q => q.1 p0)])
    · refine nx_s (nx_s (nx_s ?_))
      refine nk_br.mk (fun e => ?_) (fun n2 => ?_)
      · refine nx_s (nx_s (nx_s ?_))
        refine ⟨nx_in (n := 84) a6 b6, ?_⟩
        rw [c6, nx_uu, nx_u1]
        exact last 1 (Or.inr ⟨rfl, by rw [e]; decide⟩) (by unfold mp; rw [if_pos ⟨p0, Or.inl e⟩])
      · refine nx_s (nx_s (nx_s ?_))
        refine nk_br.mk (fun e => ?_) (fun n5 => ?_)
        · refine nx_s (nx_s (nx_s ?_))
          refine ⟨nx_in (n := 84) a6 b6, ?_⟩
          rw [c6, nx_uu, nx_u1]
          exact last 1 (Or.inr ⟨rfl, by rw [e]; decide⟩) (by unfold mp; rw [if_pos ⟨p0, Or.inr e⟩])
        · refine nx_s (nx_s ?_)
          refine ⟨nx_in (n := 84) a6 b6, ?_⟩
          rw [c6, nx_uu, nx_u1]
          exact last 0 (Or.inl rfl) (by unfold mp; rw [if_neg (fun q => q.2.elim n2 n5)])
  refine nx_s (nx_s (nx_s ?_))
  refine nx_s (nx_s (nx_s (nx_s (nx_s (nx_s (nx_s ?_))))))
  refine ⟨nx_in (n := 84) a0 b0, ?_⟩
  refine nx_s (nx_s (nx_s (nx_s (nx_s (nx_s (nx_s ?_))))))
  refine ⟨nx_in (n := 84) a1 b1, ?_⟩
  rw [c0, c1, nx_uu, nx_u1]
  refine nx_s (nx_s (nx_s (nx_s (nx_s (nx_s (nx_s ?_))))))
  refine nk_br.mk (fun e => ?_) (fun e0 => ?_)
  · refine nx_s (nx_s (nx_s ?_))
    refine ⟨nx_in (n := 84) a2 b2, ?_⟩
    rw [c2, nx_uu, nx_u1]
    exact tail 0 _ (by decide) (by decide) (Or.inl (by decide)) (by unfold mv; rw [if_pos (Or.inl e)]) rfl
  · refine nx_s (nx_s (nx_s ?_))
    refine nk_br.mk (fun e => ?_) (fun e4 => ?_)
    · refine nx_s (nx_s (nx_s ?_))
      refine ⟨nx_in (n := 84) a2 b2, ?_⟩
      rw [c2, nx_uu, nx_u1]
      exact tail 0 _ (by decide) (by decide) (Or.inl (by decide)) (by unfold mv; rw [if_pos (Or.inr e)]) rfl
    · refine nx_s (nx_s ?_)
      refine ⟨nx_in (n := 84) a2 b2, ?_⟩
      rw [c2, nx_uu, nx_u1]
      have hmv : V = mv K V := by unfold mv; rw [if_neg (fun q => q.elim e0 e4)]
      rcases hV with h | h | h
      · exact absurd h e0
      · exact absurd h e4
      · rcases h.2 with h2 | h2
        · exact tail V _ h.1 (by omega) (Or.inl h2) hmv rfl
        · exact tail V _ h.1 h2.2 (Or.inr h2.1) hmv rfl
abbrev okA (N : Int) (K S V : Int32) : Prop := (K = 1 → 0 ≤ V.toInt ∧ V.toInt ≤ 9) ∧ (K = 6 → 1 ≤ V.toInt ∧ V.toInt ≤ 99) ∧ ((K = 2 ∨ K = 3 ∨ K = 5) → (0 ≤ V.toInt ∧ V.toInt < N) ∧ V ≠ S)
abbrev okK (N : Int) (K S V MK W KN : Int32) : Prop := (0 ≤ K.toInt ∧ K.toInt ≤ 6) ∧ (0 ≤ S.toInt ∧ S.toInt < N) ∧ okA N K S V ∧ (0 ≤ MK.toInt ∧ MK.toInt ≤ 5) ∧ (0 ≤ W.toInt ∧ W.toInt ≤ 99) ∧ (0 ≤ KN.toInt ∧ KN.toInt ≤ 5)
abbrev unl (ab : Nat → Int32) (K S V : Int32) : Prop := K = 3 ∧ ab (5 * S.toInt.toNat) ≠ ab (5 * V.toInt.toNat)
noncomputable def f_making (A : AS) (K S V MK W KN : Int32) : Int32 := if okK A.2.2.1.1.toInt K S V MK W KN then (if A.2.2.1.2.toInt < 12 then (if unl A.2.2.2.1 K S V then -3 else A.2.2.1.2) else -2) else -1
noncomputable def g_making (A : AS) (K S V MK W KN PT : Int32) : AS := if okK A.2.2.1.1.toInt K S V MK W KN ∧ A.2.2.1.2.toInt < 12 ∧ ¬ unl A.2.2.2.1 K S V then (A.1, A.2.1, (A.2.2.1.1, A.2.2.1.2 + 1), A.2.2.2.1, am_f A.2.2.2.2 A.2.2.1.2.toInt.toNat K S (mv K V) MK W KN (mp K PT)) else A
set_option maxRecDepth 100000 in
theorem nt_C (Q : nk_Q) (h : nk_H) (K : Int32) (h1 : (K = 2 ∨ K = 3 ∨ K = 5) → Q (some (.int 1)) h) (h2 : ¬ (K = 2 ∨ K = 3 ∨ K = 5) → Q (some (.int 0)) h) : ev_X5_namesTwo [.int K] h Q := by
  refine nk_s (nk_s (nk_s ?_))
  refine nk_br.mk (fun e => ?_) (fun e2 => ?_)
  · refine nk_s (nk_s (nk_s ?_))
    exact nk_bo1 (h1 (Or.inl e))
  refine nk_s (nk_s (nk_s ?_))
  refine nk_br.mk (fun e => ?_) (fun e3 => ?_)
  · refine nk_s (nk_s (nk_s ?_))
    exact nk_bo1 (h1 (Or.inr (Or.inl e)))
  refine nk_s (nk_s (nk_s ?_))
  refine nk_br.mk (fun e => ?_) (fun e5 => ?_)
  · refine nk_s (nk_s (nk_s ?_))
    exact nk_bo1 (h1 (Or.inr (Or.inr e)))
  refine nk_s (nk_s ?_)
  exact nk_bo0 (h2 (fun h => h.elim e2 (fun h => h.elim e3 e5)))
set_option maxRecDepth 100000 in
theorem iwk_C (Q : nk_Q) (h : nk_H) (W : Int32) (h1 : 0 ≤ W.toInt → W.toInt ≤ 99 → Q (some (.int 1)) h) (h2 : ¬ (0 ≤ W.toInt ∧ W.toInt ≤ 99) → Q (some (.int 0)) h) : ev_X5_isWork [.int W] h Q := by
  have z0 : (0 : Int32).toInt = 0 := rfl
  have z9 : (99 : Int32).toInt = 99 := rfl
  refine nk_s (nk_s ?_)
  refine br_lt (fun e => ?_) (fun e => ?_)
  · refine nk_s (nk_s ?_)
    exact nk_bo0 (h2 (by omega))
  refine nk_s (nk_s (nk_s ?_))
  refine br_lt (fun e2 => ?_) (fun e2 => ?_)
  · refine nk_s (nk_s ?_)
    exact nk_bo0 (h2 (by omega))
  refine nk_s (nk_s (nk_s ?_))
  exact nk_bo1 (h1 (by omega) (by omega))
set_option maxRecDepth 100000 in
set_option maxHeartbeats 4000000 in
theorem ai_C (Q : nk_Q) (s : nx_S) (K S V : Int32) (h1 : okA (s.2.2.1 3 2).toInt K S V → Q (some (.int 1)) (nx_enc s 0 shC)) (h2 : ¬ okA (s.2.2.1 3 2).toInt K S V → Q (some (.int 0)) (nx_enc s 0 shC)) : ev_X5_isAim [.ref 0, .int K, .int S, .int V] (nx_enc s 0 shC) Q := by
  have z1 : (1 : Int32).toInt = 1 := rfl
  have z10 : (10 : Int32).toInt = 10 := rfl
  have z99 : (99 : Int32).toInt = 99 := rfl
  refine nx_s (nx_s (nx_s ?_))
  refine nk_br.mk (fun k1 => ?_) (fun k1 => ?_)
  · have k1 : K = 1 := k1
    subst k1
    refine nx_s (nx_s (nx_s ?_))
    refine wi_C _ _ V 10 (fun x y => ?_) (fun x => ?_)
    · refine nx_s ?_
      exact nk_bo1 (h1 ⟨fun _ => ⟨x, by omega⟩, fun e => absurd e (by decide), fun e => absurd e (by decide)⟩)
    · refine nx_s ?_
      exact nk_bo0 (h2 (fun q => by have q1 := q.1 rfl; omega))
  have k1 : ¬ K = 1 := k1
  refine nx_s (nx_s (nx_s ?_))
  refine nk_br.mk (fun k6 => ?_) (fun k6 => ?_)
  · have k6 : K = 6 := k6
    subst k6
    refine nx_s (nx_s (nx_s ?_))
    refine br_lt (fun e => ?_) (fun e => ?_)
    · refine nx_s (nx_s ?_)
      exact nk_bo0 (h2 (fun q => by have q1 := q.2.1 rfl; omega))
    refine nx_s (nx_s (nx_s ?_))
    refine br_lt (fun e2 => ?_) (fun e2 => ?_)
    · refine nx_s (nx_s ?_)
      exact nk_bo0 (h2 (fun q => by have q1 := q.2.1 rfl; omega))
    refine nx_s (nx_s (nx_s ?_))
    exact nk_bo1 (h1 ⟨fun e => absurd e (by decide), fun _ => ⟨by omega, by omega⟩, fun e => absurd e (by decide)⟩)
  have k6 : ¬ K = 6 := k6
  refine nx_s (nx_s ?_)
  refine nt_C _ _ K (fun h3 => ?_) (fun h3 => ?_)
  · refine nx_s ?_
    refine nk_br.f (by decide) ?_
    refine nx_s (nx_s (nx_s ?_))
    refine ix_C _ s V (fun x y => ?_) (fun x => ?_)
    · refine nx_s ?_
      refine nk_br.f (by decide) ?_
      refine nx_s (nx_s (nx_s ?_))
      refine nk_br.mk (fun e => ?_) (fun e => ?_)
      · have e : V = S := e
        refine nx_s (nx_s ?_)
        exact nk_bo0 (h2 (fun q => (q.2.2 h3).2 e))
      · have e : ¬ V = S := e
        refine nx_s (nx_s (nx_s ?_))
        exact nk_bo1 (h1 ⟨fun q => absurd q k1, fun q => absurd q k6, fun _ => ⟨⟨x, y⟩, e⟩⟩)
    · refine nx_s ?_
      refine nk_br.t (by decide) ?_
      refine nx_s (nx_s ?_)
      exact nk_bo0 (h2 (fun q => x (q.2.2 h3).1))
  · refine nx_s ?_
    refine nk_br.t (by decide) ?_
    refine nx_s (nx_s (nx_s ?_))
    exact nk_bo1 (h1 ⟨fun q => absurd q k1, fun q => absurd q k6, fun q => absurd q h3⟩)
theorem am_c {f g : Nat → Int32} {m i : Nat} {a b c d e u h : Int32} (hi : f i = g i) : am_f f m a b c d e u h i = am_f g m a b c d e u h i := upd_c (upd_c (upd_c (upd_c (upd_c (upd_c (upd_c hi))))))
set_option maxRecDepth 100000 in
set_option maxHeartbeats 8000000 in
theorem mg_Ca (Q : nk_Q) (s : nx_S) (K S V MK W KN PT : Int32) (hInv : nx_Inv gC s) (hq : ∀ (s1 : nx_S) (r : Int32), nx_Inv gC s1 → (∀ A : AS, aC s A → aC s1 (g_making A K S V MK W KN PT) ∧ r = f_making A K S V MK W KN) → Q (some (.int r)) (nx_enc s1 0 shC)) : ev_X5_making [.ref 0, .int K, .int S, .int V, .int MK, .int W, .int KN, .int PT] (nx_enc s 0 shC) Q := by
  have z7 : (7 : Int32).toInt = 7 := rfl
  have z6 : (6 : Int32).toInt = 6 := rfl
  have z12 : (12 : Int32).toInt = 12 := rfl
  have hN := nC_N hInv
  have hM : 0 ≤ (s.2.2.1 3 3).toInt ∧ (s.2.2.1 3 3).toInt ≤ 12 := hInv.1 3 (3, 3) (0, 12) rfl rfl
  have hNA : ∀ A : AS, aC s A → A.2.2.1.1.toInt = (s.2.2.1 3 2).toInt := fun A h => by rw [h.2.2.1]
  have hMA : ∀ A : AS, aC s A → A.2.2.1.2 = s.2.2.1 3 3 := fun A h => h.2.2.2.1.symm
  have no : ¬ okK (s.2.2.1 3 2).toInt K S V MK W KN → nk_wp kx_X5_making kc_X5_making Q 59 [some (.ref 0), some (.int K), some (.int S), some (.int V), some (.int MK), some (.int W), some (.int KN), some (.int PT), none] [] (nx_enc s 0 shC) 0 0 := by
    intro hn
    refine nx_s (nx_s (nx_s (nx_s ?_)))
    refine nk_br.t (by decide) ?_
    refine nx_s (nx_s ?_)
    refine hq s _ hInv (fun A h => ?_)
    rw [← hNA A h] at hn
    refine ⟨?_, ?_⟩
    · unfold g_making
      rw [if_neg (fun q => hn q.1)]
      exact h
    · unfold f_making
      rw [if_neg hn]
  refine nx_s (nx_s (nx_s ?_))
  refine wi_C _ _ K 7 (fun k0 k1 => ?_) (fun hn => ?_)
  rotate_left
  · refine nx_s ?_
    refine nk_br.t (by decide) ?_
    exact no (fun q => by have q1 := q.1; omega)
  refine nx_s ?_
  refine nk_br.f (by decide) ?_
  refine nx_s (nx_s (nx_s ?_))
  refine ix_C _ s S (fun s0 s1 => ?_) (fun hn => ?_)
  rotate_left
  · refine nx_s ?_
    refine nk_br.t (by decide) ?_
    exact no (fun q => hn q.2.1)
  refine nx_s ?_
  refine nk_br.f (by decide) ?_
  refine nx_s (nx_s (nx_s (nx_s (nx_s ?_))))
  refine ai_C _ s K S V (fun ha => ?_) (fun hn => ?_)
  rotate_left
  · refine nx_s ?_
    refine nk_br.t (by decide) ?_
    exact no (fun q => hn q.2.2.1)
  refine nx_s ?_
  refine nk_br.f (by decide) ?_
  refine nx_s (nx_s (nx_s ?_))
  refine wi_C _ _ MK 6 (fun m0 m1 => ?_) (fun hn => ?_)
  rotate_left
  · refine nx_s ?_
    refine nk_br.t (by decide) ?_
    exact no (fun q => by have q1 := q.2.2.2.1; omega)
  refine nx_s ?_
  refine nk_br.f (by decide) ?_
  refine nx_s (nx_s ?_)
  refine iwk_C _ _ W (fun w0 w1 => ?_) (fun hn => ?_)
  rotate_left
  · refine nx_s ?_
    refine nk_br.t (by decide) ?_
    exact no (fun q => hn q.2.2.2.2.1)
  refine nx_s ?_
  refine nk_br.f (by decide) ?_
  refine nx_s (nx_s (nx_s ?_))
  refine wi_C _ _ KN 6 (fun n0 n1 => ?_) (fun hn => ?_)
  rotate_left
  · refine nx_s ?_
    refine nk_br.t (by decide) ?_
    exact no (fun q => by have q1 := q.2.2.2.2.2; omega)
  refine nx_s ?_
  refine nk_br.f (by decide) ?_
  have ok : okK (s.2.2.1 3 2).toInt K S V MK W KN := ⟨⟨k0, by omega⟩, ⟨s0, s1⟩, ha, ⟨m0, by omega⟩, ⟨w0, w1⟩, n0, by omega⟩
  refine nx_s (nx_s (nx_s (nx_s (nx_s ?_))))
  refine nk_br.f (by decide) ?_
  refine nx_s (nx_s (nx_s (nx_s (nx_s ?_))))
  refine br_lt (fun e => ?_) (fun e => ?_)
  rotate_left
  · have e : (12 : Int32).toInt ≤ (s.2.2.1 3 3).toInt := e
    refine nx_s (nx_s ?_)
    refine hq s _ hInv (fun A h => ?_)
    have ok2 := ok
    rw [← hNA A h] at ok2
    have e2 : ¬ A.2.2.1.2.toInt < 12 := by rw [hMA A h]; omega
    refine ⟨?_, ?_⟩
    · unfold g_making
      rw [if_neg (fun q => e2 q.2.1)]
      exact h
    · unfold f_making
      rw [if_pos ok2, if_neg e2]
  have e : (s.2.2.1 3 3).toInt < (12 : Int32).toInt := e
  have hV : K = 0 ∨ K = 4 ∨ (0 ≤ V.toInt ∧ (V.toInt ≤ 15 ∨ (K = 6 ∧ V.toInt ≤ 99))) := by
    rcases i_7 k0 (show K.toInt ≤ 6 by omega) with h | h | h | h | h | h | h
    · exact Or.inl h
    · have := ha.1 h
      exact Or.inr (Or.inr ⟨this.1, Or.inl (by omega)⟩)
    · have := (ha.2.2 (Or.inl h)).1
      exact Or.inr (Or.inr ⟨this.1, Or.inl (by omega)⟩)
    · have := (ha.2.2 (Or.inr (Or.inl h))).1
      exact Or.inr (Or.inr ⟨this.1, Or.inl (by omega)⟩)
    · exact Or.inr (Or.inl h)
    · have := (ha.2.2 (Or.inr (Or.inr h))).1
      exact Or.inr (Or.inr ⟨this.1, Or.inl (by omega)⟩)
    · have := ha.2.1 h
      exact Or.inr (Or.inr ⟨by omega, Or.inr ⟨h, this.2⟩⟩)
  have go : ¬ unl (s.1 4) K S V → nk_wp kx_X5_making kc_X5_making Q 116 [some (.ref 0), some (.int K), some (.int S), some (.int V), some (.int MK), some (.int W), some (.int KN), some (.int PT), some (.int 1)] [] (nx_enc s 0 shC) 0 0 := by
    intro hu
    refine nx_s (nx_s (nx_s (nx_s (nx_s (nx_s (nx_s (nx_s (nx_s (nx_s ?_)))))))))
    refine am_Cx _ s K S V MK W KN PT hInv (by omega) ⟨k0, by omega⟩ ⟨s0, by omega⟩ hV ⟨m0, by omega⟩ ⟨w0, w1⟩ ⟨n0, by omega⟩ (fun f hf hfe => ?_)
    refine nx_s ?_
    have hi := am_inv hInv (by omega) hf
    refine hq _ _ hi.1 (fun A h => ?_)
    have ok2 := ok
    rw [← hNA A h] at ok2
    have e2 : A.2.2.1.2.toInt < 12 := by rw [hMA A h]; omega
    have hu2 : ¬ unl A.2.2.2.1 K S V := fun q => hu ⟨q.1, fun q2 => q.2 (by
      have hVN := (ha.2.2 (Or.inr (Or.inl q.1))).1
      rw [← h.2.2.2.2.1 _ (by omega), ← h.2.2.2.2.1 _ (by omega)]
      exact q2)⟩
    have hret : s.2.2.1 3 3 + 1 - 1 = s.2.2.1 3 3 := Int32.toInt_inj.mp (by
      have z1 : (1 : Int32).toInt = 1 := rfl
      rw [Int32.toInt_sub, i_add (by omega) (by omega), z1, na_bm (show (-2147483648 : Int) ≤ _ by omega) (show _ ≤ (2147483647 : Int) by omega)]
      omega)
    refine ⟨?_, ?_⟩
    · unfold g_making
      rw [if_pos ⟨ok2, e2, hu2⟩]
      obtain ⟨h1, h2, h5, h6, h7, h8⟩ := h
      have nq : ∀ q : Nat, q ≠ 5 → (nx_uf (nx_ui s 5 f) 3 3 (s.2.2.1 3 3 + 1)).1 q = s.1 q := fun q e => if_neg e
      have nf : ∀ q p : Nat, ¬ (q = 3 ∧ p = 3) → (nx_uf (nx_ui s 5 f) 3 3 (s.2.2.1 3 3 + 1)).2.2.1 q p = s.2.2.1 q p := fun q p e => if_neg e
      refine ⟨fun k hk => ?_, fun k i hk hi => ?_, ?_, ?_, fun i hi => ?_, fun i hi => ?_⟩
      · rw [nf _ _ (fun e => by omega)]
        exact h1 k hk
      · rw [nq _ (by omega)]
        exact h2 k i hk hi
      · rw [nf _ _ (fun e => by omega)]
        exact h5
      · show s.2.2.1 3 3 + 1 = A.2.2.1.2 + 1
        rw [h6]
      · rw [nq _ (by decide)]
        exact h7 i hi
      · show f i = am_f A.2.2.2.2 A.2.2.1.2.toInt.toNat K S (mv K V) MK W KN (mp K PT) i
        have em : (s.2.2.1 3 3).toNatClampNeg = A.2.2.1.2.toInt.toNat := by
          rw [← h6]
          exact (Int32.toNat_toInt _).symm
        rw [hfe, em]
        exact am_c (h8 i hi)
    · unfold f_making
      rw [if_pos ok2, if_pos e2, if_neg hu2, hMA A h]
      exact hret
  refine nx_s (nx_s (nx_s ?_))
  refine nk_br.mk (fun k3 => ?_) (fun k3 => go (fun q => k3 q.1))
  have k3 : K = 3 := k3
  have hVN := (ha.2.2 (Or.inr (Or.inl k3))).1
  refine nx_s (nx_s (nx_s (nx_s (nx_s ?_))))
  refine os_C _ s S 0 s0 (by omega) (by decide) (by decide) ?_
  refine nx_s (nx_s (nx_s (nx_s (nx_s ?_))))
  refine os_C _ s V 0 hVN.1 (by omega) (by decide) (by decide) ?_
  refine nx_s ?_
  refine nk_br.mk (fun e3 => go (fun q => q.2 e3)) (fun e3 => ?_)
  have e3 : ¬ s.1 4 (5 * S.toInt.toNat + 0) = s.1 4 (5 * V.toInt.toNat + 0) := e3
  refine nx_s (nx_s (nx_s ?_))
  refine fd_C _ s 3 (by decide) (by decide) (fun t1 hm => ?_)
  refine nx_s ?_
  refine hq t1 _ (fd_inv hInv hm) (fun A h => ?_)
  have ok2 := ok
  rw [← hNA A h] at ok2
  have e2 : A.2.2.1.2.toInt < 12 := by rw [hMA A h]; omega
  have hu : unl A.2.2.2.1 K S V := ⟨k3, fun q => e3 (by
    rw [Nat.add_zero, Nat.add_zero, h.2.2.2.2.1 _ (by omega), h.2.2.2.2.1 _ (by omega)]
    exact q)⟩
  refine ⟨?_, ?_⟩
  · unfold g_making
    rw [if_neg (fun q => q.2.2 hu)]
    exact aC_fd hm h
  · unfold f_making
    rw [if_pos ok2, if_pos e2, if_pos hu]
/-! ### about, told: what is answered -/
noncomputable def f_about (N : Int) (s w : Int32) : Int32 := if (0 ≤ s.toInt ∧ s.toInt < N) ∧ 0 ≤ w.toInt ∧ w.toInt ≤ 4 then 1 else -1
noncomputable def f_told (M : Int) (m w : Int32) : Int32 := if (0 ≤ m.toInt ∧ m.toInt < M) ∧ 0 ≤ w.toInt ∧ w.toInt ≤ 6 then 1 else -1
set_option maxRecDepth 100000 in
theorem ab_Ca (Q : nk_Q) (s : nx_S) (S W : Int32) (hInv : nx_Inv gC s) (hq : ∀ (s1 : nx_S) (r : Int32), nx_Inv gC s1 → (∀ A : AS, aC s A → aC s1 A ∧ r = f_about A.2.2.1.1.toInt S W) → Q (some (.int r)) (nx_enc s1 0 shC)) : ev_X5_about [.ref 0, .int S, .int W] (nx_enc s 0 shC) Q := by
  have z5 : (5 : Int32).toInt = 5 := rfl
  have hN := nC_N hInv
  have no : ¬ ((0 ≤ S.toInt ∧ S.toInt < (s.2.2.1 3 2).toInt) ∧ 0 ≤ W.toInt ∧ W.toInt ≤ 4) → nk_wp kx_X5_about kc_X5_about Q 16 [some (.ref 0), some (.int S), some (.int W)] [] (nx_enc s 0 shC) 0 0 := by
    intro hn
    refine nx_s (nx_s ?_)
    refine hq s _ hInv (fun A h => ⟨h, ?_⟩)
    unfold f_about
    rw [h.2.2.1] at hn
    rw [if_neg hn]
  refine nx_s (nx_s (nx_s ?_))
  refine ix_C _ s S (fun s0 s1 => ?_) (fun hn => ?_)
  rotate_left
  · refine nx_s ?_
    refine nk_br.t (by decide) ?_
    exact no (fun q => hn q.1)
  refine nx_s ?_
  refine nk_br.f (by decide) ?_
  refine nx_s (nx_s (nx_s ?_))
  refine wi_C _ _ W 5 (fun w0 w1 => ?_) (fun hn => ?_)
  rotate_left
  · refine nx_s ?_
    refine nk_br.t (by decide) ?_
    exact no (fun q => by omega)
  refine nx_s ?_
  refine nk_br.f (by decide) ?_
  refine nx_s (nx_s (nx_s (nx_s (nx_s (nx_s ?_)))))
  refine os_C _ s S W s0 (by omega) w0 (by omega) ?_
  refine nx_s (nx_s (nx_s ?_))
  refine hq _ _ (af_inv hInv) (fun A h => ⟨aC_as h, ?_⟩)
  unfold f_about
  rw [if_pos ⟨⟨s0, by rw [← h.2.2.1]; exact s1⟩, w0, by omega⟩]
set_option maxRecDepth 100000 in
theorem td_Ca (Q : nk_Q) (s : nx_S) (M W : Int32) (hInv : nx_Inv gC s) (hq : ∀ (s1 : nx_S) (r : Int32), nx_Inv gC s1 → (∀ A : AS, aC s A → aC s1 A ∧ r = f_told A.2.2.1.2.toInt M W) → Q (some (.int r)) (nx_enc s1 0 shC)) : ev_X5_told [.ref 0, .int M, .int W] (nx_enc s 0 shC) Q := by
  have z7 : (7 : Int32).toInt = 7 := rfl
  have hM : 0 ≤ (s.2.2.1 3 3).toInt ∧ (s.2.2.1 3 3).toInt ≤ 12 := hInv.1 3 (3, 3) (0, 12) rfl rfl
  have no : ¬ ((0 ≤ M.toInt ∧ M.toInt < (s.2.2.1 3 3).toInt) ∧ 0 ≤ W.toInt ∧ W.toInt ≤ 6) → nk_wp kx_X5_told kc_X5_told Q 17 [some (.ref 0), some (.int M), some (.int W)] [] (nx_enc s 0 shC) 0 0 := by
    intro hn
    refine nx_s (nx_s ?_)
    refine hq s _ hInv (fun A h => ⟨h, ?_⟩)
    unfold f_told
    rw [h.2.2.2.1] at hn
    rw [if_neg hn]
  refine nx_s (nx_s (nx_s ?_))
  refine iy_C _ s M (fun s0 s1 => ?_) (fun hn => ?_)
  rotate_left
  · refine nx_s ?_
    refine nk_br.t (by decide) ?_
    exact no (fun q => hn q.1)
  refine nx_s ?_
  refine nk_br.f (by decide) ?_
  refine nx_s (nx_s (nx_s ?_))
  refine wi_C _ _ W 7 (fun w0 w1 => ?_) (fun hn => ?_)
  rotate_left
  · refine nx_s ?_
    refine nk_br.t (by decide) ?_
    exact no (fun q => by omega)
  refine nx_s ?_
  refine nk_br.f (by decide) ?_
  refine nx_s (nx_s (nx_s (nx_s (nx_s (nx_s ?_)))))
  refine mk_C s M W _ s0 (by omega) w0 (by omega) ?_
  refine nx_s (nx_s (nx_s ?_))
  refine hq _ _ (af_inv hInv) (fun A h => ⟨aC_as h, ?_⟩)
  unfold f_told
  rw [if_pos ⟨⟨s0, by rw [← h.2.2.2.1]; exact s1⟩, w0, by omega⟩]
