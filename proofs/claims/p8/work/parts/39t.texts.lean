/-! ===== TEXTS: their sizes and letters in both ===== -/
theorem sp4 {x : Int32} (h0 : 0 ≤ x.toInt) (h1 : x.toInt ≤ 3) : x = 0 ∨ x = 1 ∨ x = 2 ∨ x = 3 := by
  rcases sp6 h0 (by omega) with h | h | h | h | h | h
  · exact Or.inl h
  · exact Or.inr (Or.inl h)
  · exact Or.inr (Or.inr (Or.inl h))
  · exact Or.inr (Or.inr (Or.inr h))
  · rw [h] at h1
    exact absurd h1 (by decide)
  · rw [h] at h1
    exact absurd h1 (by decide)
theorem rt_ey {s : nx_S} (hInv : nx_Inv gC s) {R : Int32} (h0 : 0 ≤ R.toInt) (h1 : R.toInt ≤ 3) : nk_lg [41, 43, 45, 47] R.toNatClampNeg = some (41 + 2 * R.toInt.toNat) ∧ rq_C s (41 + 2 * R.toInt.toNat) := by
  rcases sp4 h0 h1 with rfl | rfl | rfl | rfl
  · exact ⟨rfl, rfl, rfl, by decide, hInv.1 22 (41, 1) (-1, 40) rfl rfl⟩
  · exact ⟨rfl, rfl, rfl, by decide, hInv.1 23 (43, 1) (-1, 40) rfl rfl⟩
  · exact ⟨rfl, rfl, rfl, by decide, hInv.1 24 (45, 1) (-1, 40) rfl rfl⟩
  · exact ⟨rfl, rfl, rfl, by decide, hInv.1 25 (47, 1) (-1, 40) rfl rfl⟩
theorem tf_b {r i : Nat} {b : Int × Int} (hr : r < 4) (hi : gC.2.1[i]? = some (41 + 2 * r, 1)) (hb : gC.2.2.1[i]? = some b) : b = (-1, 40) := by
  have key : ∀ (j : Nat) (k : Nat × Nat), gC.2.1[j]? = some k → gC.2.1[i]? = some k → i = j := fun j k h1 h2 => (List.getElem?_inj (List.getElem?_eq_some_iff.mp h2).1 nd_C).mp (h2.trans h1.symm)
  match r, hr with
  | 0, _ => have e := key 22 (41, 1) rfl hi; subst e; cases hb; rfl
  | 1, _ => have e := key 23 (43, 1) rfl hi; subst e; cases hb; rfl
  | 2, _ => have e := key 24 (45, 1) rfl hi; subst e; cases hb; rfl
  | 3, _ => have e := key 25 (47, 1) rfl hi; subst e; cases hb; rfl
  | r + 4, hr => omega
theorem tf_inv {s : nx_S} {r : Nat} {v : Int32} (h : nx_Inv gC s) (hr : r < 4) (v0 : -1 ≤ v.toInt) (v1 : v.toInt ≤ 40) : nx_Inv gC (nx_uf s (41 + 2 * r) 1 v) := by
  refine ⟨fun i k b hi hb => ?_, h.2.1, h.2.2.1, trivial⟩
  by_cases e : k.1 = 41 + 2 * r ∧ k.2 = 1
  · have hk : k = (41 + 2 * r, 1) := Prod.ext e.1 e.2
    subst hk
    have hb2 := tf_b hr hi hb
    subst hb2
    show -1 ≤ (if 41 + 2 * r = 41 + 2 * r ∧ 1 = 1 then v else _).toInt ∧ (if 41 + 2 * r = 41 + 2 * r ∧ 1 = 1 then v else _).toInt ≤ 40
    rw [if_pos ⟨rfl, rfl⟩]
    exact ⟨v0, v1⟩
  · show b.1 ≤ (if k.1 = 41 + 2 * r ∧ k.2 = 1 then v else s.2.2.1 k.1 k.2).toInt ∧ (if k.1 = 41 + 2 * r ∧ k.2 = 1 then v else s.2.2.1 k.1 k.2).toInt ≤ b.2
    rw [if_neg e]
    exact h.1 i k b hi hb
/-- sizes (below 0: none) and letters -/
abbrev TS : Type := (Nat → Int) × (Nat → Nat → Int32)
def tn (x y : Int) : Prop := x = y ∨ (x < 0 ∧ y < 0)
def tC (s : nx_S) (T : TS) : Prop := (∀ k : Nat, k < 4 → tn (s.2.2.1 (41 + 2 * k) 1).toInt (T.1 k)) ∧ ∀ k i : Nat, k < 4 → i < 40 → s.1 (42 + 2 * k) i = T.2 k i
def tR (s : nx_S) (T : TS) : Prop := (∀ k : Nat, k < 4 → tn (s.1 5 k).toInt (T.1 k)) ∧ ∀ k i : Nat, k < 4 → i < 40 → s.1 6 (40 * k + i) = T.2 k i
def tkC (s s1 : nx_S) : Prop := ∀ T : TS, tC s T → tC s1 T
def tkR (s s1 : nx_S) : Prop := ∀ T : TS, tR s T → tR s1 T
theorem tkC_of {s s1 : nx_S} (f : ∀ k : Nat, k < 4 → s1.2.2.1 (41 + 2 * k) 1 = s.2.2.1 (41 + 2 * k) 1) (a : ∀ k : Nat, k < 4 → s1.1 (42 + 2 * k) = s.1 (42 + 2 * k)) : tkC s s1 := fun T h => ⟨fun k hk => by rw [f k hk]; exact h.1 k hk, fun k i hk hi => by rw [a k hk]; exact h.2 k i hk hi⟩
theorem tkC_p {s s1 : nx_S} (f0 : s1.2.2.1 41 1 = s.2.2.1 41 1) (f1 : s1.2.2.1 43 1 = s.2.2.1 43 1) (f2 : s1.2.2.1 45 1 = s.2.2.1 45 1) (f3 : s1.2.2.1 47 1 = s.2.2.1 47 1) (a0 : s1.1 42 = s.1 42) (a1 : s1.1 44 = s.1 44) (a2 : s1.1 46 = s.1 46) (a3 : s1.1 48 = s.1 48) : tkC s s1 := tkC_of (fun k hk => by
    match k, hk with
    | 0, _ => exact f0
    | 1, _ => exact f1
    | 2, _ => exact f2
    | 3, _ => exact f3
    | k + 4, hk => omega) (fun k hk => by
    match k, hk with
    | 0, _ => exact a0
    | 1, _ => exact a1
    | 2, _ => exact a2
    | 3, _ => exact a3
    | k + 4, hk => omega)
theorem tkR_of {s s1 : nx_S} (h5 : s1.1 5 = s.1 5) (h6 : s1.1 6 = s.1 6) : tkR s s1 := fun T h => by
  unfold tR
  rw [h5, h6]
  exact h
theorem tkC_fd {s s1 : nx_S} (h : fd_P s s1) : tkC s s1 := tkC_of (fun k hk => h.2.2 _ _ (fun e => by omega)) (fun k hk => h.1 _ (by omega))
theorem tkR_me {s s1 : nx_S} (h : me_P s s1) : tkR s s1 := tkR_of (h.1 5 (by decide)) (h.1 6 (by decide))
theorem tk_rf (s : nx_S) : tkC s s := fun _ h => h
theorem tk_rr (s : nx_S) : tkR s s := fun _ h => h
def f_text (r n : Int32) : Int32 := if (0 ≤ r.toInt ∧ r.toInt ≤ 3) ∧ n.toInt ≤ 40 then (if n.toInt < 0 then -3 else n) else -1
def f_put (T : TS) (r i : Int32) : Int32 := if 0 ≤ r.toInt ∧ r.toInt ≤ 3 then (if 0 ≤ T.1 r.toInt.toNat ∧ 0 ≤ i.toInt ∧ i.toInt < T.1 r.toInt.toNat then T.2 r.toInt.toNat i.toInt.toNat + 1000 else -3) else -1
/-- behind text -/
def g_text (T : TS) (r n : Int32) : TS := if (0 ≤ r.toInt ∧ r.toInt ≤ 3) ∧ 0 ≤ n.toInt ∧ n.toInt ≤ 40 then (fun k => if k = r.toInt.toNat then n.toInt else T.1 k, fun k j => if k = r.toInt.toNat then 32 else T.2 k j) else T
/-- behind put -/
def g_put (T : TS) (r i v : Int32) : TS := if (0 ≤ r.toInt ∧ r.toInt ≤ 3) ∧ 0 ≤ T.1 r.toInt.toNat ∧ 0 ≤ i.toInt ∧ i.toInt < T.1 r.toInt.toNat then (T.1, fun k j => if k = r.toInt.toNat ∧ j = i.toInt.toNat then v.toInt8.toInt32 else T.2 k j) else T
set_option maxRecDepth 100000 in
set_option maxHeartbeats 4000000 in
theorem rp_T (Q : nk_Q) (s : nx_S) (R I : Int32) (hInv : nx_Inv gC s) (h1 : 0 ≤ R.toInt → R.toInt ≤ 3 → 0 ≤ I.toInt → I.toInt < (s.2.2.1 (41 + 2 * R.toInt.toNat) 1).toInt → Q (some (.int 0)) (nx_enc s 0 shC)) (h2 : ¬ (0 ≤ R.toInt ∧ R.toInt ≤ 3) → Q (some (.int (-1))) (nx_enc s 0 shC)) (h3 : ∀ s1 : nx_S, fd_P s s1 → 0 ≤ R.toInt → R.toInt ≤ 3 → ¬ (0 ≤ (s.2.2.1 (41 + 2 * R.toInt.toNat) 1).toInt ∧ 0 ≤ I.toInt ∧ I.toInt < (s.2.2.1 (41 + 2 * R.toInt.toNat) 1).toInt) → Q (some (.int (-3))) (nx_enc s1 0 shC)) : ev_X5_refusalOfPlace [.ref 0, .ref 2, .int R, .int I] (nx_enc s 0 shC) Q := by
  have h6 : (Int32.ofNat 4).toInt = 4 := rfl
  refine nx_s (nx_s (nx_s (nx_s ?_)))
  refine wi_C _ _ R (Int32.ofNat 4) (fun r0 r1 => ?_) (fun hn => ?_)
  rotate_left
  · refine nx_s ?_
    refine nk_br.t (by decide) ?_
    refine nx_s (nx_s ?_)
    exact h2 (by omega)
  refine nx_s ?_
  refine nk_br.f (by decide) ?_
  obtain ⟨hq1, hr⟩ := rt_ey hInv (R := R) r0 (by omega)
  have hb := hr.2.2.2
  generalize 41 + 2 * R.toInt.toNat = q at *
  refine nx_s (nx_s (nx_s ?_))
  refine ⟨nx_in (n := 4) r0 (by omega), ?_⟩
  show nk_wp kx_X5_refusalOfPlace kc_X5_refusalOfPlace Q 14 [some (.ref 0), some (.ref 2), some (.int R), some (.int I)] [va_rf (nk_lg [41, 43, 45, 47] R.toNatClampNeg)] (nx_enc s 0 shC) 0 0
  rw [hq1]
  refine nx_s ?_
  refine (nk_obm hr.1 ?_ : nk_obj (nx_enc s 0 shC) q 3 (fun _ => ev_X3_isMissing [.ref q] (nx_enc s 0 shC) (fun r h' => nk_ret r [] (fun Z => nk_wp kx_X5_refusalOfPlace kc_X5_refusalOfPlace Q 17 [some (.ref 0), some (.ref 2), some (.int R), some (.int I)] Z h' 0 0))))
  refine mi_C _ s q hr (fun zq => ?_) (fun zq => ?_)
  · refine nx_s ?_
    refine nk_br.f (by decide) ?_
    refine nx_s (nx_s (nx_s ?_))
    refine fd_C _ s 1 (by decide) (by decide) (fun s1 hm => ?_)
    refine nx_s ?_
    exact h3 s1 hm r0 (by omega) (by omega)
  refine nx_s ?_
  refine nk_br.t (by decide) ?_
  refine nx_s (nx_s (nx_s (nx_s ?_)))
  refine ⟨nx_in (n := 4) r0 (by omega), ?_⟩
  show nk_wp kx_X5_refusalOfPlace kc_X5_refusalOfPlace Q 30 [some (.ref 0), some (.ref 2), some (.int R), some (.int I)] [va_rf (nk_lg [41, 43, 45, 47] R.toNatClampNeg), .int I] (nx_enc s 0 shC) 0 0
  rw [hq1]
  refine nx_gq rfl rfl hr.1 rfl ?_
  show nk_wp kx_X5_refusalOfPlace kc_X5_refusalOfPlace Q 33 [some (.ref 0), some (.ref 2), some (.int R), some (.int I)] [.int (s.2.2.1 q 1), .int I] (nx_enc s 0 shC) 0 0
  refine nx_s ?_
  refine wi_C _ _ I (s.2.2.1 q 1) (fun i0 i1 => ?_) (fun hn => ?_)
  · refine nx_s ?_
    refine nk_br.f (by decide) ?_
    refine nx_s (nx_s (nx_s ?_))
    exact h1 r0 (by omega) i0 (by omega)
  · refine nx_s ?_
    refine nk_br.t (by decide) ?_
    refine nx_s (nx_s (nx_s ?_))
    refine fd_C _ s 2 (by decide) (by decide) (fun s1 hm => ?_)
    refine nx_s ?_
    exact h3 s1 hm r0 (by omega) (by omega)
set_option maxRecDepth 100000 in
set_option maxHeartbeats 4000000 in
theorem pu_C (Q : nk_Q) (s : nx_S) (R I V : Int32) (hInv : nx_Inv gC s) (hq : ∀ (s1 : nx_S) (r : Int32), nx_Inv gC s1 → (∀ T : TS, tC s T → tC s1 (g_put T R I V) ∧ r = f_put T R I) → Q (some (.int r)) (nx_enc s1 0 shC)) : ev_X5_put [.ref 0, .int R, .int I, .int V] (nx_enc s 0 shC) Q := by
  refine nx_s (nx_s (nx_s (nx_s (nx_s (nx_s ?_)))))
  refine rp_T _ s R I hInv (fun r0 r1 i0 i1 => ?_) (fun hn => ?_) (fun s1 hm r0 r1 hn => ?_)
  rotate_left
  · refine nx_s (nx_s (nx_s ?_))
    refine nk_br.f (by decide) ?_
    refine nx_s (nx_s ?_)
    refine hq s _ hInv (fun T h => ⟨?_, by unfold f_put; rw [if_neg hn]⟩)
    unfold g_put
    rw [if_neg (fun h => hn h.1)]
    exact h
  · refine nx_s (nx_s (nx_s ?_))
    refine nk_br.f (by decide) ?_
    refine nx_s (nx_s ?_)
    refine hq s1 _ (fd_inv hInv hm) (fun T h => ?_)
    have hz := h.1 R.toInt.toNat (by omega)
    have hc : ¬ (0 ≤ T.1 R.toInt.toNat ∧ 0 ≤ I.toInt ∧ I.toInt < T.1 R.toInt.toNat) := by
      unfold tn at hz
      omega
    refine ⟨?_, by unfold f_put; rw [if_pos ⟨r0, r1⟩, if_neg hc]⟩
    unfold g_put
    rw [if_neg (fun h => hc h.2)]
    exact tkC_fd hm T h
  obtain ⟨hq1, hr⟩ := rt_ey hInv (R := R) r0 r1
  have hb := hr.2.2.2
  have hIn : I.toNatClampNeg = I.toInt.toNat := (Int32.toNat_toInt I).symm
  refine nx_s (nx_s (nx_s ?_))
  refine nk_br.t (by decide) ?_
  refine nx_s (nx_s (nx_s (nx_s ?_)))
  refine ⟨nx_in (n := 4) r0 (by omega), ?_⟩
  show nk_wp kx_X5_put kc_X5_put Q 26 [some (.ref 0), some (.int R), some (.int I), some (.int V), some (.int 0), none] [va_rf (nk_lg [41, 43, 45, 47] R.toNatClampNeg)] (nx_enc s 0 shC) 0 0
  rw [hq1]
  refine nx_gq rfl rfl hr.1 rfl ?_
  show nk_wp kx_X5_put kc_X5_put Q 29 [some (.ref 0), some (.int R), some (.int I), some (.int V), some (.int 0), none] [.ref (41 + 2 * R.toInt.toNat + 1)] (nx_enc s 0 shC) 0 0
  refine nx_s (nx_iq rfl hr.2.1 (nx_in (n := 40) i0 (by omega)) ?_)
  refine nx_s (nx_s (nx_s (nx_s (nx_s ?_))))
  refine ⟨nx_in (n := 4) r0 (by omega), ?_⟩
  show nk_wp kx_X5_put kc_X5_put Q 39 [some (.ref 0), some (.int R), some (.int I), some (.int V), some (.int 0), some (.int (s.1 (41 + 2 * R.toInt.toNat + 1) I.toNatClampNeg))] [va_rf (nk_lg [41, 43, 45, 47] R.toNatClampNeg)] (nx_enc s 0 shC) 0 0
  rw [hq1]
  refine nx_gq rfl rfl hr.1 rfl ?_
  show nk_wp kx_X5_put kc_X5_put Q 42 [some (.ref 0), some (.int R), some (.int I), some (.int V), some (.int 0), some (.int (s.1 (41 + 2 * R.toInt.toNat + 1) I.toNatClampNeg))] [.ref (41 + 2 * R.toInt.toNat + 1)] (nx_enc s 0 shC) 0 0
  refine nx_s (nx_s (nx_s (nx_iw rfl hr.2.1 (nx_in (n := 40) i0 (by omega)) ?_)))
  refine nx_s (nx_s (nx_s (nx_s ?_)))
  refine hq _ _ (rq_inv hInv hr _) (fun T h => ?_)
  have hz := h.1 R.toInt.toNat (by omega)
  have hv := h.2 R.toInt.toNat I.toInt.toNat (by omega) (by omega)
  have hc : 0 ≤ T.1 R.toInt.toNat ∧ 0 ≤ I.toInt ∧ I.toInt < T.1 R.toInt.toNat := by
    unfold tn at hz
    omega
  rw [hIn]
  refine ⟨?_, ?_⟩
  · unfold g_put
    rw [if_pos ⟨⟨r0, r1⟩, hc⟩]
    refine ⟨h.1, fun k j hk hj => ?_⟩
    show (if 42 + 2 * k = 41 + 2 * R.toInt.toNat + 1 then upd (s.1 (41 + 2 * R.toInt.toNat + 1)) I.toInt.toNat V.toInt8.toInt32 else s.1 (42 + 2 * k)) j = if k = R.toInt.toNat ∧ j = I.toInt.toNat then V.toInt8.toInt32 else T.2 k j
    by_cases ek : k = R.toInt.toNat
    · have e1 : 42 + 2 * k = 41 + 2 * R.toInt.toNat + 1 := by omega
      rw [if_pos e1]
      by_cases ej : j = I.toInt.toNat
      · rw [if_pos ⟨ek, ej⟩, ej, upd_s]
      · rw [if_neg (fun q => ej q.2), upd_n _ _ ej, ← e1]
        exact h.2 k j hk hj
    · rw [if_neg (by omega), if_neg (fun q => ek q.1)]
      exact h.2 k j hk hj
  · unfold f_put
    rw [if_pos ⟨r0, r1⟩, if_pos hc, ← hv]
    rw [show 42 + 2 * R.toInt.toNat = 41 + 2 * R.toInt.toNat + 1 by omega]
set_option maxRecDepth 100000 in
theorem bb_Cx (Q : nk_Q) (s : nx_S) (q : Nat) (N V : Int32) (hr : rq_C s q) (hq : ∀ f : Nat → Int32, (∀ j : Nat, j < 40 → f j = V) → Q none (nx_enc (nx_uf (nx_ui s (q + 1) f) q 1 N) 0 shC)) : ∀ (n i : Nat) (I : Int32) (f : Nat → Int32), i + n = 40 → I.toInt = i → (∀ j : Nat, j < i → f j = V) → nk_wp kx_X3_begin kc_X3_begin Q 2 [some (.ref q), some (.int N), some (.int V), some (.int I)] [] (nx_enc (nx_ui s (q + 1) f) 0 shC) 0 0 := by
  have h40 : (40 : Int32).toInt = 40 := rfl
  have h1 : (1 : Int32).toInt = 1 := rfl
  intro n
  induction n with
  | zero =>
    intro i I f hi hI hf
    refine nx_s (nx_s (nx_s ?_))
    refine nk_br.t (i_le (by omega)) ?_
    refine nx_s (nx_s (nx_pq rfl rfl hr.1 rfl ?_))
    refine nx_s ?_
    exact hq f (fun j hj => hf j (by omega))
  | succ n ih =>
    intro i I f hi hI hf
    have e1 : (I + 1).toInt = ((i + 1 : Nat) : Int) := by
      rw [i_add (by omega) (by omega)]
      omega
    have eI : I.toNatClampNeg = i := nx_cl hI
    refine nx_s (nx_s (nx_s ?_))
    refine nk_br.f (i_nle (by omega)) ?_
    refine nx_s (nx_gq rfl rfl hr.1 rfl ?_)
    show nk_wp kx_X3_begin kc_X3_begin Q 12 [some (.ref q), some (.int N), some (.int V), some (.int I)] [.ref (q + 1)] (nx_enc (nx_ui s (q + 1) f) 0 shC) 0 0
    refine nx_s (nx_s (nx_iw rfl hr.2.1 (nx_in (n := 40) (by omega) (by omega)) ?_))
    rw [nx_uu, nx_u1, eI]
    refine nx_s (nx_s ?_)
    refine ih (i + 1) (I + 1) _ (by omega) e1 (fun j hj => ?_)
    by_cases ej : j = i
    · rw [ej, upd_s]
    · rw [upd_n _ _ ej]
      exact hf j (by omega)
set_option maxRecDepth 100000 in
set_option maxHeartbeats 4000000 in
theorem tx_C (Q : nk_Q) (s : nx_S) (R N : Int32) (hInv : nx_Inv gC s) (hq : ∀ (s1 : nx_S) (r : Int32), nx_Inv gC s1 → (∀ T : TS, tC s T → tC s1 (g_text T R N)) → r = f_text R N → Q (some (.int r)) (nx_enc s1 0 shC)) : ev_X5_text [.ref 0, .int R, .int N] (nx_enc s 0 shC) Q := by
  have h6 : (Int32.ofNat 4).toInt = 4 := rfl
  have h40 : (40 : Int32).toInt = 40 := rfl
  have h0 : (0 : Int32).toInt = 0 := rfl
  have same : ∀ s1 : nx_S, tkC s s1 → ¬ ((0 ≤ R.toInt ∧ R.toInt ≤ 3) ∧ 0 ≤ N.toInt ∧ N.toInt ≤ 40) → ∀ T : TS, tC s T → tC s1 (g_text T R N) := fun s1 hk hn T h => by
    unfold g_text
    rw [if_neg hn]
    exact hk T h
  have bad : ¬ ((0 ≤ R.toInt ∧ R.toInt ≤ 3) ∧ N.toInt ≤ 40) → nk_wp kx_X5_begin kc_X5_begin (fun v h' => nk_ret v [] (fun T => nk_wp kx_X5_text kc_X5_text Q 12 [some (.ref 0), some (.int R), some (.int N)] T h' 0 0)) 15 [some (.ref 0), some (.ref 2), some (.int R), some (.int N), some (.int 32)] [] (nx_enc s 0 shC) 0 0 := by
    intro hn
    refine nx_s (nx_s ?_)
    refine nx_s ?_
    exact hq s _ hInv (same s (tk_rf s) (fun h => by omega)) (by unfold f_text; rw [if_neg hn])
  refine nx_s (nx_s (nx_s (nx_s (nx_s (nx_s (nx_s ?_))))))
  refine nx_s (nx_s (nx_s (nx_s ?_)))
  refine wi_C _ _ R (Int32.ofNat 4) (fun r0 r1 => ?_) (fun hn => ?_)
  rotate_left
  · refine nx_s ?_
    refine nk_br.t (by decide) ?_
    exact bad (by omega)
  refine nx_s ?_
  refine nk_br.f (by decide) ?_
  refine nx_s (nx_s (nx_s ?_))
  refine br_le (fun n1 => ?_) (fun n1 => ?_)
  rotate_left
  · exact bad (by omega)
  refine nx_s (nx_s ?_)
  refine br_le (fun n0 => ?_) (fun n0 => ?_)
  rotate_left
  · refine nx_s (nx_s (nx_s ?_))
    refine fd_C _ s 5 (by decide) (by decide) (fun s1 hm => ?_)
    refine nx_s (nx_s ?_)
    exact hq s1 _ (fd_inv hInv hm) (same s1 (tkC_fd hm) (fun h => by omega)) (by unfold f_text; rw [if_pos ⟨⟨r0, by omega⟩, by omega⟩, if_pos (by omega)])
  obtain ⟨hq1, hr⟩ := rt_ey hInv (R := R) r0 (by omega)
  refine nx_s (nx_s (nx_s ?_))
  refine ⟨nx_in (n := 4) r0 (by omega), ?_⟩
  show nk_wp kx_X5_begin kc_X5_begin (fun v h' => nk_ret v [] (fun T => nk_wp kx_X5_text kc_X5_text Q 12 [some (.ref 0), some (.int R), some (.int N)] T h' 0 0)) 30 [some (.ref 0), some (.ref 2), some (.int R), some (.int N), some (.int 32)] [va_rf (nk_lg [41, 43, 45, 47] R.toNatClampNeg)] (nx_enc s 0 shC) 0 0
  rw [hq1]
  refine nx_s (nx_s (nx_s ?_))
  refine (nk_obm hr.1 ?_ : nk_obj (nx_enc s 0 shC) (41 + 2 * R.toInt.toNat) 3 (fun _ => ev_X3_begin [.ref (41 + 2 * R.toInt.toNat), .int N, .int 32] (nx_enc s 0 shC) (fun r h' => nk_ret r [] (fun Z => nk_wp kx_X5_begin kc_X5_begin (fun v h' => nk_ret v [] (fun T => nk_wp kx_X5_text kc_X5_text Q 12 [some (.ref 0), some (.int R), some (.int N)] T h' 0 0)) 36 [some (.ref 0), some (.ref 2), some (.int R), some (.int N), some (.int 32)] Z h' 0 0))))
  refine nx_s (nx_s ?_)
  have es : s = nx_ui s (41 + 2 * R.toInt.toNat + 1) (s.1 (41 + 2 * R.toInt.toNat + 1)) := by
    refine Prod.ext (funext (fun q => ?_)) rfl
    show s.1 q = if q = 41 + 2 * R.toInt.toNat + 1 then _ else s.1 q
    by_cases e : q = 41 + 2 * R.toInt.toNat + 1
    · rw [if_pos e, e]
    · rw [if_neg e]
  have go := bb_Cx (fun r h' => nk_ret r [] (fun Z => nk_wp kx_X5_begin kc_X5_begin (fun v h' => nk_ret v [] (fun T => nk_wp kx_X5_text kc_X5_text Q 12 [some (.ref 0), some (.int R), some (.int N)] T h' 0 0)) 36 [some (.ref 0), some (.ref 2), some (.int R), some (.int N), some (.int 32)] Z h' 0 0)) s (41 + 2 * R.toInt.toNat) N 32 hr (fun f hf => ?_) 40 0 0 (s.1 (41 + 2 * R.toInt.toNat + 1)) rfl rfl (fun j hj => absurd hj (Nat.not_lt_zero j))
  · rw [← es] at go
    exact go
  refine nx_s (nx_s (nx_s ?_))
  refine hq _ _ (tf_inv (rq_inv hInv hr f) (by omega) (by omega) (by omega)) (fun T h => ?_) (by unfold f_text; rw [if_pos ⟨⟨r0, by omega⟩, by omega⟩, if_neg (by omega)])
  unfold g_text
  rw [if_pos ⟨⟨r0, by omega⟩, by omega, by omega⟩]
  refine ⟨fun k hk => ?_, fun k j hk hj => ?_⟩
  · show tn (if 41 + 2 * k = 41 + 2 * R.toInt.toNat ∧ 1 = 1 then N else s.2.2.1 (41 + 2 * k) 1).toInt (if k = R.toInt.toNat then N.toInt else T.1 k)
    by_cases ek : k = R.toInt.toNat
    · rw [if_pos ⟨by rw [ek], rfl⟩, if_pos ek]
      exact Or.inl rfl
    · rw [if_neg (fun e => by omega), if_neg ek]
      exact h.1 k hk
  · show (if 42 + 2 * k = 41 + 2 * R.toInt.toNat + 1 then f else s.1 (42 + 2 * k)) j = if k = R.toInt.toNat then 32 else T.2 k j
    by_cases ek : k = R.toInt.toNat
    · rw [if_pos (by omega), if_pos ek]
      exact hf j hj
    · rw [if_neg (by omega), if_neg ek]
      exact h.2 k j hk hj
