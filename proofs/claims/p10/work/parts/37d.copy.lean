/-! ===== the reference's copy by hand ===== -/
noncomputable def cp_P (s s1 : nx_S) : Prop := (∀ q : Nat, q ≠ 3 → q ≠ 4 → s1.1 q = s.1 q) ∧ s1.2 = s.2
theorem cp_inv {s s1 : nx_S} (h : nx_Inv gR s) (hp : cp_P s s1) : nx_Inv gR s1 := by
  refine ⟨fun i k b hi hb => ?_, fun q n l hq i hi => ?_, ?_, ?_⟩
  · rw [hp.2]
    exact h.1 i k b hi hb
  · by_cases e : q = 3
    · subst e
      exact na_i32 _
    · by_cases e4 : q = 4
      · subst e4
        exact na_i32 _
      · rw [hp.1 q e e4]
        exact h.2.1 q n l hq i hi
  · show nx_PM (s1.1 8)
    rw [hp.1 8 (by decide) (by decide)]
    exact h.2.2.1
  · show PER s1
    unfold PER
    rw [hp.1 7 (by decide) (by decide), hp.1 8 (by decide) (by decide), hp.2]
    exact h.2.2.2
theorem cp_st {s s1 : nx_S} (hp : cp_P s s1) (q : Nat) (hq : q = 3 ∨ q = 4) (f : Nat → Int32) : cp_P s (nx_ui s1 q f) := by
  refine ⟨fun r h3 h4 => ?_, hp.2⟩
  show (if r = q then f else s1.1 r) = s.1 r
  rw [if_neg (fun e => by rcases hq with e2 | e2 <;> omega)]
  exact hp.1 r h3 h4
theorem i_40 {r i : Int32} (h1 : 0 ≤ r.toInt) (h2 : r.toInt ≤ 5) (h3 : 0 ≤ i.toInt) (h4 : i.toInt ≤ 39) : (40 * r).toInt = 40 * r.toInt ∧ (40 * r + i).toInt = 40 * r.toInt + i.toInt := by
  have h40 : (40 : Int32).toInt = 40 := rfl
  have e : (40 * r).toInt = 40 * r.toInt := i_mul (by rw [h40]) (by omega) (by omega)
  exact ⟨e, by rw [i_add (by omega) (by omega), e]⟩
set_option maxRecDepth 100000 in
set_option maxHeartbeats 4000000 in
theorem cp_l2 (Q : nk_Q) (s : nx_S) (R I T J N : Int32) (n : Nat) (hN : N.toInt = n) (hT0 : 0 ≤ T.toInt) (hT1 : T.toInt ≤ 5) (hJ0 : 0 ≤ J.toInt) (hJ1 : J.toInt + n ≤ 40) (hq : ∀ s1 : nx_S, cp_P s s1 → Q (some (.int 1)) (nx_enc s1 0 shR)) : ∀ (m k : Nat) (K : Int32) (s1 : nx_S), k + m = n → K.toInt = k → cp_P s s1 → nk_wp kx_X6_copy kc_X6_copy Q 136 [some (.ref 0), some (.int R), some (.int I), some (.int T), some (.int J), some (.int N), some (.int K)] [] (nx_enc s1 0 shR) 0 0 := by
  have h1 : (1 : Int32).toInt = 1 := rfl
  intro m
  induction m with
  | zero =>
    intro k K s1 hk hK hp
    refine nx_s (nx_s (nx_s ?_))
    refine nk_br.t (i_le (by omega)) ?_
    refine nx_s (nx_s ?_)
    exact hq s1 hp
  | succ m ih =>
    intro k K s1 hk hK hp
    have e1 : (K + 1).toInt = ((k + 1 : Nat) : Int) := by
      rw [i_add (by omega) (by omega)]
      omega
    have ej := (i_40 (r := T) (i := J) hT0 hT1 hJ0 (by omega)).2
    have ek : (40 * T + J + K).toInt = 40 * T.toInt + J.toInt + K.toInt := by
      rw [i_add (by omega) (by omega), ej]
    refine nx_s (nx_s (nx_s ?_))
    refine nk_br.f (i_nle (by omega)) ?_
    refine nx_s (nx_s (nx_s (nx_s (nx_s (nx_s (nx_s (nx_s (nx_s (nx_s (nx_s (nx_s (nx_s ?_))))))))))))
    refine ⟨nx_in (n := 40) (by omega) (by omega), ?_⟩
    refine nx_s ?_
    refine ⟨nx_in (n := 240) (by omega) (by omega), ?_⟩
    refine nx_s (nx_s ?_)
    exact ih (k + 1) (K + 1) _ (by omega) e1 (cp_st hp 3 (Or.inl rfl) _)
set_option maxRecDepth 100000 in
set_option maxHeartbeats 4000000 in
theorem cp_l1 (Q : nk_Q) (s : nx_S) (R I T J N : Int32) (n : Nat) (hN : N.toInt = n) (hR0 : 0 ≤ R.toInt) (hR1 : R.toInt ≤ 5) (hI0 : 0 ≤ I.toInt) (hI1 : I.toInt + n ≤ 40) (hT0 : 0 ≤ T.toInt) (hT1 : T.toInt ≤ 5) (hJ0 : 0 ≤ J.toInt) (hJ1 : J.toInt + n ≤ 40) (hq : ∀ s1 : nx_S, cp_P s s1 → Q (some (.int 1)) (nx_enc s1 0 shR)) : ∀ (m k : Nat) (K : Int32) (s1 : nx_S), k + m = n → K.toInt = k → cp_P s s1 → nk_wp kx_X6_copy kc_X6_copy Q 104 [some (.ref 0), some (.int R), some (.int I), some (.int T), some (.int J), some (.int N), some (.int K)] [] (nx_enc s1 0 shR) 0 0 := by
  have h1 : (1 : Int32).toInt = 1 := rfl
  intro m
  induction m with
  | zero =>
    intro k K s1 hk hK hp
    refine nx_s (nx_s (nx_s ?_))
    refine nk_br.t (i_le (by omega)) ?_
    refine nx_s (nx_s ?_)
    exact cp_l2 Q s R I T J N n hN hT0 hT1 hJ0 hJ1 hq n 0 0 s1 (by omega) rfl hp
  | succ m ih =>
    intro k K s1 hk hK hp
    have e1 : (K + 1).toInt = ((k + 1 : Nat) : Int) := by
      rw [i_add (by omega) (by omega)]
      omega
    have ei : (I + K).toInt = I.toInt + K.toInt := i_add (by omega) (by omega)
    have er := (i_40 (r := R) (i := I + K) hR0 hR1 (by omega) (by omega)).2
    refine nx_s (nx_s (nx_s ?_))
    refine nk_br.f (i_nle (by omega)) ?_
    refine nx_s (nx_s (nx_s (nx_s (nx_s (nx_s (nx_s (nx_s (nx_s ?_))))))))
    refine nx_s (nx_s (nx_s (nx_s (nx_s (nx_s (nx_s (nx_s ?_)))))))
    refine ⟨nx_in (n := 240) (by omega) (by omega), ?_⟩
    refine nx_s (nx_s ?_)
    refine ⟨nx_in (n := 40) (by omega) (by omega), ?_⟩
    refine nx_s (nx_s ?_)
    exact ih (k + 1) (K + 1) _ (by omega) e1 (cp_st hp 4 (Or.inr rfl) _)
theorem ll_cg2 {X Y : Int64} : (X.toInt ≤ Y.toInt → ¬ 0 < lg_cmp X Y) ∧ (Y.toInt < X.toInt → 0 < lg_cmp X Y) := by
  have h := ll_cl (X := X) (Y := Y)
  have h0 : (0 : Int32).toInt = 0 := rfl
  constructor
  · intro q
    have := Int32.le_iff_toInt_le.mp (h.1 q)
    intro q2
    have := Int32.lt_iff_toInt_lt.mp q2
    omega
  · intro q
    refine Int32.lt_iff_toInt_lt.mpr ?_
    have := h.2 q
    have h3 : ¬ (lg_cmp X Y).toInt ≤ (0 : Int32).toInt := fun q3 => this (Int32.le_iff_toInt_le.mpr q3)
    omega
theorem ll_i2 {I N : Int32} : (I.toInt64 + N.toInt64).toInt = I.toInt + N.toInt := by
  have a := na_i32 I
  have b := na_i32 N
  have a1 : na_mn = -2147483648 := rfl
  have a2 : na_mx = 2147483647 := rfl
  have e1 : I.toInt64.toInt = I.toInt := Int32.toInt_toInt64 I
  have e2 : N.toInt64.toInt = N.toInt := Int32.toInt_toInt64 N
  rw [Int64.toInt_add, e1, e2, na_bml (show (-9223372036854775808 : Int) ≤ _ by omega) (show _ ≤ (9223372036854775807 : Int) by omega)]
set_option maxRecDepth 100000 in
theorem ir_R (Q : nk_Q) (s : nx_S) (v : Int32) (h1 : 0 ≤ v.toInt → v.toInt ≤ 5 → Q (some (.int 1)) (nx_enc s 0 shR)) (h2 : Q (some (.int 0)) (nx_enc s 0 shR)) : ev_X6_isRow [.int v] (nx_enc s 0 shR) Q := by
  have a0 : (0 : Int32).toInt = 0 := rfl
  have a5 : (5 : Int32).toInt = 5 := rfl
  refine nx_s (nx_s (nx_s (nx_s ?_)))
  refine in_R _ _ v 0 5 (fun x y => ?_) (fun _ => ?_)
  · refine nx_s ?_
    refine nk_bo1 ?_
    exact h1 (by omega) (by omega)
  · refine nx_s ?_
    refine nk_bo0 ?_
    exact h2
set_option maxRecDepth 100000 in
set_option maxHeartbeats 4000000 in
theorem cp_R (Q : nk_Q) (s : nx_S) (R I T J N : Int32) (hInv : nx_Inv gR s) (hq : ∀ (s1 : nx_S) (r : Int32), nx_Inv gR s1 → (cp_P s s1 ∨ me_P s s1) → Q (some (.int r)) (nx_enc s1 0 shR)) : ev_X6_copy [.ref 0, .int R, .int I, .int T, .int J, .int N] (nx_enc s 0 shR) Q := by
  have a0 : (0 : Int32).toInt = 0 := rfl
  have no : nk_wp kx_X6_copy kc_X6_copy Q 14 [some (.ref 0), some (.int R), some (.int I), some (.int T), some (.int J), some (.int N), none] [] (nx_enc s 0 shR) 0 0 := by
    refine nx_s (nx_s ?_)
    exact hq s (-1) hInv (Or.inl ⟨fun _ _ _ => rfl, rfl⟩)
  have me : ∀ (f : Int32) (L : nk_Ls) (pc : Nat), 0 ≤ f.toInt → f.toInt ≤ 5 → kc_X6_copy pc = some (.ireturn, 1, pc + 1, [], 0) → ev_X6_meets [.ref 0, .int f] (nx_enc s 0 shR) (fun v h' => nk_ret v [] (fun T' => nk_wp kx_X6_copy kc_X6_copy Q pc L T' h' 0 0)) := by
    intro f L pc h0 h5 hk
    refine me_R _ s f h0 h5 (fun s1 hm => ?_)
    refine nk_s ?_
    unfold nk_at
    rw [hk]
    exact hq s1 (-3) (me_inv hInv hm) (Or.inr hm)
  refine nx_s (nx_s ?_)
  refine ir_R _ s R (fun r0 r1 => ?_) ?_
  rotate_left
  · refine nx_s ?_
    refine nk_br.t (by decide) ?_
    exact no
  refine nx_s ?_
  refine nk_br.f (by decide) ?_
  refine nx_s (nx_s ?_)
  refine ir_R _ s T (fun t0 t1 => ?_) ?_
  rotate_left
  · refine nx_s ?_
    refine nk_br.t (by decide) ?_
    exact no
  refine nx_s ?_
  refine nk_br.f (by decide) ?_
  refine nx_s (nx_s ?_)
  refine br_le (fun n0 => ?_) (fun _ => ?_)
  rotate_left
  · refine nx_s (nx_s (nx_s ?_))
    exact me 5 _ 26 (by decide) (by decide) rfl
  have pr := hInv.2.1 2 6 [] rfl R.toNatClampNeg (by have : R.toInt.toNat = R.toNatClampNeg := Int32.toNat_toInt R; omega)
  have pt := hInv.2.1 2 6 [] rfl T.toNatClampNeg (by have : T.toInt.toNat = T.toNatClampNeg := Int32.toNat_toInt T; omega)
  have pr1 : (s.1 2 R.toNatClampNeg).toInt ≤ 40 := pr.2
  have pt1 : (s.1 2 T.toNatClampNeg).toInt ≤ 40 := pt.2
  have eR : (s.1 2 R.toNatClampNeg).toInt64.toInt = (s.1 2 R.toNatClampNeg).toInt := Int32.toInt_toInt64 _
  have eT : (s.1 2 T.toNatClampNeg).toInt64.toInt = (s.1 2 T.toNatClampNeg).toInt := Int32.toInt_toInt64 _
  have bad : nk_wp kx_X6_copy kc_X6_copy Q 95 [some (.ref 0), some (.int R), some (.int I), some (.int T), some (.int J), some (.int N), none] [] (nx_enc s 0 shR) 0 0 := by
    refine nx_s (nx_s (nx_s ?_))
    exact me 2 _ 100 (by decide) (by decide) rfl
  have non : nk_wp kx_X6_copy kc_X6_copy Q 45 [some (.ref 0), some (.int R), some (.int I), some (.int T), some (.int J), some (.int N), none] [] (nx_enc s 0 shR) 0 0 := by
    refine nx_s (nx_s (nx_s ?_))
    exact me 1 _ 50 (by decide) (by decide) rfl
  refine nx_s (nx_s (nx_s (nx_s ?_)))
  refine ⟨nx_in (n := 6) (by omega) (by omega), ?_⟩
  refine nx_s ?_
  refine nk_br.mk (fun _ => non) (fun _ => ?_)
  refine nx_s (nx_s (nx_s (nx_s ?_)))
  refine ⟨nx_in (n := 6) (by omega) (by omega), ?_⟩
  refine nx_s ?_
  refine nk_br.mk (fun _ => ?_) (fun _ => non)
  refine nx_s (nx_s ?_)
  refine br_lt (fun _ => bad) (fun i0 => ?_)
  refine nx_s (nx_s ?_)
  refine br_lt (fun _ => bad) (fun j0 => ?_)
  refine nx_s (nx_s (nx_s (nx_s (nx_s (nx_s (nx_s (nx_s (nx_s ?_))))))))
  refine ⟨nx_in (n := 6) (by omega) (by omega), ?_⟩
  refine nx_s (nx_s (nx_s ?_))
  show nk_br (0 < lg_cmp (I.toInt64 + N.toInt64) (s.1 2 R.toNatClampNeg).toInt64) _ _
  by_cases hi : I.toInt + N.toInt ≤ (s.1 2 R.toNatClampNeg).toInt
  rotate_left
  · refine nk_br.t (ll_cg2.2 (by rw [ll_i2, eR]; omega)) ?_
    exact bad
  refine nk_br.f (ll_cg2.1 (by rw [ll_i2, eR]; exact hi)) ?_
  refine nx_s (nx_s (nx_s (nx_s (nx_s (nx_s (nx_s (nx_s (nx_s ?_))))))))
  refine ⟨nx_in (n := 6) (by omega) (by omega), ?_⟩
  refine nx_s (nx_s (nx_s ?_))
  show nk_br (lg_cmp (J.toInt64 + N.toInt64) (s.1 2 T.toNatClampNeg).toInt64 ≤ 0) _ _
  by_cases hj : J.toInt + N.toInt ≤ (s.1 2 T.toNatClampNeg).toInt
  rotate_left
  · refine nk_br.f (ll_cl.2 (by rw [ll_i2, eT]; omega)) ?_
    exact bad
  refine nk_br.t (ll_cl.1 (by rw [ll_i2, eT]; exact hj)) ?_
  refine nx_s (nx_s ?_)
  exact cp_l1 Q s R I T J N N.toInt.toNat (by omega) r0 r1 (by omega) (by omega) t0 t1 (by omega) (by omega) (fun s1 h1 => hq s1 1 (cp_inv hInv h1) (Or.inl h1)) N.toInt.toNat 0 0 s (by omega) rfl ⟨fun _ _ _ => rfl, rfl⟩
