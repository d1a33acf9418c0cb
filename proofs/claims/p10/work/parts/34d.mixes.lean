/-! ===== the reference's mixes ===== -/
theorem ll_mul {X Y : Int64} {x y : Nat} (hX : X.toInt = x) (hY : Y.toInt = y) (h : x * y ≤ 4000000000000000000) : (X * Y).toInt = ((x * y : Nat) : Int) := by
  have key : ∀ d : Nat, d ≤ 4000000000000000000 → (d : Int).bmod (2 ^ 64) = d := fun d h => na_bml (show (-9223372036854775808 : Int) ≤ d by omega) (show (d : Int) ≤ 9223372036854775807 by omega)
  rw [Int64.toInt_mul, hX, hY, ← Int.natCast_mul, key _ h]
theorem ll_add {X Y : Int64} {x y : Nat} (hX : X.toInt = x) (hY : Y.toInt = y) (h : x + y ≤ 4000000000000000000) : (X + Y).toInt = ((x + y : Nat) : Int) := by
  have key : ∀ d : Nat, d ≤ 4000000000000000000 → (d : Int).bmod (2 ^ 64) = d := fun d h => na_bml (show (-9223372036854775808 : Int) ≤ d by omega) (show (d : Int) ≤ 9223372036854775807 by omega)
  rw [Int64.toInt_add, hX, hY, ← Int.natCast_add, key _ h]
theorem ll_i {X : Int32} {x : Nat} (h : X.toInt = x) : X.toInt64.toInt = x := by rw [Int32.toInt_toInt64, h]
theorem ll_v {P1 X1 W2 P2 X2 W1 : Int64} {p1 x1 w2 p2 x2 w1 : Nat} (a1 : P1.toInt = p1) (a2 : X1.toInt = x1) (a3 : W2.toInt = w2) (a4 : P2.toInt = p2) (a5 : X2.toInt = x2) (a6 : W1.toInt = w1) (b1 : p1 ≤ w1) (b2 : p2 ≤ w2) (c1 : w1 ≤ 10000) (c2 : w2 ≤ 10000) (c3 : x1 ≤ 2000000) (c4 : x2 ≤ 2000000) :
    (P1 * X1 * W2 + P2 * X2 * W1).toInt = ((p1 * x1 * w2 + p2 * x2 * w1 : Nat) : Int) ∧ p1 * x1 * w2 + p2 * x2 * w1 ≤ w1 * w2 * (x1 + x2) ∧ w1 * w2 * (x1 + x2) ≤ 400000000000000 := by
  have d1 : p1 * x1 ≤ 10000 * 2000000 := Nat.mul_le_mul (by omega) c3
  have d2 : p2 * x2 ≤ 10000 * 2000000 := Nat.mul_le_mul (by omega) c4
  have d3 : p1 * x1 * w2 ≤ 20000000000 * 10000 := Nat.mul_le_mul (by omega) c2
  have d4 : p2 * x2 * w1 ≤ 20000000000 * 10000 := Nat.mul_le_mul (by omega) c1
  have e1 := ll_mul a1 a2 (by omega)
  have e2 := ll_mul e1 a3 (by omega)
  have e3 := ll_mul a4 a5 (by omega)
  have e4 := ll_mul e3 a6 (by omega)
  refine ⟨ll_add e2 e4 (by omega), ?_, ?_⟩
  · have f1 : p1 * x1 * w2 ≤ w1 * x1 * w2 := Nat.mul_le_mul (Nat.mul_le_mul b1 (Nat.le_refl _)) (Nat.le_refl _)
    have f2 : p2 * x2 * w1 ≤ w2 * x2 * w1 := Nat.mul_le_mul (Nat.mul_le_mul b2 (Nat.le_refl _)) (Nat.le_refl _)
    have g1 : w1 * w2 * (x1 + x2) = w1 * x1 * w2 + w2 * x2 * w1 := by
      rw [Nat.mul_add, Nat.mul_right_comm w1 w2 x1, Nat.mul_comm w1 w2, Nat.mul_right_comm w2 w1 x2]
    omega
  · have f3 : w1 * w2 ≤ 10000 * 10000 := Nat.mul_le_mul c1 c2
    have f4 : w1 * w2 * (x1 + x2) ≤ 100000000 * 4000000 := Nat.mul_le_mul (by omega) (by omega)
    omega
/-- PARTS and lower numbers of two things -/
noncomputable def mx_V (s : nx_S) (a b x y p : Nat) : Nat := (s.2.1 14 (6 * a + p)).toInt.toNat * x * (s.2.1 15 b).toInt.toNat + (s.2.1 14 (6 * b + p)).toInt.toNat * y * (s.2.1 15 a).toInt.toNat
noncomputable def mx_w (s : nx_S) (a b x y : Nat) : Nat := (s.2.1 15 a).toInt.toNat * (s.2.1 15 b).toInt.toNat * (x + y)
/-- a thing whose PARTS are told -/
noncomputable def mx_t (s : nx_S) (a : Nat) : Prop := a < 16 ∧ 1 ≤ (s.2.1 15 a).toInt ∧ (s.2.1 15 a).toInt ≤ 10000 ∧ ∀ p : Nat, p < 6 → 0 ≤ (s.2.1 14 (6 * a + p)).toInt ∧ (s.2.1 14 (6 * a + p)).toInt ≤ (s.2.1 15 a).toInt
/-- in the first round: what has been told of the six -/
noncomputable def mx_1 (s : nx_S) (a b x y j : Nat) (s1 : nx_S) : Prop := s1.1 = s.1 ∧ s1.2.2 = s.2.2 ∧ (∀ q : Nat, q ≠ 16 → s1.2.1 q = s.2.1 q) ∧ ∀ p : Nat, p < j → (s1.2.1 16 p).toInt = ((mx_V s a b x y p : Nat) : Int)
theorem mx_1s {s s1 : nx_S} {a b x y j : Nat} (h : mx_1 s a b x y j s1) {v : Int64} (hv : v.toInt = ((mx_V s a b x y j : Nat) : Int)) : mx_1 s a b x y (j + 1) (nx_uj s1 16 (vp_updL (s1.2.1 16) j v)) := by
  have e16 : (nx_uj s1 16 (vp_updL (s1.2.1 16) j v)).2.1 16 = vp_updL (s1.2.1 16) j v := rfl
  refine ⟨h.1, h.2.1, fun q hq => ?_, fun p hp => ?_⟩
  · show (if q = 16 then _ else s1.2.1 q) = s.2.1 q
    rw [if_neg hq]
    exact h.2.2.1 q hq
  · rw [e16]
    by_cases e : p = j
    · rw [e, vp_updL_s]
      exact hv
    · rw [vp_updL_n _ _ e]
      exact h.2.2.2 p (by omega)
set_option maxRecDepth 100000 in
set_option maxHeartbeats 4000000 in
theorem mx_l1 (Q : nk_Q) (s : nx_S) (A B X Y : Int32) (a b x y : Nat) (hA : A.toInt = a) (hB : B.toInt = b) (hX : X.toInt = x) (hY : Y.toInt = y) (ha : mx_t s a) (hb : mx_t s b) (hx : x ≤ 2000000) (hy : y ≤ 2000000) (W : Int64)
    (hq : ∀ (s1 : nx_S) (D : Int64) (d : Nat) (Z : Int32) (o : Option Value), mx_1 s a b x y 6 s1 → D.toInt = d → 1 ≤ d → d ∣ mx_w s a b x y → nk_wp kx_X6_mixes kc_X6_mixes Q 115 [some (.ref 0), some (.int A), some (.int B), some (.int X), some (.int Y), some (.long W), none, some (.long D), none, some (.int Z), o, none] [] (nx_enc s1 0 shR) 0 0) :
    ∀ (n j : Nat) (J : Int32) (D : Int64) (d : Nat) (o : Option Value) (s1 : nx_S), j + n = 6 → J.toInt = j → mx_1 s a b x y j s1 → D.toInt = d → 1 ≤ d → d ∣ mx_w s a b x y → nk_wp kx_X6_mixes kc_X6_mixes Q 36 [some (.ref 0), some (.int A), some (.int B), some (.int X), some (.int Y), some (.long W), none, some (.long D), none, some (.int J), o, none] [] (nx_enc s1 0 shR) 0 0 := by
  have h6 : (6 : Int32).toInt = 6 := rfl
  have h1 : (1 : Int32).toInt = 1 := rfl
  have a16 := ha.1
  have b16 := hb.1
  have eA : A.toNatClampNeg = a := nx_cl hA
  have eB : B.toNatClampNeg = b := nx_cl hB
  intro n
  induction n with
  | zero =>
    intro j J D d o s1 hj hJ hp hD hd hdv
    refine nx_s (nx_s (nx_s ?_))
    refine nk_br.t (i_le (by omega)) ?_
    have e : j = 6 := by omega
    subst e
    exact hq s1 D d J o hp hD hd hdv
  | succ n ih =>
    intro j J D d o s1 hj hJ hp hD hd hdv
    have e1 : (J + 1).toInt = ((j + 1 : Nat) : Int) := by
      rw [i_add (by omega) (by omega)]
      omega
    have eJ : J.toNatClampNeg = j := nx_cl hJ
    have xA : (6 * A + J).toInt = 6 * A.toInt + J.toInt := i_6k (by omega) (by omega) (by omega) (by omega)
    have xB : (6 * B + J).toInt = 6 * B.toInt + J.toInt := i_6k (by omega) (by omega) (by omega) (by omega)
    have cA : (6 * A + J).toNatClampNeg = 6 * a + j := nx_cl (by omega)
    have cB : (6 * B + J).toNatClampNeg = 6 * b + j := nx_cl (by omega)
    have q14 : s1.2.1 14 = s.2.1 14 := hp.2.2.1 14 (by decide)
    have q15 : s1.2.1 15 = s.2.1 15 := hp.2.2.1 15 (by decide)
    have pa := ha.2.2.2 j (by omega)
    have pb := hb.2.2.2 j (by omega)
    have wa := ha.2.1
    have wb := hb.2.1
    have va := ha.2.2.1
    have vb := hb.2.2.1
    have hv := ll_v (P1 := s.2.1 14 (6 * a + j)) (X1 := X.toInt64) (W2 := s.2.1 15 b) (P2 := s.2.1 14 (6 * b + j)) (X2 := Y.toInt64) (W1 := s.2.1 15 a) (p1 := (s.2.1 14 (6 * a + j)).toInt.toNat) (x1 := x) (w2 := (s.2.1 15 b).toInt.toNat) (p2 := (s.2.1 14 (6 * b + j)).toInt.toNat) (x2 := y) (w1 := (s.2.1 15 a).toInt.toNat) (by omega) (ll_i hX) (by omega) (by omega) (ll_i hY) (by omega) (by omega) (by omega) (by omega) (by omega) hx hy
    refine nx_s (nx_s (nx_s ?_))
    refine nk_br.f (i_nle (by omega)) ?_
    refine nx_s (nx_s (nx_s (nx_s (nx_s (nx_s (nx_s (nx_s ?_)))))))
    refine ⟨nx_in (n := 96) (by omega) (by omega), ?_⟩
    refine nx_s (nx_s (nx_s (nx_s (nx_s (nx_s (nx_s ?_))))))
    refine ⟨nx_in (n := 16) (by omega) (by omega), ?_⟩
    refine nx_s (nx_s (nx_s (nx_s (nx_s (nx_s (nx_s (nx_s (nx_s ?_))))))))
    refine ⟨nx_in (n := 96) (by omega) (by omega), ?_⟩
    refine nx_s (nx_s (nx_s (nx_s (nx_s (nx_s (nx_s ?_))))))
    refine ⟨nx_in (n := 16) (by omega) (by omega), ?_⟩
    refine nx_s (nx_s (nx_s (nx_s (nx_s (nx_s (nx_s (nx_s ?_)))))))
    refine ⟨nx_in (n := 6) (by omega) (by omega), ?_⟩
    rw [cA, cB, eA, eB, eJ, q14, q15]
    refine nx_s (nx_s (nx_s ?_))
    have hv1 : (s.2.1 14 (6 * a + j) * X.toInt64 * s.2.1 15 b + s.2.1 14 (6 * b + j) * Y.toInt64 * s.2.1 15 a).toInt = ((mx_V s a b x y j : Nat) : Int) := hv.1
    have a1 : na_lm = -9223372036854775808 := rfl
    refine dv_R _ D d (show na_lm < (s.2.1 14 (6 * a + j) * X.toInt64 * s.2.1 15 b + s.2.1 14 (6 * b + j) * Y.toInt64 * s.2.1 15 a).toInt by rw [hv1]; omega) hD _ _ (fun R hR => ?_)
    rw [hv1] at hR
    refine nx_s (nx_s (nx_s ?_))
    refine ih (j + 1) (J + 1) R _ _ _ (by omega) e1 (mx_1s hp hv1) hR (Nat.gcd_pos_of_pos_left _ hd) (Nat.dvd_trans (Nat.gcd_dvd_left _ _) hdv)
/-- in the second round: the PARTS of a are told anew -/
noncomputable def mx_2 (s : nx_S) (a b x y d j : Nat) (s1 : nx_S) : Prop := s1.1 = s.1 ∧ s1.2.2 = s.2.2 ∧ s1.2.1 15 = s.2.1 15 ∧ (∀ p : Nat, p < 6 → (s1.2.1 16 p).toInt = ((mx_V s a b x y p : Nat) : Int)) ∧ (∀ k p : Nat, k ≠ a → p < 6 → s1.2.1 14 (6 * k + p) = s.2.1 14 (6 * k + p)) ∧ ∀ p : Nat, p < j → (s1.2.1 14 (6 * a + p)).toInt = ((mx_V s a b x y p / d : Nat) : Int)
theorem mx_2s {s s1 : nx_S} {a b x y d j : Nat} (h : mx_2 s a b x y d j s1) (hj : j < 6) {v : Int64} (hv : v.toInt = ((mx_V s a b x y j / d : Nat) : Int)) : mx_2 s a b x y d (j + 1) (nx_uj s1 14 (vp_updL (s1.2.1 14) (6 * a + j) v)) := by
  have e14 : (nx_uj s1 14 (vp_updL (s1.2.1 14) (6 * a + j) v)).2.1 14 = vp_updL (s1.2.1 14) (6 * a + j) v := rfl
  have e15 : (nx_uj s1 14 (vp_updL (s1.2.1 14) (6 * a + j) v)).2.1 15 = s1.2.1 15 := rfl
  have e16 : (nx_uj s1 14 (vp_updL (s1.2.1 14) (6 * a + j) v)).2.1 16 = s1.2.1 16 := rfl
  refine ⟨h.1, h.2.1, by rw [e15]; exact h.2.2.1, fun p hp => by rw [e16]; exact h.2.2.2.1 p hp, fun k p hk hp => ?_, fun p hp => ?_⟩
  · rw [e14, vp_updL_n _ _ (by omega)]
    exact h.2.2.2.2.1 k p hk hp
  · rw [e14]
    by_cases e : p = j
    · rw [e, vp_updL_s]
      exact hv
    · rw [vp_updL_n _ _ (by omega)]
      exact h.2.2.2.2.2 p (by omega)
set_option maxRecDepth 100000 in
set_option maxHeartbeats 4000000 in
theorem mx_l2 (Q : nk_Q) (s : nx_S) (A B X Y : Int32) (a b x y d : Nat) (hA : A.toInt = a) (a16 : a < 16) (W D : Int64) (hD : D.toInt = d) (hd : 1 ≤ d)
    (hq : ∀ (s1 : nx_S) (Z : Int32) (o : Option Value), mx_2 s a b x y d 6 s1 → nk_wp kx_X6_mixes kc_X6_mixes Q 153 [some (.ref 0), some (.int A), some (.int B), some (.int X), some (.int Y), some (.long W), none, some (.long D), none, some (.int Z), o, none] [] (nx_enc s1 0 shR) 0 0) :
    ∀ (n j : Nat) (J : Int32) (o : Option Value) (s1 : nx_S), j + n = 6 → J.toInt = j → mx_2 s a b x y d j s1 → nk_wp kx_X6_mixes kc_X6_mixes Q 118 [some (.ref 0), some (.int A), some (.int B), some (.int X), some (.int Y), some (.long W), none, some (.long D), none, some (.int J), o, none] [] (nx_enc s1 0 shR) 0 0 := by
  have h6 : (6 : Int32).toInt = 6 := rfl
  have h1 : (1 : Int32).toInt = 1 := rfl
  intro n
  induction n with
  | zero =>
    intro j J o s1 hj hJ hp
    refine nx_s (nx_s (nx_s ?_))
    refine nk_br.t (i_le (by omega)) ?_
    have e : j = 6 := by omega
    subst e
    exact hq s1 J o hp
  | succ n ih =>
    intro j J o s1 hj hJ hp
    have e1 : (J + 1).toInt = ((j + 1 : Nat) : Int) := by
      rw [i_add (by omega) (by omega)]
      omega
    have eJ : J.toNatClampNeg = j := nx_cl hJ
    have xA : (6 * A + J).toInt = 6 * A.toInt + J.toInt := i_6k (by omega) (by omega) (by omega) (by omega)
    have cA : (6 * A + J).toNatClampNeg = 6 * a + j := nx_cl (by omega)
    refine nx_s (nx_s (nx_s ?_))
    refine nk_br.f (i_nle (by omega)) ?_
    refine nx_s (nx_s (nx_s (nx_s (nx_s (nx_s (nx_s (nx_s (nx_s (nx_s (nx_s ?_))))))))))
    refine ⟨nx_in (n := 6) (by omega) (by omega), ?_⟩
    refine nx_s (nx_s ?_)
    refine ⟨fun e => ?_, ?_⟩
    · rw [e] at hD
      have h0 : (0 : Int64).toInt = 0 := rfl
      omega
    refine nx_s ?_
    refine ⟨nx_in (n := 96) (by omega) (by omega), ?_⟩
    refine nx_s (nx_s ?_)
    rw [cA, eJ]
    exact ih (j + 1) (J + 1) _ _ (by omega) e1 (mx_2s hp (by omega) (ll_div (hp.2.2.2.1 j (by omega)) hD))
/-- behind mixes: all but the PARTS of a stays -/
noncomputable def mx_P (s : nx_S) (a : Nat) (s1 : nx_S) : Prop := (∀ q : Nat, q ≠ 11 → s1.1 q = s.1 q) ∧ (∀ p : Nat, p ≠ 22 → s1.2.2.1 0 p = s.2.2.1 0 p) ∧ (0 ≤ (s1.2.2.1 0 22).toInt ∧ (s1.2.2.1 0 22).toInt ≤ 1) ∧ (∀ k : Nat, k ≠ a → s1.2.1 15 k = s.2.1 15 k) ∧ (∀ k p : Nat, k ≠ a → p < 6 → s1.2.1 14 (6 * k + p) = s.2.1 14 (6 * k + p)) ∧ 1 ≤ (s1.2.1 15 a).toInt ∧ (s1.2.2.1 0 22 = 0 → s.2.2.1 0 22 = 0 ∧ (s1.2.1 15 a).toInt ≤ 10000 ∧ ∀ p : Nat, p < 6 → 0 ≤ (s1.2.1 14 (6 * a + p)).toInt ∧ (s1.2.1 14 (6 * a + p)).toInt ≤ (s1.2.1 15 a).toInt)
theorem ll_cl {X Y : Int64} : (X.toInt ≤ Y.toInt → lg_cmp X Y ≤ 0) ∧ (Y.toInt < X.toInt → ¬ lg_cmp X Y ≤ 0) := by
  constructor
  · intro h
    exact (lg_cmp_le X Y).mpr (Int64.le_iff_toInt_le.mpr h)
  · intro h q
    have := Int64.le_iff_toInt_le.mp ((lg_cmp_le X Y).mp q)
    omega
set_option maxRecDepth 100000 in
set_option maxHeartbeats 4000000 in
theorem mx_R (Q : nk_Q) (s : nx_S) (A B X Y : Int32) (a b x y : Nat) (hA : A.toInt = a) (hB : B.toInt = b) (hX : X.toInt = x) (hY : Y.toInt = y) (hab : a ≠ b) (a16 : a < 16) (b16 : b < 16) (hF : s.2.2.1 0 22 = 0 ∨ s.2.2.1 0 22 = 1) (ha : s.2.2.1 0 22 = 0 → mx_t s a) (hb : s.2.2.1 0 22 = 0 → mx_t s b) (hp1 : 1 ≤ (s.2.1 15 a).toInt) (hx0 : 1 ≤ x) (hx : x ≤ 2000000) (hy : y ≤ 2000000) (hq : ∀ s1 : nx_S, mx_P s a s1 → Q none (nx_enc s1 0 shR)) : ev_X6_mixes [.ref 0, .int A, .int B, .int X, .int Y] (nx_enc s 0 shR) Q := by
  have h0 : (0 : Int32).toInt = 0 := rfl
  refine nx_s (nx_s (nx_s ?_))
  rcases hF with hF | hF
  · refine nk_br.t hF ?_
    have ha := ha hF
    have hb := hb hF
    have wa := ha.2.1
    have wb := hb.2.1
    have va := ha.2.2.1
    have vb := hb.2.2.1
    have eA : A.toNatClampNeg = a := nx_cl hA
    have eB : B.toNatClampNeg = b := nx_cl hB
    have hxy : (X + Y).toInt = ((x + y : Nat) : Int) := by
      rw [i_add (by omega) (by omega)]
      omega
    refine nx_s (nx_s (nx_s (nx_s ?_)))
    refine ⟨nx_in (n := 16) (by omega) (by omega), ?_⟩
    refine nx_s (nx_s (nx_s (nx_s ?_)))
    refine ⟨nx_in (n := 16) (by omega) (by omega), ?_⟩
    refine nx_s (nx_s (nx_s (nx_s (nx_s (nx_s (nx_s (nx_s (nx_s (nx_s (nx_s ?_))))))))))
    rw [eA, eB]
    have wle : (s.2.1 15 a).toInt.toNat * (s.2.1 15 b).toInt.toNat ≤ 10000 * 10000 := Nat.mul_le_mul (by omega) (by omega)
    have wle2 : (s.2.1 15 a).toInt.toNat * (s.2.1 15 b).toInt.toNat * (x + y) ≤ 100000000 * 4000000 := Nat.mul_le_mul (by omega) (by omega)
    have w1 := ll_mul (X := s.2.1 15 a) (Y := s.2.1 15 b) (x := (s.2.1 15 a).toInt.toNat) (y := (s.2.1 15 b).toInt.toNat) (by omega) (by omega) (by omega)
    have hW : (s.2.1 15 a * s.2.1 15 b * (X + Y).toInt64).toInt = ((mx_w s a b x y : Nat) : Int) := ll_mul w1 (ll_i hxy) (by omega)
    have wpos : 1 ≤ mx_w s a b x y := Nat.mul_pos (Nat.mul_pos (by omega) (by omega)) (by omega)
    refine mx_l1 Q s A B X Y a b x y hA hB hX hY ha hb hx hy _ (fun s1 D d Z o m1 hD hd hdv => ?_) 6 0 0 _ (mx_w s a b x y) _ s rfl rfl ⟨rfl, rfl, fun _ _ => rfl, fun p hp => absurd hp (Nat.not_lt_zero _)⟩ hW wpos (Nat.dvd_refl _)
    refine nx_s (nx_s ?_)
    have m2 : mx_2 s a b x y d 0 s1 := ⟨m1.1, m1.2.1, m1.2.2.1 15 (by decide), m1.2.2.2, fun k p _ _ => by rw [m1.2.2.1 14 (by decide)], fun p hp => absurd hp (Nat.not_lt_zero _)⟩
    refine mx_l2 Q s A B X Y a b x y d hA a16 _ D hD hd (fun s2 Z2 o2 m3 => ?_) 6 0 0 o s1 rfl rfl m2
    have hdiv : ((s.2.1 15 a * s.2.1 15 b * (X + Y).toInt64) / D).toInt = ((mx_w s a b x y / d : Nat) : Int) := ll_div hW hD
    have hle : d ≤ mx_w s a b x y := Nat.le_of_dvd wpos hdv
    have hge : 1 ≤ mx_w s a b x y / d := Nat.div_pos hle hd
    refine nx_s (nx_s (nx_s (nx_s (nx_s (nx_s ?_)))))
    refine ⟨fun e => ?_, ?_⟩
    · rw [e] at hD
      have h0 : (0 : Int64).toInt = 0 := rfl
      omega
    refine nx_s ?_
    refine ⟨nx_in (n := 16) (by omega) (by omega), ?_⟩
    rw [eA]
    have F2 : s2.2.2.1 0 22 = 0 := by rw [m3.2.1]; exact hF
    refine nx_s (nx_s (nx_s (nx_s ?_)))
    refine nk_br.t F2 ?_
    refine nx_s (nx_s (nx_s (nx_s ?_)))
    refine ⟨nx_in (n := 16) (by omega) (by omega), ?_⟩
    rw [eA]
    refine nx_s (nx_s (nx_s ?_))
    have e15 : (nx_uj s2 15 (vp_updL (s2.2.1 15) a ((s.2.1 15 a * s.2.1 15 b * (X + Y).toInt64) / D))).2.1 15 a = (s.2.1 15 a * s.2.1 15 b * (X + Y).toInt64) / D := vp_updL_s _ _ _
    have fin : ∀ f : Int32, (f = 0 ∨ f = 1) → (f = 0 → mx_w s a b x y / d ≤ 10000) → mx_P s a (nx_uf (nx_uj s2 15 (vp_updL (s2.2.1 15) a ((s.2.1 15 a * s.2.1 15 b * (X + Y).toInt64) / D))) 0 22 f) := by
      intro f hf hf0
      refine ⟨fun q _ => (by show s2.1 q = s.1 q; rw [m3.1]), fun p hp => ?_, ?_, fun k hk => ?_, fun k p hk hp => ?_, ?_, fun ef => ?_⟩
      · show (if 0 = 0 ∧ p = 22 then f else s2.2.2.1 0 p) = s.2.2.1 0 p
        rw [if_neg (fun e => hp e.2), m3.2.1]
      · show 0 ≤ f.toInt ∧ f.toInt ≤ 1
        rcases hf with e | e
        · rw [e]; decide
        · rw [e]; decide
      · show vp_updL (s2.2.1 15) a _ k = s.2.1 15 k
        rw [vp_updL_n _ _ hk, m3.2.2.1]
      · exact m3.2.2.2.2.1 k p hk hp
      · show 1 ≤ (vp_updL (s2.2.1 15) a ((s.2.1 15 a * s.2.1 15 b * (X + Y).toInt64) / D) a).toInt
        rw [vp_updL_s, hdiv]
        omega
      · have ef : f = 0 := ef
        refine ⟨hF, ?_, fun p hp => ?_⟩
        · show (vp_updL (s2.2.1 15) a ((s.2.1 15 a * s.2.1 15 b * (X + Y).toInt64) / D) a).toInt ≤ 10000
          rw [vp_updL_s, hdiv]
          have := hf0 ef
          omega
        · show 0 ≤ (s2.2.1 14 (6 * a + p)).toInt ∧ (s2.2.1 14 (6 * a + p)).toInt ≤ (vp_updL (s2.2.1 15) a ((s.2.1 15 a * s.2.1 15 b * (X + Y).toInt64) / D) a).toInt
          rw [vp_updL_s, hdiv, m3.2.2.2.2.2 p hp]
          have pa := ha.2.2.2 p hp
          have pb := hb.2.2.2 p hp
          have hv := ll_v (P1 := s.2.1 14 (6 * a + p)) (X1 := X.toInt64) (W2 := s.2.1 15 b) (P2 := s.2.1 14 (6 * b + p)) (X2 := Y.toInt64) (W1 := s.2.1 15 a) (p1 := (s.2.1 14 (6 * a + p)).toInt.toNat) (x1 := x) (w2 := (s.2.1 15 b).toInt.toNat) (p2 := (s.2.1 14 (6 * b + p)).toInt.toNat) (x2 := y) (w1 := (s.2.1 15 a).toInt.toNat) (by omega) (ll_i hX) (by omega) (by omega) (ll_i hY) (by omega) (by omega) (by omega) (by omega) (by omega) hx hy
          have hle2 : mx_V s a b x y p / d ≤ mx_w s a b x y / d := Nat.div_le_div_right hv.2.1
          exact ⟨Int.natCast_nonneg _, Int.ofNat_le.mpr hle2⟩
    have hcmp : ((nx_uj s2 15 (vp_updL (s2.2.1 15) a ((s.2.1 15 a * s.2.1 15 b * (X + Y).toInt64) / D))).2.1 15 a).toInt = ((mx_w s a b x y / d : Nat) : Int) := by rw [e15, hdiv]
    have h10 : (10000 : Int64).toInt = 10000 := rfl
    by_cases hfine : mx_w s a b x y / d ≤ 10000
    · refine nk_br.t (ll_cl.1 (by rw [hcmp, h10]; omega)) ?_
      refine nx_s (nx_s ?_)
      refine nk_bo0 ?_
      refine nx_s ?_
      exact hq _ (fin 0 (Or.inl rfl) (fun _ => hfine))
    · refine nk_br.f (ll_cl.2 (by rw [hcmp, h10]; omega)) ?_
      refine nx_s (nx_s (nx_s ?_))
      refine nk_bo1 ?_
      refine nx_s ?_
      exact hq _ (fin 1 (Or.inr rfl) (fun e => absurd e (by decide)))
  · refine nk_br.f (fun e => ?_) ?_
    · have e : s.2.2.1 0 22 = 0 := e
      rw [hF] at e
      exact absurd e (by decide)
    · refine nx_s ?_
      refine hq s ⟨fun _ _ => rfl, fun _ _ => rfl, ?_, fun _ _ => rfl, fun _ _ _ _ => rfl, hp1, fun e => ?_⟩
      · rw [hF]; decide
      · rw [hF] at e
        exact absurd e (by decide)
