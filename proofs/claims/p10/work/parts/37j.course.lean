/-! ===== the reference's course exactly ===== -/
/-- within which thing each is, kinds, WORTHS, AMOUNTS, PARTS, their lower numbers, whether too fine -/
abbrev cz : Type := (Nat → Int32) × (Nat → Int32) × (Nat → Int32) × (Nat → Int32) × (Nat → Nat → Int64) × (Nat → Int64) × Int32
noncomputable def cz_ag (s : nx_S) (z : cz) : Prop := s.2.2.1 0 22 = z.2.2.2.2.2.2 ∧ ∀ k : Nat, (k : Int) < (s.2.2.1 0 10).toInt → s.1 10 k = z.1 k ∧ s.1 11 k = z.2.1 k ∧ s.1 12 k = z.2.2.1 k ∧ s.1 13 k = z.2.2.2.1 k ∧ s.2.1 15 k = z.2.2.2.2.2.1 k ∧ ∀ p : Nat, p < 6 → s.2.1 14 (6 * k + p) = z.2.2.2.2.1 k p
noncomputable def cz_V (z : cz) (a b x y p : Nat) : Nat := (z.2.2.2.2.1 a p).toInt.toNat * x * (z.2.2.2.2.2.1 b).toInt.toNat + (z.2.2.2.2.1 b p).toInt.toNat * y * (z.2.2.2.2.2.1 a).toInt.toNat
noncomputable def cz_w (z : cz) (a b x y : Nat) : Nat := (z.2.2.2.2.2.1 a).toInt.toNat * (z.2.2.2.2.2.1 b).toInt.toNat * (x + y)
noncomputable def mx_d (w : Nat) (V : Nat → Nat) : Nat → Nat
  | 0 => w
  | j + 1 => Nat.gcd (mx_d w V j) (V j)
theorem mx_dp {w : Nat} {V : Nat → Nat} (hw : 1 ≤ w) : ∀ j : Nat, 1 ≤ mx_d w V j
  | 0 => hw
  | j + 1 => Nat.gcd_pos_of_pos_left _ (mx_dp hw j)
theorem mx_dd {w : Nat} {V : Nat → Nat} : ∀ j : Nat, mx_d w V j ∣ w
  | 0 => Nat.dvd_refl _
  | j + 1 => Nat.dvd_trans (Nat.gcd_dvd_left _ _) (mx_dd j)
theorem mx_dc {w : Nat} {V V' : Nat → Nat} : ∀ j : Nat, (∀ p : Nat, p < j → V p = V' p) → mx_d w V j = mx_d w V' j
  | 0, _ => rfl
  | j + 1, h => by
    show Nat.gcd (mx_d w V j) (V j) = Nat.gcd (mx_d w V' j) (V' j)
    rw [mx_dc j (fun p hp => h p (by omega)), h j (by omega)]
/-- two things' PARTS are mixed -/
noncomputable def cz_mix (a b x y : Nat) (z : cz) : cz := if z.2.2.2.2.2.2 = 0 then (z.1, z.2.1, z.2.2.1, z.2.2.2.1, fun k p => if k = a then Int64.ofInt ((cz_V z a b x y p / mx_d (cz_w z a b x y) (cz_V z a b x y) 6 : Nat) : Int) else z.2.2.2.2.1 k p, fun k => if k = a then Int64.ofInt ((cz_w z a b x y / mx_d (cz_w z a b x y) (cz_V z a b x y) 6 : Nat) : Int) else z.2.2.2.2.2.1 k, if cz_w z a b x y / mx_d (cz_w z a b x y) (cz_V z a b x y) 6 ≤ 10000 then 0 else 1) else z
theorem cz_of {c : Int64} {n : Nat} (h : c.toInt = (n : Int)) : c = Int64.ofInt (n : Int) := by
  rw [← h]
  exact (Int64.ofInt_toInt c).symm
set_option maxRecDepth 100000 in
set_option maxHeartbeats 4000000 in
theorem mx_l1x (Q : nk_Q) (s : nx_S) (A B X Y : Int32) (a b x y : Nat) (hA : A.toInt = a) (hB : B.toInt = b) (hX : X.toInt = x) (hY : Y.toInt = y) (ha : mx_t s a) (hb : mx_t s b) (hx : x ≤ 2000000) (hy : y ≤ 2000000) (W : Int64)
    (hq : ∀ (s1 : nx_S) (D : Int64) (Z : Int32) (o : Option Value), mx_1 s a b x y 6 s1 → D.toInt = (mx_d (mx_w s a b x y) (mx_V s a b x y) 6 : Nat) → nk_wp kx_X6_mixes kc_X6_mixes Q 115 [some (.ref 0), some (.int A), some (.int B), some (.int X), some (.int Y), some (.long W), none, some (.long D), none, some (.int Z), o, none] [] (nx_enc s1 0 shR) 0 0) :
    ∀ (n j : Nat) (J : Int32) (D : Int64) (o : Option Value) (s1 : nx_S), j + n = 6 → J.toInt = j → mx_1 s a b x y j s1 → D.toInt = (mx_d (mx_w s a b x y) (mx_V s a b x y) j : Nat) → nk_wp kx_X6_mixes kc_X6_mixes Q 36 [some (.ref 0), some (.int A), some (.int B), some (.int X), some (.int Y), some (.long W), none, some (.long D), none, some (.int J), o, none] [] (nx_enc s1 0 shR) 0 0 := by
  have h6 : (6 : Int32).toInt = 6 := rfl
  have h1 : (1 : Int32).toInt = 1 := rfl
  have a16 := ha.1
  have b16 := hb.1
  have eA : A.toNatClampNeg = a := nx_cl hA
  have eB : B.toNatClampNeg = b := nx_cl hB
  intro n
  induction n with
  | zero =>
    intro j J D o s1 hj hJ hp hD
    refine nx_s (nx_s (nx_s ?_))
    refine nk_br.t (i_le (by omega)) ?_
    have e : j = 6 := by omega
    subst e
    exact hq s1 D J o hp hD
  | succ n ih =>
    intro j J D o s1 hj hJ hp hD
    have e1 : (J + 1).toInt = ((j + 1 : Nat) : Int) := by
      rw [i_add (by omega) (by omega)]
      omega
    have eJ : J.toNatClampNeg = j := nx_cl hJ
    have xA : (6 * A + J).toInt = 6 * A.toInt + J.toInt := i_6k (by omega) (by omega) (by omega) (by omega)
    have xB : (6 * B + J).toInt = 6 * B.toInt + J.toInt := i_6k (by omega) (by omega) (by omega) (by omega)
    have cA : (6 * A + J).toNatClampNeg = 6 * a + j := nx_cl (by omega)
    have cB : (6 * B + J).toNatClampNeg = 6 * b + j := nx_cl (by omega)
    have q14 : s1.2.1 14 = s.2.1 14 := hp.2.2.1 14 (by decide)
    have q15 : s1.2.1 15 = s.2.1 15 := hp.2.2.1 15 (by decide)
    have pa := ha.2.2.2 j (by omega)
    have pb := hb.2.2.2 j (by omega)
    have wa := ha.2.1
    have wb := hb.2.1
    have va := ha.2.2.1
    have vb := hb.2.2.1
    have hv := ll_v (P1 := s.2.1 14 (6 * a + j)) (X1 := X.toInt64) (W2 := s.2.1 15 b) (P2 := s.2.1 14 (6 * b + j)) (X2 := Y.toInt64) (W1 := s.2.1 15 a) (p1 := (s.2.1 14 (6 * a + j)).toInt.toNat) (x1 := x) (w2 := (s.2.1 15 b).toInt.toNat) (p2 := (s.2.1 14 (6 * b + j)).toInt.toNat) (x2 := y) (w1 := (s.2.1 15 a).toInt.toNat) (by omega) (ll_i hX) (by omega) (by omega) (ll_i hY) (by omega) (by omega) (by omega) (by omega) (by omega) hx hy
    refine nx_s (nx_s (nx_s ?_))
    refine nk_br.f (i_nle (by omega)) ?_
    refine nx_s (nx_s (nx_s (nx_s (nx_s (nx_s (nx_s (nx_s ?_)))))))
    refine ⟨nx_in (n := 96) (by omega) (by omega), ?_⟩
    refine nx_s (nx_s (nx_s (nx_s (nx_s (nx_s (nx_s ?_))))))
    refine ⟨nx_in (n := 16) (by omega) (by omega), ?_⟩
    refine nx_s (nx_s (nx_s (nx_s (nx_s (nx_s (nx_s (nx_s (nx_s ?_))))))))
    refine ⟨nx_in (n := 96) (by omega) (by omega), ?_⟩
    refine nx_s (nx_s (nx_s (nx_s (nx_s (nx_s (nx_s ?_))))))
    refine ⟨nx_in (n := 16) (by omega) (by omega), ?_⟩
    refine nx_s (nx_s (nx_s (nx_s (nx_s (nx_s (nx_s (nx_s ?_)))))))
    refine ⟨nx_in (n := 6) (by omega) (by omega), ?_⟩
    rw [cA, cB, eA, eB, eJ, q14, q15]
    refine nx_s (nx_s (nx_s ?_))
    have hv1 : (s.2.1 14 (6 * a + j) * X.toInt64 * s.2.1 15 b + s.2.1 14 (6 * b + j) * Y.toInt64 * s.2.1 15 a).toInt = ((mx_V s a b x y j : Nat) : Int) := hv.1
    have a1 : na_lm = -9223372036854775808 := rfl
    refine dv_R _ D (mx_d (mx_w s a b x y) (mx_V s a b x y) j) (show na_lm < (s.2.1 14 (6 * a + j) * X.toInt64 * s.2.1 15 b + s.2.1 14 (6 * b + j) * Y.toInt64 * s.2.1 15 a).toInt by rw [hv1]; omega) hD _ _ (fun R hR => ?_)
    rw [hv1] at hR
    refine nx_s (nx_s (nx_s ?_))
    exact ih (j + 1) (J + 1) R _ _ (by omega) e1 (mx_1s hp hv1) hR
/-- behind mixes exactly -/
noncomputable def mx_E (s : nx_S) (a b x y : Nat) (s1 : nx_S) : Prop := s1.1 = s.1 ∧ (s.2.2.1 0 22 = 0 → (∀ p : Nat, p < 6 → (s1.2.1 14 (6 * a + p)).toInt = ((mx_V s a b x y p / mx_d (mx_w s a b x y) (mx_V s a b x y) 6 : Nat) : Int)) ∧ (s1.2.1 15 a).toInt = ((mx_w s a b x y / mx_d (mx_w s a b x y) (mx_V s a b x y) 6 : Nat) : Int) ∧ s1.2.2.1 0 22 = if mx_w s a b x y / mx_d (mx_w s a b x y) (mx_V s a b x y) 6 ≤ 10000 then 0 else 1) ∧ (s.2.2.1 0 22 ≠ 0 → s1.2 = s.2)
set_option maxRecDepth 100000 in
set_option maxHeartbeats 4000000 in
theorem mx_Rx (Q : nk_Q) (s : nx_S) (A B X Y : Int32) (a b x y : Nat) (hA : A.toInt = a) (hB : B.toInt = b) (hX : X.toInt = x) (hY : Y.toInt = y) (hab : a ≠ b) (a16 : a < 16) (b16 : b < 16) (hF : s.2.2.1 0 22 = 0 ∨ s.2.2.1 0 22 = 1) (ha : s.2.2.1 0 22 = 0 → mx_t s a) (hb : s.2.2.1 0 22 = 0 → mx_t s b) (hp1 : 1 ≤ (s.2.1 15 a).toInt) (hx0 : 1 ≤ x) (hx : x ≤ 2000000) (hy : y ≤ 2000000) (hq : ∀ s1 : nx_S, mx_P s a s1 → mx_E s a b x y s1 → Q none (nx_enc s1 0 shR)) : ev_X6_mixes [.ref 0, .int A, .int B, .int X, .int Y] (nx_enc s 0 shR) Q := by
  have h0 : (0 : Int32).toInt = 0 := rfl
  refine nx_s (nx_s (nx_s ?_))
  rcases hF with hF | hF
  · refine nk_br.t hF ?_
    have ha := ha hF
    have hb := hb hF
    have wa := ha.2.1
    have wb := hb.2.1
    have va := ha.2.2.1
    have vb := hb.2.2.1
    have eA : A.toNatClampNeg = a := nx_cl hA
    have eB : B.toNatClampNeg = b := nx_cl hB
    have hxy : (X + Y).toInt = ((x + y : Nat) : Int) := by
      rw [i_add (by omega) (by omega)]
      omega
    refine nx_s (nx_s (nx_s (nx_s ?_)))
    refine ⟨nx_in (n := 16) (by omega) (by omega), ?_⟩
    refine nx_s (nx_s (nx_s (nx_s ?_)))
    refine ⟨nx_in (n := 16) (by omega) (by omega), ?_⟩
    refine nx_s (nx_s (nx_s (nx_s (nx_s (nx_s (nx_s (nx_s (nx_s (nx_s (nx_s ?_))))))))))
    rw [eA, eB]
    have wle : (s.2.1 15 a).toInt.toNat * (s.2.1 15 b).toInt.toNat ≤ 10000 * 10000 := Nat.mul_le_mul (by omega) (by omega)
    have wle2 : (s.2.1 15 a).toInt.toNat * (s.2.1 15 b).toInt.toNat * (x + y) ≤ 100000000 * 4000000 := Nat.mul_le_mul (by omega) (by omega)
    have w1 := ll_mul (X := s.2.1 15 a) (Y := s.2.1 15 b) (x := (s.2.1 15 a).toInt.toNat) (y := (s.2.1 15 b).toInt.toNat) (by omega) (by omega) (by omega)
    have hW : (s.2.1 15 a * s.2.1 15 b * (X + Y).toInt64).toInt = ((mx_w s a b x y : Nat) : Int) := ll_mul w1 (ll_i hxy) (by omega)
    have wpos : 1 ≤ mx_w s a b x y := Nat.mul_pos (Nat.mul_pos (by omega) (by omega)) (by omega)
    refine mx_l1x Q s A B X Y a b x y hA hB hX hY ha hb hx hy _ (fun s1 D Z o m1 hD => ?_) 6 0 0 _ _ s rfl rfl ⟨rfl, rfl, fun _ _ => rfl, fun p hp => absurd hp (Nat.not_lt_zero _)⟩ hW
    refine nx_s (nx_s ?_)
    have hd := mx_dp (V := mx_V s a b x y) wpos 6
    have hdv := mx_dd (w := mx_w s a b x y) (V := mx_V s a b x y) 6
    generalize hdd : mx_d (mx_w s a b x y) (mx_V s a b x y) 6 = d at *
    have m2 : mx_2 s a b x y d 0 s1 := ⟨m1.1, m1.2.1, m1.2.2.1 15 (by decide), m1.2.2.2, fun k p _ _ => by rw [m1.2.2.1 14 (by decide)], fun p hp => absurd hp (Nat.not_lt_zero _)⟩
    refine mx_l2 Q s A B X Y a b x y d hA a16 _ D hD hd (fun s2 Z2 o2 m3 => ?_) 6 0 0 o s1 rfl rfl m2
    have hdiv : ((s.2.1 15 a * s.2.1 15 b * (X + Y).toInt64) / D).toInt = ((mx_w s a b x y / d : Nat) : Int) := ll_div hW hD
    have hle : d ≤ mx_w s a b x y := Nat.le_of_dvd wpos hdv
    have hge : 1 ≤ mx_w s a b x y / d := Nat.div_pos hle hd
    refine nx_s (nx_s (nx_s (nx_s (nx_s (nx_s ?_)))))
    refine ⟨fun e => ?_, ?_⟩
    · rw [e] at hD
      have h0 : (0 : Int64).toInt = 0 := rfl
      omega
    refine nx_s ?_
    refine ⟨nx_in (n := 16) (by omega) (by omega), ?_⟩
    rw [eA]
    have F2 : s2.2.2.1 0 22 = 0 := by rw [m3.2.1]; exact hF
    refine nx_s (nx_s (nx_s (nx_s ?_)))
    refine nk_br.t F2 ?_
    refine nx_s (nx_s (nx_s (nx_s ?_)))
    refine ⟨nx_in (n := 16) (by omega) (by omega), ?_⟩
    rw [eA]
    refine nx_s (nx_s (nx_s ?_))
    have e15 : (nx_uj s2 15 (vp_updL (s2.2.1 15) a ((s.2.1 15 a * s.2.1 15 b * (X + Y).toInt64) / D))).2.1 15 a = (s.2.1 15 a * s.2.1 15 b * (X + Y).toInt64) / D := vp_updL_s _ _ _
    have fin : ∀ f : Int32, (f = 0 ∨ f = 1) → (f = 0 → mx_w s a b x y / d ≤ 10000) → mx_P s a (nx_uf (nx_uj s2 15 (vp_updL (s2.2.1 15) a ((s.2.1 15 a * s.2.1 15 b * (X + Y).toInt64) / D))) 0 22 f) := by
      intro f hf hf0
      refine ⟨fun q _ => (by show s2.1 q = s.1 q; rw [m3.1]), fun p hp => ?_, ?_, fun k hk => ?_, fun k p hk hp => ?_, ?_, fun ef => ?_⟩
      · show (if 0 = 0 ∧ p = 22 then f else s2.2.2.1 0 p) = s.2.2.1 0 p
        rw [if_neg (fun e => hp e.2), m3.2.1]
      · show 0 ≤ f.toInt ∧ f.toInt ≤ 1
        rcases hf with e | e
        · rw [e]; decide
        · rw [e]; decide
      · show vp_updL (s2.2.1 15) a _ k = s.2.1 15 k
        rw [vp_updL_n _ _ hk, m3.2.2.1]
      · exact m3.2.2.2.2.1 k p hk hp
      · show 1 ≤ (vp_updL (s2.2.1 15) a ((s.2.1 15 a * s.2.1 15 b * (X + Y).toInt64) / D) a).toInt
        rw [vp_updL_s, hdiv]
        omega
      · have ef : f = 0 := ef
        refine ⟨hF, ?_, fun p hp => ?_⟩
        · show (vp_updL (s2.2.1 15) a ((s.2.1 15 a * s.2.1 15 b * (X + Y).toInt64) / D) a).toInt ≤ 10000
          rw [vp_updL_s, hdiv]
          have := hf0 ef
          omega
        · show 0 ≤ (s2.2.1 14 (6 * a + p)).toInt ∧ (s2.2.1 14 (6 * a + p)).toInt ≤ (vp_updL (s2.2.1 15) a ((s.2.1 15 a * s.2.1 15 b * (X + Y).toInt64) / D) a).toInt
          rw [vp_updL_s, hdiv, m3.2.2.2.2.2 p hp]
          have pa := ha.2.2.2 p hp
          have pb := hb.2.2.2 p hp
          have hv := ll_v (P1 := s.2.1 14 (6 * a + p)) (X1 := X.toInt64) (W2 := s.2.1 15 b) (P2 := s.2.1 14 (6 * b + p)) (X2 := Y.toInt64) (W1 := s.2.1 15 a) (p1 := (s.2.1 14 (6 * a + p)).toInt.toNat) (x1 := x) (w2 := (s.2.1 15 b).toInt.toNat) (p2 := (s.2.1 14 (6 * b + p)).toInt.toNat) (x2 := y) (w1 := (s.2.1 15 a).toInt.toNat) (by omega) (ll_i hX) (by omega) (by omega) (ll_i hY) (by omega) (by omega) (by omega) (by omega) (by omega) hx hy
          have hle2 : mx_V s a b x y p / d ≤ mx_w s a b x y / d := Nat.div_le_div_right hv.2.1
          exact ⟨Int.natCast_nonneg _, Int.ofNat_le.mpr hle2⟩
    have ex : ∀ f : Int32, f = (if mx_w s a b x y / d ≤ 10000 then 0 else 1) → mx_E s a b x y (nx_uf (nx_uj s2 15 (vp_updL (s2.2.1 15) a ((s.2.1 15 a * s.2.1 15 b * (X + Y).toInt64) / D))) 0 22 f) := by
      intro f hf
      unfold mx_E
      rw [hdd]
      refine ⟨(show s2.1 = s.1 from m3.1), fun _ => ⟨fun p hp => ?_, ?_, ?_⟩, fun e => absurd hF e⟩
      · exact m3.2.2.2.2.2 p hp
      · show (vp_updL (s2.2.1 15) a ((s.2.1 15 a * s.2.1 15 b * (X + Y).toInt64) / D) a).toInt = _
        rw [vp_updL_s, hdiv]
      · exact hf
    have hcmp : ((nx_uj s2 15 (vp_updL (s2.2.1 15) a ((s.2.1 15 a * s.2.1 15 b * (X + Y).toInt64) / D))).2.1 15 a).toInt = ((mx_w s a b x y / d : Nat) : Int) := by rw [e15, hdiv]
    have h10 : (10000 : Int64).toInt = 10000 := rfl
    by_cases hfine : mx_w s a b x y / d ≤ 10000
    · refine nk_br.t (ll_cl.1 (by rw [hcmp, h10]; omega)) ?_
      refine nx_s (nx_s ?_)
      refine nk_bo0 ?_
      refine nx_s ?_
      exact hq _ (fin 0 (Or.inl rfl) (fun _ => hfine)) (ex 0 (by rw [if_pos hfine]))
    · refine nk_br.f (ll_cl.2 (by rw [hcmp, h10]; omega)) ?_
      refine nx_s (nx_s (nx_s ?_))
      refine nk_bo1 ?_
      refine nx_s ?_
      exact hq _ (fin 1 (Or.inr rfl) (fun e => absurd e (by decide))) (ex 1 (by rw [if_neg hfine]))
  · refine nk_br.f (fun e => ?_) ?_
    · have e : s.2.2.1 0 22 = 0 := e
      rw [hF] at e
      exact absurd e (by decide)
    · refine nx_s ?_
      refine hq s ⟨fun _ _ => rfl, fun _ _ => rfl, ?_, fun _ _ => rfl, fun _ _ _ _ => rfl, hp1, fun e => ?_⟩ ⟨rfl, fun e => ?_, fun _ => rfl⟩
      · rw [hF]; decide
      · rw [hF] at e
        exact absurd e (by decide)
      · rw [hF] at e
        exact absurd e (by decide)
/-- the same in the course's words -/
theorem cz_mxag {s s1 : nx_S} {z : cz} {a b x y : Nat} (ha : (a : Int) < (s.2.2.1 0 10).toInt) (hb : (b : Int) < (s.2.2.1 0 10).toInt) (hz : cz_ag s z) (m : mx_P s a s1) (e : mx_E s a b x y s1) : cz_ag s1 (cz_mix a b x y z) := by
  have f10 : s1.2.2.1 0 10 = s.2.2.1 0 10 := m.2.1 10 (by decide)
  obtain ⟨hzf, hzk⟩ := hz
  have za := hzk a ha
  have zb := hzk b hb
  have ew : mx_w s a b x y = cz_w z a b x y := by
    unfold mx_w cz_w
    rw [za.2.2.2.2.1, zb.2.2.2.2.1]
  have eV : ∀ p : Nat, p < 6 → mx_V s a b x y p = cz_V z a b x y p := fun p hp => by
    unfold mx_V cz_V
    rw [za.2.2.2.2.1, zb.2.2.2.2.1, za.2.2.2.2.2 p hp, zb.2.2.2.2.2 p hp]
  have ed : mx_d (mx_w s a b x y) (mx_V s a b x y) 6 = mx_d (cz_w z a b x y) (cz_V z a b x y) 6 := by
    rw [ew]
    exact mx_dc 6 eV
  unfold mx_E at e
  rw [ed, ew] at e
  obtain ⟨e1, e2, e3⟩ := e
  by_cases hf : z.2.2.2.2.2.2 = 0
  · have hs : s.2.2.1 0 22 = 0 := hzf.trans hf
    obtain ⟨g1, g2, g3⟩ := e2 hs
    unfold cz_mix
    rw [if_pos hf]
    refine ⟨g3, fun k hk => ?_⟩
    rw [f10] at hk
    have zk := hzk k hk
    refine ⟨?_, ?_, ?_, ?_, ?_, fun p hp => ?_⟩
    · rw [e1]; exact zk.1
    · rw [e1]; exact zk.2.1
    · rw [e1]; exact zk.2.2.1
    · rw [e1]; exact zk.2.2.2.1
    · by_cases ek : k = a
      · rw [ek]
        show s1.2.1 15 a = if a = a then _ else _
        rw [if_pos rfl]
        exact cz_of g2
      · show s1.2.1 15 k = if k = a then _ else z.2.2.2.2.2.1 k
        rw [if_neg ek, m.2.2.2.1 k ek]
        exact zk.2.2.2.2.1
    · by_cases ek : k = a
      · rw [ek]
        show s1.2.1 14 (6 * a + p) = if a = a then _ else _
        rw [if_pos rfl]
        refine cz_of ?_
        rw [g1 p hp, eV p hp]
      · show s1.2.1 14 (6 * k + p) = if k = a then _ else z.2.2.2.2.1 k p
        rw [if_neg ek, m.2.2.2.2.1 k p ek hp]
        exact zk.2.2.2.2.2 p hp
  · have hs : s.2.2.1 0 22 ≠ 0 := fun q => hf (hzf.symm.trans q)
    have e3 := e3 hs
    unfold cz_mix
    rw [if_neg hf]
    unfold cz_ag
    rw [e3, e1]
    exact ⟨hzf, hzk⟩
