/-! ===== the reference's makes, does, goes ===== -/
theorem mx_11 {s s1 : nx_S} {a : Nat} (h : mx_P s a s1) (f : Nat → Int32) : mx_P s a (nx_ui s1 11 f) := by
  refine ⟨fun q hq => ?_, h.2⟩
  show (if q = 11 then f else s1.1 q) = s.1 q
  rw [if_neg hq]
  exact h.1 q hq
theorem al_mx {s s1 : nx_S} {l a : Nat} (hP : PXR l s) (ha : (a : Int) < (s.2.2.1 0 10).toInt) (hInv : nx_Inv gR s) (h : al_P s a 6 s1) : mx_P s a s1 := by
  have hf := hInv.1 5 (0, 22) (0, 1) rfl rfl
  refine ⟨fun q _ => by rw [h.1], fun p _ => by rw [h.2.1], by rw [h.2.1]; exact hf, h.2.2.1, h.2.2.2.2.1, by rw [h.2.2.2.1]; decide, fun e => ⟨by rw [← h.2.1]; exact e, by rw [h.2.2.2.1]; decide, fun p hp => ?_⟩⟩
  have := h.2.2.2.2.2 p hp
  rw [h.2.2.2.1]
  exact this
set_option maxRecDepth 100000 in
set_option maxHeartbeats 4000000 in
theorem tk_R (Q : nk_Q) (s : nx_S) (K S W kn : Int32) (h0 : 0 ≤ S.toInt) (h1 : S.toInt ≤ 15) (hq : ∀ r : Int32, (r = 0 ∨ r = 1) → Q (some (.int r)) (nx_enc s 0 shR)) : ev_X6_takes [.ref 0, .int K, .int S, .int W, .int kn] (nx_enc s 0 shR) Q := by
  repeat' first
    | exact hq 0 (Or.inl rfl)
    | exact hq 1 (Or.inr rfl)
    | refine nx_s ?_
    | refine nk_bo0 ?_
    | refine nk_bo1 ?_
    | refine nk_br.t (by decide) ?_
    | refine nk_br.f (by decide) ?_
    | refine And.intro (by decide) ?_
    | refine And.intro (nx_in (n := 16) (by omega) (by omega)) ?_
    | refine nk_br.mk (fun _ => ?_) (fun _ => ?_)
    | fail
set_option maxRecDepth 100000 in
set_option maxHeartbeats 4000000 in
theorem kn_R (Q : nk_Q) (s : nx_S) (K : Int32) (hq : ∀ r : Int32, (r = 0 ∨ r = 1) → Q (some (.int r)) (nx_enc s 0 shR)) : ev_X6_knows [.ref 0, .int K] (nx_enc s 0 shR) Q := by
  repeat' first
    | exact hq 0 (Or.inl rfl)
    | exact hq 1 (Or.inr rfl)
    | refine nx_s ?_
    | refine nk_bo0 ?_
    | refine nk_bo1 ?_
    | refine nk_br.t (by decide) ?_
    | refine nk_br.f (by decide) ?_
    | refine nk_br.mk (fun _ => ?_) (fun _ => ?_)
    | fail
set_option maxRecDepth 100000 in
set_option maxHeartbeats 4000000 in
theorem mk_tail (Q : nk_Q) (s s1 : nx_S) (l a : Nat) (K OF V MK W KN A : Int32) (hInv : nx_Inv gR s) (hl : l ≤ 12) (hP : PXR l s) (hA : A.toInt = a) (ha : (a : Int) < (s.2.2.1 0 10).toInt) (hV : K = 6 → 0 ≤ V.toInt ∧ V.toInt ≤ 99) (hW0 : 0 ≤ W.toInt) (hW1 : W.toInt ≤ 99) (m : mx_P s a s1) (hq : ∀ s3 : nx_S, nR_f2 s s3 → PXR (l + 1) s3 → Q none (nx_enc s3 0 shR)) : nk_wp kx_X6_makes kc_X6_makes Q 97 [some (.ref 0), some (.int K), some (.int OF), some (.int V), some (.int MK), some (.int W), some (.int KN), some (.int A)] [] (nx_enc s1 0 shR) 0 0 := by
  have hN : (s.2.2.1 0 10).toInt ≤ 16 := (hInv.1 2 (0, 10) (0, 16) rfl rfl).2
  have h0 : (0 : Int32).toInt = 0 := rfl
  have eA : A.toNatClampNeg = a := nx_cl hA
  have pa := hP a ha
  have hb13 := nR_B13 hl
  have hb2 := nR_B2 l
  have i10 : s1.1 10 = s.1 10 := m.1 10 (by decide)
  have i12 : s1.1 12 = s.1 12 := m.1 12 (by decide)
  have i13 : s1.1 13 = s.1 13 := m.1 13 (by decide)
  have last : ∀ C : Int32, 1 ≤ C.toInt → C.toInt ≤ nR_B (l + 1) → nk_wp kx_X6_makes kc_X6_makes Q 118 [some (.ref 0), some (.int K), some (.int OF), some (.int V), some (.int MK), some (.int W), some (.int KN), some (.int A)] [] (nx_enc (nx_ui s1 13 (upd (s1.1 13) a C)) 0 shR) 0 0 := by
    intro C hC1 hC2
    have fin : ∀ W' : Int32, 1 ≤ W'.toInt → W'.toInt ≤ nR_B (l + 1) → Q none (nx_enc (nx_ui (nx_ui s1 13 (upd (s1.1 13) a C)) 12 (upd (s1.1 12) a W')) 0 shR) := by
      intro W' h1 h2
      have := cm_px hP hA ha hN hInv m (W := W') (C := C) ⟨h1, h2⟩ ⟨hC1, hC2⟩ (s3 := nx_ui (nx_ui s1 13 (upd (s1.1 13) a C)) 12 (upd (s1.1 12) a W')) (fun k => Or.inl (by show s1.1 10 k = s.1 10 k; rw [i10])) (by show upd (s1.1 12) a W' = _; rw [i12]) (by show upd (s1.1 13) a C = _; rw [i13]) rfl (fun q h10 h11 h12 h13 => by
        show (if q = 12 then _ else if q = 13 then _ else s1.1 q) = s1.1 q
        rw [if_neg h12, if_neg h13])
      exact hq _ this.1 this.2
    refine nx_s (nx_s (nx_s (nx_s (nx_s ?_))))
    refine ⟨nx_in (n := 16) (by omega) (by omega), ?_⟩
    refine nx_s (nx_s ?_)
    refine nk_br.mk (fun _ => ?_) (fun _ => ?_)
    · refine nx_s (nx_s (nx_s (nx_s ?_)))
      refine ⟨nx_in (n := 16) (by omega) (by omega), ?_⟩
      refine nx_s ?_
      rw [eA]
      have e : (s1.1 12 a + 0).toInt = (s1.1 12 a).toInt + 0 := by
        rw [i12]
        exact i_add (by omega) (by omega)
      rw [i12] at e
      exact fin (s1.1 12 a + 0) (by rw [i12]; omega) (by rw [i12]; omega)
    · refine nx_s (nx_s (nx_s ?_))
      refine ⟨nx_in (n := 16) (by omega) (by omega), ?_⟩
      refine nx_s ?_
      rw [eA]
      have e : (s1.1 12 a + W).toInt = (s1.1 12 a).toInt + W.toInt := by
        rw [i12]
        exact i_add (by omega) (by omega)
      rw [i12] at e
      exact fin (s1.1 12 a + W) (by rw [i12]; omega) (by rw [i12]; omega)
  refine nx_s (nx_s (nx_s (nx_s (nx_s ?_))))
  refine ⟨nx_in (n := 16) (by omega) (by omega), ?_⟩
  refine nx_s (nx_s (nx_s ?_))
  refine nk_br.mk (fun hk => ?_) (fun _ => ?_)
  · have hV := hV hk
    refine nx_s (nx_s (nx_s (nx_s ?_)))
    refine ⟨nx_in (n := 16) (by omega) (by omega), ?_⟩
    rw [eA]
    have e : (s1.1 13 a + V).toInt = (s1.1 13 a).toInt + V.toInt := by
      rw [i13]
      exact i_add (by omega) (by omega)
    rw [i13] at e
    exact last (s1.1 13 a + V) (by rw [i13]; omega) (by rw [i13]; omega)
  · refine nx_s (nx_s (nx_s ?_))
    refine ⟨nx_in (n := 16) (by omega) (by omega), ?_⟩
    rw [eA]
    have e : (s1.1 13 a + 0).toInt = (s1.1 13 a).toInt + 0 := by
      rw [i13]
      exact i_add (by omega) (by omega)
    rw [i13] at e
    exact last (s1.1 13 a + 0) (by rw [i13]; omega) (by rw [i13]; omega)
theorem i_7 {K : Int32} (h0 : 0 ≤ K.toInt) (h1 : K.toInt ≤ 6) : K = 0 ∨ K = 1 ∨ K = 2 ∨ K = 3 ∨ K = 4 ∨ K = 5 ∨ K = 6 := by
  have key : ∀ n : Int32, K.toInt = n.toInt → K = n := fun n h => Int32.toInt_inj.mp h
  have : K.toInt = 0 ∨ K.toInt = 1 ∨ K.toInt = 2 ∨ K.toInt = 3 ∨ K.toInt = 4 ∨ K.toInt = 5 ∨ K.toInt = 6 := by omega
  rcases this with h | h | h | h | h | h | h
  · exact Or.inl (key 0 h)
  · exact Or.inr (Or.inl (key 1 h))
  · exact Or.inr (Or.inr (Or.inl (key 2 h)))
  · exact Or.inr (Or.inr (Or.inr (Or.inl (key 3 h))))
  · exact Or.inr (Or.inr (Or.inr (Or.inr (Or.inl (key 4 h)))))
  · exact Or.inr (Or.inr (Or.inr (Or.inr (Or.inr (Or.inl (key 5 h))))))
  · exact Or.inr (Or.inr (Or.inr (Or.inr (Or.inr (Or.inr (key 6 h))))))
set_option maxRecDepth 100000 in
set_option maxHeartbeats 8000000 in
theorem mk_R2 (Q : nk_Q) (s : nx_S) (l : Nat) (K OF V MK W KN : Int32) (hK0 : 0 ≤ K.toInt) (hK1 : K.toInt ≤ 6) (hInv : nx_Inv gR s) (hl : l ≤ 12) (hP : PXR l s) (hO0 : 0 ≤ OF.toInt) (hO : OF.toInt < (s.2.2.1 0 10).toInt) (hV0 : 0 ≤ V.toInt) (hV : K = 2 ∨ K = 3 ∨ K = 5 → V.toInt < (s.2.2.1 0 10).toInt) (hV6 : K = 6 → 0 ≤ V.toInt ∧ V.toInt ≤ 99) (hW0 : 0 ≤ W.toInt) (hW1 : W.toInt ≤ 99) (hq : ∀ s3 : nx_S, nR_f2 s s3 → PXR (l + 1) s3 → Q none (nx_enc s3 0 shR)) : ev_X6_makes [.ref 0, .int K, .int OF, .int V, .int MK, .int W, .int KN] (nx_enc s 0 shR) Q := by
  have hN : (s.2.2.1 0 10).toInt ≤ 16 := (hInv.1 2 (0, 10) (0, 16) rfl rfl).2
  have eO : (OF.toNatClampNeg : Int) = OF.toInt := by
    have : OF.toInt.toNat = OF.toNatClampNeg := Int32.toNat_toInt OF
    omega
  have pA := (hP OF.toNatClampNeg (by omega)).1
  refine nx_s (nx_s (nx_s (nx_s ?_)))
  refine ⟨nx_in (n := 16) (by omega) (by omega), ?_⟩
  show nk_wp kx_X6_makes kc_X6_makes Q 6 [some (.ref 0), some (.int K), some (.int OF), some (.int V), some (.int MK), some (.int W), some (.int KN), none] [.int (s.1 10 OF.toNatClampNeg)] (nx_enc s 0 shR) 0 0
  generalize s.1 10 OF.toNatClampNeg = A at pA ⊢
  have hAa : A.toInt = (A.toInt.toNat : Int) := by omega
  have cA : A.toNatClampNeg = A.toInt.toNat := nx_cl hAa
  have ha : ((A.toInt.toNat : Nat) : Int) < (s.2.2.1 0 10).toInt := by omega
  have hA0 : 0 ≤ A.toInt := pA.1
  have hA1 : A.toInt ≤ 15 := by omega
  have m0 := mx_rf hP ha hInv
  have two : (K = 2 ∨ K = 3 ∨ K = 5) → nk_wp kx_X6_makes kc_X6_makes Q 42 [some (.ref 0), some (.int K), some (.int OF), some (.int V), some (.int MK), some (.int W), some (.int KN), some (.int A)] [] (nx_enc s 0 shR) 0 0 → nk_wp kx_X6_makes kc_X6_makes Q 15 [some (.ref 0), some (.int K), some (.int OF), some (.int V), some (.int MK), some (.int W), some (.int KN), some (.int A)] [] (nx_enc s 0 shR) 0 0 := by
    intro hK h42
    have hVN := hV hK
    have eV : (V.toNatClampNeg : Int) = V.toInt := by
      have : V.toInt.toNat = V.toNatClampNeg := Int32.toNat_toInt V
      omega
    have pB := (hP V.toNatClampNeg (by omega)).1
    refine nx_s (nx_s (nx_s (nx_s ?_)))
    refine ⟨nx_in (n := 16) (by omega) (by omega), ?_⟩
    show nk_wp kx_X6_makes kc_X6_makes Q 21 [some (.ref 0), some (.int K), some (.int OF), some (.int V), some (.int MK), some (.int W), some (.int KN), some (.int A)] [.int (s.1 10 V.toNatClampNeg)] (nx_enc s 0 shR) 0 0
    generalize hB : s.1 10 V.toNatClampNeg = B at pB ⊢
    have hBb : B.toInt = (B.toInt.toNat : Int) := by omega
    refine nx_s (nx_s ?_)
    refine nk_br.mk (fun _ => h42) (fun hne => ?_)
    have hab : A.toInt.toNat ≠ B.toInt.toNat := fun e => hne (Int32.toInt_inj.mp (show B.toInt = A.toInt by omega))
    refine nx_s (nx_s (nx_s (nx_s (nx_s (nx_s (nx_s ?_))))))
    refine ⟨nx_in (n := 16) (by omega) (by omega), ?_⟩
    show nk_wp kx_X6_makes kc_X6_makes Q 36 [some (.ref 0), some (.int K), some (.int OF), some (.int V), some (.int MK), some (.int W), some (.int KN), some (.int A)] [.int (s.1 10 V.toNatClampNeg), .int A, .int K, .ref 0] (nx_enc s 0 shR) 0 0
    rw [hB]
    refine nx_s (nx_s ?_)
    refine cm_R _ s l A.toInt.toNat B.toInt.toNat K A B W hK hInv hl hP hAa hBb hab ha (by omega) hW0 hW1 (fun s3 h1 h2 => ?_)
    refine nx_s ?_
    exact hq s3 h1 h2
  rcases i_7 hK0 hK1 with rfl | rfl | rfl | rfl | rfl | rfl | rfl
  all_goals repeat' first
    | exact mk_tail Q s _ l _ _ OF V MK W KN A hInv hl hP hAa ha (fun e => absurd e (by decide)) hW0 hW1 (by assumption) hq
    | exact mk_tail Q s _ l _ _ OF V MK W KN A hInv hl hP hAa ha hV6 hW0 hW1 (by assumption) hq
    | exact mk_tail Q s _ l _ _ OF V MK W KN A hInv hl hP hAa ha (fun e => absurd e (by decide)) hW0 hW1 (mx_11 (by assumption) _) hq
    | refine two (by decide) ?_
    | refine tk_R _ s _ A _ _ hA0 hA1 (fun r hr => ?_)
    | (refine al_R _ s A _ hA0 hA1 (fun s1 h1 => ?_); rw [cA] at h1; have m1 := al_mx hP ha hInv h1)
    | refine nx_s ?_
    | refine nk_br.t (by decide) ?_
    | refine nk_br.f (by decide) ?_
    | refine nk_bo0 ?_
    | refine nk_bo1 ?_
    | refine And.intro (nx_in (n := 16) hA0 (by omega)) ?_
    | refine nk_br.mk (fun _ => ?_) (fun _ => ?_)
    | fail
set_option maxRecDepth 100000 in
set_option maxHeartbeats 4000000 in
theorem mk_00 (Q : nk_Q) (s : nx_S) (OF V MK W KN : Int32) (hInv : nx_Inv gR s) (hO0 : 0 ≤ OF.toInt) (hO : OF.toInt ≤ 15) (hq : ∀ s3 : nx_S, nR_f2 s s3 → Q none (nx_enc s3 0 shR)) : ev_X6_makes [.ref 0, .int 0, .int OF, .int V, .int MK, .int W, .int KN] (nx_enc s 0 shR) Q := by
  have eO : (OF.toNatClampNeg : Int) = OF.toInt := by
    have : OF.toInt.toNat = OF.toNatClampNeg := Int32.toNat_toInt OF
    omega
  have pA := hInv.2.1 10 16 [] rfl OF.toNatClampNeg (by omega)
  have pA0 : 0 ≤ (s.1 10 OF.toNatClampNeg).toInt := pA.1
  have pA1 : (s.1 10 OF.toNatClampNeg).toInt ≤ 15 := pA.2
  have hf := nR_fr.rf hInv
  refine nx_s (nx_s (nx_s (nx_s ?_)))
  refine ⟨nx_in (n := 16) (by omega) (by omega), ?_⟩
  show nk_wp kx_X6_makes kc_X6_makes Q 6 [some (.ref 0), some (.int 0), some (.int OF), some (.int V), some (.int MK), some (.int W), some (.int KN), none] [.int (s.1 10 OF.toNatClampNeg)] (nx_enc s 0 shR) 0 0
  generalize s.1 10 OF.toNatClampNeg = A at pA0 pA1 ⊢
  repeat' first
    | refine nx_s ?_
    | refine nk_br.t (by decide) ?_
    | refine nk_br.f (by decide) ?_
    | refine nk_bo0 ?_
    | refine And.intro (nx_in (n := 16) pA0 (by omega)) ?_
    | fail
  refine hq _ ⟨⟨fun q h10 h11 h12 h13 => ?_, hf.2.1, hf.2.2.1, hf.2.2.2⟩, rfl, rfl⟩
  show (if q = 12 then _ else if q = 13 then _ else s.1 q) = s.1 q
  rw [if_neg h12, if_neg h13]
set_option maxRecDepth 100000 in
set_option maxHeartbeats 4000000 in
theorem ds_R (Q : nk_Q) (s : nx_S) (l : Nat) (M : Int32) (hInv : nx_Inv gR s) (hl : l ≤ 12) (hP : PXR l s) (hM0 : 0 ≤ M.toInt) (hM1 : M.toInt ≤ 11) (hq : ∀ s3 : nx_S, nR_f2 s s3 → PXR (l + 1) s3 → Q none (nx_enc s3 0 shR)) : ev_X6_does [.ref 0, .int M] (nx_enc s 0 shR) Q := by
  have eM : M.toInt.toNat = M.toNatClampNeg := Int32.toNat_toInt M
  have pm := hInv.2.2.1 M.toNatClampNeg (by omega)
  have pe := hInv.2.2.2.2 M.toNatClampNeg (by omega)
  have c0 := pm.1 0 (by decide)
  have c1 := pm.1 1 (by decide)
  have c2 := pm.1 2 (by decide)
  have c4 := pm.1 4 (by decide)
  refine nx_s (nx_s (nx_s (nx_s (nx_s ?_))))
  refine mk_R s M 0 _ hM0 hM1 (by decide) (by decide) ?_
  refine nx_s (nx_s (nx_s (nx_s ?_)))
  refine mk_R s M 1 _ hM0 hM1 (by decide) (by decide) ?_
  refine nx_s (nx_s (nx_s (nx_s ?_)))
  refine mk_R s M 2 _ hM0 hM1 (by decide) (by decide) ?_
  refine nx_s (nx_s (nx_s (nx_s ?_)))
  refine mk_R s M 3 _ hM0 hM1 (by decide) (by decide) ?_
  refine nx_s (nx_s (nx_s (nx_s ?_)))
  refine mk_R s M 4 _ hM0 hM1 (by decide) (by decide) ?_
  refine nx_s (nx_s (nx_s (nx_s (nx_s ?_))))
  refine mk_R s M 5 _ hM0 hM1 (by decide) (by decide) ?_
  refine nx_s ?_
  refine kn_R _ s _ (fun r hr => ?_)
  refine nx_s ?_
  show ev_X6_makes [.ref 0, .int (s.1 8 (7 * M.toNatClampNeg + 0)), .int (s.1 8 (7 * M.toNatClampNeg + 1)), .int (s.1 8 (7 * M.toNatClampNeg + 2)), .int (s.1 8 (7 * M.toNatClampNeg + 3)), .int (s.1 8 (7 * M.toNatClampNeg + 4)), .int r] (nx_enc s 0 shR) (fun v h' => nk_ret v [] (fun T => nk_wp kx_X6_does kc_X6_does Q 44 [some (.ref 0), some (.int M)] T h' 0 0))
  have d0 : (nx_co 0).1 = 0 ∧ (nx_co 0).2 = 6 := ⟨rfl, rfl⟩
  have d1 : (nx_co 1).1 = 0 ∧ (nx_co 1).2 = 15 := ⟨rfl, rfl⟩
  have d2 : (nx_co 2).1 = 0 ∧ (nx_co 2).2 = 99 := ⟨rfl, rfl⟩
  have d4 : (nx_co 4).1 = 0 ∧ (nx_co 4).2 = 99 := ⟨rfl, rfl⟩
  rw [d0.1, d0.2] at c0
  rw [d1.1, d1.2] at c1
  rw [d2.1, d2.2] at c2
  rw [d4.1, d4.2] at c4
  have c0 : 0 ≤ (s.1 8 (7 * M.toNatClampNeg + 0)).toInt ∧ (s.1 8 (7 * M.toNatClampNeg + 0)).toInt ≤ 6 := c0
  have c1 : 0 ≤ (s.1 8 (7 * M.toNatClampNeg + 1)).toInt ∧ (s.1 8 (7 * M.toNatClampNeg + 1)).toInt ≤ 15 := c1
  have c2 : 0 ≤ (s.1 8 (7 * M.toNatClampNeg + 2)).toInt ∧ (s.1 8 (7 * M.toNatClampNeg + 2)).toInt ≤ 99 := c2
  have c4 : 0 ≤ (s.1 8 (7 * M.toNatClampNeg + 4)).toInt ∧ (s.1 8 (7 * M.toNatClampNeg + 4)).toInt ≤ 99 := c4
  by_cases hN : (s.2.2.1 0 10).toInt = 0
  · have hk : s.1 8 (7 * M.toNatClampNeg + 0) = 0 := by
      rcases pe with h | h
      · exact Int32.toInt_inj.mp (h.1.trans rfl)
      · omega
    rw [hk]
    refine mk_00 _ s _ _ _ _ _ hInv c1.1 c1.2 (fun s3 h3 => ?_)
    refine nx_s ?_
    refine hq s3 h3 (fun k hk3 => ?_)
    rw [h3.1.2.1 10 (by decide) (by decide) (by decide)] at hk3
    omega
  · have hN0 : 0 ≤ (s.2.2.1 0 10).toInt := (hInv.1 2 (0, 10) (0, 16) rfl rfl).1
    have hO : (s.1 8 (7 * M.toNatClampNeg + 1)).toInt < (s.2.2.1 0 10).toInt := by
      rcases pe with h | h
      · omega
      · exact h.1
    refine mk_R2 _ s l _ _ _ _ _ _ c0.1 c0.2 hInv hl hP c1.1 hO c2.1 (fun hK => ?_) (fun _ => c2) c4.1 c4.2 (fun s3 h3 h4 => ?_)
    · have e2 : (2 : Int32).toInt = 2 := rfl
      have e3 : (3 : Int32).toInt = 3 := rfl
      have e5 : (5 : Int32).toInt = 5 := rfl
      rcases pe with h | h
      · have := h.1
        rcases hK with e | e | e
        · rw [e] at this; omega
        · rw [e] at this; omega
        · rw [e] at this; omega
      · rcases h.2 with h | h
        · exact h
        · rcases hK with e | e | e
          · rw [e] at h; omega
          · rw [e] at h; omega
          · rw [e] at h; omega
    · refine nx_s ?_
      exact hq s3 h3 h4
set_option maxRecDepth 100000 in
set_option maxHeartbeats 4000000 in
theorem gs_loop (Q : nk_Q) (s : nx_S) (law an T W : Int32) (t : Nat) (hT : T.toInt = t) (ht : t ≤ 12) (hInv : nx_Inv gR s) (hq : ∀ (s1 : nx_S) (r : Int32), nR_fr s s1 → PXR 12 s1 → (r = 0 ∨ (r = 1 ∧ s1.2.2.1 0 22 = 0)) → Q (some (.int r)) (nx_enc s1 0 shR)) : ∀ (n i : Nat) (I : Int32) (s1 : nx_S), i + n = t → I.toInt = i → nR_fr s s1 → PXR i s1 → nk_wp kx_X6_goes kc_X6_goes Q 9 [some (.ref 0), some (.int law), some (.int an), some (.int T), some (.int W), some (.int I)] [] (nx_enc s1 0 shR) 0 0 := by
  have h1 : (1 : Int32).toInt = 1 := rfl
  intro n
  induction n with
  | zero =>
    intro i I s1 hi hI hf hp
    refine nx_s (nx_s (nx_s ?_))
    refine nk_br.t (i_le (by omega)) ?_
    refine nx_s (nx_s (nx_s ?_))
    have hp12 := mo_R i 12 s1 (by omega) hp
    refine nk_br.mk (fun h22 => ?_) (fun _ => ?_)
    · refine nx_s (nx_s (nx_s ?_))
      refine nk_bo1 ?_
      exact hq s1 1 hf hp12 (Or.inr ⟨rfl, h22⟩)
    · refine nx_s (nx_s ?_)
      refine nk_bo0 ?_
      exact hq s1 0 hf hp12 (Or.inl rfl)
  | succ n ih =>
    intro i I s1 hi hI hf hp
    have e1 : (I + 1).toInt = ((i + 1 : Nat) : Int) := by
      rw [i_add (by omega) (by omega)]
      omega
    refine nx_s (nx_s (nx_s ?_))
    refine nk_br.f (i_nle (by omega)) ?_
    refine nx_s (nx_s (nx_s ?_))
    refine nk_br.mk (fun _ => ?_) (fun _ => ?_)
    · refine nx_s (nx_s ?_)
      exact ih (i + 1) (I + 1) s1 (by omega) e1 hf (mo_R i (i + 1) s1 (by omega) hp)
    · refine nx_s (nx_s (nx_s ?_))
      refine ds_R _ s1 i I (nR_inv hInv hf) (by omega) hp (by omega) (by omega) (fun s3 h3 h4 => ?_)
      refine nx_s (nx_s ?_)
      exact ih (i + 1) (I + 1) s3 (by omega) e1 (hf.tr h3.1) h4
set_option maxRecDepth 100000 in
theorem gs_R (Q : nk_Q) (s : nx_S) (law an T W : Int32) (hT0 : 0 ≤ T.toInt) (hT1 : T.toInt ≤ 12) (hInv : nx_Inv gR s) (hq : ∀ (s1 : nx_S) (r : Int32), nR_fr s s1 → PXR 12 s1 → (r = 0 ∨ (r = 1 ∧ s1.2.2.1 0 22 = 0)) → Q (some (.int r)) (nx_enc s1 0 shR)) : ev_X6_goes [.ref 0, .int law, .int an, .int T, .int W] (nx_enc s 0 shR) Q := by
  refine nx_s (nx_s (nx_s (nx_s ?_)))
  refine bg_R _ s law an hInv (fun s1 h1 => ?_)
  refine nx_s (nx_s ?_)
  exact gs_loop Q s law an T W T.toInt.toNat (by omega) (by omega) hInv hq T.toInt.toNat 0 0 s1 (by omega) rfl h1.1 (nR_pxb h1)
/-! ### their contracts -/
theorem nR_arr {s s1 : nx_S} (hf : nR_fr s s1) : ∀ q : Nat, q ∉ [10, 11, 12, 13] → s1.1 q = s.1 q := fun q hq => hf.1 q (fun e => hq (by rw [e]; decide)) (fun e => hq (by rw [e]; decide)) (fun e => hq (by rw [e]; decide)) (fun e => hq (by rw [e]; decide))
theorem nR_po3 {s s1 : nx_S} (hf : nR_fr s s1) : ∀ (i : Nat) (k : Nat × Nat), gR.2.1[i]? = some k → match nk_lk [(5, ((0 : Int), (1 : Int))), (6, (-2147483648, 2147483647)), (7, (-2147483648, 2147483647))] i with
    | some b => b.1 ≤ (s1.2.2.1 k.1 k.2).toInt ∧ (s1.2.2.1 k.1 k.2).toInt ≤ b.2
    | none => s1.2.2.1 k.1 k.2 = s.2.2.1 k.1 k.2 := by
  intro i k hi
  match i, hi with
  | 0, hi => cases hi; exact hf.2.1 0 (by decide) (by decide) (by decide)
  | 1, hi => cases hi; exact hf.2.1 2 (by decide) (by decide) (by decide)
  | 2, hi => cases hi; exact hf.2.1 10 (by decide) (by decide) (by decide)
  | 3, hi => cases hi; exact hf.2.1 12 (by decide) (by decide) (by decide)
  | 4, hi => cases hi; exact hf.2.1 15 (by decide) (by decide) (by decide)
  | 5, hi => cases hi; exact hf.2.2.1
  | 6, hi => cases hi; exact na_i32 _
  | 7, hi => cases hi; exact na_i32 _
  | 8, hi => cases hi; exact hf.2.1 30 (by decide) (by decide) (by decide)
  | i + 9, hi => cases hi
theorem nR_po1 {s s1 : nx_S} (hf : nR_f2 s s1) : ∀ (i : Nat) (k : Nat × Nat), gR.2.1[i]? = some k → match nk_lk [(5, ((0 : Int), (1 : Int)))] i with
    | some b => b.1 ≤ (s1.2.2.1 k.1 k.2).toInt ∧ (s1.2.2.1 k.1 k.2).toInt ≤ b.2
    | none => s1.2.2.1 k.1 k.2 = s.2.2.1 k.1 k.2 := by
  intro i k hi
  match i, hi with
  | 0, hi => cases hi; exact hf.1.2.1 0 (by decide) (by decide) (by decide)
  | 1, hi => cases hi; exact hf.1.2.1 2 (by decide) (by decide) (by decide)
  | 2, hi => cases hi; exact hf.1.2.1 10 (by decide) (by decide) (by decide)
  | 3, hi => cases hi; exact hf.1.2.1 12 (by decide) (by decide) (by decide)
  | 4, hi => cases hi; exact hf.1.2.1 15 (by decide) (by decide) (by decide)
  | 5, hi => cases hi; exact hf.1.2.2.1
  | 6, hi => cases hi; exact hf.2.1
  | 7, hi => cases hi; exact hf.2.2
  | 8, hi => cases hi; exact hf.1.2.1 30 (by decide) (by decide) (by decide)
  | i + 9, hi => cases hi
theorem ct_X6_begins_0 : na_Ct gR ev_X6_begins cc_X6_begins_0 := by
  intro l s as Q hPr hq
  obtain ⟨hInv, has, -, -, -⟩ := hPr
  match as, has with
  | [a, b, c], has =>
    obtain ⟨ha, ⟨x, hx, -⟩, ⟨y, hy, -⟩, -⟩ := has
    have ha : a = .ref 0 := ha
    subst ha
    subst hx
    subst hy
    exact bg_R Q s x y hInv (fun s1 h1 => hq none s1 ⟨nR_inv hInv h1.1, nR_po3 h1.1, nR_arr h1.1, rfl, nR_pxb h1⟩)
theorem ct_X6_does_0 : na_Ct gR ev_X6_does cc_X6_does_0 := by
  intro l s as Q hPr hq
  obtain ⟨hInv, has, -, hpx, -⟩ := hPr
  have hp := hpx (show (13 : Nat) ≠ 0 by decide)
  have hl : l < 13 := hp.1
  match as, has with
  | [a, b], has =>
    obtain ⟨ha, ⟨x, hx, h1, h2, -⟩, -⟩ := has
    have ha : a = .ref 0 := ha
    subst ha
    subst hx
    exact ds_R Q s l x hInv (by omega) hp.2 h1 h2 (fun s1 h3 h4 => hq none s1 ⟨nR_inv hInv h3.1, nR_po1 h3, nR_arr h3.1, rfl, h4⟩)
theorem ct_X6_makes_0 : na_Ct gR ev_X6_makes cc_X6_makes_0 := by
  intro l s as Q hPr hq
  obtain ⟨hInv, has, -, hpx, hlt⟩ := hPr
  have hp := hpx (show (13 : Nat) ≠ 0 by decide)
  have hl : l < 13 := hp.1
  match as, has with
  | [a, b, c, d, e, f, g], has =>
    obtain ⟨ha, ⟨k, hk, hk2⟩, ⟨x, hx, x1, x2, -⟩, ⟨y, hy, y1, y2, -⟩, ⟨z, hz, -⟩, ⟨w, hw, w1, w2, -⟩, ⟨v, hv, -⟩, -⟩ := has
    have ha : a = .ref 0 := ha
    subst ha
    subst hk
    subst hx
    subst hy
    subst hz
    subst hw
    subst hv
    obtain ⟨x', hx', hxl⟩ := hlt (2, 2) List.mem_cons_self (0, 10) rfl
    obtain ⟨y', hy', hyl⟩ := hlt (3, 2) (List.mem_cons_of_mem _ List.mem_cons_self) (0, 10) rfl
    cases hx'
    cases hy'
    have e2 : (2 : Int32).toInt = 2 := rfl
    have hk2 : k.toInt = 2 := hk2
    exact mk_R2 Q s l k x y z w v (by omega) (by omega) hInv (by omega) hp.2 x1 hxl y1 (fun _ => hyl) (fun e => by rw [e] at hk2; exact absurd hk2 (by decide)) w1 w2 (fun s1 h3 h4 => hq none s1 ⟨nR_inv hInv h3.1, nR_po1 h3, nR_arr h3.1, rfl, h4⟩)
theorem ct_X6_goes_0 : na_Ct gR ev_X6_goes cc_X6_goes_0 := by
  intro l s as Q hPr hq
  obtain ⟨hInv, has, -, -, -⟩ := hPr
  match as, has with
  | [a, b, c, d, e], has =>
    obtain ⟨ha, ⟨x, hx, -⟩, ⟨y, hy, -⟩, ⟨z, hz, z1, z2, -⟩, ⟨w, hw, -⟩, -⟩ := has
    have ha : a = .ref 0 := ha
    subst ha
    subst hx
    subst hy
    subst hz
    subst hw
    refine gs_R Q s x y z w z1 z2 hInv (fun s1 r h1 h2 hr => hq _ s1 ⟨nR_inv hInv h1, nR_po3 h1, nR_arr h1, ⟨r, rfl, ?_⟩, h2⟩)
    rcases hr with e | e
    · rw [e]; decide
    · rw [e.1]; decide
