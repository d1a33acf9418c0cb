/-! ===== the reference's makes, does, goes exactly ===== -/
/-- a making that stays with its thing -/
noncomputable def cz_stay (K V W : Int32) (a : Nat) (z : cz) : cz := (z.1, z.2.1, upd z.2.2.1 a (z.2.2.1 a + if K = 0 then 0 else W), upd z.2.2.2.1 a (z.2.2.2.1 a + if K = 6 then V else 0), z.2.2.2.2)
theorem cz_stag {s1 s3 : nx_S} {z : cz} {K V W C D : Int32} {a : Nat} (hz : cz_ag s1 z) (ha : (a : Int) < (s1.2.2.1 0 10).toInt) (hC : C = if K = 0 then 0 else W) (hD : D = if K = 6 then V else 0)
    (i10 : s3.1 10 = s1.1 10) (i11 : s3.1 11 = s1.1 11) (i12 : s3.1 12 = upd (s1.1 12) a (s1.1 12 a + C)) (i13 : s3.1 13 = upd (s1.1 13) a (s1.1 13 a + D)) (e2 : s3.2 = s1.2) : cz_ag s3 (cz_stay K V W a z) := by
  obtain ⟨hzf, hzk⟩ := hz
  have za := hzk a ha
  unfold cz_ag
  rw [e2]
  refine ⟨hzf, fun k hk => ?_⟩
  have zk := hzk k hk
  refine ⟨?_, ?_, ?_, ?_, zk.2.2.2.2.1, zk.2.2.2.2.2⟩
  · rw [i10]
    exact zk.1
  · rw [i11]
    exact zk.2.1
  · show s3.1 12 k = upd z.2.2.1 a (z.2.2.1 a + if K = 0 then 0 else W) k
    rw [i12, hC, ← za.2.2.1]
    by_cases ek : k = a
    · rw [ek, upd_s, upd_s]
    · rw [upd_n _ _ ek, upd_n _ _ ek]
      exact zk.2.2.1
  · show s3.1 13 k = upd z.2.2.2.1 a (z.2.2.2.1 a + if K = 6 then V else 0) k
    rw [i13, hD, ← za.2.2.2.1]
    by_cases ek : k = a
    · rw [ek, upd_s, upd_s]
    · rw [upd_n _ _ ek, upd_n _ _ ek]
      exact zk.2.2.2.1
set_option maxRecDepth 100000 in
set_option maxHeartbeats 4000000 in
theorem mk_tailx (Q : nk_Q) (s s1 : nx_S) (z1 : cz) (l a : Nat) (K OF V MK W KN A : Int32) (hInv : nx_Inv gR s) (hl : l ≤ 12) (hP : PXR l s) (hA : A.toInt = a) (ha : (a : Int) < (s.2.2.1 0 10).toInt) (hV : K = 6 → 0 ≤ V.toInt ∧ V.toInt ≤ 99) (hW0 : 0 ≤ W.toInt) (hW1 : W.toInt ≤ 99) (m : mx_P s a s1) (hz : cz_ag s1 z1) (hq : ∀ s3 : nx_S, nR_f2 s s3 → PXR (l + 1) s3 → cz_ag s3 (cz_stay K V W a z1) → Q none (nx_enc s3 0 shR)) : nk_wp kx_X6_makes kc_X6_makes Q 97 [some (.ref 0), some (.int K), some (.int OF), some (.int V), some (.int MK), some (.int W), some (.int KN), some (.int A)] [] (nx_enc s1 0 shR) 0 0 := by
  have hN : (s.2.2.1 0 10).toInt ≤ 16 := (hInv.1 2 (0, 10) (0, 16) rfl rfl).2
  have h0 : (0 : Int32).toInt = 0 := rfl
  have eA : A.toNatClampNeg = a := nx_cl hA
  have pa := hP a ha
  have hb13 := nR_B13 hl
  have hb2 := nR_B2 l
  have i10 : s1.1 10 = s.1 10 := m.1 10 (by decide)
  have i12 : s1.1 12 = s.1 12 := m.1 12 (by decide)
  have i13 : s1.1 13 = s.1 13 := m.1 13 (by decide)
  have g10 : s1.2.2.1 0 10 = s.2.2.1 0 10 := m.2.1 10 (by decide)
  have last : ∀ C D : Int32, C = s1.1 13 a + D → (D = if K = 6 then V else 0) → 1 ≤ C.toInt → C.toInt ≤ nR_B (l + 1) → nk_wp kx_X6_makes kc_X6_makes Q 118 [some (.ref 0), some (.int K), some (.int OF), some (.int V), some (.int MK), some (.int W), some (.int KN), some (.int A)] [] (nx_enc (nx_ui s1 13 (upd (s1.1 13) a C)) 0 shR) 0 0 := by
    intro C D hCD hD hC1 hC2
    have fin : ∀ W' E : Int32, W' = s1.1 12 a + E → (E = if K = 0 then 0 else W) → 1 ≤ W'.toInt → W'.toInt ≤ nR_B (l + 1) → Q none (nx_enc (nx_ui (nx_ui s1 13 (upd (s1.1 13) a C)) 12 (upd (s1.1 12) a W')) 0 shR) := by
      intro W' E hWE hE h1 h2
      have := cm_px hP hA ha hN hInv m (W := W') (C := C) ⟨h1, h2⟩ ⟨hC1, hC2⟩ (s3 := nx_ui (nx_ui s1 13 (upd (s1.1 13) a C)) 12 (upd (s1.1 12) a W')) (fun k => Or.inl (by show s1.1 10 k = s.1 10 k; rw [i10])) (by show upd (s1.1 12) a W' = _; rw [i12]) (by show upd (s1.1 13) a C = _; rw [i13]) rfl (fun q h10 h11 h12 h13 => by
        show (if q = 12 then _ else if q = 13 then _ else s1.1 q) = s1.1 q
        rw [if_neg h12, if_neg h13])
      exact hq _ this.1 this.2 (cz_stag (C := E) (D := D) hz (by rw [g10]; exact ha) hE hD rfl rfl (by rw [← hWE]; rfl) (by rw [← hCD]; rfl) rfl)
    refine nx_s (nx_s (nx_s (nx_s (nx_s ?_))))
    refine ⟨nx_in (n := 16) (by omega) (by omega), ?_⟩
    refine nx_s (nx_s ?_)
    refine nk_br.mk (fun hk => ?_) (fun hk => ?_)
    · have hk : K = 0 := hk
      refine nx_s (nx_s (nx_s (nx_s ?_)))
      refine ⟨nx_in (n := 16) (by omega) (by omega), ?_⟩
      refine nx_s ?_
      rw [eA]
      have e : (s1.1 12 a + 0).toInt = (s1.1 12 a).toInt + 0 := by
        rw [i12]
        exact i_add (by omega) (by omega)
      rw [i12] at e
      exact fin (s1.1 12 a + 0) 0 rfl (by rw [if_pos hk]) (by rw [i12]; omega) (by rw [i12]; omega)
    · have hk : ¬ K = 0 := hk
      refine nx_s (nx_s (nx_s ?_))
      refine ⟨nx_in (n := 16) (by omega) (by omega), ?_⟩
      refine nx_s ?_
      rw [eA]
      have e : (s1.1 12 a + W).toInt = (s1.1 12 a).toInt + W.toInt := by
        rw [i12]
        exact i_add (by omega) (by omega)
      rw [i12] at e
      exact fin (s1.1 12 a + W) W rfl (by rw [if_neg hk]) (by rw [i12]; omega) (by rw [i12]; omega)
  refine nx_s (nx_s (nx_s (nx_s (nx_s ?_))))
  refine ⟨nx_in (n := 16) (by omega) (by omega), ?_⟩
  refine nx_s (nx_s (nx_s ?_))
  refine nk_br.mk (fun hk => ?_) (fun hk => ?_)
  · have hk : K = 6 := hk
    have hV := hV hk
    refine nx_s (nx_s (nx_s (nx_s ?_)))
    refine ⟨nx_in (n := 16) (by omega) (by omega), ?_⟩
    rw [eA]
    have e : (s1.1 13 a + V).toInt = (s1.1 13 a).toInt + V.toInt := by
      rw [i13]
      exact i_add (by omega) (by omega)
    rw [i13] at e
    exact last (s1.1 13 a + V) V rfl (by rw [if_pos hk]) (by rw [i13]; omega) (by rw [i13]; omega)
  · have hk : ¬ K = 6 := hk
    refine nx_s (nx_s (nx_s ?_))
    refine ⟨nx_in (n := 16) (by omega) (by omega), ?_⟩
    rw [eA]
    have e : (s1.1 13 a + 0).toInt = (s1.1 13 a).toInt + 0 := by
      rw [i13]
      exact i_add (by omega) (by omega)
    rw [i13] at e
    exact last (s1.1 13 a + 0) 0 rfl (by rw [if_neg hk]) (by rw [i13]; omega) (by rw [i13]; omega)
/-- a making's new kind of a thing -/
noncomputable def cz_sort (K V : Int32) (a : Nat) (z : cz) : cz := (z.1, upd z.2.1 a (if K = 1 then V else z.2.1 a), z.2.2)
theorem cz_soag {s1 : nx_S} {z : cz} {K V v : Int32} {a : Nat} (hz : cz_ag s1 z) (ha : (a : Int) < (s1.2.2.1 0 10).toInt) (hv : v = if K = 1 then V else s1.1 11 a) : cz_ag (nx_ui s1 11 (upd (s1.1 11) a v)) (cz_sort K V a z) := by
  obtain ⟨hzf, hzk⟩ := hz
  have za := hzk a ha
  refine ⟨hzf, fun k hk => ?_⟩
  have zk := hzk k hk
  refine ⟨zk.1, ?_, zk.2.2⟩
  show upd (s1.1 11) a v k = upd z.2.1 a (if K = 1 then V else z.2.1 a) k
  rw [hv, ← za.2.1]
  by_cases ek : k = a
  · rw [ek, upd_s, upd_s]
  · rw [upd_n _ _ ek, upd_n _ _ ek]
    exact zk.2.1
noncomputable def cz_form (law K V MK W KN : Int32) (a : Nat) (z : cz) : cz := if K = 1 ∨ K = 4 then cz_sort K V a (if cz_tk law K W KN (z.2.2.1 a) = 0 then z else cz_all a MK z) else z
noncomputable def cz_make (law K OF V MK W KN : Int32) (z : cz) : cz := if (K = 2 ∨ K = 3 ∨ K = 5) ∧ ¬ z.1 V.toNatClampNeg = z.1 OF.toNatClampNeg then cz_come law K (z.1 OF.toNatClampNeg) (z.1 V.toNatClampNeg) W (z.1 OF.toNatClampNeg).toNatClampNeg (z.1 V.toNatClampNeg).toNatClampNeg z else cz_stay K V W (z.1 OF.toNatClampNeg).toNatClampNeg (cz_form law K V MK W KN (z.1 OF.toNatClampNeg).toNatClampNeg z)
set_option maxRecDepth 100000 in
set_option maxHeartbeats 8000000 in
theorem mk_R42 (Q : nk_Q) (s : nx_S) (z : cz) (l a : Nat) (K OF V MK W KN A law : Int32) (hK0 : 0 ≤ K.toInt) (hK1 : K.toInt ≤ 6) (hlaw : s.2.2.1 0 23 = law) (hInv : nx_Inv gR s) (hl : l ≤ 12) (hP : PXR l s) (hz : cz_ag s z) (hA : A.toInt = a) (ha : (a : Int) < (s.2.2.1 0 10).toInt) (hV6 : K = 6 → 0 ≤ V.toInt ∧ V.toInt ≤ 99) (hW0 : 0 ≤ W.toInt) (hW1 : W.toInt ≤ 99) (hq : ∀ s3 : nx_S, nR_f2 s s3 → PXR (l + 1) s3 → cz_ag s3 (cz_stay K V W a (cz_form law K V MK W KN a z)) → Q none (nx_enc s3 0 shR)) : nk_wp kx_X6_makes kc_X6_makes Q 42 [some (.ref 0), some (.int K), some (.int OF), some (.int V), some (.int MK), some (.int W), some (.int KN), some (.int A)] [] (nx_enc s 0 shR) 0 0 := by
  have hN : (s.2.2.1 0 10).toInt ≤ 16 := (hInv.1 2 (0, 10) (0, 16) rfl rfl).2
  have eA : A.toNatClampNeg = a := nx_cl hA
  have m0 := mx_rf hP ha hInv
  have za := hz.2 a ha
  have hA0 : 0 ≤ A.toInt := by omega
  have hA1 : A.toInt ≤ 15 := by omega
  have plain : ¬ (K = 1 ∨ K = 4) → nk_wp kx_X6_makes kc_X6_makes Q 97 [some (.ref 0), some (.int K), some (.int OF), some (.int V), some (.int MK), some (.int W), some (.int KN), some (.int A)] [] (nx_enc s 0 shR) 0 0 := by
    intro hc
    unfold cz_form at hq
    rw [if_neg hc] at hq
    exact mk_tailx Q s s z l a K OF V MK W KN A hInv hl hP hA ha hV6 hW0 hW1 m0 hz hq
  have form : (K = 1 ∨ K = 4) → nk_wp kx_X6_makes kc_X6_makes Q 52 [some (.ref 0), some (.int K), some (.int OF), some (.int V), some (.int MK), some (.int W), some (.int KN), some (.int A)] [] (nx_enc s 0 shR) 0 0 := by
    intro hc
    unfold cz_form at hq
    rw [if_pos hc] at hq
    have store : ∀ (s1 : nx_S) (z1 : cz), mx_P s a s1 → cz_ag s1 z1 → (∀ s3 : nx_S, nR_f2 s s3 → PXR (l + 1) s3 → cz_ag s3 (cz_stay K V W a (cz_sort K V a z1)) → Q none (nx_enc s3 0 shR)) → nk_wp kx_X6_makes kc_X6_makes Q 74 [some (.ref 0), some (.int K), some (.int OF), some (.int V), some (.int MK), some (.int W), some (.int KN), some (.int A)] [] (nx_enc s1 0 shR) 0 0 := by
      intro s1 z1 m1 hz1 hq1
      have g10 : s1.2.2.1 0 10 = s.2.2.1 0 10 := m1.2.1 10 (by decide)
      refine nx_s (nx_s (nx_s (nx_s (nx_s (nx_s ?_)))))
      refine nk_br.mk (fun hk => ?_) (fun hk => ?_)
      · have hk : K = 1 := hk
        refine nx_s (nx_s (nx_s ?_))
        refine ⟨nx_in (n := 16) hA0 (by omega), ?_⟩
        rw [eA]
        exact mk_tailx Q s _ _ l a K OF V MK W KN A hInv hl hP hA ha hV6 hW0 hW1 (mx_11 m1 _) (cz_soag hz1 (by rw [g10]; exact ha) (by rw [if_pos hk])) hq1
      · have hk : ¬ K = 1 := hk
        refine nx_s (nx_s (nx_s (nx_s ?_)))
        refine ⟨nx_in (n := 16) hA0 (by omega), ?_⟩
        refine nx_s ?_
        refine ⟨nx_in (n := 16) hA0 (by omega), ?_⟩
        rw [eA]
        exact mk_tailx Q s _ _ l a K OF V MK W KN A hInv hl hP hA ha hV6 hW0 hW1 (mx_11 m1 _) (cz_soag hz1 (by rw [g10]; exact ha) (by rw [if_neg hk])) hq1
    refine nx_s (nx_s (nx_s (nx_s (nx_s (nx_s ?_)))))
    refine tk_Rx _ s K A W KN law (z.2.2.1 a) hA0 hA1 hlaw (by rw [eA]; exact za.2.2.1) ?_
    refine nx_s ?_
    refine nk_br.mk (fun ht => ?_) (fun ht => ?_)
    · have ht : cz_tk law K W KN (z.2.2.1 a) = 0 := ht
      rw [if_pos ht] at hq
      exact store s z m0 hz hq
    · have ht : ¬ cz_tk law K W KN (z.2.2.1 a) = 0 := ht
      rw [if_neg ht] at hq
      refine nx_s (nx_s (nx_s (nx_s ?_)))
      refine al_Rx _ s A MK hA0 hA1 (fun s1 h1 => ?_)
      rw [eA] at h1
      exact store s1 _ (al_mx hP ha hInv h1.1) (cz_alag hz h1) hq
  rcases i_7 hK0 hK1 with rfl | rfl | rfl | rfl | rfl | rfl | rfl
  · refine nx_s (nx_s (nx_s ?_))
    refine nk_br.f (by decide) ?_
    refine nx_s (nx_s (nx_s ?_))
    refine nk_br.f (by decide) ?_
    exact plain (by decide)
  · refine nx_s (nx_s (nx_s ?_))
    refine nk_br.t (by decide) ?_
    exact form (by decide)
  · refine nx_s (nx_s (nx_s ?_))
    refine nk_br.f (by decide) ?_
    refine nx_s (nx_s (nx_s ?_))
    refine nk_br.f (by decide) ?_
    exact plain (by decide)
  · refine nx_s (nx_s (nx_s ?_))
    refine nk_br.f (by decide) ?_
    refine nx_s (nx_s (nx_s ?_))
    refine nk_br.f (by decide) ?_
    exact plain (by decide)
  · refine nx_s (nx_s (nx_s ?_))
    refine nk_br.f (by decide) ?_
    refine nx_s (nx_s (nx_s ?_))
    refine nk_br.t (by decide) ?_
    exact form (by decide)
  · refine nx_s (nx_s (nx_s ?_))
    refine nk_br.f (by decide) ?_
    refine nx_s (nx_s (nx_s ?_))
    refine nk_br.f (by decide) ?_
    exact plain (by decide)
  · refine nx_s (nx_s (nx_s ?_))
    refine nk_br.f (by decide) ?_
    refine nx_s (nx_s (nx_s ?_))
    refine nk_br.f (by decide) ?_
    exact plain (by decide)
set_option maxRecDepth 100000 in
theorem br_R (Q : nk_Q) (h : nk_H) (K : Int32) (h1 : (K = 2 ∨ K = 3 ∨ K = 5) → Q (some (.int 1)) h) (h2 : ¬ (K = 2 ∨ K = 3 ∨ K = 5) → Q (some (.int 0)) h) : ev_X6_brings [.int K] h Q := by
  refine nk_s (nk_s (nk_s ?_))
  refine nk_br.mk (fun e => ?_) (fun e2 => ?_)
  · refine nk_s (nk_s (nk_s ?_))
    exact nk_bo1 (h1 (Or.inl e))
  refine nk_s (nk_s (nk_s ?_))
  refine nk_br.mk (fun e => ?_) (fun e3 => ?_)
  · refine nk_s (nk_s (nk_s ?_))
    exact nk_bo1 (h1 (Or.inr (Or.inl e)))
  refine nk_s (nk_s (nk_s ?_))
  refine nk_br.mk (fun e => ?_) (fun e5 => ?_)
  · refine nk_s (nk_s (nk_s ?_))
    exact nk_bo1 (h1 (Or.inr (Or.inr e)))
  refine nk_s (nk_s ?_)
  exact nk_bo0 (h2 (fun h => h.elim e2 (fun h => h.elim e3 e5)))
set_option maxRecDepth 100000 in
set_option maxHeartbeats 8000000 in
theorem mk_Rx (Q : nk_Q) (s : nx_S) (z : cz) (l : Nat) (K OF V MK W KN law : Int32) (hK0 : 0 ≤ K.toInt) (hK1 : K.toInt ≤ 6) (hlaw : s.2.2.1 0 23 = law) (hInv : nx_Inv gR s) (hl : l ≤ 12) (hP : PXR l s) (hz : cz_ag s z) (hO0 : 0 ≤ OF.toInt) (hO : OF.toInt < (s.2.2.1 0 10).toInt) (hV0 : 0 ≤ V.toInt) (hV : K = 2 ∨ K = 3 ∨ K = 5 → V.toInt < (s.2.2.1 0 10).toInt) (hV6 : K = 6 → 0 ≤ V.toInt ∧ V.toInt ≤ 99) (hW0 : 0 ≤ W.toInt) (hW1 : W.toInt ≤ 99) (hq : ∀ s3 : nx_S, nR_f2 s s3 → PXR (l + 1) s3 → cz_ag s3 (cz_make law K OF V MK W KN z) → Q none (nx_enc s3 0 shR)) : ev_X6_makes [.ref 0, .int K, .int OF, .int V, .int MK, .int W, .int KN] (nx_enc s 0 shR) Q := by
  have hN : (s.2.2.1 0 10).toInt ≤ 16 := (hInv.1 2 (0, 10) (0, 16) rfl rfl).2
  have eO : (OF.toNatClampNeg : Int) = OF.toInt := by
    have : OF.toInt.toNat = OF.toNatClampNeg := Int32.toNat_toInt OF
    omega
  have pA := (hP OF.toNatClampNeg (by omega)).1
  have zA : s.1 10 OF.toNatClampNeg = z.1 OF.toNatClampNeg := (hz.2 OF.toNatClampNeg (by omega)).1
  refine nx_s (nx_s (nx_s (nx_s ?_)))
  refine ⟨nx_in (n := 16) (by omega) (by omega), ?_⟩
  show nk_wp kx_X6_makes kc_X6_makes Q 6 [some (.ref 0), some (.int K), some (.int OF), some (.int V), some (.int MK), some (.int W), some (.int KN), none] [.int (s.1 10 OF.toNatClampNeg)] (nx_enc s 0 shR) 0 0
  unfold cz_make at hq
  rw [zA] at pA ⊢
  generalize z.1 OF.toNatClampNeg = A at pA hq ⊢
  have hAa : A.toInt = (A.toInt.toNat : Int) := by omega
  have cA : A.toNatClampNeg = A.toInt.toNat := nx_cl hAa
  have ha : ((A.toInt.toNat : Nat) : Int) < (s.2.2.1 0 10).toInt := by omega
  rw [cA] at hq
  refine nx_s (nx_s (nx_s ?_))
  refine br_R _ _ K (fun hK => ?_) (fun hK => ?_)
  · refine nx_s ?_
    refine nk_br.f (by decide) ?_
    have hVN := hV hK
    have eV : (V.toNatClampNeg : Int) = V.toInt := by
      have : V.toInt.toNat = V.toNatClampNeg := Int32.toNat_toInt V
      omega
    have pB := (hP V.toNatClampNeg (by omega)).1
    have zB : s.1 10 V.toNatClampNeg = z.1 V.toNatClampNeg := (hz.2 V.toNatClampNeg (by omega)).1
    refine nx_s (nx_s (nx_s (nx_s ?_)))
    refine ⟨nx_in (n := 16) (by omega) (by omega), ?_⟩
    show nk_wp kx_X6_makes kc_X6_makes Q 21 [some (.ref 0), some (.int K), some (.int OF), some (.int V), some (.int MK), some (.int W), some (.int KN), some (.int A)] [.int (s.1 10 V.toNatClampNeg)] (nx_enc s 0 shR) 0 0
    rw [← zB] at hq
    generalize hB : s.1 10 V.toNatClampNeg = B at pB hq ⊢
    have hBb : B.toInt = (B.toInt.toNat : Int) := by omega
    have cB : B.toNatClampNeg = B.toInt.toNat := nx_cl hBb
    rw [cB] at hq
    refine nx_s (nx_s ?_)
    refine nk_br.mk (fun he => ?_) (fun hne => ?_)
    · have he : B = A := he
      have hc : ¬ ((K = 2 ∨ K = 3 ∨ K = 5) ∧ ¬ B = A) := fun h => h.2 he
      rw [if_neg hc] at hq
      exact mk_R42 Q s z l A.toInt.toNat K OF V MK W KN A law hK0 hK1 hlaw hInv hl hP hz hAa ha hV6 hW0 hW1 hq
    have hne : ¬ B = A := hne
    have hc : (K = 2 ∨ K = 3 ∨ K = 5) ∧ ¬ B = A := ⟨hK, hne⟩
    rw [if_pos hc] at hq
    have hab : A.toInt.toNat ≠ B.toInt.toNat := fun e => hne (Int32.toInt_inj.mp (show B.toInt = A.toInt by omega))
    refine nx_s (nx_s (nx_s (nx_s (nx_s (nx_s (nx_s ?_))))))
    refine ⟨nx_in (n := 16) (by omega) (by omega), ?_⟩
    show nk_wp kx_X6_makes kc_X6_makes Q 36 [some (.ref 0), some (.int K), some (.int OF), some (.int V), some (.int MK), some (.int W), some (.int KN), some (.int A)] [.int (s.1 10 V.toNatClampNeg), .int A, .int K, .ref 0] (nx_enc s 0 shR) 0 0
    rw [hB]
    refine nx_s (nx_s ?_)
    refine cm_Rx _ s z l A.toInt.toNat B.toInt.toNat K A B W law hK hlaw hInv hl hP hz hAa hBb hab ha (by omega) hW0 hW1 (fun s3 h1 h2 h3 => ?_)
    refine nx_s ?_
    exact hq s3 h1 h2 h3
  · refine nx_s ?_
    refine nk_br.t (by decide) ?_
    have hc : ¬ ((K = 2 ∨ K = 3 ∨ K = 5) ∧ ¬ z.1 V.toNatClampNeg = A) := fun h => hK h.1
    rw [if_neg hc] at hq
    exact mk_R42 Q s z l A.toInt.toNat K OF V MK W KN A law hK0 hK1 hlaw hInv hl hP hz hAa ha hV6 hW0 hW1 hq
noncomputable def cz_does (mk : Nat → Int32) (law an : Int32) (m : Nat) (z : cz) : cz := cz_make law (mk (7 * m + 0)) (mk (7 * m + 1)) (mk (7 * m + 2)) (mk (7 * m + 3)) (mk (7 * m + 4)) (cz_kn an (mk (7 * m + 5))) z
set_option maxRecDepth 100000 in
set_option maxHeartbeats 4000000 in
theorem ds_Rx (Q : nk_Q) (s : nx_S) (z : cz) (l : Nat) (M law an : Int32) (hInv : nx_Inv gR s) (hl : l ≤ 12) (hP : PXR l s) (hz : cz_ag s z) (hla : bx_L law an s) (hM0 : 0 ≤ M.toInt) (hM1 : M.toInt ≤ 11) (hN1 : (s.2.2.1 0 10).toInt ≠ 0) (hq : ∀ s3 : nx_S, nR_f2 s s3 → PXR (l + 1) s3 → cz_ag s3 (cz_does (s.1 8) law an M.toNatClampNeg z) → Q none (nx_enc s3 0 shR)) : ev_X6_does [.ref 0, .int M] (nx_enc s 0 shR) Q := by
  have eM : M.toInt.toNat = M.toNatClampNeg := Int32.toNat_toInt M
  have pm := hInv.2.2.1 M.toNatClampNeg (by omega)
  have pe := hInv.2.2.2.2 M.toNatClampNeg (by omega)
  have c0 := pm.1 0 (by decide)
  have c1 := pm.1 1 (by decide)
  have c2 := pm.1 2 (by decide)
  have c4 := pm.1 4 (by decide)
  refine nx_s (nx_s (nx_s (nx_s (nx_s ?_))))
  refine mk_R s M 0 _ hM0 hM1 (by decide) (by decide) ?_
  refine nx_s (nx_s (nx_s (nx_s ?_)))
  refine mk_R s M 1 _ hM0 hM1 (by decide) (by decide) ?_
  refine nx_s (nx_s (nx_s (nx_s ?_)))
  refine mk_R s M 2 _ hM0 hM1 (by decide) (by decide) ?_
  refine nx_s (nx_s (nx_s (nx_s ?_)))
  refine mk_R s M 3 _ hM0 hM1 (by decide) (by decide) ?_
  refine nx_s (nx_s (nx_s (nx_s ?_)))
  refine mk_R s M 4 _ hM0 hM1 (by decide) (by decide) ?_
  refine nx_s (nx_s (nx_s (nx_s (nx_s ?_))))
  refine mk_R s M 5 _ hM0 hM1 (by decide) (by decide) ?_
  refine nx_s ?_
  refine kn_Rx _ s _ an hla.2 ?_
  refine nx_s ?_
  show ev_X6_makes [.ref 0, .int (s.1 8 (7 * M.toNatClampNeg + 0)), .int (s.1 8 (7 * M.toNatClampNeg + 1)), .int (s.1 8 (7 * M.toNatClampNeg + 2)), .int (s.1 8 (7 * M.toNatClampNeg + 3)), .int (s.1 8 (7 * M.toNatClampNeg + 4)), .int (cz_kn an (s.1 8 (7 * M.toNatClampNeg + 5)))] (nx_enc s 0 shR) (fun v h' => nk_ret v [] (fun T => nk_wp kx_X6_does kc_X6_does Q 44 [some (.ref 0), some (.int M)] T h' 0 0))
  have d0 : (nx_co 0).1 = 0 ∧ (nx_co 0).2 = 6 := ⟨rfl, rfl⟩
  have d1 : (nx_co 1).1 = 0 ∧ (nx_co 1).2 = 15 := ⟨rfl, rfl⟩
  have d2 : (nx_co 2).1 = 0 ∧ (nx_co 2).2 = 99 := ⟨rfl, rfl⟩
  have d4 : (nx_co 4).1 = 0 ∧ (nx_co 4).2 = 99 := ⟨rfl, rfl⟩
  rw [d0.1, d0.2] at c0
  rw [d1.1, d1.2] at c1
  rw [d2.1, d2.2] at c2
  rw [d4.1, d4.2] at c4
  have c0 : 0 ≤ (s.1 8 (7 * M.toNatClampNeg + 0)).toInt ∧ (s.1 8 (7 * M.toNatClampNeg + 0)).toInt ≤ 6 := c0
  have c1 : 0 ≤ (s.1 8 (7 * M.toNatClampNeg + 1)).toInt ∧ (s.1 8 (7 * M.toNatClampNeg + 1)).toInt ≤ 15 := c1
  have c2 : 0 ≤ (s.1 8 (7 * M.toNatClampNeg + 2)).toInt ∧ (s.1 8 (7 * M.toNatClampNeg + 2)).toInt ≤ 99 := c2
  have c4 : 0 ≤ (s.1 8 (7 * M.toNatClampNeg + 4)).toInt ∧ (s.1 8 (7 * M.toNatClampNeg + 4)).toInt ≤ 99 := c4
  have hN0 : 0 ≤ (s.2.2.1 0 10).toInt := (hInv.1 2 (0, 10) (0, 16) rfl rfl).1
  have hO : (s.1 8 (7 * M.toNatClampNeg + 1)).toInt < (s.2.2.1 0 10).toInt := by
    rcases pe with h | h
    · omega
    · exact h.1
  refine mk_Rx _ s z l _ _ _ _ _ _ law c0.1 c0.2 hla.1 hInv hl hP hz c1.1 hO c2.1 (fun hK => ?_) (fun _ => c2) c4.1 c4.2 (fun s3 h3 h4 h5 => ?_)
  · have e2 : (2 : Int32).toInt = 2 := rfl
    have e3 : (3 : Int32).toInt = 3 := rfl
    have e5 : (5 : Int32).toInt = 5 := rfl
    rcases pe with h | h
    · have := h.1
      rcases hK with e | e | e
      · rw [e] at this; omega
      · rw [e] at this; omega
      · rw [e] at this; omega
    · rcases h.2 with h | h
      · exact h
      · rcases hK with e | e | e
        · rw [e] at h; omega
        · rw [e] at h; omega
        · rw [e] at h; omega
  · refine nx_s ?_
    exact hq s3 h3 h4 h5
/-- the course behind some MAKINGS, but for one -/
noncomputable def cz_goes (mk : Nat → Int32) (law an : Int32) (wo : Int) (z : cz) : Nat → cz
  | 0 => z
  | m + 1 => if (m : Int) = wo then cz_goes mk law an wo z m else cz_does mk law an m (cz_goes mk law an wo z m)
theorem bx_tr {s s1 : nx_S} {law an : Int32} (h : bx_L law an s) (f : nR_f2 s s1) : bx_L law an s1 := ⟨f.2.1.trans h.1, f.2.2.trans h.2⟩
set_option maxRecDepth 100000 in
set_option maxHeartbeats 4000000 in
theorem gs_loopx (Q : nk_Q) (s : nx_S) (law an T W : Int32) (t : Nat) (hT : T.toInt = t) (ht : t ≤ 12) (hInv : nx_Inv gR s) (hN1 : (s.2.2.1 0 10).toInt ≠ 0) (hq : ∀ (s1 : nx_S) (r : Int32), nR_fr s s1 → PXR t s1 → cz_ag s1 (cz_goes (s.1 8) law an W.toInt (cz_beg (s.1 7)) t) → bx_L law an s1 → ((r = 0 ∧ s1.2.2.1 0 22 ≠ 0) ∨ (r = 1 ∧ s1.2.2.1 0 22 = 0)) → Q (some (.int r)) (nx_enc s1 0 shR)) : ∀ (n i : Nat) (I : Int32) (s1 : nx_S), i + n = t → I.toInt = i → nR_fr s s1 → PXR i s1 → cz_ag s1 (cz_goes (s.1 8) law an W.toInt (cz_beg (s.1 7)) i) → bx_L law an s1 → nk_wp kx_X6_goes kc_X6_goes Q 9 [some (.ref 0), some (.int law), some (.int an), some (.int T), some (.int W), some (.int I)] [] (nx_enc s1 0 shR) 0 0 := by
  have h1 : (1 : Int32).toInt = 1 := rfl
  intro n
  induction n with
  | zero =>
    intro i I s1 hi hI hf hp hz hla
    have e : i = t := by omega
    subst e
    refine nx_s (nx_s (nx_s ?_))
    refine nk_br.t (i_le (by omega)) ?_
    refine nx_s (nx_s (nx_s ?_))
    refine nk_br.mk (fun h22 => ?_) (fun h22 => ?_)
    · refine nx_s (nx_s (nx_s ?_))
      refine nk_bo1 ?_
      exact hq s1 1 hf hp hz hla (Or.inr ⟨rfl, h22⟩)
    · refine nx_s (nx_s ?_)
      refine nk_bo0 ?_
      exact hq s1 0 hf hp hz hla (Or.inl ⟨rfl, h22⟩)
  | succ n ih =>
    intro i I s1 hi hI hf hp hz hla
    have e1 : (I + 1).toInt = ((i + 1 : Nat) : Int) := by
      rw [i_add (by omega) (by omega)]
      omega
    have eI : I.toNatClampNeg = i := nx_cl hI
    have q8 : s1.1 8 = s.1 8 := hf.1 8 (by decide) (by decide) (by decide) (by decide)
    have eN : s1.2.2.1 0 10 = s.2.2.1 0 10 := hf.2.1 10 (by decide) (by decide) (by decide)
    refine nx_s (nx_s (nx_s ?_))
    refine nk_br.f (i_nle (by omega)) ?_
    refine nx_s (nx_s (nx_s ?_))
    refine nk_br.mk (fun hc => ?_) (fun hc => ?_)
    · have hc : I = W := hc
      refine nx_s (nx_s ?_)
      refine ih (i + 1) (I + 1) s1 (by omega) e1 hf (mo_R i (i + 1) s1 (by omega) hp) ?_ hla
      show cz_ag s1 (if (i : Int) = W.toInt then _ else _)
      rw [if_pos (by rw [← hc]; exact hI.symm)]
      exact hz
    · have hc : ¬ I = W := hc
      refine nx_s (nx_s (nx_s ?_))
      refine ds_Rx _ s1 _ i I law an (nR_inv hInv hf) (by omega) hp hz hla (by omega) (by omega) (by rw [eN]; exact hN1) (fun s3 h3 h4 h5 => ?_)
      refine nx_s (nx_s ?_)
      refine ih (i + 1) (I + 1) s3 (by omega) e1 (hf.tr h3.1) h4 ?_ (bx_tr hla h3)
      show cz_ag s3 (if (i : Int) = W.toInt then _ else _)
      rw [if_neg (fun e => hc (Int32.toInt_inj.mp (hI.trans e)))]
      rw [q8, eI] at h5
      exact h5
set_option maxRecDepth 100000 in
theorem gs_Rx (Q : nk_Q) (s : nx_S) (law an T W : Int32) (hT0 : 0 ≤ T.toInt) (hT1 : T.toInt ≤ 12) (hInv : nx_Inv gR s) (hN1 : (s.2.2.1 0 10).toInt ≠ 0) (hq : ∀ (s1 : nx_S) (r : Int32), nR_fr s s1 → PXR T.toInt.toNat s1 → cz_ag s1 (cz_goes (s.1 8) law an W.toInt (cz_beg (s.1 7)) T.toInt.toNat) → bx_L law an s1 → ((r = 0 ∧ s1.2.2.1 0 22 ≠ 0) ∨ (r = 1 ∧ s1.2.2.1 0 22 = 0)) → Q (some (.int r)) (nx_enc s1 0 shR)) : ev_X6_goes [.ref 0, .int law, .int an, .int T, .int W] (nx_enc s 0 shR) Q := by
  refine nx_s (nx_s (nx_s (nx_s ?_)))
  refine bg_Rx _ s law an hInv (fun s1 f1 p1 z1 l1 => ?_)
  refine nx_s (nx_s ?_)
  exact gs_loopx Q s law an T W T.toInt.toNat (by omega) (by omega) hInv hN1 hq T.toInt.toNat 0 0 s1 (by omega) rfl f1 p1 z1 l1
