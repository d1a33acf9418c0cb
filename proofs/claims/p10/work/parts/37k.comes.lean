/-! ===== the reference's comes exactly ===== -/
noncomputable def cx_P (s : nx_S) (A B : Int32) (i : Nat) (s1 : nx_S) : Prop := (∀ k : Nat, k < i → s1.1 10 k = if s.1 10 k = B then A else s.1 10 k) ∧ ∀ k : Nat, i ≤ k → s1.1 10 k = s.1 10 k
theorem cx_st {s s1 : nx_S} {A B v : Int32} {i : Nat} (h : cx_P s A B i s1) (hv : v = if s.1 10 i = B then A else s.1 10 i) : cx_P s A B (i + 1) (nx_ui s1 10 (upd (s1.1 10) i v)) := by
  have e : (nx_ui s1 10 (upd (s1.1 10) i v)).1 10 = upd (s1.1 10) i v := rfl
  refine ⟨fun k hk => ?_, fun k hk => ?_⟩
  · rw [e]
    by_cases ek : k = i
    · rw [ek, upd_s]
      exact hv
    · rw [upd_n _ _ ek]
      exact h.1 k (by omega)
  · rw [e, upd_n _ _ (by omega)]
    exact h.2 k (by omega)
set_option maxRecDepth 100000 in
theorem cm_loopx (Q : nk_Q) (s : nx_S) (K A B W M : Int32) (hN : (s.2.2.1 0 10).toInt ≤ 16) (hq : ∀ s3 : nx_S, cl_P s A s3 → (∀ k : Nat, (k : Int) < (s.2.2.1 0 10).toInt → s3.1 10 k = if s.1 10 k = B then A else s.1 10 k) → Q none (nx_enc s3 0 shR)) : ∀ (n i : Nat) (I : Int32) (s1 : nx_S), (i : Int) + n = (s.2.2.1 0 10).toInt → I.toInt = i → cl_P s A s1 → cx_P s A B i s1 → nk_wp kx_X6_comes kc_X6_comes Q 149 [some (.ref 0), some (.int K), some (.int A), some (.int B), some (.int W), some (.int M), some (.int I)] [] (nx_enc s1 0 shR) 0 0 := by
  have h1 : (1 : Int32).toInt = 1 := rfl
  intro n
  induction n with
  | zero =>
    intro i I s1 hi hI hp hx
    have eN : s1.2.2.1 0 10 = s.2.2.1 0 10 := by rw [hp.1]
    refine nx_s (nx_s (nx_s (nx_s ?_)))
    refine nk_br.t (i_le (show (s1.2.2.1 0 10).toInt ≤ I.toInt by rw [eN]; omega)) ?_
    refine nx_s ?_
    exact hq s1 hp (fun k hk => hx.1 k (by omega))
  | succ n ih =>
    intro i I s1 hi hI hp hx
    have eN : s1.2.2.1 0 10 = s.2.2.1 0 10 := by rw [hp.1]
    have eI : I.toNatClampNeg = i := nx_cl hI
    have e1 : (I + 1).toInt = ((i + 1 : Nat) : Int) := by
      rw [i_add (by omega) (by omega)]
      omega
    have xi : s1.1 10 i = s.1 10 i := hx.2 i (Nat.le_refl i)
    refine nx_s (nx_s (nx_s (nx_s ?_)))
    refine nk_br.f (i_nle (show I.toInt < (s1.2.2.1 0 10).toInt by rw [eN]; omega)) ?_
    refine nx_s (nx_s (nx_s (nx_s (nx_s (nx_s (nx_s ?_))))))
    refine ⟨nx_in (n := 16) (by omega) (by omega), ?_⟩
    refine nx_s (nx_s ?_)
    refine nk_br.mk (fun hc => ?_) (fun hc => ?_)
    · have hc : s1.1 10 I.toNatClampNeg = B := hc
      rw [eI, xi] at hc
      refine nx_s (nx_s (nx_s ?_))
      refine ⟨nx_in (n := 16) (by omega) (by omega), ?_⟩
      refine nx_s (nx_s ?_)
      rw [eI]
      exact ih (i + 1) (I + 1) _ (by omega) e1 (cl_st hp (Or.inr rfl)) (cx_st hx (by rw [if_pos hc]))
    · have hc : ¬ s1.1 10 I.toNatClampNeg = B := hc
      rw [eI, xi] at hc
      refine nx_s (nx_s (nx_s (nx_s ?_)))
      refine ⟨nx_in (n := 16) (by omega) (by omega), ?_⟩
      refine nx_s ?_
      refine ⟨nx_in (n := 16) (by omega) (by omega), ?_⟩
      refine nx_s (nx_s ?_)
      rw [eI]
      exact ih (i + 1) (I + 1) _ (by omega) e1 (cl_st hp (Or.inl rfl)) (cx_st hx (by rw [if_neg hc]; exact xi))
/-- one thing comes to another: WORTHS, AMOUNTS, who is within -/
noncomputable def cz_cm (K A B W : Int32) (a b : Nat) (z : cz) : cz := (fun k => if z.1 k = B then A else z.1 k, z.2.1, upd z.2.2.1 a (z.2.2.1 a + (z.2.2.1 b + W)), upd z.2.2.2.1 a (z.2.2.2.1 a + if K = 3 then z.2.2.2.1 b else 0), z.2.2.2.2)
theorem cz_cmag {s1 s3 : nx_S} {z : cz} {K A B W C : Int32} {a b : Nat} (hz : cz_ag s1 z) (ha : (a : Int) < (s1.2.2.1 0 10).toInt) (hb : (b : Int) < (s1.2.2.1 0 10).toInt) (hC : C = if K = 3 then s1.1 13 b else 0)
    (i10 : ∀ k : Nat, (k : Int) < (s1.2.2.1 0 10).toInt → s3.1 10 k = if s1.1 10 k = B then A else s1.1 10 k) (i11 : s3.1 11 = s1.1 11) (i12 : s3.1 12 = upd (s1.1 12) a (s1.1 12 a + (s1.1 12 b + W))) (i13 : s3.1 13 = upd (s1.1 13) a (s1.1 13 a + C)) (e2 : s3.2 = s1.2) : cz_ag s3 (cz_cm K A B W a b z) := by
  obtain ⟨hzf, hzk⟩ := hz
  have za := hzk a ha
  have zb := hzk b hb
  unfold cz_ag
  rw [e2]
  refine ⟨hzf, fun k hk => ?_⟩
  have zk := hzk k hk
  refine ⟨?_, ?_, ?_, ?_, zk.2.2.2.2.1, zk.2.2.2.2.2⟩
  · show s3.1 10 k = if z.1 k = B then A else z.1 k
    rw [i10 k hk, zk.1]
  · rw [i11]
    exact zk.2.1
  · show s3.1 12 k = upd z.2.2.1 a (z.2.2.1 a + (z.2.2.1 b + W)) k
    rw [i12, ← za.2.2.1, ← zb.2.2.1]
    by_cases ek : k = a
    · rw [ek, upd_s, upd_s]
    · rw [upd_n _ _ ek, upd_n _ _ ek]
      exact zk.2.2.1
  · show s3.1 13 k = upd z.2.2.2.1 a (z.2.2.2.1 a + if K = 3 then z.2.2.2.1 b else 0) k
    rw [i13, hC, ← za.2.2.2.1, ← zb.2.2.2.1]
    by_cases ek : k = a
    · rw [ek, upd_s, upd_s]
    · rw [upd_n _ _ ek, upd_n _ _ ek]
      exact zk.2.2.2.1
set_option maxRecDepth 100000 in
set_option maxHeartbeats 4000000 in
theorem cm_tailx (Q : nk_Q) (s s1 : nx_S) (z1 : cz) (l a b : Nat) (K A B W M : Int32) (o : Option Value) (hInv : nx_Inv gR s) (hl : l ≤ 12) (hP : PXR l s) (hA : A.toInt = a) (hB : B.toInt = b) (ha : (a : Int) < (s.2.2.1 0 10).toInt) (hb : (b : Int) < (s.2.2.1 0 10).toInt) (hW0 : 0 ≤ W.toInt) (hW1 : W.toInt ≤ 99) (m : mx_P s a s1) (hz : cz_ag s1 z1) (hq : ∀ s3 : nx_S, nR_f2 s s3 → PXR (l + 1) s3 → cz_ag s3 (cz_cm K A B W a b z1) → Q none (nx_enc s3 0 shR)) : nk_wp kx_X6_comes kc_X6_comes Q 104 [some (.ref 0), some (.int K), some (.int A), some (.int B), some (.int W), some (.int M), o] [] (nx_enc s1 0 shR) 0 0 := by
  have hN := (hInv.1 2 (0, 10) (0, 16) rfl rfl).2
  have hN : (s.2.2.1 0 10).toInt ≤ 16 := hN
  have eA : A.toNatClampNeg = a := nx_cl hA
  have eB : B.toNatClampNeg = b := nx_cl hB
  have pa := hP a ha
  have pb := hP b hb
  have hb13 := nR_B13 hl
  have hb2 := nR_B2 l
  have i10 : s1.1 10 = s.1 10 := m.1 10 (by decide)
  have i12 : s1.1 12 = s.1 12 := m.1 12 (by decide)
  have i13 : s1.1 13 = s.1 13 := m.1 13 (by decide)
  have g10 : s1.2.2.1 0 10 = s.2.2.1 0 10 := m.2.1 10 (by decide)
  refine nx_s (nx_s (nx_s (nx_s (nx_s ?_))))
  refine ⟨nx_in (n := 16) (by omega) (by omega), ?_⟩
  refine nx_s (nx_s (nx_s (nx_s ?_)))
  refine ⟨nx_in (n := 16) (by omega) (by omega), ?_⟩
  refine nx_s (nx_s (nx_s (nx_s ?_)))
  refine ⟨nx_in (n := 16) (by omega) (by omega), ?_⟩
  rw [eA, eB, i12]
  have wE : (s.1 12 a + (s.1 12 b + W)).toInt = (s.1 12 a).toInt + ((s.1 12 b).toInt + W.toInt) := by
    have e1 : (s.1 12 b + W).toInt = (s.1 12 b).toInt + W.toInt := i_add (by omega) (by omega)
    rw [i_add (by omega) (by omega), e1]
  refine nx_s (nx_s (nx_s (nx_s (nx_s ?_))))
  refine ⟨nx_in (n := 16) (by omega) (by omega), ?_⟩
  refine nx_s (nx_s (nx_s ?_))
  have last : ∀ C D : Int32, C = s1.1 13 a + D → (D = if K = 3 then s1.1 13 b else 0) → 1 ≤ C.toInt → C.toInt ≤ nR_B (l + 1) → nk_wp kx_X6_comes kc_X6_comes Q 149 [some (.ref 0), some (.int K), some (.int A), some (.int B), some (.int W), some (.int M), some (.int 0)] [] (nx_enc (nx_ui (nx_ui s1 12 (upd (s.1 12) a (s.1 12 a + (s.1 12 b + W)))) 13 (upd (s1.1 13) a C)) 0 shR) 0 0 := by
    intro C D hCD hD hC1 hC2
    have f10 : (nx_ui (nx_ui s1 12 (upd (s.1 12) a (s.1 12 a + (s.1 12 b + W)))) 13 (upd (s1.1 13) a C)).2.2.1 0 10 = s.2.2.1 0 10 := m.2.1 10 (by decide)
    refine cm_loopx Q _ K A B W M (by rw [f10]; exact hN) (fun s3 h3 hx3 => ?_) (s.2.2.1 0 10).toInt.toNat 0 0 _ (by rw [f10]; omega) rfl ⟨rfl, fun _ _ => rfl, fun _ => Or.inl rfl⟩ ⟨fun k hk => absurd hk (Nat.not_lt_zero k), fun _ _ => rfl⟩
    have := cm_px hP hA ha hN hInv m (W := s.1 12 a + (s.1 12 b + W)) (C := C) ⟨by omega, by omega⟩ ⟨hC1, hC2⟩ (s3 := s3) (fun k => by
      have h4 := h3.2.2 k
      rw [show (nx_ui (nx_ui s1 12 (upd (s.1 12) a (s.1 12 a + (s.1 12 b + W)))) 13 (upd (s1.1 13) a C)).1 10 = s.1 10 from i10] at h4
      exact h4) (h3.2.1 12 (by decide)) (by rw [h3.2.1 13 (by decide), ← i13]; rfl) h3.1 (fun q h10 h11 h12 h13 => by
      rw [h3.2.1 q h10]
      show (if q = 13 then _ else if q = 12 then _ else s1.1 q) = s1.1 q
      rw [if_neg h13, if_neg h12])
    refine hq s3 this.1 this.2 (cz_cmag (C := D) hz (by rw [g10]; exact ha) (by rw [g10]; exact hb) hD (fun k hk => ?_) ?_ ?_ ?_ h3.1)
    · rw [g10] at hk
      have := hx3 k (by rw [f10]; exact hk)
      exact this
    · rw [h3.2.1 11 (by decide)]
      rfl
    · rw [h3.2.1 12 (by decide), i12]
      rfl
    · rw [h3.2.1 13 (by decide), ← hCD]
      rfl
  refine nk_br.mk (fun hK => ?_) (fun hK => ?_)
  · refine nx_s (nx_s (nx_s (nx_s ?_)))
    refine ⟨nx_in (n := 16) (by omega) (by omega), ?_⟩
    refine nx_s (nx_s (nx_s ?_))
    refine ⟨nx_in (n := 16) (by omega) (by omega), ?_⟩
    refine nx_s (nx_s ?_)
    rw [eA, eB]
    have cE : (s1.1 13 a + s1.1 13 b).toInt = (s1.1 13 a).toInt + (s1.1 13 b).toInt := by
      rw [i13]
      exact i_add (by omega) (by omega)
    rw [i13] at cE
    have hK : K = 3 := hK
    refine last (s1.1 13 a + s1.1 13 b) (s1.1 13 b) rfl (by rw [if_pos hK]) (by rw [i13]; omega) (by rw [i13]; omega)
  · refine nx_s (nx_s (nx_s ?_))
    refine ⟨nx_in (n := 16) (by omega) (by omega), ?_⟩
    refine nx_s (nx_s ?_)
    rw [eA]
    have cE : (s1.1 13 a + 0).toInt = (s1.1 13 a).toInt + 0 := by
      rw [i13]
      exact i_add (by rw [show (0 : Int32).toInt = 0 from rfl]; omega) (by rw [show (0 : Int32).toInt = 0 from rfl]; omega)
    rw [i13] at cE
    have hK : ¬ K = 3 := hK
    refine last (s1.1 13 a + 0) 0 rfl (by rw [if_neg hK]) (by rw [i13]; omega) (by rw [i13]; omega)
theorem mx_Wx (Q : nk_Q) (s : nx_S) (z : cz) (l a b : Nat) (A B : Int32) (hInv : nx_Inv gR s) (hl : l ≤ 12) (hP : PXR l s) (hz : cz_ag s z) (hA : A.toInt = a) (hB : B.toInt = b) (hab : a ≠ b) (ha : (a : Int) < (s.2.2.1 0 10).toInt) (hb : (b : Int) < (s.2.2.1 0 10).toInt) (q : Nat) (f : Nat → Int32) (hqq : (q = 12 ∧ f = z.2.2.1) ∨ (q = 13 ∧ f = z.2.2.2.1)) (hq : ∀ s1 : nx_S, mx_P s a s1 → cz_ag s1 (cz_mix a b (f a).toInt.toNat (f b).toInt.toNat z) → Q none (nx_enc s1 0 shR)) : ev_X6_mixes [.ref 0, .int A, .int B, .int (s.1 q A.toNatClampNeg), .int (s.1 q B.toNatClampNeg)] (nx_enc s 0 shR) Q := by
  have hN : (s.2.2.1 0 10).toInt ≤ 16 := (hInv.1 2 (0, 10) (0, 16) rfl rfl).2
  have pa := hP a ha
  have pb := hP b hb
  have za := hz.2 a ha
  have zb := hz.2 b hb
  have hb13 := nR_B13 hl
  rw [nx_cl hA, nx_cl hB]
  have key : ∀ (x y : Int32), f a = x → f b = y → 1 ≤ x.toInt → x.toInt ≤ nR_B l → 1 ≤ y.toInt → y.toInt ≤ nR_B l → ev_X6_mixes [.ref 0, .int A, .int B, .int x, .int y] (nx_enc s 0 shR) Q := fun x y f1 f2 h1 h2 h3 h4 => mx_Rx Q s A B x y a b x.toInt.toNat y.toInt.toNat hA hB (by omega) (by omega) hab (by omega) (by omega) (nR_22 hInv) (nR_t hP hN ha) (nR_t hP hN hb) pa.2.2.2.1 (by omega) (by omega) (by omega) (fun s1 m e => hq s1 m (by rw [f1, f2]; exact cz_mxag ha hb hz m e))
  rcases hqq with ⟨e, ef⟩ | ⟨e, ef⟩
  · rw [e]
    exact key _ _ (by rw [ef]; exact za.2.2.1.symm) (by rw [ef]; exact zb.2.2.1.symm) pa.2.1.1 pa.2.1.2 pb.2.1.1 pb.2.1.2
  · rw [e]
    exact key _ _ (by rw [ef]; exact za.2.2.2.1.symm) (by rw [ef]; exact zb.2.2.2.1.symm) pa.2.2.1.1 pa.2.2.1.2 pb.2.2.1.1 pb.2.2.1.2
/-- a figure of a law -/
noncomputable def cz_fg (law t : Int32) : Int32 := law / t - law / t / 10 * 10
noncomputable def cz_come (law K A B W : Int32) (a b : Nat) (z : cz) : cz := cz_cm K A B W a b (if (K = 2 ∧ cz_fg law 1000 = 2) ∨ (K = 3 ∧ cz_fg law 100 = 2) then cz_mix a b (z.2.2.1 a).toInt.toNat (z.2.2.1 b).toInt.toNat z else if K = 3 then cz_mix a b (z.2.2.2.1 a).toInt.toNat (z.2.2.2.1 b).toInt.toNat z else z)
set_option maxRecDepth 100000 in
set_option maxHeartbeats 8000000 in
theorem cm_Rx (Q : nk_Q) (s : nx_S) (z : cz) (l a b : Nat) (K A B W law : Int32) (hK : K = 2 ∨ K = 3 ∨ K = 5) (hlaw : s.2.2.1 0 23 = law) (hInv : nx_Inv gR s) (hl : l ≤ 12) (hP : PXR l s) (hz : cz_ag s z) (hA : A.toInt = a) (hB : B.toInt = b) (hab : a ≠ b) (ha : (a : Int) < (s.2.2.1 0 10).toInt) (hb : (b : Int) < (s.2.2.1 0 10).toInt) (hW0 : 0 ≤ W.toInt) (hW1 : W.toInt ≤ 99) (hq : ∀ s3 : nx_S, nR_f2 s s3 → PXR (l + 1) s3 → cz_ag s3 (cz_come law K A B W a b z) → Q none (nx_enc s3 0 shR)) : ev_X6_comes [.ref 0, .int K, .int A, .int B, .int W] (nx_enc s 0 shR) Q := by
  have hN : (s.2.2.1 0 10).toInt ≤ 16 := (hInv.1 2 (0, 10) (0, 16) rfl rfl).2
  have m0 := mx_rf hP ha hInv
  unfold cz_come at hq
  subst hlaw
  rcases hK with rfl | rfl | rfl
  · refine nx_s (nx_s (nx_s ?_))
    refine nk_br.t (by decide) ?_
    refine nx_s (nx_s (nx_s (nx_s ?_)))
    refine nx_s (nx_s (nx_s ?_))
    refine ⟨by decide, ?_⟩
    refine nx_s (nx_s ?_)
    refine ⟨by decide, ?_⟩
    refine nx_s ?_
    refine nx_s (nx_s (nx_s (nx_s (nx_s ?_))))
    refine nk_br.t (by decide) ?_
    refine nx_s (nx_s (nx_s ?_))
    refine nk_br.mk (fun hL => ?_) (fun hL => ?_)
    · have hL : cz_fg (s.2.2.1 0 23) 1000 = 2 := hL
      have hc : (((2 : Int32) = 2 ∧ cz_fg (s.2.2.1 0 23) 1000 = 2) ∨ ((2 : Int32) = 3 ∧ cz_fg (s.2.2.1 0 23) 100 = 2)) := Or.inl ⟨rfl, hL⟩
      rw [if_pos hc] at hq
      refine nx_s (nx_s (nx_s (nx_s (nx_s (nx_s (nx_s ?_))))))
      refine ⟨nx_in (n := 16) (by omega) (by omega), ?_⟩
      refine nx_s (nx_s (nx_s (nx_s ?_)))
      refine ⟨nx_in (n := 16) (by omega) (by omega), ?_⟩
      refine nx_s ?_
      refine mx_Wx _ s z l a b A B hInv hl hP hz hA hB hab ha hb 12 z.2.2.1 (Or.inl ⟨rfl, rfl⟩) (fun s1 m1 z1 => ?_)
      refine nx_s ?_
      exact cm_tailx Q s s1 _ l a b _ A B W _ _ hInv hl hP hA hB ha hb hW0 hW1 m1 z1 hq
    · have hL : ¬ cz_fg (s.2.2.1 0 23) 1000 = 2 := hL
      have hc : ¬ (((2 : Int32) = 2 ∧ cz_fg (s.2.2.1 0 23) 1000 = 2) ∨ ((2 : Int32) = 3 ∧ cz_fg (s.2.2.1 0 23) 100 = 2)) := fun h => h.elim (fun h => hL h.2) (fun h => absurd h.1 (by decide))
      have hd : ¬ ((2 : Int32) = 3) := by decide
      rw [if_neg hc, if_neg hd] at hq
      refine nx_s (nx_s (nx_s ?_))
      refine nk_br.f (by decide) ?_
      refine nx_s (nx_s (nx_s ?_))
      refine nk_br.f (by decide) ?_
      exact cm_tailx Q s s _ l a b _ A B W _ _ hInv hl hP hA hB ha hb hW0 hW1 m0 hz hq
  · refine nx_s (nx_s (nx_s ?_))
    refine nk_br.f (by decide) ?_
    refine nx_s (nx_s (nx_s ?_))
    refine nk_br.t (by decide) ?_
    refine nx_s (nx_s (nx_s (nx_s ?_)))
    refine nx_s (nx_s (nx_s ?_))
    refine ⟨by decide, ?_⟩
    refine nx_s (nx_s ?_)
    refine ⟨by decide, ?_⟩
    refine nx_s ?_
    refine nx_s (nx_s (nx_s (nx_s (nx_s ?_))))
    refine nk_br.f (by decide) ?_
    refine nx_s (nx_s (nx_s ?_))
    refine nk_br.t (by decide) ?_
    refine nx_s (nx_s (nx_s ?_))
    refine nk_br.mk (fun hL => ?_) (fun hL => ?_)
    · have hL : cz_fg (s.2.2.1 0 23) 100 = 2 := hL
      have hc : (((3 : Int32) = 2 ∧ cz_fg (s.2.2.1 0 23) 1000 = 2) ∨ ((3 : Int32) = 3 ∧ cz_fg (s.2.2.1 0 23) 100 = 2)) := Or.inr ⟨rfl, hL⟩
      rw [if_pos hc] at hq
      refine nx_s (nx_s (nx_s (nx_s (nx_s (nx_s (nx_s ?_))))))
      refine ⟨nx_in (n := 16) (by omega) (by omega), ?_⟩
      refine nx_s (nx_s (nx_s (nx_s ?_)))
      refine ⟨nx_in (n := 16) (by omega) (by omega), ?_⟩
      refine nx_s ?_
      refine mx_Wx _ s z l a b A B hInv hl hP hz hA hB hab ha hb 12 z.2.2.1 (Or.inl ⟨rfl, rfl⟩) (fun s1 m1 z1 => ?_)
      refine nx_s ?_
      exact cm_tailx Q s s1 _ l a b _ A B W _ _ hInv hl hP hA hB ha hb hW0 hW1 m1 z1 hq
    · have hL : ¬ cz_fg (s.2.2.1 0 23) 100 = 2 := hL
      have hc : ¬ (((3 : Int32) = 2 ∧ cz_fg (s.2.2.1 0 23) 1000 = 2) ∨ ((3 : Int32) = 3 ∧ cz_fg (s.2.2.1 0 23) 100 = 2)) := fun h => h.elim (fun h => absurd h.1 (by decide)) (fun h => hL h.2)
      have hd : (3 : Int32) = 3 := rfl
      rw [if_neg hc, if_pos hd] at hq
      refine nx_s (nx_s (nx_s ?_))
      refine nk_br.t (by decide) ?_
      refine nx_s (nx_s (nx_s (nx_s (nx_s (nx_s (nx_s ?_))))))
      refine ⟨nx_in (n := 16) (by omega) (by omega), ?_⟩
      refine nx_s (nx_s (nx_s (nx_s ?_)))
      refine ⟨nx_in (n := 16) (by omega) (by omega), ?_⟩
      refine nx_s ?_
      refine mx_Wx _ s z l a b A B hInv hl hP hz hA hB hab ha hb 13 z.2.2.2.1 (Or.inr ⟨rfl, rfl⟩) (fun s1 m1 z1 => ?_)
      exact cm_tailx Q s s1 _ l a b _ A B W _ _ hInv hl hP hA hB ha hb hW0 hW1 m1 z1 hq
  · have hc : ¬ (((5 : Int32) = 2 ∧ cz_fg (s.2.2.1 0 23) 1000 = 2) ∨ ((5 : Int32) = 3 ∧ cz_fg (s.2.2.1 0 23) 100 = 2)) := fun h => h.elim (fun h => absurd h.1 (by decide)) (fun h => absurd h.1 (by decide))
    have hd : ¬ ((5 : Int32) = 3) := by decide
    rw [if_neg hc, if_neg hd] at hq
    refine nx_s (nx_s (nx_s ?_))
    refine nk_br.f (by decide) ?_
    refine nx_s (nx_s (nx_s ?_))
    refine nk_br.f (by decide) ?_
    refine nx_s (nx_s ?_)
    refine nx_s (nx_s (nx_s ?_))
    refine nk_br.f (by decide) ?_
    refine nx_s (nx_s (nx_s ?_))
    refine nk_br.f (by decide) ?_
    refine nx_s (nx_s (nx_s ?_))
    refine nk_br.f (by decide) ?_
    exact cm_tailx Q s s _ l a b _ A B W _ _ hInv hl hP hA hB ha hb hW0 hW1 m0 hz hq
