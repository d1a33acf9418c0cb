/-! ===== the reference's comes, makes, does, goes ===== -/
noncomputable def nR_f2 (s s1 : nx_S) : Prop := nR_fr s s1 ∧ s1.2.2.1 0 23 = s.2.2.1 0 23 ∧ s1.2.2.1 0 24 = s.2.2.1 0 24
noncomputable def cl_P (s : nx_S) (A : Int32) (s1 : nx_S) : Prop := s1.2 = s.2 ∧ (∀ q : Nat, q ≠ 10 → s1.1 q = s.1 q) ∧ ∀ k : Nat, s1.1 10 k = s.1 10 k ∨ s1.1 10 k = A
theorem cl_st {s s1 : nx_S} {A v : Int32} {i : Nat} (h : cl_P s A s1) (hv : v = s1.1 10 i ∨ v = A) : cl_P s A (nx_ui s1 10 (upd (s1.1 10) i v)) := by
  refine ⟨h.1, fun q hq => ?_, fun k => ?_⟩
  · show (if q = 10 then _ else s1.1 q) = s.1 q
    rw [if_neg hq]
    exact h.2.1 q hq
  · show upd (s1.1 10) i v k = s.1 10 k ∨ upd (s1.1 10) i v k = A
    by_cases e : k = i
    · rw [e, upd_s]
      rcases hv with hv | hv
      · rw [hv]
        exact h.2.2 i
      · exact Or.inr hv
    · rw [upd_n _ _ e]
      exact h.2.2 k
set_option maxRecDepth 100000 in
theorem cm_loop (Q : nk_Q) (s : nx_S) (K A B W M : Int32) (hN : (s.2.2.1 0 10).toInt ≤ 16) (hq : ∀ s3 : nx_S, cl_P s A s3 → Q none (nx_enc s3 0 shR)) : ∀ (n i : Nat) (I : Int32) (s1 : nx_S), (i : Int) + n = (s.2.2.1 0 10).toInt → I.toInt = i → cl_P s A s1 → nk_wp kx_X6_comes kc_X6_comes Q 149 [some (.ref 0), some (.int K), some (.int A), some (.int B), some (.int W), some (.int M), some (.int I)] [] (nx_enc s1 0 shR) 0 0 := by
  have h1 : (1 : Int32).toInt = 1 := rfl
  intro n
  induction n with
  | zero =>
    intro i I s1 hi hI hp
    have eN : s1.2.2.1 0 10 = s.2.2.1 0 10 := by rw [hp.1]
    refine nx_s (nx_s (nx_s (nx_s ?_)))
    refine nk_br.t (i_le (show (s1.2.2.1 0 10).toInt ≤ I.toInt by rw [eN]; omega)) ?_
    refine nx_s ?_
    exact hq s1 hp
  | succ n ih =>
    intro i I s1 hi hI hp
    have eN : s1.2.2.1 0 10 = s.2.2.1 0 10 := by rw [hp.1]
    have eI : I.toNatClampNeg = i := nx_cl hI
    have e1 : (I + 1).toInt = ((i + 1 : Nat) : Int) := by
      rw [i_add (by omega) (by omega)]
      omega
    refine nx_s (nx_s (nx_s (nx_s ?_)))
    refine nk_br.f (i_nle (show I.toInt < (s1.2.2.1 0 10).toInt by rw [eN]; omega)) ?_
    refine nx_s (nx_s (nx_s (nx_s (nx_s (nx_s (nx_s ?_))))))
    refine ⟨nx_in (n := 16) (by omega) (by omega), ?_⟩
    refine nx_s (nx_s ?_)
    refine nk_br.mk (fun _ => ?_) (fun _ => ?_)
    · refine nx_s (nx_s (nx_s ?_))
      refine ⟨nx_in (n := 16) (by omega) (by omega), ?_⟩
      refine nx_s (nx_s ?_)
      rw [eI]
      exact ih (i + 1) (I + 1) _ (by omega) e1 (cl_st hp (Or.inr rfl))
    · refine nx_s (nx_s (nx_s (nx_s ?_)))
      refine ⟨nx_in (n := 16) (by omega) (by omega), ?_⟩
      refine nx_s ?_
      refine ⟨nx_in (n := 16) (by omega) (by omega), ?_⟩
      refine nx_s (nx_s ?_)
      rw [eI]
      exact ih (i + 1) (I + 1) _ (by omega) e1 (cl_st hp (Or.inl rfl))
/-- behind the stores and the round, the next level holds -/
theorem nR_B2 (l : Nat) : nR_B (l + 1) = 2 * nR_B l + 99 := by
  unfold nR_B
  rw [Int.pow_succ]
  omega
theorem nR_B13 {l : Nat} (h : l ≤ 12) : nR_B l ≤ 1000000 ∧ 99 ≤ nR_B l := by
  have h1 := nR_Bm h
  have h2 : nR_B 12 = 810909 := rfl
  have h3 := nR_Bm (Nat.zero_le l)
  have h4 : nR_B 0 = 99 := rfl
  omega
theorem cm_px {s s1 s3 : nx_S} {l a : Nat} {A W C : Int32} (hP : PXR l s) (hA : A.toInt = a) (ha : (a : Int) < (s.2.2.1 0 10).toInt) (hN : (s.2.2.1 0 10).toInt ≤ 16) (hInv : nx_Inv gR s) (m : mx_P s a s1) (hW : 1 ≤ W.toInt ∧ W.toInt ≤ nR_B (l + 1)) (hC : 1 ≤ C.toInt ∧ C.toInt ≤ nR_B (l + 1))
    (i10 : ∀ k : Nat, s3.1 10 k = s.1 10 k ∨ s3.1 10 k = A) (i12 : s3.1 12 = upd (s.1 12) a W) (i13 : s3.1 13 = upd (s.1 13) a C) (e2 : s3.2 = s1.2) (eq : ∀ q : Nat, q ≠ 10 → q ≠ 11 → q ≠ 12 → q ≠ 13 → s3.1 q = s1.1 q) : nR_f2 s s3 ∧ PXR (l + 1) s3 := by
  have f10 : s3.2.2.1 0 10 = s.2.2.1 0 10 := by rw [e2]; exact m.2.1 10 (by decide)
  have hB : nR_B l ≤ nR_B (l + 1) := nR_Bm (Nat.le_succ l)
  constructor
  · refine ⟨⟨fun q h10 h11 h12 h13 => ?_, fun p h22 h23 h24 => ?_, ?_, fun k hk => ?_⟩, ?_, ?_⟩
    · rw [eq q h10 h11 h12 h13]
      exact m.1 q h11
    · rw [e2]
      exact m.2.1 p h22
    · rw [e2]
      exact m.2.2.1
    · rcases i10 k with e | e
      · rw [e]
        exact hInv.2.1 10 16 [] rfl k hk
      · rw [e]
        omega
    · rw [e2]
      exact m.2.1 23 (by decide)
    · rw [e2]
      exact m.2.1 24 (by decide)
  · intro k hk
    rw [f10] at hk ⊢
    obtain ⟨p1, p2, p3, p4, p5⟩ := hP k hk
    rw [i12, i13, e2]
    refine ⟨?_, ?_, ?_, ?_, fun hf => ?_⟩
    · rcases i10 k with e | e
      · rw [e]
        exact p1
      · rw [e]
        omega
    · by_cases e : k = a
      · rw [e, upd_s]
        exact hW
      · rw [upd_n _ _ e]
        exact ⟨p2.1, Int.le_trans p2.2 hB⟩
    · by_cases e : k = a
      · rw [e, upd_s]
        exact hC
      · rw [upd_n _ _ e]
        exact ⟨p3.1, Int.le_trans p3.2 hB⟩
    · by_cases e : k = a
      · rw [e]
        exact m.2.2.2.2.2.1
      · rw [m.2.2.2.1 k e]
        exact p4
    · obtain ⟨f0, f1, f2⟩ := m.2.2.2.2.2.2 hf
      by_cases e : k = a
      · rw [e]
        exact ⟨f1, f2⟩
      · rw [m.2.2.2.1 k e]
        obtain ⟨g1, g2⟩ := p5 f0
        refine ⟨g1, fun p hp => ?_⟩
        rw [m.2.2.2.2.1 k p e hp]
        exact g2 p hp
theorem mx_rf {s : nx_S} {l a : Nat} (hP : PXR l s) (ha : (a : Int) < (s.2.2.1 0 10).toInt) (hInv : nx_Inv gR s) : mx_P s a s := by
  have := hP a ha
  refine ⟨fun _ _ => rfl, fun _ _ => rfl, hInv.1 5 (0, 22) (0, 1) rfl rfl, fun _ _ => rfl, fun _ _ _ _ => rfl, this.2.2.2.1, fun e => ⟨e, this.2.2.2.2 e⟩⟩
theorem nR_22 {s : nx_S} (hInv : nx_Inv gR s) : s.2.2.1 0 22 = 0 ∨ s.2.2.1 0 22 = 1 := by
  have h := hInv.1 5 (0, 22) (0, 1) rfl rfl
  have h1 : 0 ≤ (s.2.2.1 0 22).toInt := h.1
  have h2 : (s.2.2.1 0 22).toInt ≤ 1 := h.2
  have h0 : (0 : Int32).toInt = 0 := rfl
  have h3 : (1 : Int32).toInt = 1 := rfl
  by_cases e : (s.2.2.1 0 22).toInt = 0
  · exact Or.inl (Int32.toInt_inj.mp (by omega))
  · exact Or.inr (Int32.toInt_inj.mp (by omega))
set_option maxRecDepth 100000 in
set_option maxHeartbeats 4000000 in
theorem cm_tail (Q : nk_Q) (s s1 : nx_S) (l a b : Nat) (K A B W M : Int32) (o : Option Value) (hInv : nx_Inv gR s) (hl : l ≤ 12) (hP : PXR l s) (hA : A.toInt = a) (hB : B.toInt = b) (ha : (a : Int) < (s.2.2.1 0 10).toInt) (hb : (b : Int) < (s.2.2.1 0 10).toInt) (hW0 : 0 ≤ W.toInt) (hW1 : W.toInt ≤ 99) (m : mx_P s a s1) (hq : ∀ s3 : nx_S, nR_f2 s s3 → PXR (l + 1) s3 → Q none (nx_enc s3 0 shR)) : nk_wp kx_X6_comes kc_X6_comes Q 104 [some (.ref 0), some (.int K), some (.int A), some (.int B), some (.int W), some (.int M), o] [] (nx_enc s1 0 shR) 0 0 := by
  have hN := (hInv.1 2 (0, 10) (0, 16) rfl rfl).2
  have hN : (s.2.2.1 0 10).toInt ≤ 16 := hN
  have eA : A.toNatClampNeg = a := nx_cl hA
  have eB : B.toNatClampNeg = b := nx_cl hB
  have pa := hP a ha
  have pb := hP b hb
  have hb13 := nR_B13 hl
  have hb2 := nR_B2 l
  have i10 : s1.1 10 = s.1 10 := m.1 10 (by decide)
  have i12 : s1.1 12 = s.1 12 := m.1 12 (by decide)
  have i13 : s1.1 13 = s.1 13 := m.1 13 (by decide)
  refine nx_s (nx_s (nx_s (nx_s (nx_s ?_))))
  refine ⟨nx_in (n := 16) (by omega) (by omega), ?_⟩
  refine nx_s (nx_s (nx_s (nx_s ?_)))
  refine ⟨nx_in (n := 16) (by omega) (by omega), ?_⟩
  refine nx_s (nx_s (nx_s (nx_s ?_)))
  refine ⟨nx_in (n := 16) (by omega) (by omega), ?_⟩
  rw [eA, eB, i12]
  have wE : (s.1 12 a + (s.1 12 b + W)).toInt = (s.1 12 a).toInt + ((s.1 12 b).toInt + W.toInt) := by
    have e1 : (s.1 12 b + W).toInt = (s.1 12 b).toInt + W.toInt := i_add (by omega) (by omega)
    rw [i_add (by omega) (by omega), e1]
  refine nx_s (nx_s (nx_s (nx_s (nx_s ?_))))
  refine ⟨nx_in (n := 16) (by omega) (by omega), ?_⟩
  refine nx_s (nx_s (nx_s ?_))
  have last : ∀ C : Int32, 1 ≤ C.toInt → C.toInt ≤ nR_B (l + 1) → nk_wp kx_X6_comes kc_X6_comes Q 149 [some (.ref 0), some (.int K), some (.int A), some (.int B), some (.int W), some (.int M), some (.int 0)] [] (nx_enc (nx_ui (nx_ui s1 12 (upd (s.1 12) a (s.1 12 a + (s.1 12 b + W)))) 13 (upd (s1.1 13) a C)) 0 shR) 0 0 := by
    intro C hC1 hC2
    have f10 : (nx_ui (nx_ui s1 12 (upd (s.1 12) a (s.1 12 a + (s.1 12 b + W)))) 13 (upd (s1.1 13) a C)).2.2.1 0 10 = s.2.2.1 0 10 := m.2.1 10 (by decide)
    refine cm_loop Q _ K A B W M (by rw [f10]; exact hN) (fun s3 h3 => ?_) (s.2.2.1 0 10).toInt.toNat 0 0 _ (by rw [f10]; omega) rfl ⟨rfl, fun _ _ => rfl, fun _ => Or.inl rfl⟩
    have := cm_px hP hA ha hN hInv m (W := s.1 12 a + (s.1 12 b + W)) (C := C) ⟨by omega, by omega⟩ ⟨hC1, hC2⟩ (s3 := s3) (fun k => by
      have h4 := h3.2.2 k
      rw [show (nx_ui (nx_ui s1 12 (upd (s.1 12) a (s.1 12 a + (s.1 12 b + W)))) 13 (upd (s1.1 13) a C)).1 10 = s.1 10 from i10] at h4
      exact h4) (h3.2.1 12 (by decide)) (by rw [h3.2.1 13 (by decide), ← i13]; rfl) h3.1 (fun q h10 h11 h12 h13 => by
      rw [h3.2.1 q h10]
      show (if q = 13 then _ else if q = 12 then _ else s1.1 q) = s1.1 q
      rw [if_neg h13, if_neg h12])
    exact hq s3 this.1 this.2
  refine nk_br.mk (fun _ => ?_) (fun _ => ?_)
  · refine nx_s (nx_s (nx_s (nx_s ?_)))
    refine ⟨nx_in (n := 16) (by omega) (by omega), ?_⟩
    refine nx_s (nx_s (nx_s ?_))
    refine ⟨nx_in (n := 16) (by omega) (by omega), ?_⟩
    refine nx_s (nx_s ?_)
    rw [eA, eB]
    have cE : (s1.1 13 a + s1.1 13 b).toInt = (s1.1 13 a).toInt + (s1.1 13 b).toInt := by
      rw [i13]
      exact i_add (by omega) (by omega)
    rw [i13] at cE
    refine last (s1.1 13 a + s1.1 13 b) (by rw [i13]; omega) (by rw [i13]; omega)
  · refine nx_s (nx_s (nx_s ?_))
    refine ⟨nx_in (n := 16) (by omega) (by omega), ?_⟩
    refine nx_s (nx_s ?_)
    rw [eA]
    have cE : (s1.1 13 a + 0).toInt = (s1.1 13 a).toInt + 0 := by
      rw [i13]
      exact i_add (by rw [show (0 : Int32).toInt = 0 from rfl]; omega) (by rw [show (0 : Int32).toInt = 0 from rfl]; omega)
    rw [i13] at cE
    refine last (s1.1 13 a + 0) (by rw [i13]; omega) (by rw [i13]; omega)
/-! ### the head of comes -/
theorem nR_t {s : nx_S} {l k : Nat} (hP : PXR l s) (hN : (s.2.2.1 0 10).toInt ≤ 16) (hk : (k : Int) < (s.2.2.1 0 10).toInt) (h0 : s.2.2.1 0 22 = 0) : mx_t s k := by
  have := hP k hk
  exact ⟨by omega, this.2.2.2.1, this.2.2.2.2 h0⟩
theorem mx_W (Q : nk_Q) (s : nx_S) (l a b : Nat) (A B : Int32) (hInv : nx_Inv gR s) (hl : l ≤ 12) (hP : PXR l s) (hA : A.toInt = a) (hB : B.toInt = b) (hab : a ≠ b) (ha : (a : Int) < (s.2.2.1 0 10).toInt) (hb : (b : Int) < (s.2.2.1 0 10).toInt) (q : Nat) (hqq : q = 12 ∨ q = 13) (hq : ∀ s1 : nx_S, mx_P s a s1 → Q none (nx_enc s1 0 shR)) : ev_X6_mixes [.ref 0, .int A, .int B, .int (s.1 q A.toNatClampNeg), .int (s.1 q B.toNatClampNeg)] (nx_enc s 0 shR) Q := by
  have hN : (s.2.2.1 0 10).toInt ≤ 16 := (hInv.1 2 (0, 10) (0, 16) rfl rfl).2
  have pa := hP a ha
  have pb := hP b hb
  have hb13 := nR_B13 hl
  rw [nx_cl hA, nx_cl hB]
  have key : ∀ (x y : Int32), 1 ≤ x.toInt → x.toInt ≤ nR_B l → 1 ≤ y.toInt → y.toInt ≤ nR_B l → ev_X6_mixes [.ref 0, .int A, .int B, .int x, .int y] (nx_enc s 0 shR) Q := fun x y h1 h2 h3 h4 => mx_R Q s A B x y a b x.toInt.toNat y.toInt.toNat hA hB (by omega) (by omega) hab (by omega) (by omega) (nR_22 hInv) (nR_t hP hN ha) (nR_t hP hN hb) pa.2.2.2.1 (by omega) (by omega) (by omega) hq
  rcases hqq with e | e
  · rw [e]
    exact key _ _ pa.2.1.1 pa.2.1.2 pb.2.1.1 pb.2.1.2
  · rw [e]
    exact key _ _ pa.2.2.1.1 pa.2.2.1.2 pb.2.2.1.1 pb.2.2.1.2
set_option maxRecDepth 100000 in
set_option maxHeartbeats 8000000 in
theorem cm_R (Q : nk_Q) (s : nx_S) (l a b : Nat) (K A B W : Int32) (hK : K = 2 ∨ K = 3 ∨ K = 5) (hInv : nx_Inv gR s) (hl : l ≤ 12) (hP : PXR l s) (hA : A.toInt = a) (hB : B.toInt = b) (hab : a ≠ b) (ha : (a : Int) < (s.2.2.1 0 10).toInt) (hb : (b : Int) < (s.2.2.1 0 10).toInt) (hW0 : 0 ≤ W.toInt) (hW1 : W.toInt ≤ 99) (hq : ∀ s3 : nx_S, nR_f2 s s3 → PXR (l + 1) s3 → Q none (nx_enc s3 0 shR)) : ev_X6_comes [.ref 0, .int K, .int A, .int B, .int W] (nx_enc s 0 shR) Q := by
  have hN : (s.2.2.1 0 10).toInt ≤ 16 := (hInv.1 2 (0, 10) (0, 16) rfl rfl).2
  have m0 := mx_rf hP ha hInv
  rcases hK with rfl | rfl | rfl
  all_goals repeat' first
    | exact cm_tail Q s _ l a b _ A B W _ _ hInv hl hP hA hB ha hb hW0 hW1 (by assumption) hq
    | refine mx_W _ s l a b A B hInv hl hP hA hB hab ha hb 12 (Or.inl rfl) (fun s1 m1 => ?_)
    | refine mx_W _ s l a b A B hInv hl hP hA hB hab ha hb 13 (Or.inr rfl) (fun s1 m1 => ?_)
    | refine nx_s ?_
    | refine nk_br.t (by decide) ?_
    | refine nk_br.f (by decide) ?_
    | refine And.intro (by decide) ?_
    | refine And.intro (nx_in (n := 16) (by omega) (by omega)) ?_
    | refine nk_br.mk (fun _ => ?_) (fun _ => ?_)
    | fail
