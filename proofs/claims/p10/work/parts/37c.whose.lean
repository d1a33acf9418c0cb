/-! ===== the reference's whose by hand ===== -/
/-- a finding is told: only its number and its count change -/
noncomputable def me_P (s s1 : nx_S) : Prop := (∀ q : Nat, q ≠ 1 → s1.1 q = s.1 q) ∧ s1.2.1 = s.2.1 ∧ ∀ p : Nat, p ≠ 0 → s1.2.2.1 0 p = s.2.2.1 0 p
theorem me_inv {s s1 : nx_S} (h : nx_Inv gR s) (hm : me_P s s1) : nx_Inv gR s1 := by
  refine ⟨fun i k b hi hb => ?_, fun q n l hq i hi => ?_, ?_, ?_⟩
  · have key : ∀ p : Nat, p ≠ 0 → k = (0, p) → b.1 ≤ (s1.2.2.1 k.1 k.2).toInt ∧ (s1.2.2.1 k.1 k.2).toInt ≤ b.2 := by
      intro p h1 e
      subst e
      show b.1 ≤ (s1.2.2.1 0 p).toInt ∧ (s1.2.2.1 0 p).toInt ≤ b.2
      rw [hm.2.2 p h1]
      exact h.1 i (0, p) b hi hb
    match i, hi, hb with
    | 0, hi, hb => cases hi; cases hb; exact na_i32 _
    | 1, hi, hb => cases hi; exact key 2 (by decide) rfl
    | 2, hi, hb => cases hi; exact key 10 (by decide) rfl
    | 3, hi, hb => cases hi; exact key 12 (by decide) rfl
    | 4, hi, hb => cases hi; exact key 15 (by decide) rfl
    | 5, hi, hb => cases hi; exact key 22 (by decide) rfl
    | 6, hi, hb => cases hi; exact key 23 (by decide) rfl
    | 7, hi, hb => cases hi; exact key 24 (by decide) rfl
    | 8, hi, hb => cases hi; exact key 30 (by decide) rfl
    | i + 9, hi, hb => cases hi
  · by_cases e : q = 1
    · subst e
      exact na_i32 _
    · rw [hm.1 q e]
      exact h.2.1 q n l hq i hi
  · show nx_PM (s1.1 8)
    rw [hm.1 8 (by decide)]
    exact h.2.2.1
  · show PER s1
    unfold PER
    rw [hm.1 7 (by decide), hm.1 8 (by decide), hm.2.2 10 (by decide)]
    exact h.2.2.2
set_option maxRecDepth 100000 in
theorem me_R (Q : nk_Q) (s : nx_S) (f : Int32) (h0 : 0 ≤ f.toInt) (h1 : f.toInt ≤ 5) (hq : ∀ s1 : nx_S, me_P s s1 → Q (some (.int (-3))) (nx_enc s1 0 shR)) : ev_X6_meets [.ref 0, .int f] (nx_enc s 0 shR) Q := by
  refine nx_s (nx_s (nx_s (nx_s (nx_s (nx_s (nx_s (nx_s ?_)))))))
  refine ⟨nx_in (n := 6) h0 (by omega), ?_⟩
  refine nx_s (nx_s (nx_s ?_))
  refine ⟨nx_in (n := 6) h0 (by omega), ?_⟩
  refine nx_s (nx_s ?_)
  refine hq _ ⟨fun q h1 => ?_, rfl, fun p hp => ?_⟩
  · show (if q = 1 then _ else s.1 q) = s.1 q
    rw [if_neg h1]
  · show (if 0 = 0 ∧ p = 0 then _ else s.2.2.1 0 p) = s.2.2.1 0 p
    rw [if_neg (fun e => hp e.2)]
set_option maxRecDepth 100000 in
theorem sh_R (Q : nk_Q) (s : nx_S) (U L : Int64) (r : Int32) (low : Nat) (hL : L.toInt = low) (hlow : 1 ≤ low) (hU : na_lm < U.toInt) (hq : ∀ y z : Int64, Q (some (.int r)) (nx_enc (nx_ug (nx_ug s 0 3 y) 0 4 z) 0 shR)) : ev_X6_share [.ref 0, .long U, .long L, .int r] (nx_enc s 0 shR) Q := by
  refine nx_s (nx_s (nx_s ?_))
  refine dv_R U L low hU hL _ _ (fun D hD => ?_)
  have hpos : 0 < Nat.gcd low U.toInt.natAbs := Nat.gcd_pos_of_pos_left _ hlow
  have hne : ¬ D = 0 := fun e => by
    rw [e] at hD
    have h0 : (0 : Int64).toInt = 0 := rfl
    omega
  refine nx_s (nx_s (nx_s (nx_s (nx_s ?_))))
  refine ⟨hne, ?_⟩
  refine nx_s (nx_s (nx_s (nx_s (nx_s ?_))))
  refine ⟨hne, ?_⟩
  refine nx_s (nx_s (nx_s ?_))
  exact hq _ _
set_option maxRecDepth 100000 in
theorem im_R (Q : nk_Q) (s : nx_S) (v : Int32) (hInv : nx_Inv gR s) (h1 : 0 ≤ v.toInt → v.toInt ≤ 12 → Q (some (.int 1)) (nx_enc s 0 shR)) (h2 : Q (some (.int 0)) (nx_enc s 0 shR)) : ev_X6_isMany [.ref 0, .int v] (nx_enc s 0 shR) Q := by
  have hM : (s.2.2.1 0 12).toInt ≤ 12 := (hInv.1 3 (0, 12) (0, 12) rfl rfl).2
  have a0 : (0 : Int32).toInt = 0 := rfl
  refine nx_s (nx_s (nx_s (nx_s (nx_s ?_))))
  refine in_R _ _ v 0 (s.2.2.1 0 12) (fun x y => ?_) (fun _ => ?_)
  · refine nx_s ?_
    refine nk_bo1 ?_
    exact h1 (by omega) (by omega)
  · refine nx_s ?_
    refine nk_bo0 ?_
    exact h2
set_option maxRecDepth 100000 in
theorem i0_R (Q : nk_Q) (s : nx_S) (v : Int32) (h1 : 0 ≤ v.toInt → v.toInt ≤ 5 → Q (some (.int 1)) (nx_enc s 0 shR)) (h2 : Q (some (.int 0)) (nx_enc s 0 shR)) : ev_X6_isPerson [.int v] (nx_enc s 0 shR) Q := by
  have a0 : (0 : Int32).toInt = 0 := rfl
  have a5 : (5 : Int32).toInt = 5 := rfl
  refine nx_s (nx_s (nx_s (nx_s ?_)))
  refine in_R _ _ v 0 5 (fun x y => ?_) (fun _ => ?_)
  · refine nx_s ?_
    refine nk_bo1 ?_
    exact h1 (by omega) (by omega)
  · refine nx_s ?_
    refine nk_bo0 ?_
    exact h2
set_option maxRecDepth 100000 in
theorem ia_R (Q : nk_Q) (s : nx_S) (v : Int32) (h1 : 0 ≤ v.toInt → v.toInt ≤ 15 → Q (some (.int 1)) (nx_enc s 0 shR)) (h2 : Q (some (.int 0)) (nx_enc s 0 shR)) : ev_X6_areAnswers [.int v] (nx_enc s 0 shR) Q := by
  have a0 : (0 : Int32).toInt = 0 := rfl
  have a5 : (15 : Int32).toInt = 15 := rfl
  refine nx_s (nx_s (nx_s (nx_s ?_)))
  refine in_R _ _ v 0 15 (fun x y => ?_) (fun _ => ?_)
  · refine nx_s ?_
    refine nk_bo1 ?_
    exact h1 (by omega) (by omega)
  · refine nx_s ?_
    refine nk_bo0 ?_
    exact h2
set_option maxRecDepth 100000 in
theorem al2_R (Q : nk_Q) (s : nx_S) (v : Int32) (h1 : 0 ≤ v.toInt → v.toInt ≤ 3 → Q (some (.int 0)) (nx_enc s 0 shR)) (h2 : Q (some (.int (-1))) (nx_enc s 0 shR)) (h3 : ∀ s1 : nx_S, me_P s s1 → Q (some (.int (-3))) (nx_enc s1 0 shR)) : ev_X6_askedLaws [.ref 0, .int v] (nx_enc s 0 shR) Q := by
  have a0 : (0 : Int32).toInt = 0 := rfl
  have a3 : (3 : Int32).toInt = 3 := rfl
  refine nx_s (nx_s ?_)
  refine nx_s (nx_s (nx_s (nx_s ?_)))
  refine in_R _ _ v 0 3 (fun x y => ?_) (fun _ => ?_)
  · refine nx_s ?_
    refine nk_bo1 ?_
    refine nx_s ?_
    refine nk_br.f (by decide) ?_
    refine nx_s (nx_s (nx_s (nx_s ?_)))
    refine ⟨nx_in (n := 4) (by omega) (by omega), ?_⟩
    refine nx_s ?_
    refine nk_br.mk (fun _ => ?_) (fun _ => ?_)
    · refine nx_s (nx_s (nx_s ?_))
      refine me_R _ s 1 (by decide) (by decide) (fun s1 hm => ?_)
      refine nx_s (nx_s ?_)
      exact h3 s1 hm
    · refine nx_s (nx_s ?_)
      exact h1 (by omega) (by omega)
  · refine nx_s ?_
    refine nk_bo0 ?_
    refine nx_s ?_
    refine nk_br.t (by decide) ?_
    refine nx_s (nx_s (nx_s ?_))
    exact h2
noncomputable def hd_F (s s1 : nx_S) : Prop := (∀ q : Nat, q ∉ [1, 10, 11, 12, 13] → s1.1 q = s.1 q) ∧ ∀ p : Nat, p ≠ 0 → p ≠ 22 → p ≠ 23 → p ≠ 24 → s1.2.2.1 0 p = s.2.2.1 0 p
theorem hd_fr {s s1 : nx_S} (h : nR_fr s s1) : hd_F s s1 := ⟨fun q hq => h.1 q (fun e => hq (by rw [e]; decide)) (fun e => hq (by rw [e]; decide)) (fun e => hq (by rw [e]; decide)) (fun e => hq (by rw [e]; decide)), fun p _ h2 h3 h4 => h.2.1 p h2 h3 h4⟩
theorem hd_me {s s1 : nx_S} (h : me_P s s1) : hd_F s s1 := ⟨fun q hq => h.1 q (fun e => hq (by rw [e]; decide)), fun p h0 _ _ _ => h.2.2 p h0⟩
theorem hd_F.tr {s s1 s2 : nx_S} (h : hd_F s s1) (h' : hd_F s1 s2) : hd_F s s2 := ⟨fun q hq => (h'.1 q hq).trans (h.1 q hq), fun p a b c d => (h'.2 p a b c d).trans (h.2 p a b c d)⟩
set_option maxRecDepth 100000 in
set_option maxHeartbeats 4000000 in
theorem wh_R (Q : nk_Q) (s : nx_S) (L S M A P : Int32) (hInv : nx_Inv gR s) (hq : ∀ (s1 : nx_S) (r : Int32), nx_Inv gR s1 → hd_F s s1 → Q (some (.int r)) (nx_enc s1 0 shR)) : ev_X6_whose [.ref 0, .int L, .int S, .int M, .int A, .int P] (nx_enc s 0 shR) Q := by
  have no : nk_wp kx_X6_whose kc_X6_whose Q 32 [some (.ref 0), some (.int L), some (.int S), some (.int M), some (.int A), some (.int P), none, none, none] [] (nx_enc s 0 shR) 0 0 := by
    refine nx_s (nx_s ?_)
    exact hq s (-1) hInv ⟨fun _ _ => rfl, fun _ _ _ _ _ => rfl⟩
  refine nx_s (nx_s (nx_s ?_))
  refine is_R _ s S hInv (fun s0 s1 => ?_) (fun _ => ?_)
  rotate_left
  · refine nx_s ?_
    refine nk_br.t (by decide) ?_
    exact no
  refine nx_s ?_
  refine nk_br.f (by decide) ?_
  refine nx_s (nx_s (nx_s ?_))
  refine im_R _ s M hInv (fun m0 m1 => ?_) ?_
  rotate_left
  · refine nx_s ?_
    refine nk_br.t (by decide) ?_
    exact no
  refine nx_s ?_
  refine nk_br.f (by decide) ?_
  refine nx_s (nx_s ?_)
  refine ia_R _ s A (fun a0 a1 => ?_) ?_
  rotate_left
  · refine nx_s ?_
    refine nk_br.t (by decide) ?_
    exact no
  refine nx_s ?_
  refine nk_br.f (by decide) ?_
  refine nx_s (nx_s ?_)
  refine i0_R _ s P (fun p0 p1 => ?_) ?_
  rotate_left
  · refine nx_s ?_
    refine nk_br.t (by decide) ?_
    exact no
  refine nx_s ?_
  refine nk_br.f (by decide) ?_
  refine nx_s (nx_s (nx_s ?_))
  refine al2_R _ s L (fun l0 l1 => ?_) ?_ (fun s1 hm => ?_)
  rotate_left
  · refine nx_s (nx_s (nx_s ?_))
    refine nk_br.f (by decide) ?_
    refine nx_s (nx_s ?_)
    exact hq s _ hInv ⟨fun _ _ => rfl, fun _ _ _ _ _ => rfl⟩
  · refine nx_s (nx_s (nx_s ?_))
    refine nk_br.f (by decide) ?_
    refine nx_s (nx_s ?_)
    exact hq s1 _ (me_inv hInv hm) (hd_me hm)
  refine nx_s (nx_s (nx_s ?_))
  refine nk_br.t (by decide) ?_
  refine nx_s (nx_s (nx_s (nx_s (nx_s ?_))))
  refine ⟨nx_in (n := 4) (by omega) (by omega), ?_⟩
  refine nx_s (nx_s (nx_s (nx_s ?_)))
  refine gs_R _ s _ A M _ m0 m1 hInv (fun s1 r hf hpx hr => ?_)
  have hInv1 := nR_inv hInv hf
  rcases hr with e | ⟨e, hfine⟩
  · subst e
    refine nx_s ?_
    refine nk_br.t (by decide) ?_
    refine nx_s (nx_s (nx_s ?_))
    refine me_R _ s1 5 (by decide) (by decide) (fun s2 hm => ?_)
    refine nx_s ?_
    exact hq s2 _ (me_inv hInv1 hm) ((hd_fr hf).tr (hd_me hm))
  · subst e
    refine nx_s ?_
    refine nk_br.f (by decide) ?_
    have hN := nR_N hInv1
    have eN : s1.2.2.1 0 10 = s.2.2.1 0 10 := hf.2.1 10 (by decide) (by decide) (by decide)
    have hN' := nR_N hInv
    have eS : (S.toNatClampNeg : Int) = S.toInt := by
      have : S.toInt.toNat = S.toNatClampNeg := Int32.toNat_toInt S
      omega
    have pS := (hpx S.toNatClampNeg (by rw [eN]; omega)).1
    refine nx_s (nx_s (nx_s (nx_s ?_)))
    refine nx_s (nx_s (nx_s (nx_s (nx_s (nx_s (nx_s ?_))))))
    refine ⟨nx_in (n := 16) (by omega) (by omega), ?_⟩
    show nk_wp kx_X6_partOf kc_X6_partOf _ 12 [some (.ref 0), some (.int S), some (.int P)] [.int (s1.1 10 S.toNatClampNeg), .int 6, .ref 14] (nx_enc s1 0 shR) 0 0
    generalize hT : s1.1 10 S.toNatClampNeg = T at pS ⊢
    have pT := hpx T.toInt.toNat (by omega)
    have hTT : T.toInt = (T.toInt.toNat : Int) := by omega
    have cT : T.toNatClampNeg = T.toInt.toNat := nx_cl hTT
    have x6 : (6 * T + P).toInt = 6 * T.toInt + P.toInt := i_6k (by omega) (by omega) p0 p1
    have eP : (P.toNatClampNeg : Int) = P.toInt := by
      have : P.toInt.toNat = P.toNatClampNeg := Int32.toNat_toInt P
      omega
    have c6 : (6 * T + P).toNatClampNeg = 6 * T.toInt.toNat + P.toNatClampNeg := nx_cl (by omega)
    have hup := (pT.2.2.2.2 hfine).2 P.toNatClampNeg (by omega)
    have hlo := pT.2.2.2.1
    have a1 : na_lm = -9223372036854775808 := rfl
    refine nx_s (nx_s (nx_s (nx_s ?_)))
    refine ⟨nx_in (n := 96) (by omega) (by omega), ?_⟩
    rw [c6]
    refine nx_s (nx_s (nx_s (nx_s (nx_s (nx_s (nx_s (nx_s (nx_s (nx_s ?_)))))))))
    refine ⟨nx_in (n := 16) (by omega) (by omega), ?_⟩
    show nk_wp kx_X6_whose kc_X6_whose Q 95 [some (.ref 0), some (.int L), some (.int S), some (.int M), some (.int A), some (.int P), some (.int 0), some (.long (s1.2.1 14 (6 * T.toInt.toNat + P.toNatClampNeg))), none] [.int (s1.1 10 S.toNatClampNeg), .ref 15, .long (s1.2.1 14 (6 * T.toInt.toNat + P.toNatClampNeg)), .ref 0] (nx_enc s1 0 shR) 0 0
    rw [hT]
    refine nx_s ?_
    refine ⟨nx_in (n := 16) (by omega) (by omega), ?_⟩
    rw [cT]
    have fin : ∀ r : Int32, ev_X6_share [.ref 0, .long (s1.2.1 14 (6 * T.toInt.toNat + P.toNatClampNeg)), .long (s1.2.1 15 T.toInt.toNat), .int r] (nx_enc s1 0 shR) (fun v h' => nk_ret v [] (fun T' => nk_wp kx_X6_whose kc_X6_whose Q 111 [some (.ref 0), some (.int L), some (.int S), some (.int M), some (.int A), some (.int P), some (.int 0), some (.long (s1.2.1 14 (6 * T.toInt.toNat + P.toNatClampNeg))), none] T' h' 0 0)) := by
      intro r
      refine sh_R _ s1 _ _ r (s1.2.1 15 T.toInt.toNat).toInt.toNat (by omega) (by omega) (by omega) (fun y z => ?_)
      refine nx_s ?_
      exact hq _ r (show nx_Inv gR s1 from hInv1) (hd_fr hf)
    refine nx_s (nx_s (nx_s (nx_s ?_)))
    refine nk_br.mk (fun _ => ?_) (fun _ => ?_)
    · refine nx_s (nx_s ?_)
      exact fin 0
    · refine nx_s (nx_s (nx_s ?_))
      exact fin 1
