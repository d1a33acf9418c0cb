/-! ===== the reference's lost by hand: the second course is the first ===== -/
theorem cz_f1 {a b x y : Nat} {z : cz} (h : (cz_mix a b x y z).2.2.2.2.2.2 = 0) : z.2.2.2.2.2.2 = 0 := by
  by_cases e : z.2.2.2.2.2.2 = 0
  · exact e
  · unfold cz_mix at h
    rw [if_neg e] at h
    exact h
theorem cz_f2 {law K A B W : Int32} {a b : Nat} {z : cz} (h : (cz_come law K A B W a b z).2.2.2.2.2.2 = 0) : z.2.2.2.2.2.2 = 0 := by
  unfold cz_come at h
  by_cases c1 : ((K = 2 ∧ cz_fg law 1000 = 2) ∨ (K = 3 ∧ cz_fg law 100 = 2))
  · rw [if_pos c1] at h
    exact cz_f1 h
  · rw [if_neg c1] at h
    by_cases c2 : K = 3
    · rw [if_pos c2] at h
      exact cz_f1 h
    · rw [if_neg c2] at h
      exact h
theorem cz_f3 {law K V MK W KN : Int32} {a : Nat} {z : cz} (h : (cz_form law K V MK W KN a z).2.2.2.2.2.2 = 0) : z.2.2.2.2.2.2 = 0 := by
  unfold cz_form at h
  by_cases c1 : (K = 1 ∨ K = 4)
  · rw [if_pos c1] at h
    by_cases c2 : cz_tk law K W KN (z.2.2.1 a) = 0
    · rw [if_pos c2] at h
      exact h
    · rw [if_neg c2] at h
      exact h
  · rw [if_neg c1] at h
    exact h
theorem cz_f4 {law K OF V MK W KN : Int32} {z : cz} (h : (cz_make law K OF V MK W KN z).2.2.2.2.2.2 = 0) : z.2.2.2.2.2.2 = 0 := by
  unfold cz_make at h
  by_cases c1 : ((K = 2 ∨ K = 3 ∨ K = 5) ∧ ¬ z.1 V.toNatClampNeg = z.1 OF.toNatClampNeg)
  · rw [if_pos c1] at h
    exact cz_f2 h
  · rw [if_neg c1] at h
    exact cz_f3 h
theorem nR_M {s : nx_S} (h : nx_Inv gR s) : 0 ≤ (s.2.2.1 0 12).toInt ∧ (s.2.2.1 0 12).toInt ≤ 12 := h.1 3 (0, 12) (0, 12) rfl rfl
set_option maxRecDepth 100000 in
theorem ik_R (Q : nk_Q) (s : nx_S) (v : Int32) (hInv : nx_Inv gR s) (h1 : 0 ≤ v.toInt → v.toInt < (s.2.2.1 0 12).toInt → Q (some (.int 1)) (nx_enc s 0 shR)) (h2 : Q (some (.int 0)) (nx_enc s 0 shR)) : ev_X6_isMaking [.ref 0, .int v] (nx_enc s 0 shR) Q := by
  have hM := nR_M hInv
  have a1 : (1 : Int32).toInt = 1 := rfl
  have e : (s.2.2.1 0 12 - 1).toInt = (s.2.2.1 0 12).toInt - 1 := by
    rw [Int32.toInt_sub, a1, na_bm (show (-2147483648 : Int) ≤ _ by omega) (show _ ≤ (2147483647 : Int) by omega)]
  have a0 : (0 : Int32).toInt = 0 := rfl
  refine nx_s (nx_s (nx_s (nx_s (nx_s (nx_s (nx_s ?_))))))
  refine in_R _ _ v 0 (s.2.2.1 0 12 - 1) (fun x y => ?_) (fun x => ?_)
  · refine nx_s ?_
    refine nk_bo1 ?_
    exact h1 (by omega) (by omega)
  · refine nx_s ?_
    refine nk_bo0 ?_
    exact h2
theorem hd_f2 {s s1 : nx_S} (h : nR_f2 s s1) : hd_F s s1 := hd_fr h.1
set_option maxRecDepth 100000 in
set_option maxHeartbeats 8000000 in
theorem lo_core (Q : nk_Q) (s2 : nx_S) (z2 : cz) (m : Nat) (L M A P S T c B law : Int32) (b : Int64) (bn : Nat) (hInv2 : nx_Inv gR s2) (hm : M.toInt = m) (hm1 : m ≤ 11) (hP2 : PXR m s2) (hz2 : cz_ag s2 z2) (hla : bx_L law A s2) (hS : 0 ≤ S.toInt ∧ S.toInt < (s2.2.2.1 0 10).toInt) (hT : 0 ≤ T.toInt ∧ T.toInt < (s2.2.2.1 0 10).toInt) (p0 : 0 ≤ P.toInt) (p1 : P.toInt ≤ 5) (hb : b.toInt = bn) (hb1 : bn ≤ 1000000) (hf2 : s2.2.2.1 0 22 = 0) (hf3 : (cz_does (s2.1 8) law A m z2).2.2.2.2.2.2 = 0) (hq : ∀ (s1 : nx_S) (r : Int32), nx_Inv gR s1 → hd_F s2 s1 → Q (some (.int r)) (nx_enc s1 0 shR)) :
    nk_wp kx_X6_lost kc_X6_lost Q 180 [some (.ref 0), some (.int L), some (.int M), some (.int A), some (.int P), some (.int B), some (.int S), some (.int c), some (.int T), some (.long (s2.1 12 S.toNatClampNeg).toInt64), none, some (.long b), none, none, none, none, none, none, none, none, none] [] (nx_enc s2 0 shR) 0 0 := by
  have hN := nR_N hInv2
  have hSn : S.toInt = (S.toInt.toNat : Int) := by omega
  have hTn : T.toInt = (T.toInt.toNat : Int) := by omega
  have hPn : P.toInt = (P.toInt.toNat : Int) := by omega
  have cS : S.toNatClampNeg = S.toInt.toNat := nx_cl hSn
  have cT : T.toNatClampNeg = T.toInt.toNat := nx_cl hTn
  have x6 : (6 * S + P).toInt = 6 * S.toInt + P.toInt := i_6k (by omega) (by omega) p0 p1
  have y6 : (6 * T + P).toInt = 6 * T.toInt + P.toInt := i_6k (by omega) (by omega) p0 p1
  have c6 : (6 * S + P).toNatClampNeg = 6 * S.toInt.toNat + P.toInt.toNat := nx_cl (by omega)
  have d6 : (6 * T + P).toNatClampNeg = 6 * T.toInt.toNat + P.toInt.toNat := nx_cl (by omega)
  have pS := hP2 S.toInt.toNat (by omega)
  have pT := hP2 T.toInt.toNat (by omega)
  have fS := pS.2.2.2.2 hf2
  have fT := pT.2.2.2.2 hf2
  have gS := fS.2 P.toInt.toNat (by omega)
  have gT := fT.2 P.toInt.toNat (by omega)
  have wS := pS.2.2.2.1
  have wT := pT.2.2.2.1
  have aS := pS.2.1
  have bB := (nR_B13 (show m ≤ 12 by omega)).1
  generalize hWS : (s2.2.1 15 S.toInt.toNat).toInt = WS at *
  generalize hWT : (s2.2.1 15 T.toInt.toNat).toInt = WT at *
  generalize hPS : (s2.2.1 14 (6 * S.toInt.toNat + P.toInt.toNat)).toInt = PS at *
  generalize hPT : (s2.2.1 14 (6 * T.toInt.toNat + P.toInt.toNat)).toInt = PT at *
  generalize hA12 : (s2.1 12 S.toInt.toNat).toInt = AS at *
  refine nx_s (nx_s (nx_s (nx_s (nx_s (nx_s (nx_s (nx_s ?_)))))))
  refine ⟨nx_in (n := 96) (by omega) (by omega), ?_⟩
  refine nx_s (nx_s (nx_s (nx_s (nx_s (nx_s ?_)))))
  refine ⟨nx_in (n := 16) (by omega) (by omega), ?_⟩
  refine nx_s (nx_s (nx_s (nx_s (nx_s (nx_s (nx_s (nx_s (nx_s ?_))))))))
  refine ⟨nx_in (n := 96) (by omega) (by omega), ?_⟩
  refine nx_s (nx_s (nx_s (nx_s (nx_s (nx_s ?_)))))
  refine ⟨nx_in (n := 16) (by omega) (by omega), ?_⟩
  refine nx_s (nx_s (nx_s (nx_s (nx_s (nx_s (nx_s ?_))))))
  refine ⟨nx_in (n := 16) (by omega) (by omega), ?_⟩
  refine nx_s (nx_s (nx_s (nx_s ?_)))
  refine ⟨nx_in (n := 16) (by omega) (by omega), ?_⟩
  rw [cS, cT, c6, d6]
  have hup := ll_v (P1 := s2.2.1 14 (6 * S.toInt.toNat + P.toInt.toNat)) (X1 := (s2.1 12 S.toInt.toNat).toInt64) (W2 := s2.2.1 15 T.toInt.toNat) (P2 := s2.2.1 14 (6 * T.toInt.toNat + P.toInt.toNat)) (X2 := b) (W1 := s2.2.1 15 S.toInt.toNat) (p1 := PS.toNat) (x1 := AS.toNat) (w2 := WT.toNat) (p2 := PT.toNat) (x2 := bn) (w1 := WS.toNat) (by omega) (ll_i (by omega)) (by omega) (by omega) hb (by omega) (by omega) (by omega) (by omega) (by omega) (by omega) (by omega)
  have hlow := ll_mul (X := s2.2.1 15 S.toInt.toNat) (Y := s2.2.1 15 T.toInt.toNat) (x := WS.toNat) (y := WT.toNat) (by omega) (by omega) (Nat.le_trans (Nat.mul_le_mul (show WS.toNat ≤ 10000 by omega) (show WT.toNat ≤ 10000 by omega)) (by decide))
  have hlo2 : WS.toNat * WT.toNat ≤ 10000 * 10000 := Nat.mul_le_mul (by omega) (by omega)
  have hlo1 : 1 ≤ WS.toNat * WT.toNat := Nat.mul_pos (by omega) (by omega)
  have hab := ll_add (X := (s2.1 12 S.toInt.toNat).toInt64) (Y := b) (x := AS.toNat) (y := bn) (ll_i (by omega)) hb (by omega)
  generalize s2.2.1 14 (6 * S.toInt.toNat + P.toInt.toNat) * (s2.1 12 S.toInt.toNat).toInt64 * s2.2.1 15 T.toInt.toNat + s2.2.1 14 (6 * T.toInt.toNat + P.toInt.toNat) * b * s2.2.1 15 S.toInt.toNat = UP at hup ⊢
  generalize PS.toNat * AS.toNat * WT.toNat + PT.toNat * bn * WS.toNat = up at hup
  generalize WS.toNat * WT.toNat = lo at hup hlow hlo1 hlo2
  have hup2 : up ≤ 400000000000000 := Nat.le_trans hup.2.1 hup.2.2
  refine nx_s (nx_s (nx_s (nx_s (nx_s ?_))))
  generalize s2.2.1 15 S.toInt.toNat * s2.2.1 15 T.toInt.toNat = LOW at hlow ⊢
  have cM : M.toNatClampNeg = m := nx_cl hm
  refine ds_Rx _ s2 z2 m M law A hInv2 (by omega) hP2 hz2 hla (by omega) (by omega) (by omega) (fun s3 f3 p3 z3 => ?_)
  rw [cM] at z3
  have eN : s3.2.2.1 0 10 = s2.2.2.1 0 10 := f3.1.2.1 10 (by decide) (by decide) (by decide)
  have hf : s3.2.2.1 0 22 = 0 := z3.1.trans hf3
  have q3 := p3 S.toInt.toNat (by rw [eN]; omega)
  have k3 := q3.2.2.2.2 hf
  have g3 := k3.2 P.toInt.toNat (by omega)
  have w3 := q3.2.2.2.1
  have hInv3 := nR_inv hInv2 f3.1
  generalize hW3 : (s3.2.1 15 S.toInt.toNat).toInt = W3 at *
  generalize hP3 : (s3.2.1 14 (6 * S.toInt.toNat + P.toInt.toNat)).toInt = P3 at *
  refine nx_s (nx_s (nx_s (nx_s (nx_s (nx_s (nx_s (nx_s ?_)))))))
  refine ⟨nx_in (n := 96) (by omega) (by omega), ?_⟩
  refine nx_s (nx_s (nx_s (nx_s (nx_s (nx_s (nx_s (nx_s (nx_s (nx_s ?_)))))))))
  refine ⟨nx_in (n := 16) (by omega) (by omega), ?_⟩
  refine nx_s (nx_s (nx_s (nx_s (nx_s (nx_s (nx_s (nx_s (nx_s (nx_s (nx_s (nx_s (nx_s ?_))))))))))))
  refine ⟨nx_in (n := 16) (by omega) (by omega), ?_⟩
  rw [cS, c6]
  have hthen := ll_mul (X := s3.2.1 14 (6 * S.toInt.toNat + P.toInt.toNat)) (Y := (s2.1 12 S.toInt.toNat).toInt64 + b) (x := P3.toNat) (y := AS.toNat + bn) (by omega) hab (Nat.le_trans (Nat.mul_le_mul (show P3.toNat ≤ 10000 by omega) (show AS.toNat + bn ≤ 2000000 by omega)) (by decide))
  have hth2 : P3.toNat * (AS.toNat + bn) ≤ 10000 * 2000000 := Nat.mul_le_mul (by omega) (by omega)
  generalize s3.2.1 14 (6 * S.toInt.toNat + P.toInt.toNat) * ((s2.1 12 S.toInt.toNat).toInt64 + b) = THEN at hthen ⊢
  generalize P3.toNat * (AS.toNat + bn) = th at hthen hth2
  have h1 := ll_mul (X := UP) (Y := s3.2.1 15 S.toInt.toNat) (x := up) (y := W3.toNat) hup.1 (by omega) (Nat.le_trans (Nat.mul_le_mul hup2 (show W3.toNat ≤ 10000 by omega)) (by decide))
  have h1b : up * W3.toNat ≤ 400000000000000 * 10000 := Nat.mul_le_mul hup2 (by omega)
  have h2 := ll_mul (X := THEN) (Y := LOW) (x := th) (y := lo) hthen hlow (Nat.le_trans (Nat.mul_le_mul hth2 hlo2) (by decide))
  have h2b : th * lo ≤ 10000 * 2000000 * (10000 * 10000) := Nat.mul_le_mul hth2 hlo2
  have h3 := ll_mul (X := LOW) (Y := s3.2.1 15 S.toInt.toNat) (x := lo) (y := W3.toNat) hlow (by omega) (Nat.le_trans (Nat.mul_le_mul hlo2 (show W3.toNat ≤ 10000 by omega)) (by decide))
  have h3b : 1 ≤ lo * W3.toNat := Nat.mul_pos hlo1 (by omega)
  have hlost : na_lm < (UP * s3.2.1 15 S.toInt.toNat - THEN * LOW).toInt := by
    have a1 : na_lm = -9223372036854775808 := rfl
    rw [Int64.toInt_sub, h1, h2, na_bml (show (-9223372036854775808 : Int) ≤ _ by omega) (show _ ≤ (9223372036854775807 : Int) by omega)]
    omega
  generalize UP * s3.2.1 15 S.toInt.toNat - THEN * LOW = LOST at hlost ⊢
  have fin : ∀ r : Int32, ev_X6_share [.ref 0, .long LOST, .long (LOW * s3.2.1 15 S.toInt.toNat), .int r] (nx_enc s3 0 shR) (fun v h' => nk_ret v [] (fun T' => nk_wp kx_X6_lost kc_X6_lost Q 331 [some (.ref 0), some (.int L), some (.int M), some (.int A), some (.int P), some (.int B), some (.int S), some (.int c), some (.int T), some (.long (s2.1 12 S.toInt.toNat).toInt64), none, some (.long b), none, some (.long UP), none, some (.long LOW), none, some (.long THEN), none, some (.long LOST), none] T' h' 0 0)) := by
    intro r
    refine sh_R _ s3 _ _ r (lo * W3.toNat) h3 h3b hlost (fun y z => ?_)
    refine nx_s ?_
    exact hq _ r (show nx_Inv gR s3 from hInv3) (hd_f2 f3)
  refine nx_s (nx_s (nx_s (nx_s (nx_s ?_))))
  refine nk_br.mk (fun _ => ?_) (fun _ => ?_)
  · refine nx_s (nx_s (nx_s (nx_s ?_)))
    refine nk_br.mk (fun _ => ?_) (fun _ => ?_)
    · refine nx_s (nx_s (nx_s ?_))
      exact fin 0
    · refine nx_s (nx_s ?_)
      exact fin 2
  · refine nx_s (nx_s (nx_s ?_))
    exact fin 1
set_option maxRecDepth 100000 in
set_option maxHeartbeats 8000000 in
theorem lo_mid (Q : nk_Q) (s2 : nx_S) (z2 : cz) (m : Nat) (L M A P S T c B law : Int32) (hInv2 : nx_Inv gR s2) (hm : M.toInt = m) (hm1 : m ≤ 11) (hP2 : PXR m s2) (hz2 : cz_ag s2 z2) (hla : bx_L law A s2) (hS : 0 ≤ S.toInt ∧ S.toInt < (s2.2.2.1 0 10).toInt) (hT : 0 ≤ T.toInt ∧ T.toInt < (s2.2.2.1 0 10).toInt) (p0 : 0 ≤ P.toInt) (p1 : P.toInt ≤ 5) (hf2 : s2.2.2.1 0 22 = 0) (hf3 : (cz_does (s2.1 8) law A m z2).2.2.2.2.2.2 = 0) (hq : ∀ (s1 : nx_S) (r : Int32), nx_Inv gR s1 → hd_F s2 s1 → Q (some (.int r)) (nx_enc s1 0 shR)) :
    nk_wp kx_X6_lost kc_X6_lost Q 151 [some (.ref 0), some (.int L), some (.int M), some (.int A), some (.int P), some (.int B), some (.int S), some (.int c), some (.int T), none, none, none, none, none, none, none, none, none, none, none, none] [] (nx_enc s2 0 shR) 0 0 := by
  have hN := nR_N hInv2
  have hTn : T.toInt = (T.toInt.toNat : Int) := by omega
  have cT : T.toNatClampNeg = T.toInt.toNat := nx_cl hTn
  have pT := hP2 T.toInt.toNat (by omega)
  have aT := pT.2.1
  have bB := (nR_B13 (show m ≤ 12 by omega)).1
  refine nx_s (nx_s (nx_s (nx_s ?_)))
  refine ⟨nx_in (n := 16) (by omega) (by omega), ?_⟩
  refine nx_s (nx_s (nx_s (nx_s ?_)))
  refine nk_br.mk (fun _ => ?_) (fun _ => ?_)
  · refine nx_s (nx_s ?_)
    exact lo_core Q s2 z2 m L M A P S T c B law 0 0 hInv2 hm hm1 hP2 hz2 hla hS hT p0 p1 rfl (by decide) hf2 hf3 hq
  · refine nx_s (nx_s (nx_s (nx_s ?_)))
    refine ⟨nx_in (n := 16) (by omega) (by omega), ?_⟩
    refine nx_s (nx_s (nx_s ?_))
    exact lo_core Q s2 z2 m L M A P S T c B law (s2.1 12 T.toNatClampNeg).toInt64 (s2.1 12 T.toNatClampNeg).toInt.toNat hInv2 hm hm1 hP2 hz2 hla hS hT p0 p1 (ll_i (by rw [cT]; omega)) (by rw [cT]; omega) hf2 hf3 hq
set_option maxRecDepth 100000 in
set_option maxHeartbeats 8000000 in
theorem lo_two (Q : nk_Q) (s2 : nx_S) (z2 : cz) (m : Nat) (L M A P B law : Int32) (hInv2 : nx_Inv gR s2) (hm : M.toInt = m) (hm1 : m ≤ 11) (hP2 : PXR m s2) (hz2 : cz_ag s2 z2) (hla : bx_L law A s2) (hN1 : (s2.2.2.1 0 10).toInt ≠ 0) (p0 : 0 ≤ P.toInt) (p1 : P.toInt ≤ 5) (hf2 : s2.2.2.1 0 22 = 0) (hf3 : (cz_does (s2.1 8) law A m z2).2.2.2.2.2.2 = 0) (hq : ∀ (s1 : nx_S) (r : Int32), nx_Inv gR s1 → hd_F s2 s1 → Q (some (.int r)) (nx_enc s1 0 shR)) :
    nk_wp kx_X6_lost kc_X6_lost Q 80 [some (.ref 0), some (.int L), some (.int M), some (.int A), some (.int P), some (.int B), none, none, none, none, none, none, none, none, none, none, none, none, none, none, none] [] (nx_enc s2 0 shR) 0 0 := by
  have hN := nR_N hInv2
  have hM0 : 0 ≤ M.toInt := by omega
  have hM1 : M.toInt ≤ 11 := by omega
  have eM : M.toNatClampNeg = m := nx_cl hm
  have pm := hInv2.2.2.1 m (by omega)
  have pe := hInv2.2.2.2.2 m (by omega)
  have c1 := pm.1 1 (by decide)
  have c2 := pm.1 2 (by decide)
  have d1 : (nx_co 1).1 = 0 ∧ (nx_co 1).2 = 15 := ⟨rfl, rfl⟩
  have d2 : (nx_co 2).1 = 0 ∧ (nx_co 2).2 = 99 := ⟨rfl, rfl⟩
  rw [d1.1, d1.2] at c1
  rw [d2.1, d2.2] at c2
  have c1 : 0 ≤ (s2.1 8 (7 * m + 1)).toInt ∧ (s2.1 8 (7 * m + 1)).toInt ≤ 15 := c1
  have c2 : 0 ≤ (s2.1 8 (7 * m + 2)).toInt ∧ (s2.1 8 (7 * m + 2)).toInt ≤ 99 := c2
  have hO : (s2.1 8 (7 * m + 1)).toInt < (s2.2.2.1 0 10).toInt := by
    rcases pe with h | h
    · omega
    · exact h.1
  have hV : (s2.1 8 (7 * m + 0) = 2 ∨ s2.1 8 (7 * m + 0) = 3 ∨ s2.1 8 (7 * m + 0) = 5) → (s2.1 8 (7 * m + 2)).toInt < (s2.2.2.1 0 10).toInt := by
    intro hK
    have e2 : (2 : Int32).toInt = 2 := rfl
    have e3 : (3 : Int32).toInt = 3 := rfl
    have e5 : (5 : Int32).toInt = 5 := rfl
    rcases pe with h | h
    · have := h.1
      rcases hK with e | e | e
      · rw [e] at this; omega
      · rw [e] at this; omega
      · rw [e] at this; omega
    · rcases h.2 with h | h
      · exact h
      · rcases hK with e | e | e
        · rw [e] at h; omega
        · rw [e] at h; omega
        · rw [e] at h; omega
  have eO : ((s2.1 8 (7 * m + 1)).toNatClampNeg : Int) = (s2.1 8 (7 * m + 1)).toInt := by
    have : (s2.1 8 (7 * m + 1)).toInt.toNat = (s2.1 8 (7 * m + 1)).toNatClampNeg := Int32.toNat_toInt _
    omega
  have eV : ((s2.1 8 (7 * m + 2)).toNatClampNeg : Int) = (s2.1 8 (7 * m + 2)).toInt := by
    have : (s2.1 8 (7 * m + 2)).toInt.toNat = (s2.1 8 (7 * m + 2)).toNatClampNeg := Int32.toNat_toInt _
    omega
  have pS := (hP2 (s2.1 8 (7 * m + 1)).toNatClampNeg (by omega)).1
  have pV : (s2.1 8 (7 * m + 0) = 2 ∨ s2.1 8 (7 * m + 0) = 3 ∨ s2.1 8 (7 * m + 0) = 5) → 0 ≤ (s2.1 10 (s2.1 8 (7 * m + 2)).toNatClampNeg).toInt ∧ (s2.1 10 (s2.1 8 (7 * m + 2)).toNatClampNeg).toInt < (s2.2.2.1 0 10).toInt := fun hK => by
    have := hV hK
    exact (hP2 (s2.1 8 (7 * m + 2)).toNatClampNeg (by omega)).1
  refine nx_s (nx_s (nx_s (nx_s (nx_s (nx_s ?_)))))
  refine mk_R s2 M 1 _ hM0 hM1 (by decide) (by decide) ?_
  rw [eM]
  refine nx_s ?_
  refine ⟨nx_in (n := 16) c1.1 (Int.lt_of_le_of_lt c1.2 (by decide)), ?_⟩
  show nk_wp kx_X6_lost kc_X6_lost Q 91 [some (.ref 0), some (.int L), some (.int M), some (.int A), some (.int P), some (.int B), none, none, none, none, none, none, none, none, none, none, none, none, none, none, none] [.int (s2.1 10 (s2.1 8 (7 * m + 1)).toNatClampNeg)] (nx_enc s2 0 shR) 0 0
  generalize s2.1 10 (s2.1 8 (7 * m + 1)).toNatClampNeg = S at pS ⊢
  have zero : nk_wp kx_X6_lost kc_X6_lost Q 125 [some (.ref 0), some (.int L), some (.int M), some (.int A), some (.int P), some (.int B), some (.int S), none, none, none, none, none, none, none, none, none, none, none, none, none, none] [] (nx_enc s2 0 shR) 0 0 := by
    refine nx_s (nx_s (nx_s (nx_s ?_)))
    refine nk_br.t (by decide) ?_
    refine nx_s (nx_s ?_)
    exact lo_mid Q s2 z2 m L M A P S S 0 B law hInv2 hm hm1 hP2 hz2 hla pS pS p0 p1 hf2 hf3 hq
  refine nx_s (nx_s (nx_s (nx_s (nx_s ?_))))
  refine mk_R s2 M 0 _ hM0 hM1 (by decide) (by decide) ?_
  rw [eM]
  refine nx_s ?_
  refine br_R _ _ (s2.1 8 (7 * m + 0)) (fun hK => ?_) (fun _ => ?_)
  rotate_left
  · refine nx_s ?_
    refine nk_br.t (by decide) ?_
    exact zero
  have pV := pV hK
  have hV := hV hK
  refine nx_s ?_
  refine nk_br.f (by decide) ?_
  refine nx_s (nx_s (nx_s (nx_s (nx_s (nx_s ?_)))))
  refine mk_R s2 M 2 _ hM0 hM1 (by decide) (by decide) ?_
  rw [eM]
  refine nx_s ?_
  refine ⟨nx_in (n := 16) c2.1 (Int.lt_of_lt_of_le hV hN.2), ?_⟩
  refine nx_s (nx_s ?_)
  refine nk_br.mk (fun _ => zero) (fun _ => ?_)
  refine nx_s (nx_s (nx_s (nx_s (nx_s ?_))))
  refine nk_br.f (by decide) ?_
  refine nx_s (nx_s (nx_s (nx_s (nx_s (nx_s ?_)))))
  refine mk_R s2 M 2 _ hM0 hM1 (by decide) (by decide) ?_
  rw [eM]
  refine nx_s ?_
  refine ⟨nx_in (n := 16) c2.1 (Int.lt_of_lt_of_le hV hN.2), ?_⟩
  refine nx_s (nx_s ?_)
  exact lo_mid Q s2 z2 m L M A P S (s2.1 10 (s2.1 8 (7 * m + 2)).toNatClampNeg) 1 B law hInv2 hm hm1 hP2 hz2 hla pS pV p0 p1 hf2 hf3 hq
set_option maxRecDepth 100000 in
set_option maxHeartbeats 8000000 in
theorem lo_R (Q : nk_Q) (s : nx_S) (L M A P : Int32) (hInv : nx_Inv gR s) (hJ : nJ s) (hq : ∀ (s1 : nx_S) (r : Int32), nx_Inv gR s1 → hd_F s s1 → Q (some (.int r)) (nx_enc s1 0 shR)) : ev_X6_lost [.ref 0, .int L, .int M, .int A, .int P] (nx_enc s 0 shR) Q := by
  have z1 : (1 : Int32).toInt = 1 := rfl
  have z9 : (-9 : Int32).toInt = -9 := rfl
  have hMM := nR_M hInv
  have hN := nR_N hInv
  have no : nk_wp kx_X6_lost kc_X6_lost Q 23 [some (.ref 0), some (.int L), some (.int M), some (.int A), some (.int P), none, none, none, none, none, none, none, none, none, none, none, none, none, none, none, none] [] (nx_enc s 0 shR) 0 0 := by
    refine nx_s (nx_s ?_)
    exact hq s (-1) hInv ⟨fun _ _ => rfl, fun _ _ _ _ _ => rfl⟩
  refine nx_s (nx_s (nx_s ?_))
  refine ik_R _ s M hInv (fun m0 m1 => ?_) ?_
  rotate_left
  · refine nx_s ?_
    refine nk_br.t (by decide) ?_
    exact no
  refine nx_s ?_
  refine nk_br.f (by decide) ?_
  refine nx_s (nx_s ?_)
  refine ia_R _ s A (fun a0 a1 => ?_) ?_
  rotate_left
  · refine nx_s ?_
    refine nk_br.t (by decide) ?_
    exact no
  refine nx_s ?_
  refine nk_br.f (by decide) ?_
  refine nx_s (nx_s ?_)
  refine i0_R _ s P (fun p0 p1 => ?_) ?_
  rotate_left
  · refine nx_s ?_
    refine nk_br.t (by decide) ?_
    exact no
  refine nx_s ?_
  refine nk_br.f (by decide) ?_
  refine nx_s (nx_s (nx_s ?_))
  refine al2_R _ s L (fun l0 l1 => ?_) ?_ (fun s1 hm => ?_)
  rotate_left
  · refine nx_s (nx_s (nx_s ?_))
    refine nk_br.f (by decide) ?_
    refine nx_s (nx_s ?_)
    exact hq s _ hInv ⟨fun _ _ => rfl, fun _ _ _ _ _ => rfl⟩
  · refine nx_s (nx_s (nx_s ?_))
    refine nk_br.f (by decide) ?_
    refine nx_s (nx_s ?_)
    exact hq s1 _ (me_inv hInv hm) (hd_me hm)
  have hNp := hJ (by omega)
  refine nx_s (nx_s (nx_s ?_))
  refine nk_br.t (by decide) ?_
  refine nx_s (nx_s (nx_s (nx_s (nx_s ?_))))
  refine ⟨nx_in (n := 4) (by omega) (by omega), ?_⟩
  refine nx_s (nx_s (nx_s (nx_s (nx_s (nx_s ?_)))))
  have eM1 : (M + 1).toInt = M.toInt + 1 := by rw [i_add (by omega) (by omega), z1]
  refine gs_Rx _ s (s.1 9 L.toNatClampNeg) A (M + 1) (-9) (by omega) (by omega) hInv (by omega) (fun s1 r f1 px1 cz1 la1 hr => ?_)
  have hInv1 := nR_inv hInv f1
  rcases hr with ⟨e, -⟩ | ⟨e, hfine⟩
  · subst e
    refine nx_s ?_
    refine nk_br.t (by decide) ?_
    refine nx_s (nx_s (nx_s ?_))
    refine me_R _ s1 5 (by decide) (by decide) (fun s2 hm => ?_)
    refine nx_s ?_
    exact hq s2 _ (me_inv hInv1 hm) ((hd_fr f1).tr (hd_me hm))
  subst e
  refine nx_s ?_
  refine nk_br.f (by decide) ?_
  refine nx_s (nx_s (nx_s (nx_s (nx_s ?_))))
  refine ⟨nx_in (n := 4) (by omega) (by omega), ?_⟩
  refine nx_s (nx_s (nx_s (nx_s ?_)))
  have e9 : s1.1 9 = s.1 9 := f1.1 9 (by decide) (by decide) (by decide) (by decide)
  have e8 : s1.1 8 = s.1 8 := f1.1 8 (by decide) (by decide) (by decide) (by decide)
  have e7 : s1.1 7 = s.1 7 := f1.1 7 (by decide) (by decide) (by decide) (by decide)
  have eN : s1.2.2.1 0 10 = s.2.2.1 0 10 := f1.2.1 10 (by decide) (by decide) (by decide)
  refine gs_Rx _ s1 (s1.1 9 L.toNatClampNeg) A M (-9) (by omega) (by omega) hInv1 (by rw [eN]; omega) (fun s2 r f2 px2 cz2 la2 hr => ?_)
  have hInv2 := nR_inv hInv1 f2
  rw [e9] at la2
  rw [e9, e8, e7] at cz2
  have e28 : s2.1 8 = s.1 8 := (f2.1 8 (by decide) (by decide) (by decide) (by decide)).trans e8
  have eN2 : s2.2.2.1 0 10 = s.2.2.1 0 10 := (f2.2.1 10 (by decide) (by decide) (by decide)).trans eN
  have eM2 : (M + 1).toInt.toNat = M.toInt.toNat + 1 := by omega
  have k1 := cz1.1
  rw [hfine, eM2] at k1
  have k2 : (cz_does (s.1 8) (s.1 9 L.toNatClampNeg) A M.toInt.toNat (cz_goes (s.1 8) (s.1 9 L.toNatClampNeg) A (-9 : Int32).toInt (cz_beg (s.1 7)) M.toInt.toNat)).2.2.2.2.2.2 = 0 := by
    have : cz_goes (s.1 8) (s.1 9 L.toNatClampNeg) A (-9 : Int32).toInt (cz_beg (s.1 7)) (M.toInt.toNat + 1) = cz_does (s.1 8) (s.1 9 L.toNatClampNeg) A M.toInt.toNat (cz_goes (s.1 8) (s.1 9 L.toNatClampNeg) A (-9 : Int32).toInt (cz_beg (s.1 7)) M.toInt.toNat) := by
      show (if ((M.toInt.toNat : Nat) : Int) = (-9 : Int32).toInt then _ else _) = _
      rw [if_neg (by omega)]
    rw [this] at k1
    exact k1.symm
  have k3 := cz_f4 k2
  refine nx_s ?_
  exact lo_two Q s2 _ M.toInt.toNat L M A P _ (s.1 9 L.toNatClampNeg) hInv2 (by omega) (by omega) px2 cz2 la2 (by rw [eN2]; omega) p0 p1 (cz2.1.trans k3) (by rw [e28]; exact k2) (fun s3 r3 h3 d3 => hq s3 r3 h3 ((hd_fr f1).tr ((hd_fr f2).tr d3)))
