/-! ===== the reference's allTo, begins, takes, knows exactly ===== -/
theorem cz_i {I pn : Int32} {i : Nat} (hI : I.toInt = i) : (I = pn → pn.toInt = (i : Int)) ∧ (¬ I = pn → ¬ pn.toInt = (i : Int)) := ⟨fun e => by rw [← e]; exact hI, fun e q => e (Int32.toInt_inj.mp (hI.trans q.symm))⟩
noncomputable def ax_P (s : nx_S) (t : Nat) (pn : Int32) (i : Nat) (s1 : nx_S) : Prop := al_P s t i s1 ∧ ∀ p : Nat, p < i → s1.2.1 14 (6 * t + p) = if pn.toInt = (p : Int) then 1 else 0
theorem ax_st {s s1 : nx_S} {t i : Nat} {pn : Int32} (h : ax_P s t pn i s1) (hi : i < 6) {v : Int64} (h1 : 0 ≤ v.toInt) (h2 : v.toInt ≤ 1) (hv : v = if pn.toInt = (i : Int) then 1 else 0) : ax_P s t pn (i + 1) (nx_uj s1 14 (vp_updL (s1.2.1 14) (6 * t + i) v)) := by
  have e14 : (nx_uj s1 14 (vp_updL (s1.2.1 14) (6 * t + i) v)).2.1 14 = vp_updL (s1.2.1 14) (6 * t + i) v := rfl
  refine ⟨al_st h.1 hi h1 h2, fun p hp => ?_⟩
  rw [e14]
  by_cases e : p = i
  · rw [e, vp_updL_s]
    exact hv
  · rw [vp_updL_n _ _ (by omega)]
    exact h.2 p (by omega)
set_option maxRecDepth 100000 in
theorem al_loopx (Q : nk_Q) (s : nx_S) (t pn : Int32) (ht0 : 0 ≤ t.toInt) (ht1 : t.toInt ≤ 15) (hq : ∀ s' : nx_S, ax_P s t.toNatClampNeg pn 6 s' → Q none (nx_enc s' 0 shR)) : ∀ (n i : Nat) (I : Int32) (s1 : nx_S), i + n = 6 → I.toInt = i → ax_P s t.toNatClampNeg pn i s1 → nk_wp kx_X6_allTo kc_X6_allTo Q 9 [some (.ref 0), some (.int t), some (.int pn), some (.int I)] [] (nx_enc s1 0 shR) 0 0 := by
  have h6 : (6 : Int32).toInt = 6 := rfl
  have et : t.toInt.toNat = t.toNatClampNeg := Int32.toNat_toInt t
  intro n
  induction n with
  | zero =>
    intro i I s1 hi hI hp
    refine nx_s (nx_s (nx_s ?_))
    refine nk_br.t (i_le (by omega)) ?_
    refine nx_s ?_
    have e : i = 6 := by omega
    subst e
    exact hq s1 hp
  | succ n ih =>
    intro i I s1 hi hI hp
    have e1 : (I + 1).toInt = ((i + 1 : Nat) : Int) := by
      rw [i_add (by rw [show (1 : Int32).toInt = 1 from rfl]; omega) (by rw [show (1 : Int32).toInt = 1 from rfl]; omega), show (1 : Int32).toInt = 1 from rfl]
      omega
    have ex : (6 * t + I).toInt = 6 * t.toInt + I.toInt := i_6k ht0 ht1 (by omega) (by omega)
    have ec : (6 * t + I).toNatClampNeg = 6 * t.toNatClampNeg + i := nx_cl (by omega)
    refine nx_s (nx_s (nx_s ?_))
    refine nk_br.f (i_nle (by omega)) ?_
    refine nx_s (nx_s (nx_s (nx_s (nx_s (nx_s (nx_s (nx_s (nx_s (nx_s ?_)))))))))
    refine nk_br.mk (fun hc => ?_) (fun hc => ?_)
    · have hc : I = pn := hc
      refine nx_s (nx_s (nx_s ?_))
      refine ⟨nx_in (n := 96) (by omega) (by omega), ?_⟩
      refine nx_s (nx_s ?_)
      rw [ec]
      exact ih (i + 1) (I + 1) _ (by omega) e1 (ax_st hp (by omega) (v := 1) (by decide) (by decide) (by rw [if_pos ((cz_i hI).1 hc)]))
    · have hc : ¬ I = pn := hc
      refine nx_s (nx_s ?_)
      refine ⟨nx_in (n := 96) (by omega) (by omega), ?_⟩
      refine nx_s (nx_s ?_)
      rw [ec]
      exact ih (i + 1) (I + 1) _ (by omega) e1 (ax_st hp (by omega) (v := 0) (by decide) (by decide) (by rw [if_neg ((cz_i hI).2 hc)]))
set_option maxRecDepth 100000 in
theorem al_Rx (Q : nk_Q) (s : nx_S) (t pn : Int32) (ht0 : 0 ≤ t.toInt) (ht1 : t.toInt ≤ 15) (hq : ∀ s' : nx_S, ax_P s t.toNatClampNeg pn 6 s' → Q none (nx_enc s' 0 shR)) : ev_X6_allTo [.ref 0, .int t, .int pn] (nx_enc s 0 shR) Q := by
  have et : t.toInt.toNat = t.toNatClampNeg := Int32.toNat_toInt t
  refine nx_s (nx_s (nx_s (nx_s (nx_s ?_))))
  refine ⟨nx_in (n := 16) (by omega) (by omega), ?_⟩
  refine nx_s (nx_s ?_)
  refine al_loopx Q s t pn ht0 ht1 hq 6 0 0 _ rfl rfl ?_
  show ax_P s t.toNatClampNeg pn 0 (nx_uj s 15 (vp_updL (s.2.1 15) t.toNatClampNeg 1))
  have e14 : (nx_uj s 15 (vp_updL (s.2.1 15) t.toNatClampNeg 1)).2.1 14 = s.2.1 14 := rfl
  have e15 : (nx_uj s 15 (vp_updL (s.2.1 15) t.toNatClampNeg 1)).2.1 15 = vp_updL (s.2.1 15) t.toNatClampNeg 1 := rfl
  refine ⟨⟨rfl, rfl, fun k hk => ?_, ?_, fun k p hk hp => ?_, fun p hp => absurd hp (Nat.not_lt_zero _)⟩, fun p hp => absurd hp (Nat.not_lt_zero _)⟩
  · rw [e15, vp_updL_n _ _ hk]
  · rw [e15, vp_updL_s]
    rfl
  · rw [e14]
/-- a thing becomes one's alone -/
noncomputable def cz_all (a : Nat) (pn : Int32) (z : cz) : cz := (z.1, z.2.1, z.2.2.1, z.2.2.2.1, fun k p => if k = a then (if pn.toInt = (p : Int) then 1 else 0) else z.2.2.2.2.1 k p, fun k => if k = a then 1 else z.2.2.2.2.2.1 k, z.2.2.2.2.2.2)
theorem cz_alag {s s1 : nx_S} {z : cz} {a : Nat} {pn : Int32} (hz : cz_ag s z) (h : ax_P s a pn 6 s1) : cz_ag s1 (cz_all a pn z) := by
  obtain ⟨⟨h1, h2, h3, h4, h5, h6⟩, h7⟩ := h
  have e1 : s1.2.1 15 a = 1 := Int64.toInt_inj.mp (h4.trans rfl)
  unfold cz_ag
  rw [h1, h2]
  refine ⟨hz.1, fun k hk => ?_⟩
  have zk := hz.2 k hk
  refine ⟨zk.1, zk.2.1, zk.2.2.1, zk.2.2.2.1, ?_, fun p hp => ?_⟩
  · show s1.2.1 15 k = if k = a then 1 else z.2.2.2.2.2.1 k
    by_cases ek : k = a
    · rw [ek, if_pos rfl]
      exact e1
    · rw [if_neg ek, h3 k ek]
      exact zk.2.2.2.2.1
  · show s1.2.1 14 (6 * k + p) = if k = a then (if pn.toInt = (p : Int) then 1 else 0) else z.2.2.2.2.1 k p
    by_cases ek : k = a
    · rw [ek, if_pos rfl]
      exact h7 p hp
    · rw [if_neg ek, h5 k p ek hp]
      exact zk.2.2.2.2.2 p hp
/-! ### begins -/
noncomputable def cz_beg (ab : Nat → Int32) : cz := (fun k => Int32.ofInt (k : Int), fun k => ab (5 * k), fun k => ab (5 * k + 1), fun k => ab (5 * k + 2), fun k p => if (ab (5 * k + 3)).toInt = (p : Int) then 1 else 0, fun _ => 1, 0)
noncomputable def bx_k (ab : Nat → Int32) (s : nx_S) (k : Nat) : Prop := s.1 10 k = Int32.ofInt (k : Int) ∧ s.1 11 k = ab (5 * k) ∧ s.1 12 k = ab (5 * k + 1) ∧ s.1 13 k = ab (5 * k + 2) ∧ s.2.1 15 k = 1
noncomputable def bx_p (ab : Nat → Int32) (s : nx_S) (k j : Nat) : Prop := ∀ p : Nat, p < j → s.2.1 14 (6 * k + p) = if (ab (5 * k + 3)).toInt = (p : Int) then 1 else 0
noncomputable def bx_L (law an : Int32) (s : nx_S) : Prop := s.2.2.1 0 23 = law ∧ s.2.2.1 0 24 = an
noncomputable def bx_P (s : nx_S) (i : Nat) (s1 : nx_S) : Prop := bg_P s i s1 ∧ ∀ k : Nat, k < i → bx_k (s.1 7) s1 k ∧ bx_p (s.1 7) s1 k 6
noncomputable def by_P (s : nx_S) (i j : Nat) (s1 : nx_S) : Prop := bi_P s i j s1 ∧ (∀ k : Nat, k < i → bx_k (s.1 7) s1 k ∧ bx_p (s.1 7) s1 k 6) ∧ bx_k (s.1 7) s1 i ∧ bx_p (s.1 7) s1 i j
theorem by_st {s s1 : nx_S} {i j : Nat} (h : by_P s i j s1) (hj : j < 6) {v : Int64} (h1 : 0 ≤ v.toInt) (h2 : v.toInt ≤ 1) (hv : v = if (s.1 7 (5 * i + 3)).toInt = (j : Int) then 1 else 0) : by_P s i (j + 1) (nx_uj s1 14 (vp_updL (s1.2.1 14) (6 * i + j) v)) := by
  have e14 : (nx_uj s1 14 (vp_updL (s1.2.1 14) (6 * i + j) v)).2.1 14 = vp_updL (s1.2.1 14) (6 * i + j) v := rfl
  have e15 : (nx_uj s1 14 (vp_updL (s1.2.1 14) (6 * i + j) v)).2.1 15 = s1.2.1 15 := rfl
  have hk : ∀ k : Nat, bx_k (s.1 7) s1 k → bx_k (s.1 7) (nx_uj s1 14 (vp_updL (s1.2.1 14) (6 * i + j) v)) k := fun k q => ⟨q.1, q.2.1, q.2.2.1, q.2.2.2.1, by rw [e15]; exact q.2.2.2.2⟩
  refine ⟨bi_st h.1 hj h1 h2, fun k hk2 => ⟨hk k (h.2.1 k hk2).1, fun p hp => ?_⟩, hk i h.2.2.1, fun p hp => ?_⟩
  · rw [e14, vp_updL_n _ _ (by omega)]
    exact (h.2.1 k hk2).2 p hp
  · rw [e14]
    by_cases e : p = j
    · rw [e, vp_updL_s]
      exact hv
    · rw [vp_updL_n _ _ (by omega)]
      exact h.2.2.2 p (by omega)
theorem by_end {s s1 : nx_S} {i : Nat} (h : by_P s i 6 s1) : bx_P s (i + 1) s1 := by
  refine ⟨bi_end h.1, fun k hk => ?_⟩
  by_cases e : k = i
  · rw [e]
    exact h.2.2
  · exact h.2.1 k (by omega)
theorem by_beg {s s1 : nx_S} {i : Nat} {a b c d : Int32} (h : bx_P s i s1) (hi : i < 16) (ha : a.toInt = i) (hb : b = s.1 7 (5 * i)) (hc : c = s.1 7 (5 * i + 1)) (hd : d = s.1 7 (5 * i + 2)) (hc2 : 1 ≤ c.toInt ∧ c.toInt ≤ 99) (hd2 : 1 ≤ d.toInt ∧ d.toInt ≤ 99) : by_P s i 0 (bg_s s1 i a b c d) := by
  have e10 : (bg_s s1 i a b c d).1 10 = upd (s1.1 10) i a := rfl
  have e11 : (bg_s s1 i a b c d).1 11 = upd (s1.1 11) i b := rfl
  have e12 : (bg_s s1 i a b c d).1 12 = upd (s1.1 12) i c := rfl
  have e13 : (bg_s s1 i a b c d).1 13 = upd (s1.1 13) i d := rfl
  have e14 : (bg_s s1 i a b c d).2.1 14 = s1.2.1 14 := rfl
  have e15 : (bg_s s1 i a b c d).2.1 15 = vp_updL (s1.2.1 15) i 1 := rfl
  refine ⟨bg_st h.1 hi ha hc2 hd2, fun k hk => ⟨⟨?_, ?_, ?_, ?_, ?_⟩, fun p hp => ?_⟩, ⟨?_, ?_, ?_, ?_, ?_⟩, fun p hp => absurd hp (Nat.not_lt_zero _)⟩
  · rw [e10, upd_n _ _ (by omega)]
    exact (h.2 k hk).1.1
  · rw [e11, upd_n _ _ (by omega)]
    exact (h.2 k hk).1.2.1
  · rw [e12, upd_n _ _ (by omega)]
    exact (h.2 k hk).1.2.2.1
  · rw [e13, upd_n _ _ (by omega)]
    exact (h.2 k hk).1.2.2.2.1
  · rw [e15, vp_updL_n _ _ (by omega)]
    exact (h.2 k hk).1.2.2.2.2
  · rw [e14]
    exact (h.2 k hk).2 p hp
  · rw [e10, upd_s, ← ha]
    exact (Int32.ofInt_toInt a).symm
  · rw [e11, upd_s]
    exact hb
  · rw [e12, upd_s]
    exact hc
  · rw [e13, upd_s]
    exact hd
  · rw [e15, vp_updL_s]
set_option maxRecDepth 100000 in
theorem bg_inx (Q : nk_Q) (s : nx_S) (law an : Int32) (i : Nat) (I : Int32) (hI : I.toInt = i) (hi : i < 16) (hq : ∀ (s1 : nx_S) (Z : Int32), by_P s i 6 s1 → bx_L law an s1 → nk_wp kx_X6_begins kc_X6_begins Q 133 [some (.ref 0), some (.int law), some (.int an), some (.int I), some (.int Z)] [] (nx_enc s1 0 shR) 0 0) : ∀ (n j : Nat) (J : Int32) (s1 : nx_S), j + n = 6 → J.toInt = j → by_P s i j s1 → bx_L law an s1 → nk_wp kx_X6_begins kc_X6_begins Q 88 [some (.ref 0), some (.int law), some (.int an), some (.int I), some (.int J)] [] (nx_enc s1 0 shR) 0 0 := by
  have h6 : (6 : Int32).toInt = 6 := rfl
  have h1 : (1 : Int32).toInt = 1 := rfl
  have h3 : (3 : Int32).toInt = 3 := rfl
  intro n
  induction n with
  | zero =>
    intro j J s1 hj hJ hp hla
    refine nx_s (nx_s (nx_s ?_))
    refine nk_br.t (i_le (by omega)) ?_
    have e : j = 6 := by omega
    subst e
    exact hq s1 J hp hla
  | succ n ih =>
    intro j J s1 hj hJ hp hla
    have e1 : (J + 1).toInt = ((j + 1 : Nat) : Int) := by
      rw [i_add (by omega) (by omega)]
      omega
    have ex : (6 * I + J).toInt = 6 * I.toInt + J.toInt := i_6k (by omega) (by omega) (by omega) (by omega)
    have ec : (6 * I + J).toNatClampNeg = 6 * i + j := nx_cl (by omega)
    have e3 : (5 * I + 3).toInt = 5 * I.toInt + 3 := i_5k (by omega) (by omega) (by decide) (by decide)
    have c3 : (5 * I + 3).toNatClampNeg = 5 * i + 3 := nx_cl (by omega)
    have q7 : s1.1 7 = s.1 7 := hp.1.1.1.1 7 (by decide) (by decide) (by decide) (by decide)
    refine nx_s (nx_s (nx_s ?_))
    refine nk_br.f (i_nle (by omega)) ?_
    refine nx_s (nx_s (nx_s (nx_s (nx_s (nx_s (nx_s (nx_s (nx_s (nx_s (nx_s (nx_s (nx_s (nx_s (nx_s ?_))))))))))))))
    refine ⟨nx_in (n := 80) (by omega) (by omega), ?_⟩
    refine nx_s (nx_s ?_)
    refine nk_br.mk (fun hc => ?_) (fun hc => ?_)
    · have hc : s1.1 7 (5 * I + 3).toNatClampNeg = J := hc
      rw [q7, c3] at hc
      refine nx_s (nx_s (nx_s ?_))
      refine ⟨nx_in (n := 96) (by omega) (by omega), ?_⟩
      refine nx_s (nx_s ?_)
      rw [ec]
      exact ih (j + 1) (J + 1) _ (by omega) e1 (by_st hp (by omega) (v := 1) (by decide) (by decide) (by rw [if_pos ((cz_i hJ).1 hc.symm)])) hla
    · have hc : ¬ s1.1 7 (5 * I + 3).toNatClampNeg = J := hc
      rw [q7, c3] at hc
      refine nx_s (nx_s ?_)
      refine ⟨nx_in (n := 96) (by omega) (by omega), ?_⟩
      refine nx_s (nx_s ?_)
      rw [ec]
      exact ih (j + 1) (J + 1) _ (by omega) e1 (by_st hp (by omega) (v := 0) (by decide) (by decide) (by rw [if_neg ((cz_i hJ).2 (fun e => hc e.symm))])) hla
set_option maxRecDepth 100000 in
set_option maxHeartbeats 4000000 in
theorem bg_loopx (Q : nk_Q) (s : nx_S) (law an : Int32) (hInv : nx_Inv gR s) (hq : ∀ s1 : nx_S, bx_P s (s.2.2.1 0 10).toInt.toNat s1 → bx_L law an s1 → Q none (nx_enc s1 0 shR)) : ∀ (n i : Nat) (I : Int32) (o : Option Value) (s1 : nx_S), (i : Int) + n = (s.2.2.1 0 10).toInt → I.toInt = i → bx_P s i s1 → bx_L law an s1 → nk_wp kx_X6_begins kc_X6_begins Q 17 [some (.ref 0), some (.int law), some (.int an), some (.int I), o] [] (nx_enc s1 0 shR) 0 0 := by
  have hN := hInv.1 2 (0, 10) (0, 16) rfl rfl
  have hN1 : (s.2.2.1 0 10).toInt ≤ 16 := hN.2
  have h1 : (1 : Int32).toInt = 1 := rfl
  intro n
  induction n with
  | zero =>
    intro i I o s1 hi hI hp hla
    have eN : s1.2.2.1 0 10 = s.2.2.1 0 10 := hp.1.1.2.1 10 (by decide) (by decide) (by decide)
    refine nx_s (nx_s (nx_s (nx_s ?_)))
    refine nk_br.t (i_le (show (s1.2.2.1 0 10).toInt ≤ I.toInt by rw [eN]; omega)) ?_
    refine nx_s ?_
    have e : i = (s.2.2.1 0 10).toInt.toNat := by omega
    subst e
    exact hq s1 hp hla
  | succ n ih =>
    intro i I o s1 hi hI hp hla
    have eN : s1.2.2.1 0 10 = s.2.2.1 0 10 := hp.1.1.2.1 10 (by decide) (by decide) (by decide)
    have e7 : s1.1 7 = s.1 7 := hp.1.1.1 7 (by decide) (by decide) (by decide) (by decide)
    have eI : I.toNatClampNeg = i := nx_cl hI
    have e1 : (I + 1).toInt = ((i + 1 : Nat) : Int) := by
      rw [i_add (by omega) (by omega)]
      omega
    have x0 : (5 * I).toInt = 5 * I.toInt := i_50 (by omega) (by omega)
    have x1 : (5 * I + 1).toInt = 5 * I.toInt + 1 := i_5k (by omega) (by omega) (by decide) (by decide)
    have x2 : (5 * I + 2).toInt = 5 * I.toInt + 2 := i_5k (by omega) (by omega) (by decide) (by decide)
    have hper := hInv.2.2.2.1 i (by omega)
    have v0 : s1.1 7 (5 * I).toNatClampNeg = s.1 7 (5 * i) := by rw [e7, nx_cl (x := 5 * I) (k := 5 * i) (by omega)]
    have v1 : s1.1 7 (5 * I + 1).toNatClampNeg = s.1 7 (5 * i + 1) := by rw [e7, nx_cl (x := 5 * I + 1) (k := 5 * i + 1) (by omega)]
    have v2 : s1.1 7 (5 * I + 2).toNatClampNeg = s.1 7 (5 * i + 2) := by rw [e7, nx_cl (x := 5 * I + 2) (k := 5 * i + 2) (by omega)]
    have hc : 1 ≤ (s1.1 7 (5 * I + 1).toNatClampNeg).toInt ∧ (s1.1 7 (5 * I + 1).toNatClampNeg).toInt ≤ 99 := by
      rw [v1]
      exact hper.1
    have hd : 1 ≤ (s1.1 7 (5 * I + 2).toNatClampNeg).toInt ∧ (s1.1 7 (5 * I + 2).toNatClampNeg).toInt ≤ 99 := by
      rw [v2]
      exact hper.2
    refine nx_s (nx_s (nx_s (nx_s ?_)))
    refine nk_br.f (i_nle (show I.toInt < (s1.2.2.1 0 10).toInt by rw [eN]; omega)) ?_
    refine nx_s (nx_s (nx_s (nx_s (nx_s ?_))))
    refine ⟨nx_in (n := 16) (by omega) (by omega), ?_⟩
    refine nx_s (nx_s (nx_s (nx_s (nx_s (nx_s (nx_s (nx_s (nx_s ?_))))))))
    refine ⟨nx_in (n := 80) (by omega) (by omega), ?_⟩
    refine nx_s ?_
    refine ⟨nx_in (n := 16) (by omega) (by omega), ?_⟩
    refine nx_s (nx_s (nx_s (nx_s (nx_s (nx_s (nx_s (nx_s (nx_s (nx_s (nx_s ?_))))))))))
    refine ⟨nx_in (n := 80) (by omega) (by omega), ?_⟩
    refine nx_s ?_
    refine ⟨nx_in (n := 16) (by omega) (by omega), ?_⟩
    refine nx_s (nx_s (nx_s (nx_s (nx_s (nx_s (nx_s (nx_s (nx_s (nx_s (nx_s ?_))))))))))
    refine ⟨nx_in (n := 80) (by omega) (by omega), ?_⟩
    refine nx_s ?_
    refine ⟨nx_in (n := 16) (by omega) (by omega), ?_⟩
    refine nx_s (nx_s (nx_s (nx_s (nx_s ?_))))
    refine ⟨nx_in (n := 16) (by omega) (by omega), ?_⟩
    refine nx_s (nx_s ?_)
    rw [eI]
    refine bg_inx Q s law an i I hI (by omega) (fun s2 Z h2 hla2 => ?_) 6 0 0 (bg_s s1 i I (s1.1 7 (5 * I).toNatClampNeg) (s1.1 7 (5 * I + 1).toNatClampNeg) (s1.1 7 (5 * I + 2).toNatClampNeg)) rfl rfl (by_beg hp (by omega) hI v0 v1 v2 hc hd) hla
    refine nx_s (nx_s ?_)
    exact ih (i + 1) (I + 1) _ s2 (by omega) e1 (by_end h2) hla2
set_option maxRecDepth 100000 in
theorem bg_Rx (Q : nk_Q) (s : nx_S) (law an : Int32) (hInv : nx_Inv gR s) (hq : ∀ s1 : nx_S, nR_fr s s1 → PXR 0 s1 → cz_ag s1 (cz_beg (s.1 7)) → bx_L law an s1 → Q none (nx_enc s1 0 shR)) : ev_X6_begins [.ref 0, .int law, .int an] (nx_enc s 0 shR) Q := by
  have hN := hInv.1 2 (0, 10) (0, 16) rfl rfl
  have hN0 : 0 ≤ (s.2.2.1 0 10).toInt := hN.1
  refine nx_s (nx_s (nx_s (nx_s (nx_s (nx_s (nx_s (nx_s (nx_s ?_))))))))
  refine nk_bo0 ?_
  refine nx_s (nx_s ?_)
  have hf := nR_fr.rf hInv
  have hp : bg_P s 0 (nx_uf (nx_uf (nx_uf s 0 23 law) 0 24 an) 0 22 0) := by
    refine ⟨⟨hf.1, fun p h22 h23 h24 => ?_, ?_, hf.2.2.2⟩, rfl, fun k hk => absurd hk (Nat.not_lt_zero _)⟩
    · show (if 0 = 0 ∧ p = 22 then _ else if 0 = 0 ∧ p = 24 then _ else if 0 = 0 ∧ p = 23 then _ else s.2.2.1 0 p) = s.2.2.1 0 p
      rw [if_neg (fun e => h22 e.2), if_neg (fun e => h24 e.2), if_neg (fun e => h23 e.2)]
    · show 0 ≤ (0 : Int32).toInt ∧ (0 : Int32).toInt ≤ 1
      decide
  refine bg_loopx Q s law an hInv (fun s1 h1 hla => ?_) (s.2.2.1 0 10).toInt.toNat 0 0 none _ (by omega) rfl ⟨hp, fun k hk => absurd hk (Nat.not_lt_zero _)⟩ ⟨rfl, rfl⟩
  refine hq s1 h1.1.1 (nR_pxb h1.1) ⟨h1.1.2.1, fun k hk => ?_⟩ hla
  have eN : s1.2.2.1 0 10 = s.2.2.1 0 10 := h1.1.1.2.1 10 (by decide) (by decide) (by decide)
  rw [eN] at hk
  obtain ⟨⟨a1, a2, a3, a4, a5⟩, a6⟩ := h1.2 k (by omega)
  exact ⟨a1, a2, a3, a4, a5, a6⟩
/-! ### takes, knows -/
noncomputable def cz_is (law K W w : Int32) : Int32 := if K = 1 then (if cz_fg law 10000 = 2 then 1 else if cz_fg law 10000 = 3 then (if W ≤ w then 0 else 1) else 0) else if cz_fg law 10 = 2 then 1 else 0
noncomputable def cz_tk (law K W kn w : Int32) : Int32 := if cz_is law K W w = 0 then 0 else if kn = 0 then 1 else if cz_fg law 1 = 1 then 0 else 1
set_option maxRecDepth 100000 in
set_option maxHeartbeats 4000000 in
theorem tk_Rx (Q : nk_Q) (s : nx_S) (K S W kn law w : Int32) (h0 : 0 ≤ S.toInt) (h1 : S.toInt ≤ 15) (hlaw : s.2.2.1 0 23 = law) (hw : s.1 12 S.toNatClampNeg = w) (hq : Q (some (.int (cz_tk law K W kn w))) (nx_enc s 0 shR)) : ev_X6_takes [.ref 0, .int K, .int S, .int W, .int kn] (nx_enc s 0 shR) Q := by
  have tail : ∀ (f v : Int32), v = cz_is law K W w → nk_wp kx_X6_takes kc_X6_takes Q 65 [some (.ref 0), some (.int K), some (.int S), some (.int W), some (.int kn), some (.int f), none] [.int v] (nx_enc s 0 shR) 0 0 := by
    intro f v hv
    unfold cz_tk at hq
    rw [← hv] at hq
    refine nx_s (nx_s (nx_s ?_))
    refine nk_br.mk (fun e => ?_) (fun e => ?_)
    · have e : v = 0 := e
      rw [if_pos e] at hq
      refine nx_s (nx_s ?_)
      exact nk_bo0 hq
    · have e : ¬ v = 0 := e
      rw [if_neg e] at hq
      refine nx_s (nx_s ?_)
      refine nk_br.mk (fun e2 => ?_) (fun e2 => ?_)
      · have e2 : kn = 0 := e2
        rw [if_pos e2] at hq
        refine nx_s (nx_s (nx_s ?_))
        exact nk_bo1 hq
      · have e2 : ¬ kn = 0 := e2
        rw [if_neg e2] at hq
        refine nx_s (nx_s (nx_s (nx_s ?_)))
        refine nx_s (nx_s (nx_s ?_))
        refine ⟨by decide, ?_⟩
        refine nx_s (nx_s ?_)
        refine ⟨by decide, ?_⟩
        refine nx_s ?_
        refine nx_s (nx_s ?_)
        refine nk_br.mk (fun e3 => ?_) (fun e3 => ?_)
        · have e3 : cz_fg (s.2.2.1 0 23) 1 = 1 := e3
          rw [hlaw] at e3
          rw [if_pos e3] at hq
          refine nx_s (nx_s ?_)
          exact nk_bo0 hq
        · have e3 : ¬ cz_fg (s.2.2.1 0 23) 1 = 1 := e3
          rw [hlaw] at e3
          rw [if_neg e3] at hq
          refine nx_s (nx_s (nx_s ?_))
          exact nk_bo1 hq
  refine nx_s (nx_s (nx_s (nx_s ?_)))
  refine nx_s (nx_s (nx_s ?_))
  refine ⟨by decide, ?_⟩
  refine nx_s (nx_s ?_)
  refine ⟨by decide, ?_⟩
  refine nx_s ?_
  refine nx_s (nx_s (nx_s (nx_s ?_)))
  refine nk_br.mk (fun e => ?_) (fun e => ?_)
  · have e : K = 1 := e
    refine nx_s (nx_s (nx_s ?_))
    refine nk_br.mk (fun e2 => ?_) (fun e2 => ?_)
    · have e2 : cz_fg (s.2.2.1 0 23) 10000 = 2 := e2
      rw [hlaw] at e2
      refine nx_s (nx_s ?_)
      refine tail _ 1 ?_
      unfold cz_is
      rw [if_pos e, if_pos e2]
    · have e2 : ¬ cz_fg (s.2.2.1 0 23) 10000 = 2 := e2
      rw [hlaw] at e2
      refine nx_s (nx_s (nx_s ?_))
      refine nk_br.mk (fun e3 => ?_) (fun e3 => ?_)
      · have e3 : cz_fg (s.2.2.1 0 23) 10000 = 3 := e3
        rw [hlaw] at e3
        refine nx_s (nx_s (nx_s (nx_s (nx_s ?_))))
        refine ⟨nx_in (n := 16) (by omega) (by omega), ?_⟩
        refine nx_s ?_
        refine nk_br.mk (fun e4 => ?_) (fun e4 => ?_)
        · have e4 : W ≤ s.1 12 S.toNatClampNeg := e4
          rw [hw] at e4
          refine nx_s (nx_s ?_)
          refine tail _ 0 ?_
          unfold cz_is
          rw [if_pos e, if_neg e2, if_pos e3, if_pos e4]
        · have e4 : ¬ W ≤ s.1 12 S.toNatClampNeg := e4
          rw [hw] at e4
          refine nx_s (nx_s ?_)
          refine tail _ 1 ?_
          unfold cz_is
          rw [if_pos e, if_neg e2, if_pos e3, if_neg e4]
      · have e3 : ¬ cz_fg (s.2.2.1 0 23) 10000 = 3 := e3
        rw [hlaw] at e3
        refine nx_s (nx_s ?_)
        refine tail _ 0 ?_
        unfold cz_is
        rw [if_pos e, if_neg e2, if_neg e3]
  · have e : ¬ K = 1 := e
    refine nx_s (nx_s (nx_s (nx_s ?_)))
    refine nx_s (nx_s (nx_s ?_))
    refine ⟨by decide, ?_⟩
    refine nx_s (nx_s ?_)
    refine ⟨by decide, ?_⟩
    refine nx_s ?_
    refine nx_s (nx_s ?_)
    refine nk_br.mk (fun e2 => ?_) (fun e2 => ?_)
    · have e2 : cz_fg (s.2.2.1 0 23) 10 = 2 := e2
      rw [hlaw] at e2
      refine nx_s (nx_s ?_)
      refine tail _ 1 ?_
      unfold cz_is
      rw [if_neg e, if_pos e2]
    · have e2 : ¬ cz_fg (s.2.2.1 0 23) 10 = 2 := e2
      rw [hlaw] at e2
      refine nx_s ?_
      refine tail _ 0 ?_
      unfold cz_is
      rw [if_neg e, if_neg e2]
noncomputable def cz_kn (an kn : Int32) : Int32 := if kn = 1 then 1 else if kn ≤ 1 then 0 else if (an >>> ((kn - 2) &&& 31)) &&& 1 = 1 then 1 else 0
set_option maxRecDepth 100000 in
set_option maxHeartbeats 4000000 in
theorem kn_Rx (Q : nk_Q) (s : nx_S) (K an : Int32) (han : s.2.2.1 0 24 = an) (hq : Q (some (.int (cz_kn an K))) (nx_enc s 0 shR)) : ev_X6_knows [.ref 0, .int K] (nx_enc s 0 shR) Q := by
  unfold cz_kn at hq
  refine nx_s (nx_s (nx_s ?_))
  refine nk_br.mk (fun e => ?_) (fun e => ?_)
  · have e : K = 1 := e
    rw [if_pos e] at hq
    refine nx_s (nx_s (nx_s ?_))
    exact nk_bo1 hq
  · have e : ¬ K = 1 := e
    rw [if_neg e] at hq
    refine nx_s (nx_s (nx_s ?_))
    refine nk_br.mk (fun e2 => ?_) (fun e2 => ?_)
    · have e2 : K ≤ 1 := e2
      rw [if_pos e2] at hq
      refine nx_s (nx_s ?_)
      exact nk_bo0 hq
    · have e2 : ¬ K ≤ 1 := e2
      rw [if_neg e2] at hq
      refine nx_s (nx_s (nx_s (nx_s (nx_s (nx_s ?_)))))
      refine nx_s (nx_s (nx_s (nx_s (nx_s (nx_s (nx_s ?_))))))
      refine nk_br.mk (fun e3 => ?_) (fun e3 => ?_)
      · have e3 : (s.2.2.1 0 24 >>> ((K - 2) &&& 31)) &&& 1 = 1 := e3
        rw [han] at e3
        rw [if_pos e3] at hq
        refine nx_s (nx_s (nx_s ?_))
        refine nk_bo1 ?_
        refine nx_s ?_
        refine nk_br.f (by decide) ?_
        refine nx_s (nx_s (nx_s ?_))
        exact nk_bo1 hq
      · have e3 : ¬ (s.2.2.1 0 24 >>> ((K - 2) &&& 31)) &&& 1 = 1 := e3
        rw [han] at e3
        rw [if_neg e3] at hq
        refine nx_s (nx_s ?_)
        refine nk_bo0 ?_
        refine nx_s ?_
        refine nk_br.t (by decide) ?_
        refine nx_s (nx_s ?_)
        exact nk_bo0 hq
