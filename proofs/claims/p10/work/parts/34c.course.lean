/-! ===== the reference's course by hand: what it keeps ===== -/
theorem i_6k {k i : Int32} (h1 : 0 ≤ k.toInt) (h2 : k.toInt ≤ 15) (h3 : 0 ≤ i.toInt) (h4 : i.toInt ≤ 5) : (6 * k + i).toInt = 6 * k.toInt + i.toInt := by
  have h6 : (6 : Int32).toInt = 6 := rfl
  have e : (6 * k).toInt = 6 * k.toInt := i_mul (by rw [h6]) (by omega) (by omega)
  rw [i_add (by omega) (by omega), e]
theorem i_5k {k c : Int32} (h1 : 0 ≤ k.toInt) (h2 : k.toInt ≤ 15) (h3 : 0 ≤ c.toInt) (h4 : c.toInt ≤ 4) : (5 * k + c).toInt = 5 * k.toInt + c.toInt := by
  have h5 : (5 : Int32).toInt = 5 := rfl
  have e : (5 * k).toInt = 5 * k.toInt := i_mul (by rw [h5]) (by omega) (by omega)
  rw [i_add (by omega) (by omega), e]
theorem i_50 {k : Int32} (h1 : 0 ≤ k.toInt) (h2 : k.toInt ≤ 15) : (5 * k).toInt = 5 * k.toInt := i_mul (by rw [show (5 : Int32).toInt = 5 from rfl]) (by omega) (by omega)
theorem i_le {a b : Int32} (h : a.toInt ≤ b.toInt) : a ≤ b := Int32.le_iff_toInt_le.mpr h
theorem i_nle {a b : Int32} (h : b.toInt < a.toInt) : ¬ a ≤ b := fun q => by
  have := Int32.le_iff_toInt_le.mp q
  omega
theorem vp_updL_s (f : Nat → Int64) (k : Nat) (x : Int64) : vp_updL f k x k = x := if_pos rfl
theorem vp_updL_n (f : Nat → Int64) {k j : Nat} (x : Int64) (h : j ≠ k) : vp_updL f k x j = f j := if_neg h
/-- what stays the same, but for the course's cells -/
noncomputable def nR_fr (s s1 : nx_S) : Prop := (∀ q : Nat, q ≠ 10 → q ≠ 11 → q ≠ 12 → q ≠ 13 → s1.1 q = s.1 q) ∧ (∀ p : Nat, p ≠ 22 → p ≠ 23 → p ≠ 24 → s1.2.2.1 0 p = s.2.2.1 0 p) ∧ (0 ≤ (s1.2.2.1 0 22).toInt ∧ (s1.2.2.1 0 22).toInt ≤ 1) ∧ ∀ i : Nat, i < 16 → 0 ≤ (s1.1 10 i).toInt ∧ (s1.1 10 i).toInt ≤ 15
theorem nR_fr.rf {s : nx_S} (h : nx_Inv gR s) : nR_fr s s := ⟨fun _ _ _ _ _ => rfl, fun _ _ _ _ => rfl, h.1 5 (0, 22) (0, 1) rfl rfl, h.2.1 10 16 [] rfl⟩
theorem nR_fr.tr {s s1 s2 : nx_S} (h : nR_fr s s1) (h' : nR_fr s1 s2) : nR_fr s s2 := ⟨fun q a b c d => (h'.1 q a b c d).trans (h.1 q a b c d), fun p a b c => (h'.2.1 p a b c).trans (h.2.1 p a b c), h'.2.2⟩
theorem nR_inv {s s1 : nx_S} (h : nx_Inv gR s) (hf : nR_fr s s1) : nx_Inv gR s1 := by
  refine ⟨fun i k b hi hb => ?_, fun q n l hq i hi => ?_, ?_, ?_⟩
  · have key : ∀ p : Nat, p ≠ 22 → p ≠ 23 → p ≠ 24 → k = (0, p) → b.1 ≤ (s1.2.2.1 k.1 k.2).toInt ∧ (s1.2.2.1 k.1 k.2).toInt ≤ b.2 := by
      intro p h1 h2 h3 e
      subst e
      show b.1 ≤ (s1.2.2.1 0 p).toInt ∧ (s1.2.2.1 0 p).toInt ≤ b.2
      rw [hf.2.1 p h1 h2 h3]
      exact h.1 i (0, p) b hi hb
    match i, hi, hb with
    | 0, hi, hb => cases hi; exact key 0 (by decide) (by decide) (by decide) rfl
    | 1, hi, hb => cases hi; exact key 2 (by decide) (by decide) (by decide) rfl
    | 2, hi, hb => cases hi; exact key 10 (by decide) (by decide) (by decide) rfl
    | 3, hi, hb => cases hi; exact key 12 (by decide) (by decide) (by decide) rfl
    | 4, hi, hb => cases hi; exact key 15 (by decide) (by decide) (by decide) rfl
    | 5, hi, hb => cases hi; cases hb; exact hf.2.2.1
    | 6, hi, hb => cases hi; cases hb; exact na_i32 _
    | 7, hi, hb => cases hi; cases hb; exact na_i32 _
    | 8, hi, hb => cases hi; exact key 30 (by decide) (by decide) (by decide) rfl
    | i + 9, hi, hb => cases hi
  · by_cases e : q = 10
    · subst e
      cases hq
      exact hf.2.2.2 i hi
    · by_cases e1 : q = 11
      · subst e1
        exact na_i32 _
      · by_cases e2 : q = 12
        · subst e2
          exact na_i32 _
        · by_cases e3 : q = 13
          · subst e3
            exact na_i32 _
          · rw [hf.1 q e e1 e2 e3]
            exact h.2.1 q n l hq i hi
  · show nx_PM (s1.1 8)
    rw [hf.1 8 (by decide) (by decide) (by decide) (by decide)]
    exact h.2.2.1
  · show PER s1
    unfold PER
    rw [hf.1 7 (by decide) (by decide) (by decide) (by decide), hf.1 8 (by decide) (by decide) (by decide) (by decide), hf.2.1 10 (by decide) (by decide) (by decide)]
    exact h.2.2.2
/-! ### allTo -/
/-- all but the PARTS of thing t stays; of them the first i are told anew -/
noncomputable def al_P (s : nx_S) (t i : Nat) (s1 : nx_S) : Prop := s1.1 = s.1 ∧ s1.2.2 = s.2.2 ∧ (∀ k : Nat, k ≠ t → s1.2.1 15 k = s.2.1 15 k) ∧ (s1.2.1 15 t).toInt = 1 ∧ (∀ k p : Nat, k ≠ t → p < 6 → s1.2.1 14 (6 * k + p) = s.2.1 14 (6 * k + p)) ∧ ∀ p : Nat, p < i → 0 ≤ (s1.2.1 14 (6 * t + p)).toInt ∧ (s1.2.1 14 (6 * t + p)).toInt ≤ 1
theorem al_st {s s1 : nx_S} {t i : Nat} (h : al_P s t i s1) (hi : i < 6) {v : Int64} (h1 : 0 ≤ v.toInt) (h2 : v.toInt ≤ 1) : al_P s t (i + 1) (nx_uj s1 14 (vp_updL (s1.2.1 14) (6 * t + i) v)) := by
  have e14 : (nx_uj s1 14 (vp_updL (s1.2.1 14) (6 * t + i) v)).2.1 14 = vp_updL (s1.2.1 14) (6 * t + i) v := rfl
  have e15 : (nx_uj s1 14 (vp_updL (s1.2.1 14) (6 * t + i) v)).2.1 15 = s1.2.1 15 := rfl
  refine ⟨h.1, h.2.1, fun k hk => ?_, ?_, fun k p hk hp => ?_, fun p hp => ?_⟩
  · rw [e15]
    exact h.2.2.1 k hk
  · rw [e15]
    exact h.2.2.2.1
  · rw [e14, vp_updL_n _ _ (by omega)]
    exact h.2.2.2.2.1 k p hk hp
  · rw [e14]
    by_cases e : p = i
    · rw [e, vp_updL_s]
      exact ⟨h1, h2⟩
    · rw [vp_updL_n _ _ (by omega)]
      exact h.2.2.2.2.2 p (by omega)
set_option maxRecDepth 100000 in
theorem al_loop (Q : nk_Q) (s : nx_S) (t pn : Int32) (ht0 : 0 ≤ t.toInt) (ht1 : t.toInt ≤ 15) (hq : ∀ s' : nx_S, al_P s t.toNatClampNeg 6 s' → Q none (nx_enc s' 0 shR)) : ∀ (n i : Nat) (I : Int32) (s1 : nx_S), i + n = 6 → I.toInt = i → al_P s t.toNatClampNeg i s1 → nk_wp kx_X6_allTo kc_X6_allTo Q 9 [some (.ref 0), some (.int t), some (.int pn), some (.int I)] [] (nx_enc s1 0 shR) 0 0 := by
  have h6 : (6 : Int32).toInt = 6 := rfl
  have et : t.toInt.toNat = t.toNatClampNeg := Int32.toNat_toInt t
  intro n
  induction n with
  | zero =>
    intro i I s1 hi hI hp
    refine nx_s (nx_s (nx_s ?_))
    refine nk_br.t (i_le (by omega)) ?_
    refine nx_s ?_
    have e : i = 6 := by omega
    subst e
    exact hq s1 hp
  | succ n ih =>
    intro i I s1 hi hI hp
    have e1 : (I + 1).toInt = ((i + 1 : Nat) : Int) := by
      rw [i_add (by rw [show (1 : Int32).toInt = 1 from rfl]; omega) (by rw [show (1 : Int32).toInt = 1 from rfl]; omega), show (1 : Int32).toInt = 1 from rfl]
      omega
    have ex : (6 * t + I).toInt = 6 * t.toInt + I.toInt := i_6k ht0 ht1 (by omega) (by omega)
    have ec : (6 * t + I).toNatClampNeg = 6 * t.toNatClampNeg + i := nx_cl (by omega)
    refine nx_s (nx_s (nx_s ?_))
    refine nk_br.f (i_nle (by omega)) ?_
    refine nx_s (nx_s (nx_s (nx_s (nx_s (nx_s (nx_s (nx_s (nx_s (nx_s ?_)))))))))
    refine nk_br.mk (fun _ => ?_) (fun _ => ?_)
    · refine nx_s (nx_s (nx_s ?_))
      refine ⟨nx_in (n := 96) (by omega) (by omega), ?_⟩
      refine nx_s (nx_s ?_)
      rw [ec]
      exact ih (i + 1) (I + 1) _ (by omega) e1 (al_st hp (by omega) (v := 1) (by decide) (by decide))
    · refine nx_s (nx_s ?_)
      refine ⟨nx_in (n := 96) (by omega) (by omega), ?_⟩
      refine nx_s (nx_s ?_)
      rw [ec]
      exact ih (i + 1) (I + 1) _ (by omega) e1 (al_st hp (by omega) (v := 0) (by decide) (by decide))
set_option maxRecDepth 100000 in
theorem al_R (Q : nk_Q) (s : nx_S) (t pn : Int32) (ht0 : 0 ≤ t.toInt) (ht1 : t.toInt ≤ 15) (hq : ∀ s' : nx_S, al_P s t.toNatClampNeg 6 s' → Q none (nx_enc s' 0 shR)) : ev_X6_allTo [.ref 0, .int t, .int pn] (nx_enc s 0 shR) Q := by
  have et : t.toInt.toNat = t.toNatClampNeg := Int32.toNat_toInt t
  refine nx_s (nx_s (nx_s (nx_s (nx_s ?_))))
  refine ⟨nx_in (n := 16) (by omega) (by omega), ?_⟩
  refine nx_s (nx_s ?_)
  refine al_loop Q s t pn ht0 ht1 hq 6 0 0 _ rfl rfl ?_
  show al_P s t.toNatClampNeg 0 (nx_uj s 15 (vp_updL (s.2.1 15) t.toNatClampNeg 1))
  have e14 : (nx_uj s 15 (vp_updL (s.2.1 15) t.toNatClampNeg 1)).2.1 14 = s.2.1 14 := rfl
  have e15 : (nx_uj s 15 (vp_updL (s.2.1 15) t.toNatClampNeg 1)).2.1 15 = vp_updL (s.2.1 15) t.toNatClampNeg 1 := rfl
  refine ⟨rfl, rfl, fun k hk => ?_, ?_, fun k p hk hp => ?_, fun p hp => absurd hp (Nat.not_lt_zero _)⟩
  · rw [e15, vp_updL_n _ _ hk]
  · rw [e15, vp_updL_s]
    rfl
  · rw [e14]
/-! ### begins -/
noncomputable def bg_k (s : nx_S) (k : Nat) : Prop := (s.1 10 k).toInt = k ∧ (1 ≤ (s.1 12 k).toInt ∧ (s.1 12 k).toInt ≤ 99) ∧ (1 ≤ (s.1 13 k).toInt ∧ (s.1 13 k).toInt ≤ 99) ∧ (s.2.1 15 k).toInt = 1
noncomputable def bg_p (s : nx_S) (k j : Nat) : Prop := ∀ p : Nat, p < j → 0 ≤ (s.2.1 14 (6 * k + p)).toInt ∧ (s.2.1 14 (6 * k + p)).toInt ≤ 1
noncomputable def bg_P (s : nx_S) (i : Nat) (s1 : nx_S) : Prop := nR_fr s s1 ∧ s1.2.2.1 0 22 = 0 ∧ ∀ k : Nat, k < i → bg_k s1 k ∧ bg_p s1 k 6
noncomputable def bi_P (s : nx_S) (i j : Nat) (s1 : nx_S) : Prop := bg_P s i s1 ∧ bg_k s1 i ∧ bg_p s1 i j
theorem bi_st {s s1 : nx_S} {i j : Nat} (h : bi_P s i j s1) (hj : j < 6) {v : Int64} (h1 : 0 ≤ v.toInt) (h2 : v.toInt ≤ 1) : bi_P s i (j + 1) (nx_uj s1 14 (vp_updL (s1.2.1 14) (6 * i + j) v)) := by
  have e14 : (nx_uj s1 14 (vp_updL (s1.2.1 14) (6 * i + j) v)).2.1 14 = vp_updL (s1.2.1 14) (6 * i + j) v := rfl
  have e15 : (nx_uj s1 14 (vp_updL (s1.2.1 14) (6 * i + j) v)).2.1 15 = s1.2.1 15 := rfl
  have hk : ∀ k : Nat, bg_k s1 k → bg_k (nx_uj s1 14 (vp_updL (s1.2.1 14) (6 * i + j) v)) k := fun k q => ⟨q.1, q.2.1, q.2.2.1, by rw [e15]; exact q.2.2.2⟩
  refine ⟨⟨h.1.1, h.1.2.1, fun k hk2 => ⟨hk k (h.1.2.2 k hk2).1, fun p hp => ?_⟩⟩, hk i h.2.1, fun p hp => ?_⟩
  · rw [e14, vp_updL_n _ _ (by omega)]
    exact (h.1.2.2 k hk2).2 p hp
  · rw [e14]
    by_cases e : p = j
    · rw [e, vp_updL_s]
      exact ⟨h1, h2⟩
    · rw [vp_updL_n _ _ (by omega)]
      exact h.2.2 p (by omega)
theorem bi_end {s s1 : nx_S} {i : Nat} (h : bi_P s i 6 s1) : bg_P s (i + 1) s1 := by
  refine ⟨h.1.1, h.1.2.1, fun k hk => ?_⟩
  by_cases e : k = i
  · rw [e]
    exact h.2
  · exact h.1.2.2 k (by omega)
/-- the state behind the stores of one STUFF -/
noncomputable def bg_s (s : nx_S) (i : Nat) (a b c d : Int32) : nx_S := nx_uj (nx_ui (nx_ui (nx_ui (nx_ui s 10 (upd (s.1 10) i a)) 11 (upd (s.1 11) i b)) 12 (upd (s.1 12) i c)) 13 (upd (s.1 13) i d)) 15 (vp_updL (s.2.1 15) i 1)
theorem bg_st {s s1 : nx_S} {i : Nat} {a b c d : Int32} (h : bg_P s i s1) (hi : i < 16) (ha : a.toInt = i) (hc : 1 ≤ c.toInt ∧ c.toInt ≤ 99) (hd : 1 ≤ d.toInt ∧ d.toInt ≤ 99) : bi_P s i 0 (bg_s s1 i a b c d) := by
  have e10 : (bg_s s1 i a b c d).1 10 = upd (s1.1 10) i a := rfl
  have e12 : (bg_s s1 i a b c d).1 12 = upd (s1.1 12) i c := rfl
  have e13 : (bg_s s1 i a b c d).1 13 = upd (s1.1 13) i d := rfl
  have e14 : (bg_s s1 i a b c d).2.1 14 = s1.2.1 14 := rfl
  have e15 : (bg_s s1 i a b c d).2.1 15 = vp_updL (s1.2.1 15) i 1 := rfl
  have eF : (bg_s s1 i a b c d).2.2 = s1.2.2 := rfl
  refine ⟨⟨⟨fun q q10 q11 q12 q13 => ?_, fun p p1 p2 p3 => ?_, ?_, fun k hk => ?_⟩, ?_, fun k hk => ⟨⟨?_, ?_, ?_, ?_⟩, fun p hp => ?_⟩⟩, ⟨?_, ?_, ?_, ?_⟩, fun p hp => absurd hp (Nat.not_lt_zero _)⟩
  · show (if q = 13 then _ else if q = 12 then _ else if q = 11 then _ else if q = 10 then _ else s1.1 q) = s.1 q
    rw [if_neg q13, if_neg q12, if_neg q11, if_neg q10]
    exact h.1.1 q q10 q11 q12 q13
  · rw [eF]
    exact h.1.2.1 p p1 p2 p3
  · rw [eF]
    exact h.1.2.2.1
  · rw [e10]
    by_cases e : k = i
    · rw [e, upd_s]
      omega
    · rw [upd_n _ _ e]
      exact h.1.2.2.2 k hk
  · rw [eF]
    exact h.2.1
  · rw [e10, upd_n _ _ (by omega)]
    exact (h.2.2 k hk).1.1
  · rw [e12, upd_n _ _ (by omega)]
    exact (h.2.2 k hk).1.2.1
  · rw [e13, upd_n _ _ (by omega)]
    exact (h.2.2 k hk).1.2.2.1
  · rw [e15, vp_updL_n _ _ (by omega)]
    exact (h.2.2 k hk).1.2.2.2
  · rw [e14]
    exact (h.2.2 k hk).2 p hp
  · rw [e10, upd_s]
    exact ha
  · rw [e12, upd_s]
    exact hc
  · rw [e13, upd_s]
    exact hd
  · rw [e15, vp_updL_s]
    rfl
set_option maxRecDepth 100000 in
theorem bg_in (Q : nk_Q) (s : nx_S) (law an : Int32) (i : Nat) (I : Int32) (hI : I.toInt = i) (hi : i < 16) (hq : ∀ (s1 : nx_S) (Z : Int32), bi_P s i 6 s1 → nk_wp kx_X6_begins kc_X6_begins Q 133 [some (.ref 0), some (.int law), some (.int an), some (.int I), some (.int Z)] [] (nx_enc s1 0 shR) 0 0) : ∀ (n j : Nat) (J : Int32) (s1 : nx_S), j + n = 6 → J.toInt = j → bi_P s i j s1 → nk_wp kx_X6_begins kc_X6_begins Q 88 [some (.ref 0), some (.int law), some (.int an), some (.int I), some (.int J)] [] (nx_enc s1 0 shR) 0 0 := by
  have h6 : (6 : Int32).toInt = 6 := rfl
  have h1 : (1 : Int32).toInt = 1 := rfl
  have h3 : (3 : Int32).toInt = 3 := rfl
  intro n
  induction n with
  | zero =>
    intro j J s1 hj hJ hp
    refine nx_s (nx_s (nx_s ?_))
    refine nk_br.t (i_le (by omega)) ?_
    have e : j = 6 := by omega
    subst e
    exact hq s1 J hp
  | succ n ih =>
    intro j J s1 hj hJ hp
    have e1 : (J + 1).toInt = ((j + 1 : Nat) : Int) := by
      rw [i_add (by omega) (by omega)]
      omega
    have ex : (6 * I + J).toInt = 6 * I.toInt + J.toInt := i_6k (by omega) (by omega) (by omega) (by omega)
    have ec : (6 * I + J).toNatClampNeg = 6 * i + j := nx_cl (by omega)
    have e3 : (5 * I + 3).toInt = 5 * I.toInt + 3 := i_5k (by omega) (by omega) (by decide) (by decide)
    refine nx_s (nx_s (nx_s ?_))
    refine nk_br.f (i_nle (by omega)) ?_
    refine nx_s (nx_s (nx_s (nx_s (nx_s (nx_s (nx_s (nx_s (nx_s (nx_s (nx_s (nx_s (nx_s (nx_s (nx_s ?_))))))))))))))
    refine ⟨nx_in (n := 80) (by omega) (by omega), ?_⟩
    refine nx_s (nx_s ?_)
    refine nk_br.mk (fun _ => ?_) (fun _ => ?_)
    · refine nx_s (nx_s (nx_s ?_))
      refine ⟨nx_in (n := 96) (by omega) (by omega), ?_⟩
      refine nx_s (nx_s ?_)
      rw [ec]
      exact ih (j + 1) (J + 1) _ (by omega) e1 (bi_st hp (by omega) (v := 1) (by decide) (by decide))
    · refine nx_s (nx_s ?_)
      refine ⟨nx_in (n := 96) (by omega) (by omega), ?_⟩
      refine nx_s (nx_s ?_)
      rw [ec]
      exact ih (j + 1) (J + 1) _ (by omega) e1 (bi_st hp (by omega) (v := 0) (by decide) (by decide))
set_option maxRecDepth 100000 in
set_option maxHeartbeats 4000000 in
theorem bg_loop (Q : nk_Q) (s : nx_S) (law an : Int32) (hInv : nx_Inv gR s) (hq : ∀ s1 : nx_S, bg_P s (s.2.2.1 0 10).toInt.toNat s1 → Q none (nx_enc s1 0 shR)) : ∀ (n i : Nat) (I : Int32) (o : Option Value) (s1 : nx_S), (i : Int) + n = (s.2.2.1 0 10).toInt → I.toInt = i → bg_P s i s1 → nk_wp kx_X6_begins kc_X6_begins Q 17 [some (.ref 0), some (.int law), some (.int an), some (.int I), o] [] (nx_enc s1 0 shR) 0 0 := by
  have hN := hInv.1 2 (0, 10) (0, 16) rfl rfl
  have hN1 : (s.2.2.1 0 10).toInt ≤ 16 := hN.2
  have h1 : (1 : Int32).toInt = 1 := rfl
  intro n
  induction n with
  | zero =>
    intro i I o s1 hi hI hp
    have eN : s1.2.2.1 0 10 = s.2.2.1 0 10 := hp.1.2.1 10 (by decide) (by decide) (by decide)
    refine nx_s (nx_s (nx_s (nx_s ?_)))
    refine nk_br.t (i_le (show (s1.2.2.1 0 10).toInt ≤ I.toInt by rw [eN]; omega)) ?_
    refine nx_s ?_
    have e : i = (s.2.2.1 0 10).toInt.toNat := by omega
    subst e
    exact hq s1 hp
  | succ n ih =>
    intro i I o s1 hi hI hp
    have eN : s1.2.2.1 0 10 = s.2.2.1 0 10 := hp.1.2.1 10 (by decide) (by decide) (by decide)
    have e7 : s1.1 7 = s.1 7 := hp.1.1 7 (by decide) (by decide) (by decide) (by decide)
    have eI : I.toNatClampNeg = i := nx_cl hI
    have e1 : (I + 1).toInt = ((i + 1 : Nat) : Int) := by
      rw [i_add (by omega) (by omega)]
      omega
    have x0 : (5 * I).toInt = 5 * I.toInt := i_50 (by omega) (by omega)
    have x1 : (5 * I + 1).toInt = 5 * I.toInt + 1 := i_5k (by omega) (by omega) (by decide) (by decide)
    have x2 : (5 * I + 2).toInt = 5 * I.toInt + 2 := i_5k (by omega) (by omega) (by decide) (by decide)
    have hper := hInv.2.2.2.1 i (by omega)
    have hc : 1 ≤ (s1.1 7 (5 * I + 1).toNatClampNeg).toInt ∧ (s1.1 7 (5 * I + 1).toNatClampNeg).toInt ≤ 99 := by
      rw [e7, nx_cl (x := 5 * I + 1) (k := 5 * i + 1) (by omega)]
      exact hper.1
    have hd : 1 ≤ (s1.1 7 (5 * I + 2).toNatClampNeg).toInt ∧ (s1.1 7 (5 * I + 2).toNatClampNeg).toInt ≤ 99 := by
      rw [e7, nx_cl (x := 5 * I + 2) (k := 5 * i + 2) (by omega)]
      exact hper.2
    refine nx_s (nx_s (nx_s (nx_s ?_)))
    refine nk_br.f (i_nle (show I.toInt < (s1.2.2.1 0 10).toInt by rw [eN]; omega)) ?_
    refine nx_s (nx_s (nx_s (nx_s (nx_s ?_))))
    refine ⟨nx_in (n := 16) (by omega) (by omega), ?_⟩
    refine nx_s (nx_s (nx_s (nx_s (nx_s (nx_s (nx_s (nx_s (nx_s ?_))))))))
    refine ⟨nx_in (n := 80) (by omega) (by omega), ?_⟩
    refine nx_s ?_
    refine ⟨nx_in (n := 16) (by omega) (by omega), ?_⟩
    refine nx_s (nx_s (nx_s (nx_s (nx_s (nx_s (nx_s (nx_s (nx_s (nx_s (nx_s ?_))))))))))
    refine ⟨nx_in (n := 80) (by omega) (by omega), ?_⟩
    refine nx_s ?_
    refine ⟨nx_in (n := 16) (by omega) (by omega), ?_⟩
    refine nx_s (nx_s (nx_s (nx_s (nx_s (nx_s (nx_s (nx_s (nx_s (nx_s (nx_s ?_))))))))))
    refine ⟨nx_in (n := 80) (by omega) (by omega), ?_⟩
    refine nx_s ?_
    refine ⟨nx_in (n := 16) (by omega) (by omega), ?_⟩
    refine nx_s (nx_s (nx_s (nx_s (nx_s ?_))))
    refine ⟨nx_in (n := 16) (by omega) (by omega), ?_⟩
    refine nx_s (nx_s ?_)
    rw [eI]
    refine bg_in Q s law an i I hI (by omega) (fun s2 Z h2 => ?_) 6 0 0 (bg_s s1 i I (s1.1 7 (5 * I).toNatClampNeg) (s1.1 7 (5 * I + 1).toNatClampNeg) (s1.1 7 (5 * I + 2).toNatClampNeg)) rfl rfl (bg_st hp (by omega) hI hc hd)
    refine nx_s (nx_s ?_)
    exact ih (i + 1) (I + 1) _ s2 (by omega) e1 (bi_end h2)
set_option maxRecDepth 100000 in
theorem bg_R (Q : nk_Q) (s : nx_S) (law an : Int32) (hInv : nx_Inv gR s) (hq : ∀ s1 : nx_S, bg_P s (s.2.2.1 0 10).toInt.toNat s1 → Q none (nx_enc s1 0 shR)) : ev_X6_begins [.ref 0, .int law, .int an] (nx_enc s 0 shR) Q := by
  have hN := hInv.1 2 (0, 10) (0, 16) rfl rfl
  have hN0 : 0 ≤ (s.2.2.1 0 10).toInt := hN.1
  refine nx_s (nx_s (nx_s (nx_s (nx_s (nx_s (nx_s (nx_s (nx_s ?_))))))))
  refine nk_bo0 ?_
  refine nx_s (nx_s ?_)
  have hf := nR_fr.rf hInv
  have hp : bg_P s 0 (nx_uf (nx_uf (nx_uf s 0 23 law) 0 24 an) 0 22 0) := by
    refine ⟨⟨hf.1, fun p h22 h23 h24 => ?_, ?_, hf.2.2.2⟩, rfl, fun k hk => absurd hk (Nat.not_lt_zero _)⟩
    · show (if 0 = 0 ∧ p = 22 then _ else if 0 = 0 ∧ p = 24 then _ else if 0 = 0 ∧ p = 23 then _ else s.2.2.1 0 p) = s.2.2.1 0 p
      rw [if_neg (fun e => h22 e.2), if_neg (fun e => h24 e.2), if_neg (fun e => h23 e.2)]
    · show 0 ≤ (0 : Int32).toInt ∧ (0 : Int32).toInt ≤ 1
      decide
  exact bg_loop Q s law an hInv hq (s.2.2.1 0 10).toInt.toNat 0 0 none _ (by omega) rfl hp
theorem nR_pxb {s s1 : nx_S} (h : bg_P s (s.2.2.1 0 10).toInt.toNat s1) : PXR 0 s1 := by
  have eN : s1.2.2.1 0 10 = s.2.2.1 0 10 := h.1.2.1 10 (by decide) (by decide) (by decide)
  have eB : nR_B 0 = 99 := rfl
  intro k hk
  rw [eN] at hk ⊢
  rw [eB]
  obtain ⟨⟨a1, a2, a3, a4⟩, a5⟩ := h.2.2 k (by omega)
  refine ⟨⟨by omega, by omega⟩, a2, a3, by omega, fun _ => ⟨by omega, fun p hp => ?_⟩⟩
  have := a5 p hp
  omega
