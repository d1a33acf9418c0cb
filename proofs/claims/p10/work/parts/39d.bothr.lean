/-! ===== what the calls do to ROWS, STUFFS, MAKINGS: the reference ===== -/
theorem zR_n {s : nx_S} {A : AS} {R : Int32} (h : aR s A) (r0 : 0 ≤ R.toInt) (r1 : R.toInt ≤ 5) : (0 ≤ (s.1 2 R.toNatClampNeg).toInt ↔ 0 ≤ A.1 R.toInt.toNat) ∧ (0 ≤ (s.1 2 R.toNatClampNeg).toInt → (s.1 2 R.toNatClampNeg).toInt = A.1 R.toInt.toNat) := by
  have e : R.toNatClampNeg = R.toInt.toNat := (Int32.toNat_toInt R).symm
  rw [e]
  exact zn_le (h.1 R.toInt.toNat (by omega))
theorem i_4r {r i : Int32} (h1 : 0 ≤ r.toInt) (h2 : r.toInt ≤ 5) (h3 : 0 ≤ i.toInt) (h4 : i.toInt ≤ 39) : (40 * r + i).toInt = 40 * r.toInt + i.toInt ∧ (40 * r + i).toNatClampNeg = 40 * r.toInt.toNat + i.toInt.toNat := by
  have e := (i_40 h1 h2 h3 h4).2
  exact ⟨e, nx_cl (by omega)⟩
set_option maxRecDepth 100000 in
set_option maxHeartbeats 4000000 in
theorem la_Ra (Q : nk_Q) (s : nx_S) (R I V : Int32) (hInv : nx_Inv gR s) (hJ : nJ s) (hq : ∀ (s1 : nx_S) (r : Int32), nx_Inv gR s1 → nJ s1 → (∀ A : AS, aR s A → aR s1 (g_lay A R I V)) → Q (some (.int r)) (nx_enc s1 0 shR)) : ev_X6_lay [.ref 0, .int R, .int I, .int V] (nx_enc s 0 shR) Q := by
  refine nx_s (nx_s (nx_s (nx_s ?_)))
  refine at_R _ s R I hInv (fun v r0 r1 i0 i1 => ?_) (fun hn => ?_) (fun s1 hm r0 r1 hn => ?_)
  · have eR : R.toInt.toNat = R.toNatClampNeg := Int32.toNat_toInt R
    have pr : (s.1 2 R.toNatClampNeg).toInt ≤ 40 := (hInv.2.1 2 6 [] rfl R.toNatClampNeg (by omega)).2
    have e := i_4r r0 r1 i0 (show I.toInt ≤ 39 by omega)
    refine nx_s (nx_s (nx_s ?_))
    refine nk_br.t (by decide) ?_
    refine nx_s (nx_s (nx_s (nx_s (nx_s (nx_s (nx_s (nx_s (nx_s ?_))))))))
    refine ⟨nx_in (n := 240) (by omega) (by omega), ?_⟩
    rw [e.2]
    refine nx_s (nx_s ?_)
    refine hq (nx_ui (nx_uf s 0 2 v) 3 (upd (s.1 3) (40 * R.toInt.toNat + I.toInt.toNat) V)) _ (cp_inv (ar_inv hInv) ⟨fun q h3 h4 => if_neg h3, rfl⟩) hJ (fun A h => ?_)
    have hz := zR_n h r0 r1
    unfold g_lay
    rw [if_pos (show okP A.1 R I from ⟨⟨r0, r1⟩, by omega, i0, by omega⟩)]
    exact aR_lay (aR_as h) (by omega) (fun _ _ => rfl) (fun _ _ _ _ => rfl) rfl
  · refine nx_s (nx_s (nx_s ?_))
    refine nk_br.f (by decide) ?_
    refine nx_s (nx_s ?_)
    exact hq s _ hInv hJ (fun A h => by unfold g_lay; rw [if_neg (fun c => hn c.1)]; exact h)
  · refine nx_s (nx_s (nx_s ?_))
    refine nk_br.f (by decide) ?_
    refine nx_s (nx_s ?_)
    refine hq s1 _ (me_inv hInv hm) (nJ_me hJ hm) (fun A h => ?_)
    have hz := zR_n h r0 r1
    unfold g_lay
    rw [if_neg (fun c => by
      have c2 := c.2
      omega)]
    exact aR_me hm h
set_option maxRecDepth 100000 in
set_option maxHeartbeats 4000000 in
theorem te_Ra (Q : nk_Q) (s : nx_S) (R : Int32) (hInv : nx_Inv gR s) (hJ : nJ s) (hq : ∀ (s1 : nx_S) (r : Int32), nx_Inv gR s1 → nJ s1 → (∀ A : AS, aR s A → aR s1 (g_tear A R)) → Q (some (.int r)) (nx_enc s1 0 shR)) : ev_X6_tear [.ref 0, .int R] (nx_enc s 0 shR) Q := by
  refine nx_s (nx_s (nx_s ?_))
  refine ak_Rx _ s R (fun r0 r1 sz => ?_) (fun hn => ?_) (fun s1 hm r0 r1 sz => ?_)
  rotate_left
  · refine nx_s (nx_s (nx_s ?_))
    refine nk_br.f (by decide) ?_
    refine nx_s (nx_s ?_)
    exact hq s _ hInv hJ (fun A h => by unfold g_tear; rw [if_neg (fun c => hn c.1)]; exact h)
  · refine nx_s (nx_s (nx_s ?_))
    refine nk_br.f (by decide) ?_
    refine nx_s (nx_s ?_)
    refine hq s1 _ (me_inv hInv hm) (nJ_me hJ hm) (fun A h => ?_)
    have hz := zR_n h r0 r1
    unfold g_tear
    rw [if_neg (fun c => by omega)]
    exact aR_me hm h
  have eR : R.toInt.toNat = R.toNatClampNeg := Int32.toNat_toInt R
  refine nx_s (nx_s (nx_s ?_))
  refine nk_br.t (by decide) ?_
  refine nx_s (nx_s (nx_s (nx_s (nx_s ?_))))
  refine ⟨nx_in (n := 6) (by omega) (by omega), ?_⟩
  refine nx_s (nx_s ?_)
  rw [← eR]
  refine hq (nx_ui s 2 (upd (s.1 2) R.toInt.toNat (-9))) _ (tz_inv hInv (by decide) (by decide)) hJ (fun A h => ?_)
  have hz := zR_n h r0 r1
  unfold g_tear
  rw [if_pos ⟨⟨r0, r1⟩, by omega⟩]
  refine aR_siz h (fun k hk => ?_) rfl
  show zn (-9 : Int32).toInt (if k = R.toInt.toNat then -1 else A.1 k) ∧ k = R.toInt.toNat ∨ (if k = R.toInt.toNat then -1 else A.1 k) = A.1 k ∧ k ≠ R.toInt.toNat
  by_cases ek : k = R.toInt.toNat
  · rw [if_pos ek]
    exact Or.inl ⟨Or.inr ⟨by decide, by decide⟩, ek⟩
  · rw [if_neg ek]
    exact Or.inr ⟨rfl, ek⟩
/-- row r with n places, the first i of them 0 -/
noncomputable def g_fill (A : AS) (r i : Nat) (n : Int) : AS := (fun k => if k = r then n else A.1 k, fun k j => if k = r ∧ j < i then 0 else A.2.1 k j, A.2.2)
theorem aR_fill {s : nx_S} {A : AS} {r i : Nat} {n : Int} (hi : i < 40) (h : aR s (g_fill A r i n)) : aR (nx_ui s 3 (upd (s.1 3) (40 * r + i) 0)) (g_fill A r (i + 1) n) := aR_lay h hi (fun _ _ => rfl) (fun k j hk hj => by
    show (if k = r ∧ j < i + 1 then 0 else A.2.1 k j) = if k = r ∧ j = i then 0 else if k = r ∧ j < i then 0 else A.2.1 k j
    by_cases e : k = r ∧ j = i
    · rw [if_pos e, if_pos ⟨e.1, by omega⟩]
    · rw [if_neg e]
      by_cases e2 : k = r ∧ j < i
      · rw [if_pos e2, if_pos ⟨e2.1, by omega⟩]
      · rw [if_neg e2, if_neg (fun q => by omega)]) rfl
set_option maxRecDepth 100000 in
theorem rl_Ra (Q : nk_Q) (s : nx_S) (R N : Int32) (r0 : 0 ≤ R.toInt) (r1 : R.toInt ≤ 5) (hq : ∀ s1 : nx_S, cp_P s s1 → (∀ A : AS, aR s (g_fill A R.toInt.toNat 0 N.toInt) → aR s1 (g_fill A R.toInt.toNat 40 N.toInt)) → Q (some (.int N)) (nx_enc s1 0 shR)) : ∀ (n i : Nat) (I : Int32) (s1 : nx_S), i + n = 40 → I.toInt = i → cp_P s s1 → (∀ A : AS, aR s (g_fill A R.toInt.toNat 0 N.toInt) → aR s1 (g_fill A R.toInt.toNat i N.toInt)) → nk_wp kx_X6_row kc_X6_row Q 34 [some (.ref 0), some (.int R), some (.int N), some (.int I)] [] (nx_enc s1 0 shR) 0 0 := by
  have h40 : (40 : Int32).toInt = 40 := rfl
  have h1 : (1 : Int32).toInt = 1 := rfl
  intro n
  induction n with
  | zero =>
    intro i I s1 hi hI hp ht
    have e : i = 40 := by omega
    subst e
    refine nx_s (nx_s (nx_s ?_))
    refine nk_br.t (i_le (by omega)) ?_
    refine nx_s (nx_s ?_)
    exact hq s1 hp ht
  | succ n ih =>
    intro i I s1 hi hI hp ht
    have e1 : (I + 1).toInt = ((i + 1 : Nat) : Int) := by
      rw [i_add (by omega) (by omega)]
      omega
    have ix := i_4r r0 r1 (show 0 ≤ I.toInt by omega) (show I.toInt ≤ 39 by omega)
    have ii : I.toInt.toNat = i := by omega
    refine nx_s (nx_s (nx_s ?_))
    refine nk_br.f (i_nle (by omega)) ?_
    refine nx_s (nx_s (nx_s (nx_s (nx_s (nx_s (nx_s (nx_s (nx_s ?_))))))))
    refine ⟨nx_in (n := 240) (by omega) (by omega), ?_⟩
    rw [ix.2, ii]
    refine nx_s (nx_s ?_)
    exact ih (i + 1) (I + 1) _ (by omega) e1 (cp_st hp 3 (Or.inl rfl) _) (fun A h => aR_fill (by omega) (ht A h))
set_option maxRecDepth 100000 in
set_option maxHeartbeats 4000000 in
theorem ro_Ra (Q : nk_Q) (s : nx_S) (R N : Int32) (hInv : nx_Inv gR s) (hJ : nJ s) (hq : ∀ (s1 : nx_S) (r : Int32), nx_Inv gR s1 → nJ s1 → (∀ A : AS, aR s A → aR s1 (g_row A R N)) → Q (some (.int r)) (nx_enc s1 0 shR)) : ev_X6_row [.ref 0, .int R, .int N] (nx_enc s 0 shR) Q := by
  have h40 : (40 : Int32).toInt = 40 := rfl
  have h0 : (0 : Int32).toInt = 0 := rfl
  have bad : ¬ ((0 ≤ R.toInt ∧ R.toInt ≤ 5) ∧ N.toInt ≤ 40) → nk_wp kx_X6_row kc_X6_row Q 13 [some (.ref 0), some (.int R), some (.int N), none] [] (nx_enc s 0 shR) 0 0 := by
    intro hn
    refine nx_s (nx_s ?_)
    exact hq s _ hInv hJ (fun A h => by unfold g_row; rw [if_neg (fun c => by omega)]; exact h)
  refine nx_s (nx_s ?_)
  refine ir_Rx _ s R (fun r0 r1 => ?_) (fun hn => ?_)
  rotate_left
  · refine nx_s ?_
    refine nk_br.t (by decide) ?_
    exact bad (fun h => hn h.1)
  refine nx_s ?_
  refine nk_br.f (by decide) ?_
  refine nx_s (nx_s (nx_s ?_))
  refine br_le (fun n1 => ?_) (fun n1 => ?_)
  rotate_left
  · exact bad (by omega)
  refine nx_s (nx_s ?_)
  refine br_le (fun n0 => ?_) (fun n0 => ?_)
  rotate_left
  · refine nx_s (nx_s (nx_s ?_))
    refine me_R _ s 5 (by decide) (by decide) (fun s1 hm => ?_)
    refine nx_s ?_
    exact hq s1 _ (me_inv hInv hm) (nJ_me hJ hm) (fun A h => by unfold g_row; rw [if_neg (fun c => by omega)]; exact aR_me hm h)
  have eR : R.toInt.toNat = R.toNatClampNeg := Int32.toNat_toInt R
  refine nx_s (nx_s (nx_s (nx_s (nx_s ?_))))
  refine ⟨nx_in (n := 6) (by omega) (by omega), ?_⟩
  refine nx_s (nx_s ?_)
  rw [← eR]
  refine rl_Ra Q (nx_ui s 2 (upd (s.1 2) R.toInt.toNat N)) R N r0 r1 (fun s1 hp ht => ?_) 40 0 0 _ rfl rfl ⟨fun _ _ _ => rfl, rfl⟩ (fun A h => h)
  refine hq s1 _ (cp_inv (tz_inv (k := R.toInt.toNat) hInv (show -9 ≤ N.toInt by omega) (show N.toInt ≤ 40 by omega)) hp) (nJ_s hJ (by rw [hp.2]; rfl) (by rw [hp.2]; exact Int.le_refl _)) (fun A h => ?_)
  have t1 := ht A (aR_siz h (fun k hk => ?_) ?_)
  · unfold g_row
    rw [if_pos ⟨⟨r0, r1⟩, by omega, by omega⟩]
    refine ⟨t1.1, fun k j hk hj => ?_, t1.2.2⟩
    have t2 : s1.1 3 (40 * k + j) = if k = R.toInt.toNat ∧ j < 40 then 0 else A.2.1 k j := t1.2.1 k j hk hj
    show s1.1 3 (40 * k + j) = if k = R.toInt.toNat then 0 else A.2.1 k j
    rw [t2]
    by_cases e : k = R.toInt.toNat
    · rw [if_pos ⟨e, hj⟩, if_pos e]
    · rw [if_neg (fun q => e q.1), if_neg e]
  · show zn N.toInt (if k = R.toInt.toNat then N.toInt else A.1 k) ∧ k = R.toInt.toNat ∨ (if k = R.toInt.toNat then N.toInt else A.1 k) = A.1 k ∧ k ≠ R.toInt.toNat
    by_cases e : k = R.toInt.toNat
    · rw [if_pos e]
      exact Or.inl ⟨Or.inl rfl, e⟩
    · rw [if_neg e]
      exact Or.inr ⟨rfl, e⟩
  · show ((fun k j => if k = R.toInt.toNat ∧ j < 0 then 0 else A.2.1 k j), A.2.2) = A.2
    refine Prod.ext (funext (fun k => funext (fun j => ?_))) rfl
    show (if k = R.toInt.toNat ∧ j < 0 then 0 else A.2.1 k j) = A.2.1 k j
    rw [if_neg (fun q => Nat.not_lt_zero j q.2)]
/-- k places copied -/
noncomputable def g_cpk (A : AS) (t j k : Nat) (g : Nat → Int32) : AS := (A.1, fun a m => if a = t ∧ j ≤ m ∧ m < j + k then g (m - j) else A.2.1 a m, A.2.2)
theorem aR_cpk {s : nx_S} {A : AS} {t j k : Nat} {g : Nat → Int32} (hi : j + k < 40) (h : aR s (g_cpk A t j k g)) : aR (nx_ui s 3 (upd (s.1 3) (40 * t + (j + k)) (g k))) (g_cpk A t j (k + 1) g) := aR_lay h hi (fun _ _ => rfl) (fun a m ha hm => by
    show (if a = t ∧ j ≤ m ∧ m < j + (k + 1) then g (m - j) else A.2.1 a m) = if a = t ∧ m = j + k then g k else if a = t ∧ j ≤ m ∧ m < j + k then g (m - j) else A.2.1 a m
    by_cases e : a = t ∧ m = j + k
    · rw [if_pos e, if_pos ⟨e.1, by omega, by omega⟩, e.2, show j + k - j = k by omega]
    · rw [if_neg e]
      by_cases e2 : a = t ∧ j ≤ m ∧ m < j + k
      · rw [if_pos e2, if_pos ⟨e2.1, e2.2.1, by omega⟩]
      · rw [if_neg e2, if_neg (fun q => by omega)]) rfl
set_option maxRecDepth 100000 in
set_option maxHeartbeats 4000000 in
theorem cp_l2a (Q : nk_Q) (s : nx_S) (R I T J N : Int32) (n : Nat) (hN : N.toInt = n) (hT0 : 0 ≤ T.toInt) (hT1 : T.toInt ≤ 5) (hJ0 : 0 ≤ J.toInt) (hJ1 : J.toInt + n ≤ 40) (hq : ∀ s1 : nx_S, cp_P s s1 → (∀ A : AS, aR s A → aR s1 (g_cpk A T.toInt.toNat J.toInt.toNat n (s.1 4))) → Q (some (.int 1)) (nx_enc s1 0 shR)) : ∀ (m k : Nat) (K : Int32) (s1 : nx_S), k + m = n → K.toInt = k → cp_P s s1 → s1.1 4 = s.1 4 → (∀ A : AS, aR s A → aR s1 (g_cpk A T.toInt.toNat J.toInt.toNat k (s.1 4))) → nk_wp kx_X6_copy kc_X6_copy Q 136 [some (.ref 0), some (.int R), some (.int I), some (.int T), some (.int J), some (.int N), some (.int K)] [] (nx_enc s1 0 shR) 0 0 := by
  have h1 : (1 : Int32).toInt = 1 := rfl
  intro m
  induction m with
  | zero =>
    intro k K s1 hk hK hp h4 ha
    have e : k = n := by omega
    subst e
    refine nx_s (nx_s (nx_s ?_))
    refine nk_br.t (i_le (by omega)) ?_
    refine nx_s (nx_s ?_)
    exact hq s1 hp ha
  | succ m ih =>
    intro k K s1 hk hK hp h4 ha
    have e1 : (K + 1).toInt = ((k + 1 : Nat) : Int) := by
      rw [i_add (by omega) (by omega)]
      omega
    have ej := (i_40 (r := T) (i := J) hT0 hT1 hJ0 (by omega)).2
    have ek : (40 * T + J + K).toInt = 40 * T.toInt + J.toInt + K.toInt := by
      rw [i_add (by omega) (by omega), ej]
    have eK : K.toNatClampNeg = k := nx_cl hK
    have ec : (40 * T + J + K).toNatClampNeg = 40 * T.toInt.toNat + (J.toInt.toNat + k) := nx_cl (by omega)
    refine nx_s (nx_s (nx_s ?_))
    refine nk_br.f (i_nle (by omega)) ?_
    refine nx_s (nx_s (nx_s (nx_s (nx_s (nx_s (nx_s (nx_s (nx_s (nx_s (nx_s (nx_s (nx_s ?_))))))))))))
    refine ⟨nx_in (n := 40) (by omega) (by omega), ?_⟩
    refine nx_s ?_
    refine ⟨nx_in (n := 240) (by omega) (by omega), ?_⟩
    rw [ec, eK, h4]
    refine nx_s (nx_s ?_)
    exact ih (k + 1) (K + 1) _ (by omega) e1 (cp_st hp 3 (Or.inl rfl) _) h4 (fun A h => aR_cpk (by omega) (ha A h))
set_option maxRecDepth 100000 in
set_option maxHeartbeats 4000000 in
theorem cp_l1a (Q : nk_Q) (s : nx_S) (R I T J N : Int32) (n : Nat) (hN : N.toInt = n) (hR0 : 0 ≤ R.toInt) (hR1 : R.toInt ≤ 5) (hI0 : 0 ≤ I.toInt) (hI1 : I.toInt + n ≤ 40) (hT0 : 0 ≤ T.toInt) (hT1 : T.toInt ≤ 5) (hJ0 : 0 ≤ J.toInt) (hJ1 : J.toInt + n ≤ 40) (hq : ∀ s1 : nx_S, cp_P s s1 → (∀ A : AS, aR s A → aR s1 (A.1, fun k m => if k = T.toInt.toNat ∧ J.toInt.toNat ≤ m ∧ m < J.toInt.toNat + N.toInt.toNat then A.2.1 R.toInt.toNat (I.toInt.toNat + (m - J.toInt.toNat)) else A.2.1 k m, A.2.2)) → Q (some (.int 1)) (nx_enc s1 0 shR)) : ∀ (m k : Nat) (K : Int32) (s1 : nx_S), k + m = n → K.toInt = k → cp_P s s1 → s1.1 3 = s.1 3 → (∀ m : Nat, m < k → s1.1 4 m = s.1 3 (40 * R.toInt.toNat + (I.toInt.toNat + m))) → nk_wp kx_X6_copy kc_X6_copy Q 104 [some (.ref 0), some (.int R), some (.int I), some (.int T), some (.int J), some (.int N), some (.int K)] [] (nx_enc s1 0 shR) 0 0 := by
  have h1 : (1 : Int32).toInt = 1 := rfl
  intro m
  induction m with
  | zero =>
    intro k K s1 hk hK hp h3 h4
    have e : k = n := by omega
    subst e
    refine nx_s (nx_s (nx_s ?_))
    refine nk_br.t (i_le (by omega)) ?_
    refine nx_s (nx_s ?_)
    refine cp_l2a Q s1 R I T J N k hN hT0 hT1 hJ0 hJ1 (fun s2 hp2 ha => ?_) k 0 0 s1 (by omega) rfl ⟨fun _ _ _ => rfl, rfl⟩ rfl (fun A h => ?_)
    · refine hq s2 ⟨fun q a b => (hp2.1 q a b).trans (hp.1 q a b), hp2.2.trans hp.2⟩ (fun A h => ?_)
      have hs1 : aR s1 A := aR_kp ⟨by rw [hp.2], by rw [hp.2]⟩ (fun q hq2 => by
        by_cases e3 : q = 3
        · rw [e3, h3]
        · have e4 : q ≠ 4 := fun e => by rw [e] at hq2; exact absurd hq2 (by decide)
          exact hp.1 q e3 e4) h
      have t := ha A hs1
      refine ⟨t.1, fun a m ha2 hm => ?_, t.2.2⟩
      have t2 : s2.1 3 (40 * a + m) = if a = T.toInt.toNat ∧ J.toInt.toNat ≤ m ∧ m < J.toInt.toNat + k then s1.1 4 (m - J.toInt.toNat) else A.2.1 a m := t.2.1 a m ha2 hm
      show s2.1 3 (40 * a + m) = if a = T.toInt.toNat ∧ J.toInt.toNat ≤ m ∧ m < J.toInt.toNat + N.toInt.toNat then A.2.1 R.toInt.toNat (I.toInt.toNat + (m - J.toInt.toNat)) else A.2.1 a m
      have eNk : N.toInt.toNat = k := by omega
      rw [t2, eNk]
      by_cases e : a = T.toInt.toNat ∧ J.toInt.toNat ≤ m ∧ m < J.toInt.toNat + k
      · rw [if_pos e, if_pos e, h4 _ (by omega)]
        exact h.2.1 _ _ (by omega) (by omega)
      · rw [if_neg e, if_neg e]
    · refine ⟨h.1, fun a m ha hm => ?_, h.2.2⟩
      show s1.1 3 (40 * a + m) = if a = T.toInt.toNat ∧ J.toInt.toNat ≤ m ∧ m < J.toInt.toNat + 0 then s1.1 4 (m - J.toInt.toNat) else A.2.1 a m
      rw [if_neg (fun q => by omega)]
      exact h.2.1 a m ha hm
  | succ m ih =>
    intro k K s1 hk hK hp h3 h4
    have e1 : (K + 1).toInt = ((k + 1 : Nat) : Int) := by
      rw [i_add (by omega) (by omega)]
      omega
    have ei : (I + K).toInt = I.toInt + K.toInt := i_add (by omega) (by omega)
    have er := i_4r (r := R) (i := I + K) hR0 hR1 (by omega) (by omega)
    have eK : K.toNatClampNeg = k := nx_cl hK
    have ec : (I + K).toInt.toNat = I.toInt.toNat + k := by omega
    refine nx_s (nx_s (nx_s ?_))
    refine nk_br.f (i_nle (by omega)) ?_
    refine nx_s (nx_s (nx_s (nx_s (nx_s (nx_s (nx_s (nx_s (nx_s ?_))))))))
    refine nx_s (nx_s (nx_s (nx_s (nx_s (nx_s (nx_s (nx_s ?_)))))))
    refine ⟨nx_in (n := 240) (by omega) (by omega), ?_⟩
    refine nx_s (nx_s ?_)
    refine ⟨nx_in (n := 40) (by omega) (by omega), ?_⟩
    rw [er.2, ec, eK, h3]
    refine nx_s (nx_s ?_)
    refine ih (k + 1) (K + 1) _ (by omega) e1 (cp_st hp 4 (Or.inr rfl) _) h3 (fun m hm => ?_)
    show upd (s1.1 4) k (s.1 3 (40 * R.toInt.toNat + (I.toInt.toNat + k))) m = _
    by_cases em : m = k
    · rw [em, upd_s]
    · rw [upd_n _ _ em]
      exact h4 m (by omega)
set_option maxRecDepth 100000 in
set_option maxHeartbeats 4000000 in
theorem cp_Ra (Q : nk_Q) (s : nx_S) (R I T J N : Int32) (hInv : nx_Inv gR s) (hJ : nJ s) (hq : ∀ (s1 : nx_S) (r : Int32), nx_Inv gR s1 → nJ s1 → (∀ A : AS, aR s A → aR s1 (g_copy A R I T J N)) → Q (some (.int r)) (nx_enc s1 0 shR)) : ev_X6_copy [.ref 0, .int R, .int I, .int T, .int J, .int N] (nx_enc s 0 shR) Q := by
  have a0 : (0 : Int32).toInt = 0 := rfl
  have no : ¬ ((0 ≤ R.toInt ∧ R.toInt ≤ 5) ∧ (0 ≤ T.toInt ∧ T.toInt ≤ 5)) → nk_wp kx_X6_copy kc_X6_copy Q 14 [some (.ref 0), some (.int R), some (.int I), some (.int T), some (.int J), some (.int N), none] [] (nx_enc s 0 shR) 0 0 := by
    intro hn
    refine nx_s (nx_s ?_)
    exact hq s (-1) hInv hJ (fun A h => by unfold g_copy; rw [if_neg (fun c => hn c.1)]; exact h)
  refine nx_s (nx_s ?_)
  refine ir_Rx _ s R (fun r0 r1 => ?_) (fun hn => ?_)
  rotate_left
  · refine nx_s ?_
    refine nk_br.t (by decide) ?_
    exact no (fun h => by omega)
  refine nx_s ?_
  refine nk_br.f (by decide) ?_
  refine nx_s (nx_s ?_)
  refine ir_Rx _ s T (fun t0 t1 => ?_) (fun hn => ?_)
  rotate_left
  · refine nx_s ?_
    refine nk_br.t (by decide) ?_
    exact no (fun h => by omega)
  refine nx_s ?_
  refine nk_br.f (by decide) ?_
  have hRT : (0 ≤ R.toInt ∧ R.toInt ≤ 5) ∧ (0 ≤ T.toInt ∧ T.toInt ≤ 5) := ⟨⟨r0, r1⟩, t0, t1⟩
  have keep : ¬ (0 ≤ N.toInt ∧ (0 ≤ (s.1 2 R.toNatClampNeg).toInt ∧ 0 ≤ (s.1 2 T.toNatClampNeg).toInt) ∧ (0 ≤ I.toInt ∧ I.toInt + N.toInt ≤ (s.1 2 R.toNatClampNeg).toInt) ∧ 0 ≤ J.toInt ∧ J.toInt + N.toInt ≤ (s.1 2 T.toNatClampNeg).toInt) → ∀ s1 : nx_S, (∀ A : AS, aR s A → aR s1 A) → ∀ A : AS, aR s A → aR s1 (g_copy A R I T J N) := fun hc s1 hk A h => by
    have w1 := zR_n h r0 r1
    have w2 := zR_n h t0 t1
    unfold g_copy
    rw [if_neg (fun c => by
      have c2 := c.2
      omega)]
    exact hk A h
  have me : ¬ (0 ≤ N.toInt ∧ (0 ≤ (s.1 2 R.toNatClampNeg).toInt ∧ 0 ≤ (s.1 2 T.toNatClampNeg).toInt) ∧ (0 ≤ I.toInt ∧ I.toInt + N.toInt ≤ (s.1 2 R.toNatClampNeg).toInt) ∧ 0 ≤ J.toInt ∧ J.toInt + N.toInt ≤ (s.1 2 T.toNatClampNeg).toInt) → ∀ (f : Int32) (L : nk_Ls) (pc : Nat), 0 ≤ f.toInt → f.toInt ≤ 5 → kc_X6_copy pc = some (.ireturn, 1, pc + 1, [], 0) → ev_X6_meets [.ref 0, .int f] (nx_enc s 0 shR) (fun v h' => nk_ret v [] (fun T' => nk_wp kx_X6_copy kc_X6_copy Q pc L T' h' 0 0)) := by
    intro hc f L pc h0 h5 hk
    refine me_R _ s f h0 h5 (fun s1 hm => ?_)
    refine nk_s ?_
    unfold nk_at
    rw [hk]
    exact hq s1 (-3) (me_inv hInv hm) (nJ_me hJ hm) (keep hc s1 (fun A h => aR_me hm h))
  refine nx_s (nx_s ?_)
  refine br_le (fun n0 => ?_) (fun n0 => ?_)
  rotate_left
  · refine nx_s (nx_s (nx_s ?_))
    exact me (fun h => by omega) 5 _ 26 (by decide) (by decide) rfl
  have pr := hInv.2.1 2 6 [] rfl R.toNatClampNeg (by have : R.toInt.toNat = R.toNatClampNeg := Int32.toNat_toInt R; omega)
  have pt := hInv.2.1 2 6 [] rfl T.toNatClampNeg (by have : T.toInt.toNat = T.toNatClampNeg := Int32.toNat_toInt T; omega)
  have pr1 : (s.1 2 R.toNatClampNeg).toInt ≤ 40 := pr.2
  have pt1 : (s.1 2 T.toNatClampNeg).toInt ≤ 40 := pt.2
  have eR : (s.1 2 R.toNatClampNeg).toInt64.toInt = (s.1 2 R.toNatClampNeg).toInt := Int32.toInt_toInt64 _
  have eT : (s.1 2 T.toNatClampNeg).toInt64.toInt = (s.1 2 T.toNatClampNeg).toInt := Int32.toInt_toInt64 _
  have bad : ¬ (0 ≤ N.toInt ∧ (0 ≤ (s.1 2 R.toNatClampNeg).toInt ∧ 0 ≤ (s.1 2 T.toNatClampNeg).toInt) ∧ (0 ≤ I.toInt ∧ I.toInt + N.toInt ≤ (s.1 2 R.toNatClampNeg).toInt) ∧ 0 ≤ J.toInt ∧ J.toInt + N.toInt ≤ (s.1 2 T.toNatClampNeg).toInt) → nk_wp kx_X6_copy kc_X6_copy Q 95 [some (.ref 0), some (.int R), some (.int I), some (.int T), some (.int J), some (.int N), none] [] (nx_enc s 0 shR) 0 0 := by
    intro hc
    refine nx_s (nx_s (nx_s ?_))
    exact me hc 2 _ 100 (by decide) (by decide) rfl
  have non : ¬ (0 ≤ N.toInt ∧ (0 ≤ (s.1 2 R.toNatClampNeg).toInt ∧ 0 ≤ (s.1 2 T.toNatClampNeg).toInt) ∧ (0 ≤ I.toInt ∧ I.toInt + N.toInt ≤ (s.1 2 R.toNatClampNeg).toInt) ∧ 0 ≤ J.toInt ∧ J.toInt + N.toInt ≤ (s.1 2 T.toNatClampNeg).toInt) → nk_wp kx_X6_copy kc_X6_copy Q 45 [some (.ref 0), some (.int R), some (.int I), some (.int T), some (.int J), some (.int N), none] [] (nx_enc s 0 shR) 0 0 := by
    intro hc
    refine nx_s (nx_s (nx_s ?_))
    exact me hc 1 _ 50 (by decide) (by decide) rfl
  refine nx_s (nx_s (nx_s (nx_s ?_)))
  refine ⟨nx_in (n := 6) (by omega) (by omega), ?_⟩
  refine nx_s ?_
  refine br_lt (fun z1 => non (fun h => by have z1 : (s.1 2 R.toNatClampNeg).toInt < (0 : Int32).toInt := z1; omega)) (fun z1 => ?_)
  have z1 : (0 : Int32).toInt ≤ (s.1 2 R.toNatClampNeg).toInt := z1
  refine nx_s (nx_s (nx_s (nx_s ?_)))
  refine ⟨nx_in (n := 6) (by omega) (by omega), ?_⟩
  refine nx_s ?_
  refine br_le (fun z2 => ?_) (fun z2 => non (fun h => by have z2 : (s.1 2 T.toNatClampNeg).toInt < (0 : Int32).toInt := z2; omega))
  have z2 : (0 : Int32).toInt ≤ (s.1 2 T.toNatClampNeg).toInt := z2
  refine nx_s (nx_s ?_)
  refine br_lt (fun i0 => bad (fun h => by omega)) (fun i0 => ?_)
  refine nx_s (nx_s ?_)
  refine br_lt (fun j0 => bad (fun h => by omega)) (fun j0 => ?_)
  refine nx_s (nx_s (nx_s (nx_s (nx_s (nx_s (nx_s (nx_s (nx_s ?_))))))))
  refine ⟨nx_in (n := 6) (by omega) (by omega), ?_⟩
  refine nx_s (nx_s (nx_s ?_))
  show nk_br (0 < lg_cmp (I.toInt64 + N.toInt64) (s.1 2 R.toNatClampNeg).toInt64) _ _
  by_cases hi : I.toInt + N.toInt ≤ (s.1 2 R.toNatClampNeg).toInt
  rotate_left
  · refine nk_br.t (ll_cg2.2 (by rw [ll_i2, eR]; omega)) ?_
    exact bad (fun h => by omega)
  refine nk_br.f (ll_cg2.1 (by rw [ll_i2, eR]; exact hi)) ?_
  refine nx_s (nx_s (nx_s (nx_s (nx_s (nx_s (nx_s (nx_s (nx_s ?_))))))))
  refine ⟨nx_in (n := 6) (by omega) (by omega), ?_⟩
  refine nx_s (nx_s (nx_s ?_))
  show nk_br (lg_cmp (J.toInt64 + N.toInt64) (s.1 2 T.toNatClampNeg).toInt64 ≤ 0) _ _
  by_cases hj : J.toInt + N.toInt ≤ (s.1 2 T.toNatClampNeg).toInt
  rotate_left
  · refine nk_br.f (ll_cl.2 (by rw [ll_i2, eT]; omega)) ?_
    exact bad (fun h => by omega)
  refine nk_br.t (ll_cl.1 (by rw [ll_i2, eT]; exact hj)) ?_
  refine nx_s (nx_s ?_)
  refine cp_l1a Q s R I T J N N.toInt.toNat (by omega) r0 r1 (by omega) (by omega) t0 t1 (by omega) (by omega) (fun s1 h1 ha => ?_) N.toInt.toNat 0 0 s (by omega) rfl ⟨fun _ _ _ => rfl, rfl⟩ rfl (fun m hm => absurd hm (Nat.not_lt_zero m))
  refine hq s1 1 (cp_inv hInv h1) (nJ_s hJ (by rw [h1.2]) (by rw [h1.2]; exact Int.le_refl _)) (fun A h => ?_)
  have w1 := zR_n h r0 r1
  have w2 := zR_n h t0 t1
  unfold g_copy
  rw [if_pos (show okM A.1 R I T J N from ⟨hRT, by omega, ⟨by omega, by omega⟩, ⟨by omega, by omega⟩, by omega, by omega⟩)]
  exact ha A h
/-! ### STUFFS of the reference -/
set_option maxRecDepth 100000 in
theorem i0_Rx (Q : nk_Q) (s : nx_S) (v : Int32) (h1 : 0 ≤ v.toInt → v.toInt ≤ 5 → Q (some (.int 1)) (nx_enc s 0 shR)) (h2 : ¬ (0 ≤ v.toInt ∧ v.toInt ≤ 5) → Q (some (.int 0)) (nx_enc s 0 shR)) : ev_X6_isPerson [.int v] (nx_enc s 0 shR) Q := by
  have a0 : (0 : Int32).toInt = 0 := rfl
  have a5 : (5 : Int32).toInt = 5 := rfl
  refine nx_s (nx_s (nx_s (nx_s ?_)))
  refine in_R _ _ v 0 5 (fun x y => ?_) (fun x => ?_)
  · refine nx_s ?_
    exact nk_bo1 (h1 (by omega) (by omega))
  · refine nx_s ?_
    exact nk_bo0 (h2 (by omega))
set_option maxRecDepth 100000 in
theorem iw_Rx (Q : nk_Q) (s : nx_S) (v : Int32) (h1 : 0 ≤ v.toInt → v.toInt ≤ 99 → Q (some (.int 1)) (nx_enc s 0 shR)) (h2 : ¬ (0 ≤ v.toInt ∧ v.toInt ≤ 99) → Q (some (.int 0)) (nx_enc s 0 shR)) : ev_X6_isWork [.int v] (nx_enc s 0 shR) Q := by
  have a0 : (0 : Int32).toInt = 0 := rfl
  have a9 : (99 : Int32).toInt = 99 := rfl
  refine nx_s (nx_s (nx_s (nx_s ?_)))
  refine in_R _ _ v 0 99 (fun x y => ?_) (fun x => ?_)
  · refine nx_s ?_
    exact nk_bo1 (h1 (by omega) (by omega))
  · refine nx_s ?_
    exact nk_bo0 (h2 (by omega))
set_option maxRecDepth 100000 in
theorem ar_Rx (Q : nk_Q) (s : nx_S) (a b c d : Int32) (h1 : okS a b c d → Q (some (.int 1)) (nx_enc s 0 shR)) (h2 : ¬ okS a b c d → Q (some (.int 0)) (nx_enc s 0 shR)) : ev_X6_areStuff [.int a, .int b, .int c, .int d] (nx_enc s 0 shR) Q := by
  have z0 : (0 : Int32).toInt = 0 := rfl
  have z1 : (1 : Int32).toInt = 1 := rfl
  have z9 : (9 : Int32).toInt = 9 := rfl
  have z99 : (99 : Int32).toInt = 99 := rfl
  have no : ¬ okS a b c d → nk_wp kx_X6_areStuff kc_X6_areStuff Q 41 [some (.int a), some (.int b), some (.int c), some (.int d)] [] (nx_enc s 0 shR) 0 0 := by
    intro hn
    refine nx_s (nx_s ?_)
    exact nk_bo0 (h2 hn)
  refine nx_s (nx_s (nx_s (nx_s ?_)))
  refine in_R _ _ a 0 9 (fun a0 a1 => ?_) (fun hn => ?_)
  rotate_left
  · refine nx_s ?_
    refine nk_br.t (by decide) ?_
    exact no (fun q => by have q1 := q.1; omega)
  refine nx_s ?_
  refine nk_br.f (by decide) ?_
  refine nx_s (nx_s (nx_s (nx_s ?_)))
  refine in_R _ _ b 1 99 (fun b0 b1 => ?_) (fun hn => ?_)
  rotate_left
  · refine nx_s ?_
    refine nk_br.t (by decide) ?_
    exact no (fun q => by have q1 := q.2.1; omega)
  refine nx_s ?_
  refine nk_br.f (by decide) ?_
  refine nx_s (nx_s (nx_s (nx_s ?_)))
  refine in_R _ _ c 1 99 (fun c0 c1 => ?_) (fun hn => ?_)
  rotate_left
  · refine nx_s ?_
    refine nk_br.t (by decide) ?_
    exact no (fun q => by have q1 := q.2.2.1; omega)
  refine nx_s ?_
  refine nk_br.f (by decide) ?_
  refine nx_s (nx_s ?_)
  refine i0_Rx _ s d (fun d0 d1 => ?_) (fun hn => ?_)
  rotate_left
  · refine nx_s ?_
    refine nk_br.t (by decide) ?_
    exact no (fun q => hn q.2.2.2)
  refine nx_s ?_
  refine nk_br.f (by decide) ?_
  refine nx_s (nx_s (nx_s ?_))
  exact nk_bo1 (h1 ⟨⟨by omega, by omega⟩, ⟨by omega, by omega⟩, ⟨by omega, by omega⟩, d0, d1⟩)
/-- the reference behind newStuff -/
noncomputable def ns_s (s : nx_S) (a b c d : Int32) : nx_S := nx_uf (nx_ui s 7 (upd (upd (upd (upd (upd (s.1 7) (5 * (s.2.2.1 0 10).toNatClampNeg) a) (5 * (s.2.2.1 0 10).toNatClampNeg + 1) b) (5 * (s.2.2.1 0 10).toNatClampNeg + 2) c) (5 * (s.2.2.1 0 10).toNatClampNeg + 3) d) (5 * (s.2.2.1 0 10).toNatClampNeg + 4) 0)) 0 10 (s.2.2.1 0 10 + 1)
set_option maxRecDepth 100000 in
set_option maxHeartbeats 4000000 in
theorem ns_Rx (Q : nk_Q) (s : nx_S) (a b c d : Int32) (hInv : nx_Inv gR s) (hN15 : (s.2.2.1 0 10).toInt ≤ 15) (hb0 : 1 ≤ b.toInt) (hb1 : b.toInt ≤ 99) (hc0 : 1 ≤ c.toInt) (hc1 : c.toInt ≤ 99) (hq : ∀ s1 : nx_S, s1 = ns_s s a b c d → nx_Inv gR s1 → Q (some (.int (s.2.2.1 0 10))) (nx_enc s1 0 shR)) : ev_X6_newStuff [.ref 0, .int a, .int b, .int c, .int d] (nx_enc s 0 shR) Q := by
  have hN := nR_N hInv
  refine nx_s (nx_s (nx_s ?_))
  show nk_wp kx_X6_newStuff kc_X6_newStuff Q 5 [some (.ref 0), some (.int a), some (.int b), some (.int c), some (.int d), none] [.int (s.2.2.1 0 10), .int 5] (nx_enc s 0 shR) 0 0
  have a1 : (1 : Int32).toInt = 1 := rfl
  have eN : ((s.2.2.1 0 10).toNatClampNeg : Int) = (s.2.2.1 0 10).toInt := by
    have : (s.2.2.1 0 10).toInt.toNat = (s.2.2.1 0 10).toNatClampNeg := Int32.toNat_toInt _
    omega
  have hNp : (s.2.2.1 0 10 + 1).toInt = (s.2.2.1 0 10).toInt + 1 := by
    rw [i_add (by omega) (by omega), a1]
  have hret : s.2.2.1 0 10 + 1 - 1 = s.2.2.1 0 10 := Int32.toInt_inj.mp (by
    rw [Int32.toInt_sub, hNp, a1, na_bm (show (-2147483648 : Int) ≤ _ by omega) (show _ ≤ (2147483647 : Int) by omega)]
    omega)
  have hper : PER s := hInv.2.2.2
  generalize hg : s.2.2.1 0 10 = N at *
  have x0 : (5 * N).toInt = 5 * N.toInt := i_50 (by omega) (by omega)
  have x1 : (5 * N + 1).toInt = 5 * N.toInt + 1 := i_5k (by omega) (by omega) (by decide) (by decide)
  have x2 : (5 * N + 2).toInt = 5 * N.toInt + 2 := i_5k (by omega) (by omega) (by decide) (by decide)
  have x3 : (5 * N + 3).toInt = 5 * N.toInt + 3 := i_5k (by omega) (by omega) (by decide) (by decide)
  have x4 : (5 * N + 4).toInt = 5 * N.toInt + 4 := i_5k (by omega) (by omega) (by decide) (by decide)
  have c0 : (5 * N).toNatClampNeg = 5 * N.toNatClampNeg := nx_cl (by omega)
  have c1 : (5 * N + 1).toNatClampNeg = 5 * N.toNatClampNeg + 1 := nx_cl (by omega)
  have c2 : (5 * N + 2).toNatClampNeg = 5 * N.toNatClampNeg + 2 := nx_cl (by omega)
  have c3 : (5 * N + 3).toNatClampNeg = 5 * N.toNatClampNeg + 3 := nx_cl (by omega)
  have c4 : (5 * N + 4).toNatClampNeg = 5 * N.toNatClampNeg + 4 := nx_cl (by omega)
  refine nx_s (nx_s (nx_s (nx_s (nx_s (nx_s (nx_s ?_))))))
  refine ⟨nx_in (n := 80) (by omega) (by omega), ?_⟩
  refine nx_s (nx_s (nx_s (nx_s (nx_s (nx_s (nx_s ?_))))))
  refine ⟨nx_in (n := 80) (by omega) (by omega), ?_⟩
  refine nx_s (nx_s (nx_s (nx_s (nx_s (nx_s (nx_s ?_))))))
  refine ⟨nx_in (n := 80) (by omega) (by omega), ?_⟩
  refine nx_s (nx_s (nx_s (nx_s (nx_s (nx_s (nx_s ?_))))))
  refine ⟨nx_in (n := 80) (by omega) (by omega), ?_⟩
  refine nx_s (nx_s (nx_s (nx_s (nx_s (nx_s (nx_s ?_))))))
  refine ⟨nx_in (n := 80) (by omega) (by omega), ?_⟩
  rw [c0, c1, c2, c3, c4, nx_uu, nx_u1, nx_uu, nx_u1, nx_uu, nx_u1, nx_uu, nx_u1]
  refine nx_s (nx_s (nx_s (nx_s (nx_s (nx_s (nx_s (nx_s (nx_s (nx_s (nx_s ?_))))))))))
  show Q (some (.int (s.2.2.1 0 10 + 1 - 1))) (nx_enc (nx_uf (nx_ui s 7 (upd (upd (upd (upd (upd (s.1 7) (5 * N.toNatClampNeg) a) (5 * N.toNatClampNeg + 1) b) (5 * N.toNatClampNeg + 2) c) (5 * N.toNatClampNeg + 3) d) (5 * N.toNatClampNeg + 4) 0)) 0 10 (s.2.2.1 0 10 + 1)) 0 shR)
  rw [hg, hret]
  have f10 : (nx_uf (nx_ui s 7 (upd (upd (upd (upd (upd (s.1 7) (5 * N.toNatClampNeg) a) (5 * N.toNatClampNeg + 1) b) (5 * N.toNatClampNeg + 2) c) (5 * N.toNatClampNeg + 3) d) (5 * N.toNatClampNeg + 4) 0)) 0 10 (N + 1)).2.2.1 0 10 = N + 1 := rfl
  have e7 : (nx_uf (nx_ui s 7 (upd (upd (upd (upd (upd (s.1 7) (5 * N.toNatClampNeg) a) (5 * N.toNatClampNeg + 1) b) (5 * N.toNatClampNeg + 2) c) (5 * N.toNatClampNeg + 3) d) (5 * N.toNatClampNeg + 4) 0)) 0 10 (N + 1)).1 7 = upd (upd (upd (upd (upd (s.1 7) (5 * N.toNatClampNeg) a) (5 * N.toNatClampNeg + 1) b) (5 * N.toNatClampNeg + 2) c) (5 * N.toNatClampNeg + 3) d) (5 * N.toNatClampNeg + 4) 0 := rfl
  have e8 : (nx_uf (nx_ui s 7 (upd (upd (upd (upd (upd (s.1 7) (5 * N.toNatClampNeg) a) (5 * N.toNatClampNeg + 1) b) (5 * N.toNatClampNeg + 2) c) (5 * N.toNatClampNeg + 3) d) (5 * N.toNatClampNeg + 4) 0)) 0 10 (N + 1)).1 8 = s.1 8 := rfl
  have fr7 : ∀ q : Nat, q ≠ 7 → (nx_uf (nx_ui s 7 (upd (upd (upd (upd (upd (s.1 7) (5 * N.toNatClampNeg) a) (5 * N.toNatClampNeg + 1) b) (5 * N.toNatClampNeg + 2) c) (5 * N.toNatClampNeg + 3) d) (5 * N.toNatClampNeg + 4) 0)) 0 10 (N + 1)).1 q = s.1 q := fun q h7 => by
    show (if q = 7 then _ else s.1 q) = s.1 q
    rw [if_neg h7]
  have frF : ∀ p : Nat, p ≠ 10 → (nx_uf (nx_ui s 7 (upd (upd (upd (upd (upd (s.1 7) (5 * N.toNatClampNeg) a) (5 * N.toNatClampNeg + 1) b) (5 * N.toNatClampNeg + 2) c) (5 * N.toNatClampNeg + 3) d) (5 * N.toNatClampNeg + 4) 0)) 0 10 (N + 1)).2.2.1 0 p = s.2.2.1 0 p := fun p h10 => by
    show (if 0 = 0 ∧ p = 10 then _ else s.2.2.1 0 p) = s.2.2.1 0 p
    rw [if_neg (fun e => h10 e.2)]
  refine hq _ (by unfold ns_s; rw [hg]) (nR_inv7 hInv fr7 frF ⟨by rw [f10]; omega, by rw [f10]; omega⟩ ?_)
  unfold PER
  rw [f10, e7, e8, hNp]
  unfold PER at hper
  rw [hg] at hper
  refine ⟨fun k hk => ?_, fun m hm => ?_⟩
  · by_cases e : k = N.toNatClampNeg
    · rw [e, upd_n _ _ (by omega), upd_n _ _ (by omega), upd_n _ _ (by omega), upd_s, upd_n _ _ (by omega), upd_n _ _ (by omega), upd_s]
      exact ⟨⟨hb0, hb1⟩, hc0, hc1⟩
    · rw [upd_n _ _ (by omega), upd_n _ _ (by omega), upd_n _ _ (by omega), upd_n _ _ (by omega), upd_n _ _ (by omega), upd_n _ _ (by omega), upd_n _ _ (by omega), upd_n _ _ (by omega), upd_n _ _ (by omega), upd_n _ _ (by omega)]
      exact hper.1 k (by omega)
  · rcases hper.2 m hm with h | h
    · exact Or.inl h
    · refine Or.inr ⟨by omega, ?_⟩
      rcases h.2 with h2 | h2
      · exact Or.inl (by omega)
      · exact Or.inr h2
theorem aR_add {s : nx_S} {A : AS} (a b c d : Int32) (h : aR s A) (hI : aI A) (n0 : 0 ≤ (s.2.2.1 0 10).toInt) (n1 : (s.2.2.1 0 10).toInt ≤ 15) : aR (ns_s s a b c d) (g_add A a b c d) := by
  obtain ⟨h1, h2, h5, h6, h7, h8⟩ := h
  have nq : ∀ q : Nat, q ≠ 7 → (ns_s s a b c d).1 q = s.1 q := fun q e => if_neg e
  have nf : ∀ p : Nat, p ≠ 10 → (ns_s s a b c d).2.2.1 0 p = s.2.2.1 0 p := fun p e => if_neg (fun q => e q.2)
  have en : (s.2.2.1 0 10).toNatClampNeg = A.2.2.1.1.toInt.toNat := by
    rw [← h5]
    exact (Int32.toNat_toInt _).symm
  refine ⟨fun k hk => ?_, fun k i hk hi => ?_, ?_, ?_, fun i hi => ?_, fun i hi => ?_⟩
  · rw [nq 2 (by decide)]
    exact h1 k hk
  · rw [nq 3 (by decide)]
    exact h2 k i hk hi
  · show s.2.2.1 0 10 + 1 = A.2.2.1.1 + 1
    rw [h5]
  · rw [nf 12 (by decide)]
    exact h6
  · show upd (upd (upd (upd (upd (s.1 7) (5 * (s.2.2.1 0 10).toNatClampNeg) a) (5 * (s.2.2.1 0 10).toNatClampNeg + 1) b) (5 * (s.2.2.1 0 10).toNatClampNeg + 2) c) (5 * (s.2.2.1 0 10).toNatClampNeg + 3) d) (5 * (s.2.2.1 0 10).toNatClampNeg + 4) 0 i = upd (upd (upd (upd A.2.2.2.1 (5 * A.2.2.1.1.toInt.toNat) a) (5 * A.2.2.1.1.toInt.toNat + 1) b) (5 * A.2.2.1.1.toInt.toNat + 2) c) (5 * A.2.2.1.1.toInt.toNat + 3) d i
    rw [en]
    by_cases e : i = 5 * A.2.2.1.1.toInt.toNat + 4
    · rw [e, upd_s, upd_n _ _ (by omega), upd_n _ _ (by omega), upd_n _ _ (by omega), upd_n _ _ (by omega)]
      have := hI (5 * A.2.2.1.1.toInt.toNat + 4) (by rw [h5] at n0; omega) (by rw [h5] at n1; omega)
      exact this.symm
    · rw [upd_n _ _ e]
      exact upd_c (upd_c (upd_c (upd_c (h7 i hi))))
  · rw [nq 8 (by decide)]
    exact h8 i hi
theorem aI_add {A : AS} {a b c d : Int32} (hI : aI A) (n0 : 0 ≤ A.2.2.1.1.toInt) (n1 : A.2.2.1.1.toInt ≤ 15) : aI (g_add A a b c d) := fun i h1 h2 => by
  have z1 : (1 : Int32).toInt = 1 := rfl
  have h1 : 5 * (A.2.2.1.1 + 1).toInt ≤ i := h1
  rw [i_add (by omega) (by omega), z1] at h1
  show upd (upd (upd (upd A.2.2.2.1 (5 * A.2.2.1.1.toInt.toNat) a) (5 * A.2.2.1.1.toInt.toNat + 1) b) (5 * A.2.2.1.1.toInt.toNat + 2) c) (5 * A.2.2.1.1.toInt.toNat + 3) d i = 0
  rw [upd_n _ _ (by omega), upd_n _ _ (by omega), upd_n _ _ (by omega), upd_n _ _ (by omega)]
  exact hI i (by omega) h2
theorem ns_J {s : nx_S} {a b c d : Int32} (hJ : nJ s) (hInv : nx_Inv gR s) (n1 : (s.2.2.1 0 10).toInt ≤ 15) : nJ (ns_s s a b c d) := by
  have hN := nR_N hInv
  have z1 : (1 : Int32).toInt = 1 := rfl
  refine nJ_s hJ rfl ?_
  show (s.2.2.1 0 10).toInt ≤ (s.2.2.1 0 10 + 1).toInt
  rw [i_add (by omega) (by omega), z1]
  omega
set_option maxRecDepth 100000 in
set_option maxHeartbeats 4000000 in
theorem su_Ra (Q : nk_Q) (s : nx_S) (a b c d : Int32) (hInv : nx_Inv gR s) (hJ : nJ s) (hq : ∀ (s1 : nx_S) (r : Int32), nx_Inv gR s1 → nJ s1 → (∀ A : AS, aR s A → aI A → aR s1 (g_stuff A a b c d) ∧ aI (g_stuff A a b c d) ∧ r = f_stuff A a b c d) → Q (some (.int r)) (nx_enc s1 0 shR)) : ev_X6_stuff [.ref 0, .int a, .int b, .int c, .int d] (nx_enc s 0 shR) Q := by
  have h16 : (16 : Int32).toInt = 16 := rfl
  have hN := nR_N hInv
  refine nx_s (nx_s (nx_s (nx_s (nx_s ?_))))
  refine ar_Rx _ s a b c d (fun ok => ?_) (fun no => ?_)
  rotate_left
  · refine nx_s ?_
    refine nk_br.t (by decide) ?_
    refine nx_s (nx_s ?_)
    refine hq s _ hInv hJ (fun A h hI => ?_)
    unfold g_stuff f_stuff
    rw [if_neg (fun q => no q.1), if_neg no]
    exact ⟨h, hI, rfl⟩
  refine nx_s ?_
  refine nk_br.f (by decide) ?_
  refine nx_s (nx_s (nx_s (nx_s ?_)))
  refine br_eq (fun e => ?_) (fun e => ?_)
  · have e : (s.2.2.1 0 10).toInt = (16 : Int32).toInt := e
    refine nx_s (nx_s (nx_s ?_))
    refine hq s _ hInv hJ (fun A h hI => ?_)
    have h5 := h.2.2.1
    rw [h5] at e
    unfold g_stuff f_stuff
    rw [if_neg (fun q => by have q2 := q.2; omega), if_pos ok, if_neg (by omega)]
    exact ⟨h, hI, rfl⟩
  · have e : (s.2.2.1 0 10).toInt ≠ (16 : Int32).toInt := e
    refine nx_s (nx_s (nx_s (nx_s (nx_s (nx_s ?_)))))
    refine ns_Rx _ s a b c d hInv (by omega) ok.2.1.1 ok.2.1.2 ok.2.2.1.1 ok.2.2.1.2 (fun s1 he h1 => ?_)
    subst he
    refine nx_s ?_
    refine hq _ _ h1 (ns_J hJ hInv (by omega)) (fun A h hI => ?_)
    have h5 := h.2.2.1
    have e2 : A.2.2.1.1.toInt < 16 := by rw [← h5]; omega
    unfold g_stuff f_stuff
    rw [if_pos ⟨ok, e2⟩, if_pos ok, if_pos e2]
    exact ⟨aR_add a b c d h hI hN.1 (by omega), aI_add hI (by rw [← h5]; exact hN.1) (by omega), h5⟩
set_option maxRecDepth 100000 in
set_option maxHeartbeats 4000000 in
theorem st_R1a (Q : nk_Q) (s : nx_S) (R B N : Int32) (k : Nat) (r0 : 0 ≤ R.toInt) (r1 : R.toInt ≤ 5) (hz : (s.1 2 R.toNatClampNeg).toInt = 4 * k) (hk : k ≤ 10)
    (hend : ∀ G I : Int32, (G ≠ 0 → okF (fun j => s.1 3 (40 * R.toInt.toNat + j)) k) → (G = 0 → ¬ okF (fun j => s.1 3 (40 * R.toInt.toNat + j)) k) → nk_wp kx_X6_stuffs kc_X6_stuffs Q 127 [some (.ref 0), some (.int R), some (.int B), some (.int N), some (.int G), some (.int I)] [] (nx_enc s 0 shR) 0 0) :
    ∀ (n i : Nat) (G I : Int32), i + n = k → I.toInt = 4 * i → (G ≠ 0 → okF (fun j => s.1 3 (40 * R.toInt.toNat + j)) i) → (G = 0 → ¬ okF (fun j => s.1 3 (40 * R.toInt.toNat + j)) i) → nk_wp kx_X6_stuffs kc_X6_stuffs Q 58 [some (.ref 0), some (.int R), some (.int B), some (.int N), some (.int G), some (.int I)] [] (nx_enc s 0 shR) 0 0 := by
  have z1 : (1 : Int32).toInt = 1 := rfl
  have z2 : (2 : Int32).toInt = 2 := rfl
  have z3 : (3 : Int32).toInt = 3 := rfl
  have z4 : (4 : Int32).toInt = 4 := rfl
  have eR : R.toNatClampNeg = R.toInt.toNat := (Int32.toNat_toInt R).symm
  intro n
  induction n with
  | zero =>
    intro i G I hi hI hG hG0
    refine nx_s (nx_s (nx_s (nx_s (nx_s ?_))))
    refine ⟨nx_in (n := 6) (by omega) (by omega), ?_⟩
    refine nx_s ?_
    refine br_le (fun _ => ?_) (fun e => ?_)
    · have e : i = k := by omega
      subst e
      exact hend G I hG hG0
    · exfalso
      have e : I.toInt < (s.1 2 R.toNatClampNeg).toInt := e
      omega
  | succ n ih =>
    intro i G I hi hI hG hG0
    have e1 : (I + 1).toInt = I.toInt + 1 := by rw [i_add (by omega) (by omega), z1]
    have e2 : (I + 2).toInt = I.toInt + 2 := by rw [i_add (by omega) (by omega), z2]
    have e3 : (I + 3).toInt = I.toInt + 3 := by rw [i_add (by omega) (by omega), z3]
    have e4 : (I + 4).toInt = I.toInt + 4 := by rw [i_add (by omega) (by omega), z4]
    have c0 : I.toNatClampNeg = 4 * i := nx_cl (by omega)
    have c1 : (I + 1).toNatClampNeg = 4 * i + 1 := nx_cl (by omega)
    have c2 : (I + 2).toNatClampNeg = 4 * i + 2 := nx_cl (by omega)
    have c3 : (I + 3).toNatClampNeg = 4 * i + 3 := nx_cl (by omega)
    refine nx_s (nx_s (nx_s (nx_s (nx_s ?_))))
    refine ⟨nx_in (n := 6) (by omega) (by omega), ?_⟩
    refine nx_s ?_
    refine br_le (fun e => ?_) (fun e => ?_)
    · exfalso
      have e : (s.1 2 R.toNatClampNeg).toInt ≤ I.toInt := e
      omega
    have bad : ¬ okF (fun j => s.1 3 (40 * R.toInt.toNat + j)) (i + 1) → nk_wp kx_X6_stuffs kc_X6_stuffs Q 118 [some (.ref 0), some (.int R), some (.int B), some (.int N), some (.int G), some (.int I)] [] (nx_enc s 0 shR) 0 0 := by
      intro hn
      refine nx_s (nx_s (nx_s (nx_s ?_)))
      exact ih (i + 1) 0 (I + 4) (by omega) (by omega) (fun h => absurd rfl h) (fun _ => hn)
    refine nx_s (nx_s ?_)
    refine nk_br.mk (fun hg => bad (fun q => hG0 hg (fun j hj => q j (by omega)))) (fun hg => ?_)
    refine nx_s (nx_s (nx_s (nx_s ?_)))
    refine ra_R _ s R I r0 r1 (by omega) (by omega) ?_
    refine nx_s (nx_s (nx_s (nx_s (nx_s (nx_s ?_)))))
    refine ra_R _ s R (I + 1) r0 r1 (by omega) (by omega) ?_
    refine nx_s (nx_s (nx_s (nx_s (nx_s (nx_s ?_)))))
    refine ra_R _ s R (I + 2) r0 r1 (by omega) (by omega) ?_
    refine nx_s (nx_s (nx_s (nx_s (nx_s (nx_s ?_)))))
    refine ra_R _ s R (I + 3) r0 r1 (by omega) (by omega) ?_
    rw [c0, c1, c2, c3, eR]
    refine nx_s ?_
    refine ar_Rx _ s _ _ _ _ (fun ok => ?_) (fun no => ?_)
    · refine nx_s ?_
      refine nk_br.f (by decide) ?_
      refine nx_s (nx_s (nx_s (nx_s (nx_s ?_))))
      refine ih (i + 1) 1 (I + 4) (by omega) (by omega) (fun _ j hj => ?_) (fun h => absurd h (by decide))
      by_cases ej : j = i
      · rw [ej]
        exact ok
      · exact hG hg j (by omega)
    · refine nx_s ?_
      refine nk_br.t (by decide) ?_
      exact bad (fun q => no (q i (by omega)))
theorem aI_fours {A : AS} {w : Nat → Int32} (hI : aI A) (n0 : 0 ≤ A.2.2.1.1.toInt) : ∀ k : Nat, A.2.2.1.1.toInt + k ≤ 16 → aI (g_fours A w k) ∧ (g_fours A w k).2.2.1.1.toInt = A.2.2.1.1.toInt + k
  | 0, _ => ⟨hI, by show A.2.2.1.1.toInt = A.2.2.1.1.toInt + ((0 : Nat) : Int); omega⟩
  | k + 1, h => by
    have z1 : (1 : Int32).toInt = 1 := rfl
    have t := aI_fours (w := w) hI n0 k (by omega)
    refine ⟨aI_add t.1 (by omega) (by omega), ?_⟩
    show ((g_fours A w k).2.2.1.1 + 1).toInt = _
    rw [i_add (by omega) (by omega), z1, t.2]
    omega
set_option maxRecDepth 100000 in
set_option maxHeartbeats 4000000 in
theorem st_R2a (Q : nk_Q) (s0 : nx_S) (w : Nat → Int32) (R B N G : Int32) (k : Nat) (z : Nat → Int32) (n0 : 0 ≤ (s0.2.2.1 0 10).toInt) (nk16 : (s0.2.2.1 0 10).toInt + k ≤ 16) (r0 : 0 ≤ R.toInt) (r1 : R.toInt ≤ 5) (hz : (z R.toNatClampNeg).toInt = 4 * k) (hk : k ≤ 10) (hG : okF w k) (hq : ∀ s1 : nx_S, nx_Inv gR s1 → nJ s1 → (∀ A : AS, aR s0 A → aI A → aR s1 (g_fours A w k)) → Q (some (.int N)) (nx_enc s1 0 shR)) :
    ∀ (n i : Nat) (I : Int32) (s : nx_S), (∀ A : AS, aR s0 A → aI A → aR s (g_fours A w i)) → (s.2.2.1 0 10).toInt = (s0.2.2.1 0 10).toInt + i → i + n = k → I.toInt = 4 * i → nx_Inv gR s → nJ s → s.1 2 = z → (∀ j : Nat, j < 40 → s.1 3 (40 * R.toInt.toNat + j) = w j) → nk_wp kx_X6_stuffs kc_X6_stuffs Q 141 [some (.ref 0), some (.int R), some (.int B), some (.int N), some (.int G), some (.int I)] [] (nx_enc s 0 shR) 0 0 := by
  have z1 : (1 : Int32).toInt = 1 := rfl
  have z2 : (2 : Int32).toInt = 2 := rfl
  have z3 : (3 : Int32).toInt = 3 := rfl
  have z4 : (4 : Int32).toInt = 4 := rfl
  have eR : R.toNatClampNeg = R.toInt.toNat := (Int32.toNat_toInt R).symm
  intro n
  induction n with
  | zero =>
    intro i I s hA hNi hi hI hInv hJ hs2 hs3
    refine nx_s (nx_s (nx_s (nx_s (nx_s ?_))))
    refine ⟨nx_in (n := 6) (by omega) (by omega), ?_⟩
    rw [← hs2] at hz
    refine nx_s ?_
    refine br_le (fun _ => ?_) (fun e => ?_)
    · refine nx_s (nx_s ?_)
      have e : i = k := by omega
      subst e
      exact hq s hInv hJ hA
    · exfalso
      have e : I.toInt < (s.1 2 R.toNatClampNeg).toInt := e
      omega
  | succ n ih =>
    intro i I s hA hNi hi hI hInv hJ hs2 hs3
    have hN := nR_N hInv
    have e1 : (I + 1).toInt = I.toInt + 1 := by rw [i_add (by omega) (by omega), z1]
    have e2 : (I + 2).toInt = I.toInt + 2 := by rw [i_add (by omega) (by omega), z2]
    have e3 : (I + 3).toInt = I.toInt + 3 := by rw [i_add (by omega) (by omega), z3]
    have e4 : (I + 4).toInt = I.toInt + 4 := by rw [i_add (by omega) (by omega), z4]
    have c0 : I.toNatClampNeg = 4 * i := nx_cl (by omega)
    have c1 : (I + 1).toNatClampNeg = 4 * i + 1 := nx_cl (by omega)
    have c2 : (I + 2).toNatClampNeg = 4 * i + 2 := nx_cl (by omega)
    have c3 : (I + 3).toNatClampNeg = 4 * i + 3 := nx_cl (by omega)
    refine nx_s (nx_s (nx_s (nx_s (nx_s ?_))))
    refine ⟨nx_in (n := 6) (by omega) (by omega), ?_⟩
    have hz2 : (s.1 2 R.toNatClampNeg).toInt = 4 * k := by rw [hs2]; exact hz
    refine nx_s ?_
    refine br_le (fun e => ?_) (fun e => ?_)
    · exfalso
      have e : (s.1 2 R.toNatClampNeg).toInt ≤ I.toInt := e
      omega
    have hw := hG i (by omega)
    refine nx_s (nx_s (nx_s (nx_s (nx_s ?_))))
    refine ra_R _ s R I r0 r1 (by omega) (by omega) ?_
    refine nx_s (nx_s (nx_s (nx_s (nx_s (nx_s ?_)))))
    refine ra_R _ s R (I + 1) r0 r1 (by omega) (by omega) ?_
    refine nx_s (nx_s (nx_s (nx_s (nx_s (nx_s ?_)))))
    refine ra_R _ s R (I + 2) r0 r1 (by omega) (by omega) ?_
    refine nx_s (nx_s (nx_s (nx_s (nx_s (nx_s ?_)))))
    refine ra_R _ s R (I + 3) r0 r1 (by omega) (by omega) ?_
    rw [c0, c1, c2, c3, eR, hs3 _ (by omega), hs3 _ (by omega), hs3 _ (by omega), hs3 _ (by omega)]
    refine nx_s ?_
    refine ns_Rx _ s _ _ _ _ hInv (by omega) hw.2.1.1 hw.2.1.2 hw.2.2.1.1 hw.2.2.1.2 (fun s1 he h1 => ?_)
    subst he
    refine nx_s (nx_s (nx_s ?_))
    refine ih (i + 1) (I + 4) _ (fun A h hI2 => ?_) ?_ (by omega) (by omega) h1 (ns_J hJ hInv (by omega)) hs2 hs3
    · have t := aI_fours (w := w) hI2 (by rw [← h.2.2.1]; exact n0) i (by rw [← h.2.2.1]; omega)
      exact aR_add _ _ _ _ (hA A h hI2) t.1 hN.1 (by omega)
    · show (s.2.2.1 0 10 + 1).toInt = _
      rw [i_add (by omega) (by omega), z1, hNi]
      omega
set_option maxRecDepth 100000 in
set_option maxHeartbeats 4000000 in
theorem st_Ra (Q : nk_Q) (s : nx_S) (R : Int32) (hInv : nx_Inv gR s) (hJ : nJ s) (hq : ∀ (s1 : nx_S) (r : Int32), nx_Inv gR s1 → nJ s1 → (∀ A : AS, aR s A → aI A → ∃ A' : AS, aR s1 A' ∧ aI A' ∧ h_stuffs A A' R r) → Q (some (.int r)) (nx_enc s1 0 shR)) : ev_X6_stuffs [.ref 0, .int R] (nx_enc s 0 shR) Q := by
  have a0 : (0 : Int32).toInt = 0 := rfl
  have h16 : (16 : Int32).toInt = 16 := rfl
  have hN := nR_N hInv
  refine nx_s (nx_s (nx_s ?_))
  refine ak_Rx _ s R (fun r0 r1 sz => ?_) (fun hn => ?_) (fun s1 hm r0 r1 sz => ?_)
  rotate_left
  · refine nx_s (nx_s (nx_s ?_))
    refine nk_br.f (by decide) ?_
    refine nx_s (nx_s ?_)
    exact hq s _ hInv hJ (fun A h hI => ⟨A, h, hI, Or.inl ⟨hn, rfl, rfl⟩⟩)
  · refine nx_s (nx_s (nx_s ?_))
    refine nk_br.f (by decide) ?_
    refine nx_s (nx_s ?_)
    refine hq s1 _ (me_inv hInv hm) (nJ_me hJ hm) (fun A h hI => ⟨A, aR_me hm h, hI, Or.inr (Or.inl ⟨⟨r0, r1⟩, Or.inl ?_, rfl, rfl⟩)⟩)
    have := zR_n h r0 r1
    omega
  have eR : R.toInt.toNat = R.toNatClampNeg := Int32.toNat_toInt R
  have pr : (s.1 2 R.toNatClampNeg).toInt ≤ 40 := (hInv.2.1 2 6 [] rfl R.toNatClampNeg (by omega)).2
  have hzA : ∀ A : AS, aR s A → A.1 R.toInt.toNat = (s.1 2 R.toNatClampNeg).toInt := fun A h => ((zR_n h r0 r1).2 sz).symm
  have hNA : ∀ A : AS, aR s A → A.2.2.1.1.toInt = (s.2.2.1 0 10).toInt := fun A h => by rw [h.2.2.1]
  have hR : 0 ≤ R.toInt ∧ R.toInt ≤ 5 := ⟨r0, r1⟩
  refine nx_s (nx_s (nx_s ?_))
  refine nk_br.t (by decide) ?_
  refine nx_s (nx_s (nx_s (nx_s ?_)))
  refine ⟨nx_in (n := 6) (by omega) (by omega), ?_⟩
  show nk_wp kx_X6_stuffs kc_X6_stuffs Q 18 [some (.ref 0), some (.int R), some (.int 0), none, none, none] [.int (s.1 2 R.toNatClampNeg)] (nx_enc s 0 shR) 0 0
  have hd := i_d4 sz pr
  have hm4 := i_r4 sz pr
  generalize hz : s.1 2 R.toNatClampNeg = z at *
  refine nx_s (nx_s ?_)
  refine ⟨by decide, ?_⟩
  refine nx_s ?_
  refine br_eq (fun e => ?_) (fun e => ?_)
  rotate_left
  · have e : (z - z / 4 * 4).toInt ≠ (0 : Int32).toInt := e
    refine nx_s (nx_s (nx_s ?_))
    refine me_R _ s 5 (by decide) (by decide) (fun s1 hm => ?_)
    refine nx_s ?_
    refine hq s1 _ (me_inv hInv hm) (nJ_me hJ hm) (fun A h hI => ⟨A, aR_me hm h, hI, Or.inr (Or.inl ⟨hR, Or.inr ?_, rfl, rfl⟩)⟩)
    rw [hzA A h]
    omega
  have e : (z - z / 4 * 4).toInt = (0 : Int32).toInt := e
  refine nx_s (nx_s (nx_s (nx_s ?_)))
  refine ⟨nx_in (n := 6) (by omega) (by omega), ?_⟩
  show nk_wp kx_X6_stuffs kc_X6_stuffs Q 35 [some (.ref 0), some (.int R), some (.int 0), none, none, none] [.int (s.1 2 R.toNatClampNeg)] (nx_enc s 0 shR) 0 0
  rw [hz]
  refine nx_s (nx_s ?_)
  refine ⟨by decide, ?_⟩
  refine nx_s (nx_s (nx_s ?_))
  show nk_wp kx_X6_stuffs kc_X6_stuffs Q 42 [some (.ref 0), some (.int R), some (.int 0), some (.int (z / 4)), none, none] [.int (s.2.2.1 0 10)] (nx_enc s 0 shR) 0 0
  have es : (s.2.2.1 0 10 + z / 4).toInt = (s.2.2.1 0 10).toInt + (z / 4).toInt := i_add (by omega) (by omega)
  refine nx_s (nx_s (nx_s (nx_s ?_)))
  refine br_le (fun e2 => ?_) (fun e2 => ?_)
  rotate_left
  · refine nx_s (nx_s ?_)
    refine hq s _ hInv hJ (fun A h hI => ⟨A, h, hI, Or.inr (Or.inr (Or.inl ⟨hR, ?_, ?_, ?_, rfl, rfl⟩))⟩)
    · rw [hzA A h]
      omega
    · rw [hzA A h]
      omega
    · rw [hzA A h, hNA A h]
      omega
  obtain ⟨k, hk⟩ : ∃ k : Nat, z.toInt = 4 * k := ⟨(z.toInt / 4).toNat, by omega⟩
  have hk4 : ∀ A : AS, aR s A → (A.1 R.toInt.toNat / 4).toNat = k := fun A h => by
    rw [hzA A h]
    omega
  have hv : ∀ A : AS, aR s A → ∀ j : Nat, j < 40 → s.1 3 (40 * R.toInt.toNat + j) = A.2.1 R.toInt.toNat j := fun A h j hj => h.2.1 R.toInt.toNat j (by omega) hj
  refine nx_s (nx_s (nx_s (nx_s ?_)))
  refine st_R1a Q s R 0 (z / 4) k r0 r1 (by rw [hz]; exact hk) (by omega) (fun G I hG hG0 => ?_) k 0 1 0 (by omega) (by omega) (fun _ j hj => absurd hj (Nat.not_lt_zero j)) (fun h => absurd h (by decide))
  refine nx_s (nx_s ?_)
  refine nk_br.mk (fun hg => ?_) (fun hg => ?_)
  · have hg : G = 0 := hg
    refine nx_s (nx_s (nx_s ?_))
    refine me_R _ s 3 (by decide) (by decide) (fun s1 hm => ?_)
    refine nx_s ?_
    refine hq s1 _ (me_inv hInv hm) (nJ_me hJ hm) (fun A h hI => ⟨A, aR_me hm h, hI, Or.inr (Or.inr (Or.inr (Or.inl ⟨hR, ?_, ?_, ?_, ?_, rfl, rfl⟩)))⟩)
    · rw [hzA A h]
      omega
    · rw [hzA A h]
      omega
    · rw [hzA A h, hNA A h]
      omega
    · rw [hk4 A h]
      exact fun q => hG0 hg (okFc (fun j hj => (hv A h j (by omega)).symm) q)
  have hg : ¬ G = 0 := hg
  refine nx_s (nx_s ?_)
  refine st_R2a Q s (fun j => s.1 3 (40 * R.toInt.toNat + j)) R 0 (z / 4) G k (s.1 2) hN.1 (by omega) r0 r1 (by rw [hz]; exact hk) (by omega) (hG hg) (fun s1 i1 j1 hA => ?_) k 0 0 s (fun A h _ => h) (by omega) (by omega) (by omega) hInv hJ rfl (fun j _ => rfl)
  refine hq s1 _ i1 j1 (fun A h hI => ⟨_, hA A h hI, ?_, Or.inr (Or.inr (Or.inr (Or.inr ⟨hR, ?_, ?_, ?_, ?_, ?_, ?_⟩)))⟩)
  · exact (aI_fours hI (by rw [hNA A h]; exact hN.1) k (by rw [hNA A h]; omega)).1
  · rw [hzA A h]
    omega
  · rw [hzA A h]
    omega
  · rw [hzA A h, hNA A h]
    omega
  · rw [hk4 A h]
    exact okFc (fun j hj => hv A h j (by omega)) (hG hg)
  · rw [hzA A h]
    exact hd
  · rw [hk4 A h]
    exact g_foursc k (fun j hj => hv A h j (by omega))
/-! ### debt, making, about, told of the reference -/
theorem aR_deb {s : nx_S} {A : AS} (k : Nat) (v : Int32) (h : aR s A) : aR (nx_ui s 7 (upd (s.1 7) k v)) (A.1, A.2.1, A.2.2.1, upd A.2.2.2.1 k v, A.2.2.2.2) := by
  obtain ⟨h1, h2, h5, h6, h7, h8⟩ := h
  refine ⟨h1, h2, h5, h6, fun i hi => ?_, h8⟩
  show upd (s.1 7) k v i = upd A.2.2.2.1 k v i
  exact upd_c (h7 i hi)
set_option maxRecDepth 100000 in
set_option maxHeartbeats 4000000 in
theorem db_Ra (Q : nk_Q) (s : nx_S) (S V : Int32) (hInv : nx_Inv gR s) (hJ : nJ s) (hq : ∀ (s1 : nx_S) (r : Int32), nx_Inv gR s1 → nJ s1 → (∀ A : AS, aR s A → aI A → aR s1 (g_debt A S V) ∧ aI (g_debt A S V) ∧ r = f_debt A S V) → Q (some (.int r)) (nx_enc s1 0 shR)) : ev_X6_debt [.ref 0, .int S, .int V] (nx_enc s 0 shR) Q := by
  have a0 : (0 : Int32).toInt = 0 := rfl
  have a9 : (999 : Int32).toInt = 999 := rfl
  have hN := nR_N hInv
  have no : ¬ ((0 ≤ S.toInt ∧ S.toInt < (s.2.2.1 0 10).toInt) ∧ 0 ≤ V.toInt ∧ V.toInt ≤ 999) → Q (some (.int (-1))) (nx_enc s 0 shR) := fun hn => hq s (-1) hInv hJ (fun A h hI => by
    rw [h.2.2.1] at hn
    unfold g_debt f_debt
    rw [if_neg hn, if_neg hn]
    exact ⟨h, hI, rfl⟩)
  refine nx_s (nx_s (nx_s ?_))
  refine is_R _ s S hInv (fun s0 s1 => ?_) (fun hn => ?_)
  · refine nx_s ?_
    refine nk_br.f (by decide) ?_
    refine nx_s (nx_s (nx_s (nx_s ?_)))
    refine in_R _ _ V 0 999 (fun v0 v1 => ?_) (fun hn => ?_)
    · refine nx_s ?_
      refine nk_br.f (by decide) ?_
      have x4 : (5 * S + 4).toInt = 5 * S.toInt + 4 := i_5k (by omega) (by omega) (by decide) (by decide)
      have c4 : (5 * S + 4).toNatClampNeg = 5 * S.toInt.toNat + 4 := nx_cl (by omega)
      refine nx_s (nx_s (nx_s (nx_s (nx_s (nx_s (nx_s (nx_s ?_)))))))
      refine ⟨nx_in (n := 80) (by omega) (by omega), ?_⟩
      refine nx_s (nx_s (nx_s (nx_s (nx_s (nx_s (nx_s (nx_s (nx_s (nx_s ?_)))))))))
      refine ⟨nx_in (n := 80) (by omega) (by omega), ?_⟩
      refine nx_s (nx_s ?_)
      rw [c4]
      refine hq (nx_ui s 7 (upd (s.1 7) (5 * S.toInt.toNat + 4) V)) _ (nR_inv7 hInv (fun q h7 => if_neg h7) (fun _ _ => rfl) hN ?_) hJ (fun A h hI => ?_)
      · have e7 : (nx_ui s 7 (upd (s.1 7) (5 * S.toInt.toNat + 4) V)).1 7 = upd (s.1 7) (5 * S.toInt.toNat + 4) V := rfl
        have e8 : (nx_ui s 7 (upd (s.1 7) (5 * S.toInt.toNat + 4) V)).1 8 = s.1 8 := rfl
        unfold PER
        rw [e7, e8]
        refine ⟨fun k hk => ?_, hInv.2.2.2.2⟩
        rw [upd_n _ _ (by omega), upd_n _ _ (by omega)]
        exact hInv.2.2.2.1 k hk
      · have h5 := h.2.2.1
        have hc : (0 ≤ S.toInt ∧ S.toInt < A.2.2.1.1.toInt) ∧ 0 ≤ V.toInt ∧ V.toInt ≤ 999 := ⟨⟨s0, by rw [← h5]; exact s1⟩, by omega, by omega⟩
        unfold g_debt f_debt
        rw [if_pos hc, if_pos hc]
        refine ⟨aR_deb _ _ h, fun i h1 h2 => ?_, ?_⟩
        · have h1 : 5 * A.2.2.1.1.toInt ≤ i := h1
          show upd A.2.2.2.1 (5 * S.toInt.toNat + 4) V i = 0
          rw [upd_n _ _ (by omega)]
          exact hI i h1 h2
        · exact h.2.2.2.2.1 _ (by omega)
    · refine nx_s ?_
      refine nk_br.t (by decide) ?_
      refine nx_s (nx_s ?_)
      exact no (fun q => hn ⟨by omega, by omega⟩)
  · refine nx_s ?_
    refine nk_br.t (by decide) ?_
    refine nx_s (nx_s ?_)
    exact no (fun q => hn q.1)
set_option maxRecDepth 100000 in
set_option maxHeartbeats 8000000 in
theorem mg_sta (Q : nk_Q) (s : nx_S) (K S V MK W KN PT : Int32) (hInv : nx_Inv gR s) (hM : (s.2.2.1 0 12).toInt ≤ 11) (hK : 0 ≤ K.toInt ∧ K.toInt ≤ 6) (hS : 0 ≤ S.toInt ∧ S.toInt < (s.2.2.1 0 10).toInt) (hV : K = 0 ∨ K = 4 ∨ (K = 1 ∧ 0 ≤ V.toInt ∧ V.toInt ≤ 9) ∨ (K = 6 ∧ 1 ≤ V.toInt ∧ V.toInt ≤ 99) ∨ ((K = 2 ∨ K = 3 ∨ K = 5) ∧ 0 ≤ V.toInt ∧ V.toInt < (s.2.2.1 0 10).toInt)) (hMK : 0 ≤ MK.toInt ∧ MK.toInt ≤ 5) (hW : 0 ≤ W.toInt ∧ W.toInt ≤ 99) (hKN : 0 ≤ KN.toInt ∧ KN.toInt ≤ 5) (hq : ∀ f : Nat → Int32, f = am_f (s.1 8) (s.2.2.1 0 12).toNatClampNeg K S (mv K V) MK W KN (mp K PT) → nx_Inv gR (nx_uf (nx_ui s 8 f) 0 12 (s.2.2.1 0 12 + 1)) → Q (some (.int (s.2.2.1 0 12 + 1 - 1))) (nx_enc (nx_uf (nx_ui s 8 f) 0 12 (s.2.2.1 0 12 + 1)) 0 shR)) : nk_wp kx_X6_making kc_X6_making Q 98 [some (.ref 0), some (.int K), some (.int S), some (.int V), some (.int MK), some (.int W), some (.int KN), some (.int PT), none] [] (nx_enc s 0 shR) 0 0 := by
  have hN := nR_N hInv
  have hM0 : 0 ≤ (s.2.2.1 0 12).toInt := (hInv.1 3 (0, 12) (0, 12) rfl rfl).1
  have hPM : nx_PM (s.1 8) := hInv.2.2.1
  have hPE : PER s := hInv.2.2.2
  have a1x : (1 : Int32).toInt = 1 := rfl
  refine nx_s (nx_s (nx_s ?_))
  show nk_wp kx_X6_making kc_X6_making Q 104 [some (.ref 0), some (.int K), some (.int S), some (.int V), some (.int MK), some (.int W), some (.int KN), some (.int PT), none] [.int (s.2.2.1 0 12), .int 7] (nx_enc s 0 shR) 0 0
  have hMp : (s.2.2.1 0 12 + 1).toInt = (s.2.2.1 0 12).toInt + 1 := by rw [i_add (by omega) (by omega), a1x]
  have key : ∀ (M : Int32), M = s.2.2.1 0 12 → ∀ f : Nat → Int32, nx_PM f → PER (nx_ui s 8 f) → f = am_f (s.1 8) M.toNatClampNeg K S (mv K V) MK W KN (mp K PT) → nk_wp kx_X6_making kc_X6_making Q 220 [some (.ref 0), some (.int K), some (.int S), some (.int V), some (.int MK), some (.int W), some (.int KN), some (.int PT), some (.int (7 * M))] [] (nx_enc (nx_ui s 8 f) 0 shR) 0 0 := by
    intro M hMe f hf hp he
    refine nx_s (nx_s (nx_s (nx_s (nx_s (nx_s (nx_s (nx_s (nx_s (nx_s (nx_s ?_))))))))))
    exact hq f (by rw [← hMe]; exact he) (mg_inv hInv hf (by omega) (by omega) hp)
  have key := key (s.2.2.1 0 12) rfl
  generalize s.2.2.1 0 12 = M at hM hM0 key ⊢
  obtain ⟨a0, b0, c0⟩ := mg_i0 hM0 hM
  obtain ⟨a1, b1, c1⟩ := mg_ix (j := 1) hM0 hM (by decide) (by decide)
  obtain ⟨a2, b2, c2⟩ := mg_ix (j := 2) hM0 hM (by decide) (by decide)
  obtain ⟨a3, b3, c3⟩ := mg_ix (j := 3) hM0 hM (by decide) (by decide)
  obtain ⟨a4, b4, c4⟩ := mg_ix (j := 4) hM0 hM (by decide) (by decide)
  obtain ⟨a5, b5, c5⟩ := mg_ix (j := 5) hM0 hM (by decide) (by decide)
  obtain ⟨a6, b6, c6⟩ := mg_ix (j := 6) hM0 hM (by decide) (by decide)
  have tail : ∀ (c : Int32) (f : Nat → Int32), 0 ≤ c.toInt → c.toInt ≤ 99 → (c.toInt ≤ 15 ∨ K = 6) → (c.toInt < (s.2.2.1 0 10).toInt ∨ (K.toInt ≠ 2 ∧ K.toInt ≠ 3 ∧ K.toInt ≠ 5)) → c = mv K V → f = upd (upd (upd (s.1 8) (7 * M.toNatClampNeg + 0) K) (7 * M.toNatClampNeg + 1) S) (7 * M.toNatClampNeg + 2) c → nk_wp kx_X6_making kc_X6_making Q 157 [some (.ref 0), some (.int K), some (.int S), some (.int V), some (.int MK), some (.int W), some (.int KN), some (.int PT), some (.int (7 * M))] [] (nx_enc (nx_ui s 8 f) 0 shR) 0 0 := by
    intro c f hc0 hc1 hc2 hc3 hcv hf
    have last : ∀ h : Int32, (h = 0 ∨ (h = 1 ∧ K ≠ 6)) → h = mp K PT → nk_wp kx_X6_making kc_X6_making Q 220 [some (.ref 0), some (.int K), some (.int S), some (.int V), some (.int MK), some (.int W), some (.int KN), some (.int PT), some (.int (7 * M))] [] (nx_enc (nx_ui s 8 (am_f (s.1 8) M.toNatClampNeg K S c MK W KN h)) 0 shR) 0 0 := by
      intro h hh hhp
      refine key _ (am_PM hPM hK ⟨hS.1, by omega⟩ ⟨hc0, hc1⟩ hMK hW hKN ?_ ?_) (mg_PE hPE hS.2 hc3) (by rw [hcv, hhp])
      · rcases hh with e | e
        · rw [e]; decide
        · rw [e.1]; decide
      · rcases hc2 with e | e
        · exact Or.inl e
        · rcases hh with e2 | e2
          · exact Or.inr ⟨by rw [e]; rfl, by rw [e2]; rfl⟩
          · exact absurd e e2.2
    refine nx_s (nx_s (nx_s (nx_s (nx_s (nx_s (nx_s ?_))))))
    refine ⟨nx_in (n := 84) a3 b3, ?_⟩
    refine nx_s (nx_s (nx_s (nx_s (nx_s (nx_s (nx_s ?_))))))
    refine ⟨nx_in (n := 84) a4 b4, ?_⟩
    refine nx_s (nx_s (nx_s (nx_s (nx_s (nx_s (nx_s ?_))))))
    refine ⟨nx_in (n := 84) a5 b5, ?_⟩
    rw [c3, c4, c5, nx_uu, nx_u1, nx_uu, nx_u1, nx_uu, nx_u1, hf]
    refine nx_s (nx_s (nx_s (nx_s (nx_s (nx_s (nx_s ?_))))))
    refine nk_br.mk (fun p0 => ?_) (fun p0 => ?_)
    · refine nx_s (nx_s ?_)
      refine ⟨nx_in (n := 84) a6 b6, ?_⟩
      rw [c6, nx_uu, nx_u1]
      exact last 0 (Or.inl rfl) (by unfold mp; rw [if_neg (fun q => q.1 p0)])
    · refine nx_s (nx_s (nx_s ?_))
      refine nk_br.mk (fun e => ?_) (fun n2 => ?_)
      · refine nx_s (nx_s (nx_s ?_))
        refine ⟨nx_in (n := 84) a6 b6, ?_⟩
        rw [c6, nx_uu, nx_u1]
        exact last 1 (Or.inr ⟨rfl, by rw [e]; decide⟩) (by unfold mp; rw [if_pos ⟨p0, Or.inl e⟩])
      · refine nx_s (nx_s (nx_s ?_))
        refine nk_br.mk (fun e => ?_) (fun n5 => ?_)
        · refine nx_s (nx_s (nx_s ?_))
          refine ⟨nx_in (n := 84) a6 b6, ?_⟩
          rw [c6, nx_uu, nx_u1]
          exact last 1 (Or.inr ⟨rfl, by rw [e]; decide⟩) (by unfold mp; rw [if_pos ⟨p0, Or.inr e⟩])
        · refine nx_s (nx_s ?_)
          refine ⟨nx_in (n := 84) a6 b6, ?_⟩
          rw [c6, nx_uu, nx_u1]
          exact last 0 (Or.inl rfl) (by unfold mp; rw [if_neg (fun q => q.2.elim n2 n5)])
  refine nx_s (nx_s ?_)
  refine nx_s (nx_s (nx_s (nx_s (nx_s ?_))))
  refine ⟨nx_in (n := 84) a0 b0, ?_⟩
  refine nx_s (nx_s (nx_s (nx_s (nx_s (nx_s (nx_s ?_))))))
  refine ⟨nx_in (n := 84) a1 b1, ?_⟩
  rw [c0, c1, nx_uu, nx_u1]
  refine nx_s (nx_s (nx_s (nx_s (nx_s ?_))))
  have z0 : 0 ≤ (0 : Int32).toInt := by decide
  rcases i_7 hK.1 hK.2 with rfl | rfl | rfl | rfl | rfl | rfl | rfl
  all_goals repeat' first
    | (refine And.intro (nx_in (n := 84) a2 b2) ?_; rw [c2, nx_uu, nx_u1])
    | exact tail 0 _ z0 (by decide) (Or.inl (by decide)) (Or.inr ⟨by decide, by decide, by decide⟩) (by unfold mv; rw [if_pos (by decide)]) rfl
    | (refine tail V _ ?_ ?_ ?_ ?_ (by unfold mv; rw [if_neg (by decide)]) rfl)
    | refine nx_s ?_
    | refine nk_br.t (by decide) ?_
    | refine nk_br.f (by decide) ?_
    | refine nk_bo0 ?_
    | refine nk_bo1 ?_
    | fail
  all_goals (rcases hV with h | h | h | h | h <;> first
    | exact absurd h (by decide)
    | exact absurd h.1 (by decide)
    | (first
      | omega
      | exact Or.inl (by omega)
      | exact Or.inr rfl
      | exact Or.inr ⟨by decide, by decide, by decide⟩))
set_option maxRecDepth 100000 in
set_option maxHeartbeats 4000000 in
theorem iv_Rx (Q : nk_Q) (s : nx_S) (K S V : Int32) (hInv : nx_Inv gR s) (hK : 0 ≤ K.toInt ∧ K.toInt ≤ 6) (h1 : okA (s.2.2.1 0 10).toInt K S V → Q (some (.int 1)) (nx_enc s 0 shR)) (h2 : ¬ okA (s.2.2.1 0 10).toInt K S V → Q (some (.int 0)) (nx_enc s 0 shR)) : ev_X6_isV [.ref 0, .int K, .int S, .int V] (nx_enc s 0 shR) Q := by
  have a0 : (0 : Int32).toInt = 0 := rfl
  have a1 : (1 : Int32).toInt = 1 := rfl
  have a9 : (9 : Int32).toInt = 9 := rfl
  have a99 : (99 : Int32).toInt = 99 := rfl
  rcases i_7 hK.1 hK.2 with rfl | rfl | rfl | rfl | rfl | rfl | rfl
  all_goals repeat' first
    | exact h1 ⟨fun e => absurd e (by decide), fun e => absurd e (by decide), fun e => absurd e (by decide)⟩
    | exact h1 ⟨fun _ => ⟨by omega, by omega⟩, fun e => absurd e (by decide), fun e => absurd e (by decide)⟩
    | exact h1 ⟨fun e => absurd e (by decide), fun _ => ⟨by omega, by omega⟩, fun e => absurd e (by decide)⟩
    | exact h1 ⟨fun e => absurd e (by decide), fun e => absurd e (by decide), fun _ => ⟨⟨by assumption, by assumption⟩, by assumption⟩⟩
    | exact h2 (fun q => by have q1 := q.1 rfl; omega)
    | exact h2 (fun q => by have q1 := q.2.1 rfl; omega)
    | exact h2 (fun q => (q.2.2 (by decide)).2 (by assumption))
    | exact h2 (fun q => absurd (q.2.2 (by decide)).1 (by assumption))
    | refine in_R _ _ V _ _ (fun x y => ?_) (fun hn => ?_)
    | refine is_R _ s V hInv (fun x y => ?_) (fun hn => ?_)
    | refine nx_s ?_
    | refine nk_bo0 ?_
    | refine nk_bo1 ?_
    | refine nk_br.t (by decide) ?_
    | refine nk_br.f (by decide) ?_
    | refine nk_br.mk (fun e => ?_) (fun e => ?_)
    | fail
set_option maxRecDepth 100000 in
set_option maxHeartbeats 8000000 in
theorem mg_Ra (Q : nk_Q) (s : nx_S) (K S V MK W KN PT : Int32) (hInv : nx_Inv gR s) (hJ : nJ s) (hq : ∀ (s1 : nx_S) (r : Int32), nx_Inv gR s1 → nJ s1 → (∀ A : AS, aR s A → aI A → aR s1 (g_making A K S V MK W KN PT) ∧ aI (g_making A K S V MK W KN PT) ∧ r = f_making A K S V MK W KN) → Q (some (.int r)) (nx_enc s1 0 shR)) : ev_X6_making [.ref 0, .int K, .int S, .int V, .int MK, .int W, .int KN, .int PT] (nx_enc s 0 shR) Q := by
  have a0 : (0 : Int32).toInt = 0 := rfl
  have a1 : (1 : Int32).toInt = 1 := rfl
  have a5 : (5 : Int32).toInt = 5 := rfl
  have a6 : (6 : Int32).toInt = 6 := rfl
  have a12 : (12 : Int32).toInt = 12 := rfl
  have hN := nR_N hInv
  have hM := nR_M hInv
  have hNA : ∀ A : AS, aR s A → A.2.2.1.1.toInt = (s.2.2.1 0 10).toInt := fun A h => by rw [h.2.2.1]
  have hMA : ∀ A : AS, aR s A → A.2.2.1.2 = s.2.2.1 0 12 := fun A h => h.2.2.2.1.symm
  have no : ¬ okK (s.2.2.1 0 10).toInt K S V MK W KN → nk_wp kx_X6_making kc_X6_making Q 54 [some (.ref 0), some (.int K), some (.int S), some (.int V), some (.int MK), some (.int W), some (.int KN), some (.int PT), none] [] (nx_enc s 0 shR) 0 0 := by
    intro hn
    refine nx_s (nx_s ?_)
    refine hq s (-1) hInv hJ (fun A h hI => ?_)
    rw [← hNA A h] at hn
    unfold g_making f_making
    rw [if_neg (fun q => hn q.1), if_neg hn]
    exact ⟨h, hI, rfl⟩
  refine nx_s (nx_s (nx_s (nx_s ?_)))
  refine in_R _ _ K 0 6 (fun k0 k1 => ?_) (fun hn => ?_)
  rotate_left
  · refine nx_s ?_
    refine nk_br.t (by decide) ?_
    exact no (fun q => by have q1 := q.1; omega)
  refine nx_s ?_
  refine nk_br.f (by decide) ?_
  refine nx_s (nx_s (nx_s ?_))
  refine is_R _ s S hInv (fun s0 s1 => ?_) (fun hn => ?_)
  rotate_left
  · refine nx_s ?_
    refine nk_br.t (by decide) ?_
    exact no (fun q => hn q.2.1)
  refine nx_s ?_
  refine nk_br.f (by decide) ?_
  refine nx_s (nx_s (nx_s (nx_s (nx_s ?_))))
  refine iv_Rx _ s K S V hInv ⟨by omega, by omega⟩ (fun ha => ?_) (fun hn => ?_)
  rotate_left
  · refine nx_s ?_
    refine nk_br.t (by decide) ?_
    exact no (fun q => hn q.2.2.1)
  refine nx_s ?_
  refine nk_br.f (by decide) ?_
  refine nx_s (nx_s ?_)
  refine i0_Rx _ s MK (fun m0 m1 => ?_) (fun hn => ?_)
  rotate_left
  · refine nx_s ?_
    refine nk_br.t (by decide) ?_
    exact no (fun q => hn q.2.2.2.1)
  refine nx_s ?_
  refine nk_br.f (by decide) ?_
  refine nx_s (nx_s ?_)
  refine iw_Rx _ s W (fun w0 w1 => ?_) (fun hn => ?_)
  rotate_left
  · refine nx_s ?_
    refine nk_br.t (by decide) ?_
    exact no (fun q => hn q.2.2.2.2.1)
  refine nx_s ?_
  refine nk_br.f (by decide) ?_
  refine nx_s (nx_s (nx_s (nx_s ?_)))
  refine in_R _ _ KN 0 5 (fun n0 n1 => ?_) (fun hn => ?_)
  rotate_left
  · refine nx_s ?_
    refine nk_br.t (by decide) ?_
    exact no (fun q => by have q1 := q.2.2.2.2.2; omega)
  refine nx_s ?_
  refine nk_br.f (by decide) ?_
  have ok : okK (s.2.2.1 0 10).toInt K S V MK W KN := ⟨⟨by omega, by omega⟩, ⟨s0, s1⟩, ha, ⟨m0, m1⟩, ⟨w0, w1⟩, by omega, by omega⟩
  refine nx_s (nx_s (nx_s (nx_s ?_)))
  show nk_br (s.2.2.1 0 12 = 12) _ _
  refine br_eq (fun e => ?_) (fun hne => ?_)
  · refine nx_s (nx_s ?_)
    refine hq s (-2) hInv hJ (fun A h hI => ?_)
    have ok2 := ok
    rw [← hNA A h] at ok2
    have e2 : ¬ A.2.2.1.2.toInt < 12 := by rw [hMA A h]; omega
    unfold g_making f_making
    rw [if_neg (fun q => e2 q.2.1), if_pos ok2, if_neg e2]
    exact ⟨h, hI, rfl⟩
  have hV : K = 0 ∨ K = 4 ∨ (K = 1 ∧ 0 ≤ V.toInt ∧ V.toInt ≤ 9) ∨ (K = 6 ∧ 1 ≤ V.toInt ∧ V.toInt ≤ 99) ∨ ((K = 2 ∨ K = 3 ∨ K = 5) ∧ 0 ≤ V.toInt ∧ V.toInt < (s.2.2.1 0 10).toInt) := by
    rcases i_7 (show 0 ≤ K.toInt by omega) (show K.toInt ≤ 6 by omega) with h | h | h | h | h | h | h
    · exact Or.inl h
    · exact Or.inr (Or.inr (Or.inl ⟨h, ha.1 h⟩))
    · exact Or.inr (Or.inr (Or.inr (Or.inr ⟨Or.inl h, (ha.2.2 (Or.inl h)).1⟩)))
    · exact Or.inr (Or.inr (Or.inr (Or.inr ⟨Or.inr (Or.inl h), (ha.2.2 (Or.inr (Or.inl h))).1⟩)))
    · exact Or.inr (Or.inl h)
    · exact Or.inr (Or.inr (Or.inr (Or.inr ⟨Or.inr (Or.inr h), (ha.2.2 (Or.inr (Or.inr h))).1⟩)))
    · exact Or.inr (Or.inr (Or.inr (Or.inl ⟨h, ha.2.1 h⟩)))
  have go : ¬ unl (s.1 7) K S V → nk_wp kx_X6_making kc_X6_making Q 98 [some (.ref 0), some (.int K), some (.int S), some (.int V), some (.int MK), some (.int W), some (.int KN), some (.int PT), none] [] (nx_enc s 0 shR) 0 0 := by
    intro hu
    refine mg_sta Q s K S V MK W KN PT hInv (by omega) ⟨by omega, by omega⟩ ⟨s0, s1⟩ hV ⟨m0, m1⟩ ⟨w0, w1⟩ ⟨by omega, by omega⟩ (fun f hfe hi => ?_)
    refine hq _ _ hi (fun _ => by show 0 < (s.2.2.1 0 10).toInt; omega) (fun A h hI => ?_)
    have ok2 := ok
    rw [← hNA A h] at ok2
    have e2 : A.2.2.1.2.toInt < 12 := by rw [hMA A h]; omega
    have hu2 : ¬ unl A.2.2.2.1 K S V := fun q => hu ⟨q.1, fun q2 => q.2 (by
      have hVN := (ha.2.2 (Or.inr (Or.inl q.1))).1
      rw [← h.2.2.2.2.1 _ (by omega), ← h.2.2.2.2.1 _ (by omega)]
      exact q2)⟩
    have hret : s.2.2.1 0 12 + 1 - 1 = s.2.2.1 0 12 := Int32.toInt_inj.mp (by
      rw [Int32.toInt_sub, i_add (by omega) (by omega), a1, na_bm (show (-2147483648 : Int) ≤ _ by omega) (show _ ≤ (2147483647 : Int) by omega)]
      omega)
    unfold g_making f_making
    rw [if_pos ⟨ok2, e2, hu2⟩, if_pos ok2, if_pos e2, if_neg hu2, hMA A h]
    obtain ⟨h1, h2, h5, h6, h7, h8⟩ := h
    refine ⟨⟨h1, h2, ?_, ?_, h7, fun i hi => ?_⟩, hI, hret⟩
    · show (if 0 = 0 ∧ 10 = 12 then s.2.2.1 0 12 + 1 else s.2.2.1 0 10) = A.2.2.1.1
      rw [if_neg (fun e => absurd e.2 (by decide))]
      exact h5
    · rfl
    · show f i = am_f A.2.2.2.2 (s.2.2.1 0 12).toInt.toNat K S (mv K V) MK W KN (mp K PT) i
      have em : (s.2.2.1 0 12).toNatClampNeg = (s.2.2.1 0 12).toInt.toNat := (Int32.toNat_toInt _).symm
      rw [hfe, em]
      exact am_c (h8 i hi)
  refine nx_s (nx_s (nx_s ?_))
  refine nk_br.mk (fun hK3 => ?_) (fun hK3 => go (fun q => hK3 q.1))
  have hK3 : K = 3 := hK3
  have hV3 := (ha.2.2 (Or.inr (Or.inl hK3))).1
  have x5 : (5 * S).toInt = 5 * S.toInt := i_50 (by omega) (by omega)
  have y5 : (5 * V).toInt = 5 * V.toInt := i_50 (by omega) (by omega)
  have cx : (5 * S).toNatClampNeg = 5 * S.toInt.toNat := nx_cl (by omega)
  have cy : (5 * V).toNatClampNeg = 5 * V.toInt.toNat := nx_cl (by omega)
  refine nx_s (nx_s (nx_s (nx_s (nx_s (nx_s ?_)))))
  refine ⟨nx_in (n := 80) (by omega) (by omega), ?_⟩
  refine nx_s (nx_s (nx_s (nx_s (nx_s (nx_s ?_)))))
  refine ⟨nx_in (n := 80) (by omega) (by omega), ?_⟩
  rw [cx, cy]
  refine nx_s ?_
  refine nk_br.mk (fun e3 => go (fun q => q.2 e3)) (fun e3 => ?_)
  have e3 : ¬ s.1 7 (5 * S.toInt.toNat) = s.1 7 (5 * V.toInt.toNat) := e3
  refine nx_s (nx_s (nx_s ?_))
  refine me_R _ s 3 (by decide) (by decide) (fun s2 hm => ?_)
  refine nx_s ?_
  refine hq s2 _ (me_inv hInv hm) (nJ_me hJ hm) (fun A h hI => ?_)
  have ok2 := ok
  rw [← hNA A h] at ok2
  have e2 : A.2.2.1.2.toInt < 12 := by rw [hMA A h]; omega
  have hu : unl A.2.2.2.1 K S V := ⟨hK3, fun q => e3 (by
    rw [h.2.2.2.2.1 _ (by omega), h.2.2.2.2.1 _ (by omega)]
    exact q)⟩
  unfold g_making f_making
  rw [if_neg (fun q => q.2.2 hu), if_pos ok2, if_pos e2, if_pos hu]
  exact ⟨aR_me hm h, hI, rfl⟩
set_option maxRecDepth 100000 in
set_option maxHeartbeats 4000000 in
theorem ab_Ra (Q : nk_Q) (s : nx_S) (S W : Int32) (hInv : nx_Inv gR s) (hJ : nJ s) (hq : ∀ (s1 : nx_S) (r : Int32), nx_Inv gR s1 → nJ s1 → (∀ A : AS, aR s A → aI A → aR s1 A ∧ aI A ∧ r = f_about A.2.2.1.1.toInt S W) → Q (some (.int r)) (nx_enc s1 0 shR)) : ev_X6_about [.ref 0, .int S, .int W] (nx_enc s 0 shR) Q := by
  have z0 : (0 : Int32).toInt = 0 := rfl
  have z4 : (4 : Int32).toInt = 4 := rfl
  have hN := nR_N hInv
  have no : ¬ ((0 ≤ S.toInt ∧ S.toInt < (s.2.2.1 0 10).toInt) ∧ 0 ≤ W.toInt ∧ W.toInt ≤ 4) → nk_wp kx_X6_about kc_X6_about Q 35 [some (.ref 0), some (.int S), some (.int W)] [] (nx_enc s 0 shR) 0 0 := by
    intro hn
    refine nx_s (nx_s ?_)
    refine hq s _ hInv hJ (fun A h hI => ⟨h, hI, ?_⟩)
    unfold f_about
    rw [h.2.2.1] at hn
    rw [if_neg hn]
  refine nx_s (nx_s (nx_s ?_))
  refine is_R _ s S hInv (fun s0 s1 => ?_) (fun hn => ?_)
  rotate_left
  · refine nx_s ?_
    refine nk_br.t (by decide) ?_
    exact no (fun q => hn q.1)
  refine nx_s ?_
  refine nk_br.f (by decide) ?_
  refine nx_s (nx_s (nx_s (nx_s ?_)))
  refine in_R _ _ W 0 4 (fun w0 w1 => ?_) (fun hn => ?_)
  rotate_left
  · refine nx_s ?_
    refine nk_br.t (by decide) ?_
    exact no (fun q => by omega)
  refine nx_s ?_
  refine nk_br.f (by decide) ?_
  have x : (5 * S + W).toInt = 5 * S.toInt + W.toInt := i_5k (by omega) (by omega) (by omega) (by omega)
  refine nx_s (nx_s (nx_s (nx_s (nx_s (nx_s (nx_s (nx_s (nx_s ?_))))))))
  refine ⟨nx_in (n := 80) (by omega) (by omega), ?_⟩
  refine nx_s (nx_s ?_)
  refine as_R _ s _ 1 ?_
  refine nx_s (nx_s ?_)
  refine hq _ _ (ar_inv hInv) (nJ_uf hJ) (fun A h hI => ⟨aR_as h, hI, ?_⟩)
  unfold f_about
  rw [if_pos ⟨⟨s0, by rw [← h.2.2.1]; exact s1⟩, by omega, by omega⟩]
set_option maxRecDepth 100000 in
theorem iy_R (Q : nk_Q) (s : nx_S) (v : Int32) (hInv : nx_Inv gR s) (h1 : 0 ≤ v.toInt → v.toInt < (s.2.2.1 0 12).toInt → Q (some (.int 1)) (nx_enc s 0 shR)) (h2 : ¬ (0 ≤ v.toInt ∧ v.toInt < (s.2.2.1 0 12).toInt) → Q (some (.int 0)) (nx_enc s 0 shR)) : ev_X6_isMaking [.ref 0, .int v] (nx_enc s 0 shR) Q := by
  have hM := nR_M hInv
  have a1 : (1 : Int32).toInt = 1 := rfl
  have e : (s.2.2.1 0 12 - 1).toInt = (s.2.2.1 0 12).toInt - 1 := by
    rw [Int32.toInt_sub, a1, na_bm (show (-2147483648 : Int) ≤ _ by omega) (show _ ≤ (2147483647 : Int) by omega)]
  have a0 : (0 : Int32).toInt = 0 := rfl
  refine nx_s (nx_s (nx_s (nx_s (nx_s (nx_s (nx_s ?_))))))
  refine in_R _ _ v 0 (s.2.2.1 0 12 - 1) (fun x y => ?_) (fun x => ?_)
  · refine nx_s ?_
    refine nk_bo1 ?_
    exact h1 (by omega) (by omega)
  · refine nx_s ?_
    refine nk_bo0 ?_
    exact h2 (by omega)
set_option maxRecDepth 100000 in
set_option maxHeartbeats 4000000 in
theorem td_Ra (Q : nk_Q) (s : nx_S) (M W : Int32) (hInv : nx_Inv gR s) (hJ : nJ s) (hq : ∀ (s1 : nx_S) (r : Int32), nx_Inv gR s1 → nJ s1 → (∀ A : AS, aR s A → aI A → aR s1 A ∧ aI A ∧ r = f_told A.2.2.1.2.toInt M W) → Q (some (.int r)) (nx_enc s1 0 shR)) : ev_X6_told [.ref 0, .int M, .int W] (nx_enc s 0 shR) Q := by
  have z0 : (0 : Int32).toInt = 0 := rfl
  have z6 : (6 : Int32).toInt = 6 := rfl
  have hM := nR_M hInv
  have no : ¬ ((0 ≤ M.toInt ∧ M.toInt < (s.2.2.1 0 12).toInt) ∧ 0 ≤ W.toInt ∧ W.toInt ≤ 6) → nk_wp kx_X6_told kc_X6_told Q 32 [some (.ref 0), some (.int M), some (.int W)] [] (nx_enc s 0 shR) 0 0 := by
    intro hn
    refine nx_s (nx_s ?_)
    refine hq s _ hInv hJ (fun A h hI => ⟨h, hI, ?_⟩)
    unfold f_told
    rw [h.2.2.2.1] at hn
    rw [if_neg hn]
  refine nx_s (nx_s (nx_s ?_))
  refine iy_R _ s M hInv (fun s0 s1 => ?_) (fun hn => ?_)
  rotate_left
  · refine nx_s ?_
    refine nk_br.t (by decide) ?_
    exact no (fun q => hn q.1)
  refine nx_s ?_
  refine nk_br.f (by decide) ?_
  refine nx_s (nx_s (nx_s (nx_s ?_)))
  refine in_R _ _ W 0 6 (fun w0 w1 => ?_) (fun hn => ?_)
  rotate_left
  · refine nx_s ?_
    refine nk_br.t (by decide) ?_
    exact no (fun q => by omega)
  refine nx_s ?_
  refine nk_br.f (by decide) ?_
  refine nx_s (nx_s (nx_s (nx_s (nx_s ?_))))
  refine mk_R s M W _ s0 (by omega) (by omega) (by omega) ?_
  refine nx_s (nx_s ?_)
  refine as_R _ s _ 1 ?_
  refine nx_s (nx_s ?_)
  refine hq _ _ (ar_inv hInv) (nJ_uf hJ) (fun A h hI => ⟨aR_as h, hI, ?_⟩)
  unfold f_told
  rw [if_pos ⟨⟨s0, by rw [← h.2.2.2.1]; exact s1⟩, by omega, by omega⟩]
