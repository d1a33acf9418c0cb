/-! ===== TEXTS of the reference ===== -/
set_option maxRecDepth 100000 in
theorem it_Rx (Q : nk_Q) (s : nx_S) (v : Int32) (h1 : 0 ≤ v.toInt → v.toInt ≤ 3 → Q (some (.int 1)) (nx_enc s 0 shR)) (h2 : ¬ (0 ≤ v.toInt ∧ v.toInt ≤ 3) → Q (some (.int 0)) (nx_enc s 0 shR)) : ev_X6_isText [.int v] (nx_enc s 0 shR) Q := by
  have a0 : (0 : Int32).toInt = 0 := rfl
  have a3 : (3 : Int32).toInt = 3 := rfl
  refine nx_s (nx_s (nx_s (nx_s ?_)))
  refine in_R _ _ v 0 3 (fun x y => ?_) (fun x => ?_)
  · refine nx_s ?_
    refine nk_bo1 ?_
    exact h1 (by omega) (by omega)
  · refine nx_s ?_
    refine nk_bo0 ?_
    exact h2 (by omega)
set_option maxRecDepth 100000 in
theorem akt_Rx (Q : nk_Q) (s : nx_S) (v : Int32) (h1 : 0 ≤ v.toInt → v.toInt ≤ 3 → 0 ≤ (s.1 5 v.toNatClampNeg).toInt → Q (some (.int 0)) (nx_enc s 0 shR)) (h2 : ¬ (0 ≤ v.toInt ∧ v.toInt ≤ 3) → Q (some (.int (-1))) (nx_enc s 0 shR)) (h3 : ∀ s1 : nx_S, me_P s s1 → 0 ≤ v.toInt → v.toInt ≤ 3 → (s.1 5 v.toNatClampNeg).toInt < 0 → Q (some (.int (-3))) (nx_enc s1 0 shR)) : ev_X6_askedText [.ref 0, .int v] (nx_enc s 0 shR) Q := by
  have a0 : (0 : Int32).toInt = 0 := rfl
  refine nx_s (nx_s ?_)
  refine it_Rx _ s v (fun x y => ?_) (fun hn => ?_)
  · refine nx_s ?_
    refine nk_br.f (by decide) ?_
    refine nx_s (nx_s (nx_s (nx_s ?_)))
    refine ⟨nx_in (n := 4) (by omega) (by omega), ?_⟩
    refine nx_s ?_
    refine br_le (fun e => ?_) (fun e => ?_)
    · refine nx_s (nx_s ?_)
      have e : (0 : Int32).toInt ≤ (s.1 5 v.toNatClampNeg).toInt := e
      exact h1 x y (by omega)
    · have e : (s.1 5 v.toNatClampNeg).toInt < (0 : Int32).toInt := e
      refine nx_s (nx_s (nx_s ?_))
      refine me_R _ s 1 (by decide) (by decide) (fun s1 hm => ?_)
      refine nx_s (nx_s ?_)
      exact h3 s1 hm x y (by omega)
  · refine nx_s ?_
    refine nk_br.t (by decide) ?_
    refine nx_s (nx_s (nx_s ?_))
    exact h2 hn
/-- only the letters of the TEXTS may have changed -/
def tx_P (s s1 : nx_S) : Prop := (∀ q : Nat, q ≠ 6 → s1.1 q = s.1 q) ∧ s1.2 = s.2
theorem tx_inv {s s1 : nx_S} (h : nx_Inv gR s) (hp : tx_P s s1) : nx_Inv gR s1 := by
  refine ⟨?_, fun q n l hq i hi => ?_, ?_, ?_⟩
  · rw [hp.2]
    exact h.1
  · by_cases e : q = 6
    · subst e
      exact na_i32 _
    · rw [hp.1 q e]
      exact h.2.1 q n l hq i hi
  · show nx_PM (s1.1 8)
    rw [hp.1 8 (by decide)]
    exact h.2.2.1
  · show PER s1
    unfold PER
    rw [hp.1 7 (by decide), hp.1 8 (by decide), hp.2]
    exact h.2.2.2
theorem t5_inv {s : nx_S} {k : Nat} {v : Int32} (h : nx_Inv gR s) (v0 : -9 ≤ v.toInt) (v1 : v.toInt ≤ 40) : nx_Inv gR (nx_ui s 5 (upd (s.1 5) k v)) := by
  refine ⟨h.1, fun q n l hq i hi => ?_, h.2.2.1, ke_R.1 s 5 _ (by decide) h.2.2.2⟩
  by_cases e : q = 5
  · subst e
    show (-9 : Int) ≤ (upd (s.1 5) k v i).toInt ∧ (upd (s.1 5) k v i).toInt ≤ 40
    by_cases ei : i = k
    · rw [ei, upd_s]
      exact ⟨v0, v1⟩
    · rw [upd_n _ _ ei]
      exact h.2.1 5 n l hq i hi
  · have e2 : (nx_ui s 5 (upd (s.1 5) k v)).1 q = s.1 q := if_neg e
    rw [e2]
    exact h.2.1 q n l hq i hi
theorem i_4t {r i : Int32} (h1 : 0 ≤ r.toInt) (h2 : r.toInt ≤ 3) (h3 : 0 ≤ i.toInt) (h4 : i.toInt ≤ 39) : (40 * r + i).toInt = 40 * r.toInt + i.toInt ∧ (40 * r + i).toNatClampNeg = 40 * r.toInt.toNat + i.toInt.toNat := by
  have e := (i_40 h1 (show r.toInt ≤ 5 by omega) h3 h4).2
  exact ⟨e, nx_cl (by omega)⟩
set_option maxRecDepth 100000 in
set_option maxHeartbeats 4000000 in
theorem pu_R (Q : nk_Q) (s : nx_S) (R I V : Int32) (hInv : nx_Inv gR s) (hJ : nJ s) (hq : ∀ (s1 : nx_S) (r : Int32), nx_Inv gR s1 → nJ s1 → (∀ T : TS, tR s T → tR s1 (g_put T R I V) ∧ r = f_put T R I) → Q (some (.int r)) (nx_enc s1 0 shR)) : ev_X6_put [.ref 0, .int R, .int I, .int V] (nx_enc s 0 shR) Q := by
  have a0 : (0 : Int32).toInt = 0 := rfl
  have a1 : (1 : Int32).toInt = 1 := rfl
  have eR : R.toNatClampNeg = R.toInt.toNat := (Int32.toNat_toInt R).symm
  have nope : ∀ s1 : nx_S, me_P s s1 → 0 ≤ R.toInt → R.toInt ≤ 3 → ¬ (0 ≤ (s.1 5 R.toNatClampNeg).toInt ∧ 0 ≤ I.toInt ∧ I.toInt < (s.1 5 R.toNatClampNeg).toInt) → Q (some (.int (-3))) (nx_enc s1 0 shR) := by
    intro s1 hm r0 r1 hn
    refine hq s1 _ (me_inv hInv hm) (nJ_me hJ hm) (fun T h => ?_)
    have hz := h.1 R.toInt.toNat (by omega)
    rw [eR] at hn
    have hc : ¬ (0 ≤ T.1 R.toInt.toNat ∧ 0 ≤ I.toInt ∧ I.toInt < T.1 R.toInt.toNat) := by
      unfold tn at hz
      omega
    refine ⟨?_, by unfold f_put; rw [if_pos ⟨r0, r1⟩, if_neg hc]⟩
    unfold g_put
    rw [if_neg (fun h => hc h.2)]
    exact tkR_me hm T h
  refine nx_s (nx_s (nx_s ?_))
  refine akt_Rx _ s R (fun r0 r1 sz => ?_) (fun hn => ?_) (fun s1 hm r0 r1 sz => ?_)
  rotate_left
  · refine nx_s (nx_s (nx_s ?_))
    refine nk_br.f (by decide) ?_
    refine nx_s (nx_s ?_)
    refine hq s _ hInv hJ (fun T h => ⟨?_, by unfold f_put; rw [if_neg hn]⟩)
    unfold g_put
    rw [if_neg (fun h => hn h.1)]
    exact h
  · refine nx_s (nx_s (nx_s ?_))
    refine nk_br.f (by decide) ?_
    refine nx_s (nx_s ?_)
    exact nope s1 hm r0 r1 (fun h => by omega)
  have pr : (s.1 5 R.toNatClampNeg).toInt ≤ 40 := (hInv.2.1 5 4 [] rfl R.toNatClampNeg (by omega)).2
  have es : (s.1 5 R.toNatClampNeg - 1).toInt = (s.1 5 R.toNatClampNeg).toInt - 1 := by
    rw [Int32.toInt_sub, a1, na_bm (show (-2147483648 : Int) ≤ _ by omega) (show _ ≤ (2147483647 : Int) by omega)]
  refine nx_s (nx_s (nx_s ?_))
  refine nk_br.t (by decide) ?_
  refine nx_s (nx_s (nx_s (nx_s (nx_s (nx_s ?_)))))
  refine ⟨nx_in (n := 4) (by omega) (by omega), ?_⟩
  refine nx_s (nx_s (nx_s ?_))
  refine in_R _ _ I 0 (s.1 5 R.toNatClampNeg - 1) (fun x y => ?_) (fun x => ?_)
  rotate_left
  · refine nx_s ?_
    refine nk_br.t (by decide) ?_
    refine nx_s (nx_s (nx_s ?_))
    refine me_R _ s 2 (by decide) (by decide) (fun s1 hm => ?_)
    refine nx_s ?_
    exact nope s1 hm r0 r1 (by omega)
  have i0 : 0 ≤ I.toInt := by omega
  have ix := i_4t r0 r1 i0 (show I.toInt ≤ 39 by omega)
  refine nx_s ?_
  refine nk_br.f (by decide) ?_
  refine nx_s (nx_s (nx_s (nx_s (nx_s (nx_s (nx_s (nx_s ?_)))))))
  refine ⟨nx_in (n := 160) (by omega) (by omega), ?_⟩
  rw [ix.2]
  refine nx_s (nx_s (nx_s (nx_s (nx_s (nx_s (nx_s (nx_s (nx_s (nx_s (nx_s ?_))))))))))
  refine ⟨nx_in (n := 160) (by omega) (by omega), ?_⟩
  rw [ix.2]
  refine nx_s (nx_s (nx_s (nx_s ?_)))
  refine hq (nx_ui s 6 (upd (s.1 6) (40 * R.toInt.toNat + I.toInt.toNat) V.toInt8.toInt32)) _ (tx_inv hInv ⟨fun q h6 => if_neg h6, rfl⟩) hJ (fun T h => ?_)
  have hz := h.1 R.toInt.toNat (by omega)
  have hv := h.2 R.toInt.toNat I.toInt.toNat (by omega) (by omega)
  rw [eR] at y es pr
  have hc : 0 ≤ T.1 R.toInt.toNat ∧ 0 ≤ I.toInt ∧ I.toInt < T.1 R.toInt.toNat := by
    unfold tn at hz
    omega
  refine ⟨?_, ?_⟩
  · unfold g_put
    rw [if_pos ⟨⟨r0, r1⟩, hc⟩]
    refine ⟨h.1, fun k j hk hj => ?_⟩
    show upd (s.1 6) (40 * R.toInt.toNat + I.toInt.toNat) V.toInt8.toInt32 (40 * k + j) = if k = R.toInt.toNat ∧ j = I.toInt.toNat then V.toInt8.toInt32 else T.2 k j
    by_cases e : k = R.toInt.toNat ∧ j = I.toInt.toNat
    · rw [if_pos e, e.1, e.2, upd_s]
    · rw [if_neg e, upd_n _ _ (by omega)]
      exact h.2 k j hk hj
  · unfold f_put
    rw [if_pos ⟨r0, r1⟩, if_pos hc, ← hv]
theorem tR_fill {s : nx_S} {T : TS} {r i : Nat} {n : Int} {v : Int32} (hi : i < 40) (h : tR s (fun k => if k = r then n else T.1 k, fun k j => if k = r ∧ j < i then v else T.2 k j)) : tR (nx_ui s 6 (upd (s.1 6) (40 * r + i) v)) (fun k => if k = r then n else T.1 k, fun k j => if k = r ∧ j < i + 1 then v else T.2 k j) := by
  refine ⟨h.1, fun k j hk hj => ?_⟩
  show upd (s.1 6) (40 * r + i) v (40 * k + j) = if k = r ∧ j < i + 1 then v else T.2 k j
  by_cases e : k = r ∧ j = i
  · rw [e.1, e.2, upd_s, if_pos ⟨rfl, by omega⟩]
  · rw [upd_n _ _ (by omega)]
    have h2 : s.1 6 (40 * k + j) = if k = r ∧ j < i then v else T.2 k j := h.2 k j hk hj
    rw [h2]
    by_cases e2 : k = r ∧ j < i
    · rw [if_pos e2, if_pos ⟨e2.1, by omega⟩]
    · rw [if_neg e2, if_neg (fun q => by omega)]
set_option maxRecDepth 100000 in
theorem tl_R (Q : nk_Q) (s : nx_S) (R N : Int32) (r0 : 0 ≤ R.toInt) (r1 : R.toInt ≤ 3) (hq : ∀ s1 : nx_S, tx_P s s1 → (∀ T : TS, tR s (fun k => if k = R.toInt.toNat then N.toInt else T.1 k, T.2) → tR s1 (fun k => if k = R.toInt.toNat then N.toInt else T.1 k, fun k j => if k = R.toInt.toNat ∧ j < 40 then 32 else T.2 k j)) → Q (some (.int N)) (nx_enc s1 0 shR)) : ∀ (n i : Nat) (I : Int32) (s1 : nx_S), i + n = 40 → I.toInt = i → tx_P s s1 → (∀ T : TS, tR s (fun k => if k = R.toInt.toNat then N.toInt else T.1 k, T.2) → tR s1 (fun k => if k = R.toInt.toNat then N.toInt else T.1 k, fun k j => if k = R.toInt.toNat ∧ j < i then 32 else T.2 k j)) → nk_wp kx_X6_text kc_X6_text Q 34 [some (.ref 0), some (.int R), some (.int N), some (.int I)] [] (nx_enc s1 0 shR) 0 0 := by
  have h40 : (40 : Int32).toInt = 40 := rfl
  have h1 : (1 : Int32).toInt = 1 := rfl
  intro n
  induction n with
  | zero =>
    intro i I s1 hi hI hp ht
    have e : i = 40 := by omega
    subst e
    refine nx_s (nx_s (nx_s ?_))
    refine nk_br.t (i_le (by omega)) ?_
    refine nx_s (nx_s ?_)
    exact hq s1 hp ht
  | succ n ih =>
    intro i I s1 hi hI hp ht
    have e1 : (I + 1).toInt = ((i + 1 : Nat) : Int) := by
      rw [i_add (by omega) (by omega)]
      omega
    have ix := i_4t r0 r1 (show 0 ≤ I.toInt by omega) (show I.toInt ≤ 39 by omega)
    have ii : I.toInt.toNat = i := by omega
    refine nx_s (nx_s (nx_s ?_))
    refine nk_br.f (i_nle (by omega)) ?_
    refine nx_s (nx_s (nx_s (nx_s (nx_s (nx_s (nx_s (nx_s (nx_s ?_))))))))
    refine ⟨nx_in (n := 160) (by omega) (by omega), ?_⟩
    rw [ix.2, ii]
    refine nx_s (nx_s ?_)
    refine ih (i + 1) (I + 1) _ (by omega) e1 ⟨fun q h6 => ?_, hp.2⟩ (fun T h => tR_fill (by omega) (ht T h))
    show (if q = 6 then _ else s1.1 q) = s.1 q
    rw [if_neg h6]
    exact hp.1 q h6
set_option maxRecDepth 100000 in
set_option maxHeartbeats 4000000 in
theorem tx_R (Q : nk_Q) (s : nx_S) (R N : Int32) (hInv : nx_Inv gR s) (hJ : nJ s) (hq : ∀ (s1 : nx_S) (r : Int32), nx_Inv gR s1 → nJ s1 → (∀ T : TS, tR s T → tR s1 (g_text T R N)) → r = f_text R N → Q (some (.int r)) (nx_enc s1 0 shR)) : ev_X6_text [.ref 0, .int R, .int N] (nx_enc s 0 shR) Q := by
  have h40 : (40 : Int32).toInt = 40 := rfl
  have h0 : (0 : Int32).toInt = 0 := rfl
  have same : ∀ s1 : nx_S, tkR s s1 → ¬ ((0 ≤ R.toInt ∧ R.toInt ≤ 3) ∧ 0 ≤ N.toInt ∧ N.toInt ≤ 40) → ∀ T : TS, tR s T → tR s1 (g_text T R N) := fun s1 hk hn T h => by
    unfold g_text
    rw [if_neg hn]
    exact hk T h
  have bad : ¬ ((0 ≤ R.toInt ∧ R.toInt ≤ 3) ∧ N.toInt ≤ 40) → nk_wp kx_X6_text kc_X6_text Q 13 [some (.ref 0), some (.int R), some (.int N), none] [] (nx_enc s 0 shR) 0 0 := by
    intro hn
    refine nx_s (nx_s ?_)
    exact hq s _ hInv hJ (same s (tk_rr s) (fun h => by omega)) (by unfold f_text; rw [if_neg hn])
  refine nx_s (nx_s ?_)
  refine it_Rx _ s R (fun r0 r1 => ?_) (fun hn => ?_)
  rotate_left
  · refine nx_s ?_
    refine nk_br.t (by decide) ?_
    exact bad (fun h => hn h.1)
  refine nx_s ?_
  refine nk_br.f (by decide) ?_
  refine nx_s (nx_s (nx_s ?_))
  refine br_le (fun n1 => ?_) (fun n1 => ?_)
  rotate_left
  · exact bad (by omega)
  refine nx_s (nx_s ?_)
  refine br_le (fun n0 => ?_) (fun n0 => ?_)
  rotate_left
  · refine nx_s (nx_s (nx_s ?_))
    refine me_R _ s 5 (by decide) (by decide) (fun s1 hm => ?_)
    refine nx_s ?_
    exact hq s1 _ (me_inv hInv hm) (nJ_me hJ hm) (same s1 (tkR_me hm) (fun h => by omega)) (by unfold f_text; rw [if_pos ⟨⟨r0, r1⟩, by omega⟩, if_pos (by omega)])
  have eR : R.toInt.toNat = R.toNatClampNeg := Int32.toNat_toInt R
  refine nx_s (nx_s (nx_s (nx_s (nx_s ?_))))
  refine ⟨nx_in (n := 4) (by omega) (by omega), ?_⟩
  refine nx_s (nx_s ?_)
  refine tl_R Q (nx_ui s 5 (upd (s.1 5) R.toNatClampNeg N)) R N r0 r1 (fun s1 hp ht => ?_) 40 0 0 _ rfl rfl ⟨fun _ _ => rfl, rfl⟩ (fun T h => ⟨h.1, fun k j hk hj => ?_⟩)
  · refine hq s1 _ (tx_inv (t5_inv (k := R.toNatClampNeg) hInv (show -9 ≤ N.toInt by omega) (show N.toInt ≤ 40 by omega)) hp) (nJ_s hJ (by rw [hp.2]; rfl) (by rw [hp.2]; exact Int.le_refl _)) (fun T h => ?_) (by unfold f_text; rw [if_pos ⟨⟨r0, r1⟩, by omega⟩, if_neg (by omega)])
    unfold g_text
    rw [if_pos ⟨⟨r0, r1⟩, by omega, by omega⟩]
    have t1 := ht T ⟨fun k hk => ?_, fun k j hk hj => h.2 k j hk hj⟩
    · refine ⟨t1.1, fun k j hk hj => ?_⟩
      have t2 : s1.1 6 (40 * k + j) = if k = R.toInt.toNat ∧ j < 40 then 32 else T.2 k j := t1.2 k j hk hj
      show s1.1 6 (40 * k + j) = if k = R.toInt.toNat then 32 else T.2 k j
      rw [t2]
      by_cases e : k = R.toInt.toNat
      · rw [if_pos ⟨e, hj⟩, if_pos e]
      · rw [if_neg (fun q => e q.1), if_neg e]
    · show tn (upd (s.1 5) R.toNatClampNeg N k).toInt (if k = R.toInt.toNat then N.toInt else T.1 k)
      by_cases e : k = R.toInt.toNat
      · rw [if_pos e, e, eR, upd_s]
        exact Or.inl rfl
      · rw [if_neg e, upd_n _ _ (by omega)]
        exact h.1 k hk
  · show s.1 6 (40 * k + j) = if k = R.toInt.toNat ∧ j < 0 then 32 else T.2 k j
    rw [if_neg (fun q => Nat.not_lt_zero j q.2)]
    exact h.2 k j hk hj
def TT (s1 s2 : nx_S) : Prop := ∃ T : TS, tC s1 T ∧ tR s2 T
theorem tt_k {s1 s2 t1 t2 : nx_S} (h : TT s1 s2) (z1 : tkC s1 t1) (z2 : tkR s2 t2) : TT t1 t2 := by
  obtain ⟨T, h1, h2⟩ := h
  exact ⟨T, z1 T h1, z2 T h2⟩
theorem tt_text {s1 s2 t1 t2 : nx_S} {r n : Int32} (h : TT s1 s2) (z1 : ∀ T : TS, tC s1 T → tC t1 (g_text T r n)) (z2 : ∀ T : TS, tR s2 T → tR t2 (g_text T r n)) : TT t1 t2 := by
  obtain ⟨T, h1, h2⟩ := h
  exact ⟨_, z1 T h1, z2 T h2⟩
theorem tt_put {s1 s2 t1 t2 : nx_S} {r i v x y : Int32} (h : TT s1 s2) (z1 : ∀ T : TS, tC s1 T → tC t1 (g_put T r i v) ∧ x = f_put T r i) (z2 : ∀ T : TS, tR s2 T → tR t2 (g_put T r i v) ∧ y = f_put T r i) : TT t1 t2 ∧ x = y := by
  obtain ⟨T, h1, h2⟩ := h
  exact ⟨⟨_, (z1 T h1).1, (z2 T h2).1⟩, (z1 T h1).2.trans (z2 T h2).2.symm⟩
