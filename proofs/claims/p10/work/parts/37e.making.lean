/-! ===== the reference's making by hand ===== -/
theorem mg_ix {M : Int32} {j : Int32} (h0 : 0 ≤ M.toInt) (h1 : M.toInt ≤ 11) (j0 : 0 ≤ j.toInt) (j1 : j.toInt ≤ 6) : 0 ≤ (7 * M + j).toInt ∧ (7 * M + j).toInt < 84 ∧ (7 * M + j).toNatClampNeg = 7 * M.toNatClampNeg + j.toNatClampNeg := by
  have e := (nx_i7 h0 h1 j0 j1).2
  have em : M.toInt.toNat = M.toNatClampNeg := Int32.toNat_toInt M
  have ej : j.toInt.toNat = j.toNatClampNeg := Int32.toNat_toInt j
  exact ⟨by omega, by omega, nx_cl (by omega)⟩
theorem mg_i0 {M : Int32} (h0 : 0 ≤ M.toInt) (h1 : M.toInt ≤ 11) : 0 ≤ (7 * M).toInt ∧ (7 * M).toInt < 84 ∧ (7 * M).toNatClampNeg = 7 * M.toNatClampNeg + 0 := by
  have h7 : (7 : Int32).toInt = 7 := rfl
  have e : (7 * M).toInt = 7 * M.toInt := i_mul (by rw [h7]) (by omega) (by omega)
  have em : M.toInt.toNat = M.toNatClampNeg := Int32.toNat_toInt M
  exact ⟨by omega, by omega, nx_cl (by omega)⟩
noncomputable def mg_F (s s1 : nx_S) : Prop := (∀ q : Nat, q ≠ 1 → q ≠ 8 → s1.1 q = s.1 q) ∧ (∀ p : Nat, p ≠ 0 → p ≠ 12 → s1.2.2.1 0 p = s.2.2.1 0 p) ∧ (s1.2.2.1 0 12 = s.2.2.1 0 12 ∨ 0 < (s.2.2.1 0 10).toInt)
theorem mg_inv {s : nx_S} {f : Nat → Int32} {x : Int32} (hInv : nx_Inv gR s) (hf : nx_PM f) (hx0 : 0 ≤ x.toInt) (hx1 : x.toInt ≤ 12) (hP : PER (nx_ui s 8 f)) : nx_Inv gR (nx_uf (nx_ui s 8 f) 0 12 x) := by
  have h8 : nx_Inv gR (nx_ui s 8 f) := by
    refine ⟨hInv.1, fun q n l hq i hi => ?_, hf, hP⟩
    by_cases e5 : q = 8
    · subst e5
      exact na_i32 _
    · have e6 : (nx_ui s 8 f).1 q = s.1 q := by
        show (if q = 8 then f else s.1 q) = s.1 q
        rw [if_neg e5]
      rw [e6]
      exact hInv.2.1 q n l hq i hi
  exact h8.uf ndk_R (k := (0, 12)) (i := 3) (e := (0, 12)) rfl rfl hx0 hx1 ke_R (fun q => by
    have q : (0, 12) ∈ [((0 : Nat), (10 : Nat))] := q
    exact absurd (List.mem_singleton.mp q) (by decide))
theorem mg_PE {s : nx_S} {m : Nat} {a b c d e g h : Int32} (hP : PER s) (hb : b.toInt < (s.2.2.1 0 10).toInt) (hc : c.toInt < (s.2.2.1 0 10).toInt ∨ (a.toInt ≠ 2 ∧ a.toInt ≠ 3 ∧ a.toInt ≠ 5)) : PER (nx_ui s 8 (am_f (s.1 8) m a b c d e g h)) := by
  obtain ⟨i0, i1, i2, -, -, -, -⟩ := am_i (s.1 8) m a b c d e g h
  have e8 : (nx_ui s 8 (am_f (s.1 8) m a b c d e g h)).1 8 = am_f (s.1 8) m a b c d e g h := rfl
  have e7 : (nx_ui s 8 (am_f (s.1 8) m a b c d e g h)).1 7 = s.1 7 := rfl
  unfold PER
  rw [e7, e8]
  refine ⟨hP.1, fun k hk => ?_⟩
  by_cases ek : k = m
  · rw [ek, i0, i1, i2]
    exact Or.inr ⟨hb, hc⟩
  · rw [am_o _ _ _ _ _ _ _ _ _ ek (by omega), am_o _ _ _ _ _ _ _ _ _ ek (by omega), am_o _ _ _ _ _ _ _ _ _ ek (by omega)]
    exact hP.2 k hk
set_option maxRecDepth 100000 in
set_option maxHeartbeats 8000000 in
/-- the stores -/
theorem mg_st (Q : nk_Q) (s : nx_S) (K S V MK W KN PT : Int32) (hInv : nx_Inv gR s) (hM : (s.2.2.1 0 12).toInt ≤ 11) (hK : 0 ≤ K.toInt ∧ K.toInt ≤ 6) (hS : 0 ≤ S.toInt ∧ S.toInt < (s.2.2.1 0 10).toInt) (hV : K = 0 ∨ K = 4 ∨ (K = 1 ∧ 0 ≤ V.toInt ∧ V.toInt ≤ 9) ∨ (K = 6 ∧ 1 ≤ V.toInt ∧ V.toInt ≤ 99) ∨ ((K = 2 ∨ K = 3 ∨ K = 5) ∧ 0 ≤ V.toInt ∧ V.toInt < (s.2.2.1 0 10).toInt)) (hMK : 0 ≤ MK.toInt ∧ MK.toInt ≤ 5) (hW : 0 ≤ W.toInt ∧ W.toInt ≤ 99) (hKN : 0 ≤ KN.toInt ∧ KN.toInt ≤ 5) (hq : ∀ (s1 : nx_S) (r : Int32), nx_Inv gR s1 → mg_F s s1 → Q (some (.int r)) (nx_enc s1 0 shR)) : nk_wp kx_X6_making kc_X6_making Q 98 [some (.ref 0), some (.int K), some (.int S), some (.int V), some (.int MK), some (.int W), some (.int KN), some (.int PT), none] [] (nx_enc s 0 shR) 0 0 := by
  have hN := nR_N hInv
  have hM0 : 0 ≤ (s.2.2.1 0 12).toInt := (hInv.1 3 (0, 12) (0, 12) rfl rfl).1
  have hPM : nx_PM (s.1 8) := hInv.2.2.1
  have hPE : PER s := hInv.2.2.2
  have a1x : (1 : Int32).toInt = 1 := rfl
  refine nx_s (nx_s (nx_s ?_))
  show nk_wp kx_X6_making kc_X6_making Q 104 [some (.ref 0), some (.int K), some (.int S), some (.int V), some (.int MK), some (.int W), some (.int KN), some (.int PT), none] [.int (s.2.2.1 0 12), .int 7] (nx_enc s 0 shR) 0 0
  have hMp : (s.2.2.1 0 12 + 1).toInt = (s.2.2.1 0 12).toInt + 1 := by rw [i_add (by omega) (by omega), a1x]
  have key : ∀ (M : Int32) (f : Nat → Int32), nx_PM f → PER (nx_ui s 8 f) → nk_wp kx_X6_making kc_X6_making Q 220 [some (.ref 0), some (.int K), some (.int S), some (.int V), some (.int MK), some (.int W), some (.int KN), some (.int PT), some (.int (7 * M))] [] (nx_enc (nx_ui s 8 f) 0 shR) 0 0 := by
    intro M f hf hp
    refine nx_s (nx_s (nx_s (nx_s (nx_s (nx_s (nx_s (nx_s (nx_s (nx_s (nx_s ?_))))))))))
    refine hq (nx_uf (nx_ui s 8 f) 0 12 (s.2.2.1 0 12 + 1)) _ (mg_inv hInv hf (by omega) (by omega) hp) ⟨fun q h1 h8 => ?_, fun p h0 h12 => ?_, Or.inr (by omega)⟩
    · show (if q = 8 then f else s.1 q) = s.1 q
      rw [if_neg h8]
    · show (if 0 = 0 ∧ p = 12 then _ else s.2.2.1 0 p) = s.2.2.1 0 p
      rw [if_neg (fun e => h12 e.2)]
  generalize s.2.2.1 0 12 = M at hM hM0 ⊢
  have key := key M
  obtain ⟨a0, b0, c0⟩ := mg_i0 hM0 hM
  obtain ⟨a1, b1, c1⟩ := mg_ix (j := 1) hM0 hM (by decide) (by decide)
  obtain ⟨a2, b2, c2⟩ := mg_ix (j := 2) hM0 hM (by decide) (by decide)
  obtain ⟨a3, b3, c3⟩ := mg_ix (j := 3) hM0 hM (by decide) (by decide)
  obtain ⟨a4, b4, c4⟩ := mg_ix (j := 4) hM0 hM (by decide) (by decide)
  obtain ⟨a5, b5, c5⟩ := mg_ix (j := 5) hM0 hM (by decide) (by decide)
  obtain ⟨a6, b6, c6⟩ := mg_ix (j := 6) hM0 hM (by decide) (by decide)
  have tail : ∀ (c : Int32) (f : Nat → Int32), 0 ≤ c.toInt → c.toInt ≤ 99 → (c.toInt ≤ 15 ∨ K = 6) → (c.toInt < (s.2.2.1 0 10).toInt ∨ (K.toInt ≠ 2 ∧ K.toInt ≠ 3 ∧ K.toInt ≠ 5)) → f = upd (upd (upd (s.1 8) (7 * M.toNatClampNeg + 0) K) (7 * M.toNatClampNeg + 1) S) (7 * M.toNatClampNeg + 2) c → nk_wp kx_X6_making kc_X6_making Q 157 [some (.ref 0), some (.int K), some (.int S), some (.int V), some (.int MK), some (.int W), some (.int KN), some (.int PT), some (.int (7 * M))] [] (nx_enc (nx_ui s 8 f) 0 shR) 0 0 := by
    intro c f hc0 hc1 hc2 hc3 hf
    have last : ∀ h : Int32, (h = 0 ∨ (h = 1 ∧ K ≠ 6)) → nk_wp kx_X6_making kc_X6_making Q 220 [some (.ref 0), some (.int K), some (.int S), some (.int V), some (.int MK), some (.int W), some (.int KN), some (.int PT), some (.int (7 * M))] [] (nx_enc (nx_ui s 8 (am_f (s.1 8) M.toNatClampNeg K S c MK W KN h)) 0 shR) 0 0 := by
      intro h hh
      refine key _ (am_PM hPM hK ⟨hS.1, by omega⟩ ⟨hc0, hc1⟩ hMK hW hKN ?_ ?_) (mg_PE hPE hS.2 hc3)
      · rcases hh with e | e
        · rw [e]; decide
        · rw [e.1]; decide
      · rcases hc2 with e | e
        · exact Or.inl e
        · rcases hh with e2 | e2
          · exact Or.inr ⟨by rw [e]; rfl, by rw [e2]; rfl⟩
          · exact absurd e e2.2
    refine nx_s (nx_s (nx_s (nx_s (nx_s (nx_s (nx_s ?_))))))
    refine ⟨nx_in (n := 84) a3 b3, ?_⟩
    refine nx_s (nx_s (nx_s (nx_s (nx_s (nx_s (nx_s ?_))))))
    refine ⟨nx_in (n := 84) a4 b4, ?_⟩
    refine nx_s (nx_s (nx_s (nx_s (nx_s (nx_s (nx_s ?_))))))
    refine ⟨nx_in (n := 84) a5 b5, ?_⟩
    rw [c3, c4, c5, nx_uu, nx_u1, nx_uu, nx_u1, nx_uu, nx_u1, hf]
    refine nx_s (nx_s (nx_s (nx_s (nx_s (nx_s (nx_s ?_))))))
    refine nk_br.mk (fun _ => ?_) (fun _ => ?_)
    · refine nx_s (nx_s ?_)
      refine ⟨nx_in (n := 84) a6 b6, ?_⟩
      rw [c6, nx_uu, nx_u1]
      exact last 0 (Or.inl rfl)
    · refine nx_s (nx_s (nx_s ?_))
      refine nk_br.mk (fun e => ?_) (fun _ => ?_)
      · refine nx_s (nx_s (nx_s ?_))
        refine ⟨nx_in (n := 84) a6 b6, ?_⟩
        rw [c6, nx_uu, nx_u1]
        exact last 1 (Or.inr ⟨rfl, by rw [e]; decide⟩)
      · refine nx_s (nx_s (nx_s ?_))
        refine nk_br.mk (fun e => ?_) (fun _ => ?_)
        · refine nx_s (nx_s (nx_s ?_))
          refine ⟨nx_in (n := 84) a6 b6, ?_⟩
          rw [c6, nx_uu, nx_u1]
          exact last 1 (Or.inr ⟨rfl, by rw [e]; decide⟩)
        · refine nx_s (nx_s ?_)
          refine ⟨nx_in (n := 84) a6 b6, ?_⟩
          rw [c6, nx_uu, nx_u1]
          exact last 0 (Or.inl rfl)
  refine nx_s (nx_s ?_)
  refine nx_s (nx_s (nx_s (nx_s (nx_s ?_))))
  refine ⟨nx_in (n := 84) a0 b0, ?_⟩
  refine nx_s (nx_s (nx_s (nx_s (nx_s (nx_s (nx_s ?_))))))
  refine ⟨nx_in (n := 84) a1 b1, ?_⟩
  rw [c0, c1, nx_uu, nx_u1]
  refine nx_s (nx_s (nx_s (nx_s (nx_s ?_))))
  have z0 : 0 ≤ (0 : Int32).toInt := by decide
  rcases i_7 hK.1 hK.2 with rfl | rfl | rfl | rfl | rfl | rfl | rfl
  all_goals repeat' first
    | (refine And.intro (nx_in (n := 84) a2 b2) ?_; rw [c2, nx_uu, nx_u1])
    | exact tail 0 _ z0 (by decide) (Or.inl (by decide)) (Or.inr ⟨by decide, by decide, by decide⟩) rfl
    | (refine tail V _ ?_ ?_ ?_ ?_ rfl)
    | refine nx_s ?_
    | refine nk_br.t (by decide) ?_
    | refine nk_br.f (by decide) ?_
    | refine nk_bo0 ?_
    | refine nk_bo1 ?_
    | fail
  all_goals (rcases hV with h | h | h | h | h <;> first
    | exact absurd h (by decide)
    | exact absurd h.1 (by decide)
    | (first
      | omega
      | exact Or.inl (by omega)
      | exact Or.inr rfl
      | exact Or.inr ⟨by decide, by decide, by decide⟩))
set_option maxRecDepth 100000 in
theorem iw_R (Q : nk_Q) (s : nx_S) (v : Int32) (h1 : 0 ≤ v.toInt → v.toInt ≤ 99 → Q (some (.int 1)) (nx_enc s 0 shR)) (h2 : Q (some (.int 0)) (nx_enc s 0 shR)) : ev_X6_isWork [.int v] (nx_enc s 0 shR) Q := by
  have a0 : (0 : Int32).toInt = 0 := rfl
  have a5 : (99 : Int32).toInt = 99 := rfl
  refine nx_s (nx_s (nx_s (nx_s ?_)))
  refine in_R _ _ v 0 99 (fun x y => ?_) (fun _ => ?_)
  · refine nx_s ?_
    refine nk_bo1 ?_
    exact h1 (by omega) (by omega)
  · refine nx_s ?_
    refine nk_bo0 ?_
    exact h2
set_option maxRecDepth 100000 in
set_option maxHeartbeats 4000000 in
theorem iv_R (Q : nk_Q) (s : nx_S) (K S V : Int32) (hInv : nx_Inv gR s) (hK : 0 ≤ K.toInt ∧ K.toInt ≤ 6) (h1 : (K = 0 ∨ K = 4 ∨ (K = 1 ∧ 0 ≤ V.toInt ∧ V.toInt ≤ 9) ∨ (K = 6 ∧ 1 ≤ V.toInt ∧ V.toInt ≤ 99) ∨ ((K = 2 ∨ K = 3 ∨ K = 5) ∧ 0 ≤ V.toInt ∧ V.toInt < (s.2.2.1 0 10).toInt)) → Q (some (.int 1)) (nx_enc s 0 shR)) (h2 : Q (some (.int 0)) (nx_enc s 0 shR)) : ev_X6_isV [.ref 0, .int K, .int S, .int V] (nx_enc s 0 shR) Q := by
  have a0 : (0 : Int32).toInt = 0 := rfl
  have a1 : (1 : Int32).toInt = 1 := rfl
  have a9 : (9 : Int32).toInt = 9 := rfl
  have a99 : (99 : Int32).toInt = 99 := rfl
  rcases i_7 hK.1 hK.2 with rfl | rfl | rfl | rfl | rfl | rfl | rfl
  all_goals repeat' first
    | exact h2
    | exact h1 (Or.inl rfl)
    | exact h1 (Or.inr (Or.inl rfl))
    | exact h1 (Or.inr (Or.inr (Or.inl ⟨rfl, by omega, by omega⟩)))
    | exact h1 (Or.inr (Or.inr (Or.inr (Or.inl ⟨rfl, by omega, by omega⟩))))
    | exact h1 (Or.inr (Or.inr (Or.inr (Or.inr ⟨by decide, by assumption, by assumption⟩))))
    | refine in_R _ _ V _ _ (fun x y => ?_) (fun _ => ?_)
    | refine is_R _ s V hInv (fun x y => ?_) (fun _ => ?_)
    | refine nx_s ?_
    | refine nk_bo0 ?_
    | refine nk_bo1 ?_
    | refine nk_br.t (by decide) ?_
    | refine nk_br.f (by decide) ?_
    | refine nk_br.mk (fun _ => ?_) (fun _ => ?_)
    | fail
set_option maxRecDepth 100000 in
set_option maxHeartbeats 4000000 in
theorem mg_R (Q : nk_Q) (s : nx_S) (K S V MK W KN PT : Int32) (hInv : nx_Inv gR s) (hq : ∀ (s1 : nx_S) (r : Int32), nx_Inv gR s1 → mg_F s s1 → Q (some (.int r)) (nx_enc s1 0 shR)) : ev_X6_making [.ref 0, .int K, .int S, .int V, .int MK, .int W, .int KN, .int PT] (nx_enc s 0 shR) Q := by
  have a0 : (0 : Int32).toInt = 0 := rfl
  have a5 : (5 : Int32).toInt = 5 := rfl
  have a6 : (6 : Int32).toInt = 6 := rfl
  have a12 : (12 : Int32).toInt = 12 := rfl
  have hN := nR_N hInv
  have hM12 : (s.2.2.1 0 12).toInt ≤ 12 := (hInv.1 3 (0, 12) (0, 12) rfl rfl).2
  have no : nk_wp kx_X6_making kc_X6_making Q 54 [some (.ref 0), some (.int K), some (.int S), some (.int V), some (.int MK), some (.int W), some (.int KN), some (.int PT), none] [] (nx_enc s 0 shR) 0 0 := by
    refine nx_s (nx_s ?_)
    exact hq s (-1) hInv ⟨fun _ _ _ => rfl, fun _ _ _ => rfl, Or.inl rfl⟩
  refine nx_s (nx_s (nx_s (nx_s ?_)))
  refine in_R _ _ K 0 6 (fun k0 k1 => ?_) (fun _ => ?_)
  rotate_left
  · refine nx_s ?_
    refine nk_br.t (by decide) ?_
    exact no
  refine nx_s ?_
  refine nk_br.f (by decide) ?_
  refine nx_s (nx_s (nx_s ?_))
  refine is_R _ s S hInv (fun s0 s1 => ?_) (fun _ => ?_)
  rotate_left
  · refine nx_s ?_
    refine nk_br.t (by decide) ?_
    exact no
  refine nx_s ?_
  refine nk_br.f (by decide) ?_
  refine nx_s (nx_s (nx_s (nx_s (nx_s ?_))))
  refine iv_R _ s K S V hInv ⟨by omega, by omega⟩ (fun hV => ?_) ?_
  rotate_left
  · refine nx_s ?_
    refine nk_br.t (by decide) ?_
    exact no
  refine nx_s ?_
  refine nk_br.f (by decide) ?_
  refine nx_s (nx_s ?_)
  refine i0_R _ s MK (fun m0 m1 => ?_) ?_
  rotate_left
  · refine nx_s ?_
    refine nk_br.t (by decide) ?_
    exact no
  refine nx_s ?_
  refine nk_br.f (by decide) ?_
  refine nx_s (nx_s ?_)
  refine iw_R _ s W (fun w0 w1 => ?_) ?_
  rotate_left
  · refine nx_s ?_
    refine nk_br.t (by decide) ?_
    exact no
  refine nx_s ?_
  refine nk_br.f (by decide) ?_
  refine nx_s (nx_s (nx_s (nx_s ?_)))
  refine in_R _ _ KN 0 5 (fun n0 n1 => ?_) (fun _ => ?_)
  rotate_left
  · refine nx_s ?_
    refine nk_br.t (by decide) ?_
    exact no
  refine nx_s ?_
  refine nk_br.f (by decide) ?_
  refine nx_s (nx_s (nx_s (nx_s ?_)))
  show nk_br (s.2.2.1 0 12 = 12) _ _
  refine br_eq (fun _ => ?_) (fun hne => ?_)
  · refine nx_s (nx_s ?_)
    exact hq s (-2) hInv ⟨fun _ _ _ => rfl, fun _ _ _ => rfl, Or.inl rfl⟩
  have go := mg_st Q s K S V MK W KN PT hInv (by omega) ⟨by omega, by omega⟩ ⟨s0, s1⟩ hV ⟨m0, m1⟩ ⟨w0, w1⟩ ⟨by omega, by omega⟩ hq
  refine nx_s (nx_s (nx_s ?_))
  refine nk_br.mk (fun hK3 => ?_) (fun _ => go)
  have hV3 : 0 ≤ V.toInt ∧ V.toInt < (s.2.2.1 0 10).toInt := by
    rcases hV with h | h | h | h | h
    · rw [hK3] at h; exact absurd h (by decide)
    · rw [hK3] at h; exact absurd h (by decide)
    · rw [hK3] at h; exact absurd h.1 (by decide)
    · rw [hK3] at h; exact absurd h.1 (by decide)
    · exact h.2
  have x5 : (5 * S).toInt = 5 * S.toInt := i_50 (by omega) (by omega)
  have y5 : (5 * V).toInt = 5 * V.toInt := i_50 (by omega) (by omega)
  refine nx_s (nx_s (nx_s (nx_s (nx_s (nx_s ?_)))))
  refine ⟨nx_in (n := 80) (by omega) (by omega), ?_⟩
  refine nx_s (nx_s (nx_s (nx_s (nx_s (nx_s ?_)))))
  refine ⟨nx_in (n := 80) (by omega) (by omega), ?_⟩
  refine nx_s ?_
  refine nk_br.mk (fun _ => go) (fun _ => ?_)
  refine nx_s (nx_s (nx_s ?_))
  refine me_R _ s 3 (by decide) (by decide) (fun s2 hm => ?_)
  refine nx_s ?_
  exact hq s2 _ (me_inv hInv hm) ⟨fun q h1 _ => hm.1 q h1, fun p h0 _ => hm.2.2 p h0, Or.inl (hm.2.2 12 (by decide))⟩
/-! ### who has MAKINGS has STUFFS -/
noncomputable def nJ (s : nx_S) : Prop := 0 < (s.2.2.1 0 12).toInt → 0 < (s.2.2.1 0 10).toInt
theorem nJ_s {s s1 : nx_S} (h : nJ s) (h12 : s1.2.2.1 0 12 = s.2.2.1 0 12) (h10 : (s.2.2.1 0 10).toInt ≤ (s1.2.2.1 0 10).toInt) : nJ s1 := fun q => by
  rw [h12] at q
  have := h q
  omega
theorem nJ_mg {s s1 : nx_S} (h : nJ s) (hm : mg_F s s1) : nJ s1 := fun q => by
  rw [hm.2.1 10 (by decide) (by decide)]
  rcases hm.2.2 with e | e
  · rw [e] at q
    exact h q
  · exact e
theorem nJ_hd {s s1 : nx_S} (h : nJ s) (hm : hd_F s s1) : nJ s1 := nJ_s h (hm.2 12 (by decide) (by decide) (by decide) (by decide)) (by rw [hm.2 10 (by decide) (by decide) (by decide) (by decide)]; exact Int.le_refl _)
theorem nJ_me {s s1 : nx_S} (h : nJ s) (hm : me_P s s1) : nJ s1 := nJ_hd h (hd_me hm)
