/-! ===== the reference's calls by hand ===== -/
theorem br_lt {x y : Int32} {A B : Prop} (a : x.toInt < y.toInt → A) (b : y.toInt ≤ x.toInt → B) : nk_br (x < y) A B := ⟨fun h => a (Int32.lt_iff_toInt_lt.mp h), fun h => b (Int32.le_iff_toInt_le.mp (Int32.not_lt.mp h))⟩
theorem br_le {x y : Int32} {A B : Prop} (a : x.toInt ≤ y.toInt → A) (b : y.toInt < x.toInt → B) : nk_br (x ≤ y) A B := ⟨fun h => a (Int32.le_iff_toInt_le.mp h), fun h => b (Int32.lt_iff_toInt_lt.mp (Int32.not_le.mp h))⟩
theorem br_eq {x y : Int32} {A B : Prop} (a : x.toInt = y.toInt → A) (b : x.toInt ≠ y.toInt → B) : nk_br (x = y) A B := ⟨fun h => a (by rw [h]), fun h => b (fun q => h (Int32.toInt_inj.mp q))⟩
set_option maxRecDepth 100000 in
theorem in_R (Q : nk_Q) (h : nk_H) (v lo hi : Int32) (h1 : lo.toInt ≤ v.toInt → v.toInt ≤ hi.toInt → Q (some (.int 1)) h) (h2 : ¬ (lo.toInt ≤ v.toInt ∧ v.toInt ≤ hi.toInt) → Q (some (.int 0)) h) : ev_X6_in [.int v, .int lo, .int hi] h Q := by
  refine nk_s (nk_s (nk_s ?_))
  refine br_lt (fun a => ?_) (fun a => ?_)
  · refine nk_s (nk_s ?_)
    refine nk_bo0 ?_
    exact h2 (by omega)
  · refine nk_s (nk_s (nk_s ?_))
    refine br_lt (fun b => ?_) (fun b => ?_)
    · refine nk_s (nk_s ?_)
      refine nk_bo0 ?_
      exact h2 (by omega)
    · refine nk_s (nk_s (nk_s ?_))
      refine nk_bo1 ?_
      exact h1 a b
theorem nR_N {s : nx_S} (h : nx_Inv gR s) : 0 ≤ (s.2.2.1 0 10).toInt ∧ (s.2.2.1 0 10).toInt ≤ 16 := h.1 2 (0, 10) (0, 16) rfl rfl
theorem nR_N1 {s : nx_S} (h : nx_Inv gR s) : (s.2.2.1 0 10 - 1).toInt = (s.2.2.1 0 10).toInt - 1 := by
  have := nR_N h
  have a1 : (1 : Int32).toInt = 1 := rfl
  rw [Int32.toInt_sub, a1, na_bm (show (-2147483648 : Int) ≤ _ by omega) (show _ ≤ (2147483647 : Int) by omega)]
set_option maxRecDepth 100000 in
theorem is_R (Q : nk_Q) (s : nx_S) (v : Int32) (hInv : nx_Inv gR s) (h1 : 0 ≤ v.toInt → v.toInt < (s.2.2.1 0 10).toInt → Q (some (.int 1)) (nx_enc s 0 shR)) (h2 : ¬ (0 ≤ v.toInt ∧ v.toInt < (s.2.2.1 0 10).toInt) → Q (some (.int 0)) (nx_enc s 0 shR)) : ev_X6_isStuff [.ref 0, .int v] (nx_enc s 0 shR) Q := by
  have e := nR_N1 hInv
  have a0 : (0 : Int32).toInt = 0 := rfl
  refine nx_s (nx_s (nx_s (nx_s (nx_s (nx_s (nx_s ?_))))))
  refine in_R _ _ v 0 (s.2.2.1 0 10 - 1) (fun x y => ?_) (fun x => ?_)
  · refine nx_s ?_
    refine nk_bo1 ?_
    exact h1 (by omega) (by omega)
  · refine nx_s ?_
    refine nk_bo0 ?_
    exact h2 (by omega)
/-- only what PER speaks of may have changed -/
theorem nR_inv7 {s s1 : nx_S} (h : nx_Inv gR s) (hq : ∀ q : Nat, q ≠ 7 → s1.1 q = s.1 q) (hF : ∀ p : Nat, p ≠ 10 → s1.2.2.1 0 p = s.2.2.1 0 p) (hN : 0 ≤ (s1.2.2.1 0 10).toInt ∧ (s1.2.2.1 0 10).toInt ≤ 16) (hP : PER s1) : nx_Inv gR s1 := by
  refine ⟨fun i k b hi hb => ?_, fun q n l hq2 i hi => ?_, ?_, hP⟩
  · have key : ∀ p : Nat, p ≠ 10 → k = (0, p) → b.1 ≤ (s1.2.2.1 k.1 k.2).toInt ∧ (s1.2.2.1 k.1 k.2).toInt ≤ b.2 := by
      intro p h1 e
      subst e
      show b.1 ≤ (s1.2.2.1 0 p).toInt ∧ (s1.2.2.1 0 p).toInt ≤ b.2
      rw [hF p h1]
      exact h.1 i (0, p) b hi hb
    match i, hi, hb with
    | 0, hi, hb => cases hi; exact key 0 (by decide) rfl
    | 1, hi, hb => cases hi; exact key 2 (by decide) rfl
    | 2, hi, hb => cases hi; cases hb; exact hN
    | 3, hi, hb => cases hi; exact key 12 (by decide) rfl
    | 4, hi, hb => cases hi; exact key 15 (by decide) rfl
    | 5, hi, hb => cases hi; exact key 22 (by decide) rfl
    | 6, hi, hb => cases hi; exact key 23 (by decide) rfl
    | 7, hi, hb => cases hi; exact key 24 (by decide) rfl
    | 8, hi, hb => cases hi; exact key 30 (by decide) rfl
    | i + 9, hi, hb => cases hi
  · by_cases e : q = 7
    · subst e
      exact na_i32 _
    · rw [hq q e]
      exact h.2.1 q n l hq2 i hi
  · show nx_PM (s1.1 8)
    rw [hq 8 (by decide)]
    exact h.2.2.1
/-! ### debt -/
theorem nR_fn {s s1 : nx_S} (hF : ∀ p : Nat, s1.2.2.1 0 p = s.2.2.1 0 p) : ∀ (i : Nat) (k : Nat × Nat), gR.2.1[i]? = some k → match nk_lk ([] : List (Nat × Int × Int)) i with
    | some b => b.1 ≤ (s1.2.2.1 k.1 k.2).toInt ∧ (s1.2.2.1 k.1 k.2).toInt ≤ b.2
    | none => s1.2.2.1 k.1 k.2 = s.2.2.1 k.1 k.2 := by
  intro i k hi
  match i, hi with
  | 0, hi => cases hi; exact hF 0
  | 1, hi => cases hi; exact hF 2
  | 2, hi => cases hi; exact hF 10
  | 3, hi => cases hi; exact hF 12
  | 4, hi => cases hi; exact hF 15
  | 5, hi => cases hi; exact hF 22
  | 6, hi => cases hi; exact hF 23
  | 7, hi => cases hi; exact hF 24
  | 8, hi => cases hi; exact hF 30
  | i + 9, hi => cases hi
set_option maxRecDepth 100000 in
set_option maxHeartbeats 4000000 in
theorem db_R (Q : nk_Q) (s : nx_S) (S V : Int32) (hInv : nx_Inv gR s) (hq : ∀ (s1 : nx_S) (r : Int32), nx_Inv gR s1 → (∀ q : Nat, q ≠ 7 → s1.1 q = s.1 q) → s1.2.2.1 = s.2.2.1 → Q (some (.int r)) (nx_enc s1 0 shR)) : ev_X6_debt [.ref 0, .int S, .int V] (nx_enc s 0 shR) Q := by
  have a0 : (0 : Int32).toInt = 0 := rfl
  have a9 : (999 : Int32).toInt = 999 := rfl
  have hN := nR_N hInv
  have no : Q (some (.int (-1))) (nx_enc s 0 shR) := hq s (-1) hInv (fun _ _ => rfl) rfl
  refine nx_s (nx_s (nx_s ?_))
  refine is_R _ s S hInv (fun s0 s1 => ?_) (fun _ => ?_)
  · refine nx_s ?_
    refine nk_br.f (by decide) ?_
    refine nx_s (nx_s (nx_s (nx_s ?_)))
    refine in_R _ _ V 0 999 (fun v0 v1 => ?_) (fun _ => ?_)
    · refine nx_s ?_
      refine nk_br.f (by decide) ?_
      have x4 : (5 * S + 4).toInt = 5 * S.toInt + 4 := i_5k (by omega) (by omega) (by decide) (by decide)
      have eS : (S.toNatClampNeg : Int) = S.toInt := by
        have : S.toInt.toNat = S.toNatClampNeg := Int32.toNat_toInt S
        omega
      have c4 : (5 * S + 4).toNatClampNeg = 5 * S.toNatClampNeg + 4 := nx_cl (by omega)
      refine nx_s (nx_s (nx_s (nx_s (nx_s (nx_s (nx_s (nx_s ?_)))))))
      refine ⟨nx_in (n := 80) (by omega) (by omega), ?_⟩
      refine nx_s (nx_s (nx_s (nx_s (nx_s (nx_s (nx_s (nx_s (nx_s (nx_s ?_)))))))))
      refine ⟨nx_in (n := 80) (by omega) (by omega), ?_⟩
      refine nx_s (nx_s ?_)
      rw [c4]
      refine hq (nx_ui s 7 (upd (s.1 7) (5 * S.toNatClampNeg + 4) V)) _ (nR_inv7 hInv (fun q h7 => ?_) (fun _ _ => rfl) hN ?_) (fun q h7 => ?_) rfl
      · show (if q = 7 then _ else s.1 q) = s.1 q
        rw [if_neg h7]
      · have e7 : (nx_ui s 7 (upd (s.1 7) (5 * S.toNatClampNeg + 4) V)).1 7 = upd (s.1 7) (5 * S.toNatClampNeg + 4) V := rfl
        have e8 : (nx_ui s 7 (upd (s.1 7) (5 * S.toNatClampNeg + 4) V)).1 8 = s.1 8 := rfl
        unfold PER
        rw [e7, e8]
        refine ⟨fun k hk => ?_, hInv.2.2.2.2⟩
        rw [upd_n _ _ (by omega), upd_n _ _ (by omega)]
        exact hInv.2.2.2.1 k hk
      · show (if q = 7 then _ else s.1 q) = s.1 q
        rw [if_neg h7]
    · refine nx_s ?_
      refine nk_br.t (by decide) ?_
      refine nx_s (nx_s ?_)
      exact no
  · refine nx_s ?_
    refine nk_br.t (by decide) ?_
    refine nx_s (nx_s ?_)
    exact no
theorem ct_X6_debt_0 : na_Ct gR ev_X6_debt cc_X6_debt_0 := by
  intro l s as Q hPr hq
  obtain ⟨hInv, has, -, -, -⟩ := hPr
  match as, has with
  | [a, b, c], has =>
    obtain ⟨ha, ⟨x, hx, -⟩, ⟨y, hy, -⟩, -⟩ := has
    have ha : a = .ref 0 := ha
    subst ha
    subst hx
    subst hy
    exact db_R Q s x y hInv (fun s1 r h1 h2 h3 => hq _ s1 ⟨h1, nR_fn (fun p => by rw [h3]), fun q hq7 => h2 q (fun e => hq7 (by rw [e]; exact List.mem_singleton.mpr rfl)), ⟨r, rfl, na_i32 r⟩, trivial⟩)
/-! ### newStuff -/
set_option maxRecDepth 100000 in
set_option maxHeartbeats 4000000 in
theorem ns_R (Q : nk_Q) (s : nx_S) (a b c d : Int32) (hInv : nx_Inv gR s) (hN15 : (s.2.2.1 0 10).toInt ≤ 15) (hb0 : 1 ≤ b.toInt) (hb1 : b.toInt ≤ 99) (hc0 : 1 ≤ c.toInt) (hc1 : c.toInt ≤ 99) (hq : ∀ s1 : nx_S, nx_Inv gR s1 → (∀ q : Nat, q ≠ 7 → s1.1 q = s.1 q) → (∀ p : Nat, p ≠ 10 → s1.2.2.1 0 p = s.2.2.1 0 p) → (s1.2.2.1 0 10).toInt = (s.2.2.1 0 10).toInt + 1 → Q (some (.int (s.2.2.1 0 10))) (nx_enc s1 0 shR)) : ev_X6_newStuff [.ref 0, .int a, .int b, .int c, .int d] (nx_enc s 0 shR) Q := by
  have hN := nR_N hInv
  refine nx_s (nx_s (nx_s ?_))
  show nk_wp kx_X6_newStuff kc_X6_newStuff Q 5 [some (.ref 0), some (.int a), some (.int b), some (.int c), some (.int d), none] [.int (s.2.2.1 0 10), .int 5] (nx_enc s 0 shR) 0 0
  have a1 : (1 : Int32).toInt = 1 := rfl
  have eN : ((s.2.2.1 0 10).toNatClampNeg : Int) = (s.2.2.1 0 10).toInt := by
    have : (s.2.2.1 0 10).toInt.toNat = (s.2.2.1 0 10).toNatClampNeg := Int32.toNat_toInt _
    omega
  have hNp : (s.2.2.1 0 10 + 1).toInt = (s.2.2.1 0 10).toInt + 1 := by
    rw [i_add (by omega) (by omega), a1]
  have hret : s.2.2.1 0 10 + 1 - 1 = s.2.2.1 0 10 := Int32.toInt_inj.mp (by
    rw [Int32.toInt_sub, hNp, a1, na_bm (show (-2147483648 : Int) ≤ _ by omega) (show _ ≤ (2147483647 : Int) by omega)]
    omega)
  have hper : PER s := hInv.2.2.2
  generalize hg : s.2.2.1 0 10 = N at *
  have x0 : (5 * N).toInt = 5 * N.toInt := i_50 (by omega) (by omega)
  have x1 : (5 * N + 1).toInt = 5 * N.toInt + 1 := i_5k (by omega) (by omega) (by decide) (by decide)
  have x2 : (5 * N + 2).toInt = 5 * N.toInt + 2 := i_5k (by omega) (by omega) (by decide) (by decide)
  have x3 : (5 * N + 3).toInt = 5 * N.toInt + 3 := i_5k (by omega) (by omega) (by decide) (by decide)
  have x4 : (5 * N + 4).toInt = 5 * N.toInt + 4 := i_5k (by omega) (by omega) (by decide) (by decide)
  have c0 : (5 * N).toNatClampNeg = 5 * N.toNatClampNeg := nx_cl (by omega)
  have c1 : (5 * N + 1).toNatClampNeg = 5 * N.toNatClampNeg + 1 := nx_cl (by omega)
  have c2 : (5 * N + 2).toNatClampNeg = 5 * N.toNatClampNeg + 2 := nx_cl (by omega)
  have c3 : (5 * N + 3).toNatClampNeg = 5 * N.toNatClampNeg + 3 := nx_cl (by omega)
  have c4 : (5 * N + 4).toNatClampNeg = 5 * N.toNatClampNeg + 4 := nx_cl (by omega)
  refine nx_s (nx_s (nx_s (nx_s (nx_s (nx_s (nx_s ?_))))))
  refine ⟨nx_in (n := 80) (by omega) (by omega), ?_⟩
  refine nx_s (nx_s (nx_s (nx_s (nx_s (nx_s (nx_s ?_))))))
  refine ⟨nx_in (n := 80) (by omega) (by omega), ?_⟩
  refine nx_s (nx_s (nx_s (nx_s (nx_s (nx_s (nx_s ?_))))))
  refine ⟨nx_in (n := 80) (by omega) (by omega), ?_⟩
  refine nx_s (nx_s (nx_s (nx_s (nx_s (nx_s (nx_s ?_))))))
  refine ⟨nx_in (n := 80) (by omega) (by omega), ?_⟩
  refine nx_s (nx_s (nx_s (nx_s (nx_s (nx_s (nx_s ?_))))))
  refine ⟨nx_in (n := 80) (by omega) (by omega), ?_⟩
  rw [c0, c1, c2, c3, c4, nx_uu, nx_u1, nx_uu, nx_u1, nx_uu, nx_u1, nx_uu, nx_u1]
  refine nx_s (nx_s (nx_s (nx_s (nx_s (nx_s (nx_s (nx_s (nx_s (nx_s (nx_s ?_))))))))))
  show Q (some (.int (s.2.2.1 0 10 + 1 - 1))) (nx_enc (nx_uf (nx_ui s 7 (upd (upd (upd (upd (upd (s.1 7) (5 * N.toNatClampNeg) a) (5 * N.toNatClampNeg + 1) b) (5 * N.toNatClampNeg + 2) c) (5 * N.toNatClampNeg + 3) d) (5 * N.toNatClampNeg + 4) 0)) 0 10 (s.2.2.1 0 10 + 1)) 0 shR)
  rw [hg, hret]
  have f10 : (nx_uf (nx_ui s 7 (upd (upd (upd (upd (upd (s.1 7) (5 * N.toNatClampNeg) a) (5 * N.toNatClampNeg + 1) b) (5 * N.toNatClampNeg + 2) c) (5 * N.toNatClampNeg + 3) d) (5 * N.toNatClampNeg + 4) 0)) 0 10 (N + 1)).2.2.1 0 10 = N + 1 := rfl
  have e7 : (nx_uf (nx_ui s 7 (upd (upd (upd (upd (upd (s.1 7) (5 * N.toNatClampNeg) a) (5 * N.toNatClampNeg + 1) b) (5 * N.toNatClampNeg + 2) c) (5 * N.toNatClampNeg + 3) d) (5 * N.toNatClampNeg + 4) 0)) 0 10 (N + 1)).1 7 = upd (upd (upd (upd (upd (s.1 7) (5 * N.toNatClampNeg) a) (5 * N.toNatClampNeg + 1) b) (5 * N.toNatClampNeg + 2) c) (5 * N.toNatClampNeg + 3) d) (5 * N.toNatClampNeg + 4) 0 := rfl
  have e8 : (nx_uf (nx_ui s 7 (upd (upd (upd (upd (upd (s.1 7) (5 * N.toNatClampNeg) a) (5 * N.toNatClampNeg + 1) b) (5 * N.toNatClampNeg + 2) c) (5 * N.toNatClampNeg + 3) d) (5 * N.toNatClampNeg + 4) 0)) 0 10 (N + 1)).1 8 = s.1 8 := rfl
  have fr7 : ∀ q : Nat, q ≠ 7 → (nx_uf (nx_ui s 7 (upd (upd (upd (upd (upd (s.1 7) (5 * N.toNatClampNeg) a) (5 * N.toNatClampNeg + 1) b) (5 * N.toNatClampNeg + 2) c) (5 * N.toNatClampNeg + 3) d) (5 * N.toNatClampNeg + 4) 0)) 0 10 (N + 1)).1 q = s.1 q := fun q h7 => by
    show (if q = 7 then _ else s.1 q) = s.1 q
    rw [if_neg h7]
  have frF : ∀ p : Nat, p ≠ 10 → (nx_uf (nx_ui s 7 (upd (upd (upd (upd (upd (s.1 7) (5 * N.toNatClampNeg) a) (5 * N.toNatClampNeg + 1) b) (5 * N.toNatClampNeg + 2) c) (5 * N.toNatClampNeg + 3) d) (5 * N.toNatClampNeg + 4) 0)) 0 10 (N + 1)).2.2.1 0 p = s.2.2.1 0 p := fun p h10 => by
    show (if 0 = 0 ∧ p = 10 then _ else s.2.2.1 0 p) = s.2.2.1 0 p
    rw [if_neg (fun e => h10 e.2)]
  refine hq _ (nR_inv7 hInv fr7 frF ⟨by rw [f10]; omega, by rw [f10]; omega⟩ ?_) fr7 frF (by rw [f10]; omega)
  unfold PER
  rw [f10, e7, e8, hNp]
  unfold PER at hper
  rw [hg] at hper
  refine ⟨fun k hk => ?_, fun m hm => ?_⟩
  · by_cases e : k = N.toNatClampNeg
    · rw [e, upd_n _ _ (by omega), upd_n _ _ (by omega), upd_n _ _ (by omega), upd_s, upd_n _ _ (by omega), upd_n _ _ (by omega), upd_s]
      exact ⟨⟨hb0, hb1⟩, hc0, hc1⟩
    · rw [upd_n _ _ (by omega), upd_n _ _ (by omega), upd_n _ _ (by omega), upd_n _ _ (by omega), upd_n _ _ (by omega), upd_n _ _ (by omega), upd_n _ _ (by omega), upd_n _ _ (by omega), upd_n _ _ (by omega), upd_n _ _ (by omega)]
      exact hper.1 k (by omega)
  · rcases hper.2 m hm with h | h
    · exact Or.inl h
    · refine Or.inr ⟨by omega, ?_⟩
      rcases h.2 with h2 | h2
      · exact Or.inl (by omega)
      · exact Or.inr h2
theorem ct_X6_newStuff_0 : na_Ct gR ev_X6_newStuff cc_X6_newStuff_0 := by
  intro l s as Q hPr hq
  obtain ⟨hInv, has, hpre, -, -⟩ := hPr
  have hN15 : (s.2.2.1 0 10).toInt ≤ 15 := (hpre 2 (0, 10) (0, 15) rfl rfl).2
  have hN := nR_N hInv
  match as, has with
  | [a, b, c, d, e], has =>
    obtain ⟨ha, ⟨x, hx, -⟩, ⟨y, hy, y1, y2, -⟩, ⟨z, hz, z1, z2, -⟩, ⟨w, hw, -⟩, -⟩ := has
    have ha : a = .ref 0 := ha
    subst ha
    subst hx
    subst hy
    subst hz
    subst hw
    refine ns_R Q s x y z w hInv hN15 y1 y2 z1 z2 (fun s1 h1 h2 h3 h4 => hq _ s1 ⟨h1, fun i k hi => ?_, fun q hq7 => h2 q (fun e => hq7 (by rw [e]; exact List.mem_singleton.mpr rfl)), ⟨_, rfl, hN.1, hN15⟩, trivial⟩)
    match i, hi with
    | 0, hi => cases hi; exact h3 0 (by decide)
    | 1, hi => cases hi; exact h3 2 (by decide)
    | 2, hi =>
      cases hi
      show 0 ≤ (s1.2.2.1 0 10).toInt ∧ (s1.2.2.1 0 10).toInt ≤ 16
      omega
    | 3, hi => cases hi; exact h3 12 (by decide)
    | 4, hi => cases hi; exact h3 15 (by decide)
    | 5, hi => cases hi; exact h3 22 (by decide)
    | 6, hi => cases hi; exact h3 23 (by decide)
    | 7, hi => cases hi; exact h3 24 (by decide)
    | 8, hi => cases hi; exact h3 30 (by decide)
    | i + 9, hi => cases hi
