/-! ===== the class's stuffs by hand ===== -/
theorem nx_iq {sh : List nx_C} {X : nk_T} {kc : Nat → Option nk_I} {Q : nk_Q} {pc : Nat} {L : nk_Ls} {S : List Value} {s : nx_S} {q n nx m : Nat} {tg l : List Nat} {lit i : Int32} (hk : kc pc = some (Instr.iaload, n, nx, tg, lit)) (hq : nk_lg sh q = some (.inr (0, m, l))) (hb : vp_in i m) (h : nk_wp X kc Q nx L (.int (s.1 q i.toNatClampNeg) :: S) (nx_enc s 0 sh) 0 0) : nk_wp X kc Q pc L (.int i :: .ref q :: S) (nx_enc s 0 sh) 0 0 := by
  refine nx_s ?_
  unfold nx_at
  rw [hk]
  show nx_ar sh s q (fun n f => vp_in i n ∧ nk_wp X kc Q nx L (.int (f i.toNatClampNeg) :: S) (nx_enc s 0 sh) 0 0)
  unfold nx_ar
  rw [hq]
  exact ⟨hb, h⟩
theorem i_n5 {N J : Int32} (h0 : 0 ≤ N.toInt) (h1 : N.toInt ≤ 16) (j0 : 0 ≤ J.toInt) (j1 : J.toInt ≤ 9) : (N * 5 + J).toInt = 5 * N.toInt + J.toInt := by
  have h5 : (5 : Int32).toInt = 5 := rfl
  have e1 : (N * 5).toInt = 5 * N.toInt := by
    rw [Int32.toInt_mul, h5, na_bm (show (-2147483648 : Int) ≤ _ by omega) (show _ ≤ (2147483647 : Int) by omega)]
    omega
  rw [Int32.toInt_add, e1, na_bm (show (-2147483648 : Int) ≤ _ by omega) (show _ ≤ (2147483647 : Int) by omega)]
theorem i_d4 {z : Int32} (h0 : 0 ≤ z.toInt) (h1 : z.toInt ≤ 40) : (z / 4).toInt = z.toInt / 4 := by
  have h4 : (4 : Int32).toInt = 4 := rfl
  rw [Int32.toInt_div, h4, Int.tdiv_eq_ediv_of_nonneg h0, na_bm (show (-2147483648 : Int) ≤ _ by omega) (show _ ≤ (2147483647 : Int) by omega)]
theorem i_r4 {z : Int32} (h0 : 0 ≤ z.toInt) (h1 : z.toInt ≤ 40) : (z - z / 4 * 4).toInt = z.toInt - z.toInt / 4 * 4 := by
  have h4 : (4 : Int32).toInt = 4 := rfl
  have e1 : (z / 4 * 4).toInt = z.toInt / 4 * 4 := by
    rw [Int32.toInt_mul, i_d4 h0 h1, h4, na_bm (show (-2147483648 : Int) ≤ _ by omega) (show _ ≤ (2147483647 : Int) by omega)]
  rw [Int32.toInt_sub, e1, na_bm (show (-2147483648 : Int) ≤ _ by omega) (show _ ≤ (2147483647 : Int) by omega)]
/-- one STUFF more in the class -/
noncomputable def ad_P (s s1 : nx_S) : Prop := (∀ q : Nat, q ≠ 4 → s1.1 q = s.1 q) ∧ (∀ q p : Nat, ¬ (q = 3 ∧ p = 2) → s1.2.2.1 q p = s.2.2.1 q p) ∧ (s1.2.2.1 3 2).toInt = (s.2.2.1 3 2).toInt + 1
theorem nC_N {s : nx_S} (h : nx_Inv gC s) : 0 ≤ (s.2.2.1 3 2).toInt ∧ (s.2.2.1 3 2).toInt ≤ 16 := h.1 2 (3, 2) (0, 16) rfl rfl
theorem ad_inv {s s1 : nx_S} (h : nx_Inv gC s) (hN : (s.2.2.1 3 2).toInt ≤ 15) (hm : ad_P s s1) : nx_Inv gC s1 := by
  have hn := nC_N h
  refine ⟨fun i k b hi hb => ?_, fun q n l hq i hi => ?_, ?_, trivial⟩
  · by_cases e : k.1 = 3 ∧ k.2 = 2
    · have hk : k = (3, 2) := Prod.ext e.1 e.2
      subst hk
      have h0 : gC.2.1[2]? = some ((3 : Nat), (2 : Nat)) := rfl
      have hi0 : i = 2 := (List.getElem?_inj (List.getElem?_eq_some_iff.mp hi).1 ndk_C).mp (hi.trans h0.symm)
      subst hi0
      cases hb
      show 0 ≤ (s1.2.2.1 3 2).toInt ∧ (s1.2.2.1 3 2).toInt ≤ 16
      rw [hm.2.2]
      omega
    · rw [hm.2.1 k.1 k.2 e]
      exact h.1 i k b hi hb
  · by_cases e : q = 4
    · subst e
      exact na_i32 _
    · rw [hm.1 q e]
      exact h.2.1 q n l hq i hi
  · show nx_PM (s1.1 5)
    rw [hm.1 5 (by decide)]
    exact h.2.2.1
set_option maxRecDepth 100000 in
set_option maxHeartbeats 4000000 in
theorem ad_C (Q : nk_Q) (s : nx_S) (a b c d : Int32) (hInv : nx_Inv gC s) (hN15 : (s.2.2.1 3 2).toInt ≤ 15) (hq : ∀ (s1 : nx_S) (r : Int32), ad_P s s1 → Q (some (.int r)) (nx_enc s1 0 shC)) : ev_X4_addStuff [.ref 3, .int a, .int b, .int c, .int d] (nx_enc s 0 shC) Q := by
  have hN := nC_N hInv
  have z0 : (0 : Int32).toInt = 0 := rfl
  have z1 : (1 : Int32).toInt = 1 := rfl
  have z2 : (2 : Int32).toInt = 2 := rfl
  have z3 : (3 : Int32).toInt = 3 := rfl
  refine nx_s (nx_s ?_)
  show nk_wp kx_X4_addStuff kc_X4_addStuff Q 4 [some (.ref 3), some (.int a), some (.int b), some (.int c), some (.int d), none] [.int (s.2.2.1 3 2)] (nx_enc s 0 shC) 0 0
  have hNp : (s.2.2.1 3 2 + 1).toInt = (s.2.2.1 3 2).toInt + 1 := by
    rw [i_add (by omega) (by omega), z1]
  generalize hg : s.2.2.1 3 2 = N at *
  have x0 : (N * 5 + 0).toInt = 5 * N.toInt + 0 := i_n5 (by omega) (by omega) (by decide) (by decide)
  have x1 : (N * 5 + 1).toInt = 5 * N.toInt + 1 := i_n5 (by omega) (by omega) (by decide) (by decide)
  have x2 : (N * 5 + 2).toInt = 5 * N.toInt + 2 := i_n5 (by omega) (by omega) (by decide) (by decide)
  have x3 : (N * 5 + 3).toInt = 5 * N.toInt + 3 := i_n5 (by omega) (by omega) (by decide) (by decide)
  refine nx_s (nx_s (nx_s (nx_s (nx_s (nx_s (nx_s (nx_s (nx_s (nx_s ?_)))))))))
  refine ⟨nx_in (n := 80) (by omega) (by omega), ?_⟩
  refine nx_s (nx_s (nx_s (nx_s (nx_s (nx_s (nx_s ?_))))))
  refine ⟨nx_in (n := 80) (by omega) (by omega), ?_⟩
  refine nx_s (nx_s (nx_s (nx_s (nx_s (nx_s (nx_s ?_))))))
  refine ⟨nx_in (n := 80) (by omega) (by omega), ?_⟩
  refine nx_s (nx_s (nx_s (nx_s (nx_s (nx_s (nx_s ?_))))))
  refine ⟨nx_in (n := 80) (by omega) (by omega), ?_⟩
  refine nx_s (nx_s (nx_s (nx_s (nx_s (nx_s (nx_s (nx_s (nx_s (nx_s (nx_s ?_))))))))))
  refine hq _ _ ⟨fun q h4 => ?_, fun q p hp => ?_, ?_⟩
  · show (if q = 4 then _ else if q = 4 then _ else if q = 4 then _ else if q = 4 then _ else s.1 q) = s.1 q
    rw [if_neg h4, if_neg h4, if_neg h4, if_neg h4]
  · show (if q = 3 ∧ p = 2 then _ else s.2.2.1 q p) = s.2.2.1 q p
    rw [if_neg hp]
  · show (s.2.2.1 3 2 + 1).toInt = (s.2.2.1 3 2).toInt + 1
    rw [hg]
    exact hNp
set_option maxRecDepth 100000 in
theorem it_C (Q : nk_Q) (h : nk_H) (a b c d : Int32) (h1 : Q (some (.int 1)) h) (h2 : Q (some (.int 0)) h) : ev_X5_isStuffAsTold [.int a, .int b, .int c, .int d] h Q := by
  have no : nk_wp kx_X5_isStuffAsTold kc_X5_isStuffAsTold Q 44 [some (.int a), some (.int b), some (.int c), some (.int d)] [] h 0 0 := by
    refine nk_s (nk_s ?_)
    exact nk_bo0 h2
  refine nk_s (nk_s (nk_s ?_))
  refine wi_C _ _ a 10 (fun _ _ => ?_) (fun _ => ?_)
  rotate_left
  · refine nk_s ?_
    refine nk_br.t (by decide) ?_
    exact no
  refine nk_s ?_
  refine nk_br.f (by decide) ?_
  refine nk_s (nk_s (nk_s ?_))
  refine br_lt (fun _ => no) (fun _ => ?_)
  refine nk_s (nk_s (nk_s ?_))
  refine br_lt (fun _ => no) (fun _ => ?_)
  refine nk_s (nk_s (nk_s ?_))
  refine br_lt (fun _ => no) (fun _ => ?_)
  refine nk_s (nk_s (nk_s ?_))
  refine br_lt (fun _ => no) (fun _ => ?_)
  refine nk_s (nk_s (nk_s ?_))
  refine wi_C _ _ d 6 (fun _ _ => ?_) (fun _ => ?_)
  rotate_left
  · refine nk_s ?_
    refine nk_br.t (by decide) ?_
    exact no
  refine nk_s ?_
  refine nk_br.f (by decide) ?_
  refine nk_s (nk_s (nk_s ?_))
  exact nk_bo1 h1
/-- the ROWS' sizes stay -/
noncomputable def fz_P (s s1 : nx_S) : Prop := (∀ q : Nat, 29 ≤ q → s1.2.2.1 q 1 = s.2.2.1 q 1) ∧ ∀ q : Nat, q ≠ 4 → q ≠ 28 → s1.1 q = s.1 q
theorem fz_fd {s s1 : nx_S} (h : fd_P s s1) : fz_P s s1 := ⟨fun q hq => h.2.2 q 1 (fun e => by omega), fun q _ h2 => h.1 q h2⟩
theorem fz_ad {s s1 : nx_S} (h : ad_P s s1) : fz_P s s1 := ⟨fun q hq => h.2.1 q 1 (fun e => by omega), fun q h1 _ => h.1 q h1⟩
theorem fz_rf (s : nx_S) : fz_P s s := ⟨fun _ _ => rfl, fun _ _ _ => rfl⟩
theorem fz_tr {s s1 s2 : nx_S} (h : fz_P s s1) (h' : fz_P s1 s2) : fz_P s s2 := ⟨fun q hq => (h'.1 q hq).trans (h.1 q hq), fun q a b => (h'.2 q a b).trans (h.2 q a b)⟩
theorem rq_at {s s1 : nx_S} {q : Nat} (hr : rq_C s q) (h : s1.2.2.1 q 1 = s.2.2.1 q 1) : rq_C s1 q := by
  refine ⟨hr.1, hr.2.1, hr.2.2.1, ?_⟩
  rw [h]
  exact hr.2.2.2
set_option maxRecDepth 100000 in
set_option maxHeartbeats 4000000 in
theorem st_C1 (Q : nk_Q) (s : nx_S) (R : Int32) (q : Nat) (k : Nat) (hInv : nx_Inv gC s) (hr : rq_C s q) (hz : (s.2.2.1 q 1).toInt = 4 * k) (hq : ∀ (s1 : nx_S) (r : Int32), nx_Inv gC s1 → fz_P s s1 → Q (some (.int r)) (nx_enc s1 0 shC))
    (hend : ∀ I : Int32, nk_wp kx_X5_stuffs kc_X5_stuffs Q 127 [some (.ref 0), some (.int R), some (.ref q), some (.ref (q + 1)), some (.int I)] [] (nx_enc s 0 shC) 0 0) :
    ∀ (n i : Nat) (I : Int32), i + n = k → I.toInt = 4 * i → nk_wp kx_X5_stuffs kc_X5_stuffs Q 76 [some (.ref 0), some (.int R), some (.ref q), some (.ref (q + 1)), some (.int I)] [] (nx_enc s 0 shC) 0 0 := by
  have z1 : (1 : Int32).toInt = 1 := rfl
  have z2 : (2 : Int32).toInt = 2 := rfl
  have z3 : (3 : Int32).toInt = 3 := rfl
  have z4 : (4 : Int32).toInt = 4 := rfl
  have hb := hr.2.2.2
  intro n
  induction n with
  | zero =>
    intro i I hi hI
    have e3 : (I + 3).toInt = I.toInt + 3 := by rw [i_add (by omega) (by omega), z3]
    refine nx_s (nx_s (nx_s (nx_s (nx_gq rfl rfl hr.1 rfl ?_))))
    show nk_wp kx_X5_stuffs kc_X5_stuffs Q 84 [some (.ref 0), some (.int R), some (.ref q), some (.ref (q + 1)), some (.int I)] [.int (s.2.2.1 q 1), .int (I + 3)] (nx_enc s 0 shC) 0 0
    refine nx_s ?_
    refine br_le (fun _ => ?_) (fun e => ?_)
    · exact hend I
    · exfalso
      omega
  | succ n ih =>
    intro i I hi hI
    have e1 : (I + 1).toInt = I.toInt + 1 := by rw [i_add (by omega) (by omega), z1]
    have e2 : (I + 2).toInt = I.toInt + 2 := by rw [i_add (by omega) (by omega), z2]
    have e3 : (I + 3).toInt = I.toInt + 3 := by rw [i_add (by omega) (by omega), z3]
    have e4 : (I + 4).toInt = I.toInt + 4 := by rw [i_add (by omega) (by omega), z4]
    refine nx_s (nx_s (nx_s (nx_s (nx_gq rfl rfl hr.1 rfl ?_))))
    show nk_wp kx_X5_stuffs kc_X5_stuffs Q 84 [some (.ref 0), some (.int R), some (.ref q), some (.ref (q + 1)), some (.int I)] [.int (s.2.2.1 q 1), .int (I + 3)] (nx_enc s 0 shC) 0 0
    refine nx_s ?_
    refine br_le (fun e => ?_) (fun e => ?_)
    · exfalso
      omega
    refine nx_s (nx_s (nx_iq rfl hr.2.1 (nx_in (n := 40) (by omega) (by omega)) ?_))
    refine nx_s (nx_s (nx_s (nx_s (nx_iq rfl hr.2.1 (nx_in (n := 40) (by omega) (by omega)) ?_))))
    refine nx_s (nx_s (nx_s (nx_s (nx_iq rfl hr.2.1 (nx_in (n := 40) (by omega) (by omega)) ?_))))
    refine nx_s (nx_s (nx_s (nx_s (nx_iq rfl hr.2.1 (nx_in (n := 40) (by omega) (by omega)) ?_))))
    refine nx_s ?_
    refine it_C _ _ _ _ _ _ ?_ ?_
    · refine nx_s ?_
      refine nk_br.f (by decide) ?_
      refine nx_s (nx_s ?_)
      exact ih (i + 1) (I + 4) (by omega) (by omega)
    · refine nx_s ?_
      refine nk_br.t (by decide) ?_
      refine nx_s (nx_s (nx_s ?_))
      refine fd_C _ s 3 (by decide) (by decide) (fun s1 hm => ?_)
      refine nx_s ?_
      exact hq s1 _ (fd_inv hInv hm) (fz_fd hm)
set_option maxRecDepth 100000 in
set_option maxHeartbeats 4000000 in
theorem st_C2 (Q : nk_Q) (s0 : nx_S) (R : Int32) (q : Nat) (k : Nat) (z : Int32) (hz : z.toInt = 4 * k) (hq : ∀ (s1 : nx_S) (r : Int32), nx_Inv gC s1 → fz_P s0 s1 → Q (some (.int r)) (nx_enc s1 0 shC)) :
    ∀ (n i : Nat) (I : Int32) (s : nx_S), fz_P s0 s → i + n = k → I.toInt = 4 * i → nx_Inv gC s → rq_C s q → s.2.2.1 q 1 = z → (s.2.2.1 3 2).toInt + n ≤ 16 → nk_wp kx_X5_stuffs kc_X5_stuffs Q 130 [some (.ref 0), some (.int R), some (.ref q), some (.ref (q + 1)), some (.int I)] [] (nx_enc s 0 shC) 0 0 := by
  have z1 : (1 : Int32).toInt = 1 := rfl
  have z2 : (2 : Int32).toInt = 2 := rfl
  have z3 : (3 : Int32).toInt = 3 := rfl
  have z4 : (4 : Int32).toInt = 4 := rfl
  intro n
  induction n with
  | zero =>
    intro i I s hfz hi hI hInv hr hs hn
    have hb := hr.2.2.2
    rw [hs] at hb
    have e3 : (I + 3).toInt = I.toInt + 3 := by rw [i_add (by omega) (by omega), z3]
    refine nx_s (nx_s (nx_s (nx_s (nx_gq rfl rfl hr.1 rfl ?_))))
    show nk_wp kx_X5_stuffs kc_X5_stuffs Q 138 [some (.ref 0), some (.int R), some (.ref q), some (.ref (q + 1)), some (.int I)] [.int (s.2.2.1 q 1), .int (I + 3)] (nx_enc s 0 shC) 0 0
    rw [hs]
    refine nx_s ?_
    refine br_le (fun _ => ?_) (fun e => ?_)
    · refine nx_s (nx_gq rfl rfl hr.1 rfl ?_)
      show nk_wp kx_X5_stuffs kc_X5_stuffs Q 181 [some (.ref 0), some (.int R), some (.ref q), some (.ref (q + 1)), some (.int I)] [.int (s.2.2.1 q 1)] (nx_enc s 0 shC) 0 0
      refine nx_s (nx_s ?_)
      refine ⟨by decide, ?_⟩
      refine nx_s ?_
      exact hq s _ hInv hfz
    · exfalso
      omega
  | succ n ih =>
    intro i I s hfz hi hI hInv hr hs hn
    have hb := hr.2.2.2
    rw [hs] at hb
    have e1 : (I + 1).toInt = I.toInt + 1 := by rw [i_add (by omega) (by omega), z1]
    have e2 : (I + 2).toInt = I.toInt + 2 := by rw [i_add (by omega) (by omega), z2]
    have e3 : (I + 3).toInt = I.toInt + 3 := by rw [i_add (by omega) (by omega), z3]
    have e4 : (I + 4).toInt = I.toInt + 4 := by rw [i_add (by omega) (by omega), z4]
    refine nx_s (nx_s (nx_s (nx_s (nx_gq rfl rfl hr.1 rfl ?_))))
    show nk_wp kx_X5_stuffs kc_X5_stuffs Q 138 [some (.ref 0), some (.int R), some (.ref q), some (.ref (q + 1)), some (.int I)] [.int (s.2.2.1 q 1), .int (I + 3)] (nx_enc s 0 shC) 0 0
    rw [hs]
    refine nx_s ?_
    refine br_le (fun e => ?_) (fun e => ?_)
    · exfalso
      omega
    refine nx_s (nx_s (nx_s (nx_s (nx_iq rfl hr.2.1 (nx_in (n := 40) (by omega) (by omega)) ?_))))
    refine nx_s (nx_s (nx_s (nx_s (nx_iq rfl hr.2.1 (nx_in (n := 40) (by omega) (by omega)) ?_))))
    refine nx_s (nx_s (nx_s (nx_s (nx_iq rfl hr.2.1 (nx_in (n := 40) (by omega) (by omega)) ?_))))
    refine nx_s (nx_s (nx_s (nx_s (nx_iq rfl hr.2.1 (nx_in (n := 40) (by omega) (by omega)) ?_))))
    refine nx_s ?_
    refine ad_C _ s _ _ _ _ hInv (by omega) (fun s1 r hm => ?_)
    refine nx_s (nx_s (nx_s ?_))
    have hq1 : s1.2.2.1 q 1 = s.2.2.1 q 1 := hm.2.1 q 1 (fun e => absurd e.2 (by decide))
    exact ih (i + 1) (I + 4) s1 (fz_tr hfz (fz_ad hm)) (by omega) (by omega) (ad_inv hInv (by omega) hm) (rq_at hr hq1) (hq1.trans hs) (by rw [hm.2.2]; omega)
set_option maxRecDepth 100000 in
set_option maxHeartbeats 4000000 in
theorem st_C (Q : nk_Q) (s : nx_S) (R : Int32) (hInv : nx_Inv gC s) (hq : ∀ (s1 : nx_S) (r : Int32), nx_Inv gC s1 → fz_P s s1 → Q (some (.int r)) (nx_enc s1 0 shC)) : ev_X5_stuffs [.ref 0, .int R] (nx_enc s 0 shC) Q := by
  have h0 : (0 : Int32).toInt = 0 := rfl
  have h6 : (6 : Int32).toInt = 6 := rfl
  have h16 : (16 : Int32).toInt = 16 := rfl
  have hN := nC_N hInv
  refine nx_s (nx_s (nx_s ?_))
  refine wi_C _ _ R 6 (fun r0 r1 => ?_) (fun _ => ?_)
  rotate_left
  · refine nx_s ?_
    refine nk_br.t (by decide) ?_
    refine nx_s (nx_s ?_)
    exact hq s _ hInv (fz_rf s)
  refine nx_s ?_
  refine nk_br.f (by decide) ?_
  obtain ⟨q, hq1, hr, -⟩ := rq_ex hInv (R := R) r0 (by omega)
  have hb := hr.2.2.2
  refine nx_s (nx_s (nx_s (nx_s ?_)))
  refine ⟨nx_in (n := 6) r0 (by omega), ?_⟩
  show nk_wp kx_X5_stuffs kc_X5_stuffs Q 17 [some (.ref 0), some (.int R), none, none, none] [va_rf (nk_lg [29, 31, 33, 35, 37, 39] R.toNatClampNeg)] (nx_enc s 0 shC) 0 0
  rw [hq1]
  refine nx_s (nx_s (nx_s ?_))
  refine (nk_obm hr.1 ?_ : nk_obj (nx_enc s 0 shC) q 3 (fun _ => ev_X3_isMissing [.ref q] (nx_enc s 0 shC) (fun r h' => nk_ret r [] (fun Z => nk_wp kx_X5_stuffs kc_X5_stuffs Q 22 [some (.ref 0), some (.int R), some (.ref q), none, none] Z h' 0 0))))
  refine mi_C _ s q hr (fun _ => ?_) (fun zq => ?_)
  · refine nx_s ?_
    refine nk_br.f (by decide) ?_
    refine nx_s (nx_s (nx_s ?_))
    refine fd_C _ s 1 (by decide) (by decide) (fun s1 hm => ?_)
    refine nx_s ?_
    exact hq s1 _ (fd_inv hInv hm) (fz_fd hm)
  refine nx_s ?_
  refine nk_br.t (by decide) ?_
  refine nx_s (nx_gq rfl rfl hr.1 rfl ?_)
  show nk_wp kx_X5_stuffs kc_X5_stuffs Q 35 [some (.ref 0), some (.int R), some (.ref q), none, none] [.int (s.2.2.1 q 1)] (nx_enc s 0 shC) 0 0
  have hd := i_d4 zq hb.2
  have hm4 := i_r4 zq hb.2
  generalize hz : s.2.2.1 q 1 = z at *
  refine nx_s (nx_s ?_)
  refine ⟨by decide, ?_⟩
  refine nx_s ?_
  refine br_eq (fun e => ?_) (fun e => ?_)
  rotate_left
  · refine nx_s (nx_s (nx_s ?_))
    refine fd_C _ s 5 (by decide) (by decide) (fun s1 hm => ?_)
    refine nx_s ?_
    exact hq s1 _ (fd_inv hInv hm) (fz_fd hm)
  have e : (z - z / 4 * 4).toInt = (0 : Int32).toInt := e
  refine nx_s (nx_gq rfl rfl hr.1 rfl ?_)
  show nk_wp kx_X5_stuffs kc_X5_stuffs Q 50 [some (.ref 0), some (.int R), some (.ref q), none, none] [.int (s.2.2.1 q 1)] (nx_enc s 0 shC) 0 0
  rw [hz]
  refine nx_s (nx_s ?_)
  refine ⟨by decide, ?_⟩
  refine nx_s (nx_s (nx_s (nx_s ?_)))
  show nk_wp kx_X5_stuffs kc_X5_stuffs Q 61 [some (.ref 0), some (.int R), some (.ref q), none, none] [.int (s.2.2.1 3 2), .int 16, .int (z / 4)] (nx_enc s 0 shC) 0 0
  have es : (16 - s.2.2.1 3 2).toInt = 16 - (s.2.2.1 3 2).toInt := by
    rw [Int32.toInt_sub, h16, na_bm (show (-2147483648 : Int) ≤ _ by omega) (show _ ≤ (2147483647 : Int) by omega)]
  refine nx_s (nx_s ?_)
  refine br_le (fun e2 => ?_) (fun e2 => ?_)
  rotate_left
  · refine nx_s (nx_s ?_)
    exact hq s _ hInv (fz_rf s)
  refine nx_s (nx_gq rfl rfl hr.1 rfl ?_)
  show nk_wp kx_X5_stuffs kc_X5_stuffs Q 72 [some (.ref 0), some (.int R), some (.ref q), none, none] [.ref (q + 1)] (nx_enc s 0 shC) 0 0
  refine nx_s (nx_s (nx_s ?_))
  obtain ⟨k, hk⟩ : ∃ k : Nat, z.toInt = 4 * k := ⟨(z.toInt / 4).toNat, by omega⟩
  refine st_C1 Q s R q k hInv hr (by rw [hz]; exact hk) hq (fun I => ?_) k 0 0 (by omega) (by omega)
  refine nx_s (nx_s ?_)
  exact st_C2 Q s R q k z hk hq k 0 0 s (fz_rf s) (by omega) (by omega) hInv hr hz (by omega)
