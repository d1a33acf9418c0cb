/-! ===== the reference's stuffs by hand ===== -/
set_option maxRecDepth 100000 in
theorem ra_R (Q : nk_Q) (s : nx_S) (R I : Int32) (r0 : 0 ≤ R.toInt) (r1 : R.toInt ≤ 5) (i0 : 0 ≤ I.toInt) (i1 : I.toInt ≤ 39) (hq : Q (some (.int (s.1 3 (40 * R.toNatClampNeg + I.toNatClampNeg)))) (nx_enc s 0 shR)) : ev_X6_rowAt [.ref 0, .int R, .int I] (nx_enc s 0 shR) Q := by
  have e := (i_40 r0 r1 i0 i1).2
  have eR : R.toInt.toNat = R.toNatClampNeg := Int32.toNat_toInt R
  have eI : I.toInt.toNat = I.toNatClampNeg := Int32.toNat_toInt I
  have c : (40 * R + I).toNatClampNeg = 40 * R.toNatClampNeg + I.toNatClampNeg := nx_cl (by omega)
  refine nx_s (nx_s (nx_s (nx_s (nx_s (nx_s (nx_s (nx_s ?_)))))))
  refine ⟨nx_in (n := 240) (by omega) (by omega), ?_⟩
  refine nx_s ?_
  show Q (some (.int (s.1 3 (40 * R + I).toNatClampNeg))) (nx_enc s 0 shR)
  rw [c]
  exact hq
set_option maxRecDepth 100000 in
theorem ar_R (Q : nk_Q) (s : nx_S) (a b c d : Int32) (h1 : (1 ≤ b.toInt ∧ b.toInt ≤ 99) → (1 ≤ c.toInt ∧ c.toInt ≤ 99) → Q (some (.int 1)) (nx_enc s 0 shR)) (h2 : Q (some (.int 0)) (nx_enc s 0 shR)) : ev_X6_areStuff [.int a, .int b, .int c, .int d] (nx_enc s 0 shR) Q := by
  have z1 : (1 : Int32).toInt = 1 := rfl
  have z9 : (99 : Int32).toInt = 99 := rfl
  have no : nk_wp kx_X6_areStuff kc_X6_areStuff Q 41 [some (.int a), some (.int b), some (.int c), some (.int d)] [] (nx_enc s 0 shR) 0 0 := by
    refine nx_s (nx_s ?_)
    exact nk_bo0 h2
  refine nx_s (nx_s (nx_s (nx_s ?_)))
  refine in_R _ _ a 0 9 (fun _ _ => ?_) (fun _ => ?_)
  rotate_left
  · refine nx_s ?_
    refine nk_br.t (by decide) ?_
    exact no
  refine nx_s ?_
  refine nk_br.f (by decide) ?_
  refine nx_s (nx_s (nx_s (nx_s ?_)))
  refine in_R _ _ b 1 99 (fun b0 b1 => ?_) (fun _ => ?_)
  rotate_left
  · refine nx_s ?_
    refine nk_br.t (by decide) ?_
    exact no
  refine nx_s ?_
  refine nk_br.f (by decide) ?_
  refine nx_s (nx_s (nx_s (nx_s ?_)))
  refine in_R _ _ c 1 99 (fun c0 c1 => ?_) (fun _ => ?_)
  rotate_left
  · refine nx_s ?_
    refine nk_br.t (by decide) ?_
    exact no
  refine nx_s ?_
  refine nk_br.f (by decide) ?_
  refine nx_s (nx_s ?_)
  refine i0_R _ s d (fun _ _ => ?_) ?_
  rotate_left
  · refine nx_s ?_
    refine nk_br.t (by decide) ?_
    exact no
  refine nx_s ?_
  refine nk_br.f (by decide) ?_
  refine nx_s (nx_s (nx_s ?_))
  exact nk_bo1 (h1 ⟨by omega, by omega⟩ ⟨by omega, by omega⟩)
set_option maxRecDepth 100000 in
theorem ak_R (Q : nk_Q) (s : nx_S) (v : Int32) (h1 : 0 ≤ v.toInt → v.toInt ≤ 5 → 0 ≤ (s.1 2 v.toNatClampNeg).toInt → Q (some (.int 0)) (nx_enc s 0 shR)) (h2 : Q (some (.int (-1))) (nx_enc s 0 shR)) (h3 : ∀ s1 : nx_S, me_P s s1 → Q (some (.int (-3))) (nx_enc s1 0 shR)) : ev_X6_askedRow [.ref 0, .int v] (nx_enc s 0 shR) Q := by
  have a0 : (0 : Int32).toInt = 0 := rfl
  refine nx_s (nx_s ?_)
  refine ir_R _ s v (fun x y => ?_) ?_
  · refine nx_s ?_
    refine nk_br.f (by decide) ?_
    refine nx_s (nx_s (nx_s (nx_s ?_)))
    refine ⟨nx_in (n := 6) (by omega) (by omega), ?_⟩
    refine nx_s ?_
    refine br_le (fun e => ?_) (fun _ => ?_)
    · refine nx_s (nx_s ?_)
      have e : (0 : Int32).toInt ≤ (s.1 2 v.toNatClampNeg).toInt := e
      exact h1 x y (by omega)
    · refine nx_s (nx_s (nx_s ?_))
      refine me_R _ s 1 (by decide) (by decide) (fun s1 hm => ?_)
      refine nx_s (nx_s ?_)
      exact h3 s1 hm
  · refine nx_s ?_
    refine nk_br.t (by decide) ?_
    refine nx_s (nx_s (nx_s ?_))
    exact h2
/-- worth and amount of every four told in the row -/
noncomputable def sf_G (f : Nat → Int32) (r i : Nat) : Prop := ∀ j : Nat, j < i → (1 ≤ (f (40 * r + (4 * j + 1))).toInt ∧ (f (40 * r + (4 * j + 1))).toInt ≤ 99) ∧ (1 ≤ (f (40 * r + (4 * j + 2))).toInt ∧ (f (40 * r + (4 * j + 2))).toInt ≤ 99)
set_option maxRecDepth 100000 in
set_option maxHeartbeats 4000000 in
theorem st_R1 (Q : nk_Q) (s : nx_S) (R B N : Int32) (k : Nat) (r0 : 0 ≤ R.toInt) (r1 : R.toInt ≤ 5) (hz : (s.1 2 R.toNatClampNeg).toInt = 4 * k) (hk : k ≤ 10)
    (hend : ∀ G I : Int32, (G ≠ 0 → sf_G (s.1 3) R.toNatClampNeg k) → nk_wp kx_X6_stuffs kc_X6_stuffs Q 127 [some (.ref 0), some (.int R), some (.int B), some (.int N), some (.int G), some (.int I)] [] (nx_enc s 0 shR) 0 0) :
    ∀ (n i : Nat) (G I : Int32), i + n = k → I.toInt = 4 * i → (G ≠ 0 → sf_G (s.1 3) R.toNatClampNeg i) → nk_wp kx_X6_stuffs kc_X6_stuffs Q 58 [some (.ref 0), some (.int R), some (.int B), some (.int N), some (.int G), some (.int I)] [] (nx_enc s 0 shR) 0 0 := by
  have z1 : (1 : Int32).toInt = 1 := rfl
  have z2 : (2 : Int32).toInt = 2 := rfl
  have z3 : (3 : Int32).toInt = 3 := rfl
  have z4 : (4 : Int32).toInt = 4 := rfl
  intro n
  induction n with
  | zero =>
    intro i G I hi hI hG
    refine nx_s (nx_s (nx_s (nx_s (nx_s ?_))))
    refine ⟨nx_in (n := 6) (by omega) (by omega), ?_⟩
    refine nx_s ?_
    refine br_le (fun _ => ?_) (fun e => ?_)
    · have e : i = k := by omega
      subst e
      exact hend G I hG
    · exfalso
      have e : I.toInt < (s.1 2 R.toNatClampNeg).toInt := e
      omega
  | succ n ih =>
    intro i G I hi hI hG
    have e1 : (I + 1).toInt = I.toInt + 1 := by rw [i_add (by omega) (by omega), z1]
    have e2 : (I + 2).toInt = I.toInt + 2 := by rw [i_add (by omega) (by omega), z2]
    have e3 : (I + 3).toInt = I.toInt + 3 := by rw [i_add (by omega) (by omega), z3]
    have e4 : (I + 4).toInt = I.toInt + 4 := by rw [i_add (by omega) (by omega), z4]
    have c1 : (I + 1).toNatClampNeg = 4 * i + 1 := nx_cl (by omega)
    have c2 : (I + 2).toNatClampNeg = 4 * i + 2 := nx_cl (by omega)
    refine nx_s (nx_s (nx_s (nx_s (nx_s ?_))))
    refine ⟨nx_in (n := 6) (by omega) (by omega), ?_⟩
    refine nx_s ?_
    refine br_le (fun e => ?_) (fun e => ?_)
    · exfalso
      have e : (s.1 2 R.toNatClampNeg).toInt ≤ I.toInt := e
      omega
    have bad : ∀ T : List Value, T = [] → nk_wp kx_X6_stuffs kc_X6_stuffs Q 118 [some (.ref 0), some (.int R), some (.int B), some (.int N), some (.int G), some (.int I)] T (nx_enc s 0 shR) 0 0 := by
      intro T hT
      subst hT
      refine nx_s (nx_s (nx_s (nx_s ?_)))
      exact ih (i + 1) 0 (I + 4) (by omega) (by omega) (fun h => absurd rfl h)
    refine nx_s (nx_s ?_)
    refine nk_br.mk (fun _ => bad [] rfl) (fun hg => ?_)
    refine nx_s (nx_s (nx_s (nx_s ?_)))
    refine ra_R _ s R I r0 r1 (by omega) (by omega) ?_
    refine nx_s (nx_s (nx_s (nx_s (nx_s (nx_s ?_)))))
    refine ra_R _ s R (I + 1) r0 r1 (by omega) (by omega) ?_
    refine nx_s (nx_s (nx_s (nx_s (nx_s (nx_s ?_)))))
    refine ra_R _ s R (I + 2) r0 r1 (by omega) (by omega) ?_
    refine nx_s (nx_s (nx_s (nx_s (nx_s (nx_s ?_)))))
    refine ra_R _ s R (I + 3) r0 r1 (by omega) (by omega) ?_
    refine nx_s ?_
    refine ar_R _ s _ _ _ _ (fun hb hc => ?_) ?_
    · refine nx_s ?_
      refine nk_br.f (by decide) ?_
      refine nx_s (nx_s (nx_s (nx_s (nx_s ?_))))
      refine ih (i + 1) 1 (I + 4) (by omega) (by omega) (fun _ j hj => ?_)
      by_cases ej : j = i
      · subst ej
        rw [c1] at hb
        rw [c2] at hc
        exact ⟨hb, hc⟩
      · exact hG hg j (by omega)
    · refine nx_s ?_
      refine nk_br.t (by decide) ?_
      exact bad [] rfl
set_option maxRecDepth 100000 in
set_option maxHeartbeats 4000000 in
theorem st_R2 (Q : nk_Q) (s0 : nx_S) (R B N G : Int32) (k : Nat) (f : Nat → Int32) (z : Nat → Int32) (r0 : 0 ≤ R.toInt) (r1 : R.toInt ≤ 5) (hz : (z R.toNatClampNeg).toInt = 4 * k) (hk : k ≤ 10) (hG : sf_G f R.toNatClampNeg k) (hq : ∀ (s1 : nx_S) (r : Int32), nx_Inv gR s1 → nJ s1 → (∀ q : Nat, q ≠ 1 → q ≠ 7 → s1.1 q = s0.1 q) → Q (some (.int r)) (nx_enc s1 0 shR)) :
    ∀ (n i : Nat) (I : Int32) (s : nx_S), (∀ q : Nat, q ≠ 1 → q ≠ 7 → s.1 q = s0.1 q) → i + n = k → I.toInt = 4 * i → nx_Inv gR s → nJ s → s.1 2 = z → s.1 3 = f → (s.2.2.1 0 10).toInt + n ≤ 16 → nk_wp kx_X6_stuffs kc_X6_stuffs Q 141 [some (.ref 0), some (.int R), some (.int B), some (.int N), some (.int G), some (.int I)] [] (nx_enc s 0 shR) 0 0 := by
  have z1 : (1 : Int32).toInt = 1 := rfl
  have z2 : (2 : Int32).toInt = 2 := rfl
  have z3 : (3 : Int32).toInt = 3 := rfl
  have z4 : (4 : Int32).toInt = 4 := rfl
  intro n
  induction n with
  | zero =>
    intro i I s hfr hi hI hInv hJ hs2 hs3 hn
    refine nx_s (nx_s (nx_s (nx_s (nx_s ?_))))
    refine ⟨nx_in (n := 6) (by omega) (by omega), ?_⟩
    rw [← hs2] at hz
    refine nx_s ?_
    refine br_le (fun _ => ?_) (fun e => ?_)
    · refine nx_s (nx_s ?_)
      exact hq s _ hInv hJ hfr
    · exfalso
      have e : I.toInt < (s.1 2 R.toNatClampNeg).toInt := e
      omega
  | succ n ih =>
    intro i I s hfr hi hI hInv hJ hs2 hs3 hn
    have e1 : (I + 1).toInt = I.toInt + 1 := by rw [i_add (by omega) (by omega), z1]
    have e2 : (I + 2).toInt = I.toInt + 2 := by rw [i_add (by omega) (by omega), z2]
    have e3 : (I + 3).toInt = I.toInt + 3 := by rw [i_add (by omega) (by omega), z3]
    have e4 : (I + 4).toInt = I.toInt + 4 := by rw [i_add (by omega) (by omega), z4]
    have c1 : (I + 1).toNatClampNeg = 4 * i + 1 := nx_cl (by omega)
    have c2 : (I + 2).toNatClampNeg = 4 * i + 2 := nx_cl (by omega)
    refine nx_s (nx_s (nx_s (nx_s (nx_s ?_))))
    refine ⟨nx_in (n := 6) (by omega) (by omega), ?_⟩
    have hz2 : (s.1 2 R.toNatClampNeg).toInt = 4 * k := by rw [hs2]; exact hz
    refine nx_s ?_
    refine br_le (fun e => ?_) (fun e => ?_)
    · exfalso
      have e : (s.1 2 R.toNatClampNeg).toInt ≤ I.toInt := e
      omega
    have hw := hG i (by omega)
    rw [← hs3, ← c1, ← c2] at hw
    refine nx_s (nx_s (nx_s (nx_s (nx_s ?_))))
    refine ra_R _ s R I r0 r1 (by omega) (by omega) ?_
    refine nx_s (nx_s (nx_s (nx_s (nx_s (nx_s ?_)))))
    refine ra_R _ s R (I + 1) r0 r1 (by omega) (by omega) ?_
    refine nx_s (nx_s (nx_s (nx_s (nx_s (nx_s ?_)))))
    refine ra_R _ s R (I + 2) r0 r1 (by omega) (by omega) ?_
    refine nx_s (nx_s (nx_s (nx_s (nx_s (nx_s ?_)))))
    refine ra_R _ s R (I + 3) r0 r1 (by omega) (by omega) ?_
    refine nx_s ?_
    refine ns_R _ s _ _ _ _ hInv (by omega) hw.1.1 hw.1.2 hw.2.1 hw.2.2 (fun s1 h1 h2 h3 h4 => ?_)
    refine nx_s (nx_s (nx_s ?_))
    exact ih (i + 1) (I + 4) s1 (fun q a b => (h2 q b).trans (hfr q a b)) (by omega) (by omega) h1 (nJ_s hJ (h3 12 (by decide)) (by omega)) ((h2 2 (by decide)).trans hs2) ((h2 3 (by decide)).trans hs3) (by omega)
set_option maxRecDepth 100000 in
set_option maxHeartbeats 4000000 in
theorem st_R (Q : nk_Q) (s : nx_S) (R : Int32) (hInv : nx_Inv gR s) (hJ : nJ s) (hq : ∀ (s1 : nx_S) (r : Int32), nx_Inv gR s1 → nJ s1 → (∀ q : Nat, q ≠ 1 → q ≠ 7 → s1.1 q = s.1 q) → Q (some (.int r)) (nx_enc s1 0 shR)) : ev_X6_stuffs [.ref 0, .int R] (nx_enc s 0 shR) Q := by
  have a0 : (0 : Int32).toInt = 0 := rfl
  have h16 : (16 : Int32).toInt = 16 := rfl
  have hN := nR_N hInv
  refine nx_s (nx_s (nx_s ?_))
  refine ak_R _ s R (fun r0 r1 sz => ?_) ?_ (fun s1 hm => ?_)
  rotate_left
  · refine nx_s (nx_s (nx_s ?_))
    refine nk_br.f (by decide) ?_
    refine nx_s (nx_s ?_)
    exact hq s _ hInv hJ (fun _ _ _ => rfl)
  · refine nx_s (nx_s (nx_s ?_))
    refine nk_br.f (by decide) ?_
    refine nx_s (nx_s ?_)
    exact hq s1 _ (me_inv hInv hm) (nJ_me hJ hm) (fun q a _ => hm.1 q a)
  have eR : R.toInt.toNat = R.toNatClampNeg := Int32.toNat_toInt R
  have pr : (s.1 2 R.toNatClampNeg).toInt ≤ 40 := (hInv.2.1 2 6 [] rfl R.toNatClampNeg (by omega)).2
  refine nx_s (nx_s (nx_s ?_))
  refine nk_br.t (by decide) ?_
  refine nx_s (nx_s (nx_s (nx_s ?_)))
  refine ⟨nx_in (n := 6) (by omega) (by omega), ?_⟩
  show nk_wp kx_X6_stuffs kc_X6_stuffs Q 18 [some (.ref 0), some (.int R), some (.int 0), none, none, none] [.int (s.1 2 R.toNatClampNeg)] (nx_enc s 0 shR) 0 0
  have hd := i_d4 sz pr
  have hm4 := i_r4 sz pr
  generalize hz : s.1 2 R.toNatClampNeg = z at *
  refine nx_s (nx_s ?_)
  refine ⟨by decide, ?_⟩
  refine nx_s ?_
  refine br_eq (fun e => ?_) (fun e => ?_)
  rotate_left
  · refine nx_s (nx_s (nx_s ?_))
    refine me_R _ s 5 (by decide) (by decide) (fun s1 hm => ?_)
    refine nx_s ?_
    exact hq s1 _ (me_inv hInv hm) (nJ_me hJ hm) (fun q a _ => hm.1 q a)
  have e : (z - z / 4 * 4).toInt = (0 : Int32).toInt := e
  refine nx_s (nx_s (nx_s (nx_s ?_)))
  refine ⟨nx_in (n := 6) (by omega) (by omega), ?_⟩
  show nk_wp kx_X6_stuffs kc_X6_stuffs Q 35 [some (.ref 0), some (.int R), some (.int 0), none, none, none] [.int (s.1 2 R.toNatClampNeg)] (nx_enc s 0 shR) 0 0
  rw [hz]
  refine nx_s (nx_s ?_)
  refine ⟨by decide, ?_⟩
  refine nx_s (nx_s (nx_s ?_))
  show nk_wp kx_X6_stuffs kc_X6_stuffs Q 42 [some (.ref 0), some (.int R), some (.int 0), some (.int (z / 4)), none, none] [.int (s.2.2.1 0 10)] (nx_enc s 0 shR) 0 0
  have es : (s.2.2.1 0 10 + z / 4).toInt = (s.2.2.1 0 10).toInt + (z / 4).toInt := i_add (by omega) (by omega)
  refine nx_s (nx_s (nx_s (nx_s ?_)))
  refine br_le (fun e2 => ?_) (fun e2 => ?_)
  rotate_left
  · refine nx_s (nx_s ?_)
    exact hq s _ hInv hJ (fun _ _ _ => rfl)
  obtain ⟨k, hk⟩ : ∃ k : Nat, z.toInt = 4 * k := ⟨(z.toInt / 4).toNat, by omega⟩
  refine nx_s (nx_s (nx_s (nx_s ?_)))
  refine st_R1 Q s R 0 (z / 4) k r0 r1 (by rw [hz]; exact hk) (by omega) (fun G I hG => ?_) k 0 1 0 (by omega) (by omega) (fun _ j hj => absurd hj (Nat.not_lt_zero j))
  refine nx_s (nx_s ?_)
  refine nk_br.mk (fun _ => ?_) (fun hg => ?_)
  · refine nx_s (nx_s (nx_s ?_))
    refine me_R _ s 3 (by decide) (by decide) (fun s1 hm => ?_)
    refine nx_s ?_
    exact hq s1 _ (me_inv hInv hm) (nJ_me hJ hm) (fun q a _ => hm.1 q a)
  refine nx_s (nx_s ?_)
  exact st_R2 Q s R 0 (z / 4) G k (s.1 3) (s.1 2) r0 r1 (by rw [hz]; exact hk) (by omega) (hG hg) hq k 0 0 s (fun _ _ _ => rfl) (by omega) (by omega) hInv hJ rfl rfl (by omega)
set_option maxRecDepth 100000 in
theorem su_R (Q : nk_Q) (s : nx_S) (a b c d : Int32) (hInv : nx_Inv gR s) (hJ : nJ s) (hq : ∀ (s1 : nx_S) (r : Int32), nx_Inv gR s1 → nJ s1 → (∀ q : Nat, q ≠ 1 → q ≠ 7 → s1.1 q = s.1 q) → Q (some (.int r)) (nx_enc s1 0 shR)) : ev_X6_stuff [.ref 0, .int a, .int b, .int c, .int d] (nx_enc s 0 shR) Q := by
  have h16 : (16 : Int32).toInt = 16 := rfl
  have hN := nR_N hInv
  refine nx_s (nx_s (nx_s (nx_s (nx_s ?_))))
  refine ar_R _ s a b c d (fun hb hc => ?_) ?_
  rotate_left
  · refine nx_s ?_
    refine nk_br.t (by decide) ?_
    refine nx_s (nx_s ?_)
    exact hq s _ hInv hJ (fun _ _ _ => rfl)
  refine nx_s ?_
  refine nk_br.f (by decide) ?_
  refine nx_s (nx_s (nx_s (nx_s ?_)))
  refine br_eq (fun e => ?_) (fun e => ?_)
  · refine nx_s (nx_s (nx_s ?_))
    exact hq s _ hInv hJ (fun _ _ _ => rfl)
  · have e : (s.2.2.1 0 10).toInt ≠ (16 : Int32).toInt := e
    refine nx_s (nx_s (nx_s (nx_s (nx_s (nx_s ?_)))))
    refine ns_R _ s a b c d hInv (by omega) hb.1 hb.2 hc.1 hc.2 (fun s1 h1 h2 h3 h4 => ?_)
    refine nx_s ?_
    exact hq s1 _ h1 (nJ_s hJ (h3 12 (by decide)) (by omega)) (fun q _ b => h2 q b)
