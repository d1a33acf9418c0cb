/-! ===== the class's copy by hand: the round's end is System.arraycopy ===== -/
theorem nx_obm {sh : List nx_C} {q ci : Nat} {sl : List Nat} {k : List Nat → Prop} (h : nk_lg sh q = some (.inl (ci, sl))) (hk : k sl) : nx_ob sh q ci k := by
  unfold nx_ob
  rw [h]
  show nk_if (Nat.beq ci ci) (k sl)
  rw [show Nat.beq ci ci = true from Nat.beq_refl ci]
  exact hk
theorem nx_gq {sh : List nx_C} {X : nk_T} {kc : Nat → Option nk_I} {Q : nk_Q} {pc : Nat} {L : nk_Ls} {S : List Value} {s : nx_S} {q x n nx k : Nat} {tg : List Nat} {lit : Int32} {f : Nat × Nat × Nat} {sl : List Nat} (hk : kc pc = some (Instr.getfield x, n, nx, tg, lit)) (hx : nk_lk X.1 x = some f) (hq : nk_lg sh q = some (.inl (f.1, sl))) (hf : nk_lg sl f.2.1 = some k) (h : nk_wp X kc Q nx L (nx_sv s.2.2 q f.2.1 k :: S) (nx_enc s 0 sh) 0 0) : nk_wp X kc Q pc L (.ref q :: S) (nx_enc s 0 sh) 0 0 := by
  refine nx_s ?_
  unfold nx_at
  rw [hk]
  show nk_sm (nk_lk X.1 x) _
  rw [hx]
  refine (nx_obm hq ?_ : nx_ob sh q f.1 (fun sl => nk_sm (nk_lg sl f.2.1) (fun k => nk_wp X kc Q nx L (nx_sv s.2.2 q f.2.1 k :: S) (nx_enc s 0 sh) 0 0)))
  rw [hf]
  exact h
theorem nk_obm {sh : List nx_C} {s : nx_S} {q ci : Nat} {sl : List Nat} {P : Prop} (h : nk_lg sh q = some (.inl (ci, sl))) (hk : P) : nk_obj (nx_enc s 0 sh) q ci (fun _ => P) := by
  unfold nk_obj
  rw [nx_ge h]
  show nk_if (Nat.beq ci ci) P
  rw [show Nat.beq ci ci = true from Nat.beq_refl ci]
  exact hk
theorem nb_f {a b : Nat} (h : a ≠ b) : Nat.beq a b = false := by
  cases hb : Nat.beq a b with
  | false => rfl
  | true => exact absurd (Nat.eq_of_beq_eq_true hb) h
/-- a ROW of the class: its object, its places, its size -/
noncomputable def rq_C (s : nx_S) (q : Nat) : Prop := nk_lg shC q = some (.inl (3, [q + 3, 0])) ∧ nk_lg shC (q + 1) = some (.inr (0, 40, [])) ∧ (29 ≤ q ∧ q ≤ 47) ∧ -1 ≤ (s.2.2.1 q 1).toInt ∧ (s.2.2.1 q 1).toInt ≤ 40
theorem rq_ex {s : nx_S} (hInv : nx_Inv gC s) {R : Int32} (h0 : 0 ≤ R.toInt) (h1 : R.toInt < 6) : ∃ q : Nat, nk_lg [29, 31, 33, 35, 37, 39] R.toNatClampNeg = some q ∧ rq_C s q ∧ q ≤ 39 := by
  rcases sp6 h0 h1 with rfl | rfl | rfl | rfl | rfl | rfl
  · exact ⟨29, rfl, ⟨rfl, rfl, by decide, hInv.1 16 (29, 1) (-1, 40) rfl rfl⟩, by decide⟩
  · exact ⟨31, rfl, ⟨rfl, rfl, by decide, hInv.1 17 (31, 1) (-1, 40) rfl rfl⟩, by decide⟩
  · exact ⟨33, rfl, ⟨rfl, rfl, by decide, hInv.1 18 (33, 1) (-1, 40) rfl rfl⟩, by decide⟩
  · exact ⟨35, rfl, ⟨rfl, rfl, by decide, hInv.1 19 (35, 1) (-1, 40) rfl rfl⟩, by decide⟩
  · exact ⟨37, rfl, ⟨rfl, rfl, by decide, hInv.1 20 (37, 1) (-1, 40) rfl rfl⟩, by decide⟩
  · exact ⟨39, rfl, ⟨rfl, rfl, by decide, hInv.1 21 (39, 1) (-1, 40) rfl rfl⟩, by decide⟩
set_option maxRecDepth 100000 in
theorem mi_C (Q : nk_Q) (s : nx_S) (q : Nat) (hr : rq_C s q) (h1 : (s.2.2.1 q 1).toInt = -1 → Q (some (.int 1)) (nx_enc s 0 shC)) (h2 : 0 ≤ (s.2.2.1 q 1).toInt → Q (some (.int 0)) (nx_enc s 0 shC)) : ev_X3_isMissing [.ref q] (nx_enc s 0 shC) Q := by
  have hm : (-1 : Int32).toInt = -1 := rfl
  have b := hr.2.2.2
  refine nx_s (nx_gq rfl rfl hr.1 rfl ?_)
  show nk_wp kx_X3_isMissing kc_X3_isMissing Q 4 [some (.ref q)] [.int (s.2.2.1 q 1)] (nx_enc s 0 shC) 0 0
  generalize hz : s.2.2.1 q 1 = z at *
  refine nx_s (nx_s ?_)
  refine br_eq (fun e => ?_) (fun e => ?_)
  · refine nx_s (nx_s (nx_s ?_))
    refine nk_bo1 ?_
    exact h1 (by omega)
  · refine nx_s (nx_s ?_)
    refine nk_bo0 ?_
    exact h2 (by omega)
set_option maxRecDepth 100000 in
theorem hf_C (Q : nk_Q) (s : nx_S) (q : Nat) (I N : Int32) (hr : rq_C s q) (h1 : 0 ≤ I.toInt → I.toInt + N.toInt ≤ (s.2.2.1 q 1).toInt → Q (some (.int 1)) (nx_enc s 0 shC)) (h2 : Q (some (.int 0)) (nx_enc s 0 shC)) : ev_X3_hasFrom [.ref q, .int I, .int N] (nx_enc s 0 shC) Q := by
  have h0 : (0 : Int32).toInt = 0 := rfl
  have b := hr.2.2.2
  refine nx_s (nx_s ?_)
  refine br_lt (fun e => ?_) (fun e => ?_)
  · refine nx_s (nx_s ?_)
    exact nk_bo0 h2
  refine nx_s (nx_s (nx_gq rfl rfl hr.1 rfl ?_))
  show nk_wp kx_X3_hasFrom kc_X3_hasFrom Q 9 [some (.ref q), some (.int I), some (.int N)] [.int (s.2.2.1 q 1), .int I] (nx_enc s 0 shC) 0 0
  refine nx_s ?_
  refine br_lt (fun e2 => ?_) (fun e2 => ?_)
  · refine nx_s (nx_s ?_)
    exact nk_bo0 h2
  refine nx_s (nx_s (nx_gq rfl rfl hr.1 rfl ?_))
  show nk_wp kx_X3_hasFrom kc_X3_hasFrom Q 17 [some (.ref q), some (.int I), some (.int N)] [.int (s.2.2.1 q 1), .int N] (nx_enc s 0 shC) 0 0
  have es : (s.2.2.1 q 1 - I).toInt = (s.2.2.1 q 1).toInt - I.toInt := by
    rw [Int32.toInt_sub, na_bm (show (-2147483648 : Int) ≤ _ by omega) (show _ ≤ (2147483647 : Int) by omega)]
  refine nx_s (nx_s (nx_s ?_))
  refine br_lt (fun e3 => ?_) (fun e3 => ?_)
  · refine nx_s (nx_s ?_)
    exact nk_bo0 h2
  refine nx_s (nx_s (nx_s ?_))
  exact nk_bo1 (h1 (by omega) (by omega))
theorem acp_C {s : nx_S} {sh : List nx_C} {Q : nk_Q} {q0 q1 n0 n1 : Nat} {l0 l1 : List Nat} {sp dp n : Int32} (g0 : nk_lg sh q0 = some (.inr (0, n0, l0))) (g1 : nk_lg sh q1 = some (.inr (0, n1, l1))) (a : 0 ≤ sp.toInt) (b : 0 ≤ dp.toInt) (c : 0 ≤ n.toInt) (d : sp.toInt + n.toInt ≤ n0) (e : dp.toInt + n.toInt ≤ n1) (hq : ∀ f : Nat → Int32, Q none (nx_enc (nx_ui s q1 f) 0 sh)) : nk_acp [.ref q0, .int sp, .ref q1, .int dp, .int n] (nx_enc s 0 sh) Q := by
  have a0 : (0 : Int32).toInt = 0 := rfl
  have e1 : sp.toInt.toNat = sp.toNatClampNeg := Int32.toNat_toInt sp
  have e2 : dp.toInt.toNat = dp.toNatClampNeg := Int32.toNat_toInt dp
  have e3 : n.toInt.toNat = n.toNatClampNeg := Int32.toNat_toInt n
  have ng : ∀ x : Int32, 0 ≤ x.toInt → ¬ x < 0 := fun x hx h => by
    have := Int32.lt_iff_toInt_lt.mp h
    omega
  refine ⟨q0, q1, sp, dp, n, n0, n1, s.1 q0, s.1 q1, rfl, nx_ge g0, nx_ge g1, ng _ a, ng _ b, ng _ c, by omega, by omega, ?_⟩
  rw [nx_set_i _ g1]
  exact hq _
theorem rq_inv {s : nx_S} {q : Nat} (h : nx_Inv gC s) (hr : rq_C s q) (f : Nat → Int32) : nx_Inv gC (nx_ui s (q + 1) f) := by
  have hb := hr.2.2.1
  have hne : ∀ r : Nat, r ≠ q + 1 → (nx_ui s (q + 1) f).1 r = s.1 r := fun r e => if_neg e
  refine ⟨h.1, fun r n l hq i hi => ?_, ?_, trivial⟩
  · by_cases e : r = q + 1
    · have e11 : Nat.beq r 11 = false := nb_f (by omega)
      have e20 : Nat.beq r 20 = false := nb_f (by omega)
      have ef : gC.2.2.2.1 r = na_full := by
        show (bif Nat.beq r 11 || Nat.beq r 20 then ((0 : Int), (15 : Int)) else na_full) = na_full
        rw [e11, e20]
        rfl
      rw [ef]
      exact na_i32 _
    · rw [hne r e]
      exact h.2.1 r n l hq i hi
  · show nx_PM ((nx_ui s (q + 1) f).1 5)
    rw [hne 5 (by omega)]
    exact h.2.2.1
/-- what copy may change of the class -/
noncomputable def cq_P (s s1 : nx_S) : Prop := (∀ q p : Nat, ¬ (q = 0 ∧ p = 9) → s1.2.2.1 q p = s.2.2.1 q p) ∧ ∀ q : Nat, q ≠ 28 → ¬ (30 ≤ q ∧ q ≤ 40) → s1.1 q = s.1 q
theorem cq_fd {s s1 : nx_S} (h : fd_P s s1) : cq_P s s1 := ⟨h.2.2, fun q h1 _ => h.1 q h1⟩
theorem cq_rf (s : nx_S) : cq_P s s := ⟨fun _ _ _ => rfl, fun _ _ _ => rfl⟩
set_option maxRecDepth 100000 in
set_option maxHeartbeats 4000000 in
theorem cp_C (Q : nk_Q) (s : nx_S) (R I T J N : Int32) (hInv : nx_Inv gC s) (hq : ∀ (s1 : nx_S) (r : Int32), nx_Inv gC s1 → cq_P s s1 → Q (some (.int r)) (nx_enc s1 0 shC)) : ev_X5_copy [.ref 0, .int R, .int I, .int T, .int J, .int N] (nx_enc s 0 shC) Q := by
  have h0 : (0 : Int32).toInt = 0 := rfl
  have h6 : (6 : Int32).toInt = 6 := rfl
  refine nx_s (nx_s (nx_s ?_))
  refine wi_C _ _ R 6 (fun r0 r1 => ?_) (fun _ => ?_)
  rotate_left
  · refine nx_s ?_
    refine nk_br.t (by decide) ?_
    refine nx_s (nx_s ?_)
    exact hq s _ hInv (cq_rf s)
  refine nx_s ?_
  refine nk_br.f (by decide) ?_
  refine nx_s (nx_s (nx_s ?_))
  refine wi_C _ _ T 6 (fun t0 t1 => ?_) (fun _ => ?_)
  rotate_left
  · refine nx_s ?_
    refine nk_br.t (by decide) ?_
    refine nx_s (nx_s ?_)
    exact hq s _ hInv (cq_rf s)
  refine nx_s ?_
  refine nk_br.f (by decide) ?_
  obtain ⟨q, hq1, hrq, hq39⟩ := rq_ex hInv (R := R) r0 (by omega)
  obtain ⟨t, ht1, hrt, ht39⟩ := rq_ex hInv (R := T) t0 (by omega)
  refine nx_s (nx_s ?_)
  refine br_le (fun n0 => ?_) (fun _ => ?_)
  rotate_left
  · refine nx_s (nx_s (nx_s ?_))
    refine fd_C _ s 5 (by decide) (by decide) (fun s1 hm => ?_)
    refine nx_s ?_
    exact hq s1 _ (fd_inv hInv hm) (cq_fd hm)
  refine nx_s (nx_s (nx_s (nx_s ?_)))
  refine ⟨nx_in (n := 6) r0 (by omega), ?_⟩
  show nk_wp kx_X5_copy kc_X5_copy Q 37 [some (.ref 0), some (.int R), some (.int I), some (.int T), some (.int J), some (.int N), none, none] [va_rf (nk_lg [29, 31, 33, 35, 37, 39] R.toNatClampNeg)] (nx_enc s 0 shC) 0 0
  rw [hq1]
  refine nx_s (nx_s (nx_s (nx_s (nx_s ?_))))
  refine ⟨nx_in (n := 6) t0 (by omega), ?_⟩
  show nk_wp kx_X5_copy kc_X5_copy Q 45 [some (.ref 0), some (.int R), some (.int I), some (.int T), some (.int J), some (.int N), some (.ref q), none] [va_rf (nk_lg [29, 31, 33, 35, 37, 39] T.toNatClampNeg)] (nx_enc s 0 shC) 0 0
  rw [ht1]
  have nothing : nk_wp kx_X5_copy kc_X5_copy Q 63 [some (.ref 0), some (.int R), some (.int I), some (.int T), some (.int J), some (.int N), some (.ref q), some (.ref t)] [] (nx_enc s 0 shC) 0 0 := by
    refine nx_s (nx_s (nx_s ?_))
    refine fd_C _ s 1 (by decide) (by decide) (fun s1 hm => ?_)
    refine nx_s ?_
    exact hq s1 _ (fd_inv hInv hm) (cq_fd hm)
  have beyond : nk_wp kx_X5_copy kc_X5_copy Q 92 [some (.ref 0), some (.int R), some (.int I), some (.int T), some (.int J), some (.int N), some (.ref q), some (.ref t)] [] (nx_enc s 0 shC) 0 0 := by
    refine nx_s (nx_s (nx_s ?_))
    refine fd_C _ s 2 (by decide) (by decide) (fun s1 hm => ?_)
    refine nx_s ?_
    exact hq s1 _ (fd_inv hInv hm) (cq_fd hm)
  refine nx_s (nx_s (nx_s ?_))
  refine (nk_obm hrq.1 ?_ : nk_obj (nx_enc s 0 shC) q 3 (fun _ => ev_X3_isMissing [.ref q] (nx_enc s 0 shC) (fun r h' => nk_ret r [] (fun Z => nk_wp kx_X5_copy kc_X5_copy Q 52 [some (.ref 0), some (.int R), some (.int I), some (.int T), some (.int J), some (.int N), some (.ref q), some (.ref t)] Z h' 0 0))))
  refine mi_C _ s q hrq (fun _ => ?_) (fun zq => ?_)
  · refine nx_s ?_
    refine nk_br.f (by decide) ?_
    exact nothing
  refine nx_s ?_
  refine nk_br.t (by decide) ?_
  refine nx_s (nx_s ?_)
  refine (nk_obm hrt.1 ?_ : nk_obj (nx_enc s 0 shC) t 3 (fun _ => ev_X3_isMissing [.ref t] (nx_enc s 0 shC) (fun r h' => nk_ret r [] (fun Z => nk_wp kx_X5_copy kc_X5_copy Q 60 [some (.ref 0), some (.int R), some (.int I), some (.int T), some (.int J), some (.int N), some (.ref q), some (.ref t)] Z h' 0 0))))
  refine mi_C _ s t hrt (fun _ => ?_) (fun zt => ?_)
  · refine nx_s ?_
    refine nk_br.f (by decide) ?_
    exact nothing
  refine nx_s ?_
  refine nk_br.t (by decide) ?_
  refine nx_s (nx_s (nx_s (nx_s ?_)))
  refine (nk_obm hrq.1 ?_ : nk_obj (nx_enc s 0 shC) q 3 (fun _ => ev_X3_hasFrom [.ref q, .int I, .int N] (nx_enc s 0 shC) (fun r h' => nk_ret r [] (fun Z => nk_wp kx_X5_copy kc_X5_copy Q 77 [some (.ref 0), some (.int R), some (.int I), some (.int T), some (.int J), some (.int N), some (.ref q), some (.ref t)] Z h' 0 0))))
  refine hf_C _ s q I N hrq (fun i0 i1 => ?_) ?_
  rotate_left
  · refine nx_s ?_
    refine nk_br.t (by decide) ?_
    exact beyond
  refine nx_s ?_
  refine nk_br.f (by decide) ?_
  refine nx_s (nx_s (nx_s (nx_s ?_)))
  refine (nk_obm hrt.1 ?_ : nk_obj (nx_enc s 0 shC) t 3 (fun _ => ev_X3_hasFrom [.ref t, .int J, .int N] (nx_enc s 0 shC) (fun r h' => nk_ret r [] (fun Z => nk_wp kx_X5_copy kc_X5_copy Q 89 [some (.ref 0), some (.int R), some (.int I), some (.int T), some (.int J), some (.int N), some (.ref q), some (.ref t)] Z h' 0 0))))
  refine hf_C _ s t J N hrt (fun j0 j1 => ?_) ?_
  rotate_left
  · refine nx_s ?_
    refine nk_br.t (by decide) ?_
    exact beyond
  refine nx_s ?_
  refine nk_br.f (by decide) ?_
  refine nx_s (nx_gq rfl rfl hrq.1 rfl ?_)
  refine nx_s (nx_s (nx_gq rfl rfl hrt.1 rfl ?_))
  show nk_wp kx_X5_copy kc_X5_copy Q 109 [some (.ref 0), some (.int R), some (.int I), some (.int T), some (.int J), some (.int N), some (.ref q), some (.ref t)] [.ref (t + 1), .int I, .ref (q + 1)] (nx_enc s 0 shC) 0 0
  refine nx_s (nx_s (nx_s ?_))
  show nk_acp [.ref (q + 1), .int I, .ref (t + 1), .int J, .int N] (nx_enc s 0 shC) (fun r h' => nk_ret r [] (fun Z => nk_wp kx_X5_copy kc_X5_copy Q 116 [some (.ref 0), some (.int R), some (.int I), some (.int T), some (.int J), some (.int N), some (.ref q), some (.ref t)] Z h' 0 0))
  have bq := hrq.2.2.2
  have bt := hrt.2.2.2
  refine acp_C (s := s) (q0 := q + 1) (q1 := t + 1) (sp := I) (dp := J) (n := N) hrq.2.1 hrt.2.1 i0 j0 (by omega) (by omega) (by omega) (fun f => ?_)
  refine nx_s (nx_s ?_)
  have ht29 := hrt.2.2.1.1
  exact hq _ _ (rq_inv hInv hrt f) ⟨fun _ _ _ => rfl, fun q h1 h2 => if_neg (by omega)⟩
