/-! ===== the reference's divisor ===== -/
theorem na_bml {z : Int} (h1 : na_lm ≤ z) (h2 : z ≤ na_lx) : z.bmod (2 ^ 64) = z := by
  have h1 : -9223372036854775808 ≤ z := h1
  have h2 : z ≤ 9223372036854775807 := h2
  exact Int.bmod_eq_of_le (show -2 ^ 63 ≤ z by omega) (show z < 2 ^ 63 by omega)
theorem ll_div {X Y : Int64} {x y : Nat} (hX : X.toInt = x) (hY : Y.toInt = y) : (X / Y).toInt = ((x / y : Nat) : Int) := by
  have hx := na_i64 X
  have hle : x / y ≤ x := Nat.div_le_self x y
  have a1 : na_lm = -9223372036854775808 := rfl
  have e : (x : Int).tdiv (y : Int) = ((x / y : Nat) : Int) := by
    rw [Int.tdiv_eq_ediv_of_nonneg (by omega)]
    exact (Int.natCast_ediv x y).symm
  have key : ∀ d : Nat, d ≤ x → (d : Int).bmod (2 ^ 64) = d := fun d h => na_bml (by omega) (by omega)
  rw [Int64.toInt_div, hX, hY, e, key _ hle]
theorem ll_rem {X Y : Int64} {x y : Nat} (hX : X.toInt = x) (hY : Y.toInt = y) : (X - X / Y * Y).toInt = ((x % y : Nat) : Int) := by
  have hx := na_i64 X
  have a1 : na_lm = -9223372036854775808 := rfl
  have hd := ll_div hX hY
  have hm : x / y * y ≤ x := Nat.div_mul_le_self x y
  have hmod := Nat.div_add_mod x y
  have hc : y * (x / y) = x / y * y := Nat.mul_comm _ _
  have key : ∀ d : Nat, d ≤ x → (d : Int).bmod (2 ^ 64) = d := fun d h => na_bml (by omega) (by omega)
  have key2 : ∀ d : Nat, d ≤ x → ((x : Int) - (d : Int)).bmod (2 ^ 64) = (x : Int) - (d : Int) := fun d h => na_bml (by omega) (by omega)
  have e1 : (X / Y * Y).toInt = ((x / y * y : Nat) : Int) := by
    rw [Int64.toInt_mul, hd, hY, ← Int.natCast_mul, key _ hm]
  rw [Int64.toInt_sub, hX, e1, key2 _ hm]
  generalize x / y * y = d at *
  generalize x % y = e at *
  omega
theorem ll_cz (Y : Int64) : (Y.toInt = 0 → lg_cmp Y (nk_l01 0) = 0) ∧ (Y.toInt ≠ 0 → ¬ lg_cmp Y (nk_l01 0) = 0) := by
  have h := na_cmp_z (x := Y) (y := nk_l01 0) rfl
  have h0 : (0 : Int32).toInt = 0 := rfl
  refine ⟨fun e => Int32.toInt_inj.mp (by omega), fun e q => ?_⟩
  rw [q] at h
  omega
set_option maxRecDepth 100000 in
theorem dv_loop (Q : nk_Q) (h : nk_H) : ∀ (y x : Nat) (X Y A B : Int64) (o : Option Value), X.toInt = x → Y.toInt = y → (∀ R : Int64, R.toInt = (Nat.gcd y x : Nat) → Q (some (.long R)) h) → nk_wp kx_X6_divisor kc_X6_divisor Q 17 [some (.long A), none, some (.long B), none, some (.long X), none, some (.long Y), none, o, none] [] h 0 0 := by
  intro y
  induction y using Nat.strongRecOn with
  | ind y ih =>
    intro x X Y A B o hX hY hq
    refine nk_s (nk_s (nk_s (nk_s ?_)))
    rcases Nat.eq_zero_or_pos y with e | e
    · refine nk_br.t ((ll_cz Y).1 (by omega)) ?_
      refine nk_s (nk_s ?_)
      exact hq X (by rw [hX, e, Nat.gcd_zero_left])
    · refine nk_br.f ((ll_cz Y).2 (by omega)) ?_
      refine nk_s (nk_s (nk_s ?_))
      refine ⟨fun q => ?_, ?_⟩
      · rw [q] at hY
        have h0 : (0 : Int64).toInt = 0 := rfl
        omega
      refine nk_s (nk_s (nk_s (nk_s (nk_s (nk_s ?_)))))
      exact ih (x % y) (Nat.mod_lt _ e) y Y _ A B _ hY (ll_rem hX hY) (fun R hR => hq R (by rw [hR, Nat.gcd_rec y x]))
theorem ll_neg {A : Int64} (h : na_lm < A.toInt) : (-A).toInt = -A.toInt := by
  have a1 : na_lm = -9223372036854775808 := rfl
  have a2 : na_lx = 9223372036854775807 := rfl
  have := na_i64 A
  rw [Int64.toInt_neg, na_bml (by omega) (by omega)]
theorem ll_cg (A : Int64) : (0 ≤ A.toInt → 0 ≤ lg_cmp A (nk_l01 0)) ∧ (A.toInt < 0 → ¬ 0 ≤ lg_cmp A (nk_l01 0)) := by
  have h := na_cmp_z (x := A) (y := nk_l01 0) rfl
  have h0 : (0 : Int32).toInt = 0 := rfl
  refine ⟨fun e => Int32.le_iff_toInt_le.mpr (by omega), fun e q => ?_⟩
  have := Int32.le_iff_toInt_le.mp q
  omega
set_option maxRecDepth 100000 in
theorem dv_R (A B : Int64) (b : Nat) (hA : na_lm < A.toInt) (hB : B.toInt = b) (Q : nk_Q) (h : nk_H) (hq : ∀ R : Int64, R.toInt = (Nat.gcd b A.toInt.natAbs : Nat) → Q (some (.long R)) h) : ev_X6_divisor [.long A, .long B] h Q := by
  refine nk_s (nk_s (nk_s (nk_s ?_)))
  by_cases e : 0 ≤ A.toInt
  · refine nk_br.t ((ll_cg A).1 e) ?_
    refine nk_s (nk_s (nk_s (nk_s ?_)))
    exact dv_loop Q h b A.toInt.natAbs A B A B _ (by omega) hB hq
  · refine nk_br.f ((ll_cg A).2 (by omega)) ?_
    refine nk_s (nk_s (nk_s (nk_s (nk_s (nk_s ?_)))))
    exact dv_loop Q h b A.toInt.natAbs (-A) B A B _ (by rw [ll_neg hA]; omega) hB hq
