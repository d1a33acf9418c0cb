/-! ===== A CHECKER OF METHODS: values by names and intervals ===== -/
/-- a number, a name of an int, a name of a long, a reference, the sign of a named long -/
abbrev na_V : Type := Int ⊕ Nat ⊕ Nat ⊕ Nat ⊕ Nat
abbrev na_L : Type := List (Option na_V)
abbrev na_E : Type := List (Nat × Int × Int)
abbrev na_K : Type := List (Nat × na_V × na_V)
/-- names so far, intervals, what isn't 0, known elements of arrays, fields, arrays that were written, the level (0: nothing is known) -/
abbrev na_D : Type := Nat × na_E × List Nat × na_K × na_L × List Nat × Nat
noncomputable def na_ble (a b : Int) : Bool := match a, b with
  | .ofNat m, .ofNat n => Nat.ble m n
  | .negSucc _, .ofNat _ => true
  | .ofNat _, .negSucc _ => false
  | .negSucc m, .negSucc n => Nat.ble n m
theorem na_ble_t {a b : Int} (h : na_ble a b = true) : a ≤ b := by
  match a, b, h with
  | .ofNat m, .ofNat n, h =>
    have := Nat.le_of_ble_eq_true h
    exact Int.ofNat_le.mpr this
  | .negSucc m, .ofNat n, _ =>
    rw [Int.negSucc_eq]
    show -((m : Int) + 1) ≤ (n : Int)
    omega
  | .negSucc m, .negSucc n, h =>
    have := Nat.le_of_ble_eq_true h
    rw [Int.negSucc_eq, Int.negSucc_eq]
    omega
theorem na_ble_f {a b : Int} (h : na_ble a b = false) : b < a := by
  match a, b, h with
  | .ofNat m, .ofNat n, h =>
    have h1 : ¬ m ≤ n := fun q => by
      have := Nat.ble_eq_true_of_le q
      rw [show Nat.ble m n = false from h] at this
      cases this
    show (n : Int) < (m : Int)
    omega
  | .ofNat m, .negSucc n, _ =>
    rw [Int.negSucc_eq]
    show -((n : Int) + 1) < (m : Int)
    omega
  | .negSucc m, .negSucc n, h =>
    have h1 : ¬ n ≤ m := fun q => by
      have := Nat.ble_eq_true_of_le q
      rw [show Nat.ble n m = false from h] at this
      cases this
    rw [Int.negSucc_eq, Int.negSucc_eq]
    omega
noncomputable def na_bq (a b : Int) : Bool := na_ble a b && na_ble b a
theorem na_bq_t {a b : Int} (h : na_bq a b = true) : a = b := by
  have h1 := Bool.and_eq_true_iff.mp h
  have := na_ble_t h1.1
  have := na_ble_t h1.2
  omega
theorem na_bq_f {a b : Int} (h : na_bq a b = false) : a ≠ b := by
  intro e
  subst e
  have : na_ble a a = true := by
    cases hb : na_ble a a with
    | true => rfl
    | false => exact absurd (na_ble_f hb) (Int.lt_irrefl a)
  rw [na_bq, this] at h
  cases h
noncomputable def na_max (a b : Int) : Int := bif na_ble a b then b else a
noncomputable def na_min (a b : Int) : Int := bif na_ble a b then a else b
theorem na_max_le {a b x : Int} (h1 : a ≤ x) (h2 : b ≤ x) : na_max a b ≤ x := by
  unfold na_max
  cases na_ble a b
  · exact h1
  · exact h2
theorem na_le_min {a b x : Int} (h1 : x ≤ a) (h2 : x ≤ b) : x ≤ na_min a b := by
  unfold na_min
  cases na_ble a b
  · exact h2
  · exact h1
theorem na_max_ge (a b : Int) : a ≤ na_max a b ∧ b ≤ na_max a b := by
  unfold na_max
  cases h : na_ble a b with
  | true => exact ⟨na_ble_t h, Int.le_refl _⟩
  | false => exact ⟨Int.le_refl _, Int.le_of_lt (na_ble_f h)⟩
theorem na_min_le (a b : Int) : na_min a b ≤ a ∧ na_min a b ≤ b := by
  unfold na_min
  cases h : na_ble a b with
  | true => exact ⟨Int.le_refl _, na_ble_t h⟩
  | false => exact ⟨Int.le_of_lt (na_ble_f h), Int.le_refl _⟩
noncomputable def na_mn : Int := -2147483648
noncomputable def na_mx : Int := 2147483647
noncomputable def na_lm : Int := -9223372036854775808
noncomputable def na_lx : Int := 9223372036854775807
theorem na_i32 (x : Int32) : na_mn ≤ x.toInt ∧ x.toInt ≤ na_mx := ⟨x.le_toInt, Int.le_of_lt_add_one x.toInt_lt⟩
theorem na_i64 (x : Int64) : na_lm ≤ x.toInt ∧ x.toInt ≤ na_lx := ⟨x.le_toInt, Int.le_of_lt_add_one x.toInt_lt⟩
/-! ### what they mean -/
noncomputable def na_gi (r : List Int) (v : na_V) (x : Int32) : Prop := match v with
  | .inl c => x.toInt = c
  | .inr (.inl s) => r[s]? = some x.toInt
  | .inr (.inr (.inl _)) => False
  | .inr (.inr (.inr (.inl _))) => False
  | .inr (.inr (.inr (.inr s))) => ∃ y : Int, r[s]? = some y ∧ ((y < 0 ∧ x.toInt = -1) ∨ (y = 0 ∧ x.toInt = 0) ∨ (0 < y ∧ x.toInt = 1))
noncomputable def na_gv (r : List Int) (v : na_V) (w : Value) : Prop := match w with
  | .int x => na_gi r v x
  | .long y => (match v with
    | .inr (.inr (.inl s)) => r[s]? = some y.toInt
    | _ => False)
  | .ref q => (match v with
    | .inr (.inr (.inr (.inl p))) => p = q
    | _ => False)
  | _ => False
noncomputable def na_ok1 (r : List Int) (a : Option na_V) (o : Option Value) : Prop := match a, o with
  | none, _ => True
  | some v, some w => na_gv r v w
  | some _, none => False
noncomputable def na_gL (r : List Int) : na_L → nk_Ls → Prop
  | [], [] => True
  | a :: L, o :: M => na_ok1 r a o ∧ na_gL r L M
  | _, _ => False
noncomputable def na_gS (r : List Int) : List na_V → List Value → Prop
  | [], [] => True
  | v :: S, w :: M => na_gv r v w ∧ na_gS r S M
  | _, _ => False
noncomputable def na_gE (r : List Int) (E : na_E) : Prop := ∀ e ∈ E, ∃ x : Int, r[e.1]? = some x ∧ e.2.1 ≤ x ∧ x ≤ e.2.2
noncomputable def na_gZ (r : List Int) (Z : List Nat) : Prop := ∀ s ∈ Z, ∃ x : Int, r[s]? = some x ∧ x ≠ 0
/-- more names -/
noncomputable def na_ex (r r' : List Int) : Prop := ∀ (s : Nat) (x : Int), r[s]? = some x → r'[s]? = some x
theorem na_ex.rf {r : List Int} : na_ex r r := fun _ _ h => h
theorem na_ex.tr {r r' r'' : List Int} (h : na_ex r r') (h' : na_ex r' r'') : na_ex r r'' := fun s x q => h' s x (h s x q)
theorem na_ex.ap {r t : List Int} : na_ex r (r ++ t) := fun s x h => by
  rw [List.getElem?_append_left (List.getElem?_eq_some_iff.mp h).1]
  exact h
theorem na_gi.ex {r r' : List Int} (h : na_ex r r') {v : na_V} {x : Int32} (hv : na_gi r v x) : na_gi r' v x := by
  match v, hv with
  | .inl c, hv => exact hv
  | .inr (.inl s), hv => exact h s _ hv
  | .inr (.inr (.inr (.inr s))), hv =>
    obtain ⟨y, h1, h2⟩ := hv
    exact ⟨y, h s _ h1, h2⟩
theorem na_gv.ex {r r' : List Int} (h : na_ex r r') {v : na_V} {w : Value} (hv : na_gv r v w) : na_gv r' v w := by
  match w, hv with
  | .int x, hv => exact na_gi.ex h hv
  | .long y, hv =>
    match v, hv with
    | .inr (.inr (.inl s)), hv => exact h s _ hv
  | .ref q, hv => exact hv
theorem na_ok1.ex {r r' : List Int} (h : na_ex r r') {a : Option na_V} {o : Option Value} (hv : na_ok1 r a o) : na_ok1 r' a o := by
  match a, o, hv with
  | none, _, _ => exact trivial
  | some v, some w, hv => exact na_gv.ex h hv
theorem na_gL.ex {r r' : List Int} (h : na_ex r r') : ∀ {L : na_L} {M : nk_Ls}, na_gL r L M → na_gL r' L M
  | [], [], _ => trivial
  | _ :: _, _ :: _, hv => ⟨na_ok1.ex h hv.1, na_gL.ex h hv.2⟩
  | [], _ :: _, hv => hv.elim
  | _ :: _, [], hv => hv.elim
theorem na_gS.ex {r r' : List Int} (h : na_ex r r') : ∀ {L : List na_V} {M : List Value}, na_gS r L M → na_gS r' L M
  | [], [], _ => trivial
  | _ :: _, _ :: _, hv => ⟨na_gv.ex h hv.1, na_gS.ex h hv.2⟩
  | [], _ :: _, hv => hv.elim
  | _ :: _, [], hv => hv.elim
theorem na_gE.ex {r r' : List Int} (h : na_ex r r') {E : na_E} (hE : na_gE r E) : na_gE r' E := fun e he => by
  obtain ⟨x, h1, h2⟩ := hE e he
  exact ⟨x, h _ _ h1, h2⟩
theorem na_gZ.ex {r r' : List Int} (h : na_ex r r') {Z : List Nat} (hZ : na_gZ r Z) : na_gZ r' Z := fun s hs => by
  obtain ⟨x, h1, h2⟩ := hZ s hs
  exact ⟨x, h _ _ h1, h2⟩
/-! ### intervals -/
noncomputable def na_iv (E : na_E) (v : na_V) : Option (Int × Int) := match v with
  | .inl c => some (c, c)
  | .inr (.inl s) => nk_lk E s
  | .inr (.inr (.inl _)) => none
  | .inr (.inr (.inr (.inl _))) => none
  | .inr (.inr (.inr (.inr _))) => some (-1, 1)
theorem na_lk_ok {r : List Int} {E : na_E} (hE : na_gE r E) {s : Nat} {b : Int × Int} (h : nk_lk E s = some b) {x : Int} (hx : r[s]? = some x) : b.1 ≤ x ∧ x ≤ b.2 := by
  obtain ⟨y, h1, h2⟩ := hE _ (nk_lk_mem E s b h)
  rw [show r[s]? = some y from h1] at hx
  cases hx
  exact h2
theorem na_iv_ok {r : List Int} {E : na_E} (hE : na_gE r E) {v : na_V} {x : Int32} (hv : na_gi r v x) {b : Int × Int} (h : na_iv E v = some b) : b.1 ≤ x.toInt ∧ x.toInt ≤ b.2 := by
  match v, hv, h with
  | .inl c, hv, h =>
    cases h
    have hv : x.toInt = c := hv
    show c ≤ x.toInt ∧ x.toInt ≤ c
    omega
  | .inr (.inl s), hv, h => exact na_lk_ok hE h hv
  | .inr (.inr (.inr (.inr s))), hv, h =>
    cases h
    obtain ⟨y, -, h2⟩ := hv
    show -1 ≤ x.toInt ∧ x.toInt ≤ 1
    omega
theorem na_gv_i {r : List Int} {E : na_E} {v : na_V} {w : Value} (hv : na_gv r v w) {b : Int × Int} (h : na_iv E v = some b) : ∃ x : Int32, w = .int x ∧ na_gi r v x := by
  match w, hv with
  | .int x, hv => exact ⟨x, rfl, hv⟩
  | .long y, hv =>
    match v, hv with
    | .inr (.inr (.inl s)), hv => cases h
  | .ref q, hv =>
    match v, hv with
    | .inr (.inr (.inr (.inl p))), hv => cases h
noncomputable def na_iL (v : na_V) : Option Nat := match v with
  | .inr (.inr (.inl s)) => some s
  | _ => none
noncomputable def na_iR (v : na_V) : Option Nat := match v with
  | .inr (.inr (.inr (.inl q))) => some q
  | _ => none
theorem na_gv_l {r : List Int} {v : na_V} {w : Value} (hv : na_gv r v w) {s : Nat} (h : na_iL v = some s) : ∃ y : Int64, w = .long y ∧ r[s]? = some y.toInt := by
  match v, h with
  | .inr (.inr (.inl s)), h =>
    cases h
    match w, hv with
    | .long y, hv => exact ⟨y, rfl, hv⟩
theorem na_gv_r {r : List Int} {v : na_V} {w : Value} (hv : na_gv r v w) {q : Nat} (h : na_iR v = some q) : w = .ref q := by
  match v, h with
  | .inr (.inr (.inr (.inl q))), h =>
    cases h
    match w, hv with
    | .ref p, hv =>
      have hv : q = p := hv
      rw [hv]
/-! ### to know more: none says that it can't be -/
abbrev na_Y : Type := Option (na_E × List Nat)
noncomputable def na_gY (r : List Int) (y : na_Y) : Prop := match y with
  | some p => na_gE r p.1 ∧ na_gZ r p.2
  | none => False
noncomputable def na_rs (E : na_E) (Z : List Nat) (s : Nat) (lo hi : Int) : na_Y := match nk_lk E s with
  | some b => (fun l h => bif na_ble l h then some ((s, l, h) :: E, Z) else none) (na_max b.1 lo) (na_min b.2 hi)
  | none => some (E, Z)
theorem na_rs_ok {r : List Int} {E : na_E} {Z : List Nat} (hE : na_gE r E) (hZ : na_gZ r Z) {s : Nat} {x lo hi : Int} (hx : r[s]? = some x) (h1 : lo ≤ x) (h2 : x ≤ hi) : na_gY r (na_rs E Z s lo hi) := by
  unfold na_rs
  cases h : nk_lk E s with
  | none => exact ⟨hE, hZ⟩
  | some b =>
    obtain ⟨g1, g2⟩ := na_lk_ok hE h hx
    have k1 := na_max_le g1 h1
    have k2 := na_le_min g2 h2
    show na_gY r (bif na_ble (na_max b.1 lo) (na_min b.2 hi) then some ((s, na_max b.1 lo, na_min b.2 hi) :: E, Z) else none)
    cases hb : na_ble (na_max b.1 lo) (na_min b.2 hi) with
    | true =>
      refine ⟨fun e he => ?_, hZ⟩
      rcases List.mem_cons.mp he with rfl | he
      · exact ⟨x, hx, k1, k2⟩
      · exact hE e he
    | false =>
      have := na_ble_f hb
      omega
/-- at least / at most -/
noncomputable def na_rl (E : na_E) (Z : List Nat) (s : Nat) (lo : Int) : na_Y := match nk_lk E s with
  | some b => na_rs E Z s lo b.2
  | none => some (E, Z)
noncomputable def na_rh (E : na_E) (Z : List Nat) (s : Nat) (hi : Int) : na_Y := match nk_lk E s with
  | some b => na_rs E Z s b.1 hi
  | none => some (E, Z)
theorem na_rl_ok {r : List Int} {E : na_E} {Z : List Nat} (hE : na_gE r E) (hZ : na_gZ r Z) {s : Nat} {x lo : Int} (hx : r[s]? = some x) (h1 : lo ≤ x) : na_gY r (na_rl E Z s lo) := by
  unfold na_rl
  cases h : nk_lk E s with
  | none => exact ⟨hE, hZ⟩
  | some b => exact na_rs_ok hE hZ hx h1 (na_lk_ok hE h hx).2
theorem na_rh_ok {r : List Int} {E : na_E} {Z : List Nat} (hE : na_gE r E) (hZ : na_gZ r Z) {s : Nat} {x hi : Int} (hx : r[s]? = some x) (h1 : x ≤ hi) : na_gY r (na_rh E Z s hi) := by
  unfold na_rh
  cases h : nk_lk E s with
  | none => exact ⟨hE, hZ⟩
  | some b => exact na_rs_ok hE hZ hx (na_lk_ok hE h hx).1 h1
noncomputable def na_rf (E : na_E) (Z : List Nat) (v : na_V) (lo hi : Int) : na_Y := match v with
  | .inl c => bif na_ble lo c && na_ble c hi then some (E, Z) else none
  | .inr (.inl s) => na_rs E Z s lo hi
  | .inr (.inr (.inl _)) => some (E, Z)
  | .inr (.inr (.inr (.inl _))) => some (E, Z)
  | .inr (.inr (.inr (.inr s))) => bif na_ble 1 lo then na_rl E Z s 1 else bif na_ble hi (-1) then na_rh E Z s (-1) else bif na_ble 0 lo then (bif na_ble hi 0 then na_rs E Z s 0 0 else na_rl E Z s 0) else bif na_ble hi 0 then na_rh E Z s 0 else some (E, Z)
theorem na_rf_ok {r : List Int} {E : na_E} {Z : List Nat} (hE : na_gE r E) (hZ : na_gZ r Z) {v : na_V} {x : Int32} (hv : na_gi r v x) {lo hi : Int} (h1 : lo ≤ x.toInt) (h2 : x.toInt ≤ hi) : na_gY r (na_rf E Z v lo hi) := by
  match v, hv with
  | .inl c, hv =>
    have hv : x.toInt = c := hv
    show na_gY r (bif na_ble lo c && na_ble c hi then some (E, Z) else none)
    cases hb : na_ble lo c with
    | false => have := na_ble_f hb; omega
    | true =>
      cases hc : na_ble c hi with
      | false => have := na_ble_f hc; omega
      | true => exact ⟨hE, hZ⟩
  | .inr (.inl s), hv => exact na_rs_ok hE hZ hv h1 h2
  | .inr (.inr (.inr (.inr s))), hv =>
    obtain ⟨y, hy, hc⟩ := hv
    show na_gY r (bif na_ble 1 lo then na_rl E Z s 1 else bif na_ble hi (-1) then na_rh E Z s (-1) else bif na_ble 0 lo then (bif na_ble hi 0 then na_rs E Z s 0 0 else na_rl E Z s 0) else bif na_ble hi 0 then na_rh E Z s 0 else some (E, Z))
    cases b1 : na_ble 1 lo with
    | true => have := na_ble_t b1; exact na_rl_ok hE hZ hy (by omega)
    | false =>
      cases b2 : na_ble hi (-1) with
      | true => have := na_ble_t b2; exact na_rh_ok hE hZ hy (by omega)
      | false =>
        cases b3 : na_ble 0 lo with
        | true =>
          have := na_ble_t b3
          cases b4 : na_ble hi 0 with
          | true => have := na_ble_t b4; exact na_rs_ok hE hZ hy (by omega) (by omega)
          | false => exact na_rl_ok hE hZ hy (by omega)
        | false =>
          cases b4 : na_ble hi 0 with
          | true => have := na_ble_t b4; exact na_rh_ok hE hZ hy (by omega)
          | false => exact ⟨hE, hZ⟩
/-- a named one isn't c -/
noncomputable def na_ns (E : na_E) (Z : List Nat) (s : Nat) (c : Int) : na_Y := match nk_lk E s with
  | some b => bif na_bq b.1 c then (bif na_bq b.2 c then none else some ((s, b.1 + 1, b.2) :: E, Z)) else bif na_bq b.2 c then some ((s, b.1, b.2 - 1) :: E, Z) else bif na_bq c 0 then some (E, s :: Z) else some (E, Z)
  | none => some (E, Z)
theorem na_ns_ok {r : List Int} {E : na_E} {Z : List Nat} (hE : na_gE r E) (hZ : na_gZ r Z) {s : Nat} {x c : Int} (hx : r[s]? = some x) (hc : x ≠ c) : na_gY r (na_ns E Z s c) := by
  unfold na_ns
  cases h : nk_lk E s with
  | none => exact ⟨hE, hZ⟩
  | some b =>
    obtain ⟨g1, g2⟩ := na_lk_ok hE h hx
    show na_gY r (bif na_bq b.1 c then (bif na_bq b.2 c then none else some ((s, b.1 + 1, b.2) :: E, Z)) else bif na_bq b.2 c then some ((s, b.1, b.2 - 1) :: E, Z) else bif na_bq c 0 then some (E, s :: Z) else some (E, Z))
    cases b1 : na_bq b.1 c with
    | true =>
      have e1 := na_bq_t b1
      cases b2 : na_bq b.2 c with
      | true => have e2 := na_bq_t b2; exact absurd (show x = c by omega) hc
      | false =>
        refine ⟨fun e he => ?_, hZ⟩
        rcases List.mem_cons.mp he with rfl | he
        · exact ⟨x, hx, show b.1 + 1 ≤ x by omega, g2⟩
        · exact hE e he
    | false =>
      cases b2 : na_bq b.2 c with
      | true =>
        have e2 := na_bq_t b2
        refine ⟨fun e he => ?_, hZ⟩
        rcases List.mem_cons.mp he with rfl | he
        · exact ⟨x, hx, g1, show x ≤ b.2 - 1 by omega⟩
        · exact hE e he
      | false =>
        cases b3 : na_bq c 0 with
        | true =>
          have e3 := na_bq_t b3
          refine ⟨hE, fun t ht => ?_⟩
          rcases List.mem_cons.mp ht with rfl | ht
          · exact ⟨x, hx, by omega⟩
          · exact hZ t ht
        | false => exact ⟨hE, hZ⟩
noncomputable def na_rn (E : na_E) (Z : List Nat) (v : na_V) (c : Int) : na_Y := match v with
  | .inl d => bif na_bq d c then none else some (E, Z)
  | .inr (.inl s) => na_ns E Z s c
  | .inr (.inr (.inl _)) => some (E, Z)
  | .inr (.inr (.inr (.inl _))) => some (E, Z)
  | .inr (.inr (.inr (.inr s))) => bif na_bq c 0 then na_ns E Z s 0 else some (E, Z)
theorem na_rn_ok {r : List Int} {E : na_E} {Z : List Nat} (hE : na_gE r E) (hZ : na_gZ r Z) {v : na_V} {x : Int32} (hv : na_gi r v x) {c : Int} (hc : x.toInt ≠ c) : na_gY r (na_rn E Z v c) := by
  match v, hv with
  | .inl d, hv =>
    have hv : x.toInt = d := hv
    show na_gY r (bif na_bq d c then none else some (E, Z))
    cases hb : na_bq d c with
    | true => have := na_bq_t hb; exact absurd (show x.toInt = c by omega) hc
    | false => exact ⟨hE, hZ⟩
  | .inr (.inl s), hv => exact na_ns_ok hE hZ hv hc
  | .inr (.inr (.inr (.inr s))), hv =>
    obtain ⟨y, hy, hcc⟩ := hv
    show na_gY r (bif na_bq c 0 then na_ns E Z s 0 else some (E, Z))
    cases hb : na_bq c 0 with
    | true => have := na_bq_t hb; exact na_ns_ok hE hZ hy (by omega)
    | false => exact ⟨hE, hZ⟩
noncomputable def na_an (y : na_Y) (k : na_E → List Nat → na_Y) : na_Y := match y with
  | some p => k p.1 p.2
  | none => none
theorem na_an_ok {r : List Int} {y : na_Y} {k : na_E → List Nat → na_Y} (h : na_gY r y) (hk : ∀ (E : na_E) (Z : List Nat), na_gE r E → na_gZ r Z → na_gY r (k E Z)) : na_gY r (na_an y k) := by
  match y, h with
  | some p, h => exact hk _ _ h.1 h.2
/-- x + k is at most y -/
noncomputable def na_le (E : na_E) (Z : List Nat) (x y : na_V) (k : Int) : na_Y := match na_iv E x, na_iv E y with
  | some a, some d => na_an (na_rf E Z x na_mn (d.2 - k)) (fun E Z => na_rf E Z y (a.1 + k) na_mx)
  | _, _ => some (E, Z)
noncomputable def na_eq (E : na_E) (Z : List Nat) (x y : na_V) : na_Y := match na_iv E x, na_iv E y with
  | some a, some d => na_an (na_rf E Z x d.1 d.2) (fun E Z => na_rf E Z y a.1 a.2)
  | _, _ => some (E, Z)
noncomputable def na_ne (E : na_E) (Z : List Nat) (x y : na_V) : na_Y := match na_iv E x, na_iv E y with
  | some a, some d => bif na_bq d.1 d.2 then na_rn E Z x d.1 else bif na_bq a.1 a.2 then na_rn E Z y a.1 else some (E, Z)
  | _, _ => some (E, Z)
theorem na_le_ok {r : List Int} {E : na_E} {Z : List Nat} (hE : na_gE r E) (hZ : na_gZ r Z) {v w : na_V} {x y : Int32} (hv : na_gi r v x) (hw : na_gi r w y) {k : Int} (h : x.toInt + k ≤ y.toInt) : na_gY r (na_le E Z v w k) := by
  unfold na_le
  cases ha : na_iv E v with
  | none => exact ⟨hE, hZ⟩
  | some a =>
    cases hd : na_iv E w with
    | none => exact ⟨hE, hZ⟩
    | some d =>
      have g1 := na_iv_ok hE hv ha
      have g2 := na_iv_ok hE hw hd
      exact na_an_ok (na_rf_ok hE hZ hv (na_i32 x).1 (by omega)) (fun E' Z' hE' hZ' => na_rf_ok hE' hZ' hw (by omega) (na_i32 y).2)
theorem na_eq_ok {r : List Int} {E : na_E} {Z : List Nat} (hE : na_gE r E) (hZ : na_gZ r Z) {v w : na_V} {x y : Int32} (hv : na_gi r v x) (hw : na_gi r w y) (h : x.toInt = y.toInt) : na_gY r (na_eq E Z v w) := by
  unfold na_eq
  cases ha : na_iv E v with
  | none => exact ⟨hE, hZ⟩
  | some a =>
    cases hd : na_iv E w with
    | none => exact ⟨hE, hZ⟩
    | some d =>
      have g1 := na_iv_ok hE hv ha
      have g2 := na_iv_ok hE hw hd
      exact na_an_ok (na_rf_ok hE hZ hv (by omega) (by omega)) (fun E' Z' hE' hZ' => na_rf_ok hE' hZ' hw (by omega) (by omega))
theorem na_ne_ok {r : List Int} {E : na_E} {Z : List Nat} (hE : na_gE r E) (hZ : na_gZ r Z) {v w : na_V} {x y : Int32} (hv : na_gi r v x) (hw : na_gi r w y) (h : x.toInt ≠ y.toInt) : na_gY r (na_ne E Z v w) := by
  unfold na_ne
  cases ha : na_iv E v with
  | none => exact ⟨hE, hZ⟩
  | some a =>
    cases hd : na_iv E w with
    | none => exact ⟨hE, hZ⟩
    | some d =>
      have g1 := na_iv_ok hE hv ha
      have g2 := na_iv_ok hE hw hd
      show na_gY r (bif na_bq d.1 d.2 then na_rn E Z v d.1 else bif na_bq a.1 a.2 then na_rn E Z w a.1 else some (E, Z))
      cases b1 : na_bq d.1 d.2 with
      | true => have := na_bq_t b1; exact na_rn_ok hE hZ hv (by omega)
      | false =>
        cases b2 : na_bq a.1 a.2 with
        | true => have := na_bq_t b2; exact na_rn_ok hE hZ hw (by omega)
        | false => exact ⟨hE, hZ⟩
noncomputable def na_cd (cd : ClassFile.Cond) (E : na_E) (Z : List Nat) (x y : na_V) : na_Y := match cd with
  | .eq => na_eq E Z x y
  | .ne => na_ne E Z x y
  | .lt => na_le E Z x y 1
  | .ge => na_le E Z y x 0
  | .gt => na_le E Z y x 1
  | .le => na_le E Z x y 0
noncomputable def na_cn (cd : ClassFile.Cond) (E : na_E) (Z : List Nat) (x y : na_V) : na_Y := match cd with
  | .eq => na_ne E Z x y
  | .ne => na_eq E Z x y
  | .lt => na_le E Z y x 0
  | .ge => na_le E Z x y 1
  | .gt => na_le E Z x y 0
  | .le => na_le E Z y x 1
noncomputable def na_ct2 (cd : ClassFile.Cond) (x y : Int32) : Prop := match cd with
  | .lt => x.toInt < y.toInt
  | .gt => y.toInt < x.toInt
  | .le => x.toInt ≤ y.toInt
  | .ge => y.toInt ≤ x.toInt
  | _ => True
noncomputable def na_cf2 (cd : ClassFile.Cond) (x y : Int32) : Prop := match cd with
  | .lt => y.toInt ≤ x.toInt
  | .gt => x.toInt ≤ y.toInt
  | .le => y.toInt < x.toInt
  | .ge => x.toInt < y.toInt
  | _ => True
theorem na_c2_ok {r : List Int} {E : na_E} {Z : List Nat} (hE : na_gE r E) (hZ : na_gZ r Z) {v w : na_V} {x y : Int32} (hv : na_gi r v x) (hw : na_gi r w y) {cd : ClassFile.Cond} {T F : Prop} (hT : na_ct2 cd x y → na_gY r (na_cd cd E Z v w) → T) (hF : na_cf2 cd x y → na_gY r (na_cn cd E Z v w) → F) : nk_c2 cd x y T F := by
  have ne : ∀ {a b : Int32}, ¬ a = b → a.toInt ≠ b.toInt := fun h q => h (Int32.toInt_inj.mp q)
  match cd with
  | .eq => exact nk_br.mk (fun h => hT trivial (na_eq_ok hE hZ hv hw (by rw [h]))) (fun h => hF trivial (na_ne_ok hE hZ hv hw (ne h)))
  | .ne => exact nk_br.mk (fun h => hF trivial (na_eq_ok hE hZ hv hw (by rw [h]))) (fun h => hT trivial (na_ne_ok hE hZ hv hw (ne h)))
  | .lt => exact nk_br.mk (fun h => hT (Int32.lt_iff_toInt_lt.mp h) (na_le_ok hE hZ hv hw (by have := Int32.lt_iff_toInt_lt.mp h; omega))) (fun h => hF (Int32.le_iff_toInt_le.mp (Int32.not_lt.mp h)) (na_le_ok hE hZ hw hv (by have := Int32.le_iff_toInt_le.mp (Int32.not_lt.mp h); omega)))
  | .ge => exact nk_br.mk (fun h => hT (Int32.le_iff_toInt_le.mp h) (na_le_ok hE hZ hw hv (by have := Int32.le_iff_toInt_le.mp h; omega))) (fun h => hF (Int32.lt_iff_toInt_lt.mp (Int32.not_le.mp h)) (na_le_ok hE hZ hv hw (by have := Int32.lt_iff_toInt_lt.mp (Int32.not_le.mp h); omega)))
  | .gt => exact nk_br.mk (fun h => hT (Int32.lt_iff_toInt_lt.mp h) (na_le_ok hE hZ hw hv (by have := Int32.lt_iff_toInt_lt.mp h; omega))) (fun h => hF (Int32.le_iff_toInt_le.mp (Int32.not_lt.mp h)) (na_le_ok hE hZ hv hw (by have := Int32.le_iff_toInt_le.mp (Int32.not_lt.mp h); omega)))
  | .le => exact nk_br.mk (fun h => hT (Int32.le_iff_toInt_le.mp h) (na_le_ok hE hZ hv hw (by have := Int32.le_iff_toInt_le.mp h; omega))) (fun h => hF (Int32.lt_iff_toInt_lt.mp (Int32.not_le.mp h)) (na_le_ok hE hZ hw hv (by have := Int32.lt_iff_toInt_lt.mp (Int32.not_le.mp h); omega)))
/-- surely not 0 -/
noncomputable def na_nz (E : na_E) (Z : List Nat) (v : na_V) : Bool := match v with
  | .inl c => !(na_bq c 0)
  | .inr (.inl s) => Z.any (Nat.beq s) || (match nk_lk E s with
    | some b => na_ble 1 b.1 || na_ble b.2 (-1)
    | none => false)
  | .inr (.inr (.inl s)) => Z.any (Nat.beq s) || (match nk_lk E s with
    | some b => na_ble 1 b.1 || na_ble b.2 (-1)
    | none => false)
  | _ => false
theorem na_nz_s {r : List Int} {E : na_E} {Z : List Nat} (hE : na_gE r E) (hZ : na_gZ r Z) {s : Nat} {x : Int} (hx : r[s]? = some x) (h : (Z.any (Nat.beq s) || (match nk_lk E s with
    | some b => na_ble 1 b.1 || na_ble b.2 (-1)
    | none => false)) = true) : x ≠ 0 := by
  rcases Bool.or_eq_true_iff.mp h with h | h
  · obtain ⟨t, ht, hb⟩ := List.any_eq_true.mp h
    have := Nat.eq_of_beq_eq_true hb
    subst this
    obtain ⟨y, h1, h2⟩ := hZ s ht
    rw [h1] at hx
    cases hx
    exact h2
  · cases hl : nk_lk E s with
    | none => rw [hl] at h; cases h
    | some b =>
      rw [hl] at h
      obtain ⟨g1, g2⟩ := na_lk_ok hE hl hx
      rcases Bool.or_eq_true_iff.mp h with h | h
      · have := na_ble_t h; omega
      · have := na_ble_t h; omega
theorem na_nz_i {r : List Int} {E : na_E} {Z : List Nat} (hE : na_gE r E) (hZ : na_gZ r Z) {v : na_V} {x : Int32} (hv : na_gi r v x) (h : na_nz E Z v = true) : x.toInt ≠ 0 := by
  match v, hv, h with
  | .inl c, hv, h =>
    have hv : x.toInt = c := hv
    have h : (!(na_bq c 0)) = true := h
    have := na_bq_f (show na_bq c 0 = false by simpa using h)
    omega
  | .inr (.inl s), hv, h => exact na_nz_s hE hZ hv h
