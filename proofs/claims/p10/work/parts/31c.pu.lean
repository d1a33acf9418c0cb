/-! ===== the checker's states ===== -/
/-- shape of the cells, int fields (cell, place), their intervals, the arrays' intervals, the array of MAKINGS, what the level says, what else always holds, the arrays and the fields that it speaks of -/
abbrev na_G : Type := List nx_C × List (Nat × Nat) × List (Int × Int) × (Nat → Int × Int) × Nat × (Nat → nx_S → Prop) × (nx_S → Prop) × List Nat × List (Nat × Nat)
noncomputable def nx_co (j : Nat) : Int × Int := match j with
  | 0 => (0, 6)
  | 1 => (0, 15)
  | 2 => (0, 99)
  | 3 => (0, 5)
  | 4 => (0, 99)
  | 5 => (0, 5)
  | _ => (0, 1)
noncomputable def nx_PM (f : Nat → Int32) : Prop := ∀ m : Nat, m < 12 → (∀ j : Nat, j < 7 → (nx_co j).1 ≤ (f (7 * m + j)).toInt ∧ (f (7 * m + j)).toInt ≤ (nx_co j).2) ∧ ((f (7 * m + 2)).toInt ≤ 15 ∨ ((f (7 * m + 0)).toInt = 6 ∧ (f (7 * m + 6)).toInt = 0))
noncomputable def nx_Inv (g : na_G) (s : nx_S) : Prop :=
  (∀ (i : Nat) (k : Nat × Nat) (b : Int × Int), g.2.1[i]? = some k → g.2.2.1[i]? = some b → b.1 ≤ (s.2.2.1 k.1 k.2).toInt ∧ (s.2.2.1 k.1 k.2).toInt ≤ b.2)
  ∧ (∀ (q n : Nat) (l : List Nat), nk_lg g.1 q = some (.inr (0, n, l)) → ∀ i : Nat, i < n → (g.2.2.2.1 q).1 ≤ (s.1 q i).toInt ∧ (s.1 q i).toInt ≤ (g.2.2.2.1 q).2)
  ∧ nx_PM (s.1 g.2.2.2.2.1) ∧ g.2.2.2.2.2.2.1 s
/-- what always holds isn't touched by writing elsewhere -/
noncomputable def nx_Ke (g : na_G) : Prop := (∀ (s : nx_S) (q : Nat) (f : Nat → Int32), q ∉ g.2.2.2.2.2.2.2.1 → g.2.2.2.2.2.2.1 s → g.2.2.2.2.2.2.1 (nx_ui s q f)) ∧ (∀ (s : nx_S) (q p : Nat) (x : Int32), (q, p) ∉ g.2.2.2.2.2.2.2.2 → g.2.2.2.2.2.2.1 s → g.2.2.2.2.2.2.1 (nx_uf s q p x)) ∧ (∀ (s : nx_S) (q : Nat) (f : Nat → Int64), g.2.2.2.2.2.2.1 s → g.2.2.2.2.2.2.1 (nx_uj s q f)) ∧ ∀ (s : nx_S) (q p : Nat) (y : Int64), g.2.2.2.2.2.2.1 s → g.2.2.2.2.2.2.1 (nx_ug s q p y)
noncomputable def nx_fv (g : na_G) (s : nx_S) : nk_Ls := g.2.1.map (fun k => some (.int (s.2.2.1 k.1 k.2)))
noncomputable def na_gk (g : na_G) (r : List Int) (s : nx_S) (k : Nat × na_V × na_V) : Prop := ∃ i x : Int32, na_gi r k.2.1 i ∧ na_gi r k.2.2 x ∧ ((k.1 < 1000 ∧ s.1 k.1 i.toNatClampNeg = x) ∨ (1000 ≤ k.1 ∧ k.1 < 2000 ∧ s.1 g.2.2.2.2.1 (7 * i.toNatClampNeg + (k.1 - 1000)) = x) ∨ (k.1 = 3000 ∧ i.toInt < x.toInt) ∨ (k.1 = 3001 ∧ i.toInt + 1 = x.toInt))
noncomputable def na_gR (g : na_G) (I0 : Nat → Nat → Int32) (r : List Int) (R : na_K × na_L × List Nat × Nat) (s : nx_S) : Prop :=
  (∀ k ∈ R.1, na_gk g r s k) ∧ na_gL r R.2.1 (nx_fv g s) ∧ (∀ q : Nat, q ∉ R.2.2.1 → s.1 q = I0 q) ∧ nx_Inv g s ∧ (∀ l : Nat, R.2.2.2 = l + 1 → g.2.2.2.2.2.1 l s)
noncomputable def na_gD (g : na_G) (I0 : Nat → Nat → Int32) (r : List Int) (D : na_D) (s : nx_S) : Prop := D.1 = r.length ∧ na_gE r D.2.1 ∧ na_gZ r D.2.2.1 ∧ na_gR g I0 r D.2.2.2 s
theorem na_gk.ex {g : na_G} {r r' : List Int} (h : na_ex r r') {s : nx_S} {k : Nat × na_V × na_V} (hk : na_gk g r s k) : na_gk g r' s k := by
  obtain ⟨i, x, h1, h2, h3⟩ := hk
  exact ⟨i, x, h1.ex h, h2.ex h, h3⟩
theorem na_gR.ex {g : na_G} {I0 : Nat → Nat → Int32} {r r' : List Int} (h : na_ex r r') {R : na_K × na_L × List Nat × Nat} {s : nx_S} (hR : na_gR g I0 r R s) : na_gR g I0 r' R s :=
  ⟨fun k hk => (hR.1 k hk).ex h, hR.2.1.ex h, hR.2.2⟩
noncomputable def na_nw (D : na_D) (lo hi : Int) : na_V × na_D := bif na_ble hi lo then (.inl lo, D) else (.inr (.inl D.1), (D.1 + 1, (D.1, lo, hi) :: D.2.1, D.2.2))
noncomputable def na_nl (D : na_D) (lo hi : Int) (z : Bool) : na_V × na_D := (.inr (.inr (.inl D.1)), (D.1 + 1, (D.1, lo, hi) :: D.2.1, (bif z then D.1 :: D.2.2.1 else D.2.2.1), D.2.2.2))
theorem na_new {g : na_G} {I0 : Nat → Nat → Int32} {r : List Int} {D : na_D} {s : nx_S} (hD : na_gD g I0 r D s) {x lo hi : Int} (h1 : lo ≤ x) (h2 : x ≤ hi) : na_gE (r ++ [x]) ((D.1, lo, hi) :: D.2.1) ∧ (r ++ [x])[D.1]? = some x := by
  have hx : (r ++ [x])[D.1]? = some x := by rw [hD.1]; simp
  refine ⟨fun e he => ?_, hx⟩
  rcases List.mem_cons.mp he with rfl | he
  · exact ⟨x, hx, h1, h2⟩
  · exact (hD.2.1.ex na_ex.ap) e he
theorem na_nw_ok {g : na_G} {I0 : Nat → Nat → Int32} {r : List Int} {D : na_D} {s : nx_S} (hD : na_gD g I0 r D s) {x : Int32} {lo hi : Int} (h1 : lo ≤ x.toInt) (h2 : x.toInt ≤ hi) : ∃ r' : List Int, na_ex r r' ∧ na_gD g I0 r' (na_nw D lo hi).2 s ∧ na_gi r' (na_nw D lo hi).1 x := by
  unfold na_nw
  cases hb : na_ble hi lo with
  | true =>
    have := na_ble_t hb
    exact ⟨r, na_ex.rf, hD, show x.toInt = lo by omega⟩
  | false =>
    obtain ⟨g1, g2⟩ := na_new hD h1 h2
    exact ⟨r ++ [x.toInt], na_ex.ap, ⟨by show D.1 + 1 = _; rw [hD.1, List.length_append]; rfl, g1, hD.2.2.1.ex na_ex.ap, hD.2.2.2.ex na_ex.ap⟩, g2⟩
theorem na_nl_ok {g : na_G} {I0 : Nat → Nat → Int32} {r : List Int} {D : na_D} {s : nx_S} (hD : na_gD g I0 r D s) {y : Int64} {lo hi : Int} {z : Bool} (h1 : lo ≤ y.toInt) (h2 : y.toInt ≤ hi) (hz : z = true → y.toInt ≠ 0) : ∃ r' : List Int, na_ex r r' ∧ na_gD g I0 r' (na_nl D lo hi z).2 s ∧ na_gv r' (na_nl D lo hi z).1 (.long y) := by
  obtain ⟨g1, g2⟩ := na_new hD h1 h2
  refine ⟨r ++ [y.toInt], na_ex.ap, ⟨by show D.1 + 1 = _; rw [hD.1, List.length_append]; rfl, g1, ?_, hD.2.2.2.ex na_ex.ap⟩, g2⟩
  show na_gZ _ (bif z then D.1 :: D.2.2.1 else D.2.2.1)
  cases z with
  | false => exact hD.2.2.1.ex na_ex.ap
  | true =>
    intro t ht
    rcases List.mem_cons.mp ht with rfl | ht
    · exact ⟨_, g2, hz rfl⟩
    · exact (hD.2.2.1.ex na_ex.ap) t ht
/-! ### locals -/
noncomputable def na_get : na_L → Nat → Option na_V
  | [], _ => none
  | a :: _, 0 => a
  | _ :: l, i + 1 => na_get l i
noncomputable def na_sl : na_L → Nat → Option na_V → Option na_L
  | [], _, _ => none
  | _ :: l, 0, v => some (v :: l)
  | a :: l, i + 1, v => (na_sl l i v).map (fun l' => a :: l')
noncomputable def na_ct (L : na_L) (i : Nat) : Option na_L := match i with
  | 0 => some L
  | j + 1 => match na_get L j with
    | some (.inr (.inr (.inl _))) => na_sl L j none
    | _ => some L
noncomputable def na_s1 (L : na_L) (i : Nat) (v : na_V) : Option na_L := (na_ct L i).bind (fun L => na_sl L i (some v))
noncomputable def na_s2 (L : na_L) (i : Nat) (v : na_V) : Option na_L := (na_ct L i).bind (fun L => (na_sl L i (some v)).bind (fun L => na_sl L (i + 1) none))
theorem na_get_ok {r : List Int} : ∀ {L : na_L} {M : nk_Ls} {i : Nat} {v : na_V}, na_gL r L M → na_get L i = some v → ∃ w : Value, nk_get M i = some w ∧ na_gv r v w
  | a :: _, o :: _, 0, v, h, hg => by
    have hg : a = some v := hg
    subst hg
    match o, h.1 with
    | some w, h1 => exact ⟨w, rfl, h1⟩
  | _ :: _, _ :: _, i + 1, v, h, hg => na_get_ok (i := i) h.2 hg
  | [], _, _, _, _, hg => by cases hg
  | _ :: _, [], _, _, h, _ => h.elim
theorem na_sl_ok {r : List Int} {a : Option na_V} {o : Option Value} (ha : na_ok1 r a o) : ∀ {L : na_L} {M : nk_Ls} {i : Nat} {L' : na_L} {k : nk_Ls → Prop}, na_gL r L M → na_sl L i a = some L' → (∀ M' : nk_Ls, na_gL r L' M' → k M') → nk_ins M i o k
  | _ :: _, _ :: _, 0, L', k, h, hs, hk => by
    cases hs
    exact hk _ ⟨ha, h.2⟩
  | b :: l, c :: m, i + 1, L', k, h, hs, hk => by
    have hs : (na_sl l i a).map (fun l' => b :: l') = some L' := hs
    cases hl : na_sl l i a with
    | none => rw [hl] at hs; cases hs
    | some l' =>
      rw [hl] at hs
      cases hs
      exact na_sl_ok ha (k := fun m' => k (c :: m')) h.2 hl (fun M' hM => hk _ ⟨h.1, hM⟩)
  | [], _, _, _, _, _, hs, _ => by cases hs
  | _ :: _, [], _, _, _, h, _, _ => h.elim
theorem na_no_ok {r : List Int} : ∀ {L : na_L} {M : nk_Ls} {i : Nat} {w : Value} {k : nk_Ls → Prop}, na_gL r L M → na_get L i = none → nk_get M i = some w → (∀ M' : nk_Ls, na_gL r L M' → k M') → nk_ins M i none k
  | a :: _, _ :: _, 0, w, k, h, hg, _, hk => by
    have hg : a = none := hg
    subst hg
    exact hk _ ⟨trivial, h.2⟩
  | _ :: l, c :: m, i + 1, w, k, h, hg, hw, hk => na_no_ok (L := l) (k := fun m' => k (c :: m')) h.2 hg hw (fun M' hM => hk _ ⟨h.1, hM⟩)
  | _, [], _, _, _, _, _, hw, _ => by cases hw
  | [], _ :: _, _, _, _, h, _, _, _ => h.elim
theorem na_ct_ok {r : List Int} {L : na_L} {M : nk_Ls} {i : Nat} {L1 : na_L} {k : nk_Ls → Prop} (h : na_gL r L M) (hc : na_ct L i = some L1) (hk : ∀ M' : nk_Ls, na_gL r L1 M' → k M') : nk_cut M i k := by
  cases i with
  | zero =>
    cases hc
    exact hk _ h
  | succ j =>
    have other : (∀ s, na_get L j ≠ some (.inr (.inr (.inl s)))) → L1 = L → nk_cut M (j + 1) k := by
      intro hno he
      subst he
      show (match nk_get M j with
        | some (.long _) => nk_ins M j none k
        | some (.double _) => nk_ins M j none k
        | _ => k M)
      cases hm : nk_get M j with
      | none => exact hk _ h
      | some w =>
        have key : (∃ v, na_get L1 j = some v ∧ na_gv r v w) ∨ na_get L1 j = none := by
          cases hg : na_get L1 j with
          | none => exact Or.inr rfl
          | some v =>
            obtain ⟨w', h1, h2⟩ := na_get_ok h hg
            rw [hm] at h1
            cases h1
            exact Or.inl ⟨v, rfl, h2⟩
        cases w with
        | long y =>
          rcases key with ⟨v, h1, h2⟩ | h1
          · match v, h2 with
            | .inr (.inr (.inl s)), h2 => exact absurd h1 (hno s)
          · exact na_no_ok h h1 hm hk
        | double y =>
          rcases key with ⟨v, h1, h2⟩ | h1
          · exact h2.elim
          · exact na_no_ok h h1 hm hk
        | int x => exact hk _ h
        | float x => exact hk _ h
        | null => exact hk _ h
        | ref x => exact hk _ h
        | retAddr x => exact hk _ h
    have hc : (match na_get L j with
      | some (.inr (.inr (.inl _))) => na_sl L j none
      | _ => some L) = some L1 := hc
    cases hg : na_get L j with
    | none =>
      rw [hg] at hc
      exact other (fun s q => by rw [hg] at q; cases q) (Option.some.inj hc).symm
    | some v =>
      rw [hg] at hc
      match v, hg, hc with
      | .inr (.inr (.inl s)), hg, hc =>
        obtain ⟨w, h1, h2⟩ := na_get_ok h hg
        match w, h1, h2 with
        | .long y, h1, h2 =>
          show (match nk_get M j with
            | some (.long _) => nk_ins M j none k
            | some (.double _) => nk_ins M j none k
            | _ => k M)
          rw [h1]
          exact na_sl_ok (a := none) trivial h hc hk
      | .inl c, hg, hc => exact other (fun s q => by rw [hg] at q; cases q) (Option.some.inj hc).symm
      | .inr (.inl c), hg, hc => exact other (fun s q => by rw [hg] at q; cases q) (Option.some.inj hc).symm
      | .inr (.inr (.inr (.inl c))), hg, hc => exact other (fun s q => by rw [hg] at q; cases q) (Option.some.inj hc).symm
      | .inr (.inr (.inr (.inr c))), hg, hc => exact other (fun s q => by rw [hg] at q; cases q) (Option.some.inj hc).symm
theorem na_bi {α β : Type} {x : Option α} {f : α → Option β} {b : β} (h : x.bind f = some b) : ∃ a, x = some a ∧ f a = some b := by
  cases x with
  | none => cases h
  | some a => exact ⟨a, rfl, h⟩
theorem na_mp {α β : Type} {x : Option α} {f : α → β} {b : β} (h : x.map f = some b) : ∃ a, x = some a ∧ f a = b := by
  cases x with
  | none => cases h
  | some a => exact ⟨a, rfl, Option.some.inj h⟩
theorem na_s1_ok {r : List Int} {L : na_L} {M : nk_Ls} {i : Nat} {v : na_V} {w : Value} {L' : na_L} {k : nk_Ls → Prop} (h : na_gL r L M) (hs : na_s1 L i v = some L') (hv : na_gv r v w) (hk : ∀ M' : nk_Ls, na_gL r L' M' → k M') : nk_st1 M i w k := by
  obtain ⟨L1, h1, h2⟩ := na_bi hs
  exact na_ct_ok h h1 (fun M' hM => na_sl_ok (a := some v) (o := some w) hv hM h2 hk)
theorem na_s2_ok {r : List Int} {L : na_L} {M : nk_Ls} {i : Nat} {v : na_V} {w : Value} {L' : na_L} {k : nk_Ls → Prop} (h : na_gL r L M) (hs : na_s2 L i v = some L') (hv : na_gv r v w) (hk : ∀ M' : nk_Ls, na_gL r L' M' → k M') : nk_st2 M i w k := by
  obtain ⟨L1, h1, h2⟩ := na_bi hs
  obtain ⟨L2, h3, h4⟩ := na_bi h2
  exact na_ct_ok h h1 (fun M' hM => na_sl_ok (a := some v) (o := some w) hv hM h3 (fun M2 hM2 => na_sl_ok (a := none) trivial hM2 h4 hk))
/-! ### numbers -/
noncomputable def na_rg (lo hi : Int) : Int × Int := bif na_ble na_mn lo && na_ble hi na_mx then (lo, hi) else (na_mn, na_mx)
theorem na_bm {z : Int} (h1 : na_mn ≤ z) (h2 : z ≤ na_mx) : z.bmod (2 ^ 32) = z := by
  have h1 : -2147483648 ≤ z := h1
  have h2 : z ≤ 2147483647 := h2
  exact Int.bmod_eq_of_le (show -2 ^ 31 ≤ z by omega) (show z < 2 ^ 31 by omega)
theorem na_rg_ok {x : Int32} {z lo hi : Int} (hx : x.toInt = z.bmod (2 ^ 32)) (h1 : lo ≤ z) (h2 : z ≤ hi) : (na_rg lo hi).1 ≤ x.toInt ∧ x.toInt ≤ (na_rg lo hi).2 := by
  unfold na_rg
  cases hb : na_ble na_mn lo && na_ble hi na_mx with
  | false => exact na_i32 x
  | true =>
    obtain ⟨b1, b2⟩ := Bool.and_eq_true_iff.mp hb
    have k1 := na_ble_t b1
    have k2 := na_ble_t b2
    rw [hx, na_bm (by omega) (by omega)]
    exact ⟨h1, h2⟩
noncomputable def na_ar (o : Nat) (a c : Int × Int) : Int × Int := match o with
  | 0 => na_rg (a.1 + c.1) (a.2 + c.2)
  | 1 => na_rg (a.1 - c.2) (a.2 - c.1)
  | 2 => bif na_ble 0 a.1 && na_ble 0 c.1 then na_rg (a.1 * c.1) (a.2 * c.2) else (na_mn, na_mx)
  | _ => (na_mn, na_mx)
theorem na_ar0 {x y : Int32} {a c : Int × Int} (h1 : a.1 ≤ x.toInt ∧ x.toInt ≤ a.2) (h2 : c.1 ≤ y.toInt ∧ y.toInt ≤ c.2) : (na_ar 0 a c).1 ≤ (x + y).toInt ∧ (x + y).toInt ≤ (na_ar 0 a c).2 := na_rg_ok (Int32.toInt_add x y) (by omega) (by omega)
theorem na_ar1 {x y : Int32} {a c : Int × Int} (h1 : a.1 ≤ x.toInt ∧ x.toInt ≤ a.2) (h2 : c.1 ≤ y.toInt ∧ y.toInt ≤ c.2) : (na_ar 1 a c).1 ≤ (x - y).toInt ∧ (x - y).toInt ≤ (na_ar 1 a c).2 := na_rg_ok (Int32.toInt_sub x y) (by omega) (by omega)
theorem na_ar2 {x y : Int32} {a c : Int × Int} (h1 : a.1 ≤ x.toInt ∧ x.toInt ≤ a.2) (h2 : c.1 ≤ y.toInt ∧ y.toInt ≤ c.2) : (na_ar 2 a c).1 ≤ (x * y).toInt ∧ (x * y).toInt ≤ (na_ar 2 a c).2 := by
  show (bif na_ble 0 a.1 && na_ble 0 c.1 then na_rg (a.1 * c.1) (a.2 * c.2) else (na_mn, na_mx)).1 ≤ _ ∧ _ ≤ (bif na_ble 0 a.1 && na_ble 0 c.1 then na_rg (a.1 * c.1) (a.2 * c.2) else (na_mn, na_mx)).2
  cases hb : na_ble 0 a.1 && na_ble 0 c.1 with
  | false => exact na_i32 _
  | true =>
    obtain ⟨b1, b2⟩ := Bool.and_eq_true_iff.mp hb
    have k1 := na_ble_t b1
    have k2 := na_ble_t b2
    exact na_rg_ok (Int32.toInt_mul x y) (Int.mul_le_mul h1.1 h2.1 k2 (by omega)) (Int.mul_le_mul h1.2 h2.2 (by omega) (by omega))
/-! ### what is known of elements, what is less than what -/
noncomputable def na_ve (a b : na_V) : Bool := match a, b with
  | .inl c, .inl d => na_bq c d
  | .inr (.inl s), .inr (.inl t) => Nat.beq s t
  | _, _ => false
theorem na_ve_ok {a b : na_V} (h : na_ve a b = true) {r : List Int} {x y : Int32} (hx : na_gi r a x) (hy : na_gi r b y) : x = y := by
  refine Int32.toInt_inj.mp ?_
  match a, b, h, hx, hy with
  | .inl c, .inl d, h, hx, hy =>
    have := na_bq_t h
    have hx : x.toInt = c := hx
    have hy : y.toInt = d := hy
    omega
  | .inr (.inl s), .inr (.inl t), h, hx, hy =>
    have := Nat.eq_of_beq_eq_true h
    subst this
    have hx : r[s]? = some x.toInt := hx
    have hy : r[s]? = some y.toInt := hy
    rw [hx] at hy
    exact Option.some.inj hy
noncomputable def na_kf : na_K → Nat → na_V → Option na_V
  | [], _, _ => none
  | k :: l, q, v => bif Nat.beq k.1 q && na_ve k.2.1 v then some k.2.2 else na_kf l q v
theorem na_kf_mem : ∀ (l : na_K) (q : Nat) (v w : na_V), na_kf l q v = some w → ∃ u, (q, u, w) ∈ l ∧ na_ve u v = true
  | [], _, _, _, h => by cases h
  | k :: l, q, v, w, h => by
    unfold na_kf at h
    cases hb : Nat.beq k.1 q && na_ve k.2.1 v with
    | true =>
      rw [hb] at h
      obtain ⟨b1, b2⟩ := Bool.and_eq_true_iff.mp hb
      have e1 := Nat.eq_of_beq_eq_true b1
      have h : some k.2.2 = some w := h
      have h := Option.some.inj h
      exact ⟨k.2.1, by rw [← e1, ← h]; exact List.mem_cons_self, b2⟩
    | false =>
      rw [hb] at h
      obtain ⟨u, h1, h2⟩ := na_kf_mem l q v w h
      exact ⟨u, List.mem_cons_of_mem _ h1, h2⟩
noncomputable def na_ak (D : na_D) (k : Nat × na_V × na_V) : na_D := (D.1, D.2.1, D.2.2.1, k :: D.2.2.2.1, D.2.2.2.2)
theorem na_ak_ok {g : na_G} {I0 : Nat → Nat → Int32} {r : List Int} {D : na_D} {s : nx_S} (hD : na_gD g I0 r D s) {k : Nat × na_V × na_V} (hk : na_gk g r s k) : na_gD g I0 r (na_ak D k) s := by
  refine ⟨hD.1, hD.2.1, hD.2.2.1, fun k' hk' => ?_, hD.2.2.2.2⟩
  rcases List.mem_cons.mp hk' with rfl | hk'
  · exact hk
  · exact hD.2.2.2.1 k' hk'
noncomputable def na_isS (v : na_V) : Bool := match v with
  | .inr (.inl _) => true
  | _ => false
noncomputable def na_lt (K : na_K) (a b : na_V) (st : Bool) : na_K := match na_isS a with
  | true => (match st with
    | true => (match na_isS b with
      | true => [(3000, a, b)]
      | false => [])
    | false => (match na_kf K 3001 b with
      | some z => [(3000, a, z)]
      | none => []))
  | false => []
noncomputable def na_lT (cd : ClassFile.Cond) (K : na_K) (x y : na_V) : na_K := match cd with
  | .lt => na_lt K x y true
  | .gt => na_lt K y x true
  | .le => na_lt K x y false
  | .ge => na_lt K y x false
  | _ => []
noncomputable def na_lF (cd : ClassFile.Cond) (K : na_K) (x y : na_V) : na_K := match cd with
  | .lt => na_lt K y x false
  | .gt => na_lt K x y false
  | .le => na_lt K y x true
  | .ge => na_lt K x y true
  | _ => []
noncomputable def na_kx (D : na_D) (ks : na_K) : na_D := (D.1, D.2.1, D.2.2.1, ks ++ D.2.2.2.1, D.2.2.2.2)
theorem na_kx_ok {g : na_G} {I0 : Nat → Nat → Int32} {r : List Int} {D : na_D} {s : nx_S} (hD : na_gD g I0 r D s) {ks : na_K} (hk : ∀ k ∈ ks, na_gk g r s k) : na_gD g I0 r (na_kx D ks) s := by
  refine ⟨hD.1, hD.2.1, hD.2.2.1, fun k' hk' => ?_, hD.2.2.2.2⟩
  rcases List.mem_append.mp hk' with hk' | hk'
  · exact hk k' hk'
  · exact hD.2.2.2.1 k' hk'
theorem na_lt_ok {g : na_G} {I0 : Nat → Nat → Int32} {r : List Int} {D : na_D} {s : nx_S} (hD : na_gD g I0 r D s) {a b : na_V} {x y : Int32} (hx : na_gi r a x) (hy : na_gi r b y) {st : Bool} (h : (st = true → x.toInt < y.toInt) ∧ x.toInt ≤ y.toInt) : ∀ k ∈ na_lt D.2.2.2.1 a b st, na_gk g r s k := by
  intro k hk
  unfold na_lt at hk
  cases ha : na_isS a with
  | false => simp only [ha] at hk; cases hk
  | true =>
    simp only [ha] at hk
    cases st with
    | true =>
      simp only at hk
      cases hb : na_isS b with
      | false => simp only [hb] at hk; cases hk
      | true =>
        simp only [hb] at hk
        have := List.mem_singleton.mp hk
        subst this
        exact ⟨x, y, hx, hy, Or.inr (Or.inr (Or.inl ⟨rfl, h.1 rfl⟩))⟩
    | false =>
      simp only at hk
      cases hz : na_kf D.2.2.2.1 3001 b with
      | none => simp only [hz] at hk; cases hk
      | some z =>
        simp only [hz] at hk
        have := List.mem_singleton.mp hk
        subst this
        obtain ⟨u, hu, hve⟩ := na_kf_mem _ _ _ _ hz
        obtain ⟨i, w, g1, g2, g3⟩ := hD.2.2.2.1 _ hu
        have : i = y := na_ve_ok hve g1 hy
        subst this
        refine ⟨x, w, hx, g2, Or.inr (Or.inr (Or.inl ⟨rfl, ?_⟩))⟩
        rcases g3 with ⟨g3, -⟩ | ⟨-, g3, -⟩ | ⟨g3, -⟩ | ⟨-, g3⟩
        · have g3 : 3001 < 1000 := g3
          omega
        · have g3 : 3001 < 2000 := g3
          omega
        · have g3 : (3001 : Nat) = 3000 := g3
          omega
        · have := h.2
          omega
/-! ### instructions that touch neither cells nor calls -/
abbrev na_O : Type := Nat × na_L × List na_V × na_D
noncomputable def na_pI (nx : Nat) (L : na_L) (S : List na_V) (D : na_D) (b : Int × Int) : Option (List na_O) := some [(nx, L, (na_nw D b.1 b.2).1 :: S, (na_nw D b.1 b.2).2)]
noncomputable def na_pL (nx : Nat) (L : na_L) (S : List na_V) (D : na_D) (b : Int × Int) (z : Bool) : Option (List na_O) := some [(nx, L, (na_nl D b.1 b.2 z).1 :: S, (na_nl D b.1 b.2 z).2)]
noncomputable def na_pS (nx : Nat) (L : na_L) (S : List na_V) (D : na_D) (b : Int × Int) (x : na_V) (a d : Int × Int) : Option (List na_O) := match na_bq d.1 1 && na_bq d.2 1 && na_ble (-2147483647) a.1 && na_isS x with
  | true => some [(nx, L, (na_nw D b.1 b.2).1 :: S, na_ak (na_nw D b.1 b.2).2 (3001, (na_nw D b.1 b.2).1, x))]
  | false => na_pI nx L S D b
noncomputable def na_i1 (S : List na_V) (D : na_D) (k : Int × Int → na_V → List na_V → Option (List na_O)) : Option (List na_O) := match S with
  | v :: S => (match na_iv D.2.1 v with
    | some b => k b v S
    | none => none)
  | [] => none
noncomputable def na_i2 (S : List na_V) (D : na_D) (k : Int × Int → Int × Int → na_V → na_V → List na_V → Option (List na_O)) : Option (List na_O) := na_i1 S D (fun d y S => na_i1 S D (fun a x S => k a d x y S))
noncomputable def na_l1 (S : List na_V) (k : Nat → List na_V → Option (List na_O)) : Option (List na_O) := match S with
  | v :: S => (match na_iL v with
    | some b => k b S
    | none => none)
  | [] => none
noncomputable def na_l2 (S : List na_V) (k : Nat → Nat → List na_V → Option (List na_O)) : Option (List na_O) := na_l1 S (fun y S => na_l1 S (fun x S => k x y S))
noncomputable def na_gd (b : Bool) (k : Option (List na_O)) : Option (List na_O) := match b with
  | true => k
  | false => none
noncomputable def na_oy (y : na_Y) (pc : Nat) (L : na_L) (S : List na_V) (D : na_D) (rest : List na_O) : List na_O := match y with
  | some p => (pc, L, S, (D.1, p.1, p.2, D.2.2.2)) :: rest
  | none => rest
noncomputable def na_t1 (tg : List Nat) (k : Nat → Option (List na_O)) : Option (List na_O) := match tg with
  | [t] => k t
  | _ => none
noncomputable def na_ld (L : na_L) (j : Nat) (k : na_V → Option (List na_O)) : Option (List na_O) := match na_get L j with
  | some v => k v
  | none => none
noncomputable def na_bs (o : Option (Int × Int)) : Bool := match o with
  | some _ => true
  | none => false
noncomputable def na_bn (o : Option Nat) : Bool := match o with
  | some _ => true
  | none => false
noncomputable def na_sw (L : na_L) (S : List na_V) (D : na_D) (x : na_V) (d : Nat) : List Nat → Int → List na_O → List na_O
  | [], _, acc => acc
  | t :: ts, a, acc => na_oy (na_rf D.2.1 D.2.2.1 x a a) t L S D (na_sw L S D x d ts (a + 1) acc)
noncomputable def na_lw (L : na_L) (S : List na_V) (D : na_D) (x : na_V) : List Nat → List Int → List na_O → List na_O
  | t :: ts, a :: as, acc => na_oy (na_rf D.2.1 D.2.2.1 x a a) t L S D (na_lw L S D x ts as acc)
  | _, _, acc => acc
/-- behind a step of a counter it is known which of the two is below the other -/
noncomputable def na_if (lit : Int) (b : Int × Int) (v w : na_V) (D : na_D) : na_D := match na_ble 1 lit && na_ble (b.2 + lit) 2147483647 with
  | true => na_ak D (3000, v, w)
  | false => (match na_ble lit (-1) && na_ble (-2147483648) (b.1 + lit) with
    | true => na_ak D (3000, w, v)
    | false => D)
noncomputable def na_full : Int × Int := (na_mn, na_mx)
noncomputable def na_lful : Int × Int := (na_lm, na_lx)
noncomputable def na_z0 (E : na_E) (s : Nat) : Bool := match nk_lk E s with
  | some b => na_bq b.1 0 && na_bq b.2 0
  | none => false
noncomputable def na_pu (i : Instr) (nx : Nat) (tg : List Nat) (lit : Int32) (L : na_L) (S : List na_V) (D : na_D) : Option (List na_O) := match i with
  | .iconst _ => some [(nx, L, .inl lit.toInt :: S, D)]
  | .bipush _ => some [(nx, L, .inl lit.toInt :: S, D)]
  | .sipush _ => some [(nx, L, .inl lit.toInt :: S, D)]
  | .lconst v => na_pL nx L S D ((nk_l01 v).toInt, (nk_l01 v).toInt) false
  | .iload j => na_ld L j (fun v => na_gd (na_bs (na_iv D.2.1 v)) (some [(nx, L, v :: S, D)]))
  | .iload_n j => na_ld L j.val (fun v => na_gd (na_bs (na_iv D.2.1 v)) (some [(nx, L, v :: S, D)]))
  | .lload j => na_ld L j (fun v => na_gd (na_bn (na_iL v)) (some [(nx, L, v :: S, D)]))
  | .lload_n j => na_ld L j.val (fun v => na_gd (na_bn (na_iL v)) (some [(nx, L, v :: S, D)]))
  | .aload j => na_ld L j (fun v => na_gd (na_bn (na_iR v)) (some [(nx, L, v :: S, D)]))
  | .aload_n j => na_ld L j.val (fun v => na_gd (na_bn (na_iR v)) (some [(nx, L, v :: S, D)]))
  | .istore j => na_i1 S D (fun _ v S => (na_s1 L j v).map (fun L => [(nx, L, S, D)]))
  | .istore_n j => na_i1 S D (fun _ v S => (na_s1 L j.val v).map (fun L => [(nx, L, S, D)]))
  | .lstore j => na_l1 S (fun s S => (na_s2 L j (.inr (.inr (.inl s)))).map (fun L => [(nx, L, S, D)]))
  | .lstore_n j => na_l1 S (fun s S => (na_s2 L j.val (.inr (.inr (.inl s)))).map (fun L => [(nx, L, S, D)]))
  | .astore j => (match S with
    | .inr (.inr (.inr (.inl q))) :: S => (na_s1 L j (.inr (.inr (.inr (.inl q))))).map (fun L => [(nx, L, S, D)])
    | _ => none)
  | .astore_n j => (match S with
    | .inr (.inr (.inr (.inl q))) :: S => (na_s1 L j.val (.inr (.inr (.inr (.inl q))))).map (fun L => [(nx, L, S, D)])
    | _ => none)
  | .iinc j _ => na_ld L j (fun v => (match na_iv D.2.1 v with
    | some b => (na_s1 L j (na_nw D (na_ar 0 b (lit.toInt, lit.toInt)).1 (na_ar 0 b (lit.toInt, lit.toInt)).2).1).map (fun L => [(nx, L, S, na_if lit.toInt b v (na_nw D (na_ar 0 b (lit.toInt, lit.toInt)).1 (na_ar 0 b (lit.toInt, lit.toInt)).2).1 (na_nw D (na_ar 0 b (lit.toInt, lit.toInt)).1 (na_ar 0 b (lit.toInt, lit.toInt)).2).2)])
    | none => none))
  | .iadd => na_i2 S D (fun a d _ _ S => na_pI nx L S D (na_ar 0 a d))
  | .isub => na_i2 S D (fun a d x _ S => na_pS nx L S D (na_ar 1 a d) x a d)
  | .imul => na_i2 S D (fun a d _ _ S => na_pI nx L S D (na_ar 2 a d))
  | .idiv => na_i2 S D (fun _ _ _ y S => na_gd (na_nz D.2.1 D.2.2.1 y) (na_pI nx L S D na_full))
  | .irem => na_i2 S D (fun _ _ _ y S => na_gd (na_nz D.2.1 D.2.2.1 y) (na_pI nx L S D na_full))
  | .iand => na_i2 S D (fun _ _ _ _ S => na_pI nx L S D na_full)
  | .ior => na_i2 S D (fun _ _ _ _ S => na_pI nx L S D na_full)
  | .ishl => na_i2 S D (fun _ _ _ _ S => na_pI nx L S D na_full)
  | .ishr => na_i2 S D (fun _ _ _ _ S => na_pI nx L S D na_full)
  | .iushr => na_i2 S D (fun _ _ _ _ S => na_pI nx L S D na_full)
  | .ladd => na_l2 S (fun _ _ S => na_pL nx L S D na_lful false)
  | .lsub => na_l2 S (fun _ _ S => na_pL nx L S D na_lful false)
  | .lmul => na_l2 S (fun _ _ S => na_pL nx L S D na_lful false)
  | .ldiv => na_l2 S (fun _ y S => na_gd (na_nz D.2.1 D.2.2.1 (.inr (.inr (.inl y)))) (na_pL nx L S D na_lful false))
  | .lrem => na_l2 S (fun _ y S => na_gd (na_nz D.2.1 D.2.2.1 (.inr (.inr (.inl y)))) (na_pL nx L S D na_lful false))
  | .lneg => na_l1 S (fun _ S => na_pL nx L S D na_lful false)
  | .i2l => na_i1 S D (fun b v S => na_pL nx L S D b (na_nz D.2.1 D.2.2.1 v))
  | .l2i => na_l1 S (fun _ S => na_pI nx L S D na_full)
  | .i2b => na_i1 S D (fun _ _ S => na_pI nx L S D na_full)
  | .lcmp => na_l2 S (fun x y S => (match na_z0 D.2.1 y with
    | true => some [(nx, L, .inr (.inr (.inr (.inr x))) :: S, D)]
    | false => na_pI nx L S D (-1, 1)))
  | .dup => (match S with
    | v :: S => na_gd (na_bs (na_iv D.2.1 v) || na_bn (na_iR v)) (some [(nx, L, v :: v :: S, D)])
    | _ => none)
  | .dup2 => (match S with
    | v :: w :: S => (match na_iL v with
      | some _ => some [(nx, L, v :: v :: w :: S, D)]
      | none => na_gd (na_bs (na_iv D.2.1 v) && (na_bs (na_iv D.2.1 w) || na_bn (na_iR w))) (some [(nx, L, v :: w :: v :: w :: S, D)]))
    | v :: S => (match na_iL v with
      | some _ => some [(nx, L, v :: v :: S, D)]
      | none => none)
    | _ => none)
  | .pop => (match S with
    | v :: S => na_gd (na_bs (na_iv D.2.1 v) || na_bn (na_iR v)) (some [(nx, L, S, D)])
    | _ => none)
  | .pop2 => na_l1 S (fun _ S => some [(nx, L, S, D)])
  | .goto _ => na_t1 tg (fun t => some [(t, L, S, D)])
  | .ifCond cd _ => na_t1 tg (fun t => na_i1 S D (fun _ x S => some (na_oy (na_cd cd D.2.1 D.2.2.1 x (.inl 0)) t L S D (na_oy (na_cn cd D.2.1 D.2.2.1 x (.inl 0)) nx L S D []))))
  | .if_icmp cd _ => na_t1 tg (fun t => na_i2 S D (fun _ _ x y S => some (na_oy (na_cd cd D.2.1 D.2.2.1 x y) t L S (na_kx D (na_lT cd D.2.2.2.1 x y)) (na_oy (na_cn cd D.2.1 D.2.2.1 x y) nx L S (na_kx D (na_lF cd D.2.2.2.1 x y)) []))))
  | .tableswitch _ lo hi _ => na_i1 S D (fun _ x S => (match tg with
    | d :: ts => some (na_sw L S D x d ts lo (na_oy (na_rf D.2.1 D.2.2.1 x na_mn (lo - 1)) d L S D (na_oy (na_rf D.2.1 D.2.2.1 x (hi + 1) na_mx) d L S D [])))
    | [] => none))
  | .lookupswitch _ ps => na_i1 S D (fun _ x S => (match tg with
    | d :: ts => some (na_lw L S D x ts (ps.toList.map (fun p => p.1)) [(d, L, S, D)])
    | [] => none))
  | _ => none
