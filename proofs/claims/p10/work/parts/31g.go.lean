/-! ===== the checker: calls, returns ===== -/
abbrev na_Fr : Type := Nat × Nat × na_L × List na_V
abbrev na_St : Type := List na_Fr × Nat × na_O
abbrev nc_Fr : Type := nk_T × (Nat → Option nk_I) × Nat × nk_Ls × List Value
noncomputable def na_ev (m : na_Md) : nk_Ev := fun as h Q => nk_if (Nat.ble (nk_wd as) m.2.2.1) (nk_ev m.1 m.2.1 m.2.2.1 as h Q)
noncomputable def na_Rok (cf : na_Cf) : Prop := ∀ (i : Nat) (m : na_Md), nk_lk cf.2.1 i = some m → ∀ (key : Nat) (R : na_Rs), nk_lk m.2.2.2 key = some R → ∃ C, nk_lk m.1.2.1 key = some C ∧ C.2.2.1 = 0 ∧ C.2.2.2.1 = 0 ∧ (match R with
  | .inl j => ∃ mj, nk_lk cf.2.1 j = some mj ∧ C.2.2.2.2 = na_ev mj
  | .inr (.inl cs) => ∀ c ∈ cs, na_Ct cf.1 C.2.2.2.2 c
  | .inr (.inr q) => na_Mk cf.1 C.2.2.2.2 q)
noncomputable def na_Q (Q : nk_Q) : List nc_Fr → nk_Q
  | [] => Q
  | f :: fr => fun v h => nk_ret v f.2.2.2.2 (fun T => nk_wp f.1 f.2.1 (na_Q Q fr) f.2.2.1 f.2.2.2.1 T h 0 0)
noncomputable def na_gF (cf : na_Cf) (r : List Int) : List na_Fr → List nc_Fr → Prop
  | [], [] => True
  | f :: F, h :: H => (∃ m, nk_lk cf.2.1 f.1 = some m ∧ m.1 = h.1 ∧ m.2.1 = h.2.1) ∧ f.2.1 = h.2.2.1 ∧ na_gL r f.2.2.1 h.2.2.2.1 ∧ na_gS r f.2.2.2 h.2.2.2.2 ∧ na_gF cf r F H
  | _, _ => False
theorem na_gF.ex {cf : na_Cf} {r r' : List Int} (h : na_ex r r') : ∀ {F : List na_Fr} {H : List nc_Fr}, na_gF cf r F H → na_gF cf r' F H
  | [], [], _ => trivial
  | _ :: _, _ :: _, hv => ⟨hv.1, hv.2.1, hv.2.2.1.ex h, hv.2.2.2.1.ex h, na_gF.ex h hv.2.2.2.2⟩
  | [], _ :: _, hv => hv.elim
  | _ :: _, [], hv => hv.elim
/-- from this state on all goes well -/
noncomputable def na_Sm (cf : na_Cf) (I0 : Nat → Nat → Int32) (r0 : List Int) (Q : nk_Q) (st : na_St) : Prop := ∀ (r : List Int) (fr : List nc_Fr) (M : nk_Ls) (T : List Value) (s : nx_S) (m : na_Md), na_ex r0 r → na_gF cf r st.1 fr → na_gD cf.1 I0 r st.2.2.2.2.2 s → na_gL r st.2.2.2.1 M → na_gS r st.2.2.2.2.1 T → nk_lk cf.2.1 st.2.1 = some m → nk_wp m.1 m.2.1 (na_Q Q fr) st.2.2.1 M T (nx_enc s 0 cf.1.1) 0 0
noncomputable def na_pn : Nat → List na_V → List na_V → Option (List na_V × List na_V)
  | 0, acc, S => some (acc, S)
  | _ + 1, _, [] => none
  | n + 1, acc, v :: S => na_pn n (v :: acc) S
theorem na_pn_ok {r : List Int} : ∀ (n : Nat) (acc S : List na_V) (p : List na_V × List na_V) (A T : List Value), na_pn n acc S = some p → na_gS r acc A → na_gS r S T → ∃ (as T' : List Value), na_gS r p.1 as ∧ na_gS r p.2 T' ∧ ∀ k : List Value → List Value → Prop, k as T' → nk_popn n A T k
  | 0, acc, S, p, A, T, h, hA, hS => by
    cases h
    exact ⟨A, T, hA, hS, fun k hk => hk⟩
  | n + 1, acc, v :: S, p, A, T, h, hA, hS => by
    obtain ⟨w, T1, rfl, h1, h2⟩ := na_gS_c hS
    obtain ⟨as, T', h3, h4, h5⟩ := na_pn_ok n (v :: acc) S p (w :: A) T1 h ⟨h1, hA⟩ h2
    exact ⟨as, T', h3, h4, fun k hk => h5 k hk⟩
  | _ + 1, _, [], _, _, _, h, _, _ => by cases h
noncomputable def na_cg : List na_V → Nat
  | [] => 0
  | v :: S => (match na_iL v with
    | some _ => 2
    | none => 1) + na_cg S
theorem na_cg_1 {r : List Int} {v : na_V} {w : Value} (h : na_gv r v w) : w.category = (match na_iL v with
    | some _ => 2
    | none => 1) := by
  match w, h with
  | .int x, h =>
    match v, h with
    | .inl c, _ => rfl
    | .inr (.inl s), _ => rfl
    | .inr (.inr (.inr (.inr s))), _ => rfl
  | .long y, h =>
    match v, h with
    | .inr (.inr (.inl s)), _ => rfl
  | .ref q, h =>
    match v, h with
    | .inr (.inr (.inr (.inl s))), _ => rfl
theorem na_cg_c {r : List Int} : ∀ {S : List na_V} {T : List Value}, na_gS r S T → nk_cat T = na_cg S
  | [], [], _ => rfl
  | v :: S, w :: T, h => by
    show w.category + nk_cat T = _ + na_cg S
    rw [na_cg_c h.2, na_cg_1 h.1]
  | [], _ :: _, h => h.elim
  | _ :: _, [], h => h.elim
theorem na_cg_w {r : List Int} : ∀ {S : List na_V} {T : List Value}, na_gS r S T → nk_wd T = na_cg S
  | [], [], _ => rfl
  | v :: S, w :: T, h => by
    show w.category + nk_wd T = _ + na_cg S
    rw [na_cg_w h.2, na_cg_1 h.1]
  | [], _ :: _, h => h.elim
  | _ :: _, [], h => h.elim
noncomputable def na_en : List na_V → Nat → na_L
  | [], n => List.replicate n none
  | v :: as, n => (match na_iL v with
    | some _ => some v :: none :: na_en as (n - 2)
    | none => some v :: na_en as (n - 1))
theorem na_rep {r : List Int} : ∀ n : Nat, na_gL r (List.replicate n none) (List.replicate n none)
  | 0 => trivial
  | n + 1 => by
    rw [List.replicate_succ, List.replicate_succ]
    exact ⟨trivial, na_rep n⟩
theorem na_en_ok {r : List Int} : ∀ (S : List na_V) (T : List Value) (n : Nat), na_gS r S T → na_gL r (na_en S n) (nk_ent T n)
  | [], [], n, _ => na_rep n
  | v :: S, w :: T, n, h => by
    have h1 := h.1
    have i1 := na_en_ok S T (n - 1) h.2
    have i2 := na_en_ok S T (n - 2) h.2
    match w, h1 with
    | .int x, h1 =>
      match v, h1 with
      | .inl c, h1 => exact ⟨h1, i1⟩
      | .inr (.inl s), h1 => exact ⟨h1, i1⟩
      | .inr (.inr (.inr (.inr s))), h1 => exact ⟨h1, i1⟩
    | .long y, h1 =>
      match v, h1 with
      | .inr (.inr (.inl s)), h1 => exact ⟨h1, trivial, i2⟩
    | .ref q, h1 =>
      match v, h1 with
      | .inr (.inr (.inr (.inl s))), h1 => exact ⟨h1, i1⟩
  | [], _ :: _, _, h => h.elim
  | _ :: _, [], _, h => h.elim
noncomputable def na_gov (r : List Int) (ov : Option na_V) (v : Option Value) : Prop := match ov with
  | none => v = none
  | some a => ∃ w, v = some w ∧ na_gv r a w
noncomputable def na_po (ov : Option na_V) (S : List na_V) : List na_V := match ov with
  | none => S
  | some a => a :: S
theorem na_po_ok {r : List Int} {ov : Option na_V} {v : Option Value} {S : List na_V} {T : List Value} {k : List Value → Prop} (h : na_gov r ov v) (hS : na_gS r S T) (hk : ∀ T' : List Value, na_gS r (na_po ov S) T' → k T') : nk_ret v T k := by
  match ov, h with
  | none, h =>
    have h : v = none := h
    subst h
    exact hk T hS
  | some a, h =>
    obtain ⟨w, rfl, hw⟩ := h
    exact hk (w :: T) ⟨hw, hS⟩
/-! ### contracts at a call -/
noncomputable def na_pe1 (D : na_D) (e : Nat × Int × Int) : Bool := match na_get D.2.2.2.2.1 e.1 with
  | some v => (match na_iv D.2.1 v with
    | some b => na_ble e.2.1 b.1 && na_ble b.2 e.2.2
    | none => false)
  | none => false
noncomputable def na_il (D : na_D) (v f : na_V) : Bool := D.2.2.2.1.any (fun k => Nat.beq k.1 3000 && na_ve k.2.1 v && na_ve k.2.2 f) || (match na_iv D.2.1 v, na_iv D.2.1 f with
  | some a, some b => na_ble (a.2 + 1) b.1
  | _, _ => false)
noncomputable def na_pl1 (as : List na_V) (D : na_D) (e : Nat × Nat) : Bool := match nk_lg as e.1, na_get D.2.2.2.2.1 e.2 with
  | some v, some f => na_bs (na_iv D.2.1 v) && na_il D v f
  | _, _ => false
theorem na_il_ok {g : na_G} {I0 : Nat → Nat → Int32} {r : List Int} {D : na_D} {s : nx_S} (hD : na_gD g I0 r D s) {v f : na_V} {x y : Int32} (hx : na_gi r v x) (hy : na_gi r f y) (h : na_il D v f = true) : x.toInt < y.toInt := by
  unfold na_il at h
  rcases Bool.or_eq_true_iff.mp h with h | h
  · obtain ⟨k, hk, hc⟩ := List.any_eq_true.mp h
    obtain ⟨hc, c3⟩ := na_two hc
    obtain ⟨c1, c2⟩ := na_two hc
    have c1 := Nat.eq_of_beq_eq_true c1
    obtain ⟨i, w, g1, g2, g3⟩ := hD.2.2.2.1 k hk
    have e1 : i = x := na_ve_ok c2 g1 hx
    have e2 : w = y := na_ve_ok c3 g2 hy
    subst e1
    subst e2
    rcases g3 with ⟨g3, -⟩ | ⟨-, g3, -⟩ | ⟨-, g3⟩ | ⟨g3, -⟩
    · omega
    · omega
    · exact g3
    · omega
  · split at h
    · rename_i a b ha hb
      have := na_ble_t h
      have h1 := na_iv_ok hD.2.1 hx ha
      have h2 := na_iv_ok hD.2.1 hy hb
      omega
    · cases h
theorem nk_lg_gS {r : List Int} : ∀ {S : List na_V} {T : List Value} {i : Nat} {v : na_V}, na_gS r S T → nk_lg S i = some v → ∃ w, T[i]? = some w ∧ na_gv r v w
  | v0 :: S, w0 :: T, 0, v, h, hv => by
    cases hv
    exact ⟨w0, rfl, h.1⟩
  | v0 :: S, w0 :: T, i + 1, v, h, hv => by
    obtain ⟨w, h1, h2⟩ := nk_lg_gS (i := i) h.2 hv
    exact ⟨w, by rw [List.getElem?_cons_succ]; exact h1, h2⟩
  | [], _, _, _, _, hv => by cases hv
  | _ :: _, [], _, _, h, _ => h.elim
noncomputable def na_c1 (qM : Nat) (c : na_C) (D : na_D) : na_D := ((na_fm c.2.2.2.1 0 D.2.2.2.2.1 D.1 D.2.1).2.1, (na_fm c.2.2.2.1 0 D.2.2.2.2.1 D.1 D.2.1).2.2, D.2.2.1, D.2.2.2.1.filter (fun k => !(c.2.2.2.2.1.any (Nat.beq k.1)) && (Nat.ble 2000 k.1 || Nat.ble k.1 999 || !(c.2.2.2.2.1.any (Nat.beq qM)))), (na_fm c.2.2.2.1 0 D.2.2.2.2.1 D.1 D.2.1).1, c.2.2.2.2.1 ++ D.2.2.2.2.2.1, (match c.2.2.2.2.2.2.2.1 with
  | 0 => 0
  | 1 => c.2.2.2.2.2.2.2.2 + 1
  | _ => bif Nat.beq c.2.2.1 0 then 0 else D.2.2.2.2.2.2 + c.2.2.2.2.2.2.2.2))
noncomputable def na_cc (cf : na_Cf) (c : na_C) (as : List na_V) (D : na_D) : Option (Option na_V × na_D) := match na_ms D.2.1 D.2.2.1 c.1 as && c.2.1.1.all (na_pe1 D) && c.2.1.2.all (na_pl1 as D) && (Nat.beq c.2.2.1 0 || (Nat.ble 1 D.2.2.2.2.2.2 && Nat.ble D.2.2.2.2.2.2 c.2.2.1)) && c.2.2.2.2.1.all (fun q => Nat.ble q 999) with
  | true => (match c.2.2.2.2.2.1 with
    | 0 => some (none, na_c1 cf.1.2.2.2.2.1 c D)
    | 1 => some (some (na_nw (na_c1 cf.1.2.2.2.2.1 c D) c.2.2.2.2.2.2.1.1 c.2.2.2.2.2.2.1.2).1, (na_nw (na_c1 cf.1.2.2.2.2.1 c D) c.2.2.2.2.2.2.1.1 c.2.2.2.2.2.2.1.2).2)
    | _ => some (some (na_nl (na_c1 cf.1.2.2.2.2.1 c D) na_lm na_lx false).1, (na_nl (na_c1 cf.1.2.2.2.2.1 c D) na_lm na_lx false).2))
  | false => none
theorem na_cc_ok {cf : na_Cf} {I0 : Nat → Nat → Int32} {r : List Int} {D : na_D} {s : nx_S} {c : na_C} {as : List na_V} {A : List Value} {o : Option na_V × na_D} {ev : nk_Ev} {Q : nk_Q} (h : na_cc cf c as D = some o) (hc : na_Ct cf.1 ev c) (hD : na_gD cf.1 I0 r D s) (hA : na_gS r as A) (hk : ∀ (v : Option Value) (r' : List Int) (s' : nx_S), na_ex r r' → na_gD cf.1 I0 r' o.2 s' → na_gov r' o.1 v → Q v (nx_enc s' 0 cf.1.1)) : ev A (nx_enc s 0 cf.1.1) Q := by
  unfold na_cc at h
  split at h
  · rename_i hb
    obtain ⟨hb, b4⟩ := na_two hb
    obtain ⟨hb, b3⟩ := na_two hb
    obtain ⟨hb, b5⟩ := na_two hb
    obtain ⟨b1, b2⟩ := na_two hb
    have hlev : c.2.2.1 ≠ 0 → 1 ≤ D.2.2.2.2.2.2 ∧ D.2.2.2.2.2.2 ≤ c.2.2.1 := by
      intro hne
      rcases Bool.or_eq_true_iff.mp b3 with b3 | b3
      · exact absurd (Nat.eq_of_beq_eq_true b3) hne
      · obtain ⟨z1, z2⟩ := na_two b3
        exact ⟨Nat.le_of_ble_eq_true z1, Nat.le_of_ble_eq_true z2⟩
    refine hc (D.2.2.2.2.2.2 - 1) s A Q ⟨hD.2.2.2.2.2.2.1, na_ms_ok hD.2.1 hD.2.2.1 _ _ _ hA b1, fun i k b hi hl => ?_, fun q => ?_, fun e he k hk => ?_⟩ (fun v s' hp => ?_)
    · have hm := nk_lk_mem _ _ _ hl
      have h1 := List.all_eq_true.mp b2 _ hm
      unfold na_pe1 at h1
      cases hg : na_get D.2.2.2.2.1 i with
      | none => simp only [hg] at h1; cases h1
      | some v =>
        simp only [hg] at h1
        cases hv : na_iv D.2.1 v with
        | none => simp only [hv] at h1; cases h1
        | some a =>
          simp only [hv] at h1
          obtain ⟨k1, k2⟩ := na_two h1
          have k1 := na_ble_t k1
          have k2 := na_ble_t k2
          obtain ⟨w, hw, hgv⟩ := na_get_ok hD.2.2.2.2.1 hg
          rw [nx_fv_at hi] at hw
          cases hw
          have := na_iv_ok hD.2.1 (show na_gi r v _ from hgv) hv
          exact ⟨by omega, by omega⟩
    · have := hlev q
      exact ⟨by omega, hD.2.2.2.2.2.2.2 _ (by omega)⟩
    · have h1 := List.all_eq_true.mp b5 e he
      unfold na_pl1 at h1
      split at h1
      · rename_i v f hv hf
        obtain ⟨z1, z2⟩ := na_two h1
        obtain ⟨bb, hbb⟩ := na_bs_ok z1
        obtain ⟨w, hw, hgw⟩ := nk_lg_gS hA hv
        obtain ⟨x, rfl, hx⟩ := na_gv_i hgw hbb
        obtain ⟨w2, hw2, hgf⟩ := na_get_ok hD.2.2.2.2.1 hf
        rw [nx_fv_at hk] at hw2
        cases hw2
        exact ⟨x, hw, na_il_ok hD hx hgf z2⟩
      · cases h1
    · obtain ⟨p1, p2, p3, p4, p5⟩ := hp
      obtain ⟨r1, k1, k2, k3, k4⟩ := na_fm_ok c.2.2.2.1 0 D.2.2.2.2.1 D.1 D.2.1 r (nx_fv cf.1 s) (nx_fv cf.1 s') hD.1 hD.2.1 hD.2.2.2.2.1 (na_fr_mk _ 0 (fun j k hj => by rw [Nat.zero_add]; exact p2 j k hj))
      have hD1 : na_gD cf.1 I0 r1 (na_c1 cf.1.2.2.2.2.1 c D) s' := by
        refine ⟨k2, k3, hD.2.2.1.ex k1, fun k hk => ?_, k4, fun q hq => ?_, p1, fun l' hl' => ?_⟩
        · obtain ⟨hk1, hk2⟩ := List.mem_filter.mp hk
          obtain ⟨hk2, hk5⟩ := na_two hk2
          have hk3 : k.1 ∉ c.2.2.2.2.1 := fun e => by
            have : c.2.2.2.2.1.any (Nat.beq k.1) = true := List.any_eq_true.mpr ⟨_, e, Nat.beq_refl _⟩
            rw [this] at hk2
            cases hk2
          obtain ⟨i, y, g1, g2, g3⟩ := hD.2.2.2.1 k hk1
          refine ⟨i, y, g1.ex k1, g2.ex k1, ?_⟩
          rw [p3 _ hk3]
          rcases g3 with g3 | ⟨g4, g5, g6⟩ | g3 | g3
          · exact Or.inl g3
          · refine Or.inr (Or.inl ⟨g4, g5, ?_⟩)
            have hm : cf.1.2.2.2.2.1 ∉ c.2.2.2.2.1 := fun e => by
              have h9 : c.2.2.2.2.1.any (Nat.beq cf.1.2.2.2.2.1) = true := List.any_eq_true.mpr ⟨_, e, Nat.beq_refl _⟩
              rcases Bool.or_eq_true_iff.mp hk5 with h | h
              · rcases Bool.or_eq_true_iff.mp h with h | h
                · have := Nat.le_of_ble_eq_true h
                  omega
                · have := Nat.le_of_ble_eq_true h
                  omega
              · rw [h9] at h
                cases h
            rw [p3 _ hm]
            exact g6
          · exact Or.inr (Or.inr (Or.inl g3))
          · exact Or.inr (Or.inr (Or.inr g3))
        · rw [p3 q (fun e => hq (List.mem_append.mpr (Or.inl e)))]
          exact hD.2.2.2.2.2.1 q (fun e => hq (List.mem_append.mpr (Or.inr e)))
        · obtain ⟨c1, c2, c3, c4, c5, c6, c7, c8, c9⟩ := c
          match c8, hl', p5 with
          | 0, hl', _ => cases hl'
          | 1, hl', p5 =>
            have hl' : c9 + 1 = l' + 1 := hl'
            have e : l' = c9 := by omega
            rw [e]
            exact p5
          | n + 2, hl', p5 =>
            have hl' : (bif Nat.beq c3 0 then 0 else D.2.2.2.2.2.2 + c9) = l' + 1 := hl'
            cases hz : Nat.beq c3 0 with
            | true => rw [hz] at hl'; cases hl'
            | false =>
              rw [hz] at hl'
              have hne : c3 ≠ 0 := fun e => by
                rw [e] at hz
                cases hz
              have h1 := (hlev hne).1
              have hl' : D.2.2.2.2.2.2 + c9 = l' + 1 := hl'
              have e : l' = D.2.2.2.2.2.2 - 1 + c9 := by omega
              rw [e]
              exact p5
      obtain ⟨c1, c2, c3, c4, c5, c6, c7, c8⟩ := c
      match c6, h, p4 with
      | 0, h, p4 =>
        cases h
        exact hk v r1 s' k1 hD1 p4
      | 1, h, p4 =>
        cases h
        obtain ⟨x, rfl, x1, x2⟩ := p4
        obtain ⟨r2, j1, j2, j3⟩ := na_nw_ok hD1 x1 x2
        exact hk _ r2 s' (k1.tr j1) j2 ⟨_, rfl, j3⟩
      | n + 2, h, p4 =>
        cases h
        obtain ⟨y, rfl⟩ := p4
        obtain ⟨r2, j1, j2, j3⟩ := na_nl_ok hD1 (na_i64 y).1 (na_i64 y).2 (z := false) (fun q => by cases q)
        exact hk _ r2 s' (k1.tr j1) j2 ⟨_, rfl, j3⟩
  · cases h
/-! ### what is told of a making -/
noncomputable def na_kn (D : na_D) (tag : Nat) (m : na_V) (x : Int) : Option na_D := match na_kf D.2.2.2.1 tag m with
  | some v => (na_rf D.2.1 D.2.2.1 v x x).map (fun p => (D.1, p.1, p.2, D.2.2.2))
  | none => some (na_ak D (tag, m, .inl x))
noncomputable def na_mA (D : na_D) (k : na_V) : List (na_V × na_D) := ((na_nw D 0 15).1, na_ak (na_nw D 0 15).2 (1002, k, (na_nw D 0 15).1)) :: (match (na_kn (na_ak (na_nw D 16 99).2 (1002, k, (na_nw D 16 99).1)) 1000 k 6).bind (fun D => na_kn D 1006 k 0) with
  | some D' => [((na_nw D 16 99).1, D')]
  | none => [])
noncomputable def na_mB (D : na_D) (k : na_V) (j : Nat) : List (na_V × na_D) := match na_kf D.2.2.2.1 (1000 + j) k with
  | some v => [(v, D)]
  | none => (match Nat.beq j 2 with
    | true => na_mA D k
    | false => [((na_nw D (nx_co j).1 (nx_co j).2).1, na_ak (na_nw D (nx_co j).1 (nx_co j).2).2 (1000 + j, k, (na_nw D (nx_co j).1 (nx_co j).2).1))])
noncomputable def na_mC (D : na_D) (k : na_V) (b : Int × Int) : List (na_V × na_D) := match na_bq b.1 b.2 with
  | true => na_mB D k b.1.toNat
  | false => [((na_nw D 0 99).1, (na_nw D 0 99).2)]
noncomputable def na_mr (q : Nat) (as : List na_V) (D : na_D) : Option (List (na_V × na_D)) := match as with
  | [u, m, j] => (na_iR u).bind (fun k => (na_iv D.2.1 m).bind (fun a => (na_iv D.2.1 j).bind (fun b => match Nat.beq k q && (na_ble 0 a.1 && na_ble a.2 11 && (na_ble 0 b.1 && na_ble b.2 6)) with
    | true => some (na_mC D (na_nm a m) b)
    | false => none)))
  | _ => none
theorem na_gk_m {g : na_G} {r : List Int} {s : nx_S} {k v : na_V} {mc : Int32} (j : Nat) (hj : j < 1000) (hm : na_gi r k mc) (hv : na_gi r v (s.1 g.2.2.2.2.1 (7 * mc.toNatClampNeg + j))) : na_gk g r s (1000 + j, k, v) := by
  refine ⟨mc, _, hm, hv, Or.inr (Or.inl ⟨Nat.le_add_right _ _, (show 1000 + j < 2000 by omega), ?_⟩)⟩
  show s.1 g.2.2.2.2.1 (7 * mc.toNatClampNeg + (1000 + j - 1000)) = _
  rw [Nat.add_sub_cancel_left]
theorem na_kn_ok {g : na_G} {I0 : Nat → Nat → Int32} {r : List Int} {D : na_D} {s : nx_S} (hD : na_gD g I0 r D s) {j : Nat} (hj : j < 1000) {m : na_V} {mc : Int32} (hm : na_gi r m mc) {x : Int} (hx : (s.1 g.2.2.2.2.1 (7 * mc.toNatClampNeg + j)).toInt = x) : ∃ D', na_kn D (1000 + j) m x = some D' ∧ na_gD g I0 r D' s := by
  unfold na_kn
  cases hk : na_kf D.2.2.2.1 (1000 + j) m with
  | none => exact ⟨_, rfl, na_ak_ok hD (na_gk_m j hj hm hx)⟩
  | some v =>
    obtain ⟨u, hu, hve⟩ := na_kf_mem _ _ _ _ hk
    obtain ⟨i, y, g1, g2, g3⟩ := hD.2.2.2.1 _ hu
    have : i = mc := na_ve_ok hve g1 hm
    subst this
    have hy : s.1 g.2.2.2.2.1 (7 * i.toNatClampNeg + j) = y := by
      rcases g3 with ⟨g3, -⟩ | ⟨-, -, g3⟩ | ⟨g3, -⟩ | ⟨g3, -⟩
      · have g3 : 1000 + j < 1000 := g3
        omega
      rotate_left
      · have g3 : 1000 + j = 3000 := g3
        omega
      · have g3 : 1000 + j = 3001 := g3
        omega
      · have g3 : s.1 g.2.2.2.2.1 (7 * i.toNatClampNeg + (1000 + j - 1000)) = y := g3
        rw [Nat.add_sub_cancel_left] at g3
        exact g3
    rw [hy] at hx
    have := na_rf_ok hD.2.1 hD.2.2.1 g2 (lo := x) (hi := x) (by omega) (by omega)
    cases hr : na_rf D.2.1 D.2.2.1 v x x with
    | none => rw [hr] at this; exact this.elim
    | some p =>
      rw [hr] at this
      exact ⟨(D.1, p.1, p.2, D.2.2.2), (by simp only [hr]; rfl), hD.1, this.1, this.2, hD.2.2.2⟩
section NaMr
variable {cf : na_Cf} {I0 : Nat → Nat → Int32} {r : List Int} {D : na_D} {s : nx_S} {k : na_V} {mc jc : Int32} {P : Value → Prop}
theorem na_mA_ok (hD : na_gD cf.1 I0 r D s) (hm : na_gi r k mc) (hlt : mc.toNatClampNeg < 12) (hk : ∀ p ∈ na_mA D k, ∀ (v : Value) (r' : List Int), na_ex r r' → na_gD cf.1 I0 r' p.2 s → na_gv r' p.1 v → P v) : P (.int (s.1 cf.1.2.2.2.2.1 (7 * mc.toNatClampNeg + 2))) := by
  have hPM := hD.2.2.2.2.2.2.1.2.2.1 mc.toNatClampNeg hlt
  have hcol := hPM.1 2 (by omega)
  have e1 : (nx_co 2).1 = 0 := rfl
  have e2 : (nx_co 2).2 = 99 := rfl
  rw [e1, e2] at hcol
  have small : (s.1 cf.1.2.2.2.2.1 (7 * mc.toNatClampNeg + 2)).toInt ≤ 15 → P (.int (s.1 cf.1.2.2.2.2.1 (7 * mc.toNatClampNeg + 2))) := by
    intro h15
    obtain ⟨r', k1, k2, k3⟩ := na_nw_ok hD (lo := 0) (hi := 15) hcol.1 h15
    exact hk _ List.mem_cons_self _ r' k1 (na_ak_ok k2 (na_gk_m 2 (by decide) (hm.ex k1) k3)) k3
  rcases hPM.2 with h15 | ⟨h6, h0⟩
  · exact small h15
  · by_cases hl : 15 < (s.1 cf.1.2.2.2.2.1 (7 * mc.toNatClampNeg + 2)).toInt
    · obtain ⟨r', k1, k2, k3⟩ := na_nw_ok hD (lo := 16) (hi := 99) (by omega) hcol.2
      have k4 := na_ak_ok k2 (k := (1002, k, (na_nw D 16 99).1)) (na_gk_m 2 (by decide) (hm.ex k1) k3)
      obtain ⟨D1, e1, k5⟩ := na_kn_ok (j := 0) k4 (by decide) (hm.ex k1) h6
      obtain ⟨D2, e2, k6⟩ := na_kn_ok (j := 6) k5 (by decide) (hm.ex k1) h0
      have e3 : (na_kn (na_ak (na_nw D 16 99).2 (1002, k, (na_nw D 16 99).1)) 1000 k 6).bind (fun D => na_kn D 1006 k 0) = some D2 := by
        rw [show na_kn (na_ak (na_nw D 16 99).2 (1002, k, (na_nw D 16 99).1)) 1000 k 6 = some D1 from e1]
        exact e2
      refine hk ((na_nw D 16 99).1, D2) ?_ _ r' k1 k6 k3
      unfold na_mA
      rw [e3]
      exact List.mem_cons_of_mem _ List.mem_cons_self
    · exact small (by omega)
theorem na_mB_ok (hD : na_gD cf.1 I0 r D s) (hm : na_gi r k mc) (hlt : mc.toNatClampNeg < 12) {j : Nat} (hj : j < 7) (hk : ∀ p ∈ na_mB D k j, ∀ (v : Value) (r' : List Int), na_ex r r' → na_gD cf.1 I0 r' p.2 s → na_gv r' p.1 v → P v) : P (.int (s.1 cf.1.2.2.2.2.1 (7 * mc.toNatClampNeg + j))) := by
  have hcol := (hD.2.2.2.2.2.2.1.2.2.1 mc.toNatClampNeg hlt).1 j hj
  unfold na_mB at hk
  cases hkf : na_kf D.2.2.2.1 (1000 + j) k with
  | some v =>
    simp only [hkf] at hk
    obtain ⟨w, hw, hve⟩ := na_kf_mem _ _ _ _ hkf
    obtain ⟨i, y, g1, g2, g3⟩ := hD.2.2.2.1 _ hw
    have : i = mc := na_ve_ok hve g1 hm
    subst this
    rcases g3 with ⟨g3, -⟩ | ⟨-, -, g3⟩ | ⟨g3, -⟩ | ⟨g3, -⟩
    · have g3 : 1000 + j < 1000 := g3
      omega
    rotate_left
    · have g3 : 1000 + j = 3000 := g3
      omega
    · have g3 : 1000 + j = 3001 := g3
      omega
    · have g3 : s.1 cf.1.2.2.2.2.1 (7 * i.toNatClampNeg + (1000 + j - 1000)) = y := g3
      rw [Nat.add_sub_cancel_left] at g3
      exact hk _ (List.mem_singleton.mpr rfl) _ r na_ex.rf hD (by rw [g3]; exact g2)
  | none =>
    simp only [hkf] at hk
    cases hb : Nat.beq j 2 with
    | true =>
      simp only [hb] at hk
      have := Nat.eq_of_beq_eq_true hb
      subst this
      exact na_mA_ok hD hm hlt hk
    | false =>
      simp only [hb] at hk
      obtain ⟨r', k1, k2, k3⟩ := na_nw_ok hD hcol.1 hcol.2
      exact hk _ (List.mem_singleton.mpr rfl) _ r' k1 (na_ak_ok k2 (na_gk_m j (by omega) (hm.ex k1) k3)) k3
theorem nx_co_le (j : Nat) : (nx_co j).1 = 0 ∧ (nx_co j).2 ≤ 99 := by
  unfold nx_co
  split <;> exact ⟨rfl, by decide⟩
theorem na_mC_ok (hD : na_gD cf.1 I0 r D s) (hm : na_gi r k mc) (hlt : mc.toNatClampNeg < 12) (hj : jc.toNatClampNeg < 7) {b : Int × Int} (h1 : b.1 ≤ jc.toInt) (h2 : jc.toInt ≤ b.2) (hk : ∀ p ∈ na_mC D k b, ∀ (v : Value) (r' : List Int), na_ex r r' → na_gD cf.1 I0 r' p.2 s → na_gv r' p.1 v → P v) : P (.int (s.1 cf.1.2.2.2.2.1 (7 * mc.toNatClampNeg + jc.toNatClampNeg))) := by
  unfold na_mC at hk
  have ej : jc.toInt.toNat = jc.toNatClampNeg := Int32.toNat_toInt jc
  cases hb : na_bq b.1 b.2 with
  | true =>
    simp only [hb] at hk
    have := na_bq_t hb
    have e : b.1.toNat = jc.toNatClampNeg := by omega
    rw [e] at hk
    exact na_mB_ok hD hm hlt hj hk
  | false =>
    simp only [hb] at hk
    have hcol := (hD.2.2.2.2.2.2.1.2.2.1 mc.toNatClampNeg hlt).1 jc.toNatClampNeg hj
    have hc := nx_co_le jc.toNatClampNeg
    obtain ⟨r', k1, k2, k3⟩ := na_nw_ok hD (x := s.1 cf.1.2.2.2.2.1 (7 * mc.toNatClampNeg + jc.toNatClampNeg)) (lo := 0) (hi := 99) (by omega) (by omega)
    exact hk _ (List.mem_singleton.mpr rfl) _ r' k1 k2 k3
end NaMr
theorem na_mr_ok {cf : na_Cf} {I0 : Nat → Nat → Int32} {r : List Int} {D : na_D} {s : nx_S} {q : Nat} {as : List na_V} {A : List Value} {o : List (na_V × na_D)} {ev : nk_Ev} {Q : nk_Q} (h : na_mr q as D = some o) (hc : na_Mk cf.1 ev q) (hD : na_gD cf.1 I0 r D s) (hA : na_gS r as A) (hk : ∀ p ∈ o, ∀ (v : Value) (r' : List Int), na_ex r r' → na_gD cf.1 I0 r' p.2 s → na_gv r' p.1 v → Q (some v) (nx_enc s 0 cf.1.1)) : ev A (nx_enc s 0 cf.1.1) Q := by
  match as, h, hA with
  | [u, m, j], h, hA =>
    obtain ⟨k, hu, h⟩ := na_bi h
    obtain ⟨a, ha, h⟩ := na_bi h
    obtain ⟨b, hb, h⟩ := na_bi h
    obtain ⟨uc, T1, rfl, hu1, hA1⟩ := na_gS_c hA
    obtain ⟨mw, T2, rfl, hm1, hA2⟩ := na_gS_c hA1
    obtain ⟨jw, T3, rfl, hj1, hA3⟩ := na_gS_c hA2
    have hT3 : T3 = [] := by
      match T3, hA3 with
      | [], _ => rfl
    subst hT3
    have := na_gv_r hu1 hu
    subst this
    obtain ⟨mc, rfl, hm⟩ := na_gv_i hm1 ha
    obtain ⟨jc, rfl, hj⟩ := na_gv_i hj1 hb
    have ma := na_iv_ok hD.2.1 hm ha
    have jb := na_iv_ok hD.2.1 hj hb
    cases hcond : Nat.beq k q && (na_ble 0 a.1 && na_ble a.2 11 && (na_ble 0 b.1 && na_ble b.2 6)) with
    | false => simp only [hcond] at h; cases h
    | true =>
      simp only [hcond] at h
      cases h
      obtain ⟨c0, hcond⟩ := na_two hcond
      obtain ⟨c12, c34⟩ := na_two hcond
      obtain ⟨c1, c2⟩ := na_two c12
      obtain ⟨c3, c4⟩ := na_two c34
      have c0 := Nat.eq_of_beq_eq_true c0
      have c1 := na_ble_t c1
      have c2 := na_ble_t c2
      have c3 := na_ble_t c3
      have c4 := na_ble_t c4
      subst c0
      have em : mc.toInt.toNat = mc.toNatClampNeg := Int32.toNat_toInt mc
      have ej : jc.toInt.toNat = jc.toNatClampNeg := Int32.toNat_toInt jc
      refine hc s mc jc Q (by omega) (by omega) (by omega) (by omega) ?_
      exact na_mC_ok (P := fun v => Q (some v) (nx_enc s 0 cf.1.1)) hD (na_nm_ok hm ma.1 ma.2) (by omega) (by omega) jb.1 jb.2 hk
