/-! ===== the checker: patterns, contracts ===== -/
/-- a number, a name from the entry, an int by its interval (and whether it isn't 0), a long (and whether it isn't 0), a reference -/
abbrev na_Pt : Type := Int ⊕ Nat ⊕ (Int × Int × Bool) ⊕ Bool ⊕ Nat
/-- arguments, fields ahead, arguments that are less than a field, levels ahead (0: none is wanted), fields changed, arrays changed, how it answers (0 none, 1 int, 2 long), the answer's interval, level behind (0: none, 1: that one, 2: so much more) -/
abbrev na_C : Type := List na_Pt × (List (Nat × Int × Int) × List (Nat × Nat)) × Nat × List (Nat × Int × Int) × List Nat × Nat × (Int × Int) × (Nat × Nat)
noncomputable def na_pv (r0 : List Int) (p : na_Pt) (w : Value) : Prop := match p with
  | .inl c => ∃ x : Int32, w = .int x ∧ x.toInt = c
  | .inr (.inl k) => ∃ x : Int32, w = .int x ∧ r0[k]? = some x.toInt
  | .inr (.inr (.inl b)) => ∃ x : Int32, w = .int x ∧ b.1 ≤ x.toInt ∧ x.toInt ≤ b.2.1 ∧ (b.2.2 = true → x.toInt ≠ 0)
  | .inr (.inr (.inr (.inl z))) => ∃ y : Int64, w = .long y ∧ (z = true → y.toInt ≠ 0)
  | .inr (.inr (.inr (.inr q))) => w = .ref q
noncomputable def na_as (r0 : List Int) : List na_Pt → List Value → Prop
  | [], [] => True
  | p :: ps, w :: ws => na_pv r0 p w ∧ na_as r0 ps ws
  | _, _ => False
noncomputable def na_pm (r0 : List Int) : List (Option na_Pt) → nk_Ls → Prop
  | [], [] => True
  | none :: ps, _ :: M => na_pm r0 ps M
  | some p :: ps, some w :: M => na_pv r0 p w ∧ na_pm r0 ps M
  | _, _ => False
noncomputable def na_Po (g : na_G) (c : na_C) (l : Nat) (s : nx_S) (v : Option Value) (s' : nx_S) : Prop :=
  nx_Inv g s' ∧ (∀ (i : Nat) (k : Nat × Nat), g.2.1[i]? = some k → match nk_lk c.2.2.2.1 i with
    | some b => b.1 ≤ (s'.2.2.1 k.1 k.2).toInt ∧ (s'.2.2.1 k.1 k.2).toInt ≤ b.2
    | none => s'.2.2.1 k.1 k.2 = s.2.2.1 k.1 k.2) ∧ (∀ q : Nat, q ∉ c.2.2.2.2.1 → s'.1 q = s.1 q) ∧ (match c.2.2.2.2.2.1 with
    | 0 => v = none
    | 1 => ∃ x : Int32, v = some (.int x) ∧ c.2.2.2.2.2.2.1.1 ≤ x.toInt ∧ x.toInt ≤ c.2.2.2.2.2.2.1.2
    | _ => ∃ y : Int64, v = some (.long y)) ∧ (match c.2.2.2.2.2.2.2.1 with
    | 0 => True
    | 1 => g.2.2.2.2.2.1 c.2.2.2.2.2.2.2.2 s'
    | _ => g.2.2.2.2.2.1 (l + c.2.2.2.2.2.2.2.2) s')
noncomputable def na_Pr (g : na_G) (c : na_C) (l : Nat) (s : nx_S) (as : List Value) : Prop :=
  nx_Inv g s ∧ na_as [] c.1 as ∧ (∀ (i : Nat) (k : Nat × Nat) (b : Int × Int), g.2.1[i]? = some k → nk_lk c.2.1.1 i = some b → b.1 ≤ (s.2.2.1 k.1 k.2).toInt ∧ (s.2.2.1 k.1 k.2).toInt ≤ b.2) ∧ (c.2.2.1 ≠ 0 → l < c.2.2.1 ∧ g.2.2.2.2.2.1 l s) ∧ ∀ e ∈ c.2.1.2, ∀ k : Nat × Nat, g.2.1[e.2]? = some k → ∃ x : Int32, as[e.1]? = some (.int x) ∧ x.toInt < (s.2.2.1 k.1 k.2).toInt
/-- a method keeps a contract -/
noncomputable def na_Ct (g : na_G) (ev : nk_Ev) (c : na_C) : Prop := ∀ (l : Nat) (s : nx_S) (as : List Value) (Q : nk_Q), na_Pr g c l s as → (∀ (v : Option Value) (s' : nx_S), na_Po g c l s v s' → Q v (nx_enc s' 0 g.1)) → ev as (nx_enc s 0 g.1) Q
/-- a method tells what is told of a making -/
noncomputable def na_Mk (g : na_G) (ev : nk_Ev) (q : Nat) : Prop := ∀ (s : nx_S) (m j : Int32) (Q : nk_Q), 0 ≤ m.toInt → m.toInt ≤ 11 → 0 ≤ j.toInt → j.toInt ≤ 6 → Q (some (.int (s.1 g.2.2.2.2.1 (7 * m.toNatClampNeg + j.toNatClampNeg)))) (nx_enc s 0 g.1) → ev [.ref q, .int m, .int j] (nx_enc s 0 g.1) Q
/-! ### states out of patterns -/
noncomputable def na_bd : List (Option na_Pt) → Nat → na_E → List Nat → na_L × Nat × na_E × List Nat
  | [], n, E, Z => ([], n, E, Z)
  | none :: ps, n, E, Z => (fun q => (none :: q.1, q.2)) (na_bd ps n E Z)
  | some (.inl c) :: ps, n, E, Z => (fun q => (some (.inl c) :: q.1, q.2)) (na_bd ps n E Z)
  | some (.inr (.inl k)) :: ps, n, E, Z => (fun q => (some (.inr (.inl k)) :: q.1, q.2)) (na_bd ps n E Z)
  | some (.inr (.inr (.inl b))) :: ps, n, E, Z => (fun q => (some (.inr (.inl n)) :: q.1, q.2)) (na_bd ps (n + 1) ((n, b.1, b.2.1) :: E) (bif b.2.2 then n :: Z else Z))
  | some (.inr (.inr (.inr (.inl z)))) :: ps, n, E, Z => (fun q => (some (.inr (.inr (.inl n))) :: q.1, q.2)) (na_bd ps (n + 1) ((n, na_lm, na_lx) :: E) (bif z then n :: Z else Z))
  | some (.inr (.inr (.inr (.inr p)))) :: ps, n, E, Z => (fun q => (some (.inr (.inr (.inr (.inl p)))) :: q.1, q.2)) (na_bd ps n E Z)
theorem na_zadd {r : List Int} {Z : List Nat} {x : Int} {n : Nat} {z : Bool} (hZ : na_gZ r Z) (hn : r[n]? = some x) (hz : z = true → x ≠ 0) : na_gZ r (bif z then n :: Z else Z) := by
  cases z with
  | false => exact hZ
  | true =>
    intro t ht
    rcases List.mem_cons.mp ht with rfl | ht
    · exact ⟨x, hn, hz rfl⟩
    · exact hZ t ht
theorem na_eadd {r : List Int} {E : na_E} {x lo hi : Int} {n : Nat} (hE : na_gE r E) (hn : r[n]? = some x) (h1 : lo ≤ x) (h2 : x ≤ hi) : na_gE r ((n, lo, hi) :: E) := by
  intro e he
  rcases List.mem_cons.mp he with rfl | he
  · exact ⟨x, hn, h1, h2⟩
  · exact hE e he
theorem na_last {r : List Int} {n : Nat} (hn : n = r.length) (x : Int) : (r ++ [x])[n]? = some x ∧ n + 1 = (r ++ [x]).length := by
  subst hn
  simp
theorem na_bd_ok {r0 : List Int} : ∀ (ps : List (Option na_Pt)) (M : nk_Ls) (n : Nat) (E : na_E) (Z : List Nat) (r : List Int), na_pm r0 ps M → na_ex r0 r → n = r.length → na_gE r E → na_gZ r Z → ∃ r' : List Int, na_ex r r' ∧ (na_bd ps n E Z).2.1 = r'.length ∧ na_gE r' (na_bd ps n E Z).2.2.1 ∧ na_gZ r' (na_bd ps n E Z).2.2.2 ∧ na_gL r' (na_bd ps n E Z).1 M
  | [], [], n, E, Z, r, _, _, hn, hE, hZ => ⟨r, na_ex.rf, hn, hE, hZ, trivial⟩
  | none :: ps, o :: M, n, E, Z, r, hp, h0, hn, hE, hZ => by
    obtain ⟨r', h1, h2, h3, h4, h5⟩ := na_bd_ok ps M n E Z r hp h0 hn hE hZ
    exact ⟨r', h1, h2, h3, h4, trivial, h5⟩
  | some (.inl c) :: ps, some w :: M, n, E, Z, r, hp, h0, hn, hE, hZ => by
    obtain ⟨r', h1, h2, h3, h4, h5⟩ := na_bd_ok ps M n E Z r hp.2 h0 hn hE hZ
    obtain ⟨x, rfl, hx⟩ := hp.1
    exact ⟨r', h1, h2, h3, h4, hx, h5⟩
  | some (.inr (.inl k)) :: ps, some w :: M, n, E, Z, r, hp, h0, hn, hE, hZ => by
    obtain ⟨r', h1, h2, h3, h4, h5⟩ := na_bd_ok ps M n E Z r hp.2 h0 hn hE hZ
    obtain ⟨x, rfl, hx⟩ := hp.1
    exact ⟨r', h1, h2, h3, h4, h1 _ _ (h0 _ _ hx), h5⟩
  | some (.inr (.inr (.inl b))) :: ps, some w :: M, n, E, Z, r, hp, h0, hn, hE, hZ => by
    obtain ⟨x, rfl, hx1, hx2, hx3⟩ := hp.1
    obtain ⟨l1, l2⟩ := na_last hn x.toInt
    obtain ⟨r', h1, h2, h3, h4, h5⟩ := na_bd_ok ps M (n + 1) ((n, b.1, b.2.1) :: E) (bif b.2.2 then n :: Z else Z) (r ++ [x.toInt]) hp.2 (h0.tr na_ex.ap) l2 (na_eadd (hE.ex na_ex.ap) l1 hx1 hx2) (na_zadd (hZ.ex na_ex.ap) l1 hx3)
    exact ⟨r', na_ex.ap.tr h1, h2, h3, h4, h1 _ _ l1, h5⟩
  | some (.inr (.inr (.inr (.inl z)))) :: ps, some w :: M, n, E, Z, r, hp, h0, hn, hE, hZ => by
    obtain ⟨y, rfl, hy⟩ := hp.1
    obtain ⟨l1, l2⟩ := na_last hn y.toInt
    obtain ⟨r', h1, h2, h3, h4, h5⟩ := na_bd_ok ps M (n + 1) ((n, na_lm, na_lx) :: E) (bif z then n :: Z else Z) (r ++ [y.toInt]) hp.2 (h0.tr na_ex.ap) l2 (na_eadd (hE.ex na_ex.ap) l1 (na_i64 y).1 (na_i64 y).2) (na_zadd (hZ.ex na_ex.ap) l1 hy)
    exact ⟨r', na_ex.ap.tr h1, h2, h3, h4, h1 _ _ l1, h5⟩
  | some (.inr (.inr (.inr (.inr q)))) :: ps, some w :: M, n, E, Z, r, hp, h0, hn, hE, hZ => by
    obtain ⟨r', h1, h2, h3, h4, h5⟩ := na_bd_ok ps M n E Z r hp.2 h0 hn hE hZ
    have hw : w = .ref q := hp.1
    subst hw
    exact ⟨r', h1, h2, h3, h4, rfl, h5⟩
  | [], _ :: _, _, _, _, _, hp, _, _, _, _ => hp.elim
  | none :: _, [], _, _, _, _, hp, _, _, _, _ => hp.elim
  | some _ :: _, [], _, _, _, _, hp, _, _, _, _ => hp.elim
  | some _ :: _, none :: _, _, _, _, _, hp, _, _, _, _ => hp.elim
/-! ### does a value fit a pattern -/
noncomputable def na_m1 (E : na_E) (Z : List Nat) (n0 : Nat) (p : na_Pt) (v : na_V) : Bool := match p with
  | .inl c => (match na_iv E v with
    | some b => na_bq b.1 c && na_bq b.2 c
    | none => false)
  | .inr (.inl k) => (match v with
    | .inr (.inl j) => Nat.beq j k && Nat.ble (k + 1) n0
    | _ => false)
  | .inr (.inr (.inl b)) => (match na_iv E v with
    | some a => na_ble b.1 a.1 && na_ble a.2 b.2.1 && (!b.2.2 || na_nz E Z v)
    | none => false)
  | .inr (.inr (.inr (.inl z))) => (match na_iL v with
    | some _ => !z || na_nz E Z v
    | none => false)
  | .inr (.inr (.inr (.inr q))) => (match na_iR v with
    | some k => Nat.beq k q
    | none => false)
theorem na_m1_ok {r0 r : List Int} {E : na_E} {Z : List Nat} {p : na_Pt} {v : na_V} {w : Value} (hE : na_gE r E) (hZ : na_gZ r Z) (h0 : na_ex r0 r) (hv : na_gv r v w) (h : na_m1 E Z r0.length p v = true) : na_pv r0 p w := by
  match p, h with
  | .inl c, h =>
    unfold na_m1 at h
    cases hb : na_iv E v with
    | none => simp only [hb] at h; cases h
    | some b =>
      simp only [hb] at h
      obtain ⟨b1, b2⟩ := Bool.and_eq_true_iff.mp h
      have e1 := na_bq_t b1
      have e2 := na_bq_t b2
      obtain ⟨x, rfl, hx⟩ := na_gv_i hv hb
      have := na_iv_ok hE hx hb
      exact ⟨x, rfl, by omega⟩
  | .inr (.inl k), h =>
    match v, hv, h with
    | .inr (.inl j), hv, h =>
      obtain ⟨b1, b2⟩ := Bool.and_eq_true_iff.mp h
      have e1 := Nat.eq_of_beq_eq_true b1
      have e2 := Nat.le_of_ble_eq_true b2
      subst e1
      match w, hv with
      | .int x, hv =>
        have hl : j < r0.length := e2
        have h1 : r0[j]? = some r0[j] := List.getElem?_eq_getElem hl
        have h2 := h0 _ _ h1
        have hv : r[j]? = some x.toInt := hv
        rw [hv] at h2
        exact ⟨x, rfl, by rw [h1, Option.some.inj h2]⟩
  | .inr (.inr (.inl b)), h =>
    unfold na_m1 at h
    cases hb : na_iv E v with
    | none => simp only [hb] at h; cases h
    | some a =>
      simp only [hb] at h
      obtain ⟨b1, b3⟩ := Bool.and_eq_true_iff.mp h
      obtain ⟨b1, b2⟩ := Bool.and_eq_true_iff.mp b1
      have e1 := na_ble_t b1
      have e2 := na_ble_t b2
      obtain ⟨x, rfl, hx⟩ := na_gv_i hv hb
      have := na_iv_ok hE hx hb
      refine ⟨x, rfl, by omega, by omega, fun q => ?_⟩
      rw [q] at b3
      exact na_nz_i hE hZ hx (by simpa using b3)
  | .inr (.inr (.inr (.inl z))), h =>
    unfold na_m1 at h
    cases hb : na_iL v with
    | none => simp only [hb] at h; cases h
    | some a =>
      simp only [hb] at h
      obtain ⟨y, rfl, hy⟩ := na_gv_l hv hb
      refine ⟨y, rfl, fun q => ?_⟩
      rw [q] at h
      match v, hb with
      | .inr (.inr (.inl t)), hb =>
        cases hb
        have h : na_nz E Z (.inr (.inr (.inl a))) = true := by simpa using h
        exact na_nz_s hE hZ hy h
  | .inr (.inr (.inr (.inr q))), h =>
    unfold na_m1 at h
    cases hb : na_iR v with
    | none => simp only [hb] at h; cases h
    | some a =>
      simp only [hb] at h
      have e1 := Nat.eq_of_beq_eq_true h
      subst e1
      exact na_gv_r hv hb
noncomputable def na_mt (E : na_E) (Z : List Nat) (n0 : Nat) : List (Option na_Pt) → na_L → Bool
  | [], [] => true
  | none :: ps, _ :: L => na_mt E Z n0 ps L
  | some p :: ps, some v :: L => na_m1 E Z n0 p v && na_mt E Z n0 ps L
  | _, _ => false
theorem na_mt_ok {r0 r : List Int} {E : na_E} {Z : List Nat} (hE : na_gE r E) (hZ : na_gZ r Z) (h0 : na_ex r0 r) : ∀ (ps : List (Option na_Pt)) (L : na_L) (M : nk_Ls), na_gL r L M → na_mt E Z r0.length ps L = true → na_pm r0 ps M
  | [], [], [], _, _ => trivial
  | none :: ps, _ :: L, _ :: M, hL, h => na_mt_ok hE hZ h0 ps L M hL.2 h
  | some p :: ps, some v :: L, o :: M, hL, h => by
    obtain ⟨h1, h2⟩ := Bool.and_eq_true_iff.mp h
    match o, hL.1 with
    | some w, hw => exact ⟨na_m1_ok hE hZ h0 hw h1, na_mt_ok hE hZ h0 ps L M hL.2 h2⟩
  | [], [], _ :: _, hL, _ => hL.elim
  | _ :: _, _ :: _, [], hL, _ => hL.elim
  | some _ :: _, none :: _, _ :: _, _, h => by cases h
  | [], _ :: _, _, _, h => by cases h
  | none :: _, [], _, _, h => by cases h
  | some _ :: _, [], _, _, h => by cases h
noncomputable def na_ms (E : na_E) (Z : List Nat) : List na_Pt → List na_V → Bool
  | [], [] => true
  | p :: ps, v :: L => na_m1 E Z 0 p v && na_ms E Z ps L
  | _, _ => false
theorem na_ms_ok {r : List Int} {E : na_E} {Z : List Nat} (hE : na_gE r E) (hZ : na_gZ r Z) : ∀ (ps : List na_Pt) (L : List na_V) (M : List Value), na_gS r L M → na_ms E Z ps L = true → na_as [] ps M
  | [], [], [], _, _ => trivial
  | p :: ps, v :: L, w :: M, hL, h => by
    obtain ⟨h1, h2⟩ := Bool.and_eq_true_iff.mp h
    exact ⟨na_m1_ok (r0 := []) hE hZ (fun s x q => by cases q) hL.1 h1, na_ms_ok hE hZ ps L M hL.2 h2⟩
  | [], [], _ :: _, hL, _ => hL.elim
  | _ :: _, _ :: _, [], hL, _ => hL.elim
  | [], _ :: _, _, _, h => by cases h
  | _ :: _, [], _, _, h => by cases h
/-! ### fields behind a contract -/
noncomputable def na_fm (md : List (Nat × Int × Int)) : Nat → na_L → Nat → na_E → na_L × Nat × na_E
  | _, [], n, E => ([], n, E)
  | i, a :: L, n, E => (match nk_lk md i with
    | some b => (fun q => (some (.inr (.inl n)) :: q.1, q.2)) (na_fm md (i + 1) L (n + 1) ((n, b.1, b.2) :: E))
    | none => (fun q => (a :: q.1, q.2)) (na_fm md (i + 1) L n E))
noncomputable def na_fr (md : List (Nat × Int × Int)) : Nat → nk_Ls → nk_Ls → Prop
  | _, [], [] => True
  | i, o :: M, o' :: M' => (match nk_lk md i with
    | some b => ∃ x : Int32, o' = some (.int x) ∧ b.1 ≤ x.toInt ∧ x.toInt ≤ b.2
    | none => o' = o) ∧ na_fr md (i + 1) M M'
  | _, _, _ => False
theorem na_fm_ok (md : List (Nat × Int × Int)) : ∀ (i : Nat) (L : na_L) (n : Nat) (E : na_E) (r : List Int) (M M' : nk_Ls), n = r.length → na_gE r E → na_gL r L M → na_fr md i M M' → ∃ r' : List Int, na_ex r r' ∧ (na_fm md i L n E).2.1 = r'.length ∧ na_gE r' (na_fm md i L n E).2.2 ∧ na_gL r' (na_fm md i L n E).1 M'
  | _, [], n, E, r, [], [], hn, hE, _, _ => ⟨r, na_ex.rf, hn, hE, trivial⟩
  | i, a :: L, n, E, r, o :: M, o' :: M', hn, hE, hL, hf => by
    unfold na_fm
    have hf1 := hf.1
    cases hb : nk_lk md i with
    | none =>
      simp only [hb] at hf1
      subst hf1
      obtain ⟨r', h1, h2, h3, h4⟩ := na_fm_ok md (i + 1) L n E r M M' hn hE hL.2 hf.2
      exact ⟨r', h1, h2, h3, hL.1.ex h1, h4⟩
    | some b =>
      simp only [hb] at hf1
      obtain ⟨x, rfl, hx1, hx2⟩ := hf1
      obtain ⟨l1, l2⟩ := na_last hn x.toInt
      obtain ⟨r', h1, h2, h3, h4⟩ := na_fm_ok md (i + 1) L (n + 1) ((n, b.1, b.2) :: E) (r ++ [x.toInt]) M M' l2 (na_eadd (hE.ex na_ex.ap) l1 hx1 hx2) (hL.2.ex na_ex.ap) hf.2
      exact ⟨r', na_ex.ap.tr h1, h2, h3, h1 _ _ l1, h4⟩
  | _, [], _, _, _, _ :: _, _, _, _, hL, _ => hL.elim
  | _, _ :: _, _, _, _, [], _, _, _, hL, _ => hL.elim
  | _, [], _, _, _, [], _ :: _, _, _, _, hf => hf.elim
  | _, _ :: _, _, _, _, _ :: _, [], _, _, _, hf => hf.elim
theorem na_fr_mk {md : List (Nat × Int × Int)} {s s' : nx_S} : ∀ (fk : List (Nat × Nat)) (i : Nat), (∀ (j : Nat) (k : Nat × Nat), fk[j]? = some k → match nk_lk md (i + j) with
    | some b => b.1 ≤ (s'.2.2.1 k.1 k.2).toInt ∧ (s'.2.2.1 k.1 k.2).toInt ≤ b.2
    | none => s'.2.2.1 k.1 k.2 = s.2.2.1 k.1 k.2) → na_fr md i (fk.map (fun k => some (.int (s.2.2.1 k.1 k.2)))) (fk.map (fun k => some (.int (s'.2.2.1 k.1 k.2))))
  | [], _, _ => trivial
  | k :: fk, i, h => by
    refine ⟨?_, na_fr_mk fk (i + 1) (fun j k' hj => ?_)⟩
    · have h0 := h 0 k rfl
      rw [Nat.add_zero] at h0
      cases hb : nk_lk md i with
      | none =>
        simp only [hb] at h0
        show some (Value.int (s'.2.2.1 k.1 k.2)) = some (Value.int (s.2.2.1 k.1 k.2))
        rw [h0]
      | some b =>
        simp only [hb] at h0
        exact ⟨_, rfl, h0⟩
    · have h0 := h (j + 1) k' (by rw [List.getElem?_cons_succ]; exact hj)
      rw [show i + 1 + j = i + (j + 1) by omega]
      exact h0
