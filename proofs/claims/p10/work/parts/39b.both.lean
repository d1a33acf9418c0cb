/-! ===== what both hold: ROWS, STUFFS, MAKINGS ===== -/
/-- sizes of the ROWS (below 0: none), what lies in them; how many STUFFS and MAKINGS; what is told of them -/
abbrev AS : Type := (Nat → Int) × (Nat → Nat → Int32) × (Int32 × Int32) × (Nat → Int32) × (Nat → Int32)
noncomputable def zn (x y : Int) : Prop := x = y ∨ (x < 0 ∧ y < 0)
noncomputable def aC (s : nx_S) (A : AS) : Prop := (∀ k : Nat, k < 6 → zn (s.2.2.1 (29 + 2 * k) 1).toInt (A.1 k)) ∧ (∀ k i : Nat, k < 6 → i < 40 → s.1 (30 + 2 * k) i = A.2.1 k i) ∧ s.2.2.1 3 2 = A.2.2.1.1 ∧ s.2.2.1 3 3 = A.2.2.1.2 ∧ (∀ i : Nat, i < 80 → s.1 4 i = A.2.2.2.1 i) ∧ ∀ i : Nat, i < 84 → s.1 5 i = A.2.2.2.2 i
noncomputable def aR (s : nx_S) (A : AS) : Prop := (∀ k : Nat, k < 6 → zn (s.1 2 k).toInt (A.1 k)) ∧ (∀ k i : Nat, k < 6 → i < 40 → s.1 3 (40 * k + i) = A.2.1 k i) ∧ s.2.2.1 0 10 = A.2.2.1.1 ∧ s.2.2.1 0 12 = A.2.2.1.2 ∧ (∀ i : Nat, i < 80 → s.1 7 i = A.2.2.2.1 i) ∧ ∀ i : Nat, i < 84 → s.1 8 i = A.2.2.2.2 i
/-- what isn't told yet is 0 -/
noncomputable def aI (A : AS) : Prop := ∀ i : Nat, 5 * A.2.2.1.1.toInt ≤ i → i < 80 → A.2.2.2.1 i = 0
/-! ### frames -/
noncomputable def eqC (F : List (Nat × Nat)) (B : List Nat) (s s1 : nx_S) : Prop := (∀ k : Nat × Nat, k ∈ fkC → k ∉ F → s1.2.2.1 k.1 k.2 = s.2.2.1 k.1 k.2) ∧ ∀ q : Nat, q ∉ B → s1.1 q = s.1 q
noncomputable def eqR (F : List (Nat × Nat)) (B : List Nat) (s s1 : nx_S) : Prop := (∀ k : Nat × Nat, k ∈ fkR → k ∉ F → s1.2.2.1 k.1 k.2 = s.2.2.1 k.1 k.2) ∧ ∀ q : Nat, q ∉ B → s1.1 q = s.1 q
noncomputable def pF (fk : List (Nat × Nat)) (m : List (Nat × Int × Int)) : List (Nat × Nat) := m.filterMap (fun e => fk[e.1]?)
theorem po_C {c : na_C} {l : Nat} {s s1 : nx_S} {v : Option Value} (po : na_Po gC c l s v s1) : eqC (pF fkC c.2.2.2.1) c.2.2.2.2.1 s s1 := by
  refine ⟨fun k hk hF => ?_, po.2.2.1⟩
  obtain ⟨i, hi⟩ := List.mem_iff_getElem?.mp hk
  have h := po.2.1 i k hi
  cases hl : nk_lk c.2.2.2.1 i with
  | none =>
    rw [hl] at h
    exact h
  | some b => exact absurd (List.mem_filterMap.mpr ⟨(i, b), nk_lk_mem _ _ _ hl, hi⟩) hF
theorem po_R {c : na_C} {l : Nat} {s s1 : nx_S} {v : Option Value} (po : na_Po gR c l s v s1) : eqR (pF fkR c.2.2.2.1) c.2.2.2.2.1 s s1 := by
  refine ⟨fun k hk hF => ?_, po.2.2.1⟩
  obtain ⟨i, hi⟩ := List.mem_iff_getElem?.mp hk
  have h := po.2.1 i k hi
  cases hl : nk_lk c.2.2.2.1 i with
  | none =>
    rw [hl] at h
    exact h
  | some b => exact absurd (List.mem_filterMap.mpr ⟨(i, b), nk_lk_mem _ _ _ hl, hi⟩) hF
noncomputable def kyC : List (Nat × Nat) := [(29, 1), (31, 1), (33, 1), (35, 1), (37, 1), (39, 1), (3, 2), (3, 3)]
noncomputable def arC : List Nat := [30, 32, 34, 36, 38, 40, 4, 5]
noncomputable def okC (F : List (Nat × Nat)) (B : List Nat) : Bool := kyC.all (fun k => !F.contains k) && arC.all (fun q => !B.contains q)
noncomputable def okR (F : List (Nat × Nat)) (B : List Nat) : Bool := ([(0, 10), (0, 12)] : List (Nat × Nat)).all (fun k => !F.contains k) && ([2, 3, 7, 8] : List Nat).all (fun q => !B.contains q)
theorem ky_fk : ∀ k ∈ kyC, k ∈ fkC := by decide
theorem kp_C {F : List (Nat × Nat)} {B : List Nat} {s s1 : nx_S} (h : eqC F B s s1) (ok : okC F B = true) : (∀ k ∈ kyC, s1.2.2.1 k.1 k.2 = s.2.2.1 k.1 k.2) ∧ ∀ q ∈ arC, s1.1 q = s.1 q := by
  unfold okC at ok
  rw [Bool.and_eq_true] at ok
  refine ⟨fun k hk => h.1 k (ky_fk k hk) (fun q => ?_), fun q hq => h.2 q (fun z => ?_)⟩
  · have := List.all_eq_true.mp ok.1 k hk
    rw [List.contains_iff_mem.mpr q] at this
    cases this
  · have := List.all_eq_true.mp ok.2 q hq
    rw [List.contains_iff_mem.mpr z] at this
    cases this
theorem kp_R {F : List (Nat × Nat)} {B : List Nat} {s s1 : nx_S} (h : eqR F B s s1) (ok : okR F B = true) : (s1.2.2.1 0 10 = s.2.2.1 0 10 ∧ s1.2.2.1 0 12 = s.2.2.1 0 12) ∧ ∀ q ∈ ([2, 3, 7, 8] : List Nat), s1.1 q = s.1 q := by
  unfold okR at ok
  rw [Bool.and_eq_true] at ok
  have key : ∀ k ∈ ([(0, 10), (0, 12)] : List (Nat × Nat)), s1.2.2.1 k.1 k.2 = s.2.2.1 k.1 k.2 := fun k hk => h.1 k (by
    have m : ∀ k ∈ ([(0, 10), (0, 12)] : List (Nat × Nat)), k ∈ fkR := by decide
    exact m k hk) (fun q => by
    have := List.all_eq_true.mp ok.1 k hk
    rw [List.contains_iff_mem.mpr q] at this
    cases this)
  refine ⟨⟨key (0, 10) List.mem_cons_self, key (0, 12) (List.mem_cons_of_mem _ List.mem_cons_self)⟩, fun q hq => h.2 q (fun z => ?_)⟩
  have := List.all_eq_true.mp ok.2 q hq
  rw [List.contains_iff_mem.mpr z] at this
  cases this
theorem aC_kp {s s1 : nx_S} {A : AS} (hk : ∀ k ∈ kyC, s1.2.2.1 k.1 k.2 = s.2.2.1 k.1 k.2) (ha : ∀ q ∈ arC, s1.1 q = s.1 q) (h : aC s A) : aC s1 A := by
  have m1 : ∀ k : Nat, k < 6 → (29 + 2 * k, 1) ∈ kyC := by decide
  have m2 : ∀ k : Nat, k < 6 → 30 + 2 * k ∈ arC := by decide
  obtain ⟨h1, h2, h5, h6, h7, h8⟩ := h
  refine ⟨fun k hk6 => ?_, fun k i hk6 hi => ?_, ?_, ?_, fun i hi => ?_, fun i hi => ?_⟩
  · have e : s1.2.2.1 (29 + 2 * k) 1 = s.2.2.1 (29 + 2 * k) 1 := hk _ (m1 k hk6)
    rw [e]
    exact h1 k hk6
  · rw [ha _ (m2 k hk6)]
    exact h2 k i hk6 hi
  · have e : s1.2.2.1 3 2 = s.2.2.1 3 2 := hk (3, 2) (by decide)
    rw [e]
    exact h5
  · have e : s1.2.2.1 3 3 = s.2.2.1 3 3 := hk (3, 3) (by decide)
    rw [e]
    exact h6
  · rw [ha 4 (by decide)]
    exact h7 i hi
  · rw [ha 5 (by decide)]
    exact h8 i hi
theorem aR_kp {s s1 : nx_S} {A : AS} (hk : s1.2.2.1 0 10 = s.2.2.1 0 10 ∧ s1.2.2.1 0 12 = s.2.2.1 0 12) (ha : ∀ q ∈ ([2, 3, 7, 8] : List Nat), s1.1 q = s.1 q) (h : aR s A) : aR s1 A := by
  obtain ⟨h1, h2, h5, h6, h7, h8⟩ := h
  unfold aR
  rw [hk.1, hk.2, ha 2 (by decide), ha 3 (by decide), ha 7 (by decide), ha 8 (by decide)]
  exact ⟨h1, h2, h5, h6, h7, h8⟩
theorem aC_po {c : na_C} {l : Nat} {s s1 : nx_S} {v : Option Value} {A : AS} (po : na_Po gC c l s v s1) (ok : okC (pF fkC c.2.2.2.1) c.2.2.2.2.1 = true) (h : aC s A) : aC s1 A := by
  have k := kp_C (po_C po) ok
  exact aC_kp k.1 k.2 h
theorem aR_po {c : na_C} {l : Nat} {s s1 : nx_S} {v : Option Value} {A : AS} (po : na_Po gR c l s v s1) (ok : okR (pF fkR c.2.2.2.1) c.2.2.2.2.1 = true) (h : aR s A) : aR s1 A := by
  have k := kp_R (po_R po) ok
  exact aR_kp k.1 k.2 h
theorem aC_fd {s s1 : nx_S} {A : AS} (hm : fd_P s s1) (h : aC s A) : aC s1 A := aC_kp (fun k hk => hm.2.2 k.1 k.2 (fun e => by
    have m : ∀ k ∈ kyC, ¬ (k.1 = 0 ∧ k.2 = 9) := by decide
    exact m k hk e)) (fun q hq => hm.1 q (fun e => by
    have m : ∀ q ∈ arC, ¬ q = 28 := by decide
    exact m q hq e)) h
theorem aC_as {s : nx_S} {A : AS} {x : Int32} (h : aC s A) : aC (nx_uf s 0 10 x) A := aC_kp (fun k hk => if_neg (fun e => by
    have m : ∀ k ∈ kyC, ¬ (k.1 = 0 ∧ k.2 = 10) := by decide
    exact m k hk e)) (fun _ _ => rfl) h
theorem aR_me {s s1 : nx_S} {A : AS} (hm : me_P s s1) (h : aR s A) : aR s1 A := aR_kp ⟨hm.2.2 10 (by decide), hm.2.2 12 (by decide)⟩ (fun q hq => hm.1 q (fun e => by
    have m : ∀ q ∈ ([2, 3, 7, 8] : List Nat), ¬ q = 1 := by decide
    exact m q hq e)) h
theorem aR_as {s : nx_S} {A : AS} {x : Int32} (h : aR s A) : aR (nx_uf s 0 2 x) A := aR_kp ⟨rfl, rfl⟩ (fun _ _ => rfl) h
theorem aR_hd {s s1 : nx_S} {A : AS} (hm : hd_F s s1) (h : aR s A) : aR s1 A := aR_kp ⟨hm.2 10 (by decide) (by decide) (by decide) (by decide), hm.2 12 (by decide) (by decide) (by decide) (by decide)⟩ (fun q hq => hm.1 q (by
    have m : ∀ q ∈ ([2, 3, 7, 8] : List Nat), q ∉ ([1, 10, 11, 12, 13] : List Nat) := by decide
    exact m q hq)) h
/-! ### single writes -/
theorem aC_row {s : nx_S} {A A' : AS} {r : Nat} {f : Nat → Int32} (h : aC s A) (hr : r < 6) (e1 : ∀ k : Nat, k < 6 → A'.1 k = A.1 k) (ev : ∀ k j : Nat, k < 6 → j < 40 → A'.2.1 k j = if k = r then f j else A.2.1 k j) (e2 : A'.2.2 = A.2.2) : aC (nx_ui s (30 + 2 * r) f) A' := by
  obtain ⟨h1, h2, h5, h6, h7, h8⟩ := h
  have ne : ∀ q : Nat, q ≠ 30 + 2 * r → (nx_ui s (30 + 2 * r) f).1 q = s.1 q := fun q e => if_neg e
  unfold aC
  rw [e2]
  refine ⟨fun k hk => ?_, fun k i hk hi => ?_, h5, h6, fun i hi => ?_, fun i hi => ?_⟩
  · rw [e1 k hk]
    exact h1 k hk
  · rw [ev k i hk hi]
    by_cases e : k = r
    · rw [if_pos e, e, nx_u1]
    · rw [if_neg e, ne _ (by omega)]
      exact h2 k i hk hi
  · rw [ne _ (by omega)]
    exact h7 i hi
  · rw [ne _ (by omega)]
    exact h8 i hi
theorem aC_siz {s : nx_S} {A A' : AS} {r : Nat} {n : Int32} (h : aC s A) (hr : r < 6) (ez : ∀ k : Nat, k < 6 → A'.1 k = if k = r then n.toInt else A.1 k) (e2 : A'.2 = A.2) : aC (nx_uf s (29 + 2 * r) 1 n) A' := by
  obtain ⟨h1, h2, h5, h6, h7, h8⟩ := h
  have ne : ∀ q p : Nat, ¬ (q = 29 + 2 * r ∧ p = 1) → (nx_uf s (29 + 2 * r) 1 n).2.2.1 q p = s.2.2.1 q p := fun q p e => if_neg e
  unfold aC
  rw [e2]
  refine ⟨fun k hk => ?_, h2, ?_, ?_, h7, h8⟩
  · rw [ez k hk]
    by_cases e : k = r
    · rw [if_pos e, e]
      show zn (if 29 + 2 * r = 29 + 2 * r ∧ 1 = 1 then n else _).toInt _
      rw [if_pos ⟨rfl, rfl⟩]
      exact Or.inl rfl
    · rw [if_neg e, ne _ _ (fun q => e (by omega))]
      exact h1 k hk
  · rw [ne _ _ (fun q => by omega)]
    exact h5
  · rw [ne _ _ (fun q => by omega)]
    exact h6
/-! ### single writes of the reference -/
theorem aR_lay {s : nx_S} {A A' : AS} {r i : Nat} {v : Int32} (h : aR s A) (hi : i < 40) (e1 : ∀ k : Nat, k < 6 → A'.1 k = A.1 k) (ev : ∀ k j : Nat, k < 6 → j < 40 → A'.2.1 k j = if k = r ∧ j = i then v else A.2.1 k j) (e2 : A'.2.2 = A.2.2) : aR (nx_ui s 3 (upd (s.1 3) (40 * r + i) v)) A' := by
  obtain ⟨h1, h2, h5, h6, h7, h8⟩ := h
  unfold aR
  rw [e2]
  refine ⟨fun k hk => ?_, fun k j hk hj => ?_, h5, h6, h7, h8⟩
  · rw [e1 k hk]
    exact h1 k hk
  · show upd (s.1 3) (40 * r + i) v (40 * k + j) = A'.2.1 k j
    rw [ev k j hk hj]
    by_cases e : k = r ∧ j = i
    · rw [if_pos e, e.1, e.2, upd_s]
    · rw [if_neg e, upd_n _ _ (by omega)]
      exact h2 k j hk hj
theorem aR_siz {s : nx_S} {A A' : AS} {r : Nat} {n : Int32} (h : aR s A) (ez : ∀ k : Nat, k < 6 → zn n.toInt (A'.1 k) ∧ k = r ∨ A'.1 k = A.1 k ∧ k ≠ r) (e2 : A'.2 = A.2) : aR (nx_ui s 2 (upd (s.1 2) r n)) A' := by
  obtain ⟨h1, h2, h5, h6, h7, h8⟩ := h
  unfold aR
  rw [e2]
  refine ⟨fun k hk => ?_, h2, h5, h6, h7, h8⟩
  show zn (upd (s.1 2) r n k).toInt (A'.1 k)
  rcases ez k hk with ⟨e, ek⟩ | ⟨e, ek⟩
  · rw [ek, upd_s, ← ek]
    exact e
  · rw [upd_n _ _ ek, e]
    exact h1 k hk
