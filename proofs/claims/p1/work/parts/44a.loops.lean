/-! ===== rows and texts of a new object: their loops ===== -/
theorem nk_obj_i {h : nk_H} {q ci : Nat} {fs : List Value} {k : List Value → Prop} (hq : nk_lg h q = some (.inr (ci, fs))) (hk : k fs) : nk_obj h q ci k := by
  unfold nk_obj
  rw [hq]
  show nk_if (Nat.beq ci ci) (k fs)
  rw [Nat.beq_refl]
  exact hk
theorem nk_iaw_i {h : nk_H} {q n : Nat} {f : Nat → Int32} {k : Nat → (Nat → Int32) → Prop} (hq : nk_lg h q = some (.inl (0, n, .inl f))) (hk : k n f) : nk_iaw h q k := by
  unfold nk_iaw
  rw [hq]
  exact hk
theorem nk_lg_set {h : nk_H} {q : Nat} {o o' : nk_O} (hq : nk_lg h q = some o) : nk_lg (h.set q o') q = some o' := by
  rw [nk_lg_eq] at hq ⊢
  exact List.getElem?_set_self (List.getElem?_eq_some_iff.mp hq).1
theorem nk_lg_ne {h : nk_H} {q p : Nat} {o' : nk_O} (hn : q ≠ p) : nk_lg (h.set q o') p = nk_lg h p := by
  rw [nk_lg_eq, nk_lg_eq]
  exact List.getElem?_set_ne hn
theorem nk_i40 {k : Nat} (hk : k < 40) : ¬ (40 : Int32) ≤ nI k := by
  have h := nI_ge hk (show 40 < 2 ^ 31 by decide)
  exact h
set_option maxRecDepth 100000 in
set_option maxHeartbeats 4000000 in
/-- Row.begin, whatever else there is: it ends -/
theorem lb_begin (q qp : Nat) (hne : qp ≠ q) (n v : Int32) (Q : nk_Q) (hq : ∀ h : nk_H, Q none h) : ∀ (m k : Nat), k + m = 40 → ∀ (h : nk_H) (sz : Int32) (f : Nat → Int32), nk_lg h q = some (.inr (3, [.ref qp, .int sz])) → nk_lg h qp = some (.inl (0, 40, .inl f)) →
    nk_wp kx_X3_begin kc_X3_begin Q 2 [some (.ref q), some (.int n), some (.int v), some (.int (nI k))] [] h 0 0 := by
  intro m
  induction m with
  | zero =>
    intro k hk h sz f h1 h2
    have e : k = 40 := by omega
    subst e
    repeat refine nk_s ?_
    refine nk_br.t (by decide) ?_
    repeat refine nk_s ?_
    refine nk_obj_i h1 ?_
    repeat refine nk_s ?_
    exact hq _
  | succ m ih =>
    intro k hk h sz f h1 h2
    repeat refine nk_s ?_
    refine nk_br.f (nk_i40 (by omega)) ?_
    repeat refine nk_s ?_
    refine nk_obj_i h1 ?_
    repeat refine nk_s ?_
    refine nk_iaw_i h2 ?_
    refine And.intro (vp_in_nI (by omega) (by decide)) ?_
    refine nk_s (nk_s ?_)
    have key := ih (k + 1) (by omega) (h.set qp (.inl (0, 40, .inl (upd f (nI k).toNatClampNeg v)))) sz _ (by rw [nk_lg_ne hne]; exact h1) (nk_lg_set h2)
    rw [← nI_1 k] at key
    exact key
set_option maxRecDepth 100000 in
set_option maxHeartbeats 4000000 in
theorem eb_begin (q qp : Nat) (n v sz : Int32) (f : Nat → Int32) (h : nk_H) (Q : nk_Q) (hne : qp ≠ q) (h1 : nk_lg h q = some (.inr (3, [.ref qp, .int sz]))) (h2 : nk_lg h qp = some (.inl (0, 40, .inl f))) (hq : ∀ h : nk_H, Q none h) : ev_X3_begin [.ref q, .int n, .int v] h Q := by
  refine nk_s (nk_s ?_)
  have key := lb_begin q qp hne n v Q hq 40 0 rfl h sz f h1 h2
  rw [nI_0] at key
  exact key
theorem nk_iar_i {h : nk_H} {q n : Nat} {f : Nat → Int32} {k : Nat → (Nat → Int32) → Prop} (hq : nk_lg h q = some (.inl (0, n, .inl f))) (hk : k n f) : nk_iar h q k := by
  unfold nk_iar
  rw [hq]
  exact hk
theorem nk_m40 {r k : Nat} (hr : r < 6) (hk : k < 40) : vp_in (40 * nI r + nI k) 240 := by
  have e : (40 : Int32) * nI r + nI k = nI (40 * r + k) := by
    have e1 : (40 : Int32) = nI 40 := rfl
    rw [e1, pk_mul, nI_add]
  rw [e]
  exact vp_in_nI (by omega) (by decide)
theorem nk_m40t {r k : Nat} (hr : r < 4) (hk : k < 40) : vp_in (40 * nI r + nI k) 160 := by
  have e : (40 : Int32) * nI r + nI k = nI (40 * r + k) := by
    have e1 : (40 : Int32) = nI 40 := rfl
    rw [e1, pk_mul, nI_add]
  rw [e]
  exact vp_in_nI (by omega) (by decide)
set_option maxRecDepth 100000 in
set_option maxHeartbeats 4000000 in
/-- the reference's row: its loop ends -/
theorem lb_rowR (r : Nat) (hr : r < 6) (n : Int32) (fs : List Value) (hfs : nk_lg fs 6 = some (.ref 3)) (Q : nk_Q) (hq : ∀ h : nk_H, Q (some (.int n)) h) : ∀ (m k : Nat), k + m = 40 → ∀ (h : nk_H) (f : Nat → Int32), nk_lg h 0 = some (.inr (6, fs)) → nk_lg h 3 = some (.inl (0, 240, .inl f)) →
    nk_wp kx_X6_row kc_X6_row Q 34 [some (.ref 0), some (.int (nI r)), some (.int n), some (.int (nI k))] [] h 0 0 := by
  intro m
  induction m with
  | zero =>
    intro k hk h f h1 h2
    have e : k = 40 := by omega
    subst e
    repeat refine nk_s ?_
    refine nk_br.t (by decide) ?_
    repeat refine nk_s ?_
    exact hq _
  | succ m ih =>
    intro k hk h f h1 h2
    repeat refine nk_s ?_
    refine nk_br.f (nk_i40 (by omega)) ?_
    repeat refine nk_s ?_
    refine nk_obj_i h1 ?_
    show nk_sm (nk_lg fs 6) _
    rw [hfs]
    repeat refine nk_s ?_
    refine nk_iaw_i h2 ?_
    refine And.intro (nk_m40 hr (by omega)) ?_
    refine nk_s (nk_s ?_)
    have key := ih (k + 1) (by omega) (h.set 3 (.inl (0, 240, .inl (upd f (40 * nI r + nI k).toNatClampNeg 0)))) _ (by rw [nk_lg_ne (by decide)]; exact h1) (nk_lg_set h2)
    rw [← nI_1 k] at key
    exact key
set_option maxRecDepth 100000 in
set_option maxHeartbeats 4000000 in
/-- the reference's text: its loop ends -/
theorem lb_textR (r : Nat) (hr : r < 4) (n : Int32) (fs : List Value) (hfs : nk_lg fs 9 = some (.ref 6)) (Q : nk_Q) (hq : ∀ h : nk_H, Q (some (.int n)) h) : ∀ (m k : Nat), k + m = 40 → ∀ (h : nk_H) (f : Nat → Int32), nk_lg h 0 = some (.inr (6, fs)) → nk_lg h 6 = some (.inl (0, 160, .inl f)) →
    nk_wp kx_X6_text kc_X6_text Q 34 [some (.ref 0), some (.int (nI r)), some (.int n), some (.int (nI k))] [] h 0 0 := by
  intro m
  induction m with
  | zero =>
    intro k hk h f h1 h2
    have e : k = 40 := by omega
    subst e
    repeat refine nk_s ?_
    refine nk_br.t (by decide) ?_
    repeat refine nk_s ?_
    exact hq _
  | succ m ih =>
    intro k hk h f h1 h2
    repeat refine nk_s ?_
    refine nk_br.f (nk_i40 (by omega)) ?_
    repeat refine nk_s ?_
    refine nk_obj_i h1 ?_
    show nk_sm (nk_lg fs 9) _
    rw [hfs]
    repeat refine nk_s ?_
    refine nk_iaw_i h2 ?_
    refine And.intro (nk_m40t hr (by omega)) ?_
    refine nk_s (nk_s ?_)
    have key := ih (k + 1) (by omega) (h.set 6 (.inl (0, 160, .inl (upd f (40 * nI r + nI k).toNatClampNeg 32)))) _ (by rw [nk_lg_ne (by decide)]; exact h1) (nk_lg_set h2)
    rw [← nI_1 k] at key
    exact key
/-- the same, at the loop's first coming, with its numbers as they stand there -/
theorem lr_row (r : Nat) (hr : r < 6) (n : Int32) (h : nk_H) (f : Nat → Int32) (Q : nk_Q) (h1 : ∃ fs, nk_lg h 0 = some (.inr (6, fs)) ∧ nk_lg fs 6 = some (.ref 3)) (h2 : nk_lg h 3 = some (.inl (0, 240, .inl f))) (hq : ∀ h : nk_H, Q (some (.int n)) h) :
    nk_wp kx_X6_row kc_X6_row Q 34 [some (.ref 0), some (.int (nI r)), some (.int n), some (.int 0)] [] h 0 0 := by
  obtain ⟨fs, e1, e2⟩ := h1
  have key := lb_rowR r hr n fs e2 Q hq 40 0 rfl h f e1 h2
  rw [nI_0] at key
  exact key
theorem lr_text (r : Nat) (hr : r < 4) (n : Int32) (h : nk_H) (f : Nat → Int32) (Q : nk_Q) (h1 : ∃ fs, nk_lg h 0 = some (.inr (6, fs)) ∧ nk_lg fs 9 = some (.ref 6)) (h2 : nk_lg h 6 = some (.inl (0, 160, .inl f))) (hq : ∀ h : nk_H, Q (some (.int n)) h) :
    nk_wp kx_X6_text kc_X6_text Q 34 [some (.ref 0), some (.int (nI r)), some (.int n), some (.int 0)] [] h 0 0 := by
  obtain ⟨fs, e1, e2⟩ := h1
  have key := lb_textR r hr n fs e2 Q hq 40 0 rfl h f e1 h2
  rw [nI_0] at key
  exact key
