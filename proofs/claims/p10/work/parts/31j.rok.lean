/-! ===== how a check's calls are told ===== -/
noncomputable def na_rk (cf : na_Cf) (m : na_Md) (e : Nat × na_Rs) : Prop := ∃ C, nk_lk m.1.2.1 e.1 = some C ∧ C.2.2.1 = 0 ∧ C.2.2.2.1 = 0 ∧ (match e.2 with
  | .inl j => ∃ mj, nk_lk cf.2.1 j = some mj ∧ C.2.2.2.2 = na_ev mj
  | .inr (.inl cs) => ∀ c ∈ cs, na_Ct cf.1 C.2.2.2.2 c
  | .inr (.inr q) => na_Mk cf.1 C.2.2.2.2 q)
theorem na_rk_i {cf : na_Cf} {m : na_Md} {key j : Nat} {C : Nat × Nat × Nat × Nat × nk_Ev} {mj : na_Md} (h1 : nk_lk m.1.2.1 key = some C) (h2 : C.2.2.1 = 0) (h3 : C.2.2.2.1 = 0) (h4 : nk_lk cf.2.1 j = some mj) (h5 : C.2.2.2.2 = na_ev mj) : na_rk cf m (key, .inl j) := ⟨C, h1, h2, h3, mj, h4, h5⟩
theorem na_rk_c {cf : na_Cf} {m : na_Md} {key : Nat} {cs : List na_C} {C : Nat × Nat × Nat × Nat × nk_Ev} (h1 : nk_lk m.1.2.1 key = some C) (h2 : C.2.2.1 = 0) (h3 : C.2.2.2.1 = 0) (h4 : ∀ c ∈ cs, na_Ct cf.1 C.2.2.2.2 c) : na_rk cf m (key, .inr (.inl cs)) := ⟨C, h1, h2, h3, h4⟩
theorem na_rk_m {cf : na_Cf} {m : na_Md} {key q : Nat} {C : Nat × Nat × Nat × Nat × nk_Ev} (h1 : nk_lk m.1.2.1 key = some C) (h2 : C.2.2.1 = 0) (h3 : C.2.2.2.1 = 0) (h4 : na_Mk cf.1 C.2.2.2.2 q) : na_rk cf m (key, .inr (.inr q)) := ⟨C, h1, h2, h3, h4⟩
theorem na_rok_mk {cf : na_Cf} (h : ∀ p ∈ cf.2.1, ∀ e ∈ p.2.2.2.2, na_rk cf p.2 e) : na_Rok cf := fun i m hm key R hR => h (i, m) (nk_lk_mem _ _ _ hm) (key, R) (nk_lk_mem _ _ _ hR)
