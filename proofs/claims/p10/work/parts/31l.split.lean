/-! ===== a check in pieces ===== -/
noncomputable def na_echk (cf : na_Cf) (c : na_C) (mi : Nat) (m : na_Md) (fu : Nat) (sp : List (Nat × Nat)) (hd : List na_Hd) (mu : Nat) : Bool :=
  (Nat.ble (na_pw c.1) m.2.2.1 && c.2.1.2.all (fun e => na_nol c.1 e.1 && Nat.ble (e.1 + 1) m.2.2.1)) && na_go cf sp (na_fin cf c mi m.1 m.2.1 (na_e0 cf c m.2.2.1).2.1 hd mu) fu ([], mi, 0, (na_e0 cf c m.2.2.1).1, [], (na_e0 cf c m.2.2.1).2)
noncomputable def na_cchk (cf : na_Cf) (c : na_C) (mi : Nat) (m : na_Md) (fu : Nat) (sp : List (Nat × Nat)) (hd : List na_Hd) (pc : Nat) (k : Nat × na_Cu) : Bool := match na_step cf (na_cs cf (na_e0 cf c m.2.2.1) mi pc k.2) with
  | some l => l.all (na_go cf sp (na_fin cf c mi m.1 m.2.1 (na_e0 cf c m.2.2.1).2.1 hd k.2.1) fu)
  | none => false
theorem na_chk_mk {cf : na_Cf} {c : na_C} {mi : Nat} {m : na_Md} {fu : Nat} {sp : List (Nat × Nat)} {hd : List na_Hd} {mu : Nat} (he : na_echk cf c mi m fu sp hd mu = true) (hc : ∀ h ∈ hd, h.2.2.all (na_cchk cf c mi m fu sp hd h.1) = true) : na_chk cf c mi m fu sp hd mu = true := by
  unfold na_chk
  exact Bool.and_eq_true_iff.mpr ⟨he, List.all_eq_true.mpr hc⟩
theorem na_app {α : Type} {f : α → Bool} {a b : List α} (h1 : a.all f = true) (h2 : b.all f = true) : (a ++ b).all f = true := by
  rw [List.all_append, h1, h2]
  rfl
