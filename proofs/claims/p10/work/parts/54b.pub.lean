/-! ===== the public methods, at any state, with what is held in both ===== -/
set_option maxRecDepth 100000 in
theorem pC_at (Q : nk_Q) (s : nx_S) (a b : Int32) (hInv : nx_Inv gC s) (hq : ∀ (s1 : nx_S) (r : Int32), nx_Inv gC s1 → (∀ A : AS, aC s A → aC s1 A) → Q (some (.int r)) (nx_enc s1 0 shC)) : ev_X5_at [.ref 0, .int a, .int b] (nx_enc s 0 shC) Q := ct_X5_at_0 0 s _ Q ⟨hInv, ⟨rfl, ⟨a, rfl, (na_i32 a).1, (na_i32 a).2, fun h => (by cases h)⟩, ⟨b, rfl, (na_i32 b).1, (na_i32 b).2, fun h => (by cases h)⟩, trivial⟩, fun _ _ _ _ h => (by cases h), fun h => absurd rfl h, fun _ h => (by cases h)⟩ (fun v s1 po => by
  have hv : ∃ x : Int32, v = some (.int x) ∧ _ := po.2.2.2.1
  obtain ⟨x, hx, -⟩ := hv
  subst hx
  exact hq s1 x po.1 (fun A h => aC_po po (by decide) h))
set_option maxRecDepth 100000 in
theorem pR_at (Q : nk_Q) (s : nx_S) (a b : Int32) (hInv : nx_Inv gR s) (hJ : nJ s) (hq : ∀ (s1 : nx_S) (r : Int32), nx_Inv gR s1 → nJ s1 → (∀ A : AS, aR s A → aR s1 A) → Q (some (.int r)) (nx_enc s1 0 shR)) : ev_X6_at [.ref 0, .int a, .int b] (nx_enc s 0 shR) Q := ct_X6_at_0 0 s _ Q ⟨hInv, ⟨rfl, ⟨a, rfl, (na_i32 a).1, (na_i32 a).2, fun h => (by cases h)⟩, ⟨b, rfl, (na_i32 b).1, (na_i32 b).2, fun h => (by cases h)⟩, trivial⟩, fun _ _ _ _ h => (by cases h), fun h => absurd rfl h, fun _ h => (by cases h)⟩ (fun v s1 po => by
  have hv : ∃ x : Int32, v = some (.int x) ∧ _ := po.2.2.2.1
  obtain ⟨x, hx, -⟩ := hv
  subst hx
  exact hq s1 x po.1 (nJ_s hJ (po.2.1 3 (0, 12) rfl) (by rw [show s1.2.2.1 0 10 = s.2.2.1 0 10 from po.2.1 2 (0, 10) rfl]; exact Int.le_refl _)) (fun A h => aR_po po (by decide) h))
set_option maxRecDepth 100000 in
theorem pC_mean (Q : nk_Q) (s : nx_S) (a : Int32) (hInv : nx_Inv gC s) (hq : ∀ (s1 : nx_S) (r : Int32), nx_Inv gC s1 → (∀ A : AS, aC s A → aC s1 A) → Q (some (.int r)) (nx_enc s1 0 shC)) : ev_X5_mean [.ref 0, .int a] (nx_enc s 0 shC) Q := ct_X5_mean_0 0 s _ Q ⟨hInv, ⟨rfl, ⟨a, rfl, (na_i32 a).1, (na_i32 a).2, fun h => (by cases h)⟩, trivial⟩, fun _ _ _ _ h => (by cases h), fun h => absurd rfl h, fun _ h => (by cases h)⟩ (fun v s1 po => by
  have hv : ∃ x : Int32, v = some (.int x) ∧ _ := po.2.2.2.1
  obtain ⟨x, hx, -⟩ := hv
  subst hx
  exact hq s1 x po.1 (fun A h => aC_po po (by decide) h))
set_option maxRecDepth 100000 in
theorem pR_mean (Q : nk_Q) (s : nx_S) (a : Int32) (hInv : nx_Inv gR s) (hJ : nJ s) (hq : ∀ (s1 : nx_S) (r : Int32), nx_Inv gR s1 → nJ s1 → (∀ A : AS, aR s A → aR s1 A) → Q (some (.int r)) (nx_enc s1 0 shR)) : ev_X6_mean [.ref 0, .int a] (nx_enc s 0 shR) Q := ct_X6_mean_0 0 s _ Q ⟨hInv, ⟨rfl, ⟨a, rfl, (na_i32 a).1, (na_i32 a).2, fun h => (by cases h)⟩, trivial⟩, fun _ _ _ _ h => (by cases h), fun h => absurd rfl h, fun _ h => (by cases h)⟩ (fun v s1 po => by
  have hv : ∃ x : Int32, v = some (.int x) ∧ _ := po.2.2.2.1
  obtain ⟨x, hx, -⟩ := hv
  subst hx
  exact hq s1 x po.1 (nJ_s hJ (po.2.1 3 (0, 12) rfl) (by rw [show s1.2.2.1 0 10 = s.2.2.1 0 10 from po.2.1 2 (0, 10) rfl]; exact Int.le_refl _)) (fun A h => aR_po po (by decide) h))
set_option maxRecDepth 100000 in
theorem pC_text (Q : nk_Q) (s : nx_S) (a b : Int32) (hInv : nx_Inv gC s) (hq : ∀ (s1 : nx_S) (r : Int32), nx_Inv gC s1 → (∀ A : AS, aC s A → aC s1 A) → Q (some (.int r)) (nx_enc s1 0 shC)) : ev_X5_text [.ref 0, .int a, .int b] (nx_enc s 0 shC) Q := ct_X5_text_0 0 s _ Q ⟨hInv, ⟨rfl, ⟨a, rfl, (na_i32 a).1, (na_i32 a).2, fun h => (by cases h)⟩, ⟨b, rfl, (na_i32 b).1, (na_i32 b).2, fun h => (by cases h)⟩, trivial⟩, fun _ _ _ _ h => (by cases h), fun h => absurd rfl h, fun _ h => (by cases h)⟩ (fun v s1 po => by
  have hv : ∃ x : Int32, v = some (.int x) ∧ _ := po.2.2.2.1
  obtain ⟨x, hx, -⟩ := hv
  subst hx
  exact hq s1 x po.1 (fun A h => aC_po po (by decide) h))
set_option maxRecDepth 100000 in
theorem pR_text (Q : nk_Q) (s : nx_S) (a b : Int32) (hInv : nx_Inv gR s) (hJ : nJ s) (hq : ∀ (s1 : nx_S) (r : Int32), nx_Inv gR s1 → nJ s1 → (∀ A : AS, aR s A → aR s1 A) → Q (some (.int r)) (nx_enc s1 0 shR)) : ev_X6_text [.ref 0, .int a, .int b] (nx_enc s 0 shR) Q := ct_X6_text_0 0 s _ Q ⟨hInv, ⟨rfl, ⟨a, rfl, (na_i32 a).1, (na_i32 a).2, fun h => (by cases h)⟩, ⟨b, rfl, (na_i32 b).1, (na_i32 b).2, fun h => (by cases h)⟩, trivial⟩, fun _ _ _ _ h => (by cases h), fun h => absurd rfl h, fun _ h => (by cases h)⟩ (fun v s1 po => by
  have hv : ∃ x : Int32, v = some (.int x) ∧ _ := po.2.2.2.1
  obtain ⟨x, hx, -⟩ := hv
  subst hx
  exact hq s1 x po.1 (nJ_s hJ (po.2.1 3 (0, 12) rfl) (by rw [show s1.2.2.1 0 10 = s.2.2.1 0 10 from po.2.1 2 (0, 10) rfl]; exact Int.le_refl _)) (fun A h => aR_po po (by decide) h))
set_option maxRecDepth 100000 in
theorem pC_put (Q : nk_Q) (s : nx_S) (a b c : Int32) (hInv : nx_Inv gC s) (hq : ∀ (s1 : nx_S) (r : Int32), nx_Inv gC s1 → (∀ A : AS, aC s A → aC s1 A) → Q (some (.int r)) (nx_enc s1 0 shC)) : ev_X5_put [.ref 0, .int a, .int b, .int c] (nx_enc s 0 shC) Q := ct_X5_put_0 0 s _ Q ⟨hInv, ⟨rfl, ⟨a, rfl, (na_i32 a).1, (na_i32 a).2, fun h => (by cases h)⟩, ⟨b, rfl, (na_i32 b).1, (na_i32 b).2, fun h => (by cases h)⟩, ⟨c, rfl, (na_i32 c).1, (na_i32 c).2, fun h => (by cases h)⟩, trivial⟩, fun _ _ _ _ h => (by cases h), fun h => absurd rfl h, fun _ h => (by cases h)⟩ (fun v s1 po => by
  have hv : ∃ x : Int32, v = some (.int x) ∧ _ := po.2.2.2.1
  obtain ⟨x, hx, -⟩ := hv
  subst hx
  exact hq s1 x po.1 (fun A h => aC_po po (by decide) h))
set_option maxRecDepth 100000 in
theorem pR_put (Q : nk_Q) (s : nx_S) (a b c : Int32) (hInv : nx_Inv gR s) (hJ : nJ s) (hq : ∀ (s1 : nx_S) (r : Int32), nx_Inv gR s1 → nJ s1 → (∀ A : AS, aR s A → aR s1 A) → Q (some (.int r)) (nx_enc s1 0 shR)) : ev_X6_put [.ref 0, .int a, .int b, .int c] (nx_enc s 0 shR) Q := ct_X6_put_0 0 s _ Q ⟨hInv, ⟨rfl, ⟨a, rfl, (na_i32 a).1, (na_i32 a).2, fun h => (by cases h)⟩, ⟨b, rfl, (na_i32 b).1, (na_i32 b).2, fun h => (by cases h)⟩, ⟨c, rfl, (na_i32 c).1, (na_i32 c).2, fun h => (by cases h)⟩, trivial⟩, fun _ _ _ _ h => (by cases h), fun h => absurd rfl h, fun _ h => (by cases h)⟩ (fun v s1 po => by
  have hv : ∃ x : Int32, v = some (.int x) ∧ _ := po.2.2.2.1
  obtain ⟨x, hx, -⟩ := hv
  subst hx
  exact hq s1 x po.1 (nJ_s hJ (po.2.1 3 (0, 12) rfl) (by rw [show s1.2.2.1 0 10 = s.2.2.1 0 10 from po.2.1 2 (0, 10) rfl]; exact Int.le_refl _)) (fun A h => aR_po po (by decide) h))
set_option maxRecDepth 100000 in
theorem pC_mark (Q : nk_Q) (s : nx_S) (a b : Int32) (hInv : nx_Inv gC s) (hq : ∀ (s1 : nx_S) (r : Int32), nx_Inv gC s1 → (∀ A : AS, aC s A → aC s1 A) → Q (some (.int r)) (nx_enc s1 0 shC)) : ev_X5_mark [.ref 0, .int a, .int b] (nx_enc s 0 shC) Q := ct_X5_mark_0 0 s _ Q ⟨hInv, ⟨rfl, ⟨a, rfl, (na_i32 a).1, (na_i32 a).2, fun h => (by cases h)⟩, ⟨b, rfl, (na_i32 b).1, (na_i32 b).2, fun h => (by cases h)⟩, trivial⟩, fun _ _ _ _ h => (by cases h), fun h => absurd rfl h, fun _ h => (by cases h)⟩ (fun v s1 po => by
  have hv : ∃ x : Int32, v = some (.int x) ∧ _ := po.2.2.2.1
  obtain ⟨x, hx, -⟩ := hv
  subst hx
  exact hq s1 x po.1 (fun A h => aC_po po (by decide) h))
set_option maxRecDepth 100000 in
theorem pR_mark (Q : nk_Q) (s : nx_S) (a b : Int32) (hInv : nx_Inv gR s) (hJ : nJ s) (hq : ∀ (s1 : nx_S) (r : Int32), nx_Inv gR s1 → nJ s1 → (∀ A : AS, aR s A → aR s1 A) → Q (some (.int r)) (nx_enc s1 0 shR)) : ev_X6_mark [.ref 0, .int a, .int b] (nx_enc s 0 shR) Q := ct_X6_mark_0 0 s _ Q ⟨hInv, ⟨rfl, ⟨a, rfl, (na_i32 a).1, (na_i32 a).2, fun h => (by cases h)⟩, ⟨b, rfl, (na_i32 b).1, (na_i32 b).2, fun h => (by cases h)⟩, trivial⟩, fun _ _ _ _ h => (by cases h), fun h => absurd rfl h, fun _ h => (by cases h)⟩ (fun v s1 po => by
  have hv : ∃ x : Int32, v = some (.int x) ∧ _ := po.2.2.2.1
  obtain ⟨x, hx, -⟩ := hv
  subst hx
  exact hq s1 x po.1 (nJ_s hJ (po.2.1 3 (0, 12) rfl) (by rw [show s1.2.2.1 0 10 = s.2.2.1 0 10 from po.2.1 2 (0, 10) rfl]; exact Int.le_refl _)) (fun A h => aR_po po (by decide) h))
set_option maxRecDepth 100000 in
theorem pC_fault (Q : nk_Q) (s : nx_S) (a : Int32) (hInv : nx_Inv gC s) (hq : ∀ (s1 : nx_S) (r : Int32), nx_Inv gC s1 → (∀ A : AS, aC s A → aC s1 A) → Q (some (.int r)) (nx_enc s1 0 shC)) : ev_X5_fault [.ref 0, .int a] (nx_enc s 0 shC) Q := ct_X5_fault_0 0 s _ Q ⟨hInv, ⟨rfl, ⟨a, rfl, (na_i32 a).1, (na_i32 a).2, fun h => (by cases h)⟩, trivial⟩, fun _ _ _ _ h => (by cases h), fun h => absurd rfl h, fun _ h => (by cases h)⟩ (fun v s1 po => by
  have hv : ∃ x : Int32, v = some (.int x) ∧ _ := po.2.2.2.1
  obtain ⟨x, hx, -⟩ := hv
  subst hx
  exact hq s1 x po.1 (fun A h => aC_po po (by decide) h))
set_option maxRecDepth 100000 in
theorem pR_fault (Q : nk_Q) (s : nx_S) (a : Int32) (hInv : nx_Inv gR s) (hJ : nJ s) (hq : ∀ (s1 : nx_S) (r : Int32), nx_Inv gR s1 → nJ s1 → (∀ A : AS, aR s A → aR s1 A) → Q (some (.int r)) (nx_enc s1 0 shR)) : ev_X6_fault [.ref 0, .int a] (nx_enc s 0 shR) Q := ct_X6_fault_0 0 s _ Q ⟨hInv, ⟨rfl, ⟨a, rfl, (na_i32 a).1, (na_i32 a).2, fun h => (by cases h)⟩, trivial⟩, fun _ _ _ _ h => (by cases h), fun h => absurd rfl h, fun _ h => (by cases h)⟩ (fun v s1 po => by
  have hv : ∃ x : Int32, v = some (.int x) ∧ _ := po.2.2.2.1
  obtain ⟨x, hx, -⟩ := hv
  subst hx
  exact hq s1 x po.1 (nJ_s hJ (po.2.1 3 (0, 12) rfl) (by rw [show s1.2.2.1 0 10 = s.2.2.1 0 10 from po.2.1 2 (0, 10) rfl]; exact Int.le_refl _)) (fun A h => aR_po po (by decide) h))
set_option maxRecDepth 100000 in
theorem pC_laws (Q : nk_Q) (s : nx_S) (a b : Int32) (hInv : nx_Inv gC s) (hq : ∀ (s1 : nx_S) (r : Int32), nx_Inv gC s1 → (∀ A : AS, aC s A → aC s1 A) → Q (some (.int r)) (nx_enc s1 0 shC)) : ev_X5_laws [.ref 0, .int a, .int b] (nx_enc s 0 shC) Q := ct_X5_laws_0 0 s _ Q ⟨hInv, ⟨rfl, ⟨a, rfl, (na_i32 a).1, (na_i32 a).2, fun h => (by cases h)⟩, ⟨b, rfl, (na_i32 b).1, (na_i32 b).2, fun h => (by cases h)⟩, trivial⟩, fun _ _ _ _ h => (by cases h), fun h => absurd rfl h, fun _ h => (by cases h)⟩ (fun v s1 po => by
  have hv : ∃ x : Int32, v = some (.int x) ∧ _ := po.2.2.2.1
  obtain ⟨x, hx, -⟩ := hv
  subst hx
  exact hq s1 x po.1 (fun A h => aC_po po (by decide) h))
set_option maxRecDepth 100000 in
theorem pR_laws (Q : nk_Q) (s : nx_S) (a b : Int32) (hInv : nx_Inv gR s) (hJ : nJ s) (hq : ∀ (s1 : nx_S) (r : Int32), nx_Inv gR s1 → nJ s1 → (∀ A : AS, aR s A → aR s1 A) → Q (some (.int r)) (nx_enc s1 0 shR)) : ev_X6_laws [.ref 0, .int a, .int b] (nx_enc s 0 shR) Q := ct_X6_laws_0 0 s _ Q ⟨hInv, ⟨rfl, ⟨a, rfl, (na_i32 a).1, (na_i32 a).2, fun h => (by cases h)⟩, ⟨b, rfl, (na_i32 b).1, (na_i32 b).2, fun h => (by cases h)⟩, trivial⟩, fun _ _ _ _ h => (by cases h), fun h => absurd rfl h, fun _ h => (by cases h)⟩ (fun v s1 po => by
  have hv : ∃ x : Int32, v = some (.int x) ∧ _ := po.2.2.2.1
  obtain ⟨x, hx, -⟩ := hv
  subst hx
  exact hq s1 x po.1 (nJ_s hJ (po.2.1 3 (0, 12) rfl) (by rw [show s1.2.2.1 0 10 = s.2.2.1 0 10 from po.2.1 2 (0, 10) rfl]; exact Int.le_refl _)) (fun A h => aR_po po (by decide) h))
set_option maxRecDepth 100000 in
theorem pC_law (Q : nk_Q) (s : nx_S) (a : Int32) (hInv : nx_Inv gC s) (hq : ∀ (s1 : nx_S) (r : Int32), nx_Inv gC s1 → (∀ A : AS, aC s A → aC s1 A) → Q (some (.int r)) (nx_enc s1 0 shC)) : ev_X5_law [.ref 0, .int a] (nx_enc s 0 shC) Q := ct_X5_law_0 0 s _ Q ⟨hInv, ⟨rfl, ⟨a, rfl, (na_i32 a).1, (na_i32 a).2, fun h => (by cases h)⟩, trivial⟩, fun _ _ _ _ h => (by cases h), fun h => absurd rfl h, fun _ h => (by cases h)⟩ (fun v s1 po => by
  have hv : ∃ x : Int32, v = some (.int x) ∧ _ := po.2.2.2.1
  obtain ⟨x, hx, -⟩ := hv
  subst hx
  exact hq s1 x po.1 (fun A h => aC_po po (by decide) h))
set_option maxRecDepth 100000 in
theorem pR_law (Q : nk_Q) (s : nx_S) (a : Int32) (hInv : nx_Inv gR s) (hJ : nJ s) (hq : ∀ (s1 : nx_S) (r : Int32), nx_Inv gR s1 → nJ s1 → (∀ A : AS, aR s A → aR s1 A) → Q (some (.int r)) (nx_enc s1 0 shR)) : ev_X6_law [.ref 0, .int a] (nx_enc s 0 shR) Q := ct_X6_law_0 0 s _ Q ⟨hInv, ⟨rfl, ⟨a, rfl, (na_i32 a).1, (na_i32 a).2, fun h => (by cases h)⟩, trivial⟩, fun _ _ _ _ h => (by cases h), fun h => absurd rfl h, fun _ h => (by cases h)⟩ (fun v s1 po => by
  have hv : ∃ x : Int32, v = some (.int x) ∧ _ := po.2.2.2.1
  obtain ⟨x, hx, -⟩ := hv
  subst hx
  exact hq s1 x po.1 (nJ_s hJ (po.2.1 3 (0, 12) rfl) (by rw [show s1.2.2.1 0 10 = s.2.2.1 0 10 from po.2.1 2 (0, 10) rfl]; exact Int.le_refl _)) (fun A h => aR_po po (by decide) h))
set_option maxRecDepth 100000 in
theorem pC_inside (Q : nk_Q) (s : nx_S) (a b : Int32) (hInv : nx_Inv gC s) (hq : ∀ (s1 : nx_S) (r : Int32), nx_Inv gC s1 → (∀ A : AS, aC s A → aC s1 A) → Q (some (.int r)) (nx_enc s1 0 shC)) : ev_X5_inside [.ref 0, .int a, .int b] (nx_enc s 0 shC) Q := ct_X5_inside_0 0 s _ Q ⟨hInv, ⟨rfl, ⟨a, rfl, (na_i32 a).1, (na_i32 a).2, fun h => (by cases h)⟩, ⟨b, rfl, (na_i32 b).1, (na_i32 b).2, fun h => (by cases h)⟩, trivial⟩, fun _ _ _ _ h => (by cases h), fun h => absurd rfl h, fun _ h => (by cases h)⟩ (fun v s1 po => by
  have hv : ∃ x : Int32, v = some (.int x) ∧ _ := po.2.2.2.1
  obtain ⟨x, hx, -⟩ := hv
  subst hx
  exact hq s1 x po.1 (fun A h => aC_po po (by decide) h))
set_option maxRecDepth 100000 in
theorem pR_inside (Q : nk_Q) (s : nx_S) (a b : Int32) (hInv : nx_Inv gR s) (hJ : nJ s) (hq : ∀ (s1 : nx_S) (r : Int32), nx_Inv gR s1 → nJ s1 → (∀ A : AS, aR s A → aR s1 A) → Q (some (.int r)) (nx_enc s1 0 shR)) : ev_X6_inside [.ref 0, .int a, .int b] (nx_enc s 0 shR) Q := ct_X6_inside_0 0 s _ Q ⟨hInv, ⟨rfl, ⟨a, rfl, (na_i32 a).1, (na_i32 a).2, fun h => (by cases h)⟩, ⟨b, rfl, (na_i32 b).1, (na_i32 b).2, fun h => (by cases h)⟩, trivial⟩, fun _ _ _ _ h => (by cases h), fun h => absurd rfl h, fun _ h => (by cases h)⟩ (fun v s1 po => by
  have hv : ∃ x : Int32, v = some (.int x) ∧ _ := po.2.2.2.1
  obtain ⟨x, hx, -⟩ := hv
  subst hx
  exact hq s1 x po.1 (nJ_s hJ (po.2.1 3 (0, 12) rfl) (by rw [show s1.2.2.1 0 10 = s.2.2.1 0 10 from po.2.1 2 (0, 10) rfl]; exact Int.le_refl _)) (fun A h => aR_po po (by decide) h))
set_option maxRecDepth 100000 in
theorem pC_now (Q : nk_Q) (s : nx_S) (a b c : Int32) (hInv : nx_Inv gC s) (hq : ∀ (s1 : nx_S) (r : Int32), nx_Inv gC s1 → (∀ A : AS, aC s A → aC s1 A) → Q (some (.int r)) (nx_enc s1 0 shC)) : ev_X5_now [.ref 0, .int a, .int b, .int c] (nx_enc s 0 shC) Q := ct_X5_now_0 0 s _ Q ⟨hInv, ⟨rfl, ⟨a, rfl, (na_i32 a).1, (na_i32 a).2, fun h => (by cases h)⟩, ⟨b, rfl, (na_i32 b).1, (na_i32 b).2, fun h => (by cases h)⟩, ⟨c, rfl, (na_i32 c).1, (na_i32 c).2, fun h => (by cases h)⟩, trivial⟩, fun _ _ _ _ h => (by cases h), fun h => absurd rfl h, fun _ h => (by cases h)⟩ (fun v s1 po => by
  have hv : ∃ x : Int32, v = some (.int x) ∧ _ := po.2.2.2.1
  obtain ⟨x, hx, -⟩ := hv
  subst hx
  exact hq s1 x po.1 (fun A h => aC_po po (by decide) h))
set_option maxRecDepth 100000 in
theorem pR_now (Q : nk_Q) (s : nx_S) (a b c : Int32) (hInv : nx_Inv gR s) (hJ : nJ s) (hq : ∀ (s1 : nx_S) (r : Int32), nx_Inv gR s1 → nJ s1 → (∀ A : AS, aR s A → aR s1 A) → Q (some (.int r)) (nx_enc s1 0 shR)) : ev_X6_now [.ref 0, .int a, .int b, .int c] (nx_enc s 0 shR) Q := ct_X6_now_0 0 s _ Q ⟨hInv, ⟨rfl, ⟨a, rfl, (na_i32 a).1, (na_i32 a).2, fun h => (by cases h)⟩, ⟨b, rfl, (na_i32 b).1, (na_i32 b).2, fun h => (by cases h)⟩, ⟨c, rfl, (na_i32 c).1, (na_i32 c).2, fun h => (by cases h)⟩, trivial⟩, fun _ _ _ _ h => (by cases h), fun h => absurd rfl h, fun _ h => (by cases h)⟩ (fun v s1 po => by
  have hv : ∃ x : Int32, v = some (.int x) ∧ _ := po.2.2.2.1
  obtain ⟨x, hx, -⟩ := hv
  subst hx
  exact hq s1 x po.1 (nJ_s hJ (po.2.1 3 (0, 12) rfl) (by rw [show s1.2.2.1 0 10 = s.2.2.1 0 10 from po.2.1 2 (0, 10) rfl]; exact Int.le_refl _)) (fun A h => aR_po po (by decide) h))
set_option maxRecDepth 100000 in
theorem pC_whose (Q : nk_Q) (s : nx_S) (a b c d e : Int32) (hInv : nx_Inv gC s) (hq : ∀ (s1 : nx_S) (r : Int32), nx_Inv gC s1 → (∀ A : AS, aC s A → aC s1 A) → Q (some (.int r)) (nx_enc s1 0 shC)) : ev_X5_whose [.ref 0, .int a, .int b, .int c, .int d, .int e] (nx_enc s 0 shC) Q := ct_X5_whose_0 0 s _ Q ⟨hInv, ⟨rfl, ⟨a, rfl, (na_i32 a).1, (na_i32 a).2, fun h => (by cases h)⟩, ⟨b, rfl, (na_i32 b).1, (na_i32 b).2, fun h => (by cases h)⟩, ⟨c, rfl, (na_i32 c).1, (na_i32 c).2, fun h => (by cases h)⟩, ⟨d, rfl, (na_i32 d).1, (na_i32 d).2, fun h => (by cases h)⟩, ⟨e, rfl, (na_i32 e).1, (na_i32 e).2, fun h => (by cases h)⟩, trivial⟩, fun _ _ _ _ h => (by cases h), fun h => absurd rfl h, fun _ h => (by cases h)⟩ (fun v s1 po => by
  have hv : ∃ x : Int32, v = some (.int x) ∧ _ := po.2.2.2.1
  obtain ⟨x, hx, -⟩ := hv
  subst hx
  exact hq s1 x po.1 (fun A h => aC_po po (by decide) h))
theorem pR_whose (Q : nk_Q) (s : nx_S) (a b c d e : Int32) (hInv : nx_Inv gR s) (hJ : nJ s) (hq : ∀ (s1 : nx_S) (r : Int32), nx_Inv gR s1 → nJ s1 → (∀ A : AS, aR s A → aR s1 A) → Q (some (.int r)) (nx_enc s1 0 shR)) : ev_X6_whose [.ref 0, .int a, .int b, .int c, .int d, .int e] (nx_enc s 0 shR) Q := wh_R Q s a b c d e hInv (fun s1 r h1 h2 => hq s1 r h1 (nJ_hd hJ h2) (fun A h => aR_hd h2 h))
set_option maxRecDepth 100000 in
theorem pC_owners (Q : nk_Q) (s : nx_S) (a b c d : Int32) (hInv : nx_Inv gC s) (hq : ∀ (s1 : nx_S) (r : Int32), nx_Inv gC s1 → (∀ A : AS, aC s A → aC s1 A) → Q (some (.int r)) (nx_enc s1 0 shC)) : ev_X5_owners [.ref 0, .int a, .int b, .int c, .int d] (nx_enc s 0 shC) Q := ct_X5_owners_0 0 s _ Q ⟨hInv, ⟨rfl, ⟨a, rfl, (na_i32 a).1, (na_i32 a).2, fun h => (by cases h)⟩, ⟨b, rfl, (na_i32 b).1, (na_i32 b).2, fun h => (by cases h)⟩, ⟨c, rfl, (na_i32 c).1, (na_i32 c).2, fun h => (by cases h)⟩, ⟨d, rfl, (na_i32 d).1, (na_i32 d).2, fun h => (by cases h)⟩, trivial⟩, fun _ _ _ _ h => (by cases h), fun h => absurd rfl h, fun _ h => (by cases h)⟩ (fun v s1 po => by
  have hv : ∃ x : Int32, v = some (.int x) ∧ _ := po.2.2.2.1
  obtain ⟨x, hx, -⟩ := hv
  subst hx
  exact hq s1 x po.1 (fun A h => aC_po po (by decide) h))
set_option maxRecDepth 100000 in
theorem pR_owners (Q : nk_Q) (s : nx_S) (a b c d : Int32) (hInv : nx_Inv gR s) (hJ : nJ s) (hq : ∀ (s1 : nx_S) (r : Int32), nx_Inv gR s1 → nJ s1 → (∀ A : AS, aR s A → aR s1 A) → Q (some (.int r)) (nx_enc s1 0 shR)) : ev_X6_owners [.ref 0, .int a, .int b, .int c, .int d] (nx_enc s 0 shR) Q := ct_X6_owners_0 0 s _ Q ⟨hInv, ⟨rfl, ⟨a, rfl, (na_i32 a).1, (na_i32 a).2, fun h => (by cases h)⟩, ⟨b, rfl, (na_i32 b).1, (na_i32 b).2, fun h => (by cases h)⟩, ⟨c, rfl, (na_i32 c).1, (na_i32 c).2, fun h => (by cases h)⟩, ⟨d, rfl, (na_i32 d).1, (na_i32 d).2, fun h => (by cases h)⟩, trivial⟩, fun _ _ _ _ h => (by cases h), fun h => absurd rfl h, fun _ h => (by cases h)⟩ (fun v s1 po => by
  have hv : ∃ x : Int32, v = some (.int x) ∧ _ := po.2.2.2.1
  obtain ⟨x, hx, -⟩ := hv
  subst hx
  exact hq s1 x po.1 (nJ_s hJ (po.2.1 3 (0, 12) rfl) (by rw [show s1.2.2.1 0 10 = s.2.2.1 0 10 from po.2.1 2 (0, 10) rfl]; exact Int.le_refl _)) (fun A h => aR_po po (by decide) h))
set_option maxRecDepth 100000 in
theorem pC_changes (Q : nk_Q) (s : nx_S) (a b c d : Int32) (hInv : nx_Inv gC s) (hq : ∀ (s1 : nx_S) (r : Int32), nx_Inv gC s1 → (∀ A : AS, aC s A → aC s1 A) → Q (some (.int r)) (nx_enc s1 0 shC)) : ev_X5_changes [.ref 0, .int a, .int b, .int c, .int d] (nx_enc s 0 shC) Q := ct_X5_changes_0 0 s _ Q ⟨hInv, ⟨rfl, ⟨a, rfl, (na_i32 a).1, (na_i32 a).2, fun h => (by cases h)⟩, ⟨b, rfl, (na_i32 b).1, (na_i32 b).2, fun h => (by cases h)⟩, ⟨c, rfl, (na_i32 c).1, (na_i32 c).2, fun h => (by cases h)⟩, ⟨d, rfl, (na_i32 d).1, (na_i32 d).2, fun h => (by cases h)⟩, trivial⟩, fun _ _ _ _ h => (by cases h), fun h => absurd rfl h, fun _ h => (by cases h)⟩ (fun v s1 po => by
  have hv : ∃ x : Int32, v = some (.int x) ∧ _ := po.2.2.2.1
  obtain ⟨x, hx, -⟩ := hv
  subst hx
  exact hq s1 x po.1 (fun A h => aC_po po (by decide) h))
set_option maxRecDepth 100000 in
theorem pR_changes (Q : nk_Q) (s : nx_S) (a b c d : Int32) (hInv : nx_Inv gR s) (hJ : nJ s) (hq : ∀ (s1 : nx_S) (r : Int32), nx_Inv gR s1 → nJ s1 → (∀ A : AS, aR s A → aR s1 A) → Q (some (.int r)) (nx_enc s1 0 shR)) : ev_X6_changes [.ref 0, .int a, .int b, .int c, .int d] (nx_enc s 0 shR) Q := ct_X6_changes_0 0 s _ Q ⟨hInv, ⟨rfl, ⟨a, rfl, (na_i32 a).1, (na_i32 a).2, fun h => (by cases h)⟩, ⟨b, rfl, (na_i32 b).1, (na_i32 b).2, fun h => (by cases h)⟩, ⟨c, rfl, (na_i32 c).1, (na_i32 c).2, fun h => (by cases h)⟩, ⟨d, rfl, (na_i32 d).1, (na_i32 d).2, fun h => (by cases h)⟩, trivial⟩, fun _ _ _ _ h => (by cases h), fun h => absurd rfl h, fun _ h => (by cases h)⟩ (fun v s1 po => by
  have hv : ∃ x : Int32, v = some (.int x) ∧ _ := po.2.2.2.1
  obtain ⟨x, hx, -⟩ := hv
  subst hx
  exact hq s1 x po.1 (nJ_s hJ (po.2.1 3 (0, 12) rfl) (by rw [show s1.2.2.1 0 10 = s.2.2.1 0 10 from po.2.1 2 (0, 10) rfl]; exact Int.le_refl _)) (fun A h => aR_po po (by decide) h))
set_option maxRecDepth 100000 in
theorem pC_lost (Q : nk_Q) (s : nx_S) (a b c d : Int32) (hInv : nx_Inv gC s) (hq : ∀ (s1 : nx_S) (r : Int32), nx_Inv gC s1 → (∀ A : AS, aC s A → aC s1 A) → Q (some (.int r)) (nx_enc s1 0 shC)) : ev_X5_lost [.ref 0, .int a, .int b, .int c, .int d] (nx_enc s 0 shC) Q := ct_X5_lost_0 0 s _ Q ⟨hInv, ⟨rfl, ⟨a, rfl, (na_i32 a).1, (na_i32 a).2, fun h => (by cases h)⟩, ⟨b, rfl, (na_i32 b).1, (na_i32 b).2, fun h => (by cases h)⟩, ⟨c, rfl, (na_i32 c).1, (na_i32 c).2, fun h => (by cases h)⟩, ⟨d, rfl, (na_i32 d).1, (na_i32 d).2, fun h => (by cases h)⟩, trivial⟩, fun _ _ _ _ h => (by cases h), fun h => absurd rfl h, fun _ h => (by cases h)⟩ (fun v s1 po => by
  have hv : ∃ x : Int32, v = some (.int x) ∧ _ := po.2.2.2.1
  obtain ⟨x, hx, -⟩ := hv
  subst hx
  exact hq s1 x po.1 (fun A h => aC_po po (by decide) h))
theorem pR_lost (Q : nk_Q) (s : nx_S) (a b c d : Int32) (hInv : nx_Inv gR s) (hJ : nJ s) (hq : ∀ (s1 : nx_S) (r : Int32), nx_Inv gR s1 → nJ s1 → (∀ A : AS, aR s A → aR s1 A) → Q (some (.int r)) (nx_enc s1 0 shR)) : ev_X6_lost [.ref 0, .int a, .int b, .int c, .int d] (nx_enc s 0 shR) Q := lo_R Q s a b c d hInv hJ (fun s1 r h1 h2 => hq s1 r h1 (nJ_hd hJ h2) (fun A h => aR_hd h2 h))
set_option maxRecDepth 100000 in
theorem pC_beside (Q : nk_Q) (s : nx_S) (a b c : Int32) (hInv : nx_Inv gC s) (hq : ∀ (s1 : nx_S) (r : Int32), nx_Inv gC s1 → (∀ A : AS, aC s A → aC s1 A) → Q (some (.int r)) (nx_enc s1 0 shC)) : ev_X5_beside [.ref 0, .int a, .int b, .int c] (nx_enc s 0 shC) Q := ct_X5_beside_0 0 s _ Q ⟨hInv, ⟨rfl, ⟨a, rfl, (na_i32 a).1, (na_i32 a).2, fun h => (by cases h)⟩, ⟨b, rfl, (na_i32 b).1, (na_i32 b).2, fun h => (by cases h)⟩, ⟨c, rfl, (na_i32 c).1, (na_i32 c).2, fun h => (by cases h)⟩, trivial⟩, fun _ _ _ _ h => (by cases h), fun h => absurd rfl h, fun _ h => (by cases h)⟩ (fun v s1 po => by
  have hv : ∃ x : Int32, v = some (.int x) ∧ _ := po.2.2.2.1
  obtain ⟨x, hx, -⟩ := hv
  subst hx
  exact hq s1 x po.1 (fun A h => aC_po po (by decide) h))
set_option maxRecDepth 100000 in
theorem pR_beside (Q : nk_Q) (s : nx_S) (a b c : Int32) (hInv : nx_Inv gR s) (hJ : nJ s) (hq : ∀ (s1 : nx_S) (r : Int32), nx_Inv gR s1 → nJ s1 → (∀ A : AS, aR s A → aR s1 A) → Q (some (.int r)) (nx_enc s1 0 shR)) : ev_X6_beside [.ref 0, .int a, .int b, .int c] (nx_enc s 0 shR) Q := ct_X6_beside_0 0 s _ Q ⟨hInv, ⟨rfl, ⟨a, rfl, (na_i32 a).1, (na_i32 a).2, fun h => (by cases h)⟩, ⟨b, rfl, (na_i32 b).1, (na_i32 b).2, fun h => (by cases h)⟩, ⟨c, rfl, (na_i32 c).1, (na_i32 c).2, fun h => (by cases h)⟩, trivial⟩, fun _ _ _ _ h => (by cases h), fun h => absurd rfl h, fun _ h => (by cases h)⟩ (fun v s1 po => by
  have hv : ∃ x : Int32, v = some (.int x) ∧ _ := po.2.2.2.1
  obtain ⟨x, hx, -⟩ := hv
  subst hx
  exact hq s1 x po.1 (nJ_s hJ (po.2.1 3 (0, 12) rfl) (by rw [show s1.2.2.1 0 10 = s.2.2.1 0 10 from po.2.1 2 (0, 10) rfl]; exact Int.le_refl _)) (fun A h => aR_po po (by decide) h))
set_option maxRecDepth 100000 in
theorem pC_undo (Q : nk_Q) (s : nx_S) (a b : Int32) (hInv : nx_Inv gC s) (hq : ∀ (s1 : nx_S) (r : Int32), nx_Inv gC s1 → (∀ A : AS, aC s A → aC s1 A) → Q (some (.int r)) (nx_enc s1 0 shC)) : ev_X5_undo [.ref 0, .int a, .int b] (nx_enc s 0 shC) Q := ct_X5_undo_0 0 s _ Q ⟨hInv, ⟨rfl, ⟨a, rfl, (na_i32 a).1, (na_i32 a).2, fun h => (by cases h)⟩, ⟨b, rfl, (na_i32 b).1, (na_i32 b).2, fun h => (by cases h)⟩, trivial⟩, fun _ _ _ _ h => (by cases h), fun h => absurd rfl h, fun _ h => (by cases h)⟩ (fun v s1 po => by
  have hv : ∃ x : Int32, v = some (.int x) ∧ _ := po.2.2.2.1
  obtain ⟨x, hx, -⟩ := hv
  subst hx
  exact hq s1 x po.1 (fun A h => aC_po po (by decide) h))
set_option maxRecDepth 100000 in
theorem pR_undo (Q : nk_Q) (s : nx_S) (a b : Int32) (hInv : nx_Inv gR s) (hJ : nJ s) (hq : ∀ (s1 : nx_S) (r : Int32), nx_Inv gR s1 → nJ s1 → (∀ A : AS, aR s A → aR s1 A) → Q (some (.int r)) (nx_enc s1 0 shR)) : ev_X6_undo [.ref 0, .int a, .int b] (nx_enc s 0 shR) Q := ct_X6_undo_0 0 s _ Q ⟨hInv, ⟨rfl, ⟨a, rfl, (na_i32 a).1, (na_i32 a).2, fun h => (by cases h)⟩, ⟨b, rfl, (na_i32 b).1, (na_i32 b).2, fun h => (by cases h)⟩, trivial⟩, fun _ _ _ _ h => (by cases h), fun h => absurd rfl h, fun _ h => (by cases h)⟩ (fun v s1 po => by
  have hv : ∃ x : Int32, v = some (.int x) ∧ _ := po.2.2.2.1
  obtain ⟨x, hx, -⟩ := hv
  subst hx
  exact hq s1 x po.1 (nJ_s hJ (po.2.1 3 (0, 12) rfl) (by rw [show s1.2.2.1 0 10 = s.2.2.1 0 10 from po.2.1 2 (0, 10) rfl]; exact Int.le_refl _)) (fun A h => aR_po po (by decide) h))
set_option maxRecDepth 100000 in
theorem pC_sure (Q : nk_Q) (s : nx_S) (a b c d : Int32) (hInv : nx_Inv gC s) (hq : ∀ (s1 : nx_S) (r : Int32), nx_Inv gC s1 → (∀ A : AS, aC s A → aC s1 A) → Q (some (.int r)) (nx_enc s1 0 shC)) : ev_X5_sure [.ref 0, .int a, .int b, .int c, .int d] (nx_enc s 0 shC) Q := ct_X5_sure_0 0 s _ Q ⟨hInv, ⟨rfl, ⟨a, rfl, (na_i32 a).1, (na_i32 a).2, fun h => (by cases h)⟩, ⟨b, rfl, (na_i32 b).1, (na_i32 b).2, fun h => (by cases h)⟩, ⟨c, rfl, (na_i32 c).1, (na_i32 c).2, fun h => (by cases h)⟩, ⟨d, rfl, (na_i32 d).1, (na_i32 d).2, fun h => (by cases h)⟩, trivial⟩, fun _ _ _ _ h => (by cases h), fun h => absurd rfl h, fun _ h => (by cases h)⟩ (fun v s1 po => by
  have hv : ∃ x : Int32, v = some (.int x) ∧ _ := po.2.2.2.1
  obtain ⟨x, hx, -⟩ := hv
  subst hx
  exact hq s1 x po.1 (fun A h => aC_po po (by decide) h))
set_option maxRecDepth 100000 in
theorem pR_sure (Q : nk_Q) (s : nx_S) (a b c d : Int32) (hInv : nx_Inv gR s) (hJ : nJ s) (hq : ∀ (s1 : nx_S) (r : Int32), nx_Inv gR s1 → nJ s1 → (∀ A : AS, aR s A → aR s1 A) → Q (some (.int r)) (nx_enc s1 0 shR)) : ev_X6_sure [.ref 0, .int a, .int b, .int c, .int d] (nx_enc s 0 shR) Q := ct_X6_sure_0 0 s _ Q ⟨hInv, ⟨rfl, ⟨a, rfl, (na_i32 a).1, (na_i32 a).2, fun h => (by cases h)⟩, ⟨b, rfl, (na_i32 b).1, (na_i32 b).2, fun h => (by cases h)⟩, ⟨c, rfl, (na_i32 c).1, (na_i32 c).2, fun h => (by cases h)⟩, ⟨d, rfl, (na_i32 d).1, (na_i32 d).2, fun h => (by cases h)⟩, trivial⟩, fun _ _ _ _ h => (by cases h), fun h => absurd rfl h, fun _ h => (by cases h)⟩ (fun v s1 po => by
  have hv : ∃ x : Int32, v = some (.int x) ∧ _ := po.2.2.2.1
  obtain ⟨x, hx, -⟩ := hv
  subst hx
  exact hq s1 x po.1 (nJ_s hJ (po.2.1 3 (0, 12) rfl) (by rw [show s1.2.2.1 0 10 = s.2.2.1 0 10 from po.2.1 2 (0, 10) rfl]; exact Int.le_refl _)) (fun A h => aR_po po (by decide) h))
set_option maxRecDepth 100000 in
theorem pC_hangs (Q : nk_Q) (s : nx_S) (a b c d : Int32) (hInv : nx_Inv gC s) (hq : ∀ (s1 : nx_S) (r : Int32), nx_Inv gC s1 → (∀ A : AS, aC s A → aC s1 A) → Q (some (.int r)) (nx_enc s1 0 shC)) : ev_X5_hangs [.ref 0, .int a, .int b, .int c, .int d] (nx_enc s 0 shC) Q := ct_X5_hangs_0 0 s _ Q ⟨hInv, ⟨rfl, ⟨a, rfl, (na_i32 a).1, (na_i32 a).2, fun h => (by cases h)⟩, ⟨b, rfl, (na_i32 b).1, (na_i32 b).2, fun h => (by cases h)⟩, ⟨c, rfl, (na_i32 c).1, (na_i32 c).2, fun h => (by cases h)⟩, ⟨d, rfl, (na_i32 d).1, (na_i32 d).2, fun h => (by cases h)⟩, trivial⟩, fun _ _ _ _ h => (by cases h), fun h => absurd rfl h, fun _ h => (by cases h)⟩ (fun v s1 po => by
  have hv : ∃ x : Int32, v = some (.int x) ∧ _ := po.2.2.2.1
  obtain ⟨x, hx, -⟩ := hv
  subst hx
  exact hq s1 x po.1 (fun A h => aC_po po (by decide) h))
set_option maxRecDepth 100000 in
theorem pR_hangs (Q : nk_Q) (s : nx_S) (a b c d : Int32) (hInv : nx_Inv gR s) (hJ : nJ s) (hq : ∀ (s1 : nx_S) (r : Int32), nx_Inv gR s1 → nJ s1 → (∀ A : AS, aR s A → aR s1 A) → Q (some (.int r)) (nx_enc s1 0 shR)) : ev_X6_hangs [.ref 0, .int a, .int b, .int c, .int d] (nx_enc s 0 shR) Q := ct_X6_hangs_0 0 s _ Q ⟨hInv, ⟨rfl, ⟨a, rfl, (na_i32 a).1, (na_i32 a).2, fun h => (by cases h)⟩, ⟨b, rfl, (na_i32 b).1, (na_i32 b).2, fun h => (by cases h)⟩, ⟨c, rfl, (na_i32 c).1, (na_i32 c).2, fun h => (by cases h)⟩, ⟨d, rfl, (na_i32 d).1, (na_i32 d).2, fun h => (by cases h)⟩, trivial⟩, fun _ _ _ _ h => (by cases h), fun h => absurd rfl h, fun _ h => (by cases h)⟩ (fun v s1 po => by
  have hv : ∃ x : Int32, v = some (.int x) ∧ _ := po.2.2.2.1
  obtain ⟨x, hx, -⟩ := hv
  subst hx
  exact hq s1 x po.1 (nJ_s hJ (po.2.1 3 (0, 12) rfl) (by rw [show s1.2.2.1 0 10 = s.2.2.1 0 10 from po.2.1 2 (0, 10) rfl]; exact Int.le_refl _)) (fun A h => aR_po po (by decide) h))
set_option maxRecDepth 100000 in
theorem pC_sly (Q : nk_Q) (s : nx_S) (a b c d : Int32) (hInv : nx_Inv gC s) (hq : ∀ (s1 : nx_S) (r : Int32), nx_Inv gC s1 → (∀ A : AS, aC s A → aC s1 A) → Q (some (.int r)) (nx_enc s1 0 shC)) : ev_X5_sly [.ref 0, .int a, .int b, .int c, .int d] (nx_enc s 0 shC) Q := ct_X5_sly_0 0 s _ Q ⟨hInv, ⟨rfl, ⟨a, rfl, (na_i32 a).1, (na_i32 a).2, fun h => (by cases h)⟩, ⟨b, rfl, (na_i32 b).1, (na_i32 b).2, fun h => (by cases h)⟩, ⟨c, rfl, (na_i32 c).1, (na_i32 c).2, fun h => (by cases h)⟩, ⟨d, rfl, (na_i32 d).1, (na_i32 d).2, fun h => (by cases h)⟩, trivial⟩, fun _ _ _ _ h => (by cases h), fun h => absurd rfl h, fun _ h => (by cases h)⟩ (fun v s1 po => by
  have hv : ∃ x : Int32, v = some (.int x) ∧ _ := po.2.2.2.1
  obtain ⟨x, hx, -⟩ := hv
  subst hx
  exact hq s1 x po.1 (fun A h => aC_po po (by decide) h))
set_option maxRecDepth 100000 in
theorem pR_sly (Q : nk_Q) (s : nx_S) (a b c d : Int32) (hInv : nx_Inv gR s) (hJ : nJ s) (hq : ∀ (s1 : nx_S) (r : Int32), nx_Inv gR s1 → nJ s1 → (∀ A : AS, aR s A → aR s1 A) → Q (some (.int r)) (nx_enc s1 0 shR)) : ev_X6_sly [.ref 0, .int a, .int b, .int c, .int d] (nx_enc s 0 shR) Q := ct_X6_sly_0 0 s _ Q ⟨hInv, ⟨rfl, ⟨a, rfl, (na_i32 a).1, (na_i32 a).2, fun h => (by cases h)⟩, ⟨b, rfl, (na_i32 b).1, (na_i32 b).2, fun h => (by cases h)⟩, ⟨c, rfl, (na_i32 c).1, (na_i32 c).2, fun h => (by cases h)⟩, ⟨d, rfl, (na_i32 d).1, (na_i32 d).2, fun h => (by cases h)⟩, trivial⟩, fun _ _ _ _ h => (by cases h), fun h => absurd rfl h, fun _ h => (by cases h)⟩ (fun v s1 po => by
  have hv : ∃ x : Int32, v = some (.int x) ∧ _ := po.2.2.2.1
  obtain ⟨x, hx, -⟩ := hv
  subst hx
  exact hq s1 x po.1 (nJ_s hJ (po.2.1 3 (0, 12) rfl) (by rw [show s1.2.2.1 0 10 = s.2.2.1 0 10 from po.2.1 2 (0, 10) rfl]; exact Int.le_refl _)) (fun A h => aR_po po (by decide) h))
set_option maxRecDepth 100000 in
theorem pC_stop (Q : nk_Q) (s : nx_S) (a b c d : Int32) (hInv : nx_Inv gC s) (hq : ∀ (s1 : nx_S) (r : Int32), nx_Inv gC s1 → (∀ A : AS, aC s A → aC s1 A) → Q (some (.int r)) (nx_enc s1 0 shC)) : ev_X5_stop [.ref 0, .int a, .int b, .int c, .int d] (nx_enc s 0 shC) Q := ct_X5_stop_0 0 s _ Q ⟨hInv, ⟨rfl, ⟨a, rfl, (na_i32 a).1, (na_i32 a).2, fun h => (by cases h)⟩, ⟨b, rfl, (na_i32 b).1, (na_i32 b).2, fun h => (by cases h)⟩, ⟨c, rfl, (na_i32 c).1, (na_i32 c).2, fun h => (by cases h)⟩, ⟨d, rfl, (na_i32 d).1, (na_i32 d).2, fun h => (by cases h)⟩, trivial⟩, fun _ _ _ _ h => (by cases h), fun h => absurd rfl h, fun _ h => (by cases h)⟩ (fun v s1 po => by
  have hv : ∃ x : Int32, v = some (.int x) ∧ _ := po.2.2.2.1
  obtain ⟨x, hx, -⟩ := hv
  subst hx
  exact hq s1 x po.1 (fun A h => aC_po po (by decide) h))
set_option maxRecDepth 100000 in
theorem pR_stop (Q : nk_Q) (s : nx_S) (a b c d : Int32) (hInv : nx_Inv gR s) (hJ : nJ s) (hq : ∀ (s1 : nx_S) (r : Int32), nx_Inv gR s1 → nJ s1 → (∀ A : AS, aR s A → aR s1 A) → Q (some (.int r)) (nx_enc s1 0 shR)) : ev_X6_stop [.ref 0, .int a, .int b, .int c, .int d] (nx_enc s 0 shR) Q := ct_X6_stop_0 0 s _ Q ⟨hInv, ⟨rfl, ⟨a, rfl, (na_i32 a).1, (na_i32 a).2, fun h => (by cases h)⟩, ⟨b, rfl, (na_i32 b).1, (na_i32 b).2, fun h => (by cases h)⟩, ⟨c, rfl, (na_i32 c).1, (na_i32 c).2, fun h => (by cases h)⟩, ⟨d, rfl, (na_i32 d).1, (na_i32 d).2, fun h => (by cases h)⟩, trivial⟩, fun _ _ _ _ h => (by cases h), fun h => absurd rfl h, fun _ h => (by cases h)⟩ (fun v s1 po => by
  have hv : ∃ x : Int32, v = some (.int x) ∧ _ := po.2.2.2.1
  obtain ⟨x, hx, -⟩ := hv
  subst hx
  exact hq s1 x po.1 (nJ_s hJ (po.2.1 3 (0, 12) rfl) (by rw [show s1.2.2.1 0 10 = s.2.2.1 0 10 from po.2.1 2 (0, 10) rfl]; exact Int.le_refl _)) (fun A h => aR_po po (by decide) h))
set_option maxRecDepth 100000 in
theorem pC_inTime (Q : nk_Q) (s : nx_S) (a b c : Int32) (hInv : nx_Inv gC s) (hq : ∀ (s1 : nx_S) (r : Int32), nx_Inv gC s1 → (∀ A : AS, aC s A → aC s1 A) → Q (some (.int r)) (nx_enc s1 0 shC)) : ev_X5_inTime [.ref 0, .int a, .int b, .int c] (nx_enc s 0 shC) Q := ct_X5_inTime_0 0 s _ Q ⟨hInv, ⟨rfl, ⟨a, rfl, (na_i32 a).1, (na_i32 a).2, fun h => (by cases h)⟩, ⟨b, rfl, (na_i32 b).1, (na_i32 b).2, fun h => (by cases h)⟩, ⟨c, rfl, (na_i32 c).1, (na_i32 c).2, fun h => (by cases h)⟩, trivial⟩, fun _ _ _ _ h => (by cases h), fun h => absurd rfl h, fun _ h => (by cases h)⟩ (fun v s1 po => by
  have hv : ∃ x : Int32, v = some (.int x) ∧ _ := po.2.2.2.1
  obtain ⟨x, hx, -⟩ := hv
  subst hx
  exact hq s1 x po.1 (fun A h => aC_po po (by decide) h))
set_option maxRecDepth 100000 in
theorem pR_inTime (Q : nk_Q) (s : nx_S) (a b c : Int32) (hInv : nx_Inv gR s) (hJ : nJ s) (hq : ∀ (s1 : nx_S) (r : Int32), nx_Inv gR s1 → nJ s1 → (∀ A : AS, aR s A → aR s1 A) → Q (some (.int r)) (nx_enc s1 0 shR)) : ev_X6_inTime [.ref 0, .int a, .int b, .int c] (nx_enc s 0 shR) Q := ct_X6_inTime_0 0 s _ Q ⟨hInv, ⟨rfl, ⟨a, rfl, (na_i32 a).1, (na_i32 a).2, fun h => (by cases h)⟩, ⟨b, rfl, (na_i32 b).1, (na_i32 b).2, fun h => (by cases h)⟩, ⟨c, rfl, (na_i32 c).1, (na_i32 c).2, fun h => (by cases h)⟩, trivial⟩, fun _ _ _ _ h => (by cases h), fun h => absurd rfl h, fun _ h => (by cases h)⟩ (fun v s1 po => by
  have hv : ∃ x : Int32, v = some (.int x) ∧ _ := po.2.2.2.1
  obtain ⟨x, hx, -⟩ := hv
  subst hx
  exact hq s1 x po.1 (nJ_s hJ (po.2.1 3 (0, 12) rfl) (by rw [show s1.2.2.1 0 10 = s.2.2.1 0 10 from po.2.1 2 (0, 10) rfl]; exact Int.le_refl _)) (fun A h => aR_po po (by decide) h))
set_option maxRecDepth 100000 in
theorem pC_heap (Q : nk_Q) (s : nx_S) (a b c : Int32) (hInv : nx_Inv gC s) (hq : ∀ (s1 : nx_S) (r : Int32), nx_Inv gC s1 → (∀ A : AS, aC s A → aC s1 A) → Q (some (.int r)) (nx_enc s1 0 shC)) : ev_X5_heap [.ref 0, .int a, .int b, .int c] (nx_enc s 0 shC) Q := ct_X5_heap_0 0 s _ Q ⟨hInv, ⟨rfl, ⟨a, rfl, (na_i32 a).1, (na_i32 a).2, fun h => (by cases h)⟩, ⟨b, rfl, (na_i32 b).1, (na_i32 b).2, fun h => (by cases h)⟩, ⟨c, rfl, (na_i32 c).1, (na_i32 c).2, fun h => (by cases h)⟩, trivial⟩, fun _ _ _ _ h => (by cases h), fun h => absurd rfl h, fun _ h => (by cases h)⟩ (fun v s1 po => by
  have hv : ∃ x : Int32, v = some (.int x) ∧ _ := po.2.2.2.1
  obtain ⟨x, hx, -⟩ := hv
  subst hx
  exact hq s1 x po.1 (fun A h => aC_po po (by decide) h))
set_option maxRecDepth 100000 in
theorem pR_heap (Q : nk_Q) (s : nx_S) (a b c : Int32) (hInv : nx_Inv gR s) (hJ : nJ s) (hq : ∀ (s1 : nx_S) (r : Int32), nx_Inv gR s1 → nJ s1 → (∀ A : AS, aR s A → aR s1 A) → Q (some (.int r)) (nx_enc s1 0 shR)) : ev_X6_heap [.ref 0, .int a, .int b, .int c] (nx_enc s 0 shR) Q := ct_X6_heap_0 0 s _ Q ⟨hInv, ⟨rfl, ⟨a, rfl, (na_i32 a).1, (na_i32 a).2, fun h => (by cases h)⟩, ⟨b, rfl, (na_i32 b).1, (na_i32 b).2, fun h => (by cases h)⟩, ⟨c, rfl, (na_i32 c).1, (na_i32 c).2, fun h => (by cases h)⟩, trivial⟩, fun _ _ _ _ h => (by cases h), fun h => absurd rfl h, fun _ h => (by cases h)⟩ (fun v s1 po => by
  have hv : ∃ x : Int32, v = some (.int x) ∧ _ := po.2.2.2.1
  obtain ⟨x, hx, -⟩ := hv
  subst hx
  exact hq s1 x po.1 (nJ_s hJ (po.2.1 3 (0, 12) rfl) (by rw [show s1.2.2.1 0 10 = s.2.2.1 0 10 from po.2.1 2 (0, 10) rfl]; exact Int.le_refl _)) (fun A h => aR_po po (by decide) h))
set_option maxRecDepth 100000 in
theorem pC_draw (Q : nk_Q) (s : nx_S) (a b c d : Int32) (hInv : nx_Inv gC s) (hq : ∀ (s1 : nx_S) (r : Int32), nx_Inv gC s1 → (∀ A : AS, aC s A → aC s1 A) → Q (some (.int r)) (nx_enc s1 0 shC)) : ev_X5_draw [.ref 0, .int a, .int b, .int c, .int d] (nx_enc s 0 shC) Q := ct_X5_draw_0 0 s _ Q ⟨hInv, ⟨rfl, ⟨a, rfl, (na_i32 a).1, (na_i32 a).2, fun h => (by cases h)⟩, ⟨b, rfl, (na_i32 b).1, (na_i32 b).2, fun h => (by cases h)⟩, ⟨c, rfl, (na_i32 c).1, (na_i32 c).2, fun h => (by cases h)⟩, ⟨d, rfl, (na_i32 d).1, (na_i32 d).2, fun h => (by cases h)⟩, trivial⟩, fun _ _ _ _ h => (by cases h), fun h => absurd rfl h, fun _ h => (by cases h)⟩ (fun v s1 po => by
  have hv : ∃ x : Int32, v = some (.int x) ∧ _ := po.2.2.2.1
  obtain ⟨x, hx, -⟩ := hv
  subst hx
  exact hq s1 x po.1 (fun A h => aC_po po (by decide) h))
set_option maxRecDepth 100000 in
theorem pR_draw (Q : nk_Q) (s : nx_S) (a b c d : Int32) (hInv : nx_Inv gR s) (hJ : nJ s) (hq : ∀ (s1 : nx_S) (r : Int32), nx_Inv gR s1 → nJ s1 → (∀ A : AS, aR s A → aR s1 A) → Q (some (.int r)) (nx_enc s1 0 shR)) : ev_X6_draw [.ref 0, .int a, .int b, .int c, .int d] (nx_enc s 0 shR) Q := ct_X6_draw_0 0 s _ Q ⟨hInv, ⟨rfl, ⟨a, rfl, (na_i32 a).1, (na_i32 a).2, fun h => (by cases h)⟩, ⟨b, rfl, (na_i32 b).1, (na_i32 b).2, fun h => (by cases h)⟩, ⟨c, rfl, (na_i32 c).1, (na_i32 c).2, fun h => (by cases h)⟩, ⟨d, rfl, (na_i32 d).1, (na_i32 d).2, fun h => (by cases h)⟩, trivial⟩, fun _ _ _ _ h => (by cases h), fun h => absurd rfl h, fun _ h => (by cases h)⟩ (fun v s1 po => by
  have hv : ∃ x : Int32, v = some (.int x) ∧ _ := po.2.2.2.1
  obtain ⟨x, hx, -⟩ := hv
  subst hx
  exact hq s1 x po.1 (nJ_s hJ (po.2.1 3 (0, 12) rfl) (by rw [show s1.2.2.1 0 10 = s.2.2.1 0 10 from po.2.1 2 (0, 10) rfl]; exact Int.le_refl _)) (fun A h => aR_po po (by decide) h))
set_option maxRecDepth 100000 in
theorem pC_left (Q : nk_Q) (s : nx_S) (a b : Int32) (hInv : nx_Inv gC s) (hq : ∀ (s1 : nx_S) (r : Int32), nx_Inv gC s1 → (∀ A : AS, aC s A → aC s1 A) → Q (some (.int r)) (nx_enc s1 0 shC)) : ev_X5_left [.ref 0, .int a, .int b] (nx_enc s 0 shC) Q := ct_X5_left_0 0 s _ Q ⟨hInv, ⟨rfl, ⟨a, rfl, (na_i32 a).1, (na_i32 a).2, fun h => (by cases h)⟩, ⟨b, rfl, (na_i32 b).1, (na_i32 b).2, fun h => (by cases h)⟩, trivial⟩, fun _ _ _ _ h => (by cases h), fun h => absurd rfl h, fun _ h => (by cases h)⟩ (fun v s1 po => by
  have hv : ∃ x : Int32, v = some (.int x) ∧ _ := po.2.2.2.1
  obtain ⟨x, hx, -⟩ := hv
  subst hx
  exact hq s1 x po.1 (fun A h => aC_po po (by decide) h))
set_option maxRecDepth 100000 in
theorem pR_left (Q : nk_Q) (s : nx_S) (a b : Int32) (hInv : nx_Inv gR s) (hJ : nJ s) (hq : ∀ (s1 : nx_S) (r : Int32), nx_Inv gR s1 → nJ s1 → (∀ A : AS, aR s A → aR s1 A) → Q (some (.int r)) (nx_enc s1 0 shR)) : ev_X6_left [.ref 0, .int a, .int b] (nx_enc s 0 shR) Q := ct_X6_left_0 0 s _ Q ⟨hInv, ⟨rfl, ⟨a, rfl, (na_i32 a).1, (na_i32 a).2, fun h => (by cases h)⟩, ⟨b, rfl, (na_i32 b).1, (na_i32 b).2, fun h => (by cases h)⟩, trivial⟩, fun _ _ _ _ h => (by cases h), fun h => absurd rfl h, fun _ h => (by cases h)⟩ (fun v s1 po => by
  have hv : ∃ x : Int32, v = some (.int x) ∧ _ := po.2.2.2.1
  obtain ⟨x, hx, -⟩ := hv
  subst hx
  exact hq s1 x po.1 (nJ_s hJ (po.2.1 3 (0, 12) rfl) (by rw [show s1.2.2.1 0 10 = s.2.2.1 0 10 from po.2.1 2 (0, 10) rfl]; exact Int.le_refl _)) (fun A h => aR_po po (by decide) h))
set_option maxRecDepth 100000 in
theorem pC_layer (Q : nk_Q) (s : nx_S) (a b : Int32) (hInv : nx_Inv gC s) (hq : ∀ (s1 : nx_S) (r : Int32), nx_Inv gC s1 → (∀ A : AS, aC s A → aC s1 A) → Q (some (.int r)) (nx_enc s1 0 shC)) : ev_X5_layer [.ref 0, .int a, .int b] (nx_enc s 0 shC) Q := ct_X5_layer_0 0 s _ Q ⟨hInv, ⟨rfl, ⟨a, rfl, (na_i32 a).1, (na_i32 a).2, fun h => (by cases h)⟩, ⟨b, rfl, (na_i32 b).1, (na_i32 b).2, fun h => (by cases h)⟩, trivial⟩, fun _ _ _ _ h => (by cases h), fun h => absurd rfl h, fun _ h => (by cases h)⟩ (fun v s1 po => by
  have hv : ∃ x : Int32, v = some (.int x) ∧ _ := po.2.2.2.1
  obtain ⟨x, hx, -⟩ := hv
  subst hx
  exact hq s1 x po.1 (fun A h => aC_po po (by decide) h))
set_option maxRecDepth 100000 in
theorem pR_layer (Q : nk_Q) (s : nx_S) (a b : Int32) (hInv : nx_Inv gR s) (hJ : nJ s) (hq : ∀ (s1 : nx_S) (r : Int32), nx_Inv gR s1 → nJ s1 → (∀ A : AS, aR s A → aR s1 A) → Q (some (.int r)) (nx_enc s1 0 shR)) : ev_X6_layer [.ref 0, .int a, .int b] (nx_enc s 0 shR) Q := ct_X6_layer_0 0 s _ Q ⟨hInv, ⟨rfl, ⟨a, rfl, (na_i32 a).1, (na_i32 a).2, fun h => (by cases h)⟩, ⟨b, rfl, (na_i32 b).1, (na_i32 b).2, fun h => (by cases h)⟩, trivial⟩, fun _ _ _ _ h => (by cases h), fun h => absurd rfl h, fun _ h => (by cases h)⟩ (fun v s1 po => by
  have hv : ∃ x : Int32, v = some (.int x) ∧ _ := po.2.2.2.1
  obtain ⟨x, hx, -⟩ := hv
  subst hx
  exact hq s1 x po.1 (nJ_s hJ (po.2.1 3 (0, 12) rfl) (by rw [show s1.2.2.1 0 10 = s.2.2.1 0 10 from po.2.1 2 (0, 10) rfl]; exact Int.le_refl _)) (fun A h => aR_po po (by decide) h))
set_option maxRecDepth 100000 in
theorem pC_asked (Q : nk_Q) (s : nx_S) (hInv : nx_Inv gC s) (hq : ∀ (s1 : nx_S) (r : Int32), nx_Inv gC s1 → (∀ A : AS, aC s A → aC s1 A) → Q (some (.int r)) (nx_enc s1 0 shC)) : ev_X5_asked [.ref 0] (nx_enc s 0 shC) Q := ct_X5_asked_0 0 s _ Q ⟨hInv, ⟨rfl, trivial⟩, fun _ _ _ _ h => (by cases h), fun h => absurd rfl h, fun _ h => (by cases h)⟩ (fun v s1 po => by
  have hv : ∃ x : Int32, v = some (.int x) ∧ _ := po.2.2.2.1
  obtain ⟨x, hx, -⟩ := hv
  subst hx
  exact hq s1 x po.1 (fun A h => aC_po po (by decide) h))
set_option maxRecDepth 100000 in
theorem pR_asked (Q : nk_Q) (s : nx_S) (hInv : nx_Inv gR s) (hJ : nJ s) (hq : ∀ (s1 : nx_S) (r : Int32), nx_Inv gR s1 → nJ s1 → (∀ A : AS, aR s A → aR s1 A) → Q (some (.int r)) (nx_enc s1 0 shR)) : ev_X6_asked [.ref 0] (nx_enc s 0 shR) Q := ct_X6_asked_0 0 s _ Q ⟨hInv, ⟨rfl, trivial⟩, fun _ _ _ _ h => (by cases h), fun h => absurd rfl h, fun _ h => (by cases h)⟩ (fun v s1 po => by
  have hv : ∃ x : Int32, v = some (.int x) ∧ _ := po.2.2.2.1
  obtain ⟨x, hx, -⟩ := hv
  subst hx
  exact hq s1 x po.1 (nJ_s hJ (po.2.1 3 (0, 12) rfl) (by rw [show s1.2.2.1 0 10 = s.2.2.1 0 10 from po.2.1 2 (0, 10) rfl]; exact Int.le_refl _)) (fun A h => aR_po po (by decide) h))
set_option maxRecDepth 100000 in
theorem pC_upper (Q : nk_Q) (s : nx_S) (hInv : nx_Inv gC s) (hq : ∀ (s1 : nx_S) (r : Int64), nx_Inv gC s1 → (∀ A : AS, aC s A → aC s1 A) → Q (some (.long r)) (nx_enc s1 0 shC)) : ev_X5_upper [.ref 0] (nx_enc s 0 shC) Q := ct_X5_upper_0 0 s _ Q ⟨hInv, ⟨rfl, trivial⟩, fun _ _ _ _ h => (by cases h), fun h => absurd rfl h, fun _ h => (by cases h)⟩ (fun v s1 po => by
  have hv : ∃ x : Int64, v = some (.long x) := po.2.2.2.1
  obtain ⟨x, hx⟩ := hv
  subst hx
  exact hq s1 x po.1 (fun A h => aC_po po (by decide) h))
set_option maxRecDepth 100000 in
theorem pR_upper (Q : nk_Q) (s : nx_S) (hInv : nx_Inv gR s) (hJ : nJ s) (hq : ∀ (s1 : nx_S) (r : Int64), nx_Inv gR s1 → nJ s1 → (∀ A : AS, aR s A → aR s1 A) → Q (some (.long r)) (nx_enc s1 0 shR)) : ev_X6_upper [.ref 0] (nx_enc s 0 shR) Q := ct_X6_upper_0 0 s _ Q ⟨hInv, ⟨rfl, trivial⟩, fun _ _ _ _ h => (by cases h), fun h => absurd rfl h, fun _ h => (by cases h)⟩ (fun v s1 po => by
  have hv : ∃ x : Int64, v = some (.long x) := po.2.2.2.1
  obtain ⟨x, hx⟩ := hv
  subst hx
  exact hq s1 x po.1 (nJ_s hJ (po.2.1 3 (0, 12) rfl) (by rw [show s1.2.2.1 0 10 = s.2.2.1 0 10 from po.2.1 2 (0, 10) rfl]; exact Int.le_refl _)) (fun A h => aR_po po (by decide) h))
set_option maxRecDepth 100000 in
theorem pC_lower (Q : nk_Q) (s : nx_S) (hInv : nx_Inv gC s) (hq : ∀ (s1 : nx_S) (r : Int64), nx_Inv gC s1 → (∀ A : AS, aC s A → aC s1 A) → Q (some (.long r)) (nx_enc s1 0 shC)) : ev_X5_lower [.ref 0] (nx_enc s 0 shC) Q := ct_X5_lower_0 0 s _ Q ⟨hInv, ⟨rfl, trivial⟩, fun _ _ _ _ h => (by cases h), fun h => absurd rfl h, fun _ h => (by cases h)⟩ (fun v s1 po => by
  have hv : ∃ x : Int64, v = some (.long x) := po.2.2.2.1
  obtain ⟨x, hx⟩ := hv
  subst hx
  exact hq s1 x po.1 (fun A h => aC_po po (by decide) h))
set_option maxRecDepth 100000 in
theorem pR_lower (Q : nk_Q) (s : nx_S) (hInv : nx_Inv gR s) (hJ : nJ s) (hq : ∀ (s1 : nx_S) (r : Int64), nx_Inv gR s1 → nJ s1 → (∀ A : AS, aR s A → aR s1 A) → Q (some (.long r)) (nx_enc s1 0 shR)) : ev_X6_lower [.ref 0] (nx_enc s 0 shR) Q := ct_X6_lower_0 0 s _ Q ⟨hInv, ⟨rfl, trivial⟩, fun _ _ _ _ h => (by cases h), fun h => absurd rfl h, fun _ h => (by cases h)⟩ (fun v s1 po => by
  have hv : ∃ x : Int64, v = some (.long x) := po.2.2.2.1
  obtain ⟨x, hx⟩ := hv
  subst hx
  exact hq s1 x po.1 (nJ_s hJ (po.2.1 3 (0, 12) rfl) (by rw [show s1.2.2.1 0 10 = s.2.2.1 0 10 from po.2.1 2 (0, 10) rfl]; exact Int.le_refl _)) (fun A h => aR_po po (by decide) h))
set_option maxRecDepth 100000 in
theorem pC_count (Q : nk_Q) (s : nx_S) (a : Int32) (hInv : nx_Inv gC s) (hq : ∀ (s1 : nx_S) (r : Int32), nx_Inv gC s1 → (∀ A : AS, aC s A → aC s1 A) → Q (some (.int r)) (nx_enc s1 0 shC)) : ev_X5_count [.ref 0, .int a] (nx_enc s 0 shC) Q := ct_X5_count_0 0 s _ Q ⟨hInv, ⟨rfl, ⟨a, rfl, (na_i32 a).1, (na_i32 a).2, fun h => (by cases h)⟩, trivial⟩, fun _ _ _ _ h => (by cases h), fun h => absurd rfl h, fun _ h => (by cases h)⟩ (fun v s1 po => by
  have hv : ∃ x : Int32, v = some (.int x) ∧ _ := po.2.2.2.1
  obtain ⟨x, hx, -⟩ := hv
  subst hx
  exact hq s1 x po.1 (fun A h => aC_po po (by decide) h))
set_option maxRecDepth 100000 in
theorem pR_count (Q : nk_Q) (s : nx_S) (a : Int32) (hInv : nx_Inv gR s) (hJ : nJ s) (hq : ∀ (s1 : nx_S) (r : Int32), nx_Inv gR s1 → nJ s1 → (∀ A : AS, aR s A → aR s1 A) → Q (some (.int r)) (nx_enc s1 0 shR)) : ev_X6_count [.ref 0, .int a] (nx_enc s 0 shR) Q := ct_X6_count_0 0 s _ Q ⟨hInv, ⟨rfl, ⟨a, rfl, (na_i32 a).1, (na_i32 a).2, fun h => (by cases h)⟩, trivial⟩, fun _ _ _ _ h => (by cases h), fun h => absurd rfl h, fun _ h => (by cases h)⟩ (fun v s1 po => by
  have hv : ∃ x : Int32, v = some (.int x) ∧ _ := po.2.2.2.1
  obtain ⟨x, hx, -⟩ := hv
  subst hx
  exact hq s1 x po.1 (nJ_s hJ (po.2.1 3 (0, 12) rfl) (by rw [show s1.2.2.1 0 10 = s.2.2.1 0 10 from po.2.1 2 (0, 10) rfl]; exact Int.le_refl _)) (fun A h => aR_po po (by decide) h))
set_option maxRecDepth 100000 in
theorem pC_finding (Q : nk_Q) (s : nx_S) (hInv : nx_Inv gC s) (hq : ∀ (s1 : nx_S) (r : Int32), nx_Inv gC s1 → (∀ A : AS, aC s A → aC s1 A) → Q (some (.int r)) (nx_enc s1 0 shC)) : ev_X5_finding [.ref 0] (nx_enc s 0 shC) Q := ct_X5_finding_0 0 s _ Q ⟨hInv, ⟨rfl, trivial⟩, fun _ _ _ _ h => (by cases h), fun h => absurd rfl h, fun _ h => (by cases h)⟩ (fun v s1 po => by
  have hv : ∃ x : Int32, v = some (.int x) ∧ _ := po.2.2.2.1
  obtain ⟨x, hx, -⟩ := hv
  subst hx
  exact hq s1 x po.1 (fun A h => aC_po po (by decide) h))
set_option maxRecDepth 100000 in
theorem pR_finding (Q : nk_Q) (s : nx_S) (hInv : nx_Inv gR s) (hJ : nJ s) (hq : ∀ (s1 : nx_S) (r : Int32), nx_Inv gR s1 → nJ s1 → (∀ A : AS, aR s A → aR s1 A) → Q (some (.int r)) (nx_enc s1 0 shR)) : ev_X6_finding [.ref 0] (nx_enc s 0 shR) Q := ct_X6_finding_0 0 s _ Q ⟨hInv, ⟨rfl, trivial⟩, fun _ _ _ _ h => (by cases h), fun h => absurd rfl h, fun _ h => (by cases h)⟩ (fun v s1 po => by
  have hv : ∃ x : Int32, v = some (.int x) ∧ _ := po.2.2.2.1
  obtain ⟨x, hx, -⟩ := hv
  subst hx
  exact hq s1 x po.1 (nJ_s hJ (po.2.1 3 (0, 12) rfl) (by rw [show s1.2.2.1 0 10 = s.2.2.1 0 10 from po.2.1 2 (0, 10) rfl]; exact Int.le_refl _)) (fun A h => aR_po po (by decide) h))
set_option maxRecDepth 100000 in
theorem pC_findings (Q : nk_Q) (s : nx_S) (a : Int32) (hInv : nx_Inv gC s) (hq : ∀ (s1 : nx_S) (r : Int32), nx_Inv gC s1 → (∀ A : AS, aC s A → aC s1 A) → Q (some (.int r)) (nx_enc s1 0 shC)) : ev_X5_findings [.ref 0, .int a] (nx_enc s 0 shC) Q := ct_X5_findings_0 0 s _ Q ⟨hInv, ⟨rfl, ⟨a, rfl, (na_i32 a).1, (na_i32 a).2, fun h => (by cases h)⟩, trivial⟩, fun _ _ _ _ h => (by cases h), fun h => absurd rfl h, fun _ h => (by cases h)⟩ (fun v s1 po => by
  have hv : ∃ x : Int32, v = some (.int x) ∧ _ := po.2.2.2.1
  obtain ⟨x, hx, -⟩ := hv
  subst hx
  exact hq s1 x po.1 (fun A h => aC_po po (by decide) h))
set_option maxRecDepth 100000 in
theorem pR_findings (Q : nk_Q) (s : nx_S) (a : Int32) (hInv : nx_Inv gR s) (hJ : nJ s) (hq : ∀ (s1 : nx_S) (r : Int32), nx_Inv gR s1 → nJ s1 → (∀ A : AS, aR s A → aR s1 A) → Q (some (.int r)) (nx_enc s1 0 shR)) : ev_X6_findings [.ref 0, .int a] (nx_enc s 0 shR) Q := ct_X6_findings_0 0 s _ Q ⟨hInv, ⟨rfl, ⟨a, rfl, (na_i32 a).1, (na_i32 a).2, fun h => (by cases h)⟩, trivial⟩, fun _ _ _ _ h => (by cases h), fun h => absurd rfl h, fun _ h => (by cases h)⟩ (fun v s1 po => by
  have hv : ∃ x : Int32, v = some (.int x) ∧ _ := po.2.2.2.1
  obtain ⟨x, hx, -⟩ := hv
  subst hx
  exact hq s1 x po.1 (nJ_s hJ (po.2.1 3 (0, 12) rfl) (by rw [show s1.2.2.1 0 10 = s.2.2.1 0 10 from po.2.1 2 (0, 10) rfl]; exact Int.le_refl _)) (fun A h => aR_po po (by decide) h))
set_option maxRecDepth 100000 in
theorem pC_digest (Q : nk_Q) (s : nx_S) (hInv : nx_Inv gC s) (hq : ∀ (s1 : nx_S) (r : Int64), nx_Inv gC s1 → (∀ A : AS, aC s A → aC s1 A) → Q (some (.long r)) (nx_enc s1 0 shC)) : ev_X5_digest [.ref 0] (nx_enc s 0 shC) Q := ct_X5_digest_0 0 s _ Q ⟨hInv, ⟨rfl, trivial⟩, fun _ _ _ _ h => (by cases h), fun h => absurd rfl h, fun _ h => (by cases h)⟩ (fun v s1 po => by
  have hv : ∃ x : Int64, v = some (.long x) := po.2.2.2.1
  obtain ⟨x, hx⟩ := hv
  subst hx
  exact hq s1 x po.1 (fun A h => aC_po po (by decide) h))
set_option maxRecDepth 100000 in
theorem pR_digest (Q : nk_Q) (s : nx_S) (hInv : nx_Inv gR s) (hJ : nJ s) (hq : ∀ (s1 : nx_S) (r : Int64), nx_Inv gR s1 → nJ s1 → (∀ A : AS, aR s A → aR s1 A) → Q (some (.long r)) (nx_enc s1 0 shR)) : ev_X6_digest [.ref 0] (nx_enc s 0 shR) Q := ct_X6_digest_0 0 s _ Q ⟨hInv, ⟨rfl, trivial⟩, fun _ _ _ _ h => (by cases h), fun h => absurd rfl h, fun _ h => (by cases h)⟩ (fun v s1 po => by
  have hv : ∃ x : Int64, v = some (.long x) := po.2.2.2.1
  obtain ⟨x, hx⟩ := hv
  subst hx
  exact hq s1 x po.1 (nJ_s hJ (po.2.1 3 (0, 12) rfl) (by rw [show s1.2.2.1 0 10 = s.2.2.1 0 10 from po.2.1 2 (0, 10) rfl]; exact Int.le_refl _)) (fun A h => aR_po po (by decide) h))
/-! at first nothing is told -/
theorem rr_0 : RR sC0 sR0 := ⟨(fun _ => -1, fun _ _ => 0, (0, 0), fun _ => 0, fun _ => 0), ⟨fun k hk => by
  match k, hk with
  | 0, _ => exact Or.inr (by decide)
  | 1, _ => exact Or.inr (by decide)
  | 2, _ => exact Or.inr (by decide)
  | 3, _ => exact Or.inr (by decide)
  | 4, _ => exact Or.inr (by decide)
  | 5, _ => exact Or.inr (by decide)
  | k + 6, hk => omega, fun k i hk hi => by
  match k, hk with
  | 0, _ => rfl
  | 1, _ => rfl
  | 2, _ => rfl
  | 3, _ => rfl
  | 4, _ => rfl
  | 5, _ => rfl
  | k + 6, hk => omega, rfl, rfl, fun _ _ => rfl, fun _ _ => rfl⟩, ⟨fun k hk => by
  match k, hk with
  | 0, _ => exact Or.inr (by decide)
  | 1, _ => exact Or.inr (by decide)
  | 2, _ => exact Or.inr (by decide)
  | 3, _ => exact Or.inr (by decide)
  | 4, _ => exact Or.inr (by decide)
  | 5, _ => exact Or.inr (by decide)
  | k + 6, hk => omega, fun _ _ _ _ => rfl, rfl, rfl, fun _ _ => rfl, fun _ _ => rfl⟩, fun _ _ _ => rfl⟩
