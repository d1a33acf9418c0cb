/-! ===== ROWS, STUFFS, MAKINGS in both ===== -/
noncomputable def RR (s1 s2 : nx_S) : Prop := ∃ A : AS, aC s1 A ∧ aR s2 A ∧ aI A
theorem aI_of {A A' : AS} (e : A'.2.2 = A.2.2) (h : aI A) : aI A' := by
  unfold aI at *
  rw [e]
  exact h
theorem rr_k {s1 s2 t1 t2 : nx_S} (h : RR s1 s2) (z1 : ∀ A : AS, aC s1 A → aC t1 A) (z2 : ∀ A : AS, aR s2 A → aR t2 A) : RR t1 t2 := by
  obtain ⟨A, h1, h2, h3⟩ := h
  exact ⟨A, z1 A h1, z2 A h2, h3⟩
theorem rr_row {s1 s2 t1 t2 : nx_S} {r n : Int32} (h : RR s1 s2) (z1 : ∀ A : AS, aC s1 A → aC t1 (g_row A r n)) (z2 : ∀ A : AS, aR s2 A → aR t2 (g_row A r n)) : RR t1 t2 := by
  obtain ⟨A, h1, h2, h3⟩ := h
  refine ⟨_, z1 A h1, z2 A h2, aI_of ?_ h3⟩
  unfold g_row
  split
  · rfl
  · rfl
theorem rr_lay {s1 s2 t1 t2 : nx_S} {r i v : Int32} (h : RR s1 s2) (z1 : ∀ A : AS, aC s1 A → aC t1 (g_lay A r i v)) (z2 : ∀ A : AS, aR s2 A → aR t2 (g_lay A r i v)) : RR t1 t2 := by
  obtain ⟨A, h1, h2, h3⟩ := h
  refine ⟨_, z1 A h1, z2 A h2, aI_of ?_ h3⟩
  unfold g_lay
  split
  · rfl
  · rfl
theorem rr_tear {s1 s2 t1 t2 : nx_S} {r : Int32} (h : RR s1 s2) (z1 : ∀ A : AS, aC s1 A → aC t1 (g_tear A r)) (z2 : ∀ A : AS, aR s2 A → aR t2 (g_tear A r)) : RR t1 t2 := by
  obtain ⟨A, h1, h2, h3⟩ := h
  refine ⟨_, z1 A h1, z2 A h2, aI_of ?_ h3⟩
  unfold g_tear
  split
  · rfl
  · rfl
theorem rr_copy {s1 s2 t1 t2 : nx_S} {r i t j n : Int32} (h : RR s1 s2) (z1 : ∀ A : AS, aC s1 A → aC t1 (g_copy A r i t j n)) (z2 : ∀ A : AS, aR s2 A → aR t2 (g_copy A r i t j n)) : RR t1 t2 := by
  obtain ⟨A, h1, h2, h3⟩ := h
  refine ⟨_, z1 A h1, z2 A h2, aI_of ?_ h3⟩
  unfold g_copy
  split
  · rfl
  · rfl
/-- a call that does G to what both hold and answers F -/
theorem rr_g {s1 s2 t1 t2 : nx_S} {x y : Int32} {G : AS → AS} {F : AS → Int32} (h : RR s1 s2) (z1 : ∀ A : AS, aC s1 A → aC t1 (G A) ∧ x = F A) (z2 : ∀ A : AS, aR s2 A → aI A → aR t2 (G A) ∧ aI (G A) ∧ y = F A) : RR t1 t2 ∧ x = y := by
  obtain ⟨A, h1, h2, h3⟩ := h
  have a := z1 A h1
  have b := z2 A h2 h3
  exact ⟨⟨_, a.1, b.1, b.2.1⟩, a.2.trans b.2.2.symm⟩
theorem hs_det {A A1 A2 : AS} {r x y : Int32} (h1 : h_stuffs A A1 r x) (h2 : h_stuffs A A2 r y) : A1 = A2 ∧ x = y := by
  rcases h1 with ⟨a1, a2, a3⟩ | ⟨a0, a1, a2, a3⟩ | ⟨a0, a1, a2, a3, a4, a5⟩ | ⟨a0, a1, a2, a3, a4, a5, a6⟩ | ⟨a0, a1, a2, a3, a4, a5, a6⟩ <;> rcases h2 with ⟨b1, b2, b3⟩ | ⟨b0, b1, b2, b3⟩ | ⟨b0, b1, b2, b3, b4, b5⟩ | ⟨b0, b1, b2, b3, b4, b5, b6⟩ | ⟨b0, b1, b2, b3, b4, b5, b6⟩
  all_goals first
    | exact ⟨a3.trans b3.symm, a2.trans b2.symm⟩
    | exact ⟨a5.trans b5.symm, a4.trans b4.symm⟩
    | exact ⟨a6.trans b6.symm, Int32.toInt_inj.mp (a5.trans b5.symm)⟩
    | exact ⟨a6.trans b6.symm, a5.trans b5.symm⟩
    | (exfalso; exact a4 b4)
    | (exfalso; exact b4 a4)
    | (exfalso; omega)
theorem rr_stuffs {s1 s2 t1 t2 : nx_S} {r x y : Int32} (h : RR s1 s2) (z1 : ∀ A : AS, aC s1 A → ∃ A' : AS, aC t1 A' ∧ h_stuffs A A' r x) (z2 : ∀ A : AS, aR s2 A → aI A → ∃ A' : AS, aR t2 A' ∧ aI A' ∧ h_stuffs A A' r y) : RR t1 t2 ∧ x = y := by
  obtain ⟨A, h1, h2, h3⟩ := h
  obtain ⟨A1, a1, a2⟩ := z1 A h1
  obtain ⟨A2, b1, b2, b3⟩ := z2 A h2 h3
  obtain ⟨e, e2⟩ := hs_det a2 b3
  subst e
  exact ⟨⟨A1, a1, b1, b2⟩, e2⟩
