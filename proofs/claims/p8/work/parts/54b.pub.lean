/-! ===== the public methods, at any state ===== -/
set_option maxRecDepth 100000 in
theorem pC_row (Q : nk_Q) (s : nx_S) (a b : Int32) (hInv : nx_Inv gC s) (hq : ∀ (s1 : nx_S) (r : Int32), nx_Inv gC s1 → Q (some (.int r)) (nx_enc s1 0 shC)) : ev_X5_row [.ref 0, .int a, .int b] (nx_enc s 0 shC) Q := ct_X5_row_0 0 s _ Q ⟨hInv, ⟨rfl, ⟨a, rfl, (na_i32 a).1, (na_i32 a).2, fun h => (by cases h)⟩, ⟨b, rfl, (na_i32 b).1, (na_i32 b).2, fun h => (by cases h)⟩, trivial⟩, fun _ _ _ _ h => (by cases h), fun h => absurd rfl h, fun _ h => (by cases h)⟩ (fun v s1 po => by
  have hv : ∃ x : Int32, v = some (.int x) ∧ _ := po.2.2.2.1
  obtain ⟨x, hx, -⟩ := hv
  subst hx
  exact hq s1 x po.1)
set_option maxRecDepth 100000 in
theorem pR_row (Q : nk_Q) (s : nx_S) (a b : Int32) (hInv : nx_Inv gR s) (hJ : nJ s) (hq : ∀ (s1 : nx_S) (r : Int32), nx_Inv gR s1 → nJ s1 → Q (some (.int r)) (nx_enc s1 0 shR)) : ev_X6_row [.ref 0, .int a, .int b] (nx_enc s 0 shR) Q := ct_X6_row_0 0 s _ Q ⟨hInv, ⟨rfl, ⟨a, rfl, (na_i32 a).1, (na_i32 a).2, fun h => (by cases h)⟩, ⟨b, rfl, (na_i32 b).1, (na_i32 b).2, fun h => (by cases h)⟩, trivial⟩, fun _ _ _ _ h => (by cases h), fun h => absurd rfl h, fun _ h => (by cases h)⟩ (fun v s1 po => by
  have hv : ∃ x : Int32, v = some (.int x) ∧ _ := po.2.2.2.1
  obtain ⟨x, hx, -⟩ := hv
  subst hx
  exact hq s1 x po.1 (nJ_s hJ (po.2.1 3 (0, 12) rfl) (by rw [show s1.2.2.1 0 10 = s.2.2.1 0 10 from po.2.1 2 (0, 10) rfl]; exact Int.le_refl _)))
set_option maxRecDepth 100000 in
theorem pC_lay (Q : nk_Q) (s : nx_S) (a b c : Int32) (hInv : nx_Inv gC s) (hq : ∀ (s1 : nx_S) (r : Int32), nx_Inv gC s1 → Q (some (.int r)) (nx_enc s1 0 shC)) : ev_X5_lay [.ref 0, .int a, .int b, .int c] (nx_enc s 0 shC) Q := ct_X5_lay_0 0 s _ Q ⟨hInv, ⟨rfl, ⟨a, rfl, (na_i32 a).1, (na_i32 a).2, fun h => (by cases h)⟩, ⟨b, rfl, (na_i32 b).1, (na_i32 b).2, fun h => (by cases h)⟩, ⟨c, rfl, (na_i32 c).1, (na_i32 c).2, fun h => (by cases h)⟩, trivial⟩, fun _ _ _ _ h => (by cases h), fun h => absurd rfl h, fun _ h => (by cases h)⟩ (fun v s1 po => by
  have hv : ∃ x : Int32, v = some (.int x) ∧ _ := po.2.2.2.1
  obtain ⟨x, hx, -⟩ := hv
  subst hx
  exact hq s1 x po.1)
set_option maxRecDepth 100000 in
theorem pR_lay (Q : nk_Q) (s : nx_S) (a b c : Int32) (hInv : nx_Inv gR s) (hJ : nJ s) (hq : ∀ (s1 : nx_S) (r : Int32), nx_Inv gR s1 → nJ s1 → Q (some (.int r)) (nx_enc s1 0 shR)) : ev_X6_lay [.ref 0, .int a, .int b, .int c] (nx_enc s 0 shR) Q := ct_X6_lay_0 0 s _ Q ⟨hInv, ⟨rfl, ⟨a, rfl, (na_i32 a).1, (na_i32 a).2, fun h => (by cases h)⟩, ⟨b, rfl, (na_i32 b).1, (na_i32 b).2, fun h => (by cases h)⟩, ⟨c, rfl, (na_i32 c).1, (na_i32 c).2, fun h => (by cases h)⟩, trivial⟩, fun _ _ _ _ h => (by cases h), fun h => absurd rfl h, fun _ h => (by cases h)⟩ (fun v s1 po => by
  have hv : ∃ x : Int32, v = some (.int x) ∧ _ := po.2.2.2.1
  obtain ⟨x, hx, -⟩ := hv
  subst hx
  exact hq s1 x po.1 (nJ_s hJ (po.2.1 3 (0, 12) rfl) (by rw [show s1.2.2.1 0 10 = s.2.2.1 0 10 from po.2.1 2 (0, 10) rfl]; exact Int.le_refl _)))
set_option maxRecDepth 100000 in
theorem pC_at (Q : nk_Q) (s : nx_S) (a b : Int32) (hInv : nx_Inv gC s) (hq : ∀ (s1 : nx_S) (r : Int32), nx_Inv gC s1 → Q (some (.int r)) (nx_enc s1 0 shC)) : ev_X5_at [.ref 0, .int a, .int b] (nx_enc s 0 shC) Q := ct_X5_at_0 0 s _ Q ⟨hInv, ⟨rfl, ⟨a, rfl, (na_i32 a).1, (na_i32 a).2, fun h => (by cases h)⟩, ⟨b, rfl, (na_i32 b).1, (na_i32 b).2, fun h => (by cases h)⟩, trivial⟩, fun _ _ _ _ h => (by cases h), fun h => absurd rfl h, fun _ h => (by cases h)⟩ (fun v s1 po => by
  have hv : ∃ x : Int32, v = some (.int x) ∧ _ := po.2.2.2.1
  obtain ⟨x, hx, -⟩ := hv
  subst hx
  exact hq s1 x po.1)
set_option maxRecDepth 100000 in
theorem pR_at (Q : nk_Q) (s : nx_S) (a b : Int32) (hInv : nx_Inv gR s) (hJ : nJ s) (hq : ∀ (s1 : nx_S) (r : Int32), nx_Inv gR s1 → nJ s1 → Q (some (.int r)) (nx_enc s1 0 shR)) : ev_X6_at [.ref 0, .int a, .int b] (nx_enc s 0 shR) Q := ct_X6_at_0 0 s _ Q ⟨hInv, ⟨rfl, ⟨a, rfl, (na_i32 a).1, (na_i32 a).2, fun h => (by cases h)⟩, ⟨b, rfl, (na_i32 b).1, (na_i32 b).2, fun h => (by cases h)⟩, trivial⟩, fun _ _ _ _ h => (by cases h), fun h => absurd rfl h, fun _ h => (by cases h)⟩ (fun v s1 po => by
  have hv : ∃ x : Int32, v = some (.int x) ∧ _ := po.2.2.2.1
  obtain ⟨x, hx, -⟩ := hv
  subst hx
  exact hq s1 x po.1 (nJ_s hJ (po.2.1 3 (0, 12) rfl) (by rw [show s1.2.2.1 0 10 = s.2.2.1 0 10 from po.2.1 2 (0, 10) rfl]; exact Int.le_refl _)))
set_option maxRecDepth 100000 in
theorem pC_tear (Q : nk_Q) (s : nx_S) (a : Int32) (hInv : nx_Inv gC s) (hq : ∀ (s1 : nx_S) (r : Int32), nx_Inv gC s1 → Q (some (.int r)) (nx_enc s1 0 shC)) : ev_X5_tear [.ref 0, .int a] (nx_enc s 0 shC) Q := ct_X5_tear_0 0 s _ Q ⟨hInv, ⟨rfl, ⟨a, rfl, (na_i32 a).1, (na_i32 a).2, fun h => (by cases h)⟩, trivial⟩, fun _ _ _ _ h => (by cases h), fun h => absurd rfl h, fun _ h => (by cases h)⟩ (fun v s1 po => by
  have hv : ∃ x : Int32, v = some (.int x) ∧ _ := po.2.2.2.1
  obtain ⟨x, hx, -⟩ := hv
  subst hx
  exact hq s1 x po.1)
set_option maxRecDepth 100000 in
theorem pR_tear (Q : nk_Q) (s : nx_S) (a : Int32) (hInv : nx_Inv gR s) (hJ : nJ s) (hq : ∀ (s1 : nx_S) (r : Int32), nx_Inv gR s1 → nJ s1 → Q (some (.int r)) (nx_enc s1 0 shR)) : ev_X6_tear [.ref 0, .int a] (nx_enc s 0 shR) Q := ct_X6_tear_0 0 s _ Q ⟨hInv, ⟨rfl, ⟨a, rfl, (na_i32 a).1, (na_i32 a).2, fun h => (by cases h)⟩, trivial⟩, fun _ _ _ _ h => (by cases h), fun h => absurd rfl h, fun _ h => (by cases h)⟩ (fun v s1 po => by
  have hv : ∃ x : Int32, v = some (.int x) ∧ _ := po.2.2.2.1
  obtain ⟨x, hx, -⟩ := hv
  subst hx
  exact hq s1 x po.1 (nJ_s hJ (po.2.1 3 (0, 12) rfl) (by rw [show s1.2.2.1 0 10 = s.2.2.1 0 10 from po.2.1 2 (0, 10) rfl]; exact Int.le_refl _)))
theorem pC_copy (Q : nk_Q) (s : nx_S) (a b c d e : Int32) (hInv : nx_Inv gC s) (hq : ∀ (s1 : nx_S) (r : Int32), nx_Inv gC s1 → Q (some (.int r)) (nx_enc s1 0 shC)) : ev_X5_copy [.ref 0, .int a, .int b, .int c, .int d, .int e] (nx_enc s 0 shC) Q := cp_C Q s a b c d e hInv hq
theorem pR_copy (Q : nk_Q) (s : nx_S) (a b c d e : Int32) (hInv : nx_Inv gR s) (hJ : nJ s) (hq : ∀ (s1 : nx_S) (r : Int32), nx_Inv gR s1 → nJ s1 → Q (some (.int r)) (nx_enc s1 0 shR)) : ev_X6_copy [.ref 0, .int a, .int b, .int c, .int d, .int e] (nx_enc s 0 shR) Q := cp_R Q s a b c d e hInv (fun s1 r h1 h2 => hq s1 r h1 (h2.elim (fun h => nJ_s hJ (by rw [h.2]) (by rw [h.2]; exact Int.le_refl _)) (fun h => nJ_me hJ h)))
set_option maxRecDepth 100000 in
theorem pC_mean (Q : nk_Q) (s : nx_S) (a : Int32) (hInv : nx_Inv gC s) (hq : ∀ (s1 : nx_S) (r : Int32), nx_Inv gC s1 → Q (some (.int r)) (nx_enc s1 0 shC)) : ev_X5_mean [.ref 0, .int a] (nx_enc s 0 shC) Q := ct_X5_mean_0 0 s _ Q ⟨hInv, ⟨rfl, ⟨a, rfl, (na_i32 a).1, (na_i32 a).2, fun h => (by cases h)⟩, trivial⟩, fun _ _ _ _ h => (by cases h), fun h => absurd rfl h, fun _ h => (by cases h)⟩ (fun v s1 po => by
  have hv : ∃ x : Int32, v = some (.int x) ∧ _ := po.2.2.2.1
  obtain ⟨x, hx, -⟩ := hv
  subst hx
  exact hq s1 x po.1)
set_option maxRecDepth 100000 in
theorem pR_mean (Q : nk_Q) (s : nx_S) (a : Int32) (hInv : nx_Inv gR s) (hJ : nJ s) (hq : ∀ (s1 : nx_S) (r : Int32), nx_Inv gR s1 → nJ s1 → Q (some (.int r)) (nx_enc s1 0 shR)) : ev_X6_mean [.ref 0, .int a] (nx_enc s 0 shR) Q := ct_X6_mean_0 0 s _ Q ⟨hInv, ⟨rfl, ⟨a, rfl, (na_i32 a).1, (na_i32 a).2, fun h => (by cases h)⟩, trivial⟩, fun _ _ _ _ h => (by cases h), fun h => absurd rfl h, fun _ h => (by cases h)⟩ (fun v s1 po => by
  have hv : ∃ x : Int32, v = some (.int x) ∧ _ := po.2.2.2.1
  obtain ⟨x, hx, -⟩ := hv
  subst hx
  exact hq s1 x po.1 (nJ_s hJ (po.2.1 3 (0, 12) rfl) (by rw [show s1.2.2.1 0 10 = s.2.2.1 0 10 from po.2.1 2 (0, 10) rfl]; exact Int.le_refl _)))
def f_text (a b : Int32) : Int32 := if (0 ≤ a.toInt ∧ a.toInt ≤ 3) ∧ b.toInt ≤ 40 then (if b.toInt < 0 then -3 else b) else -1
set_option maxRecDepth 100000 in
set_option maxHeartbeats 4000000 in
theorem pC_text (Q : nk_Q) (s : nx_S) (a b : Int32) (hInv : nx_Inv gC s) (hq : ∀ s1 : nx_S, nx_Inv gC s1 → Q (some (.int (f_text a b))) (nx_enc s1 0 shC)) : ev_X5_text [.ref 0, .int a, .int b] (nx_enc s 0 shC) Q := by
  have m1 : (-1 : Int32).toInt = -1 := rfl
  have m3 : (-3 : Int32).toInt = -3 := rfl
  have fa := na_i32 a
  have fb := na_i32 b
  by_cases a0 : a.toInt < 0
  · exact ct_X5_text_1 0 s _ Q ⟨hInv, ⟨rfl, ⟨a, rfl, fa.1, (show a.toInt ≤ -1 by omega), fun h => (by cases h)⟩, ⟨b, rfl, fb.1, fb.2, fun h => (by cases h)⟩, trivial⟩, fun _ _ _ _ h => (by cases h), fun h => absurd rfl h, fun _ h => (by cases h)⟩ (fun v s1 po => by
    have hv : ∃ x : Int32, v = some (.int x) ∧ (-1 : Int) ≤ x.toInt ∧ x.toInt ≤ -1 := po.2.2.2.1
    obtain ⟨x, hx, x1, x2⟩ := hv
    subst hx
    have ex : x = f_text a b := Int32.toInt_inj.mp (by
      unfold f_text
      rw [if_neg (fun h => by omega)]
      omega)
    rw [ex]
    exact hq s1 po.1)
  by_cases a1 : 3 < a.toInt
  · exact ct_X5_text_2 0 s _ Q ⟨hInv, ⟨rfl, ⟨a, rfl, (show (4 : Int) ≤ a.toInt by omega), fa.2, fun h => (by cases h)⟩, ⟨b, rfl, fb.1, fb.2, fun h => (by cases h)⟩, trivial⟩, fun _ _ _ _ h => (by cases h), fun h => absurd rfl h, fun _ h => (by cases h)⟩ (fun v s1 po => by
    have hv : ∃ x : Int32, v = some (.int x) ∧ (-1 : Int) ≤ x.toInt ∧ x.toInt ≤ -1 := po.2.2.2.1
    obtain ⟨x, hx, x1, x2⟩ := hv
    subst hx
    have ex : x = f_text a b := Int32.toInt_inj.mp (by
      unfold f_text
      rw [if_neg (fun h => by omega)]
      omega)
    rw [ex]
    exact hq s1 po.1)
  have a2 : 0 ≤ a.toInt := by omega
  have a3 : a.toInt ≤ 3 := by omega
  by_cases b0 : 40 < b.toInt
  · exact ct_X5_text_3 0 s _ Q ⟨hInv, ⟨rfl, ⟨a, rfl, a2, a3, fun h => (by cases h)⟩, ⟨b, rfl, (show (41 : Int) ≤ b.toInt by omega), fb.2, fun h => (by cases h)⟩, trivial⟩, fun _ _ _ _ h => (by cases h), fun h => absurd rfl h, fun _ h => (by cases h)⟩ (fun v s1 po => by
    have hv : ∃ x : Int32, v = some (.int x) ∧ (-1 : Int) ≤ x.toInt ∧ x.toInt ≤ -1 := po.2.2.2.1
    obtain ⟨x, hx, x1, x2⟩ := hv
    subst hx
    have ex : x = f_text a b := Int32.toInt_inj.mp (by
      unfold f_text
      rw [if_neg (fun h => by omega)]
      omega)
    rw [ex]
    exact hq s1 po.1)
  by_cases b1 : b.toInt < 0
  · exact ct_X5_text_4 0 s _ Q ⟨hInv, ⟨rfl, ⟨a, rfl, a2, a3, fun h => (by cases h)⟩, ⟨b, rfl, fb.1, (show b.toInt ≤ -1 by omega), fun h => (by cases h)⟩, trivial⟩, fun _ _ _ _ h => (by cases h), fun h => absurd rfl h, fun _ h => (by cases h)⟩ (fun v s1 po => by
    have hv : ∃ x : Int32, v = some (.int x) ∧ (-3 : Int) ≤ x.toInt ∧ x.toInt ≤ -3 := po.2.2.2.1
    obtain ⟨x, hx, x1, x2⟩ := hv
    subst hx
    have ex : x = f_text a b := Int32.toInt_inj.mp (by
      unfold f_text
      rw [if_pos ⟨⟨a2, a3⟩, by omega⟩, if_pos b1]
      omega)
    rw [ex]
    exact hq s1 po.1)
  have bb : b.toInt = 0 ∨ b.toInt = 1 ∨ b.toInt = 2 ∨ b.toInt = 3 ∨ b.toInt = 4 ∨ b.toInt = 5 ∨ b.toInt = 6 ∨ b.toInt = 7 ∨ b.toInt = 8 ∨ b.toInt = 9 ∨ b.toInt = 10 ∨ b.toInt = 11 ∨ b.toInt = 12 ∨ b.toInt = 13 ∨ b.toInt = 14 ∨ b.toInt = 15 ∨ b.toInt = 16 ∨ b.toInt = 17 ∨ b.toInt = 18 ∨ b.toInt = 19 ∨ b.toInt = 20 ∨ b.toInt = 21 ∨ b.toInt = 22 ∨ b.toInt = 23 ∨ b.toInt = 24 ∨ b.toInt = 25 ∨ b.toInt = 26 ∨ b.toInt = 27 ∨ b.toInt = 28 ∨ b.toInt = 29 ∨ b.toInt = 30 ∨ b.toInt = 31 ∨ b.toInt = 32 ∨ b.toInt = 33 ∨ b.toInt = 34 ∨ b.toInt = 35 ∨ b.toInt = 36 ∨ b.toInt = 37 ∨ b.toInt = 38 ∨ b.toInt = 39 ∨ b.toInt = 40 := by omega
  rcases bb with bk | bk | bk | bk | bk | bk | bk | bk | bk | bk | bk | bk | bk | bk | bk | bk | bk | bk | bk | bk | bk | bk | bk | bk | bk | bk | bk | bk | bk | bk | bk | bk | bk | bk | bk | bk | bk | bk | bk | bk | bk
  · exact ct_X5_text_5 0 s _ Q ⟨hInv, ⟨rfl, ⟨a, rfl, a2, a3, fun h => (by cases h)⟩, ⟨b, rfl, bk⟩, trivial⟩, fun _ _ _ _ h => (by cases h), fun h => absurd rfl h, fun _ h => (by cases h)⟩ (fun v s1 po => by
    have hv : ∃ x : Int32, v = some (.int x) ∧ (0 : Int) ≤ x.toInt ∧ x.toInt ≤ 0 := po.2.2.2.1
    obtain ⟨x, hx, x1, x2⟩ := hv
    subst hx
    have ex : x = f_text a b := Int32.toInt_inj.mp (by
      unfold f_text
      rw [if_pos ⟨⟨a2, a3⟩, by omega⟩, if_neg (by omega)]
      omega)
    rw [ex]
    exact hq s1 po.1)
  · exact ct_X5_text_6 0 s _ Q ⟨hInv, ⟨rfl, ⟨a, rfl, a2, a3, fun h => (by cases h)⟩, ⟨b, rfl, bk⟩, trivial⟩, fun _ _ _ _ h => (by cases h), fun h => absurd rfl h, fun _ h => (by cases h)⟩ (fun v s1 po => by
    have hv : ∃ x : Int32, v = some (.int x) ∧ (1 : Int) ≤ x.toInt ∧ x.toInt ≤ 1 := po.2.2.2.1
    obtain ⟨x, hx, x1, x2⟩ := hv
    subst hx
    have ex : x = f_text a b := Int32.toInt_inj.mp (by
      unfold f_text
      rw [if_pos ⟨⟨a2, a3⟩, by omega⟩, if_neg (by omega)]
      omega)
    rw [ex]
    exact hq s1 po.1)
  · exact ct_X5_text_7 0 s _ Q ⟨hInv, ⟨rfl, ⟨a, rfl, a2, a3, fun h => (by cases h)⟩, ⟨b, rfl, bk⟩, trivial⟩, fun _ _ _ _ h => (by cases h), fun h => absurd rfl h, fun _ h => (by cases h)⟩ (fun v s1 po => by
    have hv : ∃ x : Int32, v = some (.int x) ∧ (2 : Int) ≤ x.toInt ∧ x.toInt ≤ 2 := po.2.2.2.1
    obtain ⟨x, hx, x1, x2⟩ := hv
    subst hx
    have ex : x = f_text a b := Int32.toInt_inj.mp (by
      unfold f_text
      rw [if_pos ⟨⟨a2, a3⟩, by omega⟩, if_neg (by omega)]
      omega)
    rw [ex]
    exact hq s1 po.1)
  · exact ct_X5_text_8 0 s _ Q ⟨hInv, ⟨rfl, ⟨a, rfl, a2, a3, fun h => (by cases h)⟩, ⟨b, rfl, bk⟩, trivial⟩, fun _ _ _ _ h => (by cases h), fun h => absurd rfl h, fun _ h => (by cases h)⟩ (fun v s1 po => by
    have hv : ∃ x : Int32, v = some (.int x) ∧ (3 : Int) ≤ x.toInt ∧ x.toInt ≤ 3 := po.2.2.2.1
    obtain ⟨x, hx, x1, x2⟩ := hv
    subst hx
    have ex : x = f_text a b := Int32.toInt_inj.mp (by
      unfold f_text
      rw [if_pos ⟨⟨a2, a3⟩, by omega⟩, if_neg (by omega)]
      omega)
    rw [ex]
    exact hq s1 po.1)
  · exact ct_X5_text_9 0 s _ Q ⟨hInv, ⟨rfl, ⟨a, rfl, a2, a3, fun h => (by cases h)⟩, ⟨b, rfl, bk⟩, trivial⟩, fun _ _ _ _ h => (by cases h), fun h => absurd rfl h, fun _ h => (by cases h)⟩ (fun v s1 po => by
    have hv : ∃ x : Int32, v = some (.int x) ∧ (4 : Int) ≤ x.toInt ∧ x.toInt ≤ 4 := po.2.2.2.1
    obtain ⟨x, hx, x1, x2⟩ := hv
    subst hx
    have ex : x = f_text a b := Int32.toInt_inj.mp (by
      unfold f_text
      rw [if_pos ⟨⟨a2, a3⟩, by omega⟩, if_neg (by omega)]
      omega)
    rw [ex]
    exact hq s1 po.1)
  · exact ct_X5_text_10 0 s _ Q ⟨hInv, ⟨rfl, ⟨a, rfl, a2, a3, fun h => (by cases h)⟩, ⟨b, rfl, bk⟩, trivial⟩, fun _ _ _ _ h => (by cases h), fun h => absurd rfl h, fun _ h => (by cases h)⟩ (fun v s1 po => by
    have hv : ∃ x : Int32, v = some (.int x) ∧ (5 : Int) ≤ x.toInt ∧ x.toInt ≤ 5 := po.2.2.2.1
    obtain ⟨x, hx, x1, x2⟩ := hv
    subst hx
    have ex : x = f_text a b := Int32.toInt_inj.mp (by
      unfold f_text
      rw [if_pos ⟨⟨a2, a3⟩, by omega⟩, if_neg (by omega)]
      omega)
    rw [ex]
    exact hq s1 po.1)
  · exact ct_X5_text_11 0 s _ Q ⟨hInv, ⟨rfl, ⟨a, rfl, a2, a3, fun h => (by cases h)⟩, ⟨b, rfl, bk⟩, trivial⟩, fun _ _ _ _ h => (by cases h), fun h => absurd rfl h, fun _ h => (by cases h)⟩ (fun v s1 po => by
    have hv : ∃ x : Int32, v = some (.int x) ∧ (6 : Int) ≤ x.toInt ∧ x.toInt ≤ 6 := po.2.2.2.1
    obtain ⟨x, hx, x1, x2⟩ := hv
    subst hx
    have ex : x = f_text a b := Int32.toInt_inj.mp (by
      unfold f_text
      rw [if_pos ⟨⟨a2, a3⟩, by omega⟩, if_neg (by omega)]
      omega)
    rw [ex]
    exact hq s1 po.1)
  · exact ct_X5_text_12 0 s _ Q ⟨hInv, ⟨rfl, ⟨a, rfl, a2, a3, fun h => (by cases h)⟩, ⟨b, rfl, bk⟩, trivial⟩, fun _ _ _ _ h => (by cases h), fun h => absurd rfl h, fun _ h => (by cases h)⟩ (fun v s1 po => by
    have hv : ∃ x : Int32, v = some (.int x) ∧ (7 : Int) ≤ x.toInt ∧ x.toInt ≤ 7 := po.2.2.2.1
    obtain ⟨x, hx, x1, x2⟩ := hv
    subst hx
    have ex : x = f_text a b := Int32.toInt_inj.mp (by
      unfold f_text
      rw [if_pos ⟨⟨a2, a3⟩, by omega⟩, if_neg (by omega)]
      omega)
    rw [ex]
    exact hq s1 po.1)
  · exact ct_X5_text_13 0 s _ Q ⟨hInv, ⟨rfl, ⟨a, rfl, a2, a3, fun h => (by cases h)⟩, ⟨b, rfl, bk⟩, trivial⟩, fun _ _ _ _ h => (by cases h), fun h => absurd rfl h, fun _ h => (by cases h)⟩ (fun v s1 po => by
    have hv : ∃ x : Int32, v = some (.int x) ∧ (8 : Int) ≤ x.toInt ∧ x.toInt ≤ 8 := po.2.2.2.1
    obtain ⟨x, hx, x1, x2⟩ := hv
    subst hx
    have ex : x = f_text a b := Int32.toInt_inj.mp (by
      unfold f_text
      rw [if_pos ⟨⟨a2, a3⟩, by omega⟩, if_neg (by omega)]
      omega)
    rw [ex]
    exact hq s1 po.1)
  · exact ct_X5_text_14 0 s _ Q ⟨hInv, ⟨rfl, ⟨a, rfl, a2, a3, fun h => (by cases h)⟩, ⟨b, rfl, bk⟩, trivial⟩, fun _ _ _ _ h => (by cases h), fun h => absurd rfl h, fun _ h => (by cases h)⟩ (fun v s1 po => by
    have hv : ∃ x : Int32, v = some (.int x) ∧ (9 : Int) ≤ x.toInt ∧ x.toInt ≤ 9 := po.2.2.2.1
    obtain ⟨x, hx, x1, x2⟩ := hv
    subst hx
    have ex : x = f_text a b := Int32.toInt_inj.mp (by
      unfold f_text
      rw [if_pos ⟨⟨a2, a3⟩, by omega⟩, if_neg (by omega)]
      omega)
    rw [ex]
    exact hq s1 po.1)
  · exact ct_X5_text_15 0 s _ Q ⟨hInv, ⟨rfl, ⟨a, rfl, a2, a3, fun h => (by cases h)⟩, ⟨b, rfl, bk⟩, trivial⟩, fun _ _ _ _ h => (by cases h), fun h => absurd rfl h, fun _ h => (by cases h)⟩ (fun v s1 po => by
    have hv : ∃ x : Int32, v = some (.int x) ∧ (10 : Int) ≤ x.toInt ∧ x.toInt ≤ 10 := po.2.2.2.1
    obtain ⟨x, hx, x1, x2⟩ := hv
    subst hx
    have ex : x = f_text a b := Int32.toInt_inj.mp (by
      unfold f_text
      rw [if_pos ⟨⟨a2, a3⟩, by omega⟩, if_neg (by omega)]
      omega)
    rw [ex]
    exact hq s1 po.1)
  · exact ct_X5_text_16 0 s _ Q ⟨hInv, ⟨rfl, ⟨a, rfl, a2, a3, fun h => (by cases h)⟩, ⟨b, rfl, bk⟩, trivial⟩, fun _ _ _ _ h => (by cases h), fun h => absurd rfl h, fun _ h => (by cases h)⟩ (fun v s1 po => by
    have hv : ∃ x : Int32, v = some (.int x) ∧ (11 : Int) ≤ x.toInt ∧ x.toInt ≤ 11 := po.2.2.2.1
    obtain ⟨x, hx, x1, x2⟩ := hv
    subst hx
    have ex : x = f_text a b := Int32.toInt_inj.mp (by
      unfold f_text
      rw [if_pos ⟨⟨a2, a3⟩, by omega⟩, if_neg (by omega)]
      omega)
    rw [ex]
    exact hq s1 po.1)
  · exact ct_X5_text_17 0 s _ Q ⟨hInv, ⟨rfl, ⟨a, rfl, a2, a3, fun h => (by cases h)⟩, ⟨b, rfl, bk⟩, trivial⟩, fun _ _ _ _ h => (by cases h), fun h => absurd rfl h, fun _ h => (by cases h)⟩ (fun v s1 po => by
    have hv : ∃ x : Int32, v = some (.int x) ∧ (12 : Int) ≤ x.toInt ∧ x.toInt ≤ 12 := po.2.2.2.1
    obtain ⟨x, hx, x1, x2⟩ := hv
    subst hx
    have ex : x = f_text a b := Int32.toInt_inj.mp (by
      unfold f_text
      rw [if_pos ⟨⟨a2, a3⟩, by omega⟩, if_neg (by omega)]
      omega)
    rw [ex]
    exact hq s1 po.1)
  · exact ct_X5_text_18 0 s _ Q ⟨hInv, ⟨rfl, ⟨a, rfl, a2, a3, fun h => (by cases h)⟩, ⟨b, rfl, bk⟩, trivial⟩, fun _ _ _ _ h => (by cases h), fun h => absurd rfl h, fun _ h => (by cases h)⟩ (fun v s1 po => by
    have hv : ∃ x : Int32, v = some (.int x) ∧ (13 : Int) ≤ x.toInt ∧ x.toInt ≤ 13 := po.2.2.2.1
    obtain ⟨x, hx, x1, x2⟩ := hv
    subst hx
    have ex : x = f_text a b := Int32.toInt_inj.mp (by
      unfold f_text
      rw [if_pos ⟨⟨a2, a3⟩, by omega⟩, if_neg (by omega)]
      omega)
    rw [ex]
    exact hq s1 po.1)
  · exact ct_X5_text_19 0 s _ Q ⟨hInv, ⟨rfl, ⟨a, rfl, a2, a3, fun h => (by cases h)⟩, ⟨b, rfl, bk⟩, trivial⟩, fun _ _ _ _ h => (by cases h), fun h => absurd rfl h, fun _ h => (by cases h)⟩ (fun v s1 po => by
    have hv : ∃ x : Int32, v = some (.int x) ∧ (14 : Int) ≤ x.toInt ∧ x.toInt ≤ 14 := po.2.2.2.1
    obtain ⟨x, hx, x1, x2⟩ := hv
    subst hx
    have ex : x = f_text a b := Int32.toInt_inj.mp (by
      unfold f_text
      rw [if_pos ⟨⟨a2, a3⟩, by omega⟩, if_neg (by omega)]
      omega)
    rw [ex]
    exact hq s1 po.1)
  · exact ct_X5_text_20 0 s _ Q ⟨hInv, ⟨rfl, ⟨a, rfl, a2, a3, fun h => (by cases h)⟩, ⟨b, rfl, bk⟩, trivial⟩, fun _ _ _ _ h => (by cases h), fun h => absurd rfl h, fun _ h => (by cases h)⟩ (fun v s1 po => by
    have hv : ∃ x : Int32, v = some (.int x) ∧ (15 : Int) ≤ x.toInt ∧ x.toInt ≤ 15 := po.2.2.2.1
    obtain ⟨x, hx, x1, x2⟩ := hv
    subst hx
    have ex : x = f_text a b := Int32.toInt_inj.mp (by
      unfold f_text
      rw [if_pos ⟨⟨a2, a3⟩, by omega⟩, if_neg (by omega)]
      omega)
    rw [ex]
    exact hq s1 po.1)
  · exact ct_X5_text_21 0 s _ Q ⟨hInv, ⟨rfl, ⟨a, rfl, a2, a3, fun h => (by cases h)⟩, ⟨b, rfl, bk⟩, trivial⟩, fun _ _ _ _ h => (by cases h), fun h => absurd rfl h, fun _ h => (by cases h)⟩ (fun v s1 po => by
    have hv : ∃ x : Int32, v = some (.int x) ∧ (16 : Int) ≤ x.toInt ∧ x.toInt ≤ 16 := po.2.2.2.1
    obtain ⟨x, hx, x1, x2⟩ := hv
    subst hx
    have ex : x = f_text a b := Int32.toInt_inj.mp (by
      unfold f_text
      rw [if_pos ⟨⟨a2, a3⟩, by omega⟩, if_neg (by omega)]
      omega)
    rw [ex]
    exact hq s1 po.1)
  · exact ct_X5_text_22 0 s _ Q ⟨hInv, ⟨rfl, ⟨a, rfl, a2, a3, fun h => (by cases h)⟩, ⟨b, rfl, bk⟩, trivial⟩, fun _ _ _ _ h => (by cases h), fun h => absurd rfl h, fun _ h => (by cases h)⟩ (fun v s1 po => by
    have hv : ∃ x : Int32, v = some (.int x) ∧ (17 : Int) ≤ x.toInt ∧ x.toInt ≤ 17 := po.2.2.2.1
    obtain ⟨x, hx, x1, x2⟩ := hv
    subst hx
    have ex : x = f_text a b := Int32.toInt_inj.mp (by
      unfold f_text
      rw [if_pos ⟨⟨a2, a3⟩, by omega⟩, if_neg (by omega)]
      omega)
    rw [ex]
    exact hq s1 po.1)
  · exact ct_X5_text_23 0 s _ Q ⟨hInv, ⟨rfl, ⟨a, rfl, a2, a3, fun h => (by cases h)⟩, ⟨b, rfl, bk⟩, trivial⟩, fun _ _ _ _ h => (by cases h), fun h => absurd rfl h, fun _ h => (by cases h)⟩ (fun v s1 po => by
    have hv : ∃ x : Int32, v = some (.int x) ∧ (18 : Int) ≤ x.toInt ∧ x.toInt ≤ 18 := po.2.2.2.1
    obtain ⟨x, hx, x1, x2⟩ := hv
    subst hx
    have ex : x = f_text a b := Int32.toInt_inj.mp (by
      unfold f_text
      rw [if_pos ⟨⟨a2, a3⟩, by omega⟩, if_neg (by omega)]
      omega)
    rw [ex]
    exact hq s1 po.1)
  · exact ct_X5_text_24 0 s _ Q ⟨hInv, ⟨rfl, ⟨a, rfl, a2, a3, fun h => (by cases h)⟩, ⟨b, rfl, bk⟩, trivial⟩, fun _ _ _ _ h => (by cases h), fun h => absurd rfl h, fun _ h => (by cases h)⟩ (fun v s1 po => by
    have hv : ∃ x : Int32, v = some (.int x) ∧ (19 : Int) ≤ x.toInt ∧ x.toInt ≤ 19 := po.2.2.2.1
    obtain ⟨x, hx, x1, x2⟩ := hv
    subst hx
    have ex : x = f_text a b := Int32.toInt_inj.mp (by
      unfold f_text
      rw [if_pos ⟨⟨a2, a3⟩, by omega⟩, if_neg (by omega)]
      omega)
    rw [ex]
    exact hq s1 po.1)
  · exact ct_X5_text_25 0 s _ Q ⟨hInv, ⟨rfl, ⟨a, rfl, a2, a3, fun h => (by cases h)⟩, ⟨b, rfl, bk⟩, trivial⟩, fun _ _ _ _ h => (by cases h), fun h => absurd rfl h, fun _ h => (by cases h)⟩ (fun v s1 po => by
    have hv : ∃ x : Int32, v = some (.int x) ∧ (20 : Int) ≤ x.toInt ∧ x.toInt ≤ 20 := po.2.2.2.1
    obtain ⟨x, hx, x1, x2⟩ := hv
    subst hx
    have ex : x = f_text a b := Int32.toInt_inj.mp (by
      unfold f_text
      rw [if_pos ⟨⟨a2, a3⟩, by omega⟩, if_neg (by omega)]
      omega)
    rw [ex]
    exact hq s1 po.1)
  · exact ct_X5_text_26 0 s _ Q ⟨hInv, ⟨rfl, ⟨a, rfl, a2, a3, fun h => (by cases h)⟩, ⟨b, rfl, bk⟩, trivial⟩, fun _ _ _ _ h => (by cases h), fun h => absurd rfl h, fun _ h => (by cases h)⟩ (fun v s1 po => by
    have hv : ∃ x : Int32, v = some (.int x) ∧ (21 : Int) ≤ x.toInt ∧ x.toInt ≤ 21 := po.2.2.2.1
    obtain ⟨x, hx, x1, x2⟩ := hv
    subst hx
    have ex : x = f_text a b := Int32.toInt_inj.mp (by
      unfold f_text
      rw [if_pos ⟨⟨a2, a3⟩, by omega⟩, if_neg (by omega)]
      omega)
    rw [ex]
    exact hq s1 po.1)
  · exact ct_X5_text_27 0 s _ Q ⟨hInv, ⟨rfl, ⟨a, rfl, a2, a3, fun h => (by cases h)⟩, ⟨b, rfl, bk⟩, trivial⟩, fun _ _ _ _ h => (by cases h), fun h => absurd rfl h, fun _ h => (by cases h)⟩ (fun v s1 po => by
    have hv : ∃ x : Int32, v = some (.int x) ∧ (22 : Int) ≤ x.toInt ∧ x.toInt ≤ 22 := po.2.2.2.1
    obtain ⟨x, hx, x1, x2⟩ := hv
    subst hx
    have ex : x = f_text a b := Int32.toInt_inj.mp (by
      unfold f_text
      rw [if_pos ⟨⟨a2, a3⟩, by omega⟩, if_neg (by omega)]
      omega)
    rw [ex]
    exact hq s1 po.1)
  · exact ct_X5_text_28 0 s _ Q ⟨hInv, ⟨rfl, ⟨a, rfl, a2, a3, fun h => (by cases h)⟩, ⟨b, rfl, bk⟩, trivial⟩, fun _ _ _ _ h => (by cases h), fun h => absurd rfl h, fun _ h => (by cases h)⟩ (fun v s1 po => by
    have hv : ∃ x : Int32, v = some (.int x) ∧ (23 : Int) ≤ x.toInt ∧ x.toInt ≤ 23 := po.2.2.2.1
    obtain ⟨x, hx, x1, x2⟩ := hv
    subst hx
    have ex : x = f_text a b := Int32.toInt_inj.mp (by
      unfold f_text
      rw [if_pos ⟨⟨a2, a3⟩, by omega⟩, if_neg (by omega)]
      omega)
    rw [ex]
    exact hq s1 po.1)
  · exact ct_X5_text_29 0 s _ Q ⟨hInv, ⟨rfl, ⟨a, rfl, a2, a3, fun h => (by cases h)⟩, ⟨b, rfl, bk⟩, trivial⟩, fun _ _ _ _ h => (by cases h), fun h => absurd rfl h, fun _ h => (by cases h)⟩ (fun v s1 po => by
    have hv : ∃ x : Int32, v = some (.int x) ∧ (24 : Int) ≤ x.toInt ∧ x.toInt ≤ 24 := po.2.2.2.1
    obtain ⟨x, hx, x1, x2⟩ := hv
    subst hx
    have ex : x = f_text a b := Int32.toInt_inj.mp (by
      unfold f_text
      rw [if_pos ⟨⟨a2, a3⟩, by omega⟩, if_neg (by omega)]
      omega)
    rw [ex]
    exact hq s1 po.1)
  · exact ct_X5_text_30 0 s _ Q ⟨hInv, ⟨rfl, ⟨a, rfl, a2, a3, fun h => (by cases h)⟩, ⟨b, rfl, bk⟩, trivial⟩, fun _ _ _ _ h => (by cases h), fun h => absurd rfl h, fun _ h => (by cases h)⟩ (fun v s1 po => by
    have hv : ∃ x : Int32, v = some (.int x) ∧ (25 : Int) ≤ x.toInt ∧ x.toInt ≤ 25 := po.2.2.2.1
    obtain ⟨x, hx, x1, x2⟩ := hv
    subst hx
    have ex : x = f_text a b := Int32.toInt_inj.mp (by
      unfold f_text
      rw [if_pos ⟨⟨a2, a3⟩, by omega⟩, if_neg (by omega)]
      omega)
    rw [ex]
    exact hq s1 po.1)
  · exact ct_X5_text_31 0 s _ Q ⟨hInv, ⟨rfl, ⟨a, rfl, a2, a3, fun h => (by cases h)⟩, ⟨b, rfl, bk⟩, trivial⟩, fun _ _ _ _ h => (by cases h), fun h => absurd rfl h, fun _ h => (by cases h)⟩ (fun v s1 po => by
    have hv : ∃ x : Int32, v = some (.int x) ∧ (26 : Int) ≤ x.toInt ∧ x.toInt ≤ 26 := po.2.2.2.1
    obtain ⟨x, hx, x1, x2⟩ := hv
    subst hx
    have ex : x = f_text a b := Int32.toInt_inj.mp (by
      unfold f_text
      rw [if_pos ⟨⟨a2, a3⟩, by omega⟩, if_neg (by omega)]
      omega)
    rw [ex]
    exact hq s1 po.1)
  · exact ct_X5_text_32 0 s _ Q ⟨hInv, ⟨rfl, ⟨a, rfl, a2, a3, fun h => (by cases h)⟩, ⟨b, rfl, bk⟩, trivial⟩, fun _ _ _ _ h => (by cases h), fun h => absurd rfl h, fun _ h => (by cases h)⟩ (fun v s1 po => by
    have hv : ∃ x : Int32, v = some (.int x) ∧ (27 : Int) ≤ x.toInt ∧ x.toInt ≤ 27 := po.2.2.2.1
    obtain ⟨x, hx, x1, x2⟩ := hv
    subst hx
    have ex : x = f_text a b := Int32.toInt_inj.mp (by
      unfold f_text
      rw [if_pos ⟨⟨a2, a3⟩, by omega⟩, if_neg (by omega)]
      omega)
    rw [ex]
    exact hq s1 po.1)
  · exact ct_X5_text_33 0 s _ Q ⟨hInv, ⟨rfl, ⟨a, rfl, a2, a3, fun h => (by cases h)⟩, ⟨b, rfl, bk⟩, trivial⟩, fun _ _ _ _ h => (by cases h), fun h => absurd rfl h, fun _ h => (by cases h)⟩ (fun v s1 po => by
    have hv : ∃ x : Int32, v = some (.int x) ∧ (28 : Int) ≤ x.toInt ∧ x.toInt ≤ 28 := po.2.2.2.1
    obtain ⟨x, hx, x1, x2⟩ := hv
    subst hx
    have ex : x = f_text a b := Int32.toInt_inj.mp (by
      unfold f_text
      rw [if_pos ⟨⟨a2, a3⟩, by omega⟩, if_neg (by omega)]
      omega)
    rw [ex]
    exact hq s1 po.1)
  · exact ct_X5_text_34 0 s _ Q ⟨hInv, ⟨rfl, ⟨a, rfl, a2, a3, fun h => (by cases h)⟩, ⟨b, rfl, bk⟩, trivial⟩, fun _ _ _ _ h => (by cases h), fun h => absurd rfl h, fun _ h => (by cases h)⟩ (fun v s1 po => by
    have hv : ∃ x : Int32, v = some (.int x) ∧ (29 : Int) ≤ x.toInt ∧ x.toInt ≤ 29 := po.2.2.2.1
    obtain ⟨x, hx, x1, x2⟩ := hv
    subst hx
    have ex : x = f_text a b := Int32.toInt_inj.mp (by
      unfold f_text
      rw [if_pos ⟨⟨a2, a3⟩, by omega⟩, if_neg (by omega)]
      omega)
    rw [ex]
    exact hq s1 po.1)
  · exact ct_X5_text_35 0 s _ Q ⟨hInv, ⟨rfl, ⟨a, rfl, a2, a3, fun h => (by cases h)⟩, ⟨b, rfl, bk⟩, trivial⟩, fun _ _ _ _ h => (by cases h), fun h => absurd rfl h, fun _ h => (by cases h)⟩ (fun v s1 po => by
    have hv : ∃ x : Int32, v = some (.int x) ∧ (30 : Int) ≤ x.toInt ∧ x.toInt ≤ 30 := po.2.2.2.1
    obtain ⟨x, hx, x1, x2⟩ := hv
    subst hx
    have ex : x = f_text a b := Int32.toInt_inj.mp (by
      unfold f_text
      rw [if_pos ⟨⟨a2, a3⟩, by omega⟩, if_neg (by omega)]
      omega)
    rw [ex]
    exact hq s1 po.1)
  · exact ct_X5_text_36 0 s _ Q ⟨hInv, ⟨rfl, ⟨a, rfl, a2, a3, fun h => (by cases h)⟩, ⟨b, rfl, bk⟩, trivial⟩, fun _ _ _ _ h => (by cases h), fun h => absurd rfl h, fun _ h => (by cases h)⟩ (fun v s1 po => by
    have hv : ∃ x : Int32, v = some (.int x) ∧ (31 : Int) ≤ x.toInt ∧ x.toInt ≤ 31 := po.2.2.2.1
    obtain ⟨x, hx, x1, x2⟩ := hv
    subst hx
    have ex : x = f_text a b := Int32.toInt_inj.mp (by
      unfold f_text
      rw [if_pos ⟨⟨a2, a3⟩, by omega⟩, if_neg (by omega)]
      omega)
    rw [ex]
    exact hq s1 po.1)
  · exact ct_X5_text_37 0 s _ Q ⟨hInv, ⟨rfl, ⟨a, rfl, a2, a3, fun h => (by cases h)⟩, ⟨b, rfl, bk⟩, trivial⟩, fun _ _ _ _ h => (by cases h), fun h => absurd rfl h, fun _ h => (by cases h)⟩ (fun v s1 po => by
    have hv : ∃ x : Int32, v = some (.int x) ∧ (32 : Int) ≤ x.toInt ∧ x.toInt ≤ 32 := po.2.2.2.1
    obtain ⟨x, hx, x1, x2⟩ := hv
    subst hx
    have ex : x = f_text a b := Int32.toInt_inj.mp (by
      unfold f_text
      rw [if_pos ⟨⟨a2, a3⟩, by omega⟩, if_neg (by omega)]
      omega)
    rw [ex]
    exact hq s1 po.1)
  · exact ct_X5_text_38 0 s _ Q ⟨hInv, ⟨rfl, ⟨a, rfl, a2, a3, fun h => (by cases h)⟩, ⟨b, rfl, bk⟩, trivial⟩, fun _ _ _ _ h => (by cases h), fun h => absurd rfl h, fun _ h => (by cases h)⟩ (fun v s1 po => by
    have hv : ∃ x : Int32, v = some (.int x) ∧ (33 : Int) ≤ x.toInt ∧ x.toInt ≤ 33 := po.2.2.2.1
    obtain ⟨x, hx, x1, x2⟩ := hv
    subst hx
    have ex : x = f_text a b := Int32.toInt_inj.mp (by
      unfold f_text
      rw [if_pos ⟨⟨a2, a3⟩, by omega⟩, if_neg (by omega)]
      omega)
    rw [ex]
    exact hq s1 po.1)
  · exact ct_X5_text_39 0 s _ Q ⟨hInv, ⟨rfl, ⟨a, rfl, a2, a3, fun h => (by cases h)⟩, ⟨b, rfl, bk⟩, trivial⟩, fun _ _ _ _ h => (by cases h), fun h => absurd rfl h, fun _ h => (by cases h)⟩ (fun v s1 po => by
    have hv : ∃ x : Int32, v = some (.int x) ∧ (34 : Int) ≤ x.toInt ∧ x.toInt ≤ 34 := po.2.2.2.1
    obtain ⟨x, hx, x1, x2⟩ := hv
    subst hx
    have ex : x = f_text a b := Int32.toInt_inj.mp (by
      unfold f_text
      rw [if_pos ⟨⟨a2, a3⟩, by omega⟩, if_neg (by omega)]
      omega)
    rw [ex]
    exact hq s1 po.1)
  · exact ct_X5_text_40 0 s _ Q ⟨hInv, ⟨rfl, ⟨a, rfl, a2, a3, fun h => (by cases h)⟩, ⟨b, rfl, bk⟩, trivial⟩, fun _ _ _ _ h => (by cases h), fun h => absurd rfl h, fun _ h => (by cases h)⟩ (fun v s1 po => by
    have hv : ∃ x : Int32, v = some (.int x) ∧ (35 : Int) ≤ x.toInt ∧ x.toInt ≤ 35 := po.2.2.2.1
    obtain ⟨x, hx, x1, x2⟩ := hv
    subst hx
    have ex : x = f_text a b := Int32.toInt_inj.mp (by
      unfold f_text
      rw [if_pos ⟨⟨a2, a3⟩, by omega⟩, if_neg (by omega)]
      omega)
    rw [ex]
    exact hq s1 po.1)
  · exact ct_X5_text_41 0 s _ Q ⟨hInv, ⟨rfl, ⟨a, rfl, a2, a3, fun h => (by cases h)⟩, ⟨b, rfl, bk⟩, trivial⟩, fun _ _ _ _ h => (by cases h), fun h => absurd rfl h, fun _ h => (by cases h)⟩ (fun v s1 po => by
    have hv : ∃ x : Int32, v = some (.int x) ∧ (36 : Int) ≤ x.toInt ∧ x.toInt ≤ 36 := po.2.2.2.1
    obtain ⟨x, hx, x1, x2⟩ := hv
    subst hx
    have ex : x = f_text a b := Int32.toInt_inj.mp (by
      unfold f_text
      rw [if_pos ⟨⟨a2, a3⟩, by omega⟩, if_neg (by omega)]
      omega)
    rw [ex]
    exact hq s1 po.1)
  · exact ct_X5_text_42 0 s _ Q ⟨hInv, ⟨rfl, ⟨a, rfl, a2, a3, fun h => (by cases h)⟩, ⟨b, rfl, bk⟩, trivial⟩, fun _ _ _ _ h => (by cases h), fun h => absurd rfl h, fun _ h => (by cases h)⟩ (fun v s1 po => by
    have hv : ∃ x : Int32, v = some (.int x) ∧ (37 : Int) ≤ x.toInt ∧ x.toInt ≤ 37 := po.2.2.2.1
    obtain ⟨x, hx, x1, x2⟩ := hv
    subst hx
    have ex : x = f_text a b := Int32.toInt_inj.mp (by
      unfold f_text
      rw [if_pos ⟨⟨a2, a3⟩, by omega⟩, if_neg (by omega)]
      omega)
    rw [ex]
    exact hq s1 po.1)
  · exact ct_X5_text_43 0 s _ Q ⟨hInv, ⟨rfl, ⟨a, rfl, a2, a3, fun h => (by cases h)⟩, ⟨b, rfl, bk⟩, trivial⟩, fun _ _ _ _ h => (by cases h), fun h => absurd rfl h, fun _ h => (by cases h)⟩ (fun v s1 po => by
    have hv : ∃ x : Int32, v = some (.int x) ∧ (38 : Int) ≤ x.toInt ∧ x.toInt ≤ 38 := po.2.2.2.1
    obtain ⟨x, hx, x1, x2⟩ := hv
    subst hx
    have ex : x = f_text a b := Int32.toInt_inj.mp (by
      unfold f_text
      rw [if_pos ⟨⟨a2, a3⟩, by omega⟩, if_neg (by omega)]
      omega)
    rw [ex]
    exact hq s1 po.1)
  · exact ct_X5_text_44 0 s _ Q ⟨hInv, ⟨rfl, ⟨a, rfl, a2, a3, fun h => (by cases h)⟩, ⟨b, rfl, bk⟩, trivial⟩, fun _ _ _ _ h => (by cases h), fun h => absurd rfl h, fun _ h => (by cases h)⟩ (fun v s1 po => by
    have hv : ∃ x : Int32, v = some (.int x) ∧ (39 : Int) ≤ x.toInt ∧ x.toInt ≤ 39 := po.2.2.2.1
    obtain ⟨x, hx, x1, x2⟩ := hv
    subst hx
    have ex : x = f_text a b := Int32.toInt_inj.mp (by
      unfold f_text
      rw [if_pos ⟨⟨a2, a3⟩, by omega⟩, if_neg (by omega)]
      omega)
    rw [ex]
    exact hq s1 po.1)
  · exact ct_X5_text_45 0 s _ Q ⟨hInv, ⟨rfl, ⟨a, rfl, a2, a3, fun h => (by cases h)⟩, ⟨b, rfl, bk⟩, trivial⟩, fun _ _ _ _ h => (by cases h), fun h => absurd rfl h, fun _ h => (by cases h)⟩ (fun v s1 po => by
    have hv : ∃ x : Int32, v = some (.int x) ∧ (40 : Int) ≤ x.toInt ∧ x.toInt ≤ 40 := po.2.2.2.1
    obtain ⟨x, hx, x1, x2⟩ := hv
    subst hx
    have ex : x = f_text a b := Int32.toInt_inj.mp (by
      unfold f_text
      rw [if_pos ⟨⟨a2, a3⟩, by omega⟩, if_neg (by omega)]
      omega)
    rw [ex]
    exact hq s1 po.1)

set_option maxRecDepth 100000 in
set_option maxHeartbeats 4000000 in
theorem pR_text (Q : nk_Q) (s : nx_S) (a b : Int32) (hInv : nx_Inv gR s) (hJ : nJ s) (hq : ∀ s1 : nx_S, nx_Inv gR s1 → nJ s1 → Q (some (.int (f_text a b))) (nx_enc s1 0 shR)) : ev_X6_text [.ref 0, .int a, .int b] (nx_enc s 0 shR) Q := by
  have m1 : (-1 : Int32).toInt = -1 := rfl
  have m3 : (-3 : Int32).toInt = -3 := rfl
  have fa := na_i32 a
  have fb := na_i32 b
  by_cases a0 : a.toInt < 0
  · exact ct_X6_text_1 0 s _ Q ⟨hInv, ⟨rfl, ⟨a, rfl, fa.1, (show a.toInt ≤ -1 by omega), fun h => (by cases h)⟩, ⟨b, rfl, fb.1, fb.2, fun h => (by cases h)⟩, trivial⟩, fun _ _ _ _ h => (by cases h), fun h => absurd rfl h, fun _ h => (by cases h)⟩ (fun v s1 po => by
    have hv : ∃ x : Int32, v = some (.int x) ∧ (-1 : Int) ≤ x.toInt ∧ x.toInt ≤ -1 := po.2.2.2.1
    obtain ⟨x, hx, x1, x2⟩ := hv
    subst hx
    have ex : x = f_text a b := Int32.toInt_inj.mp (by
      unfold f_text
      rw [if_neg (fun h => by omega)]
      omega)
    rw [ex]
    exact hq s1 po.1 (nJ_s hJ (po.2.1 3 (0, 12) rfl) (by rw [show s1.2.2.1 0 10 = s.2.2.1 0 10 from po.2.1 2 (0, 10) rfl]; exact Int.le_refl _)))
  by_cases a1 : 3 < a.toInt
  · exact ct_X6_text_2 0 s _ Q ⟨hInv, ⟨rfl, ⟨a, rfl, (show (4 : Int) ≤ a.toInt by omega), fa.2, fun h => (by cases h)⟩, ⟨b, rfl, fb.1, fb.2, fun h => (by cases h)⟩, trivial⟩, fun _ _ _ _ h => (by cases h), fun h => absurd rfl h, fun _ h => (by cases h)⟩ (fun v s1 po => by
    have hv : ∃ x : Int32, v = some (.int x) ∧ (-1 : Int) ≤ x.toInt ∧ x.toInt ≤ -1 := po.2.2.2.1
    obtain ⟨x, hx, x1, x2⟩ := hv
    subst hx
    have ex : x = f_text a b := Int32.toInt_inj.mp (by
      unfold f_text
      rw [if_neg (fun h => by omega)]
      omega)
    rw [ex]
    exact hq s1 po.1 (nJ_s hJ (po.2.1 3 (0, 12) rfl) (by rw [show s1.2.2.1 0 10 = s.2.2.1 0 10 from po.2.1 2 (0, 10) rfl]; exact Int.le_refl _)))
  have a2 : 0 ≤ a.toInt := by omega
  have a3 : a.toInt ≤ 3 := by omega
  by_cases b0 : 40 < b.toInt
  · exact ct_X6_text_3 0 s _ Q ⟨hInv, ⟨rfl, ⟨a, rfl, a2, a3, fun h => (by cases h)⟩, ⟨b, rfl, (show (41 : Int) ≤ b.toInt by omega), fb.2, fun h => (by cases h)⟩, trivial⟩, fun _ _ _ _ h => (by cases h), fun h => absurd rfl h, fun _ h => (by cases h)⟩ (fun v s1 po => by
    have hv : ∃ x : Int32, v = some (.int x) ∧ (-1 : Int) ≤ x.toInt ∧ x.toInt ≤ -1 := po.2.2.2.1
    obtain ⟨x, hx, x1, x2⟩ := hv
    subst hx
    have ex : x = f_text a b := Int32.toInt_inj.mp (by
      unfold f_text
      rw [if_neg (fun h => by omega)]
      omega)
    rw [ex]
    exact hq s1 po.1 (nJ_s hJ (po.2.1 3 (0, 12) rfl) (by rw [show s1.2.2.1 0 10 = s.2.2.1 0 10 from po.2.1 2 (0, 10) rfl]; exact Int.le_refl _)))
  by_cases b1 : b.toInt < 0
  · exact ct_X6_text_4 0 s _ Q ⟨hInv, ⟨rfl, ⟨a, rfl, a2, a3, fun h => (by cases h)⟩, ⟨b, rfl, fb.1, (show b.toInt ≤ -1 by omega), fun h => (by cases h)⟩, trivial⟩, fun _ _ _ _ h => (by cases h), fun h => absurd rfl h, fun _ h => (by cases h)⟩ (fun v s1 po => by
    have hv : ∃ x : Int32, v = some (.int x) ∧ (-3 : Int) ≤ x.toInt ∧ x.toInt ≤ -3 := po.2.2.2.1
    obtain ⟨x, hx, x1, x2⟩ := hv
    subst hx
    have ex : x = f_text a b := Int32.toInt_inj.mp (by
      unfold f_text
      rw [if_pos ⟨⟨a2, a3⟩, by omega⟩, if_pos b1]
      omega)
    rw [ex]
    exact hq s1 po.1 (nJ_s hJ (po.2.1 3 (0, 12) rfl) (by rw [show s1.2.2.1 0 10 = s.2.2.1 0 10 from po.2.1 2 (0, 10) rfl]; exact Int.le_refl _)))
  have bb : b.toInt = 0 ∨ b.toInt = 1 ∨ b.toInt = 2 ∨ b.toInt = 3 ∨ b.toInt = 4 ∨ b.toInt = 5 ∨ b.toInt = 6 ∨ b.toInt = 7 ∨ b.toInt = 8 ∨ b.toInt = 9 ∨ b.toInt = 10 ∨ b.toInt = 11 ∨ b.toInt = 12 ∨ b.toInt = 13 ∨ b.toInt = 14 ∨ b.toInt = 15 ∨ b.toInt = 16 ∨ b.toInt = 17 ∨ b.toInt = 18 ∨ b.toInt = 19 ∨ b.toInt = 20 ∨ b.toInt = 21 ∨ b.toInt = 22 ∨ b.toInt = 23 ∨ b.toInt = 24 ∨ b.toInt = 25 ∨ b.toInt = 26 ∨ b.toInt = 27 ∨ b.toInt = 28 ∨ b.toInt = 29 ∨ b.toInt = 30 ∨ b.toInt = 31 ∨ b.toInt = 32 ∨ b.toInt = 33 ∨ b.toInt = 34 ∨ b.toInt = 35 ∨ b.toInt = 36 ∨ b.toInt = 37 ∨ b.toInt = 38 ∨ b.toInt = 39 ∨ b.toInt = 40 := by omega
  rcases bb with bk | bk | bk | bk | bk | bk | bk | bk | bk | bk | bk | bk | bk | bk | bk | bk | bk | bk | bk | bk | bk | bk | bk | bk | bk | bk | bk | bk | bk | bk | bk | bk | bk | bk | bk | bk | bk | bk | bk | bk | bk
  · exact ct_X6_text_5 0 s _ Q ⟨hInv, ⟨rfl, ⟨a, rfl, a2, a3, fun h => (by cases h)⟩, ⟨b, rfl, bk⟩, trivial⟩, fun _ _ _ _ h => (by cases h), fun h => absurd rfl h, fun _ h => (by cases h)⟩ (fun v s1 po => by
    have hv : ∃ x : Int32, v = some (.int x) ∧ (0 : Int) ≤ x.toInt ∧ x.toInt ≤ 0 := po.2.2.2.1
    obtain ⟨x, hx, x1, x2⟩ := hv
    subst hx
    have ex : x = f_text a b := Int32.toInt_inj.mp (by
      unfold f_text
      rw [if_pos ⟨⟨a2, a3⟩, by omega⟩, if_neg (by omega)]
      omega)
    rw [ex]
    exact hq s1 po.1 (nJ_s hJ (po.2.1 3 (0, 12) rfl) (by rw [show s1.2.2.1 0 10 = s.2.2.1 0 10 from po.2.1 2 (0, 10) rfl]; exact Int.le_refl _)))
  · exact ct_X6_text_6 0 s _ Q ⟨hInv, ⟨rfl, ⟨a, rfl, a2, a3, fun h => (by cases h)⟩, ⟨b, rfl, bk⟩, trivial⟩, fun _ _ _ _ h => (by cases h), fun h => absurd rfl h, fun _ h => (by cases h)⟩ (fun v s1 po => by
    have hv : ∃ x : Int32, v = some (.int x) ∧ (1 : Int) ≤ x.toInt ∧ x.toInt ≤ 1 := po.2.2.2.1
    obtain ⟨x, hx, x1, x2⟩ := hv
    subst hx
    have ex : x = f_text a b := Int32.toInt_inj.mp (by
      unfold f_text
      rw [if_pos ⟨⟨a2, a3⟩, by omega⟩, if_neg (by omega)]
      omega)
    rw [ex]
    exact hq s1 po.1 (nJ_s hJ (po.2.1 3 (0, 12) rfl) (by rw [show s1.2.2.1 0 10 = s.2.2.1 0 10 from po.2.1 2 (0, 10) rfl]; exact Int.le_refl _)))
  · exact ct_X6_text_7 0 s _ Q ⟨hInv, ⟨rfl, ⟨a, rfl, a2, a3, fun h => (by cases h)⟩, ⟨b, rfl, bk⟩, trivial⟩, fun _ _ _ _ h => (by cases h), fun h => absurd rfl h, fun _ h => (by cases h)⟩ (fun v s1 po => by
    have hv : ∃ x : Int32, v = some (.int x) ∧ (2 : Int) ≤ x.toInt ∧ x.toInt ≤ 2 := po.2.2.2.1
    obtain ⟨x, hx, x1, x2⟩ := hv
    subst hx
    have ex : x = f_text a b := Int32.toInt_inj.mp (by
      unfold f_text
      rw [if_pos ⟨⟨a2, a3⟩, by omega⟩, if_neg (by omega)]
      omega)
    rw [ex]
    exact hq s1 po.1 (nJ_s hJ (po.2.1 3 (0, 12) rfl) (by rw [show s1.2.2.1 0 10 = s.2.2.1 0 10 from po.2.1 2 (0, 10) rfl]; exact Int.le_refl _)))
  · exact ct_X6_text_8 0 s _ Q ⟨hInv, ⟨rfl, ⟨a, rfl, a2, a3, fun h => (by cases h)⟩, ⟨b, rfl, bk⟩, trivial⟩, fun _ _ _ _ h => (by cases h), fun h => absurd rfl h, fun _ h => (by cases h)⟩ (fun v s1 po => by
    have hv : ∃ x : Int32, v = some (.int x) ∧ (3 : Int) ≤ x.toInt ∧ x.toInt ≤ 3 := po.2.2.2.1
    obtain ⟨x, hx, x1, x2⟩ := hv
    subst hx
    have ex : x = f_text a b := Int32.toInt_inj.mp (by
      unfold f_text
      rw [if_pos ⟨⟨a2, a3⟩, by omega⟩, if_neg (by omega)]
      omega)
    rw [ex]
    exact hq s1 po.1 (nJ_s hJ (po.2.1 3 (0, 12) rfl) (by rw [show s1.2.2.1 0 10 = s.2.2.1 0 10 from po.2.1 2 (0, 10) rfl]; exact Int.le_refl _)))
  · exact ct_X6_text_9 0 s _ Q ⟨hInv, ⟨rfl, ⟨a, rfl, a2, a3, fun h => (by cases h)⟩, ⟨b, rfl, bk⟩, trivial⟩, fun _ _ _ _ h => (by cases h), fun h => absurd rfl h, fun _ h => (by cases h)⟩ (fun v s1 po => by
    have hv : ∃ x : Int32, v = some (.int x) ∧ (4 : Int) ≤ x.toInt ∧ x.toInt ≤ 4 := po.2.2.2.1
    obtain ⟨x, hx, x1, x2⟩ := hv
    subst hx
    have ex : x = f_text a b := Int32.toInt_inj.mp (by
      unfold f_text
      rw [if_pos ⟨⟨a2, a3⟩, by omega⟩, if_neg (by omega)]
      omega)
    rw [ex]
    exact hq s1 po.1 (nJ_s hJ (po.2.1 3 (0, 12) rfl) (by rw [show s1.2.2.1 0 10 = s.2.2.1 0 10 from po.2.1 2 (0, 10) rfl]; exact Int.le_refl _)))
  · exact ct_X6_text_10 0 s _ Q ⟨hInv, ⟨rfl, ⟨a, rfl, a2, a3, fun h => (by cases h)⟩, ⟨b, rfl, bk⟩, trivial⟩, fun _ _ _ _ h => (by cases h), fun h => absurd rfl h, fun _ h => (by cases h)⟩ (fun v s1 po => by
    have hv : ∃ x : Int32, v = some (.int x) ∧ (5 : Int) ≤ x.toInt ∧ x.toInt ≤ 5 := po.2.2.2.1
    obtain ⟨x, hx, x1, x2⟩ := hv
    subst hx
    have ex : x = f_text a b := Int32.toInt_inj.mp (by
      unfold f_text
      rw [if_pos ⟨⟨a2, a3⟩, by omega⟩, if_neg (by omega)]
      omega)
    rw [ex]
    exact hq s1 po.1 (nJ_s hJ (po.2.1 3 (0, 12) rfl) (by rw [show s1.2.2.1 0 10 = s.2.2.1 0 10 from po.2.1 2 (0, 10) rfl]; exact Int.le_refl _)))
  · exact ct_X6_text_11 0 s _ Q ⟨hInv, ⟨rfl, ⟨a, rfl, a2, a3, fun h => (by cases h)⟩, ⟨b, rfl, bk⟩, trivial⟩, fun _ _ _ _ h => (by cases h), fun h => absurd rfl h, fun _ h => (by cases h)⟩ (fun v s1 po => by
    have hv : ∃ x : Int32, v = some (.int x) ∧ (6 : Int) ≤ x.toInt ∧ x.toInt ≤ 6 := po.2.2.2.1
    obtain ⟨x, hx, x1, x2⟩ := hv
    subst hx
    have ex : x = f_text a b := Int32.toInt_inj.mp (by
      unfold f_text
      rw [if_pos ⟨⟨a2, a3⟩, by omega⟩, if_neg (by omega)]
      omega)
    rw [ex]
    exact hq s1 po.1 (nJ_s hJ (po.2.1 3 (0, 12) rfl) (by rw [show s1.2.2.1 0 10 = s.2.2.1 0 10 from po.2.1 2 (0, 10) rfl]; exact Int.le_refl _)))
  · exact ct_X6_text_12 0 s _ Q ⟨hInv, ⟨rfl, ⟨a, rfl, a2, a3, fun h => (by cases h)⟩, ⟨b, rfl, bk⟩, trivial⟩, fun _ _ _ _ h => (by cases h), fun h => absurd rfl h, fun _ h => (by cases h)⟩ (fun v s1 po => by
    have hv : ∃ x : Int32, v = some (.int x) ∧ (7 : Int) ≤ x.toInt ∧ x.toInt ≤ 7 := po.2.2.2.1
    obtain ⟨x, hx, x1, x2⟩ := hv
    subst hx
    have ex : x = f_text a b := Int32.toInt_inj.mp (by
      unfold f_text
      rw [if_pos ⟨⟨a2, a3⟩, by omega⟩, if_neg (by omega)]
      omega)
    rw [ex]
    exact hq s1 po.1 (nJ_s hJ (po.2.1 3 (0, 12) rfl) (by rw [show s1.2.2.1 0 10 = s.2.2.1 0 10 from po.2.1 2 (0, 10) rfl]; exact Int.le_refl _)))
  · exact ct_X6_text_13 0 s _ Q ⟨hInv, ⟨rfl, ⟨a, rfl, a2, a3, fun h => (by cases h)⟩, ⟨b, rfl, bk⟩, trivial⟩, fun _ _ _ _ h => (by cases h), fun h => absurd rfl h, fun _ h => (by cases h)⟩ (fun v s1 po => by
    have hv : ∃ x : Int32, v = some (.int x) ∧ (8 : Int) ≤ x.toInt ∧ x.toInt ≤ 8 := po.2.2.2.1
    obtain ⟨x, hx, x1, x2⟩ := hv
    subst hx
    have ex : x = f_text a b := Int32.toInt_inj.mp (by
      unfold f_text
      rw [if_pos ⟨⟨a2, a3⟩, by omega⟩, if_neg (by omega)]
      omega)
    rw [ex]
    exact hq s1 po.1 (nJ_s hJ (po.2.1 3 (0, 12) rfl) (by rw [show s1.2.2.1 0 10 = s.2.2.1 0 10 from po.2.1 2 (0, 10) rfl]; exact Int.le_refl _)))
  · exact ct_X6_text_14 0 s _ Q ⟨hInv, ⟨rfl, ⟨a, rfl, a2, a3, fun h => (by cases h)⟩, ⟨b, rfl, bk⟩, trivial⟩, fun _ _ _ _ h => (by cases h), fun h => absurd rfl h, fun _ h => (by cases h)⟩ (fun v s1 po => by
    have hv : ∃ x : Int32, v = some (.int x) ∧ (9 : Int) ≤ x.toInt ∧ x.toInt ≤ 9 := po.2.2.2.1
    obtain ⟨x, hx, x1, x2⟩ := hv
    subst hx
    have ex : x = f_text a b := Int32.toInt_inj.mp (by
      unfold f_text
      rw [if_pos ⟨⟨a2, a3⟩, by omega⟩, if_neg (by omega)]
      omega)
    rw [ex]
    exact hq s1 po.1 (nJ_s hJ (po.2.1 3 (0, 12) rfl) (by rw [show s1.2.2.1 0 10 = s.2.2.1 0 10 from po.2.1 2 (0, 10) rfl]; exact Int.le_refl _)))
  · exact ct_X6_text_15 0 s _ Q ⟨hInv, ⟨rfl, ⟨a, rfl, a2, a3, fun h => (by cases h)⟩, ⟨b, rfl, bk⟩, trivial⟩, fun _ _ _ _ h => (by cases h), fun h => absurd rfl h, fun _ h => (by cases h)⟩ (fun v s1 po => by
    have hv : ∃ x : Int32, v = some (.int x) ∧ (10 : Int) ≤ x.toInt ∧ x.toInt ≤ 10 := po.2.2.2.1
    obtain ⟨x, hx, x1, x2⟩ := hv
    subst hx
    have ex : x = f_text a b := Int32.toInt_inj.mp (by
      unfold f_text
      rw [if_pos ⟨⟨a2, a3⟩, by omega⟩, if_neg (by omega)]
      omega)
    rw [ex]
    exact hq s1 po.1 (nJ_s hJ (po.2.1 3 (0, 12) rfl) (by rw [show s1.2.2.1 0 10 = s.2.2.1 0 10 from po.2.1 2 (0, 10) rfl]; exact Int.le_refl _)))
  · exact ct_X6_text_16 0 s _ Q ⟨hInv, ⟨rfl, ⟨a, rfl, a2, a3, fun h => (by cases h)⟩, ⟨b, rfl, bk⟩, trivial⟩, fun _ _ _ _ h => (by cases h), fun h => absurd rfl h, fun _ h => (by cases h)⟩ (fun v s1 po => by
    have hv : ∃ x : Int32, v = some (.int x) ∧ (11 : Int) ≤ x.toInt ∧ x.toInt ≤ 11 := po.2.2.2.1
    obtain ⟨x, hx, x1, x2⟩ := hv
    subst hx
    have ex : x = f_text a b := Int32.toInt_inj.mp (by
      unfold f_text
      rw [if_pos ⟨⟨a2, a3⟩, by omega⟩, if_neg (by omega)]
      omega)
    rw [ex]
    exact hq s1 po.1 (nJ_s hJ (po.2.1 3 (0, 12) rfl) (by rw [show s1.2.2.1 0 10 = s.2.2.1 0 10 from po.2.1 2 (0, 10) rfl]; exact Int.le_refl _)))
  · exact ct_X6_text_17 0 s _ Q ⟨hInv, ⟨rfl, ⟨a, rfl, a2, a3, fun h => (by cases h)⟩, ⟨b, rfl, bk⟩, trivial⟩, fun _ _ _ _ h => (by cases h), fun h => absurd rfl h, fun _ h => (by cases h)⟩ (fun v s1 po => by
    have hv : ∃ x : Int32, v = some (.int x) ∧ (12 : Int) ≤ x.toInt ∧ x.toInt ≤ 12 := po.2.2.2.1
    obtain ⟨x, hx, x1, x2⟩ := hv
    subst hx
    have ex : x = f_text a b := Int32.toInt_inj.mp (by
      unfold f_text
      rw [if_pos ⟨⟨a2, a3⟩, by omega⟩, if_neg (by omega)]
      omega)
    rw [ex]
    exact hq s1 po.1 (nJ_s hJ (po.2.1 3 (0, 12) rfl) (by rw [show s1.2.2.1 0 10 = s.2.2.1 0 10 from po.2.1 2 (0, 10) rfl]; exact Int.le_refl _)))
  · exact ct_X6_text_18 0 s _ Q ⟨hInv, ⟨rfl, ⟨a, rfl, a2, a3, fun h => (by cases h)⟩, ⟨b, rfl, bk⟩, trivial⟩, fun _ _ _ _ h => (by cases h), fun h => absurd rfl h, fun _ h => (by cases h)⟩ (fun v s1 po => by
    have hv : ∃ x : Int32, v = some (.int x) ∧ (13 : Int) ≤ x.toInt ∧ x.toInt ≤ 13 := po.2.2.2.1
    obtain ⟨x, hx, x1, x2⟩ := hv
    subst hx
    have ex : x = f_text a b := Int32.toInt_inj.mp (by
      unfold f_text
      rw [if_pos ⟨⟨a2, a3⟩, by omega⟩, if_neg (by omega)]
      omega)
    rw [ex]
    exact hq s1 po.1 (nJ_s hJ (po.2.1 3 (0, 12) rfl) (by rw [show s1.2.2.1 0 10 = s.2.2.1 0 10 from po.2.1 2 (0, 10) rfl]; exact Int.le_refl _)))
  · exact ct_X6_text_19 0 s _ Q ⟨hInv, ⟨rfl, ⟨a, rfl, a2, a3, fun h => (by cases h)⟩, ⟨b, rfl, bk⟩, trivial⟩, fun _ _ _ _ h => (by cases h), fun h => absurd rfl h, fun _ h => (by cases h)⟩ (fun v s1 po => by
    have hv : ∃ x : Int32, v = some (.int x) ∧ (14 : Int) ≤ x.toInt ∧ x.toInt ≤ 14 := po.2.2.2.1
    obtain ⟨x, hx, x1, x2⟩ := hv
    subst hx
    have ex : x = f_text a b := Int32.toInt_inj.mp (by
      unfold f_text
      rw [if_pos ⟨⟨a2, a3⟩, by omega⟩, if_neg (by omega)]
      omega)
    rw [ex]
    exact hq s1 po.1 (nJ_s hJ (po.2.1 3 (0, 12) rfl) (by rw [show s1.2.2.1 0 10 = s.2.2.1 0 10 from po.2.1 2 (0, 10) rfl]; exact Int.le_refl _)))
  · exact ct_X6_text_20 0 s _ Q ⟨hInv, ⟨rfl, ⟨a, rfl, a2, a3, fun h => (by cases h)⟩, ⟨b, rfl, bk⟩, trivial⟩, fun _ _ _ _ h => (by cases h), fun h => absurd rfl h, fun _ h => (by cases h)⟩ (fun v s1 po => by
    have hv : ∃ x : Int32, v = some (.int x) ∧ (15 : Int) ≤ x.toInt ∧ x.toInt ≤ 15 := po.2.2.2.1
    obtain ⟨x, hx, x1, x2⟩ := hv
    subst hx
    have ex : x = f_text a b := Int32.toInt_inj.mp (by
      unfold f_text
      rw [if_pos ⟨⟨a2, a3⟩, by omega⟩, if_neg (by omega)]
      omega)
    rw [ex]
    exact hq s1 po.1 (nJ_s hJ (po.2.1 3 (0, 12) rfl) (by rw [show s1.2.2.1 0 10 = s.2.2.1 0 10 from po.2.1 2 (0, 10) rfl]; exact Int.le_refl _)))
  · exact ct_X6_text_21 0 s _ Q ⟨hInv, ⟨rfl, ⟨a, rfl, a2, a3, fun h => (by cases h)⟩, ⟨b, rfl, bk⟩, trivial⟩, fun _ _ _ _ h => (by cases h), fun h => absurd rfl h, fun _ h => (by cases h)⟩ (fun v s1 po => by
    have hv : ∃ x : Int32, v = some (.int x) ∧ (16 : Int) ≤ x.toInt ∧ x.toInt ≤ 16 := po.2.2.2.1
    obtain ⟨x, hx, x1, x2⟩ := hv
    subst hx
    have ex : x = f_text a b := Int32.toInt_inj.mp (by
      unfold f_text
      rw [if_pos ⟨⟨a2, a3⟩, by omega⟩, if_neg (by omega)]
      omega)
    rw [ex]
    exact hq s1 po.1 (nJ_s hJ (po.2.1 3 (0, 12) rfl) (by rw [show s1.2.2.1 0 10 = s.2.2.1 0 10 from po.2.1 2 (0, 10) rfl]; exact Int.le_refl _)))
  · exact ct_X6_text_22 0 s _ Q ⟨hInv, ⟨rfl, ⟨a, rfl, a2, a3, fun h => (by cases h)⟩, ⟨b, rfl, bk⟩, trivial⟩, fun _ _ _ _ h => (by cases h), fun h => absurd rfl h, fun _ h => (by cases h)⟩ (fun v s1 po => by
    have hv : ∃ x : Int32, v = some (.int x) ∧ (17 : Int) ≤ x.toInt ∧ x.toInt ≤ 17 := po.2.2.2.1
    obtain ⟨x, hx, x1, x2⟩ := hv
    subst hx
    have ex : x = f_text a b := Int32.toInt_inj.mp (by
      unfold f_text
      rw [if_pos ⟨⟨a2, a3⟩, by omega⟩, if_neg (by omega)]
      omega)
    rw [ex]
    exact hq s1 po.1 (nJ_s hJ (po.2.1 3 (0, 12) rfl) (by rw [show s1.2.2.1 0 10 = s.2.2.1 0 10 from po.2.1 2 (0, 10) rfl]; exact Int.le_refl _)))
  · exact ct_X6_text_23 0 s _ Q ⟨hInv, ⟨rfl, ⟨a, rfl, a2, a3, fun h => (by cases h)⟩, ⟨b, rfl, bk⟩, trivial⟩, fun _ _ _ _ h => (by cases h), fun h => absurd rfl h, fun _ h => (by cases h)⟩ (fun v s1 po => by
    have hv : ∃ x : Int32, v = some (.int x) ∧ (18 : Int) ≤ x.toInt ∧ x.toInt ≤ 18 := po.2.2.2.1
    obtain ⟨x, hx, x1, x2⟩ := hv
    subst hx
    have ex : x = f_text a b := Int32.toInt_inj.mp (by
      unfold f_text
      rw [if_pos ⟨⟨a2, a3⟩, by omega⟩, if_neg (by omega)]
      omega)
    rw [ex]
    exact hq s1 po.1 (nJ_s hJ (po.2.1 3 (0, 12) rfl) (by rw [show s1.2.2.1 0 10 = s.2.2.1 0 10 from po.2.1 2 (0, 10) rfl]; exact Int.le_refl _)))
  · exact ct_X6_text_24 0 s _ Q ⟨hInv, ⟨rfl, ⟨a, rfl, a2, a3, fun h => (by cases h)⟩, ⟨b, rfl, bk⟩, trivial⟩, fun _ _ _ _ h => (by cases h), fun h => absurd rfl h, fun _ h => (by cases h)⟩ (fun v s1 po => by
    have hv : ∃ x : Int32, v = some (.int x) ∧ (19 : Int) ≤ x.toInt ∧ x.toInt ≤ 19 := po.2.2.2.1
    obtain ⟨x, hx, x1, x2⟩ := hv
    subst hx
    have ex : x = f_text a b := Int32.toInt_inj.mp (by
      unfold f_text
      rw [if_pos ⟨⟨a2, a3⟩, by omega⟩, if_neg (by omega)]
      omega)
    rw [ex]
    exact hq s1 po.1 (nJ_s hJ (po.2.1 3 (0, 12) rfl) (by rw [show s1.2.2.1 0 10 = s.2.2.1 0 10 from po.2.1 2 (0, 10) rfl]; exact Int.le_refl _)))
  · exact ct_X6_text_25 0 s _ Q ⟨hInv, ⟨rfl, ⟨a, rfl, a2, a3, fun h => (by cases h)⟩, ⟨b, rfl, bk⟩, trivial⟩, fun _ _ _ _ h => (by cases h), fun h => absurd rfl h, fun _ h => (by cases h)⟩ (fun v s1 po => by
    have hv : ∃ x : Int32, v = some (.int x) ∧ (20 : Int) ≤ x.toInt ∧ x.toInt ≤ 20 := po.2.2.2.1
    obtain ⟨x, hx, x1, x2⟩ := hv
    subst hx
    have ex : x = f_text a b := Int32.toInt_inj.mp (by
      unfold f_text
      rw [if_pos ⟨⟨a2, a3⟩, by omega⟩, if_neg (by omega)]
      omega)
    rw [ex]
    exact hq s1 po.1 (nJ_s hJ (po.2.1 3 (0, 12) rfl) (by rw [show s1.2.2.1 0 10 = s.2.2.1 0 10 from po.2.1 2 (0, 10) rfl]; exact Int.le_refl _)))
  · exact ct_X6_text_26 0 s _ Q ⟨hInv, ⟨rfl, ⟨a, rfl, a2, a3, fun h => (by cases h)⟩, ⟨b, rfl, bk⟩, trivial⟩, fun _ _ _ _ h => (by cases h), fun h => absurd rfl h, fun _ h => (by cases h)⟩ (fun v s1 po => by
    have hv : ∃ x : Int32, v = some (.int x) ∧ (21 : Int) ≤ x.toInt ∧ x.toInt ≤ 21 := po.2.2.2.1
    obtain ⟨x, hx, x1, x2⟩ := hv
    subst hx
    have ex : x = f_text a b := Int32.toInt_inj.mp (by
      unfold f_text
      rw [if_pos ⟨⟨a2, a3⟩, by omega⟩, if_neg (by omega)]
      omega)
    rw [ex]
    exact hq s1 po.1 (nJ_s hJ (po.2.1 3 (0, 12) rfl) (by rw [show s1.2.2.1 0 10 = s.2.2.1 0 10 from po.2.1 2 (0, 10) rfl]; exact Int.le_refl _)))
  · exact ct_X6_text_27 0 s _ Q ⟨hInv, ⟨rfl, ⟨a, rfl, a2, a3, fun h => (by cases h)⟩, ⟨b, rfl, bk⟩, trivial⟩, fun _ _ _ _ h => (by cases h), fun h => absurd rfl h, fun _ h => (by cases h)⟩ (fun v s1 po => by
    have hv : ∃ x : Int32, v = some (.int x) ∧ (22 : Int) ≤ x.toInt ∧ x.toInt ≤ 22 := po.2.2.2.1
    obtain ⟨x, hx, x1, x2⟩ := hv
    subst hx
    have ex : x = f_text a b := Int32.toInt_inj.mp (by
      unfold f_text
      rw [if_pos ⟨⟨a2, a3⟩, by omega⟩, if_neg (by omega)]
      omega)
    rw [ex]
    exact hq s1 po.1 (nJ_s hJ (po.2.1 3 (0, 12) rfl) (by rw [show s1.2.2.1 0 10 = s.2.2.1 0 10 from po.2.1 2 (0, 10) rfl]; exact Int.le_refl _)))
  · exact ct_X6_text_28 0 s _ Q ⟨hInv, ⟨rfl, ⟨a, rfl, a2, a3, fun h => (by cases h)⟩, ⟨b, rfl, bk⟩, trivial⟩, fun _ _ _ _ h => (by cases h), fun h => absurd rfl h, fun _ h => (by cases h)⟩ (fun v s1 po => by
    have hv : ∃ x : Int32, v = some (.int x) ∧ (23 : Int) ≤ x.toInt ∧ x.toInt ≤ 23 := po.2.2.2.1
    obtain ⟨x, hx, x1, x2⟩ := hv
    subst hx
    have ex : x = f_text a b := Int32.toInt_inj.mp (by
      unfold f_text
      rw [if_pos ⟨⟨a2, a3⟩, by omega⟩, if_neg (by omega)]
      omega)
    rw [ex]
    exact hq s1 po.1 (nJ_s hJ (po.2.1 3 (0, 12) rfl) (by rw [show s1.2.2.1 0 10 = s.2.2.1 0 10 from po.2.1 2 (0, 10) rfl]; exact Int.le_refl _)))
  · exact ct_X6_text_29 0 s _ Q ⟨hInv, ⟨rfl, ⟨a, rfl, a2, a3, fun h => (by cases h)⟩, ⟨b, rfl, bk⟩, trivial⟩, fun _ _ _ _ h => (by cases h), fun h => absurd rfl h, fun _ h => (by cases h)⟩ (fun v s1 po => by
    have hv : ∃ x : Int32, v = some (.int x) ∧ (24 : Int) ≤ x.toInt ∧ x.toInt ≤ 24 := po.2.2.2.1
    obtain ⟨x, hx, x1, x2⟩ := hv
    subst hx
    have ex : x = f_text a b := Int32.toInt_inj.mp (by
      unfold f_text
      rw [if_pos ⟨⟨a2, a3⟩, by omega⟩, if_neg (by omega)]
      omega)
    rw [ex]
    exact hq s1 po.1 (nJ_s hJ (po.2.1 3 (0, 12) rfl) (by rw [show s1.2.2.1 0 10 = s.2.2.1 0 10 from po.2.1 2 (0, 10) rfl]; exact Int.le_refl _)))
  · exact ct_X6_text_30 0 s _ Q ⟨hInv, ⟨rfl, ⟨a, rfl, a2, a3, fun h => (by cases h)⟩, ⟨b, rfl, bk⟩, trivial⟩, fun _ _ _ _ h => (by cases h), fun h => absurd rfl h, fun _ h => (by cases h)⟩ (fun v s1 po => by
    have hv : ∃ x : Int32, v = some (.int x) ∧ (25 : Int) ≤ x.toInt ∧ x.toInt ≤ 25 := po.2.2.2.1
    obtain ⟨x, hx, x1, x2⟩ := hv
    subst hx
    have ex : x = f_text a b := Int32.toInt_inj.mp (by
      unfold f_text
      rw [if_pos ⟨⟨a2, a3⟩, by omega⟩, if_neg (by omega)]
      omega)
    rw [ex]
    exact hq s1 po.1 (nJ_s hJ (po.2.1 3 (0, 12) rfl) (by rw [show s1.2.2.1 0 10 = s.2.2.1 0 10 from po.2.1 2 (0, 10) rfl]; exact Int.le_refl _)))
  · exact ct_X6_text_31 0 s _ Q ⟨hInv, ⟨rfl, ⟨a, rfl, a2, a3, fun h => (by cases h)⟩, ⟨b, rfl, bk⟩, trivial⟩, fun _ _ _ _ h => (by cases h), fun h => absurd rfl h, fun _ h => (by cases h)⟩ (fun v s1 po => by
    have hv : ∃ x : Int32, v = some (.int x) ∧ (26 : Int) ≤ x.toInt ∧ x.toInt ≤ 26 := po.2.2.2.1
    obtain ⟨x, hx, x1, x2⟩ := hv
    subst hx
    have ex : x = f_text a b := Int32.toInt_inj.mp (by
      unfold f_text
      rw [if_pos ⟨⟨a2, a3⟩, by omega⟩, if_neg (by omega)]
      omega)
    rw [ex]
    exact hq s1 po.1 (nJ_s hJ (po.2.1 3 (0, 12) rfl) (by rw [show s1.2.2.1 0 10 = s.2.2.1 0 10 from po.2.1 2 (0, 10) rfl]; exact Int.le_refl _)))
  · exact ct_X6_text_32 0 s _ Q ⟨hInv, ⟨rfl, ⟨a, rfl, a2, a3, fun h => (by cases h)⟩, ⟨b, rfl, bk⟩, trivial⟩, fun _ _ _ _ h => (by cases h), fun h => absurd rfl h, fun _ h => (by cases h)⟩ (fun v s1 po => by
    have hv : ∃ x : Int32, v = some (.int x) ∧ (27 : Int) ≤ x.toInt ∧ x.toInt ≤ 27 := po.2.2.2.1
    obtain ⟨x, hx, x1, x2⟩ := hv
    subst hx
    have ex : x = f_text a b := Int32.toInt_inj.mp (by
      unfold f_text
      rw [if_pos ⟨⟨a2, a3⟩, by omega⟩, if_neg (by omega)]
      omega)
    rw [ex]
    exact hq s1 po.1 (nJ_s hJ (po.2.1 3 (0, 12) rfl) (by rw [show s1.2.2.1 0 10 = s.2.2.1 0 10 from po.2.1 2 (0, 10) rfl]; exact Int.le_refl _)))
  · exact ct_X6_text_33 0 s _ Q ⟨hInv, ⟨rfl, ⟨a, rfl, a2, a3, fun h => (by cases h)⟩, ⟨b, rfl, bk⟩, trivial⟩, fun _ _ _ _ h => (by cases h), fun h => absurd rfl h, fun _ h => (by cases h)⟩ (fun v s1 po => by
    have hv : ∃ x : Int32, v = some (.int x) ∧ (28 : Int) ≤ x.toInt ∧ x.toInt ≤ 28 := po.2.2.2.1
    obtain ⟨x, hx, x1, x2⟩ := hv
    subst hx
    have ex : x = f_text a b := Int32.toInt_inj.mp (by
      unfold f_text
      rw [if_pos ⟨⟨a2, a3⟩, by omega⟩, if_neg (by omega)]
      omega)
    rw [ex]
    exact hq s1 po.1 (nJ_s hJ (po.2.1 3 (0, 12) rfl) (by rw [show s1.2.2.1 0 10 = s.2.2.1 0 10 from po.2.1 2 (0, 10) rfl]; exact Int.le_refl _)))
  · exact ct_X6_text_34 0 s _ Q ⟨hInv, ⟨rfl, ⟨a, rfl, a2, a3, fun h => (by cases h)⟩, ⟨b, rfl, bk⟩, trivial⟩, fun _ _ _ _ h => (by cases h), fun h => absurd rfl h, fun _ h => (by cases h)⟩ (fun v s1 po => by
    have hv : ∃ x : Int32, v = some (.int x) ∧ (29 : Int) ≤ x.toInt ∧ x.toInt ≤ 29 := po.2.2.2.1
    obtain ⟨x, hx, x1, x2⟩ := hv
    subst hx
    have ex : x = f_text a b := Int32.toInt_inj.mp (by
      unfold f_text
      rw [if_pos ⟨⟨a2, a3⟩, by omega⟩, if_neg (by omega)]
      omega)
    rw [ex]
    exact hq s1 po.1 (nJ_s hJ (po.2.1 3 (0, 12) rfl) (by rw [show s1.2.2.1 0 10 = s.2.2.1 0 10 from po.2.1 2 (0, 10) rfl]; exact Int.le_refl _)))
  · exact ct_X6_text_35 0 s _ Q ⟨hInv, ⟨rfl, ⟨a, rfl, a2, a3, fun h => (by cases h)⟩, ⟨b, rfl, bk⟩, trivial⟩, fun _ _ _ _ h => (by cases h), fun h => absurd rfl h, fun _ h => (by cases h)⟩ (fun v s1 po => by
    have hv : ∃ x : Int32, v = some (.int x) ∧ (30 : Int) ≤ x.toInt ∧ x.toInt ≤ 30 := po.2.2.2.1
    obtain ⟨x, hx, x1, x2⟩ := hv
    subst hx
    have ex : x = f_text a b := Int32.toInt_inj.mp (by
      unfold f_text
      rw [if_pos ⟨⟨a2, a3⟩, by omega⟩, if_neg (by omega)]
      omega)
    rw [ex]
    exact hq s1 po.1 (nJ_s hJ (po.2.1 3 (0, 12) rfl) (by rw [show s1.2.2.1 0 10 = s.2.2.1 0 10 from po.2.1 2 (0, 10) rfl]; exact Int.le_refl _)))
  · exact ct_X6_text_36 0 s _ Q ⟨hInv, ⟨rfl, ⟨a, rfl, a2, a3, fun h => (by cases h)⟩, ⟨b, rfl, bk⟩, trivial⟩, fun _ _ _ _ h => (by cases h), fun h => absurd rfl h, fun _ h => (by cases h)⟩ (fun v s1 po => by
    have hv : ∃ x : Int32, v = some (.int x) ∧ (31 : Int) ≤ x.toInt ∧ x.toInt ≤ 31 := po.2.2.2.1
    obtain ⟨x, hx, x1, x2⟩ := hv
    subst hx
    have ex : x = f_text a b := Int32.toInt_inj.mp (by
      unfold f_text
      rw [if_pos ⟨⟨a2, a3⟩, by omega⟩, if_neg (by omega)]
      omega)
    rw [ex]
    exact hq s1 po.1 (nJ_s hJ (po.2.1 3 (0, 12) rfl) (by rw [show s1.2.2.1 0 10 = s.2.2.1 0 10 from po.2.1 2 (0, 10) rfl]; exact Int.le_refl _)))
  · exact ct_X6_text_37 0 s _ Q ⟨hInv, ⟨rfl, ⟨a, rfl, a2, a3, fun h => (by cases h)⟩, ⟨b, rfl, bk⟩, trivial⟩, fun _ _ _ _ h => (by cases h), fun h => absurd rfl h, fun _ h => (by cases h)⟩ (fun v s1 po => by
    have hv : ∃ x : Int32, v = some (.int x) ∧ (32 : Int) ≤ x.toInt ∧ x.toInt ≤ 32 := po.2.2.2.1
    obtain ⟨x, hx, x1, x2⟩ := hv
    subst hx
    have ex : x = f_text a b := Int32.toInt_inj.mp (by
      unfold f_text
      rw [if_pos ⟨⟨a2, a3⟩, by omega⟩, if_neg (by omega)]
      omega)
    rw [ex]
    exact hq s1 po.1 (nJ_s hJ (po.2.1 3 (0, 12) rfl) (by rw [show s1.2.2.1 0 10 = s.2.2.1 0 10 from po.2.1 2 (0, 10) rfl]; exact Int.le_refl _)))
  · exact ct_X6_text_38 0 s _ Q ⟨hInv, ⟨rfl, ⟨a, rfl, a2, a3, fun h => (by cases h)⟩, ⟨b, rfl, bk⟩, trivial⟩, fun _ _ _ _ h => (by cases h), fun h => absurd rfl h, fun _ h => (by cases h)⟩ (fun v s1 po => by
    have hv : ∃ x : Int32, v = some (.int x) ∧ (33 : Int) ≤ x.toInt ∧ x.toInt ≤ 33 := po.2.2.2.1
    obtain ⟨x, hx, x1, x2⟩ := hv
    subst hx
    have ex : x = f_text a b := Int32.toInt_inj.mp (by
      unfold f_text
      rw [if_pos ⟨⟨a2, a3⟩, by omega⟩, if_neg (by omega)]
      omega)
    rw [ex]
    exact hq s1 po.1 (nJ_s hJ (po.2.1 3 (0, 12) rfl) (by rw [show s1.2.2.1 0 10 = s.2.2.1 0 10 from po.2.1 2 (0, 10) rfl]; exact Int.le_refl _)))
  · exact ct_X6_text_39 0 s _ Q ⟨hInv, ⟨rfl, ⟨a, rfl, a2, a3, fun h => (by cases h)⟩, ⟨b, rfl, bk⟩, trivial⟩, fun _ _ _ _ h => (by cases h), fun h => absurd rfl h, fun _ h => (by cases h)⟩ (fun v s1 po => by
    have hv : ∃ x : Int32, v = some (.int x) ∧ (34 : Int) ≤ x.toInt ∧ x.toInt ≤ 34 := po.2.2.2.1
    obtain ⟨x, hx, x1, x2⟩ := hv
    subst hx
    have ex : x = f_text a b := Int32.toInt_inj.mp (by
      unfold f_text
      rw [if_pos ⟨⟨a2, a3⟩, by omega⟩, if_neg (by omega)]
      omega)
    rw [ex]
    exact hq s1 po.1 (nJ_s hJ (po.2.1 3 (0, 12) rfl) (by rw [show s1.2.2.1 0 10 = s.2.2.1 0 10 from po.2.1 2 (0, 10) rfl]; exact Int.le_refl _)))
  · exact ct_X6_text_40 0 s _ Q ⟨hInv, ⟨rfl, ⟨a, rfl, a2, a3, fun h => (by cases h)⟩, ⟨b, rfl, bk⟩, trivial⟩, fun _ _ _ _ h => (by cases h), fun h => absurd rfl h, fun _ h => (by cases h)⟩ (fun v s1 po => by
    have hv : ∃ x : Int32, v = some (.int x) ∧ (35 : Int) ≤ x.toInt ∧ x.toInt ≤ 35 := po.2.2.2.1
    obtain ⟨x, hx, x1, x2⟩ := hv
    subst hx
    have ex : x = f_text a b := Int32.toInt_inj.mp (by
      unfold f_text
      rw [if_pos ⟨⟨a2, a3⟩, by omega⟩, if_neg (by omega)]
      omega)
    rw [ex]
    exact hq s1 po.1 (nJ_s hJ (po.2.1 3 (0, 12) rfl) (by rw [show s1.2.2.1 0 10 = s.2.2.1 0 10 from po.2.1 2 (0, 10) rfl]; exact Int.le_refl _)))
  · exact ct_X6_text_41 0 s _ Q ⟨hInv, ⟨rfl, ⟨a, rfl, a2, a3, fun h => (by cases h)⟩, ⟨b, rfl, bk⟩, trivial⟩, fun _ _ _ _ h => (by cases h), fun h => absurd rfl h, fun _ h => (by cases h)⟩ (fun v s1 po => by
    have hv : ∃ x : Int32, v = some (.int x) ∧ (36 : Int) ≤ x.toInt ∧ x.toInt ≤ 36 := po.2.2.2.1
    obtain ⟨x, hx, x1, x2⟩ := hv
    subst hx
    have ex : x = f_text a b := Int32.toInt_inj.mp (by
      unfold f_text
      rw [if_pos ⟨⟨a2, a3⟩, by omega⟩, if_neg (by omega)]
      omega)
    rw [ex]
    exact hq s1 po.1 (nJ_s hJ (po.2.1 3 (0, 12) rfl) (by rw [show s1.2.2.1 0 10 = s.2.2.1 0 10 from po.2.1 2 (0, 10) rfl]; exact Int.le_refl _)))
  · exact ct_X6_text_42 0 s _ Q ⟨hInv, ⟨rfl, ⟨a, rfl, a2, a3, fun h => (by cases h)⟩, ⟨b, rfl, bk⟩, trivial⟩, fun _ _ _ _ h => (by cases h), fun h => absurd rfl h, fun _ h => (by cases h)⟩ (fun v s1 po => by
    have hv : ∃ x : Int32, v = some (.int x) ∧ (37 : Int) ≤ x.toInt ∧ x.toInt ≤ 37 := po.2.2.2.1
    obtain ⟨x, hx, x1, x2⟩ := hv
    subst hx
    have ex : x = f_text a b := Int32.toInt_inj.mp (by
      unfold f_text
      rw [if_pos ⟨⟨a2, a3⟩, by omega⟩, if_neg (by omega)]
      omega)
    rw [ex]
    exact hq s1 po.1 (nJ_s hJ (po.2.1 3 (0, 12) rfl) (by rw [show s1.2.2.1 0 10 = s.2.2.1 0 10 from po.2.1 2 (0, 10) rfl]; exact Int.le_refl _)))
  · exact ct_X6_text_43 0 s _ Q ⟨hInv, ⟨rfl, ⟨a, rfl, a2, a3, fun h => (by cases h)⟩, ⟨b, rfl, bk⟩, trivial⟩, fun _ _ _ _ h => (by cases h), fun h => absurd rfl h, fun _ h => (by cases h)⟩ (fun v s1 po => by
    have hv : ∃ x : Int32, v = some (.int x) ∧ (38 : Int) ≤ x.toInt ∧ x.toInt ≤ 38 := po.2.2.2.1
    obtain ⟨x, hx, x1, x2⟩ := hv
    subst hx
    have ex : x = f_text a b := Int32.toInt_inj.mp (by
      unfold f_text
      rw [if_pos ⟨⟨a2, a3⟩, by omega⟩, if_neg (by omega)]
      omega)
    rw [ex]
    exact hq s1 po.1 (nJ_s hJ (po.2.1 3 (0, 12) rfl) (by rw [show s1.2.2.1 0 10 = s.2.2.1 0 10 from po.2.1 2 (0, 10) rfl]; exact Int.le_refl _)))
  · exact ct_X6_text_44 0 s _ Q ⟨hInv, ⟨rfl, ⟨a, rfl, a2, a3, fun h => (by cases h)⟩, ⟨b, rfl, bk⟩, trivial⟩, fun _ _ _ _ h => (by cases h), fun h => absurd rfl h, fun _ h => (by cases h)⟩ (fun v s1 po => by
    have hv : ∃ x : Int32, v = some (.int x) ∧ (39 : Int) ≤ x.toInt ∧ x.toInt ≤ 39 := po.2.2.2.1
    obtain ⟨x, hx, x1, x2⟩ := hv
    subst hx
    have ex : x = f_text a b := Int32.toInt_inj.mp (by
      unfold f_text
      rw [if_pos ⟨⟨a2, a3⟩, by omega⟩, if_neg (by omega)]
      omega)
    rw [ex]
    exact hq s1 po.1 (nJ_s hJ (po.2.1 3 (0, 12) rfl) (by rw [show s1.2.2.1 0 10 = s.2.2.1 0 10 from po.2.1 2 (0, 10) rfl]; exact Int.le_refl _)))
  · exact ct_X6_text_45 0 s _ Q ⟨hInv, ⟨rfl, ⟨a, rfl, a2, a3, fun h => (by cases h)⟩, ⟨b, rfl, bk⟩, trivial⟩, fun _ _ _ _ h => (by cases h), fun h => absurd rfl h, fun _ h => (by cases h)⟩ (fun v s1 po => by
    have hv : ∃ x : Int32, v = some (.int x) ∧ (40 : Int) ≤ x.toInt ∧ x.toInt ≤ 40 := po.2.2.2.1
    obtain ⟨x, hx, x1, x2⟩ := hv
    subst hx
    have ex : x = f_text a b := Int32.toInt_inj.mp (by
      unfold f_text
      rw [if_pos ⟨⟨a2, a3⟩, by omega⟩, if_neg (by omega)]
      omega)
    rw [ex]
    exact hq s1 po.1 (nJ_s hJ (po.2.1 3 (0, 12) rfl) (by rw [show s1.2.2.1 0 10 = s.2.2.1 0 10 from po.2.1 2 (0, 10) rfl]; exact Int.le_refl _)))

set_option maxRecDepth 100000 in
theorem pC_put (Q : nk_Q) (s : nx_S) (a b c : Int32) (hInv : nx_Inv gC s) (hq : ∀ (s1 : nx_S) (r : Int32), nx_Inv gC s1 → Q (some (.int r)) (nx_enc s1 0 shC)) : ev_X5_put [.ref 0, .int a, .int b, .int c] (nx_enc s 0 shC) Q := ct_X5_put_0 0 s _ Q ⟨hInv, ⟨rfl, ⟨a, rfl, (na_i32 a).1, (na_i32 a).2, fun h => (by cases h)⟩, ⟨b, rfl, (na_i32 b).1, (na_i32 b).2, fun h => (by cases h)⟩, ⟨c, rfl, (na_i32 c).1, (na_i32 c).2, fun h => (by cases h)⟩, trivial⟩, fun _ _ _ _ h => (by cases h), fun h => absurd rfl h, fun _ h => (by cases h)⟩ (fun v s1 po => by
  have hv : ∃ x : Int32, v = some (.int x) ∧ _ := po.2.2.2.1
  obtain ⟨x, hx, -⟩ := hv
  subst hx
  exact hq s1 x po.1)
set_option maxRecDepth 100000 in
theorem pR_put (Q : nk_Q) (s : nx_S) (a b c : Int32) (hInv : nx_Inv gR s) (hJ : nJ s) (hq : ∀ (s1 : nx_S) (r : Int32), nx_Inv gR s1 → nJ s1 → Q (some (.int r)) (nx_enc s1 0 shR)) : ev_X6_put [.ref 0, .int a, .int b, .int c] (nx_enc s 0 shR) Q := ct_X6_put_0 0 s _ Q ⟨hInv, ⟨rfl, ⟨a, rfl, (na_i32 a).1, (na_i32 a).2, fun h => (by cases h)⟩, ⟨b, rfl, (na_i32 b).1, (na_i32 b).2, fun h => (by cases h)⟩, ⟨c, rfl, (na_i32 c).1, (na_i32 c).2, fun h => (by cases h)⟩, trivial⟩, fun _ _ _ _ h => (by cases h), fun h => absurd rfl h, fun _ h => (by cases h)⟩ (fun v s1 po => by
  have hv : ∃ x : Int32, v = some (.int x) ∧ _ := po.2.2.2.1
  obtain ⟨x, hx, -⟩ := hv
  subst hx
  exact hq s1 x po.1 (nJ_s hJ (po.2.1 3 (0, 12) rfl) (by rw [show s1.2.2.1 0 10 = s.2.2.1 0 10 from po.2.1 2 (0, 10) rfl]; exact Int.le_refl _)))
set_option maxRecDepth 100000 in
theorem pC_stuff (Q : nk_Q) (s : nx_S) (a b c d : Int32) (hInv : nx_Inv gC s) (hq : ∀ (s1 : nx_S) (r : Int32), nx_Inv gC s1 → Q (some (.int r)) (nx_enc s1 0 shC)) : ev_X5_stuff [.ref 0, .int a, .int b, .int c, .int d] (nx_enc s 0 shC) Q := ct_X5_stuff_0 0 s _ Q ⟨hInv, ⟨rfl, ⟨a, rfl, (na_i32 a).1, (na_i32 a).2, fun h => (by cases h)⟩, ⟨b, rfl, (na_i32 b).1, (na_i32 b).2, fun h => (by cases h)⟩, ⟨c, rfl, (na_i32 c).1, (na_i32 c).2, fun h => (by cases h)⟩, ⟨d, rfl, (na_i32 d).1, (na_i32 d).2, fun h => (by cases h)⟩, trivial⟩, fun _ _ _ _ h => (by cases h), fun h => absurd rfl h, fun _ h => (by cases h)⟩ (fun v s1 po => by
  have hv : ∃ x : Int32, v = some (.int x) ∧ _ := po.2.2.2.1
  obtain ⟨x, hx, -⟩ := hv
  subst hx
  exact hq s1 x po.1)
theorem pR_stuff (Q : nk_Q) (s : nx_S) (a b c d : Int32) (hInv : nx_Inv gR s) (hJ : nJ s) (hq : ∀ (s1 : nx_S) (r : Int32), nx_Inv gR s1 → nJ s1 → Q (some (.int r)) (nx_enc s1 0 shR)) : ev_X6_stuff [.ref 0, .int a, .int b, .int c, .int d] (nx_enc s 0 shR) Q := su_R Q s a b c d hInv hJ hq
theorem pC_stuffs (Q : nk_Q) (s : nx_S) (a : Int32) (hInv : nx_Inv gC s) (hq : ∀ (s1 : nx_S) (r : Int32), nx_Inv gC s1 → Q (some (.int r)) (nx_enc s1 0 shC)) : ev_X5_stuffs [.ref 0, .int a] (nx_enc s 0 shC) Q := st_C Q s a hInv hq
theorem pR_stuffs (Q : nk_Q) (s : nx_S) (a : Int32) (hInv : nx_Inv gR s) (hJ : nJ s) (hq : ∀ (s1 : nx_S) (r : Int32), nx_Inv gR s1 → nJ s1 → Q (some (.int r)) (nx_enc s1 0 shR)) : ev_X6_stuffs [.ref 0, .int a] (nx_enc s 0 shR) Q := st_R Q s a hInv hJ hq
set_option maxRecDepth 100000 in
theorem pC_debt (Q : nk_Q) (s : nx_S) (a b : Int32) (hInv : nx_Inv gC s) (hq : ∀ (s1 : nx_S) (r : Int32), nx_Inv gC s1 → Q (some (.int r)) (nx_enc s1 0 shC)) : ev_X5_debt [.ref 0, .int a, .int b] (nx_enc s 0 shC) Q := ct_X5_debt_0 0 s _ Q ⟨hInv, ⟨rfl, ⟨a, rfl, (na_i32 a).1, (na_i32 a).2, fun h => (by cases h)⟩, ⟨b, rfl, (na_i32 b).1, (na_i32 b).2, fun h => (by cases h)⟩, trivial⟩, fun _ _ _ _ h => (by cases h), fun h => absurd rfl h, fun _ h => (by cases h)⟩ (fun v s1 po => by
  have hv : ∃ x : Int32, v = some (.int x) ∧ _ := po.2.2.2.1
  obtain ⟨x, hx, -⟩ := hv
  subst hx
  exact hq s1 x po.1)
theorem pR_debt (Q : nk_Q) (s : nx_S) (a b : Int32) (hInv : nx_Inv gR s) (hJ : nJ s) (hq : ∀ (s1 : nx_S) (r : Int32), nx_Inv gR s1 → nJ s1 → Q (some (.int r)) (nx_enc s1 0 shR)) : ev_X6_debt [.ref 0, .int a, .int b] (nx_enc s 0 shR) Q := db_R Q s a b hInv (fun s1 r h1 _ h3 => hq s1 r h1 (nJ_s hJ (by rw [h3]) (by rw [h3]; exact Int.le_refl _)))
set_option maxRecDepth 100000 in
theorem pC_making (Q : nk_Q) (s : nx_S) (a b c d e f g : Int32) (hb : g = 0 ∨ g = 1) (hInv : nx_Inv gC s) (hq : ∀ (s1 : nx_S) (r : Int32), nx_Inv gC s1 → Q (some (.int r)) (nx_enc s1 0 shC)) : ev_X5_making [.ref 0, .int a, .int b, .int c, .int d, .int e, .int f, .int g] (nx_enc s 0 shC) Q := ct_X5_making_0 0 s _ Q ⟨hInv, ⟨rfl, ⟨a, rfl, (na_i32 a).1, (na_i32 a).2, fun h => (by cases h)⟩, ⟨b, rfl, (na_i32 b).1, (na_i32 b).2, fun h => (by cases h)⟩, ⟨c, rfl, (na_i32 c).1, (na_i32 c).2, fun h => (by cases h)⟩, ⟨d, rfl, (na_i32 d).1, (na_i32 d).2, fun h => (by cases h)⟩, ⟨e, rfl, (na_i32 e).1, (na_i32 e).2, fun h => (by cases h)⟩, ⟨f, rfl, (na_i32 f).1, (na_i32 f).2, fun h => (by cases h)⟩, ⟨g, rfl, (hb.elim (fun e => by rw [e]; decide) (fun e => by rw [e]; decide)), (hb.elim (fun e => by rw [e]; decide) (fun e => by rw [e]; decide)), fun h => (by cases h)⟩, trivial⟩, fun _ _ _ _ h => (by cases h), fun h => absurd rfl h, fun _ h => (by cases h)⟩ (fun v s1 po => by
  have hv : ∃ x : Int32, v = some (.int x) ∧ _ := po.2.2.2.1
  obtain ⟨x, hx, -⟩ := hv
  subst hx
  exact hq s1 x po.1)
theorem pR_making (Q : nk_Q) (s : nx_S) (a b c d e f g : Int32) (hb : g = 0 ∨ g = 1) (hInv : nx_Inv gR s) (hJ : nJ s) (hq : ∀ (s1 : nx_S) (r : Int32), nx_Inv gR s1 → nJ s1 → Q (some (.int r)) (nx_enc s1 0 shR)) : ev_X6_making [.ref 0, .int a, .int b, .int c, .int d, .int e, .int f, .int g] (nx_enc s 0 shR) Q := mg_R Q s a b c d e f g hInv (fun s1 r h1 h2 => hq s1 r h1 (nJ_mg hJ h2))
set_option maxRecDepth 100000 in
theorem pC_about (Q : nk_Q) (s : nx_S) (a b : Int32) (hInv : nx_Inv gC s) (hq : ∀ (s1 : nx_S) (r : Int32), nx_Inv gC s1 → Q (some (.int r)) (nx_enc s1 0 shC)) : ev_X5_about [.ref 0, .int a, .int b] (nx_enc s 0 shC) Q := ct_X5_about_0 0 s _ Q ⟨hInv, ⟨rfl, ⟨a, rfl, (na_i32 a).1, (na_i32 a).2, fun h => (by cases h)⟩, ⟨b, rfl, (na_i32 b).1, (na_i32 b).2, fun h => (by cases h)⟩, trivial⟩, fun _ _ _ _ h => (by cases h), fun h => absurd rfl h, fun _ h => (by cases h)⟩ (fun v s1 po => by
  have hv : ∃ x : Int32, v = some (.int x) ∧ _ := po.2.2.2.1
  obtain ⟨x, hx, -⟩ := hv
  subst hx
  exact hq s1 x po.1)
set_option maxRecDepth 100000 in
theorem pR_about (Q : nk_Q) (s : nx_S) (a b : Int32) (hInv : nx_Inv gR s) (hJ : nJ s) (hq : ∀ (s1 : nx_S) (r : Int32), nx_Inv gR s1 → nJ s1 → Q (some (.int r)) (nx_enc s1 0 shR)) : ev_X6_about [.ref 0, .int a, .int b] (nx_enc s 0 shR) Q := ct_X6_about_0 0 s _ Q ⟨hInv, ⟨rfl, ⟨a, rfl, (na_i32 a).1, (na_i32 a).2, fun h => (by cases h)⟩, ⟨b, rfl, (na_i32 b).1, (na_i32 b).2, fun h => (by cases h)⟩, trivial⟩, fun _ _ _ _ h => (by cases h), fun h => absurd rfl h, fun _ h => (by cases h)⟩ (fun v s1 po => by
  have hv : ∃ x : Int32, v = some (.int x) ∧ _ := po.2.2.2.1
  obtain ⟨x, hx, -⟩ := hv
  subst hx
  exact hq s1 x po.1 (nJ_s hJ (po.2.1 3 (0, 12) rfl) (by rw [show s1.2.2.1 0 10 = s.2.2.1 0 10 from po.2.1 2 (0, 10) rfl]; exact Int.le_refl _)))
set_option maxRecDepth 100000 in
theorem pC_told (Q : nk_Q) (s : nx_S) (a b : Int32) (hInv : nx_Inv gC s) (hq : ∀ (s1 : nx_S) (r : Int32), nx_Inv gC s1 → Q (some (.int r)) (nx_enc s1 0 shC)) : ev_X5_told [.ref 0, .int a, .int b] (nx_enc s 0 shC) Q := ct_X5_told_0 0 s _ Q ⟨hInv, ⟨rfl, ⟨a, rfl, (na_i32 a).1, (na_i32 a).2, fun h => (by cases h)⟩, ⟨b, rfl, (na_i32 b).1, (na_i32 b).2, fun h => (by cases h)⟩, trivial⟩, fun _ _ _ _ h => (by cases h), fun h => absurd rfl h, fun _ h => (by cases h)⟩ (fun v s1 po => by
  have hv : ∃ x : Int32, v = some (.int x) ∧ _ := po.2.2.2.1
  obtain ⟨x, hx, -⟩ := hv
  subst hx
  exact hq s1 x po.1)
set_option maxRecDepth 100000 in
theorem pR_told (Q : nk_Q) (s : nx_S) (a b : Int32) (hInv : nx_Inv gR s) (hJ : nJ s) (hq : ∀ (s1 : nx_S) (r : Int32), nx_Inv gR s1 → nJ s1 → Q (some (.int r)) (nx_enc s1 0 shR)) : ev_X6_told [.ref 0, .int a, .int b] (nx_enc s 0 shR) Q := ct_X6_told_0 0 s _ Q ⟨hInv, ⟨rfl, ⟨a, rfl, (na_i32 a).1, (na_i32 a).2, fun h => (by cases h)⟩, ⟨b, rfl, (na_i32 b).1, (na_i32 b).2, fun h => (by cases h)⟩, trivial⟩, fun _ _ _ _ h => (by cases h), fun h => absurd rfl h, fun _ h => (by cases h)⟩ (fun v s1 po => by
  have hv : ∃ x : Int32, v = some (.int x) ∧ _ := po.2.2.2.1
  obtain ⟨x, hx, -⟩ := hv
  subst hx
  exact hq s1 x po.1 (nJ_s hJ (po.2.1 3 (0, 12) rfl) (by rw [show s1.2.2.1 0 10 = s.2.2.1 0 10 from po.2.1 2 (0, 10) rfl]; exact Int.le_refl _)))
set_option maxRecDepth 100000 in
theorem pC_mark (Q : nk_Q) (s : nx_S) (a b : Int32) (hInv : nx_Inv gC s) (hq : ∀ (s1 : nx_S) (r : Int32), nx_Inv gC s1 → Q (some (.int r)) (nx_enc s1 0 shC)) : ev_X5_mark [.ref 0, .int a, .int b] (nx_enc s 0 shC) Q := ct_X5_mark_0 0 s _ Q ⟨hInv, ⟨rfl, ⟨a, rfl, (na_i32 a).1, (na_i32 a).2, fun h => (by cases h)⟩, ⟨b, rfl, (na_i32 b).1, (na_i32 b).2, fun h => (by cases h)⟩, trivial⟩, fun _ _ _ _ h => (by cases h), fun h => absurd rfl h, fun _ h => (by cases h)⟩ (fun v s1 po => by
  have hv : ∃ x : Int32, v = some (.int x) ∧ _ := po.2.2.2.1
  obtain ⟨x, hx, -⟩ := hv
  subst hx
  exact hq s1 x po.1)
set_option maxRecDepth 100000 in
theorem pR_mark (Q : nk_Q) (s : nx_S) (a b : Int32) (hInv : nx_Inv gR s) (hJ : nJ s) (hq : ∀ (s1 : nx_S) (r : Int32), nx_Inv gR s1 → nJ s1 → Q (some (.int r)) (nx_enc s1 0 shR)) : ev_X6_mark [.ref 0, .int a, .int b] (nx_enc s 0 shR) Q := ct_X6_mark_0 0 s _ Q ⟨hInv, ⟨rfl, ⟨a, rfl, (na_i32 a).1, (na_i32 a).2, fun h => (by cases h)⟩, ⟨b, rfl, (na_i32 b).1, (na_i32 b).2, fun h => (by cases h)⟩, trivial⟩, fun _ _ _ _ h => (by cases h), fun h => absurd rfl h, fun _ h => (by cases h)⟩ (fun v s1 po => by
  have hv : ∃ x : Int32, v = some (.int x) ∧ _ := po.2.2.2.1
  obtain ⟨x, hx, -⟩ := hv
  subst hx
  exact hq s1 x po.1 (nJ_s hJ (po.2.1 3 (0, 12) rfl) (by rw [show s1.2.2.1 0 10 = s.2.2.1 0 10 from po.2.1 2 (0, 10) rfl]; exact Int.le_refl _)))
set_option maxRecDepth 100000 in
theorem pC_fault (Q : nk_Q) (s : nx_S) (a : Int32) (hInv : nx_Inv gC s) (hq : ∀ (s1 : nx_S) (r : Int32), nx_Inv gC s1 → Q (some (.int r)) (nx_enc s1 0 shC)) : ev_X5_fault [.ref 0, .int a] (nx_enc s 0 shC) Q := ct_X5_fault_0 0 s _ Q ⟨hInv, ⟨rfl, ⟨a, rfl, (na_i32 a).1, (na_i32 a).2, fun h => (by cases h)⟩, trivial⟩, fun _ _ _ _ h => (by cases h), fun h => absurd rfl h, fun _ h => (by cases h)⟩ (fun v s1 po => by
  have hv : ∃ x : Int32, v = some (.int x) ∧ _ := po.2.2.2.1
  obtain ⟨x, hx, -⟩ := hv
  subst hx
  exact hq s1 x po.1)
set_option maxRecDepth 100000 in
theorem pR_fault (Q : nk_Q) (s : nx_S) (a : Int32) (hInv : nx_Inv gR s) (hJ : nJ s) (hq : ∀ (s1 : nx_S) (r : Int32), nx_Inv gR s1 → nJ s1 → Q (some (.int r)) (nx_enc s1 0 shR)) : ev_X6_fault [.ref 0, .int a] (nx_enc s 0 shR) Q := ct_X6_fault_0 0 s _ Q ⟨hInv, ⟨rfl, ⟨a, rfl, (na_i32 a).1, (na_i32 a).2, fun h => (by cases h)⟩, trivial⟩, fun _ _ _ _ h => (by cases h), fun h => absurd rfl h, fun _ h => (by cases h)⟩ (fun v s1 po => by
  have hv : ∃ x : Int32, v = some (.int x) ∧ _ := po.2.2.2.1
  obtain ⟨x, hx, -⟩ := hv
  subst hx
  exact hq s1 x po.1 (nJ_s hJ (po.2.1 3 (0, 12) rfl) (by rw [show s1.2.2.1 0 10 = s.2.2.1 0 10 from po.2.1 2 (0, 10) rfl]; exact Int.le_refl _)))
set_option maxRecDepth 100000 in
theorem pC_laws (Q : nk_Q) (s : nx_S) (a b : Int32) (hInv : nx_Inv gC s) (hq : ∀ (s1 : nx_S) (r : Int32), nx_Inv gC s1 → Q (some (.int r)) (nx_enc s1 0 shC)) : ev_X5_laws [.ref 0, .int a, .int b] (nx_enc s 0 shC) Q := ct_X5_laws_0 0 s _ Q ⟨hInv, ⟨rfl, ⟨a, rfl, (na_i32 a).1, (na_i32 a).2, fun h => (by cases h)⟩, ⟨b, rfl, (na_i32 b).1, (na_i32 b).2, fun h => (by cases h)⟩, trivial⟩, fun _ _ _ _ h => (by cases h), fun h => absurd rfl h, fun _ h => (by cases h)⟩ (fun v s1 po => by
  have hv : ∃ x : Int32, v = some (.int x) ∧ _ := po.2.2.2.1
  obtain ⟨x, hx, -⟩ := hv
  subst hx
  exact hq s1 x po.1)
set_option maxRecDepth 100000 in
theorem pR_laws (Q : nk_Q) (s : nx_S) (a b : Int32) (hInv : nx_Inv gR s) (hJ : nJ s) (hq : ∀ (s1 : nx_S) (r : Int32), nx_Inv gR s1 → nJ s1 → Q (some (.int r)) (nx_enc s1 0 shR)) : ev_X6_laws [.ref 0, .int a, .int b] (nx_enc s 0 shR) Q := ct_X6_laws_0 0 s _ Q ⟨hInv, ⟨rfl, ⟨a, rfl, (na_i32 a).1, (na_i32 a).2, fun h => (by cases h)⟩, ⟨b, rfl, (na_i32 b).1, (na_i32 b).2, fun h => (by cases h)⟩, trivial⟩, fun _ _ _ _ h => (by cases h), fun h => absurd rfl h, fun _ h => (by cases h)⟩ (fun v s1 po => by
  have hv : ∃ x : Int32, v = some (.int x) ∧ _ := po.2.2.2.1
  obtain ⟨x, hx, -⟩ := hv
  subst hx
  exact hq s1 x po.1 (nJ_s hJ (po.2.1 3 (0, 12) rfl) (by rw [show s1.2.2.1 0 10 = s.2.2.1 0 10 from po.2.1 2 (0, 10) rfl]; exact Int.le_refl _)))
set_option maxRecDepth 100000 in
theorem pC_law (Q : nk_Q) (s : nx_S) (a : Int32) (hInv : nx_Inv gC s) (hq : ∀ (s1 : nx_S) (r : Int32), nx_Inv gC s1 → Q (some (.int r)) (nx_enc s1 0 shC)) : ev_X5_law [.ref 0, .int a] (nx_enc s 0 shC) Q := ct_X5_law_0 0 s _ Q ⟨hInv, ⟨rfl, ⟨a, rfl, (na_i32 a).1, (na_i32 a).2, fun h => (by cases h)⟩, trivial⟩, fun _ _ _ _ h => (by cases h), fun h => absurd rfl h, fun _ h => (by cases h)⟩ (fun v s1 po => by
  have hv : ∃ x : Int32, v = some (.int x) ∧ _ := po.2.2.2.1
  obtain ⟨x, hx, -⟩ := hv
  subst hx
  exact hq s1 x po.1)
set_option maxRecDepth 100000 in
theorem pR_law (Q : nk_Q) (s : nx_S) (a : Int32) (hInv : nx_Inv gR s) (hJ : nJ s) (hq : ∀ (s1 : nx_S) (r : Int32), nx_Inv gR s1 → nJ s1 → Q (some (.int r)) (nx_enc s1 0 shR)) : ev_X6_law [.ref 0, .int a] (nx_enc s 0 shR) Q := ct_X6_law_0 0 s _ Q ⟨hInv, ⟨rfl, ⟨a, rfl, (na_i32 a).1, (na_i32 a).2, fun h => (by cases h)⟩, trivial⟩, fun _ _ _ _ h => (by cases h), fun h => absurd rfl h, fun _ h => (by cases h)⟩ (fun v s1 po => by
  have hv : ∃ x : Int32, v = some (.int x) ∧ _ := po.2.2.2.1
  obtain ⟨x, hx, -⟩ := hv
  subst hx
  exact hq s1 x po.1 (nJ_s hJ (po.2.1 3 (0, 12) rfl) (by rw [show s1.2.2.1 0 10 = s.2.2.1 0 10 from po.2.1 2 (0, 10) rfl]; exact Int.le_refl _)))
set_option maxRecDepth 100000 in
theorem pC_inside (Q : nk_Q) (s : nx_S) (a b : Int32) (hInv : nx_Inv gC s) (hq : ∀ (s1 : nx_S) (r : Int32), nx_Inv gC s1 → Q (some (.int r)) (nx_enc s1 0 shC)) : ev_X5_inside [.ref 0, .int a, .int b] (nx_enc s 0 shC) Q := ct_X5_inside_0 0 s _ Q ⟨hInv, ⟨rfl, ⟨a, rfl, (na_i32 a).1, (na_i32 a).2, fun h => (by cases h)⟩, ⟨b, rfl, (na_i32 b).1, (na_i32 b).2, fun h => (by cases h)⟩, trivial⟩, fun _ _ _ _ h => (by cases h), fun h => absurd rfl h, fun _ h => (by cases h)⟩ (fun v s1 po => by
  have hv : ∃ x : Int32, v = some (.int x) ∧ _ := po.2.2.2.1
  obtain ⟨x, hx, -⟩ := hv
  subst hx
  exact hq s1 x po.1)
set_option maxRecDepth 100000 in
theorem pR_inside (Q : nk_Q) (s : nx_S) (a b : Int32) (hInv : nx_Inv gR s) (hJ : nJ s) (hq : ∀ (s1 : nx_S) (r : Int32), nx_Inv gR s1 → nJ s1 → Q (some (.int r)) (nx_enc s1 0 shR)) : ev_X6_inside [.ref 0, .int a, .int b] (nx_enc s 0 shR) Q := ct_X6_inside_0 0 s _ Q ⟨hInv, ⟨rfl, ⟨a, rfl, (na_i32 a).1, (na_i32 a).2, fun h => (by cases h)⟩, ⟨b, rfl, (na_i32 b).1, (na_i32 b).2, fun h => (by cases h)⟩, trivial⟩, fun _ _ _ _ h => (by cases h), fun h => absurd rfl h, fun _ h => (by cases h)⟩ (fun v s1 po => by
  have hv : ∃ x : Int32, v = some (.int x) ∧ _ := po.2.2.2.1
  obtain ⟨x, hx, -⟩ := hv
  subst hx
  exact hq s1 x po.1 (nJ_s hJ (po.2.1 3 (0, 12) rfl) (by rw [show s1.2.2.1 0 10 = s.2.2.1 0 10 from po.2.1 2 (0, 10) rfl]; exact Int.le_refl _)))
set_option maxRecDepth 100000 in
theorem pC_now (Q : nk_Q) (s : nx_S) (a b c : Int32) (hInv : nx_Inv gC s) (hq : ∀ (s1 : nx_S) (r : Int32), nx_Inv gC s1 → Q (some (.int r)) (nx_enc s1 0 shC)) : ev_X5_now [.ref 0, .int a, .int b, .int c] (nx_enc s 0 shC) Q := ct_X5_now_0 0 s _ Q ⟨hInv, ⟨rfl, ⟨a, rfl, (na_i32 a).1, (na_i32 a).2, fun h => (by cases h)⟩, ⟨b, rfl, (na_i32 b).1, (na_i32 b).2, fun h => (by cases h)⟩, ⟨c, rfl, (na_i32 c).1, (na_i32 c).2, fun h => (by cases h)⟩, trivial⟩, fun _ _ _ _ h => (by cases h), fun h => absurd rfl h, fun _ h => (by cases h)⟩ (fun v s1 po => by
  have hv : ∃ x : Int32, v = some (.int x) ∧ _ := po.2.2.2.1
  obtain ⟨x, hx, -⟩ := hv
  subst hx
  exact hq s1 x po.1)
set_option maxRecDepth 100000 in
theorem pR_now (Q : nk_Q) (s : nx_S) (a b c : Int32) (hInv : nx_Inv gR s) (hJ : nJ s) (hq : ∀ (s1 : nx_S) (r : Int32), nx_Inv gR s1 → nJ s1 → Q (some (.int r)) (nx_enc s1 0 shR)) : ev_X6_now [.ref 0, .int a, .int b, .int c] (nx_enc s 0 shR) Q := ct_X6_now_0 0 s _ Q ⟨hInv, ⟨rfl, ⟨a, rfl, (na_i32 a).1, (na_i32 a).2, fun h => (by cases h)⟩, ⟨b, rfl, (na_i32 b).1, (na_i32 b).2, fun h => (by cases h)⟩, ⟨c, rfl, (na_i32 c).1, (na_i32 c).2, fun h => (by cases h)⟩, trivial⟩, fun _ _ _ _ h => (by cases h), fun h => absurd rfl h, fun _ h => (by cases h)⟩ (fun v s1 po => by
  have hv : ∃ x : Int32, v = some (.int x) ∧ _ := po.2.2.2.1
  obtain ⟨x, hx, -⟩ := hv
  subst hx
  exact hq s1 x po.1 (nJ_s hJ (po.2.1 3 (0, 12) rfl) (by rw [show s1.2.2.1 0 10 = s.2.2.1 0 10 from po.2.1 2 (0, 10) rfl]; exact Int.le_refl _)))
set_option maxRecDepth 100000 in
theorem pC_whose (Q : nk_Q) (s : nx_S) (a b c d e : Int32) (hInv : nx_Inv gC s) (hq : ∀ (s1 : nx_S) (r : Int32), nx_Inv gC s1 → Q (some (.int r)) (nx_enc s1 0 shC)) : ev_X5_whose [.ref 0, .int a, .int b, .int c, .int d, .int e] (nx_enc s 0 shC) Q := ct_X5_whose_0 0 s _ Q ⟨hInv, ⟨rfl, ⟨a, rfl, (na_i32 a).1, (na_i32 a).2, fun h => (by cases h)⟩, ⟨b, rfl, (na_i32 b).1, (na_i32 b).2, fun h => (by cases h)⟩, ⟨c, rfl, (na_i32 c).1, (na_i32 c).2, fun h => (by cases h)⟩, ⟨d, rfl, (na_i32 d).1, (na_i32 d).2, fun h => (by cases h)⟩, ⟨e, rfl, (na_i32 e).1, (na_i32 e).2, fun h => (by cases h)⟩, trivial⟩, fun _ _ _ _ h => (by cases h), fun h => absurd rfl h, fun _ h => (by cases h)⟩ (fun v s1 po => by
  have hv : ∃ x : Int32, v = some (.int x) ∧ _ := po.2.2.2.1
  obtain ⟨x, hx, -⟩ := hv
  subst hx
  exact hq s1 x po.1)
theorem pR_whose (Q : nk_Q) (s : nx_S) (a b c d e : Int32) (hInv : nx_Inv gR s) (hJ : nJ s) (hq : ∀ (s1 : nx_S) (r : Int32), nx_Inv gR s1 → nJ s1 → Q (some (.int r)) (nx_enc s1 0 shR)) : ev_X6_whose [.ref 0, .int a, .int b, .int c, .int d, .int e] (nx_enc s 0 shR) Q := wh_R Q s a b c d e hInv (fun s1 r h1 h2 => hq s1 r h1 (nJ_hd hJ h2))
set_option maxRecDepth 100000 in
theorem pC_owners (Q : nk_Q) (s : nx_S) (a b c d : Int32) (hInv : nx_Inv gC s) (hq : ∀ (s1 : nx_S) (r : Int32), nx_Inv gC s1 → Q (some (.int r)) (nx_enc s1 0 shC)) : ev_X5_owners [.ref 0, .int a, .int b, .int c, .int d] (nx_enc s 0 shC) Q := ct_X5_owners_0 0 s _ Q ⟨hInv, ⟨rfl, ⟨a, rfl, (na_i32 a).1, (na_i32 a).2, fun h => (by cases h)⟩, ⟨b, rfl, (na_i32 b).1, (na_i32 b).2, fun h => (by cases h)⟩, ⟨c, rfl, (na_i32 c).1, (na_i32 c).2, fun h => (by cases h)⟩, ⟨d, rfl, (na_i32 d).1, (na_i32 d).2, fun h => (by cases h)⟩, trivial⟩, fun _ _ _ _ h => (by cases h), fun h => absurd rfl h, fun _ h => (by cases h)⟩ (fun v s1 po => by
  have hv : ∃ x : Int32, v = some (.int x) ∧ _ := po.2.2.2.1
  obtain ⟨x, hx, -⟩ := hv
  subst hx
  exact hq s1 x po.1)
set_option maxRecDepth 100000 in
theorem pR_owners (Q : nk_Q) (s : nx_S) (a b c d : Int32) (hInv : nx_Inv gR s) (hJ : nJ s) (hq : ∀ (s1 : nx_S) (r : Int32), nx_Inv gR s1 → nJ s1 → Q (some (.int r)) (nx_enc s1 0 shR)) : ev_X6_owners [.ref 0, .int a, .int b, .int c, .int d] (nx_enc s 0 shR) Q := ct_X6_owners_0 0 s _ Q ⟨hInv, ⟨rfl, ⟨a, rfl, (na_i32 a).1, (na_i32 a).2, fun h => (by cases h)⟩, ⟨b, rfl, (na_i32 b).1, (na_i32 b).2, fun h => (by cases h)⟩, ⟨c, rfl, (na_i32 c).1, (na_i32 c).2, fun h => (by cases h)⟩, ⟨d, rfl, (na_i32 d).1, (na_i32 d).2, fun h => (by cases h)⟩, trivial⟩, fun _ _ _ _ h => (by cases h), fun h => absurd rfl h, fun _ h => (by cases h)⟩ (fun v s1 po => by
  have hv : ∃ x : Int32, v = some (.int x) ∧ _ := po.2.2.2.1
  obtain ⟨x, hx, -⟩ := hv
  subst hx
  exact hq s1 x po.1 (nJ_s hJ (po.2.1 3 (0, 12) rfl) (by rw [show s1.2.2.1 0 10 = s.2.2.1 0 10 from po.2.1 2 (0, 10) rfl]; exact Int.le_refl _)))
set_option maxRecDepth 100000 in
theorem pC_changes (Q : nk_Q) (s : nx_S) (a b c d : Int32) (hInv : nx_Inv gC s) (hq : ∀ (s1 : nx_S) (r : Int32), nx_Inv gC s1 → Q (some (.int r)) (nx_enc s1 0 shC)) : ev_X5_changes [.ref 0, .int a, .int b, .int c, .int d] (nx_enc s 0 shC) Q := ct_X5_changes_0 0 s _ Q ⟨hInv, ⟨rfl, ⟨a, rfl, (na_i32 a).1, (na_i32 a).2, fun h => (by cases h)⟩, ⟨b, rfl, (na_i32 b).1, (na_i32 b).2, fun h => (by cases h)⟩, ⟨c, rfl, (na_i32 c).1, (na_i32 c).2, fun h => (by cases h)⟩, ⟨d, rfl, (na_i32 d).1, (na_i32 d).2, fun h => (by cases h)⟩, trivial⟩, fun _ _ _ _ h => (by cases h), fun h => absurd rfl h, fun _ h => (by cases h)⟩ (fun v s1 po => by
  have hv : ∃ x : Int32, v = some (.int x) ∧ _ := po.2.2.2.1
  obtain ⟨x, hx, -⟩ := hv
  subst hx
  exact hq s1 x po.1)
set_option maxRecDepth 100000 in
theorem pR_changes (Q : nk_Q) (s : nx_S) (a b c d : Int32) (hInv : nx_Inv gR s) (hJ : nJ s) (hq : ∀ (s1 : nx_S) (r : Int32), nx_Inv gR s1 → nJ s1 → Q (some (.int r)) (nx_enc s1 0 shR)) : ev_X6_changes [.ref 0, .int a, .int b, .int c, .int d] (nx_enc s 0 shR) Q := ct_X6_changes_0 0 s _ Q ⟨hInv, ⟨rfl, ⟨a, rfl, (na_i32 a).1, (na_i32 a).2, fun h => (by cases h)⟩, ⟨b, rfl, (na_i32 b).1, (na_i32 b).2, fun h => (by cases h)⟩, ⟨c, rfl, (na_i32 c).1, (na_i32 c).2, fun h => (by cases h)⟩, ⟨d, rfl, (na_i32 d).1, (na_i32 d).2, fun h => (by cases h)⟩, trivial⟩, fun _ _ _ _ h => (by cases h), fun h => absurd rfl h, fun _ h => (by cases h)⟩ (fun v s1 po => by
  have hv : ∃ x : Int32, v = some (.int x) ∧ _ := po.2.2.2.1
  obtain ⟨x, hx, -⟩ := hv
  subst hx
  exact hq s1 x po.1 (nJ_s hJ (po.2.1 3 (0, 12) rfl) (by rw [show s1.2.2.1 0 10 = s.2.2.1 0 10 from po.2.1 2 (0, 10) rfl]; exact Int.le_refl _)))
set_option maxRecDepth 100000 in
theorem pC_lost (Q : nk_Q) (s : nx_S) (a b c d : Int32) (hInv : nx_Inv gC s) (hq : ∀ (s1 : nx_S) (r : Int32), nx_Inv gC s1 → Q (some (.int r)) (nx_enc s1 0 shC)) : ev_X5_lost [.ref 0, .int a, .int b, .int c, .int d] (nx_enc s 0 shC) Q := ct_X5_lost_0 0 s _ Q ⟨hInv, ⟨rfl, ⟨a, rfl, (na_i32 a).1, (na_i32 a).2, fun h => (by cases h)⟩, ⟨b, rfl, (na_i32 b).1, (na_i32 b).2, fun h => (by cases h)⟩, ⟨c, rfl, (na_i32 c).1, (na_i32 c).2, fun h => (by cases h)⟩, ⟨d, rfl, (na_i32 d).1, (na_i32 d).2, fun h => (by cases h)⟩, trivial⟩, fun _ _ _ _ h => (by cases h), fun h => absurd rfl h, fun _ h => (by cases h)⟩ (fun v s1 po => by
  have hv : ∃ x : Int32, v = some (.int x) ∧ _ := po.2.2.2.1
  obtain ⟨x, hx, -⟩ := hv
  subst hx
  exact hq s1 x po.1)
theorem pR_lost (Q : nk_Q) (s : nx_S) (a b c d : Int32) (hInv : nx_Inv gR s) (hJ : nJ s) (hq : ∀ (s1 : nx_S) (r : Int32), nx_Inv gR s1 → nJ s1 → Q (some (.int r)) (nx_enc s1 0 shR)) : ev_X6_lost [.ref 0, .int a, .int b, .int c, .int d] (nx_enc s 0 shR) Q := lo_R Q s a b c d hInv hJ (fun s1 r h1 h2 => hq s1 r h1 (nJ_hd hJ h2))
set_option maxRecDepth 100000 in
theorem pC_beside (Q : nk_Q) (s : nx_S) (a b c : Int32) (hInv : nx_Inv gC s) (hq : ∀ (s1 : nx_S) (r : Int32), nx_Inv gC s1 → Q (some (.int r)) (nx_enc s1 0 shC)) : ev_X5_beside [.ref 0, .int a, .int b, .int c] (nx_enc s 0 shC) Q := ct_X5_beside_0 0 s _ Q ⟨hInv, ⟨rfl, ⟨a, rfl, (na_i32 a).1, (na_i32 a).2, fun h => (by cases h)⟩, ⟨b, rfl, (na_i32 b).1, (na_i32 b).2, fun h => (by cases h)⟩, ⟨c, rfl, (na_i32 c).1, (na_i32 c).2, fun h => (by cases h)⟩, trivial⟩, fun _ _ _ _ h => (by cases h), fun h => absurd rfl h, fun _ h => (by cases h)⟩ (fun v s1 po => by
  have hv : ∃ x : Int32, v = some (.int x) ∧ _ := po.2.2.2.1
  obtain ⟨x, hx, -⟩ := hv
  subst hx
  exact hq s1 x po.1)
set_option maxRecDepth 100000 in
theorem pR_beside (Q : nk_Q) (s : nx_S) (a b c : Int32) (hInv : nx_Inv gR s) (hJ : nJ s) (hq : ∀ (s1 : nx_S) (r : Int32), nx_Inv gR s1 → nJ s1 → Q (some (.int r)) (nx_enc s1 0 shR)) : ev_X6_beside [.ref 0, .int a, .int b, .int c] (nx_enc s 0 shR) Q := ct_X6_beside_0 0 s _ Q ⟨hInv, ⟨rfl, ⟨a, rfl, (na_i32 a).1, (na_i32 a).2, fun h => (by cases h)⟩, ⟨b, rfl, (na_i32 b).1, (na_i32 b).2, fun h => (by cases h)⟩, ⟨c, rfl, (na_i32 c).1, (na_i32 c).2, fun h => (by cases h)⟩, trivial⟩, fun _ _ _ _ h => (by cases h), fun h => absurd rfl h, fun _ h => (by cases h)⟩ (fun v s1 po => by
  have hv : ∃ x : Int32, v = some (.int x) ∧ _ := po.2.2.2.1
  obtain ⟨x, hx, -⟩ := hv
  subst hx
  exact hq s1 x po.1 (nJ_s hJ (po.2.1 3 (0, 12) rfl) (by rw [show s1.2.2.1 0 10 = s.2.2.1 0 10 from po.2.1 2 (0, 10) rfl]; exact Int.le_refl _)))
set_option maxRecDepth 100000 in
theorem pC_undo (Q : nk_Q) (s : nx_S) (a b : Int32) (hInv : nx_Inv gC s) (hq : ∀ (s1 : nx_S) (r : Int32), nx_Inv gC s1 → Q (some (.int r)) (nx_enc s1 0 shC)) : ev_X5_undo [.ref 0, .int a, .int b] (nx_enc s 0 shC) Q := ct_X5_undo_0 0 s _ Q ⟨hInv, ⟨rfl, ⟨a, rfl, (na_i32 a).1, (na_i32 a).2, fun h => (by cases h)⟩, ⟨b, rfl, (na_i32 b).1, (na_i32 b).2, fun h => (by cases h)⟩, trivial⟩, fun _ _ _ _ h => (by cases h), fun h => absurd rfl h, fun _ h => (by cases h)⟩ (fun v s1 po => by
  have hv : ∃ x : Int32, v = some (.int x) ∧ _ := po.2.2.2.1
  obtain ⟨x, hx, -⟩ := hv
  subst hx
  exact hq s1 x po.1)
set_option maxRecDepth 100000 in
theorem pR_undo (Q : nk_Q) (s : nx_S) (a b : Int32) (hInv : nx_Inv gR s) (hJ : nJ s) (hq : ∀ (s1 : nx_S) (r : Int32), nx_Inv gR s1 → nJ s1 → Q (some (.int r)) (nx_enc s1 0 shR)) : ev_X6_undo [.ref 0, .int a, .int b] (nx_enc s 0 shR) Q := ct_X6_undo_0 0 s _ Q ⟨hInv, ⟨rfl, ⟨a, rfl, (na_i32 a).1, (na_i32 a).2, fun h => (by cases h)⟩, ⟨b, rfl, (na_i32 b).1, (na_i32 b).2, fun h => (by cases h)⟩, trivial⟩, fun _ _ _ _ h => (by cases h), fun h => absurd rfl h, fun _ h => (by cases h)⟩ (fun v s1 po => by
  have hv : ∃ x : Int32, v = some (.int x) ∧ _ := po.2.2.2.1
  obtain ⟨x, hx, -⟩ := hv
  subst hx
  exact hq s1 x po.1 (nJ_s hJ (po.2.1 3 (0, 12) rfl) (by rw [show s1.2.2.1 0 10 = s.2.2.1 0 10 from po.2.1 2 (0, 10) rfl]; exact Int.le_refl _)))
set_option maxRecDepth 100000 in
theorem pC_sure (Q : nk_Q) (s : nx_S) (a b c d : Int32) (hInv : nx_Inv gC s) (hq : ∀ (s1 : nx_S) (r : Int32), nx_Inv gC s1 → Q (some (.int r)) (nx_enc s1 0 shC)) : ev_X5_sure [.ref 0, .int a, .int b, .int c, .int d] (nx_enc s 0 shC) Q := ct_X5_sure_0 0 s _ Q ⟨hInv, ⟨rfl, ⟨a, rfl, (na_i32 a).1, (na_i32 a).2, fun h => (by cases h)⟩, ⟨b, rfl, (na_i32 b).1, (na_i32 b).2, fun h => (by cases h)⟩, ⟨c, rfl, (na_i32 c).1, (na_i32 c).2, fun h => (by cases h)⟩, ⟨d, rfl, (na_i32 d).1, (na_i32 d).2, fun h => (by cases h)⟩, trivial⟩, fun _ _ _ _ h => (by cases h), fun h => absurd rfl h, fun _ h => (by cases h)⟩ (fun v s1 po => by
  have hv : ∃ x : Int32, v = some (.int x) ∧ _ := po.2.2.2.1
  obtain ⟨x, hx, -⟩ := hv
  subst hx
  exact hq s1 x po.1)
set_option maxRecDepth 100000 in
theorem pR_sure (Q : nk_Q) (s : nx_S) (a b c d : Int32) (hInv : nx_Inv gR s) (hJ : nJ s) (hq : ∀ (s1 : nx_S) (r : Int32), nx_Inv gR s1 → nJ s1 → Q (some (.int r)) (nx_enc s1 0 shR)) : ev_X6_sure [.ref 0, .int a, .int b, .int c, .int d] (nx_enc s 0 shR) Q := ct_X6_sure_0 0 s _ Q ⟨hInv, ⟨rfl, ⟨a, rfl, (na_i32 a).1, (na_i32 a).2, fun h => (by cases h)⟩, ⟨b, rfl, (na_i32 b).1, (na_i32 b).2, fun h => (by cases h)⟩, ⟨c, rfl, (na_i32 c).1, (na_i32 c).2, fun h => (by cases h)⟩, ⟨d, rfl, (na_i32 d).1, (na_i32 d).2, fun h => (by cases h)⟩, trivial⟩, fun _ _ _ _ h => (by cases h), fun h => absurd rfl h, fun _ h => (by cases h)⟩ (fun v s1 po => by
  have hv : ∃ x : Int32, v = some (.int x) ∧ _ := po.2.2.2.1
  obtain ⟨x, hx, -⟩ := hv
  subst hx
  exact hq s1 x po.1 (nJ_s hJ (po.2.1 3 (0, 12) rfl) (by rw [show s1.2.2.1 0 10 = s.2.2.1 0 10 from po.2.1 2 (0, 10) rfl]; exact Int.le_refl _)))
set_option maxRecDepth 100000 in
theorem pC_hangs (Q : nk_Q) (s : nx_S) (a b c d : Int32) (hInv : nx_Inv gC s) (hq : ∀ (s1 : nx_S) (r : Int32), nx_Inv gC s1 → Q (some (.int r)) (nx_enc s1 0 shC)) : ev_X5_hangs [.ref 0, .int a, .int b, .int c, .int d] (nx_enc s 0 shC) Q := ct_X5_hangs_0 0 s _ Q ⟨hInv, ⟨rfl, ⟨a, rfl, (na_i32 a).1, (na_i32 a).2, fun h => (by cases h)⟩, ⟨b, rfl, (na_i32 b).1, (na_i32 b).2, fun h => (by cases h)⟩, ⟨c, rfl, (na_i32 c).1, (na_i32 c).2, fun h => (by cases h)⟩, ⟨d, rfl, (na_i32 d).1, (na_i32 d).2, fun h => (by cases h)⟩, trivial⟩, fun _ _ _ _ h => (by cases h), fun h => absurd rfl h, fun _ h => (by cases h)⟩ (fun v s1 po => by
  have hv : ∃ x : Int32, v = some (.int x) ∧ _ := po.2.2.2.1
  obtain ⟨x, hx, -⟩ := hv
  subst hx
  exact hq s1 x po.1)
set_option maxRecDepth 100000 in
theorem pR_hangs (Q : nk_Q) (s : nx_S) (a b c d : Int32) (hInv : nx_Inv gR s) (hJ : nJ s) (hq : ∀ (s1 : nx_S) (r : Int32), nx_Inv gR s1 → nJ s1 → Q (some (.int r)) (nx_enc s1 0 shR)) : ev_X6_hangs [.ref 0, .int a, .int b, .int c, .int d] (nx_enc s 0 shR) Q := ct_X6_hangs_0 0 s _ Q ⟨hInv, ⟨rfl, ⟨a, rfl, (na_i32 a).1, (na_i32 a).2, fun h => (by cases h)⟩, ⟨b, rfl, (na_i32 b).1, (na_i32 b).2, fun h => (by cases h)⟩, ⟨c, rfl, (na_i32 c).1, (na_i32 c).2, fun h => (by cases h)⟩, ⟨d, rfl, (na_i32 d).1, (na_i32 d).2, fun h => (by cases h)⟩, trivial⟩, fun _ _ _ _ h => (by cases h), fun h => absurd rfl h, fun _ h => (by cases h)⟩ (fun v s1 po => by
  have hv : ∃ x : Int32, v = some (.int x) ∧ _ := po.2.2.2.1
  obtain ⟨x, hx, -⟩ := hv
  subst hx
  exact hq s1 x po.1 (nJ_s hJ (po.2.1 3 (0, 12) rfl) (by rw [show s1.2.2.1 0 10 = s.2.2.1 0 10 from po.2.1 2 (0, 10) rfl]; exact Int.le_refl _)))
set_option maxRecDepth 100000 in
theorem pC_sly (Q : nk_Q) (s : nx_S) (a b c d : Int32) (hInv : nx_Inv gC s) (hq : ∀ (s1 : nx_S) (r : Int32), nx_Inv gC s1 → Q (some (.int r)) (nx_enc s1 0 shC)) : ev_X5_sly [.ref 0, .int a, .int b, .int c, .int d] (nx_enc s 0 shC) Q := ct_X5_sly_0 0 s _ Q ⟨hInv, ⟨rfl, ⟨a, rfl, (na_i32 a).1, (na_i32 a).2, fun h => (by cases h)⟩, ⟨b, rfl, (na_i32 b).1, (na_i32 b).2, fun h => (by cases h)⟩, ⟨c, rfl, (na_i32 c).1, (na_i32 c).2, fun h => (by cases h)⟩, ⟨d, rfl, (na_i32 d).1, (na_i32 d).2, fun h => (by cases h)⟩, trivial⟩, fun _ _ _ _ h => (by cases h), fun h => absurd rfl h, fun _ h => (by cases h)⟩ (fun v s1 po => by
  have hv : ∃ x : Int32, v = some (.int x) ∧ _ := po.2.2.2.1
  obtain ⟨x, hx, -⟩ := hv
  subst hx
  exact hq s1 x po.1)
set_option maxRecDepth 100000 in
theorem pR_sly (Q : nk_Q) (s : nx_S) (a b c d : Int32) (hInv : nx_Inv gR s) (hJ : nJ s) (hq : ∀ (s1 : nx_S) (r : Int32), nx_Inv gR s1 → nJ s1 → Q (some (.int r)) (nx_enc s1 0 shR)) : ev_X6_sly [.ref 0, .int a, .int b, .int c, .int d] (nx_enc s 0 shR) Q := ct_X6_sly_0 0 s _ Q ⟨hInv, ⟨rfl, ⟨a, rfl, (na_i32 a).1, (na_i32 a).2, fun h => (by cases h)⟩, ⟨b, rfl, (na_i32 b).1, (na_i32 b).2, fun h => (by cases h)⟩, ⟨c, rfl, (na_i32 c).1, (na_i32 c).2, fun h => (by cases h)⟩, ⟨d, rfl, (na_i32 d).1, (na_i32 d).2, fun h => (by cases h)⟩, trivial⟩, fun _ _ _ _ h => (by cases h), fun h => absurd rfl h, fun _ h => (by cases h)⟩ (fun v s1 po => by
  have hv : ∃ x : Int32, v = some (.int x) ∧ _ := po.2.2.2.1
  obtain ⟨x, hx, -⟩ := hv
  subst hx
  exact hq s1 x po.1 (nJ_s hJ (po.2.1 3 (0, 12) rfl) (by rw [show s1.2.2.1 0 10 = s.2.2.1 0 10 from po.2.1 2 (0, 10) rfl]; exact Int.le_refl _)))
set_option maxRecDepth 100000 in
theorem pC_stop (Q : nk_Q) (s : nx_S) (a b c d : Int32) (hInv : nx_Inv gC s) (hq : ∀ (s1 : nx_S) (r : Int32), nx_Inv gC s1 → Q (some (.int r)) (nx_enc s1 0 shC)) : ev_X5_stop [.ref 0, .int a, .int b, .int c, .int d] (nx_enc s 0 shC) Q := ct_X5_stop_0 0 s _ Q ⟨hInv, ⟨rfl, ⟨a, rfl, (na_i32 a).1, (na_i32 a).2, fun h => (by cases h)⟩, ⟨b, rfl, (na_i32 b).1, (na_i32 b).2, fun h => (by cases h)⟩, ⟨c, rfl, (na_i32 c).1, (na_i32 c).2, fun h => (by cases h)⟩, ⟨d, rfl, (na_i32 d).1, (na_i32 d).2, fun h => (by cases h)⟩, trivial⟩, fun _ _ _ _ h => (by cases h), fun h => absurd rfl h, fun _ h => (by cases h)⟩ (fun v s1 po => by
  have hv : ∃ x : Int32, v = some (.int x) ∧ _ := po.2.2.2.1
  obtain ⟨x, hx, -⟩ := hv
  subst hx
  exact hq s1 x po.1)
set_option maxRecDepth 100000 in
theorem pR_stop (Q : nk_Q) (s : nx_S) (a b c d : Int32) (hInv : nx_Inv gR s) (hJ : nJ s) (hq : ∀ (s1 : nx_S) (r : Int32), nx_Inv gR s1 → nJ s1 → Q (some (.int r)) (nx_enc s1 0 shR)) : ev_X6_stop [.ref 0, .int a, .int b, .int c, .int d] (nx_enc s 0 shR) Q := ct_X6_stop_0 0 s _ Q ⟨hInv, ⟨rfl, ⟨a, rfl, (na_i32 a).1, (na_i32 a).2, fun h => (by cases h)⟩, ⟨b, rfl, (na_i32 b).1, (na_i32 b).2, fun h => (by cases h)⟩, ⟨c, rfl, (na_i32 c).1, (na_i32 c).2, fun h => (by cases h)⟩, ⟨d, rfl, (na_i32 d).1, (na_i32 d).2, fun h => (by cases h)⟩, trivial⟩, fun _ _ _ _ h => (by cases h), fun h => absurd rfl h, fun _ h => (by cases h)⟩ (fun v s1 po => by
  have hv : ∃ x : Int32, v = some (.int x) ∧ _ := po.2.2.2.1
  obtain ⟨x, hx, -⟩ := hv
  subst hx
  exact hq s1 x po.1 (nJ_s hJ (po.2.1 3 (0, 12) rfl) (by rw [show s1.2.2.1 0 10 = s.2.2.1 0 10 from po.2.1 2 (0, 10) rfl]; exact Int.le_refl _)))
set_option maxRecDepth 100000 in
theorem pC_inTime (Q : nk_Q) (s : nx_S) (a b c : Int32) (hInv : nx_Inv gC s) (hq : ∀ (s1 : nx_S) (r : Int32), nx_Inv gC s1 → Q (some (.int r)) (nx_enc s1 0 shC)) : ev_X5_inTime [.ref 0, .int a, .int b, .int c] (nx_enc s 0 shC) Q := ct_X5_inTime_0 0 s _ Q ⟨hInv, ⟨rfl, ⟨a, rfl, (na_i32 a).1, (na_i32 a).2, fun h => (by cases h)⟩, ⟨b, rfl, (na_i32 b).1, (na_i32 b).2, fun h => (by cases h)⟩, ⟨c, rfl, (na_i32 c).1, (na_i32 c).2, fun h => (by cases h)⟩, trivial⟩, fun _ _ _ _ h => (by cases h), fun h => absurd rfl h, fun _ h => (by cases h)⟩ (fun v s1 po => by
  have hv : ∃ x : Int32, v = some (.int x) ∧ _ := po.2.2.2.1
  obtain ⟨x, hx, -⟩ := hv
  subst hx
  exact hq s1 x po.1)
set_option maxRecDepth 100000 in
theorem pR_inTime (Q : nk_Q) (s : nx_S) (a b c : Int32) (hInv : nx_Inv gR s) (hJ : nJ s) (hq : ∀ (s1 : nx_S) (r : Int32), nx_Inv gR s1 → nJ s1 → Q (some (.int r)) (nx_enc s1 0 shR)) : ev_X6_inTime [.ref 0, .int a, .int b, .int c] (nx_enc s 0 shR) Q := ct_X6_inTime_0 0 s _ Q ⟨hInv, ⟨rfl, ⟨a, rfl, (na_i32 a).1, (na_i32 a).2, fun h => (by cases h)⟩, ⟨b, rfl, (na_i32 b).1, (na_i32 b).2, fun h => (by cases h)⟩, ⟨c, rfl, (na_i32 c).1, (na_i32 c).2, fun h => (by cases h)⟩, trivial⟩, fun _ _ _ _ h => (by cases h), fun h => absurd rfl h, fun _ h => (by cases h)⟩ (fun v s1 po => by
  have hv : ∃ x : Int32, v = some (.int x) ∧ _ := po.2.2.2.1
  obtain ⟨x, hx, -⟩ := hv
  subst hx
  exact hq s1 x po.1 (nJ_s hJ (po.2.1 3 (0, 12) rfl) (by rw [show s1.2.2.1 0 10 = s.2.2.1 0 10 from po.2.1 2 (0, 10) rfl]; exact Int.le_refl _)))
set_option maxRecDepth 100000 in
theorem pC_heap (Q : nk_Q) (s : nx_S) (a b c : Int32) (hInv : nx_Inv gC s) (hq : ∀ (s1 : nx_S) (r : Int32), nx_Inv gC s1 → Q (some (.int r)) (nx_enc s1 0 shC)) : ev_X5_heap [.ref 0, .int a, .int b, .int c] (nx_enc s 0 shC) Q := ct_X5_heap_0 0 s _ Q ⟨hInv, ⟨rfl, ⟨a, rfl, (na_i32 a).1, (na_i32 a).2, fun h => (by cases h)⟩, ⟨b, rfl, (na_i32 b).1, (na_i32 b).2, fun h => (by cases h)⟩, ⟨c, rfl, (na_i32 c).1, (na_i32 c).2, fun h => (by cases h)⟩, trivial⟩, fun _ _ _ _ h => (by cases h), fun h => absurd rfl h, fun _ h => (by cases h)⟩ (fun v s1 po => by
  have hv : ∃ x : Int32, v = some (.int x) ∧ _ := po.2.2.2.1
  obtain ⟨x, hx, -⟩ := hv
  subst hx
  exact hq s1 x po.1)
set_option maxRecDepth 100000 in
theorem pR_heap (Q : nk_Q) (s : nx_S) (a b c : Int32) (hInv : nx_Inv gR s) (hJ : nJ s) (hq : ∀ (s1 : nx_S) (r : Int32), nx_Inv gR s1 → nJ s1 → Q (some (.int r)) (nx_enc s1 0 shR)) : ev_X6_heap [.ref 0, .int a, .int b, .int c] (nx_enc s 0 shR) Q := ct_X6_heap_0 0 s _ Q ⟨hInv, ⟨rfl, ⟨a, rfl, (na_i32 a).1, (na_i32 a).2, fun h => (by cases h)⟩, ⟨b, rfl, (na_i32 b).1, (na_i32 b).2, fun h => (by cases h)⟩, ⟨c, rfl, (na_i32 c).1, (na_i32 c).2, fun h => (by cases h)⟩, trivial⟩, fun _ _ _ _ h => (by cases h), fun h => absurd rfl h, fun _ h => (by cases h)⟩ (fun v s1 po => by
  have hv : ∃ x : Int32, v = some (.int x) ∧ _ := po.2.2.2.1
  obtain ⟨x, hx, -⟩ := hv
  subst hx
  exact hq s1 x po.1 (nJ_s hJ (po.2.1 3 (0, 12) rfl) (by rw [show s1.2.2.1 0 10 = s.2.2.1 0 10 from po.2.1 2 (0, 10) rfl]; exact Int.le_refl _)))
set_option maxRecDepth 100000 in
theorem pC_draw (Q : nk_Q) (s : nx_S) (a b c d : Int32) (hInv : nx_Inv gC s) (hq : ∀ (s1 : nx_S) (r : Int32), nx_Inv gC s1 → Q (some (.int r)) (nx_enc s1 0 shC)) : ev_X5_draw [.ref 0, .int a, .int b, .int c, .int d] (nx_enc s 0 shC) Q := ct_X5_draw_0 0 s _ Q ⟨hInv, ⟨rfl, ⟨a, rfl, (na_i32 a).1, (na_i32 a).2, fun h => (by cases h)⟩, ⟨b, rfl, (na_i32 b).1, (na_i32 b).2, fun h => (by cases h)⟩, ⟨c, rfl, (na_i32 c).1, (na_i32 c).2, fun h => (by cases h)⟩, ⟨d, rfl, (na_i32 d).1, (na_i32 d).2, fun h => (by cases h)⟩, trivial⟩, fun _ _ _ _ h => (by cases h), fun h => absurd rfl h, fun _ h => (by cases h)⟩ (fun v s1 po => by
  have hv : ∃ x : Int32, v = some (.int x) ∧ _ := po.2.2.2.1
  obtain ⟨x, hx, -⟩ := hv
  subst hx
  exact hq s1 x po.1)
set_option maxRecDepth 100000 in
theorem pR_draw (Q : nk_Q) (s : nx_S) (a b c d : Int32) (hInv : nx_Inv gR s) (hJ : nJ s) (hq : ∀ (s1 : nx_S) (r : Int32), nx_Inv gR s1 → nJ s1 → Q (some (.int r)) (nx_enc s1 0 shR)) : ev_X6_draw [.ref 0, .int a, .int b, .int c, .int d] (nx_enc s 0 shR) Q := ct_X6_draw_0 0 s _ Q ⟨hInv, ⟨rfl, ⟨a, rfl, (na_i32 a).1, (na_i32 a).2, fun h => (by cases h)⟩, ⟨b, rfl, (na_i32 b).1, (na_i32 b).2, fun h => (by cases h)⟩, ⟨c, rfl, (na_i32 c).1, (na_i32 c).2, fun h => (by cases h)⟩, ⟨d, rfl, (na_i32 d).1, (na_i32 d).2, fun h => (by cases h)⟩, trivial⟩, fun _ _ _ _ h => (by cases h), fun h => absurd rfl h, fun _ h => (by cases h)⟩ (fun v s1 po => by
  have hv : ∃ x : Int32, v = some (.int x) ∧ _ := po.2.2.2.1
  obtain ⟨x, hx, -⟩ := hv
  subst hx
  exact hq s1 x po.1 (nJ_s hJ (po.2.1 3 (0, 12) rfl) (by rw [show s1.2.2.1 0 10 = s.2.2.1 0 10 from po.2.1 2 (0, 10) rfl]; exact Int.le_refl _)))
set_option maxRecDepth 100000 in
theorem pC_left (Q : nk_Q) (s : nx_S) (a b : Int32) (hInv : nx_Inv gC s) (hq : ∀ (s1 : nx_S) (r : Int32), nx_Inv gC s1 → Q (some (.int r)) (nx_enc s1 0 shC)) : ev_X5_left [.ref 0, .int a, .int b] (nx_enc s 0 shC) Q := ct_X5_left_0 0 s _ Q ⟨hInv, ⟨rfl, ⟨a, rfl, (na_i32 a).1, (na_i32 a).2, fun h => (by cases h)⟩, ⟨b, rfl, (na_i32 b).1, (na_i32 b).2, fun h => (by cases h)⟩, trivial⟩, fun _ _ _ _ h => (by cases h), fun h => absurd rfl h, fun _ h => (by cases h)⟩ (fun v s1 po => by
  have hv : ∃ x : Int32, v = some (.int x) ∧ _ := po.2.2.2.1
  obtain ⟨x, hx, -⟩ := hv
  subst hx
  exact hq s1 x po.1)
set_option maxRecDepth 100000 in
theorem pR_left (Q : nk_Q) (s : nx_S) (a b : Int32) (hInv : nx_Inv gR s) (hJ : nJ s) (hq : ∀ (s1 : nx_S) (r : Int32), nx_Inv gR s1 → nJ s1 → Q (some (.int r)) (nx_enc s1 0 shR)) : ev_X6_left [.ref 0, .int a, .int b] (nx_enc s 0 shR) Q := ct_X6_left_0 0 s _ Q ⟨hInv, ⟨rfl, ⟨a, rfl, (na_i32 a).1, (na_i32 a).2, fun h => (by cases h)⟩, ⟨b, rfl, (na_i32 b).1, (na_i32 b).2, fun h => (by cases h)⟩, trivial⟩, fun _ _ _ _ h => (by cases h), fun h => absurd rfl h, fun _ h => (by cases h)⟩ (fun v s1 po => by
  have hv : ∃ x : Int32, v = some (.int x) ∧ _ := po.2.2.2.1
  obtain ⟨x, hx, -⟩ := hv
  subst hx
  exact hq s1 x po.1 (nJ_s hJ (po.2.1 3 (0, 12) rfl) (by rw [show s1.2.2.1 0 10 = s.2.2.1 0 10 from po.2.1 2 (0, 10) rfl]; exact Int.le_refl _)))
set_option maxRecDepth 100000 in
theorem pC_layer (Q : nk_Q) (s : nx_S) (a b : Int32) (hInv : nx_Inv gC s) (hq : ∀ (s1 : nx_S) (r : Int32), nx_Inv gC s1 → Q (some (.int r)) (nx_enc s1 0 shC)) : ev_X5_layer [.ref 0, .int a, .int b] (nx_enc s 0 shC) Q := ct_X5_layer_0 0 s _ Q ⟨hInv, ⟨rfl, ⟨a, rfl, (na_i32 a).1, (na_i32 a).2, fun h => (by cases h)⟩, ⟨b, rfl, (na_i32 b).1, (na_i32 b).2, fun h => (by cases h)⟩, trivial⟩, fun _ _ _ _ h => (by cases h), fun h => absurd rfl h, fun _ h => (by cases h)⟩ (fun v s1 po => by
  have hv : ∃ x : Int32, v = some (.int x) ∧ _ := po.2.2.2.1
  obtain ⟨x, hx, -⟩ := hv
  subst hx
  exact hq s1 x po.1)
set_option maxRecDepth 100000 in
theorem pR_layer (Q : nk_Q) (s : nx_S) (a b : Int32) (hInv : nx_Inv gR s) (hJ : nJ s) (hq : ∀ (s1 : nx_S) (r : Int32), nx_Inv gR s1 → nJ s1 → Q (some (.int r)) (nx_enc s1 0 shR)) : ev_X6_layer [.ref 0, .int a, .int b] (nx_enc s 0 shR) Q := ct_X6_layer_0 0 s _ Q ⟨hInv, ⟨rfl, ⟨a, rfl, (na_i32 a).1, (na_i32 a).2, fun h => (by cases h)⟩, ⟨b, rfl, (na_i32 b).1, (na_i32 b).2, fun h => (by cases h)⟩, trivial⟩, fun _ _ _ _ h => (by cases h), fun h => absurd rfl h, fun _ h => (by cases h)⟩ (fun v s1 po => by
  have hv : ∃ x : Int32, v = some (.int x) ∧ _ := po.2.2.2.1
  obtain ⟨x, hx, -⟩ := hv
  subst hx
  exact hq s1 x po.1 (nJ_s hJ (po.2.1 3 (0, 12) rfl) (by rw [show s1.2.2.1 0 10 = s.2.2.1 0 10 from po.2.1 2 (0, 10) rfl]; exact Int.le_refl _)))
set_option maxRecDepth 100000 in
theorem pC_asked (Q : nk_Q) (s : nx_S) (hInv : nx_Inv gC s) (hq : ∀ (s1 : nx_S) (r : Int32), nx_Inv gC s1 → Q (some (.int r)) (nx_enc s1 0 shC)) : ev_X5_asked [.ref 0] (nx_enc s 0 shC) Q := ct_X5_asked_0 0 s _ Q ⟨hInv, ⟨rfl, trivial⟩, fun _ _ _ _ h => (by cases h), fun h => absurd rfl h, fun _ h => (by cases h)⟩ (fun v s1 po => by
  have hv : ∃ x : Int32, v = some (.int x) ∧ _ := po.2.2.2.1
  obtain ⟨x, hx, -⟩ := hv
  subst hx
  exact hq s1 x po.1)
set_option maxRecDepth 100000 in
theorem pR_asked (Q : nk_Q) (s : nx_S) (hInv : nx_Inv gR s) (hJ : nJ s) (hq : ∀ (s1 : nx_S) (r : Int32), nx_Inv gR s1 → nJ s1 → Q (some (.int r)) (nx_enc s1 0 shR)) : ev_X6_asked [.ref 0] (nx_enc s 0 shR) Q := ct_X6_asked_0 0 s _ Q ⟨hInv, ⟨rfl, trivial⟩, fun _ _ _ _ h => (by cases h), fun h => absurd rfl h, fun _ h => (by cases h)⟩ (fun v s1 po => by
  have hv : ∃ x : Int32, v = some (.int x) ∧ _ := po.2.2.2.1
  obtain ⟨x, hx, -⟩ := hv
  subst hx
  exact hq s1 x po.1 (nJ_s hJ (po.2.1 3 (0, 12) rfl) (by rw [show s1.2.2.1 0 10 = s.2.2.1 0 10 from po.2.1 2 (0, 10) rfl]; exact Int.le_refl _)))
set_option maxRecDepth 100000 in
theorem pC_upper (Q : nk_Q) (s : nx_S) (hInv : nx_Inv gC s) (hq : ∀ (s1 : nx_S) (r : Int64), nx_Inv gC s1 → Q (some (.long r)) (nx_enc s1 0 shC)) : ev_X5_upper [.ref 0] (nx_enc s 0 shC) Q := ct_X5_upper_0 0 s _ Q ⟨hInv, ⟨rfl, trivial⟩, fun _ _ _ _ h => (by cases h), fun h => absurd rfl h, fun _ h => (by cases h)⟩ (fun v s1 po => by
  have hv : ∃ x : Int64, v = some (.long x) := po.2.2.2.1
  obtain ⟨x, hx⟩ := hv
  subst hx
  exact hq s1 x po.1)
set_option maxRecDepth 100000 in
theorem pR_upper (Q : nk_Q) (s : nx_S) (hInv : nx_Inv gR s) (hJ : nJ s) (hq : ∀ (s1 : nx_S) (r : Int64), nx_Inv gR s1 → nJ s1 → Q (some (.long r)) (nx_enc s1 0 shR)) : ev_X6_upper [.ref 0] (nx_enc s 0 shR) Q := ct_X6_upper_0 0 s _ Q ⟨hInv, ⟨rfl, trivial⟩, fun _ _ _ _ h => (by cases h), fun h => absurd rfl h, fun _ h => (by cases h)⟩ (fun v s1 po => by
  have hv : ∃ x : Int64, v = some (.long x) := po.2.2.2.1
  obtain ⟨x, hx⟩ := hv
  subst hx
  exact hq s1 x po.1 (nJ_s hJ (po.2.1 3 (0, 12) rfl) (by rw [show s1.2.2.1 0 10 = s.2.2.1 0 10 from po.2.1 2 (0, 10) rfl]; exact Int.le_refl _)))
set_option maxRecDepth 100000 in
theorem pC_lower (Q : nk_Q) (s : nx_S) (hInv : nx_Inv gC s) (hq : ∀ (s1 : nx_S) (r : Int64), nx_Inv gC s1 → Q (some (.long r)) (nx_enc s1 0 shC)) : ev_X5_lower [.ref 0] (nx_enc s 0 shC) Q := ct_X5_lower_0 0 s _ Q ⟨hInv, ⟨rfl, trivial⟩, fun _ _ _ _ h => (by cases h), fun h => absurd rfl h, fun _ h => (by cases h)⟩ (fun v s1 po => by
  have hv : ∃ x : Int64, v = some (.long x) := po.2.2.2.1
  obtain ⟨x, hx⟩ := hv
  subst hx
  exact hq s1 x po.1)
set_option maxRecDepth 100000 in
theorem pR_lower (Q : nk_Q) (s : nx_S) (hInv : nx_Inv gR s) (hJ : nJ s) (hq : ∀ (s1 : nx_S) (r : Int64), nx_Inv gR s1 → nJ s1 → Q (some (.long r)) (nx_enc s1 0 shR)) : ev_X6_lower [.ref 0] (nx_enc s 0 shR) Q := ct_X6_lower_0 0 s _ Q ⟨hInv, ⟨rfl, trivial⟩, fun _ _ _ _ h => (by cases h), fun h => absurd rfl h, fun _ h => (by cases h)⟩ (fun v s1 po => by
  have hv : ∃ x : Int64, v = some (.long x) := po.2.2.2.1
  obtain ⟨x, hx⟩ := hv
  subst hx
  exact hq s1 x po.1 (nJ_s hJ (po.2.1 3 (0, 12) rfl) (by rw [show s1.2.2.1 0 10 = s.2.2.1 0 10 from po.2.1 2 (0, 10) rfl]; exact Int.le_refl _)))
set_option maxRecDepth 100000 in
theorem pC_count (Q : nk_Q) (s : nx_S) (a : Int32) (hInv : nx_Inv gC s) (hq : ∀ (s1 : nx_S) (r : Int32), nx_Inv gC s1 → Q (some (.int r)) (nx_enc s1 0 shC)) : ev_X5_count [.ref 0, .int a] (nx_enc s 0 shC) Q := ct_X5_count_0 0 s _ Q ⟨hInv, ⟨rfl, ⟨a, rfl, (na_i32 a).1, (na_i32 a).2, fun h => (by cases h)⟩, trivial⟩, fun _ _ _ _ h => (by cases h), fun h => absurd rfl h, fun _ h => (by cases h)⟩ (fun v s1 po => by
  have hv : ∃ x : Int32, v = some (.int x) ∧ _ := po.2.2.2.1
  obtain ⟨x, hx, -⟩ := hv
  subst hx
  exact hq s1 x po.1)
set_option maxRecDepth 100000 in
theorem pR_count (Q : nk_Q) (s : nx_S) (a : Int32) (hInv : nx_Inv gR s) (hJ : nJ s) (hq : ∀ (s1 : nx_S) (r : Int32), nx_Inv gR s1 → nJ s1 → Q (some (.int r)) (nx_enc s1 0 shR)) : ev_X6_count [.ref 0, .int a] (nx_enc s 0 shR) Q := ct_X6_count_0 0 s _ Q ⟨hInv, ⟨rfl, ⟨a, rfl, (na_i32 a).1, (na_i32 a).2, fun h => (by cases h)⟩, trivial⟩, fun _ _ _ _ h => (by cases h), fun h => absurd rfl h, fun _ h => (by cases h)⟩ (fun v s1 po => by
  have hv : ∃ x : Int32, v = some (.int x) ∧ _ := po.2.2.2.1
  obtain ⟨x, hx, -⟩ := hv
  subst hx
  exact hq s1 x po.1 (nJ_s hJ (po.2.1 3 (0, 12) rfl) (by rw [show s1.2.2.1 0 10 = s.2.2.1 0 10 from po.2.1 2 (0, 10) rfl]; exact Int.le_refl _)))
set_option maxRecDepth 100000 in
theorem pC_finding (Q : nk_Q) (s : nx_S) (hInv : nx_Inv gC s) (hq : ∀ (s1 : nx_S) (r : Int32), nx_Inv gC s1 → Q (some (.int r)) (nx_enc s1 0 shC)) : ev_X5_finding [.ref 0] (nx_enc s 0 shC) Q := ct_X5_finding_0 0 s _ Q ⟨hInv, ⟨rfl, trivial⟩, fun _ _ _ _ h => (by cases h), fun h => absurd rfl h, fun _ h => (by cases h)⟩ (fun v s1 po => by
  have hv : ∃ x : Int32, v = some (.int x) ∧ _ := po.2.2.2.1
  obtain ⟨x, hx, -⟩ := hv
  subst hx
  exact hq s1 x po.1)
set_option maxRecDepth 100000 in
theorem pR_finding (Q : nk_Q) (s : nx_S) (hInv : nx_Inv gR s) (hJ : nJ s) (hq : ∀ (s1 : nx_S) (r : Int32), nx_Inv gR s1 → nJ s1 → Q (some (.int r)) (nx_enc s1 0 shR)) : ev_X6_finding [.ref 0] (nx_enc s 0 shR) Q := ct_X6_finding_0 0 s _ Q ⟨hInv, ⟨rfl, trivial⟩, fun _ _ _ _ h => (by cases h), fun h => absurd rfl h, fun _ h => (by cases h)⟩ (fun v s1 po => by
  have hv : ∃ x : Int32, v = some (.int x) ∧ _ := po.2.2.2.1
  obtain ⟨x, hx, -⟩ := hv
  subst hx
  exact hq s1 x po.1 (nJ_s hJ (po.2.1 3 (0, 12) rfl) (by rw [show s1.2.2.1 0 10 = s.2.2.1 0 10 from po.2.1 2 (0, 10) rfl]; exact Int.le_refl _)))
set_option maxRecDepth 100000 in
theorem pC_findings (Q : nk_Q) (s : nx_S) (a : Int32) (hInv : nx_Inv gC s) (hq : ∀ (s1 : nx_S) (r : Int32), nx_Inv gC s1 → Q (some (.int r)) (nx_enc s1 0 shC)) : ev_X5_findings [.ref 0, .int a] (nx_enc s 0 shC) Q := ct_X5_findings_0 0 s _ Q ⟨hInv, ⟨rfl, ⟨a, rfl, (na_i32 a).1, (na_i32 a).2, fun h => (by cases h)⟩, trivial⟩, fun _ _ _ _ h => (by cases h), fun h => absurd rfl h, fun _ h => (by cases h)⟩ (fun v s1 po => by
  have hv : ∃ x : Int32, v = some (.int x) ∧ _ := po.2.2.2.1
  obtain ⟨x, hx, -⟩ := hv
  subst hx
  exact hq s1 x po.1)
set_option maxRecDepth 100000 in
theorem pR_findings (Q : nk_Q) (s : nx_S) (a : Int32) (hInv : nx_Inv gR s) (hJ : nJ s) (hq : ∀ (s1 : nx_S) (r : Int32), nx_Inv gR s1 → nJ s1 → Q (some (.int r)) (nx_enc s1 0 shR)) : ev_X6_findings [.ref 0, .int a] (nx_enc s 0 shR) Q := ct_X6_findings_0 0 s _ Q ⟨hInv, ⟨rfl, ⟨a, rfl, (na_i32 a).1, (na_i32 a).2, fun h => (by cases h)⟩, trivial⟩, fun _ _ _ _ h => (by cases h), fun h => absurd rfl h, fun _ h => (by cases h)⟩ (fun v s1 po => by
  have hv : ∃ x : Int32, v = some (.int x) ∧ _ := po.2.2.2.1
  obtain ⟨x, hx, -⟩ := hv
  subst hx
  exact hq s1 x po.1 (nJ_s hJ (po.2.1 3 (0, 12) rfl) (by rw [show s1.2.2.1 0 10 = s.2.2.1 0 10 from po.2.1 2 (0, 10) rfl]; exact Int.le_refl _)))
set_option maxRecDepth 100000 in
theorem pC_digest (Q : nk_Q) (s : nx_S) (hInv : nx_Inv gC s) (hq : ∀ (s1 : nx_S) (r : Int64), nx_Inv gC s1 → Q (some (.long r)) (nx_enc s1 0 shC)) : ev_X5_digest [.ref 0] (nx_enc s 0 shC) Q := ct_X5_digest_0 0 s _ Q ⟨hInv, ⟨rfl, trivial⟩, fun _ _ _ _ h => (by cases h), fun h => absurd rfl h, fun _ h => (by cases h)⟩ (fun v s1 po => by
  have hv : ∃ x : Int64, v = some (.long x) := po.2.2.2.1
  obtain ⟨x, hx⟩ := hv
  subst hx
  exact hq s1 x po.1)
set_option maxRecDepth 100000 in
theorem pR_digest (Q : nk_Q) (s : nx_S) (hInv : nx_Inv gR s) (hJ : nJ s) (hq : ∀ (s1 : nx_S) (r : Int64), nx_Inv gR s1 → nJ s1 → Q (some (.long r)) (nx_enc s1 0 shR)) : ev_X6_digest [.ref 0] (nx_enc s 0 shR) Q := ct_X6_digest_0 0 s _ Q ⟨hInv, ⟨rfl, trivial⟩, fun _ _ _ _ h => (by cases h), fun h => absurd rfl h, fun _ h => (by cases h)⟩ (fun v s1 po => by
  have hv : ∃ x : Int64, v = some (.long x) := po.2.2.2.1
  obtain ⟨x, hx⟩ := hv
  subst hx
  exact hq s1 x po.1 (nJ_s hJ (po.2.1 3 (0, 12) rfl) (by rw [show s1.2.2.1 0 10 = s.2.2.1 0 10 from po.2.1 2 (0, 10) rfl]; exact Int.le_refl _)))
