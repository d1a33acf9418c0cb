/-! ===== the pure instructions are sound ===== -/
/-- what is owed at the places behind -/
noncomputable def na_W (g : na_G) (I0 : Nat → Nat → Int32) (r : List Int) (s : nx_S) (out : List na_O) (K : nk_P) : Prop := ∀ o ∈ out, ∀ (r' : List Int) (L' : nk_Ls) (S' : List Value), na_ex r r' → na_gD g I0 r' o.2.2.2 s → na_gL r' o.2.1 L' → na_gS r' o.2.2.1 S' → K o.1 L' S'
section NaPu
variable {g : na_G} {I0 : Nat → Nat → Int32} {r : List Int} {D : na_D} {s : nx_S} {L : na_L} {M : nk_Ls} {S : List na_V} {T : List Value} {nx : Nat} {K : nk_P} {out : List na_O}
theorem na_pI_ok (hD : na_gD g I0 r D s) (hL : na_gL r L M) (hS : na_gS r S T) {x : Int32} {b : Int × Int} (hx : b.1 ≤ x.toInt ∧ x.toInt ≤ b.2) (h : na_pI nx L S D b = some out) (hW : na_W g I0 r s out K) : K nx M (.int x :: T) := by
  cases h
  obtain ⟨r', h1, h2, h3⟩ := na_nw_ok hD hx.1 hx.2
  exact hW _ (List.mem_singleton.mpr rfl) r' M (.int x :: T) h1 h2 (hL.ex h1) ⟨h3, hS.ex h1⟩
theorem na_pL_ok (hD : na_gD g I0 r D s) (hL : na_gL r L M) (hS : na_gS r S T) {y : Int64} {b : Int × Int} {z : Bool} (hy : b.1 ≤ y.toInt ∧ y.toInt ≤ b.2) (hz : z = true → y.toInt ≠ 0) (h : na_pL nx L S D b z = some out) (hW : na_W g I0 r s out K) : K nx M (.long y :: T) := by
  cases h
  obtain ⟨r', h1, h2, h3⟩ := na_nl_ok hD hy.1 hy.2 hz
  exact hW _ (List.mem_singleton.mpr rfl) r' M (.long y :: T) h1 h2 (hL.ex h1) ⟨h3, hS.ex h1⟩
theorem na_o1_ok {pc : Nat} (hD : na_gD g I0 r D s) (hL : na_gL r L M) (hS : na_gS r S T) (h : some [(pc, L, S, D)] = some out) (hW : na_W g I0 r s out K) : K pc M T := by
  cases h
  exact hW _ (List.mem_singleton.mpr rfl) r M T na_ex.rf hD hL hS
theorem na_gS_c {v : na_V} (h : na_gS r (v :: S) T) : ∃ (w : Value) (T' : List Value), T = w :: T' ∧ na_gv r v w ∧ na_gS r S T' := by
  match T, h with
  | w :: T', h => exact ⟨w, T', rfl, h.1, h.2⟩
theorem na_i1_ok {k : Int × Int → na_V → List na_V → Option (List na_O)} (h : na_i1 S D k = some out) (hS : na_gS r S T) : ∃ (b : Int × Int) (v : na_V) (S' : List na_V) (x : Int32) (T' : List Value), T = .int x :: T' ∧ na_gi r v x ∧ na_gS r S' T' ∧ na_iv D.2.1 v = some b ∧ k b v S' = some out := by
  unfold na_i1 at h
  match S, h, hS with
  | v :: S', h, hS =>
    obtain ⟨w, T', rfl, h1, h2⟩ := na_gS_c hS
    cases hb : na_iv D.2.1 v with
    | none =>
      simp only [hb] at h
      cases h
    | some b =>
      simp only [hb] at h
      obtain ⟨x, rfl, hx⟩ := na_gv_i h1 hb
      exact ⟨b, v, S', x, T', rfl, hx, h2, hb, h⟩
theorem na_i2_ok {k : Int × Int → Int × Int → na_V → na_V → List na_V → Option (List na_O)} (h : na_i2 S D k = some out) (hS : na_gS r S T) : ∃ (a d : Int × Int) (v w : na_V) (S' : List na_V) (x y : Int32) (T' : List Value), T = .int y :: .int x :: T' ∧ na_gi r v x ∧ na_gi r w y ∧ na_gS r S' T' ∧ na_iv D.2.1 v = some a ∧ na_iv D.2.1 w = some d ∧ k a d v w S' = some out := by
  obtain ⟨d, w, S1, y, T1, rfl, hy, hS1, hd, h1⟩ := na_i1_ok h hS
  obtain ⟨a, v, S2, x, T2, rfl, hx, hS2, ha, h2⟩ := na_i1_ok h1 hS1
  exact ⟨a, d, v, w, S2, x, y, T2, rfl, hx, hy, hS2, ha, hd, h2⟩
theorem na_l1_ok {k : Nat → List na_V → Option (List na_O)} (h : na_l1 S k = some out) (hS : na_gS r S T) : ∃ (b : Nat) (S' : List na_V) (y : Int64) (T' : List Value), T = .long y :: T' ∧ r[b]? = some y.toInt ∧ na_gS r S' T' ∧ k b S' = some out := by
  unfold na_l1 at h
  match S, h, hS with
  | v :: S', h, hS =>
    obtain ⟨w, T', rfl, h1, h2⟩ := na_gS_c hS
    cases hb : na_iL v with
    | none =>
      simp only [hb] at h
      cases h
    | some b =>
      simp only [hb] at h
      obtain ⟨y, rfl, hy⟩ := na_gv_l h1 hb
      exact ⟨b, S', y, T', rfl, hy, h2, h⟩
theorem na_l2_ok {k : Nat → Nat → List na_V → Option (List na_O)} (h : na_l2 S k = some out) (hS : na_gS r S T) : ∃ (a b : Nat) (S' : List na_V) (x y : Int64) (T' : List Value), T = .long y :: .long x :: T' ∧ r[a]? = some x.toInt ∧ r[b]? = some y.toInt ∧ na_gS r S' T' ∧ k a b S' = some out := by
  obtain ⟨b, S1, y, T1, rfl, hy, hS1, h1⟩ := na_l1_ok h hS
  obtain ⟨a, S2, x, T2, rfl, hx, hS2, h2⟩ := na_l1_ok h1 hS1
  exact ⟨a, b, S2, x, y, T2, rfl, hx, hy, hS2, h2⟩
theorem na_gd_ok {b : Bool} {k : Option (List na_O)} (h : na_gd b k = some out) : b = true ∧ k = some out := by
  cases b with
  | true => exact ⟨rfl, h⟩
  | false => cases h
theorem na_ld_ok {j : Nat} {k : na_V → Option (List na_O)} (h : na_ld L j k = some out) (hL : na_gL r L M) : ∃ (v : na_V) (w : Value), nk_get M j = some w ∧ na_gv r v w ∧ k v = some out := by
  unfold na_ld at h
  cases hg : na_get L j with
  | none =>
    simp only [hg] at h
    cases h
  | some v =>
    simp only [hg] at h
    obtain ⟨w, h1, h2⟩ := na_get_ok hL hg
    exact ⟨v, w, h1, h2, h⟩
theorem na_bs_ok {o : Option (Int × Int)} (h : na_bs o = true) : ∃ b, o = some b := by
  cases o with
  | none => cases h
  | some b => exact ⟨b, rfl⟩
theorem na_bn_ok {o : Option Nat} (h : na_bn o = true) : ∃ b, o = some b := by
  cases o with
  | none => cases h
  | some b => exact ⟨b, rfl⟩
theorem na_oy_ok {y : na_Y} {pc : Nat} {rest : List na_O} (hD : na_gD g I0 r D s) (hL : na_gL r L M) (hS : na_gS r S T) (hW : na_W g I0 r s (na_oy y pc L S D rest) K) : (na_gY r y → K pc M T) ∧ na_W g I0 r s rest K := by
  cases y with
  | none => exact ⟨fun h => h.elim, hW⟩
  | some p => exact ⟨fun h => hW _ List.mem_cons_self r M T na_ex.rf ⟨hD.1, h.1, h.2, hD.2.2.2⟩ hL hS, fun o ho => hW o (List.mem_cons_of_mem _ ho)⟩
theorem na_oy_rest {y : na_Y} {pc : Nat} {rest : List na_O} (hW : na_W g I0 r s (na_oy y pc L S D rest) K) : na_W g I0 r s rest K := by
  cases y with
  | none => exact hW
  | some p => exact fun o ho => hW o (List.mem_cons_of_mem _ ho)
theorem na_two0 {p q : Bool} (h : (p && q) = true) : p = true ∧ q = true := Bool.and_eq_true_iff.mp h
theorem na_sw_ok {x : na_V} {xc : Int32} (hx : na_gi r x xc) {d : Nat} (hD : na_gD g I0 r D s) (hL : na_gL r L M) (hS : na_gS r S T) : ∀ (ts : List Nat) (a : Int) (acc : List na_O), na_W g I0 r s (na_sw L S D x d ts a acc) K → (∀ (j t : Nat), nk_lg ts j = some t → xc.toInt = a + j → K t M T) ∧ na_W g I0 r s acc K
  | [], _, _, hW => ⟨fun j t h => (by cases h), hW⟩
  | t0 :: ts, a, acc, hW => by
    obtain ⟨h1, h2⟩ := na_oy_ok hD hL hS hW
    obtain ⟨h3, h4⟩ := na_sw_ok hx hD hL hS ts (a + 1) acc h2
    refine ⟨fun j t hj he => ?_, h4⟩
    match j, hj with
    | 0, hj =>
      cases hj
      exact h1 (na_rf_ok hD.2.1 hD.2.2.1 hx (by omega) (by omega))
    | j + 1, hj => exact h3 j t hj (by omega)
theorem na_lw_ok {x : na_V} {xc : Int32} (hx : na_gi r x xc) (hD : na_gD g I0 r D s) (hL : na_gL r L M) (hS : na_gS r S T) : ∀ (ts : List Nat) (as : List Int) (acc : List na_O), na_W g I0 r s (na_lw L S D x ts as acc) K → (∀ (j t : Nat) (a : Int), nk_lg ts j = some t → nk_lg as j = some a → xc.toInt = a → K t M T) ∧ na_W g I0 r s acc K
  | [], _, _, hW => ⟨fun j t a h => (by cases h), hW⟩
  | _ :: _, [], _, hW => ⟨fun j t a _ h => (by cases h), hW⟩
  | t0 :: ts, a0 :: as, acc, hW => by
    obtain ⟨h1, h2⟩ := na_oy_ok hD hL hS hW
    obtain ⟨h3, h4⟩ := na_lw_ok hx hD hL hS ts as acc h2
    refine ⟨fun j t a hj ha he => ?_, h4⟩
    match j, hj, ha with
    | 0, hj, ha =>
      cases hj
      cases ha
      exact h1 (na_rf_ok hD.2.1 hD.2.2.1 hx (by omega) (by omega))
    | j + 1, hj, ha => exact h3 j t a hj ha he
theorem na_cmp_i (x y : Int64) : -1 ≤ (lg_cmp x y).toInt ∧ (lg_cmp x y).toInt ≤ 1 := by
  unfold lg_cmp
  split
  · decide
  · split <;> decide
theorem na_cmp_z {x y : Int64} (hy : y.toInt = 0) : (x.toInt < 0 ∧ (lg_cmp x y).toInt = -1) ∨ (x.toInt = 0 ∧ (lg_cmp x y).toInt = 0) ∨ (0 < x.toInt ∧ (lg_cmp x y).toInt = 1) := by
  unfold lg_cmp
  split
  · rename_i h
    have := Int64.lt_iff_toInt_lt.mp h
    exact Or.inr (Or.inr ⟨by omega, by decide⟩)
  · rename_i h
    have h1 : ¬ y.toInt < x.toInt := fun q => h (Int64.lt_iff_toInt_lt.mpr q)
    split
    · rename_i e
      subst e
      exact Or.inr (Or.inl ⟨hy, by decide⟩)
    · rename_i e
      have : x.toInt ≠ y.toInt := fun q => e (Int64.toInt_inj.mp q)
      exact Or.inl ⟨by omega, by decide⟩
theorem na_nz_l {y : Int64} {b : Nat} (hD : na_gD g I0 r D s) (hb : r[b]? = some y.toInt) (h : na_nz D.2.1 D.2.2.1 (.inr (.inr (.inl b))) = true) : ¬ y = 0 := fun e => by
  have := na_nz_s hD.2.1 hD.2.2.1 hb h
  rw [e] at this
  exact this rfl
theorem na_nz_y {y : Int32} {v : na_V} (hD : na_gD g I0 r D s) (hb : na_gi r v y) (h : na_nz D.2.1 D.2.2.1 v = true) : ¬ y = 0 := fun e => by
  have := na_nz_i hD.2.1 hD.2.2.1 hb h
  rw [e] at this
  exact this rfl
theorem na_if_ok {lit : Int32} {b : Int × Int} {v w : na_V} {x : Int32} (hD : na_gD g I0 r D s) (hx : na_gi r v x) (hw : na_gi r w (x + lit)) (hb : b.1 ≤ x.toInt ∧ x.toInt ≤ b.2) : na_gD g I0 r (na_if lit.toInt b v w D) s := by
  unfold na_if
  have a1 : na_mn = -2147483648 := rfl
  have a2 : na_mx = 2147483647 := rfl
  have hi := na_i32 x
  split
  · rename_i hc
    obtain ⟨c1, c2⟩ := na_two0 hc
    have c1 := na_ble_t c1
    have c2 := na_ble_t c2
    refine na_ak_ok hD ⟨x, x + lit, hx, hw, Or.inr (Or.inr (Or.inl ⟨rfl, ?_⟩))⟩
    rw [Int32.toInt_add, na_bm (by omega) (by omega)]
    omega
  · split
    · rename_i hc
      obtain ⟨c1, c2⟩ := na_two0 hc
      have c1 := na_ble_t c1
      have c2 := na_ble_t c2
      refine na_ak_ok hD ⟨x + lit, x, hw, hx, Or.inr (Or.inr (Or.inl ⟨rfl, ?_⟩))⟩
      rw [Int32.toInt_add, na_bm (by omega) (by omega)]
      omega
    · exact hD
set_option maxHeartbeats 4000000 in
theorem na_pu_ok {i : Instr} {tg : List Nat} {lit : Int32} (h : na_pu i nx tg lit L S D = some out) (hD : na_gD g I0 r D s) (hL : na_gL r L M) (hS : na_gS r S T) (hW : na_W g I0 r s out K) : nk_pure i nx tg lit M T K := by
  cases i
  case iconst v => exact na_o1_ok (S := .inl lit.toInt :: S) (T := .int lit :: T) hD hL ⟨rfl, hS⟩ h hW
  case bipush v => exact na_o1_ok (S := .inl lit.toInt :: S) (T := .int lit :: T) hD hL ⟨rfl, hS⟩ h hW
  case sipush v => exact na_o1_ok (S := .inl lit.toInt :: S) (T := .int lit :: T) hD hL ⟨rfl, hS⟩ h hW
  case lconst v => exact na_pL_ok hD hL hS (y := nk_l01 v) ⟨Int.le_refl _, Int.le_refl _⟩ (fun q => by cases q) h hW
  case iload j =>
    obtain ⟨v, w, h1, h2, h3⟩ := na_ld_ok h hL
    obtain ⟨h4, h5⟩ := na_gd_ok h3
    obtain ⟨b, hb⟩ := na_bs_ok h4
    obtain ⟨x, rfl, hx⟩ := na_gv_i h2 hb
    show nk_ldi M j _
    unfold nk_ldi
    rw [h1]
    exact na_o1_ok (S := v :: S) (T := .int x :: T) hD hL ⟨h2, hS⟩ h5 hW
  case iload_n j =>
    obtain ⟨v, w, h1, h2, h3⟩ := na_ld_ok h hL
    obtain ⟨h4, h5⟩ := na_gd_ok h3
    obtain ⟨b, hb⟩ := na_bs_ok h4
    obtain ⟨x, rfl, hx⟩ := na_gv_i h2 hb
    show nk_ldi M j.val _
    unfold nk_ldi
    rw [h1]
    exact na_o1_ok (S := v :: S) (T := .int x :: T) hD hL ⟨h2, hS⟩ h5 hW
  case lload j =>
    obtain ⟨v, w, h1, h2, h3⟩ := na_ld_ok h hL
    obtain ⟨h4, h5⟩ := na_gd_ok h3
    obtain ⟨b, hb⟩ := na_bn_ok h4
    obtain ⟨y, rfl, hy⟩ := na_gv_l h2 hb
    show nk_ldl M j _
    unfold nk_ldl
    rw [h1]
    exact na_o1_ok (S := v :: S) (T := .long y :: T) hD hL ⟨h2, hS⟩ h5 hW
  case lload_n j =>
    obtain ⟨v, w, h1, h2, h3⟩ := na_ld_ok h hL
    obtain ⟨h4, h5⟩ := na_gd_ok h3
    obtain ⟨b, hb⟩ := na_bn_ok h4
    obtain ⟨y, rfl, hy⟩ := na_gv_l h2 hb
    show nk_ldl M j.val _
    unfold nk_ldl
    rw [h1]
    exact na_o1_ok (S := v :: S) (T := .long y :: T) hD hL ⟨h2, hS⟩ h5 hW
  case aload j =>
    obtain ⟨v, w, h1, h2, h3⟩ := na_ld_ok h hL
    obtain ⟨h4, h5⟩ := na_gd_ok h3
    obtain ⟨b, hb⟩ := na_bn_ok h4
    have := na_gv_r h2 hb
    subst this
    show nk_ldr M j _
    unfold nk_ldr
    rw [h1]
    exact na_o1_ok (S := v :: S) (T := .ref b :: T) hD hL ⟨h2, hS⟩ h5 hW
  case aload_n j =>
    obtain ⟨v, w, h1, h2, h3⟩ := na_ld_ok h hL
    obtain ⟨h4, h5⟩ := na_gd_ok h3
    obtain ⟨b, hb⟩ := na_bn_ok h4
    have := na_gv_r h2 hb
    subst this
    show nk_ldr M j.val _
    unfold nk_ldr
    rw [h1]
    exact na_o1_ok (S := v :: S) (T := .ref b :: T) hD hL ⟨h2, hS⟩ h5 hW
  case istore j =>
    obtain ⟨b, v, S', x, T', rfl, hx, hS', hb, hk⟩ := na_i1_ok h hS
    obtain ⟨L', h1, rfl⟩ := na_mp hk
    exact na_s1_ok (w := .int x) hL h1 hx (fun M' hM => na_o1_ok hD hM hS' rfl hW)
  case istore_n j =>
    obtain ⟨b, v, S', x, T', rfl, hx, hS', hb, hk⟩ := na_i1_ok h hS
    obtain ⟨L', h1, rfl⟩ := na_mp hk
    exact na_s1_ok (w := .int x) hL h1 hx (fun M' hM => na_o1_ok hD hM hS' rfl hW)
  case lstore j =>
    obtain ⟨b, S', y, T', rfl, hy, hS', hk⟩ := na_l1_ok h hS
    obtain ⟨L', h1, rfl⟩ := na_mp hk
    exact na_s2_ok (w := .long y) hL h1 hy (fun M' hM => na_o1_ok hD hM hS' rfl hW)
  case lstore_n j =>
    obtain ⟨b, S', y, T', rfl, hy, hS', hk⟩ := na_l1_ok h hS
    obtain ⟨L', h1, rfl⟩ := na_mp hk
    exact na_s2_ok (w := .long y) hL h1 hy (fun M' hM => na_o1_ok hD hM hS' rfl hW)
  case astore j =>
    match S, h, hS with
    | .inr (.inr (.inr (.inl q))) :: S', h, hS =>
      obtain ⟨w, T', rfl, h1, h2⟩ := na_gS_c hS
      have := na_gv_r h1 rfl
      subst this
      obtain ⟨L', h3, rfl⟩ := na_mp h
      exact na_s1_ok (w := .ref q) hL h3 h1 (fun M' hM => na_o1_ok hD hM h2 rfl hW)
  case astore_n j =>
    match S, h, hS with
    | .inr (.inr (.inr (.inl q))) :: S', h, hS =>
      obtain ⟨w, T', rfl, h1, h2⟩ := na_gS_c hS
      have := na_gv_r h1 rfl
      subst this
      obtain ⟨L', h3, rfl⟩ := na_mp h
      exact na_s1_ok (w := .ref q) hL h3 h1 (fun M' hM => na_o1_ok hD hM h2 rfl hW)
  case iinc j c =>
    obtain ⟨v, w, h1, h2, h3⟩ := na_ld_ok h hL
    cases hb : na_iv D.2.1 v with
    | none =>
      simp only [hb] at h3
      cases h3
    | some b =>
      simp only [hb] at h3
      obtain ⟨x, rfl, hx⟩ := na_gv_i h2 hb
      obtain ⟨L', h4, rfl⟩ := na_mp h3
      show nk_ldi M j _
      unfold nk_ldi
      rw [h1]
      have hr := na_ar0 (x := x) (y := lit) (c := (lit.toInt, lit.toInt)) (na_iv_ok hD.2.1 hx hb) ⟨Int.le_refl _, Int.le_refl _⟩
      obtain ⟨r', k1, k2, k3⟩ := na_nw_ok hD hr.1 hr.2
      exact na_s1_ok (r := r') (w := .int (x + lit)) (hL.ex k1) h4 k3 (fun M' hM => hW _ (List.mem_singleton.mpr rfl) r' M' T k1 (na_if_ok k2 (hx.ex k1) k3 (na_iv_ok hD.2.1 hx hb)) hM (hS.ex k1))
  case iadd =>
    obtain ⟨a, d, v, w, S', x, y, T', rfl, hx, hy, hS', ha, hd, hk⟩ := na_i2_ok h hS
    exact na_pI_ok hD hL hS' (na_ar0 (na_iv_ok hD.2.1 hx ha) (na_iv_ok hD.2.1 hy hd)) hk hW
  case isub =>
    obtain ⟨a, d, v, w, S', x, y, T', rfl, hx, hy, hS', ha, hd, hk⟩ := na_i2_ok h hS
    have hr := na_ar1 (na_iv_ok hD.2.1 hx ha) (na_iv_ok hD.2.1 hy hd)
    unfold na_pS at hk
    split at hk
    · rename_i hc
      obtain ⟨hc, c4⟩ := na_two0 hc
      obtain ⟨hc, c3⟩ := na_two0 hc
      obtain ⟨c1, c2⟩ := na_two0 hc
      have c1 := na_bq_t c1
      have c2 := na_bq_t c2
      have c3 := na_ble_t c3
      have hya := na_iv_ok hD.2.1 hy hd
      have hxa := na_iv_ok hD.2.1 hx ha
      cases hk
      obtain ⟨r', k1, k2, k3⟩ := na_nw_ok hD hr.1 hr.2
      have hsub : (x - y).toInt + 1 = x.toInt := by
        have a1 : na_mn = -2147483648 := rfl
        have a2 : na_mx = 2147483647 := rfl
        have := na_i32 x
        rw [Int32.toInt_sub, na_bm (by omega) (by omega)]
        omega
      exact hW _ (List.mem_singleton.mpr rfl) r' M (.int (x - y) :: T') k1 (na_ak_ok k2 ⟨x - y, x, k3, hx.ex k1, Or.inr (Or.inr (Or.inr ⟨rfl, hsub⟩))⟩) (hL.ex k1) ⟨k3, hS'.ex k1⟩
    · exact na_pI_ok hD hL hS' hr hk hW
  case imul =>
    obtain ⟨a, d, v, w, S', x, y, T', rfl, hx, hy, hS', ha, hd, hk⟩ := na_i2_ok h hS
    exact na_pI_ok hD hL hS' (na_ar2 (na_iv_ok hD.2.1 hx ha) (na_iv_ok hD.2.1 hy hd)) hk hW
  case idiv =>
    obtain ⟨a, d, v, w, S', x, y, T', rfl, hx, hy, hS', ha, hd, hk⟩ := na_i2_ok h hS
    obtain ⟨hz, hk⟩ := na_gd_ok hk
    exact ⟨na_nz_y hD hy hz, na_pI_ok hD hL hS' (na_i32 _) hk hW⟩
  case irem =>
    obtain ⟨a, d, v, w, S', x, y, T', rfl, hx, hy, hS', ha, hd, hk⟩ := na_i2_ok h hS
    obtain ⟨hz, hk⟩ := na_gd_ok hk
    exact ⟨na_nz_y hD hy hz, na_pI_ok hD hL hS' (na_i32 _) hk hW⟩
  case iand =>
    obtain ⟨a, d, v, w, S', x, y, T', rfl, hx, hy, hS', ha, hd, hk⟩ := na_i2_ok h hS
    exact na_pI_ok hD hL hS' (na_i32 _) hk hW
  case ior =>
    obtain ⟨a, d, v, w, S', x, y, T', rfl, hx, hy, hS', ha, hd, hk⟩ := na_i2_ok h hS
    exact na_pI_ok hD hL hS' (na_i32 _) hk hW
  case ishl =>
    obtain ⟨a, d, v, w, S', x, y, T', rfl, hx, hy, hS', ha, hd, hk⟩ := na_i2_ok h hS
    exact na_pI_ok hD hL hS' (na_i32 _) hk hW
  case ishr =>
    obtain ⟨a, d, v, w, S', x, y, T', rfl, hx, hy, hS', ha, hd, hk⟩ := na_i2_ok h hS
    exact na_pI_ok hD hL hS' (na_i32 _) hk hW
  case iushr =>
    obtain ⟨a, d, v, w, S', x, y, T', rfl, hx, hy, hS', ha, hd, hk⟩ := na_i2_ok h hS
    exact na_pI_ok hD hL hS' (na_i32 _) hk hW
  case ladd =>
    obtain ⟨a, b, S', x, y, T', rfl, hx, hy, hS', hk⟩ := na_l2_ok h hS
    exact na_pL_ok hD hL hS' (na_i64 _) (fun q => by cases q) hk hW
  case lsub =>
    obtain ⟨a, b, S', x, y, T', rfl, hx, hy, hS', hk⟩ := na_l2_ok h hS
    exact na_pL_ok hD hL hS' (na_i64 _) (fun q => by cases q) hk hW
  case lmul =>
    obtain ⟨a, b, S', x, y, T', rfl, hx, hy, hS', hk⟩ := na_l2_ok h hS
    exact na_pL_ok hD hL hS' (na_i64 _) (fun q => by cases q) hk hW
  case ldiv =>
    obtain ⟨a, b, S', x, y, T', rfl, hx, hy, hS', hk⟩ := na_l2_ok h hS
    obtain ⟨hz, hk⟩ := na_gd_ok hk
    exact ⟨na_nz_l hD hy hz, na_pL_ok hD hL hS' (na_i64 _) (fun q => by cases q) hk hW⟩
  case lrem =>
    obtain ⟨a, b, S', x, y, T', rfl, hx, hy, hS', hk⟩ := na_l2_ok h hS
    obtain ⟨hz, hk⟩ := na_gd_ok hk
    exact ⟨na_nz_l hD hy hz, na_pL_ok hD hL hS' (na_i64 _) (fun q => by cases q) hk hW⟩
  case lneg =>
    obtain ⟨b, S', y, T', rfl, hy, hS', hk⟩ := na_l1_ok h hS
    exact na_pL_ok hD hL hS' (na_i64 _) (fun q => by cases q) hk hW
  case i2l =>
    obtain ⟨b, v, S', x, T', rfl, hx, hS', hb, hk⟩ := na_i1_ok h hS
    have e : x.toInt64.toInt = x.toInt := Int32.toInt_toInt64 x
    exact na_pL_ok hD hL hS' (by rw [e]; exact na_iv_ok hD.2.1 hx hb) (fun q => by rw [e]; exact na_nz_i hD.2.1 hD.2.2.1 hx q) hk hW
  case l2i =>
    obtain ⟨b, S', y, T', rfl, hy, hS', hk⟩ := na_l1_ok h hS
    exact na_pI_ok hD hL hS' (na_i32 _) hk hW
  case i2b =>
    obtain ⟨b, v, S', x, T', rfl, hx, hS', hb, hk⟩ := na_i1_ok h hS
    exact na_pI_ok hD hL hS' (na_i32 _) hk hW
  case lcmp =>
    obtain ⟨a, b, S', x, y, T', rfl, hx, hy, hS', hk⟩ := na_l2_ok h hS
    cases hz : na_z0 D.2.1 b with
    | false =>
      simp only [hz] at hk
      exact na_pI_ok hD hL hS' (na_cmp_i x y) hk hW
    | true =>
      simp only [hz] at hk
      unfold na_z0 at hz
      cases hl : nk_lk D.2.1 b with
      | none => rw [hl] at hz; cases hz
      | some e =>
        rw [hl] at hz
        obtain ⟨z1, z2⟩ := Bool.and_eq_true_iff.mp hz
        have e1 := na_bq_t z1
        have e2 := na_bq_t z2
        have e3 := na_lk_ok hD.2.1 hl hy
        exact na_o1_ok (S := .inr (.inr (.inr (.inr a))) :: S') (T := .int (lg_cmp x y) :: T') hD hL ⟨⟨x.toInt, hx, na_cmp_z (by omega)⟩, hS'⟩ hk hW
  case dup =>
    match S, h, hS with
    | v :: S', h, hS =>
      obtain ⟨w, T', rfl, h1, h2⟩ := na_gS_c hS
      obtain ⟨h3, h4⟩ := na_gd_ok h
      rcases Bool.or_eq_true_iff.mp h3 with h3 | h3
      · obtain ⟨b, hb⟩ := na_bs_ok h3
        obtain ⟨x, rfl, hx⟩ := na_gv_i h1 hb
        exact na_o1_ok (S := v :: v :: S') (T := .int x :: .int x :: T') hD hL ⟨h1, h1, h2⟩ h4 hW
      · obtain ⟨b, hb⟩ := na_bn_ok h3
        have := na_gv_r h1 hb
        subst this
        exact na_o1_ok (S := v :: v :: S') (T := .ref b :: .ref b :: T') hD hL ⟨h1, h1, h2⟩ h4 hW
  case dup2 =>
    match S, h, hS with
    | v :: w :: S', h, hS =>
      obtain ⟨vc, T1, rfl, h1, h2⟩ := na_gS_c hS
      cases hl : na_iL v with
      | some b =>
        simp only [na_pu, hl] at h
        obtain ⟨y, rfl, hy⟩ := na_gv_l h1 hl
        exact na_o1_ok (S := v :: v :: w :: S') (T := .long y :: .long y :: T1) hD hL ⟨h1, h1, h2⟩ h hW
      | none =>
        simp only [na_pu, hl] at h
        obtain ⟨h3, h4⟩ := na_gd_ok h
        obtain ⟨h5, h6⟩ := Bool.and_eq_true_iff.mp h3
        obtain ⟨b, hb⟩ := na_bs_ok h5
        obtain ⟨x, rfl, hx⟩ := na_gv_i h1 hb
        obtain ⟨wc, T2, rfl, h7, h8⟩ := na_gS_c h2
        rcases Bool.or_eq_true_iff.mp h6 with h6 | h6
        · obtain ⟨d, hd⟩ := na_bs_ok h6
          obtain ⟨y, rfl, hy⟩ := na_gv_i h7 hd
          exact na_o1_ok (S := v :: w :: v :: w :: S') (T := .int x :: .int y :: .int x :: .int y :: T2) hD hL ⟨h1, h7, h1, h7, h8⟩ h4 hW
        · obtain ⟨d, hd⟩ := na_bn_ok h6
          have := na_gv_r h7 hd
          subst this
          exact na_o1_ok (S := v :: w :: v :: w :: S') (T := .int x :: .ref d :: .int x :: .ref d :: T2) hD hL ⟨h1, h7, h1, h7, h8⟩ h4 hW
    | [v], h, hS =>
      obtain ⟨vc, T1, rfl, h1, h2⟩ := na_gS_c hS
      cases hl : na_iL v with
      | some b =>
        simp only [na_pu, hl] at h
        obtain ⟨y, rfl, hy⟩ := na_gv_l h1 hl
        exact na_o1_ok (S := [v, v]) (T := .long y :: .long y :: T1) hD hL ⟨h1, h1, h2⟩ h hW
      | none =>
        simp only [na_pu, hl] at h
        cases h
  case pop =>
    match S, h, hS with
    | v :: S', h, hS =>
      obtain ⟨w, T', rfl, h1, h2⟩ := na_gS_c hS
      obtain ⟨h3, h4⟩ := na_gd_ok h
      rcases Bool.or_eq_true_iff.mp h3 with h3 | h3
      · obtain ⟨b, hb⟩ := na_bs_ok h3
        obtain ⟨x, rfl, hx⟩ := na_gv_i h1 hb
        exact na_o1_ok hD hL h2 h4 hW
      · obtain ⟨b, hb⟩ := na_bn_ok h3
        have := na_gv_r h1 hb
        subst this
        exact na_o1_ok hD hL h2 h4 hW
  case pop2 =>
    obtain ⟨b, S', y, T', rfl, hy, hS', hk⟩ := na_l1_ok h hS
    exact na_o1_ok hD hL hS' hk hW
  case goto o =>
    match tg, h with
    | [t], h => exact na_o1_ok hD hL hS h hW
  case ifCond cd o =>
    match tg, h with
    | [t], h =>
      obtain ⟨b, v, S', x, T', rfl, hx, hS', hb, hk⟩ := na_i1_ok h hS
      cases hk
      obtain ⟨h1, h2⟩ := na_oy_ok hD hL hS' hW
      obtain ⟨h3, -⟩ := na_oy_ok hD hL hS' h2
      have key := na_c2_ok hD.2.1 hD.2.2.1 hx (w := .inl 0) (y := 0) rfl (cd := cd) (fun _ => h1) (fun _ => h3)
      show nk_c0 cd x (K t M T') (K nx M T')
      cases cd <;> exact key
  case if_icmp cd o =>
    match tg, h with
    | [t], h =>
      obtain ⟨a, d, v, w, S', x, y, T', rfl, hx, hy, hS', ha, hd, hk⟩ := na_i2_ok h hS
      cases hk
      refine na_c2_ok hD.2.1 hD.2.2.1 hx hy (cd := cd) (fun ht => ?_) (fun hf => ?_)
      · refine (na_oy_ok (na_kx_ok hD (ks := na_lT cd D.2.2.2.1 v w) ?_) hL hS' hW).1
        cases cd
        case lt => exact na_lt_ok (st := true) hD hx hy ⟨fun _ => ht, Int.le_of_lt ht⟩
        case gt => exact na_lt_ok (st := true) hD hy hx ⟨fun _ => ht, Int.le_of_lt ht⟩
        case le => exact na_lt_ok (st := false) hD hx hy ⟨fun q => (by cases q), ht⟩
        case ge => exact na_lt_ok (st := false) hD hy hx ⟨fun q => (by cases q), ht⟩
        all_goals exact fun k hk => absurd hk List.not_mem_nil
      · have hW2 := na_oy_rest hW
        refine (na_oy_ok (na_kx_ok hD (ks := na_lF cd D.2.2.2.1 v w) ?_) hL hS' hW2).1
        cases cd
        case lt => exact na_lt_ok (st := false) hD hy hx ⟨fun q => (by cases q), hf⟩
        case gt => exact na_lt_ok (st := false) hD hx hy ⟨fun q => (by cases q), hf⟩
        case le => exact na_lt_ok (st := true) hD hy hx ⟨fun _ => hf, Int.le_of_lt hf⟩
        case ge => exact na_lt_ok (st := true) hD hx hy ⟨fun _ => hf, Int.le_of_lt hf⟩
        all_goals exact fun k hk => absurd hk List.not_mem_nil
  case tableswitch df lo hi os =>
    obtain ⟨b, v, S', x, T', rfl, hx, hS', hb, hk⟩ := na_i1_ok h hS
    match tg, hk with
    | d :: ts, hk =>
      cases hk
      obtain ⟨h1, h2⟩ := na_sw_ok hx hD hL hS' ts lo _ hW
      obtain ⟨h3, h4⟩ := na_oy_ok hD hL hS' h2
      obtain ⟨h5, -⟩ := na_oy_ok hD hL hS' h4
      refine ⟨fun q => ?_, h1⟩
      rcases q with q | q
      · exact h3 (na_rf_ok hD.2.1 hD.2.2.1 hx (na_i32 x).1 (by omega))
      · exact h5 (na_rf_ok hD.2.1 hD.2.2.1 hx (by omega) (na_i32 x).2)
  case lookupswitch df ps =>
    obtain ⟨b, v, S', x, T', rfl, hx, hS', hb, hk⟩ := na_i1_ok h hS
    match tg, hk with
    | d :: ts, hk =>
      cases hk
      obtain ⟨h1, h2⟩ := na_lw_ok hx hD hL hS' ts _ _ hW
      exact ⟨fun _ => na_o1_ok hD hL hS' rfl h2, h1⟩
  all_goals exact absurd h (by intro q; cases q)
end NaPu
