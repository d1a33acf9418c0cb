theorem nl_left {D : va_G} {cl : List vw_C} {w1 w2 : va_W} {H : Heap} (h : va_P D cl (w1 ++ w2) H) : va_P D cl w1 H ∧ va_P D cl w2 H := by
  refine ⟨fun k q hq => h k q ?_, fun k q hq => h (w1.length + k) q ?_⟩
  · rw [List.getElem?_append_left (List.getElem?_eq_some_iff.mp hq).1]
    exact hq
  · rw [List.getElem?_append_right (Nat.le_add_right _ _), Nat.add_sub_cancel_left]
    exact hq
theorem nl_leftD {A : Nat → Prop} {w1 w2 : va_W} (h : va_D A (w1 ++ w2)) : va_D A w1 ∧ va_D A w2 ∧ ∀ (i j : Nat) (p q : Nat × va_E), w1[i]? = some p → w2[j]? = some q → p.1 ≠ q.1 := by
  have l : ∀ (k : Nat) (q : Nat × va_E), w1[k]? = some q → (w1 ++ w2)[k]? = some q := fun k q hq => by
    rw [List.getElem?_append_left (List.getElem?_eq_some_iff.mp hq).1]
    exact hq
  have r : ∀ (k : Nat) (q : Nat × va_E), w2[k]? = some q → (w1 ++ w2)[w1.length + k]? = some q := fun k q hq => by
    rw [List.getElem?_append_right (Nat.le_add_right _ _), Nat.add_sub_cancel_left]
    exact hq
  refine ⟨⟨fun i j p q hp hq e => h.1 i j p q (l i p hp) (l j q hq) e, fun k q hq => h.2 k q (l k q hq)⟩, ⟨fun i j p q hp hq e => ?_, fun k q hq => h.2 _ q (r k q hq)⟩, fun i j p q hp hq e => ?_⟩
  · have := h.1 _ _ p q (r i p hp) (r j q hq) e
    omega
  · have := h.1 _ _ p q (l i p hp) (r j q hq) e
    have := (List.getElem?_eq_some_iff.mp hp).1
    omega
noncomputable def nl_a0 (b sz x y : Nat) (k : Nat) : Nat := if k = 2000000 then b else if k = 3000000 then x else if k = 3000001 then y else sz + k
noncomputable def nl_a2 (b sz x y : Nat) (k : Nat) : Nat := if k = 3000000 then x else if k = 3000001 then y else nl_a0 b sz x y (61 + k)
set_option maxRecDepth 100000 in
set_option maxHeartbeats 4000000 in
theorem nl_weq (cA : Nat → ClassId) (b sz x y : Nat) : nk_w cA (nl_a0 b sz x y) (hC0 ++ encRb 61 iR0 (fun _ _ => 0) (fun _ => 0) gC0) 0 = nk_w cA (nl_a0 b sz x y) hC0 0 ++ nk_w cA (nl_a2 b sz x y) hR0 0 := rfl
set_option maxRecDepth 100000 in
theorem ca_L_X5 (l : Launch) : nk_CallOk l room_1 R_law code 4 true 37 (1, 6, 60, 1194, ev_X5_init) := nk_callI (x := 9) (n := 0) (ci := 5) (mt_X5_init l) (nk_m (by decide +kernel)) (nk_m (by decide +kernel)) (nk_m (by decide +kernel)) (nk_m (by decide +kernel)) rfl rfl rfl (by decide +kernel) ⟨by decide, by decide⟩
set_option maxRecDepth 100000 in
theorem ca_L_X6 (l : Launch) : nk_CallOk l room_1 R_law code 4 true 49 (1, 7, 20, 1054, ev_X6_init) := nk_callI (x := 12) (n := 0) (ci := 6) (mt_X6_init l) (nk_m (by decide +kernel)) (nk_m (by decide +kernel)) (nk_m (by decide +kernel)) (nk_m (by decide +kernel)) rfl rfl rfl (by decide +kernel) ⟨by decide, by decide⟩
set_option maxRecDepth 100000 in
theorem nk_nt : ∀ q ∈ nk_nw, Cond.methodLinkNest q.1 q.2.1 q.2.2.1 q.2.2.2 ∈ lw_tbl := by decide +kernel
set_option maxRecDepth 100000 in
theorem nk_at2 : ∀ C ∈ nk_ao, Cond.arrayOver (.object C) ∈ lw_tbl := by decide +kernel
theorem dL_0 : decode code 0 = .ok (.new 7, 3) := by decide +kernel
theorem dL_3 : decode code 3 = .ok (.dup, 1) := by decide +kernel
theorem dL_4 : decode code 4 = .ok (.invokespecial 9, 3) := by decide +kernel
theorem dL_7 : decode code 7 = .ok (.astore_n 1, 1) := by decide +kernel
theorem dL_8 : decode code 8 = .ok (.new 10, 3) := by decide +kernel
theorem dL_11 : decode code 11 = .ok (.dup, 1) := by decide +kernel
theorem dL_12 : decode code 12 = .ok (.invokespecial 12, 3) := by decide +kernel
theorem dL_15 : decode code 15 = .ok (.astore_n 2, 1) := by decide +kernel
theorem dL_16 : decode code 16 = .ok (.iconst 0, 1) := by decide +kernel
theorem dL_17 : decode code 17 = .ok (.istore_n 3, 1) := by decide +kernel
/-! the static arrays -/
theorem sa_eq {args : Array Value} {s : State} {t : Term} {z : Int32} (h : (Cond.eq t (.int z)).before args s = true) : t.eval args s none [] s = some (.int z) := by
  cases hv : t.eval args s none [] s with
  | none => simp [Cond.before, Cond.holds, Cond.value, hv] at h
  | some w =>
    have hz : (Term.int z).eval args s none [] s = some (.int z) := rfl
    simp only [Cond.before, Cond.holds, Cond.value, hv, hz] at h
    cases w <;> simp_all
theorem sa_len {args : Array Value} {s : State} {t : Term} {v : Value} {a : Nat} {cell : Cell} (h : (Term.length t).eval args s none [] s = some v) (ht : t.eval args s none [] s = some (.ref a)) (hc : s.arrayAt? a = some cell) : cell.slots.size < 2147483648 ∧ v = .int cell.slots.size.toInt32 := by
  simp only [Term.eval, Option.bind_eq_bind, ht, Option.bind_some, hc] at h
  by_cases hs : cell.slots.size < 2147483648
  · rw [if_pos hs] at h
    cases h
    exact ⟨hs, rfl⟩
  · rw [if_neg hs] at h
    cases h
theorem sa_arr {args : Array Value} {s : State} {t : Term} {n : Nat} {f : Nat → Int32} (hn : n < 2147483648) (harr : (Cond.arrayOf t .int).before args s = true) (hlen : (Cond.eq (.length t) (.int (Int32.ofNat n))).before args s = true) (hel : ∀ j : Nat, j < n → (Cond.eq (.elem t (.int (Int32.ofNat j))) (.int (f j))).before args s = true) : ∃ a : Nat, t.eval args s none [] s = some (.ref a) ∧ va_X a n f s s.heap ∧ a < s.heap.size := by
  have hv := sa_eq hlen
  obtain ⟨a, cell, ht, hc, -⟩ := Term.length_spec hv
  obtain ⟨hs, he⟩ := sa_len hv ht hc
  obtain ⟨h1, h2, -, -⟩ := State.arrayAt?_spec hc
  have hA := Cond.arrayOf_spec (a := a) (cell := cell) harr ht h1
  have hsz : cell.slots.size = n := by
    have e1 : Int32.ofNat n = Int32.ofNat cell.slots.size := by
      have he : Value.int (Int32.ofNat n) = Value.int (Int32.ofNat cell.slots.size) := he
      exact Value.int.inj he
    have e2 : (Int32.ofNat n).toInt = (n : Int) := Int32.toInt_ofNat_of_lt hn
    have e3 : (Int32.ofNat cell.slots.size).toInt = (cell.slots.size : Int) := Int32.toInt_ofNat_of_lt hs
    rw [e1, e3] at e2
    omega
  refine ⟨a, ht, ⟨cell, h1, hA.1, h2, hsz, fun j hj => ?_⟩, (Array.getElem?_eq_some_iff.mp h1).1⟩
  obtain ⟨a', k, cell', ht', hk, hc', -, hv'⟩ := Term.elem_spec (sa_eq (hel j hj))
  rw [ht] at ht'
  cases ht'
  rw [hc] at hc'
  cases hc'
  have hk : Int32.ofNat j = k := Value.int.inj (Option.some.inj hk)
  subst hk
  have e4 : (Int32.ofNat j).toInt = (j : Int) := Int32.toInt_ofNat_of_lt (by omega)
  have e5 : (Int32.ofNat j).toInt.toNat = (Int32.ofNat j).toNatClampNeg := Int32.toNat_toInt _
  have e6 : (Int32.ofNat j).toNatClampNeg = j := by omega
  rw [e6] at hv'
  exact hv'
set_option maxRecDepth 100000 in
theorem sa_C {args : Array Value} {s : State} (hgv : (Jvm.Cond.and given_1 narrow_1).before args s = true) : ∃ a : Nat, (Term.static "MarbleLaw$LawReader" "CAPITALS" "[I").eval args s none [] s = some (.ref a) ∧ va_X a 5 (fun j => ([70, 74, 77, 87, 75] : List Int32).getD j 0) s s.heap ∧ a < s.heap.size := by
  have hs := flat_of_before _ hgv
  refine sa_arr (by decide) (hs _ (by decide +kernel)) (hs _ (by decide +kernel)) (fun j hj => ?_)
  match j, hj with
  | 0, _ => exact hs _ (by decide +kernel)
  | 1, _ => exact hs _ (by decide +kernel)
  | 2, _ => exact hs _ (by decide +kernel)
  | 3, _ => exact hs _ (by decide +kernel)
  | 4, _ => exact hs _ (by decide +kernel)
  | j + 5, hj => omega
set_option maxRecDepth 100000 in
theorem sa_S {args : Array Value} {s : State} (hgv : (Jvm.Cond.and given_1 narrow_1).before args s = true) : ∃ a : Nat, (Term.static "MarbleLaw$LawReader" "SMALLS" "[I").eval args s none [] s = some (.ref a) ∧ va_X a 15 (fun j => ([115, 109, 103, 99, 112, 999, 97, 119, 999, 99, 109, 999, 121, 110, 999] : List Int32).getD j 0) s s.heap ∧ a < s.heap.size := by
  have hs := flat_of_before _ hgv
  refine sa_arr (by decide) (hs _ (by decide +kernel)) (hs _ (by decide +kernel)) (fun j hj => ?_)
  match j, hj with
  | 0, _ => exact hs _ (by decide +kernel)
  | 1, _ => exact hs _ (by decide +kernel)
  | 2, _ => exact hs _ (by decide +kernel)
  | 3, _ => exact hs _ (by decide +kernel)
  | 4, _ => exact hs _ (by decide +kernel)
  | 5, _ => exact hs _ (by decide +kernel)
  | 6, _ => exact hs _ (by decide +kernel)
  | 7, _ => exact hs _ (by decide +kernel)
  | 8, _ => exact hs _ (by decide +kernel)
  | 9, _ => exact hs _ (by decide +kernel)
  | 10, _ => exact hs _ (by decide +kernel)
  | 11, _ => exact hs _ (by decide +kernel)
  | 12, _ => exact hs _ (by decide +kernel)
  | 13, _ => exact hs _ (by decide +kernel)
  | 14, _ => exact hs _ (by decide +kernel)
  | j + 15, hj => omega
set_option maxRecDepth 100000 in
theorem sa_tb : (∀ n ∈ ["CAPITALS", "SMALLS"], Cond.laysStatic "MarbleLaw$LawReader" n "[I" ∈ lw_tbl) ∧ Cond.initialized "MarbleLaw$LawReader" ∈ lw_tbl := by decide +kernel
set_option maxRecDepth 100000 in
set_option maxHeartbeats 8000000 in
/-- THE LAW, from its entry, out of its loop's picture -/
theorem nl_start {p : Program} {e : Env} {s : State} {m : MethodId} {below : List Frame} {meth : Method} {c : Code} (l : Launch) {b L : Nat} {xs : Nat → Int32} (C0 : lw_At p s m meth c b L xs)
    (hw : nl_wp kC_L L xs kc_L 18 [some (.ref 0), some (.ref 1), some (.ref 2), some (.int 0)] [] (nx_enc sC0 0 shC) (nx_enc sR0 0 shR)) : W p l e room_1 s m #[Value.ref b] below meth c s.heap [] 0 0 (lw_Z below #[Value.ref b] s) (entryFrame m ([Value.ref b] : List Value).toArray 4) := by
  rw [← hC0_eq, ← hR0_eq] at hw
  obtain ⟨hx, hb, hr, hml, hown, htbl, hX, hbl, hlocks, hgv⟩ := id C0
  have hts : ∀ w ∈ nk_gw, w.before #[Value.ref b] s = true := fun w hw => htbl w (List.mem_filter.mp hw).1
  have hNe : nk_Ne s := ⟨fun q hq => va_Nw.of rfl (htbl _ (nk_nt q hq)), fun C hC => va_AO.of (htbl _ (nk_at2 C hC))⟩
  obtain ⟨D, cA, hK⟩ := nl_known hts hNe.2
  obtain ⟨aC, eC, xC, lC⟩ := sa_C hgv
  obtain ⟨aS, eS, xS, lS⟩ := sa_S hgv
  have hini := htbl _ sa_tb.2
  have zC : va_Z "MarbleLaw$LawReader" "CAPITALS" "[I" (.ref aC) (fun q => s.heap.size ≤ q) s s.heap := va_Zof (htbl _ (sa_tb.1 "CAPITALS" List.mem_cons_self)) hini eC (fun a ha => Nat.not_le.mpr ha)
  have zS : va_Z "MarbleLaw$LawReader" "SMALLS" "[I" (.ref aS) (fun q => s.heap.size ≤ q) s s.heap := va_Zof (htbl _ (sa_tb.1 "SMALLS" (List.mem_cons_of_mem _ List.mem_cons_self))) hini eS (fun a ha => Nat.not_le.mpr ha)
  have hSt : ∀ f : Nat → Nat, f 3000000 = aC → f 3000001 = aS → nk_St f (fun q => s.heap.size ≤ q) s := fun f f1 f2 => by
    refine List.forall_mem_cons.mpr ⟨?_, List.forall_mem_cons.mpr ⟨?_, fun _ h => absurd h List.not_mem_nil⟩⟩
    · show va_X (f 3000000) 5 _ s s.heap ∧ f 3000000 < s.heap.size ∧ ¬ s.heap.size ≤ f 3000000 ∧ va_Z "MarbleLaw$LawReader" "CAPITALS" "[I" (.ref (f 3000000)) (fun q => s.heap.size ≤ q) s s.heap
      rw [f1]
      exact ⟨xC, lC, Nat.not_le.mpr lC, zC⟩
    · show va_X (f 3000001) 15 _ s s.heap ∧ f 3000001 < s.heap.size ∧ ¬ s.heap.size ≤ f 3000001 ∧ va_Z "MarbleLaw$LawReader" "SMALLS" "[I" (.ref (f 3000001)) (fun q => s.heap.size ≤ q) s s.heap
      rw [f2]
      exact ⟨xS, lS, Nat.not_le.mpr lS, zS⟩
  have hB : nk_B p s m #[Value.ref b] meth c R_law code 4 D cA (nl_a0 b s.heap.size aC aS) (fun q => s.heap.size ≤ q) true 0 := ⟨hx, hb, hml, hown, hts, hNe, hK, fun _ h => h, hSt _ rfl rfl, hlocks, fun _ k _ hk => by
    unfold nl_a0
    rw [if_neg (by omega), if_neg (by omega), if_neg (by omega)]
    omega⟩
  have key : nk_G p l e room_1 s m #[Value.ref b] below meth c 4 D cA (nl_a0 b s.heap.size aC aS) (fun q => s.heap.size ≤ q) true 0 (lw_Z below #[Value.ref b] s) 0 [some (.ref 2000000), none, none, none] [] [] 0 0 := by
    refine nl_new hB rfl (nw_X5 (nk_m (by decide +kernel))) nk_gok dL_0 (by decide) (by decide) (by decide) ?_
    refine nl_pure hB dL_3 (nx := 4) (tg := []) (lit := 0) (by decide) ?_
    refine ca_L_X5 l p e s m #[Value.ref b] below meth c D cA (nl_a0 b s.heap.size aC aS) _ 0 _ hB 4 dL_4 _ [.ref 0] [.ref 0] _ 1 13 (fun v h => v = none ∧ h = hC0) rfl trivial (by decide) (by decide) (by decide) (ct_C _ ⟨rfl, rfl⟩) (fun v h' hv => ?_)
    obtain ⟨rfl, rfl⟩ := hv
    refine nl_pure hB dL_7 (nx := 8) (tg := []) (lit := 0) (by decide) ?_
    refine nl_new hB rfl (nw_X6 (nk_m (by decide +kernel))) nk_gok dL_8 (by decide) (by decide) (by decide) ?_
    refine nl_pure hB dL_11 (nx := 12) (tg := []) (lit := 0) (by decide) ?_
    refine ca_L_X6 l p e s m #[Value.ref b] below meth c D cA (nl_a0 b s.heap.size aC aS) _ 0 _ hB 12 dL_12 _ [.ref 61] [.ref 61] _ 62 1239 (fun v h => v = none ∧ h = hC0 ++ encRb 61 iR0 (fun _ _ => 0) (fun _ => 0) gC0) rfl trivial (by decide) (by decide) (by decide) (ct_R _ ⟨rfl, rfl⟩) (fun v h' hv => ?_)
    obtain ⟨rfl, rfl⟩ := hv
    refine nl_pure hB dL_15 (nx := 16) (tg := []) (lit := 0) (by decide) ?_
    refine nl_pure hB dL_16 (nx := 17) (tg := []) (lit := 0) (by decide) ?_
    refine nl_pure hB dL_17 (nx := 18) (tg := []) (lit := 0) (by decide) ?_
    show nk_G p l e room_1 s m #[Value.ref b] below meth c 4 D cA (nl_a0 b s.heap.size aC aS) (fun q => s.heap.size ≤ q) true 0 (lw_Z below #[Value.ref b] s) 18 [some (.ref 2000000), some (.ref 0), some (.ref 61), some (.int 0)] [] (hC0 ++ encRb 61 iR0 (fun _ _ => 0) (fun _ => 0) gC0) 82 2293
    intro H locs ls hP hD hS hn hL
    rw [nl_weq] at hP hD
    obtain ⟨hP1, hP2⟩ := nl_left hP
    obtain ⟨hD1, hD2, hDx⟩ := nl_leftD hD
    refine nl_body (a1 := nl_a0 b s.heap.size aC aS) (a2 := nl_a2 b s.heap.size aC aS) ck_L (nk_top_out _ kt_L) (kC_ok l) ⟨C0, hts, hNe, hK, hSt _ rfl rfl, hSt _ rfl rfl⟩ (by decide) (by decide) hw H locs ls ⟨hP1, hP2, hD1, hD2, hDx⟩ hS ⟨rfl, hL.2.1, hL.2.2.1, fun i v hv => ?_⟩
    match i, hv with
    | 0, hv =>
      cases hv
      have := hL.2.2.2 0 (.ref 2000000) rfl
      exact this
    | 1, hv =>
      cases hv
      exact hL.2.2.2 1 (.ref 0) rfl
    | 2, hv =>
      cases hv
      exact hL.2.2.2 2 (.ref 61) rfl
    | 3, hv =>
      cases hv
      exact hL.2.2.2 3 (.int 0) rfl
    | i + 4, hv => cases hv
  have hl := lv_entry ([.ref b]) (n := 4) (Nat.le_of_ble_eq_true rfl)
  rw [lg_entry_eq]
  refine key s.heap [] _ (fun k q h => by simp [nk_w] at h) ⟨fun i j p q h => by simp [nk_w] at h, fun k q h => by simp [nk_w] at h⟩ va_S.rf (fun _ => ⟨rfl, Nat.le_refl _⟩) ⟨rfl, hl.1, hl.2.1, fun i v hv => ?_⟩
  match i, hv with
  | 0, hv =>
    cases hv
    exact hl.2.2 (0, .ref b) (by simp [lv_args])
  | 1, hv => cases hv
  | 2, hv => cases hv
  | 3, hv => cases hv
  | i + 4, hv => cases hv
