/-! ===== tables of all methods: what they share ===== -/
abbrev nk_F : Type := Nat → Option nk_I
noncomputable def nk_top (N : Nat) (f : Nat → Option nk_I) : Nat → Option nk_I := fun pc => bif Nat.ble N pc then none else f pc
theorem nk_top_out (N : Nat) (f : Nat → Option nk_I) : ∀ pc, N ≤ pc → nk_top N f pc = none := by
  intro pc h
  unfold nk_top
  rw [Nat.ble_eq_true_of_le h]
  rfl
theorem nk_m {w : Cond} (h : decide (w ∈ nk_gw) = true) : w ∈ nk_gw := of_decide_eq_true h
theorem nk_ms {ws : List Cond} (h : ws.all (fun w => decide (w ∈ nk_gw)) = true) : ∀ w ∈ ws, w ∈ nk_gw := fun w hw => of_decide_eq_true (List.all_eq_true.mp h w hw)

noncomputable def lw_tb (i : Nat × Nat) : Option Cond := match i.1 with
  | 0 => (k2_sels lw_privs)[i.2]?
  | 1 => tables_1_1[i.2]?
  | 2 => tables_1_2[i.2]?
  | 3 => tables_1_3[i.2]?
  | 4 => tables_1_4[i.2]?
  | _ => tables_1_5[i.2]?
theorem lw_tb_mem {i : Nat × Nat} {w : Cond} (h : lw_tb i = some w) : w ∈ lw_tbl := by
  unfold lw_tb at h
  unfold lw_tbl
  split at h
  · exact List.mem_append_left _ (List.mem_of_getElem? h)
  · exact List.mem_append_right _ (show w ∈ tables_1 from List.mem_append_left _ (List.mem_of_getElem? h))
  · exact List.mem_append_right _ (show w ∈ tables_1 from List.mem_append_right _ (List.mem_append_left _ (List.mem_of_getElem? h)))
  · exact List.mem_append_right _ (show w ∈ tables_1 from List.mem_append_right _ (List.mem_append_right _ (List.mem_append_left _ (List.mem_of_getElem? h))))
  · exact List.mem_append_right _ (show w ∈ tables_1 from List.mem_append_right _ (List.mem_append_right _ (List.mem_append_right _ (List.mem_append_left _ (List.mem_of_getElem? h)))))
  · exact List.mem_append_right _ (show w ∈ tables_1 from List.mem_append_right _ (List.mem_append_right _ (List.mem_append_right _ (List.mem_append_right _ (List.mem_of_getElem? h)))))
noncomputable def nk_in (is : List (Nat × Nat)) (w : Cond) : Bool := goodWord w && is.any (fun i => decide (lw_tb i = some w))
theorem nk_mc {w : Cond} (is : List (Nat × Nat)) (h : nk_in is w = true) : w ∈ nk_gw := by
  unfold nk_in at h
  rw [Bool.and_eq_true] at h
  obtain ⟨i, -, hi⟩ := List.any_eq_true.mp h.2
  exact List.mem_filter.mpr ⟨lw_tb_mem (of_decide_eq_true hi), h.1⟩
theorem nk_msc {ws : List Cond} (is : List (Nat × Nat)) (h : ws.all (nk_in is) = true) : ∀ w ∈ ws, w ∈ nk_gw := fun w hw => nk_mc is (List.all_eq_true.mp h w hw)
noncomputable def nk_fokc (own : String) (q : Nat × Nat × Nat × Nat) (is : List (Nat × Nat)) : Bool := match nk_cl[q.2.1]? with
  | some r => decide (q.2.2.1 < r.2.2) && nk_in is (Cond.fieldLink own q.1 (r.2.1 q.2.2.1).1 (r.2.1 q.2.2.1).2.1 (r.2.1 q.2.2.1).2.2.1) && nk_kdok q.2.2.2 (r.2.1 q.2.2.1).2.2.1 (r.2.1 q.2.2.1).2.2.2 && (decide (q.2.2.2 ≠ 4) || decide ((r.2.1 q.2.2.1).1 = own))
  | none => false
theorem nk_fkc {own : String} {q : Nat × Nat × Nat × Nat} (is : List (Nat × Nat)) (h : nk_fokc own q is = true) : nk_fok own q = true := by
  unfold nk_fokc at h
  unfold nk_fok
  split at h
  · rename_i r hr
    rw [hr]
    rw [Bool.and_eq_true, Bool.and_eq_true, Bool.and_eq_true] at h
    obtain ⟨⟨⟨h1, h2⟩, h3⟩, h4⟩ := h
    show (decide (q.2.2.1 < r.2.2) && decide (Cond.fieldLink own q.1 (r.2.1 q.2.2.1).1 (r.2.1 q.2.2.1).2.1 (r.2.1 q.2.2.1).2.2.1 ∈ nk_gw) && nk_kdok q.2.2.2 (r.2.1 q.2.2.1).2.2.1 (r.2.1 q.2.2.1).2.2.2 && (decide (q.2.2.2 ≠ 4) || decide ((r.2.1 q.2.2.1).1 = own))) = true
    rw [Bool.and_eq_true, Bool.and_eq_true, Bool.and_eq_true]
    exact ⟨⟨⟨h1, decide_eq_true (nk_mc is h2)⟩, h3⟩, h4⟩
  · cases h

set_option maxRecDepth 100000 in
theorem cl_X0 : nk_clok (RX0, TX0, 15) := ⟨nk_ms (by decide +kernel), tyX0, tyX0_ok, nmX0⟩
set_option maxRecDepth 100000 in
theorem cl_X1 : nk_clok (RX1, TX1, 3) := ⟨nk_ms (by decide +kernel), tyX1, tyX1_ok, nmX1⟩
set_option maxRecDepth 100000 in
theorem cl_X2 : nk_clok (RX2, TX2, 1) := ⟨nk_ms (by decide +kernel), tyX2, tyX2_ok, nmX2⟩
set_option maxRecDepth 100000 in
theorem cl_X3 : nk_clok (RX3, TX3, 2) := ⟨nk_ms (by decide +kernel), tyX3, tyX3_ok, nmX3⟩
set_option maxRecDepth 100000 in
theorem cl_X4 : nk_clok (RX4, TX4, 4) := ⟨nk_ms (by decide +kernel), tyX4, tyX4_ok, nmX4⟩
set_option maxRecDepth 100000 in
theorem cl_X5 : nk_clok (RX5, TX5, 13) := ⟨nk_ms (by decide +kernel), tyX5, tyX5_ok, nmX5⟩
set_option maxRecDepth 100000 in
theorem cl_X6 : nk_clok (RX6, TX6, 32) := ⟨nk_ms (by decide +kernel), tyX6, tyX6_ok, nmX6⟩
set_option maxRecDepth 100000 in
theorem nk_gok : nk_Gok := ⟨List.forall_mem_cons.mpr ⟨cl_X0, List.forall_mem_cons.mpr ⟨cl_X1, List.forall_mem_cons.mpr ⟨cl_X2, List.forall_mem_cons.mpr ⟨cl_X3, List.forall_mem_cons.mpr ⟨cl_X4, List.forall_mem_cons.mpr ⟨cl_X5, List.forall_mem_cons.mpr ⟨cl_X6, fun _ h => absurd h List.not_mem_nil⟩⟩⟩⟩⟩⟩⟩, nk_m (by decide +kernel), nk_m (by decide +kernel), by
  intro q hq
  simp only [nk_cm, List.mem_cons, List.not_mem_nil, or_false] at hq
  rcases hq with rfl | rfl
  · exact ⟨_, rfl, rfl⟩
  · exact ⟨_, rfl, rfl⟩⟩
set_option maxRecDepth 100000 in
theorem nw_X0 {own : String} {x : Nat} (h : Cond.classLink own x RX0 ∈ nk_gw) : nk_newok own (x, 0, [.null, .null, .int 0, .null, .null, .null, .null, .null, .null, .null, .int 0, .int 0, .int 0, .int 0, .int 0]) := ⟨_, tyX0, rfl, rfl, tyX0_ok, (show ∀ j, j < 15 → defaultValue (tyX0 j) = vp_V [.null, .null, .int 0, .null, .null, .null, .null, .null, .null, .null, .int 0, .int 0, .int 0, .int 0, .int 0] j by decide +kernel), fun v hv ad => by simp only [List.mem_cons, List.not_mem_nil, or_false] at hv; rcases hv with rfl | rfl | rfl | rfl | rfl | rfl | rfl | rfl | rfl | rfl | rfl | rfl | rfl | rfl | rfl <;> rfl, h, nk_m (by decide +kernel), nk_m (by decide +kernel)⟩
set_option maxRecDepth 100000 in
theorem nw_X1 {own : String} {x : Nat} (h : Cond.classLink own x RX1 ∈ nk_gw) : nk_newok own (x, 1, [.null, .null, .int 0]) := ⟨_, tyX1, rfl, rfl, tyX1_ok, (show ∀ j, j < 3 → defaultValue (tyX1 j) = vp_V [.null, .null, .int 0] j by decide +kernel), fun v hv ad => by simp only [List.mem_cons, List.not_mem_nil, or_false] at hv; rcases hv with rfl | rfl | rfl <;> rfl, h, nk_m (by decide +kernel), nk_m (by decide +kernel)⟩
set_option maxRecDepth 100000 in
theorem nw_X2 {own : String} {x : Nat} (h : Cond.classLink own x RX2 ∈ nk_gw) : nk_newok own (x, 2, [.null]) := ⟨_, tyX2, rfl, rfl, tyX2_ok, (show ∀ j, j < 1 → defaultValue (tyX2 j) = vp_V [.null] j by decide +kernel), fun v hv ad => by simp only [List.mem_cons, List.not_mem_nil, or_false] at hv; rcases hv with rfl <;> rfl, h, nk_m (by decide +kernel), nk_m (by decide +kernel)⟩
set_option maxRecDepth 100000 in
theorem nw_X3 {own : String} {x : Nat} (h : Cond.classLink own x RX3 ∈ nk_gw) : nk_newok own (x, 3, [.null, .int 0]) := ⟨_, tyX3, rfl, rfl, tyX3_ok, (show ∀ j, j < 2 → defaultValue (tyX3 j) = vp_V [.null, .int 0] j by decide +kernel), fun v hv ad => by simp only [List.mem_cons, List.not_mem_nil, or_false] at hv; rcases hv with rfl | rfl <;> rfl, h, nk_m (by decide +kernel), nk_m (by decide +kernel)⟩
set_option maxRecDepth 100000 in
theorem nw_X4 {own : String} {x : Nat} (h : Cond.classLink own x RX4 ∈ nk_gw) : nk_newok own (x, 4, [.null, .null, .int 0, .int 0]) := ⟨_, tyX4, rfl, rfl, tyX4_ok, (show ∀ j, j < 4 → defaultValue (tyX4 j) = vp_V [.null, .null, .int 0, .int 0] j by decide +kernel), fun v hv ad => by simp only [List.mem_cons, List.not_mem_nil, or_false] at hv; rcases hv with rfl | rfl | rfl | rfl <;> rfl, h, nk_m (by decide +kernel), nk_m (by decide +kernel)⟩
set_option maxRecDepth 100000 in
theorem nw_X5 {own : String} {x : Nat} (h : Cond.classLink own x RX5 ∈ nk_gw) : nk_newok own (x, 5, [.null, .null, .null, .null, .null, .null, .null, .null, .null, .int 0, .int 0, .long 0, .long 0]) := ⟨_, tyX5, rfl, rfl, tyX5_ok, (show ∀ j, j < 13 → defaultValue (tyX5 j) = vp_V [.null, .null, .null, .null, .null, .null, .null, .null, .null, .int 0, .int 0, .long 0, .long 0] j by decide +kernel), fun v hv ad => by simp only [List.mem_cons, List.not_mem_nil, or_false] at hv; rcases hv with rfl | rfl | rfl | rfl | rfl | rfl | rfl | rfl | rfl | rfl | rfl | rfl | rfl <;> rfl, h, nk_m (by decide +kernel), nk_m (by decide +kernel)⟩
set_option maxRecDepth 100000 in
theorem nw_X6 {own : String} {x : Nat} (h : Cond.classLink own x RX6 ∈ nk_gw) : nk_newok own (x, 6, [.int 0, .null, .int 0, .long 0, .long 0, .null, .null, .null, .null, .null, .int 0, .null, .int 0, .null, .null, .int 0, .null, .null, .null, .null, .null, .null, .int 0, .int 0, .int 0, .null, .null, .null, .null, .null, .int 0, .long 0]) := ⟨_, tyX6, rfl, rfl, tyX6_ok, (show ∀ j, j < 32 → defaultValue (tyX6 j) = vp_V [.int 0, .null, .int 0, .long 0, .long 0, .null, .null, .null, .null, .null, .int 0, .null, .int 0, .null, .null, .int 0, .null, .null, .null, .null, .null, .null, .int 0, .int 0, .int 0, .null, .null, .null, .null, .null, .int 0, .long 0] j by decide +kernel), fun v hv ad => by simp only [List.mem_cons, List.not_mem_nil, or_false] at hv; rcases hv with rfl | rfl | rfl | rfl | rfl | rfl | rfl | rfl | rfl | rfl | rfl | rfl | rfl | rfl | rfl | rfl | rfl | rfl | rfl | rfl | rfl | rfl | rfl | rfl | rfl | rfl | rfl | rfl | rfl | rfl | rfl | rfl <;> rfl, h, nk_m (by decide +kernel), nk_m (by decide +kernel)⟩
