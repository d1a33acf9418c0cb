/-! ===== tables of all methods: what they share ===== -/
def nk_top (N : Nat) (f : Nat → Option nk_I) : Nat → Option nk_I := fun pc => bif Nat.ble N pc then none else f pc
theorem nk_top_out (N : Nat) (f : Nat → Option nk_I) : ∀ pc, N ≤ pc → nk_top N f pc = none := by
  intro pc h
  unfold nk_top
  rw [Nat.ble_eq_true_of_le h]
  rfl
theorem nk_m {w : Cond} (h : decide (w ∈ nk_gw) = true) : w ∈ nk_gw := of_decide_eq_true h
theorem nk_ms {ws : List Cond} (h : ws.all (fun w => decide (w ∈ nk_gw)) = true) : ∀ w ∈ ws, w ∈ nk_gw := fun w hw => of_decide_eq_true (List.all_eq_true.mp h w hw)

set_option maxRecDepth 100000 in
theorem cl_X0 : nk_clok (RX0, TX0, 15) := ⟨nk_ms (by decide +kernel), tyX0, tyX0_ok, nmX0⟩
set_option maxRecDepth 100000 in
theorem cl_X1 : nk_clok (RX1, TX1, 3) := ⟨nk_ms (by decide +kernel), tyX1, tyX1_ok, nmX1⟩
set_option maxRecDepth 100000 in
theorem cl_X2 : nk_clok (RX2, TX2, 1) := ⟨nk_ms (by decide +kernel), tyX2, tyX2_ok, nmX2⟩
set_option maxRecDepth 100000 in
theorem cl_X3 : nk_clok (RX3, TX3, 2) := ⟨nk_ms (by decide +kernel), tyX3, tyX3_ok, nmX3⟩
set_option maxRecDepth 100000 in
theorem cl_X4 : nk_clok (RX4, TX4, 4) := ⟨nk_ms (by decide +kernel), tyX4, tyX4_ok, nmX4⟩
set_option maxRecDepth 100000 in
theorem cl_X5 : nk_clok (RX5, TX5, 13) := ⟨nk_ms (by decide +kernel), tyX5, tyX5_ok, nmX5⟩
set_option maxRecDepth 100000 in
theorem cl_X6 : nk_clok (RX6, TX6, 32) := ⟨nk_ms (by decide +kernel), tyX6, tyX6_ok, nmX6⟩
set_option maxRecDepth 100000 in
theorem nk_gok : nk_Gok := ⟨List.forall_mem_cons.mpr ⟨cl_X0, List.forall_mem_cons.mpr ⟨cl_X1, List.forall_mem_cons.mpr ⟨cl_X2, List.forall_mem_cons.mpr ⟨cl_X3, List.forall_mem_cons.mpr ⟨cl_X4, List.forall_mem_cons.mpr ⟨cl_X5, List.forall_mem_cons.mpr ⟨cl_X6, fun _ h => absurd h List.not_mem_nil⟩⟩⟩⟩⟩⟩⟩, nk_m (by decide +kernel), nk_m (by decide +kernel), by
  intro q hq
  simp only [nk_cm, List.mem_cons, List.not_mem_nil, or_false] at hq
  rcases hq with rfl | rfl
  · exact ⟨_, rfl, rfl⟩
  · exact ⟨_, rfl, rfl⟩⟩
set_option maxRecDepth 100000 in
theorem nw_X0 {own : String} {x : Nat} (h : Cond.classLink own x RX0 ∈ nk_gw) : nk_newok own (x, 0, [.null, .null, .int 0, .null, .null, .null, .null, .null, .null, .null, .int 0, .int 0, .int 0, .int 0, .int 0]) := ⟨_, tyX0, rfl, rfl, tyX0_ok, (show ∀ j, j < 15 → defaultValue (tyX0 j) = vp_V [.null, .null, .int 0, .null, .null, .null, .null, .null, .null, .null, .int 0, .int 0, .int 0, .int 0, .int 0] j by decide +kernel), fun v hv ad => by simp only [List.mem_cons, List.not_mem_nil, or_false] at hv; rcases hv with rfl | rfl | rfl | rfl | rfl | rfl | rfl | rfl | rfl | rfl | rfl | rfl | rfl | rfl | rfl <;> rfl, h, nk_m (by decide +kernel), nk_m (by decide +kernel)⟩
set_option maxRecDepth 100000 in
theorem nw_X1 {own : String} {x : Nat} (h : Cond.classLink own x RX1 ∈ nk_gw) : nk_newok own (x, 1, [.null, .null, .int 0]) := ⟨_, tyX1, rfl, rfl, tyX1_ok, (show ∀ j, j < 3 → defaultValue (tyX1 j) = vp_V [.null, .null, .int 0] j by decide +kernel), fun v hv ad => by simp only [List.mem_cons, List.not_mem_nil, or_false] at hv; rcases hv with rfl | rfl | rfl <;> rfl, h, nk_m (by decide +kernel), nk_m (by decide +kernel)⟩
set_option maxRecDepth 100000 in
theorem nw_X2 {own : String} {x : Nat} (h : Cond.classLink own x RX2 ∈ nk_gw) : nk_newok own (x, 2, [.null]) := ⟨_, tyX2, rfl, rfl, tyX2_ok, (show ∀ j, j < 1 → defaultValue (tyX2 j) = vp_V [.null] j by decide +kernel), fun v hv ad => by simp only [List.mem_cons, List.not_mem_nil, or_false] at hv; rcases hv with rfl <;> rfl, h, nk_m (by decide +kernel), nk_m (by decide +kernel)⟩
set_option maxRecDepth 100000 in
theorem nw_X3 {own : String} {x : Nat} (h : Cond.classLink own x RX3 ∈ nk_gw) : nk_newok own (x, 3, [.null, .int 0]) := ⟨_, tyX3, rfl, rfl, tyX3_ok, (show ∀ j, j < 2 → defaultValue (tyX3 j) = vp_V [.null, .int 0] j by decide +kernel), fun v hv ad => by simp only [List.mem_cons, List.not_mem_nil, or_false] at hv; rcases hv with rfl | rfl <;> rfl, h, nk_m (by decide +kernel), nk_m (by decide +kernel)⟩
set_option maxRecDepth 100000 in
theorem nw_X4 {own : String} {x : Nat} (h : Cond.classLink own x RX4 ∈ nk_gw) : nk_newok own (x, 4, [.null, .null, .int 0, .int 0]) := ⟨_, tyX4, rfl, rfl, tyX4_ok, (show ∀ j, j < 4 → defaultValue (tyX4 j) = vp_V [.null, .null, .int 0, .int 0] j by decide +kernel), fun v hv ad => by simp only [List.mem_cons, List.not_mem_nil, or_false] at hv; rcases hv with rfl | rfl | rfl | rfl <;> rfl, h, nk_m (by decide +kernel), nk_m (by decide +kernel)⟩
set_option maxRecDepth 100000 in
theorem nw_X5 {own : String} {x : Nat} (h : Cond.classLink own x RX5 ∈ nk_gw) : nk_newok own (x, 5, [.null, .null, .null, .null, .null, .null, .null, .null, .null, .int 0, .int 0, .long 0, .long 0]) := ⟨_, tyX5, rfl, rfl, tyX5_ok, (show ∀ j, j < 13 → defaultValue (tyX5 j) = vp_V [.null, .null, .null, .null, .null, .null, .null, .null, .null, .int 0, .int 0, .long 0, .long 0] j by decide +kernel), fun v hv ad => by simp only [List.mem_cons, List.not_mem_nil, or_false] at hv; rcases hv with rfl | rfl | rfl | rfl | rfl | rfl | rfl | rfl | rfl | rfl | rfl | rfl | rfl <;> rfl, h, nk_m (by decide +kernel), nk_m (by decide +kernel)⟩
set_option maxRecDepth 100000 in
theorem nw_X6 {own : String} {x : Nat} (h : Cond.classLink own x RX6 ∈ nk_gw) : nk_newok own (x, 6, [.int 0, .null, .int 0, .long 0, .long 0, .null, .null, .null, .null, .null, .int 0, .null, .int 0, .null, .null, .int 0, .null, .null, .null, .null, .null, .null, .int 0, .int 0, .int 0, .null, .null, .null, .null, .null, .int 0, .long 0]) := ⟨_, tyX6, rfl, rfl, tyX6_ok, (show ∀ j, j < 32 → defaultValue (tyX6 j) = vp_V [.int 0, .null, .int 0, .long 0, .long 0, .null, .null, .null, .null, .null, .int 0, .null, .int 0, .null, .null, .int 0, .null, .null, .null, .null, .null, .null, .int 0, .int 0, .int 0, .null, .null, .null, .null, .null, .int 0, .long 0] j by decide +kernel), fun v hv ad => by simp only [List.mem_cons, List.not_mem_nil, or_false] at hv; rcases hv with rfl | rfl | rfl | rfl | rfl | rfl | rfl | rfl | rfl | rfl | rfl | rfl | rfl | rfl | rfl | rfl | rfl | rfl | rfl | rfl | rfl | rfl | rfl | rfl | rfl | rfl | rfl | rfl | rfl | rfl | rfl | rfl <;> rfl, h, nk_m (by decide +kernel), nk_m (by decide +kernel)⟩
