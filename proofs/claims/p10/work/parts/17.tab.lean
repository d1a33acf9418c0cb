/-! java/lang/Math.abs(J)J -/
noncomputable def kt_J9_abs_067f4 : Nat → Option nk_I := fun pc => bif Nat.ble pc 3 then ((fun pc => bif Nat.ble pc 1 then (bif Nat.ble pc 0 then (bif Nat.beq pc 0 then some (.lload_n 0, 1, 1, [], 0) else none)
  else (bif Nat.beq pc 1 then some (.lconst 0, 1, 2, [], 0) else none))
  else (bif Nat.ble pc 2 then (bif Nat.beq pc 2 then some (.lcmp, 1, 3, [], 0) else none)
  else (bif Nat.beq pc 3 then some (.ifCond .ge 8, 3, 6, [11], 0) else none))) : nk_F) pc
  else ((fun pc => bif Nat.ble pc 7 then (bif Nat.ble pc 6 then (bif Nat.beq pc 6 then some (.lload_n 0, 1, 7, [], 0) else none)
  else (bif Nat.beq pc 7 then some (.lneg, 1, 8, [], 0) else none))
  else ((fun pc => bif Nat.ble pc 8 then (bif Nat.beq pc 8 then some (.goto 4, 3, 11, [12], 0) else none)
  else (bif Nat.ble pc 11 then (bif Nat.beq pc 11 then some (.lload_n 0, 1, 12, [], 0) else none)
  else (bif Nat.beq pc 12 then some (.lreturn, 1, 13, [], 0) else none))) : nk_F) pc) : nk_F) pc
noncomputable def kc_J9_abs_067f4 : Nat → Option nk_I := nk_top 13 kt_J9_abs_067f4
noncomputable def kx_J9_abs_067f4 : nk_T := ([], [], [], [], [], [], [], 3, false, 0, 0)
noncomputable def ev_J9_abs_067f4 : nk_Ev := fun as h Q => nk_if (Nat.ble (nk_wd as) 2) (nk_ev kx_J9_abs_067f4 kc_J9_abs_067f4 2 as h Q)
set_option maxRecDepth 100000 in
theorem ck_J9_abs_067f4 : nk_chk cJ9_abs_067f4 kc_J9_abs_067f4 13 = true := nd_chk (by decide +kernel) (by decide +kernel)
set_option maxRecDepth 100000 in
set_option maxHeartbeats 4000000 in
theorem mt_J9_abs_067f4 (l : Launch) : nk_Met l yJ9_abs_067f4 cJ9_abs_067f4 2 (some .long) { frames := 0, cells := 0, slots := 0, locals := 0 } false 0 0 ev_J9_abs_067f4 :=
  nk_met nk_gok (by decide +kernel) ck_J9_abs_067f4 (nk_top_out 13 kt_J9_abs_067f4) ⟨fun _ h => absurd h List.not_mem_nil, fun _ h => absurd h List.not_mem_nil, fun _ h => absurd h List.not_mem_nil, fun _ h => absurd h List.not_mem_nil, fun _ h => absurd h List.not_mem_nil, fun _ h => absurd h List.not_mem_nil, fun _ h => absurd h List.not_mem_nil, by decide, rfl, rfl⟩ rfl (by decide)
/-! MarbleLaw.tellFraction(JJ)V -/
noncomputable def kt_X5_tellFraction : Nat → Option nk_I := fun pc => bif Nat.ble pc 23 then ((fun pc => bif Nat.ble pc 11 then ((fun pc => bif Nat.ble pc 4 then ((fun pc => bif Nat.ble pc 0 then (bif Nat.beq pc 0 then some (.lload_n 1, 1, 1, [], 0) else none)
  else (bif Nat.ble pc 1 then (bif Nat.beq pc 1 then some (.invokestatic 310, 3, 4, [], 0) else none)
  else (bif Nat.beq pc 4 then some (.lload_n 3, 1, 5, [], 0) else none))) : nk_F) pc
  else ((fun pc => bif Nat.ble pc 8 then (bif Nat.ble pc 5 then (bif Nat.beq pc 5 then some (.invokestatic 315, 3, 8, [], 0) else none)
  else (bif Nat.beq pc 8 then some (.lstore 5, 2, 10, [], 0) else none))
  else (bif Nat.ble pc 10 then (bif Nat.beq pc 10 then some (.aload_n 0, 1, 11, [], 0) else none)
  else (bif Nat.beq pc 11 then some (.lload 5, 2, 13, [], 0) else none))) : nk_F) pc) : nk_F) pc
  else ((fun pc => bif Nat.ble pc 15 then ((fun pc => bif Nat.ble pc 13 then (bif Nat.beq pc 13 then some (.lconst 0, 1, 14, [], 0) else none)
  else (bif Nat.ble pc 14 then (bif Nat.beq pc 14 then some (.lcmp, 1, 15, [], 0) else none)
  else (bif Nat.beq pc 15 then some (.ifCond .ne 7, 3, 18, [22], 0) else none))) : nk_F) pc
  else ((fun pc => bif Nat.ble pc 19 then (bif Nat.ble pc 18 then (bif Nat.beq pc 18 then some (.lconst 0, 1, 19, [], 0) else none)
  else (bif Nat.beq pc 19 then some (.goto 7, 3, 22, [26], 0) else none))
  else (bif Nat.ble pc 22 then (bif Nat.beq pc 22 then some (.lload_n 1, 1, 23, [], 0) else none)
  else (bif Nat.beq pc 23 then some (.lload 5, 2, 25, [], 0) else none))) : nk_F) pc) : nk_F) pc) : nk_F) pc
  else ((fun pc => bif Nat.ble pc 34 then ((fun pc => bif Nat.ble pc 29 then ((fun pc => bif Nat.ble pc 25 then (bif Nat.beq pc 25 then some (.ldiv, 1, 26, [], 0) else none)
  else (bif Nat.ble pc 26 then (bif Nat.beq pc 26 then some (.putfield 64, 3, 29, [], 0) else none)
  else (bif Nat.beq pc 29 then some (.aload_n 0, 1, 30, [], 0) else none))) : nk_F) pc
  else ((fun pc => bif Nat.ble pc 32 then (bif Nat.ble pc 30 then (bif Nat.beq pc 30 then some (.lload 5, 2, 32, [], 0) else none)
  else (bif Nat.beq pc 32 then some (.lconst 0, 1, 33, [], 0) else none))
  else (bif Nat.ble pc 33 then (bif Nat.beq pc 33 then some (.lcmp, 1, 34, [], 0) else none)
  else (bif Nat.beq pc 34 then some (.ifCond .ne 7, 3, 37, [41], 0) else none))) : nk_F) pc) : nk_F) pc
  else ((fun pc => bif Nat.ble pc 41 then ((fun pc => bif Nat.ble pc 37 then (bif Nat.beq pc 37 then some (.lconst 1, 1, 38, [], 0) else none)
  else (bif Nat.ble pc 38 then (bif Nat.beq pc 38 then some (.goto 7, 3, 41, [45], 0) else none)
  else (bif Nat.beq pc 41 then some (.lload_n 3, 1, 42, [], 0) else none))) : nk_F) pc
  else ((fun pc => bif Nat.ble pc 44 then (bif Nat.ble pc 42 then (bif Nat.beq pc 42 then some (.lload 5, 2, 44, [], 0) else none)
  else (bif Nat.beq pc 44 then some (.ldiv, 1, 45, [], 0) else none))
  else (bif Nat.ble pc 45 then (bif Nat.beq pc 45 then some (.putfield 68, 3, 48, [], 0) else none)
  else (bif Nat.beq pc 48 then some (.return_, 1, 49, [], 0) else none))) : nk_F) pc) : nk_F) pc) : nk_F) pc
noncomputable def kc_X5_tellFraction : Nat → Option nk_I := nk_top 49 kt_X5_tellFraction
noncomputable def kx_X5_tellFraction : nk_T := ([(64, 5, 11, 2), (68, 5, 12, 2)], [(1242, 1, 0, 0, 0, ev_J9_abs_067f4), (1262, 2, 0, 0, 0, ev_X5_divisorOf)], [], [], [], [], [], 0, false, 0, 0)
noncomputable def ev_X5_tellFraction : nk_Ev := fun as h Q => nk_if (Nat.ble (nk_wd as) 7) (nk_ev kx_X5_tellFraction kc_X5_tellFraction 7 as h Q)
set_option maxRecDepth 100000 in
theorem ck_X5_tellFraction : nk_chk cX5_tellFraction kc_X5_tellFraction 49 = true := nd_chk (by decide +kernel) (by decide +kernel)
set_option maxRecDepth 100000 in
set_option maxHeartbeats 4000000 in
theorem ca_X5_tellFraction_1242 (l : Launch) : nk_CallOk l { frames := 1, cells := 0, slots := 0, locals := 30 } RX5 cX5_tellFraction 7 false 1242 (1, 0, 0, 0, ev_J9_abs_067f4) := nk_callS (x := 310) (n := 1) (mt_J9_abs_067f4 l) (nk_msc [(2, 225), (2, 226), (2, 227), (1, 9)] (by decide +kernel)) rfl rfl (by decide +kernel) ⟨by decide, by decide⟩
set_option maxRecDepth 100000 in
set_option maxHeartbeats 4000000 in
theorem ca_X5_tellFraction_1262 (l : Launch) : nk_CallOk l { frames := 1, cells := 0, slots := 0, locals := 30 } RX5 cX5_tellFraction 7 false 1262 (2, 0, 0, 0, ev_X5_divisorOf) := nk_callS (x := 315) (n := 2) (mt_X5_divisorOf l) (nk_msc [(2, 228), (2, 153), (2, 154), (1, 1)] (by decide +kernel)) rfl rfl (by decide +kernel) ⟨by decide, by decide⟩
set_option maxRecDepth 100000 in
set_option maxHeartbeats 4000000 in
theorem mt_X5_tellFraction (l : Launch) : nk_Met l yX5_tellFraction cX5_tellFraction 7 none { frames := 1, cells := 0, slots := 0, locals := 30 } false 0 0 ev_X5_tellFraction :=
  nk_met nk_gok (plainFor_of_name (by decide)) ck_X5_tellFraction (nk_top_out 49 kt_X5_tellFraction) ⟨List.forall_mem_cons.mpr ⟨nk_fkc [(1, 162)] (by decide +kernel), List.forall_mem_cons.mpr ⟨nk_fkc [(1, 163)] (by decide +kernel), fun _ h => absurd h List.not_mem_nil⟩⟩, List.forall_mem_cons.mpr ⟨ca_X5_tellFraction_1242 l, List.forall_mem_cons.mpr ⟨ca_X5_tellFraction_1262 l, fun _ h => absurd h List.not_mem_nil⟩⟩, fun _ h => absurd h List.not_mem_nil, fun _ h => absurd h List.not_mem_nil, fun _ h => absurd h List.not_mem_nil, fun _ h => absurd h List.not_mem_nil, fun _ h => absurd h List.not_mem_nil, by decide, rfl, rfl⟩ rfl (by decide)
/-! MarbleLaw.whose(IIIII)I -/
noncomputable def kt_X5_whose : Nat → Option nk_I := fun pc => bif Nat.ble pc 33 then ((fun pc => bif Nat.ble pc 15 then ((fun pc => bif Nat.ble pc 4 then ((fun pc => bif Nat.ble pc 1 then (bif Nat.ble pc 0 then (bif Nat.beq pc 0 then some (.aload_n 0, 1, 1, [], 0) else none)
  else (bif Nat.beq pc 1 then some (.iload_n 1, 1, 2, [], 0) else none))
  else ((fun pc => bif Nat.ble pc 2 then (bif Nat.beq pc 2 then some (.iload_n 2, 1, 3, [], 0) else none)
  else (bif Nat.ble pc 3 then (bif Nat.beq pc 3 then some (.iload_n 3, 1, 4, [], 0) else none)
  else (bif Nat.beq pc 4 then some (.iload 4, 2, 6, [], 0) else none))) : nk_F) pc) : nk_F) pc
  else ((fun pc => bif Nat.ble pc 8 then (bif Nat.ble pc 6 then (bif Nat.beq pc 6 then some (.iload 5, 2, 8, [], 0) else none)
  else (bif Nat.beq pc 8 then some (.invokevirtual 194, 3, 11, [], 0) else none))
  else ((fun pc => bif Nat.ble pc 11 then (bif Nat.beq pc 11 then some (.istore 6, 2, 13, [], 0) else none)
  else (bif Nat.ble pc 13 then (bif Nat.beq pc 13 then some (.iload 6, 2, 15, [], 0) else none)
  else (bif Nat.beq pc 15 then some (.ifCond .eq 6, 3, 18, [21], 0) else none))) : nk_F) pc) : nk_F) pc) : nk_F) pc
  else ((fun pc => bif Nat.ble pc 25 then ((fun pc => bif Nat.ble pc 20 then (bif Nat.ble pc 18 then (bif Nat.beq pc 18 then some (.iload 6, 2, 20, [], 0) else none)
  else (bif Nat.beq pc 20 then some (.ireturn, 1, 21, [], 0) else none))
  else ((fun pc => bif Nat.ble pc 21 then (bif Nat.beq pc 21 then some (.aload_n 0, 1, 22, [], 0) else none)
  else (bif Nat.ble pc 22 then (bif Nat.beq pc 22 then some (.getfield 41, 3, 25, [], 0) else none)
  else (bif Nat.beq pc 25 then some (.getfield 179, 3, 28, [], 0) else none))) : nk_F) pc) : nk_F) pc
  else ((fun pc => bif Nat.ble pc 29 then (bif Nat.ble pc 28 then (bif Nat.beq pc 28 then some (.iload_n 2, 1, 29, [], 0) else none)
  else (bif Nat.beq pc 29 then some (.iaload, 1, 30, [], 0) else none))
  else ((fun pc => bif Nat.ble pc 30 then (bif Nat.beq pc 30 then some (.istore 7, 2, 32, [], 0) else none)
  else (bif Nat.ble pc 32 then (bif Nat.beq pc 32 then some (.aload_n 0, 1, 33, [], 0) else none)
  else (bif Nat.beq pc 33 then some (.aload_n 0, 1, 34, [], 0) else none))) : nk_F) pc) : nk_F) pc) : nk_F) pc) : nk_F) pc
  else ((fun pc => bif Nat.ble pc 54 then ((fun pc => bif Nat.ble pc 44 then ((fun pc => bif Nat.ble pc 37 then (bif Nat.ble pc 34 then (bif Nat.beq pc 34 then some (.getfield 41, 3, 37, [], 0) else none)
  else (bif Nat.beq pc 37 then some (.iload 7, 2, 39, [], 0) else none))
  else ((fun pc => bif Nat.ble pc 39 then (bif Nat.beq pc 39 then some (.iload 5, 2, 41, [], 0) else none)
  else (bif Nat.ble pc 41 then (bif Nat.beq pc 41 then some (.invokevirtual 198, 3, 44, [], 0) else none)
  else (bif Nat.beq pc 44 then some (.aload_n 0, 1, 45, [], 0) else none))) : nk_F) pc) : nk_F) pc
  else ((fun pc => bif Nat.ble pc 48 then (bif Nat.ble pc 45 then (bif Nat.beq pc 45 then some (.getfield 41, 3, 48, [], 0) else none)
  else (bif Nat.beq pc 48 then some (.getfield 202, 3, 51, [], 0) else none))
  else ((fun pc => bif Nat.ble pc 51 then (bif Nat.beq pc 51 then some (.iload 7, 2, 53, [], 0) else none)
  else (bif Nat.ble pc 53 then (bif Nat.beq pc 53 then some (.iaload, 1, 54, [], 0) else none)
  else (bif Nat.beq pc 54 then some (.i2l, 1, 55, [], 0) else none))) : nk_F) pc) : nk_F) pc) : nk_F) pc
  else ((fun pc => bif Nat.ble pc 63 then ((fun pc => bif Nat.ble pc 58 then (bif Nat.ble pc 55 then (bif Nat.beq pc 55 then some (.invokevirtual 205, 3, 58, [], 0) else none)
  else (bif Nat.beq pc 58 then some (.aload_n 0, 1, 59, [], 0) else none))
  else ((fun pc => bif Nat.ble pc 59 then (bif Nat.beq pc 59 then some (.getfield 41, 3, 62, [], 0) else none)
  else (bif Nat.ble pc 62 then (bif Nat.beq pc 62 then some (.iload_n 2, 1, 63, [], 0) else none)
  else (bif Nat.beq pc 63 then some (.iload 5, 2, 65, [], 0) else none))) : nk_F) pc) : nk_F) pc
  else ((fun pc => bif Nat.ble pc 71 then ((fun pc => bif Nat.ble pc 65 then (bif Nat.beq pc 65 then some (.invokevirtual 209, 3, 68, [], 0) else none)
  else (bif Nat.ble pc 68 then (bif Nat.beq pc 68 then some (.ifCond .eq 7, 3, 71, [75], 0) else none)
  else (bif Nat.beq pc 71 then some (.iconst 1, 1, 72, [], 1) else none))) : nk_F) pc
  else ((fun pc => bif Nat.ble pc 72 then (bif Nat.beq pc 72 then some (.goto 4, 3, 75, [76], 0) else none)
  else (bif Nat.ble pc 75 then (bif Nat.beq pc 75 then some (.iconst 0, 1, 76, [], 0) else none)
  else (bif Nat.beq pc 76 then some (.ireturn, 1, 77, [], 0) else none))) : nk_F) pc) : nk_F) pc) : nk_F) pc) : nk_F) pc
noncomputable def kc_X5_whose : Nat → Option nk_I := nk_top 77 kt_X5_whose
noncomputable def kx_X5_whose : nk_T := ([(41, 5, 5, 4), (179, 0, 3, 5), (202, 0, 7, 5)], [(776, 6, 6, 0, 0, ev_X5_refusalOfParts), (792, 3, 1, 0, 0, ev_X0_part), (820, 3, 6, 0, 0, ev_X5_tellFraction), (836, 3, 1, 0, 0, ev_X0_hasSome)], [], [], [], [], [], 1, false, 0, 0)
noncomputable def ev_X5_whose : nk_Ev := fun as h Q => nk_if (Nat.ble (nk_wd as) 8) (nk_ev kx_X5_whose kc_X5_whose 8 as h Q)
set_option maxRecDepth 100000 in
theorem ck_X5_whose : nk_chk cX5_whose kc_X5_whose 77 = true := nd_chk (by decide +kernel) (by decide +kernel)
set_option maxRecDepth 100000 in
set_option maxHeartbeats 4000000 in
theorem ca_X5_whose_776 (l : Launch) : nk_CallOk l { frames := 6, cells := 0, slots := 0, locals := 153 } RX5 cX5_whose 8 false 776 (6, 6, 0, 0, ev_X5_refusalOfParts) := nk_callV (x := 194) (n := 5) (ci := 5) (r := (RX5, TX5, 13)) (mt_X5_refusalOfParts l) rfl (nk_msc [(2, 216), (2, 217), (2, 218), (2, 219), (0, 18), (1, 1)] (by decide +kernel)) rfl rfl (by decide +kernel) ⟨by decide, by decide⟩
set_option maxRecDepth 100000 in
set_option maxHeartbeats 4000000 in
theorem ca_X5_whose_792 (l : Launch) : nk_CallOk l { frames := 6, cells := 0, slots := 0, locals := 153 } RX5 cX5_whose 8 false 792 (3, 1, 0, 0, ev_X0_part) := nk_callV (x := 198) (n := 2) (ci := 0) (r := (RX0, TX0, 15)) (mt_X0_part l) rfl (nk_msc [(2, 220), (2, 149), (2, 150), (2, 151), (1, 4)] (by decide +kernel)) rfl rfl (by decide +kernel) ⟨by decide, by decide⟩
set_option maxRecDepth 100000 in
set_option maxHeartbeats 4000000 in
theorem ca_X5_whose_820 (l : Launch) : nk_CallOk l { frames := 6, cells := 0, slots := 0, locals := 153 } RX5 cX5_whose 8 false 820 (3, 6, 0, 0, ev_X5_tellFraction) := nk_callV (x := 205) (n := 2) (ci := 5) (r := (RX5, TX5, 13)) (mt_X5_tellFraction l) rfl (nk_msc [(2, 221), (2, 222), (2, 223), (2, 224), (0, 19), (1, 1)] (by decide +kernel)) rfl rfl (by decide +kernel) ⟨by decide, by decide⟩
set_option maxRecDepth 100000 in
set_option maxHeartbeats 4000000 in
theorem ca_X5_whose_836 (l : Launch) : nk_CallOk l { frames := 6, cells := 0, slots := 0, locals := 153 } RX5 cX5_whose 8 false 836 (3, 1, 0, 0, ev_X0_hasSome) := nk_callV (x := 209) (n := 2) (ci := 0) (r := (RX0, TX0, 15)) (mt_X0_hasSome l) rfl (nk_msc [(2, 229), (2, 230), (2, 231), (2, 232), (1, 4)] (by decide +kernel)) rfl rfl (by decide +kernel) ⟨by decide, by decide⟩
set_option maxRecDepth 100000 in
set_option maxHeartbeats 4000000 in
theorem mt_X5_whose (l : Launch) : nk_Met l yX5_whose cX5_whose 8 (some .int) { frames := 6, cells := 0, slots := 0, locals := 153 } false 0 0 ev_X5_whose :=
  nk_met nk_gok (plainFor_of_name (by decide)) ck_X5_whose (nk_top_out 77 kt_X5_whose) ⟨List.forall_mem_cons.mpr ⟨nk_fkc [(1, 156)] (by decide +kernel), List.forall_mem_cons.mpr ⟨nk_fkc [(1, 64)] (by decide +kernel), List.forall_mem_cons.mpr ⟨nk_fkc [(1, 72)] (by decide +kernel), fun _ h => absurd h List.not_mem_nil⟩⟩⟩, List.forall_mem_cons.mpr ⟨ca_X5_whose_776 l, List.forall_mem_cons.mpr ⟨ca_X5_whose_792 l, List.forall_mem_cons.mpr ⟨ca_X5_whose_820 l, List.forall_mem_cons.mpr ⟨ca_X5_whose_836 l, fun _ h => absurd h List.not_mem_nil⟩⟩⟩⟩, fun _ h => absurd h List.not_mem_nil, fun _ h => absurd h List.not_mem_nil, fun _ h => absurd h List.not_mem_nil, fun _ h => absurd h List.not_mem_nil, fun _ h => absurd h List.not_mem_nil, by decide, rfl, rfl⟩ rfl (by decide)
/-! MarbleLaw.owners(IIII)I -/
noncomputable def kt_X5_owners : Nat → Option nk_I := fun pc => bif Nat.ble pc 26 then ((fun pc => bif Nat.ble pc 10 then ((fun pc => bif Nat.ble pc 3 then ((fun pc => bif Nat.ble pc 1 then (bif Nat.ble pc 0 then (bif Nat.beq pc 0 then some (.aload_n 0, 1, 1, [], 0) else none)
  else (bif Nat.beq pc 1 then some (.iload_n 1, 1, 2, [], 0) else none))
  else (bif Nat.ble pc 2 then (bif Nat.beq pc 2 then some (.iload_n 2, 1, 3, [], 0) else none)
  else (bif Nat.beq pc 3 then some (.iload_n 3, 1, 4, [], 0) else none))) : nk_F) pc
  else ((fun pc => bif Nat.ble pc 6 then (bif Nat.ble pc 4 then (bif Nat.beq pc 4 then some (.iload 4, 2, 6, [], 0) else none)
  else (bif Nat.beq pc 6 then some (.iconst 0, 1, 7, [], 0) else none))
  else (bif Nat.ble pc 7 then (bif Nat.beq pc 7 then some (.invokevirtual 194, 3, 10, [], 0) else none)
  else (bif Nat.beq pc 10 then some (.istore 5, 2, 12, [], 0) else none))) : nk_F) pc) : nk_F) pc
  else ((fun pc => bif Nat.ble pc 19 then ((fun pc => bif Nat.ble pc 14 then (bif Nat.ble pc 12 then (bif Nat.beq pc 12 then some (.iload 5, 2, 14, [], 0) else none)
  else (bif Nat.beq pc 14 then some (.ifCond .eq 6, 3, 17, [20], 0) else none))
  else (bif Nat.ble pc 17 then (bif Nat.beq pc 17 then some (.iload 5, 2, 19, [], 0) else none)
  else (bif Nat.beq pc 19 then some (.ireturn, 1, 20, [], 0) else none))) : nk_F) pc
  else ((fun pc => bif Nat.ble pc 21 then (bif Nat.ble pc 20 then (bif Nat.beq pc 20 then some (.iconst 0, 1, 21, [], 0) else none)
  else (bif Nat.beq pc 21 then some (.istore 6, 2, 23, [], 0) else none))
  else ((fun pc => bif Nat.ble pc 23 then (bif Nat.beq pc 23 then some (.iconst 0, 1, 24, [], 0) else none)
  else (bif Nat.ble pc 24 then (bif Nat.beq pc 24 then some (.istore 7, 2, 26, [], 0) else none)
  else (bif Nat.beq pc 26 then some (.iload 7, 2, 28, [], 0) else none))) : nk_F) pc) : nk_F) pc) : nk_F) pc) : nk_F) pc
  else ((fun pc => bif Nat.ble pc 46 then ((fun pc => bif Nat.ble pc 34 then ((fun pc => bif Nat.ble pc 30 then (bif Nat.ble pc 28 then (bif Nat.beq pc 28 then some (.bipush 6, 2, 30, [], 6) else none)
  else (bif Nat.beq pc 30 then some (.if_icmp .ge 31, 3, 33, [61], 0) else none))
  else (bif Nat.ble pc 33 then (bif Nat.beq pc 33 then some (.aload_n 0, 1, 34, [], 0) else none)
  else (bif Nat.beq pc 34 then some (.getfield 41, 3, 37, [], 0) else none))) : nk_F) pc
  else ((fun pc => bif Nat.ble pc 38 then (bif Nat.ble pc 37 then (bif Nat.beq pc 37 then some (.iload_n 2, 1, 38, [], 0) else none)
  else (bif Nat.beq pc 38 then some (.iload 7, 2, 40, [], 0) else none))
  else ((fun pc => bif Nat.ble pc 40 then (bif Nat.beq pc 40 then some (.invokevirtual 209, 3, 43, [], 0) else none)
  else (bif Nat.ble pc 43 then (bif Nat.beq pc 43 then some (.ifCond .eq 12, 3, 46, [55], 0) else none)
  else (bif Nat.beq pc 46 then some (.iload 6, 2, 48, [], 0) else none))) : nk_F) pc) : nk_F) pc) : nk_F) pc
  else ((fun pc => bif Nat.ble pc 52 then ((fun pc => bif Nat.ble pc 49 then (bif Nat.ble pc 48 then (bif Nat.beq pc 48 then some (.iconst 1, 1, 49, [], 1) else none)
  else (bif Nat.beq pc 49 then some (.iload 7, 2, 51, [], 0) else none))
  else (bif Nat.ble pc 51 then (bif Nat.beq pc 51 then some (.ishl, 1, 52, [], 0) else none)
  else (bif Nat.beq pc 52 then some (.ior, 1, 53, [], 0) else none))) : nk_F) pc
  else ((fun pc => bif Nat.ble pc 55 then (bif Nat.ble pc 53 then (bif Nat.beq pc 53 then some (.istore 6, 2, 55, [], 0) else none)
  else (bif Nat.beq pc 55 then some (.iinc 7 1, 3, 58, [], 1) else none))
  else ((fun pc => bif Nat.ble pc 58 then (bif Nat.beq pc 58 then some (.goto (-32), 3, 61, [26], 0) else none)
  else (bif Nat.ble pc 61 then (bif Nat.beq pc 61 then some (.iload 6, 2, 63, [], 0) else none)
  else (bif Nat.beq pc 63 then some (.ireturn, 1, 64, [], 0) else none))) : nk_F) pc) : nk_F) pc) : nk_F) pc) : nk_F) pc
noncomputable def kc_X5_owners : Nat → Option nk_I := nk_top 64 kt_X5_owners
noncomputable def kx_X5_owners : nk_T := ([(41, 5, 5, 4)], [(776, 6, 6, 0, 0, ev_X5_refusalOfParts), (836, 3, 1, 0, 0, ev_X0_hasSome)], [], [], [], [], [], 1, false, 0, 0)
noncomputable def ev_X5_owners : nk_Ev := fun as h Q => nk_if (Nat.ble (nk_wd as) 8) (nk_ev kx_X5_owners kc_X5_owners 8 as h Q)
set_option maxRecDepth 100000 in
theorem ck_X5_owners : nk_chk cX5_owners kc_X5_owners 64 = true := nd_chk (by decide +kernel) (by decide +kernel)
set_option maxRecDepth 100000 in
set_option maxHeartbeats 4000000 in
theorem ca_X5_owners_776 (l : Launch) : nk_CallOk l { frames := 6, cells := 0, slots := 0, locals := 153 } RX5 cX5_owners 8 false 776 (6, 6, 0, 0, ev_X5_refusalOfParts) := nk_callV (x := 194) (n := 5) (ci := 5) (r := (RX5, TX5, 13)) (mt_X5_refusalOfParts l) rfl (nk_msc [(2, 216), (2, 217), (2, 218), (2, 219), (0, 18), (1, 1)] (by decide +kernel)) rfl rfl (by decide +kernel) ⟨by decide, by decide⟩
set_option maxRecDepth 100000 in
set_option maxHeartbeats 4000000 in
theorem ca_X5_owners_836 (l : Launch) : nk_CallOk l { frames := 6, cells := 0, slots := 0, locals := 153 } RX5 cX5_owners 8 false 836 (3, 1, 0, 0, ev_X0_hasSome) := nk_callV (x := 209) (n := 2) (ci := 0) (r := (RX0, TX0, 15)) (mt_X0_hasSome l) rfl (nk_msc [(2, 229), (2, 230), (2, 231), (2, 232), (1, 4)] (by decide +kernel)) rfl rfl (by decide +kernel) ⟨by decide, by decide⟩
set_option maxRecDepth 100000 in
set_option maxHeartbeats 4000000 in
theorem mt_X5_owners (l : Launch) : nk_Met l yX5_owners cX5_owners 8 (some .int) { frames := 6, cells := 0, slots := 0, locals := 153 } false 0 0 ev_X5_owners :=
  nk_met nk_gok (plainFor_of_name (by decide)) ck_X5_owners (nk_top_out 64 kt_X5_owners) ⟨List.forall_mem_cons.mpr ⟨nk_fkc [(1, 156)] (by decide +kernel), fun _ h => absurd h List.not_mem_nil⟩, List.forall_mem_cons.mpr ⟨ca_X5_owners_776 l, List.forall_mem_cons.mpr ⟨ca_X5_owners_836 l, fun _ h => absurd h List.not_mem_nil⟩⟩, fun _ h => absurd h List.not_mem_nil, fun _ h => absurd h List.not_mem_nil, fun _ h => absurd h List.not_mem_nil, fun _ h => absurd h List.not_mem_nil, fun _ h => absurd h List.not_mem_nil, by decide, rfl, rfl⟩ rfl (by decide)
/-! MarbleLaw.changes(IIII)I -/
noncomputable def kt_X5_changes : Nat → Option nk_I := fun pc => bif Nat.ble pc 73 then ((fun pc => bif Nat.ble pc 35 then ((fun pc => bif Nat.ble pc 14 then ((fun pc => bif Nat.ble pc 4 then ((fun pc => bif Nat.ble pc 1 then (bif Nat.ble pc 0 then (bif Nat.beq pc 0 then some (.aload_n 0, 1, 1, [], 0) else none)
  else (bif Nat.beq pc 1 then some (.iload_n 1, 1, 2, [], 0) else none))
  else ((fun pc => bif Nat.ble pc 2 then (bif Nat.beq pc 2 then some (.iload_n 2, 1, 3, [], 0) else none)
  else (bif Nat.ble pc 3 then (bif Nat.beq pc 3 then some (.iconst 0, 1, 4, [], 0) else none)
  else (bif Nat.beq pc 4 then some (.iload_n 3, 1, 5, [], 0) else none))) : nk_F) pc) : nk_F) pc
  else ((fun pc => bif Nat.ble pc 7 then (bif Nat.ble pc 5 then (bif Nat.beq pc 5 then some (.iload 4, 2, 7, [], 0) else none)
  else (bif Nat.beq pc 7 then some (.invokevirtual 194, 3, 10, [], 0) else none))
  else ((fun pc => bif Nat.ble pc 10 then (bif Nat.beq pc 10 then some (.istore 5, 2, 12, [], 0) else none)
  else (bif Nat.ble pc 12 then (bif Nat.beq pc 12 then some (.iload 5, 2, 14, [], 0) else none)
  else (bif Nat.beq pc 14 then some (.ifCond .eq 6, 3, 17, [20], 0) else none))) : nk_F) pc) : nk_F) pc) : nk_F) pc
  else ((fun pc => bif Nat.ble pc 23 then ((fun pc => bif Nat.ble pc 19 then (bif Nat.ble pc 17 then (bif Nat.beq pc 17 then some (.iload 5, 2, 19, [], 0) else none)
  else (bif Nat.beq pc 19 then some (.ireturn, 1, 20, [], 0) else none))
  else ((fun pc => bif Nat.ble pc 20 then (bif Nat.beq pc 20 then some (.iconst 0, 1, 21, [], 0) else none)
  else (bif Nat.ble pc 21 then (bif Nat.beq pc 21 then some (.istore 6, 2, 23, [], 0) else none)
  else (bif Nat.beq pc 23 then some (.iload 6, 2, 25, [], 0) else none))) : nk_F) pc) : nk_F) pc
  else ((fun pc => bif Nat.ble pc 26 then (bif Nat.ble pc 25 then (bif Nat.beq pc 25 then some (.aload_n 0, 1, 26, [], 0) else none)
  else (bif Nat.beq pc 26 then some (.getfield 21, 3, 29, [], 0) else none))
  else ((fun pc => bif Nat.ble pc 29 then (bif Nat.beq pc 29 then some (.getfield 142, 3, 32, [], 0) else none)
  else (bif Nat.ble pc 32 then (bif Nat.beq pc 32 then some (.if_icmp .ge 120, 3, 35, [152], 0) else none)
  else (bif Nat.beq pc 35 then some (.aload_n 0, 1, 36, [], 0) else none))) : nk_F) pc) : nk_F) pc) : nk_F) pc) : nk_F) pc
  else ((fun pc => bif Nat.ble pc 55 then ((fun pc => bif Nat.ble pc 46 then ((fun pc => bif Nat.ble pc 39 then (bif Nat.ble pc 36 then (bif Nat.beq pc 36 then some (.getfield 41, 3, 39, [], 0) else none)
  else (bif Nat.beq pc 39 then some (.aload_n 0, 1, 40, [], 0) else none))
  else ((fun pc => bif Nat.ble pc 40 then (bif Nat.beq pc 40 then some (.getfield 41, 3, 43, [], 0) else none)
  else (bif Nat.ble pc 43 then (bif Nat.beq pc 43 then some (.getfield 179, 3, 46, [], 0) else none)
  else (bif Nat.beq pc 46 then some (.iload_n 2, 1, 47, [], 0) else none))) : nk_F) pc) : nk_F) pc
  else ((fun pc => bif Nat.ble pc 48 then (bif Nat.ble pc 47 then (bif Nat.beq pc 47 then some (.iaload, 1, 48, [], 0) else none)
  else (bif Nat.beq pc 48 then some (.iload 4, 2, 50, [], 0) else none))
  else ((fun pc => bif Nat.ble pc 50 then (bif Nat.beq pc 50 then some (.invokevirtual 198, 3, 53, [], 0) else none)
  else (bif Nat.ble pc 53 then (bif Nat.beq pc 53 then some (.lstore 7, 2, 55, [], 0) else none)
  else (bif Nat.beq pc 55 then some (.aload_n 0, 1, 56, [], 0) else none))) : nk_F) pc) : nk_F) pc) : nk_F) pc
  else ((fun pc => bif Nat.ble pc 66 then ((fun pc => bif Nat.ble pc 59 then (bif Nat.ble pc 56 then (bif Nat.beq pc 56 then some (.getfield 41, 3, 59, [], 0) else none)
  else (bif Nat.beq pc 59 then some (.getfield 202, 3, 62, [], 0) else none))
  else ((fun pc => bif Nat.ble pc 62 then (bif Nat.beq pc 62 then some (.aload_n 0, 1, 63, [], 0) else none)
  else (bif Nat.ble pc 63 then (bif Nat.beq pc 63 then some (.getfield 41, 3, 66, [], 0) else none)
  else (bif Nat.beq pc 66 then some (.getfield 179, 3, 69, [], 0) else none))) : nk_F) pc) : nk_F) pc
  else ((fun pc => bif Nat.ble pc 70 then (bif Nat.ble pc 69 then (bif Nat.beq pc 69 then some (.iload_n 2, 1, 70, [], 0) else none)
  else (bif Nat.beq pc 70 then some (.iaload, 1, 71, [], 0) else none))
  else ((fun pc => bif Nat.ble pc 71 then (bif Nat.beq pc 71 then some (.iaload, 1, 72, [], 0) else none)
  else (bif Nat.ble pc 72 then (bif Nat.beq pc 72 then some (.i2l, 1, 73, [], 0) else none)
  else (bif Nat.beq pc 73 then some (.lstore 9, 2, 75, [], 0) else none))) : nk_F) pc) : nk_F) pc) : nk_F) pc) : nk_F) pc) : nk_F) pc
  else ((fun pc => bif Nat.ble pc 112 then ((fun pc => bif Nat.ble pc 95 then ((fun pc => bif Nat.ble pc 84 then ((fun pc => bif Nat.ble pc 76 then (bif Nat.ble pc 75 then (bif Nat.beq pc 75 then some (.aload_n 0, 1, 76, [], 0) else none)
  else (bif Nat.beq pc 76 then some (.getfield 41, 3, 79, [], 0) else none))
  else ((fun pc => bif Nat.ble pc 79 then (bif Nat.beq pc 79 then some (.iload 6, 2, 81, [], 0) else none)
  else (bif Nat.ble pc 81 then (bif Nat.beq pc 81 then some (.invokevirtual 212, 3, 84, [], 0) else none)
  else (bif Nat.beq pc 84 then some (.aload_n 0, 1, 85, [], 0) else none))) : nk_F) pc) : nk_F) pc
  else ((fun pc => bif Nat.ble pc 88 then (bif Nat.ble pc 85 then (bif Nat.beq pc 85 then some (.getfield 41, 3, 88, [], 0) else none)
  else (bif Nat.beq pc 88 then some (.getfield 215, 3, 91, [], 0) else none))
  else ((fun pc => bif Nat.ble pc 91 then (bif Nat.beq pc 91 then some (.ifCond .eq 9, 3, 94, [100], 0) else none)
  else (bif Nat.ble pc 94 then (bif Nat.beq pc 94 then some (.aload_n 0, 1, 95, [], 0) else none)
  else (bif Nat.beq pc 95 then some (.iconst 5, 1, 96, [], 5) else none))) : nk_F) pc) : nk_F) pc) : nk_F) pc
  else ((fun pc => bif Nat.ble pc 104 then ((fun pc => bif Nat.ble pc 99 then (bif Nat.ble pc 96 then (bif Nat.beq pc 96 then some (.invokevirtual 92, 3, 99, [], 0) else none)
  else (bif Nat.beq pc 99 then some (.ireturn, 1, 100, [], 0) else none))
  else ((fun pc => bif Nat.ble pc 100 then (bif Nat.beq pc 100 then some (.aload_n 0, 1, 101, [], 0) else none)
  else (bif Nat.ble pc 101 then (bif Nat.beq pc 101 then some (.getfield 41, 3, 104, [], 0) else none)
  else (bif Nat.beq pc 104 then some (.getfield 179, 3, 107, [], 0) else none))) : nk_F) pc) : nk_F) pc
  else ((fun pc => bif Nat.ble pc 108 then (bif Nat.ble pc 107 then (bif Nat.beq pc 107 then some (.iload_n 2, 1, 108, [], 0) else none)
  else (bif Nat.beq pc 108 then some (.iaload, 1, 109, [], 0) else none))
  else ((fun pc => bif Nat.ble pc 109 then (bif Nat.beq pc 109 then some (.istore 11, 2, 111, [], 0) else none)
  else (bif Nat.ble pc 111 then (bif Nat.beq pc 111 then some (.aload_n 0, 1, 112, [], 0) else none)
  else (bif Nat.beq pc 112 then some (.getfield 41, 3, 115, [], 0) else none))) : nk_F) pc) : nk_F) pc) : nk_F) pc) : nk_F) pc
  else ((fun pc => bif Nat.ble pc 134 then ((fun pc => bif Nat.ble pc 124 then ((fun pc => bif Nat.ble pc 117 then (bif Nat.ble pc 115 then (bif Nat.beq pc 115 then some (.iload 11, 2, 117, [], 0) else none)
  else (bif Nat.beq pc 117 then some (.iload 4, 2, 119, [], 0) else none))
  else ((fun pc => bif Nat.ble pc 119 then (bif Nat.beq pc 119 then some (.invokevirtual 198, 3, 122, [], 0) else none)
  else (bif Nat.ble pc 122 then (bif Nat.beq pc 122 then some (.lload 9, 2, 124, [], 0) else none)
  else (bif Nat.beq pc 124 then some (.lmul, 1, 125, [], 0) else none))) : nk_F) pc) : nk_F) pc
  else ((fun pc => bif Nat.ble pc 127 then (bif Nat.ble pc 125 then (bif Nat.beq pc 125 then some (.lload 7, 2, 127, [], 0) else none)
  else (bif Nat.beq pc 127 then some (.aload_n 0, 1, 128, [], 0) else none))
  else ((fun pc => bif Nat.ble pc 128 then (bif Nat.beq pc 128 then some (.getfield 41, 3, 131, [], 0) else none)
  else (bif Nat.ble pc 131 then (bif Nat.beq pc 131 then some (.getfield 202, 3, 134, [], 0) else none)
  else (bif Nat.beq pc 134 then some (.iload 11, 2, 136, [], 0) else none))) : nk_F) pc) : nk_F) pc) : nk_F) pc
  else ((fun pc => bif Nat.ble pc 140 then ((fun pc => bif Nat.ble pc 137 then (bif Nat.ble pc 136 then (bif Nat.beq pc 136 then some (.iaload, 1, 137, [], 0) else none)
  else (bif Nat.beq pc 137 then some (.i2l, 1, 138, [], 0) else none))
  else ((fun pc => bif Nat.ble pc 138 then (bif Nat.beq pc 138 then some (.lmul, 1, 139, [], 0) else none)
  else (bif Nat.ble pc 139 then (bif Nat.beq pc 139 then some (.lcmp, 1, 140, [], 0) else none)
  else (bif Nat.beq pc 140 then some (.ifCond .eq 6, 3, 143, [146], 0) else none))) : nk_F) pc) : nk_F) pc
  else ((fun pc => bif Nat.ble pc 146 then ((fun pc => bif Nat.ble pc 143 then (bif Nat.beq pc 143 then some (.iload 6, 2, 145, [], 0) else none)
  else (bif Nat.ble pc 145 then (bif Nat.beq pc 145 then some (.ireturn, 1, 146, [], 0) else none)
  else (bif Nat.beq pc 146 then some (.iinc 6 1, 3, 149, [], 1) else none))) : nk_F) pc
  else ((fun pc => bif Nat.ble pc 149 then (bif Nat.beq pc 149 then some (.goto (-126), 3, 152, [23], 0) else none)
  else (bif Nat.ble pc 152 then (bif Nat.beq pc 152 then some (.bipush (-9), 2, 154, [], (-9)) else none)
  else (bif Nat.beq pc 154 then some (.ireturn, 1, 155, [], 0) else none))) : nk_F) pc) : nk_F) pc) : nk_F) pc) : nk_F) pc) : nk_F) pc
noncomputable def kc_X5_changes : Nat → Option nk_I := nk_top 155 kt_X5_changes
noncomputable def kx_X5_changes : nk_T := ([(21, 5, 2, 4), (142, 4, 3, 0), (41, 5, 5, 4), (179, 0, 3, 5), (202, 0, 7, 5), (215, 0, 10, 1)], [(776, 6, 6, 0, 0, ev_X5_refusalOfParts), (792, 3, 1, 0, 0, ev_X0_part), (848, 2, 1, 0, 0, ev_X0_step), (368, 2, 6, 0, 0, ev_X5_found)], [], [], [], [], [], 1, false, 0, 0)
noncomputable def ev_X5_changes : nk_Ev := fun as h Q => nk_if (Nat.ble (nk_wd as) 12) (nk_ev kx_X5_changes kc_X5_changes 12 as h Q)
set_option maxRecDepth 100000 in
theorem ck_X5_changes : nk_chk cX5_changes kc_X5_changes 155 = true := nd_chk (by decide +kernel) (by decide +kernel)
set_option maxRecDepth 100000 in
set_option maxHeartbeats 4000000 in
theorem ca_X5_changes_776 (l : Launch) : nk_CallOk l { frames := 6, cells := 0, slots := 0, locals := 153 } RX5 cX5_changes 12 false 776 (6, 6, 0, 0, ev_X5_refusalOfParts) := nk_callV (x := 194) (n := 5) (ci := 5) (r := (RX5, TX5, 13)) (mt_X5_refusalOfParts l) rfl (nk_msc [(2, 216), (2, 217), (2, 218), (2, 219), (0, 18), (1, 1)] (by decide +kernel)) rfl rfl (by decide +kernel) ⟨by decide, by decide⟩
set_option maxRecDepth 100000 in
set_option maxHeartbeats 4000000 in
theorem ca_X5_changes_792 (l : Launch) : nk_CallOk l { frames := 6, cells := 0, slots := 0, locals := 153 } RX5 cX5_changes 12 false 792 (3, 1, 0, 0, ev_X0_part) := nk_callV (x := 198) (n := 2) (ci := 0) (r := (RX0, TX0, 15)) (mt_X0_part l) rfl (nk_msc [(2, 220), (2, 149), (2, 150), (2, 151), (1, 4)] (by decide +kernel)) rfl rfl (by decide +kernel) ⟨by decide, by decide⟩
set_option maxRecDepth 100000 in
set_option maxHeartbeats 4000000 in
theorem ca_X5_changes_848 (l : Launch) : nk_CallOk l { frames := 6, cells := 0, slots := 0, locals := 153 } RX5 cX5_changes 12 false 848 (2, 1, 0, 0, ev_X0_step) := nk_callV (x := 212) (n := 1) (ci := 0) (r := (RX0, TX0, 15)) (mt_X0_step l) rfl (nk_msc [(3, 1), (2, 107), (2, 108), (2, 109), (1, 4)] (by decide +kernel)) rfl rfl (by decide +kernel) ⟨by decide, by decide⟩
set_option maxRecDepth 100000 in
set_option maxHeartbeats 4000000 in
theorem ca_X5_changes_368 (l : Launch) : nk_CallOk l { frames := 6, cells := 0, slots := 0, locals := 153 } RX5 cX5_changes 12 false 368 (2, 6, 0, 0, ev_X5_found) := nk_callV (x := 92) (n := 1) (ci := 5) (r := (RX5, TX5, 13)) (mt_X5_found l) rfl (nk_msc [(1, 202), (1, 203), (1, 204), (1, 205), (0, 1), (1, 1)] (by decide +kernel)) rfl rfl (by decide +kernel) ⟨by decide, by decide⟩
set_option maxRecDepth 100000 in
set_option maxHeartbeats 4000000 in
theorem mt_X5_changes (l : Launch) : nk_Met l yX5_changes cX5_changes 12 (some .int) { frames := 6, cells := 0, slots := 0, locals := 153 } false 0 0 ev_X5_changes :=
  nk_met nk_gok (plainFor_of_name (by decide)) ck_X5_changes (nk_top_out 155 kt_X5_changes) ⟨List.forall_mem_cons.mpr ⟨nk_fkc [(1, 153)] (by decide +kernel), List.forall_mem_cons.mpr ⟨nk_fkc [(1, 33)] (by decide +kernel), List.forall_mem_cons.mpr ⟨nk_fkc [(1, 156)] (by decide +kernel), List.forall_mem_cons.mpr ⟨nk_fkc [(1, 64)] (by decide +kernel), List.forall_mem_cons.mpr ⟨nk_fkc [(1, 72)] (by decide +kernel), List.forall_mem_cons.mpr ⟨nk_fkc [(1, 76)] (by decide +kernel), fun _ h => absurd h List.not_mem_nil⟩⟩⟩⟩⟩⟩, List.forall_mem_cons.mpr ⟨ca_X5_changes_776 l, List.forall_mem_cons.mpr ⟨ca_X5_changes_792 l, List.forall_mem_cons.mpr ⟨ca_X5_changes_848 l, List.forall_mem_cons.mpr ⟨ca_X5_changes_368 l, fun _ h => absurd h List.not_mem_nil⟩⟩⟩⟩, fun _ h => absurd h List.not_mem_nil, fun _ h => absurd h List.not_mem_nil, fun _ h => absurd h List.not_mem_nil, fun _ h => absurd h List.not_mem_nil, fun _ h => absurd h List.not_mem_nil, by decide, rfl, rfl⟩ rfl (by decide)
/-! MarbleLaw.lost(IIII)I -/
noncomputable def kt_X5_lost : Nat → Option nk_I := fun pc => bif Nat.ble pc 151 then ((fun pc => bif Nat.ble pc 72 then ((fun pc => bif Nat.ble pc 30 then ((fun pc => bif Nat.ble pc 12 then ((fun pc => bif Nat.ble pc 5 then ((fun pc => bif Nat.ble pc 1 then (bif Nat.ble pc 0 then (bif Nat.beq pc 0 then some (.aload_n 0, 1, 1, [], 0) else none)
  else (bif Nat.beq pc 1 then some (.iload_n 2, 1, 2, [], 0) else none))
  else (bif Nat.ble pc 2 then (bif Nat.beq pc 2 then some (.invokevirtual 149, 3, 5, [], 0) else none)
  else (bif Nat.beq pc 5 then some (.ifCond .ne 5, 3, 8, [10], 0) else none))) : nk_F) pc
  else ((fun pc => bif Nat.ble pc 9 then (bif Nat.ble pc 8 then (bif Nat.beq pc 8 then some (.iconst (-1), 1, 9, [], (-1)) else none)
  else (bif Nat.beq pc 9 then some (.ireturn, 1, 10, [], 0) else none))
  else ((fun pc => bif Nat.ble pc 10 then (bif Nat.beq pc 10 then some (.aload_n 0, 1, 11, [], 0) else none)
  else (bif Nat.ble pc 11 then (bif Nat.beq pc 11 then some (.iload_n 1, 1, 12, [], 0) else none)
  else (bif Nat.beq pc 12 then some (.aload_n 0, 1, 13, [], 0) else none))) : nk_F) pc) : nk_F) pc) : nk_F) pc
  else ((fun pc => bif Nat.ble pc 21 then ((fun pc => bif Nat.ble pc 16 then (bif Nat.ble pc 13 then (bif Nat.beq pc 13 then some (.getfield 21, 3, 16, [], 0) else none)
  else (bif Nat.beq pc 16 then some (.iload_n 2, 1, 17, [], 0) else none))
  else ((fun pc => bif Nat.ble pc 17 then (bif Nat.beq pc 17 then some (.iconst 1, 1, 18, [], 1) else none)
  else (bif Nat.ble pc 18 then (bif Nat.beq pc 18 then some (.invokevirtual 152, 3, 21, [], 0) else none)
  else (bif Nat.beq pc 21 then some (.iload_n 2, 1, 22, [], 0) else none))) : nk_F) pc) : nk_F) pc
  else ((fun pc => bif Nat.ble pc 23 then (bif Nat.ble pc 22 then (bif Nat.beq pc 22 then some (.iload_n 3, 1, 23, [], 0) else none)
  else (bif Nat.beq pc 23 then some (.iload 4, 2, 25, [], 0) else none))
  else ((fun pc => bif Nat.ble pc 25 then (bif Nat.beq pc 25 then some (.invokevirtual 194, 3, 28, [], 0) else none)
  else (bif Nat.ble pc 28 then (bif Nat.beq pc 28 then some (.istore 5, 2, 30, [], 0) else none)
  else (bif Nat.beq pc 30 then some (.iload 5, 2, 32, [], 0) else none))) : nk_F) pc) : nk_F) pc) : nk_F) pc) : nk_F) pc
  else ((fun pc => bif Nat.ble pc 50 then ((fun pc => bif Nat.ble pc 39 then ((fun pc => bif Nat.ble pc 35 then (bif Nat.ble pc 32 then (bif Nat.beq pc 32 then some (.ifCond .eq 6, 3, 35, [38], 0) else none)
  else (bif Nat.beq pc 35 then some (.iload 5, 2, 37, [], 0) else none))
  else ((fun pc => bif Nat.ble pc 37 then (bif Nat.beq pc 37 then some (.ireturn, 1, 38, [], 0) else none)
  else (bif Nat.ble pc 38 then (bif Nat.beq pc 38 then some (.aload_n 0, 1, 39, [], 0) else none)
  else (bif Nat.beq pc 39 then some (.getfield 41, 3, 42, [], 0) else none))) : nk_F) pc) : nk_F) pc
  else ((fun pc => bif Nat.ble pc 43 then (bif Nat.ble pc 42 then (bif Nat.beq pc 42 then some (.iload_n 2, 1, 43, [], 0) else none)
  else (bif Nat.beq pc 43 then some (.invokevirtual 162, 3, 46, [], 0) else none))
  else ((fun pc => bif Nat.ble pc 46 then (bif Nat.beq pc 46 then some (.aload_n 0, 1, 47, [], 0) else none)
  else (bif Nat.ble pc 47 then (bif Nat.beq pc 47 then some (.getfield 41, 3, 50, [], 0) else none)
  else (bif Nat.beq pc 50 then some (.getfield 219, 3, 53, [], 0) else none))) : nk_F) pc) : nk_F) pc) : nk_F) pc
  else ((fun pc => bif Nat.ble pc 62 then ((fun pc => bif Nat.ble pc 55 then (bif Nat.ble pc 53 then (bif Nat.beq pc 53 then some (.istore 6, 2, 55, [], 0) else none)
  else (bif Nat.beq pc 55 then some (.aload_n 0, 1, 56, [], 0) else none))
  else ((fun pc => bif Nat.ble pc 56 then (bif Nat.beq pc 56 then some (.getfield 41, 3, 59, [], 0) else none)
  else (bif Nat.ble pc 59 then (bif Nat.beq pc 59 then some (.getfield 222, 3, 62, [], 0) else none)
  else (bif Nat.beq pc 62 then some (.i2l, 1, 63, [], 0) else none))) : nk_F) pc) : nk_F) pc
  else ((fun pc => bif Nat.ble pc 65 then (bif Nat.ble pc 63 then (bif Nat.beq pc 63 then some (.lstore 7, 2, 65, [], 0) else none)
  else (bif Nat.beq pc 65 then some (.aload_n 0, 1, 66, [], 0) else none))
  else ((fun pc => bif Nat.ble pc 66 then (bif Nat.beq pc 66 then some (.getfield 41, 3, 69, [], 0) else none)
  else (bif Nat.ble pc 69 then (bif Nat.beq pc 69 then some (.getfield 225, 3, 72, [], 0) else none)
  else (bif Nat.beq pc 72 then some (.i2l, 1, 73, [], 0) else none))) : nk_F) pc) : nk_F) pc) : nk_F) pc) : nk_F) pc) : nk_F) pc
  else ((fun pc => bif Nat.ble pc 112 then ((fun pc => bif Nat.ble pc 88 then ((fun pc => bif Nat.ble pc 79 then ((fun pc => bif Nat.ble pc 75 then (bif Nat.ble pc 73 then (bif Nat.beq pc 73 then some (.lstore 9, 2, 75, [], 0) else none)
  else (bif Nat.beq pc 75 then some (.aload_n 0, 1, 76, [], 0) else none))
  else (bif Nat.ble pc 76 then (bif Nat.beq pc 76 then some (.getfield 41, 3, 79, [], 0) else none)
  else (bif Nat.beq pc 79 then some (.getfield 202, 3, 82, [], 0) else none))) : nk_F) pc
  else ((fun pc => bif Nat.ble pc 84 then (bif Nat.ble pc 82 then (bif Nat.beq pc 82 then some (.iload 6, 2, 84, [], 0) else none)
  else (bif Nat.beq pc 84 then some (.iaload, 1, 85, [], 0) else none))
  else ((fun pc => bif Nat.ble pc 85 then (bif Nat.beq pc 85 then some (.i2l, 1, 86, [], 0) else none)
  else (bif Nat.ble pc 86 then (bif Nat.beq pc 86 then some (.lstore 11, 2, 88, [], 0) else none)
  else (bif Nat.beq pc 88 then some (.aload_n 0, 1, 89, [], 0) else none))) : nk_F) pc) : nk_F) pc) : nk_F) pc
  else ((fun pc => bif Nat.ble pc 99 then ((fun pc => bif Nat.ble pc 92 then (bif Nat.ble pc 89 then (bif Nat.beq pc 89 then some (.getfield 41, 3, 92, [], 0) else none)
  else (bif Nat.beq pc 92 then some (.invokevirtual 165, 3, 95, [], 0) else none))
  else ((fun pc => bif Nat.ble pc 95 then (bif Nat.beq pc 95 then some (.ifCond .eq 22, 3, 98, [117], 0) else none)
  else (bif Nat.ble pc 98 then (bif Nat.beq pc 98 then some (.aload_n 0, 1, 99, [], 0) else none)
  else (bif Nat.beq pc 99 then some (.getfield 41, 3, 102, [], 0) else none))) : nk_F) pc) : nk_F) pc
  else ((fun pc => bif Nat.ble pc 105 then (bif Nat.ble pc 102 then (bif Nat.beq pc 102 then some (.getfield 202, 3, 105, [], 0) else none)
  else (bif Nat.beq pc 105 then some (.aload_n 0, 1, 106, [], 0) else none))
  else ((fun pc => bif Nat.ble pc 106 then (bif Nat.beq pc 106 then some (.getfield 41, 3, 109, [], 0) else none)
  else (bif Nat.ble pc 109 then (bif Nat.beq pc 109 then some (.getfield 228, 3, 112, [], 0) else none)
  else (bif Nat.beq pc 112 then some (.iaload, 1, 113, [], 0) else none))) : nk_F) pc) : nk_F) pc) : nk_F) pc) : nk_F) pc
  else ((fun pc => bif Nat.ble pc 130 then ((fun pc => bif Nat.ble pc 120 then ((fun pc => bif Nat.ble pc 114 then (bif Nat.ble pc 113 then (bif Nat.beq pc 113 then some (.i2l, 1, 114, [], 0) else none)
  else (bif Nat.beq pc 114 then some (.goto 4, 3, 117, [118], 0) else none))
  else ((fun pc => bif Nat.ble pc 117 then (bif Nat.beq pc 117 then some (.lconst 1, 1, 118, [], 0) else none)
  else (bif Nat.ble pc 118 then (bif Nat.beq pc 118 then some (.lstore 13, 2, 120, [], 0) else none)
  else (bif Nat.beq pc 120 then some (.lload 7, 2, 122, [], 0) else none))) : nk_F) pc) : nk_F) pc
  else ((fun pc => bif Nat.ble pc 123 then (bif Nat.ble pc 122 then (bif Nat.beq pc 122 then some (.aload_n 0, 1, 123, [], 0) else none)
  else (bif Nat.beq pc 123 then some (.getfield 41, 3, 126, [], 0) else none))
  else ((fun pc => bif Nat.ble pc 126 then (bif Nat.beq pc 126 then some (.iload 6, 2, 128, [], 0) else none)
  else (bif Nat.ble pc 128 then (bif Nat.beq pc 128 then some (.iload 4, 2, 130, [], 0) else none)
  else (bif Nat.beq pc 130 then some (.invokevirtual 198, 3, 133, [], 0) else none))) : nk_F) pc) : nk_F) pc) : nk_F) pc
  else ((fun pc => bif Nat.ble pc 139 then ((fun pc => bif Nat.ble pc 134 then (bif Nat.ble pc 133 then (bif Nat.beq pc 133 then some (.lmul, 1, 134, [], 0) else none)
  else (bif Nat.beq pc 134 then some (.lload 13, 2, 136, [], 0) else none))
  else ((fun pc => bif Nat.ble pc 136 then (bif Nat.beq pc 136 then some (.lmul, 1, 137, [], 0) else none)
  else (bif Nat.ble pc 137 then (bif Nat.beq pc 137 then some (.lstore 15, 2, 139, [], 0) else none)
  else (bif Nat.beq pc 139 then some (.aload_n 0, 1, 140, [], 0) else none))) : nk_F) pc) : nk_F) pc
  else ((fun pc => bif Nat.ble pc 143 then (bif Nat.ble pc 140 then (bif Nat.beq pc 140 then some (.getfield 41, 3, 143, [], 0) else none)
  else (bif Nat.beq pc 143 then some (.invokevirtual 165, 3, 146, [], 0) else none))
  else ((fun pc => bif Nat.ble pc 146 then (bif Nat.beq pc 146 then some (.ifCond .eq 28, 3, 149, [174], 0) else none)
  else (bif Nat.ble pc 149 then (bif Nat.beq pc 149 then some (.lload 9, 2, 151, [], 0) else none)
  else (bif Nat.beq pc 151 then some (.aload_n 0, 1, 152, [], 0) else none))) : nk_F) pc) : nk_F) pc) : nk_F) pc) : nk_F) pc) : nk_F) pc) : nk_F) pc
  else ((fun pc => bif Nat.ble pc 227 then ((fun pc => bif Nat.ble pc 189 then ((fun pc => bif Nat.ble pc 170 then ((fun pc => bif Nat.ble pc 159 then ((fun pc => bif Nat.ble pc 155 then (bif Nat.ble pc 152 then (bif Nat.beq pc 152 then some (.getfield 41, 3, 155, [], 0) else none)
  else (bif Nat.beq pc 155 then some (.aload_n 0, 1, 156, [], 0) else none))
  else (bif Nat.ble pc 156 then (bif Nat.beq pc 156 then some (.getfield 41, 3, 159, [], 0) else none)
  else (bif Nat.beq pc 159 then some (.getfield 228, 3, 162, [], 0) else none))) : nk_F) pc
  else ((fun pc => bif Nat.ble pc 164 then (bif Nat.ble pc 162 then (bif Nat.beq pc 162 then some (.iload 4, 2, 164, [], 0) else none)
  else (bif Nat.beq pc 164 then some (.invokevirtual 198, 3, 167, [], 0) else none))
  else ((fun pc => bif Nat.ble pc 167 then (bif Nat.beq pc 167 then some (.lmul, 1, 168, [], 0) else none)
  else (bif Nat.ble pc 168 then (bif Nat.beq pc 168 then some (.lload 11, 2, 170, [], 0) else none)
  else (bif Nat.beq pc 170 then some (.lmul, 1, 171, [], 0) else none))) : nk_F) pc) : nk_F) pc) : nk_F) pc
  else ((fun pc => bif Nat.ble pc 178 then ((fun pc => bif Nat.ble pc 174 then (bif Nat.ble pc 171 then (bif Nat.beq pc 171 then some (.goto 4, 3, 174, [175], 0) else none)
  else (bif Nat.beq pc 174 then some (.lconst 0, 1, 175, [], 0) else none))
  else ((fun pc => bif Nat.ble pc 175 then (bif Nat.beq pc 175 then some (.lstore 17, 2, 177, [], 0) else none)
  else (bif Nat.ble pc 177 then (bif Nat.beq pc 177 then some (.aload_n 0, 1, 178, [], 0) else none)
  else (bif Nat.beq pc 178 then some (.getfield 41, 3, 181, [], 0) else none))) : nk_F) pc) : nk_F) pc
  else ((fun pc => bif Nat.ble pc 182 then (bif Nat.ble pc 181 then (bif Nat.beq pc 181 then some (.iload_n 2, 1, 182, [], 0) else none)
  else (bif Nat.beq pc 182 then some (.invokevirtual 212, 3, 185, [], 0) else none))
  else ((fun pc => bif Nat.ble pc 185 then (bif Nat.beq pc 185 then some (.aload_n 0, 1, 186, [], 0) else none)
  else (bif Nat.ble pc 186 then (bif Nat.beq pc 186 then some (.getfield 41, 3, 189, [], 0) else none)
  else (bif Nat.beq pc 189 then some (.getfield 215, 3, 192, [], 0) else none))) : nk_F) pc) : nk_F) pc) : nk_F) pc) : nk_F) pc
  else ((fun pc => bif Nat.ble pc 208 then ((fun pc => bif Nat.ble pc 200 then ((fun pc => bif Nat.ble pc 195 then (bif Nat.ble pc 192 then (bif Nat.beq pc 192 then some (.ifCond .eq 9, 3, 195, [201], 0) else none)
  else (bif Nat.beq pc 195 then some (.aload_n 0, 1, 196, [], 0) else none))
  else ((fun pc => bif Nat.ble pc 196 then (bif Nat.beq pc 196 then some (.iconst 5, 1, 197, [], 5) else none)
  else (bif Nat.ble pc 197 then (bif Nat.beq pc 197 then some (.invokevirtual 92, 3, 200, [], 0) else none)
  else (bif Nat.beq pc 200 then some (.ireturn, 1, 201, [], 0) else none))) : nk_F) pc) : nk_F) pc
  else ((fun pc => bif Nat.ble pc 203 then (bif Nat.ble pc 201 then (bif Nat.beq pc 201 then some (.lload 11, 2, 203, [], 0) else none)
  else (bif Nat.beq pc 203 then some (.lload 13, 2, 205, [], 0) else none))
  else ((fun pc => bif Nat.ble pc 205 then (bif Nat.beq pc 205 then some (.lmul, 1, 206, [], 0) else none)
  else (bif Nat.ble pc 206 then (bif Nat.beq pc 206 then some (.lstore 19, 2, 208, [], 0) else none)
  else (bif Nat.beq pc 208 then some (.lload 7, 2, 210, [], 0) else none))) : nk_F) pc) : nk_F) pc) : nk_F) pc
  else ((fun pc => bif Nat.ble pc 217 then ((fun pc => bif Nat.ble pc 212 then (bif Nat.ble pc 210 then (bif Nat.beq pc 210 then some (.lload 9, 2, 212, [], 0) else none)
  else (bif Nat.beq pc 212 then some (.ladd, 1, 213, [], 0) else none))
  else ((fun pc => bif Nat.ble pc 213 then (bif Nat.beq pc 213 then some (.aload_n 0, 1, 214, [], 0) else none)
  else (bif Nat.ble pc 214 then (bif Nat.beq pc 214 then some (.getfield 41, 3, 217, [], 0) else none)
  else (bif Nat.beq pc 217 then some (.iload 6, 2, 219, [], 0) else none))) : nk_F) pc) : nk_F) pc
  else ((fun pc => bif Nat.ble pc 221 then (bif Nat.ble pc 219 then (bif Nat.beq pc 219 then some (.iload 4, 2, 221, [], 0) else none)
  else (bif Nat.beq pc 221 then some (.invokevirtual 198, 3, 224, [], 0) else none))
  else ((fun pc => bif Nat.ble pc 224 then (bif Nat.beq pc 224 then some (.lmul, 1, 225, [], 0) else none)
  else (bif Nat.ble pc 225 then (bif Nat.beq pc 225 then some (.lload 19, 2, 227, [], 0) else none)
  else (bif Nat.beq pc 227 then some (.lmul, 1, 228, [], 0) else none))) : nk_F) pc) : nk_F) pc) : nk_F) pc) : nk_F) pc) : nk_F) pc
  else ((fun pc => bif Nat.ble pc 260 then ((fun pc => bif Nat.ble pc 243 then ((fun pc => bif Nat.ble pc 233 then ((fun pc => bif Nat.ble pc 230 then (bif Nat.ble pc 228 then (bif Nat.beq pc 228 then some (.lstore 21, 2, 230, [], 0) else none)
  else (bif Nat.beq pc 230 then some (.aload_n 0, 1, 231, [], 0) else none))
  else (bif Nat.ble pc 231 then (bif Nat.beq pc 231 then some (.lload 15, 2, 233, [], 0) else none)
  else (bif Nat.beq pc 233 then some (.lload 17, 2, 235, [], 0) else none))) : nk_F) pc
  else ((fun pc => bif Nat.ble pc 236 then (bif Nat.ble pc 235 then (bif Nat.beq pc 235 then some (.ladd, 1, 236, [], 0) else none)
  else (bif Nat.beq pc 236 then some (.aload_n 0, 1, 237, [], 0) else none))
  else ((fun pc => bif Nat.ble pc 237 then (bif Nat.beq pc 237 then some (.getfield 41, 3, 240, [], 0) else none)
  else (bif Nat.ble pc 240 then (bif Nat.beq pc 240 then some (.getfield 202, 3, 243, [], 0) else none)
  else (bif Nat.beq pc 243 then some (.iload 6, 2, 245, [], 0) else none))) : nk_F) pc) : nk_F) pc) : nk_F) pc
  else ((fun pc => bif Nat.ble pc 250 then ((fun pc => bif Nat.ble pc 246 then (bif Nat.ble pc 245 then (bif Nat.beq pc 245 then some (.iaload, 1, 246, [], 0) else none)
  else (bif Nat.beq pc 246 then some (.i2l, 1, 247, [], 0) else none))
  else ((fun pc => bif Nat.ble pc 247 then (bif Nat.beq pc 247 then some (.lmul, 1, 248, [], 0) else none)
  else (bif Nat.ble pc 248 then (bif Nat.beq pc 248 then some (.lload 21, 2, 250, [], 0) else none)
  else (bif Nat.beq pc 250 then some (.lsub, 1, 251, [], 0) else none))) : nk_F) pc) : nk_F) pc
  else ((fun pc => bif Nat.ble pc 253 then (bif Nat.ble pc 251 then (bif Nat.beq pc 251 then some (.lload 19, 2, 253, [], 0) else none)
  else (bif Nat.beq pc 253 then some (.aload_n 0, 1, 254, [], 0) else none))
  else ((fun pc => bif Nat.ble pc 254 then (bif Nat.beq pc 254 then some (.getfield 41, 3, 257, [], 0) else none)
  else (bif Nat.ble pc 257 then (bif Nat.beq pc 257 then some (.getfield 202, 3, 260, [], 0) else none)
  else (bif Nat.beq pc 260 then some (.iload 6, 2, 262, [], 0) else none))) : nk_F) pc) : nk_F) pc) : nk_F) pc) : nk_F) pc
  else ((fun pc => bif Nat.ble pc 277 then ((fun pc => bif Nat.ble pc 268 then ((fun pc => bif Nat.ble pc 263 then (bif Nat.ble pc 262 then (bif Nat.beq pc 262 then some (.iaload, 1, 263, [], 0) else none)
  else (bif Nat.beq pc 263 then some (.i2l, 1, 264, [], 0) else none))
  else ((fun pc => bif Nat.ble pc 264 then (bif Nat.beq pc 264 then some (.lmul, 1, 265, [], 0) else none)
  else (bif Nat.ble pc 265 then (bif Nat.beq pc 265 then some (.invokevirtual 205, 3, 268, [], 0) else none)
  else (bif Nat.beq pc 268 then some (.aload_n 0, 1, 269, [], 0) else none))) : nk_F) pc) : nk_F) pc
  else ((fun pc => bif Nat.ble pc 272 then (bif Nat.ble pc 269 then (bif Nat.beq pc 269 then some (.getfield 64, 3, 272, [], 0) else none)
  else (bif Nat.beq pc 272 then some (.lconst 0, 1, 273, [], 0) else none))
  else ((fun pc => bif Nat.ble pc 273 then (bif Nat.beq pc 273 then some (.lcmp, 1, 274, [], 0) else none)
  else (bif Nat.ble pc 274 then (bif Nat.beq pc 274 then some (.ifCond .ne 5, 3, 277, [279], 0) else none)
  else (bif Nat.beq pc 277 then some (.iconst 0, 1, 278, [], 0) else none))) : nk_F) pc) : nk_F) pc) : nk_F) pc
  else ((fun pc => bif Nat.ble pc 284 then ((fun pc => bif Nat.ble pc 279 then (bif Nat.ble pc 278 then (bif Nat.beq pc 278 then some (.ireturn, 1, 279, [], 0) else none)
  else (bif Nat.beq pc 279 then some (.aload_n 0, 1, 280, [], 0) else none))
  else ((fun pc => bif Nat.ble pc 280 then (bif Nat.beq pc 280 then some (.getfield 64, 3, 283, [], 0) else none)
  else (bif Nat.ble pc 283 then (bif Nat.beq pc 283 then some (.lconst 0, 1, 284, [], 0) else none)
  else (bif Nat.beq pc 284 then some (.lcmp, 1, 285, [], 0) else none))) : nk_F) pc) : nk_F) pc
  else ((fun pc => bif Nat.ble pc 288 then (bif Nat.ble pc 285 then (bif Nat.beq pc 285 then some (.ifCond .le 7, 3, 288, [292], 0) else none)
  else (bif Nat.beq pc 288 then some (.iconst 1, 1, 289, [], 1) else none))
  else ((fun pc => bif Nat.ble pc 289 then (bif Nat.beq pc 289 then some (.goto 4, 3, 292, [293], 0) else none)
  else (bif Nat.ble pc 292 then (bif Nat.beq pc 292 then some (.iconst 2, 1, 293, [], 2) else none)
  else (bif Nat.beq pc 293 then some (.ireturn, 1, 294, [], 0) else none))) : nk_F) pc) : nk_F) pc) : nk_F) pc) : nk_F) pc) : nk_F) pc) : nk_F) pc
noncomputable def kc_X5_lost : Nat → Option nk_I := nk_top 294 kt_X5_lost
noncomputable def kx_X5_lost : nk_T := ([(21, 5, 2, 4), (41, 5, 5, 4), (219, 0, 11, 0), (222, 0, 13, 0), (225, 0, 14, 0), (202, 0, 7, 5), (228, 0, 12, 0), (215, 0, 10, 1), (64, 5, 11, 2)], [(596, 2, 6, 0, 0, ev_X5_isMaking), (608, 3, 5, 0, 0, ev_X4_ofMaking), (776, 6, 6, 0, 0, ev_X5_refusalOfParts), (648, 2, 1, 0, 0, ev_X0_meet), (660, 1, 1, 0, 0, ev_X0_someCame), (792, 3, 1, 0, 0, ev_X0_part), (848, 2, 1, 0, 0, ev_X0_step), (368, 2, 6, 0, 0, ev_X5_found), (820, 3, 6, 0, 0, ev_X5_tellFraction)], [], [], [], [], [], 1, false, 0, 0)
noncomputable def ev_X5_lost : nk_Ev := fun as h Q => nk_if (Nat.ble (nk_wd as) 23) (nk_ev kx_X5_lost kc_X5_lost 23 as h Q)
set_option maxRecDepth 100000 in
theorem ck_X5_lost : nk_chk cX5_lost kc_X5_lost 294 = true := nd_chk (by decide +kernel) (by decide +kernel)
set_option maxRecDepth 100000 in
set_option maxHeartbeats 4000000 in
theorem ca_X5_lost_596 (l : Launch) : nk_CallOk l { frames := 6, cells := 0, slots := 0, locals := 153 } RX5 cX5_lost 23 false 596 (2, 6, 0, 0, ev_X5_isMaking) := nk_callV (x := 149) (n := 1) (ci := 5) (r := (RX5, TX5, 13)) (mt_X5_isMaking l) rfl (nk_msc [(2, 74), (2, 75), (2, 76), (2, 77), (0, 5), (1, 1)] (by decide +kernel)) rfl rfl (by decide +kernel) ⟨by decide, by decide⟩
set_option maxRecDepth 100000 in
set_option maxHeartbeats 4000000 in
theorem ca_X5_lost_608 (l : Launch) : nk_CallOk l { frames := 6, cells := 0, slots := 0, locals := 153 } RX5 cX5_lost 23 false 608 (3, 5, 0, 0, ev_X4_ofMaking) := nk_callV (x := 152) (n := 2) (ci := 4) (r := (RX4, TX4, 4)) (mt_X4_ofMaking l) rfl (nk_msc [(2, 78), (2, 79), (2, 80), (2, 81), (1, 2)] (by decide +kernel)) rfl rfl (by decide +kernel) ⟨by decide, by decide⟩
set_option maxRecDepth 100000 in
set_option maxHeartbeats 4000000 in
theorem ca_X5_lost_776 (l : Launch) : nk_CallOk l { frames := 6, cells := 0, slots := 0, locals := 153 } RX5 cX5_lost 23 false 776 (6, 6, 0, 0, ev_X5_refusalOfParts) := nk_callV (x := 194) (n := 5) (ci := 5) (r := (RX5, TX5, 13)) (mt_X5_refusalOfParts l) rfl (nk_msc [(2, 216), (2, 217), (2, 218), (2, 219), (0, 18), (1, 1)] (by decide +kernel)) rfl rfl (by decide +kernel) ⟨by decide, by decide⟩
set_option maxRecDepth 100000 in
set_option maxHeartbeats 4000000 in
theorem ca_X5_lost_648 (l : Launch) : nk_CallOk l { frames := 6, cells := 0, slots := 0, locals := 153 } RX5 cX5_lost 23 false 648 (2, 1, 0, 0, ev_X0_meet) := nk_callV (x := 162) (n := 1) (ci := 0) (r := (RX0, TX0, 15)) (mt_X0_meet l) rfl (nk_msc [(2, 164), (2, 111), (2, 112), (2, 113), (1, 4)] (by decide +kernel)) rfl rfl (by decide +kernel) ⟨by decide, by decide⟩
set_option maxRecDepth 100000 in
set_option maxHeartbeats 4000000 in
theorem ca_X5_lost_660 (l : Launch) : nk_CallOk l { frames := 6, cells := 0, slots := 0, locals := 153 } RX5 cX5_lost 23 false 660 (1, 1, 0, 0, ev_X0_someCame) := nk_callV (x := 165) (n := 0) (ci := 0) (r := (RX0, TX0, 15)) (mt_X0_someCame l) rfl (nk_msc [(2, 165), (2, 137), (2, 138), (2, 139), (1, 4)] (by decide +kernel)) rfl rfl (by decide +kernel) ⟨by decide, by decide⟩
set_option maxRecDepth 100000 in
set_option maxHeartbeats 4000000 in
theorem ca_X5_lost_792 (l : Launch) : nk_CallOk l { frames := 6, cells := 0, slots := 0, locals := 153 } RX5 cX5_lost 23 false 792 (3, 1, 0, 0, ev_X0_part) := nk_callV (x := 198) (n := 2) (ci := 0) (r := (RX0, TX0, 15)) (mt_X0_part l) rfl (nk_msc [(2, 220), (2, 149), (2, 150), (2, 151), (1, 4)] (by decide +kernel)) rfl rfl (by decide +kernel) ⟨by decide, by decide⟩
set_option maxRecDepth 100000 in
set_option maxHeartbeats 4000000 in
theorem ca_X5_lost_848 (l : Launch) : nk_CallOk l { frames := 6, cells := 0, slots := 0, locals := 153 } RX5 cX5_lost 23 false 848 (2, 1, 0, 0, ev_X0_step) := nk_callV (x := 212) (n := 1) (ci := 0) (r := (RX0, TX0, 15)) (mt_X0_step l) rfl (nk_msc [(3, 1), (2, 107), (2, 108), (2, 109), (1, 4)] (by decide +kernel)) rfl rfl (by decide +kernel) ⟨by decide, by decide⟩
set_option maxRecDepth 100000 in
set_option maxHeartbeats 4000000 in
theorem ca_X5_lost_368 (l : Launch) : nk_CallOk l { frames := 6, cells := 0, slots := 0, locals := 153 } RX5 cX5_lost 23 false 368 (2, 6, 0, 0, ev_X5_found) := nk_callV (x := 92) (n := 1) (ci := 5) (r := (RX5, TX5, 13)) (mt_X5_found l) rfl (nk_msc [(1, 202), (1, 203), (1, 204), (1, 205), (0, 1), (1, 1)] (by decide +kernel)) rfl rfl (by decide +kernel) ⟨by decide, by decide⟩
set_option maxRecDepth 100000 in
set_option maxHeartbeats 4000000 in
theorem ca_X5_lost_820 (l : Launch) : nk_CallOk l { frames := 6, cells := 0, slots := 0, locals := 153 } RX5 cX5_lost 23 false 820 (3, 6, 0, 0, ev_X5_tellFraction) := nk_callV (x := 205) (n := 2) (ci := 5) (r := (RX5, TX5, 13)) (mt_X5_tellFraction l) rfl (nk_msc [(2, 221), (2, 222), (2, 223), (2, 224), (0, 19), (1, 1)] (by decide +kernel)) rfl rfl (by decide +kernel) ⟨by decide, by decide⟩
set_option maxRecDepth 100000 in
set_option maxHeartbeats 4000000 in
theorem mt_X5_lost (l : Launch) : nk_Met l yX5_lost cX5_lost 23 (some .int) { frames := 6, cells := 0, slots := 0, locals := 153 } false 0 0 ev_X5_lost :=
  nk_met nk_gok (plainFor_of_name (by decide)) ck_X5_lost (nk_top_out 294 kt_X5_lost) ⟨List.forall_mem_cons.mpr ⟨nk_fkc [(1, 153)] (by decide +kernel), List.forall_mem_cons.mpr ⟨nk_fkc [(1, 156)] (by decide +kernel), List.forall_mem_cons.mpr ⟨nk_fkc [(1, 78)] (by decide +kernel), List.forall_mem_cons.mpr ⟨nk_fkc [(1, 82)] (by decide +kernel), List.forall_mem_cons.mpr ⟨nk_fkc [(1, 84)] (by decide +kernel), List.forall_mem_cons.mpr ⟨nk_fkc [(1, 72)] (by decide +kernel), List.forall_mem_cons.mpr ⟨nk_fkc [(1, 80)] (by decide +kernel), List.forall_mem_cons.mpr ⟨nk_fkc [(1, 76)] (by decide +kernel), List.forall_mem_cons.mpr ⟨nk_fkc [(1, 162)] (by decide +kernel), fun _ h => absurd h List.not_mem_nil⟩⟩⟩⟩⟩⟩⟩⟩⟩, List.forall_mem_cons.mpr ⟨ca_X5_lost_596 l, List.forall_mem_cons.mpr ⟨ca_X5_lost_608 l, List.forall_mem_cons.mpr ⟨ca_X5_lost_776 l, List.forall_mem_cons.mpr ⟨ca_X5_lost_648 l, List.forall_mem_cons.mpr ⟨ca_X5_lost_660 l, List.forall_mem_cons.mpr ⟨ca_X5_lost_792 l, List.forall_mem_cons.mpr ⟨ca_X5_lost_848 l, List.forall_mem_cons.mpr ⟨ca_X5_lost_368 l, List.forall_mem_cons.mpr ⟨ca_X5_lost_820 l, fun _ h => absurd h List.not_mem_nil⟩⟩⟩⟩⟩⟩⟩⟩⟩, fun _ h => absurd h List.not_mem_nil, fun _ h => absurd h List.not_mem_nil, fun _ h => absurd h List.not_mem_nil, fun _ h => absurd h List.not_mem_nil, fun _ h => absurd h List.not_mem_nil, by decide, rfl, rfl⟩ rfl (by decide)
