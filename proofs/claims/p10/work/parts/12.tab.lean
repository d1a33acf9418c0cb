/-! MarbleLaw$Course.debts(I)I -/
noncomputable def kt_X0_debts : Nat → Option nk_I := fun pc => bif Nat.ble pc 21 then ((fun pc => bif Nat.ble pc 6 then ((fun pc => bif Nat.ble pc 2 then ((fun pc => bif Nat.ble pc 0 then (bif Nat.beq pc 0 then some (.iconst 0, 1, 1, [], 0) else none)
  else (bif Nat.ble pc 1 then (bif Nat.beq pc 1 then some (.istore_n 2, 1, 2, [], 0) else none)
  else (bif Nat.beq pc 2 then some (.iconst 0, 1, 3, [], 0) else none))) : nk_F) pc
  else ((fun pc => bif Nat.ble pc 4 then (bif Nat.ble pc 3 then (bif Nat.beq pc 3 then some (.istore_n 3, 1, 4, [], 0) else none)
  else (bif Nat.beq pc 4 then some (.iload_n 3, 1, 5, [], 0) else none))
  else (bif Nat.ble pc 5 then (bif Nat.beq pc 5 then some (.aload_n 0, 1, 6, [], 0) else none)
  else (bif Nat.beq pc 6 then some (.getfield 59, 3, 9, [], 0) else none))) : nk_F) pc) : nk_F) pc
  else ((fun pc => bif Nat.ble pc 15 then ((fun pc => bif Nat.ble pc 9 then (bif Nat.beq pc 9 then some (.getfield 63, 3, 12, [], 0) else none)
  else (bif Nat.ble pc 12 then (bif Nat.beq pc 12 then some (.if_icmp .ge 35, 3, 15, [47], 0) else none)
  else (bif Nat.beq pc 15 then some (.iload_n 2, 1, 16, [], 0) else none))) : nk_F) pc
  else ((fun pc => bif Nat.ble pc 17 then (bif Nat.ble pc 16 then (bif Nat.beq pc 16 then some (.aload_n 0, 1, 17, [], 0) else none)
  else (bif Nat.beq pc 17 then some (.getfield 21, 3, 20, [], 0) else none))
  else (bif Nat.ble pc 20 then (bif Nat.beq pc 20 then some (.iload_n 3, 1, 21, [], 0) else none)
  else (bif Nat.beq pc 21 then some (.iaload, 1, 22, [], 0) else none))) : nk_F) pc) : nk_F) pc) : nk_F) pc
  else ((fun pc => bif Nat.ble pc 32 then ((fun pc => bif Nat.ble pc 26 then ((fun pc => bif Nat.ble pc 22 then (bif Nat.beq pc 22 then some (.iload_n 1, 1, 23, [], 0) else none)
  else (bif Nat.ble pc 23 then (bif Nat.beq pc 23 then some (.if_icmp .ne 15, 3, 26, [38], 0) else none)
  else (bif Nat.beq pc 26 then some (.aload_n 0, 1, 27, [], 0) else none))) : nk_F) pc
  else ((fun pc => bif Nat.ble pc 30 then (bif Nat.ble pc 27 then (bif Nat.beq pc 27 then some (.getfield 59, 3, 30, [], 0) else none)
  else (bif Nat.beq pc 30 then some (.iload_n 3, 1, 31, [], 0) else none))
  else (bif Nat.ble pc 31 then (bif Nat.beq pc 31 then some (.iconst 4, 1, 32, [], 4) else none)
  else (bif Nat.beq pc 32 then some (.invokevirtual 68, 3, 35, [], 0) else none))) : nk_F) pc) : nk_F) pc
  else ((fun pc => bif Nat.ble pc 40 then ((fun pc => bif Nat.ble pc 38 then (bif Nat.ble pc 35 then (bif Nat.beq pc 35 then some (.goto 4, 3, 38, [39], 0) else none)
  else (bif Nat.beq pc 38 then some (.iconst 0, 1, 39, [], 0) else none))
  else (bif Nat.ble pc 39 then (bif Nat.beq pc 39 then some (.iadd, 1, 40, [], 0) else none)
  else (bif Nat.beq pc 40 then some (.istore_n 2, 1, 41, [], 0) else none))) : nk_F) pc
  else ((fun pc => bif Nat.ble pc 44 then (bif Nat.ble pc 41 then (bif Nat.beq pc 41 then some (.iinc 3 1, 3, 44, [], 1) else none)
  else (bif Nat.beq pc 44 then some (.goto (-40), 3, 47, [4], 0) else none))
  else (bif Nat.ble pc 47 then (bif Nat.beq pc 47 then some (.iload_n 2, 1, 48, [], 0) else none)
  else (bif Nat.beq pc 48 then some (.ireturn, 1, 49, [], 0) else none))) : nk_F) pc) : nk_F) pc) : nk_F) pc
noncomputable def kc_X0_debts : Nat → Option nk_I := nk_top 49 kt_X0_debts
noncomputable def kx_X0_debts : nk_T := ([(59, 0, 0, 4), (63, 4, 2, 0), (21, 0, 3, 4)], [(272, 3, 5, 0, 0, ev_X4_ofStuff)], [], [], [], [], [], 1, false, 0, 0)
noncomputable def ev_X0_debts : nk_Ev := fun as h Q => nk_if (Nat.ble (nk_wd as) 4) (nk_ev kx_X0_debts kc_X0_debts 4 as h Q)
set_option maxRecDepth 100000 in
theorem ck_X0_debts : nk_chk cX0_debts kc_X0_debts 49 = true := nd_chk (by decide +kernel) (by decide +kernel)
set_option maxRecDepth 100000 in
set_option maxHeartbeats 4000000 in
theorem ca_X0_debts_272 (l : Launch) : nk_CallOk l { frames := 1, cells := 0, slots := 0, locals := 22 } RX0 cX0_debts 4 false 272 (3, 5, 0, 0, ev_X4_ofStuff) := nk_callV (x := 68) (n := 2) (ci := 4) (r := (RX4, TX4, 4)) (mt_X4_ofStuff l) rfl (nk_msc [(2, 97), (2, 41), (2, 42), (2, 43), (1, 2)] (by decide +kernel)) rfl rfl (by decide +kernel) ⟨by decide, by decide⟩
set_option maxRecDepth 100000 in
set_option maxHeartbeats 4000000 in
theorem mt_X0_debts (l : Launch) : nk_Met l yX0_debts cX0_debts 4 (some .int) { frames := 1, cells := 0, slots := 0, locals := 22 } false 0 0 ev_X0_debts :=
  nk_met nk_gok (plainFor_of_name (by decide)) ck_X0_debts (nk_top_out 49 kt_X0_debts) ⟨List.forall_mem_cons.mpr ⟨nk_fkc [(1, 60)] (by decide +kernel), List.forall_mem_cons.mpr ⟨nk_fkc [(1, 30)] (by decide +kernel), List.forall_mem_cons.mpr ⟨nk_fkc [(1, 63)] (by decide +kernel), fun _ h => absurd h List.not_mem_nil⟩⟩⟩, List.forall_mem_cons.mpr ⟨ca_X0_debts_272 l, fun _ h => absurd h List.not_mem_nil⟩, fun _ h => absurd h List.not_mem_nil, fun _ h => absurd h List.not_mem_nil, fun _ h => absurd h List.not_mem_nil, fun _ h => absurd h List.not_mem_nil, fun _ h => absurd h List.not_mem_nil, by decide, rfl, rfl⟩ rfl (by decide)
/-! MarbleLaw$Course.sharesAlike(LMarbleLaw$Course;I)Z -/
noncomputable def kt_X0_sharesAlike : Nat → Option nk_I := fun pc => bif Nat.ble pc 22 then ((fun pc => bif Nat.ble pc 10 then ((fun pc => bif Nat.ble pc 3 then ((fun pc => bif Nat.ble pc 1 then (bif Nat.ble pc 0 then (bif Nat.beq pc 0 then some (.iconst 0, 1, 1, [], 0) else none)
  else (bif Nat.beq pc 1 then some (.istore_n 3, 1, 2, [], 0) else none))
  else (bif Nat.ble pc 2 then (bif Nat.beq pc 2 then some (.iload_n 3, 1, 3, [], 0) else none)
  else (bif Nat.beq pc 3 then some (.bipush 6, 2, 5, [], 6) else none))) : nk_F) pc
  else ((fun pc => bif Nat.ble pc 8 then (bif Nat.ble pc 5 then (bif Nat.beq pc 5 then some (.if_icmp .ge 43, 3, 8, [48], 0) else none)
  else (bif Nat.beq pc 8 then some (.aload_n 0, 1, 9, [], 0) else none))
  else (bif Nat.ble pc 9 then (bif Nat.beq pc 9 then some (.iload_n 2, 1, 10, [], 0) else none)
  else (bif Nat.beq pc 10 then some (.iload_n 3, 1, 11, [], 0) else none))) : nk_F) pc) : nk_F) pc
  else ((fun pc => bif Nat.ble pc 18 then ((fun pc => bif Nat.ble pc 14 then (bif Nat.ble pc 11 then (bif Nat.beq pc 11 then some (.invokevirtual 123, 3, 14, [], 0) else none)
  else (bif Nat.beq pc 14 then some (.aload_n 1, 1, 15, [], 0) else none))
  else (bif Nat.ble pc 15 then (bif Nat.beq pc 15 then some (.getfield 33, 3, 18, [], 0) else none)
  else (bif Nat.beq pc 18 then some (.iload_n 2, 1, 19, [], 0) else none))) : nk_F) pc
  else ((fun pc => bif Nat.ble pc 20 then (bif Nat.ble pc 19 then (bif Nat.beq pc 19 then some (.iaload, 1, 20, [], 0) else none)
  else (bif Nat.beq pc 20 then some (.i2l, 1, 21, [], 0) else none))
  else (bif Nat.ble pc 21 then (bif Nat.beq pc 21 then some (.lmul, 1, 22, [], 0) else none)
  else (bif Nat.beq pc 22 then some (.aload_n 1, 1, 23, [], 0) else none))) : nk_F) pc) : nk_F) pc) : nk_F) pc
  else ((fun pc => bif Nat.ble pc 34 then ((fun pc => bif Nat.ble pc 28 then ((fun pc => bif Nat.ble pc 24 then (bif Nat.ble pc 23 then (bif Nat.beq pc 23 then some (.iload_n 2, 1, 24, [], 0) else none)
  else (bif Nat.beq pc 24 then some (.iload_n 3, 1, 25, [], 0) else none))
  else (bif Nat.ble pc 25 then (bif Nat.beq pc 25 then some (.invokevirtual 123, 3, 28, [], 0) else none)
  else (bif Nat.beq pc 28 then some (.aload_n 0, 1, 29, [], 0) else none))) : nk_F) pc
  else ((fun pc => bif Nat.ble pc 32 then (bif Nat.ble pc 29 then (bif Nat.beq pc 29 then some (.getfield 33, 3, 32, [], 0) else none)
  else (bif Nat.beq pc 32 then some (.iload_n 2, 1, 33, [], 0) else none))
  else (bif Nat.ble pc 33 then (bif Nat.beq pc 33 then some (.iaload, 1, 34, [], 0) else none)
  else (bif Nat.beq pc 34 then some (.i2l, 1, 35, [], 0) else none))) : nk_F) pc) : nk_F) pc
  else ((fun pc => bif Nat.ble pc 40 then ((fun pc => bif Nat.ble pc 36 then (bif Nat.ble pc 35 then (bif Nat.beq pc 35 then some (.lmul, 1, 36, [], 0) else none)
  else (bif Nat.beq pc 36 then some (.lcmp, 1, 37, [], 0) else none))
  else (bif Nat.ble pc 37 then (bif Nat.beq pc 37 then some (.ifCond .eq 5, 3, 40, [42], 0) else none)
  else (bif Nat.beq pc 40 then some (.iconst 0, 1, 41, [], 0) else none))) : nk_F) pc
  else ((fun pc => bif Nat.ble pc 42 then (bif Nat.ble pc 41 then (bif Nat.beq pc 41 then some (.ireturn, 1, 42, [], 0) else none)
  else (bif Nat.beq pc 42 then some (.iinc 3 1, 3, 45, [], 1) else none))
  else ((fun pc => bif Nat.ble pc 45 then (bif Nat.beq pc 45 then some (.goto (-43), 3, 48, [2], 0) else none)
  else (bif Nat.ble pc 48 then (bif Nat.beq pc 48 then some (.iconst 1, 1, 49, [], 1) else none)
  else (bif Nat.beq pc 49 then some (.ireturn, 1, 50, [], 0) else none))) : nk_F) pc) : nk_F) pc) : nk_F) pc) : nk_F) pc
noncomputable def kc_X0_sharesAlike : Nat → Option nk_I := nk_top 50 kt_X0_sharesAlike
noncomputable def kx_X0_sharesAlike : nk_T := ([(33, 0, 7, 4)], [(492, 3, 1, 0, 0, ev_X0_part)], [], [], [], [], [], 2, false, 0, 0)
noncomputable def ev_X0_sharesAlike : nk_Ev := fun as h Q => nk_if (Nat.ble (nk_wd as) 4) (nk_ev kx_X0_sharesAlike kc_X0_sharesAlike 4 as h Q)
set_option maxRecDepth 100000 in
theorem ck_X0_sharesAlike : nk_chk cX0_sharesAlike kc_X0_sharesAlike 50 = true := nd_chk (by decide +kernel) (by decide +kernel)
set_option maxRecDepth 100000 in
set_option maxHeartbeats 4000000 in
theorem ca_X0_sharesAlike_492 (l : Launch) : nk_CallOk l { frames := 1, cells := 0, slots := 0, locals := 22 } RX0 cX0_sharesAlike 4 false 492 (3, 1, 0, 0, ev_X0_part) := nk_callV (x := 123) (n := 2) (ci := 0) (r := (RX0, TX0, 15)) (mt_X0_part l) rfl (nk_msc [(2, 148), (2, 149), (2, 150), (2, 151), (1, 4)] (by decide +kernel)) rfl rfl (by decide +kernel) ⟨by decide, by decide⟩
set_option maxRecDepth 100000 in
set_option maxHeartbeats 4000000 in
theorem mt_X0_sharesAlike (l : Launch) : nk_Met l yX0_sharesAlike cX0_sharesAlike 4 (some .boolean) { frames := 1, cells := 0, slots := 0, locals := 22 } false 0 0 ev_X0_sharesAlike :=
  nk_met nk_gok (plainFor_of_name (by decide)) ck_X0_sharesAlike (nk_top_out 50 kt_X0_sharesAlike) ⟨List.forall_mem_cons.mpr ⟨nk_fkc [(1, 71)] (by decide +kernel), fun _ h => absurd h List.not_mem_nil⟩, List.forall_mem_cons.mpr ⟨ca_X0_sharesAlike_492 l, fun _ h => absurd h List.not_mem_nil⟩, fun _ h => absurd h List.not_mem_nil, fun _ h => absurd h List.not_mem_nil, fun _ h => absurd h List.not_mem_nil, fun _ h => absurd h List.not_mem_nil, fun _ h => absurd h List.not_mem_nil, by decide, rfl, rfl⟩ rfl (by decide)
/-! MarbleLaw$Course.namesPartOf(II)Z -/
noncomputable def kt_X0_namesPartOf : Nat → Option nk_I := fun pc => bif Nat.ble pc 28 then ((fun pc => bif Nat.ble pc 11 then ((fun pc => bif Nat.ble pc 5 then ((fun pc => bif Nat.ble pc 1 then (bif Nat.ble pc 0 then (bif Nat.beq pc 0 then some (.aload_n 0, 1, 1, [], 0) else none)
  else (bif Nat.beq pc 1 then some (.getfield 59, 3, 4, [], 0) else none))
  else (bif Nat.ble pc 4 then (bif Nat.beq pc 4 then some (.iload_n 1, 1, 5, [], 0) else none)
  else (bif Nat.beq pc 5 then some (.iconst 0, 1, 6, [], 0) else none))) : nk_F) pc
  else ((fun pc => bif Nat.ble pc 9 then (bif Nat.ble pc 6 then (bif Nat.beq pc 6 then some (.invokevirtual 80, 3, 9, [], 0) else none)
  else (bif Nat.beq pc 9 then some (.istore_n 3, 1, 10, [], 0) else none))
  else (bif Nat.ble pc 10 then (bif Nat.beq pc 10 then some (.iload_n 3, 1, 11, [], 0) else none)
  else (bif Nat.beq pc 11 then some (.ifCond .eq 50, 3, 14, [61], 0) else none))) : nk_F) pc) : nk_F) pc
  else ((fun pc => bif Nat.ble pc 19 then ((fun pc => bif Nat.ble pc 15 then (bif Nat.ble pc 14 then (bif Nat.beq pc 14 then some (.aload_n 0, 1, 15, [], 0) else none)
  else (bif Nat.beq pc 15 then some (.getfield 21, 3, 18, [], 0) else none))
  else (bif Nat.ble pc 18 then (bif Nat.beq pc 18 then some (.aload_n 0, 1, 19, [], 0) else none)
  else (bif Nat.beq pc 19 then some (.getfield 59, 3, 22, [], 0) else none))) : nk_F) pc
  else ((fun pc => bif Nat.ble pc 23 then (bif Nat.ble pc 22 then (bif Nat.beq pc 22 then some (.iload_n 1, 1, 23, [], 0) else none)
  else (bif Nat.beq pc 23 then some (.iconst 1, 1, 24, [], 1) else none))
  else ((fun pc => bif Nat.ble pc 24 then (bif Nat.beq pc 24 then some (.invokevirtual 80, 3, 27, [], 0) else none)
  else (bif Nat.ble pc 27 then (bif Nat.beq pc 27 then some (.iaload, 1, 28, [], 0) else none)
  else (bif Nat.beq pc 28 then some (.iload_n 2, 1, 29, [], 0) else none))) : nk_F) pc) : nk_F) pc) : nk_F) pc) : nk_F) pc
  else ((fun pc => bif Nat.ble pc 47 then ((fun pc => bif Nat.ble pc 36 then ((fun pc => bif Nat.ble pc 32 then (bif Nat.ble pc 29 then (bif Nat.beq pc 29 then some (.if_icmp .eq 28, 3, 32, [57], 0) else none)
  else (bif Nat.beq pc 32 then some (.iload_n 3, 1, 33, [], 0) else none))
  else (bif Nat.ble pc 33 then (bif Nat.beq pc 33 then some (.invokestatic 83, 3, 36, [], 0) else none)
  else (bif Nat.beq pc 36 then some (.ifCond .eq 25, 3, 39, [61], 0) else none))) : nk_F) pc
  else ((fun pc => bif Nat.ble pc 40 then (bif Nat.ble pc 39 then (bif Nat.beq pc 39 then some (.aload_n 0, 1, 40, [], 0) else none)
  else (bif Nat.beq pc 40 then some (.getfield 21, 3, 43, [], 0) else none))
  else ((fun pc => bif Nat.ble pc 43 then (bif Nat.beq pc 43 then some (.aload_n 0, 1, 44, [], 0) else none)
  else (bif Nat.ble pc 44 then (bif Nat.beq pc 44 then some (.getfield 59, 3, 47, [], 0) else none)
  else (bif Nat.beq pc 47 then some (.iload_n 1, 1, 48, [], 0) else none))) : nk_F) pc) : nk_F) pc) : nk_F) pc
  else ((fun pc => bif Nat.ble pc 53 then ((fun pc => bif Nat.ble pc 49 then (bif Nat.ble pc 48 then (bif Nat.beq pc 48 then some (.iconst 2, 1, 49, [], 2) else none)
  else (bif Nat.beq pc 49 then some (.invokevirtual 80, 3, 52, [], 0) else none))
  else (bif Nat.ble pc 52 then (bif Nat.beq pc 52 then some (.iaload, 1, 53, [], 0) else none)
  else (bif Nat.beq pc 53 then some (.iload_n 2, 1, 54, [], 0) else none))) : nk_F) pc
  else ((fun pc => bif Nat.ble pc 57 then (bif Nat.ble pc 54 then (bif Nat.beq pc 54 then some (.if_icmp .ne 7, 3, 57, [61], 0) else none)
  else (bif Nat.beq pc 57 then some (.iconst 1, 1, 58, [], 1) else none))
  else ((fun pc => bif Nat.ble pc 58 then (bif Nat.beq pc 58 then some (.goto 4, 3, 61, [62], 0) else none)
  else (bif Nat.ble pc 61 then (bif Nat.beq pc 61 then some (.iconst 0, 1, 62, [], 0) else none)
  else (bif Nat.beq pc 62 then some (.ireturn, 1, 63, [], 0) else none))) : nk_F) pc) : nk_F) pc) : nk_F) pc) : nk_F) pc
noncomputable def kc_X0_namesPartOf : Nat → Option nk_I := nk_top 63 kt_X0_namesPartOf
noncomputable def kx_X0_namesPartOf : nk_T := ([(59, 0, 0, 4), (21, 0, 3, 4)], [(320, 3, 5, 0, 0, ev_X4_ofMaking), (334, 1, 0, 0, 0, ev_X5_namesTwo)], [], [], [], [], [], 2, false, 0, 0)
noncomputable def ev_X0_namesPartOf : nk_Ev := fun as h Q => nk_if (Nat.ble (nk_wd as) 4) (nk_ev kx_X0_namesPartOf kc_X0_namesPartOf 4 as h Q)
set_option maxRecDepth 100000 in
theorem ck_X0_namesPartOf : nk_chk cX0_namesPartOf kc_X0_namesPartOf 63 = true := nd_chk (by decide +kernel) (by decide +kernel)
set_option maxRecDepth 100000 in
set_option maxHeartbeats 4000000 in
theorem ca_X0_namesPartOf_320 (l : Launch) : nk_CallOk l { frames := 1, cells := 0, slots := 0, locals := 22 } RX0 cX0_namesPartOf 4 false 320 (3, 5, 0, 0, ev_X4_ofMaking) := nk_callV (x := 80) (n := 2) (ci := 4) (r := (RX4, TX4, 4)) (mt_X4_ofMaking l) rfl (nk_msc [(2, 114), (2, 79), (2, 80), (2, 81), (1, 2)] (by decide +kernel)) rfl rfl (by decide +kernel) ⟨by decide, by decide⟩
set_option maxRecDepth 100000 in
set_option maxHeartbeats 4000000 in
theorem ca_X0_namesPartOf_334 (l : Launch) : nk_CallOk l { frames := 1, cells := 0, slots := 0, locals := 22 } RX0 cX0_namesPartOf 4 false 334 (1, 0, 0, 0, ev_X5_namesTwo) := nk_callSN (x := 83) (n := 1) (host := "MarbleLaw") (mt_X5_namesTwo l) (by decide +kernel) (nk_mc [(2, 115), (2, 57), (2, 58), (1, 1)] (by decide +kernel)) (nk_mc [(2, 115), (2, 57), (2, 58), (1, 1)] (by decide +kernel)) (nk_mc [(2, 115), (2, 57), (2, 58), (1, 1)] (by decide +kernel)) rfl rfl (by decide +kernel) ⟨by decide, by decide⟩
set_option maxRecDepth 100000 in
set_option maxHeartbeats 4000000 in
theorem mt_X0_namesPartOf (l : Launch) : nk_Met l yX0_namesPartOf cX0_namesPartOf 4 (some .boolean) { frames := 1, cells := 0, slots := 0, locals := 22 } false 0 0 ev_X0_namesPartOf :=
  nk_met nk_gok (plainFor_of_name (by decide)) ck_X0_namesPartOf (nk_top_out 63 kt_X0_namesPartOf) ⟨List.forall_mem_cons.mpr ⟨nk_fkc [(1, 60)] (by decide +kernel), List.forall_mem_cons.mpr ⟨nk_fkc [(1, 63)] (by decide +kernel), fun _ h => absurd h List.not_mem_nil⟩⟩, List.forall_mem_cons.mpr ⟨ca_X0_namesPartOf_320 l, List.forall_mem_cons.mpr ⟨ca_X0_namesPartOf_334 l, fun _ h => absurd h List.not_mem_nil⟩⟩, fun _ h => absurd h List.not_mem_nil, fun _ h => absurd h List.not_mem_nil, fun _ h => absurd h List.not_mem_nil, fun _ h => absurd h List.not_mem_nil, fun _ h => absurd h List.not_mem_nil, by decide, rfl, rfl⟩ rfl (by decide)
/-! MarbleLaw$Course.hasAnother(II)Z -/
noncomputable def kt_X0_hasAnother : Nat → Option nk_I := fun pc => bif Nat.ble pc 20 then ((fun pc => bif Nat.ble pc 7 then ((fun pc => bif Nat.ble pc 2 then ((fun pc => bif Nat.ble pc 0 then (bif Nat.beq pc 0 then some (.iconst 0, 1, 1, [], 0) else none)
  else (bif Nat.ble pc 1 then (bif Nat.beq pc 1 then some (.istore_n 3, 1, 2, [], 0) else none)
  else (bif Nat.beq pc 2 then some (.iload_n 3, 1, 3, [], 0) else none))) : nk_F) pc
  else ((fun pc => bif Nat.ble pc 3 then (bif Nat.beq pc 3 then some (.aload_n 0, 1, 4, [], 0) else none)
  else (bif Nat.ble pc 4 then (bif Nat.beq pc 4 then some (.getfield 59, 3, 7, [], 0) else none)
  else (bif Nat.beq pc 7 then some (.getfield 63, 3, 10, [], 0) else none))) : nk_F) pc) : nk_F) pc
  else ((fun pc => bif Nat.ble pc 14 then ((fun pc => bif Nat.ble pc 10 then (bif Nat.beq pc 10 then some (.if_icmp .ge 35, 3, 13, [45], 0) else none)
  else (bif Nat.ble pc 13 then (bif Nat.beq pc 13 then some (.aload_n 0, 1, 14, [], 0) else none)
  else (bif Nat.beq pc 14 then some (.getfield 21, 3, 17, [], 0) else none))) : nk_F) pc
  else ((fun pc => bif Nat.ble pc 18 then (bif Nat.ble pc 17 then (bif Nat.beq pc 17 then some (.iload_n 3, 1, 18, [], 0) else none)
  else (bif Nat.beq pc 18 then some (.iaload, 1, 19, [], 0) else none))
  else (bif Nat.ble pc 19 then (bif Nat.beq pc 19 then some (.iload_n 1, 1, 20, [], 0) else none)
  else (bif Nat.beq pc 20 then some (.if_icmp .eq 19, 3, 23, [39], 0) else none))) : nk_F) pc) : nk_F) pc) : nk_F) pc
  else ((fun pc => bif Nat.ble pc 31 then ((fun pc => bif Nat.ble pc 25 then ((fun pc => bif Nat.ble pc 23 then (bif Nat.beq pc 23 then some (.aload_n 0, 1, 24, [], 0) else none)
  else (bif Nat.ble pc 24 then (bif Nat.beq pc 24 then some (.aload_n 0, 1, 25, [], 0) else none)
  else (bif Nat.beq pc 25 then some (.getfield 21, 3, 28, [], 0) else none))) : nk_F) pc
  else ((fun pc => bif Nat.ble pc 29 then (bif Nat.ble pc 28 then (bif Nat.beq pc 28 then some (.iload_n 3, 1, 29, [], 0) else none)
  else (bif Nat.beq pc 29 then some (.iaload, 1, 30, [], 0) else none))
  else (bif Nat.ble pc 30 then (bif Nat.beq pc 30 then some (.iload_n 2, 1, 31, [], 0) else none)
  else (bif Nat.beq pc 31 then some (.invokevirtual 133, 3, 34, [], 0) else none))) : nk_F) pc) : nk_F) pc
  else ((fun pc => bif Nat.ble pc 38 then ((fun pc => bif Nat.ble pc 34 then (bif Nat.beq pc 34 then some (.ifCond .eq 5, 3, 37, [39], 0) else none)
  else (bif Nat.ble pc 37 then (bif Nat.beq pc 37 then some (.iconst 1, 1, 38, [], 1) else none)
  else (bif Nat.beq pc 38 then some (.ireturn, 1, 39, [], 0) else none))) : nk_F) pc
  else ((fun pc => bif Nat.ble pc 42 then (bif Nat.ble pc 39 then (bif Nat.beq pc 39 then some (.iinc 3 1, 3, 42, [], 1) else none)
  else (bif Nat.beq pc 42 then some (.goto (-40), 3, 45, [2], 0) else none))
  else (bif Nat.ble pc 45 then (bif Nat.beq pc 45 then some (.iconst 0, 1, 46, [], 0) else none)
  else (bif Nat.beq pc 46 then some (.ireturn, 1, 47, [], 0) else none))) : nk_F) pc) : nk_F) pc) : nk_F) pc
noncomputable def kc_X0_hasAnother : Nat → Option nk_I := nk_top 47 kt_X0_hasAnother
noncomputable def kx_X0_hasAnother : nk_T := ([(59, 0, 0, 4), (63, 4, 2, 0), (21, 0, 3, 4)], [(532, 3, 1, 0, 0, ev_X0_hasAll)], [], [], [], [], [], 2, false, 0, 0)
noncomputable def ev_X0_hasAnother : nk_Ev := fun as h Q => nk_if (Nat.ble (nk_wd as) 4) (nk_ev kx_X0_hasAnother kc_X0_hasAnother 4 as h Q)
set_option maxRecDepth 100000 in
theorem ck_X0_hasAnother : nk_chk cX0_hasAnother kc_X0_hasAnother 47 = true := nd_chk (by decide +kernel) (by decide +kernel)
set_option maxRecDepth 100000 in
set_option maxHeartbeats 4000000 in
theorem ca_X0_hasAnother_532 (l : Launch) : nk_CallOk l { frames := 2, cells := 0, slots := 0, locals := 44 } RX0 cX0_hasAnother 4 false 532 (3, 1, 0, 0, ev_X0_hasAll) := nk_callV (x := 133) (n := 2) (ci := 0) (r := (RX0, TX0, 15)) (mt_X0_hasAll l) rfl (nk_msc [(3, 52), (3, 53), (3, 54), (3, 55), (0, 21), (1, 4)] (by decide +kernel)) rfl rfl (by decide +kernel) ⟨by decide, by decide⟩
set_option maxRecDepth 100000 in
set_option maxHeartbeats 4000000 in
theorem mt_X0_hasAnother (l : Launch) : nk_Met l yX0_hasAnother cX0_hasAnother 4 (some .boolean) { frames := 2, cells := 0, slots := 0, locals := 44 } false 0 0 ev_X0_hasAnother :=
  nk_met nk_gok (plainFor_of_name (by decide)) ck_X0_hasAnother (nk_top_out 47 kt_X0_hasAnother) ⟨List.forall_mem_cons.mpr ⟨nk_fkc [(1, 60)] (by decide +kernel), List.forall_mem_cons.mpr ⟨nk_fkc [(1, 30)] (by decide +kernel), List.forall_mem_cons.mpr ⟨nk_fkc [(1, 63)] (by decide +kernel), fun _ h => absurd h List.not_mem_nil⟩⟩⟩, List.forall_mem_cons.mpr ⟨ca_X0_hasAnother_532 l, fun _ h => absurd h List.not_mem_nil⟩, fun _ h => absurd h List.not_mem_nil, fun _ h => absurd h List.not_mem_nil, fun _ h => absurd h List.not_mem_nil, fun _ h => absurd h List.not_mem_nil, fun _ h => absurd h List.not_mem_nil, by decide, rfl, rfl⟩ rfl (by decide)
/-! MarbleLaw$Course.slyWay(III)I -/
noncomputable def kt_X0_slyWay : Nat → Option nk_I := fun pc => bif Nat.ble pc 36 then ((fun pc => bif Nat.ble pc 18 then ((fun pc => bif Nat.ble pc 6 then ((fun pc => bif Nat.ble pc 1 then (bif Nat.ble pc 0 then (bif Nat.beq pc 0 then some (.aload_n 0, 1, 1, [], 0) else none)
  else (bif Nat.beq pc 1 then some (.getfield 21, 3, 4, [], 0) else none))
  else ((fun pc => bif Nat.ble pc 4 then (bif Nat.beq pc 4 then some (.iload_n 1, 1, 5, [], 0) else none)
  else (bif Nat.ble pc 5 then (bif Nat.beq pc 5 then some (.iaload, 1, 6, [], 0) else none)
  else (bif Nat.beq pc 6 then some (.istore 4, 2, 8, [], 0) else none))) : nk_F) pc) : nk_F) pc
  else ((fun pc => bif Nat.ble pc 11 then ((fun pc => bif Nat.ble pc 8 then (bif Nat.beq pc 8 then some (.aload_n 0, 1, 9, [], 0) else none)
  else (bif Nat.ble pc 9 then (bif Nat.beq pc 9 then some (.iload 4, 2, 11, [], 0) else none)
  else (bif Nat.beq pc 11 then some (.iload_n 2, 1, 12, [], 0) else none))) : nk_F) pc
  else ((fun pc => bif Nat.ble pc 12 then (bif Nat.beq pc 12 then some (.invokevirtual 133, 3, 15, [], 0) else none)
  else (bif Nat.ble pc 15 then (bif Nat.beq pc 15 then some (.ifCond .eq 5, 3, 18, [20], 0) else none)
  else (bif Nat.beq pc 18 then some (.iconst 0, 1, 19, [], 0) else none))) : nk_F) pc) : nk_F) pc) : nk_F) pc
  else ((fun pc => bif Nat.ble pc 27 then ((fun pc => bif Nat.ble pc 20 then (bif Nat.ble pc 19 then (bif Nat.beq pc 19 then some (.ireturn, 1, 20, [], 0) else none)
  else (bif Nat.beq pc 20 then some (.aload_n 0, 1, 21, [], 0) else none))
  else ((fun pc => bif Nat.ble pc 21 then (bif Nat.beq pc 21 then some (.invokevirtual 100, 3, 24, [], 0) else none)
  else (bif Nat.ble pc 24 then (bif Nat.beq pc 24 then some (.ifCond .ne 20, 3, 27, [44], 0) else none)
  else (bif Nat.beq pc 27 then some (.aload_n 0, 1, 28, [], 0) else none))) : nk_F) pc) : nk_F) pc
  else ((fun pc => bif Nat.ble pc 30 then ((fun pc => bif Nat.ble pc 28 then (bif Nat.beq pc 28 then some (.iload_n 3, 1, 29, [], 0) else none)
  else (bif Nat.ble pc 29 then (bif Nat.beq pc 29 then some (.aload_n 0, 1, 30, [], 0) else none)
  else (bif Nat.beq pc 30 then some (.getfield 27, 3, 33, [], 0) else none))) : nk_F) pc
  else ((fun pc => bif Nat.ble pc 33 then (bif Nat.beq pc 33 then some (.iload 4, 2, 35, [], 0) else none)
  else (bif Nat.ble pc 35 then (bif Nat.beq pc 35 then some (.iaload, 1, 36, [], 0) else none)
  else (bif Nat.beq pc 36 then some (.invokevirtual 106, 3, 39, [], 0) else none))) : nk_F) pc) : nk_F) pc) : nk_F) pc) : nk_F) pc
  else ((fun pc => bif Nat.ble pc 59 then ((fun pc => bif Nat.ble pc 45 then ((fun pc => bif Nat.ble pc 42 then (bif Nat.ble pc 39 then (bif Nat.beq pc 39 then some (.ifCond .eq 5, 3, 42, [44], 0) else none)
  else (bif Nat.beq pc 42 then some (.iconst 1, 1, 43, [], 1) else none))
  else ((fun pc => bif Nat.ble pc 43 then (bif Nat.beq pc 43 then some (.ireturn, 1, 44, [], 0) else none)
  else (bif Nat.ble pc 44 then (bif Nat.beq pc 44 then some (.aload_n 0, 1, 45, [], 0) else none)
  else (bif Nat.beq pc 45 then some (.invokevirtual 100, 3, 48, [], 0) else none))) : nk_F) pc) : nk_F) pc
  else ((fun pc => bif Nat.ble pc 52 then ((fun pc => bif Nat.ble pc 48 then (bif Nat.beq pc 48 then some (.ifCond .ne 12, 3, 51, [60], 0) else none)
  else (bif Nat.ble pc 51 then (bif Nat.beq pc 51 then some (.aload_n 0, 1, 52, [], 0) else none)
  else (bif Nat.beq pc 52 then some (.invokevirtual 110, 3, 55, [], 0) else none))) : nk_F) pc
  else ((fun pc => bif Nat.ble pc 55 then (bif Nat.beq pc 55 then some (.ifCond .eq 5, 3, 58, [60], 0) else none)
  else (bif Nat.ble pc 58 then (bif Nat.beq pc 58 then some (.iconst 2, 1, 59, [], 2) else none)
  else (bif Nat.beq pc 59 then some (.ireturn, 1, 60, [], 0) else none))) : nk_F) pc) : nk_F) pc) : nk_F) pc
  else ((fun pc => bif Nat.ble pc 70 then ((fun pc => bif Nat.ble pc 64 then ((fun pc => bif Nat.ble pc 60 then (bif Nat.beq pc 60 then some (.aload_n 0, 1, 61, [], 0) else none)
  else (bif Nat.ble pc 61 then (bif Nat.beq pc 61 then some (.invokevirtual 113, 3, 64, [], 0) else none)
  else (bif Nat.beq pc 64 then some (.ifCond .eq 17, 3, 67, [81], 0) else none))) : nk_F) pc
  else ((fun pc => bif Nat.ble pc 67 then (bif Nat.beq pc 67 then some (.aload_n 0, 1, 68, [], 0) else none)
  else (bif Nat.ble pc 68 then (bif Nat.beq pc 68 then some (.iload 4, 2, 70, [], 0) else none)
  else (bif Nat.beq pc 70 then some (.iload_n 2, 1, 71, [], 0) else none))) : nk_F) pc) : nk_F) pc
  else ((fun pc => bif Nat.ble pc 77 then ((fun pc => bif Nat.ble pc 71 then (bif Nat.beq pc 71 then some (.invokevirtual 136, 3, 74, [], 0) else none)
  else (bif Nat.ble pc 74 then (bif Nat.beq pc 74 then some (.ifCond .eq 7, 3, 77, [81], 0) else none)
  else (bif Nat.beq pc 77 then some (.iconst 3, 1, 78, [], 3) else none))) : nk_F) pc
  else ((fun pc => bif Nat.ble pc 78 then (bif Nat.beq pc 78 then some (.goto 5, 3, 81, [83], 0) else none)
  else (bif Nat.ble pc 81 then (bif Nat.beq pc 81 then some (.bipush (-9), 2, 83, [], (-9)) else none)
  else (bif Nat.beq pc 83 then some (.ireturn, 1, 84, [], 0) else none))) : nk_F) pc) : nk_F) pc) : nk_F) pc) : nk_F) pc
noncomputable def kc_X0_slyWay : Nat → Option nk_I := nk_top 84 kt_X0_slyWay
noncomputable def kx_X0_slyWay : nk_T := ([(21, 0, 3, 4), (27, 0, 5, 4)], [(532, 3, 1, 0, 0, ev_X0_hasAll), (400, 1, 1, 0, 0, ev_X0_barsKnowing), (424, 3, 1, 0, 0, ev_X0_formTakes), (440, 1, 1, 0, 0, ev_X0_writeTakes), (452, 1, 1, 0, 0, ev_X0_chiefTakesJoin), (544, 3, 1, 0, 0, ev_X0_hasAnother)], [], [], [], [], [], 1, false, 0, 0)
noncomputable def ev_X0_slyWay : nk_Ev := fun as h Q => nk_if (Nat.ble (nk_wd as) 5) (nk_ev kx_X0_slyWay kc_X0_slyWay 5 as h Q)
set_option maxRecDepth 100000 in
theorem ck_X0_slyWay : nk_chk cX0_slyWay kc_X0_slyWay 84 = true := nd_chk (by decide +kernel) (by decide +kernel)
set_option maxRecDepth 100000 in
set_option maxHeartbeats 4000000 in
theorem ca_X0_slyWay_532 (l : Launch) : nk_CallOk l { frames := 3, cells := 0, slots := 0, locals := 67 } RX0 cX0_slyWay 5 false 532 (3, 1, 0, 0, ev_X0_hasAll) := nk_callV (x := 133) (n := 2) (ci := 0) (r := (RX0, TX0, 15)) (mt_X0_hasAll l) rfl (nk_msc [(3, 52), (3, 53), (3, 54), (3, 55), (0, 21), (1, 4)] (by decide +kernel)) rfl rfl (by decide +kernel) ⟨by decide, by decide⟩
set_option maxRecDepth 100000 in
set_option maxHeartbeats 4000000 in
theorem ca_X0_slyWay_400 (l : Launch) : nk_CallOk l { frames := 3, cells := 0, slots := 0, locals := 67 } RX0 cX0_slyWay 5 false 400 (1, 1, 0, 0, ev_X0_barsKnowing) := nk_callV (x := 100) (n := 0) (ci := 0) (r := (RX0, TX0, 15)) (mt_X0_barsKnowing l) rfl (nk_msc [(2, 120), (2, 121), (2, 122), (2, 123), (0, 9), (1, 4)] (by decide +kernel)) rfl rfl (by decide +kernel) ⟨by decide, by decide⟩
set_option maxRecDepth 100000 in
set_option maxHeartbeats 4000000 in
theorem ca_X0_slyWay_424 (l : Launch) : nk_CallOk l { frames := 3, cells := 0, slots := 0, locals := 67 } RX0 cX0_slyWay 5 false 424 (3, 1, 0, 0, ev_X0_formTakes) := nk_callV (x := 106) (n := 2) (ci := 0) (r := (RX0, TX0, 15)) (mt_X0_formTakes l) rfl (nk_msc [(2, 128), (2, 129), (2, 130), (2, 131), (0, 11), (1, 4)] (by decide +kernel)) rfl rfl (by decide +kernel) ⟨by decide, by decide⟩
set_option maxRecDepth 100000 in
set_option maxHeartbeats 4000000 in
theorem ca_X0_slyWay_440 (l : Launch) : nk_CallOk l { frames := 3, cells := 0, slots := 0, locals := 67 } RX0 cX0_slyWay 5 false 440 (1, 1, 0, 0, ev_X0_writeTakes) := nk_callV (x := 110) (n := 0) (ci := 0) (r := (RX0, TX0, 15)) (mt_X0_writeTakes l) rfl (nk_msc [(2, 132), (2, 133), (2, 134), (2, 135), (0, 12), (1, 4)] (by decide +kernel)) rfl rfl (by decide +kernel) ⟨by decide, by decide⟩
set_option maxRecDepth 100000 in
set_option maxHeartbeats 4000000 in
theorem ca_X0_slyWay_452 (l : Launch) : nk_CallOk l { frames := 3, cells := 0, slots := 0, locals := 67 } RX0 cX0_slyWay 5 false 452 (1, 1, 0, 0, ev_X0_chiefTakesJoin) := nk_callV (x := 113) (n := 0) (ci := 0) (r := (RX0, TX0, 15)) (mt_X0_chiefTakesJoin l) rfl (nk_msc [(2, 140), (2, 141), (2, 142), (2, 143), (0, 13), (1, 4)] (by decide +kernel)) rfl rfl (by decide +kernel) ⟨by decide, by decide⟩
set_option maxRecDepth 100000 in
set_option maxHeartbeats 4000000 in
theorem ca_X0_slyWay_544 (l : Launch) : nk_CallOk l { frames := 3, cells := 0, slots := 0, locals := 67 } RX0 cX0_slyWay 5 false 544 (3, 1, 0, 0, ev_X0_hasAnother) := nk_callV (x := 136) (n := 2) (ci := 0) (r := (RX0, TX0, 15)) (mt_X0_hasAnother l) rfl (nk_msc [(3, 56), (3, 57), (3, 58), (3, 59), (0, 22), (1, 4)] (by decide +kernel)) rfl rfl (by decide +kernel) ⟨by decide, by decide⟩
set_option maxRecDepth 100000 in
set_option maxHeartbeats 4000000 in
theorem mt_X0_slyWay (l : Launch) : nk_Met l yX0_slyWay cX0_slyWay 5 (some .int) { frames := 3, cells := 0, slots := 0, locals := 67 } false 0 0 ev_X0_slyWay :=
  nk_met nk_gok (plainFor_of_name (by decide)) ck_X0_slyWay (nk_top_out 84 kt_X0_slyWay) ⟨List.forall_mem_cons.mpr ⟨nk_fkc [(1, 63)] (by decide +kernel), List.forall_mem_cons.mpr ⟨nk_fkc [(1, 67)] (by decide +kernel), fun _ h => absurd h List.not_mem_nil⟩⟩, List.forall_mem_cons.mpr ⟨ca_X0_slyWay_532 l, List.forall_mem_cons.mpr ⟨ca_X0_slyWay_400 l, List.forall_mem_cons.mpr ⟨ca_X0_slyWay_424 l, List.forall_mem_cons.mpr ⟨ca_X0_slyWay_440 l, List.forall_mem_cons.mpr ⟨ca_X0_slyWay_452 l, List.forall_mem_cons.mpr ⟨ca_X0_slyWay_544 l, fun _ h => absurd h List.not_mem_nil⟩⟩⟩⟩⟩⟩, fun _ h => absurd h List.not_mem_nil, fun _ h => absurd h List.not_mem_nil, fun _ h => absurd h List.not_mem_nil, fun _ h => absurd h List.not_mem_nil, fun _ h => absurd h List.not_mem_nil, by decide, rfl, rfl⟩ rfl (by decide)
/-! MarbleLaw$Heap.<init>()V -/
noncomputable def kt_X1_init : Nat → Option nk_I := fun pc => bif Nat.ble pc 12 then ((fun pc => bif Nat.ble pc 4 then ((fun pc => bif Nat.ble pc 0 then (bif Nat.beq pc 0 then some (.aload_n 0, 1, 1, [], 0) else none)
  else (bif Nat.ble pc 1 then (bif Nat.beq pc 1 then some (.invokespecial 3, 3, 4, [], 0) else none)
  else (bif Nat.beq pc 4 then some (.aload_n 0, 1, 5, [], 0) else none))) : nk_F) pc
  else ((fun pc => bif Nat.ble pc 7 then (bif Nat.ble pc 5 then (bif Nat.beq pc 5 then some (.bipush 20, 2, 7, [], 20) else none)
  else (bif Nat.beq pc 7 then some (.newarray .int, 2, 9, [], 0) else none))
  else (bif Nat.ble pc 9 then (bif Nat.beq pc 9 then some (.putfield 9, 3, 12, [], 0) else none)
  else (bif Nat.beq pc 12 then some (.aload_n 0, 1, 13, [], 0) else none))) : nk_F) pc) : nk_F) pc
  else ((fun pc => bif Nat.ble pc 17 then ((fun pc => bif Nat.ble pc 13 then (bif Nat.beq pc 13 then some (.bipush 20, 2, 15, [], 20) else none)
  else (bif Nat.ble pc 15 then (bif Nat.beq pc 15 then some (.newarray .int, 2, 17, [], 0) else none)
  else (bif Nat.beq pc 17 then some (.putfield 15, 3, 20, [], 0) else none))) : nk_F) pc
  else ((fun pc => bif Nat.ble pc 21 then (bif Nat.ble pc 20 then (bif Nat.beq pc 20 then some (.aload_n 0, 1, 21, [], 0) else none)
  else (bif Nat.beq pc 21 then some (.iconst 0, 1, 22, [], 0) else none))
  else (bif Nat.ble pc 22 then (bif Nat.beq pc 22 then some (.putfield 18, 3, 25, [], 0) else none)
  else (bif Nat.beq pc 25 then some (.return_, 1, 26, [], 0) else none))) : nk_F) pc) : nk_F) pc
noncomputable def kc_X1_init : Nat → Option nk_I := nk_top 26 kt_X1_init
noncomputable def kx_X1_init : nk_T := ([(9, 1, 0, 4), (15, 1, 1, 4), (18, 1, 2, 0)], [(13, 1, 2, 0, 0, fun _ h K => K none h)], [], [], [], [], [], 0, true, 2, 40)
noncomputable def ev_X1_init : nk_Ev := fun as h Q => nk_if (Nat.ble (nk_wd as) 1) (nk_ev kx_X1_init kc_X1_init 1 as h Q)
set_option maxRecDepth 100000 in
theorem ck_X1_init : nk_chk cX1_init kc_X1_init 26 = true := nd_chk (by decide +kernel) (by decide +kernel)
set_option maxRecDepth 100000 in
set_option maxHeartbeats 4000000 in
theorem ca_X1_init_13 (l : Launch) : nk_CallOk l { frames := 1, cells := 2, slots := 40, locals := 20 } RX1 cX1_init 1 true 13 (1, 2, 0, 0, fun _ h K => K none h) := nk_callO (x := 3) (nk_mc [(1, 135), (1, 139), (1, 17), (1, 18)] (by decide +kernel)) (nk_mc [(1, 135), (1, 139), (1, 17), (1, 18)] (by decide +kernel)) (nk_mc [(1, 135), (1, 139), (1, 17), (1, 18)] (by decide +kernel)) ⟨by decide, by decide⟩
set_option maxRecDepth 100000 in
set_option maxHeartbeats 4000000 in
theorem mt_X1_init (l : Launch) : nk_Met l yX1_init cX1_init 1 none { frames := 1, cells := 2, slots := 40, locals := 20 } true 2 40 ev_X1_init :=
  nk_met nk_gok (plainFor_of_name (by decide)) ck_X1_init (nk_top_out 26 kt_X1_init) ⟨List.forall_mem_cons.mpr ⟨nk_fkc [(1, 140)] (by decide +kernel), List.forall_mem_cons.mpr ⟨nk_fkc [(1, 141)] (by decide +kernel), List.forall_mem_cons.mpr ⟨nk_fkc [(1, 142)] (by decide +kernel), fun _ h => absurd h List.not_mem_nil⟩⟩⟩, List.forall_mem_cons.mpr ⟨ca_X1_init_13 l, fun _ h => absurd h List.not_mem_nil⟩, fun _ h => absurd h List.not_mem_nil, fun _ h => absurd h List.not_mem_nil, fun _ h => absurd h List.not_mem_nil, fun _ h => absurd h List.not_mem_nil, fun _ h => absurd h List.not_mem_nil, by decide, rfl, rfl⟩ rfl (by decide)
/-! MarbleLaw$Heap.add(II)V -/
noncomputable def kt_X1_add : Nat → Option nk_I := fun pc => bif Nat.ble pc 14 then ((fun pc => bif Nat.ble pc 5 then ((fun pc => bif Nat.ble pc 1 then (bif Nat.ble pc 0 then (bif Nat.beq pc 0 then some (.aload_n 0, 1, 1, [], 0) else none)
  else (bif Nat.beq pc 1 then some (.getfield 9, 3, 4, [], 0) else none))
  else (bif Nat.ble pc 4 then (bif Nat.beq pc 4 then some (.aload_n 0, 1, 5, [], 0) else none)
  else (bif Nat.beq pc 5 then some (.getfield 18, 3, 8, [], 0) else none))) : nk_F) pc
  else ((fun pc => bif Nat.ble pc 9 then (bif Nat.ble pc 8 then (bif Nat.beq pc 8 then some (.iload_n 1, 1, 9, [], 0) else none)
  else (bif Nat.beq pc 9 then some (.iastore, 1, 10, [], 0) else none))
  else ((fun pc => bif Nat.ble pc 10 then (bif Nat.beq pc 10 then some (.aload_n 0, 1, 11, [], 0) else none)
  else (bif Nat.ble pc 11 then (bif Nat.beq pc 11 then some (.getfield 15, 3, 14, [], 0) else none)
  else (bif Nat.beq pc 14 then some (.aload_n 0, 1, 15, [], 0) else none))) : nk_F) pc) : nk_F) pc) : nk_F) pc
  else ((fun pc => bif Nat.ble pc 21 then ((fun pc => bif Nat.ble pc 18 then (bif Nat.ble pc 15 then (bif Nat.beq pc 15 then some (.getfield 18, 3, 18, [], 0) else none)
  else (bif Nat.beq pc 18 then some (.iload_n 2, 1, 19, [], 0) else none))
  else ((fun pc => bif Nat.ble pc 19 then (bif Nat.beq pc 19 then some (.iastore, 1, 20, [], 0) else none)
  else (bif Nat.ble pc 20 then (bif Nat.beq pc 20 then some (.aload_n 0, 1, 21, [], 0) else none)
  else (bif Nat.beq pc 21 then some (.dup, 1, 22, [], 0) else none))) : nk_F) pc) : nk_F) pc
  else ((fun pc => bif Nat.ble pc 25 then (bif Nat.ble pc 22 then (bif Nat.beq pc 22 then some (.getfield 18, 3, 25, [], 0) else none)
  else (bif Nat.beq pc 25 then some (.iconst 1, 1, 26, [], 1) else none))
  else ((fun pc => bif Nat.ble pc 26 then (bif Nat.beq pc 26 then some (.iadd, 1, 27, [], 0) else none)
  else (bif Nat.ble pc 27 then (bif Nat.beq pc 27 then some (.putfield 18, 3, 30, [], 0) else none)
  else (bif Nat.beq pc 30 then some (.return_, 1, 31, [], 0) else none))) : nk_F) pc) : nk_F) pc) : nk_F) pc
noncomputable def kc_X1_add : Nat → Option nk_I := nk_top 31 kt_X1_add
noncomputable def kx_X1_add : nk_T := ([(9, 1, 0, 4), (18, 1, 2, 0), (15, 1, 1, 4)], [], [], [], [], [], [], 0, false, 0, 0)
noncomputable def ev_X1_add : nk_Ev := fun as h Q => nk_if (Nat.ble (nk_wd as) 3) (nk_ev kx_X1_add kc_X1_add 3 as h Q)
set_option maxRecDepth 100000 in
theorem ck_X1_add : nk_chk cX1_add kc_X1_add 31 = true := nd_chk (by decide +kernel) (by decide +kernel)
set_option maxRecDepth 100000 in
set_option maxHeartbeats 4000000 in
theorem mt_X1_add (l : Launch) : nk_Met l yX1_add cX1_add 3 none { frames := 0, cells := 0, slots := 0, locals := 0 } false 0 0 ev_X1_add :=
  nk_met nk_gok (plainFor_of_name (by decide)) ck_X1_add (nk_top_out 31 kt_X1_add) ⟨List.forall_mem_cons.mpr ⟨nk_fkc [(1, 140)] (by decide +kernel), List.forall_mem_cons.mpr ⟨nk_fkc [(1, 142)] (by decide +kernel), List.forall_mem_cons.mpr ⟨nk_fkc [(1, 141)] (by decide +kernel), fun _ h => absurd h List.not_mem_nil⟩⟩⟩, fun _ h => absurd h List.not_mem_nil, fun _ h => absurd h List.not_mem_nil, fun _ h => absurd h List.not_mem_nil, fun _ h => absurd h List.not_mem_nil, fun _ h => absurd h List.not_mem_nil, fun _ h => absurd h List.not_mem_nil, by decide, rfl, rfl⟩ rfl (by decide)
/-! MarbleLaw$Heap.total()I -/
noncomputable def kt_X1_total : Nat → Option nk_I := fun pc => bif Nat.ble pc 12 then ((fun pc => bif Nat.ble pc 3 then ((fun pc => bif Nat.ble pc 1 then (bif Nat.ble pc 0 then (bif Nat.beq pc 0 then some (.iconst 0, 1, 1, [], 0) else none)
  else (bif Nat.beq pc 1 then some (.istore_n 1, 1, 2, [], 0) else none))
  else (bif Nat.ble pc 2 then (bif Nat.beq pc 2 then some (.iconst 0, 1, 3, [], 0) else none)
  else (bif Nat.beq pc 3 then some (.istore_n 2, 1, 4, [], 0) else none))) : nk_F) pc
  else ((fun pc => bif Nat.ble pc 5 then (bif Nat.ble pc 4 then (bif Nat.beq pc 4 then some (.iload_n 2, 1, 5, [], 0) else none)
  else (bif Nat.beq pc 5 then some (.aload_n 0, 1, 6, [], 0) else none))
  else ((fun pc => bif Nat.ble pc 6 then (bif Nat.beq pc 6 then some (.getfield 18, 3, 9, [], 0) else none)
  else (bif Nat.ble pc 9 then (bif Nat.beq pc 9 then some (.if_icmp .ge 18, 3, 12, [27], 0) else none)
  else (bif Nat.beq pc 12 then some (.iload_n 1, 1, 13, [], 0) else none))) : nk_F) pc) : nk_F) pc) : nk_F) pc
  else ((fun pc => bif Nat.ble pc 19 then ((fun pc => bif Nat.ble pc 14 then (bif Nat.ble pc 13 then (bif Nat.beq pc 13 then some (.aload_n 0, 1, 14, [], 0) else none)
  else (bif Nat.beq pc 14 then some (.getfield 15, 3, 17, [], 0) else none))
  else ((fun pc => bif Nat.ble pc 17 then (bif Nat.beq pc 17 then some (.iload_n 2, 1, 18, [], 0) else none)
  else (bif Nat.ble pc 18 then (bif Nat.beq pc 18 then some (.iaload, 1, 19, [], 0) else none)
  else (bif Nat.beq pc 19 then some (.iadd, 1, 20, [], 0) else none))) : nk_F) pc) : nk_F) pc
  else ((fun pc => bif Nat.ble pc 21 then (bif Nat.ble pc 20 then (bif Nat.beq pc 20 then some (.istore_n 1, 1, 21, [], 0) else none)
  else (bif Nat.beq pc 21 then some (.iinc 2 1, 3, 24, [], 1) else none))
  else ((fun pc => bif Nat.ble pc 24 then (bif Nat.beq pc 24 then some (.goto (-20), 3, 27, [4], 0) else none)
  else (bif Nat.ble pc 27 then (bif Nat.beq pc 27 then some (.iload_n 1, 1, 28, [], 0) else none)
  else (bif Nat.beq pc 28 then some (.ireturn, 1, 29, [], 0) else none))) : nk_F) pc) : nk_F) pc) : nk_F) pc
noncomputable def kc_X1_total : Nat → Option nk_I := nk_top 29 kt_X1_total
noncomputable def kx_X1_total : nk_T := ([(18, 1, 2, 0), (15, 1, 1, 4)], [], [], [], [], [], [], 1, false, 0, 0)
noncomputable def ev_X1_total : nk_Ev := fun as h Q => nk_if (Nat.ble (nk_wd as) 3) (nk_ev kx_X1_total kc_X1_total 3 as h Q)
set_option maxRecDepth 100000 in
theorem ck_X1_total : nk_chk cX1_total kc_X1_total 29 = true := nd_chk (by decide +kernel) (by decide +kernel)
set_option maxRecDepth 100000 in
set_option maxHeartbeats 4000000 in
theorem mt_X1_total (l : Launch) : nk_Met l yX1_total cX1_total 3 (some .int) { frames := 0, cells := 0, slots := 0, locals := 0 } false 0 0 ev_X1_total :=
  nk_met nk_gok (plainFor_of_name (by decide)) ck_X1_total (nk_top_out 29 kt_X1_total) ⟨List.forall_mem_cons.mpr ⟨nk_fkc [(1, 142)] (by decide +kernel), List.forall_mem_cons.mpr ⟨nk_fkc [(1, 141)] (by decide +kernel), fun _ h => absurd h List.not_mem_nil⟩⟩, fun _ h => absurd h List.not_mem_nil, fun _ h => absurd h List.not_mem_nil, fun _ h => absurd h List.not_mem_nil, fun _ h => absurd h List.not_mem_nil, fun _ h => absurd h List.not_mem_nil, fun _ h => absurd h List.not_mem_nil, by decide, rfl, rfl⟩ rfl (by decide)
/-! MarbleLaw$Heap.amountOf(I)I -/
noncomputable def kt_X1_amountOf : Nat → Option nk_I := fun pc => bif Nat.ble pc 18 then ((fun pc => bif Nat.ble pc 5 then ((fun pc => bif Nat.ble pc 2 then ((fun pc => bif Nat.ble pc 0 then (bif Nat.beq pc 0 then some (.iconst 0, 1, 1, [], 0) else none)
  else (bif Nat.ble pc 1 then (bif Nat.beq pc 1 then some (.istore_n 2, 1, 2, [], 0) else none)
  else (bif Nat.beq pc 2 then some (.iconst 0, 1, 3, [], 0) else none))) : nk_F) pc
  else ((fun pc => bif Nat.ble pc 3 then (bif Nat.beq pc 3 then some (.istore_n 3, 1, 4, [], 0) else none)
  else (bif Nat.ble pc 4 then (bif Nat.beq pc 4 then some (.iload_n 3, 1, 5, [], 0) else none)
  else (bif Nat.beq pc 5 then some (.aload_n 0, 1, 6, [], 0) else none))) : nk_F) pc) : nk_F) pc
  else ((fun pc => bif Nat.ble pc 12 then ((fun pc => bif Nat.ble pc 6 then (bif Nat.beq pc 6 then some (.getfield 18, 3, 9, [], 0) else none)
  else (bif Nat.ble pc 9 then (bif Nat.beq pc 9 then some (.if_icmp .ge 32, 3, 12, [41], 0) else none)
  else (bif Nat.beq pc 12 then some (.iload_n 2, 1, 13, [], 0) else none))) : nk_F) pc
  else ((fun pc => bif Nat.ble pc 14 then (bif Nat.ble pc 13 then (bif Nat.beq pc 13 then some (.aload_n 0, 1, 14, [], 0) else none)
  else (bif Nat.beq pc 14 then some (.getfield 9, 3, 17, [], 0) else none))
  else (bif Nat.ble pc 17 then (bif Nat.beq pc 17 then some (.iload_n 3, 1, 18, [], 0) else none)
  else (bif Nat.beq pc 18 then some (.iaload, 1, 19, [], 0) else none))) : nk_F) pc) : nk_F) pc) : nk_F) pc
  else ((fun pc => bif Nat.ble pc 29 then ((fun pc => bif Nat.ble pc 23 then ((fun pc => bif Nat.ble pc 19 then (bif Nat.beq pc 19 then some (.iload_n 1, 1, 20, [], 0) else none)
  else (bif Nat.ble pc 20 then (bif Nat.beq pc 20 then some (.if_icmp .ne 12, 3, 23, [32], 0) else none)
  else (bif Nat.beq pc 23 then some (.aload_n 0, 1, 24, [], 0) else none))) : nk_F) pc
  else ((fun pc => bif Nat.ble pc 27 then (bif Nat.ble pc 24 then (bif Nat.beq pc 24 then some (.getfield 15, 3, 27, [], 0) else none)
  else (bif Nat.beq pc 27 then some (.iload_n 3, 1, 28, [], 0) else none))
  else (bif Nat.ble pc 28 then (bif Nat.beq pc 28 then some (.iaload, 1, 29, [], 0) else none)
  else (bif Nat.beq pc 29 then some (.goto 4, 3, 32, [33], 0) else none))) : nk_F) pc) : nk_F) pc
  else ((fun pc => bif Nat.ble pc 34 then ((fun pc => bif Nat.ble pc 32 then (bif Nat.beq pc 32 then some (.iconst 0, 1, 33, [], 0) else none)
  else (bif Nat.ble pc 33 then (bif Nat.beq pc 33 then some (.iadd, 1, 34, [], 0) else none)
  else (bif Nat.beq pc 34 then some (.istore_n 2, 1, 35, [], 0) else none))) : nk_F) pc
  else ((fun pc => bif Nat.ble pc 38 then (bif Nat.ble pc 35 then (bif Nat.beq pc 35 then some (.iinc 3 1, 3, 38, [], 1) else none)
  else (bif Nat.beq pc 38 then some (.goto (-34), 3, 41, [4], 0) else none))
  else (bif Nat.ble pc 41 then (bif Nat.beq pc 41 then some (.iload_n 2, 1, 42, [], 0) else none)
  else (bif Nat.beq pc 42 then some (.ireturn, 1, 43, [], 0) else none))) : nk_F) pc) : nk_F) pc) : nk_F) pc
noncomputable def kc_X1_amountOf : Nat → Option nk_I := nk_top 43 kt_X1_amountOf
noncomputable def kx_X1_amountOf : nk_T := ([(18, 1, 2, 0), (9, 1, 0, 4), (15, 1, 1, 4)], [], [], [], [], [], [], 1, false, 0, 0)
noncomputable def ev_X1_amountOf : nk_Ev := fun as h Q => nk_if (Nat.ble (nk_wd as) 4) (nk_ev kx_X1_amountOf kc_X1_amountOf 4 as h Q)
set_option maxRecDepth 100000 in
theorem ck_X1_amountOf : nk_chk cX1_amountOf kc_X1_amountOf 43 = true := nd_chk (by decide +kernel) (by decide +kernel)
set_option maxRecDepth 100000 in
set_option maxHeartbeats 4000000 in
theorem mt_X1_amountOf (l : Launch) : nk_Met l yX1_amountOf cX1_amountOf 4 (some .int) { frames := 0, cells := 0, slots := 0, locals := 0 } false 0 0 ev_X1_amountOf :=
  nk_met nk_gok (plainFor_of_name (by decide)) ck_X1_amountOf (nk_top_out 43 kt_X1_amountOf) ⟨List.forall_mem_cons.mpr ⟨nk_fkc [(1, 142)] (by decide +kernel), List.forall_mem_cons.mpr ⟨nk_fkc [(1, 140)] (by decide +kernel), List.forall_mem_cons.mpr ⟨nk_fkc [(1, 141)] (by decide +kernel), fun _ h => absurd h List.not_mem_nil⟩⟩⟩, fun _ h => absurd h List.not_mem_nil, fun _ h => absurd h List.not_mem_nil, fun _ h => absurd h List.not_mem_nil, fun _ h => absurd h List.not_mem_nil, fun _ h => absurd h List.not_mem_nil, fun _ h => absurd h List.not_mem_nil, by decide, rfl, rfl⟩ rfl (by decide)
/-! MarbleLaw$Heap.asNumber(I)I -/
noncomputable def kt_X1_asNumber : Nat → Option nk_I := fun pc => bif Nat.ble pc 8 then ((fun pc => bif Nat.ble pc 3 then ((fun pc => bif Nat.ble pc 0 then (bif Nat.beq pc 0 then some (.bipush 10, 2, 2, [], 10) else none)
  else (bif Nat.ble pc 2 then (bif Nat.beq pc 2 then some (.aload_n 0, 1, 3, [], 0) else none)
  else (bif Nat.beq pc 3 then some (.getfield 15, 3, 6, [], 0) else none))) : nk_F) pc
  else ((fun pc => bif Nat.ble pc 6 then (bif Nat.beq pc 6 then some (.iload_n 1, 1, 7, [], 0) else none)
  else (bif Nat.ble pc 7 then (bif Nat.beq pc 7 then some (.iaload, 1, 8, [], 0) else none)
  else (bif Nat.beq pc 8 then some (.imul, 1, 9, [], 0) else none))) : nk_F) pc) : nk_F) pc
  else ((fun pc => bif Nat.ble pc 13 then ((fun pc => bif Nat.ble pc 9 then (bif Nat.beq pc 9 then some (.aload_n 0, 1, 10, [], 0) else none)
  else (bif Nat.ble pc 10 then (bif Nat.beq pc 10 then some (.getfield 9, 3, 13, [], 0) else none)
  else (bif Nat.beq pc 13 then some (.iload_n 1, 1, 14, [], 0) else none))) : nk_F) pc
  else ((fun pc => bif Nat.ble pc 14 then (bif Nat.beq pc 14 then some (.iaload, 1, 15, [], 0) else none)
  else (bif Nat.ble pc 15 then (bif Nat.beq pc 15 then some (.iadd, 1, 16, [], 0) else none)
  else (bif Nat.beq pc 16 then some (.ireturn, 1, 17, [], 0) else none))) : nk_F) pc) : nk_F) pc
noncomputable def kc_X1_asNumber : Nat → Option nk_I := nk_top 17 kt_X1_asNumber
noncomputable def kx_X1_asNumber : nk_T := ([(15, 1, 1, 4), (9, 1, 0, 4)], [], [], [], [], [], [], 1, false, 0, 0)
noncomputable def ev_X1_asNumber : nk_Ev := fun as h Q => nk_if (Nat.ble (nk_wd as) 2) (nk_ev kx_X1_asNumber kc_X1_asNumber 2 as h Q)
set_option maxRecDepth 100000 in
theorem ck_X1_asNumber : nk_chk cX1_asNumber kc_X1_asNumber 17 = true := nd_chk (by decide +kernel) (by decide +kernel)
set_option maxRecDepth 100000 in
set_option maxHeartbeats 4000000 in
theorem mt_X1_asNumber (l : Launch) : nk_Met l yX1_asNumber cX1_asNumber 2 (some .int) { frames := 0, cells := 0, slots := 0, locals := 0 } false 0 0 ev_X1_asNumber :=
  nk_met nk_gok (plainFor_of_name (by decide)) ck_X1_asNumber (nk_top_out 17 kt_X1_asNumber) ⟨List.forall_mem_cons.mpr ⟨nk_fkc [(1, 141)] (by decide +kernel), List.forall_mem_cons.mpr ⟨nk_fkc [(1, 140)] (by decide +kernel), fun _ h => absurd h List.not_mem_nil⟩⟩, fun _ h => absurd h List.not_mem_nil, fun _ h => absurd h List.not_mem_nil, fun _ h => absurd h List.not_mem_nil, fun _ h => absurd h List.not_mem_nil, fun _ h => absurd h List.not_mem_nil, fun _ h => absurd h List.not_mem_nil, by decide, rfl, rfl⟩ rfl (by decide)
/-! java/lang/Math.min(II)I -/
noncomputable def kt_J9_min_7cf53 : Nat → Option nk_I := fun pc => bif Nat.ble pc 2 then ((fun pc => bif Nat.ble pc 0 then (bif Nat.beq pc 0 then some (.iload_n 0, 1, 1, [], 0) else none)
  else (bif Nat.ble pc 1 then (bif Nat.beq pc 1 then some (.iload_n 1, 1, 2, [], 0) else none)
  else (bif Nat.beq pc 2 then some (.if_icmp .gt 7, 3, 5, [9], 0) else none))) : nk_F) pc
  else ((fun pc => bif Nat.ble pc 6 then (bif Nat.ble pc 5 then (bif Nat.beq pc 5 then some (.iload_n 0, 1, 6, [], 0) else none)
  else (bif Nat.beq pc 6 then some (.goto 4, 3, 9, [10], 0) else none))
  else (bif Nat.ble pc 9 then (bif Nat.beq pc 9 then some (.iload_n 1, 1, 10, [], 0) else none)
  else (bif Nat.beq pc 10 then some (.ireturn, 1, 11, [], 0) else none))) : nk_F) pc
noncomputable def kc_J9_min_7cf53 : Nat → Option nk_I := nk_top 11 kt_J9_min_7cf53
noncomputable def kx_J9_min_7cf53 : nk_T := ([], [], [], [], [], [], [], 1, false, 0, 0)
noncomputable def ev_J9_min_7cf53 : nk_Ev := fun as h Q => nk_if (Nat.ble (nk_wd as) 2) (nk_ev kx_J9_min_7cf53 kc_J9_min_7cf53 2 as h Q)
set_option maxRecDepth 100000 in
theorem ck_J9_min_7cf53 : nk_chk cJ9_min_7cf53 kc_J9_min_7cf53 11 = true := nd_chk (by decide +kernel) (by decide +kernel)
set_option maxRecDepth 100000 in
set_option maxHeartbeats 4000000 in
theorem mt_J9_min_7cf53 (l : Launch) : nk_Met l yJ9_min_7cf53 cJ9_min_7cf53 2 (some .int) { frames := 0, cells := 0, slots := 0, locals := 0 } false 0 0 ev_J9_min_7cf53 :=
  nk_met nk_gok (by decide +kernel) ck_J9_min_7cf53 (nk_top_out 11 kt_J9_min_7cf53) ⟨fun _ h => absurd h List.not_mem_nil, fun _ h => absurd h List.not_mem_nil, fun _ h => absurd h List.not_mem_nil, fun _ h => absurd h List.not_mem_nil, fun _ h => absurd h List.not_mem_nil, fun _ h => absurd h List.not_mem_nil, fun _ h => absurd h List.not_mem_nil, by decide, rfl, rfl⟩ rfl (by decide)
/-! MarbleLaw$Heap.take(II)I -/
noncomputable def kt_X1_take : Nat → Option nk_I := fun pc => bif Nat.ble pc 11 then ((fun pc => bif Nat.ble pc 5 then ((fun pc => bif Nat.ble pc 1 then (bif Nat.ble pc 0 then (bif Nat.beq pc 0 then some (.aload_n 0, 1, 1, [], 0) else none)
  else (bif Nat.beq pc 1 then some (.getfield 15, 3, 4, [], 0) else none))
  else (bif Nat.ble pc 4 then (bif Nat.beq pc 4 then some (.iload_n 1, 1, 5, [], 0) else none)
  else (bif Nat.beq pc 5 then some (.iaload, 1, 6, [], 0) else none))) : nk_F) pc
  else ((fun pc => bif Nat.ble pc 7 then (bif Nat.ble pc 6 then (bif Nat.beq pc 6 then some (.iload_n 2, 1, 7, [], 0) else none)
  else (bif Nat.beq pc 7 then some (.invokestatic 30, 3, 10, [], 0) else none))
  else (bif Nat.ble pc 10 then (bif Nat.beq pc 10 then some (.istore_n 3, 1, 11, [], 0) else none)
  else (bif Nat.beq pc 11 then some (.aload_n 0, 1, 12, [], 0) else none))) : nk_F) pc) : nk_F) pc
  else ((fun pc => bif Nat.ble pc 17 then ((fun pc => bif Nat.ble pc 15 then (bif Nat.ble pc 12 then (bif Nat.beq pc 12 then some (.getfield 15, 3, 15, [], 0) else none)
  else (bif Nat.beq pc 15 then some (.iload_n 1, 1, 16, [], 0) else none))
  else (bif Nat.ble pc 16 then (bif Nat.beq pc 16 then some (.dup2, 1, 17, [], 0) else none)
  else (bif Nat.beq pc 17 then some (.iaload, 1, 18, [], 0) else none))) : nk_F) pc
  else ((fun pc => bif Nat.ble pc 19 then (bif Nat.ble pc 18 then (bif Nat.beq pc 18 then some (.iload_n 3, 1, 19, [], 0) else none)
  else (bif Nat.beq pc 19 then some (.isub, 1, 20, [], 0) else none))
  else ((fun pc => bif Nat.ble pc 20 then (bif Nat.beq pc 20 then some (.iastore, 1, 21, [], 0) else none)
  else (bif Nat.ble pc 21 then (bif Nat.beq pc 21 then some (.iload_n 3, 1, 22, [], 0) else none)
  else (bif Nat.beq pc 22 then some (.ireturn, 1, 23, [], 0) else none))) : nk_F) pc) : nk_F) pc) : nk_F) pc
noncomputable def kc_X1_take : Nat → Option nk_I := nk_top 23 kt_X1_take
noncomputable def kx_X1_take : nk_T := ([(15, 1, 1, 4)], [(122, 2, 0, 0, 0, ev_J9_min_7cf53)], [], [], [], [], [], 1, false, 0, 0)
noncomputable def ev_X1_take : nk_Ev := fun as h Q => nk_if (Nat.ble (nk_wd as) 4) (nk_ev kx_X1_take kc_X1_take 4 as h Q)
set_option maxRecDepth 100000 in
theorem ck_X1_take : nk_chk cX1_take kc_X1_take 23 = true := nd_chk (by decide +kernel) (by decide +kernel)
set_option maxRecDepth 100000 in
set_option maxHeartbeats 4000000 in
theorem ca_X1_take_122 (l : Launch) : nk_CallOk l { frames := 1, cells := 0, slots := 0, locals := 21 } RX1 cX1_take 4 false 122 (2, 0, 0, 0, ev_J9_min_7cf53) := nk_callS (x := 30) (n := 2) (mt_J9_min_7cf53 l) (nk_msc [(3, 102), (3, 103), (3, 104), (1, 9)] (by decide +kernel)) rfl rfl (by decide +kernel) ⟨by decide, by decide⟩
set_option maxRecDepth 100000 in
set_option maxHeartbeats 4000000 in
theorem mt_X1_take (l : Launch) : nk_Met l yX1_take cX1_take 4 (some .int) { frames := 1, cells := 0, slots := 0, locals := 21 } false 0 0 ev_X1_take :=
  nk_met nk_gok (plainFor_of_name (by decide)) ck_X1_take (nk_top_out 23 kt_X1_take) ⟨List.forall_mem_cons.mpr ⟨nk_fkc [(1, 141)] (by decide +kernel), fun _ h => absurd h List.not_mem_nil⟩, List.forall_mem_cons.mpr ⟨ca_X1_take_122 l, fun _ h => absurd h List.not_mem_nil⟩, fun _ h => absurd h List.not_mem_nil, fun _ h => absurd h List.not_mem_nil, fun _ h => absurd h List.not_mem_nil, fun _ h => absurd h List.not_mem_nil, fun _ h => absurd h List.not_mem_nil, by decide, rfl, rfl⟩ rfl (by decide)
/-! MarbleLaw$Heap.drawFromFirst(I)V -/
noncomputable def kt_X1_drawFromFirst : Nat → Option nk_I := fun pc => bif Nat.ble pc 12 then ((fun pc => bif Nat.ble pc 3 then ((fun pc => bif Nat.ble pc 1 then (bif Nat.ble pc 0 then (bif Nat.beq pc 0 then some (.iload_n 1, 1, 1, [], 0) else none)
  else (bif Nat.beq pc 1 then some (.istore_n 2, 1, 2, [], 0) else none))
  else (bif Nat.ble pc 2 then (bif Nat.beq pc 2 then some (.iconst 0, 1, 3, [], 0) else none)
  else (bif Nat.beq pc 3 then some (.istore_n 3, 1, 4, [], 0) else none))) : nk_F) pc
  else ((fun pc => bif Nat.ble pc 5 then (bif Nat.ble pc 4 then (bif Nat.beq pc 4 then some (.iload_n 3, 1, 5, [], 0) else none)
  else (bif Nat.beq pc 5 then some (.aload_n 0, 1, 6, [], 0) else none))
  else ((fun pc => bif Nat.ble pc 6 then (bif Nat.beq pc 6 then some (.getfield 18, 3, 9, [], 0) else none)
  else (bif Nat.ble pc 9 then (bif Nat.beq pc 9 then some (.if_icmp .ge 18, 3, 12, [27], 0) else none)
  else (bif Nat.beq pc 12 then some (.iload_n 2, 1, 13, [], 0) else none))) : nk_F) pc) : nk_F) pc) : nk_F) pc
  else ((fun pc => bif Nat.ble pc 16 then ((fun pc => bif Nat.ble pc 14 then (bif Nat.ble pc 13 then (bif Nat.beq pc 13 then some (.aload_n 0, 1, 14, [], 0) else none)
  else (bif Nat.beq pc 14 then some (.iload_n 3, 1, 15, [], 0) else none))
  else (bif Nat.ble pc 15 then (bif Nat.beq pc 15 then some (.iload_n 2, 1, 16, [], 0) else none)
  else (bif Nat.beq pc 16 then some (.invokevirtual 22, 3, 19, [], 0) else none))) : nk_F) pc
  else ((fun pc => bif Nat.ble pc 20 then (bif Nat.ble pc 19 then (bif Nat.beq pc 19 then some (.isub, 1, 20, [], 0) else none)
  else (bif Nat.beq pc 20 then some (.istore_n 2, 1, 21, [], 0) else none))
  else ((fun pc => bif Nat.ble pc 21 then (bif Nat.beq pc 21 then some (.iinc 3 1, 3, 24, [], 1) else none)
  else (bif Nat.ble pc 24 then (bif Nat.beq pc 24 then some (.goto (-20), 3, 27, [4], 0) else none)
  else (bif Nat.beq pc 27 then some (.return_, 1, 28, [], 0) else none))) : nk_F) pc) : nk_F) pc) : nk_F) pc
noncomputable def kc_X1_drawFromFirst : Nat → Option nk_I := nk_top 28 kt_X1_drawFromFirst
noncomputable def kx_X1_drawFromFirst : nk_T := ([(18, 1, 2, 0)], [(88, 3, 2, 0, 0, ev_X1_take)], [], [], [], [], [], 0, false, 0, 0)
noncomputable def ev_X1_drawFromFirst : nk_Ev := fun as h Q => nk_if (Nat.ble (nk_wd as) 4) (nk_ev kx_X1_drawFromFirst kc_X1_drawFromFirst 4 as h Q)
set_option maxRecDepth 100000 in
theorem ck_X1_drawFromFirst : nk_chk cX1_drawFromFirst kc_X1_drawFromFirst 28 = true := nd_chk (by decide +kernel) (by decide +kernel)
set_option maxRecDepth 100000 in
set_option maxHeartbeats 4000000 in
theorem ca_X1_drawFromFirst_88 (l : Launch) : nk_CallOk l { frames := 2, cells := 0, slots := 0, locals := 44 } RX1 cX1_drawFromFirst 4 false 88 (3, 2, 0, 0, ev_X1_take) := nk_callV (x := 22) (n := 2) (ci := 1) (r := (RX1, TX1, 3)) (mt_X1_take l) rfl (nk_msc [(3, 98), (3, 99), (3, 100), (3, 101), (0, 24), (1, 6)] (by decide +kernel)) rfl rfl (by decide +kernel) ⟨by decide, by decide⟩
set_option maxRecDepth 100000 in
set_option maxHeartbeats 4000000 in
theorem mt_X1_drawFromFirst (l : Launch) : nk_Met l yX1_drawFromFirst cX1_drawFromFirst 4 none { frames := 2, cells := 0, slots := 0, locals := 44 } false 0 0 ev_X1_drawFromFirst :=
  nk_met nk_gok (plainFor_of_name (by decide)) ck_X1_drawFromFirst (nk_top_out 28 kt_X1_drawFromFirst) ⟨List.forall_mem_cons.mpr ⟨nk_fkc [(1, 142)] (by decide +kernel), fun _ h => absurd h List.not_mem_nil⟩, List.forall_mem_cons.mpr ⟨ca_X1_drawFromFirst_88 l, fun _ h => absurd h List.not_mem_nil⟩, fun _ h => absurd h List.not_mem_nil, fun _ h => absurd h List.not_mem_nil, fun _ h => absurd h List.not_mem_nil, fun _ h => absurd h List.not_mem_nil, fun _ h => absurd h List.not_mem_nil, by decide, rfl, rfl⟩ rfl (by decide)
/-! MarbleLaw$Heap.drawByParts(I)V -/
noncomputable def kt_X1_drawByParts : Nat → Option nk_I := fun pc => bif Nat.ble pc 37 then ((fun pc => bif Nat.ble pc 17 then ((fun pc => bif Nat.ble pc 9 then ((fun pc => bif Nat.ble pc 4 then ((fun pc => bif Nat.ble pc 0 then (bif Nat.beq pc 0 then some (.aload_n 0, 1, 1, [], 0) else none)
  else (bif Nat.ble pc 1 then (bif Nat.beq pc 1 then some (.invokevirtual 26, 3, 4, [], 0) else none)
  else (bif Nat.beq pc 4 then some (.istore_n 2, 1, 5, [], 0) else none))) : nk_F) pc
  else ((fun pc => bif Nat.ble pc 5 then (bif Nat.beq pc 5 then some (.iload_n 2, 1, 6, [], 0) else none)
  else (bif Nat.ble pc 6 then (bif Nat.beq pc 6 then some (.ifCond .ne 4, 3, 9, [10], 0) else none)
  else (bif Nat.beq pc 9 then some (.return_, 1, 10, [], 0) else none))) : nk_F) pc) : nk_F) pc
  else ((fun pc => bif Nat.ble pc 12 then ((fun pc => bif Nat.ble pc 10 then (bif Nat.beq pc 10 then some (.iload_n 1, 1, 11, [], 0) else none)
  else (bif Nat.ble pc 11 then (bif Nat.beq pc 11 then some (.istore_n 3, 1, 12, [], 0) else none)
  else (bif Nat.beq pc 12 then some (.iconst 0, 1, 13, [], 0) else none))) : nk_F) pc
  else ((fun pc => bif Nat.ble pc 13 then (bif Nat.beq pc 13 then some (.istore 4, 2, 15, [], 0) else none)
  else (bif Nat.ble pc 15 then (bif Nat.beq pc 15 then some (.iload 4, 2, 17, [], 0) else none)
  else (bif Nat.beq pc 17 then some (.aload_n 0, 1, 18, [], 0) else none))) : nk_F) pc) : nk_F) pc) : nk_F) pc
  else ((fun pc => bif Nat.ble pc 28 then ((fun pc => bif Nat.ble pc 24 then ((fun pc => bif Nat.ble pc 18 then (bif Nat.beq pc 18 then some (.getfield 18, 3, 21, [], 0) else none)
  else (bif Nat.ble pc 21 then (bif Nat.beq pc 21 then some (.if_icmp .ge 29, 3, 24, [50], 0) else none)
  else (bif Nat.beq pc 24 then some (.iload_n 3, 1, 25, [], 0) else none))) : nk_F) pc
  else ((fun pc => bif Nat.ble pc 25 then (bif Nat.beq pc 25 then some (.aload_n 0, 1, 26, [], 0) else none)
  else (bif Nat.ble pc 26 then (bif Nat.beq pc 26 then some (.iload 4, 2, 28, [], 0) else none)
  else (bif Nat.beq pc 28 then some (.aload_n 0, 1, 29, [], 0) else none))) : nk_F) pc) : nk_F) pc
  else ((fun pc => bif Nat.ble pc 34 then ((fun pc => bif Nat.ble pc 29 then (bif Nat.beq pc 29 then some (.getfield 15, 3, 32, [], 0) else none)
  else (bif Nat.ble pc 32 then (bif Nat.beq pc 32 then some (.iload 4, 2, 34, [], 0) else none)
  else (bif Nat.beq pc 34 then some (.iaload, 1, 35, [], 0) else none))) : nk_F) pc
  else ((fun pc => bif Nat.ble pc 35 then (bif Nat.beq pc 35 then some (.iload_n 1, 1, 36, [], 0) else none)
  else (bif Nat.ble pc 36 then (bif Nat.beq pc 36 then some (.imul, 1, 37, [], 0) else none)
  else (bif Nat.beq pc 37 then some (.iload_n 2, 1, 38, [], 0) else none))) : nk_F) pc) : nk_F) pc) : nk_F) pc) : nk_F) pc
  else ((fun pc => bif Nat.ble pc 59 then ((fun pc => bif Nat.ble pc 47 then ((fun pc => bif Nat.ble pc 42 then ((fun pc => bif Nat.ble pc 38 then (bif Nat.beq pc 38 then some (.idiv, 1, 39, [], 0) else none)
  else (bif Nat.ble pc 39 then (bif Nat.beq pc 39 then some (.invokevirtual 22, 3, 42, [], 0) else none)
  else (bif Nat.beq pc 42 then some (.isub, 1, 43, [], 0) else none))) : nk_F) pc
  else ((fun pc => bif Nat.ble pc 43 then (bif Nat.beq pc 43 then some (.istore_n 3, 1, 44, [], 0) else none)
  else (bif Nat.ble pc 44 then (bif Nat.beq pc 44 then some (.iinc 4 1, 3, 47, [], 1) else none)
  else (bif Nat.beq pc 47 then some (.goto (-32), 3, 50, [15], 0) else none))) : nk_F) pc) : nk_F) pc
  else ((fun pc => bif Nat.ble pc 53 then ((fun pc => bif Nat.ble pc 50 then (bif Nat.beq pc 50 then some (.iconst 0, 1, 51, [], 0) else none)
  else (bif Nat.ble pc 51 then (bif Nat.beq pc 51 then some (.istore 4, 2, 53, [], 0) else none)
  else (bif Nat.beq pc 53 then some (.iload 4, 2, 55, [], 0) else none))) : nk_F) pc
  else ((fun pc => bif Nat.ble pc 55 then (bif Nat.beq pc 55 then some (.aload_n 0, 1, 56, [], 0) else none)
  else (bif Nat.ble pc 56 then (bif Nat.beq pc 56 then some (.getfield 18, 3, 59, [], 0) else none)
  else (bif Nat.beq pc 59 then some (.if_icmp .ge 23, 3, 62, [82], 0) else none))) : nk_F) pc) : nk_F) pc) : nk_F) pc
  else ((fun pc => bif Nat.ble pc 68 then ((fun pc => bif Nat.ble pc 64 then ((fun pc => bif Nat.ble pc 62 then (bif Nat.beq pc 62 then some (.iload_n 3, 1, 63, [], 0) else none)
  else (bif Nat.ble pc 63 then (bif Nat.beq pc 63 then some (.aload_n 0, 1, 64, [], 0) else none)
  else (bif Nat.beq pc 64 then some (.iload 4, 2, 66, [], 0) else none))) : nk_F) pc
  else ((fun pc => bif Nat.ble pc 66 then (bif Nat.beq pc 66 then some (.iload_n 3, 1, 67, [], 0) else none)
  else (bif Nat.ble pc 67 then (bif Nat.beq pc 67 then some (.iconst 1, 1, 68, [], 1) else none)
  else (bif Nat.beq pc 68 then some (.invokestatic 30, 3, 71, [], 0) else none))) : nk_F) pc) : nk_F) pc
  else ((fun pc => bif Nat.ble pc 75 then ((fun pc => bif Nat.ble pc 71 then (bif Nat.beq pc 71 then some (.invokevirtual 22, 3, 74, [], 0) else none)
  else (bif Nat.ble pc 74 then (bif Nat.beq pc 74 then some (.isub, 1, 75, [], 0) else none)
  else (bif Nat.beq pc 75 then some (.istore_n 3, 1, 76, [], 0) else none))) : nk_F) pc
  else ((fun pc => bif Nat.ble pc 76 then (bif Nat.beq pc 76 then some (.iinc 4 1, 3, 79, [], 1) else none)
  else (bif Nat.ble pc 79 then (bif Nat.beq pc 79 then some (.goto (-26), 3, 82, [53], 0) else none)
  else (bif Nat.beq pc 82 then some (.return_, 1, 83, [], 0) else none))) : nk_F) pc) : nk_F) pc) : nk_F) pc) : nk_F) pc
noncomputable def kc_X1_drawByParts : Nat → Option nk_I := nk_top 83 kt_X1_drawByParts
noncomputable def kx_X1_drawByParts : nk_T := ([(18, 1, 2, 0), (15, 1, 1, 4)], [(104, 1, 2, 0, 0, ev_X1_total), (88, 3, 2, 0, 0, ev_X1_take), (122, 2, 0, 0, 0, ev_J9_min_7cf53)], [], [], [], [], [], 0, false, 0, 0)
noncomputable def ev_X1_drawByParts : nk_Ev := fun as h Q => nk_if (Nat.ble (nk_wd as) 5) (nk_ev kx_X1_drawByParts kc_X1_drawByParts 5 as h Q)
set_option maxRecDepth 100000 in
theorem ck_X1_drawByParts : nk_chk cX1_drawByParts kc_X1_drawByParts 83 = true := nd_chk (by decide +kernel) (by decide +kernel)
set_option maxRecDepth 100000 in
set_option maxHeartbeats 4000000 in
theorem ca_X1_drawByParts_104 (l : Launch) : nk_CallOk l { frames := 2, cells := 0, slots := 0, locals := 44 } RX1 cX1_drawByParts 5 false 104 (1, 2, 0, 0, ev_X1_total) := nk_callV (x := 26) (n := 0) (ci := 1) (r := (RX1, TX1, 3)) (mt_X1_total l) rfl (nk_msc [(3, 109), (3, 91), (3, 92), (3, 93), (1, 6)] (by decide +kernel)) rfl rfl (by decide +kernel) ⟨by decide, by decide⟩
set_option maxRecDepth 100000 in
set_option maxHeartbeats 4000000 in
theorem ca_X1_drawByParts_88 (l : Launch) : nk_CallOk l { frames := 2, cells := 0, slots := 0, locals := 44 } RX1 cX1_drawByParts 5 false 88 (3, 2, 0, 0, ev_X1_take) := nk_callV (x := 22) (n := 2) (ci := 1) (r := (RX1, TX1, 3)) (mt_X1_take l) rfl (nk_msc [(3, 98), (3, 99), (3, 100), (3, 101), (0, 24), (1, 6)] (by decide +kernel)) rfl rfl (by decide +kernel) ⟨by decide, by decide⟩
set_option maxRecDepth 100000 in
set_option maxHeartbeats 4000000 in
theorem ca_X1_drawByParts_122 (l : Launch) : nk_CallOk l { frames := 2, cells := 0, slots := 0, locals := 44 } RX1 cX1_drawByParts 5 false 122 (2, 0, 0, 0, ev_J9_min_7cf53) := nk_callS (x := 30) (n := 2) (mt_J9_min_7cf53 l) (nk_msc [(3, 102), (3, 103), (3, 104), (1, 9)] (by decide +kernel)) rfl rfl (by decide +kernel) ⟨by decide, by decide⟩
set_option maxRecDepth 100000 in
set_option maxHeartbeats 4000000 in
theorem mt_X1_drawByParts (l : Launch) : nk_Met l yX1_drawByParts cX1_drawByParts 5 none { frames := 2, cells := 0, slots := 0, locals := 44 } false 0 0 ev_X1_drawByParts :=
  nk_met nk_gok (plainFor_of_name (by decide)) ck_X1_drawByParts (nk_top_out 83 kt_X1_drawByParts) ⟨List.forall_mem_cons.mpr ⟨nk_fkc [(1, 142)] (by decide +kernel), List.forall_mem_cons.mpr ⟨nk_fkc [(1, 141)] (by decide +kernel), fun _ h => absurd h List.not_mem_nil⟩⟩, List.forall_mem_cons.mpr ⟨ca_X1_drawByParts_104 l, List.forall_mem_cons.mpr ⟨ca_X1_drawByParts_88 l, List.forall_mem_cons.mpr ⟨ca_X1_drawByParts_122 l, fun _ h => absurd h List.not_mem_nil⟩⟩⟩, fun _ h => absurd h List.not_mem_nil, fun _ h => absurd h List.not_mem_nil, fun _ h => absurd h List.not_mem_nil, fun _ h => absurd h List.not_mem_nil, fun _ h => absurd h List.not_mem_nil, by decide, rfl, rfl⟩ rfl (by decide)
/-! MarbleLaw$Heap.drawFromLast(II)V -/
noncomputable def kt_X1_drawFromLast : Nat → Option nk_I := fun pc => bif Nat.ble pc 34 then ((fun pc => bif Nat.ble pc 15 then ((fun pc => bif Nat.ble pc 6 then ((fun pc => bif Nat.ble pc 1 then (bif Nat.ble pc 0 then (bif Nat.beq pc 0 then some (.iload_n 1, 1, 1, [], 0) else none)
  else (bif Nat.beq pc 1 then some (.istore_n 3, 1, 2, [], 0) else none))
  else ((fun pc => bif Nat.ble pc 2 then (bif Nat.beq pc 2 then some (.aload_n 0, 1, 3, [], 0) else none)
  else (bif Nat.ble pc 3 then (bif Nat.beq pc 3 then some (.getfield 18, 3, 6, [], 0) else none)
  else (bif Nat.beq pc 6 then some (.iconst 1, 1, 7, [], 1) else none))) : nk_F) pc) : nk_F) pc
  else ((fun pc => bif Nat.ble pc 8 then (bif Nat.ble pc 7 then (bif Nat.beq pc 7 then some (.isub, 1, 8, [], 0) else none)
  else (bif Nat.beq pc 8 then some (.istore 4, 2, 10, [], 0) else none))
  else ((fun pc => bif Nat.ble pc 10 then (bif Nat.beq pc 10 then some (.iload 4, 2, 12, [], 0) else none)
  else (bif Nat.ble pc 12 then (bif Nat.beq pc 12 then some (.ifCond .lt 34, 3, 15, [46], 0) else none)
  else (bif Nat.beq pc 15 then some (.iload_n 3, 1, 16, [], 0) else none))) : nk_F) pc) : nk_F) pc) : nk_F) pc
  else ((fun pc => bif Nat.ble pc 23 then ((fun pc => bif Nat.ble pc 17 then (bif Nat.ble pc 16 then (bif Nat.beq pc 16 then some (.aload_n 0, 1, 17, [], 0) else none)
  else (bif Nat.beq pc 17 then some (.getfield 9, 3, 20, [], 0) else none))
  else ((fun pc => bif Nat.ble pc 20 then (bif Nat.beq pc 20 then some (.iload 4, 2, 22, [], 0) else none)
  else (bif Nat.ble pc 22 then (bif Nat.beq pc 22 then some (.iaload, 1, 23, [], 0) else none)
  else (bif Nat.beq pc 23 then some (.iload_n 2, 1, 24, [], 0) else none))) : nk_F) pc) : nk_F) pc
  else ((fun pc => bif Nat.ble pc 28 then ((fun pc => bif Nat.ble pc 24 then (bif Nat.beq pc 24 then some (.if_icmp .ne 7, 3, 27, [31], 0) else none)
  else (bif Nat.ble pc 27 then (bif Nat.beq pc 27 then some (.iconst 0, 1, 28, [], 0) else none)
  else (bif Nat.beq pc 28 then some (.goto 10, 3, 31, [38], 0) else none))) : nk_F) pc
  else ((fun pc => bif Nat.ble pc 31 then (bif Nat.beq pc 31 then some (.aload_n 0, 1, 32, [], 0) else none)
  else (bif Nat.ble pc 32 then (bif Nat.beq pc 32 then some (.iload 4, 2, 34, [], 0) else none)
  else (bif Nat.beq pc 34 then some (.iload_n 3, 1, 35, [], 0) else none))) : nk_F) pc) : nk_F) pc) : nk_F) pc) : nk_F) pc
  else ((fun pc => bif Nat.ble pc 54 then ((fun pc => bif Nat.ble pc 43 then ((fun pc => bif Nat.ble pc 38 then (bif Nat.ble pc 35 then (bif Nat.beq pc 35 then some (.invokevirtual 22, 3, 38, [], 0) else none)
  else (bif Nat.beq pc 38 then some (.isub, 1, 39, [], 0) else none))
  else ((fun pc => bif Nat.ble pc 39 then (bif Nat.beq pc 39 then some (.istore_n 3, 1, 40, [], 0) else none)
  else (bif Nat.ble pc 40 then (bif Nat.beq pc 40 then some (.iinc 4 (-1), 3, 43, [], (-1)) else none)
  else (bif Nat.beq pc 43 then some (.goto (-33), 3, 46, [10], 0) else none))) : nk_F) pc) : nk_F) pc
  else ((fun pc => bif Nat.ble pc 50 then ((fun pc => bif Nat.ble pc 46 then (bif Nat.beq pc 46 then some (.aload_n 0, 1, 47, [], 0) else none)
  else (bif Nat.ble pc 47 then (bif Nat.beq pc 47 then some (.getfield 18, 3, 50, [], 0) else none)
  else (bif Nat.beq pc 50 then some (.iconst 1, 1, 51, [], 1) else none))) : nk_F) pc
  else ((fun pc => bif Nat.ble pc 51 then (bif Nat.beq pc 51 then some (.isub, 1, 52, [], 0) else none)
  else (bif Nat.ble pc 52 then (bif Nat.beq pc 52 then some (.istore 4, 2, 54, [], 0) else none)
  else (bif Nat.beq pc 54 then some (.iload 4, 2, 56, [], 0) else none))) : nk_F) pc) : nk_F) pc) : nk_F) pc
  else ((fun pc => bif Nat.ble pc 63 then ((fun pc => bif Nat.ble pc 59 then (bif Nat.ble pc 56 then (bif Nat.beq pc 56 then some (.ifCond .lt 19, 3, 59, [75], 0) else none)
  else (bif Nat.beq pc 59 then some (.iload_n 3, 1, 60, [], 0) else none))
  else ((fun pc => bif Nat.ble pc 60 then (bif Nat.beq pc 60 then some (.aload_n 0, 1, 61, [], 0) else none)
  else (bif Nat.ble pc 61 then (bif Nat.beq pc 61 then some (.iload 4, 2, 63, [], 0) else none)
  else (bif Nat.beq pc 63 then some (.iload_n 3, 1, 64, [], 0) else none))) : nk_F) pc) : nk_F) pc
  else ((fun pc => bif Nat.ble pc 68 then ((fun pc => bif Nat.ble pc 64 then (bif Nat.beq pc 64 then some (.invokevirtual 22, 3, 67, [], 0) else none)
  else (bif Nat.ble pc 67 then (bif Nat.beq pc 67 then some (.isub, 1, 68, [], 0) else none)
  else (bif Nat.beq pc 68 then some (.istore_n 3, 1, 69, [], 0) else none))) : nk_F) pc
  else ((fun pc => bif Nat.ble pc 69 then (bif Nat.beq pc 69 then some (.iinc 4 (-1), 3, 72, [], (-1)) else none)
  else (bif Nat.ble pc 72 then (bif Nat.beq pc 72 then some (.goto (-18), 3, 75, [54], 0) else none)
  else (bif Nat.beq pc 75 then some (.return_, 1, 76, [], 0) else none))) : nk_F) pc) : nk_F) pc) : nk_F) pc) : nk_F) pc
noncomputable def kc_X1_drawFromLast : Nat → Option nk_I := nk_top 76 kt_X1_drawFromLast
noncomputable def kx_X1_drawFromLast : nk_T := ([(18, 1, 2, 0), (9, 1, 0, 4)], [(88, 3, 2, 0, 0, ev_X1_take)], [], [], [], [], [], 0, false, 0, 0)
noncomputable def ev_X1_drawFromLast : nk_Ev := fun as h Q => nk_if (Nat.ble (nk_wd as) 5) (nk_ev kx_X1_drawFromLast kc_X1_drawFromLast 5 as h Q)
set_option maxRecDepth 100000 in
theorem ck_X1_drawFromLast : nk_chk cX1_drawFromLast kc_X1_drawFromLast 76 = true := nd_chk (by decide +kernel) (by decide +kernel)
set_option maxRecDepth 100000 in
set_option maxHeartbeats 4000000 in
theorem ca_X1_drawFromLast_88 (l : Launch) : nk_CallOk l { frames := 2, cells := 0, slots := 0, locals := 44 } RX1 cX1_drawFromLast 5 false 88 (3, 2, 0, 0, ev_X1_take) := nk_callV (x := 22) (n := 2) (ci := 1) (r := (RX1, TX1, 3)) (mt_X1_take l) rfl (nk_msc [(3, 98), (3, 99), (3, 100), (3, 101), (0, 24), (1, 6)] (by decide +kernel)) rfl rfl (by decide +kernel) ⟨by decide, by decide⟩
set_option maxRecDepth 100000 in
set_option maxHeartbeats 4000000 in
theorem mt_X1_drawFromLast (l : Launch) : nk_Met l yX1_drawFromLast cX1_drawFromLast 5 none { frames := 2, cells := 0, slots := 0, locals := 44 } false 0 0 ev_X1_drawFromLast :=
  nk_met nk_gok (plainFor_of_name (by decide)) ck_X1_drawFromLast (nk_top_out 76 kt_X1_drawFromLast) ⟨List.forall_mem_cons.mpr ⟨nk_fkc [(1, 142)] (by decide +kernel), List.forall_mem_cons.mpr ⟨nk_fkc [(1, 140)] (by decide +kernel), fun _ h => absurd h List.not_mem_nil⟩⟩, List.forall_mem_cons.mpr ⟨ca_X1_drawFromLast_88 l, fun _ h => absurd h List.not_mem_nil⟩, fun _ h => absurd h List.not_mem_nil, fun _ h => absurd h List.not_mem_nil, fun _ h => absurd h List.not_mem_nil, fun _ h => absurd h List.not_mem_nil, fun _ h => absurd h List.not_mem_nil, by decide, rfl, rfl⟩ rfl (by decide)
