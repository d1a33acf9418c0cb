/-! MarbleLaw.tear(I)I -/
noncomputable def kt_X5_tear : Nat → Option nk_I := fun pc => bif Nat.ble pc 20 then ((fun pc => bif Nat.ble pc 10 then ((fun pc => bif Nat.ble pc 3 then ((fun pc => bif Nat.ble pc 0 then (bif Nat.beq pc 0 then some (.iload_n 1, 1, 1, [], 0) else none)
  else (bif Nat.ble pc 1 then (bif Nat.beq pc 1 then some (.bipush 6, 2, 3, [], 6) else none)
  else (bif Nat.beq pc 3 then some (.invokestatic 84, 3, 6, [], 0) else none))) : nk_F) pc
  else ((fun pc => bif Nat.ble pc 6 then (bif Nat.beq pc 6 then some (.ifCond .ne 5, 3, 9, [11], 0) else none)
  else (bif Nat.ble pc 9 then (bif Nat.beq pc 9 then some (.iconst (-1), 1, 10, [], (-1)) else none)
  else (bif Nat.beq pc 10 then some (.ireturn, 1, 11, [], 0) else none))) : nk_F) pc) : nk_F) pc
  else ((fun pc => bif Nat.ble pc 15 then ((fun pc => bif Nat.ble pc 11 then (bif Nat.beq pc 11 then some (.aload_n 0, 1, 12, [], 0) else none)
  else (bif Nat.ble pc 12 then (bif Nat.beq pc 12 then some (.getfield 11, 3, 15, [], 0) else none)
  else (bif Nat.beq pc 15 then some (.iload_n 1, 1, 16, [], 0) else none))) : nk_F) pc
  else ((fun pc => bif Nat.ble pc 16 then (bif Nat.beq pc 16 then some (.aaload, 1, 17, [], 0) else none)
  else (bif Nat.ble pc 17 then (bif Nat.beq pc 17 then some (.invokevirtual 88, 3, 20, [], 0) else none)
  else (bif Nat.beq pc 20 then some (.ifCond .eq 9, 3, 23, [29], 0) else none))) : nk_F) pc) : nk_F) pc) : nk_F) pc
  else ((fun pc => bif Nat.ble pc 30 then ((fun pc => bif Nat.ble pc 25 then ((fun pc => bif Nat.ble pc 23 then (bif Nat.beq pc 23 then some (.aload_n 0, 1, 24, [], 0) else none)
  else (bif Nat.ble pc 24 then (bif Nat.beq pc 24 then some (.iconst 1, 1, 25, [], 1) else none)
  else (bif Nat.beq pc 25 then some (.invokevirtual 92, 3, 28, [], 0) else none))) : nk_F) pc
  else ((fun pc => bif Nat.ble pc 28 then (bif Nat.beq pc 28 then some (.ireturn, 1, 29, [], 0) else none)
  else (bif Nat.ble pc 29 then (bif Nat.beq pc 29 then some (.aload_n 0, 1, 30, [], 0) else none)
  else (bif Nat.beq pc 30 then some (.getfield 11, 3, 33, [], 0) else none))) : nk_F) pc) : nk_F) pc
  else ((fun pc => bif Nat.ble pc 35 then ((fun pc => bif Nat.ble pc 33 then (bif Nat.beq pc 33 then some (.iload_n 1, 1, 34, [], 0) else none)
  else (bif Nat.ble pc 34 then (bif Nat.beq pc 34 then some (.aaload, 1, 35, [], 0) else none)
  else (bif Nat.beq pc 35 then some (.iconst (-1), 1, 36, [], (-1)) else none))) : nk_F) pc
  else ((fun pc => bif Nat.ble pc 36 then (bif Nat.beq pc 36 then some (.putfield 96, 3, 39, [], 0) else none)
  else (bif Nat.ble pc 39 then (bif Nat.beq pc 39 then some (.iconst 1, 1, 40, [], 1) else none)
  else (bif Nat.beq pc 40 then some (.ireturn, 1, 41, [], 0) else none))) : nk_F) pc) : nk_F) pc) : nk_F) pc
noncomputable def kc_X5_tear : Nat → Option nk_I := nk_top 41 kt_X5_tear
noncomputable def kx_X5_tear : nk_T := ([(11, 5, 0, 4), (96, 3, 1, 0)], [(338, 2, 0, 0, 0, ev_X5_within), (352, 1, 4, 0, 0, ev_X3_isMissing), (368, 2, 6, 0, 0, ev_X5_found)], [], [], [], [], [], 1, false, 0, 0)
noncomputable def ev_X5_tear : nk_Ev := fun as h Q => nk_if (Nat.ble (nk_wd as) 2) (nk_ev kx_X5_tear kc_X5_tear 2 as h Q)
set_option maxRecDepth 100000 in
theorem ck_X5_tear : nk_chk cX5_tear kc_X5_tear 41 = true := nd_chk (by decide +kernel) (by decide +kernel)
set_option maxRecDepth 100000 in
set_option maxHeartbeats 4000000 in
theorem ca_X5_tear_338 (l : Launch) : nk_CallOk l { frames := 1, cells := 0, slots := 0, locals := 21 } RX5 cX5_tear 2 false 338 (2, 0, 0, 0, ev_X5_within) := nk_callS (x := 84) (n := 2) (mt_X5_within l) (nk_msc [(1, 199), (1, 200), (1, 201), (1, 1)] (by decide +kernel)) rfl rfl (by decide +kernel) ⟨by decide, by decide⟩
set_option maxRecDepth 100000 in
set_option maxHeartbeats 4000000 in
theorem ca_X5_tear_352 (l : Launch) : nk_CallOk l { frames := 1, cells := 0, slots := 0, locals := 21 } RX5 cX5_tear 2 false 352 (1, 4, 0, 0, ev_X3_isMissing) := nk_callV (x := 88) (n := 0) (ci := 3) (r := (RX3, TX3, 2)) (mt_X3_isMissing l) rfl (nk_msc [(1, 218), (1, 219), (1, 220), (1, 221), (1, 5)] (by decide +kernel)) rfl rfl (by decide +kernel) ⟨by decide, by decide⟩
set_option maxRecDepth 100000 in
set_option maxHeartbeats 4000000 in
theorem ca_X5_tear_368 (l : Launch) : nk_CallOk l { frames := 1, cells := 0, slots := 0, locals := 21 } RX5 cX5_tear 2 false 368 (2, 6, 0, 0, ev_X5_found) := nk_callV (x := 92) (n := 1) (ci := 5) (r := (RX5, TX5, 13)) (mt_X5_found l) rfl (nk_msc [(1, 202), (1, 203), (1, 204), (1, 205), (0, 1), (1, 1)] (by decide +kernel)) rfl rfl (by decide +kernel) ⟨by decide, by decide⟩
set_option maxRecDepth 100000 in
set_option maxHeartbeats 4000000 in
theorem mt_X5_tear (l : Launch) : nk_Met l yX5_tear cX5_tear 2 (some .int) { frames := 1, cells := 0, slots := 0, locals := 21 } false 0 0 ev_X5_tear :=
  nk_met nk_gok (plainFor_of_name (by decide)) ck_X5_tear (nk_top_out 41 kt_X5_tear) ⟨List.forall_mem_cons.mpr ⟨nk_fkc [(1, 151)] (by decide +kernel), List.forall_mem_cons.mpr ⟨nk_fkc [(1, 129)] (by decide +kernel), fun _ h => absurd h List.not_mem_nil⟩⟩, List.forall_mem_cons.mpr ⟨ca_X5_tear_338 l, List.forall_mem_cons.mpr ⟨ca_X5_tear_352 l, List.forall_mem_cons.mpr ⟨ca_X5_tear_368 l, fun _ h => absurd h List.not_mem_nil⟩⟩⟩, fun _ h => absurd h List.not_mem_nil, fun _ h => absurd h List.not_mem_nil, fun _ h => absurd h List.not_mem_nil, fun _ h => absurd h List.not_mem_nil, fun _ h => absurd h List.not_mem_nil, by decide, rfl, rfl⟩ rfl (by decide)
/-! MarbleLaw.copy(IIIII)I -/
noncomputable def kt_X5_copy : Nat → Option nk_I := fun pc => bif Nat.ble pc 55 then ((fun pc => bif Nat.ble pc 27 then ((fun pc => bif Nat.ble pc 12 then ((fun pc => bif Nat.ble pc 3 then ((fun pc => bif Nat.ble pc 0 then (bif Nat.beq pc 0 then some (.iload_n 1, 1, 1, [], 0) else none)
  else (bif Nat.ble pc 1 then (bif Nat.beq pc 1 then some (.bipush 6, 2, 3, [], 6) else none)
  else (bif Nat.beq pc 3 then some (.invokestatic 84, 3, 6, [], 0) else none))) : nk_F) pc
  else ((fun pc => bif Nat.ble pc 9 then (bif Nat.ble pc 6 then (bif Nat.beq pc 6 then some (.ifCond .eq 12, 3, 9, [18], 0) else none)
  else (bif Nat.beq pc 9 then some (.iload_n 3, 1, 10, [], 0) else none))
  else (bif Nat.ble pc 10 then (bif Nat.beq pc 10 then some (.bipush 6, 2, 12, [], 6) else none)
  else (bif Nat.beq pc 12 then some (.invokestatic 84, 3, 15, [], 0) else none))) : nk_F) pc) : nk_F) pc
  else ((fun pc => bif Nat.ble pc 20 then ((fun pc => bif Nat.ble pc 18 then (bif Nat.ble pc 15 then (bif Nat.beq pc 15 then some (.ifCond .ne 5, 3, 18, [20], 0) else none)
  else (bif Nat.beq pc 18 then some (.iconst (-1), 1, 19, [], (-1)) else none))
  else (bif Nat.ble pc 19 then (bif Nat.beq pc 19 then some (.ireturn, 1, 20, [], 0) else none)
  else (bif Nat.beq pc 20 then some (.iload 5, 2, 22, [], 0) else none))) : nk_F) pc
  else ((fun pc => bif Nat.ble pc 25 then (bif Nat.ble pc 22 then (bif Nat.beq pc 22 then some (.ifCond .ge 9, 3, 25, [31], 0) else none)
  else (bif Nat.beq pc 25 then some (.aload_n 0, 1, 26, [], 0) else none))
  else (bif Nat.ble pc 26 then (bif Nat.beq pc 26 then some (.iconst 5, 1, 27, [], 5) else none)
  else (bif Nat.beq pc 27 then some (.invokevirtual 92, 3, 30, [], 0) else none))) : nk_F) pc) : nk_F) pc) : nk_F) pc
  else ((fun pc => bif Nat.ble pc 39 then ((fun pc => bif Nat.ble pc 32 then ((fun pc => bif Nat.ble pc 30 then (bif Nat.beq pc 30 then some (.ireturn, 1, 31, [], 0) else none)
  else (bif Nat.ble pc 31 then (bif Nat.beq pc 31 then some (.aload_n 0, 1, 32, [], 0) else none)
  else (bif Nat.beq pc 32 then some (.getfield 11, 3, 35, [], 0) else none))) : nk_F) pc
  else ((fun pc => bif Nat.ble pc 36 then (bif Nat.ble pc 35 then (bif Nat.beq pc 35 then some (.iload_n 1, 1, 36, [], 0) else none)
  else (bif Nat.beq pc 36 then some (.aaload, 1, 37, [], 0) else none))
  else (bif Nat.ble pc 37 then (bif Nat.beq pc 37 then some (.astore 6, 2, 39, [], 0) else none)
  else (bif Nat.beq pc 39 then some (.aload_n 0, 1, 40, [], 0) else none))) : nk_F) pc) : nk_F) pc
  else ((fun pc => bif Nat.ble pc 45 then ((fun pc => bif Nat.ble pc 43 then (bif Nat.ble pc 40 then (bif Nat.beq pc 40 then some (.getfield 11, 3, 43, [], 0) else none)
  else (bif Nat.beq pc 43 then some (.iload_n 3, 1, 44, [], 0) else none))
  else (bif Nat.ble pc 44 then (bif Nat.beq pc 44 then some (.aaload, 1, 45, [], 0) else none)
  else (bif Nat.beq pc 45 then some (.astore 7, 2, 47, [], 0) else none))) : nk_F) pc
  else ((fun pc => bif Nat.ble pc 49 then (bif Nat.ble pc 47 then (bif Nat.beq pc 47 then some (.aload 6, 2, 49, [], 0) else none)
  else (bif Nat.beq pc 49 then some (.invokevirtual 88, 3, 52, [], 0) else none))
  else (bif Nat.ble pc 52 then (bif Nat.beq pc 52 then some (.ifCond .ne 11, 3, 55, [63], 0) else none)
  else (bif Nat.beq pc 55 then some (.aload 7, 2, 57, [], 0) else none))) : nk_F) pc) : nk_F) pc) : nk_F) pc) : nk_F) pc
  else ((fun pc => bif Nat.ble pc 86 then ((fun pc => bif Nat.ble pc 69 then ((fun pc => bif Nat.ble pc 63 then ((fun pc => bif Nat.ble pc 57 then (bif Nat.beq pc 57 then some (.invokevirtual 88, 3, 60, [], 0) else none)
  else (bif Nat.ble pc 60 then (bif Nat.beq pc 60 then some (.ifCond .eq 9, 3, 63, [69], 0) else none)
  else (bif Nat.beq pc 63 then some (.aload_n 0, 1, 64, [], 0) else none))) : nk_F) pc
  else ((fun pc => bif Nat.ble pc 65 then (bif Nat.ble pc 64 then (bif Nat.beq pc 64 then some (.iconst 1, 1, 65, [], 1) else none)
  else (bif Nat.beq pc 65 then some (.invokevirtual 92, 3, 68, [], 0) else none))
  else (bif Nat.ble pc 68 then (bif Nat.beq pc 68 then some (.ireturn, 1, 69, [], 0) else none)
  else (bif Nat.beq pc 69 then some (.aload 6, 2, 71, [], 0) else none))) : nk_F) pc) : nk_F) pc
  else ((fun pc => bif Nat.ble pc 77 then ((fun pc => bif Nat.ble pc 72 then (bif Nat.ble pc 71 then (bif Nat.beq pc 71 then some (.iload_n 2, 1, 72, [], 0) else none)
  else (bif Nat.beq pc 72 then some (.iload 5, 2, 74, [], 0) else none))
  else (bif Nat.ble pc 74 then (bif Nat.beq pc 74 then some (.invokevirtual 99, 3, 77, [], 0) else none)
  else (bif Nat.beq pc 77 then some (.ifCond .eq 15, 3, 80, [92], 0) else none))) : nk_F) pc
  else ((fun pc => bif Nat.ble pc 82 then (bif Nat.ble pc 80 then (bif Nat.beq pc 80 then some (.aload 7, 2, 82, [], 0) else none)
  else (bif Nat.beq pc 82 then some (.iload 4, 2, 84, [], 0) else none))
  else (bif Nat.ble pc 84 then (bif Nat.beq pc 84 then some (.iload 5, 2, 86, [], 0) else none)
  else (bif Nat.beq pc 86 then some (.invokevirtual 99, 3, 89, [], 0) else none))) : nk_F) pc) : nk_F) pc) : nk_F) pc
  else ((fun pc => bif Nat.ble pc 100 then ((fun pc => bif Nat.ble pc 93 then ((fun pc => bif Nat.ble pc 89 then (bif Nat.beq pc 89 then some (.ifCond .ne 9, 3, 92, [98], 0) else none)
  else (bif Nat.ble pc 92 then (bif Nat.beq pc 92 then some (.aload_n 0, 1, 93, [], 0) else none)
  else (bif Nat.beq pc 93 then some (.iconst 2, 1, 94, [], 2) else none))) : nk_F) pc
  else ((fun pc => bif Nat.ble pc 97 then (bif Nat.ble pc 94 then (bif Nat.beq pc 94 then some (.invokevirtual 92, 3, 97, [], 0) else none)
  else (bif Nat.beq pc 97 then some (.ireturn, 1, 98, [], 0) else none))
  else (bif Nat.ble pc 98 then (bif Nat.beq pc 98 then some (.aload 6, 2, 100, [], 0) else none)
  else (bif Nat.beq pc 100 then some (.getfield 81, 3, 103, [], 0) else none))) : nk_F) pc) : nk_F) pc
  else ((fun pc => bif Nat.ble pc 109 then ((fun pc => bif Nat.ble pc 104 then (bif Nat.ble pc 103 then (bif Nat.beq pc 103 then some (.iload_n 2, 1, 104, [], 0) else none)
  else (bif Nat.beq pc 104 then some (.aload 7, 2, 106, [], 0) else none))
  else (bif Nat.ble pc 106 then (bif Nat.beq pc 106 then some (.getfield 81, 3, 109, [], 0) else none)
  else (bif Nat.beq pc 109 then some (.iload 4, 2, 111, [], 0) else none))) : nk_F) pc
  else ((fun pc => bif Nat.ble pc 113 then (bif Nat.ble pc 111 then (bif Nat.beq pc 111 then some (.iload 5, 2, 113, [], 0) else none)
  else (bif Nat.beq pc 113 then some (.invokestatic 102, 3, 116, [], 0) else none))
  else (bif Nat.ble pc 116 then (bif Nat.beq pc 116 then some (.iconst 1, 1, 117, [], 1) else none)
  else (bif Nat.beq pc 117 then some (.ireturn, 1, 118, [], 0) else none))) : nk_F) pc) : nk_F) pc) : nk_F) pc) : nk_F) pc
noncomputable def kc_X5_copy : Nat → Option nk_I := nk_top 118 kt_X5_copy
noncomputable def kx_X5_copy : nk_T := ([(11, 5, 0, 4), (81, 3, 0, 5)], [(338, 2, 0, 0, 0, ev_X5_within), (368, 2, 6, 0, 0, ev_X5_found), (352, 1, 4, 0, 0, ev_X3_isMissing), (396, 3, 4, 0, 0, ev_X3_hasFrom), (410, 5, 0, 0, 0, nk_acp)], [], [], [], [], [], 1, false, 0, 0)
noncomputable def ev_X5_copy : nk_Ev := fun as h Q => nk_if (Nat.ble (nk_wd as) 8) (nk_ev kx_X5_copy kc_X5_copy 8 as h Q)
set_option maxRecDepth 100000 in
theorem ck_X5_copy : nk_chk cX5_copy kc_X5_copy 118 = true := nd_chk (by decide +kernel) (by decide +kernel)
set_option maxRecDepth 100000 in
set_option maxHeartbeats 4000000 in
theorem ca_X5_copy_338 (l : Launch) : nk_CallOk l { frames := 1, cells := 0, slots := 0, locals := 40 } RX5 cX5_copy 8 false 338 (2, 0, 0, 0, ev_X5_within) := nk_callS (x := 84) (n := 2) (mt_X5_within l) (nk_msc [(1, 199), (1, 200), (1, 201), (1, 1)] (by decide +kernel)) rfl rfl (by decide +kernel) ⟨by decide, by decide⟩
set_option maxRecDepth 100000 in
set_option maxHeartbeats 4000000 in
theorem ca_X5_copy_368 (l : Launch) : nk_CallOk l { frames := 1, cells := 0, slots := 0, locals := 40 } RX5 cX5_copy 8 false 368 (2, 6, 0, 0, ev_X5_found) := nk_callV (x := 92) (n := 1) (ci := 5) (r := (RX5, TX5, 13)) (mt_X5_found l) rfl (nk_msc [(1, 202), (1, 203), (1, 204), (1, 205), (0, 1), (1, 1)] (by decide +kernel)) rfl rfl (by decide +kernel) ⟨by decide, by decide⟩
set_option maxRecDepth 100000 in
set_option maxHeartbeats 4000000 in
theorem ca_X5_copy_352 (l : Launch) : nk_CallOk l { frames := 1, cells := 0, slots := 0, locals := 40 } RX5 cX5_copy 8 false 352 (1, 4, 0, 0, ev_X3_isMissing) := nk_callV (x := 88) (n := 0) (ci := 3) (r := (RX3, TX3, 2)) (mt_X3_isMissing l) rfl (nk_msc [(1, 218), (1, 219), (1, 220), (1, 221), (1, 5)] (by decide +kernel)) rfl rfl (by decide +kernel) ⟨by decide, by decide⟩
set_option maxRecDepth 100000 in
set_option maxHeartbeats 4000000 in
theorem ca_X5_copy_396 (l : Launch) : nk_CallOk l { frames := 1, cells := 0, slots := 0, locals := 40 } RX5 cX5_copy 8 false 396 (3, 4, 0, 0, ev_X3_hasFrom) := nk_callV (x := 99) (n := 2) (ci := 3) (r := (RX3, TX3, 2)) (mt_X3_hasFrom l) rfl (nk_msc [(1, 234), (1, 235), (1, 236), (1, 237), (1, 5)] (by decide +kernel)) rfl rfl (by decide +kernel) ⟨by decide, by decide⟩
set_option maxRecDepth 100000 in
set_option maxHeartbeats 4000000 in
theorem ca_X5_copy_410 (l : Launch) : nk_CallOk l { frames := 1, cells := 0, slots := 0, locals := 40 } RX5 cX5_copy 8 false 410 (5, 0, 0, 0, nk_acp) := nk_callA (x := 102) (nk_mc [(1, 238), (1, 239), (2, 0), (1, 8)] (by decide +kernel)) (nk_mc [(1, 238), (1, 239), (2, 0), (1, 8)] (by decide +kernel)) (nk_mc [(1, 238), (1, 239), (2, 0), (1, 8)] (by decide +kernel)) (nk_mc [(1, 238), (1, 239), (2, 0), (1, 8)] (by decide +kernel)) (by decide) (by decide)
set_option maxRecDepth 100000 in
set_option maxHeartbeats 4000000 in
theorem mt_X5_copy (l : Launch) : nk_Met l yX5_copy cX5_copy 8 (some .int) { frames := 1, cells := 0, slots := 0, locals := 40 } false 0 0 ev_X5_copy :=
  nk_met nk_gok (plainFor_of_name (by decide)) ck_X5_copy (nk_top_out 118 kt_X5_copy) ⟨List.forall_mem_cons.mpr ⟨nk_fkc [(1, 151)] (by decide +kernel), List.forall_mem_cons.mpr ⟨nk_fkc [(1, 126)] (by decide +kernel), fun _ h => absurd h List.not_mem_nil⟩⟩, List.forall_mem_cons.mpr ⟨ca_X5_copy_338 l, List.forall_mem_cons.mpr ⟨ca_X5_copy_368 l, List.forall_mem_cons.mpr ⟨ca_X5_copy_352 l, List.forall_mem_cons.mpr ⟨ca_X5_copy_396 l, List.forall_mem_cons.mpr ⟨ca_X5_copy_410 l, fun _ h => absurd h List.not_mem_nil⟩⟩⟩⟩⟩, fun _ h => absurd h List.not_mem_nil, fun _ h => absurd h List.not_mem_nil, fun _ h => absurd h List.not_mem_nil, fun _ h => absurd h List.not_mem_nil, fun _ h => absurd h List.not_mem_nil, by decide, rfl, rfl⟩ rfl (by decide)
/-! MarbleLaw.mean(I)I -/
noncomputable def kt_X5_mean : Nat → Option nk_I := fun pc => bif Nat.ble pc 30 then ((fun pc => bif Nat.ble pc 15 then ((fun pc => bif Nat.ble pc 6 then ((fun pc => bif Nat.ble pc 1 then (bif Nat.ble pc 0 then (bif Nat.beq pc 0 then some (.iload_n 1, 1, 1, [], 0) else none)
  else (bif Nat.beq pc 1 then some (.bipush 6, 2, 3, [], 6) else none))
  else (bif Nat.ble pc 3 then (bif Nat.beq pc 3 then some (.invokestatic 84, 3, 6, [], 0) else none)
  else (bif Nat.beq pc 6 then some (.ifCond .ne 5, 3, 9, [11], 0) else none))) : nk_F) pc
  else ((fun pc => bif Nat.ble pc 10 then (bif Nat.ble pc 9 then (bif Nat.beq pc 9 then some (.iconst (-1), 1, 10, [], (-1)) else none)
  else (bif Nat.beq pc 10 then some (.ireturn, 1, 11, [], 0) else none))
  else ((fun pc => bif Nat.ble pc 11 then (bif Nat.beq pc 11 then some (.aload_n 0, 1, 12, [], 0) else none)
  else (bif Nat.ble pc 12 then (bif Nat.beq pc 12 then some (.getfield 11, 3, 15, [], 0) else none)
  else (bif Nat.beq pc 15 then some (.iload_n 1, 1, 16, [], 0) else none))) : nk_F) pc) : nk_F) pc) : nk_F) pc
  else ((fun pc => bif Nat.ble pc 19 then ((fun pc => bif Nat.ble pc 17 then (bif Nat.ble pc 16 then (bif Nat.beq pc 16 then some (.aaload, 1, 17, [], 0) else none)
  else (bif Nat.beq pc 17 then some (.astore_n 2, 1, 18, [], 0) else none))
  else (bif Nat.ble pc 18 then (bif Nat.beq pc 18 then some (.aload_n 2, 1, 19, [], 0) else none)
  else (bif Nat.beq pc 19 then some (.invokevirtual 88, 3, 22, [], 0) else none))) : nk_F) pc
  else ((fun pc => bif Nat.ble pc 25 then (bif Nat.ble pc 22 then (bif Nat.beq pc 22 then some (.ifCond .eq 9, 3, 25, [31], 0) else none)
  else (bif Nat.beq pc 25 then some (.aload_n 0, 1, 26, [], 0) else none))
  else ((fun pc => bif Nat.ble pc 26 then (bif Nat.beq pc 26 then some (.iconst 1, 1, 27, [], 1) else none)
  else (bif Nat.ble pc 27 then (bif Nat.beq pc 27 then some (.invokevirtual 92, 3, 30, [], 0) else none)
  else (bif Nat.beq pc 30 then some (.ireturn, 1, 31, [], 0) else none))) : nk_F) pc) : nk_F) pc) : nk_F) pc) : nk_F) pc
  else ((fun pc => bif Nat.ble pc 45 then ((fun pc => bif Nat.ble pc 38 then ((fun pc => bif Nat.ble pc 32 then (bif Nat.ble pc 31 then (bif Nat.beq pc 31 then some (.aload_n 2, 1, 32, [], 0) else none)
  else (bif Nat.beq pc 32 then some (.getfield 96, 3, 35, [], 0) else none))
  else (bif Nat.ble pc 35 then (bif Nat.beq pc 35 then some (.ifCond .ne 9, 3, 38, [44], 0) else none)
  else (bif Nat.beq pc 38 then some (.aload_n 0, 1, 39, [], 0) else none))) : nk_F) pc
  else ((fun pc => bif Nat.ble pc 40 then (bif Nat.ble pc 39 then (bif Nat.beq pc 39 then some (.iconst 4, 1, 40, [], 4) else none)
  else (bif Nat.beq pc 40 then some (.invokevirtual 92, 3, 43, [], 0) else none))
  else ((fun pc => bif Nat.ble pc 43 then (bif Nat.beq pc 43 then some (.ireturn, 1, 44, [], 0) else none)
  else (bif Nat.ble pc 44 then (bif Nat.beq pc 44 then some (.aload_n 0, 1, 45, [], 0) else none)
  else (bif Nat.beq pc 45 then some (.aload_n 2, 1, 46, [], 0) else none))) : nk_F) pc) : nk_F) pc) : nk_F) pc
  else ((fun pc => bif Nat.ble pc 53 then ((fun pc => bif Nat.ble pc 49 then (bif Nat.ble pc 46 then (bif Nat.beq pc 46 then some (.invokevirtual 108, 3, 49, [], 0) else none)
  else (bif Nat.beq pc 49 then some (.aload_n 2, 1, 50, [], 0) else none))
  else (bif Nat.ble pc 50 then (bif Nat.beq pc 50 then some (.getfield 96, 3, 53, [], 0) else none)
  else (bif Nat.beq pc 53 then some (.i2l, 1, 54, [], 0) else none))) : nk_F) pc
  else ((fun pc => bif Nat.ble pc 55 then (bif Nat.ble pc 54 then (bif Nat.beq pc 54 then some (.ldiv, 1, 55, [], 0) else none)
  else (bif Nat.beq pc 55 then some (.l2i, 1, 56, [], 0) else none))
  else ((fun pc => bif Nat.ble pc 56 then (bif Nat.beq pc 56 then some (.putfield 61, 3, 59, [], 0) else none)
  else (bif Nat.ble pc 59 then (bif Nat.beq pc 59 then some (.iconst 1, 1, 60, [], 1) else none)
  else (bif Nat.beq pc 60 then some (.ireturn, 1, 61, [], 0) else none))) : nk_F) pc) : nk_F) pc) : nk_F) pc) : nk_F) pc
noncomputable def kc_X5_mean : Nat → Option nk_I := nk_top 61 kt_X5_mean
noncomputable def kx_X5_mean : nk_T := ([(11, 5, 0, 4), (96, 3, 1, 0), (61, 5, 10, 0)], [(338, 2, 0, 0, 0, ev_X5_within), (352, 1, 4, 0, 0, ev_X3_isMissing), (368, 2, 6, 0, 0, ev_X5_found), (432, 1, 4, 0, 0, ev_X3_sum)], [], [], [], [], [], 1, false, 0, 0)
noncomputable def ev_X5_mean : nk_Ev := fun as h Q => nk_if (Nat.ble (nk_wd as) 3) (nk_ev kx_X5_mean kc_X5_mean 3 as h Q)
set_option maxRecDepth 100000 in
theorem ck_X5_mean : nk_chk cX5_mean kc_X5_mean 61 = true := nd_chk (by decide +kernel) (by decide +kernel)
set_option maxRecDepth 100000 in
set_option maxHeartbeats 4000000 in
theorem ca_X5_mean_338 (l : Launch) : nk_CallOk l { frames := 1, cells := 0, slots := 0, locals := 23 } RX5 cX5_mean 3 false 338 (2, 0, 0, 0, ev_X5_within) := nk_callS (x := 84) (n := 2) (mt_X5_within l) (nk_msc [(1, 199), (1, 200), (1, 201), (1, 1)] (by decide +kernel)) rfl rfl (by decide +kernel) ⟨by decide, by decide⟩
set_option maxRecDepth 100000 in
set_option maxHeartbeats 4000000 in
theorem ca_X5_mean_352 (l : Launch) : nk_CallOk l { frames := 1, cells := 0, slots := 0, locals := 23 } RX5 cX5_mean 3 false 352 (1, 4, 0, 0, ev_X3_isMissing) := nk_callV (x := 88) (n := 0) (ci := 3) (r := (RX3, TX3, 2)) (mt_X3_isMissing l) rfl (nk_msc [(1, 218), (1, 219), (1, 220), (1, 221), (1, 5)] (by decide +kernel)) rfl rfl (by decide +kernel) ⟨by decide, by decide⟩
set_option maxRecDepth 100000 in
set_option maxHeartbeats 4000000 in
theorem ca_X5_mean_368 (l : Launch) : nk_CallOk l { frames := 1, cells := 0, slots := 0, locals := 23 } RX5 cX5_mean 3 false 368 (2, 6, 0, 0, ev_X5_found) := nk_callV (x := 92) (n := 1) (ci := 5) (r := (RX5, TX5, 13)) (mt_X5_found l) rfl (nk_msc [(1, 202), (1, 203), (1, 204), (1, 205), (0, 1), (1, 1)] (by decide +kernel)) rfl rfl (by decide +kernel) ⟨by decide, by decide⟩
set_option maxRecDepth 100000 in
set_option maxHeartbeats 4000000 in
theorem ca_X5_mean_432 (l : Launch) : nk_CallOk l { frames := 1, cells := 0, slots := 0, locals := 23 } RX5 cX5_mean 3 false 432 (1, 4, 0, 0, ev_X3_sum) := nk_callV (x := 108) (n := 0) (ci := 3) (r := (RX3, TX3, 2)) (mt_X3_sum l) rfl (nk_msc [(2, 5), (2, 6), (2, 7), (2, 8), (1, 5)] (by decide +kernel)) rfl rfl (by decide +kernel) ⟨by decide, by decide⟩
set_option maxRecDepth 100000 in
set_option maxHeartbeats 4000000 in
theorem mt_X5_mean (l : Launch) : nk_Met l yX5_mean cX5_mean 3 (some .int) { frames := 1, cells := 0, slots := 0, locals := 23 } false 0 0 ev_X5_mean :=
  nk_met nk_gok (plainFor_of_name (by decide)) ck_X5_mean (nk_top_out 61 kt_X5_mean) ⟨List.forall_mem_cons.mpr ⟨nk_fkc [(1, 151)] (by decide +kernel), List.forall_mem_cons.mpr ⟨nk_fkc [(1, 129)] (by decide +kernel), List.forall_mem_cons.mpr ⟨nk_fkc [(1, 161)] (by decide +kernel), fun _ h => absurd h List.not_mem_nil⟩⟩⟩, List.forall_mem_cons.mpr ⟨ca_X5_mean_338 l, List.forall_mem_cons.mpr ⟨ca_X5_mean_352 l, List.forall_mem_cons.mpr ⟨ca_X5_mean_368 l, List.forall_mem_cons.mpr ⟨ca_X5_mean_432 l, fun _ h => absurd h List.not_mem_nil⟩⟩⟩⟩, fun _ h => absurd h List.not_mem_nil, fun _ h => absurd h List.not_mem_nil, fun _ h => absurd h List.not_mem_nil, fun _ h => absurd h List.not_mem_nil, fun _ h => absurd h List.not_mem_nil, by decide, rfl, rfl⟩ rfl (by decide)
/-! MarbleLaw.text(II)I -/
noncomputable def kt_X5_text : Nat → Option nk_I := fun pc => bif Nat.ble pc 5 then ((fun pc => bif Nat.ble pc 1 then (bif Nat.ble pc 0 then (bif Nat.beq pc 0 then some (.aload_n 0, 1, 1, [], 0) else none)
  else (bif Nat.beq pc 1 then some (.aload_n 0, 1, 2, [], 0) else none))
  else (bif Nat.ble pc 2 then (bif Nat.beq pc 2 then some (.getfield 15, 3, 5, [], 0) else none)
  else (bif Nat.beq pc 5 then some (.iload_n 1, 1, 6, [], 0) else none))) : nk_F) pc
  else ((fun pc => bif Nat.ble pc 7 then (bif Nat.ble pc 6 then (bif Nat.beq pc 6 then some (.iload_n 2, 1, 7, [], 0) else none)
  else (bif Nat.beq pc 7 then some (.bipush 32, 2, 9, [], 32) else none))
  else (bif Nat.ble pc 9 then (bif Nat.beq pc 9 then some (.invokevirtual 73, 3, 12, [], 0) else none)
  else (bif Nat.beq pc 12 then some (.ireturn, 1, 13, [], 0) else none))) : nk_F) pc
noncomputable def kc_X5_text : Nat → Option nk_I := nk_top 13 kt_X5_text
noncomputable def kx_X5_text : nk_T := ([(15, 5, 1, 4)], [(292, 5, 6, 0, 0, ev_X5_begin)], [], [], [], [], [], 1, false, 0, 0)
noncomputable def ev_X5_text : nk_Ev := fun as h Q => nk_if (Nat.ble (nk_wd as) 3) (nk_ev kx_X5_text kc_X5_text 3 as h Q)
set_option maxRecDepth 100000 in
theorem ck_X5_text : nk_chk cX5_text kc_X5_text 13 = true := nd_chk (by decide +kernel) (by decide +kernel)
set_option maxRecDepth 100000 in
set_option maxHeartbeats 4000000 in
theorem ca_X5_text_292 (l : Launch) : nk_CallOk l { frames := 2, cells := 0, slots := 0, locals := 47 } RX5 cX5_text 3 false 292 (5, 6, 0, 0, ev_X5_begin) := nk_callV (x := 73) (n := 4) (ci := 5) (r := (RX5, TX5, 13)) (mt_X5_begin l) rfl (nk_msc [(1, 195), (1, 196), (1, 197), (1, 198), (0, 0), (1, 1)] (by decide +kernel)) rfl rfl (by decide +kernel) ⟨by decide, by decide⟩
set_option maxRecDepth 100000 in
set_option maxHeartbeats 4000000 in
theorem mt_X5_text (l : Launch) : nk_Met l yX5_text cX5_text 3 (some .int) { frames := 2, cells := 0, slots := 0, locals := 47 } false 0 0 ev_X5_text :=
  nk_met nk_gok (plainFor_of_name (by decide)) ck_X5_text (nk_top_out 13 kt_X5_text) ⟨List.forall_mem_cons.mpr ⟨nk_fkc [(1, 152)] (by decide +kernel), fun _ h => absurd h List.not_mem_nil⟩, List.forall_mem_cons.mpr ⟨ca_X5_text_292 l, fun _ h => absurd h List.not_mem_nil⟩, fun _ h => absurd h List.not_mem_nil, fun _ h => absurd h List.not_mem_nil, fun _ h => absurd h List.not_mem_nil, fun _ h => absurd h List.not_mem_nil, fun _ h => absurd h List.not_mem_nil, by decide, rfl, rfl⟩ rfl (by decide)
/-! MarbleLaw.put(III)I -/
noncomputable def kt_X5_put : Nat → Option nk_I := fun pc => bif Nat.ble pc 26 then ((fun pc => bif Nat.ble pc 12 then ((fun pc => bif Nat.ble pc 5 then ((fun pc => bif Nat.ble pc 1 then (bif Nat.ble pc 0 then (bif Nat.beq pc 0 then some (.aload_n 0, 1, 1, [], 0) else none)
  else (bif Nat.beq pc 1 then some (.aload_n 0, 1, 2, [], 0) else none))
  else (bif Nat.ble pc 2 then (bif Nat.beq pc 2 then some (.getfield 15, 3, 5, [], 0) else none)
  else (bif Nat.beq pc 5 then some (.iload_n 1, 1, 6, [], 0) else none))) : nk_F) pc
  else ((fun pc => bif Nat.ble pc 7 then (bif Nat.ble pc 6 then (bif Nat.beq pc 6 then some (.iload_n 2, 1, 7, [], 0) else none)
  else (bif Nat.beq pc 7 then some (.invokevirtual 77, 3, 10, [], 0) else none))
  else (bif Nat.ble pc 10 then (bif Nat.beq pc 10 then some (.istore 4, 2, 12, [], 0) else none)
  else (bif Nat.beq pc 12 then some (.iload 4, 2, 14, [], 0) else none))) : nk_F) pc) : nk_F) pc
  else ((fun pc => bif Nat.ble pc 20 then ((fun pc => bif Nat.ble pc 17 then (bif Nat.ble pc 14 then (bif Nat.beq pc 14 then some (.ifCond .eq 6, 3, 17, [20], 0) else none)
  else (bif Nat.beq pc 17 then some (.iload 4, 2, 19, [], 0) else none))
  else (bif Nat.ble pc 19 then (bif Nat.beq pc 19 then some (.ireturn, 1, 20, [], 0) else none)
  else (bif Nat.beq pc 20 then some (.aload_n 0, 1, 21, [], 0) else none))) : nk_F) pc
  else ((fun pc => bif Nat.ble pc 24 then (bif Nat.ble pc 21 then (bif Nat.beq pc 21 then some (.getfield 15, 3, 24, [], 0) else none)
  else (bif Nat.beq pc 24 then some (.iload_n 1, 1, 25, [], 0) else none))
  else (bif Nat.ble pc 25 then (bif Nat.beq pc 25 then some (.aaload, 1, 26, [], 0) else none)
  else (bif Nat.beq pc 26 then some (.getfield 81, 3, 29, [], 0) else none))) : nk_F) pc) : nk_F) pc) : nk_F) pc
  else ((fun pc => bif Nat.ble pc 39 then ((fun pc => bif Nat.ble pc 33 then ((fun pc => bif Nat.ble pc 30 then (bif Nat.ble pc 29 then (bif Nat.beq pc 29 then some (.iload_n 2, 1, 30, [], 0) else none)
  else (bif Nat.beq pc 30 then some (.iaload, 1, 31, [], 0) else none))
  else (bif Nat.ble pc 31 then (bif Nat.beq pc 31 then some (.istore 5, 2, 33, [], 0) else none)
  else (bif Nat.beq pc 33 then some (.aload_n 0, 1, 34, [], 0) else none))) : nk_F) pc
  else ((fun pc => bif Nat.ble pc 37 then (bif Nat.ble pc 34 then (bif Nat.beq pc 34 then some (.getfield 15, 3, 37, [], 0) else none)
  else (bif Nat.beq pc 37 then some (.iload_n 1, 1, 38, [], 0) else none))
  else (bif Nat.ble pc 38 then (bif Nat.beq pc 38 then some (.aaload, 1, 39, [], 0) else none)
  else (bif Nat.beq pc 39 then some (.getfield 81, 3, 42, [], 0) else none))) : nk_F) pc) : nk_F) pc
  else ((fun pc => bif Nat.ble pc 45 then ((fun pc => bif Nat.ble pc 43 then (bif Nat.ble pc 42 then (bif Nat.beq pc 42 then some (.iload_n 2, 1, 43, [], 0) else none)
  else (bif Nat.beq pc 43 then some (.iload_n 3, 1, 44, [], 0) else none))
  else (bif Nat.ble pc 44 then (bif Nat.beq pc 44 then some (.i2b, 1, 45, [], 0) else none)
  else (bif Nat.beq pc 45 then some (.iastore, 1, 46, [], 0) else none))) : nk_F) pc
  else ((fun pc => bif Nat.ble pc 48 then (bif Nat.ble pc 46 then (bif Nat.beq pc 46 then some (.iload 5, 2, 48, [], 0) else none)
  else (bif Nat.beq pc 48 then some (.sipush 1000, 3, 51, [], 1000) else none))
  else (bif Nat.ble pc 51 then (bif Nat.beq pc 51 then some (.iadd, 1, 52, [], 0) else none)
  else (bif Nat.beq pc 52 then some (.ireturn, 1, 53, [], 0) else none))) : nk_F) pc) : nk_F) pc) : nk_F) pc
noncomputable def kc_X5_put : Nat → Option nk_I := nk_top 53 kt_X5_put
noncomputable def kx_X5_put : nk_T := ([(15, 5, 1, 4), (81, 3, 0, 5)], [(308, 4, 6, 0, 0, ev_X5_refusalOfPlace)], [], [], [], [], [], 1, false, 0, 0)
noncomputable def ev_X5_put : nk_Ev := fun as h Q => nk_if (Nat.ble (nk_wd as) 6) (nk_ev kx_X5_put kc_X5_put 6 as h Q)
set_option maxRecDepth 100000 in
theorem ck_X5_put : nk_chk cX5_put kc_X5_put 53 = true := nd_chk (by decide +kernel) (by decide +kernel)
set_option maxRecDepth 100000 in
set_option maxHeartbeats 4000000 in
theorem ca_X5_put_308 (l : Launch) : nk_CallOk l { frames := 2, cells := 0, slots := 0, locals := 44 } RX5 cX5_put 6 false 308 (4, 6, 0, 0, ev_X5_refusalOfPlace) := nk_callV (x := 77) (n := 3) (ci := 5) (r := (RX5, TX5, 13)) (mt_X5_refusalOfPlace l) rfl (nk_msc [(1, 214), (1, 215), (1, 216), (1, 217), (0, 2), (1, 1)] (by decide +kernel)) rfl rfl (by decide +kernel) ⟨by decide, by decide⟩
set_option maxRecDepth 100000 in
set_option maxHeartbeats 4000000 in
theorem mt_X5_put (l : Launch) : nk_Met l yX5_put cX5_put 6 (some .int) { frames := 2, cells := 0, slots := 0, locals := 44 } false 0 0 ev_X5_put :=
  nk_met nk_gok (plainFor_of_name (by decide)) ck_X5_put (nk_top_out 53 kt_X5_put) ⟨List.forall_mem_cons.mpr ⟨nk_fkc [(1, 152)] (by decide +kernel), List.forall_mem_cons.mpr ⟨nk_fkc [(1, 126)] (by decide +kernel), fun _ h => absurd h List.not_mem_nil⟩⟩, List.forall_mem_cons.mpr ⟨ca_X5_put_308 l, fun _ h => absurd h List.not_mem_nil⟩, fun _ h => absurd h List.not_mem_nil, fun _ h => absurd h List.not_mem_nil, fun _ h => absurd h List.not_mem_nil, fun _ h => absurd h List.not_mem_nil, fun _ h => absurd h List.not_mem_nil, by decide, rfl, rfl⟩ rfl (by decide)
/-! MarbleLaw.isStuffAsTold(IIII)Z -/
noncomputable def kt_X5_isStuffAsTold : Nat → Option nk_I := fun pc => bif Nat.ble pc 21 then ((fun pc => bif Nat.ble pc 10 then ((fun pc => bif Nat.ble pc 3 then ((fun pc => bif Nat.ble pc 0 then (bif Nat.beq pc 0 then some (.iload_n 0, 1, 1, [], 0) else none)
  else (bif Nat.ble pc 1 then (bif Nat.beq pc 1 then some (.bipush 10, 2, 3, [], 10) else none)
  else (bif Nat.beq pc 3 then some (.invokestatic 84, 3, 6, [], 0) else none))) : nk_F) pc
  else ((fun pc => bif Nat.ble pc 6 then (bif Nat.beq pc 6 then some (.ifCond .eq 38, 3, 9, [44], 0) else none)
  else (bif Nat.ble pc 9 then (bif Nat.beq pc 9 then some (.iload_n 1, 1, 10, [], 0) else none)
  else (bif Nat.beq pc 10 then some (.iconst 1, 1, 11, [], 1) else none))) : nk_F) pc) : nk_F) pc
  else ((fun pc => bif Nat.ble pc 15 then ((fun pc => bif Nat.ble pc 11 then (bif Nat.beq pc 11 then some (.if_icmp .lt 33, 3, 14, [44], 0) else none)
  else (bif Nat.ble pc 14 then (bif Nat.beq pc 14 then some (.iload_n 1, 1, 15, [], 0) else none)
  else (bif Nat.beq pc 15 then some (.bipush 99, 2, 17, [], 99) else none))) : nk_F) pc
  else ((fun pc => bif Nat.ble pc 17 then (bif Nat.beq pc 17 then some (.if_icmp .gt 27, 3, 20, [44], 0) else none)
  else (bif Nat.ble pc 20 then (bif Nat.beq pc 20 then some (.iload_n 2, 1, 21, [], 0) else none)
  else (bif Nat.beq pc 21 then some (.iconst 1, 1, 22, [], 1) else none))) : nk_F) pc) : nk_F) pc) : nk_F) pc
  else ((fun pc => bif Nat.ble pc 32 then ((fun pc => bif Nat.ble pc 26 then ((fun pc => bif Nat.ble pc 22 then (bif Nat.beq pc 22 then some (.if_icmp .lt 22, 3, 25, [44], 0) else none)
  else (bif Nat.ble pc 25 then (bif Nat.beq pc 25 then some (.iload_n 2, 1, 26, [], 0) else none)
  else (bif Nat.beq pc 26 then some (.bipush 99, 2, 28, [], 99) else none))) : nk_F) pc
  else ((fun pc => bif Nat.ble pc 28 then (bif Nat.beq pc 28 then some (.if_icmp .gt 16, 3, 31, [44], 0) else none)
  else (bif Nat.ble pc 31 then (bif Nat.beq pc 31 then some (.iload_n 3, 1, 32, [], 0) else none)
  else (bif Nat.beq pc 32 then some (.bipush 6, 2, 34, [], 6) else none))) : nk_F) pc) : nk_F) pc
  else ((fun pc => bif Nat.ble pc 40 then ((fun pc => bif Nat.ble pc 34 then (bif Nat.beq pc 34 then some (.invokestatic 84, 3, 37, [], 0) else none)
  else (bif Nat.ble pc 37 then (bif Nat.beq pc 37 then some (.ifCond .eq 7, 3, 40, [44], 0) else none)
  else (bif Nat.beq pc 40 then some (.iconst 1, 1, 41, [], 1) else none))) : nk_F) pc
  else ((fun pc => bif Nat.ble pc 41 then (bif Nat.beq pc 41 then some (.goto 4, 3, 44, [45], 0) else none)
  else (bif Nat.ble pc 44 then (bif Nat.beq pc 44 then some (.iconst 0, 1, 45, [], 0) else none)
  else (bif Nat.beq pc 45 then some (.ireturn, 1, 46, [], 0) else none))) : nk_F) pc) : nk_F) pc) : nk_F) pc
noncomputable def kc_X5_isStuffAsTold : Nat → Option nk_I := nk_top 46 kt_X5_isStuffAsTold
noncomputable def kx_X5_isStuffAsTold : nk_T := ([], [(338, 2, 0, 0, 0, ev_X5_within)], [], [], [], [], [], 2, false, 0, 0)
noncomputable def ev_X5_isStuffAsTold : nk_Ev := fun as h Q => nk_if (Nat.ble (nk_wd as) 4) (nk_ev kx_X5_isStuffAsTold kc_X5_isStuffAsTold 4 as h Q)
set_option maxRecDepth 100000 in
theorem ck_X5_isStuffAsTold : nk_chk cX5_isStuffAsTold kc_X5_isStuffAsTold 46 = true := nd_chk (by decide +kernel) (by decide +kernel)
set_option maxRecDepth 100000 in
set_option maxHeartbeats 4000000 in
theorem ca_X5_isStuffAsTold_338 (l : Launch) : nk_CallOk l { frames := 1, cells := 0, slots := 0, locals := 21 } RX5 cX5_isStuffAsTold 4 false 338 (2, 0, 0, 0, ev_X5_within) := nk_callS (x := 84) (n := 2) (mt_X5_within l) (nk_msc [(1, 199), (1, 200), (1, 201), (1, 1)] (by decide +kernel)) rfl rfl (by decide +kernel) ⟨by decide, by decide⟩
set_option maxRecDepth 100000 in
set_option maxHeartbeats 4000000 in
theorem mt_X5_isStuffAsTold (l : Launch) : nk_Met l yX5_isStuffAsTold cX5_isStuffAsTold 4 (some .boolean) { frames := 1, cells := 0, slots := 0, locals := 21 } false 0 0 ev_X5_isStuffAsTold :=
  nk_met nk_gok (plainFor_of_name (by decide)) ck_X5_isStuffAsTold (nk_top_out 46 kt_X5_isStuffAsTold) ⟨fun _ h => absurd h List.not_mem_nil, List.forall_mem_cons.mpr ⟨ca_X5_isStuffAsTold_338 l, fun _ h => absurd h List.not_mem_nil⟩, fun _ h => absurd h List.not_mem_nil, fun _ h => absurd h List.not_mem_nil, fun _ h => absurd h List.not_mem_nil, fun _ h => absurd h List.not_mem_nil, fun _ h => absurd h List.not_mem_nil, by decide, rfl, rfl⟩ rfl (by decide)
/-! MarbleLaw.stuff(IIII)I -/
noncomputable def kt_X5_stuff : Nat → Option nk_I := fun pc => bif Nat.ble pc 17 then ((fun pc => bif Nat.ble pc 5 then ((fun pc => bif Nat.ble pc 1 then (bif Nat.ble pc 0 then (bif Nat.beq pc 0 then some (.iload_n 1, 1, 1, [], 0) else none)
  else (bif Nat.beq pc 1 then some (.iload_n 2, 1, 2, [], 0) else none))
  else ((fun pc => bif Nat.ble pc 2 then (bif Nat.beq pc 2 then some (.iload_n 3, 1, 3, [], 0) else none)
  else (bif Nat.ble pc 3 then (bif Nat.beq pc 3 then some (.iload 4, 2, 5, [], 0) else none)
  else (bif Nat.beq pc 5 then some (.invokestatic 112, 3, 8, [], 0) else none))) : nk_F) pc) : nk_F) pc
  else ((fun pc => bif Nat.ble pc 12 then ((fun pc => bif Nat.ble pc 8 then (bif Nat.beq pc 8 then some (.ifCond .ne 5, 3, 11, [13], 0) else none)
  else (bif Nat.ble pc 11 then (bif Nat.beq pc 11 then some (.iconst (-1), 1, 12, [], (-1)) else none)
  else (bif Nat.beq pc 12 then some (.ireturn, 1, 13, [], 0) else none))) : nk_F) pc
  else ((fun pc => bif Nat.ble pc 13 then (bif Nat.beq pc 13 then some (.aload_n 0, 1, 14, [], 0) else none)
  else (bif Nat.ble pc 14 then (bif Nat.beq pc 14 then some (.getfield 21, 3, 17, [], 0) else none)
  else (bif Nat.beq pc 17 then some (.getfield 116, 3, 20, [], 0) else none))) : nk_F) pc) : nk_F) pc) : nk_F) pc
  else ((fun pc => bif Nat.ble pc 29 then ((fun pc => bif Nat.ble pc 25 then ((fun pc => bif Nat.ble pc 20 then (bif Nat.beq pc 20 then some (.bipush 16, 2, 22, [], 16) else none)
  else (bif Nat.ble pc 22 then (bif Nat.beq pc 22 then some (.if_icmp .lt 6, 3, 25, [28], 0) else none)
  else (bif Nat.beq pc 25 then some (.bipush (-2), 2, 27, [], (-2)) else none))) : nk_F) pc
  else ((fun pc => bif Nat.ble pc 27 then (bif Nat.beq pc 27 then some (.ireturn, 1, 28, [], 0) else none)
  else (bif Nat.ble pc 28 then (bif Nat.beq pc 28 then some (.aload_n 0, 1, 29, [], 0) else none)
  else (bif Nat.beq pc 29 then some (.getfield 21, 3, 32, [], 0) else none))) : nk_F) pc) : nk_F) pc
  else ((fun pc => bif Nat.ble pc 34 then ((fun pc => bif Nat.ble pc 32 then (bif Nat.beq pc 32 then some (.iload_n 1, 1, 33, [], 0) else none)
  else (bif Nat.ble pc 33 then (bif Nat.beq pc 33 then some (.iload_n 2, 1, 34, [], 0) else none)
  else (bif Nat.beq pc 34 then some (.iload_n 3, 1, 35, [], 0) else none))) : nk_F) pc
  else ((fun pc => bif Nat.ble pc 35 then (bif Nat.beq pc 35 then some (.iload 4, 2, 37, [], 0) else none)
  else (bif Nat.ble pc 37 then (bif Nat.beq pc 37 then some (.invokevirtual 119, 3, 40, [], 0) else none)
  else (bif Nat.beq pc 40 then some (.ireturn, 1, 41, [], 0) else none))) : nk_F) pc) : nk_F) pc) : nk_F) pc
noncomputable def kc_X5_stuff : Nat → Option nk_I := nk_top 41 kt_X5_stuff
noncomputable def kx_X5_stuff : nk_T := ([(21, 5, 2, 4), (116, 4, 2, 0)], [(450, 4, 0, 0, 0, ev_X5_isStuffAsTold), (476, 5, 5, 0, 0, ev_X4_addStuff)], [], [], [], [], [], 1, false, 0, 0)
noncomputable def ev_X5_stuff : nk_Ev := fun as h Q => nk_if (Nat.ble (nk_wd as) 5) (nk_ev kx_X5_stuff kc_X5_stuff 5 as h Q)
set_option maxRecDepth 100000 in
theorem ck_X5_stuff : nk_chk cX5_stuff kc_X5_stuff 41 = true := nd_chk (by decide +kernel) (by decide +kernel)
set_option maxRecDepth 100000 in
set_option maxHeartbeats 4000000 in
theorem ca_X5_stuff_450 (l : Launch) : nk_CallOk l { frames := 2, cells := 0, slots := 0, locals := 44 } RX5 cX5_stuff 5 false 450 (4, 0, 0, 0, ev_X5_isStuffAsTold) := nk_callS (x := 112) (n := 4) (mt_X5_isStuffAsTold l) (nk_msc [(2, 21), (2, 22), (2, 23), (1, 1)] (by decide +kernel)) rfl rfl (by decide +kernel) ⟨by decide, by decide⟩
set_option maxRecDepth 100000 in
set_option maxHeartbeats 4000000 in
theorem ca_X5_stuff_476 (l : Launch) : nk_CallOk l { frames := 2, cells := 0, slots := 0, locals := 44 } RX5 cX5_stuff 5 false 476 (5, 5, 0, 0, ev_X4_addStuff) := nk_callV (x := 119) (n := 4) (ci := 4) (r := (RX4, TX4, 4)) (mt_X4_addStuff l) rfl (nk_msc [(2, 24), (2, 25), (2, 26), (2, 27), (1, 2)] (by decide +kernel)) rfl rfl (by decide +kernel) ⟨by decide, by decide⟩
set_option maxRecDepth 100000 in
set_option maxHeartbeats 4000000 in
theorem mt_X5_stuff (l : Launch) : nk_Met l yX5_stuff cX5_stuff 5 (some .int) { frames := 2, cells := 0, slots := 0, locals := 44 } false 0 0 ev_X5_stuff :=
  nk_met nk_gok (plainFor_of_name (by decide)) ck_X5_stuff (nk_top_out 41 kt_X5_stuff) ⟨List.forall_mem_cons.mpr ⟨nk_fkc [(1, 153)] (by decide +kernel), List.forall_mem_cons.mpr ⟨nk_fkc [(1, 31)] (by decide +kernel), fun _ h => absurd h List.not_mem_nil⟩⟩, List.forall_mem_cons.mpr ⟨ca_X5_stuff_450 l, List.forall_mem_cons.mpr ⟨ca_X5_stuff_476 l, fun _ h => absurd h List.not_mem_nil⟩⟩, fun _ h => absurd h List.not_mem_nil, fun _ h => absurd h List.not_mem_nil, fun _ h => absurd h List.not_mem_nil, fun _ h => absurd h List.not_mem_nil, fun _ h => absurd h List.not_mem_nil, by decide, rfl, rfl⟩ rfl (by decide)
/-! MarbleLaw.stuffs(I)I -/
noncomputable def kt_X5_stuffs : Nat → Option nk_I := fun pc => bif Nat.ble pc 94 then ((fun pc => bif Nat.ble pc 46 then ((fun pc => bif Nat.ble pc 22 then ((fun pc => bif Nat.ble pc 11 then ((fun pc => bif Nat.ble pc 3 then ((fun pc => bif Nat.ble pc 0 then (bif Nat.beq pc 0 then some (.iload_n 1, 1, 1, [], 0) else none)
  else (bif Nat.ble pc 1 then (bif Nat.beq pc 1 then some (.bipush 6, 2, 3, [], 6) else none)
  else (bif Nat.beq pc 3 then some (.invokestatic 84, 3, 6, [], 0) else none))) : nk_F) pc
  else ((fun pc => bif Nat.ble pc 9 then (bif Nat.ble pc 6 then (bif Nat.beq pc 6 then some (.ifCond .ne 5, 3, 9, [11], 0) else none)
  else (bif Nat.beq pc 9 then some (.iconst (-1), 1, 10, [], (-1)) else none))
  else (bif Nat.ble pc 10 then (bif Nat.beq pc 10 then some (.ireturn, 1, 11, [], 0) else none)
  else (bif Nat.beq pc 11 then some (.aload_n 0, 1, 12, [], 0) else none))) : nk_F) pc) : nk_F) pc
  else ((fun pc => bif Nat.ble pc 16 then ((fun pc => bif Nat.ble pc 12 then (bif Nat.beq pc 12 then some (.getfield 11, 3, 15, [], 0) else none)
  else (bif Nat.ble pc 15 then (bif Nat.beq pc 15 then some (.iload_n 1, 1, 16, [], 0) else none)
  else (bif Nat.beq pc 16 then some (.aaload, 1, 17, [], 0) else none))) : nk_F) pc
  else ((fun pc => bif Nat.ble pc 18 then (bif Nat.ble pc 17 then (bif Nat.beq pc 17 then some (.astore_n 2, 1, 18, [], 0) else none)
  else (bif Nat.beq pc 18 then some (.aload_n 2, 1, 19, [], 0) else none))
  else (bif Nat.ble pc 19 then (bif Nat.beq pc 19 then some (.invokevirtual 88, 3, 22, [], 0) else none)
  else (bif Nat.beq pc 22 then some (.ifCond .eq 9, 3, 25, [31], 0) else none))) : nk_F) pc) : nk_F) pc) : nk_F) pc
  else ((fun pc => bif Nat.ble pc 35 then ((fun pc => bif Nat.ble pc 27 then ((fun pc => bif Nat.ble pc 25 then (bif Nat.beq pc 25 then some (.aload_n 0, 1, 26, [], 0) else none)
  else (bif Nat.ble pc 26 then (bif Nat.beq pc 26 then some (.iconst 1, 1, 27, [], 1) else none)
  else (bif Nat.beq pc 27 then some (.invokevirtual 92, 3, 30, [], 0) else none))) : nk_F) pc
  else ((fun pc => bif Nat.ble pc 31 then (bif Nat.ble pc 30 then (bif Nat.beq pc 30 then some (.ireturn, 1, 31, [], 0) else none)
  else (bif Nat.beq pc 31 then some (.aload_n 2, 1, 32, [], 0) else none))
  else (bif Nat.ble pc 32 then (bif Nat.beq pc 32 then some (.getfield 96, 3, 35, [], 0) else none)
  else (bif Nat.beq pc 35 then some (.iconst 4, 1, 36, [], 4) else none))) : nk_F) pc) : nk_F) pc
  else ((fun pc => bif Nat.ble pc 40 then ((fun pc => bif Nat.ble pc 36 then (bif Nat.beq pc 36 then some (.irem, 1, 37, [], 0) else none)
  else (bif Nat.ble pc 37 then (bif Nat.beq pc 37 then some (.ifCond .eq 9, 3, 40, [46], 0) else none)
  else (bif Nat.beq pc 40 then some (.aload_n 0, 1, 41, [], 0) else none))) : nk_F) pc
  else ((fun pc => bif Nat.ble pc 42 then (bif Nat.ble pc 41 then (bif Nat.beq pc 41 then some (.iconst 5, 1, 42, [], 5) else none)
  else (bif Nat.beq pc 42 then some (.invokevirtual 92, 3, 45, [], 0) else none))
  else (bif Nat.ble pc 45 then (bif Nat.beq pc 45 then some (.ireturn, 1, 46, [], 0) else none)
  else (bif Nat.beq pc 46 then some (.aload_n 2, 1, 47, [], 0) else none))) : nk_F) pc) : nk_F) pc) : nk_F) pc) : nk_F) pc
  else ((fun pc => bif Nat.ble pc 72 then ((fun pc => bif Nat.ble pc 58 then ((fun pc => bif Nat.ble pc 51 then ((fun pc => bif Nat.ble pc 47 then (bif Nat.beq pc 47 then some (.getfield 96, 3, 50, [], 0) else none)
  else (bif Nat.ble pc 50 then (bif Nat.beq pc 50 then some (.iconst 4, 1, 51, [], 4) else none)
  else (bif Nat.beq pc 51 then some (.idiv, 1, 52, [], 0) else none))) : nk_F) pc
  else ((fun pc => bif Nat.ble pc 54 then (bif Nat.ble pc 52 then (bif Nat.beq pc 52 then some (.bipush 16, 2, 54, [], 16) else none)
  else (bif Nat.beq pc 54 then some (.aload_n 0, 1, 55, [], 0) else none))
  else (bif Nat.ble pc 55 then (bif Nat.beq pc 55 then some (.getfield 21, 3, 58, [], 0) else none)
  else (bif Nat.beq pc 58 then some (.getfield 116, 3, 61, [], 0) else none))) : nk_F) pc) : nk_F) pc
  else ((fun pc => bif Nat.ble pc 65 then ((fun pc => bif Nat.ble pc 61 then (bif Nat.beq pc 61 then some (.isub, 1, 62, [], 0) else none)
  else (bif Nat.ble pc 62 then (bif Nat.beq pc 62 then some (.if_icmp .le 6, 3, 65, [68], 0) else none)
  else (bif Nat.beq pc 65 then some (.bipush (-2), 2, 67, [], (-2)) else none))) : nk_F) pc
  else ((fun pc => bif Nat.ble pc 68 then (bif Nat.ble pc 67 then (bif Nat.beq pc 67 then some (.ireturn, 1, 68, [], 0) else none)
  else (bif Nat.beq pc 68 then some (.aload_n 2, 1, 69, [], 0) else none))
  else (bif Nat.ble pc 69 then (bif Nat.beq pc 69 then some (.getfield 81, 3, 72, [], 0) else none)
  else (bif Nat.beq pc 72 then some (.astore_n 3, 1, 73, [], 0) else none))) : nk_F) pc) : nk_F) pc) : nk_F) pc
  else ((fun pc => bif Nat.ble pc 81 then ((fun pc => bif Nat.ble pc 76 then ((fun pc => bif Nat.ble pc 73 then (bif Nat.beq pc 73 then some (.iconst 0, 1, 74, [], 0) else none)
  else (bif Nat.ble pc 74 then (bif Nat.beq pc 74 then some (.istore 4, 2, 76, [], 0) else none)
  else (bif Nat.beq pc 76 then some (.iload 4, 2, 78, [], 0) else none))) : nk_F) pc
  else ((fun pc => bif Nat.ble pc 79 then (bif Nat.ble pc 78 then (bif Nat.beq pc 78 then some (.iconst 3, 1, 79, [], 3) else none)
  else (bif Nat.beq pc 79 then some (.iadd, 1, 80, [], 0) else none))
  else (bif Nat.ble pc 80 then (bif Nat.beq pc 80 then some (.aload_n 2, 1, 81, [], 0) else none)
  else (bif Nat.beq pc 81 then some (.getfield 96, 3, 84, [], 0) else none))) : nk_F) pc) : nk_F) pc
  else ((fun pc => bif Nat.ble pc 88 then ((fun pc => bif Nat.ble pc 84 then (bif Nat.beq pc 84 then some (.if_icmp .ge 43, 3, 87, [127], 0) else none)
  else (bif Nat.ble pc 87 then (bif Nat.beq pc 87 then some (.aload_n 3, 1, 88, [], 0) else none)
  else (bif Nat.beq pc 88 then some (.iload 4, 2, 90, [], 0) else none))) : nk_F) pc
  else ((fun pc => bif Nat.ble pc 91 then (bif Nat.ble pc 90 then (bif Nat.beq pc 90 then some (.iaload, 1, 91, [], 0) else none)
  else (bif Nat.beq pc 91 then some (.aload_n 3, 1, 92, [], 0) else none))
  else (bif Nat.ble pc 92 then (bif Nat.beq pc 92 then some (.iload 4, 2, 94, [], 0) else none)
  else (bif Nat.beq pc 94 then some (.iconst 1, 1, 95, [], 1) else none))) : nk_F) pc) : nk_F) pc) : nk_F) pc) : nk_F) pc) : nk_F) pc
  else ((fun pc => bif Nat.ble pc 138 then ((fun pc => bif Nat.ble pc 112 then ((fun pc => bif Nat.ble pc 102 then ((fun pc => bif Nat.ble pc 97 then ((fun pc => bif Nat.ble pc 95 then (bif Nat.beq pc 95 then some (.iadd, 1, 96, [], 0) else none)
  else (bif Nat.ble pc 96 then (bif Nat.beq pc 96 then some (.iaload, 1, 97, [], 0) else none)
  else (bif Nat.beq pc 97 then some (.aload_n 3, 1, 98, [], 0) else none))) : nk_F) pc
  else ((fun pc => bif Nat.ble pc 100 then (bif Nat.ble pc 98 then (bif Nat.beq pc 98 then some (.iload 4, 2, 100, [], 0) else none)
  else (bif Nat.beq pc 100 then some (.iconst 2, 1, 101, [], 2) else none))
  else (bif Nat.ble pc 101 then (bif Nat.beq pc 101 then some (.iadd, 1, 102, [], 0) else none)
  else (bif Nat.beq pc 102 then some (.iaload, 1, 103, [], 0) else none))) : nk_F) pc) : nk_F) pc
  else ((fun pc => bif Nat.ble pc 106 then ((fun pc => bif Nat.ble pc 103 then (bif Nat.beq pc 103 then some (.aload_n 3, 1, 104, [], 0) else none)
  else (bif Nat.ble pc 104 then (bif Nat.beq pc 104 then some (.iload 4, 2, 106, [], 0) else none)
  else (bif Nat.beq pc 106 then some (.iconst 3, 1, 107, [], 3) else none))) : nk_F) pc
  else ((fun pc => bif Nat.ble pc 108 then (bif Nat.ble pc 107 then (bif Nat.beq pc 107 then some (.iadd, 1, 108, [], 0) else none)
  else (bif Nat.beq pc 108 then some (.iaload, 1, 109, [], 0) else none))
  else (bif Nat.ble pc 109 then (bif Nat.beq pc 109 then some (.invokestatic 112, 3, 112, [], 0) else none)
  else (bif Nat.beq pc 112 then some (.ifCond .ne 9, 3, 115, [121], 0) else none))) : nk_F) pc) : nk_F) pc) : nk_F) pc
  else ((fun pc => bif Nat.ble pc 127 then ((fun pc => bif Nat.ble pc 117 then ((fun pc => bif Nat.ble pc 115 then (bif Nat.beq pc 115 then some (.aload_n 0, 1, 116, [], 0) else none)
  else (bif Nat.ble pc 116 then (bif Nat.beq pc 116 then some (.iconst 3, 1, 117, [], 3) else none)
  else (bif Nat.beq pc 117 then some (.invokevirtual 92, 3, 120, [], 0) else none))) : nk_F) pc
  else ((fun pc => bif Nat.ble pc 121 then (bif Nat.ble pc 120 then (bif Nat.beq pc 120 then some (.ireturn, 1, 121, [], 0) else none)
  else (bif Nat.beq pc 121 then some (.iinc 4 4, 3, 124, [], 4) else none))
  else (bif Nat.ble pc 124 then (bif Nat.beq pc 124 then some (.goto (-48), 3, 127, [76], 0) else none)
  else (bif Nat.beq pc 127 then some (.iconst 0, 1, 128, [], 0) else none))) : nk_F) pc) : nk_F) pc
  else ((fun pc => bif Nat.ble pc 132 then ((fun pc => bif Nat.ble pc 128 then (bif Nat.beq pc 128 then some (.istore 4, 2, 130, [], 0) else none)
  else (bif Nat.ble pc 130 then (bif Nat.beq pc 130 then some (.iload 4, 2, 132, [], 0) else none)
  else (bif Nat.beq pc 132 then some (.iconst 3, 1, 133, [], 3) else none))) : nk_F) pc
  else ((fun pc => bif Nat.ble pc 134 then (bif Nat.ble pc 133 then (bif Nat.beq pc 133 then some (.iadd, 1, 134, [], 0) else none)
  else (bif Nat.beq pc 134 then some (.aload_n 2, 1, 135, [], 0) else none))
  else (bif Nat.ble pc 135 then (bif Nat.beq pc 135 then some (.getfield 96, 3, 138, [], 0) else none)
  else (bif Nat.beq pc 138 then some (.if_icmp .ge 39, 3, 141, [177], 0) else none))) : nk_F) pc) : nk_F) pc) : nk_F) pc) : nk_F) pc
  else ((fun pc => bif Nat.ble pc 159 then ((fun pc => bif Nat.ble pc 150 then ((fun pc => bif Nat.ble pc 145 then ((fun pc => bif Nat.ble pc 141 then (bif Nat.beq pc 141 then some (.aload_n 0, 1, 142, [], 0) else none)
  else (bif Nat.ble pc 142 then (bif Nat.beq pc 142 then some (.getfield 21, 3, 145, [], 0) else none)
  else (bif Nat.beq pc 145 then some (.aload_n 3, 1, 146, [], 0) else none))) : nk_F) pc
  else ((fun pc => bif Nat.ble pc 148 then (bif Nat.ble pc 146 then (bif Nat.beq pc 146 then some (.iload 4, 2, 148, [], 0) else none)
  else (bif Nat.beq pc 148 then some (.iaload, 1, 149, [], 0) else none))
  else (bif Nat.ble pc 149 then (bif Nat.beq pc 149 then some (.aload_n 3, 1, 150, [], 0) else none)
  else (bif Nat.beq pc 150 then some (.iload 4, 2, 152, [], 0) else none))) : nk_F) pc) : nk_F) pc
  else ((fun pc => bif Nat.ble pc 154 then ((fun pc => bif Nat.ble pc 152 then (bif Nat.beq pc 152 then some (.iconst 1, 1, 153, [], 1) else none)
  else (bif Nat.ble pc 153 then (bif Nat.beq pc 153 then some (.iadd, 1, 154, [], 0) else none)
  else (bif Nat.beq pc 154 then some (.iaload, 1, 155, [], 0) else none))) : nk_F) pc
  else ((fun pc => bif Nat.ble pc 156 then (bif Nat.ble pc 155 then (bif Nat.beq pc 155 then some (.aload_n 3, 1, 156, [], 0) else none)
  else (bif Nat.beq pc 156 then some (.iload 4, 2, 158, [], 0) else none))
  else (bif Nat.ble pc 158 then (bif Nat.beq pc 158 then some (.iconst 2, 1, 159, [], 2) else none)
  else (bif Nat.beq pc 159 then some (.iadd, 1, 160, [], 0) else none))) : nk_F) pc) : nk_F) pc) : nk_F) pc
  else ((fun pc => bif Nat.ble pc 167 then ((fun pc => bif Nat.ble pc 162 then ((fun pc => bif Nat.ble pc 160 then (bif Nat.beq pc 160 then some (.iaload, 1, 161, [], 0) else none)
  else (bif Nat.ble pc 161 then (bif Nat.beq pc 161 then some (.aload_n 3, 1, 162, [], 0) else none)
  else (bif Nat.beq pc 162 then some (.iload 4, 2, 164, [], 0) else none))) : nk_F) pc
  else ((fun pc => bif Nat.ble pc 165 then (bif Nat.ble pc 164 then (bif Nat.beq pc 164 then some (.iconst 3, 1, 165, [], 3) else none)
  else (bif Nat.beq pc 165 then some (.iadd, 1, 166, [], 0) else none))
  else (bif Nat.ble pc 166 then (bif Nat.beq pc 166 then some (.iaload, 1, 167, [], 0) else none)
  else (bif Nat.beq pc 167 then some (.invokevirtual 119, 3, 170, [], 0) else none))) : nk_F) pc) : nk_F) pc
  else ((fun pc => bif Nat.ble pc 177 then ((fun pc => bif Nat.ble pc 171 then (bif Nat.ble pc 170 then (bif Nat.beq pc 170 then some (.pop, 1, 171, [], 0) else none)
  else (bif Nat.beq pc 171 then some (.iinc 4 4, 3, 174, [], 4) else none))
  else (bif Nat.ble pc 174 then (bif Nat.beq pc 174 then some (.goto (-44), 3, 177, [130], 0) else none)
  else (bif Nat.beq pc 177 then some (.aload_n 2, 1, 178, [], 0) else none))) : nk_F) pc
  else ((fun pc => bif Nat.ble pc 181 then (bif Nat.ble pc 178 then (bif Nat.beq pc 178 then some (.getfield 96, 3, 181, [], 0) else none)
  else (bif Nat.beq pc 181 then some (.iconst 4, 1, 182, [], 4) else none))
  else (bif Nat.ble pc 182 then (bif Nat.beq pc 182 then some (.idiv, 1, 183, [], 0) else none)
  else (bif Nat.beq pc 183 then some (.ireturn, 1, 184, [], 0) else none))) : nk_F) pc) : nk_F) pc) : nk_F) pc) : nk_F) pc) : nk_F) pc
noncomputable def kc_X5_stuffs : Nat → Option nk_I := nk_top 184 kt_X5_stuffs
noncomputable def kx_X5_stuffs : nk_T := ([(11, 5, 0, 4), (96, 3, 1, 0), (21, 5, 2, 4), (116, 4, 2, 0), (81, 3, 0, 5)], [(338, 2, 0, 0, 0, ev_X5_within), (352, 1, 4, 0, 0, ev_X3_isMissing), (368, 2, 6, 0, 0, ev_X5_found), (450, 4, 0, 0, 0, ev_X5_isStuffAsTold), (476, 5, 5, 0, 0, ev_X4_addStuff)], [], [], [], [], [], 1, false, 0, 0)
noncomputable def ev_X5_stuffs : nk_Ev := fun as h Q => nk_if (Nat.ble (nk_wd as) 5) (nk_ev kx_X5_stuffs kc_X5_stuffs 5 as h Q)
set_option maxRecDepth 100000 in
theorem ck_X5_stuffs : nk_chk cX5_stuffs kc_X5_stuffs 184 = true := nd_chk (by decide +kernel) (by decide +kernel)
set_option maxRecDepth 100000 in
set_option maxHeartbeats 4000000 in
theorem ca_X5_stuffs_338 (l : Launch) : nk_CallOk l { frames := 2, cells := 0, slots := 0, locals := 44 } RX5 cX5_stuffs 5 false 338 (2, 0, 0, 0, ev_X5_within) := nk_callS (x := 84) (n := 2) (mt_X5_within l) (nk_msc [(1, 199), (1, 200), (1, 201), (1, 1)] (by decide +kernel)) rfl rfl (by decide +kernel) ⟨by decide, by decide⟩
set_option maxRecDepth 100000 in
set_option maxHeartbeats 4000000 in
theorem ca_X5_stuffs_352 (l : Launch) : nk_CallOk l { frames := 2, cells := 0, slots := 0, locals := 44 } RX5 cX5_stuffs 5 false 352 (1, 4, 0, 0, ev_X3_isMissing) := nk_callV (x := 88) (n := 0) (ci := 3) (r := (RX3, TX3, 2)) (mt_X3_isMissing l) rfl (nk_msc [(1, 218), (1, 219), (1, 220), (1, 221), (1, 5)] (by decide +kernel)) rfl rfl (by decide +kernel) ⟨by decide, by decide⟩
set_option maxRecDepth 100000 in
set_option maxHeartbeats 4000000 in
theorem ca_X5_stuffs_368 (l : Launch) : nk_CallOk l { frames := 2, cells := 0, slots := 0, locals := 44 } RX5 cX5_stuffs 5 false 368 (2, 6, 0, 0, ev_X5_found) := nk_callV (x := 92) (n := 1) (ci := 5) (r := (RX5, TX5, 13)) (mt_X5_found l) rfl (nk_msc [(1, 202), (1, 203), (1, 204), (1, 205), (0, 1), (1, 1)] (by decide +kernel)) rfl rfl (by decide +kernel) ⟨by decide, by decide⟩
set_option maxRecDepth 100000 in
set_option maxHeartbeats 4000000 in
theorem ca_X5_stuffs_450 (l : Launch) : nk_CallOk l { frames := 2, cells := 0, slots := 0, locals := 44 } RX5 cX5_stuffs 5 false 450 (4, 0, 0, 0, ev_X5_isStuffAsTold) := nk_callS (x := 112) (n := 4) (mt_X5_isStuffAsTold l) (nk_msc [(2, 21), (2, 22), (2, 23), (1, 1)] (by decide +kernel)) rfl rfl (by decide +kernel) ⟨by decide, by decide⟩
set_option maxRecDepth 100000 in
set_option maxHeartbeats 4000000 in
theorem ca_X5_stuffs_476 (l : Launch) : nk_CallOk l { frames := 2, cells := 0, slots := 0, locals := 44 } RX5 cX5_stuffs 5 false 476 (5, 5, 0, 0, ev_X4_addStuff) := nk_callV (x := 119) (n := 4) (ci := 4) (r := (RX4, TX4, 4)) (mt_X4_addStuff l) rfl (nk_msc [(2, 24), (2, 25), (2, 26), (2, 27), (1, 2)] (by decide +kernel)) rfl rfl (by decide +kernel) ⟨by decide, by decide⟩
set_option maxRecDepth 100000 in
set_option maxHeartbeats 4000000 in
theorem mt_X5_stuffs (l : Launch) : nk_Met l yX5_stuffs cX5_stuffs 5 (some .int) { frames := 2, cells := 0, slots := 0, locals := 44 } false 0 0 ev_X5_stuffs :=
  nk_met nk_gok (plainFor_of_name (by decide)) ck_X5_stuffs (nk_top_out 184 kt_X5_stuffs) ⟨List.forall_mem_cons.mpr ⟨nk_fkc [(1, 151)] (by decide +kernel), List.forall_mem_cons.mpr ⟨nk_fkc [(1, 129)] (by decide +kernel), List.forall_mem_cons.mpr ⟨nk_fkc [(1, 153)] (by decide +kernel), List.forall_mem_cons.mpr ⟨nk_fkc [(1, 31)] (by decide +kernel), List.forall_mem_cons.mpr ⟨nk_fkc [(1, 126)] (by decide +kernel), fun _ h => absurd h List.not_mem_nil⟩⟩⟩⟩⟩, List.forall_mem_cons.mpr ⟨ca_X5_stuffs_338 l, List.forall_mem_cons.mpr ⟨ca_X5_stuffs_352 l, List.forall_mem_cons.mpr ⟨ca_X5_stuffs_368 l, List.forall_mem_cons.mpr ⟨ca_X5_stuffs_450 l, List.forall_mem_cons.mpr ⟨ca_X5_stuffs_476 l, fun _ h => absurd h List.not_mem_nil⟩⟩⟩⟩⟩, fun _ h => absurd h List.not_mem_nil, fun _ h => absurd h List.not_mem_nil, fun _ h => absurd h List.not_mem_nil, fun _ h => absurd h List.not_mem_nil, fun _ h => absurd h List.not_mem_nil, by decide, rfl, rfl⟩ rfl (by decide)
/-! MarbleLaw.isStuff(I)Z -/
noncomputable def kt_X5_isStuff : Nat → Option nk_I := fun pc => bif Nat.ble pc 2 then ((fun pc => bif Nat.ble pc 0 then (bif Nat.beq pc 0 then some (.iload_n 1, 1, 1, [], 0) else none)
  else (bif Nat.ble pc 1 then (bif Nat.beq pc 1 then some (.aload_n 0, 1, 2, [], 0) else none)
  else (bif Nat.beq pc 2 then some (.getfield 21, 3, 5, [], 0) else none))) : nk_F) pc
  else ((fun pc => bif Nat.ble pc 5 then (bif Nat.beq pc 5 then some (.getfield 116, 3, 8, [], 0) else none)
  else (bif Nat.ble pc 8 then (bif Nat.beq pc 8 then some (.invokestatic 84, 3, 11, [], 0) else none)
  else (bif Nat.beq pc 11 then some (.ireturn, 1, 12, [], 0) else none))) : nk_F) pc
noncomputable def kc_X5_isStuff : Nat → Option nk_I := nk_top 12 kt_X5_isStuff
noncomputable def kx_X5_isStuff : nk_T := ([(21, 5, 2, 4), (116, 4, 2, 0)], [(338, 2, 0, 0, 0, ev_X5_within)], [], [], [], [], [], 2, false, 0, 0)
noncomputable def ev_X5_isStuff : nk_Ev := fun as h Q => nk_if (Nat.ble (nk_wd as) 2) (nk_ev kx_X5_isStuff kc_X5_isStuff 2 as h Q)
set_option maxRecDepth 100000 in
theorem ck_X5_isStuff : nk_chk cX5_isStuff kc_X5_isStuff 12 = true := nd_chk (by decide +kernel) (by decide +kernel)
set_option maxRecDepth 100000 in
set_option maxHeartbeats 4000000 in
theorem ca_X5_isStuff_338 (l : Launch) : nk_CallOk l { frames := 1, cells := 0, slots := 0, locals := 21 } RX5 cX5_isStuff 2 false 338 (2, 0, 0, 0, ev_X5_within) := nk_callS (x := 84) (n := 2) (mt_X5_within l) (nk_msc [(1, 199), (1, 200), (1, 201), (1, 1)] (by decide +kernel)) rfl rfl (by decide +kernel) ⟨by decide, by decide⟩
set_option maxRecDepth 100000 in
set_option maxHeartbeats 4000000 in
theorem mt_X5_isStuff (l : Launch) : nk_Met l yX5_isStuff cX5_isStuff 2 (some .boolean) { frames := 1, cells := 0, slots := 0, locals := 21 } false 0 0 ev_X5_isStuff :=
  nk_met nk_gok (plainFor_of_name (by decide)) ck_X5_isStuff (nk_top_out 12 kt_X5_isStuff) ⟨List.forall_mem_cons.mpr ⟨nk_fkc [(1, 153)] (by decide +kernel), List.forall_mem_cons.mpr ⟨nk_fkc [(1, 31)] (by decide +kernel), fun _ h => absurd h List.not_mem_nil⟩⟩, List.forall_mem_cons.mpr ⟨ca_X5_isStuff_338 l, fun _ h => absurd h List.not_mem_nil⟩, fun _ h => absurd h List.not_mem_nil, fun _ h => absurd h List.not_mem_nil, fun _ h => absurd h List.not_mem_nil, fun _ h => absurd h List.not_mem_nil, fun _ h => absurd h List.not_mem_nil, by decide, rfl, rfl⟩ rfl (by decide)
/-! MarbleLaw.debt(II)I -/
noncomputable def kt_X5_debt : Nat → Option nk_I := fun pc => bif Nat.ble pc 21 then ((fun pc => bif Nat.ble pc 9 then ((fun pc => bif Nat.ble pc 2 then ((fun pc => bif Nat.ble pc 0 then (bif Nat.beq pc 0 then some (.aload_n 0, 1, 1, [], 0) else none)
  else (bif Nat.ble pc 1 then (bif Nat.beq pc 1 then some (.iload_n 1, 1, 2, [], 0) else none)
  else (bif Nat.beq pc 2 then some (.invokevirtual 123, 3, 5, [], 0) else none))) : nk_F) pc
  else ((fun pc => bif Nat.ble pc 5 then (bif Nat.beq pc 5 then some (.ifCond .eq 14, 3, 8, [19], 0) else none)
  else (bif Nat.ble pc 8 then (bif Nat.beq pc 8 then some (.iload_n 2, 1, 9, [], 0) else none)
  else (bif Nat.beq pc 9 then some (.ifCond .lt 10, 3, 12, [19], 0) else none))) : nk_F) pc) : nk_F) pc
  else ((fun pc => bif Nat.ble pc 16 then ((fun pc => bif Nat.ble pc 12 then (bif Nat.beq pc 12 then some (.iload_n 2, 1, 13, [], 0) else none)
  else (bif Nat.ble pc 13 then (bif Nat.beq pc 13 then some (.sipush 999, 3, 16, [], 999) else none)
  else (bif Nat.beq pc 16 then some (.if_icmp .le 5, 3, 19, [21], 0) else none))) : nk_F) pc
  else ((fun pc => bif Nat.ble pc 19 then (bif Nat.beq pc 19 then some (.iconst (-1), 1, 20, [], (-1)) else none)
  else (bif Nat.ble pc 20 then (bif Nat.beq pc 20 then some (.ireturn, 1, 21, [], 0) else none)
  else (bif Nat.beq pc 21 then some (.aload_n 0, 1, 22, [], 0) else none))) : nk_F) pc) : nk_F) pc) : nk_F) pc
  else ((fun pc => bif Nat.ble pc 31 then ((fun pc => bif Nat.ble pc 26 then ((fun pc => bif Nat.ble pc 22 then (bif Nat.beq pc 22 then some (.getfield 21, 3, 25, [], 0) else none)
  else (bif Nat.ble pc 25 then (bif Nat.beq pc 25 then some (.iload_n 1, 1, 26, [], 0) else none)
  else (bif Nat.beq pc 26 then some (.iconst 4, 1, 27, [], 4) else none))) : nk_F) pc
  else ((fun pc => bif Nat.ble pc 27 then (bif Nat.beq pc 27 then some (.invokevirtual 127, 3, 30, [], 0) else none)
  else (bif Nat.ble pc 30 then (bif Nat.beq pc 30 then some (.istore_n 3, 1, 31, [], 0) else none)
  else (bif Nat.beq pc 31 then some (.aload_n 0, 1, 32, [], 0) else none))) : nk_F) pc) : nk_F) pc
  else ((fun pc => bif Nat.ble pc 36 then ((fun pc => bif Nat.ble pc 32 then (bif Nat.beq pc 32 then some (.getfield 21, 3, 35, [], 0) else none)
  else (bif Nat.ble pc 35 then (bif Nat.beq pc 35 then some (.iload_n 1, 1, 36, [], 0) else none)
  else (bif Nat.beq pc 36 then some (.iload_n 2, 1, 37, [], 0) else none))) : nk_F) pc
  else ((fun pc => bif Nat.ble pc 37 then (bif Nat.beq pc 37 then some (.invokevirtual 131, 3, 40, [], 0) else none)
  else (bif Nat.ble pc 40 then (bif Nat.beq pc 40 then some (.iload_n 3, 1, 41, [], 0) else none)
  else (bif Nat.beq pc 41 then some (.ireturn, 1, 42, [], 0) else none))) : nk_F) pc) : nk_F) pc) : nk_F) pc
noncomputable def kc_X5_debt : Nat → Option nk_I := nk_top 42 kt_X5_debt
noncomputable def kx_X5_debt : nk_T := ([(21, 5, 2, 4)], [(492, 2, 6, 0, 0, ev_X5_isStuff), (508, 3, 5, 0, 0, ev_X4_ofStuff), (524, 3, 5, 0, 0, ev_X4_setDebt)], [], [], [], [], [], 1, false, 0, 0)
noncomputable def ev_X5_debt : nk_Ev := fun as h Q => nk_if (Nat.ble (nk_wd as) 4) (nk_ev kx_X5_debt kc_X5_debt 4 as h Q)
set_option maxRecDepth 100000 in
theorem ck_X5_debt : nk_chk cX5_debt kc_X5_debt 42 = true := nd_chk (by decide +kernel) (by decide +kernel)
set_option maxRecDepth 100000 in
set_option maxHeartbeats 4000000 in
theorem ca_X5_debt_492 (l : Launch) : nk_CallOk l { frames := 2, cells := 0, slots := 0, locals := 42 } RX5 cX5_debt 4 false 492 (2, 6, 0, 0, ev_X5_isStuff) := nk_callV (x := 123) (n := 1) (ci := 5) (r := (RX5, TX5, 13)) (mt_X5_isStuff l) rfl (nk_msc [(2, 36), (2, 37), (2, 38), (2, 39), (0, 3), (1, 1)] (by decide +kernel)) rfl rfl (by decide +kernel) ⟨by decide, by decide⟩
set_option maxRecDepth 100000 in
set_option maxHeartbeats 4000000 in
theorem ca_X5_debt_508 (l : Launch) : nk_CallOk l { frames := 2, cells := 0, slots := 0, locals := 42 } RX5 cX5_debt 4 false 508 (3, 5, 0, 0, ev_X4_ofStuff) := nk_callV (x := 127) (n := 2) (ci := 4) (r := (RX4, TX4, 4)) (mt_X4_ofStuff l) rfl (nk_msc [(2, 40), (2, 41), (2, 42), (2, 43), (1, 2)] (by decide +kernel)) rfl rfl (by decide +kernel) ⟨by decide, by decide⟩
set_option maxRecDepth 100000 in
set_option maxHeartbeats 4000000 in
theorem ca_X5_debt_524 (l : Launch) : nk_CallOk l { frames := 2, cells := 0, slots := 0, locals := 42 } RX5 cX5_debt 4 false 524 (3, 5, 0, 0, ev_X4_setDebt) := nk_callV (x := 131) (n := 2) (ci := 4) (r := (RX4, TX4, 4)) (mt_X4_setDebt l) rfl (nk_msc [(2, 44), (2, 45), (2, 46), (2, 47), (1, 2)] (by decide +kernel)) rfl rfl (by decide +kernel) ⟨by decide, by decide⟩
set_option maxRecDepth 100000 in
set_option maxHeartbeats 4000000 in
theorem mt_X5_debt (l : Launch) : nk_Met l yX5_debt cX5_debt 4 (some .int) { frames := 2, cells := 0, slots := 0, locals := 42 } false 0 0 ev_X5_debt :=
  nk_met nk_gok (plainFor_of_name (by decide)) ck_X5_debt (nk_top_out 42 kt_X5_debt) ⟨List.forall_mem_cons.mpr ⟨nk_fkc [(1, 153)] (by decide +kernel), fun _ h => absurd h List.not_mem_nil⟩, List.forall_mem_cons.mpr ⟨ca_X5_debt_492 l, List.forall_mem_cons.mpr ⟨ca_X5_debt_508 l, List.forall_mem_cons.mpr ⟨ca_X5_debt_524 l, fun _ h => absurd h List.not_mem_nil⟩⟩⟩, fun _ h => absurd h List.not_mem_nil, fun _ h => absurd h List.not_mem_nil, fun _ h => absurd h List.not_mem_nil, fun _ h => absurd h List.not_mem_nil, fun _ h => absurd h List.not_mem_nil, by decide, rfl, rfl⟩ rfl (by decide)
/-! MarbleLaw.isAim(III)Z -/
noncomputable def kt_X5_isAim : Nat → Option nk_I := fun pc => bif Nat.ble pc 29 then ((fun pc => bif Nat.ble pc 12 then ((fun pc => bif Nat.ble pc 5 then ((fun pc => bif Nat.ble pc 1 then (bif Nat.ble pc 0 then (bif Nat.beq pc 0 then some (.iload_n 1, 1, 1, [], 0) else none)
  else (bif Nat.beq pc 1 then some (.iconst 1, 1, 2, [], 1) else none))
  else (bif Nat.ble pc 2 then (bif Nat.beq pc 2 then some (.if_icmp .ne 10, 3, 5, [12], 0) else none)
  else (bif Nat.beq pc 5 then some (.iload_n 3, 1, 6, [], 0) else none))) : nk_F) pc
  else ((fun pc => bif Nat.ble pc 8 then (bif Nat.ble pc 6 then (bif Nat.beq pc 6 then some (.bipush 10, 2, 8, [], 10) else none)
  else (bif Nat.beq pc 8 then some (.invokestatic 84, 3, 11, [], 0) else none))
  else (bif Nat.ble pc 11 then (bif Nat.beq pc 11 then some (.ireturn, 1, 12, [], 0) else none)
  else (bif Nat.beq pc 12 then some (.iload_n 1, 1, 13, [], 0) else none))) : nk_F) pc) : nk_F) pc
  else ((fun pc => bif Nat.ble pc 19 then ((fun pc => bif Nat.ble pc 15 then (bif Nat.ble pc 13 then (bif Nat.beq pc 13 then some (.bipush 6, 2, 15, [], 6) else none)
  else (bif Nat.beq pc 15 then some (.if_icmp .ne 20, 3, 18, [35], 0) else none))
  else (bif Nat.ble pc 18 then (bif Nat.beq pc 18 then some (.iload_n 3, 1, 19, [], 0) else none)
  else (bif Nat.beq pc 19 then some (.iconst 1, 1, 20, [], 1) else none))) : nk_F) pc
  else ((fun pc => bif Nat.ble pc 23 then (bif Nat.ble pc 20 then (bif Nat.beq pc 20 then some (.if_icmp .lt 13, 3, 23, [33], 0) else none)
  else (bif Nat.beq pc 23 then some (.iload_n 3, 1, 24, [], 0) else none))
  else ((fun pc => bif Nat.ble pc 24 then (bif Nat.beq pc 24 then some (.bipush 99, 2, 26, [], 99) else none)
  else (bif Nat.ble pc 26 then (bif Nat.beq pc 26 then some (.if_icmp .gt 7, 3, 29, [33], 0) else none)
  else (bif Nat.beq pc 29 then some (.iconst 1, 1, 30, [], 1) else none))) : nk_F) pc) : nk_F) pc) : nk_F) pc) : nk_F) pc
  else ((fun pc => bif Nat.ble pc 43 then ((fun pc => bif Nat.ble pc 35 then ((fun pc => bif Nat.ble pc 33 then (bif Nat.ble pc 30 then (bif Nat.beq pc 30 then some (.goto 4, 3, 33, [34], 0) else none)
  else (bif Nat.beq pc 33 then some (.iconst 0, 1, 34, [], 0) else none))
  else (bif Nat.ble pc 34 then (bif Nat.beq pc 34 then some (.ireturn, 1, 35, [], 0) else none)
  else (bif Nat.beq pc 35 then some (.iload_n 1, 1, 36, [], 0) else none))) : nk_F) pc
  else ((fun pc => bif Nat.ble pc 39 then (bif Nat.ble pc 36 then (bif Nat.beq pc 36 then some (.invokestatic 306, 3, 39, [], 0) else none)
  else (bif Nat.beq pc 39 then some (.ifCond .eq 16, 3, 42, [55], 0) else none))
  else (bif Nat.ble pc 42 then (bif Nat.beq pc 42 then some (.aload_n 0, 1, 43, [], 0) else none)
  else (bif Nat.beq pc 43 then some (.iload_n 3, 1, 44, [], 0) else none))) : nk_F) pc) : nk_F) pc
  else ((fun pc => bif Nat.ble pc 51 then ((fun pc => bif Nat.ble pc 47 then (bif Nat.ble pc 44 then (bif Nat.beq pc 44 then some (.invokevirtual 123, 3, 47, [], 0) else none)
  else (bif Nat.beq pc 47 then some (.ifCond .eq 12, 3, 50, [59], 0) else none))
  else (bif Nat.ble pc 50 then (bif Nat.beq pc 50 then some (.iload_n 3, 1, 51, [], 0) else none)
  else (bif Nat.beq pc 51 then some (.iload_n 2, 1, 52, [], 0) else none))) : nk_F) pc
  else ((fun pc => bif Nat.ble pc 55 then (bif Nat.ble pc 52 then (bif Nat.beq pc 52 then some (.if_icmp .eq 7, 3, 55, [59], 0) else none)
  else (bif Nat.beq pc 55 then some (.iconst 1, 1, 56, [], 1) else none))
  else ((fun pc => bif Nat.ble pc 56 then (bif Nat.beq pc 56 then some (.goto 4, 3, 59, [60], 0) else none)
  else (bif Nat.ble pc 59 then (bif Nat.beq pc 59 then some (.iconst 0, 1, 60, [], 0) else none)
  else (bif Nat.beq pc 60 then some (.ireturn, 1, 61, [], 0) else none))) : nk_F) pc) : nk_F) pc) : nk_F) pc) : nk_F) pc
noncomputable def kc_X5_isAim : Nat → Option nk_I := nk_top 61 kt_X5_isAim
noncomputable def kx_X5_isAim : nk_T := ([], [(338, 2, 0, 0, 0, ev_X5_within), (1226, 1, 0, 0, 0, ev_X5_namesTwo), (492, 2, 6, 0, 0, ev_X5_isStuff)], [], [], [], [], [], 2, false, 0, 0)
noncomputable def ev_X5_isAim : nk_Ev := fun as h Q => nk_if (Nat.ble (nk_wd as) 4) (nk_ev kx_X5_isAim kc_X5_isAim 4 as h Q)
set_option maxRecDepth 100000 in
theorem ck_X5_isAim : nk_chk cX5_isAim kc_X5_isAim 61 = true := nd_chk (by decide +kernel) (by decide +kernel)
set_option maxRecDepth 100000 in
set_option maxHeartbeats 4000000 in
theorem ca_X5_isAim_338 (l : Launch) : nk_CallOk l { frames := 2, cells := 0, slots := 0, locals := 42 } RX5 cX5_isAim 4 false 338 (2, 0, 0, 0, ev_X5_within) := nk_callS (x := 84) (n := 2) (mt_X5_within l) (nk_msc [(1, 199), (1, 200), (1, 201), (1, 1)] (by decide +kernel)) rfl rfl (by decide +kernel) ⟨by decide, by decide⟩
set_option maxRecDepth 100000 in
set_option maxHeartbeats 4000000 in
theorem ca_X5_isAim_1226 (l : Launch) : nk_CallOk l { frames := 2, cells := 0, slots := 0, locals := 42 } RX5 cX5_isAim 4 false 1226 (1, 0, 0, 0, ev_X5_namesTwo) := nk_callS (x := 306) (n := 1) (mt_X5_namesTwo l) (nk_msc [(2, 56), (2, 57), (2, 58), (1, 1)] (by decide +kernel)) rfl rfl (by decide +kernel) ⟨by decide, by decide⟩
set_option maxRecDepth 100000 in
set_option maxHeartbeats 4000000 in
theorem ca_X5_isAim_492 (l : Launch) : nk_CallOk l { frames := 2, cells := 0, slots := 0, locals := 42 } RX5 cX5_isAim 4 false 492 (2, 6, 0, 0, ev_X5_isStuff) := nk_callV (x := 123) (n := 1) (ci := 5) (r := (RX5, TX5, 13)) (mt_X5_isStuff l) rfl (nk_msc [(2, 36), (2, 37), (2, 38), (2, 39), (0, 3), (1, 1)] (by decide +kernel)) rfl rfl (by decide +kernel) ⟨by decide, by decide⟩
set_option maxRecDepth 100000 in
set_option maxHeartbeats 4000000 in
theorem mt_X5_isAim (l : Launch) : nk_Met l yX5_isAim cX5_isAim 4 (some .boolean) { frames := 2, cells := 0, slots := 0, locals := 42 } false 0 0 ev_X5_isAim :=
  nk_met nk_gok (plainFor_of_name (by decide)) ck_X5_isAim (nk_top_out 61 kt_X5_isAim) ⟨fun _ h => absurd h List.not_mem_nil, List.forall_mem_cons.mpr ⟨ca_X5_isAim_338 l, List.forall_mem_cons.mpr ⟨ca_X5_isAim_1226 l, List.forall_mem_cons.mpr ⟨ca_X5_isAim_492 l, fun _ h => absurd h List.not_mem_nil⟩⟩⟩, fun _ h => absurd h List.not_mem_nil, fun _ h => absurd h List.not_mem_nil, fun _ h => absurd h List.not_mem_nil, fun _ h => absurd h List.not_mem_nil, fun _ h => absurd h List.not_mem_nil, by decide, rfl, rfl⟩ rfl (by decide)
/-! MarbleLaw.isWork(I)Z -/
noncomputable def kt_X5_isWork : Nat → Option nk_I := fun pc => bif Nat.ble pc 5 then ((fun pc => bif Nat.ble pc 1 then (bif Nat.ble pc 0 then (bif Nat.beq pc 0 then some (.iload_n 0, 1, 1, [], 0) else none)
  else (bif Nat.beq pc 1 then some (.ifCond .lt 13, 3, 4, [14], 0) else none))
  else (bif Nat.ble pc 4 then (bif Nat.beq pc 4 then some (.iload_n 0, 1, 5, [], 0) else none)
  else (bif Nat.beq pc 5 then some (.bipush 99, 2, 7, [], 99) else none))) : nk_F) pc
  else ((fun pc => bif Nat.ble pc 10 then (bif Nat.ble pc 7 then (bif Nat.beq pc 7 then some (.if_icmp .gt 7, 3, 10, [14], 0) else none)
  else (bif Nat.beq pc 10 then some (.iconst 1, 1, 11, [], 1) else none))
  else ((fun pc => bif Nat.ble pc 11 then (bif Nat.beq pc 11 then some (.goto 4, 3, 14, [15], 0) else none)
  else (bif Nat.ble pc 14 then (bif Nat.beq pc 14 then some (.iconst 0, 1, 15, [], 0) else none)
  else (bif Nat.beq pc 15 then some (.ireturn, 1, 16, [], 0) else none))) : nk_F) pc) : nk_F) pc
noncomputable def kc_X5_isWork : Nat → Option nk_I := nk_top 16 kt_X5_isWork
noncomputable def kx_X5_isWork : nk_T := ([], [], [], [], [], [], [], 2, false, 0, 0)
noncomputable def ev_X5_isWork : nk_Ev := fun as h Q => nk_if (Nat.ble (nk_wd as) 1) (nk_ev kx_X5_isWork kc_X5_isWork 1 as h Q)
set_option maxRecDepth 100000 in
theorem ck_X5_isWork : nk_chk cX5_isWork kc_X5_isWork 16 = true := nd_chk (by decide +kernel) (by decide +kernel)
set_option maxRecDepth 100000 in
set_option maxHeartbeats 4000000 in
theorem mt_X5_isWork (l : Launch) : nk_Met l yX5_isWork cX5_isWork 1 (some .boolean) { frames := 0, cells := 0, slots := 0, locals := 0 } false 0 0 ev_X5_isWork :=
  nk_met nk_gok (plainFor_of_name (by decide)) ck_X5_isWork (nk_top_out 16 kt_X5_isWork) ⟨fun _ h => absurd h List.not_mem_nil, fun _ h => absurd h List.not_mem_nil, fun _ h => absurd h List.not_mem_nil, fun _ h => absurd h List.not_mem_nil, fun _ h => absurd h List.not_mem_nil, fun _ h => absurd h List.not_mem_nil, fun _ h => absurd h List.not_mem_nil, by decide, rfl, rfl⟩ rfl (by decide)
