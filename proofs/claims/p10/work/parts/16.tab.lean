/-! MarbleLaw.making(IIIIIIZ)I -/
noncomputable def kt_X5_making : Nat → Option nk_I := fun pc => bif Nat.ble pc 69 then ((fun pc => bif Nat.ble pc 31 then ((fun pc => bif Nat.ble pc 14 then ((fun pc => bif Nat.ble pc 6 then ((fun pc => bif Nat.ble pc 1 then (bif Nat.ble pc 0 then (bif Nat.beq pc 0 then some (.iload_n 1, 1, 1, [], 0) else none)
  else (bif Nat.beq pc 1 then some (.bipush 7, 2, 3, [], 7) else none))
  else (bif Nat.ble pc 3 then (bif Nat.beq pc 3 then some (.invokestatic 84, 3, 6, [], 0) else none)
  else (bif Nat.beq pc 6 then some (.ifCond .eq 53, 3, 9, [59], 0) else none))) : nk_F) pc
  else ((fun pc => bif Nat.ble pc 10 then (bif Nat.ble pc 9 then (bif Nat.beq pc 9 then some (.aload_n 0, 1, 10, [], 0) else none)
  else (bif Nat.beq pc 10 then some (.iload_n 2, 1, 11, [], 0) else none))
  else (bif Nat.ble pc 11 then (bif Nat.beq pc 11 then some (.invokevirtual 123, 3, 14, [], 0) else none)
  else (bif Nat.beq pc 14 then some (.ifCond .eq 45, 3, 17, [59], 0) else none))) : nk_F) pc) : nk_F) pc
  else ((fun pc => bif Nat.ble pc 20 then ((fun pc => bif Nat.ble pc 18 then (bif Nat.ble pc 17 then (bif Nat.beq pc 17 then some (.aload_n 0, 1, 18, [], 0) else none)
  else (bif Nat.beq pc 18 then some (.iload_n 1, 1, 19, [], 0) else none))
  else (bif Nat.ble pc 19 then (bif Nat.beq pc 19 then some (.iload_n 2, 1, 20, [], 0) else none)
  else (bif Nat.beq pc 20 then some (.iload_n 3, 1, 21, [], 0) else none))) : nk_F) pc
  else ((fun pc => bif Nat.ble pc 24 then (bif Nat.ble pc 21 then (bif Nat.beq pc 21 then some (.invokevirtual 135, 3, 24, [], 0) else none)
  else (bif Nat.beq pc 24 then some (.ifCond .eq 35, 3, 27, [59], 0) else none))
  else ((fun pc => bif Nat.ble pc 27 then (bif Nat.beq pc 27 then some (.iload 4, 2, 29, [], 0) else none)
  else (bif Nat.ble pc 29 then (bif Nat.beq pc 29 then some (.bipush 6, 2, 31, [], 6) else none)
  else (bif Nat.beq pc 31 then some (.invokestatic 84, 3, 34, [], 0) else none))) : nk_F) pc) : nk_F) pc) : nk_F) pc) : nk_F) pc
  else ((fun pc => bif Nat.ble pc 52 then ((fun pc => bif Nat.ble pc 42 then ((fun pc => bif Nat.ble pc 37 then (bif Nat.ble pc 34 then (bif Nat.beq pc 34 then some (.ifCond .eq 25, 3, 37, [59], 0) else none)
  else (bif Nat.beq pc 37 then some (.iload 5, 2, 39, [], 0) else none))
  else (bif Nat.ble pc 39 then (bif Nat.beq pc 39 then some (.invokestatic 139, 3, 42, [], 0) else none)
  else (bif Nat.beq pc 42 then some (.ifCond .eq 17, 3, 45, [59], 0) else none))) : nk_F) pc
  else ((fun pc => bif Nat.ble pc 47 then (bif Nat.ble pc 45 then (bif Nat.beq pc 45 then some (.iload 6, 2, 47, [], 0) else none)
  else (bif Nat.beq pc 47 then some (.bipush 6, 2, 49, [], 6) else none))
  else (bif Nat.ble pc 49 then (bif Nat.beq pc 49 then some (.invokestatic 84, 3, 52, [], 0) else none)
  else (bif Nat.beq pc 52 then some (.ifCond .eq 7, 3, 55, [59], 0) else none))) : nk_F) pc) : nk_F) pc
  else ((fun pc => bif Nat.ble pc 60 then ((fun pc => bif Nat.ble pc 56 then (bif Nat.ble pc 55 then (bif Nat.beq pc 55 then some (.iconst 1, 1, 56, [], 1) else none)
  else (bif Nat.beq pc 56 then some (.goto 4, 3, 59, [60], 0) else none))
  else (bif Nat.ble pc 59 then (bif Nat.beq pc 59 then some (.iconst 0, 1, 60, [], 0) else none)
  else (bif Nat.beq pc 60 then some (.istore 8, 2, 62, [], 0) else none))) : nk_F) pc
  else ((fun pc => bif Nat.ble pc 64 then (bif Nat.ble pc 62 then (bif Nat.beq pc 62 then some (.iload 8, 2, 64, [], 0) else none)
  else (bif Nat.beq pc 64 then some (.ifCond .ne 5, 3, 67, [69], 0) else none))
  else ((fun pc => bif Nat.ble pc 67 then (bif Nat.beq pc 67 then some (.iconst (-1), 1, 68, [], (-1)) else none)
  else (bif Nat.ble pc 68 then (bif Nat.beq pc 68 then some (.ireturn, 1, 69, [], 0) else none)
  else (bif Nat.beq pc 69 then some (.aload_n 0, 1, 70, [], 0) else none))) : nk_F) pc) : nk_F) pc) : nk_F) pc) : nk_F) pc) : nk_F) pc
  else ((fun pc => bif Nat.ble pc 102 then ((fun pc => bif Nat.ble pc 85 then ((fun pc => bif Nat.ble pc 78 then ((fun pc => bif Nat.ble pc 73 then (bif Nat.ble pc 70 then (bif Nat.beq pc 70 then some (.getfield 21, 3, 73, [], 0) else none)
  else (bif Nat.beq pc 73 then some (.getfield 142, 3, 76, [], 0) else none))
  else (bif Nat.ble pc 76 then (bif Nat.beq pc 76 then some (.bipush 12, 2, 78, [], 12) else none)
  else (bif Nat.beq pc 78 then some (.if_icmp .lt 6, 3, 81, [84], 0) else none))) : nk_F) pc
  else ((fun pc => bif Nat.ble pc 83 then (bif Nat.ble pc 81 then (bif Nat.beq pc 81 then some (.bipush (-2), 2, 83, [], (-2)) else none)
  else (bif Nat.beq pc 83 then some (.ireturn, 1, 84, [], 0) else none))
  else (bif Nat.ble pc 84 then (bif Nat.beq pc 84 then some (.iload_n 1, 1, 85, [], 0) else none)
  else (bif Nat.beq pc 85 then some (.iconst 3, 1, 86, [], 3) else none))) : nk_F) pc) : nk_F) pc
  else ((fun pc => bif Nat.ble pc 93 then ((fun pc => bif Nat.ble pc 89 then (bif Nat.ble pc 86 then (bif Nat.beq pc 86 then some (.if_icmp .ne 30, 3, 89, [116], 0) else none)
  else (bif Nat.beq pc 89 then some (.aload_n 0, 1, 90, [], 0) else none))
  else (bif Nat.ble pc 90 then (bif Nat.beq pc 90 then some (.getfield 21, 3, 93, [], 0) else none)
  else (bif Nat.beq pc 93 then some (.iload_n 2, 1, 94, [], 0) else none))) : nk_F) pc
  else ((fun pc => bif Nat.ble pc 95 then (bif Nat.ble pc 94 then (bif Nat.beq pc 94 then some (.iconst 0, 1, 95, [], 0) else none)
  else (bif Nat.beq pc 95 then some (.invokevirtual 127, 3, 98, [], 0) else none))
  else ((fun pc => bif Nat.ble pc 98 then (bif Nat.beq pc 98 then some (.aload_n 0, 1, 99, [], 0) else none)
  else (bif Nat.ble pc 99 then (bif Nat.beq pc 99 then some (.getfield 21, 3, 102, [], 0) else none)
  else (bif Nat.beq pc 102 then some (.iload_n 3, 1, 103, [], 0) else none))) : nk_F) pc) : nk_F) pc) : nk_F) pc) : nk_F) pc
  else ((fun pc => bif Nat.ble pc 117 then ((fun pc => bif Nat.ble pc 110 then ((fun pc => bif Nat.ble pc 104 then (bif Nat.ble pc 103 then (bif Nat.beq pc 103 then some (.iconst 0, 1, 104, [], 0) else none)
  else (bif Nat.beq pc 104 then some (.invokevirtual 127, 3, 107, [], 0) else none))
  else (bif Nat.ble pc 107 then (bif Nat.beq pc 107 then some (.if_icmp .eq 9, 3, 110, [116], 0) else none)
  else (bif Nat.beq pc 110 then some (.aload_n 0, 1, 111, [], 0) else none))) : nk_F) pc
  else ((fun pc => bif Nat.ble pc 112 then (bif Nat.ble pc 111 then (bif Nat.beq pc 111 then some (.iconst 3, 1, 112, [], 3) else none)
  else (bif Nat.beq pc 112 then some (.invokevirtual 92, 3, 115, [], 0) else none))
  else ((fun pc => bif Nat.ble pc 115 then (bif Nat.beq pc 115 then some (.ireturn, 1, 116, [], 0) else none)
  else (bif Nat.ble pc 116 then (bif Nat.beq pc 116 then some (.aload_n 0, 1, 117, [], 0) else none)
  else (bif Nat.beq pc 117 then some (.getfield 21, 3, 120, [], 0) else none))) : nk_F) pc) : nk_F) pc) : nk_F) pc
  else ((fun pc => bif Nat.ble pc 123 then ((fun pc => bif Nat.ble pc 121 then (bif Nat.ble pc 120 then (bif Nat.beq pc 120 then some (.iload_n 1, 1, 121, [], 0) else none)
  else (bif Nat.beq pc 121 then some (.iload_n 2, 1, 122, [], 0) else none))
  else (bif Nat.ble pc 122 then (bif Nat.beq pc 122 then some (.iload_n 3, 1, 123, [], 0) else none)
  else (bif Nat.beq pc 123 then some (.iload 4, 2, 125, [], 0) else none))) : nk_F) pc
  else ((fun pc => bif Nat.ble pc 127 then (bif Nat.ble pc 125 then (bif Nat.beq pc 125 then some (.iload 5, 2, 127, [], 0) else none)
  else (bif Nat.beq pc 127 then some (.iload 6, 2, 129, [], 0) else none))
  else ((fun pc => bif Nat.ble pc 129 then (bif Nat.beq pc 129 then some (.iload 7, 2, 131, [], 0) else none)
  else (bif Nat.ble pc 131 then (bif Nat.beq pc 131 then some (.invokevirtual 145, 3, 134, [], 0) else none)
  else (bif Nat.beq pc 134 then some (.ireturn, 1, 135, [], 0) else none))) : nk_F) pc) : nk_F) pc) : nk_F) pc) : nk_F) pc) : nk_F) pc
noncomputable def kc_X5_making : Nat → Option nk_I := nk_top 135 kt_X5_making
noncomputable def kx_X5_making : nk_T := ([(21, 5, 2, 4), (142, 4, 3, 0)], [(338, 2, 0, 0, 0, ev_X5_within), (492, 2, 6, 0, 0, ev_X5_isStuff), (540, 4, 6, 0, 0, ev_X5_isAim), (558, 1, 0, 0, 0, ev_X5_isWork), (508, 3, 5, 0, 0, ev_X4_ofStuff), (368, 2, 6, 0, 0, ev_X5_found), (580, 8, 5, 0, 0, ev_X4_addMaking)], [], [], [], [], [], 1, false, 0, 0)
noncomputable def ev_X5_making : nk_Ev := fun as h Q => nk_if (Nat.ble (nk_wd as) 9) (nk_ev kx_X5_making kc_X5_making 9 as h Q)
set_option maxRecDepth 100000 in
theorem ck_X5_making : nk_chk cX5_making kc_X5_making 135 = true := nd_chk (by decide +kernel) (by decide +kernel)
set_option maxRecDepth 100000 in
set_option maxHeartbeats 4000000 in
theorem ca_X5_making_338 (l : Launch) : nk_CallOk l { frames := 3, cells := 0, slots := 0, locals := 65 } RX5 cX5_making 9 false 338 (2, 0, 0, 0, ev_X5_within) := nk_callS (x := 84) (n := 2) (mt_X5_within l) (nk_msc [(1, 199), (1, 200), (1, 201), (1, 1)] (by decide +kernel)) rfl rfl (by decide +kernel) ⟨by decide, by decide⟩
set_option maxRecDepth 100000 in
set_option maxHeartbeats 4000000 in
theorem ca_X5_making_492 (l : Launch) : nk_CallOk l { frames := 3, cells := 0, slots := 0, locals := 65 } RX5 cX5_making 9 false 492 (2, 6, 0, 0, ev_X5_isStuff) := nk_callV (x := 123) (n := 1) (ci := 5) (r := (RX5, TX5, 13)) (mt_X5_isStuff l) rfl (nk_msc [(2, 36), (2, 37), (2, 38), (2, 39), (0, 3), (1, 1)] (by decide +kernel)) rfl rfl (by decide +kernel) ⟨by decide, by decide⟩
set_option maxRecDepth 100000 in
set_option maxHeartbeats 4000000 in
theorem ca_X5_making_540 (l : Launch) : nk_CallOk l { frames := 3, cells := 0, slots := 0, locals := 65 } RX5 cX5_making 9 false 540 (4, 6, 0, 0, ev_X5_isAim) := nk_callV (x := 135) (n := 3) (ci := 5) (r := (RX5, TX5, 13)) (mt_X5_isAim l) rfl (nk_msc [(2, 52), (2, 53), (2, 54), (2, 55), (0, 4), (1, 1)] (by decide +kernel)) rfl rfl (by decide +kernel) ⟨by decide, by decide⟩
set_option maxRecDepth 100000 in
set_option maxHeartbeats 4000000 in
theorem ca_X5_making_558 (l : Launch) : nk_CallOk l { frames := 3, cells := 0, slots := 0, locals := 65 } RX5 cX5_making 9 false 558 (1, 0, 0, 0, ev_X5_isWork) := nk_callS (x := 139) (n := 1) (mt_X5_isWork l) (nk_msc [(2, 59), (2, 60), (2, 61), (1, 1)] (by decide +kernel)) rfl rfl (by decide +kernel) ⟨by decide, by decide⟩
set_option maxRecDepth 100000 in
set_option maxHeartbeats 4000000 in
theorem ca_X5_making_508 (l : Launch) : nk_CallOk l { frames := 3, cells := 0, slots := 0, locals := 65 } RX5 cX5_making 9 false 508 (3, 5, 0, 0, ev_X4_ofStuff) := nk_callV (x := 127) (n := 2) (ci := 4) (r := (RX4, TX4, 4)) (mt_X4_ofStuff l) rfl (nk_msc [(2, 40), (2, 41), (2, 42), (2, 43), (1, 2)] (by decide +kernel)) rfl rfl (by decide +kernel) ⟨by decide, by decide⟩
set_option maxRecDepth 100000 in
set_option maxHeartbeats 4000000 in
theorem ca_X5_making_368 (l : Launch) : nk_CallOk l { frames := 3, cells := 0, slots := 0, locals := 65 } RX5 cX5_making 9 false 368 (2, 6, 0, 0, ev_X5_found) := nk_callV (x := 92) (n := 1) (ci := 5) (r := (RX5, TX5, 13)) (mt_X5_found l) rfl (nk_msc [(1, 202), (1, 203), (1, 204), (1, 205), (0, 1), (1, 1)] (by decide +kernel)) rfl rfl (by decide +kernel) ⟨by decide, by decide⟩
set_option maxRecDepth 100000 in
set_option maxHeartbeats 4000000 in
theorem ca_X5_making_580 (l : Launch) : nk_CallOk l { frames := 3, cells := 0, slots := 0, locals := 65 } RX5 cX5_making 9 false 580 (8, 5, 0, 0, ev_X4_addMaking) := nk_callV (x := 145) (n := 7) (ci := 4) (r := (RX4, TX4, 4)) (mt_X4_addMaking l) rfl (nk_msc [(2, 62), (2, 63), (2, 64), (2, 65), (1, 2)] (by decide +kernel)) rfl rfl (by decide +kernel) ⟨by decide, by decide⟩
set_option maxRecDepth 100000 in
set_option maxHeartbeats 4000000 in
theorem mt_X5_making (l : Launch) : nk_Met l yX5_making cX5_making 9 (some .int) { frames := 3, cells := 0, slots := 0, locals := 65 } false 0 0 ev_X5_making :=
  nk_met nk_gok (plainFor_of_name (by decide)) ck_X5_making (nk_top_out 135 kt_X5_making) ⟨List.forall_mem_cons.mpr ⟨nk_fkc [(1, 153)] (by decide +kernel), List.forall_mem_cons.mpr ⟨nk_fkc [(1, 33)] (by decide +kernel), fun _ h => absurd h List.not_mem_nil⟩⟩, List.forall_mem_cons.mpr ⟨ca_X5_making_338 l, List.forall_mem_cons.mpr ⟨ca_X5_making_492 l, List.forall_mem_cons.mpr ⟨ca_X5_making_540 l, List.forall_mem_cons.mpr ⟨ca_X5_making_558 l, List.forall_mem_cons.mpr ⟨ca_X5_making_508 l, List.forall_mem_cons.mpr ⟨ca_X5_making_368 l, List.forall_mem_cons.mpr ⟨ca_X5_making_580 l, fun _ h => absurd h List.not_mem_nil⟩⟩⟩⟩⟩⟩⟩, fun _ h => absurd h List.not_mem_nil, fun _ h => absurd h List.not_mem_nil, fun _ h => absurd h List.not_mem_nil, fun _ h => absurd h List.not_mem_nil, fun _ h => absurd h List.not_mem_nil, by decide, rfl, rfl⟩ rfl (by decide)
/-! MarbleLaw.about(II)I -/
noncomputable def kt_X5_about : Nat → Option nk_I := fun pc => bif Nat.ble pc 16 then ((fun pc => bif Nat.ble pc 5 then ((fun pc => bif Nat.ble pc 1 then (bif Nat.ble pc 0 then (bif Nat.beq pc 0 then some (.aload_n 0, 1, 1, [], 0) else none)
  else (bif Nat.beq pc 1 then some (.iload_n 1, 1, 2, [], 0) else none))
  else (bif Nat.ble pc 2 then (bif Nat.beq pc 2 then some (.invokevirtual 123, 3, 5, [], 0) else none)
  else (bif Nat.beq pc 5 then some (.ifCond .eq 11, 3, 8, [16], 0) else none))) : nk_F) pc
  else ((fun pc => bif Nat.ble pc 9 then (bif Nat.ble pc 8 then (bif Nat.beq pc 8 then some (.iload_n 2, 1, 9, [], 0) else none)
  else (bif Nat.beq pc 9 then some (.iconst 5, 1, 10, [], 5) else none))
  else ((fun pc => bif Nat.ble pc 10 then (bif Nat.beq pc 10 then some (.invokestatic 84, 3, 13, [], 0) else none)
  else (bif Nat.ble pc 13 then (bif Nat.beq pc 13 then some (.ifCond .ne 5, 3, 16, [18], 0) else none)
  else (bif Nat.beq pc 16 then some (.iconst (-1), 1, 17, [], (-1)) else none))) : nk_F) pc) : nk_F) pc) : nk_F) pc
  else ((fun pc => bif Nat.ble pc 23 then ((fun pc => bif Nat.ble pc 18 then (bif Nat.ble pc 17 then (bif Nat.beq pc 17 then some (.ireturn, 1, 18, [], 0) else none)
  else (bif Nat.beq pc 18 then some (.aload_n 0, 1, 19, [], 0) else none))
  else ((fun pc => bif Nat.ble pc 19 then (bif Nat.beq pc 19 then some (.aload_n 0, 1, 20, [], 0) else none)
  else (bif Nat.ble pc 20 then (bif Nat.beq pc 20 then some (.getfield 21, 3, 23, [], 0) else none)
  else (bif Nat.beq pc 23 then some (.iload_n 1, 1, 24, [], 0) else none))) : nk_F) pc) : nk_F) pc
  else ((fun pc => bif Nat.ble pc 25 then (bif Nat.ble pc 24 then (bif Nat.beq pc 24 then some (.iload_n 2, 1, 25, [], 0) else none)
  else (bif Nat.beq pc 25 then some (.invokevirtual 127, 3, 28, [], 0) else none))
  else ((fun pc => bif Nat.ble pc 28 then (bif Nat.beq pc 28 then some (.putfield 61, 3, 31, [], 0) else none)
  else (bif Nat.ble pc 31 then (bif Nat.beq pc 31 then some (.iconst 1, 1, 32, [], 1) else none)
  else (bif Nat.beq pc 32 then some (.ireturn, 1, 33, [], 0) else none))) : nk_F) pc) : nk_F) pc) : nk_F) pc
noncomputable def kc_X5_about : Nat → Option nk_I := nk_top 33 kt_X5_about
noncomputable def kx_X5_about : nk_T := ([(21, 5, 2, 4), (61, 5, 10, 0)], [(492, 2, 6, 0, 0, ev_X5_isStuff), (338, 2, 0, 0, 0, ev_X5_within), (508, 3, 5, 0, 0, ev_X4_ofStuff)], [], [], [], [], [], 1, false, 0, 0)
noncomputable def ev_X5_about : nk_Ev := fun as h Q => nk_if (Nat.ble (nk_wd as) 3) (nk_ev kx_X5_about kc_X5_about 3 as h Q)
set_option maxRecDepth 100000 in
theorem ck_X5_about : nk_chk cX5_about kc_X5_about 33 = true := nd_chk (by decide +kernel) (by decide +kernel)
set_option maxRecDepth 100000 in
set_option maxHeartbeats 4000000 in
theorem ca_X5_about_492 (l : Launch) : nk_CallOk l { frames := 2, cells := 0, slots := 0, locals := 42 } RX5 cX5_about 3 false 492 (2, 6, 0, 0, ev_X5_isStuff) := nk_callV (x := 123) (n := 1) (ci := 5) (r := (RX5, TX5, 13)) (mt_X5_isStuff l) rfl (nk_msc [(2, 36), (2, 37), (2, 38), (2, 39), (0, 3), (1, 1)] (by decide +kernel)) rfl rfl (by decide +kernel) ⟨by decide, by decide⟩
set_option maxRecDepth 100000 in
set_option maxHeartbeats 4000000 in
theorem ca_X5_about_338 (l : Launch) : nk_CallOk l { frames := 2, cells := 0, slots := 0, locals := 42 } RX5 cX5_about 3 false 338 (2, 0, 0, 0, ev_X5_within) := nk_callS (x := 84) (n := 2) (mt_X5_within l) (nk_msc [(1, 199), (1, 200), (1, 201), (1, 1)] (by decide +kernel)) rfl rfl (by decide +kernel) ⟨by decide, by decide⟩
set_option maxRecDepth 100000 in
set_option maxHeartbeats 4000000 in
theorem ca_X5_about_508 (l : Launch) : nk_CallOk l { frames := 2, cells := 0, slots := 0, locals := 42 } RX5 cX5_about 3 false 508 (3, 5, 0, 0, ev_X4_ofStuff) := nk_callV (x := 127) (n := 2) (ci := 4) (r := (RX4, TX4, 4)) (mt_X4_ofStuff l) rfl (nk_msc [(2, 40), (2, 41), (2, 42), (2, 43), (1, 2)] (by decide +kernel)) rfl rfl (by decide +kernel) ⟨by decide, by decide⟩
set_option maxRecDepth 100000 in
set_option maxHeartbeats 4000000 in
theorem mt_X5_about (l : Launch) : nk_Met l yX5_about cX5_about 3 (some .int) { frames := 2, cells := 0, slots := 0, locals := 42 } false 0 0 ev_X5_about :=
  nk_met nk_gok (plainFor_of_name (by decide)) ck_X5_about (nk_top_out 33 kt_X5_about) ⟨List.forall_mem_cons.mpr ⟨nk_fkc [(1, 153)] (by decide +kernel), List.forall_mem_cons.mpr ⟨nk_fkc [(1, 161)] (by decide +kernel), fun _ h => absurd h List.not_mem_nil⟩⟩, List.forall_mem_cons.mpr ⟨ca_X5_about_492 l, List.forall_mem_cons.mpr ⟨ca_X5_about_338 l, List.forall_mem_cons.mpr ⟨ca_X5_about_508 l, fun _ h => absurd h List.not_mem_nil⟩⟩⟩, fun _ h => absurd h List.not_mem_nil, fun _ h => absurd h List.not_mem_nil, fun _ h => absurd h List.not_mem_nil, fun _ h => absurd h List.not_mem_nil, fun _ h => absurd h List.not_mem_nil, by decide, rfl, rfl⟩ rfl (by decide)
/-! MarbleLaw.isMaking(I)Z -/
noncomputable def kt_X5_isMaking : Nat → Option nk_I := fun pc => bif Nat.ble pc 2 then ((fun pc => bif Nat.ble pc 0 then (bif Nat.beq pc 0 then some (.iload_n 1, 1, 1, [], 0) else none)
  else (bif Nat.ble pc 1 then (bif Nat.beq pc 1 then some (.aload_n 0, 1, 2, [], 0) else none)
  else (bif Nat.beq pc 2 then some (.getfield 21, 3, 5, [], 0) else none))) : nk_F) pc
  else ((fun pc => bif Nat.ble pc 5 then (bif Nat.beq pc 5 then some (.getfield 142, 3, 8, [], 0) else none)
  else (bif Nat.ble pc 8 then (bif Nat.beq pc 8 then some (.invokestatic 84, 3, 11, [], 0) else none)
  else (bif Nat.beq pc 11 then some (.ireturn, 1, 12, [], 0) else none))) : nk_F) pc
noncomputable def kc_X5_isMaking : Nat → Option nk_I := nk_top 12 kt_X5_isMaking
noncomputable def kx_X5_isMaking : nk_T := ([(21, 5, 2, 4), (142, 4, 3, 0)], [(338, 2, 0, 0, 0, ev_X5_within)], [], [], [], [], [], 2, false, 0, 0)
noncomputable def ev_X5_isMaking : nk_Ev := fun as h Q => nk_if (Nat.ble (nk_wd as) 2) (nk_ev kx_X5_isMaking kc_X5_isMaking 2 as h Q)
set_option maxRecDepth 100000 in
theorem ck_X5_isMaking : nk_chk cX5_isMaking kc_X5_isMaking 12 = true := nd_chk (by decide +kernel) (by decide +kernel)
set_option maxRecDepth 100000 in
set_option maxHeartbeats 4000000 in
theorem ca_X5_isMaking_338 (l : Launch) : nk_CallOk l { frames := 1, cells := 0, slots := 0, locals := 21 } RX5 cX5_isMaking 2 false 338 (2, 0, 0, 0, ev_X5_within) := nk_callS (x := 84) (n := 2) (mt_X5_within l) (nk_msc [(1, 199), (1, 200), (1, 201), (1, 1)] (by decide +kernel)) rfl rfl (by decide +kernel) ⟨by decide, by decide⟩
set_option maxRecDepth 100000 in
set_option maxHeartbeats 4000000 in
theorem mt_X5_isMaking (l : Launch) : nk_Met l yX5_isMaking cX5_isMaking 2 (some .boolean) { frames := 1, cells := 0, slots := 0, locals := 21 } false 0 0 ev_X5_isMaking :=
  nk_met nk_gok (plainFor_of_name (by decide)) ck_X5_isMaking (nk_top_out 12 kt_X5_isMaking) ⟨List.forall_mem_cons.mpr ⟨nk_fkc [(1, 153)] (by decide +kernel), List.forall_mem_cons.mpr ⟨nk_fkc [(1, 33)] (by decide +kernel), fun _ h => absurd h List.not_mem_nil⟩⟩, List.forall_mem_cons.mpr ⟨ca_X5_isMaking_338 l, fun _ h => absurd h List.not_mem_nil⟩, fun _ h => absurd h List.not_mem_nil, fun _ h => absurd h List.not_mem_nil, fun _ h => absurd h List.not_mem_nil, fun _ h => absurd h List.not_mem_nil, fun _ h => absurd h List.not_mem_nil, by decide, rfl, rfl⟩ rfl (by decide)
/-! MarbleLaw.told(II)I -/
noncomputable def kt_X5_told : Nat → Option nk_I := fun pc => bif Nat.ble pc 17 then ((fun pc => bif Nat.ble pc 5 then ((fun pc => bif Nat.ble pc 1 then (bif Nat.ble pc 0 then (bif Nat.beq pc 0 then some (.aload_n 0, 1, 1, [], 0) else none)
  else (bif Nat.beq pc 1 then some (.iload_n 1, 1, 2, [], 0) else none))
  else (bif Nat.ble pc 2 then (bif Nat.beq pc 2 then some (.invokevirtual 149, 3, 5, [], 0) else none)
  else (bif Nat.beq pc 5 then some (.ifCond .eq 12, 3, 8, [17], 0) else none))) : nk_F) pc
  else ((fun pc => bif Nat.ble pc 9 then (bif Nat.ble pc 8 then (bif Nat.beq pc 8 then some (.iload_n 2, 1, 9, [], 0) else none)
  else (bif Nat.beq pc 9 then some (.bipush 7, 2, 11, [], 7) else none))
  else ((fun pc => bif Nat.ble pc 11 then (bif Nat.beq pc 11 then some (.invokestatic 84, 3, 14, [], 0) else none)
  else (bif Nat.ble pc 14 then (bif Nat.beq pc 14 then some (.ifCond .ne 5, 3, 17, [19], 0) else none)
  else (bif Nat.beq pc 17 then some (.iconst (-1), 1, 18, [], (-1)) else none))) : nk_F) pc) : nk_F) pc) : nk_F) pc
  else ((fun pc => bif Nat.ble pc 24 then ((fun pc => bif Nat.ble pc 19 then (bif Nat.ble pc 18 then (bif Nat.beq pc 18 then some (.ireturn, 1, 19, [], 0) else none)
  else (bif Nat.beq pc 19 then some (.aload_n 0, 1, 20, [], 0) else none))
  else ((fun pc => bif Nat.ble pc 20 then (bif Nat.beq pc 20 then some (.aload_n 0, 1, 21, [], 0) else none)
  else (bif Nat.ble pc 21 then (bif Nat.beq pc 21 then some (.getfield 21, 3, 24, [], 0) else none)
  else (bif Nat.beq pc 24 then some (.iload_n 1, 1, 25, [], 0) else none))) : nk_F) pc) : nk_F) pc
  else ((fun pc => bif Nat.ble pc 26 then (bif Nat.ble pc 25 then (bif Nat.beq pc 25 then some (.iload_n 2, 1, 26, [], 0) else none)
  else (bif Nat.beq pc 26 then some (.invokevirtual 152, 3, 29, [], 0) else none))
  else ((fun pc => bif Nat.ble pc 29 then (bif Nat.beq pc 29 then some (.putfield 61, 3, 32, [], 0) else none)
  else (bif Nat.ble pc 32 then (bif Nat.beq pc 32 then some (.iconst 1, 1, 33, [], 1) else none)
  else (bif Nat.beq pc 33 then some (.ireturn, 1, 34, [], 0) else none))) : nk_F) pc) : nk_F) pc) : nk_F) pc
noncomputable def kc_X5_told : Nat → Option nk_I := nk_top 34 kt_X5_told
noncomputable def kx_X5_told : nk_T := ([(21, 5, 2, 4), (61, 5, 10, 0)], [(596, 2, 6, 0, 0, ev_X5_isMaking), (338, 2, 0, 0, 0, ev_X5_within), (608, 3, 5, 0, 0, ev_X4_ofMaking)], [], [], [], [], [], 1, false, 0, 0)
noncomputable def ev_X5_told : nk_Ev := fun as h Q => nk_if (Nat.ble (nk_wd as) 3) (nk_ev kx_X5_told kc_X5_told 3 as h Q)
set_option maxRecDepth 100000 in
theorem ck_X5_told : nk_chk cX5_told kc_X5_told 34 = true := nd_chk (by decide +kernel) (by decide +kernel)
set_option maxRecDepth 100000 in
set_option maxHeartbeats 4000000 in
theorem ca_X5_told_596 (l : Launch) : nk_CallOk l { frames := 2, cells := 0, slots := 0, locals := 42 } RX5 cX5_told 3 false 596 (2, 6, 0, 0, ev_X5_isMaking) := nk_callV (x := 149) (n := 1) (ci := 5) (r := (RX5, TX5, 13)) (mt_X5_isMaking l) rfl (nk_msc [(2, 74), (2, 75), (2, 76), (2, 77), (0, 5), (1, 1)] (by decide +kernel)) rfl rfl (by decide +kernel) ⟨by decide, by decide⟩
set_option maxRecDepth 100000 in
set_option maxHeartbeats 4000000 in
theorem ca_X5_told_338 (l : Launch) : nk_CallOk l { frames := 2, cells := 0, slots := 0, locals := 42 } RX5 cX5_told 3 false 338 (2, 0, 0, 0, ev_X5_within) := nk_callS (x := 84) (n := 2) (mt_X5_within l) (nk_msc [(1, 199), (1, 200), (1, 201), (1, 1)] (by decide +kernel)) rfl rfl (by decide +kernel) ⟨by decide, by decide⟩
set_option maxRecDepth 100000 in
set_option maxHeartbeats 4000000 in
theorem ca_X5_told_608 (l : Launch) : nk_CallOk l { frames := 2, cells := 0, slots := 0, locals := 42 } RX5 cX5_told 3 false 608 (3, 5, 0, 0, ev_X4_ofMaking) := nk_callV (x := 152) (n := 2) (ci := 4) (r := (RX4, TX4, 4)) (mt_X4_ofMaking l) rfl (nk_msc [(2, 78), (2, 79), (2, 80), (2, 81), (1, 2)] (by decide +kernel)) rfl rfl (by decide +kernel) ⟨by decide, by decide⟩
set_option maxRecDepth 100000 in
set_option maxHeartbeats 4000000 in
theorem mt_X5_told (l : Launch) : nk_Met l yX5_told cX5_told 3 (some .int) { frames := 2, cells := 0, slots := 0, locals := 42 } false 0 0 ev_X5_told :=
  nk_met nk_gok (plainFor_of_name (by decide)) ck_X5_told (nk_top_out 34 kt_X5_told) ⟨List.forall_mem_cons.mpr ⟨nk_fkc [(1, 153)] (by decide +kernel), List.forall_mem_cons.mpr ⟨nk_fkc [(1, 161)] (by decide +kernel), fun _ h => absurd h List.not_mem_nil⟩⟩, List.forall_mem_cons.mpr ⟨ca_X5_told_596 l, List.forall_mem_cons.mpr ⟨ca_X5_told_338 l, List.forall_mem_cons.mpr ⟨ca_X5_told_608 l, fun _ h => absurd h List.not_mem_nil⟩⟩⟩, fun _ h => absurd h List.not_mem_nil, fun _ h => absurd h List.not_mem_nil, fun _ h => absurd h List.not_mem_nil, fun _ h => absurd h List.not_mem_nil, fun _ h => absurd h List.not_mem_nil, by decide, rfl, rfl⟩ rfl (by decide)
/-! MarbleLaw.isJoin(I)Z -/
noncomputable def kt_X5_isJoin : Nat → Option nk_I := fun pc => bif Nat.ble pc 7 then ((fun pc => bif Nat.ble pc 2 then ((fun pc => bif Nat.ble pc 0 then (bif Nat.beq pc 0 then some (.iload_n 0, 1, 1, [], 0) else none)
  else (bif Nat.ble pc 1 then (bif Nat.beq pc 1 then some (.iconst 2, 1, 2, [], 2) else none)
  else (bif Nat.beq pc 2 then some (.if_icmp .eq 13, 3, 5, [15], 0) else none))) : nk_F) pc
  else ((fun pc => bif Nat.ble pc 5 then (bif Nat.beq pc 5 then some (.iload_n 0, 1, 6, [], 0) else none)
  else (bif Nat.ble pc 6 then (bif Nat.beq pc 6 then some (.iconst 4, 1, 7, [], 4) else none)
  else (bif Nat.beq pc 7 then some (.if_icmp .eq 8, 3, 10, [15], 0) else none))) : nk_F) pc) : nk_F) pc
  else ((fun pc => bif Nat.ble pc 12 then ((fun pc => bif Nat.ble pc 10 then (bif Nat.beq pc 10 then some (.iload_n 0, 1, 11, [], 0) else none)
  else (bif Nat.ble pc 11 then (bif Nat.beq pc 11 then some (.iconst 5, 1, 12, [], 5) else none)
  else (bif Nat.beq pc 12 then some (.if_icmp .ne 7, 3, 15, [19], 0) else none))) : nk_F) pc
  else ((fun pc => bif Nat.ble pc 16 then (bif Nat.ble pc 15 then (bif Nat.beq pc 15 then some (.iconst 1, 1, 16, [], 1) else none)
  else (bif Nat.beq pc 16 then some (.goto 4, 3, 19, [20], 0) else none))
  else (bif Nat.ble pc 19 then (bif Nat.beq pc 19 then some (.iconst 0, 1, 20, [], 0) else none)
  else (bif Nat.beq pc 20 then some (.ireturn, 1, 21, [], 0) else none))) : nk_F) pc) : nk_F) pc
noncomputable def kc_X5_isJoin : Nat → Option nk_I := nk_top 21 kt_X5_isJoin
noncomputable def kx_X5_isJoin : nk_T := ([], [], [], [], [], [], [], 2, false, 0, 0)
noncomputable def ev_X5_isJoin : nk_Ev := fun as h Q => nk_if (Nat.ble (nk_wd as) 1) (nk_ev kx_X5_isJoin kc_X5_isJoin 1 as h Q)
set_option maxRecDepth 100000 in
theorem ck_X5_isJoin : nk_chk cX5_isJoin kc_X5_isJoin 21 = true := nd_chk (by decide +kernel) (by decide +kernel)
set_option maxRecDepth 100000 in
set_option maxHeartbeats 4000000 in
theorem mt_X5_isJoin (l : Launch) : nk_Met l yX5_isJoin cX5_isJoin 1 (some .boolean) { frames := 0, cells := 0, slots := 0, locals := 0 } false 0 0 ev_X5_isJoin :=
  nk_met nk_gok (plainFor_of_name (by decide)) ck_X5_isJoin (nk_top_out 21 kt_X5_isJoin) ⟨fun _ h => absurd h List.not_mem_nil, fun _ h => absurd h List.not_mem_nil, fun _ h => absurd h List.not_mem_nil, fun _ h => absurd h List.not_mem_nil, fun _ h => absurd h List.not_mem_nil, fun _ h => absurd h List.not_mem_nil, fun _ h => absurd h List.not_mem_nil, by decide, rfl, rfl⟩ rfl (by decide)
/-! MarbleLaw.standBehind(I)V -/
noncomputable def kt_X5_standBehind : Nat → Option nk_I := fun pc => bif Nat.ble pc 8 then ((fun pc => bif Nat.ble pc 1 then (bif Nat.ble pc 0 then (bif Nat.beq pc 0 then some (.aload_n 0, 1, 1, [], 0) else none)
  else (bif Nat.beq pc 1 then some (.getfield 41, 3, 4, [], 0) else none))
  else ((fun pc => bif Nat.ble pc 4 then (bif Nat.beq pc 4 then some (.sipush 11112, 3, 7, [], 11112) else none)
  else (bif Nat.ble pc 7 then (bif Nat.beq pc 7 then some (.iconst 0, 1, 8, [], 0) else none)
  else (bif Nat.beq pc 8 then some (.invokevirtual 231, 3, 11, [], 0) else none))) : nk_F) pc) : nk_F) pc
  else ((fun pc => bif Nat.ble pc 15 then ((fun pc => bif Nat.ble pc 11 then (bif Nat.beq pc 11 then some (.aload_n 0, 1, 12, [], 0) else none)
  else (bif Nat.ble pc 12 then (bif Nat.beq pc 12 then some (.getfield 41, 3, 15, [], 0) else none)
  else (bif Nat.beq pc 15 then some (.iconst 0, 1, 16, [], 0) else none))) : nk_F) pc
  else ((fun pc => bif Nat.ble pc 16 then (bif Nat.beq pc 16 then some (.iload_n 1, 1, 17, [], 0) else none)
  else (bif Nat.ble pc 17 then (bif Nat.beq pc 17 then some (.invokevirtual 237, 3, 20, [], 0) else none)
  else (bif Nat.beq pc 20 then some (.return_, 1, 21, [], 0) else none))) : nk_F) pc) : nk_F) pc
noncomputable def kc_X5_standBehind : Nat → Option nk_I := nk_top 21 kt_X5_standBehind
noncomputable def kx_X5_standBehind : nk_T := ([(41, 5, 5, 4)], [(924, 3, 1, 0, 0, ev_X0_begin), (948, 3, 1, 0, 0, ev_X0_go)], [], [], [], [], [], 0, false, 0, 0)
noncomputable def ev_X5_standBehind : nk_Ev := fun as h Q => nk_if (Nat.ble (nk_wd as) 2) (nk_ev kx_X5_standBehind kc_X5_standBehind 2 as h Q)
set_option maxRecDepth 100000 in
theorem ck_X5_standBehind : nk_chk cX5_standBehind kc_X5_standBehind 21 = true := nd_chk (by decide +kernel) (by decide +kernel)
set_option maxRecDepth 100000 in
set_option maxHeartbeats 4000000 in
theorem ca_X5_standBehind_924 (l : Launch) : nk_CallOk l { frames := 5, cells := 0, slots := 0, locals := 128 } RX5 cX5_standBehind 2 false 924 (3, 1, 0, 0, ev_X0_begin) := nk_callV (x := 231) (n := 2) (ci := 0) (r := (RX0, TX0, 15)) (mt_X0_begin l) rfl (nk_msc [(2, 93), (2, 94), (2, 95), (2, 96), (1, 4)] (by decide +kernel)) rfl rfl (by decide +kernel) ⟨by decide, by decide⟩
set_option maxRecDepth 100000 in
set_option maxHeartbeats 4000000 in
theorem ca_X5_standBehind_948 (l : Launch) : nk_CallOk l { frames := 5, cells := 0, slots := 0, locals := 128 } RX5 cX5_standBehind 2 false 948 (3, 1, 0, 0, ev_X0_go) := nk_callV (x := 237) (n := 2) (ci := 0) (r := (RX0, TX0, 15)) (mt_X0_go l) rfl (nk_msc [(2, 102), (2, 103), (2, 104), (2, 105), (1, 4)] (by decide +kernel)) rfl rfl (by decide +kernel) ⟨by decide, by decide⟩
set_option maxRecDepth 100000 in
set_option maxHeartbeats 4000000 in
theorem mt_X5_standBehind (l : Launch) : nk_Met l yX5_standBehind cX5_standBehind 2 none { frames := 5, cells := 0, slots := 0, locals := 128 } false 0 0 ev_X5_standBehind :=
  nk_met nk_gok (plainFor_of_name (by decide)) ck_X5_standBehind (nk_top_out 21 kt_X5_standBehind) ⟨List.forall_mem_cons.mpr ⟨nk_fkc [(1, 156)] (by decide +kernel), fun _ h => absurd h List.not_mem_nil⟩, List.forall_mem_cons.mpr ⟨ca_X5_standBehind_924 l, List.forall_mem_cons.mpr ⟨ca_X5_standBehind_948 l, fun _ h => absurd h List.not_mem_nil⟩⟩, fun _ h => absurd h List.not_mem_nil, fun _ h => absurd h List.not_mem_nil, fun _ h => absurd h List.not_mem_nil, fun _ h => absurd h List.not_mem_nil, fun _ h => absurd h List.not_mem_nil, by decide, rfl, rfl⟩ rfl (by decide)
/-! MarbleLaw.mark(II)I -/
noncomputable def kt_X5_mark : Nat → Option nk_I := fun pc => bif Nat.ble pc 50 then ((fun pc => bif Nat.ble pc 25 then ((fun pc => bif Nat.ble pc 10 then ((fun pc => bif Nat.ble pc 2 then ((fun pc => bif Nat.ble pc 0 then (bif Nat.beq pc 0 then some (.aload_n 0, 1, 1, [], 0) else none)
  else (bif Nat.ble pc 1 then (bif Nat.beq pc 1 then some (.iload_n 1, 1, 2, [], 0) else none)
  else (bif Nat.beq pc 2 then some (.invokevirtual 149, 3, 5, [], 0) else none))) : nk_F) pc
  else ((fun pc => bif Nat.ble pc 8 then (bif Nat.ble pc 5 then (bif Nat.beq pc 5 then some (.ifCond .eq 14, 3, 8, [19], 0) else none)
  else (bif Nat.beq pc 8 then some (.iload_n 2, 1, 9, [], 0) else none))
  else (bif Nat.ble pc 9 then (bif Nat.beq pc 9 then some (.iconst 1, 1, 10, [], 1) else none)
  else (bif Nat.beq pc 10 then some (.if_icmp .lt 9, 3, 13, [19], 0) else none))) : nk_F) pc) : nk_F) pc
  else ((fun pc => bif Nat.ble pc 19 then ((fun pc => bif Nat.ble pc 14 then (bif Nat.ble pc 13 then (bif Nat.beq pc 13 then some (.iload_n 2, 1, 14, [], 0) else none)
  else (bif Nat.beq pc 14 then some (.bipush 7, 2, 16, [], 7) else none))
  else (bif Nat.ble pc 16 then (bif Nat.beq pc 16 then some (.if_icmp .lt 5, 3, 19, [21], 0) else none)
  else (bif Nat.beq pc 19 then some (.iconst (-1), 1, 20, [], (-1)) else none))) : nk_F) pc
  else ((fun pc => bif Nat.ble pc 21 then (bif Nat.ble pc 20 then (bif Nat.beq pc 20 then some (.ireturn, 1, 21, [], 0) else none)
  else (bif Nat.beq pc 21 then some (.aload_n 0, 1, 22, [], 0) else none))
  else (bif Nat.ble pc 22 then (bif Nat.beq pc 22 then some (.getfield 21, 3, 25, [], 0) else none)
  else (bif Nat.beq pc 25 then some (.iload_n 1, 1, 26, [], 0) else none))) : nk_F) pc) : nk_F) pc) : nk_F) pc
  else ((fun pc => bif Nat.ble pc 36 then ((fun pc => bif Nat.ble pc 30 then ((fun pc => bif Nat.ble pc 26 then (bif Nat.beq pc 26 then some (.iconst 0, 1, 27, [], 0) else none)
  else (bif Nat.ble pc 27 then (bif Nat.beq pc 27 then some (.invokevirtual 152, 3, 30, [], 0) else none)
  else (bif Nat.beq pc 30 then some (.istore_n 3, 1, 31, [], 0) else none))) : nk_F) pc
  else ((fun pc => bif Nat.ble pc 32 then (bif Nat.ble pc 31 then (bif Nat.beq pc 31 then some (.iload_n 3, 1, 32, [], 0) else none)
  else (bif Nat.beq pc 32 then some (.iload_n 2, 1, 33, [], 0) else none))
  else (bif Nat.ble pc 33 then (bif Nat.beq pc 33 then some (.if_icmp .eq 21, 3, 36, [54], 0) else none)
  else (bif Nat.beq pc 36 then some (.iload_n 2, 1, 37, [], 0) else none))) : nk_F) pc) : nk_F) pc
  else ((fun pc => bif Nat.ble pc 42 then ((fun pc => bif Nat.ble pc 38 then (bif Nat.ble pc 37 then (bif Nat.beq pc 37 then some (.iconst 2, 1, 38, [], 2) else none)
  else (bif Nat.beq pc 38 then some (.if_icmp .ne 10, 3, 41, [48], 0) else none))
  else (bif Nat.ble pc 41 then (bif Nat.beq pc 41 then some (.iload_n 3, 1, 42, [], 0) else none)
  else (bif Nat.beq pc 42 then some (.invokestatic 155, 3, 45, [], 0) else none))) : nk_F) pc
  else ((fun pc => bif Nat.ble pc 48 then (bif Nat.ble pc 45 then (bif Nat.beq pc 45 then some (.ifCond .ne 9, 3, 48, [54], 0) else none)
  else (bif Nat.beq pc 48 then some (.aload_n 0, 1, 49, [], 0) else none))
  else (bif Nat.ble pc 49 then (bif Nat.beq pc 49 then some (.iconst 3, 1, 50, [], 3) else none)
  else (bif Nat.beq pc 50 then some (.invokevirtual 92, 3, 53, [], 0) else none))) : nk_F) pc) : nk_F) pc) : nk_F) pc) : nk_F) pc
  else ((fun pc => bif Nat.ble pc 79 then ((fun pc => bif Nat.ble pc 61 then ((fun pc => bif Nat.ble pc 55 then ((fun pc => bif Nat.ble pc 53 then (bif Nat.beq pc 53 then some (.ireturn, 1, 54, [], 0) else none)
  else (bif Nat.ble pc 54 then (bif Nat.beq pc 54 then some (.iload_n 2, 1, 55, [], 0) else none)
  else (bif Nat.beq pc 55 then some (.iconst 2, 1, 56, [], 2) else none))) : nk_F) pc
  else ((fun pc => bif Nat.ble pc 59 then (bif Nat.ble pc 56 then (bif Nat.beq pc 56 then some (.if_icmp .ne 32, 3, 59, [88], 0) else none)
  else (bif Nat.beq pc 59 then some (.aload_n 0, 1, 60, [], 0) else none))
  else (bif Nat.ble pc 60 then (bif Nat.beq pc 60 then some (.iload_n 1, 1, 61, [], 0) else none)
  else (bif Nat.beq pc 61 then some (.invokevirtual 158, 3, 64, [], 0) else none))) : nk_F) pc) : nk_F) pc
  else ((fun pc => bif Nat.ble pc 69 then ((fun pc => bif Nat.ble pc 65 then (bif Nat.ble pc 64 then (bif Nat.beq pc 64 then some (.aload_n 0, 1, 65, [], 0) else none)
  else (bif Nat.beq pc 65 then some (.getfield 41, 3, 68, [], 0) else none))
  else (bif Nat.ble pc 68 then (bif Nat.beq pc 68 then some (.iload_n 1, 1, 69, [], 0) else none)
  else (bif Nat.beq pc 69 then some (.invokevirtual 162, 3, 72, [], 0) else none))) : nk_F) pc
  else ((fun pc => bif Nat.ble pc 73 then (bif Nat.ble pc 72 then (bif Nat.beq pc 72 then some (.aload_n 0, 1, 73, [], 0) else none)
  else (bif Nat.beq pc 73 then some (.getfield 41, 3, 76, [], 0) else none))
  else (bif Nat.ble pc 76 then (bif Nat.beq pc 76 then some (.invokevirtual 165, 3, 79, [], 0) else none)
  else (bif Nat.beq pc 79 then some (.ifCond .eq 7, 3, 82, [86], 0) else none))) : nk_F) pc) : nk_F) pc) : nk_F) pc
  else ((fun pc => bif Nat.ble pc 92 then ((fun pc => bif Nat.ble pc 86 then ((fun pc => bif Nat.ble pc 82 then (bif Nat.beq pc 82 then some (.iconst 1, 1, 83, [], 1) else none)
  else (bif Nat.ble pc 83 then (bif Nat.beq pc 83 then some (.goto 4, 3, 86, [87], 0) else none)
  else (bif Nat.beq pc 86 then some (.iconst 0, 1, 87, [], 0) else none))) : nk_F) pc
  else ((fun pc => bif Nat.ble pc 88 then (bif Nat.ble pc 87 then (bif Nat.beq pc 87 then some (.ireturn, 1, 88, [], 0) else none)
  else (bif Nat.beq pc 88 then some (.aload_n 0, 1, 89, [], 0) else none))
  else (bif Nat.ble pc 89 then (bif Nat.beq pc 89 then some (.getfield 21, 3, 92, [], 0) else none)
  else (bif Nat.beq pc 92 then some (.iload_n 1, 1, 93, [], 0) else none))) : nk_F) pc) : nk_F) pc
  else ((fun pc => bif Nat.ble pc 98 then ((fun pc => bif Nat.ble pc 94 then (bif Nat.ble pc 93 then (bif Nat.beq pc 93 then some (.iload_n 2, 1, 94, [], 0) else none)
  else (bif Nat.beq pc 94 then some (.iconst 4, 1, 95, [], 4) else none))
  else (bif Nat.ble pc 95 then (bif Nat.beq pc 95 then some (.if_icmp .ne 7, 3, 98, [102], 0) else none)
  else (bif Nat.beq pc 98 then some (.iconst 4, 1, 99, [], 4) else none))) : nk_F) pc
  else ((fun pc => bif Nat.ble pc 102 then (bif Nat.ble pc 99 then (bif Nat.beq pc 99 then some (.goto 4, 3, 102, [103], 0) else none)
  else (bif Nat.beq pc 102 then some (.iconst 2, 1, 103, [], 2) else none))
  else (bif Nat.ble pc 103 then (bif Nat.beq pc 103 then some (.invokevirtual 152, 3, 106, [], 0) else none)
  else (bif Nat.beq pc 106 then some (.ireturn, 1, 107, [], 0) else none))) : nk_F) pc) : nk_F) pc) : nk_F) pc) : nk_F) pc
noncomputable def kc_X5_mark : Nat → Option nk_I := nk_top 107 kt_X5_mark
noncomputable def kx_X5_mark : nk_T := ([(21, 5, 2, 4), (41, 5, 5, 4)], [(596, 2, 6, 0, 0, ev_X5_isMaking), (608, 3, 5, 0, 0, ev_X4_ofMaking), (622, 1, 0, 0, 0, ev_X5_isJoin), (368, 2, 6, 0, 0, ev_X5_found), (632, 2, 6, 0, 0, ev_X5_standBehind), (648, 2, 1, 0, 0, ev_X0_meet), (660, 1, 1, 0, 0, ev_X0_someCame)], [], [], [], [], [], 1, false, 0, 0)
noncomputable def ev_X5_mark : nk_Ev := fun as h Q => nk_if (Nat.ble (nk_wd as) 4) (nk_ev kx_X5_mark kc_X5_mark 4 as h Q)
set_option maxRecDepth 100000 in
theorem ck_X5_mark : nk_chk cX5_mark kc_X5_mark 107 = true := nd_chk (by decide +kernel) (by decide +kernel)
set_option maxRecDepth 100000 in
set_option maxHeartbeats 4000000 in
theorem ca_X5_mark_596 (l : Launch) : nk_CallOk l { frames := 6, cells := 0, slots := 0, locals := 149 } RX5 cX5_mark 4 false 596 (2, 6, 0, 0, ev_X5_isMaking) := nk_callV (x := 149) (n := 1) (ci := 5) (r := (RX5, TX5, 13)) (mt_X5_isMaking l) rfl (nk_msc [(2, 74), (2, 75), (2, 76), (2, 77), (0, 5), (1, 1)] (by decide +kernel)) rfl rfl (by decide +kernel) ⟨by decide, by decide⟩
set_option maxRecDepth 100000 in
set_option maxHeartbeats 4000000 in
theorem ca_X5_mark_608 (l : Launch) : nk_CallOk l { frames := 6, cells := 0, slots := 0, locals := 149 } RX5 cX5_mark 4 false 608 (3, 5, 0, 0, ev_X4_ofMaking) := nk_callV (x := 152) (n := 2) (ci := 4) (r := (RX4, TX4, 4)) (mt_X4_ofMaking l) rfl (nk_msc [(2, 78), (2, 79), (2, 80), (2, 81), (1, 2)] (by decide +kernel)) rfl rfl (by decide +kernel) ⟨by decide, by decide⟩
set_option maxRecDepth 100000 in
set_option maxHeartbeats 4000000 in
theorem ca_X5_mark_622 (l : Launch) : nk_CallOk l { frames := 6, cells := 0, slots := 0, locals := 149 } RX5 cX5_mark 4 false 622 (1, 0, 0, 0, ev_X5_isJoin) := nk_callS (x := 155) (n := 1) (mt_X5_isJoin l) (nk_msc [(2, 86), (2, 87), (2, 88), (1, 1)] (by decide +kernel)) rfl rfl (by decide +kernel) ⟨by decide, by decide⟩
set_option maxRecDepth 100000 in
set_option maxHeartbeats 4000000 in
theorem ca_X5_mark_368 (l : Launch) : nk_CallOk l { frames := 6, cells := 0, slots := 0, locals := 149 } RX5 cX5_mark 4 false 368 (2, 6, 0, 0, ev_X5_found) := nk_callV (x := 92) (n := 1) (ci := 5) (r := (RX5, TX5, 13)) (mt_X5_found l) rfl (nk_msc [(1, 202), (1, 203), (1, 204), (1, 205), (0, 1), (1, 1)] (by decide +kernel)) rfl rfl (by decide +kernel) ⟨by decide, by decide⟩
set_option maxRecDepth 100000 in
set_option maxHeartbeats 4000000 in
theorem ca_X5_mark_632 (l : Launch) : nk_CallOk l { frames := 6, cells := 0, slots := 0, locals := 149 } RX5 cX5_mark 4 false 632 (2, 6, 0, 0, ev_X5_standBehind) := nk_callV (x := 158) (n := 1) (ci := 5) (r := (RX5, TX5, 13)) (mt_X5_standBehind l) rfl (nk_msc [(2, 89), (2, 90), (2, 91), (2, 92), (0, 6), (1, 1)] (by decide +kernel)) rfl rfl (by decide +kernel) ⟨by decide, by decide⟩
set_option maxRecDepth 100000 in
set_option maxHeartbeats 4000000 in
theorem ca_X5_mark_648 (l : Launch) : nk_CallOk l { frames := 6, cells := 0, slots := 0, locals := 149 } RX5 cX5_mark 4 false 648 (2, 1, 0, 0, ev_X0_meet) := nk_callV (x := 162) (n := 1) (ci := 0) (r := (RX0, TX0, 15)) (mt_X0_meet l) rfl (nk_msc [(2, 164), (2, 111), (2, 112), (2, 113), (1, 4)] (by decide +kernel)) rfl rfl (by decide +kernel) ⟨by decide, by decide⟩
set_option maxRecDepth 100000 in
set_option maxHeartbeats 4000000 in
theorem ca_X5_mark_660 (l : Launch) : nk_CallOk l { frames := 6, cells := 0, slots := 0, locals := 149 } RX5 cX5_mark 4 false 660 (1, 1, 0, 0, ev_X0_someCame) := nk_callV (x := 165) (n := 0) (ci := 0) (r := (RX0, TX0, 15)) (mt_X0_someCame l) rfl (nk_msc [(2, 165), (2, 137), (2, 138), (2, 139), (1, 4)] (by decide +kernel)) rfl rfl (by decide +kernel) ⟨by decide, by decide⟩
set_option maxRecDepth 100000 in
set_option maxHeartbeats 4000000 in
theorem mt_X5_mark (l : Launch) : nk_Met l yX5_mark cX5_mark 4 (some .int) { frames := 6, cells := 0, slots := 0, locals := 149 } false 0 0 ev_X5_mark :=
  nk_met nk_gok (plainFor_of_name (by decide)) ck_X5_mark (nk_top_out 107 kt_X5_mark) ⟨List.forall_mem_cons.mpr ⟨nk_fkc [(1, 153)] (by decide +kernel), List.forall_mem_cons.mpr ⟨nk_fkc [(1, 156)] (by decide +kernel), fun _ h => absurd h List.not_mem_nil⟩⟩, List.forall_mem_cons.mpr ⟨ca_X5_mark_596 l, List.forall_mem_cons.mpr ⟨ca_X5_mark_608 l, List.forall_mem_cons.mpr ⟨ca_X5_mark_622 l, List.forall_mem_cons.mpr ⟨ca_X5_mark_368 l, List.forall_mem_cons.mpr ⟨ca_X5_mark_632 l, List.forall_mem_cons.mpr ⟨ca_X5_mark_648 l, List.forall_mem_cons.mpr ⟨ca_X5_mark_660 l, fun _ h => absurd h List.not_mem_nil⟩⟩⟩⟩⟩⟩⟩, fun _ h => absurd h List.not_mem_nil, fun _ h => absurd h List.not_mem_nil, fun _ h => absurd h List.not_mem_nil, fun _ h => absurd h List.not_mem_nil, fun _ h => absurd h List.not_mem_nil, by decide, rfl, rfl⟩ rfl (by decide)
/-! MarbleLaw.fault(I)I -/
noncomputable def kt_X5_fault : Nat → Option nk_I := fun pc => bif Nat.ble pc 19 then ((fun pc => bif Nat.ble pc 9 then ((fun pc => bif Nat.ble pc 2 then ((fun pc => bif Nat.ble pc 0 then (bif Nat.beq pc 0 then some (.iload_n 1, 1, 1, [], 0) else none)
  else (bif Nat.ble pc 1 then (bif Nat.beq pc 1 then some (.iconst 4, 1, 2, [], 4) else none)
  else (bif Nat.beq pc 2 then some (.invokestatic 84, 3, 5, [], 0) else none))) : nk_F) pc
  else ((fun pc => bif Nat.ble pc 5 then (bif Nat.beq pc 5 then some (.ifCond .ne 5, 3, 8, [10], 0) else none)
  else (bif Nat.ble pc 8 then (bif Nat.beq pc 8 then some (.iconst (-1), 1, 9, [], (-1)) else none)
  else (bif Nat.beq pc 9 then some (.ireturn, 1, 10, [], 0) else none))) : nk_F) pc) : nk_F) pc
  else ((fun pc => bif Nat.ble pc 14 then ((fun pc => bif Nat.ble pc 10 then (bif Nat.beq pc 10 then some (.aload_n 0, 1, 11, [], 0) else none)
  else (bif Nat.ble pc 11 then (bif Nat.beq pc 11 then some (.getfield 15, 3, 14, [], 0) else none)
  else (bif Nat.beq pc 14 then some (.iload_n 1, 1, 15, [], 0) else none))) : nk_F) pc
  else ((fun pc => bif Nat.ble pc 15 then (bif Nat.beq pc 15 then some (.aaload, 1, 16, [], 0) else none)
  else (bif Nat.ble pc 16 then (bif Nat.beq pc 16 then some (.invokevirtual 88, 3, 19, [], 0) else none)
  else (bif Nat.beq pc 19 then some (.ifCond .eq 9, 3, 22, [28], 0) else none))) : nk_F) pc) : nk_F) pc) : nk_F) pc
  else ((fun pc => bif Nat.ble pc 29 then ((fun pc => bif Nat.ble pc 24 then ((fun pc => bif Nat.ble pc 22 then (bif Nat.beq pc 22 then some (.aload_n 0, 1, 23, [], 0) else none)
  else (bif Nat.ble pc 23 then (bif Nat.beq pc 23 then some (.iconst 1, 1, 24, [], 1) else none)
  else (bif Nat.beq pc 24 then some (.invokevirtual 92, 3, 27, [], 0) else none))) : nk_F) pc
  else ((fun pc => bif Nat.ble pc 27 then (bif Nat.beq pc 27 then some (.ireturn, 1, 28, [], 0) else none)
  else (bif Nat.ble pc 28 then (bif Nat.beq pc 28 then some (.aload_n 0, 1, 29, [], 0) else none)
  else (bif Nat.beq pc 29 then some (.getfield 28, 3, 32, [], 0) else none))) : nk_F) pc) : nk_F) pc
  else ((fun pc => bif Nat.ble pc 36 then ((fun pc => bif Nat.ble pc 32 then (bif Nat.beq pc 32 then some (.aload_n 0, 1, 33, [], 0) else none)
  else (bif Nat.ble pc 33 then (bif Nat.beq pc 33 then some (.getfield 15, 3, 36, [], 0) else none)
  else (bif Nat.beq pc 36 then some (.iload_n 1, 1, 37, [], 0) else none))) : nk_F) pc
  else ((fun pc => bif Nat.ble pc 37 then (bif Nat.beq pc 37 then some (.aaload, 1, 38, [], 0) else none)
  else (bif Nat.ble pc 38 then (bif Nat.beq pc 38 then some (.invokevirtual 168, 3, 41, [], 0) else none)
  else (bif Nat.beq pc 41 then some (.ireturn, 1, 42, [], 0) else none))) : nk_F) pc) : nk_F) pc) : nk_F) pc
noncomputable def kc_X5_fault : Nat → Option nk_I := nk_top 42 kt_X5_fault
noncomputable def kx_X5_fault : nk_T := ([(15, 5, 1, 4), (28, 5, 3, 4)], [(338, 2, 0, 0, 0, ev_X5_within), (352, 1, 4, 0, 0, ev_X3_isMissing), (368, 2, 6, 0, 0, ev_X5_found), (672, 2, 3, 0, 0, ev_X2_read)], [], [], [], [], [], 1, false, 0, 0)
noncomputable def ev_X5_fault : nk_Ev := fun as h Q => nk_if (Nat.ble (nk_wd as) 2) (nk_ev kx_X5_fault kc_X5_fault 2 as h Q)
set_option maxRecDepth 100000 in
theorem ck_X5_fault : nk_chk cX5_fault kc_X5_fault 42 = true := nd_chk (by decide +kernel) (by decide +kernel)
set_option maxRecDepth 100000 in
set_option maxHeartbeats 4000000 in
theorem ca_X5_fault_338 (l : Launch) : nk_CallOk l { frames := 2, cells := 0, slots := 0, locals := 45 } RX5 cX5_fault 2 false 338 (2, 0, 0, 0, ev_X5_within) := nk_callS (x := 84) (n := 2) (mt_X5_within l) (nk_msc [(1, 199), (1, 200), (1, 201), (1, 1)] (by decide +kernel)) rfl rfl (by decide +kernel) ⟨by decide, by decide⟩
set_option maxRecDepth 100000 in
set_option maxHeartbeats 4000000 in
theorem ca_X5_fault_352 (l : Launch) : nk_CallOk l { frames := 2, cells := 0, slots := 0, locals := 45 } RX5 cX5_fault 2 false 352 (1, 4, 0, 0, ev_X3_isMissing) := nk_callV (x := 88) (n := 0) (ci := 3) (r := (RX3, TX3, 2)) (mt_X3_isMissing l) rfl (nk_msc [(1, 218), (1, 219), (1, 220), (1, 221), (1, 5)] (by decide +kernel)) rfl rfl (by decide +kernel) ⟨by decide, by decide⟩
set_option maxRecDepth 100000 in
set_option maxHeartbeats 4000000 in
theorem ca_X5_fault_368 (l : Launch) : nk_CallOk l { frames := 2, cells := 0, slots := 0, locals := 45 } RX5 cX5_fault 2 false 368 (2, 6, 0, 0, ev_X5_found) := nk_callV (x := 92) (n := 1) (ci := 5) (r := (RX5, TX5, 13)) (mt_X5_found l) rfl (nk_msc [(1, 202), (1, 203), (1, 204), (1, 205), (0, 1), (1, 1)] (by decide +kernel)) rfl rfl (by decide +kernel) ⟨by decide, by decide⟩
set_option maxRecDepth 100000 in
set_option maxHeartbeats 4000000 in
theorem ca_X5_fault_672 (l : Launch) : nk_CallOk l { frames := 2, cells := 0, slots := 0, locals := 45 } RX5 cX5_fault 2 false 672 (2, 3, 0, 0, ev_X2_read) := nk_callV (x := 168) (n := 1) (ci := 2) (r := (RX2, TX2, 1)) (mt_X2_read l) rfl (nk_msc [(2, 170), (2, 171), (2, 172), (2, 173), (1, 3)] (by decide +kernel)) rfl rfl (by decide +kernel) ⟨by decide, by decide⟩
set_option maxRecDepth 100000 in
set_option maxHeartbeats 4000000 in
theorem mt_X5_fault (l : Launch) : nk_Met l yX5_fault cX5_fault 2 (some .int) { frames := 2, cells := 0, slots := 0, locals := 45 } false 0 0 ev_X5_fault :=
  nk_met nk_gok (plainFor_of_name (by decide)) ck_X5_fault (nk_top_out 42 kt_X5_fault) ⟨List.forall_mem_cons.mpr ⟨nk_fkc [(1, 152)] (by decide +kernel), List.forall_mem_cons.mpr ⟨nk_fkc [(1, 154)] (by decide +kernel), fun _ h => absurd h List.not_mem_nil⟩⟩, List.forall_mem_cons.mpr ⟨ca_X5_fault_338 l, List.forall_mem_cons.mpr ⟨ca_X5_fault_352 l, List.forall_mem_cons.mpr ⟨ca_X5_fault_368 l, List.forall_mem_cons.mpr ⟨ca_X5_fault_672 l, fun _ h => absurd h List.not_mem_nil⟩⟩⟩⟩, fun _ h => absurd h List.not_mem_nil, fun _ h => absurd h List.not_mem_nil, fun _ h => absurd h List.not_mem_nil, fun _ h => absurd h List.not_mem_nil, fun _ h => absurd h List.not_mem_nil, by decide, rfl, rfl⟩ rfl (by decide)
/-! MarbleLaw.laws(II)I -/
noncomputable def kt_X5_laws : Nat → Option nk_I := fun pc => bif Nat.ble pc 36 then ((fun pc => bif Nat.ble pc 17 then ((fun pc => bif Nat.ble pc 8 then ((fun pc => bif Nat.ble pc 1 then (bif Nat.ble pc 0 then (bif Nat.beq pc 0 then some (.iload_n 1, 1, 1, [], 0) else none)
  else (bif Nat.beq pc 1 then some (.iconst 4, 1, 2, [], 4) else none))
  else ((fun pc => bif Nat.ble pc 2 then (bif Nat.beq pc 2 then some (.invokestatic 84, 3, 5, [], 0) else none)
  else (bif Nat.ble pc 5 then (bif Nat.beq pc 5 then some (.ifCond .eq 11, 3, 8, [16], 0) else none)
  else (bif Nat.beq pc 8 then some (.iload_n 2, 1, 9, [], 0) else none))) : nk_F) pc) : nk_F) pc
  else ((fun pc => bif Nat.ble pc 10 then (bif Nat.ble pc 9 then (bif Nat.beq pc 9 then some (.iconst 4, 1, 10, [], 4) else none)
  else (bif Nat.beq pc 10 then some (.invokestatic 84, 3, 13, [], 0) else none))
  else ((fun pc => bif Nat.ble pc 13 then (bif Nat.beq pc 13 then some (.ifCond .ne 5, 3, 16, [18], 0) else none)
  else (bif Nat.ble pc 16 then (bif Nat.beq pc 16 then some (.iconst (-1), 1, 17, [], (-1)) else none)
  else (bif Nat.beq pc 17 then some (.ireturn, 1, 18, [], 0) else none))) : nk_F) pc) : nk_F) pc) : nk_F) pc
  else ((fun pc => bif Nat.ble pc 24 then ((fun pc => bif Nat.ble pc 19 then (bif Nat.ble pc 18 then (bif Nat.beq pc 18 then some (.aload_n 0, 1, 19, [], 0) else none)
  else (bif Nat.beq pc 19 then some (.getfield 15, 3, 22, [], 0) else none))
  else ((fun pc => bif Nat.ble pc 22 then (bif Nat.beq pc 22 then some (.iload_n 2, 1, 23, [], 0) else none)
  else (bif Nat.ble pc 23 then (bif Nat.beq pc 23 then some (.aaload, 1, 24, [], 0) else none)
  else (bif Nat.beq pc 24 then some (.invokevirtual 88, 3, 27, [], 0) else none))) : nk_F) pc) : nk_F) pc
  else ((fun pc => bif Nat.ble pc 31 then ((fun pc => bif Nat.ble pc 27 then (bif Nat.beq pc 27 then some (.ifCond .eq 9, 3, 30, [36], 0) else none)
  else (bif Nat.ble pc 30 then (bif Nat.beq pc 30 then some (.aload_n 0, 1, 31, [], 0) else none)
  else (bif Nat.beq pc 31 then some (.iconst 1, 1, 32, [], 1) else none))) : nk_F) pc
  else ((fun pc => bif Nat.ble pc 32 then (bif Nat.beq pc 32 then some (.invokevirtual 92, 3, 35, [], 0) else none)
  else (bif Nat.ble pc 35 then (bif Nat.beq pc 35 then some (.ireturn, 1, 36, [], 0) else none)
  else (bif Nat.beq pc 36 then some (.aload_n 0, 1, 37, [], 0) else none))) : nk_F) pc) : nk_F) pc) : nk_F) pc) : nk_F) pc
  else ((fun pc => bif Nat.ble pc 57 then ((fun pc => bif Nat.ble pc 45 then ((fun pc => bif Nat.ble pc 40 then (bif Nat.ble pc 37 then (bif Nat.beq pc 37 then some (.getfield 28, 3, 40, [], 0) else none)
  else (bif Nat.beq pc 40 then some (.aload_n 0, 1, 41, [], 0) else none))
  else ((fun pc => bif Nat.ble pc 41 then (bif Nat.beq pc 41 then some (.getfield 15, 3, 44, [], 0) else none)
  else (bif Nat.ble pc 44 then (bif Nat.beq pc 44 then some (.iload_n 2, 1, 45, [], 0) else none)
  else (bif Nat.beq pc 45 then some (.aaload, 1, 46, [], 0) else none))) : nk_F) pc) : nk_F) pc
  else ((fun pc => bif Nat.ble pc 51 then ((fun pc => bif Nat.ble pc 46 then (bif Nat.beq pc 46 then some (.invokevirtual 168, 3, 49, [], 0) else none)
  else (bif Nat.ble pc 49 then (bif Nat.beq pc 49 then some (.bipush (-9), 2, 51, [], (-9)) else none)
  else (bif Nat.beq pc 51 then some (.if_icmp .eq 6, 3, 54, [57], 0) else none))) : nk_F) pc
  else ((fun pc => bif Nat.ble pc 54 then (bif Nat.beq pc 54 then some (.bipush (-4), 2, 56, [], (-4)) else none)
  else (bif Nat.ble pc 56 then (bif Nat.beq pc 56 then some (.ireturn, 1, 57, [], 0) else none)
  else (bif Nat.beq pc 57 then some (.aload_n 0, 1, 58, [], 0) else none))) : nk_F) pc) : nk_F) pc) : nk_F) pc
  else ((fun pc => bif Nat.ble pc 66 then ((fun pc => bif Nat.ble pc 61 then (bif Nat.ble pc 58 then (bif Nat.beq pc 58 then some (.getfield 32, 3, 61, [], 0) else none)
  else (bif Nat.beq pc 61 then some (.iload_n 1, 1, 62, [], 0) else none))
  else ((fun pc => bif Nat.ble pc 62 then (bif Nat.beq pc 62 then some (.aload_n 0, 1, 63, [], 0) else none)
  else (bif Nat.ble pc 63 then (bif Nat.beq pc 63 then some (.getfield 28, 3, 66, [], 0) else none)
  else (bif Nat.beq pc 66 then some (.invokevirtual 172, 3, 69, [], 0) else none))) : nk_F) pc) : nk_F) pc
  else ((fun pc => bif Nat.ble pc 71 then ((fun pc => bif Nat.ble pc 69 then (bif Nat.beq pc 69 then some (.iastore, 1, 70, [], 0) else none)
  else (bif Nat.ble pc 70 then (bif Nat.beq pc 70 then some (.aload_n 0, 1, 71, [], 0) else none)
  else (bif Nat.beq pc 71 then some (.getfield 32, 3, 74, [], 0) else none))) : nk_F) pc
  else ((fun pc => bif Nat.ble pc 74 then (bif Nat.beq pc 74 then some (.iload_n 1, 1, 75, [], 0) else none)
  else (bif Nat.ble pc 75 then (bif Nat.beq pc 75 then some (.iaload, 1, 76, [], 0) else none)
  else (bif Nat.beq pc 76 then some (.ireturn, 1, 77, [], 0) else none))) : nk_F) pc) : nk_F) pc) : nk_F) pc) : nk_F) pc
noncomputable def kc_X5_laws : Nat → Option nk_I := nk_top 77 kt_X5_laws
noncomputable def kx_X5_laws : nk_T := ([(15, 5, 1, 4), (28, 5, 3, 4), (32, 5, 4, 4)], [(338, 2, 0, 0, 0, ev_X5_within), (352, 1, 4, 0, 0, ev_X3_isMissing), (368, 2, 6, 0, 0, ev_X5_found), (672, 2, 3, 0, 0, ev_X2_read), (688, 1, 3, 0, 0, ev_X2_number)], [], [], [], [], [], 1, false, 0, 0)
noncomputable def ev_X5_laws : nk_Ev := fun as h Q => nk_if (Nat.ble (nk_wd as) 3) (nk_ev kx_X5_laws kc_X5_laws 3 as h Q)
set_option maxRecDepth 100000 in
theorem ck_X5_laws : nk_chk cX5_laws kc_X5_laws 77 = true := nd_chk (by decide +kernel) (by decide +kernel)
set_option maxRecDepth 100000 in
set_option maxHeartbeats 4000000 in
theorem ca_X5_laws_338 (l : Launch) : nk_CallOk l { frames := 2, cells := 0, slots := 0, locals := 45 } RX5 cX5_laws 3 false 338 (2, 0, 0, 0, ev_X5_within) := nk_callS (x := 84) (n := 2) (mt_X5_within l) (nk_msc [(1, 199), (1, 200), (1, 201), (1, 1)] (by decide +kernel)) rfl rfl (by decide +kernel) ⟨by decide, by decide⟩
set_option maxRecDepth 100000 in
set_option maxHeartbeats 4000000 in
theorem ca_X5_laws_352 (l : Launch) : nk_CallOk l { frames := 2, cells := 0, slots := 0, locals := 45 } RX5 cX5_laws 3 false 352 (1, 4, 0, 0, ev_X3_isMissing) := nk_callV (x := 88) (n := 0) (ci := 3) (r := (RX3, TX3, 2)) (mt_X3_isMissing l) rfl (nk_msc [(1, 218), (1, 219), (1, 220), (1, 221), (1, 5)] (by decide +kernel)) rfl rfl (by decide +kernel) ⟨by decide, by decide⟩
set_option maxRecDepth 100000 in
set_option maxHeartbeats 4000000 in
theorem ca_X5_laws_368 (l : Launch) : nk_CallOk l { frames := 2, cells := 0, slots := 0, locals := 45 } RX5 cX5_laws 3 false 368 (2, 6, 0, 0, ev_X5_found) := nk_callV (x := 92) (n := 1) (ci := 5) (r := (RX5, TX5, 13)) (mt_X5_found l) rfl (nk_msc [(1, 202), (1, 203), (1, 204), (1, 205), (0, 1), (1, 1)] (by decide +kernel)) rfl rfl (by decide +kernel) ⟨by decide, by decide⟩
set_option maxRecDepth 100000 in
set_option maxHeartbeats 4000000 in
theorem ca_X5_laws_672 (l : Launch) : nk_CallOk l { frames := 2, cells := 0, slots := 0, locals := 45 } RX5 cX5_laws 3 false 672 (2, 3, 0, 0, ev_X2_read) := nk_callV (x := 168) (n := 1) (ci := 2) (r := (RX2, TX2, 1)) (mt_X2_read l) rfl (nk_msc [(2, 170), (2, 171), (2, 172), (2, 173), (1, 3)] (by decide +kernel)) rfl rfl (by decide +kernel) ⟨by decide, by decide⟩
set_option maxRecDepth 100000 in
set_option maxHeartbeats 4000000 in
theorem ca_X5_laws_688 (l : Launch) : nk_CallOk l { frames := 2, cells := 0, slots := 0, locals := 45 } RX5 cX5_laws 3 false 688 (1, 3, 0, 0, ev_X2_number) := nk_callV (x := 172) (n := 0) (ci := 2) (r := (RX2, TX2, 1)) (mt_X2_number l) rfl (nk_msc [(2, 188), (2, 189), (2, 190), (2, 191), (1, 3)] (by decide +kernel)) rfl rfl (by decide +kernel) ⟨by decide, by decide⟩
set_option maxRecDepth 100000 in
set_option maxHeartbeats 4000000 in
theorem mt_X5_laws (l : Launch) : nk_Met l yX5_laws cX5_laws 3 (some .int) { frames := 2, cells := 0, slots := 0, locals := 45 } false 0 0 ev_X5_laws :=
  nk_met nk_gok (plainFor_of_name (by decide)) ck_X5_laws (nk_top_out 77 kt_X5_laws) ⟨List.forall_mem_cons.mpr ⟨nk_fkc [(1, 152)] (by decide +kernel), List.forall_mem_cons.mpr ⟨nk_fkc [(1, 154)] (by decide +kernel), List.forall_mem_cons.mpr ⟨nk_fkc [(1, 155)] (by decide +kernel), fun _ h => absurd h List.not_mem_nil⟩⟩⟩, List.forall_mem_cons.mpr ⟨ca_X5_laws_338 l, List.forall_mem_cons.mpr ⟨ca_X5_laws_352 l, List.forall_mem_cons.mpr ⟨ca_X5_laws_368 l, List.forall_mem_cons.mpr ⟨ca_X5_laws_672 l, List.forall_mem_cons.mpr ⟨ca_X5_laws_688 l, fun _ h => absurd h List.not_mem_nil⟩⟩⟩⟩⟩, fun _ h => absurd h List.not_mem_nil, fun _ h => absurd h List.not_mem_nil, fun _ h => absurd h List.not_mem_nil, fun _ h => absurd h List.not_mem_nil, fun _ h => absurd h List.not_mem_nil, by decide, rfl, rfl⟩ rfl (by decide)
/-! MarbleLaw.law(I)I -/
noncomputable def kt_X5_law : Nat → Option nk_I := fun pc => bif Nat.ble pc 15 then ((fun pc => bif Nat.ble pc 8 then ((fun pc => bif Nat.ble pc 1 then (bif Nat.ble pc 0 then (bif Nat.beq pc 0 then some (.iload_n 1, 1, 1, [], 0) else none)
  else (bif Nat.beq pc 1 then some (.iconst 4, 1, 2, [], 4) else none))
  else ((fun pc => bif Nat.ble pc 2 then (bif Nat.beq pc 2 then some (.invokestatic 84, 3, 5, [], 0) else none)
  else (bif Nat.ble pc 5 then (bif Nat.beq pc 5 then some (.ifCond .ne 5, 3, 8, [10], 0) else none)
  else (bif Nat.beq pc 8 then some (.iconst (-1), 1, 9, [], (-1)) else none))) : nk_F) pc) : nk_F) pc
  else ((fun pc => bif Nat.ble pc 10 then (bif Nat.ble pc 9 then (bif Nat.beq pc 9 then some (.ireturn, 1, 10, [], 0) else none)
  else (bif Nat.beq pc 10 then some (.aload_n 0, 1, 11, [], 0) else none))
  else ((fun pc => bif Nat.ble pc 11 then (bif Nat.beq pc 11 then some (.getfield 32, 3, 14, [], 0) else none)
  else (bif Nat.ble pc 14 then (bif Nat.beq pc 14 then some (.iload_n 1, 1, 15, [], 0) else none)
  else (bif Nat.beq pc 15 then some (.iaload, 1, 16, [], 0) else none))) : nk_F) pc) : nk_F) pc) : nk_F) pc
  else ((fun pc => bif Nat.ble pc 22 then ((fun pc => bif Nat.ble pc 17 then (bif Nat.ble pc 16 then (bif Nat.beq pc 16 then some (.iconst (-1), 1, 17, [], (-1)) else none)
  else (bif Nat.beq pc 17 then some (.if_icmp .ne 9, 3, 20, [26], 0) else none))
  else ((fun pc => bif Nat.ble pc 20 then (bif Nat.beq pc 20 then some (.aload_n 0, 1, 21, [], 0) else none)
  else (bif Nat.ble pc 21 then (bif Nat.beq pc 21 then some (.iconst 1, 1, 22, [], 1) else none)
  else (bif Nat.beq pc 22 then some (.invokevirtual 92, 3, 25, [], 0) else none))) : nk_F) pc) : nk_F) pc
  else ((fun pc => bif Nat.ble pc 27 then ((fun pc => bif Nat.ble pc 25 then (bif Nat.beq pc 25 then some (.ireturn, 1, 26, [], 0) else none)
  else (bif Nat.ble pc 26 then (bif Nat.beq pc 26 then some (.aload_n 0, 1, 27, [], 0) else none)
  else (bif Nat.beq pc 27 then some (.getfield 32, 3, 30, [], 0) else none))) : nk_F) pc
  else ((fun pc => bif Nat.ble pc 30 then (bif Nat.beq pc 30 then some (.iload_n 1, 1, 31, [], 0) else none)
  else (bif Nat.ble pc 31 then (bif Nat.beq pc 31 then some (.iaload, 1, 32, [], 0) else none)
  else (bif Nat.beq pc 32 then some (.ireturn, 1, 33, [], 0) else none))) : nk_F) pc) : nk_F) pc) : nk_F) pc
noncomputable def kc_X5_law : Nat → Option nk_I := nk_top 33 kt_X5_law
noncomputable def kx_X5_law : nk_T := ([(32, 5, 4, 4)], [(338, 2, 0, 0, 0, ev_X5_within), (368, 2, 6, 0, 0, ev_X5_found)], [], [], [], [], [], 1, false, 0, 0)
noncomputable def ev_X5_law : nk_Ev := fun as h Q => nk_if (Nat.ble (nk_wd as) 2) (nk_ev kx_X5_law kc_X5_law 2 as h Q)
set_option maxRecDepth 100000 in
theorem ck_X5_law : nk_chk cX5_law kc_X5_law 33 = true := nd_chk (by decide +kernel) (by decide +kernel)
set_option maxRecDepth 100000 in
set_option maxHeartbeats 4000000 in
theorem ca_X5_law_338 (l : Launch) : nk_CallOk l { frames := 1, cells := 0, slots := 0, locals := 21 } RX5 cX5_law 2 false 338 (2, 0, 0, 0, ev_X5_within) := nk_callS (x := 84) (n := 2) (mt_X5_within l) (nk_msc [(1, 199), (1, 200), (1, 201), (1, 1)] (by decide +kernel)) rfl rfl (by decide +kernel) ⟨by decide, by decide⟩
set_option maxRecDepth 100000 in
set_option maxHeartbeats 4000000 in
theorem ca_X5_law_368 (l : Launch) : nk_CallOk l { frames := 1, cells := 0, slots := 0, locals := 21 } RX5 cX5_law 2 false 368 (2, 6, 0, 0, ev_X5_found) := nk_callV (x := 92) (n := 1) (ci := 5) (r := (RX5, TX5, 13)) (mt_X5_found l) rfl (nk_msc [(1, 202), (1, 203), (1, 204), (1, 205), (0, 1), (1, 1)] (by decide +kernel)) rfl rfl (by decide +kernel) ⟨by decide, by decide⟩
set_option maxRecDepth 100000 in
set_option maxHeartbeats 4000000 in
theorem mt_X5_law (l : Launch) : nk_Met l yX5_law cX5_law 2 (some .int) { frames := 1, cells := 0, slots := 0, locals := 21 } false 0 0 ev_X5_law :=
  nk_met nk_gok (plainFor_of_name (by decide)) ck_X5_law (nk_top_out 33 kt_X5_law) ⟨List.forall_mem_cons.mpr ⟨nk_fkc [(1, 155)] (by decide +kernel), fun _ h => absurd h List.not_mem_nil⟩, List.forall_mem_cons.mpr ⟨ca_X5_law_338 l, List.forall_mem_cons.mpr ⟨ca_X5_law_368 l, fun _ h => absurd h List.not_mem_nil⟩⟩, fun _ h => absurd h List.not_mem_nil, fun _ h => absurd h List.not_mem_nil, fun _ h => absurd h List.not_mem_nil, fun _ h => absurd h List.not_mem_nil, fun _ h => absurd h List.not_mem_nil, by decide, rfl, rfl⟩ rfl (by decide)
/-! MarbleLaw.isStory(I)Z -/
noncomputable def kt_X5_isStory : Nat → Option nk_I := fun pc => bif Nat.ble pc 6 then ((fun pc => bif Nat.ble pc 1 then (bif Nat.ble pc 0 then (bif Nat.beq pc 0 then some (.iload_n 1, 1, 1, [], 0) else none)
  else (bif Nat.beq pc 1 then some (.ifCond .lt 18, 3, 4, [19], 0) else none))
  else ((fun pc => bif Nat.ble pc 4 then (bif Nat.beq pc 4 then some (.iload_n 1, 1, 5, [], 0) else none)
  else (bif Nat.ble pc 5 then (bif Nat.beq pc 5 then some (.aload_n 0, 1, 6, [], 0) else none)
  else (bif Nat.beq pc 6 then some (.getfield 21, 3, 9, [], 0) else none))) : nk_F) pc) : nk_F) pc
  else ((fun pc => bif Nat.ble pc 15 then ((fun pc => bif Nat.ble pc 9 then (bif Nat.beq pc 9 then some (.getfield 142, 3, 12, [], 0) else none)
  else (bif Nat.ble pc 12 then (bif Nat.beq pc 12 then some (.if_icmp .gt 7, 3, 15, [19], 0) else none)
  else (bif Nat.beq pc 15 then some (.iconst 1, 1, 16, [], 1) else none))) : nk_F) pc
  else ((fun pc => bif Nat.ble pc 16 then (bif Nat.beq pc 16 then some (.goto 4, 3, 19, [20], 0) else none)
  else (bif Nat.ble pc 19 then (bif Nat.beq pc 19 then some (.iconst 0, 1, 20, [], 0) else none)
  else (bif Nat.beq pc 20 then some (.ireturn, 1, 21, [], 0) else none))) : nk_F) pc) : nk_F) pc
noncomputable def kc_X5_isStory : Nat → Option nk_I := nk_top 21 kt_X5_isStory
noncomputable def kx_X5_isStory : nk_T := ([(21, 5, 2, 4), (142, 4, 3, 0)], [], [], [], [], [], [], 2, false, 0, 0)
noncomputable def ev_X5_isStory : nk_Ev := fun as h Q => nk_if (Nat.ble (nk_wd as) 2) (nk_ev kx_X5_isStory kc_X5_isStory 2 as h Q)
set_option maxRecDepth 100000 in
theorem ck_X5_isStory : nk_chk cX5_isStory kc_X5_isStory 21 = true := nd_chk (by decide +kernel) (by decide +kernel)
set_option maxRecDepth 100000 in
set_option maxHeartbeats 4000000 in
theorem mt_X5_isStory (l : Launch) : nk_Met l yX5_isStory cX5_isStory 2 (some .boolean) { frames := 0, cells := 0, slots := 0, locals := 0 } false 0 0 ev_X5_isStory :=
  nk_met nk_gok (plainFor_of_name (by decide)) ck_X5_isStory (nk_top_out 21 kt_X5_isStory) ⟨List.forall_mem_cons.mpr ⟨nk_fkc [(1, 153)] (by decide +kernel), List.forall_mem_cons.mpr ⟨nk_fkc [(1, 33)] (by decide +kernel), fun _ h => absurd h List.not_mem_nil⟩⟩, fun _ h => absurd h List.not_mem_nil, fun _ h => absurd h List.not_mem_nil, fun _ h => absurd h List.not_mem_nil, fun _ h => absurd h List.not_mem_nil, fun _ h => absurd h List.not_mem_nil, fun _ h => absurd h List.not_mem_nil, by decide, rfl, rfl⟩ rfl (by decide)
/-! MarbleLaw.inside(II)I -/
noncomputable def kt_X5_inside : Nat → Option nk_I := fun pc => bif Nat.ble pc 16 then ((fun pc => bif Nat.ble pc 5 then ((fun pc => bif Nat.ble pc 1 then (bif Nat.ble pc 0 then (bif Nat.beq pc 0 then some (.aload_n 0, 1, 1, [], 0) else none)
  else (bif Nat.beq pc 1 then some (.iload_n 1, 1, 2, [], 0) else none))
  else (bif Nat.ble pc 2 then (bif Nat.beq pc 2 then some (.invokevirtual 123, 3, 5, [], 0) else none)
  else (bif Nat.beq pc 5 then some (.ifCond .eq 11, 3, 8, [16], 0) else none))) : nk_F) pc
  else ((fun pc => bif Nat.ble pc 9 then (bif Nat.ble pc 8 then (bif Nat.beq pc 8 then some (.aload_n 0, 1, 9, [], 0) else none)
  else (bif Nat.beq pc 9 then some (.iload_n 2, 1, 10, [], 0) else none))
  else ((fun pc => bif Nat.ble pc 10 then (bif Nat.beq pc 10 then some (.invokevirtual 176, 3, 13, [], 0) else none)
  else (bif Nat.ble pc 13 then (bif Nat.beq pc 13 then some (.ifCond .ne 5, 3, 16, [18], 0) else none)
  else (bif Nat.beq pc 16 then some (.iconst (-1), 1, 17, [], (-1)) else none))) : nk_F) pc) : nk_F) pc) : nk_F) pc
  else ((fun pc => bif Nat.ble pc 23 then ((fun pc => bif Nat.ble pc 18 then (bif Nat.ble pc 17 then (bif Nat.beq pc 17 then some (.ireturn, 1, 18, [], 0) else none)
  else (bif Nat.beq pc 18 then some (.aload_n 0, 1, 19, [], 0) else none))
  else ((fun pc => bif Nat.ble pc 19 then (bif Nat.beq pc 19 then some (.iload_n 2, 1, 20, [], 0) else none)
  else (bif Nat.ble pc 20 then (bif Nat.beq pc 20 then some (.invokevirtual 158, 3, 23, [], 0) else none)
  else (bif Nat.beq pc 23 then some (.aload_n 0, 1, 24, [], 0) else none))) : nk_F) pc) : nk_F) pc
  else ((fun pc => bif Nat.ble pc 27 then (bif Nat.ble pc 24 then (bif Nat.beq pc 24 then some (.getfield 41, 3, 27, [], 0) else none)
  else (bif Nat.beq pc 27 then some (.getfield 179, 3, 30, [], 0) else none))
  else ((fun pc => bif Nat.ble pc 30 then (bif Nat.beq pc 30 then some (.iload_n 1, 1, 31, [], 0) else none)
  else (bif Nat.ble pc 31 then (bif Nat.beq pc 31 then some (.iaload, 1, 32, [], 0) else none)
  else (bif Nat.beq pc 32 then some (.ireturn, 1, 33, [], 0) else none))) : nk_F) pc) : nk_F) pc) : nk_F) pc
noncomputable def kc_X5_inside : Nat → Option nk_I := nk_top 33 kt_X5_inside
noncomputable def kx_X5_inside : nk_T := ([(41, 5, 5, 4), (179, 0, 3, 5)], [(492, 2, 6, 0, 0, ev_X5_isStuff), (704, 2, 6, 0, 0, ev_X5_isStory), (632, 2, 6, 0, 0, ev_X5_standBehind)], [], [], [], [], [], 1, false, 0, 0)
noncomputable def ev_X5_inside : nk_Ev := fun as h Q => nk_if (Nat.ble (nk_wd as) 3) (nk_ev kx_X5_inside kc_X5_inside 3 as h Q)
set_option maxRecDepth 100000 in
theorem ck_X5_inside : nk_chk cX5_inside kc_X5_inside 33 = true := nd_chk (by decide +kernel) (by decide +kernel)
set_option maxRecDepth 100000 in
set_option maxHeartbeats 4000000 in
theorem ca_X5_inside_492 (l : Launch) : nk_CallOk l { frames := 6, cells := 0, slots := 0, locals := 149 } RX5 cX5_inside 3 false 492 (2, 6, 0, 0, ev_X5_isStuff) := nk_callV (x := 123) (n := 1) (ci := 5) (r := (RX5, TX5, 13)) (mt_X5_isStuff l) rfl (nk_msc [(2, 36), (2, 37), (2, 38), (2, 39), (0, 3), (1, 1)] (by decide +kernel)) rfl rfl (by decide +kernel) ⟨by decide, by decide⟩
set_option maxRecDepth 100000 in
set_option maxHeartbeats 4000000 in
theorem ca_X5_inside_704 (l : Launch) : nk_CallOk l { frames := 6, cells := 0, slots := 0, locals := 149 } RX5 cX5_inside 3 false 704 (2, 6, 0, 0, ev_X5_isStory) := nk_callV (x := 176) (n := 1) (ci := 5) (r := (RX5, TX5, 13)) (mt_X5_isStory l) rfl (nk_msc [(2, 200), (2, 201), (2, 202), (2, 203), (0, 17), (1, 1)] (by decide +kernel)) rfl rfl (by decide +kernel) ⟨by decide, by decide⟩
set_option maxRecDepth 100000 in
set_option maxHeartbeats 4000000 in
theorem ca_X5_inside_632 (l : Launch) : nk_CallOk l { frames := 6, cells := 0, slots := 0, locals := 149 } RX5 cX5_inside 3 false 632 (2, 6, 0, 0, ev_X5_standBehind) := nk_callV (x := 158) (n := 1) (ci := 5) (r := (RX5, TX5, 13)) (mt_X5_standBehind l) rfl (nk_msc [(2, 89), (2, 90), (2, 91), (2, 92), (0, 6), (1, 1)] (by decide +kernel)) rfl rfl (by decide +kernel) ⟨by decide, by decide⟩
set_option maxRecDepth 100000 in
set_option maxHeartbeats 4000000 in
theorem mt_X5_inside (l : Launch) : nk_Met l yX5_inside cX5_inside 3 (some .int) { frames := 6, cells := 0, slots := 0, locals := 149 } false 0 0 ev_X5_inside :=
  nk_met nk_gok (plainFor_of_name (by decide)) ck_X5_inside (nk_top_out 33 kt_X5_inside) ⟨List.forall_mem_cons.mpr ⟨nk_fkc [(1, 156)] (by decide +kernel), List.forall_mem_cons.mpr ⟨nk_fkc [(1, 64)] (by decide +kernel), fun _ h => absurd h List.not_mem_nil⟩⟩, List.forall_mem_cons.mpr ⟨ca_X5_inside_492 l, List.forall_mem_cons.mpr ⟨ca_X5_inside_704 l, List.forall_mem_cons.mpr ⟨ca_X5_inside_632 l, fun _ h => absurd h List.not_mem_nil⟩⟩⟩, fun _ h => absurd h List.not_mem_nil, fun _ h => absurd h List.not_mem_nil, fun _ h => absurd h List.not_mem_nil, fun _ h => absurd h List.not_mem_nil, fun _ h => absurd h List.not_mem_nil, by decide, rfl, rfl⟩ rfl (by decide)
/-! MarbleLaw.now(III)I -/
noncomputable def kt_X5_now : Nat → Option nk_I := fun pc => bif Nat.ble pc 42 then ((fun pc => bif Nat.ble pc 21 then ((fun pc => bif Nat.ble pc 9 then ((fun pc => bif Nat.ble pc 2 then ((fun pc => bif Nat.ble pc 0 then (bif Nat.beq pc 0 then some (.aload_n 0, 1, 1, [], 0) else none)
  else (bif Nat.ble pc 1 then (bif Nat.beq pc 1 then some (.iload_n 1, 1, 2, [], 0) else none)
  else (bif Nat.beq pc 2 then some (.invokevirtual 123, 3, 5, [], 0) else none))) : nk_F) pc
  else ((fun pc => bif Nat.ble pc 5 then (bif Nat.beq pc 5 then some (.ifCond .eq 19, 3, 8, [24], 0) else none)
  else (bif Nat.ble pc 8 then (bif Nat.beq pc 8 then some (.aload_n 0, 1, 9, [], 0) else none)
  else (bif Nat.beq pc 9 then some (.iload_n 2, 1, 10, [], 0) else none))) : nk_F) pc) : nk_F) pc
  else ((fun pc => bif Nat.ble pc 16 then ((fun pc => bif Nat.ble pc 10 then (bif Nat.beq pc 10 then some (.invokevirtual 176, 3, 13, [], 0) else none)
  else (bif Nat.ble pc 13 then (bif Nat.beq pc 13 then some (.ifCond .eq 11, 3, 16, [24], 0) else none)
  else (bif Nat.beq pc 16 then some (.iload_n 3, 1, 17, [], 0) else none))) : nk_F) pc
  else ((fun pc => bif Nat.ble pc 17 then (bif Nat.beq pc 17 then some (.iconst 4, 1, 18, [], 4) else none)
  else (bif Nat.ble pc 18 then (bif Nat.beq pc 18 then some (.invokestatic 84, 3, 21, [], 0) else none)
  else (bif Nat.beq pc 21 then some (.ifCond .ne 5, 3, 24, [26], 0) else none))) : nk_F) pc) : nk_F) pc) : nk_F) pc
  else ((fun pc => bif Nat.ble pc 31 then ((fun pc => bif Nat.ble pc 26 then ((fun pc => bif Nat.ble pc 24 then (bif Nat.beq pc 24 then some (.iconst (-1), 1, 25, [], (-1)) else none)
  else (bif Nat.ble pc 25 then (bif Nat.beq pc 25 then some (.ireturn, 1, 26, [], 0) else none)
  else (bif Nat.beq pc 26 then some (.aload_n 0, 1, 27, [], 0) else none))) : nk_F) pc
  else ((fun pc => bif Nat.ble pc 27 then (bif Nat.beq pc 27 then some (.iload_n 2, 1, 28, [], 0) else none)
  else (bif Nat.ble pc 28 then (bif Nat.beq pc 28 then some (.invokevirtual 158, 3, 31, [], 0) else none)
  else (bif Nat.beq pc 31 then some (.aload_n 0, 1, 32, [], 0) else none))) : nk_F) pc) : nk_F) pc
  else ((fun pc => bif Nat.ble pc 38 then ((fun pc => bif Nat.ble pc 32 then (bif Nat.beq pc 32 then some (.getfield 41, 3, 35, [], 0) else none)
  else (bif Nat.ble pc 35 then (bif Nat.beq pc 35 then some (.getfield 179, 3, 38, [], 0) else none)
  else (bif Nat.beq pc 38 then some (.iload_n 1, 1, 39, [], 0) else none))) : nk_F) pc
  else ((fun pc => bif Nat.ble pc 39 then (bif Nat.beq pc 39 then some (.iaload, 1, 40, [], 0) else none)
  else (bif Nat.ble pc 40 then (bif Nat.beq pc 40 then some (.istore 4, 2, 42, [], 0) else none)
  else (bif Nat.beq pc 42 then some (.iload_n 3, 1, 43, [], 0) else none))) : nk_F) pc) : nk_F) pc) : nk_F) pc) : nk_F) pc
  else ((fun pc => bif Nat.ble pc 88 then ((fun pc => bif Nat.ble pc 77 then ((fun pc => bif Nat.ble pc 69 then ((fun pc => bif Nat.ble pc 43 then (bif Nat.beq pc 43 then some (.tableswitch 58 0 2 #[25, 36, 47], 25, 68, [101, 68, 79, 90], 0) else none)
  else (bif Nat.ble pc 68 then (bif Nat.beq pc 68 then some (.aload_n 0, 1, 69, [], 0) else none)
  else (bif Nat.beq pc 69 then some (.getfield 41, 3, 72, [], 0) else none))) : nk_F) pc
  else ((fun pc => bif Nat.ble pc 72 then (bif Nat.beq pc 72 then some (.getfield 182, 3, 75, [], 0) else none)
  else (bif Nat.ble pc 75 then (bif Nat.beq pc 75 then some (.iload 4, 2, 77, [], 0) else none)
  else (bif Nat.beq pc 77 then some (.iaload, 1, 78, [], 0) else none))) : nk_F) pc) : nk_F) pc
  else ((fun pc => bif Nat.ble pc 80 then ((fun pc => bif Nat.ble pc 78 then (bif Nat.beq pc 78 then some (.ireturn, 1, 79, [], 0) else none)
  else (bif Nat.ble pc 79 then (bif Nat.beq pc 79 then some (.aload_n 0, 1, 80, [], 0) else none)
  else (bif Nat.beq pc 80 then some (.getfield 41, 3, 83, [], 0) else none))) : nk_F) pc
  else ((fun pc => bif Nat.ble pc 83 then (bif Nat.beq pc 83 then some (.getfield 185, 3, 86, [], 0) else none)
  else (bif Nat.ble pc 86 then (bif Nat.beq pc 86 then some (.iload 4, 2, 88, [], 0) else none)
  else (bif Nat.beq pc 88 then some (.iaload, 1, 89, [], 0) else none))) : nk_F) pc) : nk_F) pc) : nk_F) pc
  else ((fun pc => bif Nat.ble pc 99 then ((fun pc => bif Nat.ble pc 91 then ((fun pc => bif Nat.ble pc 89 then (bif Nat.beq pc 89 then some (.ireturn, 1, 90, [], 0) else none)
  else (bif Nat.ble pc 90 then (bif Nat.beq pc 90 then some (.aload_n 0, 1, 91, [], 0) else none)
  else (bif Nat.beq pc 91 then some (.getfield 41, 3, 94, [], 0) else none))) : nk_F) pc
  else ((fun pc => bif Nat.ble pc 94 then (bif Nat.beq pc 94 then some (.getfield 188, 3, 97, [], 0) else none)
  else (bif Nat.ble pc 97 then (bif Nat.beq pc 97 then some (.iload 4, 2, 99, [], 0) else none)
  else (bif Nat.beq pc 99 then some (.iaload, 1, 100, [], 0) else none))) : nk_F) pc) : nk_F) pc
  else ((fun pc => bif Nat.ble pc 102 then ((fun pc => bif Nat.ble pc 100 then (bif Nat.beq pc 100 then some (.ireturn, 1, 101, [], 0) else none)
  else (bif Nat.ble pc 101 then (bif Nat.beq pc 101 then some (.aload_n 0, 1, 102, [], 0) else none)
  else (bif Nat.beq pc 102 then some (.getfield 41, 3, 105, [], 0) else none))) : nk_F) pc
  else ((fun pc => bif Nat.ble pc 105 then (bif Nat.beq pc 105 then some (.iload 4, 2, 107, [], 0) else none)
  else (bif Nat.ble pc 107 then (bif Nat.beq pc 107 then some (.invokevirtual 191, 3, 110, [], 0) else none)
  else (bif Nat.beq pc 110 then some (.ireturn, 1, 111, [], 0) else none))) : nk_F) pc) : nk_F) pc) : nk_F) pc) : nk_F) pc
noncomputable def kc_X5_now : Nat → Option nk_I := nk_top 111 kt_X5_now
noncomputable def kx_X5_now : nk_T := ([(41, 5, 5, 4), (179, 0, 3, 5), (182, 0, 4, 5), (185, 0, 5, 5), (188, 0, 6, 5)], [(492, 2, 6, 0, 0, ev_X5_isStuff), (704, 2, 6, 0, 0, ev_X5_isStory), (338, 2, 0, 0, 0, ev_X5_within), (632, 2, 6, 0, 0, ev_X5_standBehind), (764, 2, 1, 0, 0, ev_X0_debts)], [], [], [], [], [], 1, false, 0, 0)
noncomputable def ev_X5_now : nk_Ev := fun as h Q => nk_if (Nat.ble (nk_wd as) 5) (nk_ev kx_X5_now kc_X5_now 5 as h Q)
set_option maxRecDepth 100000 in
theorem ck_X5_now : nk_chk cX5_now kc_X5_now 111 = true := nd_chk (by decide +kernel) (by decide +kernel)
set_option maxRecDepth 100000 in
set_option maxHeartbeats 4000000 in
theorem ca_X5_now_492 (l : Launch) : nk_CallOk l { frames := 6, cells := 0, slots := 0, locals := 149 } RX5 cX5_now 5 false 492 (2, 6, 0, 0, ev_X5_isStuff) := nk_callV (x := 123) (n := 1) (ci := 5) (r := (RX5, TX5, 13)) (mt_X5_isStuff l) rfl (nk_msc [(2, 36), (2, 37), (2, 38), (2, 39), (0, 3), (1, 1)] (by decide +kernel)) rfl rfl (by decide +kernel) ⟨by decide, by decide⟩
set_option maxRecDepth 100000 in
set_option maxHeartbeats 4000000 in
theorem ca_X5_now_704 (l : Launch) : nk_CallOk l { frames := 6, cells := 0, slots := 0, locals := 149 } RX5 cX5_now 5 false 704 (2, 6, 0, 0, ev_X5_isStory) := nk_callV (x := 176) (n := 1) (ci := 5) (r := (RX5, TX5, 13)) (mt_X5_isStory l) rfl (nk_msc [(2, 200), (2, 201), (2, 202), (2, 203), (0, 17), (1, 1)] (by decide +kernel)) rfl rfl (by decide +kernel) ⟨by decide, by decide⟩
set_option maxRecDepth 100000 in
set_option maxHeartbeats 4000000 in
theorem ca_X5_now_338 (l : Launch) : nk_CallOk l { frames := 6, cells := 0, slots := 0, locals := 149 } RX5 cX5_now 5 false 338 (2, 0, 0, 0, ev_X5_within) := nk_callS (x := 84) (n := 2) (mt_X5_within l) (nk_msc [(1, 199), (1, 200), (1, 201), (1, 1)] (by decide +kernel)) rfl rfl (by decide +kernel) ⟨by decide, by decide⟩
set_option maxRecDepth 100000 in
set_option maxHeartbeats 4000000 in
theorem ca_X5_now_632 (l : Launch) : nk_CallOk l { frames := 6, cells := 0, slots := 0, locals := 149 } RX5 cX5_now 5 false 632 (2, 6, 0, 0, ev_X5_standBehind) := nk_callV (x := 158) (n := 1) (ci := 5) (r := (RX5, TX5, 13)) (mt_X5_standBehind l) rfl (nk_msc [(2, 89), (2, 90), (2, 91), (2, 92), (0, 6), (1, 1)] (by decide +kernel)) rfl rfl (by decide +kernel) ⟨by decide, by decide⟩
set_option maxRecDepth 100000 in
set_option maxHeartbeats 4000000 in
theorem ca_X5_now_764 (l : Launch) : nk_CallOk l { frames := 6, cells := 0, slots := 0, locals := 149 } RX5 cX5_now 5 false 764 (2, 1, 0, 0, ev_X0_debts) := nk_callV (x := 191) (n := 1) (ci := 0) (r := (RX0, TX0, 15)) (mt_X0_debts l) rfl (nk_msc [(2, 208), (2, 209), (2, 210), (2, 211), (1, 4)] (by decide +kernel)) rfl rfl (by decide +kernel) ⟨by decide, by decide⟩
set_option maxRecDepth 100000 in
set_option maxHeartbeats 4000000 in
theorem mt_X5_now (l : Launch) : nk_Met l yX5_now cX5_now 5 (some .int) { frames := 6, cells := 0, slots := 0, locals := 149 } false 0 0 ev_X5_now :=
  nk_met nk_gok (plainFor_of_name (by decide)) ck_X5_now (nk_top_out 111 kt_X5_now) ⟨List.forall_mem_cons.mpr ⟨nk_fkc [(1, 156)] (by decide +kernel), List.forall_mem_cons.mpr ⟨nk_fkc [(1, 64)] (by decide +kernel), List.forall_mem_cons.mpr ⟨nk_fkc [(1, 66)] (by decide +kernel), List.forall_mem_cons.mpr ⟨nk_fkc [(1, 68)] (by decide +kernel), List.forall_mem_cons.mpr ⟨nk_fkc [(1, 70)] (by decide +kernel), fun _ h => absurd h List.not_mem_nil⟩⟩⟩⟩⟩, List.forall_mem_cons.mpr ⟨ca_X5_now_492 l, List.forall_mem_cons.mpr ⟨ca_X5_now_704 l, List.forall_mem_cons.mpr ⟨ca_X5_now_338 l, List.forall_mem_cons.mpr ⟨ca_X5_now_632 l, List.forall_mem_cons.mpr ⟨ca_X5_now_764 l, fun _ h => absurd h List.not_mem_nil⟩⟩⟩⟩⟩, fun _ h => absurd h List.not_mem_nil, fun _ h => absurd h List.not_mem_nil, fun _ h => absurd h List.not_mem_nil, fun _ h => absurd h List.not_mem_nil, fun _ h => absurd h List.not_mem_nil, by decide, rfl, rfl⟩ rfl (by decide)
/-! MarbleLaw.refusalOfParts(IIIII)I -/
noncomputable def kt_X5_refusalOfParts : Nat → Option nk_I := fun pc => bif Nat.ble pc 52 then ((fun pc => bif Nat.ble pc 24 then ((fun pc => bif Nat.ble pc 9 then ((fun pc => bif Nat.ble pc 2 then ((fun pc => bif Nat.ble pc 0 then (bif Nat.beq pc 0 then some (.iload_n 1, 1, 1, [], 0) else none)
  else (bif Nat.ble pc 1 then (bif Nat.beq pc 1 then some (.iconst 4, 1, 2, [], 4) else none)
  else (bif Nat.beq pc 2 then some (.invokestatic 84, 3, 5, [], 0) else none))) : nk_F) pc
  else ((fun pc => bif Nat.ble pc 5 then (bif Nat.beq pc 5 then some (.ifCond .eq 39, 3, 8, [44], 0) else none)
  else (bif Nat.ble pc 8 then (bif Nat.beq pc 8 then some (.aload_n 0, 1, 9, [], 0) else none)
  else (bif Nat.beq pc 9 then some (.iload_n 2, 1, 10, [], 0) else none))) : nk_F) pc) : nk_F) pc
  else ((fun pc => bif Nat.ble pc 16 then ((fun pc => bif Nat.ble pc 10 then (bif Nat.beq pc 10 then some (.invokevirtual 123, 3, 13, [], 0) else none)
  else (bif Nat.ble pc 13 then (bif Nat.beq pc 13 then some (.ifCond .eq 31, 3, 16, [44], 0) else none)
  else (bif Nat.beq pc 16 then some (.aload_n 0, 1, 17, [], 0) else none))) : nk_F) pc
  else ((fun pc => bif Nat.ble pc 18 then (bif Nat.ble pc 17 then (bif Nat.beq pc 17 then some (.iload_n 3, 1, 18, [], 0) else none)
  else (bif Nat.beq pc 18 then some (.invokevirtual 176, 3, 21, [], 0) else none))
  else (bif Nat.ble pc 21 then (bif Nat.beq pc 21 then some (.ifCond .eq 23, 3, 24, [44], 0) else none)
  else (bif Nat.beq pc 24 then some (.iload 4, 2, 26, [], 0) else none))) : nk_F) pc) : nk_F) pc) : nk_F) pc
  else ((fun pc => bif Nat.ble pc 41 then ((fun pc => bif Nat.ble pc 31 then ((fun pc => bif Nat.ble pc 26 then (bif Nat.beq pc 26 then some (.bipush 16, 2, 28, [], 16) else none)
  else (bif Nat.ble pc 28 then (bif Nat.beq pc 28 then some (.invokestatic 84, 3, 31, [], 0) else none)
  else (bif Nat.beq pc 31 then some (.ifCond .eq 13, 3, 34, [44], 0) else none))) : nk_F) pc
  else ((fun pc => bif Nat.ble pc 36 then (bif Nat.ble pc 34 then (bif Nat.beq pc 34 then some (.iload 5, 2, 36, [], 0) else none)
  else (bif Nat.beq pc 36 then some (.bipush 6, 2, 38, [], 6) else none))
  else (bif Nat.ble pc 38 then (bif Nat.beq pc 38 then some (.invokestatic 84, 3, 41, [], 0) else none)
  else (bif Nat.beq pc 41 then some (.ifCond .ne 5, 3, 44, [46], 0) else none))) : nk_F) pc) : nk_F) pc
  else ((fun pc => bif Nat.ble pc 46 then ((fun pc => bif Nat.ble pc 44 then (bif Nat.beq pc 44 then some (.iconst (-1), 1, 45, [], (-1)) else none)
  else (bif Nat.ble pc 45 then (bif Nat.beq pc 45 then some (.ireturn, 1, 46, [], 0) else none)
  else (bif Nat.beq pc 46 then some (.aload_n 0, 1, 47, [], 0) else none))) : nk_F) pc
  else ((fun pc => bif Nat.ble pc 50 then (bif Nat.ble pc 47 then (bif Nat.beq pc 47 then some (.getfield 32, 3, 50, [], 0) else none)
  else (bif Nat.beq pc 50 then some (.iload_n 1, 1, 51, [], 0) else none))
  else (bif Nat.ble pc 51 then (bif Nat.beq pc 51 then some (.iaload, 1, 52, [], 0) else none)
  else (bif Nat.beq pc 52 then some (.iconst (-1), 1, 53, [], (-1)) else none))) : nk_F) pc) : nk_F) pc) : nk_F) pc) : nk_F) pc
  else ((fun pc => bif Nat.ble pc 77 then ((fun pc => bif Nat.ble pc 63 then ((fun pc => bif Nat.ble pc 57 then ((fun pc => bif Nat.ble pc 53 then (bif Nat.beq pc 53 then some (.if_icmp .ne 9, 3, 56, [62], 0) else none)
  else (bif Nat.ble pc 56 then (bif Nat.beq pc 56 then some (.aload_n 0, 1, 57, [], 0) else none)
  else (bif Nat.beq pc 57 then some (.iconst 1, 1, 58, [], 1) else none))) : nk_F) pc
  else ((fun pc => bif Nat.ble pc 61 then (bif Nat.ble pc 58 then (bif Nat.beq pc 58 then some (.invokevirtual 92, 3, 61, [], 0) else none)
  else (bif Nat.beq pc 61 then some (.ireturn, 1, 62, [], 0) else none))
  else (bif Nat.ble pc 62 then (bif Nat.beq pc 62 then some (.aload_n 0, 1, 63, [], 0) else none)
  else (bif Nat.beq pc 63 then some (.getfield 41, 3, 66, [], 0) else none))) : nk_F) pc) : nk_F) pc
  else ((fun pc => bif Nat.ble pc 70 then ((fun pc => bif Nat.ble pc 66 then (bif Nat.beq pc 66 then some (.aload_n 0, 1, 67, [], 0) else none)
  else (bif Nat.ble pc 67 then (bif Nat.beq pc 67 then some (.getfield 32, 3, 70, [], 0) else none)
  else (bif Nat.beq pc 70 then some (.iload_n 1, 1, 71, [], 0) else none))) : nk_F) pc
  else ((fun pc => bif Nat.ble pc 72 then (bif Nat.ble pc 71 then (bif Nat.beq pc 71 then some (.iaload, 1, 72, [], 0) else none)
  else (bif Nat.beq pc 72 then some (.iload 4, 2, 74, [], 0) else none))
  else (bif Nat.ble pc 74 then (bif Nat.beq pc 74 then some (.invokevirtual 231, 3, 77, [], 0) else none)
  else (bif Nat.beq pc 77 then some (.aload_n 0, 1, 78, [], 0) else none))) : nk_F) pc) : nk_F) pc) : nk_F) pc
  else ((fun pc => bif Nat.ble pc 90 then ((fun pc => bif Nat.ble pc 82 then ((fun pc => bif Nat.ble pc 78 then (bif Nat.beq pc 78 then some (.getfield 41, 3, 81, [], 0) else none)
  else (bif Nat.ble pc 81 then (bif Nat.beq pc 81 then some (.iconst 0, 1, 82, [], 0) else none)
  else (bif Nat.beq pc 82 then some (.iload_n 3, 1, 83, [], 0) else none))) : nk_F) pc
  else ((fun pc => bif Nat.ble pc 86 then (bif Nat.ble pc 83 then (bif Nat.beq pc 83 then some (.invokevirtual 237, 3, 86, [], 0) else none)
  else (bif Nat.beq pc 86 then some (.aload_n 0, 1, 87, [], 0) else none))
  else (bif Nat.ble pc 87 then (bif Nat.beq pc 87 then some (.getfield 41, 3, 90, [], 0) else none)
  else (bif Nat.beq pc 90 then some (.getfield 215, 3, 93, [], 0) else none))) : nk_F) pc) : nk_F) pc
  else ((fun pc => bif Nat.ble pc 97 then ((fun pc => bif Nat.ble pc 93 then (bif Nat.beq pc 93 then some (.ifCond .eq 11, 3, 96, [104], 0) else none)
  else (bif Nat.ble pc 96 then (bif Nat.beq pc 96 then some (.aload_n 0, 1, 97, [], 0) else none)
  else (bif Nat.beq pc 97 then some (.iconst 5, 1, 98, [], 5) else none))) : nk_F) pc
  else ((fun pc => bif Nat.ble pc 101 then (bif Nat.ble pc 98 then (bif Nat.beq pc 98 then some (.invokevirtual 92, 3, 101, [], 0) else none)
  else (bif Nat.beq pc 101 then some (.goto 4, 3, 104, [105], 0) else none))
  else (bif Nat.ble pc 104 then (bif Nat.beq pc 104 then some (.iconst 0, 1, 105, [], 0) else none)
  else (bif Nat.beq pc 105 then some (.ireturn, 1, 106, [], 0) else none))) : nk_F) pc) : nk_F) pc) : nk_F) pc) : nk_F) pc
noncomputable def kc_X5_refusalOfParts : Nat → Option nk_I := nk_top 106 kt_X5_refusalOfParts
noncomputable def kx_X5_refusalOfParts : nk_T := ([(32, 5, 4, 4), (41, 5, 5, 4), (215, 0, 10, 1)], [(338, 2, 0, 0, 0, ev_X5_within), (492, 2, 6, 0, 0, ev_X5_isStuff), (704, 2, 6, 0, 0, ev_X5_isStory), (368, 2, 6, 0, 0, ev_X5_found), (924, 3, 1, 0, 0, ev_X0_begin), (948, 3, 1, 0, 0, ev_X0_go)], [], [], [], [], [], 1, false, 0, 0)
noncomputable def ev_X5_refusalOfParts : nk_Ev := fun as h Q => nk_if (Nat.ble (nk_wd as) 6) (nk_ev kx_X5_refusalOfParts kc_X5_refusalOfParts 6 as h Q)
set_option maxRecDepth 100000 in
theorem ck_X5_refusalOfParts : nk_chk cX5_refusalOfParts kc_X5_refusalOfParts 106 = true := nd_chk (by decide +kernel) (by decide +kernel)
set_option maxRecDepth 100000 in
set_option maxHeartbeats 4000000 in
theorem ca_X5_refusalOfParts_338 (l : Launch) : nk_CallOk l { frames := 5, cells := 0, slots := 0, locals := 128 } RX5 cX5_refusalOfParts 6 false 338 (2, 0, 0, 0, ev_X5_within) := nk_callS (x := 84) (n := 2) (mt_X5_within l) (nk_msc [(1, 199), (1, 200), (1, 201), (1, 1)] (by decide +kernel)) rfl rfl (by decide +kernel) ⟨by decide, by decide⟩
set_option maxRecDepth 100000 in
set_option maxHeartbeats 4000000 in
theorem ca_X5_refusalOfParts_492 (l : Launch) : nk_CallOk l { frames := 5, cells := 0, slots := 0, locals := 128 } RX5 cX5_refusalOfParts 6 false 492 (2, 6, 0, 0, ev_X5_isStuff) := nk_callV (x := 123) (n := 1) (ci := 5) (r := (RX5, TX5, 13)) (mt_X5_isStuff l) rfl (nk_msc [(2, 36), (2, 37), (2, 38), (2, 39), (0, 3), (1, 1)] (by decide +kernel)) rfl rfl (by decide +kernel) ⟨by decide, by decide⟩
set_option maxRecDepth 100000 in
set_option maxHeartbeats 4000000 in
theorem ca_X5_refusalOfParts_704 (l : Launch) : nk_CallOk l { frames := 5, cells := 0, slots := 0, locals := 128 } RX5 cX5_refusalOfParts 6 false 704 (2, 6, 0, 0, ev_X5_isStory) := nk_callV (x := 176) (n := 1) (ci := 5) (r := (RX5, TX5, 13)) (mt_X5_isStory l) rfl (nk_msc [(2, 200), (2, 201), (2, 202), (2, 203), (0, 17), (1, 1)] (by decide +kernel)) rfl rfl (by decide +kernel) ⟨by decide, by decide⟩
set_option maxRecDepth 100000 in
set_option maxHeartbeats 4000000 in
theorem ca_X5_refusalOfParts_368 (l : Launch) : nk_CallOk l { frames := 5, cells := 0, slots := 0, locals := 128 } RX5 cX5_refusalOfParts 6 false 368 (2, 6, 0, 0, ev_X5_found) := nk_callV (x := 92) (n := 1) (ci := 5) (r := (RX5, TX5, 13)) (mt_X5_found l) rfl (nk_msc [(1, 202), (1, 203), (1, 204), (1, 205), (0, 1), (1, 1)] (by decide +kernel)) rfl rfl (by decide +kernel) ⟨by decide, by decide⟩
set_option maxRecDepth 100000 in
set_option maxHeartbeats 4000000 in
theorem ca_X5_refusalOfParts_924 (l : Launch) : nk_CallOk l { frames := 5, cells := 0, slots := 0, locals := 128 } RX5 cX5_refusalOfParts 6 false 924 (3, 1, 0, 0, ev_X0_begin) := nk_callV (x := 231) (n := 2) (ci := 0) (r := (RX0, TX0, 15)) (mt_X0_begin l) rfl (nk_msc [(2, 93), (2, 94), (2, 95), (2, 96), (1, 4)] (by decide +kernel)) rfl rfl (by decide +kernel) ⟨by decide, by decide⟩
set_option maxRecDepth 100000 in
set_option maxHeartbeats 4000000 in
theorem ca_X5_refusalOfParts_948 (l : Launch) : nk_CallOk l { frames := 5, cells := 0, slots := 0, locals := 128 } RX5 cX5_refusalOfParts 6 false 948 (3, 1, 0, 0, ev_X0_go) := nk_callV (x := 237) (n := 2) (ci := 0) (r := (RX0, TX0, 15)) (mt_X0_go l) rfl (nk_msc [(2, 102), (2, 103), (2, 104), (2, 105), (1, 4)] (by decide +kernel)) rfl rfl (by decide +kernel) ⟨by decide, by decide⟩
set_option maxRecDepth 100000 in
set_option maxHeartbeats 4000000 in
theorem mt_X5_refusalOfParts (l : Launch) : nk_Met l yX5_refusalOfParts cX5_refusalOfParts 6 (some .int) { frames := 5, cells := 0, slots := 0, locals := 128 } false 0 0 ev_X5_refusalOfParts :=
  nk_met nk_gok (plainFor_of_name (by decide)) ck_X5_refusalOfParts (nk_top_out 106 kt_X5_refusalOfParts) ⟨List.forall_mem_cons.mpr ⟨nk_fkc [(1, 155)] (by decide +kernel), List.forall_mem_cons.mpr ⟨nk_fkc [(1, 156)] (by decide +kernel), List.forall_mem_cons.mpr ⟨nk_fkc [(1, 76)] (by decide +kernel), fun _ h => absurd h List.not_mem_nil⟩⟩⟩, List.forall_mem_cons.mpr ⟨ca_X5_refusalOfParts_338 l, List.forall_mem_cons.mpr ⟨ca_X5_refusalOfParts_492 l, List.forall_mem_cons.mpr ⟨ca_X5_refusalOfParts_704 l, List.forall_mem_cons.mpr ⟨ca_X5_refusalOfParts_368 l, List.forall_mem_cons.mpr ⟨ca_X5_refusalOfParts_924 l, List.forall_mem_cons.mpr ⟨ca_X5_refusalOfParts_948 l, fun _ h => absurd h List.not_mem_nil⟩⟩⟩⟩⟩⟩, fun _ h => absurd h List.not_mem_nil, fun _ h => absurd h List.not_mem_nil, fun _ h => absurd h List.not_mem_nil, fun _ h => absurd h List.not_mem_nil, fun _ h => absurd h List.not_mem_nil, by decide, rfl, rfl⟩ rfl (by decide)
