/-! MarbleLawModel.goes(IIII)Z -/
noncomputable def kt_X6_goes : Nat → Option nk_I := fun pc => bif Nat.ble pc 19 then ((fun pc => bif Nat.ble pc 7 then ((fun pc => bif Nat.ble pc 2 then ((fun pc => bif Nat.ble pc 0 then (bif Nat.beq pc 0 then some (.aload_n 0, 1, 1, [], 0) else none)
  else (bif Nat.ble pc 1 then (bif Nat.beq pc 1 then some (.iload_n 1, 1, 2, [], 0) else none)
  else (bif Nat.beq pc 2 then some (.iload_n 2, 1, 3, [], 0) else none))) : nk_F) pc
  else ((fun pc => bif Nat.ble pc 3 then (bif Nat.beq pc 3 then some (.invokevirtual 217, 3, 6, [], 0) else none)
  else (bif Nat.ble pc 6 then (bif Nat.beq pc 6 then some (.iconst 0, 1, 7, [], 0) else none)
  else (bif Nat.beq pc 7 then some (.istore 5, 2, 9, [], 0) else none))) : nk_F) pc) : nk_F) pc
  else ((fun pc => bif Nat.ble pc 12 then ((fun pc => bif Nat.ble pc 9 then (bif Nat.beq pc 9 then some (.iload 5, 2, 11, [], 0) else none)
  else (bif Nat.ble pc 11 then (bif Nat.beq pc 11 then some (.iload_n 3, 1, 12, [], 0) else none)
  else (bif Nat.beq pc 12 then some (.if_icmp .ge 22, 3, 15, [34], 0) else none))) : nk_F) pc
  else ((fun pc => bif Nat.ble pc 15 then (bif Nat.beq pc 15 then some (.iload 5, 2, 17, [], 0) else none)
  else (bif Nat.ble pc 17 then (bif Nat.beq pc 17 then some (.iload 4, 2, 19, [], 0) else none)
  else (bif Nat.beq pc 19 then some (.if_icmp .eq 9, 3, 22, [28], 0) else none))) : nk_F) pc) : nk_F) pc) : nk_F) pc
  else ((fun pc => bif Nat.ble pc 34 then ((fun pc => bif Nat.ble pc 25 then ((fun pc => bif Nat.ble pc 22 then (bif Nat.beq pc 22 then some (.aload_n 0, 1, 23, [], 0) else none)
  else (bif Nat.ble pc 23 then (bif Nat.beq pc 23 then some (.iload 5, 2, 25, [], 0) else none)
  else (bif Nat.beq pc 25 then some (.invokevirtual 220, 3, 28, [], 0) else none))) : nk_F) pc
  else ((fun pc => bif Nat.ble pc 28 then (bif Nat.beq pc 28 then some (.iinc 5 1, 3, 31, [], 1) else none)
  else (bif Nat.ble pc 31 then (bif Nat.beq pc 31 then some (.goto (-22), 3, 34, [9], 0) else none)
  else (bif Nat.beq pc 34 then some (.aload_n 0, 1, 35, [], 0) else none))) : nk_F) pc) : nk_F) pc
  else ((fun pc => bif Nat.ble pc 41 then ((fun pc => bif Nat.ble pc 35 then (bif Nat.beq pc 35 then some (.getfield 185, 3, 38, [], 0) else none)
  else (bif Nat.ble pc 38 then (bif Nat.beq pc 38 then some (.ifCond .ne 7, 3, 41, [45], 0) else none)
  else (bif Nat.beq pc 41 then some (.iconst 1, 1, 42, [], 1) else none))) : nk_F) pc
  else ((fun pc => bif Nat.ble pc 42 then (bif Nat.beq pc 42 then some (.goto 4, 3, 45, [46], 0) else none)
  else (bif Nat.ble pc 45 then (bif Nat.beq pc 45 then some (.iconst 0, 1, 46, [], 0) else none)
  else (bif Nat.beq pc 46 then some (.ireturn, 1, 47, [], 0) else none))) : nk_F) pc) : nk_F) pc) : nk_F) pc
noncomputable def kc_X6_goes : Nat → Option nk_I := nk_top 47 kt_X6_goes
noncomputable def kx_X6_goes : nk_T := ([(185, 6, 22, 1)], [(868, 3, 7, 0, 0, ev_X6_begins), (880, 2, 7, 0, 0, ev_X6_does)], [], [], [], [], [], 2, false, 0, 0)
noncomputable def ev_X6_goes : nk_Ev := fun as h Q => nk_if (Nat.ble (nk_wd as) 6) (nk_ev kx_X6_goes kc_X6_goes 6 as h Q)
set_option maxRecDepth 100000 in
theorem ck_X6_goes : nk_chk cX6_goes kc_X6_goes 47 = true := nd_chk (by decide +kernel) (by decide +kernel)
set_option maxRecDepth 100000 in
set_option maxHeartbeats 4000000 in
theorem ca_X6_goes_868 (l : Launch) : nk_CallOk l { frames := 5, cells := 0, slots := 0, locals := 134 } RX6 cX6_goes 6 false 868 (3, 7, 0, 0, ev_X6_begins) := nk_callV (x := 217) (n := 2) (ci := 6) (r := (RX6, TX6, 32)) (mt_X6_begins l) rfl (nk_msc [(4, 212), (4, 213), (4, 214), (4, 215), (0, 40), (1, 7)] (by decide +kernel)) rfl rfl (by decide +kernel) ⟨by decide, by decide⟩
set_option maxRecDepth 100000 in
set_option maxHeartbeats 4000000 in
theorem ca_X6_goes_880 (l : Launch) : nk_CallOk l { frames := 5, cells := 0, slots := 0, locals := 134 } RX6 cX6_goes 6 false 880 (2, 7, 0, 0, ev_X6_does) := nk_callV (x := 220) (n := 1) (ci := 6) (r := (RX6, TX6, 32)) (mt_X6_does l) rfl (nk_msc [(4, 216), (4, 217), (4, 218), (4, 219), (0, 41), (1, 7)] (by decide +kernel)) rfl rfl (by decide +kernel) ⟨by decide, by decide⟩
set_option maxRecDepth 100000 in
set_option maxHeartbeats 4000000 in
theorem mt_X6_goes (l : Launch) : nk_Met l yX6_goes cX6_goes 6 (some .boolean) { frames := 5, cells := 0, slots := 0, locals := 134 } false 0 0 ev_X6_goes :=
  nk_met nk_gok (plainFor_of_name (by decide)) ck_X6_goes (nk_top_out 47 kt_X6_goes) ⟨List.forall_mem_cons.mpr ⟨nk_fkc [(3, 215)] (by decide +kernel), fun _ h => absurd h List.not_mem_nil⟩, List.forall_mem_cons.mpr ⟨ca_X6_goes_868 l, List.forall_mem_cons.mpr ⟨ca_X6_goes_880 l, fun _ h => absurd h List.not_mem_nil⟩⟩, fun _ h => absurd h List.not_mem_nil, fun _ h => absurd h List.not_mem_nil, fun _ h => absurd h List.not_mem_nil, fun _ h => absurd h List.not_mem_nil, fun _ h => absurd h List.not_mem_nil, by decide, rfl, rfl⟩ rfl (by decide)
/-! MarbleLawModel.isMany(I)Z -/
noncomputable def kt_X6_isMany : Nat → Option nk_I := fun pc => bif Nat.ble pc 2 then ((fun pc => bif Nat.ble pc 0 then (bif Nat.beq pc 0 then some (.iload_n 1, 1, 1, [], 0) else none)
  else (bif Nat.ble pc 1 then (bif Nat.beq pc 1 then some (.iconst 0, 1, 2, [], 0) else none)
  else (bif Nat.beq pc 2 then some (.aload_n 0, 1, 3, [], 0) else none))) : nk_F) pc
  else ((fun pc => bif Nat.ble pc 3 then (bif Nat.beq pc 3 then some (.getfield 146, 3, 6, [], 0) else none)
  else (bif Nat.ble pc 6 then (bif Nat.beq pc 6 then some (.invokestatic 89, 3, 9, [], 0) else none)
  else (bif Nat.beq pc 9 then some (.ireturn, 1, 10, [], 0) else none))) : nk_F) pc
noncomputable def kc_X6_isMany : Nat → Option nk_I := nk_top 10 kt_X6_isMany
noncomputable def kx_X6_isMany : nk_T := ([(146, 6, 12, 0)], [(358, 3, 0, 0, 0, ev_X6_in)], [], [], [], [], [], 2, false, 0, 0)
noncomputable def ev_X6_isMany : nk_Ev := fun as h Q => nk_if (Nat.ble (nk_wd as) 2) (nk_ev kx_X6_isMany kc_X6_isMany 2 as h Q)
set_option maxRecDepth 100000 in
theorem ck_X6_isMany : nk_chk cX6_isMany kc_X6_isMany 10 = true := nd_chk (by decide +kernel) (by decide +kernel)
set_option maxRecDepth 100000 in
set_option maxHeartbeats 4000000 in
theorem ca_X6_isMany_358 (l : Launch) : nk_CallOk l { frames := 1, cells := 0, slots := 0, locals := 22 } RX6 cX6_isMany 2 false 358 (3, 0, 0, 0, ev_X6_in) := nk_callS (x := 89) (n := 3) (mt_X6_in l) (nk_msc [(4, 57), (4, 58), (4, 59), (1, 7)] (by decide +kernel)) rfl rfl (by decide +kernel) ⟨by decide, by decide⟩
set_option maxRecDepth 100000 in
set_option maxHeartbeats 4000000 in
theorem mt_X6_isMany (l : Launch) : nk_Met l yX6_isMany cX6_isMany 2 (some .boolean) { frames := 1, cells := 0, slots := 0, locals := 22 } false 0 0 ev_X6_isMany :=
  nk_met nk_gok (plainFor_of_name (by decide)) ck_X6_isMany (nk_top_out 10 kt_X6_isMany) ⟨List.forall_mem_cons.mpr ⟨nk_fkc [(3, 205)] (by decide +kernel), fun _ h => absurd h List.not_mem_nil⟩, List.forall_mem_cons.mpr ⟨ca_X6_isMany_358 l, fun _ h => absurd h List.not_mem_nil⟩, fun _ h => absurd h List.not_mem_nil, fun _ h => absurd h List.not_mem_nil, fun _ h => absurd h List.not_mem_nil, fun _ h => absurd h List.not_mem_nil, fun _ h => absurd h List.not_mem_nil, by decide, rfl, rfl⟩ rfl (by decide)
/-! MarbleLawModel.mark(II)I -/
noncomputable def kt_X6_mark : Nat → Option nk_I := fun pc => bif Nat.ble pc 60 then ((fun pc => bif Nat.ble pc 29 then ((fun pc => bif Nat.ble pc 15 then ((fun pc => bif Nat.ble pc 5 then ((fun pc => bif Nat.ble pc 1 then (bif Nat.ble pc 0 then (bif Nat.beq pc 0 then some (.aload_n 0, 1, 1, [], 0) else none)
  else (bif Nat.beq pc 1 then some (.iload_n 1, 1, 2, [], 0) else none))
  else (bif Nat.ble pc 2 then (bif Nat.beq pc 2 then some (.invokevirtual 149, 3, 5, [], 0) else none)
  else (bif Nat.beq pc 5 then some (.ifCond .eq 13, 3, 8, [18], 0) else none))) : nk_F) pc
  else ((fun pc => bif Nat.ble pc 9 then (bif Nat.ble pc 8 then (bif Nat.beq pc 8 then some (.iload_n 2, 1, 9, [], 0) else none)
  else (bif Nat.beq pc 9 then some (.iconst 1, 1, 10, [], 1) else none))
  else ((fun pc => bif Nat.ble pc 10 then (bif Nat.beq pc 10 then some (.bipush 6, 2, 12, [], 6) else none)
  else (bif Nat.ble pc 12 then (bif Nat.beq pc 12 then some (.invokestatic 89, 3, 15, [], 0) else none)
  else (bif Nat.beq pc 15 then some (.ifCond .ne 5, 3, 18, [20], 0) else none))) : nk_F) pc) : nk_F) pc) : nk_F) pc
  else ((fun pc => bif Nat.ble pc 22 then ((fun pc => bif Nat.ble pc 19 then (bif Nat.ble pc 18 then (bif Nat.beq pc 18 then some (.iconst (-1), 1, 19, [], (-1)) else none)
  else (bif Nat.beq pc 19 then some (.ireturn, 1, 20, [], 0) else none))
  else ((fun pc => bif Nat.ble pc 20 then (bif Nat.beq pc 20 then some (.aload_n 0, 1, 21, [], 0) else none)
  else (bif Nat.ble pc 21 then (bif Nat.beq pc 21 then some (.iload_n 1, 1, 22, [], 0) else none)
  else (bif Nat.beq pc 22 then some (.iconst 0, 1, 23, [], 0) else none))) : nk_F) pc) : nk_F) pc
  else ((fun pc => bif Nat.ble pc 26 then (bif Nat.ble pc 23 then (bif Nat.beq pc 23 then some (.invokevirtual 152, 3, 26, [], 0) else none)
  else (bif Nat.beq pc 26 then some (.istore_n 3, 1, 27, [], 0) else none))
  else ((fun pc => bif Nat.ble pc 27 then (bif Nat.beq pc 27 then some (.iload_n 3, 1, 28, [], 0) else none)
  else (bif Nat.ble pc 28 then (bif Nat.beq pc 28 then some (.iload_n 2, 1, 29, [], 0) else none)
  else (bif Nat.beq pc 29 then some (.if_icmp .eq 24, 3, 32, [53], 0) else none))) : nk_F) pc) : nk_F) pc) : nk_F) pc) : nk_F) pc
  else ((fun pc => bif Nat.ble pc 44 then ((fun pc => bif Nat.ble pc 37 then ((fun pc => bif Nat.ble pc 33 then (bif Nat.ble pc 32 then (bif Nat.beq pc 32 then some (.iload_n 2, 1, 33, [], 0) else none)
  else (bif Nat.beq pc 33 then some (.iconst 2, 1, 34, [], 2) else none))
  else (bif Nat.ble pc 34 then (bif Nat.beq pc 34 then some (.if_icmp .ne 13, 3, 37, [47], 0) else none)
  else (bif Nat.beq pc 37 then some (.iload_n 3, 1, 38, [], 0) else none))) : nk_F) pc
  else ((fun pc => bif Nat.ble pc 39 then (bif Nat.ble pc 38 then (bif Nat.beq pc 38 then some (.iconst 4, 1, 39, [], 4) else none)
  else (bif Nat.beq pc 39 then some (.if_icmp .eq 14, 3, 42, [53], 0) else none))
  else ((fun pc => bif Nat.ble pc 42 then (bif Nat.beq pc 42 then some (.iload_n 3, 1, 43, [], 0) else none)
  else (bif Nat.ble pc 43 then (bif Nat.beq pc 43 then some (.iconst 5, 1, 44, [], 5) else none)
  else (bif Nat.beq pc 44 then some (.if_icmp .eq 9, 3, 47, [53], 0) else none))) : nk_F) pc) : nk_F) pc) : nk_F) pc
  else ((fun pc => bif Nat.ble pc 53 then ((fun pc => bif Nat.ble pc 48 then (bif Nat.ble pc 47 then (bif Nat.beq pc 47 then some (.aload_n 0, 1, 48, [], 0) else none)
  else (bif Nat.beq pc 48 then some (.iconst 3, 1, 49, [], 3) else none))
  else ((fun pc => bif Nat.ble pc 49 then (bif Nat.beq pc 49 then some (.invokevirtual 97, 3, 52, [], 0) else none)
  else (bif Nat.ble pc 52 then (bif Nat.beq pc 52 then some (.ireturn, 1, 53, [], 0) else none)
  else (bif Nat.beq pc 53 then some (.iload_n 2, 1, 54, [], 0) else none))) : nk_F) pc) : nk_F) pc
  else ((fun pc => bif Nat.ble pc 55 then (bif Nat.ble pc 54 then (bif Nat.beq pc 54 then some (.iconst 2, 1, 55, [], 2) else none)
  else (bif Nat.beq pc 55 then some (.if_icmp .eq 24, 3, 58, [79], 0) else none))
  else ((fun pc => bif Nat.ble pc 58 then (bif Nat.beq pc 58 then some (.iload_n 2, 1, 59, [], 0) else none)
  else (bif Nat.ble pc 59 then (bif Nat.beq pc 59 then some (.iconst 4, 1, 60, [], 4) else none)
  else (bif Nat.beq pc 60 then some (.if_icmp .ne 12, 3, 63, [72], 0) else none))) : nk_F) pc) : nk_F) pc) : nk_F) pc) : nk_F) pc) : nk_F) pc
  else ((fun pc => bif Nat.ble pc 90 then ((fun pc => bif Nat.ble pc 75 then ((fun pc => bif Nat.ble pc 66 then ((fun pc => bif Nat.ble pc 64 then (bif Nat.ble pc 63 then (bif Nat.beq pc 63 then some (.aload_n 0, 1, 64, [], 0) else none)
  else (bif Nat.beq pc 64 then some (.iload_n 1, 1, 65, [], 0) else none))
  else (bif Nat.ble pc 65 then (bif Nat.beq pc 65 then some (.iconst 4, 1, 66, [], 4) else none)
  else (bif Nat.beq pc 66 then some (.invokevirtual 152, 3, 69, [], 0) else none))) : nk_F) pc
  else ((fun pc => bif Nat.ble pc 72 then (bif Nat.ble pc 69 then (bif Nat.beq pc 69 then some (.goto 9, 3, 72, [78], 0) else none)
  else (bif Nat.beq pc 72 then some (.aload_n 0, 1, 73, [], 0) else none))
  else ((fun pc => bif Nat.ble pc 73 then (bif Nat.beq pc 73 then some (.iload_n 1, 1, 74, [], 0) else none)
  else (bif Nat.ble pc 74 then (bif Nat.beq pc 74 then some (.iconst 2, 1, 75, [], 2) else none)
  else (bif Nat.beq pc 75 then some (.invokevirtual 152, 3, 78, [], 0) else none))) : nk_F) pc) : nk_F) pc) : nk_F) pc
  else ((fun pc => bif Nat.ble pc 82 then ((fun pc => bif Nat.ble pc 79 then (bif Nat.ble pc 78 then (bif Nat.beq pc 78 then some (.ireturn, 1, 79, [], 0) else none)
  else (bif Nat.beq pc 79 then some (.aload_n 0, 1, 80, [], 0) else none))
  else ((fun pc => bif Nat.ble pc 80 then (bif Nat.beq pc 80 then some (.iconst 0, 1, 81, [], 0) else none)
  else (bif Nat.ble pc 81 then (bif Nat.beq pc 81 then some (.iconst 0, 1, 82, [], 0) else none)
  else (bif Nat.beq pc 82 then some (.iload_n 1, 1, 83, [], 0) else none))) : nk_F) pc) : nk_F) pc
  else ((fun pc => bif Nat.ble pc 85 then (bif Nat.ble pc 83 then (bif Nat.beq pc 83 then some (.bipush (-9), 2, 85, [], (-9)) else none)
  else (bif Nat.beq pc 85 then some (.invokevirtual 224, 3, 88, [], 0) else none))
  else ((fun pc => bif Nat.ble pc 88 then (bif Nat.beq pc 88 then some (.pop, 1, 89, [], 0) else none)
  else (bif Nat.ble pc 89 then (bif Nat.beq pc 89 then some (.iload_n 3, 1, 90, [], 0) else none)
  else (bif Nat.beq pc 90 then some (.iconst 4, 1, 91, [], 4) else none))) : nk_F) pc) : nk_F) pc) : nk_F) pc) : nk_F) pc
  else ((fun pc => bif Nat.ble pc 106 then ((fun pc => bif Nat.ble pc 99 then ((fun pc => bif Nat.ble pc 94 then (bif Nat.ble pc 91 then (bif Nat.beq pc 91 then some (.if_icmp .eq 32, 3, 94, [123], 0) else none)
  else (bif Nat.beq pc 94 then some (.aload_n 0, 1, 95, [], 0) else none))
  else ((fun pc => bif Nat.ble pc 95 then (bif Nat.beq pc 95 then some (.getfield 41, 3, 98, [], 0) else none)
  else (bif Nat.ble pc 98 then (bif Nat.beq pc 98 then some (.aload_n 0, 1, 99, [], 0) else none)
  else (bif Nat.beq pc 99 then some (.iload_n 1, 1, 100, [], 0) else none))) : nk_F) pc) : nk_F) pc
  else ((fun pc => bif Nat.ble pc 101 then (bif Nat.ble pc 100 then (bif Nat.beq pc 100 then some (.iconst 1, 1, 101, [], 1) else none)
  else (bif Nat.beq pc 101 then some (.invokevirtual 152, 3, 104, [], 0) else none))
  else ((fun pc => bif Nat.ble pc 104 then (bif Nat.beq pc 104 then some (.iaload, 1, 105, [], 0) else none)
  else (bif Nat.ble pc 105 then (bif Nat.beq pc 105 then some (.aload_n 0, 1, 106, [], 0) else none)
  else (bif Nat.beq pc 106 then some (.getfield 41, 3, 109, [], 0) else none))) : nk_F) pc) : nk_F) pc) : nk_F) pc
  else ((fun pc => bif Nat.ble pc 115 then ((fun pc => bif Nat.ble pc 110 then (bif Nat.ble pc 109 then (bif Nat.beq pc 109 then some (.aload_n 0, 1, 110, [], 0) else none)
  else (bif Nat.beq pc 110 then some (.iload_n 1, 1, 111, [], 0) else none))
  else ((fun pc => bif Nat.ble pc 111 then (bif Nat.beq pc 111 then some (.iconst 2, 1, 112, [], 2) else none)
  else (bif Nat.ble pc 112 then (bif Nat.beq pc 112 then some (.invokevirtual 152, 3, 115, [], 0) else none)
  else (bif Nat.beq pc 115 then some (.iaload, 1, 116, [], 0) else none))) : nk_F) pc) : nk_F) pc
  else ((fun pc => bif Nat.ble pc 119 then (bif Nat.ble pc 116 then (bif Nat.beq pc 116 then some (.if_icmp .eq 7, 3, 119, [123], 0) else none)
  else (bif Nat.beq pc 119 then some (.iconst 1, 1, 120, [], 1) else none))
  else ((fun pc => bif Nat.ble pc 120 then (bif Nat.beq pc 120 then some (.goto 4, 3, 123, [124], 0) else none)
  else (bif Nat.ble pc 123 then (bif Nat.beq pc 123 then some (.iconst 0, 1, 124, [], 0) else none)
  else (bif Nat.beq pc 124 then some (.ireturn, 1, 125, [], 0) else none))) : nk_F) pc) : nk_F) pc) : nk_F) pc) : nk_F) pc) : nk_F) pc
noncomputable def kc_X6_mark : Nat → Option nk_I := nk_top 125 kt_X6_mark
noncomputable def kx_X6_mark : nk_T := ([(41, 6, 16, 4)], [(596, 2, 7, 0, 0, ev_X6_isMaking), (358, 3, 0, 0, 0, ev_X6_in), (608, 3, 7, 0, 0, ev_X6_part), (388, 2, 7, 0, 0, ev_X6_meets), (896, 5, 7, 0, 0, ev_X6_goes)], [], [], [], [], [], 1, false, 0, 0)
noncomputable def ev_X6_mark : nk_Ev := fun as h Q => nk_if (Nat.ble (nk_wd as) 4) (nk_ev kx_X6_mark kc_X6_mark 4 as h Q)
set_option maxRecDepth 100000 in
theorem ck_X6_mark : nk_chk cX6_mark kc_X6_mark 125 = true := nd_chk (by decide +kernel) (by decide +kernel)
set_option maxRecDepth 100000 in
set_option maxHeartbeats 4000000 in
theorem ca_X6_mark_596 (l : Launch) : nk_CallOk l { frames := 6, cells := 0, slots := 0, locals := 159 } RX6 cX6_mark 4 false 596 (2, 7, 0, 0, ev_X6_isMaking) := nk_callV (x := 149) (n := 1) (ci := 6) (r := (RX6, TX6, 32)) (mt_X6_isMaking l) rfl (nk_msc [(4, 160), (4, 161), (4, 162), (4, 163), (0, 34), (1, 7)] (by decide +kernel)) rfl rfl (by decide +kernel) ⟨by decide, by decide⟩
set_option maxRecDepth 100000 in
set_option maxHeartbeats 4000000 in
theorem ca_X6_mark_358 (l : Launch) : nk_CallOk l { frames := 6, cells := 0, slots := 0, locals := 159 } RX6 cX6_mark 4 false 358 (3, 0, 0, 0, ev_X6_in) := nk_callS (x := 89) (n := 3) (mt_X6_in l) (nk_msc [(4, 57), (4, 58), (4, 59), (1, 7)] (by decide +kernel)) rfl rfl (by decide +kernel) ⟨by decide, by decide⟩
set_option maxRecDepth 100000 in
set_option maxHeartbeats 4000000 in
theorem ca_X6_mark_608 (l : Launch) : nk_CallOk l { frames := 6, cells := 0, slots := 0, locals := 159 } RX6 cX6_mark 4 false 608 (3, 7, 0, 0, ev_X6_part) := nk_callV (x := 152) (n := 2) (ci := 6) (r := (RX6, TX6, 32)) (mt_X6_part l) rfl (nk_msc [(4, 164), (4, 165), (4, 166), (4, 167), (0, 35), (1, 7)] (by decide +kernel)) rfl rfl (by decide +kernel) ⟨by decide, by decide⟩
set_option maxRecDepth 100000 in
set_option maxHeartbeats 4000000 in
theorem ca_X6_mark_388 (l : Launch) : nk_CallOk l { frames := 6, cells := 0, slots := 0, locals := 159 } RX6 cX6_mark 4 false 388 (2, 7, 0, 0, ev_X6_meets) := nk_callV (x := 97) (n := 1) (ci := 6) (r := (RX6, TX6, 32)) (mt_X6_meets l) rfl (nk_msc [(4, 60), (4, 61), (4, 62), (4, 63), (0, 26), (1, 7)] (by decide +kernel)) rfl rfl (by decide +kernel) ⟨by decide, by decide⟩
set_option maxRecDepth 100000 in
set_option maxHeartbeats 4000000 in
theorem ca_X6_mark_896 (l : Launch) : nk_CallOk l { frames := 6, cells := 0, slots := 0, locals := 159 } RX6 cX6_mark 4 false 896 (5, 7, 0, 0, ev_X6_goes) := nk_callV (x := 224) (n := 4) (ci := 6) (r := (RX6, TX6, 32)) (mt_X6_goes l) rfl (nk_msc [(4, 208), (4, 209), (4, 210), (4, 211), (0, 39), (1, 7)] (by decide +kernel)) rfl rfl (by decide +kernel) ⟨by decide, by decide⟩
set_option maxRecDepth 100000 in
set_option maxHeartbeats 4000000 in
theorem mt_X6_mark (l : Launch) : nk_Met l yX6_mark cX6_mark 4 (some .int) { frames := 6, cells := 0, slots := 0, locals := 159 } false 0 0 ev_X6_mark :=
  nk_met nk_gok (plainFor_of_name (by decide)) ck_X6_mark (nk_top_out 125 kt_X6_mark) ⟨List.forall_mem_cons.mpr ⟨nk_fkc [(3, 209)] (by decide +kernel), fun _ h => absurd h List.not_mem_nil⟩, List.forall_mem_cons.mpr ⟨ca_X6_mark_596 l, List.forall_mem_cons.mpr ⟨ca_X6_mark_358 l, List.forall_mem_cons.mpr ⟨ca_X6_mark_608 l, List.forall_mem_cons.mpr ⟨ca_X6_mark_388 l, List.forall_mem_cons.mpr ⟨ca_X6_mark_896 l, fun _ h => absurd h List.not_mem_nil⟩⟩⟩⟩⟩, fun _ h => absurd h List.not_mem_nil, fun _ h => absurd h List.not_mem_nil, fun _ h => absurd h List.not_mem_nil, fun _ h => absurd h List.not_mem_nil, fun _ h => absurd h List.not_mem_nil, by decide, rfl, rfl⟩ rfl (by decide)
/-! MarbleLawModel.inside(II)I -/
noncomputable def kt_X6_inside : Nat → Option nk_I := fun pc => bif Nat.ble pc 18 then ((fun pc => bif Nat.ble pc 8 then ((fun pc => bif Nat.ble pc 1 then (bif Nat.ble pc 0 then (bif Nat.beq pc 0 then some (.aload_n 0, 1, 1, [], 0) else none)
  else (bif Nat.beq pc 1 then some (.iload_n 1, 1, 2, [], 0) else none))
  else ((fun pc => bif Nat.ble pc 2 then (bif Nat.beq pc 2 then some (.invokevirtual 134, 3, 5, [], 0) else none)
  else (bif Nat.ble pc 5 then (bif Nat.beq pc 5 then some (.ifCond .eq 11, 3, 8, [16], 0) else none)
  else (bif Nat.beq pc 8 then some (.aload_n 0, 1, 9, [], 0) else none))) : nk_F) pc) : nk_F) pc
  else ((fun pc => bif Nat.ble pc 13 then ((fun pc => bif Nat.ble pc 9 then (bif Nat.beq pc 9 then some (.iload_n 2, 1, 10, [], 0) else none)
  else (bif Nat.ble pc 10 then (bif Nat.beq pc 10 then some (.invokevirtual 227, 3, 13, [], 0) else none)
  else (bif Nat.beq pc 13 then some (.ifCond .ne 5, 3, 16, [18], 0) else none))) : nk_F) pc
  else ((fun pc => bif Nat.ble pc 16 then (bif Nat.beq pc 16 then some (.iconst (-1), 1, 17, [], (-1)) else none)
  else (bif Nat.ble pc 17 then (bif Nat.beq pc 17 then some (.ireturn, 1, 18, [], 0) else none)
  else (bif Nat.beq pc 18 then some (.aload_n 0, 1, 19, [], 0) else none))) : nk_F) pc) : nk_F) pc) : nk_F) pc
  else ((fun pc => bif Nat.ble pc 24 then ((fun pc => bif Nat.ble pc 20 then (bif Nat.ble pc 19 then (bif Nat.beq pc 19 then some (.iconst 0, 1, 20, [], 0) else none)
  else (bif Nat.beq pc 20 then some (.iconst 0, 1, 21, [], 0) else none))
  else ((fun pc => bif Nat.ble pc 21 then (bif Nat.beq pc 21 then some (.iload_n 2, 1, 22, [], 0) else none)
  else (bif Nat.ble pc 22 then (bif Nat.beq pc 22 then some (.bipush (-9), 2, 24, [], (-9)) else none)
  else (bif Nat.beq pc 24 then some (.invokevirtual 224, 3, 27, [], 0) else none))) : nk_F) pc) : nk_F) pc
  else ((fun pc => bif Nat.ble pc 29 then ((fun pc => bif Nat.ble pc 27 then (bif Nat.beq pc 27 then some (.pop, 1, 28, [], 0) else none)
  else (bif Nat.ble pc 28 then (bif Nat.beq pc 28 then some (.aload_n 0, 1, 29, [], 0) else none)
  else (bif Nat.beq pc 29 then some (.getfield 41, 3, 32, [], 0) else none))) : nk_F) pc
  else ((fun pc => bif Nat.ble pc 32 then (bif Nat.beq pc 32 then some (.iload_n 1, 1, 33, [], 0) else none)
  else (bif Nat.ble pc 33 then (bif Nat.beq pc 33 then some (.iaload, 1, 34, [], 0) else none)
  else (bif Nat.beq pc 34 then some (.ireturn, 1, 35, [], 0) else none))) : nk_F) pc) : nk_F) pc) : nk_F) pc
noncomputable def kc_X6_inside : Nat → Option nk_I := nk_top 35 kt_X6_inside
noncomputable def kx_X6_inside : nk_T := ([(41, 6, 16, 4)], [(536, 2, 7, 0, 0, ev_X6_isStuff), (908, 2, 7, 0, 0, ev_X6_isMany), (896, 5, 7, 0, 0, ev_X6_goes)], [], [], [], [], [], 1, false, 0, 0)
noncomputable def ev_X6_inside : nk_Ev := fun as h Q => nk_if (Nat.ble (nk_wd as) 3) (nk_ev kx_X6_inside kc_X6_inside 3 as h Q)
set_option maxRecDepth 100000 in
theorem ck_X6_inside : nk_chk cX6_inside kc_X6_inside 35 = true := nd_chk (by decide +kernel) (by decide +kernel)
set_option maxRecDepth 100000 in
set_option maxHeartbeats 4000000 in
theorem ca_X6_inside_536 (l : Launch) : nk_CallOk l { frames := 6, cells := 0, slots := 0, locals := 159 } RX6 cX6_inside 3 false 536 (2, 7, 0, 0, ev_X6_isStuff) := nk_callV (x := 134) (n := 1) (ci := 6) (r := (RX6, TX6, 32)) (mt_X6_isStuff l) rfl (nk_msc [(4, 134), (4, 135), (4, 136), (4, 137), (0, 32), (1, 7)] (by decide +kernel)) rfl rfl (by decide +kernel) ⟨by decide, by decide⟩
set_option maxRecDepth 100000 in
set_option maxHeartbeats 4000000 in
theorem ca_X6_inside_908 (l : Launch) : nk_CallOk l { frames := 6, cells := 0, slots := 0, locals := 159 } RX6 cX6_inside 3 false 908 (2, 7, 0, 0, ev_X6_isMany) := nk_callV (x := 227) (n := 1) (ci := 6) (r := (RX6, TX6, 32)) (mt_X6_isMany l) rfl (nk_msc [(5, 15), (5, 16), (5, 17), (5, 18), (0, 48), (1, 7)] (by decide +kernel)) rfl rfl (by decide +kernel) ⟨by decide, by decide⟩
set_option maxRecDepth 100000 in
set_option maxHeartbeats 4000000 in
theorem ca_X6_inside_896 (l : Launch) : nk_CallOk l { frames := 6, cells := 0, slots := 0, locals := 159 } RX6 cX6_inside 3 false 896 (5, 7, 0, 0, ev_X6_goes) := nk_callV (x := 224) (n := 4) (ci := 6) (r := (RX6, TX6, 32)) (mt_X6_goes l) rfl (nk_msc [(4, 208), (4, 209), (4, 210), (4, 211), (0, 39), (1, 7)] (by decide +kernel)) rfl rfl (by decide +kernel) ⟨by decide, by decide⟩
set_option maxRecDepth 100000 in
set_option maxHeartbeats 4000000 in
theorem mt_X6_inside (l : Launch) : nk_Met l yX6_inside cX6_inside 3 (some .int) { frames := 6, cells := 0, slots := 0, locals := 159 } false 0 0 ev_X6_inside :=
  nk_met nk_gok (plainFor_of_name (by decide)) ck_X6_inside (nk_top_out 35 kt_X6_inside) ⟨List.forall_mem_cons.mpr ⟨nk_fkc [(3, 209)] (by decide +kernel), fun _ h => absurd h List.not_mem_nil⟩, List.forall_mem_cons.mpr ⟨ca_X6_inside_536 l, List.forall_mem_cons.mpr ⟨ca_X6_inside_908 l, List.forall_mem_cons.mpr ⟨ca_X6_inside_896 l, fun _ h => absurd h List.not_mem_nil⟩⟩⟩, fun _ h => absurd h List.not_mem_nil, fun _ h => absurd h List.not_mem_nil, fun _ h => absurd h List.not_mem_nil, fun _ h => absurd h List.not_mem_nil, fun _ h => absurd h List.not_mem_nil, by decide, rfl, rfl⟩ rfl (by decide)
/-! MarbleLawModel.now(III)I -/
noncomputable def kt_X6_now : Nat → Option nk_I := fun pc => bif Nat.ble pc 68 then ((fun pc => bif Nat.ble pc 31 then ((fun pc => bif Nat.ble pc 17 then ((fun pc => bif Nat.ble pc 8 then ((fun pc => bif Nat.ble pc 1 then (bif Nat.ble pc 0 then (bif Nat.beq pc 0 then some (.aload_n 0, 1, 1, [], 0) else none)
  else (bif Nat.beq pc 1 then some (.iload_n 1, 1, 2, [], 0) else none))
  else ((fun pc => bif Nat.ble pc 2 then (bif Nat.beq pc 2 then some (.invokevirtual 134, 3, 5, [], 0) else none)
  else (bif Nat.ble pc 5 then (bif Nat.beq pc 5 then some (.ifCond .eq 20, 3, 8, [25], 0) else none)
  else (bif Nat.beq pc 8 then some (.aload_n 0, 1, 9, [], 0) else none))) : nk_F) pc) : nk_F) pc
  else ((fun pc => bif Nat.ble pc 10 then (bif Nat.ble pc 9 then (bif Nat.beq pc 9 then some (.iload_n 2, 1, 10, [], 0) else none)
  else (bif Nat.beq pc 10 then some (.invokevirtual 227, 3, 13, [], 0) else none))
  else ((fun pc => bif Nat.ble pc 13 then (bif Nat.beq pc 13 then some (.ifCond .eq 12, 3, 16, [25], 0) else none)
  else (bif Nat.ble pc 16 then (bif Nat.beq pc 16 then some (.iload_n 3, 1, 17, [], 0) else none)
  else (bif Nat.beq pc 17 then some (.iconst 0, 1, 18, [], 0) else none))) : nk_F) pc) : nk_F) pc) : nk_F) pc
  else ((fun pc => bif Nat.ble pc 26 then ((fun pc => bif Nat.ble pc 19 then (bif Nat.ble pc 18 then (bif Nat.beq pc 18 then some (.iconst 3, 1, 19, [], 3) else none)
  else (bif Nat.beq pc 19 then some (.invokestatic 89, 3, 22, [], 0) else none))
  else ((fun pc => bif Nat.ble pc 22 then (bif Nat.beq pc 22 then some (.ifCond .ne 5, 3, 25, [27], 0) else none)
  else (bif Nat.ble pc 25 then (bif Nat.beq pc 25 then some (.iconst (-1), 1, 26, [], (-1)) else none)
  else (bif Nat.beq pc 26 then some (.ireturn, 1, 27, [], 0) else none))) : nk_F) pc) : nk_F) pc
  else ((fun pc => bif Nat.ble pc 28 then (bif Nat.ble pc 27 then (bif Nat.beq pc 27 then some (.aload_n 0, 1, 28, [], 0) else none)
  else (bif Nat.beq pc 28 then some (.iconst 0, 1, 29, [], 0) else none))
  else ((fun pc => bif Nat.ble pc 29 then (bif Nat.beq pc 29 then some (.iconst 0, 1, 30, [], 0) else none)
  else (bif Nat.ble pc 30 then (bif Nat.beq pc 30 then some (.iload_n 2, 1, 31, [], 0) else none)
  else (bif Nat.beq pc 31 then some (.bipush (-9), 2, 33, [], (-9)) else none))) : nk_F) pc) : nk_F) pc) : nk_F) pc) : nk_F) pc
  else ((fun pc => bif Nat.ble pc 48 then ((fun pc => bif Nat.ble pc 41 then ((fun pc => bif Nat.ble pc 36 then (bif Nat.ble pc 33 then (bif Nat.beq pc 33 then some (.invokevirtual 224, 3, 36, [], 0) else none)
  else (bif Nat.beq pc 36 then some (.pop, 1, 37, [], 0) else none))
  else ((fun pc => bif Nat.ble pc 37 then (bif Nat.beq pc 37 then some (.aload_n 0, 1, 38, [], 0) else none)
  else (bif Nat.ble pc 38 then (bif Nat.beq pc 38 then some (.getfield 41, 3, 41, [], 0) else none)
  else (bif Nat.beq pc 41 then some (.iload_n 1, 1, 42, [], 0) else none))) : nk_F) pc) : nk_F) pc
  else ((fun pc => bif Nat.ble pc 43 then (bif Nat.ble pc 42 then (bif Nat.beq pc 42 then some (.iaload, 1, 43, [], 0) else none)
  else (bif Nat.beq pc 43 then some (.istore 4, 2, 45, [], 0) else none))
  else ((fun pc => bif Nat.ble pc 45 then (bif Nat.beq pc 45 then some (.iconst 0, 1, 46, [], 0) else none)
  else (bif Nat.ble pc 46 then (bif Nat.beq pc 46 then some (.istore 5, 2, 48, [], 0) else none)
  else (bif Nat.beq pc 48 then some (.iconst 0, 1, 49, [], 0) else none))) : nk_F) pc) : nk_F) pc) : nk_F) pc
  else ((fun pc => bif Nat.ble pc 57 then ((fun pc => bif Nat.ble pc 51 then (bif Nat.ble pc 49 then (bif Nat.beq pc 49 then some (.istore 6, 2, 51, [], 0) else none)
  else (bif Nat.beq pc 51 then some (.iload 6, 2, 53, [], 0) else none))
  else ((fun pc => bif Nat.ble pc 53 then (bif Nat.beq pc 53 then some (.aload_n 0, 1, 54, [], 0) else none)
  else (bif Nat.ble pc 54 then (bif Nat.beq pc 54 then some (.getfield 120, 3, 57, [], 0) else none)
  else (bif Nat.beq pc 57 then some (.if_icmp .ge 41, 3, 60, [98], 0) else none))) : nk_F) pc) : nk_F) pc
  else ((fun pc => bif Nat.ble pc 62 then (bif Nat.ble pc 60 then (bif Nat.beq pc 60 then some (.iload 5, 2, 62, [], 0) else none)
  else (bif Nat.beq pc 62 then some (.aload_n 0, 1, 63, [], 0) else none))
  else ((fun pc => bif Nat.ble pc 63 then (bif Nat.beq pc 63 then some (.getfield 41, 3, 66, [], 0) else none)
  else (bif Nat.ble pc 66 then (bif Nat.beq pc 66 then some (.iload 6, 2, 68, [], 0) else none)
  else (bif Nat.beq pc 68 then some (.iaload, 1, 69, [], 0) else none))) : nk_F) pc) : nk_F) pc) : nk_F) pc) : nk_F) pc) : nk_F) pc
  else ((fun pc => bif Nat.ble pc 103 then ((fun pc => bif Nat.ble pc 84 then ((fun pc => bif Nat.ble pc 78 then ((fun pc => bif Nat.ble pc 71 then (bif Nat.ble pc 69 then (bif Nat.beq pc 69 then some (.iload 4, 2, 71, [], 0) else none)
  else (bif Nat.beq pc 71 then some (.if_icmp .ne 17, 3, 74, [88], 0) else none))
  else ((fun pc => bif Nat.ble pc 74 then (bif Nat.beq pc 74 then some (.aload_n 0, 1, 75, [], 0) else none)
  else (bif Nat.ble pc 75 then (bif Nat.beq pc 75 then some (.getfield 32, 3, 78, [], 0) else none)
  else (bif Nat.beq pc 78 then some (.iconst 5, 1, 79, [], 5) else none))) : nk_F) pc) : nk_F) pc
  else ((fun pc => bif Nat.ble pc 81 then (bif Nat.ble pc 79 then (bif Nat.beq pc 79 then some (.iload 6, 2, 81, [], 0) else none)
  else (bif Nat.beq pc 81 then some (.imul, 1, 82, [], 0) else none))
  else ((fun pc => bif Nat.ble pc 82 then (bif Nat.beq pc 82 then some (.iconst 4, 1, 83, [], 4) else none)
  else (bif Nat.ble pc 83 then (bif Nat.beq pc 83 then some (.iadd, 1, 84, [], 0) else none)
  else (bif Nat.beq pc 84 then some (.iaload, 1, 85, [], 0) else none))) : nk_F) pc) : nk_F) pc) : nk_F) pc
  else ((fun pc => bif Nat.ble pc 92 then ((fun pc => bif Nat.ble pc 88 then (bif Nat.ble pc 85 then (bif Nat.beq pc 85 then some (.goto 4, 3, 88, [89], 0) else none)
  else (bif Nat.beq pc 88 then some (.iconst 0, 1, 89, [], 0) else none))
  else ((fun pc => bif Nat.ble pc 89 then (bif Nat.beq pc 89 then some (.iadd, 1, 90, [], 0) else none)
  else (bif Nat.ble pc 90 then (bif Nat.beq pc 90 then some (.istore 5, 2, 92, [], 0) else none)
  else (bif Nat.beq pc 92 then some (.iinc 6 1, 3, 95, [], 1) else none))) : nk_F) pc) : nk_F) pc
  else ((fun pc => bif Nat.ble pc 98 then (bif Nat.ble pc 95 then (bif Nat.beq pc 95 then some (.goto (-44), 3, 98, [51], 0) else none)
  else (bif Nat.beq pc 98 then some (.iload_n 3, 1, 99, [], 0) else none))
  else ((fun pc => bif Nat.ble pc 99 then (bif Nat.beq pc 99 then some (.ifCond .ne 13, 3, 102, [112], 0) else none)
  else (bif Nat.ble pc 102 then (bif Nat.beq pc 102 then some (.aload_n 0, 1, 103, [], 0) else none)
  else (bif Nat.beq pc 103 then some (.getfield 44, 3, 106, [], 0) else none))) : nk_F) pc) : nk_F) pc) : nk_F) pc) : nk_F) pc
  else ((fun pc => bif Nat.ble pc 123 then ((fun pc => bif Nat.ble pc 113 then ((fun pc => bif Nat.ble pc 108 then (bif Nat.ble pc 106 then (bif Nat.beq pc 106 then some (.iload 4, 2, 108, [], 0) else none)
  else (bif Nat.beq pc 108 then some (.iaload, 1, 109, [], 0) else none))
  else ((fun pc => bif Nat.ble pc 109 then (bif Nat.beq pc 109 then some (.goto 35, 3, 112, [144], 0) else none)
  else (bif Nat.ble pc 112 then (bif Nat.beq pc 112 then some (.iload_n 3, 1, 113, [], 0) else none)
  else (bif Nat.beq pc 113 then some (.iconst 1, 1, 114, [], 1) else none))) : nk_F) pc) : nk_F) pc
  else ((fun pc => bif Nat.ble pc 117 then (bif Nat.ble pc 114 then (bif Nat.beq pc 114 then some (.if_icmp .ne 13, 3, 117, [127], 0) else none)
  else (bif Nat.beq pc 117 then some (.aload_n 0, 1, 118, [], 0) else none))
  else ((fun pc => bif Nat.ble pc 118 then (bif Nat.beq pc 118 then some (.getfield 47, 3, 121, [], 0) else none)
  else (bif Nat.ble pc 121 then (bif Nat.beq pc 121 then some (.iload 4, 2, 123, [], 0) else none)
  else (bif Nat.beq pc 123 then some (.iaload, 1, 124, [], 0) else none))) : nk_F) pc) : nk_F) pc) : nk_F) pc
  else ((fun pc => bif Nat.ble pc 132 then ((fun pc => bif Nat.ble pc 127 then (bif Nat.ble pc 124 then (bif Nat.beq pc 124 then some (.goto 20, 3, 127, [144], 0) else none)
  else (bif Nat.beq pc 127 then some (.iload_n 3, 1, 128, [], 0) else none))
  else ((fun pc => bif Nat.ble pc 128 then (bif Nat.beq pc 128 then some (.iconst 2, 1, 129, [], 2) else none)
  else (bif Nat.ble pc 129 then (bif Nat.beq pc 129 then some (.if_icmp .ne 13, 3, 132, [142], 0) else none)
  else (bif Nat.beq pc 132 then some (.aload_n 0, 1, 133, [], 0) else none))) : nk_F) pc) : nk_F) pc
  else ((fun pc => bif Nat.ble pc 138 then ((fun pc => bif Nat.ble pc 133 then (bif Nat.beq pc 133 then some (.getfield 50, 3, 136, [], 0) else none)
  else (bif Nat.ble pc 136 then (bif Nat.beq pc 136 then some (.iload 4, 2, 138, [], 0) else none)
  else (bif Nat.beq pc 138 then some (.iaload, 1, 139, [], 0) else none))) : nk_F) pc
  else ((fun pc => bif Nat.ble pc 139 then (bif Nat.beq pc 139 then some (.goto 5, 3, 142, [144], 0) else none)
  else (bif Nat.ble pc 142 then (bif Nat.beq pc 142 then some (.iload 5, 2, 144, [], 0) else none)
  else (bif Nat.beq pc 144 then some (.ireturn, 1, 145, [], 0) else none))) : nk_F) pc) : nk_F) pc) : nk_F) pc) : nk_F) pc) : nk_F) pc
noncomputable def kc_X6_now : Nat → Option nk_I := nk_top 145 kt_X6_now
noncomputable def kx_X6_now : nk_T := ([(41, 6, 16, 4), (120, 6, 10, 0), (32, 6, 11, 4), (44, 6, 17, 4), (47, 6, 18, 4), (50, 6, 19, 4)], [(536, 2, 7, 0, 0, ev_X6_isStuff), (908, 2, 7, 0, 0, ev_X6_isMany), (358, 3, 0, 0, 0, ev_X6_in), (896, 5, 7, 0, 0, ev_X6_goes)], [], [], [], [], [], 1, false, 0, 0)
noncomputable def ev_X6_now : nk_Ev := fun as h Q => nk_if (Nat.ble (nk_wd as) 7) (nk_ev kx_X6_now kc_X6_now 7 as h Q)
set_option maxRecDepth 100000 in
theorem ck_X6_now : nk_chk cX6_now kc_X6_now 145 = true := nd_chk (by decide +kernel) (by decide +kernel)
set_option maxRecDepth 100000 in
set_option maxHeartbeats 4000000 in
theorem ca_X6_now_536 (l : Launch) : nk_CallOk l { frames := 6, cells := 0, slots := 0, locals := 159 } RX6 cX6_now 7 false 536 (2, 7, 0, 0, ev_X6_isStuff) := nk_callV (x := 134) (n := 1) (ci := 6) (r := (RX6, TX6, 32)) (mt_X6_isStuff l) rfl (nk_msc [(4, 134), (4, 135), (4, 136), (4, 137), (0, 32), (1, 7)] (by decide +kernel)) rfl rfl (by decide +kernel) ⟨by decide, by decide⟩
set_option maxRecDepth 100000 in
set_option maxHeartbeats 4000000 in
theorem ca_X6_now_908 (l : Launch) : nk_CallOk l { frames := 6, cells := 0, slots := 0, locals := 159 } RX6 cX6_now 7 false 908 (2, 7, 0, 0, ev_X6_isMany) := nk_callV (x := 227) (n := 1) (ci := 6) (r := (RX6, TX6, 32)) (mt_X6_isMany l) rfl (nk_msc [(5, 15), (5, 16), (5, 17), (5, 18), (0, 48), (1, 7)] (by decide +kernel)) rfl rfl (by decide +kernel) ⟨by decide, by decide⟩
set_option maxRecDepth 100000 in
set_option maxHeartbeats 4000000 in
theorem ca_X6_now_358 (l : Launch) : nk_CallOk l { frames := 6, cells := 0, slots := 0, locals := 159 } RX6 cX6_now 7 false 358 (3, 0, 0, 0, ev_X6_in) := nk_callS (x := 89) (n := 3) (mt_X6_in l) (nk_msc [(4, 57), (4, 58), (4, 59), (1, 7)] (by decide +kernel)) rfl rfl (by decide +kernel) ⟨by decide, by decide⟩
set_option maxRecDepth 100000 in
set_option maxHeartbeats 4000000 in
theorem ca_X6_now_896 (l : Launch) : nk_CallOk l { frames := 6, cells := 0, slots := 0, locals := 159 } RX6 cX6_now 7 false 896 (5, 7, 0, 0, ev_X6_goes) := nk_callV (x := 224) (n := 4) (ci := 6) (r := (RX6, TX6, 32)) (mt_X6_goes l) rfl (nk_msc [(4, 208), (4, 209), (4, 210), (4, 211), (0, 39), (1, 7)] (by decide +kernel)) rfl rfl (by decide +kernel) ⟨by decide, by decide⟩
set_option maxRecDepth 100000 in
set_option maxHeartbeats 4000000 in
theorem mt_X6_now (l : Launch) : nk_Met l yX6_now cX6_now 7 (some .int) { frames := 6, cells := 0, slots := 0, locals := 159 } false 0 0 ev_X6_now :=
  nk_met nk_gok (plainFor_of_name (by decide)) ck_X6_now (nk_top_out 145 kt_X6_now) ⟨List.forall_mem_cons.mpr ⟨nk_fkc [(3, 209)] (by decide +kernel), List.forall_mem_cons.mpr ⟨nk_fkc [(3, 203)] (by decide +kernel), List.forall_mem_cons.mpr ⟨nk_fkc [(3, 188), (3, 204)] (by decide +kernel), List.forall_mem_cons.mpr ⟨nk_fkc [(3, 210)] (by decide +kernel), List.forall_mem_cons.mpr ⟨nk_fkc [(3, 211)] (by decide +kernel), List.forall_mem_cons.mpr ⟨nk_fkc [(3, 212)] (by decide +kernel), fun _ h => absurd h List.not_mem_nil⟩⟩⟩⟩⟩⟩, List.forall_mem_cons.mpr ⟨ca_X6_now_536 l, List.forall_mem_cons.mpr ⟨ca_X6_now_908 l, List.forall_mem_cons.mpr ⟨ca_X6_now_358 l, List.forall_mem_cons.mpr ⟨ca_X6_now_896 l, fun _ h => absurd h List.not_mem_nil⟩⟩⟩⟩, fun _ h => absurd h List.not_mem_nil, fun _ h => absurd h List.not_mem_nil, fun _ h => absurd h List.not_mem_nil, fun _ h => absurd h List.not_mem_nil, fun _ h => absurd h List.not_mem_nil, by decide, rfl, rfl⟩ rfl (by decide)
/-! MarbleLawModel.areAnswers(I)Z -/
noncomputable def kt_X6_areAnswers : Nat → Option nk_I := fun pc => bif Nat.ble pc 1 then (bif Nat.ble pc 0 then (bif Nat.beq pc 0 then some (.iload_n 0, 1, 1, [], 0) else none)
  else (bif Nat.beq pc 1 then some (.iconst 0, 1, 2, [], 0) else none))
  else ((fun pc => bif Nat.ble pc 2 then (bif Nat.beq pc 2 then some (.bipush 15, 2, 4, [], 15) else none)
  else (bif Nat.ble pc 4 then (bif Nat.beq pc 4 then some (.invokestatic 89, 3, 7, [], 0) else none)
  else (bif Nat.beq pc 7 then some (.ireturn, 1, 8, [], 0) else none))) : nk_F) pc
noncomputable def kc_X6_areAnswers : Nat → Option nk_I := nk_top 8 kt_X6_areAnswers
noncomputable def kx_X6_areAnswers : nk_T := ([], [(358, 3, 0, 0, 0, ev_X6_in)], [], [], [], [], [], 2, false, 0, 0)
noncomputable def ev_X6_areAnswers : nk_Ev := fun as h Q => nk_if (Nat.ble (nk_wd as) 1) (nk_ev kx_X6_areAnswers kc_X6_areAnswers 1 as h Q)
set_option maxRecDepth 100000 in
theorem ck_X6_areAnswers : nk_chk cX6_areAnswers kc_X6_areAnswers 8 = true := nd_chk (by decide +kernel) (by decide +kernel)
set_option maxRecDepth 100000 in
set_option maxHeartbeats 4000000 in
theorem ca_X6_areAnswers_358 (l : Launch) : nk_CallOk l { frames := 1, cells := 0, slots := 0, locals := 22 } RX6 cX6_areAnswers 1 false 358 (3, 0, 0, 0, ev_X6_in) := nk_callS (x := 89) (n := 3) (mt_X6_in l) (nk_msc [(4, 57), (4, 58), (4, 59), (1, 7)] (by decide +kernel)) rfl rfl (by decide +kernel) ⟨by decide, by decide⟩
set_option maxRecDepth 100000 in
set_option maxHeartbeats 4000000 in
theorem mt_X6_areAnswers (l : Launch) : nk_Met l yX6_areAnswers cX6_areAnswers 1 (some .boolean) { frames := 1, cells := 0, slots := 0, locals := 22 } false 0 0 ev_X6_areAnswers :=
  nk_met nk_gok (plainFor_of_name (by decide)) ck_X6_areAnswers (nk_top_out 8 kt_X6_areAnswers) ⟨fun _ h => absurd h List.not_mem_nil, List.forall_mem_cons.mpr ⟨ca_X6_areAnswers_358 l, fun _ h => absurd h List.not_mem_nil⟩, fun _ h => absurd h List.not_mem_nil, fun _ h => absurd h List.not_mem_nil, fun _ h => absurd h List.not_mem_nil, fun _ h => absurd h List.not_mem_nil, fun _ h => absurd h List.not_mem_nil, by decide, rfl, rfl⟩ rfl (by decide)
/-! MarbleLawModel.partOf(II)J -/
noncomputable def kt_X6_partOf : Nat → Option nk_I := fun pc => bif Nat.ble pc 10 then ((fun pc => bif Nat.ble pc 4 then ((fun pc => bif Nat.ble pc 0 then (bif Nat.beq pc 0 then some (.aload_n 0, 1, 1, [], 0) else none)
  else (bif Nat.ble pc 1 then (bif Nat.beq pc 1 then some (.getfield 53, 3, 4, [], 0) else none)
  else (bif Nat.beq pc 4 then some (.bipush 6, 2, 6, [], 6) else none))) : nk_F) pc
  else ((fun pc => bif Nat.ble pc 6 then (bif Nat.beq pc 6 then some (.aload_n 0, 1, 7, [], 0) else none)
  else (bif Nat.ble pc 7 then (bif Nat.beq pc 7 then some (.getfield 41, 3, 10, [], 0) else none)
  else (bif Nat.beq pc 10 then some (.iload_n 1, 1, 11, [], 0) else none))) : nk_F) pc) : nk_F) pc
  else ((fun pc => bif Nat.ble pc 13 then ((fun pc => bif Nat.ble pc 11 then (bif Nat.beq pc 11 then some (.iaload, 1, 12, [], 0) else none)
  else (bif Nat.ble pc 12 then (bif Nat.beq pc 12 then some (.imul, 1, 13, [], 0) else none)
  else (bif Nat.beq pc 13 then some (.iload_n 2, 1, 14, [], 0) else none))) : nk_F) pc
  else ((fun pc => bif Nat.ble pc 14 then (bif Nat.beq pc 14 then some (.iadd, 1, 15, [], 0) else none)
  else (bif Nat.ble pc 15 then (bif Nat.beq pc 15 then some (.laload, 1, 16, [], 0) else none)
  else (bif Nat.beq pc 16 then some (.lreturn, 1, 17, [], 0) else none))) : nk_F) pc) : nk_F) pc
noncomputable def kc_X6_partOf : Nat → Option nk_I := nk_top 17 kt_X6_partOf
noncomputable def kx_X6_partOf : nk_T := ([(53, 6, 20, 4), (41, 6, 16, 4)], [], [], [], [], [], [], 3, false, 0, 0)
noncomputable def ev_X6_partOf : nk_Ev := fun as h Q => nk_if (Nat.ble (nk_wd as) 3) (nk_ev kx_X6_partOf kc_X6_partOf 3 as h Q)
set_option maxRecDepth 100000 in
theorem ck_X6_partOf : nk_chk cX6_partOf kc_X6_partOf 17 = true := nd_chk (by decide +kernel) (by decide +kernel)
set_option maxRecDepth 100000 in
set_option maxHeartbeats 4000000 in
theorem mt_X6_partOf (l : Launch) : nk_Met l yX6_partOf cX6_partOf 3 (some .long) { frames := 0, cells := 0, slots := 0, locals := 0 } false 0 0 ev_X6_partOf :=
  nk_met nk_gok (plainFor_of_name (by decide)) ck_X6_partOf (nk_top_out 17 kt_X6_partOf) ⟨List.forall_mem_cons.mpr ⟨nk_fkc [(3, 213)] (by decide +kernel), List.forall_mem_cons.mpr ⟨nk_fkc [(3, 209)] (by decide +kernel), fun _ h => absurd h List.not_mem_nil⟩⟩, fun _ h => absurd h List.not_mem_nil, fun _ h => absurd h List.not_mem_nil, fun _ h => absurd h List.not_mem_nil, fun _ h => absurd h List.not_mem_nil, fun _ h => absurd h List.not_mem_nil, fun _ h => absurd h List.not_mem_nil, by decide, rfl, rfl⟩ rfl (by decide)
/-! MarbleLawModel.whose(IIIII)I -/
noncomputable def kt_X6_whose : Nat → Option nk_I := fun pc => bif Nat.ble pc 56 then ((fun pc => bif Nat.ble pc 32 then ((fun pc => bif Nat.ble pc 10 then ((fun pc => bif Nat.ble pc 2 then ((fun pc => bif Nat.ble pc 0 then (bif Nat.beq pc 0 then some (.aload_n 0, 1, 1, [], 0) else none)
  else (bif Nat.ble pc 1 then (bif Nat.beq pc 1 then some (.iload_n 2, 1, 2, [], 0) else none)
  else (bif Nat.beq pc 2 then some (.invokevirtual 134, 3, 5, [], 0) else none))) : nk_F) pc
  else ((fun pc => bif Nat.ble pc 8 then (bif Nat.ble pc 5 then (bif Nat.beq pc 5 then some (.ifCond .eq 27, 3, 8, [32], 0) else none)
  else (bif Nat.beq pc 8 then some (.aload_n 0, 1, 9, [], 0) else none))
  else (bif Nat.ble pc 9 then (bif Nat.beq pc 9 then some (.iload_n 3, 1, 10, [], 0) else none)
  else (bif Nat.beq pc 10 then some (.invokevirtual 227, 3, 13, [], 0) else none))) : nk_F) pc) : nk_F) pc
  else ((fun pc => bif Nat.ble pc 21 then ((fun pc => bif Nat.ble pc 16 then (bif Nat.ble pc 13 then (bif Nat.beq pc 13 then some (.ifCond .eq 19, 3, 16, [32], 0) else none)
  else (bif Nat.beq pc 16 then some (.iload 4, 2, 18, [], 0) else none))
  else (bif Nat.ble pc 18 then (bif Nat.beq pc 18 then some (.invokestatic 230, 3, 21, [], 0) else none)
  else (bif Nat.beq pc 21 then some (.ifCond .eq 11, 3, 24, [32], 0) else none))) : nk_F) pc
  else ((fun pc => bif Nat.ble pc 26 then (bif Nat.ble pc 24 then (bif Nat.beq pc 24 then some (.iload 5, 2, 26, [], 0) else none)
  else (bif Nat.beq pc 26 then some (.invokestatic 123, 3, 29, [], 0) else none))
  else (bif Nat.ble pc 29 then (bif Nat.beq pc 29 then some (.ifCond .ne 5, 3, 32, [34], 0) else none)
  else (bif Nat.beq pc 32 then some (.iconst (-1), 1, 33, [], (-1)) else none))) : nk_F) pc) : nk_F) pc) : nk_F) pc
  else ((fun pc => bif Nat.ble pc 43 then ((fun pc => bif Nat.ble pc 35 then ((fun pc => bif Nat.ble pc 33 then (bif Nat.beq pc 33 then some (.ireturn, 1, 34, [], 0) else none)
  else (bif Nat.ble pc 34 then (bif Nat.beq pc 34 then some (.aload_n 0, 1, 35, [], 0) else none)
  else (bif Nat.beq pc 35 then some (.iload_n 1, 1, 36, [], 0) else none))) : nk_F) pc
  else ((fun pc => bif Nat.ble pc 39 then (bif Nat.ble pc 36 then (bif Nat.beq pc 36 then some (.invokevirtual 176, 3, 39, [], 0) else none)
  else (bif Nat.beq pc 39 then some (.istore 6, 2, 41, [], 0) else none))
  else (bif Nat.ble pc 41 then (bif Nat.beq pc 41 then some (.iload 6, 2, 43, [], 0) else none)
  else (bif Nat.beq pc 43 then some (.ifCond .ge 6, 3, 46, [49], 0) else none))) : nk_F) pc) : nk_F) pc
  else ((fun pc => bif Nat.ble pc 50 then ((fun pc => bif Nat.ble pc 48 then (bif Nat.ble pc 46 then (bif Nat.beq pc 46 then some (.iload 6, 2, 48, [], 0) else none)
  else (bif Nat.beq pc 48 then some (.ireturn, 1, 49, [], 0) else none))
  else (bif Nat.ble pc 49 then (bif Nat.beq pc 49 then some (.aload_n 0, 1, 50, [], 0) else none)
  else (bif Nat.beq pc 50 then some (.aload_n 0, 1, 51, [], 0) else none))) : nk_F) pc
  else ((fun pc => bif Nat.ble pc 54 then (bif Nat.ble pc 51 then (bif Nat.beq pc 51 then some (.getfield 38, 3, 54, [], 0) else none)
  else (bif Nat.beq pc 54 then some (.iload_n 1, 1, 55, [], 0) else none))
  else (bif Nat.ble pc 55 then (bif Nat.beq pc 55 then some (.iaload, 1, 56, [], 0) else none)
  else (bif Nat.beq pc 56 then some (.iload 4, 2, 58, [], 0) else none))) : nk_F) pc) : nk_F) pc) : nk_F) pc) : nk_F) pc
  else ((fun pc => bif Nat.ble pc 83 then ((fun pc => bif Nat.ble pc 69 then ((fun pc => bif Nat.ble pc 61 then ((fun pc => bif Nat.ble pc 58 then (bif Nat.beq pc 58 then some (.iload_n 3, 1, 59, [], 0) else none)
  else (bif Nat.ble pc 59 then (bif Nat.beq pc 59 then some (.bipush (-9), 2, 61, [], (-9)) else none)
  else (bif Nat.beq pc 61 then some (.invokevirtual 224, 3, 64, [], 0) else none))) : nk_F) pc
  else ((fun pc => bif Nat.ble pc 67 then (bif Nat.ble pc 64 then (bif Nat.beq pc 64 then some (.ifCond .ne 9, 3, 67, [73], 0) else none)
  else (bif Nat.beq pc 67 then some (.aload_n 0, 1, 68, [], 0) else none))
  else (bif Nat.ble pc 68 then (bif Nat.beq pc 68 then some (.iconst 5, 1, 69, [], 5) else none)
  else (bif Nat.beq pc 69 then some (.invokevirtual 97, 3, 72, [], 0) else none))) : nk_F) pc) : nk_F) pc
  else ((fun pc => bif Nat.ble pc 75 then ((fun pc => bif Nat.ble pc 73 then (bif Nat.ble pc 72 then (bif Nat.beq pc 72 then some (.ireturn, 1, 73, [], 0) else none)
  else (bif Nat.beq pc 73 then some (.aload_n 0, 1, 74, [], 0) else none))
  else (bif Nat.ble pc 74 then (bif Nat.beq pc 74 then some (.iload_n 2, 1, 75, [], 0) else none)
  else (bif Nat.beq pc 75 then some (.iload 5, 2, 77, [], 0) else none))) : nk_F) pc
  else ((fun pc => bif Nat.ble pc 80 then (bif Nat.ble pc 77 then (bif Nat.beq pc 77 then some (.invokevirtual 233, 3, 80, [], 0) else none)
  else (bif Nat.beq pc 80 then some (.lstore 7, 2, 82, [], 0) else none))
  else (bif Nat.ble pc 82 then (bif Nat.beq pc 82 then some (.aload_n 0, 1, 83, [], 0) else none)
  else (bif Nat.beq pc 83 then some (.lload 7, 2, 85, [], 0) else none))) : nk_F) pc) : nk_F) pc) : nk_F) pc
  else ((fun pc => bif Nat.ble pc 96 then ((fun pc => bif Nat.ble pc 90 then ((fun pc => bif Nat.ble pc 86 then (bif Nat.ble pc 85 then (bif Nat.beq pc 85 then some (.aload_n 0, 1, 86, [], 0) else none)
  else (bif Nat.beq pc 86 then some (.getfield 57, 3, 89, [], 0) else none))
  else (bif Nat.ble pc 89 then (bif Nat.beq pc 89 then some (.aload_n 0, 1, 90, [], 0) else none)
  else (bif Nat.beq pc 90 then some (.getfield 41, 3, 93, [], 0) else none))) : nk_F) pc
  else ((fun pc => bif Nat.ble pc 94 then (bif Nat.ble pc 93 then (bif Nat.beq pc 93 then some (.iload_n 2, 1, 94, [], 0) else none)
  else (bif Nat.beq pc 94 then some (.iaload, 1, 95, [], 0) else none))
  else (bif Nat.ble pc 95 then (bif Nat.beq pc 95 then some (.laload, 1, 96, [], 0) else none)
  else (bif Nat.beq pc 96 then some (.lload 7, 2, 98, [], 0) else none))) : nk_F) pc) : nk_F) pc
  else ((fun pc => bif Nat.ble pc 103 then ((fun pc => bif Nat.ble pc 99 then (bif Nat.ble pc 98 then (bif Nat.beq pc 98 then some (.lconst 0, 1, 99, [], 0) else none)
  else (bif Nat.beq pc 99 then some (.lcmp, 1, 100, [], 0) else none))
  else (bif Nat.ble pc 100 then (bif Nat.beq pc 100 then some (.ifCond .le 7, 3, 103, [107], 0) else none)
  else (bif Nat.beq pc 103 then some (.iconst 1, 1, 104, [], 1) else none))) : nk_F) pc
  else ((fun pc => bif Nat.ble pc 107 then (bif Nat.ble pc 104 then (bif Nat.beq pc 104 then some (.goto 4, 3, 107, [108], 0) else none)
  else (bif Nat.beq pc 107 then some (.iconst 0, 1, 108, [], 0) else none))
  else (bif Nat.ble pc 108 then (bif Nat.beq pc 108 then some (.invokevirtual 237, 3, 111, [], 0) else none)
  else (bif Nat.beq pc 111 then some (.ireturn, 1, 112, [], 0) else none))) : nk_F) pc) : nk_F) pc) : nk_F) pc) : nk_F) pc
noncomputable def kc_X6_whose : Nat → Option nk_I := nk_top 112 kt_X6_whose
noncomputable def kx_X6_whose : nk_T := ([(38, 6, 14, 4), (57, 6, 21, 4), (41, 6, 16, 4)], [(536, 2, 7, 0, 0, ev_X6_isStuff), (908, 2, 7, 0, 0, ev_X6_isMany), (922, 1, 0, 0, 0, ev_X6_areAnswers), (494, 1, 0, 0, 0, ev_X6_isPerson), (704, 2, 7, 0, 0, ev_X6_askedLaws), (896, 5, 7, 0, 0, ev_X6_goes), (388, 2, 7, 0, 0, ev_X6_meets), (932, 3, 7, 0, 0, ev_X6_partOf), (948, 4, 7, 0, 0, ev_X6_share)], [], [], [], [], [], 1, false, 0, 0)
noncomputable def ev_X6_whose : nk_Ev := fun as h Q => nk_if (Nat.ble (nk_wd as) 9) (nk_ev kx_X6_whose kc_X6_whose 9 as h Q)
set_option maxRecDepth 100000 in
theorem ck_X6_whose : nk_chk cX6_whose kc_X6_whose 112 = true := nd_chk (by decide +kernel) (by decide +kernel)
set_option maxRecDepth 100000 in
set_option maxHeartbeats 4000000 in
theorem ca_X6_whose_536 (l : Launch) : nk_CallOk l { frames := 6, cells := 0, slots := 0, locals := 159 } RX6 cX6_whose 9 false 536 (2, 7, 0, 0, ev_X6_isStuff) := nk_callV (x := 134) (n := 1) (ci := 6) (r := (RX6, TX6, 32)) (mt_X6_isStuff l) rfl (nk_msc [(4, 134), (4, 135), (4, 136), (4, 137), (0, 32), (1, 7)] (by decide +kernel)) rfl rfl (by decide +kernel) ⟨by decide, by decide⟩
set_option maxRecDepth 100000 in
set_option maxHeartbeats 4000000 in
theorem ca_X6_whose_908 (l : Launch) : nk_CallOk l { frames := 6, cells := 0, slots := 0, locals := 159 } RX6 cX6_whose 9 false 908 (2, 7, 0, 0, ev_X6_isMany) := nk_callV (x := 227) (n := 1) (ci := 6) (r := (RX6, TX6, 32)) (mt_X6_isMany l) rfl (nk_msc [(5, 15), (5, 16), (5, 17), (5, 18), (0, 48), (1, 7)] (by decide +kernel)) rfl rfl (by decide +kernel) ⟨by decide, by decide⟩
set_option maxRecDepth 100000 in
set_option maxHeartbeats 4000000 in
theorem ca_X6_whose_922 (l : Launch) : nk_CallOk l { frames := 6, cells := 0, slots := 0, locals := 159 } RX6 cX6_whose 9 false 922 (1, 0, 0, 0, ev_X6_areAnswers) := nk_callS (x := 230) (n := 1) (mt_X6_areAnswers l) (nk_msc [(5, 27), (5, 28), (5, 29), (1, 7)] (by decide +kernel)) rfl rfl (by decide +kernel) ⟨by decide, by decide⟩
set_option maxRecDepth 100000 in
set_option maxHeartbeats 4000000 in
theorem ca_X6_whose_494 (l : Launch) : nk_CallOk l { frames := 6, cells := 0, slots := 0, locals := 159 } RX6 cX6_whose 9 false 494 (1, 0, 0, 0, ev_X6_isPerson) := nk_callS (x := 123) (n := 1) (mt_X6_isPerson l) (nk_msc [(4, 119), (4, 120), (4, 121), (1, 7)] (by decide +kernel)) rfl rfl (by decide +kernel) ⟨by decide, by decide⟩
set_option maxRecDepth 100000 in
set_option maxHeartbeats 4000000 in
theorem ca_X6_whose_704 (l : Launch) : nk_CallOk l { frames := 6, cells := 0, slots := 0, locals := 159 } RX6 cX6_whose 9 false 704 (2, 7, 0, 0, ev_X6_askedLaws) := nk_callV (x := 176) (n := 1) (ci := 6) (r := (RX6, TX6, 32)) (mt_X6_askedLaws l) rfl (nk_msc [(4, 200), (4, 201), (4, 202), (4, 203), (0, 38), (1, 7)] (by decide +kernel)) rfl rfl (by decide +kernel) ⟨by decide, by decide⟩
set_option maxRecDepth 100000 in
set_option maxHeartbeats 4000000 in
theorem ca_X6_whose_896 (l : Launch) : nk_CallOk l { frames := 6, cells := 0, slots := 0, locals := 159 } RX6 cX6_whose 9 false 896 (5, 7, 0, 0, ev_X6_goes) := nk_callV (x := 224) (n := 4) (ci := 6) (r := (RX6, TX6, 32)) (mt_X6_goes l) rfl (nk_msc [(4, 208), (4, 209), (4, 210), (4, 211), (0, 39), (1, 7)] (by decide +kernel)) rfl rfl (by decide +kernel) ⟨by decide, by decide⟩
set_option maxRecDepth 100000 in
set_option maxHeartbeats 4000000 in
theorem ca_X6_whose_388 (l : Launch) : nk_CallOk l { frames := 6, cells := 0, slots := 0, locals := 159 } RX6 cX6_whose 9 false 388 (2, 7, 0, 0, ev_X6_meets) := nk_callV (x := 97) (n := 1) (ci := 6) (r := (RX6, TX6, 32)) (mt_X6_meets l) rfl (nk_msc [(4, 60), (4, 61), (4, 62), (4, 63), (0, 26), (1, 7)] (by decide +kernel)) rfl rfl (by decide +kernel) ⟨by decide, by decide⟩
set_option maxRecDepth 100000 in
set_option maxHeartbeats 4000000 in
theorem ca_X6_whose_932 (l : Launch) : nk_CallOk l { frames := 6, cells := 0, slots := 0, locals := 159 } RX6 cX6_whose 9 false 932 (3, 7, 0, 0, ev_X6_partOf) := nk_callV (x := 233) (n := 2) (ci := 6) (r := (RX6, TX6, 32)) (mt_X6_partOf l) rfl (nk_msc [(5, 30), (5, 31), (5, 32), (5, 33), (0, 49), (1, 7)] (by decide +kernel)) rfl rfl (by decide +kernel) ⟨by decide, by decide⟩
set_option maxRecDepth 100000 in
set_option maxHeartbeats 4000000 in
theorem ca_X6_whose_948 (l : Launch) : nk_CallOk l { frames := 6, cells := 0, slots := 0, locals := 159 } RX6 cX6_whose 9 false 948 (4, 7, 0, 0, ev_X6_share) := nk_callV (x := 237) (n := 3) (ci := 6) (r := (RX6, TX6, 32)) (mt_X6_share l) rfl (nk_msc [(5, 34), (5, 35), (5, 36), (5, 37), (0, 50), (1, 7)] (by decide +kernel)) rfl rfl (by decide +kernel) ⟨by decide, by decide⟩
set_option maxRecDepth 100000 in
set_option maxHeartbeats 4000000 in
theorem mt_X6_whose (l : Launch) : nk_Met l yX6_whose cX6_whose 9 (some .int) { frames := 6, cells := 0, slots := 0, locals := 159 } false 0 0 ev_X6_whose :=
  nk_met nk_gok (plainFor_of_name (by decide)) ck_X6_whose (nk_top_out 112 kt_X6_whose) ⟨List.forall_mem_cons.mpr ⟨nk_fkc [(3, 207)] (by decide +kernel), List.forall_mem_cons.mpr ⟨nk_fkc [(3, 214)] (by decide +kernel), List.forall_mem_cons.mpr ⟨nk_fkc [(3, 209)] (by decide +kernel), fun _ h => absurd h List.not_mem_nil⟩⟩⟩, List.forall_mem_cons.mpr ⟨ca_X6_whose_536 l, List.forall_mem_cons.mpr ⟨ca_X6_whose_908 l, List.forall_mem_cons.mpr ⟨ca_X6_whose_922 l, List.forall_mem_cons.mpr ⟨ca_X6_whose_494 l, List.forall_mem_cons.mpr ⟨ca_X6_whose_704 l, List.forall_mem_cons.mpr ⟨ca_X6_whose_896 l, List.forall_mem_cons.mpr ⟨ca_X6_whose_388 l, List.forall_mem_cons.mpr ⟨ca_X6_whose_932 l, List.forall_mem_cons.mpr ⟨ca_X6_whose_948 l, fun _ h => absurd h List.not_mem_nil⟩⟩⟩⟩⟩⟩⟩⟩⟩, fun _ h => absurd h List.not_mem_nil, fun _ h => absurd h List.not_mem_nil, fun _ h => absurd h List.not_mem_nil, fun _ h => absurd h List.not_mem_nil, fun _ h => absurd h List.not_mem_nil, by decide, rfl, rfl⟩ rfl (by decide)
/-! MarbleLawModel.ownersOf(I)I -/
noncomputable def kt_X6_ownersOf : Nat → Option nk_I := fun pc => bif Nat.ble pc 17 then ((fun pc => bif Nat.ble pc 5 then ((fun pc => bif Nat.ble pc 2 then ((fun pc => bif Nat.ble pc 0 then (bif Nat.beq pc 0 then some (.iconst 0, 1, 1, [], 0) else none)
  else (bif Nat.ble pc 1 then (bif Nat.beq pc 1 then some (.istore_n 2, 1, 2, [], 0) else none)
  else (bif Nat.beq pc 2 then some (.iconst 0, 1, 3, [], 0) else none))) : nk_F) pc
  else ((fun pc => bif Nat.ble pc 3 then (bif Nat.beq pc 3 then some (.istore_n 3, 1, 4, [], 0) else none)
  else (bif Nat.ble pc 4 then (bif Nat.beq pc 4 then some (.iload_n 3, 1, 5, [], 0) else none)
  else (bif Nat.beq pc 5 then some (.bipush 6, 2, 7, [], 6) else none))) : nk_F) pc) : nk_F) pc
  else ((fun pc => bif Nat.ble pc 11 then ((fun pc => bif Nat.ble pc 7 then (bif Nat.beq pc 7 then some (.if_icmp .ge 30, 3, 10, [37], 0) else none)
  else (bif Nat.ble pc 10 then (bif Nat.beq pc 10 then some (.iload_n 2, 1, 11, [], 0) else none)
  else (bif Nat.beq pc 11 then some (.aload_n 0, 1, 12, [], 0) else none))) : nk_F) pc
  else ((fun pc => bif Nat.ble pc 13 then (bif Nat.ble pc 12 then (bif Nat.beq pc 12 then some (.iload_n 1, 1, 13, [], 0) else none)
  else (bif Nat.beq pc 13 then some (.iload_n 3, 1, 14, [], 0) else none))
  else (bif Nat.ble pc 14 then (bif Nat.beq pc 14 then some (.invokevirtual 233, 3, 17, [], 0) else none)
  else (bif Nat.beq pc 17 then some (.lconst 0, 1, 18, [], 0) else none))) : nk_F) pc) : nk_F) pc) : nk_F) pc
  else ((fun pc => bif Nat.ble pc 25 then ((fun pc => bif Nat.ble pc 22 then ((fun pc => bif Nat.ble pc 18 then (bif Nat.beq pc 18 then some (.lcmp, 1, 19, [], 0) else none)
  else (bif Nat.ble pc 19 then (bif Nat.beq pc 19 then some (.ifCond .le 9, 3, 22, [28], 0) else none)
  else (bif Nat.beq pc 22 then some (.iconst 1, 1, 23, [], 1) else none))) : nk_F) pc
  else ((fun pc => bif Nat.ble pc 23 then (bif Nat.beq pc 23 then some (.iload_n 3, 1, 24, [], 0) else none)
  else (bif Nat.ble pc 24 then (bif Nat.beq pc 24 then some (.ishl, 1, 25, [], 0) else none)
  else (bif Nat.beq pc 25 then some (.goto 4, 3, 28, [29], 0) else none))) : nk_F) pc) : nk_F) pc
  else ((fun pc => bif Nat.ble pc 30 then ((fun pc => bif Nat.ble pc 28 then (bif Nat.beq pc 28 then some (.iconst 0, 1, 29, [], 0) else none)
  else (bif Nat.ble pc 29 then (bif Nat.beq pc 29 then some (.ior, 1, 30, [], 0) else none)
  else (bif Nat.beq pc 30 then some (.istore_n 2, 1, 31, [], 0) else none))) : nk_F) pc
  else ((fun pc => bif Nat.ble pc 34 then (bif Nat.ble pc 31 then (bif Nat.beq pc 31 then some (.iinc 3 1, 3, 34, [], 1) else none)
  else (bif Nat.beq pc 34 then some (.goto (-30), 3, 37, [4], 0) else none))
  else (bif Nat.ble pc 37 then (bif Nat.beq pc 37 then some (.iload_n 2, 1, 38, [], 0) else none)
  else (bif Nat.beq pc 38 then some (.ireturn, 1, 39, [], 0) else none))) : nk_F) pc) : nk_F) pc) : nk_F) pc
noncomputable def kc_X6_ownersOf : Nat → Option nk_I := nk_top 39 kt_X6_ownersOf
noncomputable def kx_X6_ownersOf : nk_T := ([], [(932, 3, 7, 0, 0, ev_X6_partOf)], [], [], [], [], [], 1, false, 0, 0)
noncomputable def ev_X6_ownersOf : nk_Ev := fun as h Q => nk_if (Nat.ble (nk_wd as) 4) (nk_ev kx_X6_ownersOf kc_X6_ownersOf 4 as h Q)
set_option maxRecDepth 100000 in
theorem ck_X6_ownersOf : nk_chk cX6_ownersOf kc_X6_ownersOf 39 = true := nd_chk (by decide +kernel) (by decide +kernel)
set_option maxRecDepth 100000 in
set_option maxHeartbeats 4000000 in
theorem ca_X6_ownersOf_932 (l : Launch) : nk_CallOk l { frames := 1, cells := 0, slots := 0, locals := 22 } RX6 cX6_ownersOf 4 false 932 (3, 7, 0, 0, ev_X6_partOf) := nk_callV (x := 233) (n := 2) (ci := 6) (r := (RX6, TX6, 32)) (mt_X6_partOf l) rfl (nk_msc [(5, 30), (5, 31), (5, 32), (5, 33), (0, 49), (1, 7)] (by decide +kernel)) rfl rfl (by decide +kernel) ⟨by decide, by decide⟩
set_option maxRecDepth 100000 in
set_option maxHeartbeats 4000000 in
theorem mt_X6_ownersOf (l : Launch) : nk_Met l yX6_ownersOf cX6_ownersOf 4 (some .int) { frames := 1, cells := 0, slots := 0, locals := 22 } false 0 0 ev_X6_ownersOf :=
  nk_met nk_gok (plainFor_of_name (by decide)) ck_X6_ownersOf (nk_top_out 39 kt_X6_ownersOf) ⟨fun _ h => absurd h List.not_mem_nil, List.forall_mem_cons.mpr ⟨ca_X6_ownersOf_932 l, fun _ h => absurd h List.not_mem_nil⟩, fun _ h => absurd h List.not_mem_nil, fun _ h => absurd h List.not_mem_nil, fun _ h => absurd h List.not_mem_nil, fun _ h => absurd h List.not_mem_nil, fun _ h => absurd h List.not_mem_nil, by decide, rfl, rfl⟩ rfl (by decide)
/-! MarbleLawModel.owners(IIII)I -/
noncomputable def kt_X6_owners : Nat → Option nk_I := fun pc => bif Nat.ble pc 35 then ((fun pc => bif Nat.ble pc 16 then ((fun pc => bif Nat.ble pc 5 then ((fun pc => bif Nat.ble pc 1 then (bif Nat.ble pc 0 then (bif Nat.beq pc 0 then some (.aload_n 0, 1, 1, [], 0) else none)
  else (bif Nat.beq pc 1 then some (.iload_n 2, 1, 2, [], 0) else none))
  else (bif Nat.ble pc 2 then (bif Nat.beq pc 2 then some (.invokevirtual 134, 3, 5, [], 0) else none)
  else (bif Nat.beq pc 5 then some (.ifCond .eq 19, 3, 8, [24], 0) else none))) : nk_F) pc
  else ((fun pc => bif Nat.ble pc 9 then (bif Nat.ble pc 8 then (bif Nat.beq pc 8 then some (.aload_n 0, 1, 9, [], 0) else none)
  else (bif Nat.beq pc 9 then some (.iload_n 3, 1, 10, [], 0) else none))
  else ((fun pc => bif Nat.ble pc 10 then (bif Nat.beq pc 10 then some (.invokevirtual 227, 3, 13, [], 0) else none)
  else (bif Nat.ble pc 13 then (bif Nat.beq pc 13 then some (.ifCond .eq 11, 3, 16, [24], 0) else none)
  else (bif Nat.beq pc 16 then some (.iload 4, 2, 18, [], 0) else none))) : nk_F) pc) : nk_F) pc) : nk_F) pc
  else ((fun pc => bif Nat.ble pc 26 then ((fun pc => bif Nat.ble pc 21 then (bif Nat.ble pc 18 then (bif Nat.beq pc 18 then some (.invokestatic 230, 3, 21, [], 0) else none)
  else (bif Nat.beq pc 21 then some (.ifCond .ne 5, 3, 24, [26], 0) else none))
  else ((fun pc => bif Nat.ble pc 24 then (bif Nat.beq pc 24 then some (.iconst (-1), 1, 25, [], (-1)) else none)
  else (bif Nat.ble pc 25 then (bif Nat.beq pc 25 then some (.ireturn, 1, 26, [], 0) else none)
  else (bif Nat.beq pc 26 then some (.aload_n 0, 1, 27, [], 0) else none))) : nk_F) pc) : nk_F) pc
  else ((fun pc => bif Nat.ble pc 28 then (bif Nat.ble pc 27 then (bif Nat.beq pc 27 then some (.iload_n 1, 1, 28, [], 0) else none)
  else (bif Nat.beq pc 28 then some (.invokevirtual 176, 3, 31, [], 0) else none))
  else ((fun pc => bif Nat.ble pc 31 then (bif Nat.beq pc 31 then some (.istore 5, 2, 33, [], 0) else none)
  else (bif Nat.ble pc 33 then (bif Nat.beq pc 33 then some (.iload 5, 2, 35, [], 0) else none)
  else (bif Nat.beq pc 35 then some (.ifCond .ge 6, 3, 38, [41], 0) else none))) : nk_F) pc) : nk_F) pc) : nk_F) pc) : nk_F) pc
  else ((fun pc => bif Nat.ble pc 51 then ((fun pc => bif Nat.ble pc 43 then ((fun pc => bif Nat.ble pc 40 then (bif Nat.ble pc 38 then (bif Nat.beq pc 38 then some (.iload 5, 2, 40, [], 0) else none)
  else (bif Nat.beq pc 40 then some (.ireturn, 1, 41, [], 0) else none))
  else ((fun pc => bif Nat.ble pc 41 then (bif Nat.beq pc 41 then some (.aload_n 0, 1, 42, [], 0) else none)
  else (bif Nat.ble pc 42 then (bif Nat.beq pc 42 then some (.aload_n 0, 1, 43, [], 0) else none)
  else (bif Nat.beq pc 43 then some (.getfield 38, 3, 46, [], 0) else none))) : nk_F) pc) : nk_F) pc
  else ((fun pc => bif Nat.ble pc 47 then (bif Nat.ble pc 46 then (bif Nat.beq pc 46 then some (.iload_n 1, 1, 47, [], 0) else none)
  else (bif Nat.beq pc 47 then some (.iaload, 1, 48, [], 0) else none))
  else ((fun pc => bif Nat.ble pc 48 then (bif Nat.beq pc 48 then some (.iload 4, 2, 50, [], 0) else none)
  else (bif Nat.ble pc 50 then (bif Nat.beq pc 50 then some (.iload_n 3, 1, 51, [], 0) else none)
  else (bif Nat.beq pc 51 then some (.bipush (-9), 2, 53, [], (-9)) else none))) : nk_F) pc) : nk_F) pc) : nk_F) pc
  else ((fun pc => bif Nat.ble pc 61 then ((fun pc => bif Nat.ble pc 56 then (bif Nat.ble pc 53 then (bif Nat.beq pc 53 then some (.invokevirtual 224, 3, 56, [], 0) else none)
  else (bif Nat.beq pc 56 then some (.ifCond .eq 11, 3, 59, [67], 0) else none))
  else ((fun pc => bif Nat.ble pc 59 then (bif Nat.beq pc 59 then some (.aload_n 0, 1, 60, [], 0) else none)
  else (bif Nat.ble pc 60 then (bif Nat.beq pc 60 then some (.iload_n 2, 1, 61, [], 0) else none)
  else (bif Nat.beq pc 61 then some (.invokevirtual 241, 3, 64, [], 0) else none))) : nk_F) pc) : nk_F) pc
  else ((fun pc => bif Nat.ble pc 67 then (bif Nat.ble pc 64 then (bif Nat.beq pc 64 then some (.goto 8, 3, 67, [72], 0) else none)
  else (bif Nat.beq pc 67 then some (.aload_n 0, 1, 68, [], 0) else none))
  else ((fun pc => bif Nat.ble pc 68 then (bif Nat.beq pc 68 then some (.iconst 5, 1, 69, [], 5) else none)
  else (bif Nat.ble pc 69 then (bif Nat.beq pc 69 then some (.invokevirtual 97, 3, 72, [], 0) else none)
  else (bif Nat.beq pc 72 then some (.ireturn, 1, 73, [], 0) else none))) : nk_F) pc) : nk_F) pc) : nk_F) pc) : nk_F) pc
noncomputable def kc_X6_owners : Nat → Option nk_I := nk_top 73 kt_X6_owners
noncomputable def kx_X6_owners : nk_T := ([(38, 6, 14, 4)], [(536, 2, 7, 0, 0, ev_X6_isStuff), (908, 2, 7, 0, 0, ev_X6_isMany), (922, 1, 0, 0, 0, ev_X6_areAnswers), (704, 2, 7, 0, 0, ev_X6_askedLaws), (896, 5, 7, 0, 0, ev_X6_goes), (964, 2, 7, 0, 0, ev_X6_ownersOf), (388, 2, 7, 0, 0, ev_X6_meets)], [], [], [], [], [], 1, false, 0, 0)
noncomputable def ev_X6_owners : nk_Ev := fun as h Q => nk_if (Nat.ble (nk_wd as) 6) (nk_ev kx_X6_owners kc_X6_owners 6 as h Q)
set_option maxRecDepth 100000 in
theorem ck_X6_owners : nk_chk cX6_owners kc_X6_owners 73 = true := nd_chk (by decide +kernel) (by decide +kernel)
set_option maxRecDepth 100000 in
set_option maxHeartbeats 4000000 in
theorem ca_X6_owners_536 (l : Launch) : nk_CallOk l { frames := 6, cells := 0, slots := 0, locals := 159 } RX6 cX6_owners 6 false 536 (2, 7, 0, 0, ev_X6_isStuff) := nk_callV (x := 134) (n := 1) (ci := 6) (r := (RX6, TX6, 32)) (mt_X6_isStuff l) rfl (nk_msc [(4, 134), (4, 135), (4, 136), (4, 137), (0, 32), (1, 7)] (by decide +kernel)) rfl rfl (by decide +kernel) ⟨by decide, by decide⟩
set_option maxRecDepth 100000 in
set_option maxHeartbeats 4000000 in
theorem ca_X6_owners_908 (l : Launch) : nk_CallOk l { frames := 6, cells := 0, slots := 0, locals := 159 } RX6 cX6_owners 6 false 908 (2, 7, 0, 0, ev_X6_isMany) := nk_callV (x := 227) (n := 1) (ci := 6) (r := (RX6, TX6, 32)) (mt_X6_isMany l) rfl (nk_msc [(5, 15), (5, 16), (5, 17), (5, 18), (0, 48), (1, 7)] (by decide +kernel)) rfl rfl (by decide +kernel) ⟨by decide, by decide⟩
set_option maxRecDepth 100000 in
set_option maxHeartbeats 4000000 in
theorem ca_X6_owners_922 (l : Launch) : nk_CallOk l { frames := 6, cells := 0, slots := 0, locals := 159 } RX6 cX6_owners 6 false 922 (1, 0, 0, 0, ev_X6_areAnswers) := nk_callS (x := 230) (n := 1) (mt_X6_areAnswers l) (nk_msc [(5, 27), (5, 28), (5, 29), (1, 7)] (by decide +kernel)) rfl rfl (by decide +kernel) ⟨by decide, by decide⟩
set_option maxRecDepth 100000 in
set_option maxHeartbeats 4000000 in
theorem ca_X6_owners_704 (l : Launch) : nk_CallOk l { frames := 6, cells := 0, slots := 0, locals := 159 } RX6 cX6_owners 6 false 704 (2, 7, 0, 0, ev_X6_askedLaws) := nk_callV (x := 176) (n := 1) (ci := 6) (r := (RX6, TX6, 32)) (mt_X6_askedLaws l) rfl (nk_msc [(4, 200), (4, 201), (4, 202), (4, 203), (0, 38), (1, 7)] (by decide +kernel)) rfl rfl (by decide +kernel) ⟨by decide, by decide⟩
set_option maxRecDepth 100000 in
set_option maxHeartbeats 4000000 in
theorem ca_X6_owners_896 (l : Launch) : nk_CallOk l { frames := 6, cells := 0, slots := 0, locals := 159 } RX6 cX6_owners 6 false 896 (5, 7, 0, 0, ev_X6_goes) := nk_callV (x := 224) (n := 4) (ci := 6) (r := (RX6, TX6, 32)) (mt_X6_goes l) rfl (nk_msc [(4, 208), (4, 209), (4, 210), (4, 211), (0, 39), (1, 7)] (by decide +kernel)) rfl rfl (by decide +kernel) ⟨by decide, by decide⟩
set_option maxRecDepth 100000 in
set_option maxHeartbeats 4000000 in
theorem ca_X6_owners_964 (l : Launch) : nk_CallOk l { frames := 6, cells := 0, slots := 0, locals := 159 } RX6 cX6_owners 6 false 964 (2, 7, 0, 0, ev_X6_ownersOf) := nk_callV (x := 241) (n := 1) (ci := 6) (r := (RX6, TX6, 32)) (mt_X6_ownersOf l) rfl (nk_msc [(5, 42), (5, 43), (5, 44), (5, 45), (0, 51), (1, 7)] (by decide +kernel)) rfl rfl (by decide +kernel) ⟨by decide, by decide⟩
set_option maxRecDepth 100000 in
set_option maxHeartbeats 4000000 in
theorem ca_X6_owners_388 (l : Launch) : nk_CallOk l { frames := 6, cells := 0, slots := 0, locals := 159 } RX6 cX6_owners 6 false 388 (2, 7, 0, 0, ev_X6_meets) := nk_callV (x := 97) (n := 1) (ci := 6) (r := (RX6, TX6, 32)) (mt_X6_meets l) rfl (nk_msc [(4, 60), (4, 61), (4, 62), (4, 63), (0, 26), (1, 7)] (by decide +kernel)) rfl rfl (by decide +kernel) ⟨by decide, by decide⟩
set_option maxRecDepth 100000 in
set_option maxHeartbeats 4000000 in
theorem mt_X6_owners (l : Launch) : nk_Met l yX6_owners cX6_owners 6 (some .int) { frames := 6, cells := 0, slots := 0, locals := 159 } false 0 0 ev_X6_owners :=
  nk_met nk_gok (plainFor_of_name (by decide)) ck_X6_owners (nk_top_out 73 kt_X6_owners) ⟨List.forall_mem_cons.mpr ⟨nk_fkc [(3, 207)] (by decide +kernel), fun _ h => absurd h List.not_mem_nil⟩, List.forall_mem_cons.mpr ⟨ca_X6_owners_536 l, List.forall_mem_cons.mpr ⟨ca_X6_owners_908 l, List.forall_mem_cons.mpr ⟨ca_X6_owners_922 l, List.forall_mem_cons.mpr ⟨ca_X6_owners_704 l, List.forall_mem_cons.mpr ⟨ca_X6_owners_896 l, List.forall_mem_cons.mpr ⟨ca_X6_owners_964 l, List.forall_mem_cons.mpr ⟨ca_X6_owners_388 l, fun _ h => absurd h List.not_mem_nil⟩⟩⟩⟩⟩⟩⟩, fun _ h => absurd h List.not_mem_nil, fun _ h => absurd h List.not_mem_nil, fun _ h => absurd h List.not_mem_nil, fun _ h => absurd h List.not_mem_nil, fun _ h => absurd h List.not_mem_nil, by decide, rfl, rfl⟩ rfl (by decide)
