/-! MarbleLawModel.hasAll(II)Z -/
noncomputable def kt_X6_hasAll : Nat → Option nk_I := fun pc => bif Nat.ble pc 11 then ((fun pc => bif Nat.ble pc 3 then ((fun pc => bif Nat.ble pc 1 then (bif Nat.ble pc 0 then (bif Nat.beq pc 0 then some (.aload_n 0, 1, 1, [], 0) else none)
  else (bif Nat.beq pc 1 then some (.iload_n 1, 1, 2, [], 0) else none))
  else (bif Nat.ble pc 2 then (bif Nat.beq pc 2 then some (.iload_n 2, 1, 3, [], 0) else none)
  else (bif Nat.beq pc 3 then some (.invokevirtual 233, 3, 6, [], 0) else none))) : nk_F) pc
  else ((fun pc => bif Nat.ble pc 7 then (bif Nat.ble pc 6 then (bif Nat.beq pc 6 then some (.aload_n 0, 1, 7, [], 0) else none)
  else (bif Nat.beq pc 7 then some (.getfield 57, 3, 10, [], 0) else none))
  else (bif Nat.ble pc 10 then (bif Nat.beq pc 10 then some (.aload_n 0, 1, 11, [], 0) else none)
  else (bif Nat.beq pc 11 then some (.getfield 41, 3, 14, [], 0) else none))) : nk_F) pc) : nk_F) pc
  else ((fun pc => bif Nat.ble pc 17 then ((fun pc => bif Nat.ble pc 15 then (bif Nat.ble pc 14 then (bif Nat.beq pc 14 then some (.iload_n 1, 1, 15, [], 0) else none)
  else (bif Nat.beq pc 15 then some (.iaload, 1, 16, [], 0) else none))
  else (bif Nat.ble pc 16 then (bif Nat.beq pc 16 then some (.laload, 1, 17, [], 0) else none)
  else (bif Nat.beq pc 17 then some (.lcmp, 1, 18, [], 0) else none))) : nk_F) pc
  else ((fun pc => bif Nat.ble pc 21 then (bif Nat.ble pc 18 then (bif Nat.beq pc 18 then some (.ifCond .ne 7, 3, 21, [25], 0) else none)
  else (bif Nat.beq pc 21 then some (.iconst 1, 1, 22, [], 1) else none))
  else ((fun pc => bif Nat.ble pc 22 then (bif Nat.beq pc 22 then some (.goto 4, 3, 25, [26], 0) else none)
  else (bif Nat.ble pc 25 then (bif Nat.beq pc 25 then some (.iconst 0, 1, 26, [], 0) else none)
  else (bif Nat.beq pc 26 then some (.ireturn, 1, 27, [], 0) else none))) : nk_F) pc) : nk_F) pc) : nk_F) pc
noncomputable def kc_X6_hasAll : Nat → Option nk_I := nk_top 27 kt_X6_hasAll
noncomputable def kx_X6_hasAll : nk_T := ([(57, 6, 21, 4), (41, 6, 16, 4)], [(932, 3, 7, 0, 0, ev_X6_partOf)], [], [], [], [], [], 2, false, 0, 0)
noncomputable def ev_X6_hasAll : nk_Ev := fun as h Q => nk_if (Nat.ble (nk_wd as) 3) (nk_ev kx_X6_hasAll kc_X6_hasAll 3 as h Q)
set_option maxRecDepth 100000 in
theorem ck_X6_hasAll : nk_chk cX6_hasAll kc_X6_hasAll 27 = true := nd_chk (by decide +kernel) (by decide +kernel)
set_option maxRecDepth 100000 in
set_option maxHeartbeats 4000000 in
theorem ca_X6_hasAll_932 (l : Launch) : nk_CallOk l { frames := 1, cells := 0, slots := 0, locals := 22 } RX6 cX6_hasAll 3 false 932 (3, 7, 0, 0, ev_X6_partOf) := nk_callV (x := 233) (n := 2) (ci := 6) (r := (RX6, TX6, 32)) (mt_X6_partOf l) rfl (nk_msc [(5, 30), (5, 31), (5, 32), (5, 33), (0, 49), (1, 7)] (by decide +kernel)) rfl rfl (by decide +kernel) ⟨by decide, by decide⟩
set_option maxRecDepth 100000 in
set_option maxHeartbeats 4000000 in
theorem mt_X6_hasAll (l : Launch) : nk_Met l yX6_hasAll cX6_hasAll 3 (some .boolean) { frames := 1, cells := 0, slots := 0, locals := 22 } false 0 0 ev_X6_hasAll :=
  nk_met nk_gok (plainFor_of_name (by decide)) ck_X6_hasAll (nk_top_out 27 kt_X6_hasAll) ⟨List.forall_mem_cons.mpr ⟨nk_fkc [(3, 214)] (by decide +kernel), List.forall_mem_cons.mpr ⟨nk_fkc [(3, 209)] (by decide +kernel), fun _ h => absurd h List.not_mem_nil⟩⟩, List.forall_mem_cons.mpr ⟨ca_X6_hasAll_932 l, fun _ h => absurd h List.not_mem_nil⟩, fun _ h => absurd h List.not_mem_nil, fun _ h => absurd h List.not_mem_nil, fun _ h => absurd h List.not_mem_nil, fun _ h => absurd h List.not_mem_nil, fun _ h => absurd h List.not_mem_nil, by decide, rfl, rfl⟩ rfl (by decide)
/-! MarbleLawModel.slyBy(IIII)I -/
noncomputable def kt_X6_slyBy : Nat → Option nk_I := fun pc => bif Nat.ble pc 68 then ((fun pc => bif Nat.ble pc 32 then ((fun pc => bif Nat.ble pc 15 then ((fun pc => bif Nat.ble pc 4 then ((fun pc => bif Nat.ble pc 1 then (bif Nat.ble pc 0 then (bif Nat.beq pc 0 then some (.aload_n 0, 1, 1, [], 0) else none)
  else (bif Nat.beq pc 1 then some (.iload_n 1, 1, 2, [], 0) else none))
  else ((fun pc => bif Nat.ble pc 2 then (bif Nat.beq pc 2 then some (.iconst 0, 1, 3, [], 0) else none)
  else (bif Nat.ble pc 3 then (bif Nat.beq pc 3 then some (.aload_n 0, 1, 4, [], 0) else none)
  else (bif Nat.beq pc 4 then some (.getfield 146, 3, 7, [], 0) else none))) : nk_F) pc) : nk_F) pc
  else ((fun pc => bif Nat.ble pc 12 then ((fun pc => bif Nat.ble pc 7 then (bif Nat.beq pc 7 then some (.bipush (-9), 2, 9, [], (-9)) else none)
  else (bif Nat.ble pc 9 then (bif Nat.beq pc 9 then some (.invokevirtual 224, 3, 12, [], 0) else none)
  else (bif Nat.beq pc 12 then some (.pop, 1, 13, [], 0) else none))) : nk_F) pc
  else ((fun pc => bif Nat.ble pc 13 then (bif Nat.beq pc 13 then some (.aload_n 0, 1, 14, [], 0) else none)
  else (bif Nat.ble pc 14 then (bif Nat.beq pc 14 then some (.iload_n 2, 1, 15, [], 0) else none)
  else (bif Nat.beq pc 15 then some (.iload_n 3, 1, 16, [], 0) else none))) : nk_F) pc) : nk_F) pc) : nk_F) pc
  else ((fun pc => bif Nat.ble pc 24 then ((fun pc => bif Nat.ble pc 19 then (bif Nat.ble pc 16 then (bif Nat.beq pc 16 then some (.invokevirtual 257, 3, 19, [], 0) else none)
  else (bif Nat.beq pc 19 then some (.ifCond .eq 5, 3, 22, [24], 0) else none))
  else ((fun pc => bif Nat.ble pc 22 then (bif Nat.beq pc 22 then some (.iconst 0, 1, 23, [], 0) else none)
  else (bif Nat.ble pc 23 then (bif Nat.beq pc 23 then some (.ireturn, 1, 24, [], 0) else none)
  else (bif Nat.beq pc 24 then some (.aload_n 0, 1, 25, [], 0) else none))) : nk_F) pc) : nk_F) pc
  else ((fun pc => bif Nat.ble pc 27 then ((fun pc => bif Nat.ble pc 25 then (bif Nat.beq pc 25 then some (.iconst 1, 1, 26, [], 1) else none)
  else (bif Nat.ble pc 26 then (bif Nat.beq pc 26 then some (.aload_n 0, 1, 27, [], 0) else none)
  else (bif Nat.beq pc 27 then some (.getfield 41, 3, 30, [], 0) else none))) : nk_F) pc
  else ((fun pc => bif Nat.ble pc 30 then (bif Nat.beq pc 30 then some (.iload_n 2, 1, 31, [], 0) else none)
  else (bif Nat.ble pc 31 then (bif Nat.beq pc 31 then some (.iaload, 1, 32, [], 0) else none)
  else (bif Nat.beq pc 32 then some (.iload 4, 2, 34, [], 0) else none))) : nk_F) pc) : nk_F) pc) : nk_F) pc) : nk_F) pc
  else ((fun pc => bif Nat.ble pc 50 then ((fun pc => bif Nat.ble pc 42 then ((fun pc => bif Nat.ble pc 35 then (bif Nat.ble pc 34 then (bif Nat.beq pc 34 then some (.iconst 1, 1, 35, [], 1) else none)
  else (bif Nat.beq pc 35 then some (.invokevirtual 202, 3, 38, [], 0) else none))
  else ((fun pc => bif Nat.ble pc 38 then (bif Nat.beq pc 38 then some (.ifCond .eq 5, 3, 41, [43], 0) else none)
  else (bif Nat.ble pc 41 then (bif Nat.beq pc 41 then some (.iconst 1, 1, 42, [], 1) else none)
  else (bif Nat.beq pc 42 then some (.ireturn, 1, 43, [], 0) else none))) : nk_F) pc) : nk_F) pc
  else ((fun pc => bif Nat.ble pc 45 then ((fun pc => bif Nat.ble pc 43 then (bif Nat.beq pc 43 then some (.aload_n 0, 1, 44, [], 0) else none)
  else (bif Nat.ble pc 44 then (bif Nat.beq pc 44 then some (.iconst 4, 1, 45, [], 4) else none)
  else (bif Nat.beq pc 45 then some (.aload_n 0, 1, 46, [], 0) else none))) : nk_F) pc
  else ((fun pc => bif Nat.ble pc 46 then (bif Nat.beq pc 46 then some (.getfield 41, 3, 49, [], 0) else none)
  else (bif Nat.ble pc 49 then (bif Nat.beq pc 49 then some (.iload_n 2, 1, 50, [], 0) else none)
  else (bif Nat.beq pc 50 then some (.iaload, 1, 51, [], 0) else none))) : nk_F) pc) : nk_F) pc) : nk_F) pc
  else ((fun pc => bif Nat.ble pc 60 then ((fun pc => bif Nat.ble pc 53 then (bif Nat.ble pc 51 then (bif Nat.beq pc 51 then some (.iload 4, 2, 53, [], 0) else none)
  else (bif Nat.beq pc 53 then some (.iconst 1, 1, 54, [], 1) else none))
  else ((fun pc => bif Nat.ble pc 54 then (bif Nat.beq pc 54 then some (.invokevirtual 202, 3, 57, [], 0) else none)
  else (bif Nat.ble pc 57 then (bif Nat.beq pc 57 then some (.ifCond .eq 5, 3, 60, [62], 0) else none)
  else (bif Nat.beq pc 60 then some (.iconst 2, 1, 61, [], 2) else none))) : nk_F) pc) : nk_F) pc
  else ((fun pc => bif Nat.ble pc 63 then ((fun pc => bif Nat.ble pc 61 then (bif Nat.beq pc 61 then some (.ireturn, 1, 62, [], 0) else none)
  else (bif Nat.ble pc 62 then (bif Nat.beq pc 62 then some (.iconst 0, 1, 63, [], 0) else none)
  else (bif Nat.beq pc 63 then some (.istore 5, 2, 65, [], 0) else none))) : nk_F) pc
  else ((fun pc => bif Nat.ble pc 65 then (bif Nat.beq pc 65 then some (.iload 5, 2, 67, [], 0) else none)
  else (bif Nat.ble pc 67 then (bif Nat.beq pc 67 then some (.aload_n 0, 1, 68, [], 0) else none)
  else (bif Nat.beq pc 68 then some (.getfield 120, 3, 71, [], 0) else none))) : nk_F) pc) : nk_F) pc) : nk_F) pc) : nk_F) pc) : nk_F) pc
  else ((fun pc => bif Nat.ble pc 107 then ((fun pc => bif Nat.ble pc 88 then ((fun pc => bif Nat.ble pc 77 then ((fun pc => bif Nat.ble pc 74 then (bif Nat.ble pc 71 then (bif Nat.beq pc 71 then some (.if_icmp .ge 78, 3, 74, [149], 0) else none)
  else (bif Nat.beq pc 74 then some (.aload_n 0, 1, 75, [], 0) else none))
  else ((fun pc => bif Nat.ble pc 75 then (bif Nat.beq pc 75 then some (.iload_n 1, 1, 76, [], 0) else none)
  else (bif Nat.ble pc 76 then (bif Nat.beq pc 76 then some (.iconst 0, 1, 77, [], 0) else none)
  else (bif Nat.beq pc 77 then some (.aload_n 0, 1, 78, [], 0) else none))) : nk_F) pc) : nk_F) pc
  else ((fun pc => bif Nat.ble pc 83 then ((fun pc => bif Nat.ble pc 78 then (bif Nat.beq pc 78 then some (.getfield 146, 3, 81, [], 0) else none)
  else (bif Nat.ble pc 81 then (bif Nat.beq pc 81 then some (.bipush (-9), 2, 83, [], (-9)) else none)
  else (bif Nat.beq pc 83 then some (.invokevirtual 224, 3, 86, [], 0) else none))) : nk_F) pc
  else ((fun pc => bif Nat.ble pc 86 then (bif Nat.beq pc 86 then some (.pop, 1, 87, [], 0) else none)
  else (bif Nat.ble pc 87 then (bif Nat.beq pc 87 then some (.aload_n 0, 1, 88, [], 0) else none)
  else (bif Nat.beq pc 88 then some (.getfield 41, 3, 91, [], 0) else none))) : nk_F) pc) : nk_F) pc) : nk_F) pc
  else ((fun pc => bif Nat.ble pc 98 then ((fun pc => bif Nat.ble pc 93 then (bif Nat.ble pc 91 then (bif Nat.beq pc 91 then some (.iload 5, 2, 93, [], 0) else none)
  else (bif Nat.beq pc 93 then some (.iaload, 1, 94, [], 0) else none))
  else ((fun pc => bif Nat.ble pc 94 then (bif Nat.beq pc 94 then some (.aload_n 0, 1, 95, [], 0) else none)
  else (bif Nat.ble pc 95 then (bif Nat.beq pc 95 then some (.getfield 41, 3, 98, [], 0) else none)
  else (bif Nat.beq pc 98 then some (.iload_n 2, 1, 99, [], 0) else none))) : nk_F) pc) : nk_F) pc
  else ((fun pc => bif Nat.ble pc 103 then ((fun pc => bif Nat.ble pc 99 then (bif Nat.beq pc 99 then some (.iaload, 1, 100, [], 0) else none)
  else (bif Nat.ble pc 100 then (bif Nat.beq pc 100 then some (.if_icmp .eq 43, 3, 103, [143], 0) else none)
  else (bif Nat.beq pc 103 then some (.aload_n 0, 1, 104, [], 0) else none))) : nk_F) pc
  else ((fun pc => bif Nat.ble pc 104 then (bif Nat.beq pc 104 then some (.iload 5, 2, 106, [], 0) else none)
  else (bif Nat.ble pc 106 then (bif Nat.beq pc 106 then some (.iload_n 3, 1, 107, [], 0) else none)
  else (bif Nat.beq pc 107 then some (.invokevirtual 257, 3, 110, [], 0) else none))) : nk_F) pc) : nk_F) pc) : nk_F) pc) : nk_F) pc
  else ((fun pc => bif Nat.ble pc 126 then ((fun pc => bif Nat.ble pc 117 then ((fun pc => bif Nat.ble pc 113 then (bif Nat.ble pc 110 then (bif Nat.beq pc 110 then some (.ifCond .eq 33, 3, 113, [143], 0) else none)
  else (bif Nat.beq pc 113 then some (.aload_n 0, 1, 114, [], 0) else none))
  else ((fun pc => bif Nat.ble pc 114 then (bif Nat.beq pc 114 then some (.iconst 2, 1, 115, [], 2) else none)
  else (bif Nat.ble pc 115 then (bif Nat.beq pc 115 then some (.iload 5, 2, 117, [], 0) else none)
  else (bif Nat.beq pc 117 then some (.iload_n 2, 1, 118, [], 0) else none))) : nk_F) pc) : nk_F) pc
  else ((fun pc => bif Nat.ble pc 121 then ((fun pc => bif Nat.ble pc 118 then (bif Nat.beq pc 118 then some (.iload_n 3, 1, 119, [], 0) else none)
  else (bif Nat.ble pc 119 then (bif Nat.beq pc 119 then some (.iload 4, 2, 121, [], 0) else none)
  else (bif Nat.beq pc 121 then some (.iconst 1, 1, 122, [], 1) else none))) : nk_F) pc
  else ((fun pc => bif Nat.ble pc 122 then (bif Nat.beq pc 122 then some (.invokevirtual 213, 3, 125, [], 0) else none)
  else (bif Nat.ble pc 125 then (bif Nat.beq pc 125 then some (.aload_n 0, 1, 126, [], 0) else none)
  else (bif Nat.beq pc 126 then some (.getfield 185, 3, 129, [], 0) else none))) : nk_F) pc) : nk_F) pc) : nk_F) pc
  else ((fun pc => bif Nat.ble pc 138 then ((fun pc => bif Nat.ble pc 133 then ((fun pc => bif Nat.ble pc 129 then (bif Nat.beq pc 129 then some (.ifCond .ne 14, 3, 132, [143], 0) else none)
  else (bif Nat.ble pc 132 then (bif Nat.beq pc 132 then some (.aload_n 0, 1, 133, [], 0) else none)
  else (bif Nat.beq pc 133 then some (.iload_n 2, 1, 134, [], 0) else none))) : nk_F) pc
  else ((fun pc => bif Nat.ble pc 134 then (bif Nat.beq pc 134 then some (.iload_n 3, 1, 135, [], 0) else none)
  else (bif Nat.ble pc 135 then (bif Nat.beq pc 135 then some (.invokevirtual 257, 3, 138, [], 0) else none)
  else (bif Nat.beq pc 138 then some (.ifCond .eq 5, 3, 141, [143], 0) else none))) : nk_F) pc) : nk_F) pc
  else ((fun pc => bif Nat.ble pc 143 then ((fun pc => bif Nat.ble pc 141 then (bif Nat.beq pc 141 then some (.iconst 3, 1, 142, [], 3) else none)
  else (bif Nat.ble pc 142 then (bif Nat.beq pc 142 then some (.ireturn, 1, 143, [], 0) else none)
  else (bif Nat.beq pc 143 then some (.iinc 5 1, 3, 146, [], 1) else none))) : nk_F) pc
  else ((fun pc => bif Nat.ble pc 146 then (bif Nat.beq pc 146 then some (.goto (-81), 3, 149, [65], 0) else none)
  else (bif Nat.ble pc 149 then (bif Nat.beq pc 149 then some (.bipush (-9), 2, 151, [], (-9)) else none)
  else (bif Nat.beq pc 151 then some (.ireturn, 1, 152, [], 0) else none))) : nk_F) pc) : nk_F) pc) : nk_F) pc) : nk_F) pc) : nk_F) pc
noncomputable def kc_X6_slyBy : Nat → Option nk_I := nk_top 152 kt_X6_slyBy
noncomputable def kx_X6_slyBy : nk_T := ([(146, 6, 12, 0), (41, 6, 16, 4), (120, 6, 10, 0), (185, 6, 22, 1)], [(896, 5, 7, 0, 0, ev_X6_goes), (1028, 3, 7, 0, 0, ev_X6_hasAll), (808, 5, 7, 0, 0, ev_X6_takes), (852, 7, 7, 0, 0, ev_X6_makes)], [], [], [], [], [], 1, false, 0, 0)
noncomputable def ev_X6_slyBy : nk_Ev := fun as h Q => nk_if (Nat.ble (nk_wd as) 6) (nk_ev kx_X6_slyBy kc_X6_slyBy 6 as h Q)
set_option maxRecDepth 100000 in
theorem ck_X6_slyBy : nk_chk cX6_slyBy kc_X6_slyBy 152 = true := nd_chk (by decide +kernel) (by decide +kernel)
set_option maxRecDepth 100000 in
set_option maxHeartbeats 4000000 in
theorem ca_X6_slyBy_896 (l : Launch) : nk_CallOk l { frames := 6, cells := 0, slots := 0, locals := 159 } RX6 cX6_slyBy 6 false 896 (5, 7, 0, 0, ev_X6_goes) := nk_callV (x := 224) (n := 4) (ci := 6) (r := (RX6, TX6, 32)) (mt_X6_goes l) rfl (nk_msc [(4, 208), (4, 209), (4, 210), (4, 211), (0, 39), (1, 7)] (by decide +kernel)) rfl rfl (by decide +kernel) ⟨by decide, by decide⟩
set_option maxRecDepth 100000 in
set_option maxHeartbeats 4000000 in
theorem ca_X6_slyBy_1028 (l : Launch) : nk_CallOk l { frames := 6, cells := 0, slots := 0, locals := 159 } RX6 cX6_slyBy 6 false 1028 (3, 7, 0, 0, ev_X6_hasAll) := nk_callV (x := 257) (n := 2) (ci := 6) (r := (RX6, TX6, 32)) (mt_X6_hasAll l) rfl (nk_msc [(5, 98), (5, 99), (5, 100), (5, 101), (0, 57), (1, 7)] (by decide +kernel)) rfl rfl (by decide +kernel) ⟨by decide, by decide⟩
set_option maxRecDepth 100000 in
set_option maxHeartbeats 4000000 in
theorem ca_X6_slyBy_808 (l : Launch) : nk_CallOk l { frames := 6, cells := 0, slots := 0, locals := 159 } RX6 cX6_slyBy 6 false 808 (5, 7, 0, 0, ev_X6_takes) := nk_callV (x := 202) (n := 4) (ci := 6) (r := (RX6, TX6, 32)) (mt_X6_takes l) rfl (nk_msc [(5, 3), (5, 4), (5, 5), (5, 6), (0, 46), (1, 7)] (by decide +kernel)) rfl rfl (by decide +kernel) ⟨by decide, by decide⟩
set_option maxRecDepth 100000 in
set_option maxHeartbeats 4000000 in
theorem ca_X6_slyBy_852 (l : Launch) : nk_CallOk l { frames := 6, cells := 0, slots := 0, locals := 159 } RX6 cX6_slyBy 6 false 852 (7, 7, 0, 0, ev_X6_makes) := nk_callV (x := 213) (n := 6) (ci := 6) (r := (RX6, TX6, 32)) (mt_X6_makes l) rfl (nk_msc [(4, 227), (4, 228), (4, 229), (4, 230), (0, 43), (1, 7)] (by decide +kernel)) rfl rfl (by decide +kernel) ⟨by decide, by decide⟩
set_option maxRecDepth 100000 in
set_option maxHeartbeats 4000000 in
theorem mt_X6_slyBy (l : Launch) : nk_Met l yX6_slyBy cX6_slyBy 6 (some .int) { frames := 6, cells := 0, slots := 0, locals := 159 } false 0 0 ev_X6_slyBy :=
  nk_met nk_gok (plainFor_of_name (by decide)) ck_X6_slyBy (nk_top_out 152 kt_X6_slyBy) ⟨List.forall_mem_cons.mpr ⟨nk_fkc [(3, 205)] (by decide +kernel), List.forall_mem_cons.mpr ⟨nk_fkc [(3, 209)] (by decide +kernel), List.forall_mem_cons.mpr ⟨nk_fkc [(3, 203)] (by decide +kernel), List.forall_mem_cons.mpr ⟨nk_fkc [(3, 215)] (by decide +kernel), fun _ h => absurd h List.not_mem_nil⟩⟩⟩⟩, List.forall_mem_cons.mpr ⟨ca_X6_slyBy_896 l, List.forall_mem_cons.mpr ⟨ca_X6_slyBy_1028 l, List.forall_mem_cons.mpr ⟨ca_X6_slyBy_808 l, List.forall_mem_cons.mpr ⟨ca_X6_slyBy_852 l, fun _ h => absurd h List.not_mem_nil⟩⟩⟩⟩, fun _ h => absurd h List.not_mem_nil, fun _ h => absurd h List.not_mem_nil, fun _ h => absurd h List.not_mem_nil, fun _ h => absurd h List.not_mem_nil, fun _ h => absurd h List.not_mem_nil, by decide, rfl, rfl⟩ rfl (by decide)
/-! MarbleLawModel.askedSly(IIII)I -/
noncomputable def kt_X6_askedSly : Nat → Option nk_I := fun pc => bif Nat.ble pc 34 then ((fun pc => bif Nat.ble pc 17 then ((fun pc => bif Nat.ble pc 5 then ((fun pc => bif Nat.ble pc 1 then (bif Nat.ble pc 0 then (bif Nat.beq pc 0 then some (.aload_n 0, 1, 1, [], 0) else none)
  else (bif Nat.beq pc 1 then some (.iload_n 2, 1, 2, [], 0) else none))
  else (bif Nat.ble pc 2 then (bif Nat.beq pc 2 then some (.invokevirtual 134, 3, 5, [], 0) else none)
  else (bif Nat.beq pc 5 then some (.ifCond .eq 18, 3, 8, [23], 0) else none))) : nk_F) pc
  else ((fun pc => bif Nat.ble pc 9 then (bif Nat.ble pc 8 then (bif Nat.beq pc 8 then some (.iload_n 3, 1, 9, [], 0) else none)
  else (bif Nat.beq pc 9 then some (.invokestatic 123, 3, 12, [], 0) else none))
  else ((fun pc => bif Nat.ble pc 12 then (bif Nat.beq pc 12 then some (.ifCond .eq 11, 3, 15, [23], 0) else none)
  else (bif Nat.ble pc 15 then (bif Nat.beq pc 15 then some (.iload 4, 2, 17, [], 0) else none)
  else (bif Nat.beq pc 17 then some (.invokestatic 143, 3, 20, [], 0) else none))) : nk_F) pc) : nk_F) pc) : nk_F) pc
  else ((fun pc => bif Nat.ble pc 25 then ((fun pc => bif Nat.ble pc 23 then (bif Nat.ble pc 20 then (bif Nat.beq pc 20 then some (.ifCond .ne 5, 3, 23, [25], 0) else none)
  else (bif Nat.beq pc 23 then some (.iconst (-1), 1, 24, [], (-1)) else none))
  else (bif Nat.ble pc 24 then (bif Nat.beq pc 24 then some (.ireturn, 1, 25, [], 0) else none)
  else (bif Nat.beq pc 25 then some (.aload_n 0, 1, 26, [], 0) else none))) : nk_F) pc
  else ((fun pc => bif Nat.ble pc 27 then (bif Nat.ble pc 26 then (bif Nat.beq pc 26 then some (.iload_n 1, 1, 27, [], 0) else none)
  else (bif Nat.beq pc 27 then some (.invokevirtual 176, 3, 30, [], 0) else none))
  else ((fun pc => bif Nat.ble pc 30 then (bif Nat.beq pc 30 then some (.istore 5, 2, 32, [], 0) else none)
  else (bif Nat.ble pc 32 then (bif Nat.beq pc 32 then some (.iload 5, 2, 34, [], 0) else none)
  else (bif Nat.beq pc 34 then some (.ifCond .ge 6, 3, 37, [40], 0) else none))) : nk_F) pc) : nk_F) pc) : nk_F) pc) : nk_F) pc
  else ((fun pc => bif Nat.ble pc 48 then ((fun pc => bif Nat.ble pc 41 then ((fun pc => bif Nat.ble pc 39 then (bif Nat.ble pc 37 then (bif Nat.beq pc 37 then some (.iload 5, 2, 39, [], 0) else none)
  else (bif Nat.beq pc 39 then some (.ireturn, 1, 40, [], 0) else none))
  else (bif Nat.ble pc 40 then (bif Nat.beq pc 40 then some (.aload_n 0, 1, 41, [], 0) else none)
  else (bif Nat.beq pc 41 then some (.aload_n 0, 1, 42, [], 0) else none))) : nk_F) pc
  else ((fun pc => bif Nat.ble pc 45 then (bif Nat.ble pc 42 then (bif Nat.beq pc 42 then some (.getfield 38, 3, 45, [], 0) else none)
  else (bif Nat.beq pc 45 then some (.iload_n 1, 1, 46, [], 0) else none))
  else ((fun pc => bif Nat.ble pc 46 then (bif Nat.beq pc 46 then some (.iaload, 1, 47, [], 0) else none)
  else (bif Nat.ble pc 47 then (bif Nat.beq pc 47 then some (.iconst 0, 1, 48, [], 0) else none)
  else (bif Nat.beq pc 48 then some (.aload_n 0, 1, 49, [], 0) else none))) : nk_F) pc) : nk_F) pc) : nk_F) pc
  else ((fun pc => bif Nat.ble pc 60 then ((fun pc => bif Nat.ble pc 52 then (bif Nat.ble pc 49 then (bif Nat.beq pc 49 then some (.getfield 146, 3, 52, [], 0) else none)
  else (bif Nat.beq pc 52 then some (.bipush (-9), 2, 54, [], (-9)) else none))
  else ((fun pc => bif Nat.ble pc 54 then (bif Nat.beq pc 54 then some (.invokevirtual 224, 3, 57, [], 0) else none)
  else (bif Nat.ble pc 57 then (bif Nat.beq pc 57 then some (.ifCond .eq 7, 3, 60, [64], 0) else none)
  else (bif Nat.beq pc 60 then some (.iconst 0, 1, 61, [], 0) else none))) : nk_F) pc) : nk_F) pc
  else ((fun pc => bif Nat.ble pc 64 then (bif Nat.ble pc 61 then (bif Nat.beq pc 61 then some (.goto 8, 3, 64, [69], 0) else none)
  else (bif Nat.beq pc 64 then some (.aload_n 0, 1, 65, [], 0) else none))
  else ((fun pc => bif Nat.ble pc 65 then (bif Nat.beq pc 65 then some (.iconst 5, 1, 66, [], 5) else none)
  else (bif Nat.ble pc 66 then (bif Nat.beq pc 66 then some (.invokevirtual 97, 3, 69, [], 0) else none)
  else (bif Nat.beq pc 69 then some (.ireturn, 1, 70, [], 0) else none))) : nk_F) pc) : nk_F) pc) : nk_F) pc) : nk_F) pc
noncomputable def kc_X6_askedSly : Nat → Option nk_I := nk_top 70 kt_X6_askedSly
noncomputable def kx_X6_askedSly : nk_T := ([(38, 6, 14, 4), (146, 6, 12, 0)], [(536, 2, 7, 0, 0, ev_X6_isStuff), (494, 1, 0, 0, 0, ev_X6_isPerson), (574, 1, 0, 0, 0, ev_X6_isWork), (704, 2, 7, 0, 0, ev_X6_askedLaws), (896, 5, 7, 0, 0, ev_X6_goes), (388, 2, 7, 0, 0, ev_X6_meets)], [], [], [], [], [], 1, false, 0, 0)
noncomputable def ev_X6_askedSly : nk_Ev := fun as h Q => nk_if (Nat.ble (nk_wd as) 6) (nk_ev kx_X6_askedSly kc_X6_askedSly 6 as h Q)
set_option maxRecDepth 100000 in
theorem ck_X6_askedSly : nk_chk cX6_askedSly kc_X6_askedSly 70 = true := nd_chk (by decide +kernel) (by decide +kernel)
set_option maxRecDepth 100000 in
set_option maxHeartbeats 4000000 in
theorem ca_X6_askedSly_536 (l : Launch) : nk_CallOk l { frames := 6, cells := 0, slots := 0, locals := 159 } RX6 cX6_askedSly 6 false 536 (2, 7, 0, 0, ev_X6_isStuff) := nk_callV (x := 134) (n := 1) (ci := 6) (r := (RX6, TX6, 32)) (mt_X6_isStuff l) rfl (nk_msc [(4, 134), (4, 135), (4, 136), (4, 137), (0, 32), (1, 7)] (by decide +kernel)) rfl rfl (by decide +kernel) ⟨by decide, by decide⟩
set_option maxRecDepth 100000 in
set_option maxHeartbeats 4000000 in
theorem ca_X6_askedSly_494 (l : Launch) : nk_CallOk l { frames := 6, cells := 0, slots := 0, locals := 159 } RX6 cX6_askedSly 6 false 494 (1, 0, 0, 0, ev_X6_isPerson) := nk_callS (x := 123) (n := 1) (mt_X6_isPerson l) (nk_msc [(4, 119), (4, 120), (4, 121), (1, 7)] (by decide +kernel)) rfl rfl (by decide +kernel) ⟨by decide, by decide⟩
set_option maxRecDepth 100000 in
set_option maxHeartbeats 4000000 in
theorem ca_X6_askedSly_574 (l : Launch) : nk_CallOk l { frames := 6, cells := 0, slots := 0, locals := 159 } RX6 cX6_askedSly 6 false 574 (1, 0, 0, 0, ev_X6_isWork) := nk_callS (x := 143) (n := 1) (mt_X6_isWork l) (nk_msc [(4, 149), (4, 150), (4, 151), (1, 7)] (by decide +kernel)) rfl rfl (by decide +kernel) ⟨by decide, by decide⟩
set_option maxRecDepth 100000 in
set_option maxHeartbeats 4000000 in
theorem ca_X6_askedSly_704 (l : Launch) : nk_CallOk l { frames := 6, cells := 0, slots := 0, locals := 159 } RX6 cX6_askedSly 6 false 704 (2, 7, 0, 0, ev_X6_askedLaws) := nk_callV (x := 176) (n := 1) (ci := 6) (r := (RX6, TX6, 32)) (mt_X6_askedLaws l) rfl (nk_msc [(4, 200), (4, 201), (4, 202), (4, 203), (0, 38), (1, 7)] (by decide +kernel)) rfl rfl (by decide +kernel) ⟨by decide, by decide⟩
set_option maxRecDepth 100000 in
set_option maxHeartbeats 4000000 in
theorem ca_X6_askedSly_896 (l : Launch) : nk_CallOk l { frames := 6, cells := 0, slots := 0, locals := 159 } RX6 cX6_askedSly 6 false 896 (5, 7, 0, 0, ev_X6_goes) := nk_callV (x := 224) (n := 4) (ci := 6) (r := (RX6, TX6, 32)) (mt_X6_goes l) rfl (nk_msc [(4, 208), (4, 209), (4, 210), (4, 211), (0, 39), (1, 7)] (by decide +kernel)) rfl rfl (by decide +kernel) ⟨by decide, by decide⟩
set_option maxRecDepth 100000 in
set_option maxHeartbeats 4000000 in
theorem ca_X6_askedSly_388 (l : Launch) : nk_CallOk l { frames := 6, cells := 0, slots := 0, locals := 159 } RX6 cX6_askedSly 6 false 388 (2, 7, 0, 0, ev_X6_meets) := nk_callV (x := 97) (n := 1) (ci := 6) (r := (RX6, TX6, 32)) (mt_X6_meets l) rfl (nk_msc [(4, 60), (4, 61), (4, 62), (4, 63), (0, 26), (1, 7)] (by decide +kernel)) rfl rfl (by decide +kernel) ⟨by decide, by decide⟩
set_option maxRecDepth 100000 in
set_option maxHeartbeats 4000000 in
theorem mt_X6_askedSly (l : Launch) : nk_Met l yX6_askedSly cX6_askedSly 6 (some .int) { frames := 6, cells := 0, slots := 0, locals := 159 } false 0 0 ev_X6_askedSly :=
  nk_met nk_gok (plainFor_of_name (by decide)) ck_X6_askedSly (nk_top_out 70 kt_X6_askedSly) ⟨List.forall_mem_cons.mpr ⟨nk_fkc [(3, 207)] (by decide +kernel), List.forall_mem_cons.mpr ⟨nk_fkc [(3, 205)] (by decide +kernel), fun _ h => absurd h List.not_mem_nil⟩⟩, List.forall_mem_cons.mpr ⟨ca_X6_askedSly_536 l, List.forall_mem_cons.mpr ⟨ca_X6_askedSly_494 l, List.forall_mem_cons.mpr ⟨ca_X6_askedSly_574 l, List.forall_mem_cons.mpr ⟨ca_X6_askedSly_704 l, List.forall_mem_cons.mpr ⟨ca_X6_askedSly_896 l, List.forall_mem_cons.mpr ⟨ca_X6_askedSly_388 l, fun _ h => absurd h List.not_mem_nil⟩⟩⟩⟩⟩⟩, fun _ h => absurd h List.not_mem_nil, fun _ h => absurd h List.not_mem_nil, fun _ h => absurd h List.not_mem_nil, fun _ h => absurd h List.not_mem_nil, fun _ h => absurd h List.not_mem_nil, by decide, rfl, rfl⟩ rfl (by decide)
/-! MarbleLawModel.sly(IIII)I -/
noncomputable def kt_X6_sly : Nat → Option nk_I := fun pc => bif Nat.ble pc 16 then ((fun pc => bif Nat.ble pc 4 then ((fun pc => bif Nat.ble pc 1 then (bif Nat.ble pc 0 then (bif Nat.beq pc 0 then some (.aload_n 0, 1, 1, [], 0) else none)
  else (bif Nat.beq pc 1 then some (.iload_n 1, 1, 2, [], 0) else none))
  else ((fun pc => bif Nat.ble pc 2 then (bif Nat.beq pc 2 then some (.iload_n 2, 1, 3, [], 0) else none)
  else (bif Nat.ble pc 3 then (bif Nat.beq pc 3 then some (.iload_n 3, 1, 4, [], 0) else none)
  else (bif Nat.beq pc 4 then some (.iload 4, 2, 6, [], 0) else none))) : nk_F) pc) : nk_F) pc
  else ((fun pc => bif Nat.ble pc 9 then (bif Nat.ble pc 6 then (bif Nat.beq pc 6 then some (.invokevirtual 260, 3, 9, [], 0) else none)
  else (bif Nat.beq pc 9 then some (.istore 5, 2, 11, [], 0) else none))
  else ((fun pc => bif Nat.ble pc 11 then (bif Nat.beq pc 11 then some (.iload 5, 2, 13, [], 0) else none)
  else (bif Nat.ble pc 13 then (bif Nat.beq pc 13 then some (.ifCond .ge 8, 3, 16, [21], 0) else none)
  else (bif Nat.beq pc 16 then some (.iload 5, 2, 18, [], 0) else none))) : nk_F) pc) : nk_F) pc) : nk_F) pc
  else ((fun pc => bif Nat.ble pc 26 then ((fun pc => bif Nat.ble pc 21 then (bif Nat.ble pc 18 then (bif Nat.beq pc 18 then some (.goto 17, 3, 21, [35], 0) else none)
  else (bif Nat.beq pc 21 then some (.aload_n 0, 1, 22, [], 0) else none))
  else ((fun pc => bif Nat.ble pc 22 then (bif Nat.beq pc 22 then some (.aload_n 0, 1, 23, [], 0) else none)
  else (bif Nat.ble pc 23 then (bif Nat.beq pc 23 then some (.getfield 38, 3, 26, [], 0) else none)
  else (bif Nat.beq pc 26 then some (.iload_n 1, 1, 27, [], 0) else none))) : nk_F) pc) : nk_F) pc
  else ((fun pc => bif Nat.ble pc 29 then ((fun pc => bif Nat.ble pc 27 then (bif Nat.beq pc 27 then some (.iaload, 1, 28, [], 0) else none)
  else (bif Nat.ble pc 28 then (bif Nat.beq pc 28 then some (.iload_n 2, 1, 29, [], 0) else none)
  else (bif Nat.beq pc 29 then some (.iload_n 3, 1, 30, [], 0) else none))) : nk_F) pc
  else ((fun pc => bif Nat.ble pc 30 then (bif Nat.beq pc 30 then some (.iload 4, 2, 32, [], 0) else none)
  else (bif Nat.ble pc 32 then (bif Nat.beq pc 32 then some (.invokevirtual 263, 3, 35, [], 0) else none)
  else (bif Nat.beq pc 35 then some (.ireturn, 1, 36, [], 0) else none))) : nk_F) pc) : nk_F) pc) : nk_F) pc
noncomputable def kc_X6_sly : Nat → Option nk_I := nk_top 36 kt_X6_sly
noncomputable def kx_X6_sly : nk_T := ([(38, 6, 14, 4)], [(1040, 5, 7, 0, 0, ev_X6_askedSly), (1052, 5, 7, 0, 0, ev_X6_slyBy)], [], [], [], [], [], 1, false, 0, 0)
noncomputable def ev_X6_sly : nk_Ev := fun as h Q => nk_if (Nat.ble (nk_wd as) 6) (nk_ev kx_X6_sly kc_X6_sly 6 as h Q)
set_option maxRecDepth 100000 in
theorem ck_X6_sly : nk_chk cX6_sly kc_X6_sly 36 = true := nd_chk (by decide +kernel) (by decide +kernel)
set_option maxRecDepth 100000 in
set_option maxHeartbeats 4000000 in
theorem ca_X6_sly_1040 (l : Launch) : nk_CallOk l { frames := 7, cells := 0, slots := 0, locals := 184 } RX6 cX6_sly 6 false 1040 (5, 7, 0, 0, ev_X6_askedSly) := nk_callV (x := 260) (n := 4) (ci := 6) (r := (RX6, TX6, 32)) (mt_X6_askedSly l) rfl (nk_msc [(5, 90), (5, 91), (5, 92), (5, 93), (0, 55), (1, 7)] (by decide +kernel)) rfl rfl (by decide +kernel) ⟨by decide, by decide⟩
set_option maxRecDepth 100000 in
set_option maxHeartbeats 4000000 in
theorem ca_X6_sly_1052 (l : Launch) : nk_CallOk l { frames := 7, cells := 0, slots := 0, locals := 184 } RX6 cX6_sly 6 false 1052 (5, 7, 0, 0, ev_X6_slyBy) := nk_callV (x := 263) (n := 4) (ci := 6) (r := (RX6, TX6, 32)) (mt_X6_slyBy l) rfl (nk_msc [(5, 94), (5, 95), (5, 96), (5, 97), (0, 56), (1, 7)] (by decide +kernel)) rfl rfl (by decide +kernel) ⟨by decide, by decide⟩
set_option maxRecDepth 100000 in
set_option maxHeartbeats 4000000 in
theorem mt_X6_sly (l : Launch) : nk_Met l yX6_sly cX6_sly 6 (some .int) { frames := 7, cells := 0, slots := 0, locals := 184 } false 0 0 ev_X6_sly :=
  nk_met nk_gok (plainFor_of_name (by decide)) ck_X6_sly (nk_top_out 36 kt_X6_sly) ⟨List.forall_mem_cons.mpr ⟨nk_fkc [(3, 207)] (by decide +kernel), fun _ h => absurd h List.not_mem_nil⟩, List.forall_mem_cons.mpr ⟨ca_X6_sly_1040 l, List.forall_mem_cons.mpr ⟨ca_X6_sly_1052 l, fun _ h => absurd h List.not_mem_nil⟩⟩, fun _ h => absurd h List.not_mem_nil, fun _ h => absurd h List.not_mem_nil, fun _ h => absurd h List.not_mem_nil, fun _ h => absurd h List.not_mem_nil, fun _ h => absurd h List.not_mem_nil, by decide, rfl, rfl⟩ rfl (by decide)
/-! MarbleLawModel.words(II)I -/
noncomputable def kt_X6_words : Nat → Option nk_I := fun pc => bif Nat.ble pc 18 then ((fun pc => bif Nat.ble pc 5 then ((fun pc => bif Nat.ble pc 2 then ((fun pc => bif Nat.ble pc 0 then (bif Nat.beq pc 0 then some (.iconst 0, 1, 1, [], 0) else none)
  else (bif Nat.ble pc 1 then (bif Nat.beq pc 1 then some (.istore_n 2, 1, 2, [], 0) else none)
  else (bif Nat.beq pc 2 then some (.iconst 1, 1, 3, [], 1) else none))) : nk_F) pc
  else ((fun pc => bif Nat.ble pc 3 then (bif Nat.beq pc 3 then some (.istore_n 3, 1, 4, [], 0) else none)
  else (bif Nat.ble pc 4 then (bif Nat.beq pc 4 then some (.iload_n 3, 1, 5, [], 0) else none)
  else (bif Nat.beq pc 5 then some (.sipush 10000, 3, 8, [], 10000) else none))) : nk_F) pc) : nk_F) pc
  else ((fun pc => bif Nat.ble pc 12 then ((fun pc => bif Nat.ble pc 8 then (bif Nat.beq pc 8 then some (.if_icmp .gt 32, 3, 11, [40], 0) else none)
  else (bif Nat.ble pc 11 then (bif Nat.beq pc 11 then some (.iload_n 2, 1, 12, [], 0) else none)
  else (bif Nat.beq pc 12 then some (.iload_n 0, 1, 13, [], 0) else none))) : nk_F) pc
  else ((fun pc => bif Nat.ble pc 14 then (bif Nat.ble pc 13 then (bif Nat.beq pc 13 then some (.iload_n 3, 1, 14, [], 0) else none)
  else (bif Nat.beq pc 14 then some (.invokestatic 164, 3, 17, [], 0) else none))
  else (bif Nat.ble pc 17 then (bif Nat.beq pc 17 then some (.iload_n 1, 1, 18, [], 0) else none)
  else (bif Nat.beq pc 18 then some (.iload_n 3, 1, 19, [], 0) else none))) : nk_F) pc) : nk_F) pc) : nk_F) pc
  else ((fun pc => bif Nat.ble pc 31 then ((fun pc => bif Nat.ble pc 25 then ((fun pc => bif Nat.ble pc 19 then (bif Nat.beq pc 19 then some (.invokestatic 164, 3, 22, [], 0) else none)
  else (bif Nat.ble pc 22 then (bif Nat.beq pc 22 then some (.if_icmp .ne 7, 3, 25, [29], 0) else none)
  else (bif Nat.beq pc 25 then some (.iconst 0, 1, 26, [], 0) else none))) : nk_F) pc
  else ((fun pc => bif Nat.ble pc 29 then (bif Nat.ble pc 26 then (bif Nat.beq pc 26 then some (.goto 4, 3, 29, [30], 0) else none)
  else (bif Nat.beq pc 29 then some (.iconst 1, 1, 30, [], 1) else none))
  else (bif Nat.ble pc 30 then (bif Nat.beq pc 30 then some (.iadd, 1, 31, [], 0) else none)
  else (bif Nat.beq pc 31 then some (.istore_n 2, 1, 32, [], 0) else none))) : nk_F) pc) : nk_F) pc
  else ((fun pc => bif Nat.ble pc 35 then ((fun pc => bif Nat.ble pc 32 then (bif Nat.beq pc 32 then some (.iload_n 3, 1, 33, [], 0) else none)
  else (bif Nat.ble pc 33 then (bif Nat.beq pc 33 then some (.bipush 10, 2, 35, [], 10) else none)
  else (bif Nat.beq pc 35 then some (.imul, 1, 36, [], 0) else none))) : nk_F) pc
  else ((fun pc => bif Nat.ble pc 37 then (bif Nat.ble pc 36 then (bif Nat.beq pc 36 then some (.istore_n 3, 1, 37, [], 0) else none)
  else (bif Nat.beq pc 37 then some (.goto (-33), 3, 40, [4], 0) else none))
  else (bif Nat.ble pc 40 then (bif Nat.beq pc 40 then some (.iload_n 2, 1, 41, [], 0) else none)
  else (bif Nat.beq pc 41 then some (.ireturn, 1, 42, [], 0) else none))) : nk_F) pc) : nk_F) pc) : nk_F) pc
noncomputable def kc_X6_words : Nat → Option nk_I := nk_top 42 kt_X6_words
noncomputable def kx_X6_words : nk_T := ([], [(658, 2, 0, 0, 0, ev_X6_figure)], [], [], [], [], [], 1, false, 0, 0)
noncomputable def ev_X6_words : nk_Ev := fun as h Q => nk_if (Nat.ble (nk_wd as) 4) (nk_ev kx_X6_words kc_X6_words 4 as h Q)
set_option maxRecDepth 100000 in
theorem ck_X6_words : nk_chk cX6_words kc_X6_words 42 = true := nd_chk (by decide +kernel) (by decide +kernel)
set_option maxRecDepth 100000 in
set_option maxHeartbeats 4000000 in
theorem ca_X6_words_658 (l : Launch) : nk_CallOk l { frames := 1, cells := 0, slots := 0, locals := 21 } RX6 cX6_words 4 false 658 (2, 0, 0, 0, ev_X6_figure) := nk_callS (x := 164) (n := 2) (mt_X6_figure l) (nk_msc [(4, 183), (4, 184), (4, 185), (1, 7)] (by decide +kernel)) rfl rfl (by decide +kernel) ⟨by decide, by decide⟩
set_option maxRecDepth 100000 in
set_option maxHeartbeats 4000000 in
theorem mt_X6_words (l : Launch) : nk_Met l yX6_words cX6_words 4 (some .int) { frames := 1, cells := 0, slots := 0, locals := 21 } false 0 0 ev_X6_words :=
  nk_met nk_gok (plainFor_of_name (by decide)) ck_X6_words (nk_top_out 42 kt_X6_words) ⟨fun _ h => absurd h List.not_mem_nil, List.forall_mem_cons.mpr ⟨ca_X6_words_658 l, fun _ h => absurd h List.not_mem_nil⟩, fun _ h => absurd h List.not_mem_nil, fun _ h => absurd h List.not_mem_nil, fun _ h => absurd h List.not_mem_nil, fun _ h => absurd h List.not_mem_nil, fun _ h => absurd h List.not_mem_nil, by decide, rfl, rfl⟩ rfl (by decide)
/-! MarbleLawModel.stop(IIII)I -/
noncomputable def kt_X6_stop : Nat → Option nk_I := fun pc => bif Nat.ble pc 80 then ((fun pc => bif Nat.ble pc 45 then ((fun pc => bif Nat.ble pc 21 then ((fun pc => bif Nat.ble pc 6 then ((fun pc => bif Nat.ble pc 2 then ((fun pc => bif Nat.ble pc 0 then (bif Nat.beq pc 0 then some (.aload_n 0, 1, 1, [], 0) else none)
  else (bif Nat.ble pc 1 then (bif Nat.beq pc 1 then some (.iload_n 1, 1, 2, [], 0) else none)
  else (bif Nat.beq pc 2 then some (.iload_n 2, 1, 3, [], 0) else none))) : nk_F) pc
  else ((fun pc => bif Nat.ble pc 3 then (bif Nat.beq pc 3 then some (.iload_n 3, 1, 4, [], 0) else none)
  else (bif Nat.ble pc 4 then (bif Nat.beq pc 4 then some (.iload 4, 2, 6, [], 0) else none)
  else (bif Nat.beq pc 6 then some (.invokevirtual 260, 3, 9, [], 0) else none))) : nk_F) pc) : nk_F) pc
  else ((fun pc => bif Nat.ble pc 13 then ((fun pc => bif Nat.ble pc 9 then (bif Nat.beq pc 9 then some (.istore 5, 2, 11, [], 0) else none)
  else (bif Nat.ble pc 11 then (bif Nat.beq pc 11 then some (.iload 5, 2, 13, [], 0) else none)
  else (bif Nat.beq pc 13 then some (.ifCond .ge 6, 3, 16, [19], 0) else none))) : nk_F) pc
  else ((fun pc => bif Nat.ble pc 18 then (bif Nat.ble pc 16 then (bif Nat.beq pc 16 then some (.iload 5, 2, 18, [], 0) else none)
  else (bif Nat.beq pc 18 then some (.ireturn, 1, 19, [], 0) else none))
  else (bif Nat.ble pc 19 then (bif Nat.beq pc 19 then some (.bipush (-9), 2, 21, [], (-9)) else none)
  else (bif Nat.beq pc 21 then some (.istore 6, 2, 23, [], 0) else none))) : nk_F) pc) : nk_F) pc) : nk_F) pc
  else ((fun pc => bif Nat.ble pc 31 then ((fun pc => bif Nat.ble pc 26 then ((fun pc => bif Nat.ble pc 23 then (bif Nat.beq pc 23 then some (.iconst 0, 1, 24, [], 0) else none)
  else (bif Nat.ble pc 24 then (bif Nat.beq pc 24 then some (.istore 7, 2, 26, [], 0) else none)
  else (bif Nat.beq pc 26 then some (.iconst 0, 1, 27, [], 0) else none))) : nk_F) pc
  else ((fun pc => bif Nat.ble pc 27 then (bif Nat.beq pc 27 then some (.istore 8, 2, 29, [], 0) else none)
  else (bif Nat.ble pc 29 then (bif Nat.beq pc 29 then some (.iload 8, 2, 31, [], 0) else none)
  else (bif Nat.beq pc 31 then some (.bipush 48, 2, 33, [], 48) else none))) : nk_F) pc) : nk_F) pc
  else ((fun pc => bif Nat.ble pc 39 then ((fun pc => bif Nat.ble pc 33 then (bif Nat.beq pc 33 then some (.if_icmp .ge 131, 3, 36, [164], 0) else none)
  else (bif Nat.ble pc 36 then (bif Nat.beq pc 36 then some (.sipush 10000, 3, 39, [], 10000) else none)
  else (bif Nat.beq pc 39 then some (.iconst 1, 1, 40, [], 1) else none))) : nk_F) pc
  else ((fun pc => bif Nat.ble pc 42 then (bif Nat.ble pc 40 then (bif Nat.beq pc 40 then some (.iload 8, 2, 42, [], 0) else none)
  else (bif Nat.beq pc 42 then some (.bipush 16, 2, 44, [], 16) else none))
  else (bif Nat.ble pc 44 then (bif Nat.beq pc 44 then some (.idiv, 1, 45, [], 0) else none)
  else (bif Nat.beq pc 45 then some (.iadd, 1, 46, [], 0) else none))) : nk_F) pc) : nk_F) pc) : nk_F) pc) : nk_F) pc
  else ((fun pc => bif Nat.ble pc 63 then ((fun pc => bif Nat.ble pc 55 then ((fun pc => bif Nat.ble pc 50 then ((fun pc => bif Nat.ble pc 46 then (bif Nat.beq pc 46 then some (.imul, 1, 47, [], 0) else none)
  else (bif Nat.ble pc 47 then (bif Nat.beq pc 47 then some (.sipush 1000, 3, 50, [], 1000) else none)
  else (bif Nat.beq pc 50 then some (.iconst 1, 1, 51, [], 1) else none))) : nk_F) pc
  else ((fun pc => bif Nat.ble pc 51 then (bif Nat.beq pc 51 then some (.iload 8, 2, 53, [], 0) else none)
  else (bif Nat.ble pc 53 then (bif Nat.beq pc 53 then some (.bipush 8, 2, 55, [], 8) else none)
  else (bif Nat.beq pc 55 then some (.idiv, 1, 56, [], 0) else none))) : nk_F) pc) : nk_F) pc
  else ((fun pc => bif Nat.ble pc 58 then ((fun pc => bif Nat.ble pc 56 then (bif Nat.beq pc 56 then some (.iconst 2, 1, 57, [], 2) else none)
  else (bif Nat.ble pc 57 then (bif Nat.beq pc 57 then some (.irem, 1, 58, [], 0) else none)
  else (bif Nat.beq pc 58 then some (.iadd, 1, 59, [], 0) else none))) : nk_F) pc
  else ((fun pc => bif Nat.ble pc 60 then (bif Nat.ble pc 59 then (bif Nat.beq pc 59 then some (.imul, 1, 60, [], 0) else none)
  else (bif Nat.beq pc 60 then some (.iadd, 1, 61, [], 0) else none))
  else (bif Nat.ble pc 61 then (bif Nat.beq pc 61 then some (.bipush 100, 2, 63, [], 100) else none)
  else (bif Nat.beq pc 63 then some (.iconst 1, 1, 64, [], 1) else none))) : nk_F) pc) : nk_F) pc) : nk_F) pc
  else ((fun pc => bif Nat.ble pc 71 then ((fun pc => bif Nat.ble pc 67 then ((fun pc => bif Nat.ble pc 64 then (bif Nat.beq pc 64 then some (.iload 8, 2, 66, [], 0) else none)
  else (bif Nat.ble pc 66 then (bif Nat.beq pc 66 then some (.iconst 4, 1, 67, [], 4) else none)
  else (bif Nat.beq pc 67 then some (.idiv, 1, 68, [], 0) else none))) : nk_F) pc
  else ((fun pc => bif Nat.ble pc 69 then (bif Nat.ble pc 68 then (bif Nat.beq pc 68 then some (.iconst 2, 1, 69, [], 2) else none)
  else (bif Nat.beq pc 69 then some (.irem, 1, 70, [], 0) else none))
  else (bif Nat.ble pc 70 then (bif Nat.beq pc 70 then some (.iadd, 1, 71, [], 0) else none)
  else (bif Nat.beq pc 71 then some (.imul, 1, 72, [], 0) else none))) : nk_F) pc) : nk_F) pc
  else ((fun pc => bif Nat.ble pc 75 then ((fun pc => bif Nat.ble pc 72 then (bif Nat.beq pc 72 then some (.iadd, 1, 73, [], 0) else none)
  else (bif Nat.ble pc 73 then (bif Nat.beq pc 73 then some (.bipush 10, 2, 75, [], 10) else none)
  else (bif Nat.beq pc 75 then some (.iconst 1, 1, 76, [], 1) else none))) : nk_F) pc
  else ((fun pc => bif Nat.ble pc 78 then (bif Nat.ble pc 76 then (bif Nat.beq pc 76 then some (.iload 8, 2, 78, [], 0) else none)
  else (bif Nat.beq pc 78 then some (.iconst 2, 1, 79, [], 2) else none))
  else (bif Nat.ble pc 79 then (bif Nat.beq pc 79 then some (.idiv, 1, 80, [], 0) else none)
  else (bif Nat.beq pc 80 then some (.iconst 2, 1, 81, [], 2) else none))) : nk_F) pc) : nk_F) pc) : nk_F) pc) : nk_F) pc) : nk_F) pc
  else ((fun pc => bif Nat.ble pc 123 then ((fun pc => bif Nat.ble pc 96 then ((fun pc => bif Nat.ble pc 86 then ((fun pc => bif Nat.ble pc 83 then ((fun pc => bif Nat.ble pc 81 then (bif Nat.beq pc 81 then some (.irem, 1, 82, [], 0) else none)
  else (bif Nat.ble pc 82 then (bif Nat.beq pc 82 then some (.iadd, 1, 83, [], 0) else none)
  else (bif Nat.beq pc 83 then some (.imul, 1, 84, [], 0) else none))) : nk_F) pc
  else ((fun pc => bif Nat.ble pc 84 then (bif Nat.beq pc 84 then some (.iadd, 1, 85, [], 0) else none)
  else (bif Nat.ble pc 85 then (bif Nat.beq pc 85 then some (.iconst 1, 1, 86, [], 1) else none)
  else (bif Nat.beq pc 86 then some (.iadd, 1, 87, [], 0) else none))) : nk_F) pc) : nk_F) pc
  else ((fun pc => bif Nat.ble pc 90 then ((fun pc => bif Nat.ble pc 87 then (bif Nat.beq pc 87 then some (.iload 8, 2, 89, [], 0) else none)
  else (bif Nat.ble pc 89 then (bif Nat.beq pc 89 then some (.iconst 2, 1, 90, [], 2) else none)
  else (bif Nat.beq pc 90 then some (.irem, 1, 91, [], 0) else none))) : nk_F) pc
  else ((fun pc => bif Nat.ble pc 92 then (bif Nat.ble pc 91 then (bif Nat.beq pc 91 then some (.iadd, 1, 92, [], 0) else none)
  else (bif Nat.beq pc 92 then some (.istore 9, 2, 94, [], 0) else none))
  else (bif Nat.ble pc 94 then (bif Nat.beq pc 94 then some (.iload 9, 2, 96, [], 0) else none)
  else (bif Nat.beq pc 96 then some (.aload_n 0, 1, 97, [], 0) else none))) : nk_F) pc) : nk_F) pc) : nk_F) pc
  else ((fun pc => bif Nat.ble pc 109 then ((fun pc => bif Nat.ble pc 101 then ((fun pc => bif Nat.ble pc 97 then (bif Nat.beq pc 97 then some (.getfield 38, 3, 100, [], 0) else none)
  else (bif Nat.ble pc 100 then (bif Nat.beq pc 100 then some (.iload_n 1, 1, 101, [], 0) else none)
  else (bif Nat.beq pc 101 then some (.iaload, 1, 102, [], 0) else none))) : nk_F) pc
  else ((fun pc => bif Nat.ble pc 105 then (bif Nat.ble pc 102 then (bif Nat.beq pc 102 then some (.invokestatic 266, 3, 105, [], 0) else none)
  else (bif Nat.beq pc 105 then some (.istore 10, 2, 107, [], 0) else none))
  else (bif Nat.ble pc 107 then (bif Nat.beq pc 107 then some (.iload 6, 2, 109, [], 0) else none)
  else (bif Nat.beq pc 109 then some (.ifCond .lt 10, 3, 112, [119], 0) else none))) : nk_F) pc) : nk_F) pc
  else ((fun pc => bif Nat.ble pc 116 then ((fun pc => bif Nat.ble pc 112 then (bif Nat.beq pc 112 then some (.iload 10, 2, 114, [], 0) else none)
  else (bif Nat.ble pc 114 then (bif Nat.beq pc 114 then some (.iload 7, 2, 116, [], 0) else none)
  else (bif Nat.beq pc 116 then some (.if_icmp .ge 42, 3, 119, [158], 0) else none))) : nk_F) pc
  else ((fun pc => bif Nat.ble pc 120 then (bif Nat.ble pc 119 then (bif Nat.beq pc 119 then some (.aload_n 0, 1, 120, [], 0) else none)
  else (bif Nat.beq pc 120 then some (.iload 9, 2, 122, [], 0) else none))
  else (bif Nat.ble pc 122 then (bif Nat.beq pc 122 then some (.iconst 0, 1, 123, [], 0) else none)
  else (bif Nat.beq pc 123 then some (.aload_n 0, 1, 124, [], 0) else none))) : nk_F) pc) : nk_F) pc) : nk_F) pc) : nk_F) pc
  else ((fun pc => bif Nat.ble pc 150 then ((fun pc => bif Nat.ble pc 136 then ((fun pc => bif Nat.ble pc 129 then ((fun pc => bif Nat.ble pc 124 then (bif Nat.beq pc 124 then some (.getfield 146, 3, 127, [], 0) else none)
  else (bif Nat.ble pc 127 then (bif Nat.beq pc 127 then some (.bipush (-9), 2, 129, [], (-9)) else none)
  else (bif Nat.beq pc 129 then some (.invokevirtual 224, 3, 132, [], 0) else none))) : nk_F) pc
  else ((fun pc => bif Nat.ble pc 132 then (bif Nat.beq pc 132 then some (.ifCond .eq 26, 3, 135, [158], 0) else none)
  else (bif Nat.ble pc 135 then (bif Nat.beq pc 135 then some (.aload_n 0, 1, 136, [], 0) else none)
  else (bif Nat.beq pc 136 then some (.iload 9, 2, 138, [], 0) else none))) : nk_F) pc) : nk_F) pc
  else ((fun pc => bif Nat.ble pc 140 then ((fun pc => bif Nat.ble pc 138 then (bif Nat.beq pc 138 then some (.iload_n 2, 1, 139, [], 0) else none)
  else (bif Nat.ble pc 139 then (bif Nat.beq pc 139 then some (.iload_n 3, 1, 140, [], 0) else none)
  else (bif Nat.beq pc 140 then some (.iload 4, 2, 142, [], 0) else none))) : nk_F) pc
  else ((fun pc => bif Nat.ble pc 145 then (bif Nat.ble pc 142 then (bif Nat.beq pc 142 then some (.invokevirtual 263, 3, 145, [], 0) else none)
  else (bif Nat.beq pc 145 then some (.bipush (-9), 2, 147, [], (-9)) else none))
  else (bif Nat.ble pc 147 then (bif Nat.beq pc 147 then some (.if_icmp .ne 11, 3, 150, [158], 0) else none)
  else (bif Nat.beq pc 150 then some (.iload 9, 2, 152, [], 0) else none))) : nk_F) pc) : nk_F) pc) : nk_F) pc
  else ((fun pc => bif Nat.ble pc 166 then ((fun pc => bif Nat.ble pc 156 then ((fun pc => bif Nat.ble pc 152 then (bif Nat.beq pc 152 then some (.istore 6, 2, 154, [], 0) else none)
  else (bif Nat.ble pc 154 then (bif Nat.beq pc 154 then some (.iload 10, 2, 156, [], 0) else none)
  else (bif Nat.beq pc 156 then some (.istore 7, 2, 158, [], 0) else none))) : nk_F) pc
  else ((fun pc => bif Nat.ble pc 161 then (bif Nat.ble pc 158 then (bif Nat.beq pc 158 then some (.iinc 8 1, 3, 161, [], 1) else none)
  else (bif Nat.beq pc 161 then some (.goto (-132), 3, 164, [29], 0) else none))
  else (bif Nat.ble pc 164 then (bif Nat.beq pc 164 then some (.iload 6, 2, 166, [], 0) else none)
  else (bif Nat.beq pc 166 then some (.ifCond .ge 8, 3, 169, [174], 0) else none))) : nk_F) pc) : nk_F) pc
  else ((fun pc => bif Nat.ble pc 174 then ((fun pc => bif Nat.ble pc 169 then (bif Nat.beq pc 169 then some (.bipush (-9), 2, 171, [], (-9)) else none)
  else (bif Nat.ble pc 171 then (bif Nat.beq pc 171 then some (.goto 11, 3, 174, [182], 0) else none)
  else (bif Nat.beq pc 174 then some (.aload_n 0, 1, 175, [], 0) else none))) : nk_F) pc
  else ((fun pc => bif Nat.ble pc 177 then (bif Nat.ble pc 175 then (bif Nat.beq pc 175 then some (.iload 7, 2, 177, [], 0) else none)
  else (bif Nat.beq pc 177 then some (.iload 6, 2, 179, [], 0) else none))
  else (bif Nat.ble pc 179 then (bif Nat.beq pc 179 then some (.invokevirtual 111, 3, 182, [], 0) else none)
  else (bif Nat.beq pc 182 then some (.ireturn, 1, 183, [], 0) else none))) : nk_F) pc) : nk_F) pc) : nk_F) pc) : nk_F) pc) : nk_F) pc
noncomputable def kc_X6_stop : Nat → Option nk_I := nk_top 183 kt_X6_stop
noncomputable def kx_X6_stop : nk_T := ([(38, 6, 14, 4), (146, 6, 12, 0)], [(1040, 5, 7, 0, 0, ev_X6_askedSly), (1066, 2, 0, 0, 0, ev_X6_words), (896, 5, 7, 0, 0, ev_X6_goes), (1052, 5, 7, 0, 0, ev_X6_slyBy), (444, 3, 7, 0, 0, ev_X6_ask)], [], [], [], [], [], 1, false, 0, 0)
noncomputable def ev_X6_stop : nk_Ev := fun as h Q => nk_if (Nat.ble (nk_wd as) 11) (nk_ev kx_X6_stop kc_X6_stop 11 as h Q)
set_option maxRecDepth 100000 in
theorem ck_X6_stop : nk_chk cX6_stop kc_X6_stop 183 = true := nd_chk (by decide +kernel) (by decide +kernel)
set_option maxRecDepth 100000 in
set_option maxHeartbeats 4000000 in
theorem ca_X6_stop_1040 (l : Launch) : nk_CallOk l { frames := 7, cells := 0, slots := 0, locals := 184 } RX6 cX6_stop 11 false 1040 (5, 7, 0, 0, ev_X6_askedSly) := nk_callV (x := 260) (n := 4) (ci := 6) (r := (RX6, TX6, 32)) (mt_X6_askedSly l) rfl (nk_msc [(5, 90), (5, 91), (5, 92), (5, 93), (0, 55), (1, 7)] (by decide +kernel)) rfl rfl (by decide +kernel) ⟨by decide, by decide⟩
set_option maxRecDepth 100000 in
set_option maxHeartbeats 4000000 in
theorem ca_X6_stop_1066 (l : Launch) : nk_CallOk l { frames := 7, cells := 0, slots := 0, locals := 184 } RX6 cX6_stop 11 false 1066 (2, 0, 0, 0, ev_X6_words) := nk_callS (x := 266) (n := 2) (mt_X6_words l) (nk_msc [(5, 106), (5, 107), (5, 108), (1, 7)] (by decide +kernel)) rfl rfl (by decide +kernel) ⟨by decide, by decide⟩
set_option maxRecDepth 100000 in
set_option maxHeartbeats 4000000 in
theorem ca_X6_stop_896 (l : Launch) : nk_CallOk l { frames := 7, cells := 0, slots := 0, locals := 184 } RX6 cX6_stop 11 false 896 (5, 7, 0, 0, ev_X6_goes) := nk_callV (x := 224) (n := 4) (ci := 6) (r := (RX6, TX6, 32)) (mt_X6_goes l) rfl (nk_msc [(4, 208), (4, 209), (4, 210), (4, 211), (0, 39), (1, 7)] (by decide +kernel)) rfl rfl (by decide +kernel) ⟨by decide, by decide⟩
set_option maxRecDepth 100000 in
set_option maxHeartbeats 4000000 in
theorem ca_X6_stop_1052 (l : Launch) : nk_CallOk l { frames := 7, cells := 0, slots := 0, locals := 184 } RX6 cX6_stop 11 false 1052 (5, 7, 0, 0, ev_X6_slyBy) := nk_callV (x := 263) (n := 4) (ci := 6) (r := (RX6, TX6, 32)) (mt_X6_slyBy l) rfl (nk_msc [(5, 94), (5, 95), (5, 96), (5, 97), (0, 56), (1, 7)] (by decide +kernel)) rfl rfl (by decide +kernel) ⟨by decide, by decide⟩
set_option maxRecDepth 100000 in
set_option maxHeartbeats 4000000 in
theorem ca_X6_stop_444 (l : Launch) : nk_CallOk l { frames := 7, cells := 0, slots := 0, locals := 184 } RX6 cX6_stop 11 false 444 (3, 7, 0, 0, ev_X6_ask) := nk_callV (x := 111) (n := 2) (ci := 6) (r := (RX6, TX6, 32)) (mt_X6_ask l) rfl (nk_msc [(4, 76), (4, 77), (4, 78), (4, 79), (0, 29), (1, 7)] (by decide +kernel)) rfl rfl (by decide +kernel) ⟨by decide, by decide⟩
set_option maxRecDepth 100000 in
set_option maxHeartbeats 4000000 in
theorem mt_X6_stop (l : Launch) : nk_Met l yX6_stop cX6_stop 11 (some .int) { frames := 7, cells := 0, slots := 0, locals := 184 } false 0 0 ev_X6_stop :=
  nk_met nk_gok (plainFor_of_name (by decide)) ck_X6_stop (nk_top_out 183 kt_X6_stop) ⟨List.forall_mem_cons.mpr ⟨nk_fkc [(3, 207)] (by decide +kernel), List.forall_mem_cons.mpr ⟨nk_fkc [(3, 205)] (by decide +kernel), fun _ h => absurd h List.not_mem_nil⟩⟩, List.forall_mem_cons.mpr ⟨ca_X6_stop_1040 l, List.forall_mem_cons.mpr ⟨ca_X6_stop_1066 l, List.forall_mem_cons.mpr ⟨ca_X6_stop_896 l, List.forall_mem_cons.mpr ⟨ca_X6_stop_1052 l, List.forall_mem_cons.mpr ⟨ca_X6_stop_444 l, fun _ h => absurd h List.not_mem_nil⟩⟩⟩⟩⟩, fun _ h => absurd h List.not_mem_nil, fun _ h => absurd h List.not_mem_nil, fun _ h => absurd h List.not_mem_nil, fun _ h => absurd h List.not_mem_nil, fun _ h => absurd h List.not_mem_nil, by decide, rfl, rfl⟩ rfl (by decide)
/-! MarbleLawModel.inTime(III)I -/
noncomputable def kt_X6_inTime : Nat → Option nk_I := fun pc => bif Nat.ble pc 38 then ((fun pc => bif Nat.ble pc 18 then ((fun pc => bif Nat.ble pc 5 then ((fun pc => bif Nat.ble pc 2 then ((fun pc => bif Nat.ble pc 0 then (bif Nat.beq pc 0 then some (.aload_n 0, 1, 1, [], 0) else none)
  else (bif Nat.ble pc 1 then (bif Nat.beq pc 1 then some (.iload_n 1, 1, 2, [], 0) else none)
  else (bif Nat.beq pc 2 then some (.iload_n 2, 1, 3, [], 0) else none))) : nk_F) pc
  else ((fun pc => bif Nat.ble pc 3 then (bif Nat.beq pc 3 then some (.iload_n 3, 1, 4, [], 0) else none)
  else (bif Nat.ble pc 4 then (bif Nat.beq pc 4 then some (.iconst 0, 1, 5, [], 0) else none)
  else (bif Nat.beq pc 5 then some (.invokevirtual 260, 3, 8, [], 0) else none))) : nk_F) pc) : nk_F) pc
  else ((fun pc => bif Nat.ble pc 12 then ((fun pc => bif Nat.ble pc 8 then (bif Nat.beq pc 8 then some (.istore 4, 2, 10, [], 0) else none)
  else (bif Nat.ble pc 10 then (bif Nat.beq pc 10 then some (.iload 4, 2, 12, [], 0) else none)
  else (bif Nat.beq pc 12 then some (.ifCond .ge 6, 3, 15, [18], 0) else none))) : nk_F) pc
  else ((fun pc => bif Nat.ble pc 15 then (bif Nat.beq pc 15 then some (.iload 4, 2, 17, [], 0) else none)
  else (bif Nat.ble pc 17 then (bif Nat.beq pc 17 then some (.ireturn, 1, 18, [], 0) else none)
  else (bif Nat.beq pc 18 then some (.aload_n 0, 1, 19, [], 0) else none))) : nk_F) pc) : nk_F) pc) : nk_F) pc
  else ((fun pc => bif Nat.ble pc 26 then ((fun pc => bif Nat.ble pc 21 then ((fun pc => bif Nat.ble pc 19 then (bif Nat.beq pc 19 then some (.iload_n 2, 1, 20, [], 0) else none)
  else (bif Nat.ble pc 20 then (bif Nat.beq pc 20 then some (.iload_n 3, 1, 21, [], 0) else none)
  else (bif Nat.beq pc 21 then some (.invokevirtual 233, 3, 24, [], 0) else none))) : nk_F) pc
  else ((fun pc => bif Nat.ble pc 24 then (bif Nat.beq pc 24 then some (.lconst 0, 1, 25, [], 0) else none)
  else (bif Nat.ble pc 25 then (bif Nat.beq pc 25 then some (.lcmp, 1, 26, [], 0) else none)
  else (bif Nat.beq pc 26 then some (.ifCond .le 6, 3, 29, [32], 0) else none))) : nk_F) pc) : nk_F) pc
  else ((fun pc => bif Nat.ble pc 32 then ((fun pc => bif Nat.ble pc 29 then (bif Nat.beq pc 29 then some (.bipush (-9), 2, 31, [], (-9)) else none)
  else (bif Nat.ble pc 31 then (bif Nat.beq pc 31 then some (.ireturn, 1, 32, [], 0) else none)
  else (bif Nat.beq pc 32 then some (.aload_n 0, 1, 33, [], 0) else none))) : nk_F) pc
  else ((fun pc => bif Nat.ble pc 36 then (bif Nat.ble pc 33 then (bif Nat.beq pc 33 then some (.getfield 146, 3, 36, [], 0) else none)
  else (bif Nat.beq pc 36 then some (.iconst 1, 1, 37, [], 1) else none))
  else (bif Nat.ble pc 37 then (bif Nat.beq pc 37 then some (.isub, 1, 38, [], 0) else none)
  else (bif Nat.beq pc 38 then some (.istore 5, 2, 40, [], 0) else none))) : nk_F) pc) : nk_F) pc) : nk_F) pc) : nk_F) pc
  else ((fun pc => bif Nat.ble pc 62 then ((fun pc => bif Nat.ble pc 50 then ((fun pc => bif Nat.ble pc 45 then ((fun pc => bif Nat.ble pc 40 then (bif Nat.beq pc 40 then some (.iload 5, 2, 42, [], 0) else none)
  else (bif Nat.ble pc 42 then (bif Nat.beq pc 42 then some (.ifCond .lt 43, 3, 45, [85], 0) else none)
  else (bif Nat.beq pc 45 then some (.aload_n 0, 1, 46, [], 0) else none))) : nk_F) pc
  else ((fun pc => bif Nat.ble pc 46 then (bif Nat.beq pc 46 then some (.aload_n 0, 1, 47, [], 0) else none)
  else (bif Nat.ble pc 47 then (bif Nat.beq pc 47 then some (.getfield 38, 3, 50, [], 0) else none)
  else (bif Nat.beq pc 50 then some (.iload_n 1, 1, 51, [], 0) else none))) : nk_F) pc) : nk_F) pc
  else ((fun pc => bif Nat.ble pc 53 then ((fun pc => bif Nat.ble pc 51 then (bif Nat.beq pc 51 then some (.iaload, 1, 52, [], 0) else none)
  else (bif Nat.ble pc 52 then (bif Nat.beq pc 52 then some (.iconst 0, 1, 53, [], 0) else none)
  else (bif Nat.beq pc 53 then some (.aload_n 0, 1, 54, [], 0) else none))) : nk_F) pc
  else ((fun pc => bif Nat.ble pc 57 then (bif Nat.ble pc 54 then (bif Nat.beq pc 54 then some (.getfield 146, 3, 57, [], 0) else none)
  else (bif Nat.beq pc 57 then some (.iload 5, 2, 59, [], 0) else none))
  else (bif Nat.ble pc 59 then (bif Nat.beq pc 59 then some (.invokevirtual 224, 3, 62, [], 0) else none)
  else (bif Nat.beq pc 62 then some (.ifCond .eq 17, 3, 65, [79], 0) else none))) : nk_F) pc) : nk_F) pc) : nk_F) pc
  else ((fun pc => bif Nat.ble pc 72 then ((fun pc => bif Nat.ble pc 67 then ((fun pc => bif Nat.ble pc 65 then (bif Nat.beq pc 65 then some (.aload_n 0, 1, 66, [], 0) else none)
  else (bif Nat.ble pc 66 then (bif Nat.beq pc 66 then some (.iload_n 2, 1, 67, [], 0) else none)
  else (bif Nat.beq pc 67 then some (.iload_n 3, 1, 68, [], 0) else none))) : nk_F) pc
  else ((fun pc => bif Nat.ble pc 68 then (bif Nat.beq pc 68 then some (.invokevirtual 233, 3, 71, [], 0) else none)
  else (bif Nat.ble pc 71 then (bif Nat.beq pc 71 then some (.lconst 0, 1, 72, [], 0) else none)
  else (bif Nat.beq pc 72 then some (.lcmp, 1, 73, [], 0) else none))) : nk_F) pc) : nk_F) pc
  else ((fun pc => bif Nat.ble pc 78 then ((fun pc => bif Nat.ble pc 73 then (bif Nat.beq pc 73 then some (.ifCond .le 6, 3, 76, [79], 0) else none)
  else (bif Nat.ble pc 76 then (bif Nat.beq pc 76 then some (.iload 5, 2, 78, [], 0) else none)
  else (bif Nat.beq pc 78 then some (.ireturn, 1, 79, [], 0) else none))) : nk_F) pc
  else ((fun pc => bif Nat.ble pc 82 then (bif Nat.ble pc 79 then (bif Nat.beq pc 79 then some (.iinc 5 (-1), 3, 82, [], (-1)) else none)
  else (bif Nat.beq pc 82 then some (.goto (-42), 3, 85, [40], 0) else none))
  else (bif Nat.ble pc 85 then (bif Nat.beq pc 85 then some (.bipush (-9), 2, 87, [], (-9)) else none)
  else (bif Nat.beq pc 87 then some (.ireturn, 1, 88, [], 0) else none))) : nk_F) pc) : nk_F) pc) : nk_F) pc) : nk_F) pc
noncomputable def kc_X6_inTime : Nat → Option nk_I := nk_top 88 kt_X6_inTime
noncomputable def kx_X6_inTime : nk_T := ([(146, 6, 12, 0), (38, 6, 14, 4)], [(1040, 5, 7, 0, 0, ev_X6_askedSly), (932, 3, 7, 0, 0, ev_X6_partOf), (896, 5, 7, 0, 0, ev_X6_goes)], [], [], [], [], [], 1, false, 0, 0)
noncomputable def ev_X6_inTime : nk_Ev := fun as h Q => nk_if (Nat.ble (nk_wd as) 6) (nk_ev kx_X6_inTime kc_X6_inTime 6 as h Q)
set_option maxRecDepth 100000 in
theorem ck_X6_inTime : nk_chk cX6_inTime kc_X6_inTime 88 = true := nd_chk (by decide +kernel) (by decide +kernel)
set_option maxRecDepth 100000 in
set_option maxHeartbeats 4000000 in
theorem ca_X6_inTime_1040 (l : Launch) : nk_CallOk l { frames := 7, cells := 0, slots := 0, locals := 184 } RX6 cX6_inTime 6 false 1040 (5, 7, 0, 0, ev_X6_askedSly) := nk_callV (x := 260) (n := 4) (ci := 6) (r := (RX6, TX6, 32)) (mt_X6_askedSly l) rfl (nk_msc [(5, 90), (5, 91), (5, 92), (5, 93), (0, 55), (1, 7)] (by decide +kernel)) rfl rfl (by decide +kernel) ⟨by decide, by decide⟩
set_option maxRecDepth 100000 in
set_option maxHeartbeats 4000000 in
theorem ca_X6_inTime_932 (l : Launch) : nk_CallOk l { frames := 7, cells := 0, slots := 0, locals := 184 } RX6 cX6_inTime 6 false 932 (3, 7, 0, 0, ev_X6_partOf) := nk_callV (x := 233) (n := 2) (ci := 6) (r := (RX6, TX6, 32)) (mt_X6_partOf l) rfl (nk_msc [(5, 30), (5, 31), (5, 32), (5, 33), (0, 49), (1, 7)] (by decide +kernel)) rfl rfl (by decide +kernel) ⟨by decide, by decide⟩
set_option maxRecDepth 100000 in
set_option maxHeartbeats 4000000 in
theorem ca_X6_inTime_896 (l : Launch) : nk_CallOk l { frames := 7, cells := 0, slots := 0, locals := 184 } RX6 cX6_inTime 6 false 896 (5, 7, 0, 0, ev_X6_goes) := nk_callV (x := 224) (n := 4) (ci := 6) (r := (RX6, TX6, 32)) (mt_X6_goes l) rfl (nk_msc [(4, 208), (4, 209), (4, 210), (4, 211), (0, 39), (1, 7)] (by decide +kernel)) rfl rfl (by decide +kernel) ⟨by decide, by decide⟩
set_option maxRecDepth 100000 in
set_option maxHeartbeats 4000000 in
theorem mt_X6_inTime (l : Launch) : nk_Met l yX6_inTime cX6_inTime 6 (some .int) { frames := 7, cells := 0, slots := 0, locals := 184 } false 0 0 ev_X6_inTime :=
  nk_met nk_gok (plainFor_of_name (by decide)) ck_X6_inTime (nk_top_out 88 kt_X6_inTime) ⟨List.forall_mem_cons.mpr ⟨nk_fkc [(3, 205)] (by decide +kernel), List.forall_mem_cons.mpr ⟨nk_fkc [(3, 207)] (by decide +kernel), fun _ h => absurd h List.not_mem_nil⟩⟩, List.forall_mem_cons.mpr ⟨ca_X6_inTime_1040 l, List.forall_mem_cons.mpr ⟨ca_X6_inTime_932 l, List.forall_mem_cons.mpr ⟨ca_X6_inTime_896 l, fun _ h => absurd h List.not_mem_nil⟩⟩⟩, fun _ h => absurd h List.not_mem_nil, fun _ h => absurd h List.not_mem_nil, fun _ h => absurd h List.not_mem_nil, fun _ h => absurd h List.not_mem_nil, fun _ h => absurd h List.not_mem_nil, by decide, rfl, rfl⟩ rfl (by decide)
/-! MarbleLawModel.isHeap(I)Z -/
noncomputable def kt_X6_isHeap : Nat → Option nk_I := fun pc => bif Nat.ble pc 1 then (bif Nat.ble pc 0 then (bif Nat.beq pc 0 then some (.iload_n 0, 1, 1, [], 0) else none)
  else (bif Nat.beq pc 1 then some (.iconst 0, 1, 2, [], 0) else none))
  else ((fun pc => bif Nat.ble pc 2 then (bif Nat.beq pc 2 then some (.iconst 3, 1, 3, [], 3) else none)
  else (bif Nat.ble pc 3 then (bif Nat.beq pc 3 then some (.invokestatic 89, 3, 6, [], 0) else none)
  else (bif Nat.beq pc 6 then some (.ireturn, 1, 7, [], 0) else none))) : nk_F) pc
noncomputable def kc_X6_isHeap : Nat → Option nk_I := nk_top 7 kt_X6_isHeap
noncomputable def kx_X6_isHeap : nk_T := ([], [(358, 3, 0, 0, 0, ev_X6_in)], [], [], [], [], [], 2, false, 0, 0)
noncomputable def ev_X6_isHeap : nk_Ev := fun as h Q => nk_if (Nat.ble (nk_wd as) 1) (nk_ev kx_X6_isHeap kc_X6_isHeap 1 as h Q)
set_option maxRecDepth 100000 in
theorem ck_X6_isHeap : nk_chk cX6_isHeap kc_X6_isHeap 7 = true := nd_chk (by decide +kernel) (by decide +kernel)
set_option maxRecDepth 100000 in
set_option maxHeartbeats 4000000 in
theorem ca_X6_isHeap_358 (l : Launch) : nk_CallOk l { frames := 1, cells := 0, slots := 0, locals := 22 } RX6 cX6_isHeap 1 false 358 (3, 0, 0, 0, ev_X6_in) := nk_callS (x := 89) (n := 3) (mt_X6_in l) (nk_msc [(4, 57), (4, 58), (4, 59), (1, 7)] (by decide +kernel)) rfl rfl (by decide +kernel) ⟨by decide, by decide⟩
set_option maxRecDepth 100000 in
set_option maxHeartbeats 4000000 in
theorem mt_X6_isHeap (l : Launch) : nk_Met l yX6_isHeap cX6_isHeap 1 (some .boolean) { frames := 1, cells := 0, slots := 0, locals := 22 } false 0 0 ev_X6_isHeap :=
  nk_met nk_gok (plainFor_of_name (by decide)) ck_X6_isHeap (nk_top_out 7 kt_X6_isHeap) ⟨fun _ h => absurd h List.not_mem_nil, List.forall_mem_cons.mpr ⟨ca_X6_isHeap_358 l, fun _ h => absurd h List.not_mem_nil⟩, fun _ h => absurd h List.not_mem_nil, fun _ h => absurd h List.not_mem_nil, fun _ h => absurd h List.not_mem_nil, fun _ h => absurd h List.not_mem_nil, fun _ h => absurd h List.not_mem_nil, by decide, rfl, rfl⟩ rfl (by decide)
/-! MarbleLawModel.heap(III)I -/
noncomputable def kt_X6_heap : Nat → Option nk_I := fun pc => bif Nat.ble pc 52 then ((fun pc => bif Nat.ble pc 26 then ((fun pc => bif Nat.ble pc 14 then ((fun pc => bif Nat.ble pc 4 then ((fun pc => bif Nat.ble pc 0 then (bif Nat.beq pc 0 then some (.iload_n 1, 1, 1, [], 0) else none)
  else (bif Nat.ble pc 1 then (bif Nat.beq pc 1 then some (.invokestatic 269, 3, 4, [], 0) else none)
  else (bif Nat.beq pc 4 then some (.ifCond .eq 20, 3, 7, [24], 0) else none))) : nk_F) pc
  else ((fun pc => bif Nat.ble pc 8 then (bif Nat.ble pc 7 then (bif Nat.beq pc 7 then some (.iload_n 2, 1, 8, [], 0) else none)
  else (bif Nat.beq pc 8 then some (.invokestatic 123, 3, 11, [], 0) else none))
  else (bif Nat.ble pc 11 then (bif Nat.beq pc 11 then some (.ifCond .eq 13, 3, 14, [24], 0) else none)
  else (bif Nat.beq pc 14 then some (.iload_n 3, 1, 15, [], 0) else none))) : nk_F) pc) : nk_F) pc
  else ((fun pc => bif Nat.ble pc 18 then ((fun pc => bif Nat.ble pc 15 then (bif Nat.beq pc 15 then some (.iconst 1, 1, 16, [], 1) else none)
  else (bif Nat.ble pc 16 then (bif Nat.beq pc 16 then some (.bipush 99, 2, 18, [], 99) else none)
  else (bif Nat.beq pc 18 then some (.invokestatic 89, 3, 21, [], 0) else none))) : nk_F) pc
  else ((fun pc => bif Nat.ble pc 24 then (bif Nat.ble pc 21 then (bif Nat.beq pc 21 then some (.ifCond .ne 5, 3, 24, [26], 0) else none)
  else (bif Nat.beq pc 24 then some (.iconst (-1), 1, 25, [], (-1)) else none))
  else (bif Nat.ble pc 25 then (bif Nat.beq pc 25 then some (.ireturn, 1, 26, [], 0) else none)
  else (bif Nat.beq pc 26 then some (.aload_n 0, 1, 27, [], 0) else none))) : nk_F) pc) : nk_F) pc) : nk_F) pc
  else ((fun pc => bif Nat.ble pc 39 then ((fun pc => bif Nat.ble pc 31 then ((fun pc => bif Nat.ble pc 27 then (bif Nat.beq pc 27 then some (.getfield 66, 3, 30, [], 0) else none)
  else (bif Nat.ble pc 30 then (bif Nat.beq pc 30 then some (.iload_n 1, 1, 31, [], 0) else none)
  else (bif Nat.beq pc 31 then some (.iaload, 1, 32, [], 0) else none))) : nk_F) pc
  else ((fun pc => bif Nat.ble pc 34 then (bif Nat.ble pc 32 then (bif Nat.beq pc 32 then some (.bipush 20, 2, 34, [], 20) else none)
  else (bif Nat.beq pc 34 then some (.if_icmp .ne 6, 3, 37, [40], 0) else none))
  else (bif Nat.ble pc 37 then (bif Nat.beq pc 37 then some (.bipush (-2), 2, 39, [], (-2)) else none)
  else (bif Nat.beq pc 39 then some (.ireturn, 1, 40, [], 0) else none))) : nk_F) pc) : nk_F) pc
  else ((fun pc => bif Nat.ble pc 46 then ((fun pc => bif Nat.ble pc 41 then (bif Nat.ble pc 40 then (bif Nat.beq pc 40 then some (.aload_n 0, 1, 41, [], 0) else none)
  else (bif Nat.beq pc 41 then some (.getfield 69, 3, 44, [], 0) else none))
  else (bif Nat.ble pc 44 then (bif Nat.beq pc 44 then some (.bipush 20, 2, 46, [], 20) else none)
  else (bif Nat.beq pc 46 then some (.iload_n 1, 1, 47, [], 0) else none))) : nk_F) pc
  else ((fun pc => bif Nat.ble pc 48 then (bif Nat.ble pc 47 then (bif Nat.beq pc 47 then some (.imul, 1, 48, [], 0) else none)
  else (bif Nat.beq pc 48 then some (.aload_n 0, 1, 49, [], 0) else none))
  else (bif Nat.ble pc 49 then (bif Nat.beq pc 49 then some (.getfield 66, 3, 52, [], 0) else none)
  else (bif Nat.beq pc 52 then some (.iload_n 1, 1, 53, [], 0) else none))) : nk_F) pc) : nk_F) pc) : nk_F) pc) : nk_F) pc
  else ((fun pc => bif Nat.ble pc 71 then ((fun pc => bif Nat.ble pc 61 then ((fun pc => bif Nat.ble pc 55 then ((fun pc => bif Nat.ble pc 53 then (bif Nat.beq pc 53 then some (.iaload, 1, 54, [], 0) else none)
  else (bif Nat.ble pc 54 then (bif Nat.beq pc 54 then some (.iadd, 1, 55, [], 0) else none)
  else (bif Nat.beq pc 55 then some (.iload_n 2, 1, 56, [], 0) else none))) : nk_F) pc
  else ((fun pc => bif Nat.ble pc 57 then (bif Nat.ble pc 56 then (bif Nat.beq pc 56 then some (.iastore, 1, 57, [], 0) else none)
  else (bif Nat.beq pc 57 then some (.aload_n 0, 1, 58, [], 0) else none))
  else (bif Nat.ble pc 58 then (bif Nat.beq pc 58 then some (.getfield 72, 3, 61, [], 0) else none)
  else (bif Nat.beq pc 61 then some (.bipush 20, 2, 63, [], 20) else none))) : nk_F) pc) : nk_F) pc
  else ((fun pc => bif Nat.ble pc 65 then ((fun pc => bif Nat.ble pc 63 then (bif Nat.beq pc 63 then some (.iload_n 1, 1, 64, [], 0) else none)
  else (bif Nat.ble pc 64 then (bif Nat.beq pc 64 then some (.imul, 1, 65, [], 0) else none)
  else (bif Nat.beq pc 65 then some (.aload_n 0, 1, 66, [], 0) else none))) : nk_F) pc
  else ((fun pc => bif Nat.ble pc 69 then (bif Nat.ble pc 66 then (bif Nat.beq pc 66 then some (.getfield 66, 3, 69, [], 0) else none)
  else (bif Nat.beq pc 69 then some (.iload_n 1, 1, 70, [], 0) else none))
  else (bif Nat.ble pc 70 then (bif Nat.beq pc 70 then some (.iaload, 1, 71, [], 0) else none)
  else (bif Nat.beq pc 71 then some (.iadd, 1, 72, [], 0) else none))) : nk_F) pc) : nk_F) pc) : nk_F) pc
  else ((fun pc => bif Nat.ble pc 80 then ((fun pc => bif Nat.ble pc 74 then ((fun pc => bif Nat.ble pc 72 then (bif Nat.beq pc 72 then some (.iload_n 3, 1, 73, [], 0) else none)
  else (bif Nat.ble pc 73 then (bif Nat.beq pc 73 then some (.iastore, 1, 74, [], 0) else none)
  else (bif Nat.beq pc 74 then some (.aload_n 0, 1, 75, [], 0) else none))) : nk_F) pc
  else ((fun pc => bif Nat.ble pc 78 then (bif Nat.ble pc 75 then (bif Nat.beq pc 75 then some (.getfield 66, 3, 78, [], 0) else none)
  else (bif Nat.beq pc 78 then some (.iload_n 1, 1, 79, [], 0) else none))
  else (bif Nat.ble pc 79 then (bif Nat.beq pc 79 then some (.dup2, 1, 80, [], 0) else none)
  else (bif Nat.beq pc 80 then some (.iaload, 1, 81, [], 0) else none))) : nk_F) pc) : nk_F) pc
  else ((fun pc => bif Nat.ble pc 84 then ((fun pc => bif Nat.ble pc 82 then (bif Nat.ble pc 81 then (bif Nat.beq pc 81 then some (.iconst 1, 1, 82, [], 1) else none)
  else (bif Nat.beq pc 82 then some (.iadd, 1, 83, [], 0) else none))
  else (bif Nat.ble pc 83 then (bif Nat.beq pc 83 then some (.iastore, 1, 84, [], 0) else none)
  else (bif Nat.beq pc 84 then some (.aload_n 0, 1, 85, [], 0) else none))) : nk_F) pc
  else ((fun pc => bif Nat.ble pc 88 then (bif Nat.ble pc 85 then (bif Nat.beq pc 85 then some (.getfield 66, 3, 88, [], 0) else none)
  else (bif Nat.beq pc 88 then some (.iload_n 1, 1, 89, [], 0) else none))
  else (bif Nat.ble pc 89 then (bif Nat.beq pc 89 then some (.iaload, 1, 90, [], 0) else none)
  else (bif Nat.beq pc 90 then some (.ireturn, 1, 91, [], 0) else none))) : nk_F) pc) : nk_F) pc) : nk_F) pc) : nk_F) pc
noncomputable def kc_X6_heap : Nat → Option nk_I := nk_top 91 kt_X6_heap
noncomputable def kx_X6_heap : nk_T := ([(66, 6, 27, 4), (69, 6, 28, 4), (72, 6, 29, 4)], [(1078, 1, 0, 0, 0, ev_X6_isHeap), (494, 1, 0, 0, 0, ev_X6_isPerson), (358, 3, 0, 0, 0, ev_X6_in)], [], [], [], [], [], 1, false, 0, 0)
noncomputable def ev_X6_heap : nk_Ev := fun as h Q => nk_if (Nat.ble (nk_wd as) 4) (nk_ev kx_X6_heap kc_X6_heap 4 as h Q)
set_option maxRecDepth 100000 in
theorem ck_X6_heap : nk_chk cX6_heap kc_X6_heap 91 = true := nd_chk (by decide +kernel) (by decide +kernel)
set_option maxRecDepth 100000 in
set_option maxHeartbeats 4000000 in
theorem ca_X6_heap_1078 (l : Launch) : nk_CallOk l { frames := 2, cells := 0, slots := 0, locals := 42 } RX6 cX6_heap 4 false 1078 (1, 0, 0, 0, ev_X6_isHeap) := nk_callS (x := 269) (n := 1) (mt_X6_isHeap l) (nk_msc [(5, 117), (5, 118), (5, 119), (1, 7)] (by decide +kernel)) rfl rfl (by decide +kernel) ⟨by decide, by decide⟩
set_option maxRecDepth 100000 in
set_option maxHeartbeats 4000000 in
theorem ca_X6_heap_494 (l : Launch) : nk_CallOk l { frames := 2, cells := 0, slots := 0, locals := 42 } RX6 cX6_heap 4 false 494 (1, 0, 0, 0, ev_X6_isPerson) := nk_callS (x := 123) (n := 1) (mt_X6_isPerson l) (nk_msc [(4, 119), (4, 120), (4, 121), (1, 7)] (by decide +kernel)) rfl rfl (by decide +kernel) ⟨by decide, by decide⟩
set_option maxRecDepth 100000 in
set_option maxHeartbeats 4000000 in
theorem ca_X6_heap_358 (l : Launch) : nk_CallOk l { frames := 2, cells := 0, slots := 0, locals := 42 } RX6 cX6_heap 4 false 358 (3, 0, 0, 0, ev_X6_in) := nk_callS (x := 89) (n := 3) (mt_X6_in l) (nk_msc [(4, 57), (4, 58), (4, 59), (1, 7)] (by decide +kernel)) rfl rfl (by decide +kernel) ⟨by decide, by decide⟩
set_option maxRecDepth 100000 in
set_option maxHeartbeats 4000000 in
theorem mt_X6_heap (l : Launch) : nk_Met l yX6_heap cX6_heap 4 (some .int) { frames := 2, cells := 0, slots := 0, locals := 42 } false 0 0 ev_X6_heap :=
  nk_met nk_gok (plainFor_of_name (by decide)) ck_X6_heap (nk_top_out 91 kt_X6_heap) ⟨List.forall_mem_cons.mpr ⟨nk_fkc [(3, 220)] (by decide +kernel), List.forall_mem_cons.mpr ⟨nk_fkc [(3, 221)] (by decide +kernel), List.forall_mem_cons.mpr ⟨nk_fkc [(3, 222)] (by decide +kernel), fun _ h => absurd h List.not_mem_nil⟩⟩⟩, List.forall_mem_cons.mpr ⟨ca_X6_heap_1078 l, List.forall_mem_cons.mpr ⟨ca_X6_heap_494 l, List.forall_mem_cons.mpr ⟨ca_X6_heap_358 l, fun _ h => absurd h List.not_mem_nil⟩⟩⟩, fun _ h => absurd h List.not_mem_nil, fun _ h => absurd h List.not_mem_nil, fun _ h => absurd h List.not_mem_nil, fun _ h => absurd h List.not_mem_nil, fun _ h => absurd h List.not_mem_nil, by decide, rfl, rfl⟩ rfl (by decide)
