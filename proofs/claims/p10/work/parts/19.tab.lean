/-! MarbleLaw.stop(IIII)I -/
noncomputable def kt_X5_stop : Nat → Option nk_I := fun pc => bif Nat.ble pc 51 then ((fun pc => bif Nat.ble pc 22 then ((fun pc => bif Nat.ble pc 11 then ((fun pc => bif Nat.ble pc 5 then ((fun pc => bif Nat.ble pc 0 then (bif Nat.beq pc 0 then some (.iload 4, 2, 2, [], 0) else none)
  else (bif Nat.ble pc 2 then (bif Nat.beq pc 2 then some (.invokestatic 139, 3, 5, [], 0) else none)
  else (bif Nat.beq pc 5 then some (.ifCond .ne 5, 3, 8, [10], 0) else none))) : nk_F) pc
  else ((fun pc => bif Nat.ble pc 9 then (bif Nat.ble pc 8 then (bif Nat.beq pc 8 then some (.iconst (-1), 1, 9, [], (-1)) else none)
  else (bif Nat.beq pc 9 then some (.ireturn, 1, 10, [], 0) else none))
  else (bif Nat.ble pc 10 then (bif Nat.beq pc 10 then some (.aload_n 0, 1, 11, [], 0) else none)
  else (bif Nat.beq pc 11 then some (.iload_n 1, 1, 12, [], 0) else none))) : nk_F) pc) : nk_F) pc
  else ((fun pc => bif Nat.ble pc 14 then ((fun pc => bif Nat.ble pc 12 then (bif Nat.beq pc 12 then some (.iload_n 2, 1, 13, [], 0) else none)
  else (bif Nat.ble pc 13 then (bif Nat.beq pc 13 then some (.aload_n 0, 1, 14, [], 0) else none)
  else (bif Nat.beq pc 14 then some (.getfield 21, 3, 17, [], 0) else none))) : nk_F) pc
  else ((fun pc => bif Nat.ble pc 20 then (bif Nat.ble pc 17 then (bif Nat.beq pc 17 then some (.getfield 142, 3, 20, [], 0) else none)
  else (bif Nat.beq pc 20 then some (.iconst 0, 1, 21, [], 0) else none))
  else (bif Nat.ble pc 21 then (bif Nat.beq pc 21 then some (.iload_n 3, 1, 22, [], 0) else none)
  else (bif Nat.beq pc 22 then some (.invokevirtual 194, 3, 25, [], 0) else none))) : nk_F) pc) : nk_F) pc) : nk_F) pc
  else ((fun pc => bif Nat.ble pc 36 then ((fun pc => bif Nat.ble pc 29 then ((fun pc => bif Nat.ble pc 25 then (bif Nat.beq pc 25 then some (.istore 5, 2, 27, [], 0) else none)
  else (bif Nat.ble pc 27 then (bif Nat.beq pc 27 then some (.iload 5, 2, 29, [], 0) else none)
  else (bif Nat.beq pc 29 then some (.ifCond .eq 6, 3, 32, [35], 0) else none))) : nk_F) pc
  else ((fun pc => bif Nat.ble pc 34 then (bif Nat.ble pc 32 then (bif Nat.beq pc 32 then some (.iload 5, 2, 34, [], 0) else none)
  else (bif Nat.beq pc 34 then some (.ireturn, 1, 35, [], 0) else none))
  else (bif Nat.ble pc 35 then (bif Nat.beq pc 35 then some (.iconst 0, 1, 36, [], 0) else none)
  else (bif Nat.beq pc 36 then some (.istore 6, 2, 38, [], 0) else none))) : nk_F) pc) : nk_F) pc
  else ((fun pc => bif Nat.ble pc 44 then ((fun pc => bif Nat.ble pc 40 then (bif Nat.ble pc 38 then (bif Nat.beq pc 38 then some (.iload 6, 2, 40, [], 0) else none)
  else (bif Nat.beq pc 40 then some (.iconst 5, 1, 41, [], 5) else none))
  else (bif Nat.ble pc 41 then (bif Nat.beq pc 41 then some (.if_icmp .gt 70, 3, 44, [111], 0) else none)
  else (bif Nat.beq pc 44 then some (.iconst 0, 1, 45, [], 0) else none))) : nk_F) pc
  else ((fun pc => bif Nat.ble pc 47 then (bif Nat.ble pc 45 then (bif Nat.beq pc 45 then some (.istore 7, 2, 47, [], 0) else none)
  else (bif Nat.beq pc 47 then some (.iload 7, 2, 49, [], 0) else none))
  else (bif Nat.ble pc 49 then (bif Nat.beq pc 49 then some (.bipush 48, 2, 51, [], 48) else none)
  else (bif Nat.beq pc 51 then some (.if_icmp .ge 54, 3, 54, [105], 0) else none))) : nk_F) pc) : nk_F) pc) : nk_F) pc) : nk_F) pc
  else ((fun pc => bif Nat.ble pc 80 then ((fun pc => bif Nat.ble pc 67 then ((fun pc => bif Nat.ble pc 59 then ((fun pc => bif Nat.ble pc 54 then (bif Nat.beq pc 54 then some (.iload 7, 2, 56, [], 0) else none)
  else (bif Nat.ble pc 56 then (bif Nat.beq pc 56 then some (.invokestatic 259, 3, 59, [], 0) else none)
  else (bif Nat.beq pc 59 then some (.istore 8, 2, 61, [], 0) else none))) : nk_F) pc
  else ((fun pc => bif Nat.ble pc 63 then (bif Nat.ble pc 61 then (bif Nat.beq pc 61 then some (.iload 8, 2, 63, [], 0) else none)
  else (bif Nat.beq pc 63 then some (.aload_n 0, 1, 64, [], 0) else none))
  else (bif Nat.ble pc 64 then (bif Nat.beq pc 64 then some (.getfield 32, 3, 67, [], 0) else none)
  else (bif Nat.beq pc 67 then some (.iload_n 1, 1, 68, [], 0) else none))) : nk_F) pc) : nk_F) pc
  else ((fun pc => bif Nat.ble pc 72 then ((fun pc => bif Nat.ble pc 68 then (bif Nat.beq pc 68 then some (.iaload, 1, 69, [], 0) else none)
  else (bif Nat.ble pc 69 then (bif Nat.beq pc 69 then some (.invokestatic 262, 3, 72, [], 0) else none)
  else (bif Nat.beq pc 72 then some (.iload 6, 2, 74, [], 0) else none))) : nk_F) pc
  else ((fun pc => bif Nat.ble pc 77 then (bif Nat.ble pc 74 then (bif Nat.beq pc 74 then some (.if_icmp .ne 25, 3, 77, [99], 0) else none)
  else (bif Nat.beq pc 77 then some (.aload_n 0, 1, 78, [], 0) else none))
  else (bif Nat.ble pc 78 then (bif Nat.beq pc 78 then some (.iload 8, 2, 80, [], 0) else none)
  else (bif Nat.beq pc 80 then some (.iload_n 2, 1, 81, [], 0) else none))) : nk_F) pc) : nk_F) pc) : nk_F) pc
  else ((fun pc => bif Nat.ble pc 93 then ((fun pc => bif Nat.ble pc 84 then ((fun pc => bif Nat.ble pc 81 then (bif Nat.beq pc 81 then some (.iload_n 3, 1, 82, [], 0) else none)
  else (bif Nat.ble pc 82 then (bif Nat.beq pc 82 then some (.iload 4, 2, 84, [], 0) else none)
  else (bif Nat.beq pc 84 then some (.invokevirtual 265, 3, 87, [], 0) else none))) : nk_F) pc
  else ((fun pc => bif Nat.ble pc 90 then (bif Nat.ble pc 87 then (bif Nat.beq pc 87 then some (.ifCond .eq 12, 3, 90, [99], 0) else none)
  else (bif Nat.beq pc 90 then some (.aload_n 0, 1, 91, [], 0) else none))
  else (bif Nat.ble pc 91 then (bif Nat.beq pc 91 then some (.iload 6, 2, 93, [], 0) else none)
  else (bif Nat.beq pc 93 then some (.putfield 61, 3, 96, [], 0) else none))) : nk_F) pc) : nk_F) pc
  else ((fun pc => bif Nat.ble pc 102 then ((fun pc => bif Nat.ble pc 98 then (bif Nat.ble pc 96 then (bif Nat.beq pc 96 then some (.iload 8, 2, 98, [], 0) else none)
  else (bif Nat.beq pc 98 then some (.ireturn, 1, 99, [], 0) else none))
  else (bif Nat.ble pc 99 then (bif Nat.beq pc 99 then some (.iinc 7 1, 3, 102, [], 1) else none)
  else (bif Nat.beq pc 102 then some (.goto (-55), 3, 105, [47], 0) else none))) : nk_F) pc
  else ((fun pc => bif Nat.ble pc 108 then (bif Nat.ble pc 105 then (bif Nat.beq pc 105 then some (.iinc 6 1, 3, 108, [], 1) else none)
  else (bif Nat.beq pc 108 then some (.goto (-70), 3, 111, [38], 0) else none))
  else (bif Nat.ble pc 111 then (bif Nat.beq pc 111 then some (.bipush (-9), 2, 113, [], (-9)) else none)
  else (bif Nat.beq pc 113 then some (.ireturn, 1, 114, [], 0) else none))) : nk_F) pc) : nk_F) pc) : nk_F) pc) : nk_F) pc
noncomputable def kc_X5_stop : Nat → Option nk_I := nk_top 114 kt_X5_stop
noncomputable def kx_X5_stop : nk_T := ([(21, 5, 2, 4), (142, 4, 3, 0), (32, 5, 4, 4), (61, 5, 10, 0)], [(558, 1, 0, 0, 0, ev_X5_isWork), (776, 6, 6, 0, 0, ev_X5_refusalOfParts), (1038, 1, 0, 0, 0, ev_X2_lawInOrder), (1050, 2, 0, 0, 0, ev_X2_wordsBetween), (1060, 5, 6, 0, 0, ev_X5_isStoppedBy)], [], [], [], [], [], 1, false, 0, 0)
noncomputable def ev_X5_stop : nk_Ev := fun as h Q => nk_if (Nat.ble (nk_wd as) 9) (nk_ev kx_X5_stop kc_X5_stop 9 as h Q)
set_option maxRecDepth 100000 in
theorem ck_X5_stop : nk_chk cX5_stop kc_X5_stop 114 = true := nd_chk (by decide +kernel) (by decide +kernel)
set_option maxRecDepth 100000 in
set_option maxHeartbeats 4000000 in
theorem ca_X5_stop_558 (l : Launch) : nk_CallOk l { frames := 6, cells := 0, slots := 0, locals := 153 } RX5 cX5_stop 9 false 558 (1, 0, 0, 0, ev_X5_isWork) := nk_callS (x := 139) (n := 1) (mt_X5_isWork l) (nk_msc [(2, 59), (2, 60), (2, 61), (1, 1)] (by decide +kernel)) rfl rfl (by decide +kernel) ⟨by decide, by decide⟩
set_option maxRecDepth 100000 in
set_option maxHeartbeats 4000000 in
theorem ca_X5_stop_776 (l : Launch) : nk_CallOk l { frames := 6, cells := 0, slots := 0, locals := 153 } RX5 cX5_stop 9 false 776 (6, 6, 0, 0, ev_X5_refusalOfParts) := nk_callV (x := 194) (n := 5) (ci := 5) (r := (RX5, TX5, 13)) (mt_X5_refusalOfParts l) rfl (nk_msc [(2, 216), (2, 217), (2, 218), (2, 219), (0, 18), (1, 1)] (by decide +kernel)) rfl rfl (by decide +kernel) ⟨by decide, by decide⟩
set_option maxRecDepth 100000 in
set_option maxHeartbeats 4000000 in
theorem ca_X5_stop_1038 (l : Launch) : nk_CallOk l { frames := 6, cells := 0, slots := 0, locals := 153 } RX5 cX5_stop 9 false 1038 (1, 0, 0, 0, ev_X2_lawInOrder) := nk_callS (x := 259) (n := 1) (mt_X2_lawInOrder l) (nk_msc [(3, 64), (3, 65), (3, 66), (1, 3)] (by decide +kernel)) rfl rfl (by decide +kernel) ⟨by decide, by decide⟩
set_option maxRecDepth 100000 in
set_option maxHeartbeats 4000000 in
theorem ca_X5_stop_1050 (l : Launch) : nk_CallOk l { frames := 6, cells := 0, slots := 0, locals := 153 } RX5 cX5_stop 9 false 1050 (2, 0, 0, 0, ev_X2_wordsBetween) := nk_callS (x := 262) (n := 2) (mt_X2_wordsBetween l) (nk_msc [(3, 67), (3, 68), (3, 69), (1, 3)] (by decide +kernel)) rfl rfl (by decide +kernel) ⟨by decide, by decide⟩
set_option maxRecDepth 100000 in
set_option maxHeartbeats 4000000 in
theorem ca_X5_stop_1060 (l : Launch) : nk_CallOk l { frames := 6, cells := 0, slots := 0, locals := 153 } RX5 cX5_stop 9 false 1060 (5, 6, 0, 0, ev_X5_isStoppedBy) := nk_callV (x := 265) (n := 4) (ci := 5) (r := (RX5, TX5, 13)) (mt_X5_isStoppedBy l) rfl (nk_msc [(3, 70), (3, 71), (3, 72), (3, 73), (0, 23), (1, 1)] (by decide +kernel)) rfl rfl (by decide +kernel) ⟨by decide, by decide⟩
set_option maxRecDepth 100000 in
set_option maxHeartbeats 4000000 in
theorem mt_X5_stop (l : Launch) : nk_Met l yX5_stop cX5_stop 9 (some .int) { frames := 6, cells := 0, slots := 0, locals := 153 } false 0 0 ev_X5_stop :=
  nk_met nk_gok (plainFor_of_name (by decide)) ck_X5_stop (nk_top_out 114 kt_X5_stop) ⟨List.forall_mem_cons.mpr ⟨nk_fkc [(1, 153)] (by decide +kernel), List.forall_mem_cons.mpr ⟨nk_fkc [(1, 33)] (by decide +kernel), List.forall_mem_cons.mpr ⟨nk_fkc [(1, 155)] (by decide +kernel), List.forall_mem_cons.mpr ⟨nk_fkc [(1, 161)] (by decide +kernel), fun _ h => absurd h List.not_mem_nil⟩⟩⟩⟩, List.forall_mem_cons.mpr ⟨ca_X5_stop_558 l, List.forall_mem_cons.mpr ⟨ca_X5_stop_776 l, List.forall_mem_cons.mpr ⟨ca_X5_stop_1038 l, List.forall_mem_cons.mpr ⟨ca_X5_stop_1050 l, List.forall_mem_cons.mpr ⟨ca_X5_stop_1060 l, fun _ h => absurd h List.not_mem_nil⟩⟩⟩⟩⟩, fun _ h => absurd h List.not_mem_nil, fun _ h => absurd h List.not_mem_nil, fun _ h => absurd h List.not_mem_nil, fun _ h => absurd h List.not_mem_nil, fun _ h => absurd h List.not_mem_nil, by decide, rfl, rfl⟩ rfl (by decide)
/-! MarbleLaw.inTime(III)I -/
noncomputable def kt_X5_inTime : Nat → Option nk_I := fun pc => bif Nat.ble pc 61 then ((fun pc => bif Nat.ble pc 29 then ((fun pc => bif Nat.ble pc 11 then ((fun pc => bif Nat.ble pc 3 then ((fun pc => bif Nat.ble pc 1 then (bif Nat.ble pc 0 then (bif Nat.beq pc 0 then some (.aload_n 0, 1, 1, [], 0) else none)
  else (bif Nat.beq pc 1 then some (.iload_n 1, 1, 2, [], 0) else none))
  else (bif Nat.ble pc 2 then (bif Nat.beq pc 2 then some (.iload_n 2, 1, 3, [], 0) else none)
  else (bif Nat.beq pc 3 then some (.aload_n 0, 1, 4, [], 0) else none))) : nk_F) pc
  else ((fun pc => bif Nat.ble pc 7 then (bif Nat.ble pc 4 then (bif Nat.beq pc 4 then some (.getfield 21, 3, 7, [], 0) else none)
  else (bif Nat.beq pc 7 then some (.getfield 142, 3, 10, [], 0) else none))
  else (bif Nat.ble pc 10 then (bif Nat.beq pc 10 then some (.iconst 0, 1, 11, [], 0) else none)
  else (bif Nat.beq pc 11 then some (.iload_n 3, 1, 12, [], 0) else none))) : nk_F) pc) : nk_F) pc
  else ((fun pc => bif Nat.ble pc 19 then ((fun pc => bif Nat.ble pc 15 then (bif Nat.ble pc 12 then (bif Nat.beq pc 12 then some (.invokevirtual 194, 3, 15, [], 0) else none)
  else (bif Nat.beq pc 15 then some (.istore 4, 2, 17, [], 0) else none))
  else (bif Nat.ble pc 17 then (bif Nat.beq pc 17 then some (.iload 4, 2, 19, [], 0) else none)
  else (bif Nat.beq pc 19 then some (.ifCond .eq 6, 3, 22, [25], 0) else none))) : nk_F) pc
  else ((fun pc => bif Nat.ble pc 24 then (bif Nat.ble pc 22 then (bif Nat.beq pc 22 then some (.iload 4, 2, 24, [], 0) else none)
  else (bif Nat.beq pc 24 then some (.ireturn, 1, 25, [], 0) else none))
  else ((fun pc => bif Nat.ble pc 25 then (bif Nat.beq pc 25 then some (.aload_n 0, 1, 26, [], 0) else none)
  else (bif Nat.ble pc 26 then (bif Nat.beq pc 26 then some (.getfield 41, 3, 29, [], 0) else none)
  else (bif Nat.beq pc 29 then some (.iload_n 2, 1, 30, [], 0) else none))) : nk_F) pc) : nk_F) pc) : nk_F) pc) : nk_F) pc
  else ((fun pc => bif Nat.ble pc 44 then ((fun pc => bif Nat.ble pc 37 then ((fun pc => bif Nat.ble pc 31 then (bif Nat.ble pc 30 then (bif Nat.beq pc 30 then some (.iload_n 3, 1, 31, [], 0) else none)
  else (bif Nat.beq pc 31 then some (.invokevirtual 209, 3, 34, [], 0) else none))
  else (bif Nat.ble pc 34 then (bif Nat.beq pc 34 then some (.ifCond .eq 6, 3, 37, [40], 0) else none)
  else (bif Nat.beq pc 37 then some (.bipush (-9), 2, 39, [], (-9)) else none))) : nk_F) pc
  else ((fun pc => bif Nat.ble pc 40 then (bif Nat.ble pc 39 then (bif Nat.beq pc 39 then some (.ireturn, 1, 40, [], 0) else none)
  else (bif Nat.beq pc 40 then some (.aload_n 0, 1, 41, [], 0) else none))
  else (bif Nat.ble pc 41 then (bif Nat.beq pc 41 then some (.getfield 21, 3, 44, [], 0) else none)
  else (bif Nat.beq pc 44 then some (.getfield 142, 3, 47, [], 0) else none))) : nk_F) pc) : nk_F) pc
  else ((fun pc => bif Nat.ble pc 51 then ((fun pc => bif Nat.ble pc 48 then (bif Nat.ble pc 47 then (bif Nat.beq pc 47 then some (.iconst 1, 1, 48, [], 1) else none)
  else (bif Nat.beq pc 48 then some (.isub, 1, 49, [], 0) else none))
  else (bif Nat.ble pc 49 then (bif Nat.beq pc 49 then some (.istore 5, 2, 51, [], 0) else none)
  else (bif Nat.beq pc 51 then some (.iload 5, 2, 53, [], 0) else none))) : nk_F) pc
  else ((fun pc => bif Nat.ble pc 56 then (bif Nat.ble pc 53 then (bif Nat.beq pc 53 then some (.ifCond .lt 76, 3, 56, [129], 0) else none)
  else (bif Nat.beq pc 56 then some (.aload_n 0, 1, 57, [], 0) else none))
  else ((fun pc => bif Nat.ble pc 57 then (bif Nat.beq pc 57 then some (.getfield 41, 3, 60, [], 0) else none)
  else (bif Nat.ble pc 60 then (bif Nat.beq pc 60 then some (.aload_n 0, 1, 61, [], 0) else none)
  else (bif Nat.beq pc 61 then some (.getfield 32, 3, 64, [], 0) else none))) : nk_F) pc) : nk_F) pc) : nk_F) pc) : nk_F) pc) : nk_F) pc
  else ((fun pc => bif Nat.ble pc 92 then ((fun pc => bif Nat.ble pc 75 then ((fun pc => bif Nat.ble pc 67 then ((fun pc => bif Nat.ble pc 65 then (bif Nat.ble pc 64 then (bif Nat.beq pc 64 then some (.iload_n 1, 1, 65, [], 0) else none)
  else (bif Nat.beq pc 65 then some (.iaload, 1, 66, [], 0) else none))
  else (bif Nat.ble pc 66 then (bif Nat.beq pc 66 then some (.iconst 0, 1, 67, [], 0) else none)
  else (bif Nat.beq pc 67 then some (.invokevirtual 231, 3, 70, [], 0) else none))) : nk_F) pc
  else ((fun pc => bif Nat.ble pc 71 then (bif Nat.ble pc 70 then (bif Nat.beq pc 70 then some (.aload_n 0, 1, 71, [], 0) else none)
  else (bif Nat.beq pc 71 then some (.getfield 41, 3, 74, [], 0) else none))
  else (bif Nat.ble pc 74 then (bif Nat.beq pc 74 then some (.iconst 0, 1, 75, [], 0) else none)
  else (bif Nat.beq pc 75 then some (.iload 5, 2, 77, [], 0) else none))) : nk_F) pc) : nk_F) pc
  else ((fun pc => bif Nat.ble pc 84 then ((fun pc => bif Nat.ble pc 80 then (bif Nat.ble pc 77 then (bif Nat.beq pc 77 then some (.invokevirtual 237, 3, 80, [], 0) else none)
  else (bif Nat.beq pc 80 then some (.aload_n 0, 1, 81, [], 0) else none))
  else (bif Nat.ble pc 81 then (bif Nat.beq pc 81 then some (.getfield 41, 3, 84, [], 0) else none)
  else (bif Nat.beq pc 84 then some (.iload 5, 2, 86, [], 0) else none))) : nk_F) pc
  else ((fun pc => bif Nat.ble pc 87 then (bif Nat.ble pc 86 then (bif Nat.beq pc 86 then some (.iconst 1, 1, 87, [], 1) else none)
  else (bif Nat.beq pc 87 then some (.iadd, 1, 88, [], 0) else none))
  else ((fun pc => bif Nat.ble pc 88 then (bif Nat.beq pc 88 then some (.aload_n 0, 1, 89, [], 0) else none)
  else (bif Nat.ble pc 89 then (bif Nat.beq pc 89 then some (.getfield 21, 3, 92, [], 0) else none)
  else (bif Nat.beq pc 92 then some (.getfield 142, 3, 95, [], 0) else none))) : nk_F) pc) : nk_F) pc) : nk_F) pc) : nk_F) pc
  else ((fun pc => bif Nat.ble pc 112 then ((fun pc => bif Nat.ble pc 102 then ((fun pc => bif Nat.ble pc 98 then (bif Nat.ble pc 95 then (bif Nat.beq pc 95 then some (.invokevirtual 237, 3, 98, [], 0) else none)
  else (bif Nat.beq pc 98 then some (.aload_n 0, 1, 99, [], 0) else none))
  else (bif Nat.ble pc 99 then (bif Nat.beq pc 99 then some (.getfield 41, 3, 102, [], 0) else none)
  else (bif Nat.beq pc 102 then some (.getfield 215, 3, 105, [], 0) else none))) : nk_F) pc
  else ((fun pc => bif Nat.ble pc 108 then (bif Nat.ble pc 105 then (bif Nat.beq pc 105 then some (.ifCond .ne 18, 3, 108, [123], 0) else none)
  else (bif Nat.beq pc 108 then some (.aload_n 0, 1, 109, [], 0) else none))
  else (bif Nat.ble pc 109 then (bif Nat.beq pc 109 then some (.getfield 41, 3, 112, [], 0) else none)
  else (bif Nat.beq pc 112 then some (.iload_n 2, 1, 113, [], 0) else none))) : nk_F) pc) : nk_F) pc
  else ((fun pc => bif Nat.ble pc 120 then ((fun pc => bif Nat.ble pc 114 then (bif Nat.ble pc 113 then (bif Nat.beq pc 113 then some (.iload_n 3, 1, 114, [], 0) else none)
  else (bif Nat.beq pc 114 then some (.invokevirtual 209, 3, 117, [], 0) else none))
  else (bif Nat.ble pc 117 then (bif Nat.beq pc 117 then some (.ifCond .eq 6, 3, 120, [123], 0) else none)
  else (bif Nat.beq pc 120 then some (.iload 5, 2, 122, [], 0) else none))) : nk_F) pc
  else ((fun pc => bif Nat.ble pc 123 then (bif Nat.ble pc 122 then (bif Nat.beq pc 122 then some (.ireturn, 1, 123, [], 0) else none)
  else (bif Nat.beq pc 123 then some (.iinc 5 (-1), 3, 126, [], (-1)) else none))
  else ((fun pc => bif Nat.ble pc 126 then (bif Nat.beq pc 126 then some (.goto (-75), 3, 129, [51], 0) else none)
  else (bif Nat.ble pc 129 then (bif Nat.beq pc 129 then some (.bipush (-9), 2, 131, [], (-9)) else none)
  else (bif Nat.beq pc 131 then some (.ireturn, 1, 132, [], 0) else none))) : nk_F) pc) : nk_F) pc) : nk_F) pc) : nk_F) pc) : nk_F) pc
noncomputable def kc_X5_inTime : Nat → Option nk_I := nk_top 132 kt_X5_inTime
noncomputable def kx_X5_inTime : nk_T := ([(21, 5, 2, 4), (142, 4, 3, 0), (41, 5, 5, 4), (32, 5, 4, 4), (215, 0, 10, 1)], [(776, 6, 6, 0, 0, ev_X5_refusalOfParts), (836, 3, 1, 0, 0, ev_X0_hasSome), (924, 3, 1, 0, 0, ev_X0_begin), (948, 3, 1, 0, 0, ev_X0_go)], [], [], [], [], [], 1, false, 0, 0)
noncomputable def ev_X5_inTime : nk_Ev := fun as h Q => nk_if (Nat.ble (nk_wd as) 6) (nk_ev kx_X5_inTime kc_X5_inTime 6 as h Q)
set_option maxRecDepth 100000 in
theorem ck_X5_inTime : nk_chk cX5_inTime kc_X5_inTime 132 = true := nd_chk (by decide +kernel) (by decide +kernel)
set_option maxRecDepth 100000 in
set_option maxHeartbeats 4000000 in
theorem ca_X5_inTime_776 (l : Launch) : nk_CallOk l { frames := 6, cells := 0, slots := 0, locals := 153 } RX5 cX5_inTime 6 false 776 (6, 6, 0, 0, ev_X5_refusalOfParts) := nk_callV (x := 194) (n := 5) (ci := 5) (r := (RX5, TX5, 13)) (mt_X5_refusalOfParts l) rfl (nk_msc [(2, 216), (2, 217), (2, 218), (2, 219), (0, 18), (1, 1)] (by decide +kernel)) rfl rfl (by decide +kernel) ⟨by decide, by decide⟩
set_option maxRecDepth 100000 in
set_option maxHeartbeats 4000000 in
theorem ca_X5_inTime_836 (l : Launch) : nk_CallOk l { frames := 6, cells := 0, slots := 0, locals := 153 } RX5 cX5_inTime 6 false 836 (3, 1, 0, 0, ev_X0_hasSome) := nk_callV (x := 209) (n := 2) (ci := 0) (r := (RX0, TX0, 15)) (mt_X0_hasSome l) rfl (nk_msc [(2, 229), (2, 230), (2, 231), (2, 232), (1, 4)] (by decide +kernel)) rfl rfl (by decide +kernel) ⟨by decide, by decide⟩
set_option maxRecDepth 100000 in
set_option maxHeartbeats 4000000 in
theorem ca_X5_inTime_924 (l : Launch) : nk_CallOk l { frames := 6, cells := 0, slots := 0, locals := 153 } RX5 cX5_inTime 6 false 924 (3, 1, 0, 0, ev_X0_begin) := nk_callV (x := 231) (n := 2) (ci := 0) (r := (RX0, TX0, 15)) (mt_X0_begin l) rfl (nk_msc [(2, 93), (2, 94), (2, 95), (2, 96), (1, 4)] (by decide +kernel)) rfl rfl (by decide +kernel) ⟨by decide, by decide⟩
set_option maxRecDepth 100000 in
set_option maxHeartbeats 4000000 in
theorem ca_X5_inTime_948 (l : Launch) : nk_CallOk l { frames := 6, cells := 0, slots := 0, locals := 153 } RX5 cX5_inTime 6 false 948 (3, 1, 0, 0, ev_X0_go) := nk_callV (x := 237) (n := 2) (ci := 0) (r := (RX0, TX0, 15)) (mt_X0_go l) rfl (nk_msc [(2, 102), (2, 103), (2, 104), (2, 105), (1, 4)] (by decide +kernel)) rfl rfl (by decide +kernel) ⟨by decide, by decide⟩
set_option maxRecDepth 100000 in
set_option maxHeartbeats 4000000 in
theorem mt_X5_inTime (l : Launch) : nk_Met l yX5_inTime cX5_inTime 6 (some .int) { frames := 6, cells := 0, slots := 0, locals := 153 } false 0 0 ev_X5_inTime :=
  nk_met nk_gok (plainFor_of_name (by decide)) ck_X5_inTime (nk_top_out 132 kt_X5_inTime) ⟨List.forall_mem_cons.mpr ⟨nk_fkc [(1, 153)] (by decide +kernel), List.forall_mem_cons.mpr ⟨nk_fkc [(1, 33)] (by decide +kernel), List.forall_mem_cons.mpr ⟨nk_fkc [(1, 156)] (by decide +kernel), List.forall_mem_cons.mpr ⟨nk_fkc [(1, 155)] (by decide +kernel), List.forall_mem_cons.mpr ⟨nk_fkc [(1, 76)] (by decide +kernel), fun _ h => absurd h List.not_mem_nil⟩⟩⟩⟩⟩, List.forall_mem_cons.mpr ⟨ca_X5_inTime_776 l, List.forall_mem_cons.mpr ⟨ca_X5_inTime_836 l, List.forall_mem_cons.mpr ⟨ca_X5_inTime_924 l, List.forall_mem_cons.mpr ⟨ca_X5_inTime_948 l, fun _ h => absurd h List.not_mem_nil⟩⟩⟩⟩, fun _ h => absurd h List.not_mem_nil, fun _ h => absurd h List.not_mem_nil, fun _ h => absurd h List.not_mem_nil, fun _ h => absurd h List.not_mem_nil, fun _ h => absurd h List.not_mem_nil, by decide, rfl, rfl⟩ rfl (by decide)
/-! MarbleLaw.heap(III)I -/
noncomputable def kt_X5_heap : Nat → Option nk_I := fun pc => bif Nat.ble pc 34 then ((fun pc => bif Nat.ble pc 17 then ((fun pc => bif Nat.ble pc 5 then ((fun pc => bif Nat.ble pc 1 then (bif Nat.ble pc 0 then (bif Nat.beq pc 0 then some (.iload_n 1, 1, 1, [], 0) else none)
  else (bif Nat.beq pc 1 then some (.iconst 4, 1, 2, [], 4) else none))
  else (bif Nat.ble pc 2 then (bif Nat.beq pc 2 then some (.invokestatic 84, 3, 5, [], 0) else none)
  else (bif Nat.beq pc 5 then some (.ifCond .eq 23, 3, 8, [28], 0) else none))) : nk_F) pc
  else ((fun pc => bif Nat.ble pc 9 then (bif Nat.ble pc 8 then (bif Nat.beq pc 8 then some (.iload_n 2, 1, 9, [], 0) else none)
  else (bif Nat.beq pc 9 then some (.bipush 6, 2, 11, [], 6) else none))
  else ((fun pc => bif Nat.ble pc 11 then (bif Nat.beq pc 11 then some (.invokestatic 84, 3, 14, [], 0) else none)
  else (bif Nat.ble pc 14 then (bif Nat.beq pc 14 then some (.ifCond .eq 14, 3, 17, [28], 0) else none)
  else (bif Nat.beq pc 17 then some (.iload_n 3, 1, 18, [], 0) else none))) : nk_F) pc) : nk_F) pc) : nk_F) pc
  else ((fun pc => bif Nat.ble pc 25 then ((fun pc => bif Nat.ble pc 19 then (bif Nat.ble pc 18 then (bif Nat.beq pc 18 then some (.iconst 1, 1, 19, [], 1) else none)
  else (bif Nat.beq pc 19 then some (.if_icmp .lt 9, 3, 22, [28], 0) else none))
  else ((fun pc => bif Nat.ble pc 22 then (bif Nat.beq pc 22 then some (.iload_n 3, 1, 23, [], 0) else none)
  else (bif Nat.ble pc 23 then (bif Nat.beq pc 23 then some (.bipush 99, 2, 25, [], 99) else none)
  else (bif Nat.beq pc 25 then some (.if_icmp .le 5, 3, 28, [30], 0) else none))) : nk_F) pc) : nk_F) pc
  else ((fun pc => bif Nat.ble pc 29 then (bif Nat.ble pc 28 then (bif Nat.beq pc 28 then some (.iconst (-1), 1, 29, [], (-1)) else none)
  else (bif Nat.beq pc 29 then some (.ireturn, 1, 30, [], 0) else none))
  else ((fun pc => bif Nat.ble pc 30 then (bif Nat.beq pc 30 then some (.aload_n 0, 1, 31, [], 0) else none)
  else (bif Nat.ble pc 31 then (bif Nat.beq pc 31 then some (.getfield 50, 3, 34, [], 0) else none)
  else (bif Nat.beq pc 34 then some (.iload_n 1, 1, 35, [], 0) else none))) : nk_F) pc) : nk_F) pc) : nk_F) pc) : nk_F) pc
  else ((fun pc => bif Nat.ble pc 51 then ((fun pc => bif Nat.ble pc 41 then ((fun pc => bif Nat.ble pc 36 then (bif Nat.ble pc 35 then (bif Nat.beq pc 35 then some (.aaload, 1, 36, [], 0) else none)
  else (bif Nat.beq pc 36 then some (.getfield 268, 3, 39, [], 0) else none))
  else (bif Nat.ble pc 39 then (bif Nat.beq pc 39 then some (.bipush 20, 2, 41, [], 20) else none)
  else (bif Nat.beq pc 41 then some (.if_icmp .lt 6, 3, 44, [47], 0) else none))) : nk_F) pc
  else ((fun pc => bif Nat.ble pc 46 then (bif Nat.ble pc 44 then (bif Nat.beq pc 44 then some (.bipush (-2), 2, 46, [], (-2)) else none)
  else (bif Nat.beq pc 46 then some (.ireturn, 1, 47, [], 0) else none))
  else ((fun pc => bif Nat.ble pc 47 then (bif Nat.beq pc 47 then some (.aload_n 0, 1, 48, [], 0) else none)
  else (bif Nat.ble pc 48 then (bif Nat.beq pc 48 then some (.getfield 50, 3, 51, [], 0) else none)
  else (bif Nat.beq pc 51 then some (.iload_n 1, 1, 52, [], 0) else none))) : nk_F) pc) : nk_F) pc) : nk_F) pc
  else ((fun pc => bif Nat.ble pc 58 then ((fun pc => bif Nat.ble pc 53 then (bif Nat.ble pc 52 then (bif Nat.beq pc 52 then some (.aaload, 1, 53, [], 0) else none)
  else (bif Nat.beq pc 53 then some (.iload_n 2, 1, 54, [], 0) else none))
  else ((fun pc => bif Nat.ble pc 54 then (bif Nat.beq pc 54 then some (.iload_n 3, 1, 55, [], 0) else none)
  else (bif Nat.ble pc 55 then (bif Nat.beq pc 55 then some (.invokevirtual 269, 3, 58, [], 0) else none)
  else (bif Nat.beq pc 58 then some (.aload_n 0, 1, 59, [], 0) else none))) : nk_F) pc) : nk_F) pc
  else ((fun pc => bif Nat.ble pc 62 then (bif Nat.ble pc 59 then (bif Nat.beq pc 59 then some (.getfield 50, 3, 62, [], 0) else none)
  else (bif Nat.beq pc 62 then some (.iload_n 1, 1, 63, [], 0) else none))
  else ((fun pc => bif Nat.ble pc 63 then (bif Nat.beq pc 63 then some (.aaload, 1, 64, [], 0) else none)
  else (bif Nat.ble pc 64 then (bif Nat.beq pc 64 then some (.getfield 268, 3, 67, [], 0) else none)
  else (bif Nat.beq pc 67 then some (.ireturn, 1, 68, [], 0) else none))) : nk_F) pc) : nk_F) pc) : nk_F) pc) : nk_F) pc
noncomputable def kc_X5_heap : Nat → Option nk_I := nk_top 68 kt_X5_heap
noncomputable def kx_X5_heap : nk_T := ([(50, 5, 7, 4), (268, 1, 2, 0)], [(338, 2, 0, 0, 0, ev_X5_within), (1076, 3, 2, 0, 0, ev_X1_add)], [], [], [], [], [], 1, false, 0, 0)
noncomputable def ev_X5_heap : nk_Ev := fun as h Q => nk_if (Nat.ble (nk_wd as) 4) (nk_ev kx_X5_heap kc_X5_heap 4 as h Q)
set_option maxRecDepth 100000 in
theorem ck_X5_heap : nk_chk cX5_heap kc_X5_heap 68 = true := nd_chk (by decide +kernel) (by decide +kernel)
set_option maxRecDepth 100000 in
set_option maxHeartbeats 4000000 in
theorem ca_X5_heap_338 (l : Launch) : nk_CallOk l { frames := 1, cells := 0, slots := 0, locals := 22 } RX5 cX5_heap 4 false 338 (2, 0, 0, 0, ev_X5_within) := nk_callS (x := 84) (n := 2) (mt_X5_within l) (nk_msc [(1, 199), (1, 200), (1, 201), (1, 1)] (by decide +kernel)) rfl rfl (by decide +kernel) ⟨by decide, by decide⟩
set_option maxRecDepth 100000 in
set_option maxHeartbeats 4000000 in
theorem ca_X5_heap_1076 (l : Launch) : nk_CallOk l { frames := 1, cells := 0, slots := 0, locals := 22 } RX5 cX5_heap 4 false 1076 (3, 2, 0, 0, ev_X1_add) := nk_callV (x := 269) (n := 2) (ci := 1) (r := (RX1, TX1, 3)) (mt_X1_add l) rfl (nk_msc [(3, 82), (3, 83), (3, 84), (3, 85), (1, 6)] (by decide +kernel)) rfl rfl (by decide +kernel) ⟨by decide, by decide⟩
set_option maxRecDepth 100000 in
set_option maxHeartbeats 4000000 in
theorem mt_X5_heap (l : Launch) : nk_Met l yX5_heap cX5_heap 4 (some .int) { frames := 1, cells := 0, slots := 0, locals := 22 } false 0 0 ev_X5_heap :=
  nk_met nk_gok (plainFor_of_name (by decide)) ck_X5_heap (nk_top_out 68 kt_X5_heap) ⟨List.forall_mem_cons.mpr ⟨nk_fkc [(1, 158)] (by decide +kernel), List.forall_mem_cons.mpr ⟨nk_fkc [(1, 143)] (by decide +kernel), fun _ h => absurd h List.not_mem_nil⟩⟩, List.forall_mem_cons.mpr ⟨ca_X5_heap_338 l, List.forall_mem_cons.mpr ⟨ca_X5_heap_1076 l, fun _ h => absurd h List.not_mem_nil⟩⟩, fun _ h => absurd h List.not_mem_nil, fun _ h => absurd h List.not_mem_nil, fun _ h => absurd h List.not_mem_nil, fun _ h => absurd h List.not_mem_nil, fun _ h => absurd h List.not_mem_nil, by decide, rfl, rfl⟩ rfl (by decide)
/-! MarbleLaw.draw(IIII)I -/
noncomputable def kt_X5_draw : Nat → Option nk_I := fun pc => bif Nat.ble pc 49 then ((fun pc => bif Nat.ble pc 23 then ((fun pc => bif Nat.ble pc 9 then ((fun pc => bif Nat.ble pc 2 then ((fun pc => bif Nat.ble pc 0 then (bif Nat.beq pc 0 then some (.iload_n 1, 1, 1, [], 0) else none)
  else (bif Nat.ble pc 1 then (bif Nat.beq pc 1 then some (.iconst 4, 1, 2, [], 4) else none)
  else (bif Nat.beq pc 2 then some (.invokestatic 84, 3, 5, [], 0) else none))) : nk_F) pc
  else ((fun pc => bif Nat.ble pc 5 then (bif Nat.beq pc 5 then some (.ifCond .eq 33, 3, 8, [38], 0) else none)
  else (bif Nat.ble pc 8 then (bif Nat.beq pc 8 then some (.iload_n 2, 1, 9, [], 0) else none)
  else (bif Nat.beq pc 9 then some (.bipush 6, 2, 11, [], 6) else none))) : nk_F) pc) : nk_F) pc
  else ((fun pc => bif Nat.ble pc 17 then ((fun pc => bif Nat.ble pc 11 then (bif Nat.beq pc 11 then some (.invokestatic 84, 3, 14, [], 0) else none)
  else (bif Nat.ble pc 14 then (bif Nat.beq pc 14 then some (.ifCond .eq 24, 3, 17, [38], 0) else none)
  else (bif Nat.beq pc 17 then some (.iload_n 3, 1, 18, [], 0) else none))) : nk_F) pc
  else ((fun pc => bif Nat.ble pc 19 then (bif Nat.ble pc 18 then (bif Nat.beq pc 18 then some (.iconst 1, 1, 19, [], 1) else none)
  else (bif Nat.beq pc 19 then some (.if_icmp .lt 19, 3, 22, [38], 0) else none))
  else (bif Nat.ble pc 22 then (bif Nat.beq pc 22 then some (.iload_n 3, 1, 23, [], 0) else none)
  else (bif Nat.beq pc 23 then some (.sipush 999, 3, 26, [], 999) else none))) : nk_F) pc) : nk_F) pc) : nk_F) pc
  else ((fun pc => bif Nat.ble pc 39 then ((fun pc => bif Nat.ble pc 31 then ((fun pc => bif Nat.ble pc 26 then (bif Nat.beq pc 26 then some (.if_icmp .gt 12, 3, 29, [38], 0) else none)
  else (bif Nat.ble pc 29 then (bif Nat.beq pc 29 then some (.iload 4, 2, 31, [], 0) else none)
  else (bif Nat.beq pc 31 then some (.iconst 3, 1, 32, [], 3) else none))) : nk_F) pc
  else ((fun pc => bif Nat.ble pc 35 then (bif Nat.ble pc 32 then (bif Nat.beq pc 32 then some (.invokestatic 84, 3, 35, [], 0) else none)
  else (bif Nat.beq pc 35 then some (.ifCond .ne 5, 3, 38, [40], 0) else none))
  else (bif Nat.ble pc 38 then (bif Nat.beq pc 38 then some (.iconst (-1), 1, 39, [], (-1)) else none)
  else (bif Nat.beq pc 39 then some (.ireturn, 1, 40, [], 0) else none))) : nk_F) pc) : nk_F) pc
  else ((fun pc => bif Nat.ble pc 44 then ((fun pc => bif Nat.ble pc 40 then (bif Nat.beq pc 40 then some (.aload_n 0, 1, 41, [], 0) else none)
  else (bif Nat.ble pc 41 then (bif Nat.beq pc 41 then some (.getfield 50, 3, 44, [], 0) else none)
  else (bif Nat.beq pc 44 then some (.iload_n 1, 1, 45, [], 0) else none))) : nk_F) pc
  else ((fun pc => bif Nat.ble pc 46 then (bif Nat.ble pc 45 then (bif Nat.beq pc 45 then some (.aaload, 1, 46, [], 0) else none)
  else (bif Nat.beq pc 46 then some (.astore 5, 2, 48, [], 0) else none))
  else (bif Nat.ble pc 48 then (bif Nat.beq pc 48 then some (.iload_n 3, 1, 49, [], 0) else none)
  else (bif Nat.beq pc 49 then some (.aload 5, 2, 51, [], 0) else none))) : nk_F) pc) : nk_F) pc) : nk_F) pc) : nk_F) pc
  else ((fun pc => bif Nat.ble pc 79 then ((fun pc => bif Nat.ble pc 63 then ((fun pc => bif Nat.ble pc 57 then ((fun pc => bif Nat.ble pc 51 then (bif Nat.beq pc 51 then some (.invokevirtual 272, 3, 54, [], 0) else none)
  else (bif Nat.ble pc 54 then (bif Nat.beq pc 54 then some (.if_icmp .le 9, 3, 57, [63], 0) else none)
  else (bif Nat.beq pc 57 then some (.aload_n 0, 1, 58, [], 0) else none))) : nk_F) pc
  else ((fun pc => bif Nat.ble pc 59 then (bif Nat.ble pc 58 then (bif Nat.beq pc 58 then some (.iconst 2, 1, 59, [], 2) else none)
  else (bif Nat.beq pc 59 then some (.invokevirtual 92, 3, 62, [], 0) else none))
  else (bif Nat.ble pc 62 then (bif Nat.beq pc 62 then some (.ireturn, 1, 63, [], 0) else none)
  else (bif Nat.beq pc 63 then some (.iload 4, 2, 65, [], 0) else none))) : nk_F) pc) : nk_F) pc
  else ((fun pc => bif Nat.ble pc 70 then ((fun pc => bif Nat.ble pc 65 then (bif Nat.beq pc 65 then some (.ifCond .ne 12, 3, 68, [77], 0) else none)
  else (bif Nat.ble pc 68 then (bif Nat.beq pc 68 then some (.aload 5, 2, 70, [], 0) else none)
  else (bif Nat.beq pc 70 then some (.iload_n 3, 1, 71, [], 0) else none))) : nk_F) pc
  else ((fun pc => bif Nat.ble pc 74 then (bif Nat.ble pc 71 then (bif Nat.beq pc 71 then some (.invokevirtual 275, 3, 74, [], 0) else none)
  else (bif Nat.beq pc 74 then some (.goto 25, 3, 77, [99], 0) else none))
  else (bif Nat.ble pc 77 then (bif Nat.beq pc 77 then some (.iload 4, 2, 79, [], 0) else none)
  else (bif Nat.beq pc 79 then some (.iconst 1, 1, 80, [], 1) else none))) : nk_F) pc) : nk_F) pc) : nk_F) pc
  else ((fun pc => bif Nat.ble pc 94 then ((fun pc => bif Nat.ble pc 85 then ((fun pc => bif Nat.ble pc 80 then (bif Nat.beq pc 80 then some (.if_icmp .ne 12, 3, 83, [92], 0) else none)
  else (bif Nat.ble pc 83 then (bif Nat.beq pc 83 then some (.aload 5, 2, 85, [], 0) else none)
  else (bif Nat.beq pc 85 then some (.iload_n 3, 1, 86, [], 0) else none))) : nk_F) pc
  else ((fun pc => bif Nat.ble pc 89 then (bif Nat.ble pc 86 then (bif Nat.beq pc 86 then some (.invokevirtual 278, 3, 89, [], 0) else none)
  else (bif Nat.beq pc 89 then some (.goto 10, 3, 92, [99], 0) else none))
  else (bif Nat.ble pc 92 then (bif Nat.beq pc 92 then some (.aload 5, 2, 94, [], 0) else none)
  else (bif Nat.beq pc 94 then some (.iload_n 3, 1, 95, [], 0) else none))) : nk_F) pc) : nk_F) pc
  else ((fun pc => bif Nat.ble pc 99 then ((fun pc => bif Nat.ble pc 95 then (bif Nat.beq pc 95 then some (.iload_n 2, 1, 96, [], 0) else none)
  else (bif Nat.ble pc 96 then (bif Nat.beq pc 96 then some (.invokevirtual 281, 3, 99, [], 0) else none)
  else (bif Nat.beq pc 99 then some (.aload 5, 2, 101, [], 0) else none))) : nk_F) pc
  else ((fun pc => bif Nat.ble pc 104 then (bif Nat.ble pc 101 then (bif Nat.beq pc 101 then some (.invokevirtual 284, 3, 104, [], 0) else none)
  else (bif Nat.beq pc 104 then some (.aload 5, 2, 106, [], 0) else none))
  else (bif Nat.ble pc 106 then (bif Nat.beq pc 106 then some (.getfield 268, 3, 109, [], 0) else none)
  else (bif Nat.beq pc 109 then some (.ireturn, 1, 110, [], 0) else none))) : nk_F) pc) : nk_F) pc) : nk_F) pc) : nk_F) pc
noncomputable def kc_X5_draw : Nat → Option nk_I := nk_top 110 kt_X5_draw
noncomputable def kx_X5_draw : nk_T := ([(50, 5, 7, 4), (268, 1, 2, 0)], [(338, 2, 0, 0, 0, ev_X5_within), (1088, 1, 2, 0, 0, ev_X1_total), (368, 2, 6, 0, 0, ev_X5_found), (1100, 2, 2, 0, 0, ev_X1_drawFromFirst), (1112, 2, 2, 0, 0, ev_X1_drawByParts), (1124, 3, 2, 0, 0, ev_X1_drawFromLast), (1136, 1, 2, 0, 0, ev_X1_dropEmpty)], [], [], [], [], [], 1, false, 0, 0)
noncomputable def ev_X5_draw : nk_Ev := fun as h Q => nk_if (Nat.ble (nk_wd as) 6) (nk_ev kx_X5_draw kc_X5_draw 6 as h Q)
set_option maxRecDepth 100000 in
theorem ck_X5_draw : nk_chk cX5_draw kc_X5_draw 110 = true := nd_chk (by decide +kernel) (by decide +kernel)
set_option maxRecDepth 100000 in
set_option maxHeartbeats 4000000 in
theorem ca_X5_draw_338 (l : Launch) : nk_CallOk l { frames := 3, cells := 0, slots := 0, locals := 68 } RX5 cX5_draw 6 false 338 (2, 0, 0, 0, ev_X5_within) := nk_callS (x := 84) (n := 2) (mt_X5_within l) (nk_msc [(1, 199), (1, 200), (1, 201), (1, 1)] (by decide +kernel)) rfl rfl (by decide +kernel) ⟨by decide, by decide⟩
set_option maxRecDepth 100000 in
set_option maxHeartbeats 4000000 in
theorem ca_X5_draw_1088 (l : Launch) : nk_CallOk l { frames := 3, cells := 0, slots := 0, locals := 68 } RX5 cX5_draw 6 false 1088 (1, 2, 0, 0, ev_X1_total) := nk_callV (x := 272) (n := 0) (ci := 1) (r := (RX1, TX1, 3)) (mt_X1_total l) rfl (nk_msc [(3, 90), (3, 91), (3, 92), (3, 93), (1, 6)] (by decide +kernel)) rfl rfl (by decide +kernel) ⟨by decide, by decide⟩
set_option maxRecDepth 100000 in
set_option maxHeartbeats 4000000 in
theorem ca_X5_draw_368 (l : Launch) : nk_CallOk l { frames := 3, cells := 0, slots := 0, locals := 68 } RX5 cX5_draw 6 false 368 (2, 6, 0, 0, ev_X5_found) := nk_callV (x := 92) (n := 1) (ci := 5) (r := (RX5, TX5, 13)) (mt_X5_found l) rfl (nk_msc [(1, 202), (1, 203), (1, 204), (1, 205), (0, 1), (1, 1)] (by decide +kernel)) rfl rfl (by decide +kernel) ⟨by decide, by decide⟩
set_option maxRecDepth 100000 in
set_option maxHeartbeats 4000000 in
theorem ca_X5_draw_1100 (l : Launch) : nk_CallOk l { frames := 3, cells := 0, slots := 0, locals := 68 } RX5 cX5_draw 6 false 1100 (2, 2, 0, 0, ev_X1_drawFromFirst) := nk_callV (x := 275) (n := 1) (ci := 1) (r := (RX1, TX1, 3)) (mt_X1_drawFromFirst l) rfl (nk_msc [(3, 94), (3, 95), (3, 96), (3, 97), (1, 6)] (by decide +kernel)) rfl rfl (by decide +kernel) ⟨by decide, by decide⟩
set_option maxRecDepth 100000 in
set_option maxHeartbeats 4000000 in
theorem ca_X5_draw_1112 (l : Launch) : nk_CallOk l { frames := 3, cells := 0, slots := 0, locals := 68 } RX5 cX5_draw 6 false 1112 (2, 2, 0, 0, ev_X1_drawByParts) := nk_callV (x := 278) (n := 1) (ci := 1) (r := (RX1, TX1, 3)) (mt_X1_drawByParts l) rfl (nk_msc [(3, 105), (3, 106), (3, 107), (3, 108), (1, 6)] (by decide +kernel)) rfl rfl (by decide +kernel) ⟨by decide, by decide⟩
set_option maxRecDepth 100000 in
set_option maxHeartbeats 4000000 in
theorem ca_X5_draw_1124 (l : Launch) : nk_CallOk l { frames := 3, cells := 0, slots := 0, locals := 68 } RX5 cX5_draw 6 false 1124 (3, 2, 0, 0, ev_X1_drawFromLast) := nk_callV (x := 281) (n := 2) (ci := 1) (r := (RX1, TX1, 3)) (mt_X1_drawFromLast l) rfl (nk_msc [(3, 110), (3, 111), (3, 112), (3, 113), (1, 6)] (by decide +kernel)) rfl rfl (by decide +kernel) ⟨by decide, by decide⟩
set_option maxRecDepth 100000 in
set_option maxHeartbeats 4000000 in
theorem ca_X5_draw_1136 (l : Launch) : nk_CallOk l { frames := 3, cells := 0, slots := 0, locals := 68 } RX5 cX5_draw 6 false 1136 (1, 2, 0, 0, ev_X1_dropEmpty) := nk_callV (x := 284) (n := 0) (ci := 1) (r := (RX1, TX1, 3)) (mt_X1_dropEmpty l) rfl (nk_msc [(3, 114), (3, 115), (3, 116), (3, 117), (1, 6)] (by decide +kernel)) rfl rfl (by decide +kernel) ⟨by decide, by decide⟩
set_option maxRecDepth 100000 in
set_option maxHeartbeats 4000000 in
theorem mt_X5_draw (l : Launch) : nk_Met l yX5_draw cX5_draw 6 (some .int) { frames := 3, cells := 0, slots := 0, locals := 68 } false 0 0 ev_X5_draw :=
  nk_met nk_gok (plainFor_of_name (by decide)) ck_X5_draw (nk_top_out 110 kt_X5_draw) ⟨List.forall_mem_cons.mpr ⟨nk_fkc [(1, 158)] (by decide +kernel), List.forall_mem_cons.mpr ⟨nk_fkc [(1, 143)] (by decide +kernel), fun _ h => absurd h List.not_mem_nil⟩⟩, List.forall_mem_cons.mpr ⟨ca_X5_draw_338 l, List.forall_mem_cons.mpr ⟨ca_X5_draw_1088 l, List.forall_mem_cons.mpr ⟨ca_X5_draw_368 l, List.forall_mem_cons.mpr ⟨ca_X5_draw_1100 l, List.forall_mem_cons.mpr ⟨ca_X5_draw_1112 l, List.forall_mem_cons.mpr ⟨ca_X5_draw_1124 l, List.forall_mem_cons.mpr ⟨ca_X5_draw_1136 l, fun _ h => absurd h List.not_mem_nil⟩⟩⟩⟩⟩⟩⟩, fun _ h => absurd h List.not_mem_nil, fun _ h => absurd h List.not_mem_nil, fun _ h => absurd h List.not_mem_nil, fun _ h => absurd h List.not_mem_nil, fun _ h => absurd h List.not_mem_nil, by decide, rfl, rfl⟩ rfl (by decide)
/-! MarbleLaw.left(II)I -/
noncomputable def kt_X5_left : Nat → Option nk_I := fun pc => bif Nat.ble pc 20 then ((fun pc => bif Nat.ble pc 9 then ((fun pc => bif Nat.ble pc 2 then ((fun pc => bif Nat.ble pc 0 then (bif Nat.beq pc 0 then some (.iload_n 1, 1, 1, [], 0) else none)
  else (bif Nat.ble pc 1 then (bif Nat.beq pc 1 then some (.iconst 4, 1, 2, [], 4) else none)
  else (bif Nat.beq pc 2 then some (.invokestatic 84, 3, 5, [], 0) else none))) : nk_F) pc
  else ((fun pc => bif Nat.ble pc 5 then (bif Nat.beq pc 5 then some (.ifCond .eq 12, 3, 8, [17], 0) else none)
  else (bif Nat.ble pc 8 then (bif Nat.beq pc 8 then some (.iload_n 2, 1, 9, [], 0) else none)
  else (bif Nat.beq pc 9 then some (.bipush 6, 2, 11, [], 6) else none))) : nk_F) pc) : nk_F) pc
  else ((fun pc => bif Nat.ble pc 17 then ((fun pc => bif Nat.ble pc 11 then (bif Nat.beq pc 11 then some (.invokestatic 84, 3, 14, [], 0) else none)
  else (bif Nat.ble pc 14 then (bif Nat.beq pc 14 then some (.ifCond .ne 5, 3, 17, [19], 0) else none)
  else (bif Nat.beq pc 17 then some (.iconst (-1), 1, 18, [], (-1)) else none))) : nk_F) pc
  else ((fun pc => bif Nat.ble pc 18 then (bif Nat.beq pc 18 then some (.ireturn, 1, 19, [], 0) else none)
  else (bif Nat.ble pc 19 then (bif Nat.beq pc 19 then some (.aload_n 0, 1, 20, [], 0) else none)
  else (bif Nat.beq pc 20 then some (.aload_n 0, 1, 21, [], 0) else none))) : nk_F) pc) : nk_F) pc) : nk_F) pc
  else ((fun pc => bif Nat.ble pc 32 then ((fun pc => bif Nat.ble pc 25 then ((fun pc => bif Nat.ble pc 21 then (bif Nat.beq pc 21 then some (.getfield 50, 3, 24, [], 0) else none)
  else (bif Nat.ble pc 24 then (bif Nat.beq pc 24 then some (.iload_n 1, 1, 25, [], 0) else none)
  else (bif Nat.beq pc 25 then some (.aaload, 1, 26, [], 0) else none))) : nk_F) pc
  else ((fun pc => bif Nat.ble pc 26 then (bif Nat.beq pc 26 then some (.invokevirtual 272, 3, 29, [], 0) else none)
  else (bif Nat.ble pc 29 then (bif Nat.beq pc 29 then some (.putfield 61, 3, 32, [], 0) else none)
  else (bif Nat.beq pc 32 then some (.aload_n 0, 1, 33, [], 0) else none))) : nk_F) pc) : nk_F) pc
  else ((fun pc => bif Nat.ble pc 37 then ((fun pc => bif Nat.ble pc 33 then (bif Nat.beq pc 33 then some (.getfield 50, 3, 36, [], 0) else none)
  else (bif Nat.ble pc 36 then (bif Nat.beq pc 36 then some (.iload_n 1, 1, 37, [], 0) else none)
  else (bif Nat.beq pc 37 then some (.aaload, 1, 38, [], 0) else none))) : nk_F) pc
  else ((fun pc => bif Nat.ble pc 38 then (bif Nat.beq pc 38 then some (.iload_n 2, 1, 39, [], 0) else none)
  else (bif Nat.ble pc 39 then (bif Nat.beq pc 39 then some (.invokevirtual 287, 3, 42, [], 0) else none)
  else (bif Nat.beq pc 42 then some (.ireturn, 1, 43, [], 0) else none))) : nk_F) pc) : nk_F) pc) : nk_F) pc
noncomputable def kc_X5_left : Nat → Option nk_I := nk_top 43 kt_X5_left
noncomputable def kx_X5_left : nk_T := ([(50, 5, 7, 4), (61, 5, 10, 0)], [(338, 2, 0, 0, 0, ev_X5_within), (1088, 1, 2, 0, 0, ev_X1_total), (1148, 2, 2, 0, 0, ev_X1_amountOf)], [], [], [], [], [], 1, false, 0, 0)
noncomputable def ev_X5_left : nk_Ev := fun as h Q => nk_if (Nat.ble (nk_wd as) 3) (nk_ev kx_X5_left kc_X5_left 3 as h Q)
set_option maxRecDepth 100000 in
theorem ck_X5_left : nk_chk cX5_left kc_X5_left 43 = true := nd_chk (by decide +kernel) (by decide +kernel)
set_option maxRecDepth 100000 in
set_option maxHeartbeats 4000000 in
theorem ca_X5_left_338 (l : Launch) : nk_CallOk l { frames := 1, cells := 0, slots := 0, locals := 23 } RX5 cX5_left 3 false 338 (2, 0, 0, 0, ev_X5_within) := nk_callS (x := 84) (n := 2) (mt_X5_within l) (nk_msc [(1, 199), (1, 200), (1, 201), (1, 1)] (by decide +kernel)) rfl rfl (by decide +kernel) ⟨by decide, by decide⟩
set_option maxRecDepth 100000 in
set_option maxHeartbeats 4000000 in
theorem ca_X5_left_1088 (l : Launch) : nk_CallOk l { frames := 1, cells := 0, slots := 0, locals := 23 } RX5 cX5_left 3 false 1088 (1, 2, 0, 0, ev_X1_total) := nk_callV (x := 272) (n := 0) (ci := 1) (r := (RX1, TX1, 3)) (mt_X1_total l) rfl (nk_msc [(3, 90), (3, 91), (3, 92), (3, 93), (1, 6)] (by decide +kernel)) rfl rfl (by decide +kernel) ⟨by decide, by decide⟩
set_option maxRecDepth 100000 in
set_option maxHeartbeats 4000000 in
theorem ca_X5_left_1148 (l : Launch) : nk_CallOk l { frames := 1, cells := 0, slots := 0, locals := 23 } RX5 cX5_left 3 false 1148 (2, 2, 0, 0, ev_X1_amountOf) := nk_callV (x := 287) (n := 1) (ci := 1) (r := (RX1, TX1, 3)) (mt_X1_amountOf l) rfl (nk_msc [(3, 122), (3, 123), (3, 124), (3, 125), (1, 6)] (by decide +kernel)) rfl rfl (by decide +kernel) ⟨by decide, by decide⟩
set_option maxRecDepth 100000 in
set_option maxHeartbeats 4000000 in
theorem mt_X5_left (l : Launch) : nk_Met l yX5_left cX5_left 3 (some .int) { frames := 1, cells := 0, slots := 0, locals := 23 } false 0 0 ev_X5_left :=
  nk_met nk_gok (plainFor_of_name (by decide)) ck_X5_left (nk_top_out 43 kt_X5_left) ⟨List.forall_mem_cons.mpr ⟨nk_fkc [(1, 158)] (by decide +kernel), List.forall_mem_cons.mpr ⟨nk_fkc [(1, 161)] (by decide +kernel), fun _ h => absurd h List.not_mem_nil⟩⟩, List.forall_mem_cons.mpr ⟨ca_X5_left_338 l, List.forall_mem_cons.mpr ⟨ca_X5_left_1088 l, List.forall_mem_cons.mpr ⟨ca_X5_left_1148 l, fun _ h => absurd h List.not_mem_nil⟩⟩⟩, fun _ h => absurd h List.not_mem_nil, fun _ h => absurd h List.not_mem_nil, fun _ h => absurd h List.not_mem_nil, fun _ h => absurd h List.not_mem_nil, fun _ h => absurd h List.not_mem_nil, by decide, rfl, rfl⟩ rfl (by decide)
/-! MarbleLaw.layer(II)I -/
noncomputable def kt_X5_layer : Nat → Option nk_I := fun pc => bif Nat.ble pc 17 then ((fun pc => bif Nat.ble pc 9 then ((fun pc => bif Nat.ble pc 2 then ((fun pc => bif Nat.ble pc 0 then (bif Nat.beq pc 0 then some (.iload_n 1, 1, 1, [], 0) else none)
  else (bif Nat.ble pc 1 then (bif Nat.beq pc 1 then some (.iconst 4, 1, 2, [], 4) else none)
  else (bif Nat.beq pc 2 then some (.invokestatic 84, 3, 5, [], 0) else none))) : nk_F) pc
  else ((fun pc => bif Nat.ble pc 5 then (bif Nat.beq pc 5 then some (.ifCond .ne 5, 3, 8, [10], 0) else none)
  else (bif Nat.ble pc 8 then (bif Nat.beq pc 8 then some (.iconst (-1), 1, 9, [], (-1)) else none)
  else (bif Nat.beq pc 9 then some (.ireturn, 1, 10, [], 0) else none))) : nk_F) pc) : nk_F) pc
  else ((fun pc => bif Nat.ble pc 12 then ((fun pc => bif Nat.ble pc 10 then (bif Nat.beq pc 10 then some (.iload_n 2, 1, 11, [], 0) else none)
  else (bif Nat.ble pc 11 then (bif Nat.beq pc 11 then some (.aload_n 0, 1, 12, [], 0) else none)
  else (bif Nat.beq pc 12 then some (.getfield 50, 3, 15, [], 0) else none))) : nk_F) pc
  else ((fun pc => bif Nat.ble pc 15 then (bif Nat.beq pc 15 then some (.iload_n 1, 1, 16, [], 0) else none)
  else (bif Nat.ble pc 16 then (bif Nat.beq pc 16 then some (.aaload, 1, 17, [], 0) else none)
  else (bif Nat.beq pc 17 then some (.getfield 268, 3, 20, [], 0) else none))) : nk_F) pc) : nk_F) pc) : nk_F) pc
  else ((fun pc => bif Nat.ble pc 31 then ((fun pc => bif Nat.ble pc 26 then ((fun pc => bif Nat.ble pc 20 then (bif Nat.beq pc 20 then some (.invokestatic 84, 3, 23, [], 0) else none)
  else (bif Nat.ble pc 23 then (bif Nat.beq pc 23 then some (.ifCond .ne 9, 3, 26, [32], 0) else none)
  else (bif Nat.beq pc 26 then some (.aload_n 0, 1, 27, [], 0) else none))) : nk_F) pc
  else ((fun pc => bif Nat.ble pc 27 then (bif Nat.beq pc 27 then some (.iconst 2, 1, 28, [], 2) else none)
  else (bif Nat.ble pc 28 then (bif Nat.beq pc 28 then some (.invokevirtual 92, 3, 31, [], 0) else none)
  else (bif Nat.beq pc 31 then some (.ireturn, 1, 32, [], 0) else none))) : nk_F) pc) : nk_F) pc
  else ((fun pc => bif Nat.ble pc 36 then ((fun pc => bif Nat.ble pc 32 then (bif Nat.beq pc 32 then some (.aload_n 0, 1, 33, [], 0) else none)
  else (bif Nat.ble pc 33 then (bif Nat.beq pc 33 then some (.getfield 50, 3, 36, [], 0) else none)
  else (bif Nat.beq pc 36 then some (.iload_n 1, 1, 37, [], 0) else none))) : nk_F) pc
  else ((fun pc => bif Nat.ble pc 38 then (bif Nat.ble pc 37 then (bif Nat.beq pc 37 then some (.aaload, 1, 38, [], 0) else none)
  else (bif Nat.beq pc 38 then some (.iload_n 2, 1, 39, [], 0) else none))
  else (bif Nat.ble pc 39 then (bif Nat.beq pc 39 then some (.invokevirtual 290, 3, 42, [], 0) else none)
  else (bif Nat.beq pc 42 then some (.ireturn, 1, 43, [], 0) else none))) : nk_F) pc) : nk_F) pc) : nk_F) pc
noncomputable def kc_X5_layer : Nat → Option nk_I := nk_top 43 kt_X5_layer
noncomputable def kx_X5_layer : nk_T := ([(50, 5, 7, 4), (268, 1, 2, 0)], [(338, 2, 0, 0, 0, ev_X5_within), (368, 2, 6, 0, 0, ev_X5_found), (1160, 2, 2, 0, 0, ev_X1_asNumber)], [], [], [], [], [], 1, false, 0, 0)
noncomputable def ev_X5_layer : nk_Ev := fun as h Q => nk_if (Nat.ble (nk_wd as) 3) (nk_ev kx_X5_layer kc_X5_layer 3 as h Q)
set_option maxRecDepth 100000 in
theorem ck_X5_layer : nk_chk cX5_layer kc_X5_layer 43 = true := nd_chk (by decide +kernel) (by decide +kernel)
set_option maxRecDepth 100000 in
set_option maxHeartbeats 4000000 in
theorem ca_X5_layer_338 (l : Launch) : nk_CallOk l { frames := 1, cells := 0, slots := 0, locals := 21 } RX5 cX5_layer 3 false 338 (2, 0, 0, 0, ev_X5_within) := nk_callS (x := 84) (n := 2) (mt_X5_within l) (nk_msc [(1, 199), (1, 200), (1, 201), (1, 1)] (by decide +kernel)) rfl rfl (by decide +kernel) ⟨by decide, by decide⟩
set_option maxRecDepth 100000 in
set_option maxHeartbeats 4000000 in
theorem ca_X5_layer_368 (l : Launch) : nk_CallOk l { frames := 1, cells := 0, slots := 0, locals := 21 } RX5 cX5_layer 3 false 368 (2, 6, 0, 0, ev_X5_found) := nk_callV (x := 92) (n := 1) (ci := 5) (r := (RX5, TX5, 13)) (mt_X5_found l) rfl (nk_msc [(1, 202), (1, 203), (1, 204), (1, 205), (0, 1), (1, 1)] (by decide +kernel)) rfl rfl (by decide +kernel) ⟨by decide, by decide⟩
set_option maxRecDepth 100000 in
set_option maxHeartbeats 4000000 in
theorem ca_X5_layer_1160 (l : Launch) : nk_CallOk l { frames := 1, cells := 0, slots := 0, locals := 21 } RX5 cX5_layer 3 false 1160 (2, 2, 0, 0, ev_X1_asNumber) := nk_callV (x := 290) (n := 1) (ci := 1) (r := (RX1, TX1, 3)) (mt_X1_asNumber l) rfl (nk_msc [(3, 130), (3, 131), (3, 132), (3, 133), (1, 6)] (by decide +kernel)) rfl rfl (by decide +kernel) ⟨by decide, by decide⟩
set_option maxRecDepth 100000 in
set_option maxHeartbeats 4000000 in
theorem mt_X5_layer (l : Launch) : nk_Met l yX5_layer cX5_layer 3 (some .int) { frames := 1, cells := 0, slots := 0, locals := 21 } false 0 0 ev_X5_layer :=
  nk_met nk_gok (plainFor_of_name (by decide)) ck_X5_layer (nk_top_out 43 kt_X5_layer) ⟨List.forall_mem_cons.mpr ⟨nk_fkc [(1, 158)] (by decide +kernel), List.forall_mem_cons.mpr ⟨nk_fkc [(1, 143)] (by decide +kernel), fun _ h => absurd h List.not_mem_nil⟩⟩, List.forall_mem_cons.mpr ⟨ca_X5_layer_338 l, List.forall_mem_cons.mpr ⟨ca_X5_layer_368 l, List.forall_mem_cons.mpr ⟨ca_X5_layer_1160 l, fun _ h => absurd h List.not_mem_nil⟩⟩⟩, fun _ h => absurd h List.not_mem_nil, fun _ h => absurd h List.not_mem_nil, fun _ h => absurd h List.not_mem_nil, fun _ h => absurd h List.not_mem_nil, fun _ h => absurd h List.not_mem_nil, by decide, rfl, rfl⟩ rfl (by decide)
/-! MarbleLaw.asked()I -/
noncomputable def kt_X5_asked : Nat → Option nk_I := fun pc => bif Nat.ble pc 0 then (bif Nat.beq pc 0 then some (.aload_n 0, 1, 1, [], 0) else none)
  else (bif Nat.ble pc 1 then (bif Nat.beq pc 1 then some (.getfield 61, 3, 4, [], 0) else none)
  else (bif Nat.beq pc 4 then some (.ireturn, 1, 5, [], 0) else none))
noncomputable def kc_X5_asked : Nat → Option nk_I := nk_top 5 kt_X5_asked
noncomputable def kx_X5_asked : nk_T := ([(61, 5, 10, 0)], [], [], [], [], [], [], 1, false, 0, 0)
noncomputable def ev_X5_asked : nk_Ev := fun as h Q => nk_if (Nat.ble (nk_wd as) 1) (nk_ev kx_X5_asked kc_X5_asked 1 as h Q)
set_option maxRecDepth 100000 in
theorem ck_X5_asked : nk_chk cX5_asked kc_X5_asked 5 = true := nd_chk (by decide +kernel) (by decide +kernel)
set_option maxRecDepth 100000 in
set_option maxHeartbeats 4000000 in
theorem mt_X5_asked (l : Launch) : nk_Met l yX5_asked cX5_asked 1 (some .int) { frames := 0, cells := 0, slots := 0, locals := 0 } false 0 0 ev_X5_asked :=
  nk_met nk_gok (plainFor_of_name (by decide)) ck_X5_asked (nk_top_out 5 kt_X5_asked) ⟨List.forall_mem_cons.mpr ⟨nk_fkc [(1, 161)] (by decide +kernel), fun _ h => absurd h List.not_mem_nil⟩, fun _ h => absurd h List.not_mem_nil, fun _ h => absurd h List.not_mem_nil, fun _ h => absurd h List.not_mem_nil, fun _ h => absurd h List.not_mem_nil, fun _ h => absurd h List.not_mem_nil, fun _ h => absurd h List.not_mem_nil, by decide, rfl, rfl⟩ rfl (by decide)
/-! MarbleLaw.upper()J -/
noncomputable def kt_X5_upper : Nat → Option nk_I := fun pc => bif Nat.ble pc 0 then (bif Nat.beq pc 0 then some (.aload_n 0, 1, 1, [], 0) else none)
  else (bif Nat.ble pc 1 then (bif Nat.beq pc 1 then some (.getfield 64, 3, 4, [], 0) else none)
  else (bif Nat.beq pc 4 then some (.lreturn, 1, 5, [], 0) else none))
noncomputable def kc_X5_upper : Nat → Option nk_I := nk_top 5 kt_X5_upper
noncomputable def kx_X5_upper : nk_T := ([(64, 5, 11, 2)], [], [], [], [], [], [], 3, false, 0, 0)
noncomputable def ev_X5_upper : nk_Ev := fun as h Q => nk_if (Nat.ble (nk_wd as) 1) (nk_ev kx_X5_upper kc_X5_upper 1 as h Q)
set_option maxRecDepth 100000 in
theorem ck_X5_upper : nk_chk cX5_upper kc_X5_upper 5 = true := nd_chk (by decide +kernel) (by decide +kernel)
set_option maxRecDepth 100000 in
set_option maxHeartbeats 4000000 in
theorem mt_X5_upper (l : Launch) : nk_Met l yX5_upper cX5_upper 1 (some .long) { frames := 0, cells := 0, slots := 0, locals := 0 } false 0 0 ev_X5_upper :=
  nk_met nk_gok (plainFor_of_name (by decide)) ck_X5_upper (nk_top_out 5 kt_X5_upper) ⟨List.forall_mem_cons.mpr ⟨nk_fkc [(1, 162)] (by decide +kernel), fun _ h => absurd h List.not_mem_nil⟩, fun _ h => absurd h List.not_mem_nil, fun _ h => absurd h List.not_mem_nil, fun _ h => absurd h List.not_mem_nil, fun _ h => absurd h List.not_mem_nil, fun _ h => absurd h List.not_mem_nil, fun _ h => absurd h List.not_mem_nil, by decide, rfl, rfl⟩ rfl (by decide)
/-! MarbleLaw.lower()J -/
noncomputable def kt_X5_lower : Nat → Option nk_I := fun pc => bif Nat.ble pc 0 then (bif Nat.beq pc 0 then some (.aload_n 0, 1, 1, [], 0) else none)
  else (bif Nat.ble pc 1 then (bif Nat.beq pc 1 then some (.getfield 68, 3, 4, [], 0) else none)
  else (bif Nat.beq pc 4 then some (.lreturn, 1, 5, [], 0) else none))
noncomputable def kc_X5_lower : Nat → Option nk_I := nk_top 5 kt_X5_lower
noncomputable def kx_X5_lower : nk_T := ([(68, 5, 12, 2)], [], [], [], [], [], [], 3, false, 0, 0)
noncomputable def ev_X5_lower : nk_Ev := fun as h Q => nk_if (Nat.ble (nk_wd as) 1) (nk_ev kx_X5_lower kc_X5_lower 1 as h Q)
set_option maxRecDepth 100000 in
theorem ck_X5_lower : nk_chk cX5_lower kc_X5_lower 5 = true := nd_chk (by decide +kernel) (by decide +kernel)
set_option maxRecDepth 100000 in
set_option maxHeartbeats 4000000 in
theorem mt_X5_lower (l : Launch) : nk_Met l yX5_lower cX5_lower 1 (some .long) { frames := 0, cells := 0, slots := 0, locals := 0 } false 0 0 ev_X5_lower :=
  nk_met nk_gok (plainFor_of_name (by decide)) ck_X5_lower (nk_top_out 5 kt_X5_lower) ⟨List.forall_mem_cons.mpr ⟨nk_fkc [(1, 163)] (by decide +kernel), fun _ h => absurd h List.not_mem_nil⟩, fun _ h => absurd h List.not_mem_nil, fun _ h => absurd h List.not_mem_nil, fun _ h => absurd h List.not_mem_nil, fun _ h => absurd h List.not_mem_nil, fun _ h => absurd h List.not_mem_nil, fun _ h => absurd h List.not_mem_nil, by decide, rfl, rfl⟩ rfl (by decide)
/-! MarbleLaw.thereOf([LMarbleLaw$Row;)I -/
noncomputable def kt_X5_thereOf : Nat → Option nk_I := fun pc => bif Nat.ble pc 17 then ((fun pc => bif Nat.ble pc 6 then ((fun pc => bif Nat.ble pc 2 then ((fun pc => bif Nat.ble pc 0 then (bif Nat.beq pc 0 then some (.iconst 0, 1, 1, [], 0) else none)
  else (bif Nat.ble pc 1 then (bif Nat.beq pc 1 then some (.istore_n 1, 1, 2, [], 0) else none)
  else (bif Nat.beq pc 2 then some (.aload_n 0, 1, 3, [], 0) else none))) : nk_F) pc
  else ((fun pc => bif Nat.ble pc 4 then (bif Nat.ble pc 3 then (bif Nat.beq pc 3 then some (.astore_n 2, 1, 4, [], 0) else none)
  else (bif Nat.beq pc 4 then some (.aload_n 2, 1, 5, [], 0) else none))
  else (bif Nat.ble pc 5 then (bif Nat.beq pc 5 then some (.arraylength, 1, 6, [], 0) else none)
  else (bif Nat.beq pc 6 then some (.istore_n 3, 1, 7, [], 0) else none))) : nk_F) pc) : nk_F) pc
  else ((fun pc => bif Nat.ble pc 10 then ((fun pc => bif Nat.ble pc 7 then (bif Nat.beq pc 7 then some (.iconst 0, 1, 8, [], 0) else none)
  else (bif Nat.ble pc 8 then (bif Nat.beq pc 8 then some (.istore 4, 2, 10, [], 0) else none)
  else (bif Nat.beq pc 10 then some (.iload 4, 2, 12, [], 0) else none))) : nk_F) pc
  else ((fun pc => bif Nat.ble pc 13 then (bif Nat.ble pc 12 then (bif Nat.beq pc 12 then some (.iload_n 3, 1, 13, [], 0) else none)
  else (bif Nat.beq pc 13 then some (.if_icmp .ge 31, 3, 16, [44], 0) else none))
  else (bif Nat.ble pc 16 then (bif Nat.beq pc 16 then some (.aload_n 2, 1, 17, [], 0) else none)
  else (bif Nat.beq pc 17 then some (.iload 4, 2, 19, [], 0) else none))) : nk_F) pc) : nk_F) pc) : nk_F) pc
  else ((fun pc => bif Nat.ble pc 31 then ((fun pc => bif Nat.ble pc 22 then ((fun pc => bif Nat.ble pc 19 then (bif Nat.beq pc 19 then some (.aaload, 1, 20, [], 0) else none)
  else (bif Nat.ble pc 20 then (bif Nat.beq pc 20 then some (.astore 5, 2, 22, [], 0) else none)
  else (bif Nat.beq pc 22 then some (.iload_n 1, 1, 23, [], 0) else none))) : nk_F) pc
  else ((fun pc => bif Nat.ble pc 25 then (bif Nat.ble pc 23 then (bif Nat.beq pc 23 then some (.aload 5, 2, 25, [], 0) else none)
  else (bif Nat.beq pc 25 then some (.invokevirtual 88, 3, 28, [], 0) else none))
  else (bif Nat.ble pc 28 then (bif Nat.beq pc 28 then some (.ifCond .eq 7, 3, 31, [35], 0) else none)
  else (bif Nat.beq pc 31 then some (.iconst 0, 1, 32, [], 0) else none))) : nk_F) pc) : nk_F) pc
  else ((fun pc => bif Nat.ble pc 37 then ((fun pc => bif Nat.ble pc 35 then (bif Nat.ble pc 32 then (bif Nat.beq pc 32 then some (.goto 4, 3, 35, [36], 0) else none)
  else (bif Nat.beq pc 35 then some (.iconst 1, 1, 36, [], 1) else none))
  else (bif Nat.ble pc 36 then (bif Nat.beq pc 36 then some (.iadd, 1, 37, [], 0) else none)
  else (bif Nat.beq pc 37 then some (.istore_n 1, 1, 38, [], 0) else none))) : nk_F) pc
  else ((fun pc => bif Nat.ble pc 41 then (bif Nat.ble pc 38 then (bif Nat.beq pc 38 then some (.iinc 4 1, 3, 41, [], 1) else none)
  else (bif Nat.beq pc 41 then some (.goto (-31), 3, 44, [10], 0) else none))
  else (bif Nat.ble pc 44 then (bif Nat.beq pc 44 then some (.iload_n 1, 1, 45, [], 0) else none)
  else (bif Nat.beq pc 45 then some (.ireturn, 1, 46, [], 0) else none))) : nk_F) pc) : nk_F) pc) : nk_F) pc
noncomputable def kc_X5_thereOf : Nat → Option nk_I := nk_top 46 kt_X5_thereOf
noncomputable def kx_X5_thereOf : nk_T := ([], [(352, 1, 4, 0, 0, ev_X3_isMissing)], [], [], [], [], [], 1, false, 0, 0)
noncomputable def ev_X5_thereOf : nk_Ev := fun as h Q => nk_if (Nat.ble (nk_wd as) 6) (nk_ev kx_X5_thereOf kc_X5_thereOf 6 as h Q)
set_option maxRecDepth 100000 in
theorem ck_X5_thereOf : nk_chk cX5_thereOf kc_X5_thereOf 46 = true := nd_chk (by decide +kernel) (by decide +kernel)
set_option maxRecDepth 100000 in
set_option maxHeartbeats 4000000 in
theorem ca_X5_thereOf_352 (l : Launch) : nk_CallOk l { frames := 1, cells := 0, slots := 0, locals := 20 } RX5 cX5_thereOf 6 false 352 (1, 4, 0, 0, ev_X3_isMissing) := nk_callV (x := 88) (n := 0) (ci := 3) (r := (RX3, TX3, 2)) (mt_X3_isMissing l) rfl (nk_msc [(1, 218), (1, 219), (1, 220), (1, 221), (1, 5)] (by decide +kernel)) rfl rfl (by decide +kernel) ⟨by decide, by decide⟩
set_option maxRecDepth 100000 in
set_option maxHeartbeats 4000000 in
theorem mt_X5_thereOf (l : Launch) : nk_Met l yX5_thereOf cX5_thereOf 6 (some .int) { frames := 1, cells := 0, slots := 0, locals := 20 } false 0 0 ev_X5_thereOf :=
  nk_met nk_gok (plainFor_of_name (by decide)) ck_X5_thereOf (nk_top_out 46 kt_X5_thereOf) ⟨fun _ h => absurd h List.not_mem_nil, List.forall_mem_cons.mpr ⟨ca_X5_thereOf_352 l, fun _ h => absurd h List.not_mem_nil⟩, fun _ h => absurd h List.not_mem_nil, fun _ h => absurd h List.not_mem_nil, fun _ h => absurd h List.not_mem_nil, fun _ h => absurd h List.not_mem_nil, fun _ h => absurd h List.not_mem_nil, by decide, rfl, rfl⟩ rfl (by decide)
/-! MarbleLaw.counted(I)I -/
noncomputable def kt_X5_counted : Nat → Option nk_I := fun pc => bif Nat.ble pc 108 then ((fun pc => bif Nat.ble pc 71 then ((fun pc => bif Nat.ble pc 49 then ((fun pc => bif Nat.ble pc 40 then ((fun pc => bif Nat.ble pc 1 then (bif Nat.ble pc 0 then (bif Nat.beq pc 0 then some (.iconst 0, 1, 1, [], 0) else none)
  else (bif Nat.beq pc 1 then some (.istore_n 2, 1, 2, [], 0) else none))
  else ((fun pc => bif Nat.ble pc 2 then (bif Nat.beq pc 2 then some (.iload_n 1, 1, 3, [], 0) else none)
  else (bif Nat.ble pc 3 then (bif Nat.beq pc 3 then some (.tableswitch 146 0 5 #[37, 45, 53, 61, 69, 113], 37, 40, [149, 40, 48, 56, 64, 72, 116], 0) else none)
  else (bif Nat.beq pc 40 then some (.aload_n 0, 1, 41, [], 0) else none))) : nk_F) pc) : nk_F) pc
  else ((fun pc => bif Nat.ble pc 44 then (bif Nat.ble pc 41 then (bif Nat.beq pc 41 then some (.getfield 11, 3, 44, [], 0) else none)
  else (bif Nat.beq pc 44 then some (.invokestatic 319, 3, 47, [], 0) else none))
  else ((fun pc => bif Nat.ble pc 47 then (bif Nat.beq pc 47 then some (.ireturn, 1, 48, [], 0) else none)
  else (bif Nat.ble pc 48 then (bif Nat.beq pc 48 then some (.aload_n 0, 1, 49, [], 0) else none)
  else (bif Nat.beq pc 49 then some (.getfield 15, 3, 52, [], 0) else none))) : nk_F) pc) : nk_F) pc) : nk_F) pc
  else ((fun pc => bif Nat.ble pc 60 then ((fun pc => bif Nat.ble pc 55 then (bif Nat.ble pc 52 then (bif Nat.beq pc 52 then some (.invokestatic 319, 3, 55, [], 0) else none)
  else (bif Nat.beq pc 55 then some (.ireturn, 1, 56, [], 0) else none))
  else ((fun pc => bif Nat.ble pc 56 then (bif Nat.beq pc 56 then some (.aload_n 0, 1, 57, [], 0) else none)
  else (bif Nat.ble pc 57 then (bif Nat.beq pc 57 then some (.getfield 21, 3, 60, [], 0) else none)
  else (bif Nat.beq pc 60 then some (.getfield 116, 3, 63, [], 0) else none))) : nk_F) pc) : nk_F) pc
  else ((fun pc => bif Nat.ble pc 64 then (bif Nat.ble pc 63 then (bif Nat.beq pc 63 then some (.ireturn, 1, 64, [], 0) else none)
  else (bif Nat.beq pc 64 then some (.aload_n 0, 1, 65, [], 0) else none))
  else ((fun pc => bif Nat.ble pc 65 then (bif Nat.beq pc 65 then some (.getfield 21, 3, 68, [], 0) else none)
  else (bif Nat.ble pc 68 then (bif Nat.beq pc 68 then some (.getfield 142, 3, 71, [], 0) else none)
  else (bif Nat.beq pc 71 then some (.ireturn, 1, 72, [], 0) else none))) : nk_F) pc) : nk_F) pc) : nk_F) pc) : nk_F) pc
  else ((fun pc => bif Nat.ble pc 87 then ((fun pc => bif Nat.ble pc 76 then ((fun pc => bif Nat.ble pc 73 then (bif Nat.ble pc 72 then (bif Nat.beq pc 72 then some (.iconst 0, 1, 73, [], 0) else none)
  else (bif Nat.beq pc 73 then some (.istore_n 3, 1, 74, [], 0) else none))
  else ((fun pc => bif Nat.ble pc 74 then (bif Nat.beq pc 74 then some (.iload_n 3, 1, 75, [], 0) else none)
  else (bif Nat.ble pc 75 then (bif Nat.beq pc 75 then some (.aload_n 0, 1, 76, [], 0) else none)
  else (bif Nat.beq pc 76 then some (.getfield 21, 3, 79, [], 0) else none))) : nk_F) pc) : nk_F) pc
  else ((fun pc => bif Nat.ble pc 82 then (bif Nat.ble pc 79 then (bif Nat.beq pc 79 then some (.getfield 142, 3, 82, [], 0) else none)
  else (bif Nat.beq pc 82 then some (.if_icmp .ge 32, 3, 85, [114], 0) else none))
  else ((fun pc => bif Nat.ble pc 85 then (bif Nat.beq pc 85 then some (.iload_n 2, 1, 86, [], 0) else none)
  else (bif Nat.ble pc 86 then (bif Nat.beq pc 86 then some (.aload_n 0, 1, 87, [], 0) else none)
  else (bif Nat.beq pc 87 then some (.getfield 21, 3, 90, [], 0) else none))) : nk_F) pc) : nk_F) pc) : nk_F) pc
  else ((fun pc => bif Nat.ble pc 98 then ((fun pc => bif Nat.ble pc 91 then (bif Nat.ble pc 90 then (bif Nat.beq pc 90 then some (.iload_n 3, 1, 91, [], 0) else none)
  else (bif Nat.beq pc 91 then some (.iconst 0, 1, 92, [], 0) else none))
  else ((fun pc => bif Nat.ble pc 92 then (bif Nat.beq pc 92 then some (.invokevirtual 152, 3, 95, [], 0) else none)
  else (bif Nat.ble pc 95 then (bif Nat.beq pc 95 then some (.invokestatic 155, 3, 98, [], 0) else none)
  else (bif Nat.beq pc 98 then some (.ifCond .eq 7, 3, 101, [105], 0) else none))) : nk_F) pc) : nk_F) pc
  else ((fun pc => bif Nat.ble pc 105 then ((fun pc => bif Nat.ble pc 101 then (bif Nat.beq pc 101 then some (.iconst 1, 1, 102, [], 1) else none)
  else (bif Nat.ble pc 102 then (bif Nat.beq pc 102 then some (.goto 4, 3, 105, [106], 0) else none)
  else (bif Nat.beq pc 105 then some (.iconst 0, 1, 106, [], 0) else none))) : nk_F) pc
  else ((fun pc => bif Nat.ble pc 106 then (bif Nat.beq pc 106 then some (.iadd, 1, 107, [], 0) else none)
  else (bif Nat.ble pc 107 then (bif Nat.beq pc 107 then some (.istore_n 2, 1, 108, [], 0) else none)
  else (bif Nat.beq pc 108 then some (.iinc 3 1, 3, 111, [], 1) else none))) : nk_F) pc) : nk_F) pc) : nk_F) pc) : nk_F) pc) : nk_F) pc
  else ((fun pc => bif Nat.ble pc 140 then ((fun pc => bif Nat.ble pc 124 then ((fun pc => bif Nat.ble pc 117 then ((fun pc => bif Nat.ble pc 114 then (bif Nat.ble pc 111 then (bif Nat.beq pc 111 then some (.goto (-37), 3, 114, [74], 0) else none)
  else (bif Nat.beq pc 114 then some (.iload_n 2, 1, 115, [], 0) else none))
  else ((fun pc => bif Nat.ble pc 115 then (bif Nat.beq pc 115 then some (.ireturn, 1, 116, [], 0) else none)
  else (bif Nat.ble pc 116 then (bif Nat.beq pc 116 then some (.iconst 0, 1, 117, [], 0) else none)
  else (bif Nat.beq pc 117 then some (.istore_n 3, 1, 118, [], 0) else none))) : nk_F) pc) : nk_F) pc
  else ((fun pc => bif Nat.ble pc 119 then (bif Nat.ble pc 118 then (bif Nat.beq pc 118 then some (.iload_n 3, 1, 119, [], 0) else none)
  else (bif Nat.beq pc 119 then some (.iconst 4, 1, 120, [], 4) else none))
  else ((fun pc => bif Nat.ble pc 120 then (bif Nat.beq pc 120 then some (.if_icmp .ge 27, 3, 123, [147], 0) else none)
  else (bif Nat.ble pc 123 then (bif Nat.beq pc 123 then some (.iload_n 2, 1, 124, [], 0) else none)
  else (bif Nat.beq pc 124 then some (.aload_n 0, 1, 125, [], 0) else none))) : nk_F) pc) : nk_F) pc) : nk_F) pc
  else ((fun pc => bif Nat.ble pc 131 then ((fun pc => bif Nat.ble pc 128 then (bif Nat.ble pc 125 then (bif Nat.beq pc 125 then some (.getfield 32, 3, 128, [], 0) else none)
  else (bif Nat.beq pc 128 then some (.iload_n 3, 1, 129, [], 0) else none))
  else ((fun pc => bif Nat.ble pc 129 then (bif Nat.beq pc 129 then some (.iaload, 1, 130, [], 0) else none)
  else (bif Nat.ble pc 130 then (bif Nat.beq pc 130 then some (.iconst (-1), 1, 131, [], (-1)) else none)
  else (bif Nat.beq pc 131 then some (.if_icmp .ne 7, 3, 134, [138], 0) else none))) : nk_F) pc) : nk_F) pc
  else ((fun pc => bif Nat.ble pc 135 then (bif Nat.ble pc 134 then (bif Nat.beq pc 134 then some (.iconst 0, 1, 135, [], 0) else none)
  else (bif Nat.beq pc 135 then some (.goto 4, 3, 138, [139], 0) else none))
  else ((fun pc => bif Nat.ble pc 138 then (bif Nat.beq pc 138 then some (.iconst 1, 1, 139, [], 1) else none)
  else (bif Nat.ble pc 139 then (bif Nat.beq pc 139 then some (.iadd, 1, 140, [], 0) else none)
  else (bif Nat.beq pc 140 then some (.istore_n 2, 1, 141, [], 0) else none))) : nk_F) pc) : nk_F) pc) : nk_F) pc) : nk_F) pc
  else ((fun pc => bif Nat.ble pc 156 then ((fun pc => bif Nat.ble pc 149 then ((fun pc => bif Nat.ble pc 144 then (bif Nat.ble pc 141 then (bif Nat.beq pc 141 then some (.iinc 3 1, 3, 144, [], 1) else none)
  else (bif Nat.beq pc 144 then some (.goto (-26), 3, 147, [118], 0) else none))
  else ((fun pc => bif Nat.ble pc 147 then (bif Nat.beq pc 147 then some (.iload_n 2, 1, 148, [], 0) else none)
  else (bif Nat.ble pc 148 then (bif Nat.beq pc 148 then some (.ireturn, 1, 149, [], 0) else none)
  else (bif Nat.beq pc 149 then some (.iconst 0, 1, 150, [], 0) else none))) : nk_F) pc) : nk_F) pc
  else ((fun pc => bif Nat.ble pc 151 then (bif Nat.ble pc 150 then (bif Nat.beq pc 150 then some (.istore_n 3, 1, 151, [], 0) else none)
  else (bif Nat.beq pc 151 then some (.iload_n 3, 1, 152, [], 0) else none))
  else ((fun pc => bif Nat.ble pc 152 then (bif Nat.beq pc 152 then some (.iconst 4, 1, 153, [], 4) else none)
  else (bif Nat.ble pc 153 then (bif Nat.beq pc 153 then some (.if_icmp .ge 21, 3, 156, [174], 0) else none)
  else (bif Nat.beq pc 156 then some (.iload_n 2, 1, 157, [], 0) else none))) : nk_F) pc) : nk_F) pc) : nk_F) pc
  else ((fun pc => bif Nat.ble pc 163 then ((fun pc => bif Nat.ble pc 158 then (bif Nat.ble pc 157 then (bif Nat.beq pc 157 then some (.aload_n 0, 1, 158, [], 0) else none)
  else (bif Nat.beq pc 158 then some (.getfield 50, 3, 161, [], 0) else none))
  else ((fun pc => bif Nat.ble pc 161 then (bif Nat.beq pc 161 then some (.iload_n 3, 1, 162, [], 0) else none)
  else (bif Nat.ble pc 162 then (bif Nat.beq pc 162 then some (.aaload, 1, 163, [], 0) else none)
  else (bif Nat.beq pc 163 then some (.getfield 268, 3, 166, [], 0) else none))) : nk_F) pc) : nk_F) pc
  else ((fun pc => bif Nat.ble pc 168 then ((fun pc => bif Nat.ble pc 166 then (bif Nat.beq pc 166 then some (.iadd, 1, 167, [], 0) else none)
  else (bif Nat.ble pc 167 then (bif Nat.beq pc 167 then some (.istore_n 2, 1, 168, [], 0) else none)
  else (bif Nat.beq pc 168 then some (.iinc 3 1, 3, 171, [], 1) else none))) : nk_F) pc
  else ((fun pc => bif Nat.ble pc 171 then (bif Nat.beq pc 171 then some (.goto (-20), 3, 174, [151], 0) else none)
  else (bif Nat.ble pc 174 then (bif Nat.beq pc 174 then some (.iload_n 2, 1, 175, [], 0) else none)
  else (bif Nat.beq pc 175 then some (.ireturn, 1, 176, [], 0) else none))) : nk_F) pc) : nk_F) pc) : nk_F) pc) : nk_F) pc) : nk_F) pc
noncomputable def kc_X5_counted : Nat → Option nk_I := nk_top 176 kt_X5_counted
noncomputable def kx_X5_counted : nk_T := ([(11, 5, 0, 4), (15, 5, 1, 4), (21, 5, 2, 4), (116, 4, 2, 0), (142, 4, 3, 0), (32, 5, 4, 4), (50, 5, 7, 4), (268, 1, 2, 0)], [(1278, 1, 0, 0, 0, ev_X5_thereOf), (608, 3, 5, 0, 0, ev_X4_ofMaking), (622, 1, 0, 0, 0, ev_X5_isJoin)], [], [], [], [], [], 1, false, 0, 0)
noncomputable def ev_X5_counted : nk_Ev := fun as h Q => nk_if (Nat.ble (nk_wd as) 4) (nk_ev kx_X5_counted kc_X5_counted 4 as h Q)
set_option maxRecDepth 100000 in
theorem ck_X5_counted : nk_chk cX5_counted kc_X5_counted 176 = true := nd_chk (by decide +kernel) (by decide +kernel)
set_option maxRecDepth 100000 in
set_option maxHeartbeats 4000000 in
theorem ca_X5_counted_1278 (l : Launch) : nk_CallOk l { frames := 2, cells := 0, slots := 0, locals := 45 } RX5 cX5_counted 4 false 1278 (1, 0, 0, 0, ev_X5_thereOf) := nk_callS (x := 319) (n := 1) (mt_X5_thereOf l) (nk_msc [(3, 154), (3, 155), (3, 156), (1, 1)] (by decide +kernel)) rfl rfl (by decide +kernel) ⟨by decide, by decide⟩
set_option maxRecDepth 100000 in
set_option maxHeartbeats 4000000 in
theorem ca_X5_counted_608 (l : Launch) : nk_CallOk l { frames := 2, cells := 0, slots := 0, locals := 45 } RX5 cX5_counted 4 false 608 (3, 5, 0, 0, ev_X4_ofMaking) := nk_callV (x := 152) (n := 2) (ci := 4) (r := (RX4, TX4, 4)) (mt_X4_ofMaking l) rfl (nk_msc [(2, 78), (2, 79), (2, 80), (2, 81), (1, 2)] (by decide +kernel)) rfl rfl (by decide +kernel) ⟨by decide, by decide⟩
set_option maxRecDepth 100000 in
set_option maxHeartbeats 4000000 in
theorem ca_X5_counted_622 (l : Launch) : nk_CallOk l { frames := 2, cells := 0, slots := 0, locals := 45 } RX5 cX5_counted 4 false 622 (1, 0, 0, 0, ev_X5_isJoin) := nk_callS (x := 155) (n := 1) (mt_X5_isJoin l) (nk_msc [(2, 86), (2, 87), (2, 88), (1, 1)] (by decide +kernel)) rfl rfl (by decide +kernel) ⟨by decide, by decide⟩
set_option maxRecDepth 100000 in
set_option maxHeartbeats 4000000 in
theorem mt_X5_counted (l : Launch) : nk_Met l yX5_counted cX5_counted 4 (some .int) { frames := 2, cells := 0, slots := 0, locals := 45 } false 0 0 ev_X5_counted :=
  nk_met nk_gok (plainFor_of_name (by decide)) ck_X5_counted (nk_top_out 176 kt_X5_counted) ⟨List.forall_mem_cons.mpr ⟨nk_fkc [(1, 151)] (by decide +kernel), List.forall_mem_cons.mpr ⟨nk_fkc [(1, 152)] (by decide +kernel), List.forall_mem_cons.mpr ⟨nk_fkc [(1, 153)] (by decide +kernel), List.forall_mem_cons.mpr ⟨nk_fkc [(1, 31)] (by decide +kernel), List.forall_mem_cons.mpr ⟨nk_fkc [(1, 33)] (by decide +kernel), List.forall_mem_cons.mpr ⟨nk_fkc [(1, 155)] (by decide +kernel), List.forall_mem_cons.mpr ⟨nk_fkc [(1, 158)] (by decide +kernel), List.forall_mem_cons.mpr ⟨nk_fkc [(1, 143)] (by decide +kernel), fun _ h => absurd h List.not_mem_nil⟩⟩⟩⟩⟩⟩⟩⟩, List.forall_mem_cons.mpr ⟨ca_X5_counted_1278 l, List.forall_mem_cons.mpr ⟨ca_X5_counted_608 l, List.forall_mem_cons.mpr ⟨ca_X5_counted_622 l, fun _ h => absurd h List.not_mem_nil⟩⟩⟩, fun _ h => absurd h List.not_mem_nil, fun _ h => absurd h List.not_mem_nil, fun _ h => absurd h List.not_mem_nil, fun _ h => absurd h List.not_mem_nil, fun _ h => absurd h List.not_mem_nil, by decide, rfl, rfl⟩ rfl (by decide)
/-! MarbleLaw.count(I)I -/
noncomputable def kt_X5_count : Nat → Option nk_I := fun pc => bif Nat.ble pc 9 then ((fun pc => bif Nat.ble pc 1 then (bif Nat.ble pc 0 then (bif Nat.beq pc 0 then some (.iload_n 1, 1, 1, [], 0) else none)
  else (bif Nat.beq pc 1 then some (.bipush 7, 2, 3, [], 7) else none))
  else ((fun pc => bif Nat.ble pc 3 then (bif Nat.beq pc 3 then some (.invokestatic 84, 3, 6, [], 0) else none)
  else (bif Nat.ble pc 6 then (bif Nat.beq pc 6 then some (.ifCond .ne 5, 3, 9, [11], 0) else none)
  else (bif Nat.beq pc 9 then some (.iconst (-1), 1, 10, [], (-1)) else none))) : nk_F) pc) : nk_F) pc
  else ((fun pc => bif Nat.ble pc 11 then (bif Nat.ble pc 10 then (bif Nat.beq pc 10 then some (.ireturn, 1, 11, [], 0) else none)
  else (bif Nat.beq pc 11 then some (.aload_n 0, 1, 12, [], 0) else none))
  else ((fun pc => bif Nat.ble pc 12 then (bif Nat.beq pc 12 then some (.iload_n 1, 1, 13, [], 0) else none)
  else (bif Nat.ble pc 13 then (bif Nat.beq pc 13 then some (.invokevirtual 293, 3, 16, [], 0) else none)
  else (bif Nat.beq pc 16 then some (.ireturn, 1, 17, [], 0) else none))) : nk_F) pc) : nk_F) pc
noncomputable def kc_X5_count : Nat → Option nk_I := nk_top 17 kt_X5_count
noncomputable def kx_X5_count : nk_T := ([], [(338, 2, 0, 0, 0, ev_X5_within), (1172, 2, 6, 0, 0, ev_X5_counted)], [], [], [], [], [], 1, false, 0, 0)
noncomputable def ev_X5_count : nk_Ev := fun as h Q => nk_if (Nat.ble (nk_wd as) 2) (nk_ev kx_X5_count kc_X5_count 2 as h Q)
set_option maxRecDepth 100000 in
theorem ck_X5_count : nk_chk cX5_count kc_X5_count 17 = true := nd_chk (by decide +kernel) (by decide +kernel)
set_option maxRecDepth 100000 in
set_option maxHeartbeats 4000000 in
theorem ca_X5_count_338 (l : Launch) : nk_CallOk l { frames := 3, cells := 0, slots := 0, locals := 68 } RX5 cX5_count 2 false 338 (2, 0, 0, 0, ev_X5_within) := nk_callS (x := 84) (n := 2) (mt_X5_within l) (nk_msc [(1, 199), (1, 200), (1, 201), (1, 1)] (by decide +kernel)) rfl rfl (by decide +kernel) ⟨by decide, by decide⟩
set_option maxRecDepth 100000 in
set_option maxHeartbeats 4000000 in
theorem ca_X5_count_1172 (l : Launch) : nk_CallOk l { frames := 3, cells := 0, slots := 0, locals := 68 } RX5 cX5_count 2 false 1172 (2, 6, 0, 0, ev_X5_counted) := nk_callV (x := 293) (n := 1) (ci := 5) (r := (RX5, TX5, 13)) (mt_X5_counted l) rfl (nk_msc [(3, 150), (3, 151), (3, 152), (3, 153), (0, 25), (1, 1)] (by decide +kernel)) rfl rfl (by decide +kernel) ⟨by decide, by decide⟩
set_option maxRecDepth 100000 in
set_option maxHeartbeats 4000000 in
theorem mt_X5_count (l : Launch) : nk_Met l yX5_count cX5_count 2 (some .int) { frames := 3, cells := 0, slots := 0, locals := 68 } false 0 0 ev_X5_count :=
  nk_met nk_gok (plainFor_of_name (by decide)) ck_X5_count (nk_top_out 17 kt_X5_count) ⟨fun _ h => absurd h List.not_mem_nil, List.forall_mem_cons.mpr ⟨ca_X5_count_338 l, List.forall_mem_cons.mpr ⟨ca_X5_count_1172 l, fun _ h => absurd h List.not_mem_nil⟩⟩, fun _ h => absurd h List.not_mem_nil, fun _ h => absurd h List.not_mem_nil, fun _ h => absurd h List.not_mem_nil, fun _ h => absurd h List.not_mem_nil, fun _ h => absurd h List.not_mem_nil, by decide, rfl, rfl⟩ rfl (by decide)
/-! MarbleLaw.finding()I -/
noncomputable def kt_X5_finding : Nat → Option nk_I := fun pc => bif Nat.ble pc 0 then (bif Nat.beq pc 0 then some (.aload_n 0, 1, 1, [], 0) else none)
  else (bif Nat.ble pc 1 then (bif Nat.beq pc 1 then some (.getfield 57, 3, 4, [], 0) else none)
  else (bif Nat.beq pc 4 then some (.ireturn, 1, 5, [], 0) else none))
noncomputable def kc_X5_finding : Nat → Option nk_I := nk_top 5 kt_X5_finding
noncomputable def kx_X5_finding : nk_T := ([(57, 5, 9, 0)], [], [], [], [], [], [], 1, false, 0, 0)
noncomputable def ev_X5_finding : nk_Ev := fun as h Q => nk_if (Nat.ble (nk_wd as) 1) (nk_ev kx_X5_finding kc_X5_finding 1 as h Q)
set_option maxRecDepth 100000 in
theorem ck_X5_finding : nk_chk cX5_finding kc_X5_finding 5 = true := nd_chk (by decide +kernel) (by decide +kernel)
set_option maxRecDepth 100000 in
set_option maxHeartbeats 4000000 in
theorem mt_X5_finding (l : Launch) : nk_Met l yX5_finding cX5_finding 1 (some .int) { frames := 0, cells := 0, slots := 0, locals := 0 } false 0 0 ev_X5_finding :=
  nk_met nk_gok (plainFor_of_name (by decide)) ck_X5_finding (nk_top_out 5 kt_X5_finding) ⟨List.forall_mem_cons.mpr ⟨nk_fkc [(1, 160)] (by decide +kernel), fun _ h => absurd h List.not_mem_nil⟩, fun _ h => absurd h List.not_mem_nil, fun _ h => absurd h List.not_mem_nil, fun _ h => absurd h List.not_mem_nil, fun _ h => absurd h List.not_mem_nil, fun _ h => absurd h List.not_mem_nil, fun _ h => absurd h List.not_mem_nil, by decide, rfl, rfl⟩ rfl (by decide)
/-! MarbleLaw.findings(I)I -/
noncomputable def kt_X5_findings : Nat → Option nk_I := fun pc => bif Nat.ble pc 7 then ((fun pc => bif Nat.ble pc 2 then ((fun pc => bif Nat.ble pc 0 then (bif Nat.beq pc 0 then some (.iload_n 1, 1, 1, [], 0) else none)
  else (bif Nat.ble pc 1 then (bif Nat.beq pc 1 then some (.iconst 1, 1, 2, [], 1) else none)
  else (bif Nat.beq pc 2 then some (.if_icmp .lt 8, 3, 5, [10], 0) else none))) : nk_F) pc
  else ((fun pc => bif Nat.ble pc 5 then (bif Nat.beq pc 5 then some (.iload_n 1, 1, 6, [], 0) else none)
  else (bif Nat.ble pc 6 then (bif Nat.beq pc 6 then some (.iconst 5, 1, 7, [], 5) else none)
  else (bif Nat.beq pc 7 then some (.if_icmp .le 5, 3, 10, [12], 0) else none))) : nk_F) pc) : nk_F) pc
  else ((fun pc => bif Nat.ble pc 12 then ((fun pc => bif Nat.ble pc 10 then (bif Nat.beq pc 10 then some (.iconst (-1), 1, 11, [], (-1)) else none)
  else (bif Nat.ble pc 11 then (bif Nat.beq pc 11 then some (.ireturn, 1, 12, [], 0) else none)
  else (bif Nat.beq pc 12 then some (.aload_n 0, 1, 13, [], 0) else none))) : nk_F) pc
  else ((fun pc => bif Nat.ble pc 16 then (bif Nat.ble pc 13 then (bif Nat.beq pc 13 then some (.getfield 54, 3, 16, [], 0) else none)
  else (bif Nat.beq pc 16 then some (.iload_n 1, 1, 17, [], 0) else none))
  else (bif Nat.ble pc 17 then (bif Nat.beq pc 17 then some (.iaload, 1, 18, [], 0) else none)
  else (bif Nat.beq pc 18 then some (.ireturn, 1, 19, [], 0) else none))) : nk_F) pc) : nk_F) pc
noncomputable def kc_X5_findings : Nat → Option nk_I := nk_top 19 kt_X5_findings
noncomputable def kx_X5_findings : nk_T := ([(54, 5, 8, 4)], [], [], [], [], [], [], 1, false, 0, 0)
noncomputable def ev_X5_findings : nk_Ev := fun as h Q => nk_if (Nat.ble (nk_wd as) 2) (nk_ev kx_X5_findings kc_X5_findings 2 as h Q)
set_option maxRecDepth 100000 in
theorem ck_X5_findings : nk_chk cX5_findings kc_X5_findings 19 = true := nd_chk (by decide +kernel) (by decide +kernel)
set_option maxRecDepth 100000 in
set_option maxHeartbeats 4000000 in
theorem mt_X5_findings (l : Launch) : nk_Met l yX5_findings cX5_findings 2 (some .int) { frames := 0, cells := 0, slots := 0, locals := 0 } false 0 0 ev_X5_findings :=
  nk_met nk_gok (plainFor_of_name (by decide)) ck_X5_findings (nk_top_out 19 kt_X5_findings) ⟨List.forall_mem_cons.mpr ⟨nk_fkc [(1, 159)] (by decide +kernel), fun _ h => absurd h List.not_mem_nil⟩, fun _ h => absurd h List.not_mem_nil, fun _ h => absurd h List.not_mem_nil, fun _ h => absurd h List.not_mem_nil, fun _ h => absurd h List.not_mem_nil, fun _ h => absurd h List.not_mem_nil, fun _ h => absurd h List.not_mem_nil, by decide, rfl, rfl⟩ rfl (by decide)
