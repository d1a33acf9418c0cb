/-! MarbleLawModel.changes(IIII)I -/
noncomputable def kt_X6_changes : Nat → Option nk_I := fun pc => bif Nat.ble pc 77 then ((fun pc => bif Nat.ble pc 40 then ((fun pc => bif Nat.ble pc 20 then ((fun pc => bif Nat.ble pc 8 then ((fun pc => bif Nat.ble pc 1 then (bif Nat.ble pc 0 then (bif Nat.beq pc 0 then some (.aload_n 0, 1, 1, [], 0) else none)
  else (bif Nat.beq pc 1 then some (.iload_n 2, 1, 2, [], 0) else none))
  else ((fun pc => bif Nat.ble pc 2 then (bif Nat.beq pc 2 then some (.invokevirtual 134, 3, 5, [], 0) else none)
  else (bif Nat.ble pc 5 then (bif Nat.beq pc 5 then some (.ifCond .eq 18, 3, 8, [23], 0) else none)
  else (bif Nat.beq pc 8 then some (.iload_n 3, 1, 9, [], 0) else none))) : nk_F) pc) : nk_F) pc
  else ((fun pc => bif Nat.ble pc 12 then (bif Nat.ble pc 9 then (bif Nat.beq pc 9 then some (.invokestatic 230, 3, 12, [], 0) else none)
  else (bif Nat.beq pc 12 then some (.ifCond .eq 11, 3, 15, [23], 0) else none))
  else ((fun pc => bif Nat.ble pc 15 then (bif Nat.beq pc 15 then some (.iload 4, 2, 17, [], 0) else none)
  else (bif Nat.ble pc 17 then (bif Nat.beq pc 17 then some (.invokestatic 123, 3, 20, [], 0) else none)
  else (bif Nat.beq pc 20 then some (.ifCond .ne 5, 3, 23, [25], 0) else none))) : nk_F) pc) : nk_F) pc) : nk_F) pc
  else ((fun pc => bif Nat.ble pc 27 then ((fun pc => bif Nat.ble pc 24 then (bif Nat.ble pc 23 then (bif Nat.beq pc 23 then some (.iconst (-1), 1, 24, [], (-1)) else none)
  else (bif Nat.beq pc 24 then some (.ireturn, 1, 25, [], 0) else none))
  else ((fun pc => bif Nat.ble pc 25 then (bif Nat.beq pc 25 then some (.aload_n 0, 1, 26, [], 0) else none)
  else (bif Nat.ble pc 26 then (bif Nat.beq pc 26 then some (.iload_n 1, 1, 27, [], 0) else none)
  else (bif Nat.beq pc 27 then some (.invokevirtual 176, 3, 30, [], 0) else none))) : nk_F) pc) : nk_F) pc
  else ((fun pc => bif Nat.ble pc 34 then ((fun pc => bif Nat.ble pc 30 then (bif Nat.beq pc 30 then some (.istore 5, 2, 32, [], 0) else none)
  else (bif Nat.ble pc 32 then (bif Nat.beq pc 32 then some (.iload 5, 2, 34, [], 0) else none)
  else (bif Nat.beq pc 34 then some (.ifCond .ge 6, 3, 37, [40], 0) else none))) : nk_F) pc
  else ((fun pc => bif Nat.ble pc 37 then (bif Nat.beq pc 37 then some (.iload 5, 2, 39, [], 0) else none)
  else (bif Nat.ble pc 39 then (bif Nat.beq pc 39 then some (.ireturn, 1, 40, [], 0) else none)
  else (bif Nat.beq pc 40 then some (.aload_n 0, 1, 41, [], 0) else none))) : nk_F) pc) : nk_F) pc) : nk_F) pc) : nk_F) pc
  else ((fun pc => bif Nat.ble pc 60 then ((fun pc => bif Nat.ble pc 47 then ((fun pc => bif Nat.ble pc 42 then (bif Nat.ble pc 41 then (bif Nat.beq pc 41 then some (.aload_n 0, 1, 42, [], 0) else none)
  else (bif Nat.beq pc 42 then some (.getfield 38, 3, 45, [], 0) else none))
  else ((fun pc => bif Nat.ble pc 45 then (bif Nat.beq pc 45 then some (.iload_n 1, 1, 46, [], 0) else none)
  else (bif Nat.ble pc 46 then (bif Nat.beq pc 46 then some (.iaload, 1, 47, [], 0) else none)
  else (bif Nat.beq pc 47 then some (.iload_n 3, 1, 48, [], 0) else none))) : nk_F) pc) : nk_F) pc
  else ((fun pc => bif Nat.ble pc 52 then ((fun pc => bif Nat.ble pc 48 then (bif Nat.beq pc 48 then some (.aload_n 0, 1, 49, [], 0) else none)
  else (bif Nat.ble pc 49 then (bif Nat.beq pc 49 then some (.getfield 146, 3, 52, [], 0) else none)
  else (bif Nat.beq pc 52 then some (.bipush (-9), 2, 54, [], (-9)) else none))) : nk_F) pc
  else ((fun pc => bif Nat.ble pc 54 then (bif Nat.beq pc 54 then some (.invokevirtual 224, 3, 57, [], 0) else none)
  else (bif Nat.ble pc 57 then (bif Nat.beq pc 57 then some (.ifCond .ne 9, 3, 60, [66], 0) else none)
  else (bif Nat.beq pc 60 then some (.aload_n 0, 1, 61, [], 0) else none))) : nk_F) pc) : nk_F) pc) : nk_F) pc
  else ((fun pc => bif Nat.ble pc 67 then ((fun pc => bif Nat.ble pc 62 then (bif Nat.ble pc 61 then (bif Nat.beq pc 61 then some (.iconst 5, 1, 62, [], 5) else none)
  else (bif Nat.beq pc 62 then some (.invokevirtual 97, 3, 65, [], 0) else none))
  else ((fun pc => bif Nat.ble pc 65 then (bif Nat.beq pc 65 then some (.ireturn, 1, 66, [], 0) else none)
  else (bif Nat.ble pc 66 then (bif Nat.beq pc 66 then some (.aload_n 0, 1, 67, [], 0) else none)
  else (bif Nat.beq pc 67 then some (.aload_n 0, 1, 68, [], 0) else none))) : nk_F) pc) : nk_F) pc
  else ((fun pc => bif Nat.ble pc 72 then ((fun pc => bif Nat.ble pc 68 then (bif Nat.beq pc 68 then some (.getfield 38, 3, 71, [], 0) else none)
  else (bif Nat.ble pc 71 then (bif Nat.beq pc 71 then some (.iload_n 1, 1, 72, [], 0) else none)
  else (bif Nat.beq pc 72 then some (.iaload, 1, 73, [], 0) else none))) : nk_F) pc
  else ((fun pc => bif Nat.ble pc 73 then (bif Nat.beq pc 73 then some (.iload_n 3, 1, 74, [], 0) else none)
  else (bif Nat.ble pc 74 then (bif Nat.beq pc 74 then some (.invokevirtual 217, 3, 77, [], 0) else none)
  else (bif Nat.beq pc 77 then some (.iconst 0, 1, 78, [], 0) else none))) : nk_F) pc) : nk_F) pc) : nk_F) pc) : nk_F) pc) : nk_F) pc
  else ((fun pc => bif Nat.ble pc 117 then ((fun pc => bif Nat.ble pc 98 then ((fun pc => bif Nat.ble pc 86 then ((fun pc => bif Nat.ble pc 80 then (bif Nat.ble pc 78 then (bif Nat.beq pc 78 then some (.istore 6, 2, 80, [], 0) else none)
  else (bif Nat.beq pc 80 then some (.iload 6, 2, 82, [], 0) else none))
  else ((fun pc => bif Nat.ble pc 82 then (bif Nat.beq pc 82 then some (.aload_n 0, 1, 83, [], 0) else none)
  else (bif Nat.ble pc 83 then (bif Nat.beq pc 83 then some (.getfield 146, 3, 86, [], 0) else none)
  else (bif Nat.beq pc 86 then some (.if_icmp .ge 68, 3, 89, [154], 0) else none))) : nk_F) pc) : nk_F) pc
  else ((fun pc => bif Nat.ble pc 91 then ((fun pc => bif Nat.ble pc 89 then (bif Nat.beq pc 89 then some (.aload_n 0, 1, 90, [], 0) else none)
  else (bif Nat.ble pc 90 then (bif Nat.beq pc 90 then some (.iload_n 2, 1, 91, [], 0) else none)
  else (bif Nat.beq pc 91 then some (.iload 4, 2, 93, [], 0) else none))) : nk_F) pc
  else ((fun pc => bif Nat.ble pc 93 then (bif Nat.beq pc 93 then some (.invokevirtual 233, 3, 96, [], 0) else none)
  else (bif Nat.ble pc 96 then (bif Nat.beq pc 96 then some (.lstore 7, 2, 98, [], 0) else none)
  else (bif Nat.beq pc 98 then some (.aload_n 0, 1, 99, [], 0) else none))) : nk_F) pc) : nk_F) pc) : nk_F) pc
  else ((fun pc => bif Nat.ble pc 107 then ((fun pc => bif Nat.ble pc 102 then (bif Nat.ble pc 99 then (bif Nat.beq pc 99 then some (.getfield 57, 3, 102, [], 0) else none)
  else (bif Nat.beq pc 102 then some (.aload_n 0, 1, 103, [], 0) else none))
  else ((fun pc => bif Nat.ble pc 103 then (bif Nat.beq pc 103 then some (.getfield 41, 3, 106, [], 0) else none)
  else (bif Nat.ble pc 106 then (bif Nat.beq pc 106 then some (.iload_n 2, 1, 107, [], 0) else none)
  else (bif Nat.beq pc 107 then some (.iaload, 1, 108, [], 0) else none))) : nk_F) pc) : nk_F) pc
  else ((fun pc => bif Nat.ble pc 111 then ((fun pc => bif Nat.ble pc 108 then (bif Nat.beq pc 108 then some (.laload, 1, 109, [], 0) else none)
  else (bif Nat.ble pc 109 then (bif Nat.beq pc 109 then some (.lstore 9, 2, 111, [], 0) else none)
  else (bif Nat.beq pc 111 then some (.aload_n 0, 1, 112, [], 0) else none))) : nk_F) pc
  else ((fun pc => bif Nat.ble pc 112 then (bif Nat.beq pc 112 then some (.iload 6, 2, 114, [], 0) else none)
  else (bif Nat.ble pc 114 then (bif Nat.beq pc 114 then some (.invokevirtual 220, 3, 117, [], 0) else none)
  else (bif Nat.beq pc 117 then some (.lload 7, 2, 119, [], 0) else none))) : nk_F) pc) : nk_F) pc) : nk_F) pc) : nk_F) pc
  else ((fun pc => bif Nat.ble pc 133 then ((fun pc => bif Nat.ble pc 127 then ((fun pc => bif Nat.ble pc 120 then (bif Nat.ble pc 119 then (bif Nat.beq pc 119 then some (.aload_n 0, 1, 120, [], 0) else none)
  else (bif Nat.beq pc 120 then some (.getfield 57, 3, 123, [], 0) else none))
  else ((fun pc => bif Nat.ble pc 123 then (bif Nat.beq pc 123 then some (.aload_n 0, 1, 124, [], 0) else none)
  else (bif Nat.ble pc 124 then (bif Nat.beq pc 124 then some (.getfield 41, 3, 127, [], 0) else none)
  else (bif Nat.beq pc 127 then some (.iload_n 2, 1, 128, [], 0) else none))) : nk_F) pc) : nk_F) pc
  else ((fun pc => bif Nat.ble pc 130 then ((fun pc => bif Nat.ble pc 128 then (bif Nat.beq pc 128 then some (.iaload, 1, 129, [], 0) else none)
  else (bif Nat.ble pc 129 then (bif Nat.beq pc 129 then some (.laload, 1, 130, [], 0) else none)
  else (bif Nat.beq pc 130 then some (.lmul, 1, 131, [], 0) else none))) : nk_F) pc
  else ((fun pc => bif Nat.ble pc 131 then (bif Nat.beq pc 131 then some (.aload_n 0, 1, 132, [], 0) else none)
  else (bif Nat.ble pc 132 then (bif Nat.beq pc 132 then some (.iload_n 2, 1, 133, [], 0) else none)
  else (bif Nat.beq pc 133 then some (.iload 4, 2, 135, [], 0) else none))) : nk_F) pc) : nk_F) pc) : nk_F) pc
  else ((fun pc => bif Nat.ble pc 142 then ((fun pc => bif Nat.ble pc 138 then (bif Nat.ble pc 135 then (bif Nat.beq pc 135 then some (.invokevirtual 233, 3, 138, [], 0) else none)
  else (bif Nat.beq pc 138 then some (.lload 9, 2, 140, [], 0) else none))
  else ((fun pc => bif Nat.ble pc 140 then (bif Nat.beq pc 140 then some (.lmul, 1, 141, [], 0) else none)
  else (bif Nat.ble pc 141 then (bif Nat.beq pc 141 then some (.lcmp, 1, 142, [], 0) else none)
  else (bif Nat.beq pc 142 then some (.ifCond .eq 6, 3, 145, [148], 0) else none))) : nk_F) pc) : nk_F) pc
  else ((fun pc => bif Nat.ble pc 148 then ((fun pc => bif Nat.ble pc 145 then (bif Nat.beq pc 145 then some (.iload 6, 2, 147, [], 0) else none)
  else (bif Nat.ble pc 147 then (bif Nat.beq pc 147 then some (.ireturn, 1, 148, [], 0) else none)
  else (bif Nat.beq pc 148 then some (.iinc 6 1, 3, 151, [], 1) else none))) : nk_F) pc
  else ((fun pc => bif Nat.ble pc 151 then (bif Nat.beq pc 151 then some (.goto (-71), 3, 154, [80], 0) else none)
  else (bif Nat.ble pc 154 then (bif Nat.beq pc 154 then some (.bipush (-9), 2, 156, [], (-9)) else none)
  else (bif Nat.beq pc 156 then some (.ireturn, 1, 157, [], 0) else none))) : nk_F) pc) : nk_F) pc) : nk_F) pc) : nk_F) pc) : nk_F) pc
noncomputable def kc_X6_changes : Nat → Option nk_I := nk_top 157 kt_X6_changes
noncomputable def kx_X6_changes : nk_T := ([(38, 6, 14, 4), (146, 6, 12, 0), (57, 6, 21, 4), (41, 6, 16, 4)], [(536, 2, 7, 0, 0, ev_X6_isStuff), (922, 1, 0, 0, 0, ev_X6_areAnswers), (494, 1, 0, 0, 0, ev_X6_isPerson), (704, 2, 7, 0, 0, ev_X6_askedLaws), (896, 5, 7, 0, 0, ev_X6_goes), (388, 2, 7, 0, 0, ev_X6_meets), (868, 3, 7, 0, 0, ev_X6_begins), (932, 3, 7, 0, 0, ev_X6_partOf), (880, 2, 7, 0, 0, ev_X6_does)], [], [], [], [], [], 1, false, 0, 0)
noncomputable def ev_X6_changes : nk_Ev := fun as h Q => nk_if (Nat.ble (nk_wd as) 11) (nk_ev kx_X6_changes kc_X6_changes 11 as h Q)
set_option maxRecDepth 100000 in
theorem ck_X6_changes : nk_chk cX6_changes kc_X6_changes 157 = true := nd_chk (by decide +kernel) (by decide +kernel)
set_option maxRecDepth 100000 in
set_option maxHeartbeats 4000000 in
theorem ca_X6_changes_536 (l : Launch) : nk_CallOk l { frames := 6, cells := 0, slots := 0, locals := 159 } RX6 cX6_changes 11 false 536 (2, 7, 0, 0, ev_X6_isStuff) := nk_callV (x := 134) (n := 1) (ci := 6) (r := (RX6, TX6, 32)) (mt_X6_isStuff l) rfl (nk_msc [(4, 134), (4, 135), (4, 136), (4, 137), (0, 32), (1, 7)] (by decide +kernel)) rfl rfl (by decide +kernel) ⟨by decide, by decide⟩
set_option maxRecDepth 100000 in
set_option maxHeartbeats 4000000 in
theorem ca_X6_changes_922 (l : Launch) : nk_CallOk l { frames := 6, cells := 0, slots := 0, locals := 159 } RX6 cX6_changes 11 false 922 (1, 0, 0, 0, ev_X6_areAnswers) := nk_callS (x := 230) (n := 1) (mt_X6_areAnswers l) (nk_msc [(5, 27), (5, 28), (5, 29), (1, 7)] (by decide +kernel)) rfl rfl (by decide +kernel) ⟨by decide, by decide⟩
set_option maxRecDepth 100000 in
set_option maxHeartbeats 4000000 in
theorem ca_X6_changes_494 (l : Launch) : nk_CallOk l { frames := 6, cells := 0, slots := 0, locals := 159 } RX6 cX6_changes 11 false 494 (1, 0, 0, 0, ev_X6_isPerson) := nk_callS (x := 123) (n := 1) (mt_X6_isPerson l) (nk_msc [(4, 119), (4, 120), (4, 121), (1, 7)] (by decide +kernel)) rfl rfl (by decide +kernel) ⟨by decide, by decide⟩
set_option maxRecDepth 100000 in
set_option maxHeartbeats 4000000 in
theorem ca_X6_changes_704 (l : Launch) : nk_CallOk l { frames := 6, cells := 0, slots := 0, locals := 159 } RX6 cX6_changes 11 false 704 (2, 7, 0, 0, ev_X6_askedLaws) := nk_callV (x := 176) (n := 1) (ci := 6) (r := (RX6, TX6, 32)) (mt_X6_askedLaws l) rfl (nk_msc [(4, 200), (4, 201), (4, 202), (4, 203), (0, 38), (1, 7)] (by decide +kernel)) rfl rfl (by decide +kernel) ⟨by decide, by decide⟩
set_option maxRecDepth 100000 in
set_option maxHeartbeats 4000000 in
theorem ca_X6_changes_896 (l : Launch) : nk_CallOk l { frames := 6, cells := 0, slots := 0, locals := 159 } RX6 cX6_changes 11 false 896 (5, 7, 0, 0, ev_X6_goes) := nk_callV (x := 224) (n := 4) (ci := 6) (r := (RX6, TX6, 32)) (mt_X6_goes l) rfl (nk_msc [(4, 208), (4, 209), (4, 210), (4, 211), (0, 39), (1, 7)] (by decide +kernel)) rfl rfl (by decide +kernel) ⟨by decide, by decide⟩
set_option maxRecDepth 100000 in
set_option maxHeartbeats 4000000 in
theorem ca_X6_changes_388 (l : Launch) : nk_CallOk l { frames := 6, cells := 0, slots := 0, locals := 159 } RX6 cX6_changes 11 false 388 (2, 7, 0, 0, ev_X6_meets) := nk_callV (x := 97) (n := 1) (ci := 6) (r := (RX6, TX6, 32)) (mt_X6_meets l) rfl (nk_msc [(4, 60), (4, 61), (4, 62), (4, 63), (0, 26), (1, 7)] (by decide +kernel)) rfl rfl (by decide +kernel) ⟨by decide, by decide⟩
set_option maxRecDepth 100000 in
set_option maxHeartbeats 4000000 in
theorem ca_X6_changes_868 (l : Launch) : nk_CallOk l { frames := 6, cells := 0, slots := 0, locals := 159 } RX6 cX6_changes 11 false 868 (3, 7, 0, 0, ev_X6_begins) := nk_callV (x := 217) (n := 2) (ci := 6) (r := (RX6, TX6, 32)) (mt_X6_begins l) rfl (nk_msc [(4, 212), (4, 213), (4, 214), (4, 215), (0, 40), (1, 7)] (by decide +kernel)) rfl rfl (by decide +kernel) ⟨by decide, by decide⟩
set_option maxRecDepth 100000 in
set_option maxHeartbeats 4000000 in
theorem ca_X6_changes_932 (l : Launch) : nk_CallOk l { frames := 6, cells := 0, slots := 0, locals := 159 } RX6 cX6_changes 11 false 932 (3, 7, 0, 0, ev_X6_partOf) := nk_callV (x := 233) (n := 2) (ci := 6) (r := (RX6, TX6, 32)) (mt_X6_partOf l) rfl (nk_msc [(5, 30), (5, 31), (5, 32), (5, 33), (0, 49), (1, 7)] (by decide +kernel)) rfl rfl (by decide +kernel) ⟨by decide, by decide⟩
set_option maxRecDepth 100000 in
set_option maxHeartbeats 4000000 in
theorem ca_X6_changes_880 (l : Launch) : nk_CallOk l { frames := 6, cells := 0, slots := 0, locals := 159 } RX6 cX6_changes 11 false 880 (2, 7, 0, 0, ev_X6_does) := nk_callV (x := 220) (n := 1) (ci := 6) (r := (RX6, TX6, 32)) (mt_X6_does l) rfl (nk_msc [(4, 216), (4, 217), (4, 218), (4, 219), (0, 41), (1, 7)] (by decide +kernel)) rfl rfl (by decide +kernel) ⟨by decide, by decide⟩
set_option maxRecDepth 100000 in
set_option maxHeartbeats 4000000 in
theorem mt_X6_changes (l : Launch) : nk_Met l yX6_changes cX6_changes 11 (some .int) { frames := 6, cells := 0, slots := 0, locals := 159 } false 0 0 ev_X6_changes :=
  nk_met nk_gok (plainFor_of_name (by decide)) ck_X6_changes (nk_top_out 157 kt_X6_changes) ⟨List.forall_mem_cons.mpr ⟨nk_fkc [(3, 207)] (by decide +kernel), List.forall_mem_cons.mpr ⟨nk_fkc [(3, 205)] (by decide +kernel), List.forall_mem_cons.mpr ⟨nk_fkc [(3, 214)] (by decide +kernel), List.forall_mem_cons.mpr ⟨nk_fkc [(3, 209)] (by decide +kernel), fun _ h => absurd h List.not_mem_nil⟩⟩⟩⟩, List.forall_mem_cons.mpr ⟨ca_X6_changes_536 l, List.forall_mem_cons.mpr ⟨ca_X6_changes_922 l, List.forall_mem_cons.mpr ⟨ca_X6_changes_494 l, List.forall_mem_cons.mpr ⟨ca_X6_changes_704 l, List.forall_mem_cons.mpr ⟨ca_X6_changes_896 l, List.forall_mem_cons.mpr ⟨ca_X6_changes_388 l, List.forall_mem_cons.mpr ⟨ca_X6_changes_868 l, List.forall_mem_cons.mpr ⟨ca_X6_changes_932 l, List.forall_mem_cons.mpr ⟨ca_X6_changes_880 l, fun _ h => absurd h List.not_mem_nil⟩⟩⟩⟩⟩⟩⟩⟩⟩, fun _ h => absurd h List.not_mem_nil, fun _ h => absurd h List.not_mem_nil, fun _ h => absurd h List.not_mem_nil, fun _ h => absurd h List.not_mem_nil, fun _ h => absurd h List.not_mem_nil, by decide, rfl, rfl⟩ rfl (by decide)
/-! MarbleLawModel.lost(IIII)I -/
noncomputable def kt_X6_lost : Nat → Option nk_I := fun pc => bif Nat.ble pc 170 then ((fun pc => bif Nat.ble pc 81 then ((fun pc => bif Nat.ble pc 45 then ((fun pc => bif Nat.ble pc 24 then ((fun pc => bif Nat.ble pc 9 then ((fun pc => bif Nat.ble pc 2 then ((fun pc => bif Nat.ble pc 0 then (bif Nat.beq pc 0 then some (.aload_n 0, 1, 1, [], 0) else none)
  else (bif Nat.ble pc 1 then (bif Nat.beq pc 1 then some (.iload_n 2, 1, 2, [], 0) else none)
  else (bif Nat.beq pc 2 then some (.invokevirtual 149, 3, 5, [], 0) else none))) : nk_F) pc
  else ((fun pc => bif Nat.ble pc 5 then (bif Nat.beq pc 5 then some (.ifCond .eq 18, 3, 8, [23], 0) else none)
  else (bif Nat.ble pc 8 then (bif Nat.beq pc 8 then some (.iload_n 3, 1, 9, [], 0) else none)
  else (bif Nat.beq pc 9 then some (.invokestatic 230, 3, 12, [], 0) else none))) : nk_F) pc) : nk_F) pc
  else ((fun pc => bif Nat.ble pc 17 then ((fun pc => bif Nat.ble pc 12 then (bif Nat.beq pc 12 then some (.ifCond .eq 11, 3, 15, [23], 0) else none)
  else (bif Nat.ble pc 15 then (bif Nat.beq pc 15 then some (.iload 4, 2, 17, [], 0) else none)
  else (bif Nat.beq pc 17 then some (.invokestatic 123, 3, 20, [], 0) else none))) : nk_F) pc
  else ((fun pc => bif Nat.ble pc 20 then (bif Nat.beq pc 20 then some (.ifCond .ne 5, 3, 23, [25], 0) else none)
  else (bif Nat.ble pc 23 then (bif Nat.beq pc 23 then some (.iconst (-1), 1, 24, [], (-1)) else none)
  else (bif Nat.beq pc 24 then some (.ireturn, 1, 25, [], 0) else none))) : nk_F) pc) : nk_F) pc) : nk_F) pc
  else ((fun pc => bif Nat.ble pc 34 then ((fun pc => bif Nat.ble pc 27 then ((fun pc => bif Nat.ble pc 25 then (bif Nat.beq pc 25 then some (.aload_n 0, 1, 26, [], 0) else none)
  else (bif Nat.ble pc 26 then (bif Nat.beq pc 26 then some (.iload_n 1, 1, 27, [], 0) else none)
  else (bif Nat.beq pc 27 then some (.invokevirtual 176, 3, 30, [], 0) else none))) : nk_F) pc
  else ((fun pc => bif Nat.ble pc 30 then (bif Nat.beq pc 30 then some (.istore 5, 2, 32, [], 0) else none)
  else (bif Nat.ble pc 32 then (bif Nat.beq pc 32 then some (.iload 5, 2, 34, [], 0) else none)
  else (bif Nat.beq pc 34 then some (.ifCond .ge 6, 3, 37, [40], 0) else none))) : nk_F) pc) : nk_F) pc
  else ((fun pc => bif Nat.ble pc 40 then ((fun pc => bif Nat.ble pc 37 then (bif Nat.beq pc 37 then some (.iload 5, 2, 39, [], 0) else none)
  else (bif Nat.ble pc 39 then (bif Nat.beq pc 39 then some (.ireturn, 1, 40, [], 0) else none)
  else (bif Nat.beq pc 40 then some (.aload_n 0, 1, 41, [], 0) else none))) : nk_F) pc
  else ((fun pc => bif Nat.ble pc 41 then (bif Nat.beq pc 41 then some (.aload_n 0, 1, 42, [], 0) else none)
  else (bif Nat.ble pc 42 then (bif Nat.beq pc 42 then some (.getfield 38, 3, 45, [], 0) else none)
  else (bif Nat.beq pc 45 then some (.iload_n 1, 1, 46, [], 0) else none))) : nk_F) pc) : nk_F) pc) : nk_F) pc) : nk_F) pc
  else ((fun pc => bif Nat.ble pc 64 then ((fun pc => bif Nat.ble pc 51 then ((fun pc => bif Nat.ble pc 48 then ((fun pc => bif Nat.ble pc 46 then (bif Nat.beq pc 46 then some (.iaload, 1, 47, [], 0) else none)
  else (bif Nat.ble pc 47 then (bif Nat.beq pc 47 then some (.iload_n 3, 1, 48, [], 0) else none)
  else (bif Nat.beq pc 48 then some (.iload_n 2, 1, 49, [], 0) else none))) : nk_F) pc
  else ((fun pc => bif Nat.ble pc 49 then (bif Nat.beq pc 49 then some (.iconst 1, 1, 50, [], 1) else none)
  else (bif Nat.ble pc 50 then (bif Nat.beq pc 50 then some (.iadd, 1, 51, [], 0) else none)
  else (bif Nat.beq pc 51 then some (.bipush (-9), 2, 53, [], (-9)) else none))) : nk_F) pc) : nk_F) pc
  else ((fun pc => bif Nat.ble pc 59 then ((fun pc => bif Nat.ble pc 53 then (bif Nat.beq pc 53 then some (.invokevirtual 224, 3, 56, [], 0) else none)
  else (bif Nat.ble pc 56 then (bif Nat.beq pc 56 then some (.ifCond .ne 9, 3, 59, [65], 0) else none)
  else (bif Nat.beq pc 59 then some (.aload_n 0, 1, 60, [], 0) else none))) : nk_F) pc
  else ((fun pc => bif Nat.ble pc 60 then (bif Nat.beq pc 60 then some (.iconst 5, 1, 61, [], 5) else none)
  else (bif Nat.ble pc 61 then (bif Nat.beq pc 61 then some (.invokevirtual 97, 3, 64, [], 0) else none)
  else (bif Nat.beq pc 64 then some (.ireturn, 1, 65, [], 0) else none))) : nk_F) pc) : nk_F) pc) : nk_F) pc
  else ((fun pc => bif Nat.ble pc 72 then ((fun pc => bif Nat.ble pc 67 then ((fun pc => bif Nat.ble pc 65 then (bif Nat.beq pc 65 then some (.aload_n 0, 1, 66, [], 0) else none)
  else (bif Nat.ble pc 66 then (bif Nat.beq pc 66 then some (.aload_n 0, 1, 67, [], 0) else none)
  else (bif Nat.beq pc 67 then some (.getfield 38, 3, 70, [], 0) else none))) : nk_F) pc
  else ((fun pc => bif Nat.ble pc 70 then (bif Nat.beq pc 70 then some (.iload_n 1, 1, 71, [], 0) else none)
  else (bif Nat.ble pc 71 then (bif Nat.beq pc 71 then some (.iaload, 1, 72, [], 0) else none)
  else (bif Nat.beq pc 72 then some (.iload_n 3, 1, 73, [], 0) else none))) : nk_F) pc) : nk_F) pc
  else ((fun pc => bif Nat.ble pc 76 then ((fun pc => bif Nat.ble pc 73 then (bif Nat.beq pc 73 then some (.iload_n 2, 1, 74, [], 0) else none)
  else (bif Nat.ble pc 74 then (bif Nat.beq pc 74 then some (.bipush (-9), 2, 76, [], (-9)) else none)
  else (bif Nat.beq pc 76 then some (.invokevirtual 224, 3, 79, [], 0) else none))) : nk_F) pc
  else ((fun pc => bif Nat.ble pc 79 then (bif Nat.beq pc 79 then some (.pop, 1, 80, [], 0) else none)
  else (bif Nat.ble pc 80 then (bif Nat.beq pc 80 then some (.aload_n 0, 1, 81, [], 0) else none)
  else (bif Nat.beq pc 81 then some (.getfield 41, 3, 84, [], 0) else none))) : nk_F) pc) : nk_F) pc) : nk_F) pc) : nk_F) pc) : nk_F) pc
  else ((fun pc => bif Nat.ble pc 125 then ((fun pc => bif Nat.ble pc 102 then ((fun pc => bif Nat.ble pc 91 then ((fun pc => bif Nat.ble pc 86 then ((fun pc => bif Nat.ble pc 84 then (bif Nat.beq pc 84 then some (.aload_n 0, 1, 85, [], 0) else none)
  else (bif Nat.ble pc 85 then (bif Nat.beq pc 85 then some (.iload_n 2, 1, 86, [], 0) else none)
  else (bif Nat.beq pc 86 then some (.iconst 1, 1, 87, [], 1) else none))) : nk_F) pc
  else ((fun pc => bif Nat.ble pc 87 then (bif Nat.beq pc 87 then some (.invokevirtual 152, 3, 90, [], 0) else none)
  else (bif Nat.ble pc 90 then (bif Nat.beq pc 90 then some (.iaload, 1, 91, [], 0) else none)
  else (bif Nat.beq pc 91 then some (.istore 6, 2, 93, [], 0) else none))) : nk_F) pc) : nk_F) pc
  else ((fun pc => bif Nat.ble pc 95 then ((fun pc => bif Nat.ble pc 93 then (bif Nat.beq pc 93 then some (.aload_n 0, 1, 94, [], 0) else none)
  else (bif Nat.ble pc 94 then (bif Nat.beq pc 94 then some (.iload_n 2, 1, 95, [], 0) else none)
  else (bif Nat.beq pc 95 then some (.iconst 0, 1, 96, [], 0) else none))) : nk_F) pc
  else ((fun pc => bif Nat.ble pc 96 then (bif Nat.beq pc 96 then some (.invokevirtual 152, 3, 99, [], 0) else none)
  else (bif Nat.ble pc 99 then (bif Nat.beq pc 99 then some (.invokestatic 137, 3, 102, [], 0) else none)
  else (bif Nat.beq pc 102 then some (.ifCond .eq 23, 3, 105, [125], 0) else none))) : nk_F) pc) : nk_F) pc) : nk_F) pc
  else ((fun pc => bif Nat.ble pc 112 then ((fun pc => bif Nat.ble pc 109 then ((fun pc => bif Nat.ble pc 105 then (bif Nat.beq pc 105 then some (.aload_n 0, 1, 106, [], 0) else none)
  else (bif Nat.ble pc 106 then (bif Nat.beq pc 106 then some (.getfield 41, 3, 109, [], 0) else none)
  else (bif Nat.beq pc 109 then some (.aload_n 0, 1, 110, [], 0) else none))) : nk_F) pc
  else ((fun pc => bif Nat.ble pc 110 then (bif Nat.beq pc 110 then some (.iload_n 2, 1, 111, [], 0) else none)
  else (bif Nat.ble pc 111 then (bif Nat.beq pc 111 then some (.iconst 2, 1, 112, [], 2) else none)
  else (bif Nat.beq pc 112 then some (.invokevirtual 152, 3, 115, [], 0) else none))) : nk_F) pc) : nk_F) pc
  else ((fun pc => bif Nat.ble pc 118 then ((fun pc => bif Nat.ble pc 115 then (bif Nat.beq pc 115 then some (.iaload, 1, 116, [], 0) else none)
  else (bif Nat.ble pc 116 then (bif Nat.beq pc 116 then some (.iload 6, 2, 118, [], 0) else none)
  else (bif Nat.beq pc 118 then some (.if_icmp .eq 7, 3, 121, [125], 0) else none))) : nk_F) pc
  else ((fun pc => bif Nat.ble pc 121 then (bif Nat.beq pc 121 then some (.iconst 1, 1, 122, [], 1) else none)
  else (bif Nat.ble pc 122 then (bif Nat.beq pc 122 then some (.goto 4, 3, 125, [126], 0) else none)
  else (bif Nat.beq pc 125 then some (.iconst 0, 1, 126, [], 0) else none))) : nk_F) pc) : nk_F) pc) : nk_F) pc) : nk_F) pc
  else ((fun pc => bif Nat.ble pc 147 then ((fun pc => bif Nat.ble pc 137 then ((fun pc => bif Nat.ble pc 130 then ((fun pc => bif Nat.ble pc 126 then (bif Nat.beq pc 126 then some (.istore 7, 2, 128, [], 0) else none)
  else (bif Nat.ble pc 128 then (bif Nat.beq pc 128 then some (.iload 7, 2, 130, [], 0) else none)
  else (bif Nat.beq pc 130 then some (.ifCond .eq 17, 3, 133, [147], 0) else none))) : nk_F) pc
  else ((fun pc => bif Nat.ble pc 133 then (bif Nat.beq pc 133 then some (.aload_n 0, 1, 134, [], 0) else none)
  else (bif Nat.ble pc 134 then (bif Nat.beq pc 134 then some (.getfield 41, 3, 137, [], 0) else none)
  else (bif Nat.beq pc 137 then some (.aload_n 0, 1, 138, [], 0) else none))) : nk_F) pc) : nk_F) pc
  else ((fun pc => bif Nat.ble pc 140 then ((fun pc => bif Nat.ble pc 138 then (bif Nat.beq pc 138 then some (.iload_n 2, 1, 139, [], 0) else none)
  else (bif Nat.ble pc 139 then (bif Nat.beq pc 139 then some (.iconst 2, 1, 140, [], 2) else none)
  else (bif Nat.beq pc 140 then some (.invokevirtual 152, 3, 143, [], 0) else none))) : nk_F) pc
  else ((fun pc => bif Nat.ble pc 143 then (bif Nat.beq pc 143 then some (.iaload, 1, 144, [], 0) else none)
  else (bif Nat.ble pc 144 then (bif Nat.beq pc 144 then some (.goto 5, 3, 147, [149], 0) else none)
  else (bif Nat.beq pc 147 then some (.iload 6, 2, 149, [], 0) else none))) : nk_F) pc) : nk_F) pc) : nk_F) pc
  else ((fun pc => bif Nat.ble pc 158 then ((fun pc => bif Nat.ble pc 152 then ((fun pc => bif Nat.ble pc 149 then (bif Nat.beq pc 149 then some (.istore 8, 2, 151, [], 0) else none)
  else (bif Nat.ble pc 151 then (bif Nat.beq pc 151 then some (.aload_n 0, 1, 152, [], 0) else none)
  else (bif Nat.beq pc 152 then some (.getfield 47, 3, 155, [], 0) else none))) : nk_F) pc
  else ((fun pc => bif Nat.ble pc 155 then (bif Nat.beq pc 155 then some (.iload 6, 2, 157, [], 0) else none)
  else (bif Nat.ble pc 157 then (bif Nat.beq pc 157 then some (.iaload, 1, 158, [], 0) else none)
  else (bif Nat.beq pc 158 then some (.i2l, 1, 159, [], 0) else none))) : nk_F) pc) : nk_F) pc
  else ((fun pc => bif Nat.ble pc 163 then ((fun pc => bif Nat.ble pc 159 then (bif Nat.beq pc 159 then some (.lstore 9, 2, 161, [], 0) else none)
  else (bif Nat.ble pc 161 then (bif Nat.beq pc 161 then some (.iload 7, 2, 163, [], 0) else none)
  else (bif Nat.beq pc 163 then some (.ifCond .eq 14, 3, 166, [177], 0) else none))) : nk_F) pc
  else ((fun pc => bif Nat.ble pc 166 then (bif Nat.beq pc 166 then some (.aload_n 0, 1, 167, [], 0) else none)
  else (bif Nat.ble pc 167 then (bif Nat.beq pc 167 then some (.getfield 47, 3, 170, [], 0) else none)
  else (bif Nat.beq pc 170 then some (.iload 8, 2, 172, [], 0) else none))) : nk_F) pc) : nk_F) pc) : nk_F) pc) : nk_F) pc) : nk_F) pc) : nk_F) pc
  else ((fun pc => bif Nat.ble pc 248 then ((fun pc => bif Nat.ble pc 210 then ((fun pc => bif Nat.ble pc 191 then ((fun pc => bif Nat.ble pc 180 then ((fun pc => bif Nat.ble pc 174 then ((fun pc => bif Nat.ble pc 172 then (bif Nat.beq pc 172 then some (.iaload, 1, 173, [], 0) else none)
  else (bif Nat.ble pc 173 then (bif Nat.beq pc 173 then some (.i2l, 1, 174, [], 0) else none)
  else (bif Nat.beq pc 174 then some (.goto 4, 3, 177, [178], 0) else none))) : nk_F) pc
  else ((fun pc => bif Nat.ble pc 177 then (bif Nat.beq pc 177 then some (.lconst 0, 1, 178, [], 0) else none)
  else (bif Nat.ble pc 178 then (bif Nat.beq pc 178 then some (.lstore 11, 2, 180, [], 0) else none)
  else (bif Nat.beq pc 180 then some (.aload_n 0, 1, 181, [], 0) else none))) : nk_F) pc) : nk_F) pc
  else ((fun pc => bif Nat.ble pc 186 then ((fun pc => bif Nat.ble pc 181 then (bif Nat.beq pc 181 then some (.getfield 53, 3, 184, [], 0) else none)
  else (bif Nat.ble pc 184 then (bif Nat.beq pc 184 then some (.bipush 6, 2, 186, [], 6) else none)
  else (bif Nat.beq pc 186 then some (.iload 6, 2, 188, [], 0) else none))) : nk_F) pc
  else ((fun pc => bif Nat.ble pc 188 then (bif Nat.beq pc 188 then some (.imul, 1, 189, [], 0) else none)
  else (bif Nat.ble pc 189 then (bif Nat.beq pc 189 then some (.iload 4, 2, 191, [], 0) else none)
  else (bif Nat.beq pc 191 then some (.iadd, 1, 192, [], 0) else none))) : nk_F) pc) : nk_F) pc) : nk_F) pc
  else ((fun pc => bif Nat.ble pc 200 then ((fun pc => bif Nat.ble pc 195 then ((fun pc => bif Nat.ble pc 192 then (bif Nat.beq pc 192 then some (.laload, 1, 193, [], 0) else none)
  else (bif Nat.ble pc 193 then (bif Nat.beq pc 193 then some (.lload 9, 2, 195, [], 0) else none)
  else (bif Nat.beq pc 195 then some (.lmul, 1, 196, [], 0) else none))) : nk_F) pc
  else ((fun pc => bif Nat.ble pc 196 then (bif Nat.beq pc 196 then some (.aload_n 0, 1, 197, [], 0) else none)
  else (bif Nat.ble pc 197 then (bif Nat.beq pc 197 then some (.getfield 57, 3, 200, [], 0) else none)
  else (bif Nat.beq pc 200 then some (.iload 8, 2, 202, [], 0) else none))) : nk_F) pc) : nk_F) pc
  else ((fun pc => bif Nat.ble pc 204 then ((fun pc => bif Nat.ble pc 202 then (bif Nat.beq pc 202 then some (.laload, 1, 203, [], 0) else none)
  else (bif Nat.ble pc 203 then (bif Nat.beq pc 203 then some (.lmul, 1, 204, [], 0) else none)
  else (bif Nat.beq pc 204 then some (.aload_n 0, 1, 205, [], 0) else none))) : nk_F) pc
  else ((fun pc => bif Nat.ble pc 205 then (bif Nat.beq pc 205 then some (.getfield 53, 3, 208, [], 0) else none)
  else (bif Nat.ble pc 208 then (bif Nat.beq pc 208 then some (.bipush 6, 2, 210, [], 6) else none)
  else (bif Nat.beq pc 210 then some (.iload 8, 2, 212, [], 0) else none))) : nk_F) pc) : nk_F) pc) : nk_F) pc) : nk_F) pc
  else ((fun pc => bif Nat.ble pc 228 then ((fun pc => bif Nat.ble pc 219 then ((fun pc => bif Nat.ble pc 215 then ((fun pc => bif Nat.ble pc 212 then (bif Nat.beq pc 212 then some (.imul, 1, 213, [], 0) else none)
  else (bif Nat.ble pc 213 then (bif Nat.beq pc 213 then some (.iload 4, 2, 215, [], 0) else none)
  else (bif Nat.beq pc 215 then some (.iadd, 1, 216, [], 0) else none))) : nk_F) pc
  else ((fun pc => bif Nat.ble pc 216 then (bif Nat.beq pc 216 then some (.laload, 1, 217, [], 0) else none)
  else (bif Nat.ble pc 217 then (bif Nat.beq pc 217 then some (.lload 11, 2, 219, [], 0) else none)
  else (bif Nat.beq pc 219 then some (.lmul, 1, 220, [], 0) else none))) : nk_F) pc) : nk_F) pc
  else ((fun pc => bif Nat.ble pc 224 then ((fun pc => bif Nat.ble pc 220 then (bif Nat.beq pc 220 then some (.aload_n 0, 1, 221, [], 0) else none)
  else (bif Nat.ble pc 221 then (bif Nat.beq pc 221 then some (.getfield 57, 3, 224, [], 0) else none)
  else (bif Nat.beq pc 224 then some (.iload 6, 2, 226, [], 0) else none))) : nk_F) pc
  else ((fun pc => bif Nat.ble pc 226 then (bif Nat.beq pc 226 then some (.laload, 1, 227, [], 0) else none)
  else (bif Nat.ble pc 227 then (bif Nat.beq pc 227 then some (.lmul, 1, 228, [], 0) else none)
  else (bif Nat.beq pc 228 then some (.ladd, 1, 229, [], 0) else none))) : nk_F) pc) : nk_F) pc) : nk_F) pc
  else ((fun pc => bif Nat.ble pc 238 then ((fun pc => bif Nat.ble pc 232 then ((fun pc => bif Nat.ble pc 229 then (bif Nat.beq pc 229 then some (.lstore 13, 2, 231, [], 0) else none)
  else (bif Nat.ble pc 231 then (bif Nat.beq pc 231 then some (.aload_n 0, 1, 232, [], 0) else none)
  else (bif Nat.beq pc 232 then some (.getfield 57, 3, 235, [], 0) else none))) : nk_F) pc
  else ((fun pc => bif Nat.ble pc 235 then (bif Nat.beq pc 235 then some (.iload 6, 2, 237, [], 0) else none)
  else (bif Nat.ble pc 237 then (bif Nat.beq pc 237 then some (.laload, 1, 238, [], 0) else none)
  else (bif Nat.beq pc 238 then some (.aload_n 0, 1, 239, [], 0) else none))) : nk_F) pc) : nk_F) pc
  else ((fun pc => bif Nat.ble pc 244 then ((fun pc => bif Nat.ble pc 239 then (bif Nat.beq pc 239 then some (.getfield 57, 3, 242, [], 0) else none)
  else (bif Nat.ble pc 242 then (bif Nat.beq pc 242 then some (.iload 8, 2, 244, [], 0) else none)
  else (bif Nat.beq pc 244 then some (.laload, 1, 245, [], 0) else none))) : nk_F) pc
  else ((fun pc => bif Nat.ble pc 245 then (bif Nat.beq pc 245 then some (.lmul, 1, 246, [], 0) else none)
  else (bif Nat.ble pc 246 then (bif Nat.beq pc 246 then some (.lstore 15, 2, 248, [], 0) else none)
  else (bif Nat.beq pc 248 then some (.aload_n 0, 1, 249, [], 0) else none))) : nk_F) pc) : nk_F) pc) : nk_F) pc) : nk_F) pc) : nk_F) pc
  else ((fun pc => bif Nat.ble pc 288 then ((fun pc => bif Nat.ble pc 268 then ((fun pc => bif Nat.ble pc 259 then ((fun pc => bif Nat.ble pc 253 then ((fun pc => bif Nat.ble pc 249 then (bif Nat.beq pc 249 then some (.iload_n 2, 1, 250, [], 0) else none)
  else (bif Nat.ble pc 250 then (bif Nat.beq pc 250 then some (.invokevirtual 220, 3, 253, [], 0) else none)
  else (bif Nat.beq pc 253 then some (.aload_n 0, 1, 254, [], 0) else none))) : nk_F) pc
  else ((fun pc => bif Nat.ble pc 254 then (bif Nat.beq pc 254 then some (.getfield 53, 3, 257, [], 0) else none)
  else (bif Nat.ble pc 257 then (bif Nat.beq pc 257 then some (.bipush 6, 2, 259, [], 6) else none)
  else (bif Nat.beq pc 259 then some (.iload 6, 2, 261, [], 0) else none))) : nk_F) pc) : nk_F) pc
  else ((fun pc => bif Nat.ble pc 264 then ((fun pc => bif Nat.ble pc 261 then (bif Nat.beq pc 261 then some (.imul, 1, 262, [], 0) else none)
  else (bif Nat.ble pc 262 then (bif Nat.beq pc 262 then some (.iload 4, 2, 264, [], 0) else none)
  else (bif Nat.beq pc 264 then some (.iadd, 1, 265, [], 0) else none))) : nk_F) pc
  else ((fun pc => bif Nat.ble pc 265 then (bif Nat.beq pc 265 then some (.laload, 1, 266, [], 0) else none)
  else (bif Nat.ble pc 266 then (bif Nat.beq pc 266 then some (.lload 9, 2, 268, [], 0) else none)
  else (bif Nat.beq pc 268 then some (.lload 11, 2, 270, [], 0) else none))) : nk_F) pc) : nk_F) pc) : nk_F) pc
  else ((fun pc => bif Nat.ble pc 277 then ((fun pc => bif Nat.ble pc 272 then ((fun pc => bif Nat.ble pc 270 then (bif Nat.beq pc 270 then some (.ladd, 1, 271, [], 0) else none)
  else (bif Nat.ble pc 271 then (bif Nat.beq pc 271 then some (.lmul, 1, 272, [], 0) else none)
  else (bif Nat.beq pc 272 then some (.lstore 17, 2, 274, [], 0) else none))) : nk_F) pc
  else ((fun pc => bif Nat.ble pc 274 then (bif Nat.beq pc 274 then some (.lload 13, 2, 276, [], 0) else none)
  else (bif Nat.ble pc 276 then (bif Nat.beq pc 276 then some (.aload_n 0, 1, 277, [], 0) else none)
  else (bif Nat.beq pc 277 then some (.getfield 57, 3, 280, [], 0) else none))) : nk_F) pc) : nk_F) pc
  else ((fun pc => bif Nat.ble pc 283 then ((fun pc => bif Nat.ble pc 280 then (bif Nat.beq pc 280 then some (.iload 6, 2, 282, [], 0) else none)
  else (bif Nat.ble pc 282 then (bif Nat.beq pc 282 then some (.laload, 1, 283, [], 0) else none)
  else (bif Nat.beq pc 283 then some (.lmul, 1, 284, [], 0) else none))) : nk_F) pc
  else ((fun pc => bif Nat.ble pc 284 then (bif Nat.beq pc 284 then some (.lload 17, 2, 286, [], 0) else none)
  else (bif Nat.ble pc 286 then (bif Nat.beq pc 286 then some (.lload 15, 2, 288, [], 0) else none)
  else (bif Nat.beq pc 288 then some (.lmul, 1, 289, [], 0) else none))) : nk_F) pc) : nk_F) pc) : nk_F) pc) : nk_F) pc
  else ((fun pc => bif Nat.ble pc 307 then ((fun pc => bif Nat.ble pc 297 then ((fun pc => bif Nat.ble pc 292 then ((fun pc => bif Nat.ble pc 289 then (bif Nat.beq pc 289 then some (.lsub, 1, 290, [], 0) else none)
  else (bif Nat.ble pc 290 then (bif Nat.beq pc 290 then some (.lstore 19, 2, 292, [], 0) else none)
  else (bif Nat.beq pc 292 then some (.aload_n 0, 1, 293, [], 0) else none))) : nk_F) pc
  else ((fun pc => bif Nat.ble pc 293 then (bif Nat.beq pc 293 then some (.lload 19, 2, 295, [], 0) else none)
  else (bif Nat.ble pc 295 then (bif Nat.beq pc 295 then some (.lload 15, 2, 297, [], 0) else none)
  else (bif Nat.beq pc 297 then some (.aload_n 0, 1, 298, [], 0) else none))) : nk_F) pc) : nk_F) pc
  else ((fun pc => bif Nat.ble pc 303 then ((fun pc => bif Nat.ble pc 298 then (bif Nat.beq pc 298 then some (.getfield 57, 3, 301, [], 0) else none)
  else (bif Nat.ble pc 301 then (bif Nat.beq pc 301 then some (.iload 6, 2, 303, [], 0) else none)
  else (bif Nat.beq pc 303 then some (.laload, 1, 304, [], 0) else none))) : nk_F) pc
  else ((fun pc => bif Nat.ble pc 304 then (bif Nat.beq pc 304 then some (.lmul, 1, 305, [], 0) else none)
  else (bif Nat.ble pc 305 then (bif Nat.beq pc 305 then some (.lload 19, 2, 307, [], 0) else none)
  else (bif Nat.beq pc 307 then some (.lconst 0, 1, 308, [], 0) else none))) : nk_F) pc) : nk_F) pc) : nk_F) pc
  else ((fun pc => bif Nat.ble pc 318 then ((fun pc => bif Nat.ble pc 312 then ((fun pc => bif Nat.ble pc 308 then (bif Nat.beq pc 308 then some (.lcmp, 1, 309, [], 0) else none)
  else (bif Nat.ble pc 309 then (bif Nat.beq pc 309 then some (.ifCond .le 7, 3, 312, [316], 0) else none)
  else (bif Nat.beq pc 312 then some (.iconst 1, 1, 313, [], 1) else none))) : nk_F) pc
  else ((fun pc => bif Nat.ble pc 313 then (bif Nat.beq pc 313 then some (.goto 15, 3, 316, [328], 0) else none)
  else (bif Nat.ble pc 316 then (bif Nat.beq pc 316 then some (.lload 19, 2, 318, [], 0) else none)
  else (bif Nat.beq pc 318 then some (.lconst 0, 1, 319, [], 0) else none))) : nk_F) pc) : nk_F) pc
  else ((fun pc => bif Nat.ble pc 323 then ((fun pc => bif Nat.ble pc 319 then (bif Nat.beq pc 319 then some (.lcmp, 1, 320, [], 0) else none)
  else (bif Nat.ble pc 320 then (bif Nat.beq pc 320 then some (.ifCond .ne 7, 3, 323, [327], 0) else none)
  else (bif Nat.beq pc 323 then some (.iconst 0, 1, 324, [], 0) else none))) : nk_F) pc
  else ((fun pc => bif Nat.ble pc 327 then (bif Nat.ble pc 324 then (bif Nat.beq pc 324 then some (.goto 4, 3, 327, [328], 0) else none)
  else (bif Nat.beq pc 327 then some (.iconst 2, 1, 328, [], 2) else none))
  else (bif Nat.ble pc 328 then (bif Nat.beq pc 328 then some (.invokevirtual 237, 3, 331, [], 0) else none)
  else (bif Nat.beq pc 331 then some (.ireturn, 1, 332, [], 0) else none))) : nk_F) pc) : nk_F) pc) : nk_F) pc) : nk_F) pc) : nk_F) pc) : nk_F) pc
noncomputable def kc_X6_lost : Nat → Option nk_I := nk_top 332 kt_X6_lost
noncomputable def kx_X6_lost : nk_T := ([(38, 6, 14, 4), (41, 6, 16, 4), (47, 6, 18, 4), (53, 6, 20, 4), (57, 6, 21, 4)], [(596, 2, 7, 0, 0, ev_X6_isMaking), (922, 1, 0, 0, 0, ev_X6_areAnswers), (494, 1, 0, 0, 0, ev_X6_isPerson), (704, 2, 7, 0, 0, ev_X6_askedLaws), (896, 5, 7, 0, 0, ev_X6_goes), (388, 2, 7, 0, 0, ev_X6_meets), (608, 3, 7, 0, 0, ev_X6_part), (550, 1, 0, 0, 0, ev_X6_brings), (880, 2, 7, 0, 0, ev_X6_does), (948, 4, 7, 0, 0, ev_X6_share)], [], [], [], [], [], 1, false, 0, 0)
noncomputable def ev_X6_lost : nk_Ev := fun as h Q => nk_if (Nat.ble (nk_wd as) 21) (nk_ev kx_X6_lost kc_X6_lost 21 as h Q)
set_option maxRecDepth 100000 in
theorem ck_X6_lost : nk_chk cX6_lost kc_X6_lost 332 = true := nd_chk (by decide +kernel) (by decide +kernel)
set_option maxRecDepth 100000 in
set_option maxHeartbeats 4000000 in
theorem ca_X6_lost_596 (l : Launch) : nk_CallOk l { frames := 6, cells := 0, slots := 0, locals := 159 } RX6 cX6_lost 21 false 596 (2, 7, 0, 0, ev_X6_isMaking) := nk_callV (x := 149) (n := 1) (ci := 6) (r := (RX6, TX6, 32)) (mt_X6_isMaking l) rfl (nk_msc [(4, 160), (4, 161), (4, 162), (4, 163), (0, 34), (1, 7)] (by decide +kernel)) rfl rfl (by decide +kernel) ⟨by decide, by decide⟩
set_option maxRecDepth 100000 in
set_option maxHeartbeats 4000000 in
theorem ca_X6_lost_922 (l : Launch) : nk_CallOk l { frames := 6, cells := 0, slots := 0, locals := 159 } RX6 cX6_lost 21 false 922 (1, 0, 0, 0, ev_X6_areAnswers) := nk_callS (x := 230) (n := 1) (mt_X6_areAnswers l) (nk_msc [(5, 27), (5, 28), (5, 29), (1, 7)] (by decide +kernel)) rfl rfl (by decide +kernel) ⟨by decide, by decide⟩
set_option maxRecDepth 100000 in
set_option maxHeartbeats 4000000 in
theorem ca_X6_lost_494 (l : Launch) : nk_CallOk l { frames := 6, cells := 0, slots := 0, locals := 159 } RX6 cX6_lost 21 false 494 (1, 0, 0, 0, ev_X6_isPerson) := nk_callS (x := 123) (n := 1) (mt_X6_isPerson l) (nk_msc [(4, 119), (4, 120), (4, 121), (1, 7)] (by decide +kernel)) rfl rfl (by decide +kernel) ⟨by decide, by decide⟩
set_option maxRecDepth 100000 in
set_option maxHeartbeats 4000000 in
theorem ca_X6_lost_704 (l : Launch) : nk_CallOk l { frames := 6, cells := 0, slots := 0, locals := 159 } RX6 cX6_lost 21 false 704 (2, 7, 0, 0, ev_X6_askedLaws) := nk_callV (x := 176) (n := 1) (ci := 6) (r := (RX6, TX6, 32)) (mt_X6_askedLaws l) rfl (nk_msc [(4, 200), (4, 201), (4, 202), (4, 203), (0, 38), (1, 7)] (by decide +kernel)) rfl rfl (by decide +kernel) ⟨by decide, by decide⟩
set_option maxRecDepth 100000 in
set_option maxHeartbeats 4000000 in
theorem ca_X6_lost_896 (l : Launch) : nk_CallOk l { frames := 6, cells := 0, slots := 0, locals := 159 } RX6 cX6_lost 21 false 896 (5, 7, 0, 0, ev_X6_goes) := nk_callV (x := 224) (n := 4) (ci := 6) (r := (RX6, TX6, 32)) (mt_X6_goes l) rfl (nk_msc [(4, 208), (4, 209), (4, 210), (4, 211), (0, 39), (1, 7)] (by decide +kernel)) rfl rfl (by decide +kernel) ⟨by decide, by decide⟩
set_option maxRecDepth 100000 in
set_option maxHeartbeats 4000000 in
theorem ca_X6_lost_388 (l : Launch) : nk_CallOk l { frames := 6, cells := 0, slots := 0, locals := 159 } RX6 cX6_lost 21 false 388 (2, 7, 0, 0, ev_X6_meets) := nk_callV (x := 97) (n := 1) (ci := 6) (r := (RX6, TX6, 32)) (mt_X6_meets l) rfl (nk_msc [(4, 60), (4, 61), (4, 62), (4, 63), (0, 26), (1, 7)] (by decide +kernel)) rfl rfl (by decide +kernel) ⟨by decide, by decide⟩
set_option maxRecDepth 100000 in
set_option maxHeartbeats 4000000 in
theorem ca_X6_lost_608 (l : Launch) : nk_CallOk l { frames := 6, cells := 0, slots := 0, locals := 159 } RX6 cX6_lost 21 false 608 (3, 7, 0, 0, ev_X6_part) := nk_callV (x := 152) (n := 2) (ci := 6) (r := (RX6, TX6, 32)) (mt_X6_part l) rfl (nk_msc [(4, 164), (4, 165), (4, 166), (4, 167), (0, 35), (1, 7)] (by decide +kernel)) rfl rfl (by decide +kernel) ⟨by decide, by decide⟩
set_option maxRecDepth 100000 in
set_option maxHeartbeats 4000000 in
theorem ca_X6_lost_550 (l : Launch) : nk_CallOk l { frames := 6, cells := 0, slots := 0, locals := 159 } RX6 cX6_lost 21 false 550 (1, 0, 0, 0, ev_X6_brings) := nk_callS (x := 137) (n := 1) (mt_X6_brings l) (nk_msc [(4, 146), (4, 147), (4, 148), (1, 7)] (by decide +kernel)) rfl rfl (by decide +kernel) ⟨by decide, by decide⟩
set_option maxRecDepth 100000 in
set_option maxHeartbeats 4000000 in
theorem ca_X6_lost_880 (l : Launch) : nk_CallOk l { frames := 6, cells := 0, slots := 0, locals := 159 } RX6 cX6_lost 21 false 880 (2, 7, 0, 0, ev_X6_does) := nk_callV (x := 220) (n := 1) (ci := 6) (r := (RX6, TX6, 32)) (mt_X6_does l) rfl (nk_msc [(4, 216), (4, 217), (4, 218), (4, 219), (0, 41), (1, 7)] (by decide +kernel)) rfl rfl (by decide +kernel) ⟨by decide, by decide⟩
set_option maxRecDepth 100000 in
set_option maxHeartbeats 4000000 in
theorem ca_X6_lost_948 (l : Launch) : nk_CallOk l { frames := 6, cells := 0, slots := 0, locals := 159 } RX6 cX6_lost 21 false 948 (4, 7, 0, 0, ev_X6_share) := nk_callV (x := 237) (n := 3) (ci := 6) (r := (RX6, TX6, 32)) (mt_X6_share l) rfl (nk_msc [(5, 34), (5, 35), (5, 36), (5, 37), (0, 50), (1, 7)] (by decide +kernel)) rfl rfl (by decide +kernel) ⟨by decide, by decide⟩
set_option maxRecDepth 100000 in
set_option maxHeartbeats 4000000 in
theorem mt_X6_lost (l : Launch) : nk_Met l yX6_lost cX6_lost 21 (some .int) { frames := 6, cells := 0, slots := 0, locals := 159 } false 0 0 ev_X6_lost :=
  nk_met nk_gok (plainFor_of_name (by decide)) ck_X6_lost (nk_top_out 332 kt_X6_lost) ⟨List.forall_mem_cons.mpr ⟨nk_fkc [(3, 207)] (by decide +kernel), List.forall_mem_cons.mpr ⟨nk_fkc [(3, 209)] (by decide +kernel), List.forall_mem_cons.mpr ⟨nk_fkc [(3, 211)] (by decide +kernel), List.forall_mem_cons.mpr ⟨nk_fkc [(3, 213)] (by decide +kernel), List.forall_mem_cons.mpr ⟨nk_fkc [(3, 214)] (by decide +kernel), fun _ h => absurd h List.not_mem_nil⟩⟩⟩⟩⟩, List.forall_mem_cons.mpr ⟨ca_X6_lost_596 l, List.forall_mem_cons.mpr ⟨ca_X6_lost_922 l, List.forall_mem_cons.mpr ⟨ca_X6_lost_494 l, List.forall_mem_cons.mpr ⟨ca_X6_lost_704 l, List.forall_mem_cons.mpr ⟨ca_X6_lost_896 l, List.forall_mem_cons.mpr ⟨ca_X6_lost_388 l, List.forall_mem_cons.mpr ⟨ca_X6_lost_608 l, List.forall_mem_cons.mpr ⟨ca_X6_lost_550 l, List.forall_mem_cons.mpr ⟨ca_X6_lost_880 l, List.forall_mem_cons.mpr ⟨ca_X6_lost_948 l, fun _ h => absurd h List.not_mem_nil⟩⟩⟩⟩⟩⟩⟩⟩⟩⟩, fun _ h => absurd h List.not_mem_nil, fun _ h => absurd h List.not_mem_nil, fun _ h => absurd h List.not_mem_nil, fun _ h => absurd h List.not_mem_nil, fun _ h => absurd h List.not_mem_nil, by decide, rfl, rfl⟩ rfl (by decide)
/-! MarbleLawModel.setTrails(II)V -/
noncomputable def kt_X6_setTrails : Nat → Option nk_I := fun pc => bif Nat.ble pc 44 then ((fun pc => bif Nat.ble pc 21 then ((fun pc => bif Nat.ble pc 8 then ((fun pc => bif Nat.ble pc 2 then ((fun pc => bif Nat.ble pc 0 then (bif Nat.beq pc 0 then some (.aload_n 0, 1, 1, [], 0) else none)
  else (bif Nat.ble pc 1 then (bif Nat.beq pc 1 then some (.iload_n 1, 1, 2, [], 0) else none)
  else (bif Nat.beq pc 2 then some (.iload_n 2, 1, 3, [], 0) else none))) : nk_F) pc
  else ((fun pc => bif Nat.ble pc 6 then (bif Nat.ble pc 3 then (bif Nat.beq pc 3 then some (.invokevirtual 217, 3, 6, [], 0) else none)
  else (bif Nat.beq pc 6 then some (.iconst 0, 1, 7, [], 0) else none))
  else (bif Nat.ble pc 7 then (bif Nat.beq pc 7 then some (.istore_n 3, 1, 8, [], 0) else none)
  else (bif Nat.beq pc 8 then some (.iload_n 3, 1, 9, [], 0) else none))) : nk_F) pc) : nk_F) pc
  else ((fun pc => bif Nat.ble pc 13 then ((fun pc => bif Nat.ble pc 9 then (bif Nat.beq pc 9 then some (.aload_n 0, 1, 10, [], 0) else none)
  else (bif Nat.ble pc 10 then (bif Nat.beq pc 10 then some (.getfield 146, 3, 13, [], 0) else none)
  else (bif Nat.beq pc 13 then some (.if_icmp .ge 82, 3, 16, [95], 0) else none))) : nk_F) pc
  else ((fun pc => bif Nat.ble pc 17 then (bif Nat.ble pc 16 then (bif Nat.beq pc 16 then some (.aload_n 0, 1, 17, [], 0) else none)
  else (bif Nat.beq pc 17 then some (.iload_n 3, 1, 18, [], 0) else none))
  else (bif Nat.ble pc 18 then (bif Nat.beq pc 18 then some (.invokevirtual 220, 3, 21, [], 0) else none)
  else (bif Nat.beq pc 21 then some (.iconst 0, 1, 22, [], 0) else none))) : nk_F) pc) : nk_F) pc) : nk_F) pc
  else ((fun pc => bif Nat.ble pc 35 then ((fun pc => bif Nat.ble pc 26 then ((fun pc => bif Nat.ble pc 22 then (bif Nat.beq pc 22 then some (.istore 4, 2, 24, [], 0) else none)
  else (bif Nat.ble pc 24 then (bif Nat.beq pc 24 then some (.iload 4, 2, 26, [], 0) else none)
  else (bif Nat.beq pc 26 then some (.bipush 6, 2, 28, [], 6) else none))) : nk_F) pc
  else ((fun pc => bif Nat.ble pc 31 then (bif Nat.ble pc 28 then (bif Nat.beq pc 28 then some (.if_icmp .ge 33, 3, 31, [61], 0) else none)
  else (bif Nat.beq pc 31 then some (.aload_n 0, 1, 32, [], 0) else none))
  else (bif Nat.ble pc 32 then (bif Nat.beq pc 32 then some (.getfield 63, 3, 35, [], 0) else none)
  else (bif Nat.beq pc 35 then some (.bipush 7, 2, 37, [], 7) else none))) : nk_F) pc) : nk_F) pc
  else ((fun pc => bif Nat.ble pc 39 then ((fun pc => bif Nat.ble pc 37 then (bif Nat.beq pc 37 then some (.iload_n 3, 1, 38, [], 0) else none)
  else (bif Nat.ble pc 38 then (bif Nat.beq pc 38 then some (.imul, 1, 39, [], 0) else none)
  else (bif Nat.beq pc 39 then some (.iload 4, 2, 41, [], 0) else none))) : nk_F) pc
  else ((fun pc => bif Nat.ble pc 42 then (bif Nat.ble pc 41 then (bif Nat.beq pc 41 then some (.iadd, 1, 42, [], 0) else none)
  else (bif Nat.beq pc 42 then some (.aload_n 0, 1, 43, [], 0) else none))
  else (bif Nat.ble pc 43 then (bif Nat.beq pc 43 then some (.aload_n 0, 1, 44, [], 0) else none)
  else (bif Nat.beq pc 44 then some (.iload_n 3, 1, 45, [], 0) else none))) : nk_F) pc) : nk_F) pc) : nk_F) pc) : nk_F) pc
  else ((fun pc => bif Nat.ble pc 71 then ((fun pc => bif Nat.ble pc 58 then ((fun pc => bif Nat.ble pc 49 then ((fun pc => bif Nat.ble pc 45 then (bif Nat.beq pc 45 then some (.iconst 1, 1, 46, [], 1) else none)
  else (bif Nat.ble pc 46 then (bif Nat.beq pc 46 then some (.invokevirtual 152, 3, 49, [], 0) else none)
  else (bif Nat.beq pc 49 then some (.iload 4, 2, 51, [], 0) else none))) : nk_F) pc
  else ((fun pc => bif Nat.ble pc 54 then (bif Nat.ble pc 51 then (bif Nat.beq pc 51 then some (.invokevirtual 233, 3, 54, [], 0) else none)
  else (bif Nat.beq pc 54 then some (.lastore, 1, 55, [], 0) else none))
  else (bif Nat.ble pc 55 then (bif Nat.beq pc 55 then some (.iinc 4 1, 3, 58, [], 1) else none)
  else (bif Nat.beq pc 58 then some (.goto (-34), 3, 61, [24], 0) else none))) : nk_F) pc) : nk_F) pc
  else ((fun pc => bif Nat.ble pc 65 then ((fun pc => bif Nat.ble pc 61 then (bif Nat.beq pc 61 then some (.aload_n 0, 1, 62, [], 0) else none)
  else (bif Nat.ble pc 62 then (bif Nat.beq pc 62 then some (.getfield 63, 3, 65, [], 0) else none)
  else (bif Nat.beq pc 65 then some (.bipush 7, 2, 67, [], 7) else none))) : nk_F) pc
  else ((fun pc => bif Nat.ble pc 68 then (bif Nat.ble pc 67 then (bif Nat.beq pc 67 then some (.iload_n 3, 1, 68, [], 0) else none)
  else (bif Nat.beq pc 68 then some (.imul, 1, 69, [], 0) else none))
  else (bif Nat.ble pc 69 then (bif Nat.beq pc 69 then some (.bipush 6, 2, 71, [], 6) else none)
  else (bif Nat.beq pc 71 then some (.iadd, 1, 72, [], 0) else none))) : nk_F) pc) : nk_F) pc) : nk_F) pc
  else ((fun pc => bif Nat.ble pc 82 then ((fun pc => bif Nat.ble pc 76 then ((fun pc => bif Nat.ble pc 72 then (bif Nat.beq pc 72 then some (.aload_n 0, 1, 73, [], 0) else none)
  else (bif Nat.ble pc 73 then (bif Nat.beq pc 73 then some (.getfield 57, 3, 76, [], 0) else none)
  else (bif Nat.beq pc 76 then some (.aload_n 0, 1, 77, [], 0) else none))) : nk_F) pc
  else ((fun pc => bif Nat.ble pc 80 then (bif Nat.ble pc 77 then (bif Nat.beq pc 77 then some (.getfield 41, 3, 80, [], 0) else none)
  else (bif Nat.beq pc 80 then some (.aload_n 0, 1, 81, [], 0) else none))
  else (bif Nat.ble pc 81 then (bif Nat.beq pc 81 then some (.iload_n 3, 1, 82, [], 0) else none)
  else (bif Nat.beq pc 82 then some (.iconst 1, 1, 83, [], 1) else none))) : nk_F) pc) : nk_F) pc
  else ((fun pc => bif Nat.ble pc 87 then ((fun pc => bif Nat.ble pc 83 then (bif Nat.beq pc 83 then some (.invokevirtual 152, 3, 86, [], 0) else none)
  else (bif Nat.ble pc 86 then (bif Nat.beq pc 86 then some (.iaload, 1, 87, [], 0) else none)
  else (bif Nat.beq pc 87 then some (.laload, 1, 88, [], 0) else none))) : nk_F) pc
  else ((fun pc => bif Nat.ble pc 89 then (bif Nat.ble pc 88 then (bif Nat.beq pc 88 then some (.lastore, 1, 89, [], 0) else none)
  else (bif Nat.beq pc 89 then some (.iinc 3 1, 3, 92, [], 1) else none))
  else (bif Nat.ble pc 92 then (bif Nat.beq pc 92 then some (.goto (-84), 3, 95, [8], 0) else none)
  else (bif Nat.beq pc 95 then some (.return_, 1, 96, [], 0) else none))) : nk_F) pc) : nk_F) pc) : nk_F) pc) : nk_F) pc
noncomputable def kc_X6_setTrails : Nat → Option nk_I := nk_top 96 kt_X6_setTrails
noncomputable def kx_X6_setTrails : nk_T := ([(146, 6, 12, 0), (63, 6, 26, 4), (57, 6, 21, 4), (41, 6, 16, 4)], [(868, 3, 7, 0, 0, ev_X6_begins), (880, 2, 7, 0, 0, ev_X6_does), (608, 3, 7, 0, 0, ev_X6_part), (932, 3, 7, 0, 0, ev_X6_partOf)], [], [], [], [], [], 0, false, 0, 0)
noncomputable def ev_X6_setTrails : nk_Ev := fun as h Q => nk_if (Nat.ble (nk_wd as) 5) (nk_ev kx_X6_setTrails kc_X6_setTrails 5 as h Q)
set_option maxRecDepth 100000 in
theorem ck_X6_setTrails : nk_chk cX6_setTrails kc_X6_setTrails 96 = true := nd_chk (by decide +kernel) (by decide +kernel)
set_option maxRecDepth 100000 in
set_option maxHeartbeats 4000000 in
theorem ca_X6_setTrails_868 (l : Launch) : nk_CallOk l { frames := 5, cells := 0, slots := 0, locals := 134 } RX6 cX6_setTrails 5 false 868 (3, 7, 0, 0, ev_X6_begins) := nk_callV (x := 217) (n := 2) (ci := 6) (r := (RX6, TX6, 32)) (mt_X6_begins l) rfl (nk_msc [(4, 212), (4, 213), (4, 214), (4, 215), (0, 40), (1, 7)] (by decide +kernel)) rfl rfl (by decide +kernel) ⟨by decide, by decide⟩
set_option maxRecDepth 100000 in
set_option maxHeartbeats 4000000 in
theorem ca_X6_setTrails_880 (l : Launch) : nk_CallOk l { frames := 5, cells := 0, slots := 0, locals := 134 } RX6 cX6_setTrails 5 false 880 (2, 7, 0, 0, ev_X6_does) := nk_callV (x := 220) (n := 1) (ci := 6) (r := (RX6, TX6, 32)) (mt_X6_does l) rfl (nk_msc [(4, 216), (4, 217), (4, 218), (4, 219), (0, 41), (1, 7)] (by decide +kernel)) rfl rfl (by decide +kernel) ⟨by decide, by decide⟩
set_option maxRecDepth 100000 in
set_option maxHeartbeats 4000000 in
theorem ca_X6_setTrails_608 (l : Launch) : nk_CallOk l { frames := 5, cells := 0, slots := 0, locals := 134 } RX6 cX6_setTrails 5 false 608 (3, 7, 0, 0, ev_X6_part) := nk_callV (x := 152) (n := 2) (ci := 6) (r := (RX6, TX6, 32)) (mt_X6_part l) rfl (nk_msc [(4, 164), (4, 165), (4, 166), (4, 167), (0, 35), (1, 7)] (by decide +kernel)) rfl rfl (by decide +kernel) ⟨by decide, by decide⟩
set_option maxRecDepth 100000 in
set_option maxHeartbeats 4000000 in
theorem ca_X6_setTrails_932 (l : Launch) : nk_CallOk l { frames := 5, cells := 0, slots := 0, locals := 134 } RX6 cX6_setTrails 5 false 932 (3, 7, 0, 0, ev_X6_partOf) := nk_callV (x := 233) (n := 2) (ci := 6) (r := (RX6, TX6, 32)) (mt_X6_partOf l) rfl (nk_msc [(5, 30), (5, 31), (5, 32), (5, 33), (0, 49), (1, 7)] (by decide +kernel)) rfl rfl (by decide +kernel) ⟨by decide, by decide⟩
set_option maxRecDepth 100000 in
set_option maxHeartbeats 4000000 in
theorem mt_X6_setTrails (l : Launch) : nk_Met l yX6_setTrails cX6_setTrails 5 none { frames := 5, cells := 0, slots := 0, locals := 134 } false 0 0 ev_X6_setTrails :=
  nk_met nk_gok (plainFor_of_name (by decide)) ck_X6_setTrails (nk_top_out 96 kt_X6_setTrails) ⟨List.forall_mem_cons.mpr ⟨nk_fkc [(3, 205)] (by decide +kernel), List.forall_mem_cons.mpr ⟨nk_fkc [(3, 219)] (by decide +kernel), List.forall_mem_cons.mpr ⟨nk_fkc [(3, 214)] (by decide +kernel), List.forall_mem_cons.mpr ⟨nk_fkc [(3, 209)] (by decide +kernel), fun _ h => absurd h List.not_mem_nil⟩⟩⟩⟩, List.forall_mem_cons.mpr ⟨ca_X6_setTrails_868 l, List.forall_mem_cons.mpr ⟨ca_X6_setTrails_880 l, List.forall_mem_cons.mpr ⟨ca_X6_setTrails_608 l, List.forall_mem_cons.mpr ⟨ca_X6_setTrails_932 l, fun _ h => absurd h List.not_mem_nil⟩⟩⟩⟩, fun _ h => absurd h List.not_mem_nil, fun _ h => absurd h List.not_mem_nil, fun _ h => absurd h List.not_mem_nil, fun _ h => absurd h List.not_mem_nil, fun _ h => absurd h List.not_mem_nil, by decide, rfl, rfl⟩ rfl (by decide)
