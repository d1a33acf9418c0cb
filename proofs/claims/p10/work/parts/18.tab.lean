/-! MarbleLaw.beside(III)I -/
noncomputable def kt_X5_beside : Nat → Option nk_I := fun pc => bif Nat.ble pc 81 then ((fun pc => bif Nat.ble pc 41 then ((fun pc => bif Nat.ble pc 19 then ((fun pc => bif Nat.ble pc 8 then ((fun pc => bif Nat.ble pc 1 then (bif Nat.ble pc 0 then (bif Nat.beq pc 0 then some (.iload_n 1, 1, 1, [], 0) else none)
  else (bif Nat.beq pc 1 then some (.iconst 4, 1, 2, [], 4) else none))
  else ((fun pc => bif Nat.ble pc 2 then (bif Nat.beq pc 2 then some (.invokestatic 84, 3, 5, [], 0) else none)
  else (bif Nat.ble pc 5 then (bif Nat.beq pc 5 then some (.ifCond .eq 20, 3, 8, [25], 0) else none)
  else (bif Nat.beq pc 8 then some (.iload_n 2, 1, 9, [], 0) else none))) : nk_F) pc) : nk_F) pc
  else ((fun pc => bif Nat.ble pc 13 then ((fun pc => bif Nat.ble pc 9 then (bif Nat.beq pc 9 then some (.iconst 4, 1, 10, [], 4) else none)
  else (bif Nat.ble pc 10 then (bif Nat.beq pc 10 then some (.invokestatic 84, 3, 13, [], 0) else none)
  else (bif Nat.beq pc 13 then some (.ifCond .eq 12, 3, 16, [25], 0) else none))) : nk_F) pc
  else ((fun pc => bif Nat.ble pc 16 then (bif Nat.beq pc 16 then some (.iload_n 3, 1, 17, [], 0) else none)
  else (bif Nat.ble pc 17 then (bif Nat.beq pc 17 then some (.bipush 16, 2, 19, [], 16) else none)
  else (bif Nat.beq pc 19 then some (.invokestatic 84, 3, 22, [], 0) else none))) : nk_F) pc) : nk_F) pc) : nk_F) pc
  else ((fun pc => bif Nat.ble pc 31 then ((fun pc => bif Nat.ble pc 26 then ((fun pc => bif Nat.ble pc 22 then (bif Nat.beq pc 22 then some (.ifCond .ne 5, 3, 25, [27], 0) else none)
  else (bif Nat.ble pc 25 then (bif Nat.beq pc 25 then some (.iconst (-1), 1, 26, [], (-1)) else none)
  else (bif Nat.beq pc 26 then some (.ireturn, 1, 27, [], 0) else none))) : nk_F) pc
  else ((fun pc => bif Nat.ble pc 27 then (bif Nat.beq pc 27 then some (.aload_n 0, 1, 28, [], 0) else none)
  else (bif Nat.ble pc 28 then (bif Nat.beq pc 28 then some (.getfield 32, 3, 31, [], 0) else none)
  else (bif Nat.beq pc 31 then some (.iload_n 1, 1, 32, [], 0) else none))) : nk_F) pc) : nk_F) pc
  else ((fun pc => bif Nat.ble pc 34 then ((fun pc => bif Nat.ble pc 32 then (bif Nat.beq pc 32 then some (.iaload, 1, 33, [], 0) else none)
  else (bif Nat.ble pc 33 then (bif Nat.beq pc 33 then some (.iconst (-1), 1, 34, [], (-1)) else none)
  else (bif Nat.beq pc 34 then some (.if_icmp .eq 13, 3, 37, [47], 0) else none))) : nk_F) pc
  else ((fun pc => bif Nat.ble pc 37 then (bif Nat.beq pc 37 then some (.aload_n 0, 1, 38, [], 0) else none)
  else (bif Nat.ble pc 38 then (bif Nat.beq pc 38 then some (.getfield 32, 3, 41, [], 0) else none)
  else (bif Nat.beq pc 41 then some (.iload_n 2, 1, 42, [], 0) else none))) : nk_F) pc) : nk_F) pc) : nk_F) pc) : nk_F) pc
  else ((fun pc => bif Nat.ble pc 61 then ((fun pc => bif Nat.ble pc 49 then ((fun pc => bif Nat.ble pc 44 then ((fun pc => bif Nat.ble pc 42 then (bif Nat.beq pc 42 then some (.iaload, 1, 43, [], 0) else none)
  else (bif Nat.ble pc 43 then (bif Nat.beq pc 43 then some (.iconst (-1), 1, 44, [], (-1)) else none)
  else (bif Nat.beq pc 44 then some (.if_icmp .ne 9, 3, 47, [53], 0) else none))) : nk_F) pc
  else ((fun pc => bif Nat.ble pc 47 then (bif Nat.beq pc 47 then some (.aload_n 0, 1, 48, [], 0) else none)
  else (bif Nat.ble pc 48 then (bif Nat.beq pc 48 then some (.iconst 1, 1, 49, [], 1) else none)
  else (bif Nat.beq pc 49 then some (.invokevirtual 92, 3, 52, [], 0) else none))) : nk_F) pc) : nk_F) pc
  else ((fun pc => bif Nat.ble pc 54 then ((fun pc => bif Nat.ble pc 52 then (bif Nat.beq pc 52 then some (.ireturn, 1, 53, [], 0) else none)
  else (bif Nat.ble pc 53 then (bif Nat.beq pc 53 then some (.aload_n 0, 1, 54, [], 0) else none)
  else (bif Nat.beq pc 54 then some (.getfield 41, 3, 57, [], 0) else none))) : nk_F) pc
  else ((fun pc => bif Nat.ble pc 57 then (bif Nat.beq pc 57 then some (.aload_n 0, 1, 58, [], 0) else none)
  else (bif Nat.ble pc 58 then (bif Nat.beq pc 58 then some (.getfield 32, 3, 61, [], 0) else none)
  else (bif Nat.beq pc 61 then some (.iload_n 1, 1, 62, [], 0) else none))) : nk_F) pc) : nk_F) pc) : nk_F) pc
  else ((fun pc => bif Nat.ble pc 71 then ((fun pc => bif Nat.ble pc 64 then ((fun pc => bif Nat.ble pc 62 then (bif Nat.beq pc 62 then some (.iaload, 1, 63, [], 0) else none)
  else (bif Nat.ble pc 63 then (bif Nat.beq pc 63 then some (.iload_n 3, 1, 64, [], 0) else none)
  else (bif Nat.beq pc 64 then some (.invokevirtual 231, 3, 67, [], 0) else none))) : nk_F) pc
  else ((fun pc => bif Nat.ble pc 67 then (bif Nat.beq pc 67 then some (.aload_n 0, 1, 68, [], 0) else none)
  else (bif Nat.ble pc 68 then (bif Nat.beq pc 68 then some (.getfield 45, 3, 71, [], 0) else none)
  else (bif Nat.beq pc 71 then some (.aload_n 0, 1, 72, [], 0) else none))) : nk_F) pc) : nk_F) pc
  else ((fun pc => bif Nat.ble pc 76 then ((fun pc => bif Nat.ble pc 72 then (bif Nat.beq pc 72 then some (.getfield 32, 3, 75, [], 0) else none)
  else (bif Nat.ble pc 75 then (bif Nat.beq pc 75 then some (.iload_n 2, 1, 76, [], 0) else none)
  else (bif Nat.beq pc 76 then some (.iaload, 1, 77, [], 0) else none))) : nk_F) pc
  else ((fun pc => bif Nat.ble pc 77 then (bif Nat.beq pc 77 then some (.iload_n 3, 1, 78, [], 0) else none)
  else (bif Nat.ble pc 78 then (bif Nat.beq pc 78 then some (.invokevirtual 231, 3, 81, [], 0) else none)
  else (bif Nat.beq pc 81 then some (.iconst 0, 1, 82, [], 0) else none))) : nk_F) pc) : nk_F) pc) : nk_F) pc) : nk_F) pc) : nk_F) pc
  else ((fun pc => bif Nat.ble pc 134 then ((fun pc => bif Nat.ble pc 105 then ((fun pc => bif Nat.ble pc 90 then ((fun pc => bif Nat.ble pc 84 then (bif Nat.ble pc 82 then (bif Nat.beq pc 82 then some (.istore 4, 2, 84, [], 0) else none)
  else (bif Nat.beq pc 84 then some (.iload 4, 2, 86, [], 0) else none))
  else ((fun pc => bif Nat.ble pc 86 then (bif Nat.beq pc 86 then some (.aload_n 0, 1, 87, [], 0) else none)
  else (bif Nat.ble pc 87 then (bif Nat.beq pc 87 then some (.getfield 21, 3, 90, [], 0) else none)
  else (bif Nat.beq pc 90 then some (.getfield 142, 3, 93, [], 0) else none))) : nk_F) pc) : nk_F) pc
  else ((fun pc => bif Nat.ble pc 97 then ((fun pc => bif Nat.ble pc 93 then (bif Nat.beq pc 93 then some (.if_icmp .ge 88, 3, 96, [181], 0) else none)
  else (bif Nat.ble pc 96 then (bif Nat.beq pc 96 then some (.aload_n 0, 1, 97, [], 0) else none)
  else (bif Nat.beq pc 97 then some (.getfield 41, 3, 100, [], 0) else none))) : nk_F) pc
  else ((fun pc => bif Nat.ble pc 100 then (bif Nat.beq pc 100 then some (.iload 4, 2, 102, [], 0) else none)
  else (bif Nat.ble pc 102 then (bif Nat.beq pc 102 then some (.invokevirtual 212, 3, 105, [], 0) else none)
  else (bif Nat.beq pc 105 then some (.aload_n 0, 1, 106, [], 0) else none))) : nk_F) pc) : nk_F) pc) : nk_F) pc
  else ((fun pc => bif Nat.ble pc 118 then ((fun pc => bif Nat.ble pc 111 then ((fun pc => bif Nat.ble pc 106 then (bif Nat.beq pc 106 then some (.getfield 45, 3, 109, [], 0) else none)
  else (bif Nat.ble pc 109 then (bif Nat.beq pc 109 then some (.iload 4, 2, 111, [], 0) else none)
  else (bif Nat.beq pc 111 then some (.invokevirtual 212, 3, 114, [], 0) else none))) : nk_F) pc
  else ((fun pc => bif Nat.ble pc 114 then (bif Nat.beq pc 114 then some (.aload_n 0, 1, 115, [], 0) else none)
  else (bif Nat.ble pc 115 then (bif Nat.beq pc 115 then some (.getfield 41, 3, 118, [], 0) else none)
  else (bif Nat.beq pc 118 then some (.getfield 215, 3, 121, [], 0) else none))) : nk_F) pc) : nk_F) pc
  else ((fun pc => bif Nat.ble pc 125 then ((fun pc => bif Nat.ble pc 121 then (bif Nat.beq pc 121 then some (.ifCond .ne 13, 3, 124, [134], 0) else none)
  else (bif Nat.ble pc 124 then (bif Nat.beq pc 124 then some (.aload_n 0, 1, 125, [], 0) else none)
  else (bif Nat.beq pc 125 then some (.getfield 45, 3, 128, [], 0) else none))) : nk_F) pc
  else ((fun pc => bif Nat.ble pc 128 then (bif Nat.beq pc 128 then some (.getfield 215, 3, 131, [], 0) else none)
  else (bif Nat.ble pc 131 then (bif Nat.beq pc 131 then some (.ifCond .eq 9, 3, 134, [140], 0) else none)
  else (bif Nat.beq pc 134 then some (.aload_n 0, 1, 135, [], 0) else none))) : nk_F) pc) : nk_F) pc) : nk_F) pc) : nk_F) pc
  else ((fun pc => bif Nat.ble pc 156 then ((fun pc => bif Nat.ble pc 144 then ((fun pc => bif Nat.ble pc 139 then ((fun pc => bif Nat.ble pc 135 then (bif Nat.beq pc 135 then some (.iconst 5, 1, 136, [], 5) else none)
  else (bif Nat.ble pc 136 then (bif Nat.beq pc 136 then some (.invokevirtual 92, 3, 139, [], 0) else none)
  else (bif Nat.beq pc 139 then some (.ireturn, 1, 140, [], 0) else none))) : nk_F) pc
  else ((fun pc => bif Nat.ble pc 140 then (bif Nat.beq pc 140 then some (.aload_n 0, 1, 141, [], 0) else none)
  else (bif Nat.ble pc 141 then (bif Nat.beq pc 141 then some (.getfield 41, 3, 144, [], 0) else none)
  else (bif Nat.beq pc 144 then some (.aload_n 0, 1, 145, [], 0) else none))) : nk_F) pc) : nk_F) pc
  else ((fun pc => bif Nat.ble pc 149 then ((fun pc => bif Nat.ble pc 145 then (bif Nat.beq pc 145 then some (.getfield 45, 3, 148, [], 0) else none)
  else (bif Nat.ble pc 148 then (bif Nat.beq pc 148 then some (.aload_n 0, 1, 149, [], 0) else none)
  else (bif Nat.beq pc 149 then some (.getfield 41, 3, 152, [], 0) else none))) : nk_F) pc
  else ((fun pc => bif Nat.ble pc 152 then (bif Nat.beq pc 152 then some (.getfield 179, 3, 155, [], 0) else none)
  else (bif Nat.ble pc 155 then (bif Nat.beq pc 155 then some (.aload_n 0, 1, 156, [], 0) else none)
  else (bif Nat.beq pc 156 then some (.getfield 21, 3, 159, [], 0) else none))) : nk_F) pc) : nk_F) pc) : nk_F) pc
  else ((fun pc => bif Nat.ble pc 169 then ((fun pc => bif Nat.ble pc 162 then ((fun pc => bif Nat.ble pc 159 then (bif Nat.beq pc 159 then some (.iload 4, 2, 161, [], 0) else none)
  else (bif Nat.ble pc 161 then (bif Nat.beq pc 161 then some (.iconst 1, 1, 162, [], 1) else none)
  else (bif Nat.beq pc 162 then some (.invokevirtual 152, 3, 165, [], 0) else none))) : nk_F) pc
  else ((fun pc => bif Nat.ble pc 165 then (bif Nat.beq pc 165 then some (.iaload, 1, 166, [], 0) else none)
  else (bif Nat.ble pc 166 then (bif Nat.beq pc 166 then some (.invokevirtual 233, 3, 169, [], 0) else none)
  else (bif Nat.beq pc 169 then some (.ifCond .ne 6, 3, 172, [175], 0) else none))) : nk_F) pc) : nk_F) pc
  else ((fun pc => bif Nat.ble pc 175 then ((fun pc => bif Nat.ble pc 172 then (bif Nat.beq pc 172 then some (.iload 4, 2, 174, [], 0) else none)
  else (bif Nat.ble pc 174 then (bif Nat.beq pc 174 then some (.ireturn, 1, 175, [], 0) else none)
  else (bif Nat.beq pc 175 then some (.iinc 4 1, 3, 178, [], 1) else none))) : nk_F) pc
  else ((fun pc => bif Nat.ble pc 178 then (bif Nat.beq pc 178 then some (.goto (-94), 3, 181, [84], 0) else none)
  else (bif Nat.ble pc 181 then (bif Nat.beq pc 181 then some (.bipush (-9), 2, 183, [], (-9)) else none)
  else (bif Nat.beq pc 183 then some (.ireturn, 1, 184, [], 0) else none))) : nk_F) pc) : nk_F) pc) : nk_F) pc) : nk_F) pc) : nk_F) pc
noncomputable def kc_X5_beside : Nat → Option nk_I := nk_top 184 kt_X5_beside
noncomputable def kx_X5_beside : nk_T := ([(32, 5, 4, 4), (41, 5, 5, 4), (45, 5, 6, 4), (21, 5, 2, 4), (142, 4, 3, 0), (215, 0, 10, 1), (179, 0, 3, 5)], [(338, 2, 0, 0, 0, ev_X5_within), (368, 2, 6, 0, 0, ev_X5_found), (924, 3, 1, 0, 0, ev_X0_begin), (848, 2, 1, 0, 0, ev_X0_step), (608, 3, 5, 0, 0, ev_X4_ofMaking), (932, 3, 1, 0, 0, ev_X0_sharesAlike)], [], [], [], [], [], 1, false, 0, 0)
noncomputable def ev_X5_beside : nk_Ev := fun as h Q => nk_if (Nat.ble (nk_wd as) 5) (nk_ev kx_X5_beside kc_X5_beside 5 as h Q)
set_option maxRecDepth 100000 in
theorem ck_X5_beside : nk_chk cX5_beside kc_X5_beside 184 = true := nd_chk (by decide +kernel) (by decide +kernel)
set_option maxRecDepth 100000 in
set_option maxHeartbeats 4000000 in
theorem ca_X5_beside_338 (l : Launch) : nk_CallOk l { frames := 4, cells := 0, slots := 0, locals := 105 } RX5 cX5_beside 5 false 338 (2, 0, 0, 0, ev_X5_within) := nk_callS (x := 84) (n := 2) (mt_X5_within l) (nk_msc [(1, 199), (1, 200), (1, 201), (1, 1)] (by decide +kernel)) rfl rfl (by decide +kernel) ⟨by decide, by decide⟩
set_option maxRecDepth 100000 in
set_option maxHeartbeats 4000000 in
theorem ca_X5_beside_368 (l : Launch) : nk_CallOk l { frames := 4, cells := 0, slots := 0, locals := 105 } RX5 cX5_beside 5 false 368 (2, 6, 0, 0, ev_X5_found) := nk_callV (x := 92) (n := 1) (ci := 5) (r := (RX5, TX5, 13)) (mt_X5_found l) rfl (nk_msc [(1, 202), (1, 203), (1, 204), (1, 205), (0, 1), (1, 1)] (by decide +kernel)) rfl rfl (by decide +kernel) ⟨by decide, by decide⟩
set_option maxRecDepth 100000 in
set_option maxHeartbeats 4000000 in
theorem ca_X5_beside_924 (l : Launch) : nk_CallOk l { frames := 4, cells := 0, slots := 0, locals := 105 } RX5 cX5_beside 5 false 924 (3, 1, 0, 0, ev_X0_begin) := nk_callV (x := 231) (n := 2) (ci := 0) (r := (RX0, TX0, 15)) (mt_X0_begin l) rfl (nk_msc [(2, 93), (2, 94), (2, 95), (2, 96), (1, 4)] (by decide +kernel)) rfl rfl (by decide +kernel) ⟨by decide, by decide⟩
set_option maxRecDepth 100000 in
set_option maxHeartbeats 4000000 in
theorem ca_X5_beside_848 (l : Launch) : nk_CallOk l { frames := 4, cells := 0, slots := 0, locals := 105 } RX5 cX5_beside 5 false 848 (2, 1, 0, 0, ev_X0_step) := nk_callV (x := 212) (n := 1) (ci := 0) (r := (RX0, TX0, 15)) (mt_X0_step l) rfl (nk_msc [(3, 1), (2, 107), (2, 108), (2, 109), (1, 4)] (by decide +kernel)) rfl rfl (by decide +kernel) ⟨by decide, by decide⟩
set_option maxRecDepth 100000 in
set_option maxHeartbeats 4000000 in
theorem ca_X5_beside_608 (l : Launch) : nk_CallOk l { frames := 4, cells := 0, slots := 0, locals := 105 } RX5 cX5_beside 5 false 608 (3, 5, 0, 0, ev_X4_ofMaking) := nk_callV (x := 152) (n := 2) (ci := 4) (r := (RX4, TX4, 4)) (mt_X4_ofMaking l) rfl (nk_msc [(2, 78), (2, 79), (2, 80), (2, 81), (1, 2)] (by decide +kernel)) rfl rfl (by decide +kernel) ⟨by decide, by decide⟩
set_option maxRecDepth 100000 in
set_option maxHeartbeats 4000000 in
theorem ca_X5_beside_932 (l : Launch) : nk_CallOk l { frames := 4, cells := 0, slots := 0, locals := 105 } RX5 cX5_beside 5 false 932 (3, 1, 0, 0, ev_X0_sharesAlike) := nk_callV (x := 233) (n := 2) (ci := 0) (r := (RX0, TX0, 15)) (mt_X0_sharesAlike l) rfl (nk_msc [(3, 10), (3, 11), (3, 12), (3, 13), (1, 4)] (by decide +kernel)) rfl rfl (by decide +kernel) ⟨by decide, by decide⟩
set_option maxRecDepth 100000 in
set_option maxHeartbeats 4000000 in
theorem mt_X5_beside (l : Launch) : nk_Met l yX5_beside cX5_beside 5 (some .int) { frames := 4, cells := 0, slots := 0, locals := 105 } false 0 0 ev_X5_beside :=
  nk_met nk_gok (plainFor_of_name (by decide)) ck_X5_beside (nk_top_out 184 kt_X5_beside) ⟨List.forall_mem_cons.mpr ⟨nk_fkc [(1, 155)] (by decide +kernel), List.forall_mem_cons.mpr ⟨nk_fkc [(1, 156)] (by decide +kernel), List.forall_mem_cons.mpr ⟨nk_fkc [(1, 157)] (by decide +kernel), List.forall_mem_cons.mpr ⟨nk_fkc [(1, 153)] (by decide +kernel), List.forall_mem_cons.mpr ⟨nk_fkc [(1, 33)] (by decide +kernel), List.forall_mem_cons.mpr ⟨nk_fkc [(1, 76)] (by decide +kernel), List.forall_mem_cons.mpr ⟨nk_fkc [(1, 64)] (by decide +kernel), fun _ h => absurd h List.not_mem_nil⟩⟩⟩⟩⟩⟩⟩, List.forall_mem_cons.mpr ⟨ca_X5_beside_338 l, List.forall_mem_cons.mpr ⟨ca_X5_beside_368 l, List.forall_mem_cons.mpr ⟨ca_X5_beside_924 l, List.forall_mem_cons.mpr ⟨ca_X5_beside_848 l, List.forall_mem_cons.mpr ⟨ca_X5_beside_608 l, List.forall_mem_cons.mpr ⟨ca_X5_beside_932 l, fun _ h => absurd h List.not_mem_nil⟩⟩⟩⟩⟩⟩, fun _ h => absurd h List.not_mem_nil, fun _ h => absurd h List.not_mem_nil, fun _ h => absurd h List.not_mem_nil, fun _ h => absurd h List.not_mem_nil, fun _ h => absurd h List.not_mem_nil, by decide, rfl, rfl⟩ rfl (by decide)
/-! MarbleLaw.undo(II)I -/
noncomputable def kt_X5_undo : Nat → Option nk_I := fun pc => bif Nat.ble pc 75 then ((fun pc => bif Nat.ble pc 34 then ((fun pc => bif Nat.ble pc 17 then ((fun pc => bif Nat.ble pc 8 then ((fun pc => bif Nat.ble pc 1 then (bif Nat.ble pc 0 then (bif Nat.beq pc 0 then some (.aload_n 0, 1, 1, [], 0) else none)
  else (bif Nat.beq pc 1 then some (.iload_n 2, 1, 2, [], 0) else none))
  else ((fun pc => bif Nat.ble pc 2 then (bif Nat.beq pc 2 then some (.invokevirtual 176, 3, 5, [], 0) else none)
  else (bif Nat.ble pc 5 then (bif Nat.beq pc 5 then some (.ifCond .eq 11, 3, 8, [16], 0) else none)
  else (bif Nat.beq pc 8 then some (.iload_n 1, 1, 9, [], 0) else none))) : nk_F) pc) : nk_F) pc
  else ((fun pc => bif Nat.ble pc 10 then (bif Nat.ble pc 9 then (bif Nat.beq pc 9 then some (.iload_n 2, 1, 10, [], 0) else none)
  else (bif Nat.beq pc 10 then some (.invokestatic 84, 3, 13, [], 0) else none))
  else ((fun pc => bif Nat.ble pc 13 then (bif Nat.beq pc 13 then some (.ifCond .ne 5, 3, 16, [18], 0) else none)
  else (bif Nat.ble pc 16 then (bif Nat.beq pc 16 then some (.iconst (-1), 1, 17, [], (-1)) else none)
  else (bif Nat.beq pc 17 then some (.ireturn, 1, 18, [], 0) else none))) : nk_F) pc) : nk_F) pc) : nk_F) pc
  else ((fun pc => bif Nat.ble pc 25 then ((fun pc => bif Nat.ble pc 19 then (bif Nat.ble pc 18 then (bif Nat.beq pc 18 then some (.aload_n 0, 1, 19, [], 0) else none)
  else (bif Nat.beq pc 19 then some (.getfield 21, 3, 22, [], 0) else none))
  else ((fun pc => bif Nat.ble pc 22 then (bif Nat.beq pc 22 then some (.iload_n 1, 1, 23, [], 0) else none)
  else (bif Nat.ble pc 23 then (bif Nat.beq pc 23 then some (.bipush 6, 2, 25, [], 6) else none)
  else (bif Nat.beq pc 25 then some (.invokevirtual 152, 3, 28, [], 0) else none))) : nk_F) pc) : nk_F) pc
  else ((fun pc => bif Nat.ble pc 31 then (bif Nat.ble pc 28 then (bif Nat.beq pc 28 then some (.ifCond .ne 5, 3, 31, [33], 0) else none)
  else (bif Nat.beq pc 31 then some (.iconst 0, 1, 32, [], 0) else none))
  else ((fun pc => bif Nat.ble pc 32 then (bif Nat.beq pc 32 then some (.ireturn, 1, 33, [], 0) else none)
  else (bif Nat.ble pc 33 then (bif Nat.beq pc 33 then some (.aload_n 0, 1, 34, [], 0) else none)
  else (bif Nat.beq pc 34 then some (.iload_n 1, 1, 35, [], 0) else none))) : nk_F) pc) : nk_F) pc) : nk_F) pc) : nk_F) pc
  else ((fun pc => bif Nat.ble pc 56 then ((fun pc => bif Nat.ble pc 43 then ((fun pc => bif Nat.ble pc 38 then (bif Nat.ble pc 35 then (bif Nat.beq pc 35 then some (.invokevirtual 158, 3, 38, [], 0) else none)
  else (bif Nat.beq pc 38 then some (.aload_n 0, 1, 39, [], 0) else none))
  else ((fun pc => bif Nat.ble pc 39 then (bif Nat.beq pc 39 then some (.getfield 41, 3, 42, [], 0) else none)
  else (bif Nat.ble pc 42 then (bif Nat.beq pc 42 then some (.iload_n 1, 1, 43, [], 0) else none)
  else (bif Nat.beq pc 43 then some (.invokevirtual 162, 3, 46, [], 0) else none))) : nk_F) pc) : nk_F) pc
  else ((fun pc => bif Nat.ble pc 47 then (bif Nat.ble pc 46 then (bif Nat.beq pc 46 then some (.aload_n 0, 1, 47, [], 0) else none)
  else (bif Nat.beq pc 47 then some (.getfield 41, 3, 50, [], 0) else none))
  else ((fun pc => bif Nat.ble pc 50 then (bif Nat.beq pc 50 then some (.invokevirtual 165, 3, 53, [], 0) else none)
  else (bif Nat.ble pc 53 then (bif Nat.beq pc 53 then some (.ifCond .ne 5, 3, 56, [58], 0) else none)
  else (bif Nat.beq pc 56 then some (.iconst 0, 1, 57, [], 0) else none))) : nk_F) pc) : nk_F) pc) : nk_F) pc
  else ((fun pc => bif Nat.ble pc 65 then ((fun pc => bif Nat.ble pc 58 then (bif Nat.ble pc 57 then (bif Nat.beq pc 57 then some (.ireturn, 1, 58, [], 0) else none)
  else (bif Nat.beq pc 58 then some (.aload_n 0, 1, 59, [], 0) else none))
  else ((fun pc => bif Nat.ble pc 59 then (bif Nat.beq pc 59 then some (.getfield 41, 3, 62, [], 0) else none)
  else (bif Nat.ble pc 62 then (bif Nat.beq pc 62 then some (.getfield 225, 3, 65, [], 0) else none)
  else (bif Nat.beq pc 65 then some (.istore_n 3, 1, 66, [], 0) else none))) : nk_F) pc) : nk_F) pc
  else ((fun pc => bif Nat.ble pc 70 then ((fun pc => bif Nat.ble pc 66 then (bif Nat.beq pc 66 then some (.aload_n 0, 1, 67, [], 0) else none)
  else (bif Nat.ble pc 67 then (bif Nat.beq pc 67 then some (.getfield 41, 3, 70, [], 0) else none)
  else (bif Nat.beq pc 70 then some (.iload_n 1, 1, 71, [], 0) else none))) : nk_F) pc
  else ((fun pc => bif Nat.ble pc 71 then (bif Nat.beq pc 71 then some (.iload_n 2, 1, 72, [], 0) else none)
  else (bif Nat.ble pc 72 then (bif Nat.beq pc 72 then some (.invokevirtual 237, 3, 75, [], 0) else none)
  else (bif Nat.beq pc 75 then some (.aload_n 0, 1, 76, [], 0) else none))) : nk_F) pc) : nk_F) pc) : nk_F) pc) : nk_F) pc) : nk_F) pc
  else ((fun pc => bif Nat.ble pc 111 then ((fun pc => bif Nat.ble pc 94 then ((fun pc => bif Nat.ble pc 86 then ((fun pc => bif Nat.ble pc 79 then (bif Nat.ble pc 76 then (bif Nat.beq pc 76 then some (.getfield 41, 3, 79, [], 0) else none)
  else (bif Nat.beq pc 79 then some (.getfield 179, 3, 82, [], 0) else none))
  else ((fun pc => bif Nat.ble pc 82 then (bif Nat.beq pc 82 then some (.aload_n 0, 1, 83, [], 0) else none)
  else (bif Nat.ble pc 83 then (bif Nat.beq pc 83 then some (.getfield 21, 3, 86, [], 0) else none)
  else (bif Nat.beq pc 86 then some (.iload_n 1, 1, 87, [], 0) else none))) : nk_F) pc) : nk_F) pc
  else ((fun pc => bif Nat.ble pc 88 then (bif Nat.ble pc 87 then (bif Nat.beq pc 87 then some (.iconst 1, 1, 88, [], 1) else none)
  else (bif Nat.beq pc 88 then some (.invokevirtual 152, 3, 91, [], 0) else none))
  else ((fun pc => bif Nat.ble pc 91 then (bif Nat.beq pc 91 then some (.iaload, 1, 92, [], 0) else none)
  else (bif Nat.ble pc 92 then (bif Nat.beq pc 92 then some (.istore 4, 2, 94, [], 0) else none)
  else (bif Nat.beq pc 94 then some (.iload_n 1, 1, 95, [], 0) else none))) : nk_F) pc) : nk_F) pc) : nk_F) pc
  else ((fun pc => bif Nat.ble pc 101 then ((fun pc => bif Nat.ble pc 96 then (bif Nat.ble pc 95 then (bif Nat.beq pc 95 then some (.iconst 1, 1, 96, [], 1) else none)
  else (bif Nat.beq pc 96 then some (.iadd, 1, 97, [], 0) else none))
  else ((fun pc => bif Nat.ble pc 97 then (bif Nat.beq pc 97 then some (.istore 5, 2, 99, [], 0) else none)
  else (bif Nat.ble pc 99 then (bif Nat.beq pc 99 then some (.iload 5, 2, 101, [], 0) else none)
  else (bif Nat.beq pc 101 then some (.iload_n 2, 1, 102, [], 0) else none))) : nk_F) pc) : nk_F) pc
  else ((fun pc => bif Nat.ble pc 105 then (bif Nat.ble pc 102 then (bif Nat.beq pc 102 then some (.if_icmp .ge 25, 3, 105, [127], 0) else none)
  else (bif Nat.beq pc 105 then some (.aload_n 0, 1, 106, [], 0) else none))
  else ((fun pc => bif Nat.ble pc 106 then (bif Nat.beq pc 106 then some (.getfield 41, 3, 109, [], 0) else none)
  else (bif Nat.ble pc 109 then (bif Nat.beq pc 109 then some (.iload 5, 2, 111, [], 0) else none)
  else (bif Nat.beq pc 111 then some (.iload 4, 2, 113, [], 0) else none))) : nk_F) pc) : nk_F) pc) : nk_F) pc) : nk_F) pc
  else ((fun pc => bif Nat.ble pc 130 then ((fun pc => bif Nat.ble pc 121 then ((fun pc => bif Nat.ble pc 116 then (bif Nat.ble pc 113 then (bif Nat.beq pc 113 then some (.invokevirtual 240, 3, 116, [], 0) else none)
  else (bif Nat.beq pc 116 then some (.ifCond .eq 5, 3, 119, [121], 0) else none))
  else ((fun pc => bif Nat.ble pc 119 then (bif Nat.beq pc 119 then some (.iconst 0, 1, 120, [], 0) else none)
  else (bif Nat.ble pc 120 then (bif Nat.beq pc 120 then some (.ireturn, 1, 121, [], 0) else none)
  else (bif Nat.beq pc 121 then some (.iinc 5 1, 3, 124, [], 1) else none))) : nk_F) pc) : nk_F) pc
  else ((fun pc => bif Nat.ble pc 127 then (bif Nat.ble pc 124 then (bif Nat.beq pc 124 then some (.goto (-25), 3, 127, [99], 0) else none)
  else (bif Nat.beq pc 127 then some (.aload_n 0, 1, 128, [], 0) else none))
  else ((fun pc => bif Nat.ble pc 128 then (bif Nat.beq pc 128 then some (.iload_n 3, 1, 129, [], 0) else none)
  else (bif Nat.ble pc 129 then (bif Nat.beq pc 129 then some (.iconst 1, 1, 130, [], 1) else none)
  else (bif Nat.beq pc 130 then some (.aload_n 0, 1, 131, [], 0) else none))) : nk_F) pc) : nk_F) pc) : nk_F) pc
  else ((fun pc => bif Nat.ble pc 140 then ((fun pc => bif Nat.ble pc 134 then (bif Nat.ble pc 131 then (bif Nat.beq pc 131 then some (.getfield 41, 3, 134, [], 0) else none)
  else (bif Nat.beq pc 134 then some (.getfield 185, 3, 137, [], 0) else none))
  else ((fun pc => bif Nat.ble pc 137 then (bif Nat.beq pc 137 then some (.iload 4, 2, 139, [], 0) else none)
  else (bif Nat.ble pc 139 then (bif Nat.beq pc 139 then some (.iaload, 1, 140, [], 0) else none)
  else (bif Nat.beq pc 140 then some (.bipush 10, 2, 142, [], 10) else none))) : nk_F) pc) : nk_F) pc
  else ((fun pc => bif Nat.ble pc 144 then ((fun pc => bif Nat.ble pc 142 then (bif Nat.beq pc 142 then some (.idiv, 1, 143, [], 0) else none)
  else (bif Nat.ble pc 143 then (bif Nat.beq pc 143 then some (.iadd, 1, 144, [], 0) else none)
  else (bif Nat.beq pc 144 then some (.isub, 1, 145, [], 0) else none))) : nk_F) pc
  else ((fun pc => bif Nat.ble pc 145 then (bif Nat.beq pc 145 then some (.putfield 61, 3, 148, [], 0) else none)
  else (bif Nat.ble pc 148 then (bif Nat.beq pc 148 then some (.iconst 1, 1, 149, [], 1) else none)
  else (bif Nat.beq pc 149 then some (.ireturn, 1, 150, [], 0) else none))) : nk_F) pc) : nk_F) pc) : nk_F) pc) : nk_F) pc) : nk_F) pc
noncomputable def kc_X5_undo : Nat → Option nk_I := nk_top 150 kt_X5_undo
noncomputable def kx_X5_undo : nk_T := ([(21, 5, 2, 4), (41, 5, 5, 4), (225, 0, 14, 0), (179, 0, 3, 5), (185, 0, 5, 5), (61, 5, 10, 0)], [(704, 2, 6, 0, 0, ev_X5_isStory), (338, 2, 0, 0, 0, ev_X5_within), (608, 3, 5, 0, 0, ev_X4_ofMaking), (632, 2, 6, 0, 0, ev_X5_standBehind), (648, 2, 1, 0, 0, ev_X0_meet), (660, 1, 1, 0, 0, ev_X0_someCame), (948, 3, 1, 0, 0, ev_X0_go), (960, 3, 1, 0, 0, ev_X0_namesPartOf)], [], [], [], [], [], 1, false, 0, 0)
noncomputable def ev_X5_undo : nk_Ev := fun as h Q => nk_if (Nat.ble (nk_wd as) 6) (nk_ev kx_X5_undo kc_X5_undo 6 as h Q)
set_option maxRecDepth 100000 in
theorem ck_X5_undo : nk_chk cX5_undo kc_X5_undo 150 = true := nd_chk (by decide +kernel) (by decide +kernel)
set_option maxRecDepth 100000 in
set_option maxHeartbeats 4000000 in
theorem ca_X5_undo_704 (l : Launch) : nk_CallOk l { frames := 6, cells := 0, slots := 0, locals := 149 } RX5 cX5_undo 6 false 704 (2, 6, 0, 0, ev_X5_isStory) := nk_callV (x := 176) (n := 1) (ci := 5) (r := (RX5, TX5, 13)) (mt_X5_isStory l) rfl (nk_msc [(2, 200), (2, 201), (2, 202), (2, 203), (0, 17), (1, 1)] (by decide +kernel)) rfl rfl (by decide +kernel) ⟨by decide, by decide⟩
set_option maxRecDepth 100000 in
set_option maxHeartbeats 4000000 in
theorem ca_X5_undo_338 (l : Launch) : nk_CallOk l { frames := 6, cells := 0, slots := 0, locals := 149 } RX5 cX5_undo 6 false 338 (2, 0, 0, 0, ev_X5_within) := nk_callS (x := 84) (n := 2) (mt_X5_within l) (nk_msc [(1, 199), (1, 200), (1, 201), (1, 1)] (by decide +kernel)) rfl rfl (by decide +kernel) ⟨by decide, by decide⟩
set_option maxRecDepth 100000 in
set_option maxHeartbeats 4000000 in
theorem ca_X5_undo_608 (l : Launch) : nk_CallOk l { frames := 6, cells := 0, slots := 0, locals := 149 } RX5 cX5_undo 6 false 608 (3, 5, 0, 0, ev_X4_ofMaking) := nk_callV (x := 152) (n := 2) (ci := 4) (r := (RX4, TX4, 4)) (mt_X4_ofMaking l) rfl (nk_msc [(2, 78), (2, 79), (2, 80), (2, 81), (1, 2)] (by decide +kernel)) rfl rfl (by decide +kernel) ⟨by decide, by decide⟩
set_option maxRecDepth 100000 in
set_option maxHeartbeats 4000000 in
theorem ca_X5_undo_632 (l : Launch) : nk_CallOk l { frames := 6, cells := 0, slots := 0, locals := 149 } RX5 cX5_undo 6 false 632 (2, 6, 0, 0, ev_X5_standBehind) := nk_callV (x := 158) (n := 1) (ci := 5) (r := (RX5, TX5, 13)) (mt_X5_standBehind l) rfl (nk_msc [(2, 89), (2, 90), (2, 91), (2, 92), (0, 6), (1, 1)] (by decide +kernel)) rfl rfl (by decide +kernel) ⟨by decide, by decide⟩
set_option maxRecDepth 100000 in
set_option maxHeartbeats 4000000 in
theorem ca_X5_undo_648 (l : Launch) : nk_CallOk l { frames := 6, cells := 0, slots := 0, locals := 149 } RX5 cX5_undo 6 false 648 (2, 1, 0, 0, ev_X0_meet) := nk_callV (x := 162) (n := 1) (ci := 0) (r := (RX0, TX0, 15)) (mt_X0_meet l) rfl (nk_msc [(2, 164), (2, 111), (2, 112), (2, 113), (1, 4)] (by decide +kernel)) rfl rfl (by decide +kernel) ⟨by decide, by decide⟩
set_option maxRecDepth 100000 in
set_option maxHeartbeats 4000000 in
theorem ca_X5_undo_660 (l : Launch) : nk_CallOk l { frames := 6, cells := 0, slots := 0, locals := 149 } RX5 cX5_undo 6 false 660 (1, 1, 0, 0, ev_X0_someCame) := nk_callV (x := 165) (n := 0) (ci := 0) (r := (RX0, TX0, 15)) (mt_X0_someCame l) rfl (nk_msc [(2, 165), (2, 137), (2, 138), (2, 139), (1, 4)] (by decide +kernel)) rfl rfl (by decide +kernel) ⟨by decide, by decide⟩
set_option maxRecDepth 100000 in
set_option maxHeartbeats 4000000 in
theorem ca_X5_undo_948 (l : Launch) : nk_CallOk l { frames := 6, cells := 0, slots := 0, locals := 149 } RX5 cX5_undo 6 false 948 (3, 1, 0, 0, ev_X0_go) := nk_callV (x := 237) (n := 2) (ci := 0) (r := (RX0, TX0, 15)) (mt_X0_go l) rfl (nk_msc [(2, 102), (2, 103), (2, 104), (2, 105), (1, 4)] (by decide +kernel)) rfl rfl (by decide +kernel) ⟨by decide, by decide⟩
set_option maxRecDepth 100000 in
set_option maxHeartbeats 4000000 in
theorem ca_X5_undo_960 (l : Launch) : nk_CallOk l { frames := 6, cells := 0, slots := 0, locals := 149 } RX5 cX5_undo 6 false 960 (3, 1, 0, 0, ev_X0_namesPartOf) := nk_callV (x := 240) (n := 2) (ci := 0) (r := (RX0, TX0, 15)) (mt_X0_namesPartOf l) rfl (nk_msc [(3, 18), (3, 19), (3, 20), (3, 21), (1, 4)] (by decide +kernel)) rfl rfl (by decide +kernel) ⟨by decide, by decide⟩
set_option maxRecDepth 100000 in
set_option maxHeartbeats 4000000 in
theorem mt_X5_undo (l : Launch) : nk_Met l yX5_undo cX5_undo 6 (some .int) { frames := 6, cells := 0, slots := 0, locals := 149 } false 0 0 ev_X5_undo :=
  nk_met nk_gok (plainFor_of_name (by decide)) ck_X5_undo (nk_top_out 150 kt_X5_undo) ⟨List.forall_mem_cons.mpr ⟨nk_fkc [(1, 153)] (by decide +kernel), List.forall_mem_cons.mpr ⟨nk_fkc [(1, 156)] (by decide +kernel), List.forall_mem_cons.mpr ⟨nk_fkc [(1, 84)] (by decide +kernel), List.forall_mem_cons.mpr ⟨nk_fkc [(1, 64)] (by decide +kernel), List.forall_mem_cons.mpr ⟨nk_fkc [(1, 68)] (by decide +kernel), List.forall_mem_cons.mpr ⟨nk_fkc [(1, 161)] (by decide +kernel), fun _ h => absurd h List.not_mem_nil⟩⟩⟩⟩⟩⟩, List.forall_mem_cons.mpr ⟨ca_X5_undo_704 l, List.forall_mem_cons.mpr ⟨ca_X5_undo_338 l, List.forall_mem_cons.mpr ⟨ca_X5_undo_608 l, List.forall_mem_cons.mpr ⟨ca_X5_undo_632 l, List.forall_mem_cons.mpr ⟨ca_X5_undo_648 l, List.forall_mem_cons.mpr ⟨ca_X5_undo_660 l, List.forall_mem_cons.mpr ⟨ca_X5_undo_948 l, List.forall_mem_cons.mpr ⟨ca_X5_undo_960 l, fun _ h => absurd h List.not_mem_nil⟩⟩⟩⟩⟩⟩⟩⟩, fun _ h => absurd h List.not_mem_nil, fun _ h => absurd h List.not_mem_nil, fun _ h => absurd h List.not_mem_nil, fun _ h => absurd h List.not_mem_nil, fun _ h => absurd h List.not_mem_nil, by decide, rfl, rfl⟩ rfl (by decide)
/-! MarbleLaw.answersByWhichHas(IIII)I -/
noncomputable def kt_X5_answersByWhichHas : Nat → Option nk_I := fun pc => bif Nat.ble pc 28 then ((fun pc => bif Nat.ble pc 13 then ((fun pc => bif Nat.ble pc 4 then ((fun pc => bif Nat.ble pc 1 then (bif Nat.ble pc 0 then (bif Nat.beq pc 0 then some (.iconst 0, 1, 1, [], 0) else none)
  else (bif Nat.beq pc 1 then some (.istore 5, 2, 3, [], 0) else none))
  else (bif Nat.ble pc 3 then (bif Nat.beq pc 3 then some (.iconst 0, 1, 4, [], 0) else none)
  else (bif Nat.beq pc 4 then some (.istore 6, 2, 6, [], 0) else none))) : nk_F) pc
  else ((fun pc => bif Nat.ble pc 8 then (bif Nat.ble pc 6 then (bif Nat.beq pc 6 then some (.iload 6, 2, 8, [], 0) else none)
  else (bif Nat.beq pc 8 then some (.bipush 16, 2, 10, [], 16) else none))
  else (bif Nat.ble pc 10 then (bif Nat.beq pc 10 then some (.if_icmp .ge 52, 3, 13, [62], 0) else none)
  else (bif Nat.beq pc 13 then some (.aload_n 0, 1, 14, [], 0) else none))) : nk_F) pc) : nk_F) pc
  else ((fun pc => bif Nat.ble pc 17 then ((fun pc => bif Nat.ble pc 15 then (bif Nat.ble pc 14 then (bif Nat.beq pc 14 then some (.iload_n 1, 1, 15, [], 0) else none)
  else (bif Nat.beq pc 15 then some (.iload_n 2, 1, 16, [], 0) else none))
  else (bif Nat.ble pc 16 then (bif Nat.beq pc 16 then some (.iload_n 3, 1, 17, [], 0) else none)
  else (bif Nat.beq pc 17 then some (.iload 6, 2, 19, [], 0) else none))) : nk_F) pc
  else ((fun pc => bif Nat.ble pc 21 then (bif Nat.ble pc 19 then (bif Nat.beq pc 19 then some (.iload 4, 2, 21, [], 0) else none)
  else (bif Nat.beq pc 21 then some (.invokevirtual 194, 3, 24, [], 0) else none))
  else ((fun pc => bif Nat.ble pc 24 then (bif Nat.beq pc 24 then some (.istore 7, 2, 26, [], 0) else none)
  else (bif Nat.ble pc 26 then (bif Nat.beq pc 26 then some (.iload 7, 2, 28, [], 0) else none)
  else (bif Nat.beq pc 28 then some (.ifCond .eq 6, 3, 31, [34], 0) else none))) : nk_F) pc) : nk_F) pc) : nk_F) pc) : nk_F) pc
  else ((fun pc => bif Nat.ble pc 47 then ((fun pc => bif Nat.ble pc 35 then ((fun pc => bif Nat.ble pc 33 then (bif Nat.ble pc 31 then (bif Nat.beq pc 31 then some (.iload 7, 2, 33, [], 0) else none)
  else (bif Nat.beq pc 33 then some (.ireturn, 1, 34, [], 0) else none))
  else (bif Nat.ble pc 34 then (bif Nat.beq pc 34 then some (.aload_n 0, 1, 35, [], 0) else none)
  else (bif Nat.beq pc 35 then some (.getfield 41, 3, 38, [], 0) else none))) : nk_F) pc
  else ((fun pc => bif Nat.ble pc 39 then (bif Nat.ble pc 38 then (bif Nat.beq pc 38 then some (.iload_n 2, 1, 39, [], 0) else none)
  else (bif Nat.beq pc 39 then some (.iload 4, 2, 41, [], 0) else none))
  else ((fun pc => bif Nat.ble pc 41 then (bif Nat.beq pc 41 then some (.invokevirtual 209, 3, 44, [], 0) else none)
  else (bif Nat.ble pc 44 then (bif Nat.beq pc 44 then some (.ifCond .eq 12, 3, 47, [56], 0) else none)
  else (bif Nat.beq pc 47 then some (.iload 5, 2, 49, [], 0) else none))) : nk_F) pc) : nk_F) pc) : nk_F) pc
  else ((fun pc => bif Nat.ble pc 53 then ((fun pc => bif Nat.ble pc 50 then (bif Nat.ble pc 49 then (bif Nat.beq pc 49 then some (.iconst 1, 1, 50, [], 1) else none)
  else (bif Nat.beq pc 50 then some (.iload 6, 2, 52, [], 0) else none))
  else (bif Nat.ble pc 52 then (bif Nat.beq pc 52 then some (.ishl, 1, 53, [], 0) else none)
  else (bif Nat.beq pc 53 then some (.ior, 1, 54, [], 0) else none))) : nk_F) pc
  else ((fun pc => bif Nat.ble pc 56 then (bif Nat.ble pc 54 then (bif Nat.beq pc 54 then some (.istore 5, 2, 56, [], 0) else none)
  else (bif Nat.beq pc 56 then some (.iinc 6 1, 3, 59, [], 1) else none))
  else ((fun pc => bif Nat.ble pc 59 then (bif Nat.beq pc 59 then some (.goto (-53), 3, 62, [6], 0) else none)
  else (bif Nat.ble pc 62 then (bif Nat.beq pc 62 then some (.iload 5, 2, 64, [], 0) else none)
  else (bif Nat.beq pc 64 then some (.ireturn, 1, 65, [], 0) else none))) : nk_F) pc) : nk_F) pc) : nk_F) pc) : nk_F) pc
noncomputable def kc_X5_answersByWhichHas : Nat → Option nk_I := nk_top 65 kt_X5_answersByWhichHas
noncomputable def kx_X5_answersByWhichHas : nk_T := ([(41, 5, 5, 4)], [(776, 6, 6, 0, 0, ev_X5_refusalOfParts), (836, 3, 1, 0, 0, ev_X0_hasSome)], [], [], [], [], [], 1, false, 0, 0)
noncomputable def ev_X5_answersByWhichHas : nk_Ev := fun as h Q => nk_if (Nat.ble (nk_wd as) 8) (nk_ev kx_X5_answersByWhichHas kc_X5_answersByWhichHas 8 as h Q)
set_option maxRecDepth 100000 in
theorem ck_X5_answersByWhichHas : nk_chk cX5_answersByWhichHas kc_X5_answersByWhichHas 65 = true := nd_chk (by decide +kernel) (by decide +kernel)
set_option maxRecDepth 100000 in
set_option maxHeartbeats 4000000 in
theorem ca_X5_answersByWhichHas_776 (l : Launch) : nk_CallOk l { frames := 6, cells := 0, slots := 0, locals := 153 } RX5 cX5_answersByWhichHas 8 false 776 (6, 6, 0, 0, ev_X5_refusalOfParts) := nk_callV (x := 194) (n := 5) (ci := 5) (r := (RX5, TX5, 13)) (mt_X5_refusalOfParts l) rfl (nk_msc [(2, 216), (2, 217), (2, 218), (2, 219), (0, 18), (1, 1)] (by decide +kernel)) rfl rfl (by decide +kernel) ⟨by decide, by decide⟩
set_option maxRecDepth 100000 in
set_option maxHeartbeats 4000000 in
theorem ca_X5_answersByWhichHas_836 (l : Launch) : nk_CallOk l { frames := 6, cells := 0, slots := 0, locals := 153 } RX5 cX5_answersByWhichHas 8 false 836 (3, 1, 0, 0, ev_X0_hasSome) := nk_callV (x := 209) (n := 2) (ci := 0) (r := (RX0, TX0, 15)) (mt_X0_hasSome l) rfl (nk_msc [(2, 229), (2, 230), (2, 231), (2, 232), (1, 4)] (by decide +kernel)) rfl rfl (by decide +kernel) ⟨by decide, by decide⟩
set_option maxRecDepth 100000 in
set_option maxHeartbeats 4000000 in
theorem mt_X5_answersByWhichHas (l : Launch) : nk_Met l yX5_answersByWhichHas cX5_answersByWhichHas 8 (some .int) { frames := 6, cells := 0, slots := 0, locals := 153 } false 0 0 ev_X5_answersByWhichHas :=
  nk_met nk_gok (plainFor_of_name (by decide)) ck_X5_answersByWhichHas (nk_top_out 65 kt_X5_answersByWhichHas) ⟨List.forall_mem_cons.mpr ⟨nk_fkc [(1, 156)] (by decide +kernel), fun _ h => absurd h List.not_mem_nil⟩, List.forall_mem_cons.mpr ⟨ca_X5_answersByWhichHas_776 l, List.forall_mem_cons.mpr ⟨ca_X5_answersByWhichHas_836 l, fun _ h => absurd h List.not_mem_nil⟩⟩, fun _ h => absurd h List.not_mem_nil, fun _ h => absurd h List.not_mem_nil, fun _ h => absurd h List.not_mem_nil, fun _ h => absurd h List.not_mem_nil, fun _ h => absurd h List.not_mem_nil, by decide, rfl, rfl⟩ rfl (by decide)
/-! MarbleLaw.sure(IIII)I -/
noncomputable def kt_X5_sure : Nat → Option nk_I := fun pc => bif Nat.ble pc 18 then ((fun pc => bif Nat.ble pc 4 then ((fun pc => bif Nat.ble pc 1 then (bif Nat.ble pc 0 then (bif Nat.beq pc 0 then some (.aload_n 0, 1, 1, [], 0) else none)
  else (bif Nat.beq pc 1 then some (.iload_n 1, 1, 2, [], 0) else none))
  else ((fun pc => bif Nat.ble pc 2 then (bif Nat.beq pc 2 then some (.iload_n 2, 1, 3, [], 0) else none)
  else (bif Nat.ble pc 3 then (bif Nat.beq pc 3 then some (.iload_n 3, 1, 4, [], 0) else none)
  else (bif Nat.beq pc 4 then some (.iload 4, 2, 6, [], 0) else none))) : nk_F) pc) : nk_F) pc
  else ((fun pc => bif Nat.ble pc 11 then ((fun pc => bif Nat.ble pc 6 then (bif Nat.beq pc 6 then some (.invokevirtual 243, 3, 9, [], 0) else none)
  else (bif Nat.ble pc 9 then (bif Nat.beq pc 9 then some (.istore 5, 2, 11, [], 0) else none)
  else (bif Nat.beq pc 11 then some (.iload 5, 2, 13, [], 0) else none))) : nk_F) pc
  else ((fun pc => bif Nat.ble pc 13 then (bif Nat.beq pc 13 then some (.ifCond .ge 6, 3, 16, [19], 0) else none)
  else (bif Nat.ble pc 16 then (bif Nat.beq pc 16 then some (.iload 5, 2, 18, [], 0) else none)
  else (bif Nat.beq pc 18 then some (.ireturn, 1, 19, [], 0) else none))) : nk_F) pc) : nk_F) pc) : nk_F) pc
  else ((fun pc => bif Nat.ble pc 26 then ((fun pc => bif Nat.ble pc 21 then (bif Nat.ble pc 19 then (bif Nat.beq pc 19 then some (.iload 5, 2, 21, [], 0) else none)
  else (bif Nat.beq pc 21 then some (.ifCond .ne 5, 3, 24, [26], 0) else none))
  else ((fun pc => bif Nat.ble pc 24 then (bif Nat.beq pc 24 then some (.iconst 0, 1, 25, [], 0) else none)
  else (bif Nat.ble pc 25 then (bif Nat.beq pc 25 then some (.ireturn, 1, 26, [], 0) else none)
  else (bif Nat.beq pc 26 then some (.iload 5, 2, 28, [], 0) else none))) : nk_F) pc) : nk_F) pc
  else ((fun pc => bif Nat.ble pc 33 then ((fun pc => bif Nat.ble pc 28 then (bif Nat.beq pc 28 then some (.ldc 246, 2, 30, [], 0) else none)
  else (bif Nat.ble pc 30 then (bif Nat.beq pc 30 then some (.if_icmp .ne 7, 3, 33, [37], 0) else none)
  else (bif Nat.beq pc 33 then some (.iconst 2, 1, 34, [], 2) else none))) : nk_F) pc
  else ((fun pc => bif Nat.ble pc 34 then (bif Nat.beq pc 34 then some (.goto 4, 3, 37, [38], 0) else none)
  else (bif Nat.ble pc 37 then (bif Nat.beq pc 37 then some (.iconst 1, 1, 38, [], 1) else none)
  else (bif Nat.beq pc 38 then some (.ireturn, 1, 39, [], 0) else none))) : nk_F) pc) : nk_F) pc) : nk_F) pc
noncomputable def kc_X5_sure : Nat → Option nk_I := nk_top 39 kt_X5_sure
noncomputable def kx_X5_sure : nk_T := ([], [(972, 5, 6, 0, 0, ev_X5_answersByWhichHas)], [(246, 65535)], [], [], [], [], 1, false, 0, 0)
noncomputable def ev_X5_sure : nk_Ev := fun as h Q => nk_if (Nat.ble (nk_wd as) 6) (nk_ev kx_X5_sure kc_X5_sure 6 as h Q)
set_option maxRecDepth 100000 in
theorem ck_X5_sure : nk_chk cX5_sure kc_X5_sure 39 = true := nd_chk (by decide +kernel) (by decide +kernel)
set_option maxRecDepth 100000 in
set_option maxHeartbeats 4000000 in
theorem ca_X5_sure_972 (l : Launch) : nk_CallOk l { frames := 7, cells := 0, slots := 0, locals := 180 } RX5 cX5_sure 6 false 972 (5, 6, 0, 0, ev_X5_answersByWhichHas) := nk_callV (x := 243) (n := 4) (ci := 5) (r := (RX5, TX5, 13)) (mt_X5_answersByWhichHas l) rfl (nk_msc [(3, 26), (3, 27), (3, 28), (3, 29), (0, 20), (1, 1)] (by decide +kernel)) rfl rfl (by decide +kernel) ⟨by decide, by decide⟩
set_option maxRecDepth 100000 in
set_option maxHeartbeats 4000000 in
theorem mt_X5_sure (l : Launch) : nk_Met l yX5_sure cX5_sure 6 (some .int) { frames := 7, cells := 0, slots := 0, locals := 180 } false 0 0 ev_X5_sure :=
  nk_met nk_gok (plainFor_of_name (by decide)) ck_X5_sure (nk_top_out 39 kt_X5_sure) ⟨fun _ h => absurd h List.not_mem_nil, List.forall_mem_cons.mpr ⟨ca_X5_sure_972 l, fun _ h => absurd h List.not_mem_nil⟩, List.forall_mem_cons.mpr ⟨nk_mc [(3, 30)] (by decide +kernel), fun _ h => absurd h List.not_mem_nil⟩, fun _ h => absurd h List.not_mem_nil, fun _ h => absurd h List.not_mem_nil, fun _ h => absurd h List.not_mem_nil, fun _ h => absurd h List.not_mem_nil, by decide, rfl, rfl⟩ rfl (by decide)
/-! java/lang/Integer.bitCount(I)I -/
noncomputable def kt_J6_bitCount_0f7a4 : Nat → Option nk_I := fun pc => bif Nat.ble pc 26 then ((fun pc => bif Nat.ble pc 11 then ((fun pc => bif Nat.ble pc 4 then ((fun pc => bif Nat.ble pc 1 then (bif Nat.ble pc 0 then (bif Nat.beq pc 0 then some (.iload_n 0, 1, 1, [], 0) else none)
  else (bif Nat.beq pc 1 then some (.iload_n 0, 1, 2, [], 0) else none))
  else ((fun pc => bif Nat.ble pc 2 then (bif Nat.beq pc 2 then some (.iconst 1, 1, 3, [], 1) else none)
  else (bif Nat.ble pc 3 then (bif Nat.beq pc 3 then some (.iushr, 1, 4, [], 0) else none)
  else (bif Nat.beq pc 4 then some (.ldc_w 265, 3, 7, [], 0) else none))) : nk_F) pc) : nk_F) pc
  else ((fun pc => bif Nat.ble pc 8 then (bif Nat.ble pc 7 then (bif Nat.beq pc 7 then some (.iand, 1, 8, [], 0) else none)
  else (bif Nat.beq pc 8 then some (.isub, 1, 9, [], 0) else none))
  else ((fun pc => bif Nat.ble pc 9 then (bif Nat.beq pc 9 then some (.istore_n 0, 1, 10, [], 0) else none)
  else (bif Nat.ble pc 10 then (bif Nat.beq pc 10 then some (.iload_n 0, 1, 11, [], 0) else none)
  else (bif Nat.beq pc 11 then some (.ldc_w 266, 3, 14, [], 0) else none))) : nk_F) pc) : nk_F) pc) : nk_F) pc
  else ((fun pc => bif Nat.ble pc 18 then ((fun pc => bif Nat.ble pc 15 then (bif Nat.ble pc 14 then (bif Nat.beq pc 14 then some (.iand, 1, 15, [], 0) else none)
  else (bif Nat.beq pc 15 then some (.iload_n 0, 1, 16, [], 0) else none))
  else ((fun pc => bif Nat.ble pc 16 then (bif Nat.beq pc 16 then some (.iconst 2, 1, 17, [], 2) else none)
  else (bif Nat.ble pc 17 then (bif Nat.beq pc 17 then some (.iushr, 1, 18, [], 0) else none)
  else (bif Nat.beq pc 18 then some (.ldc_w 266, 3, 21, [], 0) else none))) : nk_F) pc) : nk_F) pc
  else ((fun pc => bif Nat.ble pc 23 then ((fun pc => bif Nat.ble pc 21 then (bif Nat.beq pc 21 then some (.iand, 1, 22, [], 0) else none)
  else (bif Nat.ble pc 22 then (bif Nat.beq pc 22 then some (.iadd, 1, 23, [], 0) else none)
  else (bif Nat.beq pc 23 then some (.istore_n 0, 1, 24, [], 0) else none))) : nk_F) pc
  else ((fun pc => bif Nat.ble pc 24 then (bif Nat.beq pc 24 then some (.iload_n 0, 1, 25, [], 0) else none)
  else (bif Nat.ble pc 25 then (bif Nat.beq pc 25 then some (.iload_n 0, 1, 26, [], 0) else none)
  else (bif Nat.beq pc 26 then some (.iconst 4, 1, 27, [], 4) else none))) : nk_F) pc) : nk_F) pc) : nk_F) pc) : nk_F) pc
  else ((fun pc => bif Nat.ble pc 39 then ((fun pc => bif Nat.ble pc 33 then ((fun pc => bif Nat.ble pc 28 then (bif Nat.ble pc 27 then (bif Nat.beq pc 27 then some (.iushr, 1, 28, [], 0) else none)
  else (bif Nat.beq pc 28 then some (.iadd, 1, 29, [], 0) else none))
  else ((fun pc => bif Nat.ble pc 29 then (bif Nat.beq pc 29 then some (.ldc_w 267, 3, 32, [], 0) else none)
  else (bif Nat.ble pc 32 then (bif Nat.beq pc 32 then some (.iand, 1, 33, [], 0) else none)
  else (bif Nat.beq pc 33 then some (.istore_n 0, 1, 34, [], 0) else none))) : nk_F) pc) : nk_F) pc
  else ((fun pc => bif Nat.ble pc 35 then (bif Nat.ble pc 34 then (bif Nat.beq pc 34 then some (.iload_n 0, 1, 35, [], 0) else none)
  else (bif Nat.beq pc 35 then some (.iload_n 0, 1, 36, [], 0) else none))
  else ((fun pc => bif Nat.ble pc 36 then (bif Nat.beq pc 36 then some (.bipush 8, 2, 38, [], 8) else none)
  else (bif Nat.ble pc 38 then (bif Nat.beq pc 38 then some (.iushr, 1, 39, [], 0) else none)
  else (bif Nat.beq pc 39 then some (.iadd, 1, 40, [], 0) else none))) : nk_F) pc) : nk_F) pc) : nk_F) pc
  else ((fun pc => bif Nat.ble pc 45 then ((fun pc => bif Nat.ble pc 41 then (bif Nat.ble pc 40 then (bif Nat.beq pc 40 then some (.istore_n 0, 1, 41, [], 0) else none)
  else (bif Nat.beq pc 41 then some (.iload_n 0, 1, 42, [], 0) else none))
  else ((fun pc => bif Nat.ble pc 42 then (bif Nat.beq pc 42 then some (.iload_n 0, 1, 43, [], 0) else none)
  else (bif Nat.ble pc 43 then (bif Nat.beq pc 43 then some (.bipush 16, 2, 45, [], 16) else none)
  else (bif Nat.beq pc 45 then some (.iushr, 1, 46, [], 0) else none))) : nk_F) pc) : nk_F) pc
  else ((fun pc => bif Nat.ble pc 48 then ((fun pc => bif Nat.ble pc 46 then (bif Nat.beq pc 46 then some (.iadd, 1, 47, [], 0) else none)
  else (bif Nat.ble pc 47 then (bif Nat.beq pc 47 then some (.istore_n 0, 1, 48, [], 0) else none)
  else (bif Nat.beq pc 48 then some (.iload_n 0, 1, 49, [], 0) else none))) : nk_F) pc
  else ((fun pc => bif Nat.ble pc 49 then (bif Nat.beq pc 49 then some (.bipush 63, 2, 51, [], 63) else none)
  else (bif Nat.ble pc 51 then (bif Nat.beq pc 51 then some (.iand, 1, 52, [], 0) else none)
  else (bif Nat.beq pc 52 then some (.ireturn, 1, 53, [], 0) else none))) : nk_F) pc) : nk_F) pc) : nk_F) pc) : nk_F) pc
noncomputable def kc_J6_bitCount_0f7a4 : Nat → Option nk_I := nk_top 53 kt_J6_bitCount_0f7a4
noncomputable def kx_J6_bitCount_0f7a4 : nk_T := ([], [], [(265, 1431655765), (266, 858993459), (267, 252645135)], [], [], [], [], 1, false, 0, 0)
noncomputable def ev_J6_bitCount_0f7a4 : nk_Ev := fun as h Q => nk_if (Nat.ble (nk_wd as) 1) (nk_ev kx_J6_bitCount_0f7a4 kc_J6_bitCount_0f7a4 1 as h Q)
set_option maxRecDepth 100000 in
theorem ck_J6_bitCount_0f7a4 : nk_chk cJ6_bitCount_0f7a4 kc_J6_bitCount_0f7a4 53 = true := nd_chk (by decide +kernel) (by decide +kernel)
set_option maxRecDepth 100000 in
set_option maxHeartbeats 4000000 in
theorem mt_J6_bitCount_0f7a4 (l : Launch) : nk_Met l yJ6_bitCount_0f7a4 cJ6_bitCount_0f7a4 1 (some .int) { frames := 0, cells := 0, slots := 0, locals := 0 } false 0 0 ev_J6_bitCount_0f7a4 :=
  nk_met nk_gok (by decide +kernel) ck_J6_bitCount_0f7a4 (nk_top_out 53 kt_J6_bitCount_0f7a4) ⟨fun _ h => absurd h List.not_mem_nil, fun _ h => absurd h List.not_mem_nil, List.forall_mem_cons.mpr ⟨nk_mc [(3, 38)] (by decide +kernel), List.forall_mem_cons.mpr ⟨nk_mc [(3, 39)] (by decide +kernel), List.forall_mem_cons.mpr ⟨nk_mc [(3, 40)] (by decide +kernel), fun _ h => absurd h List.not_mem_nil⟩⟩⟩, fun _ h => absurd h List.not_mem_nil, fun _ h => absurd h List.not_mem_nil, fun _ h => absurd h List.not_mem_nil, fun _ h => absurd h List.not_mem_nil, by decide, rfl, rfl⟩ rfl (by decide)
/-! MarbleLaw.decide(II)Z -/
noncomputable def kt_X5_decide : Nat → Option nk_I := fun pc => bif Nat.ble pc 14 then ((fun pc => bif Nat.ble pc 8 then ((fun pc => bif Nat.ble pc 2 then ((fun pc => bif Nat.ble pc 0 then (bif Nat.beq pc 0 then some (.iconst 0, 1, 1, [], 0) else none)
  else (bif Nat.ble pc 1 then (bif Nat.beq pc 1 then some (.istore_n 2, 1, 2, [], 0) else none)
  else (bif Nat.beq pc 2 then some (.iload_n 2, 1, 3, [], 0) else none))) : nk_F) pc
  else ((fun pc => bif Nat.ble pc 3 then (bif Nat.beq pc 3 then some (.bipush 16, 2, 5, [], 16) else none)
  else (bif Nat.ble pc 5 then (bif Nat.beq pc 5 then some (.if_icmp .ge 26, 3, 8, [31], 0) else none)
  else (bif Nat.beq pc 8 then some (.iload_n 1, 1, 9, [], 0) else none))) : nk_F) pc) : nk_F) pc
  else ((fun pc => bif Nat.ble pc 11 then ((fun pc => bif Nat.ble pc 9 then (bif Nat.beq pc 9 then some (.iload_n 2, 1, 10, [], 0) else none)
  else (bif Nat.ble pc 10 then (bif Nat.beq pc 10 then some (.ishr, 1, 11, [], 0) else none)
  else (bif Nat.beq pc 11 then some (.iconst 1, 1, 12, [], 1) else none))) : nk_F) pc
  else ((fun pc => bif Nat.ble pc 12 then (bif Nat.beq pc 12 then some (.iand, 1, 13, [], 0) else none)
  else (bif Nat.ble pc 13 then (bif Nat.beq pc 13 then some (.iload_n 1, 1, 14, [], 0) else none)
  else (bif Nat.beq pc 14 then some (.iload_n 2, 1, 15, [], 0) else none))) : nk_F) pc) : nk_F) pc) : nk_F) pc
  else ((fun pc => bif Nat.ble pc 20 then ((fun pc => bif Nat.ble pc 17 then ((fun pc => bif Nat.ble pc 15 then (bif Nat.beq pc 15 then some (.iload_n 0, 1, 16, [], 0) else none)
  else (bif Nat.ble pc 16 then (bif Nat.beq pc 16 then some (.iand, 1, 17, [], 0) else none)
  else (bif Nat.beq pc 17 then some (.ishr, 1, 18, [], 0) else none))) : nk_F) pc
  else ((fun pc => bif Nat.ble pc 18 then (bif Nat.beq pc 18 then some (.iconst 1, 1, 19, [], 1) else none)
  else (bif Nat.ble pc 19 then (bif Nat.beq pc 19 then some (.iand, 1, 20, [], 0) else none)
  else (bif Nat.beq pc 20 then some (.if_icmp .eq 5, 3, 23, [25], 0) else none))) : nk_F) pc) : nk_F) pc
  else ((fun pc => bif Nat.ble pc 25 then ((fun pc => bif Nat.ble pc 23 then (bif Nat.beq pc 23 then some (.iconst 0, 1, 24, [], 0) else none)
  else (bif Nat.ble pc 24 then (bif Nat.beq pc 24 then some (.ireturn, 1, 25, [], 0) else none)
  else (bif Nat.beq pc 25 then some (.iinc 2 1, 3, 28, [], 1) else none))) : nk_F) pc
  else ((fun pc => bif Nat.ble pc 28 then (bif Nat.beq pc 28 then some (.goto (-26), 3, 31, [2], 0) else none)
  else (bif Nat.ble pc 31 then (bif Nat.beq pc 31 then some (.iconst 1, 1, 32, [], 1) else none)
  else (bif Nat.beq pc 32 then some (.ireturn, 1, 33, [], 0) else none))) : nk_F) pc) : nk_F) pc) : nk_F) pc
noncomputable def kc_X5_decide : Nat → Option nk_I := nk_top 33 kt_X5_decide
noncomputable def kx_X5_decide : nk_T := ([], [], [], [], [], [], [], 2, false, 0, 0)
noncomputable def ev_X5_decide : nk_Ev := fun as h Q => nk_if (Nat.ble (nk_wd as) 3) (nk_ev kx_X5_decide kc_X5_decide 3 as h Q)
set_option maxRecDepth 100000 in
theorem ck_X5_decide : nk_chk cX5_decide kc_X5_decide 33 = true := nd_chk (by decide +kernel) (by decide +kernel)
set_option maxRecDepth 100000 in
set_option maxHeartbeats 4000000 in
theorem mt_X5_decide (l : Launch) : nk_Met l yX5_decide cX5_decide 3 (some .boolean) { frames := 0, cells := 0, slots := 0, locals := 0 } false 0 0 ev_X5_decide :=
  nk_met nk_gok (plainFor_of_name (by decide)) ck_X5_decide (nk_top_out 33 kt_X5_decide) ⟨fun _ h => absurd h List.not_mem_nil, fun _ h => absurd h List.not_mem_nil, fun _ h => absurd h List.not_mem_nil, fun _ h => absurd h List.not_mem_nil, fun _ h => absurd h List.not_mem_nil, fun _ h => absurd h List.not_mem_nil, fun _ h => absurd h List.not_mem_nil, by decide, rfl, rfl⟩ rfl (by decide)
/-! MarbleLaw.hangs(IIII)I -/
noncomputable def kt_X5_hangs : Nat → Option nk_I := fun pc => bif Nat.ble pc 26 then ((fun pc => bif Nat.ble pc 11 then ((fun pc => bif Nat.ble pc 3 then ((fun pc => bif Nat.ble pc 1 then (bif Nat.ble pc 0 then (bif Nat.beq pc 0 then some (.aload_n 0, 1, 1, [], 0) else none)
  else (bif Nat.beq pc 1 then some (.iload_n 1, 1, 2, [], 0) else none))
  else (bif Nat.ble pc 2 then (bif Nat.beq pc 2 then some (.iload_n 2, 1, 3, [], 0) else none)
  else (bif Nat.beq pc 3 then some (.iload_n 3, 1, 4, [], 0) else none))) : nk_F) pc
  else ((fun pc => bif Nat.ble pc 6 then (bif Nat.ble pc 4 then (bif Nat.beq pc 4 then some (.iload 4, 2, 6, [], 0) else none)
  else (bif Nat.beq pc 6 then some (.invokevirtual 243, 3, 9, [], 0) else none))
  else (bif Nat.ble pc 9 then (bif Nat.beq pc 9 then some (.istore 5, 2, 11, [], 0) else none)
  else (bif Nat.beq pc 11 then some (.iload 5, 2, 13, [], 0) else none))) : nk_F) pc) : nk_F) pc
  else ((fun pc => bif Nat.ble pc 19 then ((fun pc => bif Nat.ble pc 16 then (bif Nat.ble pc 13 then (bif Nat.beq pc 13 then some (.ifCond .ge 6, 3, 16, [19], 0) else none)
  else (bif Nat.beq pc 16 then some (.iload 5, 2, 18, [], 0) else none))
  else (bif Nat.ble pc 18 then (bif Nat.beq pc 18 then some (.ireturn, 1, 19, [], 0) else none)
  else (bif Nat.beq pc 19 then some (.bipush 15, 2, 21, [], 15) else none))) : nk_F) pc
  else ((fun pc => bif Nat.ble pc 23 then (bif Nat.ble pc 21 then (bif Nat.beq pc 21 then some (.istore 6, 2, 23, [], 0) else none)
  else (bif Nat.beq pc 23 then some (.iconst 0, 1, 24, [], 0) else none))
  else (bif Nat.ble pc 24 then (bif Nat.beq pc 24 then some (.istore 7, 2, 26, [], 0) else none)
  else (bif Nat.beq pc 26 then some (.iload 7, 2, 28, [], 0) else none))) : nk_F) pc) : nk_F) pc) : nk_F) pc
  else ((fun pc => bif Nat.ble pc 46 then ((fun pc => bif Nat.ble pc 35 then ((fun pc => bif Nat.ble pc 30 then (bif Nat.ble pc 28 then (bif Nat.beq pc 28 then some (.bipush 16, 2, 30, [], 16) else none)
  else (bif Nat.beq pc 30 then some (.if_icmp .ge 36, 3, 33, [66], 0) else none))
  else (bif Nat.ble pc 33 then (bif Nat.beq pc 33 then some (.iload 7, 2, 35, [], 0) else none)
  else (bif Nat.beq pc 35 then some (.invokestatic 247, 3, 38, [], 0) else none))) : nk_F) pc
  else ((fun pc => bif Nat.ble pc 40 then (bif Nat.ble pc 38 then (bif Nat.beq pc 38 then some (.iload 6, 2, 40, [], 0) else none)
  else (bif Nat.beq pc 40 then some (.invokestatic 247, 3, 43, [], 0) else none))
  else (bif Nat.ble pc 43 then (bif Nat.beq pc 43 then some (.if_icmp .ge 17, 3, 46, [60], 0) else none)
  else (bif Nat.beq pc 46 then some (.iload 7, 2, 48, [], 0) else none))) : nk_F) pc) : nk_F) pc
  else ((fun pc => bif Nat.ble pc 56 then ((fun pc => bif Nat.ble pc 50 then (bif Nat.ble pc 48 then (bif Nat.beq pc 48 then some (.iload 5, 2, 50, [], 0) else none)
  else (bif Nat.beq pc 50 then some (.invokestatic 252, 3, 53, [], 0) else none))
  else (bif Nat.ble pc 53 then (bif Nat.beq pc 53 then some (.ifCond .eq 7, 3, 56, [60], 0) else none)
  else (bif Nat.beq pc 56 then some (.iload 7, 2, 58, [], 0) else none))) : nk_F) pc
  else ((fun pc => bif Nat.ble pc 60 then (bif Nat.ble pc 58 then (bif Nat.beq pc 58 then some (.istore 6, 2, 60, [], 0) else none)
  else (bif Nat.beq pc 60 then some (.iinc 7 1, 3, 63, [], 1) else none))
  else ((fun pc => bif Nat.ble pc 63 then (bif Nat.beq pc 63 then some (.goto (-37), 3, 66, [26], 0) else none)
  else (bif Nat.ble pc 66 then (bif Nat.beq pc 66 then some (.iload 6, 2, 68, [], 0) else none)
  else (bif Nat.beq pc 68 then some (.ireturn, 1, 69, [], 0) else none))) : nk_F) pc) : nk_F) pc) : nk_F) pc) : nk_F) pc
noncomputable def kc_X5_hangs : Nat → Option nk_I := nk_top 69 kt_X5_hangs
noncomputable def kx_X5_hangs : nk_T := ([], [(972, 5, 6, 0, 0, ev_X5_answersByWhichHas), (990, 1, 0, 0, 0, ev_J6_bitCount_0f7a4), (1010, 2, 0, 0, 0, ev_X5_decide)], [], [], [], [], [], 1, false, 0, 0)
noncomputable def ev_X5_hangs : nk_Ev := fun as h Q => nk_if (Nat.ble (nk_wd as) 8) (nk_ev kx_X5_hangs kc_X5_hangs 8 as h Q)
set_option maxRecDepth 100000 in
theorem ck_X5_hangs : nk_chk cX5_hangs kc_X5_hangs 69 = true := nd_chk (by decide +kernel) (by decide +kernel)
set_option maxRecDepth 100000 in
set_option maxHeartbeats 4000000 in
theorem ca_X5_hangs_972 (l : Launch) : nk_CallOk l { frames := 7, cells := 0, slots := 0, locals := 180 } RX5 cX5_hangs 8 false 972 (5, 6, 0, 0, ev_X5_answersByWhichHas) := nk_callV (x := 243) (n := 4) (ci := 5) (r := (RX5, TX5, 13)) (mt_X5_answersByWhichHas l) rfl (nk_msc [(3, 26), (3, 27), (3, 28), (3, 29), (0, 20), (1, 1)] (by decide +kernel)) rfl rfl (by decide +kernel) ⟨by decide, by decide⟩
set_option maxRecDepth 100000 in
set_option maxHeartbeats 4000000 in
theorem ca_X5_hangs_990 (l : Launch) : nk_CallOk l { frames := 7, cells := 0, slots := 0, locals := 180 } RX5 cX5_hangs 8 false 990 (1, 0, 0, 0, ev_J6_bitCount_0f7a4) := nk_callS (x := 247) (n := 1) (mt_J6_bitCount_0f7a4 l) (nk_msc [(3, 35), (3, 36), (3, 37), (1, 10)] (by decide +kernel)) rfl rfl (by decide +kernel) ⟨by decide, by decide⟩
set_option maxRecDepth 100000 in
set_option maxHeartbeats 4000000 in
theorem ca_X5_hangs_1010 (l : Launch) : nk_CallOk l { frames := 7, cells := 0, slots := 0, locals := 180 } RX5 cX5_hangs 8 false 1010 (2, 0, 0, 0, ev_X5_decide) := nk_callS (x := 252) (n := 2) (mt_X5_decide l) (nk_msc [(3, 41), (3, 42), (3, 43), (1, 1)] (by decide +kernel)) rfl rfl (by decide +kernel) ⟨by decide, by decide⟩
set_option maxRecDepth 100000 in
set_option maxHeartbeats 4000000 in
theorem mt_X5_hangs (l : Launch) : nk_Met l yX5_hangs cX5_hangs 8 (some .int) { frames := 7, cells := 0, slots := 0, locals := 180 } false 0 0 ev_X5_hangs :=
  nk_met nk_gok (plainFor_of_name (by decide)) ck_X5_hangs (nk_top_out 69 kt_X5_hangs) ⟨fun _ h => absurd h List.not_mem_nil, List.forall_mem_cons.mpr ⟨ca_X5_hangs_972 l, List.forall_mem_cons.mpr ⟨ca_X5_hangs_990 l, List.forall_mem_cons.mpr ⟨ca_X5_hangs_1010 l, fun _ h => absurd h List.not_mem_nil⟩⟩⟩, fun _ h => absurd h List.not_mem_nil, fun _ h => absurd h List.not_mem_nil, fun _ h => absurd h List.not_mem_nil, fun _ h => absurd h List.not_mem_nil, fun _ h => absurd h List.not_mem_nil, by decide, rfl, rfl⟩ rfl (by decide)
/-! MarbleLaw.sly(IIII)I -/
noncomputable def kt_X5_sly : Nat → Option nk_I := fun pc => bif Nat.ble pc 21 then ((fun pc => bif Nat.ble pc 10 then ((fun pc => bif Nat.ble pc 5 then ((fun pc => bif Nat.ble pc 0 then (bif Nat.beq pc 0 then some (.iload 4, 2, 2, [], 0) else none)
  else (bif Nat.ble pc 2 then (bif Nat.beq pc 2 then some (.invokestatic 139, 3, 5, [], 0) else none)
  else (bif Nat.beq pc 5 then some (.ifCond .ne 5, 3, 8, [10], 0) else none))) : nk_F) pc
  else ((fun pc => bif Nat.ble pc 8 then (bif Nat.beq pc 8 then some (.iconst (-1), 1, 9, [], (-1)) else none)
  else (bif Nat.ble pc 9 then (bif Nat.beq pc 9 then some (.ireturn, 1, 10, [], 0) else none)
  else (bif Nat.beq pc 10 then some (.aload_n 0, 1, 11, [], 0) else none))) : nk_F) pc) : nk_F) pc
  else ((fun pc => bif Nat.ble pc 13 then ((fun pc => bif Nat.ble pc 11 then (bif Nat.beq pc 11 then some (.iload_n 1, 1, 12, [], 0) else none)
  else (bif Nat.ble pc 12 then (bif Nat.beq pc 12 then some (.iload_n 2, 1, 13, [], 0) else none)
  else (bif Nat.beq pc 13 then some (.aload_n 0, 1, 14, [], 0) else none))) : nk_F) pc
  else ((fun pc => bif Nat.ble pc 17 then (bif Nat.ble pc 14 then (bif Nat.beq pc 14 then some (.getfield 21, 3, 17, [], 0) else none)
  else (bif Nat.beq pc 17 then some (.getfield 142, 3, 20, [], 0) else none))
  else (bif Nat.ble pc 20 then (bif Nat.beq pc 20 then some (.iconst 0, 1, 21, [], 0) else none)
  else (bif Nat.beq pc 21 then some (.iload_n 3, 1, 22, [], 0) else none))) : nk_F) pc) : nk_F) pc) : nk_F) pc
  else ((fun pc => bif Nat.ble pc 34 then ((fun pc => bif Nat.ble pc 27 then ((fun pc => bif Nat.ble pc 22 then (bif Nat.beq pc 22 then some (.invokevirtual 194, 3, 25, [], 0) else none)
  else (bif Nat.ble pc 25 then (bif Nat.beq pc 25 then some (.istore 5, 2, 27, [], 0) else none)
  else (bif Nat.beq pc 27 then some (.iload 5, 2, 29, [], 0) else none))) : nk_F) pc
  else ((fun pc => bif Nat.ble pc 29 then (bif Nat.beq pc 29 then some (.ifCond .eq 6, 3, 32, [35], 0) else none)
  else (bif Nat.ble pc 32 then (bif Nat.beq pc 32 then some (.iload 5, 2, 34, [], 0) else none)
  else (bif Nat.beq pc 34 then some (.ireturn, 1, 35, [], 0) else none))) : nk_F) pc) : nk_F) pc
  else ((fun pc => bif Nat.ble pc 39 then ((fun pc => bif Nat.ble pc 35 then (bif Nat.beq pc 35 then some (.aload_n 0, 1, 36, [], 0) else none)
  else (bif Nat.ble pc 36 then (bif Nat.beq pc 36 then some (.getfield 41, 3, 39, [], 0) else none)
  else (bif Nat.beq pc 39 then some (.iload_n 2, 1, 40, [], 0) else none))) : nk_F) pc
  else ((fun pc => bif Nat.ble pc 41 then (bif Nat.ble pc 40 then (bif Nat.beq pc 40 then some (.iload_n 3, 1, 41, [], 0) else none)
  else (bif Nat.beq pc 41 then some (.iload 4, 2, 43, [], 0) else none))
  else (bif Nat.ble pc 43 then (bif Nat.beq pc 43 then some (.invokevirtual 255, 3, 46, [], 0) else none)
  else (bif Nat.beq pc 46 then some (.ireturn, 1, 47, [], 0) else none))) : nk_F) pc) : nk_F) pc) : nk_F) pc
noncomputable def kc_X5_sly : Nat → Option nk_I := nk_top 47 kt_X5_sly
noncomputable def kx_X5_sly : nk_T := ([(21, 5, 2, 4), (142, 4, 3, 0), (41, 5, 5, 4)], [(558, 1, 0, 0, 0, ev_X5_isWork), (776, 6, 6, 0, 0, ev_X5_refusalOfParts), (1020, 4, 1, 0, 0, ev_X0_slyWay)], [], [], [], [], [], 1, false, 0, 0)
noncomputable def ev_X5_sly : nk_Ev := fun as h Q => nk_if (Nat.ble (nk_wd as) 6) (nk_ev kx_X5_sly kc_X5_sly 6 as h Q)
set_option maxRecDepth 100000 in
theorem ck_X5_sly : nk_chk cX5_sly kc_X5_sly 47 = true := nd_chk (by decide +kernel) (by decide +kernel)
set_option maxRecDepth 100000 in
set_option maxHeartbeats 4000000 in
theorem ca_X5_sly_558 (l : Launch) : nk_CallOk l { frames := 6, cells := 0, slots := 0, locals := 153 } RX5 cX5_sly 6 false 558 (1, 0, 0, 0, ev_X5_isWork) := nk_callS (x := 139) (n := 1) (mt_X5_isWork l) (nk_msc [(2, 59), (2, 60), (2, 61), (1, 1)] (by decide +kernel)) rfl rfl (by decide +kernel) ⟨by decide, by decide⟩
set_option maxRecDepth 100000 in
set_option maxHeartbeats 4000000 in
theorem ca_X5_sly_776 (l : Launch) : nk_CallOk l { frames := 6, cells := 0, slots := 0, locals := 153 } RX5 cX5_sly 6 false 776 (6, 6, 0, 0, ev_X5_refusalOfParts) := nk_callV (x := 194) (n := 5) (ci := 5) (r := (RX5, TX5, 13)) (mt_X5_refusalOfParts l) rfl (nk_msc [(2, 216), (2, 217), (2, 218), (2, 219), (0, 18), (1, 1)] (by decide +kernel)) rfl rfl (by decide +kernel) ⟨by decide, by decide⟩
set_option maxRecDepth 100000 in
set_option maxHeartbeats 4000000 in
theorem ca_X5_sly_1020 (l : Launch) : nk_CallOk l { frames := 6, cells := 0, slots := 0, locals := 153 } RX5 cX5_sly 6 false 1020 (4, 1, 0, 0, ev_X0_slyWay) := nk_callV (x := 255) (n := 3) (ci := 0) (r := (RX0, TX0, 15)) (mt_X0_slyWay l) rfl (nk_msc [(3, 48), (3, 49), (3, 50), (3, 51), (1, 4)] (by decide +kernel)) rfl rfl (by decide +kernel) ⟨by decide, by decide⟩
set_option maxRecDepth 100000 in
set_option maxHeartbeats 4000000 in
theorem mt_X5_sly (l : Launch) : nk_Met l yX5_sly cX5_sly 6 (some .int) { frames := 6, cells := 0, slots := 0, locals := 153 } false 0 0 ev_X5_sly :=
  nk_met nk_gok (plainFor_of_name (by decide)) ck_X5_sly (nk_top_out 47 kt_X5_sly) ⟨List.forall_mem_cons.mpr ⟨nk_fkc [(1, 153)] (by decide +kernel), List.forall_mem_cons.mpr ⟨nk_fkc [(1, 33)] (by decide +kernel), List.forall_mem_cons.mpr ⟨nk_fkc [(1, 156)] (by decide +kernel), fun _ h => absurd h List.not_mem_nil⟩⟩⟩, List.forall_mem_cons.mpr ⟨ca_X5_sly_558 l, List.forall_mem_cons.mpr ⟨ca_X5_sly_776 l, List.forall_mem_cons.mpr ⟨ca_X5_sly_1020 l, fun _ h => absurd h List.not_mem_nil⟩⟩⟩, fun _ h => absurd h List.not_mem_nil, fun _ h => absurd h List.not_mem_nil, fun _ h => absurd h List.not_mem_nil, fun _ h => absurd h List.not_mem_nil, fun _ h => absurd h List.not_mem_nil, by decide, rfl, rfl⟩ rfl (by decide)
/-! MarbleLaw.isStoppedBy(IIII)Z -/
noncomputable def kt_X5_isStoppedBy : Nat → Option nk_I := fun pc => bif Nat.ble pc 25 then ((fun pc => bif Nat.ble pc 10 then ((fun pc => bif Nat.ble pc 4 then ((fun pc => bif Nat.ble pc 0 then (bif Nat.beq pc 0 then some (.aload_n 0, 1, 1, [], 0) else none)
  else (bif Nat.ble pc 1 then (bif Nat.beq pc 1 then some (.getfield 41, 3, 4, [], 0) else none)
  else (bif Nat.beq pc 4 then some (.iload_n 1, 1, 5, [], 0) else none))) : nk_F) pc
  else ((fun pc => bif Nat.ble pc 6 then (bif Nat.ble pc 5 then (bif Nat.beq pc 5 then some (.iconst 0, 1, 6, [], 0) else none)
  else (bif Nat.beq pc 6 then some (.invokevirtual 231, 3, 9, [], 0) else none))
  else (bif Nat.ble pc 9 then (bif Nat.beq pc 9 then some (.aload_n 0, 1, 10, [], 0) else none)
  else (bif Nat.beq pc 10 then some (.getfield 41, 3, 13, [], 0) else none))) : nk_F) pc) : nk_F) pc
  else ((fun pc => bif Nat.ble pc 15 then ((fun pc => bif Nat.ble pc 13 then (bif Nat.beq pc 13 then some (.iconst 0, 1, 14, [], 0) else none)
  else (bif Nat.ble pc 14 then (bif Nat.beq pc 14 then some (.aload_n 0, 1, 15, [], 0) else none)
  else (bif Nat.beq pc 15 then some (.getfield 21, 3, 18, [], 0) else none))) : nk_F) pc
  else ((fun pc => bif Nat.ble pc 21 then (bif Nat.ble pc 18 then (bif Nat.beq pc 18 then some (.getfield 142, 3, 21, [], 0) else none)
  else (bif Nat.beq pc 21 then some (.invokevirtual 237, 3, 24, [], 0) else none))
  else (bif Nat.ble pc 24 then (bif Nat.beq pc 24 then some (.aload_n 0, 1, 25, [], 0) else none)
  else (bif Nat.beq pc 25 then some (.getfield 41, 3, 28, [], 0) else none))) : nk_F) pc) : nk_F) pc) : nk_F) pc
  else ((fun pc => bif Nat.ble pc 40 then ((fun pc => bif Nat.ble pc 34 then ((fun pc => bif Nat.ble pc 28 then (bif Nat.beq pc 28 then some (.getfield 215, 3, 31, [], 0) else none)
  else (bif Nat.ble pc 31 then (bif Nat.beq pc 31 then some (.ifCond .ne 23, 3, 34, [54], 0) else none)
  else (bif Nat.beq pc 34 then some (.aload_n 0, 1, 35, [], 0) else none))) : nk_F) pc
  else ((fun pc => bif Nat.ble pc 38 then (bif Nat.ble pc 35 then (bif Nat.beq pc 35 then some (.getfield 41, 3, 38, [], 0) else none)
  else (bif Nat.beq pc 38 then some (.iload_n 2, 1, 39, [], 0) else none))
  else (bif Nat.ble pc 39 then (bif Nat.beq pc 39 then some (.iload_n 3, 1, 40, [], 0) else none)
  else (bif Nat.beq pc 40 then some (.iload 4, 2, 42, [], 0) else none))) : nk_F) pc) : nk_F) pc
  else ((fun pc => bif Nat.ble pc 47 then ((fun pc => bif Nat.ble pc 42 then (bif Nat.beq pc 42 then some (.invokevirtual 255, 3, 45, [], 0) else none)
  else (bif Nat.ble pc 45 then (bif Nat.beq pc 45 then some (.bipush (-9), 2, 47, [], (-9)) else none)
  else (bif Nat.beq pc 47 then some (.if_icmp .ne 7, 3, 50, [54], 0) else none))) : nk_F) pc
  else ((fun pc => bif Nat.ble pc 51 then (bif Nat.ble pc 50 then (bif Nat.beq pc 50 then some (.iconst 1, 1, 51, [], 1) else none)
  else (bif Nat.beq pc 51 then some (.goto 4, 3, 54, [55], 0) else none))
  else (bif Nat.ble pc 54 then (bif Nat.beq pc 54 then some (.iconst 0, 1, 55, [], 0) else none)
  else (bif Nat.beq pc 55 then some (.ireturn, 1, 56, [], 0) else none))) : nk_F) pc) : nk_F) pc) : nk_F) pc
noncomputable def kc_X5_isStoppedBy : Nat → Option nk_I := nk_top 56 kt_X5_isStoppedBy
noncomputable def kx_X5_isStoppedBy : nk_T := ([(41, 5, 5, 4), (21, 5, 2, 4), (142, 4, 3, 0), (215, 0, 10, 1)], [(924, 3, 1, 0, 0, ev_X0_begin), (948, 3, 1, 0, 0, ev_X0_go), (1020, 4, 1, 0, 0, ev_X0_slyWay)], [], [], [], [], [], 2, false, 0, 0)
noncomputable def ev_X5_isStoppedBy : nk_Ev := fun as h Q => nk_if (Nat.ble (nk_wd as) 5) (nk_ev kx_X5_isStoppedBy kc_X5_isStoppedBy 5 as h Q)
set_option maxRecDepth 100000 in
theorem ck_X5_isStoppedBy : nk_chk cX5_isStoppedBy kc_X5_isStoppedBy 56 = true := nd_chk (by decide +kernel) (by decide +kernel)
set_option maxRecDepth 100000 in
set_option maxHeartbeats 4000000 in
theorem ca_X5_isStoppedBy_924 (l : Launch) : nk_CallOk l { frames := 5, cells := 0, slots := 0, locals := 128 } RX5 cX5_isStoppedBy 5 false 924 (3, 1, 0, 0, ev_X0_begin) := nk_callV (x := 231) (n := 2) (ci := 0) (r := (RX0, TX0, 15)) (mt_X0_begin l) rfl (nk_msc [(2, 93), (2, 94), (2, 95), (2, 96), (1, 4)] (by decide +kernel)) rfl rfl (by decide +kernel) ⟨by decide, by decide⟩
set_option maxRecDepth 100000 in
set_option maxHeartbeats 4000000 in
theorem ca_X5_isStoppedBy_948 (l : Launch) : nk_CallOk l { frames := 5, cells := 0, slots := 0, locals := 128 } RX5 cX5_isStoppedBy 5 false 948 (3, 1, 0, 0, ev_X0_go) := nk_callV (x := 237) (n := 2) (ci := 0) (r := (RX0, TX0, 15)) (mt_X0_go l) rfl (nk_msc [(2, 102), (2, 103), (2, 104), (2, 105), (1, 4)] (by decide +kernel)) rfl rfl (by decide +kernel) ⟨by decide, by decide⟩
set_option maxRecDepth 100000 in
set_option maxHeartbeats 4000000 in
theorem ca_X5_isStoppedBy_1020 (l : Launch) : nk_CallOk l { frames := 5, cells := 0, slots := 0, locals := 128 } RX5 cX5_isStoppedBy 5 false 1020 (4, 1, 0, 0, ev_X0_slyWay) := nk_callV (x := 255) (n := 3) (ci := 0) (r := (RX0, TX0, 15)) (mt_X0_slyWay l) rfl (nk_msc [(3, 48), (3, 49), (3, 50), (3, 51), (1, 4)] (by decide +kernel)) rfl rfl (by decide +kernel) ⟨by decide, by decide⟩
set_option maxRecDepth 100000 in
set_option maxHeartbeats 4000000 in
theorem mt_X5_isStoppedBy (l : Launch) : nk_Met l yX5_isStoppedBy cX5_isStoppedBy 5 (some .boolean) { frames := 5, cells := 0, slots := 0, locals := 128 } false 0 0 ev_X5_isStoppedBy :=
  nk_met nk_gok (plainFor_of_name (by decide)) ck_X5_isStoppedBy (nk_top_out 56 kt_X5_isStoppedBy) ⟨List.forall_mem_cons.mpr ⟨nk_fkc [(1, 156)] (by decide +kernel), List.forall_mem_cons.mpr ⟨nk_fkc [(1, 153)] (by decide +kernel), List.forall_mem_cons.mpr ⟨nk_fkc [(1, 33)] (by decide +kernel), List.forall_mem_cons.mpr ⟨nk_fkc [(1, 76)] (by decide +kernel), fun _ h => absurd h List.not_mem_nil⟩⟩⟩⟩, List.forall_mem_cons.mpr ⟨ca_X5_isStoppedBy_924 l, List.forall_mem_cons.mpr ⟨ca_X5_isStoppedBy_948 l, List.forall_mem_cons.mpr ⟨ca_X5_isStoppedBy_1020 l, fun _ h => absurd h List.not_mem_nil⟩⟩⟩, fun _ h => absurd h List.not_mem_nil, fun _ h => absurd h List.not_mem_nil, fun _ h => absurd h List.not_mem_nil, fun _ h => absurd h List.not_mem_nil, fun _ h => absurd h List.not_mem_nil, by decide, rfl, rfl⟩ rfl (by decide)
