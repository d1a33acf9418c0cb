/-! MarbleLaw.digest()J -/
noncomputable def kt_X5_digest : Nat → Option nk_I := fun pc => bif Nat.ble pc 68 then ((fun pc => bif Nat.ble pc 35 then ((fun pc => bif Nat.ble pc 16 then ((fun pc => bif Nat.ble pc 6 then ((fun pc => bif Nat.ble pc 3 then (bif Nat.ble pc 0 then (bif Nat.beq pc 0 then some (.ldc2_w 296, 3, 3, [], 0) else none)
  else (bif Nat.beq pc 3 then some (.lstore_n 1, 1, 4, [], 0) else none))
  else ((fun pc => bif Nat.ble pc 4 then (bif Nat.beq pc 4 then some (.iconst 0, 1, 5, [], 0) else none)
  else (bif Nat.ble pc 5 then (bif Nat.beq pc 5 then some (.istore_n 3, 1, 6, [], 0) else none)
  else (bif Nat.beq pc 6 then some (.iload_n 3, 1, 7, [], 0) else none))) : nk_F) pc) : nk_F) pc
  else ((fun pc => bif Nat.ble pc 9 then (bif Nat.ble pc 7 then (bif Nat.beq pc 7 then some (.bipush 7, 2, 9, [], 7) else none)
  else (bif Nat.beq pc 9 then some (.if_icmp .ge 22, 3, 12, [31], 0) else none))
  else ((fun pc => bif Nat.ble pc 12 then (bif Nat.beq pc 12 then some (.ldc2_w 298, 3, 15, [], 0) else none)
  else (bif Nat.ble pc 15 then (bif Nat.beq pc 15 then some (.lload_n 1, 1, 16, [], 0) else none)
  else (bif Nat.beq pc 16 then some (.lmul, 1, 17, [], 0) else none))) : nk_F) pc) : nk_F) pc) : nk_F) pc
  else ((fun pc => bif Nat.ble pc 23 then ((fun pc => bif Nat.ble pc 18 then (bif Nat.ble pc 17 then (bif Nat.beq pc 17 then some (.aload_n 0, 1, 18, [], 0) else none)
  else (bif Nat.beq pc 18 then some (.iload_n 3, 1, 19, [], 0) else none))
  else ((fun pc => bif Nat.ble pc 19 then (bif Nat.beq pc 19 then some (.invokevirtual 293, 3, 22, [], 0) else none)
  else (bif Nat.ble pc 22 then (bif Nat.beq pc 22 then some (.i2l, 1, 23, [], 0) else none)
  else (bif Nat.beq pc 23 then some (.ladd, 1, 24, [], 0) else none))) : nk_F) pc) : nk_F) pc
  else ((fun pc => bif Nat.ble pc 28 then ((fun pc => bif Nat.ble pc 24 then (bif Nat.beq pc 24 then some (.lstore_n 1, 1, 25, [], 0) else none)
  else (bif Nat.ble pc 25 then (bif Nat.beq pc 25 then some (.iinc 3 1, 3, 28, [], 1) else none)
  else (bif Nat.beq pc 28 then some (.goto (-22), 3, 31, [6], 0) else none))) : nk_F) pc
  else ((fun pc => bif Nat.ble pc 31 then (bif Nat.beq pc 31 then some (.aload_n 0, 1, 32, [], 0) else none)
  else (bif Nat.ble pc 32 then (bif Nat.beq pc 32 then some (.getfield 21, 3, 35, [], 0) else none)
  else (bif Nat.beq pc 35 then some (.lload_n 1, 1, 36, [], 0) else none))) : nk_F) pc) : nk_F) pc) : nk_F) pc) : nk_F) pc
  else ((fun pc => bif Nat.ble pc 51 then ((fun pc => bif Nat.ble pc 42 then ((fun pc => bif Nat.ble pc 39 then (bif Nat.ble pc 36 then (bif Nat.beq pc 36 then some (.invokevirtual 300, 3, 39, [], 0) else none)
  else (bif Nat.beq pc 39 then some (.lstore_n 1, 1, 40, [], 0) else none))
  else ((fun pc => bif Nat.ble pc 40 then (bif Nat.beq pc 40 then some (.iconst 0, 1, 41, [], 0) else none)
  else (bif Nat.ble pc 41 then (bif Nat.beq pc 41 then some (.istore_n 3, 1, 42, [], 0) else none)
  else (bif Nat.beq pc 42 then some (.iload_n 3, 1, 43, [], 0) else none))) : nk_F) pc) : nk_F) pc
  else ((fun pc => bif Nat.ble pc 44 then (bif Nat.ble pc 43 then (bif Nat.beq pc 43 then some (.iconst 4, 1, 44, [], 4) else none)
  else (bif Nat.beq pc 44 then some (.if_icmp .ge 23, 3, 47, [67], 0) else none))
  else ((fun pc => bif Nat.ble pc 47 then (bif Nat.beq pc 47 then some (.ldc2_w 298, 3, 50, [], 0) else none)
  else (bif Nat.ble pc 50 then (bif Nat.beq pc 50 then some (.lload_n 1, 1, 51, [], 0) else none)
  else (bif Nat.beq pc 51 then some (.lmul, 1, 52, [], 0) else none))) : nk_F) pc) : nk_F) pc) : nk_F) pc
  else ((fun pc => bif Nat.ble pc 58 then ((fun pc => bif Nat.ble pc 53 then (bif Nat.ble pc 52 then (bif Nat.beq pc 52 then some (.aload_n 0, 1, 53, [], 0) else none)
  else (bif Nat.beq pc 53 then some (.getfield 32, 3, 56, [], 0) else none))
  else ((fun pc => bif Nat.ble pc 56 then (bif Nat.beq pc 56 then some (.iload_n 3, 1, 57, [], 0) else none)
  else (bif Nat.ble pc 57 then (bif Nat.beq pc 57 then some (.iaload, 1, 58, [], 0) else none)
  else (bif Nat.beq pc 58 then some (.i2l, 1, 59, [], 0) else none))) : nk_F) pc) : nk_F) pc
  else ((fun pc => bif Nat.ble pc 61 then ((fun pc => bif Nat.ble pc 59 then (bif Nat.beq pc 59 then some (.ladd, 1, 60, [], 0) else none)
  else (bif Nat.ble pc 60 then (bif Nat.beq pc 60 then some (.lstore_n 1, 1, 61, [], 0) else none)
  else (bif Nat.beq pc 61 then some (.iinc 3 1, 3, 64, [], 1) else none))) : nk_F) pc
  else ((fun pc => bif Nat.ble pc 64 then (bif Nat.beq pc 64 then some (.goto (-22), 3, 67, [42], 0) else none)
  else (bif Nat.ble pc 67 then (bif Nat.beq pc 67 then some (.iconst 0, 1, 68, [], 0) else none)
  else (bif Nat.beq pc 68 then some (.istore_n 3, 1, 69, [], 0) else none))) : nk_F) pc) : nk_F) pc) : nk_F) pc) : nk_F) pc) : nk_F) pc
  else ((fun pc => bif Nat.ble pc 104 then ((fun pc => bif Nat.ble pc 84 then ((fun pc => bif Nat.ble pc 75 then ((fun pc => bif Nat.ble pc 70 then (bif Nat.ble pc 69 then (bif Nat.beq pc 69 then some (.iload_n 3, 1, 70, [], 0) else none)
  else (bif Nat.beq pc 70 then some (.iconst 4, 1, 71, [], 4) else none))
  else ((fun pc => bif Nat.ble pc 71 then (bif Nat.beq pc 71 then some (.if_icmp .ge 20, 3, 74, [91], 0) else none)
  else (bif Nat.ble pc 74 then (bif Nat.beq pc 74 then some (.aload_n 0, 1, 75, [], 0) else none)
  else (bif Nat.beq pc 75 then some (.getfield 50, 3, 78, [], 0) else none))) : nk_F) pc) : nk_F) pc
  else ((fun pc => bif Nat.ble pc 79 then (bif Nat.ble pc 78 then (bif Nat.beq pc 78 then some (.iload_n 3, 1, 79, [], 0) else none)
  else (bif Nat.beq pc 79 then some (.aaload, 1, 80, [], 0) else none))
  else ((fun pc => bif Nat.ble pc 80 then (bif Nat.beq pc 80 then some (.lload_n 1, 1, 81, [], 0) else none)
  else (bif Nat.ble pc 81 then (bif Nat.beq pc 81 then some (.invokevirtual 304, 3, 84, [], 0) else none)
  else (bif Nat.beq pc 84 then some (.lstore_n 1, 1, 85, [], 0) else none))) : nk_F) pc) : nk_F) pc) : nk_F) pc
  else ((fun pc => bif Nat.ble pc 93 then ((fun pc => bif Nat.ble pc 88 then (bif Nat.ble pc 85 then (bif Nat.beq pc 85 then some (.iinc 3 1, 3, 88, [], 1) else none)
  else (bif Nat.beq pc 88 then some (.goto (-19), 3, 91, [69], 0) else none))
  else ((fun pc => bif Nat.ble pc 91 then (bif Nat.beq pc 91 then some (.iconst 0, 1, 92, [], 0) else none)
  else (bif Nat.ble pc 92 then (bif Nat.beq pc 92 then some (.istore_n 3, 1, 93, [], 0) else none)
  else (bif Nat.beq pc 93 then some (.iload_n 3, 1, 94, [], 0) else none))) : nk_F) pc) : nk_F) pc
  else ((fun pc => bif Nat.ble pc 99 then ((fun pc => bif Nat.ble pc 94 then (bif Nat.beq pc 94 then some (.bipush 6, 2, 96, [], 6) else none)
  else (bif Nat.ble pc 96 then (bif Nat.beq pc 96 then some (.if_icmp .ge 20, 3, 99, [116], 0) else none)
  else (bif Nat.beq pc 99 then some (.aload_n 0, 1, 100, [], 0) else none))) : nk_F) pc
  else ((fun pc => bif Nat.ble pc 100 then (bif Nat.beq pc 100 then some (.getfield 11, 3, 103, [], 0) else none)
  else (bif Nat.ble pc 103 then (bif Nat.beq pc 103 then some (.iload_n 3, 1, 104, [], 0) else none)
  else (bif Nat.beq pc 104 then some (.aaload, 1, 105, [], 0) else none))) : nk_F) pc) : nk_F) pc) : nk_F) pc) : nk_F) pc
  else ((fun pc => bif Nat.ble pc 120 then ((fun pc => bif Nat.ble pc 113 then ((fun pc => bif Nat.ble pc 106 then (bif Nat.ble pc 105 then (bif Nat.beq pc 105 then some (.lload_n 1, 1, 106, [], 0) else none)
  else (bif Nat.beq pc 106 then some (.invokevirtual 305, 3, 109, [], 0) else none))
  else ((fun pc => bif Nat.ble pc 109 then (bif Nat.beq pc 109 then some (.lstore_n 1, 1, 110, [], 0) else none)
  else (bif Nat.ble pc 110 then (bif Nat.beq pc 110 then some (.iinc 3 1, 3, 113, [], 1) else none)
  else (bif Nat.beq pc 113 then some (.goto (-20), 3, 116, [93], 0) else none))) : nk_F) pc) : nk_F) pc
  else ((fun pc => bif Nat.ble pc 117 then (bif Nat.ble pc 116 then (bif Nat.beq pc 116 then some (.iconst 0, 1, 117, [], 0) else none)
  else (bif Nat.beq pc 117 then some (.istore_n 3, 1, 118, [], 0) else none))
  else ((fun pc => bif Nat.ble pc 118 then (bif Nat.beq pc 118 then some (.iload_n 3, 1, 119, [], 0) else none)
  else (bif Nat.ble pc 119 then (bif Nat.beq pc 119 then some (.iconst 4, 1, 120, [], 4) else none)
  else (bif Nat.beq pc 120 then some (.if_icmp .ge 20, 3, 123, [140], 0) else none))) : nk_F) pc) : nk_F) pc) : nk_F) pc
  else ((fun pc => bif Nat.ble pc 129 then ((fun pc => bif Nat.ble pc 124 then (bif Nat.ble pc 123 then (bif Nat.beq pc 123 then some (.aload_n 0, 1, 124, [], 0) else none)
  else (bif Nat.beq pc 124 then some (.getfield 15, 3, 127, [], 0) else none))
  else ((fun pc => bif Nat.ble pc 127 then (bif Nat.beq pc 127 then some (.iload_n 3, 1, 128, [], 0) else none)
  else (bif Nat.ble pc 128 then (bif Nat.beq pc 128 then some (.aaload, 1, 129, [], 0) else none)
  else (bif Nat.beq pc 129 then some (.lload_n 1, 1, 130, [], 0) else none))) : nk_F) pc) : nk_F) pc
  else ((fun pc => bif Nat.ble pc 134 then ((fun pc => bif Nat.ble pc 130 then (bif Nat.beq pc 130 then some (.invokevirtual 305, 3, 133, [], 0) else none)
  else (bif Nat.ble pc 133 then (bif Nat.beq pc 133 then some (.lstore_n 1, 1, 134, [], 0) else none)
  else (bif Nat.beq pc 134 then some (.iinc 3 1, 3, 137, [], 1) else none))) : nk_F) pc
  else ((fun pc => bif Nat.ble pc 137 then (bif Nat.beq pc 137 then some (.goto (-19), 3, 140, [118], 0) else none)
  else (bif Nat.ble pc 140 then (bif Nat.beq pc 140 then some (.lload_n 1, 1, 141, [], 0) else none)
  else (bif Nat.beq pc 141 then some (.lreturn, 1, 142, [], 0) else none))) : nk_F) pc) : nk_F) pc) : nk_F) pc) : nk_F) pc) : nk_F) pc
noncomputable def kc_X5_digest : Nat → Option nk_I := nk_top 142 kt_X5_digest
noncomputable def kx_X5_digest : nk_T := ([(21, 5, 2, 4), (32, 5, 4, 4), (50, 5, 7, 4), (11, 5, 0, 4), (15, 5, 1, 4)], [(1172, 2, 6, 0, 0, ev_X5_counted), (1200, 2, 5, 0, 0, ev_X4_addTo), (1216, 2, 2, 0, 0, ev_X1_addTo), (1220, 2, 4, 0, 0, ev_X3_addTo)], [], [(296, 17), (298, 31)], [], [], [], 3, false, 0, 0)
noncomputable def ev_X5_digest : nk_Ev := fun as h Q => nk_if (Nat.ble (nk_wd as) 4) (nk_ev kx_X5_digest kc_X5_digest 4 as h Q)
set_option maxRecDepth 100000 in
theorem ck_X5_digest : nk_chk cX5_digest kc_X5_digest 142 = true := nd_chk (by decide +kernel) (by decide +kernel)
set_option maxRecDepth 100000 in
set_option maxHeartbeats 4000000 in
theorem ca_X5_digest_1172 (l : Launch) : nk_CallOk l { frames := 3, cells := 0, slots := 0, locals := 68 } RX5 cX5_digest 4 false 1172 (2, 6, 0, 0, ev_X5_counted) := nk_callV (x := 293) (n := 1) (ci := 5) (r := (RX5, TX5, 13)) (mt_X5_counted l) rfl (nk_msc [(3, 150), (3, 151), (3, 152), (3, 153), (0, 25), (1, 1)] (by decide +kernel)) rfl rfl (by decide +kernel) ⟨by decide, by decide⟩
set_option maxRecDepth 100000 in
set_option maxHeartbeats 4000000 in
theorem ca_X5_digest_1200 (l : Launch) : nk_CallOk l { frames := 3, cells := 0, slots := 0, locals := 68 } RX5 cX5_digest 4 false 1200 (2, 5, 0, 0, ev_X4_addTo) := nk_callV (x := 300) (n := 1) (ci := 4) (r := (RX4, TX4, 4)) (mt_X4_addTo l) rfl (nk_msc [(3, 171), (3, 172), (3, 173), (3, 174), (1, 2)] (by decide +kernel)) rfl rfl (by decide +kernel) ⟨by decide, by decide⟩
set_option maxRecDepth 100000 in
set_option maxHeartbeats 4000000 in
theorem ca_X5_digest_1216 (l : Launch) : nk_CallOk l { frames := 3, cells := 0, slots := 0, locals := 68 } RX5 cX5_digest 4 false 1216 (2, 2, 0, 0, ev_X1_addTo) := nk_callV (x := 304) (n := 1) (ci := 1) (r := (RX1, TX1, 3)) (mt_X1_addTo l) rfl (nk_msc [(3, 176), (3, 177), (3, 178), (3, 179), (1, 6)] (by decide +kernel)) rfl rfl (by decide +kernel) ⟨by decide, by decide⟩
set_option maxRecDepth 100000 in
set_option maxHeartbeats 4000000 in
theorem ca_X5_digest_1220 (l : Launch) : nk_CallOk l { frames := 3, cells := 0, slots := 0, locals := 68 } RX5 cX5_digest 4 false 1220 (2, 4, 0, 0, ev_X3_addTo) := nk_callV (x := 305) (n := 1) (ci := 3) (r := (RX3, TX3, 2)) (mt_X3_addTo l) rfl (nk_msc [(3, 182), (3, 183), (3, 184), (3, 185), (1, 5)] (by decide +kernel)) rfl rfl (by decide +kernel) ⟨by decide, by decide⟩
set_option maxRecDepth 100000 in
set_option maxHeartbeats 4000000 in
theorem mt_X5_digest (l : Launch) : nk_Met l yX5_digest cX5_digest 4 (some .long) { frames := 3, cells := 0, slots := 0, locals := 68 } false 0 0 ev_X5_digest :=
  nk_met nk_gok (plainFor_of_name (by decide)) ck_X5_digest (nk_top_out 142 kt_X5_digest) ⟨List.forall_mem_cons.mpr ⟨nk_fkc [(1, 153)] (by decide +kernel), List.forall_mem_cons.mpr ⟨nk_fkc [(1, 155)] (by decide +kernel), List.forall_mem_cons.mpr ⟨nk_fkc [(1, 158)] (by decide +kernel), List.forall_mem_cons.mpr ⟨nk_fkc [(1, 151)] (by decide +kernel), List.forall_mem_cons.mpr ⟨nk_fkc [(1, 152)] (by decide +kernel), fun _ h => absurd h List.not_mem_nil⟩⟩⟩⟩⟩, List.forall_mem_cons.mpr ⟨ca_X5_digest_1172 l, List.forall_mem_cons.mpr ⟨ca_X5_digest_1200 l, List.forall_mem_cons.mpr ⟨ca_X5_digest_1216 l, List.forall_mem_cons.mpr ⟨ca_X5_digest_1220 l, fun _ h => absurd h List.not_mem_nil⟩⟩⟩⟩, fun _ h => absurd h List.not_mem_nil, List.forall_mem_cons.mpr ⟨nk_mc [(3, 169)] (by decide +kernel), List.forall_mem_cons.mpr ⟨nk_mc [(3, 170)] (by decide +kernel), fun _ h => absurd h List.not_mem_nil⟩⟩, fun _ h => absurd h List.not_mem_nil, fun _ h => absurd h List.not_mem_nil, fun _ h => absurd h List.not_mem_nil, by decide, rfl, rfl⟩ rfl (by decide)
/-! MarbleLawModel.<init>()V -/
noncomputable def kt_X6_init : Nat → Option nk_I := fun pc => bif Nat.ble pc 106 then ((fun pc => bif Nat.ble pc 50 then ((fun pc => bif Nat.ble pc 22 then ((fun pc => bif Nat.ble pc 9 then ((fun pc => bif Nat.ble pc 4 then ((fun pc => bif Nat.ble pc 0 then (bif Nat.beq pc 0 then some (.aload_n 0, 1, 1, [], 0) else none)
  else (bif Nat.ble pc 1 then (bif Nat.beq pc 1 then some (.invokespecial 1, 3, 4, [], 0) else none)
  else (bif Nat.beq pc 4 then some (.aload_n 0, 1, 5, [], 0) else none))) : nk_F) pc
  else ((fun pc => bif Nat.ble pc 5 then (bif Nat.beq pc 5 then some (.bipush 6, 2, 7, [], 6) else none)
  else (bif Nat.ble pc 7 then (bif Nat.beq pc 7 then some (.newarray .int, 2, 9, [], 0) else none)
  else (bif Nat.beq pc 9 then some (.putfield 7, 3, 12, [], 0) else none))) : nk_F) pc) : nk_F) pc
  else ((fun pc => bif Nat.ble pc 14 then ((fun pc => bif Nat.ble pc 12 then (bif Nat.beq pc 12 then some (.aload_n 0, 1, 13, [], 0) else none)
  else (bif Nat.ble pc 13 then (bif Nat.beq pc 13 then some (.lconst 1, 1, 14, [], 0) else none)
  else (bif Nat.beq pc 14 then some (.putfield 13, 3, 17, [], 0) else none))) : nk_F) pc
  else ((fun pc => bif Nat.ble pc 18 then (bif Nat.ble pc 17 then (bif Nat.beq pc 17 then some (.aload_n 0, 1, 18, [], 0) else none)
  else (bif Nat.beq pc 18 then some (.bipush 6, 2, 20, [], 6) else none))
  else (bif Nat.ble pc 20 then (bif Nat.beq pc 20 then some (.newarray .int, 2, 22, [], 0) else none)
  else (bif Nat.beq pc 22 then some (.putfield 17, 3, 25, [], 0) else none))) : nk_F) pc) : nk_F) pc) : nk_F) pc
  else ((fun pc => bif Nat.ble pc 37 then ((fun pc => bif Nat.ble pc 29 then ((fun pc => bif Nat.ble pc 25 then (bif Nat.beq pc 25 then some (.aload_n 0, 1, 26, [], 0) else none)
  else (bif Nat.ble pc 26 then (bif Nat.beq pc 26 then some (.sipush 240, 3, 29, [], 240) else none)
  else (bif Nat.beq pc 29 then some (.newarray .int, 2, 31, [], 0) else none))) : nk_F) pc
  else ((fun pc => bif Nat.ble pc 34 then (bif Nat.ble pc 31 then (bif Nat.beq pc 31 then some (.putfield 20, 3, 34, [], 0) else none)
  else (bif Nat.beq pc 34 then some (.aload_n 0, 1, 35, [], 0) else none))
  else (bif Nat.ble pc 35 then (bif Nat.beq pc 35 then some (.bipush 40, 2, 37, [], 40) else none)
  else (bif Nat.beq pc 37 then some (.newarray .int, 2, 39, [], 0) else none))) : nk_F) pc) : nk_F) pc
  else ((fun pc => bif Nat.ble pc 43 then ((fun pc => bif Nat.ble pc 39 then (bif Nat.beq pc 39 then some (.putfield 23, 3, 42, [], 0) else none)
  else (bif Nat.ble pc 42 then (bif Nat.beq pc 42 then some (.aload_n 0, 1, 43, [], 0) else none)
  else (bif Nat.beq pc 43 then some (.iconst 4, 1, 44, [], 4) else none))) : nk_F) pc
  else ((fun pc => bif Nat.ble pc 46 then (bif Nat.ble pc 44 then (bif Nat.beq pc 44 then some (.newarray .int, 2, 46, [], 0) else none)
  else (bif Nat.beq pc 46 then some (.putfield 26, 3, 49, [], 0) else none))
  else (bif Nat.ble pc 49 then (bif Nat.beq pc 49 then some (.aload_n 0, 1, 50, [], 0) else none)
  else (bif Nat.beq pc 50 then some (.sipush 160, 3, 53, [], 160) else none))) : nk_F) pc) : nk_F) pc) : nk_F) pc) : nk_F) pc
  else ((fun pc => bif Nat.ble pc 78 then ((fun pc => bif Nat.ble pc 66 then ((fun pc => bif Nat.ble pc 58 then ((fun pc => bif Nat.ble pc 53 then (bif Nat.beq pc 53 then some (.newarray .int, 2, 55, [], 0) else none)
  else (bif Nat.ble pc 55 then (bif Nat.beq pc 55 then some (.putfield 29, 3, 58, [], 0) else none)
  else (bif Nat.beq pc 58 then some (.aload_n 0, 1, 59, [], 0) else none))) : nk_F) pc
  else ((fun pc => bif Nat.ble pc 61 then (bif Nat.ble pc 59 then (bif Nat.beq pc 59 then some (.bipush 80, 2, 61, [], 80) else none)
  else (bif Nat.beq pc 61 then some (.newarray .int, 2, 63, [], 0) else none))
  else (bif Nat.ble pc 63 then (bif Nat.beq pc 63 then some (.putfield 32, 3, 66, [], 0) else none)
  else (bif Nat.beq pc 66 then some (.aload_n 0, 1, 67, [], 0) else none))) : nk_F) pc) : nk_F) pc
  else ((fun pc => bif Nat.ble pc 71 then ((fun pc => bif Nat.ble pc 67 then (bif Nat.beq pc 67 then some (.bipush 84, 2, 69, [], 84) else none)
  else (bif Nat.ble pc 69 then (bif Nat.beq pc 69 then some (.newarray .int, 2, 71, [], 0) else none)
  else (bif Nat.beq pc 71 then some (.putfield 35, 3, 74, [], 0) else none))) : nk_F) pc
  else ((fun pc => bif Nat.ble pc 75 then (bif Nat.ble pc 74 then (bif Nat.beq pc 74 then some (.aload_n 0, 1, 75, [], 0) else none)
  else (bif Nat.beq pc 75 then some (.iconst 4, 1, 76, [], 4) else none))
  else (bif Nat.ble pc 76 then (bif Nat.beq pc 76 then some (.newarray .int, 2, 78, [], 0) else none)
  else (bif Nat.beq pc 78 then some (.putfield 38, 3, 81, [], 0) else none))) : nk_F) pc) : nk_F) pc) : nk_F) pc
  else ((fun pc => bif Nat.ble pc 92 then ((fun pc => bif Nat.ble pc 84 then ((fun pc => bif Nat.ble pc 81 then (bif Nat.beq pc 81 then some (.aload_n 0, 1, 82, [], 0) else none)
  else (bif Nat.ble pc 82 then (bif Nat.beq pc 82 then some (.bipush 16, 2, 84, [], 16) else none)
  else (bif Nat.beq pc 84 then some (.newarray .int, 2, 86, [], 0) else none))) : nk_F) pc
  else ((fun pc => bif Nat.ble pc 89 then (bif Nat.ble pc 86 then (bif Nat.beq pc 86 then some (.putfield 41, 3, 89, [], 0) else none)
  else (bif Nat.beq pc 89 then some (.aload_n 0, 1, 90, [], 0) else none))
  else (bif Nat.ble pc 90 then (bif Nat.beq pc 90 then some (.bipush 16, 2, 92, [], 16) else none)
  else (bif Nat.beq pc 92 then some (.newarray .int, 2, 94, [], 0) else none))) : nk_F) pc) : nk_F) pc
  else ((fun pc => bif Nat.ble pc 98 then ((fun pc => bif Nat.ble pc 94 then (bif Nat.beq pc 94 then some (.putfield 44, 3, 97, [], 0) else none)
  else (bif Nat.ble pc 97 then (bif Nat.beq pc 97 then some (.aload_n 0, 1, 98, [], 0) else none)
  else (bif Nat.beq pc 98 then some (.bipush 16, 2, 100, [], 16) else none))) : nk_F) pc
  else ((fun pc => bif Nat.ble pc 102 then (bif Nat.ble pc 100 then (bif Nat.beq pc 100 then some (.newarray .int, 2, 102, [], 0) else none)
  else (bif Nat.beq pc 102 then some (.putfield 47, 3, 105, [], 0) else none))
  else (bif Nat.ble pc 105 then (bif Nat.beq pc 105 then some (.aload_n 0, 1, 106, [], 0) else none)
  else (bif Nat.beq pc 106 then some (.bipush 16, 2, 108, [], 16) else none))) : nk_F) pc) : nk_F) pc) : nk_F) pc) : nk_F) pc) : nk_F) pc
  else ((fun pc => bif Nat.ble pc 160 then ((fun pc => bif Nat.ble pc 132 then ((fun pc => bif Nat.ble pc 118 then ((fun pc => bif Nat.ble pc 113 then ((fun pc => bif Nat.ble pc 108 then (bif Nat.beq pc 108 then some (.newarray .int, 2, 110, [], 0) else none)
  else (bif Nat.ble pc 110 then (bif Nat.beq pc 110 then some (.putfield 50, 3, 113, [], 0) else none)
  else (bif Nat.beq pc 113 then some (.aload_n 0, 1, 114, [], 0) else none))) : nk_F) pc
  else ((fun pc => bif Nat.ble pc 114 then (bif Nat.beq pc 114 then some (.bipush 96, 2, 116, [], 96) else none)
  else (bif Nat.ble pc 116 then (bif Nat.beq pc 116 then some (.newarray .long, 2, 118, [], 0) else none)
  else (bif Nat.beq pc 118 then some (.putfield 53, 3, 121, [], 0) else none))) : nk_F) pc) : nk_F) pc
  else ((fun pc => bif Nat.ble pc 124 then ((fun pc => bif Nat.ble pc 121 then (bif Nat.beq pc 121 then some (.aload_n 0, 1, 122, [], 0) else none)
  else (bif Nat.ble pc 122 then (bif Nat.beq pc 122 then some (.bipush 16, 2, 124, [], 16) else none)
  else (bif Nat.beq pc 124 then some (.newarray .long, 2, 126, [], 0) else none))) : nk_F) pc
  else ((fun pc => bif Nat.ble pc 129 then (bif Nat.ble pc 126 then (bif Nat.beq pc 126 then some (.putfield 57, 3, 129, [], 0) else none)
  else (bif Nat.beq pc 129 then some (.aload_n 0, 1, 130, [], 0) else none))
  else (bif Nat.ble pc 130 then (bif Nat.beq pc 130 then some (.bipush 6, 2, 132, [], 6) else none)
  else (bif Nat.beq pc 132 then some (.newarray .long, 2, 134, [], 0) else none))) : nk_F) pc) : nk_F) pc) : nk_F) pc
  else ((fun pc => bif Nat.ble pc 146 then ((fun pc => bif Nat.ble pc 138 then ((fun pc => bif Nat.ble pc 134 then (bif Nat.beq pc 134 then some (.putfield 60, 3, 137, [], 0) else none)
  else (bif Nat.ble pc 137 then (bif Nat.beq pc 137 then some (.aload_n 0, 1, 138, [], 0) else none)
  else (bif Nat.beq pc 138 then some (.bipush 84, 2, 140, [], 84) else none))) : nk_F) pc
  else ((fun pc => bif Nat.ble pc 142 then (bif Nat.ble pc 140 then (bif Nat.beq pc 140 then some (.newarray .long, 2, 142, [], 0) else none)
  else (bif Nat.beq pc 142 then some (.putfield 63, 3, 145, [], 0) else none))
  else (bif Nat.ble pc 145 then (bif Nat.beq pc 145 then some (.aload_n 0, 1, 146, [], 0) else none)
  else (bif Nat.beq pc 146 then some (.iconst 4, 1, 147, [], 4) else none))) : nk_F) pc) : nk_F) pc
  else ((fun pc => bif Nat.ble pc 152 then ((fun pc => bif Nat.ble pc 147 then (bif Nat.beq pc 147 then some (.newarray .int, 2, 149, [], 0) else none)
  else (bif Nat.ble pc 149 then (bif Nat.beq pc 149 then some (.putfield 66, 3, 152, [], 0) else none)
  else (bif Nat.beq pc 152 then some (.aload_n 0, 1, 153, [], 0) else none))) : nk_F) pc
  else ((fun pc => bif Nat.ble pc 155 then (bif Nat.ble pc 153 then (bif Nat.beq pc 153 then some (.bipush 80, 2, 155, [], 80) else none)
  else (bif Nat.beq pc 155 then some (.newarray .int, 2, 157, [], 0) else none))
  else (bif Nat.ble pc 157 then (bif Nat.beq pc 157 then some (.putfield 69, 3, 160, [], 0) else none)
  else (bif Nat.beq pc 160 then some (.aload_n 0, 1, 161, [], 0) else none))) : nk_F) pc) : nk_F) pc) : nk_F) pc) : nk_F) pc
  else ((fun pc => bif Nat.ble pc 184 then ((fun pc => bif Nat.ble pc 171 then ((fun pc => bif Nat.ble pc 165 then ((fun pc => bif Nat.ble pc 161 then (bif Nat.beq pc 161 then some (.bipush 80, 2, 163, [], 80) else none)
  else (bif Nat.ble pc 163 then (bif Nat.beq pc 163 then some (.newarray .int, 2, 165, [], 0) else none)
  else (bif Nat.beq pc 165 then some (.putfield 72, 3, 168, [], 0) else none))) : nk_F) pc
  else ((fun pc => bif Nat.ble pc 169 then (bif Nat.ble pc 168 then (bif Nat.beq pc 168 then some (.iconst 0, 1, 169, [], 0) else none)
  else (bif Nat.beq pc 169 then some (.istore_n 1, 1, 170, [], 0) else none))
  else (bif Nat.ble pc 170 then (bif Nat.beq pc 170 then some (.iload_n 1, 1, 171, [], 0) else none)
  else (bif Nat.beq pc 171 then some (.bipush 6, 2, 173, [], 6) else none))) : nk_F) pc) : nk_F) pc
  else ((fun pc => bif Nat.ble pc 177 then ((fun pc => bif Nat.ble pc 173 then (bif Nat.beq pc 173 then some (.if_icmp .ge 17, 3, 176, [190], 0) else none)
  else (bif Nat.ble pc 176 then (bif Nat.beq pc 176 then some (.aload_n 0, 1, 177, [], 0) else none)
  else (bif Nat.beq pc 177 then some (.getfield 17, 3, 180, [], 0) else none))) : nk_F) pc
  else ((fun pc => bif Nat.ble pc 181 then (bif Nat.ble pc 180 then (bif Nat.beq pc 180 then some (.iload_n 1, 1, 181, [], 0) else none)
  else (bif Nat.beq pc 181 then some (.bipush (-9), 2, 183, [], (-9)) else none))
  else (bif Nat.ble pc 183 then (bif Nat.beq pc 183 then some (.iastore, 1, 184, [], 0) else none)
  else (bif Nat.beq pc 184 then some (.iinc 1 1, 3, 187, [], 1) else none))) : nk_F) pc) : nk_F) pc) : nk_F) pc
  else ((fun pc => bif Nat.ble pc 197 then ((fun pc => bif Nat.ble pc 191 then ((fun pc => bif Nat.ble pc 187 then (bif Nat.beq pc 187 then some (.goto (-17), 3, 190, [170], 0) else none)
  else (bif Nat.ble pc 190 then (bif Nat.beq pc 190 then some (.iconst 0, 1, 191, [], 0) else none)
  else (bif Nat.beq pc 191 then some (.istore_n 1, 1, 192, [], 0) else none))) : nk_F) pc
  else ((fun pc => bif Nat.ble pc 193 then (bif Nat.ble pc 192 then (bif Nat.beq pc 192 then some (.iload_n 1, 1, 193, [], 0) else none)
  else (bif Nat.beq pc 193 then some (.iconst 4, 1, 194, [], 4) else none))
  else (bif Nat.ble pc 194 then (bif Nat.beq pc 194 then some (.if_icmp .ge 17, 3, 197, [211], 0) else none)
  else (bif Nat.beq pc 197 then some (.aload_n 0, 1, 198, [], 0) else none))) : nk_F) pc) : nk_F) pc
  else ((fun pc => bif Nat.ble pc 202 then ((fun pc => bif Nat.ble pc 198 then (bif Nat.beq pc 198 then some (.getfield 26, 3, 201, [], 0) else none)
  else (bif Nat.ble pc 201 then (bif Nat.beq pc 201 then some (.iload_n 1, 1, 202, [], 0) else none)
  else (bif Nat.beq pc 202 then some (.bipush (-9), 2, 204, [], (-9)) else none))) : nk_F) pc
  else ((fun pc => bif Nat.ble pc 205 then (bif Nat.ble pc 204 then (bif Nat.beq pc 204 then some (.iastore, 1, 205, [], 0) else none)
  else (bif Nat.beq pc 205 then some (.iinc 1 1, 3, 208, [], 1) else none))
  else (bif Nat.ble pc 208 then (bif Nat.beq pc 208 then some (.goto (-16), 3, 211, [192], 0) else none)
  else (bif Nat.beq pc 211 then some (.return_, 1, 212, [], 0) else none))) : nk_F) pc) : nk_F) pc) : nk_F) pc) : nk_F) pc) : nk_F) pc
noncomputable def kc_X6_init : Nat → Option nk_I := nk_top 212 kt_X6_init
noncomputable def kx_X6_init : nk_T := ([(7, 6, 1, 4), (13, 6, 4, 2), (17, 6, 5, 4), (20, 6, 6, 4), (23, 6, 7, 4), (26, 6, 8, 4), (29, 6, 9, 4), (32, 6, 11, 4), (35, 6, 13, 4), (38, 6, 14, 4), (41, 6, 16, 4), (44, 6, 17, 4), (47, 6, 18, 4), (50, 6, 19, 4), (53, 6, 20, 4), (57, 6, 21, 4), (60, 6, 25, 4), (63, 6, 26, 4), (66, 6, 27, 4), (69, 6, 28, 4), (72, 6, 29, 4)], [(5, 1, 7, 0, 0, fun _ h K => K none h)], [], [], [], [], [], 0, true, 20, 1054)
noncomputable def ev_X6_init : nk_Ev := fun as h Q => nk_if (Nat.ble (nk_wd as) 2) (nk_ev kx_X6_init kc_X6_init 2 as h Q)
set_option maxRecDepth 100000 in
theorem ck_X6_init : nk_chk cX6_init kc_X6_init 212 = true := nd_chk (by decide +kernel) (by decide +kernel)
set_option maxRecDepth 100000 in
set_option maxHeartbeats 4000000 in
theorem ca_X6_init_5 (l : Launch) : nk_CallOk l { frames := 1, cells := 20, slots := 1054, locals := 20 } RX6 cX6_init 2 true 5 (1, 7, 0, 0, fun _ h K => K none h) := nk_callO (x := 1) (nk_mc [(3, 192), (1, 17), (1, 18)] (by decide +kernel)) (nk_mc [(3, 192), (1, 17), (1, 18)] (by decide +kernel)) (nk_mc [(3, 192), (1, 17), (1, 18)] (by decide +kernel)) ⟨by decide, by decide⟩
set_option maxRecDepth 100000 in
set_option maxHeartbeats 4000000 in
theorem mt_X6_init (l : Launch) : nk_Met l yX6_init cX6_init 2 none { frames := 1, cells := 20, slots := 1054, locals := 20 } true 20 1054 ev_X6_init :=
  nk_met nk_gok (plainFor_of_name (by decide)) ck_X6_init (nk_top_out 212 kt_X6_init) ⟨List.forall_mem_cons.mpr ⟨nk_fkc [(3, 194)] (by decide +kernel), List.forall_mem_cons.mpr ⟨nk_fkc [(3, 197)] (by decide +kernel), List.forall_mem_cons.mpr ⟨nk_fkc [(3, 198)] (by decide +kernel), List.forall_mem_cons.mpr ⟨nk_fkc [(3, 199)] (by decide +kernel), List.forall_mem_cons.mpr ⟨nk_fkc [(3, 200)] (by decide +kernel), List.forall_mem_cons.mpr ⟨nk_fkc [(3, 201)] (by decide +kernel), List.forall_mem_cons.mpr ⟨nk_fkc [(3, 202)] (by decide +kernel), List.forall_mem_cons.mpr ⟨nk_fkc [(3, 188), (3, 204)] (by decide +kernel), List.forall_mem_cons.mpr ⟨nk_fkc [(3, 206)] (by decide +kernel), List.forall_mem_cons.mpr ⟨nk_fkc [(3, 207)] (by decide +kernel), List.forall_mem_cons.mpr ⟨nk_fkc [(3, 209)] (by decide +kernel), List.forall_mem_cons.mpr ⟨nk_fkc [(3, 210)] (by decide +kernel), List.forall_mem_cons.mpr ⟨nk_fkc [(3, 211)] (by decide +kernel), List.forall_mem_cons.mpr ⟨nk_fkc [(3, 212)] (by decide +kernel), List.forall_mem_cons.mpr ⟨nk_fkc [(3, 213)] (by decide +kernel), List.forall_mem_cons.mpr ⟨nk_fkc [(3, 214)] (by decide +kernel), List.forall_mem_cons.mpr ⟨nk_fkc [(3, 218)] (by decide +kernel), List.forall_mem_cons.mpr ⟨nk_fkc [(3, 219)] (by decide +kernel), List.forall_mem_cons.mpr ⟨nk_fkc [(3, 220)] (by decide +kernel), List.forall_mem_cons.mpr ⟨nk_fkc [(3, 221)] (by decide +kernel), List.forall_mem_cons.mpr ⟨nk_fkc [(3, 222)] (by decide +kernel), fun _ h => absurd h List.not_mem_nil⟩⟩⟩⟩⟩⟩⟩⟩⟩⟩⟩⟩⟩⟩⟩⟩⟩⟩⟩⟩⟩, List.forall_mem_cons.mpr ⟨ca_X6_init_5 l, fun _ h => absurd h List.not_mem_nil⟩, fun _ h => absurd h List.not_mem_nil, fun _ h => absurd h List.not_mem_nil, fun _ h => absurd h List.not_mem_nil, fun _ h => absurd h List.not_mem_nil, fun _ h => absurd h List.not_mem_nil, by decide, rfl, rfl⟩ rfl (by decide)
/-! MarbleLawModel.in(III)Z -/
noncomputable def kt_X6_in : Nat → Option nk_I := fun pc => bif Nat.ble pc 6 then ((fun pc => bif Nat.ble pc 1 then (bif Nat.ble pc 0 then (bif Nat.beq pc 0 then some (.iload_n 0, 1, 1, [], 0) else none)
  else (bif Nat.beq pc 1 then some (.iload_n 1, 1, 2, [], 0) else none))
  else ((fun pc => bif Nat.ble pc 2 then (bif Nat.beq pc 2 then some (.if_icmp .lt 12, 3, 5, [14], 0) else none)
  else (bif Nat.ble pc 5 then (bif Nat.beq pc 5 then some (.iload_n 0, 1, 6, [], 0) else none)
  else (bif Nat.beq pc 6 then some (.iload_n 2, 1, 7, [], 0) else none))) : nk_F) pc) : nk_F) pc
  else ((fun pc => bif Nat.ble pc 10 then (bif Nat.ble pc 7 then (bif Nat.beq pc 7 then some (.if_icmp .gt 7, 3, 10, [14], 0) else none)
  else (bif Nat.beq pc 10 then some (.iconst 1, 1, 11, [], 1) else none))
  else ((fun pc => bif Nat.ble pc 11 then (bif Nat.beq pc 11 then some (.goto 4, 3, 14, [15], 0) else none)
  else (bif Nat.ble pc 14 then (bif Nat.beq pc 14 then some (.iconst 0, 1, 15, [], 0) else none)
  else (bif Nat.beq pc 15 then some (.ireturn, 1, 16, [], 0) else none))) : nk_F) pc) : nk_F) pc
noncomputable def kc_X6_in : Nat → Option nk_I := nk_top 16 kt_X6_in
noncomputable def kx_X6_in : nk_T := ([], [], [], [], [], [], [], 2, false, 0, 0)
noncomputable def ev_X6_in : nk_Ev := fun as h Q => nk_if (Nat.ble (nk_wd as) 3) (nk_ev kx_X6_in kc_X6_in 3 as h Q)
set_option maxRecDepth 100000 in
theorem ck_X6_in : nk_chk cX6_in kc_X6_in 16 = true := nd_chk (by decide +kernel) (by decide +kernel)
set_option maxRecDepth 100000 in
set_option maxHeartbeats 4000000 in
theorem mt_X6_in (l : Launch) : nk_Met l yX6_in cX6_in 3 (some .boolean) { frames := 0, cells := 0, slots := 0, locals := 0 } false 0 0 ev_X6_in :=
  nk_met nk_gok (plainFor_of_name (by decide)) ck_X6_in (nk_top_out 16 kt_X6_in) ⟨fun _ h => absurd h List.not_mem_nil, fun _ h => absurd h List.not_mem_nil, fun _ h => absurd h List.not_mem_nil, fun _ h => absurd h List.not_mem_nil, fun _ h => absurd h List.not_mem_nil, fun _ h => absurd h List.not_mem_nil, fun _ h => absurd h List.not_mem_nil, by decide, rfl, rfl⟩ rfl (by decide)
/-! MarbleLawModel.meets(I)I -/
noncomputable def kt_X6_meets : Nat → Option nk_I := fun pc => bif Nat.ble pc 9 then ((fun pc => bif Nat.ble pc 2 then ((fun pc => bif Nat.ble pc 0 then (bif Nat.beq pc 0 then some (.aload_n 0, 1, 1, [], 0) else none)
  else (bif Nat.ble pc 1 then (bif Nat.beq pc 1 then some (.iload_n 1, 1, 2, [], 0) else none)
  else (bif Nat.beq pc 2 then some (.putfield 75, 3, 5, [], 0) else none))) : nk_F) pc
  else ((fun pc => bif Nat.ble pc 5 then (bif Nat.beq pc 5 then some (.aload_n 0, 1, 6, [], 0) else none)
  else (bif Nat.ble pc 6 then (bif Nat.beq pc 6 then some (.getfield 7, 3, 9, [], 0) else none)
  else (bif Nat.beq pc 9 then some (.iload_n 1, 1, 10, [], 0) else none))) : nk_F) pc) : nk_F) pc
  else ((fun pc => bif Nat.ble pc 12 then ((fun pc => bif Nat.ble pc 10 then (bif Nat.beq pc 10 then some (.dup2, 1, 11, [], 0) else none)
  else (bif Nat.ble pc 11 then (bif Nat.beq pc 11 then some (.iaload, 1, 12, [], 0) else none)
  else (bif Nat.beq pc 12 then some (.iconst 1, 1, 13, [], 1) else none))) : nk_F) pc
  else ((fun pc => bif Nat.ble pc 14 then (bif Nat.ble pc 13 then (bif Nat.beq pc 13 then some (.iadd, 1, 14, [], 0) else none)
  else (bif Nat.beq pc 14 then some (.iastore, 1, 15, [], 0) else none))
  else (bif Nat.ble pc 15 then (bif Nat.beq pc 15 then some (.bipush (-3), 2, 17, [], (-3)) else none)
  else (bif Nat.beq pc 17 then some (.ireturn, 1, 18, [], 0) else none))) : nk_F) pc) : nk_F) pc
noncomputable def kc_X6_meets : Nat → Option nk_I := nk_top 18 kt_X6_meets
noncomputable def kx_X6_meets : nk_T := ([(75, 6, 0, 0), (7, 6, 1, 4)], [], [], [], [], [], [], 1, false, 0, 0)
noncomputable def ev_X6_meets : nk_Ev := fun as h Q => nk_if (Nat.ble (nk_wd as) 2) (nk_ev kx_X6_meets kc_X6_meets 2 as h Q)
set_option maxRecDepth 100000 in
theorem ck_X6_meets : nk_chk cX6_meets kc_X6_meets 18 = true := nd_chk (by decide +kernel) (by decide +kernel)
set_option maxRecDepth 100000 in
set_option maxHeartbeats 4000000 in
theorem mt_X6_meets (l : Launch) : nk_Met l yX6_meets cX6_meets 2 (some .int) { frames := 0, cells := 0, slots := 0, locals := 0 } false 0 0 ev_X6_meets :=
  nk_met nk_gok (plainFor_of_name (by decide)) ck_X6_meets (nk_top_out 18 kt_X6_meets) ⟨List.forall_mem_cons.mpr ⟨nk_fkc [(3, 193)] (by decide +kernel), List.forall_mem_cons.mpr ⟨nk_fkc [(3, 194)] (by decide +kernel), fun _ h => absurd h List.not_mem_nil⟩⟩, fun _ h => absurd h List.not_mem_nil, fun _ h => absurd h List.not_mem_nil, fun _ h => absurd h List.not_mem_nil, fun _ h => absurd h List.not_mem_nil, fun _ h => absurd h List.not_mem_nil, fun _ h => absurd h List.not_mem_nil, by decide, rfl, rfl⟩ rfl (by decide)
/-! MarbleLawModel.ask(II)I -/
noncomputable def kt_X6_ask : Nat → Option nk_I := fun pc => bif Nat.ble pc 1 then (bif Nat.ble pc 0 then (bif Nat.beq pc 0 then some (.aload_n 0, 1, 1, [], 0) else none)
  else (bif Nat.beq pc 1 then some (.iload_n 1, 1, 2, [], 0) else none))
  else ((fun pc => bif Nat.ble pc 2 then (bif Nat.beq pc 2 then some (.putfield 79, 3, 5, [], 0) else none)
  else (bif Nat.ble pc 5 then (bif Nat.beq pc 5 then some (.iload_n 2, 1, 6, [], 0) else none)
  else (bif Nat.beq pc 6 then some (.ireturn, 1, 7, [], 0) else none))) : nk_F) pc
noncomputable def kc_X6_ask : Nat → Option nk_I := nk_top 7 kt_X6_ask
noncomputable def kx_X6_ask : nk_T := ([(79, 6, 2, 0)], [], [], [], [], [], [], 1, false, 0, 0)
noncomputable def ev_X6_ask : nk_Ev := fun as h Q => nk_if (Nat.ble (nk_wd as) 3) (nk_ev kx_X6_ask kc_X6_ask 3 as h Q)
set_option maxRecDepth 100000 in
theorem ck_X6_ask : nk_chk cX6_ask kc_X6_ask 7 = true := nd_chk (by decide +kernel) (by decide +kernel)
set_option maxRecDepth 100000 in
set_option maxHeartbeats 4000000 in
theorem mt_X6_ask (l : Launch) : nk_Met l yX6_ask cX6_ask 3 (some .int) { frames := 0, cells := 0, slots := 0, locals := 0 } false 0 0 ev_X6_ask :=
  nk_met nk_gok (plainFor_of_name (by decide)) ck_X6_ask (nk_top_out 7 kt_X6_ask) ⟨List.forall_mem_cons.mpr ⟨nk_fkc [(3, 195)] (by decide +kernel), fun _ h => absurd h List.not_mem_nil⟩, fun _ h => absurd h List.not_mem_nil, fun _ h => absurd h List.not_mem_nil, fun _ h => absurd h List.not_mem_nil, fun _ h => absurd h List.not_mem_nil, fun _ h => absurd h List.not_mem_nil, fun _ h => absurd h List.not_mem_nil, by decide, rfl, rfl⟩ rfl (by decide)
/-! MarbleLawModel.has(II)Z -/
noncomputable def kt_X6_has : Nat → Option nk_I := fun pc => bif Nat.ble pc 4 then ((fun pc => bif Nat.ble pc 1 then (bif Nat.ble pc 0 then (bif Nat.beq pc 0 then some (.iload_n 0, 1, 1, [], 0) else none)
  else (bif Nat.beq pc 1 then some (.iload_n 1, 1, 2, [], 0) else none))
  else ((fun pc => bif Nat.ble pc 2 then (bif Nat.beq pc 2 then some (.ishr, 1, 3, [], 0) else none)
  else (bif Nat.ble pc 3 then (bif Nat.beq pc 3 then some (.iconst 1, 1, 4, [], 1) else none)
  else (bif Nat.beq pc 4 then some (.iand, 1, 5, [], 0) else none))) : nk_F) pc) : nk_F) pc
  else ((fun pc => bif Nat.ble pc 9 then ((fun pc => bif Nat.ble pc 5 then (bif Nat.beq pc 5 then some (.iconst 1, 1, 6, [], 1) else none)
  else (bif Nat.ble pc 6 then (bif Nat.beq pc 6 then some (.if_icmp .ne 7, 3, 9, [13], 0) else none)
  else (bif Nat.beq pc 9 then some (.iconst 1, 1, 10, [], 1) else none))) : nk_F) pc
  else ((fun pc => bif Nat.ble pc 10 then (bif Nat.beq pc 10 then some (.goto 4, 3, 13, [14], 0) else none)
  else (bif Nat.ble pc 13 then (bif Nat.beq pc 13 then some (.iconst 0, 1, 14, [], 0) else none)
  else (bif Nat.beq pc 14 then some (.ireturn, 1, 15, [], 0) else none))) : nk_F) pc) : nk_F) pc
noncomputable def kc_X6_has : Nat → Option nk_I := nk_top 15 kt_X6_has
noncomputable def kx_X6_has : nk_T := ([], [], [], [], [], [], [], 2, false, 0, 0)
noncomputable def ev_X6_has : nk_Ev := fun as h Q => nk_if (Nat.ble (nk_wd as) 2) (nk_ev kx_X6_has kc_X6_has 2 as h Q)
set_option maxRecDepth 100000 in
theorem ck_X6_has : nk_chk cX6_has kc_X6_has 15 = true := nd_chk (by decide +kernel) (by decide +kernel)
set_option maxRecDepth 100000 in
set_option maxHeartbeats 4000000 in
theorem mt_X6_has (l : Launch) : nk_Met l yX6_has cX6_has 2 (some .boolean) { frames := 0, cells := 0, slots := 0, locals := 0 } false 0 0 ev_X6_has :=
  nk_met nk_gok (plainFor_of_name (by decide)) ck_X6_has (nk_top_out 15 kt_X6_has) ⟨fun _ h => absurd h List.not_mem_nil, fun _ h => absurd h List.not_mem_nil, fun _ h => absurd h List.not_mem_nil, fun _ h => absurd h List.not_mem_nil, fun _ h => absurd h List.not_mem_nil, fun _ h => absurd h List.not_mem_nil, fun _ h => absurd h List.not_mem_nil, by decide, rfl, rfl⟩ rfl (by decide)
/-! MarbleLawModel.bits(I)I -/
noncomputable def kt_X6_bits : Nat → Option nk_I := fun pc => bif Nat.ble pc 11 then ((fun pc => bif Nat.ble pc 3 then ((fun pc => bif Nat.ble pc 1 then (bif Nat.ble pc 0 then (bif Nat.beq pc 0 then some (.iconst 0, 1, 1, [], 0) else none)
  else (bif Nat.beq pc 1 then some (.istore_n 1, 1, 2, [], 0) else none))
  else (bif Nat.ble pc 2 then (bif Nat.beq pc 2 then some (.iconst 0, 1, 3, [], 0) else none)
  else (bif Nat.beq pc 3 then some (.istore_n 2, 1, 4, [], 0) else none))) : nk_F) pc
  else ((fun pc => bif Nat.ble pc 5 then (bif Nat.ble pc 4 then (bif Nat.beq pc 4 then some (.iload_n 2, 1, 5, [], 0) else none)
  else (bif Nat.beq pc 5 then some (.bipush 16, 2, 7, [], 16) else none))
  else ((fun pc => bif Nat.ble pc 7 then (bif Nat.beq pc 7 then some (.if_icmp .ge 17, 3, 10, [24], 0) else none)
  else (bif Nat.ble pc 10 then (bif Nat.beq pc 10 then some (.iload_n 1, 1, 11, [], 0) else none)
  else (bif Nat.beq pc 11 then some (.iload_n 0, 1, 12, [], 0) else none))) : nk_F) pc) : nk_F) pc) : nk_F) pc
  else ((fun pc => bif Nat.ble pc 16 then ((fun pc => bif Nat.ble pc 13 then (bif Nat.ble pc 12 then (bif Nat.beq pc 12 then some (.iload_n 2, 1, 13, [], 0) else none)
  else (bif Nat.beq pc 13 then some (.ishr, 1, 14, [], 0) else none))
  else ((fun pc => bif Nat.ble pc 14 then (bif Nat.beq pc 14 then some (.iconst 1, 1, 15, [], 1) else none)
  else (bif Nat.ble pc 15 then (bif Nat.beq pc 15 then some (.iand, 1, 16, [], 0) else none)
  else (bif Nat.beq pc 16 then some (.iadd, 1, 17, [], 0) else none))) : nk_F) pc) : nk_F) pc
  else ((fun pc => bif Nat.ble pc 18 then (bif Nat.ble pc 17 then (bif Nat.beq pc 17 then some (.istore_n 1, 1, 18, [], 0) else none)
  else (bif Nat.beq pc 18 then some (.iinc 2 1, 3, 21, [], 1) else none))
  else ((fun pc => bif Nat.ble pc 21 then (bif Nat.beq pc 21 then some (.goto (-17), 3, 24, [4], 0) else none)
  else (bif Nat.ble pc 24 then (bif Nat.beq pc 24 then some (.iload_n 1, 1, 25, [], 0) else none)
  else (bif Nat.beq pc 25 then some (.ireturn, 1, 26, [], 0) else none))) : nk_F) pc) : nk_F) pc) : nk_F) pc
noncomputable def kc_X6_bits : Nat → Option nk_I := nk_top 26 kt_X6_bits
noncomputable def kx_X6_bits : nk_T := ([], [], [], [], [], [], [], 1, false, 0, 0)
noncomputable def ev_X6_bits : nk_Ev := fun as h Q => nk_if (Nat.ble (nk_wd as) 3) (nk_ev kx_X6_bits kc_X6_bits 3 as h Q)
set_option maxRecDepth 100000 in
theorem ck_X6_bits : nk_chk cX6_bits kc_X6_bits 26 = true := nd_chk (by decide +kernel) (by decide +kernel)
set_option maxRecDepth 100000 in
set_option maxHeartbeats 4000000 in
theorem mt_X6_bits (l : Launch) : nk_Met l yX6_bits cX6_bits 3 (some .int) { frames := 0, cells := 0, slots := 0, locals := 0 } false 0 0 ev_X6_bits :=
  nk_met nk_gok (plainFor_of_name (by decide)) ck_X6_bits (nk_top_out 26 kt_X6_bits) ⟨fun _ h => absurd h List.not_mem_nil, fun _ h => absurd h List.not_mem_nil, fun _ h => absurd h List.not_mem_nil, fun _ h => absurd h List.not_mem_nil, fun _ h => absurd h List.not_mem_nil, fun _ h => absurd h List.not_mem_nil, fun _ h => absurd h List.not_mem_nil, by decide, rfl, rfl⟩ rfl (by decide)
/-! MarbleLawModel.divisor(JJ)J -/
noncomputable def kt_X6_divisor : Nat → Option nk_I := fun pc => bif Nat.ble pc 19 then ((fun pc => bif Nat.ble pc 7 then ((fun pc => bif Nat.ble pc 2 then ((fun pc => bif Nat.ble pc 0 then (bif Nat.beq pc 0 then some (.lload_n 0, 1, 1, [], 0) else none)
  else (bif Nat.ble pc 1 then (bif Nat.beq pc 1 then some (.lconst 0, 1, 2, [], 0) else none)
  else (bif Nat.beq pc 2 then some (.lcmp, 1, 3, [], 0) else none))) : nk_F) pc
  else ((fun pc => bif Nat.ble pc 3 then (bif Nat.beq pc 3 then some (.ifCond .ge 8, 3, 6, [11], 0) else none)
  else (bif Nat.ble pc 6 then (bif Nat.beq pc 6 then some (.lload_n 0, 1, 7, [], 0) else none)
  else (bif Nat.beq pc 7 then some (.lneg, 1, 8, [], 0) else none))) : nk_F) pc) : nk_F) pc
  else ((fun pc => bif Nat.ble pc 12 then ((fun pc => bif Nat.ble pc 8 then (bif Nat.beq pc 8 then some (.goto 4, 3, 11, [12], 0) else none)
  else (bif Nat.ble pc 11 then (bif Nat.beq pc 11 then some (.lload_n 0, 1, 12, [], 0) else none)
  else (bif Nat.beq pc 12 then some (.lstore 4, 2, 14, [], 0) else none))) : nk_F) pc
  else ((fun pc => bif Nat.ble pc 15 then (bif Nat.ble pc 14 then (bif Nat.beq pc 14 then some (.lload_n 2, 1, 15, [], 0) else none)
  else (bif Nat.beq pc 15 then some (.lstore 6, 2, 17, [], 0) else none))
  else (bif Nat.ble pc 17 then (bif Nat.beq pc 17 then some (.lload 6, 2, 19, [], 0) else none)
  else (bif Nat.beq pc 19 then some (.lconst 0, 1, 20, [], 0) else none))) : nk_F) pc) : nk_F) pc) : nk_F) pc
  else ((fun pc => bif Nat.ble pc 29 then ((fun pc => bif Nat.ble pc 24 then ((fun pc => bif Nat.ble pc 20 then (bif Nat.beq pc 20 then some (.lcmp, 1, 21, [], 0) else none)
  else (bif Nat.ble pc 21 then (bif Nat.beq pc 21 then some (.ifCond .eq 21, 3, 24, [42], 0) else none)
  else (bif Nat.beq pc 24 then some (.lload 4, 2, 26, [], 0) else none))) : nk_F) pc
  else ((fun pc => bif Nat.ble pc 26 then (bif Nat.beq pc 26 then some (.lload 6, 2, 28, [], 0) else none)
  else (bif Nat.ble pc 28 then (bif Nat.beq pc 28 then some (.lrem, 1, 29, [], 0) else none)
  else (bif Nat.beq pc 29 then some (.lstore 8, 2, 31, [], 0) else none))) : nk_F) pc) : nk_F) pc
  else ((fun pc => bif Nat.ble pc 35 then ((fun pc => bif Nat.ble pc 31 then (bif Nat.beq pc 31 then some (.lload 6, 2, 33, [], 0) else none)
  else (bif Nat.ble pc 33 then (bif Nat.beq pc 33 then some (.lstore 4, 2, 35, [], 0) else none)
  else (bif Nat.beq pc 35 then some (.lload 8, 2, 37, [], 0) else none))) : nk_F) pc
  else ((fun pc => bif Nat.ble pc 39 then (bif Nat.ble pc 37 then (bif Nat.beq pc 37 then some (.lstore 6, 2, 39, [], 0) else none)
  else (bif Nat.beq pc 39 then some (.goto (-22), 3, 42, [17], 0) else none))
  else (bif Nat.ble pc 42 then (bif Nat.beq pc 42 then some (.lload 4, 2, 44, [], 0) else none)
  else (bif Nat.beq pc 44 then some (.lreturn, 1, 45, [], 0) else none))) : nk_F) pc) : nk_F) pc) : nk_F) pc
noncomputable def kc_X6_divisor : Nat → Option nk_I := nk_top 45 kt_X6_divisor
noncomputable def kx_X6_divisor : nk_T := ([], [], [], [], [], [], [], 3, false, 0, 0)
noncomputable def ev_X6_divisor : nk_Ev := fun as h Q => nk_if (Nat.ble (nk_wd as) 10) (nk_ev kx_X6_divisor kc_X6_divisor 10 as h Q)
set_option maxRecDepth 100000 in
theorem ck_X6_divisor : nk_chk cX6_divisor kc_X6_divisor 45 = true := nd_chk (by decide +kernel) (by decide +kernel)
set_option maxRecDepth 100000 in
set_option maxHeartbeats 4000000 in
theorem mt_X6_divisor (l : Launch) : nk_Met l yX6_divisor cX6_divisor 10 (some .long) { frames := 0, cells := 0, slots := 0, locals := 0 } false 0 0 ev_X6_divisor :=
  nk_met nk_gok (plainFor_of_name (by decide)) ck_X6_divisor (nk_top_out 45 kt_X6_divisor) ⟨fun _ h => absurd h List.not_mem_nil, fun _ h => absurd h List.not_mem_nil, fun _ h => absurd h List.not_mem_nil, fun _ h => absurd h List.not_mem_nil, fun _ h => absurd h List.not_mem_nil, fun _ h => absurd h List.not_mem_nil, fun _ h => absurd h List.not_mem_nil, by decide, rfl, rfl⟩ rfl (by decide)
/-! MarbleLawModel.share(JJI)I -/
noncomputable def kt_X6_share : Nat → Option nk_I := fun pc => bif Nat.ble pc 11 then ((fun pc => bif Nat.ble pc 5 then ((fun pc => bif Nat.ble pc 1 then (bif Nat.ble pc 0 then (bif Nat.beq pc 0 then some (.lload_n 1, 1, 1, [], 0) else none)
  else (bif Nat.beq pc 1 then some (.lload_n 3, 1, 2, [], 0) else none))
  else (bif Nat.ble pc 2 then (bif Nat.beq pc 2 then some (.invokestatic 82, 3, 5, [], 0) else none)
  else (bif Nat.beq pc 5 then some (.lstore 6, 2, 7, [], 0) else none))) : nk_F) pc
  else ((fun pc => bif Nat.ble pc 8 then (bif Nat.ble pc 7 then (bif Nat.beq pc 7 then some (.aload_n 0, 1, 8, [], 0) else none)
  else (bif Nat.beq pc 8 then some (.lload_n 1, 1, 9, [], 0) else none))
  else (bif Nat.ble pc 9 then (bif Nat.beq pc 9 then some (.lload 6, 2, 11, [], 0) else none)
  else (bif Nat.beq pc 11 then some (.ldiv, 1, 12, [], 0) else none))) : nk_F) pc) : nk_F) pc
  else ((fun pc => bif Nat.ble pc 17 then ((fun pc => bif Nat.ble pc 15 then (bif Nat.ble pc 12 then (bif Nat.beq pc 12 then some (.putfield 86, 3, 15, [], 0) else none)
  else (bif Nat.beq pc 15 then some (.aload_n 0, 1, 16, [], 0) else none))
  else (bif Nat.ble pc 16 then (bif Nat.beq pc 16 then some (.lload_n 3, 1, 17, [], 0) else none)
  else (bif Nat.beq pc 17 then some (.lload 6, 2, 19, [], 0) else none))) : nk_F) pc
  else ((fun pc => bif Nat.ble pc 20 then (bif Nat.ble pc 19 then (bif Nat.beq pc 19 then some (.ldiv, 1, 20, [], 0) else none)
  else (bif Nat.beq pc 20 then some (.putfield 13, 3, 23, [], 0) else none))
  else (bif Nat.ble pc 23 then (bif Nat.beq pc 23 then some (.iload 5, 2, 25, [], 0) else none)
  else (bif Nat.beq pc 25 then some (.ireturn, 1, 26, [], 0) else none))) : nk_F) pc) : nk_F) pc
noncomputable def kc_X6_share : Nat → Option nk_I := nk_top 26 kt_X6_share
noncomputable def kx_X6_share : nk_T := ([(86, 6, 3, 2), (13, 6, 4, 2)], [(330, 2, 0, 0, 0, ev_X6_divisor)], [], [], [], [], [], 1, false, 0, 0)
noncomputable def ev_X6_share : nk_Ev := fun as h Q => nk_if (Nat.ble (nk_wd as) 8) (nk_ev kx_X6_share kc_X6_share 8 as h Q)
set_option maxRecDepth 100000 in
theorem ck_X6_share : nk_chk cX6_share kc_X6_share 26 = true := nd_chk (by decide +kernel) (by decide +kernel)
set_option maxRecDepth 100000 in
set_option maxHeartbeats 4000000 in
theorem ca_X6_share_330 (l : Launch) : nk_CallOk l { frames := 1, cells := 0, slots := 0, locals := 29 } RX6 cX6_share 8 false 330 (2, 0, 0, 0, ev_X6_divisor) := nk_callS (x := 82) (n := 2) (mt_X6_divisor l) (nk_msc [(4, 239), (5, 0), (5, 1), (1, 7)] (by decide +kernel)) rfl rfl (by decide +kernel) ⟨by decide, by decide⟩
set_option maxRecDepth 100000 in
set_option maxHeartbeats 4000000 in
theorem mt_X6_share (l : Launch) : nk_Met l yX6_share cX6_share 8 (some .int) { frames := 1, cells := 0, slots := 0, locals := 29 } false 0 0 ev_X6_share :=
  nk_met nk_gok (plainFor_of_name (by decide)) ck_X6_share (nk_top_out 26 kt_X6_share) ⟨List.forall_mem_cons.mpr ⟨nk_fkc [(3, 196)] (by decide +kernel), List.forall_mem_cons.mpr ⟨nk_fkc [(3, 197)] (by decide +kernel), fun _ h => absurd h List.not_mem_nil⟩⟩, List.forall_mem_cons.mpr ⟨ca_X6_share_330 l, fun _ h => absurd h List.not_mem_nil⟩, fun _ h => absurd h List.not_mem_nil, fun _ h => absurd h List.not_mem_nil, fun _ h => absurd h List.not_mem_nil, fun _ h => absurd h List.not_mem_nil, fun _ h => absurd h List.not_mem_nil, by decide, rfl, rfl⟩ rfl (by decide)
/-! MarbleLawModel.isRow(I)Z -/
noncomputable def kt_X6_isRow : Nat → Option nk_I := fun pc => bif Nat.ble pc 1 then (bif Nat.ble pc 0 then (bif Nat.beq pc 0 then some (.iload_n 0, 1, 1, [], 0) else none)
  else (bif Nat.beq pc 1 then some (.iconst 0, 1, 2, [], 0) else none))
  else ((fun pc => bif Nat.ble pc 2 then (bif Nat.beq pc 2 then some (.iconst 5, 1, 3, [], 5) else none)
  else (bif Nat.ble pc 3 then (bif Nat.beq pc 3 then some (.invokestatic 89, 3, 6, [], 0) else none)
  else (bif Nat.beq pc 6 then some (.ireturn, 1, 7, [], 0) else none))) : nk_F) pc
noncomputable def kc_X6_isRow : Nat → Option nk_I := nk_top 7 kt_X6_isRow
noncomputable def kx_X6_isRow : nk_T := ([], [(358, 3, 0, 0, 0, ev_X6_in)], [], [], [], [], [], 2, false, 0, 0)
noncomputable def ev_X6_isRow : nk_Ev := fun as h Q => nk_if (Nat.ble (nk_wd as) 1) (nk_ev kx_X6_isRow kc_X6_isRow 1 as h Q)
set_option maxRecDepth 100000 in
theorem ck_X6_isRow : nk_chk cX6_isRow kc_X6_isRow 7 = true := nd_chk (by decide +kernel) (by decide +kernel)
set_option maxRecDepth 100000 in
set_option maxHeartbeats 4000000 in
theorem ca_X6_isRow_358 (l : Launch) : nk_CallOk l { frames := 1, cells := 0, slots := 0, locals := 22 } RX6 cX6_isRow 1 false 358 (3, 0, 0, 0, ev_X6_in) := nk_callS (x := 89) (n := 3) (mt_X6_in l) (nk_msc [(4, 57), (4, 58), (4, 59), (1, 7)] (by decide +kernel)) rfl rfl (by decide +kernel) ⟨by decide, by decide⟩
set_option maxRecDepth 100000 in
set_option maxHeartbeats 4000000 in
theorem mt_X6_isRow (l : Launch) : nk_Met l yX6_isRow cX6_isRow 1 (some .boolean) { frames := 1, cells := 0, slots := 0, locals := 22 } false 0 0 ev_X6_isRow :=
  nk_met nk_gok (plainFor_of_name (by decide)) ck_X6_isRow (nk_top_out 7 kt_X6_isRow) ⟨fun _ h => absurd h List.not_mem_nil, List.forall_mem_cons.mpr ⟨ca_X6_isRow_358 l, fun _ h => absurd h List.not_mem_nil⟩, fun _ h => absurd h List.not_mem_nil, fun _ h => absurd h List.not_mem_nil, fun _ h => absurd h List.not_mem_nil, fun _ h => absurd h List.not_mem_nil, fun _ h => absurd h List.not_mem_nil, by decide, rfl, rfl⟩ rfl (by decide)
/-! MarbleLawModel.isText(I)Z -/
noncomputable def kt_X6_isText : Nat → Option nk_I := fun pc => bif Nat.ble pc 1 then (bif Nat.ble pc 0 then (bif Nat.beq pc 0 then some (.iload_n 0, 1, 1, [], 0) else none)
  else (bif Nat.beq pc 1 then some (.iconst 0, 1, 2, [], 0) else none))
  else ((fun pc => bif Nat.ble pc 2 then (bif Nat.beq pc 2 then some (.iconst 3, 1, 3, [], 3) else none)
  else (bif Nat.ble pc 3 then (bif Nat.beq pc 3 then some (.invokestatic 89, 3, 6, [], 0) else none)
  else (bif Nat.beq pc 6 then some (.ireturn, 1, 7, [], 0) else none))) : nk_F) pc
noncomputable def kc_X6_isText : Nat → Option nk_I := nk_top 7 kt_X6_isText
noncomputable def kx_X6_isText : nk_T := ([], [(358, 3, 0, 0, 0, ev_X6_in)], [], [], [], [], [], 2, false, 0, 0)
noncomputable def ev_X6_isText : nk_Ev := fun as h Q => nk_if (Nat.ble (nk_wd as) 1) (nk_ev kx_X6_isText kc_X6_isText 1 as h Q)
set_option maxRecDepth 100000 in
theorem ck_X6_isText : nk_chk cX6_isText kc_X6_isText 7 = true := nd_chk (by decide +kernel) (by decide +kernel)
set_option maxRecDepth 100000 in
set_option maxHeartbeats 4000000 in
theorem ca_X6_isText_358 (l : Launch) : nk_CallOk l { frames := 1, cells := 0, slots := 0, locals := 22 } RX6 cX6_isText 1 false 358 (3, 0, 0, 0, ev_X6_in) := nk_callS (x := 89) (n := 3) (mt_X6_in l) (nk_msc [(4, 57), (4, 58), (4, 59), (1, 7)] (by decide +kernel)) rfl rfl (by decide +kernel) ⟨by decide, by decide⟩
set_option maxRecDepth 100000 in
set_option maxHeartbeats 4000000 in
theorem mt_X6_isText (l : Launch) : nk_Met l yX6_isText cX6_isText 1 (some .boolean) { frames := 1, cells := 0, slots := 0, locals := 22 } false 0 0 ev_X6_isText :=
  nk_met nk_gok (plainFor_of_name (by decide)) ck_X6_isText (nk_top_out 7 kt_X6_isText) ⟨fun _ h => absurd h List.not_mem_nil, List.forall_mem_cons.mpr ⟨ca_X6_isText_358 l, fun _ h => absurd h List.not_mem_nil⟩, fun _ h => absurd h List.not_mem_nil, fun _ h => absurd h List.not_mem_nil, fun _ h => absurd h List.not_mem_nil, fun _ h => absurd h List.not_mem_nil, fun _ h => absurd h List.not_mem_nil, by decide, rfl, rfl⟩ rfl (by decide)
/-! MarbleLawModel.askedRow(I)I -/
noncomputable def kt_X6_askedRow : Nat → Option nk_I := fun pc => bif Nat.ble pc 15 then ((fun pc => bif Nat.ble pc 7 then ((fun pc => bif Nat.ble pc 1 then (bif Nat.ble pc 0 then (bif Nat.beq pc 0 then some (.iload_n 1, 1, 1, [], 0) else none)
  else (bif Nat.beq pc 1 then some (.invokestatic 93, 3, 4, [], 0) else none))
  else (bif Nat.ble pc 4 then (bif Nat.beq pc 4 then some (.ifCond .ne 7, 3, 7, [11], 0) else none)
  else (bif Nat.beq pc 7 then some (.iconst (-1), 1, 8, [], (-1)) else none))) : nk_F) pc
  else ((fun pc => bif Nat.ble pc 11 then (bif Nat.ble pc 8 then (bif Nat.beq pc 8 then some (.goto 21, 3, 11, [29], 0) else none)
  else (bif Nat.beq pc 11 then some (.aload_n 0, 1, 12, [], 0) else none))
  else (bif Nat.ble pc 12 then (bif Nat.beq pc 12 then some (.getfield 17, 3, 15, [], 0) else none)
  else (bif Nat.beq pc 15 then some (.iload_n 1, 1, 16, [], 0) else none))) : nk_F) pc) : nk_F) pc
  else ((fun pc => bif Nat.ble pc 21 then ((fun pc => bif Nat.ble pc 17 then (bif Nat.ble pc 16 then (bif Nat.beq pc 16 then some (.iaload, 1, 17, [], 0) else none)
  else (bif Nat.beq pc 17 then some (.ifCond .ge 11, 3, 20, [28], 0) else none))
  else (bif Nat.ble pc 20 then (bif Nat.beq pc 20 then some (.aload_n 0, 1, 21, [], 0) else none)
  else (bif Nat.beq pc 21 then some (.iconst 1, 1, 22, [], 1) else none))) : nk_F) pc
  else ((fun pc => bif Nat.ble pc 25 then (bif Nat.ble pc 22 then (bif Nat.beq pc 22 then some (.invokevirtual 97, 3, 25, [], 0) else none)
  else (bif Nat.beq pc 25 then some (.goto 4, 3, 28, [29], 0) else none))
  else (bif Nat.ble pc 28 then (bif Nat.beq pc 28 then some (.iconst 0, 1, 29, [], 0) else none)
  else (bif Nat.beq pc 29 then some (.ireturn, 1, 30, [], 0) else none))) : nk_F) pc) : nk_F) pc
noncomputable def kc_X6_askedRow : Nat → Option nk_I := nk_top 30 kt_X6_askedRow
noncomputable def kx_X6_askedRow : nk_T := ([(17, 6, 5, 4)], [(374, 1, 0, 0, 0, ev_X6_isRow), (388, 2, 7, 0, 0, ev_X6_meets)], [], [], [], [], [], 1, false, 0, 0)
noncomputable def ev_X6_askedRow : nk_Ev := fun as h Q => nk_if (Nat.ble (nk_wd as) 2) (nk_ev kx_X6_askedRow kc_X6_askedRow 2 as h Q)
set_option maxRecDepth 100000 in
theorem ck_X6_askedRow : nk_chk cX6_askedRow kc_X6_askedRow 30 = true := nd_chk (by decide +kernel) (by decide +kernel)
set_option maxRecDepth 100000 in
set_option maxHeartbeats 4000000 in
theorem ca_X6_askedRow_374 (l : Launch) : nk_CallOk l { frames := 2, cells := 0, slots := 0, locals := 42 } RX6 cX6_askedRow 2 false 374 (1, 0, 0, 0, ev_X6_isRow) := nk_callS (x := 93) (n := 1) (mt_X6_isRow l) (nk_msc [(4, 54), (4, 55), (4, 56), (1, 7)] (by decide +kernel)) rfl rfl (by decide +kernel) ⟨by decide, by decide⟩
set_option maxRecDepth 100000 in
set_option maxHeartbeats 4000000 in
theorem ca_X6_askedRow_388 (l : Launch) : nk_CallOk l { frames := 2, cells := 0, slots := 0, locals := 42 } RX6 cX6_askedRow 2 false 388 (2, 7, 0, 0, ev_X6_meets) := nk_callV (x := 97) (n := 1) (ci := 6) (r := (RX6, TX6, 32)) (mt_X6_meets l) rfl (nk_msc [(4, 60), (4, 61), (4, 62), (4, 63), (0, 26), (1, 7)] (by decide +kernel)) rfl rfl (by decide +kernel) ⟨by decide, by decide⟩
set_option maxRecDepth 100000 in
set_option maxHeartbeats 4000000 in
theorem mt_X6_askedRow (l : Launch) : nk_Met l yX6_askedRow cX6_askedRow 2 (some .int) { frames := 2, cells := 0, slots := 0, locals := 42 } false 0 0 ev_X6_askedRow :=
  nk_met nk_gok (plainFor_of_name (by decide)) ck_X6_askedRow (nk_top_out 30 kt_X6_askedRow) ⟨List.forall_mem_cons.mpr ⟨nk_fkc [(3, 198)] (by decide +kernel), fun _ h => absurd h List.not_mem_nil⟩, List.forall_mem_cons.mpr ⟨ca_X6_askedRow_374 l, List.forall_mem_cons.mpr ⟨ca_X6_askedRow_388 l, fun _ h => absurd h List.not_mem_nil⟩⟩, fun _ h => absurd h List.not_mem_nil, fun _ h => absurd h List.not_mem_nil, fun _ h => absurd h List.not_mem_nil, fun _ h => absurd h List.not_mem_nil, fun _ h => absurd h List.not_mem_nil, by decide, rfl, rfl⟩ rfl (by decide)
/-! MarbleLawModel.askedText(I)I -/
noncomputable def kt_X6_askedText : Nat → Option nk_I := fun pc => bif Nat.ble pc 15 then ((fun pc => bif Nat.ble pc 7 then ((fun pc => bif Nat.ble pc 1 then (bif Nat.ble pc 0 then (bif Nat.beq pc 0 then some (.iload_n 1, 1, 1, [], 0) else none)
  else (bif Nat.beq pc 1 then some (.invokestatic 101, 3, 4, [], 0) else none))
  else (bif Nat.ble pc 4 then (bif Nat.beq pc 4 then some (.ifCond .ne 7, 3, 7, [11], 0) else none)
  else (bif Nat.beq pc 7 then some (.iconst (-1), 1, 8, [], (-1)) else none))) : nk_F) pc
  else ((fun pc => bif Nat.ble pc 11 then (bif Nat.ble pc 8 then (bif Nat.beq pc 8 then some (.goto 21, 3, 11, [29], 0) else none)
  else (bif Nat.beq pc 11 then some (.aload_n 0, 1, 12, [], 0) else none))
  else (bif Nat.ble pc 12 then (bif Nat.beq pc 12 then some (.getfield 26, 3, 15, [], 0) else none)
  else (bif Nat.beq pc 15 then some (.iload_n 1, 1, 16, [], 0) else none))) : nk_F) pc) : nk_F) pc
  else ((fun pc => bif Nat.ble pc 21 then ((fun pc => bif Nat.ble pc 17 then (bif Nat.ble pc 16 then (bif Nat.beq pc 16 then some (.iaload, 1, 17, [], 0) else none)
  else (bif Nat.beq pc 17 then some (.ifCond .ge 11, 3, 20, [28], 0) else none))
  else (bif Nat.ble pc 20 then (bif Nat.beq pc 20 then some (.aload_n 0, 1, 21, [], 0) else none)
  else (bif Nat.beq pc 21 then some (.iconst 1, 1, 22, [], 1) else none))) : nk_F) pc
  else ((fun pc => bif Nat.ble pc 25 then (bif Nat.ble pc 22 then (bif Nat.beq pc 22 then some (.invokevirtual 97, 3, 25, [], 0) else none)
  else (bif Nat.beq pc 25 then some (.goto 4, 3, 28, [29], 0) else none))
  else (bif Nat.ble pc 28 then (bif Nat.beq pc 28 then some (.iconst 0, 1, 29, [], 0) else none)
  else (bif Nat.beq pc 29 then some (.ireturn, 1, 30, [], 0) else none))) : nk_F) pc) : nk_F) pc
noncomputable def kc_X6_askedText : Nat → Option nk_I := nk_top 30 kt_X6_askedText
noncomputable def kx_X6_askedText : nk_T := ([(26, 6, 8, 4)], [(406, 1, 0, 0, 0, ev_X6_isText), (388, 2, 7, 0, 0, ev_X6_meets)], [], [], [], [], [], 1, false, 0, 0)
noncomputable def ev_X6_askedText : nk_Ev := fun as h Q => nk_if (Nat.ble (nk_wd as) 2) (nk_ev kx_X6_askedText kc_X6_askedText 2 as h Q)
set_option maxRecDepth 100000 in
theorem ck_X6_askedText : nk_chk cX6_askedText kc_X6_askedText 30 = true := nd_chk (by decide +kernel) (by decide +kernel)
set_option maxRecDepth 100000 in
set_option maxHeartbeats 4000000 in
theorem ca_X6_askedText_406 (l : Launch) : nk_CallOk l { frames := 2, cells := 0, slots := 0, locals := 42 } RX6 cX6_askedText 2 false 406 (1, 0, 0, 0, ev_X6_isText) := nk_callS (x := 101) (n := 1) (mt_X6_isText l) (nk_msc [(4, 101), (4, 102), (4, 103), (1, 7)] (by decide +kernel)) rfl rfl (by decide +kernel) ⟨by decide, by decide⟩
set_option maxRecDepth 100000 in
set_option maxHeartbeats 4000000 in
theorem ca_X6_askedText_388 (l : Launch) : nk_CallOk l { frames := 2, cells := 0, slots := 0, locals := 42 } RX6 cX6_askedText 2 false 388 (2, 7, 0, 0, ev_X6_meets) := nk_callV (x := 97) (n := 1) (ci := 6) (r := (RX6, TX6, 32)) (mt_X6_meets l) rfl (nk_msc [(4, 60), (4, 61), (4, 62), (4, 63), (0, 26), (1, 7)] (by decide +kernel)) rfl rfl (by decide +kernel) ⟨by decide, by decide⟩
set_option maxRecDepth 100000 in
set_option maxHeartbeats 4000000 in
theorem mt_X6_askedText (l : Launch) : nk_Met l yX6_askedText cX6_askedText 2 (some .int) { frames := 2, cells := 0, slots := 0, locals := 42 } false 0 0 ev_X6_askedText :=
  nk_met nk_gok (plainFor_of_name (by decide)) ck_X6_askedText (nk_top_out 30 kt_X6_askedText) ⟨List.forall_mem_cons.mpr ⟨nk_fkc [(3, 201)] (by decide +kernel), fun _ h => absurd h List.not_mem_nil⟩, List.forall_mem_cons.mpr ⟨ca_X6_askedText_406 l, List.forall_mem_cons.mpr ⟨ca_X6_askedText_388 l, fun _ h => absurd h List.not_mem_nil⟩⟩, fun _ h => absurd h List.not_mem_nil, fun _ h => absurd h List.not_mem_nil, fun _ h => absurd h List.not_mem_nil, fun _ h => absurd h List.not_mem_nil, fun _ h => absurd h List.not_mem_nil, by decide, rfl, rfl⟩ rfl (by decide)
/-! MarbleLawModel.rowAt(II)I -/
noncomputable def kt_X6_rowAt : Nat → Option nk_I := fun pc => bif Nat.ble pc 6 then ((fun pc => bif Nat.ble pc 1 then (bif Nat.ble pc 0 then (bif Nat.beq pc 0 then some (.aload_n 0, 1, 1, [], 0) else none)
  else (bif Nat.beq pc 1 then some (.getfield 20, 3, 4, [], 0) else none))
  else (bif Nat.ble pc 4 then (bif Nat.beq pc 4 then some (.bipush 40, 2, 6, [], 40) else none)
  else (bif Nat.beq pc 6 then some (.iload_n 1, 1, 7, [], 0) else none))) : nk_F) pc
  else ((fun pc => bif Nat.ble pc 8 then (bif Nat.ble pc 7 then (bif Nat.beq pc 7 then some (.imul, 1, 8, [], 0) else none)
  else (bif Nat.beq pc 8 then some (.iload_n 2, 1, 9, [], 0) else none))
  else ((fun pc => bif Nat.ble pc 9 then (bif Nat.beq pc 9 then some (.iadd, 1, 10, [], 0) else none)
  else (bif Nat.ble pc 10 then (bif Nat.beq pc 10 then some (.iaload, 1, 11, [], 0) else none)
  else (bif Nat.beq pc 11 then some (.ireturn, 1, 12, [], 0) else none))) : nk_F) pc) : nk_F) pc
noncomputable def kc_X6_rowAt : Nat → Option nk_I := nk_top 12 kt_X6_rowAt
noncomputable def kx_X6_rowAt : nk_T := ([(20, 6, 6, 4)], [], [], [], [], [], [], 1, false, 0, 0)
noncomputable def ev_X6_rowAt : nk_Ev := fun as h Q => nk_if (Nat.ble (nk_wd as) 3) (nk_ev kx_X6_rowAt kc_X6_rowAt 3 as h Q)
set_option maxRecDepth 100000 in
theorem ck_X6_rowAt : nk_chk cX6_rowAt kc_X6_rowAt 12 = true := nd_chk (by decide +kernel) (by decide +kernel)
set_option maxRecDepth 100000 in
set_option maxHeartbeats 4000000 in
theorem mt_X6_rowAt (l : Launch) : nk_Met l yX6_rowAt cX6_rowAt 3 (some .int) { frames := 0, cells := 0, slots := 0, locals := 0 } false 0 0 ev_X6_rowAt :=
  nk_met nk_gok (plainFor_of_name (by decide)) ck_X6_rowAt (nk_top_out 12 kt_X6_rowAt) ⟨List.forall_mem_cons.mpr ⟨nk_fkc [(3, 199)] (by decide +kernel), fun _ h => absurd h List.not_mem_nil⟩, fun _ h => absurd h List.not_mem_nil, fun _ h => absurd h List.not_mem_nil, fun _ h => absurd h List.not_mem_nil, fun _ h => absurd h List.not_mem_nil, fun _ h => absurd h List.not_mem_nil, fun _ h => absurd h List.not_mem_nil, by decide, rfl, rfl⟩ rfl (by decide)
/-! MarbleLawModel.row(II)I -/
noncomputable def kt_X6_row : Nat → Option nk_I := fun pc => bif Nat.ble pc 30 then ((fun pc => bif Nat.ble pc 15 then ((fun pc => bif Nat.ble pc 7 then ((fun pc => bif Nat.ble pc 1 then (bif Nat.ble pc 0 then (bif Nat.beq pc 0 then some (.iload_n 1, 1, 1, [], 0) else none)
  else (bif Nat.beq pc 1 then some (.invokestatic 93, 3, 4, [], 0) else none))
  else (bif Nat.ble pc 4 then (bif Nat.beq pc 4 then some (.ifCond .eq 9, 3, 7, [13], 0) else none)
  else (bif Nat.beq pc 7 then some (.iload_n 2, 1, 8, [], 0) else none))) : nk_F) pc
  else ((fun pc => bif Nat.ble pc 10 then (bif Nat.ble pc 8 then (bif Nat.beq pc 8 then some (.bipush 40, 2, 10, [], 40) else none)
  else (bif Nat.beq pc 10 then some (.if_icmp .le 5, 3, 13, [15], 0) else none))
  else ((fun pc => bif Nat.ble pc 13 then (bif Nat.beq pc 13 then some (.iconst (-1), 1, 14, [], (-1)) else none)
  else (bif Nat.ble pc 14 then (bif Nat.beq pc 14 then some (.ireturn, 1, 15, [], 0) else none)
  else (bif Nat.beq pc 15 then some (.iload_n 2, 1, 16, [], 0) else none))) : nk_F) pc) : nk_F) pc) : nk_F) pc
  else ((fun pc => bif Nat.ble pc 21 then ((fun pc => bif Nat.ble pc 19 then (bif Nat.ble pc 16 then (bif Nat.beq pc 16 then some (.ifCond .ge 9, 3, 19, [25], 0) else none)
  else (bif Nat.beq pc 19 then some (.aload_n 0, 1, 20, [], 0) else none))
  else (bif Nat.ble pc 20 then (bif Nat.beq pc 20 then some (.iconst 5, 1, 21, [], 5) else none)
  else (bif Nat.beq pc 21 then some (.invokevirtual 97, 3, 24, [], 0) else none))) : nk_F) pc
  else ((fun pc => bif Nat.ble pc 25 then (bif Nat.ble pc 24 then (bif Nat.beq pc 24 then some (.ireturn, 1, 25, [], 0) else none)
  else (bif Nat.beq pc 25 then some (.aload_n 0, 1, 26, [], 0) else none))
  else ((fun pc => bif Nat.ble pc 26 then (bif Nat.beq pc 26 then some (.getfield 17, 3, 29, [], 0) else none)
  else (bif Nat.ble pc 29 then (bif Nat.beq pc 29 then some (.iload_n 1, 1, 30, [], 0) else none)
  else (bif Nat.beq pc 30 then some (.iload_n 2, 1, 31, [], 0) else none))) : nk_F) pc) : nk_F) pc) : nk_F) pc) : nk_F) pc
  else ((fun pc => bif Nat.ble pc 44 then ((fun pc => bif Nat.ble pc 34 then ((fun pc => bif Nat.ble pc 32 then (bif Nat.ble pc 31 then (bif Nat.beq pc 31 then some (.iastore, 1, 32, [], 0) else none)
  else (bif Nat.beq pc 32 then some (.iconst 0, 1, 33, [], 0) else none))
  else (bif Nat.ble pc 33 then (bif Nat.beq pc 33 then some (.istore_n 3, 1, 34, [], 0) else none)
  else (bif Nat.beq pc 34 then some (.iload_n 3, 1, 35, [], 0) else none))) : nk_F) pc
  else ((fun pc => bif Nat.ble pc 37 then (bif Nat.ble pc 35 then (bif Nat.beq pc 35 then some (.bipush 40, 2, 37, [], 40) else none)
  else (bif Nat.beq pc 37 then some (.if_icmp .ge 21, 3, 40, [58], 0) else none))
  else ((fun pc => bif Nat.ble pc 40 then (bif Nat.beq pc 40 then some (.aload_n 0, 1, 41, [], 0) else none)
  else (bif Nat.ble pc 41 then (bif Nat.beq pc 41 then some (.getfield 20, 3, 44, [], 0) else none)
  else (bif Nat.beq pc 44 then some (.bipush 40, 2, 46, [], 40) else none))) : nk_F) pc) : nk_F) pc) : nk_F) pc
  else ((fun pc => bif Nat.ble pc 50 then ((fun pc => bif Nat.ble pc 47 then (bif Nat.ble pc 46 then (bif Nat.beq pc 46 then some (.iload_n 1, 1, 47, [], 0) else none)
  else (bif Nat.beq pc 47 then some (.imul, 1, 48, [], 0) else none))
  else ((fun pc => bif Nat.ble pc 48 then (bif Nat.beq pc 48 then some (.iload_n 3, 1, 49, [], 0) else none)
  else (bif Nat.ble pc 49 then (bif Nat.beq pc 49 then some (.iadd, 1, 50, [], 0) else none)
  else (bif Nat.beq pc 50 then some (.iconst 0, 1, 51, [], 0) else none))) : nk_F) pc) : nk_F) pc
  else ((fun pc => bif Nat.ble pc 52 then (bif Nat.ble pc 51 then (bif Nat.beq pc 51 then some (.iastore, 1, 52, [], 0) else none)
  else (bif Nat.beq pc 52 then some (.iinc 3 1, 3, 55, [], 1) else none))
  else ((fun pc => bif Nat.ble pc 55 then (bif Nat.beq pc 55 then some (.goto (-21), 3, 58, [34], 0) else none)
  else (bif Nat.ble pc 58 then (bif Nat.beq pc 58 then some (.iload_n 2, 1, 59, [], 0) else none)
  else (bif Nat.beq pc 59 then some (.ireturn, 1, 60, [], 0) else none))) : nk_F) pc) : nk_F) pc) : nk_F) pc) : nk_F) pc
noncomputable def kc_X6_row : Nat → Option nk_I := nk_top 60 kt_X6_row
noncomputable def kx_X6_row : nk_T := ([(17, 6, 5, 4), (20, 6, 6, 4)], [(374, 1, 0, 0, 0, ev_X6_isRow), (388, 2, 7, 0, 0, ev_X6_meets)], [], [], [], [], [], 1, false, 0, 0)
noncomputable def ev_X6_row : nk_Ev := fun as h Q => nk_if (Nat.ble (nk_wd as) 4) (nk_ev kx_X6_row kc_X6_row 4 as h Q)
set_option maxRecDepth 100000 in
theorem ck_X6_row : nk_chk cX6_row kc_X6_row 60 = true := nd_chk (by decide +kernel) (by decide +kernel)
set_option maxRecDepth 100000 in
set_option maxHeartbeats 4000000 in
theorem ca_X6_row_374 (l : Launch) : nk_CallOk l { frames := 2, cells := 0, slots := 0, locals := 42 } RX6 cX6_row 4 false 374 (1, 0, 0, 0, ev_X6_isRow) := nk_callS (x := 93) (n := 1) (mt_X6_isRow l) (nk_msc [(4, 54), (4, 55), (4, 56), (1, 7)] (by decide +kernel)) rfl rfl (by decide +kernel) ⟨by decide, by decide⟩
set_option maxRecDepth 100000 in
set_option maxHeartbeats 4000000 in
theorem ca_X6_row_388 (l : Launch) : nk_CallOk l { frames := 2, cells := 0, slots := 0, locals := 42 } RX6 cX6_row 4 false 388 (2, 7, 0, 0, ev_X6_meets) := nk_callV (x := 97) (n := 1) (ci := 6) (r := (RX6, TX6, 32)) (mt_X6_meets l) rfl (nk_msc [(4, 60), (4, 61), (4, 62), (4, 63), (0, 26), (1, 7)] (by decide +kernel)) rfl rfl (by decide +kernel) ⟨by decide, by decide⟩
set_option maxRecDepth 100000 in
set_option maxHeartbeats 4000000 in
theorem mt_X6_row (l : Launch) : nk_Met l yX6_row cX6_row 4 (some .int) { frames := 2, cells := 0, slots := 0, locals := 42 } false 0 0 ev_X6_row :=
  nk_met nk_gok (plainFor_of_name (by decide)) ck_X6_row (nk_top_out 60 kt_X6_row) ⟨List.forall_mem_cons.mpr ⟨nk_fkc [(3, 198)] (by decide +kernel), List.forall_mem_cons.mpr ⟨nk_fkc [(3, 199)] (by decide +kernel), fun _ h => absurd h List.not_mem_nil⟩⟩, List.forall_mem_cons.mpr ⟨ca_X6_row_374 l, List.forall_mem_cons.mpr ⟨ca_X6_row_388 l, fun _ h => absurd h List.not_mem_nil⟩⟩, fun _ h => absurd h List.not_mem_nil, fun _ h => absurd h List.not_mem_nil, fun _ h => absurd h List.not_mem_nil, fun _ h => absurd h List.not_mem_nil, fun _ h => absurd h List.not_mem_nil, by decide, rfl, rfl⟩ rfl (by decide)
/-! MarbleLawModel.at(II)I -/
noncomputable def kt_X6_at : Nat → Option nk_I := fun pc => bif Nat.ble pc 20 then ((fun pc => bif Nat.ble pc 10 then ((fun pc => bif Nat.ble pc 2 then ((fun pc => bif Nat.ble pc 0 then (bif Nat.beq pc 0 then some (.aload_n 0, 1, 1, [], 0) else none)
  else (bif Nat.ble pc 1 then (bif Nat.beq pc 1 then some (.iload_n 1, 1, 2, [], 0) else none)
  else (bif Nat.beq pc 2 then some (.invokevirtual 104, 3, 5, [], 0) else none))) : nk_F) pc
  else ((fun pc => bif Nat.ble pc 6 then (bif Nat.ble pc 5 then (bif Nat.beq pc 5 then some (.istore_n 3, 1, 6, [], 0) else none)
  else (bif Nat.beq pc 6 then some (.iload_n 3, 1, 7, [], 0) else none))
  else (bif Nat.ble pc 7 then (bif Nat.beq pc 7 then some (.ifCond .ge 5, 3, 10, [12], 0) else none)
  else (bif Nat.beq pc 10 then some (.iload_n 3, 1, 11, [], 0) else none))) : nk_F) pc) : nk_F) pc
  else ((fun pc => bif Nat.ble pc 14 then ((fun pc => bif Nat.ble pc 12 then (bif Nat.ble pc 11 then (bif Nat.beq pc 11 then some (.ireturn, 1, 12, [], 0) else none)
  else (bif Nat.beq pc 12 then some (.iload_n 2, 1, 13, [], 0) else none))
  else (bif Nat.ble pc 13 then (bif Nat.beq pc 13 then some (.iconst 0, 1, 14, [], 0) else none)
  else (bif Nat.beq pc 14 then some (.aload_n 0, 1, 15, [], 0) else none))) : nk_F) pc
  else ((fun pc => bif Nat.ble pc 18 then (bif Nat.ble pc 15 then (bif Nat.beq pc 15 then some (.getfield 17, 3, 18, [], 0) else none)
  else (bif Nat.beq pc 18 then some (.iload_n 1, 1, 19, [], 0) else none))
  else (bif Nat.ble pc 19 then (bif Nat.beq pc 19 then some (.iaload, 1, 20, [], 0) else none)
  else (bif Nat.beq pc 20 then some (.iconst 1, 1, 21, [], 1) else none))) : nk_F) pc) : nk_F) pc) : nk_F) pc
  else ((fun pc => bif Nat.ble pc 31 then ((fun pc => bif Nat.ble pc 25 then ((fun pc => bif Nat.ble pc 21 then (bif Nat.beq pc 21 then some (.isub, 1, 22, [], 0) else none)
  else (bif Nat.ble pc 22 then (bif Nat.beq pc 22 then some (.invokestatic 89, 3, 25, [], 0) else none)
  else (bif Nat.beq pc 25 then some (.ifCond .eq 17, 3, 28, [42], 0) else none))) : nk_F) pc
  else ((fun pc => bif Nat.ble pc 29 then (bif Nat.ble pc 28 then (bif Nat.beq pc 28 then some (.aload_n 0, 1, 29, [], 0) else none)
  else (bif Nat.beq pc 29 then some (.aload_n 0, 1, 30, [], 0) else none))
  else (bif Nat.ble pc 30 then (bif Nat.beq pc 30 then some (.iload_n 1, 1, 31, [], 0) else none)
  else (bif Nat.beq pc 31 then some (.iload_n 2, 1, 32, [], 0) else none))) : nk_F) pc) : nk_F) pc
  else ((fun pc => bif Nat.ble pc 39 then ((fun pc => bif Nat.ble pc 35 then (bif Nat.ble pc 32 then (bif Nat.beq pc 32 then some (.invokevirtual 107, 3, 35, [], 0) else none)
  else (bif Nat.beq pc 35 then some (.iconst 1, 1, 36, [], 1) else none))
  else (bif Nat.ble pc 36 then (bif Nat.beq pc 36 then some (.invokevirtual 111, 3, 39, [], 0) else none)
  else (bif Nat.beq pc 39 then some (.goto 8, 3, 42, [47], 0) else none))) : nk_F) pc
  else ((fun pc => bif Nat.ble pc 43 then (bif Nat.ble pc 42 then (bif Nat.beq pc 42 then some (.aload_n 0, 1, 43, [], 0) else none)
  else (bif Nat.beq pc 43 then some (.iconst 2, 1, 44, [], 2) else none))
  else (bif Nat.ble pc 44 then (bif Nat.beq pc 44 then some (.invokevirtual 97, 3, 47, [], 0) else none)
  else (bif Nat.beq pc 47 then some (.ireturn, 1, 48, [], 0) else none))) : nk_F) pc) : nk_F) pc) : nk_F) pc
noncomputable def kc_X6_at : Nat → Option nk_I := nk_top 48 kt_X6_at
noncomputable def kx_X6_at : nk_T := ([(17, 6, 5, 4)], [(416, 2, 7, 0, 0, ev_X6_askedRow), (358, 3, 0, 0, 0, ev_X6_in), (428, 3, 7, 0, 0, ev_X6_rowAt), (444, 3, 7, 0, 0, ev_X6_ask), (388, 2, 7, 0, 0, ev_X6_meets)], [], [], [], [], [], 1, false, 0, 0)
noncomputable def ev_X6_at : nk_Ev := fun as h Q => nk_if (Nat.ble (nk_wd as) 4) (nk_ev kx_X6_at kc_X6_at 4 as h Q)
set_option maxRecDepth 100000 in
theorem ck_X6_at : nk_chk cX6_at kc_X6_at 48 = true := nd_chk (by decide +kernel) (by decide +kernel)
set_option maxRecDepth 100000 in
set_option maxHeartbeats 4000000 in
theorem ca_X6_at_416 (l : Launch) : nk_CallOk l { frames := 3, cells := 0, slots := 0, locals := 63 } RX6 cX6_at 4 false 416 (2, 7, 0, 0, ev_X6_askedRow) := nk_callV (x := 104) (n := 1) (ci := 6) (r := (RX6, TX6, 32)) (mt_X6_askedRow l) rfl (nk_msc [(4, 68), (4, 69), (4, 70), (4, 71), (0, 27), (1, 7)] (by decide +kernel)) rfl rfl (by decide +kernel) ⟨by decide, by decide⟩
set_option maxRecDepth 100000 in
set_option maxHeartbeats 4000000 in
theorem ca_X6_at_358 (l : Launch) : nk_CallOk l { frames := 3, cells := 0, slots := 0, locals := 63 } RX6 cX6_at 4 false 358 (3, 0, 0, 0, ev_X6_in) := nk_callS (x := 89) (n := 3) (mt_X6_in l) (nk_msc [(4, 57), (4, 58), (4, 59), (1, 7)] (by decide +kernel)) rfl rfl (by decide +kernel) ⟨by decide, by decide⟩
set_option maxRecDepth 100000 in
set_option maxHeartbeats 4000000 in
theorem ca_X6_at_428 (l : Launch) : nk_CallOk l { frames := 3, cells := 0, slots := 0, locals := 63 } RX6 cX6_at 4 false 428 (3, 7, 0, 0, ev_X6_rowAt) := nk_callV (x := 107) (n := 2) (ci := 6) (r := (RX6, TX6, 32)) (mt_X6_rowAt l) rfl (nk_msc [(4, 72), (4, 73), (4, 74), (4, 75), (0, 28), (1, 7)] (by decide +kernel)) rfl rfl (by decide +kernel) ⟨by decide, by decide⟩
set_option maxRecDepth 100000 in
set_option maxHeartbeats 4000000 in
theorem ca_X6_at_444 (l : Launch) : nk_CallOk l { frames := 3, cells := 0, slots := 0, locals := 63 } RX6 cX6_at 4 false 444 (3, 7, 0, 0, ev_X6_ask) := nk_callV (x := 111) (n := 2) (ci := 6) (r := (RX6, TX6, 32)) (mt_X6_ask l) rfl (nk_msc [(4, 76), (4, 77), (4, 78), (4, 79), (0, 29), (1, 7)] (by decide +kernel)) rfl rfl (by decide +kernel) ⟨by decide, by decide⟩
set_option maxRecDepth 100000 in
set_option maxHeartbeats 4000000 in
theorem ca_X6_at_388 (l : Launch) : nk_CallOk l { frames := 3, cells := 0, slots := 0, locals := 63 } RX6 cX6_at 4 false 388 (2, 7, 0, 0, ev_X6_meets) := nk_callV (x := 97) (n := 1) (ci := 6) (r := (RX6, TX6, 32)) (mt_X6_meets l) rfl (nk_msc [(4, 60), (4, 61), (4, 62), (4, 63), (0, 26), (1, 7)] (by decide +kernel)) rfl rfl (by decide +kernel) ⟨by decide, by decide⟩
set_option maxRecDepth 100000 in
set_option maxHeartbeats 4000000 in
theorem mt_X6_at (l : Launch) : nk_Met l yX6_at cX6_at 4 (some .int) { frames := 3, cells := 0, slots := 0, locals := 63 } false 0 0 ev_X6_at :=
  nk_met nk_gok (plainFor_of_name (by decide)) ck_X6_at (nk_top_out 48 kt_X6_at) ⟨List.forall_mem_cons.mpr ⟨nk_fkc [(3, 198)] (by decide +kernel), fun _ h => absurd h List.not_mem_nil⟩, List.forall_mem_cons.mpr ⟨ca_X6_at_416 l, List.forall_mem_cons.mpr ⟨ca_X6_at_358 l, List.forall_mem_cons.mpr ⟨ca_X6_at_428 l, List.forall_mem_cons.mpr ⟨ca_X6_at_444 l, List.forall_mem_cons.mpr ⟨ca_X6_at_388 l, fun _ h => absurd h List.not_mem_nil⟩⟩⟩⟩⟩, fun _ h => absurd h List.not_mem_nil, fun _ h => absurd h List.not_mem_nil, fun _ h => absurd h List.not_mem_nil, fun _ h => absurd h List.not_mem_nil, fun _ h => absurd h List.not_mem_nil, by decide, rfl, rfl⟩ rfl (by decide)
