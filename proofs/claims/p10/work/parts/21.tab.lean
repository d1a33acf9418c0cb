/-! MarbleLawModel.lay(III)I -/
noncomputable def kt_X6_lay : Nat → Option nk_I := fun pc => bif Nat.ble pc 16 then ((fun pc => bif Nat.ble pc 6 then ((fun pc => bif Nat.ble pc 1 then (bif Nat.ble pc 0 then (bif Nat.beq pc 0 then some (.aload_n 0, 1, 1, [], 0) else none)
  else (bif Nat.beq pc 1 then some (.iload_n 1, 1, 2, [], 0) else none))
  else ((fun pc => bif Nat.ble pc 2 then (bif Nat.beq pc 2 then some (.iload_n 2, 1, 3, [], 0) else none)
  else (bif Nat.ble pc 3 then (bif Nat.beq pc 3 then some (.invokevirtual 114, 3, 6, [], 0) else none)
  else (bif Nat.beq pc 6 then some (.istore 4, 2, 8, [], 0) else none))) : nk_F) pc) : nk_F) pc
  else ((fun pc => bif Nat.ble pc 10 then (bif Nat.ble pc 8 then (bif Nat.beq pc 8 then some (.iload 4, 2, 10, [], 0) else none)
  else (bif Nat.beq pc 10 then some (.ifCond .ge 6, 3, 13, [16], 0) else none))
  else ((fun pc => bif Nat.ble pc 13 then (bif Nat.beq pc 13 then some (.iload 4, 2, 15, [], 0) else none)
  else (bif Nat.ble pc 15 then (bif Nat.beq pc 15 then some (.ireturn, 1, 16, [], 0) else none)
  else (bif Nat.beq pc 16 then some (.aload_n 0, 1, 17, [], 0) else none))) : nk_F) pc) : nk_F) pc) : nk_F) pc
  else ((fun pc => bif Nat.ble pc 24 then ((fun pc => bif Nat.ble pc 20 then (bif Nat.ble pc 17 then (bif Nat.beq pc 17 then some (.getfield 20, 3, 20, [], 0) else none)
  else (bif Nat.beq pc 20 then some (.bipush 40, 2, 22, [], 40) else none))
  else ((fun pc => bif Nat.ble pc 22 then (bif Nat.beq pc 22 then some (.iload_n 1, 1, 23, [], 0) else none)
  else (bif Nat.ble pc 23 then (bif Nat.beq pc 23 then some (.imul, 1, 24, [], 0) else none)
  else (bif Nat.beq pc 24 then some (.iload_n 2, 1, 25, [], 0) else none))) : nk_F) pc) : nk_F) pc
  else ((fun pc => bif Nat.ble pc 26 then (bif Nat.ble pc 25 then (bif Nat.beq pc 25 then some (.iadd, 1, 26, [], 0) else none)
  else (bif Nat.beq pc 26 then some (.iload_n 3, 1, 27, [], 0) else none))
  else ((fun pc => bif Nat.ble pc 27 then (bif Nat.beq pc 27 then some (.iastore, 1, 28, [], 0) else none)
  else (bif Nat.ble pc 28 then (bif Nat.beq pc 28 then some (.iconst 1, 1, 29, [], 1) else none)
  else (bif Nat.beq pc 29 then some (.ireturn, 1, 30, [], 0) else none))) : nk_F) pc) : nk_F) pc) : nk_F) pc
noncomputable def kc_X6_lay : Nat → Option nk_I := nk_top 30 kt_X6_lay
noncomputable def kx_X6_lay : nk_T := ([(20, 6, 6, 4)], [(456, 3, 7, 0, 0, ev_X6_at)], [], [], [], [], [], 1, false, 0, 0)
noncomputable def ev_X6_lay : nk_Ev := fun as h Q => nk_if (Nat.ble (nk_wd as) 5) (nk_ev kx_X6_lay kc_X6_lay 5 as h Q)
set_option maxRecDepth 100000 in
theorem ck_X6_lay : nk_chk cX6_lay kc_X6_lay 30 = true := nd_chk (by decide +kernel) (by decide +kernel)
set_option maxRecDepth 100000 in
set_option maxHeartbeats 4000000 in
theorem ca_X6_lay_456 (l : Launch) : nk_CallOk l { frames := 4, cells := 0, slots := 0, locals := 86 } RX6 cX6_lay 5 false 456 (3, 7, 0, 0, ev_X6_at) := nk_callV (x := 114) (n := 2) (ci := 6) (r := (RX6, TX6, 32)) (mt_X6_at l) rfl (nk_msc [(4, 84), (4, 65), (4, 66), (4, 67), (1, 7)] (by decide +kernel)) rfl rfl (by decide +kernel) ⟨by decide, by decide⟩
set_option maxRecDepth 100000 in
set_option maxHeartbeats 4000000 in
theorem mt_X6_lay (l : Launch) : nk_Met l yX6_lay cX6_lay 5 (some .int) { frames := 4, cells := 0, slots := 0, locals := 86 } false 0 0 ev_X6_lay :=
  nk_met nk_gok (plainFor_of_name (by decide)) ck_X6_lay (nk_top_out 30 kt_X6_lay) ⟨List.forall_mem_cons.mpr ⟨nk_fkc [(3, 199)] (by decide +kernel), fun _ h => absurd h List.not_mem_nil⟩, List.forall_mem_cons.mpr ⟨ca_X6_lay_456 l, fun _ h => absurd h List.not_mem_nil⟩, fun _ h => absurd h List.not_mem_nil, fun _ h => absurd h List.not_mem_nil, fun _ h => absurd h List.not_mem_nil, fun _ h => absurd h List.not_mem_nil, fun _ h => absurd h List.not_mem_nil, by decide, rfl, rfl⟩ rfl (by decide)
/-! MarbleLawModel.tear(I)I -/
noncomputable def kt_X6_tear : Nat → Option nk_I := fun pc => bif Nat.ble pc 10 then ((fun pc => bif Nat.ble pc 2 then ((fun pc => bif Nat.ble pc 0 then (bif Nat.beq pc 0 then some (.aload_n 0, 1, 1, [], 0) else none)
  else (bif Nat.ble pc 1 then (bif Nat.beq pc 1 then some (.iload_n 1, 1, 2, [], 0) else none)
  else (bif Nat.beq pc 2 then some (.invokevirtual 104, 3, 5, [], 0) else none))) : nk_F) pc
  else ((fun pc => bif Nat.ble pc 6 then (bif Nat.ble pc 5 then (bif Nat.beq pc 5 then some (.istore_n 2, 1, 6, [], 0) else none)
  else (bif Nat.beq pc 6 then some (.iload_n 2, 1, 7, [], 0) else none))
  else (bif Nat.ble pc 7 then (bif Nat.beq pc 7 then some (.ifCond .ge 5, 3, 10, [12], 0) else none)
  else (bif Nat.beq pc 10 then some (.iload_n 2, 1, 11, [], 0) else none))) : nk_F) pc) : nk_F) pc
  else ((fun pc => bif Nat.ble pc 16 then ((fun pc => bif Nat.ble pc 12 then (bif Nat.ble pc 11 then (bif Nat.beq pc 11 then some (.ireturn, 1, 12, [], 0) else none)
  else (bif Nat.beq pc 12 then some (.aload_n 0, 1, 13, [], 0) else none))
  else (bif Nat.ble pc 13 then (bif Nat.beq pc 13 then some (.getfield 17, 3, 16, [], 0) else none)
  else (bif Nat.beq pc 16 then some (.iload_n 1, 1, 17, [], 0) else none))) : nk_F) pc
  else ((fun pc => bif Nat.ble pc 19 then (bif Nat.ble pc 17 then (bif Nat.beq pc 17 then some (.bipush (-9), 2, 19, [], (-9)) else none)
  else (bif Nat.beq pc 19 then some (.iastore, 1, 20, [], 0) else none))
  else (bif Nat.ble pc 20 then (bif Nat.beq pc 20 then some (.iconst 1, 1, 21, [], 1) else none)
  else (bif Nat.beq pc 21 then some (.ireturn, 1, 22, [], 0) else none))) : nk_F) pc) : nk_F) pc
noncomputable def kc_X6_tear : Nat → Option nk_I := nk_top 22 kt_X6_tear
noncomputable def kx_X6_tear : nk_T := ([(17, 6, 5, 4)], [(416, 2, 7, 0, 0, ev_X6_askedRow)], [], [], [], [], [], 1, false, 0, 0)
noncomputable def ev_X6_tear : nk_Ev := fun as h Q => nk_if (Nat.ble (nk_wd as) 3) (nk_ev kx_X6_tear kc_X6_tear 3 as h Q)
set_option maxRecDepth 100000 in
theorem ck_X6_tear : nk_chk cX6_tear kc_X6_tear 22 = true := nd_chk (by decide +kernel) (by decide +kernel)
set_option maxRecDepth 100000 in
set_option maxHeartbeats 4000000 in
theorem ca_X6_tear_416 (l : Launch) : nk_CallOk l { frames := 3, cells := 0, slots := 0, locals := 63 } RX6 cX6_tear 3 false 416 (2, 7, 0, 0, ev_X6_askedRow) := nk_callV (x := 104) (n := 1) (ci := 6) (r := (RX6, TX6, 32)) (mt_X6_askedRow l) rfl (nk_msc [(4, 68), (4, 69), (4, 70), (4, 71), (0, 27), (1, 7)] (by decide +kernel)) rfl rfl (by decide +kernel) ⟨by decide, by decide⟩
set_option maxRecDepth 100000 in
set_option maxHeartbeats 4000000 in
theorem mt_X6_tear (l : Launch) : nk_Met l yX6_tear cX6_tear 3 (some .int) { frames := 3, cells := 0, slots := 0, locals := 63 } false 0 0 ev_X6_tear :=
  nk_met nk_gok (plainFor_of_name (by decide)) ck_X6_tear (nk_top_out 22 kt_X6_tear) ⟨List.forall_mem_cons.mpr ⟨nk_fkc [(3, 198)] (by decide +kernel), fun _ h => absurd h List.not_mem_nil⟩, List.forall_mem_cons.mpr ⟨ca_X6_tear_416 l, fun _ h => absurd h List.not_mem_nil⟩, fun _ h => absurd h List.not_mem_nil, fun _ h => absurd h List.not_mem_nil, fun _ h => absurd h List.not_mem_nil, fun _ h => absurd h List.not_mem_nil, fun _ h => absurd h List.not_mem_nil, by decide, rfl, rfl⟩ rfl (by decide)
/-! MarbleLawModel.copy(IIIII)I -/
noncomputable def kt_X6_copy : Nat → Option nk_I := fun pc => bif Nat.ble pc 84 then ((fun pc => bif Nat.ble pc 45 then ((fun pc => bif Nat.ble pc 22 then ((fun pc => bif Nat.ble pc 11 then ((fun pc => bif Nat.ble pc 4 then ((fun pc => bif Nat.ble pc 0 then (bif Nat.beq pc 0 then some (.iload_n 1, 1, 1, [], 0) else none)
  else (bif Nat.ble pc 1 then (bif Nat.beq pc 1 then some (.invokestatic 93, 3, 4, [], 0) else none)
  else (bif Nat.beq pc 4 then some (.ifCond .eq 10, 3, 7, [14], 0) else none))) : nk_F) pc
  else ((fun pc => bif Nat.ble pc 7 then (bif Nat.beq pc 7 then some (.iload_n 3, 1, 8, [], 0) else none)
  else (bif Nat.ble pc 8 then (bif Nat.beq pc 8 then some (.invokestatic 93, 3, 11, [], 0) else none)
  else (bif Nat.beq pc 11 then some (.ifCond .ne 5, 3, 14, [16], 0) else none))) : nk_F) pc) : nk_F) pc
  else ((fun pc => bif Nat.ble pc 16 then ((fun pc => bif Nat.ble pc 14 then (bif Nat.beq pc 14 then some (.iconst (-1), 1, 15, [], (-1)) else none)
  else (bif Nat.ble pc 15 then (bif Nat.beq pc 15 then some (.ireturn, 1, 16, [], 0) else none)
  else (bif Nat.beq pc 16 then some (.iload 5, 2, 18, [], 0) else none))) : nk_F) pc
  else ((fun pc => bif Nat.ble pc 18 then (bif Nat.beq pc 18 then some (.ifCond .ge 9, 3, 21, [27], 0) else none)
  else (bif Nat.ble pc 21 then (bif Nat.beq pc 21 then some (.aload_n 0, 1, 22, [], 0) else none)
  else (bif Nat.beq pc 22 then some (.iconst 5, 1, 23, [], 5) else none))) : nk_F) pc) : nk_F) pc) : nk_F) pc
  else ((fun pc => bif Nat.ble pc 32 then ((fun pc => bif Nat.ble pc 27 then ((fun pc => bif Nat.ble pc 23 then (bif Nat.beq pc 23 then some (.invokevirtual 97, 3, 26, [], 0) else none)
  else (bif Nat.ble pc 26 then (bif Nat.beq pc 26 then some (.ireturn, 1, 27, [], 0) else none)
  else (bif Nat.beq pc 27 then some (.aload_n 0, 1, 28, [], 0) else none))) : nk_F) pc
  else ((fun pc => bif Nat.ble pc 28 then (bif Nat.beq pc 28 then some (.getfield 17, 3, 31, [], 0) else none)
  else (bif Nat.ble pc 31 then (bif Nat.beq pc 31 then some (.iload_n 1, 1, 32, [], 0) else none)
  else (bif Nat.beq pc 32 then some (.iaload, 1, 33, [], 0) else none))) : nk_F) pc) : nk_F) pc
  else ((fun pc => bif Nat.ble pc 37 then ((fun pc => bif Nat.ble pc 33 then (bif Nat.beq pc 33 then some (.ifCond .lt 12, 3, 36, [45], 0) else none)
  else (bif Nat.ble pc 36 then (bif Nat.beq pc 36 then some (.aload_n 0, 1, 37, [], 0) else none)
  else (bif Nat.beq pc 37 then some (.getfield 17, 3, 40, [], 0) else none))) : nk_F) pc
  else ((fun pc => bif Nat.ble pc 41 then (bif Nat.ble pc 40 then (bif Nat.beq pc 40 then some (.iload_n 3, 1, 41, [], 0) else none)
  else (bif Nat.beq pc 41 then some (.iaload, 1, 42, [], 0) else none))
  else (bif Nat.ble pc 42 then (bif Nat.beq pc 42 then some (.ifCond .ge 9, 3, 45, [51], 0) else none)
  else (bif Nat.beq pc 45 then some (.aload_n 0, 1, 46, [], 0) else none))) : nk_F) pc) : nk_F) pc) : nk_F) pc) : nk_F) pc
  else ((fun pc => bif Nat.ble pc 65 then ((fun pc => bif Nat.ble pc 55 then ((fun pc => bif Nat.ble pc 50 then ((fun pc => bif Nat.ble pc 46 then (bif Nat.beq pc 46 then some (.iconst 1, 1, 47, [], 1) else none)
  else (bif Nat.ble pc 47 then (bif Nat.beq pc 47 then some (.invokevirtual 97, 3, 50, [], 0) else none)
  else (bif Nat.beq pc 50 then some (.ireturn, 1, 51, [], 0) else none))) : nk_F) pc
  else ((fun pc => bif Nat.ble pc 51 then (bif Nat.beq pc 51 then some (.iload_n 2, 1, 52, [], 0) else none)
  else (bif Nat.ble pc 52 then (bif Nat.beq pc 52 then some (.ifCond .lt 43, 3, 55, [95], 0) else none)
  else (bif Nat.beq pc 55 then some (.iload 4, 2, 57, [], 0) else none))) : nk_F) pc) : nk_F) pc
  else ((fun pc => bif Nat.ble pc 61 then ((fun pc => bif Nat.ble pc 57 then (bif Nat.beq pc 57 then some (.ifCond .lt 38, 3, 60, [95], 0) else none)
  else (bif Nat.ble pc 60 then (bif Nat.beq pc 60 then some (.iload_n 2, 1, 61, [], 0) else none)
  else (bif Nat.beq pc 61 then some (.i2l, 1, 62, [], 0) else none))) : nk_F) pc
  else ((fun pc => bif Nat.ble pc 62 then (bif Nat.beq pc 62 then some (.iload 5, 2, 64, [], 0) else none)
  else (bif Nat.ble pc 64 then (bif Nat.beq pc 64 then some (.i2l, 1, 65, [], 0) else none)
  else (bif Nat.beq pc 65 then some (.ladd, 1, 66, [], 0) else none))) : nk_F) pc) : nk_F) pc) : nk_F) pc
  else ((fun pc => bif Nat.ble pc 73 then ((fun pc => bif Nat.ble pc 70 then ((fun pc => bif Nat.ble pc 66 then (bif Nat.beq pc 66 then some (.aload_n 0, 1, 67, [], 0) else none)
  else (bif Nat.ble pc 67 then (bif Nat.beq pc 67 then some (.getfield 17, 3, 70, [], 0) else none)
  else (bif Nat.beq pc 70 then some (.iload_n 1, 1, 71, [], 0) else none))) : nk_F) pc
  else ((fun pc => bif Nat.ble pc 71 then (bif Nat.beq pc 71 then some (.iaload, 1, 72, [], 0) else none)
  else (bif Nat.ble pc 72 then (bif Nat.beq pc 72 then some (.i2l, 1, 73, [], 0) else none)
  else (bif Nat.beq pc 73 then some (.lcmp, 1, 74, [], 0) else none))) : nk_F) pc) : nk_F) pc
  else ((fun pc => bif Nat.ble pc 79 then ((fun pc => bif Nat.ble pc 74 then (bif Nat.beq pc 74 then some (.ifCond .gt 21, 3, 77, [95], 0) else none)
  else (bif Nat.ble pc 77 then (bif Nat.beq pc 77 then some (.iload 4, 2, 79, [], 0) else none)
  else (bif Nat.beq pc 79 then some (.i2l, 1, 80, [], 0) else none))) : nk_F) pc
  else ((fun pc => bif Nat.ble pc 82 then (bif Nat.ble pc 80 then (bif Nat.beq pc 80 then some (.iload 5, 2, 82, [], 0) else none)
  else (bif Nat.beq pc 82 then some (.i2l, 1, 83, [], 0) else none))
  else (bif Nat.ble pc 83 then (bif Nat.beq pc 83 then some (.ladd, 1, 84, [], 0) else none)
  else (bif Nat.beq pc 84 then some (.aload_n 0, 1, 85, [], 0) else none))) : nk_F) pc) : nk_F) pc) : nk_F) pc) : nk_F) pc) : nk_F) pc
  else ((fun pc => bif Nat.ble pc 126 then ((fun pc => bif Nat.ble pc 102 then ((fun pc => bif Nat.ble pc 92 then ((fun pc => bif Nat.ble pc 89 then ((fun pc => bif Nat.ble pc 85 then (bif Nat.beq pc 85 then some (.getfield 17, 3, 88, [], 0) else none)
  else (bif Nat.ble pc 88 then (bif Nat.beq pc 88 then some (.iload_n 3, 1, 89, [], 0) else none)
  else (bif Nat.beq pc 89 then some (.iaload, 1, 90, [], 0) else none))) : nk_F) pc
  else ((fun pc => bif Nat.ble pc 90 then (bif Nat.beq pc 90 then some (.i2l, 1, 91, [], 0) else none)
  else (bif Nat.ble pc 91 then (bif Nat.beq pc 91 then some (.lcmp, 1, 92, [], 0) else none)
  else (bif Nat.beq pc 92 then some (.ifCond .le 9, 3, 95, [101], 0) else none))) : nk_F) pc) : nk_F) pc
  else ((fun pc => bif Nat.ble pc 97 then ((fun pc => bif Nat.ble pc 95 then (bif Nat.beq pc 95 then some (.aload_n 0, 1, 96, [], 0) else none)
  else (bif Nat.ble pc 96 then (bif Nat.beq pc 96 then some (.iconst 2, 1, 97, [], 2) else none)
  else (bif Nat.beq pc 97 then some (.invokevirtual 97, 3, 100, [], 0) else none))) : nk_F) pc
  else ((fun pc => bif Nat.ble pc 100 then (bif Nat.beq pc 100 then some (.ireturn, 1, 101, [], 0) else none)
  else (bif Nat.ble pc 101 then (bif Nat.beq pc 101 then some (.iconst 0, 1, 102, [], 0) else none)
  else (bif Nat.beq pc 102 then some (.istore 6, 2, 104, [], 0) else none))) : nk_F) pc) : nk_F) pc) : nk_F) pc
  else ((fun pc => bif Nat.ble pc 115 then ((fun pc => bif Nat.ble pc 108 then ((fun pc => bif Nat.ble pc 104 then (bif Nat.beq pc 104 then some (.iload 6, 2, 106, [], 0) else none)
  else (bif Nat.ble pc 106 then (bif Nat.beq pc 106 then some (.iload 5, 2, 108, [], 0) else none)
  else (bif Nat.beq pc 108 then some (.if_icmp .ge 25, 3, 111, [133], 0) else none))) : nk_F) pc
  else ((fun pc => bif Nat.ble pc 111 then (bif Nat.beq pc 111 then some (.aload_n 0, 1, 112, [], 0) else none)
  else (bif Nat.ble pc 112 then (bif Nat.beq pc 112 then some (.getfield 23, 3, 115, [], 0) else none)
  else (bif Nat.beq pc 115 then some (.iload 6, 2, 117, [], 0) else none))) : nk_F) pc) : nk_F) pc
  else ((fun pc => bif Nat.ble pc 119 then ((fun pc => bif Nat.ble pc 117 then (bif Nat.beq pc 117 then some (.aload_n 0, 1, 118, [], 0) else none)
  else (bif Nat.ble pc 118 then (bif Nat.beq pc 118 then some (.iload_n 1, 1, 119, [], 0) else none)
  else (bif Nat.beq pc 119 then some (.iload_n 2, 1, 120, [], 0) else none))) : nk_F) pc
  else ((fun pc => bif Nat.ble pc 122 then (bif Nat.ble pc 120 then (bif Nat.beq pc 120 then some (.iload 6, 2, 122, [], 0) else none)
  else (bif Nat.beq pc 122 then some (.iadd, 1, 123, [], 0) else none))
  else (bif Nat.ble pc 123 then (bif Nat.beq pc 123 then some (.invokevirtual 107, 3, 126, [], 0) else none)
  else (bif Nat.beq pc 126 then some (.iastore, 1, 127, [], 0) else none))) : nk_F) pc) : nk_F) pc) : nk_F) pc) : nk_F) pc
  else ((fun pc => bif Nat.ble pc 150 then ((fun pc => bif Nat.ble pc 138 then ((fun pc => bif Nat.ble pc 133 then ((fun pc => bif Nat.ble pc 127 then (bif Nat.beq pc 127 then some (.iinc 6 1, 3, 130, [], 1) else none)
  else (bif Nat.ble pc 130 then (bif Nat.beq pc 130 then some (.goto (-26), 3, 133, [104], 0) else none)
  else (bif Nat.beq pc 133 then some (.iconst 0, 1, 134, [], 0) else none))) : nk_F) pc
  else ((fun pc => bif Nat.ble pc 134 then (bif Nat.beq pc 134 then some (.istore 6, 2, 136, [], 0) else none)
  else (bif Nat.ble pc 136 then (bif Nat.beq pc 136 then some (.iload 6, 2, 138, [], 0) else none)
  else (bif Nat.beq pc 138 then some (.iload 5, 2, 140, [], 0) else none))) : nk_F) pc) : nk_F) pc
  else ((fun pc => bif Nat.ble pc 144 then ((fun pc => bif Nat.ble pc 140 then (bif Nat.beq pc 140 then some (.if_icmp .ge 31, 3, 143, [171], 0) else none)
  else (bif Nat.ble pc 143 then (bif Nat.beq pc 143 then some (.aload_n 0, 1, 144, [], 0) else none)
  else (bif Nat.beq pc 144 then some (.getfield 20, 3, 147, [], 0) else none))) : nk_F) pc
  else ((fun pc => bif Nat.ble pc 147 then (bif Nat.beq pc 147 then some (.bipush 40, 2, 149, [], 40) else none)
  else (bif Nat.ble pc 149 then (bif Nat.beq pc 149 then some (.iload_n 3, 1, 150, [], 0) else none)
  else (bif Nat.beq pc 150 then some (.imul, 1, 151, [], 0) else none))) : nk_F) pc) : nk_F) pc) : nk_F) pc
  else ((fun pc => bif Nat.ble pc 158 then ((fun pc => bif Nat.ble pc 154 then ((fun pc => bif Nat.ble pc 151 then (bif Nat.beq pc 151 then some (.iload 4, 2, 153, [], 0) else none)
  else (bif Nat.ble pc 153 then (bif Nat.beq pc 153 then some (.iadd, 1, 154, [], 0) else none)
  else (bif Nat.beq pc 154 then some (.iload 6, 2, 156, [], 0) else none))) : nk_F) pc
  else ((fun pc => bif Nat.ble pc 156 then (bif Nat.beq pc 156 then some (.iadd, 1, 157, [], 0) else none)
  else (bif Nat.ble pc 157 then (bif Nat.beq pc 157 then some (.aload_n 0, 1, 158, [], 0) else none)
  else (bif Nat.beq pc 158 then some (.getfield 23, 3, 161, [], 0) else none))) : nk_F) pc) : nk_F) pc
  else ((fun pc => bif Nat.ble pc 164 then ((fun pc => bif Nat.ble pc 161 then (bif Nat.beq pc 161 then some (.iload 6, 2, 163, [], 0) else none)
  else (bif Nat.ble pc 163 then (bif Nat.beq pc 163 then some (.iaload, 1, 164, [], 0) else none)
  else (bif Nat.beq pc 164 then some (.iastore, 1, 165, [], 0) else none))) : nk_F) pc
  else ((fun pc => bif Nat.ble pc 168 then (bif Nat.ble pc 165 then (bif Nat.beq pc 165 then some (.iinc 6 1, 3, 168, [], 1) else none)
  else (bif Nat.beq pc 168 then some (.goto (-32), 3, 171, [136], 0) else none))
  else (bif Nat.ble pc 171 then (bif Nat.beq pc 171 then some (.iconst 1, 1, 172, [], 1) else none)
  else (bif Nat.beq pc 172 then some (.ireturn, 1, 173, [], 0) else none))) : nk_F) pc) : nk_F) pc) : nk_F) pc) : nk_F) pc) : nk_F) pc
noncomputable def kc_X6_copy : Nat → Option nk_I := nk_top 173 kt_X6_copy
noncomputable def kx_X6_copy : nk_T := ([(17, 6, 5, 4), (23, 6, 7, 4), (20, 6, 6, 4)], [(374, 1, 0, 0, 0, ev_X6_isRow), (388, 2, 7, 0, 0, ev_X6_meets), (428, 3, 7, 0, 0, ev_X6_rowAt)], [], [], [], [], [], 1, false, 0, 0)
noncomputable def ev_X6_copy : nk_Ev := fun as h Q => nk_if (Nat.ble (nk_wd as) 7) (nk_ev kx_X6_copy kc_X6_copy 7 as h Q)
set_option maxRecDepth 100000 in
theorem ck_X6_copy : nk_chk cX6_copy kc_X6_copy 173 = true := nd_chk (by decide +kernel) (by decide +kernel)
set_option maxRecDepth 100000 in
set_option maxHeartbeats 4000000 in
theorem ca_X6_copy_374 (l : Launch) : nk_CallOk l { frames := 2, cells := 0, slots := 0, locals := 42 } RX6 cX6_copy 7 false 374 (1, 0, 0, 0, ev_X6_isRow) := nk_callS (x := 93) (n := 1) (mt_X6_isRow l) (nk_msc [(4, 54), (4, 55), (4, 56), (1, 7)] (by decide +kernel)) rfl rfl (by decide +kernel) ⟨by decide, by decide⟩
set_option maxRecDepth 100000 in
set_option maxHeartbeats 4000000 in
theorem ca_X6_copy_388 (l : Launch) : nk_CallOk l { frames := 2, cells := 0, slots := 0, locals := 42 } RX6 cX6_copy 7 false 388 (2, 7, 0, 0, ev_X6_meets) := nk_callV (x := 97) (n := 1) (ci := 6) (r := (RX6, TX6, 32)) (mt_X6_meets l) rfl (nk_msc [(4, 60), (4, 61), (4, 62), (4, 63), (0, 26), (1, 7)] (by decide +kernel)) rfl rfl (by decide +kernel) ⟨by decide, by decide⟩
set_option maxRecDepth 100000 in
set_option maxHeartbeats 4000000 in
theorem ca_X6_copy_428 (l : Launch) : nk_CallOk l { frames := 2, cells := 0, slots := 0, locals := 42 } RX6 cX6_copy 7 false 428 (3, 7, 0, 0, ev_X6_rowAt) := nk_callV (x := 107) (n := 2) (ci := 6) (r := (RX6, TX6, 32)) (mt_X6_rowAt l) rfl (nk_msc [(4, 72), (4, 73), (4, 74), (4, 75), (0, 28), (1, 7)] (by decide +kernel)) rfl rfl (by decide +kernel) ⟨by decide, by decide⟩
set_option maxRecDepth 100000 in
set_option maxHeartbeats 4000000 in
theorem mt_X6_copy (l : Launch) : nk_Met l yX6_copy cX6_copy 7 (some .int) { frames := 2, cells := 0, slots := 0, locals := 42 } false 0 0 ev_X6_copy :=
  nk_met nk_gok (plainFor_of_name (by decide)) ck_X6_copy (nk_top_out 173 kt_X6_copy) ⟨List.forall_mem_cons.mpr ⟨nk_fkc [(3, 198)] (by decide +kernel), List.forall_mem_cons.mpr ⟨nk_fkc [(3, 200)] (by decide +kernel), List.forall_mem_cons.mpr ⟨nk_fkc [(3, 199)] (by decide +kernel), fun _ h => absurd h List.not_mem_nil⟩⟩⟩, List.forall_mem_cons.mpr ⟨ca_X6_copy_374 l, List.forall_mem_cons.mpr ⟨ca_X6_copy_388 l, List.forall_mem_cons.mpr ⟨ca_X6_copy_428 l, fun _ h => absurd h List.not_mem_nil⟩⟩⟩, fun _ h => absurd h List.not_mem_nil, fun _ h => absurd h List.not_mem_nil, fun _ h => absurd h List.not_mem_nil, fun _ h => absurd h List.not_mem_nil, fun _ h => absurd h List.not_mem_nil, by decide, rfl, rfl⟩ rfl (by decide)
/-! MarbleLawModel.mean(I)I -/
noncomputable def kt_X6_mean : Nat → Option nk_I := fun pc => bif Nat.ble pc 36 then ((fun pc => bif Nat.ble pc 15 then ((fun pc => bif Nat.ble pc 7 then ((fun pc => bif Nat.ble pc 2 then ((fun pc => bif Nat.ble pc 0 then (bif Nat.beq pc 0 then some (.aload_n 0, 1, 1, [], 0) else none)
  else (bif Nat.ble pc 1 then (bif Nat.beq pc 1 then some (.iload_n 1, 1, 2, [], 0) else none)
  else (bif Nat.beq pc 2 then some (.invokevirtual 104, 3, 5, [], 0) else none))) : nk_F) pc
  else ((fun pc => bif Nat.ble pc 5 then (bif Nat.beq pc 5 then some (.istore_n 2, 1, 6, [], 0) else none)
  else (bif Nat.ble pc 6 then (bif Nat.beq pc 6 then some (.iload_n 2, 1, 7, [], 0) else none)
  else (bif Nat.beq pc 7 then some (.ifCond .ge 5, 3, 10, [12], 0) else none))) : nk_F) pc) : nk_F) pc
  else ((fun pc => bif Nat.ble pc 12 then ((fun pc => bif Nat.ble pc 10 then (bif Nat.beq pc 10 then some (.iload_n 2, 1, 11, [], 0) else none)
  else (bif Nat.ble pc 11 then (bif Nat.beq pc 11 then some (.ireturn, 1, 12, [], 0) else none)
  else (bif Nat.beq pc 12 then some (.lconst 0, 1, 13, [], 0) else none))) : nk_F) pc
  else ((fun pc => bif Nat.ble pc 13 then (bif Nat.beq pc 13 then some (.lstore_n 3, 1, 14, [], 0) else none)
  else (bif Nat.ble pc 14 then (bif Nat.beq pc 14 then some (.iconst 0, 1, 15, [], 0) else none)
  else (bif Nat.beq pc 15 then some (.istore 5, 2, 17, [], 0) else none))) : nk_F) pc) : nk_F) pc) : nk_F) pc
  else ((fun pc => bif Nat.ble pc 25 then ((fun pc => bif Nat.ble pc 20 then ((fun pc => bif Nat.ble pc 17 then (bif Nat.beq pc 17 then some (.iload 5, 2, 19, [], 0) else none)
  else (bif Nat.ble pc 19 then (bif Nat.beq pc 19 then some (.aload_n 0, 1, 20, [], 0) else none)
  else (bif Nat.beq pc 20 then some (.getfield 17, 3, 23, [], 0) else none))) : nk_F) pc
  else ((fun pc => bif Nat.ble pc 23 then (bif Nat.beq pc 23 then some (.iload_n 1, 1, 24, [], 0) else none)
  else (bif Nat.ble pc 24 then (bif Nat.beq pc 24 then some (.iaload, 1, 25, [], 0) else none)
  else (bif Nat.beq pc 25 then some (.if_icmp .ge 20, 3, 28, [45], 0) else none))) : nk_F) pc) : nk_F) pc
  else ((fun pc => bif Nat.ble pc 30 then ((fun pc => bif Nat.ble pc 28 then (bif Nat.beq pc 28 then some (.lload_n 3, 1, 29, [], 0) else none)
  else (bif Nat.ble pc 29 then (bif Nat.beq pc 29 then some (.aload_n 0, 1, 30, [], 0) else none)
  else (bif Nat.beq pc 30 then some (.iload_n 1, 1, 31, [], 0) else none))) : nk_F) pc
  else ((fun pc => bif Nat.ble pc 31 then (bif Nat.beq pc 31 then some (.iload 5, 2, 33, [], 0) else none)
  else (bif Nat.ble pc 33 then (bif Nat.beq pc 33 then some (.invokevirtual 107, 3, 36, [], 0) else none)
  else (bif Nat.beq pc 36 then some (.i2l, 1, 37, [], 0) else none))) : nk_F) pc) : nk_F) pc) : nk_F) pc) : nk_F) pc
  else ((fun pc => bif Nat.ble pc 56 then ((fun pc => bif Nat.ble pc 46 then ((fun pc => bif Nat.ble pc 39 then ((fun pc => bif Nat.ble pc 37 then (bif Nat.beq pc 37 then some (.ladd, 1, 38, [], 0) else none)
  else (bif Nat.ble pc 38 then (bif Nat.beq pc 38 then some (.lstore_n 3, 1, 39, [], 0) else none)
  else (bif Nat.beq pc 39 then some (.iinc 5 1, 3, 42, [], 1) else none))) : nk_F) pc
  else ((fun pc => bif Nat.ble pc 42 then (bif Nat.beq pc 42 then some (.goto (-25), 3, 45, [17], 0) else none)
  else (bif Nat.ble pc 45 then (bif Nat.beq pc 45 then some (.aload_n 0, 1, 46, [], 0) else none)
  else (bif Nat.beq pc 46 then some (.getfield 17, 3, 49, [], 0) else none))) : nk_F) pc) : nk_F) pc
  else ((fun pc => bif Nat.ble pc 51 then ((fun pc => bif Nat.ble pc 49 then (bif Nat.beq pc 49 then some (.iload_n 1, 1, 50, [], 0) else none)
  else (bif Nat.ble pc 50 then (bif Nat.beq pc 50 then some (.iaload, 1, 51, [], 0) else none)
  else (bif Nat.beq pc 51 then some (.ifCond .ne 11, 3, 54, [62], 0) else none))) : nk_F) pc
  else ((fun pc => bif Nat.ble pc 54 then (bif Nat.beq pc 54 then some (.aload_n 0, 1, 55, [], 0) else none)
  else (bif Nat.ble pc 55 then (bif Nat.beq pc 55 then some (.iconst 4, 1, 56, [], 4) else none)
  else (bif Nat.beq pc 56 then some (.invokevirtual 97, 3, 59, [], 0) else none))) : nk_F) pc) : nk_F) pc) : nk_F) pc
  else ((fun pc => bif Nat.ble pc 68 then ((fun pc => bif Nat.ble pc 63 then ((fun pc => bif Nat.ble pc 59 then (bif Nat.beq pc 59 then some (.goto 18, 3, 62, [77], 0) else none)
  else (bif Nat.ble pc 62 then (bif Nat.beq pc 62 then some (.aload_n 0, 1, 63, [], 0) else none)
  else (bif Nat.beq pc 63 then some (.lload_n 3, 1, 64, [], 0) else none))) : nk_F) pc
  else ((fun pc => bif Nat.ble pc 64 then (bif Nat.beq pc 64 then some (.aload_n 0, 1, 65, [], 0) else none)
  else (bif Nat.ble pc 65 then (bif Nat.beq pc 65 then some (.getfield 17, 3, 68, [], 0) else none)
  else (bif Nat.beq pc 68 then some (.iload_n 1, 1, 69, [], 0) else none))) : nk_F) pc) : nk_F) pc
  else ((fun pc => bif Nat.ble pc 71 then ((fun pc => bif Nat.ble pc 69 then (bif Nat.beq pc 69 then some (.iaload, 1, 70, [], 0) else none)
  else (bif Nat.ble pc 70 then (bif Nat.beq pc 70 then some (.i2l, 1, 71, [], 0) else none)
  else (bif Nat.beq pc 71 then some (.ldiv, 1, 72, [], 0) else none))) : nk_F) pc
  else ((fun pc => bif Nat.ble pc 73 then (bif Nat.ble pc 72 then (bif Nat.beq pc 72 then some (.l2i, 1, 73, [], 0) else none)
  else (bif Nat.beq pc 73 then some (.iconst 1, 1, 74, [], 1) else none))
  else (bif Nat.ble pc 74 then (bif Nat.beq pc 74 then some (.invokevirtual 111, 3, 77, [], 0) else none)
  else (bif Nat.beq pc 77 then some (.ireturn, 1, 78, [], 0) else none))) : nk_F) pc) : nk_F) pc) : nk_F) pc) : nk_F) pc
noncomputable def kc_X6_mean : Nat → Option nk_I := nk_top 78 kt_X6_mean
noncomputable def kx_X6_mean : nk_T := ([(17, 6, 5, 4)], [(416, 2, 7, 0, 0, ev_X6_askedRow), (428, 3, 7, 0, 0, ev_X6_rowAt), (388, 2, 7, 0, 0, ev_X6_meets), (444, 3, 7, 0, 0, ev_X6_ask)], [], [], [], [], [], 1, false, 0, 0)
noncomputable def ev_X6_mean : nk_Ev := fun as h Q => nk_if (Nat.ble (nk_wd as) 6) (nk_ev kx_X6_mean kc_X6_mean 6 as h Q)
set_option maxRecDepth 100000 in
theorem ck_X6_mean : nk_chk cX6_mean kc_X6_mean 78 = true := nd_chk (by decide +kernel) (by decide +kernel)
set_option maxRecDepth 100000 in
set_option maxHeartbeats 4000000 in
theorem ca_X6_mean_416 (l : Launch) : nk_CallOk l { frames := 3, cells := 0, slots := 0, locals := 63 } RX6 cX6_mean 6 false 416 (2, 7, 0, 0, ev_X6_askedRow) := nk_callV (x := 104) (n := 1) (ci := 6) (r := (RX6, TX6, 32)) (mt_X6_askedRow l) rfl (nk_msc [(4, 68), (4, 69), (4, 70), (4, 71), (0, 27), (1, 7)] (by decide +kernel)) rfl rfl (by decide +kernel) ⟨by decide, by decide⟩
set_option maxRecDepth 100000 in
set_option maxHeartbeats 4000000 in
theorem ca_X6_mean_428 (l : Launch) : nk_CallOk l { frames := 3, cells := 0, slots := 0, locals := 63 } RX6 cX6_mean 6 false 428 (3, 7, 0, 0, ev_X6_rowAt) := nk_callV (x := 107) (n := 2) (ci := 6) (r := (RX6, TX6, 32)) (mt_X6_rowAt l) rfl (nk_msc [(4, 72), (4, 73), (4, 74), (4, 75), (0, 28), (1, 7)] (by decide +kernel)) rfl rfl (by decide +kernel) ⟨by decide, by decide⟩
set_option maxRecDepth 100000 in
set_option maxHeartbeats 4000000 in
theorem ca_X6_mean_388 (l : Launch) : nk_CallOk l { frames := 3, cells := 0, slots := 0, locals := 63 } RX6 cX6_mean 6 false 388 (2, 7, 0, 0, ev_X6_meets) := nk_callV (x := 97) (n := 1) (ci := 6) (r := (RX6, TX6, 32)) (mt_X6_meets l) rfl (nk_msc [(4, 60), (4, 61), (4, 62), (4, 63), (0, 26), (1, 7)] (by decide +kernel)) rfl rfl (by decide +kernel) ⟨by decide, by decide⟩
set_option maxRecDepth 100000 in
set_option maxHeartbeats 4000000 in
theorem ca_X6_mean_444 (l : Launch) : nk_CallOk l { frames := 3, cells := 0, slots := 0, locals := 63 } RX6 cX6_mean 6 false 444 (3, 7, 0, 0, ev_X6_ask) := nk_callV (x := 111) (n := 2) (ci := 6) (r := (RX6, TX6, 32)) (mt_X6_ask l) rfl (nk_msc [(4, 76), (4, 77), (4, 78), (4, 79), (0, 29), (1, 7)] (by decide +kernel)) rfl rfl (by decide +kernel) ⟨by decide, by decide⟩
set_option maxRecDepth 100000 in
set_option maxHeartbeats 4000000 in
theorem mt_X6_mean (l : Launch) : nk_Met l yX6_mean cX6_mean 6 (some .int) { frames := 3, cells := 0, slots := 0, locals := 63 } false 0 0 ev_X6_mean :=
  nk_met nk_gok (plainFor_of_name (by decide)) ck_X6_mean (nk_top_out 78 kt_X6_mean) ⟨List.forall_mem_cons.mpr ⟨nk_fkc [(3, 198)] (by decide +kernel), fun _ h => absurd h List.not_mem_nil⟩, List.forall_mem_cons.mpr ⟨ca_X6_mean_416 l, List.forall_mem_cons.mpr ⟨ca_X6_mean_428 l, List.forall_mem_cons.mpr ⟨ca_X6_mean_388 l, List.forall_mem_cons.mpr ⟨ca_X6_mean_444 l, fun _ h => absurd h List.not_mem_nil⟩⟩⟩⟩, fun _ h => absurd h List.not_mem_nil, fun _ h => absurd h List.not_mem_nil, fun _ h => absurd h List.not_mem_nil, fun _ h => absurd h List.not_mem_nil, fun _ h => absurd h List.not_mem_nil, by decide, rfl, rfl⟩ rfl (by decide)
/-! MarbleLawModel.text(II)I -/
noncomputable def kt_X6_text : Nat → Option nk_I := fun pc => bif Nat.ble pc 30 then ((fun pc => bif Nat.ble pc 15 then ((fun pc => bif Nat.ble pc 7 then ((fun pc => bif Nat.ble pc 1 then (bif Nat.ble pc 0 then (bif Nat.beq pc 0 then some (.iload_n 1, 1, 1, [], 0) else none)
  else (bif Nat.beq pc 1 then some (.invokestatic 101, 3, 4, [], 0) else none))
  else (bif Nat.ble pc 4 then (bif Nat.beq pc 4 then some (.ifCond .eq 9, 3, 7, [13], 0) else none)
  else (bif Nat.beq pc 7 then some (.iload_n 2, 1, 8, [], 0) else none))) : nk_F) pc
  else ((fun pc => bif Nat.ble pc 10 then (bif Nat.ble pc 8 then (bif Nat.beq pc 8 then some (.bipush 40, 2, 10, [], 40) else none)
  else (bif Nat.beq pc 10 then some (.if_icmp .le 5, 3, 13, [15], 0) else none))
  else ((fun pc => bif Nat.ble pc 13 then (bif Nat.beq pc 13 then some (.iconst (-1), 1, 14, [], (-1)) else none)
  else (bif Nat.ble pc 14 then (bif Nat.beq pc 14 then some (.ireturn, 1, 15, [], 0) else none)
  else (bif Nat.beq pc 15 then some (.iload_n 2, 1, 16, [], 0) else none))) : nk_F) pc) : nk_F) pc) : nk_F) pc
  else ((fun pc => bif Nat.ble pc 21 then ((fun pc => bif Nat.ble pc 19 then (bif Nat.ble pc 16 then (bif Nat.beq pc 16 then some (.ifCond .ge 9, 3, 19, [25], 0) else none)
  else (bif Nat.beq pc 19 then some (.aload_n 0, 1, 20, [], 0) else none))
  else (bif Nat.ble pc 20 then (bif Nat.beq pc 20 then some (.iconst 5, 1, 21, [], 5) else none)
  else (bif Nat.beq pc 21 then some (.invokevirtual 97, 3, 24, [], 0) else none))) : nk_F) pc
  else ((fun pc => bif Nat.ble pc 25 then (bif Nat.ble pc 24 then (bif Nat.beq pc 24 then some (.ireturn, 1, 25, [], 0) else none)
  else (bif Nat.beq pc 25 then some (.aload_n 0, 1, 26, [], 0) else none))
  else ((fun pc => bif Nat.ble pc 26 then (bif Nat.beq pc 26 then some (.getfield 26, 3, 29, [], 0) else none)
  else (bif Nat.ble pc 29 then (bif Nat.beq pc 29 then some (.iload_n 1, 1, 30, [], 0) else none)
  else (bif Nat.beq pc 30 then some (.iload_n 2, 1, 31, [], 0) else none))) : nk_F) pc) : nk_F) pc) : nk_F) pc) : nk_F) pc
  else ((fun pc => bif Nat.ble pc 44 then ((fun pc => bif Nat.ble pc 34 then ((fun pc => bif Nat.ble pc 32 then (bif Nat.ble pc 31 then (bif Nat.beq pc 31 then some (.iastore, 1, 32, [], 0) else none)
  else (bif Nat.beq pc 32 then some (.iconst 0, 1, 33, [], 0) else none))
  else (bif Nat.ble pc 33 then (bif Nat.beq pc 33 then some (.istore_n 3, 1, 34, [], 0) else none)
  else (bif Nat.beq pc 34 then some (.iload_n 3, 1, 35, [], 0) else none))) : nk_F) pc
  else ((fun pc => bif Nat.ble pc 37 then (bif Nat.ble pc 35 then (bif Nat.beq pc 35 then some (.bipush 40, 2, 37, [], 40) else none)
  else (bif Nat.beq pc 37 then some (.if_icmp .ge 22, 3, 40, [59], 0) else none))
  else ((fun pc => bif Nat.ble pc 40 then (bif Nat.beq pc 40 then some (.aload_n 0, 1, 41, [], 0) else none)
  else (bif Nat.ble pc 41 then (bif Nat.beq pc 41 then some (.getfield 29, 3, 44, [], 0) else none)
  else (bif Nat.beq pc 44 then some (.bipush 40, 2, 46, [], 40) else none))) : nk_F) pc) : nk_F) pc) : nk_F) pc
  else ((fun pc => bif Nat.ble pc 50 then ((fun pc => bif Nat.ble pc 47 then (bif Nat.ble pc 46 then (bif Nat.beq pc 46 then some (.iload_n 1, 1, 47, [], 0) else none)
  else (bif Nat.beq pc 47 then some (.imul, 1, 48, [], 0) else none))
  else ((fun pc => bif Nat.ble pc 48 then (bif Nat.beq pc 48 then some (.iload_n 3, 1, 49, [], 0) else none)
  else (bif Nat.ble pc 49 then (bif Nat.beq pc 49 then some (.iadd, 1, 50, [], 0) else none)
  else (bif Nat.beq pc 50 then some (.bipush 32, 2, 52, [], 32) else none))) : nk_F) pc) : nk_F) pc
  else ((fun pc => bif Nat.ble pc 53 then (bif Nat.ble pc 52 then (bif Nat.beq pc 52 then some (.iastore, 1, 53, [], 0) else none)
  else (bif Nat.beq pc 53 then some (.iinc 3 1, 3, 56, [], 1) else none))
  else ((fun pc => bif Nat.ble pc 56 then (bif Nat.beq pc 56 then some (.goto (-22), 3, 59, [34], 0) else none)
  else (bif Nat.ble pc 59 then (bif Nat.beq pc 59 then some (.iload_n 2, 1, 60, [], 0) else none)
  else (bif Nat.beq pc 60 then some (.ireturn, 1, 61, [], 0) else none))) : nk_F) pc) : nk_F) pc) : nk_F) pc) : nk_F) pc
noncomputable def kc_X6_text : Nat → Option nk_I := nk_top 61 kt_X6_text
noncomputable def kx_X6_text : nk_T := ([(26, 6, 8, 4), (29, 6, 9, 4)], [(406, 1, 0, 0, 0, ev_X6_isText), (388, 2, 7, 0, 0, ev_X6_meets)], [], [], [], [], [], 1, false, 0, 0)
noncomputable def ev_X6_text : nk_Ev := fun as h Q => nk_if (Nat.ble (nk_wd as) 4) (nk_ev kx_X6_text kc_X6_text 4 as h Q)
set_option maxRecDepth 100000 in
theorem ck_X6_text : nk_chk cX6_text kc_X6_text 61 = true := nd_chk (by decide +kernel) (by decide +kernel)
set_option maxRecDepth 100000 in
set_option maxHeartbeats 4000000 in
theorem ca_X6_text_406 (l : Launch) : nk_CallOk l { frames := 2, cells := 0, slots := 0, locals := 42 } RX6 cX6_text 4 false 406 (1, 0, 0, 0, ev_X6_isText) := nk_callS (x := 101) (n := 1) (mt_X6_isText l) (nk_msc [(4, 101), (4, 102), (4, 103), (1, 7)] (by decide +kernel)) rfl rfl (by decide +kernel) ⟨by decide, by decide⟩
set_option maxRecDepth 100000 in
set_option maxHeartbeats 4000000 in
theorem ca_X6_text_388 (l : Launch) : nk_CallOk l { frames := 2, cells := 0, slots := 0, locals := 42 } RX6 cX6_text 4 false 388 (2, 7, 0, 0, ev_X6_meets) := nk_callV (x := 97) (n := 1) (ci := 6) (r := (RX6, TX6, 32)) (mt_X6_meets l) rfl (nk_msc [(4, 60), (4, 61), (4, 62), (4, 63), (0, 26), (1, 7)] (by decide +kernel)) rfl rfl (by decide +kernel) ⟨by decide, by decide⟩
set_option maxRecDepth 100000 in
set_option maxHeartbeats 4000000 in
theorem mt_X6_text (l : Launch) : nk_Met l yX6_text cX6_text 4 (some .int) { frames := 2, cells := 0, slots := 0, locals := 42 } false 0 0 ev_X6_text :=
  nk_met nk_gok (plainFor_of_name (by decide)) ck_X6_text (nk_top_out 61 kt_X6_text) ⟨List.forall_mem_cons.mpr ⟨nk_fkc [(3, 201)] (by decide +kernel), List.forall_mem_cons.mpr ⟨nk_fkc [(3, 202)] (by decide +kernel), fun _ h => absurd h List.not_mem_nil⟩⟩, List.forall_mem_cons.mpr ⟨ca_X6_text_406 l, List.forall_mem_cons.mpr ⟨ca_X6_text_388 l, fun _ h => absurd h List.not_mem_nil⟩⟩, fun _ h => absurd h List.not_mem_nil, fun _ h => absurd h List.not_mem_nil, fun _ h => absurd h List.not_mem_nil, fun _ h => absurd h List.not_mem_nil, fun _ h => absurd h List.not_mem_nil, by decide, rfl, rfl⟩ rfl (by decide)
/-! MarbleLawModel.put(III)I -/
noncomputable def kt_X6_put : Nat → Option nk_I := fun pc => bif Nat.ble pc 36 then ((fun pc => bif Nat.ble pc 17 then ((fun pc => bif Nat.ble pc 7 then ((fun pc => bif Nat.ble pc 1 then (bif Nat.ble pc 0 then (bif Nat.beq pc 0 then some (.aload_n 0, 1, 1, [], 0) else none)
  else (bif Nat.beq pc 1 then some (.iload_n 1, 1, 2, [], 0) else none))
  else ((fun pc => bif Nat.ble pc 2 then (bif Nat.beq pc 2 then some (.invokevirtual 117, 3, 5, [], 0) else none)
  else (bif Nat.ble pc 5 then (bif Nat.beq pc 5 then some (.istore 4, 2, 7, [], 0) else none)
  else (bif Nat.beq pc 7 then some (.iload 4, 2, 9, [], 0) else none))) : nk_F) pc) : nk_F) pc
  else ((fun pc => bif Nat.ble pc 14 then ((fun pc => bif Nat.ble pc 9 then (bif Nat.beq pc 9 then some (.ifCond .ge 6, 3, 12, [15], 0) else none)
  else (bif Nat.ble pc 12 then (bif Nat.beq pc 12 then some (.iload 4, 2, 14, [], 0) else none)
  else (bif Nat.beq pc 14 then some (.ireturn, 1, 15, [], 0) else none))) : nk_F) pc
  else ((fun pc => bif Nat.ble pc 15 then (bif Nat.beq pc 15 then some (.iload_n 2, 1, 16, [], 0) else none)
  else (bif Nat.ble pc 16 then (bif Nat.beq pc 16 then some (.iconst 0, 1, 17, [], 0) else none)
  else (bif Nat.beq pc 17 then some (.aload_n 0, 1, 18, [], 0) else none))) : nk_F) pc) : nk_F) pc) : nk_F) pc
  else ((fun pc => bif Nat.ble pc 24 then ((fun pc => bif Nat.ble pc 21 then (bif Nat.ble pc 18 then (bif Nat.beq pc 18 then some (.getfield 26, 3, 21, [], 0) else none)
  else (bif Nat.beq pc 21 then some (.iload_n 1, 1, 22, [], 0) else none))
  else ((fun pc => bif Nat.ble pc 22 then (bif Nat.beq pc 22 then some (.iaload, 1, 23, [], 0) else none)
  else (bif Nat.ble pc 23 then (bif Nat.beq pc 23 then some (.iconst 1, 1, 24, [], 1) else none)
  else (bif Nat.beq pc 24 then some (.isub, 1, 25, [], 0) else none))) : nk_F) pc) : nk_F) pc
  else ((fun pc => bif Nat.ble pc 31 then ((fun pc => bif Nat.ble pc 25 then (bif Nat.beq pc 25 then some (.invokestatic 89, 3, 28, [], 0) else none)
  else (bif Nat.ble pc 28 then (bif Nat.beq pc 28 then some (.ifCond .ne 9, 3, 31, [37], 0) else none)
  else (bif Nat.beq pc 31 then some (.aload_n 0, 1, 32, [], 0) else none))) : nk_F) pc
  else ((fun pc => bif Nat.ble pc 32 then (bif Nat.beq pc 32 then some (.iconst 2, 1, 33, [], 2) else none)
  else (bif Nat.ble pc 33 then (bif Nat.beq pc 33 then some (.invokevirtual 97, 3, 36, [], 0) else none)
  else (bif Nat.beq pc 36 then some (.ireturn, 1, 37, [], 0) else none))) : nk_F) pc) : nk_F) pc) : nk_F) pc) : nk_F) pc
  else ((fun pc => bif Nat.ble pc 51 then ((fun pc => bif Nat.ble pc 44 then ((fun pc => bif Nat.ble pc 38 then (bif Nat.ble pc 37 then (bif Nat.beq pc 37 then some (.aload_n 0, 1, 38, [], 0) else none)
  else (bif Nat.beq pc 38 then some (.getfield 29, 3, 41, [], 0) else none))
  else ((fun pc => bif Nat.ble pc 41 then (bif Nat.beq pc 41 then some (.bipush 40, 2, 43, [], 40) else none)
  else (bif Nat.ble pc 43 then (bif Nat.beq pc 43 then some (.iload_n 1, 1, 44, [], 0) else none)
  else (bif Nat.beq pc 44 then some (.imul, 1, 45, [], 0) else none))) : nk_F) pc) : nk_F) pc
  else ((fun pc => bif Nat.ble pc 47 then ((fun pc => bif Nat.ble pc 45 then (bif Nat.beq pc 45 then some (.iload_n 2, 1, 46, [], 0) else none)
  else (bif Nat.ble pc 46 then (bif Nat.beq pc 46 then some (.iadd, 1, 47, [], 0) else none)
  else (bif Nat.beq pc 47 then some (.iaload, 1, 48, [], 0) else none))) : nk_F) pc
  else ((fun pc => bif Nat.ble pc 48 then (bif Nat.beq pc 48 then some (.istore 5, 2, 50, [], 0) else none)
  else (bif Nat.ble pc 50 then (bif Nat.beq pc 50 then some (.aload_n 0, 1, 51, [], 0) else none)
  else (bif Nat.beq pc 51 then some (.getfield 29, 3, 54, [], 0) else none))) : nk_F) pc) : nk_F) pc) : nk_F) pc
  else ((fun pc => bif Nat.ble pc 60 then ((fun pc => bif Nat.ble pc 57 then ((fun pc => bif Nat.ble pc 54 then (bif Nat.beq pc 54 then some (.bipush 40, 2, 56, [], 40) else none)
  else (bif Nat.ble pc 56 then (bif Nat.beq pc 56 then some (.iload_n 1, 1, 57, [], 0) else none)
  else (bif Nat.beq pc 57 then some (.imul, 1, 58, [], 0) else none))) : nk_F) pc
  else ((fun pc => bif Nat.ble pc 58 then (bif Nat.beq pc 58 then some (.iload_n 2, 1, 59, [], 0) else none)
  else (bif Nat.ble pc 59 then (bif Nat.beq pc 59 then some (.iadd, 1, 60, [], 0) else none)
  else (bif Nat.beq pc 60 then some (.iload_n 3, 1, 61, [], 0) else none))) : nk_F) pc) : nk_F) pc
  else ((fun pc => bif Nat.ble pc 63 then ((fun pc => bif Nat.ble pc 61 then (bif Nat.beq pc 61 then some (.i2b, 1, 62, [], 0) else none)
  else (bif Nat.ble pc 62 then (bif Nat.beq pc 62 then some (.iastore, 1, 63, [], 0) else none)
  else (bif Nat.beq pc 63 then some (.iload 5, 2, 65, [], 0) else none))) : nk_F) pc
  else ((fun pc => bif Nat.ble pc 65 then (bif Nat.beq pc 65 then some (.sipush 1000, 3, 68, [], 1000) else none)
  else (bif Nat.ble pc 68 then (bif Nat.beq pc 68 then some (.iadd, 1, 69, [], 0) else none)
  else (bif Nat.beq pc 69 then some (.ireturn, 1, 70, [], 0) else none))) : nk_F) pc) : nk_F) pc) : nk_F) pc) : nk_F) pc
noncomputable def kc_X6_put : Nat → Option nk_I := nk_top 70 kt_X6_put
noncomputable def kx_X6_put : nk_T := ([(26, 6, 8, 4), (29, 6, 9, 4)], [(468, 2, 7, 0, 0, ev_X6_askedText), (358, 3, 0, 0, 0, ev_X6_in), (388, 2, 7, 0, 0, ev_X6_meets)], [], [], [], [], [], 1, false, 0, 0)
noncomputable def ev_X6_put : nk_Ev := fun as h Q => nk_if (Nat.ble (nk_wd as) 6) (nk_ev kx_X6_put kc_X6_put 6 as h Q)
set_option maxRecDepth 100000 in
theorem ck_X6_put : nk_chk cX6_put kc_X6_put 70 = true := nd_chk (by decide +kernel) (by decide +kernel)
set_option maxRecDepth 100000 in
set_option maxHeartbeats 4000000 in
theorem ca_X6_put_468 (l : Launch) : nk_CallOk l { frames := 3, cells := 0, slots := 0, locals := 63 } RX6 cX6_put 6 false 468 (2, 7, 0, 0, ev_X6_askedText) := nk_callV (x := 117) (n := 1) (ci := 6) (r := (RX6, TX6, 32)) (mt_X6_askedText l) rfl (nk_msc [(4, 108), (4, 109), (4, 110), (4, 111), (0, 30), (1, 7)] (by decide +kernel)) rfl rfl (by decide +kernel) ⟨by decide, by decide⟩
set_option maxRecDepth 100000 in
set_option maxHeartbeats 4000000 in
theorem ca_X6_put_358 (l : Launch) : nk_CallOk l { frames := 3, cells := 0, slots := 0, locals := 63 } RX6 cX6_put 6 false 358 (3, 0, 0, 0, ev_X6_in) := nk_callS (x := 89) (n := 3) (mt_X6_in l) (nk_msc [(4, 57), (4, 58), (4, 59), (1, 7)] (by decide +kernel)) rfl rfl (by decide +kernel) ⟨by decide, by decide⟩
set_option maxRecDepth 100000 in
set_option maxHeartbeats 4000000 in
theorem ca_X6_put_388 (l : Launch) : nk_CallOk l { frames := 3, cells := 0, slots := 0, locals := 63 } RX6 cX6_put 6 false 388 (2, 7, 0, 0, ev_X6_meets) := nk_callV (x := 97) (n := 1) (ci := 6) (r := (RX6, TX6, 32)) (mt_X6_meets l) rfl (nk_msc [(4, 60), (4, 61), (4, 62), (4, 63), (0, 26), (1, 7)] (by decide +kernel)) rfl rfl (by decide +kernel) ⟨by decide, by decide⟩
set_option maxRecDepth 100000 in
set_option maxHeartbeats 4000000 in
theorem mt_X6_put (l : Launch) : nk_Met l yX6_put cX6_put 6 (some .int) { frames := 3, cells := 0, slots := 0, locals := 63 } false 0 0 ev_X6_put :=
  nk_met nk_gok (plainFor_of_name (by decide)) ck_X6_put (nk_top_out 70 kt_X6_put) ⟨List.forall_mem_cons.mpr ⟨nk_fkc [(3, 201)] (by decide +kernel), List.forall_mem_cons.mpr ⟨nk_fkc [(3, 202)] (by decide +kernel), fun _ h => absurd h List.not_mem_nil⟩⟩, List.forall_mem_cons.mpr ⟨ca_X6_put_468 l, List.forall_mem_cons.mpr ⟨ca_X6_put_358 l, List.forall_mem_cons.mpr ⟨ca_X6_put_388 l, fun _ h => absurd h List.not_mem_nil⟩⟩⟩, fun _ h => absurd h List.not_mem_nil, fun _ h => absurd h List.not_mem_nil, fun _ h => absurd h List.not_mem_nil, fun _ h => absurd h List.not_mem_nil, fun _ h => absurd h List.not_mem_nil, by decide, rfl, rfl⟩ rfl (by decide)
/-! MarbleLawModel.isStuff(I)Z -/
noncomputable def kt_X6_isStuff : Nat → Option nk_I := fun pc => bif Nat.ble pc 3 then ((fun pc => bif Nat.ble pc 1 then (bif Nat.ble pc 0 then (bif Nat.beq pc 0 then some (.iload_n 1, 1, 1, [], 0) else none)
  else (bif Nat.beq pc 1 then some (.iconst 0, 1, 2, [], 0) else none))
  else (bif Nat.ble pc 2 then (bif Nat.beq pc 2 then some (.aload_n 0, 1, 3, [], 0) else none)
  else (bif Nat.beq pc 3 then some (.getfield 120, 3, 6, [], 0) else none))) : nk_F) pc
  else ((fun pc => bif Nat.ble pc 7 then (bif Nat.ble pc 6 then (bif Nat.beq pc 6 then some (.iconst 1, 1, 7, [], 1) else none)
  else (bif Nat.beq pc 7 then some (.isub, 1, 8, [], 0) else none))
  else (bif Nat.ble pc 8 then (bif Nat.beq pc 8 then some (.invokestatic 89, 3, 11, [], 0) else none)
  else (bif Nat.beq pc 11 then some (.ireturn, 1, 12, [], 0) else none))) : nk_F) pc
noncomputable def kc_X6_isStuff : Nat → Option nk_I := nk_top 12 kt_X6_isStuff
noncomputable def kx_X6_isStuff : nk_T := ([(120, 6, 10, 0)], [(358, 3, 0, 0, 0, ev_X6_in)], [], [], [], [], [], 2, false, 0, 0)
noncomputable def ev_X6_isStuff : nk_Ev := fun as h Q => nk_if (Nat.ble (nk_wd as) 2) (nk_ev kx_X6_isStuff kc_X6_isStuff 2 as h Q)
set_option maxRecDepth 100000 in
theorem ck_X6_isStuff : nk_chk cX6_isStuff kc_X6_isStuff 12 = true := nd_chk (by decide +kernel) (by decide +kernel)
set_option maxRecDepth 100000 in
set_option maxHeartbeats 4000000 in
theorem ca_X6_isStuff_358 (l : Launch) : nk_CallOk l { frames := 1, cells := 0, slots := 0, locals := 22 } RX6 cX6_isStuff 2 false 358 (3, 0, 0, 0, ev_X6_in) := nk_callS (x := 89) (n := 3) (mt_X6_in l) (nk_msc [(4, 57), (4, 58), (4, 59), (1, 7)] (by decide +kernel)) rfl rfl (by decide +kernel) ⟨by decide, by decide⟩
set_option maxRecDepth 100000 in
set_option maxHeartbeats 4000000 in
theorem mt_X6_isStuff (l : Launch) : nk_Met l yX6_isStuff cX6_isStuff 2 (some .boolean) { frames := 1, cells := 0, slots := 0, locals := 22 } false 0 0 ev_X6_isStuff :=
  nk_met nk_gok (plainFor_of_name (by decide)) ck_X6_isStuff (nk_top_out 12 kt_X6_isStuff) ⟨List.forall_mem_cons.mpr ⟨nk_fkc [(3, 203)] (by decide +kernel), fun _ h => absurd h List.not_mem_nil⟩, List.forall_mem_cons.mpr ⟨ca_X6_isStuff_358 l, fun _ h => absurd h List.not_mem_nil⟩, fun _ h => absurd h List.not_mem_nil, fun _ h => absurd h List.not_mem_nil, fun _ h => absurd h List.not_mem_nil, fun _ h => absurd h List.not_mem_nil, fun _ h => absurd h List.not_mem_nil, by decide, rfl, rfl⟩ rfl (by decide)
/-! MarbleLawModel.isPerson(I)Z -/
noncomputable def kt_X6_isPerson : Nat → Option nk_I := fun pc => bif Nat.ble pc 1 then (bif Nat.ble pc 0 then (bif Nat.beq pc 0 then some (.iload_n 0, 1, 1, [], 0) else none)
  else (bif Nat.beq pc 1 then some (.iconst 0, 1, 2, [], 0) else none))
  else ((fun pc => bif Nat.ble pc 2 then (bif Nat.beq pc 2 then some (.iconst 5, 1, 3, [], 5) else none)
  else (bif Nat.ble pc 3 then (bif Nat.beq pc 3 then some (.invokestatic 89, 3, 6, [], 0) else none)
  else (bif Nat.beq pc 6 then some (.ireturn, 1, 7, [], 0) else none))) : nk_F) pc
noncomputable def kc_X6_isPerson : Nat → Option nk_I := nk_top 7 kt_X6_isPerson
noncomputable def kx_X6_isPerson : nk_T := ([], [(358, 3, 0, 0, 0, ev_X6_in)], [], [], [], [], [], 2, false, 0, 0)
noncomputable def ev_X6_isPerson : nk_Ev := fun as h Q => nk_if (Nat.ble (nk_wd as) 1) (nk_ev kx_X6_isPerson kc_X6_isPerson 1 as h Q)
set_option maxRecDepth 100000 in
theorem ck_X6_isPerson : nk_chk cX6_isPerson kc_X6_isPerson 7 = true := nd_chk (by decide +kernel) (by decide +kernel)
set_option maxRecDepth 100000 in
set_option maxHeartbeats 4000000 in
theorem ca_X6_isPerson_358 (l : Launch) : nk_CallOk l { frames := 1, cells := 0, slots := 0, locals := 22 } RX6 cX6_isPerson 1 false 358 (3, 0, 0, 0, ev_X6_in) := nk_callS (x := 89) (n := 3) (mt_X6_in l) (nk_msc [(4, 57), (4, 58), (4, 59), (1, 7)] (by decide +kernel)) rfl rfl (by decide +kernel) ⟨by decide, by decide⟩
set_option maxRecDepth 100000 in
set_option maxHeartbeats 4000000 in
theorem mt_X6_isPerson (l : Launch) : nk_Met l yX6_isPerson cX6_isPerson 1 (some .boolean) { frames := 1, cells := 0, slots := 0, locals := 22 } false 0 0 ev_X6_isPerson :=
  nk_met nk_gok (plainFor_of_name (by decide)) ck_X6_isPerson (nk_top_out 7 kt_X6_isPerson) ⟨fun _ h => absurd h List.not_mem_nil, List.forall_mem_cons.mpr ⟨ca_X6_isPerson_358 l, fun _ h => absurd h List.not_mem_nil⟩, fun _ h => absurd h List.not_mem_nil, fun _ h => absurd h List.not_mem_nil, fun _ h => absurd h List.not_mem_nil, fun _ h => absurd h List.not_mem_nil, fun _ h => absurd h List.not_mem_nil, by decide, rfl, rfl⟩ rfl (by decide)
/-! MarbleLawModel.areStuff(IIII)Z -/
noncomputable def kt_X6_areStuff : Nat → Option nk_I := fun pc => bif Nat.ble pc 20 then ((fun pc => bif Nat.ble pc 7 then ((fun pc => bif Nat.ble pc 1 then (bif Nat.ble pc 0 then (bif Nat.beq pc 0 then some (.iload_n 0, 1, 1, [], 0) else none)
  else (bif Nat.beq pc 1 then some (.iconst 0, 1, 2, [], 0) else none))
  else ((fun pc => bif Nat.ble pc 2 then (bif Nat.beq pc 2 then some (.bipush 9, 2, 4, [], 9) else none)
  else (bif Nat.ble pc 4 then (bif Nat.beq pc 4 then some (.invokestatic 89, 3, 7, [], 0) else none)
  else (bif Nat.beq pc 7 then some (.ifCond .eq 34, 3, 10, [41], 0) else none))) : nk_F) pc) : nk_F) pc
  else ((fun pc => bif Nat.ble pc 12 then ((fun pc => bif Nat.ble pc 10 then (bif Nat.beq pc 10 then some (.iload_n 1, 1, 11, [], 0) else none)
  else (bif Nat.ble pc 11 then (bif Nat.beq pc 11 then some (.iconst 1, 1, 12, [], 1) else none)
  else (bif Nat.beq pc 12 then some (.bipush 99, 2, 14, [], 99) else none))) : nk_F) pc
  else ((fun pc => bif Nat.ble pc 14 then (bif Nat.beq pc 14 then some (.invokestatic 89, 3, 17, [], 0) else none)
  else (bif Nat.ble pc 17 then (bif Nat.beq pc 17 then some (.ifCond .eq 24, 3, 20, [41], 0) else none)
  else (bif Nat.beq pc 20 then some (.iload_n 2, 1, 21, [], 0) else none))) : nk_F) pc) : nk_F) pc) : nk_F) pc
  else ((fun pc => bif Nat.ble pc 30 then ((fun pc => bif Nat.ble pc 22 then (bif Nat.ble pc 21 then (bif Nat.beq pc 21 then some (.iconst 1, 1, 22, [], 1) else none)
  else (bif Nat.beq pc 22 then some (.bipush 99, 2, 24, [], 99) else none))
  else ((fun pc => bif Nat.ble pc 24 then (bif Nat.beq pc 24 then some (.invokestatic 89, 3, 27, [], 0) else none)
  else (bif Nat.ble pc 27 then (bif Nat.beq pc 27 then some (.ifCond .eq 14, 3, 30, [41], 0) else none)
  else (bif Nat.beq pc 30 then some (.iload_n 3, 1, 31, [], 0) else none))) : nk_F) pc) : nk_F) pc
  else ((fun pc => bif Nat.ble pc 37 then ((fun pc => bif Nat.ble pc 31 then (bif Nat.beq pc 31 then some (.invokestatic 123, 3, 34, [], 0) else none)
  else (bif Nat.ble pc 34 then (bif Nat.beq pc 34 then some (.ifCond .eq 7, 3, 37, [41], 0) else none)
  else (bif Nat.beq pc 37 then some (.iconst 1, 1, 38, [], 1) else none))) : nk_F) pc
  else ((fun pc => bif Nat.ble pc 38 then (bif Nat.beq pc 38 then some (.goto 4, 3, 41, [42], 0) else none)
  else (bif Nat.ble pc 41 then (bif Nat.beq pc 41 then some (.iconst 0, 1, 42, [], 0) else none)
  else (bif Nat.beq pc 42 then some (.ireturn, 1, 43, [], 0) else none))) : nk_F) pc) : nk_F) pc) : nk_F) pc
noncomputable def kc_X6_areStuff : Nat → Option nk_I := nk_top 43 kt_X6_areStuff
noncomputable def kx_X6_areStuff : nk_T := ([], [(358, 3, 0, 0, 0, ev_X6_in), (494, 1, 0, 0, 0, ev_X6_isPerson)], [], [], [], [], [], 2, false, 0, 0)
noncomputable def ev_X6_areStuff : nk_Ev := fun as h Q => nk_if (Nat.ble (nk_wd as) 4) (nk_ev kx_X6_areStuff kc_X6_areStuff 4 as h Q)
set_option maxRecDepth 100000 in
theorem ck_X6_areStuff : nk_chk cX6_areStuff kc_X6_areStuff 43 = true := nd_chk (by decide +kernel) (by decide +kernel)
set_option maxRecDepth 100000 in
set_option maxHeartbeats 4000000 in
theorem ca_X6_areStuff_358 (l : Launch) : nk_CallOk l { frames := 2, cells := 0, slots := 0, locals := 42 } RX6 cX6_areStuff 4 false 358 (3, 0, 0, 0, ev_X6_in) := nk_callS (x := 89) (n := 3) (mt_X6_in l) (nk_msc [(4, 57), (4, 58), (4, 59), (1, 7)] (by decide +kernel)) rfl rfl (by decide +kernel) ⟨by decide, by decide⟩
set_option maxRecDepth 100000 in
set_option maxHeartbeats 4000000 in
theorem ca_X6_areStuff_494 (l : Launch) : nk_CallOk l { frames := 2, cells := 0, slots := 0, locals := 42 } RX6 cX6_areStuff 4 false 494 (1, 0, 0, 0, ev_X6_isPerson) := nk_callS (x := 123) (n := 1) (mt_X6_isPerson l) (nk_msc [(4, 119), (4, 120), (4, 121), (1, 7)] (by decide +kernel)) rfl rfl (by decide +kernel) ⟨by decide, by decide⟩
set_option maxRecDepth 100000 in
set_option maxHeartbeats 4000000 in
theorem mt_X6_areStuff (l : Launch) : nk_Met l yX6_areStuff cX6_areStuff 4 (some .boolean) { frames := 2, cells := 0, slots := 0, locals := 42 } false 0 0 ev_X6_areStuff :=
  nk_met nk_gok (plainFor_of_name (by decide)) ck_X6_areStuff (nk_top_out 43 kt_X6_areStuff) ⟨fun _ h => absurd h List.not_mem_nil, List.forall_mem_cons.mpr ⟨ca_X6_areStuff_358 l, List.forall_mem_cons.mpr ⟨ca_X6_areStuff_494 l, fun _ h => absurd h List.not_mem_nil⟩⟩, fun _ h => absurd h List.not_mem_nil, fun _ h => absurd h List.not_mem_nil, fun _ h => absurd h List.not_mem_nil, fun _ h => absurd h List.not_mem_nil, fun _ h => absurd h List.not_mem_nil, by decide, rfl, rfl⟩ rfl (by decide)
/-! MarbleLawModel.newStuff(IIII)I -/
noncomputable def kt_X6_newStuff : Nat → Option nk_I := fun pc => bif Nat.ble pc 35 then ((fun pc => bif Nat.ble pc 17 then ((fun pc => bif Nat.ble pc 8 then ((fun pc => bif Nat.ble pc 2 then ((fun pc => bif Nat.ble pc 0 then (bif Nat.beq pc 0 then some (.iconst 5, 1, 1, [], 5) else none)
  else (bif Nat.ble pc 1 then (bif Nat.beq pc 1 then some (.aload_n 0, 1, 2, [], 0) else none)
  else (bif Nat.beq pc 2 then some (.getfield 120, 3, 5, [], 0) else none))) : nk_F) pc
  else ((fun pc => bif Nat.ble pc 5 then (bif Nat.beq pc 5 then some (.imul, 1, 6, [], 0) else none)
  else (bif Nat.ble pc 6 then (bif Nat.beq pc 6 then some (.istore 5, 2, 8, [], 0) else none)
  else (bif Nat.beq pc 8 then some (.aload_n 0, 1, 9, [], 0) else none))) : nk_F) pc) : nk_F) pc
  else ((fun pc => bif Nat.ble pc 14 then ((fun pc => bif Nat.ble pc 9 then (bif Nat.beq pc 9 then some (.getfield 32, 3, 12, [], 0) else none)
  else (bif Nat.ble pc 12 then (bif Nat.beq pc 12 then some (.iload 5, 2, 14, [], 0) else none)
  else (bif Nat.beq pc 14 then some (.iload_n 1, 1, 15, [], 0) else none))) : nk_F) pc
  else ((fun pc => bif Nat.ble pc 15 then (bif Nat.beq pc 15 then some (.iastore, 1, 16, [], 0) else none)
  else (bif Nat.ble pc 16 then (bif Nat.beq pc 16 then some (.aload_n 0, 1, 17, [], 0) else none)
  else (bif Nat.beq pc 17 then some (.getfield 32, 3, 20, [], 0) else none))) : nk_F) pc) : nk_F) pc) : nk_F) pc
  else ((fun pc => bif Nat.ble pc 26 then ((fun pc => bif Nat.ble pc 23 then ((fun pc => bif Nat.ble pc 20 then (bif Nat.beq pc 20 then some (.iload 5, 2, 22, [], 0) else none)
  else (bif Nat.ble pc 22 then (bif Nat.beq pc 22 then some (.iconst 1, 1, 23, [], 1) else none)
  else (bif Nat.beq pc 23 then some (.iadd, 1, 24, [], 0) else none))) : nk_F) pc
  else ((fun pc => bif Nat.ble pc 24 then (bif Nat.beq pc 24 then some (.iload_n 2, 1, 25, [], 0) else none)
  else (bif Nat.ble pc 25 then (bif Nat.beq pc 25 then some (.iastore, 1, 26, [], 0) else none)
  else (bif Nat.beq pc 26 then some (.aload_n 0, 1, 27, [], 0) else none))) : nk_F) pc) : nk_F) pc
  else ((fun pc => bif Nat.ble pc 32 then ((fun pc => bif Nat.ble pc 27 then (bif Nat.beq pc 27 then some (.getfield 32, 3, 30, [], 0) else none)
  else (bif Nat.ble pc 30 then (bif Nat.beq pc 30 then some (.iload 5, 2, 32, [], 0) else none)
  else (bif Nat.beq pc 32 then some (.iconst 2, 1, 33, [], 2) else none))) : nk_F) pc
  else ((fun pc => bif Nat.ble pc 33 then (bif Nat.beq pc 33 then some (.iadd, 1, 34, [], 0) else none)
  else (bif Nat.ble pc 34 then (bif Nat.beq pc 34 then some (.iload_n 3, 1, 35, [], 0) else none)
  else (bif Nat.beq pc 35 then some (.iastore, 1, 36, [], 0) else none))) : nk_F) pc) : nk_F) pc) : nk_F) pc) : nk_F) pc
  else ((fun pc => bif Nat.ble pc 54 then ((fun pc => bif Nat.ble pc 44 then ((fun pc => bif Nat.ble pc 40 then ((fun pc => bif Nat.ble pc 36 then (bif Nat.beq pc 36 then some (.aload_n 0, 1, 37, [], 0) else none)
  else (bif Nat.ble pc 37 then (bif Nat.beq pc 37 then some (.getfield 32, 3, 40, [], 0) else none)
  else (bif Nat.beq pc 40 then some (.iload 5, 2, 42, [], 0) else none))) : nk_F) pc
  else ((fun pc => bif Nat.ble pc 42 then (bif Nat.beq pc 42 then some (.iconst 3, 1, 43, [], 3) else none)
  else (bif Nat.ble pc 43 then (bif Nat.beq pc 43 then some (.iadd, 1, 44, [], 0) else none)
  else (bif Nat.beq pc 44 then some (.iload 4, 2, 46, [], 0) else none))) : nk_F) pc) : nk_F) pc
  else ((fun pc => bif Nat.ble pc 48 then ((fun pc => bif Nat.ble pc 46 then (bif Nat.beq pc 46 then some (.iastore, 1, 47, [], 0) else none)
  else (bif Nat.ble pc 47 then (bif Nat.beq pc 47 then some (.aload_n 0, 1, 48, [], 0) else none)
  else (bif Nat.beq pc 48 then some (.getfield 32, 3, 51, [], 0) else none))) : nk_F) pc
  else ((fun pc => bif Nat.ble pc 51 then (bif Nat.beq pc 51 then some (.iload 5, 2, 53, [], 0) else none)
  else (bif Nat.ble pc 53 then (bif Nat.beq pc 53 then some (.iconst 4, 1, 54, [], 4) else none)
  else (bif Nat.beq pc 54 then some (.iadd, 1, 55, [], 0) else none))) : nk_F) pc) : nk_F) pc) : nk_F) pc
  else ((fun pc => bif Nat.ble pc 62 then ((fun pc => bif Nat.ble pc 57 then ((fun pc => bif Nat.ble pc 55 then (bif Nat.beq pc 55 then some (.iconst 0, 1, 56, [], 0) else none)
  else (bif Nat.ble pc 56 then (bif Nat.beq pc 56 then some (.iastore, 1, 57, [], 0) else none)
  else (bif Nat.beq pc 57 then some (.aload_n 0, 1, 58, [], 0) else none))) : nk_F) pc
  else ((fun pc => bif Nat.ble pc 58 then (bif Nat.beq pc 58 then some (.dup, 1, 59, [], 0) else none)
  else (bif Nat.ble pc 59 then (bif Nat.beq pc 59 then some (.getfield 120, 3, 62, [], 0) else none)
  else (bif Nat.beq pc 62 then some (.iconst 1, 1, 63, [], 1) else none))) : nk_F) pc) : nk_F) pc
  else ((fun pc => bif Nat.ble pc 67 then ((fun pc => bif Nat.ble pc 63 then (bif Nat.beq pc 63 then some (.iadd, 1, 64, [], 0) else none)
  else (bif Nat.ble pc 64 then (bif Nat.beq pc 64 then some (.putfield 120, 3, 67, [], 0) else none)
  else (bif Nat.beq pc 67 then some (.aload_n 0, 1, 68, [], 0) else none))) : nk_F) pc
  else ((fun pc => bif Nat.ble pc 71 then (bif Nat.ble pc 68 then (bif Nat.beq pc 68 then some (.getfield 120, 3, 71, [], 0) else none)
  else (bif Nat.beq pc 71 then some (.iconst 1, 1, 72, [], 1) else none))
  else (bif Nat.ble pc 72 then (bif Nat.beq pc 72 then some (.isub, 1, 73, [], 0) else none)
  else (bif Nat.beq pc 73 then some (.ireturn, 1, 74, [], 0) else none))) : nk_F) pc) : nk_F) pc) : nk_F) pc) : nk_F) pc
noncomputable def kc_X6_newStuff : Nat → Option nk_I := nk_top 74 kt_X6_newStuff
noncomputable def kx_X6_newStuff : nk_T := ([(120, 6, 10, 0), (32, 6, 11, 4)], [], [], [], [], [], [], 1, false, 0, 0)
noncomputable def ev_X6_newStuff : nk_Ev := fun as h Q => nk_if (Nat.ble (nk_wd as) 6) (nk_ev kx_X6_newStuff kc_X6_newStuff 6 as h Q)
set_option maxRecDepth 100000 in
theorem ck_X6_newStuff : nk_chk cX6_newStuff kc_X6_newStuff 74 = true := nd_chk (by decide +kernel) (by decide +kernel)
set_option maxRecDepth 100000 in
set_option maxHeartbeats 4000000 in
theorem mt_X6_newStuff (l : Launch) : nk_Met l yX6_newStuff cX6_newStuff 6 (some .int) { frames := 0, cells := 0, slots := 0, locals := 0 } false 0 0 ev_X6_newStuff :=
  nk_met nk_gok (plainFor_of_name (by decide)) ck_X6_newStuff (nk_top_out 74 kt_X6_newStuff) ⟨List.forall_mem_cons.mpr ⟨nk_fkc [(3, 203)] (by decide +kernel), List.forall_mem_cons.mpr ⟨nk_fkc [(3, 188), (3, 204)] (by decide +kernel), fun _ h => absurd h List.not_mem_nil⟩⟩, fun _ h => absurd h List.not_mem_nil, fun _ h => absurd h List.not_mem_nil, fun _ h => absurd h List.not_mem_nil, fun _ h => absurd h List.not_mem_nil, fun _ h => absurd h List.not_mem_nil, fun _ h => absurd h List.not_mem_nil, by decide, rfl, rfl⟩ rfl (by decide)
/-! MarbleLawModel.stuff(IIII)I -/
noncomputable def kt_X6_stuff : Nat → Option nk_I := fun pc => bif Nat.ble pc 14 then ((fun pc => bif Nat.ble pc 5 then ((fun pc => bif Nat.ble pc 1 then (bif Nat.ble pc 0 then (bif Nat.beq pc 0 then some (.iload_n 1, 1, 1, [], 0) else none)
  else (bif Nat.beq pc 1 then some (.iload_n 2, 1, 2, [], 0) else none))
  else ((fun pc => bif Nat.ble pc 2 then (bif Nat.beq pc 2 then some (.iload_n 3, 1, 3, [], 0) else none)
  else (bif Nat.ble pc 3 then (bif Nat.beq pc 3 then some (.iload 4, 2, 5, [], 0) else none)
  else (bif Nat.beq pc 5 then some (.invokestatic 126, 3, 8, [], 0) else none))) : nk_F) pc) : nk_F) pc
  else ((fun pc => bif Nat.ble pc 11 then (bif Nat.ble pc 8 then (bif Nat.beq pc 8 then some (.ifCond .ne 5, 3, 11, [13], 0) else none)
  else (bif Nat.beq pc 11 then some (.iconst (-1), 1, 12, [], (-1)) else none))
  else ((fun pc => bif Nat.ble pc 12 then (bif Nat.beq pc 12 then some (.ireturn, 1, 13, [], 0) else none)
  else (bif Nat.ble pc 13 then (bif Nat.beq pc 13 then some (.aload_n 0, 1, 14, [], 0) else none)
  else (bif Nat.beq pc 14 then some (.getfield 120, 3, 17, [], 0) else none))) : nk_F) pc) : nk_F) pc) : nk_F) pc
  else ((fun pc => bif Nat.ble pc 27 then ((fun pc => bif Nat.ble pc 19 then (bif Nat.ble pc 17 then (bif Nat.beq pc 17 then some (.bipush 16, 2, 19, [], 16) else none)
  else (bif Nat.beq pc 19 then some (.if_icmp .ne 8, 3, 22, [27], 0) else none))
  else ((fun pc => bif Nat.ble pc 22 then (bif Nat.beq pc 22 then some (.bipush (-2), 2, 24, [], (-2)) else none)
  else (bif Nat.ble pc 24 then (bif Nat.beq pc 24 then some (.goto 12, 3, 27, [36], 0) else none)
  else (bif Nat.beq pc 27 then some (.aload_n 0, 1, 28, [], 0) else none))) : nk_F) pc) : nk_F) pc
  else ((fun pc => bif Nat.ble pc 30 then ((fun pc => bif Nat.ble pc 28 then (bif Nat.beq pc 28 then some (.iload_n 1, 1, 29, [], 0) else none)
  else (bif Nat.ble pc 29 then (bif Nat.beq pc 29 then some (.iload_n 2, 1, 30, [], 0) else none)
  else (bif Nat.beq pc 30 then some (.iload_n 3, 1, 31, [], 0) else none))) : nk_F) pc
  else ((fun pc => bif Nat.ble pc 31 then (bif Nat.beq pc 31 then some (.iload 4, 2, 33, [], 0) else none)
  else (bif Nat.ble pc 33 then (bif Nat.beq pc 33 then some (.invokevirtual 130, 3, 36, [], 0) else none)
  else (bif Nat.beq pc 36 then some (.ireturn, 1, 37, [], 0) else none))) : nk_F) pc) : nk_F) pc) : nk_F) pc
noncomputable def kc_X6_stuff : Nat → Option nk_I := nk_top 37 kt_X6_stuff
noncomputable def kx_X6_stuff : nk_T := ([(120, 6, 10, 0)], [(506, 4, 0, 0, 0, ev_X6_areStuff), (520, 5, 7, 0, 0, ev_X6_newStuff)], [], [], [], [], [], 1, false, 0, 0)
noncomputable def ev_X6_stuff : nk_Ev := fun as h Q => nk_if (Nat.ble (nk_wd as) 5) (nk_ev kx_X6_stuff kc_X6_stuff 5 as h Q)
set_option maxRecDepth 100000 in
theorem ck_X6_stuff : nk_chk cX6_stuff kc_X6_stuff 37 = true := nd_chk (by decide +kernel) (by decide +kernel)
set_option maxRecDepth 100000 in
set_option maxHeartbeats 4000000 in
theorem ca_X6_stuff_506 (l : Launch) : nk_CallOk l { frames := 3, cells := 0, slots := 0, locals := 65 } RX6 cX6_stuff 5 false 506 (4, 0, 0, 0, ev_X6_areStuff) := nk_callS (x := 126) (n := 4) (mt_X6_areStuff l) (nk_msc [(4, 116), (4, 117), (4, 118), (1, 7)] (by decide +kernel)) rfl rfl (by decide +kernel) ⟨by decide, by decide⟩
set_option maxRecDepth 100000 in
set_option maxHeartbeats 4000000 in
theorem ca_X6_stuff_520 (l : Launch) : nk_CallOk l { frames := 3, cells := 0, slots := 0, locals := 65 } RX6 cX6_stuff 5 false 520 (5, 7, 0, 0, ev_X6_newStuff) := nk_callV (x := 130) (n := 4) (ci := 6) (r := (RX6, TX6, 32)) (mt_X6_newStuff l) rfl (nk_msc [(4, 122), (4, 123), (4, 124), (4, 125), (0, 31), (1, 7)] (by decide +kernel)) rfl rfl (by decide +kernel) ⟨by decide, by decide⟩
set_option maxRecDepth 100000 in
set_option maxHeartbeats 4000000 in
theorem mt_X6_stuff (l : Launch) : nk_Met l yX6_stuff cX6_stuff 5 (some .int) { frames := 3, cells := 0, slots := 0, locals := 65 } false 0 0 ev_X6_stuff :=
  nk_met nk_gok (plainFor_of_name (by decide)) ck_X6_stuff (nk_top_out 37 kt_X6_stuff) ⟨List.forall_mem_cons.mpr ⟨nk_fkc [(3, 203)] (by decide +kernel), fun _ h => absurd h List.not_mem_nil⟩, List.forall_mem_cons.mpr ⟨ca_X6_stuff_506 l, List.forall_mem_cons.mpr ⟨ca_X6_stuff_520 l, fun _ h => absurd h List.not_mem_nil⟩⟩, fun _ h => absurd h List.not_mem_nil, fun _ h => absurd h List.not_mem_nil, fun _ h => absurd h List.not_mem_nil, fun _ h => absurd h List.not_mem_nil, fun _ h => absurd h List.not_mem_nil, by decide, rfl, rfl⟩ rfl (by decide)
