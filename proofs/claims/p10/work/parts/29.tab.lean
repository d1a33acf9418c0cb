/-! MarbleLawModel.allOf(II)I -/
noncomputable def kt_X6_allOf : Nat → Option nk_I := fun pc => bif Nat.ble pc 25 then ((fun pc => bif Nat.ble pc 12 then ((fun pc => bif Nat.ble pc 4 then ((fun pc => bif Nat.ble pc 1 then (bif Nat.ble pc 0 then (bif Nat.beq pc 0 then some (.iconst 0, 1, 1, [], 0) else none)
  else (bif Nat.beq pc 1 then some (.istore_n 3, 1, 2, [], 0) else none))
  else (bif Nat.ble pc 2 then (bif Nat.beq pc 2 then some (.bipush 20, 2, 4, [], 20) else none)
  else (bif Nat.beq pc 4 then some (.iload_n 1, 1, 5, [], 0) else none))) : nk_F) pc
  else ((fun pc => bif Nat.ble pc 6 then (bif Nat.ble pc 5 then (bif Nat.beq pc 5 then some (.imul, 1, 6, [], 0) else none)
  else (bif Nat.beq pc 6 then some (.istore 4, 2, 8, [], 0) else none))
  else ((fun pc => bif Nat.ble pc 8 then (bif Nat.beq pc 8 then some (.iload 4, 2, 10, [], 0) else none)
  else (bif Nat.ble pc 10 then (bif Nat.beq pc 10 then some (.bipush 20, 2, 12, [], 20) else none)
  else (bif Nat.beq pc 12 then some (.iload_n 1, 1, 13, [], 0) else none))) : nk_F) pc) : nk_F) pc) : nk_F) pc
  else ((fun pc => bif Nat.ble pc 18 then ((fun pc => bif Nat.ble pc 14 then (bif Nat.ble pc 13 then (bif Nat.beq pc 13 then some (.imul, 1, 14, [], 0) else none)
  else (bif Nat.beq pc 14 then some (.aload_n 0, 1, 15, [], 0) else none))
  else (bif Nat.ble pc 15 then (bif Nat.beq pc 15 then some (.getfield 66, 3, 18, [], 0) else none)
  else (bif Nat.beq pc 18 then some (.iload_n 1, 1, 19, [], 0) else none))) : nk_F) pc
  else ((fun pc => bif Nat.ble pc 20 then (bif Nat.ble pc 19 then (bif Nat.beq pc 19 then some (.iaload, 1, 20, [], 0) else none)
  else (bif Nat.beq pc 20 then some (.iadd, 1, 21, [], 0) else none))
  else ((fun pc => bif Nat.ble pc 21 then (bif Nat.beq pc 21 then some (.if_icmp .ge 38, 3, 24, [59], 0) else none)
  else (bif Nat.ble pc 24 then (bif Nat.beq pc 24 then some (.iload_n 3, 1, 25, [], 0) else none)
  else (bif Nat.beq pc 25 then some (.iload_n 2, 1, 26, [], 0) else none))) : nk_F) pc) : nk_F) pc) : nk_F) pc) : nk_F) pc
  else ((fun pc => bif Nat.ble pc 41 then ((fun pc => bif Nat.ble pc 33 then ((fun pc => bif Nat.ble pc 29 then (bif Nat.ble pc 26 then (bif Nat.beq pc 26 then some (.ifCond .lt 14, 3, 29, [40], 0) else none)
  else (bif Nat.beq pc 29 then some (.aload_n 0, 1, 30, [], 0) else none))
  else (bif Nat.ble pc 30 then (bif Nat.beq pc 30 then some (.getfield 69, 3, 33, [], 0) else none)
  else (bif Nat.beq pc 33 then some (.iload 4, 2, 35, [], 0) else none))) : nk_F) pc
  else ((fun pc => bif Nat.ble pc 36 then (bif Nat.ble pc 35 then (bif Nat.beq pc 35 then some (.iaload, 1, 36, [], 0) else none)
  else (bif Nat.beq pc 36 then some (.iload_n 2, 1, 37, [], 0) else none))
  else ((fun pc => bif Nat.ble pc 37 then (bif Nat.beq pc 37 then some (.if_icmp .ne 13, 3, 40, [50], 0) else none)
  else (bif Nat.ble pc 40 then (bif Nat.beq pc 40 then some (.aload_n 0, 1, 41, [], 0) else none)
  else (bif Nat.beq pc 41 then some (.getfield 72, 3, 44, [], 0) else none))) : nk_F) pc) : nk_F) pc) : nk_F) pc
  else ((fun pc => bif Nat.ble pc 51 then ((fun pc => bif Nat.ble pc 46 then (bif Nat.ble pc 44 then (bif Nat.beq pc 44 then some (.iload 4, 2, 46, [], 0) else none)
  else (bif Nat.beq pc 46 then some (.iaload, 1, 47, [], 0) else none))
  else ((fun pc => bif Nat.ble pc 47 then (bif Nat.beq pc 47 then some (.goto 4, 3, 50, [51], 0) else none)
  else (bif Nat.ble pc 50 then (bif Nat.beq pc 50 then some (.iconst 0, 1, 51, [], 0) else none)
  else (bif Nat.beq pc 51 then some (.iadd, 1, 52, [], 0) else none))) : nk_F) pc) : nk_F) pc
  else ((fun pc => bif Nat.ble pc 53 then (bif Nat.ble pc 52 then (bif Nat.beq pc 52 then some (.istore_n 3, 1, 53, [], 0) else none)
  else (bif Nat.beq pc 53 then some (.iinc 4 1, 3, 56, [], 1) else none))
  else ((fun pc => bif Nat.ble pc 56 then (bif Nat.beq pc 56 then some (.goto (-48), 3, 59, [8], 0) else none)
  else (bif Nat.ble pc 59 then (bif Nat.beq pc 59 then some (.iload_n 3, 1, 60, [], 0) else none)
  else (bif Nat.beq pc 60 then some (.ireturn, 1, 61, [], 0) else none))) : nk_F) pc) : nk_F) pc) : nk_F) pc) : nk_F) pc
noncomputable def kc_X6_allOf : Nat → Option nk_I := nk_top 61 kt_X6_allOf
noncomputable def kx_X6_allOf : nk_T := ([(66, 6, 27, 4), (69, 6, 28, 4), (72, 6, 29, 4)], [], [], [], [], [], [], 1, false, 0, 0)
noncomputable def ev_X6_allOf : nk_Ev := fun as h Q => nk_if (Nat.ble (nk_wd as) 5) (nk_ev kx_X6_allOf kc_X6_allOf 5 as h Q)
set_option maxRecDepth 100000 in
theorem ck_X6_allOf : nk_chk cX6_allOf kc_X6_allOf 61 = true := nd_chk (by decide +kernel) (by decide +kernel)
set_option maxRecDepth 100000 in
set_option maxHeartbeats 4000000 in
theorem mt_X6_allOf (l : Launch) : nk_Met l yX6_allOf cX6_allOf 5 (some .int) { frames := 0, cells := 0, slots := 0, locals := 0 } false 0 0 ev_X6_allOf :=
  nk_met nk_gok (plainFor_of_name (by decide)) ck_X6_allOf (nk_top_out 61 kt_X6_allOf) ⟨List.forall_mem_cons.mpr ⟨nk_fkc [(3, 220)] (by decide +kernel), List.forall_mem_cons.mpr ⟨nk_fkc [(3, 221)] (by decide +kernel), List.forall_mem_cons.mpr ⟨nk_fkc [(3, 222)] (by decide +kernel), fun _ h => absurd h List.not_mem_nil⟩⟩⟩, fun _ h => absurd h List.not_mem_nil, fun _ h => absurd h List.not_mem_nil, fun _ h => absurd h List.not_mem_nil, fun _ h => absurd h List.not_mem_nil, fun _ h => absurd h List.not_mem_nil, fun _ h => absurd h List.not_mem_nil, by decide, rfl, rfl⟩ rfl (by decide)
/-! MarbleLawModel.drawsFrom(II)V -/
noncomputable def kt_X6_drawsFrom : Nat → Option nk_I := fun pc => bif Nat.ble pc 29 then ((fun pc => bif Nat.ble pc 14 then ((fun pc => bif Nat.ble pc 5 then ((fun pc => bif Nat.ble pc 1 then (bif Nat.ble pc 0 then (bif Nat.beq pc 0 then some (.aload_n 0, 1, 1, [], 0) else none)
  else (bif Nat.beq pc 1 then some (.getfield 72, 3, 4, [], 0) else none))
  else (bif Nat.ble pc 4 then (bif Nat.beq pc 4 then some (.iload_n 1, 1, 5, [], 0) else none)
  else (bif Nat.beq pc 5 then some (.iaload, 1, 6, [], 0) else none))) : nk_F) pc
  else ((fun pc => bif Nat.ble pc 7 then (bif Nat.ble pc 6 then (bif Nat.beq pc 6 then some (.iload_n 2, 1, 7, [], 0) else none)
  else (bif Nat.beq pc 7 then some (.if_icmp .ge 12, 3, 10, [19], 0) else none))
  else ((fun pc => bif Nat.ble pc 10 then (bif Nat.beq pc 10 then some (.aload_n 0, 1, 11, [], 0) else none)
  else (bif Nat.ble pc 11 then (bif Nat.beq pc 11 then some (.getfield 72, 3, 14, [], 0) else none)
  else (bif Nat.beq pc 14 then some (.iload_n 1, 1, 15, [], 0) else none))) : nk_F) pc) : nk_F) pc) : nk_F) pc
  else ((fun pc => bif Nat.ble pc 20 then ((fun pc => bif Nat.ble pc 16 then (bif Nat.ble pc 15 then (bif Nat.beq pc 15 then some (.iaload, 1, 16, [], 0) else none)
  else (bif Nat.beq pc 16 then some (.goto 4, 3, 19, [20], 0) else none))
  else (bif Nat.ble pc 19 then (bif Nat.beq pc 19 then some (.iload_n 2, 1, 20, [], 0) else none)
  else (bif Nat.beq pc 20 then some (.istore_n 3, 1, 21, [], 0) else none))) : nk_F) pc
  else ((fun pc => bif Nat.ble pc 22 then (bif Nat.ble pc 21 then (bif Nat.beq pc 21 then some (.iload_n 3, 1, 22, [], 0) else none)
  else (bif Nat.beq pc 22 then some (.aload_n 0, 1, 23, [], 0) else none))
  else ((fun pc => bif Nat.ble pc 23 then (bif Nat.beq pc 23 then some (.getfield 272, 3, 26, [], 0) else none)
  else (bif Nat.ble pc 26 then (bif Nat.beq pc 26 then some (.if_icmp .ge 7, 3, 29, [33], 0) else none)
  else (bif Nat.beq pc 29 then some (.iload_n 3, 1, 30, [], 0) else none))) : nk_F) pc) : nk_F) pc) : nk_F) pc) : nk_F) pc
  else ((fun pc => bif Nat.ble pc 44 then ((fun pc => bif Nat.ble pc 37 then ((fun pc => bif Nat.ble pc 33 then (bif Nat.ble pc 30 then (bif Nat.beq pc 30 then some (.goto 7, 3, 33, [37], 0) else none)
  else (bif Nat.beq pc 33 then some (.aload_n 0, 1, 34, [], 0) else none))
  else (bif Nat.ble pc 34 then (bif Nat.beq pc 34 then some (.getfield 272, 3, 37, [], 0) else none)
  else (bif Nat.beq pc 37 then some (.istore_n 3, 1, 38, [], 0) else none))) : nk_F) pc
  else ((fun pc => bif Nat.ble pc 39 then (bif Nat.ble pc 38 then (bif Nat.beq pc 38 then some (.aload_n 0, 1, 39, [], 0) else none)
  else (bif Nat.beq pc 39 then some (.getfield 72, 3, 42, [], 0) else none))
  else ((fun pc => bif Nat.ble pc 42 then (bif Nat.beq pc 42 then some (.iload_n 1, 1, 43, [], 0) else none)
  else (bif Nat.ble pc 43 then (bif Nat.beq pc 43 then some (.dup2, 1, 44, [], 0) else none)
  else (bif Nat.beq pc 44 then some (.iaload, 1, 45, [], 0) else none))) : nk_F) pc) : nk_F) pc) : nk_F) pc
  else ((fun pc => bif Nat.ble pc 49 then ((fun pc => bif Nat.ble pc 46 then (bif Nat.ble pc 45 then (bif Nat.beq pc 45 then some (.iload_n 3, 1, 46, [], 0) else none)
  else (bif Nat.beq pc 46 then some (.isub, 1, 47, [], 0) else none))
  else ((fun pc => bif Nat.ble pc 47 then (bif Nat.beq pc 47 then some (.iastore, 1, 48, [], 0) else none)
  else (bif Nat.ble pc 48 then (bif Nat.beq pc 48 then some (.aload_n 0, 1, 49, [], 0) else none)
  else (bif Nat.beq pc 49 then some (.dup, 1, 50, [], 0) else none))) : nk_F) pc) : nk_F) pc
  else ((fun pc => bif Nat.ble pc 53 then (bif Nat.ble pc 50 then (bif Nat.beq pc 50 then some (.getfield 272, 3, 53, [], 0) else none)
  else (bif Nat.beq pc 53 then some (.iload_n 3, 1, 54, [], 0) else none))
  else ((fun pc => bif Nat.ble pc 54 then (bif Nat.beq pc 54 then some (.isub, 1, 55, [], 0) else none)
  else (bif Nat.ble pc 55 then (bif Nat.beq pc 55 then some (.putfield 272, 3, 58, [], 0) else none)
  else (bif Nat.beq pc 58 then some (.return_, 1, 59, [], 0) else none))) : nk_F) pc) : nk_F) pc) : nk_F) pc) : nk_F) pc
noncomputable def kc_X6_drawsFrom : Nat → Option nk_I := nk_top 59 kt_X6_drawsFrom
noncomputable def kx_X6_drawsFrom : nk_T := ([(72, 6, 29, 4), (272, 6, 30, 0)], [], [], [], [], [], [], 0, false, 0, 0)
noncomputable def ev_X6_drawsFrom : nk_Ev := fun as h Q => nk_if (Nat.ble (nk_wd as) 4) (nk_ev kx_X6_drawsFrom kc_X6_drawsFrom 4 as h Q)
set_option maxRecDepth 100000 in
theorem ck_X6_drawsFrom : nk_chk cX6_drawsFrom kc_X6_drawsFrom 59 = true := nd_chk (by decide +kernel) (by decide +kernel)
set_option maxRecDepth 100000 in
set_option maxHeartbeats 4000000 in
theorem mt_X6_drawsFrom (l : Launch) : nk_Met l yX6_drawsFrom cX6_drawsFrom 4 none { frames := 0, cells := 0, slots := 0, locals := 0 } false 0 0 ev_X6_drawsFrom :=
  nk_met nk_gok (plainFor_of_name (by decide)) ck_X6_drawsFrom (nk_top_out 59 kt_X6_drawsFrom) ⟨List.forall_mem_cons.mpr ⟨nk_fkc [(3, 222)] (by decide +kernel), List.forall_mem_cons.mpr ⟨nk_fkc [(3, 223)] (by decide +kernel), fun _ h => absurd h List.not_mem_nil⟩⟩, fun _ h => absurd h List.not_mem_nil, fun _ h => absurd h List.not_mem_nil, fun _ h => absurd h List.not_mem_nil, fun _ h => absurd h List.not_mem_nil, fun _ h => absurd h List.not_mem_nil, fun _ h => absurd h List.not_mem_nil, by decide, rfl, rfl⟩ rfl (by decide)
/-! MarbleLawModel.draw(IIII)I -/
noncomputable def kt_X6_draw : Nat → Option nk_I := fun pc => bif Nat.ble pc 170 then ((fun pc => bif Nat.ble pc 78 then ((fun pc => bif Nat.ble pc 41 then ((fun pc => bif Nat.ble pc 22 then ((fun pc => bif Nat.ble pc 8 then ((fun pc => bif Nat.ble pc 1 then (bif Nat.ble pc 0 then (bif Nat.beq pc 0 then some (.iload_n 1, 1, 1, [], 0) else none)
  else (bif Nat.beq pc 1 then some (.invokestatic 269, 3, 4, [], 0) else none))
  else ((fun pc => bif Nat.ble pc 4 then (bif Nat.beq pc 4 then some (.ifCond .eq 31, 3, 7, [35], 0) else none)
  else (bif Nat.ble pc 7 then (bif Nat.beq pc 7 then some (.iload_n 2, 1, 8, [], 0) else none)
  else (bif Nat.beq pc 8 then some (.invokestatic 123, 3, 11, [], 0) else none))) : nk_F) pc) : nk_F) pc
  else ((fun pc => bif Nat.ble pc 15 then ((fun pc => bif Nat.ble pc 11 then (bif Nat.beq pc 11 then some (.ifCond .eq 24, 3, 14, [35], 0) else none)
  else (bif Nat.ble pc 14 then (bif Nat.beq pc 14 then some (.iload_n 3, 1, 15, [], 0) else none)
  else (bif Nat.beq pc 15 then some (.iconst 1, 1, 16, [], 1) else none))) : nk_F) pc
  else ((fun pc => bif Nat.ble pc 16 then (bif Nat.beq pc 16 then some (.sipush 999, 3, 19, [], 999) else none)
  else (bif Nat.ble pc 19 then (bif Nat.beq pc 19 then some (.invokestatic 89, 3, 22, [], 0) else none)
  else (bif Nat.beq pc 22 then some (.ifCond .eq 13, 3, 25, [35], 0) else none))) : nk_F) pc) : nk_F) pc) : nk_F) pc
  else ((fun pc => bif Nat.ble pc 32 then ((fun pc => bif Nat.ble pc 27 then (bif Nat.ble pc 25 then (bif Nat.beq pc 25 then some (.iload 4, 2, 27, [], 0) else none)
  else (bif Nat.beq pc 27 then some (.iconst 0, 1, 28, [], 0) else none))
  else ((fun pc => bif Nat.ble pc 28 then (bif Nat.beq pc 28 then some (.iconst 2, 1, 29, [], 2) else none)
  else (bif Nat.ble pc 29 then (bif Nat.beq pc 29 then some (.invokestatic 89, 3, 32, [], 0) else none)
  else (bif Nat.beq pc 32 then some (.ifCond .ne 5, 3, 35, [37], 0) else none))) : nk_F) pc) : nk_F) pc
  else ((fun pc => bif Nat.ble pc 37 then ((fun pc => bif Nat.ble pc 35 then (bif Nat.beq pc 35 then some (.iconst (-1), 1, 36, [], (-1)) else none)
  else (bif Nat.ble pc 36 then (bif Nat.beq pc 36 then some (.ireturn, 1, 37, [], 0) else none)
  else (bif Nat.beq pc 37 then some (.aload_n 0, 1, 38, [], 0) else none))) : nk_F) pc
  else ((fun pc => bif Nat.ble pc 38 then (bif Nat.beq pc 38 then some (.iload_n 1, 1, 39, [], 0) else none)
  else (bif Nat.ble pc 39 then (bif Nat.beq pc 39 then some (.bipush (-9), 2, 41, [], (-9)) else none)
  else (bif Nat.beq pc 41 then some (.invokevirtual 275, 3, 44, [], 0) else none))) : nk_F) pc) : nk_F) pc) : nk_F) pc) : nk_F) pc
  else ((fun pc => bif Nat.ble pc 60 then ((fun pc => bif Nat.ble pc 52 then ((fun pc => bif Nat.ble pc 46 then (bif Nat.ble pc 44 then (bif Nat.beq pc 44 then some (.istore 5, 2, 46, [], 0) else none)
  else (bif Nat.beq pc 46 then some (.iload_n 3, 1, 47, [], 0) else none))
  else ((fun pc => bif Nat.ble pc 47 then (bif Nat.beq pc 47 then some (.iload 5, 2, 49, [], 0) else none)
  else (bif Nat.ble pc 49 then (bif Nat.beq pc 49 then some (.if_icmp .le 9, 3, 52, [58], 0) else none)
  else (bif Nat.beq pc 52 then some (.aload_n 0, 1, 53, [], 0) else none))) : nk_F) pc) : nk_F) pc
  else ((fun pc => bif Nat.ble pc 57 then ((fun pc => bif Nat.ble pc 53 then (bif Nat.beq pc 53 then some (.iconst 2, 1, 54, [], 2) else none)
  else (bif Nat.ble pc 54 then (bif Nat.beq pc 54 then some (.invokevirtual 97, 3, 57, [], 0) else none)
  else (bif Nat.beq pc 57 then some (.ireturn, 1, 58, [], 0) else none))) : nk_F) pc
  else ((fun pc => bif Nat.ble pc 58 then (bif Nat.beq pc 58 then some (.aload_n 0, 1, 59, [], 0) else none)
  else (bif Nat.ble pc 59 then (bif Nat.beq pc 59 then some (.iload_n 3, 1, 60, [], 0) else none)
  else (bif Nat.beq pc 60 then some (.putfield 272, 3, 63, [], 0) else none))) : nk_F) pc) : nk_F) pc) : nk_F) pc
  else ((fun pc => bif Nat.ble pc 69 then ((fun pc => bif Nat.ble pc 65 then (bif Nat.ble pc 63 then (bif Nat.beq pc 63 then some (.bipush 20, 2, 65, [], 20) else none)
  else (bif Nat.beq pc 65 then some (.iload_n 1, 1, 66, [], 0) else none))
  else ((fun pc => bif Nat.ble pc 66 then (bif Nat.beq pc 66 then some (.imul, 1, 67, [], 0) else none)
  else (bif Nat.ble pc 67 then (bif Nat.beq pc 67 then some (.istore 6, 2, 69, [], 0) else none)
  else (bif Nat.beq pc 69 then some (.iload 6, 2, 71, [], 0) else none))) : nk_F) pc) : nk_F) pc
  else ((fun pc => bif Nat.ble pc 75 then ((fun pc => bif Nat.ble pc 71 then (bif Nat.beq pc 71 then some (.aload_n 0, 1, 72, [], 0) else none)
  else (bif Nat.ble pc 72 then (bif Nat.beq pc 72 then some (.getfield 66, 3, 75, [], 0) else none)
  else (bif Nat.beq pc 75 then some (.iload_n 1, 1, 76, [], 0) else none))) : nk_F) pc
  else ((fun pc => bif Nat.ble pc 76 then (bif Nat.beq pc 76 then some (.iaload, 1, 77, [], 0) else none)
  else (bif Nat.ble pc 77 then (bif Nat.beq pc 77 then some (.iadd, 1, 78, [], 0) else none)
  else (bif Nat.beq pc 78 then some (.iconst 1, 1, 79, [], 1) else none))) : nk_F) pc) : nk_F) pc) : nk_F) pc) : nk_F) pc) : nk_F) pc
  else ((fun pc => bif Nat.ble pc 125 then ((fun pc => bif Nat.ble pc 99 then ((fun pc => bif Nat.ble pc 86 then ((fun pc => bif Nat.ble pc 80 then (bif Nat.ble pc 79 then (bif Nat.beq pc 79 then some (.isub, 1, 80, [], 0) else none)
  else (bif Nat.beq pc 80 then some (.istore 7, 2, 82, [], 0) else none))
  else ((fun pc => bif Nat.ble pc 82 then (bif Nat.beq pc 82 then some (.iload 6, 2, 84, [], 0) else none)
  else (bif Nat.ble pc 84 then (bif Nat.beq pc 84 then some (.istore 8, 2, 86, [], 0) else none)
  else (bif Nat.beq pc 86 then some (.iload 8, 2, 88, [], 0) else none))) : nk_F) pc) : nk_F) pc
  else ((fun pc => bif Nat.ble pc 93 then ((fun pc => bif Nat.ble pc 88 then (bif Nat.beq pc 88 then some (.iload 7, 2, 90, [], 0) else none)
  else (bif Nat.ble pc 90 then (bif Nat.beq pc 90 then some (.if_icmp .gt 22, 3, 93, [112], 0) else none)
  else (bif Nat.beq pc 93 then some (.iload 4, 2, 95, [], 0) else none))) : nk_F) pc
  else ((fun pc => bif Nat.ble pc 95 then (bif Nat.beq pc 95 then some (.ifCond .ne 17, 3, 98, [112], 0) else none)
  else (bif Nat.ble pc 98 then (bif Nat.beq pc 98 then some (.aload_n 0, 1, 99, [], 0) else none)
  else (bif Nat.beq pc 99 then some (.iload 8, 2, 101, [], 0) else none))) : nk_F) pc) : nk_F) pc) : nk_F) pc
  else ((fun pc => bif Nat.ble pc 112 then ((fun pc => bif Nat.ble pc 103 then (bif Nat.ble pc 101 then (bif Nat.beq pc 101 then some (.bipush 99, 2, 103, [], 99) else none)
  else (bif Nat.beq pc 103 then some (.invokevirtual 278, 3, 106, [], 0) else none))
  else ((fun pc => bif Nat.ble pc 106 then (bif Nat.beq pc 106 then some (.iinc 8 1, 3, 109, [], 1) else none)
  else (bif Nat.ble pc 109 then (bif Nat.beq pc 109 then some (.goto (-23), 3, 112, [86], 0) else none)
  else (bif Nat.beq pc 112 then some (.iload 6, 2, 114, [], 0) else none))) : nk_F) pc) : nk_F) pc
  else ((fun pc => bif Nat.ble pc 118 then ((fun pc => bif Nat.ble pc 114 then (bif Nat.beq pc 114 then some (.istore 8, 2, 116, [], 0) else none)
  else (bif Nat.ble pc 116 then (bif Nat.beq pc 116 then some (.iload 8, 2, 118, [], 0) else none)
  else (bif Nat.beq pc 118 then some (.iload 7, 2, 120, [], 0) else none))) : nk_F) pc
  else ((fun pc => bif Nat.ble pc 120 then (bif Nat.beq pc 120 then some (.if_icmp .gt 33, 3, 123, [153], 0) else none)
  else (bif Nat.ble pc 123 then (bif Nat.beq pc 123 then some (.iload 4, 2, 125, [], 0) else none)
  else (bif Nat.beq pc 125 then some (.iconst 1, 1, 126, [], 1) else none))) : nk_F) pc) : nk_F) pc) : nk_F) pc) : nk_F) pc
  else ((fun pc => bif Nat.ble pc 143 then ((fun pc => bif Nat.ble pc 133 then ((fun pc => bif Nat.ble pc 129 then (bif Nat.ble pc 126 then (bif Nat.beq pc 126 then some (.if_icmp .ne 27, 3, 129, [153], 0) else none)
  else (bif Nat.beq pc 129 then some (.aload_n 0, 1, 130, [], 0) else none))
  else ((fun pc => bif Nat.ble pc 130 then (bif Nat.beq pc 130 then some (.iload 8, 2, 132, [], 0) else none)
  else (bif Nat.ble pc 132 then (bif Nat.beq pc 132 then some (.aload_n 0, 1, 133, [], 0) else none)
  else (bif Nat.beq pc 133 then some (.getfield 72, 3, 136, [], 0) else none))) : nk_F) pc) : nk_F) pc
  else ((fun pc => bif Nat.ble pc 139 then ((fun pc => bif Nat.ble pc 136 then (bif Nat.beq pc 136 then some (.iload 8, 2, 138, [], 0) else none)
  else (bif Nat.ble pc 138 then (bif Nat.beq pc 138 then some (.iaload, 1, 139, [], 0) else none)
  else (bif Nat.beq pc 139 then some (.iload_n 3, 1, 140, [], 0) else none))) : nk_F) pc
  else ((fun pc => bif Nat.ble pc 140 then (bif Nat.beq pc 140 then some (.imul, 1, 141, [], 0) else none)
  else (bif Nat.ble pc 141 then (bif Nat.beq pc 141 then some (.iload 5, 2, 143, [], 0) else none)
  else (bif Nat.beq pc 143 then some (.idiv, 1, 144, [], 0) else none))) : nk_F) pc) : nk_F) pc) : nk_F) pc
  else ((fun pc => bif Nat.ble pc 157 then ((fun pc => bif Nat.ble pc 150 then ((fun pc => bif Nat.ble pc 144 then (bif Nat.beq pc 144 then some (.invokevirtual 278, 3, 147, [], 0) else none)
  else (bif Nat.ble pc 147 then (bif Nat.beq pc 147 then some (.iinc 8 1, 3, 150, [], 1) else none)
  else (bif Nat.beq pc 150 then some (.goto (-34), 3, 153, [116], 0) else none))) : nk_F) pc
  else ((fun pc => bif Nat.ble pc 153 then (bif Nat.beq pc 153 then some (.iload 6, 2, 155, [], 0) else none)
  else (bif Nat.ble pc 155 then (bif Nat.beq pc 155 then some (.istore 8, 2, 157, [], 0) else none)
  else (bif Nat.beq pc 157 then some (.iload 8, 2, 159, [], 0) else none))) : nk_F) pc) : nk_F) pc
  else ((fun pc => bif Nat.ble pc 164 then ((fun pc => bif Nat.ble pc 159 then (bif Nat.beq pc 159 then some (.iload 7, 2, 161, [], 0) else none)
  else (bif Nat.ble pc 161 then (bif Nat.beq pc 161 then some (.if_icmp .gt 22, 3, 164, [183], 0) else none)
  else (bif Nat.beq pc 164 then some (.iload 4, 2, 166, [], 0) else none))) : nk_F) pc
  else ((fun pc => bif Nat.ble pc 166 then (bif Nat.beq pc 166 then some (.iconst 1, 1, 167, [], 1) else none)
  else (bif Nat.ble pc 167 then (bif Nat.beq pc 167 then some (.if_icmp .ne 16, 3, 170, [183], 0) else none)
  else (bif Nat.beq pc 170 then some (.aload_n 0, 1, 171, [], 0) else none))) : nk_F) pc) : nk_F) pc) : nk_F) pc) : nk_F) pc) : nk_F) pc) : nk_F) pc
  else ((fun pc => bif Nat.ble pc 260 then ((fun pc => bif Nat.ble pc 215 then ((fun pc => bif Nat.ble pc 192 then ((fun pc => bif Nat.ble pc 180 then ((fun pc => bif Nat.ble pc 173 then (bif Nat.ble pc 171 then (bif Nat.beq pc 171 then some (.iload 8, 2, 173, [], 0) else none)
  else (bif Nat.beq pc 173 then some (.iconst 1, 1, 174, [], 1) else none))
  else ((fun pc => bif Nat.ble pc 174 then (bif Nat.beq pc 174 then some (.invokevirtual 278, 3, 177, [], 0) else none)
  else (bif Nat.ble pc 177 then (bif Nat.beq pc 177 then some (.iinc 8 1, 3, 180, [], 1) else none)
  else (bif Nat.beq pc 180 then some (.goto (-23), 3, 183, [157], 0) else none))) : nk_F) pc) : nk_F) pc
  else ((fun pc => bif Nat.ble pc 186 then ((fun pc => bif Nat.ble pc 183 then (bif Nat.beq pc 183 then some (.iconst 0, 1, 184, [], 0) else none)
  else (bif Nat.ble pc 184 then (bif Nat.beq pc 184 then some (.istore 8, 2, 186, [], 0) else none)
  else (bif Nat.beq pc 186 then some (.iload 8, 2, 188, [], 0) else none))) : nk_F) pc
  else ((fun pc => bif Nat.ble pc 188 then (bif Nat.beq pc 188 then some (.iconst 2, 1, 189, [], 2) else none)
  else (bif Nat.ble pc 189 then (bif Nat.beq pc 189 then some (.if_icmp .ge 70, 3, 192, [259], 0) else none)
  else (bif Nat.beq pc 192 then some (.iload 4, 2, 194, [], 0) else none))) : nk_F) pc) : nk_F) pc) : nk_F) pc
  else ((fun pc => bif Nat.ble pc 202 then ((fun pc => bif Nat.ble pc 195 then (bif Nat.ble pc 194 then (bif Nat.beq pc 194 then some (.iconst 2, 1, 195, [], 2) else none)
  else (bif Nat.beq pc 195 then some (.if_icmp .ne 64, 3, 198, [259], 0) else none))
  else ((fun pc => bif Nat.ble pc 198 then (bif Nat.beq pc 198 then some (.iload 7, 2, 200, [], 0) else none)
  else (bif Nat.ble pc 200 then (bif Nat.beq pc 200 then some (.istore 9, 2, 202, [], 0) else none)
  else (bif Nat.beq pc 202 then some (.iload 9, 2, 204, [], 0) else none))) : nk_F) pc) : nk_F) pc
  else ((fun pc => bif Nat.ble pc 209 then ((fun pc => bif Nat.ble pc 204 then (bif Nat.beq pc 204 then some (.iload 6, 2, 206, [], 0) else none)
  else (bif Nat.ble pc 206 then (bif Nat.beq pc 206 then some (.if_icmp .lt 47, 3, 209, [253], 0) else none)
  else (bif Nat.beq pc 209 then some (.aload_n 0, 1, 210, [], 0) else none))) : nk_F) pc
  else ((fun pc => bif Nat.ble pc 210 then (bif Nat.beq pc 210 then some (.getfield 69, 3, 213, [], 0) else none)
  else (bif Nat.ble pc 213 then (bif Nat.beq pc 213 then some (.iload 9, 2, 215, [], 0) else none)
  else (bif Nat.beq pc 215 then some (.iaload, 1, 216, [], 0) else none))) : nk_F) pc) : nk_F) pc) : nk_F) pc) : nk_F) pc
  else ((fun pc => bif Nat.ble pc 235 then ((fun pc => bif Nat.ble pc 224 then ((fun pc => bif Nat.ble pc 217 then (bif Nat.ble pc 216 then (bif Nat.beq pc 216 then some (.iload_n 2, 1, 217, [], 0) else none)
  else (bif Nat.beq pc 217 then some (.if_icmp .ne 7, 3, 220, [224], 0) else none))
  else ((fun pc => bif Nat.ble pc 220 then (bif Nat.beq pc 220 then some (.iconst 1, 1, 221, [], 1) else none)
  else (bif Nat.ble pc 221 then (bif Nat.beq pc 221 then some (.goto 4, 3, 224, [225], 0) else none)
  else (bif Nat.beq pc 224 then some (.iconst 0, 1, 225, [], 0) else none))) : nk_F) pc) : nk_F) pc
  else ((fun pc => bif Nat.ble pc 228 then ((fun pc => bif Nat.ble pc 225 then (bif Nat.beq pc 225 then some (.iload 8, 2, 227, [], 0) else none)
  else (bif Nat.ble pc 227 then (bif Nat.beq pc 227 then some (.iconst 1, 1, 228, [], 1) else none)
  else (bif Nat.beq pc 228 then some (.if_icmp .ne 7, 3, 231, [235], 0) else none))) : nk_F) pc
  else ((fun pc => bif Nat.ble pc 231 then (bif Nat.beq pc 231 then some (.iconst 1, 1, 232, [], 1) else none)
  else (bif Nat.ble pc 232 then (bif Nat.beq pc 232 then some (.goto 4, 3, 235, [236], 0) else none)
  else (bif Nat.beq pc 235 then some (.iconst 0, 1, 236, [], 0) else none))) : nk_F) pc) : nk_F) pc) : nk_F) pc
  else ((fun pc => bif Nat.ble pc 244 then ((fun pc => bif Nat.ble pc 239 then (bif Nat.ble pc 236 then (bif Nat.beq pc 236 then some (.if_icmp .ne 11, 3, 239, [247], 0) else none)
  else (bif Nat.beq pc 239 then some (.aload_n 0, 1, 240, [], 0) else none))
  else ((fun pc => bif Nat.ble pc 240 then (bif Nat.beq pc 240 then some (.iload 9, 2, 242, [], 0) else none)
  else (bif Nat.ble pc 242 then (bif Nat.beq pc 242 then some (.bipush 99, 2, 244, [], 99) else none)
  else (bif Nat.beq pc 244 then some (.invokevirtual 278, 3, 247, [], 0) else none))) : nk_F) pc) : nk_F) pc
  else ((fun pc => bif Nat.ble pc 253 then ((fun pc => bif Nat.ble pc 247 then (bif Nat.beq pc 247 then some (.iinc 9 (-1), 3, 250, [], (-1)) else none)
  else (bif Nat.ble pc 250 then (bif Nat.beq pc 250 then some (.goto (-48), 3, 253, [202], 0) else none)
  else (bif Nat.beq pc 253 then some (.iinc 8 1, 3, 256, [], 1) else none))) : nk_F) pc
  else ((fun pc => bif Nat.ble pc 256 then (bif Nat.beq pc 256 then some (.goto (-70), 3, 259, [186], 0) else none)
  else (bif Nat.ble pc 259 then (bif Nat.beq pc 259 then some (.iconst 0, 1, 260, [], 0) else none)
  else (bif Nat.beq pc 260 then some (.istore 8, 2, 262, [], 0) else none))) : nk_F) pc) : nk_F) pc) : nk_F) pc) : nk_F) pc) : nk_F) pc
  else ((fun pc => bif Nat.ble pc 300 then ((fun pc => bif Nat.ble pc 282 then ((fun pc => bif Nat.ble pc 270 then ((fun pc => bif Nat.ble pc 264 then (bif Nat.ble pc 262 then (bif Nat.beq pc 262 then some (.iload 6, 2, 264, [], 0) else none)
  else (bif Nat.beq pc 264 then some (.istore 9, 2, 266, [], 0) else none))
  else ((fun pc => bif Nat.ble pc 266 then (bif Nat.beq pc 266 then some (.iload 9, 2, 268, [], 0) else none)
  else (bif Nat.ble pc 268 then (bif Nat.beq pc 268 then some (.iload 7, 2, 270, [], 0) else none)
  else (bif Nat.beq pc 270 then some (.if_icmp .gt 63, 3, 273, [333], 0) else none))) : nk_F) pc) : nk_F) pc
  else ((fun pc => bif Nat.ble pc 277 then ((fun pc => bif Nat.ble pc 273 then (bif Nat.beq pc 273 then some (.aload_n 0, 1, 274, [], 0) else none)
  else (bif Nat.ble pc 274 then (bif Nat.beq pc 274 then some (.getfield 69, 3, 277, [], 0) else none)
  else (bif Nat.beq pc 277 then some (.iload 6, 2, 279, [], 0) else none))) : nk_F) pc
  else ((fun pc => bif Nat.ble pc 279 then (bif Nat.beq pc 279 then some (.iload 8, 2, 281, [], 0) else none)
  else (bif Nat.ble pc 281 then (bif Nat.beq pc 281 then some (.iadd, 1, 282, [], 0) else none)
  else (bif Nat.beq pc 282 then some (.aload_n 0, 1, 283, [], 0) else none))) : nk_F) pc) : nk_F) pc) : nk_F) pc
  else ((fun pc => bif Nat.ble pc 290 then ((fun pc => bif Nat.ble pc 286 then (bif Nat.ble pc 283 then (bif Nat.beq pc 283 then some (.getfield 69, 3, 286, [], 0) else none)
  else (bif Nat.beq pc 286 then some (.iload 9, 2, 288, [], 0) else none))
  else ((fun pc => bif Nat.ble pc 288 then (bif Nat.beq pc 288 then some (.iaload, 1, 289, [], 0) else none)
  else (bif Nat.ble pc 289 then (bif Nat.beq pc 289 then some (.iastore, 1, 290, [], 0) else none)
  else (bif Nat.beq pc 290 then some (.aload_n 0, 1, 291, [], 0) else none))) : nk_F) pc) : nk_F) pc
  else ((fun pc => bif Nat.ble pc 296 then ((fun pc => bif Nat.ble pc 291 then (bif Nat.beq pc 291 then some (.getfield 72, 3, 294, [], 0) else none)
  else (bif Nat.ble pc 294 then (bif Nat.beq pc 294 then some (.iload 6, 2, 296, [], 0) else none)
  else (bif Nat.beq pc 296 then some (.iload 8, 2, 298, [], 0) else none))) : nk_F) pc
  else ((fun pc => bif Nat.ble pc 298 then (bif Nat.beq pc 298 then some (.iadd, 1, 299, [], 0) else none)
  else (bif Nat.ble pc 299 then (bif Nat.beq pc 299 then some (.aload_n 0, 1, 300, [], 0) else none)
  else (bif Nat.beq pc 300 then some (.getfield 72, 3, 303, [], 0) else none))) : nk_F) pc) : nk_F) pc) : nk_F) pc) : nk_F) pc
  else ((fun pc => bif Nat.ble pc 320 then ((fun pc => bif Nat.ble pc 309 then ((fun pc => bif Nat.ble pc 305 then (bif Nat.ble pc 303 then (bif Nat.beq pc 303 then some (.iload 9, 2, 305, [], 0) else none)
  else (bif Nat.beq pc 305 then some (.iaload, 1, 306, [], 0) else none))
  else ((fun pc => bif Nat.ble pc 306 then (bif Nat.beq pc 306 then some (.iastore, 1, 307, [], 0) else none)
  else (bif Nat.ble pc 307 then (bif Nat.beq pc 307 then some (.iload 8, 2, 309, [], 0) else none)
  else (bif Nat.beq pc 309 then some (.aload_n 0, 1, 310, [], 0) else none))) : nk_F) pc) : nk_F) pc
  else ((fun pc => bif Nat.ble pc 315 then ((fun pc => bif Nat.ble pc 310 then (bif Nat.beq pc 310 then some (.getfield 72, 3, 313, [], 0) else none)
  else (bif Nat.ble pc 313 then (bif Nat.beq pc 313 then some (.iload 9, 2, 315, [], 0) else none)
  else (bif Nat.beq pc 315 then some (.iaload, 1, 316, [], 0) else none))) : nk_F) pc
  else ((fun pc => bif Nat.ble pc 316 then (bif Nat.beq pc 316 then some (.ifCond .le 7, 3, 319, [323], 0) else none)
  else (bif Nat.ble pc 319 then (bif Nat.beq pc 319 then some (.iconst 1, 1, 320, [], 1) else none)
  else (bif Nat.beq pc 320 then some (.goto 4, 3, 323, [324], 0) else none))) : nk_F) pc) : nk_F) pc) : nk_F) pc
  else ((fun pc => bif Nat.ble pc 333 then ((fun pc => bif Nat.ble pc 325 then ((fun pc => bif Nat.ble pc 323 then (bif Nat.beq pc 323 then some (.iconst 0, 1, 324, [], 0) else none)
  else (bif Nat.ble pc 324 then (bif Nat.beq pc 324 then some (.iadd, 1, 325, [], 0) else none)
  else (bif Nat.beq pc 325 then some (.istore 8, 2, 327, [], 0) else none))) : nk_F) pc
  else ((fun pc => bif Nat.ble pc 327 then (bif Nat.beq pc 327 then some (.iinc 9 1, 3, 330, [], 1) else none)
  else (bif Nat.ble pc 330 then (bif Nat.beq pc 330 then some (.goto (-64), 3, 333, [266], 0) else none)
  else (bif Nat.beq pc 333 then some (.aload_n 0, 1, 334, [], 0) else none))) : nk_F) pc) : nk_F) pc
  else ((fun pc => bif Nat.ble pc 338 then ((fun pc => bif Nat.ble pc 334 then (bif Nat.beq pc 334 then some (.getfield 66, 3, 337, [], 0) else none)
  else (bif Nat.ble pc 337 then (bif Nat.beq pc 337 then some (.iload_n 1, 1, 338, [], 0) else none)
  else (bif Nat.beq pc 338 then some (.iload 8, 2, 340, [], 0) else none))) : nk_F) pc
  else ((fun pc => bif Nat.ble pc 340 then (bif Nat.beq pc 340 then some (.iastore, 1, 341, [], 0) else none)
  else (bif Nat.ble pc 341 then (bif Nat.beq pc 341 then some (.iload 8, 2, 343, [], 0) else none)
  else (bif Nat.beq pc 343 then some (.ireturn, 1, 344, [], 0) else none))) : nk_F) pc) : nk_F) pc) : nk_F) pc) : nk_F) pc) : nk_F) pc) : nk_F) pc
noncomputable def kc_X6_draw : Nat → Option nk_I := nk_top 344 kt_X6_draw
noncomputable def kx_X6_draw : nk_T := ([(272, 6, 30, 0), (66, 6, 27, 4), (72, 6, 29, 4), (69, 6, 28, 4)], [(1078, 1, 0, 0, 0, ev_X6_isHeap), (494, 1, 0, 0, 0, ev_X6_isPerson), (358, 3, 0, 0, 0, ev_X6_in), (1100, 3, 7, 0, 0, ev_X6_allOf), (388, 2, 7, 0, 0, ev_X6_meets), (1112, 3, 7, 0, 0, ev_X6_drawsFrom)], [], [], [], [], [], 1, false, 0, 0)
noncomputable def ev_X6_draw : nk_Ev := fun as h Q => nk_if (Nat.ble (nk_wd as) 10) (nk_ev kx_X6_draw kc_X6_draw 10 as h Q)
set_option maxRecDepth 100000 in
theorem ck_X6_draw : nk_chk cX6_draw kc_X6_draw 344 = true := nd_chk (by decide +kernel) (by decide +kernel)
set_option maxRecDepth 100000 in
set_option maxHeartbeats 4000000 in
theorem ca_X6_draw_1078 (l : Launch) : nk_CallOk l { frames := 2, cells := 0, slots := 0, locals := 42 } RX6 cX6_draw 10 false 1078 (1, 0, 0, 0, ev_X6_isHeap) := nk_callS (x := 269) (n := 1) (mt_X6_isHeap l) (nk_msc [(5, 117), (5, 118), (5, 119), (1, 7)] (by decide +kernel)) rfl rfl (by decide +kernel) ⟨by decide, by decide⟩
set_option maxRecDepth 100000 in
set_option maxHeartbeats 4000000 in
theorem ca_X6_draw_494 (l : Launch) : nk_CallOk l { frames := 2, cells := 0, slots := 0, locals := 42 } RX6 cX6_draw 10 false 494 (1, 0, 0, 0, ev_X6_isPerson) := nk_callS (x := 123) (n := 1) (mt_X6_isPerson l) (nk_msc [(4, 119), (4, 120), (4, 121), (1, 7)] (by decide +kernel)) rfl rfl (by decide +kernel) ⟨by decide, by decide⟩
set_option maxRecDepth 100000 in
set_option maxHeartbeats 4000000 in
theorem ca_X6_draw_358 (l : Launch) : nk_CallOk l { frames := 2, cells := 0, slots := 0, locals := 42 } RX6 cX6_draw 10 false 358 (3, 0, 0, 0, ev_X6_in) := nk_callS (x := 89) (n := 3) (mt_X6_in l) (nk_msc [(4, 57), (4, 58), (4, 59), (1, 7)] (by decide +kernel)) rfl rfl (by decide +kernel) ⟨by decide, by decide⟩
set_option maxRecDepth 100000 in
set_option maxHeartbeats 4000000 in
theorem ca_X6_draw_1100 (l : Launch) : nk_CallOk l { frames := 2, cells := 0, slots := 0, locals := 42 } RX6 cX6_draw 10 false 1100 (3, 7, 0, 0, ev_X6_allOf) := nk_callV (x := 275) (n := 2) (ci := 6) (r := (RX6, TX6, 32)) (mt_X6_allOf l) rfl (nk_msc [(5, 124), (5, 125), (5, 126), (5, 127), (0, 58), (1, 7)] (by decide +kernel)) rfl rfl (by decide +kernel) ⟨by decide, by decide⟩
set_option maxRecDepth 100000 in
set_option maxHeartbeats 4000000 in
theorem ca_X6_draw_388 (l : Launch) : nk_CallOk l { frames := 2, cells := 0, slots := 0, locals := 42 } RX6 cX6_draw 10 false 388 (2, 7, 0, 0, ev_X6_meets) := nk_callV (x := 97) (n := 1) (ci := 6) (r := (RX6, TX6, 32)) (mt_X6_meets l) rfl (nk_msc [(4, 60), (4, 61), (4, 62), (4, 63), (0, 26), (1, 7)] (by decide +kernel)) rfl rfl (by decide +kernel) ⟨by decide, by decide⟩
set_option maxRecDepth 100000 in
set_option maxHeartbeats 4000000 in
theorem ca_X6_draw_1112 (l : Launch) : nk_CallOk l { frames := 2, cells := 0, slots := 0, locals := 42 } RX6 cX6_draw 10 false 1112 (3, 7, 0, 0, ev_X6_drawsFrom) := nk_callV (x := 278) (n := 2) (ci := 6) (r := (RX6, TX6, 32)) (mt_X6_drawsFrom l) rfl (nk_msc [(5, 128), (5, 129), (5, 130), (5, 131), (0, 59), (1, 7)] (by decide +kernel)) rfl rfl (by decide +kernel) ⟨by decide, by decide⟩
set_option maxRecDepth 100000 in
set_option maxHeartbeats 4000000 in
theorem mt_X6_draw (l : Launch) : nk_Met l yX6_draw cX6_draw 10 (some .int) { frames := 2, cells := 0, slots := 0, locals := 42 } false 0 0 ev_X6_draw :=
  nk_met nk_gok (plainFor_of_name (by decide)) ck_X6_draw (nk_top_out 344 kt_X6_draw) ⟨List.forall_mem_cons.mpr ⟨nk_fkc [(3, 223)] (by decide +kernel), List.forall_mem_cons.mpr ⟨nk_fkc [(3, 220)] (by decide +kernel), List.forall_mem_cons.mpr ⟨nk_fkc [(3, 222)] (by decide +kernel), List.forall_mem_cons.mpr ⟨nk_fkc [(3, 221)] (by decide +kernel), fun _ h => absurd h List.not_mem_nil⟩⟩⟩⟩, List.forall_mem_cons.mpr ⟨ca_X6_draw_1078 l, List.forall_mem_cons.mpr ⟨ca_X6_draw_494 l, List.forall_mem_cons.mpr ⟨ca_X6_draw_358 l, List.forall_mem_cons.mpr ⟨ca_X6_draw_1100 l, List.forall_mem_cons.mpr ⟨ca_X6_draw_388 l, List.forall_mem_cons.mpr ⟨ca_X6_draw_1112 l, fun _ h => absurd h List.not_mem_nil⟩⟩⟩⟩⟩⟩, fun _ h => absurd h List.not_mem_nil, fun _ h => absurd h List.not_mem_nil, fun _ h => absurd h List.not_mem_nil, fun _ h => absurd h List.not_mem_nil, fun _ h => absurd h List.not_mem_nil, by decide, rfl, rfl⟩ rfl (by decide)
/-! MarbleLawModel.left(II)I -/
noncomputable def kt_X6_left : Nat → Option nk_I := fun pc => bif Nat.ble pc 16 then ((fun pc => bif Nat.ble pc 7 then ((fun pc => bif Nat.ble pc 1 then (bif Nat.ble pc 0 then (bif Nat.beq pc 0 then some (.iload_n 1, 1, 1, [], 0) else none)
  else (bif Nat.beq pc 1 then some (.invokestatic 269, 3, 4, [], 0) else none))
  else (bif Nat.ble pc 4 then (bif Nat.beq pc 4 then some (.ifCond .eq 30, 3, 7, [34], 0) else none)
  else (bif Nat.beq pc 7 then some (.iload_n 2, 1, 8, [], 0) else none))) : nk_F) pc
  else ((fun pc => bif Nat.ble pc 11 then (bif Nat.ble pc 8 then (bif Nat.beq pc 8 then some (.invokestatic 123, 3, 11, [], 0) else none)
  else (bif Nat.beq pc 11 then some (.ifCond .eq 23, 3, 14, [34], 0) else none))
  else ((fun pc => bif Nat.ble pc 14 then (bif Nat.beq pc 14 then some (.aload_n 0, 1, 15, [], 0) else none)
  else (bif Nat.ble pc 15 then (bif Nat.beq pc 15 then some (.aload_n 0, 1, 16, [], 0) else none)
  else (bif Nat.beq pc 16 then some (.iload_n 1, 1, 17, [], 0) else none))) : nk_F) pc) : nk_F) pc) : nk_F) pc
  else ((fun pc => bif Nat.ble pc 24 then ((fun pc => bif Nat.ble pc 19 then (bif Nat.ble pc 17 then (bif Nat.beq pc 17 then some (.bipush (-9), 2, 19, [], (-9)) else none)
  else (bif Nat.beq pc 19 then some (.invokevirtual 275, 3, 22, [], 0) else none))
  else ((fun pc => bif Nat.ble pc 22 then (bif Nat.beq pc 22 then some (.aload_n 0, 1, 23, [], 0) else none)
  else (bif Nat.ble pc 23 then (bif Nat.beq pc 23 then some (.iload_n 1, 1, 24, [], 0) else none)
  else (bif Nat.beq pc 24 then some (.iload_n 2, 1, 25, [], 0) else none))) : nk_F) pc) : nk_F) pc
  else ((fun pc => bif Nat.ble pc 28 then (bif Nat.ble pc 25 then (bif Nat.beq pc 25 then some (.invokevirtual 275, 3, 28, [], 0) else none)
  else (bif Nat.beq pc 28 then some (.invokevirtual 111, 3, 31, [], 0) else none))
  else ((fun pc => bif Nat.ble pc 31 then (bif Nat.beq pc 31 then some (.goto 4, 3, 34, [35], 0) else none)
  else (bif Nat.ble pc 34 then (bif Nat.beq pc 34 then some (.iconst (-1), 1, 35, [], (-1)) else none)
  else (bif Nat.beq pc 35 then some (.ireturn, 1, 36, [], 0) else none))) : nk_F) pc) : nk_F) pc) : nk_F) pc
noncomputable def kc_X6_left : Nat → Option nk_I := nk_top 36 kt_X6_left
noncomputable def kx_X6_left : nk_T := ([], [(1078, 1, 0, 0, 0, ev_X6_isHeap), (494, 1, 0, 0, 0, ev_X6_isPerson), (1100, 3, 7, 0, 0, ev_X6_allOf), (444, 3, 7, 0, 0, ev_X6_ask)], [], [], [], [], [], 1, false, 0, 0)
noncomputable def ev_X6_left : nk_Ev := fun as h Q => nk_if (Nat.ble (nk_wd as) 3) (nk_ev kx_X6_left kc_X6_left 3 as h Q)
set_option maxRecDepth 100000 in
theorem ck_X6_left : nk_chk cX6_left kc_X6_left 36 = true := nd_chk (by decide +kernel) (by decide +kernel)
set_option maxRecDepth 100000 in
set_option maxHeartbeats 4000000 in
theorem ca_X6_left_1078 (l : Launch) : nk_CallOk l { frames := 2, cells := 0, slots := 0, locals := 42 } RX6 cX6_left 3 false 1078 (1, 0, 0, 0, ev_X6_isHeap) := nk_callS (x := 269) (n := 1) (mt_X6_isHeap l) (nk_msc [(5, 117), (5, 118), (5, 119), (1, 7)] (by decide +kernel)) rfl rfl (by decide +kernel) ⟨by decide, by decide⟩
set_option maxRecDepth 100000 in
set_option maxHeartbeats 4000000 in
theorem ca_X6_left_494 (l : Launch) : nk_CallOk l { frames := 2, cells := 0, slots := 0, locals := 42 } RX6 cX6_left 3 false 494 (1, 0, 0, 0, ev_X6_isPerson) := nk_callS (x := 123) (n := 1) (mt_X6_isPerson l) (nk_msc [(4, 119), (4, 120), (4, 121), (1, 7)] (by decide +kernel)) rfl rfl (by decide +kernel) ⟨by decide, by decide⟩
set_option maxRecDepth 100000 in
set_option maxHeartbeats 4000000 in
theorem ca_X6_left_1100 (l : Launch) : nk_CallOk l { frames := 2, cells := 0, slots := 0, locals := 42 } RX6 cX6_left 3 false 1100 (3, 7, 0, 0, ev_X6_allOf) := nk_callV (x := 275) (n := 2) (ci := 6) (r := (RX6, TX6, 32)) (mt_X6_allOf l) rfl (nk_msc [(5, 124), (5, 125), (5, 126), (5, 127), (0, 58), (1, 7)] (by decide +kernel)) rfl rfl (by decide +kernel) ⟨by decide, by decide⟩
set_option maxRecDepth 100000 in
set_option maxHeartbeats 4000000 in
theorem ca_X6_left_444 (l : Launch) : nk_CallOk l { frames := 2, cells := 0, slots := 0, locals := 42 } RX6 cX6_left 3 false 444 (3, 7, 0, 0, ev_X6_ask) := nk_callV (x := 111) (n := 2) (ci := 6) (r := (RX6, TX6, 32)) (mt_X6_ask l) rfl (nk_msc [(4, 76), (4, 77), (4, 78), (4, 79), (0, 29), (1, 7)] (by decide +kernel)) rfl rfl (by decide +kernel) ⟨by decide, by decide⟩
set_option maxRecDepth 100000 in
set_option maxHeartbeats 4000000 in
theorem mt_X6_left (l : Launch) : nk_Met l yX6_left cX6_left 3 (some .int) { frames := 2, cells := 0, slots := 0, locals := 42 } false 0 0 ev_X6_left :=
  nk_met nk_gok (plainFor_of_name (by decide)) ck_X6_left (nk_top_out 36 kt_X6_left) ⟨fun _ h => absurd h List.not_mem_nil, List.forall_mem_cons.mpr ⟨ca_X6_left_1078 l, List.forall_mem_cons.mpr ⟨ca_X6_left_494 l, List.forall_mem_cons.mpr ⟨ca_X6_left_1100 l, List.forall_mem_cons.mpr ⟨ca_X6_left_444 l, fun _ h => absurd h List.not_mem_nil⟩⟩⟩⟩, fun _ h => absurd h List.not_mem_nil, fun _ h => absurd h List.not_mem_nil, fun _ h => absurd h List.not_mem_nil, fun _ h => absurd h List.not_mem_nil, fun _ h => absurd h List.not_mem_nil, by decide, rfl, rfl⟩ rfl (by decide)
/-! MarbleLawModel.layer(II)I -/
noncomputable def kt_X6_layer : Nat → Option nk_I := fun pc => bif Nat.ble pc 31 then ((fun pc => bif Nat.ble pc 12 then ((fun pc => bif Nat.ble pc 7 then ((fun pc => bif Nat.ble pc 1 then (bif Nat.ble pc 0 then (bif Nat.beq pc 0 then some (.iload_n 1, 1, 1, [], 0) else none)
  else (bif Nat.beq pc 1 then some (.invokestatic 269, 3, 4, [], 0) else none))
  else (bif Nat.ble pc 4 then (bif Nat.beq pc 4 then some (.ifCond .ne 5, 3, 7, [9], 0) else none)
  else (bif Nat.beq pc 7 then some (.iconst (-1), 1, 8, [], (-1)) else none))) : nk_F) pc
  else ((fun pc => bif Nat.ble pc 9 then (bif Nat.ble pc 8 then (bif Nat.beq pc 8 then some (.ireturn, 1, 9, [], 0) else none)
  else (bif Nat.beq pc 9 then some (.iload_n 2, 1, 10, [], 0) else none))
  else ((fun pc => bif Nat.ble pc 10 then (bif Nat.beq pc 10 then some (.iconst 0, 1, 11, [], 0) else none)
  else (bif Nat.ble pc 11 then (bif Nat.beq pc 11 then some (.aload_n 0, 1, 12, [], 0) else none)
  else (bif Nat.beq pc 12 then some (.getfield 66, 3, 15, [], 0) else none))) : nk_F) pc) : nk_F) pc) : nk_F) pc
  else ((fun pc => bif Nat.ble pc 19 then ((fun pc => bif Nat.ble pc 16 then (bif Nat.ble pc 15 then (bif Nat.beq pc 15 then some (.iload_n 1, 1, 16, [], 0) else none)
  else (bif Nat.beq pc 16 then some (.iaload, 1, 17, [], 0) else none))
  else ((fun pc => bif Nat.ble pc 17 then (bif Nat.beq pc 17 then some (.iconst 1, 1, 18, [], 1) else none)
  else (bif Nat.ble pc 18 then (bif Nat.beq pc 18 then some (.isub, 1, 19, [], 0) else none)
  else (bif Nat.beq pc 19 then some (.invokestatic 89, 3, 22, [], 0) else none))) : nk_F) pc) : nk_F) pc
  else ((fun pc => bif Nat.ble pc 25 then (bif Nat.ble pc 22 then (bif Nat.beq pc 22 then some (.ifCond .eq 32, 3, 25, [54], 0) else none)
  else (bif Nat.beq pc 25 then some (.bipush 10, 2, 27, [], 10) else none))
  else ((fun pc => bif Nat.ble pc 27 then (bif Nat.beq pc 27 then some (.aload_n 0, 1, 28, [], 0) else none)
  else (bif Nat.ble pc 28 then (bif Nat.beq pc 28 then some (.getfield 72, 3, 31, [], 0) else none)
  else (bif Nat.beq pc 31 then some (.bipush 20, 2, 33, [], 20) else none))) : nk_F) pc) : nk_F) pc) : nk_F) pc) : nk_F) pc
  else ((fun pc => bif Nat.ble pc 45 then ((fun pc => bif Nat.ble pc 37 then ((fun pc => bif Nat.ble pc 34 then (bif Nat.ble pc 33 then (bif Nat.beq pc 33 then some (.iload_n 1, 1, 34, [], 0) else none)
  else (bif Nat.beq pc 34 then some (.imul, 1, 35, [], 0) else none))
  else ((fun pc => bif Nat.ble pc 35 then (bif Nat.beq pc 35 then some (.iload_n 2, 1, 36, [], 0) else none)
  else (bif Nat.ble pc 36 then (bif Nat.beq pc 36 then some (.iadd, 1, 37, [], 0) else none)
  else (bif Nat.beq pc 37 then some (.iaload, 1, 38, [], 0) else none))) : nk_F) pc) : nk_F) pc
  else ((fun pc => bif Nat.ble pc 39 then (bif Nat.ble pc 38 then (bif Nat.beq pc 38 then some (.imul, 1, 39, [], 0) else none)
  else (bif Nat.beq pc 39 then some (.aload_n 0, 1, 40, [], 0) else none))
  else ((fun pc => bif Nat.ble pc 40 then (bif Nat.beq pc 40 then some (.getfield 69, 3, 43, [], 0) else none)
  else (bif Nat.ble pc 43 then (bif Nat.beq pc 43 then some (.bipush 20, 2, 45, [], 20) else none)
  else (bif Nat.beq pc 45 then some (.iload_n 1, 1, 46, [], 0) else none))) : nk_F) pc) : nk_F) pc) : nk_F) pc
  else ((fun pc => bif Nat.ble pc 50 then ((fun pc => bif Nat.ble pc 47 then (bif Nat.ble pc 46 then (bif Nat.beq pc 46 then some (.imul, 1, 47, [], 0) else none)
  else (bif Nat.beq pc 47 then some (.iload_n 2, 1, 48, [], 0) else none))
  else ((fun pc => bif Nat.ble pc 48 then (bif Nat.beq pc 48 then some (.iadd, 1, 49, [], 0) else none)
  else (bif Nat.ble pc 49 then (bif Nat.beq pc 49 then some (.iaload, 1, 50, [], 0) else none)
  else (bif Nat.beq pc 50 then some (.iadd, 1, 51, [], 0) else none))) : nk_F) pc) : nk_F) pc
  else ((fun pc => bif Nat.ble pc 54 then (bif Nat.ble pc 51 then (bif Nat.beq pc 51 then some (.goto 8, 3, 54, [59], 0) else none)
  else (bif Nat.beq pc 54 then some (.aload_n 0, 1, 55, [], 0) else none))
  else ((fun pc => bif Nat.ble pc 55 then (bif Nat.beq pc 55 then some (.iconst 2, 1, 56, [], 2) else none)
  else (bif Nat.ble pc 56 then (bif Nat.beq pc 56 then some (.invokevirtual 97, 3, 59, [], 0) else none)
  else (bif Nat.beq pc 59 then some (.ireturn, 1, 60, [], 0) else none))) : nk_F) pc) : nk_F) pc) : nk_F) pc) : nk_F) pc
noncomputable def kc_X6_layer : Nat → Option nk_I := nk_top 60 kt_X6_layer
noncomputable def kx_X6_layer : nk_T := ([(66, 6, 27, 4), (72, 6, 29, 4), (69, 6, 28, 4)], [(1078, 1, 0, 0, 0, ev_X6_isHeap), (358, 3, 0, 0, 0, ev_X6_in), (388, 2, 7, 0, 0, ev_X6_meets)], [], [], [], [], [], 1, false, 0, 0)
noncomputable def ev_X6_layer : nk_Ev := fun as h Q => nk_if (Nat.ble (nk_wd as) 3) (nk_ev kx_X6_layer kc_X6_layer 3 as h Q)
set_option maxRecDepth 100000 in
theorem ck_X6_layer : nk_chk cX6_layer kc_X6_layer 60 = true := nd_chk (by decide +kernel) (by decide +kernel)
set_option maxRecDepth 100000 in
set_option maxHeartbeats 4000000 in
theorem ca_X6_layer_1078 (l : Launch) : nk_CallOk l { frames := 2, cells := 0, slots := 0, locals := 42 } RX6 cX6_layer 3 false 1078 (1, 0, 0, 0, ev_X6_isHeap) := nk_callS (x := 269) (n := 1) (mt_X6_isHeap l) (nk_msc [(5, 117), (5, 118), (5, 119), (1, 7)] (by decide +kernel)) rfl rfl (by decide +kernel) ⟨by decide, by decide⟩
set_option maxRecDepth 100000 in
set_option maxHeartbeats 4000000 in
theorem ca_X6_layer_358 (l : Launch) : nk_CallOk l { frames := 2, cells := 0, slots := 0, locals := 42 } RX6 cX6_layer 3 false 358 (3, 0, 0, 0, ev_X6_in) := nk_callS (x := 89) (n := 3) (mt_X6_in l) (nk_msc [(4, 57), (4, 58), (4, 59), (1, 7)] (by decide +kernel)) rfl rfl (by decide +kernel) ⟨by decide, by decide⟩
set_option maxRecDepth 100000 in
set_option maxHeartbeats 4000000 in
theorem ca_X6_layer_388 (l : Launch) : nk_CallOk l { frames := 2, cells := 0, slots := 0, locals := 42 } RX6 cX6_layer 3 false 388 (2, 7, 0, 0, ev_X6_meets) := nk_callV (x := 97) (n := 1) (ci := 6) (r := (RX6, TX6, 32)) (mt_X6_meets l) rfl (nk_msc [(4, 60), (4, 61), (4, 62), (4, 63), (0, 26), (1, 7)] (by decide +kernel)) rfl rfl (by decide +kernel) ⟨by decide, by decide⟩
set_option maxRecDepth 100000 in
set_option maxHeartbeats 4000000 in
theorem mt_X6_layer (l : Launch) : nk_Met l yX6_layer cX6_layer 3 (some .int) { frames := 2, cells := 0, slots := 0, locals := 42 } false 0 0 ev_X6_layer :=
  nk_met nk_gok (plainFor_of_name (by decide)) ck_X6_layer (nk_top_out 60 kt_X6_layer) ⟨List.forall_mem_cons.mpr ⟨nk_fkc [(3, 220)] (by decide +kernel), List.forall_mem_cons.mpr ⟨nk_fkc [(3, 222)] (by decide +kernel), List.forall_mem_cons.mpr ⟨nk_fkc [(3, 221)] (by decide +kernel), fun _ h => absurd h List.not_mem_nil⟩⟩⟩, List.forall_mem_cons.mpr ⟨ca_X6_layer_1078 l, List.forall_mem_cons.mpr ⟨ca_X6_layer_358 l, List.forall_mem_cons.mpr ⟨ca_X6_layer_388 l, fun _ h => absurd h List.not_mem_nil⟩⟩⟩, fun _ h => absurd h List.not_mem_nil, fun _ h => absurd h List.not_mem_nil, fun _ h => absurd h List.not_mem_nil, fun _ h => absurd h List.not_mem_nil, fun _ h => absurd h List.not_mem_nil, by decide, rfl, rfl⟩ rfl (by decide)
/-! MarbleLawModel.asked()I -/
noncomputable def kt_X6_asked : Nat → Option nk_I := fun pc => bif Nat.ble pc 0 then (bif Nat.beq pc 0 then some (.aload_n 0, 1, 1, [], 0) else none)
  else (bif Nat.ble pc 1 then (bif Nat.beq pc 1 then some (.getfield 79, 3, 4, [], 0) else none)
  else (bif Nat.beq pc 4 then some (.ireturn, 1, 5, [], 0) else none))
noncomputable def kc_X6_asked : Nat → Option nk_I := nk_top 5 kt_X6_asked
noncomputable def kx_X6_asked : nk_T := ([(79, 6, 2, 0)], [], [], [], [], [], [], 1, false, 0, 0)
noncomputable def ev_X6_asked : nk_Ev := fun as h Q => nk_if (Nat.ble (nk_wd as) 1) (nk_ev kx_X6_asked kc_X6_asked 1 as h Q)
set_option maxRecDepth 100000 in
theorem ck_X6_asked : nk_chk cX6_asked kc_X6_asked 5 = true := nd_chk (by decide +kernel) (by decide +kernel)
set_option maxRecDepth 100000 in
set_option maxHeartbeats 4000000 in
theorem mt_X6_asked (l : Launch) : nk_Met l yX6_asked cX6_asked 1 (some .int) { frames := 0, cells := 0, slots := 0, locals := 0 } false 0 0 ev_X6_asked :=
  nk_met nk_gok (plainFor_of_name (by decide)) ck_X6_asked (nk_top_out 5 kt_X6_asked) ⟨List.forall_mem_cons.mpr ⟨nk_fkc [(3, 195)] (by decide +kernel), fun _ h => absurd h List.not_mem_nil⟩, fun _ h => absurd h List.not_mem_nil, fun _ h => absurd h List.not_mem_nil, fun _ h => absurd h List.not_mem_nil, fun _ h => absurd h List.not_mem_nil, fun _ h => absurd h List.not_mem_nil, fun _ h => absurd h List.not_mem_nil, by decide, rfl, rfl⟩ rfl (by decide)
/-! MarbleLawModel.upper()J -/
noncomputable def kt_X6_upper : Nat → Option nk_I := fun pc => bif Nat.ble pc 0 then (bif Nat.beq pc 0 then some (.aload_n 0, 1, 1, [], 0) else none)
  else (bif Nat.ble pc 1 then (bif Nat.beq pc 1 then some (.getfield 86, 3, 4, [], 0) else none)
  else (bif Nat.beq pc 4 then some (.lreturn, 1, 5, [], 0) else none))
noncomputable def kc_X6_upper : Nat → Option nk_I := nk_top 5 kt_X6_upper
noncomputable def kx_X6_upper : nk_T := ([(86, 6, 3, 2)], [], [], [], [], [], [], 3, false, 0, 0)
noncomputable def ev_X6_upper : nk_Ev := fun as h Q => nk_if (Nat.ble (nk_wd as) 1) (nk_ev kx_X6_upper kc_X6_upper 1 as h Q)
set_option maxRecDepth 100000 in
theorem ck_X6_upper : nk_chk cX6_upper kc_X6_upper 5 = true := nd_chk (by decide +kernel) (by decide +kernel)
set_option maxRecDepth 100000 in
set_option maxHeartbeats 4000000 in
theorem mt_X6_upper (l : Launch) : nk_Met l yX6_upper cX6_upper 1 (some .long) { frames := 0, cells := 0, slots := 0, locals := 0 } false 0 0 ev_X6_upper :=
  nk_met nk_gok (plainFor_of_name (by decide)) ck_X6_upper (nk_top_out 5 kt_X6_upper) ⟨List.forall_mem_cons.mpr ⟨nk_fkc [(3, 196)] (by decide +kernel), fun _ h => absurd h List.not_mem_nil⟩, fun _ h => absurd h List.not_mem_nil, fun _ h => absurd h List.not_mem_nil, fun _ h => absurd h List.not_mem_nil, fun _ h => absurd h List.not_mem_nil, fun _ h => absurd h List.not_mem_nil, fun _ h => absurd h List.not_mem_nil, by decide, rfl, rfl⟩ rfl (by decide)
/-! MarbleLawModel.lower()J -/
noncomputable def kt_X6_lower : Nat → Option nk_I := fun pc => bif Nat.ble pc 0 then (bif Nat.beq pc 0 then some (.aload_n 0, 1, 1, [], 0) else none)
  else (bif Nat.ble pc 1 then (bif Nat.beq pc 1 then some (.getfield 13, 3, 4, [], 0) else none)
  else (bif Nat.beq pc 4 then some (.lreturn, 1, 5, [], 0) else none))
noncomputable def kc_X6_lower : Nat → Option nk_I := nk_top 5 kt_X6_lower
noncomputable def kx_X6_lower : nk_T := ([(13, 6, 4, 2)], [], [], [], [], [], [], 3, false, 0, 0)
noncomputable def ev_X6_lower : nk_Ev := fun as h Q => nk_if (Nat.ble (nk_wd as) 1) (nk_ev kx_X6_lower kc_X6_lower 1 as h Q)
set_option maxRecDepth 100000 in
theorem ck_X6_lower : nk_chk cX6_lower kc_X6_lower 5 = true := nd_chk (by decide +kernel) (by decide +kernel)
set_option maxRecDepth 100000 in
set_option maxHeartbeats 4000000 in
theorem mt_X6_lower (l : Launch) : nk_Met l yX6_lower cX6_lower 1 (some .long) { frames := 0, cells := 0, slots := 0, locals := 0 } false 0 0 ev_X6_lower :=
  nk_met nk_gok (plainFor_of_name (by decide)) ck_X6_lower (nk_top_out 5 kt_X6_lower) ⟨List.forall_mem_cons.mpr ⟨nk_fkc [(3, 197)] (by decide +kernel), fun _ h => absurd h List.not_mem_nil⟩, fun _ h => absurd h List.not_mem_nil, fun _ h => absurd h List.not_mem_nil, fun _ h => absurd h List.not_mem_nil, fun _ h => absurd h List.not_mem_nil, fun _ h => absurd h List.not_mem_nil, fun _ h => absurd h List.not_mem_nil, by decide, rfl, rfl⟩ rfl (by decide)
