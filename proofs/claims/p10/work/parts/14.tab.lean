/-! MarbleLaw$Tale.addStuff(IIII)I -/
noncomputable def kt_X4_addStuff : Nat → Option nk_I := fun pc => bif Nat.ble pc 32 then ((fun pc => bif Nat.ble pc 16 then ((fun pc => bif Nat.ble pc 6 then ((fun pc => bif Nat.ble pc 1 then (bif Nat.ble pc 0 then (bif Nat.beq pc 0 then some (.aload_n 0, 1, 1, [], 0) else none)
  else (bif Nat.beq pc 1 then some (.getfield 18, 3, 4, [], 0) else none))
  else ((fun pc => bif Nat.ble pc 4 then (bif Nat.beq pc 4 then some (.iconst 5, 1, 5, [], 5) else none)
  else (bif Nat.ble pc 5 then (bif Nat.beq pc 5 then some (.imul, 1, 6, [], 0) else none)
  else (bif Nat.beq pc 6 then some (.istore 5, 2, 8, [], 0) else none))) : nk_F) pc) : nk_F) pc
  else ((fun pc => bif Nat.ble pc 12 then ((fun pc => bif Nat.ble pc 8 then (bif Nat.beq pc 8 then some (.aload_n 0, 1, 9, [], 0) else none)
  else (bif Nat.ble pc 9 then (bif Nat.beq pc 9 then some (.getfield 9, 3, 12, [], 0) else none)
  else (bif Nat.beq pc 12 then some (.iload 5, 2, 14, [], 0) else none))) : nk_F) pc
  else ((fun pc => bif Nat.ble pc 14 then (bif Nat.beq pc 14 then some (.iconst 0, 1, 15, [], 0) else none)
  else (bif Nat.ble pc 15 then (bif Nat.beq pc 15 then some (.iadd, 1, 16, [], 0) else none)
  else (bif Nat.beq pc 16 then some (.iload_n 1, 1, 17, [], 0) else none))) : nk_F) pc) : nk_F) pc) : nk_F) pc
  else ((fun pc => bif Nat.ble pc 24 then ((fun pc => bif Nat.ble pc 18 then (bif Nat.ble pc 17 then (bif Nat.beq pc 17 then some (.iastore, 1, 18, [], 0) else none)
  else (bif Nat.beq pc 18 then some (.aload_n 0, 1, 19, [], 0) else none))
  else ((fun pc => bif Nat.ble pc 19 then (bif Nat.beq pc 19 then some (.getfield 9, 3, 22, [], 0) else none)
  else (bif Nat.ble pc 22 then (bif Nat.beq pc 22 then some (.iload 5, 2, 24, [], 0) else none)
  else (bif Nat.beq pc 24 then some (.iconst 1, 1, 25, [], 1) else none))) : nk_F) pc) : nk_F) pc
  else ((fun pc => bif Nat.ble pc 27 then ((fun pc => bif Nat.ble pc 25 then (bif Nat.beq pc 25 then some (.iadd, 1, 26, [], 0) else none)
  else (bif Nat.ble pc 26 then (bif Nat.beq pc 26 then some (.iload_n 2, 1, 27, [], 0) else none)
  else (bif Nat.beq pc 27 then some (.iastore, 1, 28, [], 0) else none))) : nk_F) pc
  else ((fun pc => bif Nat.ble pc 28 then (bif Nat.beq pc 28 then some (.aload_n 0, 1, 29, [], 0) else none)
  else (bif Nat.ble pc 29 then (bif Nat.beq pc 29 then some (.getfield 9, 3, 32, [], 0) else none)
  else (bif Nat.beq pc 32 then some (.iload 5, 2, 34, [], 0) else none))) : nk_F) pc) : nk_F) pc) : nk_F) pc) : nk_F) pc
  else ((fun pc => bif Nat.ble pc 48 then ((fun pc => bif Nat.ble pc 38 then ((fun pc => bif Nat.ble pc 35 then (bif Nat.ble pc 34 then (bif Nat.beq pc 34 then some (.iconst 2, 1, 35, [], 2) else none)
  else (bif Nat.beq pc 35 then some (.iadd, 1, 36, [], 0) else none))
  else ((fun pc => bif Nat.ble pc 36 then (bif Nat.beq pc 36 then some (.iload_n 3, 1, 37, [], 0) else none)
  else (bif Nat.ble pc 37 then (bif Nat.beq pc 37 then some (.iastore, 1, 38, [], 0) else none)
  else (bif Nat.beq pc 38 then some (.aload_n 0, 1, 39, [], 0) else none))) : nk_F) pc) : nk_F) pc
  else ((fun pc => bif Nat.ble pc 44 then ((fun pc => bif Nat.ble pc 39 then (bif Nat.beq pc 39 then some (.getfield 9, 3, 42, [], 0) else none)
  else (bif Nat.ble pc 42 then (bif Nat.beq pc 42 then some (.iload 5, 2, 44, [], 0) else none)
  else (bif Nat.beq pc 44 then some (.iconst 3, 1, 45, [], 3) else none))) : nk_F) pc
  else ((fun pc => bif Nat.ble pc 45 then (bif Nat.beq pc 45 then some (.iadd, 1, 46, [], 0) else none)
  else (bif Nat.ble pc 46 then (bif Nat.beq pc 46 then some (.iload 4, 2, 48, [], 0) else none)
  else (bif Nat.beq pc 48 then some (.iastore, 1, 49, [], 0) else none))) : nk_F) pc) : nk_F) pc) : nk_F) pc
  else ((fun pc => bif Nat.ble pc 55 then ((fun pc => bif Nat.ble pc 50 then (bif Nat.ble pc 49 then (bif Nat.beq pc 49 then some (.aload_n 0, 1, 50, [], 0) else none)
  else (bif Nat.beq pc 50 then some (.dup, 1, 51, [], 0) else none))
  else ((fun pc => bif Nat.ble pc 51 then (bif Nat.beq pc 51 then some (.getfield 18, 3, 54, [], 0) else none)
  else (bif Nat.ble pc 54 then (bif Nat.beq pc 54 then some (.iconst 1, 1, 55, [], 1) else none)
  else (bif Nat.beq pc 55 then some (.iadd, 1, 56, [], 0) else none))) : nk_F) pc) : nk_F) pc
  else ((fun pc => bif Nat.ble pc 60 then ((fun pc => bif Nat.ble pc 56 then (bif Nat.beq pc 56 then some (.putfield 18, 3, 59, [], 0) else none)
  else (bif Nat.ble pc 59 then (bif Nat.beq pc 59 then some (.aload_n 0, 1, 60, [], 0) else none)
  else (bif Nat.beq pc 60 then some (.getfield 18, 3, 63, [], 0) else none))) : nk_F) pc
  else ((fun pc => bif Nat.ble pc 63 then (bif Nat.beq pc 63 then some (.iconst 1, 1, 64, [], 1) else none)
  else (bif Nat.ble pc 64 then (bif Nat.beq pc 64 then some (.isub, 1, 65, [], 0) else none)
  else (bif Nat.beq pc 65 then some (.ireturn, 1, 66, [], 0) else none))) : nk_F) pc) : nk_F) pc) : nk_F) pc) : nk_F) pc
noncomputable def kc_X4_addStuff : Nat → Option nk_I := nk_top 66 kt_X4_addStuff
noncomputable def kx_X4_addStuff : nk_T := ([(18, 4, 2, 0), (9, 4, 0, 4)], [], [], [], [], [], [], 1, false, 0, 0)
noncomputable def ev_X4_addStuff : nk_Ev := fun as h Q => nk_if (Nat.ble (nk_wd as) 6) (nk_ev kx_X4_addStuff kc_X4_addStuff 6 as h Q)
set_option maxRecDepth 100000 in
theorem ck_X4_addStuff : nk_chk cX4_addStuff kc_X4_addStuff 66 = true := nd_chk (by decide +kernel) (by decide +kernel)
set_option maxRecDepth 100000 in
set_option maxHeartbeats 4000000 in
theorem mt_X4_addStuff (l : Launch) : nk_Met l yX4_addStuff cX4_addStuff 6 (some .int) { frames := 0, cells := 0, slots := 0, locals := 0 } false 0 0 ev_X4_addStuff :=
  nk_met nk_gok (plainFor_of_name (by decide)) ck_X4_addStuff (nk_top_out 66 kt_X4_addStuff) ⟨List.forall_mem_cons.mpr ⟨nk_fkc [(1, 29)] (by decide +kernel), List.forall_mem_cons.mpr ⟨nk_fkc [(1, 27)] (by decide +kernel), fun _ h => absurd h List.not_mem_nil⟩⟩, fun _ h => absurd h List.not_mem_nil, fun _ h => absurd h List.not_mem_nil, fun _ h => absurd h List.not_mem_nil, fun _ h => absurd h List.not_mem_nil, fun _ h => absurd h List.not_mem_nil, fun _ h => absurd h List.not_mem_nil, by decide, rfl, rfl⟩ rfl (by decide)
/-! MarbleLaw$Tale.addMaking(IIIIIIZ)I -/
noncomputable def kt_X4_addMaking : Nat → Option nk_I := fun pc => bif Nat.ble pc 63 then ((fun pc => bif Nat.ble pc 29 then ((fun pc => bif Nat.ble pc 16 then ((fun pc => bif Nat.ble pc 7 then ((fun pc => bif Nat.ble pc 1 then (bif Nat.ble pc 0 then (bif Nat.beq pc 0 then some (.aload_n 0, 1, 1, [], 0) else none)
  else (bif Nat.beq pc 1 then some (.getfield 22, 3, 4, [], 0) else none))
  else ((fun pc => bif Nat.ble pc 4 then (bif Nat.beq pc 4 then some (.bipush 7, 2, 6, [], 7) else none)
  else (bif Nat.ble pc 6 then (bif Nat.beq pc 6 then some (.imul, 1, 7, [], 0) else none)
  else (bif Nat.beq pc 7 then some (.istore 8, 2, 9, [], 0) else none))) : nk_F) pc) : nk_F) pc
  else ((fun pc => bif Nat.ble pc 10 then (bif Nat.ble pc 9 then (bif Nat.beq pc 9 then some (.aload_n 0, 1, 10, [], 0) else none)
  else (bif Nat.beq pc 10 then some (.getfield 15, 3, 13, [], 0) else none))
  else ((fun pc => bif Nat.ble pc 13 then (bif Nat.beq pc 13 then some (.iload 8, 2, 15, [], 0) else none)
  else (bif Nat.ble pc 15 then (bif Nat.beq pc 15 then some (.iconst 0, 1, 16, [], 0) else none)
  else (bif Nat.beq pc 16 then some (.iadd, 1, 17, [], 0) else none))) : nk_F) pc) : nk_F) pc) : nk_F) pc
  else ((fun pc => bif Nat.ble pc 23 then ((fun pc => bif Nat.ble pc 18 then (bif Nat.ble pc 17 then (bif Nat.beq pc 17 then some (.iload_n 1, 1, 18, [], 0) else none)
  else (bif Nat.beq pc 18 then some (.iastore, 1, 19, [], 0) else none))
  else ((fun pc => bif Nat.ble pc 19 then (bif Nat.beq pc 19 then some (.aload_n 0, 1, 20, [], 0) else none)
  else (bif Nat.ble pc 20 then (bif Nat.beq pc 20 then some (.getfield 15, 3, 23, [], 0) else none)
  else (bif Nat.beq pc 23 then some (.iload 8, 2, 25, [], 0) else none))) : nk_F) pc) : nk_F) pc
  else ((fun pc => bif Nat.ble pc 26 then (bif Nat.ble pc 25 then (bif Nat.beq pc 25 then some (.iconst 1, 1, 26, [], 1) else none)
  else (bif Nat.beq pc 26 then some (.iadd, 1, 27, [], 0) else none))
  else ((fun pc => bif Nat.ble pc 27 then (bif Nat.beq pc 27 then some (.iload_n 2, 1, 28, [], 0) else none)
  else (bif Nat.ble pc 28 then (bif Nat.beq pc 28 then some (.iastore, 1, 29, [], 0) else none)
  else (bif Nat.beq pc 29 then some (.aload_n 0, 1, 30, [], 0) else none))) : nk_F) pc) : nk_F) pc) : nk_F) pc) : nk_F) pc
  else ((fun pc => bif Nat.ble pc 46 then ((fun pc => bif Nat.ble pc 37 then ((fun pc => bif Nat.ble pc 33 then (bif Nat.ble pc 30 then (bif Nat.beq pc 30 then some (.getfield 15, 3, 33, [], 0) else none)
  else (bif Nat.beq pc 33 then some (.iload 8, 2, 35, [], 0) else none))
  else ((fun pc => bif Nat.ble pc 35 then (bif Nat.beq pc 35 then some (.iconst 2, 1, 36, [], 2) else none)
  else (bif Nat.ble pc 36 then (bif Nat.beq pc 36 then some (.iadd, 1, 37, [], 0) else none)
  else (bif Nat.beq pc 37 then some (.iload_n 1, 1, 38, [], 0) else none))) : nk_F) pc) : nk_F) pc
  else ((fun pc => bif Nat.ble pc 41 then (bif Nat.ble pc 38 then (bif Nat.beq pc 38 then some (.ifCond .eq 8, 3, 41, [46], 0) else none)
  else (bif Nat.beq pc 41 then some (.iload_n 1, 1, 42, [], 0) else none))
  else ((fun pc => bif Nat.ble pc 42 then (bif Nat.beq pc 42 then some (.iconst 4, 1, 43, [], 4) else none)
  else (bif Nat.ble pc 43 then (bif Nat.beq pc 43 then some (.if_icmp .ne 7, 3, 46, [50], 0) else none)
  else (bif Nat.beq pc 46 then some (.iconst 0, 1, 47, [], 0) else none))) : nk_F) pc) : nk_F) pc) : nk_F) pc
  else ((fun pc => bif Nat.ble pc 53 then ((fun pc => bif Nat.ble pc 50 then (bif Nat.ble pc 47 then (bif Nat.beq pc 47 then some (.goto 4, 3, 50, [51], 0) else none)
  else (bif Nat.beq pc 50 then some (.iload_n 3, 1, 51, [], 0) else none))
  else ((fun pc => bif Nat.ble pc 51 then (bif Nat.beq pc 51 then some (.iastore, 1, 52, [], 0) else none)
  else (bif Nat.ble pc 52 then (bif Nat.beq pc 52 then some (.aload_n 0, 1, 53, [], 0) else none)
  else (bif Nat.beq pc 53 then some (.getfield 15, 3, 56, [], 0) else none))) : nk_F) pc) : nk_F) pc
  else ((fun pc => bif Nat.ble pc 59 then ((fun pc => bif Nat.ble pc 56 then (bif Nat.beq pc 56 then some (.iload 8, 2, 58, [], 0) else none)
  else (bif Nat.ble pc 58 then (bif Nat.beq pc 58 then some (.iconst 3, 1, 59, [], 3) else none)
  else (bif Nat.beq pc 59 then some (.iadd, 1, 60, [], 0) else none))) : nk_F) pc
  else ((fun pc => bif Nat.ble pc 60 then (bif Nat.beq pc 60 then some (.iload 4, 2, 62, [], 0) else none)
  else (bif Nat.ble pc 62 then (bif Nat.beq pc 62 then some (.iastore, 1, 63, [], 0) else none)
  else (bif Nat.beq pc 63 then some (.aload_n 0, 1, 64, [], 0) else none))) : nk_F) pc) : nk_F) pc) : nk_F) pc) : nk_F) pc) : nk_F) pc
  else ((fun pc => bif Nat.ble pc 96 then ((fun pc => bif Nat.ble pc 80 then ((fun pc => bif Nat.ble pc 71 then ((fun pc => bif Nat.ble pc 67 then (bif Nat.ble pc 64 then (bif Nat.beq pc 64 then some (.getfield 15, 3, 67, [], 0) else none)
  else (bif Nat.beq pc 67 then some (.iload 8, 2, 69, [], 0) else none))
  else ((fun pc => bif Nat.ble pc 69 then (bif Nat.beq pc 69 then some (.iconst 4, 1, 70, [], 4) else none)
  else (bif Nat.ble pc 70 then (bif Nat.beq pc 70 then some (.iadd, 1, 71, [], 0) else none)
  else (bif Nat.beq pc 71 then some (.iload 5, 2, 73, [], 0) else none))) : nk_F) pc) : nk_F) pc
  else ((fun pc => bif Nat.ble pc 74 then (bif Nat.ble pc 73 then (bif Nat.beq pc 73 then some (.iastore, 1, 74, [], 0) else none)
  else (bif Nat.beq pc 74 then some (.aload_n 0, 1, 75, [], 0) else none))
  else ((fun pc => bif Nat.ble pc 75 then (bif Nat.beq pc 75 then some (.getfield 15, 3, 78, [], 0) else none)
  else (bif Nat.ble pc 78 then (bif Nat.beq pc 78 then some (.iload 8, 2, 80, [], 0) else none)
  else (bif Nat.beq pc 80 then some (.iconst 5, 1, 81, [], 5) else none))) : nk_F) pc) : nk_F) pc) : nk_F) pc
  else ((fun pc => bif Nat.ble pc 86 then ((fun pc => bif Nat.ble pc 82 then (bif Nat.ble pc 81 then (bif Nat.beq pc 81 then some (.iadd, 1, 82, [], 0) else none)
  else (bif Nat.beq pc 82 then some (.iload 6, 2, 84, [], 0) else none))
  else ((fun pc => bif Nat.ble pc 84 then (bif Nat.beq pc 84 then some (.iastore, 1, 85, [], 0) else none)
  else (bif Nat.ble pc 85 then (bif Nat.beq pc 85 then some (.aload_n 0, 1, 86, [], 0) else none)
  else (bif Nat.beq pc 86 then some (.getfield 15, 3, 89, [], 0) else none))) : nk_F) pc) : nk_F) pc
  else ((fun pc => bif Nat.ble pc 91 then (bif Nat.ble pc 89 then (bif Nat.beq pc 89 then some (.iload 8, 2, 91, [], 0) else none)
  else (bif Nat.beq pc 91 then some (.bipush 6, 2, 93, [], 6) else none))
  else ((fun pc => bif Nat.ble pc 93 then (bif Nat.beq pc 93 then some (.iadd, 1, 94, [], 0) else none)
  else (bif Nat.ble pc 94 then (bif Nat.beq pc 94 then some (.iload 7, 2, 96, [], 0) else none)
  else (bif Nat.beq pc 96 then some (.ifCond .eq 17, 3, 99, [113], 0) else none))) : nk_F) pc) : nk_F) pc) : nk_F) pc) : nk_F) pc
  else ((fun pc => bif Nat.ble pc 114 then ((fun pc => bif Nat.ble pc 105 then ((fun pc => bif Nat.ble pc 100 then (bif Nat.ble pc 99 then (bif Nat.beq pc 99 then some (.iload_n 1, 1, 100, [], 0) else none)
  else (bif Nat.beq pc 100 then some (.iconst 2, 1, 101, [], 2) else none))
  else ((fun pc => bif Nat.ble pc 101 then (bif Nat.beq pc 101 then some (.if_icmp .eq 8, 3, 104, [109], 0) else none)
  else (bif Nat.ble pc 104 then (bif Nat.beq pc 104 then some (.iload_n 1, 1, 105, [], 0) else none)
  else (bif Nat.beq pc 105 then some (.iconst 5, 1, 106, [], 5) else none))) : nk_F) pc) : nk_F) pc
  else ((fun pc => bif Nat.ble pc 109 then (bif Nat.ble pc 106 then (bif Nat.beq pc 106 then some (.if_icmp .ne 7, 3, 109, [113], 0) else none)
  else (bif Nat.beq pc 109 then some (.iconst 1, 1, 110, [], 1) else none))
  else ((fun pc => bif Nat.ble pc 110 then (bif Nat.beq pc 110 then some (.goto 4, 3, 113, [114], 0) else none)
  else (bif Nat.ble pc 113 then (bif Nat.beq pc 113 then some (.iconst 0, 1, 114, [], 0) else none)
  else (bif Nat.beq pc 114 then some (.iastore, 1, 115, [], 0) else none))) : nk_F) pc) : nk_F) pc) : nk_F) pc
  else ((fun pc => bif Nat.ble pc 121 then ((fun pc => bif Nat.ble pc 116 then (bif Nat.ble pc 115 then (bif Nat.beq pc 115 then some (.aload_n 0, 1, 116, [], 0) else none)
  else (bif Nat.beq pc 116 then some (.dup, 1, 117, [], 0) else none))
  else ((fun pc => bif Nat.ble pc 117 then (bif Nat.beq pc 117 then some (.getfield 22, 3, 120, [], 0) else none)
  else (bif Nat.ble pc 120 then (bif Nat.beq pc 120 then some (.iconst 1, 1, 121, [], 1) else none)
  else (bif Nat.beq pc 121 then some (.iadd, 1, 122, [], 0) else none))) : nk_F) pc) : nk_F) pc
  else ((fun pc => bif Nat.ble pc 126 then ((fun pc => bif Nat.ble pc 122 then (bif Nat.beq pc 122 then some (.putfield 22, 3, 125, [], 0) else none)
  else (bif Nat.ble pc 125 then (bif Nat.beq pc 125 then some (.aload_n 0, 1, 126, [], 0) else none)
  else (bif Nat.beq pc 126 then some (.getfield 22, 3, 129, [], 0) else none))) : nk_F) pc
  else ((fun pc => bif Nat.ble pc 129 then (bif Nat.beq pc 129 then some (.iconst 1, 1, 130, [], 1) else none)
  else (bif Nat.ble pc 130 then (bif Nat.beq pc 130 then some (.isub, 1, 131, [], 0) else none)
  else (bif Nat.beq pc 131 then some (.ireturn, 1, 132, [], 0) else none))) : nk_F) pc) : nk_F) pc) : nk_F) pc) : nk_F) pc) : nk_F) pc
noncomputable def kc_X4_addMaking : Nat → Option nk_I := nk_top 132 kt_X4_addMaking
noncomputable def kx_X4_addMaking : nk_T := ([(22, 4, 3, 0), (15, 4, 1, 4)], [], [], [], [], [], [], 1, false, 0, 0)
noncomputable def ev_X4_addMaking : nk_Ev := fun as h Q => nk_if (Nat.ble (nk_wd as) 9) (nk_ev kx_X4_addMaking kc_X4_addMaking 9 as h Q)
set_option maxRecDepth 100000 in
theorem ck_X4_addMaking : nk_chk cX4_addMaking kc_X4_addMaking 132 = true := nd_chk (by decide +kernel) (by decide +kernel)
set_option maxRecDepth 100000 in
set_option maxHeartbeats 4000000 in
theorem mt_X4_addMaking (l : Launch) : nk_Met l yX4_addMaking cX4_addMaking 9 (some .int) { frames := 0, cells := 0, slots := 0, locals := 0 } false 0 0 ev_X4_addMaking :=
  nk_met nk_gok (plainFor_of_name (by decide)) ck_X4_addMaking (nk_top_out 132 kt_X4_addMaking) ⟨List.forall_mem_cons.mpr ⟨nk_fkc [(1, 32)] (by decide +kernel), List.forall_mem_cons.mpr ⟨nk_fkc [(1, 28)] (by decide +kernel), fun _ h => absurd h List.not_mem_nil⟩⟩, fun _ h => absurd h List.not_mem_nil, fun _ h => absurd h List.not_mem_nil, fun _ h => absurd h List.not_mem_nil, fun _ h => absurd h List.not_mem_nil, fun _ h => absurd h List.not_mem_nil, fun _ h => absurd h List.not_mem_nil, by decide, rfl, rfl⟩ rfl (by decide)
/-! MarbleLaw$Tale.addTo(J)J -/
noncomputable def kt_X4_addTo : Nat → Option nk_I := fun pc => bif Nat.ble pc 34 then ((fun pc => bif Nat.ble pc 16 then ((fun pc => bif Nat.ble pc 5 then ((fun pc => bif Nat.ble pc 1 then (bif Nat.ble pc 0 then (bif Nat.beq pc 0 then some (.lload_n 1, 1, 1, [], 0) else none)
  else (bif Nat.beq pc 1 then some (.lstore_n 3, 1, 2, [], 0) else none))
  else ((fun pc => bif Nat.ble pc 2 then (bif Nat.beq pc 2 then some (.iconst 0, 1, 3, [], 0) else none)
  else (bif Nat.ble pc 3 then (bif Nat.beq pc 3 then some (.istore 5, 2, 5, [], 0) else none)
  else (bif Nat.beq pc 5 then some (.iload 5, 2, 7, [], 0) else none))) : nk_F) pc) : nk_F) pc
  else ((fun pc => bif Nat.ble pc 11 then ((fun pc => bif Nat.ble pc 7 then (bif Nat.beq pc 7 then some (.aload_n 0, 1, 8, [], 0) else none)
  else (bif Nat.ble pc 8 then (bif Nat.beq pc 8 then some (.getfield 18, 3, 11, [], 0) else none)
  else (bif Nat.beq pc 11 then some (.iconst 5, 1, 12, [], 5) else none))) : nk_F) pc
  else ((fun pc => bif Nat.ble pc 12 then (bif Nat.beq pc 12 then some (.imul, 1, 13, [], 0) else none)
  else (bif Nat.ble pc 13 then (bif Nat.beq pc 13 then some (.if_icmp .ge 24, 3, 16, [37], 0) else none)
  else (bif Nat.beq pc 16 then some (.ldc2_w 25, 3, 19, [], 0) else none))) : nk_F) pc) : nk_F) pc) : nk_F) pc
  else ((fun pc => bif Nat.ble pc 25 then ((fun pc => bif Nat.ble pc 20 then (bif Nat.ble pc 19 then (bif Nat.beq pc 19 then some (.lload_n 3, 1, 20, [], 0) else none)
  else (bif Nat.beq pc 20 then some (.lmul, 1, 21, [], 0) else none))
  else ((fun pc => bif Nat.ble pc 21 then (bif Nat.beq pc 21 then some (.aload_n 0, 1, 22, [], 0) else none)
  else (bif Nat.ble pc 22 then (bif Nat.beq pc 22 then some (.getfield 9, 3, 25, [], 0) else none)
  else (bif Nat.beq pc 25 then some (.iload 5, 2, 27, [], 0) else none))) : nk_F) pc) : nk_F) pc
  else ((fun pc => bif Nat.ble pc 29 then ((fun pc => bif Nat.ble pc 27 then (bif Nat.beq pc 27 then some (.iaload, 1, 28, [], 0) else none)
  else (bif Nat.ble pc 28 then (bif Nat.beq pc 28 then some (.i2l, 1, 29, [], 0) else none)
  else (bif Nat.beq pc 29 then some (.ladd, 1, 30, [], 0) else none))) : nk_F) pc
  else ((fun pc => bif Nat.ble pc 30 then (bif Nat.beq pc 30 then some (.lstore_n 3, 1, 31, [], 0) else none)
  else (bif Nat.ble pc 31 then (bif Nat.beq pc 31 then some (.iinc 5 1, 3, 34, [], 1) else none)
  else (bif Nat.beq pc 34 then some (.goto (-29), 3, 37, [5], 0) else none))) : nk_F) pc) : nk_F) pc) : nk_F) pc) : nk_F) pc
  else ((fun pc => bif Nat.ble pc 56 then ((fun pc => bif Nat.ble pc 43 then ((fun pc => bif Nat.ble pc 38 then (bif Nat.ble pc 37 then (bif Nat.beq pc 37 then some (.iconst 0, 1, 38, [], 0) else none)
  else (bif Nat.beq pc 38 then some (.istore 5, 2, 40, [], 0) else none))
  else ((fun pc => bif Nat.ble pc 40 then (bif Nat.beq pc 40 then some (.iload 5, 2, 42, [], 0) else none)
  else (bif Nat.ble pc 42 then (bif Nat.beq pc 42 then some (.aload_n 0, 1, 43, [], 0) else none)
  else (bif Nat.beq pc 43 then some (.getfield 22, 3, 46, [], 0) else none))) : nk_F) pc) : nk_F) pc
  else ((fun pc => bif Nat.ble pc 49 then ((fun pc => bif Nat.ble pc 46 then (bif Nat.beq pc 46 then some (.bipush 7, 2, 48, [], 7) else none)
  else (bif Nat.ble pc 48 then (bif Nat.beq pc 48 then some (.imul, 1, 49, [], 0) else none)
  else (bif Nat.beq pc 49 then some (.if_icmp .ge 24, 3, 52, [73], 0) else none))) : nk_F) pc
  else ((fun pc => bif Nat.ble pc 52 then (bif Nat.beq pc 52 then some (.ldc2_w 25, 3, 55, [], 0) else none)
  else (bif Nat.ble pc 55 then (bif Nat.beq pc 55 then some (.lload_n 3, 1, 56, [], 0) else none)
  else (bif Nat.beq pc 56 then some (.lmul, 1, 57, [], 0) else none))) : nk_F) pc) : nk_F) pc) : nk_F) pc
  else ((fun pc => bif Nat.ble pc 64 then ((fun pc => bif Nat.ble pc 58 then (bif Nat.ble pc 57 then (bif Nat.beq pc 57 then some (.aload_n 0, 1, 58, [], 0) else none)
  else (bif Nat.beq pc 58 then some (.getfield 15, 3, 61, [], 0) else none))
  else ((fun pc => bif Nat.ble pc 61 then (bif Nat.beq pc 61 then some (.iload 5, 2, 63, [], 0) else none)
  else (bif Nat.ble pc 63 then (bif Nat.beq pc 63 then some (.iaload, 1, 64, [], 0) else none)
  else (bif Nat.beq pc 64 then some (.i2l, 1, 65, [], 0) else none))) : nk_F) pc) : nk_F) pc
  else ((fun pc => bif Nat.ble pc 67 then ((fun pc => bif Nat.ble pc 65 then (bif Nat.beq pc 65 then some (.ladd, 1, 66, [], 0) else none)
  else (bif Nat.ble pc 66 then (bif Nat.beq pc 66 then some (.lstore_n 3, 1, 67, [], 0) else none)
  else (bif Nat.beq pc 67 then some (.iinc 5 1, 3, 70, [], 1) else none))) : nk_F) pc
  else ((fun pc => bif Nat.ble pc 70 then (bif Nat.beq pc 70 then some (.goto (-30), 3, 73, [40], 0) else none)
  else (bif Nat.ble pc 73 then (bif Nat.beq pc 73 then some (.lload_n 3, 1, 74, [], 0) else none)
  else (bif Nat.beq pc 74 then some (.lreturn, 1, 75, [], 0) else none))) : nk_F) pc) : nk_F) pc) : nk_F) pc) : nk_F) pc
noncomputable def kc_X4_addTo : Nat → Option nk_I := nk_top 75 kt_X4_addTo
noncomputable def kx_X4_addTo : nk_T := ([(18, 4, 2, 0), (9, 4, 0, 4), (22, 4, 3, 0), (15, 4, 1, 4)], [], [], [(25, 31)], [], [], [], 3, false, 0, 0)
noncomputable def ev_X4_addTo : nk_Ev := fun as h Q => nk_if (Nat.ble (nk_wd as) 6) (nk_ev kx_X4_addTo kc_X4_addTo 6 as h Q)
set_option maxRecDepth 100000 in
theorem ck_X4_addTo : nk_chk cX4_addTo kc_X4_addTo 75 = true := nd_chk (by decide +kernel) (by decide +kernel)
set_option maxRecDepth 100000 in
set_option maxHeartbeats 4000000 in
theorem mt_X4_addTo (l : Launch) : nk_Met l yX4_addTo cX4_addTo 6 (some .long) { frames := 0, cells := 0, slots := 0, locals := 0 } false 0 0 ev_X4_addTo :=
  nk_met nk_gok (plainFor_of_name (by decide)) ck_X4_addTo (nk_top_out 75 kt_X4_addTo) ⟨List.forall_mem_cons.mpr ⟨nk_fkc [(1, 29)] (by decide +kernel), List.forall_mem_cons.mpr ⟨nk_fkc [(1, 27)] (by decide +kernel), List.forall_mem_cons.mpr ⟨nk_fkc [(1, 32)] (by decide +kernel), List.forall_mem_cons.mpr ⟨nk_fkc [(1, 28)] (by decide +kernel), fun _ h => absurd h List.not_mem_nil⟩⟩⟩⟩, fun _ h => absurd h List.not_mem_nil, fun _ h => absurd h List.not_mem_nil, List.forall_mem_cons.mpr ⟨nk_mc [(3, 175)] (by decide +kernel), fun _ h => absurd h List.not_mem_nil⟩, fun _ h => absurd h List.not_mem_nil, fun _ h => absurd h List.not_mem_nil, fun _ h => absurd h List.not_mem_nil, by decide, rfl, rfl⟩ rfl (by decide)
/-! MarbleLaw.<init>()V -/
noncomputable def kt_X5_init : Nat → Option nk_I := fun pc => bif Nat.ble pc 111 then ((fun pc => bif Nat.ble pc 55 then ((fun pc => bif Nat.ble pc 26 then ((fun pc => bif Nat.ble pc 13 then ((fun pc => bif Nat.ble pc 4 then ((fun pc => bif Nat.ble pc 0 then (bif Nat.beq pc 0 then some (.aload_n 0, 1, 1, [], 0) else none)
  else (bif Nat.ble pc 1 then (bif Nat.beq pc 1 then some (.invokespecial 1, 3, 4, [], 0) else none)
  else (bif Nat.beq pc 4 then some (.aload_n 0, 1, 5, [], 0) else none))) : nk_F) pc
  else ((fun pc => bif Nat.ble pc 7 then (bif Nat.ble pc 5 then (bif Nat.beq pc 5 then some (.bipush 6, 2, 7, [], 6) else none)
  else (bif Nat.beq pc 7 then some (.anewarray 9, 3, 10, [], 0) else none))
  else (bif Nat.ble pc 10 then (bif Nat.beq pc 10 then some (.putfield 11, 3, 13, [], 0) else none)
  else (bif Nat.beq pc 13 then some (.aload_n 0, 1, 14, [], 0) else none))) : nk_F) pc) : nk_F) pc
  else ((fun pc => bif Nat.ble pc 18 then ((fun pc => bif Nat.ble pc 14 then (bif Nat.beq pc 14 then some (.iconst 4, 1, 15, [], 4) else none)
  else (bif Nat.ble pc 15 then (bif Nat.beq pc 15 then some (.anewarray 9, 3, 18, [], 0) else none)
  else (bif Nat.beq pc 18 then some (.putfield 15, 3, 21, [], 0) else none))) : nk_F) pc
  else ((fun pc => bif Nat.ble pc 22 then (bif Nat.ble pc 21 then (bif Nat.beq pc 21 then some (.aload_n 0, 1, 22, [], 0) else none)
  else (bif Nat.beq pc 22 then some (.new 18, 3, 25, [], 0) else none))
  else (bif Nat.ble pc 25 then (bif Nat.beq pc 25 then some (.dup, 1, 26, [], 0) else none)
  else (bif Nat.beq pc 26 then some (.invokespecial 20, 3, 29, [], 0) else none))) : nk_F) pc) : nk_F) pc) : nk_F) pc
  else ((fun pc => bif Nat.ble pc 43 then ((fun pc => bif Nat.ble pc 33 then ((fun pc => bif Nat.ble pc 29 then (bif Nat.beq pc 29 then some (.putfield 21, 3, 32, [], 0) else none)
  else (bif Nat.ble pc 32 then (bif Nat.beq pc 32 then some (.aload_n 0, 1, 33, [], 0) else none)
  else (bif Nat.beq pc 33 then some (.new 25, 3, 36, [], 0) else none))) : nk_F) pc
  else ((fun pc => bif Nat.ble pc 37 then (bif Nat.ble pc 36 then (bif Nat.beq pc 36 then some (.dup, 1, 37, [], 0) else none)
  else (bif Nat.beq pc 37 then some (.invokespecial 27, 3, 40, [], 0) else none))
  else (bif Nat.ble pc 40 then (bif Nat.beq pc 40 then some (.putfield 28, 3, 43, [], 0) else none)
  else (bif Nat.beq pc 43 then some (.aload_n 0, 1, 44, [], 0) else none))) : nk_F) pc) : nk_F) pc
  else ((fun pc => bif Nat.ble pc 47 then ((fun pc => bif Nat.ble pc 44 then (bif Nat.beq pc 44 then some (.iconst 4, 1, 45, [], 4) else none)
  else (bif Nat.ble pc 45 then (bif Nat.beq pc 45 then some (.newarray .int, 2, 47, [], 0) else none)
  else (bif Nat.beq pc 47 then some (.putfield 32, 3, 50, [], 0) else none))) : nk_F) pc
  else ((fun pc => bif Nat.ble pc 51 then (bif Nat.ble pc 50 then (bif Nat.beq pc 50 then some (.aload_n 0, 1, 51, [], 0) else none)
  else (bif Nat.beq pc 51 then some (.new 36, 3, 54, [], 0) else none))
  else (bif Nat.ble pc 54 then (bif Nat.beq pc 54 then some (.dup, 1, 55, [], 0) else none)
  else (bif Nat.beq pc 55 then some (.aload_n 0, 1, 56, [], 0) else none))) : nk_F) pc) : nk_F) pc) : nk_F) pc) : nk_F) pc
  else ((fun pc => bif Nat.ble pc 85 then ((fun pc => bif Nat.ble pc 70 then ((fun pc => bif Nat.ble pc 62 then ((fun pc => bif Nat.ble pc 56 then (bif Nat.beq pc 56 then some (.getfield 21, 3, 59, [], 0) else none)
  else (bif Nat.ble pc 59 then (bif Nat.beq pc 59 then some (.invokespecial 38, 3, 62, [], 0) else none)
  else (bif Nat.beq pc 62 then some (.putfield 41, 3, 65, [], 0) else none))) : nk_F) pc
  else ((fun pc => bif Nat.ble pc 66 then (bif Nat.ble pc 65 then (bif Nat.beq pc 65 then some (.aload_n 0, 1, 66, [], 0) else none)
  else (bif Nat.beq pc 66 then some (.new 36, 3, 69, [], 0) else none))
  else (bif Nat.ble pc 69 then (bif Nat.beq pc 69 then some (.dup, 1, 70, [], 0) else none)
  else (bif Nat.beq pc 70 then some (.aload_n 0, 1, 71, [], 0) else none))) : nk_F) pc) : nk_F) pc
  else ((fun pc => bif Nat.ble pc 77 then ((fun pc => bif Nat.ble pc 71 then (bif Nat.beq pc 71 then some (.getfield 21, 3, 74, [], 0) else none)
  else (bif Nat.ble pc 74 then (bif Nat.beq pc 74 then some (.invokespecial 38, 3, 77, [], 0) else none)
  else (bif Nat.beq pc 77 then some (.putfield 45, 3, 80, [], 0) else none))) : nk_F) pc
  else ((fun pc => bif Nat.ble pc 81 then (bif Nat.ble pc 80 then (bif Nat.beq pc 80 then some (.aload_n 0, 1, 81, [], 0) else none)
  else (bif Nat.beq pc 81 then some (.iconst 4, 1, 82, [], 4) else none))
  else (bif Nat.ble pc 82 then (bif Nat.beq pc 82 then some (.anewarray 48, 3, 85, [], 0) else none)
  else (bif Nat.beq pc 85 then some (.putfield 50, 3, 88, [], 0) else none))) : nk_F) pc) : nk_F) pc) : nk_F) pc
  else ((fun pc => bif Nat.ble pc 98 then ((fun pc => bif Nat.ble pc 91 then ((fun pc => bif Nat.ble pc 88 then (bif Nat.beq pc 88 then some (.aload_n 0, 1, 89, [], 0) else none)
  else (bif Nat.ble pc 89 then (bif Nat.beq pc 89 then some (.bipush 6, 2, 91, [], 6) else none)
  else (bif Nat.beq pc 91 then some (.newarray .int, 2, 93, [], 0) else none))) : nk_F) pc
  else ((fun pc => bif Nat.ble pc 96 then (bif Nat.ble pc 93 then (bif Nat.beq pc 93 then some (.putfield 54, 3, 96, [], 0) else none)
  else (bif Nat.beq pc 96 then some (.aload_n 0, 1, 97, [], 0) else none))
  else (bif Nat.ble pc 97 then (bif Nat.beq pc 97 then some (.iconst 0, 1, 98, [], 0) else none)
  else (bif Nat.beq pc 98 then some (.putfield 57, 3, 101, [], 0) else none))) : nk_F) pc) : nk_F) pc
  else ((fun pc => bif Nat.ble pc 103 then ((fun pc => bif Nat.ble pc 101 then (bif Nat.beq pc 101 then some (.aload_n 0, 1, 102, [], 0) else none)
  else (bif Nat.ble pc 102 then (bif Nat.beq pc 102 then some (.iconst 0, 1, 103, [], 0) else none)
  else (bif Nat.beq pc 103 then some (.putfield 61, 3, 106, [], 0) else none))) : nk_F) pc
  else ((fun pc => bif Nat.ble pc 107 then (bif Nat.ble pc 106 then (bif Nat.beq pc 106 then some (.aload_n 0, 1, 107, [], 0) else none)
  else (bif Nat.beq pc 107 then some (.lconst 0, 1, 108, [], 0) else none))
  else (bif Nat.ble pc 108 then (bif Nat.beq pc 108 then some (.putfield 64, 3, 111, [], 0) else none)
  else (bif Nat.beq pc 111 then some (.aload_n 0, 1, 112, [], 0) else none))) : nk_F) pc) : nk_F) pc) : nk_F) pc) : nk_F) pc) : nk_F) pc
  else ((fun pc => bif Nat.ble pc 162 then ((fun pc => bif Nat.ble pc 136 then ((fun pc => bif Nat.ble pc 121 then ((fun pc => bif Nat.ble pc 116 then ((fun pc => bif Nat.ble pc 112 then (bif Nat.beq pc 112 then some (.lconst 1, 1, 113, [], 0) else none)
  else (bif Nat.ble pc 113 then (bif Nat.beq pc 113 then some (.putfield 68, 3, 116, [], 0) else none)
  else (bif Nat.beq pc 116 then some (.iconst 0, 1, 117, [], 0) else none))) : nk_F) pc
  else ((fun pc => bif Nat.ble pc 118 then (bif Nat.ble pc 117 then (bif Nat.beq pc 117 then some (.istore_n 1, 1, 118, [], 0) else none)
  else (bif Nat.beq pc 118 then some (.iload_n 1, 1, 119, [], 0) else none))
  else (bif Nat.ble pc 119 then (bif Nat.beq pc 119 then some (.bipush 6, 2, 121, [], 6) else none)
  else (bif Nat.beq pc 121 then some (.if_icmp .ge 22, 3, 124, [143], 0) else none))) : nk_F) pc) : nk_F) pc
  else ((fun pc => bif Nat.ble pc 128 then ((fun pc => bif Nat.ble pc 124 then (bif Nat.beq pc 124 then some (.aload_n 0, 1, 125, [], 0) else none)
  else (bif Nat.ble pc 125 then (bif Nat.beq pc 125 then some (.getfield 11, 3, 128, [], 0) else none)
  else (bif Nat.beq pc 128 then some (.iload_n 1, 1, 129, [], 0) else none))) : nk_F) pc
  else ((fun pc => bif Nat.ble pc 132 then (bif Nat.ble pc 129 then (bif Nat.beq pc 129 then some (.new 9, 3, 132, [], 0) else none)
  else (bif Nat.beq pc 132 then some (.dup, 1, 133, [], 0) else none))
  else (bif Nat.ble pc 133 then (bif Nat.beq pc 133 then some (.invokespecial 71, 3, 136, [], 0) else none)
  else (bif Nat.beq pc 136 then some (.aastore, 1, 137, [], 0) else none))) : nk_F) pc) : nk_F) pc) : nk_F) pc
  else ((fun pc => bif Nat.ble pc 147 then ((fun pc => bif Nat.ble pc 143 then ((fun pc => bif Nat.ble pc 137 then (bif Nat.beq pc 137 then some (.iinc 1 1, 3, 140, [], 1) else none)
  else (bif Nat.ble pc 140 then (bif Nat.beq pc 140 then some (.goto (-22), 3, 143, [118], 0) else none)
  else (bif Nat.beq pc 143 then some (.iconst 0, 1, 144, [], 0) else none))) : nk_F) pc
  else ((fun pc => bif Nat.ble pc 145 then (bif Nat.ble pc 144 then (bif Nat.beq pc 144 then some (.istore_n 1, 1, 145, [], 0) else none)
  else (bif Nat.beq pc 145 then some (.iload_n 1, 1, 146, [], 0) else none))
  else (bif Nat.ble pc 146 then (bif Nat.beq pc 146 then some (.iconst 4, 1, 147, [], 4) else none)
  else (bif Nat.beq pc 147 then some (.if_icmp .ge 22, 3, 150, [169], 0) else none))) : nk_F) pc) : nk_F) pc
  else ((fun pc => bif Nat.ble pc 154 then ((fun pc => bif Nat.ble pc 150 then (bif Nat.beq pc 150 then some (.aload_n 0, 1, 151, [], 0) else none)
  else (bif Nat.ble pc 151 then (bif Nat.beq pc 151 then some (.getfield 15, 3, 154, [], 0) else none)
  else (bif Nat.beq pc 154 then some (.iload_n 1, 1, 155, [], 0) else none))) : nk_F) pc
  else ((fun pc => bif Nat.ble pc 158 then (bif Nat.ble pc 155 then (bif Nat.beq pc 155 then some (.new 9, 3, 158, [], 0) else none)
  else (bif Nat.beq pc 158 then some (.dup, 1, 159, [], 0) else none))
  else (bif Nat.ble pc 159 then (bif Nat.beq pc 159 then some (.invokespecial 71, 3, 162, [], 0) else none)
  else (bif Nat.beq pc 162 then some (.aastore, 1, 163, [], 0) else none))) : nk_F) pc) : nk_F) pc) : nk_F) pc) : nk_F) pc
  else ((fun pc => bif Nat.ble pc 186 then ((fun pc => bif Nat.ble pc 173 then ((fun pc => bif Nat.ble pc 169 then ((fun pc => bif Nat.ble pc 163 then (bif Nat.beq pc 163 then some (.iinc 1 1, 3, 166, [], 1) else none)
  else (bif Nat.ble pc 166 then (bif Nat.beq pc 166 then some (.goto (-21), 3, 169, [145], 0) else none)
  else (bif Nat.beq pc 169 then some (.iconst 0, 1, 170, [], 0) else none))) : nk_F) pc
  else ((fun pc => bif Nat.ble pc 171 then (bif Nat.ble pc 170 then (bif Nat.beq pc 170 then some (.istore_n 1, 1, 171, [], 0) else none)
  else (bif Nat.beq pc 171 then some (.iload_n 1, 1, 172, [], 0) else none))
  else (bif Nat.ble pc 172 then (bif Nat.beq pc 172 then some (.iconst 4, 1, 173, [], 4) else none)
  else (bif Nat.beq pc 173 then some (.if_icmp .ge 16, 3, 176, [189], 0) else none))) : nk_F) pc) : nk_F) pc
  else ((fun pc => bif Nat.ble pc 180 then ((fun pc => bif Nat.ble pc 176 then (bif Nat.beq pc 176 then some (.aload_n 0, 1, 177, [], 0) else none)
  else (bif Nat.ble pc 177 then (bif Nat.beq pc 177 then some (.getfield 32, 3, 180, [], 0) else none)
  else (bif Nat.beq pc 180 then some (.iload_n 1, 1, 181, [], 0) else none))) : nk_F) pc
  else ((fun pc => bif Nat.ble pc 182 then (bif Nat.ble pc 181 then (bif Nat.beq pc 181 then some (.iconst (-1), 1, 182, [], (-1)) else none)
  else (bif Nat.beq pc 182 then some (.iastore, 1, 183, [], 0) else none))
  else (bif Nat.ble pc 183 then (bif Nat.beq pc 183 then some (.iinc 1 1, 3, 186, [], 1) else none)
  else (bif Nat.beq pc 186 then some (.goto (-15), 3, 189, [171], 0) else none))) : nk_F) pc) : nk_F) pc) : nk_F) pc
  else ((fun pc => bif Nat.ble pc 197 then ((fun pc => bif Nat.ble pc 191 then ((fun pc => bif Nat.ble pc 189 then (bif Nat.beq pc 189 then some (.iconst 0, 1, 190, [], 0) else none)
  else (bif Nat.ble pc 190 then (bif Nat.beq pc 190 then some (.istore_n 1, 1, 191, [], 0) else none)
  else (bif Nat.beq pc 191 then some (.iload_n 1, 1, 192, [], 0) else none))) : nk_F) pc
  else ((fun pc => bif Nat.ble pc 193 then (bif Nat.ble pc 192 then (bif Nat.beq pc 192 then some (.iconst 4, 1, 193, [], 4) else none)
  else (bif Nat.beq pc 193 then some (.if_icmp .ge 22, 3, 196, [215], 0) else none))
  else (bif Nat.ble pc 196 then (bif Nat.beq pc 196 then some (.aload_n 0, 1, 197, [], 0) else none)
  else (bif Nat.beq pc 197 then some (.getfield 50, 3, 200, [], 0) else none))) : nk_F) pc) : nk_F) pc
  else ((fun pc => bif Nat.ble pc 205 then ((fun pc => bif Nat.ble pc 201 then (bif Nat.ble pc 200 then (bif Nat.beq pc 200 then some (.iload_n 1, 1, 201, [], 0) else none)
  else (bif Nat.beq pc 201 then some (.new 48, 3, 204, [], 0) else none))
  else (bif Nat.ble pc 204 then (bif Nat.beq pc 204 then some (.dup, 1, 205, [], 0) else none)
  else (bif Nat.beq pc 205 then some (.invokespecial 72, 3, 208, [], 0) else none))) : nk_F) pc
  else ((fun pc => bif Nat.ble pc 209 then (bif Nat.ble pc 208 then (bif Nat.beq pc 208 then some (.aastore, 1, 209, [], 0) else none)
  else (bif Nat.beq pc 209 then some (.iinc 1 1, 3, 212, [], 1) else none))
  else (bif Nat.ble pc 212 then (bif Nat.beq pc 212 then some (.goto (-21), 3, 215, [191], 0) else none)
  else (bif Nat.beq pc 215 then some (.return_, 1, 216, [], 0) else none))) : nk_F) pc) : nk_F) pc) : nk_F) pc) : nk_F) pc) : nk_F) pc
noncomputable def kc_X5_init : Nat → Option nk_I := nk_top 216 kt_X5_init
noncomputable def kx_X5_init : nk_T := ([(11, 5, 0, 4), (15, 5, 1, 4), (21, 5, 2, 4), (28, 5, 3, 4), (32, 5, 4, 4), (41, 5, 5, 4), (45, 5, 6, 4), (50, 5, 7, 4), (54, 5, 8, 4), (57, 5, 9, 0), (61, 5, 10, 0), (64, 5, 11, 2), (68, 5, 12, 2)], [(5, 1, 6, 0, 0, fun _ h K => K none h), (81, 1, 5, 2, 164, ev_X4_init), (109, 1, 3, 1, 5, ev_X2_init), (153, 2, 1, 8, 187, ev_X0_init), (285, 1, 4, 1, 40, ev_X3_init), (289, 1, 2, 2, 40, ev_X1_init)], [], [], [(18, 4, [.null, .null, .int 0, .int 0]), (25, 2, [.null]), (36, 0, [.null, .null, .int 0, .null, .null, .null, .null, .null, .null, .null, .int 0, .int 0, .int 0, .int 0, .int 0]), (9, 3, [.null, .int 0]), (48, 1, [.null, .null, .int 0])], [(9, 2), (48, 3)], [], 0, true, 60, 1194)
noncomputable def ev_X5_init : nk_Ev := fun as h Q => nk_if (Nat.ble (nk_wd as) 2) (nk_ev kx_X5_init kc_X5_init 2 as h Q)
set_option maxRecDepth 100000 in
theorem ck_X5_init : nk_chk cX5_init kc_X5_init 216 = true := nd_chk (by decide +kernel) (by decide +kernel)
set_option maxRecDepth 100000 in
set_option maxHeartbeats 4000000 in
theorem ca_X5_init_5 (l : Launch) : nk_CallOk l { frames := 2, cells := 60, slots := 1194, locals := 41 } RX5 cX5_init 2 true 5 (1, 6, 0, 0, fun _ h K => K none h) := nk_callO (x := 1) (nk_mc [(1, 16), (1, 17), (1, 18)] (by decide +kernel)) (nk_mc [(1, 16), (1, 17), (1, 18)] (by decide +kernel)) (nk_mc [(1, 16), (1, 17), (1, 18)] (by decide +kernel)) ⟨by decide, by decide⟩
set_option maxRecDepth 100000 in
set_option maxHeartbeats 4000000 in
theorem ca_X5_init_81 (l : Launch) : nk_CallOk l { frames := 2, cells := 60, slots := 1194, locals := 41 } RX5 cX5_init 2 true 81 (1, 5, 2, 164, ev_X4_init) := nk_callIN (x := 20) (n := 0) (ci := 4) (host := "MarbleLaw") (mt_X4_init l) (by decide +kernel) (nk_mc [(1, 23), (1, 24), (1, 25), (1, 2)] (by decide +kernel)) (nk_mc [(1, 23), (1, 24), (1, 25), (1, 2)] (by decide +kernel)) (nk_mc [(1, 23), (1, 24), (1, 25), (1, 2)] (by decide +kernel)) rfl rfl rfl (by decide +kernel) ⟨by decide, by decide⟩
set_option maxRecDepth 100000 in
set_option maxHeartbeats 4000000 in
theorem ca_X5_init_109 (l : Launch) : nk_CallOk l { frames := 2, cells := 60, slots := 1194, locals := 41 } RX5 cX5_init 2 true 109 (1, 3, 1, 5, ev_X2_init) := nk_callIN (x := 27) (n := 0) (ci := 2) (host := "MarbleLaw") (mt_X2_init l) (by decide +kernel) (nk_mc [(1, 46), (1, 47), (1, 48), (1, 3)] (by decide +kernel)) (nk_mc [(1, 46), (1, 47), (1, 48), (1, 3)] (by decide +kernel)) (nk_mc [(1, 46), (1, 47), (1, 48), (1, 3)] (by decide +kernel)) rfl rfl rfl (by decide +kernel) ⟨by decide, by decide⟩
set_option maxRecDepth 100000 in
set_option maxHeartbeats 4000000 in
theorem ca_X5_init_153 (l : Launch) : nk_CallOk l { frames := 2, cells := 60, slots := 1194, locals := 41 } RX5 cX5_init 2 true 153 (2, 1, 8, 187, ev_X0_init) := nk_callI (x := 38) (n := 1) (ci := 0) (mt_X0_init l) (nk_mc [(1, 56), (1, 57), (1, 58), (1, 4)] (by decide +kernel)) (nk_mc [(1, 56), (1, 57), (1, 58), (1, 4)] (by decide +kernel)) (nk_mc [(1, 56), (1, 57), (1, 58), (1, 4)] (by decide +kernel)) (nk_mc [(1, 56), (1, 57), (1, 58), (1, 4)] (by decide +kernel)) rfl rfl rfl (by decide +kernel) ⟨by decide, by decide⟩
set_option maxRecDepth 100000 in
set_option maxHeartbeats 4000000 in
theorem ca_X5_init_285 (l : Launch) : nk_CallOk l { frames := 2, cells := 60, slots := 1194, locals := 41 } RX5 cX5_init 2 true 285 (1, 4, 1, 40, ev_X3_init) := nk_callIN (x := 71) (n := 0) (ci := 3) (host := "MarbleLaw") (mt_X3_init l) (by decide +kernel) (nk_mc [(1, 120), (1, 121), (1, 122), (1, 5)] (by decide +kernel)) (nk_mc [(1, 120), (1, 121), (1, 122), (1, 5)] (by decide +kernel)) (nk_mc [(1, 120), (1, 121), (1, 122), (1, 5)] (by decide +kernel)) rfl rfl rfl (by decide +kernel) ⟨by decide, by decide⟩
set_option maxRecDepth 100000 in
set_option maxHeartbeats 4000000 in
theorem ca_X5_init_289 (l : Launch) : nk_CallOk l { frames := 2, cells := 60, slots := 1194, locals := 41 } RX5 cX5_init 2 true 289 (1, 2, 2, 40, ev_X1_init) := nk_callIN (x := 72) (n := 0) (ci := 1) (host := "MarbleLaw") (mt_X1_init l) (by decide +kernel) (nk_mc [(1, 136), (1, 137), (1, 138), (1, 6)] (by decide +kernel)) (nk_mc [(1, 136), (1, 137), (1, 138), (1, 6)] (by decide +kernel)) (nk_mc [(1, 136), (1, 137), (1, 138), (1, 6)] (by decide +kernel)) rfl rfl rfl (by decide +kernel) ⟨by decide, by decide⟩
set_option maxRecDepth 100000 in
set_option maxHeartbeats 4000000 in
theorem mt_X5_init (l : Launch) : nk_Met l yX5_init cX5_init 2 none { frames := 2, cells := 60, slots := 1194, locals := 41 } true 60 1194 ev_X5_init :=
  nk_met nk_gok (plainFor_of_name (by decide)) ck_X5_init (nk_top_out 216 kt_X5_init) ⟨List.forall_mem_cons.mpr ⟨nk_fkc [(1, 151)] (by decide +kernel), List.forall_mem_cons.mpr ⟨nk_fkc [(1, 152)] (by decide +kernel), List.forall_mem_cons.mpr ⟨nk_fkc [(1, 153)] (by decide +kernel), List.forall_mem_cons.mpr ⟨nk_fkc [(1, 154)] (by decide +kernel), List.forall_mem_cons.mpr ⟨nk_fkc [(1, 155)] (by decide +kernel), List.forall_mem_cons.mpr ⟨nk_fkc [(1, 156)] (by decide +kernel), List.forall_mem_cons.mpr ⟨nk_fkc [(1, 157)] (by decide +kernel), List.forall_mem_cons.mpr ⟨nk_fkc [(1, 158)] (by decide +kernel), List.forall_mem_cons.mpr ⟨nk_fkc [(1, 159)] (by decide +kernel), List.forall_mem_cons.mpr ⟨nk_fkc [(1, 160)] (by decide +kernel), List.forall_mem_cons.mpr ⟨nk_fkc [(1, 161)] (by decide +kernel), List.forall_mem_cons.mpr ⟨nk_fkc [(1, 162)] (by decide +kernel), List.forall_mem_cons.mpr ⟨nk_fkc [(1, 163)] (by decide +kernel), fun _ h => absurd h List.not_mem_nil⟩⟩⟩⟩⟩⟩⟩⟩⟩⟩⟩⟩⟩, List.forall_mem_cons.mpr ⟨ca_X5_init_5 l, List.forall_mem_cons.mpr ⟨ca_X5_init_81 l, List.forall_mem_cons.mpr ⟨ca_X5_init_109 l, List.forall_mem_cons.mpr ⟨ca_X5_init_153 l, List.forall_mem_cons.mpr ⟨ca_X5_init_285 l, List.forall_mem_cons.mpr ⟨ca_X5_init_289 l, fun _ h => absurd h List.not_mem_nil⟩⟩⟩⟩⟩⟩, fun _ h => absurd h List.not_mem_nil, fun _ h => absurd h List.not_mem_nil, List.forall_mem_cons.mpr ⟨nw_X4 (nk_mc [(1, 21)] (by decide +kernel)), List.forall_mem_cons.mpr ⟨nw_X2 (nk_mc [(1, 44)] (by decide +kernel)), List.forall_mem_cons.mpr ⟨nw_X0 (nk_mc [(1, 54)] (by decide +kernel)), List.forall_mem_cons.mpr ⟨nw_X3 (nk_mc [(1, 19)] (by decide +kernel)), List.forall_mem_cons.mpr ⟨nw_X1 (nk_mc [(1, 117)] (by decide +kernel)), fun _ h => absurd h List.not_mem_nil⟩⟩⟩⟩⟩, List.forall_mem_cons.mpr ⟨⟨_, rfl, nk_mc [(1, 19)] (by decide +kernel), by decide +kernel⟩, List.forall_mem_cons.mpr ⟨⟨_, rfl, nk_mc [(1, 117)] (by decide +kernel), by decide +kernel⟩, fun _ h => absurd h List.not_mem_nil⟩⟩, fun _ h => absurd h List.not_mem_nil, by decide, rfl, rfl⟩ rfl (by decide)
/-! MarbleLaw.within(II)Z -/
noncomputable def kt_X5_within : Nat → Option nk_I := fun pc => bif Nat.ble pc 5 then ((fun pc => bif Nat.ble pc 1 then (bif Nat.ble pc 0 then (bif Nat.beq pc 0 then some (.iload_n 0, 1, 1, [], 0) else none)
  else (bif Nat.beq pc 1 then some (.ifCond .lt 12, 3, 4, [13], 0) else none))
  else (bif Nat.ble pc 4 then (bif Nat.beq pc 4 then some (.iload_n 0, 1, 5, [], 0) else none)
  else (bif Nat.beq pc 5 then some (.iload_n 1, 1, 6, [], 0) else none))) : nk_F) pc
  else ((fun pc => bif Nat.ble pc 9 then (bif Nat.ble pc 6 then (bif Nat.beq pc 6 then some (.if_icmp .ge 7, 3, 9, [13], 0) else none)
  else (bif Nat.beq pc 9 then some (.iconst 1, 1, 10, [], 1) else none))
  else ((fun pc => bif Nat.ble pc 10 then (bif Nat.beq pc 10 then some (.goto 4, 3, 13, [14], 0) else none)
  else (bif Nat.ble pc 13 then (bif Nat.beq pc 13 then some (.iconst 0, 1, 14, [], 0) else none)
  else (bif Nat.beq pc 14 then some (.ireturn, 1, 15, [], 0) else none))) : nk_F) pc) : nk_F) pc
noncomputable def kc_X5_within : Nat → Option nk_I := nk_top 15 kt_X5_within
noncomputable def kx_X5_within : nk_T := ([], [], [], [], [], [], [], 2, false, 0, 0)
noncomputable def ev_X5_within : nk_Ev := fun as h Q => nk_if (Nat.ble (nk_wd as) 2) (nk_ev kx_X5_within kc_X5_within 2 as h Q)
set_option maxRecDepth 100000 in
theorem ck_X5_within : nk_chk cX5_within kc_X5_within 15 = true := nd_chk (by decide +kernel) (by decide +kernel)
set_option maxRecDepth 100000 in
set_option maxHeartbeats 4000000 in
theorem mt_X5_within (l : Launch) : nk_Met l yX5_within cX5_within 2 (some .boolean) { frames := 0, cells := 0, slots := 0, locals := 0 } false 0 0 ev_X5_within :=
  nk_met nk_gok (plainFor_of_name (by decide)) ck_X5_within (nk_top_out 15 kt_X5_within) ⟨fun _ h => absurd h List.not_mem_nil, fun _ h => absurd h List.not_mem_nil, fun _ h => absurd h List.not_mem_nil, fun _ h => absurd h List.not_mem_nil, fun _ h => absurd h List.not_mem_nil, fun _ h => absurd h List.not_mem_nil, fun _ h => absurd h List.not_mem_nil, by decide, rfl, rfl⟩ rfl (by decide)
/-! MarbleLaw.found(I)I -/
noncomputable def kt_X5_found : Nat → Option nk_I := fun pc => bif Nat.ble pc 9 then ((fun pc => bif Nat.ble pc 2 then ((fun pc => bif Nat.ble pc 0 then (bif Nat.beq pc 0 then some (.aload_n 0, 1, 1, [], 0) else none)
  else (bif Nat.ble pc 1 then (bif Nat.beq pc 1 then some (.iload_n 1, 1, 2, [], 0) else none)
  else (bif Nat.beq pc 2 then some (.putfield 57, 3, 5, [], 0) else none))) : nk_F) pc
  else ((fun pc => bif Nat.ble pc 5 then (bif Nat.beq pc 5 then some (.aload_n 0, 1, 6, [], 0) else none)
  else (bif Nat.ble pc 6 then (bif Nat.beq pc 6 then some (.getfield 54, 3, 9, [], 0) else none)
  else (bif Nat.beq pc 9 then some (.iload_n 1, 1, 10, [], 0) else none))) : nk_F) pc) : nk_F) pc
  else ((fun pc => bif Nat.ble pc 12 then ((fun pc => bif Nat.ble pc 10 then (bif Nat.beq pc 10 then some (.dup2, 1, 11, [], 0) else none)
  else (bif Nat.ble pc 11 then (bif Nat.beq pc 11 then some (.iaload, 1, 12, [], 0) else none)
  else (bif Nat.beq pc 12 then some (.iconst 1, 1, 13, [], 1) else none))) : nk_F) pc
  else ((fun pc => bif Nat.ble pc 14 then (bif Nat.ble pc 13 then (bif Nat.beq pc 13 then some (.iadd, 1, 14, [], 0) else none)
  else (bif Nat.beq pc 14 then some (.iastore, 1, 15, [], 0) else none))
  else (bif Nat.ble pc 15 then (bif Nat.beq pc 15 then some (.bipush (-3), 2, 17, [], (-3)) else none)
  else (bif Nat.beq pc 17 then some (.ireturn, 1, 18, [], 0) else none))) : nk_F) pc) : nk_F) pc
noncomputable def kc_X5_found : Nat → Option nk_I := nk_top 18 kt_X5_found
noncomputable def kx_X5_found : nk_T := ([(57, 5, 9, 0), (54, 5, 8, 4)], [], [], [], [], [], [], 1, false, 0, 0)
noncomputable def ev_X5_found : nk_Ev := fun as h Q => nk_if (Nat.ble (nk_wd as) 2) (nk_ev kx_X5_found kc_X5_found 2 as h Q)
set_option maxRecDepth 100000 in
theorem ck_X5_found : nk_chk cX5_found kc_X5_found 18 = true := nd_chk (by decide +kernel) (by decide +kernel)
set_option maxRecDepth 100000 in
set_option maxHeartbeats 4000000 in
theorem mt_X5_found (l : Launch) : nk_Met l yX5_found cX5_found 2 (some .int) { frames := 0, cells := 0, slots := 0, locals := 0 } false 0 0 ev_X5_found :=
  nk_met nk_gok (plainFor_of_name (by decide)) ck_X5_found (nk_top_out 18 kt_X5_found) ⟨List.forall_mem_cons.mpr ⟨nk_fkc [(1, 160)] (by decide +kernel), List.forall_mem_cons.mpr ⟨nk_fkc [(1, 159)] (by decide +kernel), fun _ h => absurd h List.not_mem_nil⟩⟩, fun _ h => absurd h List.not_mem_nil, fun _ h => absurd h List.not_mem_nil, fun _ h => absurd h List.not_mem_nil, fun _ h => absurd h List.not_mem_nil, fun _ h => absurd h List.not_mem_nil, fun _ h => absurd h List.not_mem_nil, by decide, rfl, rfl⟩ rfl (by decide)
/-! MarbleLaw.begin([LMarbleLaw$Row;III)I -/
noncomputable def kt_X5_begin : Nat → Option nk_I := fun pc => bif Nat.ble pc 18 then ((fun pc => bif Nat.ble pc 9 then ((fun pc => bif Nat.ble pc 2 then ((fun pc => bif Nat.ble pc 0 then (bif Nat.beq pc 0 then some (.iload_n 2, 1, 1, [], 0) else none)
  else (bif Nat.ble pc 1 then (bif Nat.beq pc 1 then some (.aload_n 1, 1, 2, [], 0) else none)
  else (bif Nat.beq pc 2 then some (.arraylength, 1, 3, [], 0) else none))) : nk_F) pc
  else ((fun pc => bif Nat.ble pc 3 then (bif Nat.beq pc 3 then some (.invokestatic 84, 3, 6, [], 0) else none)
  else (bif Nat.ble pc 6 then (bif Nat.beq pc 6 then some (.ifCond .eq 9, 3, 9, [15], 0) else none)
  else (bif Nat.beq pc 9 then some (.iload_n 3, 1, 10, [], 0) else none))) : nk_F) pc) : nk_F) pc
  else ((fun pc => bif Nat.ble pc 15 then ((fun pc => bif Nat.ble pc 10 then (bif Nat.beq pc 10 then some (.bipush 40, 2, 12, [], 40) else none)
  else (bif Nat.ble pc 12 then (bif Nat.beq pc 12 then some (.if_icmp .le 5, 3, 15, [17], 0) else none)
  else (bif Nat.beq pc 15 then some (.iconst (-1), 1, 16, [], (-1)) else none))) : nk_F) pc
  else ((fun pc => bif Nat.ble pc 16 then (bif Nat.beq pc 16 then some (.ireturn, 1, 17, [], 0) else none)
  else (bif Nat.ble pc 17 then (bif Nat.beq pc 17 then some (.iload_n 3, 1, 18, [], 0) else none)
  else (bif Nat.beq pc 18 then some (.ifCond .ge 9, 3, 21, [27], 0) else none))) : nk_F) pc) : nk_F) pc) : nk_F) pc
  else ((fun pc => bif Nat.ble pc 28 then ((fun pc => bif Nat.ble pc 23 then ((fun pc => bif Nat.ble pc 21 then (bif Nat.beq pc 21 then some (.aload_n 0, 1, 22, [], 0) else none)
  else (bif Nat.ble pc 22 then (bif Nat.beq pc 22 then some (.iconst 5, 1, 23, [], 5) else none)
  else (bif Nat.beq pc 23 then some (.invokevirtual 92, 3, 26, [], 0) else none))) : nk_F) pc
  else ((fun pc => bif Nat.ble pc 26 then (bif Nat.beq pc 26 then some (.ireturn, 1, 27, [], 0) else none)
  else (bif Nat.ble pc 27 then (bif Nat.beq pc 27 then some (.aload_n 1, 1, 28, [], 0) else none)
  else (bif Nat.beq pc 28 then some (.iload_n 2, 1, 29, [], 0) else none))) : nk_F) pc) : nk_F) pc
  else ((fun pc => bif Nat.ble pc 31 then ((fun pc => bif Nat.ble pc 29 then (bif Nat.beq pc 29 then some (.aaload, 1, 30, [], 0) else none)
  else (bif Nat.ble pc 30 then (bif Nat.beq pc 30 then some (.iload_n 3, 1, 31, [], 0) else none)
  else (bif Nat.beq pc 31 then some (.iload 4, 2, 33, [], 0) else none))) : nk_F) pc
  else ((fun pc => bif Nat.ble pc 33 then (bif Nat.beq pc 33 then some (.invokevirtual 309, 3, 36, [], 0) else none)
  else (bif Nat.ble pc 36 then (bif Nat.beq pc 36 then some (.iload_n 3, 1, 37, [], 0) else none)
  else (bif Nat.beq pc 37 then some (.ireturn, 1, 38, [], 0) else none))) : nk_F) pc) : nk_F) pc) : nk_F) pc
noncomputable def kc_X5_begin : Nat → Option nk_I := nk_top 38 kt_X5_begin
noncomputable def kx_X5_begin : nk_T := ([], [(338, 2, 0, 0, 0, ev_X5_within), (368, 2, 6, 0, 0, ev_X5_found), (1236, 3, 4, 0, 0, ev_X3_begin)], [], [], [], [], [], 1, false, 0, 0)
noncomputable def ev_X5_begin : nk_Ev := fun as h Q => nk_if (Nat.ble (nk_wd as) 5) (nk_ev kx_X5_begin kc_X5_begin 5 as h Q)
set_option maxRecDepth 100000 in
theorem ck_X5_begin : nk_chk cX5_begin kc_X5_begin 38 = true := nd_chk (by decide +kernel) (by decide +kernel)
set_option maxRecDepth 100000 in
set_option maxHeartbeats 4000000 in
theorem ca_X5_begin_338 (l : Launch) : nk_CallOk l { frames := 1, cells := 0, slots := 0, locals := 23 } RX5 cX5_begin 5 false 338 (2, 0, 0, 0, ev_X5_within) := nk_callS (x := 84) (n := 2) (mt_X5_within l) (nk_msc [(1, 199), (1, 200), (1, 201), (1, 1)] (by decide +kernel)) rfl rfl (by decide +kernel) ⟨by decide, by decide⟩
set_option maxRecDepth 100000 in
set_option maxHeartbeats 4000000 in
theorem ca_X5_begin_368 (l : Launch) : nk_CallOk l { frames := 1, cells := 0, slots := 0, locals := 23 } RX5 cX5_begin 5 false 368 (2, 6, 0, 0, ev_X5_found) := nk_callV (x := 92) (n := 1) (ci := 5) (r := (RX5, TX5, 13)) (mt_X5_found l) rfl (nk_msc [(1, 202), (1, 203), (1, 204), (1, 205), (0, 1), (1, 1)] (by decide +kernel)) rfl rfl (by decide +kernel) ⟨by decide, by decide⟩
set_option maxRecDepth 100000 in
set_option maxHeartbeats 4000000 in
theorem ca_X5_begin_1236 (l : Launch) : nk_CallOk l { frames := 1, cells := 0, slots := 0, locals := 23 } RX5 cX5_begin 5 false 1236 (3, 4, 0, 0, ev_X3_begin) := nk_callV (x := 309) (n := 2) (ci := 3) (r := (RX3, TX3, 2)) (mt_X3_begin l) rfl (nk_msc [(1, 206), (1, 207), (1, 208), (1, 209), (1, 5)] (by decide +kernel)) rfl rfl (by decide +kernel) ⟨by decide, by decide⟩
set_option maxRecDepth 100000 in
set_option maxHeartbeats 4000000 in
theorem mt_X5_begin (l : Launch) : nk_Met l yX5_begin cX5_begin 5 (some .int) { frames := 1, cells := 0, slots := 0, locals := 23 } false 0 0 ev_X5_begin :=
  nk_met nk_gok (plainFor_of_name (by decide)) ck_X5_begin (nk_top_out 38 kt_X5_begin) ⟨fun _ h => absurd h List.not_mem_nil, List.forall_mem_cons.mpr ⟨ca_X5_begin_338 l, List.forall_mem_cons.mpr ⟨ca_X5_begin_368 l, List.forall_mem_cons.mpr ⟨ca_X5_begin_1236 l, fun _ h => absurd h List.not_mem_nil⟩⟩⟩, fun _ h => absurd h List.not_mem_nil, fun _ h => absurd h List.not_mem_nil, fun _ h => absurd h List.not_mem_nil, fun _ h => absurd h List.not_mem_nil, fun _ h => absurd h List.not_mem_nil, by decide, rfl, rfl⟩ rfl (by decide)
/-! MarbleLaw.row(II)I -/
noncomputable def kt_X5_row : Nat → Option nk_I := fun pc => bif Nat.ble pc 5 then ((fun pc => bif Nat.ble pc 1 then (bif Nat.ble pc 0 then (bif Nat.beq pc 0 then some (.aload_n 0, 1, 1, [], 0) else none)
  else (bif Nat.beq pc 1 then some (.aload_n 0, 1, 2, [], 0) else none))
  else (bif Nat.ble pc 2 then (bif Nat.beq pc 2 then some (.getfield 11, 3, 5, [], 0) else none)
  else (bif Nat.beq pc 5 then some (.iload_n 1, 1, 6, [], 0) else none))) : nk_F) pc
  else ((fun pc => bif Nat.ble pc 7 then (bif Nat.ble pc 6 then (bif Nat.beq pc 6 then some (.iload_n 2, 1, 7, [], 0) else none)
  else (bif Nat.beq pc 7 then some (.iconst 0, 1, 8, [], 0) else none))
  else (bif Nat.ble pc 8 then (bif Nat.beq pc 8 then some (.invokevirtual 73, 3, 11, [], 0) else none)
  else (bif Nat.beq pc 11 then some (.ireturn, 1, 12, [], 0) else none))) : nk_F) pc
noncomputable def kc_X5_row : Nat → Option nk_I := nk_top 12 kt_X5_row
noncomputable def kx_X5_row : nk_T := ([(11, 5, 0, 4)], [(292, 5, 6, 0, 0, ev_X5_begin)], [], [], [], [], [], 1, false, 0, 0)
noncomputable def ev_X5_row : nk_Ev := fun as h Q => nk_if (Nat.ble (nk_wd as) 3) (nk_ev kx_X5_row kc_X5_row 3 as h Q)
set_option maxRecDepth 100000 in
theorem ck_X5_row : nk_chk cX5_row kc_X5_row 12 = true := nd_chk (by decide +kernel) (by decide +kernel)
set_option maxRecDepth 100000 in
set_option maxHeartbeats 4000000 in
theorem ca_X5_row_292 (l : Launch) : nk_CallOk l { frames := 2, cells := 0, slots := 0, locals := 47 } RX5 cX5_row 3 false 292 (5, 6, 0, 0, ev_X5_begin) := nk_callV (x := 73) (n := 4) (ci := 5) (r := (RX5, TX5, 13)) (mt_X5_begin l) rfl (nk_msc [(1, 195), (1, 196), (1, 197), (1, 198), (0, 0), (1, 1)] (by decide +kernel)) rfl rfl (by decide +kernel) ⟨by decide, by decide⟩
set_option maxRecDepth 100000 in
set_option maxHeartbeats 4000000 in
theorem mt_X5_row (l : Launch) : nk_Met l yX5_row cX5_row 3 (some .int) { frames := 2, cells := 0, slots := 0, locals := 47 } false 0 0 ev_X5_row :=
  nk_met nk_gok (plainFor_of_name (by decide)) ck_X5_row (nk_top_out 12 kt_X5_row) ⟨List.forall_mem_cons.mpr ⟨nk_fkc [(1, 151)] (by decide +kernel), fun _ h => absurd h List.not_mem_nil⟩, List.forall_mem_cons.mpr ⟨ca_X5_row_292 l, fun _ h => absurd h List.not_mem_nil⟩, fun _ h => absurd h List.not_mem_nil, fun _ h => absurd h List.not_mem_nil, fun _ h => absurd h List.not_mem_nil, fun _ h => absurd h List.not_mem_nil, fun _ h => absurd h List.not_mem_nil, by decide, rfl, rfl⟩ rfl (by decide)
/-! MarbleLaw.refusalOfPlace([LMarbleLaw$Row;II)I -/
noncomputable def kt_X5_refusalOfPlace : Nat → Option nk_I := fun pc => bif Nat.ble pc 21 then ((fun pc => bif Nat.ble pc 10 then ((fun pc => bif Nat.ble pc 2 then ((fun pc => bif Nat.ble pc 0 then (bif Nat.beq pc 0 then some (.iload_n 2, 1, 1, [], 0) else none)
  else (bif Nat.ble pc 1 then (bif Nat.beq pc 1 then some (.aload_n 1, 1, 2, [], 0) else none)
  else (bif Nat.beq pc 2 then some (.arraylength, 1, 3, [], 0) else none))) : nk_F) pc
  else ((fun pc => bif Nat.ble pc 6 then (bif Nat.ble pc 3 then (bif Nat.beq pc 3 then some (.invokestatic 84, 3, 6, [], 0) else none)
  else (bif Nat.beq pc 6 then some (.ifCond .ne 5, 3, 9, [11], 0) else none))
  else (bif Nat.ble pc 9 then (bif Nat.beq pc 9 then some (.iconst (-1), 1, 10, [], (-1)) else none)
  else (bif Nat.beq pc 10 then some (.ireturn, 1, 11, [], 0) else none))) : nk_F) pc) : nk_F) pc
  else ((fun pc => bif Nat.ble pc 13 then ((fun pc => bif Nat.ble pc 11 then (bif Nat.beq pc 11 then some (.aload_n 1, 1, 12, [], 0) else none)
  else (bif Nat.ble pc 12 then (bif Nat.beq pc 12 then some (.iload_n 2, 1, 13, [], 0) else none)
  else (bif Nat.beq pc 13 then some (.aaload, 1, 14, [], 0) else none))) : nk_F) pc
  else ((fun pc => bif Nat.ble pc 17 then (bif Nat.ble pc 14 then (bif Nat.beq pc 14 then some (.invokevirtual 88, 3, 17, [], 0) else none)
  else (bif Nat.beq pc 17 then some (.ifCond .eq 9, 3, 20, [26], 0) else none))
  else (bif Nat.ble pc 20 then (bif Nat.beq pc 20 then some (.aload_n 0, 1, 21, [], 0) else none)
  else (bif Nat.beq pc 21 then some (.iconst 1, 1, 22, [], 1) else none))) : nk_F) pc) : nk_F) pc) : nk_F) pc
  else ((fun pc => bif Nat.ble pc 30 then ((fun pc => bif Nat.ble pc 26 then ((fun pc => bif Nat.ble pc 22 then (bif Nat.beq pc 22 then some (.invokevirtual 92, 3, 25, [], 0) else none)
  else (bif Nat.ble pc 25 then (bif Nat.beq pc 25 then some (.ireturn, 1, 26, [], 0) else none)
  else (bif Nat.beq pc 26 then some (.iload_n 3, 1, 27, [], 0) else none))) : nk_F) pc
  else ((fun pc => bif Nat.ble pc 28 then (bif Nat.ble pc 27 then (bif Nat.beq pc 27 then some (.aload_n 1, 1, 28, [], 0) else none)
  else (bif Nat.beq pc 28 then some (.iload_n 2, 1, 29, [], 0) else none))
  else (bif Nat.ble pc 29 then (bif Nat.beq pc 29 then some (.aaload, 1, 30, [], 0) else none)
  else (bif Nat.beq pc 30 then some (.getfield 96, 3, 33, [], 0) else none))) : nk_F) pc) : nk_F) pc
  else ((fun pc => bif Nat.ble pc 40 then ((fun pc => bif Nat.ble pc 36 then (bif Nat.ble pc 33 then (bif Nat.beq pc 33 then some (.invokestatic 84, 3, 36, [], 0) else none)
  else (bif Nat.beq pc 36 then some (.ifCond .eq 7, 3, 39, [43], 0) else none))
  else (bif Nat.ble pc 39 then (bif Nat.beq pc 39 then some (.iconst 0, 1, 40, [], 0) else none)
  else (bif Nat.beq pc 40 then some (.goto 8, 3, 43, [48], 0) else none))) : nk_F) pc
  else ((fun pc => bif Nat.ble pc 44 then (bif Nat.ble pc 43 then (bif Nat.beq pc 43 then some (.aload_n 0, 1, 44, [], 0) else none)
  else (bif Nat.beq pc 44 then some (.iconst 2, 1, 45, [], 2) else none))
  else (bif Nat.ble pc 45 then (bif Nat.beq pc 45 then some (.invokevirtual 92, 3, 48, [], 0) else none)
  else (bif Nat.beq pc 48 then some (.ireturn, 1, 49, [], 0) else none))) : nk_F) pc) : nk_F) pc) : nk_F) pc
noncomputable def kc_X5_refusalOfPlace : Nat → Option nk_I := nk_top 49 kt_X5_refusalOfPlace
noncomputable def kx_X5_refusalOfPlace : nk_T := ([(96, 3, 1, 0)], [(338, 2, 0, 0, 0, ev_X5_within), (352, 1, 4, 0, 0, ev_X3_isMissing), (368, 2, 6, 0, 0, ev_X5_found)], [], [], [], [], [], 1, false, 0, 0)
noncomputable def ev_X5_refusalOfPlace : nk_Ev := fun as h Q => nk_if (Nat.ble (nk_wd as) 4) (nk_ev kx_X5_refusalOfPlace kc_X5_refusalOfPlace 4 as h Q)
set_option maxRecDepth 100000 in
theorem ck_X5_refusalOfPlace : nk_chk cX5_refusalOfPlace kc_X5_refusalOfPlace 49 = true := nd_chk (by decide +kernel) (by decide +kernel)
set_option maxRecDepth 100000 in
set_option maxHeartbeats 4000000 in
theorem ca_X5_refusalOfPlace_338 (l : Launch) : nk_CallOk l { frames := 1, cells := 0, slots := 0, locals := 21 } RX5 cX5_refusalOfPlace 4 false 338 (2, 0, 0, 0, ev_X5_within) := nk_callS (x := 84) (n := 2) (mt_X5_within l) (nk_msc [(1, 199), (1, 200), (1, 201), (1, 1)] (by decide +kernel)) rfl rfl (by decide +kernel) ⟨by decide, by decide⟩
set_option maxRecDepth 100000 in
set_option maxHeartbeats 4000000 in
theorem ca_X5_refusalOfPlace_352 (l : Launch) : nk_CallOk l { frames := 1, cells := 0, slots := 0, locals := 21 } RX5 cX5_refusalOfPlace 4 false 352 (1, 4, 0, 0, ev_X3_isMissing) := nk_callV (x := 88) (n := 0) (ci := 3) (r := (RX3, TX3, 2)) (mt_X3_isMissing l) rfl (nk_msc [(1, 218), (1, 219), (1, 220), (1, 221), (1, 5)] (by decide +kernel)) rfl rfl (by decide +kernel) ⟨by decide, by decide⟩
set_option maxRecDepth 100000 in
set_option maxHeartbeats 4000000 in
theorem ca_X5_refusalOfPlace_368 (l : Launch) : nk_CallOk l { frames := 1, cells := 0, slots := 0, locals := 21 } RX5 cX5_refusalOfPlace 4 false 368 (2, 6, 0, 0, ev_X5_found) := nk_callV (x := 92) (n := 1) (ci := 5) (r := (RX5, TX5, 13)) (mt_X5_found l) rfl (nk_msc [(1, 202), (1, 203), (1, 204), (1, 205), (0, 1), (1, 1)] (by decide +kernel)) rfl rfl (by decide +kernel) ⟨by decide, by decide⟩
set_option maxRecDepth 100000 in
set_option maxHeartbeats 4000000 in
theorem mt_X5_refusalOfPlace (l : Launch) : nk_Met l yX5_refusalOfPlace cX5_refusalOfPlace 4 (some .int) { frames := 1, cells := 0, slots := 0, locals := 21 } false 0 0 ev_X5_refusalOfPlace :=
  nk_met nk_gok (plainFor_of_name (by decide)) ck_X5_refusalOfPlace (nk_top_out 49 kt_X5_refusalOfPlace) ⟨List.forall_mem_cons.mpr ⟨nk_fkc [(1, 129)] (by decide +kernel), fun _ h => absurd h List.not_mem_nil⟩, List.forall_mem_cons.mpr ⟨ca_X5_refusalOfPlace_338 l, List.forall_mem_cons.mpr ⟨ca_X5_refusalOfPlace_352 l, List.forall_mem_cons.mpr ⟨ca_X5_refusalOfPlace_368 l, fun _ h => absurd h List.not_mem_nil⟩⟩⟩, fun _ h => absurd h List.not_mem_nil, fun _ h => absurd h List.not_mem_nil, fun _ h => absurd h List.not_mem_nil, fun _ h => absurd h List.not_mem_nil, fun _ h => absurd h List.not_mem_nil, by decide, rfl, rfl⟩ rfl (by decide)
/-! MarbleLaw.lay(III)I -/
noncomputable def kt_X5_lay : Nat → Option nk_I := fun pc => bif Nat.ble pc 25 then ((fun pc => bif Nat.ble pc 10 then ((fun pc => bif Nat.ble pc 2 then ((fun pc => bif Nat.ble pc 0 then (bif Nat.beq pc 0 then some (.aload_n 0, 1, 1, [], 0) else none)
  else (bif Nat.ble pc 1 then (bif Nat.beq pc 1 then some (.aload_n 0, 1, 2, [], 0) else none)
  else (bif Nat.beq pc 2 then some (.getfield 11, 3, 5, [], 0) else none))) : nk_F) pc
  else ((fun pc => bif Nat.ble pc 6 then (bif Nat.ble pc 5 then (bif Nat.beq pc 5 then some (.iload_n 1, 1, 6, [], 0) else none)
  else (bif Nat.beq pc 6 then some (.iload_n 2, 1, 7, [], 0) else none))
  else (bif Nat.ble pc 7 then (bif Nat.beq pc 7 then some (.invokevirtual 77, 3, 10, [], 0) else none)
  else (bif Nat.beq pc 10 then some (.istore 4, 2, 12, [], 0) else none))) : nk_F) pc) : nk_F) pc
  else ((fun pc => bif Nat.ble pc 19 then ((fun pc => bif Nat.ble pc 14 then (bif Nat.ble pc 12 then (bif Nat.beq pc 12 then some (.iload 4, 2, 14, [], 0) else none)
  else (bif Nat.beq pc 14 then some (.ifCond .eq 6, 3, 17, [20], 0) else none))
  else (bif Nat.ble pc 17 then (bif Nat.beq pc 17 then some (.iload 4, 2, 19, [], 0) else none)
  else (bif Nat.beq pc 19 then some (.ireturn, 1, 20, [], 0) else none))) : nk_F) pc
  else ((fun pc => bif Nat.ble pc 21 then (bif Nat.ble pc 20 then (bif Nat.beq pc 20 then some (.aload_n 0, 1, 21, [], 0) else none)
  else (bif Nat.beq pc 21 then some (.aload_n 0, 1, 22, [], 0) else none))
  else (bif Nat.ble pc 22 then (bif Nat.beq pc 22 then some (.getfield 11, 3, 25, [], 0) else none)
  else (bif Nat.beq pc 25 then some (.iload_n 1, 1, 26, [], 0) else none))) : nk_F) pc) : nk_F) pc) : nk_F) pc
  else ((fun pc => bif Nat.ble pc 36 then ((fun pc => bif Nat.ble pc 30 then ((fun pc => bif Nat.ble pc 26 then (bif Nat.beq pc 26 then some (.aaload, 1, 27, [], 0) else none)
  else (bif Nat.ble pc 27 then (bif Nat.beq pc 27 then some (.getfield 81, 3, 30, [], 0) else none)
  else (bif Nat.beq pc 30 then some (.iload_n 2, 1, 31, [], 0) else none))) : nk_F) pc
  else ((fun pc => bif Nat.ble pc 32 then (bif Nat.ble pc 31 then (bif Nat.beq pc 31 then some (.iaload, 1, 32, [], 0) else none)
  else (bif Nat.beq pc 32 then some (.putfield 61, 3, 35, [], 0) else none))
  else (bif Nat.ble pc 35 then (bif Nat.beq pc 35 then some (.aload_n 0, 1, 36, [], 0) else none)
  else (bif Nat.beq pc 36 then some (.getfield 11, 3, 39, [], 0) else none))) : nk_F) pc) : nk_F) pc
  else ((fun pc => bif Nat.ble pc 44 then ((fun pc => bif Nat.ble pc 40 then (bif Nat.ble pc 39 then (bif Nat.beq pc 39 then some (.iload_n 1, 1, 40, [], 0) else none)
  else (bif Nat.beq pc 40 then some (.aaload, 1, 41, [], 0) else none))
  else (bif Nat.ble pc 41 then (bif Nat.beq pc 41 then some (.getfield 81, 3, 44, [], 0) else none)
  else (bif Nat.beq pc 44 then some (.iload_n 2, 1, 45, [], 0) else none))) : nk_F) pc
  else ((fun pc => bif Nat.ble pc 46 then (bif Nat.ble pc 45 then (bif Nat.beq pc 45 then some (.iload_n 3, 1, 46, [], 0) else none)
  else (bif Nat.beq pc 46 then some (.iastore, 1, 47, [], 0) else none))
  else (bif Nat.ble pc 47 then (bif Nat.beq pc 47 then some (.iconst 1, 1, 48, [], 1) else none)
  else (bif Nat.beq pc 48 then some (.ireturn, 1, 49, [], 0) else none))) : nk_F) pc) : nk_F) pc) : nk_F) pc
noncomputable def kc_X5_lay : Nat → Option nk_I := nk_top 49 kt_X5_lay
noncomputable def kx_X5_lay : nk_T := ([(11, 5, 0, 4), (81, 3, 0, 5), (61, 5, 10, 0)], [(308, 4, 6, 0, 0, ev_X5_refusalOfPlace)], [], [], [], [], [], 1, false, 0, 0)
noncomputable def ev_X5_lay : nk_Ev := fun as h Q => nk_if (Nat.ble (nk_wd as) 5) (nk_ev kx_X5_lay kc_X5_lay 5 as h Q)
set_option maxRecDepth 100000 in
theorem ck_X5_lay : nk_chk cX5_lay kc_X5_lay 49 = true := nd_chk (by decide +kernel) (by decide +kernel)
set_option maxRecDepth 100000 in
set_option maxHeartbeats 4000000 in
theorem ca_X5_lay_308 (l : Launch) : nk_CallOk l { frames := 2, cells := 0, slots := 0, locals := 44 } RX5 cX5_lay 5 false 308 (4, 6, 0, 0, ev_X5_refusalOfPlace) := nk_callV (x := 77) (n := 3) (ci := 5) (r := (RX5, TX5, 13)) (mt_X5_refusalOfPlace l) rfl (nk_msc [(1, 214), (1, 215), (1, 216), (1, 217), (0, 2), (1, 1)] (by decide +kernel)) rfl rfl (by decide +kernel) ⟨by decide, by decide⟩
set_option maxRecDepth 100000 in
set_option maxHeartbeats 4000000 in
theorem mt_X5_lay (l : Launch) : nk_Met l yX5_lay cX5_lay 5 (some .int) { frames := 2, cells := 0, slots := 0, locals := 44 } false 0 0 ev_X5_lay :=
  nk_met nk_gok (plainFor_of_name (by decide)) ck_X5_lay (nk_top_out 49 kt_X5_lay) ⟨List.forall_mem_cons.mpr ⟨nk_fkc [(1, 151)] (by decide +kernel), List.forall_mem_cons.mpr ⟨nk_fkc [(1, 126)] (by decide +kernel), List.forall_mem_cons.mpr ⟨nk_fkc [(1, 161)] (by decide +kernel), fun _ h => absurd h List.not_mem_nil⟩⟩⟩, List.forall_mem_cons.mpr ⟨ca_X5_lay_308 l, fun _ h => absurd h List.not_mem_nil⟩, fun _ h => absurd h List.not_mem_nil, fun _ h => absurd h List.not_mem_nil, fun _ h => absurd h List.not_mem_nil, fun _ h => absurd h List.not_mem_nil, fun _ h => absurd h List.not_mem_nil, by decide, rfl, rfl⟩ rfl (by decide)
/-! MarbleLaw.at(II)I -/
noncomputable def kt_X5_at : Nat → Option nk_I := fun pc => bif Nat.ble pc 16 then ((fun pc => bif Nat.ble pc 6 then ((fun pc => bif Nat.ble pc 1 then (bif Nat.ble pc 0 then (bif Nat.beq pc 0 then some (.aload_n 0, 1, 1, [], 0) else none)
  else (bif Nat.beq pc 1 then some (.aload_n 0, 1, 2, [], 0) else none))
  else ((fun pc => bif Nat.ble pc 2 then (bif Nat.beq pc 2 then some (.getfield 11, 3, 5, [], 0) else none)
  else (bif Nat.ble pc 5 then (bif Nat.beq pc 5 then some (.iload_n 1, 1, 6, [], 0) else none)
  else (bif Nat.beq pc 6 then some (.iload_n 2, 1, 7, [], 0) else none))) : nk_F) pc) : nk_F) pc
  else ((fun pc => bif Nat.ble pc 11 then ((fun pc => bif Nat.ble pc 7 then (bif Nat.beq pc 7 then some (.invokevirtual 77, 3, 10, [], 0) else none)
  else (bif Nat.ble pc 10 then (bif Nat.beq pc 10 then some (.istore_n 3, 1, 11, [], 0) else none)
  else (bif Nat.beq pc 11 then some (.iload_n 3, 1, 12, [], 0) else none))) : nk_F) pc
  else ((fun pc => bif Nat.ble pc 12 then (bif Nat.beq pc 12 then some (.ifCond .eq 5, 3, 15, [17], 0) else none)
  else (bif Nat.ble pc 15 then (bif Nat.beq pc 15 then some (.iload_n 3, 1, 16, [], 0) else none)
  else (bif Nat.beq pc 16 then some (.ireturn, 1, 17, [], 0) else none))) : nk_F) pc) : nk_F) pc) : nk_F) pc
  else ((fun pc => bif Nat.ble pc 23 then ((fun pc => bif Nat.ble pc 18 then (bif Nat.ble pc 17 then (bif Nat.beq pc 17 then some (.aload_n 0, 1, 18, [], 0) else none)
  else (bif Nat.beq pc 18 then some (.aload_n 0, 1, 19, [], 0) else none))
  else ((fun pc => bif Nat.ble pc 19 then (bif Nat.beq pc 19 then some (.getfield 11, 3, 22, [], 0) else none)
  else (bif Nat.ble pc 22 then (bif Nat.beq pc 22 then some (.iload_n 1, 1, 23, [], 0) else none)
  else (bif Nat.beq pc 23 then some (.aaload, 1, 24, [], 0) else none))) : nk_F) pc) : nk_F) pc
  else ((fun pc => bif Nat.ble pc 28 then ((fun pc => bif Nat.ble pc 24 then (bif Nat.beq pc 24 then some (.getfield 81, 3, 27, [], 0) else none)
  else (bif Nat.ble pc 27 then (bif Nat.beq pc 27 then some (.iload_n 2, 1, 28, [], 0) else none)
  else (bif Nat.beq pc 28 then some (.iaload, 1, 29, [], 0) else none))) : nk_F) pc
  else ((fun pc => bif Nat.ble pc 29 then (bif Nat.beq pc 29 then some (.putfield 61, 3, 32, [], 0) else none)
  else (bif Nat.ble pc 32 then (bif Nat.beq pc 32 then some (.iconst 1, 1, 33, [], 1) else none)
  else (bif Nat.beq pc 33 then some (.ireturn, 1, 34, [], 0) else none))) : nk_F) pc) : nk_F) pc) : nk_F) pc
noncomputable def kc_X5_at : Nat → Option nk_I := nk_top 34 kt_X5_at
noncomputable def kx_X5_at : nk_T := ([(11, 5, 0, 4), (81, 3, 0, 5), (61, 5, 10, 0)], [(308, 4, 6, 0, 0, ev_X5_refusalOfPlace)], [], [], [], [], [], 1, false, 0, 0)
noncomputable def ev_X5_at : nk_Ev := fun as h Q => nk_if (Nat.ble (nk_wd as) 4) (nk_ev kx_X5_at kc_X5_at 4 as h Q)
set_option maxRecDepth 100000 in
theorem ck_X5_at : nk_chk cX5_at kc_X5_at 34 = true := nd_chk (by decide +kernel) (by decide +kernel)
set_option maxRecDepth 100000 in
set_option maxHeartbeats 4000000 in
theorem ca_X5_at_308 (l : Launch) : nk_CallOk l { frames := 2, cells := 0, slots := 0, locals := 44 } RX5 cX5_at 4 false 308 (4, 6, 0, 0, ev_X5_refusalOfPlace) := nk_callV (x := 77) (n := 3) (ci := 5) (r := (RX5, TX5, 13)) (mt_X5_refusalOfPlace l) rfl (nk_msc [(1, 214), (1, 215), (1, 216), (1, 217), (0, 2), (1, 1)] (by decide +kernel)) rfl rfl (by decide +kernel) ⟨by decide, by decide⟩
set_option maxRecDepth 100000 in
set_option maxHeartbeats 4000000 in
theorem mt_X5_at (l : Launch) : nk_Met l yX5_at cX5_at 4 (some .int) { frames := 2, cells := 0, slots := 0, locals := 44 } false 0 0 ev_X5_at :=
  nk_met nk_gok (plainFor_of_name (by decide)) ck_X5_at (nk_top_out 34 kt_X5_at) ⟨List.forall_mem_cons.mpr ⟨nk_fkc [(1, 151)] (by decide +kernel), List.forall_mem_cons.mpr ⟨nk_fkc [(1, 126)] (by decide +kernel), List.forall_mem_cons.mpr ⟨nk_fkc [(1, 161)] (by decide +kernel), fun _ h => absurd h List.not_mem_nil⟩⟩⟩, List.forall_mem_cons.mpr ⟨ca_X5_at_308 l, fun _ h => absurd h List.not_mem_nil⟩, fun _ h => absurd h List.not_mem_nil, fun _ h => absurd h List.not_mem_nil, fun _ h => absurd h List.not_mem_nil, fun _ h => absurd h List.not_mem_nil, fun _ h => absurd h List.not_mem_nil, by decide, rfl, rfl⟩ rfl (by decide)
