/-! MarbleLaw$Course.<init>(LMarbleLaw$Tale;)V -/
noncomputable def kt_X0_init : Nat → Option nk_I := fun pc => bif Nat.ble pc 51 then ((fun pc => bif Nat.ble pc 24 then ((fun pc => bif Nat.ble pc 11 then ((fun pc => bif Nat.ble pc 4 then ((fun pc => bif Nat.ble pc 0 then (bif Nat.beq pc 0 then some (.aload_n 0, 1, 1, [], 0) else none)
  else (bif Nat.ble pc 1 then (bif Nat.beq pc 1 then some (.invokespecial 3, 3, 4, [], 0) else none)
  else (bif Nat.beq pc 4 then some (.aload_n 0, 1, 5, [], 0) else none))) : nk_F) pc
  else ((fun pc => bif Nat.ble pc 6 then (bif Nat.ble pc 5 then (bif Nat.beq pc 5 then some (.iconst 5, 1, 6, [], 5) else none)
  else (bif Nat.beq pc 6 then some (.newarray .int, 2, 8, [], 0) else none))
  else (bif Nat.ble pc 8 then (bif Nat.beq pc 8 then some (.putfield 11, 3, 11, [], 0) else none)
  else (bif Nat.beq pc 11 then some (.aload_n 0, 1, 12, [], 0) else none))) : nk_F) pc) : nk_F) pc
  else ((fun pc => bif Nat.ble pc 16 then ((fun pc => bif Nat.ble pc 12 then (bif Nat.beq pc 12 then some (.iconst 0, 1, 13, [], 0) else none)
  else (bif Nat.ble pc 13 then (bif Nat.beq pc 13 then some (.putfield 17, 3, 16, [], 0) else none)
  else (bif Nat.beq pc 16 then some (.aload_n 0, 1, 17, [], 0) else none))) : nk_F) pc
  else ((fun pc => bif Nat.ble pc 19 then (bif Nat.ble pc 17 then (bif Nat.beq pc 17 then some (.bipush 16, 2, 19, [], 16) else none)
  else (bif Nat.beq pc 19 then some (.newarray .int, 2, 21, [], 0) else none))
  else (bif Nat.ble pc 21 then (bif Nat.beq pc 21 then some (.putfield 21, 3, 24, [], 0) else none)
  else (bif Nat.beq pc 24 then some (.aload_n 0, 1, 25, [], 0) else none))) : nk_F) pc) : nk_F) pc) : nk_F) pc
  else ((fun pc => bif Nat.ble pc 37 then ((fun pc => bif Nat.ble pc 29 then ((fun pc => bif Nat.ble pc 25 then (bif Nat.beq pc 25 then some (.bipush 16, 2, 27, [], 16) else none)
  else (bif Nat.ble pc 27 then (bif Nat.beq pc 27 then some (.newarray .int, 2, 29, [], 0) else none)
  else (bif Nat.beq pc 29 then some (.putfield 24, 3, 32, [], 0) else none))) : nk_F) pc
  else ((fun pc => bif Nat.ble pc 33 then (bif Nat.ble pc 32 then (bif Nat.beq pc 32 then some (.aload_n 0, 1, 33, [], 0) else none)
  else (bif Nat.beq pc 33 then some (.bipush 16, 2, 35, [], 16) else none))
  else (bif Nat.ble pc 35 then (bif Nat.beq pc 35 then some (.newarray .int, 2, 37, [], 0) else none)
  else (bif Nat.beq pc 37 then some (.putfield 27, 3, 40, [], 0) else none))) : nk_F) pc) : nk_F) pc
  else ((fun pc => bif Nat.ble pc 43 then ((fun pc => bif Nat.ble pc 40 then (bif Nat.beq pc 40 then some (.aload_n 0, 1, 41, [], 0) else none)
  else (bif Nat.ble pc 41 then (bif Nat.beq pc 41 then some (.bipush 16, 2, 43, [], 16) else none)
  else (bif Nat.beq pc 43 then some (.newarray .int, 2, 45, [], 0) else none))) : nk_F) pc
  else ((fun pc => bif Nat.ble pc 48 then (bif Nat.ble pc 45 then (bif Nat.beq pc 45 then some (.putfield 30, 3, 48, [], 0) else none)
  else (bif Nat.beq pc 48 then some (.aload_n 0, 1, 49, [], 0) else none))
  else (bif Nat.ble pc 49 then (bif Nat.beq pc 49 then some (.bipush 16, 2, 51, [], 16) else none)
  else (bif Nat.beq pc 51 then some (.newarray .int, 2, 53, [], 0) else none))) : nk_F) pc) : nk_F) pc) : nk_F) pc) : nk_F) pc
  else ((fun pc => bif Nat.ble pc 78 then ((fun pc => bif Nat.ble pc 65 then ((fun pc => bif Nat.ble pc 57 then ((fun pc => bif Nat.ble pc 53 then (bif Nat.beq pc 53 then some (.putfield 33, 3, 56, [], 0) else none)
  else (bif Nat.ble pc 56 then (bif Nat.beq pc 56 then some (.aload_n 0, 1, 57, [], 0) else none)
  else (bif Nat.beq pc 57 then some (.bipush 96, 2, 59, [], 96) else none))) : nk_F) pc
  else ((fun pc => bif Nat.ble pc 61 then (bif Nat.ble pc 59 then (bif Nat.beq pc 59 then some (.newarray .int, 2, 61, [], 0) else none)
  else (bif Nat.beq pc 61 then some (.putfield 36, 3, 64, [], 0) else none))
  else (bif Nat.ble pc 64 then (bif Nat.beq pc 64 then some (.aload_n 0, 1, 65, [], 0) else none)
  else (bif Nat.beq pc 65 then some (.bipush 6, 2, 67, [], 6) else none))) : nk_F) pc) : nk_F) pc
  else ((fun pc => bif Nat.ble pc 72 then ((fun pc => bif Nat.ble pc 67 then (bif Nat.beq pc 67 then some (.newarray .long, 2, 69, [], 0) else none)
  else (bif Nat.ble pc 69 then (bif Nat.beq pc 69 then some (.putfield 39, 3, 72, [], 0) else none)
  else (bif Nat.beq pc 72 then some (.aload_n 0, 1, 73, [], 0) else none))) : nk_F) pc
  else ((fun pc => bif Nat.ble pc 74 then (bif Nat.ble pc 73 then (bif Nat.beq pc 73 then some (.iconst 0, 1, 74, [], 0) else none)
  else (bif Nat.beq pc 74 then some (.putfield 43, 3, 77, [], 0) else none))
  else (bif Nat.ble pc 77 then (bif Nat.beq pc 77 then some (.aload_n 0, 1, 78, [], 0) else none)
  else (bif Nat.beq pc 78 then some (.iconst 0, 1, 79, [], 0) else none))) : nk_F) pc) : nk_F) pc) : nk_F) pc
  else ((fun pc => bif Nat.ble pc 89 then ((fun pc => bif Nat.ble pc 83 then ((fun pc => bif Nat.ble pc 79 then (bif Nat.beq pc 79 then some (.putfield 47, 3, 82, [], 0) else none)
  else (bif Nat.ble pc 82 then (bif Nat.beq pc 82 then some (.aload_n 0, 1, 83, [], 0) else none)
  else (bif Nat.beq pc 83 then some (.iconst (-1), 1, 84, [], (-1)) else none))) : nk_F) pc
  else ((fun pc => bif Nat.ble pc 87 then (bif Nat.ble pc 84 then (bif Nat.beq pc 84 then some (.putfield 50, 3, 87, [], 0) else none)
  else (bif Nat.beq pc 87 then some (.aload_n 0, 1, 88, [], 0) else none))
  else (bif Nat.ble pc 88 then (bif Nat.beq pc 88 then some (.iconst 0, 1, 89, [], 0) else none)
  else (bif Nat.beq pc 89 then some (.putfield 53, 3, 92, [], 0) else none))) : nk_F) pc) : nk_F) pc
  else ((fun pc => bif Nat.ble pc 94 then ((fun pc => bif Nat.ble pc 92 then (bif Nat.beq pc 92 then some (.aload_n 0, 1, 93, [], 0) else none)
  else (bif Nat.ble pc 93 then (bif Nat.beq pc 93 then some (.iconst 0, 1, 94, [], 0) else none)
  else (bif Nat.beq pc 94 then some (.putfield 56, 3, 97, [], 0) else none))) : nk_F) pc
  else ((fun pc => bif Nat.ble pc 98 then (bif Nat.ble pc 97 then (bif Nat.beq pc 97 then some (.aload_n 0, 1, 98, [], 0) else none)
  else (bif Nat.beq pc 98 then some (.aload_n 1, 1, 99, [], 0) else none))
  else (bif Nat.ble pc 99 then (bif Nat.beq pc 99 then some (.putfield 59, 3, 102, [], 0) else none)
  else (bif Nat.beq pc 102 then some (.return_, 1, 103, [], 0) else none))) : nk_F) pc) : nk_F) pc) : nk_F) pc) : nk_F) pc
noncomputable def kc_X0_init : Nat → Option nk_I := nk_top 103 kt_X0_init
noncomputable def kx_X0_init : nk_T := ([(11, 0, 1, 4), (17, 0, 2, 0), (21, 0, 3, 4), (24, 0, 4, 4), (27, 0, 5, 4), (30, 0, 6, 4), (33, 0, 7, 4), (36, 0, 8, 4), (39, 0, 9, 4), (43, 0, 10, 1), (47, 0, 11, 0), (50, 0, 12, 0), (53, 0, 13, 0), (56, 0, 14, 0), (59, 0, 0, 4)], [(13, 1, 1, 0, 0, fun _ h K => K none h)], [], [], [], [], [], 0, true, 8, 187)
noncomputable def ev_X0_init : nk_Ev := fun as h Q => nk_if (Nat.ble (nk_wd as) 2) (nk_ev kx_X0_init kc_X0_init 2 as h Q)
set_option maxRecDepth 100000 in
theorem ck_X0_init : nk_chk cX0_init kc_X0_init 103 = true := nd_chk (by decide +kernel) (by decide +kernel)
set_option maxRecDepth 100000 in
set_option maxHeartbeats 4000000 in
theorem ca_X0_init_13 (l : Launch) : nk_CallOk l { frames := 1, cells := 8, slots := 187, locals := 20 } RX0 cX0_init 2 true 13 (1, 1, 0, 0, fun _ h K => K none h) := nk_callO (x := 3) (nk_mc [(1, 59), (1, 17), (1, 18)] (by decide +kernel)) (nk_mc [(1, 59), (1, 17), (1, 18)] (by decide +kernel)) (nk_mc [(1, 59), (1, 17), (1, 18)] (by decide +kernel)) ⟨by decide, by decide⟩
set_option maxRecDepth 100000 in
set_option maxHeartbeats 4000000 in
theorem mt_X0_init (l : Launch) : nk_Met l yX0_init cX0_init 2 none { frames := 1, cells := 8, slots := 187, locals := 20 } true 8 187 ev_X0_init :=
  nk_met nk_gok (plainFor_of_name (by decide)) ck_X0_init (nk_top_out 103 kt_X0_init) ⟨List.forall_mem_cons.mpr ⟨nk_fkc [(1, 61)] (by decide +kernel), List.forall_mem_cons.mpr ⟨nk_fkc [(1, 62)] (by decide +kernel), List.forall_mem_cons.mpr ⟨nk_fkc [(1, 63)] (by decide +kernel), List.forall_mem_cons.mpr ⟨nk_fkc [(1, 65)] (by decide +kernel), List.forall_mem_cons.mpr ⟨nk_fkc [(1, 67)] (by decide +kernel), List.forall_mem_cons.mpr ⟨nk_fkc [(1, 69)] (by decide +kernel), List.forall_mem_cons.mpr ⟨nk_fkc [(1, 71)] (by decide +kernel), List.forall_mem_cons.mpr ⟨nk_fkc [(1, 73)] (by decide +kernel), List.forall_mem_cons.mpr ⟨nk_fkc [(1, 74)] (by decide +kernel), List.forall_mem_cons.mpr ⟨nk_fkc [(1, 75)] (by decide +kernel), List.forall_mem_cons.mpr ⟨nk_fkc [(1, 77)] (by decide +kernel), List.forall_mem_cons.mpr ⟨nk_fkc [(1, 79)] (by decide +kernel), List.forall_mem_cons.mpr ⟨nk_fkc [(1, 81)] (by decide +kernel), List.forall_mem_cons.mpr ⟨nk_fkc [(1, 83)] (by decide +kernel), List.forall_mem_cons.mpr ⟨nk_fkc [(1, 60)] (by decide +kernel), fun _ h => absurd h List.not_mem_nil⟩⟩⟩⟩⟩⟩⟩⟩⟩⟩⟩⟩⟩⟩⟩, List.forall_mem_cons.mpr ⟨ca_X0_init_13 l, fun _ h => absurd h List.not_mem_nil⟩, fun _ h => absurd h List.not_mem_nil, fun _ h => absurd h List.not_mem_nil, fun _ h => absurd h List.not_mem_nil, fun _ h => absurd h List.not_mem_nil, fun _ h => absurd h List.not_mem_nil, by decide, rfl, rfl⟩ rfl (by decide)
/-! MarbleLaw$Tale.ofStuff(II)I -/
noncomputable def kt_X4_ofStuff : Nat → Option nk_I := fun pc => bif Nat.ble pc 5 then ((fun pc => bif Nat.ble pc 1 then (bif Nat.ble pc 0 then (bif Nat.beq pc 0 then some (.aload_n 0, 1, 1, [], 0) else none)
  else (bif Nat.beq pc 1 then some (.getfield 9, 3, 4, [], 0) else none))
  else (bif Nat.ble pc 4 then (bif Nat.beq pc 4 then some (.iload_n 1, 1, 5, [], 0) else none)
  else (bif Nat.beq pc 5 then some (.iconst 5, 1, 6, [], 5) else none))) : nk_F) pc
  else ((fun pc => bif Nat.ble pc 7 then (bif Nat.ble pc 6 then (bif Nat.beq pc 6 then some (.imul, 1, 7, [], 0) else none)
  else (bif Nat.beq pc 7 then some (.iload_n 2, 1, 8, [], 0) else none))
  else ((fun pc => bif Nat.ble pc 8 then (bif Nat.beq pc 8 then some (.iadd, 1, 9, [], 0) else none)
  else (bif Nat.ble pc 9 then (bif Nat.beq pc 9 then some (.iaload, 1, 10, [], 0) else none)
  else (bif Nat.beq pc 10 then some (.ireturn, 1, 11, [], 0) else none))) : nk_F) pc) : nk_F) pc
noncomputable def kc_X4_ofStuff : Nat → Option nk_I := nk_top 11 kt_X4_ofStuff
noncomputable def kx_X4_ofStuff : nk_T := ([(9, 4, 0, 4)], [], [], [], [], [], [], 1, false, 0, 0)
noncomputable def ev_X4_ofStuff : nk_Ev := fun as h Q => nk_if (Nat.ble (nk_wd as) 3) (nk_ev kx_X4_ofStuff kc_X4_ofStuff 3 as h Q)
set_option maxRecDepth 100000 in
theorem ck_X4_ofStuff : nk_chk cX4_ofStuff kc_X4_ofStuff 11 = true := nd_chk (by decide +kernel) (by decide +kernel)
set_option maxRecDepth 100000 in
set_option maxHeartbeats 4000000 in
theorem mt_X4_ofStuff (l : Launch) : nk_Met l yX4_ofStuff cX4_ofStuff 3 (some .int) { frames := 0, cells := 0, slots := 0, locals := 0 } false 0 0 ev_X4_ofStuff :=
  nk_met nk_gok (plainFor_of_name (by decide)) ck_X4_ofStuff (nk_top_out 11 kt_X4_ofStuff) ⟨List.forall_mem_cons.mpr ⟨nk_fkc [(1, 27)] (by decide +kernel), fun _ h => absurd h List.not_mem_nil⟩, fun _ h => absurd h List.not_mem_nil, fun _ h => absurd h List.not_mem_nil, fun _ h => absurd h List.not_mem_nil, fun _ h => absurd h List.not_mem_nil, fun _ h => absurd h List.not_mem_nil, fun _ h => absurd h List.not_mem_nil, by decide, rfl, rfl⟩ rfl (by decide)
/-! MarbleLaw$Course.giveAll(II)V -/
noncomputable def kt_X0_giveAll : Nat → Option nk_I := fun pc => bif Nat.ble pc 18 then ((fun pc => bif Nat.ble pc 8 then ((fun pc => bif Nat.ble pc 2 then ((fun pc => bif Nat.ble pc 0 then (bif Nat.beq pc 0 then some (.iconst 0, 1, 1, [], 0) else none)
  else (bif Nat.ble pc 1 then (bif Nat.beq pc 1 then some (.istore_n 3, 1, 2, [], 0) else none)
  else (bif Nat.beq pc 2 then some (.iload_n 3, 1, 3, [], 0) else none))) : nk_F) pc
  else ((fun pc => bif Nat.ble pc 3 then (bif Nat.beq pc 3 then some (.bipush 6, 2, 5, [], 6) else none)
  else (bif Nat.ble pc 5 then (bif Nat.beq pc 5 then some (.if_icmp .ge 30, 3, 8, [35], 0) else none)
  else (bif Nat.beq pc 8 then some (.aload_n 0, 1, 9, [], 0) else none))) : nk_F) pc) : nk_F) pc
  else ((fun pc => bif Nat.ble pc 13 then ((fun pc => bif Nat.ble pc 9 then (bif Nat.beq pc 9 then some (.getfield 36, 3, 12, [], 0) else none)
  else (bif Nat.ble pc 12 then (bif Nat.beq pc 12 then some (.iload_n 1, 1, 13, [], 0) else none)
  else (bif Nat.beq pc 13 then some (.bipush 6, 2, 15, [], 6) else none))) : nk_F) pc
  else ((fun pc => bif Nat.ble pc 16 then (bif Nat.ble pc 15 then (bif Nat.beq pc 15 then some (.imul, 1, 16, [], 0) else none)
  else (bif Nat.beq pc 16 then some (.iload_n 3, 1, 17, [], 0) else none))
  else (bif Nat.ble pc 17 then (bif Nat.beq pc 17 then some (.iadd, 1, 18, [], 0) else none)
  else (bif Nat.beq pc 18 then some (.iload_n 3, 1, 19, [], 0) else none))) : nk_F) pc) : nk_F) pc) : nk_F) pc
  else ((fun pc => bif Nat.ble pc 29 then ((fun pc => bif Nat.ble pc 23 then ((fun pc => bif Nat.ble pc 19 then (bif Nat.beq pc 19 then some (.iload_n 2, 1, 20, [], 0) else none)
  else (bif Nat.ble pc 20 then (bif Nat.beq pc 20 then some (.if_icmp .ne 7, 3, 23, [27], 0) else none)
  else (bif Nat.beq pc 23 then some (.iconst 1, 1, 24, [], 1) else none))) : nk_F) pc
  else ((fun pc => bif Nat.ble pc 27 then (bif Nat.ble pc 24 then (bif Nat.beq pc 24 then some (.goto 4, 3, 27, [28], 0) else none)
  else (bif Nat.beq pc 27 then some (.iconst 0, 1, 28, [], 0) else none))
  else (bif Nat.ble pc 28 then (bif Nat.beq pc 28 then some (.iastore, 1, 29, [], 0) else none)
  else (bif Nat.beq pc 29 then some (.iinc 3 1, 3, 32, [], 1) else none))) : nk_F) pc) : nk_F) pc
  else ((fun pc => bif Nat.ble pc 36 then ((fun pc => bif Nat.ble pc 32 then (bif Nat.beq pc 32 then some (.goto (-30), 3, 35, [2], 0) else none)
  else (bif Nat.ble pc 35 then (bif Nat.beq pc 35 then some (.aload_n 0, 1, 36, [], 0) else none)
  else (bif Nat.beq pc 36 then some (.getfield 33, 3, 39, [], 0) else none))) : nk_F) pc
  else ((fun pc => bif Nat.ble pc 40 then (bif Nat.ble pc 39 then (bif Nat.beq pc 39 then some (.iload_n 1, 1, 40, [], 0) else none)
  else (bif Nat.beq pc 40 then some (.iconst 1, 1, 41, [], 1) else none))
  else (bif Nat.ble pc 41 then (bif Nat.beq pc 41 then some (.iastore, 1, 42, [], 0) else none)
  else (bif Nat.beq pc 42 then some (.return_, 1, 43, [], 0) else none))) : nk_F) pc) : nk_F) pc) : nk_F) pc
noncomputable def kc_X0_giveAll : Nat → Option nk_I := nk_top 43 kt_X0_giveAll
noncomputable def kx_X0_giveAll : nk_T := ([(36, 0, 8, 4), (33, 0, 7, 4)], [], [], [], [], [], [], 0, false, 0, 0)
noncomputable def ev_X0_giveAll : nk_Ev := fun as h Q => nk_if (Nat.ble (nk_wd as) 4) (nk_ev kx_X0_giveAll kc_X0_giveAll 4 as h Q)
set_option maxRecDepth 100000 in
theorem ck_X0_giveAll : nk_chk cX0_giveAll kc_X0_giveAll 43 = true := nd_chk (by decide +kernel) (by decide +kernel)
set_option maxRecDepth 100000 in
set_option maxHeartbeats 4000000 in
theorem mt_X0_giveAll (l : Launch) : nk_Met l yX0_giveAll cX0_giveAll 4 none { frames := 0, cells := 0, slots := 0, locals := 0 } false 0 0 ev_X0_giveAll :=
  nk_met nk_gok (plainFor_of_name (by decide)) ck_X0_giveAll (nk_top_out 43 kt_X0_giveAll) ⟨List.forall_mem_cons.mpr ⟨nk_fkc [(1, 73)] (by decide +kernel), List.forall_mem_cons.mpr ⟨nk_fkc [(1, 71)] (by decide +kernel), fun _ h => absurd h List.not_mem_nil⟩⟩, fun _ h => absurd h List.not_mem_nil, fun _ h => absurd h List.not_mem_nil, fun _ h => absurd h List.not_mem_nil, fun _ h => absurd h List.not_mem_nil, fun _ h => absurd h List.not_mem_nil, fun _ h => absurd h List.not_mem_nil, by decide, rfl, rfl⟩ rfl (by decide)
/-! MarbleLaw$Course.begin(II)V -/
noncomputable def kt_X0_begin : Nat → Option nk_I := fun pc => bif Nat.ble pc 65 then ((fun pc => bif Nat.ble pc 26 then ((fun pc => bif Nat.ble pc 14 then ((fun pc => bif Nat.ble pc 3 then ((fun pc => bif Nat.ble pc 1 then (bif Nat.ble pc 0 then (bif Nat.beq pc 0 then some (.iload_n 1, 1, 1, [], 0) else none)
  else (bif Nat.beq pc 1 then some (.istore_n 3, 1, 2, [], 0) else none))
  else (bif Nat.ble pc 2 then (bif Nat.beq pc 2 then some (.iconst 4, 1, 3, [], 4) else none)
  else (bif Nat.beq pc 3 then some (.istore 4, 2, 5, [], 0) else none))) : nk_F) pc
  else ((fun pc => bif Nat.ble pc 7 then (bif Nat.ble pc 5 then (bif Nat.beq pc 5 then some (.iload 4, 2, 7, [], 0) else none)
  else (bif Nat.beq pc 7 then some (.ifCond .lt 25, 3, 10, [32], 0) else none))
  else ((fun pc => bif Nat.ble pc 10 then (bif Nat.beq pc 10 then some (.aload_n 0, 1, 11, [], 0) else none)
  else (bif Nat.ble pc 11 then (bif Nat.beq pc 11 then some (.getfield 11, 3, 14, [], 0) else none)
  else (bif Nat.beq pc 14 then some (.iload 4, 2, 16, [], 0) else none))) : nk_F) pc) : nk_F) pc) : nk_F) pc
  else ((fun pc => bif Nat.ble pc 20 then ((fun pc => bif Nat.ble pc 17 then (bif Nat.ble pc 16 then (bif Nat.beq pc 16 then some (.iload_n 3, 1, 17, [], 0) else none)
  else (bif Nat.beq pc 17 then some (.bipush 10, 2, 19, [], 10) else none))
  else (bif Nat.ble pc 19 then (bif Nat.beq pc 19 then some (.irem, 1, 20, [], 0) else none)
  else (bif Nat.beq pc 20 then some (.iastore, 1, 21, [], 0) else none))) : nk_F) pc
  else ((fun pc => bif Nat.ble pc 22 then (bif Nat.ble pc 21 then (bif Nat.beq pc 21 then some (.iload_n 3, 1, 22, [], 0) else none)
  else (bif Nat.beq pc 22 then some (.bipush 10, 2, 24, [], 10) else none))
  else ((fun pc => bif Nat.ble pc 24 then (bif Nat.beq pc 24 then some (.idiv, 1, 25, [], 0) else none)
  else (bif Nat.ble pc 25 then (bif Nat.beq pc 25 then some (.istore_n 3, 1, 26, [], 0) else none)
  else (bif Nat.beq pc 26 then some (.iinc 4 (-1), 3, 29, [], (-1)) else none))) : nk_F) pc) : nk_F) pc) : nk_F) pc) : nk_F) pc
  else ((fun pc => bif Nat.ble pc 43 then ((fun pc => bif Nat.ble pc 34 then ((fun pc => bif Nat.ble pc 32 then (bif Nat.ble pc 29 then (bif Nat.beq pc 29 then some (.goto (-24), 3, 32, [5], 0) else none)
  else (bif Nat.beq pc 32 then some (.aload_n 0, 1, 33, [], 0) else none))
  else (bif Nat.ble pc 33 then (bif Nat.beq pc 33 then some (.iload_n 2, 1, 34, [], 0) else none)
  else (bif Nat.beq pc 34 then some (.putfield 17, 3, 37, [], 0) else none))) : nk_F) pc
  else ((fun pc => bif Nat.ble pc 38 then (bif Nat.ble pc 37 then (bif Nat.beq pc 37 then some (.aload_n 0, 1, 38, [], 0) else none)
  else (bif Nat.beq pc 38 then some (.iconst 0, 1, 39, [], 0) else none))
  else ((fun pc => bif Nat.ble pc 39 then (bif Nat.beq pc 39 then some (.putfield 43, 3, 42, [], 0) else none)
  else (bif Nat.ble pc 42 then (bif Nat.beq pc 42 then some (.iconst 0, 1, 43, [], 0) else none)
  else (bif Nat.beq pc 43 then some (.istore 4, 2, 45, [], 0) else none))) : nk_F) pc) : nk_F) pc) : nk_F) pc
  else ((fun pc => bif Nat.ble pc 54 then ((fun pc => bif Nat.ble pc 47 then (bif Nat.ble pc 45 then (bif Nat.beq pc 45 then some (.iload 4, 2, 47, [], 0) else none)
  else (bif Nat.beq pc 47 then some (.aload_n 0, 1, 48, [], 0) else none))
  else ((fun pc => bif Nat.ble pc 48 then (bif Nat.beq pc 48 then some (.getfield 59, 3, 51, [], 0) else none)
  else (bif Nat.ble pc 51 then (bif Nat.beq pc 51 then some (.getfield 63, 3, 54, [], 0) else none)
  else (bif Nat.beq pc 54 then some (.if_icmp .ge 85, 3, 57, [139], 0) else none))) : nk_F) pc) : nk_F) pc
  else ((fun pc => bif Nat.ble pc 58 then (bif Nat.ble pc 57 then (bif Nat.beq pc 57 then some (.aload_n 0, 1, 58, [], 0) else none)
  else (bif Nat.beq pc 58 then some (.getfield 21, 3, 61, [], 0) else none))
  else ((fun pc => bif Nat.ble pc 61 then (bif Nat.beq pc 61 then some (.iload 4, 2, 63, [], 0) else none)
  else (bif Nat.ble pc 63 then (bif Nat.beq pc 63 then some (.iload 4, 2, 65, [], 0) else none)
  else (bif Nat.beq pc 65 then some (.iastore, 1, 66, [], 0) else none))) : nk_F) pc) : nk_F) pc) : nk_F) pc) : nk_F) pc) : nk_F) pc
  else ((fun pc => bif Nat.ble pc 100 then ((fun pc => bif Nat.ble pc 82 then ((fun pc => bif Nat.ble pc 72 then ((fun pc => bif Nat.ble pc 67 then (bif Nat.ble pc 66 then (bif Nat.beq pc 66 then some (.aload_n 0, 1, 67, [], 0) else none)
  else (bif Nat.beq pc 67 then some (.getfield 24, 3, 70, [], 0) else none))
  else (bif Nat.ble pc 70 then (bif Nat.beq pc 70 then some (.iload 4, 2, 72, [], 0) else none)
  else (bif Nat.beq pc 72 then some (.aload_n 0, 1, 73, [], 0) else none))) : nk_F) pc
  else ((fun pc => bif Nat.ble pc 76 then (bif Nat.ble pc 73 then (bif Nat.beq pc 73 then some (.getfield 59, 3, 76, [], 0) else none)
  else (bif Nat.beq pc 76 then some (.iload 4, 2, 78, [], 0) else none))
  else ((fun pc => bif Nat.ble pc 78 then (bif Nat.beq pc 78 then some (.iconst 0, 1, 79, [], 0) else none)
  else (bif Nat.ble pc 79 then (bif Nat.beq pc 79 then some (.invokevirtual 68, 3, 82, [], 0) else none)
  else (bif Nat.beq pc 82 then some (.iastore, 1, 83, [], 0) else none))) : nk_F) pc) : nk_F) pc) : nk_F) pc
  else ((fun pc => bif Nat.ble pc 90 then ((fun pc => bif Nat.ble pc 84 then (bif Nat.ble pc 83 then (bif Nat.beq pc 83 then some (.aload_n 0, 1, 84, [], 0) else none)
  else (bif Nat.beq pc 84 then some (.getfield 27, 3, 87, [], 0) else none))
  else ((fun pc => bif Nat.ble pc 87 then (bif Nat.beq pc 87 then some (.iload 4, 2, 89, [], 0) else none)
  else (bif Nat.ble pc 89 then (bif Nat.beq pc 89 then some (.aload_n 0, 1, 90, [], 0) else none)
  else (bif Nat.beq pc 90 then some (.getfield 59, 3, 93, [], 0) else none))) : nk_F) pc) : nk_F) pc
  else ((fun pc => bif Nat.ble pc 95 then (bif Nat.ble pc 93 then (bif Nat.beq pc 93 then some (.iload 4, 2, 95, [], 0) else none)
  else (bif Nat.beq pc 95 then some (.iconst 1, 1, 96, [], 1) else none))
  else ((fun pc => bif Nat.ble pc 96 then (bif Nat.beq pc 96 then some (.invokevirtual 68, 3, 99, [], 0) else none)
  else (bif Nat.ble pc 99 then (bif Nat.beq pc 99 then some (.iastore, 1, 100, [], 0) else none)
  else (bif Nat.beq pc 100 then some (.aload_n 0, 1, 101, [], 0) else none))) : nk_F) pc) : nk_F) pc) : nk_F) pc) : nk_F) pc
  else ((fun pc => bif Nat.ble pc 117 then ((fun pc => bif Nat.ble pc 107 then ((fun pc => bif Nat.ble pc 104 then (bif Nat.ble pc 101 then (bif Nat.beq pc 101 then some (.getfield 30, 3, 104, [], 0) else none)
  else (bif Nat.beq pc 104 then some (.iload 4, 2, 106, [], 0) else none))
  else (bif Nat.ble pc 106 then (bif Nat.beq pc 106 then some (.aload_n 0, 1, 107, [], 0) else none)
  else (bif Nat.beq pc 107 then some (.getfield 59, 3, 110, [], 0) else none))) : nk_F) pc
  else ((fun pc => bif Nat.ble pc 112 then (bif Nat.ble pc 110 then (bif Nat.beq pc 110 then some (.iload 4, 2, 112, [], 0) else none)
  else (bif Nat.beq pc 112 then some (.iconst 2, 1, 113, [], 2) else none))
  else ((fun pc => bif Nat.ble pc 113 then (bif Nat.beq pc 113 then some (.invokevirtual 68, 3, 116, [], 0) else none)
  else (bif Nat.ble pc 116 then (bif Nat.beq pc 116 then some (.iastore, 1, 117, [], 0) else none)
  else (bif Nat.beq pc 117 then some (.aload_n 0, 1, 118, [], 0) else none))) : nk_F) pc) : nk_F) pc) : nk_F) pc
  else ((fun pc => bif Nat.ble pc 126 then ((fun pc => bif Nat.ble pc 120 then (bif Nat.ble pc 118 then (bif Nat.beq pc 118 then some (.iload 4, 2, 120, [], 0) else none)
  else (bif Nat.beq pc 120 then some (.aload_n 0, 1, 121, [], 0) else none))
  else ((fun pc => bif Nat.ble pc 121 then (bif Nat.beq pc 121 then some (.getfield 59, 3, 124, [], 0) else none)
  else (bif Nat.ble pc 124 then (bif Nat.beq pc 124 then some (.iload 4, 2, 126, [], 0) else none)
  else (bif Nat.beq pc 126 then some (.iconst 3, 1, 127, [], 3) else none))) : nk_F) pc) : nk_F) pc
  else ((fun pc => bif Nat.ble pc 130 then (bif Nat.ble pc 127 then (bif Nat.beq pc 127 then some (.invokevirtual 68, 3, 130, [], 0) else none)
  else (bif Nat.beq pc 130 then some (.invokevirtual 72, 3, 133, [], 0) else none))
  else ((fun pc => bif Nat.ble pc 133 then (bif Nat.beq pc 133 then some (.iinc 4 1, 3, 136, [], 1) else none)
  else (bif Nat.ble pc 136 then (bif Nat.beq pc 136 then some (.goto (-91), 3, 139, [45], 0) else none)
  else (bif Nat.beq pc 139 then some (.return_, 1, 140, [], 0) else none))) : nk_F) pc) : nk_F) pc) : nk_F) pc) : nk_F) pc) : nk_F) pc
noncomputable def kc_X0_begin : Nat → Option nk_I := nk_top 140 kt_X0_begin
noncomputable def kx_X0_begin : nk_T := ([(11, 0, 1, 4), (17, 0, 2, 0), (43, 0, 10, 1), (59, 0, 0, 4), (63, 4, 2, 0), (21, 0, 3, 4), (24, 0, 4, 4), (27, 0, 5, 4), (30, 0, 6, 4)], [(272, 3, 5, 0, 0, ev_X4_ofStuff), (288, 3, 1, 0, 0, ev_X0_giveAll)], [], [], [], [], [], 0, false, 0, 0)
noncomputable def ev_X0_begin : nk_Ev := fun as h Q => nk_if (Nat.ble (nk_wd as) 5) (nk_ev kx_X0_begin kc_X0_begin 5 as h Q)
set_option maxRecDepth 100000 in
theorem ck_X0_begin : nk_chk cX0_begin kc_X0_begin 140 = true := nd_chk (by decide +kernel) (by decide +kernel)
set_option maxRecDepth 100000 in
set_option maxHeartbeats 4000000 in
theorem ca_X0_begin_272 (l : Launch) : nk_CallOk l { frames := 1, cells := 0, slots := 0, locals := 23 } RX0 cX0_begin 5 false 272 (3, 5, 0, 0, ev_X4_ofStuff) := nk_callV (x := 68) (n := 2) (ci := 4) (r := (RX4, TX4, 4)) (mt_X4_ofStuff l) rfl (nk_msc [(2, 97), (2, 41), (2, 42), (2, 43), (1, 2)] (by decide +kernel)) rfl rfl (by decide +kernel) ⟨by decide, by decide⟩
set_option maxRecDepth 100000 in
set_option maxHeartbeats 4000000 in
theorem ca_X0_begin_288 (l : Launch) : nk_CallOk l { frames := 1, cells := 0, slots := 0, locals := 23 } RX0 cX0_begin 5 false 288 (3, 1, 0, 0, ev_X0_giveAll) := nk_callV (x := 72) (n := 2) (ci := 0) (r := (RX0, TX0, 15)) (mt_X0_giveAll l) rfl (nk_msc [(2, 98), (2, 99), (2, 100), (2, 101), (0, 7), (1, 4)] (by decide +kernel)) rfl rfl (by decide +kernel) ⟨by decide, by decide⟩
set_option maxRecDepth 100000 in
set_option maxHeartbeats 4000000 in
theorem mt_X0_begin (l : Launch) : nk_Met l yX0_begin cX0_begin 5 none { frames := 1, cells := 0, slots := 0, locals := 23 } false 0 0 ev_X0_begin :=
  nk_met nk_gok (plainFor_of_name (by decide)) ck_X0_begin (nk_top_out 140 kt_X0_begin) ⟨List.forall_mem_cons.mpr ⟨nk_fkc [(1, 61)] (by decide +kernel), List.forall_mem_cons.mpr ⟨nk_fkc [(1, 62)] (by decide +kernel), List.forall_mem_cons.mpr ⟨nk_fkc [(1, 75)] (by decide +kernel), List.forall_mem_cons.mpr ⟨nk_fkc [(1, 60)] (by decide +kernel), List.forall_mem_cons.mpr ⟨nk_fkc [(1, 30)] (by decide +kernel), List.forall_mem_cons.mpr ⟨nk_fkc [(1, 63)] (by decide +kernel), List.forall_mem_cons.mpr ⟨nk_fkc [(1, 65)] (by decide +kernel), List.forall_mem_cons.mpr ⟨nk_fkc [(1, 67)] (by decide +kernel), List.forall_mem_cons.mpr ⟨nk_fkc [(1, 69)] (by decide +kernel), fun _ h => absurd h List.not_mem_nil⟩⟩⟩⟩⟩⟩⟩⟩⟩, List.forall_mem_cons.mpr ⟨ca_X0_begin_272 l, List.forall_mem_cons.mpr ⟨ca_X0_begin_288 l, fun _ h => absurd h List.not_mem_nil⟩⟩, fun _ h => absurd h List.not_mem_nil, fun _ h => absurd h List.not_mem_nil, fun _ h => absurd h List.not_mem_nil, fun _ h => absurd h List.not_mem_nil, fun _ h => absurd h List.not_mem_nil, by decide, rfl, rfl⟩ rfl (by decide)
/-! MarbleLaw$Tale.ofMaking(II)I -/
noncomputable def kt_X4_ofMaking : Nat → Option nk_I := fun pc => bif Nat.ble pc 5 then ((fun pc => bif Nat.ble pc 1 then (bif Nat.ble pc 0 then (bif Nat.beq pc 0 then some (.aload_n 0, 1, 1, [], 0) else none)
  else (bif Nat.beq pc 1 then some (.getfield 15, 3, 4, [], 0) else none))
  else (bif Nat.ble pc 4 then (bif Nat.beq pc 4 then some (.iload_n 1, 1, 5, [], 0) else none)
  else (bif Nat.beq pc 5 then some (.bipush 7, 2, 7, [], 7) else none))) : nk_F) pc
  else ((fun pc => bif Nat.ble pc 8 then (bif Nat.ble pc 7 then (bif Nat.beq pc 7 then some (.imul, 1, 8, [], 0) else none)
  else (bif Nat.beq pc 8 then some (.iload_n 2, 1, 9, [], 0) else none))
  else ((fun pc => bif Nat.ble pc 9 then (bif Nat.beq pc 9 then some (.iadd, 1, 10, [], 0) else none)
  else (bif Nat.ble pc 10 then (bif Nat.beq pc 10 then some (.iaload, 1, 11, [], 0) else none)
  else (bif Nat.beq pc 11 then some (.ireturn, 1, 12, [], 0) else none))) : nk_F) pc) : nk_F) pc
noncomputable def kc_X4_ofMaking : Nat → Option nk_I := nk_top 12 kt_X4_ofMaking
noncomputable def kx_X4_ofMaking : nk_T := ([(15, 4, 1, 4)], [], [], [], [], [], [], 1, false, 0, 0)
noncomputable def ev_X4_ofMaking : nk_Ev := fun as h Q => nk_if (Nat.ble (nk_wd as) 3) (nk_ev kx_X4_ofMaking kc_X4_ofMaking 3 as h Q)
set_option maxRecDepth 100000 in
theorem ck_X4_ofMaking : nk_chk cX4_ofMaking kc_X4_ofMaking 12 = true := nd_chk (by decide +kernel) (by decide +kernel)
set_option maxRecDepth 100000 in
set_option maxHeartbeats 4000000 in
theorem mt_X4_ofMaking (l : Launch) : nk_Met l yX4_ofMaking cX4_ofMaking 3 (some .int) { frames := 0, cells := 0, slots := 0, locals := 0 } false 0 0 ev_X4_ofMaking :=
  nk_met nk_gok (plainFor_of_name (by decide)) ck_X4_ofMaking (nk_top_out 12 kt_X4_ofMaking) ⟨List.forall_mem_cons.mpr ⟨nk_fkc [(1, 28)] (by decide +kernel), fun _ h => absurd h List.not_mem_nil⟩, fun _ h => absurd h List.not_mem_nil, fun _ h => absurd h List.not_mem_nil, fun _ h => absurd h List.not_mem_nil, fun _ h => absurd h List.not_mem_nil, fun _ h => absurd h List.not_mem_nil, fun _ h => absurd h List.not_mem_nil, by decide, rfl, rfl⟩ rfl (by decide)
/-! MarbleLaw.namesTwo(I)Z -/
noncomputable def kt_X5_namesTwo : Nat → Option nk_I := fun pc => bif Nat.ble pc 7 then ((fun pc => bif Nat.ble pc 2 then ((fun pc => bif Nat.ble pc 0 then (bif Nat.beq pc 0 then some (.iload_n 0, 1, 1, [], 0) else none)
  else (bif Nat.ble pc 1 then (bif Nat.beq pc 1 then some (.iconst 2, 1, 2, [], 2) else none)
  else (bif Nat.beq pc 2 then some (.if_icmp .eq 13, 3, 5, [15], 0) else none))) : nk_F) pc
  else ((fun pc => bif Nat.ble pc 5 then (bif Nat.beq pc 5 then some (.iload_n 0, 1, 6, [], 0) else none)
  else (bif Nat.ble pc 6 then (bif Nat.beq pc 6 then some (.iconst 3, 1, 7, [], 3) else none)
  else (bif Nat.beq pc 7 then some (.if_icmp .eq 8, 3, 10, [15], 0) else none))) : nk_F) pc) : nk_F) pc
  else ((fun pc => bif Nat.ble pc 12 then ((fun pc => bif Nat.ble pc 10 then (bif Nat.beq pc 10 then some (.iload_n 0, 1, 11, [], 0) else none)
  else (bif Nat.ble pc 11 then (bif Nat.beq pc 11 then some (.iconst 5, 1, 12, [], 5) else none)
  else (bif Nat.beq pc 12 then some (.if_icmp .ne 7, 3, 15, [19], 0) else none))) : nk_F) pc
  else ((fun pc => bif Nat.ble pc 16 then (bif Nat.ble pc 15 then (bif Nat.beq pc 15 then some (.iconst 1, 1, 16, [], 1) else none)
  else (bif Nat.beq pc 16 then some (.goto 4, 3, 19, [20], 0) else none))
  else (bif Nat.ble pc 19 then (bif Nat.beq pc 19 then some (.iconst 0, 1, 20, [], 0) else none)
  else (bif Nat.beq pc 20 then some (.ireturn, 1, 21, [], 0) else none))) : nk_F) pc) : nk_F) pc
noncomputable def kc_X5_namesTwo : Nat → Option nk_I := nk_top 21 kt_X5_namesTwo
noncomputable def kx_X5_namesTwo : nk_T := ([], [], [], [], [], [], [], 2, false, 0, 0)
noncomputable def ev_X5_namesTwo : nk_Ev := fun as h Q => nk_if (Nat.ble (nk_wd as) 1) (nk_ev kx_X5_namesTwo kc_X5_namesTwo 1 as h Q)
set_option maxRecDepth 100000 in
theorem ck_X5_namesTwo : nk_chk cX5_namesTwo kc_X5_namesTwo 21 = true := nd_chk (by decide +kernel) (by decide +kernel)
set_option maxRecDepth 100000 in
set_option maxHeartbeats 4000000 in
theorem mt_X5_namesTwo (l : Launch) : nk_Met l yX5_namesTwo cX5_namesTwo 1 (some .boolean) { frames := 0, cells := 0, slots := 0, locals := 0 } false 0 0 ev_X5_namesTwo :=
  nk_met nk_gok (plainFor_of_name (by decide)) ck_X5_namesTwo (nk_top_out 21 kt_X5_namesTwo) ⟨fun _ h => absurd h List.not_mem_nil, fun _ h => absurd h List.not_mem_nil, fun _ h => absurd h List.not_mem_nil, fun _ h => absurd h List.not_mem_nil, fun _ h => absurd h List.not_mem_nil, fun _ h => absurd h List.not_mem_nil, fun _ h => absurd h List.not_mem_nil, by decide, rfl, rfl⟩ rfl (by decide)
/-! MarbleLaw$Course.meet(I)V -/
noncomputable def kt_X0_meet : Nat → Option nk_I := fun pc => bif Nat.ble pc 50 then ((fun pc => bif Nat.ble pc 23 then ((fun pc => bif Nat.ble pc 10 then ((fun pc => bif Nat.ble pc 2 then ((fun pc => bif Nat.ble pc 0 then (bif Nat.beq pc 0 then some (.aload_n 0, 1, 1, [], 0) else none)
  else (bif Nat.ble pc 1 then (bif Nat.beq pc 1 then some (.aload_n 0, 1, 2, [], 0) else none)
  else (bif Nat.beq pc 2 then some (.getfield 21, 3, 5, [], 0) else none))) : nk_F) pc
  else ((fun pc => bif Nat.ble pc 6 then (bif Nat.ble pc 5 then (bif Nat.beq pc 5 then some (.aload_n 0, 1, 6, [], 0) else none)
  else (bif Nat.beq pc 6 then some (.getfield 59, 3, 9, [], 0) else none))
  else (bif Nat.ble pc 9 then (bif Nat.beq pc 9 then some (.iload_n 1, 1, 10, [], 0) else none)
  else (bif Nat.beq pc 10 then some (.iconst 1, 1, 11, [], 1) else none))) : nk_F) pc) : nk_F) pc
  else ((fun pc => bif Nat.ble pc 15 then ((fun pc => bif Nat.ble pc 11 then (bif Nat.beq pc 11 then some (.invokevirtual 80, 3, 14, [], 0) else none)
  else (bif Nat.ble pc 14 then (bif Nat.beq pc 14 then some (.iaload, 1, 15, [], 0) else none)
  else (bif Nat.beq pc 15 then some (.putfield 47, 3, 18, [], 0) else none))) : nk_F) pc
  else ((fun pc => bif Nat.ble pc 19 then (bif Nat.ble pc 18 then (bif Nat.beq pc 18 then some (.aload_n 0, 1, 19, [], 0) else none)
  else (bif Nat.beq pc 19 then some (.aload_n 0, 1, 20, [], 0) else none))
  else (bif Nat.ble pc 20 then (bif Nat.beq pc 20 then some (.getfield 27, 3, 23, [], 0) else none)
  else (bif Nat.beq pc 23 then some (.aload_n 0, 1, 24, [], 0) else none))) : nk_F) pc) : nk_F) pc) : nk_F) pc
  else ((fun pc => bif Nat.ble pc 36 then ((fun pc => bif Nat.ble pc 28 then ((fun pc => bif Nat.ble pc 24 then (bif Nat.beq pc 24 then some (.getfield 47, 3, 27, [], 0) else none)
  else (bif Nat.ble pc 27 then (bif Nat.beq pc 27 then some (.iaload, 1, 28, [], 0) else none)
  else (bif Nat.beq pc 28 then some (.putfield 53, 3, 31, [], 0) else none))) : nk_F) pc
  else ((fun pc => bif Nat.ble pc 32 then (bif Nat.ble pc 31 then (bif Nat.beq pc 31 then some (.aload_n 0, 1, 32, [], 0) else none)
  else (bif Nat.beq pc 32 then some (.iconst (-1), 1, 33, [], (-1)) else none))
  else (bif Nat.ble pc 33 then (bif Nat.beq pc 33 then some (.putfield 50, 3, 36, [], 0) else none)
  else (bif Nat.beq pc 36 then some (.aload_n 0, 1, 37, [], 0) else none))) : nk_F) pc) : nk_F) pc
  else ((fun pc => bif Nat.ble pc 42 then ((fun pc => bif Nat.ble pc 38 then (bif Nat.ble pc 37 then (bif Nat.beq pc 37 then some (.iconst 0, 1, 38, [], 0) else none)
  else (bif Nat.beq pc 38 then some (.putfield 56, 3, 41, [], 0) else none))
  else (bif Nat.ble pc 41 then (bif Nat.beq pc 41 then some (.aload_n 0, 1, 42, [], 0) else none)
  else (bif Nat.beq pc 42 then some (.getfield 59, 3, 45, [], 0) else none))) : nk_F) pc
  else ((fun pc => bif Nat.ble pc 46 then (bif Nat.ble pc 45 then (bif Nat.beq pc 45 then some (.iload_n 1, 1, 46, [], 0) else none)
  else (bif Nat.beq pc 46 then some (.iconst 0, 1, 47, [], 0) else none))
  else (bif Nat.ble pc 47 then (bif Nat.beq pc 47 then some (.invokevirtual 80, 3, 50, [], 0) else none)
  else (bif Nat.beq pc 50 then some (.invokestatic 83, 3, 53, [], 0) else none))) : nk_F) pc) : nk_F) pc) : nk_F) pc) : nk_F) pc
  else ((fun pc => bif Nat.ble pc 79 then ((fun pc => bif Nat.ble pc 65 then ((fun pc => bif Nat.ble pc 57 then ((fun pc => bif Nat.ble pc 53 then (bif Nat.beq pc 53 then some (.ifCond .eq 55, 3, 56, [108], 0) else none)
  else (bif Nat.ble pc 56 then (bif Nat.beq pc 56 then some (.aload_n 0, 1, 57, [], 0) else none)
  else (bif Nat.beq pc 57 then some (.getfield 21, 3, 60, [], 0) else none))) : nk_F) pc
  else ((fun pc => bif Nat.ble pc 61 then (bif Nat.ble pc 60 then (bif Nat.beq pc 60 then some (.aload_n 0, 1, 61, [], 0) else none)
  else (bif Nat.beq pc 61 then some (.getfield 59, 3, 64, [], 0) else none))
  else (bif Nat.ble pc 64 then (bif Nat.beq pc 64 then some (.iload_n 1, 1, 65, [], 0) else none)
  else (bif Nat.beq pc 65 then some (.iconst 2, 1, 66, [], 2) else none))) : nk_F) pc) : nk_F) pc
  else ((fun pc => bif Nat.ble pc 71 then ((fun pc => bif Nat.ble pc 69 then (bif Nat.ble pc 66 then (bif Nat.beq pc 66 then some (.invokevirtual 80, 3, 69, [], 0) else none)
  else (bif Nat.beq pc 69 then some (.iaload, 1, 70, [], 0) else none))
  else (bif Nat.ble pc 70 then (bif Nat.beq pc 70 then some (.aload_n 0, 1, 71, [], 0) else none)
  else (bif Nat.beq pc 71 then some (.getfield 47, 3, 74, [], 0) else none))) : nk_F) pc
  else ((fun pc => bif Nat.ble pc 77 then (bif Nat.ble pc 74 then (bif Nat.beq pc 74 then some (.if_icmp .eq 34, 3, 77, [108], 0) else none)
  else (bif Nat.beq pc 77 then some (.aload_n 0, 1, 78, [], 0) else none))
  else (bif Nat.ble pc 78 then (bif Nat.beq pc 78 then some (.aload_n 0, 1, 79, [], 0) else none)
  else (bif Nat.beq pc 79 then some (.getfield 21, 3, 82, [], 0) else none))) : nk_F) pc) : nk_F) pc) : nk_F) pc
  else ((fun pc => bif Nat.ble pc 92 then ((fun pc => bif Nat.ble pc 86 then ((fun pc => bif Nat.ble pc 82 then (bif Nat.beq pc 82 then some (.aload_n 0, 1, 83, [], 0) else none)
  else (bif Nat.ble pc 83 then (bif Nat.beq pc 83 then some (.getfield 59, 3, 86, [], 0) else none)
  else (bif Nat.beq pc 86 then some (.iload_n 1, 1, 87, [], 0) else none))) : nk_F) pc
  else ((fun pc => bif Nat.ble pc 88 then (bif Nat.ble pc 87 then (bif Nat.beq pc 87 then some (.iconst 2, 1, 88, [], 2) else none)
  else (bif Nat.beq pc 88 then some (.invokevirtual 80, 3, 91, [], 0) else none))
  else (bif Nat.ble pc 91 then (bif Nat.beq pc 91 then some (.iaload, 1, 92, [], 0) else none)
  else (bif Nat.beq pc 92 then some (.putfield 50, 3, 95, [], 0) else none))) : nk_F) pc) : nk_F) pc
  else ((fun pc => bif Nat.ble pc 100 then ((fun pc => bif Nat.ble pc 96 then (bif Nat.ble pc 95 then (bif Nat.beq pc 95 then some (.aload_n 0, 1, 96, [], 0) else none)
  else (bif Nat.beq pc 96 then some (.aload_n 0, 1, 97, [], 0) else none))
  else (bif Nat.ble pc 97 then (bif Nat.beq pc 97 then some (.getfield 27, 3, 100, [], 0) else none)
  else (bif Nat.beq pc 100 then some (.aload_n 0, 1, 101, [], 0) else none))) : nk_F) pc
  else ((fun pc => bif Nat.ble pc 104 then (bif Nat.ble pc 101 then (bif Nat.beq pc 101 then some (.getfield 50, 3, 104, [], 0) else none)
  else (bif Nat.beq pc 104 then some (.iaload, 1, 105, [], 0) else none))
  else (bif Nat.ble pc 105 then (bif Nat.beq pc 105 then some (.putfield 56, 3, 108, [], 0) else none)
  else (bif Nat.beq pc 108 then some (.return_, 1, 109, [], 0) else none))) : nk_F) pc) : nk_F) pc) : nk_F) pc) : nk_F) pc
noncomputable def kc_X0_meet : Nat → Option nk_I := nk_top 109 kt_X0_meet
noncomputable def kx_X0_meet : nk_T := ([(21, 0, 3, 4), (59, 0, 0, 4), (47, 0, 11, 0), (27, 0, 5, 4), (53, 0, 13, 0), (50, 0, 12, 0), (56, 0, 14, 0)], [(320, 3, 5, 0, 0, ev_X4_ofMaking), (334, 1, 0, 0, 0, ev_X5_namesTwo)], [], [], [], [], [], 0, false, 0, 0)
noncomputable def ev_X0_meet : nk_Ev := fun as h Q => nk_if (Nat.ble (nk_wd as) 2) (nk_ev kx_X0_meet kc_X0_meet 2 as h Q)
set_option maxRecDepth 100000 in
theorem ck_X0_meet : nk_chk cX0_meet kc_X0_meet 109 = true := nd_chk (by decide +kernel) (by decide +kernel)
set_option maxRecDepth 100000 in
set_option maxHeartbeats 4000000 in
theorem ca_X0_meet_320 (l : Launch) : nk_CallOk l { frames := 1, cells := 0, slots := 0, locals := 22 } RX0 cX0_meet 2 false 320 (3, 5, 0, 0, ev_X4_ofMaking) := nk_callV (x := 80) (n := 2) (ci := 4) (r := (RX4, TX4, 4)) (mt_X4_ofMaking l) rfl (nk_msc [(2, 114), (2, 79), (2, 80), (2, 81), (1, 2)] (by decide +kernel)) rfl rfl (by decide +kernel) ⟨by decide, by decide⟩
set_option maxRecDepth 100000 in
set_option maxHeartbeats 4000000 in
theorem ca_X0_meet_334 (l : Launch) : nk_CallOk l { frames := 1, cells := 0, slots := 0, locals := 22 } RX0 cX0_meet 2 false 334 (1, 0, 0, 0, ev_X5_namesTwo) := nk_callSN (x := 83) (n := 1) (host := "MarbleLaw") (mt_X5_namesTwo l) (by decide +kernel) (nk_mc [(2, 115), (2, 57), (2, 58), (1, 1)] (by decide +kernel)) (nk_mc [(2, 115), (2, 57), (2, 58), (1, 1)] (by decide +kernel)) (nk_mc [(2, 115), (2, 57), (2, 58), (1, 1)] (by decide +kernel)) rfl rfl (by decide +kernel) ⟨by decide, by decide⟩
set_option maxRecDepth 100000 in
set_option maxHeartbeats 4000000 in
theorem mt_X0_meet (l : Launch) : nk_Met l yX0_meet cX0_meet 2 none { frames := 1, cells := 0, slots := 0, locals := 22 } false 0 0 ev_X0_meet :=
  nk_met nk_gok (plainFor_of_name (by decide)) ck_X0_meet (nk_top_out 109 kt_X0_meet) ⟨List.forall_mem_cons.mpr ⟨nk_fkc [(1, 63)] (by decide +kernel), List.forall_mem_cons.mpr ⟨nk_fkc [(1, 60)] (by decide +kernel), List.forall_mem_cons.mpr ⟨nk_fkc [(1, 77)] (by decide +kernel), List.forall_mem_cons.mpr ⟨nk_fkc [(1, 67)] (by decide +kernel), List.forall_mem_cons.mpr ⟨nk_fkc [(1, 81)] (by decide +kernel), List.forall_mem_cons.mpr ⟨nk_fkc [(1, 79)] (by decide +kernel), List.forall_mem_cons.mpr ⟨nk_fkc [(1, 83)] (by decide +kernel), fun _ h => absurd h List.not_mem_nil⟩⟩⟩⟩⟩⟩⟩, List.forall_mem_cons.mpr ⟨ca_X0_meet_320 l, List.forall_mem_cons.mpr ⟨ca_X0_meet_334 l, fun _ h => absurd h List.not_mem_nil⟩⟩, fun _ h => absurd h List.not_mem_nil, fun _ h => absurd h List.not_mem_nil, fun _ h => absurd h List.not_mem_nil, fun _ h => absurd h List.not_mem_nil, fun _ h => absurd h List.not_mem_nil, by decide, rfl, rfl⟩ rfl (by decide)
/-! MarbleLaw$Course.barsKnowing()Z -/
noncomputable def kt_X0_barsKnowing : Nat → Option nk_I := fun pc => bif Nat.ble pc 6 then ((fun pc => bif Nat.ble pc 1 then (bif Nat.ble pc 0 then (bif Nat.beq pc 0 then some (.aload_n 0, 1, 1, [], 0) else none)
  else (bif Nat.beq pc 1 then some (.getfield 11, 3, 4, [], 0) else none))
  else ((fun pc => bif Nat.ble pc 4 then (bif Nat.beq pc 4 then some (.iconst 4, 1, 5, [], 4) else none)
  else (bif Nat.ble pc 5 then (bif Nat.beq pc 5 then some (.iaload, 1, 6, [], 0) else none)
  else (bif Nat.beq pc 6 then some (.iconst 1, 1, 7, [], 1) else none))) : nk_F) pc) : nk_F) pc
  else ((fun pc => bif Nat.ble pc 10 then (bif Nat.ble pc 7 then (bif Nat.beq pc 7 then some (.if_icmp .ne 7, 3, 10, [14], 0) else none)
  else (bif Nat.beq pc 10 then some (.iconst 1, 1, 11, [], 1) else none))
  else ((fun pc => bif Nat.ble pc 11 then (bif Nat.beq pc 11 then some (.goto 4, 3, 14, [15], 0) else none)
  else (bif Nat.ble pc 14 then (bif Nat.beq pc 14 then some (.iconst 0, 1, 15, [], 0) else none)
  else (bif Nat.beq pc 15 then some (.ireturn, 1, 16, [], 0) else none))) : nk_F) pc) : nk_F) pc
noncomputable def kc_X0_barsKnowing : Nat → Option nk_I := nk_top 16 kt_X0_barsKnowing
noncomputable def kx_X0_barsKnowing : nk_T := ([(11, 0, 1, 4)], [], [], [], [], [], [], 2, false, 0, 0)
noncomputable def ev_X0_barsKnowing : nk_Ev := fun as h Q => nk_if (Nat.ble (nk_wd as) 1) (nk_ev kx_X0_barsKnowing kc_X0_barsKnowing 1 as h Q)
set_option maxRecDepth 100000 in
theorem ck_X0_barsKnowing : nk_chk cX0_barsKnowing kc_X0_barsKnowing 16 = true := nd_chk (by decide +kernel) (by decide +kernel)
set_option maxRecDepth 100000 in
set_option maxHeartbeats 4000000 in
theorem mt_X0_barsKnowing (l : Launch) : nk_Met l yX0_barsKnowing cX0_barsKnowing 1 (some .boolean) { frames := 0, cells := 0, slots := 0, locals := 0 } false 0 0 ev_X0_barsKnowing :=
  nk_met nk_gok (plainFor_of_name (by decide)) ck_X0_barsKnowing (nk_top_out 16 kt_X0_barsKnowing) ⟨List.forall_mem_cons.mpr ⟨nk_fkc [(1, 61)] (by decide +kernel), fun _ h => absurd h List.not_mem_nil⟩, fun _ h => absurd h List.not_mem_nil, fun _ h => absurd h List.not_mem_nil, fun _ h => absurd h List.not_mem_nil, fun _ h => absurd h List.not_mem_nil, fun _ h => absurd h List.not_mem_nil, fun _ h => absurd h List.not_mem_nil, by decide, rfl, rfl⟩ rfl (by decide)
/-! MarbleLaw$Course.knew(I)Z -/
noncomputable def kt_X0_knew : Nat → Option nk_I := fun pc => bif Nat.ble pc 15 then ((fun pc => bif Nat.ble pc 6 then ((fun pc => bif Nat.ble pc 1 then (bif Nat.ble pc 0 then (bif Nat.beq pc 0 then some (.iload_n 1, 1, 1, [], 0) else none)
  else (bif Nat.beq pc 1 then some (.iconst 1, 1, 2, [], 1) else none))
  else ((fun pc => bif Nat.ble pc 2 then (bif Nat.beq pc 2 then some (.if_icmp .eq 22, 3, 5, [24], 0) else none)
  else (bif Nat.ble pc 5 then (bif Nat.beq pc 5 then some (.iload_n 1, 1, 6, [], 0) else none)
  else (bif Nat.beq pc 6 then some (.iconst 2, 1, 7, [], 2) else none))) : nk_F) pc) : nk_F) pc
  else ((fun pc => bif Nat.ble pc 10 then (bif Nat.ble pc 7 then (bif Nat.beq pc 7 then some (.if_icmp .lt 21, 3, 10, [28], 0) else none)
  else (bif Nat.beq pc 10 then some (.aload_n 0, 1, 11, [], 0) else none))
  else ((fun pc => bif Nat.ble pc 11 then (bif Nat.beq pc 11 then some (.getfield 17, 3, 14, [], 0) else none)
  else (bif Nat.ble pc 14 then (bif Nat.beq pc 14 then some (.iload_n 1, 1, 15, [], 0) else none)
  else (bif Nat.beq pc 15 then some (.iconst 2, 1, 16, [], 2) else none))) : nk_F) pc) : nk_F) pc) : nk_F) pc
  else ((fun pc => bif Nat.ble pc 20 then ((fun pc => bif Nat.ble pc 17 then (bif Nat.ble pc 16 then (bif Nat.beq pc 16 then some (.isub, 1, 17, [], 0) else none)
  else (bif Nat.beq pc 17 then some (.ishr, 1, 18, [], 0) else none))
  else ((fun pc => bif Nat.ble pc 18 then (bif Nat.beq pc 18 then some (.iconst 1, 1, 19, [], 1) else none)
  else (bif Nat.ble pc 19 then (bif Nat.beq pc 19 then some (.iand, 1, 20, [], 0) else none)
  else (bif Nat.beq pc 20 then some (.iconst 1, 1, 21, [], 1) else none))) : nk_F) pc) : nk_F) pc
  else ((fun pc => bif Nat.ble pc 24 then (bif Nat.ble pc 21 then (bif Nat.beq pc 21 then some (.if_icmp .ne 7, 3, 24, [28], 0) else none)
  else (bif Nat.beq pc 24 then some (.iconst 1, 1, 25, [], 1) else none))
  else ((fun pc => bif Nat.ble pc 25 then (bif Nat.beq pc 25 then some (.goto 4, 3, 28, [29], 0) else none)
  else (bif Nat.ble pc 28 then (bif Nat.beq pc 28 then some (.iconst 0, 1, 29, [], 0) else none)
  else (bif Nat.beq pc 29 then some (.ireturn, 1, 30, [], 0) else none))) : nk_F) pc) : nk_F) pc) : nk_F) pc
noncomputable def kc_X0_knew : Nat → Option nk_I := nk_top 30 kt_X0_knew
noncomputable def kx_X0_knew : nk_T := ([(17, 0, 2, 0)], [], [], [], [], [], [], 2, false, 0, 0)
noncomputable def ev_X0_knew : nk_Ev := fun as h Q => nk_if (Nat.ble (nk_wd as) 2) (nk_ev kx_X0_knew kc_X0_knew 2 as h Q)
set_option maxRecDepth 100000 in
theorem ck_X0_knew : nk_chk cX0_knew kc_X0_knew 30 = true := nd_chk (by decide +kernel) (by decide +kernel)
set_option maxRecDepth 100000 in
set_option maxHeartbeats 4000000 in
theorem mt_X0_knew (l : Launch) : nk_Met l yX0_knew cX0_knew 2 (some .boolean) { frames := 0, cells := 0, slots := 0, locals := 0 } false 0 0 ev_X0_knew :=
  nk_met nk_gok (plainFor_of_name (by decide)) ck_X0_knew (nk_top_out 30 kt_X0_knew) ⟨List.forall_mem_cons.mpr ⟨nk_fkc [(1, 62)] (by decide +kernel), fun _ h => absurd h List.not_mem_nil⟩, fun _ h => absurd h List.not_mem_nil, fun _ h => absurd h List.not_mem_nil, fun _ h => absurd h List.not_mem_nil, fun _ h => absurd h List.not_mem_nil, fun _ h => absurd h List.not_mem_nil, fun _ h => absurd h List.not_mem_nil, by decide, rfl, rfl⟩ rfl (by decide)
/-! MarbleLaw$Course.formTakes(II)Z -/
noncomputable def kt_X0_formTakes : Nat → Option nk_I := fun pc => bif Nat.ble pc 14 then ((fun pc => bif Nat.ble pc 5 then ((fun pc => bif Nat.ble pc 1 then (bif Nat.ble pc 0 then (bif Nat.beq pc 0 then some (.aload_n 0, 1, 1, [], 0) else none)
  else (bif Nat.beq pc 1 then some (.getfield 11, 3, 4, [], 0) else none))
  else (bif Nat.ble pc 4 then (bif Nat.beq pc 4 then some (.iconst 0, 1, 5, [], 0) else none)
  else (bif Nat.beq pc 5 then some (.iaload, 1, 6, [], 0) else none))) : nk_F) pc
  else ((fun pc => bif Nat.ble pc 7 then (bif Nat.ble pc 6 then (bif Nat.beq pc 6 then some (.iconst 2, 1, 7, [], 2) else none)
  else (bif Nat.beq pc 7 then some (.if_icmp .eq 18, 3, 10, [25], 0) else none))
  else ((fun pc => bif Nat.ble pc 10 then (bif Nat.beq pc 10 then some (.aload_n 0, 1, 11, [], 0) else none)
  else (bif Nat.ble pc 11 then (bif Nat.beq pc 11 then some (.getfield 11, 3, 14, [], 0) else none)
  else (bif Nat.beq pc 14 then some (.iconst 0, 1, 15, [], 0) else none))) : nk_F) pc) : nk_F) pc) : nk_F) pc
  else ((fun pc => bif Nat.ble pc 21 then ((fun pc => bif Nat.ble pc 16 then (bif Nat.ble pc 15 then (bif Nat.beq pc 15 then some (.iaload, 1, 16, [], 0) else none)
  else (bif Nat.beq pc 16 then some (.iconst 3, 1, 17, [], 3) else none))
  else ((fun pc => bif Nat.ble pc 17 then (bif Nat.beq pc 17 then some (.if_icmp .ne 12, 3, 20, [29], 0) else none)
  else (bif Nat.ble pc 20 then (bif Nat.beq pc 20 then some (.iload_n 1, 1, 21, [], 0) else none)
  else (bif Nat.beq pc 21 then some (.iload_n 2, 1, 22, [], 0) else none))) : nk_F) pc) : nk_F) pc
  else ((fun pc => bif Nat.ble pc 25 then (bif Nat.ble pc 22 then (bif Nat.beq pc 22 then some (.if_icmp .le 7, 3, 25, [29], 0) else none)
  else (bif Nat.beq pc 25 then some (.iconst 1, 1, 26, [], 1) else none))
  else ((fun pc => bif Nat.ble pc 26 then (bif Nat.beq pc 26 then some (.goto 4, 3, 29, [30], 0) else none)
  else (bif Nat.ble pc 29 then (bif Nat.beq pc 29 then some (.iconst 0, 1, 30, [], 0) else none)
  else (bif Nat.beq pc 30 then some (.ireturn, 1, 31, [], 0) else none))) : nk_F) pc) : nk_F) pc) : nk_F) pc
noncomputable def kc_X0_formTakes : Nat → Option nk_I := nk_top 31 kt_X0_formTakes
noncomputable def kx_X0_formTakes : nk_T := ([(11, 0, 1, 4)], [], [], [], [], [], [], 2, false, 0, 0)
noncomputable def ev_X0_formTakes : nk_Ev := fun as h Q => nk_if (Nat.ble (nk_wd as) 3) (nk_ev kx_X0_formTakes kc_X0_formTakes 3 as h Q)
set_option maxRecDepth 100000 in
theorem ck_X0_formTakes : nk_chk cX0_formTakes kc_X0_formTakes 31 = true := nd_chk (by decide +kernel) (by decide +kernel)
set_option maxRecDepth 100000 in
set_option maxHeartbeats 4000000 in
theorem mt_X0_formTakes (l : Launch) : nk_Met l yX0_formTakes cX0_formTakes 3 (some .boolean) { frames := 0, cells := 0, slots := 0, locals := 0 } false 0 0 ev_X0_formTakes :=
  nk_met nk_gok (plainFor_of_name (by decide)) ck_X0_formTakes (nk_top_out 31 kt_X0_formTakes) ⟨List.forall_mem_cons.mpr ⟨nk_fkc [(1, 61)] (by decide +kernel), fun _ h => absurd h List.not_mem_nil⟩, fun _ h => absurd h List.not_mem_nil, fun _ h => absurd h List.not_mem_nil, fun _ h => absurd h List.not_mem_nil, fun _ h => absurd h List.not_mem_nil, fun _ h => absurd h List.not_mem_nil, fun _ h => absurd h List.not_mem_nil, by decide, rfl, rfl⟩ rfl (by decide)
/-! MarbleLaw$Course.writeTakes()Z -/
noncomputable def kt_X0_writeTakes : Nat → Option nk_I := fun pc => bif Nat.ble pc 6 then ((fun pc => bif Nat.ble pc 1 then (bif Nat.ble pc 0 then (bif Nat.beq pc 0 then some (.aload_n 0, 1, 1, [], 0) else none)
  else (bif Nat.beq pc 1 then some (.getfield 11, 3, 4, [], 0) else none))
  else ((fun pc => bif Nat.ble pc 4 then (bif Nat.beq pc 4 then some (.iconst 3, 1, 5, [], 3) else none)
  else (bif Nat.ble pc 5 then (bif Nat.beq pc 5 then some (.iaload, 1, 6, [], 0) else none)
  else (bif Nat.beq pc 6 then some (.iconst 2, 1, 7, [], 2) else none))) : nk_F) pc) : nk_F) pc
  else ((fun pc => bif Nat.ble pc 10 then (bif Nat.ble pc 7 then (bif Nat.beq pc 7 then some (.if_icmp .ne 7, 3, 10, [14], 0) else none)
  else (bif Nat.beq pc 10 then some (.iconst 1, 1, 11, [], 1) else none))
  else ((fun pc => bif Nat.ble pc 11 then (bif Nat.beq pc 11 then some (.goto 4, 3, 14, [15], 0) else none)
  else (bif Nat.ble pc 14 then (bif Nat.beq pc 14 then some (.iconst 0, 1, 15, [], 0) else none)
  else (bif Nat.beq pc 15 then some (.ireturn, 1, 16, [], 0) else none))) : nk_F) pc) : nk_F) pc
noncomputable def kc_X0_writeTakes : Nat → Option nk_I := nk_top 16 kt_X0_writeTakes
noncomputable def kx_X0_writeTakes : nk_T := ([(11, 0, 1, 4)], [], [], [], [], [], [], 2, false, 0, 0)
noncomputable def ev_X0_writeTakes : nk_Ev := fun as h Q => nk_if (Nat.ble (nk_wd as) 1) (nk_ev kx_X0_writeTakes kc_X0_writeTakes 1 as h Q)
set_option maxRecDepth 100000 in
theorem ck_X0_writeTakes : nk_chk cX0_writeTakes kc_X0_writeTakes 16 = true := nd_chk (by decide +kernel) (by decide +kernel)
set_option maxRecDepth 100000 in
set_option maxHeartbeats 4000000 in
theorem mt_X0_writeTakes (l : Launch) : nk_Met l yX0_writeTakes cX0_writeTakes 1 (some .boolean) { frames := 0, cells := 0, slots := 0, locals := 0 } false 0 0 ev_X0_writeTakes :=
  nk_met nk_gok (plainFor_of_name (by decide)) ck_X0_writeTakes (nk_top_out 16 kt_X0_writeTakes) ⟨List.forall_mem_cons.mpr ⟨nk_fkc [(1, 61)] (by decide +kernel), fun _ h => absurd h List.not_mem_nil⟩, fun _ h => absurd h List.not_mem_nil, fun _ h => absurd h List.not_mem_nil, fun _ h => absurd h List.not_mem_nil, fun _ h => absurd h List.not_mem_nil, fun _ h => absurd h List.not_mem_nil, fun _ h => absurd h List.not_mem_nil, by decide, rfl, rfl⟩ rfl (by decide)
/-! MarbleLaw$Course.someCame()Z -/
noncomputable def kt_X0_someCame : Nat → Option nk_I := fun pc => bif Nat.ble pc 5 then ((fun pc => bif Nat.ble pc 1 then (bif Nat.ble pc 0 then (bif Nat.beq pc 0 then some (.aload_n 0, 1, 1, [], 0) else none)
  else (bif Nat.beq pc 1 then some (.getfield 50, 3, 4, [], 0) else none))
  else (bif Nat.ble pc 4 then (bif Nat.beq pc 4 then some (.iconst (-1), 1, 5, [], (-1)) else none)
  else (bif Nat.beq pc 5 then some (.if_icmp .eq 7, 3, 8, [12], 0) else none))) : nk_F) pc
  else ((fun pc => bif Nat.ble pc 9 then (bif Nat.ble pc 8 then (bif Nat.beq pc 8 then some (.iconst 1, 1, 9, [], 1) else none)
  else (bif Nat.beq pc 9 then some (.goto 4, 3, 12, [13], 0) else none))
  else (bif Nat.ble pc 12 then (bif Nat.beq pc 12 then some (.iconst 0, 1, 13, [], 0) else none)
  else (bif Nat.beq pc 13 then some (.ireturn, 1, 14, [], 0) else none))) : nk_F) pc
noncomputable def kc_X0_someCame : Nat → Option nk_I := nk_top 14 kt_X0_someCame
noncomputable def kx_X0_someCame : nk_T := ([(50, 0, 12, 0)], [], [], [], [], [], [], 2, false, 0, 0)
noncomputable def ev_X0_someCame : nk_Ev := fun as h Q => nk_if (Nat.ble (nk_wd as) 1) (nk_ev kx_X0_someCame kc_X0_someCame 1 as h Q)
set_option maxRecDepth 100000 in
theorem ck_X0_someCame : nk_chk cX0_someCame kc_X0_someCame 14 = true := nd_chk (by decide +kernel) (by decide +kernel)
set_option maxRecDepth 100000 in
set_option maxHeartbeats 4000000 in
theorem mt_X0_someCame (l : Launch) : nk_Met l yX0_someCame cX0_someCame 1 (some .boolean) { frames := 0, cells := 0, slots := 0, locals := 0 } false 0 0 ev_X0_someCame :=
  nk_met nk_gok (plainFor_of_name (by decide)) ck_X0_someCame (nk_top_out 14 kt_X0_someCame) ⟨List.forall_mem_cons.mpr ⟨nk_fkc [(1, 79)] (by decide +kernel), fun _ h => absurd h List.not_mem_nil⟩, fun _ h => absurd h List.not_mem_nil, fun _ h => absurd h List.not_mem_nil, fun _ h => absurd h List.not_mem_nil, fun _ h => absurd h List.not_mem_nil, fun _ h => absurd h List.not_mem_nil, fun _ h => absurd h List.not_mem_nil, by decide, rfl, rfl⟩ rfl (by decide)
/-! MarbleLaw$Course.chiefTakesJoin()Z -/
noncomputable def kt_X0_chiefTakesJoin : Nat → Option nk_I := fun pc => bif Nat.ble pc 6 then ((fun pc => bif Nat.ble pc 1 then (bif Nat.ble pc 0 then (bif Nat.beq pc 0 then some (.aload_n 0, 1, 1, [], 0) else none)
  else (bif Nat.beq pc 1 then some (.getfield 11, 3, 4, [], 0) else none))
  else ((fun pc => bif Nat.ble pc 4 then (bif Nat.beq pc 4 then some (.iconst 1, 1, 5, [], 1) else none)
  else (bif Nat.ble pc 5 then (bif Nat.beq pc 5 then some (.iaload, 1, 6, [], 0) else none)
  else (bif Nat.beq pc 6 then some (.iconst 1, 1, 7, [], 1) else none))) : nk_F) pc) : nk_F) pc
  else ((fun pc => bif Nat.ble pc 10 then (bif Nat.ble pc 7 then (bif Nat.beq pc 7 then some (.if_icmp .ne 7, 3, 10, [14], 0) else none)
  else (bif Nat.beq pc 10 then some (.iconst 1, 1, 11, [], 1) else none))
  else ((fun pc => bif Nat.ble pc 11 then (bif Nat.beq pc 11 then some (.goto 4, 3, 14, [15], 0) else none)
  else (bif Nat.ble pc 14 then (bif Nat.beq pc 14 then some (.iconst 0, 1, 15, [], 0) else none)
  else (bif Nat.beq pc 15 then some (.ireturn, 1, 16, [], 0) else none))) : nk_F) pc) : nk_F) pc
noncomputable def kc_X0_chiefTakesJoin : Nat → Option nk_I := nk_top 16 kt_X0_chiefTakesJoin
noncomputable def kx_X0_chiefTakesJoin : nk_T := ([(11, 0, 1, 4)], [], [], [], [], [], [], 2, false, 0, 0)
noncomputable def ev_X0_chiefTakesJoin : nk_Ev := fun as h Q => nk_if (Nat.ble (nk_wd as) 1) (nk_ev kx_X0_chiefTakesJoin kc_X0_chiefTakesJoin 1 as h Q)
set_option maxRecDepth 100000 in
theorem ck_X0_chiefTakesJoin : nk_chk cX0_chiefTakesJoin kc_X0_chiefTakesJoin 16 = true := nd_chk (by decide +kernel) (by decide +kernel)
set_option maxRecDepth 100000 in
set_option maxHeartbeats 4000000 in
theorem mt_X0_chiefTakesJoin (l : Launch) : nk_Met l yX0_chiefTakesJoin cX0_chiefTakesJoin 1 (some .boolean) { frames := 0, cells := 0, slots := 0, locals := 0 } false 0 0 ev_X0_chiefTakesJoin :=
  nk_met nk_gok (plainFor_of_name (by decide)) ck_X0_chiefTakesJoin (nk_top_out 16 kt_X0_chiefTakesJoin) ⟨List.forall_mem_cons.mpr ⟨nk_fkc [(1, 61)] (by decide +kernel), fun _ h => absurd h List.not_mem_nil⟩, fun _ h => absurd h List.not_mem_nil, fun _ h => absurd h List.not_mem_nil, fun _ h => absurd h List.not_mem_nil, fun _ h => absurd h List.not_mem_nil, fun _ h => absurd h List.not_mem_nil, fun _ h => absurd h List.not_mem_nil, by decide, rfl, rfl⟩ rfl (by decide)
/-! MarbleLaw$Course.part(II)J -/
noncomputable def kt_X0_part : Nat → Option nk_I := fun pc => bif Nat.ble pc 7 then ((fun pc => bif Nat.ble pc 1 then (bif Nat.ble pc 0 then (bif Nat.beq pc 0 then some (.aload_n 0, 1, 1, [], 0) else none)
  else (bif Nat.beq pc 1 then some (.getfield 36, 3, 4, [], 0) else none))
  else ((fun pc => bif Nat.ble pc 4 then (bif Nat.beq pc 4 then some (.iload_n 1, 1, 5, [], 0) else none)
  else (bif Nat.ble pc 5 then (bif Nat.beq pc 5 then some (.bipush 6, 2, 7, [], 6) else none)
  else (bif Nat.beq pc 7 then some (.imul, 1, 8, [], 0) else none))) : nk_F) pc) : nk_F) pc
  else ((fun pc => bif Nat.ble pc 9 then (bif Nat.ble pc 8 then (bif Nat.beq pc 8 then some (.iload_n 2, 1, 9, [], 0) else none)
  else (bif Nat.beq pc 9 then some (.iadd, 1, 10, [], 0) else none))
  else ((fun pc => bif Nat.ble pc 10 then (bif Nat.beq pc 10 then some (.iaload, 1, 11, [], 0) else none)
  else (bif Nat.ble pc 11 then (bif Nat.beq pc 11 then some (.i2l, 1, 12, [], 0) else none)
  else (bif Nat.beq pc 12 then some (.lreturn, 1, 13, [], 0) else none))) : nk_F) pc) : nk_F) pc
noncomputable def kc_X0_part : Nat → Option nk_I := nk_top 13 kt_X0_part
noncomputable def kx_X0_part : nk_T := ([(36, 0, 8, 4)], [], [], [], [], [], [], 3, false, 0, 0)
noncomputable def ev_X0_part : nk_Ev := fun as h Q => nk_if (Nat.ble (nk_wd as) 3) (nk_ev kx_X0_part kc_X0_part 3 as h Q)
set_option maxRecDepth 100000 in
theorem ck_X0_part : nk_chk cX0_part kc_X0_part 13 = true := nd_chk (by decide +kernel) (by decide +kernel)
set_option maxRecDepth 100000 in
set_option maxHeartbeats 4000000 in
theorem mt_X0_part (l : Launch) : nk_Met l yX0_part cX0_part 3 (some .long) { frames := 0, cells := 0, slots := 0, locals := 0 } false 0 0 ev_X0_part :=
  nk_met nk_gok (plainFor_of_name (by decide)) ck_X0_part (nk_top_out 13 kt_X0_part) ⟨List.forall_mem_cons.mpr ⟨nk_fkc [(1, 73)] (by decide +kernel), fun _ h => absurd h List.not_mem_nil⟩, fun _ h => absurd h List.not_mem_nil, fun _ h => absurd h List.not_mem_nil, fun _ h => absurd h List.not_mem_nil, fun _ h => absurd h List.not_mem_nil, fun _ h => absurd h List.not_mem_nil, fun _ h => absurd h List.not_mem_nil, by decide, rfl, rfl⟩ rfl (by decide)
/-! MarbleLaw.divisorOf(JJ)J -/
noncomputable def kt_X5_divisorOf : Nat → Option nk_I := fun pc => bif Nat.ble pc 19 then ((fun pc => bif Nat.ble pc 7 then ((fun pc => bif Nat.ble pc 3 then ((fun pc => bif Nat.ble pc 0 then (bif Nat.beq pc 0 then some (.lload_n 0, 1, 1, [], 0) else none)
  else (bif Nat.ble pc 1 then (bif Nat.beq pc 1 then some (.lstore 4, 2, 3, [], 0) else none)
  else (bif Nat.beq pc 3 then some (.lload_n 2, 1, 4, [], 0) else none))) : nk_F) pc
  else ((fun pc => bif Nat.ble pc 4 then (bif Nat.beq pc 4 then some (.lstore 6, 2, 6, [], 0) else none)
  else (bif Nat.ble pc 6 then (bif Nat.beq pc 6 then some (.iconst 0, 1, 7, [], 0) else none)
  else (bif Nat.beq pc 7 then some (.istore 8, 2, 9, [], 0) else none))) : nk_F) pc) : nk_F) pc
  else ((fun pc => bif Nat.ble pc 13 then ((fun pc => bif Nat.ble pc 9 then (bif Nat.beq pc 9 then some (.iload 8, 2, 11, [], 0) else none)
  else (bif Nat.ble pc 11 then (bif Nat.beq pc 11 then some (.bipush 100, 2, 13, [], 100) else none)
  else (bif Nat.beq pc 13 then some (.if_icmp .ge 31, 3, 16, [44], 0) else none))) : nk_F) pc
  else ((fun pc => bif Nat.ble pc 16 then (bif Nat.beq pc 16 then some (.lload 6, 2, 18, [], 0) else none)
  else (bif Nat.ble pc 18 then (bif Nat.beq pc 18 then some (.lconst 0, 1, 19, [], 0) else none)
  else (bif Nat.beq pc 19 then some (.lcmp, 1, 20, [], 0) else none))) : nk_F) pc) : nk_F) pc) : nk_F) pc
  else ((fun pc => bif Nat.ble pc 30 then ((fun pc => bif Nat.ble pc 25 then ((fun pc => bif Nat.ble pc 20 then (bif Nat.beq pc 20 then some (.ifCond .eq 24, 3, 23, [44], 0) else none)
  else (bif Nat.ble pc 23 then (bif Nat.beq pc 23 then some (.lload 4, 2, 25, [], 0) else none)
  else (bif Nat.beq pc 25 then some (.lload 6, 2, 27, [], 0) else none))) : nk_F) pc
  else ((fun pc => bif Nat.ble pc 27 then (bif Nat.beq pc 27 then some (.lrem, 1, 28, [], 0) else none)
  else (bif Nat.ble pc 28 then (bif Nat.beq pc 28 then some (.lstore 9, 2, 30, [], 0) else none)
  else (bif Nat.beq pc 30 then some (.lload 6, 2, 32, [], 0) else none))) : nk_F) pc) : nk_F) pc
  else ((fun pc => bif Nat.ble pc 36 then ((fun pc => bif Nat.ble pc 32 then (bif Nat.beq pc 32 then some (.lstore 4, 2, 34, [], 0) else none)
  else (bif Nat.ble pc 34 then (bif Nat.beq pc 34 then some (.lload 9, 2, 36, [], 0) else none)
  else (bif Nat.beq pc 36 then some (.lstore 6, 2, 38, [], 0) else none))) : nk_F) pc
  else ((fun pc => bif Nat.ble pc 41 then (bif Nat.ble pc 38 then (bif Nat.beq pc 38 then some (.iinc 8 1, 3, 41, [], 1) else none)
  else (bif Nat.beq pc 41 then some (.goto (-32), 3, 44, [9], 0) else none))
  else (bif Nat.ble pc 44 then (bif Nat.beq pc 44 then some (.lload 4, 2, 46, [], 0) else none)
  else (bif Nat.beq pc 46 then some (.lreturn, 1, 47, [], 0) else none))) : nk_F) pc) : nk_F) pc) : nk_F) pc
noncomputable def kc_X5_divisorOf : Nat → Option nk_I := nk_top 47 kt_X5_divisorOf
noncomputable def kx_X5_divisorOf : nk_T := ([], [], [], [], [], [], [], 3, false, 0, 0)
noncomputable def ev_X5_divisorOf : nk_Ev := fun as h Q => nk_if (Nat.ble (nk_wd as) 11) (nk_ev kx_X5_divisorOf kc_X5_divisorOf 11 as h Q)
set_option maxRecDepth 100000 in
theorem ck_X5_divisorOf : nk_chk cX5_divisorOf kc_X5_divisorOf 47 = true := nd_chk (by decide +kernel) (by decide +kernel)
set_option maxRecDepth 100000 in
set_option maxHeartbeats 4000000 in
theorem mt_X5_divisorOf (l : Launch) : nk_Met l yX5_divisorOf cX5_divisorOf 11 (some .long) { frames := 0, cells := 0, slots := 0, locals := 0 } false 0 0 ev_X5_divisorOf :=
  nk_met nk_gok (plainFor_of_name (by decide)) ck_X5_divisorOf (nk_top_out 47 kt_X5_divisorOf) ⟨fun _ h => absurd h List.not_mem_nil, fun _ h => absurd h List.not_mem_nil, fun _ h => absurd h List.not_mem_nil, fun _ h => absurd h List.not_mem_nil, fun _ h => absurd h List.not_mem_nil, fun _ h => absurd h List.not_mem_nil, fun _ h => absurd h List.not_mem_nil, by decide, rfl, rfl⟩ rfl (by decide)
