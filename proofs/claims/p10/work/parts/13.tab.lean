/-! MarbleLaw$Heap.dropEmpty()V -/
noncomputable def kt_X1_dropEmpty : Nat → Option nk_I := fun pc => bif Nat.ble pc 27 then ((fun pc => bif Nat.ble pc 12 then ((fun pc => bif Nat.ble pc 3 then ((fun pc => bif Nat.ble pc 1 then (bif Nat.ble pc 0 then (bif Nat.beq pc 0 then some (.iconst 0, 1, 1, [], 0) else none)
  else (bif Nat.beq pc 1 then some (.istore_n 1, 1, 2, [], 0) else none))
  else (bif Nat.ble pc 2 then (bif Nat.beq pc 2 then some (.iconst 0, 1, 3, [], 0) else none)
  else (bif Nat.beq pc 3 then some (.istore_n 2, 1, 4, [], 0) else none))) : nk_F) pc
  else ((fun pc => bif Nat.ble pc 5 then (bif Nat.ble pc 4 then (bif Nat.beq pc 4 then some (.iload_n 2, 1, 5, [], 0) else none)
  else (bif Nat.beq pc 5 then some (.aload_n 0, 1, 6, [], 0) else none))
  else ((fun pc => bif Nat.ble pc 6 then (bif Nat.beq pc 6 then some (.getfield 18, 3, 9, [], 0) else none)
  else (bif Nat.ble pc 9 then (bif Nat.beq pc 9 then some (.if_icmp .ge 45, 3, 12, [54], 0) else none)
  else (bif Nat.beq pc 12 then some (.aload_n 0, 1, 13, [], 0) else none))) : nk_F) pc) : nk_F) pc) : nk_F) pc
  else ((fun pc => bif Nat.ble pc 18 then ((fun pc => bif Nat.ble pc 16 then (bif Nat.ble pc 13 then (bif Nat.beq pc 13 then some (.getfield 15, 3, 16, [], 0) else none)
  else (bif Nat.beq pc 16 then some (.iload_n 2, 1, 17, [], 0) else none))
  else (bif Nat.ble pc 17 then (bif Nat.beq pc 17 then some (.iaload, 1, 18, [], 0) else none)
  else (bif Nat.beq pc 18 then some (.ifCond .le 30, 3, 21, [48], 0) else none))) : nk_F) pc
  else ((fun pc => bif Nat.ble pc 22 then (bif Nat.ble pc 21 then (bif Nat.beq pc 21 then some (.aload_n 0, 1, 22, [], 0) else none)
  else (bif Nat.beq pc 22 then some (.getfield 9, 3, 25, [], 0) else none))
  else ((fun pc => bif Nat.ble pc 25 then (bif Nat.beq pc 25 then some (.iload_n 1, 1, 26, [], 0) else none)
  else (bif Nat.ble pc 26 then (bif Nat.beq pc 26 then some (.aload_n 0, 1, 27, [], 0) else none)
  else (bif Nat.beq pc 27 then some (.getfield 9, 3, 30, [], 0) else none))) : nk_F) pc) : nk_F) pc) : nk_F) pc) : nk_F) pc
  else ((fun pc => bif Nat.ble pc 42 then ((fun pc => bif Nat.ble pc 33 then ((fun pc => bif Nat.ble pc 31 then (bif Nat.ble pc 30 then (bif Nat.beq pc 30 then some (.iload_n 2, 1, 31, [], 0) else none)
  else (bif Nat.beq pc 31 then some (.iaload, 1, 32, [], 0) else none))
  else (bif Nat.ble pc 32 then (bif Nat.beq pc 32 then some (.iastore, 1, 33, [], 0) else none)
  else (bif Nat.beq pc 33 then some (.aload_n 0, 1, 34, [], 0) else none))) : nk_F) pc
  else ((fun pc => bif Nat.ble pc 37 then (bif Nat.ble pc 34 then (bif Nat.beq pc 34 then some (.getfield 15, 3, 37, [], 0) else none)
  else (bif Nat.beq pc 37 then some (.iload_n 1, 1, 38, [], 0) else none))
  else ((fun pc => bif Nat.ble pc 38 then (bif Nat.beq pc 38 then some (.aload_n 0, 1, 39, [], 0) else none)
  else (bif Nat.ble pc 39 then (bif Nat.beq pc 39 then some (.getfield 15, 3, 42, [], 0) else none)
  else (bif Nat.beq pc 42 then some (.iload_n 2, 1, 43, [], 0) else none))) : nk_F) pc) : nk_F) pc) : nk_F) pc
  else ((fun pc => bif Nat.ble pc 48 then ((fun pc => bif Nat.ble pc 44 then (bif Nat.ble pc 43 then (bif Nat.beq pc 43 then some (.iaload, 1, 44, [], 0) else none)
  else (bif Nat.beq pc 44 then some (.iastore, 1, 45, [], 0) else none))
  else (bif Nat.ble pc 45 then (bif Nat.beq pc 45 then some (.iinc 1 1, 3, 48, [], 1) else none)
  else (bif Nat.beq pc 48 then some (.iinc 2 1, 3, 51, [], 1) else none))) : nk_F) pc
  else ((fun pc => bif Nat.ble pc 54 then (bif Nat.ble pc 51 then (bif Nat.beq pc 51 then some (.goto (-47), 3, 54, [4], 0) else none)
  else (bif Nat.beq pc 54 then some (.aload_n 0, 1, 55, [], 0) else none))
  else ((fun pc => bif Nat.ble pc 55 then (bif Nat.beq pc 55 then some (.iload_n 1, 1, 56, [], 0) else none)
  else (bif Nat.ble pc 56 then (bif Nat.beq pc 56 then some (.putfield 18, 3, 59, [], 0) else none)
  else (bif Nat.beq pc 59 then some (.return_, 1, 60, [], 0) else none))) : nk_F) pc) : nk_F) pc) : nk_F) pc) : nk_F) pc
noncomputable def kc_X1_dropEmpty : Nat → Option nk_I := nk_top 60 kt_X1_dropEmpty
noncomputable def kx_X1_dropEmpty : nk_T := ([(18, 1, 2, 0), (15, 1, 1, 4), (9, 1, 0, 4)], [], [], [], [], [], [], 0, false, 0, 0)
noncomputable def ev_X1_dropEmpty : nk_Ev := fun as h Q => nk_if (Nat.ble (nk_wd as) 3) (nk_ev kx_X1_dropEmpty kc_X1_dropEmpty 3 as h Q)
set_option maxRecDepth 100000 in
theorem ck_X1_dropEmpty : nk_chk cX1_dropEmpty kc_X1_dropEmpty 60 = true := nd_chk (by decide +kernel) (by decide +kernel)
set_option maxRecDepth 100000 in
set_option maxHeartbeats 4000000 in
theorem mt_X1_dropEmpty (l : Launch) : nk_Met l yX1_dropEmpty cX1_dropEmpty 3 none { frames := 0, cells := 0, slots := 0, locals := 0 } false 0 0 ev_X1_dropEmpty :=
  nk_met nk_gok (plainFor_of_name (by decide)) ck_X1_dropEmpty (nk_top_out 60 kt_X1_dropEmpty) ⟨List.forall_mem_cons.mpr ⟨nk_fkc [(1, 142)] (by decide +kernel), List.forall_mem_cons.mpr ⟨nk_fkc [(1, 141)] (by decide +kernel), List.forall_mem_cons.mpr ⟨nk_fkc [(1, 140)] (by decide +kernel), fun _ h => absurd h List.not_mem_nil⟩⟩⟩, fun _ h => absurd h List.not_mem_nil, fun _ h => absurd h List.not_mem_nil, fun _ h => absurd h List.not_mem_nil, fun _ h => absurd h List.not_mem_nil, fun _ h => absurd h List.not_mem_nil, fun _ h => absurd h List.not_mem_nil, by decide, rfl, rfl⟩ rfl (by decide)
/-! MarbleLaw$Heap.addTo(J)J -/
noncomputable def kt_X1_addTo : Nat → Option nk_I := fun pc => bif Nat.ble pc 18 then ((fun pc => bif Nat.ble pc 9 then ((fun pc => bif Nat.ble pc 4 then ((fun pc => bif Nat.ble pc 0 then (bif Nat.beq pc 0 then some (.ldc2_w 35, 3, 3, [], 0) else none)
  else (bif Nat.ble pc 3 then (bif Nat.beq pc 3 then some (.lload_n 1, 1, 4, [], 0) else none)
  else (bif Nat.beq pc 4 then some (.lmul, 1, 5, [], 0) else none))) : nk_F) pc
  else ((fun pc => bif Nat.ble pc 5 then (bif Nat.beq pc 5 then some (.aload_n 0, 1, 6, [], 0) else none)
  else (bif Nat.ble pc 6 then (bif Nat.beq pc 6 then some (.getfield 18, 3, 9, [], 0) else none)
  else (bif Nat.beq pc 9 then some (.i2l, 1, 10, [], 0) else none))) : nk_F) pc) : nk_F) pc
  else ((fun pc => bif Nat.ble pc 12 then ((fun pc => bif Nat.ble pc 10 then (bif Nat.beq pc 10 then some (.ladd, 1, 11, [], 0) else none)
  else (bif Nat.ble pc 11 then (bif Nat.beq pc 11 then some (.lstore_n 3, 1, 12, [], 0) else none)
  else (bif Nat.beq pc 12 then some (.iconst 0, 1, 13, [], 0) else none))) : nk_F) pc
  else ((fun pc => bif Nat.ble pc 15 then (bif Nat.ble pc 13 then (bif Nat.beq pc 13 then some (.istore 5, 2, 15, [], 0) else none)
  else (bif Nat.beq pc 15 then some (.iload 5, 2, 17, [], 0) else none))
  else (bif Nat.ble pc 17 then (bif Nat.beq pc 17 then some (.aload_n 0, 1, 18, [], 0) else none)
  else (bif Nat.beq pc 18 then some (.getfield 18, 3, 21, [], 0) else none))) : nk_F) pc) : nk_F) pc) : nk_F) pc
  else ((fun pc => bif Nat.ble pc 32 then ((fun pc => bif Nat.ble pc 27 then ((fun pc => bif Nat.ble pc 21 then (bif Nat.beq pc 21 then some (.if_icmp .ge 23, 3, 24, [44], 0) else none)
  else (bif Nat.ble pc 24 then (bif Nat.beq pc 24 then some (.ldc2_w 35, 3, 27, [], 0) else none)
  else (bif Nat.beq pc 27 then some (.lload_n 3, 1, 28, [], 0) else none))) : nk_F) pc
  else ((fun pc => bif Nat.ble pc 29 then (bif Nat.ble pc 28 then (bif Nat.beq pc 28 then some (.lmul, 1, 29, [], 0) else none)
  else (bif Nat.beq pc 29 then some (.aload_n 0, 1, 30, [], 0) else none))
  else (bif Nat.ble pc 30 then (bif Nat.beq pc 30 then some (.iload 5, 2, 32, [], 0) else none)
  else (bif Nat.beq pc 32 then some (.invokevirtual 37, 3, 35, [], 0) else none))) : nk_F) pc) : nk_F) pc
  else ((fun pc => bif Nat.ble pc 37 then ((fun pc => bif Nat.ble pc 35 then (bif Nat.beq pc 35 then some (.i2l, 1, 36, [], 0) else none)
  else (bif Nat.ble pc 36 then (bif Nat.beq pc 36 then some (.ladd, 1, 37, [], 0) else none)
  else (bif Nat.beq pc 37 then some (.lstore_n 3, 1, 38, [], 0) else none))) : nk_F) pc
  else ((fun pc => bif Nat.ble pc 41 then (bif Nat.ble pc 38 then (bif Nat.beq pc 38 then some (.iinc 5 1, 3, 41, [], 1) else none)
  else (bif Nat.beq pc 41 then some (.goto (-26), 3, 44, [15], 0) else none))
  else (bif Nat.ble pc 44 then (bif Nat.beq pc 44 then some (.lload_n 3, 1, 45, [], 0) else none)
  else (bif Nat.beq pc 45 then some (.lreturn, 1, 46, [], 0) else none))) : nk_F) pc) : nk_F) pc) : nk_F) pc
noncomputable def kc_X1_addTo : Nat → Option nk_I := nk_top 46 kt_X1_addTo
noncomputable def kx_X1_addTo : nk_T := ([(18, 1, 2, 0)], [(148, 2, 2, 0, 0, ev_X1_asNumber)], [], [(35, 31)], [], [], [], 3, false, 0, 0)
noncomputable def ev_X1_addTo : nk_Ev := fun as h Q => nk_if (Nat.ble (nk_wd as) 6) (nk_ev kx_X1_addTo kc_X1_addTo 6 as h Q)
set_option maxRecDepth 100000 in
theorem ck_X1_addTo : nk_chk cX1_addTo kc_X1_addTo 46 = true := nd_chk (by decide +kernel) (by decide +kernel)
set_option maxRecDepth 100000 in
set_option maxHeartbeats 4000000 in
theorem ca_X1_addTo_148 (l : Launch) : nk_CallOk l { frames := 1, cells := 0, slots := 0, locals := 21 } RX1 cX1_addTo 6 false 148 (2, 2, 0, 0, ev_X1_asNumber) := nk_callV (x := 37) (n := 1) (ci := 1) (r := (RX1, TX1, 3)) (mt_X1_asNumber l) rfl (nk_msc [(3, 181), (3, 131), (3, 132), (3, 133), (1, 6)] (by decide +kernel)) rfl rfl (by decide +kernel) ⟨by decide, by decide⟩
set_option maxRecDepth 100000 in
set_option maxHeartbeats 4000000 in
theorem mt_X1_addTo (l : Launch) : nk_Met l yX1_addTo cX1_addTo 6 (some .long) { frames := 1, cells := 0, slots := 0, locals := 21 } false 0 0 ev_X1_addTo :=
  nk_met nk_gok (plainFor_of_name (by decide)) ck_X1_addTo (nk_top_out 46 kt_X1_addTo) ⟨List.forall_mem_cons.mpr ⟨nk_fkc [(1, 142)] (by decide +kernel), fun _ h => absurd h List.not_mem_nil⟩, List.forall_mem_cons.mpr ⟨ca_X1_addTo_148 l, fun _ h => absurd h List.not_mem_nil⟩, fun _ h => absurd h List.not_mem_nil, List.forall_mem_cons.mpr ⟨nk_mc [(3, 180)] (by decide +kernel), fun _ h => absurd h List.not_mem_nil⟩, fun _ h => absurd h List.not_mem_nil, fun _ h => absurd h List.not_mem_nil, fun _ h => absurd h List.not_mem_nil, by decide, rfl, rfl⟩ rfl (by decide)
/-! MarbleLaw$LawReader.<init>()V -/
noncomputable def kt_X2_init : Nat → Option nk_I := fun pc => bif Nat.ble pc 4 then ((fun pc => bif Nat.ble pc 0 then (bif Nat.beq pc 0 then some (.aload_n 0, 1, 1, [], 0) else none)
  else (bif Nat.ble pc 1 then (bif Nat.beq pc 1 then some (.invokespecial 3, 3, 4, [], 0) else none)
  else (bif Nat.beq pc 4 then some (.aload_n 0, 1, 5, [], 0) else none))) : nk_F) pc
  else ((fun pc => bif Nat.ble pc 6 then (bif Nat.ble pc 5 then (bif Nat.beq pc 5 then some (.iconst 5, 1, 6, [], 5) else none)
  else (bif Nat.beq pc 6 then some (.newarray .int, 2, 8, [], 0) else none))
  else (bif Nat.ble pc 8 then (bif Nat.beq pc 8 then some (.putfield 11, 3, 11, [], 0) else none)
  else (bif Nat.beq pc 11 then some (.return_, 1, 12, [], 0) else none))) : nk_F) pc
noncomputable def kc_X2_init : Nat → Option nk_I := nk_top 12 kt_X2_init
noncomputable def kx_X2_init : nk_T := ([(11, 2, 0, 4)], [(13, 1, 3, 0, 0, fun _ h K => K none h)], [], [], [], [], [], 0, true, 1, 5)
noncomputable def ev_X2_init : nk_Ev := fun as h Q => nk_if (Nat.ble (nk_wd as) 1) (nk_ev kx_X2_init kc_X2_init 1 as h Q)
set_option maxRecDepth 100000 in
theorem ck_X2_init : nk_chk cX2_init kc_X2_init 12 = true := nd_chk (by decide +kernel) (by decide +kernel)
set_option maxRecDepth 100000 in
set_option maxHeartbeats 4000000 in
theorem ca_X2_init_13 (l : Launch) : nk_CallOk l { frames := 1, cells := 1, slots := 5, locals := 20 } RX2 cX2_init 1 true 13 (1, 3, 0, 0, fun _ h K => K none h) := nk_callO (x := 3) (nk_mc [(1, 49), (1, 17), (1, 18)] (by decide +kernel)) (nk_mc [(1, 49), (1, 17), (1, 18)] (by decide +kernel)) (nk_mc [(1, 49), (1, 17), (1, 18)] (by decide +kernel)) ⟨by decide, by decide⟩
set_option maxRecDepth 100000 in
set_option maxHeartbeats 4000000 in
theorem mt_X2_init (l : Launch) : nk_Met l yX2_init cX2_init 1 none { frames := 1, cells := 1, slots := 5, locals := 20 } true 1 5 ev_X2_init :=
  nk_met nk_gok (plainFor_of_name (by decide)) ck_X2_init (nk_top_out 12 kt_X2_init) ⟨List.forall_mem_cons.mpr ⟨nk_fkc [(1, 50)] (by decide +kernel), fun _ h => absurd h List.not_mem_nil⟩, List.forall_mem_cons.mpr ⟨ca_X2_init_13 l, fun _ h => absurd h List.not_mem_nil⟩, fun _ h => absurd h List.not_mem_nil, fun _ h => absurd h List.not_mem_nil, fun _ h => absurd h List.not_mem_nil, fun _ h => absurd h List.not_mem_nil, fun _ h => absurd h List.not_mem_nil, by decide, rfl, rfl⟩ rfl (by decide)
/-! MarbleLaw$LawReader.wordOf(I)I -/
noncomputable def kt_X2_wordOf : Nat → Option nk_I := fun pc => bif Nat.ble pc 11 then ((fun pc => bif Nat.ble pc 3 then ((fun pc => bif Nat.ble pc 1 then (bif Nat.ble pc 0 then (bif Nat.beq pc 0 then some (.iconst 0, 1, 1, [], 0) else none)
  else (bif Nat.beq pc 1 then some (.istore_n 1, 1, 2, [], 0) else none))
  else (bif Nat.ble pc 2 then (bif Nat.beq pc 2 then some (.iload_n 1, 1, 3, [], 0) else none)
  else (bif Nat.beq pc 3 then some (.iconst 5, 1, 4, [], 5) else none))) : nk_F) pc
  else ((fun pc => bif Nat.ble pc 7 then (bif Nat.ble pc 4 then (bif Nat.beq pc 4 then some (.if_icmp .ge 20, 3, 7, [24], 0) else none)
  else (bif Nat.beq pc 7 then some (.getstatic 32, 3, 10, [], 0) else none))
  else (bif Nat.ble pc 10 then (bif Nat.beq pc 10 then some (.iload_n 1, 1, 11, [], 0) else none)
  else (bif Nat.beq pc 11 then some (.iaload, 1, 12, [], 0) else none))) : nk_F) pc) : nk_F) pc
  else ((fun pc => bif Nat.ble pc 17 then ((fun pc => bif Nat.ble pc 13 then (bif Nat.ble pc 12 then (bif Nat.beq pc 12 then some (.iload_n 0, 1, 13, [], 0) else none)
  else (bif Nat.beq pc 13 then some (.if_icmp .ne 5, 3, 16, [18], 0) else none))
  else (bif Nat.ble pc 16 then (bif Nat.beq pc 16 then some (.iload_n 1, 1, 17, [], 0) else none)
  else (bif Nat.beq pc 17 then some (.ireturn, 1, 18, [], 0) else none))) : nk_F) pc
  else ((fun pc => bif Nat.ble pc 21 then (bif Nat.ble pc 18 then (bif Nat.beq pc 18 then some (.iinc 1 1, 3, 21, [], 1) else none)
  else (bif Nat.beq pc 21 then some (.goto (-19), 3, 24, [2], 0) else none))
  else (bif Nat.ble pc 24 then (bif Nat.beq pc 24 then some (.iconst (-1), 1, 25, [], (-1)) else none)
  else (bif Nat.beq pc 25 then some (.ireturn, 1, 26, [], 0) else none))) : nk_F) pc) : nk_F) pc
noncomputable def kc_X2_wordOf : Nat → Option nk_I := nk_top 26 kt_X2_wordOf
noncomputable def kx_X2_wordOf : nk_T := ([], [], [], [], [], [], [(32, 3000000)], 1, false, 0, 0)
noncomputable def ev_X2_wordOf : nk_Ev := fun as h Q => nk_if (Nat.ble (nk_wd as) 2) (nk_ev kx_X2_wordOf kc_X2_wordOf 2 as h Q)
set_option maxRecDepth 100000 in
theorem ck_X2_wordOf : nk_chk cX2_wordOf kc_X2_wordOf 26 = true := nd_chk (by decide +kernel) (by decide +kernel)
set_option maxRecDepth 100000 in
set_option maxHeartbeats 4000000 in
theorem mt_X2_wordOf (l : Launch) : nk_Met l yX2_wordOf cX2_wordOf 2 (some .int) { frames := 0, cells := 0, slots := 0, locals := 0 } false 0 0 ev_X2_wordOf :=
  nk_met nk_gok (plainFor_of_name (by decide)) ck_X2_wordOf (nk_top_out 26 kt_X2_wordOf) ⟨fun _ h => absurd h List.not_mem_nil, fun _ h => absurd h List.not_mem_nil, fun _ h => absurd h List.not_mem_nil, fun _ h => absurd h List.not_mem_nil, fun _ h => absurd h List.not_mem_nil, fun _ h => absurd h List.not_mem_nil, List.forall_mem_cons.mpr ⟨⟨_, List.mem_cons_self, rfl, nk_mc [(2, 177)] (by decide +kernel)⟩, fun _ h => absurd h List.not_mem_nil⟩, by decide, rfl, rfl⟩ rfl (by decide)
/-! MarbleLaw$LawReader.choiceOf(II)I -/
noncomputable def kt_X2_choiceOf : Nat → Option nk_I := fun pc => bif Nat.ble pc 14 then ((fun pc => bif Nat.ble pc 4 then ((fun pc => bif Nat.ble pc 1 then (bif Nat.ble pc 0 then (bif Nat.beq pc 0 then some (.iconst 0, 1, 1, [], 0) else none)
  else (bif Nat.beq pc 1 then some (.istore_n 2, 1, 2, [], 0) else none))
  else ((fun pc => bif Nat.ble pc 2 then (bif Nat.beq pc 2 then some (.iload_n 2, 1, 3, [], 0) else none)
  else (bif Nat.ble pc 3 then (bif Nat.beq pc 3 then some (.iconst 3, 1, 4, [], 3) else none)
  else (bif Nat.beq pc 4 then some (.if_icmp .ge 26, 3, 7, [30], 0) else none))) : nk_F) pc) : nk_F) pc
  else ((fun pc => bif Nat.ble pc 11 then ((fun pc => bif Nat.ble pc 7 then (bif Nat.beq pc 7 then some (.getstatic 35, 3, 10, [], 0) else none)
  else (bif Nat.ble pc 10 then (bif Nat.beq pc 10 then some (.iload_n 0, 1, 11, [], 0) else none)
  else (bif Nat.beq pc 11 then some (.iconst 3, 1, 12, [], 3) else none))) : nk_F) pc
  else ((fun pc => bif Nat.ble pc 12 then (bif Nat.beq pc 12 then some (.imul, 1, 13, [], 0) else none)
  else (bif Nat.ble pc 13 then (bif Nat.beq pc 13 then some (.iload_n 2, 1, 14, [], 0) else none)
  else (bif Nat.beq pc 14 then some (.iadd, 1, 15, [], 0) else none))) : nk_F) pc) : nk_F) pc) : nk_F) pc
  else ((fun pc => bif Nat.ble pc 21 then ((fun pc => bif Nat.ble pc 16 then (bif Nat.ble pc 15 then (bif Nat.beq pc 15 then some (.iaload, 1, 16, [], 0) else none)
  else (bif Nat.beq pc 16 then some (.iload_n 1, 1, 17, [], 0) else none))
  else ((fun pc => bif Nat.ble pc 17 then (bif Nat.beq pc 17 then some (.if_icmp .ne 7, 3, 20, [24], 0) else none)
  else (bif Nat.ble pc 20 then (bif Nat.beq pc 20 then some (.iload_n 2, 1, 21, [], 0) else none)
  else (bif Nat.beq pc 21 then some (.iconst 1, 1, 22, [], 1) else none))) : nk_F) pc) : nk_F) pc
  else ((fun pc => bif Nat.ble pc 24 then ((fun pc => bif Nat.ble pc 22 then (bif Nat.beq pc 22 then some (.iadd, 1, 23, [], 0) else none)
  else (bif Nat.ble pc 23 then (bif Nat.beq pc 23 then some (.ireturn, 1, 24, [], 0) else none)
  else (bif Nat.beq pc 24 then some (.iinc 2 1, 3, 27, [], 1) else none))) : nk_F) pc
  else ((fun pc => bif Nat.ble pc 27 then (bif Nat.beq pc 27 then some (.goto (-25), 3, 30, [2], 0) else none)
  else (bif Nat.ble pc 30 then (bif Nat.beq pc 30 then some (.iconst 0, 1, 31, [], 0) else none)
  else (bif Nat.beq pc 31 then some (.ireturn, 1, 32, [], 0) else none))) : nk_F) pc) : nk_F) pc) : nk_F) pc
noncomputable def kc_X2_choiceOf : Nat → Option nk_I := nk_top 32 kt_X2_choiceOf
noncomputable def kx_X2_choiceOf : nk_T := ([], [], [], [], [], [], [(35, 3000001)], 1, false, 0, 0)
noncomputable def ev_X2_choiceOf : nk_Ev := fun as h Q => nk_if (Nat.ble (nk_wd as) 3) (nk_ev kx_X2_choiceOf kc_X2_choiceOf 3 as h Q)
set_option maxRecDepth 100000 in
theorem ck_X2_choiceOf : nk_chk cX2_choiceOf kc_X2_choiceOf 32 = true := nd_chk (by decide +kernel) (by decide +kernel)
set_option maxRecDepth 100000 in
set_option maxHeartbeats 4000000 in
theorem mt_X2_choiceOf (l : Launch) : nk_Met l yX2_choiceOf cX2_choiceOf 3 (some .int) { frames := 0, cells := 0, slots := 0, locals := 0 } false 0 0 ev_X2_choiceOf :=
  nk_met nk_gok (plainFor_of_name (by decide)) ck_X2_choiceOf (nk_top_out 32 kt_X2_choiceOf) ⟨fun _ h => absurd h List.not_mem_nil, fun _ h => absurd h List.not_mem_nil, fun _ h => absurd h List.not_mem_nil, fun _ h => absurd h List.not_mem_nil, fun _ h => absurd h List.not_mem_nil, fun _ h => absurd h List.not_mem_nil, List.forall_mem_cons.mpr ⟨⟨_, List.mem_cons_of_mem _ List.mem_cons_self, rfl, nk_mc [(2, 182)] (by decide +kernel)⟩, fun _ h => absurd h List.not_mem_nil⟩, by decide, rfl, rfl⟩ rfl (by decide)
/-! MarbleLaw$LawReader.read(LMarbleLaw$Row;)I -/
noncomputable def kt_X2_read : Nat → Option nk_I := fun pc => bif Nat.ble pc 65 then ((fun pc => bif Nat.ble pc 27 then ((fun pc => bif Nat.ble pc 12 then ((fun pc => bif Nat.ble pc 3 then ((fun pc => bif Nat.ble pc 1 then (bif Nat.ble pc 0 then (bif Nat.beq pc 0 then some (.iconst 0, 1, 1, [], 0) else none)
  else (bif Nat.beq pc 1 then some (.istore_n 2, 1, 2, [], 0) else none))
  else (bif Nat.ble pc 2 then (bif Nat.beq pc 2 then some (.iload_n 2, 1, 3, [], 0) else none)
  else (bif Nat.beq pc 3 then some (.iconst 5, 1, 4, [], 5) else none))) : nk_F) pc
  else ((fun pc => bif Nat.ble pc 7 then (bif Nat.ble pc 4 then (bif Nat.beq pc 4 then some (.if_icmp .ge 16, 3, 7, [20], 0) else none)
  else (bif Nat.beq pc 7 then some (.aload_n 0, 1, 8, [], 0) else none))
  else ((fun pc => bif Nat.ble pc 8 then (bif Nat.beq pc 8 then some (.getfield 11, 3, 11, [], 0) else none)
  else (bif Nat.ble pc 11 then (bif Nat.beq pc 11 then some (.iload_n 2, 1, 12, [], 0) else none)
  else (bif Nat.beq pc 12 then some (.iconst 0, 1, 13, [], 0) else none))) : nk_F) pc) : nk_F) pc) : nk_F) pc
  else ((fun pc => bif Nat.ble pc 20 then ((fun pc => bif Nat.ble pc 14 then (bif Nat.ble pc 13 then (bif Nat.beq pc 13 then some (.iastore, 1, 14, [], 0) else none)
  else (bif Nat.beq pc 14 then some (.iinc 2 1, 3, 17, [], 1) else none))
  else (bif Nat.ble pc 17 then (bif Nat.beq pc 17 then some (.goto (-15), 3, 20, [2], 0) else none)
  else (bif Nat.beq pc 20 then some (.iconst 0, 1, 21, [], 0) else none))) : nk_F) pc
  else ((fun pc => bif Nat.ble pc 22 then (bif Nat.ble pc 21 then (bif Nat.beq pc 21 then some (.istore_n 2, 1, 22, [], 0) else none)
  else (bif Nat.beq pc 22 then some (.iload_n 2, 1, 23, [], 0) else none))
  else ((fun pc => bif Nat.ble pc 23 then (bif Nat.beq pc 23 then some (.aload_n 1, 1, 24, [], 0) else none)
  else (bif Nat.ble pc 24 then (bif Nat.beq pc 24 then some (.getfield 15, 3, 27, [], 0) else none)
  else (bif Nat.beq pc 27 then some (.if_icmp .ge 97, 3, 30, [124], 0) else none))) : nk_F) pc) : nk_F) pc) : nk_F) pc) : nk_F) pc
  else ((fun pc => bif Nat.ble pc 47 then ((fun pc => bif Nat.ble pc 35 then ((fun pc => bif Nat.ble pc 31 then (bif Nat.ble pc 30 then (bif Nat.beq pc 30 then some (.aload_n 1, 1, 31, [], 0) else none)
  else (bif Nat.beq pc 31 then some (.getfield 21, 3, 34, [], 0) else none))
  else (bif Nat.ble pc 34 then (bif Nat.beq pc 34 then some (.iload_n 2, 1, 35, [], 0) else none)
  else (bif Nat.beq pc 35 then some (.iaload, 1, 36, [], 0) else none))) : nk_F) pc
  else ((fun pc => bif Nat.ble pc 38 then (bif Nat.ble pc 36 then (bif Nat.beq pc 36 then some (.bipush 32, 2, 38, [], 32) else none)
  else (bif Nat.beq pc 38 then some (.if_icmp .ne 9, 3, 41, [47], 0) else none))
  else ((fun pc => bif Nat.ble pc 41 then (bif Nat.beq pc 41 then some (.iinc 2 1, 3, 44, [], 1) else none)
  else (bif Nat.ble pc 44 then (bif Nat.beq pc 44 then some (.goto (-22), 3, 47, [22], 0) else none)
  else (bif Nat.beq pc 47 then some (.aload_n 1, 1, 48, [], 0) else none))) : nk_F) pc) : nk_F) pc) : nk_F) pc
  else ((fun pc => bif Nat.ble pc 56 then ((fun pc => bif Nat.ble pc 51 then (bif Nat.ble pc 48 then (bif Nat.beq pc 48 then some (.getfield 21, 3, 51, [], 0) else none)
  else (bif Nat.beq pc 51 then some (.iload_n 2, 1, 52, [], 0) else none))
  else ((fun pc => bif Nat.ble pc 52 then (bif Nat.beq pc 52 then some (.iaload, 1, 53, [], 0) else none)
  else (bif Nat.ble pc 53 then (bif Nat.beq pc 53 then some (.invokestatic 24, 3, 56, [], 0) else none)
  else (bif Nat.beq pc 56 then some (.istore_n 3, 1, 57, [], 0) else none))) : nk_F) pc) : nk_F) pc
  else ((fun pc => bif Nat.ble pc 58 then (bif Nat.ble pc 57 then (bif Nat.beq pc 57 then some (.iload_n 3, 1, 58, [], 0) else none)
  else (bif Nat.beq pc 58 then some (.ifCond .lt 12, 3, 61, [70], 0) else none))
  else ((fun pc => bif Nat.ble pc 61 then (bif Nat.beq pc 61 then some (.aload_n 0, 1, 62, [], 0) else none)
  else (bif Nat.ble pc 62 then (bif Nat.beq pc 62 then some (.getfield 11, 3, 65, [], 0) else none)
  else (bif Nat.beq pc 65 then some (.iload_n 3, 1, 66, [], 0) else none))) : nk_F) pc) : nk_F) pc) : nk_F) pc) : nk_F) pc) : nk_F) pc
  else ((fun pc => bif Nat.ble pc 94 then ((fun pc => bif Nat.ble pc 76 then ((fun pc => bif Nat.ble pc 71 then ((fun pc => bif Nat.ble pc 67 then (bif Nat.ble pc 66 then (bif Nat.beq pc 66 then some (.iaload, 1, 67, [], 0) else none)
  else (bif Nat.beq pc 67 then some (.ifCond .eq 5, 3, 70, [72], 0) else none))
  else (bif Nat.ble pc 70 then (bif Nat.beq pc 70 then some (.iload_n 2, 1, 71, [], 0) else none)
  else (bif Nat.beq pc 71 then some (.ireturn, 1, 72, [], 0) else none))) : nk_F) pc
  else ((fun pc => bif Nat.ble pc 73 then (bif Nat.ble pc 72 then (bif Nat.beq pc 72 then some (.iload_n 2, 1, 73, [], 0) else none)
  else (bif Nat.beq pc 73 then some (.iconst 1, 1, 74, [], 1) else none))
  else ((fun pc => bif Nat.ble pc 74 then (bif Nat.beq pc 74 then some (.iadd, 1, 75, [], 0) else none)
  else (bif Nat.ble pc 75 then (bif Nat.beq pc 75 then some (.aload_n 1, 1, 76, [], 0) else none)
  else (bif Nat.beq pc 76 then some (.getfield 15, 3, 79, [], 0) else none))) : nk_F) pc) : nk_F) pc) : nk_F) pc
  else ((fun pc => bif Nat.ble pc 87 then ((fun pc => bif Nat.ble pc 82 then (bif Nat.ble pc 79 then (bif Nat.beq pc 79 then some (.if_icmp .lt 8, 3, 82, [87], 0) else none)
  else (bif Nat.beq pc 82 then some (.aload_n 1, 1, 83, [], 0) else none))
  else ((fun pc => bif Nat.ble pc 83 then (bif Nat.beq pc 83 then some (.getfield 15, 3, 86, [], 0) else none)
  else (bif Nat.ble pc 86 then (bif Nat.beq pc 86 then some (.ireturn, 1, 87, [], 0) else none)
  else (bif Nat.beq pc 87 then some (.aload_n 0, 1, 88, [], 0) else none))) : nk_F) pc) : nk_F) pc
  else ((fun pc => bif Nat.ble pc 91 then (bif Nat.ble pc 88 then (bif Nat.beq pc 88 then some (.getfield 11, 3, 91, [], 0) else none)
  else (bif Nat.beq pc 91 then some (.iload_n 3, 1, 92, [], 0) else none))
  else ((fun pc => bif Nat.ble pc 92 then (bif Nat.beq pc 92 then some (.iload_n 3, 1, 93, [], 0) else none)
  else (bif Nat.ble pc 93 then (bif Nat.beq pc 93 then some (.aload_n 1, 1, 94, [], 0) else none)
  else (bif Nat.beq pc 94 then some (.getfield 21, 3, 97, [], 0) else none))) : nk_F) pc) : nk_F) pc) : nk_F) pc) : nk_F) pc
  else ((fun pc => bif Nat.ble pc 109 then ((fun pc => bif Nat.ble pc 100 then ((fun pc => bif Nat.ble pc 98 then (bif Nat.ble pc 97 then (bif Nat.beq pc 97 then some (.iload_n 2, 1, 98, [], 0) else none)
  else (bif Nat.beq pc 98 then some (.iconst 1, 1, 99, [], 1) else none))
  else (bif Nat.ble pc 99 then (bif Nat.beq pc 99 then some (.iadd, 1, 100, [], 0) else none)
  else (bif Nat.beq pc 100 then some (.iaload, 1, 101, [], 0) else none))) : nk_F) pc
  else ((fun pc => bif Nat.ble pc 104 then (bif Nat.ble pc 101 then (bif Nat.beq pc 101 then some (.invokestatic 28, 3, 104, [], 0) else none)
  else (bif Nat.beq pc 104 then some (.iastore, 1, 105, [], 0) else none))
  else ((fun pc => bif Nat.ble pc 105 then (bif Nat.beq pc 105 then some (.aload_n 0, 1, 106, [], 0) else none)
  else (bif Nat.ble pc 106 then (bif Nat.beq pc 106 then some (.getfield 11, 3, 109, [], 0) else none)
  else (bif Nat.beq pc 109 then some (.iload_n 3, 1, 110, [], 0) else none))) : nk_F) pc) : nk_F) pc) : nk_F) pc
  else ((fun pc => bif Nat.ble pc 116 then ((fun pc => bif Nat.ble pc 111 then (bif Nat.ble pc 110 then (bif Nat.beq pc 110 then some (.iaload, 1, 111, [], 0) else none)
  else (bif Nat.beq pc 111 then some (.ifCond .ne 7, 3, 114, [118], 0) else none))
  else ((fun pc => bif Nat.ble pc 114 then (bif Nat.beq pc 114 then some (.iload_n 2, 1, 115, [], 0) else none)
  else (bif Nat.ble pc 115 then (bif Nat.beq pc 115 then some (.iconst 1, 1, 116, [], 1) else none)
  else (bif Nat.beq pc 116 then some (.iadd, 1, 117, [], 0) else none))) : nk_F) pc) : nk_F) pc
  else ((fun pc => bif Nat.ble pc 118 then (bif Nat.ble pc 117 then (bif Nat.beq pc 117 then some (.ireturn, 1, 118, [], 0) else none)
  else (bif Nat.beq pc 118 then some (.iinc 2 2, 3, 121, [], 2) else none))
  else ((fun pc => bif Nat.ble pc 121 then (bif Nat.beq pc 121 then some (.goto (-99), 3, 124, [22], 0) else none)
  else (bif Nat.ble pc 124 then (bif Nat.beq pc 124 then some (.bipush (-9), 2, 126, [], (-9)) else none)
  else (bif Nat.beq pc 126 then some (.ireturn, 1, 127, [], 0) else none))) : nk_F) pc) : nk_F) pc) : nk_F) pc) : nk_F) pc) : nk_F) pc
noncomputable def kc_X2_read : Nat → Option nk_I := nk_top 127 kt_X2_read
noncomputable def kx_X2_read : nk_T := ([(11, 2, 0, 4), (15, 3, 1, 0), (21, 3, 0, 5)], [(98, 1, 0, 0, 0, ev_X2_wordOf), (114, 2, 0, 0, 0, ev_X2_choiceOf)], [], [], [], [], [], 1, false, 0, 0)
noncomputable def ev_X2_read : nk_Ev := fun as h Q => nk_if (Nat.ble (nk_wd as) 4) (nk_ev kx_X2_read kc_X2_read 4 as h Q)
set_option maxRecDepth 100000 in
theorem ck_X2_read : nk_chk cX2_read kc_X2_read 127 = true := nd_chk (by decide +kernel) (by decide +kernel)
set_option maxRecDepth 100000 in
set_option maxHeartbeats 4000000 in
theorem ca_X2_read_98 (l : Launch) : nk_CallOk l { frames := 1, cells := 0, slots := 0, locals := 22 } RX2 cX2_read 4 false 98 (1, 0, 0, 0, ev_X2_wordOf) := nk_callS (x := 24) (n := 1) (mt_X2_wordOf l) (nk_msc [(2, 174), (2, 175), (2, 176), (1, 3)] (by decide +kernel)) rfl rfl (by decide +kernel) ⟨by decide, by decide⟩
set_option maxRecDepth 100000 in
set_option maxHeartbeats 4000000 in
theorem ca_X2_read_114 (l : Launch) : nk_CallOk l { frames := 1, cells := 0, slots := 0, locals := 22 } RX2 cX2_read 4 false 114 (2, 0, 0, 0, ev_X2_choiceOf) := nk_callS (x := 28) (n := 2) (mt_X2_choiceOf l) (nk_msc [(2, 179), (2, 180), (2, 181), (1, 3)] (by decide +kernel)) rfl rfl (by decide +kernel) ⟨by decide, by decide⟩
set_option maxRecDepth 100000 in
set_option maxHeartbeats 4000000 in
theorem mt_X2_read (l : Launch) : nk_Met l yX2_read cX2_read 4 (some .int) { frames := 1, cells := 0, slots := 0, locals := 22 } false 0 0 ev_X2_read :=
  nk_met nk_gok (plainFor_of_name (by decide)) ck_X2_read (nk_top_out 127 kt_X2_read) ⟨List.forall_mem_cons.mpr ⟨nk_fkc [(1, 50)] (by decide +kernel), List.forall_mem_cons.mpr ⟨nk_fkc [(1, 128)] (by decide +kernel), List.forall_mem_cons.mpr ⟨nk_fkc [(1, 125)] (by decide +kernel), fun _ h => absurd h List.not_mem_nil⟩⟩⟩, List.forall_mem_cons.mpr ⟨ca_X2_read_98 l, List.forall_mem_cons.mpr ⟨ca_X2_read_114 l, fun _ h => absurd h List.not_mem_nil⟩⟩, fun _ h => absurd h List.not_mem_nil, fun _ h => absurd h List.not_mem_nil, fun _ h => absurd h List.not_mem_nil, fun _ h => absurd h List.not_mem_nil, fun _ h => absurd h List.not_mem_nil, by decide, rfl, rfl⟩ rfl (by decide)
/-! MarbleLaw$LawReader.number()I -/
noncomputable def kt_X2_number : Nat → Option nk_I := fun pc => bif Nat.ble pc 23 then ((fun pc => bif Nat.ble pc 9 then ((fun pc => bif Nat.ble pc 3 then ((fun pc => bif Nat.ble pc 1 then (bif Nat.ble pc 0 then (bif Nat.beq pc 0 then some (.iconst 0, 1, 1, [], 0) else none)
  else (bif Nat.beq pc 1 then some (.istore_n 1, 1, 2, [], 0) else none))
  else (bif Nat.ble pc 2 then (bif Nat.beq pc 2 then some (.iconst 0, 1, 3, [], 0) else none)
  else (bif Nat.beq pc 3 then some (.istore_n 2, 1, 4, [], 0) else none))) : nk_F) pc
  else ((fun pc => bif Nat.ble pc 5 then (bif Nat.ble pc 4 then (bif Nat.beq pc 4 then some (.iload_n 2, 1, 5, [], 0) else none)
  else (bif Nat.beq pc 5 then some (.iconst 5, 1, 6, [], 5) else none))
  else (bif Nat.ble pc 6 then (bif Nat.beq pc 6 then some (.if_icmp .ge 45, 3, 9, [51], 0) else none)
  else (bif Nat.beq pc 9 then some (.iload_n 2, 1, 10, [], 0) else none))) : nk_F) pc) : nk_F) pc
  else ((fun pc => bif Nat.ble pc 15 then ((fun pc => bif Nat.ble pc 11 then (bif Nat.ble pc 10 then (bif Nat.beq pc 10 then some (.iconst 4, 1, 11, [], 4) else none)
  else (bif Nat.beq pc 11 then some (.if_icmp .ne 7, 3, 14, [18], 0) else none))
  else (bif Nat.ble pc 14 then (bif Nat.beq pc 14 then some (.iconst 2, 1, 15, [], 2) else none)
  else (bif Nat.beq pc 15 then some (.goto 4, 3, 18, [19], 0) else none))) : nk_F) pc
  else ((fun pc => bif Nat.ble pc 19 then (bif Nat.ble pc 18 then (bif Nat.beq pc 18 then some (.iconst 1, 1, 19, [], 1) else none)
  else (bif Nat.beq pc 19 then some (.istore_n 3, 1, 20, [], 0) else none))
  else ((fun pc => bif Nat.ble pc 20 then (bif Nat.beq pc 20 then some (.bipush 10, 2, 22, [], 10) else none)
  else (bif Nat.ble pc 22 then (bif Nat.beq pc 22 then some (.iload_n 1, 1, 23, [], 0) else none)
  else (bif Nat.beq pc 23 then some (.imul, 1, 24, [], 0) else none))) : nk_F) pc) : nk_F) pc) : nk_F) pc) : nk_F) pc
  else ((fun pc => bif Nat.ble pc 37 then ((fun pc => bif Nat.ble pc 29 then ((fun pc => bif Nat.ble pc 25 then (bif Nat.ble pc 24 then (bif Nat.beq pc 24 then some (.aload_n 0, 1, 25, [], 0) else none)
  else (bif Nat.beq pc 25 then some (.getfield 11, 3, 28, [], 0) else none))
  else (bif Nat.ble pc 28 then (bif Nat.beq pc 28 then some (.iload_n 2, 1, 29, [], 0) else none)
  else (bif Nat.beq pc 29 then some (.iaload, 1, 30, [], 0) else none))) : nk_F) pc
  else ((fun pc => bif Nat.ble pc 33 then (bif Nat.ble pc 30 then (bif Nat.beq pc 30 then some (.ifCond .ne 7, 3, 33, [37], 0) else none)
  else (bif Nat.beq pc 33 then some (.iload_n 3, 1, 34, [], 0) else none))
  else (bif Nat.ble pc 34 then (bif Nat.beq pc 34 then some (.goto 9, 3, 37, [43], 0) else none)
  else (bif Nat.beq pc 37 then some (.aload_n 0, 1, 38, [], 0) else none))) : nk_F) pc) : nk_F) pc
  else ((fun pc => bif Nat.ble pc 43 then ((fun pc => bif Nat.ble pc 41 then (bif Nat.ble pc 38 then (bif Nat.beq pc 38 then some (.getfield 11, 3, 41, [], 0) else none)
  else (bif Nat.beq pc 41 then some (.iload_n 2, 1, 42, [], 0) else none))
  else (bif Nat.ble pc 42 then (bif Nat.beq pc 42 then some (.iaload, 1, 43, [], 0) else none)
  else (bif Nat.beq pc 43 then some (.iadd, 1, 44, [], 0) else none))) : nk_F) pc
  else ((fun pc => bif Nat.ble pc 45 then (bif Nat.ble pc 44 then (bif Nat.beq pc 44 then some (.istore_n 1, 1, 45, [], 0) else none)
  else (bif Nat.beq pc 45 then some (.iinc 2 1, 3, 48, [], 1) else none))
  else ((fun pc => bif Nat.ble pc 48 then (bif Nat.beq pc 48 then some (.goto (-44), 3, 51, [4], 0) else none)
  else (bif Nat.ble pc 51 then (bif Nat.beq pc 51 then some (.iload_n 1, 1, 52, [], 0) else none)
  else (bif Nat.beq pc 52 then some (.ireturn, 1, 53, [], 0) else none))) : nk_F) pc) : nk_F) pc) : nk_F) pc) : nk_F) pc
noncomputable def kc_X2_number : Nat → Option nk_I := nk_top 53 kt_X2_number
noncomputable def kx_X2_number : nk_T := ([(11, 2, 0, 4)], [], [], [], [], [], [], 1, false, 0, 0)
noncomputable def ev_X2_number : nk_Ev := fun as h Q => nk_if (Nat.ble (nk_wd as) 4) (nk_ev kx_X2_number kc_X2_number 4 as h Q)
set_option maxRecDepth 100000 in
theorem ck_X2_number : nk_chk cX2_number kc_X2_number 53 = true := nd_chk (by decide +kernel) (by decide +kernel)
set_option maxRecDepth 100000 in
set_option maxHeartbeats 4000000 in
theorem mt_X2_number (l : Launch) : nk_Met l yX2_number cX2_number 4 (some .int) { frames := 0, cells := 0, slots := 0, locals := 0 } false 0 0 ev_X2_number :=
  nk_met nk_gok (plainFor_of_name (by decide)) ck_X2_number (nk_top_out 53 kt_X2_number) ⟨List.forall_mem_cons.mpr ⟨nk_fkc [(1, 50)] (by decide +kernel), fun _ h => absurd h List.not_mem_nil⟩, fun _ h => absurd h List.not_mem_nil, fun _ h => absurd h List.not_mem_nil, fun _ h => absurd h List.not_mem_nil, fun _ h => absurd h List.not_mem_nil, fun _ h => absurd h List.not_mem_nil, fun _ h => absurd h List.not_mem_nil, by decide, rfl, rfl⟩ rfl (by decide)
/-! MarbleLaw$LawReader.lawInOrder(I)I -/
noncomputable def kt_X2_lawInOrder : Nat → Option nk_I := fun pc => bif Nat.ble pc 24 then ((fun pc => bif Nat.ble pc 14 then ((fun pc => bif Nat.ble pc 7 then ((fun pc => bif Nat.ble pc 3 then (bif Nat.ble pc 0 then (bif Nat.beq pc 0 then some (.sipush 11111, 3, 3, [], 11111) else none)
  else (bif Nat.beq pc 3 then some (.sipush 10000, 3, 6, [], 10000) else none))
  else (bif Nat.ble pc 6 then (bif Nat.beq pc 6 then some (.iload_n 0, 1, 7, [], 0) else none)
  else (bif Nat.beq pc 7 then some (.iconst 4, 1, 8, [], 4) else none))) : nk_F) pc
  else ((fun pc => bif Nat.ble pc 9 then (bif Nat.ble pc 8 then (bif Nat.beq pc 8 then some (.ishr, 1, 9, [], 0) else none)
  else (bif Nat.beq pc 9 then some (.imul, 1, 10, [], 0) else none))
  else ((fun pc => bif Nat.ble pc 10 then (bif Nat.beq pc 10 then some (.iadd, 1, 11, [], 0) else none)
  else (bif Nat.ble pc 11 then (bif Nat.beq pc 11 then some (.sipush 1000, 3, 14, [], 1000) else none)
  else (bif Nat.beq pc 14 then some (.iload_n 0, 1, 15, [], 0) else none))) : nk_F) pc) : nk_F) pc) : nk_F) pc
  else ((fun pc => bif Nat.ble pc 18 then ((fun pc => bif Nat.ble pc 16 then (bif Nat.ble pc 15 then (bif Nat.beq pc 15 then some (.iconst 3, 1, 16, [], 3) else none)
  else (bif Nat.beq pc 16 then some (.ishr, 1, 17, [], 0) else none))
  else (bif Nat.ble pc 17 then (bif Nat.beq pc 17 then some (.iconst 1, 1, 18, [], 1) else none)
  else (bif Nat.beq pc 18 then some (.iand, 1, 19, [], 0) else none))) : nk_F) pc
  else ((fun pc => bif Nat.ble pc 20 then (bif Nat.ble pc 19 then (bif Nat.beq pc 19 then some (.imul, 1, 20, [], 0) else none)
  else (bif Nat.beq pc 20 then some (.iadd, 1, 21, [], 0) else none))
  else ((fun pc => bif Nat.ble pc 21 then (bif Nat.beq pc 21 then some (.bipush 100, 2, 23, [], 100) else none)
  else (bif Nat.ble pc 23 then (bif Nat.beq pc 23 then some (.iload_n 0, 1, 24, [], 0) else none)
  else (bif Nat.beq pc 24 then some (.iconst 2, 1, 25, [], 2) else none))) : nk_F) pc) : nk_F) pc) : nk_F) pc) : nk_F) pc
  else ((fun pc => bif Nat.ble pc 34 then ((fun pc => bif Nat.ble pc 28 then ((fun pc => bif Nat.ble pc 26 then (bif Nat.ble pc 25 then (bif Nat.beq pc 25 then some (.ishr, 1, 26, [], 0) else none)
  else (bif Nat.beq pc 26 then some (.iconst 1, 1, 27, [], 1) else none))
  else (bif Nat.ble pc 27 then (bif Nat.beq pc 27 then some (.iand, 1, 28, [], 0) else none)
  else (bif Nat.beq pc 28 then some (.imul, 1, 29, [], 0) else none))) : nk_F) pc
  else ((fun pc => bif Nat.ble pc 30 then (bif Nat.ble pc 29 then (bif Nat.beq pc 29 then some (.iadd, 1, 30, [], 0) else none)
  else (bif Nat.beq pc 30 then some (.bipush 10, 2, 32, [], 10) else none))
  else ((fun pc => bif Nat.ble pc 32 then (bif Nat.beq pc 32 then some (.iload_n 0, 1, 33, [], 0) else none)
  else (bif Nat.ble pc 33 then (bif Nat.beq pc 33 then some (.iconst 1, 1, 34, [], 1) else none)
  else (bif Nat.beq pc 34 then some (.ishr, 1, 35, [], 0) else none))) : nk_F) pc) : nk_F) pc) : nk_F) pc
  else ((fun pc => bif Nat.ble pc 38 then ((fun pc => bif Nat.ble pc 36 then (bif Nat.ble pc 35 then (bif Nat.beq pc 35 then some (.iconst 1, 1, 36, [], 1) else none)
  else (bif Nat.beq pc 36 then some (.iand, 1, 37, [], 0) else none))
  else (bif Nat.ble pc 37 then (bif Nat.beq pc 37 then some (.imul, 1, 38, [], 0) else none)
  else (bif Nat.beq pc 38 then some (.iadd, 1, 39, [], 0) else none))) : nk_F) pc
  else ((fun pc => bif Nat.ble pc 40 then (bif Nat.ble pc 39 then (bif Nat.beq pc 39 then some (.iload_n 0, 1, 40, [], 0) else none)
  else (bif Nat.beq pc 40 then some (.iconst 1, 1, 41, [], 1) else none))
  else ((fun pc => bif Nat.ble pc 41 then (bif Nat.beq pc 41 then some (.iand, 1, 42, [], 0) else none)
  else (bif Nat.ble pc 42 then (bif Nat.beq pc 42 then some (.iadd, 1, 43, [], 0) else none)
  else (bif Nat.beq pc 43 then some (.ireturn, 1, 44, [], 0) else none))) : nk_F) pc) : nk_F) pc) : nk_F) pc) : nk_F) pc
noncomputable def kc_X2_lawInOrder : Nat → Option nk_I := nk_top 44 kt_X2_lawInOrder
noncomputable def kx_X2_lawInOrder : nk_T := ([], [], [], [], [], [], [], 1, false, 0, 0)
noncomputable def ev_X2_lawInOrder : nk_Ev := fun as h Q => nk_if (Nat.ble (nk_wd as) 1) (nk_ev kx_X2_lawInOrder kc_X2_lawInOrder 1 as h Q)
set_option maxRecDepth 100000 in
theorem ck_X2_lawInOrder : nk_chk cX2_lawInOrder kc_X2_lawInOrder 44 = true := nd_chk (by decide +kernel) (by decide +kernel)
set_option maxRecDepth 100000 in
set_option maxHeartbeats 4000000 in
theorem mt_X2_lawInOrder (l : Launch) : nk_Met l yX2_lawInOrder cX2_lawInOrder 1 (some .int) { frames := 0, cells := 0, slots := 0, locals := 0 } false 0 0 ev_X2_lawInOrder :=
  nk_met nk_gok (plainFor_of_name (by decide)) ck_X2_lawInOrder (nk_top_out 44 kt_X2_lawInOrder) ⟨fun _ h => absurd h List.not_mem_nil, fun _ h => absurd h List.not_mem_nil, fun _ h => absurd h List.not_mem_nil, fun _ h => absurd h List.not_mem_nil, fun _ h => absurd h List.not_mem_nil, fun _ h => absurd h List.not_mem_nil, fun _ h => absurd h List.not_mem_nil, by decide, rfl, rfl⟩ rfl (by decide)
/-! MarbleLaw$LawReader.wordsBetween(II)I -/
noncomputable def kt_X2_wordsBetween : Nat → Option nk_I := fun pc => bif Nat.ble pc 25 then ((fun pc => bif Nat.ble pc 10 then ((fun pc => bif Nat.ble pc 3 then ((fun pc => bif Nat.ble pc 1 then (bif Nat.ble pc 0 then (bif Nat.beq pc 0 then some (.iconst 0, 1, 1, [], 0) else none)
  else (bif Nat.beq pc 1 then some (.istore_n 2, 1, 2, [], 0) else none))
  else (bif Nat.ble pc 2 then (bif Nat.beq pc 2 then some (.iload_n 0, 1, 3, [], 0) else none)
  else (bif Nat.beq pc 3 then some (.istore_n 3, 1, 4, [], 0) else none))) : nk_F) pc
  else ((fun pc => bif Nat.ble pc 5 then (bif Nat.ble pc 4 then (bif Nat.beq pc 4 then some (.iload_n 1, 1, 5, [], 0) else none)
  else (bif Nat.beq pc 5 then some (.istore 4, 2, 7, [], 0) else none))
  else ((fun pc => bif Nat.ble pc 7 then (bif Nat.beq pc 7 then some (.iconst 0, 1, 8, [], 0) else none)
  else (bif Nat.ble pc 8 then (bif Nat.beq pc 8 then some (.istore 5, 2, 10, [], 0) else none)
  else (bif Nat.beq pc 10 then some (.iload 5, 2, 12, [], 0) else none))) : nk_F) pc) : nk_F) pc) : nk_F) pc
  else ((fun pc => bif Nat.ble pc 17 then ((fun pc => bif Nat.ble pc 13 then (bif Nat.ble pc 12 then (bif Nat.beq pc 12 then some (.iconst 5, 1, 13, [], 5) else none)
  else (bif Nat.beq pc 13 then some (.if_icmp .ge 41, 3, 16, [54], 0) else none))
  else (bif Nat.ble pc 16 then (bif Nat.beq pc 16 then some (.iload_n 2, 1, 17, [], 0) else none)
  else (bif Nat.beq pc 17 then some (.iload_n 3, 1, 18, [], 0) else none))) : nk_F) pc
  else ((fun pc => bif Nat.ble pc 20 then (bif Nat.ble pc 18 then (bif Nat.beq pc 18 then some (.bipush 10, 2, 20, [], 10) else none)
  else (bif Nat.beq pc 20 then some (.irem, 1, 21, [], 0) else none))
  else ((fun pc => bif Nat.ble pc 21 then (bif Nat.beq pc 21 then some (.iload 4, 2, 23, [], 0) else none)
  else (bif Nat.ble pc 23 then (bif Nat.beq pc 23 then some (.bipush 10, 2, 25, [], 10) else none)
  else (bif Nat.beq pc 25 then some (.irem, 1, 26, [], 0) else none))) : nk_F) pc) : nk_F) pc) : nk_F) pc) : nk_F) pc
  else ((fun pc => bif Nat.ble pc 39 then ((fun pc => bif Nat.ble pc 33 then ((fun pc => bif Nat.ble pc 29 then (bif Nat.ble pc 26 then (bif Nat.beq pc 26 then some (.if_icmp .ne 7, 3, 29, [33], 0) else none)
  else (bif Nat.beq pc 29 then some (.iconst 0, 1, 30, [], 0) else none))
  else (bif Nat.ble pc 30 then (bif Nat.beq pc 30 then some (.goto 4, 3, 33, [34], 0) else none)
  else (bif Nat.beq pc 33 then some (.iconst 1, 1, 34, [], 1) else none))) : nk_F) pc
  else ((fun pc => bif Nat.ble pc 35 then (bif Nat.ble pc 34 then (bif Nat.beq pc 34 then some (.iadd, 1, 35, [], 0) else none)
  else (bif Nat.beq pc 35 then some (.istore_n 2, 1, 36, [], 0) else none))
  else ((fun pc => bif Nat.ble pc 36 then (bif Nat.beq pc 36 then some (.iload_n 3, 1, 37, [], 0) else none)
  else (bif Nat.ble pc 37 then (bif Nat.beq pc 37 then some (.bipush 10, 2, 39, [], 10) else none)
  else (bif Nat.beq pc 39 then some (.idiv, 1, 40, [], 0) else none))) : nk_F) pc) : nk_F) pc) : nk_F) pc
  else ((fun pc => bif Nat.ble pc 45 then ((fun pc => bif Nat.ble pc 41 then (bif Nat.ble pc 40 then (bif Nat.beq pc 40 then some (.istore_n 3, 1, 41, [], 0) else none)
  else (bif Nat.beq pc 41 then some (.iload 4, 2, 43, [], 0) else none))
  else (bif Nat.ble pc 43 then (bif Nat.beq pc 43 then some (.bipush 10, 2, 45, [], 10) else none)
  else (bif Nat.beq pc 45 then some (.idiv, 1, 46, [], 0) else none))) : nk_F) pc
  else ((fun pc => bif Nat.ble pc 48 then (bif Nat.ble pc 46 then (bif Nat.beq pc 46 then some (.istore 4, 2, 48, [], 0) else none)
  else (bif Nat.beq pc 48 then some (.iinc 5 1, 3, 51, [], 1) else none))
  else ((fun pc => bif Nat.ble pc 51 then (bif Nat.beq pc 51 then some (.goto (-41), 3, 54, [10], 0) else none)
  else (bif Nat.ble pc 54 then (bif Nat.beq pc 54 then some (.iload_n 2, 1, 55, [], 0) else none)
  else (bif Nat.beq pc 55 then some (.ireturn, 1, 56, [], 0) else none))) : nk_F) pc) : nk_F) pc) : nk_F) pc) : nk_F) pc
noncomputable def kc_X2_wordsBetween : Nat → Option nk_I := nk_top 56 kt_X2_wordsBetween
noncomputable def kx_X2_wordsBetween : nk_T := ([], [], [], [], [], [], [], 1, false, 0, 0)
noncomputable def ev_X2_wordsBetween : nk_Ev := fun as h Q => nk_if (Nat.ble (nk_wd as) 6) (nk_ev kx_X2_wordsBetween kc_X2_wordsBetween 6 as h Q)
set_option maxRecDepth 100000 in
theorem ck_X2_wordsBetween : nk_chk cX2_wordsBetween kc_X2_wordsBetween 56 = true := nd_chk (by decide +kernel) (by decide +kernel)
set_option maxRecDepth 100000 in
set_option maxHeartbeats 4000000 in
theorem mt_X2_wordsBetween (l : Launch) : nk_Met l yX2_wordsBetween cX2_wordsBetween 6 (some .int) { frames := 0, cells := 0, slots := 0, locals := 0 } false 0 0 ev_X2_wordsBetween :=
  nk_met nk_gok (plainFor_of_name (by decide)) ck_X2_wordsBetween (nk_top_out 56 kt_X2_wordsBetween) ⟨fun _ h => absurd h List.not_mem_nil, fun _ h => absurd h List.not_mem_nil, fun _ h => absurd h List.not_mem_nil, fun _ h => absurd h List.not_mem_nil, fun _ h => absurd h List.not_mem_nil, fun _ h => absurd h List.not_mem_nil, fun _ h => absurd h List.not_mem_nil, by decide, rfl, rfl⟩ rfl (by decide)
/-! MarbleLaw$Row.<init>()V -/
noncomputable def kt_X3_init : Nat → Option nk_I := fun pc => bif Nat.ble pc 7 then ((fun pc => bif Nat.ble pc 1 then (bif Nat.ble pc 0 then (bif Nat.beq pc 0 then some (.aload_n 0, 1, 1, [], 0) else none)
  else (bif Nat.beq pc 1 then some (.invokespecial 3, 3, 4, [], 0) else none))
  else ((fun pc => bif Nat.ble pc 4 then (bif Nat.beq pc 4 then some (.aload_n 0, 1, 5, [], 0) else none)
  else (bif Nat.ble pc 5 then (bif Nat.beq pc 5 then some (.bipush 40, 2, 7, [], 40) else none)
  else (bif Nat.beq pc 7 then some (.newarray .int, 2, 9, [], 0) else none))) : nk_F) pc) : nk_F) pc
  else ((fun pc => bif Nat.ble pc 12 then (bif Nat.ble pc 9 then (bif Nat.beq pc 9 then some (.putfield 9, 3, 12, [], 0) else none)
  else (bif Nat.beq pc 12 then some (.aload_n 0, 1, 13, [], 0) else none))
  else ((fun pc => bif Nat.ble pc 13 then (bif Nat.beq pc 13 then some (.iconst (-1), 1, 14, [], (-1)) else none)
  else (bif Nat.ble pc 14 then (bif Nat.beq pc 14 then some (.putfield 15, 3, 17, [], 0) else none)
  else (bif Nat.beq pc 17 then some (.return_, 1, 18, [], 0) else none))) : nk_F) pc) : nk_F) pc
noncomputable def kc_X3_init : Nat → Option nk_I := nk_top 18 kt_X3_init
noncomputable def kx_X3_init : nk_T := ([(9, 3, 0, 4), (15, 3, 1, 0)], [(13, 1, 4, 0, 0, fun _ h K => K none h)], [], [], [], [], [], 0, true, 1, 40)
noncomputable def ev_X3_init : nk_Ev := fun as h Q => nk_if (Nat.ble (nk_wd as) 1) (nk_ev kx_X3_init kc_X3_init 1 as h Q)
set_option maxRecDepth 100000 in
theorem ck_X3_init : nk_chk cX3_init kc_X3_init 18 = true := nd_chk (by decide +kernel) (by decide +kernel)
set_option maxRecDepth 100000 in
set_option maxHeartbeats 4000000 in
theorem ca_X3_init_13 (l : Launch) : nk_CallOk l { frames := 1, cells := 1, slots := 40, locals := 20 } RX3 cX3_init 1 true 13 (1, 4, 0, 0, fun _ h K => K none h) := nk_callO (x := 3) (nk_mc [(1, 123), (1, 17), (1, 18)] (by decide +kernel)) (nk_mc [(1, 123), (1, 17), (1, 18)] (by decide +kernel)) (nk_mc [(1, 123), (1, 17), (1, 18)] (by decide +kernel)) ⟨by decide, by decide⟩
set_option maxRecDepth 100000 in
set_option maxHeartbeats 4000000 in
theorem mt_X3_init (l : Launch) : nk_Met l yX3_init cX3_init 1 none { frames := 1, cells := 1, slots := 40, locals := 20 } true 1 40 ev_X3_init :=
  nk_met nk_gok (plainFor_of_name (by decide)) ck_X3_init (nk_top_out 18 kt_X3_init) ⟨List.forall_mem_cons.mpr ⟨nk_fkc [(1, 124)] (by decide +kernel), List.forall_mem_cons.mpr ⟨nk_fkc [(1, 127)] (by decide +kernel), fun _ h => absurd h List.not_mem_nil⟩⟩, List.forall_mem_cons.mpr ⟨ca_X3_init_13 l, fun _ h => absurd h List.not_mem_nil⟩, fun _ h => absurd h List.not_mem_nil, fun _ h => absurd h List.not_mem_nil, fun _ h => absurd h List.not_mem_nil, fun _ h => absurd h List.not_mem_nil, fun _ h => absurd h List.not_mem_nil, by decide, rfl, rfl⟩ rfl (by decide)
/-! MarbleLaw$Row.isMissing()Z -/
noncomputable def kt_X3_isMissing : Nat → Option nk_I := fun pc => bif Nat.ble pc 5 then ((fun pc => bif Nat.ble pc 1 then (bif Nat.ble pc 0 then (bif Nat.beq pc 0 then some (.aload_n 0, 1, 1, [], 0) else none)
  else (bif Nat.beq pc 1 then some (.getfield 15, 3, 4, [], 0) else none))
  else (bif Nat.ble pc 4 then (bif Nat.beq pc 4 then some (.iconst (-1), 1, 5, [], (-1)) else none)
  else (bif Nat.beq pc 5 then some (.if_icmp .ne 7, 3, 8, [12], 0) else none))) : nk_F) pc
  else ((fun pc => bif Nat.ble pc 9 then (bif Nat.ble pc 8 then (bif Nat.beq pc 8 then some (.iconst 1, 1, 9, [], 1) else none)
  else (bif Nat.beq pc 9 then some (.goto 4, 3, 12, [13], 0) else none))
  else (bif Nat.ble pc 12 then (bif Nat.beq pc 12 then some (.iconst 0, 1, 13, [], 0) else none)
  else (bif Nat.beq pc 13 then some (.ireturn, 1, 14, [], 0) else none))) : nk_F) pc
noncomputable def kc_X3_isMissing : Nat → Option nk_I := nk_top 14 kt_X3_isMissing
noncomputable def kx_X3_isMissing : nk_T := ([(15, 3, 1, 0)], [], [], [], [], [], [], 2, false, 0, 0)
noncomputable def ev_X3_isMissing : nk_Ev := fun as h Q => nk_if (Nat.ble (nk_wd as) 1) (nk_ev kx_X3_isMissing kc_X3_isMissing 1 as h Q)
set_option maxRecDepth 100000 in
theorem ck_X3_isMissing : nk_chk cX3_isMissing kc_X3_isMissing 14 = true := nd_chk (by decide +kernel) (by decide +kernel)
set_option maxRecDepth 100000 in
set_option maxHeartbeats 4000000 in
theorem mt_X3_isMissing (l : Launch) : nk_Met l yX3_isMissing cX3_isMissing 1 (some .boolean) { frames := 0, cells := 0, slots := 0, locals := 0 } false 0 0 ev_X3_isMissing :=
  nk_met nk_gok (plainFor_of_name (by decide)) ck_X3_isMissing (nk_top_out 14 kt_X3_isMissing) ⟨List.forall_mem_cons.mpr ⟨nk_fkc [(1, 127)] (by decide +kernel), fun _ h => absurd h List.not_mem_nil⟩, fun _ h => absurd h List.not_mem_nil, fun _ h => absurd h List.not_mem_nil, fun _ h => absurd h List.not_mem_nil, fun _ h => absurd h List.not_mem_nil, fun _ h => absurd h List.not_mem_nil, fun _ h => absurd h List.not_mem_nil, by decide, rfl, rfl⟩ rfl (by decide)
/-! MarbleLaw$Row.begin(II)V -/
noncomputable def kt_X3_begin : Nat → Option nk_I := fun pc => bif Nat.ble pc 12 then ((fun pc => bif Nat.ble pc 3 then ((fun pc => bif Nat.ble pc 1 then (bif Nat.ble pc 0 then (bif Nat.beq pc 0 then some (.iconst 0, 1, 1, [], 0) else none)
  else (bif Nat.beq pc 1 then some (.istore_n 3, 1, 2, [], 0) else none))
  else (bif Nat.ble pc 2 then (bif Nat.beq pc 2 then some (.iload_n 3, 1, 3, [], 0) else none)
  else (bif Nat.beq pc 3 then some (.bipush 40, 2, 5, [], 40) else none))) : nk_F) pc
  else ((fun pc => bif Nat.ble pc 8 then (bif Nat.ble pc 5 then (bif Nat.beq pc 5 then some (.if_icmp .ge 16, 3, 8, [21], 0) else none)
  else (bif Nat.beq pc 8 then some (.aload_n 0, 1, 9, [], 0) else none))
  else (bif Nat.ble pc 9 then (bif Nat.beq pc 9 then some (.getfield 9, 3, 12, [], 0) else none)
  else (bif Nat.beq pc 12 then some (.iload_n 3, 1, 13, [], 0) else none))) : nk_F) pc) : nk_F) pc
  else ((fun pc => bif Nat.ble pc 18 then ((fun pc => bif Nat.ble pc 14 then (bif Nat.ble pc 13 then (bif Nat.beq pc 13 then some (.iload_n 2, 1, 14, [], 0) else none)
  else (bif Nat.beq pc 14 then some (.iastore, 1, 15, [], 0) else none))
  else (bif Nat.ble pc 15 then (bif Nat.beq pc 15 then some (.iinc 3 1, 3, 18, [], 1) else none)
  else (bif Nat.beq pc 18 then some (.goto (-16), 3, 21, [2], 0) else none))) : nk_F) pc
  else ((fun pc => bif Nat.ble pc 22 then (bif Nat.ble pc 21 then (bif Nat.beq pc 21 then some (.aload_n 0, 1, 22, [], 0) else none)
  else (bif Nat.beq pc 22 then some (.iload_n 1, 1, 23, [], 0) else none))
  else (bif Nat.ble pc 23 then (bif Nat.beq pc 23 then some (.putfield 15, 3, 26, [], 0) else none)
  else (bif Nat.beq pc 26 then some (.return_, 1, 27, [], 0) else none))) : nk_F) pc) : nk_F) pc
noncomputable def kc_X3_begin : Nat → Option nk_I := nk_top 27 kt_X3_begin
noncomputable def kx_X3_begin : nk_T := ([(9, 3, 0, 4), (15, 3, 1, 0)], [], [], [], [], [], [], 0, false, 0, 0)
noncomputable def ev_X3_begin : nk_Ev := fun as h Q => nk_if (Nat.ble (nk_wd as) 4) (nk_ev kx_X3_begin kc_X3_begin 4 as h Q)
set_option maxRecDepth 100000 in
theorem ck_X3_begin : nk_chk cX3_begin kc_X3_begin 27 = true := nd_chk (by decide +kernel) (by decide +kernel)
set_option maxRecDepth 100000 in
set_option maxHeartbeats 4000000 in
theorem mt_X3_begin (l : Launch) : nk_Met l yX3_begin cX3_begin 4 none { frames := 0, cells := 0, slots := 0, locals := 0 } false 0 0 ev_X3_begin :=
  nk_met nk_gok (plainFor_of_name (by decide)) ck_X3_begin (nk_top_out 27 kt_X3_begin) ⟨List.forall_mem_cons.mpr ⟨nk_fkc [(1, 124)] (by decide +kernel), List.forall_mem_cons.mpr ⟨nk_fkc [(1, 127)] (by decide +kernel), fun _ h => absurd h List.not_mem_nil⟩⟩, fun _ h => absurd h List.not_mem_nil, fun _ h => absurd h List.not_mem_nil, fun _ h => absurd h List.not_mem_nil, fun _ h => absurd h List.not_mem_nil, fun _ h => absurd h List.not_mem_nil, fun _ h => absurd h List.not_mem_nil, by decide, rfl, rfl⟩ rfl (by decide)
/-! MarbleLaw$Row.hasFrom(II)Z -/
noncomputable def kt_X3_hasFrom : Nat → Option nk_I := fun pc => bif Nat.ble pc 13 then ((fun pc => bif Nat.ble pc 5 then ((fun pc => bif Nat.ble pc 1 then (bif Nat.ble pc 0 then (bif Nat.beq pc 0 then some (.iload_n 1, 1, 1, [], 0) else none)
  else (bif Nat.beq pc 1 then some (.ifCond .lt 25, 3, 4, [26], 0) else none))
  else (bif Nat.ble pc 4 then (bif Nat.beq pc 4 then some (.iload_n 1, 1, 5, [], 0) else none)
  else (bif Nat.beq pc 5 then some (.aload_n 0, 1, 6, [], 0) else none))) : nk_F) pc
  else ((fun pc => bif Nat.ble pc 9 then (bif Nat.ble pc 6 then (bif Nat.beq pc 6 then some (.getfield 15, 3, 9, [], 0) else none)
  else (bif Nat.beq pc 9 then some (.if_icmp .gt 17, 3, 12, [26], 0) else none))
  else (bif Nat.ble pc 12 then (bif Nat.beq pc 12 then some (.iload_n 2, 1, 13, [], 0) else none)
  else (bif Nat.beq pc 13 then some (.aload_n 0, 1, 14, [], 0) else none))) : nk_F) pc) : nk_F) pc
  else ((fun pc => bif Nat.ble pc 19 then ((fun pc => bif Nat.ble pc 17 then (bif Nat.ble pc 14 then (bif Nat.beq pc 14 then some (.getfield 15, 3, 17, [], 0) else none)
  else (bif Nat.beq pc 17 then some (.iload_n 1, 1, 18, [], 0) else none))
  else (bif Nat.ble pc 18 then (bif Nat.beq pc 18 then some (.isub, 1, 19, [], 0) else none)
  else (bif Nat.beq pc 19 then some (.if_icmp .gt 7, 3, 22, [26], 0) else none))) : nk_F) pc
  else ((fun pc => bif Nat.ble pc 23 then (bif Nat.ble pc 22 then (bif Nat.beq pc 22 then some (.iconst 1, 1, 23, [], 1) else none)
  else (bif Nat.beq pc 23 then some (.goto 4, 3, 26, [27], 0) else none))
  else (bif Nat.ble pc 26 then (bif Nat.beq pc 26 then some (.iconst 0, 1, 27, [], 0) else none)
  else (bif Nat.beq pc 27 then some (.ireturn, 1, 28, [], 0) else none))) : nk_F) pc) : nk_F) pc
noncomputable def kc_X3_hasFrom : Nat → Option nk_I := nk_top 28 kt_X3_hasFrom
noncomputable def kx_X3_hasFrom : nk_T := ([(15, 3, 1, 0)], [], [], [], [], [], [], 2, false, 0, 0)
noncomputable def ev_X3_hasFrom : nk_Ev := fun as h Q => nk_if (Nat.ble (nk_wd as) 3) (nk_ev kx_X3_hasFrom kc_X3_hasFrom 3 as h Q)
set_option maxRecDepth 100000 in
theorem ck_X3_hasFrom : nk_chk cX3_hasFrom kc_X3_hasFrom 28 = true := nd_chk (by decide +kernel) (by decide +kernel)
set_option maxRecDepth 100000 in
set_option maxHeartbeats 4000000 in
theorem mt_X3_hasFrom (l : Launch) : nk_Met l yX3_hasFrom cX3_hasFrom 3 (some .boolean) { frames := 0, cells := 0, slots := 0, locals := 0 } false 0 0 ev_X3_hasFrom :=
  nk_met nk_gok (plainFor_of_name (by decide)) ck_X3_hasFrom (nk_top_out 28 kt_X3_hasFrom) ⟨List.forall_mem_cons.mpr ⟨nk_fkc [(1, 127)] (by decide +kernel), fun _ h => absurd h List.not_mem_nil⟩, fun _ h => absurd h List.not_mem_nil, fun _ h => absurd h List.not_mem_nil, fun _ h => absurd h List.not_mem_nil, fun _ h => absurd h List.not_mem_nil, fun _ h => absurd h List.not_mem_nil, fun _ h => absurd h List.not_mem_nil, by decide, rfl, rfl⟩ rfl (by decide)
/-! MarbleLaw$Row.sum()J -/
noncomputable def kt_X3_sum : Nat → Option nk_I := fun pc => bif Nat.ble pc 13 then ((fun pc => bif Nat.ble pc 4 then ((fun pc => bif Nat.ble pc 1 then (bif Nat.ble pc 0 then (bif Nat.beq pc 0 then some (.lconst 0, 1, 1, [], 0) else none)
  else (bif Nat.beq pc 1 then some (.lstore_n 1, 1, 2, [], 0) else none))
  else ((fun pc => bif Nat.ble pc 2 then (bif Nat.beq pc 2 then some (.iconst 0, 1, 3, [], 0) else none)
  else (bif Nat.ble pc 3 then (bif Nat.beq pc 3 then some (.istore_n 3, 1, 4, [], 0) else none)
  else (bif Nat.beq pc 4 then some (.iload_n 3, 1, 5, [], 0) else none))) : nk_F) pc) : nk_F) pc
  else ((fun pc => bif Nat.ble pc 6 then (bif Nat.ble pc 5 then (bif Nat.beq pc 5 then some (.aload_n 0, 1, 6, [], 0) else none)
  else (bif Nat.beq pc 6 then some (.getfield 15, 3, 9, [], 0) else none))
  else ((fun pc => bif Nat.ble pc 9 then (bif Nat.beq pc 9 then some (.if_icmp .ge 19, 3, 12, [28], 0) else none)
  else (bif Nat.ble pc 12 then (bif Nat.beq pc 12 then some (.lload_n 1, 1, 13, [], 0) else none)
  else (bif Nat.beq pc 13 then some (.aload_n 0, 1, 14, [], 0) else none))) : nk_F) pc) : nk_F) pc) : nk_F) pc
  else ((fun pc => bif Nat.ble pc 20 then ((fun pc => bif Nat.ble pc 17 then (bif Nat.ble pc 14 then (bif Nat.beq pc 14 then some (.getfield 9, 3, 17, [], 0) else none)
  else (bif Nat.beq pc 17 then some (.iload_n 3, 1, 18, [], 0) else none))
  else ((fun pc => bif Nat.ble pc 18 then (bif Nat.beq pc 18 then some (.iaload, 1, 19, [], 0) else none)
  else (bif Nat.ble pc 19 then (bif Nat.beq pc 19 then some (.i2l, 1, 20, [], 0) else none)
  else (bif Nat.beq pc 20 then some (.ladd, 1, 21, [], 0) else none))) : nk_F) pc) : nk_F) pc
  else ((fun pc => bif Nat.ble pc 22 then (bif Nat.ble pc 21 then (bif Nat.beq pc 21 then some (.lstore_n 1, 1, 22, [], 0) else none)
  else (bif Nat.beq pc 22 then some (.iinc 3 1, 3, 25, [], 1) else none))
  else ((fun pc => bif Nat.ble pc 25 then (bif Nat.beq pc 25 then some (.goto (-21), 3, 28, [4], 0) else none)
  else (bif Nat.ble pc 28 then (bif Nat.beq pc 28 then some (.lload_n 1, 1, 29, [], 0) else none)
  else (bif Nat.beq pc 29 then some (.lreturn, 1, 30, [], 0) else none))) : nk_F) pc) : nk_F) pc) : nk_F) pc
noncomputable def kc_X3_sum : Nat → Option nk_I := nk_top 30 kt_X3_sum
noncomputable def kx_X3_sum : nk_T := ([(15, 3, 1, 0), (9, 3, 0, 4)], [], [], [], [], [], [], 3, false, 0, 0)
noncomputable def ev_X3_sum : nk_Ev := fun as h Q => nk_if (Nat.ble (nk_wd as) 4) (nk_ev kx_X3_sum kc_X3_sum 4 as h Q)
set_option maxRecDepth 100000 in
theorem ck_X3_sum : nk_chk cX3_sum kc_X3_sum 30 = true := nd_chk (by decide +kernel) (by decide +kernel)
set_option maxRecDepth 100000 in
set_option maxHeartbeats 4000000 in
theorem mt_X3_sum (l : Launch) : nk_Met l yX3_sum cX3_sum 4 (some .long) { frames := 0, cells := 0, slots := 0, locals := 0 } false 0 0 ev_X3_sum :=
  nk_met nk_gok (plainFor_of_name (by decide)) ck_X3_sum (nk_top_out 30 kt_X3_sum) ⟨List.forall_mem_cons.mpr ⟨nk_fkc [(1, 127)] (by decide +kernel), List.forall_mem_cons.mpr ⟨nk_fkc [(1, 124)] (by decide +kernel), fun _ h => absurd h List.not_mem_nil⟩⟩, fun _ h => absurd h List.not_mem_nil, fun _ h => absurd h List.not_mem_nil, fun _ h => absurd h List.not_mem_nil, fun _ h => absurd h List.not_mem_nil, fun _ h => absurd h List.not_mem_nil, fun _ h => absurd h List.not_mem_nil, by decide, rfl, rfl⟩ rfl (by decide)
/-! MarbleLaw$Row.addTo(J)J -/
noncomputable def kt_X3_addTo : Nat → Option nk_I := fun pc => bif Nat.ble pc 21 then ((fun pc => bif Nat.ble pc 10 then ((fun pc => bif Nat.ble pc 4 then ((fun pc => bif Nat.ble pc 0 then (bif Nat.beq pc 0 then some (.ldc2_w 19, 3, 3, [], 0) else none)
  else (bif Nat.ble pc 3 then (bif Nat.beq pc 3 then some (.lload_n 1, 1, 4, [], 0) else none)
  else (bif Nat.beq pc 4 then some (.lmul, 1, 5, [], 0) else none))) : nk_F) pc
  else ((fun pc => bif Nat.ble pc 6 then (bif Nat.ble pc 5 then (bif Nat.beq pc 5 then some (.aload_n 0, 1, 6, [], 0) else none)
  else (bif Nat.beq pc 6 then some (.getfield 15, 3, 9, [], 0) else none))
  else (bif Nat.ble pc 9 then (bif Nat.beq pc 9 then some (.i2l, 1, 10, [], 0) else none)
  else (bif Nat.beq pc 10 then some (.ladd, 1, 11, [], 0) else none))) : nk_F) pc) : nk_F) pc
  else ((fun pc => bif Nat.ble pc 13 then ((fun pc => bif Nat.ble pc 11 then (bif Nat.beq pc 11 then some (.lstore_n 3, 1, 12, [], 0) else none)
  else (bif Nat.ble pc 12 then (bif Nat.beq pc 12 then some (.iconst 0, 1, 13, [], 0) else none)
  else (bif Nat.beq pc 13 then some (.istore 5, 2, 15, [], 0) else none))) : nk_F) pc
  else ((fun pc => bif Nat.ble pc 17 then (bif Nat.ble pc 15 then (bif Nat.beq pc 15 then some (.iload 5, 2, 17, [], 0) else none)
  else (bif Nat.beq pc 17 then some (.aload_n 0, 1, 18, [], 0) else none))
  else (bif Nat.ble pc 18 then (bif Nat.beq pc 18 then some (.getfield 15, 3, 21, [], 0) else none)
  else (bif Nat.beq pc 21 then some (.if_icmp .ge 24, 3, 24, [45], 0) else none))) : nk_F) pc) : nk_F) pc) : nk_F) pc
  else ((fun pc => bif Nat.ble pc 35 then ((fun pc => bif Nat.ble pc 28 then ((fun pc => bif Nat.ble pc 24 then (bif Nat.beq pc 24 then some (.ldc2_w 19, 3, 27, [], 0) else none)
  else (bif Nat.ble pc 27 then (bif Nat.beq pc 27 then some (.lload_n 3, 1, 28, [], 0) else none)
  else (bif Nat.beq pc 28 then some (.lmul, 1, 29, [], 0) else none))) : nk_F) pc
  else ((fun pc => bif Nat.ble pc 30 then (bif Nat.ble pc 29 then (bif Nat.beq pc 29 then some (.aload_n 0, 1, 30, [], 0) else none)
  else (bif Nat.beq pc 30 then some (.getfield 9, 3, 33, [], 0) else none))
  else (bif Nat.ble pc 33 then (bif Nat.beq pc 33 then some (.iload 5, 2, 35, [], 0) else none)
  else (bif Nat.beq pc 35 then some (.iaload, 1, 36, [], 0) else none))) : nk_F) pc) : nk_F) pc
  else ((fun pc => bif Nat.ble pc 38 then ((fun pc => bif Nat.ble pc 36 then (bif Nat.beq pc 36 then some (.i2l, 1, 37, [], 0) else none)
  else (bif Nat.ble pc 37 then (bif Nat.beq pc 37 then some (.ladd, 1, 38, [], 0) else none)
  else (bif Nat.beq pc 38 then some (.lstore_n 3, 1, 39, [], 0) else none))) : nk_F) pc
  else ((fun pc => bif Nat.ble pc 42 then (bif Nat.ble pc 39 then (bif Nat.beq pc 39 then some (.iinc 5 1, 3, 42, [], 1) else none)
  else (bif Nat.beq pc 42 then some (.goto (-27), 3, 45, [15], 0) else none))
  else (bif Nat.ble pc 45 then (bif Nat.beq pc 45 then some (.lload_n 3, 1, 46, [], 0) else none)
  else (bif Nat.beq pc 46 then some (.lreturn, 1, 47, [], 0) else none))) : nk_F) pc) : nk_F) pc) : nk_F) pc
noncomputable def kc_X3_addTo : Nat → Option nk_I := nk_top 47 kt_X3_addTo
noncomputable def kx_X3_addTo : nk_T := ([(15, 3, 1, 0), (9, 3, 0, 4)], [], [], [(19, 31)], [], [], [], 3, false, 0, 0)
noncomputable def ev_X3_addTo : nk_Ev := fun as h Q => nk_if (Nat.ble (nk_wd as) 6) (nk_ev kx_X3_addTo kc_X3_addTo 6 as h Q)
set_option maxRecDepth 100000 in
theorem ck_X3_addTo : nk_chk cX3_addTo kc_X3_addTo 47 = true := nd_chk (by decide +kernel) (by decide +kernel)
set_option maxRecDepth 100000 in
set_option maxHeartbeats 4000000 in
theorem mt_X3_addTo (l : Launch) : nk_Met l yX3_addTo cX3_addTo 6 (some .long) { frames := 0, cells := 0, slots := 0, locals := 0 } false 0 0 ev_X3_addTo :=
  nk_met nk_gok (plainFor_of_name (by decide)) ck_X3_addTo (nk_top_out 47 kt_X3_addTo) ⟨List.forall_mem_cons.mpr ⟨nk_fkc [(1, 127)] (by decide +kernel), List.forall_mem_cons.mpr ⟨nk_fkc [(1, 124)] (by decide +kernel), fun _ h => absurd h List.not_mem_nil⟩⟩, fun _ h => absurd h List.not_mem_nil, fun _ h => absurd h List.not_mem_nil, List.forall_mem_cons.mpr ⟨nk_mc [(3, 186)] (by decide +kernel), fun _ h => absurd h List.not_mem_nil⟩, fun _ h => absurd h List.not_mem_nil, fun _ h => absurd h List.not_mem_nil, fun _ h => absurd h List.not_mem_nil, by decide, rfl, rfl⟩ rfl (by decide)
/-! MarbleLaw$Tale.<init>()V -/
noncomputable def kt_X4_init : Nat → Option nk_I := fun pc => bif Nat.ble pc 13 then ((fun pc => bif Nat.ble pc 5 then ((fun pc => bif Nat.ble pc 1 then (bif Nat.ble pc 0 then (bif Nat.beq pc 0 then some (.aload_n 0, 1, 1, [], 0) else none)
  else (bif Nat.beq pc 1 then some (.invokespecial 3, 3, 4, [], 0) else none))
  else (bif Nat.ble pc 4 then (bif Nat.beq pc 4 then some (.aload_n 0, 1, 5, [], 0) else none)
  else (bif Nat.beq pc 5 then some (.bipush 80, 2, 7, [], 80) else none))) : nk_F) pc
  else ((fun pc => bif Nat.ble pc 9 then (bif Nat.ble pc 7 then (bif Nat.beq pc 7 then some (.newarray .int, 2, 9, [], 0) else none)
  else (bif Nat.beq pc 9 then some (.putfield 9, 3, 12, [], 0) else none))
  else (bif Nat.ble pc 12 then (bif Nat.beq pc 12 then some (.aload_n 0, 1, 13, [], 0) else none)
  else (bif Nat.beq pc 13 then some (.bipush 84, 2, 15, [], 84) else none))) : nk_F) pc) : nk_F) pc
  else ((fun pc => bif Nat.ble pc 21 then ((fun pc => bif Nat.ble pc 17 then (bif Nat.ble pc 15 then (bif Nat.beq pc 15 then some (.newarray .int, 2, 17, [], 0) else none)
  else (bif Nat.beq pc 17 then some (.putfield 15, 3, 20, [], 0) else none))
  else (bif Nat.ble pc 20 then (bif Nat.beq pc 20 then some (.aload_n 0, 1, 21, [], 0) else none)
  else (bif Nat.beq pc 21 then some (.iconst 0, 1, 22, [], 0) else none))) : nk_F) pc
  else ((fun pc => bif Nat.ble pc 25 then (bif Nat.ble pc 22 then (bif Nat.beq pc 22 then some (.putfield 18, 3, 25, [], 0) else none)
  else (bif Nat.beq pc 25 then some (.aload_n 0, 1, 26, [], 0) else none))
  else ((fun pc => bif Nat.ble pc 26 then (bif Nat.beq pc 26 then some (.iconst 0, 1, 27, [], 0) else none)
  else (bif Nat.ble pc 27 then (bif Nat.beq pc 27 then some (.putfield 22, 3, 30, [], 0) else none)
  else (bif Nat.beq pc 30 then some (.return_, 1, 31, [], 0) else none))) : nk_F) pc) : nk_F) pc) : nk_F) pc
noncomputable def kc_X4_init : Nat → Option nk_I := nk_top 31 kt_X4_init
noncomputable def kx_X4_init : nk_T := ([(9, 4, 0, 4), (15, 4, 1, 4), (18, 4, 2, 0), (22, 4, 3, 0)], [(13, 1, 5, 0, 0, fun _ h K => K none h)], [], [], [], [], [], 0, true, 2, 164)
noncomputable def ev_X4_init : nk_Ev := fun as h Q => nk_if (Nat.ble (nk_wd as) 1) (nk_ev kx_X4_init kc_X4_init 1 as h Q)
set_option maxRecDepth 100000 in
theorem ck_X4_init : nk_chk cX4_init kc_X4_init 31 = true := nd_chk (by decide +kernel) (by decide +kernel)
set_option maxRecDepth 100000 in
set_option maxHeartbeats 4000000 in
theorem ca_X4_init_13 (l : Launch) : nk_CallOk l { frames := 1, cells := 2, slots := 164, locals := 20 } RX4 cX4_init 1 true 13 (1, 5, 0, 0, fun _ h K => K none h) := nk_callO (x := 3) (nk_mc [(1, 26), (1, 17), (1, 18)] (by decide +kernel)) (nk_mc [(1, 26), (1, 17), (1, 18)] (by decide +kernel)) (nk_mc [(1, 26), (1, 17), (1, 18)] (by decide +kernel)) ⟨by decide, by decide⟩
set_option maxRecDepth 100000 in
set_option maxHeartbeats 4000000 in
theorem mt_X4_init (l : Launch) : nk_Met l yX4_init cX4_init 1 none { frames := 1, cells := 2, slots := 164, locals := 20 } true 2 164 ev_X4_init :=
  nk_met nk_gok (plainFor_of_name (by decide)) ck_X4_init (nk_top_out 31 kt_X4_init) ⟨List.forall_mem_cons.mpr ⟨nk_fkc [(1, 27)] (by decide +kernel), List.forall_mem_cons.mpr ⟨nk_fkc [(1, 28)] (by decide +kernel), List.forall_mem_cons.mpr ⟨nk_fkc [(1, 29)] (by decide +kernel), List.forall_mem_cons.mpr ⟨nk_fkc [(1, 32)] (by decide +kernel), fun _ h => absurd h List.not_mem_nil⟩⟩⟩⟩, List.forall_mem_cons.mpr ⟨ca_X4_init_13 l, fun _ h => absurd h List.not_mem_nil⟩, fun _ h => absurd h List.not_mem_nil, fun _ h => absurd h List.not_mem_nil, fun _ h => absurd h List.not_mem_nil, fun _ h => absurd h List.not_mem_nil, fun _ h => absurd h List.not_mem_nil, by decide, rfl, rfl⟩ rfl (by decide)
/-! MarbleLaw$Tale.setDebt(II)V -/
noncomputable def kt_X4_setDebt : Nat → Option nk_I := fun pc => bif Nat.ble pc 6 then ((fun pc => bif Nat.ble pc 1 then (bif Nat.ble pc 0 then (bif Nat.beq pc 0 then some (.aload_n 0, 1, 1, [], 0) else none)
  else (bif Nat.beq pc 1 then some (.getfield 9, 3, 4, [], 0) else none))
  else ((fun pc => bif Nat.ble pc 4 then (bif Nat.beq pc 4 then some (.iload_n 1, 1, 5, [], 0) else none)
  else (bif Nat.ble pc 5 then (bif Nat.beq pc 5 then some (.iconst 5, 1, 6, [], 5) else none)
  else (bif Nat.beq pc 6 then some (.imul, 1, 7, [], 0) else none))) : nk_F) pc) : nk_F) pc
  else ((fun pc => bif Nat.ble pc 8 then (bif Nat.ble pc 7 then (bif Nat.beq pc 7 then some (.iconst 4, 1, 8, [], 4) else none)
  else (bif Nat.beq pc 8 then some (.iadd, 1, 9, [], 0) else none))
  else ((fun pc => bif Nat.ble pc 9 then (bif Nat.beq pc 9 then some (.iload_n 2, 1, 10, [], 0) else none)
  else (bif Nat.ble pc 10 then (bif Nat.beq pc 10 then some (.iastore, 1, 11, [], 0) else none)
  else (bif Nat.beq pc 11 then some (.return_, 1, 12, [], 0) else none))) : nk_F) pc) : nk_F) pc
noncomputable def kc_X4_setDebt : Nat → Option nk_I := nk_top 12 kt_X4_setDebt
noncomputable def kx_X4_setDebt : nk_T := ([(9, 4, 0, 4)], [], [], [], [], [], [], 0, false, 0, 0)
noncomputable def ev_X4_setDebt : nk_Ev := fun as h Q => nk_if (Nat.ble (nk_wd as) 3) (nk_ev kx_X4_setDebt kc_X4_setDebt 3 as h Q)
set_option maxRecDepth 100000 in
theorem ck_X4_setDebt : nk_chk cX4_setDebt kc_X4_setDebt 12 = true := nd_chk (by decide +kernel) (by decide +kernel)
set_option maxRecDepth 100000 in
set_option maxHeartbeats 4000000 in
theorem mt_X4_setDebt (l : Launch) : nk_Met l yX4_setDebt cX4_setDebt 3 none { frames := 0, cells := 0, slots := 0, locals := 0 } false 0 0 ev_X4_setDebt :=
  nk_met nk_gok (plainFor_of_name (by decide)) ck_X4_setDebt (nk_top_out 12 kt_X4_setDebt) ⟨List.forall_mem_cons.mpr ⟨nk_fkc [(1, 27)] (by decide +kernel), fun _ h => absurd h List.not_mem_nil⟩, fun _ h => absurd h List.not_mem_nil, fun _ h => absurd h List.not_mem_nil, fun _ h => absurd h List.not_mem_nil, fun _ h => absurd h List.not_mem_nil, fun _ h => absurd h List.not_mem_nil, fun _ h => absurd h List.not_mem_nil, by decide, rfl, rfl⟩ rfl (by decide)
