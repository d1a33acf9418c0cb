/-! MarbleLawModel.choice(II)I -/
noncomputable def kt_X6_choice : Nat → Option nk_I := fun pc => bif Nat.ble pc 99 then ((fun pc => bif Nat.ble pc 70 then ((fun pc => bif Nat.ble pc 54 then ((fun pc => bif Nat.ble pc 45 then ((fun pc => bif Nat.ble pc 1 then (bif Nat.ble pc 0 then (bif Nat.beq pc 0 then some (.iload_n 0, 1, 1, [], 0) else none)
  else (bif Nat.beq pc 1 then some (.lookupswitch 141 #[(70, 43), (74, 75), (77, 97), (87, 119)], 43, 44, [142, 44, 76, 98, 120], 0) else none))
  else (bif Nat.ble pc 44 then (bif Nat.beq pc 44 then some (.iload_n 1, 1, 45, [], 0) else none)
  else (bif Nat.beq pc 45 then some (.bipush 115, 2, 47, [], 115) else none))) : nk_F) pc
  else ((fun pc => bif Nat.ble pc 50 then (bif Nat.ble pc 47 then (bif Nat.beq pc 47 then some (.if_icmp .ne 7, 3, 50, [54], 0) else none)
  else (bif Nat.beq pc 50 then some (.iconst 1, 1, 51, [], 1) else none))
  else (bif Nat.ble pc 51 then (bif Nat.beq pc 51 then some (.goto 24, 3, 54, [75], 0) else none)
  else (bif Nat.beq pc 54 then some (.iload_n 1, 1, 55, [], 0) else none))) : nk_F) pc) : nk_F) pc
  else ((fun pc => bif Nat.ble pc 61 then ((fun pc => bif Nat.ble pc 57 then (bif Nat.ble pc 55 then (bif Nat.beq pc 55 then some (.bipush 109, 2, 57, [], 109) else none)
  else (bif Nat.beq pc 57 then some (.if_icmp .ne 7, 3, 60, [64], 0) else none))
  else (bif Nat.ble pc 60 then (bif Nat.beq pc 60 then some (.iconst 2, 1, 61, [], 2) else none)
  else (bif Nat.beq pc 61 then some (.goto 14, 3, 64, [75], 0) else none))) : nk_F) pc
  else ((fun pc => bif Nat.ble pc 65 then (bif Nat.ble pc 64 then (bif Nat.beq pc 64 then some (.iload_n 1, 1, 65, [], 0) else none)
  else (bif Nat.beq pc 65 then some (.bipush 103, 2, 67, [], 103) else none))
  else (bif Nat.ble pc 67 then (bif Nat.beq pc 67 then some (.if_icmp .ne 7, 3, 70, [74], 0) else none)
  else (bif Nat.beq pc 70 then some (.iconst 3, 1, 71, [], 3) else none))) : nk_F) pc) : nk_F) pc) : nk_F) pc
  else ((fun pc => bif Nat.ble pc 83 then ((fun pc => bif Nat.ble pc 76 then ((fun pc => bif Nat.ble pc 74 then (bif Nat.ble pc 71 then (bif Nat.beq pc 71 then some (.goto 4, 3, 74, [75], 0) else none)
  else (bif Nat.beq pc 74 then some (.iconst 0, 1, 75, [], 0) else none))
  else (bif Nat.ble pc 75 then (bif Nat.beq pc 75 then some (.ireturn, 1, 76, [], 0) else none)
  else (bif Nat.beq pc 76 then some (.iload_n 1, 1, 77, [], 0) else none))) : nk_F) pc
  else ((fun pc => bif Nat.ble pc 79 then (bif Nat.ble pc 77 then (bif Nat.beq pc 77 then some (.bipush 99, 2, 79, [], 99) else none)
  else (bif Nat.beq pc 79 then some (.if_icmp .ne 7, 3, 82, [86], 0) else none))
  else (bif Nat.ble pc 82 then (bif Nat.beq pc 82 then some (.iconst 1, 1, 83, [], 1) else none)
  else (bif Nat.beq pc 83 then some (.goto 14, 3, 86, [97], 0) else none))) : nk_F) pc) : nk_F) pc
  else ((fun pc => bif Nat.ble pc 92 then ((fun pc => bif Nat.ble pc 87 then (bif Nat.ble pc 86 then (bif Nat.beq pc 86 then some (.iload_n 1, 1, 87, [], 0) else none)
  else (bif Nat.beq pc 87 then some (.bipush 112, 2, 89, [], 112) else none))
  else (bif Nat.ble pc 89 then (bif Nat.beq pc 89 then some (.if_icmp .ne 7, 3, 92, [96], 0) else none)
  else (bif Nat.beq pc 92 then some (.iconst 2, 1, 93, [], 2) else none))) : nk_F) pc
  else ((fun pc => bif Nat.ble pc 96 then (bif Nat.ble pc 93 then (bif Nat.beq pc 93 then some (.goto 4, 3, 96, [97], 0) else none)
  else (bif Nat.beq pc 96 then some (.iconst 0, 1, 97, [], 0) else none))
  else ((fun pc => bif Nat.ble pc 97 then (bif Nat.beq pc 97 then some (.ireturn, 1, 98, [], 0) else none)
  else (bif Nat.ble pc 98 then (bif Nat.beq pc 98 then some (.iload_n 1, 1, 99, [], 0) else none)
  else (bif Nat.beq pc 99 then some (.bipush 97, 2, 101, [], 97) else none))) : nk_F) pc) : nk_F) pc) : nk_F) pc) : nk_F) pc) : nk_F) pc
  else ((fun pc => bif Nat.ble pc 131 then ((fun pc => bif Nat.ble pc 115 then ((fun pc => bif Nat.ble pc 108 then ((fun pc => bif Nat.ble pc 104 then (bif Nat.ble pc 101 then (bif Nat.beq pc 101 then some (.if_icmp .ne 7, 3, 104, [108], 0) else none)
  else (bif Nat.beq pc 104 then some (.iconst 1, 1, 105, [], 1) else none))
  else (bif Nat.ble pc 105 then (bif Nat.beq pc 105 then some (.goto 14, 3, 108, [119], 0) else none)
  else (bif Nat.beq pc 108 then some (.iload_n 1, 1, 109, [], 0) else none))) : nk_F) pc
  else ((fun pc => bif Nat.ble pc 111 then (bif Nat.ble pc 109 then (bif Nat.beq pc 109 then some (.bipush 119, 2, 111, [], 119) else none)
  else (bif Nat.beq pc 111 then some (.if_icmp .ne 7, 3, 114, [118], 0) else none))
  else (bif Nat.ble pc 114 then (bif Nat.beq pc 114 then some (.iconst 2, 1, 115, [], 2) else none)
  else (bif Nat.beq pc 115 then some (.goto 4, 3, 118, [119], 0) else none))) : nk_F) pc) : nk_F) pc
  else ((fun pc => bif Nat.ble pc 121 then ((fun pc => bif Nat.ble pc 119 then (bif Nat.ble pc 118 then (bif Nat.beq pc 118 then some (.iconst 0, 1, 119, [], 0) else none)
  else (bif Nat.beq pc 119 then some (.ireturn, 1, 120, [], 0) else none))
  else (bif Nat.ble pc 120 then (bif Nat.beq pc 120 then some (.iload_n 1, 1, 121, [], 0) else none)
  else (bif Nat.beq pc 121 then some (.bipush 99, 2, 123, [], 99) else none))) : nk_F) pc
  else ((fun pc => bif Nat.ble pc 126 then (bif Nat.ble pc 123 then (bif Nat.beq pc 123 then some (.if_icmp .ne 7, 3, 126, [130], 0) else none)
  else (bif Nat.beq pc 126 then some (.iconst 1, 1, 127, [], 1) else none))
  else ((fun pc => bif Nat.ble pc 127 then (bif Nat.beq pc 127 then some (.goto 14, 3, 130, [141], 0) else none)
  else (bif Nat.ble pc 130 then (bif Nat.beq pc 130 then some (.iload_n 1, 1, 131, [], 0) else none)
  else (bif Nat.beq pc 131 then some (.bipush 109, 2, 133, [], 109) else none))) : nk_F) pc) : nk_F) pc) : nk_F) pc) : nk_F) pc
  else ((fun pc => bif Nat.ble pc 145 then ((fun pc => bif Nat.ble pc 140 then ((fun pc => bif Nat.ble pc 136 then (bif Nat.ble pc 133 then (bif Nat.beq pc 133 then some (.if_icmp .ne 7, 3, 136, [140], 0) else none)
  else (bif Nat.beq pc 136 then some (.iconst 2, 1, 137, [], 2) else none))
  else (bif Nat.ble pc 137 then (bif Nat.beq pc 137 then some (.goto 4, 3, 140, [141], 0) else none)
  else (bif Nat.beq pc 140 then some (.iconst 0, 1, 141, [], 0) else none))) : nk_F) pc
  else ((fun pc => bif Nat.ble pc 142 then (bif Nat.ble pc 141 then (bif Nat.beq pc 141 then some (.ireturn, 1, 142, [], 0) else none)
  else (bif Nat.beq pc 142 then some (.iload_n 1, 1, 143, [], 0) else none))
  else (bif Nat.ble pc 143 then (bif Nat.beq pc 143 then some (.bipush 121, 2, 145, [], 121) else none)
  else (bif Nat.beq pc 145 then some (.if_icmp .ne 7, 3, 148, [152], 0) else none))) : nk_F) pc) : nk_F) pc
  else ((fun pc => bif Nat.ble pc 153 then ((fun pc => bif Nat.ble pc 149 then (bif Nat.ble pc 148 then (bif Nat.beq pc 148 then some (.iconst 1, 1, 149, [], 1) else none)
  else (bif Nat.beq pc 149 then some (.goto 14, 3, 152, [163], 0) else none))
  else (bif Nat.ble pc 152 then (bif Nat.beq pc 152 then some (.iload_n 1, 1, 153, [], 0) else none)
  else (bif Nat.beq pc 153 then some (.bipush 110, 2, 155, [], 110) else none))) : nk_F) pc
  else ((fun pc => bif Nat.ble pc 158 then (bif Nat.ble pc 155 then (bif Nat.beq pc 155 then some (.if_icmp .ne 7, 3, 158, [162], 0) else none)
  else (bif Nat.beq pc 158 then some (.iconst 2, 1, 159, [], 2) else none))
  else ((fun pc => bif Nat.ble pc 159 then (bif Nat.beq pc 159 then some (.goto 4, 3, 162, [163], 0) else none)
  else (bif Nat.ble pc 162 then (bif Nat.beq pc 162 then some (.iconst 0, 1, 163, [], 0) else none)
  else (bif Nat.beq pc 163 then some (.ireturn, 1, 164, [], 0) else none))) : nk_F) pc) : nk_F) pc) : nk_F) pc) : nk_F) pc) : nk_F) pc
noncomputable def kc_X6_choice : Nat → Option nk_I := nk_top 164 kt_X6_choice
noncomputable def kx_X6_choice : nk_T := ([], [], [], [], [], [], [], 1, false, 0, 0)
noncomputable def ev_X6_choice : nk_Ev := fun as h Q => nk_if (Nat.ble (nk_wd as) 2) (nk_ev kx_X6_choice kc_X6_choice 2 as h Q)
set_option maxRecDepth 100000 in
theorem ck_X6_choice : nk_chk cX6_choice kc_X6_choice 164 = true := nd_chk (by decide +kernel) (by decide +kernel)
set_option maxRecDepth 100000 in
set_option maxHeartbeats 4000000 in
theorem mt_X6_choice (l : Launch) : nk_Met l yX6_choice cX6_choice 2 (some .int) { frames := 0, cells := 0, slots := 0, locals := 0 } false 0 0 ev_X6_choice :=
  nk_met nk_gok (plainFor_of_name (by decide)) ck_X6_choice (nk_top_out 164 kt_X6_choice) ⟨fun _ h => absurd h List.not_mem_nil, fun _ h => absurd h List.not_mem_nil, fun _ h => absurd h List.not_mem_nil, fun _ h => absurd h List.not_mem_nil, fun _ h => absurd h List.not_mem_nil, fun _ h => absurd h List.not_mem_nil, fun _ h => absurd h List.not_mem_nil, by decide, rfl, rfl⟩ rfl (by decide)
/-! MarbleLawModel.placeOf(I)I -/
noncomputable def kt_X6_placeOf : Nat → Option nk_I := fun pc => bif Nat.ble pc 27 then ((fun pc => bif Nat.ble pc 12 then ((fun pc => bif Nat.ble pc 3 then ((fun pc => bif Nat.ble pc 0 then (bif Nat.beq pc 0 then some (.iload_n 0, 1, 1, [], 0) else none)
  else (bif Nat.ble pc 1 then (bif Nat.beq pc 1 then some (.bipush 70, 2, 3, [], 70) else none)
  else (bif Nat.beq pc 3 then some (.if_icmp .ne 9, 3, 6, [12], 0) else none))) : nk_F) pc
  else ((fun pc => bif Nat.ble pc 6 then (bif Nat.beq pc 6 then some (.sipush 10000, 3, 9, [], 10000) else none)
  else (bif Nat.ble pc 9 then (bif Nat.beq pc 9 then some (.goto 48, 3, 12, [57], 0) else none)
  else (bif Nat.beq pc 12 then some (.iload_n 0, 1, 13, [], 0) else none))) : nk_F) pc) : nk_F) pc
  else ((fun pc => bif Nat.ble pc 18 then ((fun pc => bif Nat.ble pc 13 then (bif Nat.beq pc 13 then some (.bipush 74, 2, 15, [], 74) else none)
  else (bif Nat.ble pc 15 then (bif Nat.beq pc 15 then some (.if_icmp .ne 9, 3, 18, [24], 0) else none)
  else (bif Nat.beq pc 18 then some (.sipush 1000, 3, 21, [], 1000) else none))) : nk_F) pc
  else ((fun pc => bif Nat.ble pc 24 then (bif Nat.ble pc 21 then (bif Nat.beq pc 21 then some (.goto 36, 3, 24, [57], 0) else none)
  else (bif Nat.beq pc 24 then some (.iload_n 0, 1, 25, [], 0) else none))
  else (bif Nat.ble pc 25 then (bif Nat.beq pc 25 then some (.bipush 77, 2, 27, [], 77) else none)
  else (bif Nat.beq pc 27 then some (.if_icmp .ne 8, 3, 30, [35], 0) else none))) : nk_F) pc) : nk_F) pc) : nk_F) pc
  else ((fun pc => bif Nat.ble pc 43 then ((fun pc => bif Nat.ble pc 35 then ((fun pc => bif Nat.ble pc 30 then (bif Nat.beq pc 30 then some (.bipush 100, 2, 32, [], 100) else none)
  else (bif Nat.ble pc 32 then (bif Nat.beq pc 32 then some (.goto 25, 3, 35, [57], 0) else none)
  else (bif Nat.beq pc 35 then some (.iload_n 0, 1, 36, [], 0) else none))) : nk_F) pc
  else ((fun pc => bif Nat.ble pc 38 then (bif Nat.ble pc 36 then (bif Nat.beq pc 36 then some (.bipush 87, 2, 38, [], 87) else none)
  else (bif Nat.beq pc 38 then some (.if_icmp .ne 8, 3, 41, [46], 0) else none))
  else (bif Nat.ble pc 41 then (bif Nat.beq pc 41 then some (.bipush 10, 2, 43, [], 10) else none)
  else (bif Nat.beq pc 43 then some (.goto 14, 3, 46, [57], 0) else none))) : nk_F) pc) : nk_F) pc
  else ((fun pc => bif Nat.ble pc 49 then ((fun pc => bif Nat.ble pc 46 then (bif Nat.beq pc 46 then some (.iload_n 0, 1, 47, [], 0) else none)
  else (bif Nat.ble pc 47 then (bif Nat.beq pc 47 then some (.bipush 75, 2, 49, [], 75) else none)
  else (bif Nat.beq pc 49 then some (.if_icmp .ne 7, 3, 52, [56], 0) else none))) : nk_F) pc
  else ((fun pc => bif Nat.ble pc 53 then (bif Nat.ble pc 52 then (bif Nat.beq pc 52 then some (.iconst 1, 1, 53, [], 1) else none)
  else (bif Nat.beq pc 53 then some (.goto 4, 3, 56, [57], 0) else none))
  else (bif Nat.ble pc 56 then (bif Nat.beq pc 56 then some (.iconst 0, 1, 57, [], 0) else none)
  else (bif Nat.beq pc 57 then some (.ireturn, 1, 58, [], 0) else none))) : nk_F) pc) : nk_F) pc) : nk_F) pc
noncomputable def kc_X6_placeOf : Nat → Option nk_I := nk_top 58 kt_X6_placeOf
noncomputable def kx_X6_placeOf : nk_T := ([], [], [], [], [], [], [], 1, false, 0, 0)
noncomputable def ev_X6_placeOf : nk_Ev := fun as h Q => nk_if (Nat.ble (nk_wd as) 1) (nk_ev kx_X6_placeOf kc_X6_placeOf 1 as h Q)
set_option maxRecDepth 100000 in
theorem ck_X6_placeOf : nk_chk cX6_placeOf kc_X6_placeOf 58 = true := nd_chk (by decide +kernel) (by decide +kernel)
set_option maxRecDepth 100000 in
set_option maxHeartbeats 4000000 in
theorem mt_X6_placeOf (l : Launch) : nk_Met l yX6_placeOf cX6_placeOf 1 (some .int) { frames := 0, cells := 0, slots := 0, locals := 0 } false 0 0 ev_X6_placeOf :=
  nk_met nk_gok (plainFor_of_name (by decide)) ck_X6_placeOf (nk_top_out 58 kt_X6_placeOf) ⟨fun _ h => absurd h List.not_mem_nil, fun _ h => absurd h List.not_mem_nil, fun _ h => absurd h List.not_mem_nil, fun _ h => absurd h List.not_mem_nil, fun _ h => absurd h List.not_mem_nil, fun _ h => absurd h List.not_mem_nil, fun _ h => absurd h List.not_mem_nil, by decide, rfl, rfl⟩ rfl (by decide)
/-! MarbleLawModel.figure(II)I -/
noncomputable def kt_X6_figure : Nat → Option nk_I := fun pc => bif Nat.ble pc 2 then ((fun pc => bif Nat.ble pc 0 then (bif Nat.beq pc 0 then some (.iload_n 0, 1, 1, [], 0) else none)
  else (bif Nat.ble pc 1 then (bif Nat.beq pc 1 then some (.iload_n 1, 1, 2, [], 0) else none)
  else (bif Nat.beq pc 2 then some (.idiv, 1, 3, [], 0) else none))) : nk_F) pc
  else ((fun pc => bif Nat.ble pc 3 then (bif Nat.beq pc 3 then some (.bipush 10, 2, 5, [], 10) else none)
  else (bif Nat.ble pc 5 then (bif Nat.beq pc 5 then some (.irem, 1, 6, [], 0) else none)
  else (bif Nat.beq pc 6 then some (.ireturn, 1, 7, [], 0) else none))) : nk_F) pc
noncomputable def kc_X6_figure : Nat → Option nk_I := nk_top 7 kt_X6_figure
noncomputable def kx_X6_figure : nk_T := ([], [], [], [], [], [], [], 1, false, 0, 0)
noncomputable def ev_X6_figure : nk_Ev := fun as h Q => nk_if (Nat.ble (nk_wd as) 2) (nk_ev kx_X6_figure kc_X6_figure 2 as h Q)
set_option maxRecDepth 100000 in
theorem ck_X6_figure : nk_chk cX6_figure kc_X6_figure 7 = true := nd_chk (by decide +kernel) (by decide +kernel)
set_option maxRecDepth 100000 in
set_option maxHeartbeats 4000000 in
theorem mt_X6_figure (l : Launch) : nk_Met l yX6_figure cX6_figure 2 (some .int) { frames := 0, cells := 0, slots := 0, locals := 0 } false 0 0 ev_X6_figure :=
  nk_met nk_gok (plainFor_of_name (by decide)) ck_X6_figure (nk_top_out 7 kt_X6_figure) ⟨fun _ h => absurd h List.not_mem_nil, fun _ h => absurd h List.not_mem_nil, fun _ h => absurd h List.not_mem_nil, fun _ h => absurd h List.not_mem_nil, fun _ h => absurd h List.not_mem_nil, fun _ h => absurd h List.not_mem_nil, fun _ h => absurd h List.not_mem_nil, by decide, rfl, rfl⟩ rfl (by decide)
/-! MarbleLawModel.byteAt(II)I -/
noncomputable def kt_X6_byteAt : Nat → Option nk_I := fun pc => bif Nat.ble pc 11 then ((fun pc => bif Nat.ble pc 5 then ((fun pc => bif Nat.ble pc 1 then (bif Nat.ble pc 0 then (bif Nat.beq pc 0 then some (.iload_n 2, 1, 1, [], 0) else none)
  else (bif Nat.beq pc 1 then some (.aload_n 0, 1, 2, [], 0) else none))
  else (bif Nat.ble pc 2 then (bif Nat.beq pc 2 then some (.getfield 26, 3, 5, [], 0) else none)
  else (bif Nat.beq pc 5 then some (.iload_n 1, 1, 6, [], 0) else none))) : nk_F) pc
  else ((fun pc => bif Nat.ble pc 7 then (bif Nat.ble pc 6 then (bif Nat.beq pc 6 then some (.iaload, 1, 7, [], 0) else none)
  else (bif Nat.beq pc 7 then some (.if_icmp .ge 17, 3, 10, [24], 0) else none))
  else (bif Nat.ble pc 10 then (bif Nat.beq pc 10 then some (.aload_n 0, 1, 11, [], 0) else none)
  else (bif Nat.beq pc 11 then some (.getfield 29, 3, 14, [], 0) else none))) : nk_F) pc) : nk_F) pc
  else ((fun pc => bif Nat.ble pc 18 then ((fun pc => bif Nat.ble pc 16 then (bif Nat.ble pc 14 then (bif Nat.beq pc 14 then some (.bipush 40, 2, 16, [], 40) else none)
  else (bif Nat.beq pc 16 then some (.iload_n 1, 1, 17, [], 0) else none))
  else (bif Nat.ble pc 17 then (bif Nat.beq pc 17 then some (.imul, 1, 18, [], 0) else none)
  else (bif Nat.beq pc 18 then some (.iload_n 2, 1, 19, [], 0) else none))) : nk_F) pc
  else ((fun pc => bif Nat.ble pc 20 then (bif Nat.ble pc 19 then (bif Nat.beq pc 19 then some (.iadd, 1, 20, [], 0) else none)
  else (bif Nat.beq pc 20 then some (.iaload, 1, 21, [], 0) else none))
  else ((fun pc => bif Nat.ble pc 21 then (bif Nat.beq pc 21 then some (.goto 5, 3, 24, [26], 0) else none)
  else (bif Nat.ble pc 24 then (bif Nat.beq pc 24 then some (.bipush (-9), 2, 26, [], (-9)) else none)
  else (bif Nat.beq pc 26 then some (.ireturn, 1, 27, [], 0) else none))) : nk_F) pc) : nk_F) pc) : nk_F) pc
noncomputable def kc_X6_byteAt : Nat → Option nk_I := nk_top 27 kt_X6_byteAt
noncomputable def kx_X6_byteAt : nk_T := ([(26, 6, 8, 4), (29, 6, 9, 4)], [], [], [], [], [], [], 1, false, 0, 0)
noncomputable def ev_X6_byteAt : nk_Ev := fun as h Q => nk_if (Nat.ble (nk_wd as) 3) (nk_ev kx_X6_byteAt kc_X6_byteAt 3 as h Q)
set_option maxRecDepth 100000 in
theorem ck_X6_byteAt : nk_chk cX6_byteAt kc_X6_byteAt 27 = true := nd_chk (by decide +kernel) (by decide +kernel)
set_option maxRecDepth 100000 in
set_option maxHeartbeats 4000000 in
theorem mt_X6_byteAt (l : Launch) : nk_Met l yX6_byteAt cX6_byteAt 3 (some .int) { frames := 0, cells := 0, slots := 0, locals := 0 } false 0 0 ev_X6_byteAt :=
  nk_met nk_gok (plainFor_of_name (by decide)) ck_X6_byteAt (nk_top_out 27 kt_X6_byteAt) ⟨List.forall_mem_cons.mpr ⟨nk_fkc [(3, 201)] (by decide +kernel), List.forall_mem_cons.mpr ⟨nk_fkc [(3, 202)] (by decide +kernel), fun _ h => absurd h List.not_mem_nil⟩⟩, fun _ h => absurd h List.not_mem_nil, fun _ h => absurd h List.not_mem_nil, fun _ h => absurd h List.not_mem_nil, fun _ h => absurd h List.not_mem_nil, fun _ h => absurd h List.not_mem_nil, fun _ h => absurd h List.not_mem_nil, by decide, rfl, rfl⟩ rfl (by decide)
/-! MarbleLawModel.goesOn(I)I -/
noncomputable def kt_X6_goesOn : Nat → Option nk_I := fun pc => bif Nat.ble pc 77 then ((fun pc => bif Nat.ble pc 36 then ((fun pc => bif Nat.ble pc 14 then ((fun pc => bif Nat.ble pc 4 then ((fun pc => bif Nat.ble pc 1 then (bif Nat.ble pc 0 then (bif Nat.beq pc 0 then some (.iconst 0, 1, 1, [], 0) else none)
  else (bif Nat.beq pc 1 then some (.istore_n 2, 1, 2, [], 0) else none))
  else ((fun pc => bif Nat.ble pc 2 then (bif Nat.beq pc 2 then some (.aload_n 0, 1, 3, [], 0) else none)
  else (bif Nat.ble pc 3 then (bif Nat.beq pc 3 then some (.iconst 0, 1, 4, [], 0) else none)
  else (bif Nat.beq pc 4 then some (.putfield 155, 3, 7, [], 0) else none))) : nk_F) pc) : nk_F) pc
  else ((fun pc => bif Nat.ble pc 9 then ((fun pc => bif Nat.ble pc 7 then (bif Nat.beq pc 7 then some (.iload_n 2, 1, 8, [], 0) else none)
  else (bif Nat.ble pc 8 then (bif Nat.beq pc 8 then some (.aload_n 0, 1, 9, [], 0) else none)
  else (bif Nat.beq pc 9 then some (.getfield 26, 3, 12, [], 0) else none))) : nk_F) pc
  else ((fun pc => bif Nat.ble pc 12 then (bif Nat.beq pc 12 then some (.iload_n 1, 1, 13, [], 0) else none)
  else (bif Nat.ble pc 13 then (bif Nat.beq pc 13 then some (.iaload, 1, 14, [], 0) else none)
  else (bif Nat.beq pc 14 then some (.if_icmp .ge 90, 3, 17, [104], 0) else none))) : nk_F) pc) : nk_F) pc) : nk_F) pc
  else ((fun pc => bif Nat.ble pc 23 then ((fun pc => bif Nat.ble pc 18 then (bif Nat.ble pc 17 then (bif Nat.beq pc 17 then some (.aload_n 0, 1, 18, [], 0) else none)
  else (bif Nat.beq pc 18 then some (.iload_n 1, 1, 19, [], 0) else none))
  else ((fun pc => bif Nat.ble pc 19 then (bif Nat.beq pc 19 then some (.iload_n 2, 1, 20, [], 0) else none)
  else (bif Nat.ble pc 20 then (bif Nat.beq pc 20 then some (.invokevirtual 158, 3, 23, [], 0) else none)
  else (bif Nat.beq pc 23 then some (.istore_n 3, 1, 24, [], 0) else none))) : nk_F) pc) : nk_F) pc
  else ((fun pc => bif Nat.ble pc 27 then ((fun pc => bif Nat.ble pc 24 then (bif Nat.beq pc 24 then some (.iload_n 3, 1, 25, [], 0) else none)
  else (bif Nat.ble pc 25 then (bif Nat.beq pc 25 then some (.bipush 32, 2, 27, [], 32) else none)
  else (bif Nat.beq pc 27 then some (.if_icmp .ne 9, 3, 30, [36], 0) else none))) : nk_F) pc
  else ((fun pc => bif Nat.ble pc 30 then (bif Nat.beq pc 30 then some (.iinc 2 1, 3, 33, [], 1) else none)
  else (bif Nat.ble pc 33 then (bif Nat.beq pc 33 then some (.goto (-26), 3, 36, [7], 0) else none)
  else (bif Nat.beq pc 36 then some (.iload_n 3, 1, 37, [], 0) else none))) : nk_F) pc) : nk_F) pc) : nk_F) pc) : nk_F) pc
  else ((fun pc => bif Nat.ble pc 60 then ((fun pc => bif Nat.ble pc 47 then ((fun pc => bif Nat.ble pc 40 then (bif Nat.ble pc 37 then (bif Nat.beq pc 37 then some (.invokestatic 161, 3, 40, [], 0) else none)
  else (bif Nat.beq pc 40 then some (.istore 4, 2, 42, [], 0) else none))
  else ((fun pc => bif Nat.ble pc 42 then (bif Nat.beq pc 42 then some (.iload 4, 2, 44, [], 0) else none)
  else (bif Nat.ble pc 44 then (bif Nat.beq pc 44 then some (.ifCond .eq 15, 3, 47, [59], 0) else none)
  else (bif Nat.beq pc 47 then some (.aload_n 0, 1, 48, [], 0) else none))) : nk_F) pc) : nk_F) pc
  else ((fun pc => bif Nat.ble pc 53 then ((fun pc => bif Nat.ble pc 48 then (bif Nat.beq pc 48 then some (.getfield 155, 3, 51, [], 0) else none)
  else (bif Nat.ble pc 51 then (bif Nat.beq pc 51 then some (.iload 4, 2, 53, [], 0) else none)
  else (bif Nat.beq pc 53 then some (.invokestatic 164, 3, 56, [], 0) else none))) : nk_F) pc
  else ((fun pc => bif Nat.ble pc 56 then (bif Nat.beq pc 56 then some (.ifCond .le 5, 3, 59, [61], 0) else none)
  else (bif Nat.ble pc 59 then (bif Nat.beq pc 59 then some (.iload_n 2, 1, 60, [], 0) else none)
  else (bif Nat.beq pc 60 then some (.ireturn, 1, 61, [], 0) else none))) : nk_F) pc) : nk_F) pc) : nk_F) pc
  else ((fun pc => bif Nat.ble pc 65 then ((fun pc => bif Nat.ble pc 62 then (bif Nat.ble pc 61 then (bif Nat.beq pc 61 then some (.iload_n 3, 1, 62, [], 0) else none)
  else (bif Nat.beq pc 62 then some (.aload_n 0, 1, 63, [], 0) else none))
  else ((fun pc => bif Nat.ble pc 63 then (bif Nat.beq pc 63 then some (.iload_n 1, 1, 64, [], 0) else none)
  else (bif Nat.ble pc 64 then (bif Nat.beq pc 64 then some (.iload_n 2, 1, 65, [], 0) else none)
  else (bif Nat.beq pc 65 then some (.iconst 1, 1, 66, [], 1) else none))) : nk_F) pc) : nk_F) pc
  else ((fun pc => bif Nat.ble pc 70 then ((fun pc => bif Nat.ble pc 66 then (bif Nat.beq pc 66 then some (.iadd, 1, 67, [], 0) else none)
  else (bif Nat.ble pc 67 then (bif Nat.beq pc 67 then some (.invokevirtual 158, 3, 70, [], 0) else none)
  else (bif Nat.beq pc 70 then some (.invokestatic 167, 3, 73, [], 0) else none))) : nk_F) pc
  else ((fun pc => bif Nat.ble pc 73 then (bif Nat.beq pc 73 then some (.istore 5, 2, 75, [], 0) else none)
  else (bif Nat.ble pc 75 then (bif Nat.beq pc 75 then some (.iload 5, 2, 77, [], 0) else none)
  else (bif Nat.beq pc 77 then some (.ifCond .ne 7, 3, 80, [84], 0) else none))) : nk_F) pc) : nk_F) pc) : nk_F) pc) : nk_F) pc) : nk_F) pc
  else ((fun pc => bif Nat.ble pc 115 then ((fun pc => bif Nat.ble pc 94 then ((fun pc => bif Nat.ble pc 84 then ((fun pc => bif Nat.ble pc 81 then (bif Nat.ble pc 80 then (bif Nat.beq pc 80 then some (.iload_n 2, 1, 81, [], 0) else none)
  else (bif Nat.beq pc 81 then some (.iconst 1, 1, 82, [], 1) else none))
  else ((fun pc => bif Nat.ble pc 82 then (bif Nat.beq pc 82 then some (.iadd, 1, 83, [], 0) else none)
  else (bif Nat.ble pc 83 then (bif Nat.beq pc 83 then some (.ireturn, 1, 84, [], 0) else none)
  else (bif Nat.beq pc 84 then some (.aload_n 0, 1, 85, [], 0) else none))) : nk_F) pc) : nk_F) pc
  else ((fun pc => bif Nat.ble pc 89 then ((fun pc => bif Nat.ble pc 85 then (bif Nat.beq pc 85 then some (.dup, 1, 86, [], 0) else none)
  else (bif Nat.ble pc 86 then (bif Nat.beq pc 86 then some (.getfield 155, 3, 89, [], 0) else none)
  else (bif Nat.beq pc 89 then some (.iload 4, 2, 91, [], 0) else none))) : nk_F) pc
  else ((fun pc => bif Nat.ble pc 91 then (bif Nat.beq pc 91 then some (.iload 5, 2, 93, [], 0) else none)
  else (bif Nat.ble pc 93 then (bif Nat.beq pc 93 then some (.imul, 1, 94, [], 0) else none)
  else (bif Nat.beq pc 94 then some (.iadd, 1, 95, [], 0) else none))) : nk_F) pc) : nk_F) pc) : nk_F) pc
  else ((fun pc => bif Nat.ble pc 105 then ((fun pc => bif Nat.ble pc 98 then (bif Nat.ble pc 95 then (bif Nat.beq pc 95 then some (.putfield 155, 3, 98, [], 0) else none)
  else (bif Nat.beq pc 98 then some (.iinc 2 2, 3, 101, [], 2) else none))
  else ((fun pc => bif Nat.ble pc 101 then (bif Nat.beq pc 101 then some (.goto (-94), 3, 104, [7], 0) else none)
  else (bif Nat.ble pc 104 then (bif Nat.beq pc 104 then some (.iconst 1, 1, 105, [], 1) else none)
  else (bif Nat.beq pc 105 then some (.istore_n 3, 1, 106, [], 0) else none))) : nk_F) pc) : nk_F) pc
  else ((fun pc => bif Nat.ble pc 110 then ((fun pc => bif Nat.ble pc 106 then (bif Nat.beq pc 106 then some (.iload_n 3, 1, 107, [], 0) else none)
  else (bif Nat.ble pc 107 then (bif Nat.beq pc 107 then some (.sipush 10000, 3, 110, [], 10000) else none)
  else (bif Nat.beq pc 110 then some (.if_icmp .gt 45, 3, 113, [155], 0) else none))) : nk_F) pc
  else ((fun pc => bif Nat.ble pc 113 then (bif Nat.beq pc 113 then some (.aload_n 0, 1, 114, [], 0) else none)
  else (bif Nat.ble pc 114 then (bif Nat.beq pc 114 then some (.dup, 1, 115, [], 0) else none)
  else (bif Nat.beq pc 115 then some (.getfield 155, 3, 118, [], 0) else none))) : nk_F) pc) : nk_F) pc) : nk_F) pc) : nk_F) pc
  else ((fun pc => bif Nat.ble pc 138 then ((fun pc => bif Nat.ble pc 126 then ((fun pc => bif Nat.ble pc 119 then (bif Nat.ble pc 118 then (bif Nat.beq pc 118 then some (.aload_n 0, 1, 119, [], 0) else none)
  else (bif Nat.beq pc 119 then some (.getfield 155, 3, 122, [], 0) else none))
  else ((fun pc => bif Nat.ble pc 122 then (bif Nat.beq pc 122 then some (.iload_n 3, 1, 123, [], 0) else none)
  else (bif Nat.ble pc 123 then (bif Nat.beq pc 123 then some (.invokestatic 164, 3, 126, [], 0) else none)
  else (bif Nat.beq pc 126 then some (.ifCond .le 7, 3, 129, [133], 0) else none))) : nk_F) pc) : nk_F) pc
  else ((fun pc => bif Nat.ble pc 133 then ((fun pc => bif Nat.ble pc 129 then (bif Nat.beq pc 129 then some (.iconst 0, 1, 130, [], 0) else none)
  else (bif Nat.ble pc 130 then (bif Nat.beq pc 130 then some (.goto 13, 3, 133, [143], 0) else none)
  else (bif Nat.beq pc 133 then some (.iload_n 3, 1, 134, [], 0) else none))) : nk_F) pc
  else ((fun pc => bif Nat.ble pc 134 then (bif Nat.beq pc 134 then some (.iconst 1, 1, 135, [], 1) else none)
  else (bif Nat.ble pc 135 then (bif Nat.beq pc 135 then some (.if_icmp .ne 7, 3, 138, [142], 0) else none)
  else (bif Nat.beq pc 138 then some (.iconst 2, 1, 139, [], 2) else none))) : nk_F) pc) : nk_F) pc) : nk_F) pc
  else ((fun pc => bif Nat.ble pc 147 then ((fun pc => bif Nat.ble pc 142 then (bif Nat.ble pc 139 then (bif Nat.beq pc 139 then some (.goto 4, 3, 142, [143], 0) else none)
  else (bif Nat.beq pc 142 then some (.iload_n 3, 1, 143, [], 0) else none))
  else ((fun pc => bif Nat.ble pc 143 then (bif Nat.beq pc 143 then some (.iadd, 1, 144, [], 0) else none)
  else (bif Nat.ble pc 144 then (bif Nat.beq pc 144 then some (.putfield 155, 3, 147, [], 0) else none)
  else (bif Nat.beq pc 147 then some (.iload_n 3, 1, 148, [], 0) else none))) : nk_F) pc) : nk_F) pc
  else ((fun pc => bif Nat.ble pc 151 then ((fun pc => bif Nat.ble pc 148 then (bif Nat.beq pc 148 then some (.bipush 10, 2, 150, [], 10) else none)
  else (bif Nat.ble pc 150 then (bif Nat.beq pc 150 then some (.imul, 1, 151, [], 0) else none)
  else (bif Nat.beq pc 151 then some (.istore_n 3, 1, 152, [], 0) else none))) : nk_F) pc
  else ((fun pc => bif Nat.ble pc 152 then (bif Nat.beq pc 152 then some (.goto (-46), 3, 155, [106], 0) else none)
  else (bif Nat.ble pc 155 then (bif Nat.beq pc 155 then some (.bipush (-9), 2, 157, [], (-9)) else none)
  else (bif Nat.beq pc 157 then some (.ireturn, 1, 158, [], 0) else none))) : nk_F) pc) : nk_F) pc) : nk_F) pc) : nk_F) pc) : nk_F) pc
noncomputable def kc_X6_goesOn : Nat → Option nk_I := nk_top 158 kt_X6_goesOn
noncomputable def kx_X6_goesOn : nk_T := ([(155, 6, 15, 0), (26, 6, 8, 4)], [(632, 3, 7, 0, 0, ev_X6_byteAt), (646, 1, 0, 0, 0, ev_X6_placeOf), (658, 2, 0, 0, 0, ev_X6_figure), (670, 2, 0, 0, 0, ev_X6_choice)], [], [], [], [], [], 1, false, 0, 0)
noncomputable def ev_X6_goesOn : nk_Ev := fun as h Q => nk_if (Nat.ble (nk_wd as) 6) (nk_ev kx_X6_goesOn kc_X6_goesOn 6 as h Q)
set_option maxRecDepth 100000 in
theorem ck_X6_goesOn : nk_chk cX6_goesOn kc_X6_goesOn 158 = true := nd_chk (by decide +kernel) (by decide +kernel)
set_option maxRecDepth 100000 in
set_option maxHeartbeats 4000000 in
theorem ca_X6_goesOn_632 (l : Launch) : nk_CallOk l { frames := 1, cells := 0, slots := 0, locals := 22 } RX6 cX6_goesOn 6 false 632 (3, 7, 0, 0, ev_X6_byteAt) := nk_callV (x := 158) (n := 2) (ci := 6) (r := (RX6, TX6, 32)) (mt_X6_byteAt l) rfl (nk_msc [(4, 176), (4, 177), (4, 178), (4, 179), (0, 37), (1, 7)] (by decide +kernel)) rfl rfl (by decide +kernel) ⟨by decide, by decide⟩
set_option maxRecDepth 100000 in
set_option maxHeartbeats 4000000 in
theorem ca_X6_goesOn_646 (l : Launch) : nk_CallOk l { frames := 1, cells := 0, slots := 0, locals := 22 } RX6 cX6_goesOn 6 false 646 (1, 0, 0, 0, ev_X6_placeOf) := nk_callS (x := 161) (n := 1) (mt_X6_placeOf l) (nk_msc [(4, 180), (4, 181), (4, 182), (1, 7)] (by decide +kernel)) rfl rfl (by decide +kernel) ⟨by decide, by decide⟩
set_option maxRecDepth 100000 in
set_option maxHeartbeats 4000000 in
theorem ca_X6_goesOn_658 (l : Launch) : nk_CallOk l { frames := 1, cells := 0, slots := 0, locals := 22 } RX6 cX6_goesOn 6 false 658 (2, 0, 0, 0, ev_X6_figure) := nk_callS (x := 164) (n := 2) (mt_X6_figure l) (nk_msc [(4, 183), (4, 184), (4, 185), (1, 7)] (by decide +kernel)) rfl rfl (by decide +kernel) ⟨by decide, by decide⟩
set_option maxRecDepth 100000 in
set_option maxHeartbeats 4000000 in
theorem ca_X6_goesOn_670 (l : Launch) : nk_CallOk l { frames := 1, cells := 0, slots := 0, locals := 22 } RX6 cX6_goesOn 6 false 670 (2, 0, 0, 0, ev_X6_choice) := nk_callS (x := 167) (n := 2) (mt_X6_choice l) (nk_msc [(4, 186), (4, 187), (4, 188), (1, 7)] (by decide +kernel)) rfl rfl (by decide +kernel) ⟨by decide, by decide⟩
set_option maxRecDepth 100000 in
set_option maxHeartbeats 4000000 in
theorem mt_X6_goesOn (l : Launch) : nk_Met l yX6_goesOn cX6_goesOn 6 (some .int) { frames := 1, cells := 0, slots := 0, locals := 22 } false 0 0 ev_X6_goesOn :=
  nk_met nk_gok (plainFor_of_name (by decide)) ck_X6_goesOn (nk_top_out 158 kt_X6_goesOn) ⟨List.forall_mem_cons.mpr ⟨nk_fkc [(3, 208)] (by decide +kernel), List.forall_mem_cons.mpr ⟨nk_fkc [(3, 201)] (by decide +kernel), fun _ h => absurd h List.not_mem_nil⟩⟩, List.forall_mem_cons.mpr ⟨ca_X6_goesOn_632 l, List.forall_mem_cons.mpr ⟨ca_X6_goesOn_646 l, List.forall_mem_cons.mpr ⟨ca_X6_goesOn_658 l, List.forall_mem_cons.mpr ⟨ca_X6_goesOn_670 l, fun _ h => absurd h List.not_mem_nil⟩⟩⟩⟩, fun _ h => absurd h List.not_mem_nil, fun _ h => absurd h List.not_mem_nil, fun _ h => absurd h List.not_mem_nil, fun _ h => absurd h List.not_mem_nil, fun _ h => absurd h List.not_mem_nil, by decide, rfl, rfl⟩ rfl (by decide)
/-! MarbleLawModel.fault(I)I -/
noncomputable def kt_X6_fault : Nat → Option nk_I := fun pc => bif Nat.ble pc 7 then ((fun pc => bif Nat.ble pc 2 then ((fun pc => bif Nat.ble pc 0 then (bif Nat.beq pc 0 then some (.aload_n 0, 1, 1, [], 0) else none)
  else (bif Nat.ble pc 1 then (bif Nat.beq pc 1 then some (.iload_n 1, 1, 2, [], 0) else none)
  else (bif Nat.beq pc 2 then some (.invokevirtual 117, 3, 5, [], 0) else none))) : nk_F) pc
  else ((fun pc => bif Nat.ble pc 5 then (bif Nat.beq pc 5 then some (.istore_n 2, 1, 6, [], 0) else none)
  else (bif Nat.ble pc 6 then (bif Nat.beq pc 6 then some (.iload_n 2, 1, 7, [], 0) else none)
  else (bif Nat.beq pc 7 then some (.ifCond .ge 7, 3, 10, [14], 0) else none))) : nk_F) pc) : nk_F) pc
  else ((fun pc => bif Nat.ble pc 14 then ((fun pc => bif Nat.ble pc 10 then (bif Nat.beq pc 10 then some (.iload_n 2, 1, 11, [], 0) else none)
  else (bif Nat.ble pc 11 then (bif Nat.beq pc 11 then some (.goto 8, 3, 14, [19], 0) else none)
  else (bif Nat.beq pc 14 then some (.aload_n 0, 1, 15, [], 0) else none))) : nk_F) pc
  else ((fun pc => bif Nat.ble pc 15 then (bif Nat.beq pc 15 then some (.iload_n 1, 1, 16, [], 0) else none)
  else (bif Nat.ble pc 16 then (bif Nat.beq pc 16 then some (.invokevirtual 170, 3, 19, [], 0) else none)
  else (bif Nat.beq pc 19 then some (.ireturn, 1, 20, [], 0) else none))) : nk_F) pc) : nk_F) pc
noncomputable def kc_X6_fault : Nat → Option nk_I := nk_top 20 kt_X6_fault
noncomputable def kx_X6_fault : nk_T := ([], [(468, 2, 7, 0, 0, ev_X6_askedText), (680, 2, 7, 0, 0, ev_X6_goesOn)], [], [], [], [], [], 1, false, 0, 0)
noncomputable def ev_X6_fault : nk_Ev := fun as h Q => nk_if (Nat.ble (nk_wd as) 3) (nk_ev kx_X6_fault kc_X6_fault 3 as h Q)
set_option maxRecDepth 100000 in
theorem ck_X6_fault : nk_chk cX6_fault kc_X6_fault 20 = true := nd_chk (by decide +kernel) (by decide +kernel)
set_option maxRecDepth 100000 in
set_option maxHeartbeats 4000000 in
theorem ca_X6_fault_468 (l : Launch) : nk_CallOk l { frames := 3, cells := 0, slots := 0, locals := 63 } RX6 cX6_fault 3 false 468 (2, 7, 0, 0, ev_X6_askedText) := nk_callV (x := 117) (n := 1) (ci := 6) (r := (RX6, TX6, 32)) (mt_X6_askedText l) rfl (nk_msc [(4, 108), (4, 109), (4, 110), (4, 111), (0, 30), (1, 7)] (by decide +kernel)) rfl rfl (by decide +kernel) ⟨by decide, by decide⟩
set_option maxRecDepth 100000 in
set_option maxHeartbeats 4000000 in
theorem ca_X6_fault_680 (l : Launch) : nk_CallOk l { frames := 3, cells := 0, slots := 0, locals := 63 } RX6 cX6_fault 3 false 680 (2, 7, 0, 0, ev_X6_goesOn) := nk_callV (x := 170) (n := 1) (ci := 6) (r := (RX6, TX6, 32)) (mt_X6_goesOn l) rfl (nk_msc [(4, 172), (4, 173), (4, 174), (4, 175), (0, 36), (1, 7)] (by decide +kernel)) rfl rfl (by decide +kernel) ⟨by decide, by decide⟩
set_option maxRecDepth 100000 in
set_option maxHeartbeats 4000000 in
theorem mt_X6_fault (l : Launch) : nk_Met l yX6_fault cX6_fault 3 (some .int) { frames := 3, cells := 0, slots := 0, locals := 63 } false 0 0 ev_X6_fault :=
  nk_met nk_gok (plainFor_of_name (by decide)) ck_X6_fault (nk_top_out 20 kt_X6_fault) ⟨fun _ h => absurd h List.not_mem_nil, List.forall_mem_cons.mpr ⟨ca_X6_fault_468 l, List.forall_mem_cons.mpr ⟨ca_X6_fault_680 l, fun _ h => absurd h List.not_mem_nil⟩⟩, fun _ h => absurd h List.not_mem_nil, fun _ h => absurd h List.not_mem_nil, fun _ h => absurd h List.not_mem_nil, fun _ h => absurd h List.not_mem_nil, fun _ h => absurd h List.not_mem_nil, by decide, rfl, rfl⟩ rfl (by decide)
/-! MarbleLawModel.isLaws(I)Z -/
noncomputable def kt_X6_isLaws : Nat → Option nk_I := fun pc => bif Nat.ble pc 1 then (bif Nat.ble pc 0 then (bif Nat.beq pc 0 then some (.iload_n 0, 1, 1, [], 0) else none)
  else (bif Nat.beq pc 1 then some (.iconst 0, 1, 2, [], 0) else none))
  else ((fun pc => bif Nat.ble pc 2 then (bif Nat.beq pc 2 then some (.iconst 3, 1, 3, [], 3) else none)
  else (bif Nat.ble pc 3 then (bif Nat.beq pc 3 then some (.invokestatic 89, 3, 6, [], 0) else none)
  else (bif Nat.beq pc 6 then some (.ireturn, 1, 7, [], 0) else none))) : nk_F) pc
noncomputable def kc_X6_isLaws : Nat → Option nk_I := nk_top 7 kt_X6_isLaws
noncomputable def kx_X6_isLaws : nk_T := ([], [(358, 3, 0, 0, 0, ev_X6_in)], [], [], [], [], [], 2, false, 0, 0)
noncomputable def ev_X6_isLaws : nk_Ev := fun as h Q => nk_if (Nat.ble (nk_wd as) 1) (nk_ev kx_X6_isLaws kc_X6_isLaws 1 as h Q)
set_option maxRecDepth 100000 in
theorem ck_X6_isLaws : nk_chk cX6_isLaws kc_X6_isLaws 7 = true := nd_chk (by decide +kernel) (by decide +kernel)
set_option maxRecDepth 100000 in
set_option maxHeartbeats 4000000 in
theorem ca_X6_isLaws_358 (l : Launch) : nk_CallOk l { frames := 1, cells := 0, slots := 0, locals := 22 } RX6 cX6_isLaws 1 false 358 (3, 0, 0, 0, ev_X6_in) := nk_callS (x := 89) (n := 3) (mt_X6_in l) (nk_msc [(4, 57), (4, 58), (4, 59), (1, 7)] (by decide +kernel)) rfl rfl (by decide +kernel) ⟨by decide, by decide⟩
set_option maxRecDepth 100000 in
set_option maxHeartbeats 4000000 in
theorem mt_X6_isLaws (l : Launch) : nk_Met l yX6_isLaws cX6_isLaws 1 (some .boolean) { frames := 1, cells := 0, slots := 0, locals := 22 } false 0 0 ev_X6_isLaws :=
  nk_met nk_gok (plainFor_of_name (by decide)) ck_X6_isLaws (nk_top_out 7 kt_X6_isLaws) ⟨fun _ h => absurd h List.not_mem_nil, List.forall_mem_cons.mpr ⟨ca_X6_isLaws_358 l, fun _ h => absurd h List.not_mem_nil⟩, fun _ h => absurd h List.not_mem_nil, fun _ h => absurd h List.not_mem_nil, fun _ h => absurd h List.not_mem_nil, fun _ h => absurd h List.not_mem_nil, fun _ h => absurd h List.not_mem_nil, by decide, rfl, rfl⟩ rfl (by decide)
/-! MarbleLawModel.askedLaws(I)I -/
noncomputable def kt_X6_askedLaws : Nat → Option nk_I := fun pc => bif Nat.ble pc 15 then ((fun pc => bif Nat.ble pc 7 then ((fun pc => bif Nat.ble pc 1 then (bif Nat.ble pc 0 then (bif Nat.beq pc 0 then some (.iload_n 1, 1, 1, [], 0) else none)
  else (bif Nat.beq pc 1 then some (.invokestatic 173, 3, 4, [], 0) else none))
  else (bif Nat.ble pc 4 then (bif Nat.beq pc 4 then some (.ifCond .ne 7, 3, 7, [11], 0) else none)
  else (bif Nat.beq pc 7 then some (.iconst (-1), 1, 8, [], (-1)) else none))) : nk_F) pc
  else ((fun pc => bif Nat.ble pc 11 then (bif Nat.ble pc 8 then (bif Nat.beq pc 8 then some (.goto 21, 3, 11, [29], 0) else none)
  else (bif Nat.beq pc 11 then some (.aload_n 0, 1, 12, [], 0) else none))
  else (bif Nat.ble pc 12 then (bif Nat.beq pc 12 then some (.getfield 38, 3, 15, [], 0) else none)
  else (bif Nat.beq pc 15 then some (.iload_n 1, 1, 16, [], 0) else none))) : nk_F) pc) : nk_F) pc
  else ((fun pc => bif Nat.ble pc 21 then ((fun pc => bif Nat.ble pc 17 then (bif Nat.ble pc 16 then (bif Nat.beq pc 16 then some (.iaload, 1, 17, [], 0) else none)
  else (bif Nat.beq pc 17 then some (.ifCond .ne 11, 3, 20, [28], 0) else none))
  else (bif Nat.ble pc 20 then (bif Nat.beq pc 20 then some (.aload_n 0, 1, 21, [], 0) else none)
  else (bif Nat.beq pc 21 then some (.iconst 1, 1, 22, [], 1) else none))) : nk_F) pc
  else ((fun pc => bif Nat.ble pc 25 then (bif Nat.ble pc 22 then (bif Nat.beq pc 22 then some (.invokevirtual 97, 3, 25, [], 0) else none)
  else (bif Nat.beq pc 25 then some (.goto 4, 3, 28, [29], 0) else none))
  else (bif Nat.ble pc 28 then (bif Nat.beq pc 28 then some (.iconst 0, 1, 29, [], 0) else none)
  else (bif Nat.beq pc 29 then some (.ireturn, 1, 30, [], 0) else none))) : nk_F) pc) : nk_F) pc
noncomputable def kc_X6_askedLaws : Nat → Option nk_I := nk_top 30 kt_X6_askedLaws
noncomputable def kx_X6_askedLaws : nk_T := ([(38, 6, 14, 4)], [(694, 1, 0, 0, 0, ev_X6_isLaws), (388, 2, 7, 0, 0, ev_X6_meets)], [], [], [], [], [], 1, false, 0, 0)
noncomputable def ev_X6_askedLaws : nk_Ev := fun as h Q => nk_if (Nat.ble (nk_wd as) 2) (nk_ev kx_X6_askedLaws kc_X6_askedLaws 2 as h Q)
set_option maxRecDepth 100000 in
theorem ck_X6_askedLaws : nk_chk cX6_askedLaws kc_X6_askedLaws 30 = true := nd_chk (by decide +kernel) (by decide +kernel)
set_option maxRecDepth 100000 in
set_option maxHeartbeats 4000000 in
theorem ca_X6_askedLaws_694 (l : Launch) : nk_CallOk l { frames := 2, cells := 0, slots := 0, locals := 42 } RX6 cX6_askedLaws 2 false 694 (1, 0, 0, 0, ev_X6_isLaws) := nk_callS (x := 173) (n := 1) (mt_X6_isLaws l) (nk_msc [(4, 193), (4, 194), (4, 195), (1, 7)] (by decide +kernel)) rfl rfl (by decide +kernel) ⟨by decide, by decide⟩
set_option maxRecDepth 100000 in
set_option maxHeartbeats 4000000 in
theorem ca_X6_askedLaws_388 (l : Launch) : nk_CallOk l { frames := 2, cells := 0, slots := 0, locals := 42 } RX6 cX6_askedLaws 2 false 388 (2, 7, 0, 0, ev_X6_meets) := nk_callV (x := 97) (n := 1) (ci := 6) (r := (RX6, TX6, 32)) (mt_X6_meets l) rfl (nk_msc [(4, 60), (4, 61), (4, 62), (4, 63), (0, 26), (1, 7)] (by decide +kernel)) rfl rfl (by decide +kernel) ⟨by decide, by decide⟩
set_option maxRecDepth 100000 in
set_option maxHeartbeats 4000000 in
theorem mt_X6_askedLaws (l : Launch) : nk_Met l yX6_askedLaws cX6_askedLaws 2 (some .int) { frames := 2, cells := 0, slots := 0, locals := 42 } false 0 0 ev_X6_askedLaws :=
  nk_met nk_gok (plainFor_of_name (by decide)) ck_X6_askedLaws (nk_top_out 30 kt_X6_askedLaws) ⟨List.forall_mem_cons.mpr ⟨nk_fkc [(3, 207)] (by decide +kernel), fun _ h => absurd h List.not_mem_nil⟩, List.forall_mem_cons.mpr ⟨ca_X6_askedLaws_694 l, List.forall_mem_cons.mpr ⟨ca_X6_askedLaws_388 l, fun _ h => absurd h List.not_mem_nil⟩⟩, fun _ h => absurd h List.not_mem_nil, fun _ h => absurd h List.not_mem_nil, fun _ h => absurd h List.not_mem_nil, fun _ h => absurd h List.not_mem_nil, fun _ h => absurd h List.not_mem_nil, by decide, rfl, rfl⟩ rfl (by decide)
/-! MarbleLawModel.laws(II)I -/
noncomputable def kt_X6_laws : Nat → Option nk_I := fun pc => bif Nat.ble pc 21 then ((fun pc => bif Nat.ble pc 10 then ((fun pc => bif Nat.ble pc 4 then ((fun pc => bif Nat.ble pc 0 then (bif Nat.beq pc 0 then some (.iload_n 1, 1, 1, [], 0) else none)
  else (bif Nat.ble pc 1 then (bif Nat.beq pc 1 then some (.invokestatic 173, 3, 4, [], 0) else none)
  else (bif Nat.beq pc 4 then some (.ifCond .ne 5, 3, 7, [9], 0) else none))) : nk_F) pc
  else ((fun pc => bif Nat.ble pc 8 then (bif Nat.ble pc 7 then (bif Nat.beq pc 7 then some (.iconst (-1), 1, 8, [], (-1)) else none)
  else (bif Nat.beq pc 8 then some (.ireturn, 1, 9, [], 0) else none))
  else (bif Nat.ble pc 9 then (bif Nat.beq pc 9 then some (.aload_n 0, 1, 10, [], 0) else none)
  else (bif Nat.beq pc 10 then some (.iload_n 2, 1, 11, [], 0) else none))) : nk_F) pc) : nk_F) pc
  else ((fun pc => bif Nat.ble pc 15 then ((fun pc => bif Nat.ble pc 11 then (bif Nat.beq pc 11 then some (.invokevirtual 117, 3, 14, [], 0) else none)
  else (bif Nat.ble pc 14 then (bif Nat.beq pc 14 then some (.istore_n 3, 1, 15, [], 0) else none)
  else (bif Nat.beq pc 15 then some (.iload_n 3, 1, 16, [], 0) else none))) : nk_F) pc
  else ((fun pc => bif Nat.ble pc 19 then (bif Nat.ble pc 16 then (bif Nat.beq pc 16 then some (.ifCond .ge 5, 3, 19, [21], 0) else none)
  else (bif Nat.beq pc 19 then some (.iload_n 3, 1, 20, [], 0) else none))
  else (bif Nat.ble pc 20 then (bif Nat.beq pc 20 then some (.ireturn, 1, 21, [], 0) else none)
  else (bif Nat.beq pc 21 then some (.aload_n 0, 1, 22, [], 0) else none))) : nk_F) pc) : nk_F) pc) : nk_F) pc
  else ((fun pc => bif Nat.ble pc 34 then ((fun pc => bif Nat.ble pc 26 then ((fun pc => bif Nat.ble pc 22 then (bif Nat.beq pc 22 then some (.iload_n 2, 1, 23, [], 0) else none)
  else (bif Nat.ble pc 23 then (bif Nat.beq pc 23 then some (.invokevirtual 170, 3, 26, [], 0) else none)
  else (bif Nat.beq pc 26 then some (.bipush (-9), 2, 28, [], (-9)) else none))) : nk_F) pc
  else ((fun pc => bif Nat.ble pc 31 then (bif Nat.ble pc 28 then (bif Nat.beq pc 28 then some (.if_icmp .eq 6, 3, 31, [34], 0) else none)
  else (bif Nat.beq pc 31 then some (.bipush (-4), 2, 33, [], (-4)) else none))
  else (bif Nat.ble pc 33 then (bif Nat.beq pc 33 then some (.ireturn, 1, 34, [], 0) else none)
  else (bif Nat.beq pc 34 then some (.aload_n 0, 1, 35, [], 0) else none))) : nk_F) pc) : nk_F) pc
  else ((fun pc => bif Nat.ble pc 40 then ((fun pc => bif Nat.ble pc 38 then (bif Nat.ble pc 35 then (bif Nat.beq pc 35 then some (.getfield 38, 3, 38, [], 0) else none)
  else (bif Nat.beq pc 38 then some (.iload_n 1, 1, 39, [], 0) else none))
  else (bif Nat.ble pc 39 then (bif Nat.beq pc 39 then some (.aload_n 0, 1, 40, [], 0) else none)
  else (bif Nat.beq pc 40 then some (.getfield 155, 3, 43, [], 0) else none))) : nk_F) pc
  else ((fun pc => bif Nat.ble pc 44 then (bif Nat.ble pc 43 then (bif Nat.beq pc 43 then some (.iastore, 1, 44, [], 0) else none)
  else (bif Nat.beq pc 44 then some (.aload_n 0, 1, 45, [], 0) else none))
  else (bif Nat.ble pc 45 then (bif Nat.beq pc 45 then some (.getfield 155, 3, 48, [], 0) else none)
  else (bif Nat.beq pc 48 then some (.ireturn, 1, 49, [], 0) else none))) : nk_F) pc) : nk_F) pc) : nk_F) pc
noncomputable def kc_X6_laws : Nat → Option nk_I := nk_top 49 kt_X6_laws
noncomputable def kx_X6_laws : nk_T := ([(38, 6, 14, 4), (155, 6, 15, 0)], [(694, 1, 0, 0, 0, ev_X6_isLaws), (468, 2, 7, 0, 0, ev_X6_askedText), (680, 2, 7, 0, 0, ev_X6_goesOn)], [], [], [], [], [], 1, false, 0, 0)
noncomputable def ev_X6_laws : nk_Ev := fun as h Q => nk_if (Nat.ble (nk_wd as) 4) (nk_ev kx_X6_laws kc_X6_laws 4 as h Q)
set_option maxRecDepth 100000 in
theorem ck_X6_laws : nk_chk cX6_laws kc_X6_laws 49 = true := nd_chk (by decide +kernel) (by decide +kernel)
set_option maxRecDepth 100000 in
set_option maxHeartbeats 4000000 in
theorem ca_X6_laws_694 (l : Launch) : nk_CallOk l { frames := 3, cells := 0, slots := 0, locals := 63 } RX6 cX6_laws 4 false 694 (1, 0, 0, 0, ev_X6_isLaws) := nk_callS (x := 173) (n := 1) (mt_X6_isLaws l) (nk_msc [(4, 193), (4, 194), (4, 195), (1, 7)] (by decide +kernel)) rfl rfl (by decide +kernel) ⟨by decide, by decide⟩
set_option maxRecDepth 100000 in
set_option maxHeartbeats 4000000 in
theorem ca_X6_laws_468 (l : Launch) : nk_CallOk l { frames := 3, cells := 0, slots := 0, locals := 63 } RX6 cX6_laws 4 false 468 (2, 7, 0, 0, ev_X6_askedText) := nk_callV (x := 117) (n := 1) (ci := 6) (r := (RX6, TX6, 32)) (mt_X6_askedText l) rfl (nk_msc [(4, 108), (4, 109), (4, 110), (4, 111), (0, 30), (1, 7)] (by decide +kernel)) rfl rfl (by decide +kernel) ⟨by decide, by decide⟩
set_option maxRecDepth 100000 in
set_option maxHeartbeats 4000000 in
theorem ca_X6_laws_680 (l : Launch) : nk_CallOk l { frames := 3, cells := 0, slots := 0, locals := 63 } RX6 cX6_laws 4 false 680 (2, 7, 0, 0, ev_X6_goesOn) := nk_callV (x := 170) (n := 1) (ci := 6) (r := (RX6, TX6, 32)) (mt_X6_goesOn l) rfl (nk_msc [(4, 172), (4, 173), (4, 174), (4, 175), (0, 36), (1, 7)] (by decide +kernel)) rfl rfl (by decide +kernel) ⟨by decide, by decide⟩
set_option maxRecDepth 100000 in
set_option maxHeartbeats 4000000 in
theorem mt_X6_laws (l : Launch) : nk_Met l yX6_laws cX6_laws 4 (some .int) { frames := 3, cells := 0, slots := 0, locals := 63 } false 0 0 ev_X6_laws :=
  nk_met nk_gok (plainFor_of_name (by decide)) ck_X6_laws (nk_top_out 49 kt_X6_laws) ⟨List.forall_mem_cons.mpr ⟨nk_fkc [(3, 207)] (by decide +kernel), List.forall_mem_cons.mpr ⟨nk_fkc [(3, 208)] (by decide +kernel), fun _ h => absurd h List.not_mem_nil⟩⟩, List.forall_mem_cons.mpr ⟨ca_X6_laws_694 l, List.forall_mem_cons.mpr ⟨ca_X6_laws_468 l, List.forall_mem_cons.mpr ⟨ca_X6_laws_680 l, fun _ h => absurd h List.not_mem_nil⟩⟩⟩, fun _ h => absurd h List.not_mem_nil, fun _ h => absurd h List.not_mem_nil, fun _ h => absurd h List.not_mem_nil, fun _ h => absurd h List.not_mem_nil, fun _ h => absurd h List.not_mem_nil, by decide, rfl, rfl⟩ rfl (by decide)
/-! MarbleLawModel.law(I)I -/
noncomputable def kt_X6_law : Nat → Option nk_I := fun pc => bif Nat.ble pc 7 then ((fun pc => bif Nat.ble pc 2 then ((fun pc => bif Nat.ble pc 0 then (bif Nat.beq pc 0 then some (.aload_n 0, 1, 1, [], 0) else none)
  else (bif Nat.ble pc 1 then (bif Nat.beq pc 1 then some (.iload_n 1, 1, 2, [], 0) else none)
  else (bif Nat.beq pc 2 then some (.invokevirtual 176, 3, 5, [], 0) else none))) : nk_F) pc
  else ((fun pc => bif Nat.ble pc 5 then (bif Nat.beq pc 5 then some (.istore_n 2, 1, 6, [], 0) else none)
  else (bif Nat.ble pc 6 then (bif Nat.beq pc 6 then some (.iload_n 2, 1, 7, [], 0) else none)
  else (bif Nat.beq pc 7 then some (.ifCond .ge 7, 3, 10, [14], 0) else none))) : nk_F) pc) : nk_F) pc
  else ((fun pc => bif Nat.ble pc 14 then ((fun pc => bif Nat.ble pc 10 then (bif Nat.beq pc 10 then some (.iload_n 2, 1, 11, [], 0) else none)
  else (bif Nat.ble pc 11 then (bif Nat.beq pc 11 then some (.goto 9, 3, 14, [20], 0) else none)
  else (bif Nat.beq pc 14 then some (.aload_n 0, 1, 15, [], 0) else none))) : nk_F) pc
  else ((fun pc => bif Nat.ble pc 18 then (bif Nat.ble pc 15 then (bif Nat.beq pc 15 then some (.getfield 38, 3, 18, [], 0) else none)
  else (bif Nat.beq pc 18 then some (.iload_n 1, 1, 19, [], 0) else none))
  else (bif Nat.ble pc 19 then (bif Nat.beq pc 19 then some (.iaload, 1, 20, [], 0) else none)
  else (bif Nat.beq pc 20 then some (.ireturn, 1, 21, [], 0) else none))) : nk_F) pc) : nk_F) pc
noncomputable def kc_X6_law : Nat → Option nk_I := nk_top 21 kt_X6_law
noncomputable def kx_X6_law : nk_T := ([(38, 6, 14, 4)], [(704, 2, 7, 0, 0, ev_X6_askedLaws)], [], [], [], [], [], 1, false, 0, 0)
noncomputable def ev_X6_law : nk_Ev := fun as h Q => nk_if (Nat.ble (nk_wd as) 3) (nk_ev kx_X6_law kc_X6_law 3 as h Q)
set_option maxRecDepth 100000 in
theorem ck_X6_law : nk_chk cX6_law kc_X6_law 21 = true := nd_chk (by decide +kernel) (by decide +kernel)
set_option maxRecDepth 100000 in
set_option maxHeartbeats 4000000 in
theorem ca_X6_law_704 (l : Launch) : nk_CallOk l { frames := 3, cells := 0, slots := 0, locals := 63 } RX6 cX6_law 3 false 704 (2, 7, 0, 0, ev_X6_askedLaws) := nk_callV (x := 176) (n := 1) (ci := 6) (r := (RX6, TX6, 32)) (mt_X6_askedLaws l) rfl (nk_msc [(4, 200), (4, 201), (4, 202), (4, 203), (0, 38), (1, 7)] (by decide +kernel)) rfl rfl (by decide +kernel) ⟨by decide, by decide⟩
set_option maxRecDepth 100000 in
set_option maxHeartbeats 4000000 in
theorem mt_X6_law (l : Launch) : nk_Met l yX6_law cX6_law 3 (some .int) { frames := 3, cells := 0, slots := 0, locals := 63 } false 0 0 ev_X6_law :=
  nk_met nk_gok (plainFor_of_name (by decide)) ck_X6_law (nk_top_out 21 kt_X6_law) ⟨List.forall_mem_cons.mpr ⟨nk_fkc [(3, 207)] (by decide +kernel), fun _ h => absurd h List.not_mem_nil⟩, List.forall_mem_cons.mpr ⟨ca_X6_law_704 l, fun _ h => absurd h List.not_mem_nil⟩, fun _ h => absurd h List.not_mem_nil, fun _ h => absurd h List.not_mem_nil, fun _ h => absurd h List.not_mem_nil, fun _ h => absurd h List.not_mem_nil, fun _ h => absurd h List.not_mem_nil, by decide, rfl, rfl⟩ rfl (by decide)
/-! MarbleLawModel.begins(II)V -/
noncomputable def kt_X6_begins : Nat → Option nk_I := fun pc => bif Nat.ble pc 66 then ((fun pc => bif Nat.ble pc 33 then ((fun pc => bif Nat.ble pc 16 then ((fun pc => bif Nat.ble pc 6 then ((fun pc => bif Nat.ble pc 1 then (bif Nat.ble pc 0 then (bif Nat.beq pc 0 then some (.aload_n 0, 1, 1, [], 0) else none)
  else (bif Nat.beq pc 1 then some (.iload_n 1, 1, 2, [], 0) else none))
  else ((fun pc => bif Nat.ble pc 2 then (bif Nat.beq pc 2 then some (.putfield 179, 3, 5, [], 0) else none)
  else (bif Nat.ble pc 5 then (bif Nat.beq pc 5 then some (.aload_n 0, 1, 6, [], 0) else none)
  else (bif Nat.beq pc 6 then some (.iload_n 2, 1, 7, [], 0) else none))) : nk_F) pc) : nk_F) pc
  else ((fun pc => bif Nat.ble pc 11 then ((fun pc => bif Nat.ble pc 7 then (bif Nat.beq pc 7 then some (.putfield 182, 3, 10, [], 0) else none)
  else (bif Nat.ble pc 10 then (bif Nat.beq pc 10 then some (.aload_n 0, 1, 11, [], 0) else none)
  else (bif Nat.beq pc 11 then some (.iconst 0, 1, 12, [], 0) else none))) : nk_F) pc
  else ((fun pc => bif Nat.ble pc 12 then (bif Nat.beq pc 12 then some (.putfield 185, 3, 15, [], 0) else none)
  else (bif Nat.ble pc 15 then (bif Nat.beq pc 15 then some (.iconst 0, 1, 16, [], 0) else none)
  else (bif Nat.beq pc 16 then some (.istore_n 3, 1, 17, [], 0) else none))) : nk_F) pc) : nk_F) pc) : nk_F) pc
  else ((fun pc => bif Nat.ble pc 25 then ((fun pc => bif Nat.ble pc 18 then (bif Nat.ble pc 17 then (bif Nat.beq pc 17 then some (.iload_n 3, 1, 18, [], 0) else none)
  else (bif Nat.beq pc 18 then some (.aload_n 0, 1, 19, [], 0) else none))
  else ((fun pc => bif Nat.ble pc 19 then (bif Nat.beq pc 19 then some (.getfield 120, 3, 22, [], 0) else none)
  else (bif Nat.ble pc 22 then (bif Nat.beq pc 22 then some (.if_icmp .ge 117, 3, 25, [139], 0) else none)
  else (bif Nat.beq pc 25 then some (.aload_n 0, 1, 26, [], 0) else none))) : nk_F) pc) : nk_F) pc
  else ((fun pc => bif Nat.ble pc 30 then ((fun pc => bif Nat.ble pc 26 then (bif Nat.beq pc 26 then some (.getfield 41, 3, 29, [], 0) else none)
  else (bif Nat.ble pc 29 then (bif Nat.beq pc 29 then some (.iload_n 3, 1, 30, [], 0) else none)
  else (bif Nat.beq pc 30 then some (.iload_n 3, 1, 31, [], 0) else none))) : nk_F) pc
  else ((fun pc => bif Nat.ble pc 31 then (bif Nat.beq pc 31 then some (.iastore, 1, 32, [], 0) else none)
  else (bif Nat.ble pc 32 then (bif Nat.beq pc 32 then some (.aload_n 0, 1, 33, [], 0) else none)
  else (bif Nat.beq pc 33 then some (.getfield 44, 3, 36, [], 0) else none))) : nk_F) pc) : nk_F) pc) : nk_F) pc) : nk_F) pc
  else ((fun pc => bif Nat.ble pc 50 then ((fun pc => bif Nat.ble pc 42 then ((fun pc => bif Nat.ble pc 37 then (bif Nat.ble pc 36 then (bif Nat.beq pc 36 then some (.iload_n 3, 1, 37, [], 0) else none)
  else (bif Nat.beq pc 37 then some (.aload_n 0, 1, 38, [], 0) else none))
  else ((fun pc => bif Nat.ble pc 38 then (bif Nat.beq pc 38 then some (.getfield 32, 3, 41, [], 0) else none)
  else (bif Nat.ble pc 41 then (bif Nat.beq pc 41 then some (.iconst 5, 1, 42, [], 5) else none)
  else (bif Nat.beq pc 42 then some (.iload_n 3, 1, 43, [], 0) else none))) : nk_F) pc) : nk_F) pc
  else ((fun pc => bif Nat.ble pc 45 then ((fun pc => bif Nat.ble pc 43 then (bif Nat.beq pc 43 then some (.imul, 1, 44, [], 0) else none)
  else (bif Nat.ble pc 44 then (bif Nat.beq pc 44 then some (.iaload, 1, 45, [], 0) else none)
  else (bif Nat.beq pc 45 then some (.iastore, 1, 46, [], 0) else none))) : nk_F) pc
  else ((fun pc => bif Nat.ble pc 46 then (bif Nat.beq pc 46 then some (.aload_n 0, 1, 47, [], 0) else none)
  else (bif Nat.ble pc 47 then (bif Nat.beq pc 47 then some (.getfield 47, 3, 50, [], 0) else none)
  else (bif Nat.beq pc 50 then some (.iload_n 3, 1, 51, [], 0) else none))) : nk_F) pc) : nk_F) pc) : nk_F) pc
  else ((fun pc => bif Nat.ble pc 58 then ((fun pc => bif Nat.ble pc 55 then ((fun pc => bif Nat.ble pc 51 then (bif Nat.beq pc 51 then some (.aload_n 0, 1, 52, [], 0) else none)
  else (bif Nat.ble pc 52 then (bif Nat.beq pc 52 then some (.getfield 32, 3, 55, [], 0) else none)
  else (bif Nat.beq pc 55 then some (.iconst 5, 1, 56, [], 5) else none))) : nk_F) pc
  else ((fun pc => bif Nat.ble pc 56 then (bif Nat.beq pc 56 then some (.iload_n 3, 1, 57, [], 0) else none)
  else (bif Nat.ble pc 57 then (bif Nat.beq pc 57 then some (.imul, 1, 58, [], 0) else none)
  else (bif Nat.beq pc 58 then some (.iconst 1, 1, 59, [], 1) else none))) : nk_F) pc) : nk_F) pc
  else ((fun pc => bif Nat.ble pc 61 then ((fun pc => bif Nat.ble pc 59 then (bif Nat.beq pc 59 then some (.iadd, 1, 60, [], 0) else none)
  else (bif Nat.ble pc 60 then (bif Nat.beq pc 60 then some (.iaload, 1, 61, [], 0) else none)
  else (bif Nat.beq pc 61 then some (.iastore, 1, 62, [], 0) else none))) : nk_F) pc
  else ((fun pc => bif Nat.ble pc 62 then (bif Nat.beq pc 62 then some (.aload_n 0, 1, 63, [], 0) else none)
  else (bif Nat.ble pc 63 then (bif Nat.beq pc 63 then some (.getfield 50, 3, 66, [], 0) else none)
  else (bif Nat.beq pc 66 then some (.iload_n 3, 1, 67, [], 0) else none))) : nk_F) pc) : nk_F) pc) : nk_F) pc) : nk_F) pc) : nk_F) pc
  else ((fun pc => bif Nat.ble pc 99 then ((fun pc => bif Nat.ble pc 79 then ((fun pc => bif Nat.ble pc 73 then ((fun pc => bif Nat.ble pc 68 then (bif Nat.ble pc 67 then (bif Nat.beq pc 67 then some (.aload_n 0, 1, 68, [], 0) else none)
  else (bif Nat.beq pc 68 then some (.getfield 32, 3, 71, [], 0) else none))
  else ((fun pc => bif Nat.ble pc 71 then (bif Nat.beq pc 71 then some (.iconst 5, 1, 72, [], 5) else none)
  else (bif Nat.ble pc 72 then (bif Nat.beq pc 72 then some (.iload_n 3, 1, 73, [], 0) else none)
  else (bif Nat.beq pc 73 then some (.imul, 1, 74, [], 0) else none))) : nk_F) pc) : nk_F) pc
  else ((fun pc => bif Nat.ble pc 76 then ((fun pc => bif Nat.ble pc 74 then (bif Nat.beq pc 74 then some (.iconst 2, 1, 75, [], 2) else none)
  else (bif Nat.ble pc 75 then (bif Nat.beq pc 75 then some (.iadd, 1, 76, [], 0) else none)
  else (bif Nat.beq pc 76 then some (.iaload, 1, 77, [], 0) else none))) : nk_F) pc
  else ((fun pc => bif Nat.ble pc 77 then (bif Nat.beq pc 77 then some (.iastore, 1, 78, [], 0) else none)
  else (bif Nat.ble pc 78 then (bif Nat.beq pc 78 then some (.aload_n 0, 1, 79, [], 0) else none)
  else (bif Nat.beq pc 79 then some (.getfield 57, 3, 82, [], 0) else none))) : nk_F) pc) : nk_F) pc) : nk_F) pc
  else ((fun pc => bif Nat.ble pc 86 then ((fun pc => bif Nat.ble pc 83 then (bif Nat.ble pc 82 then (bif Nat.beq pc 82 then some (.iload_n 3, 1, 83, [], 0) else none)
  else (bif Nat.beq pc 83 then some (.lconst 1, 1, 84, [], 0) else none))
  else ((fun pc => bif Nat.ble pc 84 then (bif Nat.beq pc 84 then some (.lastore, 1, 85, [], 0) else none)
  else (bif Nat.ble pc 85 then (bif Nat.beq pc 85 then some (.iconst 0, 1, 86, [], 0) else none)
  else (bif Nat.beq pc 86 then some (.istore 4, 2, 88, [], 0) else none))) : nk_F) pc) : nk_F) pc
  else ((fun pc => bif Nat.ble pc 92 then ((fun pc => bif Nat.ble pc 88 then (bif Nat.beq pc 88 then some (.iload 4, 2, 90, [], 0) else none)
  else (bif Nat.ble pc 90 then (bif Nat.beq pc 90 then some (.bipush 6, 2, 92, [], 6) else none)
  else (bif Nat.beq pc 92 then some (.if_icmp .ge 41, 3, 95, [133], 0) else none))) : nk_F) pc
  else ((fun pc => bif Nat.ble pc 95 then (bif Nat.beq pc 95 then some (.aload_n 0, 1, 96, [], 0) else none)
  else (bif Nat.ble pc 96 then (bif Nat.beq pc 96 then some (.getfield 53, 3, 99, [], 0) else none)
  else (bif Nat.beq pc 99 then some (.bipush 6, 2, 101, [], 6) else none))) : nk_F) pc) : nk_F) pc) : nk_F) pc) : nk_F) pc
  else ((fun pc => bif Nat.ble pc 114 then ((fun pc => bif Nat.ble pc 106 then ((fun pc => bif Nat.ble pc 102 then (bif Nat.ble pc 101 then (bif Nat.beq pc 101 then some (.iload_n 3, 1, 102, [], 0) else none)
  else (bif Nat.beq pc 102 then some (.imul, 1, 103, [], 0) else none))
  else ((fun pc => bif Nat.ble pc 103 then (bif Nat.beq pc 103 then some (.iload 4, 2, 105, [], 0) else none)
  else (bif Nat.ble pc 105 then (bif Nat.beq pc 105 then some (.iadd, 1, 106, [], 0) else none)
  else (bif Nat.beq pc 106 then some (.aload_n 0, 1, 107, [], 0) else none))) : nk_F) pc) : nk_F) pc
  else ((fun pc => bif Nat.ble pc 111 then ((fun pc => bif Nat.ble pc 107 then (bif Nat.beq pc 107 then some (.getfield 32, 3, 110, [], 0) else none)
  else (bif Nat.ble pc 110 then (bif Nat.beq pc 110 then some (.iconst 5, 1, 111, [], 5) else none)
  else (bif Nat.beq pc 111 then some (.iload_n 3, 1, 112, [], 0) else none))) : nk_F) pc
  else ((fun pc => bif Nat.ble pc 112 then (bif Nat.beq pc 112 then some (.imul, 1, 113, [], 0) else none)
  else (bif Nat.ble pc 113 then (bif Nat.beq pc 113 then some (.iconst 3, 1, 114, [], 3) else none)
  else (bif Nat.beq pc 114 then some (.iadd, 1, 115, [], 0) else none))) : nk_F) pc) : nk_F) pc) : nk_F) pc
  else ((fun pc => bif Nat.ble pc 125 then ((fun pc => bif Nat.ble pc 118 then ((fun pc => bif Nat.ble pc 115 then (bif Nat.beq pc 115 then some (.iaload, 1, 116, [], 0) else none)
  else (bif Nat.ble pc 116 then (bif Nat.beq pc 116 then some (.iload 4, 2, 118, [], 0) else none)
  else (bif Nat.beq pc 118 then some (.if_icmp .ne 7, 3, 121, [125], 0) else none))) : nk_F) pc
  else ((fun pc => bif Nat.ble pc 121 then (bif Nat.beq pc 121 then some (.lconst 1, 1, 122, [], 0) else none)
  else (bif Nat.ble pc 122 then (bif Nat.beq pc 122 then some (.goto 4, 3, 125, [126], 0) else none)
  else (bif Nat.beq pc 125 then some (.lconst 0, 1, 126, [], 0) else none))) : nk_F) pc) : nk_F) pc
  else ((fun pc => bif Nat.ble pc 130 then ((fun pc => bif Nat.ble pc 126 then (bif Nat.beq pc 126 then some (.lastore, 1, 127, [], 0) else none)
  else (bif Nat.ble pc 127 then (bif Nat.beq pc 127 then some (.iinc 4 1, 3, 130, [], 1) else none)
  else (bif Nat.beq pc 130 then some (.goto (-42), 3, 133, [88], 0) else none))) : nk_F) pc
  else ((fun pc => bif Nat.ble pc 133 then (bif Nat.beq pc 133 then some (.iinc 3 1, 3, 136, [], 1) else none)
  else (bif Nat.ble pc 136 then (bif Nat.beq pc 136 then some (.goto (-119), 3, 139, [17], 0) else none)
  else (bif Nat.beq pc 139 then some (.return_, 1, 140, [], 0) else none))) : nk_F) pc) : nk_F) pc) : nk_F) pc) : nk_F) pc) : nk_F) pc
noncomputable def kc_X6_begins : Nat → Option nk_I := nk_top 140 kt_X6_begins
noncomputable def kx_X6_begins : nk_T := ([(179, 6, 23, 0), (182, 6, 24, 0), (185, 6, 22, 1), (120, 6, 10, 0), (41, 6, 16, 4), (44, 6, 17, 4), (32, 6, 11, 4), (47, 6, 18, 4), (50, 6, 19, 4), (57, 6, 21, 4), (53, 6, 20, 4)], [], [], [], [], [], [], 0, false, 0, 0)
noncomputable def ev_X6_begins : nk_Ev := fun as h Q => nk_if (Nat.ble (nk_wd as) 5) (nk_ev kx_X6_begins kc_X6_begins 5 as h Q)
set_option maxRecDepth 100000 in
theorem ck_X6_begins : nk_chk cX6_begins kc_X6_begins 140 = true := nd_chk (by decide +kernel) (by decide +kernel)
set_option maxRecDepth 100000 in
set_option maxHeartbeats 4000000 in
theorem mt_X6_begins (l : Launch) : nk_Met l yX6_begins cX6_begins 5 none { frames := 0, cells := 0, slots := 0, locals := 0 } false 0 0 ev_X6_begins :=
  nk_met nk_gok (plainFor_of_name (by decide)) ck_X6_begins (nk_top_out 140 kt_X6_begins) ⟨List.forall_mem_cons.mpr ⟨nk_fkc [(3, 216)] (by decide +kernel), List.forall_mem_cons.mpr ⟨nk_fkc [(3, 217)] (by decide +kernel), List.forall_mem_cons.mpr ⟨nk_fkc [(3, 215)] (by decide +kernel), List.forall_mem_cons.mpr ⟨nk_fkc [(3, 203)] (by decide +kernel), List.forall_mem_cons.mpr ⟨nk_fkc [(3, 209)] (by decide +kernel), List.forall_mem_cons.mpr ⟨nk_fkc [(3, 210)] (by decide +kernel), List.forall_mem_cons.mpr ⟨nk_fkc [(3, 188), (3, 204)] (by decide +kernel), List.forall_mem_cons.mpr ⟨nk_fkc [(3, 211)] (by decide +kernel), List.forall_mem_cons.mpr ⟨nk_fkc [(3, 212)] (by decide +kernel), List.forall_mem_cons.mpr ⟨nk_fkc [(3, 214)] (by decide +kernel), List.forall_mem_cons.mpr ⟨nk_fkc [(3, 213)] (by decide +kernel), fun _ h => absurd h List.not_mem_nil⟩⟩⟩⟩⟩⟩⟩⟩⟩⟩⟩, fun _ h => absurd h List.not_mem_nil, fun _ h => absurd h List.not_mem_nil, fun _ h => absurd h List.not_mem_nil, fun _ h => absurd h List.not_mem_nil, fun _ h => absurd h List.not_mem_nil, fun _ h => absurd h List.not_mem_nil, by decide, rfl, rfl⟩ rfl (by decide)
/-! MarbleLawModel.allTo(II)V -/
noncomputable def kt_X6_allTo : Nat → Option nk_I := fun pc => bif Nat.ble pc 19 then ((fun pc => bif Nat.ble pc 7 then ((fun pc => bif Nat.ble pc 4 then ((fun pc => bif Nat.ble pc 0 then (bif Nat.beq pc 0 then some (.aload_n 0, 1, 1, [], 0) else none)
  else (bif Nat.ble pc 1 then (bif Nat.beq pc 1 then some (.getfield 57, 3, 4, [], 0) else none)
  else (bif Nat.beq pc 4 then some (.iload_n 1, 1, 5, [], 0) else none))) : nk_F) pc
  else ((fun pc => bif Nat.ble pc 5 then (bif Nat.beq pc 5 then some (.lconst 1, 1, 6, [], 0) else none)
  else (bif Nat.ble pc 6 then (bif Nat.beq pc 6 then some (.lastore, 1, 7, [], 0) else none)
  else (bif Nat.beq pc 7 then some (.iconst 0, 1, 8, [], 0) else none))) : nk_F) pc) : nk_F) pc
  else ((fun pc => bif Nat.ble pc 10 then ((fun pc => bif Nat.ble pc 8 then (bif Nat.beq pc 8 then some (.istore_n 3, 1, 9, [], 0) else none)
  else (bif Nat.ble pc 9 then (bif Nat.beq pc 9 then some (.iload_n 3, 1, 10, [], 0) else none)
  else (bif Nat.beq pc 10 then some (.bipush 6, 2, 12, [], 6) else none))) : nk_F) pc
  else ((fun pc => bif Nat.ble pc 15 then (bif Nat.ble pc 12 then (bif Nat.beq pc 12 then some (.if_icmp .ge 30, 3, 15, [42], 0) else none)
  else (bif Nat.beq pc 15 then some (.aload_n 0, 1, 16, [], 0) else none))
  else (bif Nat.ble pc 16 then (bif Nat.beq pc 16 then some (.getfield 53, 3, 19, [], 0) else none)
  else (bif Nat.beq pc 19 then some (.bipush 6, 2, 21, [], 6) else none))) : nk_F) pc) : nk_F) pc) : nk_F) pc
  else ((fun pc => bif Nat.ble pc 27 then ((fun pc => bif Nat.ble pc 23 then ((fun pc => bif Nat.ble pc 21 then (bif Nat.beq pc 21 then some (.iload_n 1, 1, 22, [], 0) else none)
  else (bif Nat.ble pc 22 then (bif Nat.beq pc 22 then some (.imul, 1, 23, [], 0) else none)
  else (bif Nat.beq pc 23 then some (.iload_n 3, 1, 24, [], 0) else none))) : nk_F) pc
  else ((fun pc => bif Nat.ble pc 25 then (bif Nat.ble pc 24 then (bif Nat.beq pc 24 then some (.iadd, 1, 25, [], 0) else none)
  else (bif Nat.beq pc 25 then some (.iload_n 3, 1, 26, [], 0) else none))
  else (bif Nat.ble pc 26 then (bif Nat.beq pc 26 then some (.iload_n 2, 1, 27, [], 0) else none)
  else (bif Nat.beq pc 27 then some (.if_icmp .ne 7, 3, 30, [34], 0) else none))) : nk_F) pc) : nk_F) pc
  else ((fun pc => bif Nat.ble pc 34 then ((fun pc => bif Nat.ble pc 30 then (bif Nat.beq pc 30 then some (.lconst 1, 1, 31, [], 0) else none)
  else (bif Nat.ble pc 31 then (bif Nat.beq pc 31 then some (.goto 4, 3, 34, [35], 0) else none)
  else (bif Nat.beq pc 34 then some (.lconst 0, 1, 35, [], 0) else none))) : nk_F) pc
  else ((fun pc => bif Nat.ble pc 36 then (bif Nat.ble pc 35 then (bif Nat.beq pc 35 then some (.lastore, 1, 36, [], 0) else none)
  else (bif Nat.beq pc 36 then some (.iinc 3 1, 3, 39, [], 1) else none))
  else (bif Nat.ble pc 39 then (bif Nat.beq pc 39 then some (.goto (-30), 3, 42, [9], 0) else none)
  else (bif Nat.beq pc 42 then some (.return_, 1, 43, [], 0) else none))) : nk_F) pc) : nk_F) pc) : nk_F) pc
noncomputable def kc_X6_allTo : Nat → Option nk_I := nk_top 43 kt_X6_allTo
noncomputable def kx_X6_allTo : nk_T := ([(57, 6, 21, 4), (53, 6, 20, 4)], [], [], [], [], [], [], 0, false, 0, 0)
noncomputable def ev_X6_allTo : nk_Ev := fun as h Q => nk_if (Nat.ble (nk_wd as) 4) (nk_ev kx_X6_allTo kc_X6_allTo 4 as h Q)
set_option maxRecDepth 100000 in
theorem ck_X6_allTo : nk_chk cX6_allTo kc_X6_allTo 43 = true := nd_chk (by decide +kernel) (by decide +kernel)
set_option maxRecDepth 100000 in
set_option maxHeartbeats 4000000 in
theorem mt_X6_allTo (l : Launch) : nk_Met l yX6_allTo cX6_allTo 4 none { frames := 0, cells := 0, slots := 0, locals := 0 } false 0 0 ev_X6_allTo :=
  nk_met nk_gok (plainFor_of_name (by decide)) ck_X6_allTo (nk_top_out 43 kt_X6_allTo) ⟨List.forall_mem_cons.mpr ⟨nk_fkc [(3, 214)] (by decide +kernel), List.forall_mem_cons.mpr ⟨nk_fkc [(3, 213)] (by decide +kernel), fun _ h => absurd h List.not_mem_nil⟩⟩, fun _ h => absurd h List.not_mem_nil, fun _ h => absurd h List.not_mem_nil, fun _ h => absurd h List.not_mem_nil, fun _ h => absurd h List.not_mem_nil, fun _ h => absurd h List.not_mem_nil, fun _ h => absurd h List.not_mem_nil, by decide, rfl, rfl⟩ rfl (by decide)
