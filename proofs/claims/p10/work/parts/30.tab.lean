/-! MarbleLawModel.counts(I)I -/
noncomputable def kt_X6_counts : Nat → Option nk_I := fun pc => bif Nat.ble pc 82 then ((fun pc => bif Nat.ble pc 40 then ((fun pc => bif Nat.ble pc 19 then ((fun pc => bif Nat.ble pc 5 then ((fun pc => bif Nat.ble pc 2 then ((fun pc => bif Nat.ble pc 0 then (bif Nat.beq pc 0 then some (.iconst 0, 1, 1, [], 0) else none)
  else (bif Nat.ble pc 1 then (bif Nat.beq pc 1 then some (.istore_n 2, 1, 2, [], 0) else none)
  else (bif Nat.beq pc 2 then some (.iconst 0, 1, 3, [], 0) else none))) : nk_F) pc
  else ((fun pc => bif Nat.ble pc 3 then (bif Nat.beq pc 3 then some (.istore_n 3, 1, 4, [], 0) else none)
  else (bif Nat.ble pc 4 then (bif Nat.beq pc 4 then some (.iload_n 3, 1, 5, [], 0) else none)
  else (bif Nat.beq pc 5 then some (.bipush 6, 2, 7, [], 6) else none))) : nk_F) pc) : nk_F) pc
  else ((fun pc => bif Nat.ble pc 11 then ((fun pc => bif Nat.ble pc 7 then (bif Nat.beq pc 7 then some (.if_icmp .ge 30, 3, 10, [37], 0) else none)
  else (bif Nat.ble pc 10 then (bif Nat.beq pc 10 then some (.iload_n 2, 1, 11, [], 0) else none)
  else (bif Nat.beq pc 11 then some (.iload_n 1, 1, 12, [], 0) else none))) : nk_F) pc
  else ((fun pc => bif Nat.ble pc 15 then (bif Nat.ble pc 12 then (bif Nat.beq pc 12 then some (.ifCond .ne 16, 3, 15, [28], 0) else none)
  else (bif Nat.beq pc 15 then some (.aload_n 0, 1, 16, [], 0) else none))
  else (bif Nat.ble pc 16 then (bif Nat.beq pc 16 then some (.getfield 17, 3, 19, [], 0) else none)
  else (bif Nat.beq pc 19 then some (.iload_n 3, 1, 20, [], 0) else none))) : nk_F) pc) : nk_F) pc) : nk_F) pc
  else ((fun pc => bif Nat.ble pc 29 then ((fun pc => bif Nat.ble pc 24 then ((fun pc => bif Nat.ble pc 20 then (bif Nat.beq pc 20 then some (.iaload, 1, 21, [], 0) else none)
  else (bif Nat.ble pc 21 then (bif Nat.beq pc 21 then some (.ifCond .lt 7, 3, 24, [28], 0) else none)
  else (bif Nat.beq pc 24 then some (.iconst 1, 1, 25, [], 1) else none))) : nk_F) pc
  else ((fun pc => bif Nat.ble pc 25 then (bif Nat.beq pc 25 then some (.goto 4, 3, 28, [29], 0) else none)
  else (bif Nat.ble pc 28 then (bif Nat.beq pc 28 then some (.iconst 0, 1, 29, [], 0) else none)
  else (bif Nat.beq pc 29 then some (.iadd, 1, 30, [], 0) else none))) : nk_F) pc) : nk_F) pc
  else ((fun pc => bif Nat.ble pc 34 then ((fun pc => bif Nat.ble pc 30 then (bif Nat.beq pc 30 then some (.istore_n 2, 1, 31, [], 0) else none)
  else (bif Nat.ble pc 31 then (bif Nat.beq pc 31 then some (.iinc 3 1, 3, 34, [], 1) else none)
  else (bif Nat.beq pc 34 then some (.goto (-30), 3, 37, [4], 0) else none))) : nk_F) pc
  else ((fun pc => bif Nat.ble pc 38 then (bif Nat.ble pc 37 then (bif Nat.beq pc 37 then some (.iconst 0, 1, 38, [], 0) else none)
  else (bif Nat.beq pc 38 then some (.istore_n 3, 1, 39, [], 0) else none))
  else (bif Nat.ble pc 39 then (bif Nat.beq pc 39 then some (.iload_n 3, 1, 40, [], 0) else none)
  else (bif Nat.beq pc 40 then some (.iconst 4, 1, 41, [], 4) else none))) : nk_F) pc) : nk_F) pc) : nk_F) pc) : nk_F) pc
  else ((fun pc => bif Nat.ble pc 61 then ((fun pc => bif Nat.ble pc 50 then ((fun pc => bif Nat.ble pc 45 then ((fun pc => bif Nat.ble pc 41 then (bif Nat.beq pc 41 then some (.if_icmp .ge 64, 3, 44, [105], 0) else none)
  else (bif Nat.ble pc 44 then (bif Nat.beq pc 44 then some (.iload_n 2, 1, 45, [], 0) else none)
  else (bif Nat.beq pc 45 then some (.iload_n 1, 1, 46, [], 0) else none))) : nk_F) pc
  else ((fun pc => bif Nat.ble pc 46 then (bif Nat.beq pc 46 then some (.iconst 1, 1, 47, [], 1) else none)
  else (bif Nat.ble pc 47 then (bif Nat.beq pc 47 then some (.if_icmp .ne 12, 3, 50, [59], 0) else none)
  else (bif Nat.beq pc 50 then some (.aload_n 0, 1, 51, [], 0) else none))) : nk_F) pc) : nk_F) pc
  else ((fun pc => bif Nat.ble pc 55 then ((fun pc => bif Nat.ble pc 51 then (bif Nat.beq pc 51 then some (.getfield 26, 3, 54, [], 0) else none)
  else (bif Nat.ble pc 54 then (bif Nat.beq pc 54 then some (.iload_n 3, 1, 55, [], 0) else none)
  else (bif Nat.beq pc 55 then some (.iaload, 1, 56, [], 0) else none))) : nk_F) pc
  else ((fun pc => bif Nat.ble pc 59 then (bif Nat.ble pc 56 then (bif Nat.beq pc 56 then some (.ifCond .ge 17, 3, 59, [73], 0) else none)
  else (bif Nat.beq pc 59 then some (.iload_n 1, 1, 60, [], 0) else none))
  else (bif Nat.ble pc 60 then (bif Nat.beq pc 60 then some (.iconst 5, 1, 61, [], 5) else none)
  else (bif Nat.beq pc 61 then some (.if_icmp .ne 16, 3, 64, [77], 0) else none))) : nk_F) pc) : nk_F) pc) : nk_F) pc
  else ((fun pc => bif Nat.ble pc 73 then ((fun pc => bif Nat.ble pc 68 then ((fun pc => bif Nat.ble pc 64 then (bif Nat.beq pc 64 then some (.aload_n 0, 1, 65, [], 0) else none)
  else (bif Nat.ble pc 65 then (bif Nat.beq pc 65 then some (.getfield 38, 3, 68, [], 0) else none)
  else (bif Nat.beq pc 68 then some (.iload_n 3, 1, 69, [], 0) else none))) : nk_F) pc
  else ((fun pc => bif Nat.ble pc 69 then (bif Nat.beq pc 69 then some (.iaload, 1, 70, [], 0) else none)
  else (bif Nat.ble pc 70 then (bif Nat.beq pc 70 then some (.ifCond .le 7, 3, 73, [77], 0) else none)
  else (bif Nat.beq pc 73 then some (.iconst 1, 1, 74, [], 1) else none))) : nk_F) pc) : nk_F) pc
  else ((fun pc => bif Nat.ble pc 78 then ((fun pc => bif Nat.ble pc 74 then (bif Nat.beq pc 74 then some (.goto 4, 3, 77, [78], 0) else none)
  else (bif Nat.ble pc 77 then (bif Nat.beq pc 77 then some (.iconst 0, 1, 78, [], 0) else none)
  else (bif Nat.beq pc 78 then some (.iadd, 1, 79, [], 0) else none))) : nk_F) pc
  else ((fun pc => bif Nat.ble pc 80 then (bif Nat.ble pc 79 then (bif Nat.beq pc 79 then some (.istore_n 2, 1, 80, [], 0) else none)
  else (bif Nat.beq pc 80 then some (.iload_n 2, 1, 81, [], 0) else none))
  else (bif Nat.ble pc 81 then (bif Nat.beq pc 81 then some (.iload_n 1, 1, 82, [], 0) else none)
  else (bif Nat.beq pc 82 then some (.bipush 6, 2, 84, [], 6) else none))) : nk_F) pc) : nk_F) pc) : nk_F) pc) : nk_F) pc) : nk_F) pc
  else ((fun pc => bif Nat.ble pc 126 then ((fun pc => bif Nat.ble pc 106 then ((fun pc => bif Nat.ble pc 93 then ((fun pc => bif Nat.ble pc 88 then ((fun pc => bif Nat.ble pc 84 then (bif Nat.beq pc 84 then some (.if_icmp .ne 12, 3, 87, [96], 0) else none)
  else (bif Nat.ble pc 87 then (bif Nat.beq pc 87 then some (.aload_n 0, 1, 88, [], 0) else none)
  else (bif Nat.beq pc 88 then some (.getfield 66, 3, 91, [], 0) else none))) : nk_F) pc
  else ((fun pc => bif Nat.ble pc 91 then (bif Nat.beq pc 91 then some (.iload_n 3, 1, 92, [], 0) else none)
  else (bif Nat.ble pc 92 then (bif Nat.beq pc 92 then some (.iaload, 1, 93, [], 0) else none)
  else (bif Nat.beq pc 93 then some (.goto 4, 3, 96, [97], 0) else none))) : nk_F) pc) : nk_F) pc
  else ((fun pc => bif Nat.ble pc 98 then ((fun pc => bif Nat.ble pc 96 then (bif Nat.beq pc 96 then some (.iconst 0, 1, 97, [], 0) else none)
  else (bif Nat.ble pc 97 then (bif Nat.beq pc 97 then some (.iadd, 1, 98, [], 0) else none)
  else (bif Nat.beq pc 98 then some (.istore_n 2, 1, 99, [], 0) else none))) : nk_F) pc
  else ((fun pc => bif Nat.ble pc 102 then (bif Nat.ble pc 99 then (bif Nat.beq pc 99 then some (.iinc 3 1, 3, 102, [], 1) else none)
  else (bif Nat.beq pc 102 then some (.goto (-63), 3, 105, [39], 0) else none))
  else (bif Nat.ble pc 105 then (bif Nat.beq pc 105 then some (.iconst 0, 1, 106, [], 0) else none)
  else (bif Nat.beq pc 106 then some (.istore_n 3, 1, 107, [], 0) else none))) : nk_F) pc) : nk_F) pc) : nk_F) pc
  else ((fun pc => bif Nat.ble pc 116 then ((fun pc => bif Nat.ble pc 109 then ((fun pc => bif Nat.ble pc 107 then (bif Nat.beq pc 107 then some (.iload_n 3, 1, 108, [], 0) else none)
  else (bif Nat.ble pc 108 then (bif Nat.beq pc 108 then some (.aload_n 0, 1, 109, [], 0) else none)
  else (bif Nat.beq pc 109 then some (.getfield 146, 3, 112, [], 0) else none))) : nk_F) pc
  else ((fun pc => bif Nat.ble pc 112 then (bif Nat.beq pc 112 then some (.if_icmp .ge 53, 3, 115, [165], 0) else none)
  else (bif Nat.ble pc 115 then (bif Nat.beq pc 115 then some (.aload_n 0, 1, 116, [], 0) else none)
  else (bif Nat.beq pc 116 then some (.iload_n 3, 1, 117, [], 0) else none))) : nk_F) pc) : nk_F) pc
  else ((fun pc => bif Nat.ble pc 121 then ((fun pc => bif Nat.ble pc 117 then (bif Nat.beq pc 117 then some (.iconst 0, 1, 118, [], 0) else none)
  else (bif Nat.ble pc 118 then (bif Nat.beq pc 118 then some (.invokevirtual 152, 3, 121, [], 0) else none)
  else (bif Nat.beq pc 121 then some (.istore 4, 2, 123, [], 0) else none))) : nk_F) pc
  else ((fun pc => bif Nat.ble pc 124 then (bif Nat.ble pc 123 then (bif Nat.beq pc 123 then some (.iload_n 2, 1, 124, [], 0) else none)
  else (bif Nat.beq pc 124 then some (.iload_n 1, 1, 125, [], 0) else none))
  else (bif Nat.ble pc 125 then (bif Nat.beq pc 125 then some (.iconst 3, 1, 126, [], 3) else none)
  else (bif Nat.beq pc 126 then some (.if_icmp .eq 26, 3, 129, [152], 0) else none))) : nk_F) pc) : nk_F) pc) : nk_F) pc) : nk_F) pc
  else ((fun pc => bif Nat.ble pc 152 then ((fun pc => bif Nat.ble pc 137 then ((fun pc => bif Nat.ble pc 131 then ((fun pc => bif Nat.ble pc 129 then (bif Nat.beq pc 129 then some (.iload_n 1, 1, 130, [], 0) else none)
  else (bif Nat.ble pc 130 then (bif Nat.beq pc 130 then some (.iconst 4, 1, 131, [], 4) else none)
  else (bif Nat.beq pc 131 then some (.if_icmp .ne 25, 3, 134, [156], 0) else none))) : nk_F) pc
  else ((fun pc => bif Nat.ble pc 134 then (bif Nat.beq pc 134 then some (.iload 4, 2, 136, [], 0) else none)
  else (bif Nat.ble pc 136 then (bif Nat.beq pc 136 then some (.iconst 2, 1, 137, [], 2) else none)
  else (bif Nat.beq pc 137 then some (.if_icmp .eq 15, 3, 140, [152], 0) else none))) : nk_F) pc) : nk_F) pc
  else ((fun pc => bif Nat.ble pc 143 then ((fun pc => bif Nat.ble pc 140 then (bif Nat.beq pc 140 then some (.iload 4, 2, 142, [], 0) else none)
  else (bif Nat.ble pc 142 then (bif Nat.beq pc 142 then some (.iconst 4, 1, 143, [], 4) else none)
  else (bif Nat.beq pc 143 then some (.if_icmp .eq 9, 3, 146, [152], 0) else none))) : nk_F) pc
  else ((fun pc => bif Nat.ble pc 148 then (bif Nat.ble pc 146 then (bif Nat.beq pc 146 then some (.iload 4, 2, 148, [], 0) else none)
  else (bif Nat.beq pc 148 then some (.iconst 5, 1, 149, [], 5) else none))
  else (bif Nat.ble pc 149 then (bif Nat.beq pc 149 then some (.if_icmp .ne 7, 3, 152, [156], 0) else none)
  else (bif Nat.beq pc 152 then some (.iconst 1, 1, 153, [], 1) else none))) : nk_F) pc) : nk_F) pc) : nk_F) pc
  else ((fun pc => bif Nat.ble pc 165 then ((fun pc => bif Nat.ble pc 157 then ((fun pc => bif Nat.ble pc 153 then (bif Nat.beq pc 153 then some (.goto 4, 3, 156, [157], 0) else none)
  else (bif Nat.ble pc 156 then (bif Nat.beq pc 156 then some (.iconst 0, 1, 157, [], 0) else none)
  else (bif Nat.beq pc 157 then some (.iadd, 1, 158, [], 0) else none))) : nk_F) pc
  else ((fun pc => bif Nat.ble pc 159 then (bif Nat.ble pc 158 then (bif Nat.beq pc 158 then some (.istore_n 2, 1, 159, [], 0) else none)
  else (bif Nat.beq pc 159 then some (.iinc 3 1, 3, 162, [], 1) else none))
  else (bif Nat.ble pc 162 then (bif Nat.beq pc 162 then some (.goto (-55), 3, 165, [107], 0) else none)
  else (bif Nat.beq pc 165 then some (.iload_n 1, 1, 166, [], 0) else none))) : nk_F) pc) : nk_F) pc
  else ((fun pc => bif Nat.ble pc 170 then ((fun pc => bif Nat.ble pc 166 then (bif Nat.beq pc 166 then some (.iconst 2, 1, 167, [], 2) else none)
  else (bif Nat.ble pc 167 then (bif Nat.beq pc 167 then some (.if_icmp .ne 10, 3, 170, [177], 0) else none)
  else (bif Nat.beq pc 170 then some (.aload_n 0, 1, 171, [], 0) else none))) : nk_F) pc
  else ((fun pc => bif Nat.ble pc 174 then (bif Nat.ble pc 171 then (bif Nat.beq pc 171 then some (.getfield 120, 3, 174, [], 0) else none)
  else (bif Nat.beq pc 174 then some (.goto 4, 3, 177, [178], 0) else none))
  else (bif Nat.ble pc 177 then (bif Nat.beq pc 177 then some (.iload_n 2, 1, 178, [], 0) else none)
  else (bif Nat.beq pc 178 then some (.ireturn, 1, 179, [], 0) else none))) : nk_F) pc) : nk_F) pc) : nk_F) pc) : nk_F) pc) : nk_F) pc
noncomputable def kc_X6_counts : Nat → Option nk_I := nk_top 179 kt_X6_counts
noncomputable def kx_X6_counts : nk_T := ([(17, 6, 5, 4), (26, 6, 8, 4), (38, 6, 14, 4), (66, 6, 27, 4), (146, 6, 12, 0), (120, 6, 10, 0)], [(608, 3, 7, 0, 0, ev_X6_part)], [], [], [], [], [], 1, false, 0, 0)
noncomputable def ev_X6_counts : nk_Ev := fun as h Q => nk_if (Nat.ble (nk_wd as) 5) (nk_ev kx_X6_counts kc_X6_counts 5 as h Q)
set_option maxRecDepth 100000 in
theorem ck_X6_counts : nk_chk cX6_counts kc_X6_counts 179 = true := nd_chk (by decide +kernel) (by decide +kernel)
set_option maxRecDepth 100000 in
set_option maxHeartbeats 4000000 in
theorem ca_X6_counts_608 (l : Launch) : nk_CallOk l { frames := 1, cells := 0, slots := 0, locals := 22 } RX6 cX6_counts 5 false 608 (3, 7, 0, 0, ev_X6_part) := nk_callV (x := 152) (n := 2) (ci := 6) (r := (RX6, TX6, 32)) (mt_X6_part l) rfl (nk_msc [(4, 164), (4, 165), (4, 166), (4, 167), (0, 35), (1, 7)] (by decide +kernel)) rfl rfl (by decide +kernel) ⟨by decide, by decide⟩
set_option maxRecDepth 100000 in
set_option maxHeartbeats 4000000 in
theorem mt_X6_counts (l : Launch) : nk_Met l yX6_counts cX6_counts 5 (some .int) { frames := 1, cells := 0, slots := 0, locals := 22 } false 0 0 ev_X6_counts :=
  nk_met nk_gok (plainFor_of_name (by decide)) ck_X6_counts (nk_top_out 179 kt_X6_counts) ⟨List.forall_mem_cons.mpr ⟨nk_fkc [(3, 198)] (by decide +kernel), List.forall_mem_cons.mpr ⟨nk_fkc [(3, 201)] (by decide +kernel), List.forall_mem_cons.mpr ⟨nk_fkc [(3, 207)] (by decide +kernel), List.forall_mem_cons.mpr ⟨nk_fkc [(3, 220)] (by decide +kernel), List.forall_mem_cons.mpr ⟨nk_fkc [(3, 205)] (by decide +kernel), List.forall_mem_cons.mpr ⟨nk_fkc [(3, 203)] (by decide +kernel), fun _ h => absurd h List.not_mem_nil⟩⟩⟩⟩⟩⟩, List.forall_mem_cons.mpr ⟨ca_X6_counts_608 l, fun _ h => absurd h List.not_mem_nil⟩, fun _ h => absurd h List.not_mem_nil, fun _ h => absurd h List.not_mem_nil, fun _ h => absurd h List.not_mem_nil, fun _ h => absurd h List.not_mem_nil, fun _ h => absurd h List.not_mem_nil, by decide, rfl, rfl⟩ rfl (by decide)
/-! MarbleLawModel.count(I)I -/
noncomputable def kt_X6_count : Nat → Option nk_I := fun pc => bif Nat.ble pc 7 then ((fun pc => bif Nat.ble pc 1 then (bif Nat.ble pc 0 then (bif Nat.beq pc 0 then some (.iload_n 1, 1, 1, [], 0) else none)
  else (bif Nat.beq pc 1 then some (.iconst 0, 1, 2, [], 0) else none))
  else ((fun pc => bif Nat.ble pc 2 then (bif Nat.beq pc 2 then some (.bipush 6, 2, 4, [], 6) else none)
  else (bif Nat.ble pc 4 then (bif Nat.beq pc 4 then some (.invokestatic 89, 3, 7, [], 0) else none)
  else (bif Nat.beq pc 7 then some (.ifCond .eq 11, 3, 10, [18], 0) else none))) : nk_F) pc) : nk_F) pc
  else ((fun pc => bif Nat.ble pc 12 then ((fun pc => bif Nat.ble pc 10 then (bif Nat.beq pc 10 then some (.aload_n 0, 1, 11, [], 0) else none)
  else (bif Nat.ble pc 11 then (bif Nat.beq pc 11 then some (.iload_n 1, 1, 12, [], 0) else none)
  else (bif Nat.beq pc 12 then some (.invokevirtual 281, 3, 15, [], 0) else none))) : nk_F) pc
  else ((fun pc => bif Nat.ble pc 15 then (bif Nat.beq pc 15 then some (.goto 4, 3, 18, [19], 0) else none)
  else (bif Nat.ble pc 18 then (bif Nat.beq pc 18 then some (.iconst (-1), 1, 19, [], (-1)) else none)
  else (bif Nat.beq pc 19 then some (.ireturn, 1, 20, [], 0) else none))) : nk_F) pc) : nk_F) pc
noncomputable def kc_X6_count : Nat → Option nk_I := nk_top 20 kt_X6_count
noncomputable def kx_X6_count : nk_T := ([], [(358, 3, 0, 0, 0, ev_X6_in), (1124, 2, 7, 0, 0, ev_X6_counts)], [], [], [], [], [], 1, false, 0, 0)
noncomputable def ev_X6_count : nk_Ev := fun as h Q => nk_if (Nat.ble (nk_wd as) 2) (nk_ev kx_X6_count kc_X6_count 2 as h Q)
set_option maxRecDepth 100000 in
theorem ck_X6_count : nk_chk cX6_count kc_X6_count 20 = true := nd_chk (by decide +kernel) (by decide +kernel)
set_option maxRecDepth 100000 in
set_option maxHeartbeats 4000000 in
theorem ca_X6_count_358 (l : Launch) : nk_CallOk l { frames := 2, cells := 0, slots := 0, locals := 46 } RX6 cX6_count 2 false 358 (3, 0, 0, 0, ev_X6_in) := nk_callS (x := 89) (n := 3) (mt_X6_in l) (nk_msc [(4, 57), (4, 58), (4, 59), (1, 7)] (by decide +kernel)) rfl rfl (by decide +kernel) ⟨by decide, by decide⟩
set_option maxRecDepth 100000 in
set_option maxHeartbeats 4000000 in
theorem ca_X6_count_1124 (l : Launch) : nk_CallOk l { frames := 2, cells := 0, slots := 0, locals := 46 } RX6 cX6_count 2 false 1124 (2, 7, 0, 0, ev_X6_counts) := nk_callV (x := 281) (n := 1) (ci := 6) (r := (RX6, TX6, 32)) (mt_X6_counts l) rfl (nk_msc [(5, 156), (5, 157), (5, 158), (5, 159), (0, 60), (1, 7)] (by decide +kernel)) rfl rfl (by decide +kernel) ⟨by decide, by decide⟩
set_option maxRecDepth 100000 in
set_option maxHeartbeats 4000000 in
theorem mt_X6_count (l : Launch) : nk_Met l yX6_count cX6_count 2 (some .int) { frames := 2, cells := 0, slots := 0, locals := 46 } false 0 0 ev_X6_count :=
  nk_met nk_gok (plainFor_of_name (by decide)) ck_X6_count (nk_top_out 20 kt_X6_count) ⟨fun _ h => absurd h List.not_mem_nil, List.forall_mem_cons.mpr ⟨ca_X6_count_358 l, List.forall_mem_cons.mpr ⟨ca_X6_count_1124 l, fun _ h => absurd h List.not_mem_nil⟩⟩, fun _ h => absurd h List.not_mem_nil, fun _ h => absurd h List.not_mem_nil, fun _ h => absurd h List.not_mem_nil, fun _ h => absurd h List.not_mem_nil, fun _ h => absurd h List.not_mem_nil, by decide, rfl, rfl⟩ rfl (by decide)
/-! MarbleLawModel.finding()I -/
noncomputable def kt_X6_finding : Nat → Option nk_I := fun pc => bif Nat.ble pc 0 then (bif Nat.beq pc 0 then some (.aload_n 0, 1, 1, [], 0) else none)
  else (bif Nat.ble pc 1 then (bif Nat.beq pc 1 then some (.getfield 75, 3, 4, [], 0) else none)
  else (bif Nat.beq pc 4 then some (.ireturn, 1, 5, [], 0) else none))
noncomputable def kc_X6_finding : Nat → Option nk_I := nk_top 5 kt_X6_finding
noncomputable def kx_X6_finding : nk_T := ([(75, 6, 0, 0)], [], [], [], [], [], [], 1, false, 0, 0)
noncomputable def ev_X6_finding : nk_Ev := fun as h Q => nk_if (Nat.ble (nk_wd as) 1) (nk_ev kx_X6_finding kc_X6_finding 1 as h Q)
set_option maxRecDepth 100000 in
theorem ck_X6_finding : nk_chk cX6_finding kc_X6_finding 5 = true := nd_chk (by decide +kernel) (by decide +kernel)
set_option maxRecDepth 100000 in
set_option maxHeartbeats 4000000 in
theorem mt_X6_finding (l : Launch) : nk_Met l yX6_finding cX6_finding 1 (some .int) { frames := 0, cells := 0, slots := 0, locals := 0 } false 0 0 ev_X6_finding :=
  nk_met nk_gok (plainFor_of_name (by decide)) ck_X6_finding (nk_top_out 5 kt_X6_finding) ⟨List.forall_mem_cons.mpr ⟨nk_fkc [(3, 193)] (by decide +kernel), fun _ h => absurd h List.not_mem_nil⟩, fun _ h => absurd h List.not_mem_nil, fun _ h => absurd h List.not_mem_nil, fun _ h => absurd h List.not_mem_nil, fun _ h => absurd h List.not_mem_nil, fun _ h => absurd h List.not_mem_nil, fun _ h => absurd h List.not_mem_nil, by decide, rfl, rfl⟩ rfl (by decide)
/-! MarbleLawModel.findings(I)I -/
noncomputable def kt_X6_findings : Nat → Option nk_I := fun pc => bif Nat.ble pc 9 then ((fun pc => bif Nat.ble pc 2 then ((fun pc => bif Nat.ble pc 0 then (bif Nat.beq pc 0 then some (.iload_n 1, 1, 1, [], 0) else none)
  else (bif Nat.ble pc 1 then (bif Nat.beq pc 1 then some (.iconst 1, 1, 2, [], 1) else none)
  else (bif Nat.beq pc 2 then some (.iconst 5, 1, 3, [], 5) else none))) : nk_F) pc
  else ((fun pc => bif Nat.ble pc 3 then (bif Nat.beq pc 3 then some (.invokestatic 89, 3, 6, [], 0) else none)
  else (bif Nat.ble pc 6 then (bif Nat.beq pc 6 then some (.ifCond .eq 12, 3, 9, [18], 0) else none)
  else (bif Nat.beq pc 9 then some (.aload_n 0, 1, 10, [], 0) else none))) : nk_F) pc) : nk_F) pc
  else ((fun pc => bif Nat.ble pc 14 then ((fun pc => bif Nat.ble pc 10 then (bif Nat.beq pc 10 then some (.getfield 7, 3, 13, [], 0) else none)
  else (bif Nat.ble pc 13 then (bif Nat.beq pc 13 then some (.iload_n 1, 1, 14, [], 0) else none)
  else (bif Nat.beq pc 14 then some (.iaload, 1, 15, [], 0) else none))) : nk_F) pc
  else ((fun pc => bif Nat.ble pc 15 then (bif Nat.beq pc 15 then some (.goto 4, 3, 18, [19], 0) else none)
  else (bif Nat.ble pc 18 then (bif Nat.beq pc 18 then some (.iconst (-1), 1, 19, [], (-1)) else none)
  else (bif Nat.beq pc 19 then some (.ireturn, 1, 20, [], 0) else none))) : nk_F) pc) : nk_F) pc
noncomputable def kc_X6_findings : Nat → Option nk_I := nk_top 20 kt_X6_findings
noncomputable def kx_X6_findings : nk_T := ([(7, 6, 1, 4)], [(358, 3, 0, 0, 0, ev_X6_in)], [], [], [], [], [], 1, false, 0, 0)
noncomputable def ev_X6_findings : nk_Ev := fun as h Q => nk_if (Nat.ble (nk_wd as) 2) (nk_ev kx_X6_findings kc_X6_findings 2 as h Q)
set_option maxRecDepth 100000 in
theorem ck_X6_findings : nk_chk cX6_findings kc_X6_findings 20 = true := nd_chk (by decide +kernel) (by decide +kernel)
set_option maxRecDepth 100000 in
set_option maxHeartbeats 4000000 in
theorem ca_X6_findings_358 (l : Launch) : nk_CallOk l { frames := 1, cells := 0, slots := 0, locals := 22 } RX6 cX6_findings 2 false 358 (3, 0, 0, 0, ev_X6_in) := nk_callS (x := 89) (n := 3) (mt_X6_in l) (nk_msc [(4, 57), (4, 58), (4, 59), (1, 7)] (by decide +kernel)) rfl rfl (by decide +kernel) ⟨by decide, by decide⟩
set_option maxRecDepth 100000 in
set_option maxHeartbeats 4000000 in
theorem mt_X6_findings (l : Launch) : nk_Met l yX6_findings cX6_findings 2 (some .int) { frames := 1, cells := 0, slots := 0, locals := 22 } false 0 0 ev_X6_findings :=
  nk_met nk_gok (plainFor_of_name (by decide)) ck_X6_findings (nk_top_out 20 kt_X6_findings) ⟨List.forall_mem_cons.mpr ⟨nk_fkc [(3, 194)] (by decide +kernel), fun _ h => absurd h List.not_mem_nil⟩, List.forall_mem_cons.mpr ⟨ca_X6_findings_358 l, fun _ h => absurd h List.not_mem_nil⟩, fun _ h => absurd h List.not_mem_nil, fun _ h => absurd h List.not_mem_nil, fun _ h => absurd h List.not_mem_nil, fun _ h => absurd h List.not_mem_nil, fun _ h => absurd h List.not_mem_nil, by decide, rfl, rfl⟩ rfl (by decide)
/-! MarbleLawModel.mix(I)V -/
noncomputable def kt_X6_mix : Nat → Option nk_I := fun pc => bif Nat.ble pc 8 then ((fun pc => bif Nat.ble pc 1 then (bif Nat.ble pc 0 then (bif Nat.beq pc 0 then some (.aload_n 0, 1, 1, [], 0) else none)
  else (bif Nat.beq pc 1 then some (.ldc2_w 284, 3, 4, [], 0) else none))
  else ((fun pc => bif Nat.ble pc 4 then (bif Nat.beq pc 4 then some (.aload_n 0, 1, 5, [], 0) else none)
  else (bif Nat.ble pc 5 then (bif Nat.beq pc 5 then some (.getfield 286, 3, 8, [], 0) else none)
  else (bif Nat.beq pc 8 then some (.lmul, 1, 9, [], 0) else none))) : nk_F) pc) : nk_F) pc
  else ((fun pc => bif Nat.ble pc 10 then (bif Nat.ble pc 9 then (bif Nat.beq pc 9 then some (.iload_n 1, 1, 10, [], 0) else none)
  else (bif Nat.beq pc 10 then some (.i2l, 1, 11, [], 0) else none))
  else ((fun pc => bif Nat.ble pc 11 then (bif Nat.beq pc 11 then some (.ladd, 1, 12, [], 0) else none)
  else (bif Nat.ble pc 12 then (bif Nat.beq pc 12 then some (.putfield 286, 3, 15, [], 0) else none)
  else (bif Nat.beq pc 15 then some (.return_, 1, 16, [], 0) else none))) : nk_F) pc) : nk_F) pc
noncomputable def kc_X6_mix : Nat → Option nk_I := nk_top 16 kt_X6_mix
noncomputable def kx_X6_mix : nk_T := ([(286, 6, 31, 2)], [], [], [(284, 31)], [], [], [], 0, false, 0, 0)
noncomputable def ev_X6_mix : nk_Ev := fun as h Q => nk_if (Nat.ble (nk_wd as) 2) (nk_ev kx_X6_mix kc_X6_mix 2 as h Q)
set_option maxRecDepth 100000 in
theorem ck_X6_mix : nk_chk cX6_mix kc_X6_mix 16 = true := nd_chk (by decide +kernel) (by decide +kernel)
set_option maxRecDepth 100000 in
set_option maxHeartbeats 4000000 in
theorem mt_X6_mix (l : Launch) : nk_Met l yX6_mix cX6_mix 2 none { frames := 0, cells := 0, slots := 0, locals := 0 } false 0 0 ev_X6_mix :=
  nk_met nk_gok (plainFor_of_name (by decide)) ck_X6_mix (nk_top_out 16 kt_X6_mix) ⟨List.forall_mem_cons.mpr ⟨nk_fkc [(3, 224)] (by decide +kernel), fun _ h => absurd h List.not_mem_nil⟩, fun _ h => absurd h List.not_mem_nil, fun _ h => absurd h List.not_mem_nil, List.forall_mem_cons.mpr ⟨nk_mc [(5, 177)] (by decide +kernel), fun _ h => absurd h List.not_mem_nil⟩, fun _ h => absurd h List.not_mem_nil, fun _ h => absurd h List.not_mem_nil, fun _ h => absurd h List.not_mem_nil, by decide, rfl, rfl⟩ rfl (by decide)
/-! MarbleLawModel.mixAll()V -/
noncomputable def kt_X6_mixAll : Nat → Option nk_I := fun pc => bif Nat.ble pc 82 then ((fun pc => bif Nat.ble pc 38 then ((fun pc => bif Nat.ble pc 17 then ((fun pc => bif Nat.ble pc 5 then ((fun pc => bif Nat.ble pc 2 then ((fun pc => bif Nat.ble pc 0 then (bif Nat.beq pc 0 then some (.iconst 0, 1, 1, [], 0) else none)
  else (bif Nat.ble pc 1 then (bif Nat.beq pc 1 then some (.istore_n 1, 1, 2, [], 0) else none)
  else (bif Nat.beq pc 2 then some (.iload_n 1, 1, 3, [], 0) else none))) : nk_F) pc
  else ((fun pc => bif Nat.ble pc 3 then (bif Nat.beq pc 3 then some (.iconst 5, 1, 4, [], 5) else none)
  else (bif Nat.ble pc 4 then (bif Nat.beq pc 4 then some (.aload_n 0, 1, 5, [], 0) else none)
  else (bif Nat.beq pc 5 then some (.getfield 120, 3, 8, [], 0) else none))) : nk_F) pc) : nk_F) pc
  else ((fun pc => bif Nat.ble pc 12 then ((fun pc => bif Nat.ble pc 8 then (bif Nat.beq pc 8 then some (.imul, 1, 9, [], 0) else none)
  else (bif Nat.ble pc 9 then (bif Nat.beq pc 9 then some (.if_icmp .ge 19, 3, 12, [28], 0) else none)
  else (bif Nat.beq pc 12 then some (.aload_n 0, 1, 13, [], 0) else none))) : nk_F) pc
  else ((fun pc => bif Nat.ble pc 13 then (bif Nat.beq pc 13 then some (.aload_n 0, 1, 14, [], 0) else none)
  else (bif Nat.ble pc 14 then (bif Nat.beq pc 14 then some (.getfield 32, 3, 17, [], 0) else none)
  else (bif Nat.beq pc 17 then some (.iload_n 1, 1, 18, [], 0) else none))) : nk_F) pc) : nk_F) pc) : nk_F) pc
  else ((fun pc => bif Nat.ble pc 29 then ((fun pc => bif Nat.ble pc 22 then ((fun pc => bif Nat.ble pc 18 then (bif Nat.beq pc 18 then some (.iaload, 1, 19, [], 0) else none)
  else (bif Nat.ble pc 19 then (bif Nat.beq pc 19 then some (.invokevirtual 289, 3, 22, [], 0) else none)
  else (bif Nat.beq pc 22 then some (.iinc 1 1, 3, 25, [], 1) else none))) : nk_F) pc
  else ((fun pc => bif Nat.ble pc 25 then (bif Nat.beq pc 25 then some (.goto (-23), 3, 28, [2], 0) else none)
  else (bif Nat.ble pc 28 then (bif Nat.beq pc 28 then some (.iconst 0, 1, 29, [], 0) else none)
  else (bif Nat.beq pc 29 then some (.istore_n 1, 1, 30, [], 0) else none))) : nk_F) pc) : nk_F) pc
  else ((fun pc => bif Nat.ble pc 33 then ((fun pc => bif Nat.ble pc 30 then (bif Nat.beq pc 30 then some (.iload_n 1, 1, 31, [], 0) else none)
  else (bif Nat.ble pc 31 then (bif Nat.beq pc 31 then some (.bipush 7, 2, 33, [], 7) else none)
  else (bif Nat.beq pc 33 then some (.aload_n 0, 1, 34, [], 0) else none))) : nk_F) pc
  else ((fun pc => bif Nat.ble pc 34 then (bif Nat.beq pc 34 then some (.getfield 146, 3, 37, [], 0) else none)
  else (bif Nat.ble pc 37 then (bif Nat.beq pc 37 then some (.imul, 1, 38, [], 0) else none)
  else (bif Nat.beq pc 38 then some (.if_icmp .ge 19, 3, 41, [57], 0) else none))) : nk_F) pc) : nk_F) pc) : nk_F) pc) : nk_F) pc
  else ((fun pc => bif Nat.ble pc 60 then ((fun pc => bif Nat.ble pc 48 then ((fun pc => bif Nat.ble pc 43 then ((fun pc => bif Nat.ble pc 41 then (bif Nat.beq pc 41 then some (.aload_n 0, 1, 42, [], 0) else none)
  else (bif Nat.ble pc 42 then (bif Nat.beq pc 42 then some (.aload_n 0, 1, 43, [], 0) else none)
  else (bif Nat.beq pc 43 then some (.getfield 35, 3, 46, [], 0) else none))) : nk_F) pc
  else ((fun pc => bif Nat.ble pc 46 then (bif Nat.beq pc 46 then some (.iload_n 1, 1, 47, [], 0) else none)
  else (bif Nat.ble pc 47 then (bif Nat.beq pc 47 then some (.iaload, 1, 48, [], 0) else none)
  else (bif Nat.beq pc 48 then some (.invokevirtual 289, 3, 51, [], 0) else none))) : nk_F) pc) : nk_F) pc
  else ((fun pc => bif Nat.ble pc 57 then ((fun pc => bif Nat.ble pc 51 then (bif Nat.beq pc 51 then some (.iinc 1 1, 3, 54, [], 1) else none)
  else (bif Nat.ble pc 54 then (bif Nat.beq pc 54 then some (.goto (-24), 3, 57, [30], 0) else none)
  else (bif Nat.beq pc 57 then some (.iconst 0, 1, 58, [], 0) else none))) : nk_F) pc
  else ((fun pc => bif Nat.ble pc 58 then (bif Nat.beq pc 58 then some (.istore_n 1, 1, 59, [], 0) else none)
  else (bif Nat.ble pc 59 then (bif Nat.beq pc 59 then some (.iload_n 1, 1, 60, [], 0) else none)
  else (bif Nat.beq pc 60 then some (.iconst 4, 1, 61, [], 4) else none))) : nk_F) pc) : nk_F) pc) : nk_F) pc
  else ((fun pc => bif Nat.ble pc 70 then ((fun pc => bif Nat.ble pc 65 then ((fun pc => bif Nat.ble pc 61 then (bif Nat.beq pc 61 then some (.if_icmp .ge 32, 3, 64, [93], 0) else none)
  else (bif Nat.ble pc 64 then (bif Nat.beq pc 64 then some (.aload_n 0, 1, 65, [], 0) else none)
  else (bif Nat.beq pc 65 then some (.aload_n 0, 1, 66, [], 0) else none))) : nk_F) pc
  else ((fun pc => bif Nat.ble pc 66 then (bif Nat.beq pc 66 then some (.getfield 38, 3, 69, [], 0) else none)
  else (bif Nat.ble pc 69 then (bif Nat.beq pc 69 then some (.iload_n 1, 1, 70, [], 0) else none)
  else (bif Nat.beq pc 70 then some (.iaload, 1, 71, [], 0) else none))) : nk_F) pc) : nk_F) pc
  else ((fun pc => bif Nat.ble pc 75 then ((fun pc => bif Nat.ble pc 71 then (bif Nat.beq pc 71 then some (.ifCond .ne 7, 3, 74, [78], 0) else none)
  else (bif Nat.ble pc 74 then (bif Nat.beq pc 74 then some (.iconst (-1), 1, 75, [], (-1)) else none)
  else (bif Nat.beq pc 75 then some (.goto 9, 3, 78, [84], 0) else none))) : nk_F) pc
  else ((fun pc => bif Nat.ble pc 78 then (bif Nat.beq pc 78 then some (.aload_n 0, 1, 79, [], 0) else none)
  else (bif Nat.ble pc 79 then (bif Nat.beq pc 79 then some (.getfield 38, 3, 82, [], 0) else none)
  else (bif Nat.beq pc 82 then some (.iload_n 1, 1, 83, [], 0) else none))) : nk_F) pc) : nk_F) pc) : nk_F) pc) : nk_F) pc) : nk_F) pc
  else ((fun pc => bif Nat.ble pc 122 then ((fun pc => bif Nat.ble pc 102 then ((fun pc => bif Nat.ble pc 94 then ((fun pc => bif Nat.ble pc 87 then ((fun pc => bif Nat.ble pc 83 then (bif Nat.beq pc 83 then some (.iaload, 1, 84, [], 0) else none)
  else (bif Nat.ble pc 84 then (bif Nat.beq pc 84 then some (.invokevirtual 289, 3, 87, [], 0) else none)
  else (bif Nat.beq pc 87 then some (.iinc 1 1, 3, 90, [], 1) else none))) : nk_F) pc
  else ((fun pc => bif Nat.ble pc 90 then (bif Nat.beq pc 90 then some (.goto (-31), 3, 93, [59], 0) else none)
  else (bif Nat.ble pc 93 then (bif Nat.beq pc 93 then some (.iconst 0, 1, 94, [], 0) else none)
  else (bif Nat.beq pc 94 then some (.istore_n 1, 1, 95, [], 0) else none))) : nk_F) pc) : nk_F) pc
  else ((fun pc => bif Nat.ble pc 97 then ((fun pc => bif Nat.ble pc 95 then (bif Nat.beq pc 95 then some (.iload_n 1, 1, 96, [], 0) else none)
  else (bif Nat.ble pc 96 then (bif Nat.beq pc 96 then some (.iconst 4, 1, 97, [], 4) else none)
  else (bif Nat.beq pc 97 then some (.if_icmp .ge 67, 3, 100, [164], 0) else none))) : nk_F) pc
  else ((fun pc => bif Nat.ble pc 100 then (bif Nat.beq pc 100 then some (.aload_n 0, 1, 101, [], 0) else none)
  else (bif Nat.ble pc 101 then (bif Nat.beq pc 101 then some (.aload_n 0, 1, 102, [], 0) else none)
  else (bif Nat.beq pc 102 then some (.getfield 66, 3, 105, [], 0) else none))) : nk_F) pc) : nk_F) pc) : nk_F) pc
  else ((fun pc => bif Nat.ble pc 112 then ((fun pc => bif Nat.ble pc 107 then ((fun pc => bif Nat.ble pc 105 then (bif Nat.beq pc 105 then some (.iload_n 1, 1, 106, [], 0) else none)
  else (bif Nat.ble pc 106 then (bif Nat.beq pc 106 then some (.iaload, 1, 107, [], 0) else none)
  else (bif Nat.beq pc 107 then some (.invokevirtual 289, 3, 110, [], 0) else none))) : nk_F) pc
  else ((fun pc => bif Nat.ble pc 110 then (bif Nat.beq pc 110 then some (.iconst 0, 1, 111, [], 0) else none)
  else (bif Nat.ble pc 111 then (bif Nat.beq pc 111 then some (.istore_n 2, 1, 112, [], 0) else none)
  else (bif Nat.beq pc 112 then some (.iload_n 2, 1, 113, [], 0) else none))) : nk_F) pc) : nk_F) pc
  else ((fun pc => bif Nat.ble pc 117 then ((fun pc => bif Nat.ble pc 113 then (bif Nat.beq pc 113 then some (.aload_n 0, 1, 114, [], 0) else none)
  else (bif Nat.ble pc 114 then (bif Nat.beq pc 114 then some (.getfield 66, 3, 117, [], 0) else none)
  else (bif Nat.beq pc 117 then some (.iload_n 1, 1, 118, [], 0) else none))) : nk_F) pc
  else ((fun pc => bif Nat.ble pc 118 then (bif Nat.beq pc 118 then some (.iaload, 1, 119, [], 0) else none)
  else (bif Nat.ble pc 119 then (bif Nat.beq pc 119 then some (.if_icmp .ge 39, 3, 122, [158], 0) else none)
  else (bif Nat.beq pc 122 then some (.aload_n 0, 1, 123, [], 0) else none))) : nk_F) pc) : nk_F) pc) : nk_F) pc) : nk_F) pc
  else ((fun pc => bif Nat.ble pc 138 then ((fun pc => bif Nat.ble pc 132 then ((fun pc => bif Nat.ble pc 126 then ((fun pc => bif Nat.ble pc 123 then (bif Nat.beq pc 123 then some (.bipush 10, 2, 125, [], 10) else none)
  else (bif Nat.ble pc 125 then (bif Nat.beq pc 125 then some (.aload_n 0, 1, 126, [], 0) else none)
  else (bif Nat.beq pc 126 then some (.getfield 72, 3, 129, [], 0) else none))) : nk_F) pc
  else ((fun pc => bif Nat.ble pc 129 then (bif Nat.beq pc 129 then some (.bipush 20, 2, 131, [], 20) else none)
  else (bif Nat.ble pc 131 then (bif Nat.beq pc 131 then some (.iload_n 1, 1, 132, [], 0) else none)
  else (bif Nat.beq pc 132 then some (.imul, 1, 133, [], 0) else none))) : nk_F) pc) : nk_F) pc
  else ((fun pc => bif Nat.ble pc 135 then ((fun pc => bif Nat.ble pc 133 then (bif Nat.beq pc 133 then some (.iload_n 2, 1, 134, [], 0) else none)
  else (bif Nat.ble pc 134 then (bif Nat.beq pc 134 then some (.iadd, 1, 135, [], 0) else none)
  else (bif Nat.beq pc 135 then some (.iaload, 1, 136, [], 0) else none))) : nk_F) pc
  else ((fun pc => bif Nat.ble pc 136 then (bif Nat.beq pc 136 then some (.imul, 1, 137, [], 0) else none)
  else (bif Nat.ble pc 137 then (bif Nat.beq pc 137 then some (.aload_n 0, 1, 138, [], 0) else none)
  else (bif Nat.beq pc 138 then some (.getfield 69, 3, 141, [], 0) else none))) : nk_F) pc) : nk_F) pc) : nk_F) pc
  else ((fun pc => bif Nat.ble pc 147 then ((fun pc => bif Nat.ble pc 144 then ((fun pc => bif Nat.ble pc 141 then (bif Nat.beq pc 141 then some (.bipush 20, 2, 143, [], 20) else none)
  else (bif Nat.ble pc 143 then (bif Nat.beq pc 143 then some (.iload_n 1, 1, 144, [], 0) else none)
  else (bif Nat.beq pc 144 then some (.imul, 1, 145, [], 0) else none))) : nk_F) pc
  else ((fun pc => bif Nat.ble pc 145 then (bif Nat.beq pc 145 then some (.iload_n 2, 1, 146, [], 0) else none)
  else (bif Nat.ble pc 146 then (bif Nat.beq pc 146 then some (.iadd, 1, 147, [], 0) else none)
  else (bif Nat.beq pc 147 then some (.iaload, 1, 148, [], 0) else none))) : nk_F) pc) : nk_F) pc
  else ((fun pc => bif Nat.ble pc 152 then ((fun pc => bif Nat.ble pc 148 then (bif Nat.beq pc 148 then some (.iadd, 1, 149, [], 0) else none)
  else (bif Nat.ble pc 149 then (bif Nat.beq pc 149 then some (.invokevirtual 289, 3, 152, [], 0) else none)
  else (bif Nat.beq pc 152 then some (.iinc 2 1, 3, 155, [], 1) else none))) : nk_F) pc
  else ((fun pc => bif Nat.ble pc 158 then (bif Nat.ble pc 155 then (bif Nat.beq pc 155 then some (.goto (-43), 3, 158, [112], 0) else none)
  else (bif Nat.beq pc 158 then some (.iinc 1 1, 3, 161, [], 1) else none))
  else (bif Nat.ble pc 161 then (bif Nat.beq pc 161 then some (.goto (-66), 3, 164, [95], 0) else none)
  else (bif Nat.beq pc 164 then some (.return_, 1, 165, [], 0) else none))) : nk_F) pc) : nk_F) pc) : nk_F) pc) : nk_F) pc) : nk_F) pc
noncomputable def kc_X6_mixAll : Nat → Option nk_I := nk_top 165 kt_X6_mixAll
noncomputable def kx_X6_mixAll : nk_T := ([(120, 6, 10, 0), (32, 6, 11, 4), (146, 6, 12, 0), (35, 6, 13, 4), (38, 6, 14, 4), (66, 6, 27, 4), (72, 6, 29, 4), (69, 6, 28, 4)], [(1156, 2, 7, 0, 0, ev_X6_mix)], [], [], [], [], [], 0, false, 0, 0)
noncomputable def ev_X6_mixAll : nk_Ev := fun as h Q => nk_if (Nat.ble (nk_wd as) 3) (nk_ev kx_X6_mixAll kc_X6_mixAll 3 as h Q)
set_option maxRecDepth 100000 in
theorem ck_X6_mixAll : nk_chk cX6_mixAll kc_X6_mixAll 165 = true := nd_chk (by decide +kernel) (by decide +kernel)
set_option maxRecDepth 100000 in
set_option maxHeartbeats 4000000 in
theorem ca_X6_mixAll_1156 (l : Launch) : nk_CallOk l { frames := 1, cells := 0, slots := 0, locals := 21 } RX6 cX6_mixAll 3 false 1156 (2, 7, 0, 0, ev_X6_mix) := nk_callV (x := 289) (n := 1) (ci := 6) (r := (RX6, TX6, 32)) (mt_X6_mix l) rfl (nk_msc [(5, 173), (5, 174), (5, 175), (5, 176), (0, 61), (1, 7)] (by decide +kernel)) rfl rfl (by decide +kernel) ⟨by decide, by decide⟩
set_option maxRecDepth 100000 in
set_option maxHeartbeats 4000000 in
theorem mt_X6_mixAll (l : Launch) : nk_Met l yX6_mixAll cX6_mixAll 3 none { frames := 1, cells := 0, slots := 0, locals := 21 } false 0 0 ev_X6_mixAll :=
  nk_met nk_gok (plainFor_of_name (by decide)) ck_X6_mixAll (nk_top_out 165 kt_X6_mixAll) ⟨List.forall_mem_cons.mpr ⟨nk_fkc [(3, 203)] (by decide +kernel), List.forall_mem_cons.mpr ⟨nk_fkc [(3, 188), (3, 204)] (by decide +kernel), List.forall_mem_cons.mpr ⟨nk_fkc [(3, 205)] (by decide +kernel), List.forall_mem_cons.mpr ⟨nk_fkc [(3, 206)] (by decide +kernel), List.forall_mem_cons.mpr ⟨nk_fkc [(3, 207)] (by decide +kernel), List.forall_mem_cons.mpr ⟨nk_fkc [(3, 220)] (by decide +kernel), List.forall_mem_cons.mpr ⟨nk_fkc [(3, 222)] (by decide +kernel), List.forall_mem_cons.mpr ⟨nk_fkc [(3, 221)] (by decide +kernel), fun _ h => absurd h List.not_mem_nil⟩⟩⟩⟩⟩⟩⟩⟩, List.forall_mem_cons.mpr ⟨ca_X6_mixAll_1156 l, fun _ h => absurd h List.not_mem_nil⟩, fun _ h => absurd h List.not_mem_nil, fun _ h => absurd h List.not_mem_nil, fun _ h => absurd h List.not_mem_nil, fun _ h => absurd h List.not_mem_nil, fun _ h => absurd h List.not_mem_nil, by decide, rfl, rfl⟩ rfl (by decide)
/-! MarbleLawModel.digest()J -/
noncomputable def kt_X6_digest : Nat → Option nk_I := fun pc => bif Nat.ble pc 81 then ((fun pc => bif Nat.ble pc 43 then ((fun pc => bif Nat.ble pc 18 then ((fun pc => bif Nat.ble pc 9 then ((fun pc => bif Nat.ble pc 4 then ((fun pc => bif Nat.ble pc 0 then (bif Nat.beq pc 0 then some (.aload_n 0, 1, 1, [], 0) else none)
  else (bif Nat.ble pc 1 then (bif Nat.beq pc 1 then some (.ldc2_w 292, 3, 4, [], 0) else none)
  else (bif Nat.beq pc 4 then some (.putfield 286, 3, 7, [], 0) else none))) : nk_F) pc
  else ((fun pc => bif Nat.ble pc 7 then (bif Nat.beq pc 7 then some (.iconst 0, 1, 8, [], 0) else none)
  else (bif Nat.ble pc 8 then (bif Nat.beq pc 8 then some (.istore_n 1, 1, 9, [], 0) else none)
  else (bif Nat.beq pc 9 then some (.iload_n 1, 1, 10, [], 0) else none))) : nk_F) pc) : nk_F) pc
  else ((fun pc => bif Nat.ble pc 15 then ((fun pc => bif Nat.ble pc 10 then (bif Nat.beq pc 10 then some (.bipush 6, 2, 12, [], 6) else none)
  else (bif Nat.ble pc 12 then (bif Nat.beq pc 12 then some (.if_icmp .gt 18, 3, 15, [30], 0) else none)
  else (bif Nat.beq pc 15 then some (.aload_n 0, 1, 16, [], 0) else none))) : nk_F) pc
  else ((fun pc => bif Nat.ble pc 16 then (bif Nat.beq pc 16 then some (.aload_n 0, 1, 17, [], 0) else none)
  else (bif Nat.ble pc 17 then (bif Nat.beq pc 17 then some (.iload_n 1, 1, 18, [], 0) else none)
  else (bif Nat.beq pc 18 then some (.invokevirtual 281, 3, 21, [], 0) else none))) : nk_F) pc) : nk_F) pc) : nk_F) pc
  else ((fun pc => bif Nat.ble pc 34 then ((fun pc => bif Nat.ble pc 27 then ((fun pc => bif Nat.ble pc 21 then (bif Nat.beq pc 21 then some (.invokevirtual 289, 3, 24, [], 0) else none)
  else (bif Nat.ble pc 24 then (bif Nat.beq pc 24 then some (.iinc 1 1, 3, 27, [], 1) else none)
  else (bif Nat.beq pc 27 then some (.goto (-18), 3, 30, [9], 0) else none))) : nk_F) pc
  else ((fun pc => bif Nat.ble pc 30 then (bif Nat.beq pc 30 then some (.aload_n 0, 1, 31, [], 0) else none)
  else (bif Nat.ble pc 31 then (bif Nat.beq pc 31 then some (.invokevirtual 294, 3, 34, [], 0) else none)
  else (bif Nat.beq pc 34 then some (.iconst 0, 1, 35, [], 0) else none))) : nk_F) pc) : nk_F) pc
  else ((fun pc => bif Nat.ble pc 37 then ((fun pc => bif Nat.ble pc 35 then (bif Nat.beq pc 35 then some (.istore_n 1, 1, 36, [], 0) else none)
  else (bif Nat.ble pc 36 then (bif Nat.beq pc 36 then some (.iload_n 1, 1, 37, [], 0) else none)
  else (bif Nat.beq pc 37 then some (.bipush 6, 2, 39, [], 6) else none))) : nk_F) pc
  else ((fun pc => bif Nat.ble pc 39 then (bif Nat.beq pc 39 then some (.if_icmp .ge 60, 3, 42, [99], 0) else none)
  else (bif Nat.ble pc 42 then (bif Nat.beq pc 42 then some (.aload_n 0, 1, 43, [], 0) else none)
  else (bif Nat.beq pc 43 then some (.aload_n 0, 1, 44, [], 0) else none))) : nk_F) pc) : nk_F) pc) : nk_F) pc) : nk_F) pc
  else ((fun pc => bif Nat.ble pc 65 then ((fun pc => bif Nat.ble pc 53 then ((fun pc => bif Nat.ble pc 48 then ((fun pc => bif Nat.ble pc 44 then (bif Nat.beq pc 44 then some (.getfield 17, 3, 47, [], 0) else none)
  else (bif Nat.ble pc 47 then (bif Nat.beq pc 47 then some (.iload_n 1, 1, 48, [], 0) else none)
  else (bif Nat.beq pc 48 then some (.iaload, 1, 49, [], 0) else none))) : nk_F) pc
  else ((fun pc => bif Nat.ble pc 49 then (bif Nat.beq pc 49 then some (.ifCond .ge 7, 3, 52, [56], 0) else none)
  else (bif Nat.ble pc 52 then (bif Nat.beq pc 52 then some (.iconst (-1), 1, 53, [], (-1)) else none)
  else (bif Nat.beq pc 53 then some (.goto 9, 3, 56, [62], 0) else none))) : nk_F) pc) : nk_F) pc
  else ((fun pc => bif Nat.ble pc 60 then ((fun pc => bif Nat.ble pc 56 then (bif Nat.beq pc 56 then some (.aload_n 0, 1, 57, [], 0) else none)
  else (bif Nat.ble pc 57 then (bif Nat.beq pc 57 then some (.getfield 17, 3, 60, [], 0) else none)
  else (bif Nat.beq pc 60 then some (.iload_n 1, 1, 61, [], 0) else none))) : nk_F) pc
  else ((fun pc => bif Nat.ble pc 61 then (bif Nat.beq pc 61 then some (.iaload, 1, 62, [], 0) else none)
  else (bif Nat.ble pc 62 then (bif Nat.beq pc 62 then some (.invokevirtual 289, 3, 65, [], 0) else none)
  else (bif Nat.beq pc 65 then some (.iconst 0, 1, 66, [], 0) else none))) : nk_F) pc) : nk_F) pc) : nk_F) pc
  else ((fun pc => bif Nat.ble pc 73 then ((fun pc => bif Nat.ble pc 68 then ((fun pc => bif Nat.ble pc 66 then (bif Nat.beq pc 66 then some (.istore_n 2, 1, 67, [], 0) else none)
  else (bif Nat.ble pc 67 then (bif Nat.beq pc 67 then some (.iload_n 2, 1, 68, [], 0) else none)
  else (bif Nat.beq pc 68 then some (.aload_n 0, 1, 69, [], 0) else none))) : nk_F) pc
  else ((fun pc => bif Nat.ble pc 69 then (bif Nat.beq pc 69 then some (.getfield 17, 3, 72, [], 0) else none)
  else (bif Nat.ble pc 72 then (bif Nat.beq pc 72 then some (.iload_n 1, 1, 73, [], 0) else none)
  else (bif Nat.beq pc 73 then some (.iaload, 1, 74, [], 0) else none))) : nk_F) pc) : nk_F) pc
  else ((fun pc => bif Nat.ble pc 78 then ((fun pc => bif Nat.ble pc 74 then (bif Nat.beq pc 74 then some (.if_icmp .ge 19, 3, 77, [93], 0) else none)
  else (bif Nat.ble pc 77 then (bif Nat.beq pc 77 then some (.aload_n 0, 1, 78, [], 0) else none)
  else (bif Nat.beq pc 78 then some (.aload_n 0, 1, 79, [], 0) else none))) : nk_F) pc
  else ((fun pc => bif Nat.ble pc 79 then (bif Nat.beq pc 79 then some (.iload_n 1, 1, 80, [], 0) else none)
  else (bif Nat.ble pc 80 then (bif Nat.beq pc 80 then some (.iload_n 2, 1, 81, [], 0) else none)
  else (bif Nat.beq pc 81 then some (.invokevirtual 107, 3, 84, [], 0) else none))) : nk_F) pc) : nk_F) pc) : nk_F) pc) : nk_F) pc) : nk_F) pc
  else ((fun pc => bif Nat.ble pc 129 then ((fun pc => bif Nat.ble pc 107 then ((fun pc => bif Nat.ble pc 99 then ((fun pc => bif Nat.ble pc 90 then ((fun pc => bif Nat.ble pc 84 then (bif Nat.beq pc 84 then some (.invokevirtual 289, 3, 87, [], 0) else none)
  else (bif Nat.ble pc 87 then (bif Nat.beq pc 87 then some (.iinc 2 1, 3, 90, [], 1) else none)
  else (bif Nat.beq pc 90 then some (.goto (-23), 3, 93, [67], 0) else none))) : nk_F) pc
  else ((fun pc => bif Nat.ble pc 93 then (bif Nat.beq pc 93 then some (.iinc 1 1, 3, 96, [], 1) else none)
  else (bif Nat.ble pc 96 then (bif Nat.beq pc 96 then some (.goto (-60), 3, 99, [36], 0) else none)
  else (bif Nat.beq pc 99 then some (.iconst 0, 1, 100, [], 0) else none))) : nk_F) pc) : nk_F) pc
  else ((fun pc => bif Nat.ble pc 102 then ((fun pc => bif Nat.ble pc 100 then (bif Nat.beq pc 100 then some (.istore_n 1, 1, 101, [], 0) else none)
  else (bif Nat.ble pc 101 then (bif Nat.beq pc 101 then some (.iload_n 1, 1, 102, [], 0) else none)
  else (bif Nat.beq pc 102 then some (.iconst 4, 1, 103, [], 4) else none))) : nk_F) pc
  else ((fun pc => bif Nat.ble pc 103 then (bif Nat.beq pc 103 then some (.if_icmp .ge 65, 3, 106, [168], 0) else none)
  else (bif Nat.ble pc 106 then (bif Nat.beq pc 106 then some (.aload_n 0, 1, 107, [], 0) else none)
  else (bif Nat.beq pc 107 then some (.aload_n 0, 1, 108, [], 0) else none))) : nk_F) pc) : nk_F) pc) : nk_F) pc
  else ((fun pc => bif Nat.ble pc 117 then ((fun pc => bif Nat.ble pc 112 then ((fun pc => bif Nat.ble pc 108 then (bif Nat.beq pc 108 then some (.getfield 26, 3, 111, [], 0) else none)
  else (bif Nat.ble pc 111 then (bif Nat.beq pc 111 then some (.iload_n 1, 1, 112, [], 0) else none)
  else (bif Nat.beq pc 112 then some (.iaload, 1, 113, [], 0) else none))) : nk_F) pc
  else ((fun pc => bif Nat.ble pc 113 then (bif Nat.beq pc 113 then some (.ifCond .ge 7, 3, 116, [120], 0) else none)
  else (bif Nat.ble pc 116 then (bif Nat.beq pc 116 then some (.iconst (-1), 1, 117, [], (-1)) else none)
  else (bif Nat.beq pc 117 then some (.goto 9, 3, 120, [126], 0) else none))) : nk_F) pc) : nk_F) pc
  else ((fun pc => bif Nat.ble pc 124 then ((fun pc => bif Nat.ble pc 120 then (bif Nat.beq pc 120 then some (.aload_n 0, 1, 121, [], 0) else none)
  else (bif Nat.ble pc 121 then (bif Nat.beq pc 121 then some (.getfield 26, 3, 124, [], 0) else none)
  else (bif Nat.beq pc 124 then some (.iload_n 1, 1, 125, [], 0) else none))) : nk_F) pc
  else ((fun pc => bif Nat.ble pc 125 then (bif Nat.beq pc 125 then some (.iaload, 1, 126, [], 0) else none)
  else (bif Nat.ble pc 126 then (bif Nat.beq pc 126 then some (.invokevirtual 289, 3, 129, [], 0) else none)
  else (bif Nat.beq pc 129 then some (.iconst 0, 1, 130, [], 0) else none))) : nk_F) pc) : nk_F) pc) : nk_F) pc) : nk_F) pc
  else ((fun pc => bif Nat.ble pc 148 then ((fun pc => bif Nat.ble pc 137 then ((fun pc => bif Nat.ble pc 132 then ((fun pc => bif Nat.ble pc 130 then (bif Nat.beq pc 130 then some (.istore_n 2, 1, 131, [], 0) else none)
  else (bif Nat.ble pc 131 then (bif Nat.beq pc 131 then some (.iload_n 2, 1, 132, [], 0) else none)
  else (bif Nat.beq pc 132 then some (.aload_n 0, 1, 133, [], 0) else none))) : nk_F) pc
  else ((fun pc => bif Nat.ble pc 133 then (bif Nat.beq pc 133 then some (.getfield 26, 3, 136, [], 0) else none)
  else (bif Nat.ble pc 136 then (bif Nat.beq pc 136 then some (.iload_n 1, 1, 137, [], 0) else none)
  else (bif Nat.beq pc 137 then some (.iaload, 1, 138, [], 0) else none))) : nk_F) pc) : nk_F) pc
  else ((fun pc => bif Nat.ble pc 142 then ((fun pc => bif Nat.ble pc 138 then (bif Nat.beq pc 138 then some (.if_icmp .ge 24, 3, 141, [162], 0) else none)
  else (bif Nat.ble pc 141 then (bif Nat.beq pc 141 then some (.aload_n 0, 1, 142, [], 0) else none)
  else (bif Nat.beq pc 142 then some (.aload_n 0, 1, 143, [], 0) else none))) : nk_F) pc
  else ((fun pc => bif Nat.ble pc 143 then (bif Nat.beq pc 143 then some (.getfield 29, 3, 146, [], 0) else none)
  else (bif Nat.ble pc 146 then (bif Nat.beq pc 146 then some (.bipush 40, 2, 148, [], 40) else none)
  else (bif Nat.beq pc 148 then some (.iload_n 1, 1, 149, [], 0) else none))) : nk_F) pc) : nk_F) pc) : nk_F) pc
  else ((fun pc => bif Nat.ble pc 156 then ((fun pc => bif Nat.ble pc 151 then ((fun pc => bif Nat.ble pc 149 then (bif Nat.beq pc 149 then some (.imul, 1, 150, [], 0) else none)
  else (bif Nat.ble pc 150 then (bif Nat.beq pc 150 then some (.iload_n 2, 1, 151, [], 0) else none)
  else (bif Nat.beq pc 151 then some (.iadd, 1, 152, [], 0) else none))) : nk_F) pc
  else ((fun pc => bif Nat.ble pc 152 then (bif Nat.beq pc 152 then some (.iaload, 1, 153, [], 0) else none)
  else (bif Nat.ble pc 153 then (bif Nat.beq pc 153 then some (.invokevirtual 289, 3, 156, [], 0) else none)
  else (bif Nat.beq pc 156 then some (.iinc 2 1, 3, 159, [], 1) else none))) : nk_F) pc) : nk_F) pc
  else ((fun pc => bif Nat.ble pc 165 then ((fun pc => bif Nat.ble pc 159 then (bif Nat.beq pc 159 then some (.goto (-28), 3, 162, [131], 0) else none)
  else (bif Nat.ble pc 162 then (bif Nat.beq pc 162 then some (.iinc 1 1, 3, 165, [], 1) else none)
  else (bif Nat.beq pc 165 then some (.goto (-64), 3, 168, [101], 0) else none))) : nk_F) pc
  else ((fun pc => bif Nat.ble pc 168 then (bif Nat.beq pc 168 then some (.aload_n 0, 1, 169, [], 0) else none)
  else (bif Nat.ble pc 169 then (bif Nat.beq pc 169 then some (.getfield 286, 3, 172, [], 0) else none)
  else (bif Nat.beq pc 172 then some (.lreturn, 1, 173, [], 0) else none))) : nk_F) pc) : nk_F) pc) : nk_F) pc) : nk_F) pc) : nk_F) pc
noncomputable def kc_X6_digest : Nat → Option nk_I := nk_top 173 kt_X6_digest
noncomputable def kx_X6_digest : nk_T := ([(286, 6, 31, 2), (17, 6, 5, 4), (26, 6, 8, 4), (29, 6, 9, 4)], [(1124, 2, 7, 0, 0, ev_X6_counts), (1156, 2, 7, 0, 0, ev_X6_mix), (1176, 1, 7, 0, 0, ev_X6_mixAll), (428, 3, 7, 0, 0, ev_X6_rowAt)], [], [(292, 17)], [], [], [], 3, false, 0, 0)
noncomputable def ev_X6_digest : nk_Ev := fun as h Q => nk_if (Nat.ble (nk_wd as) 3) (nk_ev kx_X6_digest kc_X6_digest 3 as h Q)
set_option maxRecDepth 100000 in
theorem ck_X6_digest : nk_chk cX6_digest kc_X6_digest 173 = true := nd_chk (by decide +kernel) (by decide +kernel)
set_option maxRecDepth 100000 in
set_option maxHeartbeats 4000000 in
theorem ca_X6_digest_1124 (l : Launch) : nk_CallOk l { frames := 2, cells := 0, slots := 0, locals := 46 } RX6 cX6_digest 3 false 1124 (2, 7, 0, 0, ev_X6_counts) := nk_callV (x := 281) (n := 1) (ci := 6) (r := (RX6, TX6, 32)) (mt_X6_counts l) rfl (nk_msc [(5, 156), (5, 157), (5, 158), (5, 159), (0, 60), (1, 7)] (by decide +kernel)) rfl rfl (by decide +kernel) ⟨by decide, by decide⟩
set_option maxRecDepth 100000 in
set_option maxHeartbeats 4000000 in
theorem ca_X6_digest_1156 (l : Launch) : nk_CallOk l { frames := 2, cells := 0, slots := 0, locals := 46 } RX6 cX6_digest 3 false 1156 (2, 7, 0, 0, ev_X6_mix) := nk_callV (x := 289) (n := 1) (ci := 6) (r := (RX6, TX6, 32)) (mt_X6_mix l) rfl (nk_msc [(5, 173), (5, 174), (5, 175), (5, 176), (0, 61), (1, 7)] (by decide +kernel)) rfl rfl (by decide +kernel) ⟨by decide, by decide⟩
set_option maxRecDepth 100000 in
set_option maxHeartbeats 4000000 in
theorem ca_X6_digest_1176 (l : Launch) : nk_CallOk l { frames := 2, cells := 0, slots := 0, locals := 46 } RX6 cX6_digest 3 false 1176 (1, 7, 0, 0, ev_X6_mixAll) := nk_callV (x := 294) (n := 0) (ci := 6) (r := (RX6, TX6, 32)) (mt_X6_mixAll l) rfl (nk_msc [(5, 178), (5, 179), (5, 180), (5, 181), (0, 62), (1, 7)] (by decide +kernel)) rfl rfl (by decide +kernel) ⟨by decide, by decide⟩
set_option maxRecDepth 100000 in
set_option maxHeartbeats 4000000 in
theorem ca_X6_digest_428 (l : Launch) : nk_CallOk l { frames := 2, cells := 0, slots := 0, locals := 46 } RX6 cX6_digest 3 false 428 (3, 7, 0, 0, ev_X6_rowAt) := nk_callV (x := 107) (n := 2) (ci := 6) (r := (RX6, TX6, 32)) (mt_X6_rowAt l) rfl (nk_msc [(4, 72), (4, 73), (4, 74), (4, 75), (0, 28), (1, 7)] (by decide +kernel)) rfl rfl (by decide +kernel) ⟨by decide, by decide⟩
set_option maxRecDepth 100000 in
set_option maxHeartbeats 4000000 in
theorem mt_X6_digest (l : Launch) : nk_Met l yX6_digest cX6_digest 3 (some .long) { frames := 2, cells := 0, slots := 0, locals := 46 } false 0 0 ev_X6_digest :=
  nk_met nk_gok (plainFor_of_name (by decide)) ck_X6_digest (nk_top_out 173 kt_X6_digest) ⟨List.forall_mem_cons.mpr ⟨nk_fkc [(3, 224)] (by decide +kernel), List.forall_mem_cons.mpr ⟨nk_fkc [(3, 198)] (by decide +kernel), List.forall_mem_cons.mpr ⟨nk_fkc [(3, 201)] (by decide +kernel), List.forall_mem_cons.mpr ⟨nk_fkc [(3, 202)] (by decide +kernel), fun _ h => absurd h List.not_mem_nil⟩⟩⟩⟩, List.forall_mem_cons.mpr ⟨ca_X6_digest_1124 l, List.forall_mem_cons.mpr ⟨ca_X6_digest_1156 l, List.forall_mem_cons.mpr ⟨ca_X6_digest_1176 l, List.forall_mem_cons.mpr ⟨ca_X6_digest_428 l, fun _ h => absurd h List.not_mem_nil⟩⟩⟩⟩, fun _ h => absurd h List.not_mem_nil, List.forall_mem_cons.mpr ⟨nk_mc [(5, 172)] (by decide +kernel), fun _ h => absurd h List.not_mem_nil⟩, fun _ h => absurd h List.not_mem_nil, fun _ h => absurd h List.not_mem_nil, fun _ h => absurd h List.not_mem_nil, by decide, rfl, rfl⟩ rfl (by decide)
