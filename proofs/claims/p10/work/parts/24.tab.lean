/-! MarbleLawModel.mixes(IIII)V -/
noncomputable def kt_X6_mixes : Nat → Option nk_I := fun pc => bif Nat.ble pc 86 then ((fun pc => bif Nat.ble pc 44 then ((fun pc => bif Nat.ble pc 21 then ((fun pc => bif Nat.ble pc 12 then ((fun pc => bif Nat.ble pc 4 then ((fun pc => bif Nat.ble pc 0 then (bif Nat.beq pc 0 then some (.aload_n 0, 1, 1, [], 0) else none)
  else (bif Nat.ble pc 1 then (bif Nat.beq pc 1 then some (.getfield 185, 3, 4, [], 0) else none)
  else (bif Nat.beq pc 4 then some (.ifCond .eq 4, 3, 7, [8], 0) else none))) : nk_F) pc
  else ((fun pc => bif Nat.ble pc 8 then (bif Nat.ble pc 7 then (bif Nat.beq pc 7 then some (.return_, 1, 8, [], 0) else none)
  else (bif Nat.beq pc 8 then some (.aload_n 0, 1, 9, [], 0) else none))
  else (bif Nat.ble pc 9 then (bif Nat.beq pc 9 then some (.getfield 57, 3, 12, [], 0) else none)
  else (bif Nat.beq pc 12 then some (.iload_n 1, 1, 13, [], 0) else none))) : nk_F) pc) : nk_F) pc
  else ((fun pc => bif Nat.ble pc 15 then ((fun pc => bif Nat.ble pc 13 then (bif Nat.beq pc 13 then some (.laload, 1, 14, [], 0) else none)
  else (bif Nat.ble pc 14 then (bif Nat.beq pc 14 then some (.aload_n 0, 1, 15, [], 0) else none)
  else (bif Nat.beq pc 15 then some (.getfield 57, 3, 18, [], 0) else none))) : nk_F) pc
  else ((fun pc => bif Nat.ble pc 19 then (bif Nat.ble pc 18 then (bif Nat.beq pc 18 then some (.iload_n 2, 1, 19, [], 0) else none)
  else (bif Nat.beq pc 19 then some (.laload, 1, 20, [], 0) else none))
  else (bif Nat.ble pc 20 then (bif Nat.beq pc 20 then some (.lmul, 1, 21, [], 0) else none)
  else (bif Nat.beq pc 21 then some (.iload_n 3, 1, 22, [], 0) else none))) : nk_F) pc) : nk_F) pc) : nk_F) pc
  else ((fun pc => bif Nat.ble pc 31 then ((fun pc => bif Nat.ble pc 25 then ((fun pc => bif Nat.ble pc 22 then (bif Nat.beq pc 22 then some (.iload 4, 2, 24, [], 0) else none)
  else (bif Nat.ble pc 24 then (bif Nat.beq pc 24 then some (.iadd, 1, 25, [], 0) else none)
  else (bif Nat.beq pc 25 then some (.i2l, 1, 26, [], 0) else none))) : nk_F) pc
  else ((fun pc => bif Nat.ble pc 27 then (bif Nat.ble pc 26 then (bif Nat.beq pc 26 then some (.lmul, 1, 27, [], 0) else none)
  else (bif Nat.beq pc 27 then some (.lstore 5, 2, 29, [], 0) else none))
  else (bif Nat.ble pc 29 then (bif Nat.beq pc 29 then some (.lload 5, 2, 31, [], 0) else none)
  else (bif Nat.beq pc 31 then some (.lstore 7, 2, 33, [], 0) else none))) : nk_F) pc) : nk_F) pc
  else ((fun pc => bif Nat.ble pc 36 then ((fun pc => bif Nat.ble pc 33 then (bif Nat.beq pc 33 then some (.iconst 0, 1, 34, [], 0) else none)
  else (bif Nat.ble pc 34 then (bif Nat.beq pc 34 then some (.istore 9, 2, 36, [], 0) else none)
  else (bif Nat.beq pc 36 then some (.iload 9, 2, 38, [], 0) else none))) : nk_F) pc
  else ((fun pc => bif Nat.ble pc 40 then (bif Nat.ble pc 38 then (bif Nat.beq pc 38 then some (.bipush 6, 2, 40, [], 6) else none)
  else (bif Nat.beq pc 40 then some (.if_icmp .ge 75, 3, 43, [115], 0) else none))
  else (bif Nat.ble pc 43 then (bif Nat.beq pc 43 then some (.aload_n 0, 1, 44, [], 0) else none)
  else (bif Nat.beq pc 44 then some (.getfield 53, 3, 47, [], 0) else none))) : nk_F) pc) : nk_F) pc) : nk_F) pc) : nk_F) pc
  else ((fun pc => bif Nat.ble pc 64 then ((fun pc => bif Nat.ble pc 55 then ((fun pc => bif Nat.ble pc 50 then ((fun pc => bif Nat.ble pc 47 then (bif Nat.beq pc 47 then some (.bipush 6, 2, 49, [], 6) else none)
  else (bif Nat.ble pc 49 then (bif Nat.beq pc 49 then some (.iload_n 1, 1, 50, [], 0) else none)
  else (bif Nat.beq pc 50 then some (.imul, 1, 51, [], 0) else none))) : nk_F) pc
  else ((fun pc => bif Nat.ble pc 53 then (bif Nat.ble pc 51 then (bif Nat.beq pc 51 then some (.iload 9, 2, 53, [], 0) else none)
  else (bif Nat.beq pc 53 then some (.iadd, 1, 54, [], 0) else none))
  else (bif Nat.ble pc 54 then (bif Nat.beq pc 54 then some (.laload, 1, 55, [], 0) else none)
  else (bif Nat.beq pc 55 then some (.iload_n 3, 1, 56, [], 0) else none))) : nk_F) pc) : nk_F) pc
  else ((fun pc => bif Nat.ble pc 58 then ((fun pc => bif Nat.ble pc 56 then (bif Nat.beq pc 56 then some (.i2l, 1, 57, [], 0) else none)
  else (bif Nat.ble pc 57 then (bif Nat.beq pc 57 then some (.lmul, 1, 58, [], 0) else none)
  else (bif Nat.beq pc 58 then some (.aload_n 0, 1, 59, [], 0) else none))) : nk_F) pc
  else ((fun pc => bif Nat.ble pc 62 then (bif Nat.ble pc 59 then (bif Nat.beq pc 59 then some (.getfield 57, 3, 62, [], 0) else none)
  else (bif Nat.beq pc 62 then some (.iload_n 2, 1, 63, [], 0) else none))
  else (bif Nat.ble pc 63 then (bif Nat.beq pc 63 then some (.laload, 1, 64, [], 0) else none)
  else (bif Nat.beq pc 64 then some (.lmul, 1, 65, [], 0) else none))) : nk_F) pc) : nk_F) pc) : nk_F) pc
  else ((fun pc => bif Nat.ble pc 75 then ((fun pc => bif Nat.ble pc 69 then ((fun pc => bif Nat.ble pc 65 then (bif Nat.beq pc 65 then some (.aload_n 0, 1, 66, [], 0) else none)
  else (bif Nat.ble pc 66 then (bif Nat.beq pc 66 then some (.getfield 53, 3, 69, [], 0) else none)
  else (bif Nat.beq pc 69 then some (.bipush 6, 2, 71, [], 6) else none))) : nk_F) pc
  else ((fun pc => bif Nat.ble pc 72 then (bif Nat.ble pc 71 then (bif Nat.beq pc 71 then some (.iload_n 2, 1, 72, [], 0) else none)
  else (bif Nat.beq pc 72 then some (.imul, 1, 73, [], 0) else none))
  else (bif Nat.ble pc 73 then (bif Nat.beq pc 73 then some (.iload 9, 2, 75, [], 0) else none)
  else (bif Nat.beq pc 75 then some (.iadd, 1, 76, [], 0) else none))) : nk_F) pc) : nk_F) pc
  else ((fun pc => bif Nat.ble pc 80 then ((fun pc => bif Nat.ble pc 77 then (bif Nat.ble pc 76 then (bif Nat.beq pc 76 then some (.laload, 1, 77, [], 0) else none)
  else (bif Nat.beq pc 77 then some (.iload 4, 2, 79, [], 0) else none))
  else (bif Nat.ble pc 79 then (bif Nat.beq pc 79 then some (.i2l, 1, 80, [], 0) else none)
  else (bif Nat.beq pc 80 then some (.lmul, 1, 81, [], 0) else none))) : nk_F) pc
  else ((fun pc => bif Nat.ble pc 82 then (bif Nat.ble pc 81 then (bif Nat.beq pc 81 then some (.aload_n 0, 1, 82, [], 0) else none)
  else (bif Nat.beq pc 82 then some (.getfield 57, 3, 85, [], 0) else none))
  else (bif Nat.ble pc 85 then (bif Nat.beq pc 85 then some (.iload_n 1, 1, 86, [], 0) else none)
  else (bif Nat.beq pc 86 then some (.laload, 1, 87, [], 0) else none))) : nk_F) pc) : nk_F) pc) : nk_F) pc) : nk_F) pc) : nk_F) pc
  else ((fun pc => bif Nat.ble pc 140 then ((fun pc => bif Nat.ble pc 112 then ((fun pc => bif Nat.ble pc 97 then ((fun pc => bif Nat.ble pc 89 then ((fun pc => bif Nat.ble pc 87 then (bif Nat.beq pc 87 then some (.lmul, 1, 88, [], 0) else none)
  else (bif Nat.ble pc 88 then (bif Nat.beq pc 88 then some (.ladd, 1, 89, [], 0) else none)
  else (bif Nat.beq pc 89 then some (.lstore 10, 2, 91, [], 0) else none))) : nk_F) pc
  else ((fun pc => bif Nat.ble pc 92 then (bif Nat.ble pc 91 then (bif Nat.beq pc 91 then some (.aload_n 0, 1, 92, [], 0) else none)
  else (bif Nat.beq pc 92 then some (.getfield 60, 3, 95, [], 0) else none))
  else (bif Nat.ble pc 95 then (bif Nat.beq pc 95 then some (.iload 9, 2, 97, [], 0) else none)
  else (bif Nat.beq pc 97 then some (.lload 10, 2, 99, [], 0) else none))) : nk_F) pc) : nk_F) pc
  else ((fun pc => bif Nat.ble pc 102 then ((fun pc => bif Nat.ble pc 99 then (bif Nat.beq pc 99 then some (.lastore, 1, 100, [], 0) else none)
  else (bif Nat.ble pc 100 then (bif Nat.beq pc 100 then some (.lload 10, 2, 102, [], 0) else none)
  else (bif Nat.beq pc 102 then some (.lload 7, 2, 104, [], 0) else none))) : nk_F) pc
  else ((fun pc => bif Nat.ble pc 107 then (bif Nat.ble pc 104 then (bif Nat.beq pc 104 then some (.invokestatic 82, 3, 107, [], 0) else none)
  else (bif Nat.beq pc 107 then some (.lstore 7, 2, 109, [], 0) else none))
  else (bif Nat.ble pc 109 then (bif Nat.beq pc 109 then some (.iinc 9 1, 3, 112, [], 1) else none)
  else (bif Nat.beq pc 112 then some (.goto (-76), 3, 115, [36], 0) else none))) : nk_F) pc) : nk_F) pc) : nk_F) pc
  else ((fun pc => bif Nat.ble pc 126 then ((fun pc => bif Nat.ble pc 118 then ((fun pc => bif Nat.ble pc 115 then (bif Nat.beq pc 115 then some (.iconst 0, 1, 116, [], 0) else none)
  else (bif Nat.ble pc 116 then (bif Nat.beq pc 116 then some (.istore 9, 2, 118, [], 0) else none)
  else (bif Nat.beq pc 118 then some (.iload 9, 2, 120, [], 0) else none))) : nk_F) pc
  else ((fun pc => bif Nat.ble pc 122 then (bif Nat.ble pc 120 then (bif Nat.beq pc 120 then some (.bipush 6, 2, 122, [], 6) else none)
  else (bif Nat.beq pc 122 then some (.if_icmp .ge 31, 3, 125, [153], 0) else none))
  else (bif Nat.ble pc 125 then (bif Nat.beq pc 125 then some (.aload_n 0, 1, 126, [], 0) else none)
  else (bif Nat.beq pc 126 then some (.getfield 53, 3, 129, [], 0) else none))) : nk_F) pc) : nk_F) pc
  else ((fun pc => bif Nat.ble pc 133 then ((fun pc => bif Nat.ble pc 131 then (bif Nat.ble pc 129 then (bif Nat.beq pc 129 then some (.bipush 6, 2, 131, [], 6) else none)
  else (bif Nat.beq pc 131 then some (.iload_n 1, 1, 132, [], 0) else none))
  else (bif Nat.ble pc 132 then (bif Nat.beq pc 132 then some (.imul, 1, 133, [], 0) else none)
  else (bif Nat.beq pc 133 then some (.iload 9, 2, 135, [], 0) else none))) : nk_F) pc
  else ((fun pc => bif Nat.ble pc 136 then (bif Nat.ble pc 135 then (bif Nat.beq pc 135 then some (.iadd, 1, 136, [], 0) else none)
  else (bif Nat.beq pc 136 then some (.aload_n 0, 1, 137, [], 0) else none))
  else (bif Nat.ble pc 137 then (bif Nat.beq pc 137 then some (.getfield 60, 3, 140, [], 0) else none)
  else (bif Nat.beq pc 140 then some (.iload 9, 2, 142, [], 0) else none))) : nk_F) pc) : nk_F) pc) : nk_F) pc) : nk_F) pc
  else ((fun pc => bif Nat.ble pc 164 then ((fun pc => bif Nat.ble pc 153 then ((fun pc => bif Nat.ble pc 145 then ((fun pc => bif Nat.ble pc 142 then (bif Nat.beq pc 142 then some (.laload, 1, 143, [], 0) else none)
  else (bif Nat.ble pc 143 then (bif Nat.beq pc 143 then some (.lload 7, 2, 145, [], 0) else none)
  else (bif Nat.beq pc 145 then some (.ldiv, 1, 146, [], 0) else none))) : nk_F) pc
  else ((fun pc => bif Nat.ble pc 147 then (bif Nat.ble pc 146 then (bif Nat.beq pc 146 then some (.lastore, 1, 147, [], 0) else none)
  else (bif Nat.beq pc 147 then some (.iinc 9 1, 3, 150, [], 1) else none))
  else (bif Nat.ble pc 150 then (bif Nat.beq pc 150 then some (.goto (-32), 3, 153, [118], 0) else none)
  else (bif Nat.beq pc 153 then some (.aload_n 0, 1, 154, [], 0) else none))) : nk_F) pc) : nk_F) pc
  else ((fun pc => bif Nat.ble pc 158 then ((fun pc => bif Nat.ble pc 154 then (bif Nat.beq pc 154 then some (.getfield 57, 3, 157, [], 0) else none)
  else (bif Nat.ble pc 157 then (bif Nat.beq pc 157 then some (.iload_n 1, 1, 158, [], 0) else none)
  else (bif Nat.beq pc 158 then some (.lload 5, 2, 160, [], 0) else none))) : nk_F) pc
  else ((fun pc => bif Nat.ble pc 162 then (bif Nat.ble pc 160 then (bif Nat.beq pc 160 then some (.lload 7, 2, 162, [], 0) else none)
  else (bif Nat.beq pc 162 then some (.ldiv, 1, 163, [], 0) else none))
  else (bif Nat.ble pc 163 then (bif Nat.beq pc 163 then some (.lastore, 1, 164, [], 0) else none)
  else (bif Nat.beq pc 164 then some (.aload_n 0, 1, 165, [], 0) else none))) : nk_F) pc) : nk_F) pc) : nk_F) pc
  else ((fun pc => bif Nat.ble pc 177 then ((fun pc => bif Nat.ble pc 169 then ((fun pc => bif Nat.ble pc 165 then (bif Nat.beq pc 165 then some (.aload_n 0, 1, 166, [], 0) else none)
  else (bif Nat.ble pc 166 then (bif Nat.beq pc 166 then some (.getfield 185, 3, 169, [], 0) else none)
  else (bif Nat.beq pc 169 then some (.ifCond .ne 16, 3, 172, [185], 0) else none))) : nk_F) pc
  else ((fun pc => bif Nat.ble pc 173 then (bif Nat.ble pc 172 then (bif Nat.beq pc 172 then some (.aload_n 0, 1, 173, [], 0) else none)
  else (bif Nat.beq pc 173 then some (.getfield 57, 3, 176, [], 0) else none))
  else (bif Nat.ble pc 176 then (bif Nat.beq pc 176 then some (.iload_n 1, 1, 177, [], 0) else none)
  else (bif Nat.beq pc 177 then some (.laload, 1, 178, [], 0) else none))) : nk_F) pc) : nk_F) pc
  else ((fun pc => bif Nat.ble pc 185 then ((fun pc => bif Nat.ble pc 181 then (bif Nat.ble pc 178 then (bif Nat.beq pc 178 then some (.ldc2_w 189, 3, 181, [], 0) else none)
  else (bif Nat.beq pc 181 then some (.lcmp, 1, 182, [], 0) else none))
  else (bif Nat.ble pc 182 then (bif Nat.beq pc 182 then some (.ifCond .le 7, 3, 185, [189], 0) else none)
  else (bif Nat.beq pc 185 then some (.iconst 1, 1, 186, [], 1) else none))) : nk_F) pc
  else ((fun pc => bif Nat.ble pc 189 then (bif Nat.ble pc 186 then (bif Nat.beq pc 186 then some (.goto 4, 3, 189, [190], 0) else none)
  else (bif Nat.beq pc 189 then some (.iconst 0, 1, 190, [], 0) else none))
  else (bif Nat.ble pc 190 then (bif Nat.beq pc 190 then some (.putfield 185, 3, 193, [], 0) else none)
  else (bif Nat.beq pc 193 then some (.return_, 1, 194, [], 0) else none))) : nk_F) pc) : nk_F) pc) : nk_F) pc) : nk_F) pc) : nk_F) pc
noncomputable def kc_X6_mixes : Nat → Option nk_I := nk_top 194 kt_X6_mixes
noncomputable def kx_X6_mixes : nk_T := ([(185, 6, 22, 1), (57, 6, 21, 4), (53, 6, 20, 4), (60, 6, 25, 4)], [(330, 2, 0, 0, 0, ev_X6_divisor)], [], [(189, 10000)], [], [], [], 0, false, 0, 0)
noncomputable def ev_X6_mixes : nk_Ev := fun as h Q => nk_if (Nat.ble (nk_wd as) 12) (nk_ev kx_X6_mixes kc_X6_mixes 12 as h Q)
set_option maxRecDepth 100000 in
theorem ck_X6_mixes : nk_chk cX6_mixes kc_X6_mixes 194 = true := nd_chk (by decide +kernel) (by decide +kernel)
set_option maxRecDepth 100000 in
set_option maxHeartbeats 4000000 in
theorem ca_X6_mixes_330 (l : Launch) : nk_CallOk l { frames := 1, cells := 0, slots := 0, locals := 29 } RX6 cX6_mixes 12 false 330 (2, 0, 0, 0, ev_X6_divisor) := nk_callS (x := 82) (n := 2) (mt_X6_divisor l) (nk_msc [(4, 239), (5, 0), (5, 1), (1, 7)] (by decide +kernel)) rfl rfl (by decide +kernel) ⟨by decide, by decide⟩
set_option maxRecDepth 100000 in
set_option maxHeartbeats 4000000 in
theorem mt_X6_mixes (l : Launch) : nk_Met l yX6_mixes cX6_mixes 12 none { frames := 1, cells := 0, slots := 0, locals := 29 } false 0 0 ev_X6_mixes :=
  nk_met nk_gok (plainFor_of_name (by decide)) ck_X6_mixes (nk_top_out 194 kt_X6_mixes) ⟨List.forall_mem_cons.mpr ⟨nk_fkc [(3, 215)] (by decide +kernel), List.forall_mem_cons.mpr ⟨nk_fkc [(3, 214)] (by decide +kernel), List.forall_mem_cons.mpr ⟨nk_fkc [(3, 213)] (by decide +kernel), List.forall_mem_cons.mpr ⟨nk_fkc [(3, 218)] (by decide +kernel), fun _ h => absurd h List.not_mem_nil⟩⟩⟩⟩, List.forall_mem_cons.mpr ⟨ca_X6_mixes_330 l, fun _ h => absurd h List.not_mem_nil⟩, fun _ h => absurd h List.not_mem_nil, List.forall_mem_cons.mpr ⟨nk_mc [(5, 2)] (by decide +kernel), fun _ h => absurd h List.not_mem_nil⟩, fun _ h => absurd h List.not_mem_nil, fun _ h => absurd h List.not_mem_nil, fun _ h => absurd h List.not_mem_nil, by decide, rfl, rfl⟩ rfl (by decide)
/-! MarbleLawModel.knows(I)Z -/
noncomputable def kt_X6_knows : Nat → Option nk_I := fun pc => bif Nat.ble pc 11 then ((fun pc => bif Nat.ble pc 5 then ((fun pc => bif Nat.ble pc 1 then (bif Nat.ble pc 0 then (bif Nat.beq pc 0 then some (.iload_n 1, 1, 1, [], 0) else none)
  else (bif Nat.beq pc 1 then some (.iconst 1, 1, 2, [], 1) else none))
  else (bif Nat.ble pc 2 then (bif Nat.beq pc 2 then some (.if_icmp .eq 21, 3, 5, [23], 0) else none)
  else (bif Nat.beq pc 5 then some (.iload_n 1, 1, 6, [], 0) else none))) : nk_F) pc
  else ((fun pc => bif Nat.ble pc 7 then (bif Nat.ble pc 6 then (bif Nat.beq pc 6 then some (.iconst 1, 1, 7, [], 1) else none)
  else (bif Nat.beq pc 7 then some (.if_icmp .le 20, 3, 10, [27], 0) else none))
  else (bif Nat.ble pc 10 then (bif Nat.beq pc 10 then some (.aload_n 0, 1, 11, [], 0) else none)
  else (bif Nat.beq pc 11 then some (.getfield 182, 3, 14, [], 0) else none))) : nk_F) pc) : nk_F) pc
  else ((fun pc => bif Nat.ble pc 17 then ((fun pc => bif Nat.ble pc 15 then (bif Nat.ble pc 14 then (bif Nat.beq pc 14 then some (.iload_n 1, 1, 15, [], 0) else none)
  else (bif Nat.beq pc 15 then some (.iconst 2, 1, 16, [], 2) else none))
  else (bif Nat.ble pc 16 then (bif Nat.beq pc 16 then some (.isub, 1, 17, [], 0) else none)
  else (bif Nat.beq pc 17 then some (.invokestatic 191, 3, 20, [], 0) else none))) : nk_F) pc
  else ((fun pc => bif Nat.ble pc 23 then (bif Nat.ble pc 20 then (bif Nat.beq pc 20 then some (.ifCond .eq 7, 3, 23, [27], 0) else none)
  else (bif Nat.beq pc 23 then some (.iconst 1, 1, 24, [], 1) else none))
  else ((fun pc => bif Nat.ble pc 24 then (bif Nat.beq pc 24 then some (.goto 4, 3, 27, [28], 0) else none)
  else (bif Nat.ble pc 27 then (bif Nat.beq pc 27 then some (.iconst 0, 1, 28, [], 0) else none)
  else (bif Nat.beq pc 28 then some (.ireturn, 1, 29, [], 0) else none))) : nk_F) pc) : nk_F) pc) : nk_F) pc
noncomputable def kc_X6_knows : Nat → Option nk_I := nk_top 29 kt_X6_knows
noncomputable def kx_X6_knows : nk_T := ([(182, 6, 24, 0)], [(766, 2, 0, 0, 0, ev_X6_has)], [], [], [], [], [], 2, false, 0, 0)
noncomputable def ev_X6_knows : nk_Ev := fun as h Q => nk_if (Nat.ble (nk_wd as) 2) (nk_ev kx_X6_knows kc_X6_knows 2 as h Q)
set_option maxRecDepth 100000 in
theorem ck_X6_knows : nk_chk cX6_knows kc_X6_knows 29 = true := nd_chk (by decide +kernel) (by decide +kernel)
set_option maxRecDepth 100000 in
set_option maxHeartbeats 4000000 in
theorem ca_X6_knows_766 (l : Launch) : nk_CallOk l { frames := 1, cells := 0, slots := 0, locals := 21 } RX6 cX6_knows 2 false 766 (2, 0, 0, 0, ev_X6_has) := nk_callS (x := 191) (n := 2) (mt_X6_has l) (nk_msc [(4, 224), (4, 225), (4, 226), (1, 7)] (by decide +kernel)) rfl rfl (by decide +kernel) ⟨by decide, by decide⟩
set_option maxRecDepth 100000 in
set_option maxHeartbeats 4000000 in
theorem mt_X6_knows (l : Launch) : nk_Met l yX6_knows cX6_knows 2 (some .boolean) { frames := 1, cells := 0, slots := 0, locals := 21 } false 0 0 ev_X6_knows :=
  nk_met nk_gok (plainFor_of_name (by decide)) ck_X6_knows (nk_top_out 29 kt_X6_knows) ⟨List.forall_mem_cons.mpr ⟨nk_fkc [(3, 217)] (by decide +kernel), fun _ h => absurd h List.not_mem_nil⟩, List.forall_mem_cons.mpr ⟨ca_X6_knows_766 l, fun _ h => absurd h List.not_mem_nil⟩, fun _ h => absurd h List.not_mem_nil, fun _ h => absurd h List.not_mem_nil, fun _ h => absurd h List.not_mem_nil, fun _ h => absurd h List.not_mem_nil, fun _ h => absurd h List.not_mem_nil, by decide, rfl, rfl⟩ rfl (by decide)
/-! MarbleLawModel.takes(IIIZ)Z -/
noncomputable def kt_X6_takes : Nat → Option nk_I := fun pc => bif Nat.ble pc 44 then ((fun pc => bif Nat.ble pc 23 then ((fun pc => bif Nat.ble pc 12 then ((fun pc => bif Nat.ble pc 4 then ((fun pc => bif Nat.ble pc 0 then (bif Nat.beq pc 0 then some (.aload_n 0, 1, 1, [], 0) else none)
  else (bif Nat.ble pc 1 then (bif Nat.beq pc 1 then some (.getfield 179, 3, 4, [], 0) else none)
  else (bif Nat.beq pc 4 then some (.sipush 10000, 3, 7, [], 10000) else none))) : nk_F) pc
  else ((fun pc => bif Nat.ble pc 7 then (bif Nat.beq pc 7 then some (.invokestatic 164, 3, 10, [], 0) else none)
  else (bif Nat.ble pc 10 then (bif Nat.beq pc 10 then some (.istore 5, 2, 12, [], 0) else none)
  else (bif Nat.beq pc 12 then some (.iload_n 1, 1, 13, [], 0) else none))) : nk_F) pc) : nk_F) pc
  else ((fun pc => bif Nat.ble pc 17 then ((fun pc => bif Nat.ble pc 13 then (bif Nat.beq pc 13 then some (.iconst 1, 1, 14, [], 1) else none)
  else (bif Nat.ble pc 14 then (bif Nat.beq pc 14 then some (.if_icmp .ne 33, 3, 17, [47], 0) else none)
  else (bif Nat.beq pc 17 then some (.iload 5, 2, 19, [], 0) else none))) : nk_F) pc
  else ((fun pc => bif Nat.ble pc 19 then (bif Nat.beq pc 19 then some (.iconst 2, 1, 20, [], 2) else none)
  else (bif Nat.ble pc 20 then (bif Nat.beq pc 20 then some (.if_icmp .eq 19, 3, 23, [39], 0) else none)
  else (bif Nat.beq pc 23 then some (.iload 5, 2, 25, [], 0) else none))) : nk_F) pc) : nk_F) pc) : nk_F) pc
  else ((fun pc => bif Nat.ble pc 34 then ((fun pc => bif Nat.ble pc 29 then ((fun pc => bif Nat.ble pc 25 then (bif Nat.beq pc 25 then some (.iconst 3, 1, 26, [], 3) else none)
  else (bif Nat.ble pc 26 then (bif Nat.beq pc 26 then some (.if_icmp .ne 17, 3, 29, [43], 0) else none)
  else (bif Nat.beq pc 29 then some (.iload_n 3, 1, 30, [], 0) else none))) : nk_F) pc
  else ((fun pc => bif Nat.ble pc 30 then (bif Nat.beq pc 30 then some (.aload_n 0, 1, 31, [], 0) else none)
  else (bif Nat.ble pc 31 then (bif Nat.beq pc 31 then some (.getfield 47, 3, 34, [], 0) else none)
  else (bif Nat.beq pc 34 then some (.iload_n 2, 1, 35, [], 0) else none))) : nk_F) pc) : nk_F) pc
  else ((fun pc => bif Nat.ble pc 39 then ((fun pc => bif Nat.ble pc 35 then (bif Nat.beq pc 35 then some (.iaload, 1, 36, [], 0) else none)
  else (bif Nat.ble pc 36 then (bif Nat.beq pc 36 then some (.if_icmp .le 7, 3, 39, [43], 0) else none)
  else (bif Nat.beq pc 39 then some (.iconst 1, 1, 40, [], 1) else none))) : nk_F) pc
  else ((fun pc => bif Nat.ble pc 40 then (bif Nat.beq pc 40 then some (.goto 25, 3, 43, [65], 0) else none)
  else (bif Nat.ble pc 43 then (bif Nat.beq pc 43 then some (.iconst 0, 1, 44, [], 0) else none)
  else (bif Nat.beq pc 44 then some (.goto 21, 3, 47, [65], 0) else none))) : nk_F) pc) : nk_F) pc) : nk_F) pc) : nk_F) pc
  else ((fun pc => bif Nat.ble pc 69 then ((fun pc => bif Nat.ble pc 57 then ((fun pc => bif Nat.ble pc 51 then ((fun pc => bif Nat.ble pc 47 then (bif Nat.beq pc 47 then some (.aload_n 0, 1, 48, [], 0) else none)
  else (bif Nat.ble pc 48 then (bif Nat.beq pc 48 then some (.getfield 179, 3, 51, [], 0) else none)
  else (bif Nat.beq pc 51 then some (.bipush 10, 2, 53, [], 10) else none))) : nk_F) pc
  else ((fun pc => bif Nat.ble pc 53 then (bif Nat.beq pc 53 then some (.invokestatic 164, 3, 56, [], 0) else none)
  else (bif Nat.ble pc 56 then (bif Nat.beq pc 56 then some (.iconst 2, 1, 57, [], 2) else none)
  else (bif Nat.beq pc 57 then some (.if_icmp .ne 7, 3, 60, [64], 0) else none))) : nk_F) pc) : nk_F) pc
  else ((fun pc => bif Nat.ble pc 64 then ((fun pc => bif Nat.ble pc 60 then (bif Nat.beq pc 60 then some (.iconst 1, 1, 61, [], 1) else none)
  else (bif Nat.ble pc 61 then (bif Nat.beq pc 61 then some (.goto 4, 3, 64, [65], 0) else none)
  else (bif Nat.beq pc 64 then some (.iconst 0, 1, 65, [], 0) else none))) : nk_F) pc
  else ((fun pc => bif Nat.ble pc 65 then (bif Nat.beq pc 65 then some (.istore 6, 2, 67, [], 0) else none)
  else (bif Nat.ble pc 67 then (bif Nat.beq pc 67 then some (.iload 6, 2, 69, [], 0) else none)
  else (bif Nat.beq pc 69 then some (.ifCond .eq 24, 3, 72, [93], 0) else none))) : nk_F) pc) : nk_F) pc) : nk_F) pc
  else ((fun pc => bif Nat.ble pc 82 then ((fun pc => bif Nat.ble pc 77 then ((fun pc => bif Nat.ble pc 72 then (bif Nat.beq pc 72 then some (.iload 4, 2, 74, [], 0) else none)
  else (bif Nat.ble pc 74 then (bif Nat.beq pc 74 then some (.ifCond .eq 15, 3, 77, [89], 0) else none)
  else (bif Nat.beq pc 77 then some (.aload_n 0, 1, 78, [], 0) else none))) : nk_F) pc
  else ((fun pc => bif Nat.ble pc 78 then (bif Nat.beq pc 78 then some (.getfield 179, 3, 81, [], 0) else none)
  else (bif Nat.ble pc 81 then (bif Nat.beq pc 81 then some (.iconst 1, 1, 82, [], 1) else none)
  else (bif Nat.beq pc 82 then some (.invokestatic 164, 3, 85, [], 0) else none))) : nk_F) pc) : nk_F) pc
  else ((fun pc => bif Nat.ble pc 89 then ((fun pc => bif Nat.ble pc 85 then (bif Nat.beq pc 85 then some (.iconst 1, 1, 86, [], 1) else none)
  else (bif Nat.ble pc 86 then (bif Nat.beq pc 86 then some (.if_icmp .eq 7, 3, 89, [93], 0) else none)
  else (bif Nat.beq pc 89 then some (.iconst 1, 1, 90, [], 1) else none))) : nk_F) pc
  else ((fun pc => bif Nat.ble pc 90 then (bif Nat.beq pc 90 then some (.goto 4, 3, 93, [94], 0) else none)
  else (bif Nat.ble pc 93 then (bif Nat.beq pc 93 then some (.iconst 0, 1, 94, [], 0) else none)
  else (bif Nat.beq pc 94 then some (.ireturn, 1, 95, [], 0) else none))) : nk_F) pc) : nk_F) pc) : nk_F) pc) : nk_F) pc
noncomputable def kc_X6_takes : Nat → Option nk_I := nk_top 95 kt_X6_takes
noncomputable def kx_X6_takes : nk_T := ([(179, 6, 23, 0), (47, 6, 18, 4)], [(658, 2, 0, 0, 0, ev_X6_figure)], [], [], [], [], [], 2, false, 0, 0)
noncomputable def ev_X6_takes : nk_Ev := fun as h Q => nk_if (Nat.ble (nk_wd as) 7) (nk_ev kx_X6_takes kc_X6_takes 7 as h Q)
set_option maxRecDepth 100000 in
theorem ck_X6_takes : nk_chk cX6_takes kc_X6_takes 95 = true := nd_chk (by decide +kernel) (by decide +kernel)
set_option maxRecDepth 100000 in
set_option maxHeartbeats 4000000 in
theorem ca_X6_takes_658 (l : Launch) : nk_CallOk l { frames := 1, cells := 0, slots := 0, locals := 21 } RX6 cX6_takes 7 false 658 (2, 0, 0, 0, ev_X6_figure) := nk_callS (x := 164) (n := 2) (mt_X6_figure l) (nk_msc [(4, 183), (4, 184), (4, 185), (1, 7)] (by decide +kernel)) rfl rfl (by decide +kernel) ⟨by decide, by decide⟩
set_option maxRecDepth 100000 in
set_option maxHeartbeats 4000000 in
theorem mt_X6_takes (l : Launch) : nk_Met l yX6_takes cX6_takes 7 (some .boolean) { frames := 1, cells := 0, slots := 0, locals := 21 } false 0 0 ev_X6_takes :=
  nk_met nk_gok (plainFor_of_name (by decide)) ck_X6_takes (nk_top_out 95 kt_X6_takes) ⟨List.forall_mem_cons.mpr ⟨nk_fkc [(3, 216)] (by decide +kernel), List.forall_mem_cons.mpr ⟨nk_fkc [(3, 211)] (by decide +kernel), fun _ h => absurd h List.not_mem_nil⟩⟩, List.forall_mem_cons.mpr ⟨ca_X6_takes_658 l, fun _ h => absurd h List.not_mem_nil⟩, fun _ h => absurd h List.not_mem_nil, fun _ h => absurd h List.not_mem_nil, fun _ h => absurd h List.not_mem_nil, fun _ h => absurd h List.not_mem_nil, fun _ h => absurd h List.not_mem_nil, by decide, rfl, rfl⟩ rfl (by decide)
/-! MarbleLawModel.comes(IIII)V -/
noncomputable def kt_X6_comes : Nat → Option nk_I := fun pc => bif Nat.ble pc 99 then ((fun pc => bif Nat.ble pc 54 then ((fun pc => bif Nat.ble pc 27 then ((fun pc => bif Nat.ble pc 12 then ((fun pc => bif Nat.ble pc 2 then ((fun pc => bif Nat.ble pc 0 then (bif Nat.beq pc 0 then some (.iload_n 1, 1, 1, [], 0) else none)
  else (bif Nat.ble pc 1 then (bif Nat.beq pc 1 then some (.iconst 2, 1, 2, [], 2) else none)
  else (bif Nat.beq pc 2 then some (.if_icmp .ne 16, 3, 5, [18], 0) else none))) : nk_F) pc
  else ((fun pc => bif Nat.ble pc 6 then (bif Nat.ble pc 5 then (bif Nat.beq pc 5 then some (.aload_n 0, 1, 6, [], 0) else none)
  else (bif Nat.beq pc 6 then some (.getfield 179, 3, 9, [], 0) else none))
  else (bif Nat.ble pc 9 then (bif Nat.beq pc 9 then some (.sipush 1000, 3, 12, [], 1000) else none)
  else (bif Nat.beq pc 12 then some (.invokestatic 164, 3, 15, [], 0) else none))) : nk_F) pc) : nk_F) pc
  else ((fun pc => bif Nat.ble pc 19 then ((fun pc => bif Nat.ble pc 15 then (bif Nat.beq pc 15 then some (.goto 21, 3, 18, [36], 0) else none)
  else (bif Nat.ble pc 18 then (bif Nat.beq pc 18 then some (.iload_n 1, 1, 19, [], 0) else none)
  else (bif Nat.beq pc 19 then some (.iconst 3, 1, 20, [], 3) else none))) : nk_F) pc
  else ((fun pc => bif Nat.ble pc 23 then (bif Nat.ble pc 20 then (bif Nat.beq pc 20 then some (.if_icmp .ne 15, 3, 23, [35], 0) else none)
  else (bif Nat.beq pc 23 then some (.aload_n 0, 1, 24, [], 0) else none))
  else (bif Nat.ble pc 24 then (bif Nat.beq pc 24 then some (.getfield 179, 3, 27, [], 0) else none)
  else (bif Nat.beq pc 27 then some (.bipush 100, 2, 29, [], 100) else none))) : nk_F) pc) : nk_F) pc) : nk_F) pc
  else ((fun pc => bif Nat.ble pc 40 then ((fun pc => bif Nat.ble pc 35 then ((fun pc => bif Nat.ble pc 29 then (bif Nat.beq pc 29 then some (.invokestatic 164, 3, 32, [], 0) else none)
  else (bif Nat.ble pc 32 then (bif Nat.beq pc 32 then some (.goto 4, 3, 35, [36], 0) else none)
  else (bif Nat.beq pc 35 then some (.iconst 0, 1, 36, [], 0) else none))) : nk_F) pc
  else ((fun pc => bif Nat.ble pc 38 then (bif Nat.ble pc 36 then (bif Nat.beq pc 36 then some (.istore 5, 2, 38, [], 0) else none)
  else (bif Nat.beq pc 38 then some (.iload_n 1, 1, 39, [], 0) else none))
  else (bif Nat.ble pc 39 then (bif Nat.beq pc 39 then some (.iconst 2, 1, 40, [], 2) else none)
  else (bif Nat.beq pc 40 then some (.if_icmp .ne 9, 3, 43, [49], 0) else none))) : nk_F) pc) : nk_F) pc
  else ((fun pc => bif Nat.ble pc 46 then ((fun pc => bif Nat.ble pc 43 then (bif Nat.beq pc 43 then some (.iload 5, 2, 45, [], 0) else none)
  else (bif Nat.ble pc 45 then (bif Nat.beq pc 45 then some (.iconst 2, 1, 46, [], 2) else none)
  else (bif Nat.beq pc 46 then some (.if_icmp .eq 14, 3, 49, [60], 0) else none))) : nk_F) pc
  else ((fun pc => bif Nat.ble pc 50 then (bif Nat.ble pc 49 then (bif Nat.beq pc 49 then some (.iload_n 1, 1, 50, [], 0) else none)
  else (bif Nat.beq pc 50 then some (.iconst 3, 1, 51, [], 3) else none))
  else (bif Nat.ble pc 51 then (bif Nat.beq pc 51 then some (.if_icmp .ne 30, 3, 54, [81], 0) else none)
  else (bif Nat.beq pc 54 then some (.iload 5, 2, 56, [], 0) else none))) : nk_F) pc) : nk_F) pc) : nk_F) pc) : nk_F) pc
  else ((fun pc => bif Nat.ble pc 75 then ((fun pc => bif Nat.ble pc 64 then ((fun pc => bif Nat.ble pc 60 then ((fun pc => bif Nat.ble pc 56 then (bif Nat.beq pc 56 then some (.iconst 2, 1, 57, [], 2) else none)
  else (bif Nat.ble pc 57 then (bif Nat.beq pc 57 then some (.if_icmp .ne 24, 3, 60, [81], 0) else none)
  else (bif Nat.beq pc 60 then some (.aload_n 0, 1, 61, [], 0) else none))) : nk_F) pc
  else ((fun pc => bif Nat.ble pc 62 then (bif Nat.ble pc 61 then (bif Nat.beq pc 61 then some (.iload_n 2, 1, 62, [], 0) else none)
  else (bif Nat.beq pc 62 then some (.iload_n 3, 1, 63, [], 0) else none))
  else (bif Nat.ble pc 63 then (bif Nat.beq pc 63 then some (.aload_n 0, 1, 64, [], 0) else none)
  else (bif Nat.beq pc 64 then some (.getfield 47, 3, 67, [], 0) else none))) : nk_F) pc) : nk_F) pc
  else ((fun pc => bif Nat.ble pc 69 then ((fun pc => bif Nat.ble pc 67 then (bif Nat.beq pc 67 then some (.iload_n 2, 1, 68, [], 0) else none)
  else (bif Nat.ble pc 68 then (bif Nat.beq pc 68 then some (.iaload, 1, 69, [], 0) else none)
  else (bif Nat.beq pc 69 then some (.aload_n 0, 1, 70, [], 0) else none))) : nk_F) pc
  else ((fun pc => bif Nat.ble pc 73 then (bif Nat.ble pc 70 then (bif Nat.beq pc 70 then some (.getfield 47, 3, 73, [], 0) else none)
  else (bif Nat.beq pc 73 then some (.iload_n 3, 1, 74, [], 0) else none))
  else (bif Nat.ble pc 74 then (bif Nat.beq pc 74 then some (.iaload, 1, 75, [], 0) else none)
  else (bif Nat.beq pc 75 then some (.invokevirtual 195, 3, 78, [], 0) else none))) : nk_F) pc) : nk_F) pc) : nk_F) pc
  else ((fun pc => bif Nat.ble pc 88 then ((fun pc => bif Nat.ble pc 82 then ((fun pc => bif Nat.ble pc 78 then (bif Nat.beq pc 78 then some (.goto 26, 3, 81, [104], 0) else none)
  else (bif Nat.ble pc 81 then (bif Nat.beq pc 81 then some (.iload_n 1, 1, 82, [], 0) else none)
  else (bif Nat.beq pc 82 then some (.iconst 3, 1, 83, [], 3) else none))) : nk_F) pc
  else ((fun pc => bif Nat.ble pc 86 then (bif Nat.ble pc 83 then (bif Nat.beq pc 83 then some (.if_icmp .ne 21, 3, 86, [104], 0) else none)
  else (bif Nat.beq pc 86 then some (.aload_n 0, 1, 87, [], 0) else none))
  else (bif Nat.ble pc 87 then (bif Nat.beq pc 87 then some (.iload_n 2, 1, 88, [], 0) else none)
  else (bif Nat.beq pc 88 then some (.iload_n 3, 1, 89, [], 0) else none))) : nk_F) pc) : nk_F) pc
  else ((fun pc => bif Nat.ble pc 93 then ((fun pc => bif Nat.ble pc 89 then (bif Nat.beq pc 89 then some (.aload_n 0, 1, 90, [], 0) else none)
  else (bif Nat.ble pc 90 then (bif Nat.beq pc 90 then some (.getfield 50, 3, 93, [], 0) else none)
  else (bif Nat.beq pc 93 then some (.iload_n 2, 1, 94, [], 0) else none))) : nk_F) pc
  else ((fun pc => bif Nat.ble pc 95 then (bif Nat.ble pc 94 then (bif Nat.beq pc 94 then some (.iaload, 1, 95, [], 0) else none)
  else (bif Nat.beq pc 95 then some (.aload_n 0, 1, 96, [], 0) else none))
  else (bif Nat.ble pc 96 then (bif Nat.beq pc 96 then some (.getfield 50, 3, 99, [], 0) else none)
  else (bif Nat.beq pc 99 then some (.iload_n 3, 1, 100, [], 0) else none))) : nk_F) pc) : nk_F) pc) : nk_F) pc) : nk_F) pc) : nk_F) pc
  else ((fun pc => bif Nat.ble pc 140 then ((fun pc => bif Nat.ble pc 120 then ((fun pc => bif Nat.ble pc 110 then ((fun pc => bif Nat.ble pc 104 then ((fun pc => bif Nat.ble pc 100 then (bif Nat.beq pc 100 then some (.iaload, 1, 101, [], 0) else none)
  else (bif Nat.ble pc 101 then (bif Nat.beq pc 101 then some (.invokevirtual 195, 3, 104, [], 0) else none)
  else (bif Nat.beq pc 104 then some (.aload_n 0, 1, 105, [], 0) else none))) : nk_F) pc
  else ((fun pc => bif Nat.ble pc 108 then (bif Nat.ble pc 105 then (bif Nat.beq pc 105 then some (.getfield 47, 3, 108, [], 0) else none)
  else (bif Nat.beq pc 108 then some (.iload_n 2, 1, 109, [], 0) else none))
  else (bif Nat.ble pc 109 then (bif Nat.beq pc 109 then some (.dup2, 1, 110, [], 0) else none)
  else (bif Nat.beq pc 110 then some (.iaload, 1, 111, [], 0) else none))) : nk_F) pc) : nk_F) pc
  else ((fun pc => bif Nat.ble pc 115 then ((fun pc => bif Nat.ble pc 111 then (bif Nat.beq pc 111 then some (.aload_n 0, 1, 112, [], 0) else none)
  else (bif Nat.ble pc 112 then (bif Nat.beq pc 112 then some (.getfield 47, 3, 115, [], 0) else none)
  else (bif Nat.beq pc 115 then some (.iload_n 3, 1, 116, [], 0) else none))) : nk_F) pc
  else ((fun pc => bif Nat.ble pc 117 then (bif Nat.ble pc 116 then (bif Nat.beq pc 116 then some (.iaload, 1, 117, [], 0) else none)
  else (bif Nat.beq pc 117 then some (.iload 4, 2, 119, [], 0) else none))
  else (bif Nat.ble pc 119 then (bif Nat.beq pc 119 then some (.iadd, 1, 120, [], 0) else none)
  else (bif Nat.beq pc 120 then some (.iadd, 1, 121, [], 0) else none))) : nk_F) pc) : nk_F) pc) : nk_F) pc
  else ((fun pc => bif Nat.ble pc 129 then ((fun pc => bif Nat.ble pc 123 then ((fun pc => bif Nat.ble pc 121 then (bif Nat.beq pc 121 then some (.iastore, 1, 122, [], 0) else none)
  else (bif Nat.ble pc 122 then (bif Nat.beq pc 122 then some (.aload_n 0, 1, 123, [], 0) else none)
  else (bif Nat.beq pc 123 then some (.getfield 50, 3, 126, [], 0) else none))) : nk_F) pc
  else ((fun pc => bif Nat.ble pc 127 then (bif Nat.ble pc 126 then (bif Nat.beq pc 126 then some (.iload_n 2, 1, 127, [], 0) else none)
  else (bif Nat.beq pc 127 then some (.dup2, 1, 128, [], 0) else none))
  else (bif Nat.ble pc 128 then (bif Nat.beq pc 128 then some (.iaload, 1, 129, [], 0) else none)
  else (bif Nat.beq pc 129 then some (.iload_n 1, 1, 130, [], 0) else none))) : nk_F) pc) : nk_F) pc
  else ((fun pc => bif Nat.ble pc 134 then ((fun pc => bif Nat.ble pc 130 then (bif Nat.beq pc 130 then some (.iconst 3, 1, 131, [], 3) else none)
  else (bif Nat.ble pc 131 then (bif Nat.beq pc 131 then some (.if_icmp .ne 12, 3, 134, [143], 0) else none)
  else (bif Nat.beq pc 134 then some (.aload_n 0, 1, 135, [], 0) else none))) : nk_F) pc
  else ((fun pc => bif Nat.ble pc 138 then (bif Nat.ble pc 135 then (bif Nat.beq pc 135 then some (.getfield 50, 3, 138, [], 0) else none)
  else (bif Nat.beq pc 138 then some (.iload_n 3, 1, 139, [], 0) else none))
  else (bif Nat.ble pc 139 then (bif Nat.beq pc 139 then some (.iaload, 1, 140, [], 0) else none)
  else (bif Nat.beq pc 140 then some (.goto 4, 3, 143, [144], 0) else none))) : nk_F) pc) : nk_F) pc) : nk_F) pc) : nk_F) pc
  else ((fun pc => bif Nat.ble pc 165 then ((fun pc => bif Nat.ble pc 151 then ((fun pc => bif Nat.ble pc 145 then ((fun pc => bif Nat.ble pc 143 then (bif Nat.beq pc 143 then some (.iconst 0, 1, 144, [], 0) else none)
  else (bif Nat.ble pc 144 then (bif Nat.beq pc 144 then some (.iadd, 1, 145, [], 0) else none)
  else (bif Nat.beq pc 145 then some (.iastore, 1, 146, [], 0) else none))) : nk_F) pc
  else ((fun pc => bif Nat.ble pc 147 then (bif Nat.ble pc 146 then (bif Nat.beq pc 146 then some (.iconst 0, 1, 147, [], 0) else none)
  else (bif Nat.beq pc 147 then some (.istore 6, 2, 149, [], 0) else none))
  else (bif Nat.ble pc 149 then (bif Nat.beq pc 149 then some (.iload 6, 2, 151, [], 0) else none)
  else (bif Nat.beq pc 151 then some (.aload_n 0, 1, 152, [], 0) else none))) : nk_F) pc) : nk_F) pc
  else ((fun pc => bif Nat.ble pc 158 then ((fun pc => bif Nat.ble pc 152 then (bif Nat.beq pc 152 then some (.getfield 120, 3, 155, [], 0) else none)
  else (bif Nat.ble pc 155 then (bif Nat.beq pc 155 then some (.if_icmp .ge 38, 3, 158, [193], 0) else none)
  else (bif Nat.beq pc 158 then some (.aload_n 0, 1, 159, [], 0) else none))) : nk_F) pc
  else ((fun pc => bif Nat.ble pc 162 then (bif Nat.ble pc 159 then (bif Nat.beq pc 159 then some (.getfield 41, 3, 162, [], 0) else none)
  else (bif Nat.beq pc 162 then some (.iload 6, 2, 164, [], 0) else none))
  else (bif Nat.ble pc 164 then (bif Nat.beq pc 164 then some (.aload_n 0, 1, 165, [], 0) else none)
  else (bif Nat.beq pc 165 then some (.getfield 41, 3, 168, [], 0) else none))) : nk_F) pc) : nk_F) pc) : nk_F) pc
  else ((fun pc => bif Nat.ble pc 179 then ((fun pc => bif Nat.ble pc 171 then ((fun pc => bif Nat.ble pc 168 then (bif Nat.beq pc 168 then some (.iload 6, 2, 170, [], 0) else none)
  else (bif Nat.ble pc 170 then (bif Nat.beq pc 170 then some (.iaload, 1, 171, [], 0) else none)
  else (bif Nat.beq pc 171 then some (.iload_n 3, 1, 172, [], 0) else none))) : nk_F) pc
  else ((fun pc => bif Nat.ble pc 175 then (bif Nat.ble pc 172 then (bif Nat.beq pc 172 then some (.if_icmp .ne 7, 3, 175, [179], 0) else none)
  else (bif Nat.beq pc 175 then some (.iload_n 2, 1, 176, [], 0) else none))
  else (bif Nat.ble pc 176 then (bif Nat.beq pc 176 then some (.goto 10, 3, 179, [186], 0) else none)
  else (bif Nat.beq pc 179 then some (.aload_n 0, 1, 180, [], 0) else none))) : nk_F) pc) : nk_F) pc
  else ((fun pc => bif Nat.ble pc 185 then ((fun pc => bif Nat.ble pc 180 then (bif Nat.beq pc 180 then some (.getfield 41, 3, 183, [], 0) else none)
  else (bif Nat.ble pc 183 then (bif Nat.beq pc 183 then some (.iload 6, 2, 185, [], 0) else none)
  else (bif Nat.beq pc 185 then some (.iaload, 1, 186, [], 0) else none))) : nk_F) pc
  else ((fun pc => bif Nat.ble pc 187 then (bif Nat.ble pc 186 then (bif Nat.beq pc 186 then some (.iastore, 1, 187, [], 0) else none)
  else (bif Nat.beq pc 187 then some (.iinc 6 1, 3, 190, [], 1) else none))
  else (bif Nat.ble pc 190 then (bif Nat.beq pc 190 then some (.goto (-41), 3, 193, [149], 0) else none)
  else (bif Nat.beq pc 193 then some (.return_, 1, 194, [], 0) else none))) : nk_F) pc) : nk_F) pc) : nk_F) pc) : nk_F) pc) : nk_F) pc
noncomputable def kc_X6_comes : Nat → Option nk_I := nk_top 194 kt_X6_comes
noncomputable def kx_X6_comes : nk_T := ([(179, 6, 23, 0), (47, 6, 18, 4), (50, 6, 19, 4), (120, 6, 10, 0), (41, 6, 16, 4)], [(658, 2, 0, 0, 0, ev_X6_figure), (780, 5, 7, 0, 0, ev_X6_mixes)], [], [], [], [], [], 0, false, 0, 0)
noncomputable def ev_X6_comes : nk_Ev := fun as h Q => nk_if (Nat.ble (nk_wd as) 7) (nk_ev kx_X6_comes kc_X6_comes 7 as h Q)
set_option maxRecDepth 100000 in
theorem ck_X6_comes : nk_chk cX6_comes kc_X6_comes 194 = true := nd_chk (by decide +kernel) (by decide +kernel)
set_option maxRecDepth 100000 in
set_option maxHeartbeats 4000000 in
theorem ca_X6_comes_658 (l : Launch) : nk_CallOk l { frames := 2, cells := 0, slots := 0, locals := 60 } RX6 cX6_comes 7 false 658 (2, 0, 0, 0, ev_X6_figure) := nk_callS (x := 164) (n := 2) (mt_X6_figure l) (nk_msc [(4, 183), (4, 184), (4, 185), (1, 7)] (by decide +kernel)) rfl rfl (by decide +kernel) ⟨by decide, by decide⟩
set_option maxRecDepth 100000 in
set_option maxHeartbeats 4000000 in
theorem ca_X6_comes_780 (l : Launch) : nk_CallOk l { frames := 2, cells := 0, slots := 0, locals := 60 } RX6 cX6_comes 7 false 780 (5, 7, 0, 0, ev_X6_mixes) := nk_callV (x := 195) (n := 4) (ci := 6) (r := (RX6, TX6, 32)) (mt_X6_mixes l) rfl (nk_msc [(4, 235), (4, 236), (4, 237), (4, 238), (0, 45), (1, 7)] (by decide +kernel)) rfl rfl (by decide +kernel) ⟨by decide, by decide⟩
set_option maxRecDepth 100000 in
set_option maxHeartbeats 4000000 in
theorem mt_X6_comes (l : Launch) : nk_Met l yX6_comes cX6_comes 7 none { frames := 2, cells := 0, slots := 0, locals := 60 } false 0 0 ev_X6_comes :=
  nk_met nk_gok (plainFor_of_name (by decide)) ck_X6_comes (nk_top_out 194 kt_X6_comes) ⟨List.forall_mem_cons.mpr ⟨nk_fkc [(3, 216)] (by decide +kernel), List.forall_mem_cons.mpr ⟨nk_fkc [(3, 211)] (by decide +kernel), List.forall_mem_cons.mpr ⟨nk_fkc [(3, 212)] (by decide +kernel), List.forall_mem_cons.mpr ⟨nk_fkc [(3, 203)] (by decide +kernel), List.forall_mem_cons.mpr ⟨nk_fkc [(3, 209)] (by decide +kernel), fun _ h => absurd h List.not_mem_nil⟩⟩⟩⟩⟩, List.forall_mem_cons.mpr ⟨ca_X6_comes_658 l, List.forall_mem_cons.mpr ⟨ca_X6_comes_780 l, fun _ h => absurd h List.not_mem_nil⟩⟩, fun _ h => absurd h List.not_mem_nil, fun _ h => absurd h List.not_mem_nil, fun _ h => absurd h List.not_mem_nil, fun _ h => absurd h List.not_mem_nil, fun _ h => absurd h List.not_mem_nil, by decide, rfl, rfl⟩ rfl (by decide)
/-! MarbleLawModel.makes(IIIIIZ)V -/
noncomputable def kt_X6_makes : Nat → Option nk_I := fun pc => bif Nat.ble pc 69 then ((fun pc => bif Nat.ble pc 34 then ((fun pc => bif Nat.ble pc 16 then ((fun pc => bif Nat.ble pc 6 then ((fun pc => bif Nat.ble pc 1 then (bif Nat.ble pc 0 then (bif Nat.beq pc 0 then some (.aload_n 0, 1, 1, [], 0) else none)
  else (bif Nat.beq pc 1 then some (.getfield 41, 3, 4, [], 0) else none))
  else ((fun pc => bif Nat.ble pc 4 then (bif Nat.beq pc 4 then some (.iload_n 2, 1, 5, [], 0) else none)
  else (bif Nat.ble pc 5 then (bif Nat.beq pc 5 then some (.iaload, 1, 6, [], 0) else none)
  else (bif Nat.beq pc 6 then some (.istore 7, 2, 8, [], 0) else none))) : nk_F) pc) : nk_F) pc
  else ((fun pc => bif Nat.ble pc 9 then (bif Nat.ble pc 8 then (bif Nat.beq pc 8 then some (.iload_n 1, 1, 9, [], 0) else none)
  else (bif Nat.beq pc 9 then some (.invokestatic 137, 3, 12, [], 0) else none))
  else ((fun pc => bif Nat.ble pc 12 then (bif Nat.beq pc 12 then some (.ifCond .eq 30, 3, 15, [42], 0) else none)
  else (bif Nat.ble pc 15 then (bif Nat.beq pc 15 then some (.aload_n 0, 1, 16, [], 0) else none)
  else (bif Nat.beq pc 16 then some (.getfield 41, 3, 19, [], 0) else none))) : nk_F) pc) : nk_F) pc) : nk_F) pc
  else ((fun pc => bif Nat.ble pc 26 then ((fun pc => bif Nat.ble pc 20 then (bif Nat.ble pc 19 then (bif Nat.beq pc 19 then some (.iload_n 3, 1, 20, [], 0) else none)
  else (bif Nat.beq pc 20 then some (.iaload, 1, 21, [], 0) else none))
  else ((fun pc => bif Nat.ble pc 21 then (bif Nat.beq pc 21 then some (.iload 7, 2, 23, [], 0) else none)
  else (bif Nat.ble pc 23 then (bif Nat.beq pc 23 then some (.if_icmp .eq 19, 3, 26, [42], 0) else none)
  else (bif Nat.beq pc 26 then some (.aload_n 0, 1, 27, [], 0) else none))) : nk_F) pc) : nk_F) pc
  else ((fun pc => bif Nat.ble pc 28 then (bif Nat.ble pc 27 then (bif Nat.beq pc 27 then some (.iload_n 1, 1, 28, [], 0) else none)
  else (bif Nat.beq pc 28 then some (.iload 7, 2, 30, [], 0) else none))
  else ((fun pc => bif Nat.ble pc 30 then (bif Nat.beq pc 30 then some (.aload_n 0, 1, 31, [], 0) else none)
  else (bif Nat.ble pc 31 then (bif Nat.beq pc 31 then some (.getfield 41, 3, 34, [], 0) else none)
  else (bif Nat.beq pc 34 then some (.iload_n 3, 1, 35, [], 0) else none))) : nk_F) pc) : nk_F) pc) : nk_F) pc) : nk_F) pc
  else ((fun pc => bif Nat.ble pc 49 then ((fun pc => bif Nat.ble pc 42 then ((fun pc => bif Nat.ble pc 36 then (bif Nat.ble pc 35 then (bif Nat.beq pc 35 then some (.iaload, 1, 36, [], 0) else none)
  else (bif Nat.beq pc 36 then some (.iload 5, 2, 38, [], 0) else none))
  else ((fun pc => bif Nat.ble pc 38 then (bif Nat.beq pc 38 then some (.invokevirtual 199, 3, 41, [], 0) else none)
  else (bif Nat.ble pc 41 then (bif Nat.beq pc 41 then some (.return_, 1, 42, [], 0) else none)
  else (bif Nat.beq pc 42 then some (.iload_n 1, 1, 43, [], 0) else none))) : nk_F) pc) : nk_F) pc
  else ((fun pc => bif Nat.ble pc 44 then (bif Nat.ble pc 43 then (bif Nat.beq pc 43 then some (.iconst 1, 1, 44, [], 1) else none)
  else (bif Nat.beq pc 44 then some (.if_icmp .eq 8, 3, 47, [52], 0) else none))
  else ((fun pc => bif Nat.ble pc 47 then (bif Nat.beq pc 47 then some (.iload_n 1, 1, 48, [], 0) else none)
  else (bif Nat.ble pc 48 then (bif Nat.beq pc 48 then some (.iconst 4, 1, 49, [], 4) else none)
  else (bif Nat.beq pc 49 then some (.if_icmp .ne 48, 3, 52, [97], 0) else none))) : nk_F) pc) : nk_F) pc) : nk_F) pc
  else ((fun pc => bif Nat.ble pc 58 then ((fun pc => bif Nat.ble pc 53 then (bif Nat.ble pc 52 then (bif Nat.beq pc 52 then some (.aload_n 0, 1, 53, [], 0) else none)
  else (bif Nat.beq pc 53 then some (.iload_n 1, 1, 54, [], 0) else none))
  else ((fun pc => bif Nat.ble pc 54 then (bif Nat.beq pc 54 then some (.iload 7, 2, 56, [], 0) else none)
  else (bif Nat.ble pc 56 then (bif Nat.beq pc 56 then some (.iload 5, 2, 58, [], 0) else none)
  else (bif Nat.beq pc 58 then some (.iload 6, 2, 60, [], 0) else none))) : nk_F) pc) : nk_F) pc
  else ((fun pc => bif Nat.ble pc 63 then (bif Nat.ble pc 60 then (bif Nat.beq pc 60 then some (.invokevirtual 202, 3, 63, [], 0) else none)
  else (bif Nat.beq pc 63 then some (.ifCond .eq 11, 3, 66, [74], 0) else none))
  else ((fun pc => bif Nat.ble pc 66 then (bif Nat.beq pc 66 then some (.aload_n 0, 1, 67, [], 0) else none)
  else (bif Nat.ble pc 67 then (bif Nat.beq pc 67 then some (.iload 7, 2, 69, [], 0) else none)
  else (bif Nat.beq pc 69 then some (.iload 4, 2, 71, [], 0) else none))) : nk_F) pc) : nk_F) pc) : nk_F) pc) : nk_F) pc) : nk_F) pc
  else ((fun pc => bif Nat.ble pc 105 then ((fun pc => bif Nat.ble pc 89 then ((fun pc => bif Nat.ble pc 80 then ((fun pc => bif Nat.ble pc 74 then (bif Nat.ble pc 71 then (bif Nat.beq pc 71 then some (.invokevirtual 206, 3, 74, [], 0) else none)
  else (bif Nat.beq pc 74 then some (.aload_n 0, 1, 75, [], 0) else none))
  else ((fun pc => bif Nat.ble pc 75 then (bif Nat.beq pc 75 then some (.getfield 44, 3, 78, [], 0) else none)
  else (bif Nat.ble pc 78 then (bif Nat.beq pc 78 then some (.iload 7, 2, 80, [], 0) else none)
  else (bif Nat.beq pc 80 then some (.iload_n 1, 1, 81, [], 0) else none))) : nk_F) pc) : nk_F) pc
  else ((fun pc => bif Nat.ble pc 82 then (bif Nat.ble pc 81 then (bif Nat.beq pc 81 then some (.iconst 1, 1, 82, [], 1) else none)
  else (bif Nat.beq pc 82 then some (.if_icmp .ne 7, 3, 85, [89], 0) else none))
  else ((fun pc => bif Nat.ble pc 85 then (bif Nat.beq pc 85 then some (.iload_n 3, 1, 86, [], 0) else none)
  else (bif Nat.ble pc 86 then (bif Nat.beq pc 86 then some (.goto 10, 3, 89, [96], 0) else none)
  else (bif Nat.beq pc 89 then some (.aload_n 0, 1, 90, [], 0) else none))) : nk_F) pc) : nk_F) pc) : nk_F) pc
  else ((fun pc => bif Nat.ble pc 97 then ((fun pc => bif Nat.ble pc 93 then (bif Nat.ble pc 90 then (bif Nat.beq pc 90 then some (.getfield 44, 3, 93, [], 0) else none)
  else (bif Nat.beq pc 93 then some (.iload 7, 2, 95, [], 0) else none))
  else ((fun pc => bif Nat.ble pc 95 then (bif Nat.beq pc 95 then some (.iaload, 1, 96, [], 0) else none)
  else (bif Nat.ble pc 96 then (bif Nat.beq pc 96 then some (.iastore, 1, 97, [], 0) else none)
  else (bif Nat.beq pc 97 then some (.aload_n 0, 1, 98, [], 0) else none))) : nk_F) pc) : nk_F) pc
  else ((fun pc => bif Nat.ble pc 101 then (bif Nat.ble pc 98 then (bif Nat.beq pc 98 then some (.getfield 50, 3, 101, [], 0) else none)
  else (bif Nat.beq pc 101 then some (.iload 7, 2, 103, [], 0) else none))
  else ((fun pc => bif Nat.ble pc 103 then (bif Nat.beq pc 103 then some (.dup2, 1, 104, [], 0) else none)
  else (bif Nat.ble pc 104 then (bif Nat.beq pc 104 then some (.iaload, 1, 105, [], 0) else none)
  else (bif Nat.beq pc 105 then some (.iload_n 1, 1, 106, [], 0) else none))) : nk_F) pc) : nk_F) pc) : nk_F) pc) : nk_F) pc
  else ((fun pc => bif Nat.ble pc 122 then ((fun pc => bif Nat.ble pc 115 then ((fun pc => bif Nat.ble pc 108 then (bif Nat.ble pc 106 then (bif Nat.beq pc 106 then some (.bipush 6, 2, 108, [], 6) else none)
  else (bif Nat.beq pc 108 then some (.if_icmp .ne 7, 3, 111, [115], 0) else none))
  else ((fun pc => bif Nat.ble pc 111 then (bif Nat.beq pc 111 then some (.iload_n 3, 1, 112, [], 0) else none)
  else (bif Nat.ble pc 112 then (bif Nat.beq pc 112 then some (.goto 4, 3, 115, [116], 0) else none)
  else (bif Nat.beq pc 115 then some (.iconst 0, 1, 116, [], 0) else none))) : nk_F) pc) : nk_F) pc
  else ((fun pc => bif Nat.ble pc 117 then (bif Nat.ble pc 116 then (bif Nat.beq pc 116 then some (.iadd, 1, 117, [], 0) else none)
  else (bif Nat.beq pc 117 then some (.iastore, 1, 118, [], 0) else none))
  else ((fun pc => bif Nat.ble pc 118 then (bif Nat.beq pc 118 then some (.aload_n 0, 1, 119, [], 0) else none)
  else (bif Nat.ble pc 119 then (bif Nat.beq pc 119 then some (.getfield 47, 3, 122, [], 0) else none)
  else (bif Nat.beq pc 122 then some (.iload 7, 2, 124, [], 0) else none))) : nk_F) pc) : nk_F) pc) : nk_F) pc
  else ((fun pc => bif Nat.ble pc 130 then ((fun pc => bif Nat.ble pc 125 then (bif Nat.ble pc 124 then (bif Nat.beq pc 124 then some (.dup2, 1, 125, [], 0) else none)
  else (bif Nat.beq pc 125 then some (.iaload, 1, 126, [], 0) else none))
  else ((fun pc => bif Nat.ble pc 126 then (bif Nat.beq pc 126 then some (.iload_n 1, 1, 127, [], 0) else none)
  else (bif Nat.ble pc 127 then (bif Nat.beq pc 127 then some (.ifCond .ne 7, 3, 130, [134], 0) else none)
  else (bif Nat.beq pc 130 then some (.iconst 0, 1, 131, [], 0) else none))) : nk_F) pc) : nk_F) pc
  else ((fun pc => bif Nat.ble pc 134 then (bif Nat.ble pc 131 then (bif Nat.beq pc 131 then some (.goto 5, 3, 134, [136], 0) else none)
  else (bif Nat.beq pc 134 then some (.iload 5, 2, 136, [], 0) else none))
  else ((fun pc => bif Nat.ble pc 136 then (bif Nat.beq pc 136 then some (.iadd, 1, 137, [], 0) else none)
  else (bif Nat.ble pc 137 then (bif Nat.beq pc 137 then some (.iastore, 1, 138, [], 0) else none)
  else (bif Nat.beq pc 138 then some (.return_, 1, 139, [], 0) else none))) : nk_F) pc) : nk_F) pc) : nk_F) pc) : nk_F) pc) : nk_F) pc
noncomputable def kc_X6_makes : Nat → Option nk_I := nk_top 139 kt_X6_makes
noncomputable def kx_X6_makes : nk_T := ([(41, 6, 16, 4), (44, 6, 17, 4), (50, 6, 19, 4), (47, 6, 18, 4)], [(550, 1, 0, 0, 0, ev_X6_brings), (796, 5, 7, 0, 0, ev_X6_comes), (808, 5, 7, 0, 0, ev_X6_takes), (824, 3, 7, 0, 0, ev_X6_allTo)], [], [], [], [], [], 0, false, 0, 0)
noncomputable def ev_X6_makes : nk_Ev := fun as h Q => nk_if (Nat.ble (nk_wd as) 8) (nk_ev kx_X6_makes kc_X6_makes 8 as h Q)
set_option maxRecDepth 100000 in
theorem ck_X6_makes : nk_chk cX6_makes kc_X6_makes 139 = true := nd_chk (by decide +kernel) (by decide +kernel)
set_option maxRecDepth 100000 in
set_option maxHeartbeats 4000000 in
theorem ca_X6_makes_550 (l : Launch) : nk_CallOk l { frames := 3, cells := 0, slots := 0, locals := 86 } RX6 cX6_makes 8 false 550 (1, 0, 0, 0, ev_X6_brings) := nk_callS (x := 137) (n := 1) (mt_X6_brings l) (nk_msc [(4, 146), (4, 147), (4, 148), (1, 7)] (by decide +kernel)) rfl rfl (by decide +kernel) ⟨by decide, by decide⟩
set_option maxRecDepth 100000 in
set_option maxHeartbeats 4000000 in
theorem ca_X6_makes_796 (l : Launch) : nk_CallOk l { frames := 3, cells := 0, slots := 0, locals := 86 } RX6 cX6_makes 8 false 796 (5, 7, 0, 0, ev_X6_comes) := nk_callV (x := 199) (n := 4) (ci := 6) (r := (RX6, TX6, 32)) (mt_X6_comes l) rfl (nk_msc [(4, 231), (4, 232), (4, 233), (4, 234), (0, 44), (1, 7)] (by decide +kernel)) rfl rfl (by decide +kernel) ⟨by decide, by decide⟩
set_option maxRecDepth 100000 in
set_option maxHeartbeats 4000000 in
theorem ca_X6_makes_808 (l : Launch) : nk_CallOk l { frames := 3, cells := 0, slots := 0, locals := 86 } RX6 cX6_makes 8 false 808 (5, 7, 0, 0, ev_X6_takes) := nk_callV (x := 202) (n := 4) (ci := 6) (r := (RX6, TX6, 32)) (mt_X6_takes l) rfl (nk_msc [(5, 3), (5, 4), (5, 5), (5, 6), (0, 46), (1, 7)] (by decide +kernel)) rfl rfl (by decide +kernel) ⟨by decide, by decide⟩
set_option maxRecDepth 100000 in
set_option maxHeartbeats 4000000 in
theorem ca_X6_makes_824 (l : Launch) : nk_CallOk l { frames := 3, cells := 0, slots := 0, locals := 86 } RX6 cX6_makes 8 false 824 (3, 7, 0, 0, ev_X6_allTo) := nk_callV (x := 206) (n := 2) (ci := 6) (r := (RX6, TX6, 32)) (mt_X6_allTo l) rfl (nk_msc [(5, 7), (5, 8), (5, 9), (5, 10), (0, 47), (1, 7)] (by decide +kernel)) rfl rfl (by decide +kernel) ⟨by decide, by decide⟩
set_option maxRecDepth 100000 in
set_option maxHeartbeats 4000000 in
theorem mt_X6_makes (l : Launch) : nk_Met l yX6_makes cX6_makes 8 none { frames := 3, cells := 0, slots := 0, locals := 86 } false 0 0 ev_X6_makes :=
  nk_met nk_gok (plainFor_of_name (by decide)) ck_X6_makes (nk_top_out 139 kt_X6_makes) ⟨List.forall_mem_cons.mpr ⟨nk_fkc [(3, 209)] (by decide +kernel), List.forall_mem_cons.mpr ⟨nk_fkc [(3, 210)] (by decide +kernel), List.forall_mem_cons.mpr ⟨nk_fkc [(3, 212)] (by decide +kernel), List.forall_mem_cons.mpr ⟨nk_fkc [(3, 211)] (by decide +kernel), fun _ h => absurd h List.not_mem_nil⟩⟩⟩⟩, List.forall_mem_cons.mpr ⟨ca_X6_makes_550 l, List.forall_mem_cons.mpr ⟨ca_X6_makes_796 l, List.forall_mem_cons.mpr ⟨ca_X6_makes_808 l, List.forall_mem_cons.mpr ⟨ca_X6_makes_824 l, fun _ h => absurd h List.not_mem_nil⟩⟩⟩⟩, fun _ h => absurd h List.not_mem_nil, fun _ h => absurd h List.not_mem_nil, fun _ h => absurd h List.not_mem_nil, fun _ h => absurd h List.not_mem_nil, fun _ h => absurd h List.not_mem_nil, by decide, rfl, rfl⟩ rfl (by decide)
/-! MarbleLawModel.does(I)V -/
noncomputable def kt_X6_does : Nat → Option nk_I := fun pc => bif Nat.ble pc 19 then ((fun pc => bif Nat.ble pc 8 then ((fun pc => bif Nat.ble pc 2 then ((fun pc => bif Nat.ble pc 0 then (bif Nat.beq pc 0 then some (.aload_n 0, 1, 1, [], 0) else none)
  else (bif Nat.ble pc 1 then (bif Nat.beq pc 1 then some (.aload_n 0, 1, 2, [], 0) else none)
  else (bif Nat.beq pc 2 then some (.iload_n 1, 1, 3, [], 0) else none))) : nk_F) pc
  else ((fun pc => bif Nat.ble pc 4 then (bif Nat.ble pc 3 then (bif Nat.beq pc 3 then some (.iconst 0, 1, 4, [], 0) else none)
  else (bif Nat.beq pc 4 then some (.invokevirtual 152, 3, 7, [], 0) else none))
  else (bif Nat.ble pc 7 then (bif Nat.beq pc 7 then some (.aload_n 0, 1, 8, [], 0) else none)
  else (bif Nat.beq pc 8 then some (.iload_n 1, 1, 9, [], 0) else none))) : nk_F) pc) : nk_F) pc
  else ((fun pc => bif Nat.ble pc 13 then ((fun pc => bif Nat.ble pc 9 then (bif Nat.beq pc 9 then some (.iconst 1, 1, 10, [], 1) else none)
  else (bif Nat.ble pc 10 then (bif Nat.beq pc 10 then some (.invokevirtual 152, 3, 13, [], 0) else none)
  else (bif Nat.beq pc 13 then some (.aload_n 0, 1, 14, [], 0) else none))) : nk_F) pc
  else ((fun pc => bif Nat.ble pc 15 then (bif Nat.ble pc 14 then (bif Nat.beq pc 14 then some (.iload_n 1, 1, 15, [], 0) else none)
  else (bif Nat.beq pc 15 then some (.iconst 2, 1, 16, [], 2) else none))
  else (bif Nat.ble pc 16 then (bif Nat.beq pc 16 then some (.invokevirtual 152, 3, 19, [], 0) else none)
  else (bif Nat.beq pc 19 then some (.aload_n 0, 1, 20, [], 0) else none))) : nk_F) pc) : nk_F) pc) : nk_F) pc
  else ((fun pc => bif Nat.ble pc 28 then ((fun pc => bif Nat.ble pc 22 then ((fun pc => bif Nat.ble pc 20 then (bif Nat.beq pc 20 then some (.iload_n 1, 1, 21, [], 0) else none)
  else (bif Nat.ble pc 21 then (bif Nat.beq pc 21 then some (.iconst 3, 1, 22, [], 3) else none)
  else (bif Nat.beq pc 22 then some (.invokevirtual 152, 3, 25, [], 0) else none))) : nk_F) pc
  else ((fun pc => bif Nat.ble pc 26 then (bif Nat.ble pc 25 then (bif Nat.beq pc 25 then some (.aload_n 0, 1, 26, [], 0) else none)
  else (bif Nat.beq pc 26 then some (.iload_n 1, 1, 27, [], 0) else none))
  else (bif Nat.ble pc 27 then (bif Nat.beq pc 27 then some (.iconst 4, 1, 28, [], 4) else none)
  else (bif Nat.beq pc 28 then some (.invokevirtual 152, 3, 31, [], 0) else none))) : nk_F) pc) : nk_F) pc
  else ((fun pc => bif Nat.ble pc 34 then ((fun pc => bif Nat.ble pc 32 then (bif Nat.ble pc 31 then (bif Nat.beq pc 31 then some (.aload_n 0, 1, 32, [], 0) else none)
  else (bif Nat.beq pc 32 then some (.aload_n 0, 1, 33, [], 0) else none))
  else (bif Nat.ble pc 33 then (bif Nat.beq pc 33 then some (.iload_n 1, 1, 34, [], 0) else none)
  else (bif Nat.beq pc 34 then some (.iconst 5, 1, 35, [], 5) else none))) : nk_F) pc
  else ((fun pc => bif Nat.ble pc 38 then (bif Nat.ble pc 35 then (bif Nat.beq pc 35 then some (.invokevirtual 152, 3, 38, [], 0) else none)
  else (bif Nat.beq pc 38 then some (.invokevirtual 210, 3, 41, [], 0) else none))
  else (bif Nat.ble pc 41 then (bif Nat.beq pc 41 then some (.invokevirtual 213, 3, 44, [], 0) else none)
  else (bif Nat.beq pc 44 then some (.return_, 1, 45, [], 0) else none))) : nk_F) pc) : nk_F) pc) : nk_F) pc
noncomputable def kc_X6_does : Nat → Option nk_I := nk_top 45 kt_X6_does
noncomputable def kx_X6_does : nk_T := ([], [(608, 3, 7, 0, 0, ev_X6_part), (840, 2, 7, 0, 0, ev_X6_knows), (852, 7, 7, 0, 0, ev_X6_makes)], [], [], [], [], [], 0, false, 0, 0)
noncomputable def ev_X6_does : nk_Ev := fun as h Q => nk_if (Nat.ble (nk_wd as) 2) (nk_ev kx_X6_does kc_X6_does 2 as h Q)
set_option maxRecDepth 100000 in
theorem ck_X6_does : nk_chk cX6_does kc_X6_does 45 = true := nd_chk (by decide +kernel) (by decide +kernel)
set_option maxRecDepth 100000 in
set_option maxHeartbeats 4000000 in
theorem ca_X6_does_608 (l : Launch) : nk_CallOk l { frames := 4, cells := 0, slots := 0, locals := 113 } RX6 cX6_does 2 false 608 (3, 7, 0, 0, ev_X6_part) := nk_callV (x := 152) (n := 2) (ci := 6) (r := (RX6, TX6, 32)) (mt_X6_part l) rfl (nk_msc [(4, 164), (4, 165), (4, 166), (4, 167), (0, 35), (1, 7)] (by decide +kernel)) rfl rfl (by decide +kernel) ⟨by decide, by decide⟩
set_option maxRecDepth 100000 in
set_option maxHeartbeats 4000000 in
theorem ca_X6_does_840 (l : Launch) : nk_CallOk l { frames := 4, cells := 0, slots := 0, locals := 113 } RX6 cX6_does 2 false 840 (2, 7, 0, 0, ev_X6_knows) := nk_callV (x := 210) (n := 1) (ci := 6) (r := (RX6, TX6, 32)) (mt_X6_knows l) rfl (nk_msc [(4, 220), (4, 221), (4, 222), (4, 223), (0, 42), (1, 7)] (by decide +kernel)) rfl rfl (by decide +kernel) ⟨by decide, by decide⟩
set_option maxRecDepth 100000 in
set_option maxHeartbeats 4000000 in
theorem ca_X6_does_852 (l : Launch) : nk_CallOk l { frames := 4, cells := 0, slots := 0, locals := 113 } RX6 cX6_does 2 false 852 (7, 7, 0, 0, ev_X6_makes) := nk_callV (x := 213) (n := 6) (ci := 6) (r := (RX6, TX6, 32)) (mt_X6_makes l) rfl (nk_msc [(4, 227), (4, 228), (4, 229), (4, 230), (0, 43), (1, 7)] (by decide +kernel)) rfl rfl (by decide +kernel) ⟨by decide, by decide⟩
set_option maxRecDepth 100000 in
set_option maxHeartbeats 4000000 in
theorem mt_X6_does (l : Launch) : nk_Met l yX6_does cX6_does 2 none { frames := 4, cells := 0, slots := 0, locals := 113 } false 0 0 ev_X6_does :=
  nk_met nk_gok (plainFor_of_name (by decide)) ck_X6_does (nk_top_out 45 kt_X6_does) ⟨fun _ h => absurd h List.not_mem_nil, List.forall_mem_cons.mpr ⟨ca_X6_does_608 l, List.forall_mem_cons.mpr ⟨ca_X6_does_840 l, List.forall_mem_cons.mpr ⟨ca_X6_does_852 l, fun _ h => absurd h List.not_mem_nil⟩⟩⟩, fun _ h => absurd h List.not_mem_nil, fun _ h => absurd h List.not_mem_nil, fun _ h => absurd h List.not_mem_nil, fun _ h => absurd h List.not_mem_nil, fun _ h => absurd h List.not_mem_nil, by decide, rfl, rfl⟩ rfl (by decide)
