/-! MarbleLawModel.beside(III)I -/
noncomputable def kt_X6_beside : Nat → Option nk_I := fun pc => bif Nat.ble pc 109 then ((fun pc => bif Nat.ble pc 54 then ((fun pc => bif Nat.ble pc 28 then ((fun pc => bif Nat.ble pc 14 then ((fun pc => bif Nat.ble pc 4 then ((fun pc => bif Nat.ble pc 0 then (bif Nat.beq pc 0 then some (.iload_n 1, 1, 1, [], 0) else none)
  else (bif Nat.ble pc 1 then (bif Nat.beq pc 1 then some (.invokestatic 173, 3, 4, [], 0) else none)
  else (bif Nat.beq pc 4 then some (.ifCond .eq 17, 3, 7, [21], 0) else none))) : nk_F) pc
  else ((fun pc => bif Nat.ble pc 8 then (bif Nat.ble pc 7 then (bif Nat.beq pc 7 then some (.iload_n 2, 1, 8, [], 0) else none)
  else (bif Nat.beq pc 8 then some (.invokestatic 173, 3, 11, [], 0) else none))
  else (bif Nat.ble pc 11 then (bif Nat.beq pc 11 then some (.ifCond .eq 10, 3, 14, [21], 0) else none)
  else (bif Nat.beq pc 14 then some (.iload_n 3, 1, 15, [], 0) else none))) : nk_F) pc) : nk_F) pc
  else ((fun pc => bif Nat.ble pc 22 then ((fun pc => bif Nat.ble pc 18 then (bif Nat.ble pc 15 then (bif Nat.beq pc 15 then some (.invokestatic 230, 3, 18, [], 0) else none)
  else (bif Nat.beq pc 18 then some (.ifCond .ne 5, 3, 21, [23], 0) else none))
  else (bif Nat.ble pc 21 then (bif Nat.beq pc 21 then some (.iconst (-1), 1, 22, [], (-1)) else none)
  else (bif Nat.beq pc 22 then some (.ireturn, 1, 23, [], 0) else none))) : nk_F) pc
  else ((fun pc => bif Nat.ble pc 24 then (bif Nat.ble pc 23 then (bif Nat.beq pc 23 then some (.aload_n 0, 1, 24, [], 0) else none)
  else (bif Nat.beq pc 24 then some (.getfield 38, 3, 27, [], 0) else none))
  else (bif Nat.ble pc 27 then (bif Nat.beq pc 27 then some (.iload_n 1, 1, 28, [], 0) else none)
  else (bif Nat.beq pc 28 then some (.iaload, 1, 29, [], 0) else none))) : nk_F) pc) : nk_F) pc) : nk_F) pc
  else ((fun pc => bif Nat.ble pc 42 then ((fun pc => bif Nat.ble pc 36 then ((fun pc => bif Nat.ble pc 32 then (bif Nat.ble pc 29 then (bif Nat.beq pc 29 then some (.ifCond .eq 12, 3, 32, [41], 0) else none)
  else (bif Nat.beq pc 32 then some (.aload_n 0, 1, 33, [], 0) else none))
  else (bif Nat.ble pc 33 then (bif Nat.beq pc 33 then some (.getfield 38, 3, 36, [], 0) else none)
  else (bif Nat.beq pc 36 then some (.iload_n 2, 1, 37, [], 0) else none))) : nk_F) pc
  else ((fun pc => bif Nat.ble pc 38 then (bif Nat.ble pc 37 then (bif Nat.beq pc 37 then some (.iaload, 1, 38, [], 0) else none)
  else (bif Nat.beq pc 38 then some (.ifCond .ne 9, 3, 41, [47], 0) else none))
  else (bif Nat.ble pc 41 then (bif Nat.beq pc 41 then some (.aload_n 0, 1, 42, [], 0) else none)
  else (bif Nat.beq pc 42 then some (.iconst 1, 1, 43, [], 1) else none))) : nk_F) pc) : nk_F) pc
  else ((fun pc => bif Nat.ble pc 48 then ((fun pc => bif Nat.ble pc 46 then (bif Nat.ble pc 43 then (bif Nat.beq pc 43 then some (.invokevirtual 97, 3, 46, [], 0) else none)
  else (bif Nat.beq pc 46 then some (.ireturn, 1, 47, [], 0) else none))
  else (bif Nat.ble pc 47 then (bif Nat.beq pc 47 then some (.aload_n 0, 1, 48, [], 0) else none)
  else (bif Nat.beq pc 48 then some (.aload_n 0, 1, 49, [], 0) else none))) : nk_F) pc
  else ((fun pc => bif Nat.ble pc 52 then (bif Nat.ble pc 49 then (bif Nat.beq pc 49 then some (.getfield 38, 3, 52, [], 0) else none)
  else (bif Nat.beq pc 52 then some (.iload_n 1, 1, 53, [], 0) else none))
  else (bif Nat.ble pc 53 then (bif Nat.beq pc 53 then some (.iaload, 1, 54, [], 0) else none)
  else (bif Nat.beq pc 54 then some (.iload_n 3, 1, 55, [], 0) else none))) : nk_F) pc) : nk_F) pc) : nk_F) pc) : nk_F) pc
  else ((fun pc => bif Nat.ble pc 81 then ((fun pc => bif Nat.ble pc 68 then ((fun pc => bif Nat.ble pc 59 then ((fun pc => bif Nat.ble pc 55 then (bif Nat.beq pc 55 then some (.aload_n 0, 1, 56, [], 0) else none)
  else (bif Nat.ble pc 56 then (bif Nat.beq pc 56 then some (.getfield 146, 3, 59, [], 0) else none)
  else (bif Nat.beq pc 59 then some (.bipush (-9), 2, 61, [], (-9)) else none))) : nk_F) pc
  else ((fun pc => bif Nat.ble pc 64 then (bif Nat.ble pc 61 then (bif Nat.beq pc 61 then some (.invokevirtual 224, 3, 64, [], 0) else none)
  else (bif Nat.beq pc 64 then some (.ifCond .eq 23, 3, 67, [87], 0) else none))
  else (bif Nat.ble pc 67 then (bif Nat.beq pc 67 then some (.aload_n 0, 1, 68, [], 0) else none)
  else (bif Nat.beq pc 68 then some (.aload_n 0, 1, 69, [], 0) else none))) : nk_F) pc) : nk_F) pc
  else ((fun pc => bif Nat.ble pc 74 then ((fun pc => bif Nat.ble pc 72 then (bif Nat.ble pc 69 then (bif Nat.beq pc 69 then some (.getfield 38, 3, 72, [], 0) else none)
  else (bif Nat.beq pc 72 then some (.iload_n 2, 1, 73, [], 0) else none))
  else (bif Nat.ble pc 73 then (bif Nat.beq pc 73 then some (.iaload, 1, 74, [], 0) else none)
  else (bif Nat.beq pc 74 then some (.iload_n 3, 1, 75, [], 0) else none))) : nk_F) pc
  else ((fun pc => bif Nat.ble pc 76 then (bif Nat.ble pc 75 then (bif Nat.beq pc 75 then some (.aload_n 0, 1, 76, [], 0) else none)
  else (bif Nat.beq pc 76 then some (.getfield 146, 3, 79, [], 0) else none))
  else (bif Nat.ble pc 79 then (bif Nat.beq pc 79 then some (.bipush (-9), 2, 81, [], (-9)) else none)
  else (bif Nat.beq pc 81 then some (.invokevirtual 224, 3, 84, [], 0) else none))) : nk_F) pc) : nk_F) pc) : nk_F) pc
  else ((fun pc => bif Nat.ble pc 95 then ((fun pc => bif Nat.ble pc 89 then ((fun pc => bif Nat.ble pc 87 then (bif Nat.ble pc 84 then (bif Nat.beq pc 84 then some (.ifCond .ne 9, 3, 87, [93], 0) else none)
  else (bif Nat.beq pc 87 then some (.aload_n 0, 1, 88, [], 0) else none))
  else (bif Nat.ble pc 88 then (bif Nat.beq pc 88 then some (.iconst 5, 1, 89, [], 5) else none)
  else (bif Nat.beq pc 89 then some (.invokevirtual 97, 3, 92, [], 0) else none))) : nk_F) pc
  else ((fun pc => bif Nat.ble pc 93 then (bif Nat.ble pc 92 then (bif Nat.beq pc 92 then some (.ireturn, 1, 93, [], 0) else none)
  else (bif Nat.beq pc 93 then some (.aload_n 0, 1, 94, [], 0) else none))
  else (bif Nat.ble pc 94 then (bif Nat.beq pc 94 then some (.aload_n 0, 1, 95, [], 0) else none)
  else (bif Nat.beq pc 95 then some (.getfield 38, 3, 98, [], 0) else none))) : nk_F) pc) : nk_F) pc
  else ((fun pc => bif Nat.ble pc 101 then ((fun pc => bif Nat.ble pc 99 then (bif Nat.ble pc 98 then (bif Nat.beq pc 98 then some (.iload_n 1, 1, 99, [], 0) else none)
  else (bif Nat.beq pc 99 then some (.iaload, 1, 100, [], 0) else none))
  else (bif Nat.ble pc 100 then (bif Nat.beq pc 100 then some (.iload_n 3, 1, 101, [], 0) else none)
  else (bif Nat.beq pc 101 then some (.invokevirtual 244, 3, 104, [], 0) else none))) : nk_F) pc
  else ((fun pc => bif Nat.ble pc 105 then (bif Nat.ble pc 104 then (bif Nat.beq pc 104 then some (.aload_n 0, 1, 105, [], 0) else none)
  else (bif Nat.beq pc 105 then some (.aload_n 0, 1, 106, [], 0) else none))
  else (bif Nat.ble pc 106 then (bif Nat.beq pc 106 then some (.getfield 38, 3, 109, [], 0) else none)
  else (bif Nat.beq pc 109 then some (.iload_n 2, 1, 110, [], 0) else none))) : nk_F) pc) : nk_F) pc) : nk_F) pc) : nk_F) pc) : nk_F) pc
  else ((fun pc => bif Nat.ble pc 165 then ((fun pc => bif Nat.ble pc 136 then ((fun pc => bif Nat.ble pc 120 then ((fun pc => bif Nat.ble pc 112 then ((fun pc => bif Nat.ble pc 110 then (bif Nat.beq pc 110 then some (.iaload, 1, 111, [], 0) else none)
  else (bif Nat.ble pc 111 then (bif Nat.beq pc 111 then some (.iload_n 3, 1, 112, [], 0) else none)
  else (bif Nat.beq pc 112 then some (.invokevirtual 217, 3, 115, [], 0) else none))) : nk_F) pc
  else ((fun pc => bif Nat.ble pc 116 then (bif Nat.ble pc 115 then (bif Nat.beq pc 115 then some (.iconst 0, 1, 116, [], 0) else none)
  else (bif Nat.beq pc 116 then some (.istore 4, 2, 118, [], 0) else none))
  else (bif Nat.ble pc 118 then (bif Nat.beq pc 118 then some (.iload 4, 2, 120, [], 0) else none)
  else (bif Nat.beq pc 120 then some (.aload_n 0, 1, 121, [], 0) else none))) : nk_F) pc) : nk_F) pc
  else ((fun pc => bif Nat.ble pc 128 then ((fun pc => bif Nat.ble pc 124 then (bif Nat.ble pc 121 then (bif Nat.beq pc 121 then some (.getfield 146, 3, 124, [], 0) else none)
  else (bif Nat.beq pc 124 then some (.if_icmp .ge 96, 3, 127, [220], 0) else none))
  else (bif Nat.ble pc 127 then (bif Nat.beq pc 127 then some (.aload_n 0, 1, 128, [], 0) else none)
  else (bif Nat.beq pc 128 then some (.iload 4, 2, 130, [], 0) else none))) : nk_F) pc
  else ((fun pc => bif Nat.ble pc 133 then (bif Nat.ble pc 130 then (bif Nat.beq pc 130 then some (.invokevirtual 220, 3, 133, [], 0) else none)
  else (bif Nat.beq pc 133 then some (.iconst 0, 1, 134, [], 0) else none))
  else (bif Nat.ble pc 134 then (bif Nat.beq pc 134 then some (.istore 5, 2, 136, [], 0) else none)
  else (bif Nat.beq pc 136 then some (.iload 5, 2, 138, [], 0) else none))) : nk_F) pc) : nk_F) pc) : nk_F) pc
  else ((fun pc => bif Nat.ble pc 152 then ((fun pc => bif Nat.ble pc 144 then ((fun pc => bif Nat.ble pc 140 then (bif Nat.ble pc 138 then (bif Nat.beq pc 138 then some (.bipush 6, 2, 140, [], 6) else none)
  else (bif Nat.beq pc 140 then some (.if_icmp .ge 74, 3, 143, [214], 0) else none))
  else (bif Nat.ble pc 143 then (bif Nat.beq pc 143 then some (.aload_n 0, 1, 144, [], 0) else none)
  else (bif Nat.beq pc 144 then some (.getfield 63, 3, 147, [], 0) else none))) : nk_F) pc
  else ((fun pc => bif Nat.ble pc 149 then (bif Nat.ble pc 147 then (bif Nat.beq pc 147 then some (.bipush 7, 2, 149, [], 7) else none)
  else (bif Nat.beq pc 149 then some (.iload 4, 2, 151, [], 0) else none))
  else (bif Nat.ble pc 151 then (bif Nat.beq pc 151 then some (.imul, 1, 152, [], 0) else none)
  else (bif Nat.beq pc 152 then some (.iload 5, 2, 154, [], 0) else none))) : nk_F) pc) : nk_F) pc
  else ((fun pc => bif Nat.ble pc 157 then ((fun pc => bif Nat.ble pc 155 then (bif Nat.ble pc 154 then (bif Nat.beq pc 154 then some (.iadd, 1, 155, [], 0) else none)
  else (bif Nat.beq pc 155 then some (.laload, 1, 156, [], 0) else none))
  else (bif Nat.ble pc 156 then (bif Nat.beq pc 156 then some (.aload_n 0, 1, 157, [], 0) else none)
  else (bif Nat.beq pc 157 then some (.getfield 57, 3, 160, [], 0) else none))) : nk_F) pc
  else ((fun pc => bif Nat.ble pc 161 then (bif Nat.ble pc 160 then (bif Nat.beq pc 160 then some (.aload_n 0, 1, 161, [], 0) else none)
  else (bif Nat.beq pc 161 then some (.getfield 41, 3, 164, [], 0) else none))
  else (bif Nat.ble pc 164 then (bif Nat.beq pc 164 then some (.aload_n 0, 1, 165, [], 0) else none)
  else (bif Nat.beq pc 165 then some (.iload 4, 2, 167, [], 0) else none))) : nk_F) pc) : nk_F) pc) : nk_F) pc) : nk_F) pc
  else ((fun pc => bif Nat.ble pc 191 then ((fun pc => bif Nat.ble pc 175 then ((fun pc => bif Nat.ble pc 171 then ((fun pc => bif Nat.ble pc 167 then (bif Nat.beq pc 167 then some (.iconst 1, 1, 168, [], 1) else none)
  else (bif Nat.ble pc 168 then (bif Nat.beq pc 168 then some (.invokevirtual 152, 3, 171, [], 0) else none)
  else (bif Nat.beq pc 171 then some (.iaload, 1, 172, [], 0) else none))) : nk_F) pc
  else ((fun pc => bif Nat.ble pc 173 then (bif Nat.ble pc 172 then (bif Nat.beq pc 172 then some (.laload, 1, 173, [], 0) else none)
  else (bif Nat.beq pc 173 then some (.lmul, 1, 174, [], 0) else none))
  else (bif Nat.ble pc 174 then (bif Nat.beq pc 174 then some (.aload_n 0, 1, 175, [], 0) else none)
  else (bif Nat.beq pc 175 then some (.aload_n 0, 1, 176, [], 0) else none))) : nk_F) pc) : nk_F) pc
  else ((fun pc => bif Nat.ble pc 182 then ((fun pc => bif Nat.ble pc 178 then (bif Nat.ble pc 176 then (bif Nat.beq pc 176 then some (.iload 4, 2, 178, [], 0) else none)
  else (bif Nat.beq pc 178 then some (.iconst 1, 1, 179, [], 1) else none))
  else (bif Nat.ble pc 179 then (bif Nat.beq pc 179 then some (.invokevirtual 152, 3, 182, [], 0) else none)
  else (bif Nat.beq pc 182 then some (.iload 5, 2, 184, [], 0) else none))) : nk_F) pc
  else ((fun pc => bif Nat.ble pc 187 then (bif Nat.ble pc 184 then (bif Nat.beq pc 184 then some (.invokevirtual 233, 3, 187, [], 0) else none)
  else (bif Nat.beq pc 187 then some (.aload_n 0, 1, 188, [], 0) else none))
  else (bif Nat.ble pc 188 then (bif Nat.beq pc 188 then some (.getfield 63, 3, 191, [], 0) else none)
  else (bif Nat.beq pc 191 then some (.bipush 7, 2, 193, [], 7) else none))) : nk_F) pc) : nk_F) pc) : nk_F) pc
  else ((fun pc => bif Nat.ble pc 202 then ((fun pc => bif Nat.ble pc 198 then ((fun pc => bif Nat.ble pc 195 then (bif Nat.ble pc 193 then (bif Nat.beq pc 193 then some (.iload 4, 2, 195, [], 0) else none)
  else (bif Nat.beq pc 195 then some (.imul, 1, 196, [], 0) else none))
  else (bif Nat.ble pc 196 then (bif Nat.beq pc 196 then some (.bipush 6, 2, 198, [], 6) else none)
  else (bif Nat.beq pc 198 then some (.iadd, 1, 199, [], 0) else none))) : nk_F) pc
  else ((fun pc => bif Nat.ble pc 200 then (bif Nat.ble pc 199 then (bif Nat.beq pc 199 then some (.laload, 1, 200, [], 0) else none)
  else (bif Nat.beq pc 200 then some (.lmul, 1, 201, [], 0) else none))
  else (bif Nat.ble pc 201 then (bif Nat.beq pc 201 then some (.lcmp, 1, 202, [], 0) else none)
  else (bif Nat.beq pc 202 then some (.ifCond .eq 6, 3, 205, [208], 0) else none))) : nk_F) pc) : nk_F) pc
  else ((fun pc => bif Nat.ble pc 211 then ((fun pc => bif Nat.ble pc 207 then (bif Nat.ble pc 205 then (bif Nat.beq pc 205 then some (.iload 4, 2, 207, [], 0) else none)
  else (bif Nat.beq pc 207 then some (.ireturn, 1, 208, [], 0) else none))
  else (bif Nat.ble pc 208 then (bif Nat.beq pc 208 then some (.iinc 5 1, 3, 211, [], 1) else none)
  else (bif Nat.beq pc 211 then some (.goto (-75), 3, 214, [136], 0) else none))) : nk_F) pc
  else ((fun pc => bif Nat.ble pc 217 then (bif Nat.ble pc 214 then (bif Nat.beq pc 214 then some (.iinc 4 1, 3, 217, [], 1) else none)
  else (bif Nat.beq pc 217 then some (.goto (-99), 3, 220, [118], 0) else none))
  else (bif Nat.ble pc 220 then (bif Nat.beq pc 220 then some (.bipush (-9), 2, 222, [], (-9)) else none)
  else (bif Nat.beq pc 222 then some (.ireturn, 1, 223, [], 0) else none))) : nk_F) pc) : nk_F) pc) : nk_F) pc) : nk_F) pc) : nk_F) pc
noncomputable def kc_X6_beside : Nat → Option nk_I := nk_top 223 kt_X6_beside
noncomputable def kx_X6_beside : nk_T := ([(38, 6, 14, 4), (146, 6, 12, 0), (63, 6, 26, 4), (57, 6, 21, 4), (41, 6, 16, 4)], [(694, 1, 0, 0, 0, ev_X6_isLaws), (922, 1, 0, 0, 0, ev_X6_areAnswers), (388, 2, 7, 0, 0, ev_X6_meets), (896, 5, 7, 0, 0, ev_X6_goes), (976, 3, 7, 0, 0, ev_X6_setTrails), (868, 3, 7, 0, 0, ev_X6_begins), (880, 2, 7, 0, 0, ev_X6_does), (608, 3, 7, 0, 0, ev_X6_part), (932, 3, 7, 0, 0, ev_X6_partOf)], [], [], [], [], [], 1, false, 0, 0)
noncomputable def ev_X6_beside : nk_Ev := fun as h Q => nk_if (Nat.ble (nk_wd as) 6) (nk_ev kx_X6_beside kc_X6_beside 6 as h Q)
set_option maxRecDepth 100000 in
theorem ck_X6_beside : nk_chk cX6_beside kc_X6_beside 223 = true := nd_chk (by decide +kernel) (by decide +kernel)
set_option maxRecDepth 100000 in
set_option maxHeartbeats 4000000 in
theorem ca_X6_beside_694 (l : Launch) : nk_CallOk l { frames := 6, cells := 0, slots := 0, locals := 159 } RX6 cX6_beside 6 false 694 (1, 0, 0, 0, ev_X6_isLaws) := nk_callS (x := 173) (n := 1) (mt_X6_isLaws l) (nk_msc [(4, 193), (4, 194), (4, 195), (1, 7)] (by decide +kernel)) rfl rfl (by decide +kernel) ⟨by decide, by decide⟩
set_option maxRecDepth 100000 in
set_option maxHeartbeats 4000000 in
theorem ca_X6_beside_922 (l : Launch) : nk_CallOk l { frames := 6, cells := 0, slots := 0, locals := 159 } RX6 cX6_beside 6 false 922 (1, 0, 0, 0, ev_X6_areAnswers) := nk_callS (x := 230) (n := 1) (mt_X6_areAnswers l) (nk_msc [(5, 27), (5, 28), (5, 29), (1, 7)] (by decide +kernel)) rfl rfl (by decide +kernel) ⟨by decide, by decide⟩
set_option maxRecDepth 100000 in
set_option maxHeartbeats 4000000 in
theorem ca_X6_beside_388 (l : Launch) : nk_CallOk l { frames := 6, cells := 0, slots := 0, locals := 159 } RX6 cX6_beside 6 false 388 (2, 7, 0, 0, ev_X6_meets) := nk_callV (x := 97) (n := 1) (ci := 6) (r := (RX6, TX6, 32)) (mt_X6_meets l) rfl (nk_msc [(4, 60), (4, 61), (4, 62), (4, 63), (0, 26), (1, 7)] (by decide +kernel)) rfl rfl (by decide +kernel) ⟨by decide, by decide⟩
set_option maxRecDepth 100000 in
set_option maxHeartbeats 4000000 in
theorem ca_X6_beside_896 (l : Launch) : nk_CallOk l { frames := 6, cells := 0, slots := 0, locals := 159 } RX6 cX6_beside 6 false 896 (5, 7, 0, 0, ev_X6_goes) := nk_callV (x := 224) (n := 4) (ci := 6) (r := (RX6, TX6, 32)) (mt_X6_goes l) rfl (nk_msc [(4, 208), (4, 209), (4, 210), (4, 211), (0, 39), (1, 7)] (by decide +kernel)) rfl rfl (by decide +kernel) ⟨by decide, by decide⟩
set_option maxRecDepth 100000 in
set_option maxHeartbeats 4000000 in
theorem ca_X6_beside_976 (l : Launch) : nk_CallOk l { frames := 6, cells := 0, slots := 0, locals := 159 } RX6 cX6_beside 6 false 976 (3, 7, 0, 0, ev_X6_setTrails) := nk_callV (x := 244) (n := 2) (ci := 6) (r := (RX6, TX6, 32)) (mt_X6_setTrails l) rfl (nk_msc [(5, 58), (5, 59), (5, 60), (5, 61), (0, 52), (1, 7)] (by decide +kernel)) rfl rfl (by decide +kernel) ⟨by decide, by decide⟩
set_option maxRecDepth 100000 in
set_option maxHeartbeats 4000000 in
theorem ca_X6_beside_868 (l : Launch) : nk_CallOk l { frames := 6, cells := 0, slots := 0, locals := 159 } RX6 cX6_beside 6 false 868 (3, 7, 0, 0, ev_X6_begins) := nk_callV (x := 217) (n := 2) (ci := 6) (r := (RX6, TX6, 32)) (mt_X6_begins l) rfl (nk_msc [(4, 212), (4, 213), (4, 214), (4, 215), (0, 40), (1, 7)] (by decide +kernel)) rfl rfl (by decide +kernel) ⟨by decide, by decide⟩
set_option maxRecDepth 100000 in
set_option maxHeartbeats 4000000 in
theorem ca_X6_beside_880 (l : Launch) : nk_CallOk l { frames := 6, cells := 0, slots := 0, locals := 159 } RX6 cX6_beside 6 false 880 (2, 7, 0, 0, ev_X6_does) := nk_callV (x := 220) (n := 1) (ci := 6) (r := (RX6, TX6, 32)) (mt_X6_does l) rfl (nk_msc [(4, 216), (4, 217), (4, 218), (4, 219), (0, 41), (1, 7)] (by decide +kernel)) rfl rfl (by decide +kernel) ⟨by decide, by decide⟩
set_option maxRecDepth 100000 in
set_option maxHeartbeats 4000000 in
theorem ca_X6_beside_608 (l : Launch) : nk_CallOk l { frames := 6, cells := 0, slots := 0, locals := 159 } RX6 cX6_beside 6 false 608 (3, 7, 0, 0, ev_X6_part) := nk_callV (x := 152) (n := 2) (ci := 6) (r := (RX6, TX6, 32)) (mt_X6_part l) rfl (nk_msc [(4, 164), (4, 165), (4, 166), (4, 167), (0, 35), (1, 7)] (by decide +kernel)) rfl rfl (by decide +kernel) ⟨by decide, by decide⟩
set_option maxRecDepth 100000 in
set_option maxHeartbeats 4000000 in
theorem ca_X6_beside_932 (l : Launch) : nk_CallOk l { frames := 6, cells := 0, slots := 0, locals := 159 } RX6 cX6_beside 6 false 932 (3, 7, 0, 0, ev_X6_partOf) := nk_callV (x := 233) (n := 2) (ci := 6) (r := (RX6, TX6, 32)) (mt_X6_partOf l) rfl (nk_msc [(5, 30), (5, 31), (5, 32), (5, 33), (0, 49), (1, 7)] (by decide +kernel)) rfl rfl (by decide +kernel) ⟨by decide, by decide⟩
set_option maxRecDepth 100000 in
set_option maxHeartbeats 4000000 in
theorem mt_X6_beside (l : Launch) : nk_Met l yX6_beside cX6_beside 6 (some .int) { frames := 6, cells := 0, slots := 0, locals := 159 } false 0 0 ev_X6_beside :=
  nk_met nk_gok (plainFor_of_name (by decide)) ck_X6_beside (nk_top_out 223 kt_X6_beside) ⟨List.forall_mem_cons.mpr ⟨nk_fkc [(3, 207)] (by decide +kernel), List.forall_mem_cons.mpr ⟨nk_fkc [(3, 205)] (by decide +kernel), List.forall_mem_cons.mpr ⟨nk_fkc [(3, 219)] (by decide +kernel), List.forall_mem_cons.mpr ⟨nk_fkc [(3, 214)] (by decide +kernel), List.forall_mem_cons.mpr ⟨nk_fkc [(3, 209)] (by decide +kernel), fun _ h => absurd h List.not_mem_nil⟩⟩⟩⟩⟩, List.forall_mem_cons.mpr ⟨ca_X6_beside_694 l, List.forall_mem_cons.mpr ⟨ca_X6_beside_922 l, List.forall_mem_cons.mpr ⟨ca_X6_beside_388 l, List.forall_mem_cons.mpr ⟨ca_X6_beside_896 l, List.forall_mem_cons.mpr ⟨ca_X6_beside_976 l, List.forall_mem_cons.mpr ⟨ca_X6_beside_868 l, List.forall_mem_cons.mpr ⟨ca_X6_beside_880 l, List.forall_mem_cons.mpr ⟨ca_X6_beside_608 l, List.forall_mem_cons.mpr ⟨ca_X6_beside_932 l, fun _ h => absurd h List.not_mem_nil⟩⟩⟩⟩⟩⟩⟩⟩⟩, fun _ h => absurd h List.not_mem_nil, fun _ h => absurd h List.not_mem_nil, fun _ h => absurd h List.not_mem_nil, fun _ h => absurd h List.not_mem_nil, fun _ h => absurd h List.not_mem_nil, by decide, rfl, rfl⟩ rfl (by decide)
/-! MarbleLawModel.undo(II)I -/
noncomputable def kt_X6_undo : Nat → Option nk_I := fun pc => bif Nat.ble pc 101 then ((fun pc => bif Nat.ble pc 47 then ((fun pc => bif Nat.ble pc 23 then ((fun pc => bif Nat.ble pc 11 then ((fun pc => bif Nat.ble pc 5 then ((fun pc => bif Nat.ble pc 1 then (bif Nat.ble pc 0 then (bif Nat.beq pc 0 then some (.aload_n 0, 1, 1, [], 0) else none)
  else (bif Nat.beq pc 1 then some (.iload_n 2, 1, 2, [], 0) else none))
  else (bif Nat.ble pc 2 then (bif Nat.beq pc 2 then some (.invokevirtual 227, 3, 5, [], 0) else none)
  else (bif Nat.beq pc 5 then some (.ifCond .eq 14, 3, 8, [19], 0) else none))) : nk_F) pc
  else ((fun pc => bif Nat.ble pc 9 then (bif Nat.ble pc 8 then (bif Nat.beq pc 8 then some (.iload_n 1, 1, 9, [], 0) else none)
  else (bif Nat.beq pc 9 then some (.iconst 0, 1, 10, [], 0) else none))
  else (bif Nat.ble pc 10 then (bif Nat.beq pc 10 then some (.iload_n 2, 1, 11, [], 0) else none)
  else (bif Nat.beq pc 11 then some (.iconst 1, 1, 12, [], 1) else none))) : nk_F) pc) : nk_F) pc
  else ((fun pc => bif Nat.ble pc 19 then ((fun pc => bif Nat.ble pc 13 then (bif Nat.ble pc 12 then (bif Nat.beq pc 12 then some (.isub, 1, 13, [], 0) else none)
  else (bif Nat.beq pc 13 then some (.invokestatic 89, 3, 16, [], 0) else none))
  else (bif Nat.ble pc 16 then (bif Nat.beq pc 16 then some (.ifCond .ne 5, 3, 19, [21], 0) else none)
  else (bif Nat.beq pc 19 then some (.iconst (-1), 1, 20, [], (-1)) else none))) : nk_F) pc
  else ((fun pc => bif Nat.ble pc 21 then (bif Nat.ble pc 20 then (bif Nat.beq pc 20 then some (.ireturn, 1, 21, [], 0) else none)
  else (bif Nat.beq pc 21 then some (.aload_n 0, 1, 22, [], 0) else none))
  else (bif Nat.ble pc 22 then (bif Nat.beq pc 22 then some (.iconst 0, 1, 23, [], 0) else none)
  else (bif Nat.beq pc 23 then some (.iconst 0, 1, 24, [], 0) else none))) : nk_F) pc) : nk_F) pc) : nk_F) pc
  else ((fun pc => bif Nat.ble pc 34 then ((fun pc => bif Nat.ble pc 30 then ((fun pc => bif Nat.ble pc 25 then (bif Nat.ble pc 24 then (bif Nat.beq pc 24 then some (.iload_n 1, 1, 25, [], 0) else none)
  else (bif Nat.beq pc 25 then some (.bipush (-9), 2, 27, [], (-9)) else none))
  else (bif Nat.ble pc 27 then (bif Nat.beq pc 27 then some (.invokevirtual 224, 3, 30, [], 0) else none)
  else (bif Nat.beq pc 30 then some (.pop, 1, 31, [], 0) else none))) : nk_F) pc
  else ((fun pc => bif Nat.ble pc 32 then (bif Nat.ble pc 31 then (bif Nat.beq pc 31 then some (.aload_n 0, 1, 32, [], 0) else none)
  else (bif Nat.beq pc 32 then some (.iload_n 1, 1, 33, [], 0) else none))
  else (bif Nat.ble pc 33 then (bif Nat.beq pc 33 then some (.iconst 1, 1, 34, [], 1) else none)
  else (bif Nat.beq pc 34 then some (.invokevirtual 152, 3, 37, [], 0) else none))) : nk_F) pc) : nk_F) pc
  else ((fun pc => bif Nat.ble pc 40 then ((fun pc => bif Nat.ble pc 38 then (bif Nat.ble pc 37 then (bif Nat.beq pc 37 then some (.istore_n 3, 1, 38, [], 0) else none)
  else (bif Nat.beq pc 38 then some (.aload_n 0, 1, 39, [], 0) else none))
  else (bif Nat.ble pc 39 then (bif Nat.beq pc 39 then some (.iload_n 1, 1, 40, [], 0) else none)
  else (bif Nat.beq pc 40 then some (.iconst 2, 1, 41, [], 2) else none))) : nk_F) pc
  else ((fun pc => bif Nat.ble pc 44 then (bif Nat.ble pc 41 then (bif Nat.beq pc 41 then some (.invokevirtual 152, 3, 44, [], 0) else none)
  else (bif Nat.beq pc 44 then some (.istore 4, 2, 46, [], 0) else none))
  else (bif Nat.ble pc 46 then (bif Nat.beq pc 46 then some (.aload_n 0, 1, 47, [], 0) else none)
  else (bif Nat.beq pc 47 then some (.iload_n 1, 1, 48, [], 0) else none))) : nk_F) pc) : nk_F) pc) : nk_F) pc) : nk_F) pc
  else ((fun pc => bif Nat.ble pc 75 then ((fun pc => bif Nat.ble pc 62 then ((fun pc => bif Nat.ble pc 56 then ((fun pc => bif Nat.ble pc 50 then (bif Nat.ble pc 48 then (bif Nat.beq pc 48 then some (.bipush 6, 2, 50, [], 6) else none)
  else (bif Nat.beq pc 50 then some (.invokevirtual 152, 3, 53, [], 0) else none))
  else (bif Nat.ble pc 53 then (bif Nat.beq pc 53 then some (.ifCond .eq 19, 3, 56, [72], 0) else none)
  else (bif Nat.beq pc 56 then some (.aload_n 0, 1, 57, [], 0) else none))) : nk_F) pc
  else ((fun pc => bif Nat.ble pc 60 then (bif Nat.ble pc 57 then (bif Nat.beq pc 57 then some (.getfield 41, 3, 60, [], 0) else none)
  else (bif Nat.beq pc 60 then some (.iload_n 3, 1, 61, [], 0) else none))
  else (bif Nat.ble pc 61 then (bif Nat.beq pc 61 then some (.iaload, 1, 62, [], 0) else none)
  else (bif Nat.beq pc 62 then some (.aload_n 0, 1, 63, [], 0) else none))) : nk_F) pc) : nk_F) pc
  else ((fun pc => bif Nat.ble pc 69 then ((fun pc => bif Nat.ble pc 66 then (bif Nat.ble pc 63 then (bif Nat.beq pc 63 then some (.getfield 41, 3, 66, [], 0) else none)
  else (bif Nat.beq pc 66 then some (.iload 4, 2, 68, [], 0) else none))
  else (bif Nat.ble pc 68 then (bif Nat.beq pc 68 then some (.iaload, 1, 69, [], 0) else none)
  else (bif Nat.beq pc 69 then some (.if_icmp .ne 5, 3, 72, [74], 0) else none))) : nk_F) pc
  else ((fun pc => bif Nat.ble pc 73 then (bif Nat.ble pc 72 then (bif Nat.beq pc 72 then some (.iconst 0, 1, 73, [], 0) else none)
  else (bif Nat.beq pc 73 then some (.ireturn, 1, 74, [], 0) else none))
  else (bif Nat.ble pc 74 then (bif Nat.beq pc 74 then some (.aload_n 0, 1, 75, [], 0) else none)
  else (bif Nat.beq pc 75 then some (.getfield 47, 3, 78, [], 0) else none))) : nk_F) pc) : nk_F) pc) : nk_F) pc
  else ((fun pc => bif Nat.ble pc 89 then ((fun pc => bif Nat.ble pc 84 then ((fun pc => bif Nat.ble pc 79 then (bif Nat.ble pc 78 then (bif Nat.beq pc 78 then some (.aload_n 0, 1, 79, [], 0) else none)
  else (bif Nat.beq pc 79 then some (.getfield 41, 3, 82, [], 0) else none))
  else (bif Nat.ble pc 82 then (bif Nat.beq pc 82 then some (.iload 4, 2, 84, [], 0) else none)
  else (bif Nat.beq pc 84 then some (.iaload, 1, 85, [], 0) else none))) : nk_F) pc
  else ((fun pc => bif Nat.ble pc 86 then (bif Nat.ble pc 85 then (bif Nat.beq pc 85 then some (.iaload, 1, 86, [], 0) else none)
  else (bif Nat.beq pc 86 then some (.istore 5, 2, 88, [], 0) else none))
  else (bif Nat.ble pc 88 then (bif Nat.beq pc 88 then some (.aload_n 0, 1, 89, [], 0) else none)
  else (bif Nat.beq pc 89 then some (.iconst 0, 1, 90, [], 0) else none))) : nk_F) pc) : nk_F) pc
  else ((fun pc => bif Nat.ble pc 94 then ((fun pc => bif Nat.ble pc 91 then (bif Nat.ble pc 90 then (bif Nat.beq pc 90 then some (.iconst 0, 1, 91, [], 0) else none)
  else (bif Nat.beq pc 91 then some (.iload_n 2, 1, 92, [], 0) else none))
  else (bif Nat.ble pc 92 then (bif Nat.beq pc 92 then some (.bipush (-9), 2, 94, [], (-9)) else none)
  else (bif Nat.beq pc 94 then some (.invokevirtual 224, 3, 97, [], 0) else none))) : nk_F) pc
  else ((fun pc => bif Nat.ble pc 98 then (bif Nat.ble pc 97 then (bif Nat.beq pc 97 then some (.pop, 1, 98, [], 0) else none)
  else (bif Nat.beq pc 98 then some (.iload_n 1, 1, 99, [], 0) else none))
  else ((fun pc => bif Nat.ble pc 99 then (bif Nat.beq pc 99 then some (.iconst 1, 1, 100, [], 1) else none)
  else (bif Nat.ble pc 100 then (bif Nat.beq pc 100 then some (.iadd, 1, 101, [], 0) else none)
  else (bif Nat.beq pc 101 then some (.istore 6, 2, 103, [], 0) else none))) : nk_F) pc) : nk_F) pc) : nk_F) pc) : nk_F) pc) : nk_F) pc) : nk_F) pc
  else ((fun pc => bif Nat.ble pc 160 then ((fun pc => bif Nat.ble pc 130 then ((fun pc => bif Nat.ble pc 116 then ((fun pc => bif Nat.ble pc 109 then ((fun pc => bif Nat.ble pc 105 then (bif Nat.ble pc 103 then (bif Nat.beq pc 103 then some (.iload 6, 2, 105, [], 0) else none)
  else (bif Nat.beq pc 105 then some (.iload_n 2, 1, 106, [], 0) else none))
  else (bif Nat.ble pc 106 then (bif Nat.beq pc 106 then some (.if_icmp .ge 88, 3, 109, [194], 0) else none)
  else (bif Nat.beq pc 109 then some (.aload_n 0, 1, 110, [], 0) else none))) : nk_F) pc
  else ((fun pc => bif Nat.ble pc 113 then (bif Nat.ble pc 110 then (bif Nat.beq pc 110 then some (.getfield 41, 3, 113, [], 0) else none)
  else (bif Nat.beq pc 113 then some (.aload_n 0, 1, 114, [], 0) else none))
  else (bif Nat.ble pc 114 then (bif Nat.beq pc 114 then some (.iload 6, 2, 116, [], 0) else none)
  else (bif Nat.beq pc 116 then some (.iconst 1, 1, 117, [], 1) else none))) : nk_F) pc) : nk_F) pc
  else ((fun pc => bif Nat.ble pc 122 then ((fun pc => bif Nat.ble pc 120 then (bif Nat.ble pc 117 then (bif Nat.beq pc 117 then some (.invokevirtual 152, 3, 120, [], 0) else none)
  else (bif Nat.beq pc 120 then some (.iaload, 1, 121, [], 0) else none))
  else (bif Nat.ble pc 121 then (bif Nat.beq pc 121 then some (.aload_n 0, 1, 122, [], 0) else none)
  else (bif Nat.beq pc 122 then some (.getfield 41, 3, 125, [], 0) else none))) : nk_F) pc
  else ((fun pc => bif Nat.ble pc 126 then (bif Nat.ble pc 125 then (bif Nat.beq pc 125 then some (.iload_n 3, 1, 126, [], 0) else none)
  else (bif Nat.beq pc 126 then some (.iaload, 1, 127, [], 0) else none))
  else (bif Nat.ble pc 127 then (bif Nat.beq pc 127 then some (.if_icmp .eq 37, 3, 130, [164], 0) else none)
  else (bif Nat.beq pc 130 then some (.aload_n 0, 1, 131, [], 0) else none))) : nk_F) pc) : nk_F) pc) : nk_F) pc
  else ((fun pc => bif Nat.ble pc 147 then ((fun pc => bif Nat.ble pc 137 then ((fun pc => bif Nat.ble pc 133 then (bif Nat.ble pc 131 then (bif Nat.beq pc 131 then some (.iload 6, 2, 133, [], 0) else none)
  else (bif Nat.beq pc 133 then some (.iconst 0, 1, 134, [], 0) else none))
  else (bif Nat.ble pc 134 then (bif Nat.beq pc 134 then some (.invokevirtual 152, 3, 137, [], 0) else none)
  else (bif Nat.beq pc 137 then some (.invokestatic 137, 3, 140, [], 0) else none))) : nk_F) pc
  else ((fun pc => bif Nat.ble pc 143 then (bif Nat.ble pc 140 then (bif Nat.beq pc 140 then some (.ifCond .eq 28, 3, 143, [168], 0) else none)
  else (bif Nat.beq pc 143 then some (.aload_n 0, 1, 144, [], 0) else none))
  else (bif Nat.ble pc 144 then (bif Nat.beq pc 144 then some (.getfield 41, 3, 147, [], 0) else none)
  else (bif Nat.beq pc 147 then some (.aload_n 0, 1, 148, [], 0) else none))) : nk_F) pc) : nk_F) pc
  else ((fun pc => bif Nat.ble pc 154 then ((fun pc => bif Nat.ble pc 150 then (bif Nat.ble pc 148 then (bif Nat.beq pc 148 then some (.iload 6, 2, 150, [], 0) else none)
  else (bif Nat.beq pc 150 then some (.iconst 2, 1, 151, [], 2) else none))
  else (bif Nat.ble pc 151 then (bif Nat.beq pc 151 then some (.invokevirtual 152, 3, 154, [], 0) else none)
  else (bif Nat.beq pc 154 then some (.iaload, 1, 155, [], 0) else none))) : nk_F) pc
  else ((fun pc => bif Nat.ble pc 156 then (bif Nat.ble pc 155 then (bif Nat.beq pc 155 then some (.aload_n 0, 1, 156, [], 0) else none)
  else (bif Nat.beq pc 156 then some (.getfield 41, 3, 159, [], 0) else none))
  else (bif Nat.ble pc 159 then (bif Nat.beq pc 159 then some (.iload_n 3, 1, 160, [], 0) else none)
  else (bif Nat.beq pc 160 then some (.iaload, 1, 161, [], 0) else none))) : nk_F) pc) : nk_F) pc) : nk_F) pc) : nk_F) pc
  else ((fun pc => bif Nat.ble pc 191 then ((fun pc => bif Nat.ble pc 176 then ((fun pc => bif Nat.ble pc 168 then ((fun pc => bif Nat.ble pc 164 then (bif Nat.ble pc 161 then (bif Nat.beq pc 161 then some (.if_icmp .ne 7, 3, 164, [168], 0) else none)
  else (bif Nat.beq pc 164 then some (.iconst 1, 1, 165, [], 1) else none))
  else (bif Nat.ble pc 165 then (bif Nat.beq pc 165 then some (.goto 4, 3, 168, [169], 0) else none)
  else (bif Nat.beq pc 168 then some (.iconst 0, 1, 169, [], 0) else none))) : nk_F) pc
  else ((fun pc => bif Nat.ble pc 171 then (bif Nat.ble pc 169 then (bif Nat.beq pc 169 then some (.istore 7, 2, 171, [], 0) else none)
  else (bif Nat.beq pc 171 then some (.iload 7, 2, 173, [], 0) else none))
  else (bif Nat.ble pc 173 then (bif Nat.beq pc 173 then some (.ifCond .eq 15, 3, 176, [188], 0) else none)
  else (bif Nat.beq pc 176 then some (.aload_n 0, 1, 177, [], 0) else none))) : nk_F) pc) : nk_F) pc
  else ((fun pc => bif Nat.ble pc 183 then ((fun pc => bif Nat.ble pc 179 then (bif Nat.ble pc 177 then (bif Nat.beq pc 177 then some (.iload 6, 2, 179, [], 0) else none)
  else (bif Nat.beq pc 179 then some (.iconst 0, 1, 180, [], 0) else none))
  else (bif Nat.ble pc 180 then (bif Nat.beq pc 180 then some (.invokevirtual 152, 3, 183, [], 0) else none)
  else (bif Nat.beq pc 183 then some (.ifCond .eq 5, 3, 186, [188], 0) else none))) : nk_F) pc
  else ((fun pc => bif Nat.ble pc 187 then (bif Nat.ble pc 186 then (bif Nat.beq pc 186 then some (.iconst 0, 1, 187, [], 0) else none)
  else (bif Nat.beq pc 187 then some (.ireturn, 1, 188, [], 0) else none))
  else (bif Nat.ble pc 188 then (bif Nat.beq pc 188 then some (.iinc 6 1, 3, 191, [], 1) else none)
  else (bif Nat.beq pc 191 then some (.goto (-88), 3, 194, [103], 0) else none))) : nk_F) pc) : nk_F) pc) : nk_F) pc
  else ((fun pc => bif Nat.ble pc 204 then ((fun pc => bif Nat.ble pc 198 then ((fun pc => bif Nat.ble pc 195 then (bif Nat.ble pc 194 then (bif Nat.beq pc 194 then some (.aload_n 0, 1, 195, [], 0) else none)
  else (bif Nat.beq pc 195 then some (.iload 5, 2, 197, [], 0) else none))
  else (bif Nat.ble pc 197 then (bif Nat.beq pc 197 then some (.iconst 1, 1, 198, [], 1) else none)
  else (bif Nat.beq pc 198 then some (.isub, 1, 199, [], 0) else none))) : nk_F) pc
  else ((fun pc => bif Nat.ble pc 200 then (bif Nat.ble pc 199 then (bif Nat.beq pc 199 then some (.aload_n 0, 1, 200, [], 0) else none)
  else (bif Nat.beq pc 200 then some (.getfield 47, 3, 203, [], 0) else none))
  else (bif Nat.ble pc 203 then (bif Nat.beq pc 203 then some (.aload_n 0, 1, 204, [], 0) else none)
  else (bif Nat.beq pc 204 then some (.getfield 41, 3, 207, [], 0) else none))) : nk_F) pc) : nk_F) pc
  else ((fun pc => bif Nat.ble pc 210 then ((fun pc => bif Nat.ble pc 208 then (bif Nat.ble pc 207 then (bif Nat.beq pc 207 then some (.iload_n 3, 1, 208, [], 0) else none)
  else (bif Nat.beq pc 208 then some (.iaload, 1, 209, [], 0) else none))
  else (bif Nat.ble pc 209 then (bif Nat.beq pc 209 then some (.iaload, 1, 210, [], 0) else none)
  else (bif Nat.beq pc 210 then some (.bipush 10, 2, 212, [], 10) else none))) : nk_F) pc
  else ((fun pc => bif Nat.ble pc 213 then (bif Nat.ble pc 212 then (bif Nat.beq pc 212 then some (.idiv, 1, 213, [], 0) else none)
  else (bif Nat.beq pc 213 then some (.isub, 1, 214, [], 0) else none))
  else ((fun pc => bif Nat.ble pc 214 then (bif Nat.beq pc 214 then some (.iconst 1, 1, 215, [], 1) else none)
  else (bif Nat.ble pc 215 then (bif Nat.beq pc 215 then some (.invokevirtual 111, 3, 218, [], 0) else none)
  else (bif Nat.beq pc 218 then some (.ireturn, 1, 219, [], 0) else none))) : nk_F) pc) : nk_F) pc) : nk_F) pc) : nk_F) pc) : nk_F) pc) : nk_F) pc
noncomputable def kc_X6_undo : Nat → Option nk_I := nk_top 219 kt_X6_undo
noncomputable def kx_X6_undo : nk_T := ([(41, 6, 16, 4), (47, 6, 18, 4)], [(908, 2, 7, 0, 0, ev_X6_isMany), (358, 3, 0, 0, 0, ev_X6_in), (896, 5, 7, 0, 0, ev_X6_goes), (608, 3, 7, 0, 0, ev_X6_part), (550, 1, 0, 0, 0, ev_X6_brings), (444, 3, 7, 0, 0, ev_X6_ask)], [], [], [], [], [], 1, false, 0, 0)
noncomputable def ev_X6_undo : nk_Ev := fun as h Q => nk_if (Nat.ble (nk_wd as) 8) (nk_ev kx_X6_undo kc_X6_undo 8 as h Q)
set_option maxRecDepth 100000 in
theorem ck_X6_undo : nk_chk cX6_undo kc_X6_undo 219 = true := nd_chk (by decide +kernel) (by decide +kernel)
set_option maxRecDepth 100000 in
set_option maxHeartbeats 4000000 in
theorem ca_X6_undo_908 (l : Launch) : nk_CallOk l { frames := 6, cells := 0, slots := 0, locals := 159 } RX6 cX6_undo 8 false 908 (2, 7, 0, 0, ev_X6_isMany) := nk_callV (x := 227) (n := 1) (ci := 6) (r := (RX6, TX6, 32)) (mt_X6_isMany l) rfl (nk_msc [(5, 15), (5, 16), (5, 17), (5, 18), (0, 48), (1, 7)] (by decide +kernel)) rfl rfl (by decide +kernel) ⟨by decide, by decide⟩
set_option maxRecDepth 100000 in
set_option maxHeartbeats 4000000 in
theorem ca_X6_undo_358 (l : Launch) : nk_CallOk l { frames := 6, cells := 0, slots := 0, locals := 159 } RX6 cX6_undo 8 false 358 (3, 0, 0, 0, ev_X6_in) := nk_callS (x := 89) (n := 3) (mt_X6_in l) (nk_msc [(4, 57), (4, 58), (4, 59), (1, 7)] (by decide +kernel)) rfl rfl (by decide +kernel) ⟨by decide, by decide⟩
set_option maxRecDepth 100000 in
set_option maxHeartbeats 4000000 in
theorem ca_X6_undo_896 (l : Launch) : nk_CallOk l { frames := 6, cells := 0, slots := 0, locals := 159 } RX6 cX6_undo 8 false 896 (5, 7, 0, 0, ev_X6_goes) := nk_callV (x := 224) (n := 4) (ci := 6) (r := (RX6, TX6, 32)) (mt_X6_goes l) rfl (nk_msc [(4, 208), (4, 209), (4, 210), (4, 211), (0, 39), (1, 7)] (by decide +kernel)) rfl rfl (by decide +kernel) ⟨by decide, by decide⟩
set_option maxRecDepth 100000 in
set_option maxHeartbeats 4000000 in
theorem ca_X6_undo_608 (l : Launch) : nk_CallOk l { frames := 6, cells := 0, slots := 0, locals := 159 } RX6 cX6_undo 8 false 608 (3, 7, 0, 0, ev_X6_part) := nk_callV (x := 152) (n := 2) (ci := 6) (r := (RX6, TX6, 32)) (mt_X6_part l) rfl (nk_msc [(4, 164), (4, 165), (4, 166), (4, 167), (0, 35), (1, 7)] (by decide +kernel)) rfl rfl (by decide +kernel) ⟨by decide, by decide⟩
set_option maxRecDepth 100000 in
set_option maxHeartbeats 4000000 in
theorem ca_X6_undo_550 (l : Launch) : nk_CallOk l { frames := 6, cells := 0, slots := 0, locals := 159 } RX6 cX6_undo 8 false 550 (1, 0, 0, 0, ev_X6_brings) := nk_callS (x := 137) (n := 1) (mt_X6_brings l) (nk_msc [(4, 146), (4, 147), (4, 148), (1, 7)] (by decide +kernel)) rfl rfl (by decide +kernel) ⟨by decide, by decide⟩
set_option maxRecDepth 100000 in
set_option maxHeartbeats 4000000 in
theorem ca_X6_undo_444 (l : Launch) : nk_CallOk l { frames := 6, cells := 0, slots := 0, locals := 159 } RX6 cX6_undo 8 false 444 (3, 7, 0, 0, ev_X6_ask) := nk_callV (x := 111) (n := 2) (ci := 6) (r := (RX6, TX6, 32)) (mt_X6_ask l) rfl (nk_msc [(4, 76), (4, 77), (4, 78), (4, 79), (0, 29), (1, 7)] (by decide +kernel)) rfl rfl (by decide +kernel) ⟨by decide, by decide⟩
set_option maxRecDepth 100000 in
set_option maxHeartbeats 4000000 in
theorem mt_X6_undo (l : Launch) : nk_Met l yX6_undo cX6_undo 8 (some .int) { frames := 6, cells := 0, slots := 0, locals := 159 } false 0 0 ev_X6_undo :=
  nk_met nk_gok (plainFor_of_name (by decide)) ck_X6_undo (nk_top_out 219 kt_X6_undo) ⟨List.forall_mem_cons.mpr ⟨nk_fkc [(3, 209)] (by decide +kernel), List.forall_mem_cons.mpr ⟨nk_fkc [(3, 211)] (by decide +kernel), fun _ h => absurd h List.not_mem_nil⟩⟩, List.forall_mem_cons.mpr ⟨ca_X6_undo_908 l, List.forall_mem_cons.mpr ⟨ca_X6_undo_358 l, List.forall_mem_cons.mpr ⟨ca_X6_undo_896 l, List.forall_mem_cons.mpr ⟨ca_X6_undo_608 l, List.forall_mem_cons.mpr ⟨ca_X6_undo_550 l, List.forall_mem_cons.mpr ⟨ca_X6_undo_444 l, fun _ h => absurd h List.not_mem_nil⟩⟩⟩⟩⟩⟩, fun _ h => absurd h List.not_mem_nil, fun _ h => absurd h List.not_mem_nil, fun _ h => absurd h List.not_mem_nil, fun _ h => absurd h List.not_mem_nil, fun _ h => absurd h List.not_mem_nil, by decide, rfl, rfl⟩ rfl (by decide)
/-! MarbleLawModel.hasBy(IIII)I -/
noncomputable def kt_X6_hasBy : Nat → Option nk_I := fun pc => bif Nat.ble pc 29 then ((fun pc => bif Nat.ble pc 13 then ((fun pc => bif Nat.ble pc 4 then ((fun pc => bif Nat.ble pc 1 then (bif Nat.ble pc 0 then (bif Nat.beq pc 0 then some (.iconst 0, 1, 1, [], 0) else none)
  else (bif Nat.beq pc 1 then some (.istore 5, 2, 3, [], 0) else none))
  else (bif Nat.ble pc 3 then (bif Nat.beq pc 3 then some (.iconst 0, 1, 4, [], 0) else none)
  else (bif Nat.beq pc 4 then some (.istore 6, 2, 6, [], 0) else none))) : nk_F) pc
  else ((fun pc => bif Nat.ble pc 8 then (bif Nat.ble pc 6 then (bif Nat.beq pc 6 then some (.iload 6, 2, 8, [], 0) else none)
  else (bif Nat.beq pc 8 then some (.bipush 16, 2, 10, [], 16) else none))
  else (bif Nat.ble pc 10 then (bif Nat.beq pc 10 then some (.if_icmp .ge 50, 3, 13, [60], 0) else none)
  else (bif Nat.beq pc 13 then some (.aload_n 0, 1, 14, [], 0) else none))) : nk_F) pc) : nk_F) pc
  else ((fun pc => bif Nat.ble pc 18 then ((fun pc => bif Nat.ble pc 15 then (bif Nat.ble pc 14 then (bif Nat.beq pc 14 then some (.iload_n 1, 1, 15, [], 0) else none)
  else (bif Nat.beq pc 15 then some (.iload 6, 2, 17, [], 0) else none))
  else (bif Nat.ble pc 17 then (bif Nat.beq pc 17 then some (.iload_n 3, 1, 18, [], 0) else none)
  else (bif Nat.beq pc 18 then some (.bipush (-9), 2, 20, [], (-9)) else none))) : nk_F) pc
  else ((fun pc => bif Nat.ble pc 23 then (bif Nat.ble pc 20 then (bif Nat.beq pc 20 then some (.invokevirtual 224, 3, 23, [], 0) else none)
  else (bif Nat.beq pc 23 then some (.ifCond .ne 6, 3, 26, [29], 0) else none))
  else ((fun pc => bif Nat.ble pc 26 then (bif Nat.beq pc 26 then some (.bipush (-9), 2, 28, [], (-9)) else none)
  else (bif Nat.ble pc 28 then (bif Nat.beq pc 28 then some (.ireturn, 1, 29, [], 0) else none)
  else (bif Nat.beq pc 29 then some (.iload 5, 2, 31, [], 0) else none))) : nk_F) pc) : nk_F) pc) : nk_F) pc) : nk_F) pc
  else ((fun pc => bif Nat.ble pc 44 then ((fun pc => bif Nat.ble pc 35 then ((fun pc => bif Nat.ble pc 32 then (bif Nat.ble pc 31 then (bif Nat.beq pc 31 then some (.aload_n 0, 1, 32, [], 0) else none)
  else (bif Nat.beq pc 32 then some (.iload_n 2, 1, 33, [], 0) else none))
  else (bif Nat.ble pc 33 then (bif Nat.beq pc 33 then some (.iload 4, 2, 35, [], 0) else none)
  else (bif Nat.beq pc 35 then some (.invokevirtual 233, 3, 38, [], 0) else none))) : nk_F) pc
  else ((fun pc => bif Nat.ble pc 39 then (bif Nat.ble pc 38 then (bif Nat.beq pc 38 then some (.lconst 0, 1, 39, [], 0) else none)
  else (bif Nat.beq pc 39 then some (.lcmp, 1, 40, [], 0) else none))
  else ((fun pc => bif Nat.ble pc 40 then (bif Nat.beq pc 40 then some (.ifCond .le 10, 3, 43, [50], 0) else none)
  else (bif Nat.ble pc 43 then (bif Nat.beq pc 43 then some (.iconst 1, 1, 44, [], 1) else none)
  else (bif Nat.beq pc 44 then some (.iload 6, 2, 46, [], 0) else none))) : nk_F) pc) : nk_F) pc) : nk_F) pc
  else ((fun pc => bif Nat.ble pc 51 then ((fun pc => bif Nat.ble pc 47 then (bif Nat.ble pc 46 then (bif Nat.beq pc 46 then some (.ishl, 1, 47, [], 0) else none)
  else (bif Nat.beq pc 47 then some (.goto 4, 3, 50, [51], 0) else none))
  else (bif Nat.ble pc 50 then (bif Nat.beq pc 50 then some (.iconst 0, 1, 51, [], 0) else none)
  else (bif Nat.beq pc 51 then some (.ior, 1, 52, [], 0) else none))) : nk_F) pc
  else ((fun pc => bif Nat.ble pc 54 then (bif Nat.ble pc 52 then (bif Nat.beq pc 52 then some (.istore 5, 2, 54, [], 0) else none)
  else (bif Nat.beq pc 54 then some (.iinc 6 1, 3, 57, [], 1) else none))
  else ((fun pc => bif Nat.ble pc 57 then (bif Nat.beq pc 57 then some (.goto (-51), 3, 60, [6], 0) else none)
  else (bif Nat.ble pc 60 then (bif Nat.beq pc 60 then some (.iload 5, 2, 62, [], 0) else none)
  else (bif Nat.beq pc 62 then some (.ireturn, 1, 63, [], 0) else none))) : nk_F) pc) : nk_F) pc) : nk_F) pc) : nk_F) pc
noncomputable def kc_X6_hasBy : Nat → Option nk_I := nk_top 63 kt_X6_hasBy
noncomputable def kx_X6_hasBy : nk_T := ([], [(896, 5, 7, 0, 0, ev_X6_goes), (932, 3, 7, 0, 0, ev_X6_partOf)], [], [], [], [], [], 1, false, 0, 0)
noncomputable def ev_X6_hasBy : nk_Ev := fun as h Q => nk_if (Nat.ble (nk_wd as) 7) (nk_ev kx_X6_hasBy kc_X6_hasBy 7 as h Q)
set_option maxRecDepth 100000 in
theorem ck_X6_hasBy : nk_chk cX6_hasBy kc_X6_hasBy 63 = true := nd_chk (by decide +kernel) (by decide +kernel)
set_option maxRecDepth 100000 in
set_option maxHeartbeats 4000000 in
theorem ca_X6_hasBy_896 (l : Launch) : nk_CallOk l { frames := 6, cells := 0, slots := 0, locals := 159 } RX6 cX6_hasBy 7 false 896 (5, 7, 0, 0, ev_X6_goes) := nk_callV (x := 224) (n := 4) (ci := 6) (r := (RX6, TX6, 32)) (mt_X6_goes l) rfl (nk_msc [(4, 208), (4, 209), (4, 210), (4, 211), (0, 39), (1, 7)] (by decide +kernel)) rfl rfl (by decide +kernel) ⟨by decide, by decide⟩
set_option maxRecDepth 100000 in
set_option maxHeartbeats 4000000 in
theorem ca_X6_hasBy_932 (l : Launch) : nk_CallOk l { frames := 6, cells := 0, slots := 0, locals := 159 } RX6 cX6_hasBy 7 false 932 (3, 7, 0, 0, ev_X6_partOf) := nk_callV (x := 233) (n := 2) (ci := 6) (r := (RX6, TX6, 32)) (mt_X6_partOf l) rfl (nk_msc [(5, 30), (5, 31), (5, 32), (5, 33), (0, 49), (1, 7)] (by decide +kernel)) rfl rfl (by decide +kernel) ⟨by decide, by decide⟩
set_option maxRecDepth 100000 in
set_option maxHeartbeats 4000000 in
theorem mt_X6_hasBy (l : Launch) : nk_Met l yX6_hasBy cX6_hasBy 7 (some .int) { frames := 6, cells := 0, slots := 0, locals := 159 } false 0 0 ev_X6_hasBy :=
  nk_met nk_gok (plainFor_of_name (by decide)) ck_X6_hasBy (nk_top_out 63 kt_X6_hasBy) ⟨fun _ h => absurd h List.not_mem_nil, List.forall_mem_cons.mpr ⟨ca_X6_hasBy_896 l, List.forall_mem_cons.mpr ⟨ca_X6_hasBy_932 l, fun _ h => absurd h List.not_mem_nil⟩⟩, fun _ h => absurd h List.not_mem_nil, fun _ h => absurd h List.not_mem_nil, fun _ h => absurd h List.not_mem_nil, fun _ h => absurd h List.not_mem_nil, fun _ h => absurd h List.not_mem_nil, by decide, rfl, rfl⟩ rfl (by decide)
/-! MarbleLawModel.askedBy(IIII)I -/
noncomputable def kt_X6_askedBy : Nat → Option nk_I := fun pc => bif Nat.ble pc 35 then ((fun pc => bif Nat.ble pc 16 then ((fun pc => bif Nat.ble pc 5 then ((fun pc => bif Nat.ble pc 1 then (bif Nat.ble pc 0 then (bif Nat.beq pc 0 then some (.aload_n 0, 1, 1, [], 0) else none)
  else (bif Nat.beq pc 1 then some (.iload_n 2, 1, 2, [], 0) else none))
  else (bif Nat.ble pc 2 then (bif Nat.beq pc 2 then some (.invokevirtual 134, 3, 5, [], 0) else none)
  else (bif Nat.beq pc 5 then some (.ifCond .eq 19, 3, 8, [24], 0) else none))) : nk_F) pc
  else ((fun pc => bif Nat.ble pc 9 then (bif Nat.ble pc 8 then (bif Nat.beq pc 8 then some (.aload_n 0, 1, 9, [], 0) else none)
  else (bif Nat.beq pc 9 then some (.iload_n 3, 1, 10, [], 0) else none))
  else ((fun pc => bif Nat.ble pc 10 then (bif Nat.beq pc 10 then some (.invokevirtual 227, 3, 13, [], 0) else none)
  else (bif Nat.ble pc 13 then (bif Nat.beq pc 13 then some (.ifCond .eq 11, 3, 16, [24], 0) else none)
  else (bif Nat.beq pc 16 then some (.iload 4, 2, 18, [], 0) else none))) : nk_F) pc) : nk_F) pc) : nk_F) pc
  else ((fun pc => bif Nat.ble pc 26 then ((fun pc => bif Nat.ble pc 21 then (bif Nat.ble pc 18 then (bif Nat.beq pc 18 then some (.invokestatic 123, 3, 21, [], 0) else none)
  else (bif Nat.beq pc 21 then some (.ifCond .ne 5, 3, 24, [26], 0) else none))
  else ((fun pc => bif Nat.ble pc 24 then (bif Nat.beq pc 24 then some (.iconst (-1), 1, 25, [], (-1)) else none)
  else (bif Nat.ble pc 25 then (bif Nat.beq pc 25 then some (.ireturn, 1, 26, [], 0) else none)
  else (bif Nat.beq pc 26 then some (.aload_n 0, 1, 27, [], 0) else none))) : nk_F) pc) : nk_F) pc
  else ((fun pc => bif Nat.ble pc 28 then (bif Nat.ble pc 27 then (bif Nat.beq pc 27 then some (.iload_n 1, 1, 28, [], 0) else none)
  else (bif Nat.beq pc 28 then some (.invokevirtual 176, 3, 31, [], 0) else none))
  else ((fun pc => bif Nat.ble pc 31 then (bif Nat.beq pc 31 then some (.istore 5, 2, 33, [], 0) else none)
  else (bif Nat.ble pc 33 then (bif Nat.beq pc 33 then some (.iload 5, 2, 35, [], 0) else none)
  else (bif Nat.beq pc 35 then some (.ifCond .ge 6, 3, 38, [41], 0) else none))) : nk_F) pc) : nk_F) pc) : nk_F) pc) : nk_F) pc
  else ((fun pc => bif Nat.ble pc 50 then ((fun pc => bif Nat.ble pc 43 then ((fun pc => bif Nat.ble pc 40 then (bif Nat.ble pc 38 then (bif Nat.beq pc 38 then some (.iload 5, 2, 40, [], 0) else none)
  else (bif Nat.beq pc 40 then some (.ireturn, 1, 41, [], 0) else none))
  else ((fun pc => bif Nat.ble pc 41 then (bif Nat.beq pc 41 then some (.aload_n 0, 1, 42, [], 0) else none)
  else (bif Nat.ble pc 42 then (bif Nat.beq pc 42 then some (.aload_n 0, 1, 43, [], 0) else none)
  else (bif Nat.beq pc 43 then some (.getfield 38, 3, 46, [], 0) else none))) : nk_F) pc) : nk_F) pc
  else ((fun pc => bif Nat.ble pc 47 then (bif Nat.ble pc 46 then (bif Nat.beq pc 46 then some (.iload_n 1, 1, 47, [], 0) else none)
  else (bif Nat.beq pc 47 then some (.iaload, 1, 48, [], 0) else none))
  else ((fun pc => bif Nat.ble pc 48 then (bif Nat.beq pc 48 then some (.iload_n 2, 1, 49, [], 0) else none)
  else (bif Nat.ble pc 49 then (bif Nat.beq pc 49 then some (.iload_n 3, 1, 50, [], 0) else none)
  else (bif Nat.beq pc 50 then some (.iload 4, 2, 52, [], 0) else none))) : nk_F) pc) : nk_F) pc) : nk_F) pc
  else ((fun pc => bif Nat.ble pc 62 then ((fun pc => bif Nat.ble pc 55 then (bif Nat.ble pc 52 then (bif Nat.beq pc 52 then some (.invokevirtual 247, 3, 55, [], 0) else none)
  else (bif Nat.beq pc 55 then some (.istore 6, 2, 57, [], 0) else none))
  else ((fun pc => bif Nat.ble pc 57 then (bif Nat.beq pc 57 then some (.iload 6, 2, 59, [], 0) else none)
  else (bif Nat.ble pc 59 then (bif Nat.beq pc 59 then some (.ifCond .ge 11, 3, 62, [70], 0) else none)
  else (bif Nat.beq pc 62 then some (.aload_n 0, 1, 63, [], 0) else none))) : nk_F) pc) : nk_F) pc
  else ((fun pc => bif Nat.ble pc 64 then (bif Nat.ble pc 63 then (bif Nat.beq pc 63 then some (.iconst 5, 1, 64, [], 5) else none)
  else (bif Nat.beq pc 64 then some (.invokevirtual 97, 3, 67, [], 0) else none))
  else ((fun pc => bif Nat.ble pc 67 then (bif Nat.beq pc 67 then some (.goto 5, 3, 70, [72], 0) else none)
  else (bif Nat.ble pc 70 then (bif Nat.beq pc 70 then some (.iload 6, 2, 72, [], 0) else none)
  else (bif Nat.beq pc 72 then some (.ireturn, 1, 73, [], 0) else none))) : nk_F) pc) : nk_F) pc) : nk_F) pc) : nk_F) pc
noncomputable def kc_X6_askedBy : Nat → Option nk_I := nk_top 73 kt_X6_askedBy
noncomputable def kx_X6_askedBy : nk_T := ([(38, 6, 14, 4)], [(536, 2, 7, 0, 0, ev_X6_isStuff), (908, 2, 7, 0, 0, ev_X6_isMany), (494, 1, 0, 0, 0, ev_X6_isPerson), (704, 2, 7, 0, 0, ev_X6_askedLaws), (988, 5, 7, 0, 0, ev_X6_hasBy), (388, 2, 7, 0, 0, ev_X6_meets)], [], [], [], [], [], 1, false, 0, 0)
noncomputable def ev_X6_askedBy : nk_Ev := fun as h Q => nk_if (Nat.ble (nk_wd as) 7) (nk_ev kx_X6_askedBy kc_X6_askedBy 7 as h Q)
set_option maxRecDepth 100000 in
theorem ck_X6_askedBy : nk_chk cX6_askedBy kc_X6_askedBy 73 = true := nd_chk (by decide +kernel) (by decide +kernel)
set_option maxRecDepth 100000 in
set_option maxHeartbeats 4000000 in
theorem ca_X6_askedBy_536 (l : Launch) : nk_CallOk l { frames := 7, cells := 0, slots := 0, locals := 185 } RX6 cX6_askedBy 7 false 536 (2, 7, 0, 0, ev_X6_isStuff) := nk_callV (x := 134) (n := 1) (ci := 6) (r := (RX6, TX6, 32)) (mt_X6_isStuff l) rfl (nk_msc [(4, 134), (4, 135), (4, 136), (4, 137), (0, 32), (1, 7)] (by decide +kernel)) rfl rfl (by decide +kernel) ⟨by decide, by decide⟩
set_option maxRecDepth 100000 in
set_option maxHeartbeats 4000000 in
theorem ca_X6_askedBy_908 (l : Launch) : nk_CallOk l { frames := 7, cells := 0, slots := 0, locals := 185 } RX6 cX6_askedBy 7 false 908 (2, 7, 0, 0, ev_X6_isMany) := nk_callV (x := 227) (n := 1) (ci := 6) (r := (RX6, TX6, 32)) (mt_X6_isMany l) rfl (nk_msc [(5, 15), (5, 16), (5, 17), (5, 18), (0, 48), (1, 7)] (by decide +kernel)) rfl rfl (by decide +kernel) ⟨by decide, by decide⟩
set_option maxRecDepth 100000 in
set_option maxHeartbeats 4000000 in
theorem ca_X6_askedBy_494 (l : Launch) : nk_CallOk l { frames := 7, cells := 0, slots := 0, locals := 185 } RX6 cX6_askedBy 7 false 494 (1, 0, 0, 0, ev_X6_isPerson) := nk_callS (x := 123) (n := 1) (mt_X6_isPerson l) (nk_msc [(4, 119), (4, 120), (4, 121), (1, 7)] (by decide +kernel)) rfl rfl (by decide +kernel) ⟨by decide, by decide⟩
set_option maxRecDepth 100000 in
set_option maxHeartbeats 4000000 in
theorem ca_X6_askedBy_704 (l : Launch) : nk_CallOk l { frames := 7, cells := 0, slots := 0, locals := 185 } RX6 cX6_askedBy 7 false 704 (2, 7, 0, 0, ev_X6_askedLaws) := nk_callV (x := 176) (n := 1) (ci := 6) (r := (RX6, TX6, 32)) (mt_X6_askedLaws l) rfl (nk_msc [(4, 200), (4, 201), (4, 202), (4, 203), (0, 38), (1, 7)] (by decide +kernel)) rfl rfl (by decide +kernel) ⟨by decide, by decide⟩
set_option maxRecDepth 100000 in
set_option maxHeartbeats 4000000 in
theorem ca_X6_askedBy_988 (l : Launch) : nk_CallOk l { frames := 7, cells := 0, slots := 0, locals := 185 } RX6 cX6_askedBy 7 false 988 (5, 7, 0, 0, ev_X6_hasBy) := nk_callV (x := 247) (n := 4) (ci := 6) (r := (RX6, TX6, 32)) (mt_X6_hasBy l) rfl (nk_msc [(5, 74), (5, 75), (5, 76), (5, 77), (0, 54), (1, 7)] (by decide +kernel)) rfl rfl (by decide +kernel) ⟨by decide, by decide⟩
set_option maxRecDepth 100000 in
set_option maxHeartbeats 4000000 in
theorem ca_X6_askedBy_388 (l : Launch) : nk_CallOk l { frames := 7, cells := 0, slots := 0, locals := 185 } RX6 cX6_askedBy 7 false 388 (2, 7, 0, 0, ev_X6_meets) := nk_callV (x := 97) (n := 1) (ci := 6) (r := (RX6, TX6, 32)) (mt_X6_meets l) rfl (nk_msc [(4, 60), (4, 61), (4, 62), (4, 63), (0, 26), (1, 7)] (by decide +kernel)) rfl rfl (by decide +kernel) ⟨by decide, by decide⟩
set_option maxRecDepth 100000 in
set_option maxHeartbeats 4000000 in
theorem mt_X6_askedBy (l : Launch) : nk_Met l yX6_askedBy cX6_askedBy 7 (some .int) { frames := 7, cells := 0, slots := 0, locals := 185 } false 0 0 ev_X6_askedBy :=
  nk_met nk_gok (plainFor_of_name (by decide)) ck_X6_askedBy (nk_top_out 73 kt_X6_askedBy) ⟨List.forall_mem_cons.mpr ⟨nk_fkc [(3, 207)] (by decide +kernel), fun _ h => absurd h List.not_mem_nil⟩, List.forall_mem_cons.mpr ⟨ca_X6_askedBy_536 l, List.forall_mem_cons.mpr ⟨ca_X6_askedBy_908 l, List.forall_mem_cons.mpr ⟨ca_X6_askedBy_494 l, List.forall_mem_cons.mpr ⟨ca_X6_askedBy_704 l, List.forall_mem_cons.mpr ⟨ca_X6_askedBy_988 l, List.forall_mem_cons.mpr ⟨ca_X6_askedBy_388 l, fun _ h => absurd h List.not_mem_nil⟩⟩⟩⟩⟩⟩, fun _ h => absurd h List.not_mem_nil, fun _ h => absurd h List.not_mem_nil, fun _ h => absurd h List.not_mem_nil, fun _ h => absurd h List.not_mem_nil, fun _ h => absurd h List.not_mem_nil, by decide, rfl, rfl⟩ rfl (by decide)
/-! MarbleLawModel.sure(IIII)I -/
noncomputable def kt_X6_sure : Nat → Option nk_I := fun pc => bif Nat.ble pc 18 then ((fun pc => bif Nat.ble pc 4 then ((fun pc => bif Nat.ble pc 1 then (bif Nat.ble pc 0 then (bif Nat.beq pc 0 then some (.aload_n 0, 1, 1, [], 0) else none)
  else (bif Nat.beq pc 1 then some (.iload_n 1, 1, 2, [], 0) else none))
  else ((fun pc => bif Nat.ble pc 2 then (bif Nat.beq pc 2 then some (.iload_n 2, 1, 3, [], 0) else none)
  else (bif Nat.ble pc 3 then (bif Nat.beq pc 3 then some (.iload_n 3, 1, 4, [], 0) else none)
  else (bif Nat.beq pc 4 then some (.iload 4, 2, 6, [], 0) else none))) : nk_F) pc) : nk_F) pc
  else ((fun pc => bif Nat.ble pc 11 then ((fun pc => bif Nat.ble pc 6 then (bif Nat.beq pc 6 then some (.invokevirtual 250, 3, 9, [], 0) else none)
  else (bif Nat.ble pc 9 then (bif Nat.beq pc 9 then some (.istore 5, 2, 11, [], 0) else none)
  else (bif Nat.beq pc 11 then some (.iload 5, 2, 13, [], 0) else none))) : nk_F) pc
  else ((fun pc => bif Nat.ble pc 13 then (bif Nat.beq pc 13 then some (.ifCond .ge 8, 3, 16, [21], 0) else none)
  else (bif Nat.ble pc 16 then (bif Nat.beq pc 16 then some (.iload 5, 2, 18, [], 0) else none)
  else (bif Nat.beq pc 18 then some (.goto 24, 3, 21, [42], 0) else none))) : nk_F) pc) : nk_F) pc) : nk_F) pc
  else ((fun pc => bif Nat.ble pc 29 then ((fun pc => bif Nat.ble pc 23 then (bif Nat.ble pc 21 then (bif Nat.beq pc 21 then some (.iload 5, 2, 23, [], 0) else none)
  else (bif Nat.beq pc 23 then some (.ldc 253, 2, 25, [], 0) else none))
  else ((fun pc => bif Nat.ble pc 25 then (bif Nat.beq pc 25 then some (.if_icmp .ne 7, 3, 28, [32], 0) else none)
  else (bif Nat.ble pc 28 then (bif Nat.beq pc 28 then some (.iconst 2, 1, 29, [], 2) else none)
  else (bif Nat.beq pc 29 then some (.goto 13, 3, 32, [42], 0) else none))) : nk_F) pc) : nk_F) pc
  else ((fun pc => bif Nat.ble pc 37 then ((fun pc => bif Nat.ble pc 32 then (bif Nat.beq pc 32 then some (.iload 5, 2, 34, [], 0) else none)
  else (bif Nat.ble pc 34 then (bif Nat.beq pc 34 then some (.ifCond .le 7, 3, 37, [41], 0) else none)
  else (bif Nat.beq pc 37 then some (.iconst 1, 1, 38, [], 1) else none))) : nk_F) pc
  else ((fun pc => bif Nat.ble pc 38 then (bif Nat.beq pc 38 then some (.goto 4, 3, 41, [42], 0) else none)
  else (bif Nat.ble pc 41 then (bif Nat.beq pc 41 then some (.iconst 0, 1, 42, [], 0) else none)
  else (bif Nat.beq pc 42 then some (.ireturn, 1, 43, [], 0) else none))) : nk_F) pc) : nk_F) pc) : nk_F) pc
noncomputable def kc_X6_sure : Nat → Option nk_I := nk_top 43 kt_X6_sure
noncomputable def kx_X6_sure : nk_T := ([], [(1000, 5, 7, 0, 0, ev_X6_askedBy)], [(253, 65535)], [], [], [], [], 1, false, 0, 0)
noncomputable def ev_X6_sure : nk_Ev := fun as h Q => nk_if (Nat.ble (nk_wd as) 6) (nk_ev kx_X6_sure kc_X6_sure 6 as h Q)
set_option maxRecDepth 100000 in
theorem ck_X6_sure : nk_chk cX6_sure kc_X6_sure 43 = true := nd_chk (by decide +kernel) (by decide +kernel)
set_option maxRecDepth 100000 in
set_option maxHeartbeats 4000000 in
theorem ca_X6_sure_1000 (l : Launch) : nk_CallOk l { frames := 8, cells := 0, slots := 0, locals := 211 } RX6 cX6_sure 6 false 1000 (5, 7, 0, 0, ev_X6_askedBy) := nk_callV (x := 250) (n := 4) (ci := 6) (r := (RX6, TX6, 32)) (mt_X6_askedBy l) rfl (nk_msc [(5, 70), (5, 71), (5, 72), (5, 73), (0, 53), (1, 7)] (by decide +kernel)) rfl rfl (by decide +kernel) ⟨by decide, by decide⟩
set_option maxRecDepth 100000 in
set_option maxHeartbeats 4000000 in
theorem mt_X6_sure (l : Launch) : nk_Met l yX6_sure cX6_sure 6 (some .int) { frames := 8, cells := 0, slots := 0, locals := 211 } false 0 0 ev_X6_sure :=
  nk_met nk_gok (plainFor_of_name (by decide)) ck_X6_sure (nk_top_out 43 kt_X6_sure) ⟨fun _ h => absurd h List.not_mem_nil, List.forall_mem_cons.mpr ⟨ca_X6_sure_1000 l, fun _ h => absurd h List.not_mem_nil⟩, List.forall_mem_cons.mpr ⟨nk_mc [(5, 78)] (by decide +kernel), fun _ h => absurd h List.not_mem_nil⟩, fun _ h => absurd h List.not_mem_nil, fun _ h => absurd h List.not_mem_nil, fun _ h => absurd h List.not_mem_nil, fun _ h => absurd h List.not_mem_nil, by decide, rfl, rfl⟩ rfl (by decide)
/-! MarbleLawModel.hangs(IIII)I -/
noncomputable def kt_X6_hangs : Nat → Option nk_I := fun pc => bif Nat.ble pc 52 then ((fun pc => bif Nat.ble pc 23 then ((fun pc => bif Nat.ble pc 9 then ((fun pc => bif Nat.ble pc 2 then ((fun pc => bif Nat.ble pc 0 then (bif Nat.beq pc 0 then some (.aload_n 0, 1, 1, [], 0) else none)
  else (bif Nat.ble pc 1 then (bif Nat.beq pc 1 then some (.iload_n 1, 1, 2, [], 0) else none)
  else (bif Nat.beq pc 2 then some (.iload_n 2, 1, 3, [], 0) else none))) : nk_F) pc
  else ((fun pc => bif Nat.ble pc 4 then (bif Nat.ble pc 3 then (bif Nat.beq pc 3 then some (.iload_n 3, 1, 4, [], 0) else none)
  else (bif Nat.beq pc 4 then some (.iload 4, 2, 6, [], 0) else none))
  else (bif Nat.ble pc 6 then (bif Nat.beq pc 6 then some (.invokevirtual 250, 3, 9, [], 0) else none)
  else (bif Nat.beq pc 9 then some (.istore 5, 2, 11, [], 0) else none))) : nk_F) pc) : nk_F) pc
  else ((fun pc => bif Nat.ble pc 16 then ((fun pc => bif Nat.ble pc 11 then (bif Nat.beq pc 11 then some (.iload 5, 2, 13, [], 0) else none)
  else (bif Nat.ble pc 13 then (bif Nat.beq pc 13 then some (.ifCond .ge 6, 3, 16, [19], 0) else none)
  else (bif Nat.beq pc 16 then some (.iload 5, 2, 18, [], 0) else none))) : nk_F) pc
  else ((fun pc => bif Nat.ble pc 19 then (bif Nat.ble pc 18 then (bif Nat.beq pc 18 then some (.ireturn, 1, 19, [], 0) else none)
  else (bif Nat.beq pc 19 then some (.bipush 15, 2, 21, [], 15) else none))
  else (bif Nat.ble pc 21 then (bif Nat.beq pc 21 then some (.istore 6, 2, 23, [], 0) else none)
  else (bif Nat.beq pc 23 then some (.bipush 14, 2, 25, [], 14) else none))) : nk_F) pc) : nk_F) pc) : nk_F) pc
  else ((fun pc => bif Nat.ble pc 36 then ((fun pc => bif Nat.ble pc 29 then ((fun pc => bif Nat.ble pc 25 then (bif Nat.beq pc 25 then some (.istore 7, 2, 27, [], 0) else none)
  else (bif Nat.ble pc 27 then (bif Nat.beq pc 27 then some (.iload 7, 2, 29, [], 0) else none)
  else (bif Nat.beq pc 29 then some (.ifCond .lt 87, 3, 32, [116], 0) else none))) : nk_F) pc
  else ((fun pc => bif Nat.ble pc 33 then (bif Nat.ble pc 32 then (bif Nat.beq pc 32 then some (.iconst 1, 1, 33, [], 1) else none)
  else (bif Nat.beq pc 33 then some (.istore 8, 2, 35, [], 0) else none))
  else (bif Nat.ble pc 35 then (bif Nat.beq pc 35 then some (.iconst 0, 1, 36, [], 0) else none)
  else (bif Nat.beq pc 36 then some (.istore 9, 2, 38, [], 0) else none))) : nk_F) pc) : nk_F) pc
  else ((fun pc => bif Nat.ble pc 42 then ((fun pc => bif Nat.ble pc 38 then (bif Nat.beq pc 38 then some (.iload 9, 2, 40, [], 0) else none)
  else (bif Nat.ble pc 40 then (bif Nat.beq pc 40 then some (.bipush 16, 2, 42, [], 16) else none)
  else (bif Nat.beq pc 42 then some (.if_icmp .ge 41, 3, 45, [83], 0) else none))) : nk_F) pc
  else ((fun pc => bif Nat.ble pc 47 then (bif Nat.ble pc 45 then (bif Nat.beq pc 45 then some (.iload 8, 2, 47, [], 0) else none)
  else (bif Nat.beq pc 47 then some (.ifCond .eq 27, 3, 50, [74], 0) else none))
  else (bif Nat.ble pc 50 then (bif Nat.beq pc 50 then some (.iload 5, 2, 52, [], 0) else none)
  else (bif Nat.beq pc 52 then some (.iload 9, 2, 54, [], 0) else none))) : nk_F) pc) : nk_F) pc) : nk_F) pc) : nk_F) pc
  else ((fun pc => bif Nat.ble pc 83 then ((fun pc => bif Nat.ble pc 67 then ((fun pc => bif Nat.ble pc 59 then ((fun pc => bif Nat.ble pc 54 then (bif Nat.beq pc 54 then some (.invokestatic 191, 3, 57, [], 0) else none)
  else (bif Nat.ble pc 57 then (bif Nat.beq pc 57 then some (.iload 5, 2, 59, [], 0) else none)
  else (bif Nat.beq pc 59 then some (.iload 9, 2, 61, [], 0) else none))) : nk_F) pc
  else ((fun pc => bif Nat.ble pc 63 then (bif Nat.ble pc 61 then (bif Nat.beq pc 61 then some (.iload 7, 2, 63, [], 0) else none)
  else (bif Nat.beq pc 63 then some (.iand, 1, 64, [], 0) else none))
  else (bif Nat.ble pc 64 then (bif Nat.beq pc 64 then some (.invokestatic 191, 3, 67, [], 0) else none)
  else (bif Nat.beq pc 67 then some (.if_icmp .ne 7, 3, 70, [74], 0) else none))) : nk_F) pc) : nk_F) pc
  else ((fun pc => bif Nat.ble pc 74 then ((fun pc => bif Nat.ble pc 70 then (bif Nat.beq pc 70 then some (.iconst 1, 1, 71, [], 1) else none)
  else (bif Nat.ble pc 71 then (bif Nat.beq pc 71 then some (.goto 4, 3, 74, [75], 0) else none)
  else (bif Nat.beq pc 74 then some (.iconst 0, 1, 75, [], 0) else none))) : nk_F) pc
  else ((fun pc => bif Nat.ble pc 77 then (bif Nat.ble pc 75 then (bif Nat.beq pc 75 then some (.istore 8, 2, 77, [], 0) else none)
  else (bif Nat.beq pc 77 then some (.iinc 9 1, 3, 80, [], 1) else none))
  else (bif Nat.ble pc 80 then (bif Nat.beq pc 80 then some (.goto (-42), 3, 83, [38], 0) else none)
  else (bif Nat.beq pc 83 then some (.iload 8, 2, 85, [], 0) else none))) : nk_F) pc) : nk_F) pc) : nk_F) pc
  else ((fun pc => bif Nat.ble pc 101 then ((fun pc => bif Nat.ble pc 90 then ((fun pc => bif Nat.ble pc 85 then (bif Nat.beq pc 85 then some (.ifCond .eq 21, 3, 88, [106], 0) else none)
  else (bif Nat.ble pc 88 then (bif Nat.beq pc 88 then some (.iload 7, 2, 90, [], 0) else none)
  else (bif Nat.beq pc 90 then some (.invokestatic 254, 3, 93, [], 0) else none))) : nk_F) pc
  else ((fun pc => bif Nat.ble pc 95 then (bif Nat.ble pc 93 then (bif Nat.beq pc 93 then some (.iload 6, 2, 95, [], 0) else none)
  else (bif Nat.beq pc 95 then some (.invokestatic 254, 3, 98, [], 0) else none))
  else (bif Nat.ble pc 98 then (bif Nat.beq pc 98 then some (.if_icmp .gt 8, 3, 101, [106], 0) else none)
  else (bif Nat.beq pc 101 then some (.iload 7, 2, 103, [], 0) else none))) : nk_F) pc) : nk_F) pc
  else ((fun pc => bif Nat.ble pc 108 then ((fun pc => bif Nat.ble pc 103 then (bif Nat.beq pc 103 then some (.goto 5, 3, 106, [108], 0) else none)
  else (bif Nat.ble pc 106 then (bif Nat.beq pc 106 then some (.iload 6, 2, 108, [], 0) else none)
  else (bif Nat.beq pc 108 then some (.istore 6, 2, 110, [], 0) else none))) : nk_F) pc
  else ((fun pc => bif Nat.ble pc 113 then (bif Nat.ble pc 110 then (bif Nat.beq pc 110 then some (.iinc 7 (-1), 3, 113, [], (-1)) else none)
  else (bif Nat.beq pc 113 then some (.goto (-86), 3, 116, [27], 0) else none))
  else (bif Nat.ble pc 116 then (bif Nat.beq pc 116 then some (.iload 6, 2, 118, [], 0) else none)
  else (bif Nat.beq pc 118 then some (.ireturn, 1, 119, [], 0) else none))) : nk_F) pc) : nk_F) pc) : nk_F) pc) : nk_F) pc
noncomputable def kc_X6_hangs : Nat → Option nk_I := nk_top 119 kt_X6_hangs
noncomputable def kx_X6_hangs : nk_T := ([], [(1000, 5, 7, 0, 0, ev_X6_askedBy), (766, 2, 0, 0, 0, ev_X6_has), (1018, 1, 0, 0, 0, ev_X6_bits)], [], [], [], [], [], 1, false, 0, 0)
noncomputable def ev_X6_hangs : nk_Ev := fun as h Q => nk_if (Nat.ble (nk_wd as) 10) (nk_ev kx_X6_hangs kc_X6_hangs 10 as h Q)
set_option maxRecDepth 100000 in
theorem ck_X6_hangs : nk_chk cX6_hangs kc_X6_hangs 119 = true := nd_chk (by decide +kernel) (by decide +kernel)
set_option maxRecDepth 100000 in
set_option maxHeartbeats 4000000 in
theorem ca_X6_hangs_1000 (l : Launch) : nk_CallOk l { frames := 8, cells := 0, slots := 0, locals := 211 } RX6 cX6_hangs 10 false 1000 (5, 7, 0, 0, ev_X6_askedBy) := nk_callV (x := 250) (n := 4) (ci := 6) (r := (RX6, TX6, 32)) (mt_X6_askedBy l) rfl (nk_msc [(5, 70), (5, 71), (5, 72), (5, 73), (0, 53), (1, 7)] (by decide +kernel)) rfl rfl (by decide +kernel) ⟨by decide, by decide⟩
set_option maxRecDepth 100000 in
set_option maxHeartbeats 4000000 in
theorem ca_X6_hangs_766 (l : Launch) : nk_CallOk l { frames := 8, cells := 0, slots := 0, locals := 211 } RX6 cX6_hangs 10 false 766 (2, 0, 0, 0, ev_X6_has) := nk_callS (x := 191) (n := 2) (mt_X6_has l) (nk_msc [(4, 224), (4, 225), (4, 226), (1, 7)] (by decide +kernel)) rfl rfl (by decide +kernel) ⟨by decide, by decide⟩
set_option maxRecDepth 100000 in
set_option maxHeartbeats 4000000 in
theorem ca_X6_hangs_1018 (l : Launch) : nk_CallOk l { frames := 8, cells := 0, slots := 0, locals := 211 } RX6 cX6_hangs 10 false 1018 (1, 0, 0, 0, ev_X6_bits) := nk_callS (x := 254) (n := 1) (mt_X6_bits l) (nk_msc [(5, 83), (5, 84), (5, 85), (1, 7)] (by decide +kernel)) rfl rfl (by decide +kernel) ⟨by decide, by decide⟩
set_option maxRecDepth 100000 in
set_option maxHeartbeats 4000000 in
theorem mt_X6_hangs (l : Launch) : nk_Met l yX6_hangs cX6_hangs 10 (some .int) { frames := 8, cells := 0, slots := 0, locals := 211 } false 0 0 ev_X6_hangs :=
  nk_met nk_gok (plainFor_of_name (by decide)) ck_X6_hangs (nk_top_out 119 kt_X6_hangs) ⟨fun _ h => absurd h List.not_mem_nil, List.forall_mem_cons.mpr ⟨ca_X6_hangs_1000 l, List.forall_mem_cons.mpr ⟨ca_X6_hangs_766 l, List.forall_mem_cons.mpr ⟨ca_X6_hangs_1018 l, fun _ h => absurd h List.not_mem_nil⟩⟩⟩, fun _ h => absurd h List.not_mem_nil, fun _ h => absurd h List.not_mem_nil, fun _ h => absurd h List.not_mem_nil, fun _ h => absurd h List.not_mem_nil, fun _ h => absurd h List.not_mem_nil, by decide, rfl, rfl⟩ rfl (by decide)
