/-! MarbleLaw$Course.blend(JJ)V -/
noncomputable def kt_X0_blend : Nat → Option nk_I := fun pc => bif Nat.ble pc 93 then ((fun pc => bif Nat.ble pc 45 then ((fun pc => bif Nat.ble pc 19 then ((fun pc => bif Nat.ble pc 8 then ((fun pc => bif Nat.ble pc 2 then ((fun pc => bif Nat.ble pc 0 then (bif Nat.beq pc 0 then some (.lload_n 1, 1, 1, [], 0) else none)
  else (bif Nat.ble pc 1 then (bif Nat.beq pc 1 then some (.lload_n 3, 1, 2, [], 0) else none)
  else (bif Nat.beq pc 2 then some (.ladd, 1, 3, [], 0) else none))) : nk_F) pc
  else ((fun pc => bif Nat.ble pc 4 then (bif Nat.ble pc 3 then (bif Nat.beq pc 3 then some (.aload_n 0, 1, 4, [], 0) else none)
  else (bif Nat.beq pc 4 then some (.getfield 33, 3, 7, [], 0) else none))
  else (bif Nat.ble pc 7 then (bif Nat.beq pc 7 then some (.aload_n 0, 1, 8, [], 0) else none)
  else (bif Nat.beq pc 8 then some (.getfield 47, 3, 11, [], 0) else none))) : nk_F) pc) : nk_F) pc
  else ((fun pc => bif Nat.ble pc 13 then ((fun pc => bif Nat.ble pc 11 then (bif Nat.beq pc 11 then some (.iaload, 1, 12, [], 0) else none)
  else (bif Nat.ble pc 12 then (bif Nat.beq pc 12 then some (.i2l, 1, 13, [], 0) else none)
  else (bif Nat.beq pc 13 then some (.lmul, 1, 14, [], 0) else none))) : nk_F) pc
  else ((fun pc => bif Nat.ble pc 15 then (bif Nat.ble pc 14 then (bif Nat.beq pc 14 then some (.aload_n 0, 1, 15, [], 0) else none)
  else (bif Nat.beq pc 15 then some (.getfield 33, 3, 18, [], 0) else none))
  else (bif Nat.ble pc 18 then (bif Nat.beq pc 18 then some (.aload_n 0, 1, 19, [], 0) else none)
  else (bif Nat.beq pc 19 then some (.getfield 50, 3, 22, [], 0) else none))) : nk_F) pc) : nk_F) pc) : nk_F) pc
  else ((fun pc => bif Nat.ble pc 31 then ((fun pc => bif Nat.ble pc 24 then ((fun pc => bif Nat.ble pc 22 then (bif Nat.beq pc 22 then some (.iaload, 1, 23, [], 0) else none)
  else (bif Nat.ble pc 23 then (bif Nat.beq pc 23 then some (.i2l, 1, 24, [], 0) else none)
  else (bif Nat.beq pc 24 then some (.lmul, 1, 25, [], 0) else none))) : nk_F) pc
  else ((fun pc => bif Nat.ble pc 27 then (bif Nat.ble pc 25 then (bif Nat.beq pc 25 then some (.lstore 5, 2, 27, [], 0) else none)
  else (bif Nat.beq pc 27 then some (.lload 5, 2, 29, [], 0) else none))
  else (bif Nat.ble pc 29 then (bif Nat.beq pc 29 then some (.lstore 7, 2, 31, [], 0) else none)
  else (bif Nat.beq pc 31 then some (.iconst 0, 1, 32, [], 0) else none))) : nk_F) pc) : nk_F) pc
  else ((fun pc => bif Nat.ble pc 36 then ((fun pc => bif Nat.ble pc 32 then (bif Nat.beq pc 32 then some (.istore 9, 2, 34, [], 0) else none)
  else (bif Nat.ble pc 34 then (bif Nat.beq pc 34 then some (.iload 9, 2, 36, [], 0) else none)
  else (bif Nat.beq pc 36 then some (.bipush 6, 2, 38, [], 6) else none))) : nk_F) pc
  else ((fun pc => bif Nat.ble pc 41 then (bif Nat.ble pc 38 then (bif Nat.beq pc 38 then some (.if_icmp .ge 77, 3, 41, [115], 0) else none)
  else (bif Nat.beq pc 41 then some (.aload_n 0, 1, 42, [], 0) else none))
  else (bif Nat.ble pc 42 then (bif Nat.beq pc 42 then some (.getfield 39, 3, 45, [], 0) else none)
  else (bif Nat.beq pc 45 then some (.iload 9, 2, 47, [], 0) else none))) : nk_F) pc) : nk_F) pc) : nk_F) pc) : nk_F) pc
  else ((fun pc => bif Nat.ble pc 69 then ((fun pc => bif Nat.ble pc 58 then ((fun pc => bif Nat.ble pc 49 then ((fun pc => bif Nat.ble pc 47 then (bif Nat.beq pc 47 then some (.lload_n 1, 1, 48, [], 0) else none)
  else (bif Nat.ble pc 48 then (bif Nat.beq pc 48 then some (.aload_n 0, 1, 49, [], 0) else none)
  else (bif Nat.beq pc 49 then some (.aload_n 0, 1, 50, [], 0) else none))) : nk_F) pc
  else ((fun pc => bif Nat.ble pc 53 then (bif Nat.ble pc 50 then (bif Nat.beq pc 50 then some (.getfield 47, 3, 53, [], 0) else none)
  else (bif Nat.beq pc 53 then some (.iload 9, 2, 55, [], 0) else none))
  else (bif Nat.ble pc 55 then (bif Nat.beq pc 55 then some (.invokevirtual 123, 3, 58, [], 0) else none)
  else (bif Nat.beq pc 58 then some (.lmul, 1, 59, [], 0) else none))) : nk_F) pc) : nk_F) pc
  else ((fun pc => bif Nat.ble pc 63 then ((fun pc => bif Nat.ble pc 59 then (bif Nat.beq pc 59 then some (.aload_n 0, 1, 60, [], 0) else none)
  else (bif Nat.ble pc 60 then (bif Nat.beq pc 60 then some (.getfield 33, 3, 63, [], 0) else none)
  else (bif Nat.beq pc 63 then some (.aload_n 0, 1, 64, [], 0) else none))) : nk_F) pc
  else ((fun pc => bif Nat.ble pc 67 then (bif Nat.ble pc 64 then (bif Nat.beq pc 64 then some (.getfield 50, 3, 67, [], 0) else none)
  else (bif Nat.beq pc 67 then some (.iaload, 1, 68, [], 0) else none))
  else (bif Nat.ble pc 68 then (bif Nat.beq pc 68 then some (.i2l, 1, 69, [], 0) else none)
  else (bif Nat.beq pc 69 then some (.lmul, 1, 70, [], 0) else none))) : nk_F) pc) : nk_F) pc) : nk_F) pc
  else ((fun pc => bif Nat.ble pc 81 then ((fun pc => bif Nat.ble pc 72 then ((fun pc => bif Nat.ble pc 70 then (bif Nat.beq pc 70 then some (.lload_n 3, 1, 71, [], 0) else none)
  else (bif Nat.ble pc 71 then (bif Nat.beq pc 71 then some (.aload_n 0, 1, 72, [], 0) else none)
  else (bif Nat.beq pc 72 then some (.aload_n 0, 1, 73, [], 0) else none))) : nk_F) pc
  else ((fun pc => bif Nat.ble pc 76 then (bif Nat.ble pc 73 then (bif Nat.beq pc 73 then some (.getfield 50, 3, 76, [], 0) else none)
  else (bif Nat.beq pc 76 then some (.iload 9, 2, 78, [], 0) else none))
  else (bif Nat.ble pc 78 then (bif Nat.beq pc 78 then some (.invokevirtual 123, 3, 81, [], 0) else none)
  else (bif Nat.beq pc 81 then some (.lmul, 1, 82, [], 0) else none))) : nk_F) pc) : nk_F) pc
  else ((fun pc => bif Nat.ble pc 87 then ((fun pc => bif Nat.ble pc 83 then (bif Nat.ble pc 82 then (bif Nat.beq pc 82 then some (.aload_n 0, 1, 83, [], 0) else none)
  else (bif Nat.beq pc 83 then some (.getfield 33, 3, 86, [], 0) else none))
  else (bif Nat.ble pc 86 then (bif Nat.beq pc 86 then some (.aload_n 0, 1, 87, [], 0) else none)
  else (bif Nat.beq pc 87 then some (.getfield 47, 3, 90, [], 0) else none))) : nk_F) pc
  else ((fun pc => bif Nat.ble pc 91 then (bif Nat.ble pc 90 then (bif Nat.beq pc 90 then some (.iaload, 1, 91, [], 0) else none)
  else (bif Nat.beq pc 91 then some (.i2l, 1, 92, [], 0) else none))
  else (bif Nat.ble pc 92 then (bif Nat.beq pc 92 then some (.lmul, 1, 93, [], 0) else none)
  else (bif Nat.beq pc 93 then some (.ladd, 1, 94, [], 0) else none))) : nk_F) pc) : nk_F) pc) : nk_F) pc) : nk_F) pc) : nk_F) pc
  else ((fun pc => bif Nat.ble pc 145 then ((fun pc => bif Nat.ble pc 119 then ((fun pc => bif Nat.ble pc 104 then ((fun pc => bif Nat.ble pc 97 then ((fun pc => bif Nat.ble pc 94 then (bif Nat.beq pc 94 then some (.lastore, 1, 95, [], 0) else none)
  else (bif Nat.ble pc 95 then (bif Nat.beq pc 95 then some (.lload 7, 2, 97, [], 0) else none)
  else (bif Nat.beq pc 97 then some (.aload_n 0, 1, 98, [], 0) else none))) : nk_F) pc
  else ((fun pc => bif Nat.ble pc 101 then (bif Nat.ble pc 98 then (bif Nat.beq pc 98 then some (.getfield 39, 3, 101, [], 0) else none)
  else (bif Nat.beq pc 101 then some (.iload 9, 2, 103, [], 0) else none))
  else (bif Nat.ble pc 103 then (bif Nat.beq pc 103 then some (.laload, 1, 104, [], 0) else none)
  else (bif Nat.beq pc 104 then some (.invokestatic 127, 3, 107, [], 0) else none))) : nk_F) pc) : nk_F) pc
  else ((fun pc => bif Nat.ble pc 112 then ((fun pc => bif Nat.ble pc 107 then (bif Nat.beq pc 107 then some (.lstore 7, 2, 109, [], 0) else none)
  else (bif Nat.ble pc 109 then (bif Nat.beq pc 109 then some (.iinc 9 1, 3, 112, [], 1) else none)
  else (bif Nat.beq pc 112 then some (.goto (-78), 3, 115, [34], 0) else none))) : nk_F) pc
  else ((fun pc => bif Nat.ble pc 117 then (bif Nat.ble pc 115 then (bif Nat.beq pc 115 then some (.lload 7, 2, 117, [], 0) else none)
  else (bif Nat.beq pc 117 then some (.lconst 0, 1, 118, [], 0) else none))
  else (bif Nat.ble pc 118 then (bif Nat.beq pc 118 then some (.lcmp, 1, 119, [], 0) else none)
  else (bif Nat.beq pc 119 then some (.ifCond .eq 15, 3, 122, [134], 0) else none))) : nk_F) pc) : nk_F) pc) : nk_F) pc
  else ((fun pc => bif Nat.ble pc 134 then ((fun pc => bif Nat.ble pc 126 then ((fun pc => bif Nat.ble pc 122 then (bif Nat.beq pc 122 then some (.lload 5, 2, 124, [], 0) else none)
  else (bif Nat.ble pc 124 then (bif Nat.beq pc 124 then some (.lload 7, 2, 126, [], 0) else none)
  else (bif Nat.beq pc 126 then some (.ldiv, 1, 127, [], 0) else none))) : nk_F) pc
  else ((fun pc => bif Nat.ble pc 130 then (bif Nat.ble pc 127 then (bif Nat.beq pc 127 then some (.ldc2_w 131, 3, 130, [], 0) else none)
  else (bif Nat.beq pc 130 then some (.lcmp, 1, 131, [], 0) else none))
  else (bif Nat.ble pc 131 then (bif Nat.beq pc 131 then some (.ifCond .le 9, 3, 134, [140], 0) else none)
  else (bif Nat.beq pc 134 then some (.aload_n 0, 1, 135, [], 0) else none))) : nk_F) pc) : nk_F) pc
  else ((fun pc => bif Nat.ble pc 139 then ((fun pc => bif Nat.ble pc 135 then (bif Nat.beq pc 135 then some (.iconst 1, 1, 136, [], 1) else none)
  else (bif Nat.ble pc 136 then (bif Nat.beq pc 136 then some (.putfield 43, 3, 139, [], 0) else none)
  else (bif Nat.beq pc 139 then some (.return_, 1, 140, [], 0) else none))) : nk_F) pc
  else ((fun pc => bif Nat.ble pc 141 then (bif Nat.ble pc 140 then (bif Nat.beq pc 140 then some (.iconst 0, 1, 141, [], 0) else none)
  else (bif Nat.beq pc 141 then some (.istore 9, 2, 143, [], 0) else none))
  else (bif Nat.ble pc 143 then (bif Nat.beq pc 143 then some (.iload 9, 2, 145, [], 0) else none)
  else (bif Nat.beq pc 145 then some (.bipush 6, 2, 147, [], 6) else none))) : nk_F) pc) : nk_F) pc) : nk_F) pc) : nk_F) pc
  else ((fun pc => bif Nat.ble pc 171 then ((fun pc => bif Nat.ble pc 160 then ((fun pc => bif Nat.ble pc 151 then ((fun pc => bif Nat.ble pc 147 then (bif Nat.beq pc 147 then some (.if_icmp .ge 35, 3, 150, [182], 0) else none)
  else (bif Nat.ble pc 150 then (bif Nat.beq pc 150 then some (.aload_n 0, 1, 151, [], 0) else none)
  else (bif Nat.beq pc 151 then some (.getfield 36, 3, 154, [], 0) else none))) : nk_F) pc
  else ((fun pc => bif Nat.ble pc 155 then (bif Nat.ble pc 154 then (bif Nat.beq pc 154 then some (.aload_n 0, 1, 155, [], 0) else none)
  else (bif Nat.beq pc 155 then some (.getfield 47, 3, 158, [], 0) else none))
  else (bif Nat.ble pc 158 then (bif Nat.beq pc 158 then some (.bipush 6, 2, 160, [], 6) else none)
  else (bif Nat.beq pc 160 then some (.imul, 1, 161, [], 0) else none))) : nk_F) pc) : nk_F) pc
  else ((fun pc => bif Nat.ble pc 164 then ((fun pc => bif Nat.ble pc 161 then (bif Nat.beq pc 161 then some (.iload 9, 2, 163, [], 0) else none)
  else (bif Nat.ble pc 163 then (bif Nat.beq pc 163 then some (.iadd, 1, 164, [], 0) else none)
  else (bif Nat.beq pc 164 then some (.aload_n 0, 1, 165, [], 0) else none))) : nk_F) pc
  else ((fun pc => bif Nat.ble pc 168 then (bif Nat.ble pc 165 then (bif Nat.beq pc 165 then some (.getfield 39, 3, 168, [], 0) else none)
  else (bif Nat.beq pc 168 then some (.iload 9, 2, 170, [], 0) else none))
  else (bif Nat.ble pc 170 then (bif Nat.beq pc 170 then some (.laload, 1, 171, [], 0) else none)
  else (bif Nat.beq pc 171 then some (.lload 7, 2, 173, [], 0) else none))) : nk_F) pc) : nk_F) pc) : nk_F) pc
  else ((fun pc => bif Nat.ble pc 183 then ((fun pc => bif Nat.ble pc 175 then ((fun pc => bif Nat.ble pc 173 then (bif Nat.beq pc 173 then some (.ldiv, 1, 174, [], 0) else none)
  else (bif Nat.ble pc 174 then (bif Nat.beq pc 174 then some (.l2i, 1, 175, [], 0) else none)
  else (bif Nat.beq pc 175 then some (.iastore, 1, 176, [], 0) else none))) : nk_F) pc
  else ((fun pc => bif Nat.ble pc 179 then (bif Nat.ble pc 176 then (bif Nat.beq pc 176 then some (.iinc 9 1, 3, 179, [], 1) else none)
  else (bif Nat.beq pc 179 then some (.goto (-36), 3, 182, [143], 0) else none))
  else (bif Nat.ble pc 182 then (bif Nat.beq pc 182 then some (.aload_n 0, 1, 183, [], 0) else none)
  else (bif Nat.beq pc 183 then some (.getfield 33, 3, 186, [], 0) else none))) : nk_F) pc) : nk_F) pc
  else ((fun pc => bif Nat.ble pc 192 then ((fun pc => bif Nat.ble pc 187 then (bif Nat.ble pc 186 then (bif Nat.beq pc 186 then some (.aload_n 0, 1, 187, [], 0) else none)
  else (bif Nat.beq pc 187 then some (.getfield 47, 3, 190, [], 0) else none))
  else (bif Nat.ble pc 190 then (bif Nat.beq pc 190 then some (.lload 5, 2, 192, [], 0) else none)
  else (bif Nat.beq pc 192 then some (.lload 7, 2, 194, [], 0) else none))) : nk_F) pc
  else ((fun pc => bif Nat.ble pc 195 then (bif Nat.ble pc 194 then (bif Nat.beq pc 194 then some (.ldiv, 1, 195, [], 0) else none)
  else (bif Nat.beq pc 195 then some (.l2i, 1, 196, [], 0) else none))
  else (bif Nat.ble pc 196 then (bif Nat.beq pc 196 then some (.iastore, 1, 197, [], 0) else none)
  else (bif Nat.beq pc 197 then some (.return_, 1, 198, [], 0) else none))) : nk_F) pc) : nk_F) pc) : nk_F) pc) : nk_F) pc) : nk_F) pc
noncomputable def kc_X0_blend : Nat → Option nk_I := nk_top 198 kt_X0_blend
noncomputable def kx_X0_blend : nk_T := ([(33, 0, 7, 4), (47, 0, 11, 0), (50, 0, 12, 0), (39, 0, 9, 4), (43, 0, 10, 1), (36, 0, 8, 4)], [(492, 3, 1, 0, 0, ev_X0_part), (510, 2, 0, 0, 0, ev_X5_divisorOf)], [], [(131, 10000)], [], [], [], 0, false, 0, 0)
noncomputable def ev_X0_blend : nk_Ev := fun as h Q => nk_if (Nat.ble (nk_wd as) 10) (nk_ev kx_X0_blend kc_X0_blend 10 as h Q)
set_option maxRecDepth 100000 in
theorem ck_X0_blend : nk_chk cX0_blend kc_X0_blend 198 = true := nd_chk (by decide +kernel) (by decide +kernel)
set_option maxRecDepth 100000 in
set_option maxHeartbeats 4000000 in
theorem ca_X0_blend_492 (l : Launch) : nk_CallOk l { frames := 1, cells := 0, slots := 0, locals := 30 } RX0 cX0_blend 10 false 492 (3, 1, 0, 0, ev_X0_part) := nk_callV (x := 123) (n := 2) (ci := 0) (r := (RX0, TX0, 15)) (mt_X0_part l) rfl (nk_msc [(2, 148), (2, 149), (2, 150), (2, 151), (1, 4)] (by decide +kernel)) rfl rfl (by decide +kernel) ⟨by decide, by decide⟩
set_option maxRecDepth 100000 in
set_option maxHeartbeats 4000000 in
theorem ca_X0_blend_510 (l : Launch) : nk_CallOk l { frames := 1, cells := 0, slots := 0, locals := 30 } RX0 cX0_blend 10 false 510 (2, 0, 0, 0, ev_X5_divisorOf) := nk_callSN (x := 127) (n := 2) (host := "MarbleLaw") (mt_X5_divisorOf l) (by decide +kernel) (nk_mc [(2, 152), (2, 153), (2, 154), (1, 1)] (by decide +kernel)) (nk_mc [(2, 152), (2, 153), (2, 154), (1, 1)] (by decide +kernel)) (nk_mc [(2, 152), (2, 153), (2, 154), (1, 1)] (by decide +kernel)) rfl rfl (by decide +kernel) ⟨by decide, by decide⟩
set_option maxRecDepth 100000 in
set_option maxHeartbeats 4000000 in
theorem mt_X0_blend (l : Launch) : nk_Met l yX0_blend cX0_blend 10 none { frames := 1, cells := 0, slots := 0, locals := 30 } false 0 0 ev_X0_blend :=
  nk_met nk_gok (plainFor_of_name (by decide)) ck_X0_blend (nk_top_out 198 kt_X0_blend) ⟨List.forall_mem_cons.mpr ⟨nk_fkc [(1, 71)] (by decide +kernel), List.forall_mem_cons.mpr ⟨nk_fkc [(1, 77)] (by decide +kernel), List.forall_mem_cons.mpr ⟨nk_fkc [(1, 79)] (by decide +kernel), List.forall_mem_cons.mpr ⟨nk_fkc [(1, 74)] (by decide +kernel), List.forall_mem_cons.mpr ⟨nk_fkc [(1, 75)] (by decide +kernel), List.forall_mem_cons.mpr ⟨nk_fkc [(1, 73)] (by decide +kernel), fun _ h => absurd h List.not_mem_nil⟩⟩⟩⟩⟩⟩, List.forall_mem_cons.mpr ⟨ca_X0_blend_492 l, List.forall_mem_cons.mpr ⟨ca_X0_blend_510 l, fun _ h => absurd h List.not_mem_nil⟩⟩, fun _ h => absurd h List.not_mem_nil, List.forall_mem_cons.mpr ⟨nk_mc [(2, 155)] (by decide +kernel), fun _ h => absurd h List.not_mem_nil⟩, fun _ h => absurd h List.not_mem_nil, fun _ h => absurd h List.not_mem_nil, fun _ h => absurd h List.not_mem_nil, by decide, rfl, rfl⟩ rfl (by decide)
/-! MarbleLaw$Course.mixesByAmount()Z -/
noncomputable def kt_X0_mixesByAmount : Nat → Option nk_I := fun pc => bif Nat.ble pc 6 then ((fun pc => bif Nat.ble pc 1 then (bif Nat.ble pc 0 then (bif Nat.beq pc 0 then some (.aload_n 0, 1, 1, [], 0) else none)
  else (bif Nat.beq pc 1 then some (.getfield 11, 3, 4, [], 0) else none))
  else ((fun pc => bif Nat.ble pc 4 then (bif Nat.beq pc 4 then some (.iconst 2, 1, 5, [], 2) else none)
  else (bif Nat.ble pc 5 then (bif Nat.beq pc 5 then some (.iaload, 1, 6, [], 0) else none)
  else (bif Nat.beq pc 6 then some (.iconst 1, 1, 7, [], 1) else none))) : nk_F) pc) : nk_F) pc
  else ((fun pc => bif Nat.ble pc 10 then (bif Nat.ble pc 7 then (bif Nat.beq pc 7 then some (.if_icmp .ne 7, 3, 10, [14], 0) else none)
  else (bif Nat.beq pc 10 then some (.iconst 1, 1, 11, [], 1) else none))
  else ((fun pc => bif Nat.ble pc 11 then (bif Nat.beq pc 11 then some (.goto 4, 3, 14, [15], 0) else none)
  else (bif Nat.ble pc 14 then (bif Nat.beq pc 14 then some (.iconst 0, 1, 15, [], 0) else none)
  else (bif Nat.beq pc 15 then some (.ireturn, 1, 16, [], 0) else none))) : nk_F) pc) : nk_F) pc
noncomputable def kc_X0_mixesByAmount : Nat → Option nk_I := nk_top 16 kt_X0_mixesByAmount
noncomputable def kx_X0_mixesByAmount : nk_T := ([(11, 0, 1, 4)], [], [], [], [], [], [], 2, false, 0, 0)
noncomputable def ev_X0_mixesByAmount : nk_Ev := fun as h Q => nk_if (Nat.ble (nk_wd as) 1) (nk_ev kx_X0_mixesByAmount kc_X0_mixesByAmount 1 as h Q)
set_option maxRecDepth 100000 in
theorem ck_X0_mixesByAmount : nk_chk cX0_mixesByAmount kc_X0_mixesByAmount 16 = true := nd_chk (by decide +kernel) (by decide +kernel)
set_option maxRecDepth 100000 in
set_option maxHeartbeats 4000000 in
theorem mt_X0_mixesByAmount (l : Launch) : nk_Met l yX0_mixesByAmount cX0_mixesByAmount 1 (some .boolean) { frames := 0, cells := 0, slots := 0, locals := 0 } false 0 0 ev_X0_mixesByAmount :=
  nk_met nk_gok (plainFor_of_name (by decide)) ck_X0_mixesByAmount (nk_top_out 16 kt_X0_mixesByAmount) ⟨List.forall_mem_cons.mpr ⟨nk_fkc [(1, 61)] (by decide +kernel), fun _ h => absurd h List.not_mem_nil⟩, fun _ h => absurd h List.not_mem_nil, fun _ h => absurd h List.not_mem_nil, fun _ h => absurd h List.not_mem_nil, fun _ h => absurd h List.not_mem_nil, fun _ h => absurd h List.not_mem_nil, fun _ h => absurd h List.not_mem_nil, by decide, rfl, rfl⟩ rfl (by decide)
/-! MarbleLaw$Course.share(II)V -/
noncomputable def kt_X0_share : Nat → Option nk_I := fun pc => bif Nat.ble pc 108 then ((fun pc => bif Nat.ble pc 51 then ((fun pc => bif Nat.ble pc 23 then ((fun pc => bif Nat.ble pc 10 then ((fun pc => bif Nat.ble pc 4 then ((fun pc => bif Nat.ble pc 0 then (bif Nat.beq pc 0 then some (.aload_n 0, 1, 1, [], 0) else none)
  else (bif Nat.ble pc 1 then (bif Nat.beq pc 1 then some (.getfield 59, 3, 4, [], 0) else none)
  else (bif Nat.beq pc 4 then some (.iload_n 1, 1, 5, [], 0) else none))) : nk_F) pc
  else ((fun pc => bif Nat.ble pc 6 then (bif Nat.ble pc 5 then (bif Nat.beq pc 5 then some (.iconst 3, 1, 6, [], 3) else none)
  else (bif Nat.beq pc 6 then some (.invokevirtual 80, 3, 9, [], 0) else none))
  else (bif Nat.ble pc 9 then (bif Nat.beq pc 9 then some (.istore_n 3, 1, 10, [], 0) else none)
  else (bif Nat.beq pc 10 then some (.aload_n 0, 1, 11, [], 0) else none))) : nk_F) pc) : nk_F) pc
  else ((fun pc => bif Nat.ble pc 17 then ((fun pc => bif Nat.ble pc 11 then (bif Nat.beq pc 11 then some (.invokevirtual 100, 3, 14, [], 0) else none)
  else (bif Nat.ble pc 14 then (bif Nat.beq pc 14 then some (.ifCond .eq 23, 3, 17, [37], 0) else none)
  else (bif Nat.beq pc 17 then some (.aload_n 0, 1, 18, [], 0) else none))) : nk_F) pc
  else ((fun pc => bif Nat.ble pc 19 then (bif Nat.ble pc 18 then (bif Nat.beq pc 18 then some (.aload_n 0, 1, 19, [], 0) else none)
  else (bif Nat.beq pc 19 then some (.getfield 59, 3, 22, [], 0) else none))
  else (bif Nat.ble pc 22 then (bif Nat.beq pc 22 then some (.iload_n 1, 1, 23, [], 0) else none)
  else (bif Nat.beq pc 23 then some (.iconst 5, 1, 24, [], 5) else none))) : nk_F) pc) : nk_F) pc) : nk_F) pc
  else ((fun pc => bif Nat.ble pc 38 then ((fun pc => bif Nat.ble pc 30 then ((fun pc => bif Nat.ble pc 24 then (bif Nat.beq pc 24 then some (.invokevirtual 80, 3, 27, [], 0) else none)
  else (bif Nat.ble pc 27 then (bif Nat.beq pc 27 then some (.invokevirtual 103, 3, 30, [], 0) else none)
  else (bif Nat.beq pc 30 then some (.ifCond .eq 7, 3, 33, [37], 0) else none))) : nk_F) pc
  else ((fun pc => bif Nat.ble pc 34 then (bif Nat.ble pc 33 then (bif Nat.beq pc 33 then some (.iconst 1, 1, 34, [], 1) else none)
  else (bif Nat.beq pc 34 then some (.goto 4, 3, 37, [38], 0) else none))
  else (bif Nat.ble pc 37 then (bif Nat.beq pc 37 then some (.iconst 0, 1, 38, [], 0) else none)
  else (bif Nat.beq pc 38 then some (.istore 4, 2, 40, [], 0) else none))) : nk_F) pc) : nk_F) pc
  else ((fun pc => bif Nat.ble pc 42 then ((fun pc => bif Nat.ble pc 40 then (bif Nat.beq pc 40 then some (.iload_n 2, 1, 41, [], 0) else none)
  else (bif Nat.ble pc 41 then (bif Nat.beq pc 41 then some (.iconst 1, 1, 42, [], 1) else none)
  else (bif Nat.beq pc 42 then some (.if_icmp .ne 40, 3, 45, [82], 0) else none))) : nk_F) pc
  else ((fun pc => bif Nat.ble pc 47 then (bif Nat.ble pc 45 then (bif Nat.beq pc 45 then some (.iload 4, 2, 47, [], 0) else none)
  else (bif Nat.beq pc 47 then some (.ifCond .ne 35, 3, 50, [82], 0) else none))
  else (bif Nat.ble pc 50 then (bif Nat.beq pc 50 then some (.aload_n 0, 1, 51, [], 0) else none)
  else (bif Nat.beq pc 51 then some (.aload_n 0, 1, 52, [], 0) else none))) : nk_F) pc) : nk_F) pc) : nk_F) pc) : nk_F) pc
  else ((fun pc => bif Nat.ble pc 79 then ((fun pc => bif Nat.ble pc 64 then ((fun pc => bif Nat.ble pc 56 then ((fun pc => bif Nat.ble pc 52 then (bif Nat.beq pc 52 then some (.getfield 59, 3, 55, [], 0) else none)
  else (bif Nat.ble pc 55 then (bif Nat.beq pc 55 then some (.iload_n 1, 1, 56, [], 0) else none)
  else (bif Nat.beq pc 56 then some (.iconst 4, 1, 57, [], 4) else none))) : nk_F) pc
  else ((fun pc => bif Nat.ble pc 60 then (bif Nat.ble pc 57 then (bif Nat.beq pc 57 then some (.invokevirtual 80, 3, 60, [], 0) else none)
  else (bif Nat.beq pc 60 then some (.aload_n 0, 1, 61, [], 0) else none))
  else (bif Nat.ble pc 61 then (bif Nat.beq pc 61 then some (.getfield 53, 3, 64, [], 0) else none)
  else (bif Nat.beq pc 64 then some (.invokevirtual 106, 3, 67, [], 0) else none))) : nk_F) pc) : nk_F) pc
  else ((fun pc => bif Nat.ble pc 71 then ((fun pc => bif Nat.ble pc 67 then (bif Nat.beq pc 67 then some (.ifCond .eq 15, 3, 70, [82], 0) else none)
  else (bif Nat.ble pc 70 then (bif Nat.beq pc 70 then some (.aload_n 0, 1, 71, [], 0) else none)
  else (bif Nat.beq pc 71 then some (.aload_n 0, 1, 72, [], 0) else none))) : nk_F) pc
  else ((fun pc => bif Nat.ble pc 75 then (bif Nat.ble pc 72 then (bif Nat.beq pc 72 then some (.getfield 47, 3, 75, [], 0) else none)
  else (bif Nat.beq pc 75 then some (.iload_n 3, 1, 76, [], 0) else none))
  else (bif Nat.ble pc 76 then (bif Nat.beq pc 76 then some (.invokevirtual 72, 3, 79, [], 0) else none)
  else (bif Nat.beq pc 79 then some (.goto 140, 3, 82, [219], 0) else none))) : nk_F) pc) : nk_F) pc) : nk_F) pc
  else ((fun pc => bif Nat.ble pc 93 then ((fun pc => bif Nat.ble pc 84 then ((fun pc => bif Nat.ble pc 82 then (bif Nat.beq pc 82 then some (.iload_n 2, 1, 83, [], 0) else none)
  else (bif Nat.ble pc 83 then (bif Nat.beq pc 83 then some (.iconst 4, 1, 84, [], 4) else none)
  else (bif Nat.beq pc 84 then some (.if_icmp .ne 27, 3, 87, [111], 0) else none))) : nk_F) pc
  else ((fun pc => bif Nat.ble pc 89 then (bif Nat.ble pc 87 then (bif Nat.beq pc 87 then some (.iload 4, 2, 89, [], 0) else none)
  else (bif Nat.beq pc 89 then some (.ifCond .ne 22, 3, 92, [111], 0) else none))
  else (bif Nat.ble pc 92 then (bif Nat.beq pc 92 then some (.aload_n 0, 1, 93, [], 0) else none)
  else (bif Nat.beq pc 93 then some (.invokevirtual 110, 3, 96, [], 0) else none))) : nk_F) pc) : nk_F) pc
  else ((fun pc => bif Nat.ble pc 100 then ((fun pc => bif Nat.ble pc 96 then (bif Nat.beq pc 96 then some (.ifCond .eq 15, 3, 99, [111], 0) else none)
  else (bif Nat.ble pc 99 then (bif Nat.beq pc 99 then some (.aload_n 0, 1, 100, [], 0) else none)
  else (bif Nat.beq pc 100 then some (.aload_n 0, 1, 101, [], 0) else none))) : nk_F) pc
  else ((fun pc => bif Nat.ble pc 104 then (bif Nat.ble pc 101 then (bif Nat.beq pc 101 then some (.getfield 47, 3, 104, [], 0) else none)
  else (bif Nat.beq pc 104 then some (.iload_n 3, 1, 105, [], 0) else none))
  else (bif Nat.ble pc 105 then (bif Nat.beq pc 105 then some (.invokevirtual 72, 3, 108, [], 0) else none)
  else (bif Nat.beq pc 108 then some (.goto 111, 3, 111, [219], 0) else none))) : nk_F) pc) : nk_F) pc) : nk_F) pc) : nk_F) pc) : nk_F) pc
  else ((fun pc => bif Nat.ble pc 166 then ((fun pc => bif Nat.ble pc 136 then ((fun pc => bif Nat.ble pc 123 then ((fun pc => bif Nat.ble pc 113 then ((fun pc => bif Nat.ble pc 111 then (bif Nat.beq pc 111 then some (.iload_n 2, 1, 112, [], 0) else none)
  else (bif Nat.ble pc 112 then (bif Nat.beq pc 112 then some (.iconst 2, 1, 113, [], 2) else none)
  else (bif Nat.beq pc 113 then some (.if_icmp .ne 34, 3, 116, [147], 0) else none))) : nk_F) pc
  else ((fun pc => bif Nat.ble pc 117 then (bif Nat.ble pc 116 then (bif Nat.beq pc 116 then some (.aload_n 0, 1, 117, [], 0) else none)
  else (bif Nat.beq pc 117 then some (.invokevirtual 93, 3, 120, [], 0) else none))
  else (bif Nat.ble pc 120 then (bif Nat.beq pc 120 then some (.ifCond .eq 27, 3, 123, [147], 0) else none)
  else (bif Nat.beq pc 123 then some (.aload_n 0, 1, 124, [], 0) else none))) : nk_F) pc) : nk_F) pc
  else ((fun pc => bif Nat.ble pc 130 then ((fun pc => bif Nat.ble pc 124 then (bif Nat.beq pc 124 then some (.invokevirtual 113, 3, 127, [], 0) else none)
  else (bif Nat.ble pc 127 then (bif Nat.beq pc 127 then some (.ifCond .ne 20, 3, 130, [147], 0) else none)
  else (bif Nat.beq pc 130 then some (.aload_n 0, 1, 131, [], 0) else none))) : nk_F) pc
  else ((fun pc => bif Nat.ble pc 132 then (bif Nat.ble pc 131 then (bif Nat.beq pc 131 then some (.aload_n 0, 1, 132, [], 0) else none)
  else (bif Nat.beq pc 132 then some (.getfield 53, 3, 135, [], 0) else none))
  else (bif Nat.ble pc 135 then (bif Nat.beq pc 135 then some (.i2l, 1, 136, [], 0) else none)
  else (bif Nat.beq pc 136 then some (.aload_n 0, 1, 137, [], 0) else none))) : nk_F) pc) : nk_F) pc) : nk_F) pc
  else ((fun pc => bif Nat.ble pc 149 then ((fun pc => bif Nat.ble pc 141 then ((fun pc => bif Nat.ble pc 137 then (bif Nat.beq pc 137 then some (.getfield 56, 3, 140, [], 0) else none)
  else (bif Nat.ble pc 140 then (bif Nat.beq pc 140 then some (.i2l, 1, 141, [], 0) else none)
  else (bif Nat.beq pc 141 then some (.invokevirtual 116, 3, 144, [], 0) else none))) : nk_F) pc
  else ((fun pc => bif Nat.ble pc 147 then (bif Nat.ble pc 144 then (bif Nat.beq pc 144 then some (.goto 75, 3, 147, [219], 0) else none)
  else (bif Nat.beq pc 147 then some (.iload_n 2, 1, 148, [], 0) else none))
  else (bif Nat.ble pc 148 then (bif Nat.beq pc 148 then some (.iconst 3, 1, 149, [], 3) else none)
  else (bif Nat.beq pc 149 then some (.if_icmp .ne 44, 3, 152, [193], 0) else none))) : nk_F) pc) : nk_F) pc
  else ((fun pc => bif Nat.ble pc 156 then ((fun pc => bif Nat.ble pc 152 then (bif Nat.beq pc 152 then some (.aload_n 0, 1, 153, [], 0) else none)
  else (bif Nat.ble pc 153 then (bif Nat.beq pc 153 then some (.invokevirtual 93, 3, 156, [], 0) else none)
  else (bif Nat.beq pc 156 then some (.ifCond .eq 37, 3, 159, [193], 0) else none))) : nk_F) pc
  else ((fun pc => bif Nat.ble pc 160 then (bif Nat.ble pc 159 then (bif Nat.beq pc 159 then some (.aload_n 0, 1, 160, [], 0) else none)
  else (bif Nat.beq pc 160 then some (.invokevirtual 120, 3, 163, [], 0) else none))
  else (bif Nat.ble pc 163 then (bif Nat.beq pc 163 then some (.ifCond .eq 30, 3, 166, [193], 0) else none)
  else (bif Nat.beq pc 166 then some (.aload_n 0, 1, 167, [], 0) else none))) : nk_F) pc) : nk_F) pc) : nk_F) pc) : nk_F) pc
  else ((fun pc => bif Nat.ble pc 190 then ((fun pc => bif Nat.ble pc 177 then ((fun pc => bif Nat.ble pc 171 then ((fun pc => bif Nat.ble pc 167 then (bif Nat.beq pc 167 then some (.aload_n 0, 1, 168, [], 0) else none)
  else (bif Nat.ble pc 168 then (bif Nat.beq pc 168 then some (.getfield 30, 3, 171, [], 0) else none)
  else (bif Nat.beq pc 171 then some (.aload_n 0, 1, 172, [], 0) else none))) : nk_F) pc
  else ((fun pc => bif Nat.ble pc 175 then (bif Nat.ble pc 172 then (bif Nat.beq pc 172 then some (.getfield 47, 3, 175, [], 0) else none)
  else (bif Nat.beq pc 175 then some (.iaload, 1, 176, [], 0) else none))
  else (bif Nat.ble pc 176 then (bif Nat.beq pc 176 then some (.i2l, 1, 177, [], 0) else none)
  else (bif Nat.beq pc 177 then some (.aload_n 0, 1, 178, [], 0) else none))) : nk_F) pc) : nk_F) pc
  else ((fun pc => bif Nat.ble pc 182 then ((fun pc => bif Nat.ble pc 178 then (bif Nat.beq pc 178 then some (.getfield 30, 3, 181, [], 0) else none)
  else (bif Nat.ble pc 181 then (bif Nat.beq pc 181 then some (.aload_n 0, 1, 182, [], 0) else none)
  else (bif Nat.beq pc 182 then some (.getfield 50, 3, 185, [], 0) else none))) : nk_F) pc
  else ((fun pc => bif Nat.ble pc 186 then (bif Nat.ble pc 185 then (bif Nat.beq pc 185 then some (.iaload, 1, 186, [], 0) else none)
  else (bif Nat.beq pc 186 then some (.i2l, 1, 187, [], 0) else none))
  else (bif Nat.ble pc 187 then (bif Nat.beq pc 187 then some (.invokevirtual 116, 3, 190, [], 0) else none)
  else (bif Nat.beq pc 190 then some (.goto 29, 3, 193, [219], 0) else none))) : nk_F) pc) : nk_F) pc) : nk_F) pc
  else ((fun pc => bif Nat.ble pc 205 then ((fun pc => bif Nat.ble pc 195 then ((fun pc => bif Nat.ble pc 193 then (bif Nat.beq pc 193 then some (.iload_n 2, 1, 194, [], 0) else none)
  else (bif Nat.ble pc 194 then (bif Nat.beq pc 194 then some (.iconst 3, 1, 195, [], 3) else none)
  else (bif Nat.beq pc 195 then some (.if_icmp .ne 24, 3, 198, [219], 0) else none))) : nk_F) pc
  else ((fun pc => bif Nat.ble pc 199 then (bif Nat.ble pc 198 then (bif Nat.beq pc 198 then some (.aload_n 0, 1, 199, [], 0) else none)
  else (bif Nat.beq pc 199 then some (.invokevirtual 93, 3, 202, [], 0) else none))
  else (bif Nat.ble pc 202 then (bif Nat.beq pc 202 then some (.ifCond .eq 17, 3, 205, [219], 0) else none)
  else (bif Nat.beq pc 205 then some (.aload_n 0, 1, 206, [], 0) else none))) : nk_F) pc) : nk_F) pc
  else ((fun pc => bif Nat.ble pc 211 then ((fun pc => bif Nat.ble pc 207 then (bif Nat.ble pc 206 then (bif Nat.beq pc 206 then some (.aload_n 0, 1, 207, [], 0) else none)
  else (bif Nat.beq pc 207 then some (.getfield 53, 3, 210, [], 0) else none))
  else (bif Nat.ble pc 210 then (bif Nat.beq pc 210 then some (.i2l, 1, 211, [], 0) else none)
  else (bif Nat.beq pc 211 then some (.aload_n 0, 1, 212, [], 0) else none))) : nk_F) pc
  else ((fun pc => bif Nat.ble pc 215 then (bif Nat.ble pc 212 then (bif Nat.beq pc 212 then some (.getfield 56, 3, 215, [], 0) else none)
  else (bif Nat.beq pc 215 then some (.i2l, 1, 216, [], 0) else none))
  else (bif Nat.ble pc 216 then (bif Nat.beq pc 216 then some (.invokevirtual 116, 3, 219, [], 0) else none)
  else (bif Nat.beq pc 219 then some (.return_, 1, 220, [], 0) else none))) : nk_F) pc) : nk_F) pc) : nk_F) pc) : nk_F) pc) : nk_F) pc
noncomputable def kc_X0_share : Nat → Option nk_I := nk_top 220 kt_X0_share
noncomputable def kx_X0_share : nk_T := ([(59, 0, 0, 4), (53, 0, 13, 0), (47, 0, 11, 0), (56, 0, 14, 0), (30, 0, 6, 4), (50, 0, 12, 0)], [(320, 3, 5, 0, 0, ev_X4_ofMaking), (400, 1, 1, 0, 0, ev_X0_barsKnowing), (412, 2, 1, 0, 0, ev_X0_knew), (424, 3, 1, 0, 0, ev_X0_formTakes), (288, 3, 1, 0, 0, ev_X0_giveAll), (440, 1, 1, 0, 0, ev_X0_writeTakes), (372, 1, 1, 0, 0, ev_X0_someCame), (452, 1, 1, 0, 0, ev_X0_chiefTakesJoin), (464, 3, 1, 0, 0, ev_X0_blend), (480, 1, 1, 0, 0, ev_X0_mixesByAmount)], [], [], [], [], [], 0, false, 0, 0)
noncomputable def ev_X0_share : nk_Ev := fun as h Q => nk_if (Nat.ble (nk_wd as) 5) (nk_ev kx_X0_share kc_X0_share 5 as h Q)
set_option maxRecDepth 100000 in
theorem ck_X0_share : nk_chk cX0_share kc_X0_share 220 = true := nd_chk (by decide +kernel) (by decide +kernel)
set_option maxRecDepth 100000 in
set_option maxHeartbeats 4000000 in
theorem ca_X0_share_320 (l : Launch) : nk_CallOk l { frames := 2, cells := 0, slots := 0, locals := 59 } RX0 cX0_share 5 false 320 (3, 5, 0, 0, ev_X4_ofMaking) := nk_callV (x := 80) (n := 2) (ci := 4) (r := (RX4, TX4, 4)) (mt_X4_ofMaking l) rfl (nk_msc [(2, 114), (2, 79), (2, 80), (2, 81), (1, 2)] (by decide +kernel)) rfl rfl (by decide +kernel) ⟨by decide, by decide⟩
set_option maxRecDepth 100000 in
set_option maxHeartbeats 4000000 in
theorem ca_X0_share_400 (l : Launch) : nk_CallOk l { frames := 2, cells := 0, slots := 0, locals := 59 } RX0 cX0_share 5 false 400 (1, 1, 0, 0, ev_X0_barsKnowing) := nk_callV (x := 100) (n := 0) (ci := 0) (r := (RX0, TX0, 15)) (mt_X0_barsKnowing l) rfl (nk_msc [(2, 120), (2, 121), (2, 122), (2, 123), (0, 9), (1, 4)] (by decide +kernel)) rfl rfl (by decide +kernel) ⟨by decide, by decide⟩
set_option maxRecDepth 100000 in
set_option maxHeartbeats 4000000 in
theorem ca_X0_share_412 (l : Launch) : nk_CallOk l { frames := 2, cells := 0, slots := 0, locals := 59 } RX0 cX0_share 5 false 412 (2, 1, 0, 0, ev_X0_knew) := nk_callV (x := 103) (n := 1) (ci := 0) (r := (RX0, TX0, 15)) (mt_X0_knew l) rfl (nk_msc [(2, 124), (2, 125), (2, 126), (2, 127), (0, 10), (1, 4)] (by decide +kernel)) rfl rfl (by decide +kernel) ⟨by decide, by decide⟩
set_option maxRecDepth 100000 in
set_option maxHeartbeats 4000000 in
theorem ca_X0_share_424 (l : Launch) : nk_CallOk l { frames := 2, cells := 0, slots := 0, locals := 59 } RX0 cX0_share 5 false 424 (3, 1, 0, 0, ev_X0_formTakes) := nk_callV (x := 106) (n := 2) (ci := 0) (r := (RX0, TX0, 15)) (mt_X0_formTakes l) rfl (nk_msc [(2, 128), (2, 129), (2, 130), (2, 131), (0, 11), (1, 4)] (by decide +kernel)) rfl rfl (by decide +kernel) ⟨by decide, by decide⟩
set_option maxRecDepth 100000 in
set_option maxHeartbeats 4000000 in
theorem ca_X0_share_288 (l : Launch) : nk_CallOk l { frames := 2, cells := 0, slots := 0, locals := 59 } RX0 cX0_share 5 false 288 (3, 1, 0, 0, ev_X0_giveAll) := nk_callV (x := 72) (n := 2) (ci := 0) (r := (RX0, TX0, 15)) (mt_X0_giveAll l) rfl (nk_msc [(2, 98), (2, 99), (2, 100), (2, 101), (0, 7), (1, 4)] (by decide +kernel)) rfl rfl (by decide +kernel) ⟨by decide, by decide⟩
set_option maxRecDepth 100000 in
set_option maxHeartbeats 4000000 in
theorem ca_X0_share_440 (l : Launch) : nk_CallOk l { frames := 2, cells := 0, slots := 0, locals := 59 } RX0 cX0_share 5 false 440 (1, 1, 0, 0, ev_X0_writeTakes) := nk_callV (x := 110) (n := 0) (ci := 0) (r := (RX0, TX0, 15)) (mt_X0_writeTakes l) rfl (nk_msc [(2, 132), (2, 133), (2, 134), (2, 135), (0, 12), (1, 4)] (by decide +kernel)) rfl rfl (by decide +kernel) ⟨by decide, by decide⟩
set_option maxRecDepth 100000 in
set_option maxHeartbeats 4000000 in
theorem ca_X0_share_372 (l : Launch) : nk_CallOk l { frames := 2, cells := 0, slots := 0, locals := 59 } RX0 cX0_share 5 false 372 (1, 1, 0, 0, ev_X0_someCame) := nk_callV (x := 93) (n := 0) (ci := 0) (r := (RX0, TX0, 15)) (mt_X0_someCame l) rfl (nk_msc [(2, 136), (2, 137), (2, 138), (2, 139), (1, 4)] (by decide +kernel)) rfl rfl (by decide +kernel) ⟨by decide, by decide⟩
set_option maxRecDepth 100000 in
set_option maxHeartbeats 4000000 in
theorem ca_X0_share_452 (l : Launch) : nk_CallOk l { frames := 2, cells := 0, slots := 0, locals := 59 } RX0 cX0_share 5 false 452 (1, 1, 0, 0, ev_X0_chiefTakesJoin) := nk_callV (x := 113) (n := 0) (ci := 0) (r := (RX0, TX0, 15)) (mt_X0_chiefTakesJoin l) rfl (nk_msc [(2, 140), (2, 141), (2, 142), (2, 143), (0, 13), (1, 4)] (by decide +kernel)) rfl rfl (by decide +kernel) ⟨by decide, by decide⟩
set_option maxRecDepth 100000 in
set_option maxHeartbeats 4000000 in
theorem ca_X0_share_464 (l : Launch) : nk_CallOk l { frames := 2, cells := 0, slots := 0, locals := 59 } RX0 cX0_share 5 false 464 (3, 1, 0, 0, ev_X0_blend) := nk_callV (x := 116) (n := 2) (ci := 0) (r := (RX0, TX0, 15)) (mt_X0_blend l) rfl (nk_msc [(2, 144), (2, 145), (2, 146), (2, 147), (0, 14), (1, 4)] (by decide +kernel)) rfl rfl (by decide +kernel) ⟨by decide, by decide⟩
set_option maxRecDepth 100000 in
set_option maxHeartbeats 4000000 in
theorem ca_X0_share_480 (l : Launch) : nk_CallOk l { frames := 2, cells := 0, slots := 0, locals := 59 } RX0 cX0_share 5 false 480 (1, 1, 0, 0, ev_X0_mixesByAmount) := nk_callV (x := 120) (n := 0) (ci := 0) (r := (RX0, TX0, 15)) (mt_X0_mixesByAmount l) rfl (nk_msc [(2, 156), (2, 157), (2, 158), (2, 159), (0, 15), (1, 4)] (by decide +kernel)) rfl rfl (by decide +kernel) ⟨by decide, by decide⟩
set_option maxRecDepth 100000 in
set_option maxHeartbeats 4000000 in
theorem mt_X0_share (l : Launch) : nk_Met l yX0_share cX0_share 5 none { frames := 2, cells := 0, slots := 0, locals := 59 } false 0 0 ev_X0_share :=
  nk_met nk_gok (plainFor_of_name (by decide)) ck_X0_share (nk_top_out 220 kt_X0_share) ⟨List.forall_mem_cons.mpr ⟨nk_fkc [(1, 60)] (by decide +kernel), List.forall_mem_cons.mpr ⟨nk_fkc [(1, 81)] (by decide +kernel), List.forall_mem_cons.mpr ⟨nk_fkc [(1, 77)] (by decide +kernel), List.forall_mem_cons.mpr ⟨nk_fkc [(1, 83)] (by decide +kernel), List.forall_mem_cons.mpr ⟨nk_fkc [(1, 69)] (by decide +kernel), List.forall_mem_cons.mpr ⟨nk_fkc [(1, 79)] (by decide +kernel), fun _ h => absurd h List.not_mem_nil⟩⟩⟩⟩⟩⟩, List.forall_mem_cons.mpr ⟨ca_X0_share_320 l, List.forall_mem_cons.mpr ⟨ca_X0_share_400 l, List.forall_mem_cons.mpr ⟨ca_X0_share_412 l, List.forall_mem_cons.mpr ⟨ca_X0_share_424 l, List.forall_mem_cons.mpr ⟨ca_X0_share_288 l, List.forall_mem_cons.mpr ⟨ca_X0_share_440 l, List.forall_mem_cons.mpr ⟨ca_X0_share_372 l, List.forall_mem_cons.mpr ⟨ca_X0_share_452 l, List.forall_mem_cons.mpr ⟨ca_X0_share_464 l, List.forall_mem_cons.mpr ⟨ca_X0_share_480 l, fun _ h => absurd h List.not_mem_nil⟩⟩⟩⟩⟩⟩⟩⟩⟩⟩, fun _ h => absurd h List.not_mem_nil, fun _ h => absurd h List.not_mem_nil, fun _ h => absurd h List.not_mem_nil, fun _ h => absurd h List.not_mem_nil, fun _ h => absurd h List.not_mem_nil, by decide, rfl, rfl⟩ rfl (by decide)
/-! MarbleLaw$Course.bringComer()V -/
noncomputable def kt_X0_bringComer : Nat → Option nk_I := fun pc => bif Nat.ble pc 19 then ((fun pc => bif Nat.ble pc 7 then ((fun pc => bif Nat.ble pc 4 then ((fun pc => bif Nat.ble pc 0 then (bif Nat.beq pc 0 then some (.aload_n 0, 1, 1, [], 0) else none)
  else (bif Nat.ble pc 1 then (bif Nat.beq pc 1 then some (.getfield 50, 3, 4, [], 0) else none)
  else (bif Nat.beq pc 4 then some (.istore_n 1, 1, 5, [], 0) else none))) : nk_F) pc
  else ((fun pc => bif Nat.ble pc 5 then (bif Nat.beq pc 5 then some (.iconst 0, 1, 6, [], 0) else none)
  else (bif Nat.ble pc 6 then (bif Nat.beq pc 6 then some (.istore_n 2, 1, 7, [], 0) else none)
  else (bif Nat.beq pc 7 then some (.iload_n 2, 1, 8, [], 0) else none))) : nk_F) pc) : nk_F) pc
  else ((fun pc => bif Nat.ble pc 12 then ((fun pc => bif Nat.ble pc 8 then (bif Nat.beq pc 8 then some (.aload_n 0, 1, 9, [], 0) else none)
  else (bif Nat.ble pc 9 then (bif Nat.beq pc 9 then some (.getfield 59, 3, 12, [], 0) else none)
  else (bif Nat.beq pc 12 then some (.getfield 63, 3, 15, [], 0) else none))) : nk_F) pc
  else ((fun pc => bif Nat.ble pc 15 then (bif Nat.beq pc 15 then some (.if_icmp .ge 29, 3, 18, [44], 0) else none)
  else (bif Nat.ble pc 18 then (bif Nat.beq pc 18 then some (.aload_n 0, 1, 19, [], 0) else none)
  else (bif Nat.beq pc 19 then some (.getfield 21, 3, 22, [], 0) else none))) : nk_F) pc) : nk_F) pc) : nk_F) pc
  else ((fun pc => bif Nat.ble pc 29 then ((fun pc => bif Nat.ble pc 24 then ((fun pc => bif Nat.ble pc 22 then (bif Nat.beq pc 22 then some (.iload_n 2, 1, 23, [], 0) else none)
  else (bif Nat.ble pc 23 then (bif Nat.beq pc 23 then some (.iaload, 1, 24, [], 0) else none)
  else (bif Nat.beq pc 24 then some (.iload_n 1, 1, 25, [], 0) else none))) : nk_F) pc
  else ((fun pc => bif Nat.ble pc 25 then (bif Nat.beq pc 25 then some (.if_icmp .ne 13, 3, 28, [38], 0) else none)
  else (bif Nat.ble pc 28 then (bif Nat.beq pc 28 then some (.aload_n 0, 1, 29, [], 0) else none)
  else (bif Nat.beq pc 29 then some (.getfield 21, 3, 32, [], 0) else none))) : nk_F) pc) : nk_F) pc
  else ((fun pc => bif Nat.ble pc 34 then ((fun pc => bif Nat.ble pc 32 then (bif Nat.beq pc 32 then some (.iload_n 2, 1, 33, [], 0) else none)
  else (bif Nat.ble pc 33 then (bif Nat.beq pc 33 then some (.aload_n 0, 1, 34, [], 0) else none)
  else (bif Nat.beq pc 34 then some (.getfield 47, 3, 37, [], 0) else none))) : nk_F) pc
  else ((fun pc => bif Nat.ble pc 38 then (bif Nat.ble pc 37 then (bif Nat.beq pc 37 then some (.iastore, 1, 38, [], 0) else none)
  else (bif Nat.beq pc 38 then some (.iinc 2 1, 3, 41, [], 1) else none))
  else (bif Nat.ble pc 41 then (bif Nat.beq pc 41 then some (.goto (-34), 3, 44, [7], 0) else none)
  else (bif Nat.beq pc 44 then some (.return_, 1, 45, [], 0) else none))) : nk_F) pc) : nk_F) pc) : nk_F) pc
noncomputable def kc_X0_bringComer : Nat → Option nk_I := nk_top 45 kt_X0_bringComer
noncomputable def kx_X0_bringComer : nk_T := ([(50, 0, 12, 0), (59, 0, 0, 4), (63, 4, 2, 0), (21, 0, 3, 4), (47, 0, 11, 0)], [], [], [], [], [], [], 0, false, 0, 0)
noncomputable def ev_X0_bringComer : nk_Ev := fun as h Q => nk_if (Nat.ble (nk_wd as) 3) (nk_ev kx_X0_bringComer kc_X0_bringComer 3 as h Q)
set_option maxRecDepth 100000 in
theorem ck_X0_bringComer : nk_chk cX0_bringComer kc_X0_bringComer 45 = true := nd_chk (by decide +kernel) (by decide +kernel)
set_option maxRecDepth 100000 in
set_option maxHeartbeats 4000000 in
theorem mt_X0_bringComer (l : Launch) : nk_Met l yX0_bringComer cX0_bringComer 3 none { frames := 0, cells := 0, slots := 0, locals := 0 } false 0 0 ev_X0_bringComer :=
  nk_met nk_gok (plainFor_of_name (by decide)) ck_X0_bringComer (nk_top_out 45 kt_X0_bringComer) ⟨List.forall_mem_cons.mpr ⟨nk_fkc [(1, 79)] (by decide +kernel), List.forall_mem_cons.mpr ⟨nk_fkc [(1, 60)] (by decide +kernel), List.forall_mem_cons.mpr ⟨nk_fkc [(1, 30)] (by decide +kernel), List.forall_mem_cons.mpr ⟨nk_fkc [(1, 63)] (by decide +kernel), List.forall_mem_cons.mpr ⟨nk_fkc [(1, 77)] (by decide +kernel), fun _ h => absurd h List.not_mem_nil⟩⟩⟩⟩⟩, fun _ h => absurd h List.not_mem_nil, fun _ h => absurd h List.not_mem_nil, fun _ h => absurd h List.not_mem_nil, fun _ h => absurd h List.not_mem_nil, fun _ h => absurd h List.not_mem_nil, fun _ h => absurd h List.not_mem_nil, by decide, rfl, rfl⟩ rfl (by decide)
/-! MarbleLaw$Course.step(I)V -/
noncomputable def kt_X0_step : Nat → Option nk_I := fun pc => bif Nat.ble pc 76 then ((fun pc => bif Nat.ble pc 37 then ((fun pc => bif Nat.ble pc 16 then ((fun pc => bif Nat.ble pc 6 then ((fun pc => bif Nat.ble pc 1 then (bif Nat.ble pc 0 then (bif Nat.beq pc 0 then some (.aload_n 0, 1, 1, [], 0) else none)
  else (bif Nat.beq pc 1 then some (.iload_n 1, 1, 2, [], 0) else none))
  else ((fun pc => bif Nat.ble pc 2 then (bif Nat.beq pc 2 then some (.invokevirtual 87, 3, 5, [], 0) else none)
  else (bif Nat.ble pc 5 then (bif Nat.beq pc 5 then some (.aload_n 0, 1, 6, [], 0) else none)
  else (bif Nat.beq pc 6 then some (.getfield 59, 3, 9, [], 0) else none))) : nk_F) pc) : nk_F) pc
  else ((fun pc => bif Nat.ble pc 11 then ((fun pc => bif Nat.ble pc 9 then (bif Nat.beq pc 9 then some (.iload_n 1, 1, 10, [], 0) else none)
  else (bif Nat.ble pc 10 then (bif Nat.beq pc 10 then some (.iconst 0, 1, 11, [], 0) else none)
  else (bif Nat.beq pc 11 then some (.invokevirtual 80, 3, 14, [], 0) else none))) : nk_F) pc
  else ((fun pc => bif Nat.ble pc 14 then (bif Nat.beq pc 14 then some (.istore_n 2, 1, 15, [], 0) else none)
  else (bif Nat.ble pc 15 then (bif Nat.beq pc 15 then some (.iload_n 2, 1, 16, [], 0) else none)
  else (bif Nat.beq pc 16 then some (.ifCond .ne 4, 3, 19, [20], 0) else none))) : nk_F) pc) : nk_F) pc) : nk_F) pc
  else ((fun pc => bif Nat.ble pc 27 then ((fun pc => bif Nat.ble pc 20 then (bif Nat.ble pc 19 then (bif Nat.beq pc 19 then some (.return_, 1, 20, [], 0) else none)
  else (bif Nat.beq pc 20 then some (.aload_n 0, 1, 21, [], 0) else none))
  else ((fun pc => bif Nat.ble pc 21 then (bif Nat.beq pc 21 then some (.getfield 43, 3, 24, [], 0) else none)
  else (bif Nat.ble pc 24 then (bif Nat.beq pc 24 then some (.ifCond .ne 9, 3, 27, [33], 0) else none)
  else (bif Nat.beq pc 27 then some (.aload_n 0, 1, 28, [], 0) else none))) : nk_F) pc) : nk_F) pc
  else ((fun pc => bif Nat.ble pc 30 then ((fun pc => bif Nat.ble pc 28 then (bif Nat.beq pc 28 then some (.iload_n 1, 1, 29, [], 0) else none)
  else (bif Nat.ble pc 29 then (bif Nat.beq pc 29 then some (.iload_n 2, 1, 30, [], 0) else none)
  else (bif Nat.beq pc 30 then some (.invokevirtual 90, 3, 33, [], 0) else none))) : nk_F) pc
  else ((fun pc => bif Nat.ble pc 33 then (bif Nat.beq pc 33 then some (.aload_n 0, 1, 34, [], 0) else none)
  else (bif Nat.ble pc 34 then (bif Nat.beq pc 34 then some (.getfield 27, 3, 37, [], 0) else none)
  else (bif Nat.beq pc 37 then some (.aload_n 0, 1, 38, [], 0) else none))) : nk_F) pc) : nk_F) pc) : nk_F) pc) : nk_F) pc
  else ((fun pc => bif Nat.ble pc 56 then ((fun pc => bif Nat.ble pc 44 then ((fun pc => bif Nat.ble pc 41 then (bif Nat.ble pc 38 then (bif Nat.beq pc 38 then some (.getfield 47, 3, 41, [], 0) else none)
  else (bif Nat.beq pc 41 then some (.dup2, 1, 42, [], 0) else none))
  else ((fun pc => bif Nat.ble pc 42 then (bif Nat.beq pc 42 then some (.iaload, 1, 43, [], 0) else none)
  else (bif Nat.ble pc 43 then (bif Nat.beq pc 43 then some (.aload_n 0, 1, 44, [], 0) else none)
  else (bif Nat.beq pc 44 then some (.getfield 56, 3, 47, [], 0) else none))) : nk_F) pc) : nk_F) pc
  else ((fun pc => bif Nat.ble pc 51 then ((fun pc => bif Nat.ble pc 47 then (bif Nat.beq pc 47 then some (.aload_n 0, 1, 48, [], 0) else none)
  else (bif Nat.ble pc 48 then (bif Nat.beq pc 48 then some (.getfield 59, 3, 51, [], 0) else none)
  else (bif Nat.beq pc 51 then some (.iload_n 1, 1, 52, [], 0) else none))) : nk_F) pc
  else ((fun pc => bif Nat.ble pc 52 then (bif Nat.beq pc 52 then some (.iconst 4, 1, 53, [], 4) else none)
  else (bif Nat.ble pc 53 then (bif Nat.beq pc 53 then some (.invokevirtual 80, 3, 56, [], 0) else none)
  else (bif Nat.beq pc 56 then some (.iadd, 1, 57, [], 0) else none))) : nk_F) pc) : nk_F) pc) : nk_F) pc
  else ((fun pc => bif Nat.ble pc 64 then ((fun pc => bif Nat.ble pc 59 then ((fun pc => bif Nat.ble pc 57 then (bif Nat.beq pc 57 then some (.iadd, 1, 58, [], 0) else none)
  else (bif Nat.ble pc 58 then (bif Nat.beq pc 58 then some (.iastore, 1, 59, [], 0) else none)
  else (bif Nat.beq pc 59 then some (.iload_n 2, 1, 60, [], 0) else none))) : nk_F) pc
  else ((fun pc => bif Nat.ble pc 60 then (bif Nat.beq pc 60 then some (.iconst 1, 1, 61, [], 1) else none)
  else (bif Nat.ble pc 61 then (bif Nat.beq pc 61 then some (.if_icmp .ne 24, 3, 64, [85], 0) else none)
  else (bif Nat.beq pc 64 then some (.aload_n 0, 1, 65, [], 0) else none))) : nk_F) pc) : nk_F) pc
  else ((fun pc => bif Nat.ble pc 69 then ((fun pc => bif Nat.ble pc 65 then (bif Nat.beq pc 65 then some (.getfield 24, 3, 68, [], 0) else none)
  else (bif Nat.ble pc 68 then (bif Nat.beq pc 68 then some (.aload_n 0, 1, 69, [], 0) else none)
  else (bif Nat.beq pc 69 then some (.getfield 47, 3, 72, [], 0) else none))) : nk_F) pc
  else ((fun pc => bif Nat.ble pc 72 then (bif Nat.beq pc 72 then some (.aload_n 0, 1, 73, [], 0) else none)
  else (bif Nat.ble pc 73 then (bif Nat.beq pc 73 then some (.getfield 59, 3, 76, [], 0) else none)
  else (bif Nat.beq pc 76 then some (.iload_n 1, 1, 77, [], 0) else none))) : nk_F) pc) : nk_F) pc) : nk_F) pc) : nk_F) pc) : nk_F) pc
  else ((fun pc => bif Nat.ble pc 115 then ((fun pc => bif Nat.ble pc 96 then ((fun pc => bif Nat.ble pc 85 then ((fun pc => bif Nat.ble pc 78 then (bif Nat.ble pc 77 then (bif Nat.beq pc 77 then some (.iconst 2, 1, 78, [], 2) else none)
  else (bif Nat.beq pc 78 then some (.invokevirtual 80, 3, 81, [], 0) else none))
  else ((fun pc => bif Nat.ble pc 81 then (bif Nat.beq pc 81 then some (.iastore, 1, 82, [], 0) else none)
  else (bif Nat.ble pc 82 then (bif Nat.beq pc 82 then some (.goto 74, 3, 85, [156], 0) else none)
  else (bif Nat.beq pc 85 then some (.iload_n 2, 1, 86, [], 0) else none))) : nk_F) pc) : nk_F) pc
  else ((fun pc => bif Nat.ble pc 91 then ((fun pc => bif Nat.ble pc 86 then (bif Nat.beq pc 86 then some (.bipush 6, 2, 88, [], 6) else none)
  else (bif Nat.ble pc 88 then (bif Nat.beq pc 88 then some (.if_icmp .ne 27, 3, 91, [115], 0) else none)
  else (bif Nat.beq pc 91 then some (.aload_n 0, 1, 92, [], 0) else none))) : nk_F) pc
  else ((fun pc => bif Nat.ble pc 92 then (bif Nat.beq pc 92 then some (.getfield 30, 3, 95, [], 0) else none)
  else (bif Nat.ble pc 95 then (bif Nat.beq pc 95 then some (.aload_n 0, 1, 96, [], 0) else none)
  else (bif Nat.beq pc 96 then some (.getfield 47, 3, 99, [], 0) else none))) : nk_F) pc) : nk_F) pc) : nk_F) pc
  else ((fun pc => bif Nat.ble pc 105 then ((fun pc => bif Nat.ble pc 100 then (bif Nat.ble pc 99 then (bif Nat.beq pc 99 then some (.dup2, 1, 100, [], 0) else none)
  else (bif Nat.beq pc 100 then some (.iaload, 1, 101, [], 0) else none))
  else ((fun pc => bif Nat.ble pc 101 then (bif Nat.beq pc 101 then some (.aload_n 0, 1, 102, [], 0) else none)
  else (bif Nat.ble pc 102 then (bif Nat.beq pc 102 then some (.getfield 59, 3, 105, [], 0) else none)
  else (bif Nat.beq pc 105 then some (.iload_n 1, 1, 106, [], 0) else none))) : nk_F) pc) : nk_F) pc
  else ((fun pc => bif Nat.ble pc 110 then ((fun pc => bif Nat.ble pc 106 then (bif Nat.beq pc 106 then some (.iconst 2, 1, 107, [], 2) else none)
  else (bif Nat.ble pc 107 then (bif Nat.beq pc 107 then some (.invokevirtual 80, 3, 110, [], 0) else none)
  else (bif Nat.beq pc 110 then some (.iadd, 1, 111, [], 0) else none))) : nk_F) pc
  else ((fun pc => bif Nat.ble pc 111 then (bif Nat.beq pc 111 then some (.iastore, 1, 112, [], 0) else none)
  else (bif Nat.ble pc 112 then (bif Nat.beq pc 112 then some (.goto 44, 3, 115, [156], 0) else none)
  else (bif Nat.beq pc 115 then some (.aload_n 0, 1, 116, [], 0) else none))) : nk_F) pc) : nk_F) pc) : nk_F) pc) : nk_F) pc
  else ((fun pc => bif Nat.ble pc 134 then ((fun pc => bif Nat.ble pc 126 then ((fun pc => bif Nat.ble pc 119 then (bif Nat.ble pc 116 then (bif Nat.beq pc 116 then some (.invokevirtual 93, 3, 119, [], 0) else none)
  else (bif Nat.beq pc 119 then some (.ifCond .eq 37, 3, 122, [156], 0) else none))
  else ((fun pc => bif Nat.ble pc 122 then (bif Nat.beq pc 122 then some (.aload_n 0, 1, 123, [], 0) else none)
  else (bif Nat.ble pc 123 then (bif Nat.beq pc 123 then some (.getfield 30, 3, 126, [], 0) else none)
  else (bif Nat.beq pc 126 then some (.aload_n 0, 1, 127, [], 0) else none))) : nk_F) pc) : nk_F) pc
  else ((fun pc => bif Nat.ble pc 131 then ((fun pc => bif Nat.ble pc 127 then (bif Nat.beq pc 127 then some (.getfield 47, 3, 130, [], 0) else none)
  else (bif Nat.ble pc 130 then (bif Nat.beq pc 130 then some (.dup2, 1, 131, [], 0) else none)
  else (bif Nat.beq pc 131 then some (.iaload, 1, 132, [], 0) else none))) : nk_F) pc
  else ((fun pc => bif Nat.ble pc 132 then (bif Nat.beq pc 132 then some (.iload_n 2, 1, 133, [], 0) else none)
  else (bif Nat.ble pc 133 then (bif Nat.beq pc 133 then some (.iconst 3, 1, 134, [], 3) else none)
  else (bif Nat.beq pc 134 then some (.if_icmp .ne 15, 3, 137, [149], 0) else none))) : nk_F) pc) : nk_F) pc) : nk_F) pc
  else ((fun pc => bif Nat.ble pc 146 then ((fun pc => bif Nat.ble pc 141 then ((fun pc => bif Nat.ble pc 137 then (bif Nat.beq pc 137 then some (.aload_n 0, 1, 138, [], 0) else none)
  else (bif Nat.ble pc 138 then (bif Nat.beq pc 138 then some (.getfield 30, 3, 141, [], 0) else none)
  else (bif Nat.beq pc 141 then some (.aload_n 0, 1, 142, [], 0) else none))) : nk_F) pc
  else ((fun pc => bif Nat.ble pc 142 then (bif Nat.beq pc 142 then some (.getfield 50, 3, 145, [], 0) else none)
  else (bif Nat.ble pc 145 then (bif Nat.beq pc 145 then some (.iaload, 1, 146, [], 0) else none)
  else (bif Nat.beq pc 146 then some (.goto 4, 3, 149, [150], 0) else none))) : nk_F) pc) : nk_F) pc
  else ((fun pc => bif Nat.ble pc 151 then ((fun pc => bif Nat.ble pc 149 then (bif Nat.beq pc 149 then some (.iconst 0, 1, 150, [], 0) else none)
  else (bif Nat.ble pc 150 then (bif Nat.beq pc 150 then some (.iadd, 1, 151, [], 0) else none)
  else (bif Nat.beq pc 151 then some (.iastore, 1, 152, [], 0) else none))) : nk_F) pc
  else ((fun pc => bif Nat.ble pc 152 then (bif Nat.beq pc 152 then some (.aload_n 0, 1, 153, [], 0) else none)
  else (bif Nat.ble pc 153 then (bif Nat.beq pc 153 then some (.invokevirtual 97, 3, 156, [], 0) else none)
  else (bif Nat.beq pc 156 then some (.return_, 1, 157, [], 0) else none))) : nk_F) pc) : nk_F) pc) : nk_F) pc) : nk_F) pc) : nk_F) pc
noncomputable def kc_X0_step : Nat → Option nk_I := nk_top 157 kt_X0_step
noncomputable def kx_X0_step : nk_T := ([(59, 0, 0, 4), (43, 0, 10, 1), (27, 0, 5, 4), (47, 0, 11, 0), (56, 0, 14, 0), (24, 0, 4, 4), (30, 0, 6, 4), (50, 0, 12, 0)], [(348, 2, 1, 0, 0, ev_X0_meet), (320, 3, 5, 0, 0, ev_X4_ofMaking), (360, 3, 1, 0, 0, ev_X0_share), (372, 1, 1, 0, 0, ev_X0_someCame), (388, 1, 1, 0, 0, ev_X0_bringComer)], [], [], [], [], [], 0, false, 0, 0)
noncomputable def ev_X0_step : nk_Ev := fun as h Q => nk_if (Nat.ble (nk_wd as) 3) (nk_ev kx_X0_step kc_X0_step 3 as h Q)
set_option maxRecDepth 100000 in
theorem ck_X0_step : nk_chk cX0_step kc_X0_step 157 = true := nd_chk (by decide +kernel) (by decide +kernel)
set_option maxRecDepth 100000 in
set_option maxHeartbeats 4000000 in
theorem ca_X0_step_348 (l : Launch) : nk_CallOk l { frames := 3, cells := 0, slots := 0, locals := 83 } RX0 cX0_step 3 false 348 (2, 1, 0, 0, ev_X0_meet) := nk_callV (x := 87) (n := 1) (ci := 0) (r := (RX0, TX0, 15)) (mt_X0_meet l) rfl (nk_msc [(2, 110), (2, 111), (2, 112), (2, 113), (1, 4)] (by decide +kernel)) rfl rfl (by decide +kernel) ⟨by decide, by decide⟩
set_option maxRecDepth 100000 in
set_option maxHeartbeats 4000000 in
theorem ca_X0_step_320 (l : Launch) : nk_CallOk l { frames := 3, cells := 0, slots := 0, locals := 83 } RX0 cX0_step 3 false 320 (3, 5, 0, 0, ev_X4_ofMaking) := nk_callV (x := 80) (n := 2) (ci := 4) (r := (RX4, TX4, 4)) (mt_X4_ofMaking l) rfl (nk_msc [(2, 114), (2, 79), (2, 80), (2, 81), (1, 2)] (by decide +kernel)) rfl rfl (by decide +kernel) ⟨by decide, by decide⟩
set_option maxRecDepth 100000 in
set_option maxHeartbeats 4000000 in
theorem ca_X0_step_360 (l : Launch) : nk_CallOk l { frames := 3, cells := 0, slots := 0, locals := 83 } RX0 cX0_step 3 false 360 (3, 1, 0, 0, ev_X0_share) := nk_callV (x := 90) (n := 2) (ci := 0) (r := (RX0, TX0, 15)) (mt_X0_share l) rfl (nk_msc [(2, 116), (2, 117), (2, 118), (2, 119), (0, 8), (1, 4)] (by decide +kernel)) rfl rfl (by decide +kernel) ⟨by decide, by decide⟩
set_option maxRecDepth 100000 in
set_option maxHeartbeats 4000000 in
theorem ca_X0_step_372 (l : Launch) : nk_CallOk l { frames := 3, cells := 0, slots := 0, locals := 83 } RX0 cX0_step 3 false 372 (1, 1, 0, 0, ev_X0_someCame) := nk_callV (x := 93) (n := 0) (ci := 0) (r := (RX0, TX0, 15)) (mt_X0_someCame l) rfl (nk_msc [(2, 136), (2, 137), (2, 138), (2, 139), (1, 4)] (by decide +kernel)) rfl rfl (by decide +kernel) ⟨by decide, by decide⟩
set_option maxRecDepth 100000 in
set_option maxHeartbeats 4000000 in
theorem ca_X0_step_388 (l : Launch) : nk_CallOk l { frames := 3, cells := 0, slots := 0, locals := 83 } RX0 cX0_step 3 false 388 (1, 1, 0, 0, ev_X0_bringComer) := nk_callV (x := 97) (n := 0) (ci := 0) (r := (RX0, TX0, 15)) (mt_X0_bringComer l) rfl (nk_msc [(2, 160), (2, 161), (2, 162), (2, 163), (0, 16), (1, 4)] (by decide +kernel)) rfl rfl (by decide +kernel) ⟨by decide, by decide⟩
set_option maxRecDepth 100000 in
set_option maxHeartbeats 4000000 in
theorem mt_X0_step (l : Launch) : nk_Met l yX0_step cX0_step 3 none { frames := 3, cells := 0, slots := 0, locals := 83 } false 0 0 ev_X0_step :=
  nk_met nk_gok (plainFor_of_name (by decide)) ck_X0_step (nk_top_out 157 kt_X0_step) ⟨List.forall_mem_cons.mpr ⟨nk_fkc [(1, 60)] (by decide +kernel), List.forall_mem_cons.mpr ⟨nk_fkc [(1, 75)] (by decide +kernel), List.forall_mem_cons.mpr ⟨nk_fkc [(1, 67)] (by decide +kernel), List.forall_mem_cons.mpr ⟨nk_fkc [(1, 77)] (by decide +kernel), List.forall_mem_cons.mpr ⟨nk_fkc [(1, 83)] (by decide +kernel), List.forall_mem_cons.mpr ⟨nk_fkc [(1, 65)] (by decide +kernel), List.forall_mem_cons.mpr ⟨nk_fkc [(1, 69)] (by decide +kernel), List.forall_mem_cons.mpr ⟨nk_fkc [(1, 79)] (by decide +kernel), fun _ h => absurd h List.not_mem_nil⟩⟩⟩⟩⟩⟩⟩⟩, List.forall_mem_cons.mpr ⟨ca_X0_step_348 l, List.forall_mem_cons.mpr ⟨ca_X0_step_320 l, List.forall_mem_cons.mpr ⟨ca_X0_step_360 l, List.forall_mem_cons.mpr ⟨ca_X0_step_372 l, List.forall_mem_cons.mpr ⟨ca_X0_step_388 l, fun _ h => absurd h List.not_mem_nil⟩⟩⟩⟩⟩, fun _ h => absurd h List.not_mem_nil, fun _ h => absurd h List.not_mem_nil, fun _ h => absurd h List.not_mem_nil, fun _ h => absurd h List.not_mem_nil, fun _ h => absurd h List.not_mem_nil, by decide, rfl, rfl⟩ rfl (by decide)
/-! MarbleLaw$Course.go(II)V -/
noncomputable def kt_X0_go : Nat → Option nk_I := fun pc => bif Nat.ble pc 4 then ((fun pc => bif Nat.ble pc 1 then (bif Nat.ble pc 0 then (bif Nat.beq pc 0 then some (.iload_n 1, 1, 1, [], 0) else none)
  else (bif Nat.beq pc 1 then some (.istore_n 3, 1, 2, [], 0) else none))
  else ((fun pc => bif Nat.ble pc 2 then (bif Nat.beq pc 2 then some (.iload_n 3, 1, 3, [], 0) else none)
  else (bif Nat.ble pc 3 then (bif Nat.beq pc 3 then some (.iload_n 2, 1, 4, [], 0) else none)
  else (bif Nat.beq pc 4 then some (.if_icmp .ge 14, 3, 7, [18], 0) else none))) : nk_F) pc) : nk_F) pc
  else ((fun pc => bif Nat.ble pc 9 then ((fun pc => bif Nat.ble pc 7 then (bif Nat.beq pc 7 then some (.aload_n 0, 1, 8, [], 0) else none)
  else (bif Nat.ble pc 8 then (bif Nat.beq pc 8 then some (.iload_n 3, 1, 9, [], 0) else none)
  else (bif Nat.beq pc 9 then some (.invokevirtual 76, 3, 12, [], 0) else none))) : nk_F) pc
  else ((fun pc => bif Nat.ble pc 12 then (bif Nat.beq pc 12 then some (.iinc 3 1, 3, 15, [], 1) else none)
  else (bif Nat.ble pc 15 then (bif Nat.beq pc 15 then some (.goto (-13), 3, 18, [2], 0) else none)
  else (bif Nat.beq pc 18 then some (.return_, 1, 19, [], 0) else none))) : nk_F) pc) : nk_F) pc
noncomputable def kc_X0_go : Nat → Option nk_I := nk_top 19 kt_X0_go
noncomputable def kx_X0_go : nk_T := ([], [(304, 2, 1, 0, 0, ev_X0_step)], [], [], [], [], [], 0, false, 0, 0)
noncomputable def ev_X0_go : nk_Ev := fun as h Q => nk_if (Nat.ble (nk_wd as) 4) (nk_ev kx_X0_go kc_X0_go 4 as h Q)
set_option maxRecDepth 100000 in
theorem ck_X0_go : nk_chk cX0_go kc_X0_go 19 = true := nd_chk (by decide +kernel) (by decide +kernel)
set_option maxRecDepth 100000 in
set_option maxHeartbeats 4000000 in
theorem ca_X0_go_304 (l : Launch) : nk_CallOk l { frames := 4, cells := 0, slots := 0, locals := 105 } RX0 cX0_go 4 false 304 (2, 1, 0, 0, ev_X0_step) := nk_callV (x := 76) (n := 1) (ci := 0) (r := (RX0, TX0, 15)) (mt_X0_step l) rfl (nk_msc [(2, 106), (2, 107), (2, 108), (2, 109), (1, 4)] (by decide +kernel)) rfl rfl (by decide +kernel) ⟨by decide, by decide⟩
set_option maxRecDepth 100000 in
set_option maxHeartbeats 4000000 in
theorem mt_X0_go (l : Launch) : nk_Met l yX0_go cX0_go 4 none { frames := 4, cells := 0, slots := 0, locals := 105 } false 0 0 ev_X0_go :=
  nk_met nk_gok (plainFor_of_name (by decide)) ck_X0_go (nk_top_out 19 kt_X0_go) ⟨fun _ h => absurd h List.not_mem_nil, List.forall_mem_cons.mpr ⟨ca_X0_go_304 l, fun _ h => absurd h List.not_mem_nil⟩, fun _ h => absurd h List.not_mem_nil, fun _ h => absurd h List.not_mem_nil, fun _ h => absurd h List.not_mem_nil, fun _ h => absurd h List.not_mem_nil, fun _ h => absurd h List.not_mem_nil, by decide, rfl, rfl⟩ rfl (by decide)
/-! MarbleLaw$Course.hasSome(II)Z -/
noncomputable def kt_X0_hasSome : Nat → Option nk_I := fun pc => bif Nat.ble pc 8 then ((fun pc => bif Nat.ble pc 2 then ((fun pc => bif Nat.ble pc 0 then (bif Nat.beq pc 0 then some (.aload_n 0, 1, 1, [], 0) else none)
  else (bif Nat.ble pc 1 then (bif Nat.beq pc 1 then some (.aload_n 0, 1, 2, [], 0) else none)
  else (bif Nat.beq pc 2 then some (.getfield 21, 3, 5, [], 0) else none))) : nk_F) pc
  else ((fun pc => bif Nat.ble pc 6 then (bif Nat.ble pc 5 then (bif Nat.beq pc 5 then some (.iload_n 1, 1, 6, [], 0) else none)
  else (bif Nat.beq pc 6 then some (.iaload, 1, 7, [], 0) else none))
  else (bif Nat.ble pc 7 then (bif Nat.beq pc 7 then some (.iload_n 2, 1, 8, [], 0) else none)
  else (bif Nat.beq pc 8 then some (.invokevirtual 123, 3, 11, [], 0) else none))) : nk_F) pc) : nk_F) pc
  else ((fun pc => bif Nat.ble pc 13 then ((fun pc => bif Nat.ble pc 11 then (bif Nat.beq pc 11 then some (.lconst 0, 1, 12, [], 0) else none)
  else (bif Nat.ble pc 12 then (bif Nat.beq pc 12 then some (.lcmp, 1, 13, [], 0) else none)
  else (bif Nat.beq pc 13 then some (.ifCond .le 7, 3, 16, [20], 0) else none))) : nk_F) pc
  else ((fun pc => bif Nat.ble pc 17 then (bif Nat.ble pc 16 then (bif Nat.beq pc 16 then some (.iconst 1, 1, 17, [], 1) else none)
  else (bif Nat.beq pc 17 then some (.goto 4, 3, 20, [21], 0) else none))
  else (bif Nat.ble pc 20 then (bif Nat.beq pc 20 then some (.iconst 0, 1, 21, [], 0) else none)
  else (bif Nat.beq pc 21 then some (.ireturn, 1, 22, [], 0) else none))) : nk_F) pc) : nk_F) pc
noncomputable def kc_X0_hasSome : Nat → Option nk_I := nk_top 22 kt_X0_hasSome
noncomputable def kx_X0_hasSome : nk_T := ([(21, 0, 3, 4)], [(492, 3, 1, 0, 0, ev_X0_part)], [], [], [], [], [], 2, false, 0, 0)
noncomputable def ev_X0_hasSome : nk_Ev := fun as h Q => nk_if (Nat.ble (nk_wd as) 3) (nk_ev kx_X0_hasSome kc_X0_hasSome 3 as h Q)
set_option maxRecDepth 100000 in
theorem ck_X0_hasSome : nk_chk cX0_hasSome kc_X0_hasSome 22 = true := nd_chk (by decide +kernel) (by decide +kernel)
set_option maxRecDepth 100000 in
set_option maxHeartbeats 4000000 in
theorem ca_X0_hasSome_492 (l : Launch) : nk_CallOk l { frames := 1, cells := 0, slots := 0, locals := 22 } RX0 cX0_hasSome 3 false 492 (3, 1, 0, 0, ev_X0_part) := nk_callV (x := 123) (n := 2) (ci := 0) (r := (RX0, TX0, 15)) (mt_X0_part l) rfl (nk_msc [(2, 148), (2, 149), (2, 150), (2, 151), (1, 4)] (by decide +kernel)) rfl rfl (by decide +kernel) ⟨by decide, by decide⟩
set_option maxRecDepth 100000 in
set_option maxHeartbeats 4000000 in
theorem mt_X0_hasSome (l : Launch) : nk_Met l yX0_hasSome cX0_hasSome 3 (some .boolean) { frames := 1, cells := 0, slots := 0, locals := 22 } false 0 0 ev_X0_hasSome :=
  nk_met nk_gok (plainFor_of_name (by decide)) ck_X0_hasSome (nk_top_out 22 kt_X0_hasSome) ⟨List.forall_mem_cons.mpr ⟨nk_fkc [(1, 63)] (by decide +kernel), fun _ h => absurd h List.not_mem_nil⟩, List.forall_mem_cons.mpr ⟨ca_X0_hasSome_492 l, fun _ h => absurd h List.not_mem_nil⟩, fun _ h => absurd h List.not_mem_nil, fun _ h => absurd h List.not_mem_nil, fun _ h => absurd h List.not_mem_nil, fun _ h => absurd h List.not_mem_nil, fun _ h => absurd h List.not_mem_nil, by decide, rfl, rfl⟩ rfl (by decide)
/-! MarbleLaw$Course.hasAll(II)Z -/
noncomputable def kt_X0_hasAll : Nat → Option nk_I := fun pc => bif Nat.ble pc 10 then ((fun pc => bif Nat.ble pc 2 then ((fun pc => bif Nat.ble pc 0 then (bif Nat.beq pc 0 then some (.aload_n 0, 1, 1, [], 0) else none)
  else (bif Nat.ble pc 1 then (bif Nat.beq pc 1 then some (.iload_n 1, 1, 2, [], 0) else none)
  else (bif Nat.beq pc 2 then some (.iload_n 2, 1, 3, [], 0) else none))) : nk_F) pc
  else ((fun pc => bif Nat.ble pc 6 then (bif Nat.ble pc 3 then (bif Nat.beq pc 3 then some (.invokevirtual 123, 3, 6, [], 0) else none)
  else (bif Nat.beq pc 6 then some (.aload_n 0, 1, 7, [], 0) else none))
  else (bif Nat.ble pc 7 then (bif Nat.beq pc 7 then some (.getfield 33, 3, 10, [], 0) else none)
  else (bif Nat.beq pc 10 then some (.iload_n 1, 1, 11, [], 0) else none))) : nk_F) pc) : nk_F) pc
  else ((fun pc => bif Nat.ble pc 14 then ((fun pc => bif Nat.ble pc 12 then (bif Nat.ble pc 11 then (bif Nat.beq pc 11 then some (.iaload, 1, 12, [], 0) else none)
  else (bif Nat.beq pc 12 then some (.i2l, 1, 13, [], 0) else none))
  else (bif Nat.ble pc 13 then (bif Nat.beq pc 13 then some (.lcmp, 1, 14, [], 0) else none)
  else (bif Nat.beq pc 14 then some (.ifCond .ne 7, 3, 17, [21], 0) else none))) : nk_F) pc
  else ((fun pc => bif Nat.ble pc 18 then (bif Nat.ble pc 17 then (bif Nat.beq pc 17 then some (.iconst 1, 1, 18, [], 1) else none)
  else (bif Nat.beq pc 18 then some (.goto 4, 3, 21, [22], 0) else none))
  else (bif Nat.ble pc 21 then (bif Nat.beq pc 21 then some (.iconst 0, 1, 22, [], 0) else none)
  else (bif Nat.beq pc 22 then some (.ireturn, 1, 23, [], 0) else none))) : nk_F) pc) : nk_F) pc
noncomputable def kc_X0_hasAll : Nat → Option nk_I := nk_top 23 kt_X0_hasAll
noncomputable def kx_X0_hasAll : nk_T := ([(33, 0, 7, 4)], [(492, 3, 1, 0, 0, ev_X0_part)], [], [], [], [], [], 2, false, 0, 0)
noncomputable def ev_X0_hasAll : nk_Ev := fun as h Q => nk_if (Nat.ble (nk_wd as) 3) (nk_ev kx_X0_hasAll kc_X0_hasAll 3 as h Q)
set_option maxRecDepth 100000 in
theorem ck_X0_hasAll : nk_chk cX0_hasAll kc_X0_hasAll 23 = true := nd_chk (by decide +kernel) (by decide +kernel)
set_option maxRecDepth 100000 in
set_option maxHeartbeats 4000000 in
theorem ca_X0_hasAll_492 (l : Launch) : nk_CallOk l { frames := 1, cells := 0, slots := 0, locals := 22 } RX0 cX0_hasAll 3 false 492 (3, 1, 0, 0, ev_X0_part) := nk_callV (x := 123) (n := 2) (ci := 0) (r := (RX0, TX0, 15)) (mt_X0_part l) rfl (nk_msc [(2, 148), (2, 149), (2, 150), (2, 151), (1, 4)] (by decide +kernel)) rfl rfl (by decide +kernel) ⟨by decide, by decide⟩
set_option maxRecDepth 100000 in
set_option maxHeartbeats 4000000 in
theorem mt_X0_hasAll (l : Launch) : nk_Met l yX0_hasAll cX0_hasAll 3 (some .boolean) { frames := 1, cells := 0, slots := 0, locals := 22 } false 0 0 ev_X0_hasAll :=
  nk_met nk_gok (plainFor_of_name (by decide)) ck_X0_hasAll (nk_top_out 23 kt_X0_hasAll) ⟨List.forall_mem_cons.mpr ⟨nk_fkc [(1, 71)] (by decide +kernel), fun _ h => absurd h List.not_mem_nil⟩, List.forall_mem_cons.mpr ⟨ca_X0_hasAll_492 l, fun _ h => absurd h List.not_mem_nil⟩, fun _ h => absurd h List.not_mem_nil, fun _ h => absurd h List.not_mem_nil, fun _ h => absurd h List.not_mem_nil, fun _ h => absurd h List.not_mem_nil, fun _ h => absurd h List.not_mem_nil, by decide, rfl, rfl⟩ rfl (by decide)
