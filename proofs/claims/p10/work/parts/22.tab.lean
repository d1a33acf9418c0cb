/-! MarbleLawModel.stuffs(I)I -/
noncomputable def kt_X6_stuffs : Nat → Option nk_I := fun pc => bif Nat.ble pc 92 then ((fun pc => bif Nat.ble pc 42 then ((fun pc => bif Nat.ble pc 19 then ((fun pc => bif Nat.ble pc 10 then ((fun pc => bif Nat.ble pc 2 then ((fun pc => bif Nat.ble pc 0 then (bif Nat.beq pc 0 then some (.aload_n 0, 1, 1, [], 0) else none)
  else (bif Nat.ble pc 1 then (bif Nat.beq pc 1 then some (.iload_n 1, 1, 2, [], 0) else none)
  else (bif Nat.beq pc 2 then some (.invokevirtual 104, 3, 5, [], 0) else none))) : nk_F) pc
  else ((fun pc => bif Nat.ble pc 6 then (bif Nat.ble pc 5 then (bif Nat.beq pc 5 then some (.istore_n 2, 1, 6, [], 0) else none)
  else (bif Nat.beq pc 6 then some (.iload_n 2, 1, 7, [], 0) else none))
  else (bif Nat.ble pc 7 then (bif Nat.beq pc 7 then some (.ifCond .ge 5, 3, 10, [12], 0) else none)
  else (bif Nat.beq pc 10 then some (.iload_n 2, 1, 11, [], 0) else none))) : nk_F) pc) : nk_F) pc
  else ((fun pc => bif Nat.ble pc 13 then ((fun pc => bif Nat.ble pc 11 then (bif Nat.beq pc 11 then some (.ireturn, 1, 12, [], 0) else none)
  else (bif Nat.ble pc 12 then (bif Nat.beq pc 12 then some (.aload_n 0, 1, 13, [], 0) else none)
  else (bif Nat.beq pc 13 then some (.getfield 17, 3, 16, [], 0) else none))) : nk_F) pc
  else ((fun pc => bif Nat.ble pc 17 then (bif Nat.ble pc 16 then (bif Nat.beq pc 16 then some (.iload_n 1, 1, 17, [], 0) else none)
  else (bif Nat.beq pc 17 then some (.iaload, 1, 18, [], 0) else none))
  else (bif Nat.ble pc 18 then (bif Nat.beq pc 18 then some (.iconst 4, 1, 19, [], 4) else none)
  else (bif Nat.beq pc 19 then some (.irem, 1, 20, [], 0) else none))) : nk_F) pc) : nk_F) pc) : nk_F) pc
  else ((fun pc => bif Nat.ble pc 30 then ((fun pc => bif Nat.ble pc 24 then ((fun pc => bif Nat.ble pc 20 then (bif Nat.beq pc 20 then some (.ifCond .eq 9, 3, 23, [29], 0) else none)
  else (bif Nat.ble pc 23 then (bif Nat.beq pc 23 then some (.aload_n 0, 1, 24, [], 0) else none)
  else (bif Nat.beq pc 24 then some (.iconst 5, 1, 25, [], 5) else none))) : nk_F) pc
  else ((fun pc => bif Nat.ble pc 28 then (bif Nat.ble pc 25 then (bif Nat.beq pc 25 then some (.invokevirtual 97, 3, 28, [], 0) else none)
  else (bif Nat.beq pc 28 then some (.ireturn, 1, 29, [], 0) else none))
  else (bif Nat.ble pc 29 then (bif Nat.beq pc 29 then some (.aload_n 0, 1, 30, [], 0) else none)
  else (bif Nat.beq pc 30 then some (.getfield 17, 3, 33, [], 0) else none))) : nk_F) pc) : nk_F) pc
  else ((fun pc => bif Nat.ble pc 36 then ((fun pc => bif Nat.ble pc 34 then (bif Nat.ble pc 33 then (bif Nat.beq pc 33 then some (.iload_n 1, 1, 34, [], 0) else none)
  else (bif Nat.beq pc 34 then some (.iaload, 1, 35, [], 0) else none))
  else (bif Nat.ble pc 35 then (bif Nat.beq pc 35 then some (.iconst 4, 1, 36, [], 4) else none)
  else (bif Nat.beq pc 36 then some (.idiv, 1, 37, [], 0) else none))) : nk_F) pc
  else ((fun pc => bif Nat.ble pc 38 then (bif Nat.ble pc 37 then (bif Nat.beq pc 37 then some (.istore_n 3, 1, 38, [], 0) else none)
  else (bif Nat.beq pc 38 then some (.aload_n 0, 1, 39, [], 0) else none))
  else (bif Nat.ble pc 39 then (bif Nat.beq pc 39 then some (.getfield 120, 3, 42, [], 0) else none)
  else (bif Nat.beq pc 42 then some (.iload_n 3, 1, 43, [], 0) else none))) : nk_F) pc) : nk_F) pc) : nk_F) pc) : nk_F) pc
  else ((fun pc => bif Nat.ble pc 66 then ((fun pc => bif Nat.ble pc 53 then ((fun pc => bif Nat.ble pc 46 then ((fun pc => bif Nat.ble pc 43 then (bif Nat.beq pc 43 then some (.iadd, 1, 44, [], 0) else none)
  else (bif Nat.ble pc 44 then (bif Nat.beq pc 44 then some (.bipush 16, 2, 46, [], 16) else none)
  else (bif Nat.beq pc 46 then some (.if_icmp .le 6, 3, 49, [52], 0) else none))) : nk_F) pc
  else ((fun pc => bif Nat.ble pc 51 then (bif Nat.ble pc 49 then (bif Nat.beq pc 49 then some (.bipush (-2), 2, 51, [], (-2)) else none)
  else (bif Nat.beq pc 51 then some (.ireturn, 1, 52, [], 0) else none))
  else (bif Nat.ble pc 52 then (bif Nat.beq pc 52 then some (.iconst 1, 1, 53, [], 1) else none)
  else (bif Nat.beq pc 53 then some (.istore 4, 2, 55, [], 0) else none))) : nk_F) pc) : nk_F) pc
  else ((fun pc => bif Nat.ble pc 60 then ((fun pc => bif Nat.ble pc 56 then (bif Nat.ble pc 55 then (bif Nat.beq pc 55 then some (.iconst 0, 1, 56, [], 0) else none)
  else (bif Nat.beq pc 56 then some (.istore 5, 2, 58, [], 0) else none))
  else (bif Nat.ble pc 58 then (bif Nat.beq pc 58 then some (.iload 5, 2, 60, [], 0) else none)
  else (bif Nat.beq pc 60 then some (.aload_n 0, 1, 61, [], 0) else none))) : nk_F) pc
  else ((fun pc => bif Nat.ble pc 64 then (bif Nat.ble pc 61 then (bif Nat.beq pc 61 then some (.getfield 17, 3, 64, [], 0) else none)
  else (bif Nat.beq pc 64 then some (.iload_n 1, 1, 65, [], 0) else none))
  else (bif Nat.ble pc 65 then (bif Nat.beq pc 65 then some (.iaload, 1, 66, [], 0) else none)
  else (bif Nat.beq pc 66 then some (.if_icmp .ge 61, 3, 69, [127], 0) else none))) : nk_F) pc) : nk_F) pc) : nk_F) pc
  else ((fun pc => bif Nat.ble pc 81 then ((fun pc => bif Nat.ble pc 74 then ((fun pc => bif Nat.ble pc 69 then (bif Nat.beq pc 69 then some (.iload 4, 2, 71, [], 0) else none)
  else (bif Nat.ble pc 71 then (bif Nat.beq pc 71 then some (.ifCond .eq 47, 3, 74, [118], 0) else none)
  else (bif Nat.beq pc 74 then some (.aload_n 0, 1, 75, [], 0) else none))) : nk_F) pc
  else ((fun pc => bif Nat.ble pc 76 then (bif Nat.ble pc 75 then (bif Nat.beq pc 75 then some (.iload_n 1, 1, 76, [], 0) else none)
  else (bif Nat.beq pc 76 then some (.iload 5, 2, 78, [], 0) else none))
  else (bif Nat.ble pc 78 then (bif Nat.beq pc 78 then some (.invokevirtual 107, 3, 81, [], 0) else none)
  else (bif Nat.beq pc 81 then some (.aload_n 0, 1, 82, [], 0) else none))) : nk_F) pc) : nk_F) pc
  else ((fun pc => bif Nat.ble pc 86 then ((fun pc => bif Nat.ble pc 83 then (bif Nat.ble pc 82 then (bif Nat.beq pc 82 then some (.iload_n 1, 1, 83, [], 0) else none)
  else (bif Nat.beq pc 83 then some (.iload 5, 2, 85, [], 0) else none))
  else (bif Nat.ble pc 85 then (bif Nat.beq pc 85 then some (.iconst 1, 1, 86, [], 1) else none)
  else (bif Nat.beq pc 86 then some (.iadd, 1, 87, [], 0) else none))) : nk_F) pc
  else ((fun pc => bif Nat.ble pc 90 then (bif Nat.ble pc 87 then (bif Nat.beq pc 87 then some (.invokevirtual 107, 3, 90, [], 0) else none)
  else (bif Nat.beq pc 90 then some (.aload_n 0, 1, 91, [], 0) else none))
  else (bif Nat.ble pc 91 then (bif Nat.beq pc 91 then some (.iload_n 1, 1, 92, [], 0) else none)
  else (bif Nat.beq pc 92 then some (.iload 5, 2, 94, [], 0) else none))) : nk_F) pc) : nk_F) pc) : nk_F) pc) : nk_F) pc) : nk_F) pc
  else ((fun pc => bif Nat.ble pc 148 then ((fun pc => bif Nat.ble pc 119 then ((fun pc => bif Nat.ble pc 103 then ((fun pc => bif Nat.ble pc 96 then ((fun pc => bif Nat.ble pc 94 then (bif Nat.beq pc 94 then some (.iconst 2, 1, 95, [], 2) else none)
  else (bif Nat.ble pc 95 then (bif Nat.beq pc 95 then some (.iadd, 1, 96, [], 0) else none)
  else (bif Nat.beq pc 96 then some (.invokevirtual 107, 3, 99, [], 0) else none))) : nk_F) pc
  else ((fun pc => bif Nat.ble pc 100 then (bif Nat.ble pc 99 then (bif Nat.beq pc 99 then some (.aload_n 0, 1, 100, [], 0) else none)
  else (bif Nat.beq pc 100 then some (.iload_n 1, 1, 101, [], 0) else none))
  else (bif Nat.ble pc 101 then (bif Nat.beq pc 101 then some (.iload 5, 2, 103, [], 0) else none)
  else (bif Nat.beq pc 103 then some (.iconst 3, 1, 104, [], 3) else none))) : nk_F) pc) : nk_F) pc
  else ((fun pc => bif Nat.ble pc 111 then ((fun pc => bif Nat.ble pc 105 then (bif Nat.ble pc 104 then (bif Nat.beq pc 104 then some (.iadd, 1, 105, [], 0) else none)
  else (bif Nat.beq pc 105 then some (.invokevirtual 107, 3, 108, [], 0) else none))
  else (bif Nat.ble pc 108 then (bif Nat.beq pc 108 then some (.invokestatic 126, 3, 111, [], 0) else none)
  else (bif Nat.beq pc 111 then some (.ifCond .eq 7, 3, 114, [118], 0) else none))) : nk_F) pc
  else ((fun pc => bif Nat.ble pc 115 then (bif Nat.ble pc 114 then (bif Nat.beq pc 114 then some (.iconst 1, 1, 115, [], 1) else none)
  else (bif Nat.beq pc 115 then some (.goto 4, 3, 118, [119], 0) else none))
  else (bif Nat.ble pc 118 then (bif Nat.beq pc 118 then some (.iconst 0, 1, 119, [], 0) else none)
  else (bif Nat.beq pc 119 then some (.istore 4, 2, 121, [], 0) else none))) : nk_F) pc) : nk_F) pc) : nk_F) pc
  else ((fun pc => bif Nat.ble pc 134 then ((fun pc => bif Nat.ble pc 127 then ((fun pc => bif Nat.ble pc 121 then (bif Nat.beq pc 121 then some (.iinc 5 4, 3, 124, [], 4) else none)
  else (bif Nat.ble pc 124 then (bif Nat.beq pc 124 then some (.goto (-66), 3, 127, [58], 0) else none)
  else (bif Nat.beq pc 127 then some (.iload 4, 2, 129, [], 0) else none))) : nk_F) pc
  else ((fun pc => bif Nat.ble pc 132 then (bif Nat.ble pc 129 then (bif Nat.beq pc 129 then some (.ifCond .ne 9, 3, 132, [138], 0) else none)
  else (bif Nat.beq pc 132 then some (.aload_n 0, 1, 133, [], 0) else none))
  else (bif Nat.ble pc 133 then (bif Nat.beq pc 133 then some (.iconst 3, 1, 134, [], 3) else none)
  else (bif Nat.beq pc 134 then some (.invokevirtual 97, 3, 137, [], 0) else none))) : nk_F) pc) : nk_F) pc
  else ((fun pc => bif Nat.ble pc 141 then ((fun pc => bif Nat.ble pc 138 then (bif Nat.ble pc 137 then (bif Nat.beq pc 137 then some (.ireturn, 1, 138, [], 0) else none)
  else (bif Nat.beq pc 138 then some (.iconst 0, 1, 139, [], 0) else none))
  else (bif Nat.ble pc 139 then (bif Nat.beq pc 139 then some (.istore 5, 2, 141, [], 0) else none)
  else (bif Nat.beq pc 141 then some (.iload 5, 2, 143, [], 0) else none))) : nk_F) pc
  else ((fun pc => bif Nat.ble pc 144 then (bif Nat.ble pc 143 then (bif Nat.beq pc 143 then some (.aload_n 0, 1, 144, [], 0) else none)
  else (bif Nat.beq pc 144 then some (.getfield 17, 3, 147, [], 0) else none))
  else (bif Nat.ble pc 147 then (bif Nat.beq pc 147 then some (.iload_n 1, 1, 148, [], 0) else none)
  else (bif Nat.beq pc 148 then some (.iaload, 1, 149, [], 0) else none))) : nk_F) pc) : nk_F) pc) : nk_F) pc) : nk_F) pc
  else ((fun pc => bif Nat.ble pc 171 then ((fun pc => bif Nat.ble pc 160 then ((fun pc => bif Nat.ble pc 153 then ((fun pc => bif Nat.ble pc 149 then (bif Nat.beq pc 149 then some (.if_icmp .ge 48, 3, 152, [197], 0) else none)
  else (bif Nat.ble pc 152 then (bif Nat.beq pc 152 then some (.aload_n 0, 1, 153, [], 0) else none)
  else (bif Nat.beq pc 153 then some (.aload_n 0, 1, 154, [], 0) else none))) : nk_F) pc
  else ((fun pc => bif Nat.ble pc 155 then (bif Nat.ble pc 154 then (bif Nat.beq pc 154 then some (.iload_n 1, 1, 155, [], 0) else none)
  else (bif Nat.beq pc 155 then some (.iload 5, 2, 157, [], 0) else none))
  else (bif Nat.ble pc 157 then (bif Nat.beq pc 157 then some (.invokevirtual 107, 3, 160, [], 0) else none)
  else (bif Nat.beq pc 160 then some (.aload_n 0, 1, 161, [], 0) else none))) : nk_F) pc) : nk_F) pc
  else ((fun pc => bif Nat.ble pc 165 then ((fun pc => bif Nat.ble pc 162 then (bif Nat.ble pc 161 then (bif Nat.beq pc 161 then some (.iload_n 1, 1, 162, [], 0) else none)
  else (bif Nat.beq pc 162 then some (.iload 5, 2, 164, [], 0) else none))
  else (bif Nat.ble pc 164 then (bif Nat.beq pc 164 then some (.iconst 1, 1, 165, [], 1) else none)
  else (bif Nat.beq pc 165 then some (.iadd, 1, 166, [], 0) else none))) : nk_F) pc
  else ((fun pc => bif Nat.ble pc 169 then (bif Nat.ble pc 166 then (bif Nat.beq pc 166 then some (.invokevirtual 107, 3, 169, [], 0) else none)
  else (bif Nat.beq pc 169 then some (.aload_n 0, 1, 170, [], 0) else none))
  else (bif Nat.ble pc 170 then (bif Nat.beq pc 170 then some (.iload_n 1, 1, 171, [], 0) else none)
  else (bif Nat.beq pc 171 then some (.iload 5, 2, 173, [], 0) else none))) : nk_F) pc) : nk_F) pc) : nk_F) pc
  else ((fun pc => bif Nat.ble pc 182 then ((fun pc => bif Nat.ble pc 175 then ((fun pc => bif Nat.ble pc 173 then (bif Nat.beq pc 173 then some (.iconst 2, 1, 174, [], 2) else none)
  else (bif Nat.ble pc 174 then (bif Nat.beq pc 174 then some (.iadd, 1, 175, [], 0) else none)
  else (bif Nat.beq pc 175 then some (.invokevirtual 107, 3, 178, [], 0) else none))) : nk_F) pc
  else ((fun pc => bif Nat.ble pc 179 then (bif Nat.ble pc 178 then (bif Nat.beq pc 178 then some (.aload_n 0, 1, 179, [], 0) else none)
  else (bif Nat.beq pc 179 then some (.iload_n 1, 1, 180, [], 0) else none))
  else (bif Nat.ble pc 180 then (bif Nat.beq pc 180 then some (.iload 5, 2, 182, [], 0) else none)
  else (bif Nat.beq pc 182 then some (.iconst 3, 1, 183, [], 3) else none))) : nk_F) pc) : nk_F) pc
  else ((fun pc => bif Nat.ble pc 190 then ((fun pc => bif Nat.ble pc 184 then (bif Nat.ble pc 183 then (bif Nat.beq pc 183 then some (.iadd, 1, 184, [], 0) else none)
  else (bif Nat.beq pc 184 then some (.invokevirtual 107, 3, 187, [], 0) else none))
  else (bif Nat.ble pc 187 then (bif Nat.beq pc 187 then some (.invokevirtual 130, 3, 190, [], 0) else none)
  else (bif Nat.beq pc 190 then some (.pop, 1, 191, [], 0) else none))) : nk_F) pc
  else ((fun pc => bif Nat.ble pc 194 then (bif Nat.ble pc 191 then (bif Nat.beq pc 191 then some (.iinc 5 4, 3, 194, [], 4) else none)
  else (bif Nat.beq pc 194 then some (.goto (-53), 3, 197, [141], 0) else none))
  else (bif Nat.ble pc 197 then (bif Nat.beq pc 197 then some (.iload_n 3, 1, 198, [], 0) else none)
  else (bif Nat.beq pc 198 then some (.ireturn, 1, 199, [], 0) else none))) : nk_F) pc) : nk_F) pc) : nk_F) pc) : nk_F) pc) : nk_F) pc
noncomputable def kc_X6_stuffs : Nat → Option nk_I := nk_top 199 kt_X6_stuffs
noncomputable def kx_X6_stuffs : nk_T := ([(17, 6, 5, 4), (120, 6, 10, 0)], [(416, 2, 7, 0, 0, ev_X6_askedRow), (388, 2, 7, 0, 0, ev_X6_meets), (428, 3, 7, 0, 0, ev_X6_rowAt), (506, 4, 0, 0, 0, ev_X6_areStuff), (520, 5, 7, 0, 0, ev_X6_newStuff)], [], [], [], [], [], 1, false, 0, 0)
noncomputable def ev_X6_stuffs : nk_Ev := fun as h Q => nk_if (Nat.ble (nk_wd as) 6) (nk_ev kx_X6_stuffs kc_X6_stuffs 6 as h Q)
set_option maxRecDepth 100000 in
theorem ck_X6_stuffs : nk_chk cX6_stuffs kc_X6_stuffs 199 = true := nd_chk (by decide +kernel) (by decide +kernel)
set_option maxRecDepth 100000 in
set_option maxHeartbeats 4000000 in
theorem ca_X6_stuffs_416 (l : Launch) : nk_CallOk l { frames := 3, cells := 0, slots := 0, locals := 65 } RX6 cX6_stuffs 6 false 416 (2, 7, 0, 0, ev_X6_askedRow) := nk_callV (x := 104) (n := 1) (ci := 6) (r := (RX6, TX6, 32)) (mt_X6_askedRow l) rfl (nk_msc [(4, 68), (4, 69), (4, 70), (4, 71), (0, 27), (1, 7)] (by decide +kernel)) rfl rfl (by decide +kernel) ⟨by decide, by decide⟩
set_option maxRecDepth 100000 in
set_option maxHeartbeats 4000000 in
theorem ca_X6_stuffs_388 (l : Launch) : nk_CallOk l { frames := 3, cells := 0, slots := 0, locals := 65 } RX6 cX6_stuffs 6 false 388 (2, 7, 0, 0, ev_X6_meets) := nk_callV (x := 97) (n := 1) (ci := 6) (r := (RX6, TX6, 32)) (mt_X6_meets l) rfl (nk_msc [(4, 60), (4, 61), (4, 62), (4, 63), (0, 26), (1, 7)] (by decide +kernel)) rfl rfl (by decide +kernel) ⟨by decide, by decide⟩
set_option maxRecDepth 100000 in
set_option maxHeartbeats 4000000 in
theorem ca_X6_stuffs_428 (l : Launch) : nk_CallOk l { frames := 3, cells := 0, slots := 0, locals := 65 } RX6 cX6_stuffs 6 false 428 (3, 7, 0, 0, ev_X6_rowAt) := nk_callV (x := 107) (n := 2) (ci := 6) (r := (RX6, TX6, 32)) (mt_X6_rowAt l) rfl (nk_msc [(4, 72), (4, 73), (4, 74), (4, 75), (0, 28), (1, 7)] (by decide +kernel)) rfl rfl (by decide +kernel) ⟨by decide, by decide⟩
set_option maxRecDepth 100000 in
set_option maxHeartbeats 4000000 in
theorem ca_X6_stuffs_506 (l : Launch) : nk_CallOk l { frames := 3, cells := 0, slots := 0, locals := 65 } RX6 cX6_stuffs 6 false 506 (4, 0, 0, 0, ev_X6_areStuff) := nk_callS (x := 126) (n := 4) (mt_X6_areStuff l) (nk_msc [(4, 116), (4, 117), (4, 118), (1, 7)] (by decide +kernel)) rfl rfl (by decide +kernel) ⟨by decide, by decide⟩
set_option maxRecDepth 100000 in
set_option maxHeartbeats 4000000 in
theorem ca_X6_stuffs_520 (l : Launch) : nk_CallOk l { frames := 3, cells := 0, slots := 0, locals := 65 } RX6 cX6_stuffs 6 false 520 (5, 7, 0, 0, ev_X6_newStuff) := nk_callV (x := 130) (n := 4) (ci := 6) (r := (RX6, TX6, 32)) (mt_X6_newStuff l) rfl (nk_msc [(4, 122), (4, 123), (4, 124), (4, 125), (0, 31), (1, 7)] (by decide +kernel)) rfl rfl (by decide +kernel) ⟨by decide, by decide⟩
set_option maxRecDepth 100000 in
set_option maxHeartbeats 4000000 in
theorem mt_X6_stuffs (l : Launch) : nk_Met l yX6_stuffs cX6_stuffs 6 (some .int) { frames := 3, cells := 0, slots := 0, locals := 65 } false 0 0 ev_X6_stuffs :=
  nk_met nk_gok (plainFor_of_name (by decide)) ck_X6_stuffs (nk_top_out 199 kt_X6_stuffs) ⟨List.forall_mem_cons.mpr ⟨nk_fkc [(3, 198)] (by decide +kernel), List.forall_mem_cons.mpr ⟨nk_fkc [(3, 203)] (by decide +kernel), fun _ h => absurd h List.not_mem_nil⟩⟩, List.forall_mem_cons.mpr ⟨ca_X6_stuffs_416 l, List.forall_mem_cons.mpr ⟨ca_X6_stuffs_388 l, List.forall_mem_cons.mpr ⟨ca_X6_stuffs_428 l, List.forall_mem_cons.mpr ⟨ca_X6_stuffs_506 l, List.forall_mem_cons.mpr ⟨ca_X6_stuffs_520 l, fun _ h => absurd h List.not_mem_nil⟩⟩⟩⟩⟩, fun _ h => absurd h List.not_mem_nil, fun _ h => absurd h List.not_mem_nil, fun _ h => absurd h List.not_mem_nil, fun _ h => absurd h List.not_mem_nil, fun _ h => absurd h List.not_mem_nil, by decide, rfl, rfl⟩ rfl (by decide)
/-! MarbleLawModel.debt(II)I -/
noncomputable def kt_X6_debt : Nat → Option nk_I := fun pc => bif Nat.ble pc 26 then ((fun pc => bif Nat.ble pc 10 then ((fun pc => bif Nat.ble pc 2 then ((fun pc => bif Nat.ble pc 0 then (bif Nat.beq pc 0 then some (.aload_n 0, 1, 1, [], 0) else none)
  else (bif Nat.ble pc 1 then (bif Nat.beq pc 1 then some (.iload_n 1, 1, 2, [], 0) else none)
  else (bif Nat.beq pc 2 then some (.invokevirtual 134, 3, 5, [], 0) else none))) : nk_F) pc
  else ((fun pc => bif Nat.ble pc 8 then (bif Nat.ble pc 5 then (bif Nat.beq pc 5 then some (.ifCond .eq 14, 3, 8, [19], 0) else none)
  else (bif Nat.beq pc 8 then some (.iload_n 2, 1, 9, [], 0) else none))
  else (bif Nat.ble pc 9 then (bif Nat.beq pc 9 then some (.iconst 0, 1, 10, [], 0) else none)
  else (bif Nat.beq pc 10 then some (.sipush 999, 3, 13, [], 999) else none))) : nk_F) pc) : nk_F) pc
  else ((fun pc => bif Nat.ble pc 20 then ((fun pc => bif Nat.ble pc 16 then (bif Nat.ble pc 13 then (bif Nat.beq pc 13 then some (.invokestatic 89, 3, 16, [], 0) else none)
  else (bif Nat.beq pc 16 then some (.ifCond .ne 5, 3, 19, [21], 0) else none))
  else (bif Nat.ble pc 19 then (bif Nat.beq pc 19 then some (.iconst (-1), 1, 20, [], (-1)) else none)
  else (bif Nat.beq pc 20 then some (.ireturn, 1, 21, [], 0) else none))) : nk_F) pc
  else ((fun pc => bif Nat.ble pc 22 then (bif Nat.ble pc 21 then (bif Nat.beq pc 21 then some (.aload_n 0, 1, 22, [], 0) else none)
  else (bif Nat.beq pc 22 then some (.getfield 32, 3, 25, [], 0) else none))
  else (bif Nat.ble pc 25 then (bif Nat.beq pc 25 then some (.iconst 5, 1, 26, [], 5) else none)
  else (bif Nat.beq pc 26 then some (.iload_n 1, 1, 27, [], 0) else none))) : nk_F) pc) : nk_F) pc) : nk_F) pc
  else ((fun pc => bif Nat.ble pc 36 then ((fun pc => bif Nat.ble pc 30 then ((fun pc => bif Nat.ble pc 28 then (bif Nat.ble pc 27 then (bif Nat.beq pc 27 then some (.imul, 1, 28, [], 0) else none)
  else (bif Nat.beq pc 28 then some (.iconst 4, 1, 29, [], 4) else none))
  else (bif Nat.ble pc 29 then (bif Nat.beq pc 29 then some (.iadd, 1, 30, [], 0) else none)
  else (bif Nat.beq pc 30 then some (.iaload, 1, 31, [], 0) else none))) : nk_F) pc
  else ((fun pc => bif Nat.ble pc 32 then (bif Nat.ble pc 31 then (bif Nat.beq pc 31 then some (.istore_n 3, 1, 32, [], 0) else none)
  else (bif Nat.beq pc 32 then some (.aload_n 0, 1, 33, [], 0) else none))
  else (bif Nat.ble pc 33 then (bif Nat.beq pc 33 then some (.getfield 32, 3, 36, [], 0) else none)
  else (bif Nat.beq pc 36 then some (.iconst 5, 1, 37, [], 5) else none))) : nk_F) pc) : nk_F) pc
  else ((fun pc => bif Nat.ble pc 40 then ((fun pc => bif Nat.ble pc 38 then (bif Nat.ble pc 37 then (bif Nat.beq pc 37 then some (.iload_n 1, 1, 38, [], 0) else none)
  else (bif Nat.beq pc 38 then some (.imul, 1, 39, [], 0) else none))
  else (bif Nat.ble pc 39 then (bif Nat.beq pc 39 then some (.iconst 4, 1, 40, [], 4) else none)
  else (bif Nat.beq pc 40 then some (.iadd, 1, 41, [], 0) else none))) : nk_F) pc
  else ((fun pc => bif Nat.ble pc 42 then (bif Nat.ble pc 41 then (bif Nat.beq pc 41 then some (.iload_n 2, 1, 42, [], 0) else none)
  else (bif Nat.beq pc 42 then some (.iastore, 1, 43, [], 0) else none))
  else (bif Nat.ble pc 43 then (bif Nat.beq pc 43 then some (.iload_n 3, 1, 44, [], 0) else none)
  else (bif Nat.beq pc 44 then some (.ireturn, 1, 45, [], 0) else none))) : nk_F) pc) : nk_F) pc) : nk_F) pc
noncomputable def kc_X6_debt : Nat → Option nk_I := nk_top 45 kt_X6_debt
noncomputable def kx_X6_debt : nk_T := ([(32, 6, 11, 4)], [(536, 2, 7, 0, 0, ev_X6_isStuff), (358, 3, 0, 0, 0, ev_X6_in)], [], [], [], [], [], 1, false, 0, 0)
noncomputable def ev_X6_debt : nk_Ev := fun as h Q => nk_if (Nat.ble (nk_wd as) 4) (nk_ev kx_X6_debt kc_X6_debt 4 as h Q)
set_option maxRecDepth 100000 in
theorem ck_X6_debt : nk_chk cX6_debt kc_X6_debt 45 = true := nd_chk (by decide +kernel) (by decide +kernel)
set_option maxRecDepth 100000 in
set_option maxHeartbeats 4000000 in
theorem ca_X6_debt_536 (l : Launch) : nk_CallOk l { frames := 2, cells := 0, slots := 0, locals := 43 } RX6 cX6_debt 4 false 536 (2, 7, 0, 0, ev_X6_isStuff) := nk_callV (x := 134) (n := 1) (ci := 6) (r := (RX6, TX6, 32)) (mt_X6_isStuff l) rfl (nk_msc [(4, 134), (4, 135), (4, 136), (4, 137), (0, 32), (1, 7)] (by decide +kernel)) rfl rfl (by decide +kernel) ⟨by decide, by decide⟩
set_option maxRecDepth 100000 in
set_option maxHeartbeats 4000000 in
theorem ca_X6_debt_358 (l : Launch) : nk_CallOk l { frames := 2, cells := 0, slots := 0, locals := 43 } RX6 cX6_debt 4 false 358 (3, 0, 0, 0, ev_X6_in) := nk_callS (x := 89) (n := 3) (mt_X6_in l) (nk_msc [(4, 57), (4, 58), (4, 59), (1, 7)] (by decide +kernel)) rfl rfl (by decide +kernel) ⟨by decide, by decide⟩
set_option maxRecDepth 100000 in
set_option maxHeartbeats 4000000 in
theorem mt_X6_debt (l : Launch) : nk_Met l yX6_debt cX6_debt 4 (some .int) { frames := 2, cells := 0, slots := 0, locals := 43 } false 0 0 ev_X6_debt :=
  nk_met nk_gok (plainFor_of_name (by decide)) ck_X6_debt (nk_top_out 45 kt_X6_debt) ⟨List.forall_mem_cons.mpr ⟨nk_fkc [(3, 188), (3, 204)] (by decide +kernel), fun _ h => absurd h List.not_mem_nil⟩, List.forall_mem_cons.mpr ⟨ca_X6_debt_536 l, List.forall_mem_cons.mpr ⟨ca_X6_debt_358 l, fun _ h => absurd h List.not_mem_nil⟩⟩, fun _ h => absurd h List.not_mem_nil, fun _ h => absurd h List.not_mem_nil, fun _ h => absurd h List.not_mem_nil, fun _ h => absurd h List.not_mem_nil, fun _ h => absurd h List.not_mem_nil, by decide, rfl, rfl⟩ rfl (by decide)
/-! MarbleLawModel.brings(I)Z -/
noncomputable def kt_X6_brings : Nat → Option nk_I := fun pc => bif Nat.ble pc 7 then ((fun pc => bif Nat.ble pc 2 then ((fun pc => bif Nat.ble pc 0 then (bif Nat.beq pc 0 then some (.iload_n 0, 1, 1, [], 0) else none)
  else (bif Nat.ble pc 1 then (bif Nat.beq pc 1 then some (.iconst 2, 1, 2, [], 2) else none)
  else (bif Nat.beq pc 2 then some (.if_icmp .eq 13, 3, 5, [15], 0) else none))) : nk_F) pc
  else ((fun pc => bif Nat.ble pc 5 then (bif Nat.beq pc 5 then some (.iload_n 0, 1, 6, [], 0) else none)
  else (bif Nat.ble pc 6 then (bif Nat.beq pc 6 then some (.iconst 3, 1, 7, [], 3) else none)
  else (bif Nat.beq pc 7 then some (.if_icmp .eq 8, 3, 10, [15], 0) else none))) : nk_F) pc) : nk_F) pc
  else ((fun pc => bif Nat.ble pc 12 then ((fun pc => bif Nat.ble pc 10 then (bif Nat.beq pc 10 then some (.iload_n 0, 1, 11, [], 0) else none)
  else (bif Nat.ble pc 11 then (bif Nat.beq pc 11 then some (.iconst 5, 1, 12, [], 5) else none)
  else (bif Nat.beq pc 12 then some (.if_icmp .ne 7, 3, 15, [19], 0) else none))) : nk_F) pc
  else ((fun pc => bif Nat.ble pc 16 then (bif Nat.ble pc 15 then (bif Nat.beq pc 15 then some (.iconst 1, 1, 16, [], 1) else none)
  else (bif Nat.beq pc 16 then some (.goto 4, 3, 19, [20], 0) else none))
  else (bif Nat.ble pc 19 then (bif Nat.beq pc 19 then some (.iconst 0, 1, 20, [], 0) else none)
  else (bif Nat.beq pc 20 then some (.ireturn, 1, 21, [], 0) else none))) : nk_F) pc) : nk_F) pc
noncomputable def kc_X6_brings : Nat → Option nk_I := nk_top 21 kt_X6_brings
noncomputable def kx_X6_brings : nk_T := ([], [], [], [], [], [], [], 2, false, 0, 0)
noncomputable def ev_X6_brings : nk_Ev := fun as h Q => nk_if (Nat.ble (nk_wd as) 1) (nk_ev kx_X6_brings kc_X6_brings 1 as h Q)
set_option maxRecDepth 100000 in
theorem ck_X6_brings : nk_chk cX6_brings kc_X6_brings 21 = true := nd_chk (by decide +kernel) (by decide +kernel)
set_option maxRecDepth 100000 in
set_option maxHeartbeats 4000000 in
theorem mt_X6_brings (l : Launch) : nk_Met l yX6_brings cX6_brings 1 (some .boolean) { frames := 0, cells := 0, slots := 0, locals := 0 } false 0 0 ev_X6_brings :=
  nk_met nk_gok (plainFor_of_name (by decide)) ck_X6_brings (nk_top_out 21 kt_X6_brings) ⟨fun _ h => absurd h List.not_mem_nil, fun _ h => absurd h List.not_mem_nil, fun _ h => absurd h List.not_mem_nil, fun _ h => absurd h List.not_mem_nil, fun _ h => absurd h List.not_mem_nil, fun _ h => absurd h List.not_mem_nil, fun _ h => absurd h List.not_mem_nil, by decide, rfl, rfl⟩ rfl (by decide)
/-! MarbleLawModel.isV(III)Z -/
noncomputable def kt_X6_isV : Nat → Option nk_I := fun pc => bif Nat.ble pc 25 then ((fun pc => bif Nat.ble pc 9 then ((fun pc => bif Nat.ble pc 2 then ((fun pc => bif Nat.ble pc 0 then (bif Nat.beq pc 0 then some (.iload_n 1, 1, 1, [], 0) else none)
  else (bif Nat.ble pc 1 then (bif Nat.beq pc 1 then some (.iconst 1, 1, 2, [], 1) else none)
  else (bif Nat.beq pc 2 then some (.if_icmp .ne 13, 3, 5, [15], 0) else none))) : nk_F) pc
  else ((fun pc => bif Nat.ble pc 6 then (bif Nat.ble pc 5 then (bif Nat.beq pc 5 then some (.iload_n 3, 1, 6, [], 0) else none)
  else (bif Nat.beq pc 6 then some (.iconst 0, 1, 7, [], 0) else none))
  else (bif Nat.ble pc 7 then (bif Nat.beq pc 7 then some (.bipush 9, 2, 9, [], 9) else none)
  else (bif Nat.beq pc 9 then some (.invokestatic 89, 3, 12, [], 0) else none))) : nk_F) pc) : nk_F) pc
  else ((fun pc => bif Nat.ble pc 18 then ((fun pc => bif Nat.ble pc 15 then (bif Nat.ble pc 12 then (bif Nat.beq pc 12 then some (.goto 44, 3, 15, [56], 0) else none)
  else (bif Nat.beq pc 15 then some (.iload_n 1, 1, 16, [], 0) else none))
  else (bif Nat.ble pc 16 then (bif Nat.beq pc 16 then some (.bipush 6, 2, 18, [], 6) else none)
  else (bif Nat.beq pc 18 then some (.if_icmp .ne 13, 3, 21, [31], 0) else none))) : nk_F) pc
  else ((fun pc => bif Nat.ble pc 22 then (bif Nat.ble pc 21 then (bif Nat.beq pc 21 then some (.iload_n 3, 1, 22, [], 0) else none)
  else (bif Nat.beq pc 22 then some (.iconst 1, 1, 23, [], 1) else none))
  else (bif Nat.ble pc 23 then (bif Nat.beq pc 23 then some (.bipush 99, 2, 25, [], 99) else none)
  else (bif Nat.beq pc 25 then some (.invokestatic 89, 3, 28, [], 0) else none))) : nk_F) pc) : nk_F) pc) : nk_F) pc
  else ((fun pc => bif Nat.ble pc 40 then ((fun pc => bif Nat.ble pc 32 then ((fun pc => bif Nat.ble pc 28 then (bif Nat.beq pc 28 then some (.goto 28, 3, 31, [56], 0) else none)
  else (bif Nat.ble pc 31 then (bif Nat.beq pc 31 then some (.iload_n 1, 1, 32, [], 0) else none)
  else (bif Nat.beq pc 32 then some (.invokestatic 137, 3, 35, [], 0) else none))) : nk_F) pc
  else ((fun pc => bif Nat.ble pc 38 then (bif Nat.ble pc 35 then (bif Nat.beq pc 35 then some (.ifCond .eq 16, 3, 38, [51], 0) else none)
  else (bif Nat.beq pc 38 then some (.aload_n 0, 1, 39, [], 0) else none))
  else (bif Nat.ble pc 39 then (bif Nat.beq pc 39 then some (.iload_n 3, 1, 40, [], 0) else none)
  else (bif Nat.beq pc 40 then some (.invokevirtual 134, 3, 43, [], 0) else none))) : nk_F) pc) : nk_F) pc
  else ((fun pc => bif Nat.ble pc 48 then ((fun pc => bif Nat.ble pc 46 then (bif Nat.ble pc 43 then (bif Nat.beq pc 43 then some (.ifCond .eq 12, 3, 46, [55], 0) else none)
  else (bif Nat.beq pc 46 then some (.iload_n 3, 1, 47, [], 0) else none))
  else (bif Nat.ble pc 47 then (bif Nat.beq pc 47 then some (.iload_n 2, 1, 48, [], 0) else none)
  else (bif Nat.beq pc 48 then some (.if_icmp .eq 7, 3, 51, [55], 0) else none))) : nk_F) pc
  else ((fun pc => bif Nat.ble pc 52 then (bif Nat.ble pc 51 then (bif Nat.beq pc 51 then some (.iconst 1, 1, 52, [], 1) else none)
  else (bif Nat.beq pc 52 then some (.goto 4, 3, 55, [56], 0) else none))
  else (bif Nat.ble pc 55 then (bif Nat.beq pc 55 then some (.iconst 0, 1, 56, [], 0) else none)
  else (bif Nat.beq pc 56 then some (.ireturn, 1, 57, [], 0) else none))) : nk_F) pc) : nk_F) pc) : nk_F) pc
noncomputable def kc_X6_isV : Nat → Option nk_I := nk_top 57 kt_X6_isV
noncomputable def kx_X6_isV : nk_T := ([], [(358, 3, 0, 0, 0, ev_X6_in), (550, 1, 0, 0, 0, ev_X6_brings), (536, 2, 7, 0, 0, ev_X6_isStuff)], [], [], [], [], [], 2, false, 0, 0)
noncomputable def ev_X6_isV : nk_Ev := fun as h Q => nk_if (Nat.ble (nk_wd as) 4) (nk_ev kx_X6_isV kc_X6_isV 4 as h Q)
set_option maxRecDepth 100000 in
theorem ck_X6_isV : nk_chk cX6_isV kc_X6_isV 57 = true := nd_chk (by decide +kernel) (by decide +kernel)
set_option maxRecDepth 100000 in
set_option maxHeartbeats 4000000 in
theorem ca_X6_isV_358 (l : Launch) : nk_CallOk l { frames := 2, cells := 0, slots := 0, locals := 43 } RX6 cX6_isV 4 false 358 (3, 0, 0, 0, ev_X6_in) := nk_callS (x := 89) (n := 3) (mt_X6_in l) (nk_msc [(4, 57), (4, 58), (4, 59), (1, 7)] (by decide +kernel)) rfl rfl (by decide +kernel) ⟨by decide, by decide⟩
set_option maxRecDepth 100000 in
set_option maxHeartbeats 4000000 in
theorem ca_X6_isV_550 (l : Launch) : nk_CallOk l { frames := 2, cells := 0, slots := 0, locals := 43 } RX6 cX6_isV 4 false 550 (1, 0, 0, 0, ev_X6_brings) := nk_callS (x := 137) (n := 1) (mt_X6_brings l) (nk_msc [(4, 146), (4, 147), (4, 148), (1, 7)] (by decide +kernel)) rfl rfl (by decide +kernel) ⟨by decide, by decide⟩
set_option maxRecDepth 100000 in
set_option maxHeartbeats 4000000 in
theorem ca_X6_isV_536 (l : Launch) : nk_CallOk l { frames := 2, cells := 0, slots := 0, locals := 43 } RX6 cX6_isV 4 false 536 (2, 7, 0, 0, ev_X6_isStuff) := nk_callV (x := 134) (n := 1) (ci := 6) (r := (RX6, TX6, 32)) (mt_X6_isStuff l) rfl (nk_msc [(4, 134), (4, 135), (4, 136), (4, 137), (0, 32), (1, 7)] (by decide +kernel)) rfl rfl (by decide +kernel) ⟨by decide, by decide⟩
set_option maxRecDepth 100000 in
set_option maxHeartbeats 4000000 in
theorem mt_X6_isV (l : Launch) : nk_Met l yX6_isV cX6_isV 4 (some .boolean) { frames := 2, cells := 0, slots := 0, locals := 43 } false 0 0 ev_X6_isV :=
  nk_met nk_gok (plainFor_of_name (by decide)) ck_X6_isV (nk_top_out 57 kt_X6_isV) ⟨fun _ h => absurd h List.not_mem_nil, List.forall_mem_cons.mpr ⟨ca_X6_isV_358 l, List.forall_mem_cons.mpr ⟨ca_X6_isV_550 l, List.forall_mem_cons.mpr ⟨ca_X6_isV_536 l, fun _ h => absurd h List.not_mem_nil⟩⟩⟩, fun _ h => absurd h List.not_mem_nil, fun _ h => absurd h List.not_mem_nil, fun _ h => absurd h List.not_mem_nil, fun _ h => absurd h List.not_mem_nil, fun _ h => absurd h List.not_mem_nil, by decide, rfl, rfl⟩ rfl (by decide)
/-! MarbleLawModel.isWork(I)Z -/
noncomputable def kt_X6_isWork : Nat → Option nk_I := fun pc => bif Nat.ble pc 1 then (bif Nat.ble pc 0 then (bif Nat.beq pc 0 then some (.iload_n 0, 1, 1, [], 0) else none)
  else (bif Nat.beq pc 1 then some (.iconst 0, 1, 2, [], 0) else none))
  else ((fun pc => bif Nat.ble pc 2 then (bif Nat.beq pc 2 then some (.bipush 99, 2, 4, [], 99) else none)
  else (bif Nat.ble pc 4 then (bif Nat.beq pc 4 then some (.invokestatic 89, 3, 7, [], 0) else none)
  else (bif Nat.beq pc 7 then some (.ireturn, 1, 8, [], 0) else none))) : nk_F) pc
noncomputable def kc_X6_isWork : Nat → Option nk_I := nk_top 8 kt_X6_isWork
noncomputable def kx_X6_isWork : nk_T := ([], [(358, 3, 0, 0, 0, ev_X6_in)], [], [], [], [], [], 2, false, 0, 0)
noncomputable def ev_X6_isWork : nk_Ev := fun as h Q => nk_if (Nat.ble (nk_wd as) 1) (nk_ev kx_X6_isWork kc_X6_isWork 1 as h Q)
set_option maxRecDepth 100000 in
theorem ck_X6_isWork : nk_chk cX6_isWork kc_X6_isWork 8 = true := nd_chk (by decide +kernel) (by decide +kernel)
set_option maxRecDepth 100000 in
set_option maxHeartbeats 4000000 in
theorem ca_X6_isWork_358 (l : Launch) : nk_CallOk l { frames := 1, cells := 0, slots := 0, locals := 22 } RX6 cX6_isWork 1 false 358 (3, 0, 0, 0, ev_X6_in) := nk_callS (x := 89) (n := 3) (mt_X6_in l) (nk_msc [(4, 57), (4, 58), (4, 59), (1, 7)] (by decide +kernel)) rfl rfl (by decide +kernel) ⟨by decide, by decide⟩
set_option maxRecDepth 100000 in
set_option maxHeartbeats 4000000 in
theorem mt_X6_isWork (l : Launch) : nk_Met l yX6_isWork cX6_isWork 1 (some .boolean) { frames := 1, cells := 0, slots := 0, locals := 22 } false 0 0 ev_X6_isWork :=
  nk_met nk_gok (plainFor_of_name (by decide)) ck_X6_isWork (nk_top_out 8 kt_X6_isWork) ⟨fun _ h => absurd h List.not_mem_nil, List.forall_mem_cons.mpr ⟨ca_X6_isWork_358 l, fun _ h => absurd h List.not_mem_nil⟩, fun _ h => absurd h List.not_mem_nil, fun _ h => absurd h List.not_mem_nil, fun _ h => absurd h List.not_mem_nil, fun _ h => absurd h List.not_mem_nil, fun _ h => absurd h List.not_mem_nil, by decide, rfl, rfl⟩ rfl (by decide)
/-! MarbleLawModel.making(IIIIIIZ)I -/
noncomputable def kt_X6_making : Nat → Option nk_I := fun pc => bif Nat.ble pc 122 then ((fun pc => bif Nat.ble pc 67 then ((fun pc => bif Nat.ble pc 30 then ((fun pc => bif Nat.ble pc 12 then ((fun pc => bif Nat.ble pc 4 then ((fun pc => bif Nat.ble pc 1 then (bif Nat.ble pc 0 then (bif Nat.beq pc 0 then some (.iload_n 1, 1, 1, [], 0) else none)
  else (bif Nat.beq pc 1 then some (.iconst 0, 1, 2, [], 0) else none))
  else (bif Nat.ble pc 2 then (bif Nat.beq pc 2 then some (.bipush 6, 2, 4, [], 6) else none)
  else (bif Nat.beq pc 4 then some (.invokestatic 89, 3, 7, [], 0) else none))) : nk_F) pc
  else ((fun pc => bif Nat.ble pc 10 then (bif Nat.ble pc 7 then (bif Nat.beq pc 7 then some (.ifCond .eq 47, 3, 10, [54], 0) else none)
  else (bif Nat.beq pc 10 then some (.aload_n 0, 1, 11, [], 0) else none))
  else (bif Nat.ble pc 11 then (bif Nat.beq pc 11 then some (.iload_n 2, 1, 12, [], 0) else none)
  else (bif Nat.beq pc 12 then some (.invokevirtual 134, 3, 15, [], 0) else none))) : nk_F) pc) : nk_F) pc
  else ((fun pc => bif Nat.ble pc 20 then ((fun pc => bif Nat.ble pc 18 then (bif Nat.ble pc 15 then (bif Nat.beq pc 15 then some (.ifCond .eq 39, 3, 18, [54], 0) else none)
  else (bif Nat.beq pc 18 then some (.aload_n 0, 1, 19, [], 0) else none))
  else (bif Nat.ble pc 19 then (bif Nat.beq pc 19 then some (.iload_n 1, 1, 20, [], 0) else none)
  else (bif Nat.beq pc 20 then some (.iload_n 2, 1, 21, [], 0) else none))) : nk_F) pc
  else ((fun pc => bif Nat.ble pc 22 then (bif Nat.ble pc 21 then (bif Nat.beq pc 21 then some (.iload_n 3, 1, 22, [], 0) else none)
  else (bif Nat.beq pc 22 then some (.invokevirtual 140, 3, 25, [], 0) else none))
  else ((fun pc => bif Nat.ble pc 25 then (bif Nat.beq pc 25 then some (.ifCond .eq 29, 3, 28, [54], 0) else none)
  else (bif Nat.ble pc 28 then (bif Nat.beq pc 28 then some (.iload 4, 2, 30, [], 0) else none)
  else (bif Nat.beq pc 30 then some (.invokestatic 123, 3, 33, [], 0) else none))) : nk_F) pc) : nk_F) pc) : nk_F) pc) : nk_F) pc
  else ((fun pc => bif Nat.ble pc 48 then ((fun pc => bif Nat.ble pc 41 then ((fun pc => bif Nat.ble pc 36 then (bif Nat.ble pc 33 then (bif Nat.beq pc 33 then some (.ifCond .eq 21, 3, 36, [54], 0) else none)
  else (bif Nat.beq pc 36 then some (.iload 5, 2, 38, [], 0) else none))
  else (bif Nat.ble pc 38 then (bif Nat.beq pc 38 then some (.invokestatic 143, 3, 41, [], 0) else none)
  else (bif Nat.beq pc 41 then some (.ifCond .eq 13, 3, 44, [54], 0) else none))) : nk_F) pc
  else ((fun pc => bif Nat.ble pc 46 then (bif Nat.ble pc 44 then (bif Nat.beq pc 44 then some (.iload 6, 2, 46, [], 0) else none)
  else (bif Nat.beq pc 46 then some (.iconst 0, 1, 47, [], 0) else none))
  else (bif Nat.ble pc 47 then (bif Nat.beq pc 47 then some (.iconst 5, 1, 48, [], 5) else none)
  else (bif Nat.beq pc 48 then some (.invokestatic 89, 3, 51, [], 0) else none))) : nk_F) pc) : nk_F) pc
  else ((fun pc => bif Nat.ble pc 56 then ((fun pc => bif Nat.ble pc 54 then (bif Nat.ble pc 51 then (bif Nat.beq pc 51 then some (.ifCond .ne 5, 3, 54, [56], 0) else none)
  else (bif Nat.beq pc 54 then some (.iconst (-1), 1, 55, [], (-1)) else none))
  else (bif Nat.ble pc 55 then (bif Nat.beq pc 55 then some (.ireturn, 1, 56, [], 0) else none)
  else (bif Nat.beq pc 56 then some (.aload_n 0, 1, 57, [], 0) else none))) : nk_F) pc
  else ((fun pc => bif Nat.ble pc 60 then (bif Nat.ble pc 57 then (bif Nat.beq pc 57 then some (.getfield 146, 3, 60, [], 0) else none)
  else (bif Nat.beq pc 60 then some (.bipush 12, 2, 62, [], 12) else none))
  else ((fun pc => bif Nat.ble pc 62 then (bif Nat.beq pc 62 then some (.if_icmp .ne 6, 3, 65, [68], 0) else none)
  else (bif Nat.ble pc 65 then (bif Nat.beq pc 65 then some (.bipush (-2), 2, 67, [], (-2)) else none)
  else (bif Nat.beq pc 67 then some (.ireturn, 1, 68, [], 0) else none))) : nk_F) pc) : nk_F) pc) : nk_F) pc) : nk_F) pc) : nk_F) pc
  else ((fun pc => bif Nat.ble pc 92 then ((fun pc => bif Nat.ble pc 79 then ((fun pc => bif Nat.ble pc 73 then ((fun pc => bif Nat.ble pc 69 then (bif Nat.ble pc 68 then (bif Nat.beq pc 68 then some (.iload_n 1, 1, 69, [], 0) else none)
  else (bif Nat.beq pc 69 then some (.iconst 3, 1, 70, [], 3) else none))
  else (bif Nat.ble pc 70 then (bif Nat.beq pc 70 then some (.if_icmp .ne 28, 3, 73, [98], 0) else none)
  else (bif Nat.beq pc 73 then some (.aload_n 0, 1, 74, [], 0) else none))) : nk_F) pc
  else ((fun pc => bif Nat.ble pc 77 then (bif Nat.ble pc 74 then (bif Nat.beq pc 74 then some (.getfield 32, 3, 77, [], 0) else none)
  else (bif Nat.beq pc 77 then some (.iconst 5, 1, 78, [], 5) else none))
  else (bif Nat.ble pc 78 then (bif Nat.beq pc 78 then some (.iload_n 2, 1, 79, [], 0) else none)
  else (bif Nat.beq pc 79 then some (.imul, 1, 80, [], 0) else none))) : nk_F) pc) : nk_F) pc
  else ((fun pc => bif Nat.ble pc 85 then ((fun pc => bif Nat.ble pc 81 then (bif Nat.ble pc 80 then (bif Nat.beq pc 80 then some (.iaload, 1, 81, [], 0) else none)
  else (bif Nat.beq pc 81 then some (.aload_n 0, 1, 82, [], 0) else none))
  else (bif Nat.ble pc 82 then (bif Nat.beq pc 82 then some (.getfield 32, 3, 85, [], 0) else none)
  else (bif Nat.beq pc 85 then some (.iconst 5, 1, 86, [], 5) else none))) : nk_F) pc
  else ((fun pc => bif Nat.ble pc 87 then (bif Nat.ble pc 86 then (bif Nat.beq pc 86 then some (.iload_n 3, 1, 87, [], 0) else none)
  else (bif Nat.beq pc 87 then some (.imul, 1, 88, [], 0) else none))
  else ((fun pc => bif Nat.ble pc 88 then (bif Nat.beq pc 88 then some (.iaload, 1, 89, [], 0) else none)
  else (bif Nat.ble pc 89 then (bif Nat.beq pc 89 then some (.if_icmp .eq 9, 3, 92, [98], 0) else none)
  else (bif Nat.beq pc 92 then some (.aload_n 0, 1, 93, [], 0) else none))) : nk_F) pc) : nk_F) pc) : nk_F) pc) : nk_F) pc
  else ((fun pc => bif Nat.ble pc 107 then ((fun pc => bif Nat.ble pc 98 then ((fun pc => bif Nat.ble pc 94 then (bif Nat.ble pc 93 then (bif Nat.beq pc 93 then some (.iconst 3, 1, 94, [], 3) else none)
  else (bif Nat.beq pc 94 then some (.invokevirtual 97, 3, 97, [], 0) else none))
  else (bif Nat.ble pc 97 then (bif Nat.beq pc 97 then some (.ireturn, 1, 98, [], 0) else none)
  else (bif Nat.beq pc 98 then some (.bipush 7, 2, 100, [], 7) else none))) : nk_F) pc
  else ((fun pc => bif Nat.ble pc 101 then (bif Nat.ble pc 100 then (bif Nat.beq pc 100 then some (.aload_n 0, 1, 101, [], 0) else none)
  else (bif Nat.beq pc 101 then some (.getfield 146, 3, 104, [], 0) else none))
  else ((fun pc => bif Nat.ble pc 104 then (bif Nat.beq pc 104 then some (.imul, 1, 105, [], 0) else none)
  else (bif Nat.ble pc 105 then (bif Nat.beq pc 105 then some (.istore 8, 2, 107, [], 0) else none)
  else (bif Nat.beq pc 107 then some (.aload_n 0, 1, 108, [], 0) else none))) : nk_F) pc) : nk_F) pc) : nk_F) pc
  else ((fun pc => bif Nat.ble pc 114 then ((fun pc => bif Nat.ble pc 111 then (bif Nat.ble pc 108 then (bif Nat.beq pc 108 then some (.getfield 35, 3, 111, [], 0) else none)
  else (bif Nat.beq pc 111 then some (.iload 8, 2, 113, [], 0) else none))
  else (bif Nat.ble pc 113 then (bif Nat.beq pc 113 then some (.iload_n 1, 1, 114, [], 0) else none)
  else (bif Nat.beq pc 114 then some (.iastore, 1, 115, [], 0) else none))) : nk_F) pc
  else ((fun pc => bif Nat.ble pc 116 then (bif Nat.ble pc 115 then (bif Nat.beq pc 115 then some (.aload_n 0, 1, 116, [], 0) else none)
  else (bif Nat.beq pc 116 then some (.getfield 35, 3, 119, [], 0) else none))
  else ((fun pc => bif Nat.ble pc 119 then (bif Nat.beq pc 119 then some (.iload 8, 2, 121, [], 0) else none)
  else (bif Nat.ble pc 121 then (bif Nat.beq pc 121 then some (.iconst 1, 1, 122, [], 1) else none)
  else (bif Nat.beq pc 122 then some (.iadd, 1, 123, [], 0) else none))) : nk_F) pc) : nk_F) pc) : nk_F) pc) : nk_F) pc) : nk_F) pc) : nk_F) pc
  else ((fun pc => bif Nat.ble pc 178 then ((fun pc => bif Nat.ble pc 151 then ((fun pc => bif Nat.ble pc 133 then ((fun pc => bif Nat.ble pc 126 then ((fun pc => bif Nat.ble pc 124 then (bif Nat.ble pc 123 then (bif Nat.beq pc 123 then some (.iload_n 2, 1, 124, [], 0) else none)
  else (bif Nat.beq pc 124 then some (.iastore, 1, 125, [], 0) else none))
  else (bif Nat.ble pc 125 then (bif Nat.beq pc 125 then some (.aload_n 0, 1, 126, [], 0) else none)
  else (bif Nat.beq pc 126 then some (.getfield 35, 3, 129, [], 0) else none))) : nk_F) pc
  else ((fun pc => bif Nat.ble pc 131 then (bif Nat.ble pc 129 then (bif Nat.beq pc 129 then some (.iload 8, 2, 131, [], 0) else none)
  else (bif Nat.beq pc 131 then some (.iconst 2, 1, 132, [], 2) else none))
  else (bif Nat.ble pc 132 then (bif Nat.beq pc 132 then some (.iadd, 1, 133, [], 0) else none)
  else (bif Nat.beq pc 133 then some (.iload_n 1, 1, 134, [], 0) else none))) : nk_F) pc) : nk_F) pc
  else ((fun pc => bif Nat.ble pc 139 then ((fun pc => bif Nat.ble pc 135 then (bif Nat.ble pc 134 then (bif Nat.beq pc 134 then some (.iconst 1, 1, 135, [], 1) else none)
  else (bif Nat.beq pc 135 then some (.if_icmp .eq 16, 3, 138, [151], 0) else none))
  else (bif Nat.ble pc 138 then (bif Nat.beq pc 138 then some (.iload_n 1, 1, 139, [], 0) else none)
  else (bif Nat.beq pc 139 then some (.bipush 6, 2, 141, [], 6) else none))) : nk_F) pc
  else ((fun pc => bif Nat.ble pc 144 then (bif Nat.ble pc 141 then (bif Nat.beq pc 141 then some (.if_icmp .eq 10, 3, 144, [151], 0) else none)
  else (bif Nat.beq pc 144 then some (.iload_n 1, 1, 145, [], 0) else none))
  else ((fun pc => bif Nat.ble pc 145 then (bif Nat.beq pc 145 then some (.invokestatic 137, 3, 148, [], 0) else none)
  else (bif Nat.ble pc 148 then (bif Nat.beq pc 148 then some (.ifCond .eq 7, 3, 151, [155], 0) else none)
  else (bif Nat.beq pc 151 then some (.iload_n 3, 1, 152, [], 0) else none))) : nk_F) pc) : nk_F) pc) : nk_F) pc) : nk_F) pc
  else ((fun pc => bif Nat.ble pc 164 then ((fun pc => bif Nat.ble pc 157 then ((fun pc => bif Nat.ble pc 155 then (bif Nat.ble pc 152 then (bif Nat.beq pc 152 then some (.goto 4, 3, 155, [156], 0) else none)
  else (bif Nat.beq pc 155 then some (.iconst 0, 1, 156, [], 0) else none))
  else (bif Nat.ble pc 156 then (bif Nat.beq pc 156 then some (.iastore, 1, 157, [], 0) else none)
  else (bif Nat.beq pc 157 then some (.aload_n 0, 1, 158, [], 0) else none))) : nk_F) pc
  else ((fun pc => bif Nat.ble pc 161 then (bif Nat.ble pc 158 then (bif Nat.beq pc 158 then some (.getfield 35, 3, 161, [], 0) else none)
  else (bif Nat.beq pc 161 then some (.iload 8, 2, 163, [], 0) else none))
  else (bif Nat.ble pc 163 then (bif Nat.beq pc 163 then some (.iconst 3, 1, 164, [], 3) else none)
  else (bif Nat.beq pc 164 then some (.iadd, 1, 165, [], 0) else none))) : nk_F) pc) : nk_F) pc
  else ((fun pc => bif Nat.ble pc 169 then ((fun pc => bif Nat.ble pc 167 then (bif Nat.ble pc 165 then (bif Nat.beq pc 165 then some (.iload 4, 2, 167, [], 0) else none)
  else (bif Nat.beq pc 167 then some (.iastore, 1, 168, [], 0) else none))
  else (bif Nat.ble pc 168 then (bif Nat.beq pc 168 then some (.aload_n 0, 1, 169, [], 0) else none)
  else (bif Nat.beq pc 169 then some (.getfield 35, 3, 172, [], 0) else none))) : nk_F) pc
  else ((fun pc => bif Nat.ble pc 174 then (bif Nat.ble pc 172 then (bif Nat.beq pc 172 then some (.iload 8, 2, 174, [], 0) else none)
  else (bif Nat.beq pc 174 then some (.iconst 4, 1, 175, [], 4) else none))
  else ((fun pc => bif Nat.ble pc 175 then (bif Nat.beq pc 175 then some (.iadd, 1, 176, [], 0) else none)
  else (bif Nat.ble pc 176 then (bif Nat.beq pc 176 then some (.iload 5, 2, 178, [], 0) else none)
  else (bif Nat.beq pc 178 then some (.iastore, 1, 179, [], 0) else none))) : nk_F) pc) : nk_F) pc) : nk_F) pc) : nk_F) pc) : nk_F) pc
  else ((fun pc => bif Nat.ble pc 206 then ((fun pc => bif Nat.ble pc 190 then ((fun pc => bif Nat.ble pc 185 then ((fun pc => bif Nat.ble pc 180 then (bif Nat.ble pc 179 then (bif Nat.beq pc 179 then some (.aload_n 0, 1, 180, [], 0) else none)
  else (bif Nat.beq pc 180 then some (.getfield 35, 3, 183, [], 0) else none))
  else (bif Nat.ble pc 183 then (bif Nat.beq pc 183 then some (.iload 8, 2, 185, [], 0) else none)
  else (bif Nat.beq pc 185 then some (.iconst 5, 1, 186, [], 5) else none))) : nk_F) pc
  else ((fun pc => bif Nat.ble pc 187 then (bif Nat.ble pc 186 then (bif Nat.beq pc 186 then some (.iadd, 1, 187, [], 0) else none)
  else (bif Nat.beq pc 187 then some (.iload 6, 2, 189, [], 0) else none))
  else (bif Nat.ble pc 189 then (bif Nat.beq pc 189 then some (.iastore, 1, 190, [], 0) else none)
  else (bif Nat.beq pc 190 then some (.aload_n 0, 1, 191, [], 0) else none))) : nk_F) pc) : nk_F) pc
  else ((fun pc => bif Nat.ble pc 198 then ((fun pc => bif Nat.ble pc 194 then (bif Nat.ble pc 191 then (bif Nat.beq pc 191 then some (.getfield 35, 3, 194, [], 0) else none)
  else (bif Nat.beq pc 194 then some (.iload 8, 2, 196, [], 0) else none))
  else (bif Nat.ble pc 196 then (bif Nat.beq pc 196 then some (.bipush 6, 2, 198, [], 6) else none)
  else (bif Nat.beq pc 198 then some (.iadd, 1, 199, [], 0) else none))) : nk_F) pc
  else ((fun pc => bif Nat.ble pc 201 then (bif Nat.ble pc 199 then (bif Nat.beq pc 199 then some (.iload 7, 2, 201, [], 0) else none)
  else (bif Nat.beq pc 201 then some (.ifCond .eq 17, 3, 204, [218], 0) else none))
  else ((fun pc => bif Nat.ble pc 204 then (bif Nat.beq pc 204 then some (.iload_n 1, 1, 205, [], 0) else none)
  else (bif Nat.ble pc 205 then (bif Nat.beq pc 205 then some (.iconst 2, 1, 206, [], 2) else none)
  else (bif Nat.beq pc 206 then some (.if_icmp .eq 8, 3, 209, [214], 0) else none))) : nk_F) pc) : nk_F) pc) : nk_F) pc) : nk_F) pc
  else ((fun pc => bif Nat.ble pc 221 then ((fun pc => bif Nat.ble pc 214 then ((fun pc => bif Nat.ble pc 210 then (bif Nat.ble pc 209 then (bif Nat.beq pc 209 then some (.iload_n 1, 1, 210, [], 0) else none)
  else (bif Nat.beq pc 210 then some (.iconst 5, 1, 211, [], 5) else none))
  else (bif Nat.ble pc 211 then (bif Nat.beq pc 211 then some (.if_icmp .ne 7, 3, 214, [218], 0) else none)
  else (bif Nat.beq pc 214 then some (.iconst 1, 1, 215, [], 1) else none))) : nk_F) pc
  else ((fun pc => bif Nat.ble pc 218 then (bif Nat.ble pc 215 then (bif Nat.beq pc 215 then some (.goto 4, 3, 218, [219], 0) else none)
  else (bif Nat.beq pc 218 then some (.iconst 0, 1, 219, [], 0) else none))
  else ((fun pc => bif Nat.ble pc 219 then (bif Nat.beq pc 219 then some (.iastore, 1, 220, [], 0) else none)
  else (bif Nat.ble pc 220 then (bif Nat.beq pc 220 then some (.aload_n 0, 1, 221, [], 0) else none)
  else (bif Nat.beq pc 221 then some (.dup, 1, 222, [], 0) else none))) : nk_F) pc) : nk_F) pc) : nk_F) pc
  else ((fun pc => bif Nat.ble pc 227 then ((fun pc => bif Nat.ble pc 225 then (bif Nat.ble pc 222 then (bif Nat.beq pc 222 then some (.getfield 146, 3, 225, [], 0) else none)
  else (bif Nat.beq pc 225 then some (.iconst 1, 1, 226, [], 1) else none))
  else (bif Nat.ble pc 226 then (bif Nat.beq pc 226 then some (.iadd, 1, 227, [], 0) else none)
  else (bif Nat.beq pc 227 then some (.putfield 146, 3, 230, [], 0) else none))) : nk_F) pc
  else ((fun pc => bif Nat.ble pc 231 then (bif Nat.ble pc 230 then (bif Nat.beq pc 230 then some (.aload_n 0, 1, 231, [], 0) else none)
  else (bif Nat.beq pc 231 then some (.getfield 146, 3, 234, [], 0) else none))
  else ((fun pc => bif Nat.ble pc 234 then (bif Nat.beq pc 234 then some (.iconst 1, 1, 235, [], 1) else none)
  else (bif Nat.ble pc 235 then (bif Nat.beq pc 235 then some (.isub, 1, 236, [], 0) else none)
  else (bif Nat.beq pc 236 then some (.ireturn, 1, 237, [], 0) else none))) : nk_F) pc) : nk_F) pc) : nk_F) pc) : nk_F) pc) : nk_F) pc) : nk_F) pc
noncomputable def kc_X6_making : Nat → Option nk_I := nk_top 237 kt_X6_making
noncomputable def kx_X6_making : nk_T := ([(146, 6, 12, 0), (32, 6, 11, 4), (35, 6, 13, 4)], [(358, 3, 0, 0, 0, ev_X6_in), (536, 2, 7, 0, 0, ev_X6_isStuff), (560, 4, 7, 0, 0, ev_X6_isV), (494, 1, 0, 0, 0, ev_X6_isPerson), (574, 1, 0, 0, 0, ev_X6_isWork), (388, 2, 7, 0, 0, ev_X6_meets), (550, 1, 0, 0, 0, ev_X6_brings)], [], [], [], [], [], 1, false, 0, 0)
noncomputable def ev_X6_making : nk_Ev := fun as h Q => nk_if (Nat.ble (nk_wd as) 9) (nk_ev kx_X6_making kc_X6_making 9 as h Q)
set_option maxRecDepth 100000 in
theorem ck_X6_making : nk_chk cX6_making kc_X6_making 237 = true := nd_chk (by decide +kernel) (by decide +kernel)
set_option maxRecDepth 100000 in
set_option maxHeartbeats 4000000 in
theorem ca_X6_making_358 (l : Launch) : nk_CallOk l { frames := 3, cells := 0, slots := 0, locals := 66 } RX6 cX6_making 9 false 358 (3, 0, 0, 0, ev_X6_in) := nk_callS (x := 89) (n := 3) (mt_X6_in l) (nk_msc [(4, 57), (4, 58), (4, 59), (1, 7)] (by decide +kernel)) rfl rfl (by decide +kernel) ⟨by decide, by decide⟩
set_option maxRecDepth 100000 in
set_option maxHeartbeats 4000000 in
theorem ca_X6_making_536 (l : Launch) : nk_CallOk l { frames := 3, cells := 0, slots := 0, locals := 66 } RX6 cX6_making 9 false 536 (2, 7, 0, 0, ev_X6_isStuff) := nk_callV (x := 134) (n := 1) (ci := 6) (r := (RX6, TX6, 32)) (mt_X6_isStuff l) rfl (nk_msc [(4, 134), (4, 135), (4, 136), (4, 137), (0, 32), (1, 7)] (by decide +kernel)) rfl rfl (by decide +kernel) ⟨by decide, by decide⟩
set_option maxRecDepth 100000 in
set_option maxHeartbeats 4000000 in
theorem ca_X6_making_560 (l : Launch) : nk_CallOk l { frames := 3, cells := 0, slots := 0, locals := 66 } RX6 cX6_making 9 false 560 (4, 7, 0, 0, ev_X6_isV) := nk_callV (x := 140) (n := 3) (ci := 6) (r := (RX6, TX6, 32)) (mt_X6_isV l) rfl (nk_msc [(4, 142), (4, 143), (4, 144), (4, 145), (0, 33), (1, 7)] (by decide +kernel)) rfl rfl (by decide +kernel) ⟨by decide, by decide⟩
set_option maxRecDepth 100000 in
set_option maxHeartbeats 4000000 in
theorem ca_X6_making_494 (l : Launch) : nk_CallOk l { frames := 3, cells := 0, slots := 0, locals := 66 } RX6 cX6_making 9 false 494 (1, 0, 0, 0, ev_X6_isPerson) := nk_callS (x := 123) (n := 1) (mt_X6_isPerson l) (nk_msc [(4, 119), (4, 120), (4, 121), (1, 7)] (by decide +kernel)) rfl rfl (by decide +kernel) ⟨by decide, by decide⟩
set_option maxRecDepth 100000 in
set_option maxHeartbeats 4000000 in
theorem ca_X6_making_574 (l : Launch) : nk_CallOk l { frames := 3, cells := 0, slots := 0, locals := 66 } RX6 cX6_making 9 false 574 (1, 0, 0, 0, ev_X6_isWork) := nk_callS (x := 143) (n := 1) (mt_X6_isWork l) (nk_msc [(4, 149), (4, 150), (4, 151), (1, 7)] (by decide +kernel)) rfl rfl (by decide +kernel) ⟨by decide, by decide⟩
set_option maxRecDepth 100000 in
set_option maxHeartbeats 4000000 in
theorem ca_X6_making_388 (l : Launch) : nk_CallOk l { frames := 3, cells := 0, slots := 0, locals := 66 } RX6 cX6_making 9 false 388 (2, 7, 0, 0, ev_X6_meets) := nk_callV (x := 97) (n := 1) (ci := 6) (r := (RX6, TX6, 32)) (mt_X6_meets l) rfl (nk_msc [(4, 60), (4, 61), (4, 62), (4, 63), (0, 26), (1, 7)] (by decide +kernel)) rfl rfl (by decide +kernel) ⟨by decide, by decide⟩
set_option maxRecDepth 100000 in
set_option maxHeartbeats 4000000 in
theorem ca_X6_making_550 (l : Launch) : nk_CallOk l { frames := 3, cells := 0, slots := 0, locals := 66 } RX6 cX6_making 9 false 550 (1, 0, 0, 0, ev_X6_brings) := nk_callS (x := 137) (n := 1) (mt_X6_brings l) (nk_msc [(4, 146), (4, 147), (4, 148), (1, 7)] (by decide +kernel)) rfl rfl (by decide +kernel) ⟨by decide, by decide⟩
set_option maxRecDepth 100000 in
set_option maxHeartbeats 4000000 in
theorem mt_X6_making (l : Launch) : nk_Met l yX6_making cX6_making 9 (some .int) { frames := 3, cells := 0, slots := 0, locals := 66 } false 0 0 ev_X6_making :=
  nk_met nk_gok (plainFor_of_name (by decide)) ck_X6_making (nk_top_out 237 kt_X6_making) ⟨List.forall_mem_cons.mpr ⟨nk_fkc [(3, 205)] (by decide +kernel), List.forall_mem_cons.mpr ⟨nk_fkc [(3, 188), (3, 204)] (by decide +kernel), List.forall_mem_cons.mpr ⟨nk_fkc [(3, 206)] (by decide +kernel), fun _ h => absurd h List.not_mem_nil⟩⟩⟩, List.forall_mem_cons.mpr ⟨ca_X6_making_358 l, List.forall_mem_cons.mpr ⟨ca_X6_making_536 l, List.forall_mem_cons.mpr ⟨ca_X6_making_560 l, List.forall_mem_cons.mpr ⟨ca_X6_making_494 l, List.forall_mem_cons.mpr ⟨ca_X6_making_574 l, List.forall_mem_cons.mpr ⟨ca_X6_making_388 l, List.forall_mem_cons.mpr ⟨ca_X6_making_550 l, fun _ h => absurd h List.not_mem_nil⟩⟩⟩⟩⟩⟩⟩, fun _ h => absurd h List.not_mem_nil, fun _ h => absurd h List.not_mem_nil, fun _ h => absurd h List.not_mem_nil, fun _ h => absurd h List.not_mem_nil, fun _ h => absurd h List.not_mem_nil, by decide, rfl, rfl⟩ rfl (by decide)
/-! MarbleLawModel.about(II)I -/
noncomputable def kt_X6_about : Nat → Option nk_I := fun pc => bif Nat.ble pc 18 then ((fun pc => bif Nat.ble pc 8 then ((fun pc => bif Nat.ble pc 1 then (bif Nat.ble pc 0 then (bif Nat.beq pc 0 then some (.aload_n 0, 1, 1, [], 0) else none)
  else (bif Nat.beq pc 1 then some (.iload_n 1, 1, 2, [], 0) else none))
  else ((fun pc => bif Nat.ble pc 2 then (bif Nat.beq pc 2 then some (.invokevirtual 134, 3, 5, [], 0) else none)
  else (bif Nat.ble pc 5 then (bif Nat.beq pc 5 then some (.ifCond .eq 30, 3, 8, [35], 0) else none)
  else (bif Nat.beq pc 8 then some (.iload_n 2, 1, 9, [], 0) else none))) : nk_F) pc) : nk_F) pc
  else ((fun pc => bif Nat.ble pc 11 then ((fun pc => bif Nat.ble pc 9 then (bif Nat.beq pc 9 then some (.iconst 0, 1, 10, [], 0) else none)
  else (bif Nat.ble pc 10 then (bif Nat.beq pc 10 then some (.iconst 4, 1, 11, [], 4) else none)
  else (bif Nat.beq pc 11 then some (.invokestatic 89, 3, 14, [], 0) else none))) : nk_F) pc
  else ((fun pc => bif Nat.ble pc 14 then (bif Nat.beq pc 14 then some (.ifCond .eq 21, 3, 17, [35], 0) else none)
  else (bif Nat.ble pc 17 then (bif Nat.beq pc 17 then some (.aload_n 0, 1, 18, [], 0) else none)
  else (bif Nat.beq pc 18 then some (.aload_n 0, 1, 19, [], 0) else none))) : nk_F) pc) : nk_F) pc) : nk_F) pc
  else ((fun pc => bif Nat.ble pc 26 then ((fun pc => bif Nat.ble pc 23 then ((fun pc => bif Nat.ble pc 19 then (bif Nat.beq pc 19 then some (.getfield 32, 3, 22, [], 0) else none)
  else (bif Nat.ble pc 22 then (bif Nat.beq pc 22 then some (.iconst 5, 1, 23, [], 5) else none)
  else (bif Nat.beq pc 23 then some (.iload_n 1, 1, 24, [], 0) else none))) : nk_F) pc
  else ((fun pc => bif Nat.ble pc 24 then (bif Nat.beq pc 24 then some (.imul, 1, 25, [], 0) else none)
  else (bif Nat.ble pc 25 then (bif Nat.beq pc 25 then some (.iload_n 2, 1, 26, [], 0) else none)
  else (bif Nat.beq pc 26 then some (.iadd, 1, 27, [], 0) else none))) : nk_F) pc) : nk_F) pc
  else ((fun pc => bif Nat.ble pc 29 then ((fun pc => bif Nat.ble pc 27 then (bif Nat.beq pc 27 then some (.iaload, 1, 28, [], 0) else none)
  else (bif Nat.ble pc 28 then (bif Nat.beq pc 28 then some (.iconst 1, 1, 29, [], 1) else none)
  else (bif Nat.beq pc 29 then some (.invokevirtual 111, 3, 32, [], 0) else none))) : nk_F) pc
  else ((fun pc => bif Nat.ble pc 32 then (bif Nat.beq pc 32 then some (.goto 4, 3, 35, [36], 0) else none)
  else (bif Nat.ble pc 35 then (bif Nat.beq pc 35 then some (.iconst (-1), 1, 36, [], (-1)) else none)
  else (bif Nat.beq pc 36 then some (.ireturn, 1, 37, [], 0) else none))) : nk_F) pc) : nk_F) pc) : nk_F) pc
noncomputable def kc_X6_about : Nat → Option nk_I := nk_top 37 kt_X6_about
noncomputable def kx_X6_about : nk_T := ([(32, 6, 11, 4)], [(536, 2, 7, 0, 0, ev_X6_isStuff), (358, 3, 0, 0, 0, ev_X6_in), (444, 3, 7, 0, 0, ev_X6_ask)], [], [], [], [], [], 1, false, 0, 0)
noncomputable def ev_X6_about : nk_Ev := fun as h Q => nk_if (Nat.ble (nk_wd as) 3) (nk_ev kx_X6_about kc_X6_about 3 as h Q)
set_option maxRecDepth 100000 in
theorem ck_X6_about : nk_chk cX6_about kc_X6_about 37 = true := nd_chk (by decide +kernel) (by decide +kernel)
set_option maxRecDepth 100000 in
set_option maxHeartbeats 4000000 in
theorem ca_X6_about_536 (l : Launch) : nk_CallOk l { frames := 2, cells := 0, slots := 0, locals := 43 } RX6 cX6_about 3 false 536 (2, 7, 0, 0, ev_X6_isStuff) := nk_callV (x := 134) (n := 1) (ci := 6) (r := (RX6, TX6, 32)) (mt_X6_isStuff l) rfl (nk_msc [(4, 134), (4, 135), (4, 136), (4, 137), (0, 32), (1, 7)] (by decide +kernel)) rfl rfl (by decide +kernel) ⟨by decide, by decide⟩
set_option maxRecDepth 100000 in
set_option maxHeartbeats 4000000 in
theorem ca_X6_about_358 (l : Launch) : nk_CallOk l { frames := 2, cells := 0, slots := 0, locals := 43 } RX6 cX6_about 3 false 358 (3, 0, 0, 0, ev_X6_in) := nk_callS (x := 89) (n := 3) (mt_X6_in l) (nk_msc [(4, 57), (4, 58), (4, 59), (1, 7)] (by decide +kernel)) rfl rfl (by decide +kernel) ⟨by decide, by decide⟩
set_option maxRecDepth 100000 in
set_option maxHeartbeats 4000000 in
theorem ca_X6_about_444 (l : Launch) : nk_CallOk l { frames := 2, cells := 0, slots := 0, locals := 43 } RX6 cX6_about 3 false 444 (3, 7, 0, 0, ev_X6_ask) := nk_callV (x := 111) (n := 2) (ci := 6) (r := (RX6, TX6, 32)) (mt_X6_ask l) rfl (nk_msc [(4, 76), (4, 77), (4, 78), (4, 79), (0, 29), (1, 7)] (by decide +kernel)) rfl rfl (by decide +kernel) ⟨by decide, by decide⟩
set_option maxRecDepth 100000 in
set_option maxHeartbeats 4000000 in
theorem mt_X6_about (l : Launch) : nk_Met l yX6_about cX6_about 3 (some .int) { frames := 2, cells := 0, slots := 0, locals := 43 } false 0 0 ev_X6_about :=
  nk_met nk_gok (plainFor_of_name (by decide)) ck_X6_about (nk_top_out 37 kt_X6_about) ⟨List.forall_mem_cons.mpr ⟨nk_fkc [(3, 188), (3, 204)] (by decide +kernel), fun _ h => absurd h List.not_mem_nil⟩, List.forall_mem_cons.mpr ⟨ca_X6_about_536 l, List.forall_mem_cons.mpr ⟨ca_X6_about_358 l, List.forall_mem_cons.mpr ⟨ca_X6_about_444 l, fun _ h => absurd h List.not_mem_nil⟩⟩⟩, fun _ h => absurd h List.not_mem_nil, fun _ h => absurd h List.not_mem_nil, fun _ h => absurd h List.not_mem_nil, fun _ h => absurd h List.not_mem_nil, fun _ h => absurd h List.not_mem_nil, by decide, rfl, rfl⟩ rfl (by decide)
/-! MarbleLawModel.isMaking(I)Z -/
noncomputable def kt_X6_isMaking : Nat → Option nk_I := fun pc => bif Nat.ble pc 3 then ((fun pc => bif Nat.ble pc 1 then (bif Nat.ble pc 0 then (bif Nat.beq pc 0 then some (.iload_n 1, 1, 1, [], 0) else none)
  else (bif Nat.beq pc 1 then some (.iconst 0, 1, 2, [], 0) else none))
  else (bif Nat.ble pc 2 then (bif Nat.beq pc 2 then some (.aload_n 0, 1, 3, [], 0) else none)
  else (bif Nat.beq pc 3 then some (.getfield 146, 3, 6, [], 0) else none))) : nk_F) pc
  else ((fun pc => bif Nat.ble pc 7 then (bif Nat.ble pc 6 then (bif Nat.beq pc 6 then some (.iconst 1, 1, 7, [], 1) else none)
  else (bif Nat.beq pc 7 then some (.isub, 1, 8, [], 0) else none))
  else (bif Nat.ble pc 8 then (bif Nat.beq pc 8 then some (.invokestatic 89, 3, 11, [], 0) else none)
  else (bif Nat.beq pc 11 then some (.ireturn, 1, 12, [], 0) else none))) : nk_F) pc
noncomputable def kc_X6_isMaking : Nat → Option nk_I := nk_top 12 kt_X6_isMaking
noncomputable def kx_X6_isMaking : nk_T := ([(146, 6, 12, 0)], [(358, 3, 0, 0, 0, ev_X6_in)], [], [], [], [], [], 2, false, 0, 0)
noncomputable def ev_X6_isMaking : nk_Ev := fun as h Q => nk_if (Nat.ble (nk_wd as) 2) (nk_ev kx_X6_isMaking kc_X6_isMaking 2 as h Q)
set_option maxRecDepth 100000 in
theorem ck_X6_isMaking : nk_chk cX6_isMaking kc_X6_isMaking 12 = true := nd_chk (by decide +kernel) (by decide +kernel)
set_option maxRecDepth 100000 in
set_option maxHeartbeats 4000000 in
theorem ca_X6_isMaking_358 (l : Launch) : nk_CallOk l { frames := 1, cells := 0, slots := 0, locals := 22 } RX6 cX6_isMaking 2 false 358 (3, 0, 0, 0, ev_X6_in) := nk_callS (x := 89) (n := 3) (mt_X6_in l) (nk_msc [(4, 57), (4, 58), (4, 59), (1, 7)] (by decide +kernel)) rfl rfl (by decide +kernel) ⟨by decide, by decide⟩
set_option maxRecDepth 100000 in
set_option maxHeartbeats 4000000 in
theorem mt_X6_isMaking (l : Launch) : nk_Met l yX6_isMaking cX6_isMaking 2 (some .boolean) { frames := 1, cells := 0, slots := 0, locals := 22 } false 0 0 ev_X6_isMaking :=
  nk_met nk_gok (plainFor_of_name (by decide)) ck_X6_isMaking (nk_top_out 12 kt_X6_isMaking) ⟨List.forall_mem_cons.mpr ⟨nk_fkc [(3, 205)] (by decide +kernel), fun _ h => absurd h List.not_mem_nil⟩, List.forall_mem_cons.mpr ⟨ca_X6_isMaking_358 l, fun _ h => absurd h List.not_mem_nil⟩, fun _ h => absurd h List.not_mem_nil, fun _ h => absurd h List.not_mem_nil, fun _ h => absurd h List.not_mem_nil, fun _ h => absurd h List.not_mem_nil, fun _ h => absurd h List.not_mem_nil, by decide, rfl, rfl⟩ rfl (by decide)
/-! MarbleLawModel.part(II)I -/
noncomputable def kt_X6_part : Nat → Option nk_I := fun pc => bif Nat.ble pc 6 then ((fun pc => bif Nat.ble pc 1 then (bif Nat.ble pc 0 then (bif Nat.beq pc 0 then some (.aload_n 0, 1, 1, [], 0) else none)
  else (bif Nat.beq pc 1 then some (.getfield 35, 3, 4, [], 0) else none))
  else (bif Nat.ble pc 4 then (bif Nat.beq pc 4 then some (.bipush 7, 2, 6, [], 7) else none)
  else (bif Nat.beq pc 6 then some (.iload_n 1, 1, 7, [], 0) else none))) : nk_F) pc
  else ((fun pc => bif Nat.ble pc 8 then (bif Nat.ble pc 7 then (bif Nat.beq pc 7 then some (.imul, 1, 8, [], 0) else none)
  else (bif Nat.beq pc 8 then some (.iload_n 2, 1, 9, [], 0) else none))
  else ((fun pc => bif Nat.ble pc 9 then (bif Nat.beq pc 9 then some (.iadd, 1, 10, [], 0) else none)
  else (bif Nat.ble pc 10 then (bif Nat.beq pc 10 then some (.iaload, 1, 11, [], 0) else none)
  else (bif Nat.beq pc 11 then some (.ireturn, 1, 12, [], 0) else none))) : nk_F) pc) : nk_F) pc
noncomputable def kc_X6_part : Nat → Option nk_I := nk_top 12 kt_X6_part
noncomputable def kx_X6_part : nk_T := ([(35, 6, 13, 4)], [], [], [], [], [], [], 1, false, 0, 0)
noncomputable def ev_X6_part : nk_Ev := fun as h Q => nk_if (Nat.ble (nk_wd as) 3) (nk_ev kx_X6_part kc_X6_part 3 as h Q)
set_option maxRecDepth 100000 in
theorem ck_X6_part : nk_chk cX6_part kc_X6_part 12 = true := nd_chk (by decide +kernel) (by decide +kernel)
set_option maxRecDepth 100000 in
set_option maxHeartbeats 4000000 in
theorem mt_X6_part (l : Launch) : nk_Met l yX6_part cX6_part 3 (some .int) { frames := 0, cells := 0, slots := 0, locals := 0 } false 0 0 ev_X6_part :=
  nk_met nk_gok (plainFor_of_name (by decide)) ck_X6_part (nk_top_out 12 kt_X6_part) ⟨List.forall_mem_cons.mpr ⟨nk_fkc [(3, 206)] (by decide +kernel), fun _ h => absurd h List.not_mem_nil⟩, fun _ h => absurd h List.not_mem_nil, fun _ h => absurd h List.not_mem_nil, fun _ h => absurd h List.not_mem_nil, fun _ h => absurd h List.not_mem_nil, fun _ h => absurd h List.not_mem_nil, fun _ h => absurd h List.not_mem_nil, by decide, rfl, rfl⟩ rfl (by decide)
/-! MarbleLawModel.told(II)I -/
noncomputable def kt_X6_told : Nat → Option nk_I := fun pc => bif Nat.ble pc 15 then ((fun pc => bif Nat.ble pc 5 then ((fun pc => bif Nat.ble pc 1 then (bif Nat.ble pc 0 then (bif Nat.beq pc 0 then some (.aload_n 0, 1, 1, [], 0) else none)
  else (bif Nat.beq pc 1 then some (.iload_n 1, 1, 2, [], 0) else none))
  else (bif Nat.ble pc 2 then (bif Nat.beq pc 2 then some (.invokevirtual 149, 3, 5, [], 0) else none)
  else (bif Nat.beq pc 5 then some (.ifCond .eq 27, 3, 8, [32], 0) else none))) : nk_F) pc
  else ((fun pc => bif Nat.ble pc 9 then (bif Nat.ble pc 8 then (bif Nat.beq pc 8 then some (.iload_n 2, 1, 9, [], 0) else none)
  else (bif Nat.beq pc 9 then some (.iconst 0, 1, 10, [], 0) else none))
  else ((fun pc => bif Nat.ble pc 10 then (bif Nat.beq pc 10 then some (.bipush 6, 2, 12, [], 6) else none)
  else (bif Nat.ble pc 12 then (bif Nat.beq pc 12 then some (.invokestatic 89, 3, 15, [], 0) else none)
  else (bif Nat.beq pc 15 then some (.ifCond .eq 17, 3, 18, [32], 0) else none))) : nk_F) pc) : nk_F) pc) : nk_F) pc
  else ((fun pc => bif Nat.ble pc 22 then ((fun pc => bif Nat.ble pc 19 then (bif Nat.ble pc 18 then (bif Nat.beq pc 18 then some (.aload_n 0, 1, 19, [], 0) else none)
  else (bif Nat.beq pc 19 then some (.aload_n 0, 1, 20, [], 0) else none))
  else ((fun pc => bif Nat.ble pc 20 then (bif Nat.beq pc 20 then some (.iload_n 1, 1, 21, [], 0) else none)
  else (bif Nat.ble pc 21 then (bif Nat.beq pc 21 then some (.iload_n 2, 1, 22, [], 0) else none)
  else (bif Nat.beq pc 22 then some (.invokevirtual 152, 3, 25, [], 0) else none))) : nk_F) pc) : nk_F) pc
  else ((fun pc => bif Nat.ble pc 26 then (bif Nat.ble pc 25 then (bif Nat.beq pc 25 then some (.iconst 1, 1, 26, [], 1) else none)
  else (bif Nat.beq pc 26 then some (.invokevirtual 111, 3, 29, [], 0) else none))
  else ((fun pc => bif Nat.ble pc 29 then (bif Nat.beq pc 29 then some (.goto 4, 3, 32, [33], 0) else none)
  else (bif Nat.ble pc 32 then (bif Nat.beq pc 32 then some (.iconst (-1), 1, 33, [], (-1)) else none)
  else (bif Nat.beq pc 33 then some (.ireturn, 1, 34, [], 0) else none))) : nk_F) pc) : nk_F) pc) : nk_F) pc
noncomputable def kc_X6_told : Nat → Option nk_I := nk_top 34 kt_X6_told
noncomputable def kx_X6_told : nk_T := ([], [(596, 2, 7, 0, 0, ev_X6_isMaking), (358, 3, 0, 0, 0, ev_X6_in), (608, 3, 7, 0, 0, ev_X6_part), (444, 3, 7, 0, 0, ev_X6_ask)], [], [], [], [], [], 1, false, 0, 0)
noncomputable def ev_X6_told : nk_Ev := fun as h Q => nk_if (Nat.ble (nk_wd as) 3) (nk_ev kx_X6_told kc_X6_told 3 as h Q)
set_option maxRecDepth 100000 in
theorem ck_X6_told : nk_chk cX6_told kc_X6_told 34 = true := nd_chk (by decide +kernel) (by decide +kernel)
set_option maxRecDepth 100000 in
set_option maxHeartbeats 4000000 in
theorem ca_X6_told_596 (l : Launch) : nk_CallOk l { frames := 2, cells := 0, slots := 0, locals := 43 } RX6 cX6_told 3 false 596 (2, 7, 0, 0, ev_X6_isMaking) := nk_callV (x := 149) (n := 1) (ci := 6) (r := (RX6, TX6, 32)) (mt_X6_isMaking l) rfl (nk_msc [(4, 160), (4, 161), (4, 162), (4, 163), (0, 34), (1, 7)] (by decide +kernel)) rfl rfl (by decide +kernel) ⟨by decide, by decide⟩
set_option maxRecDepth 100000 in
set_option maxHeartbeats 4000000 in
theorem ca_X6_told_358 (l : Launch) : nk_CallOk l { frames := 2, cells := 0, slots := 0, locals := 43 } RX6 cX6_told 3 false 358 (3, 0, 0, 0, ev_X6_in) := nk_callS (x := 89) (n := 3) (mt_X6_in l) (nk_msc [(4, 57), (4, 58), (4, 59), (1, 7)] (by decide +kernel)) rfl rfl (by decide +kernel) ⟨by decide, by decide⟩
set_option maxRecDepth 100000 in
set_option maxHeartbeats 4000000 in
theorem ca_X6_told_608 (l : Launch) : nk_CallOk l { frames := 2, cells := 0, slots := 0, locals := 43 } RX6 cX6_told 3 false 608 (3, 7, 0, 0, ev_X6_part) := nk_callV (x := 152) (n := 2) (ci := 6) (r := (RX6, TX6, 32)) (mt_X6_part l) rfl (nk_msc [(4, 164), (4, 165), (4, 166), (4, 167), (0, 35), (1, 7)] (by decide +kernel)) rfl rfl (by decide +kernel) ⟨by decide, by decide⟩
set_option maxRecDepth 100000 in
set_option maxHeartbeats 4000000 in
theorem ca_X6_told_444 (l : Launch) : nk_CallOk l { frames := 2, cells := 0, slots := 0, locals := 43 } RX6 cX6_told 3 false 444 (3, 7, 0, 0, ev_X6_ask) := nk_callV (x := 111) (n := 2) (ci := 6) (r := (RX6, TX6, 32)) (mt_X6_ask l) rfl (nk_msc [(4, 76), (4, 77), (4, 78), (4, 79), (0, 29), (1, 7)] (by decide +kernel)) rfl rfl (by decide +kernel) ⟨by decide, by decide⟩
set_option maxRecDepth 100000 in
set_option maxHeartbeats 4000000 in
theorem mt_X6_told (l : Launch) : nk_Met l yX6_told cX6_told 3 (some .int) { frames := 2, cells := 0, slots := 0, locals := 43 } false 0 0 ev_X6_told :=
  nk_met nk_gok (plainFor_of_name (by decide)) ck_X6_told (nk_top_out 34 kt_X6_told) ⟨fun _ h => absurd h List.not_mem_nil, List.forall_mem_cons.mpr ⟨ca_X6_told_596 l, List.forall_mem_cons.mpr ⟨ca_X6_told_358 l, List.forall_mem_cons.mpr ⟨ca_X6_told_608 l, List.forall_mem_cons.mpr ⟨ca_X6_told_444 l, fun _ h => absurd h List.not_mem_nil⟩⟩⟩⟩, fun _ h => absurd h List.not_mem_nil, fun _ h => absurd h List.not_mem_nil, fun _ h => absurd h List.not_mem_nil, fun _ h => absurd h List.not_mem_nil, fun _ h => absurd h List.not_mem_nil, by decide, rfl, rfl⟩ rfl (by decide)
