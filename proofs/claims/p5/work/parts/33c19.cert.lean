def md_X5_inTime : na_Md := (kx_X5_inTime, kc_X5_inTime, 6, [(776, .inl 91), (836, .inl 21), (924, .inr (.inl cs_X0_begin)), (948, .inr (.inl cs_X0_go))])
theorem rk_X5_inTime {ms : List (Nat × na_Md)} {pk : List Nat} (h_X5_refusalOfParts : nk_lk ms 91 = some md_X5_refusalOfParts) (h_X0_hasSome : nk_lk ms 21 = some md_X0_hasSome) : ∀ e ∈ md_X5_inTime.2.2.2, na_rk (gC, ms, pk) md_X5_inTime e := List.forall_mem_cons.mpr ⟨na_rk_i rfl rfl rfl h_X5_refusalOfParts rfl, List.forall_mem_cons.mpr ⟨na_rk_i rfl rfl rfl h_X0_hasSome rfl, List.forall_mem_cons.mpr ⟨na_rk_c rfl rfl rfl csok_X0_begin, List.forall_mem_cons.mpr ⟨na_rk_c rfl rfl rfl csok_X0_go, fun _ h => absurd h List.not_mem_nil⟩⟩⟩⟩
def cc_X5_inTime_0 : na_C := ([.inr (.inr (.inr (.inr 0))), .inr (.inr (.inl (-2147483648, 2147483647, false))), .inr (.inr (.inl (-2147483648, 2147483647, false))), .inr (.inr (.inl (-2147483648, 2147483647, false)))], ([], []), 0, [(0, -2147483648, 2147483647), (4, -2147483648, 2147483647), (5, 0, 1), (6, 0, 15), (7, -1, 15), (8, -2147483648, 2147483647), (9, -2147483648, 2147483647)], [10, 11, 12, 13, 14, 15, 16, 28], 1, (-9, 11), (0, 0))
def hd_X5_inTime_0 : List na_Hd := [(51, [4, 5], [(1000001011, 13, [some (.inr (.inr (.inr (.inr 0)))), some (.inr (.inl 30)), some (.inr (.inl 31)), some (.inr (.inl 32)), some (.inl 0), some (.inl 11)], [4, 5, 6, 7, 8, 9], [10, 11, 12, 13, 14, 15, 16], [(2, 1, 16), (30, 0, 3), (31, 0, 15), (32, 0, 5)], 0, [(31, 2)]),
  (1000001010, 12, [some (.inr (.inr (.inr (.inr 0)))), some (.inr (.inl 30)), some (.inr (.inl 31)), some (.inr (.inl 32)), some (.inl 0), some (.inl 10)], [4, 5, 6, 7, 8, 9], [10, 11, 12, 13, 14, 15, 16], [(2, 1, 16), (30, 0, 3), (31, 0, 15), (32, 0, 5)], 0, [(31, 2)]),
  (1000001009, 11, [some (.inr (.inr (.inr (.inr 0)))), some (.inr (.inl 30)), some (.inr (.inl 31)), some (.inr (.inl 32)), some (.inl 0), some (.inl 9)], [4, 5, 6, 7, 8, 9], [10, 11, 12, 13, 14, 15, 16], [(2, 1, 16), (30, 0, 3), (31, 0, 15), (32, 0, 5)], 0, [(31, 2)]),
  (1000001008, 10, [some (.inr (.inr (.inr (.inr 0)))), some (.inr (.inl 30)), some (.inr (.inl 31)), some (.inr (.inl 32)), some (.inl 0), some (.inl 8)], [4, 5, 6, 7, 8, 9], [10, 11, 12, 13, 14, 15, 16], [(2, 1, 16), (30, 0, 3), (31, 0, 15), (32, 0, 5)], 0, [(31, 2)]),
  (1000001007, 9, [some (.inr (.inr (.inr (.inr 0)))), some (.inr (.inl 30)), some (.inr (.inl 31)), some (.inr (.inl 32)), some (.inl 0), some (.inl 7)], [4, 5, 6, 7, 8, 9], [10, 11, 12, 13, 14, 15, 16], [(2, 1, 16), (30, 0, 3), (31, 0, 15), (32, 0, 5)], 0, [(31, 2)]),
  (1000001006, 8, [some (.inr (.inr (.inr (.inr 0)))), some (.inr (.inl 30)), some (.inr (.inl 31)), some (.inr (.inl 32)), some (.inl 0), some (.inl 6)], [4, 5, 6, 7, 8, 9], [10, 11, 12, 13, 14, 15, 16], [(2, 1, 16), (30, 0, 3), (31, 0, 15), (32, 0, 5)], 0, [(31, 2)]),
  (1000001005, 7, [some (.inr (.inr (.inr (.inr 0)))), some (.inr (.inl 30)), some (.inr (.inl 31)), some (.inr (.inl 32)), some (.inl 0), some (.inl 5)], [4, 5, 6, 7, 8, 9], [10, 11, 12, 13, 14, 15, 16], [(2, 1, 16), (30, 0, 3), (31, 0, 15), (32, 0, 5)], 0, [(31, 2)]),
  (1000001004, 6, [some (.inr (.inr (.inr (.inr 0)))), some (.inr (.inl 30)), some (.inr (.inl 31)), some (.inr (.inl 32)), some (.inl 0), some (.inl 4)], [4, 5, 6, 7, 8, 9], [10, 11, 12, 13, 14, 15, 16], [(2, 1, 16), (30, 0, 3), (31, 0, 15), (32, 0, 5)], 0, [(31, 2)]),
  (1000001003, 5, [some (.inr (.inr (.inr (.inr 0)))), some (.inr (.inl 30)), some (.inr (.inl 31)), some (.inr (.inl 32)), some (.inl 0), some (.inl 3)], [4, 5, 6, 7, 8, 9], [10, 11, 12, 13, 14, 15, 16], [(2, 1, 16), (30, 0, 3), (31, 0, 15), (32, 0, 5)], 0, [(31, 2)]),
  (1000001002, 4, [some (.inr (.inr (.inr (.inr 0)))), some (.inr (.inl 30)), some (.inr (.inl 31)), some (.inr (.inl 32)), some (.inl 0), some (.inl 2)], [4, 5, 6, 7, 8, 9], [10, 11, 12, 13, 14, 15, 16], [(2, 1, 16), (30, 0, 3), (31, 0, 15), (32, 0, 5)], 0, [(31, 2)]),
  (1000001001, 3, [some (.inr (.inr (.inr (.inr 0)))), some (.inr (.inl 30)), some (.inr (.inl 31)), some (.inr (.inl 32)), some (.inl 0), some (.inl 1)], [4, 5, 6, 7, 8, 9], [10, 11, 12, 13, 14, 15, 16], [(2, 1, 16), (30, 0, 3), (31, 0, 15), (32, 0, 5)], 0, [(31, 2)]),
  (1000001000, 2, [some (.inr (.inr (.inr (.inr 0)))), some (.inr (.inl 30)), some (.inr (.inl 31)), some (.inr (.inl 32)), some (.inl 0), some (.inl 0)], [4, 5, 6, 7, 8, 9], [10, 11, 12, 13, 14, 15, 16], [(2, 1, 16), (30, 0, 3), (31, 0, 15), (32, 0, 5)], 0, [(31, 2)]),
  (1000000999, 1, [some (.inr (.inr (.inr (.inr 0)))), some (.inr (.inl 30)), some (.inr (.inl 31)), some (.inr (.inl 32)), some (.inl 0), some (.inl (-1))], [4, 5, 6, 7, 8, 9], [10, 11, 12, 13, 14, 15, 16], [(2, 1, 16), (30, 0, 3), (31, 0, 15), (32, 0, 5)], 0, [(31, 2)])])]
set_option maxRecDepth 1000000 in
theorem ct_X5_inTime_0 : na_Ct gC ev_X5_inTime cc_X5_inTime_0 := na_chk_ok (cf := (gC, [(108, md_X5_inTime), (91, md_X5_refusalOfParts), (21, md_X0_hasSome), (59, md_X5_within), (74, md_X5_isStuff), (88, md_X5_isStory), (60, md_X5_found), (13, md_X0_part)], [])) ke_C (na_rok_mk (List.forall_mem_cons.mpr ⟨rk_X5_inTime rfl rfl, List.forall_mem_cons.mpr ⟨rk_X5_refusalOfParts rfl rfl rfl rfl, List.forall_mem_cons.mpr ⟨rk_X0_hasSome rfl, List.forall_mem_cons.mpr ⟨rk_X5_within, List.forall_mem_cons.mpr ⟨rk_X5_isStuff rfl, List.forall_mem_cons.mpr ⟨rk_X5_isStory, List.forall_mem_cons.mpr ⟨rk_X5_found, List.forall_mem_cons.mpr ⟨rk_X0_part, fun _ h => absurd h List.not_mem_nil⟩⟩⟩⟩⟩⟩⟩⟩)) ndk_C ln_C mo_C pk_C (m := md_X5_inTime) (mi := 108) (fu := 3000) (sp := [(51, 5)]) (hd := hd_X5_inTime_0) (mu := 14) rfl (nf_chk_ok (by decide +kernel))
def md_X1_add : na_Md := (kx_X1_add, kc_X1_add, 3, [])
theorem rk_X1_add {ms : List (Nat × na_Md)} {pk : List Nat}  : ∀ e ∈ md_X1_add.2.2.2, na_rk (gC, ms, pk) md_X1_add e := fun _ h => absurd h List.not_mem_nil
def md_X5_heap : na_Md := (kx_X5_heap, kc_X5_heap, 4, [(338, .inl 59), (1076, .inl 29)])
theorem rk_X5_heap {ms : List (Nat × na_Md)} {pk : List Nat} (h_X5_within : nk_lk ms 59 = some md_X5_within) (h_X1_add : nk_lk ms 29 = some md_X1_add) : ∀ e ∈ md_X5_heap.2.2.2, na_rk (gC, ms, pk) md_X5_heap e := List.forall_mem_cons.mpr ⟨na_rk_i rfl rfl rfl h_X5_within rfl, List.forall_mem_cons.mpr ⟨na_rk_i rfl rfl rfl h_X1_add rfl, fun _ h => absurd h List.not_mem_nil⟩⟩
def cc_X5_heap_0 : na_C := ([.inr (.inr (.inr (.inr 0))), .inr (.inr (.inl (-2147483648, 2147483647, false))), .inr (.inr (.inl (-2147483648, 2147483647, false))), .inr (.inr (.inl (-2147483648, 2147483647, false)))], ([], []), 0, [(26, 0, 20), (27, 0, 20), (28, 0, 20), (29, 0, 20)], [50, 51, 53, 54, 56, 57, 59, 60], 1, (-2, 20), (0, 0))
def hd_X5_heap_0 : List na_Hd := []
set_option maxRecDepth 1000000 in
theorem ct_X5_heap_0 : na_Ct gC ev_X5_heap cc_X5_heap_0 := na_chk_ok (cf := (gC, [(109, md_X5_heap), (59, md_X5_within), (29, md_X1_add)], [])) ke_C (na_rok_mk (List.forall_mem_cons.mpr ⟨rk_X5_heap rfl rfl, List.forall_mem_cons.mpr ⟨rk_X5_within, List.forall_mem_cons.mpr ⟨rk_X1_add, fun _ h => absurd h List.not_mem_nil⟩⟩⟩)) ndk_C ln_C mo_C pk_C (m := md_X5_heap) (mi := 109) (fu := 3000) (sp := []) (hd := hd_X5_heap_0) (mu := 1) rfl (nf_chk_ok (by decide +kernel))
def cs_X1_drawFromFirst : List na_C := [cc_X1_drawFromFirst_0, cc_X1_drawFromFirst_1, cc_X1_drawFromFirst_2, cc_X1_drawFromFirst_3]
theorem csok_X1_drawFromFirst : ∀ c ∈ cs_X1_drawFromFirst, na_Ct gC ev_X1_drawFromFirst c := List.forall_mem_cons.mpr ⟨ct_X1_drawFromFirst_0, List.forall_mem_cons.mpr ⟨ct_X1_drawFromFirst_1, List.forall_mem_cons.mpr ⟨ct_X1_drawFromFirst_2, List.forall_mem_cons.mpr ⟨ct_X1_drawFromFirst_3, fun _ h => absurd h List.not_mem_nil⟩⟩⟩⟩
def cs_X1_drawByParts : List na_C := [cc_X1_drawByParts_0, cc_X1_drawByParts_1, cc_X1_drawByParts_2, cc_X1_drawByParts_3]
theorem csok_X1_drawByParts : ∀ c ∈ cs_X1_drawByParts, na_Ct gC ev_X1_drawByParts c := List.forall_mem_cons.mpr ⟨ct_X1_drawByParts_0, List.forall_mem_cons.mpr ⟨ct_X1_drawByParts_1, List.forall_mem_cons.mpr ⟨ct_X1_drawByParts_2, List.forall_mem_cons.mpr ⟨ct_X1_drawByParts_3, fun _ h => absurd h List.not_mem_nil⟩⟩⟩⟩
def cs_X1_drawFromLast : List na_C := [cc_X1_drawFromLast_0, cc_X1_drawFromLast_1, cc_X1_drawFromLast_2, cc_X1_drawFromLast_3]
theorem csok_X1_drawFromLast : ∀ c ∈ cs_X1_drawFromLast, na_Ct gC ev_X1_drawFromLast c := List.forall_mem_cons.mpr ⟨ct_X1_drawFromLast_0, List.forall_mem_cons.mpr ⟨ct_X1_drawFromLast_1, List.forall_mem_cons.mpr ⟨ct_X1_drawFromLast_2, List.forall_mem_cons.mpr ⟨ct_X1_drawFromLast_3, fun _ h => absurd h List.not_mem_nil⟩⟩⟩⟩
def cs_X1_dropEmpty : List na_C := [cc_X1_dropEmpty_0, cc_X1_dropEmpty_1, cc_X1_dropEmpty_2, cc_X1_dropEmpty_3]
theorem csok_X1_dropEmpty : ∀ c ∈ cs_X1_dropEmpty, na_Ct gC ev_X1_dropEmpty c := List.forall_mem_cons.mpr ⟨ct_X1_dropEmpty_0, List.forall_mem_cons.mpr ⟨ct_X1_dropEmpty_1, List.forall_mem_cons.mpr ⟨ct_X1_dropEmpty_2, List.forall_mem_cons.mpr ⟨ct_X1_dropEmpty_3, fun _ h => absurd h List.not_mem_nil⟩⟩⟩⟩
def md_X5_draw : na_Md := (kx_X5_draw, kc_X5_draw, 6, [(338, .inl 59), (1088, .inr (.inl cs_X1_total)), (368, .inl 60), (1100, .inr (.inl cs_X1_drawFromFirst)), (1112, .inr (.inl cs_X1_drawByParts)), (1124, .inr (.inl cs_X1_drawFromLast)), (1136, .inr (.inl cs_X1_dropEmpty))])
theorem rk_X5_draw {ms : List (Nat × na_Md)} {pk : List Nat} (h_X5_within : nk_lk ms 59 = some md_X5_within) (h_X5_found : nk_lk ms 60 = some md_X5_found) : ∀ e ∈ md_X5_draw.2.2.2, na_rk (gC, ms, pk) md_X5_draw e := List.forall_mem_cons.mpr ⟨na_rk_i rfl rfl rfl h_X5_within rfl, List.forall_mem_cons.mpr ⟨na_rk_c rfl rfl rfl csok_X1_total, List.forall_mem_cons.mpr ⟨na_rk_i rfl rfl rfl h_X5_found rfl, List.forall_mem_cons.mpr ⟨na_rk_c rfl rfl rfl csok_X1_drawFromFirst, List.forall_mem_cons.mpr ⟨na_rk_c rfl rfl rfl csok_X1_drawByParts, List.forall_mem_cons.mpr ⟨na_rk_c rfl rfl rfl csok_X1_drawFromLast, List.forall_mem_cons.mpr ⟨na_rk_c rfl rfl rfl csok_X1_dropEmpty, fun _ h => absurd h List.not_mem_nil⟩⟩⟩⟩⟩⟩⟩
def cc_X5_draw_0 : na_C := ([.inr (.inr (.inr (.inr 0))), .inr (.inr (.inl (-2147483648, 2147483647, false))), .inr (.inr (.inl (-2147483648, 2147483647, false))), .inr (.inr (.inl (-2147483648, 2147483647, false))), .inr (.inr (.inl (-2147483648, 2147483647, false)))], ([], []), 0, [(0, -2147483648, 2147483647), (26, 0, 20), (27, 0, 20), (28, 0, 20), (29, 0, 20)], [28, 50, 51, 53, 54, 56, 57, 59, 60], 1, (-3, 20), (0, 0))
def hd_X5_draw_0 : List na_Hd := []
set_option maxRecDepth 1000000 in
theorem ct_X5_draw_0 : na_Ct gC ev_X5_draw cc_X5_draw_0 := na_chk_ok (cf := (gC, [(110, md_X5_draw), (59, md_X5_within), (60, md_X5_found)], [])) ke_C (na_rok_mk (List.forall_mem_cons.mpr ⟨rk_X5_draw rfl rfl, List.forall_mem_cons.mpr ⟨rk_X5_within, List.forall_mem_cons.mpr ⟨rk_X5_found, fun _ h => absurd h List.not_mem_nil⟩⟩⟩)) ndk_C ln_C mo_C pk_C (m := md_X5_draw) (mi := 110) (fu := 3000) (sp := []) (hd := hd_X5_draw_0) (mu := 1) rfl (nf_chk_ok (by decide +kernel))
def cs_X1_amountOf : List na_C := [cc_X1_amountOf_0, cc_X1_amountOf_1, cc_X1_amountOf_2, cc_X1_amountOf_3]
theorem csok_X1_amountOf : ∀ c ∈ cs_X1_amountOf, na_Ct gC ev_X1_amountOf c := List.forall_mem_cons.mpr ⟨ct_X1_amountOf_0, List.forall_mem_cons.mpr ⟨ct_X1_amountOf_1, List.forall_mem_cons.mpr ⟨ct_X1_amountOf_2, List.forall_mem_cons.mpr ⟨ct_X1_amountOf_3, fun _ h => absurd h List.not_mem_nil⟩⟩⟩⟩
def md_X5_left : na_Md := (kx_X5_left, kc_X5_left, 3, [(338, .inl 59), (1088, .inr (.inl cs_X1_total)), (1148, .inr (.inl cs_X1_amountOf))])
theorem rk_X5_left {ms : List (Nat × na_Md)} {pk : List Nat} (h_X5_within : nk_lk ms 59 = some md_X5_within) : ∀ e ∈ md_X5_left.2.2.2, na_rk (gC, ms, pk) md_X5_left e := List.forall_mem_cons.mpr ⟨na_rk_i rfl rfl rfl h_X5_within rfl, List.forall_mem_cons.mpr ⟨na_rk_c rfl rfl rfl csok_X1_total, List.forall_mem_cons.mpr ⟨na_rk_c rfl rfl rfl csok_X1_amountOf, fun _ h => absurd h List.not_mem_nil⟩⟩⟩
def cc_X5_left_0 : na_C := ([.inr (.inr (.inr (.inr 0))), .inr (.inr (.inl (-2147483648, 2147483647, false))), .inr (.inr (.inl (-2147483648, 2147483647, false)))], ([], []), 0, [(1, -2147483648, 2147483647)], [], 1, (-2147483648, 2147483647), (0, 0))
def hd_X5_left_0 : List na_Hd := []
set_option maxRecDepth 1000000 in
theorem ct_X5_left_0 : na_Ct gC ev_X5_left cc_X5_left_0 := na_chk_ok (cf := (gC, [(111, md_X5_left), (59, md_X5_within)], [])) ke_C (na_rok_mk (List.forall_mem_cons.mpr ⟨rk_X5_left rfl, List.forall_mem_cons.mpr ⟨rk_X5_within, fun _ h => absurd h List.not_mem_nil⟩⟩)) ndk_C ln_C mo_C pk_C (m := md_X5_left) (mi := 111) (fu := 3000) (sp := []) (hd := hd_X5_left_0) (mu := 1) rfl (nf_chk_ok (by decide +kernel))
def md_X5_layer : na_Md := (kx_X5_layer, kc_X5_layer, 3, [(338, .inl 59), (368, .inl 60), (1160, .inl 32)])
theorem rk_X5_layer {ms : List (Nat × na_Md)} {pk : List Nat} (h_X5_within : nk_lk ms 59 = some md_X5_within) (h_X5_found : nk_lk ms 60 = some md_X5_found) (h_X1_asNumber : nk_lk ms 32 = some md_X1_asNumber) : ∀ e ∈ md_X5_layer.2.2.2, na_rk (gC, ms, pk) md_X5_layer e := List.forall_mem_cons.mpr ⟨na_rk_i rfl rfl rfl h_X5_within rfl, List.forall_mem_cons.mpr ⟨na_rk_i rfl rfl rfl h_X5_found rfl, List.forall_mem_cons.mpr ⟨na_rk_i rfl rfl rfl h_X1_asNumber rfl, fun _ h => absurd h List.not_mem_nil⟩⟩⟩
def cc_X5_layer_0 : na_C := ([.inr (.inr (.inr (.inr 0))), .inr (.inr (.inl (-2147483648, 2147483647, false))), .inr (.inr (.inl (-2147483648, 2147483647, false)))], ([], []), 0, [(0, -2147483648, 2147483647)], [28], 1, (-2147483648, 2147483647), (0, 0))
def hd_X5_layer_0 : List na_Hd := []
set_option maxRecDepth 1000000 in
theorem ct_X5_layer_0 : na_Ct gC ev_X5_layer cc_X5_layer_0 := na_chk_ok (cf := (gC, [(112, md_X5_layer), (59, md_X5_within), (60, md_X5_found), (32, md_X1_asNumber)], [])) ke_C (na_rok_mk (List.forall_mem_cons.mpr ⟨rk_X5_layer rfl rfl rfl, List.forall_mem_cons.mpr ⟨rk_X5_within, List.forall_mem_cons.mpr ⟨rk_X5_found, List.forall_mem_cons.mpr ⟨rk_X1_asNumber, fun _ h => absurd h List.not_mem_nil⟩⟩⟩⟩)) ndk_C ln_C mo_C pk_C (m := md_X5_layer) (mi := 112) (fu := 3000) (sp := []) (hd := hd_X5_layer_0) (mu := 1) rfl (nf_chk_ok (by decide +kernel))
def md_X5_asked : na_Md := (kx_X5_asked, kc_X5_asked, 1, [])
theorem rk_X5_asked {ms : List (Nat × na_Md)} {pk : List Nat}  : ∀ e ∈ md_X5_asked.2.2.2, na_rk (gC, ms, pk) md_X5_asked e := fun _ h => absurd h List.not_mem_nil
def cc_X5_asked_0 : na_C := ([.inr (.inr (.inr (.inr 0)))], ([], []), 0, [], [], 1, (-2147483648, 2147483647), (0, 0))
def hd_X5_asked_0 : List na_Hd := []
set_option maxRecDepth 1000000 in
theorem ct_X5_asked_0 : na_Ct gC ev_X5_asked cc_X5_asked_0 := na_chk_ok (cf := (gC, [(113, md_X5_asked)], [])) ke_C (na_rok_mk (List.forall_mem_cons.mpr ⟨rk_X5_asked, fun _ h => absurd h List.not_mem_nil⟩)) ndk_C ln_C mo_C pk_C (m := md_X5_asked) (mi := 113) (fu := 3000) (sp := []) (hd := hd_X5_asked_0) (mu := 1) rfl (nf_chk_ok (by decide +kernel))
def md_X5_upper : na_Md := (kx_X5_upper, kc_X5_upper, 1, [])
theorem rk_X5_upper {ms : List (Nat × na_Md)} {pk : List Nat}  : ∀ e ∈ md_X5_upper.2.2.2, na_rk (gC, ms, pk) md_X5_upper e := fun _ h => absurd h List.not_mem_nil
def cc_X5_upper_0 : na_C := ([.inr (.inr (.inr (.inr 0)))], ([], []), 0, [], [], 2, (0, 0), (0, 0))
def hd_X5_upper_0 : List na_Hd := []
set_option maxRecDepth 1000000 in
theorem ct_X5_upper_0 : na_Ct gC ev_X5_upper cc_X5_upper_0 := na_chk_ok (cf := (gC, [(114, md_X5_upper)], [])) ke_C (na_rok_mk (List.forall_mem_cons.mpr ⟨rk_X5_upper, fun _ h => absurd h List.not_mem_nil⟩)) ndk_C ln_C mo_C pk_C (m := md_X5_upper) (mi := 114) (fu := 3000) (sp := []) (hd := hd_X5_upper_0) (mu := 1) rfl (nf_chk_ok (by decide +kernel))
def md_X5_lower : na_Md := (kx_X5_lower, kc_X5_lower, 1, [])
theorem rk_X5_lower {ms : List (Nat × na_Md)} {pk : List Nat}  : ∀ e ∈ md_X5_lower.2.2.2, na_rk (gC, ms, pk) md_X5_lower e := fun _ h => absurd h List.not_mem_nil
def cc_X5_lower_0 : na_C := ([.inr (.inr (.inr (.inr 0)))], ([], []), 0, [], [], 2, (0, 0), (0, 0))
def hd_X5_lower_0 : List na_Hd := []
set_option maxRecDepth 1000000 in
theorem ct_X5_lower_0 : na_Ct gC ev_X5_lower cc_X5_lower_0 := na_chk_ok (cf := (gC, [(115, md_X5_lower)], [])) ke_C (na_rok_mk (List.forall_mem_cons.mpr ⟨rk_X5_lower, fun _ h => absurd h List.not_mem_nil⟩)) ndk_C ln_C mo_C pk_C (m := md_X5_lower) (mi := 115) (fu := 3000) (sp := []) (hd := hd_X5_lower_0) (mu := 1) rfl (nf_chk_ok (by decide +kernel))
def cs_X5_counted : List na_C := [cc_X5_counted_0]
theorem csok_X5_counted : ∀ c ∈ cs_X5_counted, na_Ct gC ev_X5_counted c := List.forall_mem_cons.mpr ⟨ct_X5_counted_0, fun _ h => absurd h List.not_mem_nil⟩
def md_X5_count : na_Md := (kx_X5_count, kc_X5_count, 2, [(338, .inl 59), (1172, .inr (.inl cs_X5_counted))])
theorem rk_X5_count {ms : List (Nat × na_Md)} {pk : List Nat} (h_X5_within : nk_lk ms 59 = some md_X5_within) : ∀ e ∈ md_X5_count.2.2.2, na_rk (gC, ms, pk) md_X5_count e := List.forall_mem_cons.mpr ⟨na_rk_i rfl rfl rfl h_X5_within rfl, List.forall_mem_cons.mpr ⟨na_rk_c rfl rfl rfl csok_X5_counted, fun _ h => absurd h List.not_mem_nil⟩⟩
def cc_X5_count_0 : na_C := ([.inr (.inr (.inr (.inr 0))), .inr (.inr (.inl (-2147483648, 2147483647, false)))], ([], []), 0, [], [], 1, (-1, 80), (0, 0))
def hd_X5_count_0 : List na_Hd := []
set_option maxRecDepth 1000000 in
theorem ct_X5_count_0 : na_Ct gC ev_X5_count cc_X5_count_0 := na_chk_ok (cf := (gC, [(118, md_X5_count), (59, md_X5_within)], [])) ke_C (na_rok_mk (List.forall_mem_cons.mpr ⟨rk_X5_count rfl, List.forall_mem_cons.mpr ⟨rk_X5_within, fun _ h => absurd h List.not_mem_nil⟩⟩)) ndk_C ln_C mo_C pk_C (m := md_X5_count) (mi := 118) (fu := 3000) (sp := []) (hd := hd_X5_count_0) (mu := 1) rfl (nf_chk_ok (by decide +kernel))
def md_X5_finding : na_Md := (kx_X5_finding, kc_X5_finding, 1, [])
theorem rk_X5_finding {ms : List (Nat × na_Md)} {pk : List Nat}  : ∀ e ∈ md_X5_finding.2.2.2, na_rk (gC, ms, pk) md_X5_finding e := fun _ h => absurd h List.not_mem_nil
def cc_X5_finding_0 : na_C := ([.inr (.inr (.inr (.inr 0)))], ([], []), 0, [], [], 1, (-2147483648, 2147483647), (0, 0))
def hd_X5_finding_0 : List na_Hd := []
set_option maxRecDepth 1000000 in
theorem ct_X5_finding_0 : na_Ct gC ev_X5_finding cc_X5_finding_0 := na_chk_ok (cf := (gC, [(119, md_X5_finding)], [])) ke_C (na_rok_mk (List.forall_mem_cons.mpr ⟨rk_X5_finding, fun _ h => absurd h List.not_mem_nil⟩)) ndk_C ln_C mo_C pk_C (m := md_X5_finding) (mi := 119) (fu := 3000) (sp := []) (hd := hd_X5_finding_0) (mu := 1) rfl (nf_chk_ok (by decide +kernel))
def md_X5_findings : na_Md := (kx_X5_findings, kc_X5_findings, 2, [])
theorem rk_X5_findings {ms : List (Nat × na_Md)} {pk : List Nat}  : ∀ e ∈ md_X5_findings.2.2.2, na_rk (gC, ms, pk) md_X5_findings e := fun _ h => absurd h List.not_mem_nil
def cc_X5_findings_0 : na_C := ([.inr (.inr (.inr (.inr 0))), .inr (.inr (.inl (-2147483648, 2147483647, false)))], ([], []), 0, [], [], 1, (-2147483648, 2147483647), (0, 0))
def hd_X5_findings_0 : List na_Hd := []
set_option maxRecDepth 1000000 in
theorem ct_X5_findings_0 : na_Ct gC ev_X5_findings cc_X5_findings_0 := na_chk_ok (cf := (gC, [(120, md_X5_findings)], [])) ke_C (na_rok_mk (List.forall_mem_cons.mpr ⟨rk_X5_findings, fun _ h => absurd h List.not_mem_nil⟩)) ndk_C ln_C mo_C pk_C (m := md_X5_findings) (mi := 120) (fu := 3000) (sp := []) (hd := hd_X5_findings_0) (mu := 1) rfl (nf_chk_ok (by decide +kernel))
def cs_X4_addTo : List na_C := [cc_X4_addTo_0]
theorem csok_X4_addTo : ∀ c ∈ cs_X4_addTo, na_Ct gC ev_X4_addTo c := List.forall_mem_cons.mpr ⟨ct_X4_addTo_0, fun _ h => absurd h List.not_mem_nil⟩
def cs_X1_addTo : List na_C := [cc_X1_addTo_0, cc_X1_addTo_1, cc_X1_addTo_2, cc_X1_addTo_3]
theorem csok_X1_addTo : ∀ c ∈ cs_X1_addTo, na_Ct gC ev_X1_addTo c := List.forall_mem_cons.mpr ⟨ct_X1_addTo_0, List.forall_mem_cons.mpr ⟨ct_X1_addTo_1, List.forall_mem_cons.mpr ⟨ct_X1_addTo_2, List.forall_mem_cons.mpr ⟨ct_X1_addTo_3, fun _ h => absurd h List.not_mem_nil⟩⟩⟩⟩
def cs_X3_addTo : List na_C := [cc_X3_addTo_0, cc_X3_addTo_1, cc_X3_addTo_2, cc_X3_addTo_3, cc_X3_addTo_4, cc_X3_addTo_5, cc_X3_addTo_6, cc_X3_addTo_7, cc_X3_addTo_8, cc_X3_addTo_9]
theorem csok_X3_addTo : ∀ c ∈ cs_X3_addTo, na_Ct gC ev_X3_addTo c := List.forall_mem_cons.mpr ⟨ct_X3_addTo_0, List.forall_mem_cons.mpr ⟨ct_X3_addTo_1, List.forall_mem_cons.mpr ⟨ct_X3_addTo_2, List.forall_mem_cons.mpr ⟨ct_X3_addTo_3, List.forall_mem_cons.mpr ⟨ct_X3_addTo_4, List.forall_mem_cons.mpr ⟨ct_X3_addTo_5, List.forall_mem_cons.mpr ⟨ct_X3_addTo_6, List.forall_mem_cons.mpr ⟨ct_X3_addTo_7, List.forall_mem_cons.mpr ⟨ct_X3_addTo_8, List.forall_mem_cons.mpr ⟨ct_X3_addTo_9, fun _ h => absurd h List.not_mem_nil⟩⟩⟩⟩⟩⟩⟩⟩⟩⟩
def md_X5_digest : na_Md := (kx_X5_digest, kc_X5_digest, 4, [(1172, .inr (.inl cs_X5_counted)), (1200, .inr (.inl cs_X4_addTo)), (1216, .inr (.inl cs_X1_addTo)), (1220, .inr (.inl cs_X3_addTo))])
theorem rk_X5_digest {ms : List (Nat × na_Md)} {pk : List Nat}  : ∀ e ∈ md_X5_digest.2.2.2, na_rk (gC, ms, pk) md_X5_digest e := List.forall_mem_cons.mpr ⟨na_rk_c rfl rfl rfl csok_X5_counted, List.forall_mem_cons.mpr ⟨na_rk_c rfl rfl rfl csok_X4_addTo, List.forall_mem_cons.mpr ⟨na_rk_c rfl rfl rfl csok_X1_addTo, List.forall_mem_cons.mpr ⟨na_rk_c rfl rfl rfl csok_X3_addTo, fun _ h => absurd h List.not_mem_nil⟩⟩⟩⟩
def cc_X5_digest_0 : na_C := ([.inr (.inr (.inr (.inr 0)))], ([], []), 0, [], [], 2, (0, 0), (0, 0))
def hd_X5_digest_0 : List na_Hd := [(6, [3], [(1000, 30, [some (.inr (.inr (.inr (.inr 0)))), some (.inr (.inr (.inr (.inl false)))), none, some (.inl 0)], [], [], [], 0, []),
  (1001, 29, [some (.inr (.inr (.inr (.inr 0)))), some (.inr (.inr (.inr (.inl false)))), none, some (.inl 1)], [], [], [], 0, []),
  (1002, 28, [some (.inr (.inr (.inr (.inr 0)))), some (.inr (.inr (.inr (.inl false)))), none, some (.inl 2)], [], [], [], 0, []),
  (1003, 27, [some (.inr (.inr (.inr (.inr 0)))), some (.inr (.inr (.inr (.inl false)))), none, some (.inl 3)], [], [], [], 0, []),
  (1004, 26, [some (.inr (.inr (.inr (.inr 0)))), some (.inr (.inr (.inr (.inl false)))), none, some (.inl 4)], [], [], [], 0, []),
  (1005, 25, [some (.inr (.inr (.inr (.inr 0)))), some (.inr (.inr (.inr (.inl false)))), none, some (.inl 5)], [], [], [], 0, []),
  (1006, 24, [some (.inr (.inr (.inr (.inr 0)))), some (.inr (.inr (.inr (.inl false)))), none, some (.inl 6)], [], [], [], 0, []),
  (1007, 23, [some (.inr (.inr (.inr (.inr 0)))), some (.inr (.inr (.inr (.inl false)))), none, some (.inl 7)], [], [], [], 0, [])]), (42, [3], [(1000, 22, [some (.inr (.inr (.inr (.inr 0)))), some (.inr (.inr (.inr (.inl false)))), none, some (.inl 0)], [], [], [], 0, []),
  (1001, 21, [some (.inr (.inr (.inr (.inr 0)))), some (.inr (.inr (.inr (.inl false)))), none, some (.inl 1)], [], [], [], 0, []),
  (1002, 20, [some (.inr (.inr (.inr (.inr 0)))), some (.inr (.inr (.inr (.inl false)))), none, some (.inl 2)], [], [], [], 0, []),
  (1003, 19, [some (.inr (.inr (.inr (.inr 0)))), some (.inr (.inr (.inr (.inl false)))), none, some (.inl 3)], [], [], [], 0, []),
  (1004, 18, [some (.inr (.inr (.inr (.inr 0)))), some (.inr (.inr (.inr (.inl false)))), none, some (.inl 4)], [], [], [], 0, [])]), (69, [3], [(1000, 17, [some (.inr (.inr (.inr (.inr 0)))), some (.inr (.inr (.inr (.inl false)))), none, some (.inl 0)], [], [], [], 0, []),
  (1001, 16, [some (.inr (.inr (.inr (.inr 0)))), some (.inr (.inr (.inr (.inl false)))), none, some (.inl 1)], [], [], [], 0, []),
  (1002, 15, [some (.inr (.inr (.inr (.inr 0)))), some (.inr (.inr (.inr (.inl false)))), none, some (.inl 2)], [], [], [], 0, []),
  (1003, 14, [some (.inr (.inr (.inr (.inr 0)))), some (.inr (.inr (.inr (.inl false)))), none, some (.inl 3)], [], [], [], 0, []),
  (1004, 13, [some (.inr (.inr (.inr (.inr 0)))), some (.inr (.inr (.inr (.inl false)))), none, some (.inl 4)], [], [], [], 0, [])]), (93, [3], [(1000, 12, [some (.inr (.inr (.inr (.inr 0)))), some (.inr (.inr (.inr (.inl false)))), none, some (.inl 0)], [], [], [], 0, []),
  (1001, 11, [some (.inr (.inr (.inr (.inr 0)))), some (.inr (.inr (.inr (.inl false)))), none, some (.inl 1)], [], [], [], 0, []),
  (1002, 10, [some (.inr (.inr (.inr (.inr 0)))), some (.inr (.inr (.inr (.inl false)))), none, some (.inl 2)], [], [], [], 0, []),
  (1003, 9, [some (.inr (.inr (.inr (.inr 0)))), some (.inr (.inr (.inr (.inl false)))), none, some (.inl 3)], [], [], [], 0, []),
  (1004, 8, [some (.inr (.inr (.inr (.inr 0)))), some (.inr (.inr (.inr (.inl false)))), none, some (.inl 4)], [], [], [], 0, []),
  (1005, 7, [some (.inr (.inr (.inr (.inr 0)))), some (.inr (.inr (.inr (.inl false)))), none, some (.inl 5)], [], [], [], 0, []),
  (1006, 6, [some (.inr (.inr (.inr (.inr 0)))), some (.inr (.inr (.inr (.inl false)))), none, some (.inl 6)], [], [], [], 0, [])]), (118, [3], [(1000, 5, [some (.inr (.inr (.inr (.inr 0)))), some (.inr (.inr (.inr (.inl false)))), none, some (.inl 0)], [], [], [], 0, []),
  (1001, 4, [some (.inr (.inr (.inr (.inr 0)))), some (.inr (.inr (.inr (.inl false)))), none, some (.inl 1)], [], [], [], 0, []),
  (1002, 3, [some (.inr (.inr (.inr (.inr 0)))), some (.inr (.inr (.inr (.inl false)))), none, some (.inl 2)], [], [], [], 0, []),
  (1003, 2, [some (.inr (.inr (.inr (.inr 0)))), some (.inr (.inr (.inr (.inl false)))), none, some (.inl 3)], [], [], [], 0, []),
  (1004, 1, [some (.inr (.inr (.inr (.inr 0)))), some (.inr (.inr (.inr (.inl false)))), none, some (.inl 4)], [], [], [], 0, [])])]
set_option maxRecDepth 1000000 in
theorem ct_X5_digest_0 : na_Ct gC ev_X5_digest cc_X5_digest_0 := na_chk_ok (cf := (gC, [(121, md_X5_digest)], [])) ke_C (na_rok_mk (List.forall_mem_cons.mpr ⟨rk_X5_digest, fun _ h => absurd h List.not_mem_nil⟩)) ndk_C ln_C mo_C pk_C (m := md_X5_digest) (mi := 121) (fu := 3000) (sp := []) (hd := hd_X5_digest_0) (mu := 31) rfl (nf_chk_ok (by decide +kernel))
