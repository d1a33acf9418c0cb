def md_X1_dropEmpty : na_Md := (kx_X1_dropEmpty, kc_X1_dropEmpty, 3, [])
theorem rk_X1_dropEmpty {ms : List (Nat × na_Md)} {pk : List Nat}  : ∀ e ∈ md_X1_dropEmpty.2.2.2, na_rk (gC, ms, pk) md_X1_dropEmpty e := fun _ h => absurd h List.not_mem_nil
def cc_X1_dropEmpty_0 : na_C := ([.inr (.inr (.inr (.inr 49)))], ([], []), 0, [(26, 0, 20)], [50, 51], 0, (0, 0), (0, 0))
def hd_X1_dropEmpty_0 : List na_Hd := [(4, [2], [(1000, 21, [some (.inr (.inr (.inr (.inr 49)))), some (.inl 0), some (.inl 0)], [], [], [], 0, []),
  (1001, 20, [some (.inr (.inr (.inr (.inr 49)))), some (.inr (.inr (.inl (0, 1, false)))), some (.inl 1)], [], [50, 51], [(26, 1, 20)], 0, []),
  (1002, 19, [some (.inr (.inr (.inr (.inr 49)))), some (.inr (.inr (.inl (0, 2, false)))), some (.inl 2)], [], [50, 51], [(26, 2, 20)], 0, []),
  (1003, 18, [some (.inr (.inr (.inr (.inr 49)))), some (.inr (.inr (.inl (0, 3, false)))), some (.inl 3)], [], [50, 51], [(26, 3, 20)], 0, []),
  (1004, 17, [some (.inr (.inr (.inr (.inr 49)))), some (.inr (.inr (.inl (0, 4, false)))), some (.inl 4)], [], [50, 51], [(26, 4, 20)], 0, []),
  (1005, 16, [some (.inr (.inr (.inr (.inr 49)))), some (.inr (.inr (.inl (0, 5, false)))), some (.inl 5)], [], [50, 51], [(26, 5, 20)], 0, []),
  (1006, 15, [some (.inr (.inr (.inr (.inr 49)))), some (.inr (.inr (.inl (0, 6, false)))), some (.inl 6)], [], [50, 51], [(26, 6, 20)], 0, []),
  (1007, 14, [some (.inr (.inr (.inr (.inr 49)))), some (.inr (.inr (.inl (0, 7, false)))), some (.inl 7)], [], [50, 51], [(26, 7, 20)], 0, []),
  (1008, 13, [some (.inr (.inr (.inr (.inr 49)))), some (.inr (.inr (.inl (0, 8, false)))), some (.inl 8)], [], [50, 51], [(26, 8, 20)], 0, []),
  (1009, 12, [some (.inr (.inr (.inr (.inr 49)))), some (.inr (.inr (.inl (0, 9, false)))), some (.inl 9)], [], [50, 51], [(26, 9, 20)], 0, []),
  (1010, 11, [some (.inr (.inr (.inr (.inr 49)))), some (.inr (.inr (.inl (0, 10, false)))), some (.inl 10)], [], [50, 51], [(26, 10, 20)], 0, []),
  (1011, 10, [some (.inr (.inr (.inr (.inr 49)))), some (.inr (.inr (.inl (0, 11, false)))), some (.inl 11)], [], [50, 51], [(26, 11, 20)], 0, []),
  (1012, 9, [some (.inr (.inr (.inr (.inr 49)))), some (.inr (.inr (.inl (0, 12, false)))), some (.inl 12)], [], [50, 51], [(26, 12, 20)], 0, []),
  (1013, 8, [some (.inr (.inr (.inr (.inr 49)))), some (.inr (.inr (.inl (0, 13, false)))), some (.inl 13)], [], [50, 51], [(26, 13, 20)], 0, []),
  (1014, 7, [some (.inr (.inr (.inr (.inr 49)))), some (.inr (.inr (.inl (0, 14, false)))), some (.inl 14)], [], [50, 51], [(26, 14, 20)], 0, []),
  (1015, 6, [some (.inr (.inr (.inr (.inr 49)))), some (.inr (.inr (.inl (0, 15, false)))), some (.inl 15)], [], [50, 51], [(26, 15, 20)], 0, []),
  (1016, 5, [some (.inr (.inr (.inr (.inr 49)))), some (.inr (.inr (.inl (0, 16, false)))), some (.inl 16)], [], [50, 51], [(26, 16, 20)], 0, []),
  (1017, 4, [some (.inr (.inr (.inr (.inr 49)))), some (.inr (.inr (.inl (0, 17, false)))), some (.inl 17)], [], [50, 51], [(26, 17, 20)], 0, []),
  (1018, 3, [some (.inr (.inr (.inr (.inr 49)))), some (.inr (.inr (.inl (0, 18, false)))), some (.inl 18)], [], [50, 51], [(26, 18, 20)], 0, []),
  (1019, 2, [some (.inr (.inr (.inr (.inr 49)))), some (.inr (.inr (.inl (0, 19, false)))), some (.inl 19)], [], [50, 51], [(26, 19, 20)], 0, []),
  (1020, 1, [some (.inr (.inr (.inr (.inr 49)))), some (.inr (.inr (.inl (0, 20, false)))), some (.inl 20)], [], [50, 51], [(26, 20, 20)], 0, [])])]
set_option maxRecDepth 1000000 in
theorem ct_X1_dropEmpty_0 : na_Ct gC ev_X1_dropEmpty cc_X1_dropEmpty_0 := na_chk_ok (cf := (gC, [(38, md_X1_dropEmpty)], [])) ke_C (na_rok_mk (List.forall_mem_cons.mpr ⟨rk_X1_dropEmpty, fun _ h => absurd h List.not_mem_nil⟩)) ndk_C ln_C mo_C pk_C (m := md_X1_dropEmpty) (mi := 38) (fu := 3000) (sp := []) (hd := hd_X1_dropEmpty_0) (mu := 22) rfl (nf_chk_ok (by decide +kernel))
def cc_X1_dropEmpty_1 : na_C := ([.inr (.inr (.inr (.inr 52)))], ([], []), 0, [(27, 0, 20)], [53, 54], 0, (0, 0), (0, 0))
def hd_X1_dropEmpty_1 : List na_Hd := [(4, [2], [(1000, 21, [some (.inr (.inr (.inr (.inr 52)))), some (.inl 0), some (.inl 0)], [], [], [], 0, []),
  (1001, 20, [some (.inr (.inr (.inr (.inr 52)))), some (.inr (.inr (.inl (0, 1, false)))), some (.inl 1)], [], [53, 54], [(27, 1, 20)], 0, []),
  (1002, 19, [some (.inr (.inr (.inr (.inr 52)))), some (.inr (.inr (.inl (0, 2, false)))), some (.inl 2)], [], [53, 54], [(27, 2, 20)], 0, []),
  (1003, 18, [some (.inr (.inr (.inr (.inr 52)))), some (.inr (.inr (.inl (0, 3, false)))), some (.inl 3)], [], [53, 54], [(27, 3, 20)], 0, []),
  (1004, 17, [some (.inr (.inr (.inr (.inr 52)))), some (.inr (.inr (.inl (0, 4, false)))), some (.inl 4)], [], [53, 54], [(27, 4, 20)], 0, []),
  (1005, 16, [some (.inr (.inr (.inr (.inr 52)))), some (.inr (.inr (.inl (0, 5, false)))), some (.inl 5)], [], [53, 54], [(27, 5, 20)], 0, []),
  (1006, 15, [some (.inr (.inr (.inr (.inr 52)))), some (.inr (.inr (.inl (0, 6, false)))), some (.inl 6)], [], [53, 54], [(27, 6, 20)], 0, []),
  (1007, 14, [some (.inr (.inr (.inr (.inr 52)))), some (.inr (.inr (.inl (0, 7, false)))), some (.inl 7)], [], [53, 54], [(27, 7, 20)], 0, []),
  (1008, 13, [some (.inr (.inr (.inr (.inr 52)))), some (.inr (.inr (.inl (0, 8, false)))), some (.inl 8)], [], [53, 54], [(27, 8, 20)], 0, []),
  (1009, 12, [some (.inr (.inr (.inr (.inr 52)))), some (.inr (.inr (.inl (0, 9, false)))), some (.inl 9)], [], [53, 54], [(27, 9, 20)], 0, []),
  (1010, 11, [some (.inr (.inr (.inr (.inr 52)))), some (.inr (.inr (.inl (0, 10, false)))), some (.inl 10)], [], [53, 54], [(27, 10, 20)], 0, []),
  (1011, 10, [some (.inr (.inr (.inr (.inr 52)))), some (.inr (.inr (.inl (0, 11, false)))), some (.inl 11)], [], [53, 54], [(27, 11, 20)], 0, []),
  (1012, 9, [some (.inr (.inr (.inr (.inr 52)))), some (.inr (.inr (.inl (0, 12, false)))), some (.inl 12)], [], [53, 54], [(27, 12, 20)], 0, []),
  (1013, 8, [some (.inr (.inr (.inr (.inr 52)))), some (.inr (.inr (.inl (0, 13, false)))), some (.inl 13)], [], [53, 54], [(27, 13, 20)], 0, []),
  (1014, 7, [some (.inr (.inr (.inr (.inr 52)))), some (.inr (.inr (.inl (0, 14, false)))), some (.inl 14)], [], [53, 54], [(27, 14, 20)], 0, []),
  (1015, 6, [some (.inr (.inr (.inr (.inr 52)))), some (.inr (.inr (.inl (0, 15, false)))), some (.inl 15)], [], [53, 54], [(27, 15, 20)], 0, []),
  (1016, 5, [some (.inr (.inr (.inr (.inr 52)))), some (.inr (.inr (.inl (0, 16, false)))), some (.inl 16)], [], [53, 54], [(27, 16, 20)], 0, []),
  (1017, 4, [some (.inr (.inr (.inr (.inr 52)))), some (.inr (.inr (.inl (0, 17, false)))), some (.inl 17)], [], [53, 54], [(27, 17, 20)], 0, []),
  (1018, 3, [some (.inr (.inr (.inr (.inr 52)))), some (.inr (.inr (.inl (0, 18, false)))), some (.inl 18)], [], [53, 54], [(27, 18, 20)], 0, []),
  (1019, 2, [some (.inr (.inr (.inr (.inr 52)))), some (.inr (.inr (.inl (0, 19, false)))), some (.inl 19)], [], [53, 54], [(27, 19, 20)], 0, []),
  (1020, 1, [some (.inr (.inr (.inr (.inr 52)))), some (.inr (.inr (.inl (0, 20, false)))), some (.inl 20)], [], [53, 54], [(27, 20, 20)], 0, [])])]
set_option maxRecDepth 1000000 in
theorem ct_X1_dropEmpty_1 : na_Ct gC ev_X1_dropEmpty cc_X1_dropEmpty_1 := na_chk_ok (cf := (gC, [(38, md_X1_dropEmpty)], [])) ke_C (na_rok_mk (List.forall_mem_cons.mpr ⟨rk_X1_dropEmpty, fun _ h => absurd h List.not_mem_nil⟩)) ndk_C ln_C mo_C pk_C (m := md_X1_dropEmpty) (mi := 38) (fu := 3000) (sp := []) (hd := hd_X1_dropEmpty_1) (mu := 22) rfl (nf_chk_ok (by decide +kernel))
def cc_X1_dropEmpty_2 : na_C := ([.inr (.inr (.inr (.inr 55)))], ([], []), 0, [(28, 0, 20)], [56, 57], 0, (0, 0), (0, 0))
def hd_X1_dropEmpty_2 : List na_Hd := [(4, [2], [(1000, 21, [some (.inr (.inr (.inr (.inr 55)))), some (.inl 0), some (.inl 0)], [], [], [], 0, []),
  (1001, 20, [some (.inr (.inr (.inr (.inr 55)))), some (.inr (.inr (.inl (0, 1, false)))), some (.inl 1)], [], [56, 57], [(28, 1, 20)], 0, []),
  (1002, 19, [some (.inr (.inr (.inr (.inr 55)))), some (.inr (.inr (.inl (0, 2, false)))), some (.inl 2)], [], [56, 57], [(28, 2, 20)], 0, []),
  (1003, 18, [some (.inr (.inr (.inr (.inr 55)))), some (.inr (.inr (.inl (0, 3, false)))), some (.inl 3)], [], [56, 57], [(28, 3, 20)], 0, []),
  (1004, 17, [some (.inr (.inr (.inr (.inr 55)))), some (.inr (.inr (.inl (0, 4, false)))), some (.inl 4)], [], [56, 57], [(28, 4, 20)], 0, []),
  (1005, 16, [some (.inr (.inr (.inr (.inr 55)))), some (.inr (.inr (.inl (0, 5, false)))), some (.inl 5)], [], [56, 57], [(28, 5, 20)], 0, []),
  (1006, 15, [some (.inr (.inr (.inr (.inr 55)))), some (.inr (.inr (.inl (0, 6, false)))), some (.inl 6)], [], [56, 57], [(28, 6, 20)], 0, []),
  (1007, 14, [some (.inr (.inr (.inr (.inr 55)))), some (.inr (.inr (.inl (0, 7, false)))), some (.inl 7)], [], [56, 57], [(28, 7, 20)], 0, []),
  (1008, 13, [some (.inr (.inr (.inr (.inr 55)))), some (.inr (.inr (.inl (0, 8, false)))), some (.inl 8)], [], [56, 57], [(28, 8, 20)], 0, []),
  (1009, 12, [some (.inr (.inr (.inr (.inr 55)))), some (.inr (.inr (.inl (0, 9, false)))), some (.inl 9)], [], [56, 57], [(28, 9, 20)], 0, []),
  (1010, 11, [some (.inr (.inr (.inr (.inr 55)))), some (.inr (.inr (.inl (0, 10, false)))), some (.inl 10)], [], [56, 57], [(28, 10, 20)], 0, []),
  (1011, 10, [some (.inr (.inr (.inr (.inr 55)))), some (.inr (.inr (.inl (0, 11, false)))), some (.inl 11)], [], [56, 57], [(28, 11, 20)], 0, []),
  (1012, 9, [some (.inr (.inr (.inr (.inr 55)))), some (.inr (.inr (.inl (0, 12, false)))), some (.inl 12)], [], [56, 57], [(28, 12, 20)], 0, []),
  (1013, 8, [some (.inr (.inr (.inr (.inr 55)))), some (.inr (.inr (.inl (0, 13, false)))), some (.inl 13)], [], [56, 57], [(28, 13, 20)], 0, []),
  (1014, 7, [some (.inr (.inr (.inr (.inr 55)))), some (.inr (.inr (.inl (0, 14, false)))), some (.inl 14)], [], [56, 57], [(28, 14, 20)], 0, []),
  (1015, 6, [some (.inr (.inr (.inr (.inr 55)))), some (.inr (.inr (.inl (0, 15, false)))), some (.inl 15)], [], [56, 57], [(28, 15, 20)], 0, []),
  (1016, 5, [some (.inr (.inr (.inr (.inr 55)))), some (.inr (.inr (.inl (0, 16, false)))), some (.inl 16)], [], [56, 57], [(28, 16, 20)], 0, []),
  (1017, 4, [some (.inr (.inr (.inr (.inr 55)))), some (.inr (.inr (.inl (0, 17, false)))), some (.inl 17)], [], [56, 57], [(28, 17, 20)], 0, []),
  (1018, 3, [some (.inr (.inr (.inr (.inr 55)))), some (.inr (.inr (.inl (0, 18, false)))), some (.inl 18)], [], [56, 57], [(28, 18, 20)], 0, []),
  (1019, 2, [some (.inr (.inr (.inr (.inr 55)))), some (.inr (.inr (.inl (0, 19, false)))), some (.inl 19)], [], [56, 57], [(28, 19, 20)], 0, []),
  (1020, 1, [some (.inr (.inr (.inr (.inr 55)))), some (.inr (.inr (.inl (0, 20, false)))), some (.inl 20)], [], [56, 57], [(28, 20, 20)], 0, [])])]
set_option maxRecDepth 1000000 in
theorem ct_X1_dropEmpty_2 : na_Ct gC ev_X1_dropEmpty cc_X1_dropEmpty_2 := na_chk_ok (cf := (gC, [(38, md_X1_dropEmpty)], [])) ke_C (na_rok_mk (List.forall_mem_cons.mpr ⟨rk_X1_dropEmpty, fun _ h => absurd h List.not_mem_nil⟩)) ndk_C ln_C mo_C pk_C (m := md_X1_dropEmpty) (mi := 38) (fu := 3000) (sp := []) (hd := hd_X1_dropEmpty_2) (mu := 22) rfl (nf_chk_ok (by decide +kernel))
def cc_X1_dropEmpty_3 : na_C := ([.inr (.inr (.inr (.inr 58)))], ([], []), 0, [(29, 0, 20)], [59, 60], 0, (0, 0), (0, 0))
def hd_X1_dropEmpty_3 : List na_Hd := [(4, [2], [(1000, 21, [some (.inr (.inr (.inr (.inr 58)))), some (.inl 0), some (.inl 0)], [], [], [], 0, []),
  (1001, 20, [some (.inr (.inr (.inr (.inr 58)))), some (.inr (.inr (.inl (0, 1, false)))), some (.inl 1)], [], [59, 60], [(29, 1, 20)], 0, []),
  (1002, 19, [some (.inr (.inr (.inr (.inr 58)))), some (.inr (.inr (.inl (0, 2, false)))), some (.inl 2)], [], [59, 60], [(29, 2, 20)], 0, []),
  (1003, 18, [some (.inr (.inr (.inr (.inr 58)))), some (.inr (.inr (.inl (0, 3, false)))), some (.inl 3)], [], [59, 60], [(29, 3, 20)], 0, []),
  (1004, 17, [some (.inr (.inr (.inr (.inr 58)))), some (.inr (.inr (.inl (0, 4, false)))), some (.inl 4)], [], [59, 60], [(29, 4, 20)], 0, []),
  (1005, 16, [some (.inr (.inr (.inr (.inr 58)))), some (.inr (.inr (.inl (0, 5, false)))), some (.inl 5)], [], [59, 60], [(29, 5, 20)], 0, []),
  (1006, 15, [some (.inr (.inr (.inr (.inr 58)))), some (.inr (.inr (.inl (0, 6, false)))), some (.inl 6)], [], [59, 60], [(29, 6, 20)], 0, []),
  (1007, 14, [some (.inr (.inr (.inr (.inr 58)))), some (.inr (.inr (.inl (0, 7, false)))), some (.inl 7)], [], [59, 60], [(29, 7, 20)], 0, []),
  (1008, 13, [some (.inr (.inr (.inr (.inr 58)))), some (.inr (.inr (.inl (0, 8, false)))), some (.inl 8)], [], [59, 60], [(29, 8, 20)], 0, []),
  (1009, 12, [some (.inr (.inr (.inr (.inr 58)))), some (.inr (.inr (.inl (0, 9, false)))), some (.inl 9)], [], [59, 60], [(29, 9, 20)], 0, []),
  (1010, 11, [some (.inr (.inr (.inr (.inr 58)))), some (.inr (.inr (.inl (0, 10, false)))), some (.inl 10)], [], [59, 60], [(29, 10, 20)], 0, []),
  (1011, 10, [some (.inr (.inr (.inr (.inr 58)))), some (.inr (.inr (.inl (0, 11, false)))), some (.inl 11)], [], [59, 60], [(29, 11, 20)], 0, []),
  (1012, 9, [some (.inr (.inr (.inr (.inr 58)))), some (.inr (.inr (.inl (0, 12, false)))), some (.inl 12)], [], [59, 60], [(29, 12, 20)], 0, []),
  (1013, 8, [some (.inr (.inr (.inr (.inr 58)))), some (.inr (.inr (.inl (0, 13, false)))), some (.inl 13)], [], [59, 60], [(29, 13, 20)], 0, []),
  (1014, 7, [some (.inr (.inr (.inr (.inr 58)))), some (.inr (.inr (.inl (0, 14, false)))), some (.inl 14)], [], [59, 60], [(29, 14, 20)], 0, []),
  (1015, 6, [some (.inr (.inr (.inr (.inr 58)))), some (.inr (.inr (.inl (0, 15, false)))), some (.inl 15)], [], [59, 60], [(29, 15, 20)], 0, []),
  (1016, 5, [some (.inr (.inr (.inr (.inr 58)))), some (.inr (.inr (.inl (0, 16, false)))), some (.inl 16)], [], [59, 60], [(29, 16, 20)], 0, []),
  (1017, 4, [some (.inr (.inr (.inr (.inr 58)))), some (.inr (.inr (.inl (0, 17, false)))), some (.inl 17)], [], [59, 60], [(29, 17, 20)], 0, []),
  (1018, 3, [some (.inr (.inr (.inr (.inr 58)))), some (.inr (.inr (.inl (0, 18, false)))), some (.inl 18)], [], [59, 60], [(29, 18, 20)], 0, []),
  (1019, 2, [some (.inr (.inr (.inr (.inr 58)))), some (.inr (.inr (.inl (0, 19, false)))), some (.inl 19)], [], [59, 60], [(29, 19, 20)], 0, []),
  (1020, 1, [some (.inr (.inr (.inr (.inr 58)))), some (.inr (.inr (.inl (0, 20, false)))), some (.inl 20)], [], [59, 60], [(29, 20, 20)], 0, [])])]
set_option maxRecDepth 1000000 in
theorem ct_X1_dropEmpty_3 : na_Ct gC ev_X1_dropEmpty cc_X1_dropEmpty_3 := na_chk_ok (cf := (gC, [(38, md_X1_dropEmpty)], [])) ke_C (na_rok_mk (List.forall_mem_cons.mpr ⟨rk_X1_dropEmpty, fun _ h => absurd h List.not_mem_nil⟩)) ndk_C ln_C mo_C pk_C (m := md_X1_dropEmpty) (mi := 38) (fu := 3000) (sp := []) (hd := hd_X1_dropEmpty_3) (mu := 22) rfl (nf_chk_ok (by decide +kernel))
def md_X1_asNumber : na_Md := (kx_X1_asNumber, kc_X1_asNumber, 2, [])
theorem rk_X1_asNumber {ms : List (Nat × na_Md)} {pk : List Nat}  : ∀ e ∈ md_X1_asNumber.2.2.2, na_rk (gC, ms, pk) md_X1_asNumber e := fun _ h => absurd h List.not_mem_nil
def md_X1_addTo : na_Md := (kx_X1_addTo, kc_X1_addTo, 6, [(148, .inl 32)])
theorem rk_X1_addTo {ms : List (Nat × na_Md)} {pk : List Nat} (h_X1_asNumber : nk_lk ms 32 = some md_X1_asNumber) : ∀ e ∈ md_X1_addTo.2.2.2, na_rk (gC, ms, pk) md_X1_addTo e := List.forall_mem_cons.mpr ⟨na_rk_i rfl rfl rfl h_X1_asNumber rfl, fun _ h => absurd h List.not_mem_nil⟩
def cc_X1_addTo_0 : na_C := ([.inr (.inr (.inr (.inr 49))), .inr (.inr (.inr (.inl false)))], ([], []), 0, [], [], 2, (0, 0), (0, 0))
def hd_X1_addTo_0 : List na_Hd := [(15, [5], [(1000, 21, [some (.inr (.inr (.inr (.inr 49)))), some (.inr (.inr (.inr (.inl false)))), none, some (.inr (.inr (.inr (.inl false)))), none, some (.inl 0)], [], [], [], 0, []),
  (1001, 20, [some (.inr (.inr (.inr (.inr 49)))), some (.inr (.inr (.inr (.inl false)))), none, some (.inr (.inr (.inr (.inl false)))), none, some (.inl 1)], [], [], [(26, 1, 20)], 0, []),
  (1002, 19, [some (.inr (.inr (.inr (.inr 49)))), some (.inr (.inr (.inr (.inl false)))), none, some (.inr (.inr (.inr (.inl false)))), none, some (.inl 2)], [], [], [(26, 2, 20)], 0, []),
  (1003, 18, [some (.inr (.inr (.inr (.inr 49)))), some (.inr (.inr (.inr (.inl false)))), none, some (.inr (.inr (.inr (.inl false)))), none, some (.inl 3)], [], [], [(26, 3, 20)], 0, []),
  (1004, 17, [some (.inr (.inr (.inr (.inr 49)))), some (.inr (.inr (.inr (.inl false)))), none, some (.inr (.inr (.inr (.inl false)))), none, some (.inl 4)], [], [], [(26, 4, 20)], 0, []),
  (1005, 16, [some (.inr (.inr (.inr (.inr 49)))), some (.inr (.inr (.inr (.inl false)))), none, some (.inr (.inr (.inr (.inl false)))), none, some (.inl 5)], [], [], [(26, 5, 20)], 0, []),
  (1006, 15, [some (.inr (.inr (.inr (.inr 49)))), some (.inr (.inr (.inr (.inl false)))), none, some (.inr (.inr (.inr (.inl false)))), none, some (.inl 6)], [], [], [(26, 6, 20)], 0, []),
  (1007, 14, [some (.inr (.inr (.inr (.inr 49)))), some (.inr (.inr (.inr (.inl false)))), none, some (.inr (.inr (.inr (.inl false)))), none, some (.inl 7)], [], [], [(26, 7, 20)], 0, []),
  (1008, 13, [some (.inr (.inr (.inr (.inr 49)))), some (.inr (.inr (.inr (.inl false)))), none, some (.inr (.inr (.inr (.inl false)))), none, some (.inl 8)], [], [], [(26, 8, 20)], 0, []),
  (1009, 12, [some (.inr (.inr (.inr (.inr 49)))), some (.inr (.inr (.inr (.inl false)))), none, some (.inr (.inr (.inr (.inl false)))), none, some (.inl 9)], [], [], [(26, 9, 20)], 0, []),
  (1010, 11, [some (.inr (.inr (.inr (.inr 49)))), some (.inr (.inr (.inr (.inl false)))), none, some (.inr (.inr (.inr (.inl false)))), none, some (.inl 10)], [], [], [(26, 10, 20)], 0, []),
  (1011, 10, [some (.inr (.inr (.inr (.inr 49)))), some (.inr (.inr (.inr (.inl false)))), none, some (.inr (.inr (.inr (.inl false)))), none, some (.inl 11)], [], [], [(26, 11, 20)], 0, []),
  (1012, 9, [some (.inr (.inr (.inr (.inr 49)))), some (.inr (.inr (.inr (.inl false)))), none, some (.inr (.inr (.inr (.inl false)))), none, some (.inl 12)], [], [], [(26, 12, 20)], 0, []),
  (1013, 8, [some (.inr (.inr (.inr (.inr 49)))), some (.inr (.inr (.inr (.inl false)))), none, some (.inr (.inr (.inr (.inl false)))), none, some (.inl 13)], [], [], [(26, 13, 20)], 0, []),
  (1014, 7, [some (.inr (.inr (.inr (.inr 49)))), some (.inr (.inr (.inr (.inl false)))), none, some (.inr (.inr (.inr (.inl false)))), none, some (.inl 14)], [], [], [(26, 14, 20)], 0, []),
  (1015, 6, [some (.inr (.inr (.inr (.inr 49)))), some (.inr (.inr (.inr (.inl false)))), none, some (.inr (.inr (.inr (.inl false)))), none, some (.inl 15)], [], [], [(26, 15, 20)], 0, []),
  (1016, 5, [some (.inr (.inr (.inr (.inr 49)))), some (.inr (.inr (.inr (.inl false)))), none, some (.inr (.inr (.inr (.inl false)))), none, some (.inl 16)], [], [], [(26, 16, 20)], 0, []),
  (1017, 4, [some (.inr (.inr (.inr (.inr 49)))), some (.inr (.inr (.inr (.inl false)))), none, some (.inr (.inr (.inr (.inl false)))), none, some (.inl 17)], [], [], [(26, 17, 20)], 0, []),
  (1018, 3, [some (.inr (.inr (.inr (.inr 49)))), some (.inr (.inr (.inr (.inl false)))), none, some (.inr (.inr (.inr (.inl false)))), none, some (.inl 18)], [], [], [(26, 18, 20)], 0, []),
  (1019, 2, [some (.inr (.inr (.inr (.inr 49)))), some (.inr (.inr (.inr (.inl false)))), none, some (.inr (.inr (.inr (.inl false)))), none, some (.inl 19)], [], [], [(26, 19, 20)], 0, []),
  (1020, 1, [some (.inr (.inr (.inr (.inr 49)))), some (.inr (.inr (.inr (.inl false)))), none, some (.inr (.inr (.inr (.inl false)))), none, some (.inl 20)], [], [], [(26, 20, 20)], 0, [])])]
set_option maxRecDepth 1000000 in
theorem ct_X1_addTo_0 : na_Ct gC ev_X1_addTo cc_X1_addTo_0 := na_chk_ok (cf := (gC, [(39, md_X1_addTo), (32, md_X1_asNumber)], [])) ke_C (na_rok_mk (List.forall_mem_cons.mpr ⟨rk_X1_addTo rfl, List.forall_mem_cons.mpr ⟨rk_X1_asNumber, fun _ h => absurd h List.not_mem_nil⟩⟩)) ndk_C ln_C mo_C pk_C (m := md_X1_addTo) (mi := 39) (fu := 3000) (sp := []) (hd := hd_X1_addTo_0) (mu := 22) rfl (nf_chk_ok (by decide +kernel))
def cc_X1_addTo_1 : na_C := ([.inr (.inr (.inr (.inr 52))), .inr (.inr (.inr (.inl false)))], ([], []), 0, [], [], 2, (0, 0), (0, 0))
def hd_X1_addTo_1 : List na_Hd := [(15, [5], [(1000, 21, [some (.inr (.inr (.inr (.inr 52)))), some (.inr (.inr (.inr (.inl false)))), none, some (.inr (.inr (.inr (.inl false)))), none, some (.inl 0)], [], [], [], 0, []),
  (1001, 20, [some (.inr (.inr (.inr (.inr 52)))), some (.inr (.inr (.inr (.inl false)))), none, some (.inr (.inr (.inr (.inl false)))), none, some (.inl 1)], [], [], [(27, 1, 20)], 0, []),
  (1002, 19, [some (.inr (.inr (.inr (.inr 52)))), some (.inr (.inr (.inr (.inl false)))), none, some (.inr (.inr (.inr (.inl false)))), none, some (.inl 2)], [], [], [(27, 2, 20)], 0, []),
  (1003, 18, [some (.inr (.inr (.inr (.inr 52)))), some (.inr (.inr (.inr (.inl false)))), none, some (.inr (.inr (.inr (.inl false)))), none, some (.inl 3)], [], [], [(27, 3, 20)], 0, []),
  (1004, 17, [some (.inr (.inr (.inr (.inr 52)))), some (.inr (.inr (.inr (.inl false)))), none, some (.inr (.inr (.inr (.inl false)))), none, some (.inl 4)], [], [], [(27, 4, 20)], 0, []),
  (1005, 16, [some (.inr (.inr (.inr (.inr 52)))), some (.inr (.inr (.inr (.inl false)))), none, some (.inr (.inr (.inr (.inl false)))), none, some (.inl 5)], [], [], [(27, 5, 20)], 0, []),
  (1006, 15, [some (.inr (.inr (.inr (.inr 52)))), some (.inr (.inr (.inr (.inl false)))), none, some (.inr (.inr (.inr (.inl false)))), none, some (.inl 6)], [], [], [(27, 6, 20)], 0, []),
  (1007, 14, [some (.inr (.inr (.inr (.inr 52)))), some (.inr (.inr (.inr (.inl false)))), none, some (.inr (.inr (.inr (.inl false)))), none, some (.inl 7)], [], [], [(27, 7, 20)], 0, []),
  (1008, 13, [some (.inr (.inr (.inr (.inr 52)))), some (.inr (.inr (.inr (.inl false)))), none, some (.inr (.inr (.inr (.inl false)))), none, some (.inl 8)], [], [], [(27, 8, 20)], 0, []),
  (1009, 12, [some (.inr (.inr (.inr (.inr 52)))), some (.inr (.inr (.inr (.inl false)))), none, some (.inr (.inr (.inr (.inl false)))), none, some (.inl 9)], [], [], [(27, 9, 20)], 0, []),
  (1010, 11, [some (.inr (.inr (.inr (.inr 52)))), some (.inr (.inr (.inr (.inl false)))), none, some (.inr (.inr (.inr (.inl false)))), none, some (.inl 10)], [], [], [(27, 10, 20)], 0, []),
  (1011, 10, [some (.inr (.inr (.inr (.inr 52)))), some (.inr (.inr (.inr (.inl false)))), none, some (.inr (.inr (.inr (.inl false)))), none, some (.inl 11)], [], [], [(27, 11, 20)], 0, []),
  (1012, 9, [some (.inr (.inr (.inr (.inr 52)))), some (.inr (.inr (.inr (.inl false)))), none, some (.inr (.inr (.inr (.inl false)))), none, some (.inl 12)], [], [], [(27, 12, 20)], 0, []),
  (1013, 8, [some (.inr (.inr (.inr (.inr 52)))), some (.inr (.inr (.inr (.inl false)))), none, some (.inr (.inr (.inr (.inl false)))), none, some (.inl 13)], [], [], [(27, 13, 20)], 0, []),
  (1014, 7, [some (.inr (.inr (.inr (.inr 52)))), some (.inr (.inr (.inr (.inl false)))), none, some (.inr (.inr (.inr (.inl false)))), none, some (.inl 14)], [], [], [(27, 14, 20)], 0, []),
  (1015, 6, [some (.inr (.inr (.inr (.inr 52)))), some (.inr (.inr (.inr (.inl false)))), none, some (.inr (.inr (.inr (.inl false)))), none, some (.inl 15)], [], [], [(27, 15, 20)], 0, []),
  (1016, 5, [some (.inr (.inr (.inr (.inr 52)))), some (.inr (.inr (.inr (.inl false)))), none, some (.inr (.inr (.inr (.inl false)))), none, some (.inl 16)], [], [], [(27, 16, 20)], 0, []),
  (1017, 4, [some (.inr (.inr (.inr (.inr 52)))), some (.inr (.inr (.inr (.inl false)))), none, some (.inr (.inr (.inr (.inl false)))), none, some (.inl 17)], [], [], [(27, 17, 20)], 0, []),
  (1018, 3, [some (.inr (.inr (.inr (.inr 52)))), some (.inr (.inr (.inr (.inl false)))), none, some (.inr (.inr (.inr (.inl false)))), none, some (.inl 18)], [], [], [(27, 18, 20)], 0, []),
  (1019, 2, [some (.inr (.inr (.inr (.inr 52)))), some (.inr (.inr (.inr (.inl false)))), none, some (.inr (.inr (.inr (.inl false)))), none, some (.inl 19)], [], [], [(27, 19, 20)], 0, []),
  (1020, 1, [some (.inr (.inr (.inr (.inr 52)))), some (.inr (.inr (.inr (.inl false)))), none, some (.inr (.inr (.inr (.inl false)))), none, some (.inl 20)], [], [], [(27, 20, 20)], 0, [])])]
set_option maxRecDepth 1000000 in
theorem ct_X1_addTo_1 : na_Ct gC ev_X1_addTo cc_X1_addTo_1 := na_chk_ok (cf := (gC, [(39, md_X1_addTo), (32, md_X1_asNumber)], [])) ke_C (na_rok_mk (List.forall_mem_cons.mpr ⟨rk_X1_addTo rfl, List.forall_mem_cons.mpr ⟨rk_X1_asNumber, fun _ h => absurd h List.not_mem_nil⟩⟩)) ndk_C ln_C mo_C pk_C (m := md_X1_addTo) (mi := 39) (fu := 3000) (sp := []) (hd := hd_X1_addTo_1) (mu := 22) rfl (nf_chk_ok (by decide +kernel))
def cc_X1_addTo_2 : na_C := ([.inr (.inr (.inr (.inr 55))), .inr (.inr (.inr (.inl false)))], ([], []), 0, [], [], 2, (0, 0), (0, 0))
def hd_X1_addTo_2 : List na_Hd := [(15, [5], [(1000, 21, [some (.inr (.inr (.inr (.inr 55)))), some (.inr (.inr (.inr (.inl false)))), none, some (.inr (.inr (.inr (.inl false)))), none, some (.inl 0)], [], [], [], 0, []),
  (1001, 20, [some (.inr (.inr (.inr (.inr 55)))), some (.inr (.inr (.inr (.inl false)))), none, some (.inr (.inr (.inr (.inl false)))), none, some (.inl 1)], [], [], [(28, 1, 20)], 0, []),
  (1002, 19, [some (.inr (.inr (.inr (.inr 55)))), some (.inr (.inr (.inr (.inl false)))), none, some (.inr (.inr (.inr (.inl false)))), none, some (.inl 2)], [], [], [(28, 2, 20)], 0, []),
  (1003, 18, [some (.inr (.inr (.inr (.inr 55)))), some (.inr (.inr (.inr (.inl false)))), none, some (.inr (.inr (.inr (.inl false)))), none, some (.inl 3)], [], [], [(28, 3, 20)], 0, []),
  (1004, 17, [some (.inr (.inr (.inr (.inr 55)))), some (.inr (.inr (.inr (.inl false)))), none, some (.inr (.inr (.inr (.inl false)))), none, some (.inl 4)], [], [], [(28, 4, 20)], 0, []),
  (1005, 16, [some (.inr (.inr (.inr (.inr 55)))), some (.inr (.inr (.inr (.inl false)))), none, some (.inr (.inr (.inr (.inl false)))), none, some (.inl 5)], [], [], [(28, 5, 20)], 0, []),
  (1006, 15, [some (.inr (.inr (.inr (.inr 55)))), some (.inr (.inr (.inr (.inl false)))), none, some (.inr (.inr (.inr (.inl false)))), none, some (.inl 6)], [], [], [(28, 6, 20)], 0, []),
  (1007, 14, [some (.inr (.inr (.inr (.inr 55)))), some (.inr (.inr (.inr (.inl false)))), none, some (.inr (.inr (.inr (.inl false)))), none, some (.inl 7)], [], [], [(28, 7, 20)], 0, []),
  (1008, 13, [some (.inr (.inr (.inr (.inr 55)))), some (.inr (.inr (.inr (.inl false)))), none, some (.inr (.inr (.inr (.inl false)))), none, some (.inl 8)], [], [], [(28, 8, 20)], 0, []),
  (1009, 12, [some (.inr (.inr (.inr (.inr 55)))), some (.inr (.inr (.inr (.inl false)))), none, some (.inr (.inr (.inr (.inl false)))), none, some (.inl 9)], [], [], [(28, 9, 20)], 0, []),
  (1010, 11, [some (.inr (.inr (.inr (.inr 55)))), some (.inr (.inr (.inr (.inl false)))), none, some (.inr (.inr (.inr (.inl false)))), none, some (.inl 10)], [], [], [(28, 10, 20)], 0, []),
  (1011, 10, [some (.inr (.inr (.inr (.inr 55)))), some (.inr (.inr (.inr (.inl false)))), none, some (.inr (.inr (.inr (.inl false)))), none, some (.inl 11)], [], [], [(28, 11, 20)], 0, []),
  (1012, 9, [some (.inr (.inr (.inr (.inr 55)))), some (.inr (.inr (.inr (.inl false)))), none, some (.inr (.inr (.inr (.inl false)))), none, some (.inl 12)], [], [], [(28, 12, 20)], 0, []),
  (1013, 8, [some (.inr (.inr (.inr (.inr 55)))), some (.inr (.inr (.inr (.inl false)))), none, some (.inr (.inr (.inr (.inl false)))), none, some (.inl 13)], [], [], [(28, 13, 20)], 0, []),
  (1014, 7, [some (.inr (.inr (.inr (.inr 55)))), some (.inr (.inr (.inr (.inl false)))), none, some (.inr (.inr (.inr (.inl false)))), none, some (.inl 14)], [], [], [(28, 14, 20)], 0, []),
  (1015, 6, [some (.inr (.inr (.inr (.inr 55)))), some (.inr (.inr (.inr (.inl false)))), none, some (.inr (.inr (.inr (.inl false)))), none, some (.inl 15)], [], [], [(28, 15, 20)], 0, []),
  (1016, 5, [some (.inr (.inr (.inr (.inr 55)))), some (.inr (.inr (.inr (.inl false)))), none, some (.inr (.inr (.inr (.inl false)))), none, some (.inl 16)], [], [], [(28, 16, 20)], 0, []),
  (1017, 4, [some (.inr (.inr (.inr (.inr 55)))), some (.inr (.inr (.inr (.inl false)))), none, some (.inr (.inr (.inr (.inl false)))), none, some (.inl 17)], [], [], [(28, 17, 20)], 0, []),
  (1018, 3, [some (.inr (.inr (.inr (.inr 55)))), some (.inr (.inr (.inr (.inl false)))), none, some (.inr (.inr (.inr (.inl false)))), none, some (.inl 18)], [], [], [(28, 18, 20)], 0, []),
  (1019, 2, [some (.inr (.inr (.inr (.inr 55)))), some (.inr (.inr (.inr (.inl false)))), none, some (.inr (.inr (.inr (.inl false)))), none, some (.inl 19)], [], [], [(28, 19, 20)], 0, []),
  (1020, 1, [some (.inr (.inr (.inr (.inr 55)))), some (.inr (.inr (.inr (.inl false)))), none, some (.inr (.inr (.inr (.inl false)))), none, some (.inl 20)], [], [], [(28, 20, 20)], 0, [])])]
set_option maxRecDepth 1000000 in
theorem ct_X1_addTo_2 : na_Ct gC ev_X1_addTo cc_X1_addTo_2 := na_chk_ok (cf := (gC, [(39, md_X1_addTo), (32, md_X1_asNumber)], [])) ke_C (na_rok_mk (List.forall_mem_cons.mpr ⟨rk_X1_addTo rfl, List.forall_mem_cons.mpr ⟨rk_X1_asNumber, fun _ h => absurd h List.not_mem_nil⟩⟩)) ndk_C ln_C mo_C pk_C (m := md_X1_addTo) (mi := 39) (fu := 3000) (sp := []) (hd := hd_X1_addTo_2) (mu := 22) rfl (nf_chk_ok (by decide +kernel))
def cc_X1_addTo_3 : na_C := ([.inr (.inr (.inr (.inr 58))), .inr (.inr (.inr (.inl false)))], ([], []), 0, [], [], 2, (0, 0), (0, 0))
def hd_X1_addTo_3 : List na_Hd := [(15, [5], [(1000, 21, [some (.inr (.inr (.inr (.inr 58)))), some (.inr (.inr (.inr (.inl false)))), none, some (.inr (.inr (.inr (.inl false)))), none, some (.inl 0)], [], [], [], 0, []),
  (1001, 20, [some (.inr (.inr (.inr (.inr 58)))), some (.inr (.inr (.inr (.inl false)))), none, some (.inr (.inr (.inr (.inl false)))), none, some (.inl 1)], [], [], [(29, 1, 20)], 0, []),
  (1002, 19, [some (.inr (.inr (.inr (.inr 58)))), some (.inr (.inr (.inr (.inl false)))), none, some (.inr (.inr (.inr (.inl false)))), none, some (.inl 2)], [], [], [(29, 2, 20)], 0, []),
  (1003, 18, [some (.inr (.inr (.inr (.inr 58)))), some (.inr (.inr (.inr (.inl false)))), none, some (.inr (.inr (.inr (.inl false)))), none, some (.inl 3)], [], [], [(29, 3, 20)], 0, []),
  (1004, 17, [some (.inr (.inr (.inr (.inr 58)))), some (.inr (.inr (.inr (.inl false)))), none, some (.inr (.inr (.inr (.inl false)))), none, some (.inl 4)], [], [], [(29, 4, 20)], 0, []),
  (1005, 16, [some (.inr (.inr (.inr (.inr 58)))), some (.inr (.inr (.inr (.inl false)))), none, some (.inr (.inr (.inr (.inl false)))), none, some (.inl 5)], [], [], [(29, 5, 20)], 0, []),
  (1006, 15, [some (.inr (.inr (.inr (.inr 58)))), some (.inr (.inr (.inr (.inl false)))), none, some (.inr (.inr (.inr (.inl false)))), none, some (.inl 6)], [], [], [(29, 6, 20)], 0, []),
  (1007, 14, [some (.inr (.inr (.inr (.inr 58)))), some (.inr (.inr (.inr (.inl false)))), none, some (.inr (.inr (.inr (.inl false)))), none, some (.inl 7)], [], [], [(29, 7, 20)], 0, []),
  (1008, 13, [some (.inr (.inr (.inr (.inr 58)))), some (.inr (.inr (.inr (.inl false)))), none, some (.inr (.inr (.inr (.inl false)))), none, some (.inl 8)], [], [], [(29, 8, 20)], 0, []),
  (1009, 12, [some (.inr (.inr (.inr (.inr 58)))), some (.inr (.inr (.inr (.inl false)))), none, some (.inr (.inr (.inr (.inl false)))), none, some (.inl 9)], [], [], [(29, 9, 20)], 0, []),
  (1010, 11, [some (.inr (.inr (.inr (.inr 58)))), some (.inr (.inr (.inr (.inl false)))), none, some (.inr (.inr (.inr (.inl false)))), none, some (.inl 10)], [], [], [(29, 10, 20)], 0, []),
  (1011, 10, [some (.inr (.inr (.inr (.inr 58)))), some (.inr (.inr (.inr (.inl false)))), none, some (.inr (.inr (.inr (.inl false)))), none, some (.inl 11)], [], [], [(29, 11, 20)], 0, []),
  (1012, 9, [some (.inr (.inr (.inr (.inr 58)))), some (.inr (.inr (.inr (.inl false)))), none, some (.inr (.inr (.inr (.inl false)))), none, some (.inl 12)], [], [], [(29, 12, 20)], 0, []),
  (1013, 8, [some (.inr (.inr (.inr (.inr 58)))), some (.inr (.inr (.inr (.inl false)))), none, some (.inr (.inr (.inr (.inl false)))), none, some (.inl 13)], [], [], [(29, 13, 20)], 0, []),
  (1014, 7, [some (.inr (.inr (.inr (.inr 58)))), some (.inr (.inr (.inr (.inl false)))), none, some (.inr (.inr (.inr (.inl false)))), none, some (.inl 14)], [], [], [(29, 14, 20)], 0, []),
  (1015, 6, [some (.inr (.inr (.inr (.inr 58)))), some (.inr (.inr (.inr (.inl false)))), none, some (.inr (.inr (.inr (.inl false)))), none, some (.inl 15)], [], [], [(29, 15, 20)], 0, []),
  (1016, 5, [some (.inr (.inr (.inr (.inr 58)))), some (.inr (.inr (.inr (.inl false)))), none, some (.inr (.inr (.inr (.inl false)))), none, some (.inl 16)], [], [], [(29, 16, 20)], 0, []),
  (1017, 4, [some (.inr (.inr (.inr (.inr 58)))), some (.inr (.inr (.inr (.inl false)))), none, some (.inr (.inr (.inr (.inl false)))), none, some (.inl 17)], [], [], [(29, 17, 20)], 0, []),
  (1018, 3, [some (.inr (.inr (.inr (.inr 58)))), some (.inr (.inr (.inr (.inl false)))), none, some (.inr (.inr (.inr (.inl false)))), none, some (.inl 18)], [], [], [(29, 18, 20)], 0, []),
  (1019, 2, [some (.inr (.inr (.inr (.inr 58)))), some (.inr (.inr (.inr (.inl false)))), none, some (.inr (.inr (.inr (.inl false)))), none, some (.inl 19)], [], [], [(29, 19, 20)], 0, []),
  (1020, 1, [some (.inr (.inr (.inr (.inr 58)))), some (.inr (.inr (.inr (.inl false)))), none, some (.inr (.inr (.inr (.inl false)))), none, some (.inl 20)], [], [], [(29, 20, 20)], 0, [])])]
set_option maxRecDepth 1000000 in
theorem ct_X1_addTo_3 : na_Ct gC ev_X1_addTo cc_X1_addTo_3 := na_chk_ok (cf := (gC, [(39, md_X1_addTo), (32, md_X1_asNumber)], [])) ke_C (na_rok_mk (List.forall_mem_cons.mpr ⟨rk_X1_addTo rfl, List.forall_mem_cons.mpr ⟨rk_X1_asNumber, fun _ h => absurd h List.not_mem_nil⟩⟩)) ndk_C ln_C mo_C pk_C (m := md_X1_addTo) (mi := 39) (fu := 3000) (sp := []) (hd := hd_X1_addTo_3) (mu := 22) rfl (nf_chk_ok (by decide +kernel))
def md_X2_wordOf : na_Md := (kx_X2_wordOf, kc_X2_wordOf, 2, [])
theorem rk_X2_wordOf {ms : List (Nat × na_Md)} {pk : List Nat}  : ∀ e ∈ md_X2_wordOf.2.2.2, na_rk (gC, ms, pk) md_X2_wordOf e := fun _ h => absurd h List.not_mem_nil
def cc_X2_wordOf_0 : na_C := ([.inr (.inr (.inl (-2147483648, 2147483647, false)))], ([], []), 0, [], [], 1, (-1, 4), (0, 0))
def hd_X2_wordOf_0 : List na_Hd := [(2, [1], [(1000, 6, [some (.inr (.inl 30)), some (.inl 0)], [], [], [], 0, []),
  (1001, 5, [some (.inr (.inl 30)), some (.inl 1)], [], [], [], 0, []),
  (1002, 4, [some (.inr (.inl 30)), some (.inl 2)], [], [], [], 0, []),
  (1003, 3, [some (.inr (.inl 30)), some (.inl 3)], [], [], [], 0, []),
  (1004, 2, [some (.inr (.inl 30)), some (.inl 4)], [], [], [], 0, []),
  (1005, 1, [some (.inr (.inl 30)), some (.inl 5)], [], [], [], 0, [])])]
set_option maxRecDepth 1000000 in
theorem ct_X2_wordOf_0 : na_Ct gC ev_X2_wordOf cc_X2_wordOf_0 := na_chk_ok (cf := (gC, [(41, md_X2_wordOf)], [])) ke_C (na_rok_mk (List.forall_mem_cons.mpr ⟨rk_X2_wordOf, fun _ h => absurd h List.not_mem_nil⟩)) ndk_C ln_C mo_C pk_C (m := md_X2_wordOf) (mi := 41) (fu := 3000) (sp := []) (hd := hd_X2_wordOf_0) (mu := 7) rfl (nf_chk_ok (by decide +kernel))
def md_X2_choiceOf : na_Md := (kx_X2_choiceOf, kc_X2_choiceOf, 3, [])
theorem rk_X2_choiceOf {ms : List (Nat × na_Md)} {pk : List Nat}  : ∀ e ∈ md_X2_choiceOf.2.2.2, na_rk (gC, ms, pk) md_X2_choiceOf e := fun _ h => absurd h List.not_mem_nil
def cc_X2_choiceOf_0 : na_C := ([.inr (.inr (.inl (0, 4, false))), .inr (.inr (.inl (-2147483648, 2147483647, false)))], ([], []), 0, [], [], 1, (0, 3), (0, 0))
def hd_X2_choiceOf_0 : List na_Hd := [(2, [2], [(1000, 4, [some (.inr (.inl 30)), some (.inr (.inl 31)), some (.inl 0)], [], [], [], 0, []),
  (1001, 3, [some (.inr (.inl 30)), some (.inr (.inl 31)), some (.inl 1)], [], [], [], 0, []),
  (1002, 2, [some (.inr (.inl 30)), some (.inr (.inl 31)), some (.inl 2)], [], [], [], 0, []),
  (1003, 1, [some (.inr (.inl 30)), some (.inr (.inl 31)), some (.inl 3)], [], [], [], 0, [])])]
set_option maxRecDepth 1000000 in
theorem ct_X2_choiceOf_0 : na_Ct gC ev_X2_choiceOf cc_X2_choiceOf_0 := na_chk_ok (cf := (gC, [(42, md_X2_choiceOf)], [])) ke_C (na_rok_mk (List.forall_mem_cons.mpr ⟨rk_X2_choiceOf, fun _ h => absurd h List.not_mem_nil⟩)) ndk_C ln_C mo_C pk_C (m := md_X2_choiceOf) (mi := 42) (fu := 3000) (sp := []) (hd := hd_X2_choiceOf_0) (mu := 5) rfl (nf_chk_ok (by decide +kernel))
