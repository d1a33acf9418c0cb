noncomputable def md_X1_dropEmpty : na_Md := (kx_X1_dropEmpty, kc_X1_dropEmpty, 3, [])
theorem rk_X1_dropEmpty {ms : List (Nat × na_Md)} {pk : List Nat}  : ∀ e ∈ md_X1_dropEmpty.2.2.2, na_rk (gC, ms, pk) md_X1_dropEmpty e := fun _ h => absurd h List.not_mem_nil
noncomputable def cc_X1_dropEmpty_0 : na_C := ([.inr (.inr (.inr (.inr 49)))], ([], []), 0, [(26, 0, 20)], [50, 51], 0, (0, 0), (0, 0))
noncomputable def hd_X1_dropEmpty_0 : List nr_Hd := [(4, [1], [(1000, [(2, 1000, false, 20)], 1, [some (.inr (.inr (.inr (.inr 49)))), some (.inl 0), some (.inr (.inr (.inl (0, 20, false))))], [], [], [], 0, []),
  (1001, [(2, 1000, false, 20)], 1, [some (.inr (.inr (.inr (.inr 49)))), some (.inl 1), some (.inr (.inr (.inl (1, 20, false))))], [], [50, 51], [(26, 1, 20)], 0, []),
  (1002, [(2, 1000, false, 20)], 1, [some (.inr (.inr (.inr (.inr 49)))), some (.inl 2), some (.inr (.inr (.inl (2, 20, false))))], [], [50, 51], [(26, 2, 20)], 0, []),
  (1003, [(2, 1000, false, 20)], 1, [some (.inr (.inr (.inr (.inr 49)))), some (.inl 3), some (.inr (.inr (.inl (3, 20, false))))], [], [50, 51], [(26, 3, 20)], 0, []),
  (1004, [(2, 1000, false, 20)], 1, [some (.inr (.inr (.inr (.inr 49)))), some (.inl 4), some (.inr (.inr (.inl (4, 20, false))))], [], [50, 51], [(26, 4, 20)], 0, []),
  (1005, [(2, 1000, false, 20)], 1, [some (.inr (.inr (.inr (.inr 49)))), some (.inl 5), some (.inr (.inr (.inl (5, 20, false))))], [], [50, 51], [(26, 5, 20)], 0, []),
  (1006, [(2, 1000, false, 20)], 1, [some (.inr (.inr (.inr (.inr 49)))), some (.inl 6), some (.inr (.inr (.inl (6, 20, false))))], [], [50, 51], [(26, 6, 20)], 0, []),
  (1007, [(2, 1000, false, 20)], 1, [some (.inr (.inr (.inr (.inr 49)))), some (.inl 7), some (.inr (.inr (.inl (7, 20, false))))], [], [50, 51], [(26, 7, 20)], 0, []),
  (1008, [(2, 1000, false, 20)], 1, [some (.inr (.inr (.inr (.inr 49)))), some (.inl 8), some (.inr (.inr (.inl (8, 20, false))))], [], [50, 51], [(26, 8, 20)], 0, []),
  (1009, [(2, 1000, false, 20)], 1, [some (.inr (.inr (.inr (.inr 49)))), some (.inl 9), some (.inr (.inr (.inl (9, 20, false))))], [], [50, 51], [(26, 9, 20)], 0, []),
  (1010, [(2, 1000, false, 20)], 1, [some (.inr (.inr (.inr (.inr 49)))), some (.inl 10), some (.inr (.inr (.inl (10, 20, false))))], [], [50, 51], [(26, 10, 20)], 0, []),
  (1011, [(2, 1000, false, 20)], 1, [some (.inr (.inr (.inr (.inr 49)))), some (.inl 11), some (.inr (.inr (.inl (11, 20, false))))], [], [50, 51], [(26, 11, 20)], 0, []),
  (1012, [(2, 1000, false, 20)], 1, [some (.inr (.inr (.inr (.inr 49)))), some (.inl 12), some (.inr (.inr (.inl (12, 20, false))))], [], [50, 51], [(26, 12, 20)], 0, []),
  (1013, [(2, 1000, false, 20)], 1, [some (.inr (.inr (.inr (.inr 49)))), some (.inl 13), some (.inr (.inr (.inl (13, 20, false))))], [], [50, 51], [(26, 13, 20)], 0, []),
  (1014, [(2, 1000, false, 20)], 1, [some (.inr (.inr (.inr (.inr 49)))), some (.inl 14), some (.inr (.inr (.inl (14, 20, false))))], [], [50, 51], [(26, 14, 20)], 0, []),
  (1015, [(2, 1000, false, 20)], 1, [some (.inr (.inr (.inr (.inr 49)))), some (.inl 15), some (.inr (.inr (.inl (15, 20, false))))], [], [50, 51], [(26, 15, 20)], 0, []),
  (1016, [(2, 1000, false, 20)], 1, [some (.inr (.inr (.inr (.inr 49)))), some (.inl 16), some (.inr (.inr (.inl (16, 20, false))))], [], [50, 51], [(26, 16, 20)], 0, []),
  (1017, [(2, 1000, false, 20)], 1, [some (.inr (.inr (.inr (.inr 49)))), some (.inl 17), some (.inr (.inr (.inl (17, 20, false))))], [], [50, 51], [(26, 17, 20)], 0, []),
  (1018, [(2, 1000, false, 20)], 1, [some (.inr (.inr (.inr (.inr 49)))), some (.inl 18), some (.inr (.inr (.inl (18, 20, false))))], [], [50, 51], [(26, 18, 20)], 0, []),
  (1019, [(2, 1000, false, 20)], 1, [some (.inr (.inr (.inr (.inr 49)))), some (.inl 19), some (.inr (.inr (.inl (19, 20, true))))], [], [50, 51], [(26, 19, 20)], 0, []),
  (1020, [(2, 1000, false, 20)], 1, [some (.inr (.inr (.inr (.inr 49)))), some (.inl 20), some (.inl 20)], [], [50, 51], [(26, 20, 20)], 0, [])])]
set_option maxRecDepth 1000000 in
theorem ct_X1_dropEmpty_0 : na_Ct gC ev_X1_dropEmpty cc_X1_dropEmpty_0 := nr_chk_ok (cf := (gC, [(38, md_X1_dropEmpty)], [])) ke_C (na_rok_mk (List.forall_mem_cons.mpr ⟨rk_X1_dropEmpty, fun _ h => absurd h List.not_mem_nil⟩)) ndk_C ln_C mo_C pk_C (m := md_X1_dropEmpty) (mi := 38) (fu := 3000) (sp := []) (hd := hd_X1_dropEmpty_0) (mu := 20002) rfl (by decide +kernel)
noncomputable def cc_X1_dropEmpty_1 : na_C := ([.inr (.inr (.inr (.inr 52)))], ([], []), 0, [(27, 0, 20)], [53, 54], 0, (0, 0), (0, 0))
noncomputable def hd_X1_dropEmpty_1 : List nr_Hd := [(4, [1], [(1000, [(2, 1000, false, 20)], 1, [some (.inr (.inr (.inr (.inr 52)))), some (.inl 0), some (.inr (.inr (.inl (0, 20, false))))], [], [], [], 0, []),
  (1001, [(2, 1000, false, 20)], 1, [some (.inr (.inr (.inr (.inr 52)))), some (.inl 1), some (.inr (.inr (.inl (1, 20, false))))], [], [53, 54], [(27, 1, 20)], 0, []),
  (1002, [(2, 1000, false, 20)], 1, [some (.inr (.inr (.inr (.inr 52)))), some (.inl 2), some (.inr (.inr (.inl (2, 20, false))))], [], [53, 54], [(27, 2, 20)], 0, []),
  (1003, [(2, 1000, false, 20)], 1, [some (.inr (.inr (.inr (.inr 52)))), some (.inl 3), some (.inr (.inr (.inl (3, 20, false))))], [], [53, 54], [(27, 3, 20)], 0, []),
  (1004, [(2, 1000, false, 20)], 1, [some (.inr (.inr (.inr (.inr 52)))), some (.inl 4), some (.inr (.inr (.inl (4, 20, false))))], [], [53, 54], [(27, 4, 20)], 0, []),
  (1005, [(2, 1000, false, 20)], 1, [some (.inr (.inr (.inr (.inr 52)))), some (.inl 5), some (.inr (.inr (.inl (5, 20, false))))], [], [53, 54], [(27, 5, 20)], 0, []),
  (1006, [(2, 1000, false, 20)], 1, [some (.inr (.inr (.inr (.inr 52)))), some (.inl 6), some (.inr (.inr (.inl (6, 20, false))))], [], [53, 54], [(27, 6, 20)], 0, []),
  (1007, [(2, 1000, false, 20)], 1, [some (.inr (.inr (.inr (.inr 52)))), some (.inl 7), some (.inr (.inr (.inl (7, 20, false))))], [], [53, 54], [(27, 7, 20)], 0, []),
  (1008, [(2, 1000, false, 20)], 1, [some (.inr (.inr (.inr (.inr 52)))), some (.inl 8), some (.inr (.inr (.inl (8, 20, false))))], [], [53, 54], [(27, 8, 20)], 0, []),
  (1009, [(2, 1000, false, 20)], 1, [some (.inr (.inr (.inr (.inr 52)))), some (.inl 9), some (.inr (.inr (.inl (9, 20, false))))], [], [53, 54], [(27, 9, 20)], 0, []),
  (1010, [(2, 1000, false, 20)], 1, [some (.inr (.inr (.inr (.inr 52)))), some (.inl 10), some (.inr (.inr (.inl (10, 20, false))))], [], [53, 54], [(27, 10, 20)], 0, []),
  (1011, [(2, 1000, false, 20)], 1, [some (.inr (.inr (.inr (.inr 52)))), some (.inl 11), some (.inr (.inr (.inl (11, 20, false))))], [], [53, 54], [(27, 11, 20)], 0, []),
  (1012, [(2, 1000, false, 20)], 1, [some (.inr (.inr (.inr (.inr 52)))), some (.inl 12), some (.inr (.inr (.inl (12, 20, false))))], [], [53, 54], [(27, 12, 20)], 0, []),
  (1013, [(2, 1000, false, 20)], 1, [some (.inr (.inr (.inr (.inr 52)))), some (.inl 13), some (.inr (.inr (.inl (13, 20, false))))], [], [53, 54], [(27, 13, 20)], 0, []),
  (1014, [(2, 1000, false, 20)], 1, [some (.inr (.inr (.inr (.inr 52)))), some (.inl 14), some (.inr (.inr (.inl (14, 20, false))))], [], [53, 54], [(27, 14, 20)], 0, []),
  (1015, [(2, 1000, false, 20)], 1, [some (.inr (.inr (.inr (.inr 52)))), some (.inl 15), some (.inr (.inr (.inl (15, 20, false))))], [], [53, 54], [(27, 15, 20)], 0, []),
  (1016, [(2, 1000, false, 20)], 1, [some (.inr (.inr (.inr (.inr 52)))), some (.inl 16), some (.inr (.inr (.inl (16, 20, false))))], [], [53, 54], [(27, 16, 20)], 0, []),
  (1017, [(2, 1000, false, 20)], 1, [some (.inr (.inr (.inr (.inr 52)))), some (.inl 17), some (.inr (.inr (.inl (17, 20, false))))], [], [53, 54], [(27, 17, 20)], 0, []),
  (1018, [(2, 1000, false, 20)], 1, [some (.inr (.inr (.inr (.inr 52)))), some (.inl 18), some (.inr (.inr (.inl (18, 20, false))))], [], [53, 54], [(27, 18, 20)], 0, []),
  (1019, [(2, 1000, false, 20)], 1, [some (.inr (.inr (.inr (.inr 52)))), some (.inl 19), some (.inr (.inr (.inl (19, 20, true))))], [], [53, 54], [(27, 19, 20)], 0, []),
  (1020, [(2, 1000, false, 20)], 1, [some (.inr (.inr (.inr (.inr 52)))), some (.inl 20), some (.inl 20)], [], [53, 54], [(27, 20, 20)], 0, [])])]
set_option maxRecDepth 1000000 in
theorem ct_X1_dropEmpty_1 : na_Ct gC ev_X1_dropEmpty cc_X1_dropEmpty_1 := nr_chk_ok (cf := (gC, [(38, md_X1_dropEmpty)], [])) ke_C (na_rok_mk (List.forall_mem_cons.mpr ⟨rk_X1_dropEmpty, fun _ h => absurd h List.not_mem_nil⟩)) ndk_C ln_C mo_C pk_C (m := md_X1_dropEmpty) (mi := 38) (fu := 3000) (sp := []) (hd := hd_X1_dropEmpty_1) (mu := 20002) rfl (by decide +kernel)
noncomputable def cc_X1_dropEmpty_2 : na_C := ([.inr (.inr (.inr (.inr 55)))], ([], []), 0, [(28, 0, 20)], [56, 57], 0, (0, 0), (0, 0))
noncomputable def hd_X1_dropEmpty_2 : List nr_Hd := [(4, [1], [(1000, [(2, 1000, false, 20)], 1, [some (.inr (.inr (.inr (.inr 55)))), some (.inl 0), some (.inr (.inr (.inl (0, 20, false))))], [], [], [], 0, []),
  (1001, [(2, 1000, false, 20)], 1, [some (.inr (.inr (.inr (.inr 55)))), some (.inl 1), some (.inr (.inr (.inl (1, 20, false))))], [], [56, 57], [(28, 1, 20)], 0, []),
  (1002, [(2, 1000, false, 20)], 1, [some (.inr (.inr (.inr (.inr 55)))), some (.inl 2), some (.inr (.inr (.inl (2, 20, false))))], [], [56, 57], [(28, 2, 20)], 0, []),
  (1003, [(2, 1000, false, 20)], 1, [some (.inr (.inr (.inr (.inr 55)))), some (.inl 3), some (.inr (.inr (.inl (3, 20, false))))], [], [56, 57], [(28, 3, 20)], 0, []),
  (1004, [(2, 1000, false, 20)], 1, [some (.inr (.inr (.inr (.inr 55)))), some (.inl 4), some (.inr (.inr (.inl (4, 20, false))))], [], [56, 57], [(28, 4, 20)], 0, []),
  (1005, [(2, 1000, false, 20)], 1, [some (.inr (.inr (.inr (.inr 55)))), some (.inl 5), some (.inr (.inr (.inl (5, 20, false))))], [], [56, 57], [(28, 5, 20)], 0, []),
  (1006, [(2, 1000, false, 20)], 1, [some (.inr (.inr (.inr (.inr 55)))), some (.inl 6), some (.inr (.inr (.inl (6, 20, false))))], [], [56, 57], [(28, 6, 20)], 0, []),
  (1007, [(2, 1000, false, 20)], 1, [some (.inr (.inr (.inr (.inr 55)))), some (.inl 7), some (.inr (.inr (.inl (7, 20, false))))], [], [56, 57], [(28, 7, 20)], 0, []),
  (1008, [(2, 1000, false, 20)], 1, [some (.inr (.inr (.inr (.inr 55)))), some (.inl 8), some (.inr (.inr (.inl (8, 20, false))))], [], [56, 57], [(28, 8, 20)], 0, []),
  (1009, [(2, 1000, false, 20)], 1, [some (.inr (.inr (.inr (.inr 55)))), some (.inl 9), some (.inr (.inr (.inl (9, 20, false))))], [], [56, 57], [(28, 9, 20)], 0, []),
  (1010, [(2, 1000, false, 20)], 1, [some (.inr (.inr (.inr (.inr 55)))), some (.inl 10), some (.inr (.inr (.inl (10, 20, false))))], [], [56, 57], [(28, 10, 20)], 0, []),
  (1011, [(2, 1000, false, 20)], 1, [some (.inr (.inr (.inr (.inr 55)))), some (.inl 11), some (.inr (.inr (.inl (11, 20, false))))], [], [56, 57], [(28, 11, 20)], 0, []),
  (1012, [(2, 1000, false, 20)], 1, [some (.inr (.inr (.inr (.inr 55)))), some (.inl 12), some (.inr (.inr (.inl (12, 20, false))))], [], [56, 57], [(28, 12, 20)], 0, []),
  (1013, [(2, 1000, false, 20)], 1, [some (.inr (.inr (.inr (.inr 55)))), some (.inl 13), some (.inr (.inr (.inl (13, 20, false))))], [], [56, 57], [(28, 13, 20)], 0, []),
  (1014, [(2, 1000, false, 20)], 1, [some (.inr (.inr (.inr (.inr 55)))), some (.inl 14), some (.inr (.inr (.inl (14, 20, false))))], [], [56, 57], [(28, 14, 20)], 0, []),
  (1015, [(2, 1000, false, 20)], 1, [some (.inr (.inr (.inr (.inr 55)))), some (.inl 15), some (.inr (.inr (.inl (15, 20, false))))], [], [56, 57], [(28, 15, 20)], 0, []),
  (1016, [(2, 1000, false, 20)], 1, [some (.inr (.inr (.inr (.inr 55)))), some (.inl 16), some (.inr (.inr (.inl (16, 20, false))))], [], [56, 57], [(28, 16, 20)], 0, []),
  (1017, [(2, 1000, false, 20)], 1, [some (.inr (.inr (.inr (.inr 55)))), some (.inl 17), some (.inr (.inr (.inl (17, 20, false))))], [], [56, 57], [(28, 17, 20)], 0, []),
  (1018, [(2, 1000, false, 20)], 1, [some (.inr (.inr (.inr (.inr 55)))), some (.inl 18), some (.inr (.inr (.inl (18, 20, false))))], [], [56, 57], [(28, 18, 20)], 0, []),
  (1019, [(2, 1000, false, 20)], 1, [some (.inr (.inr (.inr (.inr 55)))), some (.inl 19), some (.inr (.inr (.inl (19, 20, true))))], [], [56, 57], [(28, 19, 20)], 0, []),
  (1020, [(2, 1000, false, 20)], 1, [some (.inr (.inr (.inr (.inr 55)))), some (.inl 20), some (.inl 20)], [], [56, 57], [(28, 20, 20)], 0, [])])]
set_option maxRecDepth 1000000 in
theorem ct_X1_dropEmpty_2 : na_Ct gC ev_X1_dropEmpty cc_X1_dropEmpty_2 := nr_chk_ok (cf := (gC, [(38, md_X1_dropEmpty)], [])) ke_C (na_rok_mk (List.forall_mem_cons.mpr ⟨rk_X1_dropEmpty, fun _ h => absurd h List.not_mem_nil⟩)) ndk_C ln_C mo_C pk_C (m := md_X1_dropEmpty) (mi := 38) (fu := 3000) (sp := []) (hd := hd_X1_dropEmpty_2) (mu := 20002) rfl (by decide +kernel)
noncomputable def cc_X1_dropEmpty_3 : na_C := ([.inr (.inr (.inr (.inr 58)))], ([], []), 0, [(29, 0, 20)], [59, 60], 0, (0, 0), (0, 0))
noncomputable def hd_X1_dropEmpty_3 : List nr_Hd := [(4, [1], [(1000, [(2, 1000, false, 20)], 1, [some (.inr (.inr (.inr (.inr 58)))), some (.inl 0), some (.inr (.inr (.inl (0, 20, false))))], [], [], [], 0, []),
  (1001, [(2, 1000, false, 20)], 1, [some (.inr (.inr (.inr (.inr 58)))), some (.inl 1), some (.inr (.inr (.inl (1, 20, false))))], [], [59, 60], [(29, 1, 20)], 0, []),
  (1002, [(2, 1000, false, 20)], 1, [some (.inr (.inr (.inr (.inr 58)))), some (.inl 2), some (.inr (.inr (.inl (2, 20, false))))], [], [59, 60], [(29, 2, 20)], 0, []),
  (1003, [(2, 1000, false, 20)], 1, [some (.inr (.inr (.inr (.inr 58)))), some (.inl 3), some (.inr (.inr (.inl (3, 20, false))))], [], [59, 60], [(29, 3, 20)], 0, []),
  (1004, [(2, 1000, false, 20)], 1, [some (.inr (.inr (.inr (.inr 58)))), some (.inl 4), some (.inr (.inr (.inl (4, 20, false))))], [], [59, 60], [(29, 4, 20)], 0, []),
  (1005, [(2, 1000, false, 20)], 1, [some (.inr (.inr (.inr (.inr 58)))), some (.inl 5), some (.inr (.inr (.inl (5, 20, false))))], [], [59, 60], [(29, 5, 20)], 0, []),
  (1006, [(2, 1000, false, 20)], 1, [some (.inr (.inr (.inr (.inr 58)))), some (.inl 6), some (.inr (.inr (.inl (6, 20, false))))], [], [59, 60], [(29, 6, 20)], 0, []),
  (1007, [(2, 1000, false, 20)], 1, [some (.inr (.inr (.inr (.inr 58)))), some (.inl 7), some (.inr (.inr (.inl (7, 20, false))))], [], [59, 60], [(29, 7, 20)], 0, []),
  (1008, [(2, 1000, false, 20)], 1, [some (.inr (.inr (.inr (.inr 58)))), some (.inl 8), some (.inr (.inr (.inl (8, 20, false))))], [], [59, 60], [(29, 8, 20)], 0, []),
  (1009, [(2, 1000, false, 20)], 1, [some (.inr (.inr (.inr (.inr 58)))), some (.inl 9), some (.inr (.inr (.inl (9, 20, false))))], [], [59, 60], [(29, 9, 20)], 0, []),
  (1010, [(2, 1000, false, 20)], 1, [some (.inr (.inr (.inr (.inr 58)))), some (.inl 10), some (.inr (.inr (.inl (10, 20, false))))], [], [59, 60], [(29, 10, 20)], 0, []),
  (1011, [(2, 1000, false, 20)], 1, [some (.inr (.inr (.inr (.inr 58)))), some (.inl 11), some (.inr (.inr (.inl (11, 20, false))))], [], [59, 60], [(29, 11, 20)], 0, []),
  (1012, [(2, 1000, false, 20)], 1, [some (.inr (.inr (.inr (.inr 58)))), some (.inl 12), some (.inr (.inr (.inl (12, 20, false))))], [], [59, 60], [(29, 12, 20)], 0, []),
  (1013, [(2, 1000, false, 20)], 1, [some (.inr (.inr (.inr (.inr 58)))), some (.inl 13), some (.inr (.inr (.inl (13, 20, false))))], [], [59, 60], [(29, 13, 20)], 0, []),
  (1014, [(2, 1000, false, 20)], 1, [some (.inr (.inr (.inr (.inr 58)))), some (.inl 14), some (.inr (.inr (.inl (14, 20, false))))], [], [59, 60], [(29, 14, 20)], 0, []),
  (1015, [(2, 1000, false, 20)], 1, [some (.inr (.inr (.inr (.inr 58)))), some (.inl 15), some (.inr (.inr (.inl (15, 20, false))))], [], [59, 60], [(29, 15, 20)], 0, []),
  (1016, [(2, 1000, false, 20)], 1, [some (.inr (.inr (.inr (.inr 58)))), some (.inl 16), some (.inr (.inr (.inl (16, 20, false))))], [], [59, 60], [(29, 16, 20)], 0, []),
  (1017, [(2, 1000, false, 20)], 1, [some (.inr (.inr (.inr (.inr 58)))), some (.inl 17), some (.inr (.inr (.inl (17, 20, false))))], [], [59, 60], [(29, 17, 20)], 0, []),
  (1018, [(2, 1000, false, 20)], 1, [some (.inr (.inr (.inr (.inr 58)))), some (.inl 18), some (.inr (.inr (.inl (18, 20, false))))], [], [59, 60], [(29, 18, 20)], 0, []),
  (1019, [(2, 1000, false, 20)], 1, [some (.inr (.inr (.inr (.inr 58)))), some (.inl 19), some (.inr (.inr (.inl (19, 20, true))))], [], [59, 60], [(29, 19, 20)], 0, []),
  (1020, [(2, 1000, false, 20)], 1, [some (.inr (.inr (.inr (.inr 58)))), some (.inl 20), some (.inl 20)], [], [59, 60], [(29, 20, 20)], 0, [])])]
set_option maxRecDepth 1000000 in
theorem ct_X1_dropEmpty_3 : na_Ct gC ev_X1_dropEmpty cc_X1_dropEmpty_3 := nr_chk_ok (cf := (gC, [(38, md_X1_dropEmpty)], [])) ke_C (na_rok_mk (List.forall_mem_cons.mpr ⟨rk_X1_dropEmpty, fun _ h => absurd h List.not_mem_nil⟩)) ndk_C ln_C mo_C pk_C (m := md_X1_dropEmpty) (mi := 38) (fu := 3000) (sp := []) (hd := hd_X1_dropEmpty_3) (mu := 20002) rfl (by decide +kernel)
noncomputable def md_X1_asNumber : na_Md := (kx_X1_asNumber, kc_X1_asNumber, 2, [])
theorem rk_X1_asNumber {ms : List (Nat × na_Md)} {pk : List Nat}  : ∀ e ∈ md_X1_asNumber.2.2.2, na_rk (gC, ms, pk) md_X1_asNumber e := fun _ h => absurd h List.not_mem_nil
noncomputable def md_X1_addTo : na_Md := (kx_X1_addTo, kc_X1_addTo, 6, [(148, .inl 32)])
theorem rk_X1_addTo {ms : List (Nat × na_Md)} {pk : List Nat} (h_X1_asNumber : nk_lk ms 32 = some md_X1_asNumber) : ∀ e ∈ md_X1_addTo.2.2.2, na_rk (gC, ms, pk) md_X1_addTo e := List.forall_mem_cons.mpr ⟨na_rk_i rfl rfl rfl h_X1_asNumber rfl, fun _ h => absurd h List.not_mem_nil⟩
noncomputable def cc_X1_addTo_0 : na_C := ([.inr (.inr (.inr (.inr 49))), .inr (.inr (.inr (.inl false)))], ([], []), 0, [], [], 2, (0, 0), (0, 0))
noncomputable def hd_X1_addTo_0 : List nr_Hd := [(15, [], [(0, [(5, 1000, false, 20)], 1, [some (.inr (.inr (.inr (.inr 49)))), some (.inr (.inr (.inr (.inl false)))), none, some (.inr (.inr (.inr (.inl false)))), none, some (.inr (.inr (.inl (0, 20, false))))], [], [], [], 0, [])])]
set_option maxRecDepth 1000000 in
theorem ct_X1_addTo_0 : na_Ct gC ev_X1_addTo cc_X1_addTo_0 := nr_chk_ok (cf := (gC, [(39, md_X1_addTo), (32, md_X1_asNumber)], [])) ke_C (na_rok_mk (List.forall_mem_cons.mpr ⟨rk_X1_addTo rfl, List.forall_mem_cons.mpr ⟨rk_X1_asNumber, fun _ h => absurd h List.not_mem_nil⟩⟩)) ndk_C ln_C mo_C pk_C (m := md_X1_addTo) (mi := 39) (fu := 3000) (sp := []) (hd := hd_X1_addTo_0) (mu := 20002) rfl (by decide +kernel)
noncomputable def cc_X1_addTo_1 : na_C := ([.inr (.inr (.inr (.inr 52))), .inr (.inr (.inr (.inl false)))], ([], []), 0, [], [], 2, (0, 0), (0, 0))
noncomputable def hd_X1_addTo_1 : List nr_Hd := [(15, [], [(0, [(5, 1000, false, 20)], 1, [some (.inr (.inr (.inr (.inr 52)))), some (.inr (.inr (.inr (.inl false)))), none, some (.inr (.inr (.inr (.inl false)))), none, some (.inr (.inr (.inl (0, 20, false))))], [], [], [], 0, [])])]
set_option maxRecDepth 1000000 in
theorem ct_X1_addTo_1 : na_Ct gC ev_X1_addTo cc_X1_addTo_1 := nr_chk_ok (cf := (gC, [(39, md_X1_addTo), (32, md_X1_asNumber)], [])) ke_C (na_rok_mk (List.forall_mem_cons.mpr ⟨rk_X1_addTo rfl, List.forall_mem_cons.mpr ⟨rk_X1_asNumber, fun _ h => absurd h List.not_mem_nil⟩⟩)) ndk_C ln_C mo_C pk_C (m := md_X1_addTo) (mi := 39) (fu := 3000) (sp := []) (hd := hd_X1_addTo_1) (mu := 20002) rfl (by decide +kernel)
noncomputable def cc_X1_addTo_2 : na_C := ([.inr (.inr (.inr (.inr 55))), .inr (.inr (.inr (.inl false)))], ([], []), 0, [], [], 2, (0, 0), (0, 0))
noncomputable def hd_X1_addTo_2 : List nr_Hd := [(15, [], [(0, [(5, 1000, false, 20)], 1, [some (.inr (.inr (.inr (.inr 55)))), some (.inr (.inr (.inr (.inl false)))), none, some (.inr (.inr (.inr (.inl false)))), none, some (.inr (.inr (.inl (0, 20, false))))], [], [], [], 0, [])])]
set_option maxRecDepth 1000000 in
theorem ct_X1_addTo_2 : na_Ct gC ev_X1_addTo cc_X1_addTo_2 := nr_chk_ok (cf := (gC, [(39, md_X1_addTo), (32, md_X1_asNumber)], [])) ke_C (na_rok_mk (List.forall_mem_cons.mpr ⟨rk_X1_addTo rfl, List.forall_mem_cons.mpr ⟨rk_X1_asNumber, fun _ h => absurd h List.not_mem_nil⟩⟩)) ndk_C ln_C mo_C pk_C (m := md_X1_addTo) (mi := 39) (fu := 3000) (sp := []) (hd := hd_X1_addTo_2) (mu := 20002) rfl (by decide +kernel)
noncomputable def cc_X1_addTo_3 : na_C := ([.inr (.inr (.inr (.inr 58))), .inr (.inr (.inr (.inl false)))], ([], []), 0, [], [], 2, (0, 0), (0, 0))
noncomputable def hd_X1_addTo_3 : List nr_Hd := [(15, [], [(0, [(5, 1000, false, 20)], 1, [some (.inr (.inr (.inr (.inr 58)))), some (.inr (.inr (.inr (.inl false)))), none, some (.inr (.inr (.inr (.inl false)))), none, some (.inr (.inr (.inl (0, 20, false))))], [], [], [], 0, [])])]
set_option maxRecDepth 1000000 in
theorem ct_X1_addTo_3 : na_Ct gC ev_X1_addTo cc_X1_addTo_3 := nr_chk_ok (cf := (gC, [(39, md_X1_addTo), (32, md_X1_asNumber)], [])) ke_C (na_rok_mk (List.forall_mem_cons.mpr ⟨rk_X1_addTo rfl, List.forall_mem_cons.mpr ⟨rk_X1_asNumber, fun _ h => absurd h List.not_mem_nil⟩⟩)) ndk_C ln_C mo_C pk_C (m := md_X1_addTo) (mi := 39) (fu := 3000) (sp := []) (hd := hd_X1_addTo_3) (mu := 20002) rfl (by decide +kernel)
noncomputable def md_X2_wordOf : na_Md := (kx_X2_wordOf, kc_X2_wordOf, 2, [])
theorem rk_X2_wordOf {ms : List (Nat × na_Md)} {pk : List Nat}  : ∀ e ∈ md_X2_wordOf.2.2.2, na_rk (gC, ms, pk) md_X2_wordOf e := fun _ h => absurd h List.not_mem_nil
noncomputable def cc_X2_wordOf_0 : na_C := ([.inr (.inr (.inl (-2147483648, 2147483647, false)))], ([], []), 0, [], [], 1, (-1, 4), (0, 0))
noncomputable def hd_X2_wordOf_0 : List nr_Hd := [(2, [], [(0, [(1, 1000, false, 5)], 1, [some (.inr (.inl 30)), some (.inr (.inr (.inl (0, 5, false))))], [], [], [], 0, [])])]
set_option maxRecDepth 1000000 in
theorem ct_X2_wordOf_0 : na_Ct gC ev_X2_wordOf cc_X2_wordOf_0 := nr_chk_ok (cf := (gC, [(41, md_X2_wordOf)], [])) ke_C (na_rok_mk (List.forall_mem_cons.mpr ⟨rk_X2_wordOf, fun _ h => absurd h List.not_mem_nil⟩)) ndk_C ln_C mo_C pk_C (m := md_X2_wordOf) (mi := 41) (fu := 3000) (sp := []) (hd := hd_X2_wordOf_0) (mu := 5002) rfl (by decide +kernel)
noncomputable def md_X2_choiceOf : na_Md := (kx_X2_choiceOf, kc_X2_choiceOf, 3, [])
theorem rk_X2_choiceOf {ms : List (Nat × na_Md)} {pk : List Nat}  : ∀ e ∈ md_X2_choiceOf.2.2.2, na_rk (gC, ms, pk) md_X2_choiceOf e := fun _ h => absurd h List.not_mem_nil
noncomputable def cc_X2_choiceOf_0 : na_C := ([.inr (.inr (.inl (0, 4, false))), .inr (.inr (.inl (-2147483648, 2147483647, false)))], ([], []), 0, [], [], 1, (0, 3), (0, 0))
noncomputable def hd_X2_choiceOf_0 : List nr_Hd := [(2, [], [(0, [(2, 1000, false, 3)], 1, [some (.inr (.inl 30)), some (.inr (.inl 31)), some (.inr (.inr (.inl (0, 3, false))))], [], [], [], 0, [])])]
set_option maxRecDepth 1000000 in
theorem ct_X2_choiceOf_0 : na_Ct gC ev_X2_choiceOf cc_X2_choiceOf_0 := nr_chk_ok (cf := (gC, [(42, md_X2_choiceOf)], [])) ke_C (na_rok_mk (List.forall_mem_cons.mpr ⟨rk_X2_choiceOf, fun _ h => absurd h List.not_mem_nil⟩)) ndk_C ln_C mo_C pk_C (m := md_X2_choiceOf) (mi := 42) (fu := 3000) (sp := []) (hd := hd_X2_choiceOf_0) (mu := 3002) rfl (by decide +kernel)
noncomputable def cs_X2_wordOf : List na_C := [cc_X2_wordOf_0]
theorem csok_X2_wordOf : ∀ c ∈ cs_X2_wordOf, na_Ct gC ev_X2_wordOf c := List.forall_mem_cons.mpr ⟨ct_X2_wordOf_0, fun _ h => absurd h List.not_mem_nil⟩
noncomputable def cs_X2_choiceOf : List na_C := [cc_X2_choiceOf_0]
theorem csok_X2_choiceOf : ∀ c ∈ cs_X2_choiceOf, na_Ct gC ev_X2_choiceOf c := List.forall_mem_cons.mpr ⟨ct_X2_choiceOf_0, fun _ h => absurd h List.not_mem_nil⟩
noncomputable def md_X2_read : na_Md := (kx_X2_read, kc_X2_read, 4, [(98, .inr (.inl cs_X2_wordOf)), (114, .inr (.inl cs_X2_choiceOf))])
theorem rk_X2_read {ms : List (Nat × na_Md)} {pk : List Nat}  : ∀ e ∈ md_X2_read.2.2.2, na_rk (gC, ms, pk) md_X2_read e := List.forall_mem_cons.mpr ⟨na_rk_c rfl rfl rfl csok_X2_wordOf, List.forall_mem_cons.mpr ⟨na_rk_c rfl rfl rfl csok_X2_choiceOf, fun _ h => absurd h List.not_mem_nil⟩⟩
noncomputable def cc_X2_read_0 : na_C := ([.inr (.inr (.inr (.inr 6))), .inr (.inr (.inr (.inr 41)))], ([], []), 0, [], [7], 1, (-9, 40), (0, 0))
noncomputable def hd_X2_read_0 : List nr_Hd := [(2, [2], [(1000, [], 47, [some (.inr (.inr (.inr (.inr 6)))), some (.inr (.inr (.inr (.inr 41)))), some (.inl 0), none], [], [], [], 0, []),
  (1001, [], 46, [some (.inr (.inr (.inr (.inr 6)))), some (.inr (.inr (.inr (.inr 41)))), some (.inl 1), none], [], [7], [], 0, []),
  (1002, [], 45, [some (.inr (.inr (.inr (.inr 6)))), some (.inr (.inr (.inr (.inr 41)))), some (.inl 2), none], [], [7], [], 0, []),
  (1003, [], 44, [some (.inr (.inr (.inr (.inr 6)))), some (.inr (.inr (.inr (.inr 41)))), some (.inl 3), none], [], [7], [], 0, []),
  (1004, [], 43, [some (.inr (.inr (.inr (.inr 6)))), some (.inr (.inr (.inr (.inr 41)))), some (.inl 4), none], [], [7], [], 0, []),
  (1005, [], 42, [some (.inr (.inr (.inr (.inr 6)))), some (.inr (.inr (.inr (.inr 41)))), some (.inl 5), none], [], [7], [], 0, [])]), (22, [2], [(1000, [], 41, [some (.inr (.inr (.inr (.inr 6)))), some (.inr (.inr (.inr (.inr 41)))), some (.inl 0), none], [], [7], [], 0, []),
  (1001, [], 40, [some (.inr (.inr (.inr (.inr 6)))), some (.inr (.inr (.inr (.inr 41)))), some (.inl 1), none], [], [7], [(22, 1, 40)], 0, []),
  (1002, [], 39, [some (.inr (.inr (.inr (.inr 6)))), some (.inr (.inr (.inr (.inr 41)))), some (.inl 2), none], [], [7], [(22, 2, 40)], 0, []),
  (1003, [], 38, [some (.inr (.inr (.inr (.inr 6)))), some (.inr (.inr (.inr (.inr 41)))), some (.inl 3), none], [], [7], [(22, 3, 40)], 0, []),
  (1004, [], 37, [some (.inr (.inr (.inr (.inr 6)))), some (.inr (.inr (.inr (.inr 41)))), some (.inl 4), none], [], [7], [(22, 4, 40)], 0, []),
  (1005, [], 36, [some (.inr (.inr (.inr (.inr 6)))), some (.inr (.inr (.inr (.inr 41)))), some (.inl 5), none], [], [7], [(22, 5, 40)], 0, []),
  (1006, [], 35, [some (.inr (.inr (.inr (.inr 6)))), some (.inr (.inr (.inr (.inr 41)))), some (.inl 6), none], [], [7], [(22, 6, 40)], 0, []),
  (1007, [], 34, [some (.inr (.inr (.inr (.inr 6)))), some (.inr (.inr (.inr (.inr 41)))), some (.inl 7), none], [], [7], [(22, 7, 40)], 0, []),
  (1008, [], 33, [some (.inr (.inr (.inr (.inr 6)))), some (.inr (.inr (.inr (.inr 41)))), some (.inl 8), none], [], [7], [(22, 8, 40)], 0, []),
  (1009, [], 32, [some (.inr (.inr (.inr (.inr 6)))), some (.inr (.inr (.inr (.inr 41)))), some (.inl 9), none], [], [7], [(22, 9, 40)], 0, []),
  (1010, [], 31, [some (.inr (.inr (.inr (.inr 6)))), some (.inr (.inr (.inr (.inr 41)))), some (.inl 10), none], [], [7], [(22, 10, 40)], 0, []),
  (1011, [], 30, [some (.inr (.inr (.inr (.inr 6)))), some (.inr (.inr (.inr (.inr 41)))), some (.inl 11), none], [], [7], [(22, 11, 40)], 0, []),
  (1012, [], 29, [some (.inr (.inr (.inr (.inr 6)))), some (.inr (.inr (.inr (.inr 41)))), some (.inl 12), none], [], [7], [(22, 12, 40)], 0, []),
  (1013, [], 28, [some (.inr (.inr (.inr (.inr 6)))), some (.inr (.inr (.inr (.inr 41)))), some (.inl 13), none], [], [7], [(22, 13, 40)], 0, []),
  (1014, [], 27, [some (.inr (.inr (.inr (.inr 6)))), some (.inr (.inr (.inr (.inr 41)))), some (.inl 14), none], [], [7], [(22, 14, 40)], 0, []),
  (1015, [], 26, [some (.inr (.inr (.inr (.inr 6)))), some (.inr (.inr (.inr (.inr 41)))), some (.inl 15), none], [], [7], [(22, 15, 40)], 0, []),
  (1016, [], 25, [some (.inr (.inr (.inr (.inr 6)))), some (.inr (.inr (.inr (.inr 41)))), some (.inl 16), none], [], [7], [(22, 16, 40)], 0, []),
  (1017, [], 24, [some (.inr (.inr (.inr (.inr 6)))), some (.inr (.inr (.inr (.inr 41)))), some (.inl 17), none], [], [7], [(22, 17, 40)], 0, []),
  (1018, [], 23, [some (.inr (.inr (.inr (.inr 6)))), some (.inr (.inr (.inr (.inr 41)))), some (.inl 18), none], [], [7], [(22, 18, 40)], 0, []),
  (1019, [], 22, [some (.inr (.inr (.inr (.inr 6)))), some (.inr (.inr (.inr (.inr 41)))), some (.inl 19), none], [], [7], [(22, 19, 40)], 0, []),
  (1020, [], 21, [some (.inr (.inr (.inr (.inr 6)))), some (.inr (.inr (.inr (.inr 41)))), some (.inl 20), none], [], [7], [(22, 20, 40)], 0, []),
  (1021, [], 20, [some (.inr (.inr (.inr (.inr 6)))), some (.inr (.inr (.inr (.inr 41)))), some (.inl 21), none], [], [7], [(22, 21, 40)], 0, []),
  (1022, [], 19, [some (.inr (.inr (.inr (.inr 6)))), some (.inr (.inr (.inr (.inr 41)))), some (.inl 22), none], [], [7], [(22, 22, 40)], 0, []),
  (1023, [], 18, [some (.inr (.inr (.inr (.inr 6)))), some (.inr (.inr (.inr (.inr 41)))), some (.inl 23), none], [], [7], [(22, 23, 40)], 0, []),
  (1024, [], 17, [some (.inr (.inr (.inr (.inr 6)))), some (.inr (.inr (.inr (.inr 41)))), some (.inl 24), none], [], [7], [(22, 24, 40)], 0, []),
  (1025, [], 16, [some (.inr (.inr (.inr (.inr 6)))), some (.inr (.inr (.inr (.inr 41)))), some (.inl 25), none], [], [7], [(22, 25, 40)], 0, []),
  (1026, [], 15, [some (.inr (.inr (.inr (.inr 6)))), some (.inr (.inr (.inr (.inr 41)))), some (.inl 26), none], [], [7], [(22, 26, 40)], 0, []),
  (1027, [], 14, [some (.inr (.inr (.inr (.inr 6)))), some (.inr (.inr (.inr (.inr 41)))), some (.inl 27), none], [], [7], [(22, 27, 40)], 0, []),
  (1028, [], 13, [some (.inr (.inr (.inr (.inr 6)))), some (.inr (.inr (.inr (.inr 41)))), some (.inl 28), none], [], [7], [(22, 28, 40)], 0, []),
  (1029, [], 12, [some (.inr (.inr (.inr (.inr 6)))), some (.inr (.inr (.inr (.inr 41)))), some (.inl 29), none], [], [7], [(22, 29, 40)], 0, []),
  (1030, [], 11, [some (.inr (.inr (.inr (.inr 6)))), some (.inr (.inr (.inr (.inr 41)))), some (.inl 30), none], [], [7], [(22, 30, 40)], 0, []),
  (1031, [], 10, [some (.inr (.inr (.inr (.inr 6)))), some (.inr (.inr (.inr (.inr 41)))), some (.inl 31), none], [], [7], [(22, 31, 40)], 0, []),
  (1032, [], 9, [some (.inr (.inr (.inr (.inr 6)))), some (.inr (.inr (.inr (.inr 41)))), some (.inl 32), none], [], [7], [(22, 32, 40)], 0, []),
  (1033, [], 8, [some (.inr (.inr (.inr (.inr 6)))), some (.inr (.inr (.inr (.inr 41)))), some (.inl 33), none], [], [7], [(22, 33, 40)], 0, []),
  (1034, [], 7, [some (.inr (.inr (.inr (.inr 6)))), some (.inr (.inr (.inr (.inr 41)))), some (.inl 34), none], [], [7], [(22, 34, 40)], 0, []),
  (1035, [], 6, [some (.inr (.inr (.inr (.inr 6)))), some (.inr (.inr (.inr (.inr 41)))), some (.inl 35), none], [], [7], [(22, 35, 40)], 0, []),
  (1036, [], 5, [some (.inr (.inr (.inr (.inr 6)))), some (.inr (.inr (.inr (.inr 41)))), some (.inl 36), none], [], [7], [(22, 36, 40)], 0, []),
  (1037, [], 4, [some (.inr (.inr (.inr (.inr 6)))), some (.inr (.inr (.inr (.inr 41)))), some (.inl 37), none], [], [7], [(22, 37, 40)], 0, []),
  (1038, [], 3, [some (.inr (.inr (.inr (.inr 6)))), some (.inr (.inr (.inr (.inr 41)))), some (.inl 38), none], [], [7], [(22, 38, 40)], 0, []),
  (1039, [], 2, [some (.inr (.inr (.inr (.inr 6)))), some (.inr (.inr (.inr (.inr 41)))), some (.inl 39), none], [], [7], [(22, 39, 40)], 0, []),
  (1040, [], 1, [some (.inr (.inr (.inr (.inr 6)))), some (.inr (.inr (.inr (.inr 41)))), some (.inl 40), none], [], [7], [(22, 40, 40)], 0, [])])]
set_option maxRecDepth 1000000 in
theorem ct_X2_read_0 : na_Ct gC ev_X2_read cc_X2_read_0 := nr_chk_ok (cf := (gC, [(43, md_X2_read)], [])) ke_C (na_rok_mk (List.forall_mem_cons.mpr ⟨rk_X2_read, fun _ h => absurd h List.not_mem_nil⟩)) ndk_C ln_C mo_C pk_C (m := md_X2_read) (mi := 43) (fu := 3000) (sp := []) (hd := hd_X2_read_0) (mu := 48) rfl (by decide +kernel)
