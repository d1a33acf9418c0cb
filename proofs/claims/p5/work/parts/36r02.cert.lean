def md_X6_partOf : na_Md := (kx_X6_partOf, kc_X6_partOf, 3, [])
theorem rk_X6_partOf {ms : List (Nat × na_Md)} {pk : List Nat}  : ∀ e ∈ md_X6_partOf.2.2.2, na_rk (gR, ms, pk) md_X6_partOf e := fun _ h => absurd h List.not_mem_nil
def md_X6_ownersOf : na_Md := (kx_X6_ownersOf, kc_X6_ownersOf, 4, [(932, .inl 182)])
theorem rk_X6_ownersOf {ms : List (Nat × na_Md)} {pk : List Nat} (h_X6_partOf : nk_lk ms 182 = some md_X6_partOf) : ∀ e ∈ md_X6_ownersOf.2.2.2, na_rk (gR, ms, pk) md_X6_ownersOf e := List.forall_mem_cons.mpr ⟨na_rk_i rfl rfl rfl h_X6_partOf rfl, fun _ h => absurd h List.not_mem_nil⟩
def cc_X6_ownersOf_0 : na_C := ([.inr (.inr (.inr (.inr 0))), .inr (.inr (.inl (0, 15, false)))], ([], []), 0, [], [], 1, (-2147483648, 2147483647), (0, 0))
def hd_X6_ownersOf_0 : List na_Hd := [(4, [3], [(1000, 7, [some (.inr (.inr (.inr (.inr 0)))), some (.inr (.inl 9)), some (.inl 0), some (.inl 0)], [], [], [], 0, []),
  (1001, 6, [some (.inr (.inr (.inr (.inr 0)))), some (.inr (.inl 9)), some (.inr (.inr (.inl (-2147483648, 2147483647, false)))), some (.inl 1)], [], [], [], 0, []),
  (1002, 5, [some (.inr (.inr (.inr (.inr 0)))), some (.inr (.inl 9)), some (.inr (.inr (.inl (-2147483648, 2147483647, false)))), some (.inl 2)], [], [], [], 0, []),
  (1003, 4, [some (.inr (.inr (.inr (.inr 0)))), some (.inr (.inl 9)), some (.inr (.inr (.inl (-2147483648, 2147483647, false)))), some (.inl 3)], [], [], [], 0, []),
  (1004, 3, [some (.inr (.inr (.inr (.inr 0)))), some (.inr (.inl 9)), some (.inr (.inr (.inl (-2147483648, 2147483647, false)))), some (.inl 4)], [], [], [], 0, []),
  (1005, 2, [some (.inr (.inr (.inr (.inr 0)))), some (.inr (.inl 9)), some (.inr (.inr (.inl (-2147483648, 2147483647, false)))), some (.inl 5)], [], [], [], 0, []),
  (1006, 1, [some (.inr (.inr (.inr (.inr 0)))), some (.inr (.inl 9)), some (.inr (.inr (.inl (-2147483648, 2147483647, false)))), some (.inl 6)], [], [], [], 0, [])])]
set_option maxRecDepth 1000000 in
theorem ct_X6_ownersOf_0 : na_Ct gR ev_X6_ownersOf cc_X6_ownersOf_0 := na_chk_ok (cf := (gR, [(184, md_X6_ownersOf), (182, md_X6_partOf)], [17])) ke_R (na_rok_mk (List.forall_mem_cons.mpr ⟨rk_X6_ownersOf rfl, List.forall_mem_cons.mpr ⟨rk_X6_partOf, fun _ h => absurd h List.not_mem_nil⟩⟩)) ndk_R ln_R mo_R pk_R (m := md_X6_ownersOf) (mi := 184) (fu := 3000) (sp := []) (hd := hd_X6_ownersOf_0) (mu := 8) rfl (nf_chk_ok (by decide +kernel))
def cs_X6_begins : List na_C := [cc_X6_begins_0]
theorem csok_X6_begins : ∀ c ∈ cs_X6_begins, na_Ct gR ev_X6_begins c := List.forall_mem_cons.mpr ⟨ct_X6_begins_0, fun _ h => absurd h List.not_mem_nil⟩
def cs_X6_does : List na_C := [cc_X6_does_0]
theorem csok_X6_does : ∀ c ∈ cs_X6_does, na_Ct gR ev_X6_does c := List.forall_mem_cons.mpr ⟨ct_X6_does_0, fun _ h => absurd h List.not_mem_nil⟩
def md_X6_setTrails : na_Md := (kx_X6_setTrails, kc_X6_setTrails, 5, [(868, .inr (.inl cs_X6_begins)), (880, .inr (.inl cs_X6_does)), (608, .inr (.inr 0)), (932, .inl 182)])
theorem rk_X6_setTrails {ms : List (Nat × na_Md)} {pk : List Nat} (h_X6_partOf : nk_lk ms 182 = some md_X6_partOf) : ∀ e ∈ md_X6_setTrails.2.2.2, na_rk (gR, ms, pk) md_X6_setTrails e := List.forall_mem_cons.mpr ⟨na_rk_c rfl rfl rfl csok_X6_begins, List.forall_mem_cons.mpr ⟨na_rk_c rfl rfl rfl csok_X6_does, List.forall_mem_cons.mpr ⟨na_rk_m rfl rfl rfl mk_R, List.forall_mem_cons.mpr ⟨na_rk_i rfl rfl rfl h_X6_partOf rfl, fun _ h => absurd h List.not_mem_nil⟩⟩⟩⟩
def cc_X6_setTrails_0 : na_C := ([.inr (.inr (.inr (.inr 0))), .inr (.inr (.inl (-2147483648, 2147483647, false))), .inr (.inr (.inl (-2147483648, 2147483647, false)))], ([], []), 0, [(5, 0, 1), (6, -2147483648, 2147483647), (7, -2147483648, 2147483647)], [10, 11, 12, 13], 0, (0, 0), (0, 0))
def hd_X6_setTrails_0 : List na_Hd := [(8, [3], [(1000, 97, [some (.inr (.inr (.inr (.inr 0)))), some (.inr (.inl 9)), some (.inr (.inl 10)), some (.inl 0), none], [5, 6, 7], [10, 11, 12, 13], [], 1, []),
  (1001, 89, [some (.inr (.inr (.inr (.inr 0)))), some (.inr (.inl 9)), some (.inr (.inl 10)), some (.inl 1), some (.inl 6)], [5, 6, 7], [10, 11, 12, 13], [(3, 1, 12)], 2, []),
  (1002, 81, [some (.inr (.inr (.inr (.inr 0)))), some (.inr (.inl 9)), some (.inr (.inl 10)), some (.inl 2), some (.inl 6)], [5, 6, 7], [10, 11, 12, 13], [(3, 2, 12)], 3, []),
  (1003, 73, [some (.inr (.inr (.inr (.inr 0)))), some (.inr (.inl 9)), some (.inr (.inl 10)), some (.inl 3), some (.inl 6)], [5, 6, 7], [10, 11, 12, 13], [(3, 3, 12)], 4, []),
  (1004, 65, [some (.inr (.inr (.inr (.inr 0)))), some (.inr (.inl 9)), some (.inr (.inl 10)), some (.inl 4), some (.inl 6)], [5, 6, 7], [10, 11, 12, 13], [(3, 4, 12)], 5, []),
  (1005, 57, [some (.inr (.inr (.inr (.inr 0)))), some (.inr (.inl 9)), some (.inr (.inl 10)), some (.inl 5), some (.inl 6)], [5, 6, 7], [10, 11, 12, 13], [(3, 5, 12)], 6, []),
  (1006, 49, [some (.inr (.inr (.inr (.inr 0)))), some (.inr (.inl 9)), some (.inr (.inl 10)), some (.inl 6), some (.inl 6)], [5, 6, 7], [10, 11, 12, 13], [(3, 6, 12)], 7, []),
  (1007, 41, [some (.inr (.inr (.inr (.inr 0)))), some (.inr (.inl 9)), some (.inr (.inl 10)), some (.inl 7), some (.inl 6)], [5, 6, 7], [10, 11, 12, 13], [(3, 7, 12)], 8, []),
  (1008, 33, [some (.inr (.inr (.inr (.inr 0)))), some (.inr (.inl 9)), some (.inr (.inl 10)), some (.inl 8), some (.inl 6)], [5, 6, 7], [10, 11, 12, 13], [(3, 8, 12)], 9, []),
  (1009, 25, [some (.inr (.inr (.inr (.inr 0)))), some (.inr (.inl 9)), some (.inr (.inl 10)), some (.inl 9), some (.inl 6)], [5, 6, 7], [10, 11, 12, 13], [(3, 9, 12)], 10, []),
  (1010, 17, [some (.inr (.inr (.inr (.inr 0)))), some (.inr (.inl 9)), some (.inr (.inl 10)), some (.inl 10), some (.inl 6)], [5, 6, 7], [10, 11, 12, 13], [(3, 10, 12)], 11, []),
  (1011, 9, [some (.inr (.inr (.inr (.inr 0)))), some (.inr (.inl 9)), some (.inr (.inl 10)), some (.inl 11), some (.inl 6)], [5, 6, 7], [10, 11, 12, 13], [(3, 11, 12)], 12, []),
  (1012, 1, [some (.inr (.inr (.inr (.inr 0)))), some (.inr (.inl 9)), some (.inr (.inl 10)), some (.inl 12), some (.inl 6)], [5, 6, 7], [10, 11, 12, 13], [(3, 12, 12)], 13, [])]), (24, [3, 4], [(1000001000, 96, [some (.inr (.inr (.inr (.inr 0)))), some (.inr (.inl 9)), some (.inr (.inl 10)), some (.inl 0), some (.inl 0)], [5, 6, 7], [10, 11, 12, 13], [(3, 1, 12)], 2, []),
  (1000001001, 95, [some (.inr (.inr (.inr (.inr 0)))), some (.inr (.inl 9)), some (.inr (.inl 10)), some (.inl 0), some (.inl 1)], [5, 6, 7], [10, 11, 12, 13], [(3, 1, 12)], 2, []),
  (1000001002, 94, [some (.inr (.inr (.inr (.inr 0)))), some (.inr (.inl 9)), some (.inr (.inl 10)), some (.inl 0), some (.inl 2)], [5, 6, 7], [10, 11, 12, 13], [(3, 1, 12)], 2, []),
  (1000001003, 93, [some (.inr (.inr (.inr (.inr 0)))), some (.inr (.inl 9)), some (.inr (.inl 10)), some (.inl 0), some (.inl 3)], [5, 6, 7], [10, 11, 12, 13], [(3, 1, 12)], 2, []),
  (1000001004, 92, [some (.inr (.inr (.inr (.inr 0)))), some (.inr (.inl 9)), some (.inr (.inl 10)), some (.inl 0), some (.inl 4)], [5, 6, 7], [10, 11, 12, 13], [(3, 1, 12)], 2, []),
  (1000001005, 91, [some (.inr (.inr (.inr (.inr 0)))), some (.inr (.inl 9)), some (.inr (.inl 10)), some (.inl 0), some (.inl 5)], [5, 6, 7], [10, 11, 12, 13], [(3, 1, 12)], 2, []),
  (1000001006, 90, [some (.inr (.inr (.inr (.inr 0)))), some (.inr (.inl 9)), some (.inr (.inl 10)), some (.inl 0), some (.inl 6)], [5, 6, 7], [10, 11, 12, 13], [(3, 1, 12)], 2, []),
  (1001001000, 88, [some (.inr (.inr (.inr (.inr 0)))), some (.inr (.inl 9)), some (.inr (.inl 10)), some (.inl 1), some (.inl 0)], [5, 6, 7], [10, 11, 12, 13], [(3, 2, 12)], 3, []),
  (1001001001, 87, [some (.inr (.inr (.inr (.inr 0)))), some (.inr (.inl 9)), some (.inr (.inl 10)), some (.inl 1), some (.inl 1)], [5, 6, 7], [10, 11, 12, 13], [(3, 2, 12)], 3, []),
  (1001001002, 86, [some (.inr (.inr (.inr (.inr 0)))), some (.inr (.inl 9)), some (.inr (.inl 10)), some (.inl 1), some (.inl 2)], [5, 6, 7], [10, 11, 12, 13], [(3, 2, 12)], 3, []),
  (1001001003, 85, [some (.inr (.inr (.inr (.inr 0)))), some (.inr (.inl 9)), some (.inr (.inl 10)), some (.inl 1), some (.inl 3)], [5, 6, 7], [10, 11, 12, 13], [(3, 2, 12)], 3, []),
  (1001001004, 84, [some (.inr (.inr (.inr (.inr 0)))), some (.inr (.inl 9)), some (.inr (.inl 10)), some (.inl 1), some (.inl 4)], [5, 6, 7], [10, 11, 12, 13], [(3, 2, 12)], 3, []),
  (1001001005, 83, [some (.inr (.inr (.inr (.inr 0)))), some (.inr (.inl 9)), some (.inr (.inl 10)), some (.inl 1), some (.inl 5)], [5, 6, 7], [10, 11, 12, 13], [(3, 2, 12)], 3, []),
  (1001001006, 82, [some (.inr (.inr (.inr (.inr 0)))), some (.inr (.inl 9)), some (.inr (.inl 10)), some (.inl 1), some (.inl 6)], [5, 6, 7], [10, 11, 12, 13], [(3, 2, 12)], 3, []),
  (1002001000, 80, [some (.inr (.inr (.inr (.inr 0)))), some (.inr (.inl 9)), some (.inr (.inl 10)), some (.inl 2), some (.inl 0)], [5, 6, 7], [10, 11, 12, 13], [(3, 3, 12)], 4, []),
  (1002001001, 79, [some (.inr (.inr (.inr (.inr 0)))), some (.inr (.inl 9)), some (.inr (.inl 10)), some (.inl 2), some (.inl 1)], [5, 6, 7], [10, 11, 12, 13], [(3, 3, 12)], 4, []),
  (1002001002, 78, [some (.inr (.inr (.inr (.inr 0)))), some (.inr (.inl 9)), some (.inr (.inl 10)), some (.inl 2), some (.inl 2)], [5, 6, 7], [10, 11, 12, 13], [(3, 3, 12)], 4, []),
  (1002001003, 77, [some (.inr (.inr (.inr (.inr 0)))), some (.inr (.inl 9)), some (.inr (.inl 10)), some (.inl 2), some (.inl 3)], [5, 6, 7], [10, 11, 12, 13], [(3, 3, 12)], 4, []),
  (1002001004, 76, [some (.inr (.inr (.inr (.inr 0)))), some (.inr (.inl 9)), some (.inr (.inl 10)), some (.inl 2), some (.inl 4)], [5, 6, 7], [10, 11, 12, 13], [(3, 3, 12)], 4, []),
  (1002001005, 75, [some (.inr (.inr (.inr (.inr 0)))), some (.inr (.inl 9)), some (.inr (.inl 10)), some (.inl 2), some (.inl 5)], [5, 6, 7], [10, 11, 12, 13], [(3, 3, 12)], 4, []),
  (1002001006, 74, [some (.inr (.inr (.inr (.inr 0)))), some (.inr (.inl 9)), some (.inr (.inl 10)), some (.inl 2), some (.inl 6)], [5, 6, 7], [10, 11, 12, 13], [(3, 3, 12)], 4, []),
  (1003001000, 72, [some (.inr (.inr (.inr (.inr 0)))), some (.inr (.inl 9)), some (.inr (.inl 10)), some (.inl 3), some (.inl 0)], [5, 6, 7], [10, 11, 12, 13], [(3, 4, 12)], 5, []),
  (1003001001, 71, [some (.inr (.inr (.inr (.inr 0)))), some (.inr (.inl 9)), some (.inr (.inl 10)), some (.inl 3), some (.inl 1)], [5, 6, 7], [10, 11, 12, 13], [(3, 4, 12)], 5, []),
  (1003001002, 70, [some (.inr (.inr (.inr (.inr 0)))), some (.inr (.inl 9)), some (.inr (.inl 10)), some (.inl 3), some (.inl 2)], [5, 6, 7], [10, 11, 12, 13], [(3, 4, 12)], 5, []),
  (1003001003, 69, [some (.inr (.inr (.inr (.inr 0)))), some (.inr (.inl 9)), some (.inr (.inl 10)), some (.inl 3), some (.inl 3)], [5, 6, 7], [10, 11, 12, 13], [(3, 4, 12)], 5, []),
  (1003001004, 68, [some (.inr (.inr (.inr (.inr 0)))), some (.inr (.inl 9)), some (.inr (.inl 10)), some (.inl 3), some (.inl 4)], [5, 6, 7], [10, 11, 12, 13], [(3, 4, 12)], 5, []),
  (1003001005, 67, [some (.inr (.inr (.inr (.inr 0)))), some (.inr (.inl 9)), some (.inr (.inl 10)), some (.inl 3), some (.inl 5)], [5, 6, 7], [10, 11, 12, 13], [(3, 4, 12)], 5, []),
  (1003001006, 66, [some (.inr (.inr (.inr (.inr 0)))), some (.inr (.inl 9)), some (.inr (.inl 10)), some (.inl 3), some (.inl 6)], [5, 6, 7], [10, 11, 12, 13], [(3, 4, 12)], 5, []),
  (1004001000, 64, [some (.inr (.inr (.inr (.inr 0)))), some (.inr (.inl 9)), some (.inr (.inl 10)), some (.inl 4), some (.inl 0)], [5, 6, 7], [10, 11, 12, 13], [(3, 5, 12)], 6, []),
  (1004001001, 63, [some (.inr (.inr (.inr (.inr 0)))), some (.inr (.inl 9)), some (.inr (.inl 10)), some (.inl 4), some (.inl 1)], [5, 6, 7], [10, 11, 12, 13], [(3, 5, 12)], 6, []),
  (1004001002, 62, [some (.inr (.inr (.inr (.inr 0)))), some (.inr (.inl 9)), some (.inr (.inl 10)), some (.inl 4), some (.inl 2)], [5, 6, 7], [10, 11, 12, 13], [(3, 5, 12)], 6, []),
  (1004001003, 61, [some (.inr (.inr (.inr (.inr 0)))), some (.inr (.inl 9)), some (.inr (.inl 10)), some (.inl 4), some (.inl 3)], [5, 6, 7], [10, 11, 12, 13], [(3, 5, 12)], 6, []),
  (1004001004, 60, [some (.inr (.inr (.inr (.inr 0)))), some (.inr (.inl 9)), some (.inr (.inl 10)), some (.inl 4), some (.inl 4)], [5, 6, 7], [10, 11, 12, 13], [(3, 5, 12)], 6, []),
  (1004001005, 59, [some (.inr (.inr (.inr (.inr 0)))), some (.inr (.inl 9)), some (.inr (.inl 10)), some (.inl 4), some (.inl 5)], [5, 6, 7], [10, 11, 12, 13], [(3, 5, 12)], 6, []),
  (1004001006, 58, [some (.inr (.inr (.inr (.inr 0)))), some (.inr (.inl 9)), some (.inr (.inl 10)), some (.inl 4), some (.inl 6)], [5, 6, 7], [10, 11, 12, 13], [(3, 5, 12)], 6, []),
  (1005001000, 56, [some (.inr (.inr (.inr (.inr 0)))), some (.inr (.inl 9)), some (.inr (.inl 10)), some (.inl 5), some (.inl 0)], [5, 6, 7], [10, 11, 12, 13], [(3, 6, 12)], 7, []),
  (1005001001, 55, [some (.inr (.inr (.inr (.inr 0)))), some (.inr (.inl 9)), some (.inr (.inl 10)), some (.inl 5), some (.inl 1)], [5, 6, 7], [10, 11, 12, 13], [(3, 6, 12)], 7, []),
  (1005001002, 54, [some (.inr (.inr (.inr (.inr 0)))), some (.inr (.inl 9)), some (.inr (.inl 10)), some (.inl 5), some (.inl 2)], [5, 6, 7], [10, 11, 12, 13], [(3, 6, 12)], 7, []),
  (1005001003, 53, [some (.inr (.inr (.inr (.inr 0)))), some (.inr (.inl 9)), some (.inr (.inl 10)), some (.inl 5), some (.inl 3)], [5, 6, 7], [10, 11, 12, 13], [(3, 6, 12)], 7, []),
  (1005001004, 52, [some (.inr (.inr (.inr (.inr 0)))), some (.inr (.inl 9)), some (.inr (.inl 10)), some (.inl 5), some (.inl 4)], [5, 6, 7], [10, 11, 12, 13], [(3, 6, 12)], 7, []),
  (1005001005, 51, [some (.inr (.inr (.inr (.inr 0)))), some (.inr (.inl 9)), some (.inr (.inl 10)), some (.inl 5), some (.inl 5)], [5, 6, 7], [10, 11, 12, 13], [(3, 6, 12)], 7, []),
  (1005001006, 50, [some (.inr (.inr (.inr (.inr 0)))), some (.inr (.inl 9)), some (.inr (.inl 10)), some (.inl 5), some (.inl 6)], [5, 6, 7], [10, 11, 12, 13], [(3, 6, 12)], 7, []),
  (1006001000, 48, [some (.inr (.inr (.inr (.inr 0)))), some (.inr (.inl 9)), some (.inr (.inl 10)), some (.inl 6), some (.inl 0)], [5, 6, 7], [10, 11, 12, 13], [(3, 7, 12)], 8, []),
  (1006001001, 47, [some (.inr (.inr (.inr (.inr 0)))), some (.inr (.inl 9)), some (.inr (.inl 10)), some (.inl 6), some (.inl 1)], [5, 6, 7], [10, 11, 12, 13], [(3, 7, 12)], 8, []),
  (1006001002, 46, [some (.inr (.inr (.inr (.inr 0)))), some (.inr (.inl 9)), some (.inr (.inl 10)), some (.inl 6), some (.inl 2)], [5, 6, 7], [10, 11, 12, 13], [(3, 7, 12)], 8, []),
  (1006001003, 45, [some (.inr (.inr (.inr (.inr 0)))), some (.inr (.inl 9)), some (.inr (.inl 10)), some (.inl 6), some (.inl 3)], [5, 6, 7], [10, 11, 12, 13], [(3, 7, 12)], 8, []),
  (1006001004, 44, [some (.inr (.inr (.inr (.inr 0)))), some (.inr (.inl 9)), some (.inr (.inl 10)), some (.inl 6), some (.inl 4)], [5, 6, 7], [10, 11, 12, 13], [(3, 7, 12)], 8, []),
  (1006001005, 43, [some (.inr (.inr (.inr (.inr 0)))), some (.inr (.inl 9)), some (.inr (.inl 10)), some (.inl 6), some (.inl 5)], [5, 6, 7], [10, 11, 12, 13], [(3, 7, 12)], 8, []),
  (1006001006, 42, [some (.inr (.inr (.inr (.inr 0)))), some (.inr (.inl 9)), some (.inr (.inl 10)), some (.inl 6), some (.inl 6)], [5, 6, 7], [10, 11, 12, 13], [(3, 7, 12)], 8, []),
  (1007001000, 40, [some (.inr (.inr (.inr (.inr 0)))), some (.inr (.inl 9)), some (.inr (.inl 10)), some (.inl 7), some (.inl 0)], [5, 6, 7], [10, 11, 12, 13], [(3, 8, 12)], 9, []),
  (1007001001, 39, [some (.inr (.inr (.inr (.inr 0)))), some (.inr (.inl 9)), some (.inr (.inl 10)), some (.inl 7), some (.inl 1)], [5, 6, 7], [10, 11, 12, 13], [(3, 8, 12)], 9, []),
  (1007001002, 38, [some (.inr (.inr (.inr (.inr 0)))), some (.inr (.inl 9)), some (.inr (.inl 10)), some (.inl 7), some (.inl 2)], [5, 6, 7], [10, 11, 12, 13], [(3, 8, 12)], 9, []),
  (1007001003, 37, [some (.inr (.inr (.inr (.inr 0)))), some (.inr (.inl 9)), some (.inr (.inl 10)), some (.inl 7), some (.inl 3)], [5, 6, 7], [10, 11, 12, 13], [(3, 8, 12)], 9, []),
  (1007001004, 36, [some (.inr (.inr (.inr (.inr 0)))), some (.inr (.inl 9)), some (.inr (.inl 10)), some (.inl 7), some (.inl 4)], [5, 6, 7], [10, 11, 12, 13], [(3, 8, 12)], 9, []),
  (1007001005, 35, [some (.inr (.inr (.inr (.inr 0)))), some (.inr (.inl 9)), some (.inr (.inl 10)), some (.inl 7), some (.inl 5)], [5, 6, 7], [10, 11, 12, 13], [(3, 8, 12)], 9, []),
  (1007001006, 34, [some (.inr (.inr (.inr (.inr 0)))), some (.inr (.inl 9)), some (.inr (.inl 10)), some (.inl 7), some (.inl 6)], [5, 6, 7], [10, 11, 12, 13], [(3, 8, 12)], 9, []),
  (1008001000, 32, [some (.inr (.inr (.inr (.inr 0)))), some (.inr (.inl 9)), some (.inr (.inl 10)), some (.inl 8), some (.inl 0)], [5, 6, 7], [10, 11, 12, 13], [(3, 9, 12)], 10, []),
  (1008001001, 31, [some (.inr (.inr (.inr (.inr 0)))), some (.inr (.inl 9)), some (.inr (.inl 10)), some (.inl 8), some (.inl 1)], [5, 6, 7], [10, 11, 12, 13], [(3, 9, 12)], 10, []),
  (1008001002, 30, [some (.inr (.inr (.inr (.inr 0)))), some (.inr (.inl 9)), some (.inr (.inl 10)), some (.inl 8), some (.inl 2)], [5, 6, 7], [10, 11, 12, 13], [(3, 9, 12)], 10, []),
  (1008001003, 29, [some (.inr (.inr (.inr (.inr 0)))), some (.inr (.inl 9)), some (.inr (.inl 10)), some (.inl 8), some (.inl 3)], [5, 6, 7], [10, 11, 12, 13], [(3, 9, 12)], 10, []),
  (1008001004, 28, [some (.inr (.inr (.inr (.inr 0)))), some (.inr (.inl 9)), some (.inr (.inl 10)), some (.inl 8), some (.inl 4)], [5, 6, 7], [10, 11, 12, 13], [(3, 9, 12)], 10, []),
  (1008001005, 27, [some (.inr (.inr (.inr (.inr 0)))), some (.inr (.inl 9)), some (.inr (.inl 10)), some (.inl 8), some (.inl 5)], [5, 6, 7], [10, 11, 12, 13], [(3, 9, 12)], 10, []),
  (1008001006, 26, [some (.inr (.inr (.inr (.inr 0)))), some (.inr (.inl 9)), some (.inr (.inl 10)), some (.inl 8), some (.inl 6)], [5, 6, 7], [10, 11, 12, 13], [(3, 9, 12)], 10, []),
  (1009001000, 24, [some (.inr (.inr (.inr (.inr 0)))), some (.inr (.inl 9)), some (.inr (.inl 10)), some (.inl 9), some (.inl 0)], [5, 6, 7], [10, 11, 12, 13], [(3, 10, 12)], 11, []),
  (1009001001, 23, [some (.inr (.inr (.inr (.inr 0)))), some (.inr (.inl 9)), some (.inr (.inl 10)), some (.inl 9), some (.inl 1)], [5, 6, 7], [10, 11, 12, 13], [(3, 10, 12)], 11, []),
  (1009001002, 22, [some (.inr (.inr (.inr (.inr 0)))), some (.inr (.inl 9)), some (.inr (.inl 10)), some (.inl 9), some (.inl 2)], [5, 6, 7], [10, 11, 12, 13], [(3, 10, 12)], 11, []),
  (1009001003, 21, [some (.inr (.inr (.inr (.inr 0)))), some (.inr (.inl 9)), some (.inr (.inl 10)), some (.inl 9), some (.inl 3)], [5, 6, 7], [10, 11, 12, 13], [(3, 10, 12)], 11, []),
  (1009001004, 20, [some (.inr (.inr (.inr (.inr 0)))), some (.inr (.inl 9)), some (.inr (.inl 10)), some (.inl 9), some (.inl 4)], [5, 6, 7], [10, 11, 12, 13], [(3, 10, 12)], 11, []),
  (1009001005, 19, [some (.inr (.inr (.inr (.inr 0)))), some (.inr (.inl 9)), some (.inr (.inl 10)), some (.inl 9), some (.inl 5)], [5, 6, 7], [10, 11, 12, 13], [(3, 10, 12)], 11, []),
  (1009001006, 18, [some (.inr (.inr (.inr (.inr 0)))), some (.inr (.inl 9)), some (.inr (.inl 10)), some (.inl 9), some (.inl 6)], [5, 6, 7], [10, 11, 12, 13], [(3, 10, 12)], 11, []),
  (1010001000, 16, [some (.inr (.inr (.inr (.inr 0)))), some (.inr (.inl 9)), some (.inr (.inl 10)), some (.inl 10), some (.inl 0)], [5, 6, 7], [10, 11, 12, 13], [(3, 11, 12)], 12, []),
  (1010001001, 15, [some (.inr (.inr (.inr (.inr 0)))), some (.inr (.inl 9)), some (.inr (.inl 10)), some (.inl 10), some (.inl 1)], [5, 6, 7], [10, 11, 12, 13], [(3, 11, 12)], 12, []),
  (1010001002, 14, [some (.inr (.inr (.inr (.inr 0)))), some (.inr (.inl 9)), some (.inr (.inl 10)), some (.inl 10), some (.inl 2)], [5, 6, 7], [10, 11, 12, 13], [(3, 11, 12)], 12, []),
  (1010001003, 13, [some (.inr (.inr (.inr (.inr 0)))), some (.inr (.inl 9)), some (.inr (.inl 10)), some (.inl 10), some (.inl 3)], [5, 6, 7], [10, 11, 12, 13], [(3, 11, 12)], 12, []),
  (1010001004, 12, [some (.inr (.inr (.inr (.inr 0)))), some (.inr (.inl 9)), some (.inr (.inl 10)), some (.inl 10), some (.inl 4)], [5, 6, 7], [10, 11, 12, 13], [(3, 11, 12)], 12, []),
  (1010001005, 11, [some (.inr (.inr (.inr (.inr 0)))), some (.inr (.inl 9)), some (.inr (.inl 10)), some (.inl 10), some (.inl 5)], [5, 6, 7], [10, 11, 12, 13], [(3, 11, 12)], 12, []),
  (1010001006, 10, [some (.inr (.inr (.inr (.inr 0)))), some (.inr (.inl 9)), some (.inr (.inl 10)), some (.inl 10), some (.inl 6)], [5, 6, 7], [10, 11, 12, 13], [(3, 11, 12)], 12, []),
  (1011001000, 8, [some (.inr (.inr (.inr (.inr 0)))), some (.inr (.inl 9)), some (.inr (.inl 10)), some (.inl 11), some (.inl 0)], [5, 6, 7], [10, 11, 12, 13], [(3, 12, 12)], 13, []),
  (1011001001, 7, [some (.inr (.inr (.inr (.inr 0)))), some (.inr (.inl 9)), some (.inr (.inl 10)), some (.inl 11), some (.inl 1)], [5, 6, 7], [10, 11, 12, 13], [(3, 12, 12)], 13, []),
  (1011001002, 6, [some (.inr (.inr (.inr (.inr 0)))), some (.inr (.inl 9)), some (.inr (.inl 10)), some (.inl 11), some (.inl 2)], [5, 6, 7], [10, 11, 12, 13], [(3, 12, 12)], 13, []),
  (1011001003, 5, [some (.inr (.inr (.inr (.inr 0)))), some (.inr (.inl 9)), some (.inr (.inl 10)), some (.inl 11), some (.inl 3)], [5, 6, 7], [10, 11, 12, 13], [(3, 12, 12)], 13, []),
  (1011001004, 4, [some (.inr (.inr (.inr (.inr 0)))), some (.inr (.inl 9)), some (.inr (.inl 10)), some (.inl 11), some (.inl 4)], [5, 6, 7], [10, 11, 12, 13], [(3, 12, 12)], 13, []),
  (1011001005, 3, [some (.inr (.inr (.inr (.inr 0)))), some (.inr (.inl 9)), some (.inr (.inl 10)), some (.inl 11), some (.inl 5)], [5, 6, 7], [10, 11, 12, 13], [(3, 12, 12)], 13, []),
  (1011001006, 2, [some (.inr (.inr (.inr (.inr 0)))), some (.inr (.inl 9)), some (.inr (.inl 10)), some (.inl 11), some (.inl 6)], [5, 6, 7], [10, 11, 12, 13], [(3, 12, 12)], 13, [])])]
set_option maxRecDepth 1000000 in
theorem ct_X6_setTrails_0 : na_Ct gR ev_X6_setTrails cc_X6_setTrails_0 := na_chk_ok (cf := (gR, [(188, md_X6_setTrails), (182, md_X6_partOf)], [17])) ke_R (na_rok_mk (List.forall_mem_cons.mpr ⟨rk_X6_setTrails rfl, List.forall_mem_cons.mpr ⟨rk_X6_partOf, fun _ h => absurd h List.not_mem_nil⟩⟩)) ndk_R ln_R mo_R pk_R (m := md_X6_setTrails) (mi := 188) (fu := 3000) (sp := []) (hd := hd_X6_setTrails_0) (mu := 98) rfl (nf_chk_ok (by decide +kernel))
def cs_X6_goes : List na_C := [cc_X6_goes_0]
theorem csok_X6_goes : ∀ c ∈ cs_X6_goes, na_Ct gR ev_X6_goes c := List.forall_mem_cons.mpr ⟨ct_X6_goes_0, fun _ h => absurd h List.not_mem_nil⟩
def md_X6_hasBy : na_Md := (kx_X6_hasBy, kc_X6_hasBy, 7, [(896, .inr (.inl cs_X6_goes)), (932, .inl 182)])
theorem rk_X6_hasBy {ms : List (Nat × na_Md)} {pk : List Nat} (h_X6_partOf : nk_lk ms 182 = some md_X6_partOf) : ∀ e ∈ md_X6_hasBy.2.2.2, na_rk (gR, ms, pk) md_X6_hasBy e := List.forall_mem_cons.mpr ⟨na_rk_c rfl rfl rfl csok_X6_goes, List.forall_mem_cons.mpr ⟨na_rk_i rfl rfl rfl h_X6_partOf rfl, fun _ h => absurd h List.not_mem_nil⟩⟩
def cc_X6_hasBy_0 : na_C := ([.inr (.inr (.inr (.inr 0))), .inr (.inr (.inl (-2147483648, 2147483647, false))), .inr (.inr (.inl (0, 15, false))), .inr (.inr (.inl (0, 12, false))), .inr (.inr (.inl (0, 5, false)))], ([], []), 0, [(5, 0, 1), (6, -2147483648, 2147483647), (7, -2147483648, 2147483647)], [10, 11, 12, 13], 1, (-2147483648, 2147483647), (0, 0))
def hd_X6_hasBy_0 : List na_Hd := [(6, [6], [(1000, 17, [some (.inr (.inr (.inr (.inr 0)))), some (.inr (.inl 9)), some (.inr (.inl 10)), some (.inr (.inl 11)), some (.inr (.inl 12)), some (.inl 0), some (.inl 0)], [], [], [], 0, []),
  (1001, 16, [some (.inr (.inr (.inr (.inr 0)))), some (.inr (.inl 9)), some (.inr (.inl 10)), some (.inr (.inl 11)), some (.inr (.inl 12)), some (.inr (.inr (.inl (-2147483648, 2147483647, false)))), some (.inl 1)], [5, 6, 7], [10, 11, 12, 13], [], 13, []),
  (1002, 15, [some (.inr (.inr (.inr (.inr 0)))), some (.inr (.inl 9)), some (.inr (.inl 10)), some (.inr (.inl 11)), some (.inr (.inl 12)), some (.inr (.inr (.inl (-2147483648, 2147483647, false)))), some (.inl 2)], [5, 6, 7], [10, 11, 12, 13], [], 13, []),
  (1003, 14, [some (.inr (.inr (.inr (.inr 0)))), some (.inr (.inl 9)), some (.inr (.inl 10)), some (.inr (.inl 11)), some (.inr (.inl 12)), some (.inr (.inr (.inl (-2147483648, 2147483647, false)))), some (.inl 3)], [5, 6, 7], [10, 11, 12, 13], [], 13, []),
  (1004, 13, [some (.inr (.inr (.inr (.inr 0)))), some (.inr (.inl 9)), some (.inr (.inl 10)), some (.inr (.inl 11)), some (.inr (.inl 12)), some (.inr (.inr (.inl (-2147483648, 2147483647, false)))), some (.inl 4)], [5, 6, 7], [10, 11, 12, 13], [], 13, []),
  (1005, 12, [some (.inr (.inr (.inr (.inr 0)))), some (.inr (.inl 9)), some (.inr (.inl 10)), some (.inr (.inl 11)), some (.inr (.inl 12)), some (.inr (.inr (.inl (-2147483648, 2147483647, false)))), some (.inl 5)], [5, 6, 7], [10, 11, 12, 13], [], 13, []),
  (1006, 11, [some (.inr (.inr (.inr (.inr 0)))), some (.inr (.inl 9)), some (.inr (.inl 10)), some (.inr (.inl 11)), some (.inr (.inl 12)), some (.inr (.inr (.inl (-2147483648, 2147483647, false)))), some (.inl 6)], [5, 6, 7], [10, 11, 12, 13], [], 13, []),
  (1007, 10, [some (.inr (.inr (.inr (.inr 0)))), some (.inr (.inl 9)), some (.inr (.inl 10)), some (.inr (.inl 11)), some (.inr (.inl 12)), some (.inr (.inr (.inl (-2147483648, 2147483647, false)))), some (.inl 7)], [5, 6, 7], [10, 11, 12, 13], [], 13, []),
  (1008, 9, [some (.inr (.inr (.inr (.inr 0)))), some (.inr (.inl 9)), some (.inr (.inl 10)), some (.inr (.inl 11)), some (.inr (.inl 12)), some (.inr (.inr (.inl (-2147483648, 2147483647, false)))), some (.inl 8)], [5, 6, 7], [10, 11, 12, 13], [], 13, []),
  (1009, 8, [some (.inr (.inr (.inr (.inr 0)))), some (.inr (.inl 9)), some (.inr (.inl 10)), some (.inr (.inl 11)), some (.inr (.inl 12)), some (.inr (.inr (.inl (-2147483648, 2147483647, false)))), some (.inl 9)], [5, 6, 7], [10, 11, 12, 13], [], 13, []),
  (1010, 7, [some (.inr (.inr (.inr (.inr 0)))), some (.inr (.inl 9)), some (.inr (.inl 10)), some (.inr (.inl 11)), some (.inr (.inl 12)), some (.inr (.inr (.inl (-2147483648, 2147483647, false)))), some (.inl 10)], [5, 6, 7], [10, 11, 12, 13], [], 13, []),
  (1011, 6, [some (.inr (.inr (.inr (.inr 0)))), some (.inr (.inl 9)), some (.inr (.inl 10)), some (.inr (.inl 11)), some (.inr (.inl 12)), some (.inr (.inr (.inl (-2147483648, 2147483647, false)))), some (.inl 11)], [5, 6, 7], [10, 11, 12, 13], [], 13, []),
  (1012, 5, [some (.inr (.inr (.inr (.inr 0)))), some (.inr (.inl 9)), some (.inr (.inl 10)), some (.inr (.inl 11)), some (.inr (.inl 12)), some (.inr (.inr (.inl (-2147483648, 2147483647, false)))), some (.inl 12)], [5, 6, 7], [10, 11, 12, 13], [], 13, []),
  (1013, 4, [some (.inr (.inr (.inr (.inr 0)))), some (.inr (.inl 9)), some (.inr (.inl 10)), some (.inr (.inl 11)), some (.inr (.inl 12)), some (.inr (.inr (.inl (-2147483648, 2147483647, false)))), some (.inl 13)], [5, 6, 7], [10, 11, 12, 13], [], 13, []),
  (1014, 3, [some (.inr (.inr (.inr (.inr 0)))), some (.inr (.inl 9)), some (.inr (.inl 10)), some (.inr (.inl 11)), some (.inr (.inl 12)), some (.inr (.inr (.inl (-2147483648, 2147483647, false)))), some (.inl 14)], [5, 6, 7], [10, 11, 12, 13], [], 13, []),
  (1015, 2, [some (.inr (.inr (.inr (.inr 0)))), some (.inr (.inl 9)), some (.inr (.inl 10)), some (.inr (.inl 11)), some (.inr (.inl 12)), some (.inr (.inr (.inl (-2147483648, 2147483647, false)))), some (.inl 15)], [5, 6, 7], [10, 11, 12, 13], [], 13, []),
  (1016, 1, [some (.inr (.inr (.inr (.inr 0)))), some (.inr (.inl 9)), some (.inr (.inl 10)), some (.inr (.inl 11)), some (.inr (.inl 12)), some (.inr (.inr (.inl (-2147483648, 2147483647, false)))), some (.inl 16)], [5, 6, 7], [10, 11, 12, 13], [], 13, [])])]
set_option maxRecDepth 1000000 in
theorem ct_X6_hasBy_0 : na_Ct gR ev_X6_hasBy cc_X6_hasBy_0 := na_chk_ok (cf := (gR, [(191, md_X6_hasBy), (182, md_X6_partOf)], [17])) ke_R (na_rok_mk (List.forall_mem_cons.mpr ⟨rk_X6_hasBy rfl, List.forall_mem_cons.mpr ⟨rk_X6_partOf, fun _ h => absurd h List.not_mem_nil⟩⟩)) ndk_R ln_R mo_R pk_R (m := md_X6_hasBy) (mi := 191) (fu := 3000) (sp := []) (hd := hd_X6_hasBy_0) (mu := 18) rfl (nf_chk_ok (by decide +kernel))
def md_X6_hasAll : na_Md := (kx_X6_hasAll, kc_X6_hasAll, 3, [(932, .inl 182)])
theorem rk_X6_hasAll {ms : List (Nat × na_Md)} {pk : List Nat} (h_X6_partOf : nk_lk ms 182 = some md_X6_partOf) : ∀ e ∈ md_X6_hasAll.2.2.2, na_rk (gR, ms, pk) md_X6_hasAll e := List.forall_mem_cons.mpr ⟨na_rk_i rfl rfl rfl h_X6_partOf rfl, fun _ h => absurd h List.not_mem_nil⟩
def md_X6_takes : na_Md := (kx_X6_takes, kc_X6_takes, 7, [(658, .inl 160)])
theorem rk_X6_takes {ms : List (Nat × na_Md)} {pk : List Nat} (h_X6_figure : nk_lk ms 160 = some md_X6_figure) : ∀ e ∈ md_X6_takes.2.2.2, na_rk (gR, ms, pk) md_X6_takes e := List.forall_mem_cons.mpr ⟨na_rk_i rfl rfl rfl h_X6_figure rfl, fun _ h => absurd h List.not_mem_nil⟩
def cs_X6_makes : List na_C := [cc_X6_makes_0]
theorem csok_X6_makes : ∀ c ∈ cs_X6_makes, na_Ct gR ev_X6_makes c := List.forall_mem_cons.mpr ⟨ct_X6_makes_0, fun _ h => absurd h List.not_mem_nil⟩
def md_X6_slyBy : na_Md := (kx_X6_slyBy, kc_X6_slyBy, 6, [(896, .inr (.inl cs_X6_goes)), (1028, .inl 195), (808, .inl 172), (852, .inr (.inl cs_X6_makes))])
theorem rk_X6_slyBy {ms : List (Nat × na_Md)} {pk : List Nat} (h_X6_hasAll : nk_lk ms 195 = some md_X6_hasAll) (h_X6_takes : nk_lk ms 172 = some md_X6_takes) : ∀ e ∈ md_X6_slyBy.2.2.2, na_rk (gR, ms, pk) md_X6_slyBy e := List.forall_mem_cons.mpr ⟨na_rk_c rfl rfl rfl csok_X6_goes, List.forall_mem_cons.mpr ⟨na_rk_i rfl rfl rfl h_X6_hasAll rfl, List.forall_mem_cons.mpr ⟨na_rk_i rfl rfl rfl h_X6_takes rfl, List.forall_mem_cons.mpr ⟨na_rk_c rfl rfl rfl csok_X6_makes, fun _ h => absurd h List.not_mem_nil⟩⟩⟩⟩
def cc_X6_slyBy_0 : na_C := ([.inr (.inr (.inr (.inr 0))), .inr (.inr (.inl (-2147483648, 2147483647, false))), .inr (.inr (.inl (0, 15, false))), .inr (.inr (.inl (0, 5, false))), .inr (.inr (.inl (0, 99, false)))], ([], [(2, 2)]), 0, [(5, 0, 1), (6, -2147483648, 2147483647), (7, -2147483648, 2147483647)], [10, 11, 12, 13], 1, (-9, 3), (0, 0))
def hd_X6_slyBy_0 : List na_Hd := [(65, [5], [(1000, 17, [some (.inr (.inr (.inr (.inr 0)))), some (.inr (.inl 9)), some (.inr (.inl 10)), some (.inr (.inl 11)), some (.inr (.inl 12)), some (.inl 0)], [5, 6, 7], [10, 11, 12, 13], [], 13, [(10, 2)]),
  (1001, 16, [some (.inr (.inr (.inr (.inr 0)))), some (.inr (.inl 9)), some (.inr (.inl 10)), some (.inr (.inl 11)), some (.inr (.inl 12)), some (.inl 1)], [5, 6, 7], [10, 11, 12, 13], [(2, 1, 16)], 14, [(10, 2)]),
  (1002, 15, [some (.inr (.inr (.inr (.inr 0)))), some (.inr (.inl 9)), some (.inr (.inl 10)), some (.inr (.inl 11)), some (.inr (.inl 12)), some (.inl 2)], [5, 6, 7], [10, 11, 12, 13], [(2, 2, 16)], 14, [(10, 2)]),
  (1003, 14, [some (.inr (.inr (.inr (.inr 0)))), some (.inr (.inl 9)), some (.inr (.inl 10)), some (.inr (.inl 11)), some (.inr (.inl 12)), some (.inl 3)], [5, 6, 7], [10, 11, 12, 13], [(2, 3, 16)], 14, [(10, 2)]),
  (1004, 13, [some (.inr (.inr (.inr (.inr 0)))), some (.inr (.inl 9)), some (.inr (.inl 10)), some (.inr (.inl 11)), some (.inr (.inl 12)), some (.inl 4)], [5, 6, 7], [10, 11, 12, 13], [(2, 4, 16)], 14, [(10, 2)]),
  (1005, 12, [some (.inr (.inr (.inr (.inr 0)))), some (.inr (.inl 9)), some (.inr (.inl 10)), some (.inr (.inl 11)), some (.inr (.inl 12)), some (.inl 5)], [5, 6, 7], [10, 11, 12, 13], [(2, 5, 16)], 14, [(10, 2)]),
  (1006, 11, [some (.inr (.inr (.inr (.inr 0)))), some (.inr (.inl 9)), some (.inr (.inl 10)), some (.inr (.inl 11)), some (.inr (.inl 12)), some (.inl 6)], [5, 6, 7], [10, 11, 12, 13], [(2, 6, 16)], 14, [(10, 2)]),
  (1007, 10, [some (.inr (.inr (.inr (.inr 0)))), some (.inr (.inl 9)), some (.inr (.inl 10)), some (.inr (.inl 11)), some (.inr (.inl 12)), some (.inl 7)], [5, 6, 7], [10, 11, 12, 13], [(2, 7, 16)], 14, [(10, 2)]),
  (1008, 9, [some (.inr (.inr (.inr (.inr 0)))), some (.inr (.inl 9)), some (.inr (.inl 10)), some (.inr (.inl 11)), some (.inr (.inl 12)), some (.inl 8)], [5, 6, 7], [10, 11, 12, 13], [(2, 8, 16)], 14, [(10, 2)]),
  (1009, 8, [some (.inr (.inr (.inr (.inr 0)))), some (.inr (.inl 9)), some (.inr (.inl 10)), some (.inr (.inl 11)), some (.inr (.inl 12)), some (.inl 9)], [5, 6, 7], [10, 11, 12, 13], [(2, 9, 16)], 14, [(10, 2)]),
  (1010, 7, [some (.inr (.inr (.inr (.inr 0)))), some (.inr (.inl 9)), some (.inr (.inl 10)), some (.inr (.inl 11)), some (.inr (.inl 12)), some (.inl 10)], [5, 6, 7], [10, 11, 12, 13], [(2, 10, 16)], 14, [(10, 2)]),
  (1011, 6, [some (.inr (.inr (.inr (.inr 0)))), some (.inr (.inl 9)), some (.inr (.inl 10)), some (.inr (.inl 11)), some (.inr (.inl 12)), some (.inl 11)], [5, 6, 7], [10, 11, 12, 13], [(2, 11, 16)], 14, [(10, 2)]),
  (1012, 5, [some (.inr (.inr (.inr (.inr 0)))), some (.inr (.inl 9)), some (.inr (.inl 10)), some (.inr (.inl 11)), some (.inr (.inl 12)), some (.inl 12)], [5, 6, 7], [10, 11, 12, 13], [(2, 12, 16)], 14, [(10, 2)]),
  (1013, 4, [some (.inr (.inr (.inr (.inr 0)))), some (.inr (.inl 9)), some (.inr (.inl 10)), some (.inr (.inl 11)), some (.inr (.inl 12)), some (.inl 13)], [5, 6, 7], [10, 11, 12, 13], [(2, 13, 16)], 14, [(10, 2)]),
  (1014, 3, [some (.inr (.inr (.inr (.inr 0)))), some (.inr (.inl 9)), some (.inr (.inl 10)), some (.inr (.inl 11)), some (.inr (.inl 12)), some (.inl 14)], [5, 6, 7], [10, 11, 12, 13], [(2, 14, 16)], 14, [(10, 2)]),
  (1015, 2, [some (.inr (.inr (.inr (.inr 0)))), some (.inr (.inl 9)), some (.inr (.inl 10)), some (.inr (.inl 11)), some (.inr (.inl 12)), some (.inl 15)], [5, 6, 7], [10, 11, 12, 13], [(2, 15, 16)], 14, [(10, 2)]),
  (1016, 1, [some (.inr (.inr (.inr (.inr 0)))), some (.inr (.inl 9)), some (.inr (.inl 10)), some (.inr (.inl 11)), some (.inr (.inl 12)), some (.inl 16)], [5, 6, 7], [10, 11, 12, 13], [(2, 16, 16)], 14, [(10, 2)])])]
set_option maxRecDepth 1000000 in
theorem ct_X6_slyBy_0 : na_Ct gR ev_X6_slyBy cc_X6_slyBy_0 := na_chk_ok (cf := (gR, [(196, md_X6_slyBy), (195, md_X6_hasAll), (172, md_X6_takes), (182, md_X6_partOf), (160, md_X6_figure)], [17])) ke_R (na_rok_mk (List.forall_mem_cons.mpr ⟨rk_X6_slyBy rfl rfl, List.forall_mem_cons.mpr ⟨rk_X6_hasAll rfl, List.forall_mem_cons.mpr ⟨rk_X6_takes rfl, List.forall_mem_cons.mpr ⟨rk_X6_partOf, List.forall_mem_cons.mpr ⟨rk_X6_figure, fun _ h => absurd h List.not_mem_nil⟩⟩⟩⟩⟩)) ndk_R ln_R mo_R pk_R (m := md_X6_slyBy) (mi := 196) (fu := 3000) (sp := []) (hd := hd_X6_slyBy_0) (mu := 18) rfl (nf_chk_ok (by decide +kernel))
def md_X6_words : na_Md := (kx_X6_words, kc_X6_words, 4, [(658, .inl 160)])
theorem rk_X6_words {ms : List (Nat × na_Md)} {pk : List Nat} (h_X6_figure : nk_lk ms 160 = some md_X6_figure) : ∀ e ∈ md_X6_words.2.2.2, na_rk (gR, ms, pk) md_X6_words e := List.forall_mem_cons.mpr ⟨na_rk_i rfl rfl rfl h_X6_figure rfl, fun _ h => absurd h List.not_mem_nil⟩
def cc_X6_words_0 : na_C := ([.inr (.inr (.inl (-2147483648, 2147483647, false))), .inr (.inr (.inl (-2147483648, 2147483647, false)))], ([], []), 0, [], [], 1, (0, 5), (0, 0))
def hd_X6_words_0 : List na_Hd := [(4, [3], [(1001, 6, [some (.inr (.inl 9)), some (.inr (.inl 10)), some (.inl 0), some (.inl 1)], [], [], [], 0, []),
  (1010, 5, [some (.inr (.inl 9)), some (.inr (.inl 10)), some (.inr (.inr (.inl (0, 1, false)))), some (.inl 10)], [], [], [], 0, []),
  (1100, 4, [some (.inr (.inl 9)), some (.inr (.inl 10)), some (.inr (.inr (.inl (0, 2, false)))), some (.inl 100)], [], [], [], 0, []),
  (2000, 3, [some (.inr (.inl 9)), some (.inr (.inl 10)), some (.inr (.inr (.inl (0, 3, false)))), some (.inl 1000)], [], [], [], 0, []),
  (11000, 2, [some (.inr (.inl 9)), some (.inr (.inl 10)), some (.inr (.inr (.inl (0, 4, false)))), some (.inl 10000)], [], [], [], 0, []),
  (101000, 1, [some (.inr (.inl 9)), some (.inr (.inl 10)), some (.inr (.inr (.inl (0, 5, false)))), some (.inl 100000)], [], [], [], 0, [])])]
set_option maxRecDepth 1000000 in
theorem ct_X6_words_0 : na_Ct gR ev_X6_words cc_X6_words_0 := na_chk_ok (cf := (gR, [(199, md_X6_words), (160, md_X6_figure)], [17])) ke_R (na_rok_mk (List.forall_mem_cons.mpr ⟨rk_X6_words rfl, List.forall_mem_cons.mpr ⟨rk_X6_figure, fun _ h => absurd h List.not_mem_nil⟩⟩)) ndk_R ln_R mo_R pk_R (m := md_X6_words) (mi := 199) (fu := 3000) (sp := []) (hd := hd_X6_words_0) (mu := 7) rfl (nf_chk_ok (by decide +kernel))
