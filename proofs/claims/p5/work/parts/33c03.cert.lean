def md_X0_debts : na_Md := (kx_X0_debts, kc_X0_debts, 4, [(272, .inl 1)])
theorem rk_X0_debts {ms : List (Nat × na_Md)} {pk : List Nat} (h_X4_ofStuff : nk_lk ms 1 = some md_X4_ofStuff) : ∀ e ∈ md_X0_debts.2.2.2, na_rk (gC, ms, pk) md_X0_debts e := List.forall_mem_cons.mpr ⟨na_rk_i rfl rfl rfl h_X4_ofStuff rfl, fun _ h => absurd h List.not_mem_nil⟩
def cc_X0_debts_0 : na_C := ([.inr (.inr (.inr (.inr 9))), .inr (.inr (.inl (-2147483648, 2147483647, false)))], ([], []), 0, [], [], 1, (-2147483648, 2147483647), (0, 0))
def hd_X0_debts_0 : List na_Hd := [(4, [3], [(1000, 17, [some (.inr (.inr (.inr (.inr 9)))), some (.inr (.inl 30)), some (.inl 0), some (.inl 0)], [], [], [], 0, []),
  (1001, 16, [some (.inr (.inr (.inr (.inr 9)))), some (.inr (.inl 30)), some (.inr (.inr (.inl (-2147483648, 2147483647, false)))), some (.inl 1)], [], [], [(2, 1, 16)], 0, []),
  (1002, 15, [some (.inr (.inr (.inr (.inr 9)))), some (.inr (.inl 30)), some (.inr (.inr (.inl (-2147483648, 2147483647, false)))), some (.inl 2)], [], [], [(2, 2, 16)], 0, []),
  (1003, 14, [some (.inr (.inr (.inr (.inr 9)))), some (.inr (.inl 30)), some (.inr (.inr (.inl (-2147483648, 2147483647, false)))), some (.inl 3)], [], [], [(2, 3, 16)], 0, []),
  (1004, 13, [some (.inr (.inr (.inr (.inr 9)))), some (.inr (.inl 30)), some (.inr (.inr (.inl (-2147483648, 2147483647, false)))), some (.inl 4)], [], [], [(2, 4, 16)], 0, []),
  (1005, 12, [some (.inr (.inr (.inr (.inr 9)))), some (.inr (.inl 30)), some (.inr (.inr (.inl (-2147483648, 2147483647, false)))), some (.inl 5)], [], [], [(2, 5, 16)], 0, []),
  (1006, 11, [some (.inr (.inr (.inr (.inr 9)))), some (.inr (.inl 30)), some (.inr (.inr (.inl (-2147483648, 2147483647, false)))), some (.inl 6)], [], [], [(2, 6, 16)], 0, []),
  (1007, 10, [some (.inr (.inr (.inr (.inr 9)))), some (.inr (.inl 30)), some (.inr (.inr (.inl (-2147483648, 2147483647, false)))), some (.inl 7)], [], [], [(2, 7, 16)], 0, []),
  (1008, 9, [some (.inr (.inr (.inr (.inr 9)))), some (.inr (.inl 30)), some (.inr (.inr (.inl (-2147483648, 2147483647, false)))), some (.inl 8)], [], [], [(2, 8, 16)], 0, []),
  (1009, 8, [some (.inr (.inr (.inr (.inr 9)))), some (.inr (.inl 30)), some (.inr (.inr (.inl (-2147483648, 2147483647, false)))), some (.inl 9)], [], [], [(2, 9, 16)], 0, []),
  (1010, 7, [some (.inr (.inr (.inr (.inr 9)))), some (.inr (.inl 30)), some (.inr (.inr (.inl (-2147483648, 2147483647, false)))), some (.inl 10)], [], [], [(2, 10, 16)], 0, []),
  (1011, 6, [some (.inr (.inr (.inr (.inr 9)))), some (.inr (.inl 30)), some (.inr (.inr (.inl (-2147483648, 2147483647, false)))), some (.inl 11)], [], [], [(2, 11, 16)], 0, []),
  (1012, 5, [some (.inr (.inr (.inr (.inr 9)))), some (.inr (.inl 30)), some (.inr (.inr (.inl (-2147483648, 2147483647, false)))), some (.inl 12)], [], [], [(2, 12, 16)], 0, []),
  (1013, 4, [some (.inr (.inr (.inr (.inr 9)))), some (.inr (.inl 30)), some (.inr (.inr (.inl (-2147483648, 2147483647, false)))), some (.inl 13)], [], [], [(2, 13, 16)], 0, []),
  (1014, 3, [some (.inr (.inr (.inr (.inr 9)))), some (.inr (.inl 30)), some (.inr (.inr (.inl (-2147483648, 2147483647, false)))), some (.inl 14)], [], [], [(2, 14, 16)], 0, []),
  (1015, 2, [some (.inr (.inr (.inr (.inr 9)))), some (.inr (.inl 30)), some (.inr (.inr (.inl (-2147483648, 2147483647, false)))), some (.inl 15)], [], [], [(2, 15, 16)], 0, []),
  (1016, 1, [some (.inr (.inr (.inr (.inr 9)))), some (.inr (.inl 30)), some (.inr (.inr (.inl (-2147483648, 2147483647, false)))), some (.inl 16)], [], [], [(2, 16, 16)], 0, [])])]
set_option maxRecDepth 1000000 in
theorem ct_X0_debts_0 : na_Ct gC ev_X0_debts cc_X0_debts_0 := na_chk_ok (cf := (gC, [(23, md_X0_debts), (1, md_X4_ofStuff)], [])) ke_C (na_rok_mk (List.forall_mem_cons.mpr ⟨rk_X0_debts rfl, List.forall_mem_cons.mpr ⟨rk_X4_ofStuff, fun _ h => absurd h List.not_mem_nil⟩⟩)) ndk_C ln_C mo_C pk_C (m := md_X0_debts) (mi := 23) (fu := 3000) (sp := []) (hd := hd_X0_debts_0) (mu := 18) rfl (nf_chk_ok (by decide +kernel))
def md_X0_sharesAlike : na_Md := (kx_X0_sharesAlike, kc_X0_sharesAlike, 4, [(492, .inl 13)])
theorem rk_X0_sharesAlike {ms : List (Nat × na_Md)} {pk : List Nat} (h_X0_part : nk_lk ms 13 = some md_X0_part) : ∀ e ∈ md_X0_sharesAlike.2.2.2, na_rk (gC, ms, pk) md_X0_sharesAlike e := List.forall_mem_cons.mpr ⟨na_rk_i rfl rfl rfl h_X0_part rfl, fun _ h => absurd h List.not_mem_nil⟩
def cc_X0_sharesAlike_0 : na_C := ([.inr (.inr (.inr (.inr 9))), .inr (.inr (.inr (.inr 18))), .inr (.inr (.inl (0, 15, false)))], ([], []), 0, [], [], 1, (0, 1), (0, 0))
def hd_X0_sharesAlike_0 : List na_Hd := [(2, [3], [(1000, 7, [some (.inr (.inr (.inr (.inr 9)))), some (.inr (.inr (.inr (.inr 18)))), some (.inr (.inl 30)), some (.inl 0)], [], [], [], 0, []),
  (1001, 6, [some (.inr (.inr (.inr (.inr 9)))), some (.inr (.inr (.inr (.inr 18)))), some (.inr (.inl 30)), some (.inl 1)], [], [], [], 0, []),
  (1002, 5, [some (.inr (.inr (.inr (.inr 9)))), some (.inr (.inr (.inr (.inr 18)))), some (.inr (.inl 30)), some (.inl 2)], [], [], [], 0, []),
  (1003, 4, [some (.inr (.inr (.inr (.inr 9)))), some (.inr (.inr (.inr (.inr 18)))), some (.inr (.inl 30)), some (.inl 3)], [], [], [], 0, []),
  (1004, 3, [some (.inr (.inr (.inr (.inr 9)))), some (.inr (.inr (.inr (.inr 18)))), some (.inr (.inl 30)), some (.inl 4)], [], [], [], 0, []),
  (1005, 2, [some (.inr (.inr (.inr (.inr 9)))), some (.inr (.inr (.inr (.inr 18)))), some (.inr (.inl 30)), some (.inl 5)], [], [], [], 0, []),
  (1006, 1, [some (.inr (.inr (.inr (.inr 9)))), some (.inr (.inr (.inr (.inr 18)))), some (.inr (.inl 30)), some (.inl 6)], [], [], [], 0, [])])]
set_option maxRecDepth 1000000 in
theorem ct_X0_sharesAlike_0 : na_Ct gC ev_X0_sharesAlike cc_X0_sharesAlike_0 := na_chk_ok (cf := (gC, [(24, md_X0_sharesAlike), (13, md_X0_part)], [])) ke_C (na_rok_mk (List.forall_mem_cons.mpr ⟨rk_X0_sharesAlike rfl, List.forall_mem_cons.mpr ⟨rk_X0_part, fun _ h => absurd h List.not_mem_nil⟩⟩)) ndk_C ln_C mo_C pk_C (m := md_X0_sharesAlike) (mi := 24) (fu := 3000) (sp := []) (hd := hd_X0_sharesAlike_0) (mu := 8) rfl (nf_chk_ok (by decide +kernel))
def md_X0_hasAll : na_Md := (kx_X0_hasAll, kc_X0_hasAll, 3, [(492, .inl 13)])
theorem rk_X0_hasAll {ms : List (Nat × na_Md)} {pk : List Nat} (h_X0_part : nk_lk ms 13 = some md_X0_part) : ∀ e ∈ md_X0_hasAll.2.2.2, na_rk (gC, ms, pk) md_X0_hasAll e := List.forall_mem_cons.mpr ⟨na_rk_i rfl rfl rfl h_X0_part rfl, fun _ h => absurd h List.not_mem_nil⟩
def md_X0_hasAnother : na_Md := (kx_X0_hasAnother, kc_X0_hasAnother, 4, [(532, .inl 22)])
theorem rk_X0_hasAnother {ms : List (Nat × na_Md)} {pk : List Nat} (h_X0_hasAll : nk_lk ms 22 = some md_X0_hasAll) : ∀ e ∈ md_X0_hasAnother.2.2.2, na_rk (gC, ms, pk) md_X0_hasAnother e := List.forall_mem_cons.mpr ⟨na_rk_i rfl rfl rfl h_X0_hasAll rfl, fun _ h => absurd h List.not_mem_nil⟩
def cc_X0_hasAnother_0 : na_C := ([.inr (.inr (.inr (.inr 9))), .inr (.inr (.inl (-2147483648, 2147483647, false))), .inr (.inr (.inl (0, 5, false)))], ([], []), 0, [], [], 1, (0, 1), (0, 0))
def hd_X0_hasAnother_0 : List na_Hd := [(2, [3], [(1000, 17, [some (.inr (.inr (.inr (.inr 9)))), some (.inr (.inl 30)), some (.inr (.inl 31)), some (.inl 0)], [], [], [], 0, []),
  (1001, 16, [some (.inr (.inr (.inr (.inr 9)))), some (.inr (.inl 30)), some (.inr (.inl 31)), some (.inl 1)], [], [], [(2, 1, 16)], 0, []),
  (1002, 15, [some (.inr (.inr (.inr (.inr 9)))), some (.inr (.inl 30)), some (.inr (.inl 31)), some (.inl 2)], [], [], [(2, 2, 16)], 0, []),
  (1003, 14, [some (.inr (.inr (.inr (.inr 9)))), some (.inr (.inl 30)), some (.inr (.inl 31)), some (.inl 3)], [], [], [(2, 3, 16)], 0, []),
  (1004, 13, [some (.inr (.inr (.inr (.inr 9)))), some (.inr (.inl 30)), some (.inr (.inl 31)), some (.inl 4)], [], [], [(2, 4, 16)], 0, []),
  (1005, 12, [some (.inr (.inr (.inr (.inr 9)))), some (.inr (.inl 30)), some (.inr (.inl 31)), some (.inl 5)], [], [], [(2, 5, 16)], 0, []),
  (1006, 11, [some (.inr (.inr (.inr (.inr 9)))), some (.inr (.inl 30)), some (.inr (.inl 31)), some (.inl 6)], [], [], [(2, 6, 16)], 0, []),
  (1007, 10, [some (.inr (.inr (.inr (.inr 9)))), some (.inr (.inl 30)), some (.inr (.inl 31)), some (.inl 7)], [], [], [(2, 7, 16)], 0, []),
  (1008, 9, [some (.inr (.inr (.inr (.inr 9)))), some (.inr (.inl 30)), some (.inr (.inl 31)), some (.inl 8)], [], [], [(2, 8, 16)], 0, []),
  (1009, 8, [some (.inr (.inr (.inr (.inr 9)))), some (.inr (.inl 30)), some (.inr (.inl 31)), some (.inl 9)], [], [], [(2, 9, 16)], 0, []),
  (1010, 7, [some (.inr (.inr (.inr (.inr 9)))), some (.inr (.inl 30)), some (.inr (.inl 31)), some (.inl 10)], [], [], [(2, 10, 16)], 0, []),
  (1011, 6, [some (.inr (.inr (.inr (.inr 9)))), some (.inr (.inl 30)), some (.inr (.inl 31)), some (.inl 11)], [], [], [(2, 11, 16)], 0, []),
  (1012, 5, [some (.inr (.inr (.inr (.inr 9)))), some (.inr (.inl 30)), some (.inr (.inl 31)), some (.inl 12)], [], [], [(2, 12, 16)], 0, []),
  (1013, 4, [some (.inr (.inr (.inr (.inr 9)))), some (.inr (.inl 30)), some (.inr (.inl 31)), some (.inl 13)], [], [], [(2, 13, 16)], 0, []),
  (1014, 3, [some (.inr (.inr (.inr (.inr 9)))), some (.inr (.inl 30)), some (.inr (.inl 31)), some (.inl 14)], [], [], [(2, 14, 16)], 0, []),
  (1015, 2, [some (.inr (.inr (.inr (.inr 9)))), some (.inr (.inl 30)), some (.inr (.inl 31)), some (.inl 15)], [], [], [(2, 15, 16)], 0, []),
  (1016, 1, [some (.inr (.inr (.inr (.inr 9)))), some (.inr (.inl 30)), some (.inr (.inl 31)), some (.inl 16)], [], [], [(2, 16, 16)], 0, [])])]
set_option maxRecDepth 1000000 in
theorem ct_X0_hasAnother_0 : na_Ct gC ev_X0_hasAnother cc_X0_hasAnother_0 := na_chk_ok (cf := (gC, [(26, md_X0_hasAnother), (22, md_X0_hasAll), (13, md_X0_part)], [])) ke_C (na_rok_mk (List.forall_mem_cons.mpr ⟨rk_X0_hasAnother rfl, List.forall_mem_cons.mpr ⟨rk_X0_hasAll rfl, List.forall_mem_cons.mpr ⟨rk_X0_part, fun _ h => absurd h List.not_mem_nil⟩⟩⟩)) ndk_C ln_C mo_C pk_C (m := md_X0_hasAnother) (mi := 26) (fu := 3000) (sp := []) (hd := hd_X0_hasAnother_0) (mu := 18) rfl (nf_chk_ok (by decide +kernel))
def md_X1_total : na_Md := (kx_X1_total, kc_X1_total, 3, [])
theorem rk_X1_total {ms : List (Nat × na_Md)} {pk : List Nat}  : ∀ e ∈ md_X1_total.2.2.2, na_rk (gC, ms, pk) md_X1_total e := fun _ h => absurd h List.not_mem_nil
def cc_X1_total_0 : na_C := ([.inr (.inr (.inr (.inr 49)))], ([], []), 0, [], [], 1, (-2147483648, 2147483647), (0, 0))
def hd_X1_total_0 : List na_Hd := [(4, [2], [(1000, 21, [some (.inr (.inr (.inr (.inr 49)))), some (.inl 0), some (.inl 0)], [], [], [], 0, []),
  (1001, 20, [some (.inr (.inr (.inr (.inr 49)))), some (.inr (.inr (.inl (-2147483648, 2147483647, false)))), some (.inl 1)], [], [], [(26, 1, 20)], 0, []),
  (1002, 19, [some (.inr (.inr (.inr (.inr 49)))), some (.inr (.inr (.inl (-2147483648, 2147483647, false)))), some (.inl 2)], [], [], [(26, 2, 20)], 0, []),
  (1003, 18, [some (.inr (.inr (.inr (.inr 49)))), some (.inr (.inr (.inl (-2147483648, 2147483647, false)))), some (.inl 3)], [], [], [(26, 3, 20)], 0, []),
  (1004, 17, [some (.inr (.inr (.inr (.inr 49)))), some (.inr (.inr (.inl (-2147483648, 2147483647, false)))), some (.inl 4)], [], [], [(26, 4, 20)], 0, []),
  (1005, 16, [some (.inr (.inr (.inr (.inr 49)))), some (.inr (.inr (.inl (-2147483648, 2147483647, false)))), some (.inl 5)], [], [], [(26, 5, 20)], 0, []),
  (1006, 15, [some (.inr (.inr (.inr (.inr 49)))), some (.inr (.inr (.inl (-2147483648, 2147483647, false)))), some (.inl 6)], [], [], [(26, 6, 20)], 0, []),
  (1007, 14, [some (.inr (.inr (.inr (.inr 49)))), some (.inr (.inr (.inl (-2147483648, 2147483647, false)))), some (.inl 7)], [], [], [(26, 7, 20)], 0, []),
  (1008, 13, [some (.inr (.inr (.inr (.inr 49)))), some (.inr (.inr (.inl (-2147483648, 2147483647, false)))), some (.inl 8)], [], [], [(26, 8, 20)], 0, []),
  (1009, 12, [some (.inr (.inr (.inr (.inr 49)))), some (.inr (.inr (.inl (-2147483648, 2147483647, false)))), some (.inl 9)], [], [], [(26, 9, 20)], 0, []),
  (1010, 11, [some (.inr (.inr (.inr (.inr 49)))), some (.inr (.inr (.inl (-2147483648, 2147483647, false)))), some (.inl 10)], [], [], [(26, 10, 20)], 0, []),
  (1011, 10, [some (.inr (.inr (.inr (.inr 49)))), some (.inr (.inr (.inl (-2147483648, 2147483647, false)))), some (.inl 11)], [], [], [(26, 11, 20)], 0, []),
  (1012, 9, [some (.inr (.inr (.inr (.inr 49)))), some (.inr (.inr (.inl (-2147483648, 2147483647, false)))), some (.inl 12)], [], [], [(26, 12, 20)], 0, []),
  (1013, 8, [some (.inr (.inr (.inr (.inr 49)))), some (.inr (.inr (.inl (-2147483648, 2147483647, false)))), some (.inl 13)], [], [], [(26, 13, 20)], 0, []),
  (1014, 7, [some (.inr (.inr (.inr (.inr 49)))), some (.inr (.inr (.inl (-2147483648, 2147483647, false)))), some (.inl 14)], [], [], [(26, 14, 20)], 0, []),
  (1015, 6, [some (.inr (.inr (.inr (.inr 49)))), some (.inr (.inr (.inl (-2147483648, 2147483647, false)))), some (.inl 15)], [], [], [(26, 15, 20)], 0, []),
  (1016, 5, [some (.inr (.inr (.inr (.inr 49)))), some (.inr (.inr (.inl (-2147483648, 2147483647, false)))), some (.inl 16)], [], [], [(26, 16, 20)], 0, []),
  (1017, 4, [some (.inr (.inr (.inr (.inr 49)))), some (.inr (.inr (.inl (-2147483648, 2147483647, false)))), some (.inl 17)], [], [], [(26, 17, 20)], 0, []),
  (1018, 3, [some (.inr (.inr (.inr (.inr 49)))), some (.inr (.inr (.inl (-2147483648, 2147483647, false)))), some (.inl 18)], [], [], [(26, 18, 20)], 0, []),
  (1019, 2, [some (.inr (.inr (.inr (.inr 49)))), some (.inr (.inr (.inl (-2147483648, 2147483647, false)))), some (.inl 19)], [], [], [(26, 19, 20)], 0, []),
  (1020, 1, [some (.inr (.inr (.inr (.inr 49)))), some (.inr (.inr (.inl (-2147483648, 2147483647, false)))), some (.inl 20)], [], [], [(26, 20, 20)], 0, [])])]
set_option maxRecDepth 1000000 in
theorem ct_X1_total_0 : na_Ct gC ev_X1_total cc_X1_total_0 := na_chk_ok (cf := (gC, [(30, md_X1_total)], [])) ke_C (na_rok_mk (List.forall_mem_cons.mpr ⟨rk_X1_total, fun _ h => absurd h List.not_mem_nil⟩)) ndk_C ln_C mo_C pk_C (m := md_X1_total) (mi := 30) (fu := 3000) (sp := []) (hd := hd_X1_total_0) (mu := 22) rfl (nf_chk_ok (by decide +kernel))
def cc_X1_total_1 : na_C := ([.inr (.inr (.inr (.inr 52)))], ([], []), 0, [], [], 1, (-2147483648, 2147483647), (0, 0))
def hd_X1_total_1 : List na_Hd := [(4, [2], [(1000, 21, [some (.inr (.inr (.inr (.inr 52)))), some (.inl 0), some (.inl 0)], [], [], [], 0, []),
  (1001, 20, [some (.inr (.inr (.inr (.inr 52)))), some (.inr (.inr (.inl (-2147483648, 2147483647, false)))), some (.inl 1)], [], [], [(27, 1, 20)], 0, []),
  (1002, 19, [some (.inr (.inr (.inr (.inr 52)))), some (.inr (.inr (.inl (-2147483648, 2147483647, false)))), some (.inl 2)], [], [], [(27, 2, 20)], 0, []),
  (1003, 18, [some (.inr (.inr (.inr (.inr 52)))), some (.inr (.inr (.inl (-2147483648, 2147483647, false)))), some (.inl 3)], [], [], [(27, 3, 20)], 0, []),
  (1004, 17, [some (.inr (.inr (.inr (.inr 52)))), some (.inr (.inr (.inl (-2147483648, 2147483647, false)))), some (.inl 4)], [], [], [(27, 4, 20)], 0, []),
  (1005, 16, [some (.inr (.inr (.inr (.inr 52)))), some (.inr (.inr (.inl (-2147483648, 2147483647, false)))), some (.inl 5)], [], [], [(27, 5, 20)], 0, []),
  (1006, 15, [some (.inr (.inr (.inr (.inr 52)))), some (.inr (.inr (.inl (-2147483648, 2147483647, false)))), some (.inl 6)], [], [], [(27, 6, 20)], 0, []),
  (1007, 14, [some (.inr (.inr (.inr (.inr 52)))), some (.inr (.inr (.inl (-2147483648, 2147483647, false)))), some (.inl 7)], [], [], [(27, 7, 20)], 0, []),
  (1008, 13, [some (.inr (.inr (.inr (.inr 52)))), some (.inr (.inr (.inl (-2147483648, 2147483647, false)))), some (.inl 8)], [], [], [(27, 8, 20)], 0, []),
  (1009, 12, [some (.inr (.inr (.inr (.inr 52)))), some (.inr (.inr (.inl (-2147483648, 2147483647, false)))), some (.inl 9)], [], [], [(27, 9, 20)], 0, []),
  (1010, 11, [some (.inr (.inr (.inr (.inr 52)))), some (.inr (.inr (.inl (-2147483648, 2147483647, false)))), some (.inl 10)], [], [], [(27, 10, 20)], 0, []),
  (1011, 10, [some (.inr (.inr (.inr (.inr 52)))), some (.inr (.inr (.inl (-2147483648, 2147483647, false)))), some (.inl 11)], [], [], [(27, 11, 20)], 0, []),
  (1012, 9, [some (.inr (.inr (.inr (.inr 52)))), some (.inr (.inr (.inl (-2147483648, 2147483647, false)))), some (.inl 12)], [], [], [(27, 12, 20)], 0, []),
  (1013, 8, [some (.inr (.inr (.inr (.inr 52)))), some (.inr (.inr (.inl (-2147483648, 2147483647, false)))), some (.inl 13)], [], [], [(27, 13, 20)], 0, []),
  (1014, 7, [some (.inr (.inr (.inr (.inr 52)))), some (.inr (.inr (.inl (-2147483648, 2147483647, false)))), some (.inl 14)], [], [], [(27, 14, 20)], 0, []),
  (1015, 6, [some (.inr (.inr (.inr (.inr 52)))), some (.inr (.inr (.inl (-2147483648, 2147483647, false)))), some (.inl 15)], [], [], [(27, 15, 20)], 0, []),
  (1016, 5, [some (.inr (.inr (.inr (.inr 52)))), some (.inr (.inr (.inl (-2147483648, 2147483647, false)))), some (.inl 16)], [], [], [(27, 16, 20)], 0, []),
  (1017, 4, [some (.inr (.inr (.inr (.inr 52)))), some (.inr (.inr (.inl (-2147483648, 2147483647, false)))), some (.inl 17)], [], [], [(27, 17, 20)], 0, []),
  (1018, 3, [some (.inr (.inr (.inr (.inr 52)))), some (.inr (.inr (.inl (-2147483648, 2147483647, false)))), some (.inl 18)], [], [], [(27, 18, 20)], 0, []),
  (1019, 2, [some (.inr (.inr (.inr (.inr 52)))), some (.inr (.inr (.inl (-2147483648, 2147483647, false)))), some (.inl 19)], [], [], [(27, 19, 20)], 0, []),
  (1020, 1, [some (.inr (.inr (.inr (.inr 52)))), some (.inr (.inr (.inl (-2147483648, 2147483647, false)))), some (.inl 20)], [], [], [(27, 20, 20)], 0, [])])]
set_option maxRecDepth 1000000 in
theorem ct_X1_total_1 : na_Ct gC ev_X1_total cc_X1_total_1 := na_chk_ok (cf := (gC, [(30, md_X1_total)], [])) ke_C (na_rok_mk (List.forall_mem_cons.mpr ⟨rk_X1_total, fun _ h => absurd h List.not_mem_nil⟩)) ndk_C ln_C mo_C pk_C (m := md_X1_total) (mi := 30) (fu := 3000) (sp := []) (hd := hd_X1_total_1) (mu := 22) rfl (nf_chk_ok (by decide +kernel))
def cc_X1_total_2 : na_C := ([.inr (.inr (.inr (.inr 55)))], ([], []), 0, [], [], 1, (-2147483648, 2147483647), (0, 0))
def hd_X1_total_2 : List na_Hd := [(4, [2], [(1000, 21, [some (.inr (.inr (.inr (.inr 55)))), some (.inl 0), some (.inl 0)], [], [], [], 0, []),
  (1001, 20, [some (.inr (.inr (.inr (.inr 55)))), some (.inr (.inr (.inl (-2147483648, 2147483647, false)))), some (.inl 1)], [], [], [(28, 1, 20)], 0, []),
  (1002, 19, [some (.inr (.inr (.inr (.inr 55)))), some (.inr (.inr (.inl (-2147483648, 2147483647, false)))), some (.inl 2)], [], [], [(28, 2, 20)], 0, []),
  (1003, 18, [some (.inr (.inr (.inr (.inr 55)))), some (.inr (.inr (.inl (-2147483648, 2147483647, false)))), some (.inl 3)], [], [], [(28, 3, 20)], 0, []),
  (1004, 17, [some (.inr (.inr (.inr (.inr 55)))), some (.inr (.inr (.inl (-2147483648, 2147483647, false)))), some (.inl 4)], [], [], [(28, 4, 20)], 0, []),
  (1005, 16, [some (.inr (.inr (.inr (.inr 55)))), some (.inr (.inr (.inl (-2147483648, 2147483647, false)))), some (.inl 5)], [], [], [(28, 5, 20)], 0, []),
  (1006, 15, [some (.inr (.inr (.inr (.inr 55)))), some (.inr (.inr (.inl (-2147483648, 2147483647, false)))), some (.inl 6)], [], [], [(28, 6, 20)], 0, []),
  (1007, 14, [some (.inr (.inr (.inr (.inr 55)))), some (.inr (.inr (.inl (-2147483648, 2147483647, false)))), some (.inl 7)], [], [], [(28, 7, 20)], 0, []),
  (1008, 13, [some (.inr (.inr (.inr (.inr 55)))), some (.inr (.inr (.inl (-2147483648, 2147483647, false)))), some (.inl 8)], [], [], [(28, 8, 20)], 0, []),
  (1009, 12, [some (.inr (.inr (.inr (.inr 55)))), some (.inr (.inr (.inl (-2147483648, 2147483647, false)))), some (.inl 9)], [], [], [(28, 9, 20)], 0, []),
  (1010, 11, [some (.inr (.inr (.inr (.inr 55)))), some (.inr (.inr (.inl (-2147483648, 2147483647, false)))), some (.inl 10)], [], [], [(28, 10, 20)], 0, []),
  (1011, 10, [some (.inr (.inr (.inr (.inr 55)))), some (.inr (.inr (.inl (-2147483648, 2147483647, false)))), some (.inl 11)], [], [], [(28, 11, 20)], 0, []),
  (1012, 9, [some (.inr (.inr (.inr (.inr 55)))), some (.inr (.inr (.inl (-2147483648, 2147483647, false)))), some (.inl 12)], [], [], [(28, 12, 20)], 0, []),
  (1013, 8, [some (.inr (.inr (.inr (.inr 55)))), some (.inr (.inr (.inl (-2147483648, 2147483647, false)))), some (.inl 13)], [], [], [(28, 13, 20)], 0, []),
  (1014, 7, [some (.inr (.inr (.inr (.inr 55)))), some (.inr (.inr (.inl (-2147483648, 2147483647, false)))), some (.inl 14)], [], [], [(28, 14, 20)], 0, []),
  (1015, 6, [some (.inr (.inr (.inr (.inr 55)))), some (.inr (.inr (.inl (-2147483648, 2147483647, false)))), some (.inl 15)], [], [], [(28, 15, 20)], 0, []),
  (1016, 5, [some (.inr (.inr (.inr (.inr 55)))), some (.inr (.inr (.inl (-2147483648, 2147483647, false)))), some (.inl 16)], [], [], [(28, 16, 20)], 0, []),
  (1017, 4, [some (.inr (.inr (.inr (.inr 55)))), some (.inr (.inr (.inl (-2147483648, 2147483647, false)))), some (.inl 17)], [], [], [(28, 17, 20)], 0, []),
  (1018, 3, [some (.inr (.inr (.inr (.inr 55)))), some (.inr (.inr (.inl (-2147483648, 2147483647, false)))), some (.inl 18)], [], [], [(28, 18, 20)], 0, []),
  (1019, 2, [some (.inr (.inr (.inr (.inr 55)))), some (.inr (.inr (.inl (-2147483648, 2147483647, false)))), some (.inl 19)], [], [], [(28, 19, 20)], 0, []),
  (1020, 1, [some (.inr (.inr (.inr (.inr 55)))), some (.inr (.inr (.inl (-2147483648, 2147483647, false)))), some (.inl 20)], [], [], [(28, 20, 20)], 0, [])])]
set_option maxRecDepth 1000000 in
theorem ct_X1_total_2 : na_Ct gC ev_X1_total cc_X1_total_2 := na_chk_ok (cf := (gC, [(30, md_X1_total)], [])) ke_C (na_rok_mk (List.forall_mem_cons.mpr ⟨rk_X1_total, fun _ h => absurd h List.not_mem_nil⟩)) ndk_C ln_C mo_C pk_C (m := md_X1_total) (mi := 30) (fu := 3000) (sp := []) (hd := hd_X1_total_2) (mu := 22) rfl (nf_chk_ok (by decide +kernel))
def cc_X1_total_3 : na_C := ([.inr (.inr (.inr (.inr 58)))], ([], []), 0, [], [], 1, (-2147483648, 2147483647), (0, 0))
def hd_X1_total_3 : List na_Hd := [(4, [2], [(1000, 21, [some (.inr (.inr (.inr (.inr 58)))), some (.inl 0), some (.inl 0)], [], [], [], 0, []),
  (1001, 20, [some (.inr (.inr (.inr (.inr 58)))), some (.inr (.inr (.inl (-2147483648, 2147483647, false)))), some (.inl 1)], [], [], [(29, 1, 20)], 0, []),
  (1002, 19, [some (.inr (.inr (.inr (.inr 58)))), some (.inr (.inr (.inl (-2147483648, 2147483647, false)))), some (.inl 2)], [], [], [(29, 2, 20)], 0, []),
  (1003, 18, [some (.inr (.inr (.inr (.inr 58)))), some (.inr (.inr (.inl (-2147483648, 2147483647, false)))), some (.inl 3)], [], [], [(29, 3, 20)], 0, []),
  (1004, 17, [some (.inr (.inr (.inr (.inr 58)))), some (.inr (.inr (.inl (-2147483648, 2147483647, false)))), some (.inl 4)], [], [], [(29, 4, 20)], 0, []),
  (1005, 16, [some (.inr (.inr (.inr (.inr 58)))), some (.inr (.inr (.inl (-2147483648, 2147483647, false)))), some (.inl 5)], [], [], [(29, 5, 20)], 0, []),
  (1006, 15, [some (.inr (.inr (.inr (.inr 58)))), some (.inr (.inr (.inl (-2147483648, 2147483647, false)))), some (.inl 6)], [], [], [(29, 6, 20)], 0, []),
  (1007, 14, [some (.inr (.inr (.inr (.inr 58)))), some (.inr (.inr (.inl (-2147483648, 2147483647, false)))), some (.inl 7)], [], [], [(29, 7, 20)], 0, []),
  (1008, 13, [some (.inr (.inr (.inr (.inr 58)))), some (.inr (.inr (.inl (-2147483648, 2147483647, false)))), some (.inl 8)], [], [], [(29, 8, 20)], 0, []),
  (1009, 12, [some (.inr (.inr (.inr (.inr 58)))), some (.inr (.inr (.inl (-2147483648, 2147483647, false)))), some (.inl 9)], [], [], [(29, 9, 20)], 0, []),
  (1010, 11, [some (.inr (.inr (.inr (.inr 58)))), some (.inr (.inr (.inl (-2147483648, 2147483647, false)))), some (.inl 10)], [], [], [(29, 10, 20)], 0, []),
  (1011, 10, [some (.inr (.inr (.inr (.inr 58)))), some (.inr (.inr (.inl (-2147483648, 2147483647, false)))), some (.inl 11)], [], [], [(29, 11, 20)], 0, []),
  (1012, 9, [some (.inr (.inr (.inr (.inr 58)))), some (.inr (.inr (.inl (-2147483648, 2147483647, false)))), some (.inl 12)], [], [], [(29, 12, 20)], 0, []),
  (1013, 8, [some (.inr (.inr (.inr (.inr 58)))), some (.inr (.inr (.inl (-2147483648, 2147483647, false)))), some (.inl 13)], [], [], [(29, 13, 20)], 0, []),
  (1014, 7, [some (.inr (.inr (.inr (.inr 58)))), some (.inr (.inr (.inl (-2147483648, 2147483647, false)))), some (.inl 14)], [], [], [(29, 14, 20)], 0, []),
  (1015, 6, [some (.inr (.inr (.inr (.inr 58)))), some (.inr (.inr (.inl (-2147483648, 2147483647, false)))), some (.inl 15)], [], [], [(29, 15, 20)], 0, []),
  (1016, 5, [some (.inr (.inr (.inr (.inr 58)))), some (.inr (.inr (.inl (-2147483648, 2147483647, false)))), some (.inl 16)], [], [], [(29, 16, 20)], 0, []),
  (1017, 4, [some (.inr (.inr (.inr (.inr 58)))), some (.inr (.inr (.inl (-2147483648, 2147483647, false)))), some (.inl 17)], [], [], [(29, 17, 20)], 0, []),
  (1018, 3, [some (.inr (.inr (.inr (.inr 58)))), some (.inr (.inr (.inl (-2147483648, 2147483647, false)))), some (.inl 18)], [], [], [(29, 18, 20)], 0, []),
  (1019, 2, [some (.inr (.inr (.inr (.inr 58)))), some (.inr (.inr (.inl (-2147483648, 2147483647, false)))), some (.inl 19)], [], [], [(29, 19, 20)], 0, []),
  (1020, 1, [some (.inr (.inr (.inr (.inr 58)))), some (.inr (.inr (.inl (-2147483648, 2147483647, false)))), some (.inl 20)], [], [], [(29, 20, 20)], 0, [])])]
set_option maxRecDepth 1000000 in
theorem ct_X1_total_3 : na_Ct gC ev_X1_total cc_X1_total_3 := na_chk_ok (cf := (gC, [(30, md_X1_total)], [])) ke_C (na_rok_mk (List.forall_mem_cons.mpr ⟨rk_X1_total, fun _ h => absurd h List.not_mem_nil⟩)) ndk_C ln_C mo_C pk_C (m := md_X1_total) (mi := 30) (fu := 3000) (sp := []) (hd := hd_X1_total_3) (mu := 22) rfl (nf_chk_ok (by decide +kernel))
def md_X1_amountOf : na_Md := (kx_X1_amountOf, kc_X1_amountOf, 4, [])
theorem rk_X1_amountOf {ms : List (Nat × na_Md)} {pk : List Nat}  : ∀ e ∈ md_X1_amountOf.2.2.2, na_rk (gC, ms, pk) md_X1_amountOf e := fun _ h => absurd h List.not_mem_nil
def cc_X1_amountOf_0 : na_C := ([.inr (.inr (.inr (.inr 49))), .inr (.inr (.inl (-2147483648, 2147483647, false)))], ([], []), 0, [], [], 1, (-2147483648, 2147483647), (0, 0))
def hd_X1_amountOf_0 : List na_Hd := [(4, [3], [(1000, 21, [some (.inr (.inr (.inr (.inr 49)))), some (.inr (.inl 30)), some (.inl 0), some (.inl 0)], [], [], [], 0, []),
  (1001, 20, [some (.inr (.inr (.inr (.inr 49)))), some (.inr (.inl 30)), some (.inr (.inr (.inl (-2147483648, 2147483647, false)))), some (.inl 1)], [], [], [(26, 1, 20)], 0, []),
  (1002, 19, [some (.inr (.inr (.inr (.inr 49)))), some (.inr (.inl 30)), some (.inr (.inr (.inl (-2147483648, 2147483647, false)))), some (.inl 2)], [], [], [(26, 2, 20)], 0, []),
  (1003, 18, [some (.inr (.inr (.inr (.inr 49)))), some (.inr (.inl 30)), some (.inr (.inr (.inl (-2147483648, 2147483647, false)))), some (.inl 3)], [], [], [(26, 3, 20)], 0, []),
  (1004, 17, [some (.inr (.inr (.inr (.inr 49)))), some (.inr (.inl 30)), some (.inr (.inr (.inl (-2147483648, 2147483647, false)))), some (.inl 4)], [], [], [(26, 4, 20)], 0, []),
  (1005, 16, [some (.inr (.inr (.inr (.inr 49)))), some (.inr (.inl 30)), some (.inr (.inr (.inl (-2147483648, 2147483647, false)))), some (.inl 5)], [], [], [(26, 5, 20)], 0, []),
  (1006, 15, [some (.inr (.inr (.inr (.inr 49)))), some (.inr (.inl 30)), some (.inr (.inr (.inl (-2147483648, 2147483647, false)))), some (.inl 6)], [], [], [(26, 6, 20)], 0, []),
  (1007, 14, [some (.inr (.inr (.inr (.inr 49)))), some (.inr (.inl 30)), some (.inr (.inr (.inl (-2147483648, 2147483647, false)))), some (.inl 7)], [], [], [(26, 7, 20)], 0, []),
  (1008, 13, [some (.inr (.inr (.inr (.inr 49)))), some (.inr (.inl 30)), some (.inr (.inr (.inl (-2147483648, 2147483647, false)))), some (.inl 8)], [], [], [(26, 8, 20)], 0, []),
  (1009, 12, [some (.inr (.inr (.inr (.inr 49)))), some (.inr (.inl 30)), some (.inr (.inr (.inl (-2147483648, 2147483647, false)))), some (.inl 9)], [], [], [(26, 9, 20)], 0, []),
  (1010, 11, [some (.inr (.inr (.inr (.inr 49)))), some (.inr (.inl 30)), some (.inr (.inr (.inl (-2147483648, 2147483647, false)))), some (.inl 10)], [], [], [(26, 10, 20)], 0, []),
  (1011, 10, [some (.inr (.inr (.inr (.inr 49)))), some (.inr (.inl 30)), some (.inr (.inr (.inl (-2147483648, 2147483647, false)))), some (.inl 11)], [], [], [(26, 11, 20)], 0, []),
  (1012, 9, [some (.inr (.inr (.inr (.inr 49)))), some (.inr (.inl 30)), some (.inr (.inr (.inl (-2147483648, 2147483647, false)))), some (.inl 12)], [], [], [(26, 12, 20)], 0, []),
  (1013, 8, [some (.inr (.inr (.inr (.inr 49)))), some (.inr (.inl 30)), some (.inr (.inr (.inl (-2147483648, 2147483647, false)))), some (.inl 13)], [], [], [(26, 13, 20)], 0, []),
  (1014, 7, [some (.inr (.inr (.inr (.inr 49)))), some (.inr (.inl 30)), some (.inr (.inr (.inl (-2147483648, 2147483647, false)))), some (.inl 14)], [], [], [(26, 14, 20)], 0, []),
  (1015, 6, [some (.inr (.inr (.inr (.inr 49)))), some (.inr (.inl 30)), some (.inr (.inr (.inl (-2147483648, 2147483647, false)))), some (.inl 15)], [], [], [(26, 15, 20)], 0, []),
  (1016, 5, [some (.inr (.inr (.inr (.inr 49)))), some (.inr (.inl 30)), some (.inr (.inr (.inl (-2147483648, 2147483647, false)))), some (.inl 16)], [], [], [(26, 16, 20)], 0, []),
  (1017, 4, [some (.inr (.inr (.inr (.inr 49)))), some (.inr (.inl 30)), some (.inr (.inr (.inl (-2147483648, 2147483647, false)))), some (.inl 17)], [], [], [(26, 17, 20)], 0, []),
  (1018, 3, [some (.inr (.inr (.inr (.inr 49)))), some (.inr (.inl 30)), some (.inr (.inr (.inl (-2147483648, 2147483647, false)))), some (.inl 18)], [], [], [(26, 18, 20)], 0, []),
  (1019, 2, [some (.inr (.inr (.inr (.inr 49)))), some (.inr (.inl 30)), some (.inr (.inr (.inl (-2147483648, 2147483647, false)))), some (.inl 19)], [], [], [(26, 19, 20)], 0, []),
  (1020, 1, [some (.inr (.inr (.inr (.inr 49)))), some (.inr (.inl 30)), some (.inr (.inr (.inl (-2147483648, 2147483647, false)))), some (.inl 20)], [], [], [(26, 20, 20)], 0, [])])]
set_option maxRecDepth 1000000 in
theorem ct_X1_amountOf_0 : na_Ct gC ev_X1_amountOf cc_X1_amountOf_0 := na_chk_ok (cf := (gC, [(31, md_X1_amountOf)], [])) ke_C (na_rok_mk (List.forall_mem_cons.mpr ⟨rk_X1_amountOf, fun _ h => absurd h List.not_mem_nil⟩)) ndk_C ln_C mo_C pk_C (m := md_X1_amountOf) (mi := 31) (fu := 3000) (sp := []) (hd := hd_X1_amountOf_0) (mu := 22) rfl (nf_chk_ok (by decide +kernel))
def cc_X1_amountOf_1 : na_C := ([.inr (.inr (.inr (.inr 52))), .inr (.inr (.inl (-2147483648, 2147483647, false)))], ([], []), 0, [], [], 1, (-2147483648, 2147483647), (0, 0))
def hd_X1_amountOf_1 : List na_Hd := [(4, [3], [(1000, 21, [some (.inr (.inr (.inr (.inr 52)))), some (.inr (.inl 30)), some (.inl 0), some (.inl 0)], [], [], [], 0, []),
  (1001, 20, [some (.inr (.inr (.inr (.inr 52)))), some (.inr (.inl 30)), some (.inr (.inr (.inl (-2147483648, 2147483647, false)))), some (.inl 1)], [], [], [(27, 1, 20)], 0, []),
  (1002, 19, [some (.inr (.inr (.inr (.inr 52)))), some (.inr (.inl 30)), some (.inr (.inr (.inl (-2147483648, 2147483647, false)))), some (.inl 2)], [], [], [(27, 2, 20)], 0, []),
  (1003, 18, [some (.inr (.inr (.inr (.inr 52)))), some (.inr (.inl 30)), some (.inr (.inr (.inl (-2147483648, 2147483647, false)))), some (.inl 3)], [], [], [(27, 3, 20)], 0, []),
  (1004, 17, [some (.inr (.inr (.inr (.inr 52)))), some (.inr (.inl 30)), some (.inr (.inr (.inl (-2147483648, 2147483647, false)))), some (.inl 4)], [], [], [(27, 4, 20)], 0, []),
  (1005, 16, [some (.inr (.inr (.inr (.inr 52)))), some (.inr (.inl 30)), some (.inr (.inr (.inl (-2147483648, 2147483647, false)))), some (.inl 5)], [], [], [(27, 5, 20)], 0, []),
  (1006, 15, [some (.inr (.inr (.inr (.inr 52)))), some (.inr (.inl 30)), some (.inr (.inr (.inl (-2147483648, 2147483647, false)))), some (.inl 6)], [], [], [(27, 6, 20)], 0, []),
  (1007, 14, [some (.inr (.inr (.inr (.inr 52)))), some (.inr (.inl 30)), some (.inr (.inr (.inl (-2147483648, 2147483647, false)))), some (.inl 7)], [], [], [(27, 7, 20)], 0, []),
  (1008, 13, [some (.inr (.inr (.inr (.inr 52)))), some (.inr (.inl 30)), some (.inr (.inr (.inl (-2147483648, 2147483647, false)))), some (.inl 8)], [], [], [(27, 8, 20)], 0, []),
  (1009, 12, [some (.inr (.inr (.inr (.inr 52)))), some (.inr (.inl 30)), some (.inr (.inr (.inl (-2147483648, 2147483647, false)))), some (.inl 9)], [], [], [(27, 9, 20)], 0, []),
  (1010, 11, [some (.inr (.inr (.inr (.inr 52)))), some (.inr (.inl 30)), some (.inr (.inr (.inl (-2147483648, 2147483647, false)))), some (.inl 10)], [], [], [(27, 10, 20)], 0, []),
  (1011, 10, [some (.inr (.inr (.inr (.inr 52)))), some (.inr (.inl 30)), some (.inr (.inr (.inl (-2147483648, 2147483647, false)))), some (.inl 11)], [], [], [(27, 11, 20)], 0, []),
  (1012, 9, [some (.inr (.inr (.inr (.inr 52)))), some (.inr (.inl 30)), some (.inr (.inr (.inl (-2147483648, 2147483647, false)))), some (.inl 12)], [], [], [(27, 12, 20)], 0, []),
  (1013, 8, [some (.inr (.inr (.inr (.inr 52)))), some (.inr (.inl 30)), some (.inr (.inr (.inl (-2147483648, 2147483647, false)))), some (.inl 13)], [], [], [(27, 13, 20)], 0, []),
  (1014, 7, [some (.inr (.inr (.inr (.inr 52)))), some (.inr (.inl 30)), some (.inr (.inr (.inl (-2147483648, 2147483647, false)))), some (.inl 14)], [], [], [(27, 14, 20)], 0, []),
  (1015, 6, [some (.inr (.inr (.inr (.inr 52)))), some (.inr (.inl 30)), some (.inr (.inr (.inl (-2147483648, 2147483647, false)))), some (.inl 15)], [], [], [(27, 15, 20)], 0, []),
  (1016, 5, [some (.inr (.inr (.inr (.inr 52)))), some (.inr (.inl 30)), some (.inr (.inr (.inl (-2147483648, 2147483647, false)))), some (.inl 16)], [], [], [(27, 16, 20)], 0, []),
  (1017, 4, [some (.inr (.inr (.inr (.inr 52)))), some (.inr (.inl 30)), some (.inr (.inr (.inl (-2147483648, 2147483647, false)))), some (.inl 17)], [], [], [(27, 17, 20)], 0, []),
  (1018, 3, [some (.inr (.inr (.inr (.inr 52)))), some (.inr (.inl 30)), some (.inr (.inr (.inl (-2147483648, 2147483647, false)))), some (.inl 18)], [], [], [(27, 18, 20)], 0, []),
  (1019, 2, [some (.inr (.inr (.inr (.inr 52)))), some (.inr (.inl 30)), some (.inr (.inr (.inl (-2147483648, 2147483647, false)))), some (.inl 19)], [], [], [(27, 19, 20)], 0, []),
  (1020, 1, [some (.inr (.inr (.inr (.inr 52)))), some (.inr (.inl 30)), some (.inr (.inr (.inl (-2147483648, 2147483647, false)))), some (.inl 20)], [], [], [(27, 20, 20)], 0, [])])]
set_option maxRecDepth 1000000 in
theorem ct_X1_amountOf_1 : na_Ct gC ev_X1_amountOf cc_X1_amountOf_1 := na_chk_ok (cf := (gC, [(31, md_X1_amountOf)], [])) ke_C (na_rok_mk (List.forall_mem_cons.mpr ⟨rk_X1_amountOf, fun _ h => absurd h List.not_mem_nil⟩)) ndk_C ln_C mo_C pk_C (m := md_X1_amountOf) (mi := 31) (fu := 3000) (sp := []) (hd := hd_X1_amountOf_1) (mu := 22) rfl (nf_chk_ok (by decide +kernel))
def cc_X1_amountOf_2 : na_C := ([.inr (.inr (.inr (.inr 55))), .inr (.inr (.inl (-2147483648, 2147483647, false)))], ([], []), 0, [], [], 1, (-2147483648, 2147483647), (0, 0))
def hd_X1_amountOf_2 : List na_Hd := [(4, [3], [(1000, 21, [some (.inr (.inr (.inr (.inr 55)))), some (.inr (.inl 30)), some (.inl 0), some (.inl 0)], [], [], [], 0, []),
  (1001, 20, [some (.inr (.inr (.inr (.inr 55)))), some (.inr (.inl 30)), some (.inr (.inr (.inl (-2147483648, 2147483647, false)))), some (.inl 1)], [], [], [(28, 1, 20)], 0, []),
  (1002, 19, [some (.inr (.inr (.inr (.inr 55)))), some (.inr (.inl 30)), some (.inr (.inr (.inl (-2147483648, 2147483647, false)))), some (.inl 2)], [], [], [(28, 2, 20)], 0, []),
  (1003, 18, [some (.inr (.inr (.inr (.inr 55)))), some (.inr (.inl 30)), some (.inr (.inr (.inl (-2147483648, 2147483647, false)))), some (.inl 3)], [], [], [(28, 3, 20)], 0, []),
  (1004, 17, [some (.inr (.inr (.inr (.inr 55)))), some (.inr (.inl 30)), some (.inr (.inr (.inl (-2147483648, 2147483647, false)))), some (.inl 4)], [], [], [(28, 4, 20)], 0, []),
  (1005, 16, [some (.inr (.inr (.inr (.inr 55)))), some (.inr (.inl 30)), some (.inr (.inr (.inl (-2147483648, 2147483647, false)))), some (.inl 5)], [], [], [(28, 5, 20)], 0, []),
  (1006, 15, [some (.inr (.inr (.inr (.inr 55)))), some (.inr (.inl 30)), some (.inr (.inr (.inl (-2147483648, 2147483647, false)))), some (.inl 6)], [], [], [(28, 6, 20)], 0, []),
  (1007, 14, [some (.inr (.inr (.inr (.inr 55)))), some (.inr (.inl 30)), some (.inr (.inr (.inl (-2147483648, 2147483647, false)))), some (.inl 7)], [], [], [(28, 7, 20)], 0, []),
  (1008, 13, [some (.inr (.inr (.inr (.inr 55)))), some (.inr (.inl 30)), some (.inr (.inr (.inl (-2147483648, 2147483647, false)))), some (.inl 8)], [], [], [(28, 8, 20)], 0, []),
  (1009, 12, [some (.inr (.inr (.inr (.inr 55)))), some (.inr (.inl 30)), some (.inr (.inr (.inl (-2147483648, 2147483647, false)))), some (.inl 9)], [], [], [(28, 9, 20)], 0, []),
  (1010, 11, [some (.inr (.inr (.inr (.inr 55)))), some (.inr (.inl 30)), some (.inr (.inr (.inl (-2147483648, 2147483647, false)))), some (.inl 10)], [], [], [(28, 10, 20)], 0, []),
  (1011, 10, [some (.inr (.inr (.inr (.inr 55)))), some (.inr (.inl 30)), some (.inr (.inr (.inl (-2147483648, 2147483647, false)))), some (.inl 11)], [], [], [(28, 11, 20)], 0, []),
  (1012, 9, [some (.inr (.inr (.inr (.inr 55)))), some (.inr (.inl 30)), some (.inr (.inr (.inl (-2147483648, 2147483647, false)))), some (.inl 12)], [], [], [(28, 12, 20)], 0, []),
  (1013, 8, [some (.inr (.inr (.inr (.inr 55)))), some (.inr (.inl 30)), some (.inr (.inr (.inl (-2147483648, 2147483647, false)))), some (.inl 13)], [], [], [(28, 13, 20)], 0, []),
  (1014, 7, [some (.inr (.inr (.inr (.inr 55)))), some (.inr (.inl 30)), some (.inr (.inr (.inl (-2147483648, 2147483647, false)))), some (.inl 14)], [], [], [(28, 14, 20)], 0, []),
  (1015, 6, [some (.inr (.inr (.inr (.inr 55)))), some (.inr (.inl 30)), some (.inr (.inr (.inl (-2147483648, 2147483647, false)))), some (.inl 15)], [], [], [(28, 15, 20)], 0, []),
  (1016, 5, [some (.inr (.inr (.inr (.inr 55)))), some (.inr (.inl 30)), some (.inr (.inr (.inl (-2147483648, 2147483647, false)))), some (.inl 16)], [], [], [(28, 16, 20)], 0, []),
  (1017, 4, [some (.inr (.inr (.inr (.inr 55)))), some (.inr (.inl 30)), some (.inr (.inr (.inl (-2147483648, 2147483647, false)))), some (.inl 17)], [], [], [(28, 17, 20)], 0, []),
  (1018, 3, [some (.inr (.inr (.inr (.inr 55)))), some (.inr (.inl 30)), some (.inr (.inr (.inl (-2147483648, 2147483647, false)))), some (.inl 18)], [], [], [(28, 18, 20)], 0, []),
  (1019, 2, [some (.inr (.inr (.inr (.inr 55)))), some (.inr (.inl 30)), some (.inr (.inr (.inl (-2147483648, 2147483647, false)))), some (.inl 19)], [], [], [(28, 19, 20)], 0, []),
  (1020, 1, [some (.inr (.inr (.inr (.inr 55)))), some (.inr (.inl 30)), some (.inr (.inr (.inl (-2147483648, 2147483647, false)))), some (.inl 20)], [], [], [(28, 20, 20)], 0, [])])]
set_option maxRecDepth 1000000 in
theorem ct_X1_amountOf_2 : na_Ct gC ev_X1_amountOf cc_X1_amountOf_2 := na_chk_ok (cf := (gC, [(31, md_X1_amountOf)], [])) ke_C (na_rok_mk (List.forall_mem_cons.mpr ⟨rk_X1_amountOf, fun _ h => absurd h List.not_mem_nil⟩)) ndk_C ln_C mo_C pk_C (m := md_X1_amountOf) (mi := 31) (fu := 3000) (sp := []) (hd := hd_X1_amountOf_2) (mu := 22) rfl (nf_chk_ok (by decide +kernel))
def cc_X1_amountOf_3 : na_C := ([.inr (.inr (.inr (.inr 58))), .inr (.inr (.inl (-2147483648, 2147483647, false)))], ([], []), 0, [], [], 1, (-2147483648, 2147483647), (0, 0))
def hd_X1_amountOf_3 : List na_Hd := [(4, [3], [(1000, 21, [some (.inr (.inr (.inr (.inr 58)))), some (.inr (.inl 30)), some (.inl 0), some (.inl 0)], [], [], [], 0, []),
  (1001, 20, [some (.inr (.inr (.inr (.inr 58)))), some (.inr (.inl 30)), some (.inr (.inr (.inl (-2147483648, 2147483647, false)))), some (.inl 1)], [], [], [(29, 1, 20)], 0, []),
  (1002, 19, [some (.inr (.inr (.inr (.inr 58)))), some (.inr (.inl 30)), some (.inr (.inr (.inl (-2147483648, 2147483647, false)))), some (.inl 2)], [], [], [(29, 2, 20)], 0, []),
  (1003, 18, [some (.inr (.inr (.inr (.inr 58)))), some (.inr (.inl 30)), some (.inr (.inr (.inl (-2147483648, 2147483647, false)))), some (.inl 3)], [], [], [(29, 3, 20)], 0, []),
  (1004, 17, [some (.inr (.inr (.inr (.inr 58)))), some (.inr (.inl 30)), some (.inr (.inr (.inl (-2147483648, 2147483647, false)))), some (.inl 4)], [], [], [(29, 4, 20)], 0, []),
  (1005, 16, [some (.inr (.inr (.inr (.inr 58)))), some (.inr (.inl 30)), some (.inr (.inr (.inl (-2147483648, 2147483647, false)))), some (.inl 5)], [], [], [(29, 5, 20)], 0, []),
  (1006, 15, [some (.inr (.inr (.inr (.inr 58)))), some (.inr (.inl 30)), some (.inr (.inr (.inl (-2147483648, 2147483647, false)))), some (.inl 6)], [], [], [(29, 6, 20)], 0, []),
  (1007, 14, [some (.inr (.inr (.inr (.inr 58)))), some (.inr (.inl 30)), some (.inr (.inr (.inl (-2147483648, 2147483647, false)))), some (.inl 7)], [], [], [(29, 7, 20)], 0, []),
  (1008, 13, [some (.inr (.inr (.inr (.inr 58)))), some (.inr (.inl 30)), some (.inr (.inr (.inl (-2147483648, 2147483647, false)))), some (.inl 8)], [], [], [(29, 8, 20)], 0, []),
  (1009, 12, [some (.inr (.inr (.inr (.inr 58)))), some (.inr (.inl 30)), some (.inr (.inr (.inl (-2147483648, 2147483647, false)))), some (.inl 9)], [], [], [(29, 9, 20)], 0, []),
  (1010, 11, [some (.inr (.inr (.inr (.inr 58)))), some (.inr (.inl 30)), some (.inr (.inr (.inl (-2147483648, 2147483647, false)))), some (.inl 10)], [], [], [(29, 10, 20)], 0, []),
  (1011, 10, [some (.inr (.inr (.inr (.inr 58)))), some (.inr (.inl 30)), some (.inr (.inr (.inl (-2147483648, 2147483647, false)))), some (.inl 11)], [], [], [(29, 11, 20)], 0, []),
  (1012, 9, [some (.inr (.inr (.inr (.inr 58)))), some (.inr (.inl 30)), some (.inr (.inr (.inl (-2147483648, 2147483647, false)))), some (.inl 12)], [], [], [(29, 12, 20)], 0, []),
  (1013, 8, [some (.inr (.inr (.inr (.inr 58)))), some (.inr (.inl 30)), some (.inr (.inr (.inl (-2147483648, 2147483647, false)))), some (.inl 13)], [], [], [(29, 13, 20)], 0, []),
  (1014, 7, [some (.inr (.inr (.inr (.inr 58)))), some (.inr (.inl 30)), some (.inr (.inr (.inl (-2147483648, 2147483647, false)))), some (.inl 14)], [], [], [(29, 14, 20)], 0, []),
  (1015, 6, [some (.inr (.inr (.inr (.inr 58)))), some (.inr (.inl 30)), some (.inr (.inr (.inl (-2147483648, 2147483647, false)))), some (.inl 15)], [], [], [(29, 15, 20)], 0, []),
  (1016, 5, [some (.inr (.inr (.inr (.inr 58)))), some (.inr (.inl 30)), some (.inr (.inr (.inl (-2147483648, 2147483647, false)))), some (.inl 16)], [], [], [(29, 16, 20)], 0, []),
  (1017, 4, [some (.inr (.inr (.inr (.inr 58)))), some (.inr (.inl 30)), some (.inr (.inr (.inl (-2147483648, 2147483647, false)))), some (.inl 17)], [], [], [(29, 17, 20)], 0, []),
  (1018, 3, [some (.inr (.inr (.inr (.inr 58)))), some (.inr (.inl 30)), some (.inr (.inr (.inl (-2147483648, 2147483647, false)))), some (.inl 18)], [], [], [(29, 18, 20)], 0, []),
  (1019, 2, [some (.inr (.inr (.inr (.inr 58)))), some (.inr (.inl 30)), some (.inr (.inr (.inl (-2147483648, 2147483647, false)))), some (.inl 19)], [], [], [(29, 19, 20)], 0, []),
  (1020, 1, [some (.inr (.inr (.inr (.inr 58)))), some (.inr (.inl 30)), some (.inr (.inr (.inl (-2147483648, 2147483647, false)))), some (.inl 20)], [], [], [(29, 20, 20)], 0, [])])]
set_option maxRecDepth 1000000 in
theorem ct_X1_amountOf_3 : na_Ct gC ev_X1_amountOf cc_X1_amountOf_3 := na_chk_ok (cf := (gC, [(31, md_X1_amountOf)], [])) ke_C (na_rok_mk (List.forall_mem_cons.mpr ⟨rk_X1_amountOf, fun _ h => absurd h List.not_mem_nil⟩)) ndk_C ln_C mo_C pk_C (m := md_X1_amountOf) (mi := 31) (fu := 3000) (sp := []) (hd := hd_X1_amountOf_3) (mu := 22) rfl (nf_chk_ok (by decide +kernel))
def md_J9_min_7cf53 : na_Md := (kx_J9_min_7cf53, kc_J9_min_7cf53, 2, [])
theorem rk_J9_min_7cf53 {ms : List (Nat × na_Md)} {pk : List Nat}  : ∀ e ∈ md_J9_min_7cf53.2.2.2, na_rk (gC, ms, pk) md_J9_min_7cf53 e := fun _ h => absurd h List.not_mem_nil
def md_X1_take : na_Md := (kx_X1_take, kc_X1_take, 4, [(122, .inl 33)])
theorem rk_X1_take {ms : List (Nat × na_Md)} {pk : List Nat} (h_J9_min_7cf53 : nk_lk ms 33 = some md_J9_min_7cf53) : ∀ e ∈ md_X1_take.2.2.2, na_rk (gC, ms, pk) md_X1_take e := List.forall_mem_cons.mpr ⟨na_rk_i rfl rfl rfl h_J9_min_7cf53 rfl, fun _ h => absurd h List.not_mem_nil⟩
def md_X1_drawFromFirst : na_Md := (kx_X1_drawFromFirst, kc_X1_drawFromFirst, 4, [(88, .inl 34)])
theorem rk_X1_drawFromFirst {ms : List (Nat × na_Md)} {pk : List Nat} (h_X1_take : nk_lk ms 34 = some md_X1_take) : ∀ e ∈ md_X1_drawFromFirst.2.2.2, na_rk (gC, ms, pk) md_X1_drawFromFirst e := List.forall_mem_cons.mpr ⟨na_rk_i rfl rfl rfl h_X1_take rfl, fun _ h => absurd h List.not_mem_nil⟩
def cc_X1_drawFromFirst_0 : na_C := ([.inr (.inr (.inr (.inr 49))), .inr (.inr (.inl (-2147483648, 2147483647, false)))], ([], []), 0, [], [51], 0, (0, 0), (0, 0))
def hd_X1_drawFromFirst_0 : List na_Hd := [(4, [3], [(1000, 21, [some (.inr (.inr (.inr (.inr 49)))), some (.inr (.inl 30)), some (.inr (.inl 30)), some (.inl 0)], [], [], [], 0, []),
  (1001, 20, [some (.inr (.inr (.inr (.inr 49)))), some (.inr (.inl 30)), some (.inr (.inr (.inl (-2147483648, 2147483647, false)))), some (.inl 1)], [], [51], [(26, 1, 20)], 0, []),
  (1002, 19, [some (.inr (.inr (.inr (.inr 49)))), some (.inr (.inl 30)), some (.inr (.inr (.inl (-2147483648, 2147483647, false)))), some (.inl 2)], [], [51], [(26, 2, 20)], 0, []),
  (1003, 18, [some (.inr (.inr (.inr (.inr 49)))), some (.inr (.inl 30)), some (.inr (.inr (.inl (-2147483648, 2147483647, false)))), some (.inl 3)], [], [51], [(26, 3, 20)], 0, []),
  (1004, 17, [some (.inr (.inr (.inr (.inr 49)))), some (.inr (.inl 30)), some (.inr (.inr (.inl (-2147483648, 2147483647, false)))), some (.inl 4)], [], [51], [(26, 4, 20)], 0, []),
  (1005, 16, [some (.inr (.inr (.inr (.inr 49)))), some (.inr (.inl 30)), some (.inr (.inr (.inl (-2147483648, 2147483647, false)))), some (.inl 5)], [], [51], [(26, 5, 20)], 0, []),
  (1006, 15, [some (.inr (.inr (.inr (.inr 49)))), some (.inr (.inl 30)), some (.inr (.inr (.inl (-2147483648, 2147483647, false)))), some (.inl 6)], [], [51], [(26, 6, 20)], 0, []),
  (1007, 14, [some (.inr (.inr (.inr (.inr 49)))), some (.inr (.inl 30)), some (.inr (.inr (.inl (-2147483648, 2147483647, false)))), some (.inl 7)], [], [51], [(26, 7, 20)], 0, []),
  (1008, 13, [some (.inr (.inr (.inr (.inr 49)))), some (.inr (.inl 30)), some (.inr (.inr (.inl (-2147483648, 2147483647, false)))), some (.inl 8)], [], [51], [(26, 8, 20)], 0, []),
  (1009, 12, [some (.inr (.inr (.inr (.inr 49)))), some (.inr (.inl 30)), some (.inr (.inr (.inl (-2147483648, 2147483647, false)))), some (.inl 9)], [], [51], [(26, 9, 20)], 0, []),
  (1010, 11, [some (.inr (.inr (.inr (.inr 49)))), some (.inr (.inl 30)), some (.inr (.inr (.inl (-2147483648, 2147483647, false)))), some (.inl 10)], [], [51], [(26, 10, 20)], 0, []),
  (1011, 10, [some (.inr (.inr (.inr (.inr 49)))), some (.inr (.inl 30)), some (.inr (.inr (.inl (-2147483648, 2147483647, false)))), some (.inl 11)], [], [51], [(26, 11, 20)], 0, []),
  (1012, 9, [some (.inr (.inr (.inr (.inr 49)))), some (.inr (.inl 30)), some (.inr (.inr (.inl (-2147483648, 2147483647, false)))), some (.inl 12)], [], [51], [(26, 12, 20)], 0, []),
  (1013, 8, [some (.inr (.inr (.inr (.inr 49)))), some (.inr (.inl 30)), some (.inr (.inr (.inl (-2147483648, 2147483647, false)))), some (.inl 13)], [], [51], [(26, 13, 20)], 0, []),
  (1014, 7, [some (.inr (.inr (.inr (.inr 49)))), some (.inr (.inl 30)), some (.inr (.inr (.inl (-2147483648, 2147483647, false)))), some (.inl 14)], [], [51], [(26, 14, 20)], 0, []),
  (1015, 6, [some (.inr (.inr (.inr (.inr 49)))), some (.inr (.inl 30)), some (.inr (.inr (.inl (-2147483648, 2147483647, false)))), some (.inl 15)], [], [51], [(26, 15, 20)], 0, []),
  (1016, 5, [some (.inr (.inr (.inr (.inr 49)))), some (.inr (.inl 30)), some (.inr (.inr (.inl (-2147483648, 2147483647, false)))), some (.inl 16)], [], [51], [(26, 16, 20)], 0, []),
  (1017, 4, [some (.inr (.inr (.inr (.inr 49)))), some (.inr (.inl 30)), some (.inr (.inr (.inl (-2147483648, 2147483647, false)))), some (.inl 17)], [], [51], [(26, 17, 20)], 0, []),
  (1018, 3, [some (.inr (.inr (.inr (.inr 49)))), some (.inr (.inl 30)), some (.inr (.inr (.inl (-2147483648, 2147483647, false)))), some (.inl 18)], [], [51], [(26, 18, 20)], 0, []),
  (1019, 2, [some (.inr (.inr (.inr (.inr 49)))), some (.inr (.inl 30)), some (.inr (.inr (.inl (-2147483648, 2147483647, false)))), some (.inl 19)], [], [51], [(26, 19, 20)], 0, []),
  (1020, 1, [some (.inr (.inr (.inr (.inr 49)))), some (.inr (.inl 30)), some (.inr (.inr (.inl (-2147483648, 2147483647, false)))), some (.inl 20)], [], [51], [(26, 20, 20)], 0, [])])]
set_option maxRecDepth 1000000 in
theorem ct_X1_drawFromFirst_0 : na_Ct gC ev_X1_drawFromFirst cc_X1_drawFromFirst_0 := na_chk_ok (cf := (gC, [(35, md_X1_drawFromFirst), (34, md_X1_take), (33, md_J9_min_7cf53)], [])) ke_C (na_rok_mk (List.forall_mem_cons.mpr ⟨rk_X1_drawFromFirst rfl, List.forall_mem_cons.mpr ⟨rk_X1_take rfl, List.forall_mem_cons.mpr ⟨rk_J9_min_7cf53, fun _ h => absurd h List.not_mem_nil⟩⟩⟩)) ndk_C ln_C mo_C pk_C (m := md_X1_drawFromFirst) (mi := 35) (fu := 3000) (sp := []) (hd := hd_X1_drawFromFirst_0) (mu := 22) rfl (nf_chk_ok (by decide +kernel))
