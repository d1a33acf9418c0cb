def md_X6_bits : na_Md := (kx_X6_bits, kc_X6_bits, 3, [])
theorem rk_X6_bits {ms : List (Nat × na_Md)} {pk : List Nat}  : ∀ e ∈ md_X6_bits.2.2.2, na_rk (gR, ms, pk) md_X6_bits e := fun _ h => absurd h List.not_mem_nil
def cc_X6_bits_0 : na_C := ([.inr (.inr (.inl (-2147483648, 2147483647, false)))], ([], []), 0, [], [], 1, (-2147483648, 2147483647), (0, 0))
def hd_X6_bits_0 : List na_Hd := [(4, [2], [(1000, 17, [some (.inr (.inl 9)), some (.inl 0), some (.inl 0)], [], [], [], 0, []),
  (1001, 16, [some (.inr (.inl 9)), some (.inr (.inr (.inl (-2147483648, 2147483647, false)))), some (.inl 1)], [], [], [], 0, []),
  (1002, 15, [some (.inr (.inl 9)), some (.inr (.inr (.inl (-2147483648, 2147483647, false)))), some (.inl 2)], [], [], [], 0, []),
  (1003, 14, [some (.inr (.inl 9)), some (.inr (.inr (.inl (-2147483648, 2147483647, false)))), some (.inl 3)], [], [], [], 0, []),
  (1004, 13, [some (.inr (.inl 9)), some (.inr (.inr (.inl (-2147483648, 2147483647, false)))), some (.inl 4)], [], [], [], 0, []),
  (1005, 12, [some (.inr (.inl 9)), some (.inr (.inr (.inl (-2147483648, 2147483647, false)))), some (.inl 5)], [], [], [], 0, []),
  (1006, 11, [some (.inr (.inl 9)), some (.inr (.inr (.inl (-2147483648, 2147483647, false)))), some (.inl 6)], [], [], [], 0, []),
  (1007, 10, [some (.inr (.inl 9)), some (.inr (.inr (.inl (-2147483648, 2147483647, false)))), some (.inl 7)], [], [], [], 0, []),
  (1008, 9, [some (.inr (.inl 9)), some (.inr (.inr (.inl (-2147483648, 2147483647, false)))), some (.inl 8)], [], [], [], 0, []),
  (1009, 8, [some (.inr (.inl 9)), some (.inr (.inr (.inl (-2147483648, 2147483647, false)))), some (.inl 9)], [], [], [], 0, []),
  (1010, 7, [some (.inr (.inl 9)), some (.inr (.inr (.inl (-2147483648, 2147483647, false)))), some (.inl 10)], [], [], [], 0, []),
  (1011, 6, [some (.inr (.inl 9)), some (.inr (.inr (.inl (-2147483648, 2147483647, false)))), some (.inl 11)], [], [], [], 0, []),
  (1012, 5, [some (.inr (.inl 9)), some (.inr (.inr (.inl (-2147483648, 2147483647, false)))), some (.inl 12)], [], [], [], 0, []),
  (1013, 4, [some (.inr (.inl 9)), some (.inr (.inr (.inl (-2147483648, 2147483647, false)))), some (.inl 13)], [], [], [], 0, []),
  (1014, 3, [some (.inr (.inl 9)), some (.inr (.inr (.inl (-2147483648, 2147483647, false)))), some (.inl 14)], [], [], [], 0, []),
  (1015, 2, [some (.inr (.inl 9)), some (.inr (.inr (.inl (-2147483648, 2147483647, false)))), some (.inl 15)], [], [], [], 0, []),
  (1016, 1, [some (.inr (.inl 9)), some (.inr (.inr (.inl (-2147483648, 2147483647, false)))), some (.inl 16)], [], [], [], 0, [])])]
set_option maxRecDepth 1000000 in
theorem ct_X6_bits_0 : na_Ct gR ev_X6_bits cc_X6_bits_0 := na_chk_ok (cf := (gR, [(127, md_X6_bits)], [17])) ke_R (na_rok_mk (List.forall_mem_cons.mpr ⟨rk_X6_bits, fun _ h => absurd h List.not_mem_nil⟩)) ndk_R ln_R mo_R pk_R (m := md_X6_bits) (mi := 127) (fu := 3000) (sp := []) (hd := hd_X6_bits_0) (mu := 18) rfl (nf_chk_ok (by decide +kernel))
def md_X6_choice : na_Md := (kx_X6_choice, kc_X6_choice, 2, [])
theorem rk_X6_choice {ms : List (Nat × na_Md)} {pk : List Nat}  : ∀ e ∈ md_X6_choice.2.2.2, na_rk (gR, ms, pk) md_X6_choice e := fun _ h => absurd h List.not_mem_nil
def cc_X6_choice_0 : na_C := ([.inr (.inr (.inl (-2147483648, 2147483647, false))), .inr (.inr (.inl (-2147483648, 2147483647, false)))], ([], []), 0, [], [], 1, (0, 3), (0, 0))
def hd_X6_choice_0 : List na_Hd := []
set_option maxRecDepth 1000000 in
theorem ct_X6_choice_0 : na_Ct gR ev_X6_choice cc_X6_choice_0 := na_chk_ok (cf := (gR, [(158, md_X6_choice)], [17])) ke_R (na_rok_mk (List.forall_mem_cons.mpr ⟨rk_X6_choice, fun _ h => absurd h List.not_mem_nil⟩)) ndk_R ln_R mo_R pk_R (m := md_X6_choice) (mi := 158) (fu := 3000) (sp := []) (hd := hd_X6_choice_0) (mu := 1) rfl (nf_chk_ok (by decide +kernel))
def md_X6_drawsFrom : na_Md := (kx_X6_drawsFrom, kc_X6_drawsFrom, 4, [])
theorem rk_X6_drawsFrom {ms : List (Nat × na_Md)} {pk : List Nat}  : ∀ e ∈ md_X6_drawsFrom.2.2.2, na_rk (gR, ms, pk) md_X6_drawsFrom e := fun _ h => absurd h List.not_mem_nil
def cc_X6_drawsFrom_0 : na_C := ([.inr (.inr (.inr (.inr 0))), .inr (.inr (.inl (0, 79, false))), .inr (.inr (.inl (-2147483648, 2147483647, false)))], ([], []), 0, [(8, -2147483648, 2147483647)], [20], 0, (0, 0), (0, 0))
def hd_X6_drawsFrom_0 : List na_Hd := []
set_option maxRecDepth 1000000 in
theorem ct_X6_drawsFrom_0 : na_Ct gR ev_X6_drawsFrom cc_X6_drawsFrom_0 := na_chk_ok (cf := (gR, [(205, md_X6_drawsFrom)], [17])) ke_R (na_rok_mk (List.forall_mem_cons.mpr ⟨rk_X6_drawsFrom, fun _ h => absurd h List.not_mem_nil⟩)) ndk_R ln_R mo_R pk_R (m := md_X6_drawsFrom) (mi := 205) (fu := 3000) (sp := []) (hd := hd_X6_drawsFrom_0) (mu := 1) rfl (nf_chk_ok (by decide +kernel))
