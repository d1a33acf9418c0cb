def md_X6_left : na_Md := (kx_X6_left, kc_X6_left, 3, [(1078, .inl 202), (494, .inl 144), (1100, .inr (.inl cs_X6_allOf)), (444, .inl 125)])
theorem rk_X6_left {ms : List (Nat × na_Md)} {pk : List Nat} (h_X6_isHeap : nk_lk ms 202 = some md_X6_isHeap) (h_X6_isPerson : nk_lk ms 144 = some md_X6_isPerson) (h_X6_ask : nk_lk ms 125 = some md_X6_ask) : ∀ e ∈ md_X6_left.2.2.2, na_rk (gR, ms, pk) md_X6_left e := List.forall_mem_cons.mpr ⟨na_rk_i rfl rfl rfl h_X6_isHeap rfl, List.forall_mem_cons.mpr ⟨na_rk_i rfl rfl rfl h_X6_isPerson rfl, List.forall_mem_cons.mpr ⟨na_rk_c rfl rfl rfl csok_X6_allOf, List.forall_mem_cons.mpr ⟨na_rk_i rfl rfl rfl h_X6_ask rfl, fun _ h => absurd h List.not_mem_nil⟩⟩⟩⟩
def cc_X6_left_0 : na_C := ([.inr (.inr (.inr (.inr 0))), .inr (.inr (.inl (-2147483648, 2147483647, false))), .inr (.inr (.inl (-2147483648, 2147483647, false)))], ([], []), 0, [(1, -2147483648, 2147483647)], [], 1, (-2147483648, 2147483647), (0, 0))
def hd_X6_left_0 : List na_Hd := []
set_option maxRecDepth 1000000 in
theorem ct_X6_left_0 : na_Ct gR ev_X6_left cc_X6_left_0 := na_chk_ok (cf := (gR, [(207, md_X6_left), (202, md_X6_isHeap), (144, md_X6_isPerson), (125, md_X6_ask), (123, md_X6_in)], [17])) ke_R (na_rok_mk (List.forall_mem_cons.mpr ⟨rk_X6_left rfl rfl rfl, List.forall_mem_cons.mpr ⟨rk_X6_isHeap rfl, List.forall_mem_cons.mpr ⟨rk_X6_isPerson rfl, List.forall_mem_cons.mpr ⟨rk_X6_ask, List.forall_mem_cons.mpr ⟨rk_X6_in, fun _ h => absurd h List.not_mem_nil⟩⟩⟩⟩⟩)) ndk_R ln_R mo_R pk_R (m := md_X6_left) (mi := 207) (fu := 3000) (sp := []) (hd := hd_X6_left_0) (mu := 1) rfl (nf_chk_ok (by decide +kernel))
def md_X6_layer : na_Md := (kx_X6_layer, kc_X6_layer, 3, [(1078, .inl 202), (358, .inl 123), (388, .inl 124)])
theorem rk_X6_layer {ms : List (Nat × na_Md)} {pk : List Nat} (h_X6_isHeap : nk_lk ms 202 = some md_X6_isHeap) (h_X6_in : nk_lk ms 123 = some md_X6_in) (h_X6_meets : nk_lk ms 124 = some md_X6_meets) : ∀ e ∈ md_X6_layer.2.2.2, na_rk (gR, ms, pk) md_X6_layer e := List.forall_mem_cons.mpr ⟨na_rk_i rfl rfl rfl h_X6_isHeap rfl, List.forall_mem_cons.mpr ⟨na_rk_i rfl rfl rfl h_X6_in rfl, List.forall_mem_cons.mpr ⟨na_rk_i rfl rfl rfl h_X6_meets rfl, fun _ h => absurd h List.not_mem_nil⟩⟩⟩
def cc_X6_layer_0 : na_C := ([.inr (.inr (.inr (.inr 0))), .inr (.inr (.inl (-2147483648, 2147483647, false))), .inr (.inr (.inl (-2147483648, 2147483647, false)))], ([], []), 0, [(0, -2147483648, 2147483647)], [1], 1, (-2147483648, 2147483647), (0, 0))
def hd_X6_layer_0 : List na_Hd := []
set_option maxRecDepth 1000000 in
theorem ct_X6_layer_0 : na_Ct gR ev_X6_layer cc_X6_layer_0 := na_chk_ok (cf := (gR, [(208, md_X6_layer), (202, md_X6_isHeap), (123, md_X6_in), (124, md_X6_meets)], [17])) ke_R (na_rok_mk (List.forall_mem_cons.mpr ⟨rk_X6_layer rfl rfl rfl, List.forall_mem_cons.mpr ⟨rk_X6_isHeap rfl, List.forall_mem_cons.mpr ⟨rk_X6_in, List.forall_mem_cons.mpr ⟨rk_X6_meets, fun _ h => absurd h List.not_mem_nil⟩⟩⟩⟩)) ndk_R ln_R mo_R pk_R (m := md_X6_layer) (mi := 208) (fu := 3000) (sp := []) (hd := hd_X6_layer_0) (mu := 1) rfl (nf_chk_ok (by decide +kernel))
def md_X6_asked : na_Md := (kx_X6_asked, kc_X6_asked, 1, [])
theorem rk_X6_asked {ms : List (Nat × na_Md)} {pk : List Nat}  : ∀ e ∈ md_X6_asked.2.2.2, na_rk (gR, ms, pk) md_X6_asked e := fun _ h => absurd h List.not_mem_nil
def cc_X6_asked_0 : na_C := ([.inr (.inr (.inr (.inr 0)))], ([], []), 0, [], [], 1, (-2147483648, 2147483647), (0, 0))
def hd_X6_asked_0 : List na_Hd := []
set_option maxRecDepth 1000000 in
theorem ct_X6_asked_0 : na_Ct gR ev_X6_asked cc_X6_asked_0 := na_chk_ok (cf := (gR, [(209, md_X6_asked)], [17])) ke_R (na_rok_mk (List.forall_mem_cons.mpr ⟨rk_X6_asked, fun _ h => absurd h List.not_mem_nil⟩)) ndk_R ln_R mo_R pk_R (m := md_X6_asked) (mi := 209) (fu := 3000) (sp := []) (hd := hd_X6_asked_0) (mu := 1) rfl (nf_chk_ok (by decide +kernel))
def md_X6_upper : na_Md := (kx_X6_upper, kc_X6_upper, 1, [])
theorem rk_X6_upper {ms : List (Nat × na_Md)} {pk : List Nat}  : ∀ e ∈ md_X6_upper.2.2.2, na_rk (gR, ms, pk) md_X6_upper e := fun _ h => absurd h List.not_mem_nil
def cc_X6_upper_0 : na_C := ([.inr (.inr (.inr (.inr 0)))], ([], []), 0, [], [], 2, (0, 0), (0, 0))
def hd_X6_upper_0 : List na_Hd := []
set_option maxRecDepth 1000000 in
theorem ct_X6_upper_0 : na_Ct gR ev_X6_upper cc_X6_upper_0 := na_chk_ok (cf := (gR, [(210, md_X6_upper)], [17])) ke_R (na_rok_mk (List.forall_mem_cons.mpr ⟨rk_X6_upper, fun _ h => absurd h List.not_mem_nil⟩)) ndk_R ln_R mo_R pk_R (m := md_X6_upper) (mi := 210) (fu := 3000) (sp := []) (hd := hd_X6_upper_0) (mu := 1) rfl (nf_chk_ok (by decide +kernel))
def md_X6_lower : na_Md := (kx_X6_lower, kc_X6_lower, 1, [])
theorem rk_X6_lower {ms : List (Nat × na_Md)} {pk : List Nat}  : ∀ e ∈ md_X6_lower.2.2.2, na_rk (gR, ms, pk) md_X6_lower e := fun _ h => absurd h List.not_mem_nil
def cc_X6_lower_0 : na_C := ([.inr (.inr (.inr (.inr 0)))], ([], []), 0, [], [], 2, (0, 0), (0, 0))
def hd_X6_lower_0 : List na_Hd := []
set_option maxRecDepth 1000000 in
theorem ct_X6_lower_0 : na_Ct gR ev_X6_lower cc_X6_lower_0 := na_chk_ok (cf := (gR, [(211, md_X6_lower)], [17])) ke_R (na_rok_mk (List.forall_mem_cons.mpr ⟨rk_X6_lower, fun _ h => absurd h List.not_mem_nil⟩)) ndk_R ln_R mo_R pk_R (m := md_X6_lower) (mi := 211) (fu := 3000) (sp := []) (hd := hd_X6_lower_0) (mu := 1) rfl (nf_chk_ok (by decide +kernel))
def cs_X6_counts : List na_C := [cc_X6_counts_0]
theorem csok_X6_counts : ∀ c ∈ cs_X6_counts, na_Ct gR ev_X6_counts c := List.forall_mem_cons.mpr ⟨ct_X6_counts_0, fun _ h => absurd h List.not_mem_nil⟩
def md_X6_count : na_Md := (kx_X6_count, kc_X6_count, 2, [(358, .inl 123), (1124, .inr (.inl cs_X6_counts))])
theorem rk_X6_count {ms : List (Nat × na_Md)} {pk : List Nat} (h_X6_in : nk_lk ms 123 = some md_X6_in) : ∀ e ∈ md_X6_count.2.2.2, na_rk (gR, ms, pk) md_X6_count e := List.forall_mem_cons.mpr ⟨na_rk_i rfl rfl rfl h_X6_in rfl, List.forall_mem_cons.mpr ⟨na_rk_c rfl rfl rfl csok_X6_counts, fun _ h => absurd h List.not_mem_nil⟩⟩
def cc_X6_count_0 : na_C := ([.inr (.inr (.inr (.inr 0))), .inr (.inr (.inl (-2147483648, 2147483647, false)))], ([], []), 0, [], [], 1, (-1, 98), (0, 0))
def hd_X6_count_0 : List na_Hd := []
set_option maxRecDepth 1000000 in
theorem ct_X6_count_0 : na_Ct gR ev_X6_count cc_X6_count_0 := na_chk_ok (cf := (gR, [(213, md_X6_count), (123, md_X6_in)], [17])) ke_R (na_rok_mk (List.forall_mem_cons.mpr ⟨rk_X6_count rfl, List.forall_mem_cons.mpr ⟨rk_X6_in, fun _ h => absurd h List.not_mem_nil⟩⟩)) ndk_R ln_R mo_R pk_R (m := md_X6_count) (mi := 213) (fu := 3000) (sp := []) (hd := hd_X6_count_0) (mu := 1) rfl (nf_chk_ok (by decide +kernel))
def md_X6_finding : na_Md := (kx_X6_finding, kc_X6_finding, 1, [])
theorem rk_X6_finding {ms : List (Nat × na_Md)} {pk : List Nat}  : ∀ e ∈ md_X6_finding.2.2.2, na_rk (gR, ms, pk) md_X6_finding e := fun _ h => absurd h List.not_mem_nil
def cc_X6_finding_0 : na_C := ([.inr (.inr (.inr (.inr 0)))], ([], []), 0, [], [], 1, (-2147483648, 2147483647), (0, 0))
def hd_X6_finding_0 : List na_Hd := []
set_option maxRecDepth 1000000 in
theorem ct_X6_finding_0 : na_Ct gR ev_X6_finding cc_X6_finding_0 := na_chk_ok (cf := (gR, [(214, md_X6_finding)], [17])) ke_R (na_rok_mk (List.forall_mem_cons.mpr ⟨rk_X6_finding, fun _ h => absurd h List.not_mem_nil⟩)) ndk_R ln_R mo_R pk_R (m := md_X6_finding) (mi := 214) (fu := 3000) (sp := []) (hd := hd_X6_finding_0) (mu := 1) rfl (nf_chk_ok (by decide +kernel))
def md_X6_findings : na_Md := (kx_X6_findings, kc_X6_findings, 2, [(358, .inl 123)])
theorem rk_X6_findings {ms : List (Nat × na_Md)} {pk : List Nat} (h_X6_in : nk_lk ms 123 = some md_X6_in) : ∀ e ∈ md_X6_findings.2.2.2, na_rk (gR, ms, pk) md_X6_findings e := List.forall_mem_cons.mpr ⟨na_rk_i rfl rfl rfl h_X6_in rfl, fun _ h => absurd h List.not_mem_nil⟩
def cc_X6_findings_0 : na_C := ([.inr (.inr (.inr (.inr 0))), .inr (.inr (.inl (-2147483648, 2147483647, false)))], ([], []), 0, [], [], 1, (-2147483648, 2147483647), (0, 0))
def hd_X6_findings_0 : List na_Hd := []
set_option maxRecDepth 1000000 in
theorem ct_X6_findings_0 : na_Ct gR ev_X6_findings cc_X6_findings_0 := na_chk_ok (cf := (gR, [(215, md_X6_findings), (123, md_X6_in)], [17])) ke_R (na_rok_mk (List.forall_mem_cons.mpr ⟨rk_X6_findings rfl, List.forall_mem_cons.mpr ⟨rk_X6_in, fun _ h => absurd h List.not_mem_nil⟩⟩)) ndk_R ln_R mo_R pk_R (m := md_X6_findings) (mi := 215) (fu := 3000) (sp := []) (hd := hd_X6_findings_0) (mu := 1) rfl (nf_chk_ok (by decide +kernel))
