/-! ===== HEAPS: the class's calls exactly ===== -/
noncomputable def hqC (q : Nat) : Prop := nk_lg shC q = some (.inl (1, [q + 3, q + 4, 0])) ∧ nk_lg shC (q + 1) = some (.inr (0, 20, [])) ∧ nk_lg shC (q + 2) = some (.inr (0, 20, [])) ∧ 49 ≤ q
theorem hq_k {k : Nat} (h : k < 4) : hqC (49 + 3 * k) := by
  match k, h with
  | 0, _ => exact ⟨rfl, rfl, rfl, by decide⟩
  | 1, _ => exact ⟨rfl, rfl, rfl, by decide⟩
  | 2, _ => exact ⟨rfl, rfl, rfl, by decide⟩
  | 3, _ => exact ⟨rfl, rfl, rfl, by decide⟩
  | k + 4, h => omega
theorem hq_r {R : Int32} (h0 : 0 ≤ R.toInt) (h1 : R.toInt ≤ 3) : nk_lg [49, 52, 55, 58] R.toNatClampNeg = some (49 + 3 * R.toInt.toNat) := by
  rcases sp4 h0 h1 with rfl | rfl | rfl | rfl
  · rfl
  · rfl
  · rfl
  · rfl
/-- a HEAP of the class: its size, whose the layers are, what they hold -/
noncomputable def hC1 (s : nx_S) (q n : Nat) (w a : HF) : Prop := (s.2.2.1 q 2).toInt = n ∧ ∀ i : Nat, i < n → (s.1 (q + 1) i).toInt = w i ∧ (s.1 (q + 2) i).toInt = a i
theorem ha_inv {s : nx_S} {r : Nat} (h : nx_Inv gC s) (hr : 49 ≤ r) (f : Nat → Int32) : nx_Inv gC (nx_ui s r f) := by
  have hne : ∀ z : Nat, z ≠ r → (nx_ui s r f).1 z = s.1 z := fun z e => if_neg e
  refine ⟨h.1, fun z n l hq i hi => ?_, ?_, trivial⟩
  · by_cases e : z = r
    · have e11 : Nat.beq z 11 = false := nb_f (by omega)
      have e20 : Nat.beq z 20 = false := nb_f (by omega)
      have ef : gC.2.2.2.1 z = na_full := by
        show (bif Nat.beq z 11 || Nat.beq z 20 then ((0 : Int), (15 : Int)) else na_full) = na_full
        rw [e11, e20]
        rfl
      rw [ef]
      exact na_i32 _
    · rw [hne z e]
      exact h.2.1 z n l hq i hi
  · show nx_PM ((nx_ui s r f).1 5)
    rw [hne 5 (by omega)]
    exact h.2.2.1
theorem hf_b {r i : Nat} {b : Int × Int} (hr : r < 4) (hi : gC.2.1[i]? = some (49 + 3 * r, 2)) (hb : gC.2.2.1[i]? = some b) : b = (0, 20) := by
  have key : ∀ (j : Nat) (k : Nat × Nat), gC.2.1[j]? = some k → gC.2.1[i]? = some k → i = j := fun j k h1 h2 => (List.getElem?_inj (List.getElem?_eq_some_iff.mp h2).1 ndk_C).mp (h2.trans h1.symm)
  match r, hr with
  | 0, _ => have e := key 26 (49, 2) rfl hi; subst e; cases hb; rfl
  | 1, _ => have e := key 27 (52, 2) rfl hi; subst e; cases hb; rfl
  | 2, _ => have e := key 28 (55, 2) rfl hi; subst e; cases hb; rfl
  | 3, _ => have e := key 29 (58, 2) rfl hi; subst e; cases hb; rfl
  | r + 4, hr => omega
theorem hf_inv {s : nx_S} {r : Nat} {v : Int32} (h : nx_Inv gC s) (hr : r < 4) (v0 : 0 ≤ v.toInt) (v1 : v.toInt ≤ 20) : nx_Inv gC (nx_uf s (49 + 3 * r) 2 v) := by
  refine ⟨fun i k b hi hb => ?_, h.2.1, h.2.2.1, trivial⟩
  by_cases e : k.1 = 49 + 3 * r ∧ k.2 = 2
  · have hk : k = (49 + 3 * r, 2) := Prod.ext e.1 e.2
    subst hk
    have hb2 := hf_b hr hi hb
    subst hb2
    show 0 ≤ (if 49 + 3 * r = 49 + 3 * r ∧ 2 = 2 then v else _).toInt ∧ (if 49 + 3 * r = 49 + 3 * r ∧ 2 = 2 then v else _).toInt ≤ 20
    rw [if_pos ⟨rfl, rfl⟩]
    exact ⟨v0, v1⟩
  · show b.1 ≤ (if k.1 = 49 + 3 * r ∧ k.2 = 2 then v else s.2.2.1 k.1 k.2).toInt ∧ (if k.1 = 49 + 3 * r ∧ k.2 = 2 then v else s.2.2.1 k.1 k.2).toInt ≤ b.2
    rw [if_neg e]
    exact h.1 i k b hi hb
theorem mi_J (Q : nk_Q) (h : nk_H) (a b : Int32) (hq : ∀ t : Int32, t.toInt = mn a.toInt b.toInt → Q (some (.int t)) h) : ev_J9_min_7cf53 [.int a, .int b] h Q := by
  refine nk_s (nk_s (nk_s ?_))
  refine br_lt (fun c => ?_) (fun c => ?_)
  · refine nk_s (nk_s ?_)
    refine hq b ?_
    rcases mn_c a.toInt b.toInt with ⟨c1, c2⟩ | ⟨c1, c2⟩
    · omega
    · exact c2.symm
  · refine nk_s (nk_s (nk_s ?_))
    refine hq a ?_
    rcases mn_c a.toInt b.toInt with ⟨c1, c2⟩ | ⟨c1, c2⟩
    · exact c2.symm
    · omega
theorem i_sub {a b : Int32} (h1 : -2147483648 ≤ a.toInt - b.toInt) (h2 : a.toInt - b.toInt ≤ 2147483647) : (a - b).toInt = a.toInt - b.toInt := by
  rw [Int32.toInt_sub, na_bm h1 h2]
set_option maxRecDepth 100000 in
theorem ht_C (Q : nk_Q) (s : nx_S) (q n : Nat) (w a : HF) (hr : hqC q) (h : hC1 s q n w a) (hn : n ≤ 20) (hb : ∀ i : Nat, i < n → 0 ≤ a i ∧ a i ≤ 99) (hq : ∀ x : Int32, x.toInt = hsum a n → Q (some (.int x)) (nx_enc s 0 shC)) : ev_X1_total [.ref q] (nx_enc s 0 shC) Q := by
  have h1 : (1 : Int32).toInt = 1 := rfl
  have lp : ∀ (m i : Nat) (I S : Int32), i + m = n → I.toInt = i → S.toInt = hsum a i → nk_wp kx_X1_total kc_X1_total Q 4 [some (.ref q), some (.int S), some (.int I)] [] (nx_enc s 0 shC) 0 0 := by
    intro m
    induction m with
    | zero =>
      intro i I S hi hI hS
      refine nx_s (nx_s (nx_gq rfl rfl hr.1 rfl ?_))
      show nk_wp kx_X1_total kc_X1_total Q 9 [some (.ref q), some (.int S), some (.int I)] [.int (s.2.2.1 q 2), .int I] (nx_enc s 0 shC) 0 0
      refine nx_s ?_
      have h0 := h.1
      refine nk_br.t (i_le (by omega)) ?_
      refine nx_s (nx_s ?_)
      exact hq S (by rw [hS, show i = n by omega])
    | succ m ih =>
      intro i I S hi hI hS
      have h0 := h.1
      have hsb := hsum_b hb i (by omega)
      have hab := hb i (by omega)
      have hv := (h.2 i (by omega)).2
      have eI : I.toNatClampNeg = i := nx_cl hI
      have e1 : (I + 1).toInt = ((i + 1 : Nat) : Int) := by
        rw [i_add (by omega) (by omega)]
        omega
      refine nx_s (nx_s (nx_gq rfl rfl hr.1 rfl ?_))
      show nk_wp kx_X1_total kc_X1_total Q 9 [some (.ref q), some (.int S), some (.int I)] [.int (s.2.2.1 q 2), .int I] (nx_enc s 0 shC) 0 0
      refine nx_s ?_
      refine nk_br.f (i_nle (by omega)) ?_
      refine nx_s (nx_s (nx_gq rfl rfl hr.1 rfl ?_))
      show nk_wp kx_X1_total kc_X1_total Q 17 [some (.ref q), some (.int S), some (.int I)] [.ref (q + 2), .int S] (nx_enc s 0 shC) 0 0
      refine nx_s (nx_iq rfl hr.2.2.1 (nx_in (n := 20) (by omega) (by omega)) ?_)
      rw [eI]
      refine nx_s (nx_s (nx_s (nx_s ?_)))
      refine ih (i + 1) (I + 1) (S + s.1 (q + 2) i) (by omega) e1 ?_
      rw [i_add (by omega) (by omega)]
      show S.toInt + (s.1 (q + 2) i).toInt = hsum a i + a i
      omega
  refine nx_s (nx_s (nx_s (nx_s ?_)))
  exact lp n 0 0 0 (by omega) rfl rfl
set_option maxRecDepth 100000 in
theorem hm_C (Q : nk_Q) (s : nx_S) (q n : Nat) (w a : HF) (P : Int32) (hr : hqC q) (h : hC1 s q n w a) (hn : n ≤ 20) (hb : ∀ i : Nat, i < n → 0 ≤ a i ∧ a i ≤ 99) (hq : ∀ x : Int32, x.toInt = hof w a P.toInt n → Q (some (.int x)) (nx_enc s 0 shC)) : ev_X1_amountOf [.ref q, .int P] (nx_enc s 0 shC) Q := by
  have h1 : (1 : Int32).toInt = 1 := rfl
  have h00 : (0 : Int32).toInt = 0 := rfl
  have lp : ∀ (m i : Nat) (I S : Int32), i + m = n → I.toInt = i → S.toInt = hof w a P.toInt i → nk_wp kx_X1_amountOf kc_X1_amountOf Q 4 [some (.ref q), some (.int P), some (.int S), some (.int I)] [] (nx_enc s 0 shC) 0 0 := by
    intro m
    induction m with
    | zero =>
      intro i I S hi hI hS
      refine nx_s (nx_s (nx_gq rfl rfl hr.1 rfl ?_))
      show nk_wp kx_X1_amountOf kc_X1_amountOf Q 9 [some (.ref q), some (.int P), some (.int S), some (.int I)] [.int (s.2.2.1 q 2), .int I] (nx_enc s 0 shC) 0 0
      refine nx_s ?_
      have h0 := h.1
      refine nk_br.t (i_le (by omega)) ?_
      refine nx_s (nx_s ?_)
      exact hq S (by rw [hS, show i = n by omega])
    | succ m ih =>
      intro i I S hi hI hS
      have h0 := h.1
      have hsb := hof_b (w := w) (p := P.toInt) hb i (by omega)
      have hab := hb i (by omega)
      have hv := h.2 i (by omega)
      have eI : I.toNatClampNeg = i := nx_cl hI
      have e1 : (I + 1).toInt = ((i + 1 : Nat) : Int) := by
        rw [i_add (by omega) (by omega)]
        omega
      refine nx_s (nx_s (nx_gq rfl rfl hr.1 rfl ?_))
      show nk_wp kx_X1_amountOf kc_X1_amountOf Q 9 [some (.ref q), some (.int P), some (.int S), some (.int I)] [.int (s.2.2.1 q 2), .int I] (nx_enc s 0 shC) 0 0
      refine nx_s ?_
      refine nk_br.f (i_nle (by omega)) ?_
      refine nx_s (nx_s (nx_gq rfl rfl hr.1 rfl ?_))
      show nk_wp kx_X1_amountOf kc_X1_amountOf Q 17 [some (.ref q), some (.int P), some (.int S), some (.int I)] [.ref (q + 1), .int S] (nx_enc s 0 shC) 0 0
      refine nx_s (nx_iq rfl hr.2.1 (nx_in (n := 20) (by omega) (by omega)) ?_)
      rw [eI]
      refine nx_s (nx_s ?_)
      refine br_eq (fun c => ?_) (fun c => ?_)
      · refine nx_s (nx_gq rfl rfl hr.1 rfl ?_)
        show nk_wp kx_X1_amountOf kc_X1_amountOf Q 27 [some (.ref q), some (.int P), some (.int S), some (.int I)] [.ref (q + 2), .int S] (nx_enc s 0 shC) 0 0
        refine nx_s (nx_iq rfl hr.2.2.1 (nx_in (n := 20) (by omega) (by omega)) ?_)
        rw [eI]
        refine nx_s (nx_s (nx_s (nx_s (nx_s ?_))))
        refine ih (i + 1) (I + 1) (S + s.1 (q + 2) i) (by omega) e1 ?_
        rw [i_add (by omega) (by omega)]
        show S.toInt + (s.1 (q + 2) i).toInt = hof w a P.toInt i + (if w i = P.toInt then a i else 0)
        rw [if_pos (by omega)]
        omega
      · refine nx_s (nx_s (nx_s (nx_s (nx_s ?_))))
        refine ih (i + 1) (I + 1) (S + 0) (by omega) e1 ?_
        rw [i_add (by omega) (by omega)]
        show S.toInt + (0 : Int32).toInt = hof w a P.toInt i + (if w i = P.toInt then a i else 0)
        rw [if_neg (by omega)]
        omega
  refine nx_s (nx_s (nx_s (nx_s ?_)))
  exact lp n 0 0 0 (by omega) rfl rfl
set_option maxRecDepth 100000 in
theorem hn_C (Q : nk_Q) (s : nx_S) (q n i : Nat) (w a : HF) (I : Int32) (hr : hqC q) (h : hC1 s q n w a) (hn : n ≤ 20) (hi : i < n) (hI : I.toInt = i) (hb : 0 ≤ a i ∧ a i ≤ 99) (hw : 0 ≤ w i ∧ w i ≤ 5) (hq : ∀ x : Int32, x.toInt = 10 * a i + w i → Q (some (.int x)) (nx_enc s 0 shC)) : ev_X1_asNumber [.ref q, .int I] (nx_enc s 0 shC) Q := by
  have h10 : (10 : Int32).toInt = 10 := rfl
  have hv := h.2 i hi
  have eI : I.toNatClampNeg = i := nx_cl hI
  refine nx_s (nx_s (nx_gq rfl rfl hr.1 rfl ?_))
  show nk_wp kx_X1_asNumber kc_X1_asNumber Q 6 [some (.ref q), some (.int I)] [.ref (q + 2), .int 10] (nx_enc s 0 shC) 0 0
  refine nx_s (nx_iq rfl hr.2.2.1 (nx_in (n := 20) (by omega) (by omega)) ?_)
  rw [eI]
  refine nx_s (nx_s (nx_gq rfl rfl hr.1 rfl ?_))
  show nk_wp kx_X1_asNumber kc_X1_asNumber Q 13 [some (.ref q), some (.int I)] [.ref (q + 1), .int (10 * s.1 (q + 2) i)] (nx_enc s 0 shC) 0 0
  refine nx_s (nx_iq rfl hr.2.1 (nx_in (n := 20) (by omega) (by omega)) ?_)
  rw [eI]
  refine nx_s (nx_s ?_)
  refine hq _ ?_
  have e1 : (10 * s.1 (q + 2) i).toInt = 10 * a i := i_mul (by rw [h10, hv.2]) (by omega) (by omega)
  rw [i_add (by omega) (by omega)]
  omega
set_option maxRecDepth 100000 in
/-- take: at most M of the layer i -/
theorem hk_C (Q : nk_Q) (s : nx_S) (q i : Nat) (f : Nat → Int32) (I M : Int32) (hr : hqC q) (hi : i < 20) (hI : I.toInt = i) (hb : 0 ≤ (f i).toInt ∧ (f i).toInt ≤ 99) (hM : 0 ≤ M.toInt) (hq : ∀ T : Int32, T.toInt = mn (f i).toInt M.toInt → (f i - T).toInt = (f i).toInt - mn (f i).toInt M.toInt → Q (some (.int T)) (nx_enc (nx_ui s (q + 2) (upd f i (f i - T))) 0 shC)) : ev_X1_take [.ref q, .int I, .int M] (nx_enc (nx_ui s (q + 2) f) 0 shC) Q := by
  have eI : I.toNatClampNeg = i := nx_cl hI
  refine nx_s (nx_gq rfl rfl hr.1 rfl ?_)
  show nk_wp kx_X1_take kc_X1_take Q 4 [some (.ref q), some (.int I), some (.int M), none] [.ref (q + 2)] (nx_enc (nx_ui s (q + 2) f) 0 shC) 0 0
  refine nx_s (nx_iq rfl hr.2.2.1 (nx_in (n := 20) (by omega) (by omega)) ?_)
  rw [eI, nx_u1]
  refine nx_s (nx_s ?_)
  refine mi_J _ _ (f i) M (fun T hT => ?_)
  have hmn := mn_c (f i).toInt M.toInt
  have e2 : (f i - T).toInt = (f i).toInt - mn (f i).toInt M.toInt := by
    rw [i_sub (by omega) (by omega)]
    omega
  refine nx_s (nx_s (nx_gq rfl rfl hr.1 rfl ?_))
  show nk_wp kx_X1_take kc_X1_take Q 15 [some (.ref q), some (.int I), some (.int M), some (.int T)] [.ref (q + 2)] (nx_enc (nx_ui s (q + 2) f) 0 shC) 0 0
  refine nx_s (nx_s (nx_iq rfl hr.2.2.1 (nx_in (n := 20) (by omega) (by omega)) ?_))
  rw [eI, nx_u1]
  refine nx_s (nx_s (nx_iw rfl hr.2.2.1 (nx_in (n := 20) (by omega) (by omega)) ?_))
  rw [eI, nx_uu, nx_u1]
  refine nx_s (nx_s ?_)
  exact hq T hT e2
/-- the amounts of a HEAP as f -/
noncomputable def hz (n : Nat) (f : Nat → Int32) (a : HF) : Prop := ∀ i : Nat, i < n → (f i).toInt = a i
theorem hz_t {n i : Nat} {f : Nat → Int32} {z : HF × Int} {v : Int32} {m : Int} (h : hz n f z.1) (hv : v.toInt = z.1 i - mn (z.1 i) m) : hz n (upd f i v) (htk z i m).1 := fun j hj => by
  show (upd f i v j).toInt = hu z.1 i (z.1 i - mn (z.1 i) m) j
  by_cases e : j = i
  · rw [e, upd_s, hu_s, hv]
  · rw [upd_n _ _ e, hu_n _ _ e]
    exact h j hj
set_option maxRecDepth 100000 in
theorem h0_C (Q : nk_Q) (s : nx_S) (q n : Nat) (a : HF) (f : Nat → Int32) (N : Int32) (hr : hqC q) (hs : (s.2.2.1 q 2).toInt = n) (hn : n ≤ 20) (hf : hz n f a) (ok : hok n (a, N.toInt)) (hq : ∀ f' : Nat → Int32, hz n f' (hd0 (a, N.toInt) n).1 → Q none (nx_enc (nx_ui s (q + 2) f') 0 shC)) : ev_X1_drawFromFirst [.ref q, .int N] (nx_enc (nx_ui s (q + 2) f) 0 shC) Q := by
  have h1 : (1 : Int32).toInt = 1 := rfl
  have lp : ∀ (m i : Nat) (I D : Int32) (g : Nat → Int32), i + m = n → I.toInt = i → D.toInt = (hd0 (a, N.toInt) i).2 → hz n g (hd0 (a, N.toInt) i).1 → nk_wp kx_X1_drawFromFirst kc_X1_drawFromFirst Q 4 [some (.ref q), some (.int N), some (.int D), some (.int I)] [] (nx_enc (nx_ui s (q + 2) g) 0 shC) 0 0 := by
    intro m
    induction m with
    | zero =>
      intro i I D g hi hI hD hg
      refine nx_s (nx_s (nx_gq rfl rfl hr.1 rfl ?_))
      show nk_wp kx_X1_drawFromFirst kc_X1_drawFromFirst Q 9 [some (.ref q), some (.int N), some (.int D), some (.int I)] [.int (s.2.2.1 q 2), .int I] (nx_enc (nx_ui s (q + 2) g) 0 shC) 0 0
      refine nx_s ?_
      refine nk_br.t (i_le (by omega)) ?_
      refine nx_s ?_
      refine hq g ?_
      rw [show n = i by omega] at hg ⊢
      exact hg
    | succ m ih =>
      intro i I D g hi hI hD hg
      have oki := hd0_ok ok i (by omega)
      have o1 := oki.1 i (by omega)
      have o2 := oki.2
      have gi := hg i (by omega)
      have e1 : (I + 1).toInt = ((i + 1 : Nat) : Int) := by
        rw [i_add (by omega) (by omega)]
        omega
      refine nx_s (nx_s (nx_gq rfl rfl hr.1 rfl ?_))
      show nk_wp kx_X1_drawFromFirst kc_X1_drawFromFirst Q 9 [some (.ref q), some (.int N), some (.int D), some (.int I)] [.int (s.2.2.1 q 2), .int I] (nx_enc (nx_ui s (q + 2) g) 0 shC) 0 0
      refine nx_s ?_
      refine nk_br.f (i_nle (by omega)) ?_
      refine nx_s (nx_s (nx_s (nx_s (nx_s ?_))))
      refine (nk_obm hr.1 ?_ : nk_obj (nx_enc (nx_ui s (q + 2) g) 0 shC) q 1 (fun _ => ev_X1_take [.ref q, .int I, .int D] (nx_enc (nx_ui s (q + 2) g) 0 shC) (fun r h' => nk_ret r [.int D] (fun Z => nk_wp kx_X1_drawFromFirst kc_X1_drawFromFirst Q 19 [some (.ref q), some (.int N), some (.int D), some (.int I)] Z h' 0 0))))
      refine hk_C _ s q i g I D hr (by omega) hI (by omega) (by omega) (fun T hT e2 => ?_)
      have hmn := mn_c (g i).toInt D.toInt
      refine nx_s (nx_s (nx_s (nx_s ?_)))
      refine ih (i + 1) (I + 1) (D - T) _ (by omega) e1 ?_ ?_
      · rw [i_sub (by omega) (by omega), hT, gi, hD]
        rfl
      · refine hz_t hg ?_
        rw [e2, gi, hD]
  refine nx_s (nx_s (nx_s (nx_s ?_)))
  exact lp n 0 0 N f (by omega) rfl rfl hf
set_option maxRecDepth 100000 in
set_option maxHeartbeats 4000000 in
theorem h1_C (Q : nk_Q) (s : nx_S) (q n : Nat) (w a : HF) (f : Nat → Int32) (N : Int32) (hr : hqC q) (hs : (s.2.2.1 q 2).toInt = n) (hw : ∀ i : Nat, i < n → (s.1 (q + 1) i).toInt = w i) (hn : n ≤ 20) (hf : hz n f a) (ok : hok n (a, N.toInt)) (hN : N.toInt ≤ hsum a n) (hp : 0 < hsum a n) (hq : ∀ f' : Nat → Int32, hz n f' (hd2 (hd1 (a, N.toInt) N.toInt (hsum a n) n) n).1 → Q none (nx_enc (nx_ui s (q + 2) f') 0 shC)) : ev_X1_drawByParts [.ref q, .int N] (nx_enc (nx_ui s (q + 2) f) 0 shC) Q := by
  have h1 : (1 : Int32).toInt = 1 := rfl
  have h00 : (0 : Int32).toInt = 0 := rfl
  have hsb := hsum_b (a := a) (n := n) (fun i hi => ok.1 i hi) n (Nat.le_refl _)
  have okn := (hd1_ok ok hN hp n (Nat.le_refl _)).1
  have hN0 : 0 ≤ N.toInt ∧ N.toInt ≤ 999 := ok.2
  have lp2 : ∀ (A : Int32) (m i : Nat) (I D : Int32) (g : Nat → Int32), i + m = n → I.toInt = i → D.toInt = (hd2 (hd1 (a, N.toInt) N.toInt (hsum a n) n) i).2 → hz n g (hd2 (hd1 (a, N.toInt) N.toInt (hsum a n) n) i).1 → nk_wp kx_X1_drawByParts kc_X1_drawByParts Q 53 [some (.ref q), some (.int N), some (.int A), some (.int D), some (.int I)] [] (nx_enc (nx_ui s (q + 2) g) 0 shC) 0 0 := by
    intro A m
    induction m with
    | zero =>
      intro i I D g hi hI hD hg
      refine nx_s (nx_s (nx_gq rfl rfl hr.1 rfl ?_))
      show nk_wp kx_X1_drawByParts kc_X1_drawByParts Q 59 [some (.ref q), some (.int N), some (.int A), some (.int D), some (.int I)] [.int (s.2.2.1 q 2), .int I] (nx_enc (nx_ui s (q + 2) g) 0 shC) 0 0
      refine nx_s ?_
      refine nk_br.t (i_le (by omega)) ?_
      refine nx_s ?_
      refine hq g ?_
      have e : i = n := by omega
      rw [e] at hg
      exact hg
    | succ m ih =>
      intro i I D g hi hI hD hg
      have oki := hd2_ok okn i (by omega)
      have o1 := oki.1 i (by omega)
      have o2 := oki.2
      have gi := hg i (by omega)
      have e1 : (I + 1).toInt = ((i + 1 : Nat) : Int) := by
        rw [i_add (by omega) (by omega)]
        omega
      refine nx_s (nx_s (nx_gq rfl rfl hr.1 rfl ?_))
      show nk_wp kx_X1_drawByParts kc_X1_drawByParts Q 59 [some (.ref q), some (.int N), some (.int A), some (.int D), some (.int I)] [.int (s.2.2.1 q 2), .int I] (nx_enc (nx_ui s (q + 2) g) 0 shC) 0 0
      refine nx_s ?_
      refine nk_br.f (i_nle (by omega)) ?_
      refine nx_s (nx_s (nx_s (nx_s (nx_s (nx_s ?_)))))
      refine mi_J _ _ D 1 (fun U hU => ?_)
      have hmu := mn_c D.toInt (1 : Int32).toInt
      refine nx_s ?_
      refine (nk_obm hr.1 ?_ : nk_obj (nx_enc (nx_ui s (q + 2) g) 0 shC) q 1 (fun _ => ev_X1_take [.ref q, .int I, .int U] (nx_enc (nx_ui s (q + 2) g) 0 shC) (fun r h' => nk_ret r [.int D] (fun Z => nk_wp kx_X1_drawByParts kc_X1_drawByParts Q 74 [some (.ref q), some (.int N), some (.int A), some (.int D), some (.int I)] Z h' 0 0))))
      refine hk_C _ s q i g I U hr (by omega) hI (by omega) (by omega) (fun T hT e2 => ?_)
      have hmn := mn_c (g i).toInt U.toInt
      refine nx_s (nx_s (nx_s (nx_s ?_)))
      refine ih (i + 1) (I + 1) (D - T) _ (by omega) e1 ?_ ?_
      · rw [i_sub (by omega) (by omega), hT, gi, hU, hD, h1]
        rfl
      · refine hz_t hg ?_
        rw [e2, gi, hU, hD, h1]
  have lp1 : ∀ (A : Int32), A.toInt = hsum a n → ∀ (m i : Nat) (I D : Int32) (g : Nat → Int32), i + m = n → I.toInt = i → D.toInt = (hd1 (a, N.toInt) N.toInt (hsum a n) i).2 → hz n g (hd1 (a, N.toInt) N.toInt (hsum a n) i).1 → nk_wp kx_X1_drawByParts kc_X1_drawByParts Q 15 [some (.ref q), some (.int N), some (.int A), some (.int D), some (.int I)] [] (nx_enc (nx_ui s (q + 2) g) 0 shC) 0 0 := by
    intro A hA m
    induction m with
    | zero =>
      intro i I D g hi hI hD hg
      refine nx_s (nx_s (nx_gq rfl rfl hr.1 rfl ?_))
      show nk_wp kx_X1_drawByParts kc_X1_drawByParts Q 21 [some (.ref q), some (.int N), some (.int A), some (.int D), some (.int I)] [.int (s.2.2.1 q 2), .int I] (nx_enc (nx_ui s (q + 2) g) 0 shC) 0 0
      refine nx_s ?_
      refine nk_br.t (i_le (by omega)) ?_
      refine nx_s (nx_s ?_)
      have e : i = n := by omega
      rw [e] at hg hD
      exact lp2 A n 0 0 D g (by omega) rfl hD hg
    | succ m ih =>
      intro i I D g hi hI hD hg
      obtain ⟨oki, oke, okd⟩ := hd1_ok ok hN hp i (by omega)
      obtain ⟨okj, -, -⟩ := hd1_ok ok hN hp (i + 1) (by omega)
      have o1 := oki.1 i (by omega)
      have o2 := oki.2
      have o3 : 0 ≤ (hd1 (a, N.toInt) N.toInt (hsum a n) i).2 - mn ((hd1 (a, N.toInt) N.toInt (hsum a n) i).1 i) ((hd1 (a, N.toInt) N.toInt (hsum a n) i).1 i * N.toInt / hsum a n) ∧ (hd1 (a, N.toInt) N.toInt (hsum a n) i).2 - mn ((hd1 (a, N.toInt) N.toInt (hsum a n) i).1 i) ((hd1 (a, N.toInt) N.toInt (hsum a n) i).1 i * N.toInt / hsum a n) ≤ 999 := okj.2
      have gi := hg i (by omega)
      have eI : I.toNatClampNeg = i := nx_cl hI
      have e1 : (I + 1).toInt = ((i + 1 : Nat) : Int) := by
        rw [i_add (by omega) (by omega)]
        omega
      have b1 : 0 ≤ (g i).toInt * N.toInt := Int.mul_nonneg (by omega) hN0.1
      have b2 : (g i).toInt * N.toInt ≤ 99 * 999 := Int.le_trans (Int.mul_le_mul_of_nonneg_right (c := N.toInt) (show (g i).toInt ≤ 99 by omega) hN0.1) (Int.mul_le_mul_of_nonneg_left hN0.2 (by decide))
      have eM : (g i * N).toInt = (g i).toInt * N.toInt := i_mul rfl (by omega) (by omega)
      have c1 : 0 ≤ (g i).toInt * N.toInt / A.toInt := Int.ediv_nonneg b1 (by omega)
      have c2 : (g i).toInt * N.toInt / A.toInt ≤ (g i).toInt * N.toInt := Int.ediv_le_self _ b1
      have eQ : (g i * N / A).toInt = (g i).toInt * N.toInt / A.toInt := by
        rw [Int32.toInt_div, eM, Int.tdiv_eq_ediv_of_nonneg b1, na_bm (show (-2147483648 : Int) ≤ _ by omega) (show _ ≤ (2147483647 : Int) by omega)]
      refine nx_s (nx_s (nx_gq rfl rfl hr.1 rfl ?_))
      show nk_wp kx_X1_drawByParts kc_X1_drawByParts Q 21 [some (.ref q), some (.int N), some (.int A), some (.int D), some (.int I)] [.int (s.2.2.1 q 2), .int I] (nx_enc (nx_ui s (q + 2) g) 0 shC) 0 0
      refine nx_s ?_
      refine nk_br.f (i_nle (by omega)) ?_
      refine nx_s (nx_s (nx_s (nx_s (nx_gq rfl rfl hr.1 rfl ?_))))
      show nk_wp kx_X1_drawByParts kc_X1_drawByParts Q 32 [some (.ref q), some (.int N), some (.int A), some (.int D), some (.int I)] [.ref (q + 2), .int I, .ref q, .int D] (nx_enc (nx_ui s (q + 2) g) 0 shC) 0 0
      refine nx_s (nx_iq rfl hr.2.2.1 (nx_in (n := 20) (by omega) (by omega)) ?_)
      rw [eI, nx_u1]
      refine nx_s (nx_s (nx_s (nx_s ?_)))
      refine ⟨fun e => ?_, ?_⟩
      · rw [e] at hA
        omega
      refine nx_s ?_
      refine (nk_obm hr.1 ?_ : nk_obj (nx_enc (nx_ui s (q + 2) g) 0 shC) q 1 (fun _ => ev_X1_take [.ref q, .int I, .int (g i * N / A)] (nx_enc (nx_ui s (q + 2) g) 0 shC) (fun r h' => nk_ret r [.int D] (fun Z => nk_wp kx_X1_drawByParts kc_X1_drawByParts Q 42 [some (.ref q), some (.int N), some (.int A), some (.int D), some (.int I)] Z h' 0 0))))
      refine hk_C _ s q i g I (g i * N / A) hr (by omega) hI (by omega) (by omega) (fun T hT e2 => ?_)
      rw [eQ, gi, hA] at hT e2
      refine nx_s (nx_s (nx_s (nx_s ?_)))
      refine ih (i + 1) (I + 1) (D - T) _ (by omega) e1 ?_ ?_
      · rw [i_sub (by omega) (by omega), hT, hD]
        rfl
      · exact hz_t hg e2
  refine nx_s (nx_s ?_)
  refine (nk_obm hr.1 ?_ : nk_obj (nx_enc (nx_ui s (q + 2) f) 0 shC) q 1 (fun _ => ev_X1_total [.ref q] (nx_enc (nx_ui s (q + 2) f) 0 shC) (fun r h' => nk_ret r [] (fun Z => nk_wp kx_X1_drawByParts kc_X1_drawByParts Q 4 [some (.ref q), some (.int N), none, none, none] Z h' 0 0))))
  refine ht_C _ (nx_ui s (q + 2) f) q n w a hr ⟨hs, fun i hi => ⟨?_, ?_⟩⟩ hn (fun i hi => ok.1 i hi) (fun x hx => ?_)
  · have e : (nx_ui s (q + 2) f).1 (q + 1) = s.1 (q + 1) := if_neg (by omega)
    rw [e]
    exact hw i hi
  · rw [nx_u1]
    exact hf i hi
  refine nx_s (nx_s (nx_s ?_))
  refine nk_br.f (fun e => ?_) ?_
  · rw [e] at hx
    omega
  refine nx_s (nx_s (nx_s (nx_s ?_)))
  exact lp1 x hx n 0 0 N f (by omega) rfl rfl hf
set_option maxRecDepth 100000 in
set_option maxHeartbeats 4000000 in
theorem h3_C (Q : nk_Q) (s : nx_S) (q n : Nat) (w a : HF) (f : Nat → Int32) (N P : Int32) (hr : hqC q) (hs : (s.2.2.1 q 2).toInt = n) (hw : ∀ i : Nat, i < n → (s.1 (q + 1) i).toInt = w i) (hn : n ≤ 20) (hf : hz n f a) (ok : hok n (a, N.toInt)) (hq : ∀ f' : Nat → Int32, hz n f' (hd4 n (hd3 w P.toInt n (a, N.toInt) n) n).1 → Q none (nx_enc (nx_ui s (q + 2) f') 0 shC)) : ev_X1_drawFromLast [.ref q, .int N, .int P] (nx_enc (nx_ui s (q + 2) f) 0 shC) Q := by
  have h1 : (1 : Int32).toInt = 1 := rfl
  have h00 : (0 : Int32).toInt = 0 := rfl
  have hm1 : (-1 : Int32).toInt = -1 := rfl
  have okn := hd3_ok (w := w) (p := P.toInt) ok n (Nat.le_refl _)
  have e0 : (s.2.2.1 q 2 - 1).toInt = (n : Int) - 1 := by
    rw [i_sub (by omega) (by omega)]
    omega
  have lp2 : ∀ (m c : Nat) (I D : Int32) (g : Nat → Int32), c + m = n → I.toInt = (m : Int) - 1 → D.toInt = (hd4 n (hd3 w P.toInt n (a, N.toInt) n) c).2 → hz n g (hd4 n (hd3 w P.toInt n (a, N.toInt) n) c).1 → nk_wp kx_X1_drawFromLast kc_X1_drawFromLast Q 54 [some (.ref q), some (.int N), some (.int P), some (.int D), some (.int I)] [] (nx_enc (nx_ui s (q + 2) g) 0 shC) 0 0 := by
    intro m
    induction m with
    | zero =>
      intro c I D g hi hI hD hg
      refine nx_s (nx_s ?_)
      refine br_lt (fun _ => ?_) (fun b => absurd b (by omega))
      refine nx_s ?_
      refine hq g ?_
      have e : c = n := by omega
      rw [e] at hg
      exact hg
    | succ m ih =>
      intro c I D g hi hI hD hg
      have oki := hd4_ok okn c (by omega)
      have em : n - 1 - c = m := by omega
      have o1 := oki.1 m (by omega)
      have o2 := oki.2
      have gi := hg m (by omega)
      have e1 : (I + (-1)).toInt = (m : Int) - 1 := by
        rw [i_add (by omega) (by omega)]
        omega
      refine nx_s (nx_s ?_)
      refine br_lt (fun b => absurd b (by omega)) (fun _ => ?_)
      refine nx_s (nx_s (nx_s (nx_s (nx_s ?_))))
      refine (nk_obm hr.1 ?_ : nk_obj (nx_enc (nx_ui s (q + 2) g) 0 shC) q 1 (fun _ => ev_X1_take [.ref q, .int I, .int D] (nx_enc (nx_ui s (q + 2) g) 0 shC) (fun r h' => nk_ret r [.int D] (fun Z => nk_wp kx_X1_drawFromLast kc_X1_drawFromLast Q 67 [some (.ref q), some (.int N), some (.int P), some (.int D), some (.int I)] Z h' 0 0))))
      refine hk_C _ s q m g I D hr (by omega) (by omega) (by omega) (by omega) (fun T hT e2 => ?_)
      have hmn := mn_c (g m).toInt D.toInt
      refine nx_s (nx_s (nx_s (nx_s ?_)))
      refine ih (c + 1) (I + (-1)) (D - T) _ (by omega) e1 ?_ ?_
      · rw [i_sub (by omega) (by omega), hT, gi, hD]
        show _ = (htk (hd4 n (hd3 w P.toInt n (a, N.toInt) n) c) (n - 1 - c) (hd4 n (hd3 w P.toInt n (a, N.toInt) n) c).2).2
        rw [em]
        rfl
      · show hz n _ (htk (hd4 n (hd3 w P.toInt n (a, N.toInt) n) c) (n - 1 - c) (hd4 n (hd3 w P.toInt n (a, N.toInt) n) c).2).1
        rw [em]
        refine hz_t hg ?_
        rw [e2, gi, hD]
  have lp1 : ∀ (m c : Nat) (I D : Int32) (g : Nat → Int32), c + m = n → I.toInt = (m : Int) - 1 → D.toInt = (hd3 w P.toInt n (a, N.toInt) c).2 → hz n g (hd3 w P.toInt n (a, N.toInt) c).1 → nk_wp kx_X1_drawFromLast kc_X1_drawFromLast Q 10 [some (.ref q), some (.int N), some (.int P), some (.int D), some (.int I)] [] (nx_enc (nx_ui s (q + 2) g) 0 shC) 0 0 := by
    intro m
    induction m with
    | zero =>
      intro c I D g hi hI hD hg
      refine nx_s (nx_s ?_)
      refine br_lt (fun _ => ?_) (fun b => absurd b (by omega))
      refine nx_s (nx_gq rfl rfl hr.1 rfl ?_)
      show nk_wp kx_X1_drawFromLast kc_X1_drawFromLast Q 50 [some (.ref q), some (.int N), some (.int P), some (.int D), some (.int I)] [.int (s.2.2.1 q 2)] (nx_enc (nx_ui s (q + 2) g) 0 shC) 0 0
      refine nx_s (nx_s (nx_s ?_))
      have e : c = n := by omega
      rw [e] at hg hD
      exact lp2 n 0 _ D g (by omega) e0 hD hg
    | succ m ih =>
      intro c I D g hi hI hD hg
      have oki := hd3_ok (w := w) (p := P.toInt) ok c (by omega)
      have em : n - 1 - c = m := by omega
      have o1 := oki.1 m (by omega)
      have o2 := oki.2
      have gi := hg m (by omega)
      have wi := hw m (by omega)
      have eI : I.toNatClampNeg = m := nx_cl (by omega)
      have e1 : (I + (-1)).toInt = (m : Int) - 1 := by
        rw [i_add (by omega) (by omega)]
        omega
      have ew : (nx_ui s (q + 2) g).1 (q + 1) = s.1 (q + 1) := if_neg (by omega)
      have step : hd3 w P.toInt n (a, N.toInt) (c + 1) = if w m = P.toInt then hd3 w P.toInt n (a, N.toInt) c else htk (hd3 w P.toInt n (a, N.toInt) c) m (hd3 w P.toInt n (a, N.toInt) c).2 := by
        show (if w (n - 1 - c) = P.toInt then hd3 w P.toInt n (a, N.toInt) c else htk (hd3 w P.toInt n (a, N.toInt) c) (n - 1 - c) (hd3 w P.toInt n (a, N.toInt) c).2) = _
        rw [em]
      refine nx_s (nx_s ?_)
      refine br_lt (fun b => absurd b (by omega)) (fun _ => ?_)
      refine nx_s (nx_s (nx_gq rfl rfl hr.1 rfl ?_))
      show nk_wp kx_X1_drawFromLast kc_X1_drawFromLast Q 20 [some (.ref q), some (.int N), some (.int P), some (.int D), some (.int I)] [.ref (q + 1), .int D] (nx_enc (nx_ui s (q + 2) g) 0 shC) 0 0
      refine nx_s (nx_iq rfl hr.2.1 (nx_in (n := 20) (by omega) (by omega)) ?_)
      rw [eI, ew]
      refine nx_s (nx_s ?_)
      refine br_eq (fun b => ?_) (fun b => ?_)
      · refine nx_s (nx_s (nx_s (nx_s (nx_s (nx_s ?_)))))
        refine ih (c + 1) (I + (-1)) (D - 0) g (by omega) e1 ?_ ?_
        · rw [i_sub (by omega) (by omega), step, if_pos (by omega)]
          omega
        · rw [step, if_pos (by omega)]
          exact hg
      · refine nx_s (nx_s (nx_s (nx_s ?_)))
        refine (nk_obm hr.1 ?_ : nk_obj (nx_enc (nx_ui s (q + 2) g) 0 shC) q 1 (fun _ => ev_X1_take [.ref q, .int I, .int D] (nx_enc (nx_ui s (q + 2) g) 0 shC) (fun r h' => nk_ret r [.int D] (fun Z => nk_wp kx_X1_drawFromLast kc_X1_drawFromLast Q 38 [some (.ref q), some (.int N), some (.int P), some (.int D), some (.int I)] Z h' 0 0))))
        refine hk_C _ s q m g I D hr (by omega) (by omega) (by omega) (by omega) (fun T hT e2 => ?_)
        have hmn := mn_c (g m).toInt D.toInt
        refine nx_s (nx_s (nx_s (nx_s ?_)))
        refine ih (c + 1) (I + (-1)) (D - T) _ (by omega) e1 ?_ ?_
        · rw [i_sub (by omega) (by omega), step, if_neg (by omega), hT, gi, hD]
          rfl
        · rw [step, if_neg (by omega)]
          refine hz_t hg ?_
          rw [e2, gi, hD]
  refine nx_s (nx_s (nx_s (nx_gq rfl rfl hr.1 rfl ?_)))
  show nk_wp kx_X1_drawFromLast kc_X1_drawFromLast Q 6 [some (.ref q), some (.int N), some (.int P), some (.int N), none] [.int (s.2.2.1 q 2)] (nx_enc (nx_ui s (q + 2) f) 0 shC) 0 0
  refine nx_s (nx_s (nx_s ?_))
  exact lp1 n 0 _ N f (by omega) e0 rfl hf
set_option maxRecDepth 100000 in
set_option maxHeartbeats 4000000 in
/-- dropEmpty: what isn't empty moves to the front -/
theorem hx_C (Q : nk_Q) (s : nx_S) (q n : Nat) (w a : HF) (f : Nat → Int32) (hr : hqC q) (hs : (s.2.2.1 q 2).toInt = n) (hw : ∀ i : Nat, i < n → (s.1 (q + 1) i).toInt = w i) (hn : n ≤ 20) (hf : hz n f a) (hq : ∀ (g' f' : Nat → Int32) (K : Int32), K.toInt = (hkp a n : Int) → (∀ j : Nat, j < hkp a n → (g' j).toInt = hco a w n j ∧ (f' j).toInt = hco a a n j) → Q none (nx_enc (nx_uf (nx_ui (nx_ui s (q + 1) g') (q + 2) f') q 2 K) 0 shC)) : ev_X1_dropEmpty [.ref q] (nx_enc (nx_ui s (q + 2) f) 0 shC) Q := by
  have h1 : (1 : Int32).toInt = 1 := rfl
  have h00 : (0 : Int32).toInt = 0 := rfl
  have lp : ∀ (m i : Nat) (I K : Int32) (g' f' : Nat → Int32), i + m = n → I.toInt = i → K.toInt = (hkp a i : Int) → (∀ j : Nat, j < hkp a i → (g' j).toInt = hco a w i j ∧ (f' j).toInt = hco a a i j) → (∀ j : Nat, i ≤ j → j < n → (g' j).toInt = w j ∧ (f' j).toInt = a j) → nk_wp kx_X1_dropEmpty kc_X1_dropEmpty Q 4 [some (.ref q), some (.int K), some (.int I)] [] (nx_enc (nx_ui (nx_ui s (q + 1) g') (q + 2) f') 0 shC) 0 0 := by
    intro m
    induction m with
    | zero =>
      intro i I K g' f' hi hI hK hk hl
      refine nx_s (nx_s (nx_gq rfl rfl hr.1 rfl ?_))
      show nk_wp kx_X1_dropEmpty kc_X1_dropEmpty Q 9 [some (.ref q), some (.int K), some (.int I)] [.int (s.2.2.1 q 2), .int I] (nx_enc (nx_ui (nx_ui s (q + 1) g') (q + 2) f') 0 shC) 0 0
      refine nx_s ?_
      refine nk_br.t (i_le (by omega)) ?_
      refine nx_s (nx_s (nx_pq rfl rfl hr.1 rfl ?_))
      refine nx_s ?_
      have e : i = n := by omega
      rw [e] at hK hk
      exact hq g' f' K hK hk
    | succ m ih =>
      intro i I K g' f' hi hI hK hk hl
      have hkl := hkp_le a i
      have li := hl i (Nat.le_refl _) (by omega)
      have eI : I.toNatClampNeg = i := nx_cl hI
      have eK : K.toNatClampNeg = hkp a i := nx_cl hK
      have e1 : (I + 1).toInt = ((i + 1 : Nat) : Int) := by
        rw [i_add (by omega) (by omega)]
        omega
      have ea : ∀ (x y : Nat → Int32), (nx_ui (nx_ui s (q + 1) x) (q + 2) y).1 (q + 1) = x := fun x y => by
        have e : (nx_ui (nx_ui s (q + 1) x) (q + 2) y).1 (q + 1) = (nx_ui s (q + 1) x).1 (q + 1) := if_neg (by omega)
        rw [e, nx_u1]
      have eb : ∀ (x y z : Nat → Int32), nx_ui (nx_ui (nx_ui s (q + 1) x) (q + 2) y) (q + 1) z = nx_ui (nx_ui s (q + 1) z) (q + 2) y := fun x y z => by
        refine Prod.ext (funext (fun r => ?_)) rfl
        show (if r = q + 1 then z else if r = q + 2 then y else if r = q + 1 then x else s.1 r) = if r = q + 2 then y else if r = q + 1 then z else s.1 r
        by_cases c1 : r = q + 1
        · rw [if_pos c1, if_neg (by omega), if_pos c1]
        · rw [if_neg c1, if_neg c1, if_neg c1]
      refine nx_s (nx_s (nx_gq rfl rfl hr.1 rfl ?_))
      show nk_wp kx_X1_dropEmpty kc_X1_dropEmpty Q 9 [some (.ref q), some (.int K), some (.int I)] [.int (s.2.2.1 q 2), .int I] (nx_enc (nx_ui (nx_ui s (q + 1) g') (q + 2) f') 0 shC) 0 0
      refine nx_s ?_
      refine nk_br.f (i_nle (by omega)) ?_
      refine nx_s (nx_gq rfl rfl hr.1 rfl ?_)
      show nk_wp kx_X1_dropEmpty kc_X1_dropEmpty Q 16 [some (.ref q), some (.int K), some (.int I)] [.ref (q + 2)] (nx_enc (nx_ui (nx_ui s (q + 1) g') (q + 2) f') 0 shC) 0 0
      refine nx_s (nx_iq rfl hr.2.2.1 (nx_in (n := 20) (by omega) (by omega)) ?_)
      rw [eI, nx_u1]
      refine nx_s ?_
      refine br_le (fun b => ?_) (fun b => ?_)
      · refine nx_s (nx_s ?_)
        have en : ¬ 0 < a i := by omega
        have k1 : hkp a (i + 1) = hkp a i := by
          show hkp a i + (if 0 < a i then 1 else 0) = hkp a i
          rw [if_neg en]
          rfl
        have k2 : ∀ x : HF, hco a x (i + 1) = hco a x i := fun x => by
          show (if 0 < a i then hu (hco a x i) (hkp a i) (x i) else hco a x i) = hco a x i
          rw [if_neg en]
        refine ih (i + 1) (I + 1) K g' f' (by omega) e1 (by rw [k1]; exact hK) ?_ (fun j h1 h2 => hl j (by omega) h2)
        rw [k1, k2, k2]
        exact hk
      · have ep : 0 < a i := by omega
        have k1 : hkp a (i + 1) = hkp a i + 1 := by
          show hkp a i + (if 0 < a i then 1 else 0) = hkp a i + 1
          rw [if_pos ep]
        have k2 : ∀ x : HF, hco a x (i + 1) = hu (hco a x i) (hkp a i) (x i) := fun x => by
          show (if 0 < a i then hu (hco a x i) (hkp a i) (x i) else hco a x i) = hu (hco a x i) (hkp a i) (x i)
          rw [if_pos ep]
        have e2 : (K + 1).toInt = ((hkp a i + 1 : Nat) : Int) := by
          rw [i_add (by omega) (by omega)]
          omega
        refine nx_s (nx_gq rfl rfl hr.1 rfl ?_)
        show nk_wp kx_X1_dropEmpty kc_X1_dropEmpty Q 25 [some (.ref q), some (.int K), some (.int I)] [.ref (q + 1)] (nx_enc (nx_ui (nx_ui s (q + 1) g') (q + 2) f') 0 shC) 0 0
        refine nx_s (nx_s (nx_gq rfl rfl hr.1 rfl ?_))
        show nk_wp kx_X1_dropEmpty kc_X1_dropEmpty Q 30 [some (.ref q), some (.int K), some (.int I)] [.ref (q + 1), .int K, .ref (q + 1)] (nx_enc (nx_ui (nx_ui s (q + 1) g') (q + 2) f') 0 shC) 0 0
        refine nx_s (nx_iq rfl hr.2.1 (nx_in (n := 20) (by omega) (by omega)) ?_)
        rw [eI, ea]
        refine nx_iw rfl hr.2.1 (nx_in (n := 20) (by omega) (by omega)) ?_
        rw [eK, ea, eb]
        refine nx_s (nx_gq rfl rfl hr.1 rfl ?_)
        show nk_wp kx_X1_dropEmpty kc_X1_dropEmpty Q 37 [some (.ref q), some (.int K), some (.int I)] [.ref (q + 2)] (nx_enc (nx_ui (nx_ui s (q + 1) (upd g' (hkp a i) (g' i))) (q + 2) f') 0 shC) 0 0
        refine nx_s (nx_s (nx_gq rfl rfl hr.1 rfl ?_))
        show nk_wp kx_X1_dropEmpty kc_X1_dropEmpty Q 42 [some (.ref q), some (.int K), some (.int I)] [.ref (q + 2), .int K, .ref (q + 2)] (nx_enc (nx_ui (nx_ui s (q + 1) (upd g' (hkp a i) (g' i))) (q + 2) f') 0 shC) 0 0
        refine nx_s (nx_iq rfl hr.2.2.1 (nx_in (n := 20) (by omega) (by omega)) ?_)
        rw [eI, nx_u1]
        refine nx_iw rfl hr.2.2.1 (nx_in (n := 20) (by omega) (by omega)) ?_
        rw [eK, nx_uu, nx_u1]
        refine nx_s (nx_s (nx_s ?_))
        refine ih (i + 1) (I + 1) (K + 1) _ _ (by omega) e1 (by rw [k1]; exact e2) (fun j hj => ?_) (fun j h1 h2 => ?_)
        · rw [k2, k2]
          rw [k1] at hj
          by_cases ej : j = hkp a i
          · rw [ej, upd_s, upd_s, hu_s, hu_s]
            exact li
          · rw [upd_n _ _ ej, upd_n _ _ ej, hu_n _ _ ej, hu_n _ _ ej]
            exact hk j (by omega)
        · rw [upd_n _ _ (by omega), upd_n _ _ (by omega)]
          exact hl j (by omega) h2
  refine nx_s (nx_s (nx_s (nx_s ?_)))
  have es : nx_ui s (q + 2) f = nx_ui (nx_ui s (q + 1) (s.1 (q + 1))) (q + 2) f := by
    refine Prod.ext (funext (fun r => ?_)) rfl
    show (if r = q + 2 then f else s.1 r) = if r = q + 2 then f else if r = q + 1 then s.1 (q + 1) else s.1 r
    by_cases c1 : r = q + 1
    · rw [if_pos c1, c1]
    · rw [if_neg c1]
  have go := lp n 0 0 0 (s.1 (q + 1)) f (by omega) rfl rfl (fun j hj => absurd hj (Nat.not_lt_zero j)) (fun j _ hj => ⟨hw j hj, hf j hj⟩)
  rw [← es] at go
  exact go
/-! ### what the calls do to the HEAPS -/
/-- for each HEAP its size, whose the layers are, what they hold -/
abbrev HS : Type := Nat → Nat × HF × HF
noncomputable def hC (s : nx_S) (H : HS) : Prop := ∀ k : Nat, k < 4 → hC1 s (49 + 3 * k) (H k).1 (H k).2.1 (H k).2.2
noncomputable def hI (H : HS) : Prop := ∀ k : Nat, k < 4 → (H k).1 ≤ 20 ∧ ∀ i : Nat, i < (H k).1 → (1 ≤ (H k).2.2 i ∧ (H k).2.2 i ≤ 99) ∧ 0 ≤ (H k).2.1 i ∧ (H k).2.1 i ≤ 5
noncomputable def hS (H : HS) (k : Nat) (x : Nat × HF × HF) : HS := fun j => if j = k then x else H j
/-- heap -/
noncomputable def g_heap (H : HS) (h p n : Int32) : HS := if ((0 ≤ h.toInt ∧ h.toInt ≤ 3) ∧ (0 ≤ p.toInt ∧ p.toInt ≤ 5) ∧ (1 ≤ n.toInt ∧ n.toInt ≤ 99)) ∧ (H h.toInt.toNat).1 < 20 then hS H h.toInt.toNat ((H h.toInt.toNat).1 + 1, hu (H h.toInt.toNat).2.1 (H h.toInt.toNat).1 p.toInt, hu (H h.toInt.toNat).2.2 (H h.toInt.toNat).1 n.toInt) else H
noncomputable def f_heap (H : HS) (h p n : Int32) : Int := if (0 ≤ h.toInt ∧ h.toInt ≤ 3) ∧ (0 ≤ p.toInt ∧ p.toInt ≤ 5) ∧ (1 ≤ n.toInt ∧ n.toInt ≤ 99) then (if (H h.toInt.toNat).1 < 20 then (H h.toInt.toNat).1 + 1 else -2) else -1
abbrev okD (h p n r : Int32) : Prop := (0 ≤ h.toInt ∧ h.toInt ≤ 3) ∧ (0 ≤ p.toInt ∧ p.toInt ≤ 5) ∧ (1 ≤ n.toInt ∧ n.toInt ≤ 999) ∧ (0 ≤ r.toInt ∧ r.toInt ≤ 2)
noncomputable def hdr (x : Nat × HF × HF) (p n r : Int) : Nat × HF × HF := (hkp (hrule x.2.1 x.2.2 x.1 p n r) x.1, hco (hrule x.2.1 x.2.2 x.1 p n r) x.2.1 x.1, hco (hrule x.2.1 x.2.2 x.1 p n r) (hrule x.2.1 x.2.2 x.1 p n r) x.1)
noncomputable def g_draw (H : HS) (h p n r : Int32) : HS := if okD h p n r ∧ n.toInt ≤ hsum (H h.toInt.toNat).2.2 (H h.toInt.toNat).1 then hS H h.toInt.toNat (hdr (H h.toInt.toNat) p.toInt n.toInt r.toInt) else H
noncomputable def f_draw (H : HS) (h p n r : Int32) : Int := if okD h p n r then (if n.toInt ≤ hsum (H h.toInt.toNat).2.2 (H h.toInt.toNat).1 then (hdr (H h.toInt.toNat) p.toInt n.toInt r.toInt).1 else -3) else -1
noncomputable def f_left (H : HS) (h p : Int32) : Int := if (0 ≤ h.toInt ∧ h.toInt ≤ 3) ∧ (0 ≤ p.toInt ∧ p.toInt ≤ 5) then hof (H h.toInt.toNat).2.1 (H h.toInt.toNat).2.2 p.toInt (H h.toInt.toNat).1 else -1
noncomputable def f_layer (H : HS) (h i : Int32) : Int := if 0 ≤ h.toInt ∧ h.toInt ≤ 3 then (if 0 ≤ i.toInt ∧ i.toInt < (H h.toInt.toNat).1 then 10 * (H h.toInt.toNat).2.2 i.toInt.toNat + (H h.toInt.toNat).2.1 i.toInt.toNat else -3) else -1
theorem hC_kp {s s1 : nx_S} {H : HS} (f : ∀ k : Nat, k < 4 → s1.2.2.1 (49 + 3 * k) 2 = s.2.2.1 (49 + 3 * k) 2) (a : ∀ r : Nat, 49 ≤ r → s1.1 r = s.1 r) (h : hC s H) : hC s1 H := fun k hk => by
  obtain ⟨h1, h2⟩ := h k hk
  refine ⟨by rw [f k hk]; exact h1, fun i hi => ?_⟩
  rw [a _ (by omega), a _ (by omega)]
  exact h2 i hi
theorem hC_fd {s s1 : nx_S} {H : HS} (hm : fd_P s s1) (h : hC s H) : hC s1 H := hC_kp (fun k hk => hm.2.2 _ _ (fun e => by omega)) (fun r hr => hm.1 r (by omega)) h
/-- behind a change of one HEAP -/
theorem hC_set {s : nx_S} {H : HS} {k : Nat} {g f : Nat → Int32} {K : Int32} {x : Nat × HF × HF} (h : hC s H) (hk : k < 4) (hK : K.toInt = x.1) (hx : ∀ j : Nat, j < x.1 → (g j).toInt = x.2.1 j ∧ (f j).toInt = x.2.2 j) : hC (nx_uf (nx_ui (nx_ui s (49 + 3 * k + 1) g) (49 + 3 * k + 2) f) (49 + 3 * k) 2 K) (hS H k x) := fun j hj => by
  by_cases e : j = k
  · have e2 : hS H k x j = x := if_pos e
    rw [e2, e]
    refine ⟨?_, fun i hi => ?_⟩
    · show (if 49 + 3 * k = 49 + 3 * k ∧ 2 = 2 then K else _).toInt = _
      rw [if_pos ⟨rfl, rfl⟩]
      exact hK
    · show ((if 49 + 3 * k + 1 = 49 + 3 * k + 2 then f else if 49 + 3 * k + 1 = 49 + 3 * k + 1 then g else s.1 (49 + 3 * k + 1)) i).toInt = _ ∧ ((if 49 + 3 * k + 2 = 49 + 3 * k + 2 then f else _) i).toInt = _
      rw [if_neg (by omega), if_pos rfl, if_pos rfl]
      exact hx i hi
  · have e2 : hS H k x j = H j := if_neg e
    rw [e2]
    obtain ⟨h1, h2⟩ := h j hj
    refine ⟨?_, fun i hi => ?_⟩
    · show (if 49 + 3 * j = 49 + 3 * k ∧ 2 = 2 then K else s.2.2.1 (49 + 3 * j) 2).toInt = _
      rw [if_neg (fun c => by omega)]
      exact h1
    · show ((if 49 + 3 * j + 1 = 49 + 3 * k + 2 then f else if 49 + 3 * j + 1 = 49 + 3 * k + 1 then g else s.1 (49 + 3 * j + 1)) i).toInt = _ ∧ ((if 49 + 3 * j + 2 = 49 + 3 * k + 2 then f else if 49 + 3 * j + 2 = 49 + 3 * k + 1 then g else s.1 (49 + 3 * j + 2)) i).toInt = _
      rw [if_neg (by omega), if_neg (by omega), if_neg (by omega), if_neg (by omega)]
      exact h2 i hi
set_option maxRecDepth 100000 in
set_option maxHeartbeats 4000000 in
theorem he_C (Q : nk_Q) (s : nx_S) (R P N : Int32) (hInv : nx_Inv gC s) (hq : ∀ (s1 : nx_S) (r : Int32), nx_Inv gC s1 → (∀ H : HS, hC s H → hI H → hC s1 (g_heap H R P N) ∧ r.toInt = f_heap H R P N) → Q (some (.int r)) (nx_enc s1 0 shC)) : ev_X5_heap [.ref 0, .int R, .int P, .int N] (nx_enc s 0 shC) Q := by
  have h4 : (4 : Int32).toInt = 4 := rfl
  have h6 : (6 : Int32).toInt = 6 := rfl
  have h1 : (1 : Int32).toInt = 1 := rfl
  have h99 : (99 : Int32).toInt = 99 := rfl
  have h20 : (20 : Int32).toInt = 20 := rfl
  have bad : ¬ ((0 ≤ R.toInt ∧ R.toInt ≤ 3) ∧ (0 ≤ P.toInt ∧ P.toInt ≤ 5) ∧ (1 ≤ N.toInt ∧ N.toInt ≤ 99)) → nk_wp kx_X5_heap kc_X5_heap Q 28 [some (.ref 0), some (.int R), some (.int P), some (.int N)] [] (nx_enc s 0 shC) 0 0 := by
    intro hn
    refine nx_s (nx_s ?_)
    refine hq s _ hInv (fun H h _ => ⟨?_, ?_⟩)
    · unfold g_heap
      rw [if_neg (fun c => hn c.1)]
      exact h
    · unfold f_heap
      rw [if_neg hn]
      rfl
  refine nx_s (nx_s (nx_s ?_))
  refine wi_C _ _ R 4 (fun r0 r1 => ?_) (fun hn => ?_)
  rotate_left
  · refine nx_s ?_
    refine nk_br.t (by decide) ?_
    exact bad (by omega)
  refine nx_s ?_
  refine nk_br.f (by decide) ?_
  refine nx_s (nx_s (nx_s ?_))
  refine wi_C _ _ P 6 (fun p0 p1 => ?_) (fun hn => ?_)
  rotate_left
  · refine nx_s ?_
    refine nk_br.t (by decide) ?_
    exact bad (by omega)
  refine nx_s ?_
  refine nk_br.f (by decide) ?_
  refine nx_s (nx_s (nx_s ?_))
  refine br_lt (fun b => ?_) (fun n0 => ?_)
  · exact bad (by omega)
  refine nx_s (nx_s (nx_s ?_))
  refine br_le (fun n1 => ?_) (fun b => ?_)
  rotate_left
  · exact bad (by omega)
  have hq1 := hq_r (R := R) r0 (by omega)
  have hr := hq_k (k := R.toInt.toNat) (by omega)
  refine nx_s (nx_s (nx_s (nx_s ?_)))
  refine ⟨nx_in (n := 4) r0 (by omega), ?_⟩
  show nk_wp kx_X5_heap kc_X5_heap Q 36 [some (.ref 0), some (.int R), some (.int P), some (.int N)] [va_rf (nk_lg [49, 52, 55, 58] R.toNatClampNeg)] (nx_enc s 0 shC) 0 0
  rw [hq1]
  refine nx_gq rfl rfl hr.1 rfl ?_
  show nk_wp kx_X5_heap kc_X5_heap Q 39 [some (.ref 0), some (.int R), some (.int P), some (.int N)] [.int (s.2.2.1 (49 + 3 * R.toInt.toNat) 2)] (nx_enc s 0 shC) 0 0
  have hsz : 0 ≤ (s.2.2.1 (49 + 3 * R.toInt.toNat) 2).toInt ∧ (s.2.2.1 (49 + 3 * R.toInt.toNat) 2).toInt ≤ 20 := by
    rcases sp4 r0 (show R.toInt ≤ 3 by omega) with rfl | rfl | rfl | rfl
    · exact hInv.1 26 (49, 2) (0, 20) rfl rfl
    · exact hInv.1 27 (52, 2) (0, 20) rfl rfl
    · exact hInv.1 28 (55, 2) (0, 20) rfl rfl
    · exact hInv.1 29 (58, 2) (0, 20) rfl rfl
  refine nx_s (nx_s ?_)
  refine br_lt (fun z1 => ?_) (fun z1 => ?_)
  rotate_left
  · refine nx_s (nx_s ?_)
    refine hq s _ hInv (fun H h _ => ?_)
    have hz := (h R.toInt.toNat (by omega)).1
    refine ⟨?_, ?_⟩
    · unfold g_heap
      rw [if_neg (fun c => by omega)]
      exact h
    · unfold f_heap
      rw [if_pos ⟨⟨r0, by omega⟩, ⟨p0, by omega⟩, by omega, by omega⟩, if_neg (by omega)]
      rfl
  refine nx_s (nx_s (nx_s (nx_s ?_)))
  refine ⟨nx_in (n := 4) r0 (by omega), ?_⟩
  show nk_wp kx_X5_heap kc_X5_heap Q 53 [some (.ref 0), some (.int R), some (.int P), some (.int N)] [va_rf (nk_lg [49, 52, 55, 58] R.toNatClampNeg)] (nx_enc s 0 shC) 0 0
  rw [hq1]
  refine nx_s (nx_s (nx_s ?_))
  have e1 : (s.2.2.1 (49 + 3 * R.toInt.toNat) 2 + 1).toInt = (s.2.2.1 (49 + 3 * R.toInt.toNat) 2).toInt + 1 := by
    rw [i_add (by omega) (by omega), h1]
  have hIv := hf_inv (r := R.toInt.toNat) (v := s.2.2.1 (49 + 3 * R.toInt.toNat) 2 + 1) (ha_inv (ha_inv hInv (show 49 ≤ 49 + 3 * R.toInt.toNat + 1 by omega) (upd (s.1 (49 + 3 * R.toInt.toNat + 1)) (s.2.2.1 (49 + 3 * R.toInt.toNat) 2).toNatClampNeg P)) (show 49 ≤ 49 + 3 * R.toInt.toNat + 2 by omega) (upd (s.1 (49 + 3 * R.toInt.toNat + 2)) (s.2.2.1 (49 + 3 * R.toInt.toNat) 2).toNatClampNeg N)) (by omega) (by omega) (by omega)
  have fin : ∀ H : HS, hC s H → hI H → hC (nx_uf (nx_ui (nx_ui s (49 + 3 * R.toInt.toNat + 1) (upd (s.1 (49 + 3 * R.toInt.toNat + 1)) (s.2.2.1 (49 + 3 * R.toInt.toNat) 2).toNatClampNeg P)) (49 + 3 * R.toInt.toNat + 2) (upd (s.1 (49 + 3 * R.toInt.toNat + 2)) (s.2.2.1 (49 + 3 * R.toInt.toNat) 2).toNatClampNeg N)) (49 + 3 * R.toInt.toNat) 2 (s.2.2.1 (49 + 3 * R.toInt.toNat) 2 + 1)) (g_heap H R P N) ∧ (s.2.2.1 (49 + 3 * R.toInt.toNat) 2 + 1).toInt = f_heap H R P N := fun H h _ => by
    obtain ⟨hz, hv⟩ := h R.toInt.toNat (by omega)
    have eN : (s.2.2.1 (49 + 3 * R.toInt.toNat) 2).toNatClampNeg = (H R.toInt.toNat).1 := nx_cl hz
    refine ⟨?_, ?_⟩
    · unfold g_heap
      rw [if_pos ⟨⟨⟨r0, by omega⟩, ⟨p0, by omega⟩, by omega, by omega⟩, by omega⟩, eN]
      refine hC_set h (by omega) (by rw [e1, hz]; rfl) (fun j hj => ?_)
      have hj : j < (H R.toInt.toNat).1 + 1 := hj
      by_cases ej : j = (H R.toInt.toNat).1
      · rw [ej, upd_s, upd_s]
        show P.toInt = hu _ _ _ _ ∧ N.toInt = hu _ _ _ _
        rw [hu_s, hu_s]
        exact ⟨rfl, rfl⟩
      · rw [upd_n _ _ ej, upd_n _ _ ej]
        show _ = hu (H R.toInt.toNat).2.1 (H R.toInt.toNat).1 P.toInt j ∧ _ = hu (H R.toInt.toNat).2.2 (H R.toInt.toNat).1 N.toInt j
        rw [hu_n _ _ ej, hu_n _ _ ej]
        exact hv j (by omega)
    · unfold f_heap
      rw [if_pos ⟨⟨r0, by omega⟩, ⟨p0, by omega⟩, by omega, by omega⟩, if_pos (by omega)]
      omega
  generalize 49 + 3 * R.toInt.toNat = q at *
  have eU : ∀ (x y : Nat → Int32), (nx_ui (nx_ui s (q + 1) x) (q + 2) y).2.2.1 q 2 = s.2.2.1 q 2 := fun _ _ => rfl
  have ea : ∀ x : Nat → Int32, (nx_ui s (q + 1) x).1 (q + 2) = s.1 (q + 2) := fun x => if_neg (by omega)
  refine (nk_obm hr.1 ?_ : nk_obj (nx_enc s 0 shC) q 1 (fun _ => ev_X1_add [.ref q, .int P, .int N] (nx_enc s 0 shC) (fun r h' => nk_ret r [] (fun Z => nk_wp kx_X5_heap kc_X5_heap Q 58 [some (.ref 0), some (.int R), some (.int P), some (.int N)] Z h' 0 0))))
  refine nx_s (nx_gq rfl rfl hr.1 rfl ?_)
  show nk_wp kx_X1_add kc_X1_add _ 4 [some (.ref q), some (.int P), some (.int N)] [.ref (q + 1)] (nx_enc s 0 shC) 0 0
  refine nx_s (nx_gq rfl rfl hr.1 rfl ?_)
  show nk_wp kx_X1_add kc_X1_add _ 8 [some (.ref q), some (.int P), some (.int N)] [.int (s.2.2.1 q 2), .ref (q + 1)] (nx_enc s 0 shC) 0 0
  refine nx_s (nx_iw rfl hr.2.1 (nx_in (n := 20) (by omega) (by omega)) ?_)
  refine nx_s (nx_gq rfl rfl hr.1 rfl ?_)
  show nk_wp kx_X1_add kc_X1_add _ 14 [some (.ref q), some (.int P), some (.int N)] [.ref (q + 2)] (nx_enc (nx_ui s (q + 1) (upd (s.1 (q + 1)) (s.2.2.1 q 2).toNatClampNeg P)) 0 shC) 0 0
  refine nx_s (nx_gq rfl rfl hr.1 rfl ?_)
  show nk_wp kx_X1_add kc_X1_add _ 18 [some (.ref q), some (.int P), some (.int N)] [.int (s.2.2.1 q 2), .ref (q + 2)] (nx_enc (nx_ui s (q + 1) (upd (s.1 (q + 1)) (s.2.2.1 q 2).toNatClampNeg P)) 0 shC) 0 0
  refine nx_s (nx_iw rfl hr.2.2.1 (nx_in (n := 20) (by omega) (by omega)) ?_)
  rw [ea]
  refine nx_s (nx_s (nx_gq rfl rfl hr.1 rfl ?_))
  show nk_wp kx_X1_add kc_X1_add _ 25 [some (.ref q), some (.int P), some (.int N)] [.int (s.2.2.1 q 2), .ref q] (nx_enc (nx_ui (nx_ui s (q + 1) (upd (s.1 (q + 1)) (s.2.2.1 q 2).toNatClampNeg P)) (q + 2) (upd (s.1 (q + 2)) (s.2.2.1 q 2).toNatClampNeg N)) 0 shC) 0 0
  refine nx_s (nx_s (nx_pq rfl rfl hr.1 rfl ?_))
  refine nx_s ?_
  refine nx_s (nx_s (nx_s (nx_s ?_)))
  refine ⟨nx_in (n := 4) r0 (by omega), ?_⟩
  show nk_wp kx_X5_heap kc_X5_heap Q 64 [some (.ref 0), some (.int R), some (.int P), some (.int N)] [va_rf (nk_lg [49, 52, 55, 58] R.toNatClampNeg)] (nx_enc (nx_uf (nx_ui (nx_ui s (q + 1) (upd (s.1 (q + 1)) (s.2.2.1 q 2).toNatClampNeg P)) (q + 2) (upd (s.1 (q + 2)) (s.2.2.1 q 2).toNatClampNeg N)) q 2 (s.2.2.1 q 2 + 1)) 0 shC) 0 0
  rw [hq1]
  refine nx_gq rfl rfl hr.1 rfl ?_
  show nk_wp kx_X5_heap kc_X5_heap Q 67 [some (.ref 0), some (.int R), some (.int P), some (.int N)] [.int (if q = q ∧ 2 = 2 then s.2.2.1 q 2 + 1 else s.2.2.1 q 2)] (nx_enc (nx_uf (nx_ui (nx_ui s (q + 1) (upd (s.1 (q + 1)) (s.2.2.1 q 2).toNatClampNeg P)) (q + 2) (upd (s.1 (q + 2)) (s.2.2.1 q 2).toNatClampNeg N)) q 2 (s.2.2.1 q 2 + 1)) 0 shC) 0 0
  rw [if_pos ⟨rfl, rfl⟩]
  refine nx_s ?_
  exact hq _ _ hIv fin
