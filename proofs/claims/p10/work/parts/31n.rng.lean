/-! ===== loops by ranges: what a cut has left goes down with its counters ===== -/
/-- a counter: the local, its weight, whether it goes down, where it ends -/
abbrev nr_E : Type := Nat × Nat × Bool × Int
abbrev nr_Cu : Type := List nr_E × na_Cu
abbrev nr_Hd : Type := Nat × List Nat × List (Nat × nr_Cu)
noncomputable def nr_d (e : nr_E) (x : Int) : Int := match e.2.2.1 with
  | false => e.2.2.2 - x
  | true => x - e.2.2.2
noncomputable def nr_t (M : nk_Ls) (e : nr_E) : Int := match nk_get M e.1 with
  | some (.int x) => (e.2.1 : Int) * nr_d e x.toInt
  | _ => 0
noncomputable def nr_mu (M : nk_Ls) : List nr_E → Int
  | [] => 0
  | e :: l => nr_t M e + nr_mu M l
noncomputable def nr_nn (M : nk_Ls) (l : List nr_E) : Prop := ∀ e ∈ l, ∃ x : Int32, nk_get M e.1 = some (.int x) ∧ 0 ≤ nr_d e x.toInt
theorem nr_t_eq {M : nk_Ls} {e : nr_E} {x : Int32} (h : nk_get M e.1 = some (.int x)) : nr_t M e = (e.2.1 : Int) * nr_d e x.toInt := by
  unfold nr_t
  rw [h]
theorem nr_mu_pos {M : nk_Ls} : ∀ {l : List nr_E}, nr_nn M l → 0 ≤ nr_mu M l
  | [], _ => Int.le_refl _
  | e :: l, h => by
    obtain ⟨x, hx, h0⟩ := h e List.mem_cons_self
    have h1 := nr_mu_pos (l := l) (fun e' he' => h e' (List.mem_cons_of_mem _ he'))
    show 0 ≤ nr_t M e + nr_mu M l
    rw [nr_t_eq hx]
    have h2 : 0 ≤ (e.2.1 : Int) * nr_d e x.toInt := Int.mul_nonneg (Int.natCast_nonneg _) h0
    omega
/-- the most that a counter has left -/
noncomputable def nr_bd (E : na_E) (v : na_V) (e : nr_E) : Option Int := match na_iv E v with
  | some b => (match e.2.2.1 with
    | false => (match na_ble b.2 e.2.2.2 with
      | true => some (e.2.2.2 - b.1)
      | false => none)
    | true => (match na_ble e.2.2.2 b.1 with
      | true => some (b.2 - e.2.2.2)
      | false => none))
  | none => none
noncomputable def nr_is (K : na_K) (a b : na_V) : Bool := K.any (fun k => Nat.beq k.1 3000 && na_ve k.2.1 a && na_ve k.2.2 b)
/-- by how much it went on -/
noncomputable def nr_dl (K : na_K) (a v : na_V) (d : Bool) : Option Int := match na_ve v a with
  | true => some 0
  | false => (match d with
    | false => (match nr_is K a v with
      | true => some 1
      | false => none)
    | true => (match nr_is K v a with
      | true => some 1
      | false => none))
noncomputable def nr_be (a b : Bool) : Bool := match a with
  | true => b
  | false => !b
noncomputable def nr_sm (a e : nr_E) : Bool := Nat.beq a.1 e.1 && Nat.beq a.2.1 e.2.1 && nr_be a.2.2.1 e.2.2.1 && na_bq a.2.2.2 e.2.2.2
theorem nr_sm_ok {a e : nr_E} (h : nr_sm a e = true) : a = e := by
  obtain ⟨h, h4⟩ := na_two h
  obtain ⟨h, h3⟩ := na_two h
  obtain ⟨h1, h2⟩ := na_two h
  obtain ⟨a1, a2, a3, a4⟩ := a
  obtain ⟨e1, e2, e3, e4⟩ := e
  have h1 : a1 = e1 := Nat.eq_of_beq_eq_true h1
  have h2 : a2 = e2 := Nat.eq_of_beq_eq_true h2
  have h3 : nr_be a3 e3 = true := h3
  have h4 : a4 = e4 := na_bq_t h4
  have h5 : a3 = e3 := by
    cases a3 <;> cases e3
    · rfl
    · cases h3
    · cases h3
    · rfl
  rw [h1, h2, h4, h5]
noncomputable def nr_new (L : na_L) (D : na_D) : List nr_E → Option Int
  | [] => some 0
  | e :: t => (na_get L e.1).bind (fun v => (nr_bd D.2.1 v e).bind (fun b => (nr_new L D t).bind (fun z => some (z - (e.2.1 : Int) * b))))
/-- how much less is left at the least: s at the cut, t at the next -/
noncomputable def nr_cmp (Ls L : na_L) (D : na_D) : List nr_E → List nr_E → Option Int
  | [], t => nr_new L D t
  | _ :: _, [] => some 0
  | a :: s, e :: t => (match nr_sm a e with
    | true => (na_get Ls e.1).bind (fun u => (na_get L e.1).bind (fun v => (nr_bd D.2.1 v e).bind (fun _ => (nr_dl D.2.2.2.1 u v e.2.2.1).bind (fun d => (nr_cmp Ls L D s t).bind (fun z => some (z + (e.2.1 : Int) * d))))))
    | false => nr_new L D (e :: t))
theorem nr_bd_ok {r : List Int} {E : na_E} {v : na_V} {e : nr_E} {b : Int} {w : Value} (h : nr_bd E v e = some b) (hE : na_gE r E) (hv : na_gv r v w) : ∃ x : Int32, w = .int x ∧ na_gi r v x ∧ 0 ≤ nr_d e x.toInt ∧ nr_d e x.toInt ≤ b := by
  unfold nr_bd at h
  cases hb : na_iv E v with
  | none =>
    rw [hb] at h
    cases h
  | some c =>
    rw [hb] at h
    obtain ⟨x, rfl, hx⟩ := na_gv_i hv hb
    have hxb := na_iv_ok hE hx hb
    refine ⟨x, rfl, hx, ?_⟩
    unfold nr_d
    cases hd : e.2.2.1 with
    | false =>
      rw [hd] at h
      cases hc : na_ble c.2 e.2.2.2 with
      | false =>
        simp only [hc] at h
        cases h
      | true =>
        simp only [hc] at h
        have hc := na_ble_t hc
        have h : e.2.2.2 - c.1 = b := Option.some.inj h
        show 0 ≤ e.2.2.2 - x.toInt ∧ e.2.2.2 - x.toInt ≤ b
        omega
    | true =>
      rw [hd] at h
      cases hc : na_ble e.2.2.2 c.1 with
      | false =>
        simp only [hc] at h
        cases h
      | true =>
        simp only [hc] at h
        have hc := na_ble_t hc
        have h : c.2 - e.2.2.2 = b := Option.some.inj h
        show 0 ≤ x.toInt - e.2.2.2 ∧ x.toInt - e.2.2.2 ≤ b
        omega
theorem nr_is_ok {g : na_G} {I0 : Nat → Nat → Int32} {r : List Int} {D : na_D} {s : nx_S} (hD : na_gD g I0 r D s) {a b : na_V} {x y : Int32} (hx : na_gi r a x) (hy : na_gi r b y) (h : nr_is D.2.2.2.1 a b = true) : x.toInt < y.toInt := by
  obtain ⟨k, hk, hc⟩ := List.any_eq_true.mp h
  obtain ⟨hc, c3⟩ := na_two hc
  obtain ⟨c1, c2⟩ := na_two hc
  have c1 := Nat.eq_of_beq_eq_true c1
  obtain ⟨i, w, g1, g2, g3⟩ := hD.2.2.2.1 k hk
  have e1 : i = x := na_ve_ok c2 g1 hx
  have e2 : w = y := na_ve_ok c3 g2 hy
  subst e1
  subst e2
  rcases g3 with ⟨g3, -⟩ | ⟨-, g3, -⟩ | ⟨-, g3⟩ | ⟨g3, -⟩
  · omega
  · omega
  · exact g3
  · omega
theorem nr_dl_ok {g : na_G} {I0 : Nat → Nat → Int32} {r : List Int} {D : na_D} {s : nx_S} (hD : na_gD g I0 r D s) {u v : na_V} {e : nr_E} {x y : Int32} {d : Int} (hx : na_gi r u x) (hy : na_gi r v y) (h : nr_dl D.2.2.2.1 u v e.2.2.1 = some d) : nr_d e y.toInt ≤ nr_d e x.toInt - d := by
  unfold nr_dl at h
  cases h1 : na_ve v u with
  | true =>
    rw [h1] at h
    have h : 0 = d := Option.some.inj h
    have := na_ve_ok h1 hy hx
    subst this
    omega
  | false =>
    rw [h1] at h
    unfold nr_d
    cases hd : e.2.2.1 with
    | false =>
      rw [hd] at h
      cases h2 : nr_is D.2.2.2.1 u v with
      | false =>
        simp only [h2] at h
        cases h
      | true =>
        simp only [h2] at h
        have h : 1 = d := Option.some.inj h
        have := nr_is_ok hD hx hy h2
        show e.2.2.2 - y.toInt ≤ e.2.2.2 - x.toInt - d
        omega
    | true =>
      rw [hd] at h
      cases h2 : nr_is D.2.2.2.1 v u with
      | false =>
        simp only [h2] at h
        cases h
      | true =>
        simp only [h2] at h
        have h : 1 = d := Option.some.inj h
        have := nr_is_ok hD hy hx h2
        show y.toInt - e.2.2.2 ≤ x.toInt - e.2.2.2 - d
        omega
theorem nr_new_ok {r : List Int} {L : na_L} {D : na_D} {M : nk_Ls} (hE : na_gE r D.2.1) (hL : na_gL r L M) : ∀ {t : List nr_E} {z : Int}, nr_new L D t = some z → nr_nn M t ∧ z ≤ - nr_mu M t
  | [], z, h => by
    have h : 0 = z := Option.some.inj h
    refine ⟨fun _ q => absurd q List.not_mem_nil, ?_⟩
    show z ≤ - 0
    omega
  | e :: t, z, h => by
    obtain ⟨v, hv, h⟩ := na_bi h
    obtain ⟨b, hb, h⟩ := na_bi h
    obtain ⟨z1, hz1, h⟩ := na_bi h
    have h : z1 - (e.2.1 : Int) * b = z := Option.some.inj h
    obtain ⟨w, hw, hgv⟩ := na_get_ok hL hv
    obtain ⟨x, rfl, hx, h0, h1⟩ := nr_bd_ok hb hE hgv
    obtain ⟨i1, i2⟩ := nr_new_ok hE hL hz1
    refine ⟨fun e' he' => ?_, ?_⟩
    · rcases List.mem_cons.mp he' with rfl | he'
      · exact ⟨x, hw, h0⟩
      · exact i1 e' he'
    · show z ≤ - (nr_t M e + nr_mu M t)
      rw [nr_t_eq hw]
      have := Int.mul_le_mul_of_nonneg_left h1 (Int.natCast_nonneg e.2.1)
      omega
theorem nr_cmp_ok {g : na_G} {I0 : Nat → Nat → Int32} {rb r : List Int} {Ls L : na_L} {D : na_D} {Ms M : nk_Ls} {s : nx_S} (hb : na_gL rb Ls Ms) (hex : na_ex rb r) (hD : na_gD g I0 r D s) (hL : na_gL r L M) : ∀ {cs ct : List nr_E} {z : Int}, nr_cmp Ls L D cs ct = some z → nr_nn Ms cs → nr_nn M ct ∧ z ≤ nr_mu Ms cs - nr_mu M ct
  | [], t, z, h, _ => by
    obtain ⟨i1, i2⟩ := nr_new_ok hD.2.1 hL (show nr_new L D t = some z from h)
    refine ⟨i1, ?_⟩
    show z ≤ 0 - nr_mu M t
    omega
  | a :: cs, [], z, h, hn => by
    have h : 0 = z := Option.some.inj h
    refine ⟨fun _ q => absurd q List.not_mem_nil, ?_⟩
    have := nr_mu_pos hn
    show z ≤ nr_mu Ms (a :: cs) - 0
    omega
  | a :: cs, e :: ct, z, h, hn => by
    unfold nr_cmp at h
    cases hs : nr_sm a e with
    | false =>
      rw [hs] at h
      obtain ⟨i1, i2⟩ := nr_new_ok hD.2.1 hL (show nr_new L D (e :: ct) = some z from h)
      have := nr_mu_pos hn
      exact ⟨i1, by omega⟩
    | true =>
      rw [hs] at h
      have hae := nr_sm_ok hs
      subst hae
      obtain ⟨u, hu, h⟩ := na_bi h
      obtain ⟨v, hv, h⟩ := na_bi h
      obtain ⟨b, hbd, h⟩ := na_bi h
      obtain ⟨d, hd, h⟩ := na_bi h
      obtain ⟨z1, hz1, h⟩ := na_bi h
      have h : z1 + (a.2.1 : Int) * d = z := Option.some.inj h
      obtain ⟨w, hw, hgv⟩ := na_get_ok hL hv
      obtain ⟨y, rfl, hy, h0, -⟩ := nr_bd_ok hbd hD.2.1 hgv
      obtain ⟨w0, hw0, hgu⟩ := na_get_ok hb hu
      obtain ⟨x, hx, hx0⟩ := hn a List.mem_cons_self
      rw [hx] at hw0
      have hw0 := Option.some.inj hw0
      subst hw0
      have hgu : na_gi rb u x := hgu
      have hdd := nr_dl_ok hD (na_gi.ex hex hgu) hy hd
      obtain ⟨i1, i2⟩ := nr_cmp_ok hb hex hD hL hz1 (fun e' he' => hn e' (List.mem_cons_of_mem _ he'))
      refine ⟨fun e' he' => ?_, ?_⟩
      · rcases List.mem_cons.mp he' with rfl | he'
        · exact ⟨y, hw, h0⟩
        · exact i1 e' he'
      · show z ≤ (nr_t Ms a + nr_mu Ms cs) - (nr_t M a + nr_mu M ct)
        rw [nr_t_eq hw, nr_t_eq hx]
        have hmul := Int.mul_le_mul_of_nonneg_left hdd (Int.natCast_nonneg a.2.1)
        rw [Int.mul_sub] at hmul
        omega
noncomputable def nr_lt (mu : Nat) (cn : List nr_E) (Ls L : na_L) (D : na_D) (cu : nr_Cu) : Bool := match nr_cmp Ls L D cn cu.1 with
  | some z => na_ble (Int.ofNat (cu.2.1 + 1)) (Int.ofNat mu + z)
  | none => false
noncomputable def nr_fin (cf : na_Cf) (c : na_C) (mi : Nat) (X : nk_T) (kc : Nat → Option nk_I) (n0 : Nat) (hd : List nr_Hd) (mu : Nat) (cn : List nr_E) (Ls : na_L) (st : na_St) : Option Bool := match st.1 with
  | _ :: _ => none
  | [] => (match Nat.beq st.2.1 mi with
    | false => some false
    | true => (match nk_lk hd st.2.2.1 with
    | some h => some (match na_key st.2.2.2.2.2.2.1 st.2.2.2.1 h.1 0 with
      | some k => (match nk_lk h.2 k with
        | some cu => nr_lt mu cn Ls st.2.2.2.1 st.2.2.2.2.2 cu && na_fit cf n0 cu.2 st.2.2.2.1 st.2.2.2.2.1 st.2.2.2.2.2
        | none => false)
      | none => false)
    | none => (match kc st.2.2.1 with
      | some row => (match na_kind row.1 with
        | 4 => some (match na_rv X row.1 st.2.2.2.2.1 st.2.2.2.2.2 with
          | some ov => na_post cf c n0 ov st.2.2.2.2.2
          | none => false)
        | _ => none)
      | none => some false)))
noncomputable def nr_echk (cf : na_Cf) (c : na_C) (mi : Nat) (m : na_Md) (fu : Nat) (sp : List (Nat × Nat)) (hd : List nr_Hd) (mu : Nat) : Bool :=
  (Nat.ble (na_pw c.1) m.2.2.1 && c.2.1.2.all (fun e => na_nol c.1 e.1 && Nat.ble (e.1 + 1) m.2.2.1)) && nf_go cf sp (nr_fin cf c mi m.1 m.2.1 (na_e0 cf c m.2.2.1).2.1 hd mu [] []) fu ([], mi, 0, (na_e0 cf c m.2.2.1).1, [], (na_e0 cf c m.2.2.1).2)
noncomputable def nr_cchk (cf : na_Cf) (c : na_C) (mi : Nat) (m : na_Md) (fu : Nat) (sp : List (Nat × Nat)) (hd : List nr_Hd) (pc : Nat) (k : Nat × nr_Cu) : Bool := match nf_step cf (na_cs cf (na_e0 cf c m.2.2.1) mi pc k.2.2) with
  | some l => l.all (nf_go cf sp (nr_fin cf c mi m.1 m.2.1 (na_e0 cf c m.2.2.1).2.1 hd k.2.2.1 k.2.1 (na_cs cf (na_e0 cf c m.2.2.1) mi pc k.2.2).2.2.2.1) fu)
  | none => false
noncomputable def nr_chk (cf : na_Cf) (c : na_C) (mi : Nat) (m : na_Md) (fu : Nat) (sp : List (Nat × Nat)) (hd : List nr_Hd) (mu : Nat) : Bool :=
  nr_echk cf c mi m fu sp hd mu && hd.all (fun h => h.2.2.all (nr_cchk cf c mi m fu sp hd h.1))
set_option maxHeartbeats 4000000 in
theorem nr_chk_mk {cf : na_Cf} (hKe : nx_Ke cf.1) (hR : na_Rok cf) (hN : cf.1.2.1.Nodup) (hlen : cf.1.2.1.length = cf.1.2.2.1.length) (hMo : ∀ (l l' : Nat) (s : nx_S), l ≤ l' → cf.1.2.2.2.2.2.1 l s → cf.1.2.2.2.2.2.1 l' s) (hPk : ∀ q ∈ cf.2.2, ∀ (l : Nat) (s : nx_S) (f : Nat → Int64), cf.1.2.2.2.2.2.1 l s → cf.1.2.2.2.2.2.1 l (nx_uj s q f)) {c : na_C} {mi : Nat} {m : na_Md} {fu : Nat} {sp : List (Nat × Nat)} {hd : List nr_Hd} {mu : Nat} (hm : nk_lk cf.2.1 mi = some m) (he : nr_echk cf c mi m fu sp hd mu = true) (hc : ∀ h ∈ hd, h.2.2.all (nr_cchk cf c mi m fu sp hd h.1) = true) : na_Ct cf.1 (na_ev m) c := by
  intro lv s as Q hPr hq
  obtain ⟨hInv, has, hpre, hpx, hlt⟩ := hPr
  obtain ⟨hw, hent⟩ := na_two he
  obtain ⟨hw, hnol⟩ := na_two hw
  rw [nf_go_eq] at hent
  show nk_if (Nat.ble (nk_wd as) m.2.2.1) (nk_wp m.1 m.2.1 Q 0 (nk_ent as m.2.2.1) [] (nx_enc s 0 cf.1.1) 0 0)
  rw [na_pw_ok _ _ has, hw]
  show nk_wp m.1 m.2.1 Q 0 (nk_ent as m.2.2.1) [] (nx_enc s 0 cf.1.1) 0 0
  obtain ⟨r1, k1, k2, k3, k4, k5⟩ := na_bd_ok (r0 := []) (na_f0 c.2.1.1 0 cf.1.2.2.1) (nx_fv cf.1 s) 0 [] [] [] (na_f0_ok _ _ 0 hlen hInv.1 (fun j k b hj hb => hpre j k b hj (by rw [Nat.zero_add] at hb; exact hb))) na_ex.rf rfl (fun _ q => by cases q) (fun _ q => by cases q)
  obtain ⟨r0, j1, j2, j3, j4, j5⟩ := na_bd_ok (r0 := []) (na_pe c.1 m.2.2.1) (nk_ent as m.2.2.1) _ _ _ r1 (na_pe_ok _ _ _ has) (fun _ _ q => by cases q) k2 k3 k4
  have hf : ∀ (i : Nat) (k : Nat × Nat), cf.1.2.1[i]? = some k → r0[i]? = some (s.2.2.1 k.1 k.2).toInt := by
    intro i k hi
    have hlt : i < cf.1.2.2.1.length := by rw [← hlen]; exact (List.getElem?_eq_some_iff.mp hi).1
    have hg := na_f0_get (pr := c.2.1.1) cf.1.2.2.1 0 0 [] [] i hlt
    obtain ⟨w, hw, hv⟩ := na_get_ok k5 hg
    rw [nx_fv_at hi] at hw
    cases hw
    rw [Nat.zero_add] at hv
    exact j1 _ _ hv
  have hle : ∀ e1 ∈ c.2.1.2, ∀ x : Int32, as[e1.1]? = some (.int x) → nk_get (nk_ent as m.2.2.1) e1.1 = some (.int x) := by
    intro e1 he1 x hx
    obtain ⟨z1, z2⟩ := na_two (List.all_eq_true.mp hnol e1 he1)
    exact na_nol_ok c.1 as m.2.2.1 e1.1 _ has z1 (Nat.le_of_ble_eq_true z2) hx
  have hn : (na_e0 cf c m.2.2.1).2.1 = r0.length := j2
  have hE0 : na_gE r0 (na_e0 cf c m.2.2.1).2.2.1 := j3
  have hZ0 : na_gZ r0 (na_e0 cf c m.2.2.1).2.2.2.1 := j4
  have hfin : ∀ (mu : Nat) (cn : List nr_E) (Ls : na_L) (Ms : nk_Ls) (rb : List Int), na_ex r0 rb → na_gL rb Ls Ms → nr_nn Ms cn → (∀ x ∈ hd, ∀ k ∈ x.2.2, ∀ (r : List Int) (M : nk_Ls) (s' : nx_S), na_ex r0 r → na_gD cf.1 s.1 r (na_cs cf (na_e0 cf c m.2.2.1) mi x.1 k.2.2).2.2.2.2.2 s' → na_gL r (na_cs cf (na_e0 cf c m.2.2.1) mi x.1 k.2.2).2.2.2.1 M → nr_nn M k.2.1 → (k.2.2.1 : Int) + nr_mu M k.2.1 < (mu : Int) + nr_mu Ms cn → nk_wp m.1 m.2.1 (na_Q Q []) x.1 M [] (nx_enc s' 0 cf.1.1) 0 0) → ∀ st : na_St, nr_fin cf c mi m.1 m.2.1 (na_e0 cf c m.2.2.1).2.1 hd mu cn Ls st = some true → na_Sm cf s.1 rb Q st := by
    intro mu cn Ls Ms rb hrb hLs hnn hcu st hst
    obtain ⟨fr, ms, pc, L, S, D⟩ := st
    cases fr with
    | cons f0 fr => cases hst
    | nil =>
      have ht : (match Nat.beq ms mi with
        | false => some false
        | true => (match nk_lk hd pc with
          | some h => some (match na_key D.2.1 L h.1 0 with
            | some k => (match nk_lk h.2 k with
              | some cu => nr_lt mu cn Ls L D cu && na_fit cf (na_e0 cf c m.2.2.1).2.1 cu.2 L S D
              | none => false)
            | none => false)
          | none => (match m.2.1 pc with
            | some row => (match na_kind row.1 with
              | 4 => some (match na_rv m.1 row.1 S D with
                | some ov => na_post cf c (na_e0 cf c m.2.2.1).2.1 ov D
                | none => false)
              | _ => none)
            | none => some false))) = some true := hst
      clear hst
      cases hbm : Nat.beq ms mi with
      | false => simp only [hbm] at ht; cases ht
      | true =>
        simp only [hbm] at ht
        have hbm := Nat.eq_of_beq_eq_true hbm
        subst hbm
        split at ht
        · rename_i x hx
          have hst := Option.some.inj ht
          cases hkey : na_key D.2.1 L x.1 0 with
          | none => simp only [hkey] at hst; cases hst
          | some key =>
            simp only [hkey] at hst
            cases hcu' : nk_lk x.2 key with
            | none => simp only [hcu'] at hst; cases hst
            | some cu =>
              simp only [hcu'] at hst
              obtain ⟨hlt, hfit⟩ := na_two hst
              intro r frc M T s' m' h0 hF hD hL hS hm'
              have hm' : nk_lk cf.2.1 ms = some m' := hm'
              rw [hm] at hm'
              cases hm'
              have hD : na_gD cf.1 s.1 r D s' := hD
              have hL : na_gL r L M := hL
              obtain ⟨rfl, rfl, r2, a1, a2, a3⟩ := na_fit_ex (mi := ms) (pc := pc) hMo hn hE0 hZ0 hfit (hrb.tr h0) hF hD hL hS
              unfold nr_lt at hlt
              cases hz : nr_cmp Ls L D cn cu.1 with
              | none => simp only [hz] at hlt; cases hlt
              | some z =>
                simp only [hz] at hlt
                have hlt := na_ble_t hlt
                obtain ⟨b1, b2⟩ := nr_cmp_ok hLs h0 hD hL hz hnn
                have hlt : ((cu.2.1 + 1 : Nat) : Int) ≤ (mu : Int) + z := hlt
                exact hcu (pc, x) (nk_lk_mem _ _ _ hx) (key, cu) (nk_lk_mem _ _ _ hcu') r2 M s' a1 a2 a3 b1 (by
                  show (cu.2.1 : Int) + nr_mu M cu.1 < (mu : Int) + nr_mu Ms cn
                  omega)
        · cases hrow : m.2.1 pc with
          | none => simp only [hrow] at ht; cases ht
          | some row =>
            simp only [hrow] at ht
            split at ht
            · have hst := Option.some.inj ht
              cases hov : na_rv m.1 row.1 S D with
              | none => simp only [hov] at hst; cases hst
              | some ov =>
                simp only [hov] at hst
                intro r frc M T s' m' h0 hF hD hL hS hm'
                have h0 := hrb.tr h0
                have hm' : nk_lk cf.2.1 ms = some m' := hm'
                rw [hm] at hm'
                cases hm'
                have hfr : frc = [] := by
                  match frc, hF with
                  | [], _ => rfl
                subst hfr
                refine nk_s ?_
                unfold nk_at
                show (match m.2.1 pc with
                  | some (i, _, nx, tg, lit) => nk_sem m.1 i nx tg lit M T (nx_enc s' 0 cf.1.1) 0 0 (nk_wp m.1 m.2.1 (na_Q Q [])) (na_Q Q [])
                  | none => False)
                rw [hrow]
                have hD : na_gD cf.1 s.1 r D s' := hD
                refine na_rv_ok hov hD.2.1 hS (fun v hv => hq v s' ?_)
                obtain ⟨hst, p4⟩ := na_two hst
                obtain ⟨hst, p3⟩ := na_two hst
                obtain ⟨p1, p2⟩ := na_two hst
                rw [hn] at p1
                have hpm := na_mt_ok hD.2.1 hD.2.2.1 h0 _ _ _ hD.2.2.2.2.1 p1
                refine ⟨hD.2.2.2.2.2.2.1, fun i k hi => ?_, fun q hq' => ?_, ?_, ?_⟩
                · have h1 := na_f1_ok _ _ 0 hpm i k hi
                  rw [Nat.zero_add] at h1
                  cases hl : nk_lk c.2.2.2.1 i with
                  | none =>
                    simp only [hl] at h1
                    rw [hf i k hi] at h1
                    exact (Int32.toInt_inj.mp (Option.some.inj h1)).symm
                  | some b =>
                    simp only [hl] at h1
                    exact h1
                · refine hD.2.2.2.2.2.1 q (fun hq2 => hq' ?_)
                  obtain ⟨t, ht, hb⟩ := List.any_eq_true.mp (List.all_eq_true.mp p2 q hq2)
                  have := Nat.eq_of_beq_eq_true hb
                  subst this
                  exact ht
                · clear p4
                  obtain ⟨c1, c2, c3, c4, c5, c6, c7, c8⟩ := c
                  match c6, p3 with
                  | 0, p3 =>
                    match ov, hv, p3 with
                    | none, hv, _ => exact hv
                  | 1, p3 =>
                    match ov, hv, p3 with
                    | some v0, hv, p3 =>
                      obtain ⟨w, rfl, hw⟩ := hv
                      cases hb : na_iv D.2.1 v0 with
                      | none => simp only [hb] at p3; cases p3
                      | some b =>
                        simp only [hb] at p3
                        obtain ⟨q1, q2⟩ := na_two p3
                        have q1 := na_ble_t q1
                        have q2 := na_ble_t q2
                        obtain ⟨x, rfl, hx⟩ := na_gv_i hw hb
                        have := na_iv_ok hD.2.1 hx hb
                        exact ⟨x, rfl, Int.le_trans q1 this.1, Int.le_trans this.2 q2⟩
                  | n + 2, p3 =>
                    match ov, hv, p3 with
                    | some v0, hv, p3 =>
                      obtain ⟨w, rfl, hw⟩ := hv
                      obtain ⟨b, hb⟩ := na_bn_ok p3
                      obtain ⟨y, rfl, hy⟩ := na_gv_l hw hb
                      exact ⟨y, rfl⟩
                · clear p3
                  obtain ⟨c1, c2, c3, c4, c5, c6, c7, c8, c9⟩ := c
                  match c8, p4 with
                  | 0, _ => exact trivial
                  | 1, p4 =>
                    obtain ⟨z1, z2⟩ := na_two p4
                    have z1 := Nat.le_of_ble_eq_true z1
                    have z2 : D.2.2.2.2.2.2 ≤ c9 + 1 := Nat.le_of_ble_eq_true z2
                    exact hMo (D.2.2.2.2.2.2 - 1) c9 s' (by omega) (hD.2.2.2.2.2.2.2 _ (by omega))
            · cases ht
  have hall : ∀ n : Nat, ∀ x ∈ hd, ∀ k ∈ x.2.2, ∀ (r : List Int) (M : nk_Ls) (s' : nx_S), na_ex r0 r → na_gD cf.1 s.1 r (na_cs cf (na_e0 cf c m.2.2.1) mi x.1 k.2.2).2.2.2.2.2 s' → na_gL r (na_cs cf (na_e0 cf c m.2.2.1) mi x.1 k.2.2).2.2.2.1 M → nr_nn M k.2.1 → (k.2.2.1 : Int) + nr_mu M k.2.1 < (n : Int) → nk_wp m.1 m.2.1 (na_Q Q []) x.1 M [] (nx_enc s' 0 cf.1.1) 0 0 := by
    intro n
    induction n with
    | zero =>
      intro x _ k _ r M s' _ _ _ hnn hk
      have h1 := nr_mu_pos hnn
      have hk : (k.2.2.1 : Int) + nr_mu M k.2.1 < 0 := hk
      omega
    | succ n ih =>
      intro x hx k hk r M s' h0 hD hL hnn hlt
      have h1 := List.all_eq_true.mp (hc x hx) k hk
      unfold nr_cchk at h1
      split at h1
      · rename_i l hl
        rw [nf_step_eq] at hl
        rw [nf_go_eq] at h1
        have hS : na_Sm cf s.1 r Q (na_cs cf (na_e0 cf c m.2.2.1) mi x.1 k.2.2) := na_step_ok hKe hR hN hPk hl (fun st' hst => na_go_ok hKe hR hN hPk (hfin k.2.2.1 k.2.1 _ M r h0 hL hnn (fun x' hx' k' hk' r' M' s'' a1 a2 a3 a4 a5 => ih x' hx' k' hk' r' M' s'' a1 a2 a3 a4 (by omega))) fu st' (List.all_eq_true.mp h1 st' hst))
        exact hS r [] M [] s' m na_ex.rf trivial hD hL trivial hm
      · cases h1
  have hs := na_go_ok hKe hR hN hPk (hfin mu [] [] [] r0 na_ex.rf trivial (fun _ q => absurd q List.not_mem_nil) (fun x hx k hk r M s' a1 a2 a3 a4 _ => hall ((k.2.2.1 : Int) + nr_mu M k.2.1 + 1).toNat x hx k hk r M s' a1 a2 a3 a4 (by omega))) fu _ hent
  exact hs r0 [] (nk_ent as m.2.2.1) [] s m na_ex.rf trivial ⟨j2, j3, j4, fun k hk => (by
    obtain ⟨e1, he1, hk⟩ := List.mem_filterMap.mp (show k ∈ na_k0 c.2.1.2 _ _ from hk)
    split at hk
    · rename_i v f hv hf
      cases hk
      obtain ⟨w2, hw2, hgf⟩ := na_get_ok k5 hf
      obtain ⟨kf, hkf, rfl⟩ := nx_fv_inv hw2
      obtain ⟨x, hx, hxl⟩ := hlt e1 he1 kf hkf
      obtain ⟨w, hw, hgv⟩ := na_get_ok j5 hv
      have hw' := hle e1 he1 x hx
      rw [hw'] at hw
      cases hw
      exact ⟨x, _, hgv, na_gi.ex j1 hgf, Or.inr (Or.inr (Or.inl ⟨rfl, hxl⟩))⟩
    · cases hk), k5.ex j1, fun _ _ => rfl, hInv, fun l hl => (by
    have hl : c.2.2.1 = l + 1 := hl
    have := hpx (by omega)
    exact hMo lv l s (by omega) this.2)⟩ j5 trivial hm
theorem nr_chk_ok {cf : na_Cf} (hKe : nx_Ke cf.1) (hR : na_Rok cf) (hN : cf.1.2.1.Nodup) (hlen : cf.1.2.1.length = cf.1.2.2.1.length) (hMo : ∀ (l l' : Nat) (s : nx_S), l ≤ l' → cf.1.2.2.2.2.2.1 l s → cf.1.2.2.2.2.2.1 l' s) (hPk : ∀ q ∈ cf.2.2, ∀ (l : Nat) (s : nx_S) (f : Nat → Int64), cf.1.2.2.2.2.2.1 l s → cf.1.2.2.2.2.2.1 l (nx_uj s q f)) {c : na_C} {mi : Nat} {m : na_Md} {fu : Nat} {sp : List (Nat × Nat)} {hd : List nr_Hd} {mu : Nat} (hm : nk_lk cf.2.1 mi = some m) (h : nr_chk cf c mi m fu sp hd mu = true) : na_Ct cf.1 (na_ev m) c := by
  obtain ⟨h1, h2⟩ := Bool.and_eq_true_iff.mp h
  exact nr_chk_mk hKe hR hN hlen hMo hPk hm h1 (List.all_eq_true.mp h2)
