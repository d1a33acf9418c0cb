/-! ===== the checker is sound ===== -/
theorem na_ve_tr {a : na_V} {t : Nat} (h : na_ve a (.inr (.inl t)) = true) {r : List Int} {x : Int32} (hx : na_gi r a x) : na_gi r (.inr (.inl t)) x := by
  match a, h, hx with
  | .inr (.inl u), h, hx =>
    have e : u = t := Nat.eq_of_beq_eq_true h
    subst e
    exact hx
section NaOk
variable {cf : na_Cf} {I0 : Nat → Nat → Int32} {r0 : List Int} {Q : nk_Q}
theorem na_vs_ok {st : na_St} {v : na_V} {r : List Int} {frc : List nc_Fr} {M : nk_Ls} {T : List Value} {s : nx_S} {m : na_Md} (h0 : na_ex r0 r) (hF : na_gF cf r st.1 frc) (hD : na_gD cf.1 I0 r st.2.2.2.2.2 s) (hL : na_gL r st.2.2.2.1 M) (hS : na_gS r st.2.2.2.2.1 T) (hm : nk_lk cf.2.1 st.2.1 = some m) {x : Int32} (hx : na_gi r v x) : ∀ (n : Nat) (a : Int), (∀ st' ∈ na_vs st v n a, na_Sm cf I0 r0 Q st') → a ≤ x.toInt → x.toInt < a + n → nk_wp m.1 m.2.1 (na_Q Q frc) st.2.2.1 M T (nx_enc s 0 cf.1.1) 0 0
  | 0, a, _, h1, h2 => by
    have h2 : x.toInt < a + 0 := h2
    omega
  | n + 1, a, hl, h1, h2 => by
    have h2 : x.toInt < a + ((n : Int) + 1) := h2
    by_cases e : x.toInt = a
    · have hy := na_rf_ok hD.2.1 hD.2.2.1 hx (lo := a) (hi := a) (by omega) (by omega)
      unfold na_vs at hl
      cases hr : na_rf st.2.2.2.2.2.2.1 st.2.2.2.2.2.2.2.1 v a a with
      | none => rw [hr] at hy; exact hy.elim
      | some p =>
        rw [hr] at hy
        simp only [hr] at hl
        exact hl _ List.mem_cons_self r frc M T s m h0 hF ⟨hD.1, hy.1, hy.2, hD.2.2.2⟩ hL hS hm
    · refine na_vs_ok h0 hF hD hL hS hm hx n (a + 1) (fun st' hst => hl st' ?_) (by omega) (by omega)
      unfold na_vs
      cases hr : na_rf st.2.2.2.2.2.2.1 st.2.2.2.2.2.2.2.1 v a a with
      | none => exact hst
      | some p => exact List.mem_cons_of_mem _ hst
theorem na_spl_ok {sp : List (Nat × Nat)} {st : na_St} {l : List na_St} (h : na_spl sp st = some l) (hl : ∀ st' ∈ l, na_Sm cf I0 r0 Q st') : na_Sm cf I0 r0 Q st := by
  intro r frc M T s m h0 hF hD hL hS hm
  unfold na_spl at h
  split at h
  · cases h
  · obtain ⟨j, hj, h⟩ := na_bi h
    obtain ⟨v, hv, h⟩ := na_bi h
    obtain ⟨b, hb, h⟩ := na_bi h
    split at h
    · cases h
    · cases h
      obtain ⟨w, hw, hgv⟩ := na_get_ok hL hv
      obtain ⟨x, rfl, hx⟩ := na_gv_i hgv hb
      have hxb := na_iv_ok hD.2.1 hx hb
      exact na_vs_ok h0 hF hD hL hS hm hx _ _ hl hxb.1 (by omega)
theorem na_go_ok (hKe : nx_Ke cf.1) (hR : na_Rok cf) (hN : cf.1.2.1.Nodup) (hPk : ∀ q ∈ cf.2.2, ∀ (l : Nat) (s : nx_S) (f : Nat → Int64), cf.1.2.2.2.2.2.1 l s → cf.1.2.2.2.2.2.1 l (nx_uj s q f)) {sp : List (Nat × Nat)} {fin : na_St → Option Bool} (hfin : ∀ st, fin st = some true → na_Sm cf I0 r0 Q st) : ∀ (f : Nat) (st : na_St), na_go cf sp fin f st = true → na_Sm cf I0 r0 Q st
  | 0, _, h => by cases h
  | f + 1, st, h => by
    unfold na_go at h
    split at h
    · rename_i l hl
      exact na_spl_ok hl (fun st' hst => na_go_ok hKe hR hN hPk hfin f st' (List.all_eq_true.mp h st' hst))
    · split at h
      · rename_i b hb
        exact hfin st (by rw [hb, h])
      · split at h
        · rename_i l hl
          exact na_step_ok hKe hR hN hPk hl (fun st' hst => na_go_ok hKe hR hN hPk hfin f st' (List.all_eq_true.mp h st' hst))
        · cases h
theorem na_fit_ex (hMo : ∀ (l l' : Nat) (s : nx_S), l ≤ l' → cf.1.2.2.2.2.2.1 l s → cf.1.2.2.2.2.2.1 l' s) {e : na_L × na_D} {cu : na_Cu} {mi pc : Nat} {L : na_L} {S : List na_V} {D : na_D} (hn : e.2.1 = r0.length) (hE0 : na_gE r0 e.2.2.1) (hZ0 : na_gZ r0 e.2.2.2.1) (h : na_fit cf e.2.1 cu L S D = true) {r : List Int} {frc : List nc_Fr} {M : nk_Ls} {T : List Value} {s : nx_S} (h0 : na_ex r0 r) (hF : na_gF cf r [] frc) (hD : na_gD cf.1 I0 r D s) (hL : na_gL r L M) (hS : na_gS r S T) : frc = [] ∧ T = [] ∧ ∃ r2 : List Int, na_ex r0 r2 ∧ na_gD cf.1 I0 r2 (na_cs cf e mi pc cu).2.2.2.2.2 s ∧ na_gL r2 (na_cs cf e mi pc cu).2.2.2.1 M := by
  obtain ⟨h, b7⟩ := na_two h
  obtain ⟨h, b6⟩ := na_two h
  obtain ⟨h, b5⟩ := na_two h
  obtain ⟨h, b4⟩ := na_two h
  obtain ⟨h, b3⟩ := na_two h
  obtain ⟨b1, b2⟩ := na_two h
  have hfr : frc = [] := by
    match frc, hF with
    | [], _ => rfl
  subst hfr
  have hST : S = [] := by
    match S, b3 with
    | [], _ => rfl
  rw [hST] at hS
  have hT : T = [] := by
    match T, hS with
    | [], _ => rfl
  subst hT
  rw [hn] at b1 b2 b5 b7
  have hpF := na_mt_ok hD.2.1 hD.2.2.1 h0 _ _ _ hD.2.2.2.2.1 b1
  have hpL := na_mt_ok hD.2.1 hD.2.2.1 h0 _ _ _ hL b2
  have hE1 : na_gE r0 (cu.2.2.2.2.1 ++ e.2.2.1) := by
    intro z hz
    rcases List.mem_append.mp hz with hz | hz
    · obtain ⟨c1, c2⟩ := na_two (List.all_eq_true.mp b5 z hz)
      have hlt : z.1 < r0.length := Nat.le_of_ble_eq_true c1
      have h1 : r0[z.1]? = some r0[z.1] := List.getElem?_eq_getElem hlt
      refine ⟨_, h1, ?_⟩
      cases hl : nk_lk D.2.1 z.1 with
      | none => simp only [hl] at c2; cases c2
      | some b =>
        simp only [hl] at c2
        obtain ⟨c3, c4⟩ := na_two c2
        have c3 := na_ble_t c3
        have c4 := na_ble_t c4
        have := na_lk_ok hD.2.1 hl (h0 _ _ h1)
        exact ⟨by omega, by omega⟩
    · exact hE0 z hz
  obtain ⟨r1, k1, k2, k3, k4, k5⟩ := na_bd_ok (na_fp cu.2.2.1 0 cf.1.2.2.1) (nx_fv cf.1 s) e.2.1 (cu.2.2.2.2.1 ++ e.2.2.1) e.2.2.2.1 r0 hpF na_ex.rf hn hE1 hZ0
  obtain ⟨r2, j1, j2, j3, j4, j5⟩ := na_bd_ok cu.2.1 M _ _ _ r1 hpL k1 k2 k3 k4
  refine ⟨rfl, rfl, r2, k1.tr j1, ⟨j2, j3, j4, fun k hk => ?_, k5.ex j1, fun q hq => hD.2.2.2.2.2.1 q (fun hq2 => hq ?_), hD.2.2.2.2.2.2.1, fun l hp => ?_⟩, j5⟩
  · obtain ⟨e1, he1, rfl⟩ := List.mem_map.mp (show k ∈ na_k2 cu.2.2.2.2.2.2 from hk)
    obtain ⟨c12, c3⟩ := na_two (List.all_eq_true.mp b7 e1 he1)
    obtain ⟨c1, c2⟩ := na_two c12
    have c1 : e1.1 < r0.length := Nat.le_of_ble_eq_true c1
    have c2 : e1.2 < r0.length := Nat.le_of_ble_eq_true c2
    obtain ⟨kk, hkk, hc⟩ := List.any_eq_true.mp c3
    obtain ⟨hc, d3⟩ := na_two hc
    obtain ⟨d1, d2⟩ := na_two hc
    have d1 := Nat.eq_of_beq_eq_true d1
    obtain ⟨i, w, g1, g2, g3⟩ := hD.2.2.2.1 kk hkk
    have h1 : r0[e1.1]? = some r0[e1.1] := List.getElem?_eq_getElem c1
    have h2 : r0[e1.2]? = some r0[e1.2] := List.getElem?_eq_getElem c2
    have i1 : na_gi r (.inr (.inl e1.1)) i := na_ve_tr d2 g1
    have w1 : na_gi r (.inr (.inl e1.2)) w := na_ve_tr d3 g2
    have ei : r[e1.1]? = some i.toInt := i1
    have ew : r[e1.2]? = some w.toInt := w1
    rw [h0 _ _ h1] at ei
    rw [h0 _ _ h2] at ew
    refine ⟨i, w, ?_, ?_, ?_⟩
    · show r2[e1.1]? = some i.toInt
      rw [← ei]
      exact (k1.tr j1) _ _ h1
    · show r2[e1.2]? = some w.toInt
      rw [← ew]
      exact (k1.tr j1) _ _ h2
    · rcases g3 with ⟨g3, -⟩ | ⟨-, g3, -⟩ | ⟨-, g3⟩ | ⟨g3, -⟩
      · omega
      · omega
      · exact Or.inr (Or.inr (Or.inl ⟨rfl, g3⟩))
      · omega
  · obtain ⟨t, ht, hb⟩ := List.any_eq_true.mp (List.all_eq_true.mp b4 q hq2)
    have := Nat.eq_of_beq_eq_true hb
    subst this
    exact ht
  · have hp : cu.2.2.2.2.2.1 = l + 1 := hp
    rcases Bool.or_eq_true_iff.mp b6 with b6 | b6
    · have := Nat.eq_of_beq_eq_true b6
      omega
    · obtain ⟨z1, z2⟩ := na_two b6
      have z1 := Nat.le_of_ble_eq_true z1
      have z2 := Nat.le_of_ble_eq_true z2
      exact hMo (D.2.2.2.2.2.2 - 1) l s (by omega) (hD.2.2.2.2.2.2.2 _ (by omega))
theorem na_fit_ok (hMo : ∀ (l l' : Nat) (s : nx_S), l ≤ l' → cf.1.2.2.2.2.2.1 l s → cf.1.2.2.2.2.2.1 l' s) {e : na_L × na_D} {cu : na_Cu} {mi pc : Nat} {L : na_L} {S : List na_V} {D : na_D} (hn : e.2.1 = r0.length) (hE0 : na_gE r0 e.2.2.1) (hZ0 : na_gZ r0 e.2.2.2.1) (h : na_fit cf e.2.1 cu L S D = true) (hs : na_Sm cf I0 r0 Q (na_cs cf e mi pc cu)) : na_Sm cf I0 r0 Q ([], mi, pc, L, S, D) := by
  intro r frc M T s m h0 hF hD hL hS hm
  obtain ⟨rfl, rfl, r2, a1, a2, a3⟩ := na_fit_ex (mi := mi) (pc := pc) hMo hn hE0 hZ0 h h0 hF hD hL hS
  exact hs r2 [] M [] s m a1 trivial a2 a3 trivial hm
/-! ### the entry -/
theorem na_f0_ok {pr : List (Nat × Int × Int)} {s : nx_S} : ∀ (fk : List (Nat × Nat)) (fi : List (Int × Int)) (i : Nat), fk.length = fi.length → (∀ (j : Nat) (k : Nat × Nat) (b : Int × Int), fk[j]? = some k → fi[j]? = some b → b.1 ≤ (s.2.2.1 k.1 k.2).toInt ∧ (s.2.2.1 k.1 k.2).toInt ≤ b.2) → (∀ (j : Nat) (k : Nat × Nat) (b : Int × Int), fk[j]? = some k → nk_lk pr (i + j) = some b → b.1 ≤ (s.2.2.1 k.1 k.2).toInt ∧ (s.2.2.1 k.1 k.2).toInt ≤ b.2) → na_pm [] (na_f0 pr i fi) (fk.map (fun k => some (.int (s.2.2.1 k.1 k.2))))
  | [], [], _, _, _, _ => trivial
  | k :: fk, b :: fi, i, hl, h1, h2 => by
    have ih := na_f0_ok fk fi (i + 1) (Nat.succ.inj hl) (fun j k' b' hj hb => h1 (j + 1) k' b' (by rw [List.getElem?_cons_succ]; exact hj) (by rw [List.getElem?_cons_succ]; exact hb)) (fun j k' b' hj hb => h2 (j + 1) k' b' (by rw [List.getElem?_cons_succ]; exact hj) (by rw [show i + (j + 1) = i + 1 + j by omega]; exact hb))
    unfold na_f0
    cases hp : nk_lk pr i with
    | none =>
      have := h1 0 k b rfl rfl
      exact ⟨⟨_, rfl, this.1, this.2, fun q => (by cases q)⟩, ih⟩
    | some e =>
      have := h2 0 k e rfl (by rw [Nat.add_zero]; exact hp)
      exact ⟨⟨_, rfl, this.1, this.2, fun q => (by cases q)⟩, ih⟩
  | [], _ :: _, _, hl, _, _ => by cases hl
  | _ :: _, [], _, hl, _, _ => by cases hl
theorem na_f0_get {pr : List (Nat × Int × Int)} : ∀ (fi : List (Int × Int)) (i n : Nat) (E : na_E) (Z : List Nat) (j : Nat), j < fi.length → na_get (na_bd (na_f0 pr i fi) n E Z).1 j = some (.inr (.inl (n + j)))
  | [], _, _, _, _, _, h => absurd h (Nat.not_lt_zero _)
  | b :: fi, i, n, E, Z, j, h => by
    unfold na_f0
    cases hp : nk_lk pr i with
    | none =>
      match j, h with
      | 0, _ => rfl
      | j + 1, h =>
        have := na_f0_get (pr := pr) fi (i + 1) (n + 1) ((n, b.1, b.2) :: E) (bif false then n :: Z else Z) j (Nat.lt_of_succ_lt_succ h)
        rw [show n + (j + 1) = n + 1 + j by omega]
        exact this
    | some e =>
      match j, h with
      | 0, _ => rfl
      | j + 1, h =>
        have := na_f0_get (pr := pr) fi (i + 1) (n + 1) ((n, e.1, e.2) :: E) (bif false then n :: Z else Z) j (Nat.lt_of_succ_lt_succ h)
        rw [show n + (j + 1) = n + 1 + j by omega]
        exact this
theorem na_pm_rep {r : List Int} : ∀ n : Nat, na_pm r (List.replicate n none) (List.replicate n none)
  | 0 => trivial
  | n + 1 => by
    rw [List.replicate_succ, List.replicate_succ]
    exact na_pm_rep n
theorem na_pe_ok {r : List Int} : ∀ (ps : List na_Pt) (as : List Value) (n : Nat), na_as r ps as → na_pm r (na_pe ps n) (nk_ent as n)
  | [], [], n, _ => na_pm_rep n
  | p :: ps, w :: as, n, h => by
    have i1 := na_pe_ok ps as (n - 1) h.2
    have i2 := na_pe_ok ps as (n - 2) h.2
    have h1 := h.1
    match p, h1 with
    | .inl c, h1 =>
      obtain ⟨x, rfl, hx⟩ := id h1
      exact ⟨h1, i1⟩
    | .inr (.inl k), h1 =>
      obtain ⟨x, rfl, hx⟩ := id h1
      exact ⟨h1, i1⟩
    | .inr (.inr (.inl b)), h1 =>
      obtain ⟨x, rfl, hx⟩ := id h1
      exact ⟨h1, i1⟩
    | .inr (.inr (.inr (.inl z))), h1 =>
      obtain ⟨y, rfl, hy⟩ := id h1
      exact ⟨h1, i2⟩
    | .inr (.inr (.inr (.inr q))), h1 =>
      have e : w = .ref q := h1
      subst e
      exact ⟨h1, i1⟩
  | [], _ :: _, _, h => h.elim
  | _ :: _, [], _, h => h.elim
theorem na_pw_ok {r : List Int} : ∀ (ps : List na_Pt) (as : List Value), na_as r ps as → nk_wd as = na_pw ps
  | [], [], _ => rfl
  | p :: ps, w :: as, h => by
    show w.category + nk_wd as = _ + na_pw ps
    rw [na_pw_ok ps as h.2]
    have h1 := h.1
    match p, h1 with
    | .inl c, h1 =>
      obtain ⟨x, rfl, hx⟩ := h1
      rfl
    | .inr (.inl k), h1 =>
      obtain ⟨x, rfl, hx⟩ := h1
      rfl
    | .inr (.inr (.inl b)), h1 =>
      obtain ⟨x, rfl, hx⟩ := h1
      rfl
    | .inr (.inr (.inr (.inl z))), h1 =>
      obtain ⟨y, rfl, hy⟩ := h1
      rfl
    | .inr (.inr (.inr (.inr q))), h1 =>
      have e : w = .ref q := h1
      subst e
      rfl
  | [], _ :: _, h => h.elim
  | _ :: _, [], h => h.elim
theorem na_f1_ok {md : List (Nat × Int × Int)} {s : nx_S} {r : List Int} : ∀ (fk : List (Nat × Nat)) (fi : List (Int × Int)) (i : Nat), na_pm r (na_f1 md i fi) (fk.map (fun k => some (.int (s.2.2.1 k.1 k.2)))) → ∀ (j : Nat) (k : Nat × Nat), fk[j]? = some k → match nk_lk md (i + j) with
    | some b => b.1 ≤ (s.2.2.1 k.1 k.2).toInt ∧ (s.2.2.1 k.1 k.2).toInt ≤ b.2
    | none => r[i + j]? = some (s.2.2.1 k.1 k.2).toInt
  | [], _, _, _, j, k, hj => by cases hj
  | k0 :: fk, [], i, h, _, _, _ => h.elim
  | k0 :: fk, b :: fi, i, h, j, k, hj => by
    unfold na_f1 at h
    match j, hj with
    | 0, hj =>
      cases hj
      rw [Nat.add_zero]
      cases hp : nk_lk md i with
      | none =>
        simp only [hp] at h
        obtain ⟨x, e, hx⟩ := h.1
        cases e
        exact hx
      | some e =>
        simp only [hp] at h
        obtain ⟨x, e2, h1, h2, -⟩ := h.1
        cases e2
        exact ⟨h1, h2⟩
    | j + 1, hj =>
      rw [show i + (j + 1) = i + 1 + j by omega]
      have h' : na_pm r (na_f1 md (i + 1) fi) (fk.map (fun k => some (.int (s.2.2.1 k.1 k.2)))) := by
        cases hp : nk_lk md i with
        | none => simp only [hp] at h; exact h.2
        | some e => simp only [hp] at h; exact h.2
      exact na_f1_ok fk fi (i + 1) h' j k (by rw [List.getElem?_cons_succ] at hj; exact hj)
end NaOk
theorem nx_fv_inv {g : na_G} {s : nx_S} {i : Nat} {w : Value} (h : nk_get (nx_fv g s) i = some w) : ∃ k, g.2.1[i]? = some k ∧ w = .int (s.2.2.1 k.1 k.2) := by
  rw [nk_get_eq] at h
  unfold nx_fv at h
  rw [List.getElem?_map] at h
  cases hk : g.2.1[i]? with
  | none => rw [hk] at h; cases h
  | some k =>
    rw [hk] at h
    cases h
    exact ⟨k, rfl, rfl⟩
theorem na_nol_ok {r : List Int} : ∀ (ps : List na_Pt) (as : List Value) (n i : Nat) (w : Value), na_as r ps as → na_nol ps i = true → i < n → as[i]? = some w → nk_get (nk_ent as n) i = some w
  | [], [], _, _, _, _, _, _, h => by cases h
  | p :: ps, v :: as, n, 0, w, h, _, hi, hw => by
    cases hw
    have h1 := h.1
    match p, h1 with
    | .inl c, h1 => obtain ⟨x, rfl, -⟩ := h1; rfl
    | .inr (.inl k), h1 => obtain ⟨x, rfl, -⟩ := h1; rfl
    | .inr (.inr (.inl b)), h1 => obtain ⟨x, rfl, -⟩ := h1; rfl
    | .inr (.inr (.inr (.inl z))), h1 => obtain ⟨y, rfl, -⟩ := h1; rfl
    | .inr (.inr (.inr (.inr q))), h1 =>
      have e : v = .ref q := h1
      subst e
      rfl
  | p :: ps, v :: as, n, i + 1, w, h, hl, hi, hw => by
    have h1 := h.1
    have ih := fun hl' => na_nol_ok ps as (n - 1) i w h.2 hl' (by omega) (by rw [List.getElem?_cons_succ] at hw; exact hw)
    match p, h1, hl with
    | .inl c, h1, hl => obtain ⟨x, rfl, -⟩ := h1; exact ih hl
    | .inr (.inl k), h1, hl => obtain ⟨x, rfl, -⟩ := h1; exact ih hl
    | .inr (.inr (.inl b)), h1, hl => obtain ⟨x, rfl, -⟩ := h1; exact ih hl
    | .inr (.inr (.inr (.inl z))), h1, hl => cases hl
    | .inr (.inr (.inr (.inr q))), h1, hl =>
      have e : v = .ref q := h1
      subst e
      exact ih hl
  | [], _ :: _, _, _, _, h, _, _, _ => h.elim
  | _ :: _, [], _, _, _, h, _, _, _ => h.elim
set_option maxHeartbeats 4000000 in
/-- THE CHECKER IS SOUND -/
theorem na_chk_ok {cf : na_Cf} (hKe : nx_Ke cf.1) (hR : na_Rok cf) (hN : cf.1.2.1.Nodup) (hlen : cf.1.2.1.length = cf.1.2.2.1.length) (hMo : ∀ (l l' : Nat) (s : nx_S), l ≤ l' → cf.1.2.2.2.2.2.1 l s → cf.1.2.2.2.2.2.1 l' s) (hPk : ∀ q ∈ cf.2.2, ∀ (l : Nat) (s : nx_S) (f : Nat → Int64), cf.1.2.2.2.2.2.1 l s → cf.1.2.2.2.2.2.1 l (nx_uj s q f)) {c : na_C} {mi : Nat} {m : na_Md} {fu : Nat} {sp : List (Nat × Nat)} {hd : List na_Hd} {mu : Nat} (hm : nk_lk cf.2.1 mi = some m) (h : na_chk cf c mi m fu sp hd mu = true) : na_Ct cf.1 (na_ev m) c := by
  intro lv s as Q hPr hq
  obtain ⟨hInv, has, hpre, hpx, hlt⟩ := hPr
  obtain ⟨h, hcuts⟩ := na_two h
  obtain ⟨hw, hent⟩ := na_two h
  obtain ⟨hw, hnol⟩ := na_two hw
  show nk_if (Nat.ble (nk_wd as) m.2.2.1) (nk_wp m.1 m.2.1 Q 0 (nk_ent as m.2.2.1) [] (nx_enc s 0 cf.1.1) 0 0)
  rw [na_pw_ok _ _ has, hw]
  show nk_wp m.1 m.2.1 Q 0 (nk_ent as m.2.2.1) [] (nx_enc s 0 cf.1.1) 0 0
  obtain ⟨r1, k1, k2, k3, k4, k5⟩ := na_bd_ok (r0 := []) (na_f0 c.2.1.1 0 cf.1.2.2.1) (nx_fv cf.1 s) 0 [] [] [] (na_f0_ok _ _ 0 hlen hInv.1 (fun j k b hj hb => hpre j k b hj (by rw [Nat.zero_add] at hb; exact hb))) na_ex.rf rfl (fun _ q => by cases q) (fun _ q => by cases q)
  obtain ⟨r0, j1, j2, j3, j4, j5⟩ := na_bd_ok (r0 := []) (na_pe c.1 m.2.2.1) (nk_ent as m.2.2.1) _ _ _ r1 (na_pe_ok _ _ _ has) (fun _ _ q => by cases q) k2 k3 k4
  have hf : ∀ (i : Nat) (k : Nat × Nat), cf.1.2.1[i]? = some k → r0[i]? = some (s.2.2.1 k.1 k.2).toInt := by
    intro i k hi
    have hlt : i < cf.1.2.2.1.length := by rw [← hlen]; exact (List.getElem?_eq_some_iff.mp hi).1
    have hg := na_f0_get (pr := c.2.1.1) cf.1.2.2.1 0 0 [] [] i hlt
    obtain ⟨w, hw, hv⟩ := na_get_ok k5 hg
    rw [nx_fv_at hi] at hw
    cases hw
    rw [Nat.zero_add] at hv
    exact j1 _ _ hv
  have hle : ∀ e1 ∈ c.2.1.2, ∀ x : Int32, as[e1.1]? = some (.int x) → nk_get (nk_ent as m.2.2.1) e1.1 = some (.int x) := by
    intro e1 he1 x hx
    obtain ⟨z1, z2⟩ := na_two (List.all_eq_true.mp hnol e1 he1)
    exact na_nol_ok c.1 as m.2.2.1 e1.1 _ has z1 (Nat.le_of_ble_eq_true z2) hx
  have hn : (na_e0 cf c m.2.2.1).2.1 = r0.length := j2
  have hE0 : na_gE r0 (na_e0 cf c m.2.2.1).2.2.1 := j3
  have hZ0 : na_gZ r0 (na_e0 cf c m.2.2.1).2.2.2.1 := j4
  have hfin : ∀ mu : Nat, (∀ x ∈ hd, ∀ k ∈ x.2.2, k.2.1 < mu → na_Sm cf s.1 r0 Q (na_cs cf (na_e0 cf c m.2.2.1) mi x.1 k.2)) → ∀ st : na_St, na_fin cf c mi m.1 m.2.1 (na_e0 cf c m.2.2.1).2.1 hd mu st = some true → na_Sm cf s.1 r0 Q st := by
    intro mu hcu st hst
    obtain ⟨fr, ms, pc, L, S, D⟩ := st
    cases fr with
    | cons f0 fr => cases hst
    | nil =>
      have ht : (match Nat.beq ms mi with
        | false => some false
        | true => (match nk_lk hd pc with
          | some h => some (match na_key D.2.1 L h.1 0 with
            | some k => (match nk_lk h.2 k with
              | some cu => Nat.ble (cu.1 + 1) mu && na_fit cf (na_e0 cf c m.2.2.1).2.1 cu L S D
              | none => false)
            | none => false)
          | none => (match m.2.1 pc with
            | some row => (match na_kind row.1 with
              | 4 => some (match na_rv m.1 row.1 S D with
                | some ov => na_post cf c (na_e0 cf c m.2.2.1).2.1 ov D
                | none => false)
              | _ => none)
            | none => some false))) = some true := hst
      clear hst
      cases hbm : Nat.beq ms mi with
      | false => simp only [hbm] at ht; cases ht
      | true =>
        simp only [hbm] at ht
        have hbm := Nat.eq_of_beq_eq_true hbm
        subst hbm
        split at ht
        · rename_i x hx
          have hst := Option.some.inj ht
          cases hkey : na_key D.2.1 L x.1 0 with
          | none => simp only [hkey] at hst; cases hst
          | some key =>
            simp only [hkey] at hst
            cases hcu' : nk_lk x.2 key with
            | none => simp only [hcu'] at hst; cases hst
            | some cu =>
              simp only [hcu'] at hst
              obtain ⟨hlt, hfit⟩ := na_two hst
              exact na_fit_ok hMo hn hE0 hZ0 hfit (hcu (pc, x) (nk_lk_mem _ _ _ hx) (key, cu) (nk_lk_mem _ _ _ hcu') (Nat.le_of_ble_eq_true hlt))
        · cases hrow : m.2.1 pc with
          | none => simp only [hrow] at ht; cases ht
          | some row =>
            simp only [hrow] at ht
            split at ht
            · have hst := Option.some.inj ht
              cases hov : na_rv m.1 row.1 S D with
              | none => simp only [hov] at hst; cases hst
              | some ov =>
                simp only [hov] at hst
                intro r frc M T s' m' h0 hF hD hL hS hm'
                have hm' : nk_lk cf.2.1 ms = some m' := hm'
                rw [hm] at hm'
                cases hm'
                have hfr : frc = [] := by
                  match frc, hF with
                  | [], _ => rfl
                subst hfr
                refine nk_s ?_
                unfold nk_at
                show (match m.2.1 pc with
                  | some (i, _, nx, tg, lit) => nk_sem m.1 i nx tg lit M T (nx_enc s' 0 cf.1.1) 0 0 (nk_wp m.1 m.2.1 (na_Q Q [])) (na_Q Q [])
                  | none => False)
                rw [hrow]
                have hD : na_gD cf.1 s.1 r D s' := hD
                refine na_rv_ok hov hD.2.1 hS (fun v hv => hq v s' ?_)
                obtain ⟨hst, p4⟩ := na_two hst
                obtain ⟨hst, p3⟩ := na_two hst
                obtain ⟨p1, p2⟩ := na_two hst
                rw [hn] at p1
                have hpm := na_mt_ok hD.2.1 hD.2.2.1 h0 _ _ _ hD.2.2.2.2.1 p1
                refine ⟨hD.2.2.2.2.2.2.1, fun i k hi => ?_, fun q hq' => ?_, ?_, ?_⟩
                · have h1 := na_f1_ok _ _ 0 hpm i k hi
                  rw [Nat.zero_add] at h1
                  cases hl : nk_lk c.2.2.2.1 i with
                  | none =>
                    simp only [hl] at h1
                    rw [hf i k hi] at h1
                    exact (Int32.toInt_inj.mp (Option.some.inj h1)).symm
                  | some b =>
                    simp only [hl] at h1
                    exact h1
                · refine hD.2.2.2.2.2.1 q (fun hq2 => hq' ?_)
                  obtain ⟨t, ht, hb⟩ := List.any_eq_true.mp (List.all_eq_true.mp p2 q hq2)
                  have := Nat.eq_of_beq_eq_true hb
                  subst this
                  exact ht
                · clear p4
                  obtain ⟨c1, c2, c3, c4, c5, c6, c7, c8⟩ := c
                  match c6, p3 with
                  | 0, p3 =>
                    match ov, hv, p3 with
                    | none, hv, _ => exact hv
                  | 1, p3 =>
                    match ov, hv, p3 with
                    | some v0, hv, p3 =>
                      obtain ⟨w, rfl, hw⟩ := hv
                      cases hb : na_iv D.2.1 v0 with
                      | none => simp only [hb] at p3; cases p3
                      | some b =>
                        simp only [hb] at p3
                        obtain ⟨q1, q2⟩ := na_two p3
                        have q1 := na_ble_t q1
                        have q2 := na_ble_t q2
                        obtain ⟨x, rfl, hx⟩ := na_gv_i hw hb
                        have := na_iv_ok hD.2.1 hx hb
                        exact ⟨x, rfl, Int.le_trans q1 this.1, Int.le_trans this.2 q2⟩
                  | n + 2, p3 =>
                    match ov, hv, p3 with
                    | some v0, hv, p3 =>
                      obtain ⟨w, rfl, hw⟩ := hv
                      obtain ⟨b, hb⟩ := na_bn_ok p3
                      obtain ⟨y, rfl, hy⟩ := na_gv_l hw hb
                      exact ⟨y, rfl⟩
                · clear p3
                  obtain ⟨c1, c2, c3, c4, c5, c6, c7, c8, c9⟩ := c
                  match c8, p4 with
                  | 0, _ => exact trivial
                  | 1, p4 =>
                    obtain ⟨z1, z2⟩ := na_two p4
                    have z1 := Nat.le_of_ble_eq_true z1
                    have z2 : D.2.2.2.2.2.2 ≤ c9 + 1 := Nat.le_of_ble_eq_true z2
                    exact hMo (D.2.2.2.2.2.2 - 1) c9 s' (by omega) (hD.2.2.2.2.2.2.2 _ (by omega))
            · cases ht
  have hall : ∀ n : Nat, ∀ x ∈ hd, ∀ k ∈ x.2.2, k.2.1 < n → na_Sm cf s.1 r0 Q (na_cs cf (na_e0 cf c m.2.2.1) mi x.1 k.2) := by
    intro n
    induction n with
    | zero => intro x _ k _ hk; exact absurd hk (Nat.not_lt_zero _)
    | succ n ih =>
      intro x hx k hk hlt
      have h1 := List.all_eq_true.mp (List.all_eq_true.mp hcuts x hx) k hk
      split at h1
      · rename_i l hl
        exact na_step_ok hKe hR hN hPk hl (fun st' hst => na_go_ok hKe hR hN hPk (hfin k.2.1 (fun x' hx' k' hk' hlt' => ih x' hx' k' hk' (by omega))) fu st' (List.all_eq_true.mp h1 st' hst))
      · cases h1
  have hs := na_go_ok hKe hR hN hPk (hfin mu (fun x hx k hk _ => hall (k.2.1 + 1) x hx k hk (Nat.lt_succ_self _))) fu _ hent
  exact hs r0 [] (nk_ent as m.2.2.1) [] s m na_ex.rf trivial ⟨j2, j3, j4, fun k hk => (by
    obtain ⟨e1, he1, hk⟩ := List.mem_filterMap.mp (show k ∈ na_k0 c.2.1.2 _ _ from hk)
    split at hk
    · rename_i v f hv hf
      cases hk
      obtain ⟨w2, hw2, hgf⟩ := na_get_ok k5 hf
      obtain ⟨kf, hkf, rfl⟩ := nx_fv_inv hw2
      obtain ⟨x, hx, hxl⟩ := hlt e1 he1 kf hkf
      obtain ⟨w, hw, hgv⟩ := na_get_ok j5 hv
      have hw' := hle e1 he1 x hx
      rw [hw'] at hw
      cases hw
      exact ⟨x, _, hgv, na_gi.ex j1 hgf, Or.inr (Or.inr (Or.inl ⟨rfl, hxl⟩))⟩
    · cases hk), k5.ex j1, fun _ _ => rfl, hInv, fun l hl => (by
    have hl : c.2.2.1 = l + 1 := hl
    have := hpx (by omega)
    exact hMo lv l s (by omega) this.2)⟩ j5 trivial hm
