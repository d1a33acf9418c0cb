/-! ===== the checker: cells ===== -/
/-- inline, contracts, what is told of a making -/
abbrev na_Rs : Type := Nat ⊕ List na_C ⊕ Nat
/-- tables, code, locals, its calls -/
abbrev na_Md : Type := nk_T × (Nat → Option nk_I) × Nat × List (Nat × na_Rs)
/-- context, methods, long arrays whose writing keeps the level -/
abbrev na_Cf : Type := na_G × List (Nat × na_Md) × List Nat
noncomputable def na_r1 (S : List na_V) : Option (Nat × List na_V) := match S with
  | v :: S => (na_iR v).map (fun q => (q, S))
  | [] => none
noncomputable def na_ii (S : List na_V) (D : na_D) : Option ((Int × Int) × na_V × List na_V) := match S with
  | v :: S => (na_iv D.2.1 v).map (fun b => (b, v, S))
  | [] => none
noncomputable def na_ll (S : List na_V) : Option (Nat × List na_V) := match S with
  | v :: S => (na_iL v).map (fun q => (q, S))
  | [] => none
theorem na_r1_ok {r : List Int} {S : List na_V} {T : List Value} {p : Nat × List na_V} (h : na_r1 S = some p) (hS : na_gS r S T) : ∃ T' : List Value, T = .ref p.1 :: T' ∧ na_gS r p.2 T' := by
  match S, h, hS with
  | v :: S', h, hS =>
    obtain ⟨q, h1, rfl⟩ := na_mp h
    obtain ⟨w, T', rfl, h2, h3⟩ := na_gS_c hS
    exact ⟨T', by rw [na_gv_r h2 h1], h3⟩
theorem na_ii_ok {r : List Int} {S : List na_V} {T : List Value} {D : na_D} {p : (Int × Int) × na_V × List na_V} (hE : na_gE r D.2.1) (h : na_ii S D = some p) (hS : na_gS r S T) : ∃ (x : Int32) (T' : List Value), T = .int x :: T' ∧ na_gi r p.2.1 x ∧ p.1.1 ≤ x.toInt ∧ x.toInt ≤ p.1.2 ∧ na_gS r p.2.2 T' := by
  match S, h, hS with
  | v :: S', h, hS =>
    obtain ⟨b, h1, rfl⟩ := na_mp h
    obtain ⟨w, T', rfl, h2, h3⟩ := na_gS_c hS
    obtain ⟨x, rfl, hx⟩ := na_gv_i h2 h1
    have := na_iv_ok hE hx h1
    exact ⟨x, T', rfl, hx, this.1, this.2, h3⟩
theorem na_ll_ok {r : List Int} {S : List na_V} {T : List Value} {p : Nat × List na_V} (h : na_ll S = some p) (hS : na_gS r S T) : ∃ (y : Int64) (T' : List Value), T = .long y :: T' ∧ na_gS r p.2 T' := by
  match S, h, hS with
  | v :: S', h, hS =>
    obtain ⟨q, h1, rfl⟩ := na_mp h
    obtain ⟨w, T', rfl, h2, h3⟩ := na_gS_c hS
    obtain ⟨y, rfl, hy⟩ := na_gv_l h2 h1
    exact ⟨y, T', rfl, h3⟩
noncomputable def na_ob (sh : List nx_C) (q ci : Nat) : Option (List Nat) := match nk_lg sh q with
  | some (.inl c) => bif Nat.beq c.1 ci then some c.2 else none
  | _ => none
theorem na_ob_ok {sh : List nx_C} {q ci : Nat} {sl : List Nat} (h : na_ob sh q ci = some sl) : nk_lg sh q = some (.inl (ci, sl)) := by
  unfold na_ob at h
  split at h
  · rename_i c hc
    cases hb : Nat.beq c.1 ci with
    | false => rw [hb] at h; cases h
    | true =>
      rw [hb] at h
      have := Nat.eq_of_beq_eq_true hb
      have h : some c.2 = some sl := h
      rw [hc, ← this, ← Option.some.inj h]
  · cases h
noncomputable def na_aq (sh : List nx_C) (t q : Nat) : Option (Nat × List Nat) := match nk_lg sh q with
  | some (.inr c) => bif Nat.beq c.1 t then some c.2 else none
  | _ => none
theorem na_aq_ok {sh : List nx_C} {t q : Nat} {n : Nat × List Nat} (h : na_aq sh t q = some n) : nk_lg sh q = some (.inr (t, n.1, n.2)) := by
  unfold na_aq at h
  split at h
  · rename_i c hc
    cases hb : Nat.beq c.1 t with
    | false => rw [hb] at h; cases h
    | true =>
      rw [hb] at h
      have := Nat.eq_of_beq_eq_true hb
      have h : some c.2 = some n := h
      rw [hc, ← this, ← Option.some.inj h]
  · cases h
noncomputable def na_ix : List (Nat × Nat) → Nat → Nat → Option Nat
  | [], _, _ => none
  | k :: l, q, p => bif Nat.beq k.1 q && Nat.beq k.2 p then some 0 else (na_ix l q p).map (fun i => i + 1)
theorem na_ix_ok : ∀ (l : List (Nat × Nat)) (q p i : Nat), na_ix l q p = some i → l[i]? = some (q, p)
  | [], _, _, _, h => by cases h
  | k :: l, q, p, i, h => by
    unfold na_ix at h
    cases hb : Nat.beq k.1 q && Nat.beq k.2 p with
    | true =>
      rw [hb] at h
      obtain ⟨b1, b2⟩ := Bool.and_eq_true_iff.mp hb
      have e1 := Nat.eq_of_beq_eq_true b1
      have e2 := Nat.eq_of_beq_eq_true b2
      cases h
      show some k = _
      rw [← e1, ← e2]
    | false =>
      rw [hb] at h
      obtain ⟨j, h1, rfl⟩ := na_mp h
      rw [List.getElem?_cons_succ]
      exact na_ix_ok l q p j h1
theorem na_gL_set {r : List Int} {a : Option na_V} {o : Option Value} (ha : na_ok1 r a o) : ∀ {L : na_L} {M : nk_Ls} {i : Nat} {L' : na_L}, na_gL r L M → na_sl L i a = some L' → na_gL r L' (M.set i o)
  | _ :: _, _ :: _, 0, L', h, hs => by
    cases hs
    exact ⟨ha, h.2⟩
  | b :: l, c :: m, i + 1, L', h, hs => by
    obtain ⟨l', h1, rfl⟩ := na_mp (show (na_sl l i a).map (fun l' => b :: l') = some L' from hs)
    exact ⟨h.1, na_gL_set ha h.2 h1⟩
  | [], _, _, _, _, hs => by cases hs
  | _ :: _, [], _, _, h, _ => h.elim
theorem nx_fv_at {g : na_G} {s : nx_S} {i : Nat} {k : Nat × Nat} (h : g.2.1[i]? = some k) : nk_get (nx_fv g s) i = some (.int (s.2.2.1 k.1 k.2)) := by
  rw [nk_get_eq]
  unfold nx_fv
  rw [List.getElem?_map, h]
  rfl
theorem nx_fv_set {g : na_G} (hN : g.2.1.Nodup) {s : nx_S} {i : Nat} {k : Nat × Nat} (h : g.2.1[i]? = some k) (x : Int32) : (nx_fv g s).set i (some (.int x)) = nx_fv g (nx_uf s k.1 k.2 x) := by
  refine List.ext_getElem? (fun j => ?_)
  have hi : i < g.2.1.length := (List.getElem?_eq_some_iff.mp h).1
  unfold nx_fv
  rw [List.getElem?_set, List.getElem?_map, List.getElem?_map]
  by_cases hj : i = j
  · subst hj
    rw [if_pos rfl, if_pos (by rw [List.length_map]; exact hi), h]
    show _ = some (some (Value.int (if k.1 = k.1 ∧ k.2 = k.2 then x else s.2.2.1 k.1 k.2)))
    rw [if_pos ⟨rfl, rfl⟩]
  · rw [if_neg hj]
    cases hk : g.2.1[j]? with
    | none => rfl
    | some k' =>
      have hne : ¬ (k'.1 = k.1 ∧ k'.2 = k.2) := fun e => by
        have : k' = k := Prod.ext e.1 e.2
        subst this
        exact hj ((List.getElem?_inj hi hN).mp (by rw [h, hk]))
      show some (some (Value.int (s.2.2.1 k'.1 k'.2))) = some (some (Value.int (if k'.1 = k.1 ∧ k'.2 = k.2 then x else s.2.2.1 k'.1 k'.2)))
      rw [if_neg hne]
noncomputable def na_nm (b : Int × Int) (v : na_V) : na_V := bif na_bq b.1 b.2 then .inl b.1 else v
theorem na_nm_ok {r : List Int} {b : Int × Int} {v : na_V} {x : Int32} (hv : na_gi r v x) (h1 : b.1 ≤ x.toInt) (h2 : x.toInt ≤ b.2) : na_gi r (na_nm b v) x := by
  unfold na_nm
  cases hb : na_bq b.1 b.2 with
  | true =>
    have := na_bq_t hb
    show x.toInt = b.1
    omega
  | false => exact hv
noncomputable def na_kd (l : na_K) (q : Nat) : na_K := l.filter (fun k => !(Nat.beq k.1 q))
noncomputable def na_ao (nx : Nat) (L : na_L) (S : List na_V) (D : na_D) (v : na_V) : List Nat → Int → List na_O
  | [], _ => []
  | h :: l, a => na_oy (na_rf D.2.1 D.2.2.1 v a a) nx L (.inr (.inr (.inr (.inl h))) :: S) D (na_ao nx L S D v l (a + 1))
noncomputable def na_me (cf : na_Cf) (X : nk_T) (i : Instr) (nx : Nat) (L : na_L) (S : List na_V) (D : na_D) : Option (List na_O) := match i with
  | .getfield x => (nk_lk X.1 x).bind (fun f => (na_r1 S).bind (fun p => (na_ob cf.1.1 p.1 f.1).bind (fun sl => (nk_lg sl f.2.1).bind (fun k => match k with
    | 0 => (na_ix cf.1.2.1 p.1 f.2.1).bind (fun i => (na_get D.2.2.2.2.1 i).bind (fun v => some [(nx, L, v :: p.2, D)]))
    | 1 => na_pL nx L p.2 D na_lful false
    | r + 2 => some [(nx, L, .inr (.inr (.inr (.inl r))) :: p.2, D)]))))
  | .putfield x => (nk_lk X.1 x).bind (fun f => (match S with
    | v :: S => (na_r1 S).bind (fun p => (na_ob cf.1.1 p.1 f.1).bind (fun sl => (nk_lg sl f.2.1).bind (fun k => match k with
      | 0 => (na_iv D.2.1 v).bind (fun b => (na_ix cf.1.2.1 p.1 f.2.1).bind (fun i => (nk_lg cf.1.2.2.1 i).bind (fun e => na_gd (na_ble e.1 b.1 && na_ble b.2 e.2 && (match f.2.2 with
          | 0 => true
          | 1 => na_ble 0 b.1 && na_ble b.2 1
          | _ => false) && !(cf.1.2.2.2.2.2.2.2.2.any (fun k => Nat.beq k.1 p.1 && Nat.beq k.2 f.2.1))) ((na_sl D.2.2.2.2.1 i (some v)).bind (fun F => some [(nx, L, p.2, (D.1, D.2.1, D.2.2.1, D.2.2.2.1, F, D.2.2.2.2.2.1, 0))])))))
      | 1 => (na_iL v).bind (fun _ => na_gd (Nat.beq f.2.2 2) (some [(nx, L, p.2, (D.1, D.2.1, D.2.2.1, D.2.2.2.1, D.2.2.2.2.1, D.2.2.2.2.2.1, 0))]))
      | _ => none)))
    | [] => none))
  | .iaload => (na_ii S D).bind (fun a => (na_r1 a.2.2).bind (fun p => match na_aq cf.1.1 0 p.1 with
    | some n => na_gd (na_ble 0 a.1.1 && na_ble (a.1.2 + 1) n.1 && Nat.ble p.1 999) (match na_kf D.2.2.2.1 p.1 (na_nm a.1 a.2.1) with
      | some v => some [(nx, L, v :: p.2, D)]
      | none => some [(nx, L, (na_nw D (cf.1.2.2.2.1 p.1).1 (cf.1.2.2.2.1 p.1).2).1 :: p.2, na_ak (na_nw D (cf.1.2.2.2.1 p.1).1 (cf.1.2.2.2.1 p.1).2).2 (p.1, na_nm a.1 a.2.1, (na_nw D (cf.1.2.2.2.1 p.1).1 (cf.1.2.2.2.1 p.1).2).1))])
    | none => (match nk_lg cf.1.1 p.1 with
      | none => (nk_lk nk_sta p.1).bind (fun z => na_gd (na_ble 0 a.1.1 && na_ble (a.1.2 + 1) z.1) (na_pI nx L p.2 D na_full))
      | some _ => none)))
  | .laload => (na_ii S D).bind (fun a => (na_r1 a.2.2).bind (fun p => (na_aq cf.1.1 1 p.1).bind (fun n => na_gd (na_ble 0 a.1.1 && na_ble (a.1.2 + 1) n.1) (na_pL nx L p.2 D na_lful false))))
  | .aaload => (na_ii S D).bind (fun a => (na_r1 a.2.2).bind (fun p => match nk_lg cf.1.1 p.1 with
    | some (.inr (t + 2, n, l)) => (nk_lk nk_cm (t + 2)).bind (fun _ => na_gd (na_ble 0 a.1.1 && na_ble (a.1.2 + 1) n && Nat.beq n l.length) (some (na_ao nx L p.2 D a.2.1 l 0)))
    | _ => none))
  | .iastore => (na_ii S D).bind (fun w => (na_ii w.2.2 D).bind (fun a => (na_r1 a.2.2).bind (fun p => (na_aq cf.1.1 0 p.1).bind (fun n => na_gd (na_ble 0 a.1.1 && na_ble (a.1.2 + 1) n.1 && (na_ble (cf.1.2.2.2.1 p.1).1 w.1.1 && na_ble w.1.2 (cf.1.2.2.2.1 p.1).2) && !(Nat.beq p.1 cf.1.2.2.2.2.1) && !(cf.1.2.2.2.2.2.2.2.1.any (Nat.beq p.1))) (some [(nx, L, p.2, (D.1, D.2.1, D.2.2.1, na_kd D.2.2.2.1 p.1, D.2.2.2.2.1, p.1 :: D.2.2.2.2.2.1, 0))])))))
  | .lastore => (na_ll S).bind (fun w => (na_ii w.2 D).bind (fun a => (na_r1 a.2.2).bind (fun p => (na_aq cf.1.1 1 p.1).bind (fun n => na_gd (na_ble 0 a.1.1 && na_ble (a.1.2 + 1) n.1) (some [(nx, L, p.2, (D.1, D.2.1, D.2.2.1, D.2.2.2.1, D.2.2.2.2.1, D.2.2.2.2.2.1, bif cf.2.2.any (Nat.beq p.1) then D.2.2.2.2.2.2 else 0))])))))
  | .arraylength => (na_r1 S).bind (fun p => match nk_lg cf.1.1 p.1 with
    | some (.inr c) => na_gd (Nat.ble c.1 3 && Nat.ble c.2.1 100000) (some [(nx, L, .inl (Int.ofNat c.2.1) :: p.2, D)])
    | _ => none)
  | .getstatic x => (nk_lk X.2.2.2.2.2.2.1 x).bind (fun q => some [(nx, L, .inr (.inr (.inr (.inl q))) :: S, D)])
  | .ldc x => (nk_lk X.2.2.1 x).bind (fun v => some [(nx, L, .inl v.toInt :: S, D)])
  | .ldc_w x => (nk_lk X.2.2.1 x).bind (fun v => some [(nx, L, .inl v.toInt :: S, D)])
  | .ldc2_w x => (nk_lk X.2.2.2.1 x).bind (fun v => na_pL nx L S D (v.toInt, v.toInt) false)
  | _ => none
/-! ### they are sound -/
noncomputable def na_Wm (g : na_G) (I0 : Nat → Nat → Int32) (r : List Int) (out : List na_O) (K : nk_K) : Prop := ∀ o ∈ out, ∀ (r' : List Int) (L' : nk_Ls) (S' : List Value) (s' : nx_S), na_ex r r' → na_gD g I0 r' o.2.2.2 s' → na_gL r' o.2.1 L' → na_gS r' o.2.2.1 S' → K o.1 L' S' (nx_enc s' 0 g.1) 0 0
theorem na_Wm.pure {g : na_G} {I0 : Nat → Nat → Int32} {r : List Int} {out : List na_O} {K : nk_K} (h : na_Wm g I0 r out K) (s : nx_S) : na_W g I0 r s out (fun pc L S => K pc L S (nx_enc s 0 g.1) 0 0) := fun o ho r' L' S' h1 h2 h3 h4 => h o ho r' L' S' s h1 h2 h3 h4
theorem na_in {x : Int32} {b : Int × Int} {n : Nat} (hx : b.1 ≤ x.toInt ∧ x.toInt ≤ b.2) (h1 : 0 ≤ b.1) (h2 : b.2 + 1 ≤ (n : Int)) : vp_in x n := by
  intro q
  have e : x.toInt.toNat = x.toNatClampNeg := Int32.toNat_toInt x
  rcases q with q | q
  · have := Int32.lt_iff_toInt_lt.mp q
    have h0 : (0 : Int32).toInt = 0 := rfl
    omega
  · omega
theorem na_two {p q : Bool} (h : (p && q) = true) : p = true ∧ q = true := Bool.and_eq_true_iff.mp h
theorem nx_ge {s : nx_S} {sh : List nx_C} {q : Nat} {c : nx_C} (h : nk_lg sh q = some c) : nk_lg (nx_enc s 0 sh) q = some (nx_cell s q c) := by
  rw [nx_lg, h, Option.map_some, Nat.zero_add]
/-- an int array is written -/
theorem nx_Inv.ui {g : na_G} {s : nx_S} (h : nx_Inv g s) {q i : Nat} {v : Int32} (h1 : (g.2.2.2.1 q).1 ≤ v.toInt) (h2 : v.toInt ≤ (g.2.2.2.1 q).2) (hq : q ≠ g.2.2.2.2.1) (hKe : nx_Ke g) (hpa : q ∉ g.2.2.2.2.2.2.2.1) : nx_Inv g (nx_ui s q (upd (s.1 q) i v)) := by
  refine ⟨h.1, fun p n l hp j hj => ?_, ?_, hKe.1 s q _ hpa h.2.2.2⟩
  · show (g.2.2.2.1 p).1 ≤ ((if p = q then upd (s.1 q) i v else s.1 p) j).toInt ∧ ((if p = q then upd (s.1 q) i v else s.1 p) j).toInt ≤ (g.2.2.2.1 p).2
    by_cases e : p = q
    · subst e
      rw [if_pos rfl]
      unfold upd
      by_cases ej : j = i
      · rw [if_pos ej]
        exact ⟨h1, h2⟩
      · rw [if_neg ej]
        exact h.2.1 p n l hp j hj
    · rw [if_neg e]
      exact h.2.1 p n l hp j hj
  · show nx_PM (if g.2.2.2.2.1 = q then upd (s.1 q) i v else s.1 g.2.2.2.2.1)
    rw [if_neg (fun e => hq e.symm)]
    exact h.2.2.1
theorem nx_Inv.uf {g : na_G} {s : nx_S} (h : nx_Inv g s) (hN : g.2.1.Nodup) {i : Nat} {k : Nat × Nat} {e : Int × Int} (hk : g.2.1[i]? = some k) (he : g.2.2.1[i]? = some e) {x : Int32} (h1 : e.1 ≤ x.toInt) (h2 : x.toInt ≤ e.2) (hKe : nx_Ke g) (hpf : k ∉ g.2.2.2.2.2.2.2.2) : nx_Inv g (nx_uf s k.1 k.2 x) := by
  refine ⟨fun j k' b hj hb => ?_, h.2.1, h.2.2.1, hKe.2.1 s k.1 k.2 x hpf h.2.2.2⟩
  show b.1 ≤ (if k'.1 = k.1 ∧ k'.2 = k.2 then x else s.2.2.1 k'.1 k'.2).toInt ∧ (if k'.1 = k.1 ∧ k'.2 = k.2 then x else s.2.2.1 k'.1 k'.2).toInt ≤ b.2
  by_cases e1 : k'.1 = k.1 ∧ k'.2 = k.2
  · rw [if_pos e1]
    have ek : k' = k := Prod.ext e1.1 e1.2
    subst ek
    have hi : i < g.2.1.length := (List.getElem?_eq_some_iff.mp hk).1
    have : i = j := (List.getElem?_inj hi hN).mp (by rw [hk, hj])
    subst this
    rw [he] at hb
    cases hb
    exact ⟨h1, h2⟩
  · rw [if_neg e1]
    exact h.1 j k' b hj hb
theorem na_ao_ok {g : na_G} {I0 : Nat → Nat → Int32} {r : List Int} {s : nx_S} {L : na_L} {M : nk_Ls} {S : List na_V} {T : List Value} {D : na_D} {nx : Nat} {K : nk_P} {v : na_V} {x : Int32} (hx : na_gi r v x) (hD : na_gD g I0 r D s) (hL : na_gL r L M) (hS : na_gS r S T) : ∀ (l : List Nat) (a : Int), na_W g I0 r s (na_ao nx L S D v l a) K → ∀ (j h : Nat), nk_lg l j = some h → x.toInt = a + j → K nx M (.ref h :: T)
  | [], _, _, j, h, hj, _ => by cases hj
  | h0 :: l, a, hW, j, h, hj, he => by
    obtain ⟨h1, h2⟩ := na_oy_ok (S := .inr (.inr (.inr (.inl h0))) :: S) (T := .ref h0 :: T) hD hL ⟨rfl, hS⟩ hW
    match j, hj with
    | 0, hj =>
      cases hj
      exact h1 (na_rf_ok hD.2.1 hD.2.2.1 hx (by omega) (by omega))
    | j + 1, hj => exact na_ao_ok hx hD hL hS l (a + 1) h2 j h hj (by omega)
section NaMe
variable {cf : na_Cf} {I0 : Nat → Nat → Int32} {r : List Int} {D : na_D} {s : nx_S} {L : na_L} {M : nk_Ls} {S : List na_V} {T : List Value} {nx : Nat} {K : nk_K} {Q : nk_Q} {out : List na_O} {X : nk_T}
set_option maxHeartbeats 4000000 in
theorem na_me_ok (hKe : nx_Ke cf.1) (hN : cf.1.2.1.Nodup) (hPk : ∀ q ∈ cf.2.2, ∀ (l : Nat) (s : nx_S) (f : Nat → Int64), cf.1.2.2.2.2.2.1 l s → cf.1.2.2.2.2.2.1 l (nx_uj s q f)) {i : Instr} {tg : List Nat} {lit : Int32} (h : na_me cf X i nx L S D = some out) (hD : na_gD cf.1 I0 r D s) (hL : na_gL r L M) (hS : na_gS r S T) (hW : na_Wm cf.1 I0 r out K) : nk_sem X i nx tg lit M T (nx_enc s 0 cf.1.1) 0 0 K Q := by
  have hW1 := hW.pure s
  cases i
  case getfield x =>
    obtain ⟨f, hf, h⟩ := na_bi h
    obtain ⟨p, hp, h⟩ := na_bi h
    obtain ⟨sl, hsl, h⟩ := na_bi h
    obtain ⟨k, hk, h⟩ := na_bi h
    obtain ⟨T', rfl, hS'⟩ := na_r1_ok hp hS
    have hq := na_ob_ok hsl
    show nk_sm (nk_lk X.1 x) _
    rw [hf]
    show nk_obj (nx_enc s 0 cf.1.1) p.1 f.1 _
    unfold nk_obj
    rw [nx_ge hq]
    show nk_if (Nat.beq f.1 f.1) (nk_sm (nk_lg (nx_fs s.2.2 p.1 0 sl) f.2.1) _)
    rw [show Nat.beq f.1 f.1 = true from Nat.beq_refl f.1, nx_fs_lg, hk, Option.map_some, Nat.zero_add]
    match k, h with
    | 0, h =>
      obtain ⟨i, hi, h⟩ := na_bi h
      obtain ⟨v, hv, h⟩ := na_bi h
      have hkey := na_ix_ok _ _ _ _ hi
      obtain ⟨w, hw, hgv⟩ := na_get_ok hD.2.2.2.2.1 hv
      rw [nx_fv_at hkey] at hw
      cases hw
      exact na_o1_ok (S := v :: p.2) (T := .int (s.2.2.1 p.1 f.2.1) :: T') hD hL ⟨hgv, hS'⟩ h hW1
    | 1, h => exact na_pL_ok hD hL hS' (y := s.2.2.2 p.1 f.2.1) (na_i64 _) (fun q => by cases q) h hW1
    | k + 2, h => exact na_o1_ok (S := .inr (.inr (.inr (.inl k))) :: p.2) (T := .ref k :: T') hD hL ⟨rfl, hS'⟩ h hW1
  case putfield x =>
    obtain ⟨f, hf, h⟩ := na_bi h
    match S, h, hS with
    | v :: S', h, hS =>
      obtain ⟨p, hp, h⟩ := na_bi h
      obtain ⟨sl, hsl, h⟩ := na_bi h
      obtain ⟨k, hk, h⟩ := na_bi h
      obtain ⟨w, T1, rfl, hgv, hS1⟩ := na_gS_c hS
      obtain ⟨T', rfl, hS'⟩ := na_r1_ok hp hS1
      have hq := na_ob_ok hsl
      show nk_sm (nk_lk X.1 x) _
      rw [hf]
      show nk_obj (nx_enc s 0 cf.1.1) p.1 f.1 _
      unfold nk_obj
      rw [nx_ge hq]
      show nk_if (Nat.beq f.1 f.1) (nk_fit _ f.2.2 w (nk_ins (nx_fs s.2.2 p.1 0 sl) f.2.1 w _))
      rw [show Nat.beq f.1 f.1 = true from Nat.beq_refl f.1]
      have hlen : f.2.1 < (nx_fs s.2.2 p.1 0 sl).length := by
        have h1 : nk_lg (nx_fs s.2.2 p.1 0 sl) f.2.1 = some (nx_sv s.2.2 p.1 (0 + f.2.1) k) := by rw [nx_fs_lg, hk]; rfl
        rw [nk_lg_eq] at h1
        exact (List.getElem?_eq_some_iff.mp h1).1
      match k, hk, h with
      | 0, hk, h =>
        obtain ⟨b, hb, h⟩ := na_bi h
        obtain ⟨i, hi, h⟩ := na_bi h
        obtain ⟨e, he, h⟩ := na_bi h
        obtain ⟨hc, h⟩ := na_gd_ok h
        obtain ⟨F, hF, h⟩ := na_bi h
        obtain ⟨hc, hpf⟩ := na_two hc
        obtain ⟨hc, hkd⟩ := na_two hc
        have hpf : (p.1, f.2.1) ∉ cf.1.2.2.2.2.2.2.2.2 := fun e => by
          have : cf.1.2.2.2.2.2.2.2.2.any (fun k => Nat.beq k.1 p.1 && Nat.beq k.2 f.2.1) = true := List.any_eq_true.mpr ⟨_, e, by simp⟩
          rw [this] at hpf
          cases hpf
        obtain ⟨hc1, hc2⟩ := na_two hc
        have k1 := na_ble_t hc1
        have k2 := na_ble_t hc2
        obtain ⟨x, rfl, hx⟩ := na_gv_i hgv hb
        have hxb := na_iv_ok hD.2.1 hx hb
        have hkey := na_ix_ok _ _ _ _ hi
        rw [nk_lg_eq] at he
        cases h
        have fin : nk_ins (nx_fs s.2.2 p.1 0 sl) f.2.1 (.int x) (fun fs => K nx M T' ((nx_enc s 0 cf.1.1).set p.1 (.inr (f.1, fs))) 0 0) := by
          refine nk_ins_mk _ _ _ _ hlen ?_
          show K nx M T' ((nx_enc s 0 cf.1.1).set p.1 (.inr (f.1, (nx_fs s.2.2 p.1 0 sl).set f.2.1 (.int x)))) 0 0
          rw [nx_set_f x hq hk]
          refine hW _ (List.mem_singleton.mpr rfl) r M T' (nx_uf s p.1 f.2.1 x) na_ex.rf ⟨hD.1, hD.2.1, hD.2.2.1, hD.2.2.2.1, ?_, hD.2.2.2.2.2.1, hD.2.2.2.2.2.2.1.uf hN hkey he (by omega) (by omega) hKe hpf, fun _ q => (by cases q)⟩ hL hS'
          rw [← nx_fv_set hN hkey x]
          exact na_gL_set (a := some v) (o := some (.int x)) hx hD.2.2.2.2.1 hF
        obtain ⟨f1, f2, f3⟩ := f
        match f3, hkd with
        | 0, _ => exact fin
        | 1, hkd =>
          obtain ⟨b1, b2⟩ := na_two hkd
          have b1 := na_ble_t b1
          have b2 := na_ble_t b2
          refine ⟨?_, fin⟩
          have h01 : x.toInt = 0 ∨ x.toInt = 1 := by omega
          rcases h01 with h01 | h01
          · exact Or.inl (Int32.toInt_inj.mp (h01.trans rfl))
          · exact Or.inr (Int32.toInt_inj.mp (h01.trans rfl))
      | 1, hk, h =>
        obtain ⟨z, hz, h⟩ := na_bi h
        obtain ⟨hc, h⟩ := na_gd_ok h
        obtain ⟨y, rfl, hy⟩ := na_gv_l hgv hz
        have e2 := Nat.eq_of_beq_eq_true hc
        cases h
        rw [e2]
        show nk_ins (nx_fs s.2.2 p.1 0 sl) f.2.1 (.long y) (fun fs => K nx M T' ((nx_enc s 0 cf.1.1).set p.1 (.inr (f.1, fs))) 0 0)
        refine nk_ins_mk _ _ _ _ hlen ?_
        show K nx M T' ((nx_enc s 0 cf.1.1).set p.1 (.inr (f.1, (nx_fs s.2.2 p.1 0 sl).set f.2.1 (.long y)))) 0 0
        rw [nx_set_g y hq hk]
        exact hW _ (List.mem_singleton.mpr rfl) r M T' (nx_ug s p.1 f.2.1 y) na_ex.rf ⟨hD.1, hD.2.1, hD.2.2.1, hD.2.2.2.1, hD.2.2.2.2.1, hD.2.2.2.2.2.1, ⟨hD.2.2.2.2.2.2.1.1, hD.2.2.2.2.2.2.1.2.1, hD.2.2.2.2.2.2.1.2.2.1, hKe.2.2.2 s p.1 f.2.1 y hD.2.2.2.2.2.2.1.2.2.2⟩, fun _ q => (by cases q)⟩ hL hS'
  case iaload =>
    obtain ⟨a, ha, h⟩ := na_bi h
    obtain ⟨p, hp, h⟩ := na_bi h
    obtain ⟨x, T1, rfl, hx, hx1, hx2, hS1⟩ := na_ii_ok hD.2.1 ha hS
    obtain ⟨T', rfl, hS'⟩ := na_r1_ok hp hS1
    show nk_iar (nx_enc s 0 cf.1.1) p.1 _
    unfold nk_iar
    cases hn : na_aq cf.1.1 0 p.1 with
    | some n =>
      simp only [hn] at h
      obtain ⟨hc, h⟩ := na_gd_ok h
      obtain ⟨hc, hsm⟩ := na_two hc
      obtain ⟨hc1, hc2⟩ := na_two hc
      have hq := na_aq_ok hn
      rw [nx_ge hq]
      have hin := na_in (n := n.1) ⟨hx1, hx2⟩ (na_ble_t hc1) (na_ble_t hc2)
      refine ⟨hin, ?_⟩
      have hinv := hD.2.2.2.2.2.2.1.2.1 p.1 n.1 n.2 hq x.toNatClampNeg (Nat.lt_of_not_le (fun q => hin (Or.inr q)))
      cases hkf : na_kf D.2.2.2.1 p.1 (na_nm a.1 a.2.1) with
      | some v =>
        simp only [hkf] at h
        obtain ⟨u, hu, hve⟩ := na_kf_mem _ _ _ _ hkf
        obtain ⟨i, y, g1, g2, g3⟩ := hD.2.2.2.1 _ hu
        have : i = x := na_ve_ok hve g1 (na_nm_ok hx hx1 hx2)
        subst this
        have hsm := Nat.le_of_ble_eq_true hsm
        rcases g3 with ⟨-, g3⟩ | ⟨g3, -⟩ | ⟨g3, -⟩ | ⟨g3, -⟩
        · have g3 : s.1 p.1 i.toNatClampNeg = y := g3
          exact na_o1_ok (S := v :: p.2) (T := .int (s.1 p.1 i.toNatClampNeg) :: T') hD hL ⟨by rw [g3]; exact g2, hS'⟩ h hW1
        · have g3 : 1000 ≤ p.1 := g3
          omega
        · have g3 : p.1 = 3000 := g3
          omega
        · have g3 : p.1 = 3001 := g3
          omega
      | none =>
        simp only [hkf] at h
        cases h
        obtain ⟨r', k1, k2, k3⟩ := na_nw_ok hD hinv.1 hinv.2
        refine hW _ (List.mem_singleton.mpr rfl) r' M (.int (s.1 p.1 x.toNatClampNeg) :: T') s k1 ⟨k2.1, k2.2.1, k2.2.2.1, fun k hk => ?_, k2.2.2.2.2⟩ (hL.ex k1) ⟨k3, hS'.ex k1⟩
        rcases List.mem_cons.mp hk with rfl | hk
        · exact ⟨x, _, (na_nm_ok hx hx1 hx2).ex k1, k3, Or.inl ⟨Nat.lt_succ_of_le (Nat.le_of_ble_eq_true hsm), rfl⟩⟩
        · exact k2.2.2.2.1 k hk
    | none =>
      simp only [hn] at h
      cases hl : nk_lg cf.1.1 p.1 with
      | some c => simp only [hl] at h; cases h
      | none =>
        simp only [hl] at h
        obtain ⟨z, hz, h⟩ := na_bi h
        obtain ⟨hc, h⟩ := na_gd_ok h
        obtain ⟨hc1, hc2⟩ := na_two hc
        rw [nx_lg, hl]
        show nk_sm (nk_lk nk_sta p.1) _
        rw [hz]
        exact ⟨na_in (n := z.1) ⟨hx1, hx2⟩ (na_ble_t hc1) (na_ble_t hc2), na_pI_ok hD hL hS' (na_i32 _) h hW1⟩
  case laload =>
    obtain ⟨a, ha, h⟩ := na_bi h
    obtain ⟨p, hp, h⟩ := na_bi h
    obtain ⟨n, hn, h⟩ := na_bi h
    obtain ⟨hc, h⟩ := na_gd_ok h
    obtain ⟨hc1, hc2⟩ := na_two hc
    obtain ⟨x, T1, rfl, hx, hx1, hx2, hS1⟩ := na_ii_ok hD.2.1 ha hS
    obtain ⟨T', rfl, hS'⟩ := na_r1_ok hp hS1
    show nk_lar (nx_enc s 0 cf.1.1) p.1 _
    unfold nk_lar
    rw [nx_ge (na_aq_ok hn)]
    exact ⟨na_in (n := n.1) ⟨hx1, hx2⟩ (na_ble_t hc1) (na_ble_t hc2), na_pL_ok hD hL hS' (na_i64 _) (fun q => by cases q) h hW1⟩
  case aaload =>
    obtain ⟨a, ha, h⟩ := na_bi h
    obtain ⟨p, hp, h⟩ := na_bi h
    obtain ⟨x, T1, rfl, hx, hx1, hx2, hS1⟩ := na_ii_ok hD.2.1 ha hS
    obtain ⟨T', rfl, hS'⟩ := na_r1_ok hp hS1
    split at h
    · rename_i t n l hq
      obtain ⟨z, hz, h⟩ := na_bi h
      obtain ⟨hc, h⟩ := na_gd_ok h
      obtain ⟨hc, hc3⟩ := na_two hc
      obtain ⟨hc1, hc2⟩ := na_two hc
      show nk_rar (nx_enc s 0 cf.1.1) p.1 _
      unfold nk_rar
      rw [nx_ge hq]
      show nk_sm (nk_lk nk_cm (t + 2)) _
      rw [hz]
      have hin := na_in (n := n) ⟨hx1, hx2⟩ (na_ble_t hc1) (na_ble_t hc2)
      refine ⟨hin, ?_⟩
      have hlen := Nat.eq_of_beq_eq_true hc3
      have hlt : x.toNatClampNeg < l.length := by
        have : ¬ n ≤ x.toNatClampNeg := fun q => hin (Or.inr q)
        omega
      have hg : nk_lg l x.toNatClampNeg = some l[x.toNatClampNeg] := by
        rw [nk_lg_eq]
        exact List.getElem?_eq_getElem hlt
      show K nx M (va_rf (nk_lg l x.toNatClampNeg) :: T') (nx_enc s 0 cf.1.1) 0 0
      rw [hg]
      cases h
      have h0 : (0 : Int) ≤ x.toInt := by have := na_ble_t hc1; omega
      have e : x.toInt.toNat = x.toNatClampNeg := Int32.toNat_toInt x
      exact na_ao_ok hx hD hL hS' l 0 hW1 x.toNatClampNeg _ hg (by omega)
    · cases h
  case iastore =>
    obtain ⟨w, hw, h⟩ := na_bi h
    obtain ⟨a, ha, h⟩ := na_bi h
    obtain ⟨p, hp, h⟩ := na_bi h
    obtain ⟨n, hn, h⟩ := na_bi h
    obtain ⟨hc, h⟩ := na_gd_ok h
    obtain ⟨hc, hpa⟩ := na_two hc
    obtain ⟨hc, hqm⟩ := na_two hc
    have hpa : p.1 ∉ cf.1.2.2.2.2.2.2.2.1 := fun e => by
      have : cf.1.2.2.2.2.2.2.2.1.any (Nat.beq p.1) = true := List.any_eq_true.mpr ⟨_, e, Nat.beq_refl _⟩
      rw [this] at hpa
      cases hpa
    obtain ⟨hc, hcv⟩ := na_two hc
    obtain ⟨hc1, hc2⟩ := na_two hc
    obtain ⟨hv1, hv2⟩ := na_two hcv
    have hv1 := na_ble_t hv1
    have hv2 := na_ble_t hv2
    obtain ⟨v, T0, rfl, hv, hv3, hv4, hS0⟩ := na_ii_ok hD.2.1 hw hS
    obtain ⟨x, T1, rfl, hx, hx1, hx2, hS1⟩ := na_ii_ok hD.2.1 ha hS0
    obtain ⟨T', rfl, hS'⟩ := na_r1_ok hp hS1
    have hq := na_aq_ok hn
    have hne : p.1 ≠ cf.1.2.2.2.2.1 := fun e => by
      rw [e, Nat.beq_refl] at hqm
      cases hqm
    show nk_iaw (nx_enc s 0 cf.1.1) p.1 _
    unfold nk_iaw
    rw [nx_ge hq]
    refine ⟨na_in (n := n.1) ⟨hx1, hx2⟩ (na_ble_t hc1) (na_ble_t hc2), ?_⟩
    show K nx M T' ((nx_enc s 0 cf.1.1).set p.1 (.inl (0, n.1, .inl (upd (s.1 p.1) x.toNatClampNeg v)))) 0 0
    rw [nx_set_i _ hq]
    cases h
    refine hW _ (List.mem_singleton.mpr rfl) r M T' _ na_ex.rf ⟨hD.1, hD.2.1, hD.2.2.1, fun k hk => ?_, hD.2.2.2.2.1, fun q hq' => ?_, hD.2.2.2.2.2.2.1.ui (by omega) (by omega) hne hKe hpa, fun _ q => (by cases q)⟩ hL hS'
    · obtain ⟨hk1, hk2⟩ := List.mem_filter.mp hk
      have hk3 : k.1 ≠ p.1 := fun e => by
        rw [e, Nat.beq_refl] at hk2
        cases hk2
      obtain ⟨i, y, g1, g2, g3⟩ := hD.2.2.2.1 k hk1
      refine ⟨i, y, g1, g2, ?_⟩
      show (k.1 < 1000 ∧ (if k.1 = p.1 then upd (s.1 p.1) x.toNatClampNeg v else s.1 k.1) i.toNatClampNeg = y) ∨ (1000 ≤ k.1 ∧ k.1 < 2000 ∧ (if cf.1.2.2.2.2.1 = p.1 then upd (s.1 p.1) x.toNatClampNeg v else s.1 cf.1.2.2.2.2.1) (7 * i.toNatClampNeg + (k.1 - 1000)) = y) ∨ (k.1 = 3000 ∧ i.toInt < y.toInt) ∨ (k.1 = 3001 ∧ i.toInt + 1 = y.toInt)
      rw [if_neg hk3, if_neg (fun e => hne e.symm)]
      exact g3
    · have hq1 : q ≠ p.1 := fun e => hq' (by rw [e]; exact List.mem_cons_self)
      show (if q = p.1 then upd (s.1 p.1) x.toNatClampNeg v else s.1 q) = I0 q
      rw [if_neg hq1]
      exact hD.2.2.2.2.2.1 q (fun e => hq' (List.mem_cons_of_mem _ e))
  case lastore =>
    obtain ⟨w, hw, h⟩ := na_bi h
    obtain ⟨a, ha, h⟩ := na_bi h
    obtain ⟨p, hp, h⟩ := na_bi h
    obtain ⟨n, hn, h⟩ := na_bi h
    obtain ⟨hc, h⟩ := na_gd_ok h
    obtain ⟨hc1, hc2⟩ := na_two hc
    obtain ⟨v, T0, rfl, hS0⟩ := na_ll_ok hw hS
    obtain ⟨x, T1, rfl, hx, hx1, hx2, hS1⟩ := na_ii_ok hD.2.1 ha hS0
    obtain ⟨T', rfl, hS'⟩ := na_r1_ok hp hS1
    have hq := na_aq_ok hn
    show nk_lar (nx_enc s 0 cf.1.1) p.1 _
    unfold nk_lar
    rw [nx_ge hq]
    refine ⟨na_in (n := n.1) ⟨hx1, hx2⟩ (na_ble_t hc1) (na_ble_t hc2), ?_⟩
    show K nx M T' ((nx_enc s 0 cf.1.1).set p.1 (.inl (1, n.1, .inr (.inl (vp_updL (s.2.1 p.1) x.toNatClampNeg v))))) 0 0
    rw [nx_set_j _ hq]
    cases h
    refine hW _ (List.mem_singleton.mpr rfl) r M T' _ na_ex.rf ⟨hD.1, hD.2.1, hD.2.2.1, hD.2.2.2.1, hD.2.2.2.2.1, hD.2.2.2.2.2.1, ⟨hD.2.2.2.2.2.2.1.1, hD.2.2.2.2.2.2.1.2.1, hD.2.2.2.2.2.2.1.2.2.1, hKe.2.2.1 s p.1 _ hD.2.2.2.2.2.2.1.2.2.2⟩, fun l q => ?_⟩ hL hS'
    have q : (bif cf.2.2.any (Nat.beq p.1) then D.2.2.2.2.2.2 else 0) = l + 1 := q
    cases q2 : cf.2.2.any (Nat.beq p.1) with
    | false => rw [q2] at q; cases q
    | true =>
      rw [q2] at q
      obtain ⟨t, ht, hb⟩ := List.any_eq_true.mp q2
      have := Nat.eq_of_beq_eq_true hb
      subst this
      exact hPk _ ht l s _ (hD.2.2.2.2.2.2.2 l q)
  case arraylength =>
    obtain ⟨p, hp, h⟩ := na_bi h
    obtain ⟨T', rfl, hS'⟩ := na_r1_ok hp hS
    split at h
    · rename_i c hq
      obtain ⟨hc, h⟩ := na_gd_ok h
      obtain ⟨hc1, hc2⟩ := na_two hc
      have hc1 := Nat.le_of_ble_eq_true hc1
      have hc2 := Nat.le_of_ble_eq_true hc2
      show nk_len (nx_enc s 0 cf.1.1) p.1 _
      unfold nk_len
      rw [nx_ge hq]
      have fin : K nx M (.int (Int32.ofNat c.2.1) :: T') (nx_enc s 0 cf.1.1) 0 0 := na_o1_ok (S := .inl (Int.ofNat c.2.1) :: p.2) (T := .int (Int32.ofNat c.2.1) :: T') hD hL ⟨Int32.toInt_ofNat_of_lt (by omega), hS'⟩ h hW1
      obtain ⟨t, n, l⟩ := c
      match t, hc1 with
      | 0, _ => exact fin
      | 1, _ => exact fin
      | 2, _ => exact fin
      | 3, _ => exact fin
      | t + 4, hc1 => exact absurd hc1 (by simp)
    · cases h
  case getstatic x =>
    obtain ⟨q, hq, h⟩ := na_bi h
    show nk_sm (nk_lk X.2.2.2.2.2.2.1 x) _
    rw [hq]
    exact na_o1_ok (S := .inr (.inr (.inr (.inl q))) :: S) (T := .ref q :: T) hD hL ⟨rfl, hS⟩ h hW1
  case ldc x =>
    obtain ⟨v, hv, h⟩ := na_bi h
    show nk_sm (nk_lk X.2.2.1 x) _
    rw [hv]
    exact na_o1_ok (S := .inl v.toInt :: S) (T := .int v :: T) hD hL ⟨rfl, hS⟩ h hW1
  case ldc_w x =>
    obtain ⟨v, hv, h⟩ := na_bi h
    show nk_sm (nk_lk X.2.2.1 x) _
    rw [hv]
    exact na_o1_ok (S := .inl v.toInt :: S) (T := .int v :: T) hD hL ⟨rfl, hS⟩ h hW1
  case ldc2_w x =>
    obtain ⟨v, hv, h⟩ := na_bi h
    show nk_sm (nk_lk X.2.2.2.1 x) _
    rw [hv]
    exact na_pL_ok hD hL hS (y := v) ⟨Int.le_refl _, Int.le_refl _⟩ (fun q => by cases q) h hW1
  all_goals exact absurd h (by intro q; cases q)
end NaMe
