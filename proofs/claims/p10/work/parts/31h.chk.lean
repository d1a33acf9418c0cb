/-! ===== the checker: steps ===== -/
noncomputable def na_rc (sh : List nx_C) (rc : Nat) (as : List na_V) : Bool := match rc with
  | 0 => true
  | ci + 1 => (match as with
    | v :: _ => (match na_iR v with
      | some q => (match na_ob sh q ci with
        | some _ => true
        | none => false)
      | none => false)
    | [] => false)
theorem na_rc_ok {sh : List nx_C} {rc : Nat} {as : List na_V} {A : List Value} {r : List Int} {s : nx_S} {P : Prop} (h : na_rc sh rc as = true) (hA : na_gS r as A) (hP : P) : nk_rcv rc A (nx_enc s 0 sh) P := by
  match rc, h with
  | 0, _ => exact hP
  | ci + 1, h =>
    match as, h, hA with
    | v :: as', h, hA =>
      obtain ⟨w, T, rfl, h1, h2⟩ := na_gS_c hA
      unfold na_rc at h
      cases hq : na_iR v with
      | none => simp only [hq] at h; cases h
      | some q =>
        simp only [hq] at h
        cases ho : na_ob sh q ci with
        | none => simp only [ho] at h; cases h
        | some sl =>
          have := na_gv_r h1 hq
          subst this
          show nk_obj (nx_enc s 0 sh) q ci (fun _ => P)
          unfold nk_obj
          rw [nx_ge (na_ob_ok ho)]
          show nk_if (Nat.beq ci ci) P
          rw [show Nat.beq ci ci = true from Nat.beq_refl ci]
          exact hP
noncomputable def na_tc (cf : na_Cf) (as : List na_V) (D : na_D) : List na_C → Option (Option na_V × na_D)
  | [] => none
  | c :: cs => (match na_cc cf c as D with
    | some o => some o
    | none => na_tc cf as D cs)
theorem na_tc_mem {cf : na_Cf} {as : List na_V} {D : na_D} {o : Option na_V × na_D} : ∀ (cs : List na_C), na_tc cf as D cs = some o → ∃ c ∈ cs, na_cc cf c as D = some o
  | [], h => by cases h
  | c :: cs, h => by
    unfold na_tc at h
    cases hc : na_cc cf c as D with
    | some p =>
      simp only [hc] at h
      exact ⟨c, List.mem_cons_self, by rw [hc, h]⟩
    | none =>
      simp only [hc] at h
      obtain ⟨c', h1, h2⟩ := na_tc_mem cs h
      exact ⟨c', List.mem_cons_of_mem _ h1, h2⟩
noncomputable def na_gs (b : Bool) (k : Option (List na_St)) : Option (List na_St) := match b with
  | true => k
  | false => none
theorem na_gs_ok {b : Bool} {k : Option (List na_St)} {l : List na_St} (h : na_gs b k = some l) : b = true ∧ k = some l := by
  cases b with
  | true => exact ⟨rfl, h⟩
  | false => cases h
noncomputable def na_ca (cf : na_Cf) (m : na_Md) (key nx : Nat) (fr : List na_Fr) (mi : Nat) (L : na_L) (S : List na_V) (D : na_D) : Option (List na_St) := (nk_lk m.1.2.1 key).bind (fun C => (na_pn C.1 [] S).bind (fun p => na_gs (na_rc cf.1.1 C.2.1 p.1 && Nat.ble (na_cg p.2) 8) ((nk_lk m.2.2.2 key).bind (fun R => match R with
  | .inl j => (nk_lk cf.2.1 j).bind (fun mj => na_gs (Nat.ble (na_cg p.1) mj.2.2.1) (some [((mi, nx, L, p.2) :: fr, j, 0, na_en p.1 mj.2.2.1, [], D)]))
  | .inr (.inl cs) => (na_tc cf p.1 D cs).bind (fun o => some [(fr, mi, nx, L, na_po o.1 p.2, o.2)])
  | .inr (.inr q) => (na_mr q p.1 D).bind (fun l => some (l.map (fun o => (fr, mi, nx, L, o.1 :: p.2, o.2))))))))
noncomputable def na_rv (X : nk_T) (i : Instr) (S : List na_V) (D : na_D) : Option (Option na_V) := match i with
  | .ireturn => (match S with
    | [v] => (na_iv D.2.1 v).bind (fun b => match Nat.beq 0 X.2.2.2.2.2.2.2.2.2.1 && (match X.2.2.2.2.2.2.2.1 with
      | 1 => true
      | 2 => na_ble 0 b.1 && na_ble b.2 1
      | _ => false) with
      | true => some (some v)
      | false => none)
    | _ => none)
  | .lreturn => (match S with
    | [v] => (na_iL v).bind (fun _ => match Nat.beq 0 X.2.2.2.2.2.2.2.2.2.1 && Nat.beq X.2.2.2.2.2.2.2.1 3 with
      | true => some (some v)
      | false => none)
    | _ => none)
  | .return_ => (match S with
    | [] => (match Nat.beq 0 X.2.2.2.2.2.2.2.2.2.1 && Nat.beq X.2.2.2.2.2.2.2.1 0 with
      | true => some none
      | false => none)
    | _ => none)
  | _ => none
theorem na_end_ok {X : nk_T} {P : Prop} (h : Nat.beq 0 X.2.2.2.2.2.2.2.2.2.1 = true) (hP : P) : nk_end X 0 0 P := by
  unfold nk_end
  rw [h, show Nat.ble 0 X.2.2.2.2.2.2.2.2.2.2 = true from Nat.ble_eq_true_of_le (Nat.zero_le _)]
  exact hP
theorem na_rv_ok {X : nk_T} {i : Instr} {S : List na_V} {D : na_D} {ov : Option na_V} {r : List Int} {T : List Value} {h' : nk_H} {nx : Nat} {tg : List Nat} {lit : Int32} {M : nk_Ls} {K : nk_K} {Q : nk_Q} (h : na_rv X i S D = some ov) (hE : na_gE r D.2.1) (hS : na_gS r S T) (hQ : ∀ v : Option Value, na_gov r ov v → Q v h') : nk_sem X i nx tg lit M T h' 0 0 K Q := by
  cases i
  case ireturn =>
    match S, h, hS with
    | [v], h, hS =>
      obtain ⟨b, hb, h⟩ := na_bi h
      obtain ⟨w, T', rfl, h1, h2⟩ := na_gS_c hS
      have hT : T' = [] := by
        match T', h2 with
        | [], _ => rfl
      subst hT
      obtain ⟨x, rfl, hx⟩ := na_gv_i h1 hb
      have hxb := na_iv_ok hE hx hb
      split at h
      · rename_i hc
        cases h
        obtain ⟨c1, c2⟩ := na_two hc
        refine na_end_ok c1 ?_
        have fin : Q (some (.int x)) h' := hQ _ ⟨_, rfl, h1⟩
        split at c2
        · rename_i e
          simp only [e]
          exact fin
        · rename_i e
          simp only [e]
          obtain ⟨b1, b2⟩ := na_two c2
          have b1 := na_ble_t b1
          have b2 := na_ble_t b2
          refine ⟨?_, fin⟩
          have h01 : x.toInt = 0 ∨ x.toInt = 1 := by omega
          rcases h01 with h01 | h01
          · exact Or.inl (Int32.toInt_inj.mp (h01.trans rfl))
          · exact Or.inr (Int32.toInt_inj.mp (h01.trans rfl))
        · cases c2
      · cases h
  case lreturn =>
    match S, h, hS with
    | [v], h, hS =>
      obtain ⟨b, hb, h⟩ := na_bi h
      obtain ⟨w, T', rfl, h1, h2⟩ := na_gS_c hS
      have hT : T' = [] := by
        match T', h2 with
        | [], _ => rfl
      subst hT
      obtain ⟨y, rfl, hy⟩ := na_gv_l h1 hb
      split at h
      · rename_i hc
        cases h
        obtain ⟨c1, c2⟩ := na_two hc
        have c2 := Nat.eq_of_beq_eq_true c2
        refine na_end_ok c1 ?_
        simp only [c2]
        exact hQ _ ⟨_, rfl, h1⟩
      · cases h
  case return_ =>
    match S, h, hS with
    | [], h, hS =>
      have hT : T = [] := by
        match T, hS with
        | [], _ => rfl
      subst hT
      simp only [na_rv] at h
      split at h
      · rename_i hc
        cases h
        obtain ⟨c1, c2⟩ := na_two hc
        have c2 := Nat.eq_of_beq_eq_true c2
        refine na_end_ok c1 ?_
        simp only [c2]
        exact hQ _ rfl
      · cases h
  all_goals exact absurd h (by intro q; cases q)
noncomputable def na_kind (i : Instr) : Nat := match i with
  | .invokevirtual _ => 1
  | .invokespecial _ => 2
  | .invokestatic _ => 3
  | .ireturn => 4
  | .lreturn => 4
  | .return_ => 4
  | .getfield _ => 5
  | .putfield _ => 5
  | .iaload => 5
  | .laload => 5
  | .aaload => 5
  | .iastore => 5
  | .lastore => 5
  | .arraylength => 5
  | .getstatic _ => 5
  | .ldc _ => 5
  | .ldc_w _ => 5
  | .ldc2_w _ => 5
  | .new _ => 6
  | .newarray _ => 6
  | .anewarray _ => 6
  | .aastore => 6
  | _ => 0
noncomputable def na_ix1 (i : Instr) : Nat := match i with
  | .invokevirtual x => 4 * x
  | .invokespecial x => 4 * x + 1
  | .invokestatic x => 4 * x + 2
  | _ => 3
noncomputable def na_step (cf : na_Cf) (st : na_St) : Option (List na_St) := (nk_lk cf.2.1 st.2.1).bind (fun m => (m.2.1 st.2.2.1).bind (fun row => match na_kind row.1 with
  | 0 => (na_pu row.1 row.2.2.1 row.2.2.2.1 row.2.2.2.2 st.2.2.2.1 st.2.2.2.2.1 st.2.2.2.2.2).bind (fun l => some (l.map (fun o => (st.1, st.2.1, o))))
  | 1 => na_ca cf m (na_ix1 row.1) row.2.2.1 st.1 st.2.1 st.2.2.2.1 st.2.2.2.2.1 st.2.2.2.2.2
  | 2 => na_ca cf m (na_ix1 row.1) row.2.2.1 st.1 st.2.1 st.2.2.2.1 st.2.2.2.2.1 st.2.2.2.2.2
  | 3 => na_ca cf m (na_ix1 row.1) row.2.2.1 st.1 st.2.1 st.2.2.2.1 st.2.2.2.2.1 st.2.2.2.2.2
  | 4 => (na_rv m.1 row.1 st.2.2.2.2.1 st.2.2.2.2.2).bind (fun ov => match st.1 with
    | f :: fr => some [(fr, f.1, f.2.1, f.2.2.1, na_po ov f.2.2.2, st.2.2.2.2.2)]
    | [] => none)
  | 5 => (na_me cf m.1 row.1 row.2.2.1 st.2.2.2.1 st.2.2.2.2.1 st.2.2.2.2.2).bind (fun l => some (l.map (fun o => (st.1, st.2.1, o))))
  | _ => none))
section NaStep
variable {cf : na_Cf} {I0 : Nat → Nat → Int32} {r0 : List Int} {Q : nk_Q}
theorem na_ca_ok (hR : na_Rok cf) {m : na_Md} {key nx : Nat} {fr : List na_Fr} {mi : Nat} {L : na_L} {S : List na_V} {D : na_D} {l : List na_St} (h : na_ca cf m key nx fr mi L S D = some l) (hm : nk_lk cf.2.1 mi = some m) (hl : ∀ st ∈ l, na_Sm cf I0 r0 Q st) {r : List Int} {frc : List nc_Fr} {M : nk_Ls} {T : List Value} {s : nx_S} (h0 : na_ex r0 r) (hF : na_gF cf r fr frc) (hD : na_gD cf.1 I0 r D s) (hL : na_gL r L M) (hS : na_gS r S T) :
    nk_call m.1 key nx M T (nx_enc s 0 cf.1.1) 0 0 (nk_wp m.1 m.2.1 (na_Q Q frc)) := by
  obtain ⟨C, hC, h⟩ := na_bi h
  obtain ⟨p, hp, h⟩ := na_bi h
  obtain ⟨hg, h⟩ := na_gs_ok h
  obtain ⟨hrc, hcat⟩ := na_two hg
  obtain ⟨R, hRs, h⟩ := na_bi h
  obtain ⟨C', e1, e2, e3, hR'⟩ := hR mi m hm key R hRs
  rw [hC] at e1
  cases e1
  obtain ⟨as, T', hA, hT, hk⟩ := na_pn_ok C.1 [] S p [] T hp trivial hS
  unfold nk_call
  rw [hC]
  refine hk _ ?_
  refine na_rc_ok hrc hA ?_
  rw [na_cg_c hT, hcat]
  rw [e2, e3]
  show nk_if (Nat.ble 0 m.1.2.2.2.2.2.2.2.2.2.1 && Nat.ble 0 m.1.2.2.2.2.2.2.2.2.2.2) (C.2.2.2.2 as (nx_enc s 0 cf.1.1) (fun v h' => nk_ret v T' (fun T => nk_wp m.1 m.2.1 (na_Q Q frc) nx M T h' 0 0)))
  rw [show Nat.ble 0 m.1.2.2.2.2.2.2.2.2.2.1 = true from Nat.ble_eq_true_of_le (Nat.zero_le _), show Nat.ble 0 m.1.2.2.2.2.2.2.2.2.2.2 = true from Nat.ble_eq_true_of_le (Nat.zero_le _)]
  show C.2.2.2.2 as (nx_enc s 0 cf.1.1) (fun v h' => nk_ret v T' (fun T => nk_wp m.1 m.2.1 (na_Q Q frc) nx M T h' 0 0))
  match R, h, hR' with
  | .inl j, h, hR' =>
    obtain ⟨mj, hmj, hev⟩ := hR'
    obtain ⟨mj', hmj', h⟩ := na_bi h
    rw [hmj] at hmj'
    cases hmj'
    obtain ⟨hw, h⟩ := na_gs_ok h
    cases h
    rw [hev]
    show nk_if (Nat.ble (nk_wd as) mj.2.2.1) _
    rw [na_cg_w hA, hw]
    have := hl _ (List.mem_singleton.mpr rfl) r ((m.1, m.2.1, nx, M, T') :: frc) (nk_ent as mj.2.2.1) [] s mj h0 ⟨⟨m, hm, rfl, rfl⟩, rfl, hL, hT, hF⟩ hD (na_en_ok _ _ _ hA) trivial hmj
    exact this
  | .inr (.inl cs), h, hR' =>
    obtain ⟨o, ho, h⟩ := na_bi h
    cases h
    obtain ⟨c, hc, hcc⟩ := na_tc_mem cs ho
    refine na_cc_ok hcc (hR' c hc) hD hA (fun v r' s' k1 k2 k3 => ?_)
    refine na_po_ok k3 (hT.ex k1) (fun T2 hT2 => ?_)
    exact hl _ (List.mem_singleton.mpr rfl) r' frc M T2 s' m (h0.tr k1) (hF.ex k1) k2 (hL.ex k1) hT2 hm
  | .inr (.inr q), h, hR' =>
    obtain ⟨o, ho, h⟩ := na_bi h
    cases h
    refine na_mr_ok ho hR' hD hA (fun p' hp' v r' k1 k2 k3 => ?_)
    exact hl _ (List.mem_map.mpr ⟨p', hp', rfl⟩) r' frc M (v :: T') s m (h0.tr k1) (hF.ex k1) k2 (hL.ex k1) ⟨k3, hT.ex k1⟩ hm
set_option maxHeartbeats 8000000 in
theorem na_step_ok (hKe : nx_Ke cf.1) (hR : na_Rok cf) (hN : cf.1.2.1.Nodup) (hPk : ∀ q ∈ cf.2.2, ∀ (l : Nat) (s : nx_S) (f : Nat → Int64), cf.1.2.2.2.2.2.1 l s → cf.1.2.2.2.2.2.1 l (nx_uj s q f)) {st : na_St} {l : List na_St} (h : na_step cf st = some l) (hl : ∀ st' ∈ l, na_Sm cf I0 r0 Q st') : na_Sm cf I0 r0 Q st := by
  intro r frc M T s m h0 hF hD hL hS hm
  obtain ⟨m', hm', h⟩ := na_bi h
  rw [hm] at hm'
  cases hm'
  obtain ⟨row, hrow, h⟩ := na_bi h
  refine nk_s ?_
  unfold nk_at
  rw [hrow]
  obtain ⟨i, n, nx, tg, lit⟩ := row
  show nk_sem m.1 i nx tg lit M T (nx_enc s 0 cf.1.1) 0 0 (nk_wp m.1 m.2.1 (na_Q Q frc)) (na_Q Q frc)
  have mem : na_kind i = 5 → nk_sem m.1 i nx tg lit M T (nx_enc s 0 cf.1.1) 0 0 (nk_wp m.1 m.2.1 (na_Q Q frc)) (na_Q Q frc) := by
    intro hk
    simp only [hk] at h
    obtain ⟨o, ho, h⟩ := na_bi h
    cases h
    refine na_me_ok hKe hN hPk ho hD hL hS (fun o' ho' r' L' S' s' k1 k2 k3 k4 => ?_)
    exact hl _ (List.mem_map.mpr ⟨o', ho', rfl⟩) r' frc L' S' s' m (h0.tr k1) (hF.ex k1) k2 k3 k4 hm
  have ret : na_kind i = 4 → nk_sem m.1 i nx tg lit M T (nx_enc s 0 cf.1.1) 0 0 (nk_wp m.1 m.2.1 (na_Q Q frc)) (na_Q Q frc) := by
    intro hk
    simp only [hk] at h
    obtain ⟨ov, hov, h⟩ := na_bi h
    obtain ⟨fr, rest⟩ := st
    match fr, hF, h, hl with
    | f :: fr', hF, h, hl =>
      cases h
      match frc, hF with
      | fc :: frc', hF =>
        obtain ⟨⟨mf, hmf, e1, e2⟩, e3, hLf, hSf, hF'⟩ := hF
        refine na_rv_ok hov hD.2.1 hS (fun v hv => ?_)
        show nk_ret v fc.2.2.2.2 (fun T => nk_wp fc.1 fc.2.1 (na_Q Q frc') fc.2.2.1 fc.2.2.2.1 T (nx_enc s 0 cf.1.1) 0 0)
        refine na_po_ok hv hSf (fun T' hT' => ?_)
        have := hl _ (List.mem_singleton.mpr rfl) r frc' fc.2.2.2.1 T' s mf h0 hF' hD hLf hT' hmf
        rw [e1, e2, show (fr', f.1, f.2.1, f.2.2.1, na_po ov f.2.2.2, rest.2.2.2.2).2.2.1 = fc.2.2.1 from e3] at this
        exact this
  have pure : na_kind i = 0 → nk_pure i nx tg lit M T (fun pc L S => nk_wp m.1 m.2.1 (na_Q Q frc) pc L S (nx_enc s 0 cf.1.1) 0 0) := by
    intro hk
    simp only [hk] at h
    obtain ⟨o, ho, h⟩ := na_bi h
    cases h
    refine na_pu_ok ho hD hL hS (fun o' ho' r' L' S' k1 k2 k3 k4 => ?_)
    exact hl _ (List.mem_map.mpr ⟨o', ho', rfl⟩) r' frc L' S' s m (h0.tr k1) (hF.ex k1) k2 k3 k4 hm
  cases i
  case invokevirtual x => exact na_ca_ok hR h hm hl h0 hF hD hL hS
  case invokespecial x => exact na_ca_ok hR h hm hl h0 hF hD hL hS
  case invokestatic x => exact na_ca_ok hR h hm hl h0 hF hD hL hS
  case new x => cases h
  case newarray x => cases h
  case anewarray x => cases h
  case aastore => cases h
  all_goals first
    | exact mem rfl
    | exact ret rfl
    | exact pure rfl
end NaStep
/-! ===== loops ===== -/
/-- rank, locals, fields changed, arrays changed, what is known of the entry's names, the level, which of the entry's names are less than which -/
abbrev na_Cu : Type := Nat × List (Option na_Pt) × List Nat × List Nat × na_E × Nat × List (Nat × Nat)
/-- a head: its place, the locals that name a cut, the cuts -/
abbrev na_Hd : Type := Nat × List Nat × List (Nat × na_Cu)
noncomputable def na_fp (mf : List Nat) : Nat → List (Int × Int) → List (Option na_Pt)
  | _, [] => []
  | i, b :: l => (bif mf.any (Nat.beq i) then some (.inr (.inr (.inl (b.1, b.2, false)))) else some (.inr (.inl i))) :: na_fp mf (i + 1) l
/-- the fields at the entry -/
noncomputable def na_f0 (pr : List (Nat × Int × Int)) : Nat → List (Int × Int) → List (Option na_Pt)
  | _, [] => []
  | i, b :: l => (match nk_lk pr i with
    | some e => some (.inr (.inr (.inl (e.1, e.2, false))))
    | none => some (.inr (.inr (.inl (b.1, b.2, false))))) :: na_f0 pr (i + 1) l
/-- the fields at the end -/
noncomputable def na_f1 (md : List (Nat × Int × Int)) : Nat → List (Int × Int) → List (Option na_Pt)
  | _, [] => []
  | i, _ :: l => (match nk_lk md i with
    | some e => some (.inr (.inr (.inl (e.1, e.2, false))))
    | none => some (.inr (.inl i))) :: na_f1 md (i + 1) l
noncomputable def na_pe : List na_Pt → Nat → List (Option na_Pt)
  | [], n => List.replicate n none
  | p :: ps, n => (match p with
    | .inr (.inr (.inr (.inl _))) => some p :: none :: na_pe ps (n - 2)
    | _ => some p :: na_pe ps (n - 1))
noncomputable def na_bu (fp lp : List (Option na_Pt)) (n : Nat) (E : na_E) (Z : List Nat) (T : List Nat) (P : Nat) (K : na_L → na_L → na_K) : na_L × na_D :=
  (fun f => (fun q => (q.1, (q.2.1, q.2.2.1, q.2.2.2, K q.1 f.1, f.1, T, P))) (na_bd lp f.2.1 f.2.2.1 f.2.2.2)) (na_bd fp n E Z)
noncomputable def na_k0 (lt : List (Nat × Nat)) (L F : na_L) : na_K := lt.filterMap (fun e => match na_get L e.1, na_get F e.2 with
  | some v, some f => some (3000, v, f)
  | _, _ => none)
noncomputable def na_k2 (lt : List (Nat × Nat)) : na_K := lt.map (fun e => (3000, .inr (.inl e.1), .inr (.inl e.2)))
/-- the entry's state -/
noncomputable def na_e0 (cf : na_Cf) (c : na_C) (nL : Nat) : na_L × na_D := na_bu (na_f0 c.2.1.1 0 cf.1.2.2.1) (na_pe c.1 nL) 0 [] [] [] c.2.2.1 (na_k0 c.2.1.2)
noncomputable def na_cs (cf : na_Cf) (e : na_L × na_D) (mi pc : Nat) (cu : na_Cu) : na_St := ([], mi, pc, (na_bu (na_fp cu.2.2.1 0 cf.1.2.2.1) cu.2.1 e.2.1 (cu.2.2.2.2.1 ++ e.2.2.1) e.2.2.2.1 cu.2.2.2.1 cu.2.2.2.2.2.1 (fun _ _ => na_k2 cu.2.2.2.2.2.2)).1, [], (na_bu (na_fp cu.2.2.1 0 cf.1.2.2.1) cu.2.1 e.2.1 (cu.2.2.2.2.1 ++ e.2.2.1) e.2.2.2.1 cu.2.2.2.1 cu.2.2.2.2.2.1 (fun _ _ => na_k2 cu.2.2.2.2.2.2)).2)
noncomputable def na_fit (cf : na_Cf) (n0 : Nat) (cu : na_Cu) (L : na_L) (S : List na_V) (D : na_D) : Bool := na_mt D.2.1 D.2.2.1 n0 (na_fp cu.2.2.1 0 cf.1.2.2.1) D.2.2.2.2.1 && na_mt D.2.1 D.2.2.1 n0 cu.2.1 L && (match S with
  | [] => true
  | _ => false) && D.2.2.2.2.2.1.all (fun q => cu.2.2.2.1.any (Nat.beq q)) && cu.2.2.2.2.1.all (fun e => Nat.ble (e.1 + 1) n0 && (match nk_lk D.2.1 e.1 with
  | some b => na_ble e.2.1 b.1 && na_ble b.2 e.2.2
  | none => false)) && (Nat.beq cu.2.2.2.2.2.1 0 || (Nat.ble 1 D.2.2.2.2.2.2 && Nat.ble D.2.2.2.2.2.2 cu.2.2.2.2.2.1)) && cu.2.2.2.2.2.2.all (fun e => Nat.ble (e.1 + 1) n0 && Nat.ble (e.2 + 1) n0 && D.2.2.2.1.any (fun k => Nat.beq k.1 3000 && na_ve k.2.1 (.inr (.inl e.1)) && na_ve k.2.2 (.inr (.inl e.2))))
noncomputable def na_key (E : na_E) (L : na_L) : List Nat → Nat → Option Nat
  | [], a => some a
  | j :: ks, a => (match na_get L j with
    | some v => (match na_iv E v with
      | some b => na_key E L ks (a * 1000000 + (b.1 + 1000).toNat)
      | none => none)
    | none => none)
noncomputable def na_post (cf : na_Cf) (c : na_C) (n0 : Nat) (ov : Option na_V) (D : na_D) : Bool := na_mt D.2.1 D.2.2.1 n0 (na_f1 c.2.2.2.1 0 cf.1.2.2.1) D.2.2.2.2.1 && D.2.2.2.2.2.1.all (fun q => c.2.2.2.2.1.any (Nat.beq q)) && (match c.2.2.2.2.2.1 with
  | 0 => (match ov with
    | none => true
    | some _ => false)
  | 1 => (match ov with
    | some v => (match na_iv D.2.1 v with
      | some b => na_ble c.2.2.2.2.2.2.1.1 b.1 && na_ble b.2 c.2.2.2.2.2.2.1.2
      | none => false)
    | none => false)
  | _ => (match ov with
    | some v => na_bn (na_iL v)
    | none => false)) && (match c.2.2.2.2.2.2.2.1 with
  | 0 => true
  | 1 => Nat.ble 1 D.2.2.2.2.2.2 && Nat.ble D.2.2.2.2.2.2 (c.2.2.2.2.2.2.2.2 + 1)
  | _ => false)
noncomputable def na_fin (cf : na_Cf) (c : na_C) (mi : Nat) (X : nk_T) (kc : Nat → Option nk_I) (n0 : Nat) (hd : List na_Hd) (mu : Nat) (st : na_St) : Option Bool := match st.1 with
  | _ :: _ => none
  | [] => (match Nat.beq st.2.1 mi with
    | false => some false
    | true => (match nk_lk hd st.2.2.1 with
    | some h => some (match na_key st.2.2.2.2.2.2.1 st.2.2.2.1 h.1 0 with
      | some k => (match nk_lk h.2 k with
        | some cu => Nat.ble (cu.1 + 1) mu && na_fit cf n0 cu st.2.2.2.1 st.2.2.2.2.1 st.2.2.2.2.2
        | none => false)
      | none => false)
    | none => (match kc st.2.2.1 with
      | some row => (match na_kind row.1 with
        | 4 => some (match na_rv X row.1 st.2.2.2.2.1 st.2.2.2.2.2 with
          | some ov => na_post cf c n0 ov st.2.2.2.2.2
          | none => false)
        | _ => none)
      | none => some false)))
noncomputable def na_vs (st : na_St) (v : na_V) : Nat → Int → List na_St
  | 0, _ => []
  | n + 1, a => (match na_rf st.2.2.2.2.2.2.1 st.2.2.2.2.2.2.2.1 v a a with
    | some p => (st.1, st.2.1, st.2.2.1, st.2.2.2.1, st.2.2.2.2.1, (st.2.2.2.2.2.1, p.1, p.2, st.2.2.2.2.2.2.2.2)) :: na_vs st v n (a + 1)
    | none => na_vs st v n (a + 1))
noncomputable def na_spl (sp : List (Nat × Nat)) (st : na_St) : Option (List na_St) := match st.1 with
  | _ :: _ => none
  | [] => (nk_lk sp st.2.2.1).bind (fun j => (na_get st.2.2.2.1 j).bind (fun v => (na_iv st.2.2.2.2.2.2.1 v).bind (fun b => match na_bq b.1 b.2 with
    | true => none
    | false => some (na_vs st v (b.2 - b.1 + 1).toNat b.1))))
noncomputable def na_go (cf : na_Cf) (sp : List (Nat × Nat)) (fin : na_St → Option Bool) : Nat → na_St → Bool
  | 0, _ => false
  | f + 1, st => (match na_spl sp st with
    | some l => l.all (na_go cf sp fin f)
    | none => (match fin st with
      | some b => b
      | none => (match na_step cf st with
        | some l => l.all (na_go cf sp fin f)
        | none => false)))
noncomputable def na_pw : List na_Pt → Nat
  | [] => 0
  | p :: ps => (match p with
    | .inr (.inr (.inr (.inl _))) => 2
    | _ => 1) + na_pw ps
/-- arguments ahead of the first long lie at their own places -/
noncomputable def na_nol : List na_Pt → Nat → Bool
  | _, 0 => true
  | [], _ => true
  | .inr (.inr (.inr (.inl _))) :: _, _ + 1 => false
  | _ :: ps, n + 1 => na_nol ps n
noncomputable def na_chk (cf : na_Cf) (c : na_C) (mi : Nat) (m : na_Md) (fu : Nat) (sp : List (Nat × Nat)) (hd : List na_Hd) (mu : Nat) : Bool :=
  (Nat.ble (na_pw c.1) m.2.2.1 && c.2.1.2.all (fun e => na_nol c.1 e.1 && Nat.ble (e.1 + 1) m.2.2.1)) && na_go cf sp (na_fin cf c mi m.1 m.2.1 (na_e0 cf c m.2.2.1).2.1 hd mu) fu ([], mi, 0, (na_e0 cf c m.2.2.1).1, [], (na_e0 cf c m.2.2.1).2) &&
  hd.all (fun h => h.2.2.all (fun k => match na_step cf (na_cs cf (na_e0 cf c m.2.2.1) mi h.1 k.2) with
    | some l => l.all (na_go cf sp (na_fin cf c mi m.1 m.2.1 (na_e0 cf c m.2.2.1).2.1 hd k.2.1) fu)
    | none => false))
