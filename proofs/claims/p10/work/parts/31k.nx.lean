/-! ===== steps by hand over cells of a fixed shape ===== -/
noncomputable def nx_ob (sh : List nx_C) (q ci : Nat) (k : List Nat → Prop) : Prop := match nk_lg sh q with
  | some (.inl c) => nk_if (Nat.beq c.1 ci) (k c.2)
  | _ => False
noncomputable def nx_ai (sh : List nx_C) (q t : Nat) (k : Nat → List Nat → Prop) : Prop := match nk_lg sh q with
  | some (.inr c) => nk_if (Nat.beq c.1 t) (k c.2.1 c.2.2)
  | _ => False
noncomputable def nx_ar (sh : List nx_C) (s : nx_S) (q : Nat) (k : Nat → (Nat → Int32) → Prop) : Prop := match nk_lg sh q with
  | some (.inr c) => nk_if (Nat.beq c.1 0) (k c.2.1 (s.1 q))
  | some (.inl _) => False
  | none => nk_sm (nk_lk nk_sta q) (fun z => k z.1 z.2.1)
noncomputable def nx_put (kd k : Nat) (v : Value) (P : Int32 → Prop) (R : Int64 → Prop) : Prop := match kd, k, v with
  | 0, 0, .int x => P x
  | 1, 0, .int x => nk_bo x (P x)
  | 2, 1, .long y => R y
  | _, _, _ => False
noncomputable def nx_at (sh : List nx_C) (X : nk_T) (kc : Nat → Option nk_I) (Q : nk_Q) (pc : Nat) (L : nk_Ls) (S : List Value) (s : nx_S) : Prop := match kc pc with
  | some (i, _, nx, tg, lit) => (match i with
    | .getfield x => nk_sm (nk_lk X.1 x) (fun f => nk_pr S (fun q S => nx_ob sh q f.1 (fun sl => nk_sm (nk_lg sl f.2.1) (fun k => nk_wp X kc Q nx L (nx_sv s.2.2 q f.2.1 k :: S) (nx_enc s 0 sh) 0 0))))
    | .putfield x => nk_sm (nk_lk X.1 x) (fun f => match S with
      | v :: S => nk_pr S (fun q S => nx_ob sh q f.1 (fun sl => nk_sm (nk_lg sl f.2.1) (fun k => nx_put f.2.2 k v (fun x => nk_wp X kc Q nx L S (nx_enc (nx_uf s q f.2.1 x) 0 sh) 0 0) (fun y => nk_wp X kc Q nx L S (nx_enc (nx_ug s q f.2.1 y) 0 sh) 0 0))))
      | [] => False)
    | .iaload => nk_pi S (fun i S => nk_pr S (fun q S => nx_ar sh s q (fun n f => vp_in i n ∧ nk_wp X kc Q nx L (.int (f i.toNatClampNeg) :: S) (nx_enc s 0 sh) 0 0)))
    | .laload => nk_pi S (fun i S => nk_pr S (fun q S => nx_ai sh q 1 (fun n _ => vp_in i n ∧ nk_wp X kc Q nx L (.long (s.2.1 q i.toNatClampNeg) :: S) (nx_enc s 0 sh) 0 0)))
    | .iastore => nk_pi S (fun v S => nk_pi S (fun i S => nk_pr S (fun q S => nx_ai sh q 0 (fun n _ => vp_in i n ∧ nk_wp X kc Q nx L S (nx_enc (nx_ui s q (upd (s.1 q) i.toNatClampNeg v)) 0 sh) 0 0))))
    | .lastore => nk_pl S (fun v S => nk_pi S (fun i S => nk_pr S (fun q S => nx_ai sh q 1 (fun n _ => vp_in i n ∧ nk_wp X kc Q nx L S (nx_enc (nx_uj s q (vp_updL (s.2.1 q) i.toNatClampNeg v)) 0 sh) 0 0))))
    | _ => nk_sem X i nx tg lit L S (nx_enc s 0 sh) 0 0 (nk_wp X kc Q) Q)
  | none => False
theorem nx_ob_inv {sh : List nx_C} {q ci : Nat} {k : List Nat → Prop} (h : nx_ob sh q ci k) : ∃ sl, nk_lg sh q = some (.inl (ci, sl)) ∧ k sl := by
  unfold nx_ob at h
  split at h
  · rename_i c hc
    obtain ⟨h1, h2⟩ := nk_if_inv h
    have := Nat.eq_of_beq_eq_true h1
    subst this
    exact ⟨_, hc, h2⟩
  · exact h.elim
theorem nx_ai_inv {sh : List nx_C} {q t : Nat} {k : Nat → List Nat → Prop} (h : nx_ai sh q t k) : ∃ n l, nk_lg sh q = some (.inr (t, n, l)) ∧ k n l := by
  unfold nx_ai at h
  split at h
  · rename_i c hc
    obtain ⟨h1, h2⟩ := nk_if_inv h
    have := Nat.eq_of_beq_eq_true h1
    subst this
    exact ⟨_, _, hc, h2⟩
  · exact h.elim
set_option maxHeartbeats 4000000 in
theorem nx_s {sh : List nx_C} {X : nk_T} {kc : Nat → Option nk_I} {Q : nk_Q} {pc : Nat} {L : nk_Ls} {S : List Value} {s : nx_S} (h : nx_at sh X kc Q pc L S s) : nk_wp X kc Q pc L S (nx_enc s 0 sh) 0 0 := by
  refine nk_s ?_
  unfold nx_at at h
  unfold nk_at
  split at h
  · rename_i i n nx tg lit hk
    rw [hk]
    show nk_sem X i nx tg lit L S (nx_enc s 0 sh) 0 0 (nk_wp X kc Q) Q
    cases i
    case getfield x =>
      obtain ⟨f, hf, h1⟩ := nk_sm_inv h
      obtain ⟨q, S', rfl, h2⟩ := nk_pr_inv h1
      obtain ⟨sl, hq, h3⟩ := nx_ob_inv h2
      obtain ⟨k, hk2, h4⟩ := nk_sm_inv h3
      show nk_sm (nk_lk X.1 x) _
      rw [hf]
      show nk_obj (nx_enc s 0 sh) q f.1 _
      unfold nk_obj
      rw [nx_ge hq]
      show nk_if (Nat.beq f.1 f.1) (nk_sm (nk_lg (nx_fs s.2.2 q 0 sl) f.2.1) _)
      rw [show Nat.beq f.1 f.1 = true from Nat.beq_refl f.1, nx_fs_lg, hk2, Option.map_some, Nat.zero_add]
      exact h4
    case putfield x =>
      obtain ⟨f, hf, h0⟩ := nk_sm_inv h
      clear h
      match S, h0 with
      | v :: S', h0 =>
        obtain ⟨q, S2, rfl, h2⟩ := nk_pr_inv h0
        obtain ⟨sl, hq, h3⟩ := nx_ob_inv h2
        obtain ⟨k, hk2, h4⟩ := nk_sm_inv h3
        show nk_sm (nk_lk X.1 x) _
        rw [hf]
        show nk_obj (nx_enc s 0 sh) q f.1 _
        unfold nk_obj
        rw [nx_ge hq]
        show nk_if (Nat.beq f.1 f.1) (nk_fit _ f.2.2 v (nk_ins (nx_fs s.2.2 q 0 sl) f.2.1 v _))
        rw [show Nat.beq f.1 f.1 = true from Nat.beq_refl f.1]
        have hlen : f.2.1 < (nx_fs s.2.2 q 0 sl).length := by
          have h1 : nk_lg (nx_fs s.2.2 q 0 sl) f.2.1 = some (nx_sv s.2.2 q (0 + f.2.1) k) := by rw [nx_fs_lg, hk2]; rfl
          rw [nk_lg_eq] at h1
          exact (List.getElem?_eq_some_iff.mp h1).1
        have fi : ∀ x : Int32, k = 0 → nk_wp X kc Q nx L S2 (nx_enc (nx_uf s q f.2.1 x) 0 sh) 0 0 → nk_ins (nx_fs s.2.2 q 0 sl) f.2.1 (.int x) (fun fs => nk_wp X kc Q nx L S2 ((nx_enc s 0 sh).set q (.inr (f.1, fs))) 0 0) := by
          intro x e hx
          subst e
          refine nk_ins_mk _ _ _ _ hlen ?_
          show nk_wp X kc Q nx L S2 ((nx_enc s 0 sh).set q (.inr (f.1, (nx_fs s.2.2 q 0 sl).set f.2.1 (.int x)))) 0 0
          rw [nx_set_f x hq hk2]
          exact hx
        have fl : ∀ y : Int64, k = 1 → nk_wp X kc Q nx L S2 (nx_enc (nx_ug s q f.2.1 y) 0 sh) 0 0 → nk_ins (nx_fs s.2.2 q 0 sl) f.2.1 (.long y) (fun fs => nk_wp X kc Q nx L S2 ((nx_enc s 0 sh).set q (.inr (f.1, fs))) 0 0) := by
          intro y e hy
          subst e
          refine nk_ins_mk _ _ _ _ hlen ?_
          show nk_wp X kc Q nx L S2 ((nx_enc s 0 sh).set q (.inr (f.1, (nx_fs s.2.2 q 0 sl).set f.2.1 (.long y)))) 0 0
          rw [nx_set_g y hq hk2]
          exact hy
        obtain ⟨f1, f2, f3⟩ := f
        unfold nx_put at h4
        split at h4
        · have e1 : f3 = 0 := by assumption
          subst e1
          exact fi _ rfl h4
        · have e1 : f3 = 1 := by assumption
          subst e1
          exact ⟨h4.1, fi _ rfl h4.2⟩
        · have e1 : f3 = 2 := by assumption
          subst e1
          exact fl _ rfl h4
        · exact h4.elim
    case iaload =>
      obtain ⟨i, S1, rfl, h1⟩ := nk_pi_inv h
      obtain ⟨q, S2, rfl, h2⟩ := nk_pr_inv h1
      show nk_iar (nx_enc s 0 sh) q _
      unfold nk_iar
      unfold nx_ar at h2
      split at h2
      · rename_i c hc
        obtain ⟨h3, h4⟩ := nk_if_inv h2
        have := Nat.eq_of_beq_eq_true h3
        obtain ⟨t, m, l⟩ := c
        have e : t = 0 := this
        subst e
        rw [nx_ge hc]
        exact h4
      · exact h2.elim
      · rename_i hc
        rw [nx_lg, hc]
        exact h2
    case laload =>
      obtain ⟨i, S1, rfl, h1⟩ := nk_pi_inv h
      obtain ⟨q, S2, rfl, h2⟩ := nk_pr_inv h1
      obtain ⟨m, l, hq, h3⟩ := nx_ai_inv h2
      show nk_lar (nx_enc s 0 sh) q _
      unfold nk_lar
      rw [nx_ge hq]
      exact h3
    case iastore =>
      obtain ⟨v, S0, rfl, h1⟩ := nk_pi_inv h
      obtain ⟨i, S1, rfl, h2⟩ := nk_pi_inv h1
      obtain ⟨q, S2, rfl, h3⟩ := nk_pr_inv h2
      obtain ⟨m, l, hq, h4⟩ := nx_ai_inv h3
      show nk_iaw (nx_enc s 0 sh) q _
      unfold nk_iaw
      rw [nx_ge hq]
      refine ⟨h4.1, ?_⟩
      show nk_wp X kc Q nx L S2 ((nx_enc s 0 sh).set q (.inl (0, m, .inl (upd (s.1 q) i.toNatClampNeg v)))) 0 0
      rw [nx_set_i _ hq]
      exact h4.2
    case lastore =>
      obtain ⟨v, S0, rfl, h1⟩ := nk_pl_inv h
      obtain ⟨i, S1, rfl, h2⟩ := nk_pi_inv h1
      obtain ⟨q, S2, rfl, h3⟩ := nk_pr_inv h2
      obtain ⟨m, l, hq, h4⟩ := nx_ai_inv h3
      show nk_lar (nx_enc s 0 sh) q _
      unfold nk_lar
      rw [nx_ge hq]
      refine ⟨h4.1, ?_⟩
      show nk_wp X kc Q nx L S2 ((nx_enc s 0 sh).set q (.inl (1, m, .inr (.inl (vp_updL (s.2.1 q) i.toNatClampNeg v))))) 0 0
      rw [nx_set_j _ hq]
      exact h4.2
    all_goals exact h
  · exact h.elim
