/-! ===== the checker once more, its branches closed (nothing is put into a branch that isn't taken) ===== -/
abbrev nf_P : Type := Nat → List Nat → Int32 → na_L → List na_V → na_D → Option (List na_O)
noncomputable def nf_con : nf_P := fun nx _ lit L S D => some [(nx, L, .inl lit.toInt :: S, D)]
noncomputable def nf_lcon (v : Fin 2) : nf_P := fun nx _ _ L S D => na_pL nx L S D ((nk_l01 v).toInt, (nk_l01 v).toInt) false
noncomputable def nf_ild (j : Nat) : nf_P := fun nx _ _ L S D => na_ld L j (fun v => na_gd (na_bs (na_iv D.2.1 v)) (some [(nx, L, v :: S, D)]))
noncomputable def nf_lld (j : Nat) : nf_P := fun nx _ _ L S D => na_ld L j (fun v => na_gd (na_bn (na_iL v)) (some [(nx, L, v :: S, D)]))
noncomputable def nf_ald (j : Nat) : nf_P := fun nx _ _ L S D => na_ld L j (fun v => na_gd (na_bn (na_iR v)) (some [(nx, L, v :: S, D)]))
noncomputable def nf_ist (j : Nat) : nf_P := fun nx _ _ L S D => na_i1 S D (fun _ v S => (na_s1 L j v).map (fun L => [(nx, L, S, D)]))
noncomputable def nf_lst (j : Nat) : nf_P := fun nx _ _ L S D => na_l1 S (fun s S => (na_s2 L j (.inr (.inr (.inl s)))).map (fun L => [(nx, L, S, D)]))
noncomputable def nf_ast (j : Nat) : nf_P := fun nx _ _ L S D => (match S with
    | .inr (.inr (.inr (.inl q))) :: S => (na_s1 L j (.inr (.inr (.inr (.inl q))))).map (fun L => [(nx, L, S, D)])
    | _ => none)
noncomputable def nf_inc (j : Nat) : nf_P := fun nx _ lit L S D => na_ld L j (fun v => (match na_iv D.2.1 v with
    | some b => (na_s1 L j (na_nw D (na_ar 0 b (lit.toInt, lit.toInt)).1 (na_ar 0 b (lit.toInt, lit.toInt)).2).1).map (fun L => [(nx, L, S, na_if lit.toInt b v (na_nw D (na_ar 0 b (lit.toInt, lit.toInt)).1 (na_ar 0 b (lit.toInt, lit.toInt)).2).1 (na_nw D (na_ar 0 b (lit.toInt, lit.toInt)).1 (na_ar 0 b (lit.toInt, lit.toInt)).2).2)])
    | none => none))
noncomputable def nf_add : nf_P := fun nx _ _ L S D => na_i2 S D (fun a d _ _ S => na_pI nx L S D (na_ar 0 a d))
noncomputable def nf_sub : nf_P := fun nx _ _ L S D => na_i2 S D (fun a d x _ S => na_pS nx L S D (na_ar 1 a d) x a d)
noncomputable def nf_mul : nf_P := fun nx _ _ L S D => na_i2 S D (fun a d _ _ S => na_pI nx L S D (na_ar 2 a d))
noncomputable def nf_div : nf_P := fun nx _ _ L S D => na_i2 S D (fun _ _ _ y S => na_gd (na_nz D.2.1 D.2.2.1 y) (na_pI nx L S D na_full))
noncomputable def nf_bit : nf_P := fun nx _ _ L S D => na_i2 S D (fun _ _ _ _ S => na_pI nx L S D na_full)
noncomputable def nf_lbi : nf_P := fun nx _ _ L S D => na_l2 S (fun _ _ S => na_pL nx L S D na_lful false)
noncomputable def nf_ldi : nf_P := fun nx _ _ L S D => na_l2 S (fun _ y S => na_gd (na_nz D.2.1 D.2.2.1 (.inr (.inr (.inl y)))) (na_pL nx L S D na_lful false))
noncomputable def nf_lng : nf_P := fun nx _ _ L S D => na_l1 S (fun _ S => na_pL nx L S D na_lful false)
noncomputable def nf_i2l : nf_P := fun nx _ _ L S D => na_i1 S D (fun b v S => na_pL nx L S D b (na_nz D.2.1 D.2.2.1 v))
noncomputable def nf_l2i : nf_P := fun nx _ _ L S D => na_l1 S (fun _ S => na_pI nx L S D na_full)
noncomputable def nf_i2b : nf_P := fun nx _ _ L S D => na_i1 S D (fun _ _ S => na_pI nx L S D na_full)
noncomputable def nf_lcm : nf_P := fun nx _ _ L S D => na_l2 S (fun x y S => (match na_z0 D.2.1 y with
    | true => some [(nx, L, .inr (.inr (.inr (.inr x))) :: S, D)]
    | false => na_pI nx L S D (-1, 1)))
noncomputable def nf_dup : nf_P := fun nx _ _ L S D => (match S with
    | v :: S => na_gd (na_bs (na_iv D.2.1 v) || na_bn (na_iR v)) (some [(nx, L, v :: v :: S, D)])
    | _ => none)
noncomputable def nf_dp2 : nf_P := fun nx _ _ L S D => (match S with
    | v :: w :: S => (match na_iL v with
      | some _ => some [(nx, L, v :: v :: w :: S, D)]
      | none => na_gd (na_bs (na_iv D.2.1 v) && (na_bs (na_iv D.2.1 w) || na_bn (na_iR w))) (some [(nx, L, v :: w :: v :: w :: S, D)]))
    | v :: S => (match na_iL v with
      | some _ => some [(nx, L, v :: v :: S, D)]
      | none => none)
    | _ => none)
noncomputable def nf_pop : nf_P := fun nx _ _ L S D => (match S with
    | v :: S => na_gd (na_bs (na_iv D.2.1 v) || na_bn (na_iR v)) (some [(nx, L, S, D)])
    | _ => none)
noncomputable def nf_pp2 : nf_P := fun nx _ _ L S D => na_l1 S (fun _ S => some [(nx, L, S, D)])
noncomputable def nf_gto : nf_P := fun _ tg _ L S D => na_t1 tg (fun t => some [(t, L, S, D)])
noncomputable def nf_ifc (cd : ClassFile.Cond) : nf_P := fun nx tg _ L S D => na_t1 tg (fun t => na_i1 S D (fun _ x S => some (na_oy (na_cd cd D.2.1 D.2.2.1 x (.inl 0)) t L S D (na_oy (na_cn cd D.2.1 D.2.2.1 x (.inl 0)) nx L S D []))))
noncomputable def nf_icm (cd : ClassFile.Cond) : nf_P := fun nx tg _ L S D => na_t1 tg (fun t => na_i2 S D (fun _ _ x y S => some (na_oy (na_cd cd D.2.1 D.2.2.1 x y) t L S (na_kx D (na_lT cd D.2.2.2.1 x y)) (na_oy (na_cn cd D.2.1 D.2.2.1 x y) nx L S (na_kx D (na_lF cd D.2.2.2.1 x y)) []))))
noncomputable def nf_tsw (lo hi : Int) : nf_P := fun _ tg _ L S D => na_i1 S D (fun _ x S => (match tg with
    | d :: ts => some (na_sw L S D x d ts lo (na_oy (na_rf D.2.1 D.2.2.1 x na_mn (lo - 1)) d L S D (na_oy (na_rf D.2.1 D.2.2.1 x (hi + 1) na_mx) d L S D [])))
    | [] => none))
noncomputable def nf_lsw (ps : Array (Int × Int)) : nf_P := fun _ tg _ L S D => na_i1 S D (fun _ x S => (match tg with
    | d :: ts => some (na_lw L S D x ts (ps.toList.map (fun p => p.1)) [(d, L, S, D)])
    | [] => none))
abbrev nf_M : Type := na_Cf → nk_T → Nat → na_L → List na_V → na_D → Option (List na_O)
noncomputable def nf_gf (x : Nat) : nf_M := fun cf X nx L S D => (nk_lk X.1 x).bind (fun f => (na_r1 S).bind (fun p => (na_ob cf.1.1 p.1 f.1).bind (fun sl => (nk_lg sl f.2.1).bind (fun k => match k with
    | 0 => (na_ix cf.1.2.1 p.1 f.2.1).bind (fun i => (na_get D.2.2.2.2.1 i).bind (fun v => some [(nx, L, v :: p.2, D)]))
    | 1 => na_pL nx L p.2 D na_lful false
    | r + 2 => some [(nx, L, .inr (.inr (.inr (.inl r))) :: p.2, D)]))))
noncomputable def nf_pf (x : Nat) : nf_M := fun cf X nx L S D => na_me cf X (.putfield x) nx L S D
noncomputable def nf_ial : nf_M := fun cf _ nx L S D => (na_ii S D).bind (fun a => (na_r1 a.2.2).bind (fun p => match na_aq cf.1.1 0 p.1 with
    | some n => na_gd (na_ble 0 a.1.1 && na_ble (a.1.2 + 1) n.1 && Nat.ble p.1 999) (match na_kf D.2.2.2.1 p.1 (na_nm a.1 a.2.1) with
      | some v => some [(nx, L, v :: p.2, D)]
      | none => some [(nx, L, (na_nw D (cf.1.2.2.2.1 p.1).1 (cf.1.2.2.2.1 p.1).2).1 :: p.2, na_ak (na_nw D (cf.1.2.2.2.1 p.1).1 (cf.1.2.2.2.1 p.1).2).2 (p.1, na_nm a.1 a.2.1, (na_nw D (cf.1.2.2.2.1 p.1).1 (cf.1.2.2.2.1 p.1).2).1))])
    | none => (match nk_lg cf.1.1 p.1 with
      | none => (nk_lk nk_sta p.1).bind (fun z => na_gd (na_ble 0 a.1.1 && na_ble (a.1.2 + 1) z.1) (na_pI nx L p.2 D na_full))
      | some _ => none)))
noncomputable def nf_lal : nf_M := fun cf _ nx L S D => (na_ii S D).bind (fun a => (na_r1 a.2.2).bind (fun p => (na_aq cf.1.1 1 p.1).bind (fun n => na_gd (na_ble 0 a.1.1 && na_ble (a.1.2 + 1) n.1) (na_pL nx L p.2 D na_lful false))))
noncomputable def nf_aal : nf_M := fun cf X nx L S D => na_me cf X .aaload nx L S D
noncomputable def nf_ias : nf_M := fun cf _ nx L S D => (na_ii S D).bind (fun w => (na_ii w.2.2 D).bind (fun a => (na_r1 a.2.2).bind (fun p => (na_aq cf.1.1 0 p.1).bind (fun n => na_gd (na_ble 0 a.1.1 && na_ble (a.1.2 + 1) n.1 && (na_ble (cf.1.2.2.2.1 p.1).1 w.1.1 && na_ble w.1.2 (cf.1.2.2.2.1 p.1).2) && !(Nat.beq p.1 cf.1.2.2.2.2.1) && !(cf.1.2.2.2.2.2.2.2.1.any (Nat.beq p.1))) (some [(nx, L, p.2, (D.1, D.2.1, D.2.2.1, na_kd D.2.2.2.1 p.1, D.2.2.2.2.1, p.1 :: D.2.2.2.2.2.1, 0))])))))
noncomputable def nf_las : nf_M := fun cf X nx L S D => na_me cf X .lastore nx L S D
noncomputable def nf_len : nf_M := fun cf X nx L S D => na_me cf X .arraylength nx L S D
noncomputable def nf_gst (x : Nat) : nf_M := fun _ X nx L S D => (nk_lk X.2.2.2.2.2.2.1 x).bind (fun q => some [(nx, L, .inr (.inr (.inr (.inl q))) :: S, D)])
noncomputable def nf_ldc (x : Nat) : nf_M := fun _ X nx L S D => (nk_lk X.2.2.1 x).bind (fun v => some [(nx, L, .inl v.toInt :: S, D)])
noncomputable def nf_ld2 (x : Nat) : nf_M := fun _ X nx L S D => (nk_lk X.2.2.2.1 x).bind (fun v => na_pL nx L S D (v.toInt, v.toInt) false)
/-- what one step does, out of the row alone -/
abbrev nf_A : Type := na_Cf → na_Md → nk_I → na_St → Option (List na_St)
noncomputable def nf_p (f : nf_P) : nf_A := fun _ _ row st => (f row.2.2.1 row.2.2.2.1 row.2.2.2.2 st.2.2.2.1 st.2.2.2.2.1 st.2.2.2.2.2).bind (fun l => some (l.map (fun o => (st.1, st.2.1, o))))
noncomputable def nf_m (f : nf_M) : nf_A := fun cf m row st => (f cf m.1 row.2.2.1 st.2.2.2.1 st.2.2.2.2.1 st.2.2.2.2.2).bind (fun l => some (l.map (fun o => (st.1, st.2.1, o))))
noncomputable def nf_ca (key : Nat) : nf_A := fun cf m row st => na_ca cf m key row.2.2.1 st.1 st.2.1 st.2.2.2.1 st.2.2.2.2.1 st.2.2.2.2.2
noncomputable def nf_re (i : Instr) : nf_A := fun _ m _ st => (na_rv m.1 i st.2.2.2.2.1 st.2.2.2.2.2).bind (fun ov => match st.1 with
    | f :: fr => some [(fr, f.1, f.2.1, f.2.2.1, na_po ov f.2.2.2, st.2.2.2.2.2)]
    | [] => none)
noncomputable def nf_no : nf_A := fun _ _ _ _ => none
noncomputable def nf_of (i : Instr) : Option nf_A := match i with
  | .iconst _ => some (nf_p nf_con)
  | .bipush _ => some (nf_p nf_con)
  | .sipush _ => some (nf_p nf_con)
  | .lconst v => some (nf_p (nf_lcon v))
  | .iload j => some (nf_p (nf_ild j))
  | .iload_n j => some (nf_p (nf_ild j.val))
  | .lload j => some (nf_p (nf_lld j))
  | .lload_n j => some (nf_p (nf_lld j.val))
  | .aload j => some (nf_p (nf_ald j))
  | .aload_n j => some (nf_p (nf_ald j.val))
  | .istore j => some (nf_p (nf_ist j))
  | .istore_n j => some (nf_p (nf_ist j.val))
  | .lstore j => some (nf_p (nf_lst j))
  | .lstore_n j => some (nf_p (nf_lst j.val))
  | .astore j => some (nf_p (nf_ast j))
  | .astore_n j => some (nf_p (nf_ast j.val))
  | .iinc j _ => some (nf_p (nf_inc j))
  | .iadd => some (nf_p nf_add)
  | .isub => some (nf_p nf_sub)
  | .imul => some (nf_p nf_mul)
  | .idiv => some (nf_p nf_div)
  | .irem => some (nf_p nf_div)
  | .iand => some (nf_p nf_bit)
  | .ior => some (nf_p nf_bit)
  | .ishl => some (nf_p nf_bit)
  | .ishr => some (nf_p nf_bit)
  | .iushr => some (nf_p nf_bit)
  | .ladd => some (nf_p nf_lbi)
  | .lsub => some (nf_p nf_lbi)
  | .lmul => some (nf_p nf_lbi)
  | .ldiv => some (nf_p nf_ldi)
  | .lrem => some (nf_p nf_ldi)
  | .lneg => some (nf_p nf_lng)
  | .i2l => some (nf_p nf_i2l)
  | .l2i => some (nf_p nf_l2i)
  | .i2b => some (nf_p nf_i2b)
  | .lcmp => some (nf_p nf_lcm)
  | .dup => some (nf_p nf_dup)
  | .dup2 => some (nf_p nf_dp2)
  | .pop => some (nf_p nf_pop)
  | .pop2 => some (nf_p nf_pp2)
  | .goto _ => some (nf_p nf_gto)
  | .ifCond cd _ => some (nf_p (nf_ifc cd))
  | .if_icmp cd _ => some (nf_p (nf_icm cd))
  | .tableswitch _ lo hi _ => some (nf_p (nf_tsw lo hi))
  | .lookupswitch _ ps => some (nf_p (nf_lsw ps))
  | .getfield x => some (nf_m (nf_gf x))
  | .putfield x => some (nf_m (nf_pf x))
  | .iaload => some (nf_m nf_ial)
  | .laload => some (nf_m nf_lal)
  | .aaload => some (nf_m nf_aal)
  | .iastore => some (nf_m nf_ias)
  | .lastore => some (nf_m nf_las)
  | .arraylength => some (nf_m nf_len)
  | .getstatic x => some (nf_m (nf_gst x))
  | .ldc x => some (nf_m (nf_ldc x))
  | .ldc_w x => some (nf_m (nf_ldc x))
  | .ldc2_w x => some (nf_m (nf_ld2 x))
  | .invokevirtual x => some (nf_ca (4 * x))
  | .invokespecial x => some (nf_ca (4 * x + 1))
  | .invokestatic x => some (nf_ca (4 * x + 2))
  | .ireturn => some (nf_re .ireturn)
  | .lreturn => some (nf_re .lreturn)
  | .return_ => some (nf_re .return_)
  | _ => none
noncomputable def nf_do (o : Option nf_A) (cf : na_Cf) (m : na_Md) (row : nk_I) (st : na_St) : Option (List na_St) := match o with
  | some f => f cf m row st
  | none => none
noncomputable def nf_step (cf : na_Cf) (st : na_St) : Option (List na_St) := (nk_lk cf.2.1 st.2.1).bind (fun m => (m.2.1 st.2.2.1).bind (fun row => nf_do (nf_of row.1) cf m row st))
theorem nf_step_eq (cf : na_Cf) (st : na_St) : nf_step cf st = na_step cf st := by
  unfold nf_step na_step
  cases nk_lk cf.2.1 st.2.1 with
  | none => rfl
  | some m =>
    show (m.2.1 st.2.2.1).bind (fun row => nf_do (nf_of row.1) cf m row st) = (m.2.1 st.2.2.1).bind _
    cases m.2.1 st.2.2.1 with
    | none => rfl
    | some row =>
      obtain ⟨i, row⟩ := row
      cases i <;> rfl
noncomputable def nf_go (cf : na_Cf) (sp : List (Nat × Nat)) (fin : na_St → Option Bool) : Nat → na_St → Bool
  | 0, _ => false
  | f + 1, st => (match na_spl sp st with
    | some l => l.all (nf_go cf sp fin f)
    | none => (match fin st with
      | some b => b
      | none => (match nf_step cf st with
        | some l => l.all (nf_go cf sp fin f)
        | none => false)))
theorem nf_go_eq (cf : na_Cf) (sp : List (Nat × Nat)) (fin : na_St → Option Bool) : ∀ n : Nat, nf_go cf sp fin n = na_go cf sp fin n
  | 0 => by
    funext st
    unfold nf_go na_go
    rfl
  | n + 1 => by
    funext st
    unfold nf_go na_go
    first | (rw [nf_step_eq, nf_go_eq cf sp fin n]; rfl) | rw [nf_step_eq, nf_go_eq cf sp fin n]
