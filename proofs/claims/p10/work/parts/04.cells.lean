/-! ===== cells, calls, returns ===== -/
/-- a method's tables: fields (class, place, kind), calls (values taken, receiver's class + 1 or 0, cells and slots it makes, what it does), ints, longs, classes made (class, fields at first), array types made, static arrays; how it returns (0 void, 1 int, 2 boolean, 3 long), whether it is a constructor, cells and slots that it may make -/
abbrev nk_T : Type := List (Nat × Nat × Nat × Nat) × List (Nat × Nat × Nat × Nat × Nat × nk_Ev) × List (Nat × Int32) × List (Nat × Int64) × List (Nat × Nat × List Value) × List (Nat × Nat) × List (Nat × Nat) × Nat × Bool × Nat × Nat
noncomputable def nk_if (b : Bool) (P : Prop) : Prop := match b with
  | true => P
  | false => False
noncomputable def nk_obj (h : nk_H) (q ci : Nat) (k : List Value → Prop) : Prop := match nk_lg h q with
  | some (.inr (cj, fs)) => nk_if (Nat.beq cj ci) (k fs)
  | _ => False
noncomputable def nk_iar (h : nk_H) (q : Nat) (k : Nat → (Nat → Int32) → Prop) : Prop := match nk_lg h q with
  | some (.inl (t, n, .inl f)) => nk_if (Nat.beq t 0) (k n f)
  | none => nk_sm (nk_lk nk_sta q) (fun r => k r.1 r.2.1)
  | _ => False
noncomputable def nk_iaw (h : nk_H) (q : Nat) (k : Nat → (Nat → Int32) → Prop) : Prop := match nk_lg h q with
  | some (.inl (t, n, .inl f)) => nk_if (Nat.beq t 0) (k n f)
  | _ => False
noncomputable def nk_lar (h : nk_H) (q : Nat) (k : Nat → (Nat → Int64) → Prop) : Prop := match nk_lg h q with
  | some (.inl (t, n, .inr (.inl f))) => nk_if (Nat.beq t 1) (k n f)
  | _ => False
noncomputable def nk_rar (h : nk_H) (q : Nat) (k : Nat → Nat → (Nat → Option Nat) → Prop) : Prop := match nk_lg h q with
  | some (.inl (t, n, .inr (.inr (.inr (.inr f))))) => k t n f
  | _ => False
noncomputable def nk_len (h : nk_H) (q : Nat) (k : Nat → Prop) : Prop := match nk_lg h q with
  | some (.inl (t, n, _)) => nk_sm (nk_lg nk_ty t) (fun _ => k n)
  | _ => False
noncomputable def nk_bo (x : Int32) (P : Prop) : Prop := (x = 0 ∨ x = 1) ∧ P
theorem nk_bo0 {P : Prop} (h : P) : nk_bo 0 P := ⟨Or.inl rfl, h⟩
theorem nk_bo1 {P : Prop} (h : P) : nk_bo 1 P := ⟨Or.inr rfl, h⟩
/-- what may be stored in a field of a kind: 0 int, 1 boolean, 2 long, 3 reference, 4 final reference in a constructor -/
noncomputable def nk_fit (ini : Bool) (kd : Nat) (v : Value) (P : Prop) : Prop := match kd with
  | 0 => (match v with
    | .int _ => P
    | _ => False)
  | 1 => (match v with
    | .int x => nk_bo x P
    | _ => False)
  | 2 => (match v with
    | .long _ => P
    | _ => False)
  | 3 => (match v with
    | .ref _ => P
    | _ => False)
  | 4 => (match v with
    | .ref _ => nk_if ini P
    | _ => False)
  | _ => False
noncomputable def nk_popn : Nat → List Value → List Value → (List Value → List Value → Prop) → Prop
  | 0, acc, S, k => k acc S
  | _ + 1, _, [], _ => False
  | n + 1, acc, v :: S, k => nk_popn n (v :: acc) S k
noncomputable def nk_cat : List Value → Nat
  | [] => 0
  | v :: S => v.category + nk_cat S
noncomputable def nk_add (c m : Nat) (k : Nat → Prop) : Prop := match m with
  | 0 => k c
  | m + 1 => k (c + (m + 1))
noncomputable def nk_ret (r : Option Value) (S : List Value) (k : List Value → Prop) : Prop := match r with
  | some v => k (v :: S)
  | none => k S
noncomputable def nk_rcv (rc : Nat) (as : List Value) (h : nk_H) (P : Prop) : Prop := match rc with
  | 0 => P
  | ci + 1 => nk_pr as (fun q _ => nk_obj h q ci (fun _ => P))
noncomputable def nk_call (X : nk_T) (key nx : Nat) (L : nk_Ls) (S : List Value) (h : nk_H) (c s : Nat) (K : nk_K) : Prop :=
  nk_sm (nk_lk X.2.1 key) (fun C => nk_popn C.1 [] S (fun as S => nk_rcv C.2.1 as h (nk_if (Nat.ble (nk_cat S) 8) (nk_add c C.2.2.1 (fun c' => nk_add s C.2.2.2.1 (fun s' => nk_if (Nat.ble c' X.2.2.2.2.2.2.2.2.2.1 && Nat.ble s' X.2.2.2.2.2.2.2.2.2.2)
    (C.2.2.2.2 as h (fun r h' => nk_ret r S (fun S => K nx L S h' c' s')))))))))
noncomputable def nk_end (X : nk_T) (c s : Nat) (P : Prop) : Prop := nk_if (Nat.beq c X.2.2.2.2.2.2.2.2.2.1 && Nat.ble s X.2.2.2.2.2.2.2.2.2.2) P
noncomputable def nk_room (X : nk_T) (c s : Nat) (P : Prop) : Prop := nk_if (Nat.ble c X.2.2.2.2.2.2.2.2.2.1 && Nat.ble s X.2.2.2.2.2.2.2.2.2.2) P
noncomputable def nk_sem (X : nk_T) (i : Instr) (nx : Nat) (tg : List Nat) (lit : Int32) (L : nk_Ls) (S : List Value) (h : nk_H) (c s : Nat) (K : nk_K) (Q : nk_Q) : Prop := match i with
  | .getfield x => nk_sm (nk_lk X.1 x) (fun f => nk_pr S (fun q S => nk_obj h q f.1 (fun fs => nk_sm (nk_lg fs f.2.1) (fun v => K nx L (v :: S) h c s))))
  | .putfield x => nk_sm (nk_lk X.1 x) (fun f => match S with
    | v :: S => nk_pr S (fun q S => nk_obj h q f.1 (fun fs => nk_fit X.2.2.2.2.2.2.2.2.1 f.2.2 v (nk_ins fs f.2.1 v (fun fs => K nx L S (h.set q (.inr (f.1, fs))) c s))))
    | [] => False)
  | .iaload => nk_pi S (fun i S => nk_pr S (fun q S => nk_iar h q (fun n f => vp_in i n ∧ K nx L (.int (f i.toNatClampNeg) :: S) h c s)))
  | .laload => nk_pi S (fun i S => nk_pr S (fun q S => nk_lar h q (fun n f => vp_in i n ∧ K nx L (.long (f i.toNatClampNeg) :: S) h c s)))
  | .aaload => nk_pi S (fun i S => nk_pr S (fun q S => nk_rar h q (fun t n f => nk_sm (nk_lk nk_cm t) (fun _ => vp_in i n ∧ K nx L (va_rf (f i.toNatClampNeg) :: S) h c s))))
  | .iastore => nk_pi S (fun v S => nk_pi S (fun i S => nk_pr S (fun q S => nk_iaw h q (fun n f => vp_in i n ∧ K nx L S (h.set q (.inl (0, n, .inl (upd f i.toNatClampNeg v)))) c s))))
  | .lastore => nk_pl S (fun v S => nk_pi S (fun i S => nk_pr S (fun q S => nk_lar h q (fun n f => vp_in i n ∧ K nx L S (h.set q (.inl (1, n, .inr (.inl (vp_updL f i.toNatClampNeg v))))) c s))))
  | .aastore => nk_pr S (fun v S => nk_pi S (fun i S => nk_pr S (fun q S => nk_rar h q (fun t n f => nk_sm (nk_lk nk_cm t) (fun ci => nk_obj h v ci (fun _ => vp_in i n ∧ K nx L S (h.set q (.inl (t, n, .inr (.inr (.inr (.inr (va_up f i.toNatClampNeg (some v)))))))) c s))))))
  | .arraylength => nk_pr S (fun q S => nk_len h q (fun n => K nx L (.int (Int32.ofNat n) :: S) h c s))
  | .getstatic x => nk_sm (nk_lk X.2.2.2.2.2.2.1 x) (fun q => K nx L (.ref q :: S) h c s)
  | .ldc x => nk_sm (nk_lk X.2.2.1 x) (fun v => K nx L (.int v :: S) h c s)
  | .ldc_w x => nk_sm (nk_lk X.2.2.1 x) (fun v => K nx L (.int v :: S) h c s)
  | .ldc2_w x => nk_sm (nk_lk X.2.2.2.1 x) (fun v => K nx L (.long v :: S) h c s)
  | .new x => nk_sm (nk_lk X.2.2.2.2.1 x) (fun d => ∃ (n : Nat) (h' : nk_H), h.length = n ∧ h ++ [.inr d] = h' ∧ nk_if (Nat.ble n 1000) (nk_room X (c + 1) (s + d.2.length) (K nx L (.ref n :: S) h' (c + 1) (s + d.2.length))))
  | .newarray ty => nk_pi S (fun v S => ¬ v < 0 ∧ v.toNatClampNeg ≤ 10000 ∧ ∃ (n z : Nat) (h' : nk_H), h.length = n ∧ v.toNatClampNeg = z ∧ nk_if (Nat.ble n 1000) (nk_room X (c + 1) (s + z) (match ty with
    | .int => h ++ [.inl (0, z, .inl (fun _ => 0))] = h' ∧ K nx L (.ref n :: S) h' (c + 1) (s + z)
    | .long => h ++ [.inl (1, z, .inr (.inl (fun _ => 0)))] = h' ∧ K nx L (.ref n :: S) h' (c + 1) (s + z)
    | _ => False)))
  | .anewarray x => nk_sm (nk_lk X.2.2.2.2.2.1 x) (fun t => nk_pi S (fun v S => ¬ v < 0 ∧ v.toNatClampNeg ≤ 10000 ∧ ∃ (n z : Nat) (h' : nk_H), h.length = n ∧ v.toNatClampNeg = z ∧ nk_if (Nat.ble n 1000) (nk_room X (c + 1) (s + z) (h ++ [.inl (t, z, .inr (.inr (.inr (.inr (fun _ => none)))))] = h' ∧ K nx L (.ref n :: S) h' (c + 1) (s + z)))))
  | .invokevirtual x => nk_call X (4 * x) nx L S h c s K
  | .invokespecial x => nk_call X (4 * x + 1) nx L S h c s K
  | .invokestatic x => nk_call X (4 * x + 2) nx L S h c s K
  | .ireturn => (match S with
    | [.int v] => nk_end X c s (match X.2.2.2.2.2.2.2.1 with
      | 1 => Q (some (.int v)) h
      | 2 => nk_bo v (Q (some (.int v)) h)
      | _ => False)
    | _ => False)
  | .lreturn => (match S with
    | [.long v] => nk_end X c s (match X.2.2.2.2.2.2.2.1 with
      | 3 => Q (some (.long v)) h
      | _ => False)
    | _ => False)
  | .return_ => (match S with
    | [] => nk_end X c s (match X.2.2.2.2.2.2.2.1 with
      | 0 => Q none h
      | _ => False)
    | _ => False)
  | i => nk_pure i nx tg lit L S (fun pc L S => K pc L S h c s)
/-- the row of a table at a place -/
noncomputable def nk_at (X : nk_T) (kc : Nat → Option nk_I) (pc : Nat) (L : nk_Ls) (S : List Value) (h : nk_H) (c s : Nat) (K : nk_K) (Q : nk_Q) : Prop := match kc pc with
  | some (i, _, nx, tg, lit) => nk_sem X i nx tg lit L S h c s K Q
  | none => False
/-- from here on the method comes to its end, with Q: the least such -/
noncomputable def nk_wp (X : nk_T) (kc : Nat → Option nk_I) (Q : nk_Q) (pc : Nat) (L : nk_Ls) (S : List Value) (h : nk_H) (c s : Nat) : Prop :=
  ∀ G : nk_K, (∀ (pc : Nat) (L : nk_Ls) (S : List Value) (h : nk_H) (c s : Nat) (K : nk_K), (∀ (pc : Nat) (L : nk_Ls) (S : List Value) (h : nk_H) (c s : Nat), K pc L S h c s → G pc L S h c s) → nk_at X kc pc L S h c s K Q → G pc L S h c s) → G pc L S h c s
theorem nk_s {X : nk_T} {kc : Nat → Option nk_I} {Q : nk_Q} {pc : Nat} {L : nk_Ls} {S : List Value} {h : nk_H} {c s : Nat} (k : nk_at X kc pc L S h c s (nk_wp X kc Q) Q) : nk_wp X kc Q pc L S h c s :=
  fun G hG => hG pc L S h c s (nk_wp X kc Q) (fun _ _ _ _ _ _ hw => hw G hG) k
noncomputable def nk_ent : List Value → Nat → nk_Ls
  | [], n => List.replicate n none
  | .long x :: as, n => some (.long x) :: none :: nk_ent as (n - 2)
  | .double x :: as, n => some (.double x) :: none :: nk_ent as (n - 2)
  | v :: as, n => some v :: nk_ent as (n - 1)
/-- what a method does -/
noncomputable def nk_ev (X : nk_T) (kc : Nat → Option nk_I) (nL : Nat) : nk_Ev := fun as h Q => nk_wp X kc Q 0 (nk_ent as nL) [] h 0 0
