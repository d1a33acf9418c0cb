/-! ===== THE WALK BY A PICTURE: instructions over lists of values and of cells by handles ===== -/
abbrev nk_A : Type := (Nat → Int32) ⊕ (Nat → Int64) ⊕ (Nat → UInt32) ⊕ (Nat → UInt64) ⊕ (Nat → Option Nat)
/-- a cell: an array (its type's number, its length, what it holds), or an object (its class's number, its fields) -/
abbrev nk_O : Type := (Nat × Nat × nk_A) ⊕ (Nat × List Value)
abbrev nk_H : Type := List nk_O
abbrev nk_Ls : Type := List (Option Value)
abbrev nk_P : Type := Nat → nk_Ls → List Value → Prop
abbrev nk_K : Type := Nat → nk_Ls → List Value → nk_H → Nat → Nat → Prop
abbrev nk_Q : Type := Option Value → nk_H → Prop
abbrev nk_Ev : Type := List Value → nk_H → nk_Q → Prop
/-- an instruction: its length, what comes behind it, where it may go, its number -/
abbrev nk_I : Type := Instr × Nat × Nat × List Nat × Int32
noncomputable def nk_br (c A B : Prop) : Prop := (c → A) ∧ (¬ c → B)
theorem nk_br.mk {c A B : Prop} (a : c → A) (b : ¬ c → B) : nk_br c A B := ⟨a, b⟩
theorem nk_br.t {c A B : Prop} (h : c) (a : A) : nk_br c A B := ⟨fun _ => a, fun n => absurd h n⟩
theorem nk_br.f {c A B : Prop} (h : ¬ c) (b : B) : nk_br c A B := ⟨fun n => absurd n h, fun _ => b⟩
noncomputable def nk_lk {α : Type} : List (Nat × α) → Nat → Option α
  | [], _ => none
  | q :: l, i => bif Nat.beq q.1 i then some q.2 else nk_lk l i
noncomputable def nk_sm {α : Type} (x : Option α) (k : α → Prop) : Prop := match x with
  | some a => k a
  | none => False
noncomputable def nk_lg {α : Type} : List α → Nat → Option α
  | [], _ => none
  | a :: _, 0 => some a
  | _ :: l, i + 1 => nk_lg l i
noncomputable def nk_get : nk_Ls → Nat → Option Value
  | [], _ => none
  | a :: _, 0 => a
  | _ :: l, i + 1 => nk_get l i
noncomputable def nk_ins {α : Type} : List α → Nat → α → (List α → Prop) → Prop
  | [], _, _, _ => False
  | _ :: l, 0, v, k => k (v :: l)
  | a :: l, i + 1, v, k => nk_ins l i v (fun l' => k (a :: l'))
noncomputable def nk_cut (L : nk_Ls) (i : Nat) (k : nk_Ls → Prop) : Prop := match i with
  | 0 => k L
  | j + 1 => match nk_get L j with
    | some (.long _) => nk_ins L j none k
    | some (.double _) => nk_ins L j none k
    | _ => k L
noncomputable def nk_st1 (L : nk_Ls) (i : Nat) (v : Value) (k : nk_Ls → Prop) : Prop := nk_cut L i (fun L1 => nk_ins L1 i (some v) k)
noncomputable def nk_st2 (L : nk_Ls) (i : Nat) (v : Value) (k : nk_Ls → Prop) : Prop := nk_cut L i (fun L1 => nk_ins L1 i (some v) (fun L2 => nk_ins L2 (i + 1) none k))
noncomputable def nk_ldi (L : nk_Ls) (i : Nat) (k : Int32 → Prop) : Prop := match nk_get L i with
  | some (.int x) => k x
  | _ => False
noncomputable def nk_ldl (L : nk_Ls) (i : Nat) (k : Int64 → Prop) : Prop := match nk_get L i with
  | some (.long x) => k x
  | _ => False
noncomputable def nk_ldr (L : nk_Ls) (i : Nat) (k : Nat → Prop) : Prop := match nk_get L i with
  | some (.ref x) => k x
  | _ => False
noncomputable def nk_pi (S : List Value) (k : Int32 → List Value → Prop) : Prop := match S with
  | .int x :: S => k x S
  | _ => False
noncomputable def nk_pl (S : List Value) (k : Int64 → List Value → Prop) : Prop := match S with
  | .long x :: S => k x S
  | _ => False
noncomputable def nk_pr (S : List Value) (k : Nat → List Value → Prop) : Prop := match S with
  | .ref x :: S => k x S
  | _ => False
/-- two numbers: the lower one first -/
noncomputable def nk_pii (S : List Value) (k : Int32 → Int32 → List Value → Prop) : Prop := nk_pi S (fun y S => nk_pi S (fun x S => k x y S))
noncomputable def nk_pll (S : List Value) (k : Int64 → Int64 → List Value → Prop) : Prop := nk_pl S (fun y S => nk_pl S (fun x S => k x y S))
noncomputable def nk_l01 (v : Fin 2) : Int64 := match v with
  | 0 => 0
  | 1 => 1
noncomputable def nk_c0 (cd : ClassFile.Cond) (x : Int32) (T F : Prop) : Prop := match cd with
  | .eq => nk_br (x = 0) T F
  | .ne => nk_br (x = 0) F T
  | .lt => nk_br (x < 0) T F
  | .ge => nk_br (0 ≤ x) T F
  | .gt => nk_br (0 < x) T F
  | .le => nk_br (x ≤ 0) T F
noncomputable def nk_c2 (cd : ClassFile.Cond) (x y : Int32) (T F : Prop) : Prop := match cd with
  | .eq => nk_br (x = y) T F
  | .ne => nk_br (x = y) F T
  | .lt => nk_br (x < y) T F
  | .ge => nk_br (y ≤ x) T F
  | .gt => nk_br (y < x) T F
  | .le => nk_br (x ≤ y) T F
noncomputable def nk_t1 (tg : List Nat) (k : Nat → Prop) : Prop := match tg with
  | [t] => k t
  | _ => False
/-- a switch: its places lo, lo + 1 .. -/
noncomputable def nk_sw (tg : List Nat) (lo hi : Int) (x : Int32) (k : Nat → Prop) : Prop := match tg with
  | [] => False
  | d :: ts => (x.toInt < lo ∨ hi < x.toInt → k d) ∧ ∀ (j t : Nat), nk_lg ts j = some t → x.toInt = lo + j → k t
/-- a switch by keys -/
noncomputable def nk_lw (tg : List Nat) (ks : List Int) (x : Int32) (k : Nat → Prop) : Prop := match tg with
  | [] => False
  | d :: ts => ((∀ a ∈ ks, x.toInt ≠ a) → k d) ∧ ∀ (j t : Nat) (a : Int), nk_lg ts j = some t → nk_lg ks j = some a → x.toInt = a → k t
/-- what touches neither cells nor calls -/
noncomputable def nk_pure (i : Instr) (nx : Nat) (tg : List Nat) (lit : Int32) (L : nk_Ls) (S : List Value) (K : nk_P) : Prop := match i with
  | .iconst _ => K nx L (.int lit :: S)
  | .bipush _ => K nx L (.int lit :: S)
  | .sipush _ => K nx L (.int lit :: S)
  | .lconst v => K nx L (.long (nk_l01 v) :: S)
  | .iload j => nk_ldi L j (fun x => K nx L (.int x :: S))
  | .iload_n j => nk_ldi L j.val (fun x => K nx L (.int x :: S))
  | .lload j => nk_ldl L j (fun x => K nx L (.long x :: S))
  | .lload_n j => nk_ldl L j.val (fun x => K nx L (.long x :: S))
  | .aload j => nk_ldr L j (fun x => K nx L (.ref x :: S))
  | .aload_n j => nk_ldr L j.val (fun x => K nx L (.ref x :: S))
  | .istore j => nk_pi S (fun x S => nk_st1 L j (.int x) (fun L => K nx L S))
  | .istore_n j => nk_pi S (fun x S => nk_st1 L j.val (.int x) (fun L => K nx L S))
  | .lstore j => nk_pl S (fun x S => nk_st2 L j (.long x) (fun L => K nx L S))
  | .lstore_n j => nk_pl S (fun x S => nk_st2 L j.val (.long x) (fun L => K nx L S))
  | .astore j => nk_pr S (fun x S => nk_st1 L j (.ref x) (fun L => K nx L S))
  | .astore_n j => nk_pr S (fun x S => nk_st1 L j.val (.ref x) (fun L => K nx L S))
  | .iinc j _ => nk_ldi L j (fun x => nk_st1 L j (.int (x + lit)) (fun L => K nx L S))
  | .iadd => nk_pii S (fun x y S => K nx L (.int (x + y) :: S))
  | .isub => nk_pii S (fun x y S => K nx L (.int (x - y) :: S))
  | .imul => nk_pii S (fun x y S => K nx L (.int (x * y) :: S))
  | .idiv => nk_pii S (fun x y S => ¬ y = 0 ∧ K nx L (.int (x / y) :: S))
  | .irem => nk_pii S (fun x y S => ¬ y = 0 ∧ K nx L (.int (x - x / y * y) :: S))
  | .iand => nk_pii S (fun x y S => K nx L (.int (x &&& y) :: S))
  | .ior => nk_pii S (fun x y S => K nx L (.int (x ||| y) :: S))
  | .ishl => nk_pii S (fun x y S => K nx L (.int (x <<< (y &&& 31)) :: S))
  | .ishr => nk_pii S (fun x y S => K nx L (.int (x >>> (y &&& 31)) :: S))
  | .iushr => nk_pii S (fun x y S => K nx L (.int ((x.toUInt32 >>> (y.toUInt32 &&& Int32.toUInt32 31)).toInt32) :: S))
  | .ladd => nk_pll S (fun x y S => K nx L (.long (x + y) :: S))
  | .lsub => nk_pll S (fun x y S => K nx L (.long (x - y) :: S))
  | .lmul => nk_pll S (fun x y S => K nx L (.long (x * y) :: S))
  | .ldiv => nk_pll S (fun x y S => ¬ y = 0 ∧ K nx L (.long (x / y) :: S))
  | .lrem => nk_pll S (fun x y S => ¬ y = 0 ∧ K nx L (.long (x - x / y * y) :: S))
  | .lneg => nk_pl S (fun x S => K nx L (.long (-x) :: S))
  | .i2l => nk_pi S (fun x S => K nx L (.long x.toInt64 :: S))
  | .l2i => nk_pl S (fun x S => K nx L (.int x.toInt32 :: S))
  | .i2b => nk_pi S (fun x S => K nx L (.int x.toInt8.toInt32 :: S))
  | .lcmp => nk_pll S (fun x y S => K nx L (.int (lg_cmp x y) :: S))
  | .dup => (match S with
    | .int x :: S => K nx L (.int x :: .int x :: S)
    | .ref x :: S => K nx L (.ref x :: .ref x :: S)
    | _ => False)
  | .dup2 => (match S with
    | .long x :: S => K nx L (.long x :: .long x :: S)
    | .int x :: .int y :: S => K nx L (.int x :: .int y :: .int x :: .int y :: S)
    | .int x :: .ref y :: S => K nx L (.int x :: .ref y :: .int x :: .ref y :: S)
    | _ => False)
  | .pop => (match S with
    | .int _ :: S => K nx L S
    | .ref _ :: S => K nx L S
    | _ => False)
  | .pop2 => nk_pl S (fun _ S => K nx L S)
  | .goto _ => nk_t1 tg (fun t => K t L S)
  | .ifCond cd _ => nk_t1 tg (fun t => nk_pi S (fun x S => nk_c0 cd x (K t L S) (K nx L S)))
  | .if_icmp cd _ => nk_t1 tg (fun t => nk_pii S (fun x y S => nk_c2 cd x y (K t L S) (K nx L S)))
  | .tableswitch _ lo hi _ => nk_pi S (fun x S => nk_sw tg lo hi x (fun t => K t L S))
  | .lookupswitch _ ps => nk_pi S (fun x S => nk_lw tg (ps.toList.map (fun p => p.1)) x (fun t => K t L S))
  | _ => False
/-- what a row of a method's table must tell of its bytes -/
noncomputable def nk_ok (pc : Nat) (i : Instr) (n nx : Nat) (tg : List Nat) (lit : Int32) : Bool := decide (nx = pc + n) && match i with
  | .iconst v => decide (n = 1) && decide (Int32.ofInt v = lit)
  | .bipush v => decide (n = 2) && decide ((Int8.ofInt v).toInt32 = lit)
  | .sipush v => decide (n = 3) && decide ((Int16.ofInt v).toInt32 = lit)
  | .lconst v => decide (n = 1) && decide (Int64.ofNat v.val = nk_l01 v)
  | .iload _ => decide (n = 2)
  | .lload _ => decide (n = 2)
  | .aload _ => decide (n = 2)
  | .istore _ => decide (n = 2)
  | .lstore _ => decide (n = 2)
  | .astore _ => decide (n = 2)
  | .iinc _ v => decide (n = 3) && decide (Int32.ofInt v = lit)
  | .goto o => decide (n = 3) && decide (tg = [((pc : Int) + o).toNat] ∧ (pc : Int) + o = (((pc : Int) + o).toNat : Int))
  | .ifCond _ o => decide (n = 3) && decide (tg = [((pc : Int) + o).toNat] ∧ (pc : Int) + o = (((pc : Int) + o).toNat : Int))
  | .if_icmp _ o => decide (n = 3) && decide (tg = [((pc : Int) + o).toNat] ∧ (pc : Int) + o = (((pc : Int) + o).toNat : Int))
  | .tableswitch d lo hi os => decide (tg = ((pc : Int) + d).toNat :: os.toList.map (fun o => ((pc : Int) + o).toNat)) && decide ((pc : Int) + d = (((pc : Int) + d).toNat : Int)) && os.toList.all (fun o => decide ((pc : Int) + o = (((pc : Int) + o).toNat : Int))) && decide (hi - lo + 1 = os.size)
  | .getfield _ => decide (n = 3)
  | .putfield _ => decide (n = 3)
  | .getstatic _ => decide (n = 3)
  | .invokevirtual _ => decide (n = 3)
  | .invokespecial _ => decide (n = 3)
  | .invokestatic _ => decide (n = 3)
  | .new _ => decide (n = 3)
  | .anewarray _ => decide (n = 3)
  | .newarray _ => decide (n = 2)
  | .ldc _ => decide (n = 2)
  | .ldc_w _ => decide (n = 3)
  | .ldc2_w _ => decide (n = 3)
  | .lookupswitch d ps => decide (tg = ((pc : Int) + d).toNat :: ps.toList.map (fun p => ((pc : Int) + p.2).toNat)) && decide ((pc : Int) + d = (((pc : Int) + d).toNat : Int)) && ps.toList.all (fun p => decide ((pc : Int) + p.2 = (((pc : Int) + p.2).toNat : Int))) && (ps.toList.zip (ps.toList.drop 1)).all (fun (a, next) => a.1 < next.1)
  | _ => decide (n = 1)
