/-! ===== bytes are read off a list (not each by its place) ===== -/
theorem nd_u1 {code : ByteArray} {pc : Nat} {b : UInt8} {l : List UInt8} (h : code.data.toList.drop pc = b :: l) : (Reader.u1 : Decoder Nat) code pc = .ok (b.toNat, pc + 1) := by
  have h0 : code.data.toList[pc]? = some b := by
    first
      | (rw [← List.head?_drop, h]; rfl)
      | (have := congrArg (fun x => x[0]?) h; simpa [List.getElem?_drop] using this)
  obtain ⟨h1, h2⟩ := List.getElem?_eq_some_iff.mp h0
  have hlt : pc < code.size := h1
  show (dite (pc < code.size) (fun h => (do set (pc + 1); pure (code[pc]'h).toNat : Decoder Nat)) (fun _ => throw (HasTruncated.truncated pc))) code pc = _
  rw [dif_pos hlt]
  show Except.ok ((code[pc]'hlt).toNat, pc + 1) = _
  have h3 : code[pc]'hlt = b := h2
  rw [h3]
theorem nd_bi {α β : Type} {r : Decoder α} {f : α → Decoder β} {code : ByteArray} {p q : Nat} {x : α} (h : r code p = .ok (x, q)) : (r >>= f) code p = f x code q := by
  show (r code p >>= fun y => f y.1 code y.2) = _
  rw [h]
  rfl
theorem nd_map {α β : Type} {r : Decoder α} {f : α → β} {code : ByteArray} {p q : Nat} {x : α} (h : r code p = .ok (x, q)) : (f <$> r) code p = .ok (f x, q) := by
  show (r code p >>= fun y => pure (f y.1, y.2)) = _
  rw [h]
  rfl
theorem nd_s1 {code : ByteArray} {p q x : Nat} (h : (Reader.u1 : Decoder Nat) code p = .ok (x, q)) : (Reader.s1 : Decoder Int) code p = .ok (Reader.signed 8 x, q) := nd_map h
theorem nd_u2 {code : ByteArray} {p q r x y : Nat} (h : (Reader.u1 : Decoder Nat) code p = .ok (x, q)) (h2 : (Reader.u1 : Decoder Nat) code q = .ok (y, r)) : (Reader.u2 : Decoder Nat) code p = .ok (x * 256 + y, r) := (nd_bi h).trans ((nd_bi h2).trans rfl)
theorem nd_s2 {code : ByteArray} {p q r x y : Nat} (h : (Reader.u1 : Decoder Nat) code p = .ok (x, q)) (h2 : (Reader.u1 : Decoder Nat) code q = .ok (y, r)) : (Reader.s2 : Decoder Int) code p = .ok (Reader.signed 16 (x * 256 + y), r) := nd_map (nd_u2 h h2)
noncomputable def nd_1 : List (Nat × Instr) := [(42, .aload_n 0), (43, .aload_n 1), (44, .aload_n 2), (45, .aload_n 3), (26, .iload_n 0), (27, .iload_n 1), (28, .iload_n 2), (29, .iload_n 3), (3, .iconst 0), (4, .iconst 1), (2, .iconst (-1)), (5, .iconst 2), (6, .iconst 3), (7, .iconst 4), (8, .iconst 5), (46, .iaload), (96, .iadd), (172, .ireturn), (59, .istore_n 0), (60, .istore_n 1), (61, .istore_n 2), (62, .istore_n 3), (87, .pop), (79, .iastore), (104, .imul), (105, .lmul), (133, .i2l), (30, .lload_n 0), (31, .lload_n 1), (32, .lload_n 2), (33, .lload_n 3), (177, .return_), (9, .lconst 0), (10, .lconst 1), (100, .isub), (50, .aaload), (47, .laload), (148, .lcmp), (97, .ladd), (63, .lstore_n 0), (64, .lstore_n 1), (65, .lstore_n 2), (66, .lstore_n 3), (126, .iand), (89, .dup), (173, .lreturn), (108, .idiv), (92, .dup2), (109, .ldiv), (80, .lastore), (112, .irem), (122, .ishr), (88, .pop2), (124, .iushr), (136, .l2i), (120, .ishl), (128, .ior), (190, .arraylength), (83, .aastore), (101, .lsub), (113, .lrem), (117, .lneg), (145, .i2b), (75, .astore_n 0), (76, .astore_n 1), (77, .astore_n 2), (78, .astore_n 3)]
noncomputable def nd_2 : List (Nat × (Nat → Instr)) := [(21, fun c => .iload c), (16, fun c => .bipush (Reader.signed 8 c)), (54, fun c => .istore c), (22, fun c => .lload c), (55, fun c => .lstore c), (25, fun c => .aload c), (58, fun c => .astore c), (18, fun c => .ldc c)]
noncomputable def nd_3 : List (Nat × (Nat → Nat → Instr)) := [(180, fun c d => .getfield (c * 256 + d)), (182, fun c d => .invokevirtual (c * 256 + d)), (167, fun c d => .goto (Reader.signed 16 (c * 256 + d))), (184, fun c d => .invokestatic (c * 256 + d)), (132, fun c d => .iinc c (Reader.signed 8 d)), (181, fun c d => .putfield (c * 256 + d)), (153, fun c d => .ifCond .eq (Reader.signed 16 (c * 256 + d))), (154, fun c d => .ifCond .ne (Reader.signed 16 (c * 256 + d))), (155, fun c d => .ifCond .lt (Reader.signed 16 (c * 256 + d))), (156, fun c d => .ifCond .ge (Reader.signed 16 (c * 256 + d))), (157, fun c d => .ifCond .gt (Reader.signed 16 (c * 256 + d))), (158, fun c d => .ifCond .le (Reader.signed 16 (c * 256 + d))), (159, fun c d => .if_icmp .eq (Reader.signed 16 (c * 256 + d))), (160, fun c d => .if_icmp .ne (Reader.signed 16 (c * 256 + d))), (161, fun c d => .if_icmp .lt (Reader.signed 16 (c * 256 + d))), (162, fun c d => .if_icmp .ge (Reader.signed 16 (c * 256 + d))), (163, fun c d => .if_icmp .gt (Reader.signed 16 (c * 256 + d))), (164, fun c d => .if_icmp .le (Reader.signed 16 (c * 256 + d))), (17, fun c d => .sipush (Reader.signed 16 (c * 256 + d))), (183, fun c d => .invokespecial (c * 256 + d)), (20, fun c d => .ldc2_w (c * 256 + d)), (187, fun c d => .new (c * 256 + d)), (19, fun c d => .ldc_w (c * 256 + d)), (189, fun c d => .anewarray (c * 256 + d)), (178, fun c d => .getstatic (c * 256 + d))]
abbrev nd_R (code : ByteArray) (p b q : Nat) : Prop := (Reader.u1 : Decoder Nat) code p = .ok (b, q)
set_option maxRecDepth 100000 in
theorem nd_1_ok : ∀ e ∈ nd_1, ∀ (code : ByteArray) (pc p : Nat), nd_R code pc e.1 p → Decoder.instr pc code pc = .ok (e.2, p) := List.forall_mem_cons.mpr ⟨fun _ _ _ h => (nd_bi h).trans rfl, List.forall_mem_cons.mpr ⟨fun _ _ _ h => (nd_bi h).trans rfl, List.forall_mem_cons.mpr ⟨fun _ _ _ h => (nd_bi h).trans rfl, List.forall_mem_cons.mpr ⟨fun _ _ _ h => (nd_bi h).trans rfl, List.forall_mem_cons.mpr ⟨fun _ _ _ h => (nd_bi h).trans rfl, List.forall_mem_cons.mpr ⟨fun _ _ _ h => (nd_bi h).trans rfl, List.forall_mem_cons.mpr ⟨fun _ _ _ h => (nd_bi h).trans rfl, List.forall_mem_cons.mpr ⟨fun _ _ _ h => (nd_bi h).trans rfl, List.forall_mem_cons.mpr ⟨fun _ _ _ h => (nd_bi h).trans rfl, List.forall_mem_cons.mpr ⟨fun _ _ _ h => (nd_bi h).trans rfl, List.forall_mem_cons.mpr ⟨fun _ _ _ h => (nd_bi h).trans rfl, List.forall_mem_cons.mpr ⟨fun _ _ _ h => (nd_bi h).trans rfl, List.forall_mem_cons.mpr ⟨fun _ _ _ h => (nd_bi h).trans rfl, List.forall_mem_cons.mpr ⟨fun _ _ _ h => (nd_bi h).trans rfl, List.forall_mem_cons.mpr ⟨fun _ _ _ h => (nd_bi h).trans rfl, List.forall_mem_cons.mpr ⟨fun _ _ _ h => (nd_bi h).trans rfl, List.forall_mem_cons.mpr ⟨fun _ _ _ h => (nd_bi h).trans rfl, List.forall_mem_cons.mpr ⟨fun _ _ _ h => (nd_bi h).trans rfl, List.forall_mem_cons.mpr ⟨fun _ _ _ h => (nd_bi h).trans rfl, List.forall_mem_cons.mpr ⟨fun _ _ _ h => (nd_bi h).trans rfl, List.forall_mem_cons.mpr ⟨fun _ _ _ h => (nd_bi h).trans rfl, List.forall_mem_cons.mpr ⟨fun _ _ _ h => (nd_bi h).trans rfl, List.forall_mem_cons.mpr ⟨fun _ _ _ h => (nd_bi h).trans rfl, List.forall_mem_cons.mpr ⟨fun _ _ _ h => (nd_bi h).trans rfl, List.forall_mem_cons.mpr ⟨fun _ _ _ h => (nd_bi h).trans rfl, List.forall_mem_cons.mpr ⟨fun _ _ _ h => (nd_bi h).trans rfl, List.forall_mem_cons.mpr ⟨fun _ _ _ h => (nd_bi h).trans rfl, List.forall_mem_cons.mpr ⟨fun _ _ _ h => (nd_bi h).trans rfl, List.forall_mem_cons.mpr ⟨fun _ _ _ h => (nd_bi h).trans rfl, List.forall_mem_cons.mpr ⟨fun _ _ _ h => (nd_bi h).trans rfl, List.forall_mem_cons.mpr ⟨fun _ _ _ h => (nd_bi h).trans rfl, List.forall_mem_cons.mpr ⟨fun _ _ _ h => (nd_bi h).trans rfl, List.forall_mem_cons.mpr ⟨fun _ _ _ h => (nd_bi h).trans rfl, List.forall_mem_cons.mpr ⟨fun _ _ _ h => (nd_bi h).trans rfl, List.forall_mem_cons.mpr ⟨fun _ _ _ h => (nd_bi h).trans rfl, List.forall_mem_cons.mpr ⟨fun _ _ _ h => (nd_bi h).trans rfl, List.forall_mem_cons.mpr ⟨fun _ _ _ h => (nd_bi h).trans rfl, List.forall_mem_cons.mpr ⟨fun _ _ _ h => (nd_bi h).trans rfl, List.forall_mem_cons.mpr ⟨fun _ _ _ h => (nd_bi h).trans rfl, List.forall_mem_cons.mpr ⟨fun _ _ _ h => (nd_bi h).trans rfl, List.forall_mem_cons.mpr ⟨fun _ _ _ h => (nd_bi h).trans rfl, List.forall_mem_cons.mpr ⟨fun _ _ _ h => (nd_bi h).trans rfl, List.forall_mem_cons.mpr ⟨fun _ _ _ h => (nd_bi h).trans rfl, List.forall_mem_cons.mpr ⟨fun _ _ _ h => (nd_bi h).trans rfl, List.forall_mem_cons.mpr ⟨fun _ _ _ h => (nd_bi h).trans rfl, List.forall_mem_cons.mpr ⟨fun _ _ _ h => (nd_bi h).trans rfl, List.forall_mem_cons.mpr ⟨fun _ _ _ h => (nd_bi h).trans rfl, List.forall_mem_cons.mpr ⟨fun _ _ _ h => (nd_bi h).trans rfl, List.forall_mem_cons.mpr ⟨fun _ _ _ h => (nd_bi h).trans rfl, List.forall_mem_cons.mpr ⟨fun _ _ _ h => (nd_bi h).trans rfl, List.forall_mem_cons.mpr ⟨fun _ _ _ h => (nd_bi h).trans rfl, List.forall_mem_cons.mpr ⟨fun _ _ _ h => (nd_bi h).trans rfl, List.forall_mem_cons.mpr ⟨fun _ _ _ h => (nd_bi h).trans rfl, List.forall_mem_cons.mpr ⟨fun _ _ _ h => (nd_bi h).trans rfl, List.forall_mem_cons.mpr ⟨fun _ _ _ h => (nd_bi h).trans rfl, List.forall_mem_cons.mpr ⟨fun _ _ _ h => (nd_bi h).trans rfl, List.forall_mem_cons.mpr ⟨fun _ _ _ h => (nd_bi h).trans rfl, List.forall_mem_cons.mpr ⟨fun _ _ _ h => (nd_bi h).trans rfl, List.forall_mem_cons.mpr ⟨fun _ _ _ h => (nd_bi h).trans rfl, List.forall_mem_cons.mpr ⟨fun _ _ _ h => (nd_bi h).trans rfl, List.forall_mem_cons.mpr ⟨fun _ _ _ h => (nd_bi h).trans rfl, List.forall_mem_cons.mpr ⟨fun _ _ _ h => (nd_bi h).trans rfl, List.forall_mem_cons.mpr ⟨fun _ _ _ h => (nd_bi h).trans rfl, List.forall_mem_cons.mpr ⟨fun _ _ _ h => (nd_bi h).trans rfl, List.forall_mem_cons.mpr ⟨fun _ _ _ h => (nd_bi h).trans rfl, List.forall_mem_cons.mpr ⟨fun _ _ _ h => (nd_bi h).trans rfl, List.forall_mem_cons.mpr ⟨fun _ _ _ h => (nd_bi h).trans rfl, fun _ h => absurd h List.not_mem_nil⟩⟩⟩⟩⟩⟩⟩⟩⟩⟩⟩⟩⟩⟩⟩⟩⟩⟩⟩⟩⟩⟩⟩⟩⟩⟩⟩⟩⟩⟩⟩⟩⟩⟩⟩⟩⟩⟩⟩⟩⟩⟩⟩⟩⟩⟩⟩⟩⟩⟩⟩⟩⟩⟩⟩⟩⟩⟩⟩⟩⟩⟩⟩⟩⟩⟩⟩
set_option maxRecDepth 100000 in
theorem nd_2_ok : ∀ e ∈ nd_2, ∀ (code : ByteArray) (pc p q c : Nat), nd_R code pc e.1 p → nd_R code p c q → Decoder.instr pc code pc = .ok (e.2 c, q) := List.forall_mem_cons.mpr ⟨fun _ _ _ _ _ h h2 => (nd_bi h).trans ((nd_bi h2).trans rfl), List.forall_mem_cons.mpr ⟨fun _ _ _ _ _ h h2 => (nd_bi h).trans ((nd_bi (nd_s1 h2)).trans rfl), List.forall_mem_cons.mpr ⟨fun _ _ _ _ _ h h2 => (nd_bi h).trans ((nd_bi h2).trans rfl), List.forall_mem_cons.mpr ⟨fun _ _ _ _ _ h h2 => (nd_bi h).trans ((nd_bi h2).trans rfl), List.forall_mem_cons.mpr ⟨fun _ _ _ _ _ h h2 => (nd_bi h).trans ((nd_bi h2).trans rfl), List.forall_mem_cons.mpr ⟨fun _ _ _ _ _ h h2 => (nd_bi h).trans ((nd_bi h2).trans rfl), List.forall_mem_cons.mpr ⟨fun _ _ _ _ _ h h2 => (nd_bi h).trans ((nd_bi h2).trans rfl), List.forall_mem_cons.mpr ⟨fun _ _ _ _ _ h h2 => (nd_bi h).trans ((nd_bi h2).trans rfl), fun _ h => absurd h List.not_mem_nil⟩⟩⟩⟩⟩⟩⟩⟩
set_option maxRecDepth 100000 in
theorem nd_3_ok : ∀ e ∈ nd_3, ∀ (code : ByteArray) (pc p q r c d : Nat), nd_R code pc e.1 p → nd_R code p c q → nd_R code q d r → Decoder.instr pc code pc = .ok (e.2 c d, r) := List.forall_mem_cons.mpr ⟨fun _ _ _ _ _ _ _ h h2 h3 => (nd_bi h).trans ((nd_bi (nd_u2 h2 h3)).trans rfl), List.forall_mem_cons.mpr ⟨fun _ _ _ _ _ _ _ h h2 h3 => (nd_bi h).trans ((nd_bi (nd_u2 h2 h3)).trans rfl), List.forall_mem_cons.mpr ⟨fun _ _ _ _ _ _ _ h h2 h3 => (nd_bi h).trans ((nd_bi (nd_s2 h2 h3)).trans rfl), List.forall_mem_cons.mpr ⟨fun _ _ _ _ _ _ _ h h2 h3 => (nd_bi h).trans ((nd_bi (nd_u2 h2 h3)).trans rfl), List.forall_mem_cons.mpr ⟨fun _ _ _ _ _ _ _ h h2 h3 => (nd_bi h).trans ((nd_bi h2).trans ((nd_bi (nd_s1 h3)).trans rfl)), List.forall_mem_cons.mpr ⟨fun _ _ _ _ _ _ _ h h2 h3 => (nd_bi h).trans ((nd_bi (nd_u2 h2 h3)).trans rfl), List.forall_mem_cons.mpr ⟨fun _ _ _ _ _ _ _ h h2 h3 => (nd_bi h).trans ((nd_bi (nd_s2 h2 h3)).trans rfl), List.forall_mem_cons.mpr ⟨fun _ _ _ _ _ _ _ h h2 h3 => (nd_bi h).trans ((nd_bi (nd_s2 h2 h3)).trans rfl), List.forall_mem_cons.mpr ⟨fun _ _ _ _ _ _ _ h h2 h3 => (nd_bi h).trans ((nd_bi (nd_s2 h2 h3)).trans rfl), List.forall_mem_cons.mpr ⟨fun _ _ _ _ _ _ _ h h2 h3 => (nd_bi h).trans ((nd_bi (nd_s2 h2 h3)).trans rfl), List.forall_mem_cons.mpr ⟨fun _ _ _ _ _ _ _ h h2 h3 => (nd_bi h).trans ((nd_bi (nd_s2 h2 h3)).trans rfl), List.forall_mem_cons.mpr ⟨fun _ _ _ _ _ _ _ h h2 h3 => (nd_bi h).trans ((nd_bi (nd_s2 h2 h3)).trans rfl), List.forall_mem_cons.mpr ⟨fun _ _ _ _ _ _ _ h h2 h3 => (nd_bi h).trans ((nd_bi (nd_s2 h2 h3)).trans rfl), List.forall_mem_cons.mpr ⟨fun _ _ _ _ _ _ _ h h2 h3 => (nd_bi h).trans ((nd_bi (nd_s2 h2 h3)).trans rfl), List.forall_mem_cons.mpr ⟨fun _ _ _ _ _ _ _ h h2 h3 => (nd_bi h).trans ((nd_bi (nd_s2 h2 h3)).trans rfl), List.forall_mem_cons.mpr ⟨fun _ _ _ _ _ _ _ h h2 h3 => (nd_bi h).trans ((nd_bi (nd_s2 h2 h3)).trans rfl), List.forall_mem_cons.mpr ⟨fun _ _ _ _ _ _ _ h h2 h3 => (nd_bi h).trans ((nd_bi (nd_s2 h2 h3)).trans rfl), List.forall_mem_cons.mpr ⟨fun _ _ _ _ _ _ _ h h2 h3 => (nd_bi h).trans ((nd_bi (nd_s2 h2 h3)).trans rfl), List.forall_mem_cons.mpr ⟨fun _ _ _ _ _ _ _ h h2 h3 => (nd_bi h).trans ((nd_bi (nd_s2 h2 h3)).trans rfl), List.forall_mem_cons.mpr ⟨fun _ _ _ _ _ _ _ h h2 h3 => (nd_bi h).trans ((nd_bi (nd_u2 h2 h3)).trans rfl), List.forall_mem_cons.mpr ⟨fun _ _ _ _ _ _ _ h h2 h3 => (nd_bi h).trans ((nd_bi (nd_u2 h2 h3)).trans rfl), List.forall_mem_cons.mpr ⟨fun _ _ _ _ _ _ _ h h2 h3 => (nd_bi h).trans ((nd_bi (nd_u2 h2 h3)).trans rfl), List.forall_mem_cons.mpr ⟨fun _ _ _ _ _ _ _ h h2 h3 => (nd_bi h).trans ((nd_bi (nd_u2 h2 h3)).trans rfl), List.forall_mem_cons.mpr ⟨fun _ _ _ _ _ _ _ h h2 h3 => (nd_bi h).trans ((nd_bi (nd_u2 h2 h3)).trans rfl), List.forall_mem_cons.mpr ⟨fun _ _ _ _ _ _ _ h h2 h3 => (nd_bi h).trans ((nd_bi (nd_u2 h2 h3)).trans rfl), fun _ h => absurd h List.not_mem_nil⟩⟩⟩⟩⟩⟩⟩⟩⟩⟩⟩⟩⟩⟩⟩⟩⟩⟩⟩⟩⟩⟩⟩⟩⟩
noncomputable def nd_dec (l : List UInt8) : Option (Instr × Nat) := match l with
  | [] => none
  | b :: l => (match nk_lk nd_1 b.toNat with
    | some i => some (i, 1)
    | none => (match l with
      | [] => none
      | c :: l => (match nk_lk nd_2 b.toNat with
        | some f => some (f c.toNat, 2)
        | none => (match l with
          | [] => none
          | d :: _ => (match nk_lk nd_3 b.toNat with
            | some f => some (f c.toNat d.toNat, 3)
            | none => none)))))
theorem nd_drop {α : Type} {x : List α} {pc : Nat} {b : α} {l : List α} (h : x.drop pc = b :: l) : x.drop (pc + 1) = l := by
  have h1 : (x.drop pc).drop 1 = x.drop (pc + 1) := by first | exact List.drop_drop | exact List.drop_drop _ _ _ | simp [List.drop_drop, Nat.add_comm]
  rw [← h1, h]
  rfl
theorem nd_end {code : ByteArray} {pc n : Nat} {i : Instr} (h : Decoder.instr pc code pc = .ok (i, pc + n)) : decode code pc = .ok (i, n) := by
  show (Decoder.instr pc code pc >>= fun y => pure (y.1, y.2 - pc)) = _
  rw [h]
  show Except.ok (i, pc + n - pc) = _
  rw [Nat.add_sub_cancel_left]
theorem nd_dec_ok {code : ByteArray} {pc : Nat} {l : List UInt8} {p : Instr × Nat} (hl : code.data.toList.drop pc = l) (h : nd_dec l = some p) : decode code pc = .ok p := by
  match l, hl, h with
  | b :: l, hl, h =>
    have u1 := nd_u1 hl
    have hl1 := nd_drop hl
    unfold nd_dec at h
    cases h1 : nk_lk nd_1 b.toNat with
    | some i =>
      simp only [h1] at h
      cases h
      exact nd_end (nd_1_ok _ (nk_lk_mem _ _ _ h1) code pc _ u1)
    | none =>
      simp only [h1] at h
      match l, hl1, h with
      | c :: l, hl1, h =>
        have u2 := nd_u1 hl1
        have hl2 := nd_drop hl1
        cases h2 : nk_lk nd_2 b.toNat with
        | some f =>
          simp only [h2] at h
          cases h
          exact nd_end (nd_2_ok _ (nk_lk_mem _ _ _ h2) code pc _ _ _ u1 u2)
        | none =>
          simp only [h2] at h
          match l, hl2, h with
          | d :: l, hl2, h =>
            have u3 := nd_u1 hl2
            cases h3 : nk_lk nd_3 b.toNat with
            | some f =>
              simp only [h3] at h
              cases h
              exact nd_end (nd_3_ok _ (nk_lk_mem _ _ _ h3) code pc _ _ _ _ _ u1 u2 u3)
            | none =>
              simp only [h3] at h
              cases h
noncomputable def nd_it (cc : ByteArray) (o : Option (Instr × Nat)) (pc : Nat) (i : Instr) (n : Nat) : Bool := match o with
  | some p => decide (p = (i, n))
  | none => decide (decode cc pc = .ok (i, n))
noncomputable def nd_row (cc : ByteArray) (k : Option nk_I) (l : List UInt8) (pc : Nat) : Bool := match k with
  | none => true
  | some (i, n, nx, tg, lit) => nd_it cc (nd_dec l) pc i n && nk_ok pc i n nx tg lit
noncomputable def nd_go (cc : ByteArray) (kc : Nat → Option nk_I) : List UInt8 → Nat → Bool
  | [], _ => true
  | b :: l, pc => nd_row cc (kc pc) (b :: l) pc && nd_go cc kc l (pc + 1)
theorem nd_row_ok {cc : ByteArray} {k : Option nk_I} {l : List UInt8} {pc : Nat} (hl : cc.data.toList.drop pc = l) : nd_row cc k l pc = true → (match k with
  | none => true
  | some (i, n, nx, tg, lit) => decide (decode cc pc = .ok (i, n)) && nk_ok pc i n nx tg lit) = true := by
  intro h
  match k, h with
  | none, _ => rfl
  | some (i, n, nx, tg, lit), h =>
    obtain ⟨h1, h2⟩ := Bool.and_eq_true_iff.mp h
    refine Bool.and_eq_true_iff.mpr ⟨decide_eq_true ?_, h2⟩
    unfold nd_it at h1
    cases hd : nd_dec l with
    | some p =>
      simp only [hd] at h1
      have e := of_decide_eq_true h1
      subst e
      exact nd_dec_ok hl hd
    | none =>
      simp only [hd] at h1
      exact of_decide_eq_true h1
theorem nd_go_ok {cc : ByteArray} {kc : Nat → Option nk_I} : ∀ (l : List UInt8) (pc : Nat), cc.data.toList.drop pc = l → nd_go cc kc l pc = true → ∀ j : Nat, pc ≤ j → j < pc + l.length → (match kc j with
  | none => true
  | some (i, n, nx, tg, lit) => decide (decode cc j = .ok (i, n)) && nk_ok j i n nx tg lit) = true
  | [], pc, _, _, j, h1, h2 => absurd h2 (Nat.not_lt.mpr h1)
  | b :: l, pc, hl, h, j, h1, h2 => by
    obtain ⟨h3, h4⟩ := Bool.and_eq_true_iff.mp (show (nd_row cc (kc pc) (b :: l) pc && nd_go cc kc l (pc + 1)) = true from h)
    rcases Nat.lt_or_ge pc j with q | q
    · refine nd_go_ok l (pc + 1) (nd_drop hl) h4 j q ?_
      rw [List.length_cons] at h2
      omega
    · rw [show j = pc by omega]
      exact nd_row_ok hl h3
theorem nd_chk {cc : ByteArray} {kc : Nat → Option nk_I} {N : Nat} (h : nd_go cc kc cc.data.toList 0 = true) (hN : Nat.ble N cc.data.toList.length = true) : nk_chk cc kc N = true := by
  refine List.all_eq_true.mpr (fun pc hpc => ?_)
  have hlt := List.mem_range.mp hpc
  have hN := Nat.le_of_ble_eq_true hN
  exact nd_go_ok cc.data.toList 0 rfl h pc (Nat.zero_le _) (by omega)
