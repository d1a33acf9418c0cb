/-! ===== cells of a fixed shape: what they hold as four functions (int arrays, long arrays, int fields, long fields) ===== -/
abbrev nx_S : Type := (Nat → Nat → Int32) × (Nat → Nat → Int64) × (Nat → Nat → Int32) × (Nat → Nat → Int64)
/-- a cell's shape: an object (class, fields: 0 int, 1 long, r + 2 a reference to r), or an array (0 int, 1 long, else of references; its length; the references) -/
abbrev nx_C : Type := (Nat × List Nat) ⊕ (Nat × Nat × List Nat)
noncomputable def nx_sv (FG : (Nat → Nat → Int32) × (Nat → Nat → Int64)) (q p k : Nat) : Value := match k with
  | 0 => .int (FG.1 q p)
  | 1 => .long (FG.2 q p)
  | r + 2 => .ref r
noncomputable def nx_fs (FG : (Nat → Nat → Int32) × (Nat → Nat → Int64)) (q : Nat) : Nat → List Nat → List Value
  | _, [] => []
  | p, k :: l => nx_sv FG q p k :: nx_fs FG q (p + 1) l
noncomputable def nx_cell (s : nx_S) (q : Nat) (c : nx_C) : nk_O := match c with
  | .inl (ci, l) => .inr (ci, nx_fs s.2.2 q 0 l)
  | .inr (0, n, _) => .inl (0, n, .inl (s.1 q))
  | .inr (1, n, _) => .inl (1, n, .inr (.inl (s.2.1 q)))
  | .inr (t + 2, n, l) => .inl (t + 2, n, .inr (.inr (.inr (.inr (nk_lg l)))))
noncomputable def nx_enc (s : nx_S) : Nat → List nx_C → nk_H
  | _, [] => []
  | q, c :: l => nx_cell s q c :: nx_enc s (q + 1) l
theorem nx_lg (s : nx_S) : ∀ (l : List nx_C) (k q : Nat), nk_lg (nx_enc s k l) q = (nk_lg l q).map (nx_cell s (k + q))
  | [], _, _ => rfl
  | _ :: _, _, 0 => rfl
  | c :: l, k, q + 1 => by
    show nk_lg (nx_enc s (k + 1) l) q = (nk_lg l q).map (nx_cell s (k + (q + 1)))
    rw [nx_lg s l (k + 1) q, show k + 1 + q = k + (q + 1) by omega]
theorem nx_fs_lg (FG : (Nat → Nat → Int32) × (Nat → Nat → Int64)) (q : Nat) : ∀ (l : List Nat) (p j : Nat), nk_lg (nx_fs FG q p l) j = (nk_lg l j).map (nx_sv FG q (p + j))
  | [], _, _ => rfl
  | _ :: _, _, 0 => rfl
  | c :: l, p, j + 1 => by
    show nk_lg (nx_fs FG q (p + 1) l) j = (nk_lg l j).map (nx_sv FG q (p + (j + 1)))
    rw [nx_fs_lg FG q l (p + 1) j, show p + 1 + j = p + (j + 1) by omega]
noncomputable def nx_ui (s : nx_S) (q : Nat) (f : Nat → Int32) : nx_S := (fun r => if r = q then f else s.1 r, s.2)
noncomputable def nx_uj (s : nx_S) (q : Nat) (f : Nat → Int64) : nx_S := (s.1, fun r => if r = q then f else s.2.1 r, s.2.2)
noncomputable def nx_uf (s : nx_S) (q p : Nat) (v : Int32) : nx_S := (s.1, s.2.1, fun r x => if r = q ∧ x = p then v else s.2.2.1 r x, s.2.2.2)
noncomputable def nx_ug (s : nx_S) (q p : Nat) (v : Int64) : nx_S := (s.1, s.2.1, s.2.2.1, fun r x => if r = q ∧ x = p then v else s.2.2.2 r x)
theorem nx_set {s s' : nx_S} {l : List nx_C} {q : Nat} {c : nx_C} {o : nk_O} (hq : nk_lg l q = some c) (ho : nx_cell s' q c = o) (hn : ∀ (j : Nat) (d : nx_C), j ≠ q → nx_cell s' j d = nx_cell s j d) : (nx_enc s 0 l).set q o = nx_enc s' 0 l := by
  refine List.ext_getElem? (fun j => ?_)
  have hlen : q < (nx_enc s 0 l).length := by
    have h1 : nk_lg (nx_enc s 0 l) q = some (nx_cell s (0 + q) c) := by rw [nx_lg, hq]; rfl
    rw [nk_lg_eq] at h1
    exact (List.getElem?_eq_some_iff.mp h1).1
  rw [List.getElem?_set]
  by_cases hj : q = j
  · subst hj
    rw [if_pos rfl, if_pos hlen, ← nk_lg_eq, nx_lg, hq, Option.map_some, Nat.zero_add, ho]
  · rw [if_neg hj, ← nk_lg_eq, ← nk_lg_eq, nx_lg, nx_lg]
    cases nk_lg l j with
    | none => rfl
    | some d => rw [Option.map_some, Option.map_some, Nat.zero_add, hn j d (fun e => hj e.symm)]
theorem nx_set_i {s : nx_S} {l : List nx_C} {q n : Nat} {x : List Nat} (f : Nat → Int32) (hq : nk_lg l q = some (.inr (0, n, x))) : (nx_enc s 0 l).set q (.inl (0, n, .inl f)) = nx_enc (nx_ui s q f) 0 l := by
  refine nx_set hq ?_ (fun j d hj => ?_)
  · show (Sum.inl (0, n, .inl (if q = q then f else s.1 q)) : nk_O) = _
    rw [if_pos rfl]
  · match d with
    | .inl (ci, z) => rfl
    | .inr (0, m, z) =>
      show (Sum.inl (0, m, .inl (if j = q then f else s.1 j)) : nk_O) = _
      rw [if_neg hj]
      rfl
    | .inr (1, m, z) => rfl
    | .inr (t + 2, m, z) => rfl
theorem nx_set_j {s : nx_S} {l : List nx_C} {q n : Nat} {x : List Nat} (f : Nat → Int64) (hq : nk_lg l q = some (.inr (1, n, x))) : (nx_enc s 0 l).set q (.inl (1, n, .inr (.inl f))) = nx_enc (nx_uj s q f) 0 l := by
  refine nx_set hq ?_ (fun j d hj => ?_)
  · show (Sum.inl (1, n, .inr (.inl (if q = q then f else s.2.1 q))) : nk_O) = _
    rw [if_pos rfl]
  · match d with
    | .inl (ci, z) => rfl
    | .inr (0, m, z) => rfl
    | .inr (1, m, z) =>
      show (Sum.inl (1, m, .inr (.inl (if j = q then f else s.2.1 j))) : nk_O) = _
      rw [if_neg hj]
      rfl
    | .inr (t + 2, m, z) => rfl
theorem nx_fs_ne {FG FG' : (Nat → Nat → Int32) × (Nat → Nat → Int64)} {q : Nat} (h : ∀ p k : Nat, nx_sv FG' q p k = nx_sv FG q p k) : ∀ (l : List Nat) (p : Nat), nx_fs FG' q p l = nx_fs FG q p l
  | [], _ => rfl
  | k :: l, p => by
    show nx_sv FG' q p k :: nx_fs FG' q (p + 1) l = nx_sv FG q p k :: nx_fs FG q (p + 1) l
    rw [h p k, nx_fs_ne h l (p + 1)]
theorem nx_fs_set {FG FG' : (Nat → Nat → Int32) × (Nat → Nat → Int64)} {q p : Nat} {l : List Nat} {k : Nat} {v : Value} (hk : nk_lg l p = some k) (hv : nx_sv FG' q p k = v) (hn : ∀ (j d : Nat), j ≠ p → nx_sv FG' q j d = nx_sv FG q j d) : (nx_fs FG q 0 l).set p v = nx_fs FG' q 0 l := by
  refine List.ext_getElem? (fun j => ?_)
  have hlen : p < (nx_fs FG q 0 l).length := by
    have h1 : nk_lg (nx_fs FG q 0 l) p = some (nx_sv FG q (0 + p) k) := by rw [nx_fs_lg, hk]; rfl
    rw [nk_lg_eq] at h1
    exact (List.getElem?_eq_some_iff.mp h1).1
  rw [List.getElem?_set]
  by_cases hj : p = j
  · subst hj
    rw [if_pos rfl, if_pos hlen, ← nk_lg_eq, nx_fs_lg, hk, Option.map_some, Nat.zero_add, hv]
  · rw [if_neg hj, ← nk_lg_eq, ← nk_lg_eq, nx_fs_lg, nx_fs_lg]
    cases nk_lg l j with
    | none => rfl
    | some d => rw [Option.map_some, Option.map_some, Nat.zero_add, hn j d (fun e => hj e.symm)]
theorem nx_set_f {s : nx_S} {l : List nx_C} {q p ci : Nat} {sl : List Nat} (v : Int32) (hq : nk_lg l q = some (.inl (ci, sl))) (hp : nk_lg sl p = some 0) : (nx_enc s 0 l).set q (.inr (ci, (nx_fs s.2.2 q 0 sl).set p (.int v))) = nx_enc (nx_uf s q p v) 0 l := by
  refine nx_set hq ?_ (fun j d hj => ?_)
  · show (Sum.inr (ci, nx_fs (nx_uf s q p v).2.2 q 0 sl) : nk_O) = _
    rw [nx_fs_set (FG := s.2.2) (FG' := (nx_uf s q p v).2.2) (v := .int v) hp ?_ (fun j d hj => ?_)]
    · show Value.int (if q = q ∧ p = p then v else s.2.2.1 q p) = _
      rw [if_pos ⟨rfl, rfl⟩]
    · match d with
      | 0 =>
        show Value.int (if q = q ∧ j = p then v else s.2.2.1 q j) = _
        rw [if_neg (fun e => hj e.2)]
        rfl
      | 1 => rfl
      | r + 2 => rfl
  · match d with
    | .inl (cj, z) =>
      show (Sum.inr (cj, nx_fs (nx_uf s q p v).2.2 j 0 z) : nk_O) = _
      rw [nx_fs_ne (FG := s.2.2) (fun x k => ?_)]
      · rfl
      · match k with
        | 0 =>
          show Value.int (if j = q ∧ x = p then v else s.2.2.1 j x) = _
          rw [if_neg (fun e => hj e.1)]
          rfl
        | 1 => rfl
        | r + 2 => rfl
    | .inr (0, m, z) => rfl
    | .inr (1, m, z) => rfl
    | .inr (t + 2, m, z) => rfl
theorem nx_set_g {s : nx_S} {l : List nx_C} {q p ci : Nat} {sl : List Nat} (v : Int64) (hq : nk_lg l q = some (.inl (ci, sl))) (hp : nk_lg sl p = some 1) : (nx_enc s 0 l).set q (.inr (ci, (nx_fs s.2.2 q 0 sl).set p (.long v))) = nx_enc (nx_ug s q p v) 0 l := by
  refine nx_set hq ?_ (fun j d hj => ?_)
  · show (Sum.inr (ci, nx_fs (nx_ug s q p v).2.2 q 0 sl) : nk_O) = _
    rw [nx_fs_set (FG := s.2.2) (FG' := (nx_ug s q p v).2.2) (v := .long v) hp ?_ (fun j d hj => ?_)]
    · show Value.long (if q = q ∧ p = p then v else s.2.2.2 q p) = _
      rw [if_pos ⟨rfl, rfl⟩]
    · match d with
      | 0 => rfl
      | 1 =>
        show Value.long (if q = q ∧ j = p then v else s.2.2.2 q j) = _
        rw [if_neg (fun e => hj e.2)]
        rfl
      | r + 2 => rfl
  · match d with
    | .inl (cj, z) =>
      show (Sum.inr (cj, nx_fs (nx_ug s q p v).2.2 j 0 z) : nk_O) = _
      rw [nx_fs_ne (FG := s.2.2) (fun x k => ?_)]
      · rfl
      · match k with
        | 0 => rfl
        | 1 =>
          show Value.long (if j = q ∧ x = p then v else s.2.2.2 j x) = _
          rw [if_neg (fun e => hj e.1)]
          rfl
        | r + 2 => rfl
    | .inr (0, m, z) => rfl
    | .inr (1, m, z) => rfl
    | .inr (t + 2, m, z) => rfl
theorem nk_ins_mk {α : Type} : ∀ (l : List α) (i : Nat) (v : α) (k : List α → Prop), i < l.length → k (l.set i v) → nk_ins l i v k
  | [], _, _, _, h, _ => absurd h (Nat.not_lt_zero _)
  | _ :: _, 0, _, _, _, h => h
  | a :: l, i + 1, v, k, h, hk => nk_ins_mk l i v (fun l' => k (a :: l')) (Nat.lt_of_succ_lt_succ h) hk
