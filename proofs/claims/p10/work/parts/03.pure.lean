/-! ===== the instructions that touch neither cells nor calls are sound ===== -/
noncomputable def nk_v (ad : Nat → Nat) (v : Value) : Value := match v with
  | .ref k => .ref (ad k)
  | v => v
theorem nk_v_cat (ad : Nat → Nat) (v : Value) : (nk_v ad v).category = v.category := by cases v <;> rfl
theorem nk_lg_eq {α : Type} : ∀ (l : List α) (i : Nat), nk_lg l i = l[i]?
  | [], i => by simp [nk_lg]
  | a :: l, 0 => by simp [nk_lg]
  | a :: l, i + 1 => by simp only [nk_lg, List.getElem?_cons_succ]; exact nk_lg_eq l i
theorem nk_get_eq : ∀ (l : nk_Ls) (i : Nat), nk_get l i = (l[i]?).join
  | [], i => by simp [nk_get]
  | a :: l, 0 => by simp [nk_get]
  | a :: l, i + 1 => by simp only [nk_get, List.getElem?_cons_succ]; exact nk_get_eq l i
theorem nk_get_lt {L : nk_Ls} {i : Nat} {v : Value} (h : nk_get L i = some v) : i < L.length := by
  rw [nk_get_eq] at h
  rcases Nat.lt_or_ge i L.length with q | q
  · exact q
  · rw [List.getElem?_eq_none q] at h
    cases h
theorem nk_ins_set {α : Type} : ∀ (l : List α) (i : Nat) (v : α) (k : List α → Prop), nk_ins l i v k → i < l.length ∧ k (l.set i v)
  | [], _, _, _, h => False.elim h
  | a :: l, 0, v, k, h => ⟨Nat.zero_lt_succ _, h⟩
  | a :: l, i + 1, v, k, h => by
    obtain ⟨h1, h2⟩ := nk_ins_set l i v _ h
    exact ⟨Nat.succ_lt_succ h1, h2⟩
theorem nk_get_set (L : nk_Ls) (i j : Nat) (a : Option Value) (hi : i < L.length) : nk_get (L.set i a) j = if j = i then a else nk_get L j := by
  rw [nk_get_eq, nk_get_eq, List.getElem?_set]
  by_cases h : i = j
  · subst h
    simp [hi]
  · rw [if_neg h, if_neg (fun q => h q.symm)]
theorem nk_cut_inv {L : nk_Ls} {i : Nat} {k : nk_Ls → Prop} (h : nk_cut L i k) : ∃ L1 : nk_Ls, k L1 ∧ L1.length = L.length ∧ ∀ (j : Nat) (w : Value), nk_get L1 j = some w → nk_get L j = some w ∧ ¬ (j + 1 = i ∧ w.category = 2) := by
  cases i with
  | zero => exact ⟨L, h, rfl, fun j w hw => ⟨hw, fun q => by omega⟩⟩
  | succ j0 =>
    have key : ∀ v : Value, nk_get L j0 = some v → nk_ins L j0 none k → ∃ L1 : nk_Ls, k L1 ∧ L1.length = L.length ∧ ∀ (j : Nat) (w : Value), nk_get L1 j = some w → nk_get L j = some w ∧ ¬ (j + 1 = j0 + 1 ∧ w.category = 2) := by
      intro v hv h1
      obtain ⟨h2, h3⟩ := nk_ins_set L j0 none k h1
      refine ⟨_, h3, List.length_set, fun j w hw => ?_⟩
      rw [nk_get_set L j0 j none h2] at hw
      by_cases hj : j = j0
      · rw [if_pos hj] at hw; cases hw
      · rw [if_neg hj] at hw
        exact ⟨hw, fun q => hj (by omega)⟩
    have other : (∀ v : Value, nk_get L j0 = some v → v.category ≠ 2) → k L → ∃ L1 : nk_Ls, k L1 ∧ L1.length = L.length ∧ ∀ (j : Nat) (w : Value), nk_get L1 j = some w → nk_get L j = some w ∧ ¬ (j + 1 = j0 + 1 ∧ w.category = 2) := by
      intro hv h1
      refine ⟨L, h1, rfl, fun j w hw => ⟨hw, fun q => ?_⟩⟩
      have hj : j = j0 := by omega
      subst hj
      exact hv w hw q.2
    simp only [nk_cut] at h
    cases hg : nk_get L j0 with
    | none => rw [hg] at h; exact other (fun v hv => by rw [hg] at hv; cases hv) h
    | some v =>
      rw [hg] at h
      cases v with
      | long x => exact key _ hg h
      | double x => exact key _ hg h
      | int x => exact other (fun v hv => by rw [hg] at hv; cases hv; simp [Value.category]) h
      | float x => exact other (fun v hv => by rw [hg] at hv; cases hv; simp [Value.category]) h
      | null => exact other (fun v hv => by rw [hg] at hv; cases hv; simp [Value.category]) h
      | ref x => exact other (fun v hv => by rw [hg] at hv; cases hv; simp [Value.category]) h
      | retAddr x => exact other (fun v hv => by rw [hg] at hv; cases hv; simp [Value.category]) h
theorem nk_st1_inv {L : nk_Ls} {i : Nat} {v : Value} {k : nk_Ls → Prop} (h : nk_st1 L i v k) : ∃ L' : nk_Ls, k L' ∧ L'.length = L.length ∧ i < L.length ∧ ∀ (j : Nat) (w : Value), nk_get L' j = some w → (j = i ∧ w = v) ∨ (nk_get L j = some w ∧ j ≠ i ∧ ¬ (j + 1 = i ∧ w.category = 2)) := by
  obtain ⟨L1, h1, hl1, hg1⟩ := nk_cut_inv h
  obtain ⟨h2, h3⟩ := nk_ins_set L1 i (some v) k h1
  refine ⟨_, h3, by rw [List.length_set, hl1], by omega, fun j w hw => ?_⟩
  rw [nk_get_set L1 i j (some v) h2] at hw
  by_cases hj : j = i
  · rw [if_pos hj] at hw
    exact Or.inl ⟨hj, (Option.some.inj hw).symm⟩
  · rw [if_neg hj] at hw
    exact Or.inr ⟨(hg1 j w hw).1, hj, (hg1 j w hw).2⟩
theorem nk_st2_inv {L : nk_Ls} {i : Nat} {v : Value} {k : nk_Ls → Prop} (h : nk_st2 L i v k) : ∃ L' : nk_Ls, k L' ∧ L'.length = L.length ∧ i + 1 < L.length ∧ ∀ (j : Nat) (w : Value), nk_get L' j = some w → (j = i ∧ w = v) ∨ (nk_get L j = some w ∧ j ≠ i ∧ j ≠ i + 1 ∧ ¬ (j + 1 = i ∧ w.category = 2)) := by
  obtain ⟨L1, h1, hl1, hg1⟩ := nk_cut_inv h
  obtain ⟨h2, h3⟩ := nk_ins_set L1 i (some v) _ h1
  obtain ⟨h4, h5⟩ := nk_ins_set _ (i + 1) none k h3
  rw [List.length_set] at h4
  refine ⟨_, h5, by rw [List.length_set, List.length_set, hl1], by omega, fun j w hw => ?_⟩
  rw [nk_get_set _ (i + 1) j none (by rw [List.length_set]; exact h4), nk_get_set L1 i j (some v) h2] at hw
  by_cases hj1 : j = i + 1
  · rw [if_pos hj1] at hw; cases hw
  · rw [if_neg hj1] at hw
    by_cases hj : j = i
    · rw [if_pos hj] at hw
      exact Or.inl ⟨hj, (Option.some.inj hw).symm⟩
    · rw [if_neg hj] at hw
      exact Or.inr ⟨(hg1 j w hw).1, hj, hj1, (hg1 j w hw).2⟩
theorem nk_ldi_inv {L : nk_Ls} {i : Nat} {k : Int32 → Prop} (h : nk_ldi L i k) : ∃ x, nk_get L i = some (.int x) ∧ k x := by
  unfold nk_ldi at h
  split at h
  · exact ⟨_, by assumption, h⟩
  · exact h.elim
theorem nk_ldl_inv {L : nk_Ls} {i : Nat} {k : Int64 → Prop} (h : nk_ldl L i k) : ∃ x, nk_get L i = some (.long x) ∧ k x := by
  unfold nk_ldl at h
  split at h
  · exact ⟨_, by assumption, h⟩
  · exact h.elim
theorem nk_ldr_inv {L : nk_Ls} {i : Nat} {k : Nat → Prop} (h : nk_ldr L i k) : ∃ x, nk_get L i = some (.ref x) ∧ k x := by
  unfold nk_ldr at h
  split at h
  · exact ⟨_, by assumption, h⟩
  · exact h.elim
theorem nk_pi_inv {S : List Value} {k : Int32 → List Value → Prop} (h : nk_pi S k) : ∃ x S', S = .int x :: S' ∧ k x S' := by
  unfold nk_pi at h
  split at h
  · exact ⟨_, _, rfl, h⟩
  · exact h.elim
theorem nk_pl_inv {S : List Value} {k : Int64 → List Value → Prop} (h : nk_pl S k) : ∃ x S', S = .long x :: S' ∧ k x S' := by
  unfold nk_pl at h
  split at h
  · exact ⟨_, _, rfl, h⟩
  · exact h.elim
theorem nk_pr_inv {S : List Value} {k : Nat → List Value → Prop} (h : nk_pr S k) : ∃ x S', S = .ref x :: S' ∧ k x S' := by
  unfold nk_pr at h
  split at h
  · exact ⟨_, _, rfl, h⟩
  · exact h.elim
theorem nk_pii_inv {S : List Value} {k : Int32 → Int32 → List Value → Prop} (h : nk_pii S k) : ∃ x y S', S = .int y :: .int x :: S' ∧ k x y S' := by
  obtain ⟨y, S1, e1, h1⟩ := nk_pi_inv h
  obtain ⟨x, S2, e2, h2⟩ := nk_pi_inv h1
  exact ⟨x, y, S2, by rw [e1, e2], h2⟩
theorem nk_pll_inv {S : List Value} {k : Int64 → Int64 → List Value → Prop} (h : nk_pll S k) : ∃ x y S', S = .long y :: .long x :: S' ∧ k x y S' := by
  obtain ⟨y, S1, e1, h1⟩ := nk_pl_inv h
  obtain ⟨x, S2, e2, h2⟩ := nk_pl_inv h1
  exact ⟨x, y, S2, by rw [e1, e2], h2⟩
theorem nk_t1_inv {tg : List Nat} {k : Nat → Prop} (h : nk_t1 tg k) : ∃ t, tg = [t] ∧ k t := by
  unfold nk_t1 at h
  split at h
  · exact ⟨_, rfl, h⟩
  · exact h.elim
/-- the locals as the picture has them -/
noncomputable def nk_L (ad : Nat → Nat) (ls : Array Slot) (n : Nat) (L : nk_Ls) : Prop := L.length = n ∧ ls.size = n ∧ lv_wf ls ∧ ∀ (i : Nat) (v : Value), nk_get L i = some v → ls[i]? = some (.val (nk_v ad v))
noncomputable def nk_al (ad : Nat → Nat) (L : nk_Ls) : List (Nat × Value) := (List.range L.length).filterMap (fun i => (nk_get L i).map (fun v => (i, nk_v ad v)))
theorem nk_al_mem {ad : Nat → Nat} {L : nk_Ls} {q : Nat × Value} : q ∈ nk_al ad L ↔ ∃ v, nk_get L q.1 = some v ∧ q.2 = nk_v ad v := by
  unfold nk_al
  rw [List.mem_filterMap]
  constructor
  · rintro ⟨i, -, hi⟩
    cases hg : nk_get L i with
    | none => rw [hg] at hi; cases hi
    | some v =>
      rw [hg] at hi
      cases hi
      exact ⟨v, hg, rfl⟩
  · rintro ⟨v, h1, h2⟩
    refine ⟨q.1, List.mem_range.mpr (nk_get_lt h1), ?_⟩
    rw [h1]
    show some (q.1, nk_v ad v) = some q
    rw [← h2]
theorem nk_L.has {ad : Nat → Nat} {ls : Array Slot} {n : Nat} {L : nk_Ls} (h : nk_L ad ls n L) : lv_has ls n (nk_al ad L) := by
  refine ⟨h.2.1, h.2.2.1, fun q hq => ?_⟩
  obtain ⟨v, h1, h2⟩ := nk_al_mem.mp hq
  rw [h2]
  exact h.2.2.2 q.1 v h1
theorem nk_L.st1 {ad : Nat → Nat} {ls ls' : Array Slot} {n i : Nat} {v : Value} {L L' : nk_Ls} (h : nk_L ad ls n L) (hl : L'.length = L.length) (hg : ∀ (j : Nat) (w : Value), nk_get L' j = some w → (j = i ∧ w = v) ∨ (nk_get L j = some w ∧ j ≠ i ∧ ¬ (j + 1 = i ∧ w.category = 2)))
    (h' : lv_has ls' n ((i, nk_v ad v) :: (nk_al ad L).filter (fun q => !(q.1 == i) && !(q.1 + 1 == i && q.2.category == 2)))) : nk_L ad ls' n L' := by
  refine ⟨hl.trans h.1, h'.1, h'.2.1, fun j w hw => ?_⟩
  rcases hg j w hw with ⟨rfl, rfl⟩ | ⟨h1, h2, h3⟩
  · exact h'.2.2 _ List.mem_cons_self
  · refine h'.2.2 (j, nk_v ad w) (List.mem_cons_of_mem _ (List.mem_filter.mpr ⟨nk_al_mem.mpr ⟨w, h1, rfl⟩, ?_⟩))
    have e1 : (j == i) = false := by simpa using h2
    by_cases hj : j + 1 = i
    · have hc : ¬ w.category = 2 := fun q => h3 ⟨hj, q⟩
      simp [e1, nk_v_cat, hc]
    · simp [e1, hj]
theorem nk_L.st2 {ad : Nat → Nat} {ls ls' : Array Slot} {n i : Nat} {v : Value} {L L' : nk_Ls} (h : nk_L ad ls n L) (hl : L'.length = L.length) (hg : ∀ (j : Nat) (w : Value), nk_get L' j = some w → (j = i ∧ w = v) ∨ (nk_get L j = some w ∧ j ≠ i ∧ j ≠ i + 1 ∧ ¬ (j + 1 = i ∧ w.category = 2)))
    (h' : lv_has ls' n ((i, nk_v ad v) :: (nk_al ad L).filter (fun q => !(q.1 == i) && (!(q.1 == i + 1) && !(q.1 + 1 == i && q.2.category == 2))))) : nk_L ad ls' n L' := by
  refine ⟨hl.trans h.1, h'.1, h'.2.1, fun j w hw => ?_⟩
  rcases hg j w hw with ⟨rfl, rfl⟩ | ⟨h1, h2, h4, h3⟩
  · exact h'.2.2 _ List.mem_cons_self
  · refine h'.2.2 (j, nk_v ad w) (List.mem_cons_of_mem _ (List.mem_filter.mpr ⟨nk_al_mem.mpr ⟨w, h1, rfl⟩, ?_⟩))
    have e1 : (j == i) = false := by simpa using h2
    have e2 : (j == i + 1) = false := by simpa using h4
    by_cases hj : j + 1 = i
    · have hc : ¬ w.category = 2 := fun q => h3 ⟨hj, q⟩
      simp [e1, e2, nk_v_cat, hc]
    · simp [e1, e2, hj]
theorem nk_off : ∀ (ps : List (Int × Int)) (d x : Int), (∃ (j : Nat) (p : Int × Int), ps[j]? = some p ∧ x = p.1 ∧ Op.lookupswitch.offset ps d x = p.2) ∨ ((∀ p ∈ ps, x ≠ p.1) ∧ Op.lookupswitch.offset ps d x = d)
  | [], d, x => Or.inr ⟨fun p h => (by cases h), rfl⟩
  | (a, o) :: l, d, x => by
    rw [Op.lookupswitch.offset_cons]
    by_cases h : a = x
    · exact Or.inl ⟨0, (a, o), rfl, h.symm, by rw [if_pos h]⟩
    · rw [if_neg h]
      rcases nk_off l d x with ⟨j, p, h1, h2, h3⟩ | ⟨h1, h2⟩
      · exact Or.inl ⟨j + 1, p, by rw [List.getElem?_cons_succ]; exact h1, h2, h3⟩
      · refine Or.inr ⟨fun p hp => ?_, h2⟩
        rcases List.mem_cons.mp hp with rfl | hp
        · exact fun q => h q.symm
        · exact h1 p hp
section NkPure
variable {p : Program} {l : Launch} {e : Env} {R : Room} {s : State} {m : MethodId} {args : Array Value} {below : List Frame} {meth : Method} {c : Code} {H : Heap} {locs : List Loc} {cells slots : Nat} {Q : State → Prop}
variable {cc : ByteArray} {ad : Nat → Nat} {nL : Nat}
set_option maxHeartbeats 4000000 in
theorem nk_pureW (hx : p.tables.exec = Jvm.exec) (hb : c.code = cc) {pc n nx : Nat} {i : Instr} {tg : List Nat} {lit : Int32} (hdg : decode cc pc = .ok (i, n)) (hok : nk_ok pc i n nx tg lit = true) {L : nk_Ls} {S : List Value} {K : nk_P} (hp : nk_pure i nx tg lit L S K)
    (kk : ∀ (pc' : Nat) (L' : nk_Ls) (S' : List Value), K pc' L' S' → ∀ ls' : Array Slot, nk_L ad ls' nL L' → W p l e R s m args below meth c H locs cells slots Q (F0 m pc' ls' (S'.map (nk_v ad)))) {ls : Array Slot} (hL : nk_L ad ls nL L) :
    W p l e R s m args below meth c H locs cells slots Q (F0 m pc ls (S.map (nk_v ad))) := by
  cases i
  case iconst v =>
    simp only [nk_ok, Bool.and_eq_true, decide_eq_true_eq] at hok
    obtain ⟨rfl, rfl, hv⟩ := hok
    exact lv_iconst hx hb hdg hv (kk _ _ _ hp ls hL)
  case bipush v =>
    simp only [nk_ok, Bool.and_eq_true, decide_eq_true_eq] at hok
    obtain ⟨rfl, rfl, hv⟩ := hok
    exact lv_bipush hx hb hdg hv (kk _ _ _ hp ls hL)
  case sipush v =>
    simp only [nk_ok, Bool.and_eq_true, decide_eq_true_eq] at hok
    obtain ⟨rfl, rfl, hv⟩ := hok
    exact lv_sipush hx hb hdg hv (kk _ _ _ hp ls hL)
  case lconst v =>
    simp only [nk_ok, Bool.and_eq_true, decide_eq_true_eq] at hok
    obtain ⟨rfl, rfl, hv⟩ := hok
    exact lv_lconst hx hb hdg hv (kk _ _ _ hp ls hL)
  case iload j =>
    simp only [nk_ok, Bool.and_eq_true, decide_eq_true_eq] at hok
    obtain ⟨rfl, rfl⟩ := hok
    obtain ⟨x, hg, hp⟩ := nk_ldi_inv hp
    exact lv_iload hx hb hdg (hL.2.2.2 _ _ hg) (kk _ _ _ hp ls hL)
  case lload j =>
    simp only [nk_ok, Bool.and_eq_true, decide_eq_true_eq] at hok
    obtain ⟨rfl, rfl⟩ := hok
    obtain ⟨x, hg, hp⟩ := nk_ldl_inv hp
    exact lv_lload hx hb hdg (hL.2.2.2 _ _ hg) (kk _ _ _ hp ls hL)
  case aload j =>
    simp only [nk_ok, Bool.and_eq_true, decide_eq_true_eq] at hok
    obtain ⟨rfl, rfl⟩ := hok
    obtain ⟨x, hg, hp⟩ := nk_ldr_inv hp
    exact lv_aload hx hb hdg (hL.2.2.2 _ _ hg) (kk _ _ _ hp ls hL)
  case iload_n j =>
    simp only [nk_ok, Bool.and_eq_true, decide_eq_true_eq] at hok
    obtain ⟨rfl, rfl⟩ := hok
    obtain ⟨x, hg, hp⟩ := nk_ldi_inv hp
    exact lv_iload_n hx hb hdg rfl (hL.2.2.2 _ _ hg) (kk _ _ _ hp ls hL)
  case lload_n j =>
    simp only [nk_ok, Bool.and_eq_true, decide_eq_true_eq] at hok
    obtain ⟨rfl, rfl⟩ := hok
    obtain ⟨x, hg, hp⟩ := nk_ldl_inv hp
    exact lv_lload_n hx hb hdg rfl (hL.2.2.2 _ _ hg) (kk _ _ _ hp ls hL)
  case aload_n j =>
    simp only [nk_ok, Bool.and_eq_true, decide_eq_true_eq] at hok
    obtain ⟨rfl, rfl⟩ := hok
    obtain ⟨x, hg, hp⟩ := nk_ldr_inv hp
    exact lv_aload_n hx hb hdg rfl (hL.2.2.2 _ _ hg) (kk _ _ _ hp ls hL)
  case istore j =>
    simp only [nk_ok, Bool.and_eq_true, decide_eq_true_eq] at hok
    obtain ⟨rfl, rfl⟩ := hok
    obtain ⟨x, S1, rfl, hp⟩ := nk_pi_inv hp
    obtain ⟨L', hk, hl, hi, hg⟩ := nk_st1_inv hp
    exact lv_istore hx hb hdg hL.has (by rw [← hL.1]; exact hi) rfl (fun ls' h' => kk _ _ _ hk ls' (hL.st1 hl hg h'))
  case istore_n j =>
    simp only [nk_ok, Bool.and_eq_true, decide_eq_true_eq] at hok
    obtain ⟨rfl, rfl⟩ := hok
    obtain ⟨x, S1, rfl, hp⟩ := nk_pi_inv hp
    obtain ⟨L', hk, hl, hi, hg⟩ := nk_st1_inv hp
    exact lv_istore_n hx hb hdg rfl hL.has (by rw [← hL.1]; exact hi) rfl (fun ls' h' => kk _ _ _ hk ls' (hL.st1 hl hg h'))
  case lstore j =>
    simp only [nk_ok, Bool.and_eq_true, decide_eq_true_eq] at hok
    obtain ⟨rfl, rfl⟩ := hok
    obtain ⟨x, S1, rfl, hp⟩ := nk_pl_inv hp
    obtain ⟨L', hk, hl, hi, hg⟩ := nk_st2_inv hp
    exact lv_lstore hx hb hdg hL.has (by rw [← hL.1]; exact hi) rfl (fun ls' h' => kk _ _ _ hk ls' (hL.st2 hl hg h'))
  case lstore_n j =>
    simp only [nk_ok, Bool.and_eq_true, decide_eq_true_eq] at hok
    obtain ⟨rfl, rfl⟩ := hok
    obtain ⟨x, S1, rfl, hp⟩ := nk_pl_inv hp
    obtain ⟨L', hk, hl, hi, hg⟩ := nk_st2_inv hp
    exact lv_lstore_n hx hb hdg rfl hL.has (by rw [← hL.1]; exact hi) rfl (fun ls' h' => kk _ _ _ hk ls' (hL.st2 hl hg h'))
  case astore j =>
    simp only [nk_ok, Bool.and_eq_true, decide_eq_true_eq] at hok
    obtain ⟨rfl, rfl⟩ := hok
    obtain ⟨x, S1, rfl, hp⟩ := nk_pr_inv hp
    obtain ⟨L', hk, hl, hi, hg⟩ := nk_st1_inv hp
    exact lv_astore hx hb hdg hL.has (by rw [← hL.1]; exact hi) rfl (fun ls' h' => kk _ _ _ hk ls' (hL.st1 hl hg h'))
  case astore_n j =>
    simp only [nk_ok, Bool.and_eq_true, decide_eq_true_eq] at hok
    obtain ⟨rfl, rfl⟩ := hok
    obtain ⟨x, S1, rfl, hp⟩ := nk_pr_inv hp
    obtain ⟨L', hk, hl, hi, hg⟩ := nk_st1_inv hp
    exact lv_astore_n hx hb hdg rfl hL.has (by rw [← hL.1]; exact hi) rfl (fun ls' h' => kk _ _ _ hk ls' (hL.st1 hl hg h'))
  case iinc j v =>
    simp only [nk_ok, Bool.and_eq_true, decide_eq_true_eq] at hok
    obtain ⟨rfl, rfl, hv⟩ := hok
    obtain ⟨x, hg0, hp⟩ := nk_ldi_inv hp
    obtain ⟨L', hk, hl, hi, hg⟩ := nk_st1_inv hp
    obtain ⟨k, hkk⟩ := List.getElem?_of_mem (nk_al_mem (ad := ad) (q := (j, .int x)) |>.mpr ⟨_, hg0, rfl⟩)
    exact lv_iinc hx hb hdg hL.has hkk (by rw [hv]) (by rw [← hL.1]; exact hi) rfl (fun ls' h' => kk _ _ _ hk ls' (hL.st1 hl hg h'))
  case iadd =>
    simp only [nk_ok, Bool.and_eq_true, decide_eq_true_eq] at hok
    obtain ⟨rfl, rfl⟩ := hok
    obtain ⟨x, y, S1, rfl, hp⟩ := nk_pii_inv hp
    exact lv_iadd hx hb hdg (kk _ _ _ hp ls hL)
  case isub =>
    simp only [nk_ok, Bool.and_eq_true, decide_eq_true_eq] at hok
    obtain ⟨rfl, rfl⟩ := hok
    obtain ⟨x, y, S1, rfl, hp⟩ := nk_pii_inv hp
    exact lv_isub hx hb hdg (kk _ _ _ hp ls hL)
  case imul =>
    simp only [nk_ok, Bool.and_eq_true, decide_eq_true_eq] at hok
    obtain ⟨rfl, rfl⟩ := hok
    obtain ⟨x, y, S1, rfl, hp⟩ := nk_pii_inv hp
    exact lv_imul hx hb hdg (kk _ _ _ hp ls hL)
  case idiv =>
    simp only [nk_ok, Bool.and_eq_true, decide_eq_true_eq] at hok
    obtain ⟨rfl, rfl⟩ := hok
    obtain ⟨x, y, S1, rfl, h0, hp⟩ := nk_pii_inv hp
    exact lv_idiv hx hb hdg h0 (kk _ _ _ hp ls hL)
  case irem =>
    simp only [nk_ok, Bool.and_eq_true, decide_eq_true_eq] at hok
    obtain ⟨rfl, rfl⟩ := hok
    obtain ⟨x, y, S1, rfl, h0, hp⟩ := nk_pii_inv hp
    exact lv_irem hx hb hdg h0 (kk _ _ _ hp ls hL)
  case iand =>
    simp only [nk_ok, Bool.and_eq_true, decide_eq_true_eq] at hok
    obtain ⟨rfl, rfl⟩ := hok
    obtain ⟨x, y, S1, rfl, hp⟩ := nk_pii_inv hp
    exact lv_iand hx hb hdg (kk _ _ _ hp ls hL)
  case ior =>
    simp only [nk_ok, Bool.and_eq_true, decide_eq_true_eq] at hok
    obtain ⟨rfl, rfl⟩ := hok
    obtain ⟨x, y, S1, rfl, hp⟩ := nk_pii_inv hp
    exact lv_ior hx hb hdg (kk _ _ _ hp ls hL)
  case ishl =>
    simp only [nk_ok, Bool.and_eq_true, decide_eq_true_eq] at hok
    obtain ⟨rfl, rfl⟩ := hok
    obtain ⟨x, y, S1, rfl, hp⟩ := nk_pii_inv hp
    exact lv_ishl hx hb hdg (kk _ _ _ hp ls hL)
  case ishr =>
    simp only [nk_ok, Bool.and_eq_true, decide_eq_true_eq] at hok
    obtain ⟨rfl, rfl⟩ := hok
    obtain ⟨x, y, S1, rfl, hp⟩ := nk_pii_inv hp
    exact lv_ishr hx hb hdg (kk _ _ _ hp ls hL)
  case iushr =>
    simp only [nk_ok, Bool.and_eq_true, decide_eq_true_eq] at hok
    obtain ⟨rfl, rfl⟩ := hok
    obtain ⟨x, y, S1, rfl, hp⟩ := nk_pii_inv hp
    exact lv_iushr hx hb hdg rfl (kk _ _ _ hp ls hL)
  case ladd =>
    simp only [nk_ok, Bool.and_eq_true, decide_eq_true_eq] at hok
    obtain ⟨rfl, rfl⟩ := hok
    obtain ⟨x, y, S1, rfl, hp⟩ := nk_pll_inv hp
    exact lv_ladd hx hb hdg (kk _ _ _ hp ls hL)
  case lsub =>
    simp only [nk_ok, Bool.and_eq_true, decide_eq_true_eq] at hok
    obtain ⟨rfl, rfl⟩ := hok
    obtain ⟨x, y, S1, rfl, hp⟩ := nk_pll_inv hp
    exact lv_lsub hx hb hdg (kk _ _ _ hp ls hL)
  case lmul =>
    simp only [nk_ok, Bool.and_eq_true, decide_eq_true_eq] at hok
    obtain ⟨rfl, rfl⟩ := hok
    obtain ⟨x, y, S1, rfl, hp⟩ := nk_pll_inv hp
    exact lv_lmul hx hb hdg (kk _ _ _ hp ls hL)
  case ldiv =>
    simp only [nk_ok, Bool.and_eq_true, decide_eq_true_eq] at hok
    obtain ⟨rfl, rfl⟩ := hok
    obtain ⟨x, y, S1, rfl, h0, hp⟩ := nk_pll_inv hp
    exact lv_ldiv hx hb hdg h0 (kk _ _ _ hp ls hL)
  case lrem =>
    simp only [nk_ok, Bool.and_eq_true, decide_eq_true_eq] at hok
    obtain ⟨rfl, rfl⟩ := hok
    obtain ⟨x, y, S1, rfl, h0, hp⟩ := nk_pll_inv hp
    exact lv_lrem hx hb hdg h0 (kk _ _ _ hp ls hL)
  case lneg =>
    simp only [nk_ok, Bool.and_eq_true, decide_eq_true_eq] at hok
    obtain ⟨rfl, rfl⟩ := hok
    obtain ⟨x, S1, rfl, hp⟩ := nk_pl_inv hp
    exact lv_lneg hx hb hdg (kk _ _ _ hp ls hL)
  case i2l =>
    simp only [nk_ok, Bool.and_eq_true, decide_eq_true_eq] at hok
    obtain ⟨rfl, rfl⟩ := hok
    obtain ⟨x, S1, rfl, hp⟩ := nk_pi_inv hp
    exact lv_i2l hx hb hdg rfl (kk _ _ _ hp ls hL)
  case l2i =>
    simp only [nk_ok, Bool.and_eq_true, decide_eq_true_eq] at hok
    obtain ⟨rfl, rfl⟩ := hok
    obtain ⟨x, S1, rfl, hp⟩ := nk_pl_inv hp
    exact lv_l2i hx hb hdg rfl (kk _ _ _ hp ls hL)
  case i2b =>
    simp only [nk_ok, Bool.and_eq_true, decide_eq_true_eq] at hok
    obtain ⟨rfl, rfl⟩ := hok
    obtain ⟨x, S1, rfl, hp⟩ := nk_pi_inv hp
    exact lv_i2b hx hb hdg rfl (kk _ _ _ hp ls hL)
  case lcmp =>
    simp only [nk_ok, Bool.and_eq_true, decide_eq_true_eq] at hok
    obtain ⟨rfl, rfl⟩ := hok
    obtain ⟨x, y, S1, rfl, hp⟩ := nk_pll_inv hp
    exact W.lcmp hx hb hdg (kk _ _ _ hp ls hL)
  case dup =>
    simp only [nk_ok, Bool.and_eq_true, decide_eq_true_eq] at hok
    obtain ⟨rfl, rfl⟩ := hok
    simp only [nk_pure] at hp
    split at hp
    · exact lv_dup hx hb hdg rfl (kk _ _ _ hp ls hL)
    · exact lv_dup hx hb hdg rfl (kk _ _ _ hp ls hL)
    · exact hp.elim
  case dup2 =>
    simp only [nk_ok, Bool.and_eq_true, decide_eq_true_eq] at hok
    obtain ⟨rfl, rfl⟩ := hok
    simp only [nk_pure] at hp
    split at hp
    · exact lv_dup2_2 hx hb hdg rfl (kk _ _ _ hp ls hL)
    · exact lv_dup2_11 hx hb hdg rfl rfl (kk _ _ _ hp ls hL)
    · exact lv_dup2_11 hx hb hdg rfl rfl (kk _ _ _ hp ls hL)
    · exact hp.elim
  case pop =>
    simp only [nk_ok, Bool.and_eq_true, decide_eq_true_eq] at hok
    obtain ⟨rfl, rfl⟩ := hok
    simp only [nk_pure] at hp
    split at hp
    · exact lv_pop hx hb hdg rfl (kk _ _ _ hp ls hL)
    · exact lv_pop hx hb hdg rfl (kk _ _ _ hp ls hL)
    · exact hp.elim
  case pop2 =>
    simp only [nk_ok, Bool.and_eq_true, decide_eq_true_eq] at hok
    obtain ⟨rfl, rfl⟩ := hok
    obtain ⟨x, S1, rfl, hp⟩ := nk_pl_inv hp
    exact lv_pop2_2 hx hb hdg rfl (kk _ _ _ hp ls hL)
  case goto o =>
    simp only [nk_ok, Bool.and_eq_true, decide_eq_true_eq] at hok
    obtain ⟨rfl, rfl, rfl, ht⟩ := hok
    exact lv_goto hx hb hdg ht (kk _ _ _ hp ls hL)
  case ifCond cd o =>
    simp only [nk_ok, Bool.and_eq_true, decide_eq_true_eq] at hok
    obtain ⟨rfl, rfl, rfl, ht⟩ := hok
    have hp1 : nk_pi S (fun x S => nk_c0 cd x (K (((pc : Int) + o).toNat) L S) (K (pc + 3) L S)) := hp
    obtain ⟨x, S1, rfl, hp⟩ := nk_pi_inv hp1
    cases cd
    · exact lv_if_eq hx hb hdg ht (fun hc => kk _ _ _ (hp.1 hc) ls hL) (fun hc => kk _ _ _ (hp.2 hc) ls hL)
    · exact lv_if_ne hx hb hdg ht (fun hc => kk _ _ _ (hp.2 hc) ls hL) (fun hc => kk _ _ _ (hp.1 hc) ls hL)
    · exact lv_if_lt hx hb hdg ht (fun hc => kk _ _ _ (hp.1 hc) ls hL) (fun hc => kk _ _ _ (hp.2 hc) ls hL)
    · exact lv_if_ge hx hb hdg ht (fun hc => kk _ _ _ (hp.1 hc) ls hL) (fun hc => kk _ _ _ (hp.2 hc) ls hL)
    · exact lv_if_gt hx hb hdg ht (fun hc => kk _ _ _ (hp.1 hc) ls hL) (fun hc => kk _ _ _ (hp.2 hc) ls hL)
    · exact lv_if_le hx hb hdg ht (fun hc => kk _ _ _ (hp.1 hc) ls hL) (fun hc => kk _ _ _ (hp.2 hc) ls hL)
  case if_icmp cd o =>
    simp only [nk_ok, Bool.and_eq_true, decide_eq_true_eq] at hok
    obtain ⟨rfl, rfl, rfl, ht⟩ := hok
    have hp1 : nk_pii S (fun x y S => nk_c2 cd x y (K (((pc : Int) + o).toNat) L S) (K (pc + 3) L S)) := hp
    obtain ⟨x, y, S1, rfl, hp⟩ := nk_pii_inv hp1
    cases cd
    · exact lv_icmp_eq hx hb hdg ht (fun hc => kk _ _ _ (hp.1 hc) ls hL) (fun hc => kk _ _ _ (hp.2 hc) ls hL)
    · exact lv_icmp_ne hx hb hdg ht (fun hc => kk _ _ _ (hp.2 hc) ls hL) (fun hc => kk _ _ _ (hp.1 hc) ls hL)
    · exact lv_icmp_lt hx hb hdg ht (fun hc => kk _ _ _ (hp.1 hc) ls hL) (fun hc => kk _ _ _ (hp.2 hc) ls hL)
    · exact lv_icmp_ge hx hb hdg ht (fun hc => kk _ _ _ (hp.1 hc) ls hL) (fun hc => kk _ _ _ (hp.2 hc) ls hL)
    · exact lv_icmp_gt hx hb hdg ht (fun hc => kk _ _ _ (hp.1 hc) ls hL) (fun hc => kk _ _ _ (hp.2 hc) ls hL)
    · exact lv_icmp_le hx hb hdg ht (fun hc => kk _ _ _ (hp.1 hc) ls hL) (fun hc => kk _ _ _ (hp.2 hc) ls hL)
  case tableswitch d lo hi os =>
    simp only [nk_ok, Bool.and_eq_true, decide_eq_true_eq] at hok
    obtain ⟨rfl, ⟨⟨htg, hd⟩, hos⟩, hsz⟩ := hok
    obtain ⟨x, S1, rfl, hp⟩ := nk_pi_inv hp
    subst htg
    by_cases hc : x.toInt < lo ∨ hi < x.toInt
    · exact lv_tableOut hx hb hdg hc hd (kk _ _ _ (hp.1 hc) ls hL)
    · have h1 : ¬ x.toInt < lo := fun q => hc (Or.inl q)
      have h2 : ¬ hi < x.toInt := fun q => hc (Or.inr q)
      have hj : (x.toInt - lo).toNat < os.size := by omega
      have hoff : os[(x.toInt - lo).toNat]? = some os[(x.toInt - lo).toNat] := Array.getElem?_eq_getElem hj
      have hmem : os[(x.toInt - lo).toNat] ∈ os.toList := by rw [Array.mem_toList_iff]; exact Array.getElem_mem hj
      have ht := List.all_eq_true.mp hos _ hmem
      simp only [decide_eq_true_eq] at ht
      refine lv_tableIn hx hb hdg h1 h2 hoff ht (kk _ _ _ (hp.2 (x.toInt - lo).toNat _ ?_ ?_) ls hL)
      · rw [nk_lg_eq, List.getElem?_map, Array.getElem?_toList, hoff]
        rfl
      · omega
  case lookupswitch d ps =>
    simp only [nk_ok, Bool.and_eq_true, decide_eq_true_eq] at hok
    obtain ⟨rfl, ⟨⟨htg, hd⟩, hos⟩, hinc⟩ := hok
    obtain ⟨x, S1, rfl, hp⟩ := nk_pi_inv hp
    subst htg
    rcases nk_off ps.toList d x.toInt with ⟨j, p, h1, h2, h3⟩ | ⟨h1, h2⟩
    · have ht := List.all_eq_true.mp hos p (List.mem_of_getElem? h1)
      simp only [decide_eq_true_eq] at ht
      refine lv_lookup hx hb hdg hinc h3 ht (kk _ _ _ (hp.2 j _ p.1 ?_ ?_ h2) ls hL)
      · rw [nk_lg_eq, List.getElem?_map, h1]
        rfl
      · rw [nk_lg_eq, List.getElem?_map, h1]
        rfl
    · refine lv_lookup hx hb hdg hinc h2 hd (kk _ _ _ (hp.1 (fun a ha => ?_)) ls hL)
      obtain ⟨p, hp1, rfl⟩ := List.mem_map.mp ha
      exact h1 p hp1
  all_goals exact False.elim hp
end NkPure
