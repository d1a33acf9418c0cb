/-! ===== every instruction of a table is sound; a method's contract ===== -/
theorem nk_lk_mem {α : Type} : ∀ (l : List (Nat × α)) (i : Nat) (a : α), nk_lk l i = some a → (i, a) ∈ l
  | [], _, _, h => by cases h
  | q :: l, i, a, h => by
    unfold nk_lk at h
    cases hb : Nat.beq q.1 i with
    | true =>
      rw [hb] at h
      have e1 := Nat.eq_of_beq_eq_true hb
      cases h
      rw [← e1]
      exact List.mem_cons_self
    | false =>
      rw [hb] at h
      exact List.mem_cons_of_mem _ (nk_lk_mem l i a h)
theorem nk_sm_inv {α : Type} {x : Option α} {k : α → Prop} (h : nk_sm x k) : ∃ a, x = some a ∧ k a := by
  unfold nk_sm at h
  split at h
  · exact ⟨_, rfl, h⟩
  · exact h.elim
theorem nk_if_inv {b : Bool} {P : Prop} (h : nk_if b P) : b = true ∧ P := by
  cases b
  · exact h.elim
  · exact ⟨rfl, h⟩
theorem nk_obj_inv {h : nk_H} {q ci : Nat} {k : List Value → Prop} (hp : nk_obj h q ci k) : ∃ fs, nk_lg h q = some (.inr (ci, fs)) ∧ k fs := by
  unfold nk_obj at hp
  split at hp
  · rename_i cj fs hg
    obtain ⟨hb, hp1⟩ := nk_if_inv hp
    have := Nat.eq_of_beq_eq_true hb
    subst this
    exact ⟨fs, hg, hp1⟩
  · exact hp.elim
theorem nk_iaw_inv {h : nk_H} {q : Nat} {k : Nat → (Nat → Int32) → Prop} (hp : nk_iaw h q k) : ∃ n f, nk_lg h q = some (.inl (0, n, .inl f)) ∧ k n f := by
  unfold nk_iaw at hp
  split at hp
  · rename_i t n f hg
    obtain ⟨hb, hp1⟩ := nk_if_inv hp
    have := Nat.eq_of_beq_eq_true hb
    subst this
    exact ⟨n, f, hg, hp1⟩
  · exact hp.elim
theorem nk_iar_inv {h : nk_H} {q : Nat} {k : Nat → (Nat → Int32) → Prop} (hp : nk_iar h q k) : (∃ n f, nk_lg h q = some (.inl (0, n, .inl f)) ∧ k n f) ∨ (∃ r, (q, r) ∈ nk_sta ∧ k r.1 r.2.1) := by
  unfold nk_iar at hp
  split at hp
  · rename_i t n f hg
    obtain ⟨hb, hp1⟩ := nk_if_inv hp
    have := Nat.eq_of_beq_eq_true hb
    subst this
    exact Or.inl ⟨n, f, hg, hp1⟩
  · obtain ⟨r, h1, h2⟩ := nk_sm_inv hp
    exact Or.inr ⟨r, nk_lk_mem _ _ _ h1, h2⟩
  · exact hp.elim
theorem nk_lar_inv {h : nk_H} {q : Nat} {k : Nat → (Nat → Int64) → Prop} (hp : nk_lar h q k) : ∃ n f, nk_lg h q = some (.inl (1, n, .inr (.inl f))) ∧ k n f := by
  unfold nk_lar at hp
  split at hp
  · rename_i t n f hg
    obtain ⟨hb, hp1⟩ := nk_if_inv hp
    have := Nat.eq_of_beq_eq_true hb
    subst this
    exact ⟨n, f, hg, hp1⟩
  · exact hp.elim
theorem nk_rar_inv {h : nk_H} {q : Nat} {k : Nat → Nat → (Nat → Option Nat) → Prop} (hp : nk_rar h q k) : ∃ t n f, nk_lg h q = some (.inl (t, n, .inr (.inr (.inr (.inr f))))) ∧ k t n f := by
  unfold nk_rar at hp
  split at hp
  · rename_i t n f hg
    exact ⟨t, n, f, hg, hp⟩
  · exact hp.elim
theorem nk_len_inv {h : nk_H} {q : Nat} {k : Nat → Prop} (hp : nk_len h q k) : ∃ t n f ty, nk_lg h q = some (.inl (t, n, f)) ∧ nk_ty[t]? = some ty ∧ k n := by
  unfold nk_len at hp
  split at hp
  · rename_i t n f hg
    obtain ⟨ty, h1, h2⟩ := nk_sm_inv hp
    rw [nk_lg_eq] at h1
    exact ⟨t, n, f, ty, hg, h1, h2⟩
  · exact hp.elim
theorem nk_popn_inv : ∀ (n : Nat) (acc S : List Value) (k : List Value → List Value → Prop), nk_popn n acc S k → ∃ as S', as.length = n ∧ S = as.reverse ++ S' ∧ k (as ++ acc) S'
  | 0, acc, S, k, h => ⟨[], S, rfl, rfl, h⟩
  | n + 1, acc, [], k, h => False.elim h
  | n + 1, acc, v :: S, k, h => by
    obtain ⟨as, S', h1, h2, h3⟩ := nk_popn_inv n (v :: acc) S k h
    refine ⟨as ++ [v], S', by simp [h1], by simp [h2], by simpa using h3⟩
theorem nk_add_inv {c m : Nat} {k : Nat → Prop} (h : nk_add c m k) : k (c + m) := by
  cases m with
  | zero => exact h
  | succ m => exact h
theorem nk_ret_inv {r : Option Value} {S : List Value} {k : List Value → Prop} (h : nk_ret r S k) : k (r.toList ++ S) := by
  cases r <;> exact h
theorem nk_rcv_t {rc : Nat} {as : List Value} {h : nk_H} {P : Prop} (hp : nk_rcv rc as h P) : nk_rcv rc as h True ∧ P := by
  cases rc with
  | zero => exact ⟨trivial, hp⟩
  | succ ci =>
    obtain ⟨q, As, e1, hp1⟩ := nk_pr_inv hp
    subst e1
    obtain ⟨fs, hg, hp2⟩ := nk_obj_inv hp1
    refine ⟨?_, hp2⟩
    show nk_obj h q ci (fun _ => True)
    unfold nk_obj
    rw [hg]
    show nk_if (Nat.beq ci ci) True
    rw [Nat.beq_refl]
    trivial
/-- fields of a class: the row of a table is right -/
noncomputable def nk_isr : FieldType → Bool
  | .object _ => true
  | .array _ => true
  | _ => false
noncomputable def nk_kdok (kd : Nat) (d : String) (fin : Bool) : Bool := match kd with
  | 0 => decide (parseFieldDescriptor d = some .int) && !fin
  | 1 => decide (parseFieldDescriptor d = some .boolean) && !fin
  | 2 => decide (parseFieldDescriptor d = some .long) && !fin
  | 3 => (match parseFieldDescriptor d with
    | some ty => nk_isr ty
    | none => false) && !fin
  | 4 => (match parseFieldDescriptor d with
    | some ty => nk_isr ty
    | none => false) && fin
  | 5 => true
  | _ => false
noncomputable def nk_fok (own : String) (q : Nat × Nat × Nat × Nat) : Bool := match nk_cl[q.2.1]? with
  | some r => decide (q.2.2.1 < r.2.2) && decide (Cond.fieldLink own q.1 (r.2.1 q.2.2.1).1 (r.2.1 q.2.2.1).2.1 (r.2.1 q.2.2.1).2.2.1 ∈ nk_gw) && nk_kdok q.2.2.2 (r.2.1 q.2.2.1).2.2.1 (r.2.1 q.2.2.1).2.2.2 && (decide (q.2.2.2 ≠ 4) || decide ((r.2.1 q.2.2.1).1 = own))
  | none => false
noncomputable def nk_clok (r : vw_C) : Prop := (∀ w ∈ u_ws r.1 r.2.1 r.2.2, w ∈ nk_gw) ∧ ∃ ty : Nat → FieldType, (∀ k, k < r.2.2 → parseFieldDescriptor (r.2.1 k).2.2.1 = some (ty k)) ∧ (∀ a, a < r.2.2 → ∀ b, b < r.2.2 → a ≠ b → (r.2.1 a).2.1 ≠ (r.2.1 b).2.1)
/-- a class that may be made: its fields at first -/
noncomputable def nk_newok (own : String) (q : Nat × Nat × List Value) : Prop := ∃ (r : vw_C) (ty : Nat → FieldType), nk_cl[q.2.1]? = some r ∧ r.2.2 = q.2.2.length ∧ (∀ k, k < r.2.2 → parseFieldDescriptor (r.2.1 k).2.2.1 = some (ty k)) ∧ (∀ j, j < r.2.2 → defaultValue (ty j) = vp_V q.2.2 j) ∧ (∀ v ∈ q.2.2, ∀ ad, nk_v ad v = v) ∧ Cond.classLink own q.1 r.1 ∈ nk_gw ∧ Cond.instantiable r.1 r.2.2 ∈ nk_gw ∧ Cond.initialized r.1 ∈ nk_gw
noncomputable def nk_arrok (own : String) (q : Nat × Nat) : Prop := ∃ C : String, nk_ty[q.2]? = some (.object C) ∧ Cond.classLink own q.1 C ∈ nk_gw ∧ C ∈ nk_ao
/-- a static array: the row of a table is right -/
noncomputable def nk_stok (own : String) (q : Nat × Nat) : Prop := ∃ r ∈ nk_sta, r.1 = q.2 ∧ Cond.fieldLink own q.1 r.2.2.2.1 r.2.2.2.2.1 r.2.2.2.2.2 ∈ nk_gw
noncomputable def nk_rt : Nat → Option FieldType
  | 0 => none
  | 1 => some .int
  | 2 => some .boolean
  | _ => some .long
/-- what is asked of a method's tables -/
noncomputable def nk_Tok (l : Launch) (R : Room) (own : String) (cc : ByteArray) (nL : Nat) (al : Bool) (X : nk_T) : Prop :=
  (∀ q ∈ X.1, nk_fok own q = true) ∧ (∀ q ∈ X.2.1, nk_CallOk l R own cc nL al q.1 q.2) ∧ (∀ q ∈ X.2.2.1, Cond.constant own q.1 q.2 ∈ nk_gw) ∧ (∀ q ∈ X.2.2.2.1, Cond.constantLong own q.1 q.2 ∈ nk_gw) ∧ (∀ q ∈ X.2.2.2.2.1, nk_newok own q) ∧ (∀ q ∈ X.2.2.2.2.2.1, nk_arrok own q) ∧ (∀ q ∈ X.2.2.2.2.2.2.1, nk_stok own q) ∧ (0 < X.2.2.2.2.2.2.2.2.2.1 → al = true) ∧ R.cells = X.2.2.2.2.2.2.2.2.2.1 ∧ R.slots = X.2.2.2.2.2.2.2.2.2.2
theorem nk_end_inv {X : nk_T} {c s : Nat} {P : Prop} (h : nk_end X c s P) : (c = X.2.2.2.2.2.2.2.2.2.1 ∧ s ≤ X.2.2.2.2.2.2.2.2.2.2) ∧ P := by
  obtain ⟨h1, h2⟩ := nk_if_inv h
  rw [Bool.and_eq_true] at h1
  exact ⟨⟨Nat.eq_of_beq_eq_true h1.1, Nat.le_of_ble_eq_true h1.2⟩, h2⟩
theorem nk_room_inv {X : nk_T} {c s : Nat} {P : Prop} (h : nk_room X c s P) : (c ≤ X.2.2.2.2.2.2.2.2.2.1 ∧ s ≤ X.2.2.2.2.2.2.2.2.2.2) ∧ P := by
  obtain ⟨h1, h2⟩ := nk_if_inv h
  rw [Bool.and_eq_true] at h1
  exact ⟨⟨Nat.le_of_ble_eq_true h1.1, Nat.le_of_ble_eq_true h1.2⟩, h2⟩
/-- what is asked of the tables that all methods share -/
noncomputable def nk_Gok : Prop := (∀ r ∈ nk_cl, nk_clok r) ∧ Cond.arrayClass .int ∈ nk_gw ∧ Cond.arrayClass .long ∈ nk_gw ∧ (∀ q ∈ nk_cm, ∃ r : vw_C, nk_cl[q.2]? = some r ∧ nk_ty[q.1]? = some (.object r.1))
theorem nk_SS {A : Nat → Prop} {H0 H H1 : Heap} {locs locs1 : List Loc} (h1 : va_S A H0 H locs) (h2 : va_S A H H1 locs1) : va_S A H0 H1 locs1 := ⟨Nat.le_trans h1.1 h2.1, fun q a b => (h2.2.1 q (Nat.lt_of_lt_of_le a h1.1) b).trans (h1.2.1 q a b), h2.2.2⟩
theorem nk_S0 {A : Nat → Prop} {H0 H : Heap} {locs : List Loc} (h1 : va_S A H0 H locs) : va_S A H H locs := ⟨Nat.le_refl _, fun _ _ _ => rfl, h1.2.2⟩
theorem nk_nxs {al : Bool} {n0 : Nat} {s : State} {h h' : nk_H} {H H1 : Heap} {cs : Nat} (hn : nk_nx al n0 s h H cs) (hl : h'.length = h.length) (hz : H.size ≤ H1.size) : nk_nx al n0 s h' H1 cs := fun hal => by
  have := hn hal
  exact ⟨by omega, by omega⟩
section NkNew
variable {p : Program} {l : Launch} {e : Env} {R : Room} {s : State} {m : MethodId} {args : Array Value} {below : List Frame} {meth : Method} {c : Code} {H : Heap} {locs : List Loc} {cells slots : Nat} {Q : State → Prop}
variable {own : String} {cc : ByteArray} {ad : Nat → Nat} {nL n0 : Nat} {D : va_G} {cA : Nat → ClassId} {A : Nat → Prop} {al : Bool}
/-- a new cell at the heap's end, as the picture has it -/
theorem nk_grow (hA : ∀ q : Nat, s.heap.size ≤ q → A q) {h : nk_H} {o : nk_O} {H1 : Heap} (hP : va_P D nk_cl (nk_w cA ad h 0) H) (hD : va_D A (nk_w cA ad h 0)) (hS : va_S A s.heap H locs) (hn : nk_nx al n0 s h H cells) (ha : ad h.length = H.size) (z1 : H1.size = H.size + 1) (o1 : ∀ q : Nat, q < H.size → H1[q]? = H[q]?) (ho : va_at D nk_cl (H.size, nk_o cA ad o) H1) :
    va_P D nk_cl (nk_w cA ad (h ++ [o]) 0) H1 ∧ va_D A (nk_w cA ad (h ++ [o]) 0) ∧ va_S A s.heap H1 locs ∧ nk_nx al n0 s (h ++ [o]) H1 (cells + 1) := by
  have he : nk_w cA ad (h ++ [o]) 0 = nk_w cA ad h 0 ++ [(H.size, nk_o cA ad o)] := by
    rw [nk_w_app, Nat.zero_add, ha]
  have hk : ∀ (k : Nat) (x : Nat × va_E), (nk_w cA ad h 0)[k]? = some x → H1[x.1]? = H[x.1]? := fun k x hx => o1 x.1 ((hP k x hx).lt)
  refine ⟨?_, ?_, ⟨Nat.le_trans hS.1 (by omega), fun x h1 h2 => (o1 x (Nat.lt_of_lt_of_le h1 hS.1)).trans (hS.2.1 x h1 h2), hS.2.2⟩, fun hal => ?_⟩
  · rw [he]
    refine (hP.kept hk).app (fun k x hx => ?_)
    have hz : k < 1 := (List.getElem?_eq_some_iff.mp hx).1
    rw [show k = 0 by omega] at hx
    cases hx
    exact ho
  · rw [he]
    exact hD.push hP rfl (hA _ hS.1)
  · obtain ⟨h1, h2⟩ := hn hal
    rw [List.length_append]
    exact ⟨by simp; omega, by omega⟩
end NkNew
section NkSem
variable {p : Program} {l : Launch} {e : Env} {R : Room} {s : State} {m : MethodId} {args : Array Value} {below : List Frame} {meth : Method} {c : Code}
variable {own : String} {cc : ByteArray} {ad : Nat → Nat} {nL n0 : Nat} {D : va_G} {cA : Nat → ClassId} {A : Nat → Prop} {al : Bool} {Qc : Array Value → State → Outcome → State → Prop}
set_option maxHeartbeats 8000000 in
theorem nk_semW (hB : nk_B p s m args meth c own cc nL D cA ad A al n0) {X : nk_T} (hT : nk_Tok l R own cc nL al X) (hG : nk_Gok) (hini : X.2.2.2.2.2.2.2.2.1 = true → meth.name = "<init>") (hrt : meth.sig.returnType = nk_rt X.2.2.2.2.2.2.2.1)
    {pc n nx : Nat} {i : Instr} {tg : List Nat} {lit : Int32} (hdg : decode cc pc = .ok (i, n)) (hok : nk_ok pc i n nx tg lit = true) {L : nk_Ls} {S : List Value} {h : nk_H} {cs sl : Nat} {K : nk_K} {Qa : nk_Q}
    (hQ : ∀ (v : Option Value) (h' : nk_H) (t : State) (locs : List Loc), Qa v h' → s.WarmedH t.vm → va_P D nk_cl (nk_w cA ad h' 0) t.heap → va_D A (nk_w cA ad h' 0) → va_S A s.heap t.heap locs → nk_nx al n0 s h' t.heap X.2.2.2.2.2.2.2.2.2.1 → Qc args s (.returned (v.map (nk_v ad))) t)
    (hp : nk_sem X i nx tg lit L S h cs sl K Qa)
    (kk : ∀ (pc : Nat) (L : nk_Ls) (S : List Value) (h : nk_H) (cs sl : Nat), K pc L S h cs sl → nk_G p l e R s m args below meth c nL D cA ad A al n0 (MQ below Qc args s X.2.2.2.2.2.2.2.2.2.1 X.2.2.2.2.2.2.2.2.2.2 A) pc L S h cs sl) :
    nk_G p l e R s m args below meth c nL D cA ad A al n0 (MQ below Qc args s X.2.2.2.2.2.2.2.2.2.1 X.2.2.2.2.2.2.2.2.2.2 A) pc L S h cs sl := by
  have hB0 := hB
  obtain ⟨hx, hb, hml, hown, hts, hN, hK, hA, hSt, hlk, hax⟩ := hB
  obtain ⟨tF, tC, tI, tJ, tN, tA, tS, tal, tR1, tR2⟩ := hT
  obtain ⟨hcl, hwi, hwl, hcm⟩ := hG
  have calls : ∀ (key : Nat), decode cc pc = .ok (nk_kop key, 3) → nk_call X key (pc + 3) L S h cs sl K → nk_G p l e R s m args below meth c nL D cA ad A al n0 (MQ below Qc args s X.2.2.2.2.2.2.2.2.2.1 X.2.2.2.2.2.2.2.2.2.2 A) pc L S h cs sl := by
    intro key hd2 hp
    obtain ⟨C, hC, hp⟩ := nk_sm_inv hp
    obtain ⟨as, S1, hlen, hS1, hp⟩ := nk_popn_inv _ _ _ _ hp
    rw [List.append_nil] at hp
    obtain ⟨hrc, hp⟩ := nk_rcv_t hp
    obtain ⟨hcat, hp⟩ := nk_if_inv hp
    have hp := nk_add_inv hp
    have hp := nk_add_inv hp
    obtain ⟨hr, hp⟩ := nk_if_inv hp
    rw [Bool.and_eq_true] at hr
    rw [hS1]
    exact tC _ (nk_lk_mem _ _ _ hC) p e s m args below meth c D cA ad A n0 _ hB0 pc hd2 L S1 as h cs sl _ hlen hrc (Nat.le_of_ble_eq_true hcat) (by rw [tR1]; exact Nat.le_of_ble_eq_true hr.1) (by rw [tR2]; exact Nat.le_of_ble_eq_true hr.2) hp (fun v h' hk => kk _ _ _ _ _ _ (nk_ret_inv hk))
  cases i
  case invokevirtual x =>
    simp only [nk_ok, Bool.and_eq_true, decide_eq_true_eq] at hok
    obtain ⟨rfl, rfl⟩ := hok
    exact calls (4 * x) (by rw [hdg]; simp [nk_kop]) hp
  case invokespecial x =>
    simp only [nk_ok, Bool.and_eq_true, decide_eq_true_eq] at hok
    obtain ⟨rfl, rfl⟩ := hok
    exact calls (4 * x + 1) (by
      rw [hdg]
      have e1 : (4 * x + 1) % 4 = 1 := by omega
      have e2 : (4 * x + 1) / 4 = x := by omega
      simp [nk_kop, e1, e2]) hp
  case invokestatic x =>
    simp only [nk_ok, Bool.and_eq_true, decide_eq_true_eq] at hok
    obtain ⟨rfl, rfl⟩ := hok
    exact calls (4 * x + 2) (by
      rw [hdg]
      have e1 : (4 * x + 2) % 4 = 2 := by omega
      have e2 : (4 * x + 2) / 4 = x := by omega
      simp [nk_kop, e1, e2]) hp
  all_goals intro H locs ls hP hD hS hn hL
  case getfield x =>
    simp only [nk_ok, Bool.and_eq_true, decide_eq_true_eq] at hok
    obtain ⟨rfl, rfl⟩ := hok
    obtain ⟨f, hf, hp⟩ := nk_sm_inv hp
    obtain ⟨q, S1, rfl, hp⟩ := nk_pr_inv hp
    obtain ⟨fs, hg, hp⟩ := nk_obj_inv hp
    obtain ⟨v, hv, hp⟩ := nk_sm_inv hp
    have hfo := tF _ (nk_lk_mem _ _ _ hf)
    unfold nk_fok at hfo
    cases hr : nk_cl[f.1]? with
    | none => simp only [hr] at hfo; cases hfo
    | some r =>
      simp only [hr, Bool.and_eq_true, decide_eq_true_eq] at hfo
      obtain ⟨⟨⟨hk, hlink⟩, -⟩, -⟩ := hfo
      have hcr := hcl r (List.mem_of_getElem? hr)
      refine va_get (ref := (r.2.1 f.2.1).1) (v := nk_v ad v) hx hb hts hcr.1 hown hK hP q (nk_w_at hg) hr f.2.1 hk (hts _ hlink) (fun _ h9 => h9) ?_ hdg (kk _ _ _ _ _ _ hp H locs ls hP hD hS hn hL)
      rw [List.getElem?_map, ← nk_lg_eq, hv]
      rfl
  case putfield x =>
    simp only [nk_ok, Bool.and_eq_true, decide_eq_true_eq] at hok
    obtain ⟨rfl, rfl⟩ := hok
    obtain ⟨f, hf, hp⟩ := nk_sm_inv hp
    cases S with
    | nil => exact hp.elim
    | cons v S =>
    obtain ⟨q, S1, rfl, hp⟩ := nk_pr_inv hp
    obtain ⟨fs, hg, hp⟩ := nk_obj_inv hp
    have hfo := tF _ (nk_lk_mem _ _ _ hf)
    unfold nk_fok at hfo
    obtain ⟨f1, f2, f3⟩ := f
    cases hr : nk_cl[f1]? with
    | none => simp only [hr] at hfo; cases hfo
    | some r =>
      simp only [hr, Bool.and_eq_true, decide_eq_true_eq] at hfo
      obtain ⟨⟨⟨hk, hlink⟩, hkd⟩, hdec⟩ := hfo
      obtain ⟨hcr1, ty0, hty, hnm⟩ := hcl r (List.mem_of_getElem? hr)
      have fin : nk_ins fs f2 v (fun fs => K (pc + 3) L S1 (h.set q (.inr (f1, fs))) cs sl) → f2 < (fs.map (nk_v ad)).length ∧ ∀ (H1 : Heap) (locs1 : List Loc), va_P D nk_cl ((nk_w cA ad h 0).set q (ad q, .inr (f1, (fs.map (nk_v ad)).set f2 (nk_v ad v)))) H1 → va_D A ((nk_w cA ad h 0).set q (ad q, .inr (f1, (fs.map (nk_v ad)).set f2 (nk_v ad v)))) → va_S A H H1 locs1 → W p l e R s m args below meth c H1 locs1 cs sl (MQ below Qc args s X.2.2.2.2.2.2.2.2.2.1 X.2.2.2.2.2.2.2.2.2.2 A) (F0 m (pc + 3) ls (S1.map (nk_v ad))) := by
        intro P
        obtain ⟨h1, h2⟩ := nk_ins_set _ _ _ _ P
        refine ⟨by rw [List.length_map]; exact h1, fun H1 locs1 hP1 hD1 hS1 => ?_⟩
        have he : (nk_w cA ad h 0).set q (ad q, .inr (f1, (fs.map (nk_v ad)).set f2 (nk_v ad v))) = nk_w cA ad (h.set q (.inr (f1, fs.set f2 v))) 0 := nk_w_st (by show _ = Sum.inr (f1, (fs.set f2 v).map (nk_v ad)); rw [List.map_set])
        rw [he] at hP1 hD1
        exact kk _ _ _ _ _ _ h2 H1 locs1 ls hP1 hD1 (nk_SS hS hS1) (nk_nxs hn List.length_set hS1.1) hL
      have plain : ∀ (ty : FieldType), parseFieldDescriptor (r.2.1 f2).2.2.1 = some ty → (r.2.1 f2).2.2.2 = false → narrow ty (nk_v ad v) = nk_v ad v → fits ty (nk_v ad v) = true → nk_ins fs f2 v (fun fs => K (pc + 3) L S1 (h.set q (.inr (f1, fs))) cs sl) → W p l e R s m args below meth c H locs cs sl (MQ below Qc args s X.2.2.2.2.2.2.2.2.2.1 X.2.2.2.2.2.2.2.2.2.2 A) (F0 m pc ls (nk_v ad v :: .ref (ad q) :: S1.map (nk_v ad))) := by
        intro ty e1 e2 e3 e4 P
        obtain ⟨w1, w2⟩ := fin P
        exact va_put (ref := (r.2.1 f2).1) hx hb hts hcr1 ty0 hty hnm hown hK hP hD (nk_S0 hS) q (nk_w_at hg) hr f2 hk (hts _ hlink) (fun _ h9 => h9) e2 e1 e3 e4 w1 hdg w2
      match f3, hp, hkd, hdec with
      | 0, hp, hkd, _ =>
        simp only [nk_kdok, Bool.and_eq_true, decide_eq_true_eq, Bool.not_eq_true'] at hkd
        cases v with
        | int x => exact plain .int hkd.1 hkd.2 rfl rfl hp
        | _ => exact False.elim hp
      | 1, hp, hkd, _ =>
        simp only [nk_kdok, Bool.and_eq_true, decide_eq_true_eq, Bool.not_eq_true'] at hkd
        cases v with
        | int x =>
          obtain ⟨hx01, hp⟩ := (hp : nk_bo x _)
          rcases hx01 with rfl | rfl
          · exact plain .boolean hkd.1 hkd.2 rfl rfl hp
          · exact plain .boolean hkd.1 hkd.2 rfl rfl hp
        | _ => exact False.elim hp
      | 2, hp, hkd, _ =>
        simp only [nk_kdok, Bool.and_eq_true, decide_eq_true_eq, Bool.not_eq_true'] at hkd
        cases v with
        | long x => exact plain .long hkd.1 hkd.2 rfl rfl hp
        | _ => exact False.elim hp
      | 3, hp, hkd, _ =>
        simp only [nk_kdok, Bool.and_eq_true, Bool.not_eq_true'] at hkd
        cases v with
        | ref x =>
          cases hpd : parseFieldDescriptor (r.2.1 f2).2.2.1 with
          | none => rw [hpd] at hkd; cases hkd.1
          | some ty =>
            rw [hpd] at hkd
            cases ty with
            | object C => exact plain (.object C) hpd hkd.2 rfl rfl hp
            | array t => exact plain (.array t) hpd hkd.2 rfl rfl hp
            | _ => cases hkd.1
        | _ => exact False.elim hp
      | 4, hp, hkd, hdec =>
        simp only [nk_kdok, Bool.and_eq_true] at hkd
        simp at hdec
        cases v with
        | ref x =>
          obtain ⟨hi, hp⟩ := nk_if_inv hp
          obtain ⟨w1, w2⟩ := fin hp
          cases hpd : parseFieldDescriptor (r.2.1 f2).2.2.1 with
          | none => rw [hpd] at hkd; cases hkd.1
          | some ty =>
            rw [hpd] at hkd
            cases ty with
            | object C => exact va_putF (ref := (r.2.1 f2).1) hx hb hts hcr1 ty0 hty hnm hown hK hP hD (nk_S0 hS) q (nk_w_at hg) hr f2 hk (hts _ hlink) (fun _ h9 => h9) hkd.2 (hini hi) hdec hpd rfl rfl w1 hdg w2
            | array t => exact va_putF (ref := (r.2.1 f2).1) hx hb hts hcr1 ty0 hty hnm hown hK hP hD (nk_S0 hS) q (nk_w_at hg) hr f2 hk (hts _ hlink) (fun _ h9 => h9) hkd.2 (hini hi) hdec hpd rfl rfl w1 hdg w2
            | _ => cases hkd.1
        | _ => exact False.elim hp
      | k + 5, hp, _, _ => exact False.elim hp
  case iaload =>
    simp only [nk_ok, Bool.and_eq_true, decide_eq_true_eq] at hok
    obtain ⟨rfl, rfl⟩ := hok
    obtain ⟨i, S1, rfl, hp⟩ := nk_pi_inv hp
    obtain ⟨q, S2, rfl, hp⟩ := nk_pr_inv hp
    rcases nk_iar_inv hp with ⟨n, f, hg, hin, hp⟩ | ⟨r, hr, hin, hp⟩
    · exact va_iald hx hb hK hP q 0 (nk_w_at hg) (nk_tys_at rfl) hin hdg (kk _ _ _ _ _ _ hp H locs ls hP hD hS hn hL)
    · obtain ⟨s1, s2, s3, -⟩ := hSt _ hr
      exact va_sld hx hb s1 s2 s3 hS hin hdg (kk _ _ _ _ _ _ hp H locs ls hP hD hS hn hL)
  case laload =>
    simp only [nk_ok, Bool.and_eq_true, decide_eq_true_eq] at hok
    obtain ⟨rfl, rfl⟩ := hok
    obtain ⟨i, S1, rfl, hp⟩ := nk_pi_inv hp
    obtain ⟨q, S2, rfl, hp⟩ := nk_pr_inv hp
    obtain ⟨n, f, hg, hin, hp⟩ := nk_lar_inv hp
    exact va_lald hx hb hK hP q 1 (nk_w_at hg) (nk_tys_at rfl) hin hdg (kk _ _ _ _ _ _ hp H locs ls hP hD hS hn hL)
  case aaload =>
    simp only [nk_ok, Bool.and_eq_true, decide_eq_true_eq] at hok
    obtain ⟨rfl, rfl⟩ := hok
    obtain ⟨i, S1, rfl, hp⟩ := nk_pi_inv hp
    obtain ⟨q, S2, rfl, hp⟩ := nk_pr_inv hp
    obtain ⟨t, n, f, hg, hp⟩ := nk_rar_inv hp
    obtain ⟨ci, hci, hin, hp⟩ := nk_sm_inv hp
    obtain ⟨r, hr1, hr2⟩ := hcm _ (nk_lk_mem _ _ _ hci)
    refine va_aldq hx hb hK hP q t (nk_w_at hg) (nk_tys_at hr2) hin hdg ?_
    have h1 := kk _ _ _ _ _ _ hp H locs ls hP hD hS hn hL
    have h2 : va_rf ((f i.toNatClampNeg).map ad) = nk_v ad (va_rf (f i.toNatClampNeg)) := by cases f i.toNatClampNeg <;> rfl
    rw [h2]
    exact h1
  case iastore =>
    simp only [nk_ok, Bool.and_eq_true, decide_eq_true_eq] at hok
    obtain ⟨rfl, rfl⟩ := hok
    obtain ⟨v, S0, rfl, hp⟩ := nk_pi_inv hp
    obtain ⟨i, S1, rfl, hp⟩ := nk_pi_inv hp
    obtain ⟨q, S2, rfl, hp⟩ := nk_pr_inv hp
    obtain ⟨n, f, hg, hin, hp⟩ := nk_iaw_inv hp
    refine va_iast hx hb hK hP hD (nk_S0 hS) q 0 (nk_w_at hg) (nk_tys_at rfl) hin hdg (fun H1 locs1 hP1 hD1 hS1 => ?_)
    have he : (Sum.inl (cA 0, n, .inl (upd f i.toNatClampNeg v)) : va_E) = nk_o cA ad (.inl (0, n, .inl (upd f i.toNatClampNeg v))) := rfl
    rw [nk_w_st he] at hP1 hD1
    exact kk _ _ _ _ _ _ hp H1 locs1 ls hP1 hD1 (nk_SS hS hS1) (nk_nxs hn List.length_set hS1.1) hL
  case lastore =>
    simp only [nk_ok, Bool.and_eq_true, decide_eq_true_eq] at hok
    obtain ⟨rfl, rfl⟩ := hok
    obtain ⟨v, S0, rfl, hp⟩ := nk_pl_inv hp
    obtain ⟨i, S1, rfl, hp⟩ := nk_pi_inv hp
    obtain ⟨q, S2, rfl, hp⟩ := nk_pr_inv hp
    obtain ⟨n, f, hg, hin, hp⟩ := nk_lar_inv hp
    refine va_last hx hb hK hP hD (nk_S0 hS) q 1 (nk_w_at hg) (nk_tys_at rfl) hin hdg (fun H1 locs1 hP1 hD1 hS1 => ?_)
    have he : (Sum.inl (cA 1, n, .inr (.inl (vp_updL f i.toNatClampNeg v))) : va_E) = nk_o cA ad (.inl (1, n, .inr (.inl (vp_updL f i.toNatClampNeg v)))) := rfl
    rw [nk_w_st he] at hP1 hD1
    exact kk _ _ _ _ _ _ hp H1 locs1 ls hP1 hD1 (nk_SS hS hS1) (nk_nxs hn List.length_set hS1.1) hL
  case aastore =>
    simp only [nk_ok, Bool.and_eq_true, decide_eq_true_eq] at hok
    obtain ⟨rfl, rfl⟩ := hok
    obtain ⟨v, S0, rfl, hp⟩ := nk_pr_inv hp
    obtain ⟨i, S1, rfl, hp⟩ := nk_pi_inv hp
    obtain ⟨q, S2, rfl, hp⟩ := nk_pr_inv hp
    obtain ⟨t, n, f, hg, hp⟩ := nk_rar_inv hp
    obtain ⟨ci, hci, hp⟩ := nk_sm_inv hp
    obtain ⟨vs, hgv, hin, hp⟩ := nk_obj_inv hp
    obtain ⟨r, hr1, hr2⟩ := hcm _ (nk_lk_mem _ _ _ hci)
    refine va_astq hx hb hK hP hD (nk_S0 hS) q t v ci (nk_w_at hg) (nk_tys_at hr2) (nk_w_at hgv) hr1 hin hdg (fun H1 locs1 hP1 hD1 hS1 => ?_)
    have he : (Sum.inl (cA t, n, .inr (.inr (.inr (.inr (va_up (fun i => (f i).map ad) i.toNatClampNeg (some (ad v))))))) : va_E) = nk_o cA ad (.inl (t, n, .inr (.inr (.inr (.inr (va_up f i.toNatClampNeg (some v))))))) := by
      have : va_up (fun i => (f i).map ad) i.toNatClampNeg (some (ad v)) = fun j => (va_up f i.toNatClampNeg (some v) j).map ad := by
        funext j
        unfold va_up
        by_cases hj : j = i.toNatClampNeg
        · simp [hj]
        · simp [hj]
      rw [this]
      rfl
    rw [nk_w_st he] at hP1 hD1
    exact kk _ _ _ _ _ _ hp H1 locs1 ls hP1 hD1 (nk_SS hS hS1) (nk_nxs hn List.length_set hS1.1) hL
  case arraylength =>
    simp only [nk_ok, Bool.and_eq_true, decide_eq_true_eq] at hok
    obtain ⟨rfl, rfl⟩ := hok
    obtain ⟨q, S2, rfl, hp⟩ := nk_pr_inv hp
    obtain ⟨t, n, f, ty, hg, hty, hp⟩ := nk_len_inv hp
    exact va_alen hx hb hK hP q t (nk_w_at hg) (nk_tys_at hty) rfl hdg (kk _ _ _ _ _ _ hp H locs ls hP hD hS hn hL)
  case getstatic x =>
    simp only [nk_ok, Bool.and_eq_true, decide_eq_true_eq] at hok
    obtain ⟨rfl, rfl⟩ := hok
    obtain ⟨q, hq, hp⟩ := nk_sm_inv hp
    obtain ⟨r, hr, e1, hlink⟩ := tS _ (nk_lk_mem _ _ _ hq)
    obtain ⟨s1, s2, s3, s4⟩ := hSt _ hr
    rw [e1] at s4
    exact va_gets hx hb s4 hS hown (hts _ hlink) (fun _ h9 => h9) hdg (kk _ _ _ _ _ _ hp H locs ls hP hD hS hn hL)
  case ldc x =>
    simp only [nk_ok, Bool.and_eq_true, decide_eq_true_eq] at hok
    obtain ⟨rfl, rfl⟩ := hok
    obtain ⟨v, hv, hp⟩ := nk_sm_inv hp
    exact W.ldc hx hb hown (hts _ (tI _ (nk_lk_mem _ _ _ hv))) rfl hdg (kk _ _ _ _ _ _ hp H locs ls hP hD hS hn hL)
  case ldc_w x =>
    simp only [nk_ok, Bool.and_eq_true, decide_eq_true_eq] at hok
    obtain ⟨rfl, rfl⟩ := hok
    obtain ⟨v, hv, hp⟩ := nk_sm_inv hp
    exact lv_ldcw hx hb hown (hts _ (tI _ (nk_lk_mem _ _ _ hv))) hdg (kk _ _ _ _ _ _ hp H locs ls hP hD hS hn hL)
  case ldc2_w x =>
    simp only [nk_ok, Bool.and_eq_true, decide_eq_true_eq] at hok
    obtain ⟨rfl, rfl⟩ := hok
    obtain ⟨v, hv, hp⟩ := nk_sm_inv hp
    exact W.ldc2 hx hb hown (hts _ (tJ _ (nk_lk_mem _ _ _ hv))) rfl hdg (kk _ _ _ _ _ _ hp H locs ls hP hD hS hn hL)
  case new x =>
    simp only [nk_ok, Bool.and_eq_true, decide_eq_true_eq] at hok
    obtain ⟨rfl, rfl⟩ := hok
    obtain ⟨d, hd, n, h', e1, e2, hp⟩ := nk_sm_inv hp
    obtain ⟨hbig, hp⟩ := nk_if_inv hp
    have hbig := Nat.le_of_ble_eq_true hbig
    obtain ⟨hroom, hp⟩ := nk_room_inv hp
    subst e1
    subst e2
    obtain ⟨r, ty, hr, hlen, hty, hdef, hcv, hcll, hinst, hinn⟩ := tN _ (nk_lk_mem _ _ _ hd)
    have hal : al = true := tal (by omega)
    intro T hTh XX
    obtain ⟨z1, z2⟩ := nk_sz hn hTh XX hal
    have hadl : ad h.length = H.size := by
      rw [hax hal _ (by omega) (by omega)]
      omega
    have hKn := hK.1 _ _ hr
    refine W.newcK hx hb hown (hts _ hcll) (hts _ hinst) (hts _ hinn) (g := F0 m pc ls (S.map (nk_v ad))) rfl hdg (by rw [tR1]; exact hroom.1) (by rw [tR2, hlen]; exact hroom.2) hKn.2.1 rfl (fun H1 kC hkC e1 z1' o1 => ?_) T hTh XX
    have hmap : d.2.map (nk_v ad) = d.2 := by
      conv => rhs; rw [← List.map_id d.2]
      exact List.map_congr_left (fun v hv => hcv v hv ad)
    obtain ⟨hcr1, -⟩ := hcl r (List.mem_of_getElem? hr)
    obtain ⟨g1, g2, g3, g4⟩ := nk_grow (o := .inr d) hA hP hD hS hn hadl z1' o1 ⟨r, hr, (u_born ty hts hcr1 hKn hkC e1 hty).to (fun j hj => by rw [hmap]; exact hdef j hj)⟩
    have h9 := kk _ _ _ _ _ _ hp H1 locs ls g1 g2 g3 g4 hL
    rw [hlen]
    have he : ((Value.ref h.length :: S).map (nk_v ad)) = .ref H.size :: S.map (nk_v ad) := by
      show Value.ref (ad h.length) :: _ = _
      rw [hadl]
    rw [he] at h9
    exact h9
  case newarray ty =>
    simp only [nk_ok, Bool.and_eq_true, decide_eq_true_eq] at hok
    obtain ⟨rfl, rfl⟩ := hok
    obtain ⟨v, S1, rfl, hv0, hv1, n, z, h', e1, e2, hp⟩ := nk_pi_inv hp
    obtain ⟨hbig, hp⟩ := nk_if_inv hp
    have hbig := Nat.le_of_ble_eq_true hbig
    obtain ⟨hroom, hp⟩ := nk_room_inv hp
    subst e1
    have hal : al = true := tal (by omega)
    intro T hTh XX
    obtain ⟨z1, z2⟩ := nk_sz hn hTh XX hal
    have hadl : ad h.length = H.size := by
      rw [hax hal _ (by omega) (by omega)]
      omega
    cases ty
    case int =>
      obtain ⟨e3, hp⟩ := hp
      subst e3
      refine va_newaK hx hb (atype := .int) (hts _ hwi) (g := F0 m pc ls ((Value.int v :: S1).map (nk_v ad))) rfl hdg rfl hv0 e2 (by have : componentBytes (newarray.typeOf .int) = 4 := rfl; rw [this]; omega) (by rw [tR1]; exact hroom.1) (by rw [tR2]; exact hroom.2) rfl (fun H1 cA' e4 z1' o1 hAr hNm => ?_) T hTh XX
      have hcA : cA' = cA 0 := Option.some.inj (hNm.symm.trans (hK.2 0 _ (nk_tys_at rfl)).2)
      subst hcA
      obtain ⟨g1, g2, g3, g4⟩ := nk_grow (o := .inl (0, z, .inl (fun _ => 0))) hA hP hD hS hn hadl z1' o1 e4
      have h9 := kk _ _ _ _ _ _ hp H1 locs ls g1 g2 g3 g4 hL
      have he : ((Value.ref h.length :: S1).map (nk_v ad)) = .ref H.size :: S1.map (nk_v ad) := by
        show Value.ref (ad h.length) :: _ = _
        rw [hadl]
      rw [he] at h9
      exact h9
    case long =>
      obtain ⟨e3, hp⟩ := hp
      subst e3
      refine va_newaK hx hb (atype := .long) (hts _ hwl) (g := F0 m pc ls ((Value.int v :: S1).map (nk_v ad))) rfl hdg rfl hv0 e2 (by have : componentBytes (newarray.typeOf .long) = 8 := rfl; rw [this]; omega) (by rw [tR1]; exact hroom.1) (by rw [tR2]; exact hroom.2) rfl (fun H1 cA' e4 z1' o1 hAr hNm => ?_) T hTh XX
      have hcA : cA' = cA 1 := Option.some.inj (hNm.symm.trans (hK.2 1 _ (nk_tys_at rfl)).2)
      subst hcA
      obtain ⟨g1, g2, g3, g4⟩ := nk_grow (o := .inl (1, z, .inr (.inl (fun _ => 0)))) hA hP hD hS hn hadl z1' o1 e4
      have h9 := kk _ _ _ _ _ _ hp H1 locs ls g1 g2 g3 g4 hL
      have he : ((Value.ref h.length :: S1).map (nk_v ad)) = .ref H.size :: S1.map (nk_v ad) := by
        show Value.ref (ad h.length) :: _ = _
        rw [hadl]
      rw [he] at h9
      exact h9
    all_goals exact False.elim hp
  case anewarray x =>
    simp only [nk_ok, Bool.and_eq_true, decide_eq_true_eq] at hok
    obtain ⟨rfl, rfl⟩ := hok
    obtain ⟨t, ht, hp⟩ := nk_sm_inv hp
    obtain ⟨v, S1, rfl, hv0, hv1, n, z, h', e1, e2, hp⟩ := nk_pi_inv hp
    obtain ⟨hbig, hp⟩ := nk_if_inv hp
    have hbig := Nat.le_of_ble_eq_true hbig
    obtain ⟨hroom, e3, hp⟩ := nk_room_inv hp
    subst e1
    subst e3
    obtain ⟨C, htC, hcll, hov⟩ := tA _ (nk_lk_mem _ _ _ ht)
    have hal : al = true := tal (by omega)
    intro T hTh XX
    obtain ⟨z1, z2⟩ := nk_sz hn hTh XX hal
    have hadl : ad h.length = H.size := by
      rw [hax hal _ (by omega) (by omega)]
      omega
    refine W.anew hx hb hown (hts _ hcll) (va_AO.use (hN.2 C hov)) (g := F0 m pc ls ((Value.int v :: S1).map (nk_v ad))) rfl hdg rfl hv0 (by omega) (by rw [tR1]; exact hroom.1) (by rw [tR2, e2]; exact hroom.2) (fun cA' kA comp f1 f2 f3 f4 => ?_) T hTh XX
    have hcA : cA' = cA t := by
      obtain ⟨_, _, _, _, _, k4⟩ := (hK.2 t _ (nk_tys_at htC)).2
      exact Option.some.inj (f1.symm.trans k4)
    subst hcA
    rw [e2]
    generalize hH1 : H.push ({ cls := cA t, slots := Array.replicate z .null, vm := .none } : Cell) = H1
    have z1' : H1.size = H.size + 1 := by rw [← hH1, Array.size_push]
    have e4 : H1[H.size]? = some (arrV (cA t) z (fun _ => .null)) := by rw [← hH1, Array.getElem?_push_size, ← arrV_new]
    have o1 : ∀ q : Nat, q < H.size → H1[q]? = H[q]? := fun q hq => by rw [← hH1, Array.getElem?_push, if_neg (Nat.ne_of_lt hq)]
    obtain ⟨g1, g2, g3, g4⟩ := nk_grow (o := .inl (t, z, .inr (.inr (.inr (.inr (fun _ => none)))))) hA hP hD hS hn hadl z1' o1 e4
    have h9 := kk _ _ _ _ _ _ hp H1 locs ls g1 g2 g3 g4 hL
    have he : ((Value.ref h.length :: S1).map (nk_v ad)) = .ref H.size :: S1.map (nk_v ad) := by
      show Value.ref (ad h.length) :: _ = _
      rw [hadl]
    rw [he] at h9
    exact h9
  case ireturn =>
    simp only [nk_ok, Bool.and_eq_true, decide_eq_true_eq] at hok
    obtain ⟨rfl, rfl⟩ := hok
    match S, hp with
    | [.int v], hp =>
      obtain ⟨⟨ec, es⟩, hp⟩ := nk_end_inv hp
      generalize X.2.2.2.2.2.2.2.1 = rr at hp hrt
      show W p l e R s m args below meth c H locs cs sl _ (F0 m pc ls [.int v])
      refine W.widen (k := X.2.2.2.2.2.2.2.2.2.1) (n := X.2.2.2.2.2.2.2.2.2.2) (Nat.le_of_eq ec) es ?_
      rw [ec] at hn
      match rr, hp, hrt with
      | 1, hp, hrt => exact W.iret hx hb hrt (fun t ht hW => hQ (some (.int v)) h t locs hp hW (by rw [ht]; exact hP) hD (by rw [ht]; exact hS) (by rw [ht]; exact hn)) hS.2.2 hdg
      | 2, hp, hrt =>
        obtain ⟨hv, hp⟩ := (hp : nk_bo v _)
        refine W.zret hx hb hrt ?_ (fun t ht hW => hQ (some (.int v)) h t locs hp hW (by rw [ht]; exact hP) hD (by rw [ht]; exact hS) (by rw [ht]; exact hn)) hS.2.2 hdg
        rcases hv with rfl | rfl <;> rfl
      | 0, hp, _ => exact False.elim hp
      | k + 3, hp, _ => exact False.elim hp
    | [], hp => exact False.elim hp
    | .int _ :: _ :: _, hp => exact False.elim hp
    | .long _ :: _, hp => exact False.elim hp
    | .float _ :: _, hp => exact False.elim hp
    | .double _ :: _, hp => exact False.elim hp
    | .null :: _, hp => exact False.elim hp
    | .ref _ :: _, hp => exact False.elim hp
    | .retAddr _ :: _, hp => exact False.elim hp
  case lreturn =>
    simp only [nk_ok, Bool.and_eq_true, decide_eq_true_eq] at hok
    obtain ⟨rfl, rfl⟩ := hok
    match S, hp with
    | [.long v], hp =>
      obtain ⟨⟨ec, es⟩, hp⟩ := nk_end_inv hp
      generalize X.2.2.2.2.2.2.2.1 = rr at hp hrt
      show W p l e R s m args below meth c H locs cs sl _ (F0 m pc ls [.long v])
      refine W.widen (k := X.2.2.2.2.2.2.2.2.2.1) (n := X.2.2.2.2.2.2.2.2.2.2) (Nat.le_of_eq ec) es ?_
      rw [ec] at hn
      match rr, hp, hrt with
      | 3, hp, hrt => exact W.lret hx hb hrt (fun t ht hW => hQ (some (.long v)) h t locs hp hW (by rw [ht]; exact hP) hD (by rw [ht]; exact hS) (by rw [ht]; exact hn)) hS.2.2 hdg
      | 0, hp, _ => exact False.elim hp
      | 1, hp, _ => exact False.elim hp
      | 2, hp, _ => exact False.elim hp
      | k + 4, hp, _ => exact False.elim hp
    | [], hp => exact False.elim hp
    | .long _ :: _ :: _, hp => exact False.elim hp
    | .int _ :: _, hp => exact False.elim hp
    | .float _ :: _, hp => exact False.elim hp
    | .double _ :: _, hp => exact False.elim hp
    | .null :: _, hp => exact False.elim hp
    | .ref _ :: _, hp => exact False.elim hp
    | .retAddr _ :: _, hp => exact False.elim hp
  case return_ =>
    simp only [nk_ok, Bool.and_eq_true, decide_eq_true_eq] at hok
    obtain ⟨rfl, rfl⟩ := hok
    match S, hp with
    | [], hp =>
      obtain ⟨⟨ec, es⟩, hp⟩ := nk_end_inv hp
      generalize X.2.2.2.2.2.2.2.1 = rr at hp hrt
      show W p l e R s m args below meth c H locs cs sl _ (F0 m pc ls [])
      refine W.widen (k := X.2.2.2.2.2.2.2.2.2.1) (n := X.2.2.2.2.2.2.2.2.2.2) (Nat.le_of_eq ec) es ?_
      rw [ec] at hn
      match rr, hp, hrt with
      | 0, hp, hrt => exact W.vret hx hb hrt (fun t ht hW => hQ none h t locs hp hW (by rw [ht]; exact hP) hD (by rw [ht]; exact hS) (by rw [ht]; exact hn)) hS.2.2 hdg
      | k + 1, hp, _ => exact False.elim hp
    | _ :: _, hp => exact False.elim hp
  all_goals exact nk_pureW (L := L) (S := S) (K := fun pc L S => K pc L S h cs sl) hx hb hdg hok hp (fun pc' L' S' hk ls' hL' => kk _ _ _ _ _ _ hk H locs ls' hP hD hS hn hL') hL
end NkSem
/-- a method's table: every row is what its bytes are -/
noncomputable def nk_chk (cc : ByteArray) (kc : Nat → Option nk_I) (N : Nat) : Bool := (List.range N).all (fun pc => match kc pc with
  | none => true
  | some (i, n, nx, tg, lit) => decide (decode cc pc = .ok (i, n)) && nk_ok pc i n nx tg lit)
theorem nk_lv_args (ad : Nat → Nat) : ∀ (as : List Value) (n k : Nat) (i : Nat) (v : Value), nk_get (nk_ent as n) i = some v → (k + i, nk_v ad v) ∈ lv_args k (as.map (nk_v ad))
  | [], n, k, i, v, h => by
    rw [nk_get_eq] at h
    unfold nk_ent at h
    rw [List.getElem?_replicate] at h
    split at h <;> cases h
  | a :: as, n, k, i, v, h => by
    have one : a.category = 1 → nk_ent (a :: as) n = some a :: nk_ent as (n - 1) → (k + i, nk_v ad v) ∈ lv_args k ((a :: as).map (nk_v ad)) := by
      intro hc he
      rw [he] at h
      simp only [List.map_cons, lv_args]
      rw [if_neg (by rw [nk_v_cat, hc]; decide)]
      cases i with
      | zero =>
        cases (h : some a = some v)
        exact List.mem_cons_self
      | succ i =>
        have := nk_lv_args ad as (n - 1) (k + 1) i v h
        rw [show k + (i + 1) = k + 1 + i by omega]
        exact List.mem_cons_of_mem _ this
    have two : a.category = 2 → nk_ent (a :: as) n = some a :: none :: nk_ent as (n - 2) → (k + i, nk_v ad v) ∈ lv_args k ((a :: as).map (nk_v ad)) := by
      intro hc he
      rw [he] at h
      simp only [List.map_cons, lv_args]
      rw [if_pos (by rw [nk_v_cat, hc])]
      match i, h with
      | 0, h =>
        cases (h : some a = some v)
        exact List.mem_cons_self
      | 1, h => cases h
      | i + 2, h =>
        have := nk_lv_args ad as (n - 2) (k + 2) i v h
        rw [show k + (i + 2) = k + 2 + i by omega]
        exact List.mem_cons_of_mem _ this
    cases a with
    | long x => exact two rfl rfl
    | double x => exact two rfl rfl
    | int x => exact one rfl rfl
    | float x => exact one rfl rfl
    | null => exact one rfl rfl
    | ref x => exact one rfl rfl
    | retAddr x => exact one rfl rfl
theorem nk_ent_len (ad : Nat → Nat) : ∀ (as : List Value) (n : Nat), (lg_sl (as.map (nk_v ad))).length ≤ n → (nk_ent as n).length = n
  | [], n, _ => by simp [nk_ent]
  | a :: as, n, h => by
    have hs : lg_sl ((a :: as).map (nk_v ad)) = (if a.category = 2 then [.val (nk_v ad a), .second] else [.val (nk_v ad a)]) ++ lg_sl (as.map (nk_v ad)) := by
      unfold lg_sl
      rw [List.map_cons, List.flatMap_cons, nk_v_cat]
    rw [hs, List.length_append] at h
    cases a with
    | long x => simp [Value.category] at h; simp [nk_ent, nk_ent_len ad as (n - 2) (by omega)]; omega
    | double x => simp [Value.category] at h; simp [nk_ent, nk_ent_len ad as (n - 2) (by omega)]; omega
    | int x => simp [Value.category] at h; simp [nk_ent, nk_ent_len ad as (n - 1) (by omega)]; omega
    | float x => simp [Value.category] at h; simp [nk_ent, nk_ent_len ad as (n - 1) (by omega)]; omega
    | null => simp [Value.category] at h; simp [nk_ent, nk_ent_len ad as (n - 1) (by omega)]; omega
    | ref x => simp [Value.category] at h; simp [nk_ent, nk_ent_len ad as (n - 1) (by omega)]; omega
    | retAddr x => simp [Value.category] at h; simp [nk_ent, nk_ent_len ad as (n - 1) (by omega)]; omega
/-- the values that a method takes, by words -/
noncomputable def nk_wd : List Value → Nat
  | [] => 0
  | v :: as => v.category + nk_wd as
theorem nk_wd_len (ad : Nat → Nat) : ∀ (as : List Value), (lg_sl (as.map (nk_v ad))).length = nk_wd as
  | [] => rfl
  | a :: as => by
    have hs : lg_sl ((a :: as).map (nk_v ad)) = (if a.category = 2 then [.val (nk_v ad a), .second] else [.val (nk_v ad a)]) ++ lg_sl (as.map (nk_v ad)) := by
      unfold lg_sl
      rw [List.map_cons, List.flatMap_cons, nk_v_cat]
    rw [hs, List.length_append, nk_wd_len ad as]
    cases a <;> simp [Value.category, nk_wd]
set_option maxHeartbeats 2000000 in
/-- THE CONTRACT of a method: what its picture does, it does -/
theorem nk_met {l : Launch} {y : MethodName} {cc : ByteArray} {nL : Nat} {ret : Option FieldType} {rm : Room} {al : Bool} {X : nk_T} {kc : Nat → Option nk_I} {N : Nat} (hG : nk_Gok) (hy : plainFor y = true) (hchk : nk_chk cc kc N = true) (hout : ∀ pc, N ≤ pc → kc pc = none)
    (hT : nk_Tok l rm y.cls cc nL al X) (hret : ret = nk_rt X.2.2.2.2.2.2.2.1) (hini : X.2.2.2.2.2.2.2.2.1 = true → y.name = "<init>") :
    nk_Met l y cc nL ret rm al X.2.2.2.2.2.2.2.2.2.1 X.2.2.2.2.2.2.2.2.2.2 (fun as h Q => nk_if (Nat.ble (nk_wd as) nL) (nk_ev X kc nL as h Q)) := by
  intro D cA ad sz as h Qa hev
  obtain ⟨hwd, hev⟩ := nk_if_inv hev
  refine va_MetF (cc := cc) (maxL := nL) (ret := ret) hy rfl ?_
  intro p e s m args below meth c s₁ B hml hv
  obtain ⟨rfl, hsz, hP, hK, hD0, hax, hN, hSt⟩ := hv
  have hts := atoms_spec (ws := Cond.code y cc nL ret :: nk_gw) B.pre
  have hown : s.vm.findClass y.cls = some m.cls := findClass_of_methodNamed B.named
  have hin := (name_of_methodNamed B.named B.method).1
  subst hsz
  have hD := hD0.self (sz := s.heap.size)
  have hlen : (lg_sl (as.map (nk_v ad))).length ≤ nL := by rw [nk_wd_len]; exact Nat.le_of_ble_eq_true hwd
  have hl := lv_entry (as.map (nk_v ad)) hlen
  have hB : nk_B p s m (as.map (nk_v ad)).toArray meth c y.cls cc nL D cA ad (va_A (nk_w cA ad h 0) s.heap.size) al h.length := ⟨B.exec, B.bytes, hml, hown, fun w hw => hts w (List.mem_cons_of_mem _ hw), hN, hK, fun q hq => Or.inr hq, hSt, B.notSynchronized, hax⟩
  have key : nk_G p l e (headSpec (Cond.code y cc nL ret :: nk_gw) rm).room s m (as.map (nk_v ad)).toArray below meth c nL D cA ad (va_A (nk_w cA ad h 0) s.heap.size) al h.length (MQ below (nk_Qc al X.2.2.2.2.2.2.2.2.2.1 D cA ad s.heap.size h Qa) (as.map (nk_v ad)).toArray s X.2.2.2.2.2.2.2.2.2.1 X.2.2.2.2.2.2.2.2.2.2 (va_A (nk_w cA ad h 0) s.heap.size)) 0 (nk_ent as nL) [] h 0 0 := by
    refine hev _ (fun pc L S h1 cs sl K hK1 hat => ?_)
    unfold nk_at at hat
    split at hat
    · rename_i i n nx tg lit hkc
      have hpc : pc < N := by
        rcases Nat.lt_or_ge pc N with q | q
        · exact q
        · rw [hout pc q] at hkc; cases hkc
      have h2 := List.all_eq_true.mp hchk pc (List.mem_range.mpr hpc)
      simp only [hkc, Bool.and_eq_true, decide_eq_true_eq] at h2
      exact nk_semW hB hT hG (fun hi => by rw [hin]; exact hini hi) (by rw [B.returns, hret]) h2.1 h2.2 (fun v h' t locs hq hW hP' hD' hS' hn' => ⟨⟨v, h', rfl, hq, hP', hD', fun hal => by have := hn' hal; exact ⟨by omega, by omega⟩⟩, hS'.F rfl⟩) hat hK1
    · exact hat.elim
  rw [lg_entry_eq]
  exact key s.heap [] _ hP hD va_S.rf (fun _ => ⟨by omega, by omega⟩) ⟨nk_ent_len ad as nL hlen, hl.1, hl.2.1, fun i v hv => by have := hl.2.2 _ (nk_lv_args ad as nL 0 i v hv); rw [Nat.zero_add] at this; exact this⟩
