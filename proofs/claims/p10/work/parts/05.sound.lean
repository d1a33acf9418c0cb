/-! ===== the picture of cells over a heap ===== -/
noncomputable def nk_x (ad : Nat → Nat) (x : nk_A) : nk_A := match x with
  | .inr (.inr (.inr (.inr f))) => .inr (.inr (.inr (.inr (fun i => (f i).map ad))))
  | x => x
noncomputable def nk_o (cA : Nat → ClassId) (ad : Nat → Nat) (o : nk_O) : va_E := match o with
  | .inl (t, n, x) => .inl (cA t, n, nk_x ad x)
  | .inr (ci, fs) => .inr (ci, fs.map (nk_v ad))
noncomputable def nk_w (cA : Nat → ClassId) (ad : Nat → Nat) : nk_H → Nat → va_W
  | [], _ => []
  | o :: h, k => (ad k, nk_o cA ad o) :: nk_w cA ad h (k + 1)
theorem nk_w_get (cA : Nat → ClassId) (ad : Nat → Nat) : ∀ (h : nk_H) (k j : Nat), (nk_w cA ad h k)[j]? = (h[j]?).map (fun o => (ad (k + j), nk_o cA ad o))
  | [], k, j => by simp [nk_w]
  | o :: h, k, 0 => by simp [nk_w]
  | o :: h, k, j + 1 => by
    simp only [nk_w, List.getElem?_cons_succ]
    rw [nk_w_get cA ad h (k + 1) j, show k + 1 + j = k + (j + 1) by omega]
theorem nk_w_set (cA : Nat → ClassId) (ad : Nat → Nat) (o : nk_O) : ∀ (h : nk_H) (k q : Nat), (nk_w cA ad h k).set q (ad (k + q), nk_o cA ad o) = nk_w cA ad (h.set q o) k
  | [], k, q => by simp [nk_w]
  | a :: h, k, 0 => by simp [nk_w]
  | a :: h, k, q + 1 => by
    simp only [nk_w, List.set_cons_succ]
    rw [← nk_w_set cA ad o h (k + 1) q, show k + 1 + q = k + (q + 1) by omega]
theorem nk_w_app (cA : Nat → ClassId) (ad : Nat → Nat) (o : nk_O) : ∀ (h : nk_H) (k : Nat), nk_w cA ad (h ++ [o]) k = nk_w cA ad h k ++ [(ad (k + h.length), nk_o cA ad o)]
  | [], k => by simp [nk_w]
  | a :: h, k => by
    simp only [nk_w, List.cons_append, List.length_cons]
    rw [nk_w_app cA ad o h (k + 1), show k + 1 + h.length = k + (h.length + 1) by omega]
theorem nk_w_at {cA : Nat → ClassId} {ad : Nat → Nat} {h : nk_H} {q : Nat} {o : nk_O} (hq : nk_lg h q = some o) : (nk_w cA ad h 0)[q]? = some (ad q, nk_o cA ad o) := by
  rw [nk_w_get, ← nk_lg_eq, hq, Nat.zero_add]
  rfl
theorem nk_w_st {cA : Nat → ClassId} {ad : Nat → Nat} {h : nk_H} {q : Nat} {o : nk_O} {e : va_E} (he : e = nk_o cA ad o) : (nk_w cA ad h 0).set q (ad q, e) = nk_w cA ad (h.set q o) 0 := by
  have h1 := nk_w_set cA ad o h 0 q
  rw [Nat.zero_add] at h1
  rw [he, h1]
noncomputable def nk_tyl (cA : Nat → ClassId) : List FieldType → Nat → List (ClassId × FieldType)
  | [], _ => []
  | t :: l, k => (cA k, t) :: nk_tyl cA l (k + 1)
theorem nk_tyl_get (cA : Nat → ClassId) : ∀ (l : List FieldType) (k j : Nat), (nk_tyl cA l k)[j]? = (l[j]?).map (fun t => (cA (k + j), t))
  | [], k, j => by simp [nk_tyl]
  | o :: h, k, 0 => by simp [nk_tyl]
  | o :: h, k, j + 1 => by
    simp only [nk_tyl, List.getElem?_cons_succ]
    rw [nk_tyl_get cA h (k + 1) j, show k + 1 + j = k + (j + 1) by omega]
noncomputable abbrev nk_tys (cA : Nat → ClassId) : List (ClassId × FieldType) := nk_tyl cA nk_ty 0
theorem nk_tys_at {cA : Nat → ClassId} {t : Nat} {ty : FieldType} (h : nk_ty[t]? = some ty) : (nk_tys cA)[t]? = some (cA t, ty) := by
  rw [nk_tyl_get, h, Nat.zero_add]
  rfl
/-- the static arrays: at their places, and nobody writes them -/
noncomputable def nk_St (ad : Nat → Nat) (A : Nat → Prop) (U : State) : Prop := ∀ q ∈ nk_sta, va_X (ad q.1) q.2.1 q.2.2.1 U U.heap ∧ ad q.1 < U.heap.size ∧ ¬ A (ad q.1) ∧ va_Z q.2.2.2.1 q.2.2.2.2.1 q.2.2.2.2.2 (.ref (ad q.1)) A U U.heap
noncomputable def nk_Ne (U : State) : Prop := (∀ q ∈ nk_nw, va_Nw (.methodLinkNest q.1 q.2.1 q.2.2.1 q.2.2.2) U) ∧ ∀ C ∈ nk_ao, va_AO C U
/-- where new cells come to lie -/
noncomputable def nk_ax (al : Bool) (n0 : Nat) (ad : Nat → Nat) (sz : Nat) : Prop := al = true → ∀ k : Nat, n0 ≤ k → k < 1000000 → ad k = sz + (k - n0)
/-- what stays the same within a method -/
noncomputable def nk_B (p : Program) (s : State) (m : MethodId) (args : Array Value) (meth : Method) (c : Code) (own : String) (cc : ByteArray) (nL : Nat) (D : va_G) (cA : Nat → ClassId) (ad : Nat → Nat) (A : Nat → Prop) (al : Bool) (n0 : Nat) : Prop :=
  p.tables.exec = Jvm.exec ∧ c.code = cc ∧ c.maxLocals = nL ∧ s.vm.findClass own = some m.cls ∧ (∀ w ∈ nk_gw, w.before args s = true) ∧ nk_Ne s ∧ va_K D nk_cl (nk_tys cA) s ∧ (∀ q : Nat, s.heap.size ≤ q → A q) ∧ nk_St ad A s ∧ meth.locks = false ∧ nk_ax al n0 ad s.heap.size
noncomputable def nk_nx (al : Bool) (n0 : Nat) (s : State) (h : nk_H) (H : Heap) (cs : Nat) : Prop := al = true → h.length = n0 + cs ∧ s.heap.size + cs ≤ H.size
/-- the machine at a picture -/
noncomputable def nk_G (p : Program) (l : Launch) (e : Env) (R : Room) (s : State) (m : MethodId) (args : Array Value) (below : List Frame) (meth : Method) (c : Code) (nL : Nat) (D : va_G) (cA : Nat → ClassId) (ad : Nat → Nat) (A : Nat → Prop) (al : Bool) (n0 : Nat) (Q : State → Prop) : nk_K := fun pc L S h cs sl =>
  ∀ (H : Heap) (locs : List Loc) (ls : Array Slot), va_P D nk_cl (nk_w cA ad h 0) H → va_D A (nk_w cA ad h 0) → va_S A s.heap H locs → nk_nx al n0 s h H cs → nk_L ad ls nL L → W p l e R s m args below meth c H locs cs sl Q (F0 m pc ls (S.map (nk_v ad)))
/-! a method's contract, by its picture -/
noncomputable def nk_Pc (al : Bool) (D : va_G) (cA : Nat → ClassId) (ad : Nat → Nat) (sz : Nat) (as : List Value) (h : nk_H) : Array Value → State → Prop := va_Pc (as.map (nk_v ad)) (fun U => U.heap.size = sz ∧ va_P D nk_cl (nk_w cA ad h 0) U.heap ∧ va_K D nk_cl (nk_tys cA) U ∧ va_D (fun _ => True) (nk_w cA ad h 0) ∧ nk_ax al h.length ad sz ∧ nk_Ne U ∧ nk_St ad (va_A (nk_w cA ad h 0) sz) U)
noncomputable def nk_Qc (al : Bool) (mc : Nat) (D : va_G) (cA : Nat → ClassId) (ad : Nat → Nat) (sz : Nat) (h : nk_H) (Q : nk_Q) : Array Value → State → Outcome → State → Prop := fun _ st oc t => (∃ (v : Option Value) (h' : nk_H), oc = .returned (v.map (nk_v ad)) ∧ Q v h' ∧ va_P D nk_cl (nk_w cA ad h' 0) t.heap ∧ va_D (va_A (nk_w cA ad h 0) sz) (nk_w cA ad h' 0) ∧ (al = true → h'.length = h.length + mc ∧ sz + mc ≤ t.heap.size)) ∧ va_F (va_A (nk_w cA ad h 0) sz) st t
theorem nk_blind (al : Bool) (D : va_G) (cA : Nat → ClassId) (ad : Nat → Nat) (sz : Nat) (as : List Value) (h : nk_H) : FrameBlind (nk_Pc al D cA ad sz as h) := by
  intro a U g mk q
  obtain ⟨q0, q1, qP, qK, qD, qn, qN, qS⟩ := q
  refine ⟨q0, q1, qP, va_K.moved (u := U) (U := U.calling g mk a) (Vm.Alike.refl U.vm) qK, qD, qn, ⟨fun r hr => ?_, fun C hC => va_AO.moved (u := U) (Vm.Alike.refl U.vm) (qN.2 C hC)⟩, fun r hr => ?_⟩
  · exact va_Nw.same rfl (u := U) rfl (qN.1 r hr)
  · obtain ⟨s1, s2, s3, s4⟩ := qS r hr
    exact ⟨va_X.moved (u := U) (Vm.Alike.refl U.vm) s1, s2, s3, va_Z.moved (u := U) (Vm.Alike.refl U.vm) s4⟩
section NkCall
variable {p : Program} {l : Launch} {e : Env} {R : Room} {s : State} {m : MethodId} {args : Array Value} {below : List Frame} {meth : Method} {c : Code} {H : Heap} {locs : List Loc} {cells slots : Nat} {Q : State → Prop}
variable {own : String} {cc : ByteArray} {ad : Nat → Nat} {nL n0 : Nat} {D : va_G} {cA : Nat → ClassId} {A : Nat → Prop} {al : Bool}
theorem nk_sub (hA : ∀ q : Nat, s.heap.size ≤ q → A q) {h : nk_H} (hD : va_D A (nk_w cA ad h 0)) (hS : va_S A s.heap H locs) : ∀ q : Nat, va_A (nk_w cA ad h 0) H.size q → A q := by
  intro q hq
  rcases hq with ⟨k, e, hk⟩ | hq
  · exact hD.2 k _ hk
  · exact hA q (Nat.le_trans hS.1 hq)
theorem nk_sz {h : nk_H} (hn : nk_nx al n0 s h H cells) {T : State} (hT : T.heap = H) (X : Stand p l e R s m args below meth c T locs cells slots) (hal : al = true) : H.size = s.heap.size + cells ∧ h.length = n0 + cells := by
  obtain ⟨h1, h2⟩ := hn hal
  have h3 : T.heap.size ≤ s.heap.size + cells := X.same.2.2.1
  rw [hT] at h3
  exact ⟨by omega, h1⟩
theorem nk_axm {h : nk_H} (hn : nk_nx al n0 s h H cells) (hax : nk_ax al n0 ad s.heap.size) {T : State} (hT : T.heap = H) (X : Stand p l e R s m args below meth c T locs cells slots) : nk_ax al h.length ad H.size := by
  intro hal k hk hk2
  obtain ⟨h1, h2⟩ := nk_sz hn hT X hal
  rw [hax hal k (by omega) hk2]
  omega
/-- a callee's start holds at a call -/
theorem nk_pre (hB : nk_B p s m args meth c own cc nL D cA ad A al n0) {h : nk_H} {as : List Value} (hP : va_P D nk_cl (nk_w cA ad h 0) H) (hD : va_D A (nk_w cA ad h 0)) (hS : va_S A s.heap H locs) (hn : nk_nx al n0 s h H cells) {T : State} (hT : T.heap = H) (X : Stand p l e R s m args below meth c T locs cells slots) : ∀ U : State, U.heap = H → s.WarmedH U.vm → nk_Pc al D cA ad H.size as h (as.map (nk_v ad)).toArray U := by
  obtain ⟨hx, hb, hml, hown, hts, hN, hK, hA, hSt, hlk, hax⟩ := hB
  intro U hU hW
  refine ⟨rfl, by rw [hU], by rw [hU]; exact hP, va_K.moved hW.alike hK, hD.weaken (fun _ _ _ _ => trivial), nk_axm hn hax hT X, ⟨fun r hr => va_Nw.warmM hW (hN.1 r hr), fun C hC => va_AO.moved hW.alike (hN.2 C hC)⟩, fun r hr => ?_⟩
  obtain ⟨s1, s2, s3, s4⟩ := hSt r hr
  have hsub := nk_sub hA hD hS
  refine ⟨va_X.moved hW.alike (va_X.kept s1 (by rw [hU]; exact hS.2.1 _ s2 s3)), by rw [hU]; exact Nat.lt_of_lt_of_le s2 hS.1, fun z => s3 (hsub _ z), va_Z.moved hW.alike ?_⟩
  exact (va_Z.kept s4 (fun a h1 h2 => by rw [hU]; exact hS.2.1 a h1 h2)).narrow hsub
/-- behind a call -/
theorem nk_after (hB : nk_B p s m args meth c own cc nL D cA ad A al n0) {h : nk_H} {L : nk_Ls} {S st0 : List Value} {ls : Array Slot} {pc mc ms : Nat} {K : nk_Q} {arr : Array Value}
    (hr : va_Run p l e R s m args below meth c H locs cells slots mc ms (F0 m pc ls st0) (S.map (nk_v ad)) (nk_Qc al mc D cA ad H.size h K arr) (va_A (nk_w cA ad h 0) H.size))
    (hD : va_D A (nk_w cA ad h 0)) (hS : va_S A s.heap H locs) (hn : nk_nx al n0 s h H cells) (hL : nk_L ad ls nL L)
    (kk : ∀ (v : Option Value) (h' : nk_H), K v h' → nk_G p l e R s m args below meth c nL D cA ad A al n0 Q (pc + 3) L (v.toList ++ S) h' (cells + mc) (slots + ms)) : W p l e R s m args below meth c H locs cells slots Q (F0 m pc ls st0) := by
  obtain ⟨hx, hb, hml, hown, hts, hN, hK, hA, hSt, hlk, hax⟩ := hB
  have hsub := nk_sub hA hD hS
  intro T hT X
  obtain ⟨v, st₀, t, T', LL, h0, X', hLL, e1, e2, ⟨⟨v0, h', hv, hq, hP', hD', hn'⟩, hz, hk⟩, st⟩ := hr T hT X
  rw [h0] at hz hk
  have hv' : v = v0.map (nk_v ad) := by cases hv; rfl
  have hS' : va_S A s.heap t.heap (locs ++ LL) := ⟨Nat.le_trans hS.1 hz, fun q h1 h2 => by rw [hk q (Nat.lt_of_lt_of_le h1 hS.1) (fun z => h2 (hsub q z))]; exact hS.2.1 q h1 h2, fun q hq => by
    rcases List.mem_append.mp hq with h | h
    · exact hS.2.2 q h
    · exact hsub _ (hLL q h)⟩
  obtain ⟨t2, a1, b1⟩ := kk v0 h' hq t.heap (locs ++ LL) ls hP' (hD'.weaken (fun _ q _ z => hsub q.1 z)) hS' (fun hal => by have a1 := hn' hal; have a2 := hn hal; exact ⟨by omega, by omega⟩) hL T' e1 X'
  refine ⟨t2, st t2 ?_, b1⟩
  have he : v.toList ++ S.map (nk_v ad) = (v0.toList ++ S).map (nk_v ad) := by
    rw [hv']
    cases v0 <;> rfl
  have : ({ (F0 m pc ls st0) with pc := (F0 m pc ls st0).pc + 3, stack := v.toList ++ S.map (nk_v ad) } : JFrame) = F0 m (pc + 3) ls ((v0.toList ++ S).map (nk_v ad)) := by rw [he]
  rw [this]
  exact a1
end NkCall
/-- a call of a table's row is sound -/
noncomputable def nk_kop (k : Nat) : Instr := if k % 4 = 0 then .invokevirtual (k / 4) else if k % 4 = 1 then .invokespecial (k / 4) else .invokestatic (k / 4)
noncomputable def nk_CallOk (l : Launch) (R : Room) (own : String) (cc : ByteArray) (nL : Nat) (al : Bool) (key : Nat) (C : Nat × Nat × Nat × Nat × nk_Ev) : Prop :=
  ∀ (p : Program) (e : Env) (s : State) (m : MethodId) (args : Array Value) (below : List Frame) (meth : Method) (c : Code) (D : va_G) (cA : Nat → ClassId) (ad : Nat → Nat) (A : Nat → Prop) (n0 : Nat) (Q : State → Prop), nk_B p s m args meth c own cc nL D cA ad A al n0 →
  ∀ (pc : Nat), decode cc pc = .ok (nk_kop key, 3) → ∀ (L : nk_Ls) (S as : List Value) (h : nk_H) (cs sl : Nat) (K : nk_Q), as.length = C.1 → nk_rcv C.2.1 as h True → nk_cat S ≤ 8 → cs + C.2.2.1 ≤ R.cells → sl + C.2.2.2.1 ≤ R.slots → C.2.2.2.2 as h K →
  (∀ (v : Option Value) (h' : nk_H), K v h' → nk_G p l e R s m args below meth c nL D cA ad A al n0 Q (pc + 3) L (v.toList ++ S) h' (cs + C.2.2.1) (sl + C.2.2.2.1)) → nk_G p l e R s m args below meth c nL D cA ad A al n0 Q pc L (as.reverse ++ S) h cs sl
theorem nk_cat_sum (ad : Nat → Nat) : ∀ S : List Value, ((S.map (nk_v ad)).map fun v => v.category).sum = nk_cat S
  | [] => rfl
  | v :: S => by
    simp only [List.map_cons, List.sum_cons, nk_cat, nk_v_cat]
    rw [nk_cat_sum ad S]
theorem nk_gw_good {ws : List Cond} (h : ∀ w ∈ ws, w ∈ nk_gw) : GoodIn nk_gw ws := fun w hw => ⟨h w hw, good_of_word (List.mem_filter.mp (h w hw)).2⟩
/-- a method whose contract is proved -/
noncomputable def nk_Met (l : Launch) (y : MethodName) (bytes : ByteArray) (maxL : Nat) (ret : Option FieldType) (rm : Room) (al : Bool) (mc ms : Nat) (ev : nk_Ev) : Prop :=
  ∀ (D : va_G) (cA : Nat → ClassId) (ad : Nat → Nat) (sz : Nat) (as : List Value) (h : nk_H) (Q : nk_Q), ev as h Q → Met l y (Cond.code y bytes maxL ret :: nk_gw) rm (nk_Pc al D cA ad sz as h) (nk_Qc al mc D cA ad sz h Q) mc ms (va_A (nk_w cA ad h 0) sz)
theorem nk_rev_cons {ad : Nat → Nat} (v : Value) (As S : List Value) : ((v :: As).reverse ++ S).map (nk_v ad) = (As.map (nk_v ad)).reverse ++ nk_v ad v :: S.map (nk_v ad) := by
  simp [List.map_reverse]
theorem nk_rev {ad : Nat → Nat} (As S : List Value) : (As.reverse ++ S).map (nk_v ad) = (As.map (nk_v ad)).reverse ++ S.map (nk_v ad) := by
  simp [List.map_reverse]
theorem nk_rcv_inv {ci : Nat} {as : List Value} {h : nk_H} (hr : nk_rcv (ci + 1) as h True) : ∃ (q : Nat) (As : List Value) (fs : List Value), as = .ref q :: As ∧ nk_lg h q = some (.inr (ci, fs)) := by
  obtain ⟨q, As, e1, h1⟩ := nk_pr_inv hr
  unfold nk_obj at h1
  split at h1
  · rename_i cj fs hg
    cases hb : Nat.beq cj ci with
    | false => rw [hb] at h1; exact h1.elim
    | true =>
      have := Nat.eq_of_beq_eq_true hb
      subst this
      exact ⟨q, As, fs, e1, hg⟩
  · exact h1.elim
set_option maxHeartbeats 1000000 in
theorem nk_callV {l : Launch} {R : Room} {own : String} {cc : ByteArray} {nL : Nat} {al : Bool} {x : Nat} {y : MethodName} {bytes : ByteArray} {maxL : Nat} {ret : Option FieldType} {rm : Room} {mc ms n ci : Nat} {ev : nk_Ev} {r : vw_C}
    (hM : nk_Met l y bytes maxL ret rm al mc ms ev) (hc : nk_cl[ci]? = some r) (hw : ∀ w ∈ wsV own x r.1 y [Cond.code y bytes maxL ret], w ∈ nk_gw)
    (hrc : rm.cells = mc) (hrs : rm.slots = ms) (hd : y.cls = r.1 ∧ y.cls ≠ "java/lang/invoke/MethodHandle" ∧ y.cls ≠ "java/lang/invoke/VarHandle" ∧ (parseMethodDescriptor y.desc).map (fun d => d.parameters.length) = some n) (hR : rm.frames + 1 ≤ R.frames ∧ 8 + (maxL + 11) + rm.locals ≤ R.locals) :
    nk_CallOk l R own cc nL al (4 * x) (n + 1, ci + 1, mc, ms, ev) := by
  intro p e s m args below meth c D cA ad A n0 Q hB pc hdg L S as h cs sl K hn hrcv hcat hcs hsl hev kk H locs ls hP hD hS hnx hL T hT X
  have hB0 := hB
  obtain ⟨hx, hb, hml, hown, hts, hN, hK, hA, hSt, hlk, hax⟩ := hB
  obtain ⟨q, As, fs, rfl, hg⟩ := nk_rcv_inv hrcv
  have hdg' : decode cc pc = .ok (.invokevirtual x, 3) := by
    rw [hdg]
    simp [nk_kop]
  have hG : GoodIn nk_gw (wsV own x r.1 y (Cond.code y bytes maxL ret :: nk_gw)) := by
    refine nk_gw_good (fun w h => ?_)
    unfold wsV at h hw
    rcases List.mem_append.mp h with h1 | h1
    · exact hw w (List.mem_append_left _ h1)
    · rcases List.mem_cons.mp h1 with h2 | h2
      · rw [h2]; exact hw _ (List.mem_append_right _ List.mem_cons_self)
      · exact h2
  have hat := nk_w_at (cA := cA) (ad := ad) hg
  have hpre := nk_pre hB0 (as := .ref q :: As) hP hD hS hnx hT X
  have hrun := va_runV (p := p) (e := e) (below := below) (meth := meth) (H := H) (locs := locs) (cells := cs) (slots := sl) (g := F0 m pc ls (((.ref q :: As).reverse ++ S).map (nk_v ad))) (As := As.map (nk_v ad)) (rest := S.map (nk_v ad)) (b := ad q) (C := r.1) (n := n) ⟨hx, hb, hml, hown, hts⟩ (hM D cA ad H.size (.ref q :: As) h K hev)
    (cwV n hts hG rfl hrc hrs hd hR) ⟨nk_blind al D cA ad H.size (.ref q :: As) h, va_recv hK hP (q0 := q) hc hat, hpre⟩ rfl (by rw [List.length_map]; have : As.length + 1 = n + 1 := hn; omega) hL.2.1 (nk_rev_cons (.ref q) As S) (lv_room (by rw [nk_cat_sum]; exact hcat)) hdg' ⟨hcs, hsl⟩
  exact nk_after hB0 hrun hD hS hnx hL kk T hT X
set_option maxHeartbeats 1000000 in
theorem nk_callS {l : Launch} {R : Room} {own : String} {cc : ByteArray} {nL : Nat} {al : Bool} {x : Nat} {y : MethodName} {bytes : ByteArray} {maxL : Nat} {ret : Option FieldType} {rm : Room} {mc ms n : Nat} {ev : nk_Ev}
    (hM : nk_Met l y bytes maxL ret rm al mc ms ev) (hw : ∀ w ∈ va_wsS own x y [Cond.code y bytes maxL ret], w ∈ nk_gw)
    (hrc : rm.cells = mc) (hrs : rm.slots = ms) (hd : y.cls ≠ "java/lang/invoke/MethodHandle" ∧ y.cls ≠ "java/lang/invoke/VarHandle" ∧ (parseMethodDescriptor y.desc).map (fun d => d.parameters.length) = some n) (hR : rm.frames + 1 ≤ R.frames ∧ 8 + (maxL + 11) + rm.locals ≤ R.locals) :
    nk_CallOk l R own cc nL al (4 * x + 2) (n, 0, mc, ms, ev) := by
  intro p e s m args below meth c D cA ad A n0 Q hB pc hdg L S as h cs sl K hn hrcv hcat hcs hsl hev kk H locs ls hP hD hS hnx hL T hT X
  have hB0 := hB
  obtain ⟨hx, hb, hml, hown, hts, hN, hK, hA, hSt, hlk, hax⟩ := hB
  have hdg' : decode cc pc = .ok (.invokestatic x, 3) := by
    rw [hdg]
    have e1 : (4 * x + 2) % 4 = 2 := by omega
    have e2 : (4 * x + 2) / 4 = x := by omega
    simp [nk_kop, e1, e2]
  have hG : GoodIn nk_gw (va_wsS own x y (Cond.code y bytes maxL ret :: nk_gw)) := by
    refine nk_gw_good (fun w h => ?_)
    unfold va_wsS at h hw
    rcases List.mem_append.mp h with h1 | h1
    · exact hw w (List.mem_append_left _ h1)
    · rcases List.mem_cons.mp h1 with h2 | h2
      · rw [h2]; exact hw _ (List.mem_append_right _ List.mem_cons_self)
      · exact h2
  have hpre := nk_pre hB0 (as := as) hP hD hS hnx hT X
  have hrun := va_runS (p := p) (e := e) (below := below) (meth := meth) (H := H) (locs := locs) (cells := cs) (slots := sl) (g := F0 m pc ls ((as.reverse ++ S).map (nk_v ad))) (As := as.map (nk_v ad)) (rest := S.map (nk_v ad)) (n := n) ⟨hx, hb, hml, hown, hts⟩ (hM D cA ad H.size as h K hev)
    (va_cwS n hts hG rfl hrc hrs hd hR) ⟨nk_blind al D cA ad H.size as h, hpre⟩ rfl (by rw [List.length_map]; exact hn) hL.2.1 (nk_rev as S) (lv_room (by rw [nk_cat_sum]; exact hcat)) hdg' ⟨hcs, hsl⟩
  exact nk_after hB0 hrun hD hS hnx hL kk T hT X
theorem nk_goodw {y : MethodName} {bytes : ByteArray} {maxL : Nat} {ret : Option FieldType} (hw : Cond.code y bytes maxL ret ∈ nk_gw) : GoodIn nk_gw (Cond.code y bytes maxL ret :: nk_gw) := nk_gw_good (fun w h => by
  rcases List.mem_cons.mp h with h2 | h2
  · rw [h2]; exact hw
  · exact h2)
set_option maxHeartbeats 1000000 in
/-- a static method of the nest -/
theorem nk_callSN {l : Launch} {R : Room} {own host : String} {cc : ByteArray} {nL : Nat} {al : Bool} {x : Nat} {y : MethodName} {bytes : ByteArray} {maxL : Nat} {ret : Option FieldType} {rm : Room} {mc ms n : Nat} {ev : nk_Ev}
    (hM : nk_Met l y bytes maxL ret rm al mc ms ev) (hne : (own, x, y, host) ∈ nk_nw) (hw : Cond.code y bytes maxL ret ∈ nk_gw) (hst : Cond.static y ∈ nk_gw) (hin : Cond.initialized y.cls ∈ nk_gw)
    (hrc : rm.cells = mc) (hrs : rm.slots = ms) (hd : y.cls ≠ "java/lang/invoke/MethodHandle" ∧ y.cls ≠ "java/lang/invoke/VarHandle" ∧ (parseMethodDescriptor y.desc).map (fun d => d.parameters.length) = some n) (hR : rm.frames + 1 ≤ R.frames ∧ 8 + (maxL + 11) + rm.locals ≤ R.locals) :
    nk_CallOk l R own cc nL al (4 * x + 2) (n, 0, mc, ms, ev) := by
  intro p e s m args below meth c D cA ad A n0 Q hB pc hdg L S as h cs sl K hn hrcv hcat hcs hsl hev kk H locs ls hP hD hS hnx hL T hT X
  have hB0 := hB
  obtain ⟨hx, hb, hml, hown, hts, hN, hK, hA, hSt, hlk, hax⟩ := hB
  have hdg' : decode cc pc = .ok (.invokestatic x, 3) := by
    rw [hdg]
    have e1 : (4 * x + 2) % 4 = 2 := by omega
    have e2 : (4 * x + 2) / 4 = x := by omega
    simp [nk_kop, e1, e2]
  have hpre := nk_pre hB0 (as := as) hP hD hS hnx hT X
  have hrun := va_runSN (p := p) (e := e) (below := below) (meth := meth) (H := H) (locs := locs) (cells := cs) (slots := sl) (g := F0 m pc ls ((as.reverse ++ S).map (nk_v ad))) (As := as.map (nk_v ad)) (rest := S.map (nk_v ad)) (n := n) ⟨hx, hb, hml, hown, hts⟩ (hM D cA ad H.size as h K hev)
    ⟨va_cnB n hts (nk_goodw hw) rfl hrc hrs (hN.1 _ hne) (hts _ hin) hd hR, hts _ hst, trivial⟩ ⟨nk_blind al D cA ad H.size as h, hpre⟩ rfl (by rw [List.length_map]; exact hn) hL.2.1 (nk_rev as S) (lv_room (by rw [nk_cat_sum]; exact hcat)) hdg' ⟨hcs, hsl⟩
  exact nk_after hB0 hrun hD hS hnx hL kk T hT X
theorem nk_cons_of {as : List Value} {n : Nat} (h : as.length = n + 1) : ∃ v As, as = v :: As := by
  cases as with
  | nil => cases h
  | cons v As => exact ⟨v, As, rfl⟩
set_option maxHeartbeats 1000000 in
/-- a constructor -/
theorem nk_callI {l : Launch} {R : Room} {own : String} {cc : ByteArray} {nL : Nat} {al : Bool} {x : Nat} {y : MethodName} {bytes : ByteArray} {maxL : Nat} {rm : Room} {mc ms n ci : Nat} {ev : nk_Ev}
    (hM : nk_Met l y bytes maxL none rm al mc ms ev) (hw : Cond.code y bytes maxL none ∈ nk_gw) (hli : Cond.methodLink own x y ∈ nk_gw) (him : Cond.instanceMethod y ∈ nk_gw) (hin : Cond.initialized y.cls ∈ nk_gw) (hy : y.name = "<init>")
    (hrc : rm.cells = mc) (hrs : rm.slots = ms) (hd : y.cls ≠ "java/lang/invoke/MethodHandle" ∧ y.cls ≠ "java/lang/invoke/VarHandle" ∧ (parseMethodDescriptor y.desc).map (fun d => d.parameters.length) = some n) (hR : rm.frames + 1 ≤ R.frames ∧ 8 + (maxL + 11) + rm.locals ≤ R.locals) :
    nk_CallOk l R own cc nL al (4 * x + 1) (n + 1, ci + 1, mc, ms, ev) := by
  intro p e s m args below meth c D cA ad A n0 Q hB pc hdg L S as h cs sl K hn hrcv hcat hcs hsl hev kk H locs ls hP hD hS hnx hL T hT X
  have hB0 := hB
  obtain ⟨hx, hb, hml, hown, hts, hN, hK, hA, hSt, hlk, hax⟩ := hB
  obtain ⟨q, As, fs, rfl, hg⟩ := nk_rcv_inv hrcv
  have hdg' : decode cc pc = .ok (.invokespecial x, 3) := by
    rw [hdg]
    have e1 : (4 * x + 1) % 4 = 1 := by omega
    have e2 : (4 * x + 1) / 4 = x := by omega
    simp [nk_kop, e1, e2]
  have hpre := nk_pre hB0 (as := .ref q :: As) hP hD hS hnx hT X
  have hrun := va_runI (p := p) (e := e) (below := below) (meth := meth) (H := H) (locs := locs) (cells := cs) (slots := sl) (g := F0 m pc ls (((.ref q :: As).reverse ++ S).map (nk_v ad))) (As := As.map (nk_v ad)) (rest := S.map (nk_v ad)) (b := ad q) (n := n) ⟨hx, hb, hml, hown, hts⟩ (hM D cA ad H.size (.ref q :: As) h K hev)
    (cwI n hts (nk_goodw hw) rfl hrc hrs (hts _ hin) (hts _ hli) (hts _ him) hy hd hR) ⟨nk_blind al D cA ad H.size (.ref q :: As) h, hpre⟩ rfl (by rw [List.length_map]; have : As.length + 1 = n + 1 := hn; omega) hL.2.1 (nk_rev_cons (.ref q) As S) (lv_room (by rw [nk_cat_sum]; exact hcat)) hdg' ⟨hcs, hsl⟩
  exact nk_after hB0 hrun hD hS hnx hL kk T hT X
set_option maxHeartbeats 1000000 in
/-- a constructor of the nest -/
theorem nk_callIN {l : Launch} {R : Room} {own host : String} {cc : ByteArray} {nL : Nat} {al : Bool} {x : Nat} {y : MethodName} {bytes : ByteArray} {maxL : Nat} {rm : Room} {mc ms n ci : Nat} {ev : nk_Ev}
    (hM : nk_Met l y bytes maxL none rm al mc ms ev) (hne : (own, x, y, host) ∈ nk_nw) (hw : Cond.code y bytes maxL none ∈ nk_gw) (him : Cond.instanceMethod y ∈ nk_gw) (hin : Cond.initialized y.cls ∈ nk_gw) (hy : y.name = "<init>")
    (hrc : rm.cells = mc) (hrs : rm.slots = ms) (hd : y.cls ≠ "java/lang/invoke/MethodHandle" ∧ y.cls ≠ "java/lang/invoke/VarHandle" ∧ (parseMethodDescriptor y.desc).map (fun d => d.parameters.length) = some n) (hR : rm.frames + 1 ≤ R.frames ∧ 8 + (maxL + 11) + rm.locals ≤ R.locals) :
    nk_CallOk l R own cc nL al (4 * x + 1) (n + 1, ci + 1, mc, ms, ev) := by
  intro p e s m args below meth c D cA ad A n0 Q hB pc hdg L S as h cs sl K hn hrcv hcat hcs hsl hev kk H locs ls hP hD hS hnx hL T hT X
  have hB0 := hB
  obtain ⟨hx, hb, hml, hown, hts, hN, hK, hA, hSt, hlk, hax⟩ := hB
  obtain ⟨q, As, fs, rfl, hg⟩ := nk_rcv_inv hrcv
  have hdg' : decode cc pc = .ok (.invokespecial x, 3) := by
    rw [hdg]
    have e1 : (4 * x + 1) % 4 = 1 := by omega
    have e2 : (4 * x + 1) / 4 = x := by omega
    simp [nk_kop, e1, e2]
  have hpre := nk_pre hB0 (as := .ref q :: As) hP hD hS hnx hT X
  have hrun := va_runIN (p := p) (e := e) (below := below) (meth := meth) (H := H) (locs := locs) (cells := cs) (slots := sl) (g := F0 m pc ls (((.ref q :: As).reverse ++ S).map (nk_v ad))) (As := As.map (nk_v ad)) (rest := S.map (nk_v ad)) (b := ad q) (n := n) ⟨hx, hb, hml, hown, hts⟩ (hM D cA ad H.size (.ref q :: As) h K hev)
    ⟨va_cnB n hts (nk_goodw hw) rfl hrc hrs (hN.1 _ hne) (hts _ hin) hd hR, hy, hts _ him⟩ ⟨nk_blind al D cA ad H.size (.ref q :: As) h, hpre⟩ rfl (by rw [List.length_map]; have : As.length + 1 = n + 1 := hn; omega) hL.2.1 (nk_rev_cons (.ref q) As S) (lv_room (by rw [nk_cat_sum]; exact hcat)) hdg' ⟨hcs, hsl⟩
  exact nk_after hB0 hrun hD hS hnx hL kk T hT X
/-- Object's own constructor -/
theorem nk_callO {l : Launch} {R : Room} {own : String} {cc : ByteArray} {nL : Nat} {al : Bool} {x ci : Nat} (hli : Cond.methodLink own x objectInit ∈ nk_gw) (him : Cond.instanceMethod objectInit ∈ nk_gw) (hw : Cond.code objectInit ⟨#[0xb1]⟩ 1 none ∈ nk_gw) (hR : 1 ≤ R.frames ∧ 20 ≤ R.locals) :
    nk_CallOk l R own cc nL al (4 * x + 1) (1, ci + 1, 0, 0, fun _ h K => K none h) := by
  intro p e s m args below meth c D cA ad A n0 Q hB pc hdg L S as h cs sl K hn hrcv hcat hcs hsl hev kk H locs ls hP hD hS hnx hL
  obtain ⟨hx, hb, hml, hown, hts, hN, hK, hA, hSt, hlk, hax⟩ := hB
  obtain ⟨q, As, fs, rfl, hg⟩ := nk_rcv_inv hrcv
  have hAs : As = [] := by
    cases As with
    | nil => rfl
    | cons a l => cases hn
  subst hAs
  have hdg' : decode cc pc = .ok (.invokespecial x, 3) := by
    rw [hdg]
    have e1 : (4 * x + 1) % 4 = 1 := by omega
    have e2 : (4 * x + 1) / 4 = x := by omega
    simp [nk_kop, e1, e2]
  refine W.objInit hx hb hown (hts _ hli) (hts _ him) (hts _ hw) (g := F0 m pc ls (([Value.ref q].reverse ++ S).map (nk_v ad))) (a := ad q) (rest := S.map (nk_v ad)) rfl (by rw [hml]; exact hL.2.1) rfl hdg' hR.1 ?_ ?_
  · have h1 := lv_room (m := m) (pc := pc) (ls := ls) (rest := ([Value.ref q].reverse ++ S).map (nk_v ad)) (st := S.map (nk_v ad)) (by rw [nk_cat_sum]; exact hcat)
    omega
  · exact kk none h hev H locs ls hP hD hS hnx hL
