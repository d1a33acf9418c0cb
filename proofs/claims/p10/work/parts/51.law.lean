/-! ===== the law: two worlds side by side ===== -/
section NlNew
variable {p : Program} {l : Launch} {e : Env} {R : Room} {s : State} {m : MethodId} {args : Array Value} {below : List Frame} {meth : Method} {c : Code} {Q : State → Prop}
variable {own : String} {cc : ByteArray} {ad : Nat → Nat} {nL n0 : Nat} {D : va_G} {cA : Nat → ClassId} {A : Nat → Prop} {al : Bool}
theorem nl_new (hB : nk_B p s m args meth c own cc nL D cA ad A al n0) (hal : al = true) {x ci : Nat} {d : List Value} (hN : nk_newok own (x, ci, d)) (hG : nk_Gok) {pc cs sl : Nat} (hdg : decode cc pc = .ok (.new x, 3)) (h1 : cs + 1 ≤ R.cells) (h2 : sl + d.length ≤ R.slots) {L : nk_Ls} {S : List Value} {h : nk_H} (hbig : h.length ≤ 1000)
    (kk : nk_G p l e R s m args below meth c nL D cA ad A al n0 Q (pc + 3) L (.ref h.length :: S) (h ++ [.inr (ci, d)]) (cs + 1) (sl + d.length)) : nk_G p l e R s m args below meth c nL D cA ad A al n0 Q pc L S h cs sl := by
  obtain ⟨hx, hb, hml, hown, hts, hNe, hK, hA, hSt, hlk, hax⟩ := hB
  obtain ⟨r, ty, hr, hlen, hty, hdef, hcv, hcll, hinst, hinn⟩ := hN
  intro H locs ls hP hD hS hn hL T hTh XX
  obtain ⟨z1, z2⟩ := nk_sz hn hTh XX hal
  have hadl : ad h.length = H.size := by
    rw [hax hal _ (by omega) (by omega)]
    omega
  have hKn := hK.1 _ _ hr
  refine W.newcK hx hb hown (hts _ hcll) (hts _ hinst) (hts _ hinn) (g := F0 m pc ls (S.map (nk_v ad))) rfl hdg h1 (by rw [hlen]; exact h2) hKn.2.1 rfl (fun H1 kC hkC e1 z1' o1 => ?_) T hTh XX
  have hmap : d.map (nk_v ad) = d := by
    conv => rhs; rw [← List.map_id d]
    exact List.map_congr_left (fun v hv => hcv v hv ad)
  obtain ⟨hcr1, -⟩ := hG.1 r (List.mem_of_getElem? hr)
  obtain ⟨g1, g2, g3, g4⟩ := nk_grow (o := .inr (ci, d)) hA hP hD hS hn hadl z1' o1 ⟨r, hr, (u_born ty hts hcr1 hKn hkC e1 hty).to (fun j hj => by rw [hmap]; exact hdef j hj)⟩
  have h9 := kk H1 locs ls g1 g2 g3 g4 hL
  rw [hlen]
  have he : ((Value.ref h.length :: S).map (nk_v ad)) = .ref H.size :: S.map (nk_v ad) := by
    show Value.ref (ad h.length) :: _ = _
    rw [hadl]
  rw [he] at h9
  exact h9
/-- an instruction that touches neither cells nor calls -/
theorem nl_pure (hB : nk_B p s m args meth c own cc nL D cA ad A al n0) {pc n nx : Nat} {i : Instr} {tg : List Nat} {lit : Int32} (hdg : decode cc pc = .ok (i, n)) (hok : nk_ok pc i n nx tg lit = true) {L : nk_Ls} {S : List Value} {h : nk_H} {cs sl : Nat}
    (hp : nk_pure i nx tg lit L S (fun pc L S => nk_G p l e R s m args below meth c nL D cA ad A al n0 Q pc L S h cs sl)) : nk_G p l e R s m args below meth c nL D cA ad A al n0 Q pc L S h cs sl := by
  obtain ⟨hx, hb, hml, hown, hts, hNe, hK, hA, hSt, hlk, hax⟩ := hB
  intro H locs ls hP hD hS hn hL
  exact nk_pureW (L := L) (S := S) hx hb hdg hok hp (fun pc' L' S' hk ls' hL' => hk H locs ls' hP hD hS hn hL') hL
end NlNew
abbrev nl_K : Type := Nat → nk_Ls → List Value → nk_H → nk_H → Prop
noncomputable def nl_nr : List Value → Bool
  | [] => true
  | .int _ :: l => nl_nr l
  | _ => false
theorem nl_nr_map (f g : Nat → Nat) : ∀ (l : List Value), nl_nr l = true → l.map (nk_v f) = l.map (nk_v g)
  | [], _ => rfl
  | .int x :: l, h => by
    rw [List.map_cons, List.map_cons, nl_nr_map f g l h]
    rfl
noncomputable def nl_ret (r : Option Value) (S : List Value) (k : List Value → Prop) : Prop := match r with
  | some (.int v) => k (.int v :: S)
  | some (.long v) => k (.long v :: S)
  | none => k S
  | _ => False
theorem nl_ret_inv {r : Option Value} {S : List Value} {k : List Value → Prop} (h : nl_ret r S k) : k (r.toList ++ S) ∧ ∀ f g, r.map (nk_v f) = r.map (nk_v g) := by
  cases r with
  | none => exact ⟨h, fun _ _ => rfl⟩
  | some v =>
    cases v with
    | int x => exact ⟨h, fun _ _ => rfl⟩
    | long x => exact ⟨h, fun _ _ => rfl⟩
    | _ => exact False.elim h
/-- the law's instructions: handle 0 is the script, 1 the class, 2 the reference -/
noncomputable def nl_sem (C : List (Nat × Nat × Nat × nk_Ev)) (Lx : Nat) (xs : Nat → Int32) (i : Instr) (nx : Nat) (tg : List Nat) (lit : Int32) (L : nk_Ls) (S : List Value) (h1 h2 : nk_H) (K : nl_K) : Prop := match i with
  | .iaload => nk_pi S (fun i S => nk_pr S (fun q S => nk_if (Nat.beq q 0) (vp_in i Lx ∧ K nx L (.int (xs i.toNatClampNeg) :: S) h1 h2)))
  | .arraylength => nk_pr S (fun q S => nk_if (Nat.beq q 0) (K nx L (.int (Int32.ofNat Lx) :: S) h1 h2))
  | .invokevirtual x => nk_sm (nk_lk C x) (fun c => nk_popn c.1 [] S (fun as S => nk_pr as (fun q As => nk_if (Nat.beq q c.2.1 && (nl_nr As && Nat.ble (nk_cat S) 8)) (match q with
    | 1 => nk_rcv 6 (.ref 0 :: As) h1 (c.2.2 (.ref 0 :: As) h1 (fun r h' => nl_ret r S (fun S => K nx L S h' h2)))
    | 2 => nk_rcv 7 (.ref 0 :: As) h2 (c.2.2 (.ref 0 :: As) h2 (fun r h' => nl_ret r S (fun S => K nx L S h1 h')))
    | _ => False))))
  | .ireturn => S = [.int 1]
  | i => nk_pure i nx tg lit L S (fun pc L S => K pc L S h1 h2)
noncomputable def nl_at (C : List (Nat × Nat × Nat × nk_Ev)) (Lx : Nat) (xs : Nat → Int32) (kc : Nat → Option nk_I) (pc : Nat) (L : nk_Ls) (S : List Value) (h1 h2 : nk_H) (K : nl_K) : Prop := match kc pc with
  | some (i, _, nx, tg, lit) => nl_sem C Lx xs i nx tg lit L S h1 h2 K
  | none => False
noncomputable def nl_wp (C : List (Nat × Nat × Nat × nk_Ev)) (Lx : Nat) (xs : Nat → Int32) (kc : Nat → Option nk_I) (pc : Nat) (L : nk_Ls) (S : List Value) (h1 h2 : nk_H) : Prop :=
  ∀ G : nl_K, (∀ (pc : Nat) (L : nk_Ls) (S : List Value) (h1 h2 : nk_H) (K : nl_K), (∀ (pc : Nat) (L : nk_Ls) (S : List Value) (h1 h2 : nk_H), K pc L S h1 h2 → G pc L S h1 h2) → nl_at C Lx xs kc pc L S h1 h2 K → G pc L S h1 h2) → G pc L S h1 h2
theorem nl_s {C : List (Nat × Nat × Nat × nk_Ev)} {Lx : Nat} {xs : Nat → Int32} {kc : Nat → Option nk_I} {pc : Nat} {L : nk_Ls} {S : List Value} {h1 h2 : nk_H} (k : nl_at C Lx xs kc pc L S h1 h2 (nl_wp C Lx xs kc)) : nl_wp C Lx xs kc pc L S h1 h2 :=
  fun G hG => hG pc L S h1 h2 (nl_wp C Lx xs kc) (fun _ _ _ _ _ hw => hw G hG) k
/-- two worlds: apart, both in A -/
noncomputable def nl_W (D : va_G) (cA : Nat → ClassId) (a1 a2 : Nat → Nat) (A : Nat → Prop) (h1 h2 : nk_H) (H : Heap) : Prop :=
  va_P D nk_cl (nk_w cA a1 h1 0) H ∧ va_P D nk_cl (nk_w cA a2 h2 0) H ∧ va_D A (nk_w cA a1 h1 0) ∧ va_D A (nk_w cA a2 h2 0) ∧ ∀ (i j : Nat) (p q : Nat × va_E), (nk_w cA a1 h1 0)[i]? = some p → (nk_w cA a2 h2 0)[j]? = some q → p.1 ≠ q.1
theorem nl_W.swap {D : va_G} {cA : Nat → ClassId} {a1 a2 : Nat → Nat} {A : Nat → Prop} {h1 h2 : nk_H} {H : Heap} (h : nl_W D cA a1 a2 A h1 h2 H) : nl_W D cA a2 a1 A h2 h1 H := ⟨h.2.1, h.1, h.2.2.2.1, h.2.2.1, fun i j p q hp hq e => h.2.2.2.2 j i q p hq hp e.symm⟩
theorem nl_W.join {D : va_G} {cA : Nat → ClassId} {a1 a2 : Nat → Nat} {A : Nat → Prop} {h1 h2 h1' : nk_H} {H H1 : Heap} (h : nl_W D cA a1 a2 A h1 h2 H) (hsub : ∀ q : Nat, va_A (nk_w cA a1 h1 0) H.size q → A q) (hk : ∀ q : Nat, q < H.size → ¬ va_A (nk_w cA a1 h1 0) H.size q → H1[q]? = H[q]?) (hP : va_P D nk_cl (nk_w cA a1 h1' 0) H1) (hD : va_D (va_A (nk_w cA a1 h1 0) H.size) (nk_w cA a1 h1' 0)) : nl_W D cA a1 a2 A h1' h2 H1 := by
  obtain ⟨g1, g2, g3, g4, g5⟩ := h
  have apart : ∀ (j : Nat) (q : Nat × va_E), (nk_w cA a2 h2 0)[j]? = some q → q.1 < H.size ∧ ¬ va_A (nk_w cA a1 h1 0) H.size q.1 := by
    intro j q hq
    have hl := (g2 j q hq).lt
    refine ⟨hl, fun z => ?_⟩
    rcases z with ⟨k, e, hk2⟩ | z
    · exact g5 k j _ q hk2 hq rfl
    · omega
  refine ⟨hP, fun j q hq => (g2 j q hq).kept (hk q.1 (apart j q hq).1 (apart j q hq).2), hD.weaken (fun _ q _ z => hsub q.1 z), g4, fun i j p q hp hq e => ?_⟩
  exact (apart j q hq).2 (by rw [← e]; exact hD.2 i p hp)
section NlW
variable {p : Program} {l : Launch} {e : Env} {s : State} {m : MethodId} {below : List Frame} {meth : Method} {c : Code} {b Lx : Nat} {xs : Nat → Int32} {D : va_G} {cA : Nat → ClassId} {a1 a2 : Nat → Nat}
/-- what holds all through the law's body -/
noncomputable def nl_B (p : Program) (s : State) (m : MethodId) (meth : Method) (c : Code) (b Lx : Nat) (xs : Nat → Int32) (D : va_G) (cA : Nat → ClassId) (a1 a2 : Nat → Nat) : Prop :=
  lw_At p s m meth c b Lx xs ∧ (∀ w ∈ nk_gw, w.before #[Value.ref b] s = true) ∧ nk_Ne s ∧ va_K D nk_cl (nk_tys cA) s ∧ nk_St a1 (fun q => s.heap.size ≤ q) s ∧ nk_St a2 (fun q => s.heap.size ≤ q) s
noncomputable def nl_ad (b : Nat) (a1 a2 : Nat → Nat) (k : Nat) : Nat := match k with
  | 0 => b
  | 1 => a1 0
  | _ => a2 0
noncomputable def nl_G (p : Program) (l : Launch) (e : Env) (s : State) (m : MethodId) (below : List Frame) (meth : Method) (c : Code) (b : Nat) (D : va_G) (cA : Nat → ClassId) (a1 a2 : Nat → Nat) (cs sl : Nat) : nl_K := fun pc L S h1 h2 =>
  ∀ (H : Heap) (locs : List Loc) (ls : Array Slot), nl_W D cA a1 a2 (fun q => s.heap.size ≤ q) h1 h2 H → va_S (fun q => s.heap.size ≤ q) s.heap H locs → nk_L (nl_ad b a1 a2) ls 4 L → W p l e room_1 s m #[Value.ref b] below meth c H locs cs sl (lw_Z below #[Value.ref b] s) (F0 m pc ls (S.map (nk_v (nl_ad b a1 a2))))
/-- a call of the law is sound: the callee's contract, its words, its room -/
noncomputable def nl_Ok (l : Launch) (x n w : Nat) (ev : nk_Ev) : Prop := ∃ (y : MethodName) (bytes : ByteArray) (maxL : Nat) (ret : Option FieldType) (fr lo : Nat) (r : vw_C), nk_Met l y bytes maxL ret { frames := fr, cells := 0, slots := 0, locals := lo } false 0 0 ev ∧ nk_cl[w + 4]? = some r ∧ (∀ q ∈ wsV R_law x r.1 y [Cond.code y bytes maxL ret], q ∈ nk_gw) ∧ (y.cls = r.1 ∧ y.cls ≠ "java/lang/invoke/MethodHandle" ∧ y.cls ≠ "java/lang/invoke/VarHandle" ∧ (parseMethodDescriptor y.desc).map (fun d => d.parameters.length) = some n) ∧ fr + 1 ≤ room_1.frames ∧ 8 + (maxL + 11) + lo ≤ room_1.locals
set_option maxHeartbeats 1000000 in
/-- a call out of the law, of one of the two worlds -/
theorem nl_call {aA aB : Nat → Nat} {hA hB : nk_H} {x n w : Nat} {ev : nk_Ev} (C0 : lw_At p s m meth c b Lx xs) (hts : ∀ w ∈ nk_gw, w.before #[Value.ref b] s = true) (hNe : nk_Ne s) (hK : va_K D nk_cl (nk_tys cA) s) (hSt : nk_St aA (fun q => s.heap.size ≤ q) s) (hok : nl_Ok l x n w ev)
    {pc cs sl q : Nat} {As S : List Value} {ls : Array Slot} {L : nk_Ls} {H : Heap} {locs : List Loc} {f : Nat → Nat} (hq : f q = aA 0) (hdg : decode code pc = .ok (.invokevirtual x, 3)) (hlen : As.length = n) (hnr : nl_nr As = true) (hcat : nk_cat S ≤ 8) {K : nk_Q} (hrcv : nk_rcv (w + 5) (.ref 0 :: As) hA True) (hev : ev (.ref 0 :: As) hA K)
    (hW : nl_W D cA aA aB (fun q => s.heap.size ≤ q) hA hB H) (hS : va_S (fun q => s.heap.size ≤ q) s.heap H locs) (hL : nk_L f ls 4 L) (hcs : cs ≤ 600000) (hsl : sl ≤ 7302250)
    (kk : ∀ (v : Option Value) (h' : nk_H), K v h' → (∀ g, v.map (nk_v aA) = v.map (nk_v g)) ∧ ∀ (H1 : Heap) (locs1 : List Loc), nl_W D cA aA aB (fun q => s.heap.size ≤ q) h' hB H1 → va_S (fun q => s.heap.size ≤ q) s.heap H1 locs1 → W p l e room_1 s m #[Value.ref b] below meth c H1 locs1 cs sl (lw_Z below #[Value.ref b] s) (F0 m (pc + 3) ls ((v.toList ++ S).map (nk_v f)))) :
    W p l e room_1 s m #[Value.ref b] below meth c H locs cs sl (lw_Z below #[Value.ref b] s) (F0 m pc ls (((.ref q :: As).reverse ++ S).map (nk_v f))) := by
  obtain ⟨hx, hb, hr, hml, hown, -, hX, hbl, hlocks, -⟩ := C0
  obtain ⟨y, bytes, maxL, ret, fr, lo, r, hM, hc, hw, hd, hfr, hlo⟩ := hok
  have hAA : ∀ q : Nat, s.heap.size ≤ q → (fun q : Nat => s.heap.size ≤ q) q := fun _ h => h
  obtain ⟨g1, g2, g3, g4, g5⟩ := id hW
  have hsub := nk_sub (s := s) (A := fun q => s.heap.size ≤ q) hAA g3 hS
  obtain ⟨q0, As0, fs, e0, hg⟩ := nk_rcv_inv hrcv
  cases e0
  have hat := nk_w_at (cA := cA) (ad := aA) hg
  have hB0 : nk_B p s m #[Value.ref b] meth c R_law code 4 D cA aA (fun q => s.heap.size ≤ q) false 0 := ⟨hx, hb, hml, hown, hts, hNe, hK, hAA, hSt, hlocks, fun h => by cases h⟩
  intro T hT X
  have hpre := nk_pre (al := false) hB0 (as := .ref 0 :: As) g1 g3 hS (fun h => by cases h) hT X
  have hG : GoodIn nk_gw (wsV R_law x r.1 y (Cond.code y bytes maxL ret :: nk_gw)) := by
    refine nk_gw_good (fun w h => ?_)
    unfold wsV at h hw
    rcases List.mem_append.mp h with h1 | h1
    · exact hw w (List.mem_append_left _ h1)
    · rcases List.mem_cons.mp h1 with h2 | h2
      · rw [h2]; exact hw _ (List.mem_append_right _ List.mem_cons_self)
      · exact h2
  have hst : ((.ref q :: As).reverse ++ S).map (nk_v f) = (As.map (nk_v aA)).reverse ++ .ref (aA 0) :: S.map (nk_v f) := by
    rw [nk_rev_cons, nl_nr_map f aA As hnr]
    show _ ++ Value.ref (f q) :: _ = _
    rw [hq]
  rw [hst]
  have hrun := va_runV (p := p) (e := e) (below := below) (meth := meth) (H := H) (locs := locs) (cells := cs) (slots := sl) (R := room_1) (g := F0 m pc ls ((As.map (nk_v aA)).reverse ++ .ref (aA 0) :: S.map (nk_v f))) (As := As.map (nk_v aA)) (rest := S.map (nk_v f)) (b := aA 0) (C := r.1) (n := n) ⟨hx, hb, hml, hown, hts⟩ (hM D cA aA H.size (.ref 0 :: As) hA K hev)
    (cwV n hts hG rfl rfl rfl hd ⟨hfr, hlo⟩) ⟨nk_blind false D cA aA H.size (.ref 0 :: As) hA, va_recv hK g1 (q0 := 0) hc hat, hpre⟩ rfl (by rw [List.length_map]; exact hlen) hL.2.1 rfl (lv_room (by rw [nk_cat_sum]; exact hcat)) hdg ⟨hcs, hsl⟩
  obtain ⟨v, st₀, t, T', LL, h0, X', hLL, e1, e2, ⟨⟨v0, h', hv, hqq, hP', hD', hn'⟩, hz, hk⟩, st⟩ := hrun T hT X
  rw [h0] at hz hk
  have hv' : v = v0.map (nk_v aA) := by cases hv; rfl
  have hS' : va_S (fun q => s.heap.size ≤ q) s.heap t.heap (locs ++ LL) := ⟨Nat.le_trans hS.1 hz, fun q h1 h2 => by rw [hk q (Nat.lt_of_lt_of_le h1 hS.1) (fun z => h2 (hsub q z))]; exact hS.2.1 q h1 h2, fun q hq => by
    rcases List.mem_append.mp hq with h | h
    · exact hS.2.2 q h
    · exact hsub _ (hLL q h)⟩
  obtain ⟨kv, kw⟩ := kk v0 h' hqq
  obtain ⟨t2, b1, b2⟩ := kw t.heap (locs ++ LL) (hW.join hsub hk hP' hD') hS' T' e1 X'
  refine ⟨t2, st t2 ?_, b2⟩
  have he : v.toList ++ S.map (nk_v f) = (v0.toList ++ S).map (nk_v f) := by
    rw [hv', kv f]
    cases v0 <;> rfl
  rw [he]
  exact b1
noncomputable def nl_ok3 (pc : Nat) (i : Instr) (n nx : Nat) (tg : List Nat) (lit : Int32) : Bool := nk_ok pc i n nx tg lit
set_option maxHeartbeats 2000000 in
/-- THE LAW'S BODY, by the picture -/
theorem nl_body {kc : Nat → Option nk_I} {N : Nat} {C : List (Nat × Nat × Nat × nk_Ev)} (hchk : nk_chk code kc N = true) (hout : ∀ pc, N ≤ pc → kc pc = none) (hC : ∀ q ∈ C, ∃ n, q.2.1 = n + 1 ∧ (q.2.2.1 = 1 ∨ q.2.2.1 = 2) ∧ nl_Ok l q.1 n q.2.2.1 q.2.2.2) (hB : nl_B p s m meth c b Lx xs D cA a1 a2) {cs sl : Nat} (hcs : cs ≤ 600000) (hsl : sl ≤ 7302250)
    {pc : Nat} {L : nk_Ls} {S : List Value} {h1 h2 : nk_H} (hw : nl_wp C Lx xs kc pc L S h1 h2) : nl_G p l e s m below meth c b D cA a1 a2 cs sl pc L S h1 h2 := by
  obtain ⟨C0, hts, hNe, hK, hSt1, hSt2⟩ := hB
  obtain ⟨hx, hb, hr, hml, hown, -, hX, hbl, hlocks, -⟩ := id C0
  have hbA : ¬ (fun q : Nat => s.heap.size ≤ q) b := Nat.not_le.mpr hbl
  refine hw _ (fun pc L S h1 h2 K hK1 hat => ?_)
  unfold nl_at at hat
  split at hat
  · rename_i i n nx tg lit hkc
    have hpc : pc < N := by
      rcases Nat.lt_or_ge pc N with q | q
      · exact q
      · rw [hout pc q] at hkc; cases hkc
    have h2c := List.all_eq_true.mp hchk pc (List.mem_range.mpr hpc)
    simp only [hkc, Bool.and_eq_true, decide_eq_true_eq] at h2c
    obtain ⟨hdg, hok⟩ := h2c
    intro H locs ls hW hS hL
    cases i
    case iaload =>
      simp only [nk_ok, Bool.and_eq_true, decide_eq_true_eq] at hok
      obtain ⟨rfl, rfl⟩ := hok
      obtain ⟨i, S1, rfl, hp1⟩ := nk_pi_inv hat
      obtain ⟨q, S2, rfl, hp2⟩ := nk_pr_inv hp1
      obtain ⟨hq, hin, hp3⟩ := nk_if_inv hp2
      have := Nat.eq_of_beq_eq_true hq
      subst this
      exact va_sld hx hb hX hbl hbA hS hin hdg (hK1 _ _ _ _ _ hp3 H locs ls hW hS hL)
    case arraylength =>
      simp only [nk_ok, Bool.and_eq_true, decide_eq_true_eq] at hok
      obtain ⟨rfl, rfl⟩ := hok
      obtain ⟨q, S2, rfl, hp2⟩ := nk_pr_inv hat
      obtain ⟨hq, hp3⟩ := nk_if_inv hp2
      have := Nat.eq_of_beq_eq_true hq
      subst this
      exact va_slen hx hb hX hbl hbA hS hdg (hK1 _ _ _ _ _ hp3 H locs ls hW hS hL)
    case invokevirtual x =>
      simp only [nk_ok, Bool.and_eq_true, decide_eq_true_eq] at hok
      obtain ⟨rfl, rfl⟩ := hok
      obtain ⟨cc, hcc, hp1⟩ := nk_sm_inv hat
      obtain ⟨as, S1, hlen, hS1, hp2⟩ := nk_popn_inv _ _ _ _ hp1
      rw [List.append_nil] at hp2
      obtain ⟨q, As, rfl, hp3⟩ := nk_pr_inv hp2
      obtain ⟨hqq, hp4⟩ := nk_if_inv hp3
      simp only [Bool.and_eq_true] at hqq
      obtain ⟨hq, hnr, hcat⟩ := hqq
      have hqe := Nat.eq_of_beq_eq_true hq
      obtain ⟨nn, e1, e2, hokc⟩ := hC _ (nk_lk_mem _ _ _ hcc)
      have hlen2 : As.length = nn := by
        have h3 : As.length + 1 = nn + 1 := by rw [← e1]; exact hlen
        omega
      subst hS1
      rw [← hqe] at hokc e2
      rcases e2 with e2 | e2
      · subst e2
        obtain ⟨hrcv, hp5⟩ := nk_rcv_t hp4
        exact nl_call (w := 1) (aB := a2) (f := nl_ad b a1 a2) C0 hts hNe hK hSt1 hokc rfl hdg hlen2 hnr (Nat.le_of_ble_eq_true hcat) hrcv hp5 hW hS hL hcs hsl (fun v h' hk => by
          obtain ⟨k1, k2⟩ := nl_ret_inv hk
          exact ⟨fun g => k2 a1 g, fun H1 locs1 hW1 hS1 => hK1 _ _ _ _ _ k1 H1 locs1 ls hW1 hS1 hL⟩)
      · subst e2
        obtain ⟨hrcv, hp5⟩ := nk_rcv_t hp4
        exact nl_call (w := 2) (aB := a1) (f := nl_ad b a1 a2) C0 hts hNe hK hSt2 hokc rfl hdg hlen2 hnr (Nat.le_of_ble_eq_true hcat) hrcv hp5 hW.swap hS hL hcs hsl (fun v h' hk => by
          obtain ⟨k1, k2⟩ := nl_ret_inv hk
          exact ⟨fun g => k2 a2 g, fun H1 locs1 hW1 hS1 => hK1 _ _ _ _ _ k1 H1 locs1 ls hW1.swap hS1 hL⟩)
    case ireturn =>
      simp only [nk_ok, Bool.and_eq_true, decide_eq_true_eq] at hok
      obtain ⟨rfl, rfl⟩ := hok
      have hat : S = [.int 1] := hat
      subst hat
      refine va_forget (fun q hq => hS.2.2 q hq) ?_
      refine W.widen (k := 600000) (n := 7302250) hcs hsl ?_
      exact lw_ret hx hb hr hlocks hdg
    all_goals exact nk_pureW (L := L) (S := S) (K := fun pc L S => K pc L S h1 h2) hx hb hdg hok hat (fun pc' L' S' hk ls' hL' => hK1 _ _ _ _ _ hk H locs ls' hW hS hL') hL
  · exact hat.elim
end NlW
