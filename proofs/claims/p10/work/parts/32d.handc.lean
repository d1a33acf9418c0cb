/-! ===== addMaking's contracts ===== -/
theorem am_inv {s : nx_S} {f : Nat → Int32} (hInv : nx_Inv gC s) (hM : (s.2.2.1 3 3).toInt ≤ 11) (hf : nx_PM f) : nx_Inv gC (nx_uf (nx_ui s 5 f) 3 3 (s.2.2.1 3 3 + 1)) ∧ 0 ≤ (s.2.2.1 3 3 + 1).toInt ∧ (s.2.2.1 3 3 + 1).toInt ≤ 12 ∧ 0 ≤ (s.2.2.1 3 3 + 1 - 1).toInt ∧ (s.2.2.1 3 3 + 1 - 1).toInt ≤ 11 := by
  have hM0 : 0 ≤ (s.2.2.1 3 3).toInt := (hInv.1 3 (3, 3) (0, 12) rfl rfl).1
  have a1 : (1 : Int32).toInt = 1 := rfl
  have e : (s.2.2.1 3 3 + 1).toInt = (s.2.2.1 3 3).toInt + 1 := by rw [i_add (by omega) (by omega), a1]
  have e2 : (s.2.2.1 3 3 + 1 - 1).toInt = (s.2.2.1 3 3).toInt := by
    rw [Int32.toInt_sub, e, a1, na_bm (show (-2147483648 : Int) ≤ _ by omega) (show _ ≤ (2147483647 : Int) by omega)]
    omega
  have h5 : nx_Inv gC (nx_ui s 5 f) := by
    refine ⟨hInv.1, fun q n l hq i hi => ?_, hf, trivial⟩
    by_cases e5 : q = 5
    · subst e5
      exact na_i32 _
    · have e6 : (nx_ui s 5 f).1 q = s.1 q := by
        show (if q = 5 then f else s.1 q) = s.1 q
        rw [if_neg e5]
      rw [e6]
      exact hInv.2.1 q n l hq i hi
  exact ⟨h5.uf ndk_C (k := (3, 3)) (i := 3) (e := (0, 12)) rfl rfl (by rw [e]; show (0 : Int) ≤ _; omega) (by rw [e]; show _ ≤ (12 : Int); omega) ke_C (fun q => by cases q), by omega, by omega, by omega, by omega⟩
theorem am_fld {s : nx_S} {f : Nat → Int32} {x : Int32} (h0 : 0 ≤ x.toInt) (h1 : x.toInt ≤ 12) : ∀ (i : Nat) (k : Nat × Nat), gC.2.1[i]? = some k → match nk_lk [(3, ((0 : Int), (12 : Int)))] i with
    | some b => b.1 ≤ ((nx_uf (nx_ui s 5 f) 3 3 x).2.2.1 k.1 k.2).toInt ∧ ((nx_uf (nx_ui s 5 f) 3 3 x).2.2.1 k.1 k.2).toInt ≤ b.2
    | none => (nx_uf (nx_ui s 5 f) 3 3 x).2.2.1 k.1 k.2 = s.2.2.1 k.1 k.2 := by
  intro i k hi
  by_cases e : i = 3
  · subst e
    cases hi
    exact ⟨h0, h1⟩
  · have hne : ¬ (k.1 = 3 ∧ k.2 = 3) := fun q => by
      have hk : k = (3, 3) := Prod.ext q.1 q.2
      subst hk
      have h3 : gC.2.1[3]? = some ((3 : Nat), (3 : Nat)) := rfl
      exact e ((List.getElem?_inj (List.getElem?_eq_some_iff.mp hi).1 ndk_C).mp (hi.trans h3.symm))
    have hl : nk_lk [(3, ((0 : Int), (12 : Int)))] i = none := by
      show (bif Nat.beq 3 i then some ((0 : Int), (12 : Int)) else none) = none
      cases hb : Nat.beq 3 i with
      | true => exact absurd (Nat.eq_of_beq_eq_true hb).symm e
      | false => rfl
    rw [hl]
    show (if k.1 = 3 ∧ k.2 = 3 then x else s.2.2.1 k.1 k.2) = s.2.2.1 k.1 k.2
    rw [if_neg hne]
theorem ct_X4_addMaking_0 : na_Ct gC ev_X4_addMaking cc_X4_addMaking_0 := by
  intro l s as Q hPr hq
  obtain ⟨hInv, has, hpre, -, -⟩ := hPr
  have hM : (s.2.2.1 3 3).toInt ≤ 11 := (hpre 3 (3, 3) (0, 11) rfl rfl).2
  match as, has with
  | [a, b, c, d, e, f, g, h], has =>
    obtain ⟨ha, ⟨k, hk, hk2⟩, ⟨x, hx, x1, x2, -⟩, ⟨y, hy, -⟩, ⟨z, hz, z1, z2, -⟩, ⟨w, hw, w1, w2, -⟩, ⟨n, hn, n1, n2, -⟩, ⟨p, hp, -⟩, -⟩ := has
    have ha : a = .ref 3 := ha
    subst ha
    subst hk
    subst hx
    subst hy
    subst hz
    subst hw
    subst hn
    subst hp
    have hk2 : k.toInt = 0 := hk2
    refine am_C Q s k x y z w n p hInv hM ⟨by omega, by omega⟩ ⟨x1, x2⟩ (Or.inl (Int32.toInt_inj.mp (hk2.trans rfl))) ⟨z1, z2⟩ ⟨w1, w2⟩ ⟨n1, n2⟩ (fun f hf => ?_)
    obtain ⟨j1, j2, j3, j4, j5⟩ := am_inv hInv hM hf
    refine hq _ _ ⟨j1, am_fld j2 j3, fun q hq5 => ?_, ⟨_, rfl, j4, j5⟩, trivial⟩
    show (if q = 5 then f else s.1 q) = s.1 q
    rw [if_neg (fun e => hq5 (by rw [e]; exact List.mem_singleton.mpr rfl))]
theorem ct_X4_addMaking_1 : na_Ct gC ev_X4_addMaking cc_X4_addMaking_1 := by
  intro l s as Q hPr hq
  obtain ⟨hInv, has, hpre, -, -⟩ := hPr
  have hM : (s.2.2.1 3 3).toInt ≤ 11 := (hpre 3 (3, 3) (0, 11) rfl rfl).2
  match as, has with
  | [a, b, c, d, e, f, g, h], has =>
    obtain ⟨ha, ⟨k, hk, hk2⟩, ⟨x, hx, x1, x2, -⟩, ⟨y, hy, y1, y2, -⟩, ⟨z, hz, z1, z2, -⟩, ⟨w, hw, w1, w2, -⟩, ⟨n, hn, n1, n2, -⟩, ⟨p, hp, -⟩, -⟩ := has
    have ha : a = .ref 3 := ha
    subst ha
    subst hk
    subst hx
    subst hy
    subst hz
    subst hw
    subst hn
    subst hp
    have hk2 : k.toInt = 1 := hk2
    refine am_C Q s k x y z w n p hInv hM ⟨by omega, by omega⟩ ⟨x1, x2⟩ (Or.inr (Or.inr ⟨y1, Or.inl (Int.le_trans y2 (by decide))⟩)) ⟨z1, z2⟩ ⟨w1, w2⟩ ⟨n1, n2⟩ (fun f hf => ?_)
    obtain ⟨j1, j2, j3, j4, j5⟩ := am_inv hInv hM hf
    refine hq _ _ ⟨j1, am_fld j2 j3, fun q hq5 => ?_, ⟨_, rfl, j4, j5⟩, trivial⟩
    show (if q = 5 then f else s.1 q) = s.1 q
    rw [if_neg (fun e => hq5 (by rw [e]; exact List.mem_singleton.mpr rfl))]
theorem ct_X4_addMaking_2 : na_Ct gC ev_X4_addMaking cc_X4_addMaking_2 := by
  intro l s as Q hPr hq
  obtain ⟨hInv, has, hpre, -, -⟩ := hPr
  have hM : (s.2.2.1 3 3).toInt ≤ 11 := (hpre 3 (3, 3) (0, 11) rfl rfl).2
  match as, has with
  | [a, b, c, d, e, f, g, h], has =>
    obtain ⟨ha, ⟨k, hk, hk2⟩, ⟨x, hx, x1, x2, -⟩, ⟨y, hy, y1, y2, -⟩, ⟨z, hz, z1, z2, -⟩, ⟨w, hw, w1, w2, -⟩, ⟨n, hn, n1, n2, -⟩, ⟨p, hp, -⟩, -⟩ := has
    have ha : a = .ref 3 := ha
    subst ha
    subst hk
    subst hx
    subst hy
    subst hz
    subst hw
    subst hn
    subst hp
    have hk2 : k.toInt = 2 := hk2
    refine am_C Q s k x y z w n p hInv hM ⟨by omega, by omega⟩ ⟨x1, x2⟩ (Or.inr (Or.inr ⟨y1, Or.inl (Int.le_trans y2 (by decide))⟩)) ⟨z1, z2⟩ ⟨w1, w2⟩ ⟨n1, n2⟩ (fun f hf => ?_)
    obtain ⟨j1, j2, j3, j4, j5⟩ := am_inv hInv hM hf
    refine hq _ _ ⟨j1, am_fld j2 j3, fun q hq5 => ?_, ⟨_, rfl, j4, j5⟩, trivial⟩
    show (if q = 5 then f else s.1 q) = s.1 q
    rw [if_neg (fun e => hq5 (by rw [e]; exact List.mem_singleton.mpr rfl))]
theorem ct_X4_addMaking_3 : na_Ct gC ev_X4_addMaking cc_X4_addMaking_3 := by
  intro l s as Q hPr hq
  obtain ⟨hInv, has, hpre, -, -⟩ := hPr
  have hM : (s.2.2.1 3 3).toInt ≤ 11 := (hpre 3 (3, 3) (0, 11) rfl rfl).2
  match as, has with
  | [a, b, c, d, e, f, g, h], has =>
    obtain ⟨ha, ⟨k, hk, hk2⟩, ⟨x, hx, x1, x2, -⟩, ⟨y, hy, y1, y2, -⟩, ⟨z, hz, z1, z2, -⟩, ⟨w, hw, w1, w2, -⟩, ⟨n, hn, n1, n2, -⟩, ⟨p, hp, -⟩, -⟩ := has
    have ha : a = .ref 3 := ha
    subst ha
    subst hk
    subst hx
    subst hy
    subst hz
    subst hw
    subst hn
    subst hp
    have hk2 : k.toInt = 3 := hk2
    refine am_C Q s k x y z w n p hInv hM ⟨by omega, by omega⟩ ⟨x1, x2⟩ (Or.inr (Or.inr ⟨y1, Or.inl (Int.le_trans y2 (by decide))⟩)) ⟨z1, z2⟩ ⟨w1, w2⟩ ⟨n1, n2⟩ (fun f hf => ?_)
    obtain ⟨j1, j2, j3, j4, j5⟩ := am_inv hInv hM hf
    refine hq _ _ ⟨j1, am_fld j2 j3, fun q hq5 => ?_, ⟨_, rfl, j4, j5⟩, trivial⟩
    show (if q = 5 then f else s.1 q) = s.1 q
    rw [if_neg (fun e => hq5 (by rw [e]; exact List.mem_singleton.mpr rfl))]
theorem ct_X4_addMaking_4 : na_Ct gC ev_X4_addMaking cc_X4_addMaking_4 := by
  intro l s as Q hPr hq
  obtain ⟨hInv, has, hpre, -, -⟩ := hPr
  have hM : (s.2.2.1 3 3).toInt ≤ 11 := (hpre 3 (3, 3) (0, 11) rfl rfl).2
  match as, has with
  | [a, b, c, d, e, f, g, h], has =>
    obtain ⟨ha, ⟨k, hk, hk2⟩, ⟨x, hx, x1, x2, -⟩, ⟨y, hy, -⟩, ⟨z, hz, z1, z2, -⟩, ⟨w, hw, w1, w2, -⟩, ⟨n, hn, n1, n2, -⟩, ⟨p, hp, -⟩, -⟩ := has
    have ha : a = .ref 3 := ha
    subst ha
    subst hk
    subst hx
    subst hy
    subst hz
    subst hw
    subst hn
    subst hp
    have hk2 : k.toInt = 4 := hk2
    refine am_C Q s k x y z w n p hInv hM ⟨by omega, by omega⟩ ⟨x1, x2⟩ (Or.inr (Or.inl (Int32.toInt_inj.mp (hk2.trans rfl)))) ⟨z1, z2⟩ ⟨w1, w2⟩ ⟨n1, n2⟩ (fun f hf => ?_)
    obtain ⟨j1, j2, j3, j4, j5⟩ := am_inv hInv hM hf
    refine hq _ _ ⟨j1, am_fld j2 j3, fun q hq5 => ?_, ⟨_, rfl, j4, j5⟩, trivial⟩
    show (if q = 5 then f else s.1 q) = s.1 q
    rw [if_neg (fun e => hq5 (by rw [e]; exact List.mem_singleton.mpr rfl))]
theorem ct_X4_addMaking_5 : na_Ct gC ev_X4_addMaking cc_X4_addMaking_5 := by
  intro l s as Q hPr hq
  obtain ⟨hInv, has, hpre, -, -⟩ := hPr
  have hM : (s.2.2.1 3 3).toInt ≤ 11 := (hpre 3 (3, 3) (0, 11) rfl rfl).2
  match as, has with
  | [a, b, c, d, e, f, g, h], has =>
    obtain ⟨ha, ⟨k, hk, hk2⟩, ⟨x, hx, x1, x2, -⟩, ⟨y, hy, y1, y2, -⟩, ⟨z, hz, z1, z2, -⟩, ⟨w, hw, w1, w2, -⟩, ⟨n, hn, n1, n2, -⟩, ⟨p, hp, -⟩, -⟩ := has
    have ha : a = .ref 3 := ha
    subst ha
    subst hk
    subst hx
    subst hy
    subst hz
    subst hw
    subst hn
    subst hp
    have hk2 : k.toInt = 5 := hk2
    refine am_C Q s k x y z w n p hInv hM ⟨by omega, by omega⟩ ⟨x1, x2⟩ (Or.inr (Or.inr ⟨y1, Or.inl (Int.le_trans y2 (by decide))⟩)) ⟨z1, z2⟩ ⟨w1, w2⟩ ⟨n1, n2⟩ (fun f hf => ?_)
    obtain ⟨j1, j2, j3, j4, j5⟩ := am_inv hInv hM hf
    refine hq _ _ ⟨j1, am_fld j2 j3, fun q hq5 => ?_, ⟨_, rfl, j4, j5⟩, trivial⟩
    show (if q = 5 then f else s.1 q) = s.1 q
    rw [if_neg (fun e => hq5 (by rw [e]; exact List.mem_singleton.mpr rfl))]
theorem ct_X4_addMaking_6 : na_Ct gC ev_X4_addMaking cc_X4_addMaking_6 := by
  intro l s as Q hPr hq
  obtain ⟨hInv, has, hpre, -, -⟩ := hPr
  have hM : (s.2.2.1 3 3).toInt ≤ 11 := (hpre 3 (3, 3) (0, 11) rfl rfl).2
  match as, has with
  | [a, b, c, d, e, f, g, h], has =>
    obtain ⟨ha, ⟨k, hk, hk2⟩, ⟨x, hx, x1, x2, -⟩, ⟨y, hy, y1, y2, -⟩, ⟨z, hz, z1, z2, -⟩, ⟨w, hw, w1, w2, -⟩, ⟨n, hn, n1, n2, -⟩, ⟨p, hp, -⟩, -⟩ := has
    have ha : a = .ref 3 := ha
    subst ha
    subst hk
    subst hx
    subst hy
    subst hz
    subst hw
    subst hn
    subst hp
    have hk2 : k.toInt = 6 := hk2
    refine am_C Q s k x y z w n p hInv hM ⟨by omega, by omega⟩ ⟨x1, x2⟩ (Or.inr (Or.inr ⟨Int.le_trans (by decide) y1, Or.inr ⟨Int32.toInt_inj.mp (hk2.trans rfl), y2⟩⟩)) ⟨z1, z2⟩ ⟨w1, w2⟩ ⟨n1, n2⟩ (fun f hf => ?_)
    obtain ⟨j1, j2, j3, j4, j5⟩ := am_inv hInv hM hf
    refine hq _ _ ⟨j1, am_fld j2 j3, fun q hq5 => ?_, ⟨_, rfl, j4, j5⟩, trivial⟩
    show (if q = 5 then f else s.1 q) = s.1 q
    rw [if_neg (fun e => hq5 (by rw [e]; exact List.mem_singleton.mpr rfl))]
