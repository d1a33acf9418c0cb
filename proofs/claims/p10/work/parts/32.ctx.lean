/-! ===== the contexts of class and reference ===== -/
noncomputable def shC : List nx_C := [.inl (5, [3, 4, 5, 8, 10, 11, 20, 29, 30, 0, 0, 1, 1]), .inr (2, 6, [29, 31, 33, 35, 37, 39]), .inr (2, 4, [41, 43, 45, 47]), .inl (4, [6, 7, 0, 0]), .inr (0, 80, []), .inr (0, 84, []), .inl (2, [9]), .inr (0, 5, []), .inr (0, 4, []), .inl (0, [5, 12, 0, 13, 14, 15, 16, 17, 18, 19, 0, 0, 0, 0, 0]), .inr (0, 5, []), .inr (0, 16, []), .inr (0, 16, []), .inr (0, 16, []), .inr (0, 16, []), .inr (0, 16, []), .inr (0, 96, []), .inr (1, 6, []), .inl (0, [5, 21, 0, 22, 23, 24, 25, 26, 27, 28, 0, 0, 0, 0, 0]), .inr (0, 5, []), .inr (0, 16, []), .inr (0, 16, []), .inr (0, 16, []), .inr (0, 16, []), .inr (0, 16, []), .inr (0, 96, []), .inr (1, 6, []), .inr (3, 4, [49, 52, 55, 58]), .inr (0, 6, []), .inl (3, [32, 0]), .inr (0, 40, []), .inl (3, [34, 0]), .inr (0, 40, []), .inl (3, [36, 0]), .inr (0, 40, []), .inl (3, [38, 0]), .inr (0, 40, []), .inl (3, [40, 0]), .inr (0, 40, []), .inl (3, [42, 0]), .inr (0, 40, []), .inl (3, [44, 0]), .inr (0, 40, []), .inl (3, [46, 0]), .inr (0, 40, []), .inl (3, [48, 0]), .inr (0, 40, []), .inl (3, [50, 0]), .inr (0, 40, []), .inl (1, [52, 53, 0]), .inr (0, 20, []), .inr (0, 20, []), .inl (1, [55, 56, 0]), .inr (0, 20, []), .inr (0, 20, []), .inl (1, [58, 59, 0]), .inr (0, 20, []), .inr (0, 20, []), .inl (1, [61, 62, 0]), .inr (0, 20, []), .inr (0, 20, [])]
noncomputable def fkC : List (Nat × Nat) := [(0, 9), (0, 10), (3, 2), (3, 3), (9, 2), (9, 10), (9, 11), (9, 12), (9, 13), (9, 14), (18, 2), (18, 10), (18, 11), (18, 12), (18, 13), (18, 14), (29, 1), (31, 1), (33, 1), (35, 1), (37, 1), (39, 1), (41, 1), (43, 1), (45, 1), (47, 1), (49, 2), (52, 2), (55, 2), (58, 2)]
noncomputable def fiC : List (Int × Int) := [(-2147483648, 2147483647), (-2147483648, 2147483647), (0, 16), (0, 12), (-2147483648, 2147483647), (0, 1), (0, 15), (-1, 15), (-2147483648, 2147483647), (-2147483648, 2147483647), (-2147483648, 2147483647), (0, 1), (0, 15), (-1, 15), (-2147483648, 2147483647), (-2147483648, 2147483647), (-1, 40), (-1, 40), (-1, 40), (-1, 40), (-1, 40), (-1, 40), (-1, 40), (-1, 40), (-1, 40), (-1, 40), (0, 20), (0, 20), (0, 20), (0, 20)]
noncomputable def iaC (q : Nat) : Int × Int := bif Nat.beq q 11 || Nat.beq q 20 then (0, 15) else (na_full)
noncomputable def gC : na_G := (shC, fkC, fiC, iaC, 5, fun _ _ => True, fun _ => True, [], [])
theorem ndk_C : fkC.Nodup := by decide +kernel
theorem ln_C : fkC.length = fiC.length := by decide +kernel

/-- after l MAKINGS no WORTH and no AMOUNT is above this -/
noncomputable def nR_B (l : Nat) : Int := 198 * 2 ^ l - 99
/-- the reference stands behind some MAKINGS: whose things are within each other, WORTHS, AMOUNTS, PARTS -/
noncomputable def PXR (l : Nat) (s : nx_S) : Prop := ∀ k : Nat, (k : Int) < (s.2.2.1 0 10).toInt → (0 ≤ (s.1 10 k).toInt ∧ (s.1 10 k).toInt < (s.2.2.1 0 10).toInt) ∧ (1 ≤ (s.1 12 k).toInt ∧ (s.1 12 k).toInt ≤ nR_B l) ∧ (1 ≤ (s.1 13 k).toInt ∧ (s.1 13 k).toInt ≤ nR_B l) ∧ 1 ≤ (s.2.1 15 k).toInt ∧ (s.2.2.1 0 22 = 0 → (s.2.1 15 k).toInt ≤ 10000 ∧ ∀ p : Nat, p < 6 → 0 ≤ (s.2.1 14 (6 * k + p)).toInt ∧ (s.2.1 14 (6 * k + p)).toInt ≤ (s.2.1 15 k).toInt)
/-- every STUFF has a WORTH and an AMOUNT, every MAKING names STUFFS -/
noncomputable def PER (s : nx_S) : Prop := (∀ k : Nat, (k : Int) < (s.2.2.1 0 10).toInt → (1 ≤ (s.1 7 (5 * k + 1)).toInt ∧ (s.1 7 (5 * k + 1)).toInt ≤ 99) ∧ (1 ≤ (s.1 7 (5 * k + 2)).toInt ∧ (s.1 7 (5 * k + 2)).toInt ≤ 99)) ∧ ∀ m : Nat, m < 12 → ((s.1 8 (7 * m + 0)).toInt = 0 ∧ (s.1 8 (7 * m + 1)).toInt = 0) ∨ ((s.1 8 (7 * m + 1)).toInt < (s.2.2.1 0 10).toInt ∧ ((s.1 8 (7 * m + 2)).toInt < (s.2.2.1 0 10).toInt ∨ ((s.1 8 (7 * m + 0)).toInt ≠ 2 ∧ (s.1 8 (7 * m + 0)).toInt ≠ 3 ∧ (s.1 8 (7 * m + 0)).toInt ≠ 5)))
noncomputable def shR : List nx_C := [.inl (6, [0, 3, 0, 1, 1, 4, 5, 6, 7, 8, 0, 9, 0, 10, 11, 0, 12, 13, 14, 15, 16, 17, 0, 0, 0, 18, 19, 20, 21, 22, 0, 1]), .inr (0, 6, []), .inr (0, 6, []), .inr (0, 240, []), .inr (0, 40, []), .inr (0, 4, []), .inr (0, 160, []), .inr (0, 80, []), .inr (0, 84, []), .inr (0, 4, []), .inr (0, 16, []), .inr (0, 16, []), .inr (0, 16, []), .inr (0, 16, []), .inr (1, 96, []), .inr (1, 16, []), .inr (1, 6, []), .inr (1, 84, []), .inr (0, 4, []), .inr (0, 80, []), .inr (0, 80, [])]
noncomputable def fkR : List (Nat × Nat) := [(0, 0), (0, 2), (0, 10), (0, 12), (0, 15), (0, 22), (0, 23), (0, 24), (0, 30)]
noncomputable def fiR : List (Int × Int) := [(-2147483648, 2147483647), (-2147483648, 2147483647), (0, 16), (0, 12), (-2147483648, 2147483647), (0, 1), (-2147483648, 2147483647), (-2147483648, 2147483647), (-2147483648, 2147483647)]
noncomputable def iaR (q : Nat) : Int × Int := bif Nat.beq q 18 then (0, 20) else (bif Nat.beq q 10 then (0, 15) else (bif Nat.beq q 2 || Nat.beq q 5 then (-9, 40) else (na_full)))
noncomputable def gR : na_G := (shR, fkR, fiR, iaR, 8, PXR, PER, [7, 8], [(0, 10)])
theorem ndk_R : fkR.Nodup := by decide +kernel
theorem ln_R : fkR.length = fiR.length := by decide +kernel

theorem mo_C : ∀ (l l' : Nat) (s : nx_S), l ≤ l' → gC.2.2.2.2.2.1 l s → gC.2.2.2.2.2.1 l' s := fun _ _ _ _ _ => trivial
theorem pk_C : ∀ q ∈ ([] : List Nat), ∀ (l : Nat) (s : nx_S) (f : Nat → Int64), gC.2.2.2.2.2.1 l s → gC.2.2.2.2.2.1 l (nx_uj s q f) := fun _ h => by cases h
theorem ke_C : nx_Ke gC := ⟨fun _ _ _ _ _ => trivial, fun _ _ _ _ _ _ => trivial, fun _ _ _ _ => trivial, fun _ _ _ _ _ => trivial⟩
theorem nR_Bm {l l' : Nat} (h : l ≤ l') : nR_B l ≤ nR_B l' := by
  have h1 : 2 ^ l ≤ 2 ^ l' := Nat.pow_le_pow_right (by omega) h
  have h2 : ((2 ^ l : Nat) : Int) ≤ ((2 ^ l' : Nat) : Int) := Int.ofNat_le.mpr h1
  have e1 : ((2 ^ l : Nat) : Int) = (2 : Int) ^ l := by rw [Int.natCast_pow]; rfl
  have e2 : ((2 ^ l' : Nat) : Int) = (2 : Int) ^ l' := by rw [Int.natCast_pow]; rfl
  rw [e1, e2] at h2
  unfold nR_B
  omega
theorem mo_R : ∀ (l l' : Nat) (s : nx_S), l ≤ l' → gR.2.2.2.2.2.1 l s → gR.2.2.2.2.2.1 l' s := fun l l' s h hp k hk => by
  have := hp k hk
  have hb := nR_Bm h
  exact ⟨this.1, ⟨this.2.1.1, Int.le_trans this.2.1.2 hb⟩, ⟨this.2.2.1.1, Int.le_trans this.2.2.1.2 hb⟩, this.2.2.2⟩
theorem pk_R : ∀ q ∈ [17], ∀ (l : Nat) (s : nx_S) (f : Nat → Int64), gR.2.2.2.2.2.1 l s → gR.2.2.2.2.2.1 l (nx_uj s q f) := fun q h l s f hp => by
  have e := List.mem_singleton.mp h
  subst e
  exact hp
theorem ke_R : nx_Ke gR := by
  refine ⟨fun s q f hq hp => ?_, fun s q p x hq hp => ?_, fun s q f hp => hp, fun s q p y hp => hp⟩
  · have hq : q ∉ [7, 8] := hq
    have hq7 : ¬ 7 = q := fun e => hq (by rw [← e]; exact List.mem_cons_self)
    have hq8 : ¬ 8 = q := fun e => hq (by rw [← e]; exact List.mem_cons_of_mem _ List.mem_cons_self)
    have e7 : (nx_ui s q f).1 7 = s.1 7 := if_neg hq7
    have e8 : (nx_ui s q f).1 8 = s.1 8 := if_neg hq8
    show PER (nx_ui s q f)
    unfold PER
    rw [e7, e8]
    exact hp
  · have hq : (q, p) ∉ [((0 : Nat), (10 : Nat))] := hq
    have hq : ¬ (0 = q ∧ 10 = p) := fun e => hq (by rw [← e.1, ← e.2]; exact List.mem_singleton.mpr rfl)
    have e : (nx_uf s q p x).2.2.1 0 10 = s.2.2.1 0 10 := if_neg hq
    show PER (nx_uf s q p x)
    unfold PER
    rw [e]
    exact hp
/-! ### what is told of a making -/
theorem nx_i7 {m j : Int32} (h1 : 0 ≤ m.toInt) (h2 : m.toInt ≤ 11) (h3 : 0 ≤ j.toInt) (h4 : j.toInt ≤ 6) : (m * 7 + j).toInt = 7 * m.toInt + j.toInt ∧ (7 * m + j).toInt = 7 * m.toInt + j.toInt := by
  have h7 : (7 : Int32).toInt = 7 := rfl
  have a1 : na_mn = -2147483648 := rfl
  have a2 : na_mx = 2147483647 := rfl
  have e1 : (m * 7).toInt = 7 * m.toInt := by
    rw [Int32.toInt_mul, h7, na_bm (by omega) (by omega)]
    omega
  have e2 : (7 * m).toInt = 7 * m.toInt := by
    rw [Int32.toInt_mul, h7, na_bm (by omega) (by omega)]
  constructor
  · rw [Int32.toInt_add, e1, na_bm (by omega) (by omega)]
  · rw [Int32.toInt_add, e2, na_bm (by omega) (by omega)]
theorem nx_in {x : Int32} {n : Nat} (h1 : 0 ≤ x.toInt) (h2 : x.toInt < n) : vp_in x n := na_in (b := (x.toInt, x.toInt)) ⟨Int.le_refl _, Int.le_refl _⟩ h1 h2
theorem nx_cl {x : Int32} {k : Nat} (h : x.toInt = k) : x.toNatClampNeg = k := by
  have : x.toInt.toNat = x.toNatClampNeg := Int32.toNat_toInt x
  omega
set_option maxRecDepth 100000 in
theorem mk_C : na_Mk gC ev_X4_ofMaking 3 := by
  intro s m j Q h1 h2 h3 h4 hq
  have e := (nx_i7 h1 h2 h3 h4).1
  have em : m.toInt.toNat = m.toNatClampNeg := Int32.toNat_toInt m
  have ej : j.toInt.toNat = j.toNatClampNeg := Int32.toNat_toInt j
  refine nx_s (nx_s (nx_s (nx_s (nx_s (nx_s (nx_s (nx_s ?_)))))))
  refine ⟨nx_in (n := 84) (by omega) (by omega), ?_⟩
  refine nx_s ?_
  have e2 : (m * 7 + j).toNatClampNeg = 7 * m.toNatClampNeg + j.toNatClampNeg := nx_cl (by omega)
  show Q (some (.int (s.1 5 (m * 7 + j).toNatClampNeg))) (nx_enc s 0 shC)
  rw [e2]
  exact hq
set_option maxRecDepth 100000 in
theorem mk_R : na_Mk gR ev_X6_part 0 := by
  intro s m j Q h1 h2 h3 h4 hq
  have e := (nx_i7 h1 h2 h3 h4).2
  have em : m.toInt.toNat = m.toNatClampNeg := Int32.toNat_toInt m
  have ej : j.toInt.toNat = j.toNatClampNeg := Int32.toNat_toInt j
  refine nx_s (nx_s (nx_s (nx_s (nx_s (nx_s (nx_s (nx_s ?_)))))))
  refine ⟨nx_in (n := 84) (by omega) (by omega), ?_⟩
  refine nx_s ?_
  have e2 : (7 * m + j).toNatClampNeg = 7 * m.toNatClampNeg + j.toNatClampNeg := nx_cl (by omega)
  show Q (some (.int (s.1 8 (7 * m + j).toNatClampNeg))) (nx_enc s 0 shR)
  rw [e2]
  exact hq
