/-! ===== the new objects in cells of a fixed shape ===== -/
noncomputable def fsC0 : Nat → Nat → Int32 := fun q p => bif (Nat.ble 29 q && Nat.ble q 47 && Nat.beq p 1) || (Nat.beq p 12 && (Nat.beq q 9 || Nat.beq q 18)) then -1 else 0
noncomputable def gsC0 : Nat → Nat → Int64 := fun _ p => bif Nat.beq p 12 then 1 else 0
noncomputable def gsR0 : Nat → Nat → Int64 := fun _ p => bif Nat.beq p 4 then 1 else 0
noncomputable def sC0 : nx_S := (iC0, fun _ _ => 0, fsC0, gsC0)
noncomputable def sR0 : nx_S := (iR0, fun _ _ => 0, fun _ _ => 0, gsR0)
theorem rc_1 : rc_rows = nk_lg [29, 31, 33, 35, 37, 39] := funext (fun k => by
  match k with
  | 0 => rfl
  | 1 => rfl
  | 2 => rfl
  | 3 => rfl
  | 4 => rfl
  | 5 => rfl
  | k + 6 => rfl)
theorem rc_2 : rc_texts = nk_lg [41, 43, 45, 47] := funext (fun k => by
  match k with
  | 0 => rfl
  | 1 => rfl
  | 2 => rfl
  | 3 => rfl
  | k + 4 => rfl)
theorem rc_3 : rc_heaps = nk_lg [49, 52, 55, 58] := funext (fun k => by
  match k with
  | 0 => rfl
  | 1 => rfl
  | 2 => rfl
  | 3 => rfl
  | k + 4 => rfl)
set_option maxRecDepth 100000 in
set_option maxHeartbeats 4000000 in
theorem hC0_eq : hC0 = nx_enc sC0 0 shC := by
  show encC iC0 (fun _ _ => 0) fC0 gC0 = nx_enc sC0 0 shC
  unfold encC
  rw [rc_1, rc_2, rc_3]
  rfl
set_option maxRecDepth 100000 in
set_option maxHeartbeats 4000000 in
theorem hR0_eq : hR0 = nx_enc sR0 0 shR := rfl
theorem pm_0 : nx_PM (fun _ => 0) := by
  intro m hm
  have h0 : (0 : Int32).toInt = 0 := rfl
  refine ⟨fun j hj => ?_, Or.inl (by show (0 : Int32).toInt ≤ 15; omega)⟩
  show (nx_co j).1 ≤ (0 : Int32).toInt ∧ (0 : Int32).toInt ≤ (nx_co j).2
  match j, hj with
  | 0, _ => decide
  | 1, _ => decide
  | 2, _ => decide
  | 3, _ => decide
  | 4, _ => decide
  | 5, _ => decide
  | 6, _ => decide
  | j + 7, hj => omega
theorem iv_C0 : nx_Inv gC sC0 := by
  refine ⟨fun i k b hi hb => ?_, fun q n l hq i hi => ?_, pm_0, trivial⟩
  · match i, hi, hb with
    | 0, hi, hb => cases hi; cases hb; decide
    | 1, hi, hb => cases hi; cases hb; decide
    | 2, hi, hb => cases hi; cases hb; decide
    | 3, hi, hb => cases hi; cases hb; decide
    | 4, hi, hb => cases hi; cases hb; decide
    | 5, hi, hb => cases hi; cases hb; decide
    | 6, hi, hb => cases hi; cases hb; decide
    | 7, hi, hb => cases hi; cases hb; decide
    | 8, hi, hb => cases hi; cases hb; decide
    | 9, hi, hb => cases hi; cases hb; decide
    | 10, hi, hb => cases hi; cases hb; decide
    | 11, hi, hb => cases hi; cases hb; decide
    | 12, hi, hb => cases hi; cases hb; decide
    | 13, hi, hb => cases hi; cases hb; decide
    | 14, hi, hb => cases hi; cases hb; decide
    | 15, hi, hb => cases hi; cases hb; decide
    | 16, hi, hb => cases hi; cases hb; decide
    | 17, hi, hb => cases hi; cases hb; decide
    | 18, hi, hb => cases hi; cases hb; decide
    | 19, hi, hb => cases hi; cases hb; decide
    | 20, hi, hb => cases hi; cases hb; decide
    | 21, hi, hb => cases hi; cases hb; decide
    | 22, hi, hb => cases hi; cases hb; decide
    | 23, hi, hb => cases hi; cases hb; decide
    | 24, hi, hb => cases hi; cases hb; decide
    | 25, hi, hb => cases hi; cases hb; decide
    | 26, hi, hb => cases hi; cases hb; decide
    | 27, hi, hb => cases hi; cases hb; decide
    | 28, hi, hb => cases hi; cases hb; decide
    | 29, hi, hb => cases hi; cases hb; decide
    | i + 30, hi, hb => cases hi
  · by_cases e11 : q = 11
    · subst e11
      show (0 : Int) ≤ (0 : Int32).toInt ∧ (0 : Int32).toInt ≤ 15
      decide
    · by_cases e20 : q = 20
      · subst e20
        show (0 : Int) ≤ (0 : Int32).toInt ∧ (0 : Int32).toInt ≤ 15
        decide
      · have ef : gC.2.2.2.1 q = na_full := by
          show (bif Nat.beq q 11 || Nat.beq q 20 then ((0 : Int), (15 : Int)) else na_full) = na_full
          rw [nb_f e11, nb_f e20]
          rfl
        rw [ef]
        exact na_i32 _
theorem iv_R0 : nx_Inv gR sR0 := by
  have h0 : (0 : Int32).toInt = 0 := rfl
  refine ⟨fun i k b hi hb => ?_, fun q n l hq i hi => ?_, pm_0, ?_⟩
  · match i, hi, hb with
    | 0, hi, hb => cases hi; cases hb; decide
    | 1, hi, hb => cases hi; cases hb; decide
    | 2, hi, hb => cases hi; cases hb; decide
    | 3, hi, hb => cases hi; cases hb; decide
    | 4, hi, hb => cases hi; cases hb; decide
    | 5, hi, hb => cases hi; cases hb; decide
    | 6, hi, hb => cases hi; cases hb; decide
    | 7, hi, hb => cases hi; cases hb; decide
    | 8, hi, hb => cases hi; cases hb; decide
    | i + 9, hi, hb => cases hi
  · by_cases e18 : q = 18
    · subst e18
      show (0 : Int) ≤ (0 : Int32).toInt ∧ (0 : Int32).toInt ≤ 20
      decide
    · by_cases e10 : q = 10
      · subst e10
        show (0 : Int) ≤ (0 : Int32).toInt ∧ (0 : Int32).toInt ≤ 15
        decide
      · by_cases e2 : q = 2
        · subst e2
          cases hq
          show (-9 : Int) ≤ (iR0 2 i).toInt ∧ (iR0 2 i).toInt ≤ 40
          match i, hi with
          | 0, _ => decide
          | 1, _ => decide
          | 2, _ => decide
          | 3, _ => decide
          | 4, _ => decide
          | 5, _ => decide
          | i + 6, hi => omega
        · by_cases e5 : q = 5
          · subst e5
            cases hq
            show (-9 : Int) ≤ (iR0 5 i).toInt ∧ (iR0 5 i).toInt ≤ 40
            match i, hi with
            | 0, _ => decide
            | 1, _ => decide
            | 2, _ => decide
            | 3, _ => decide
            | i + 4, hi => omega
          · have ef : gR.2.2.2.1 q = na_full := by
              show (bif Nat.beq q 18 then ((0 : Int), (20 : Int)) else (bif Nat.beq q 10 then (0, 15) else (bif Nat.beq q 2 || Nat.beq q 5 then (-9, 40) else na_full))) = na_full
              rw [nb_f e18, nb_f e10, nb_f e2, nb_f e5]
              rfl
            rw [ef]
            exact na_i32 _
  · refine ⟨fun k hk => ?_, fun m hm => Or.inl ⟨rfl, rfl⟩⟩
    have hk : (k : Int) < (0 : Int32).toInt := hk
    omega
theorem j_R0 : nJ sR0 := fun h => by
  have h : 0 < (0 : Int32).toInt := h
  exact absurd h (by decide)
