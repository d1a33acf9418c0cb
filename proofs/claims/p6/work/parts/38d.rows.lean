/-! ===== ROWS: the sizes in both ===== -/
noncomputable def ZZ (s1 s2 : nx_S) : Prop := ∀ k : Nat, k < 6 → zC s1 k = zR s2 k ∨ (zC s1 k < 0 ∧ zR s2 k < 0)
theorem zz_k {s1 s2 t1 t2 : nx_S} (hz : ZZ s1 s2) (z1 : zk (zC s1) (zC t1)) (z2 : zk (zR s2) (zR t2)) : ZZ t1 t2 := fun k hk => by
  rw [z1 k hk, z2 k hk]
  exact hz k hk
theorem zz_row {s1 s2 t1 t2 : nx_S} {r n : Int32} (hz : ZZ s1 s2) (z1 : zk (zrow (zC s1) r n) (zC t1)) (z2 : zk (zrow (zR s2) r n) (zR t2)) : ZZ t1 t2 := fun k hk => by
  rw [z1 k hk, z2 k hk]
  unfold zrow
  by_cases c : ((0 ≤ r.toInt ∧ r.toInt ≤ 5) ∧ 0 ≤ n.toInt ∧ n.toInt ≤ 40) ∧ k = r.toInt.toNat
  · rw [if_pos c, if_pos c]
    exact Or.inl rfl
  · rw [if_neg c, if_neg c]
    exact hz k hk
theorem zz_tear {s1 s2 t1 t2 : nx_S} {r : Int32} (hz : ZZ s1 s2) (z1 : zk (ztear (zC s1) r (-1)) (zC t1)) (z2 : zk (ztear (zR s2) r (-9)) (zR t2)) : ZZ t1 t2 := fun k hk => by
  rw [z1 k hk, z2 k hk]
  unfold ztear
  by_cases c : 0 ≤ r.toInt ∧ r.toInt ≤ 5
  · have h := hz r.toInt.toNat (by omega)
    by_cases c2 : 0 ≤ zC s1 r.toInt.toNat
    · have c3 : 0 ≤ zR s2 r.toInt.toNat := by omega
      by_cases ek : k = r.toInt.toNat
      · rw [if_pos ⟨⟨c, c2⟩, ek⟩, if_pos ⟨⟨c, c3⟩, ek⟩]
        exact Or.inr ⟨by decide, by decide⟩
      · rw [if_neg (fun q => ek q.2), if_neg (fun q => ek q.2)]
        exact hz k hk
    · have c3 : ¬ 0 ≤ zR s2 r.toInt.toNat := by omega
      rw [if_neg (fun q => c2 q.1.2), if_neg (fun q => c3 q.1.2)]
      exact hz k hk
  · rw [if_neg (fun q => c q.1.1), if_neg (fun q => c q.1.1)]
    exact hz k hk
theorem zz_place {s1 s2 : nx_S} (r i : Int32) (hz : ZZ s1 s2) : f_place (zC s1) r i = f_place (zR s2) r i := by
  unfold f_place
  by_cases c : 0 ≤ r.toInt ∧ r.toInt ≤ 5
  · have h := hz r.toInt.toNat (by omega)
    rw [if_pos c, if_pos c]
    by_cases c2 : 0 ≤ zC s1 r.toInt.toNat ∧ 0 ≤ i.toInt ∧ i.toInt < zC s1 r.toInt.toNat
    · rw [if_pos c2, if_pos (by omega)]
    · rw [if_neg c2, if_neg (by omega)]
  · rw [if_neg c, if_neg c]
theorem zz_te {s1 s2 : nx_S} (r : Int32) (hz : ZZ s1 s2) : f_tear (zC s1) r = f_tear (zR s2) r := by
  unfold f_tear
  by_cases c : 0 ≤ r.toInt ∧ r.toInt ≤ 5
  · have h := hz r.toInt.toNat (by omega)
    rw [if_pos c, if_pos c]
    by_cases c2 : 0 ≤ zC s1 r.toInt.toNat
    · rw [if_pos c2, if_pos (by omega)]
    · rw [if_neg c2, if_neg (by omega)]
  · rw [if_neg c, if_neg c]
theorem zz_mean {s1 s2 : nx_S} (r : Int32) (hz : ZZ s1 s2) : f_mean (zC s1) r = f_mean (zR s2) r := by
  unfold f_mean
  by_cases c : 0 ≤ r.toInt ∧ r.toInt ≤ 5
  · have h := hz r.toInt.toNat (by omega)
    rw [if_pos c, if_pos c]
    by_cases c2 : 0 < zC s1 r.toInt.toNat
    · rw [if_pos c2, if_pos (by omega)]
    · rw [if_neg c2, if_neg (by omega)]
  · rw [if_neg c, if_neg c]
theorem zz_copy {s1 s2 : nx_S} (r i t j n : Int32) (hz : ZZ s1 s2) : f_copy (zC s1) r i t j n = f_copy (zR s2) r i t j n := by
  unfold f_copy
  by_cases c : (0 ≤ r.toInt ∧ r.toInt ≤ 5) ∧ (0 ≤ t.toInt ∧ t.toInt ≤ 5)
  · have h := hz r.toInt.toNat (by omega)
    have h' := hz t.toInt.toNat (by omega)
    rw [if_pos c, if_pos c]
    by_cases c2 : 0 ≤ n.toInt ∧ (0 ≤ zC s1 r.toInt.toNat ∧ 0 ≤ zC s1 t.toInt.toNat) ∧ (0 ≤ i.toInt ∧ i.toInt + n.toInt ≤ zC s1 r.toInt.toNat) ∧ 0 ≤ j.toInt ∧ j.toInt + n.toInt ≤ zC s1 t.toInt.toNat
    · rw [if_pos c2, if_pos (by omega)]
    · rw [if_neg c2, if_neg (by omega)]
  · rw [if_neg c, if_neg c]
theorem zk_of {s s1 : nx_S} (h0 : s1.2.2.1 29 1 = s.2.2.1 29 1) (h1 : s1.2.2.1 31 1 = s.2.2.1 31 1) (h2 : s1.2.2.1 33 1 = s.2.2.1 33 1) (h3 : s1.2.2.1 35 1 = s.2.2.1 35 1) (h4 : s1.2.2.1 37 1 = s.2.2.1 37 1) (h5 : s1.2.2.1 39 1 = s.2.2.1 39 1) : zk (zC s) (zC s1) := fun k hk => by
  unfold zC
  match k, hk with
  | 0, _ => exact congrArg Int32.toInt h0
  | 1, _ => exact congrArg Int32.toInt h1
  | 2, _ => exact congrArg Int32.toInt h2
  | 3, _ => exact congrArg Int32.toInt h3
  | 4, _ => exact congrArg Int32.toInt h4
  | 5, _ => exact congrArg Int32.toInt h5
  | k + 6, hk => omega
theorem zk_fz {s s1 : nx_S} (h : fz_P s s1) : zk (zC s) (zC s1) := fun k _ => congrArg Int32.toInt (h.1 (29 + 2 * k) (by omega))
