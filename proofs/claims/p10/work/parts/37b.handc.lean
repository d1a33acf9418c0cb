/-! ===== the class's copy by hand ===== -/
set_option maxRecDepth 100000 in
theorem wi_C (Q : nk_Q) (h : nk_H) (v n : Int32) (h1 : 0 ≤ v.toInt → v.toInt < n.toInt → Q (some (.int 1)) h) (h2 : ¬ (0 ≤ v.toInt ∧ v.toInt < n.toInt) → Q (some (.int 0)) h) : ev_X5_within [.int v, .int n] h Q := by
  have a0 : (0 : Int32).toInt = 0 := rfl
  refine nk_s (nk_s ?_)
  refine br_lt (fun a => ?_) (fun a => ?_)
  · refine nk_s (nk_s ?_)
    refine nk_bo0 ?_
    exact h2 (by omega)
  · refine nk_s (nk_s (nk_s ?_))
    refine br_le (fun b => ?_) (fun b => ?_)
    · refine nk_s (nk_s ?_)
      refine nk_bo0 ?_
      exact h2 (by omega)
    · refine nk_s (nk_s (nk_s ?_))
      refine nk_bo1 ?_
      exact h1 (by omega) (by omega)
/-- a finding is told -/
noncomputable def fd_P (s s1 : nx_S) : Prop := (∀ q : Nat, q ≠ 28 → s1.1 q = s.1 q) ∧ s1.2.1 = s.2.1 ∧ ∀ q p : Nat, ¬ (q = 0 ∧ p = 9) → s1.2.2.1 q p = s.2.2.1 q p
theorem fd_inv {s s1 : nx_S} (h : nx_Inv gC s) (hm : fd_P s s1) : nx_Inv gC s1 := by
  refine ⟨fun i k b hi hb => ?_, fun q n l hq i hi => ?_, ?_, trivial⟩
  · by_cases e : k.1 = 0 ∧ k.2 = 9
    · have hk : k = (0, 9) := Prod.ext e.1 e.2
      subst hk
      have h0 : gC.2.1[0]? = some ((0 : Nat), (9 : Nat)) := rfl
      have hi0 : i = 0 := (List.getElem?_inj (List.getElem?_eq_some_iff.mp hi).1 ndk_C).mp (hi.trans h0.symm)
      subst hi0
      cases hb
      exact na_i32 _
    · rw [hm.2.2 k.1 k.2 e]
      exact h.1 i k b hi hb
  · by_cases e : q = 28
    · subst e
      exact na_i32 _
    · rw [hm.1 q e]
      exact h.2.1 q n l hq i hi
  · show nx_PM (s1.1 5)
    rw [hm.1 5 (by decide)]
    exact h.2.2.1
set_option maxRecDepth 100000 in
theorem fd_C (Q : nk_Q) (s : nx_S) (f : Int32) (h0 : 0 ≤ f.toInt) (h1 : f.toInt ≤ 5) (hq : ∀ s1 : nx_S, fd_P s s1 → Q (some (.int (-3))) (nx_enc s1 0 shC)) : ev_X5_found [.ref 0, .int f] (nx_enc s 0 shC) Q := by
  refine nx_s (nx_s (nx_s (nx_s (nx_s (nx_s (nx_s (nx_s ?_)))))))
  refine ⟨nx_in (n := 6) h0 (by omega), ?_⟩
  refine nx_s (nx_s (nx_s ?_))
  refine ⟨nx_in (n := 6) h0 (by omega), ?_⟩
  refine nx_s (nx_s ?_)
  refine hq _ ⟨fun q h1 => ?_, rfl, fun q p hp => ?_⟩
  · show (if q = 28 then _ else s.1 q) = s.1 q
    rw [if_neg h1]
  · show (if q = 0 ∧ p = 9 then _ else s.2.2.1 q p) = s.2.2.1 q p
    rw [if_neg hp]
theorem sp6 {x : Int32} (h0 : 0 ≤ x.toInt) (h1 : x.toInt < 6) : x = 0 ∨ x = 1 ∨ x = 2 ∨ x = 3 ∨ x = 4 ∨ x = 5 := by
  have key : ∀ n : Int32, x.toInt = n.toInt → x = n := fun n h => Int32.toInt_inj.mp h
  have : x.toInt = 0 ∨ x.toInt = 1 ∨ x.toInt = 2 ∨ x.toInt = 3 ∨ x.toInt = 4 ∨ x.toInt = 5 := by omega
  rcases this with h | h | h | h | h | h
  · exact Or.inl (key 0 h)
  · exact Or.inr (Or.inl (key 1 h))
  · exact Or.inr (Or.inr (Or.inl (key 2 h)))
  · exact Or.inr (Or.inr (Or.inr (Or.inl (key 3 h))))
  · exact Or.inr (Or.inr (Or.inr (Or.inr (Or.inl (key 4 h)))))
  · exact Or.inr (Or.inr (Or.inr (Or.inr (Or.inr (key 5 h)))))
