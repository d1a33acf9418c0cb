/-! ===== HEAPS: what lies in them, what drawing does ===== -/
abbrev HF : Type := Nat → Int
noncomputable def mn (x y : Int) : Int := if x ≤ y then x else y
theorem mn_c (x y : Int) : (x ≤ y ∧ mn x y = x) ∨ (y < x ∧ mn x y = y) := by
  unfold mn
  by_cases h : x ≤ y
  · exact Or.inl ⟨h, if_pos h⟩
  · exact Or.inr ⟨by omega, if_neg h⟩
noncomputable def hu (a : HF) (i : Nat) (v : Int) : HF := fun j => if j = i then v else a j
theorem hu_s (a : HF) (i : Nat) (v : Int) : hu a i v i = v := if_pos rfl
theorem hu_n (a : HF) {i j : Nat} (v : Int) (h : j ≠ i) : hu a i v j = a j := if_neg h
noncomputable def hsum (a : HF) : Nat → Int
  | 0 => 0
  | n + 1 => hsum a n + a n
noncomputable def hof (w a : HF) (p : Int) : Nat → Int
  | 0 => 0
  | n + 1 => hof w a p n + (if w n = p then a n else 0)
theorem hsum_b {a : HF} {n : Nat} (h : ∀ i : Nat, i < n → 0 ≤ a i ∧ a i ≤ 99) : ∀ i : Nat, i ≤ n → 0 ≤ hsum a i ∧ hsum a i ≤ 99 * i
  | 0, _ => ⟨Int.le_refl _, Int.le_refl _⟩
  | i + 1, hi => by
    have h1 := hsum_b h i (by omega)
    have h2 := h i (by omega)
    show 0 ≤ hsum a i + a i ∧ hsum a i + a i ≤ 99 * ((i + 1 : Nat) : Int)
    omega
theorem hof_b {w a : HF} {p : Int} {n : Nat} (h : ∀ i : Nat, i < n → 0 ≤ a i ∧ a i ≤ 99) : ∀ i : Nat, i ≤ n → 0 ≤ hof w a p i ∧ hof w a p i ≤ 99 * i
  | 0, _ => ⟨Int.le_refl _, Int.le_refl _⟩
  | i + 1, hi => by
    have h1 := hof_b (w := w) (p := p) h i (by omega)
    have h2 := h i (by omega)
    show 0 ≤ hof w a p i + (if w i = p then a i else 0) ∧ hof w a p i + (if w i = p then a i else 0) ≤ 99 * ((i + 1 : Nat) : Int)
    by_cases e : w i = p
    · rw [if_pos e]
      omega
    · rw [if_neg e]
      omega
/-- at most m of the layer i -/
noncomputable def htk (z : HF × Int) (i : Nat) (m : Int) : HF × Int := (hu z.1 i (z.1 i - mn (z.1 i) m), z.2 - mn (z.1 i) m)
noncomputable def hd0 (z : HF × Int) : Nat → HF × Int
  | 0 => z
  | i + 1 => htk (hd0 z i) i (hd0 z i).2
noncomputable def hd1 (z : HF × Int) (n all : Int) : Nat → HF × Int
  | 0 => z
  | i + 1 => htk (hd1 z n all i) i ((hd1 z n all i).1 i * n / all)
noncomputable def hd2 (z : HF × Int) : Nat → HF × Int
  | 0 => z
  | i + 1 => htk (hd2 z i) i (mn (hd2 z i).2 1)
/-- from the last, c layers done: those that aren't p's -/
noncomputable def hd3 (w : HF) (p : Int) (N : Nat) (z : HF × Int) : Nat → HF × Int
  | 0 => z
  | c + 1 => if w (N - 1 - c) = p then hd3 w p N z c else htk (hd3 w p N z c) (N - 1 - c) (hd3 w p N z c).2
/-- all -/
noncomputable def hd4 (N : Nat) (z : HF × Int) : Nat → HF × Int
  | 0 => z
  | c + 1 => htk (hd4 N z c) (N - 1 - c) (hd4 N z c).2
/-- p's -/
noncomputable def hd5 (w : HF) (p : Int) (N : Nat) (z : HF × Int) : Nat → HF × Int
  | 0 => z
  | c + 1 => if w (N - 1 - c) = p then htk (hd5 w p N z c) (N - 1 - c) (hd5 w p N z c).2 else hd5 w p N z c
noncomputable def hkp (a : HF) : Nat → Nat
  | 0 => 0
  | i + 1 => hkp a i + (if 0 < a i then 1 else 0)
noncomputable def hco (a f : HF) : Nat → HF
  | 0 => f
  | i + 1 => if 0 < a i then hu (hco a f i) (hkp a i) (f i) else hco a f i
/-- amounts within 0..99, and what is due isn't below 0 -/
noncomputable def hok (N : Nat) (z : HF × Int) : Prop := (∀ i : Nat, i < N → 0 ≤ z.1 i ∧ z.1 i ≤ 99) ∧ 0 ≤ z.2 ∧ z.2 ≤ 999
theorem htk_ok {N : Nat} {z : HF × Int} {i : Nat} {m : Int} (h : hok N z) (h0 : 0 ≤ m) (hm : m ≤ z.2 ∨ z.1 i ≤ z.2) (hi : i < N) : hok N (htk z i m) := by
  have h1 := h.1 i hi
  have h2 := h.2
  rcases mn_c (z.1 i) m with ⟨c1, c2⟩ | ⟨c1, c2⟩
  · refine ⟨fun j hj => ?_, ?_⟩
    · show 0 ≤ hu z.1 i (z.1 i - mn (z.1 i) m) j ∧ hu z.1 i (z.1 i - mn (z.1 i) m) j ≤ 99
      by_cases e : j = i
      · rw [e, hu_s, c2]
        omega
      · rw [hu_n _ _ e]
        exact h.1 j hj
    · show 0 ≤ z.2 - mn (z.1 i) m ∧ z.2 - mn (z.1 i) m ≤ 999
      rw [c2]
      omega
  · refine ⟨fun j hj => ?_, ?_⟩
    · show 0 ≤ hu z.1 i (z.1 i - mn (z.1 i) m) j ∧ hu z.1 i (z.1 i - mn (z.1 i) m) j ≤ 99
      by_cases e : j = i
      · rw [e, hu_s, c2]
        omega
      · rw [hu_n _ _ e]
        exact h.1 j hj
    · show 0 ≤ z.2 - mn (z.1 i) m ∧ z.2 - mn (z.1 i) m ≤ 999
      rw [c2]
      omega
theorem htk_n {z : HF × Int} {i j : Nat} {m : Int} (h : j ≠ i) : (htk z i m).1 j = z.1 j := hu_n _ _ h
theorem hd0_ok {N : Nat} {z : HF × Int} (h : hok N z) : ∀ i : Nat, i ≤ N → hok N (hd0 z i)
  | 0, _ => h
  | i + 1, hi => by
    have ih := hd0_ok h i (by omega)
    exact htk_ok ih ih.2.1 (Or.inl (Int.le_refl _)) (by omega)
theorem hd2_ok {N : Nat} {z : HF × Int} (h : hok N z) : ∀ i : Nat, i ≤ N → hok N (hd2 z i)
  | 0, _ => h
  | i + 1, hi => by
    have ih := hd2_ok h i (by omega)
    have h2 := ih.2
    show hok N (htk (hd2 z i) i (mn (hd2 z i).2 1))
    rcases mn_c (hd2 z i).2 1 with ⟨c1, c2⟩ | ⟨c1, c2⟩
    · rw [c2]
      exact htk_ok ih h2.1 (Or.inl (Int.le_refl _)) (by omega)
    · rw [c2]
      exact htk_ok ih (by decide) (Or.inl (by omega)) (by omega)
theorem hd3_ok {N : Nat} {w : HF} {p : Int} {z : HF × Int} (h : hok N z) : ∀ c : Nat, c ≤ N → hok N (hd3 w p N z c)
  | 0, _ => h
  | c + 1, hc => by
    have ih := hd3_ok (w := w) (p := p) h c (by omega)
    show hok N (if w (N - 1 - c) = p then hd3 w p N z c else htk (hd3 w p N z c) (N - 1 - c) (hd3 w p N z c).2)
    by_cases e : w (N - 1 - c) = p
    · rw [if_pos e]
      exact ih
    · rw [if_neg e]
      exact htk_ok ih ih.2.1 (Or.inl (Int.le_refl _)) (by omega)
theorem hd4_ok {N : Nat} {z : HF × Int} (h : hok N z) : ∀ c : Nat, c ≤ N → hok N (hd4 N z c)
  | 0, _ => h
  | c + 1, hc => by
    have ih := hd4_ok h c (by omega)
    exact htk_ok ih ih.2.1 (Or.inl (Int.le_refl _)) (by omega)
/-- by parts: layers not yet reached are as they were; what is due is enough for what is left -/
theorem hd1_ok {N : Nat} {a : HF} {d : Int} (h : hok N (a, d)) (h1 : d ≤ hsum a N) (hp : 0 < hsum a N) : ∀ i : Nat, i ≤ N → hok N (hd1 (a, d) d (hsum a N) i) ∧ (∀ j : Nat, i ≤ j → (hd1 (a, d) d (hsum a N) i).1 j = a j) ∧ d * (hsum a N - hsum a i) ≤ hsum a N * (hd1 (a, d) d (hsum a N) i).2
  | 0, _ => ⟨h, fun _ _ => rfl, by
    show d * (hsum a N - 0) ≤ hsum a N * d
    rw [Int.sub_zero, Int.mul_comm]
    exact Int.le_refl _⟩
  | i + 1, hi => by
    obtain ⟨i1, i2, i3⟩ := hd1_ok h h1 hp i (by omega)
    have ha := h.1 i (by omega)
    have hd := h.2
    have ha : 0 ≤ a i ∧ a i ≤ 99 := ha
    have hd : 0 ≤ d ∧ d ≤ 999 := hd
    have mono : ∀ k : Nat, i + 1 + k ≤ N → hsum a (i + 1) ≤ hsum a (i + 1 + k) := by
      intro k
      induction k with
      | zero => intro _; exact Int.le_refl _
      | succ k ih =>
        intro hk
        have h3 := ih (by omega)
        have h4 : 0 ≤ a (i + 1 + k) := (h.1 (i + 1 + k) (by omega)).1
        show hsum a (i + 1) ≤ hsum a (i + 1 + k) + a (i + 1 + k)
        omega
    have hle : hsum a i + a i ≤ hsum a N := by
      have := mono (N - (i + 1)) (by omega)
      rw [show i + 1 + (N - (i + 1)) = N by omega] at this
      exact this
    show hok N (htk (hd1 (a, d) d (hsum a N) i) i ((hd1 (a, d) d (hsum a N) i).1 i * d / hsum a N)) ∧ (∀ j : Nat, i + 1 ≤ j → (htk (hd1 (a, d) d (hsum a N) i) i ((hd1 (a, d) d (hsum a N) i).1 i * d / hsum a N)).1 j = a j) ∧ d * (hsum a N - (hsum a i + a i)) ≤ hsum a N * (htk (hd1 (a, d) d (hsum a N) i) i ((hd1 (a, d) d (hsum a N) i).1 i * d / hsum a N)).2
    rw [i2 i (Nat.le_refl _)]
    generalize hz : hd1 (a, d) d (hsum a N) i = z at *
    generalize hA : hsum a N = A at *
    generalize hB : hsum a i = B at *
    have q0 : 0 ≤ a i * d := Int.mul_nonneg ha.1 hd.1
    have m0 : 0 ≤ a i * d / A := Int.ediv_nonneg q0 (by omega)
    have m1 : a i * d / A * A ≤ a i * d := Int.ediv_mul_le _ (by omega)
    have m2 : a i * d ≤ a i * A := Int.mul_le_mul_of_nonneg_left h1 ha.1
    generalize hm : a i * d / A = m at *
    have ml : m ≤ a i := by
      have : m * A ≤ a i * A := Int.le_trans m1 m2
      exact Int.le_of_mul_le_mul_right this hp
    have e1 : d * (A - B) = d * (A - (B + a i)) + d * a i := by
      rw [← Int.mul_add]
      congr 1
      omega
    have n0 : 0 ≤ d * (A - (B + a i)) := Int.mul_nonneg hd.1 (by omega)
    have md : m ≤ z.2 := by
      have t1 : a i * d ≤ A * z.2 := by
        rw [Int.mul_comm (a i) d]
        omega
      have t2 : m * A ≤ z.2 * A := by
        rw [Int.mul_comm z.2 A]
        exact Int.le_trans m1 t1
      exact Int.le_of_mul_le_mul_right t2 hp
    have zi : z.1 i = a i := i2 i (Nat.le_refl _)
    have hmn : mn (z.1 i) m = m := by
      rcases mn_c (z.1 i) m with ⟨c1, c2⟩ | ⟨c1, c2⟩
      · rw [c2]
        omega
      · exact c2
    refine ⟨htk_ok i1 m0 (Or.inl md) (by omega), fun j hj => ?_, ?_⟩
    · rw [htk_n (by omega)]
      exact i2 j (by omega)
    · show d * (A - (B + a i)) ≤ A * (z.2 - mn (z.1 i) m)
      rw [hmn, Int.mul_sub]
      have e2 : A * m = m * A := Int.mul_comm _ _
      have e3 : a i * d = d * a i := Int.mul_comm _ _
      omega
/-- behind the first way from the last: nothing is due, or nothing is left of the others -/
theorem hd3_e {N : Nat} {w : HF} {p : Int} {z : HF × Int} (h : hok N z) : ∀ c : Nat, c ≤ N → (hd3 w p N z c).2 = 0 ∨ ∀ j : Nat, N - c ≤ j → j < N → w j ≠ p → (hd3 w p N z c).1 j = 0
  | 0, _ => Or.inr (fun j h1 h2 _ => by omega)
  | c + 1, hc => by
    have ok := hd3_ok (w := w) (p := p) h c (by omega)
    have ih := hd3_e (w := w) (p := p) h c (by omega)
    show (if w (N - 1 - c) = p then hd3 w p N z c else htk (hd3 w p N z c) (N - 1 - c) (hd3 w p N z c).2).2 = 0 ∨ ∀ j : Nat, N - (c + 1) ≤ j → j < N → w j ≠ p → (if w (N - 1 - c) = p then hd3 w p N z c else htk (hd3 w p N z c) (N - 1 - c) (hd3 w p N z c).2).1 j = 0
    by_cases e : w (N - 1 - c) = p
    · rw [if_pos e]
      rcases ih with ih | ih
      · exact Or.inl ih
      · refine Or.inr (fun j h1 h2 h3 => ih j ?_ h2 h3)
        by_cases ej : j = N - 1 - c
        · rw [ej] at h3
          exact absurd e h3
        · omega
    · rw [if_neg e]
      have o1 := ok.1 (N - 1 - c) (by omega)
      have o2 := ok.2
      generalize hd3 w p N z c = y at *
      rcases mn_c (y.1 (N - 1 - c)) y.2 with ⟨c1, c2⟩ | ⟨c1, c2⟩
      · rcases ih with ih | ih
        · refine Or.inl ?_
          show y.2 - mn (y.1 (N - 1 - c)) y.2 = 0
          rw [c2]
          omega
        · refine Or.inr (fun j h1 h2 h3 => ?_)
          show hu y.1 (N - 1 - c) (y.1 (N - 1 - c) - mn (y.1 (N - 1 - c)) y.2) j = 0
          by_cases ej : j = N - 1 - c
          · rw [ej, hu_s, c2]
            omega
          · rw [hu_n _ _ ej]
            exact ih j (by omega) h2 h3
      · refine Or.inl ?_
        show y.2 - mn (y.1 (N - 1 - c)) y.2 = 0
        rw [c2]
        omega
theorem htk_0 {z : HF × Int} {i : Nat} {m : Int} (h : mn (z.1 i) m = 0) : htk z i m = z := by
  unfold htk
  rw [h, Int.sub_zero, Int.sub_zero]
  refine Prod.ext (funext (fun j => ?_)) rfl
  show hu z.1 i (z.1 i) j = z.1 j
  by_cases e : j = i
  · rw [e, hu_s]
  · rw [hu_n _ _ e]
/-- so the second way over all is one over p's alone -/
theorem hd45 {N : Nat} {w : HF} {p : Int} {z : HF × Int} (h : hok N z) (hz : z.2 = 0 ∨ ∀ j : Nat, j < N → w j ≠ p → z.1 j = 0) : ∀ c : Nat, c ≤ N → hd4 N z c = hd5 w p N z c ∧ ((hd4 N z c).2 = 0 ∨ ∀ j : Nat, j < N → w j ≠ p → (hd4 N z c).1 j = 0)
  | 0, _ => ⟨rfl, hz⟩
  | c + 1, hc => by
    obtain ⟨i1, i2⟩ := hd45 h hz c (by omega)
    have ok := hd4_ok h c (by omega)
    have o1 := ok.1 (N - 1 - c) (by omega)
    have o2 := ok.2
    show htk (hd4 N z c) (N - 1 - c) (hd4 N z c).2 = (if w (N - 1 - c) = p then htk (hd5 w p N z c) (N - 1 - c) (hd5 w p N z c).2 else hd5 w p N z c) ∧ ((htk (hd4 N z c) (N - 1 - c) (hd4 N z c).2).2 = 0 ∨ ∀ j : Nat, j < N → w j ≠ p → (htk (hd4 N z c) (N - 1 - c) (hd4 N z c).2).1 j = 0)
    rw [← i1]
    generalize hd4 N z c = y at *
    by_cases e : w (N - 1 - c) = p
    · rw [if_pos e]
      refine ⟨rfl, ?_⟩
      rcases i2 with i2 | i2
      · refine Or.inl ?_
        show y.2 - mn (y.1 (N - 1 - c)) y.2 = 0
        rcases mn_c (y.1 (N - 1 - c)) y.2 with ⟨c1, c2⟩ | ⟨c1, c2⟩
        · rw [c2]
          omega
        · rw [c2]
          omega
      · refine Or.inr (fun j hj hw => ?_)
        by_cases ej : j = N - 1 - c
        · rw [ej] at hw
          exact absurd e hw
        · rw [htk_n ej]
          exact i2 j hj hw
    · rw [if_neg e]
      have hm : mn (y.1 (N - 1 - c)) y.2 = 0 := by
        rcases i2 with i2 | i2
        · rcases mn_c (y.1 (N - 1 - c)) y.2 with ⟨c1, c2⟩ | ⟨c1, c2⟩
          · rw [c2]
            omega
          · rw [c2]
            exact i2
        · have := i2 (N - 1 - c) (by omega) e
          rcases mn_c (y.1 (N - 1 - c)) y.2 with ⟨c1, c2⟩ | ⟨c1, c2⟩
          · rw [c2]
            exact this
          · omega
      rw [htk_0 hm]
      exact ⟨rfl, i2⟩
theorem hkp_le (a : HF) : ∀ i : Nat, hkp a i ≤ i
  | 0 => Nat.le_refl _
  | i + 1 => by
    have := hkp_le a i
    show hkp a i + (if 0 < a i then 1 else 0) ≤ i + 1
    by_cases e : 0 < a i
    · rw [if_pos e]
      omega
    · rw [if_neg e]
      omega
/-- what is kept: only layers of a that aren't empty -/
theorem hco_p {a f : HF} {P : Int → Int → Prop} : ∀ i : Nat, (∀ j : Nat, j < i → 0 < a j → P (f j) (a j)) → ∀ j : Nat, j < hkp a i → P (hco a f i j) (hco a a i j)
  | 0, _, j, hj => absurd hj (Nat.not_lt_zero j)
  | i + 1, h, j, hj => by
    have ih := hco_p (f := f) (P := P) i (fun j hj => h j (by omega))
    have hj : j < hkp a i + (if 0 < a i then 1 else 0) := hj
    show P ((if 0 < a i then hu (hco a f i) (hkp a i) (f i) else hco a f i) j) ((if 0 < a i then hu (hco a a i) (hkp a i) (a i) else hco a a i) j)
    by_cases e : 0 < a i
    · rw [if_pos e] at hj
      rw [if_pos e, if_pos e]
      by_cases ej : j = hkp a i
      · rw [ej, hu_s, hu_s]
        exact h i (by omega) e
      · rw [hu_n _ _ ej, hu_n _ _ ej]
        exact ih j (by omega)
    · rw [if_neg e] at hj
      rw [if_neg e, if_neg e]
      exact ih j (by omega)
/-- the amounts behind a rule -/
noncomputable def hrule (w a : HF) (N : Nat) (p d : Int) (r : Int) : HF := if r = 0 then (hd0 (a, d) N).1 else if r = 1 then (hd2 (hd1 (a, d) d (hsum a N) N) N).1 else (hd4 N (hd3 w p N (a, d) N) N).1
