/-! ===== every method on a new object ===== -/
theorem lf {Q : nk_Q} {v w : Int32} {h : nk_H} (hq : ∀ h : nk_H, Q (some (.int v)) h) (e : w = v) : Q (some (.int w)) h := e ▸ hq h
theorem lfl {Q : nk_Q} {v w : Int64} {h : nk_H} (hq : ∀ h : nk_H, Q (some (.long v)) h) (e : w = v) : Q (some (.long w)) h := e ▸ hq h
theorem nk_sw_i {d : Nat} {ts : List Nat} {lo hi : Int} {x : Int32} {k : Nat → Prop} (j : Nat) (hx : x.toInt = lo + j) (hh : ¬ hi < x.toInt) (hk : nk_sm (nk_lg ts j) k) : nk_sw (d :: ts) lo hi x k := by
  obtain ⟨t, hj, hk2⟩ := nk_sm_inv hk
  refine ⟨fun h => ?_, fun j' t' hj' hx' => ?_⟩
  · rcases h with h | h
    · omega
    · exact absurd h hh
  · have : j' = j := by omega
    subst this
    rw [hj] at hj'
    cases hj'
    exact hk2
theorem nk_swx {tg : List Nat} {lo hi : Int} {x : Int32} {k : Nat → Prop} (h : nk_sw tg lo hi x k) : nk_sw tg lo hi x k := h
theorem nk_sw_d {d : Nat} {ts : List Nat} {lo hi : Int} {x : Int32} {k : Nat → Prop} (h : hi < x.toInt) (hl : lo + ts.length ≤ hi + 1) (hk : k d) : nk_sw (d :: ts) lo hi x k := by
  refine ⟨fun _ => hk, fun j' t' hj' hx' => ?_⟩
  rw [nk_lg_eq] at hj'
  have := (List.getElem?_eq_some_iff.mp hj').1
  omega
theorem li_m9 : (-9 : Int32).toInt = -9 := by decide
theorem li_m4 : (-4 : Int32).toInt = -4 := by decide
theorem li_m3 : (-3 : Int32).toInt = -3 := by decide
theorem li_m2 : (-2 : Int32).toInt = -2 := by decide
theorem li_m1 : (-1 : Int32).toInt = -1 := by decide
theorem li_0 : (0 : Int32).toInt = 0 := by decide
theorem li_1 : (1 : Int32).toInt = 1 := by decide
theorem li_2 : (2 : Int32).toInt = 2 := by decide
theorem li_3 : (3 : Int32).toInt = 3 := by decide
theorem li_4 : (4 : Int32).toInt = 4 := by decide
theorem li_5 : (5 : Int32).toInt = 5 := by decide
theorem li_6 : (6 : Int32).toInt = 6 := by decide
theorem li_7 : (7 : Int32).toInt = 7 := by decide
theorem li_9 : (9 : Int32).toInt = 9 := by decide
theorem li_10 : (10 : Int32).toInt = 10 := by decide
theorem li_12 : (12 : Int32).toInt = 12 := by decide
theorem li_15 : (15 : Int32).toInt = 15 := by decide
theorem li_16 : (16 : Int32).toInt = 16 := by decide
theorem li_20 : (20 : Int32).toInt = 20 := by decide
theorem li_40 : (40 : Int32).toInt = 40 := by decide
theorem li_99 : (99 : Int32).toInt = 99 := by decide
theorem li_999 : (999 : Int32).toInt = 999 := by decide
theorem sp_0_5 (x : Int32) : x = 0 ∨ x = 1 ∨ x = 2 ∨ x = 3 ∨ x = 4 ∨ x = 5 ∨ ¬ (0 ≤ x.toInt ∧ x.toInt ≤ 5) := by
  by_cases h : 0 ≤ x.toInt ∧ x.toInt ≤ 5
  · have h2 : x.toInt = 0 ∨ x.toInt = 1 ∨ x.toInt = 2 ∨ x.toInt = 3 ∨ x.toInt = 4 ∨ x.toInt = 5 := by omega
    rcases h2 with q | q | q | q | q | q
    · have e : x = 0 := Int32.toInt_inj.mp (q.trans li_0.symm)
      simp [e]
    · have e : x = 1 := Int32.toInt_inj.mp (q.trans li_1.symm)
      simp [e]
    · have e : x = 2 := Int32.toInt_inj.mp (q.trans li_2.symm)
      simp [e]
    · have e : x = 3 := Int32.toInt_inj.mp (q.trans li_3.symm)
      simp [e]
    · have e : x = 4 := Int32.toInt_inj.mp (q.trans li_4.symm)
      simp [e]
    · have e : x = 5 := Int32.toInt_inj.mp (q.trans li_5.symm)
      simp [e]
  · simp [h]

theorem sp_0_3 (x : Int32) : x = 0 ∨ x = 1 ∨ x = 2 ∨ x = 3 ∨ ¬ (0 ≤ x.toInt ∧ x.toInt ≤ 3) := by
  by_cases h : 0 ≤ x.toInt ∧ x.toInt ≤ 3
  · have h2 : x.toInt = 0 ∨ x.toInt = 1 ∨ x.toInt = 2 ∨ x.toInt = 3 := by omega
    rcases h2 with q | q | q | q
    · have e : x = 0 := Int32.toInt_inj.mp (q.trans li_0.symm)
      simp [e]
    · have e : x = 1 := Int32.toInt_inj.mp (q.trans li_1.symm)
      simp [e]
    · have e : x = 2 := Int32.toInt_inj.mp (q.trans li_2.symm)
      simp [e]
    · have e : x = 3 := Int32.toInt_inj.mp (q.trans li_3.symm)
      simp [e]
  · simp [h]

theorem sp_1_5 (x : Int32) : x = 1 ∨ x = 2 ∨ x = 3 ∨ x = 4 ∨ x = 5 ∨ ¬ (1 ≤ x.toInt ∧ x.toInt ≤ 5) := by
  by_cases h : 1 ≤ x.toInt ∧ x.toInt ≤ 5
  · have h2 : x.toInt = 1 ∨ x.toInt = 2 ∨ x.toInt = 3 ∨ x.toInt = 4 ∨ x.toInt = 5 := by omega
    rcases h2 with q | q | q | q | q
    · have e : x = 1 := Int32.toInt_inj.mp (q.trans li_1.symm)
      simp [e]
    · have e : x = 2 := Int32.toInt_inj.mp (q.trans li_2.symm)
      simp [e]
    · have e : x = 3 := Int32.toInt_inj.mp (q.trans li_3.symm)
      simp [e]
    · have e : x = 4 := Int32.toInt_inj.mp (q.trans li_4.symm)
      simp [e]
    · have e : x = 5 := Int32.toInt_inj.mp (q.trans li_5.symm)
      simp [e]
  · simp [h]

theorem sp_0_6 (x : Int32) : x = 0 ∨ x = 1 ∨ x = 2 ∨ x = 3 ∨ x = 4 ∨ x = 5 ∨ x = 6 ∨ ¬ (0 ≤ x.toInt ∧ x.toInt ≤ 6) := by
  by_cases h : 0 ≤ x.toInt ∧ x.toInt ≤ 6
  · have h2 : x.toInt = 0 ∨ x.toInt = 1 ∨ x.toInt = 2 ∨ x.toInt = 3 ∨ x.toInt = 4 ∨ x.toInt = 5 ∨ x.toInt = 6 := by omega
    rcases h2 with q | q | q | q | q | q | q
    · have e : x = 0 := Int32.toInt_inj.mp (q.trans li_0.symm)
      simp [e]
    · have e : x = 1 := Int32.toInt_inj.mp (q.trans li_1.symm)
      simp [e]
    · have e : x = 2 := Int32.toInt_inj.mp (q.trans li_2.symm)
      simp [e]
    · have e : x = 3 := Int32.toInt_inj.mp (q.trans li_3.symm)
      simp [e]
    · have e : x = 4 := Int32.toInt_inj.mp (q.trans li_4.symm)
      simp [e]
    · have e : x = 5 := Int32.toInt_inj.mp (q.trans li_5.symm)
      simp [e]
    · have e : x = 6 := Int32.toInt_inj.mp (q.trans li_6.symm)
      simp [e]
  · simp [h]

theorem sp_0_0 (x : Int32) : x = 0 ∨ ¬ (0 ≤ x.toInt ∧ x.toInt ≤ 0) := by
  by_cases h : 0 ≤ x.toInt ∧ x.toInt ≤ 0
  · have h2 : x.toInt = 0 := by omega
    have q := h2
    · have e : x = 0 := Int32.toInt_inj.mp (q.trans li_0.symm)
      simp [e]
  · simp [h]

def f_row (r n : Int32) : Int32 := if (0 ≤ r.toInt ∧ r.toInt ≤ 5) ∧ n.toInt ≤ 40 then (if n.toInt < 0 then -3 else n) else -1
def f_lay (r i v : Int32) : Int32 := if (0 ≤ r.toInt ∧ r.toInt ≤ 5) then -3 else -1
def f_at (r i : Int32) : Int32 := if (0 ≤ r.toInt ∧ r.toInt ≤ 5) then -3 else -1
def f_tear (r : Int32) : Int32 := if (0 ≤ r.toInt ∧ r.toInt ≤ 5) then -3 else -1
def f_copy (r i to j n : Int32) : Int32 := if (0 ≤ r.toInt ∧ r.toInt ≤ 5) ∧ (0 ≤ to.toInt ∧ to.toInt ≤ 5) then -3 else -1
def f_mean (r : Int32) : Int32 := if (0 ≤ r.toInt ∧ r.toInt ≤ 5) then -3 else -1
def f_text (r n : Int32) : Int32 := if (0 ≤ r.toInt ∧ r.toInt ≤ 3) ∧ n.toInt ≤ 40 then (if n.toInt < 0 then -3 else n) else -1
def f_put (r i v : Int32) : Int32 := if (0 ≤ r.toInt ∧ r.toInt ≤ 3) then -3 else -1
def f_stuff (a b c d : Int32) : Int32 := if (0 ≤ a.toInt ∧ a.toInt ≤ 9) ∧ (1 ≤ b.toInt ∧ b.toInt ≤ 99) ∧ (1 ≤ c.toInt ∧ c.toInt ≤ 99) ∧ (0 ≤ d.toInt ∧ d.toInt ≤ 5) then 0 else -1
def f_stuffs (r : Int32) : Int32 := if (0 ≤ r.toInt ∧ r.toInt ≤ 5) then -3 else -1
def f_debt (a b : Int32) : Int32 := -1
def f_making (a b c d e f g : Int32) : Int32 := -1
def f_about (a b : Int32) : Int32 := -1
def f_told (a b : Int32) : Int32 := -1
def f_mark (a b : Int32) : Int32 := -1
def f_fault (r : Int32) : Int32 := if (0 ≤ r.toInt ∧ r.toInt ≤ 3) then -3 else -1
def f_laws (l r : Int32) : Int32 := if (0 ≤ l.toInt ∧ l.toInt ≤ 3) ∧ (0 ≤ r.toInt ∧ r.toInt ≤ 3) then -3 else -1
def f_law (r : Int32) : Int32 := if (0 ≤ r.toInt ∧ r.toInt ≤ 3) then -3 else -1
def f_inside (a b : Int32) : Int32 := -1
def f_now (a b c : Int32) : Int32 := -1
def f_whose (a b c d e : Int32) : Int32 := -1
def f_owners (a b c d : Int32) : Int32 := -1
def f_changes (a b c d : Int32) : Int32 := -1
def f_lost (a b c d : Int32) : Int32 := -1
def f_beside (l r a : Int32) : Int32 := if (0 ≤ l.toInt ∧ l.toInt ≤ 3) ∧ (0 ≤ r.toInt ∧ r.toInt ≤ 3) ∧ (0 ≤ a.toInt ∧ a.toInt ≤ 15) then -3 else -1
def f_undo (a b : Int32) : Int32 := -1
def f_sure (a b c d : Int32) : Int32 := -1
def f_hangs (a b c d : Int32) : Int32 := -1
def f_sly (a b c d : Int32) : Int32 := -1
def f_stop (a b c d : Int32) : Int32 := -1
def f_inTime (a b c : Int32) : Int32 := -1
def f_heap (a b c : Int32) : Int32 := if (0 ≤ a.toInt ∧ a.toInt ≤ 3) ∧ (0 ≤ b.toInt ∧ b.toInt ≤ 5) ∧ (1 ≤ c.toInt ∧ c.toInt ≤ 99) then 1 else -1
def f_draw (a b c d : Int32) : Int32 := if (0 ≤ a.toInt ∧ a.toInt ≤ 3) ∧ (0 ≤ b.toInt ∧ b.toInt ≤ 5) ∧ (1 ≤ c.toInt ∧ c.toInt ≤ 999) ∧ (0 ≤ d.toInt ∧ d.toInt ≤ 2) then -3 else -1
def f_left (a b : Int32) : Int32 := if (0 ≤ a.toInt ∧ a.toInt ≤ 3) ∧ (0 ≤ b.toInt ∧ b.toInt ≤ 5) then 0 else -1
def f_layer (r i : Int32) : Int32 := if (0 ≤ r.toInt ∧ r.toInt ≤ 3) then -3 else -1
def f_asked : Int32 := 0
def f_count (a : Int32) : Int32 := if (0 ≤ a.toInt ∧ a.toInt ≤ 6) then 0 else -1
def f_finding : Int32 := 0
def f_findings (a : Int32) : Int32 := if (1 ≤ a.toInt ∧ a.toInt ≤ 5) then 0 else -1
