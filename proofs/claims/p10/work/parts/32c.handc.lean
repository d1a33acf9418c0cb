/-! ===== the class's calls by hand: addMaking ===== -/
theorem nx_u1 (s : nx_S) (q : Nat) (f : Nat → Int32) : (nx_ui s q f).1 q = f := by
  show (if q = q then f else s.1 q) = f
  rw [if_pos rfl]
theorem nx_uu (s : nx_S) (q : Nat) (f g : Nat → Int32) : nx_ui (nx_ui s q f) q g = nx_ui s q g := by
  have e : (fun r => if r = q then g else (if r = q then f else s.1 r)) = (fun r => if r = q then g else s.1 r) := by
    funext r
    by_cases h : r = q
    · rw [if_pos h, if_pos h]
    · rw [if_neg h, if_neg h, if_neg h]
  show ((fun r => if r = q then g else (if r = q then f else s.1 r)), s.2) = ((fun r => if r = q then g else s.1 r), s.2)
  rw [e]
theorem upd_s (f : Nat → Int32) (k : Nat) (x : Int32) : upd f k x k = x := if_pos rfl
theorem upd_n (f : Nat → Int32) {k j : Nat} (x : Int32) (h : j ≠ k) : upd f k x j = f j := if_neg h
theorem i_add {a b : Int32} (h1 : -2147483648 ≤ a.toInt + b.toInt) (h2 : a.toInt + b.toInt ≤ 2147483647) : (a + b).toInt = a.toInt + b.toInt := by
  rw [Int32.toInt_add, na_bm h1 h2]
theorem i_mul {a b : Int32} {z : Int} (hz : a.toInt * b.toInt = z) (h1 : -2147483648 ≤ z) (h2 : z ≤ 2147483647) : (a * b).toInt = z := by
  rw [Int32.toInt_mul, hz, na_bm h1 h2]
noncomputable def am_f (f : Nat → Int32) (m : Nat) (a b c d e g h : Int32) : Nat → Int32 := upd (upd (upd (upd (upd (upd (upd f (7 * m + 0) a) (7 * m + 1) b) (7 * m + 2) c) (7 * m + 3) d) (7 * m + 4) e) (7 * m + 5) g) (7 * m + 6) h
theorem am_o (f : Nat → Int32) (m : Nat) (a b c d e g h : Int32) {k j : Nat} (hk : k ≠ m) (hj : j < 7) : am_f f m a b c d e g h (7 * k + j) = f (7 * k + j) := by
  unfold am_f
  rw [upd_n _ _ (by omega), upd_n _ _ (by omega), upd_n _ _ (by omega), upd_n _ _ (by omega), upd_n _ _ (by omega), upd_n _ _ (by omega), upd_n _ _ (by omega)]
theorem am_i (f : Nat → Int32) (m : Nat) (a b c d e g h : Int32) : am_f f m a b c d e g h (7 * m + 0) = a ∧ am_f f m a b c d e g h (7 * m + 1) = b ∧ am_f f m a b c d e g h (7 * m + 2) = c ∧ am_f f m a b c d e g h (7 * m + 3) = d ∧ am_f f m a b c d e g h (7 * m + 4) = e ∧ am_f f m a b c d e g h (7 * m + 5) = g ∧ am_f f m a b c d e g h (7 * m + 6) = h := by
  unfold am_f
  refine ⟨?_, ?_, ?_, ?_, ?_, ?_, ?_⟩
  · rw [upd_n _ _ (by omega), upd_n _ _ (by omega), upd_n _ _ (by omega), upd_n _ _ (by omega), upd_n _ _ (by omega), upd_n _ _ (by omega), upd_s]
  · rw [upd_n _ _ (by omega), upd_n _ _ (by omega), upd_n _ _ (by omega), upd_n _ _ (by omega), upd_n _ _ (by omega), upd_s]
  · rw [upd_n _ _ (by omega), upd_n _ _ (by omega), upd_n _ _ (by omega), upd_n _ _ (by omega), upd_s]
  · rw [upd_n _ _ (by omega), upd_n _ _ (by omega), upd_n _ _ (by omega), upd_s]
  · rw [upd_n _ _ (by omega), upd_n _ _ (by omega), upd_s]
  · rw [upd_n _ _ (by omega), upd_s]
  · rw [upd_s]
theorem am_PM {f : Nat → Int32} {m : Nat} {a b c d e g h : Int32} (hf : nx_PM f) (ha : 0 ≤ a.toInt ∧ a.toInt ≤ 6) (hb : 0 ≤ b.toInt ∧ b.toInt ≤ 15) (hc : 0 ≤ c.toInt ∧ c.toInt ≤ 99) (hd : 0 ≤ d.toInt ∧ d.toInt ≤ 5) (he : 0 ≤ e.toInt ∧ e.toInt ≤ 99) (hg : 0 ≤ g.toInt ∧ g.toInt ≤ 5) (hh : 0 ≤ h.toInt ∧ h.toInt ≤ 1) (hr : c.toInt ≤ 15 ∨ (a.toInt = 6 ∧ h.toInt = 0)) : nx_PM (am_f f m a b c d e g h) := by
  obtain ⟨i0, i1, i2, i3, i4, i5, i6⟩ := am_i f m a b c d e g h
  intro k hk
  by_cases e1 : k = m
  · subst e1
    refine ⟨fun j hj => ?_, ?_⟩
    · match j, hj with
      | 0, _ => rw [i0]; exact ha
      | 1, _ => rw [i1]; exact hb
      | 2, _ => rw [i2]; exact hc
      | 3, _ => rw [i3]; exact hd
      | 4, _ => rw [i4]; exact he
      | 5, _ => rw [i5]; exact hg
      | 6, _ => rw [i6]; exact hh
      | j + 7, hj => omega
    · rw [i0, i2, i6]
      exact hr
  · refine ⟨fun j hj => ?_, ?_⟩
    · rw [am_o _ _ _ _ _ _ _ _ _ e1 hj]
      exact (hf k hk).1 j hj
    · rw [am_o _ _ _ _ _ _ _ _ _ e1 (by omega), am_o _ _ _ _ _ _ _ _ _ e1 (by omega), am_o _ _ _ _ _ _ _ _ _ e1 (by omega)]
      exact (hf k hk).2
theorem am_ix {M : Int32} {j : Int32} (h0 : 0 ≤ M.toInt) (h1 : M.toInt ≤ 11) (j0 : 0 ≤ j.toInt) (j1 : j.toInt ≤ 6) : 0 ≤ (M * 7 + j).toInt ∧ (M * 7 + j).toInt < 84 ∧ (M * 7 + j).toNatClampNeg = 7 * M.toNatClampNeg + j.toNatClampNeg := by
  have e := (nx_i7 h0 h1 j0 j1).1
  have em : M.toInt.toNat = M.toNatClampNeg := Int32.toNat_toInt M
  have ej : j.toInt.toNat = j.toNatClampNeg := Int32.toNat_toInt j
  exact ⟨by omega, by omega, nx_cl (by omega)⟩
set_option maxRecDepth 100000 in
set_option maxHeartbeats 8000000 in
theorem am_C (Q : nk_Q) (s : nx_S) (K S V MK W KN PT : Int32) (hInv : nx_Inv gC s) (hM : (s.2.2.1 3 3).toInt ≤ 11) (hK : 0 ≤ K.toInt ∧ K.toInt ≤ 6) (hS : 0 ≤ S.toInt ∧ S.toInt ≤ 15) (hV : K = 0 ∨ K = 4 ∨ (0 ≤ V.toInt ∧ (V.toInt ≤ 15 ∨ (K = 6 ∧ V.toInt ≤ 99)))) (hMK : 0 ≤ MK.toInt ∧ MK.toInt ≤ 5) (hW : 0 ≤ W.toInt ∧ W.toInt ≤ 99) (hKN : 0 ≤ KN.toInt ∧ KN.toInt ≤ 5) (hq : ∀ f : Nat → Int32, nx_PM f → Q (some (.int (s.2.2.1 3 3 + 1 - 1))) (nx_enc (nx_uf (nx_ui s 5 f) 3 3 (s.2.2.1 3 3 + 1)) 0 shC)) : ev_X4_addMaking [.ref 3, .int K, .int S, .int V, .int MK, .int W, .int KN, .int PT] (nx_enc s 0 shC) Q := by
  have hM0 : 0 ≤ (s.2.2.1 3 3).toInt := (hInv.1 3 (3, 3) (0, 12) rfl rfl).1
  have hPM := hInv.2.2.1
  refine nx_s (nx_s ?_)
  show nk_wp kx_X4_addMaking kc_X4_addMaking Q 4 [some (.ref 3), some (.int K), some (.int S), some (.int V), some (.int MK), some (.int W), some (.int KN), some (.int PT), none] [.int (s.2.2.1 3 3)] (nx_enc s 0 shC) 0 0
  have hq2 : ∀ M : Int32, M = s.2.2.1 3 3 → ∀ f : Nat → Int32, nx_PM f → nk_wp kx_X4_addMaking kc_X4_addMaking Q 115 [some (.ref 3), some (.int K), some (.int S), some (.int V), some (.int MK), some (.int W), some (.int KN), some (.int PT), some (.int (M * 7))] [] (nx_enc (nx_ui s 5 f) 0 shC) 0 0 := by
    intro M hMe f hf
    refine nx_s (nx_s (nx_s (nx_s (nx_s (nx_s (nx_s (nx_s (nx_s (nx_s (nx_s ?_))))))))))
    exact hq f hf
  have key := hq2 (s.2.2.1 3 3) rfl
  generalize s.2.2.1 3 3 = M at hM hM0 key ⊢
  obtain ⟨a0, b0, c0⟩ := am_ix (j := 0) hM0 hM (by decide) (by decide)
  obtain ⟨a1, b1, c1⟩ := am_ix (j := 1) hM0 hM (by decide) (by decide)
  obtain ⟨a2, b2, c2⟩ := am_ix (j := 2) hM0 hM (by decide) (by decide)
  obtain ⟨a3, b3, c3⟩ := am_ix (j := 3) hM0 hM (by decide) (by decide)
  obtain ⟨a4, b4, c4⟩ := am_ix (j := 4) hM0 hM (by decide) (by decide)
  obtain ⟨a5, b5, c5⟩ := am_ix (j := 5) hM0 hM (by decide) (by decide)
  obtain ⟨a6, b6, c6⟩ := am_ix (j := 6) hM0 hM (by decide) (by decide)
  have tail : ∀ (c : Int32) (f : Nat → Int32), 0 ≤ c.toInt → c.toInt ≤ 99 → (c.toInt ≤ 15 ∨ K = 6) → f = upd (upd (upd (s.1 5) (7 * M.toNatClampNeg + 0) K) (7 * M.toNatClampNeg + 1) S) (7 * M.toNatClampNeg + 2) c → nk_wp kx_X4_addMaking kc_X4_addMaking Q 52 [some (.ref 3), some (.int K), some (.int S), some (.int V), some (.int MK), some (.int W), some (.int KN), some (.int PT), some (.int (M * 7))] [] (nx_enc (nx_ui s 5 f) 0 shC) 0 0 := by
    intro c f hc0 hc1 hc2 hf
    have last : ∀ h : Int32, (h = 0 ∨ (h = 1 ∧ K ≠ 6)) → nk_wp kx_X4_addMaking kc_X4_addMaking Q 115 [some (.ref 3), some (.int K), some (.int S), some (.int V), some (.int MK), some (.int W), some (.int KN), some (.int PT), some (.int (M * 7))] [] (nx_enc (nx_ui s 5 (am_f (s.1 5) M.toNatClampNeg K S c MK W KN h)) 0 shC) 0 0 := by
      intro h hh
      refine key _ (am_PM hPM hK hS ⟨hc0, hc1⟩ hMK hW hKN ?_ ?_)
      · rcases hh with e | e
        · rw [e]; decide
        · rw [e.1]; decide
      · rcases hc2 with e | e
        · exact Or.inl e
        · rcases hh with e2 | e2
          · exact Or.inr ⟨by rw [e]; rfl, by rw [e2]; rfl⟩
          · exact absurd e e2.2
    refine nx_s (nx_s (nx_s (nx_s (nx_s (nx_s (nx_s ?_))))))
    refine ⟨nx_in (n := 84) a3 b3, ?_⟩
    refine nx_s (nx_s (nx_s (nx_s (nx_s (nx_s (nx_s ?_))))))
    refine ⟨nx_in (n := 84) a4 b4, ?_⟩
    refine nx_s (nx_s (nx_s (nx_s (nx_s (nx_s (nx_s ?_))))))
    refine ⟨nx_in (n := 84) a5 b5, ?_⟩
    rw [c3, c4, c5, nx_uu, nx_u1, nx_uu, nx_u1, nx_uu, nx_u1, hf]
    refine nx_s (nx_s (nx_s (nx_s (nx_s (nx_s (nx_s ?_))))))
    refine nk_br.mk (fun _ => ?_) (fun _ => ?_)
    · refine nx_s (nx_s ?_)
      refine ⟨nx_in (n := 84) a6 b6, ?_⟩
      rw [c6, nx_uu, nx_u1]
      exact last 0 (Or.inl rfl)
    · refine nx_s (nx_s (nx_s ?_))
      refine nk_br.mk (fun e => ?_) (fun _ => ?_)
      · refine nx_s (nx_s (nx_s ?_))
        refine ⟨nx_in (n := 84) a6 b6, ?_⟩
        rw [c6, nx_uu, nx_u1]
        exact last 1 (Or.inr ⟨rfl, by rw [e]; decide⟩)
      · refine nx_s (nx_s (nx_s ?_))
        refine nk_br.mk (fun e => ?_) (fun _ => ?_)
        · refine nx_s (nx_s (nx_s ?_))
          refine ⟨nx_in (n := 84) a6 b6, ?_⟩
          rw [c6, nx_uu, nx_u1]
          exact last 1 (Or.inr ⟨rfl, by rw [e]; decide⟩)
        · refine nx_s (nx_s ?_)
          refine ⟨nx_in (n := 84) a6 b6, ?_⟩
          rw [c6, nx_uu, nx_u1]
          exact last 0 (Or.inl rfl)
  refine nx_s (nx_s (nx_s ?_))
  refine nx_s (nx_s (nx_s (nx_s (nx_s (nx_s (nx_s ?_))))))
  refine ⟨nx_in (n := 84) a0 b0, ?_⟩
  refine nx_s (nx_s (nx_s (nx_s (nx_s (nx_s (nx_s ?_))))))
  refine ⟨nx_in (n := 84) a1 b1, ?_⟩
  rw [c0, c1, nx_uu, nx_u1]
  refine nx_s (nx_s (nx_s (nx_s (nx_s (nx_s (nx_s ?_))))))
  refine nk_br.mk (fun e => ?_) (fun e0 => ?_)
  · refine nx_s (nx_s (nx_s ?_))
    refine ⟨nx_in (n := 84) a2 b2, ?_⟩
    rw [c2, nx_uu, nx_u1]
    exact tail 0 _ (by decide) (by decide) (Or.inl (by decide)) rfl
  · refine nx_s (nx_s (nx_s ?_))
    refine nk_br.mk (fun e => ?_) (fun e4 => ?_)
    · refine nx_s (nx_s (nx_s ?_))
      refine ⟨nx_in (n := 84) a2 b2, ?_⟩
      rw [c2, nx_uu, nx_u1]
      exact tail 0 _ (by decide) (by decide) (Or.inl (by decide)) rfl
    · refine nx_s (nx_s ?_)
      refine ⟨nx_in (n := 84) a2 b2, ?_⟩
      rw [c2, nx_uu, nx_u1]
      rcases hV with h | h | h
      · exact absurd h e0
      · exact absurd h e4
      · rcases h.2 with h2 | h2
        · exact tail V _ h.1 (by omega) (Or.inl h2) rfl
        · exact tail V _ h.1 h2.2 (Or.inr h2.1) rfl
