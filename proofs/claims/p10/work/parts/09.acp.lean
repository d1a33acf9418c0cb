/-! ===== System.arraycopy over int arrays ===== -/
noncomputable def nk_acp : nk_Ev := fun as h Q => ∃ (q0 q1 : Nat) (sp dp n : Int32) (n0 n1 : Nat) (f g : Nat → Int32), as = [.ref q0, .int sp, .ref q1, .int dp, .int n] ∧ nk_lg h q0 = some (.inl (0, n0, .inl f)) ∧ nk_lg h q1 = some (.inl (0, n1, .inl g)) ∧ ¬ sp < 0 ∧ ¬ dp < 0 ∧ ¬ n < 0 ∧ sp.toNatClampNeg + n.toNatClampNeg ≤ n0 ∧ dp.toNatClampNeg + n.toNatClampNeg ≤ n1 ∧ Q none (h.set q1 (.inl (0, n1, .inl (va_cpy f g sp.toNatClampNeg dp.toNatClampNeg n.toNatClampNeg))))
theorem nk_callA {l : Launch} {R : Room} {own : String} {cc : ByteArray} {nL : Nat} {al : Bool} {x : Nat} (hli : Cond.methodLink own x arraycopyName ∈ nk_gw) (hnat : Cond.native arraycopyName ∈ nk_gw) (hst : Cond.static arraycopyName ∈ nk_gw) (hini : Cond.initialized "java/lang/System" ∈ nk_gw) (hR1 : 1 ≤ R.frames) (hR2 : 8 + (nativeFrameWords "java/lang/System" "arraycopy" 5 + 11) ≤ R.locals) :
    nk_CallOk l R own cc nL al (4 * x + 2) (5, 0, 0, 0, nk_acp) := by
  intro p e s m args below meth c D cA ad A n0 Q hB pc hdg L S as h cs sl K hn hrcv hcat hcs hsl hev kk H locs ls hP hD hS hnx hL
  obtain ⟨hx, hb, hml, hown, hts, hN, hK, hA, hSt, hlk, hax⟩ := hB
  obtain ⟨q0, q1, sp, dp, n, n1, n2, f, g, rfl, g0, g1, h1, h2, h3, h4, h5, hq⟩ := hev
  have hdg' : decode cc pc = .ok (.invokestatic x, 3) := by
    rw [hdg]
    have e1 : (4 * x + 2) % 4 = 2 := by omega
    have e2 : (4 * x + 2) / 4 = x := by omega
    simp [nk_kop, e1, e2]
  refine va_copyi (rest := S.map (nk_v ad)) hx hb (by rw [hml]; exact hL.2.1.symm) hown (hts _ hli) (hts _ hnat) (hts _ hst) (hts _ hini) hK hP hD (nk_S0 hS) q0 q1 0 0 (nk_w_at g0) (nk_w_at g1) (nk_tys_at rfl) (nk_tys_at rfl) rfl h1 h2 h3 h4 h5 (fun _ _ => rfl) hR1 ?_ hdg' (fun H1 locs1 hP1 hD1 hS1 => ?_)
  · rw [nk_cat_sum]
    omega
  · have he : (Sum.inl (cA 0, n2, .inl (va_cpy f g sp.toNatClampNeg dp.toNatClampNeg n.toNatClampNeg)) : va_E) = nk_o cA ad (.inl (0, n2, .inl (va_cpy f g sp.toNatClampNeg dp.toNatClampNeg n.toNatClampNeg))) := rfl
    rw [nk_w_st he] at hP1 hD1
    exact kk none _ hq H1 locs1 ls hP1 hD1 (nk_SS hS hS1) (nk_nxs hnx List.length_set hS1.1) hL
