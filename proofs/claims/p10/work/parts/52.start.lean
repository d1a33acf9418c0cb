/-! ===== the law from its entry ===== -/
set_option maxRecDepth 100000 in
set_option maxHeartbeats 4000000 in
theorem nl_known {s : State} {args : Array Value} (hts : ∀ w ∈ nk_gw, w.before args s = true) (hao : ∀ C ∈ nk_ao, va_AO C s) : ∃ (D : va_G) (cA : Nat → ClassId), va_K D nk_cl (nk_tys cA) s := by
  obtain ⟨c0, i0, k0⟩ := u_known (C := RX0) (T := TX0) (N := 15) (n := 15) hts cl_X0.1 (hts _ (nk_m (by decide +kernel)))
  obtain ⟨c1, i1, k1⟩ := u_known (C := RX1) (T := TX1) (N := 3) (n := 3) hts cl_X1.1 (hts _ (nk_m (by decide +kernel)))
  obtain ⟨c2, i2, k2⟩ := u_known (C := RX2) (T := TX2) (N := 1) (n := 1) hts cl_X2.1 (hts _ (nk_m (by decide +kernel)))
  obtain ⟨c3, i3, k3⟩ := u_known (C := RX3) (T := TX3) (N := 2) (n := 2) hts cl_X3.1 (hts _ (nk_m (by decide +kernel)))
  obtain ⟨c4, i4, k4⟩ := u_known (C := RX4) (T := TX4) (N := 4) (n := 4) hts cl_X4.1 (hts _ (nk_m (by decide +kernel)))
  obtain ⟨c5, i5, k5⟩ := u_known (C := RX5) (T := TX5) (N := 13) (n := 13) hts cl_X5.1 (hts _ (nk_m (by decide +kernel)))
  obtain ⟨c6, i6, k6⟩ := u_known (C := RX6) (T := TX6) (N := 32) (n := 32) hts cl_X6.1 (hts _ (nk_m (by decide +kernel)))
  obtain ⟨t0, ka0, co0, f0, g0, e0⟩ := Cond.arrayClass_spec (hts (Cond.arrayClass .int) (nk_m (by decide +kernel)))
  obtain ⟨t1, ka1, co1, f1, g1, e1⟩ := Cond.arrayClass_spec (hts (Cond.arrayClass .long) (nk_m (by decide +kernel)))
  obtain ⟨co2, t2, ka2, f2, -, g2, e2, n2⟩ := Cond.arrayOver_spec (va_AO.use (A := args) (hao "MarbleLaw$Row" (by decide +kernel)))
  obtain ⟨co3, t3, ka3, f3, -, g3, e3, n3⟩ := Cond.arrayOver_spec (va_AO.use (A := args) (hao "MarbleLaw$Heap" (by decide +kernel)))
  refine ⟨(fun k => match k with
    | 0 => c0
    | 1 => c1
    | 2 => c2
    | 3 => c3
    | 4 => c4
    | 5 => c5
    | _ => c6, fun k => match k with
    | 0 => i0
    | 1 => i1
    | 2 => i2
    | 3 => i3
    | 4 => i4
    | 5 => i5
    | _ => i6), fun k => match k with
    | 0 => t0
    | 1 => t1
    | 2 => t2
    | _ => t3, fun c q hq => ?_, fun k q hk => ?_⟩
  · match c, hq with
    | 0, hq => cases hq; exact k0
    | 1, hq => cases hq; exact k1
    | 2, hq => cases hq; exact k2
    | 3, hq => cases hq; exact k3
    | 4, hq => cases hq; exact k4
    | 5, hq => cases hq; exact k5
    | 6, hq => cases hq; exact k6
    | c + 7, hq => simp [nk_cl] at hq
  · match k, hk with
    | 0, hk => cases hk; exact ⟨fun n z => ⟨fun k h => (by cases h), ka0, g0, co0, e0⟩, f0⟩
    | 1, hk => cases hk; exact ⟨fun n z => ⟨fun k h => (by cases h), ka1, g1, co1, e1⟩, f1⟩
    | 2, hk => cases hk; exact ⟨fun n z => ⟨fun k h => (by cases h), ka2, g2, co2, e2⟩, ka2, co2, g2, e2, f2, n2⟩
    | 3, hk => cases hk; exact ⟨fun n z => ⟨fun k h => (by cases h), ka3, g3, co3, e3⟩, ka3, co3, g3, e3, f3, n3⟩
    | k + 4, hk => simp [nk_tyl] at hk
