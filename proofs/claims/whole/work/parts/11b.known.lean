/-- the names of the classes, and of the arrays' classes -/
theorem law_known {s : State} {sb : Nat} (hts0 : ∀ w ∈ lw_tbl, w.before #[Value.ref sb] s = true) : ∃ (D : va_G) (cs : Nat → ClassId), va_K D vwCl (tyx cs) s ∧ va_AO RX2 s ∧ va_AO RX0 s := by
  have hts : ∀ w ∈ T0, w.before #[Value.ref sb] s = true := fun w h => hts0 w (T0_in h)
  obtain ⟨c0, i0, k0⟩ := u_known (C := RX0) (T := TX0) (N := 4) hts inX0 (hts _ wn_X0)
  obtain ⟨c1, i1, k1⟩ := u_known (C := RX1) (T := TX1) (N := 2) hts inX1 (hts _ wn_X1)
  obtain ⟨c2, i2, k2⟩ := u_known (C := RX2) (T := TX2) (N := 10) hts inX2 (hts _ wn_X2)
  obtain ⟨c3, i3, k3⟩ := u_known (C := RX3) (T := TX3) (N := 3) hts inX3 (hts _ wn_X3)
  obtain ⟨c4, i4, k4⟩ := u_known (C := RX4) (T := TX4) (N := 2) hts inX4 (hts _ wn_X4)
  obtain ⟨c5, i5, k5⟩ := u_known (C := RX5) (T := TX5) (N := 8) hts inX5 (hts _ wn_X5)
  obtain ⟨c6, i6, k6⟩ := u_known (C := RX6) (T := TX6) (N := 16) hts inX6 (hts _ wn_X6)
  obtain ⟨a0, ka0, p0, f0, g0, q0⟩ := Cond.arrayClass_spec (hts _ wA_int)
  have o2 : va_AO RX2 s := hts0 _ wO_X2
  have o0 : va_AO RX0 s := hts0 _ wO_X0
  obtain ⟨p1, a1, ka1, f1, -, g1, q1, r1⟩ := Cond.arrayOver_spec (hts0 _ wO_X2)
  obtain ⟨p2, a2, ka2, f2, -, g2, q2, r2⟩ := Cond.arrayOver_spec (hts0 _ wO_X0)
  refine ⟨(fun k => match k with | 0 => c0 | 1 => c1 | 2 => c2 | 3 => c3 | 4 => c4 | 5 => c5 | _ => c6, fun k => match k with | 0 => i0 | 1 => i1 | 2 => i2 | 3 => i3 | 4 => i4 | 5 => i5 | _ => i6), fun k => match k with | 0 => a0 | 1 => a1 | _ => a2, ⟨?_, ?_⟩, o2, o0⟩
  · intro k q hq
    match k, hq with
    | 0, hq => cases hq; exact k0
    | 1, hq => cases hq; exact k1
    | 2, hq => cases hq; exact k2
    | 3, hq => cases hq; exact k3
    | 4, hq => cases hq; exact k4
    | 5, hq => cases hq; exact k5
    | 6, hq => cases hq; exact k6
    | k + 7, hq => simp [vwCl] at hq
  · intro k q hq
    match k, hq with
    | 0, hq => cases hq; exact ⟨fun n z => ⟨fun k h => (by cases h), ka0, g0, p0, q0⟩, f0⟩
    | 1, hq => cases hq; exact ⟨fun n z => ⟨fun k h => (by cases h), ka1, g1, p1, q1⟩, ka1, p1, g1, q1, f1, r1⟩
    | 2, hq => cases hq; exact ⟨fun n z => ⟨fun k h => (by cases h), ka2, g2, p2, q2⟩, ka2, p2, g2, q2, f2, r2⟩
    | k + 3, hq => simp [tyx] at hq
