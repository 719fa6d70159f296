theorem cX_1 (τ : St) (q : Nat) (kk : Int32) : f_X5_compute τ q 1 kk = f_X2_put τ q kk := by
  unfold f_X5_compute
  rw [if_pos rfl]
theorem cX_2 (τ : St) (q : Nat) (kk : Int32) : f_X5_compute τ q 2 kk = f_X2_put τ q (f_X2_word τ q kk) := by
  unfold f_X5_compute
  rw [if_neg (show ¬ (2 : Int32) = 1 by decide), if_pos rfl]
theorem cX_3 (τ : St) (q : Nat) (kk : Int32) : f_X5_compute τ q 3 kk = f_X2_drop (f_X2_setWord τ q kk (gI τ 5 q 5)) q := by
  unfold f_X5_compute
  rw [if_neg (show ¬ (3 : Int32) = 1 by decide), if_neg (show ¬ (3 : Int32) = 2 by decide), if_pos rfl]
theorem cX_4 (τ : St) (q : Nat) (kk : Int32) : f_X5_compute τ q 4 kk = f_X2_replaceTwo τ q ((gI τ 5 q 6) + (gI τ 5 q 5)) := by
  unfold f_X5_compute
  rw [if_neg (show ¬ (4 : Int32) = 1 by decide), if_neg (show ¬ (4 : Int32) = 2 by decide), if_neg (show ¬ (4 : Int32) = 3 by decide), if_pos rfl]
theorem cX_5 (τ : St) (q : Nat) (kk : Int32) : f_X5_compute τ q 5 kk = f_X2_replaceTwo τ q ((gI τ 5 q 6) - (gI τ 5 q 5)) := by
  unfold f_X5_compute
  rw [if_neg (show ¬ (5 : Int32) = 1 by decide), if_neg (show ¬ (5 : Int32) = 2 by decide), if_neg (show ¬ (5 : Int32) = 3 by decide), if_neg (show ¬ (5 : Int32) = 4 by decide), if_pos rfl]
theorem cX_6 (τ : St) (q : Nat) (kk : Int32) : f_X5_compute τ q 6 kk = f_X2_replaceTwo τ q ((gI τ 5 q 6) * (gI τ 5 q 5)) := by
  unfold f_X5_compute
  rw [if_neg (show ¬ (6 : Int32) = 1 by decide), if_neg (show ¬ (6 : Int32) = 2 by decide), if_neg (show ¬ (6 : Int32) = 3 by decide), if_neg (show ¬ (6 : Int32) = 4 by decide), if_neg (show ¬ (6 : Int32) = 5 by decide), if_pos rfl]
theorem cX_7 (τ : St) (q : Nat) (kk : Int32) : f_X5_compute τ q 7 kk = (if gI τ 5 q 6 ≤ gI τ 5 q 5 then f_X2_replaceTwo τ q 0 else f_X2_replaceTwo τ q 1) := by
  unfold f_X5_compute
  rw [if_neg (show ¬ (7 : Int32) = 1 by decide), if_neg (show ¬ (7 : Int32) = 2 by decide), if_neg (show ¬ (7 : Int32) = 3 by decide), if_neg (show ¬ (7 : Int32) = 4 by decide), if_neg (show ¬ (7 : Int32) = 5 by decide), if_neg (show ¬ (7 : Int32) = 6 by decide), if_pos rfl]
theorem cX_12 (τ : St) (q : Nat) (kk : Int32) : f_X5_compute τ q 12 kk = f_X2_put τ q (gI τ 0 0 7) := by
  unfold f_X5_compute
  rw [if_neg (show ¬ (12 : Int32) = 1 by decide), if_neg (show ¬ (12 : Int32) = 2 by decide), if_neg (show ¬ (12 : Int32) = 3 by decide), if_neg (show ¬ (12 : Int32) = 4 by decide), if_neg (show ¬ (12 : Int32) = 5 by decide), if_neg (show ¬ (12 : Int32) = 6 by decide), if_neg (show ¬ (12 : Int32) = 7 by decide), if_neg (show ¬ (12 : Int32) = 8 by decide), if_neg (show ¬ (12 : Int32) = 9 by decide), if_neg (show ¬ (12 : Int32) = 10 by decide), if_neg (show ¬ (12 : Int32) = 11 by decide), if_pos rfl]
theorem vM_4 (σ : St) (y z : Int32) : f_X6_value σ 4 y z = z + y := by
  unfold f_X6_value
  rw [if_pos rfl]
theorem vM_5 (σ : St) (y z : Int32) : f_X6_value σ 5 y z = z - y := by
  unfold f_X6_value
  rw [if_neg (show ¬ (5 : Int32) = 4 by decide), if_pos rfl]
theorem vM_6 (σ : St) (y z : Int32) : f_X6_value σ 6 y z = z * y := by
  unfold f_X6_value
  rw [if_neg (show ¬ (6 : Int32) = 4 by decide), if_neg (show ¬ (6 : Int32) = 5 by decide), if_pos rfl]
theorem vM_7 (σ : St) (y z : Int32) : f_X6_value σ 7 y z = (if z ≤ y then 0 else 1) := by
  unfold f_X6_value
  rw [if_neg (show ¬ (7 : Int32) = 4 by decide), if_neg (show ¬ (7 : Int32) = 5 by decide), if_neg (show ¬ (7 : Int32) = 6 by decide)]
theorem op_at {B N p : Nat} {α β : St} (h : S0 B α β) (hm : okM N β) (hp : p < 8) (hs : ¬ gI α 5 p 2 = 0) : gI α 5 p 4 = nI (plN β p) ∧ (lN0 β ≤ plN β p → f_X3_opAt α (gI α 5 p 4) = 0) ∧ (plN β p < lN0 β → f_X3_opAt α (gI α 5 p 4) = gI β 14 0 (2 * plN β p) ∧ f_X3_operandAt α (gI α 5 p 4) = gI β 14 0 (2 * plN β p + 1)) := by
  have hpl := hm.2.2.1 p hp
  have hl := hm.1
  have e4 : gI α 5 p 4 = nI (plN β p) := ((h.1 p hp).2.2.1 hs).trans hpl.1
  have eL : gI α 1 0 2 = nI (lN0 β) := h.2.1.2.1.trans hl.1
  have h1 := hpl.2
  have h2 := hl.2
  refine ⟨e4, fun hge => ?_, fun hlt => ?_⟩
  · rw [e4]
    unfold f_X3_opAt f_X3_holds
    rw [eL, if_neg (nI_pos (by omega)), if_pos (nI_le hge (by omega)), if_pos rfl]
  · have hh : f_X3_holds α (nI (plN β p)) = 1 := by
      unfold f_X3_holds
      rw [eL, if_neg (nI_pos (by omega)), if_neg (nI_ge hlt (by omega)), if_neg (show ¬ (40 : Int32) ≤ nI (plN β p) from nI_ge (b := 40) (by omega) (by decide))]
    rw [e4]
    unfold f_X3_opAt f_X3_operandAt
    rw [hh, if_neg (show ¬ (1 : Int32) = 0 by decide), if_neg (show ¬ (1 : Int32) = 0 by decide), nI_clamp (by omega)]
    exact h.2.1.2.2.1 (plN β p) (by omega)
section EXC
variable {B N p pl : Nat} {τ β1 : St} {kk : Int32}
theorem op_val (h : Pre B p pl τ β1) {v w : Int32} (hv : v = w) : S0 (B + 1) (sI (f_X2_replaceTwo τ p v) 5 p 4 (gI (f_X2_replaceTwo τ p v) 5 p 4 + 1)) (sI (sI (sI β1 17 0 p (nI pl + 1)) 18 0 (7 * p) w) 18 0 (7 * p + 1) (gI (sI (sI β1 17 0 p (nI pl + 1)) 18 0 (7 * p) w) 18 0 (7 * p + 2))) := by
  subst hv
  exact S0_mono (by omega) (op_rep h _)
theorem exCore (h : Pre B p pl τ β1) (hB : B < 2 ^ 30) (hM : okMg N β1) (hN : N < 2 ^ 30) (hd : gI τ 5 p 9 = gI β1 13 0 12) {oo : Nat} (ho : oo < 16) (h4 : oo = 2 ∨ oo = 3 ∨ oo = 10 ∨ oo = 11 → ∃ c, c < 4 ∧ kk = nI c) (h14 : oo = 14 → ∃ c, c < 80 ∧ kk = nI c) : S0 (B + 1) (exX τ p (nI oo) kk) (if nI oo = 0 then sI β1 15 0 p 5 else inM (sI β1 17 0 p (nI pl + 1)) p (nI oo) kk (gI β1 18 0 (7 * p)) kk.toNatClampNeg) := by
  have e5 : gI τ 5 p 5 = gI β1 18 0 (7 * p) := (h.1.1 p h.2.1).2.2.2.1
  have e6 : gI τ 5 p 6 = gI β1 18 0 (7 * p + 1) := (h.1.1 p h.2.1).2.2.2.2.1
  have e7 : gI τ 0 0 7 = gI β1 13 0 11 := h.1.2.1.1
  by_cases h0 : oo = 0
  · subst h0
    rw [show nI 0 = 0 from rfl, if_pos rfl, exX_0]
    exact S0_mono (by omega) (op_state h 5 (by decide) (by decide))
  rw [if_neg (nI_ne0 (by omega) (by omega))]
  rcases (show oo = 1 ∨ oo = 2 ∨ oo = 3 ∨ oo = 4 ∨ oo = 5 ∨ oo = 6 ∨ oo = 7 ∨ oo = 8 ∨ oo = 9 ∨ oo = 10 ∨ oo = 11 ∨ oo = 12 ∨ oo = 13 ∨ oo = 14 ∨ oo = 15 by omega) with rfl | rfl | rfl | rfl | rfl | rfl | rfl | rfl | rfl | rfl | rfl | rfl | rfl | rfl | rfl
  · rw [show nI 1 = 1 from rfl, exX_1, cX_1, inM_1]
    exact S0_mono (by omega) (op_put h _)
  · obtain ⟨c, hc, rfl⟩ := h4 (by omega)
    rw [show nI 2 = 2 from rfl, exX_2, cX_2, inM_2]
    exact S0_mono (by omega) (op_load h hc)
  · obtain ⟨c, hc, rfl⟩ := h4 (by omega)
    rw [show nI 3 = 3 from rfl, exX_3, cX_3, inM_3]
    exact S0_mono (by omega) (op_store h hc)
  · rw [show nI 4 = 4 from rfl, exX_4, cX_4, inM_4, vM_4]
    exact op_val h (by rw [e5, e6]; rfl)
  · rw [show nI 5 = 5 from rfl, exX_5, cX_5, inM_5, vM_5]
    exact op_val h (by rw [e5, e6]; rfl)
  · rw [show nI 6 = 6 from rfl, exX_6, cX_6, inM_6, vM_6]
    exact op_val h (by rw [e5, e6]; rfl)
  · rw [show nI 7 = 7 from rfl, exX_7, cX_7, inM_7, vM_7]
    have e6' : gI (sI β1 17 0 p (nI pl + 1)) 18 0 (7 * p + 1) = gI β1 18 0 (7 * p + 1) := rfl
    rw [e5, e6, e6']
    by_cases hc : gI β1 18 0 (7 * p + 1) ≤ gI β1 18 0 (7 * p)
    · rw [if_pos hc, if_pos hc]; exact op_val h rfl
    · rw [if_neg hc, if_neg hc]; exact op_val h rfl
  · rw [show nI 8 = 8 from rfl, exX_8, inM_8]
    exact op_jump h hB hd
  · rw [show nI 9 = 9 from rfl, exX_9, inM_9]
    exact S0_mono (by omega) (op_jz h)
  · obtain ⟨c, hc, rfl⟩ := h4 (by omega)
    rw [show nI 10 = 10 from rfl, exX_10, inM_10, chanAt hc, oC_some, nI_clamp (by omega)]
    exact op_send h hB hM hN hc
  · obtain ⟨c, hc, rfl⟩ := h4 (by omega)
    rw [show nI 11 = 11 from rfl, exX_11, inM_11, chanAt hc, oC_some, nI_clamp (by omega)]
    exact op_receive h hB hM hN hc
  · rw [show nI 12 = 12 from rfl, exX_12, cX_12, inM_12, e7]
    exact S0_mono (by omega) (op_put h _)
  · rw [show nI 13 = 13 from rfl, exX_13, inM_13]
    exact S0_mono (by omega) (op_await h)
  · obtain ⟨c, hc, rfl⟩ := h14 rfl
    have ea : (nI c &&& 1) = nI (c % 2) := pk_andN (m := 1) (by omega) 1 (by decide)
    have er : nI c - nI c / 2 * 2 = nI (c % 2) := pk_rem (d := 2) (by omega) (by decide) (by decide)
    rw [show nI 14 = 14 from rfl, exX_14, inM_14, er, e5, ea]
    rcases (show c % 2 = 0 ∨ c % 2 = 1 by omega) with e | e
    · rw [e, if_pos (show nI 0 = 0 from rfl)]
      exact op_start h hB (Or.inl rfl)
    · rw [e, if_neg (show ¬ nI 1 = 0 by decide)]
      exact op_start h hB (Or.inr rfl)
  · rw [show nI 15 = 15 from rfl, exX_15, inM_15]
    exact S0_mono (by omega) (op_end h)
theorem exec_sim {α β : St} (h : S0 B α β) (hm : okM N β) (hN : N < 2 ^ 30) (hB : B < 2 ^ 30) (hp : p < 8) (h2 : gI α 5 p 2 = 2) (hd : gI α 5 p 9 = gI β 13 0 12) : S0 (B + 1) (f_X5_execute α p) (f_X6_instruction β p) := by
  obtain ⟨e4, a1, a2⟩ := op_at h hm hp (by rw [h2]; decide)
  have hpl := hm.2.2.1 p hp
  have hl := hm.1
  have h40 := hl.2
  have hpl40 := hpl.2
  have hPre : Pre B p (plN β p) (sI α 5 p 9 (gI α 5 p 9 + 1)) (sI β 13 0 12 (gI β 13 0 12 + 1)) := by
    refine ⟨S0_done h hp, hp, ?_, ?_, hpl.1⟩
    · rw [gI_sI, if_neg (by omega)]; exact h2
    · rw [gI_sI, if_neg (by omega)]; exact e4
  have hdd : gI (sI α 5 p 9 (gI α 5 p 9 + 1)) 5 p 9 = gI (sI β 13 0 12 (gI β 13 0 12 + 1)) 13 0 12 := by
    rw [rdA, if_pos rfl, hd]; rfl
  rw [exX_eq, inM_eq]
  by_cases hlt : plN β p < lN0 β
  · obtain ⟨o1, o2⟩ := a2 hlt
    obtain ⟨q1, q2, q3, oo, ho, eo⟩ := hm.2.2.2.2 _ hlt
    rw [if_neg (nI_ge hlt (by omega)), o1, o2]
    have hc := exCore (N := N) (kk := gI β 14 0 (2 * plN β p + 1)) hPre hB hm.2.2.2.1 hN hdd ho (fun hx => q1 (by rw [eo]; rcases hx with rfl | rfl | rfl | rfl <;> decide)) (fun hx => q3 (by rw [eo, hx]; rfl))
    rw [eo]
    exact hc
  · rw [if_pos (nI_le (by omega) (by omega)), a1 (by omega), exX_0]
    exact S0_mono (by omega) (op_state hPre 5 (by decide) (by decide))
end EXC
