/-! 'okM' is kept by all that a step of the model does -/
theorem okM_pl {N : Nat} {σ : St} {p a : Nat} {v : Int32} (hv : v = nI a) (ha : a ≤ 40) (hm : okM N σ) : okM N (sI σ 17 0 p v) := by
  obtain ⟨h1, h2, h3, h4, h5⟩ := hm
  refine ⟨h1, h2, fun q hq => ?_, h4, h5⟩
  by_cases hpq : q = p
  · subst hpq
    have e : gI (sI σ 17 0 q v) 17 0 q = nI a := by rw [gI_sI, if_pos ⟨rfl, rfl, rfl⟩, hv]
    have e2 : plN (sI σ 17 0 q v) q = a := by unfold plN; rw [e, nI_clamp (by omega)]
    rw [e, e2]; exact ⟨rfl, ha⟩
  · have e : gI (sI σ 17 0 p v) 17 0 q = gI σ 17 0 q := by rw [gI_sI, if_neg (fun z => hpq z.2.2)]
    have e2 : plN (sI σ 17 0 p v) q = plN σ q := by unfold plN; rw [e]
    rw [e, e2]; exact h3 q hq
theorem okM_ch {N : Nat} {σ : St} {k a : Nat} {v : Int32} (hv : v = nI a) (ha : a < 24) (hm : okM N σ) : okM N (sI σ 22 0 k v) := by
  obtain ⟨h1, h2, h3, h4, h5⟩ := hm
  refine ⟨h1, fun q hq => ?_, h3, h4, h5⟩
  by_cases hpq : q = k
  · subst hpq
    have e : gI (sI σ 22 0 q v) 22 0 q = nI a := by rw [gI_sI, if_pos ⟨rfl, rfl, rfl⟩, hv]
    have e2 : chN (sI σ 22 0 q v) q = a := by unfold chN; rw [e, nI_clamp (by omega)]
    rw [e, e2]; exact ⟨rfl, ha⟩
  · have e : gI (sI σ 22 0 k v) 22 0 q = gI σ 22 0 q := by rw [gI_sI, if_neg (fun z => hpq z.2.2)]
    have e2 : chN (sI σ 22 0 k v) q = chN σ q := by unfold chN; rw [e]
    rw [e, e2]; exact h2 q hq
theorem okM_mg {N a : Nat} {σ : St} {v : Int32} (hv : v = nI a) (ha : a ≤ N) (hb : a < 2 ^ 31) {N0 : Nat} (hm : okM N0 σ) : okM N (sI σ 13 0 14 v) := by
  obtain ⟨h1, h2, h3, h4, h5⟩ := hm
  refine ⟨h1, h2, h3, ?_, h5⟩
  have e : gI (sI σ 13 0 14 v) 13 0 14 = nI a := by rw [gI_sI, if_pos ⟨rfl, rfl, rfl⟩, hv]
  have e2 : mgN (sI σ 13 0 14 v) = a := by unfold mgN; rw [e, nI_clamp hb]
  exact ⟨by rw [e, e2], by rw [e2]; exact ha⟩
theorem okM_mono {N N' : Nat} {σ : St} (h : N ≤ N') (hm : okM N σ) : okM N' σ := ⟨hm.1, hm.2.1, hm.2.2.1, ⟨hm.2.2.2.1.1, Nat.le_trans hm.2.2.2.1.2 h⟩, hm.2.2.2.2⟩
theorem okM_push {N : Nat} {σ : St} {p : Nat} {x : Int32} (hm : okM N σ) : okM N (f_X6_push σ p x) := okM_sI (by omega) (okM_sI (by omega) (okM_sI (by omega) hm))
theorem okM_pull {N : Nat} {σ : St} {p : Nat} (hm : okM N σ) : okM N (f_X6_pull σ p) := okM_sI (by omega) (okM_sI (by omega) hm)
theorem okM_tell {N : Nat} {σ : St} {k t : Nat} {u x : Int32} (hN : N < 2 ^ 30) (hm : okM N σ) : okM (N + 1) (f_X6_tell σ k u t x) := by
  have h1 := hm.2.2.2.1
  unfold f_X6_tell
  refine okM_ch (a := 0) rfl (by decide) (okM_push (okM_mg (a := mgN σ + 1) ?_ (by have := h1.2; omega) (by have := h1.2; omega) (okM_sI (by omega) (okM_sI (by omega) (okM_sI (by omega) (okM_sI (by omega) (okM_sI (by omega) hm)))))))
  show gI σ 13 0 14 + 1 = _
  rw [h1.1]; exact nI_1 _
theorem okM_send {N : Nat} {σ : St} {p k a : Nat} (hp : p < 8) (hN : N < 2 ^ 30) (hpl : gI σ 17 0 p = nI (a + 1)) (ha : a ≤ 40) (hm : okM N σ) : okM (N + 1) (f_X6_send σ p k) := by
  have hm' : okM N (f_X6_pull σ p) := okM_pull hm
  have hA : okM (N + 1) (sI (sI (sI (f_X6_pull σ p) 15 0 p 3) 21 0 p (gI σ 18 0 (7 * p))) 22 0 k (8 + nI p)) := okM_ch (a := 8 + p) (tagA (show (8 : Int32) = nI 8 from rfl) rfl) (by omega) (okM_sI (by omega) (okM_sI (by omega) (okM_mono (by omega) hm')))
  unfold f_X6_send
  split
  · split
    · exact hA
    · exact okM_atEnd (okM_tell hN hm')
  · split
    · split
      · exact hA
      · exact okM_atEnd (okM_tell hN hm')
    · refine okM_pl (a := a) ?_ ha (okM_sI (by omega) (okM_mono (by omega) hm))
      show gI σ 17 0 p - 1 = nI a
      rw [hpl]; exact nI_pred a
theorem okM_receive {N : Nat} {σ : St} {p k a : Nat} (hp : p < 8) (hN : N < 2 ^ 30) (hpl : gI σ 17 0 p = nI (a + 1)) (ha : a ≤ 40) (hm : okM N σ) : okM (N + 1) (f_X6_receive σ p k) := by
  unfold f_X6_receive
  split
  · split
    · exact okM_ch (a := 16 + p) (tagA (show (16 : Int32) = nI 16 from rfl) rfl) (by omega) (okM_sI (by omega) (okM_mono (by omega) hm))
    · exact okM_atEnd (okM_tell hN hm)
  · refine okM_pl (a := a) ?_ ha (okM_sI (by omega) (okM_mono (by omega) hm))
    show gI σ 17 0 p - 1 = nI a
    rw [hpl]; exact nI_pred a
theorem okM_bg {N : Nat} {x y z : Int32} : ∀ (n : Nat) (σ : St) (p j : Nat), okM N σ → okM N (lp_X6_begin_54 x y z n σ p j) := by
  intro n
  induction n with
  | zero => intro σ p j h; exact h
  | succ n ih =>
    intro σ p j h
    unfold lp_X6_begin_54
    split
    · exact h
    · exact ih _ _ _ (okM_sI (by omega) h)
theorem okM_begin {N : Nat} {σ : St} {x y z : Int32} {a : Nat} (hy : y = nI a) (ha : a ≤ 40) (hm : okM N σ) : okM N (f_X6_begin σ x y z).2 := by
  unfold f_X6_begin
  split
  · exact hm
  · exact okM_atEnd (okM_sI (by omega) (okM_bg _ _ _ _ (okM_pl hy ha (okM_sI (by omega) hm))))
theorem okM_ite {N : Nat} {c : Prop} [Decidable c] {a b : St} (ha : c → okM N a) (hb : ¬ c → okM N b) : okM N (if c then a else b) := by
  by_cases h : c
  · rw [if_pos h]; exact ha h
  · rw [if_neg h]; exact hb h
theorem okM_instr {N : Nat} {σ : St} {p : Nat} (hp : p < 8) (hN : N < 2 ^ 30) (hm : okM N σ) : okM (N + 1) (f_X6_instruction σ p) := by
  have hm1 : okM (N + 1) σ := okM_mono (by omega) hm
  have hpl := hm.2.2.1 p hp
  have hL := hm.1
  have hop := hm.2.2.2.2
  have hL2 := hL.2
  unfold f_X6_instruction
  refine okM_ite (fun _ => okM_sI (by omega) (okM_sI (by omega) hm1)) (fun c0 => ?_)
  have hal : plN σ p < lN0 σ := ngt_8 (by have := hpl.2; omega) _ (by omega) c0
  refine okM_ite (fun _ => okM_sI (by omega) (okM_sI (by omega) hm1)) (fun c1 => ?_)
  have e1 : nI (plN σ p) + 1 = nI (plN σ p + 1) := nI_1 _
  have hB0 : okM N (sI (sI σ 13 0 12 (gI σ 13 0 12 + 1)) 17 0 p (nI (plN σ p) + 1)) := okM_pl e1 (by omega) (okM_sI (by omega) hm)
  have hB1 : okM (N + 1) (sI (sI σ 13 0 12 (gI σ 13 0 12 + 1)) 17 0 p (nI (plN σ p) + 1)) := okM_mono (by omega) hB0
  have hBp : gI (sI (sI σ 13 0 12 (gI σ 13 0 12 + 1)) 17 0 p (nI (plN σ p) + 1)) 17 0 p = nI (plN σ p + 1) := by rw [gI_sI, if_pos ⟨rfl, rfl, rfl⟩, e1]
  generalize sI (sI σ 13 0 12 (gI σ 13 0 12 + 1)) 17 0 p (nI (plN σ p) + 1) = τ at hB0 hB1 hBp ⊢
  refine okM_ite (fun _ => okM_push hB1) (fun _ => ?_)
  refine okM_ite (fun _ => okM_push hB1) (fun _ => ?_)
  refine okM_ite (fun _ => okM_pull (okM_sI (by omega) hB1)) (fun _ => ?_)
  refine okM_ite (fun _ => okM_sI (by omega) (okM_sI (by omega) hB1)) (fun _ => ?_)
  refine okM_ite (fun _ => okM_sI (by omega) (okM_sI (by omega) hB1)) (fun _ => ?_)
  refine okM_ite (fun _ => okM_sI (by omega) (okM_sI (by omega) hB1)) (fun _ => ?_)
  refine okM_ite (fun _ => okM_sI (by omega) (okM_sI (by omega) hB1)) (fun _ => ?_)
  refine okM_ite (fun c8 => ?_) (fun _ => ?_)
  · obtain ⟨k, hk, ek⟩ := (hop _ hal).2.1 (Or.inl c8)
    exact okM_ite (fun _ => okM_ite (fun _ => okM_pl ek (by omega) hB1) (fun _ => okM_atEnd (okM_pl ek (by omega) hB1))) (fun _ => okM_pl ek (by omega) hB1)
  refine okM_ite (fun c9 => ?_) (fun _ => ?_)
  · obtain ⟨k, hk, ek⟩ := (hop _ hal).2.1 (Or.inr c9)
    exact okM_ite (fun _ => okM_pl ek (by omega) hB1) (fun _ => okM_pull hB1)
  refine okM_ite (fun _ => okM_send hp hN hBp (by omega) hB0) (fun _ => ?_)
  refine okM_ite (fun _ => okM_receive hp hN hBp (by omega) hB0) (fun _ => ?_)
  refine okM_ite (fun _ => okM_push hB1) (fun _ => ?_)
  refine okM_ite (fun _ => okM_ite (fun _ => okM_sI (by omega) (okM_pull hB1)) (fun _ => okM_sI (by omega) (okM_sI (by omega) (okM_pull hB1)))) (fun _ => ?_)
  refine okM_ite (fun c14 => ?_) (fun _ => okM_sI (by omega) hB1)
  obtain ⟨k, hk, ek⟩ := (hop _ hal).2.2.1 c14
  have e2 : gI σ 14 0 (2 * plN σ p + 1) / 2 = nI (k / 2) := by rw [ek]; exact pk_div (d := 2) (by omega) (by decide) (by decide)
  have hb := okM_begin (x := gI σ 14 0 (2 * plN σ p + 1) - gI σ 14 0 (2 * plN σ p + 1) / 2 * 2) (z := gI σ 18 0 (7 * p)) e2 (by omega) hB1
  cases hq : (f_X6_begin τ (gI σ 14 0 (2 * plN σ p + 1) - gI σ 14 0 (2 * plN σ p + 1) / 2 * 2) (gI σ 14 0 (2 * plN σ p + 1) / 2) (gI σ 18 0 (7 * p))).1 with
  | none => rw [oC_none]; exact okM_push hb
  | some q => rw [oC_some]; exact okM_push hb
theorem okM_oC {N : Nat} {o : Option Nat} {a : Int32 × St} {f : Nat → Int32 × St} (ha : okM N a.2) (hf : ∀ q, o = some q → okM N (f q).2) : okM N (oC o a f).2 := by
  cases o with
  | none => exact ha
  | some q => exact hf q rfl
theorem okM_step {N : Nat} {σ : St} (hN : N < 2 ^ 30) (hm : okM N σ) : okM (N + 1) (f_X6_step σ).2 := by
  have hw : okM N (lp_X6_step_2 9 σ 0) := okM_wake _ _ _ hm
  unfold f_X6_step
  generalize lp_X6_step_2 9 σ 0 = τ at hw ⊢
  have hw1 : okM (N + 1) τ := okM_mono (by omega) hw
  have hI : ∀ q, q < 8 → ∀ τ', okM N τ' → okM (N + 1) (sI (f_X6_instruction τ' q) 13 0 11 (gI (f_X6_instruction τ' q) 13 0 11 + 1)) := fun q hq τ' h => okM_sI (by omega) (okM_instr hq hN h)
  refine okM_oC (okM_oC (okM_oC (okM_sI (by omega) (okM_sI (by omega) hw1)) (fun q hq => hI q (rdy_lt hq) _ (okM_sI (by omega) (okM_sI (by omega) hw)))) (fun q hq => hI q (rdy_lt hq) _ (okM_sI (by omega) (okM_sI (by omega) hw)))) (fun q hq => ?_)
  split
  · refine okM_oC (hI q (cur_lt hq) _ hw) (fun q2 hq2 => ?_)
    have hg : okM N (sI (sI (sI τ 15 0 q 1) 13 0 9 (gI (sI τ 15 0 q 1) 13 0 9 - 1)) 19 0 q (gI (sI (sI τ 15 0 q 1) 13 0 9 (gI (sI τ 15 0 q 1) 13 0 9 - 1)) 13 0 9)) := okM_sI (by omega) (okM_sI (by omega) (okM_sI (by omega) hw))
    generalize sI (sI (sI τ 15 0 q 1) 13 0 9 (gI (sI τ 15 0 q 1) 13 0 9 - 1)) 19 0 q (gI (sI (sI τ 15 0 q 1) 13 0 9 (gI (sI τ 15 0 q 1) 13 0 9 - 1)) 13 0 9) = υ at hg ⊢
    have hg1 : okM (N + 1) υ := okM_mono (by omega) hg
    exact okM_oC (okM_oC (okM_sI (by omega) (okM_sI (by omega) hg1)) (fun q hq => hI q (rdy_lt hq) _ (okM_sI (by omega) (okM_sI (by omega) hg)))) (fun q hq => hI q (rdy_lt hq) _ (okM_sI (by omega) (okM_sI (by omega) hg)))
  · exact hI q (cur_lt hq) _ hw
