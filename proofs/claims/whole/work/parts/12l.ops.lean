section OPL
variable {B p pl : Nat} {τ β1 : St} {kk : Int32}
theorem cell_ix {p c : Nat} (hp : p < 8) (hc : c < 4) : (((7 : Int32) * nI p + 3) + nI c).toNatClampNeg = 7 * p + 3 + c := by
  rw [show ((7 : Int32) * nI p + 3 + nI c) = nI (7 * p + 3 + c) from tagA (tagA (tagM (show (7 : Int32) = nI 7 from rfl) rfl) (show (3 : Int32) = nI 3 from rfl)) rfl, nI_clamp (by omega)]
theorem word_of {τ : St} {p c : Nat} (hc : c < 4) : f_X2_word τ p (nI c) = gI τ 6 p c := by
  unfold f_X2_word
  rw [if_neg (nI_pos (by omega)), if_neg (show ¬ (4 : Int32) ≤ nI c from nI_ge hc (by decide)), nI_clamp (by omega)]
theorem op_load (h : Pre B p pl τ β1) {c : Nat} (hc : c < 4) : S0 B (sI (f_X2_put τ p (f_X2_word τ p (nI c))) 5 p 4 (gI (f_X2_put τ p (f_X2_word τ p (nI c))) 5 p 4 + 1)) (f_X6_push (sI β1 17 0 p (nI pl + 1)) p (gI (sI β1 17 0 p (nI pl + 1)) 18 0 (((7 * nI p) + 3) + nI c).toNatClampNeg)) := by
  rw [cell_ix h.2.1 hc, word_of hc, (h.1.1 p h.2.1).2.2.2.2.2.2.1 c hc]
  exact op_put h _
theorem op_store (h : Pre B p pl τ β1) {c : Nat} (hc : c < 4) : S0 B (sI (f_X2_drop (f_X2_setWord τ p (nI c) (gI τ 5 p 5)) p) 5 p 4 (gI (f_X2_drop (f_X2_setWord τ p (nI c) (gI τ 5 p 5)) p) 5 p 4 + 1)) (f_X6_pull (sI (sI β1 17 0 p (nI pl + 1)) 18 0 (((7 * nI p) + 3) + nI c).toNatClampNeg (gI β1 18 0 (7 * p))) p) := by
  have ew : f_X2_setWord τ p (nI c) (gI τ 5 p 5) = sI τ 6 p c (gI τ 5 p 5) := by
    unfold f_X2_setWord
    rw [if_neg (nI_pos (by omega)), if_neg (show ¬ (4 : Int32) ≤ nI c from nI_ge hc (by decide)), nI_clamp (by omega)]
  rw [ew, cell_ix h.2.1 hc, drop_k _ _ _ (by decide) (by decide), show gI (sI τ 6 p c (gI τ 5 p 5)) 5 p 4 = gI τ 5 p 4 from rfl, h.2.2.2.1, ← (h.1.1 p h.2.1).2.2.2.1]
  exact S0_place (S0_drop (S0_word (x := gI τ 5 p 5) h.1 h.2.1 hc) h.2.1) h.2.1
theorem place_twice (h : Pre B p pl τ β1) (x : Int32) : S0 B (sI τ 5 p 4 x) (sI (sI β1 17 0 p (nI pl + 1)) 17 0 p x) := by
  refine S0_eqM ?_ (S0_place (x := x) h.1 h.2.1)
  intro g i k hg
  rw [gI_sI, gI_sI, gI_sI]
  by_cases h7 : g = 17 ∧ i = 0 ∧ k = p
  · rw [if_pos h7, if_pos h7]
  · rw [if_neg h7, if_neg h7, if_neg h7]
theorem op_jump (h : Pre B p pl τ β1) (hB : B < 2 ^ 30) (hd : gI τ 5 p 9 = gI β1 13 0 12) : S0 (B + 1) (f_X5_jump τ p kk) (if gI (sI (sI β1 17 0 p (nI pl + 1)) 17 0 p kk) 16 0 p = 1 then (if gI (sI (sI β1 17 0 p (nI pl + 1)) 17 0 p kk) 13 0 12 < 8 then sI (sI β1 17 0 p (nI pl + 1)) 17 0 p kk else f_X6_atEnd (sI (sI β1 17 0 p (nI pl + 1)) 17 0 p kk) p) else sI (sI β1 17 0 p (nI pl + 1)) 17 0 p kk) := by
  have h1 := place_twice h kk
  have e3 : gI (sI τ 5 p 4 kk) 5 p 3 = gI (sI (sI β1 17 0 p (nI pl + 1)) 17 0 p kk) 16 0 p := (h1.1 p h.2.1).2.1
  have e9 : gI (sI τ 5 p 4 kk) 5 p 9 = gI (sI (sI β1 17 0 p (nI pl + 1)) 17 0 p kk) 13 0 12 := by
    rw [gI_sI, if_neg (by omega)]; exact hd
  have e2 : gI (sI τ 5 p 4 kk) 5 p 2 = 2 := by rw [gI_sI, if_neg (by omega)]; exact h.2.2.1
  unfold f_X5_jump
  rw [e3, e9]
  split
  · split
    · exact S0_mono (by omega) h1
    · exact S0_ready h1 hB h.2.1 (by rw [e2]; decide) (nw_of h1 (by rw [e2]; decide)) ((h1.1 p h.2.1).2.2.1 (by rw [e2]; decide))
  · exact S0_mono (by omega) h1
theorem op_drop (h : Pre B p pl τ β1) : S0 B (sI (f_X2_drop τ p) 5 p 4 (gI (f_X2_drop τ p) 5 p 4 + 1)) (f_X6_pull (sI β1 17 0 p (nI pl + 1)) p) := by
  rw [drop_k _ _ _ (by decide) (by decide), h.2.2.2.1]
  exact S0_place (S0_drop h.1 h.2.1) h.2.1
theorem op_jz (h : Pre B p pl τ β1) : S0 B (f_X5_jumpIfZero τ p kk) (if gI β1 18 0 (7 * p) = 0 then sI (sI β1 17 0 p (nI pl + 1)) 17 0 p kk else f_X6_pull (sI β1 17 0 p (nI pl + 1)) p) := by
  unfold f_X5_jumpIfZero
  rw [(h.1.1 p h.2.1).2.2.2.1]
  split
  · exact place_twice h kk
  · exact op_drop h
theorem S0_until {x : Int32} {α β : St} (h : S0 B α β) (hs : ¬ gI α 5 p 2 = 4) : S0 B α (sI β 20 0 p x) := by
  refine ⟨fun q hq => ?_, h.2.1, h.2.2.1, h.2.2.2⟩
  obtain ⟨a1, a2, a3, a4, a5, a6, a7, a8, a9⟩ := h.1 q hq
  refine ⟨a1, a2, a3, a4, a5, a6, a7, a8, fun h4 => ?_⟩
  rw [rdB, if_neg (fun e => hs (by rw [← e]; exact h4))]
  exact a9 h4
theorem S0_sleep {x : Int32} {α β : St} (h : S0 B α β) (hp : p < 8) (hs : gI α 5 p 2 = 2) : S0 B (sI (sI α 5 p 8 x) 5 p 2 4) (sI (sI β 20 0 p x) 15 0 p 4) := by
  have h1 : S0 B (sI α 5 p 8 x) (sI β 20 0 p x) := by
    refine ⟨fun q hq => ?_, h.2.1, SC_congr h.2.2.1 (fun q _ => by rw [gI_sI, if_neg (by omega)]) (fun _ => rfl) (fun _ => rfl) (fun _ => rfl) (fun _ => rfl) (fun _ => rfl), h.2.2.2⟩
    obtain ⟨a1, a2, a3, a4, a5, a6, a7, a8, a9⟩ := h.1 q hq
    have e : ∀ k, k ≠ 8 → gI (sI α 5 p 8 x) 5 q k = gI α 5 q k := fun k hk => by rw [gI_sI, if_neg (by omega)]
    refine ⟨by rw [e _ (by decide)]; exact a1, by rw [e _ (by decide)]; exact a2, by rw [e _ (by decide), e _ (by decide)]; exact a3, by rw [e _ (by decide)]; exact a4, by rw [e _ (by decide)]; exact a5, by rw [e _ (by decide)]; exact a6, a7, by rw [e _ (by decide)]; exact a8, ?_⟩
    rw [e _ (by decide), rdA, rdB]
    split
    · exact fun _ => rfl
    · exact a9
  have e2 : gI (sI α 5 p 8 x) 5 p 2 = 2 := by rw [gI_sI, if_neg (by omega)]; exact hs
  exact S0_state h1 hp (by rw [e2]; decide) (by rw [e2]; decide) (by decide) (fun _ => by rw [rdA, if_pos rfl, rdB, if_pos rfl]) (nw_of h1 (by rw [e2]; decide))
theorem op_await (h : Pre B p pl τ β1) : S0 B (f_X5_awaitTime τ p) (if gI β1 18 0 (7 * p) - gI (sI (f_X6_pull (sI β1 17 0 p (nI pl + 1)) p) 20 0 p (gI β1 18 0 (7 * p))) 13 0 11 ≤ 0 then sI (f_X6_pull (sI β1 17 0 p (nI pl + 1)) p) 20 0 p (gI β1 18 0 (7 * p)) else sI (sI (f_X6_pull (sI β1 17 0 p (nI pl + 1)) p) 20 0 p (gI β1 18 0 (7 * p))) 15 0 p 4) := by
  have h1 := op_drop h
  have ea : gI τ 5 p 5 = gI β1 18 0 (7 * p) := (h.1.1 p h.2.1).2.2.2.1
  have e2 : gI (sI (f_X2_drop τ p) 5 p 4 (gI (f_X2_drop τ p) 5 p 4 + 1)) 5 p 2 = 2 := by
    rw [gI_sI, if_neg (by omega), drop_k _ _ _ (by decide) (by decide)]; exact h.2.2.1
  have et : gI (sI (f_X2_drop τ p) 5 p 4 (gI (f_X2_drop τ p) 5 p 4 + 1)) 0 0 7 = gI (sI (f_X6_pull (sI β1 17 0 p (nI pl + 1)) p) 20 0 p (gI β1 18 0 (7 * p))) 13 0 11 := h1.2.1.1
  unfold f_X5_awaitTime f_X5_hasCome
  rw [et, ea]
  generalize gI (sI (f_X6_pull (sI β1 17 0 p (nI pl + 1)) p) 20 0 p (gI β1 18 0 (7 * p))) 13 0 11 = ck
  generalize sI (f_X2_drop τ p) 5 p 4 (gI (f_X2_drop τ p) 5 p 4 + 1) = τ2 at h1 e2 ⊢
  by_cases hc : 0 < gI β1 18 0 (7 * p) - ck
  · rw [if_pos hc, if_pos (show (0 : Int32) = 0 from rfl), if_neg (fun hle => absurd (Int32.lt_of_lt_of_le hc hle) (by decide))]
    exact S0_sleep h1 h.2.1 e2
  · rw [if_neg hc, if_neg (show ¬ (1 : Int32) = 0 by decide), if_pos (Int32.not_lt.mp hc)]
    exact S0_until h1 (by rw [e2]; decide)
end OPL
