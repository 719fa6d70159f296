section OPC
variable {B p pl : Nat} {τ β1 : St}
theorem hold_st {α : St} {k t s : Nat} {x : Int32} {w : Nat} : gI (f_X5_deliver (f_X0_clear α k) (nI k) s t x) 5 w 2 = gI α 5 w 2 := by
  show gI (f_X2_put (f_X0_clear α k) t x) 5 w 2 = _
  unfold f_X2_put
  rw [gI_sI, if_neg (by omega), gI_sI, if_neg (by omega), gI_sI, if_neg (by omega)]; rfl
/-- the message goes over; the one that waited becomes ready -/
theorem op_over {N k s t w : Nat} {x : Int32} {α β : St} (h : S0 B α β) (hB : B < 2 ^ 30) (hM : okMg N β) (hN : N < 2 ^ 30) (hk : k < 4) (ht : t < 8) (hw : gR α 8 k 1 = some w) : S0 (B + 1) (f_X5_becomeReady (f_X5_deliver (f_X0_clear α k) (nI k) s t x) w) (f_X6_atEnd (f_X6_tell β k (nI s) t x) w) := by
  obtain ⟨w8, w3, -⟩ := (h.2.2.1 k hk).2.1 w hw
  have h1 := S0_tell (s := s) (x := x) h hM hN hk ht
  have e2 : gI (f_X5_deliver (f_X0_clear α k) (nI k) s t x) 5 w 2 = 3 := by rw [hold_st]; exact w3
  refine S0_ready h1 hB w8 (by rw [e2]; decide) (fun k' hk' hz => ?_) ((h1.1 w w8).2.2.1 (by rw [e2]; decide))
  have hR : gR (f_X5_deliver (f_X0_clear α k) (nI k) s t x) 8 k' 1 = if k' = k then none else gR α 8 k' 1 := rdR _ _ _ _ _ _
  rw [hR] at hz
  split at hz
  · cases hz
  · rename_i hne
    exact hne ((h.2.2.1 k' hk').2.2 k w hk hz hw)
theorem chanAt {τ : St} {c : Nat} (hc : c < 4) : f_X5_channelAt τ (nI c) = some c := by
  unfold f_X5_channelAt
  rw [if_neg (nI_pos (by omega)), if_neg (show ¬ (4 : Int32) ≤ nI c from nI_ge hc (by decide)), nI_clamp (by omega)]
theorem code_none {α : St} {k : Nat} (h : gR α 8 k 1 = none) : f_X0_code α k = 0 := by unfold f_X0_code; rw [h]; rfl
theorem code_rec {α : St} {k w : Nat} (h : gR α 8 k 1 = some w) (h0 : gI α 8 k 2 = 0) : f_X0_code α k = nI (16 + w) := by
  unfold f_X0_code; rw [h, oC_some, if_pos h0]; exact tagA (show (16 : Int32) = nI 16 from rfl) rfl
theorem code_snd {α : St} {k w : Nat} (h : gR α 8 k 1 = some w) (h0 : ¬ gI α 8 k 2 = 0) : f_X0_code α k = nI (8 + w) := by
  unfold f_X0_code; rw [h, oC_some, if_neg h0]; exact tagA (show (8 : Int32) = nI 8 from rfl) rfl
theorem chN_of {β : St} {k v : Nat} (h : gI β 22 0 k = nI v) (hv : v < 100) : chN β k = v := by unfold chN; rw [h, nI_clamp (by omega)]
theorem op_send {N c : Nat} (h : Pre B p pl τ β1) (hB : B < 2 ^ 30) (hM : okMg N β1) (hN : N < 2 ^ 30) (hc : c < 4) : S0 (B + 1) (f_X5_send τ p c) (f_X6_send (sI β1 17 0 p (nI pl + 1)) p c) := by
  have h1 := op_drop h
  have ea : gI τ 5 p 5 = gI (sI β1 17 0 p (nI pl + 1)) 18 0 (7 * p) := (h.1.1 p h.2.1).2.2.2.1
  have e22 : gI (sI β1 17 0 p (nI pl + 1)) 22 0 c = f_X0_code τ c := (h.1.2.2.1 c hc).1
  have e22' : gI (f_X6_pull (sI β1 17 0 p (nI pl + 1)) p) 22 0 c = f_X0_code τ c := (h.1.2.2.1 c hc).1
  have e2 : gI (sI (f_X2_drop τ p) 5 p 4 (gI (f_X2_drop τ p) 5 p 4 + 1)) 5 p 2 = 2 := by
    rw [gI_sI, if_neg (by omega), drop_k _ _ _ (by decide) (by decide)]; exact h.2.2.1
  have eR : gR (sI (f_X2_drop τ p) 5 p 4 (gI (f_X2_drop τ p) 5 p 4 + 1)) 8 c 1 = gR τ 8 c 1 := rfl
  have hM' : okMg N (f_X6_pull (sI β1 17 0 p (nI pl + 1)) p) := hM
  unfold f_X5_send f_X6_send f_X0_hasSender
  rw [eR, e22, e22', ea]
  rcases hw : gR τ 8 c 1 with _ | w
  · rw [code_none hw, oC_none, oC_none, if_pos (show (0 : Int32) = 0 from rfl), if_pos (show (0 : Int32) < 8 by decide)]
    simp only [if_true]
    exact S0_mono (by omega) (S0_holdS h1 hc h.2.1 e2)
  · obtain ⟨w8, -, -⟩ := (h.1.2.2.1 c hc).2.1 w hw
    rw [oC_some, oC_some]
    by_cases h0 : gI τ 8 c 2 = 0
    · have ec := code_rec hw h0
      have ew : chN (sI β1 17 0 p (nI pl + 1)) c % 8 = w := by rw [chN_of (e22.trans ec) (by omega)]; omega
      rw [ec, ew, if_pos h0, if_pos (show (0 : Int32) = 0 from rfl), if_neg (show ¬ nI (16 + w) < 8 from nI_nlt (b := 8) (by omega) (by omega)), if_pos (show (16 : Int32) ≤ nI (16 + w) from nI_le (a := 16) (by omega) (by omega)), if_neg (show ¬ nI (16 + w) = 0 from nI_ne0 (by omega) (by omega))]
      exact op_over h1 hB hM' hN hc w8 hw
    · have ec := code_snd hw h0
      rw [ec, if_neg h0, if_neg (show ¬ (1 : Int32) = 0 by decide), if_neg (show ¬ nI (8 + w) < 8 from nI_nlt (b := 8) (by omega) (by omega)), if_neg (show ¬ (16 : Int32) ≤ nI (8 + w) from nI_ge (b := 16) (by omega) (by omega))]
      exact S0_mono (by omega) (op_back h)
theorem op_place (h : Pre B p pl τ β1) : S0 B (sI τ 5 p 4 (gI τ 5 p 4 + 1)) (sI β1 17 0 p (nI pl + 1)) := by
  rw [h.2.2.2.1]; exact S0_place h.1 h.2.1
theorem op_receive {N c : Nat} (h : Pre B p pl τ β1) (hB : B < 2 ^ 30) (hM : okMg N β1) (hN : N < 2 ^ 30) (hc : c < 4) : S0 (B + 1) (f_X5_receive τ p c) (f_X6_receive (sI β1 17 0 p (nI pl + 1)) p c) := by
  have h1 := op_place h
  have e22 : gI (sI β1 17 0 p (nI pl + 1)) 22 0 c = f_X0_code τ c := (h.1.2.2.1 c hc).1
  have e2 : gI (sI τ 5 p 4 (gI τ 5 p 4 + 1)) 5 p 2 = 2 := by
    rw [gI_sI, if_neg (by omega)]; exact h.2.2.1
  have eR : gR (sI τ 5 p 4 (gI τ 5 p 4 + 1)) 8 c 1 = gR τ 8 c 1 := rfl
  have hM' : okMg N (sI β1 17 0 p (nI pl + 1)) := hM
  unfold f_X5_receive f_X6_receive f_X0_hasReceiver
  rw [eR, e22]
  rcases hw : gR τ 8 c 1 with _ | w
  · rw [code_none hw, oC_none, oC_none, if_pos (show (0 : Int32) = 0 from rfl), if_pos (show (0 : Int32) < 16 by decide)]
    simp only [if_true]
    exact S0_mono (by omega) (S0_holdR h1 hc h.2.1 e2)
  · obtain ⟨w8, w3, wm⟩ := (h.1.2.2.1 c hc).2.1 w hw
    rw [oC_some, oC_some]
    by_cases h0 : gI τ 8 c 2 = 0
    · have ec := code_rec hw h0
      rw [ec, if_pos h0, if_neg (show ¬ (1 : Int32) = 0 by decide), if_neg (show ¬ nI (16 + w) < 16 from nI_nlt (b := 16) (by omega) (by omega))]
      exact S0_mono (by omega) (op_back h)
    · have ec := code_snd hw h0
      have ew : chN (sI β1 17 0 p (nI pl + 1)) c % 8 = w := by rw [chN_of (e22.trans ec) (by omega)]; omega
      have em : gI (sI τ 5 p 4 (gI τ 5 p 4 + 1)) 8 c 3 = gI (sI β1 17 0 p (nI pl + 1)) 21 0 w := wm h0
      rw [ec, ew, if_neg h0, if_pos (show (0 : Int32) = 0 from rfl), if_pos (show nI (8 + w) < 16 from nI_lt (b := 16) (by omega) (by decide)), if_neg (show ¬ nI (8 + w) = 0 from nI_ne0 (by omega) (by omega)), em]
      exact op_over h1 hB hM' hN hc h.2.1 hw
end OPC
