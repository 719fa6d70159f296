theorem okM_congr {N : Nat} {σ τ : St} (h1 : gI τ 13 0 1 = gI σ 13 0 1) (h2 : ∀ k, gI τ 22 0 k = gI σ 22 0 k) (h3 : ∀ p, gI τ 17 0 p = gI σ 17 0 p) (h4 : gI τ 13 0 14 = gI σ 13 0 14) (h5 : ∀ i, gI τ 14 0 i = gI σ 14 0 i) (hm : okM N σ) : okM N τ := by
  have e1 : lN0 τ = lN0 σ := by unfold lN0; rw [h1]
  have e2 : ∀ k, chN τ k = chN σ k := fun k => by unfold chN; rw [h2]
  have e3 : ∀ p, plN τ p = plN σ p := fun p => by unfold plN; rw [h3]
  have e4 : mgN τ = mgN σ := by unfold mgN; rw [h4]
  unfold okM okL okCh okPl okMg okOp at *
  simp only [h1, h2, h3, h4, h5, e1, e2, e3, e4]
  exact hm
theorem okM_sI {N : Nat} {σ : St} {g i k : Nat} {v : Int32} (h : ¬ (g = 14 ∨ g = 17 ∨ g = 22 ∨ (g = 13 ∧ (k = 1 ∨ k = 14)))) (hm : okM N σ) : okM N (sI σ g i k v) := by
  refine okM_congr ?_ (fun a => ?_) (fun a => ?_) ?_ (fun a => ?_) hm
  · rw [gI_sI, if_neg (by omega)]
  · rw [gI_sI, if_neg (by omega)]
  · rw [gI_sI, if_neg (by omega)]
  · rw [gI_sI, if_neg (by omega)]
  · rw [gI_sI, if_neg (by omega)]
theorem okM_sR {N : Nat} {σ : St} {g i k : Nat} {v : Option Nat} (hm : okM N σ) : okM N (sR σ g i k v) := hm
theorem okM_atEnd {N : Nat} {σ : St} {p : Nat} (hm : okM N σ) : okM N (f_X6_atEnd σ p) := okM_sI (by omega) (okM_sI (by omega) (okM_sI (by omega) hm))

def f_X6_instruction (σ : St) (p : Nat) : St := (if nI (lN0 σ) ≤ nI (plN σ p) then sI (sI σ 13 0 12 ((gI σ 13 0 12) + 1)) 15 0 p 5 else (if gI σ 14 0 (2 * (plN σ p)) = 0 then sI (sI σ 13 0 12 ((gI σ 13 0 12) + 1)) 15 0 p 5 else (if gI σ 14 0 (2 * (plN σ p)) = 1 then f_X6_push (sI (sI σ 13 0 12 ((gI σ 13 0 12) + 1)) 17 0 p ((nI (plN σ p)) + 1)) p (gI σ 14 0 ((2 * (plN σ p)) + 1)) else (if gI σ 14 0 (2 * (plN σ p)) = 2 then f_X6_push (sI (sI σ 13 0 12 ((gI σ 13 0 12) + 1)) 17 0 p ((nI (plN σ p)) + 1)) p (gI (sI (sI σ 13 0 12 ((gI σ 13 0 12) + 1)) 17 0 p ((nI (plN σ p)) + 1)) 18 0 (((7 * (nI p)) + 3) + (gI σ 14 0 ((2 * (plN σ p)) + 1))).toNatClampNeg) else (if gI σ 14 0 (2 * (plN σ p)) = 3 then f_X6_pull (sI (sI (sI σ 13 0 12 ((gI σ 13 0 12) + 1)) 17 0 p ((nI (plN σ p)) + 1)) 18 0 (((7 * (nI p)) + 3) + (gI σ 14 0 ((2 * (plN σ p)) + 1))).toNatClampNeg (gI σ 18 0 (7 * p))) p else (if gI σ 14 0 (2 * (plN σ p)) = 4 then sI (sI (sI (sI σ 13 0 12 ((gI σ 13 0 12) + 1)) 17 0 p ((nI (plN σ p)) + 1)) 18 0 (7 * p) (f_X6_value (sI (sI σ 13 0 12 ((gI σ 13 0 12) + 1)) 17 0 p ((nI (plN σ p)) + 1)) (gI σ 14 0 (2 * (plN σ p))) (gI σ 18 0 (7 * p)) (gI (sI (sI σ 13 0 12 ((gI σ 13 0 12) + 1)) 17 0 p ((nI (plN σ p)) + 1)) 18 0 ((7 * p) + 1)))) 18 0 ((7 * p) + 1) (gI (sI (sI (sI σ 13 0 12 ((gI σ 13 0 12) + 1)) 17 0 p ((nI (plN σ p)) + 1)) 18 0 (7 * p) (f_X6_value (sI (sI σ 13 0 12 ((gI σ 13 0 12) + 1)) 17 0 p ((nI (plN σ p)) + 1)) (gI σ 14 0 (2 * (plN σ p))) (gI σ 18 0 (7 * p)) (gI (sI (sI σ 13 0 12 ((gI σ 13 0 12) + 1)) 17 0 p ((nI (plN σ p)) + 1)) 18 0 ((7 * p) + 1)))) 18 0 ((7 * p) + 2)) else (if gI σ 14 0 (2 * (plN σ p)) = 5 then sI (sI (sI (sI σ 13 0 12 ((gI σ 13 0 12) + 1)) 17 0 p ((nI (plN σ p)) + 1)) 18 0 (7 * p) (f_X6_value (sI (sI σ 13 0 12 ((gI σ 13 0 12) + 1)) 17 0 p ((nI (plN σ p)) + 1)) (gI σ 14 0 (2 * (plN σ p))) (gI σ 18 0 (7 * p)) (gI (sI (sI σ 13 0 12 ((gI σ 13 0 12) + 1)) 17 0 p ((nI (plN σ p)) + 1)) 18 0 ((7 * p) + 1)))) 18 0 ((7 * p) + 1) (gI (sI (sI (sI σ 13 0 12 ((gI σ 13 0 12) + 1)) 17 0 p ((nI (plN σ p)) + 1)) 18 0 (7 * p) (f_X6_value (sI (sI σ 13 0 12 ((gI σ 13 0 12) + 1)) 17 0 p ((nI (plN σ p)) + 1)) (gI σ 14 0 (2 * (plN σ p))) (gI σ 18 0 (7 * p)) (gI (sI (sI σ 13 0 12 ((gI σ 13 0 12) + 1)) 17 0 p ((nI (plN σ p)) + 1)) 18 0 ((7 * p) + 1)))) 18 0 ((7 * p) + 2)) else (if gI σ 14 0 (2 * (plN σ p)) = 6 then sI (sI (sI (sI σ 13 0 12 ((gI σ 13 0 12) + 1)) 17 0 p ((nI (plN σ p)) + 1)) 18 0 (7 * p) (f_X6_value (sI (sI σ 13 0 12 ((gI σ 13 0 12) + 1)) 17 0 p ((nI (plN σ p)) + 1)) (gI σ 14 0 (2 * (plN σ p))) (gI σ 18 0 (7 * p)) (gI (sI (sI σ 13 0 12 ((gI σ 13 0 12) + 1)) 17 0 p ((nI (plN σ p)) + 1)) 18 0 ((7 * p) + 1)))) 18 0 ((7 * p) + 1) (gI (sI (sI (sI σ 13 0 12 ((gI σ 13 0 12) + 1)) 17 0 p ((nI (plN σ p)) + 1)) 18 0 (7 * p) (f_X6_value (sI (sI σ 13 0 12 ((gI σ 13 0 12) + 1)) 17 0 p ((nI (plN σ p)) + 1)) (gI σ 14 0 (2 * (plN σ p))) (gI σ 18 0 (7 * p)) (gI (sI (sI σ 13 0 12 ((gI σ 13 0 12) + 1)) 17 0 p ((nI (plN σ p)) + 1)) 18 0 ((7 * p) + 1)))) 18 0 ((7 * p) + 2)) else (if gI σ 14 0 (2 * (plN σ p)) = 7 then sI (sI (sI (sI σ 13 0 12 ((gI σ 13 0 12) + 1)) 17 0 p ((nI (plN σ p)) + 1)) 18 0 (7 * p) (f_X6_value (sI (sI σ 13 0 12 ((gI σ 13 0 12) + 1)) 17 0 p ((nI (plN σ p)) + 1)) (gI σ 14 0 (2 * (plN σ p))) (gI σ 18 0 (7 * p)) (gI (sI (sI σ 13 0 12 ((gI σ 13 0 12) + 1)) 17 0 p ((nI (plN σ p)) + 1)) 18 0 ((7 * p) + 1)))) 18 0 ((7 * p) + 1) (gI (sI (sI (sI σ 13 0 12 ((gI σ 13 0 12) + 1)) 17 0 p ((nI (plN σ p)) + 1)) 18 0 (7 * p) (f_X6_value (sI (sI σ 13 0 12 ((gI σ 13 0 12) + 1)) 17 0 p ((nI (plN σ p)) + 1)) (gI σ 14 0 (2 * (plN σ p))) (gI σ 18 0 (7 * p)) (gI (sI (sI σ 13 0 12 ((gI σ 13 0 12) + 1)) 17 0 p ((nI (plN σ p)) + 1)) 18 0 ((7 * p) + 1)))) 18 0 ((7 * p) + 2)) else (if gI σ 14 0 (2 * (plN σ p)) = 8 then (if gI (sI (sI (sI σ 13 0 12 ((gI σ 13 0 12) + 1)) 17 0 p ((nI (plN σ p)) + 1)) 17 0 p (gI σ 14 0 ((2 * (plN σ p)) + 1))) 16 0 p = 1 then (if gI (sI (sI (sI σ 13 0 12 ((gI σ 13 0 12) + 1)) 17 0 p ((nI (plN σ p)) + 1)) 17 0 p (gI σ 14 0 ((2 * (plN σ p)) + 1))) 13 0 12 < 8 then sI (sI (sI σ 13 0 12 ((gI σ 13 0 12) + 1)) 17 0 p ((nI (plN σ p)) + 1)) 17 0 p (gI σ 14 0 ((2 * (plN σ p)) + 1)) else f_X6_atEnd (sI (sI (sI σ 13 0 12 ((gI σ 13 0 12) + 1)) 17 0 p ((nI (plN σ p)) + 1)) 17 0 p (gI σ 14 0 ((2 * (plN σ p)) + 1))) p) else sI (sI (sI σ 13 0 12 ((gI σ 13 0 12) + 1)) 17 0 p ((nI (plN σ p)) + 1)) 17 0 p (gI σ 14 0 ((2 * (plN σ p)) + 1))) else (if gI σ 14 0 (2 * (plN σ p)) = 9 then (if gI σ 18 0 (7 * p) = 0 then sI (sI (sI σ 13 0 12 ((gI σ 13 0 12) + 1)) 17 0 p ((nI (plN σ p)) + 1)) 17 0 p (gI σ 14 0 ((2 * (plN σ p)) + 1)) else f_X6_pull (sI (sI σ 13 0 12 ((gI σ 13 0 12) + 1)) 17 0 p ((nI (plN σ p)) + 1)) p) else (if gI σ 14 0 (2 * (plN σ p)) = 10 then f_X6_send (sI (sI σ 13 0 12 ((gI σ 13 0 12) + 1)) 17 0 p ((nI (plN σ p)) + 1)) p (kN σ p) else (if gI σ 14 0 (2 * (plN σ p)) = 11 then f_X6_receive (sI (sI σ 13 0 12 ((gI σ 13 0 12) + 1)) 17 0 p ((nI (plN σ p)) + 1)) p (kN σ p) else (if gI σ 14 0 (2 * (plN σ p)) = 12 then f_X6_push (sI (sI σ 13 0 12 ((gI σ 13 0 12) + 1)) 17 0 p ((nI (plN σ p)) + 1)) p (gI (sI (sI σ 13 0 12 ((gI σ 13 0 12) + 1)) 17 0 p ((nI (plN σ p)) + 1)) 13 0 11) else (if gI σ 14 0 (2 * (plN σ p)) = 13 then (if (gI σ 18 0 (7 * p)) - (gI (sI (f_X6_pull (sI (sI σ 13 0 12 ((gI σ 13 0 12) + 1)) 17 0 p ((nI (plN σ p)) + 1)) p) 20 0 p (gI σ 18 0 (7 * p))) 13 0 11) ≤ 0 then sI (f_X6_pull (sI (sI σ 13 0 12 ((gI σ 13 0 12) + 1)) 17 0 p ((nI (plN σ p)) + 1)) p) 20 0 p (gI σ 18 0 (7 * p)) else sI (sI (f_X6_pull (sI (sI σ 13 0 12 ((gI σ 13 0 12) + 1)) 17 0 p ((nI (plN σ p)) + 1)) p) 20 0 p (gI σ 18 0 (7 * p))) 15 0 p 4) else (if gI σ 14 0 (2 * (plN σ p)) = 14 then (oC ((f_X6_begin (sI (sI σ 13 0 12 ((gI σ 13 0 12) + 1)) 17 0 p ((nI (plN σ p)) + 1)) ((gI σ 14 0 ((2 * (plN σ p)) + 1)) - (gI σ 14 0 ((2 * (plN σ p)) + 1)) / 2 * 2) ((gI σ 14 0 ((2 * (plN σ p)) + 1)) / 2) (gI σ 18 0 (7 * p))).1) (f_X6_push ((f_X6_begin (sI (sI σ 13 0 12 ((gI σ 13 0 12) + 1)) 17 0 p ((nI (plN σ p)) + 1)) ((gI σ 14 0 ((2 * (plN σ p)) + 1)) - (gI σ 14 0 ((2 * (plN σ p)) + 1)) / 2 * 2) ((gI σ 14 0 ((2 * (plN σ p)) + 1)) / 2) (gI σ 18 0 (7 * p))).2) p ((-1))) (fun q406_24 => f_X6_push ((f_X6_begin (sI (sI σ 13 0 12 ((gI σ 13 0 12) + 1)) 17 0 p ((nI (plN σ p)) + 1)) ((gI σ 14 0 ((2 * (plN σ p)) + 1)) - (gI σ 14 0 ((2 * (plN σ p)) + 1)) / 2 * 2) ((gI σ 14 0 ((2 * (plN σ p)) + 1)) / 2) (gI σ 18 0 (7 * p))).2) p (nI q406_24))) else sI (sI (sI σ 13 0 12 ((gI σ 13 0 12) + 1)) 17 0 p ((nI (plN σ p)) + 1)) 15 0 p 0))))))))))))))))
set_option maxRecDepth 100000 in
set_option maxHeartbeats 4000000 in
theorem k_X6_instruction (l : Launch) (D : va_G) (cs : Nat → ClassId) (b : Nat) (σ : St) (p : Nat) (hp : p < 8) (N : Nat) (hM : okMg N σ) (hN : N < 2 ^ 30) (hC : okCh σ) (hL : okL σ) (hpl : okPl σ) (hop : okOp σ) : Met l yX6_instruction (Cond.code yX6_instruction cX6_instruction 7 (none : Option FieldType) :: T0) { frames := 3, cells := 0, slots := 0, locals := 71 } (Pe D (tyx cs) b 43 (Ex cs b σ) [.ref (b + xo 13 0), .int (nI p)]) (Qv D (tyx cs) b 43 (Ex cs b (f_X6_instruction σ p))) 0 0 (fun a => b ≤ a) := by
  refine e_met (by decide) rfl (Nat.le_of_ble_eq_true rfl) (fun pg e s m below meth c ls hx hb hr hml hts0 hown hlk hnm hH hK hl hS => ?_)
  have hts : ∀ w ∈ T0, w.before _ s = true := fun w h => hts0 w (List.mem_cons_of_mem _ h)
  have hl : lv_has ls 7 [(0, .ref (b + xo 13 0)), (1, .int (nI p))] := hl
  refine lv_aload_n hx hb dX6_instruction_0 rfl (lv_at hl 0 rfl) ?_
  refine fgX6_19 hx hb hts hown hK hH 0 (by decide) dX6_instruction_1 ?_
  refine lv_iload_n hx hb dX6_instruction_4 rfl (lv_at hl 1 rfl) ?_
  refine x_iald hx hb hK hH 17 0 8 (by decide) rfl p rfl (by omega) (by decide) dX6_instruction_5 ?_
  rw [show gI σ 17 0 p = nI (plN σ p) from (hpl p hp).1]
  refine lv_istore_n (lv' := [(2, .int (nI (plN σ p))), (0, .ref (b + xo 13 0)), (1, .int (nI p))]) hx hb dX6_instruction_6 rfl hl (by decide) rfl (fun ls hl => ?_)
  refine lv_iload_n hx hb dX6_instruction_7 rfl (lv_at hl 0 rfl) ?_
  refine lv_aload_n hx hb dX6_instruction_8 rfl (lv_at hl 1 rfl) ?_
  refine fgX6_44 hx hb hts hown hK hH 0 (by decide) dX6_instruction_9 ?_
  rw [show gI σ 13 0 1 = nI (lN0 σ) from hL.1]
  refine lv_icmp_ge (tgt := 26) hx hb dX6_instruction_12 (by decide) (fun c_12_1 => ?_) (fun c_12_1 => ?_)
  ·
    refine lv_iconst (v := 0) hx hb dX6_instruction_26 (by decide) ?_
    refine lv_istore_n (lv' := [(3, .int (0)), (2, .int (nI (plN σ p))), (0, .ref (b + xo 13 0)), (1, .int (nI p))]) hx hb dX6_instruction_27 rfl hl (by decide) rfl (fun ls hl => ?_)
    refine lv_iload_n hx hb dX6_instruction_28 rfl (lv_at hl 1 rfl) ?_
    refine lv_aload_n hx hb dX6_instruction_29 rfl (lv_at hl 2 rfl) ?_
    refine fgX6_44 hx hb hts hown hK hH 0 (by decide) dX6_instruction_30 ?_
    rw [show gI σ 13 0 1 = nI (lN0 σ) from hL.1]
    refine lv_icmp_ge (tgt := 49) hx hb dX6_instruction_33 (by decide) (fun c_33_2 => ?_) (fun c_33_2 => ?_)
    rotate_left
    ·
      exact absurd c_12_1 c_33_2
    refine lv_iconst (v := 0) hx hb dX6_instruction_49 (by decide) ?_
    refine lv_istore (lv' := [(4, .int (0)), (3, .int (0)), (2, .int (nI (plN σ p))), (0, .ref (b + xo 13 0)), (1, .int (nI p))]) hx hb dX6_instruction_50 hl (by decide) rfl (fun ls hl => ?_)
    refine lv_aload_n hx hb dX6_instruction_52 rfl (lv_at hl 3 rfl) ?_
    refine fgX6_22 hx hb hts hown hK hH 0 (by decide) dX6_instruction_53 ?_
    refine lv_bipush (v := 7) hx hb dX6_instruction_56 (by decide) ?_
    refine lv_iload_n hx hb dX6_instruction_58 rfl (lv_at hl 4 rfl) ?_
    refine lv_imul hx hb dX6_instruction_59 ?_
    refine x_iald hx hb hK hH 18 0 56 (by decide) rfl (7 * p) ((tagM ((rfl : (7 : Int32) = nI 7)) rfl)) (by omega) (by decide) dX6_instruction_60 ?_
    refine lv_istore (lv' := [(5, .int (gI σ 18 0 (7 * p))), (4, .int (0)), (3, .int (0)), (2, .int (nI (plN σ p))), (0, .ref (b + xo 13 0)), (1, .int (nI p))]) hx hb dX6_instruction_61 hl (by decide) rfl (fun ls hl => ?_)
    refine lv_aload_n hx hb dX6_instruction_63 rfl (lv_at hl 4 rfl) ?_
    refine lv_dup hx hb dX6_instruction_64 rfl ?_
    refine fgX6_76 hx hb hts hown hK hH 0 (by decide) dX6_instruction_65 ?_
    refine lv_iconst (v := 1) hx hb dX6_instruction_68 (by decide) ?_
    refine lv_iadd hx hb dX6_instruction_69 ?_
    refine fpX6_76 hx hb hts hown hK hH hS 0 (by decide) dX6_instruction_70 (fun H locs hH hS => ?_)
    refine lv_iload_n hx hb dX6_instruction_73 rfl (lv_at hl 2 rfl) ?_
    refine lv_if_ne (tgt := 85) hx hb dX6_instruction_74 (by decide) (fun c_74_3 => ?_) (fun c_74_3 => ?_)
    ·
      exact absurd (by decide) c_74_3
    refine lv_aload_n hx hb dX6_instruction_77 rfl (lv_at hl 4 rfl) ?_
    refine fgX6_13 hx hb hts hown hK hH 0 (by decide) dX6_instruction_78 ?_
    refine lv_iload_n hx hb dX6_instruction_81 rfl (lv_at hl 5 rfl) ?_
    refine lv_iconst (v := 5) hx hb dX6_instruction_82 (by decide) ?_
    refine x_iast hx hb hK hH hS 15 0 8 (by decide) (fun _ _ => rfl) p rfl (by omega) (by decide) dX6_instruction_83 (fun H locs hH hS => ?_)
    exact e_vret hx hb hr hlk hK hH hS dX6_instruction_84 (congrArg (Ex cs b) (by simp only [f_X6_instruction, if_pos c_12_1]))
  ·
    have hL2 := hL.2
    have hal : plN σ p < lN0 σ := ngt_8 (by have := (hpl p hp).2; omega) _ (by omega) (by assumption)
    refine lv_aload_n hx hb dX6_instruction_15 rfl (lv_at hl 1 rfl) ?_
    refine fgX6_7 hx hb hts hown hK hH 0 (by decide) dX6_instruction_16 ?_
    refine lv_iconst (v := 2) hx hb dX6_instruction_19 (by decide) ?_
    refine lv_iload_n hx hb dX6_instruction_20 rfl (lv_at hl 0 rfl) ?_
    refine lv_imul hx hb dX6_instruction_21 ?_
    refine x_iald hx hb hK hH 14 0 80 (by decide) rfl (2 * (plN σ p)) ((tagM ((rfl : (2 : Int32) = nI 2)) rfl)) (by omega) (by decide) dX6_instruction_22 ?_
    refine lv_goto (tgt := 27) hx hb dX6_instruction_23 (by decide) ?_
    refine lv_istore_n (lv' := [(3, .int (gI σ 14 0 (2 * (plN σ p)))), (2, .int (nI (plN σ p))), (0, .ref (b + xo 13 0)), (1, .int (nI p))]) hx hb dX6_instruction_27 rfl hl (by decide) rfl (fun ls hl => ?_)
    refine lv_iload_n hx hb dX6_instruction_28 rfl (lv_at hl 1 rfl) ?_
    refine lv_aload_n hx hb dX6_instruction_29 rfl (lv_at hl 2 rfl) ?_
    refine fgX6_44 hx hb hts hown hK hH 0 (by decide) dX6_instruction_30 ?_
    rw [show gI σ 13 0 1 = nI (lN0 σ) from hL.1]
    refine lv_icmp_ge (tgt := 49) hx hb dX6_instruction_33 (by decide) (fun c_33_4 => ?_) (fun c_33_4 => ?_)
    ·
      exact absurd c_33_4 c_12_1
    refine lv_aload_n hx hb dX6_instruction_36 rfl (lv_at hl 2 rfl) ?_
    refine fgX6_7 hx hb hts hown hK hH 0 (by decide) dX6_instruction_37 ?_
    refine lv_iconst (v := 2) hx hb dX6_instruction_40 (by decide) ?_
    refine lv_iload_n hx hb dX6_instruction_41 rfl (lv_at hl 1 rfl) ?_
    refine lv_imul hx hb dX6_instruction_42 ?_
    refine lv_iconst (v := 1) hx hb dX6_instruction_43 (by decide) ?_
    refine lv_iadd hx hb dX6_instruction_44 ?_
    refine x_iald hx hb hK hH 14 0 80 (by decide) rfl ((2 * (plN σ p)) + 1) ((tagA ((tagM ((rfl : (2 : Int32) = nI 2)) rfl)) ((rfl : (1 : Int32) = nI 1)))) (by omega) (by decide) dX6_instruction_45 ?_
    refine lv_goto (tgt := 50) hx hb dX6_instruction_46 (by decide) ?_
    refine lv_istore (lv' := [(4, .int (gI σ 14 0 ((2 * (plN σ p)) + 1))), (3, .int (gI σ 14 0 (2 * (plN σ p)))), (2, .int (nI (plN σ p))), (0, .ref (b + xo 13 0)), (1, .int (nI p))]) hx hb dX6_instruction_50 hl (by decide) rfl (fun ls hl => ?_)
    refine lv_aload_n hx hb dX6_instruction_52 rfl (lv_at hl 3 rfl) ?_
    refine fgX6_22 hx hb hts hown hK hH 0 (by decide) dX6_instruction_53 ?_
    refine lv_bipush (v := 7) hx hb dX6_instruction_56 (by decide) ?_
    refine lv_iload_n hx hb dX6_instruction_58 rfl (lv_at hl 4 rfl) ?_
    refine lv_imul hx hb dX6_instruction_59 ?_
    refine x_iald hx hb hK hH 18 0 56 (by decide) rfl (7 * p) ((tagM ((rfl : (7 : Int32) = nI 7)) rfl)) (by omega) (by decide) dX6_instruction_60 ?_
    refine lv_istore (lv' := [(5, .int (gI σ 18 0 (7 * p))), (4, .int (gI σ 14 0 ((2 * (plN σ p)) + 1))), (3, .int (gI σ 14 0 (2 * (plN σ p)))), (2, .int (nI (plN σ p))), (0, .ref (b + xo 13 0)), (1, .int (nI p))]) hx hb dX6_instruction_61 hl (by decide) rfl (fun ls hl => ?_)
    refine lv_aload_n hx hb dX6_instruction_63 rfl (lv_at hl 4 rfl) ?_
    refine lv_dup hx hb dX6_instruction_64 rfl ?_
    refine fgX6_76 hx hb hts hown hK hH 0 (by decide) dX6_instruction_65 ?_
    refine lv_iconst (v := 1) hx hb dX6_instruction_68 (by decide) ?_
    refine lv_iadd hx hb dX6_instruction_69 ?_
    refine fpX6_76 hx hb hts hown hK hH hS 0 (by decide) dX6_instruction_70 (fun H locs hH hS => ?_)
    refine lv_iload_n hx hb dX6_instruction_73 rfl (lv_at hl 2 rfl) ?_
    refine lv_if_ne (tgt := 85) hx hb dX6_instruction_74 (by decide) (fun c_74_5 => ?_) (fun c_74_5 => ?_)
    ·
      refine lv_aload_n hx hb dX6_instruction_85 rfl (lv_at hl 4 rfl) ?_
      refine fgX6_19 hx hb hts hown hK hH 0 (by decide) dX6_instruction_86 ?_
      refine lv_iload_n hx hb dX6_instruction_89 rfl (lv_at hl 5 rfl) ?_
      refine lv_iload_n hx hb dX6_instruction_90 rfl (lv_at hl 3 rfl) ?_
      refine lv_iconst (v := 1) hx hb dX6_instruction_91 (by decide) ?_
      refine lv_iadd hx hb dX6_instruction_92 ?_
      refine x_iast hx hb hK hH hS 17 0 8 (by decide) (fun _ _ => rfl) p rfl (by omega) (by decide) dX6_instruction_93 (fun H locs hH hS => ?_)
      refine lv_iload_n hx hb dX6_instruction_94 rfl (lv_at hl 2 rfl) ?_
      by_cases c_95_6 : gI σ 14 0 (2 * (plN σ p)) = 1
      ·
        refine lv_tableIn (off := 69) (tgt := 164) hx hb dX6_instruction_95 (by rw [c_95_6]; decide) (by rw [c_95_6]; decide) (by rw [c_95_6]; rfl) (by decide) ?_
        refine lv_aload_n hx hb dX6_instruction_164 rfl (lv_at hl 4 rfl) ?_
        refine lv_iload_n hx hb dX6_instruction_165 rfl (lv_at hl 5 rfl) ?_
        refine lv_iload hx hb dX6_instruction_166 (lv_at hl 1 rfl) ?_
        refine e_cv (e_runV (C := RX6) (ci := 6) (As := [.int (nI p), .int (gI σ 14 0 ((2 * (plN σ p)) + 1))]) (rest := []) ⟨hx, hb, hml, hown, hts⟩ (k_X6_push l D cs b (sI (sI σ 13 0 12 ((gI σ 13 0 12) + 1)) 17 0 p ((nI (plN σ p)) + 1)) p (gI σ 14 0 ((2 * (plN σ p)) + 1)) (by first | assumption | omega | decide)) ⟨callB_of 2 hts (gC wC_X6_push) rfl rfl rfl (hts _ wi_X6) (hts _ wM_X6_65) (by decide +kernel) (by decide), hts _ wN_X6_push, hts _ wS_X6_push⟩ hK hH (xo_ok (by decide)).2.2 (Ex_at cs b (sI (sI σ 13 0 12 ((gI σ 13 0 12) + 1)) 17 0 p ((nI (plN σ p)) + 1)) (by decide)) rfl rfl rfl hl.1 rfl (Nat.le_of_ble_eq_true rfl) dX6_instruction_168 (by decide)) hS (fun H locs hH hS => ?_)
        refine lv_goto (tgt := 428) hx hb dX6_instruction_171 (by decide) ?_
        exact e_vret hx hb hr hlk hK hH hS dX6_instruction_428 (congrArg (Ex cs b) (by simp only [f_X6_instruction, if_neg c_12_1, if_neg c_74_5, if_pos c_95_6]))
      by_cases c_95_7 : gI σ 14 0 (2 * (plN σ p)) = 2
      ·
        refine lv_tableIn (off := 79) (tgt := 174) hx hb dX6_instruction_95 (by rw [c_95_7]; decide) (by rw [c_95_7]; decide) (by rw [c_95_7]; rfl) (by decide) ?_
        have hkk := op_kN ((hop _ hal).1 (Or.inl (by assumption)))
        refine lv_aload_n hx hb dX6_instruction_174 rfl (lv_at hl 4 rfl) ?_
        refine lv_iload_n hx hb dX6_instruction_175 rfl (lv_at hl 5 rfl) ?_
        refine lv_aload_n hx hb dX6_instruction_176 rfl (lv_at hl 4 rfl) ?_
        refine fgX6_22 hx hb hts hown hK hH 0 (by decide) dX6_instruction_177 ?_
        refine lv_bipush (v := 7) hx hb dX6_instruction_180 (by decide) ?_
        refine lv_iload_n hx hb dX6_instruction_182 rfl (lv_at hl 5 rfl) ?_
        refine lv_imul hx hb dX6_instruction_183 ?_
        refine lv_iconst (v := 3) hx hb dX6_instruction_184 (by decide) ?_
        refine lv_iadd hx hb dX6_instruction_185 ?_
        refine lv_iload hx hb dX6_instruction_186 (lv_at hl 1 rfl) ?_
        refine lv_iadd hx hb dX6_instruction_188 ?_
        refine x_ialdU hx hb hK hH 18 0 56 (by decide) rfl (vin_cell hp hkk.1 hkk.2) dX6_instruction_189 ?_
        refine e_cv (e_runV (C := RX6) (ci := 6) (As := [.int (nI p), .int (gI (sI (sI σ 13 0 12 ((gI σ 13 0 12) + 1)) 17 0 p ((nI (plN σ p)) + 1)) 18 0 (((7 * (nI p)) + 3) + (gI σ 14 0 ((2 * (plN σ p)) + 1))).toNatClampNeg)]) (rest := []) ⟨hx, hb, hml, hown, hts⟩ (k_X6_push l D cs b (sI (sI σ 13 0 12 ((gI σ 13 0 12) + 1)) 17 0 p ((nI (plN σ p)) + 1)) p (gI (sI (sI σ 13 0 12 ((gI σ 13 0 12) + 1)) 17 0 p ((nI (plN σ p)) + 1)) 18 0 (((7 * (nI p)) + 3) + (gI σ 14 0 ((2 * (plN σ p)) + 1))).toNatClampNeg) (by first | assumption | omega | decide)) ⟨callB_of 2 hts (gC wC_X6_push) rfl rfl rfl (hts _ wi_X6) (hts _ wM_X6_65) (by decide +kernel) (by decide), hts _ wN_X6_push, hts _ wS_X6_push⟩ hK hH (xo_ok (by decide)).2.2 (Ex_at cs b (sI (sI σ 13 0 12 ((gI σ 13 0 12) + 1)) 17 0 p ((nI (plN σ p)) + 1)) (by decide)) rfl rfl rfl hl.1 rfl (Nat.le_of_ble_eq_true rfl) dX6_instruction_190 (by decide)) hS (fun H locs hH hS => ?_)
        refine lv_goto (tgt := 428) hx hb dX6_instruction_193 (by decide) ?_
        exact e_vret hx hb hr hlk hK hH hS dX6_instruction_428 (congrArg (Ex cs b) (by simp only [f_X6_instruction, if_neg c_12_1, if_neg c_74_5, if_neg c_95_6, if_pos c_95_7]))
      by_cases c_95_8 : gI σ 14 0 (2 * (plN σ p)) = 3
      ·
        refine lv_tableIn (off := 101) (tgt := 196) hx hb dX6_instruction_95 (by rw [c_95_8]; decide) (by rw [c_95_8]; decide) (by rw [c_95_8]; rfl) (by decide) ?_
        have hkk := op_kN ((hop _ hal).1 (Or.inr (Or.inl (by assumption))))
        refine lv_aload_n hx hb dX6_instruction_196 rfl (lv_at hl 4 rfl) ?_
        refine fgX6_22 hx hb hts hown hK hH 0 (by decide) dX6_instruction_197 ?_
        refine lv_bipush (v := 7) hx hb dX6_instruction_200 (by decide) ?_
        refine lv_iload_n hx hb dX6_instruction_202 rfl (lv_at hl 5 rfl) ?_
        refine lv_imul hx hb dX6_instruction_203 ?_
        refine lv_iconst (v := 3) hx hb dX6_instruction_204 (by decide) ?_
        refine lv_iadd hx hb dX6_instruction_205 ?_
        refine lv_iload hx hb dX6_instruction_206 (lv_at hl 1 rfl) ?_
        refine lv_iadd hx hb dX6_instruction_208 ?_
        refine lv_iload hx hb dX6_instruction_209 (lv_at hl 0 rfl) ?_
        refine x_iastU hx hb hK hH hS 18 0 56 (by decide) (fun _ _ => rfl) (vin_cell hp hkk.1 hkk.2) dX6_instruction_211 (fun H locs hH hS => ?_)
        refine lv_aload_n hx hb dX6_instruction_212 rfl (lv_at hl 4 rfl) ?_
        refine lv_iload_n hx hb dX6_instruction_213 rfl (lv_at hl 5 rfl) ?_
        refine e_cv (e_runV (C := RX6) (ci := 6) (As := [.int (nI p)]) (rest := []) ⟨hx, hb, hml, hown, hts⟩ (k_X6_pull l D cs b (sI (sI (sI σ 13 0 12 ((gI σ 13 0 12) + 1)) 17 0 p ((nI (plN σ p)) + 1)) 18 0 (((7 * (nI p)) + 3) + (gI σ 14 0 ((2 * (plN σ p)) + 1))).toNatClampNeg (gI σ 18 0 (7 * p))) p (by first | assumption | omega | decide)) ⟨callB_of 1 hts (gC wC_X6_pull) rfl rfl rfl (hts _ wi_X6) (hts _ wM_X6_69) (by decide +kernel) (by decide), hts _ wN_X6_pull, hts _ wS_X6_pull⟩ hK hH (xo_ok (by decide)).2.2 (Ex_at cs b (sI (sI (sI σ 13 0 12 ((gI σ 13 0 12) + 1)) 17 0 p ((nI (plN σ p)) + 1)) 18 0 (((7 * (nI p)) + 3) + (gI σ 14 0 ((2 * (plN σ p)) + 1))).toNatClampNeg (gI σ 18 0 (7 * p))) (by decide)) rfl rfl rfl hl.1 rfl (Nat.le_of_ble_eq_true rfl) dX6_instruction_214 (by decide)) hS (fun H locs hH hS => ?_)
        refine lv_goto (tgt := 428) hx hb dX6_instruction_217 (by decide) ?_
        exact e_vret hx hb hr hlk hK hH hS dX6_instruction_428 (congrArg (Ex cs b) (by simp only [f_X6_instruction, if_neg c_12_1, if_neg c_74_5, if_neg c_95_6, if_neg c_95_7, if_pos c_95_8]))
      by_cases c_95_9 : gI σ 14 0 (2 * (plN σ p)) = 4
      ·
        refine lv_tableIn (off := 125) (tgt := 220) hx hb dX6_instruction_95 (by rw [c_95_9]; decide) (by rw [c_95_9]; decide) (by rw [c_95_9]; rfl) (by decide) ?_
        refine lv_aload_n hx hb dX6_instruction_220 rfl (lv_at hl 4 rfl) ?_
        refine fgX6_22 hx hb hts hown hK hH 0 (by decide) dX6_instruction_221 ?_
        refine lv_bipush (v := 7) hx hb dX6_instruction_224 (by decide) ?_
        refine lv_iload_n hx hb dX6_instruction_226 rfl (lv_at hl 5 rfl) ?_
        refine lv_imul hx hb dX6_instruction_227 ?_
        refine lv_iload_n hx hb dX6_instruction_228 rfl (lv_at hl 2 rfl) ?_
        refine lv_iload hx hb dX6_instruction_229 (lv_at hl 0 rfl) ?_
        refine lv_aload_n hx hb dX6_instruction_231 rfl (lv_at hl 4 rfl) ?_
        refine fgX6_22 hx hb hts hown hK hH 0 (by decide) dX6_instruction_232 ?_
        refine lv_bipush (v := 7) hx hb dX6_instruction_235 (by decide) ?_
        refine lv_iload_n hx hb dX6_instruction_237 rfl (lv_at hl 5 rfl) ?_
        refine lv_imul hx hb dX6_instruction_238 ?_
        refine lv_iconst (v := 1) hx hb dX6_instruction_239 (by decide) ?_
        refine lv_iadd hx hb dX6_instruction_240 ?_
        refine x_iald hx hb hK hH 18 0 56 (by decide) rfl ((7 * p) + 1) ((tagA ((tagM ((rfl : (7 : Int32) = nI 7)) rfl)) ((rfl : (1 : Int32) = nI 1)))) (by omega) (by decide) dX6_instruction_241 ?_
        refine e_ci (e_runS (As := [.int (gI σ 14 0 (2 * (plN σ p))), .int (gI σ 18 0 (7 * p)), .int (gI (sI (sI σ 13 0 12 ((gI σ 13 0 12) + 1)) 17 0 p ((nI (plN σ p)) + 1)) 18 0 ((7 * p) + 1))]) (rest := [.int (7 * (nI p)), .ref (b + xo 18 0)]) ⟨hx, hb, hml, hown, hts⟩ (k_X6_value l D cs b (sI (sI σ 13 0 12 ((gI σ 13 0 12) + 1)) 17 0 p ((nI (plN σ p)) + 1)) (gI σ 14 0 (2 * (plN σ p))) (gI σ 18 0 (7 * p)) (gI (sI (sI σ 13 0 12 ((gI σ 13 0 12) + 1)) 17 0 p ((nI (plN σ p)) + 1)) 18 0 ((7 * p) + 1)) ) ⟨callB_of 3 hts (gC wC_X6_value) rfl rfl rfl (hts _ wi_X6) (hts _ wM_X6_79) (by decide +kernel) (by decide), hts _ wT_X6_value⟩ hK hH rfl hl.1 rfl (Nat.le_of_ble_eq_true rfl) dX6_instruction_242 (by decide)) hS (fun H locs hH hS => ?_)
        refine x_iast hx hb hK hH hS 18 0 56 (by decide) (fun _ _ => rfl) (7 * p) ((tagM ((rfl : (7 : Int32) = nI 7)) rfl)) (by omega) (by decide) dX6_instruction_245 (fun H locs hH hS => ?_)
        refine lv_aload_n hx hb dX6_instruction_246 rfl (lv_at hl 4 rfl) ?_
        refine fgX6_22 hx hb hts hown hK hH 0 (by decide) dX6_instruction_247 ?_
        refine lv_bipush (v := 7) hx hb dX6_instruction_250 (by decide) ?_
        refine lv_iload_n hx hb dX6_instruction_252 rfl (lv_at hl 5 rfl) ?_
        refine lv_imul hx hb dX6_instruction_253 ?_
        refine lv_iconst (v := 1) hx hb dX6_instruction_254 (by decide) ?_
        refine lv_iadd hx hb dX6_instruction_255 ?_
        refine lv_aload_n hx hb dX6_instruction_256 rfl (lv_at hl 4 rfl) ?_
        refine fgX6_22 hx hb hts hown hK hH 0 (by decide) dX6_instruction_257 ?_
        refine lv_bipush (v := 7) hx hb dX6_instruction_260 (by decide) ?_
        refine lv_iload_n hx hb dX6_instruction_262 rfl (lv_at hl 5 rfl) ?_
        refine lv_imul hx hb dX6_instruction_263 ?_
        refine lv_iconst (v := 2) hx hb dX6_instruction_264 (by decide) ?_
        refine lv_iadd hx hb dX6_instruction_265 ?_
        refine x_iald hx hb hK hH 18 0 56 (by decide) rfl ((7 * p) + 2) ((tagA ((tagM ((rfl : (7 : Int32) = nI 7)) rfl)) ((rfl : (2 : Int32) = nI 2)))) (by omega) (by decide) dX6_instruction_266 ?_
        refine x_iast hx hb hK hH hS 18 0 56 (by decide) (fun _ _ => rfl) ((7 * p) + 1) ((tagA ((tagM ((rfl : (7 : Int32) = nI 7)) rfl)) ((rfl : (1 : Int32) = nI 1)))) (by omega) (by decide) dX6_instruction_267 (fun H locs hH hS => ?_)
        refine lv_goto (tgt := 428) hx hb dX6_instruction_268 (by decide) ?_
        exact e_vret hx hb hr hlk hK hH hS dX6_instruction_428 (congrArg (Ex cs b) (by simp only [f_X6_instruction, if_neg c_12_1, if_neg c_74_5, if_neg c_95_6, if_neg c_95_7, if_neg c_95_8, if_pos c_95_9]))
      by_cases c_95_10 : gI σ 14 0 (2 * (plN σ p)) = 5
      ·
        refine lv_tableIn (off := 125) (tgt := 220) hx hb dX6_instruction_95 (by rw [c_95_10]; decide) (by rw [c_95_10]; decide) (by rw [c_95_10]; rfl) (by decide) ?_
        refine lv_aload_n hx hb dX6_instruction_220 rfl (lv_at hl 4 rfl) ?_
        refine fgX6_22 hx hb hts hown hK hH 0 (by decide) dX6_instruction_221 ?_
        refine lv_bipush (v := 7) hx hb dX6_instruction_224 (by decide) ?_
        refine lv_iload_n hx hb dX6_instruction_226 rfl (lv_at hl 5 rfl) ?_
        refine lv_imul hx hb dX6_instruction_227 ?_
        refine lv_iload_n hx hb dX6_instruction_228 rfl (lv_at hl 2 rfl) ?_
        refine lv_iload hx hb dX6_instruction_229 (lv_at hl 0 rfl) ?_
        refine lv_aload_n hx hb dX6_instruction_231 rfl (lv_at hl 4 rfl) ?_
        refine fgX6_22 hx hb hts hown hK hH 0 (by decide) dX6_instruction_232 ?_
        refine lv_bipush (v := 7) hx hb dX6_instruction_235 (by decide) ?_
        refine lv_iload_n hx hb dX6_instruction_237 rfl (lv_at hl 5 rfl) ?_
        refine lv_imul hx hb dX6_instruction_238 ?_
        refine lv_iconst (v := 1) hx hb dX6_instruction_239 (by decide) ?_
        refine lv_iadd hx hb dX6_instruction_240 ?_
        refine x_iald hx hb hK hH 18 0 56 (by decide) rfl ((7 * p) + 1) ((tagA ((tagM ((rfl : (7 : Int32) = nI 7)) rfl)) ((rfl : (1 : Int32) = nI 1)))) (by omega) (by decide) dX6_instruction_241 ?_
        refine e_ci (e_runS (As := [.int (gI σ 14 0 (2 * (plN σ p))), .int (gI σ 18 0 (7 * p)), .int (gI (sI (sI σ 13 0 12 ((gI σ 13 0 12) + 1)) 17 0 p ((nI (plN σ p)) + 1)) 18 0 ((7 * p) + 1))]) (rest := [.int (7 * (nI p)), .ref (b + xo 18 0)]) ⟨hx, hb, hml, hown, hts⟩ (k_X6_value l D cs b (sI (sI σ 13 0 12 ((gI σ 13 0 12) + 1)) 17 0 p ((nI (plN σ p)) + 1)) (gI σ 14 0 (2 * (plN σ p))) (gI σ 18 0 (7 * p)) (gI (sI (sI σ 13 0 12 ((gI σ 13 0 12) + 1)) 17 0 p ((nI (plN σ p)) + 1)) 18 0 ((7 * p) + 1)) ) ⟨callB_of 3 hts (gC wC_X6_value) rfl rfl rfl (hts _ wi_X6) (hts _ wM_X6_79) (by decide +kernel) (by decide), hts _ wT_X6_value⟩ hK hH rfl hl.1 rfl (Nat.le_of_ble_eq_true rfl) dX6_instruction_242 (by decide)) hS (fun H locs hH hS => ?_)
        refine x_iast hx hb hK hH hS 18 0 56 (by decide) (fun _ _ => rfl) (7 * p) ((tagM ((rfl : (7 : Int32) = nI 7)) rfl)) (by omega) (by decide) dX6_instruction_245 (fun H locs hH hS => ?_)
        refine lv_aload_n hx hb dX6_instruction_246 rfl (lv_at hl 4 rfl) ?_
        refine fgX6_22 hx hb hts hown hK hH 0 (by decide) dX6_instruction_247 ?_
        refine lv_bipush (v := 7) hx hb dX6_instruction_250 (by decide) ?_
        refine lv_iload_n hx hb dX6_instruction_252 rfl (lv_at hl 5 rfl) ?_
        refine lv_imul hx hb dX6_instruction_253 ?_
        refine lv_iconst (v := 1) hx hb dX6_instruction_254 (by decide) ?_
        refine lv_iadd hx hb dX6_instruction_255 ?_
        refine lv_aload_n hx hb dX6_instruction_256 rfl (lv_at hl 4 rfl) ?_
        refine fgX6_22 hx hb hts hown hK hH 0 (by decide) dX6_instruction_257 ?_
        refine lv_bipush (v := 7) hx hb dX6_instruction_260 (by decide) ?_
        refine lv_iload_n hx hb dX6_instruction_262 rfl (lv_at hl 5 rfl) ?_
        refine lv_imul hx hb dX6_instruction_263 ?_
        refine lv_iconst (v := 2) hx hb dX6_instruction_264 (by decide) ?_
        refine lv_iadd hx hb dX6_instruction_265 ?_
        refine x_iald hx hb hK hH 18 0 56 (by decide) rfl ((7 * p) + 2) ((tagA ((tagM ((rfl : (7 : Int32) = nI 7)) rfl)) ((rfl : (2 : Int32) = nI 2)))) (by omega) (by decide) dX6_instruction_266 ?_
        refine x_iast hx hb hK hH hS 18 0 56 (by decide) (fun _ _ => rfl) ((7 * p) + 1) ((tagA ((tagM ((rfl : (7 : Int32) = nI 7)) rfl)) ((rfl : (1 : Int32) = nI 1)))) (by omega) (by decide) dX6_instruction_267 (fun H locs hH hS => ?_)
        refine lv_goto (tgt := 428) hx hb dX6_instruction_268 (by decide) ?_
        exact e_vret hx hb hr hlk hK hH hS dX6_instruction_428 (congrArg (Ex cs b) (by simp only [f_X6_instruction, if_neg c_12_1, if_neg c_74_5, if_neg c_95_6, if_neg c_95_7, if_neg c_95_8, if_neg c_95_9, if_pos c_95_10]))
      by_cases c_95_11 : gI σ 14 0 (2 * (plN σ p)) = 6
      ·
        refine lv_tableIn (off := 125) (tgt := 220) hx hb dX6_instruction_95 (by rw [c_95_11]; decide) (by rw [c_95_11]; decide) (by rw [c_95_11]; rfl) (by decide) ?_
        refine lv_aload_n hx hb dX6_instruction_220 rfl (lv_at hl 4 rfl) ?_
        refine fgX6_22 hx hb hts hown hK hH 0 (by decide) dX6_instruction_221 ?_
        refine lv_bipush (v := 7) hx hb dX6_instruction_224 (by decide) ?_
        refine lv_iload_n hx hb dX6_instruction_226 rfl (lv_at hl 5 rfl) ?_
        refine lv_imul hx hb dX6_instruction_227 ?_
        refine lv_iload_n hx hb dX6_instruction_228 rfl (lv_at hl 2 rfl) ?_
        refine lv_iload hx hb dX6_instruction_229 (lv_at hl 0 rfl) ?_
        refine lv_aload_n hx hb dX6_instruction_231 rfl (lv_at hl 4 rfl) ?_
        refine fgX6_22 hx hb hts hown hK hH 0 (by decide) dX6_instruction_232 ?_
        refine lv_bipush (v := 7) hx hb dX6_instruction_235 (by decide) ?_
        refine lv_iload_n hx hb dX6_instruction_237 rfl (lv_at hl 5 rfl) ?_
        refine lv_imul hx hb dX6_instruction_238 ?_
        refine lv_iconst (v := 1) hx hb dX6_instruction_239 (by decide) ?_
        refine lv_iadd hx hb dX6_instruction_240 ?_
        refine x_iald hx hb hK hH 18 0 56 (by decide) rfl ((7 * p) + 1) ((tagA ((tagM ((rfl : (7 : Int32) = nI 7)) rfl)) ((rfl : (1 : Int32) = nI 1)))) (by omega) (by decide) dX6_instruction_241 ?_
        refine e_ci (e_runS (As := [.int (gI σ 14 0 (2 * (plN σ p))), .int (gI σ 18 0 (7 * p)), .int (gI (sI (sI σ 13 0 12 ((gI σ 13 0 12) + 1)) 17 0 p ((nI (plN σ p)) + 1)) 18 0 ((7 * p) + 1))]) (rest := [.int (7 * (nI p)), .ref (b + xo 18 0)]) ⟨hx, hb, hml, hown, hts⟩ (k_X6_value l D cs b (sI (sI σ 13 0 12 ((gI σ 13 0 12) + 1)) 17 0 p ((nI (plN σ p)) + 1)) (gI σ 14 0 (2 * (plN σ p))) (gI σ 18 0 (7 * p)) (gI (sI (sI σ 13 0 12 ((gI σ 13 0 12) + 1)) 17 0 p ((nI (plN σ p)) + 1)) 18 0 ((7 * p) + 1)) ) ⟨callB_of 3 hts (gC wC_X6_value) rfl rfl rfl (hts _ wi_X6) (hts _ wM_X6_79) (by decide +kernel) (by decide), hts _ wT_X6_value⟩ hK hH rfl hl.1 rfl (Nat.le_of_ble_eq_true rfl) dX6_instruction_242 (by decide)) hS (fun H locs hH hS => ?_)
        refine x_iast hx hb hK hH hS 18 0 56 (by decide) (fun _ _ => rfl) (7 * p) ((tagM ((rfl : (7 : Int32) = nI 7)) rfl)) (by omega) (by decide) dX6_instruction_245 (fun H locs hH hS => ?_)
        refine lv_aload_n hx hb dX6_instruction_246 rfl (lv_at hl 4 rfl) ?_
        refine fgX6_22 hx hb hts hown hK hH 0 (by decide) dX6_instruction_247 ?_
        refine lv_bipush (v := 7) hx hb dX6_instruction_250 (by decide) ?_
        refine lv_iload_n hx hb dX6_instruction_252 rfl (lv_at hl 5 rfl) ?_
        refine lv_imul hx hb dX6_instruction_253 ?_
        refine lv_iconst (v := 1) hx hb dX6_instruction_254 (by decide) ?_
        refine lv_iadd hx hb dX6_instruction_255 ?_
        refine lv_aload_n hx hb dX6_instruction_256 rfl (lv_at hl 4 rfl) ?_
        refine fgX6_22 hx hb hts hown hK hH 0 (by decide) dX6_instruction_257 ?_
        refine lv_bipush (v := 7) hx hb dX6_instruction_260 (by decide) ?_
        refine lv_iload_n hx hb dX6_instruction_262 rfl (lv_at hl 5 rfl) ?_
        refine lv_imul hx hb dX6_instruction_263 ?_
        refine lv_iconst (v := 2) hx hb dX6_instruction_264 (by decide) ?_
        refine lv_iadd hx hb dX6_instruction_265 ?_
        refine x_iald hx hb hK hH 18 0 56 (by decide) rfl ((7 * p) + 2) ((tagA ((tagM ((rfl : (7 : Int32) = nI 7)) rfl)) ((rfl : (2 : Int32) = nI 2)))) (by omega) (by decide) dX6_instruction_266 ?_
        refine x_iast hx hb hK hH hS 18 0 56 (by decide) (fun _ _ => rfl) ((7 * p) + 1) ((tagA ((tagM ((rfl : (7 : Int32) = nI 7)) rfl)) ((rfl : (1 : Int32) = nI 1)))) (by omega) (by decide) dX6_instruction_267 (fun H locs hH hS => ?_)
        refine lv_goto (tgt := 428) hx hb dX6_instruction_268 (by decide) ?_
        exact e_vret hx hb hr hlk hK hH hS dX6_instruction_428 (congrArg (Ex cs b) (by simp only [f_X6_instruction, if_neg c_12_1, if_neg c_74_5, if_neg c_95_6, if_neg c_95_7, if_neg c_95_8, if_neg c_95_9, if_neg c_95_10, if_pos c_95_11]))
      by_cases c_95_12 : gI σ 14 0 (2 * (plN σ p)) = 7
      ·
        refine lv_tableIn (off := 125) (tgt := 220) hx hb dX6_instruction_95 (by rw [c_95_12]; decide) (by rw [c_95_12]; decide) (by rw [c_95_12]; rfl) (by decide) ?_
        refine lv_aload_n hx hb dX6_instruction_220 rfl (lv_at hl 4 rfl) ?_
        refine fgX6_22 hx hb hts hown hK hH 0 (by decide) dX6_instruction_221 ?_
        refine lv_bipush (v := 7) hx hb dX6_instruction_224 (by decide) ?_
        refine lv_iload_n hx hb dX6_instruction_226 rfl (lv_at hl 5 rfl) ?_
        refine lv_imul hx hb dX6_instruction_227 ?_
        refine lv_iload_n hx hb dX6_instruction_228 rfl (lv_at hl 2 rfl) ?_
        refine lv_iload hx hb dX6_instruction_229 (lv_at hl 0 rfl) ?_
        refine lv_aload_n hx hb dX6_instruction_231 rfl (lv_at hl 4 rfl) ?_
        refine fgX6_22 hx hb hts hown hK hH 0 (by decide) dX6_instruction_232 ?_
        refine lv_bipush (v := 7) hx hb dX6_instruction_235 (by decide) ?_
        refine lv_iload_n hx hb dX6_instruction_237 rfl (lv_at hl 5 rfl) ?_
        refine lv_imul hx hb dX6_instruction_238 ?_
        refine lv_iconst (v := 1) hx hb dX6_instruction_239 (by decide) ?_
        refine lv_iadd hx hb dX6_instruction_240 ?_
        refine x_iald hx hb hK hH 18 0 56 (by decide) rfl ((7 * p) + 1) ((tagA ((tagM ((rfl : (7 : Int32) = nI 7)) rfl)) ((rfl : (1 : Int32) = nI 1)))) (by omega) (by decide) dX6_instruction_241 ?_
        refine e_ci (e_runS (As := [.int (gI σ 14 0 (2 * (plN σ p))), .int (gI σ 18 0 (7 * p)), .int (gI (sI (sI σ 13 0 12 ((gI σ 13 0 12) + 1)) 17 0 p ((nI (plN σ p)) + 1)) 18 0 ((7 * p) + 1))]) (rest := [.int (7 * (nI p)), .ref (b + xo 18 0)]) ⟨hx, hb, hml, hown, hts⟩ (k_X6_value l D cs b (sI (sI σ 13 0 12 ((gI σ 13 0 12) + 1)) 17 0 p ((nI (plN σ p)) + 1)) (gI σ 14 0 (2 * (plN σ p))) (gI σ 18 0 (7 * p)) (gI (sI (sI σ 13 0 12 ((gI σ 13 0 12) + 1)) 17 0 p ((nI (plN σ p)) + 1)) 18 0 ((7 * p) + 1)) ) ⟨callB_of 3 hts (gC wC_X6_value) rfl rfl rfl (hts _ wi_X6) (hts _ wM_X6_79) (by decide +kernel) (by decide), hts _ wT_X6_value⟩ hK hH rfl hl.1 rfl (Nat.le_of_ble_eq_true rfl) dX6_instruction_242 (by decide)) hS (fun H locs hH hS => ?_)
        refine x_iast hx hb hK hH hS 18 0 56 (by decide) (fun _ _ => rfl) (7 * p) ((tagM ((rfl : (7 : Int32) = nI 7)) rfl)) (by omega) (by decide) dX6_instruction_245 (fun H locs hH hS => ?_)
        refine lv_aload_n hx hb dX6_instruction_246 rfl (lv_at hl 4 rfl) ?_
        refine fgX6_22 hx hb hts hown hK hH 0 (by decide) dX6_instruction_247 ?_
        refine lv_bipush (v := 7) hx hb dX6_instruction_250 (by decide) ?_
        refine lv_iload_n hx hb dX6_instruction_252 rfl (lv_at hl 5 rfl) ?_
        refine lv_imul hx hb dX6_instruction_253 ?_
        refine lv_iconst (v := 1) hx hb dX6_instruction_254 (by decide) ?_
        refine lv_iadd hx hb dX6_instruction_255 ?_
        refine lv_aload_n hx hb dX6_instruction_256 rfl (lv_at hl 4 rfl) ?_
        refine fgX6_22 hx hb hts hown hK hH 0 (by decide) dX6_instruction_257 ?_
        refine lv_bipush (v := 7) hx hb dX6_instruction_260 (by decide) ?_
        refine lv_iload_n hx hb dX6_instruction_262 rfl (lv_at hl 5 rfl) ?_
        refine lv_imul hx hb dX6_instruction_263 ?_
        refine lv_iconst (v := 2) hx hb dX6_instruction_264 (by decide) ?_
        refine lv_iadd hx hb dX6_instruction_265 ?_
        refine x_iald hx hb hK hH 18 0 56 (by decide) rfl ((7 * p) + 2) ((tagA ((tagM ((rfl : (7 : Int32) = nI 7)) rfl)) ((rfl : (2 : Int32) = nI 2)))) (by omega) (by decide) dX6_instruction_266 ?_
        refine x_iast hx hb hK hH hS 18 0 56 (by decide) (fun _ _ => rfl) ((7 * p) + 1) ((tagA ((tagM ((rfl : (7 : Int32) = nI 7)) rfl)) ((rfl : (1 : Int32) = nI 1)))) (by omega) (by decide) dX6_instruction_267 (fun H locs hH hS => ?_)
        refine lv_goto (tgt := 428) hx hb dX6_instruction_268 (by decide) ?_
        exact e_vret hx hb hr hlk hK hH hS dX6_instruction_428 (congrArg (Ex cs b) (by simp only [f_X6_instruction, if_neg c_12_1, if_neg c_74_5, if_neg c_95_6, if_neg c_95_7, if_neg c_95_8, if_neg c_95_9, if_neg c_95_10, if_neg c_95_11, if_pos c_95_12]))
      by_cases c_95_13 : gI σ 14 0 (2 * (plN σ p)) = 8
      ·
        refine lv_tableIn (off := 176) (tgt := 271) hx hb dX6_instruction_95 (by rw [c_95_13]; decide) (by rw [c_95_13]; decide) (by rw [c_95_13]; rfl) (by decide) ?_
        refine lv_aload_n hx hb dX6_instruction_271 rfl (lv_at hl 4 rfl) ?_
        refine fgX6_19 hx hb hts hown hK hH 0 (by decide) dX6_instruction_272 ?_
        refine lv_iload_n hx hb dX6_instruction_275 rfl (lv_at hl 5 rfl) ?_
        refine lv_iload hx hb dX6_instruction_276 (lv_at hl 1 rfl) ?_
        refine x_iast hx hb hK hH hS 17 0 8 (by decide) (fun _ _ => rfl) p rfl (by omega) (by decide) dX6_instruction_278 (fun H locs hH hS => ?_)
        refine lv_aload_n hx hb dX6_instruction_279 rfl (lv_at hl 4 rfl) ?_
        refine fgX6_16 hx hb hts hown hK hH 0 (by decide) dX6_instruction_280 ?_
        refine lv_iload_n hx hb dX6_instruction_283 rfl (lv_at hl 5 rfl) ?_
        refine x_iald hx hb hK hH 16 0 8 (by decide) rfl p rfl (by omega) (by decide) dX6_instruction_284 ?_
        refine lv_iconst (v := 1) hx hb dX6_instruction_285 (by decide) ?_
        refine lv_icmp_ne (tgt := 428) hx hb dX6_instruction_286 (by decide) (fun c_286_14 => ?_) (fun c_286_14 => ?_)
        ·
          exact e_vret hx hb hr hlk hK hH hS dX6_instruction_428 (congrArg (Ex cs b) (by simp only [f_X6_instruction, if_neg c_12_1, if_neg c_74_5, if_neg c_95_6, if_neg c_95_7, if_neg c_95_8, if_neg c_95_9, if_neg c_95_10, if_neg c_95_11, if_neg c_95_12, if_pos c_95_13, if_neg c_286_14]))
        ·
          refine lv_aload_n hx hb dX6_instruction_289 rfl (lv_at hl 4 rfl) ?_
          refine fgX6_76 hx hb hts hown hK hH 0 (by decide) dX6_instruction_290 ?_
          refine lv_bipush (v := 8) hx hb dX6_instruction_293 (by decide) ?_
          refine lv_icmp_lt (tgt := 428) hx hb dX6_instruction_295 (by decide) (fun c_295_15 => ?_) (fun c_295_15 => ?_)
          ·
            exact e_vret hx hb hr hlk hK hH hS dX6_instruction_428 (congrArg (Ex cs b) (by simp only [f_X6_instruction, if_neg c_12_1, if_neg c_74_5, if_neg c_95_6, if_neg c_95_7, if_neg c_95_8, if_neg c_95_9, if_neg c_95_10, if_neg c_95_11, if_neg c_95_12, if_pos c_95_13, if_pos c_286_14, if_pos c_295_15]))
          ·
            refine lv_aload_n hx hb dX6_instruction_298 rfl (lv_at hl 4 rfl) ?_
            refine lv_iload_n hx hb dX6_instruction_299 rfl (lv_at hl 5 rfl) ?_
            refine e_cv (e_runV (C := RX6) (ci := 6) (As := [.int (nI p)]) (rest := []) ⟨hx, hb, hml, hown, hts⟩ (k_X6_atEnd l D cs b (sI (sI (sI σ 13 0 12 ((gI σ 13 0 12) + 1)) 17 0 p ((nI (plN σ p)) + 1)) 17 0 p (gI σ 14 0 ((2 * (plN σ p)) + 1))) p (by first | assumption | omega | decide)) ⟨callB_of 1 hts (gC wC_X6_atEnd) rfl rfl rfl (hts _ wi_X6) (hts _ wM_X6_51) (by decide +kernel) (by decide), hts _ wN_X6_atEnd, hts _ wS_X6_atEnd⟩ hK hH (xo_ok (by decide)).2.2 (Ex_at cs b (sI (sI (sI σ 13 0 12 ((gI σ 13 0 12) + 1)) 17 0 p ((nI (plN σ p)) + 1)) 17 0 p (gI σ 14 0 ((2 * (plN σ p)) + 1))) (by decide)) rfl rfl rfl hl.1 rfl (Nat.le_of_ble_eq_true rfl) dX6_instruction_300 (by decide)) hS (fun H locs hH hS => ?_)
            refine lv_goto (tgt := 428) hx hb dX6_instruction_303 (by decide) ?_
            exact e_vret hx hb hr hlk hK hH hS dX6_instruction_428 (congrArg (Ex cs b) (by simp only [f_X6_instruction, if_neg c_12_1, if_neg c_74_5, if_neg c_95_6, if_neg c_95_7, if_neg c_95_8, if_neg c_95_9, if_neg c_95_10, if_neg c_95_11, if_neg c_95_12, if_pos c_95_13, if_pos c_286_14, if_neg c_295_15]))
      by_cases c_95_16 : gI σ 14 0 (2 * (plN σ p)) = 9
      ·
        refine lv_tableIn (off := 211) (tgt := 306) hx hb dX6_instruction_95 (by rw [c_95_16]; decide) (by rw [c_95_16]; decide) (by rw [c_95_16]; rfl) (by decide) ?_
        refine lv_iload hx hb dX6_instruction_306 (lv_at hl 0 rfl) ?_
        refine lv_if_ne (tgt := 322) hx hb dX6_instruction_308 (by decide) (fun c_308_17 => ?_) (fun c_308_17 => ?_)
        ·
          refine lv_aload_n hx hb dX6_instruction_322 rfl (lv_at hl 4 rfl) ?_
          refine lv_iload_n hx hb dX6_instruction_323 rfl (lv_at hl 5 rfl) ?_
          refine e_cv (e_runV (C := RX6) (ci := 6) (As := [.int (nI p)]) (rest := []) ⟨hx, hb, hml, hown, hts⟩ (k_X6_pull l D cs b (sI (sI σ 13 0 12 ((gI σ 13 0 12) + 1)) 17 0 p ((nI (plN σ p)) + 1)) p (by first | assumption | omega | decide)) ⟨callB_of 1 hts (gC wC_X6_pull) rfl rfl rfl (hts _ wi_X6) (hts _ wM_X6_69) (by decide +kernel) (by decide), hts _ wN_X6_pull, hts _ wS_X6_pull⟩ hK hH (xo_ok (by decide)).2.2 (Ex_at cs b (sI (sI σ 13 0 12 ((gI σ 13 0 12) + 1)) 17 0 p ((nI (plN σ p)) + 1)) (by decide)) rfl rfl rfl hl.1 rfl (Nat.le_of_ble_eq_true rfl) dX6_instruction_324 (by decide)) hS (fun H locs hH hS => ?_)
          refine lv_goto (tgt := 428) hx hb dX6_instruction_327 (by decide) ?_
          exact e_vret hx hb hr hlk hK hH hS dX6_instruction_428 (congrArg (Ex cs b) (by simp only [f_X6_instruction, if_neg c_12_1, if_neg c_74_5, if_neg c_95_6, if_neg c_95_7, if_neg c_95_8, if_neg c_95_9, if_neg c_95_10, if_neg c_95_11, if_neg c_95_12, if_neg c_95_13, if_pos c_95_16, if_neg c_308_17]))
        ·
          refine lv_aload_n hx hb dX6_instruction_311 rfl (lv_at hl 4 rfl) ?_
          refine fgX6_19 hx hb hts hown hK hH 0 (by decide) dX6_instruction_312 ?_
          refine lv_iload_n hx hb dX6_instruction_315 rfl (lv_at hl 5 rfl) ?_
          refine lv_iload hx hb dX6_instruction_316 (lv_at hl 1 rfl) ?_
          refine x_iast hx hb hK hH hS 17 0 8 (by decide) (fun _ _ => rfl) p rfl (by omega) (by decide) dX6_instruction_318 (fun H locs hH hS => ?_)
          refine lv_goto (tgt := 428) hx hb dX6_instruction_319 (by decide) ?_
          exact e_vret hx hb hr hlk hK hH hS dX6_instruction_428 (congrArg (Ex cs b) (by simp only [f_X6_instruction, if_neg c_12_1, if_neg c_74_5, if_neg c_95_6, if_neg c_95_7, if_neg c_95_8, if_neg c_95_9, if_neg c_95_10, if_neg c_95_11, if_neg c_95_12, if_neg c_95_13, if_pos c_95_16, if_pos c_308_17]))
      by_cases c_95_18 : gI σ 14 0 (2 * (plN σ p)) = 10
      ·
        refine lv_tableIn (off := 235) (tgt := 330) hx hb dX6_instruction_95 (by rw [c_95_18]; decide) (by rw [c_95_18]; decide) (by rw [c_95_18]; rfl) (by decide) ?_
        have hkk := op_kN ((hop _ hal).1 (Or.inr (Or.inr (Or.inl (by assumption)))))
        refine lv_aload_n hx hb dX6_instruction_330 rfl (lv_at hl 4 rfl) ?_
        refine lv_iload_n hx hb dX6_instruction_331 rfl (lv_at hl 5 rfl) ?_
        refine lv_iload hx hb dX6_instruction_332 (lv_at hl 1 rfl) ?_
        rw [hkk.1]
        refine e_cv (e_runV (C := RX6) (ci := 6) (As := [.int (nI p), .int (nI (kN σ p))]) (rest := []) ⟨hx, hb, hml, hown, hts⟩ (k_X6_send l D cs b (sI (sI σ 13 0 12 ((gI σ 13 0 12) + 1)) 17 0 p ((nI (plN σ p)) + 1)) p (kN σ p) hp hkk.2 N hM hN hC) ⟨callB_of 2 hts (gC wC_X6_send) rfl rfl rfl (hts _ wi_X6) (hts _ wM_X6_82) (by decide +kernel) (by decide), hts _ wN_X6_send, hts _ wS_X6_send⟩ hK hH (xo_ok (by decide)).2.2 (Ex_at cs b (sI (sI σ 13 0 12 ((gI σ 13 0 12) + 1)) 17 0 p ((nI (plN σ p)) + 1)) (by decide)) rfl rfl rfl hl.1 rfl (Nat.le_of_ble_eq_true rfl) dX6_instruction_334 (by decide)) hS (fun H locs hH hS => ?_)
        refine lv_goto (tgt := 428) hx hb dX6_instruction_337 (by decide) ?_
        exact e_vret hx hb hr hlk hK hH hS dX6_instruction_428 (congrArg (Ex cs b) (by simp only [f_X6_instruction, if_neg c_12_1, if_neg c_74_5, if_neg c_95_6, if_neg c_95_7, if_neg c_95_8, if_neg c_95_9, if_neg c_95_10, if_neg c_95_11, if_neg c_95_12, if_neg c_95_13, if_neg c_95_16, if_pos c_95_18]))
      by_cases c_95_19 : gI σ 14 0 (2 * (plN σ p)) = 11
      ·
        refine lv_tableIn (off := 245) (tgt := 340) hx hb dX6_instruction_95 (by rw [c_95_19]; decide) (by rw [c_95_19]; decide) (by rw [c_95_19]; rfl) (by decide) ?_
        have hkk := op_kN ((hop _ hal).1 (Or.inr (Or.inr (Or.inr (by assumption)))))
        refine lv_aload_n hx hb dX6_instruction_340 rfl (lv_at hl 4 rfl) ?_
        refine lv_iload_n hx hb dX6_instruction_341 rfl (lv_at hl 5 rfl) ?_
        refine lv_iload hx hb dX6_instruction_342 (lv_at hl 1 rfl) ?_
        rw [hkk.1]
        refine e_cv (e_runV (C := RX6) (ci := 6) (As := [.int (nI p), .int (nI (kN σ p))]) (rest := []) ⟨hx, hb, hml, hown, hts⟩ (k_X6_receive l D cs b (sI (sI σ 13 0 12 ((gI σ 13 0 12) + 1)) 17 0 p ((nI (plN σ p)) + 1)) p (kN σ p) hp hkk.2 N hM hN hC) ⟨callB_of 2 hts (gC wC_X6_receive) rfl rfl rfl (hts _ wi_X6) (hts _ wM_X6_85) (by decide +kernel) (by decide), hts _ wN_X6_receive, hts _ wS_X6_receive⟩ hK hH (xo_ok (by decide)).2.2 (Ex_at cs b (sI (sI σ 13 0 12 ((gI σ 13 0 12) + 1)) 17 0 p ((nI (plN σ p)) + 1)) (by decide)) rfl rfl rfl hl.1 rfl (Nat.le_of_ble_eq_true rfl) dX6_instruction_344 (by decide)) hS (fun H locs hH hS => ?_)
        refine lv_goto (tgt := 428) hx hb dX6_instruction_347 (by decide) ?_
        exact e_vret hx hb hr hlk hK hH hS dX6_instruction_428 (congrArg (Ex cs b) (by simp only [f_X6_instruction, if_neg c_12_1, if_neg c_74_5, if_neg c_95_6, if_neg c_95_7, if_neg c_95_8, if_neg c_95_9, if_neg c_95_10, if_neg c_95_11, if_neg c_95_12, if_neg c_95_13, if_neg c_95_16, if_neg c_95_18, if_pos c_95_19]))
      by_cases c_95_20 : gI σ 14 0 (2 * (plN σ p)) = 12
      ·
        refine lv_tableIn (off := 255) (tgt := 350) hx hb dX6_instruction_95 (by rw [c_95_20]; decide) (by rw [c_95_20]; decide) (by rw [c_95_20]; rfl) (by decide) ?_
        refine lv_aload_n hx hb dX6_instruction_350 rfl (lv_at hl 4 rfl) ?_
        refine lv_iload_n hx hb dX6_instruction_351 rfl (lv_at hl 5 rfl) ?_
        refine lv_aload_n hx hb dX6_instruction_352 rfl (lv_at hl 4 rfl) ?_
        refine fgX6_59 hx hb hts hown hK hH 0 (by decide) dX6_instruction_353 ?_
        refine e_cv (e_runV (C := RX6) (ci := 6) (As := [.int (nI p), .int (gI (sI (sI σ 13 0 12 ((gI σ 13 0 12) + 1)) 17 0 p ((nI (plN σ p)) + 1)) 13 0 11)]) (rest := []) ⟨hx, hb, hml, hown, hts⟩ (k_X6_push l D cs b (sI (sI σ 13 0 12 ((gI σ 13 0 12) + 1)) 17 0 p ((nI (plN σ p)) + 1)) p (gI (sI (sI σ 13 0 12 ((gI σ 13 0 12) + 1)) 17 0 p ((nI (plN σ p)) + 1)) 13 0 11) (by first | assumption | omega | decide)) ⟨callB_of 2 hts (gC wC_X6_push) rfl rfl rfl (hts _ wi_X6) (hts _ wM_X6_65) (by decide +kernel) (by decide), hts _ wN_X6_push, hts _ wS_X6_push⟩ hK hH (xo_ok (by decide)).2.2 (Ex_at cs b (sI (sI σ 13 0 12 ((gI σ 13 0 12) + 1)) 17 0 p ((nI (plN σ p)) + 1)) (by decide)) rfl rfl rfl hl.1 rfl (Nat.le_of_ble_eq_true rfl) dX6_instruction_356 (by decide)) hS (fun H locs hH hS => ?_)
        refine lv_goto (tgt := 428) hx hb dX6_instruction_359 (by decide) ?_
        exact e_vret hx hb hr hlk hK hH hS dX6_instruction_428 (congrArg (Ex cs b) (by simp only [f_X6_instruction, if_neg c_12_1, if_neg c_74_5, if_neg c_95_6, if_neg c_95_7, if_neg c_95_8, if_neg c_95_9, if_neg c_95_10, if_neg c_95_11, if_neg c_95_12, if_neg c_95_13, if_neg c_95_16, if_neg c_95_18, if_neg c_95_19, if_pos c_95_20]))
      by_cases c_95_21 : gI σ 14 0 (2 * (plN σ p)) = 13
      ·
        refine lv_tableIn (off := 267) (tgt := 362) hx hb dX6_instruction_95 (by rw [c_95_21]; decide) (by rw [c_95_21]; decide) (by rw [c_95_21]; rfl) (by decide) ?_
        refine lv_aload_n hx hb dX6_instruction_362 rfl (lv_at hl 4 rfl) ?_
        refine lv_iload_n hx hb dX6_instruction_363 rfl (lv_at hl 5 rfl) ?_
        refine e_cv (e_runV (C := RX6) (ci := 6) (As := [.int (nI p)]) (rest := []) ⟨hx, hb, hml, hown, hts⟩ (k_X6_pull l D cs b (sI (sI σ 13 0 12 ((gI σ 13 0 12) + 1)) 17 0 p ((nI (plN σ p)) + 1)) p (by first | assumption | omega | decide)) ⟨callB_of 1 hts (gC wC_X6_pull) rfl rfl rfl (hts _ wi_X6) (hts _ wM_X6_69) (by decide +kernel) (by decide), hts _ wN_X6_pull, hts _ wS_X6_pull⟩ hK hH (xo_ok (by decide)).2.2 (Ex_at cs b (sI (sI σ 13 0 12 ((gI σ 13 0 12) + 1)) 17 0 p ((nI (plN σ p)) + 1)) (by decide)) rfl rfl rfl hl.1 rfl (Nat.le_of_ble_eq_true rfl) dX6_instruction_364 (by decide)) hS (fun H locs hH hS => ?_)
        refine lv_aload_n hx hb dX6_instruction_367 rfl (lv_at hl 4 rfl) ?_
        refine fgX6_28 hx hb hts hown hK hH 0 (by decide) dX6_instruction_368 ?_
        refine lv_iload_n hx hb dX6_instruction_371 rfl (lv_at hl 5 rfl) ?_
        refine lv_iload hx hb dX6_instruction_372 (lv_at hl 0 rfl) ?_
        refine x_iast hx hb hK hH hS 20 0 8 (by decide) (fun _ _ => rfl) p rfl (by omega) (by decide) dX6_instruction_374 (fun H locs hH hS => ?_)
        refine lv_iload hx hb dX6_instruction_375 (lv_at hl 0 rfl) ?_
        refine lv_aload_n hx hb dX6_instruction_377 rfl (lv_at hl 4 rfl) ?_
        refine fgX6_59 hx hb hts hown hK hH 0 (by decide) dX6_instruction_378 ?_
        refine lv_isub hx hb dX6_instruction_381 ?_
        refine lv_if_le (tgt := 428) hx hb dX6_instruction_382 (by decide) (fun c_382_22 => ?_) (fun c_382_22 => ?_)
        ·
          exact e_vret hx hb hr hlk hK hH hS dX6_instruction_428 (congrArg (Ex cs b) (by simp only [f_X6_instruction, if_neg c_12_1, if_neg c_74_5, if_neg c_95_6, if_neg c_95_7, if_neg c_95_8, if_neg c_95_9, if_neg c_95_10, if_neg c_95_11, if_neg c_95_12, if_neg c_95_13, if_neg c_95_16, if_neg c_95_18, if_neg c_95_19, if_neg c_95_20, if_pos c_95_21, if_pos c_382_22]))
        ·
          refine lv_aload_n hx hb dX6_instruction_385 rfl (lv_at hl 4 rfl) ?_
          refine fgX6_13 hx hb hts hown hK hH 0 (by decide) dX6_instruction_386 ?_
          refine lv_iload_n hx hb dX6_instruction_389 rfl (lv_at hl 5 rfl) ?_
          refine lv_iconst (v := 4) hx hb dX6_instruction_390 (by decide) ?_
          refine x_iast hx hb hK hH hS 15 0 8 (by decide) (fun _ _ => rfl) p rfl (by omega) (by decide) dX6_instruction_391 (fun H locs hH hS => ?_)
          refine lv_goto (tgt := 428) hx hb dX6_instruction_392 (by decide) ?_
          exact e_vret hx hb hr hlk hK hH hS dX6_instruction_428 (congrArg (Ex cs b) (by simp only [f_X6_instruction, if_neg c_12_1, if_neg c_74_5, if_neg c_95_6, if_neg c_95_7, if_neg c_95_8, if_neg c_95_9, if_neg c_95_10, if_neg c_95_11, if_neg c_95_12, if_neg c_95_13, if_neg c_95_16, if_neg c_95_18, if_neg c_95_19, if_neg c_95_20, if_pos c_95_21, if_neg c_382_22]))
      by_cases c_95_23 : gI σ 14 0 (2 * (plN σ p)) = 14
      ·
        refine lv_tableIn (off := 300) (tgt := 395) hx hb dX6_instruction_95 (by rw [c_95_23]; decide) (by rw [c_95_23]; decide) (by rw [c_95_23]; rfl) (by decide) ?_
        refine lv_aload_n hx hb dX6_instruction_395 rfl (lv_at hl 4 rfl) ?_
        refine lv_iload hx hb dX6_instruction_396 (lv_at hl 1 rfl) ?_
        refine lv_iconst (v := 2) hx hb dX6_instruction_398 (by decide) ?_
        refine lv_irem hx hb dX6_instruction_399 (by decide) ?_
        refine lv_iload hx hb dX6_instruction_400 (lv_at hl 1 rfl) ?_
        refine lv_iconst (v := 2) hx hb dX6_instruction_402 (by decide) ?_
        refine lv_idiv hx hb dX6_instruction_403 (by decide) ?_
        refine lv_iload hx hb dX6_instruction_404 (lv_at hl 0 rfl) ?_
        refine e_ci (e_runV (C := RX6) (ci := 6) (As := [.int ((gI σ 14 0 ((2 * (plN σ p)) + 1)) - (gI σ 14 0 ((2 * (plN σ p)) + 1)) / 2 * 2), .int ((gI σ 14 0 ((2 * (plN σ p)) + 1)) / 2), .int (gI σ 18 0 (7 * p))]) (rest := []) ⟨hx, hb, hml, hown, hts⟩ (k_X6_begin l D cs b (sI (sI σ 13 0 12 ((gI σ 13 0 12) + 1)) 17 0 p ((nI (plN σ p)) + 1)) ((gI σ 14 0 ((2 * (plN σ p)) + 1)) - (gI σ 14 0 ((2 * (plN σ p)) + 1)) / 2 * 2) ((gI σ 14 0 ((2 * (plN σ p)) + 1)) / 2) (gI σ 18 0 (7 * p)) ) ⟨callB_of 3 hts (gC wC_X6_begin) rfl rfl rfl (hts _ wi_X6) (hts _ wM_X6_55) (by decide +kernel) (by decide), hts _ wN_X6_begin, hts _ wS_X6_begin⟩ hK hH (xo_ok (by decide)).2.2 (Ex_at cs b (sI (sI σ 13 0 12 ((gI σ 13 0 12) + 1)) 17 0 p ((nI (plN σ p)) + 1)) (by decide)) rfl rfl rfl hl.1 rfl (Nat.le_of_ble_eq_true rfl) dX6_instruction_406 (by decide)) hS (fun H locs hH hS => ?_)
        rcases hq_406_24 : (f_X6_begin (sI (sI σ 13 0 12 ((gI σ 13 0 12) + 1)) 17 0 p ((nI (plN σ p)) + 1)) ((gI σ 14 0 ((2 * (plN σ p)) + 1)) - (gI σ 14 0 ((2 * (plN σ p)) + 1)) / 2 * 2) ((gI σ 14 0 ((2 * (plN σ p)) + 1)) / 2) (gI σ 18 0 (7 * p))).1 with _ | q406_24
        ·
          refine W.eq (g2 := F0 m 409 ls [.int ((-1))]) rfl ?_
          refine lv_istore (lv' := [(6, .int ((-1))), (5, .int (gI σ 18 0 (7 * p))), (4, .int (gI σ 14 0 ((2 * (plN σ p)) + 1))), (3, .int (gI σ 14 0 (2 * (plN σ p)))), (2, .int (nI (plN σ p))), (0, .ref (b + xo 13 0)), (1, .int (nI p))]) hx hb dX6_instruction_409 hl (by decide) rfl (fun ls hl => ?_)
          refine lv_aload_n hx hb dX6_instruction_411 rfl (lv_at hl 5 rfl) ?_
          refine lv_iload_n hx hb dX6_instruction_412 rfl (lv_at hl 6 rfl) ?_
          refine lv_iload hx hb dX6_instruction_413 (lv_at hl 0 rfl) ?_
          refine e_cv (e_runV (C := RX6) (ci := 6) (As := [.int (nI p), .int ((-1))]) (rest := []) ⟨hx, hb, hml, hown, hts⟩ (k_X6_push l D cs b ((f_X6_begin (sI (sI σ 13 0 12 ((gI σ 13 0 12) + 1)) 17 0 p ((nI (plN σ p)) + 1)) ((gI σ 14 0 ((2 * (plN σ p)) + 1)) - (gI σ 14 0 ((2 * (plN σ p)) + 1)) / 2 * 2) ((gI σ 14 0 ((2 * (plN σ p)) + 1)) / 2) (gI σ 18 0 (7 * p))).2) p ((-1)) (by first | assumption | omega | decide)) ⟨callB_of 2 hts (gC wC_X6_push) rfl rfl rfl (hts _ wi_X6) (hts _ wM_X6_65) (by decide +kernel) (by decide), hts _ wN_X6_push, hts _ wS_X6_push⟩ hK hH (xo_ok (by decide)).2.2 (Ex_at cs b ((f_X6_begin (sI (sI σ 13 0 12 ((gI σ 13 0 12) + 1)) 17 0 p ((nI (plN σ p)) + 1)) ((gI σ 14 0 ((2 * (plN σ p)) + 1)) - (gI σ 14 0 ((2 * (plN σ p)) + 1)) / 2 * 2) ((gI σ 14 0 ((2 * (plN σ p)) + 1)) / 2) (gI σ 18 0 (7 * p))).2) (by decide)) rfl rfl rfl hl.1 rfl (Nat.le_of_ble_eq_true rfl) dX6_instruction_415 (by decide)) hS (fun H locs hH hS => ?_)
          refine lv_goto (tgt := 428) hx hb dX6_instruction_418 (by decide) ?_
          exact e_vret hx hb hr hlk hK hH hS dX6_instruction_428 (congrArg (Ex cs b) (by simp only [f_X6_instruction, if_neg c_12_1, if_neg c_74_5, if_neg c_95_6, if_neg c_95_7, if_neg c_95_8, if_neg c_95_9, if_neg c_95_10, if_neg c_95_11, if_neg c_95_12, if_neg c_95_13, if_neg c_95_16, if_neg c_95_18, if_neg c_95_19, if_neg c_95_20, if_neg c_95_21, if_pos c_95_23, hq_406_24, oC_none]))
        ·
          refine W.eq (g2 := F0 m 409 ls [.int (nI q406_24)]) rfl ?_
          refine lv_istore (lv' := [(6, .int (nI q406_24)), (5, .int (gI σ 18 0 (7 * p))), (4, .int (gI σ 14 0 ((2 * (plN σ p)) + 1))), (3, .int (gI σ 14 0 (2 * (plN σ p)))), (2, .int (nI (plN σ p))), (0, .ref (b + xo 13 0)), (1, .int (nI p))]) hx hb dX6_instruction_409 hl (by decide) rfl (fun ls hl => ?_)
          refine lv_aload_n hx hb dX6_instruction_411 rfl (lv_at hl 5 rfl) ?_
          refine lv_iload_n hx hb dX6_instruction_412 rfl (lv_at hl 6 rfl) ?_
          refine lv_iload hx hb dX6_instruction_413 (lv_at hl 0 rfl) ?_
          refine e_cv (e_runV (C := RX6) (ci := 6) (As := [.int (nI p), .int (nI q406_24)]) (rest := []) ⟨hx, hb, hml, hown, hts⟩ (k_X6_push l D cs b ((f_X6_begin (sI (sI σ 13 0 12 ((gI σ 13 0 12) + 1)) 17 0 p ((nI (plN σ p)) + 1)) ((gI σ 14 0 ((2 * (plN σ p)) + 1)) - (gI σ 14 0 ((2 * (plN σ p)) + 1)) / 2 * 2) ((gI σ 14 0 ((2 * (plN σ p)) + 1)) / 2) (gI σ 18 0 (7 * p))).2) p (nI q406_24) (by first | assumption | omega | decide)) ⟨callB_of 2 hts (gC wC_X6_push) rfl rfl rfl (hts _ wi_X6) (hts _ wM_X6_65) (by decide +kernel) (by decide), hts _ wN_X6_push, hts _ wS_X6_push⟩ hK hH (xo_ok (by decide)).2.2 (Ex_at cs b ((f_X6_begin (sI (sI σ 13 0 12 ((gI σ 13 0 12) + 1)) 17 0 p ((nI (plN σ p)) + 1)) ((gI σ 14 0 ((2 * (plN σ p)) + 1)) - (gI σ 14 0 ((2 * (plN σ p)) + 1)) / 2 * 2) ((gI σ 14 0 ((2 * (plN σ p)) + 1)) / 2) (gI σ 18 0 (7 * p))).2) (by decide)) rfl rfl rfl hl.1 rfl (Nat.le_of_ble_eq_true rfl) dX6_instruction_415 (by decide)) hS (fun H locs hH hS => ?_)
          refine lv_goto (tgt := 428) hx hb dX6_instruction_418 (by decide) ?_
          exact e_vret hx hb hr hlk hK hH hS dX6_instruction_428 (congrArg (Ex cs b) (by simp only [f_X6_instruction, if_neg c_12_1, if_neg c_74_5, if_neg c_95_6, if_neg c_95_7, if_neg c_95_8, if_neg c_95_9, if_neg c_95_10, if_neg c_95_11, if_neg c_95_12, if_neg c_95_13, if_neg c_95_16, if_neg c_95_18, if_neg c_95_19, if_neg c_95_20, if_neg c_95_21, if_pos c_95_23, hq_406_24, oC_some]))
      refine lv_tableOut (tgt := 421) hx hb dX6_instruction_95 (by have h1 := ne_i 1 c_95_6 (by decide); have h2 := ne_i 2 c_95_7 (by decide); have h3 := ne_i 3 c_95_8 (by decide); have h4 := ne_i 4 c_95_9 (by decide); have h5 := ne_i 5 c_95_10 (by decide); have h6 := ne_i 6 c_95_11 (by decide); have h7 := ne_i 7 c_95_12 (by decide); have h8 := ne_i 8 c_95_13 (by decide); have h9 := ne_i 9 c_95_16 (by decide); have h10 := ne_i 10 c_95_18 (by decide); have h11 := ne_i 11 c_95_19 (by decide); have h12 := ne_i 12 c_95_20 (by decide); have h13 := ne_i 13 c_95_21 (by decide); have h14 := ne_i 14 c_95_23 (by decide); omega) (by decide) ?_
      refine lv_aload_n hx hb dX6_instruction_421 rfl (lv_at hl 4 rfl) ?_
      refine fgX6_13 hx hb hts hown hK hH 0 (by decide) dX6_instruction_422 ?_
      refine lv_iload_n hx hb dX6_instruction_425 rfl (lv_at hl 5 rfl) ?_
      refine lv_iconst (v := 0) hx hb dX6_instruction_426 (by decide) ?_
      refine x_iast hx hb hK hH hS 15 0 8 (by decide) (fun _ _ => rfl) p rfl (by omega) (by decide) dX6_instruction_427 (fun H locs hH hS => ?_)
      exact e_vret hx hb hr hlk hK hH hS dX6_instruction_428 (congrArg (Ex cs b) (by simp only [f_X6_instruction, if_neg c_12_1, if_neg c_74_5, if_neg c_95_6, if_neg c_95_7, if_neg c_95_8, if_neg c_95_9, if_neg c_95_10, if_neg c_95_11, if_neg c_95_12, if_neg c_95_13, if_neg c_95_16, if_neg c_95_18, if_neg c_95_19, if_neg c_95_20, if_neg c_95_21, if_neg c_95_23]))
    ·
      refine lv_aload_n hx hb dX6_instruction_77 rfl (lv_at hl 4 rfl) ?_
      refine fgX6_13 hx hb hts hown hK hH 0 (by decide) dX6_instruction_78 ?_
      refine lv_iload_n hx hb dX6_instruction_81 rfl (lv_at hl 5 rfl) ?_
      refine lv_iconst (v := 5) hx hb dX6_instruction_82 (by decide) ?_
      refine x_iast hx hb hK hH hS 15 0 8 (by decide) (fun _ _ => rfl) p rfl (by omega) (by decide) dX6_instruction_83 (fun H locs hH hS => ?_)
      exact e_vret hx hb hr hlk hK hH hS dX6_instruction_84 (congrArg (Ex cs b) (by simp only [f_X6_instruction, if_neg c_12_1, if_pos c_74_5]))
