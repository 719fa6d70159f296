def f_X5_execute (σ : St) (q : Nat) : St := (if f_X3_opAt σ (gI σ 5 q 4) = 0 then sI (sI σ 5 q 9 ((gI σ 5 q 9) + 1)) 5 q 2 5 else (if f_X3_opAt σ (gI σ 5 q 4) = 1 then sI (f_X5_compute (sI σ 5 q 9 ((gI σ 5 q 9) + 1)) q (f_X3_opAt σ (gI σ 5 q 4)) (f_X3_operandAt σ (gI σ 5 q 4))) 5 q 4 ((gI (f_X5_compute (sI σ 5 q 9 ((gI σ 5 q 9) + 1)) q (f_X3_opAt σ (gI σ 5 q 4)) (f_X3_operandAt σ (gI σ 5 q 4))) 5 q 4) + 1) else (if f_X3_opAt σ (gI σ 5 q 4) = 2 then sI (f_X5_compute (sI σ 5 q 9 ((gI σ 5 q 9) + 1)) q (f_X3_opAt σ (gI σ 5 q 4)) (f_X3_operandAt σ (gI σ 5 q 4))) 5 q 4 ((gI (f_X5_compute (sI σ 5 q 9 ((gI σ 5 q 9) + 1)) q (f_X3_opAt σ (gI σ 5 q 4)) (f_X3_operandAt σ (gI σ 5 q 4))) 5 q 4) + 1) else (if f_X3_opAt σ (gI σ 5 q 4) = 3 then sI (f_X5_compute (sI σ 5 q 9 ((gI σ 5 q 9) + 1)) q (f_X3_opAt σ (gI σ 5 q 4)) (f_X3_operandAt σ (gI σ 5 q 4))) 5 q 4 ((gI (f_X5_compute (sI σ 5 q 9 ((gI σ 5 q 9) + 1)) q (f_X3_opAt σ (gI σ 5 q 4)) (f_X3_operandAt σ (gI σ 5 q 4))) 5 q 4) + 1) else (if f_X3_opAt σ (gI σ 5 q 4) = 4 then sI (f_X5_compute (sI σ 5 q 9 ((gI σ 5 q 9) + 1)) q (f_X3_opAt σ (gI σ 5 q 4)) (f_X3_operandAt σ (gI σ 5 q 4))) 5 q 4 ((gI (f_X5_compute (sI σ 5 q 9 ((gI σ 5 q 9) + 1)) q (f_X3_opAt σ (gI σ 5 q 4)) (f_X3_operandAt σ (gI σ 5 q 4))) 5 q 4) + 1) else (if f_X3_opAt σ (gI σ 5 q 4) = 5 then sI (f_X5_compute (sI σ 5 q 9 ((gI σ 5 q 9) + 1)) q (f_X3_opAt σ (gI σ 5 q 4)) (f_X3_operandAt σ (gI σ 5 q 4))) 5 q 4 ((gI (f_X5_compute (sI σ 5 q 9 ((gI σ 5 q 9) + 1)) q (f_X3_opAt σ (gI σ 5 q 4)) (f_X3_operandAt σ (gI σ 5 q 4))) 5 q 4) + 1) else (if f_X3_opAt σ (gI σ 5 q 4) = 6 then sI (f_X5_compute (sI σ 5 q 9 ((gI σ 5 q 9) + 1)) q (f_X3_opAt σ (gI σ 5 q 4)) (f_X3_operandAt σ (gI σ 5 q 4))) 5 q 4 ((gI (f_X5_compute (sI σ 5 q 9 ((gI σ 5 q 9) + 1)) q (f_X3_opAt σ (gI σ 5 q 4)) (f_X3_operandAt σ (gI σ 5 q 4))) 5 q 4) + 1) else (if f_X3_opAt σ (gI σ 5 q 4) = 7 then sI (f_X5_compute (sI σ 5 q 9 ((gI σ 5 q 9) + 1)) q (f_X3_opAt σ (gI σ 5 q 4)) (f_X3_operandAt σ (gI σ 5 q 4))) 5 q 4 ((gI (f_X5_compute (sI σ 5 q 9 ((gI σ 5 q 9) + 1)) q (f_X3_opAt σ (gI σ 5 q 4)) (f_X3_operandAt σ (gI σ 5 q 4))) 5 q 4) + 1) else (if f_X3_opAt σ (gI σ 5 q 4) = 8 then f_X5_jump (sI σ 5 q 9 ((gI σ 5 q 9) + 1)) q (f_X3_operandAt σ (gI σ 5 q 4)) else (if f_X3_opAt σ (gI σ 5 q 4) = 9 then f_X5_jumpIfZero (sI σ 5 q 9 ((gI σ 5 q 9) + 1)) q (f_X3_operandAt σ (gI σ 5 q 4)) else (if f_X3_opAt σ (gI σ 5 q 4) = 10 then (oC (f_X5_channelAt (sI σ 5 q 9 ((gI σ 5 q 9) + 1)) (f_X3_operandAt σ (gI σ 5 q 4))) (f_X5_sendN (sI σ 5 q 9 ((gI σ 5 q 9) + 1)) q) (fun q134_12 => f_X5_send (sI σ 5 q 9 ((gI σ 5 q 9) + 1)) q q134_12)) else (if f_X3_opAt σ (gI σ 5 q 4) = 11 then (oC (f_X5_channelAt (sI σ 5 q 9 ((gI σ 5 q 9) + 1)) (f_X3_operandAt σ (gI σ 5 q 4))) (f_X5_receiveN (sI σ 5 q 9 ((gI σ 5 q 9) + 1)) q) (fun q147_14 => f_X5_receive (sI σ 5 q 9 ((gI σ 5 q 9) + 1)) q q147_14)) else (if f_X3_opAt σ (gI σ 5 q 4) = 12 then sI (f_X5_compute (sI σ 5 q 9 ((gI σ 5 q 9) + 1)) q (f_X3_opAt σ (gI σ 5 q 4)) (f_X3_operandAt σ (gI σ 5 q 4))) 5 q 4 ((gI (f_X5_compute (sI σ 5 q 9 ((gI σ 5 q 9) + 1)) q (f_X3_opAt σ (gI σ 5 q 4)) (f_X3_operandAt σ (gI σ 5 q 4))) 5 q 4) + 1) else (if f_X3_opAt σ (gI σ 5 q 4) = 13 then f_X5_awaitTime (sI σ 5 q 9 ((gI σ 5 q 9) + 1)) q else (if f_X3_opAt σ (gI σ 5 q 4) = 14 then (if (f_X3_operandAt σ (gI σ 5 q 4)) &&& 1 = 0 then sI (f_X2_put ((f_X5_startLeastFree (sI σ 5 q 9 ((gI σ 5 q 9) + 1)) 0 ((f_X3_operandAt σ (gI σ 5 q 4)) / 2) (gI (sI σ 5 q 9 ((gI σ 5 q 9) + 1)) 5 q 5)).2) q ((f_X5_startLeastFree (sI σ 5 q 9 ((gI σ 5 q 9) + 1)) 0 ((f_X3_operandAt σ (gI σ 5 q 4)) / 2) (gI (sI σ 5 q 9 ((gI σ 5 q 9) + 1)) 5 q 5)).1)) 5 q 4 ((gI (f_X2_put ((f_X5_startLeastFree (sI σ 5 q 9 ((gI σ 5 q 9) + 1)) 0 ((f_X3_operandAt σ (gI σ 5 q 4)) / 2) (gI (sI σ 5 q 9 ((gI σ 5 q 9) + 1)) 5 q 5)).2) q ((f_X5_startLeastFree (sI σ 5 q 9 ((gI σ 5 q 9) + 1)) 0 ((f_X3_operandAt σ (gI σ 5 q 4)) / 2) (gI (sI σ 5 q 9 ((gI σ 5 q 9) + 1)) 5 q 5)).1)) 5 q 4) + 1) else sI (f_X2_put ((f_X5_startLeastFree (sI σ 5 q 9 ((gI σ 5 q 9) + 1)) 1 ((f_X3_operandAt σ (gI σ 5 q 4)) / 2) (gI (sI σ 5 q 9 ((gI σ 5 q 9) + 1)) 5 q 5)).2) q ((f_X5_startLeastFree (sI σ 5 q 9 ((gI σ 5 q 9) + 1)) 1 ((f_X3_operandAt σ (gI σ 5 q 4)) / 2) (gI (sI σ 5 q 9 ((gI σ 5 q 9) + 1)) 5 q 5)).1)) 5 q 4 ((gI (f_X2_put ((f_X5_startLeastFree (sI σ 5 q 9 ((gI σ 5 q 9) + 1)) 1 ((f_X3_operandAt σ (gI σ 5 q 4)) / 2) (gI (sI σ 5 q 9 ((gI σ 5 q 9) + 1)) 5 q 5)).2) q ((f_X5_startLeastFree (sI σ 5 q 9 ((gI σ 5 q 9) + 1)) 1 ((f_X3_operandAt σ (gI σ 5 q 4)) / 2) (gI (sI σ 5 q 9 ((gI σ 5 q 9) + 1)) 5 q 5)).1)) 5 q 4) + 1)) else (if f_X3_opAt σ (gI σ 5 q 4) = 15 then sI (sI σ 5 q 9 ((gI σ 5 q 9) + 1)) 5 q 2 0 else sI (f_X5_compute (sI σ 5 q 9 ((gI σ 5 q 9) + 1)) q (f_X3_opAt σ (gI σ 5 q 4)) (f_X3_operandAt σ (gI σ 5 q 4))) 5 q 4 ((gI (f_X5_compute (sI σ 5 q 9 ((gI σ 5 q 9) + 1)) q (f_X3_opAt σ (gI σ 5 q 4)) (f_X3_operandAt σ (gI σ 5 q 4))) 5 q 4) + 1)))))))))))))))))
set_option maxRecDepth 100000 in
set_option maxHeartbeats 4000000 in
theorem k_X5_execute (l : Launch) (D : va_G) (cs : Nat → ClassId) (b : Nat) (σ : St) (q : Nat) (hq : q < 8) (hwt : ∀ k p, gR σ 8 k 1 = some p → p < 8) : Met l yX5_execute (Cond.code yX5_execute cX5_execute 4 (none : Option FieldType) :: T0) { frames := 4, cells := 0, slots := 0, locals := 94 } (Pe D (tyx cs) b 43 (Ex cs b σ) [.ref (b + xo 0 0), .ref (b + xo 5 q)]) (Qv D (tyx cs) b 43 (Ex cs b (f_X5_execute σ q))) 0 0 (fun a => b ≤ a) := by
  refine e_met (by decide) rfl (Nat.le_of_ble_eq_true rfl) (fun pg e s m below meth c ls hx hb hr hml hts0 hown hlk hnm hH hK hl hS => ?_)
  have hts : ∀ w ∈ T0, w.before _ s = true := fun w h => hts0 w (List.mem_cons_of_mem _ h)
  have hl : lv_has ls 4 [(0, .ref (b + xo 0 0)), (1, .ref (b + xo 5 q))] := hl
  refine lv_aload_n hx hb dX5_execute_0 rfl (lv_at hl 0 rfl) ?_
  refine fgX5_10 hx hb hts hown hK hH 0 (by decide) dX5_execute_1 ?_
  refine lv_aload_n hx hb dX5_execute_4 rfl (lv_at hl 1 rfl) ?_
  refine fgX5_167 hx hb hts hown hK hH q (show q < 8 by first | assumption | omega) dX5_execute_5 ?_
  refine e_ci (e_runV (C := RX3) (ci := 3) (As := [.int (gI σ 5 q 4)]) (rest := []) ⟨hx, hb, hml, hown, hts⟩ (k_X3_opAt l D cs b σ (gI σ 5 q 4) ) ⟨callB_of 1 hts (gC wC_X3_opAt) rfl rfl rfl (hts _ wi_X3) (hts _ wM_X5_170) (by decide +kernel) (by decide), hts _ wN_X3_opAt, hts _ wS_X3_opAt⟩ hK hH (xo_ok (by decide)).2.2 (Ex_at cs b σ (by decide)) rfl rfl rfl hl.1 rfl (Nat.le_of_ble_eq_true rfl) dX5_execute_8 (by decide)) hS (fun H locs hH hS => ?_)
  refine lv_istore_n (lv' := [(2, .int (f_X3_opAt σ (gI σ 5 q 4))), (0, .ref (b + xo 0 0)), (1, .ref (b + xo 5 q))]) hx hb dX5_execute_11 rfl hl (by decide) rfl (fun ls hl => ?_)
  refine lv_aload_n hx hb dX5_execute_12 rfl (lv_at hl 1 rfl) ?_
  refine fgX5_10 hx hb hts hown hK hH 0 (by decide) dX5_execute_13 ?_
  refine lv_aload_n hx hb dX5_execute_16 rfl (lv_at hl 2 rfl) ?_
  refine fgX5_167 hx hb hts hown hK hH q (show q < 8 by first | assumption | omega) dX5_execute_17 ?_
  refine e_ci (e_runV (C := RX3) (ci := 3) (As := [.int (gI σ 5 q 4)]) (rest := []) ⟨hx, hb, hml, hown, hts⟩ (k_X3_operandAt l D cs b σ (gI σ 5 q 4) ) ⟨callB_of 1 hts (gC wC_X3_operandAt) rfl rfl rfl (hts _ wi_X3) (hts _ wM_X5_173) (by decide +kernel) (by decide), hts _ wN_X3_operandAt, hts _ wS_X3_operandAt⟩ hK hH (xo_ok (by decide)).2.2 (Ex_at cs b σ (by decide)) rfl rfl rfl hl.1 rfl (Nat.le_of_ble_eq_true rfl) dX5_execute_20 (by decide)) hS (fun H locs hH hS => ?_)
  refine lv_istore_n (lv' := [(3, .int (f_X3_operandAt σ (gI σ 5 q 4))), (2, .int (f_X3_opAt σ (gI σ 5 q 4))), (0, .ref (b + xo 0 0)), (1, .ref (b + xo 5 q))]) hx hb dX5_execute_23 rfl hl (by decide) rfl (fun ls hl => ?_)
  refine lv_aload_n hx hb dX5_execute_24 rfl (lv_at hl 3 rfl) ?_
  refine lv_dup hx hb dX5_execute_25 rfl ?_
  refine fgX5_164 hx hb hts hown hK hH q (show q < 8 by first | assumption | omega) dX5_execute_26 ?_
  refine lv_iconst (v := 1) hx hb dX5_execute_29 (by decide) ?_
  refine lv_iadd hx hb dX5_execute_30 ?_
  refine fpX5_164 hx hb hts hown hK hH hS q (show q < 8 by first | assumption | omega) dX5_execute_31 (fun H locs hH hS => ?_)
  refine lv_iload_n hx hb dX5_execute_34 rfl (lv_at hl 1 rfl) ?_
  by_cases c_35_1 : f_X3_opAt σ (gI σ 5 q 4) = 0
  ·
    refine lv_tableIn (off := 176) (tgt := 211) hx hb dX5_execute_35 (by rw [c_35_1]; decide) (by rw [c_35_1]; decide) (by rw [c_35_1]; rfl) (by decide) ?_
    refine lv_aload_n hx hb dX5_execute_211 rfl (lv_at hl 3 rfl) ?_
    refine lv_iconst (v := 5) hx hb dX5_execute_212 (by decide) ?_
    refine fpX5_80 hx hb hts hown hK hH hS q (show q < 8 by first | assumption | omega) dX5_execute_213 (fun H locs hH hS => ?_)
    refine lv_goto (tgt := 236) hx hb dX5_execute_216 (by decide) ?_
    exact e_vret hx hb hr hlk hK hH hS dX5_execute_236 (congrArg (Ex cs b) (by simp only [f_X5_execute, if_pos c_35_1]))
  by_cases c_35_2 : f_X3_opAt σ (gI σ 5 q 4) = 1
  ·
    refine lv_tableIn (off := 184) (tgt := 219) hx hb dX5_execute_35 (by rw [c_35_2]; decide) (by rw [c_35_2]; decide) (by rw [c_35_2]; rfl) (by decide) ?_
    refine lv_aload_n hx hb dX5_execute_219 rfl (lv_at hl 2 rfl) ?_
    refine lv_aload_n hx hb dX5_execute_220 rfl (lv_at hl 3 rfl) ?_
    refine lv_iload_n hx hb dX5_execute_221 rfl (lv_at hl 1 rfl) ?_
    refine lv_iload_n hx hb dX5_execute_222 rfl (lv_at hl 0 rfl) ?_
    refine e_cv (e_runV (C := RX5) (ci := 5) (As := [.ref (b + xo 5 q), .int (f_X3_opAt σ (gI σ 5 q 4)), .int (f_X3_operandAt σ (gI σ 5 q 4))]) (rest := []) ⟨hx, hb, hml, hown, hts⟩ (k_X5_compute l D cs b (sI σ 5 q 9 ((gI σ 5 q 9) + 1)) q (f_X3_opAt σ (gI σ 5 q 4)) (f_X3_operandAt σ (gI σ 5 q 4)) (by first | assumption | omega | decide)) ⟨callB_of 3 hts (gC wC_X5_compute) rfl rfl rfl (hts _ wi_X5) (hts _ wM_X5_199) (by decide +kernel) (by decide), hts _ wN_X5_compute, hts _ wS_X5_compute⟩ hK hH (xo_ok (by decide)).2.2 (Ex_at cs b (sI σ 5 q 9 ((gI σ 5 q 9) + 1)) (by decide)) rfl rfl rfl hl.1 rfl (Nat.le_of_ble_eq_true rfl) dX5_execute_223 (by decide)) hS (fun H locs hH hS => ?_)
    refine lv_aload_n hx hb dX5_execute_226 rfl (lv_at hl 3 rfl) ?_
    refine lv_dup hx hb dX5_execute_227 rfl ?_
    refine fgX5_167 hx hb hts hown hK hH q (show q < 8 by first | assumption | omega) dX5_execute_228 ?_
    refine lv_iconst (v := 1) hx hb dX5_execute_231 (by decide) ?_
    refine lv_iadd hx hb dX5_execute_232 ?_
    refine fpX5_167 hx hb hts hown hK hH hS q (show q < 8 by first | assumption | omega) dX5_execute_233 (fun H locs hH hS => ?_)
    exact e_vret hx hb hr hlk hK hH hS dX5_execute_236 (congrArg (Ex cs b) (by simp only [f_X5_execute, if_neg c_35_1, if_pos c_35_2]))
  by_cases c_35_3 : f_X3_opAt σ (gI σ 5 q 4) = 2
  ·
    refine lv_tableIn (off := 184) (tgt := 219) hx hb dX5_execute_35 (by rw [c_35_3]; decide) (by rw [c_35_3]; decide) (by rw [c_35_3]; rfl) (by decide) ?_
    refine lv_aload_n hx hb dX5_execute_219 rfl (lv_at hl 2 rfl) ?_
    refine lv_aload_n hx hb dX5_execute_220 rfl (lv_at hl 3 rfl) ?_
    refine lv_iload_n hx hb dX5_execute_221 rfl (lv_at hl 1 rfl) ?_
    refine lv_iload_n hx hb dX5_execute_222 rfl (lv_at hl 0 rfl) ?_
    refine e_cv (e_runV (C := RX5) (ci := 5) (As := [.ref (b + xo 5 q), .int (f_X3_opAt σ (gI σ 5 q 4)), .int (f_X3_operandAt σ (gI σ 5 q 4))]) (rest := []) ⟨hx, hb, hml, hown, hts⟩ (k_X5_compute l D cs b (sI σ 5 q 9 ((gI σ 5 q 9) + 1)) q (f_X3_opAt σ (gI σ 5 q 4)) (f_X3_operandAt σ (gI σ 5 q 4)) (by first | assumption | omega | decide)) ⟨callB_of 3 hts (gC wC_X5_compute) rfl rfl rfl (hts _ wi_X5) (hts _ wM_X5_199) (by decide +kernel) (by decide), hts _ wN_X5_compute, hts _ wS_X5_compute⟩ hK hH (xo_ok (by decide)).2.2 (Ex_at cs b (sI σ 5 q 9 ((gI σ 5 q 9) + 1)) (by decide)) rfl rfl rfl hl.1 rfl (Nat.le_of_ble_eq_true rfl) dX5_execute_223 (by decide)) hS (fun H locs hH hS => ?_)
    refine lv_aload_n hx hb dX5_execute_226 rfl (lv_at hl 3 rfl) ?_
    refine lv_dup hx hb dX5_execute_227 rfl ?_
    refine fgX5_167 hx hb hts hown hK hH q (show q < 8 by first | assumption | omega) dX5_execute_228 ?_
    refine lv_iconst (v := 1) hx hb dX5_execute_231 (by decide) ?_
    refine lv_iadd hx hb dX5_execute_232 ?_
    refine fpX5_167 hx hb hts hown hK hH hS q (show q < 8 by first | assumption | omega) dX5_execute_233 (fun H locs hH hS => ?_)
    exact e_vret hx hb hr hlk hK hH hS dX5_execute_236 (congrArg (Ex cs b) (by simp only [f_X5_execute, if_neg c_35_1, if_neg c_35_2, if_pos c_35_3]))
  by_cases c_35_4 : f_X3_opAt σ (gI σ 5 q 4) = 3
  ·
    refine lv_tableIn (off := 184) (tgt := 219) hx hb dX5_execute_35 (by rw [c_35_4]; decide) (by rw [c_35_4]; decide) (by rw [c_35_4]; rfl) (by decide) ?_
    refine lv_aload_n hx hb dX5_execute_219 rfl (lv_at hl 2 rfl) ?_
    refine lv_aload_n hx hb dX5_execute_220 rfl (lv_at hl 3 rfl) ?_
    refine lv_iload_n hx hb dX5_execute_221 rfl (lv_at hl 1 rfl) ?_
    refine lv_iload_n hx hb dX5_execute_222 rfl (lv_at hl 0 rfl) ?_
    refine e_cv (e_runV (C := RX5) (ci := 5) (As := [.ref (b + xo 5 q), .int (f_X3_opAt σ (gI σ 5 q 4)), .int (f_X3_operandAt σ (gI σ 5 q 4))]) (rest := []) ⟨hx, hb, hml, hown, hts⟩ (k_X5_compute l D cs b (sI σ 5 q 9 ((gI σ 5 q 9) + 1)) q (f_X3_opAt σ (gI σ 5 q 4)) (f_X3_operandAt σ (gI σ 5 q 4)) (by first | assumption | omega | decide)) ⟨callB_of 3 hts (gC wC_X5_compute) rfl rfl rfl (hts _ wi_X5) (hts _ wM_X5_199) (by decide +kernel) (by decide), hts _ wN_X5_compute, hts _ wS_X5_compute⟩ hK hH (xo_ok (by decide)).2.2 (Ex_at cs b (sI σ 5 q 9 ((gI σ 5 q 9) + 1)) (by decide)) rfl rfl rfl hl.1 rfl (Nat.le_of_ble_eq_true rfl) dX5_execute_223 (by decide)) hS (fun H locs hH hS => ?_)
    refine lv_aload_n hx hb dX5_execute_226 rfl (lv_at hl 3 rfl) ?_
    refine lv_dup hx hb dX5_execute_227 rfl ?_
    refine fgX5_167 hx hb hts hown hK hH q (show q < 8 by first | assumption | omega) dX5_execute_228 ?_
    refine lv_iconst (v := 1) hx hb dX5_execute_231 (by decide) ?_
    refine lv_iadd hx hb dX5_execute_232 ?_
    refine fpX5_167 hx hb hts hown hK hH hS q (show q < 8 by first | assumption | omega) dX5_execute_233 (fun H locs hH hS => ?_)
    exact e_vret hx hb hr hlk hK hH hS dX5_execute_236 (congrArg (Ex cs b) (by simp only [f_X5_execute, if_neg c_35_1, if_neg c_35_2, if_neg c_35_3, if_pos c_35_4]))
  by_cases c_35_5 : f_X3_opAt σ (gI σ 5 q 4) = 4
  ·
    refine lv_tableIn (off := 184) (tgt := 219) hx hb dX5_execute_35 (by rw [c_35_5]; decide) (by rw [c_35_5]; decide) (by rw [c_35_5]; rfl) (by decide) ?_
    refine lv_aload_n hx hb dX5_execute_219 rfl (lv_at hl 2 rfl) ?_
    refine lv_aload_n hx hb dX5_execute_220 rfl (lv_at hl 3 rfl) ?_
    refine lv_iload_n hx hb dX5_execute_221 rfl (lv_at hl 1 rfl) ?_
    refine lv_iload_n hx hb dX5_execute_222 rfl (lv_at hl 0 rfl) ?_
    refine e_cv (e_runV (C := RX5) (ci := 5) (As := [.ref (b + xo 5 q), .int (f_X3_opAt σ (gI σ 5 q 4)), .int (f_X3_operandAt σ (gI σ 5 q 4))]) (rest := []) ⟨hx, hb, hml, hown, hts⟩ (k_X5_compute l D cs b (sI σ 5 q 9 ((gI σ 5 q 9) + 1)) q (f_X3_opAt σ (gI σ 5 q 4)) (f_X3_operandAt σ (gI σ 5 q 4)) (by first | assumption | omega | decide)) ⟨callB_of 3 hts (gC wC_X5_compute) rfl rfl rfl (hts _ wi_X5) (hts _ wM_X5_199) (by decide +kernel) (by decide), hts _ wN_X5_compute, hts _ wS_X5_compute⟩ hK hH (xo_ok (by decide)).2.2 (Ex_at cs b (sI σ 5 q 9 ((gI σ 5 q 9) + 1)) (by decide)) rfl rfl rfl hl.1 rfl (Nat.le_of_ble_eq_true rfl) dX5_execute_223 (by decide)) hS (fun H locs hH hS => ?_)
    refine lv_aload_n hx hb dX5_execute_226 rfl (lv_at hl 3 rfl) ?_
    refine lv_dup hx hb dX5_execute_227 rfl ?_
    refine fgX5_167 hx hb hts hown hK hH q (show q < 8 by first | assumption | omega) dX5_execute_228 ?_
    refine lv_iconst (v := 1) hx hb dX5_execute_231 (by decide) ?_
    refine lv_iadd hx hb dX5_execute_232 ?_
    refine fpX5_167 hx hb hts hown hK hH hS q (show q < 8 by first | assumption | omega) dX5_execute_233 (fun H locs hH hS => ?_)
    exact e_vret hx hb hr hlk hK hH hS dX5_execute_236 (congrArg (Ex cs b) (by simp only [f_X5_execute, if_neg c_35_1, if_neg c_35_2, if_neg c_35_3, if_neg c_35_4, if_pos c_35_5]))
  by_cases c_35_6 : f_X3_opAt σ (gI σ 5 q 4) = 5
  ·
    refine lv_tableIn (off := 184) (tgt := 219) hx hb dX5_execute_35 (by rw [c_35_6]; decide) (by rw [c_35_6]; decide) (by rw [c_35_6]; rfl) (by decide) ?_
    refine lv_aload_n hx hb dX5_execute_219 rfl (lv_at hl 2 rfl) ?_
    refine lv_aload_n hx hb dX5_execute_220 rfl (lv_at hl 3 rfl) ?_
    refine lv_iload_n hx hb dX5_execute_221 rfl (lv_at hl 1 rfl) ?_
    refine lv_iload_n hx hb dX5_execute_222 rfl (lv_at hl 0 rfl) ?_
    refine e_cv (e_runV (C := RX5) (ci := 5) (As := [.ref (b + xo 5 q), .int (f_X3_opAt σ (gI σ 5 q 4)), .int (f_X3_operandAt σ (gI σ 5 q 4))]) (rest := []) ⟨hx, hb, hml, hown, hts⟩ (k_X5_compute l D cs b (sI σ 5 q 9 ((gI σ 5 q 9) + 1)) q (f_X3_opAt σ (gI σ 5 q 4)) (f_X3_operandAt σ (gI σ 5 q 4)) (by first | assumption | omega | decide)) ⟨callB_of 3 hts (gC wC_X5_compute) rfl rfl rfl (hts _ wi_X5) (hts _ wM_X5_199) (by decide +kernel) (by decide), hts _ wN_X5_compute, hts _ wS_X5_compute⟩ hK hH (xo_ok (by decide)).2.2 (Ex_at cs b (sI σ 5 q 9 ((gI σ 5 q 9) + 1)) (by decide)) rfl rfl rfl hl.1 rfl (Nat.le_of_ble_eq_true rfl) dX5_execute_223 (by decide)) hS (fun H locs hH hS => ?_)
    refine lv_aload_n hx hb dX5_execute_226 rfl (lv_at hl 3 rfl) ?_
    refine lv_dup hx hb dX5_execute_227 rfl ?_
    refine fgX5_167 hx hb hts hown hK hH q (show q < 8 by first | assumption | omega) dX5_execute_228 ?_
    refine lv_iconst (v := 1) hx hb dX5_execute_231 (by decide) ?_
    refine lv_iadd hx hb dX5_execute_232 ?_
    refine fpX5_167 hx hb hts hown hK hH hS q (show q < 8 by first | assumption | omega) dX5_execute_233 (fun H locs hH hS => ?_)
    exact e_vret hx hb hr hlk hK hH hS dX5_execute_236 (congrArg (Ex cs b) (by simp only [f_X5_execute, if_neg c_35_1, if_neg c_35_2, if_neg c_35_3, if_neg c_35_4, if_neg c_35_5, if_pos c_35_6]))
  by_cases c_35_7 : f_X3_opAt σ (gI σ 5 q 4) = 6
  ·
    refine lv_tableIn (off := 184) (tgt := 219) hx hb dX5_execute_35 (by rw [c_35_7]; decide) (by rw [c_35_7]; decide) (by rw [c_35_7]; rfl) (by decide) ?_
    refine lv_aload_n hx hb dX5_execute_219 rfl (lv_at hl 2 rfl) ?_
    refine lv_aload_n hx hb dX5_execute_220 rfl (lv_at hl 3 rfl) ?_
    refine lv_iload_n hx hb dX5_execute_221 rfl (lv_at hl 1 rfl) ?_
    refine lv_iload_n hx hb dX5_execute_222 rfl (lv_at hl 0 rfl) ?_
    refine e_cv (e_runV (C := RX5) (ci := 5) (As := [.ref (b + xo 5 q), .int (f_X3_opAt σ (gI σ 5 q 4)), .int (f_X3_operandAt σ (gI σ 5 q 4))]) (rest := []) ⟨hx, hb, hml, hown, hts⟩ (k_X5_compute l D cs b (sI σ 5 q 9 ((gI σ 5 q 9) + 1)) q (f_X3_opAt σ (gI σ 5 q 4)) (f_X3_operandAt σ (gI σ 5 q 4)) (by first | assumption | omega | decide)) ⟨callB_of 3 hts (gC wC_X5_compute) rfl rfl rfl (hts _ wi_X5) (hts _ wM_X5_199) (by decide +kernel) (by decide), hts _ wN_X5_compute, hts _ wS_X5_compute⟩ hK hH (xo_ok (by decide)).2.2 (Ex_at cs b (sI σ 5 q 9 ((gI σ 5 q 9) + 1)) (by decide)) rfl rfl rfl hl.1 rfl (Nat.le_of_ble_eq_true rfl) dX5_execute_223 (by decide)) hS (fun H locs hH hS => ?_)
    refine lv_aload_n hx hb dX5_execute_226 rfl (lv_at hl 3 rfl) ?_
    refine lv_dup hx hb dX5_execute_227 rfl ?_
    refine fgX5_167 hx hb hts hown hK hH q (show q < 8 by first | assumption | omega) dX5_execute_228 ?_
    refine lv_iconst (v := 1) hx hb dX5_execute_231 (by decide) ?_
    refine lv_iadd hx hb dX5_execute_232 ?_
    refine fpX5_167 hx hb hts hown hK hH hS q (show q < 8 by first | assumption | omega) dX5_execute_233 (fun H locs hH hS => ?_)
    exact e_vret hx hb hr hlk hK hH hS dX5_execute_236 (congrArg (Ex cs b) (by simp only [f_X5_execute, if_neg c_35_1, if_neg c_35_2, if_neg c_35_3, if_neg c_35_4, if_neg c_35_5, if_neg c_35_6, if_pos c_35_7]))
  by_cases c_35_8 : f_X3_opAt σ (gI σ 5 q 4) = 7
  ·
    refine lv_tableIn (off := 184) (tgt := 219) hx hb dX5_execute_35 (by rw [c_35_8]; decide) (by rw [c_35_8]; decide) (by rw [c_35_8]; rfl) (by decide) ?_
    refine lv_aload_n hx hb dX5_execute_219 rfl (lv_at hl 2 rfl) ?_
    refine lv_aload_n hx hb dX5_execute_220 rfl (lv_at hl 3 rfl) ?_
    refine lv_iload_n hx hb dX5_execute_221 rfl (lv_at hl 1 rfl) ?_
    refine lv_iload_n hx hb dX5_execute_222 rfl (lv_at hl 0 rfl) ?_
    refine e_cv (e_runV (C := RX5) (ci := 5) (As := [.ref (b + xo 5 q), .int (f_X3_opAt σ (gI σ 5 q 4)), .int (f_X3_operandAt σ (gI σ 5 q 4))]) (rest := []) ⟨hx, hb, hml, hown, hts⟩ (k_X5_compute l D cs b (sI σ 5 q 9 ((gI σ 5 q 9) + 1)) q (f_X3_opAt σ (gI σ 5 q 4)) (f_X3_operandAt σ (gI σ 5 q 4)) (by first | assumption | omega | decide)) ⟨callB_of 3 hts (gC wC_X5_compute) rfl rfl rfl (hts _ wi_X5) (hts _ wM_X5_199) (by decide +kernel) (by decide), hts _ wN_X5_compute, hts _ wS_X5_compute⟩ hK hH (xo_ok (by decide)).2.2 (Ex_at cs b (sI σ 5 q 9 ((gI σ 5 q 9) + 1)) (by decide)) rfl rfl rfl hl.1 rfl (Nat.le_of_ble_eq_true rfl) dX5_execute_223 (by decide)) hS (fun H locs hH hS => ?_)
    refine lv_aload_n hx hb dX5_execute_226 rfl (lv_at hl 3 rfl) ?_
    refine lv_dup hx hb dX5_execute_227 rfl ?_
    refine fgX5_167 hx hb hts hown hK hH q (show q < 8 by first | assumption | omega) dX5_execute_228 ?_
    refine lv_iconst (v := 1) hx hb dX5_execute_231 (by decide) ?_
    refine lv_iadd hx hb dX5_execute_232 ?_
    refine fpX5_167 hx hb hts hown hK hH hS q (show q < 8 by first | assumption | omega) dX5_execute_233 (fun H locs hH hS => ?_)
    exact e_vret hx hb hr hlk hK hH hS dX5_execute_236 (congrArg (Ex cs b) (by simp only [f_X5_execute, if_neg c_35_1, if_neg c_35_2, if_neg c_35_3, if_neg c_35_4, if_neg c_35_5, if_neg c_35_6, if_neg c_35_7, if_pos c_35_8]))
  by_cases c_35_9 : f_X3_opAt σ (gI σ 5 q 4) = 8
  ·
    refine lv_tableIn (off := 77) (tgt := 112) hx hb dX5_execute_35 (by rw [c_35_9]; decide) (by rw [c_35_9]; decide) (by rw [c_35_9]; rfl) (by decide) ?_
    refine lv_aload_n hx hb dX5_execute_112 rfl (lv_at hl 2 rfl) ?_
    refine lv_aload_n hx hb dX5_execute_113 rfl (lv_at hl 3 rfl) ?_
    refine lv_iload_n hx hb dX5_execute_114 rfl (lv_at hl 0 rfl) ?_
    refine e_cv (e_runV (C := RX5) (ci := 5) (As := [.ref (b + xo 5 q), .int (f_X3_operandAt σ (gI σ 5 q 4))]) (rest := []) ⟨hx, hb, hml, hown, hts⟩ (k_X5_jump l D cs b (sI σ 5 q 9 ((gI σ 5 q 9) + 1)) q (f_X3_operandAt σ (gI σ 5 q 4)) (by first | assumption | omega | decide)) ⟨callB_of 2 hts (gC wC_X5_jump) rfl rfl rfl (hts _ wi_X5) (hts _ wM_X5_176) (by decide +kernel) (by decide), hts _ wN_X5_jump, hts _ wS_X5_jump⟩ hK hH (xo_ok (by decide)).2.2 (Ex_at cs b (sI σ 5 q 9 ((gI σ 5 q 9) + 1)) (by decide)) rfl rfl rfl hl.1 rfl (Nat.le_of_ble_eq_true rfl) dX5_execute_115 (by decide)) hS (fun H locs hH hS => ?_)
    refine lv_goto (tgt := 236) hx hb dX5_execute_118 (by decide) ?_
    exact e_vret hx hb hr hlk hK hH hS dX5_execute_236 (congrArg (Ex cs b) (by simp only [f_X5_execute, if_neg c_35_1, if_neg c_35_2, if_neg c_35_3, if_neg c_35_4, if_neg c_35_5, if_neg c_35_6, if_neg c_35_7, if_neg c_35_8, if_pos c_35_9]))
  by_cases c_35_10 : f_X3_opAt σ (gI σ 5 q 4) = 9
  ·
    refine lv_tableIn (off := 86) (tgt := 121) hx hb dX5_execute_35 (by rw [c_35_10]; decide) (by rw [c_35_10]; decide) (by rw [c_35_10]; rfl) (by decide) ?_
    refine lv_aload_n hx hb dX5_execute_121 rfl (lv_at hl 2 rfl) ?_
    refine lv_aload_n hx hb dX5_execute_122 rfl (lv_at hl 3 rfl) ?_
    refine lv_iload_n hx hb dX5_execute_123 rfl (lv_at hl 0 rfl) ?_
    refine e_cv (e_runV (C := RX5) (ci := 5) (As := [.ref (b + xo 5 q), .int (f_X3_operandAt σ (gI σ 5 q 4))]) (rest := []) ⟨hx, hb, hml, hown, hts⟩ (k_X5_jumpIfZero l D cs b (sI σ 5 q 9 ((gI σ 5 q 9) + 1)) q (f_X3_operandAt σ (gI σ 5 q 4)) (by first | assumption | omega | decide)) ⟨callB_of 2 hts (gC wC_X5_jumpIfZero) rfl rfl rfl (hts _ wi_X5) (hts _ wM_X5_180) (by decide +kernel) (by decide), hts _ wN_X5_jumpIfZero, hts _ wS_X5_jumpIfZero⟩ hK hH (xo_ok (by decide)).2.2 (Ex_at cs b (sI σ 5 q 9 ((gI σ 5 q 9) + 1)) (by decide)) rfl rfl rfl hl.1 rfl (Nat.le_of_ble_eq_true rfl) dX5_execute_124 (by decide)) hS (fun H locs hH hS => ?_)
    refine lv_goto (tgt := 236) hx hb dX5_execute_127 (by decide) ?_
    exact e_vret hx hb hr hlk hK hH hS dX5_execute_236 (congrArg (Ex cs b) (by simp only [f_X5_execute, if_neg c_35_1, if_neg c_35_2, if_neg c_35_3, if_neg c_35_4, if_neg c_35_5, if_neg c_35_6, if_neg c_35_7, if_neg c_35_8, if_neg c_35_9, if_pos c_35_10]))
  by_cases c_35_11 : f_X3_opAt σ (gI σ 5 q 4) = 10
  ·
    refine lv_tableIn (off := 95) (tgt := 130) hx hb dX5_execute_35 (by rw [c_35_11]; decide) (by rw [c_35_11]; decide) (by rw [c_35_11]; rfl) (by decide) ?_
    refine lv_aload_n hx hb dX5_execute_130 rfl (lv_at hl 2 rfl) ?_
    refine lv_aload_n hx hb dX5_execute_131 rfl (lv_at hl 3 rfl) ?_
    refine lv_aload_n hx hb dX5_execute_132 rfl (lv_at hl 2 rfl) ?_
    refine lv_iload_n hx hb dX5_execute_133 rfl (lv_at hl 0 rfl) ?_
    refine e_cq (e_runV (C := RX5) (ci := 5) (As := [.int (f_X3_operandAt σ (gI σ 5 q 4))]) (rest := [.ref (b + xo 5 q), .ref (b + xo 0 0)]) ⟨hx, hb, hml, hown, hts⟩ (k_X5_channelAt l D cs b (sI σ 5 q 9 ((gI σ 5 q 9) + 1)) (f_X3_operandAt σ (gI σ 5 q 4)) ) ⟨callB_of 1 hts (gC wC_X5_channelAt) rfl rfl rfl (hts _ wi_X5) (hts _ wM_X5_107) (by decide +kernel) (by decide), hts _ wN_X5_channelAt, hts _ wS_X5_channelAt⟩ hK hH (xo_ok (by decide)).2.2 (Ex_at cs b (sI σ 5 q 9 ((gI σ 5 q 9) + 1)) (by decide)) rfl rfl rfl hl.1 rfl (Nat.le_of_ble_eq_true rfl) dX5_execute_134 (by decide)) hS (fun H locs hH hS => ?_)
    rcases hq_134_12 : f_X5_channelAt (sI σ 5 q 9 ((gI σ 5 q 9) + 1)) (f_X3_operandAt σ (gI σ 5 q 4)) with _ | q134_12
    ·
      refine W.eq (g2 := F0 m 137 ls [.null, .ref (b + xo 5 q), .ref (b + xo 0 0)]) rfl ?_
      refine e_cv (e_runV (C := RX5) (ci := 5) (As := [.ref (b + xo 5 q), .null]) (rest := []) ⟨hx, hb, hml, hown, hts⟩ (k_X5_sendN l D cs b (sI σ 5 q 9 ((gI σ 5 q 9) + 1)) q (by assumption)) ⟨callB_of 2 hts (gC wC_X5_send) rfl rfl rfl (hts _ wi_X5) (hts _ wM_X5_183) (by decide +kernel) (by decide), hts _ wN_X5_send, hts _ wS_X5_send⟩ hK hH (xo_ok (by decide)).2.2 (Ex_at cs b (sI σ 5 q 9 ((gI σ 5 q 9) + 1)) (by decide)) rfl rfl rfl hl.1 rfl (Nat.le_of_ble_eq_true rfl) dX5_execute_137 (by decide)) hS (fun H locs hH hS => ?_)
      refine lv_goto (tgt := 236) hx hb dX5_execute_140 (by decide) ?_
      exact e_vret hx hb hr hlk hK hH hS dX5_execute_236 (congrArg (Ex cs b) (by simp only [f_X5_execute, if_neg c_35_1, if_neg c_35_2, if_neg c_35_3, if_neg c_35_4, if_neg c_35_5, if_neg c_35_6, if_neg c_35_7, if_neg c_35_8, if_neg c_35_9, if_neg c_35_10, if_pos c_35_11, hq_134_12, oC_none]))
    ·
      have q134_12b := channelAt_lt hq_134_12
      refine W.eq (g2 := F0 m 137 ls [.ref (b + xo 8 q134_12), .ref (b + xo 5 q), .ref (b + xo 0 0)]) rfl ?_
      refine e_cv (e_runV (C := RX5) (ci := 5) (As := [.ref (b + xo 5 q), .ref (b + xo 8 q134_12)]) (rest := []) ⟨hx, hb, hml, hown, hts⟩ (k_X5_send l D cs b (sI σ 5 q 9 ((gI σ 5 q 9) + 1)) q q134_12 (by assumption) (by assumption) (hwt _)) ⟨callB_of 2 hts (gC wC_X5_send) rfl rfl rfl (hts _ wi_X5) (hts _ wM_X5_183) (by decide +kernel) (by decide), hts _ wN_X5_send, hts _ wS_X5_send⟩ hK hH (xo_ok (by decide)).2.2 (Ex_at cs b (sI σ 5 q 9 ((gI σ 5 q 9) + 1)) (by decide)) rfl rfl rfl hl.1 rfl (Nat.le_of_ble_eq_true rfl) dX5_execute_137 (by decide)) hS (fun H locs hH hS => ?_)
      refine lv_goto (tgt := 236) hx hb dX5_execute_140 (by decide) ?_
      exact e_vret hx hb hr hlk hK hH hS dX5_execute_236 (congrArg (Ex cs b) (by simp only [f_X5_execute, if_neg c_35_1, if_neg c_35_2, if_neg c_35_3, if_neg c_35_4, if_neg c_35_5, if_neg c_35_6, if_neg c_35_7, if_neg c_35_8, if_neg c_35_9, if_neg c_35_10, if_pos c_35_11, hq_134_12, oC_some]))
  by_cases c_35_13 : f_X3_opAt σ (gI σ 5 q 4) = 11
  ·
    refine lv_tableIn (off := 108) (tgt := 143) hx hb dX5_execute_35 (by rw [c_35_13]; decide) (by rw [c_35_13]; decide) (by rw [c_35_13]; rfl) (by decide) ?_
    refine lv_aload_n hx hb dX5_execute_143 rfl (lv_at hl 2 rfl) ?_
    refine lv_aload_n hx hb dX5_execute_144 rfl (lv_at hl 3 rfl) ?_
    refine lv_aload_n hx hb dX5_execute_145 rfl (lv_at hl 2 rfl) ?_
    refine lv_iload_n hx hb dX5_execute_146 rfl (lv_at hl 0 rfl) ?_
    refine e_cq (e_runV (C := RX5) (ci := 5) (As := [.int (f_X3_operandAt σ (gI σ 5 q 4))]) (rest := [.ref (b + xo 5 q), .ref (b + xo 0 0)]) ⟨hx, hb, hml, hown, hts⟩ (k_X5_channelAt l D cs b (sI σ 5 q 9 ((gI σ 5 q 9) + 1)) (f_X3_operandAt σ (gI σ 5 q 4)) ) ⟨callB_of 1 hts (gC wC_X5_channelAt) rfl rfl rfl (hts _ wi_X5) (hts _ wM_X5_107) (by decide +kernel) (by decide), hts _ wN_X5_channelAt, hts _ wS_X5_channelAt⟩ hK hH (xo_ok (by decide)).2.2 (Ex_at cs b (sI σ 5 q 9 ((gI σ 5 q 9) + 1)) (by decide)) rfl rfl rfl hl.1 rfl (Nat.le_of_ble_eq_true rfl) dX5_execute_147 (by decide)) hS (fun H locs hH hS => ?_)
    rcases hq_147_14 : f_X5_channelAt (sI σ 5 q 9 ((gI σ 5 q 9) + 1)) (f_X3_operandAt σ (gI σ 5 q 4)) with _ | q147_14
    ·
      refine W.eq (g2 := F0 m 150 ls [.null, .ref (b + xo 5 q), .ref (b + xo 0 0)]) rfl ?_
      refine e_cv (e_runV (C := RX5) (ci := 5) (As := [.ref (b + xo 5 q), .null]) (rest := []) ⟨hx, hb, hml, hown, hts⟩ (k_X5_receiveN l D cs b (sI σ 5 q 9 ((gI σ 5 q 9) + 1)) q (by assumption)) ⟨callB_of 2 hts (gC wC_X5_receive) rfl rfl rfl (hts _ wi_X5) (hts _ wM_X5_187) (by decide +kernel) (by decide), hts _ wN_X5_receive, hts _ wS_X5_receive⟩ hK hH (xo_ok (by decide)).2.2 (Ex_at cs b (sI σ 5 q 9 ((gI σ 5 q 9) + 1)) (by decide)) rfl rfl rfl hl.1 rfl (Nat.le_of_ble_eq_true rfl) dX5_execute_150 (by decide)) hS (fun H locs hH hS => ?_)
      refine lv_goto (tgt := 236) hx hb dX5_execute_153 (by decide) ?_
      exact e_vret hx hb hr hlk hK hH hS dX5_execute_236 (congrArg (Ex cs b) (by simp only [f_X5_execute, if_neg c_35_1, if_neg c_35_2, if_neg c_35_3, if_neg c_35_4, if_neg c_35_5, if_neg c_35_6, if_neg c_35_7, if_neg c_35_8, if_neg c_35_9, if_neg c_35_10, if_neg c_35_11, if_pos c_35_13, hq_147_14, oC_none]))
    ·
      have q147_14b := channelAt_lt hq_147_14
      refine W.eq (g2 := F0 m 150 ls [.ref (b + xo 8 q147_14), .ref (b + xo 5 q), .ref (b + xo 0 0)]) rfl ?_
      refine e_cv (e_runV (C := RX5) (ci := 5) (As := [.ref (b + xo 5 q), .ref (b + xo 8 q147_14)]) (rest := []) ⟨hx, hb, hml, hown, hts⟩ (k_X5_receive l D cs b (sI σ 5 q 9 ((gI σ 5 q 9) + 1)) q q147_14 (by assumption) (by assumption) (hwt _)) ⟨callB_of 2 hts (gC wC_X5_receive) rfl rfl rfl (hts _ wi_X5) (hts _ wM_X5_187) (by decide +kernel) (by decide), hts _ wN_X5_receive, hts _ wS_X5_receive⟩ hK hH (xo_ok (by decide)).2.2 (Ex_at cs b (sI σ 5 q 9 ((gI σ 5 q 9) + 1)) (by decide)) rfl rfl rfl hl.1 rfl (Nat.le_of_ble_eq_true rfl) dX5_execute_150 (by decide)) hS (fun H locs hH hS => ?_)
      refine lv_goto (tgt := 236) hx hb dX5_execute_153 (by decide) ?_
      exact e_vret hx hb hr hlk hK hH hS dX5_execute_236 (congrArg (Ex cs b) (by simp only [f_X5_execute, if_neg c_35_1, if_neg c_35_2, if_neg c_35_3, if_neg c_35_4, if_neg c_35_5, if_neg c_35_6, if_neg c_35_7, if_neg c_35_8, if_neg c_35_9, if_neg c_35_10, if_neg c_35_11, if_pos c_35_13, hq_147_14, oC_some]))
  by_cases c_35_15 : f_X3_opAt σ (gI σ 5 q 4) = 12
  ·
    refine lv_tableIn (off := 184) (tgt := 219) hx hb dX5_execute_35 (by rw [c_35_15]; decide) (by rw [c_35_15]; decide) (by rw [c_35_15]; rfl) (by decide) ?_
    refine lv_aload_n hx hb dX5_execute_219 rfl (lv_at hl 2 rfl) ?_
    refine lv_aload_n hx hb dX5_execute_220 rfl (lv_at hl 3 rfl) ?_
    refine lv_iload_n hx hb dX5_execute_221 rfl (lv_at hl 1 rfl) ?_
    refine lv_iload_n hx hb dX5_execute_222 rfl (lv_at hl 0 rfl) ?_
    refine e_cv (e_runV (C := RX5) (ci := 5) (As := [.ref (b + xo 5 q), .int (f_X3_opAt σ (gI σ 5 q 4)), .int (f_X3_operandAt σ (gI σ 5 q 4))]) (rest := []) ⟨hx, hb, hml, hown, hts⟩ (k_X5_compute l D cs b (sI σ 5 q 9 ((gI σ 5 q 9) + 1)) q (f_X3_opAt σ (gI σ 5 q 4)) (f_X3_operandAt σ (gI σ 5 q 4)) (by first | assumption | omega | decide)) ⟨callB_of 3 hts (gC wC_X5_compute) rfl rfl rfl (hts _ wi_X5) (hts _ wM_X5_199) (by decide +kernel) (by decide), hts _ wN_X5_compute, hts _ wS_X5_compute⟩ hK hH (xo_ok (by decide)).2.2 (Ex_at cs b (sI σ 5 q 9 ((gI σ 5 q 9) + 1)) (by decide)) rfl rfl rfl hl.1 rfl (Nat.le_of_ble_eq_true rfl) dX5_execute_223 (by decide)) hS (fun H locs hH hS => ?_)
    refine lv_aload_n hx hb dX5_execute_226 rfl (lv_at hl 3 rfl) ?_
    refine lv_dup hx hb dX5_execute_227 rfl ?_
    refine fgX5_167 hx hb hts hown hK hH q (show q < 8 by first | assumption | omega) dX5_execute_228 ?_
    refine lv_iconst (v := 1) hx hb dX5_execute_231 (by decide) ?_
    refine lv_iadd hx hb dX5_execute_232 ?_
    refine fpX5_167 hx hb hts hown hK hH hS q (show q < 8 by first | assumption | omega) dX5_execute_233 (fun H locs hH hS => ?_)
    exact e_vret hx hb hr hlk hK hH hS dX5_execute_236 (congrArg (Ex cs b) (by simp only [f_X5_execute, if_neg c_35_1, if_neg c_35_2, if_neg c_35_3, if_neg c_35_4, if_neg c_35_5, if_neg c_35_6, if_neg c_35_7, if_neg c_35_8, if_neg c_35_9, if_neg c_35_10, if_neg c_35_11, if_neg c_35_13, if_pos c_35_15]))
  by_cases c_35_16 : f_X3_opAt σ (gI σ 5 q 4) = 13
  ·
    refine lv_tableIn (off := 121) (tgt := 156) hx hb dX5_execute_35 (by rw [c_35_16]; decide) (by rw [c_35_16]; decide) (by rw [c_35_16]; rfl) (by decide) ?_
    refine lv_aload_n hx hb dX5_execute_156 rfl (lv_at hl 2 rfl) ?_
    refine lv_aload_n hx hb dX5_execute_157 rfl (lv_at hl 3 rfl) ?_
    refine e_cv (e_runV (C := RX5) (ci := 5) (As := [.ref (b + xo 5 q)]) (rest := []) ⟨hx, hb, hml, hown, hts⟩ (k_X5_awaitTime l D cs b (sI σ 5 q 9 ((gI σ 5 q 9) + 1)) q (by first | assumption | omega | decide)) ⟨callB_of 1 hts (gC wC_X5_awaitTime) rfl rfl rfl (hts _ wi_X5) (hts _ wM_X5_190) (by decide +kernel) (by decide), hts _ wN_X5_awaitTime, hts _ wS_X5_awaitTime⟩ hK hH (xo_ok (by decide)).2.2 (Ex_at cs b (sI σ 5 q 9 ((gI σ 5 q 9) + 1)) (by decide)) rfl rfl rfl hl.1 rfl (Nat.le_of_ble_eq_true rfl) dX5_execute_158 (by decide)) hS (fun H locs hH hS => ?_)
    refine lv_goto (tgt := 236) hx hb dX5_execute_161 (by decide) ?_
    exact e_vret hx hb hr hlk hK hH hS dX5_execute_236 (congrArg (Ex cs b) (by simp only [f_X5_execute, if_neg c_35_1, if_neg c_35_2, if_neg c_35_3, if_neg c_35_4, if_neg c_35_5, if_neg c_35_6, if_neg c_35_7, if_neg c_35_8, if_neg c_35_9, if_neg c_35_10, if_neg c_35_11, if_neg c_35_13, if_neg c_35_15, if_pos c_35_16]))
  by_cases c_35_17 : f_X3_opAt σ (gI σ 5 q 4) = 14
  ·
    refine lv_tableIn (off := 129) (tgt := 164) hx hb dX5_execute_35 (by rw [c_35_17]; decide) (by rw [c_35_17]; decide) (by rw [c_35_17]; rfl) (by decide) ?_
    refine lv_aload_n hx hb dX5_execute_164 rfl (lv_at hl 3 rfl) ?_
    refine lv_aload_n hx hb dX5_execute_165 rfl (lv_at hl 2 rfl) ?_
    refine lv_iload_n hx hb dX5_execute_166 rfl (lv_at hl 0 rfl) ?_
    refine lv_iconst (v := 1) hx hb dX5_execute_167 (by decide) ?_
    refine lv_iand hx hb dX5_execute_168 ?_
    refine lv_if_ne (tgt := 176) hx hb dX5_execute_169 (by decide) (fun c_169_18 => ?_) (fun c_169_18 => ?_)
    ·
      refine lv_iconst (v := 1) hx hb dX5_execute_176 (by decide) ?_
      refine lv_iload_n hx hb dX5_execute_177 rfl (lv_at hl 0 rfl) ?_
      refine lv_iconst (v := 2) hx hb dX5_execute_178 (by decide) ?_
      refine lv_idiv hx hb dX5_execute_179 (by decide) ?_
      refine lv_aload_n hx hb dX5_execute_180 rfl (lv_at hl 3 rfl) ?_
      refine fgX5_193 hx hb hts hown hK hH q (show q < 8 by first | assumption | omega) dX5_execute_181 ?_
      refine e_ci (e_runV (C := RX5) (ci := 5) (As := [.int (1), .int ((f_X3_operandAt σ (gI σ 5 q 4)) / 2), .int (gI (sI σ 5 q 9 ((gI σ 5 q 9) + 1)) 5 q 5)]) (rest := [.ref (b + xo 5 q)]) ⟨hx, hb, hml, hown, hts⟩ (k_X5_startLeastFree l D cs b (sI σ 5 q 9 ((gI σ 5 q 9) + 1)) 1 ((f_X3_operandAt σ (gI σ 5 q 4)) / 2) (gI (sI σ 5 q 9 ((gI σ 5 q 9) + 1)) 5 q 5) ) ⟨callB_of 3 hts (gC wC_X5_startLeastFree) rfl rfl rfl (hts _ wi_X5) (hts _ wM_X5_72) (by decide +kernel) (by decide), hts _ wN_X5_startLeastFree, hts _ wS_X5_startLeastFree⟩ hK hH (xo_ok (by decide)).2.2 (Ex_at cs b (sI σ 5 q 9 ((gI σ 5 q 9) + 1)) (by decide)) rfl rfl rfl hl.1 rfl (Nat.le_of_ble_eq_true rfl) dX5_execute_184 (by decide)) hS (fun H locs hH hS => ?_)
      refine e_cv (e_runV (C := RX2) (ci := 2) (As := [.int ((f_X5_startLeastFree (sI σ 5 q 9 ((gI σ 5 q 9) + 1)) 1 ((f_X3_operandAt σ (gI σ 5 q 4)) / 2) (gI (sI σ 5 q 9 ((gI σ 5 q 9) + 1)) 5 q 5)).1)]) (rest := []) ⟨hx, hb, hml, hown, hts⟩ (k_X2_put l D cs b ((f_X5_startLeastFree (sI σ 5 q 9 ((gI σ 5 q 9) + 1)) 1 ((f_X3_operandAt σ (gI σ 5 q 4)) / 2) (gI (sI σ 5 q 9 ((gI σ 5 q 9) + 1)) 5 q 5)).2) q ((f_X5_startLeastFree (sI σ 5 q 9 ((gI σ 5 q 9) + 1)) 1 ((f_X3_operandAt σ (gI σ 5 q 4)) / 2) (gI (sI σ 5 q 9 ((gI σ 5 q 9) + 1)) 5 q 5)).1) (by first | assumption | omega | decide)) ⟨callB_of 1 hts (gC wC_X2_put) rfl rfl rfl (hts _ wi_X2) (hts _ wM_X5_196) (by decide +kernel) (by decide), hts _ wN_X2_put, hts _ wS_X2_put⟩ hK hH (xo_ok (show q < xn 5 by first | assumption | (show q < 8; first | assumption | omega))).2.2 (Ex_at cs b ((f_X5_startLeastFree (sI σ 5 q 9 ((gI σ 5 q 9) + 1)) 1 ((f_X3_operandAt σ (gI σ 5 q 4)) / 2) (gI (sI σ 5 q 9 ((gI σ 5 q 9) + 1)) 5 q 5)).2) (show q < xn 5 by first | assumption | (show q < 8; first | assumption | omega))) rfl rfl rfl hl.1 rfl (Nat.le_of_ble_eq_true rfl) dX5_execute_187 (by decide)) hS (fun H locs hH hS => ?_)
      refine lv_aload_n hx hb dX5_execute_190 rfl (lv_at hl 3 rfl) ?_
      refine lv_dup hx hb dX5_execute_191 rfl ?_
      refine fgX5_167 hx hb hts hown hK hH q (show q < 8 by first | assumption | omega) dX5_execute_192 ?_
      refine lv_iconst (v := 1) hx hb dX5_execute_195 (by decide) ?_
      refine lv_iadd hx hb dX5_execute_196 ?_
      refine fpX5_167 hx hb hts hown hK hH hS q (show q < 8 by first | assumption | omega) dX5_execute_197 (fun H locs hH hS => ?_)
      refine lv_goto (tgt := 236) hx hb dX5_execute_200 (by decide) ?_
      exact e_vret hx hb hr hlk hK hH hS dX5_execute_236 (congrArg (Ex cs b) (by simp only [f_X5_execute, if_neg c_35_1, if_neg c_35_2, if_neg c_35_3, if_neg c_35_4, if_neg c_35_5, if_neg c_35_6, if_neg c_35_7, if_neg c_35_8, if_neg c_35_9, if_neg c_35_10, if_neg c_35_11, if_neg c_35_13, if_neg c_35_15, if_neg c_35_16, if_pos c_35_17, if_neg c_169_18]))
    ·
      refine lv_iconst (v := 0) hx hb dX5_execute_172 (by decide) ?_
      refine lv_goto (tgt := 177) hx hb dX5_execute_173 (by decide) ?_
      refine lv_iload_n hx hb dX5_execute_177 rfl (lv_at hl 0 rfl) ?_
      refine lv_iconst (v := 2) hx hb dX5_execute_178 (by decide) ?_
      refine lv_idiv hx hb dX5_execute_179 (by decide) ?_
      refine lv_aload_n hx hb dX5_execute_180 rfl (lv_at hl 3 rfl) ?_
      refine fgX5_193 hx hb hts hown hK hH q (show q < 8 by first | assumption | omega) dX5_execute_181 ?_
      refine e_ci (e_runV (C := RX5) (ci := 5) (As := [.int (0), .int ((f_X3_operandAt σ (gI σ 5 q 4)) / 2), .int (gI (sI σ 5 q 9 ((gI σ 5 q 9) + 1)) 5 q 5)]) (rest := [.ref (b + xo 5 q)]) ⟨hx, hb, hml, hown, hts⟩ (k_X5_startLeastFree l D cs b (sI σ 5 q 9 ((gI σ 5 q 9) + 1)) 0 ((f_X3_operandAt σ (gI σ 5 q 4)) / 2) (gI (sI σ 5 q 9 ((gI σ 5 q 9) + 1)) 5 q 5) ) ⟨callB_of 3 hts (gC wC_X5_startLeastFree) rfl rfl rfl (hts _ wi_X5) (hts _ wM_X5_72) (by decide +kernel) (by decide), hts _ wN_X5_startLeastFree, hts _ wS_X5_startLeastFree⟩ hK hH (xo_ok (by decide)).2.2 (Ex_at cs b (sI σ 5 q 9 ((gI σ 5 q 9) + 1)) (by decide)) rfl rfl rfl hl.1 rfl (Nat.le_of_ble_eq_true rfl) dX5_execute_184 (by decide)) hS (fun H locs hH hS => ?_)
      refine e_cv (e_runV (C := RX2) (ci := 2) (As := [.int ((f_X5_startLeastFree (sI σ 5 q 9 ((gI σ 5 q 9) + 1)) 0 ((f_X3_operandAt σ (gI σ 5 q 4)) / 2) (gI (sI σ 5 q 9 ((gI σ 5 q 9) + 1)) 5 q 5)).1)]) (rest := []) ⟨hx, hb, hml, hown, hts⟩ (k_X2_put l D cs b ((f_X5_startLeastFree (sI σ 5 q 9 ((gI σ 5 q 9) + 1)) 0 ((f_X3_operandAt σ (gI σ 5 q 4)) / 2) (gI (sI σ 5 q 9 ((gI σ 5 q 9) + 1)) 5 q 5)).2) q ((f_X5_startLeastFree (sI σ 5 q 9 ((gI σ 5 q 9) + 1)) 0 ((f_X3_operandAt σ (gI σ 5 q 4)) / 2) (gI (sI σ 5 q 9 ((gI σ 5 q 9) + 1)) 5 q 5)).1) (by first | assumption | omega | decide)) ⟨callB_of 1 hts (gC wC_X2_put) rfl rfl rfl (hts _ wi_X2) (hts _ wM_X5_196) (by decide +kernel) (by decide), hts _ wN_X2_put, hts _ wS_X2_put⟩ hK hH (xo_ok (show q < xn 5 by first | assumption | (show q < 8; first | assumption | omega))).2.2 (Ex_at cs b ((f_X5_startLeastFree (sI σ 5 q 9 ((gI σ 5 q 9) + 1)) 0 ((f_X3_operandAt σ (gI σ 5 q 4)) / 2) (gI (sI σ 5 q 9 ((gI σ 5 q 9) + 1)) 5 q 5)).2) (show q < xn 5 by first | assumption | (show q < 8; first | assumption | omega))) rfl rfl rfl hl.1 rfl (Nat.le_of_ble_eq_true rfl) dX5_execute_187 (by decide)) hS (fun H locs hH hS => ?_)
      refine lv_aload_n hx hb dX5_execute_190 rfl (lv_at hl 3 rfl) ?_
      refine lv_dup hx hb dX5_execute_191 rfl ?_
      refine fgX5_167 hx hb hts hown hK hH q (show q < 8 by first | assumption | omega) dX5_execute_192 ?_
      refine lv_iconst (v := 1) hx hb dX5_execute_195 (by decide) ?_
      refine lv_iadd hx hb dX5_execute_196 ?_
      refine fpX5_167 hx hb hts hown hK hH hS q (show q < 8 by first | assumption | omega) dX5_execute_197 (fun H locs hH hS => ?_)
      refine lv_goto (tgt := 236) hx hb dX5_execute_200 (by decide) ?_
      exact e_vret hx hb hr hlk hK hH hS dX5_execute_236 (congrArg (Ex cs b) (by simp only [f_X5_execute, if_neg c_35_1, if_neg c_35_2, if_neg c_35_3, if_neg c_35_4, if_neg c_35_5, if_neg c_35_6, if_neg c_35_7, if_neg c_35_8, if_neg c_35_9, if_neg c_35_10, if_neg c_35_11, if_neg c_35_13, if_neg c_35_15, if_neg c_35_16, if_pos c_35_17, if_pos c_169_18]))
  by_cases c_35_19 : f_X3_opAt σ (gI σ 5 q 4) = 15
  ·
    refine lv_tableIn (off := 168) (tgt := 203) hx hb dX5_execute_35 (by rw [c_35_19]; decide) (by rw [c_35_19]; decide) (by rw [c_35_19]; rfl) (by decide) ?_
    refine lv_aload_n hx hb dX5_execute_203 rfl (lv_at hl 3 rfl) ?_
    refine lv_iconst (v := 0) hx hb dX5_execute_204 (by decide) ?_
    refine fpX5_80 hx hb hts hown hK hH hS q (show q < 8 by first | assumption | omega) dX5_execute_205 (fun H locs hH hS => ?_)
    refine lv_goto (tgt := 236) hx hb dX5_execute_208 (by decide) ?_
    exact e_vret hx hb hr hlk hK hH hS dX5_execute_236 (congrArg (Ex cs b) (by simp only [f_X5_execute, if_neg c_35_1, if_neg c_35_2, if_neg c_35_3, if_neg c_35_4, if_neg c_35_5, if_neg c_35_6, if_neg c_35_7, if_neg c_35_8, if_neg c_35_9, if_neg c_35_10, if_neg c_35_11, if_neg c_35_13, if_neg c_35_15, if_neg c_35_16, if_neg c_35_17, if_pos c_35_19]))
  refine lv_tableOut (tgt := 219) hx hb dX5_execute_35 (by have h0 := ne_i 0 c_35_1 (by decide); have h1 := ne_i 1 c_35_2 (by decide); have h2 := ne_i 2 c_35_3 (by decide); have h3 := ne_i 3 c_35_4 (by decide); have h4 := ne_i 4 c_35_5 (by decide); have h5 := ne_i 5 c_35_6 (by decide); have h6 := ne_i 6 c_35_7 (by decide); have h7 := ne_i 7 c_35_8 (by decide); have h8 := ne_i 8 c_35_9 (by decide); have h9 := ne_i 9 c_35_10 (by decide); have h10 := ne_i 10 c_35_11 (by decide); have h11 := ne_i 11 c_35_13 (by decide); have h12 := ne_i 12 c_35_15 (by decide); have h13 := ne_i 13 c_35_16 (by decide); have h14 := ne_i 14 c_35_17 (by decide); have h15 := ne_i 15 c_35_19 (by decide); omega) (by decide) ?_
  refine lv_aload_n hx hb dX5_execute_219 rfl (lv_at hl 2 rfl) ?_
  refine lv_aload_n hx hb dX5_execute_220 rfl (lv_at hl 3 rfl) ?_
  refine lv_iload_n hx hb dX5_execute_221 rfl (lv_at hl 1 rfl) ?_
  refine lv_iload_n hx hb dX5_execute_222 rfl (lv_at hl 0 rfl) ?_
  refine e_cv (e_runV (C := RX5) (ci := 5) (As := [.ref (b + xo 5 q), .int (f_X3_opAt σ (gI σ 5 q 4)), .int (f_X3_operandAt σ (gI σ 5 q 4))]) (rest := []) ⟨hx, hb, hml, hown, hts⟩ (k_X5_compute l D cs b (sI σ 5 q 9 ((gI σ 5 q 9) + 1)) q (f_X3_opAt σ (gI σ 5 q 4)) (f_X3_operandAt σ (gI σ 5 q 4)) (by first | assumption | omega | decide)) ⟨callB_of 3 hts (gC wC_X5_compute) rfl rfl rfl (hts _ wi_X5) (hts _ wM_X5_199) (by decide +kernel) (by decide), hts _ wN_X5_compute, hts _ wS_X5_compute⟩ hK hH (xo_ok (by decide)).2.2 (Ex_at cs b (sI σ 5 q 9 ((gI σ 5 q 9) + 1)) (by decide)) rfl rfl rfl hl.1 rfl (Nat.le_of_ble_eq_true rfl) dX5_execute_223 (by decide)) hS (fun H locs hH hS => ?_)
  refine lv_aload_n hx hb dX5_execute_226 rfl (lv_at hl 3 rfl) ?_
  refine lv_dup hx hb dX5_execute_227 rfl ?_
  refine fgX5_167 hx hb hts hown hK hH q (show q < 8 by first | assumption | omega) dX5_execute_228 ?_
  refine lv_iconst (v := 1) hx hb dX5_execute_231 (by decide) ?_
  refine lv_iadd hx hb dX5_execute_232 ?_
  refine fpX5_167 hx hb hts hown hK hH hS q (show q < 8 by first | assumption | omega) dX5_execute_233 (fun H locs hH hS => ?_)
  exact e_vret hx hb hr hlk hK hH hS dX5_execute_236 (congrArg (Ex cs b) (by simp only [f_X5_execute, if_neg c_35_1, if_neg c_35_2, if_neg c_35_3, if_neg c_35_4, if_neg c_35_5, if_neg c_35_6, if_neg c_35_7, if_neg c_35_8, if_neg c_35_9, if_neg c_35_10, if_neg c_35_11, if_neg c_35_13, if_neg c_35_15, if_neg c_35_16, if_neg c_35_17, if_neg c_35_19]))
