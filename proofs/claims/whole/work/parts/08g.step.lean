def f_X5_step (σ : St)  : Int32 × St := (oC (gR (f_X5_giveWayToHigh (f_X5_wakeThoseWhoseTimeHasCome σ)) 0 0 6) ((oC (gR (f_X5_takeNext (f_X5_giveWayToHigh (f_X5_wakeThoseWhoseTimeHasCome σ))) 0 0 6) ((0, sI (f_X5_takeNext (f_X5_giveWayToHigh (f_X5_wakeThoseWhoseTimeHasCome σ))) 0 0 7 ((gI (f_X5_takeNext (f_X5_giveWayToHigh (f_X5_wakeThoseWhoseTimeHasCome σ))) 0 0 7) + 1))) (fun q20_2 => (if gI (f_X5_execute (f_X5_takeNext (f_X5_giveWayToHigh (f_X5_wakeThoseWhoseTimeHasCome σ))) q20_2) 5 q20_2 2 = 2 then (1, sI (f_X5_execute (f_X5_takeNext (f_X5_giveWayToHigh (f_X5_wakeThoseWhoseTimeHasCome σ))) q20_2) 0 0 7 ((gI (f_X5_execute (f_X5_takeNext (f_X5_giveWayToHigh (f_X5_wakeThoseWhoseTimeHasCome σ))) q20_2) 0 0 7) + 1)) else (1, sI (sR (f_X5_execute (f_X5_takeNext (f_X5_giveWayToHigh (f_X5_wakeThoseWhoseTimeHasCome σ))) q20_2) 0 0 6 (none)) 0 0 7 ((gI (sR (f_X5_execute (f_X5_takeNext (f_X5_giveWayToHigh (f_X5_wakeThoseWhoseTimeHasCome σ))) q20_2) 0 0 6 (none)) 0 0 7) + 1)))))) (fun q9_1 => (if gI (f_X5_execute (f_X5_giveWayToHigh (f_X5_wakeThoseWhoseTimeHasCome σ)) q9_1) 5 q9_1 2 = 2 then (1, sI (f_X5_execute (f_X5_giveWayToHigh (f_X5_wakeThoseWhoseTimeHasCome σ)) q9_1) 0 0 7 ((gI (f_X5_execute (f_X5_giveWayToHigh (f_X5_wakeThoseWhoseTimeHasCome σ)) q9_1) 0 0 7) + 1)) else (1, sI (sR (f_X5_execute (f_X5_giveWayToHigh (f_X5_wakeThoseWhoseTimeHasCome σ)) q9_1) 0 0 6 (none)) 0 0 7 ((gI (sR (f_X5_execute (f_X5_giveWayToHigh (f_X5_wakeThoseWhoseTimeHasCome σ)) q9_1) 0 0 6 (none)) 0 0 7) + 1)))))
set_option maxRecDepth 100000 in
set_option maxHeartbeats 4000000 in
theorem k_X5_step (l : Launch) (D : va_G) (cs : Nat → ClassId) (b : Nat) (σ : St)  (ho : ok σ) : Met l yX5_step (Cond.code yX5_step cX5_step 2 (some FieldType.boolean) :: T0) { frames := 5, cells := 0, slots := 0, locals := 117 } (Pe D (tyx cs) b 43 (Ex cs b σ) [.ref (b + xo 0 0)]) (Qi D (tyx cs) b 43 (Ex cs b (f_X5_step σ).2) (f_X5_step σ).1) 0 0 (fun a => b ≤ a) := by
  refine e_met (by decide) rfl (Nat.le_of_ble_eq_true rfl) (fun pg e s m below meth c ls hx hb hr hml hts0 hown hlk hnm hH hK hl hS => ?_)
  have hts : ∀ w ∈ T0, w.before _ s = true := fun w h => hts0 w (List.mem_cons_of_mem _ h)
  have hl : lv_has ls 2 [(0, .ref (b + xo 0 0))] := hl
  refine lv_aload_n hx hb dX5_step_0 rfl (lv_at hl 0 rfl) ?_
  refine e_cv (e_runV (C := RX5) (ci := 5) (As := []) (rest := []) ⟨hx, hb, hml, hown, hts⟩ (k_X5_wakeThoseWhoseTimeHasCome l D cs b σ  ) ⟨callB_of 0 hts (gC wC_X5_wakeThoseWhoseTimeHasCome) rfl rfl rfl (hts _ wi_X5) (hts _ wM_X5_139) (by decide +kernel) (by decide), hts _ wN_X5_wakeThoseWhoseTimeHasCome, hts _ wS_X5_wakeThoseWhoseTimeHasCome⟩ hK hH (xo_ok (by decide)).2.2 (Ex_at cs b σ (by decide)) rfl rfl rfl hl.1 rfl (Nat.le_of_ble_eq_true rfl) dX5_step_1 (by decide)) hS (fun H locs hH hS => ?_)
  refine lv_aload_n hx hb dX5_step_4 rfl (lv_at hl 0 rfl) ?_
  refine e_cv (e_runV (C := RX5) (ci := 5) (As := []) (rest := []) ⟨hx, hb, hml, hown, hts⟩ (k_X5_giveWayToHigh l D cs b (f_X5_wakeThoseWhoseTimeHasCome σ)  (ok_wake ho)) ⟨callB_of 0 hts (gC wC_X5_giveWayToHigh) rfl rfl rfl (hts _ wi_X5) (hts _ wM_X5_142) (by decide +kernel) (by decide), hts _ wN_X5_giveWayToHigh, hts _ wS_X5_giveWayToHigh⟩ hK hH (xo_ok (by decide)).2.2 (Ex_at cs b (f_X5_wakeThoseWhoseTimeHasCome σ) (by decide)) rfl rfl rfl hl.1 rfl (Nat.le_of_ble_eq_true rfl) dX5_step_5 (by decide)) hS (fun H locs hH hS => ?_)
  refine lv_aload_n hx hb dX5_step_8 rfl (lv_at hl 0 rfl) ?_
  refine fgX5_49 hx hb hts hown hK hH 0 (by decide) _ rfl dX5_step_9 ?_
  rcases hq_9_1 : gR (f_X5_giveWayToHigh (f_X5_wakeThoseWhoseTimeHasCome σ)) 0 0 6 with _ | q9_1
  ·
    refine W.eq (g2 := F0 m 12 ls [.null]) rfl ?_
    refine lv_ifnonnullN hx hb dX5_step_12 ?_
    refine lv_aload_n hx hb dX5_step_15 rfl (lv_at hl 0 rfl) ?_
    refine e_cv (e_runV (C := RX5) (ci := 5) (As := []) (rest := []) ⟨hx, hb, hml, hown, hts⟩ (k_X5_takeNext l D cs b (f_X5_giveWayToHigh (f_X5_wakeThoseWhoseTimeHasCome σ))  (ok_giveWay (ok_wake ho))) ⟨callB_of 0 hts (gC wC_X5_takeNext) rfl rfl rfl (hts _ wi_X5) (hts _ wM_X5_145) (by decide +kernel) (by decide), hts _ wN_X5_takeNext, hts _ wS_X5_takeNext⟩ hK hH (xo_ok (by decide)).2.2 (Ex_at cs b (f_X5_giveWayToHigh (f_X5_wakeThoseWhoseTimeHasCome σ)) (by decide)) rfl rfl rfl hl.1 rfl (Nat.le_of_ble_eq_true rfl) dX5_step_16 (by decide)) hS (fun H locs hH hS => ?_)
    refine lv_aload_n hx hb dX5_step_19 rfl (lv_at hl 0 rfl) ?_
    refine fgX5_49 hx hb hts hown hK hH 0 (by decide) _ rfl dX5_step_20 ?_
    rcases hq_20_2 : gR (f_X5_takeNext (f_X5_giveWayToHigh (f_X5_wakeThoseWhoseTimeHasCome σ))) 0 0 6 with _ | q20_2
    ·
      refine W.eq (g2 := F0 m 23 ls [.null]) rfl ?_
      refine lv_astore_nN (lv' := [(1, .null), (0, .ref (b + xo 0 0))]) hx hb dX5_step_23 rfl hl (by decide) rfl (fun ls hl => ?_)
      refine lv_aload_nN hx hb dX5_step_24 rfl (lv_at hl 0 rfl) ?_
      refine lv_ifnullN (tgt := 46) hx hb dX5_step_25 (by decide) ?_
      refine lv_aload_n hx hb dX5_step_46 rfl (lv_at hl 1 rfl) ?_
      refine lv_dup hx hb dX5_step_47 rfl ?_
      refine fgX5_53 hx hb hts hown hK hH 0 (by decide) dX5_step_48 ?_
      refine lv_iconst (v := 1) hx hb dX5_step_51 (by decide) ?_
      refine lv_iadd hx hb dX5_step_52 ?_
      refine fpX5_53 hx hb hts hown hK hH hS 0 (by decide) dX5_step_53 (fun H locs hH hS => ?_)
      refine lv_aload_nN hx hb dX5_step_56 rfl (lv_at hl 0 rfl) ?_
      refine lv_ifnullN (tgt := 64) hx hb dX5_step_57 (by decide) ?_
      refine lv_iconst (v := 0) hx hb dX5_step_64 (by decide) ?_
      exact e_zret hx hb hr hlk hK hH hS dX5_step_65 (by rfl) (by simp only [f_X5_step, hq_9_1, oC_none, hq_20_2, oC_none]) (congrArg (Ex cs b) (by simp only [f_X5_step, hq_9_1, oC_none, hq_20_2, oC_none]))
    ·
      have q20_2b := (ok_takeNext (ok_giveWay (ok_wake ho))).2.2.1 _ hq_20_2
      refine W.eq (g2 := F0 m 23 ls [.ref (b + xo 5 q20_2)]) rfl ?_
      refine lv_astore_n (lv' := [(1, .ref (b + xo 5 q20_2)), (0, .ref (b + xo 0 0))]) hx hb dX5_step_23 rfl hl (by decide) rfl (fun ls hl => ?_)
      refine lv_aload_n hx hb dX5_step_24 rfl (lv_at hl 0 rfl) ?_
      refine lv_ifnull hx hb dX5_step_25 ?_
      refine lv_aload_n hx hb dX5_step_28 rfl (lv_at hl 1 rfl) ?_
      refine lv_aload_n hx hb dX5_step_29 rfl (lv_at hl 0 rfl) ?_
      refine e_cv (e_runV (C := RX5) (ci := 5) (As := [.ref (b + xo 5 q20_2)]) (rest := []) ⟨hx, hb, hml, hown, hts⟩ (k_X5_execute l D cs b (f_X5_takeNext (f_X5_giveWayToHigh (f_X5_wakeThoseWhoseTimeHasCome σ))) q20_2 (by assumption) (by first | exact (ok_takeNext (ok_giveWay (ok_wake ho))).2.2.2 | exact (ok_giveWay (ok_wake ho)).2.2.2)) ⟨callB_of 1 hts (gC wC_X5_execute) rfl rfl rfl (hts _ wi_X5) (hts _ wM_X5_148) (by decide +kernel) (by decide), hts _ wN_X5_execute, hts _ wS_X5_execute⟩ hK hH (xo_ok (by decide)).2.2 (Ex_at cs b (f_X5_takeNext (f_X5_giveWayToHigh (f_X5_wakeThoseWhoseTimeHasCome σ))) (by decide)) rfl rfl rfl hl.1 rfl (Nat.le_of_ble_eq_true rfl) dX5_step_30 (by decide)) hS (fun H locs hH hS => ?_)
      refine lv_aload_n hx hb dX5_step_33 rfl (lv_at hl 0 rfl) ?_
      refine fgX5_80 hx hb hts hown hK hH q20_2 (show q20_2 < 8 by first | assumption | omega) dX5_step_34 ?_
      refine lv_iconst (v := 2) hx hb dX5_step_37 (by decide) ?_
      refine lv_icmp_eq (tgt := 46) hx hb dX5_step_38 (by decide) (fun c_38_3 => ?_) (fun c_38_3 => ?_)
      ·
        refine lv_aload_n hx hb dX5_step_46 rfl (lv_at hl 1 rfl) ?_
        refine lv_dup hx hb dX5_step_47 rfl ?_
        refine fgX5_53 hx hb hts hown hK hH 0 (by decide) dX5_step_48 ?_
        refine lv_iconst (v := 1) hx hb dX5_step_51 (by decide) ?_
        refine lv_iadd hx hb dX5_step_52 ?_
        refine fpX5_53 hx hb hts hown hK hH hS 0 (by decide) dX5_step_53 (fun H locs hH hS => ?_)
        refine lv_aload_n hx hb dX5_step_56 rfl (lv_at hl 0 rfl) ?_
        refine lv_ifnull hx hb dX5_step_57 ?_
        refine lv_iconst (v := 1) hx hb dX5_step_60 (by decide) ?_
        refine lv_goto (tgt := 65) hx hb dX5_step_61 (by decide) ?_
        exact e_zret hx hb hr hlk hK hH hS dX5_step_65 (by rfl) (by simp only [f_X5_step, hq_9_1, oC_none, hq_20_2, oC_some, if_pos c_38_3]) (congrArg (Ex cs b) (by simp only [f_X5_step, hq_9_1, oC_none, hq_20_2, oC_some, if_pos c_38_3]))
      ·
        refine lv_aload_n hx hb dX5_step_41 rfl (lv_at hl 1 rfl) ?_
        refine lv_null hx hb dX5_step_42 ?_
        refine fpX5_49 hx hb hts hown hK hH hS 0 (by decide) (none) rfl dX5_step_43 (fun H locs hH hS => ?_)
        refine lv_aload_n hx hb dX5_step_46 rfl (lv_at hl 1 rfl) ?_
        refine lv_dup hx hb dX5_step_47 rfl ?_
        refine fgX5_53 hx hb hts hown hK hH 0 (by decide) dX5_step_48 ?_
        refine lv_iconst (v := 1) hx hb dX5_step_51 (by decide) ?_
        refine lv_iadd hx hb dX5_step_52 ?_
        refine fpX5_53 hx hb hts hown hK hH hS 0 (by decide) dX5_step_53 (fun H locs hH hS => ?_)
        refine lv_aload_n hx hb dX5_step_56 rfl (lv_at hl 0 rfl) ?_
        refine lv_ifnull hx hb dX5_step_57 ?_
        refine lv_iconst (v := 1) hx hb dX5_step_60 (by decide) ?_
        refine lv_goto (tgt := 65) hx hb dX5_step_61 (by decide) ?_
        exact e_zret hx hb hr hlk hK hH hS dX5_step_65 (by rfl) (by simp only [f_X5_step, hq_9_1, oC_none, hq_20_2, oC_some, if_neg c_38_3]) (congrArg (Ex cs b) (by simp only [f_X5_step, hq_9_1, oC_none, hq_20_2, oC_some, if_neg c_38_3]))
  ·
    have q9_1b := (ok_giveWay (ok_wake ho)).2.2.1 _ hq_9_1
    refine W.eq (g2 := F0 m 12 ls [.ref (b + xo 5 q9_1)]) rfl ?_
    refine lv_ifnonnull (tgt := 19) hx hb dX5_step_12 (by decide) ?_
    refine lv_aload_n hx hb dX5_step_19 rfl (lv_at hl 0 rfl) ?_
    refine fgX5_49 hx hb hts hown hK hH 0 (by decide) (some q9_1) (hq_9_1) dX5_step_20 ?_
    refine W.eq (g2 := F0 m 23 ls [.ref (b + xo 5 q9_1)]) rfl ?_
    refine lv_astore_n (lv' := [(1, .ref (b + xo 5 q9_1)), (0, .ref (b + xo 0 0))]) hx hb dX5_step_23 rfl hl (by decide) rfl (fun ls hl => ?_)
    refine lv_aload_n hx hb dX5_step_24 rfl (lv_at hl 0 rfl) ?_
    refine lv_ifnull hx hb dX5_step_25 ?_
    refine lv_aload_n hx hb dX5_step_28 rfl (lv_at hl 1 rfl) ?_
    refine lv_aload_n hx hb dX5_step_29 rfl (lv_at hl 0 rfl) ?_
    refine e_cv (e_runV (C := RX5) (ci := 5) (As := [.ref (b + xo 5 q9_1)]) (rest := []) ⟨hx, hb, hml, hown, hts⟩ (k_X5_execute l D cs b (f_X5_giveWayToHigh (f_X5_wakeThoseWhoseTimeHasCome σ)) q9_1 (by assumption) (by first | exact (ok_takeNext (ok_giveWay (ok_wake ho))).2.2.2 | exact (ok_giveWay (ok_wake ho)).2.2.2)) ⟨callB_of 1 hts (gC wC_X5_execute) rfl rfl rfl (hts _ wi_X5) (hts _ wM_X5_148) (by decide +kernel) (by decide), hts _ wN_X5_execute, hts _ wS_X5_execute⟩ hK hH (xo_ok (by decide)).2.2 (Ex_at cs b (f_X5_giveWayToHigh (f_X5_wakeThoseWhoseTimeHasCome σ)) (by decide)) rfl rfl rfl hl.1 rfl (Nat.le_of_ble_eq_true rfl) dX5_step_30 (by decide)) hS (fun H locs hH hS => ?_)
    refine lv_aload_n hx hb dX5_step_33 rfl (lv_at hl 0 rfl) ?_
    refine fgX5_80 hx hb hts hown hK hH q9_1 (show q9_1 < 8 by first | assumption | omega) dX5_step_34 ?_
    refine lv_iconst (v := 2) hx hb dX5_step_37 (by decide) ?_
    refine lv_icmp_eq (tgt := 46) hx hb dX5_step_38 (by decide) (fun c_38_4 => ?_) (fun c_38_4 => ?_)
    ·
      refine lv_aload_n hx hb dX5_step_46 rfl (lv_at hl 1 rfl) ?_
      refine lv_dup hx hb dX5_step_47 rfl ?_
      refine fgX5_53 hx hb hts hown hK hH 0 (by decide) dX5_step_48 ?_
      refine lv_iconst (v := 1) hx hb dX5_step_51 (by decide) ?_
      refine lv_iadd hx hb dX5_step_52 ?_
      refine fpX5_53 hx hb hts hown hK hH hS 0 (by decide) dX5_step_53 (fun H locs hH hS => ?_)
      refine lv_aload_n hx hb dX5_step_56 rfl (lv_at hl 0 rfl) ?_
      refine lv_ifnull hx hb dX5_step_57 ?_
      refine lv_iconst (v := 1) hx hb dX5_step_60 (by decide) ?_
      refine lv_goto (tgt := 65) hx hb dX5_step_61 (by decide) ?_
      exact e_zret hx hb hr hlk hK hH hS dX5_step_65 (by rfl) (by simp only [f_X5_step, hq_9_1, oC_some, if_pos c_38_4]) (congrArg (Ex cs b) (by simp only [f_X5_step, hq_9_1, oC_some, if_pos c_38_4]))
    ·
      refine lv_aload_n hx hb dX5_step_41 rfl (lv_at hl 1 rfl) ?_
      refine lv_null hx hb dX5_step_42 ?_
      refine fpX5_49 hx hb hts hown hK hH hS 0 (by decide) (none) rfl dX5_step_43 (fun H locs hH hS => ?_)
      refine lv_aload_n hx hb dX5_step_46 rfl (lv_at hl 1 rfl) ?_
      refine lv_dup hx hb dX5_step_47 rfl ?_
      refine fgX5_53 hx hb hts hown hK hH 0 (by decide) dX5_step_48 ?_
      refine lv_iconst (v := 1) hx hb dX5_step_51 (by decide) ?_
      refine lv_iadd hx hb dX5_step_52 ?_
      refine fpX5_53 hx hb hts hown hK hH hS 0 (by decide) dX5_step_53 (fun H locs hH hS => ?_)
      refine lv_aload_n hx hb dX5_step_56 rfl (lv_at hl 0 rfl) ?_
      refine lv_ifnull hx hb dX5_step_57 ?_
      refine lv_iconst (v := 1) hx hb dX5_step_60 (by decide) ?_
      refine lv_goto (tgt := 65) hx hb dX5_step_61 (by decide) ?_
      exact e_zret hx hb hr hlk hK hH hS dX5_step_65 (by rfl) (by simp only [f_X5_step, hq_9_1, oC_some, if_neg c_38_4]) (congrArg (Ex cs b) (by simp only [f_X5_step, hq_9_1, oC_some, if_neg c_38_4]))
