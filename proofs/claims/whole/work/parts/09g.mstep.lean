def lp_X6_step_2 : Nat → St → Nat → St
  | 0, σ, _ => σ
  | n + 1, σ, j => (if 8 ≤ nI j then σ else (if gI σ 15 0 j = 4 then (if 0 < (gI σ 20 0 j) - (gI σ 13 0 11) then lp_X6_step_2 n σ ((j + 1)) else lp_X6_step_2 n (f_X6_atEnd σ j) ((j + 1))) else lp_X6_step_2 n σ ((j + 1))))
def f_X6_step (σ : St)  : Int32 × St := (oC (f_X6_current (lp_X6_step_2 9 σ 0)) ((oC (f_X6_ready (lp_X6_step_2 9 σ 0) 0 0) ((oC (f_X6_ready (lp_X6_step_2 9 σ 0) 1 0) ((1, sI (sI (lp_X6_step_2 9 σ 0) 13 0 12 0) 13 0 11 ((gI (sI (lp_X6_step_2 9 σ 0) 13 0 12 0) 13 0 11) + 1))) (fun q125_9 => (0, sI (f_X6_instruction (sI (sI (lp_X6_step_2 9 σ 0) 13 0 12 0) 15 0 q125_9 2) q125_9) 13 0 11 ((gI (f_X6_instruction (sI (sI (lp_X6_step_2 9 σ 0) 13 0 12 0) 15 0 q125_9 2) q125_9) 13 0 11) + 1))))) (fun q107_7 => (0, sI (f_X6_instruction (sI (sI (lp_X6_step_2 9 σ 0) 13 0 12 0) 15 0 q107_7 2) q107_7) 13 0 11 ((gI (f_X6_instruction (sI (sI (lp_X6_step_2 9 σ 0) 13 0 12 0) 15 0 q107_7 2) q107_7) 13 0 11) + 1))))) (fun q44_4 => (if gI (lp_X6_step_2 9 σ 0) 16 0 q44_4 = 1 then (oC (f_X6_ready (lp_X6_step_2 9 σ 0) 0 0) ((0, sI (f_X6_instruction (lp_X6_step_2 9 σ 0) q44_4) 13 0 11 ((gI (f_X6_instruction (lp_X6_step_2 9 σ 0) q44_4) 13 0 11) + 1))) (fun q65_25 => (oC (f_X6_ready (sI (sI (sI (lp_X6_step_2 9 σ 0) 15 0 q44_4 1) 13 0 9 ((gI (sI (lp_X6_step_2 9 σ 0) 15 0 q44_4 1) 13 0 9) - 1)) 19 0 q44_4 (gI (sI (sI (lp_X6_step_2 9 σ 0) 15 0 q44_4 1) 13 0 9 ((gI (sI (lp_X6_step_2 9 σ 0) 15 0 q44_4 1) 13 0 9) - 1)) 13 0 9)) 0 0) ((oC (f_X6_ready (sI (sI (sI (lp_X6_step_2 9 σ 0) 15 0 q44_4 1) 13 0 9 ((gI (sI (lp_X6_step_2 9 σ 0) 15 0 q44_4 1) 13 0 9) - 1)) 19 0 q44_4 (gI (sI (sI (lp_X6_step_2 9 σ 0) 15 0 q44_4 1) 13 0 9 ((gI (sI (lp_X6_step_2 9 σ 0) 15 0 q44_4 1) 13 0 9) - 1)) 13 0 9)) 1 0) ((1, sI (sI (sI (sI (sI (lp_X6_step_2 9 σ 0) 15 0 q44_4 1) 13 0 9 ((gI (sI (lp_X6_step_2 9 σ 0) 15 0 q44_4 1) 13 0 9) - 1)) 19 0 q44_4 (gI (sI (sI (lp_X6_step_2 9 σ 0) 15 0 q44_4 1) 13 0 9 ((gI (sI (lp_X6_step_2 9 σ 0) 15 0 q44_4 1) 13 0 9) - 1)) 13 0 9)) 13 0 12 0) 13 0 11 ((gI (sI (sI (sI (sI (lp_X6_step_2 9 σ 0) 15 0 q44_4 1) 13 0 9 ((gI (sI (lp_X6_step_2 9 σ 0) 15 0 q44_4 1) 13 0 9) - 1)) 19 0 q44_4 (gI (sI (sI (lp_X6_step_2 9 σ 0) 15 0 q44_4 1) 13 0 9 ((gI (sI (lp_X6_step_2 9 σ 0) 15 0 q44_4 1) 13 0 9) - 1)) 13 0 9)) 13 0 12 0) 13 0 11) + 1))) (fun q125_34 => (0, sI (f_X6_instruction (sI (sI (sI (sI (sI (lp_X6_step_2 9 σ 0) 15 0 q44_4 1) 13 0 9 ((gI (sI (lp_X6_step_2 9 σ 0) 15 0 q44_4 1) 13 0 9) - 1)) 19 0 q44_4 (gI (sI (sI (lp_X6_step_2 9 σ 0) 15 0 q44_4 1) 13 0 9 ((gI (sI (lp_X6_step_2 9 σ 0) 15 0 q44_4 1) 13 0 9) - 1)) 13 0 9)) 13 0 12 0) 15 0 q125_34 2) q125_34) 13 0 11 ((gI (f_X6_instruction (sI (sI (sI (sI (sI (lp_X6_step_2 9 σ 0) 15 0 q44_4 1) 13 0 9 ((gI (sI (lp_X6_step_2 9 σ 0) 15 0 q44_4 1) 13 0 9) - 1)) 19 0 q44_4 (gI (sI (sI (lp_X6_step_2 9 σ 0) 15 0 q44_4 1) 13 0 9 ((gI (sI (lp_X6_step_2 9 σ 0) 15 0 q44_4 1) 13 0 9) - 1)) 13 0 9)) 13 0 12 0) 15 0 q125_34 2) q125_34) 13 0 11) + 1))))) (fun q107_32 => (0, sI (f_X6_instruction (sI (sI (sI (sI (sI (lp_X6_step_2 9 σ 0) 15 0 q44_4 1) 13 0 9 ((gI (sI (lp_X6_step_2 9 σ 0) 15 0 q44_4 1) 13 0 9) - 1)) 19 0 q44_4 (gI (sI (sI (lp_X6_step_2 9 σ 0) 15 0 q44_4 1) 13 0 9 ((gI (sI (lp_X6_step_2 9 σ 0) 15 0 q44_4 1) 13 0 9) - 1)) 13 0 9)) 13 0 12 0) 15 0 q107_32 2) q107_32) 13 0 11 ((gI (f_X6_instruction (sI (sI (sI (sI (sI (lp_X6_step_2 9 σ 0) 15 0 q44_4 1) 13 0 9 ((gI (sI (lp_X6_step_2 9 σ 0) 15 0 q44_4 1) 13 0 9) - 1)) 19 0 q44_4 (gI (sI (sI (lp_X6_step_2 9 σ 0) 15 0 q44_4 1) 13 0 9 ((gI (sI (lp_X6_step_2 9 σ 0) 15 0 q44_4 1) 13 0 9) - 1)) 13 0 9)) 13 0 12 0) 15 0 q107_32 2) q107_32) 13 0 11) + 1)))))) else (0, sI (f_X6_instruction (lp_X6_step_2 9 σ 0) q44_4) 13 0 11 ((gI (f_X6_instruction (lp_X6_step_2 9 σ 0) q44_4) 13 0 11) + 1)))))
theorem okM_wake {N : Nat} : ∀ (n : Nat) (σ : St) (j : Nat), okM N σ → okM N (lp_X6_step_2 n σ j) := by
  intro n
  induction n with
  | zero => intro σ j h; exact h
  | succ n ih =>
    intro σ j h
    unfold lp_X6_step_2
    split
    · exact h
    · split
      · split
        · exact ih _ _ h
        · exact ih _ _ (okM_atEnd h)
      · exact ih _ _ h
set_option maxRecDepth 100000 in
set_option maxHeartbeats 4000000 in
theorem w_X6_step_2 {l : Launch} {D : va_G} {cs : Nat → ClassId} {b : Nat} {pg : Program} {e : Env} {s : State} {m : MethodId} {below : List Frame} {meth : Method} {c : Code}   (N : Nat) (hN : N < 2 ^ 30) (hx : pg.tables.exec = Jvm.exec) (hb : c.code = cX6_step) (hml : c.maxLocals = 2) {args : Array Value} {H0 : Heap} {Q : State → Prop} (hts : ∀ w ∈ T0, w.before args s = true) (hown : s.vm.findClass RX6 = some m.cls) (hK : va_K D vwCl (tyx cs) s) : ∀ (n : Nat) (σ : St) (j : Nat), 8 < j + n → j ≤ 8 → ∀ (H : Heap) (locs : List Loc) (ls : Array Slot), (∀ (H : Heap) (locs : List Loc) (ls : Array Slot), He D b 43 (Ex cs b (lp_X6_step_2 n σ j)) H → va_S (fun a => b ≤ a) H0 H locs → lv_has ls 2 [(0, .ref (b + xo 13 0))] → W pg l e { frames := 4, cells := 0, slots := 0, locals := 97 } s m args below meth c H locs 0 0 Q (F0 m 43 ls [])) → He D b 43 (Ex cs b σ) H → va_S (fun a => b ≤ a) H0 H locs → lv_has ls 2 [(0, .ref (b + xo 13 0)), (1, .int (nI j))] → W pg l e { frames := 4, cells := 0, slots := 0, locals := 97 } s m args below meth c H locs 0 0 Q (F0 m 2 ls []) := by
  intro n
  induction n with
  | zero =>
    intro σ j h0 h1
    exact absurd h0 (by omega)
  | succ n ih =>
    intro σ j h0 h1 H locs ls kk hH hS hl
    refine lv_iload_n hx hb dX6_step_2 rfl (lv_at hl 1 rfl) ?_
    refine lv_bipush (v := 8) hx hb dX6_step_3 (by decide) ?_
    refine lv_icmp_ge (tgt := 43) hx hb dX6_step_5 (by decide) (fun c_5_1 => ?_) (fun c_5_1 => ?_)
    ·
      have e_ : lp_X6_step_2 (n + 1) σ j = σ := by simp only [lp_X6_step_2, if_pos c_5_1]
      rw [e_] at kk
      exact kk _ _ _ hH hS (lv_sub hl [0] rfl)
    ·
      have hj8 := ngt_8 (j := j) (by omega) 8 (by decide) (by assumption)
      refine lv_aload_n hx hb dX6_step_8 rfl (lv_at hl 0 rfl) ?_
      refine fgX6_13 hx hb hts hown hK hH 0 (by decide) dX6_step_9 ?_
      refine lv_iload_n hx hb dX6_step_12 rfl (lv_at hl 1 rfl) ?_
      refine x_iald hx hb hK hH 15 0 8 (by decide) rfl j rfl (by omega) (by decide) dX6_step_13 ?_
      refine lv_iconst (v := 4) hx hb dX6_step_14 (by decide) ?_
      refine lv_icmp_ne (tgt := 37) hx hb dX6_step_15 (by decide) (fun c_15_2 => ?_) (fun c_15_2 => ?_)
      ·
        refine lv_iinc (v := nI (j + 1)) (lv' := [(1, .int (nI (j + 1))), (0, .ref (b + xo 13 0))]) hx hb dX6_step_37 hl (k := 1) rfl (nI_1 j) (by decide) rfl (fun ls hl => ?_)
        refine lv_goto (tgt := 2) hx hb dX6_step_40 (by decide) ?_
        have e_ : lp_X6_step_2 (n + 1) σ j = lp_X6_step_2 n σ ((j + 1)) := by simp only [lp_X6_step_2, if_neg c_5_1, if_neg c_15_2]
        rw [e_] at kk
        exact ih σ ((j + 1)) (by omega) (by omega) _ _ _ kk hH hS (lv_sub hl [1, 0] rfl)
      ·
        refine lv_aload_n hx hb dX6_step_18 rfl (lv_at hl 0 rfl) ?_
        refine fgX6_28 hx hb hts hown hK hH 0 (by decide) dX6_step_19 ?_
        refine lv_iload_n hx hb dX6_step_22 rfl (lv_at hl 1 rfl) ?_
        refine x_iald hx hb hK hH 20 0 8 (by decide) rfl j rfl (by omega) (by decide) dX6_step_23 ?_
        refine lv_aload_n hx hb dX6_step_24 rfl (lv_at hl 0 rfl) ?_
        refine fgX6_59 hx hb hts hown hK hH 0 (by decide) dX6_step_25 ?_
        refine lv_isub hx hb dX6_step_28 ?_
        refine lv_if_gt (tgt := 37) hx hb dX6_step_29 (by decide) (fun c_29_3 => ?_) (fun c_29_3 => ?_)
        ·
          refine lv_iinc (v := nI (j + 1)) (lv' := [(1, .int (nI (j + 1))), (0, .ref (b + xo 13 0))]) hx hb dX6_step_37 hl (k := 1) rfl (nI_1 j) (by decide) rfl (fun ls hl => ?_)
          refine lv_goto (tgt := 2) hx hb dX6_step_40 (by decide) ?_
          have e_ : lp_X6_step_2 (n + 1) σ j = lp_X6_step_2 n σ ((j + 1)) := by simp only [lp_X6_step_2, if_neg c_5_1, if_pos c_15_2, if_pos c_29_3]
          rw [e_] at kk
          exact ih σ ((j + 1)) (by omega) (by omega) _ _ _ kk hH hS (lv_sub hl [1, 0] rfl)
        ·
          refine lv_aload_n hx hb dX6_step_32 rfl (lv_at hl 0 rfl) ?_
          refine lv_iload_n hx hb dX6_step_33 rfl (lv_at hl 1 rfl) ?_
          refine e_cv (e_runV (C := RX6) (ci := 6) (As := [.int (nI j)]) (rest := []) ⟨hx, hb, hml, hown, hts⟩ (k_X6_atEnd l D cs b σ j (by first | assumption | omega | decide)) ⟨callB_of 1 hts (gC wC_X6_atEnd) rfl rfl rfl (hts _ wi_X6) (hts _ wM_X6_51) (by decide +kernel) (by decide), hts _ wN_X6_atEnd, hts _ wS_X6_atEnd⟩ hK hH (xo_ok (by decide)).2.2 (Ex_at cs b σ (by decide)) rfl rfl rfl hl.1 rfl (Nat.le_of_ble_eq_true rfl) dX6_step_34 (by decide)) hS (fun H locs hH hS => ?_)
          refine lv_iinc (v := nI (j + 1)) (lv' := [(1, .int (nI (j + 1))), (0, .ref (b + xo 13 0))]) hx hb dX6_step_37 hl (k := 1) rfl (nI_1 j) (by decide) rfl (fun ls hl => ?_)
          refine lv_goto (tgt := 2) hx hb dX6_step_40 (by decide) ?_
          have e_ : lp_X6_step_2 (n + 1) σ j = lp_X6_step_2 n (f_X6_atEnd σ j) ((j + 1)) := by simp only [lp_X6_step_2, if_neg c_5_1, if_pos c_15_2, if_neg c_29_3]
          rw [e_] at kk
          exact ih (f_X6_atEnd σ j) ((j + 1)) (by omega) (by omega) _ _ _ kk hH hS (lv_sub hl [1, 0] rfl)
set_option maxRecDepth 100000 in
set_option maxHeartbeats 4000000 in
theorem k_X6_step (l : Launch) (D : va_G) (cs : Nat → ClassId) (b : Nat) (σ : St)  (N : Nat) (hm : okM N σ) (hN : N < 2 ^ 30) : Met l yX6_step (Cond.code yX6_step cX6_step 2 (some FieldType.boolean) :: T0) { frames := 4, cells := 0, slots := 0, locals := 97 } (Pe D (tyx cs) b 43 (Ex cs b σ) [.ref (b + xo 13 0)]) (Qi D (tyx cs) b 43 (Ex cs b (f_X6_step σ).2) (f_X6_step σ).1) 0 0 (fun a => b ≤ a) := by
  refine e_met (by decide) rfl (Nat.le_of_ble_eq_true rfl) (fun pg e s m below meth c ls hx hb hr hml hts0 hown hlk hnm hH hK hl hS => ?_)
  have hts : ∀ w ∈ T0, w.before _ s = true := fun w h => hts0 w (List.mem_cons_of_mem _ h)
  have hl : lv_has ls 2 [(0, .ref (b + xo 13 0))] := hl
  refine lv_iconst (v := 0) hx hb dX6_step_0 (by decide) ?_
  refine lv_istore_n (lv' := [(1, .int (0)), (0, .ref (b + xo 13 0))]) hx hb dX6_step_1 rfl hl (by decide) rfl (fun ls hl => ?_)
  refine w_X6_step_2 N hN hx hb hml hts hown hK 9 σ 0 (by omega) (by omega) _ _ _ (fun H locs ls hH hS hl => ?_) hH hS (lv_sub hl [1, 0] rfl)
  refine lv_aload_n hx hb dX6_step_43 rfl (lv_at hl 0 rfl) ?_
  refine e_ci (e_runV (C := RX6) (ci := 6) (As := []) (rest := []) ⟨hx, hb, hml, hown, hts⟩ (k_X6_current l D cs b (lp_X6_step_2 9 σ 0)  ) ⟨callB_of 0 hts (gC wC_X6_current) rfl rfl rfl (hts _ wi_X6) (hts _ wM_X6_88) (by decide +kernel) (by decide), hts _ wN_X6_current, hts _ wS_X6_current⟩ hK hH (xo_ok (by decide)).2.2 (Ex_at cs b (lp_X6_step_2 9 σ 0) (by decide)) rfl rfl rfl hl.1 rfl (Nat.le_of_ble_eq_true rfl) dX6_step_44 (by decide)) hS (fun H locs hH hS => ?_)
  rcases hq_44_4 : f_X6_current (lp_X6_step_2 9 σ 0) with _ | q44_4
  ·
    refine W.eq (g2 := F0 m 47 ls [.int ((-1))]) rfl ?_
    refine lv_istore_n (lv' := [(1, .int ((-1))), (0, .ref (b + xo 13 0))]) hx hb dX6_step_47 rfl hl (by decide) rfl (fun ls hl => ?_)
    refine lv_iload_n hx hb dX6_step_48 rfl (lv_at hl 0 rfl) ?_
    refine lv_if_lt (tgt := 100) hx hb dX6_step_49 (by decide) (fun c_49_5 => ?_) (fun c_49_5 => ?_)
    rotate_left
    ·
      exact absurd (by decide) c_49_5
    refine lv_iload_n hx hb dX6_step_100 rfl (lv_at hl 0 rfl) ?_
    refine lv_if_ge (tgt := 145) hx hb dX6_step_101 (by decide) (fun c_101_6 => ?_) (fun c_101_6 => ?_)
    ·
      exact absurd c_101_6 (by decide)
    refine lv_aload_n hx hb dX6_step_104 rfl (lv_at hl 1 rfl) ?_
    refine lv_iconst (v := 0) hx hb dX6_step_105 (by decide) ?_
    refine lv_iconst (v := 0) hx hb dX6_step_106 (by decide) ?_
    refine e_ci (e_runV (C := RX6) (ci := 6) (As := [.int (0), .int (0)]) (rest := []) ⟨hx, hb, hml, hown, hts⟩ (k_X6_ready l D cs b (lp_X6_step_2 9 σ 0) 0 0 ) ⟨callB_of 2 hts (gC wC_X6_ready) rfl rfl rfl (hts _ wi_X6) (hts _ wM_X6_92) (by decide +kernel) (by decide), hts _ wN_X6_ready, hts _ wS_X6_ready⟩ hK hH (xo_ok (by decide)).2.2 (Ex_at cs b (lp_X6_step_2 9 σ 0) (by decide)) rfl rfl rfl hl.1 rfl (Nat.le_of_ble_eq_true rfl) dX6_step_107 (by decide)) hS (fun H locs hH hS => ?_)
    rcases hq_107_7 : f_X6_ready (lp_X6_step_2 9 σ 0) 0 0 with _ | q107_7
    ·
      refine W.eq (g2 := F0 m 110 ls [.int ((-1))]) rfl ?_
      refine lv_if_lt (tgt := 122) hx hb dX6_step_110 (by decide) (fun c_110_8 => ?_) (fun c_110_8 => ?_)
      rotate_left
      ·
        exact absurd (by decide) c_110_8
      refine lv_aload_n hx hb dX6_step_122 rfl (lv_at hl 1 rfl) ?_
      refine lv_iconst (v := 1) hx hb dX6_step_123 (by decide) ?_
      refine lv_iconst (v := 0) hx hb dX6_step_124 (by decide) ?_
      refine e_ci (e_runV (C := RX6) (ci := 6) (As := [.int (1), .int (0)]) (rest := []) ⟨hx, hb, hml, hown, hts⟩ (k_X6_ready l D cs b (lp_X6_step_2 9 σ 0) 1 0 ) ⟨callB_of 2 hts (gC wC_X6_ready) rfl rfl rfl (hts _ wi_X6) (hts _ wM_X6_92) (by decide +kernel) (by decide), hts _ wN_X6_ready, hts _ wS_X6_ready⟩ hK hH (xo_ok (by decide)).2.2 (Ex_at cs b (lp_X6_step_2 9 σ 0) (by decide)) rfl rfl rfl hl.1 rfl (Nat.le_of_ble_eq_true rfl) dX6_step_125 (by decide)) hS (fun H locs hH hS => ?_)
      rcases hq_125_9 : f_X6_ready (lp_X6_step_2 9 σ 0) 1 0 with _ | q125_9
      ·
        refine W.eq (g2 := F0 m 128 ls [.int ((-1))]) rfl ?_
        refine lv_istore_n (lv' := [(1, .int ((-1))), (0, .ref (b + xo 13 0))]) hx hb dX6_step_128 rfl hl (by decide) rfl (fun ls hl => ?_)
        refine lv_aload_n hx hb dX6_step_129 rfl (lv_at hl 1 rfl) ?_
        refine lv_iconst (v := 0) hx hb dX6_step_130 (by decide) ?_
        refine fpX6_76 hx hb hts hown hK hH hS 0 (by decide) dX6_step_131 (fun H locs hH hS => ?_)
        refine lv_iload_n hx hb dX6_step_134 rfl (lv_at hl 0 rfl) ?_
        refine lv_if_lt (tgt := 145) hx hb dX6_step_135 (by decide) (fun c_135_10 => ?_) (fun c_135_10 => ?_)
        rotate_left
        ·
          exact absurd (by decide) c_135_10
        refine lv_iload_n hx hb dX6_step_145 rfl (lv_at hl 0 rfl) ?_
        refine lv_if_lt (tgt := 154) hx hb dX6_step_146 (by decide) (fun c_146_11 => ?_) (fun c_146_11 => ?_)
        rotate_left
        ·
          exact absurd (by decide) c_146_11
        refine lv_aload_n hx hb dX6_step_154 rfl (lv_at hl 1 rfl) ?_
        refine lv_dup hx hb dX6_step_155 rfl ?_
        refine fgX6_59 hx hb hts hown hK hH 0 (by decide) dX6_step_156 ?_
        refine lv_iconst (v := 1) hx hb dX6_step_159 (by decide) ?_
        refine lv_iadd hx hb dX6_step_160 ?_
        refine fpX6_59 hx hb hts hown hK hH hS 0 (by decide) dX6_step_161 (fun H locs hH hS => ?_)
        refine lv_iload_n hx hb dX6_step_164 rfl (lv_at hl 0 rfl) ?_
        refine lv_if_ge (tgt := 172) hx hb dX6_step_165 (by decide) (fun c_165_12 => ?_) (fun c_165_12 => ?_)
        ·
          exact absurd c_165_12 (by decide)
        refine lv_iconst (v := 1) hx hb dX6_step_168 (by decide) ?_
        refine lv_goto (tgt := 173) hx hb dX6_step_169 (by decide) ?_
        exact e_zret hx hb hr hlk hK hH hS dX6_step_173 (by rfl) (by simp only [f_X6_step, hq_44_4, oC_none, hq_107_7, oC_none, hq_125_9, oC_none]) (congrArg (Ex cs b) (by simp only [f_X6_step, hq_44_4, oC_none, hq_107_7, oC_none, hq_125_9, oC_none]))
      ·
        have q125_9b := rdy_lt hq_125_9
        refine W.eq (g2 := F0 m 128 ls [.int (nI q125_9)]) rfl ?_
        refine lv_istore_n (lv' := [(1, .int (nI q125_9)), (0, .ref (b + xo 13 0))]) hx hb dX6_step_128 rfl hl (by decide) rfl (fun ls hl => ?_)
        refine lv_aload_n hx hb dX6_step_129 rfl (lv_at hl 1 rfl) ?_
        refine lv_iconst (v := 0) hx hb dX6_step_130 (by decide) ?_
        refine fpX6_76 hx hb hts hown hK hH hS 0 (by decide) dX6_step_131 (fun H locs hH hS => ?_)
        refine lv_iload_n hx hb dX6_step_134 rfl (lv_at hl 0 rfl) ?_
        refine lv_if_lt (tgt := 145) hx hb dX6_step_135 (by decide) (fun c_135_13 => ?_) (fun c_135_13 => ?_)
        ·
          exact absurd c_135_13 (nI_pos (by omega))
        refine lv_aload_n hx hb dX6_step_138 rfl (lv_at hl 1 rfl) ?_
        refine fgX6_13 hx hb hts hown hK hH 0 (by decide) dX6_step_139 ?_
        refine lv_iload_n hx hb dX6_step_142 rfl (lv_at hl 0 rfl) ?_
        refine lv_iconst (v := 2) hx hb dX6_step_143 (by decide) ?_
        refine x_iast hx hb hK hH hS 15 0 8 (by decide) (fun _ _ => rfl) q125_9 rfl (by omega) (by decide) dX6_step_144 (fun H locs hH hS => ?_)
        refine lv_iload_n hx hb dX6_step_145 rfl (lv_at hl 0 rfl) ?_
        refine lv_if_lt (tgt := 154) hx hb dX6_step_146 (by decide) (fun c_146_14 => ?_) (fun c_146_14 => ?_)
        ·
          exact absurd c_146_14 (nI_pos (by omega))
        refine lv_aload_n hx hb dX6_step_149 rfl (lv_at hl 1 rfl) ?_
        refine lv_iload_n hx hb dX6_step_150 rfl (lv_at hl 0 rfl) ?_
        have hmm : okM N (sI (sI (lp_X6_step_2 9 σ 0) 13 0 12 0) 15 0 q125_9 2) := by repeat (first | exact okM_wake _ _ _ hm | refine okM_sI (by omega) ?_)
        refine e_cv (e_runV (C := RX6) (ci := 6) (As := [.int (nI q125_9)]) (rest := []) ⟨hx, hb, hml, hown, hts⟩ (k_X6_instruction l D cs b (sI (sI (lp_X6_step_2 9 σ 0) 13 0 12 0) 15 0 q125_9 2) q125_9 (by assumption) N hmm.2.2.2.1 hN hmm.2.1 hmm.1 hmm.2.2.1 hmm.2.2.2.2) ⟨callB_of 1 hts (gC wC_X6_instruction) rfl rfl rfl (hts _ wi_X6) (hts _ wM_X6_99) (by decide +kernel) (by decide), hts _ wN_X6_instruction, hts _ wS_X6_instruction⟩ hK hH (xo_ok (by decide)).2.2 (Ex_at cs b (sI (sI (lp_X6_step_2 9 σ 0) 13 0 12 0) 15 0 q125_9 2) (by decide)) rfl rfl rfl hl.1 rfl (Nat.le_of_ble_eq_true rfl) dX6_step_151 (by decide)) hS (fun H locs hH hS => ?_)
        refine lv_aload_n hx hb dX6_step_154 rfl (lv_at hl 1 rfl) ?_
        refine lv_dup hx hb dX6_step_155 rfl ?_
        refine fgX6_59 hx hb hts hown hK hH 0 (by decide) dX6_step_156 ?_
        refine lv_iconst (v := 1) hx hb dX6_step_159 (by decide) ?_
        refine lv_iadd hx hb dX6_step_160 ?_
        refine fpX6_59 hx hb hts hown hK hH hS 0 (by decide) dX6_step_161 (fun H locs hH hS => ?_)
        refine lv_iload_n hx hb dX6_step_164 rfl (lv_at hl 0 rfl) ?_
        refine lv_if_ge (tgt := 172) hx hb dX6_step_165 (by decide) (fun c_165_15 => ?_) (fun c_165_15 => ?_)
        rotate_left
        ·
          exact absurd (nI_pos' (by omega)) c_165_15
        refine lv_iconst (v := 0) hx hb dX6_step_172 (by decide) ?_
        exact e_zret hx hb hr hlk hK hH hS dX6_step_173 (by rfl) (by simp only [f_X6_step, hq_44_4, oC_none, hq_107_7, oC_none, hq_125_9, oC_some]) (congrArg (Ex cs b) (by simp only [f_X6_step, hq_44_4, oC_none, hq_107_7, oC_none, hq_125_9, oC_some]))
    ·
      have q107_7b := rdy_lt hq_107_7
      refine W.eq (g2 := F0 m 110 ls [.int (nI q107_7)]) rfl ?_
      refine lv_if_lt (tgt := 122) hx hb dX6_step_110 (by decide) (fun c_110_16 => ?_) (fun c_110_16 => ?_)
      ·
        exact absurd c_110_16 (nI_pos (by omega))
      refine lv_aload_n hx hb dX6_step_113 rfl (lv_at hl 1 rfl) ?_
      refine lv_iconst (v := 0) hx hb dX6_step_114 (by decide) ?_
      refine lv_iconst (v := 0) hx hb dX6_step_115 (by decide) ?_
      refine e_ci (e_runV (C := RX6) (ci := 6) (As := [.int (0), .int (0)]) (rest := []) ⟨hx, hb, hml, hown, hts⟩ (k_X6_ready l D cs b (lp_X6_step_2 9 σ 0) 0 0 ) ⟨callB_of 2 hts (gC wC_X6_ready) rfl rfl rfl (hts _ wi_X6) (hts _ wM_X6_92) (by decide +kernel) (by decide), hts _ wN_X6_ready, hts _ wS_X6_ready⟩ hK hH (xo_ok (by decide)).2.2 (Ex_at cs b (lp_X6_step_2 9 σ 0) (by decide)) rfl rfl rfl hl.1 rfl (Nat.le_of_ble_eq_true rfl) dX6_step_116 (by decide)) hS (fun H locs hH hS => ?_)
      rw [hq_107_7]
      refine W.eq (g2 := F0 m 119 ls [.int (nI q107_7)]) rfl ?_
      refine lv_goto (tgt := 128) hx hb dX6_step_119 (by decide) ?_
      refine lv_istore_n (lv' := [(1, .int (nI q107_7)), (0, .ref (b + xo 13 0))]) hx hb dX6_step_128 rfl hl (by decide) rfl (fun ls hl => ?_)
      refine lv_aload_n hx hb dX6_step_129 rfl (lv_at hl 1 rfl) ?_
      refine lv_iconst (v := 0) hx hb dX6_step_130 (by decide) ?_
      refine fpX6_76 hx hb hts hown hK hH hS 0 (by decide) dX6_step_131 (fun H locs hH hS => ?_)
      refine lv_iload_n hx hb dX6_step_134 rfl (lv_at hl 0 rfl) ?_
      refine lv_if_lt (tgt := 145) hx hb dX6_step_135 (by decide) (fun c_135_17 => ?_) (fun c_135_17 => ?_)
      ·
        exact absurd c_135_17 (nI_pos (by omega))
      refine lv_aload_n hx hb dX6_step_138 rfl (lv_at hl 1 rfl) ?_
      refine fgX6_13 hx hb hts hown hK hH 0 (by decide) dX6_step_139 ?_
      refine lv_iload_n hx hb dX6_step_142 rfl (lv_at hl 0 rfl) ?_
      refine lv_iconst (v := 2) hx hb dX6_step_143 (by decide) ?_
      refine x_iast hx hb hK hH hS 15 0 8 (by decide) (fun _ _ => rfl) q107_7 rfl (by omega) (by decide) dX6_step_144 (fun H locs hH hS => ?_)
      refine lv_iload_n hx hb dX6_step_145 rfl (lv_at hl 0 rfl) ?_
      refine lv_if_lt (tgt := 154) hx hb dX6_step_146 (by decide) (fun c_146_18 => ?_) (fun c_146_18 => ?_)
      ·
        exact absurd c_146_18 (nI_pos (by omega))
      refine lv_aload_n hx hb dX6_step_149 rfl (lv_at hl 1 rfl) ?_
      refine lv_iload_n hx hb dX6_step_150 rfl (lv_at hl 0 rfl) ?_
      have hmm : okM N (sI (sI (lp_X6_step_2 9 σ 0) 13 0 12 0) 15 0 q107_7 2) := by repeat (first | exact okM_wake _ _ _ hm | refine okM_sI (by omega) ?_)
      refine e_cv (e_runV (C := RX6) (ci := 6) (As := [.int (nI q107_7)]) (rest := []) ⟨hx, hb, hml, hown, hts⟩ (k_X6_instruction l D cs b (sI (sI (lp_X6_step_2 9 σ 0) 13 0 12 0) 15 0 q107_7 2) q107_7 (by assumption) N hmm.2.2.2.1 hN hmm.2.1 hmm.1 hmm.2.2.1 hmm.2.2.2.2) ⟨callB_of 1 hts (gC wC_X6_instruction) rfl rfl rfl (hts _ wi_X6) (hts _ wM_X6_99) (by decide +kernel) (by decide), hts _ wN_X6_instruction, hts _ wS_X6_instruction⟩ hK hH (xo_ok (by decide)).2.2 (Ex_at cs b (sI (sI (lp_X6_step_2 9 σ 0) 13 0 12 0) 15 0 q107_7 2) (by decide)) rfl rfl rfl hl.1 rfl (Nat.le_of_ble_eq_true rfl) dX6_step_151 (by decide)) hS (fun H locs hH hS => ?_)
      refine lv_aload_n hx hb dX6_step_154 rfl (lv_at hl 1 rfl) ?_
      refine lv_dup hx hb dX6_step_155 rfl ?_
      refine fgX6_59 hx hb hts hown hK hH 0 (by decide) dX6_step_156 ?_
      refine lv_iconst (v := 1) hx hb dX6_step_159 (by decide) ?_
      refine lv_iadd hx hb dX6_step_160 ?_
      refine fpX6_59 hx hb hts hown hK hH hS 0 (by decide) dX6_step_161 (fun H locs hH hS => ?_)
      refine lv_iload_n hx hb dX6_step_164 rfl (lv_at hl 0 rfl) ?_
      refine lv_if_ge (tgt := 172) hx hb dX6_step_165 (by decide) (fun c_165_19 => ?_) (fun c_165_19 => ?_)
      rotate_left
      ·
        exact absurd (nI_pos' (by omega)) c_165_19
      refine lv_iconst (v := 0) hx hb dX6_step_172 (by decide) ?_
      exact e_zret hx hb hr hlk hK hH hS dX6_step_173 (by rfl) (by simp only [f_X6_step, hq_44_4, oC_none, hq_107_7, oC_some]) (congrArg (Ex cs b) (by simp only [f_X6_step, hq_44_4, oC_none, hq_107_7, oC_some]))
  ·
    have q44_4b := cur_lt hq_44_4
    refine W.eq (g2 := F0 m 47 ls [.int (nI q44_4)]) rfl ?_
    refine lv_istore_n (lv' := [(1, .int (nI q44_4)), (0, .ref (b + xo 13 0))]) hx hb dX6_step_47 rfl hl (by decide) rfl (fun ls hl => ?_)
    refine lv_iload_n hx hb dX6_step_48 rfl (lv_at hl 0 rfl) ?_
    refine lv_if_lt (tgt := 100) hx hb dX6_step_49 (by decide) (fun c_49_20 => ?_) (fun c_49_20 => ?_)
    ·
      exact absurd c_49_20 (nI_pos (by omega))
    refine lv_aload_n hx hb dX6_step_52 rfl (lv_at hl 1 rfl) ?_
    refine fgX6_16 hx hb hts hown hK hH 0 (by decide) dX6_step_53 ?_
    refine lv_iload_n hx hb dX6_step_56 rfl (lv_at hl 0 rfl) ?_
    refine x_iald hx hb hK hH 16 0 8 (by decide) rfl q44_4 rfl (by omega) (by decide) dX6_step_57 ?_
    refine lv_iconst (v := 1) hx hb dX6_step_58 (by decide) ?_
    refine lv_icmp_ne (tgt := 100) hx hb dX6_step_59 (by decide) (fun c_59_21 => ?_) (fun c_59_21 => ?_)
    ·
      refine lv_iload_n hx hb dX6_step_100 rfl (lv_at hl 0 rfl) ?_
      refine lv_if_ge (tgt := 145) hx hb dX6_step_101 (by decide) (fun c_101_22 => ?_) (fun c_101_22 => ?_)
      rotate_left
      ·
        exact absurd (nI_pos' (by omega)) c_101_22
      refine lv_iload_n hx hb dX6_step_145 rfl (lv_at hl 0 rfl) ?_
      refine lv_if_lt (tgt := 154) hx hb dX6_step_146 (by decide) (fun c_146_23 => ?_) (fun c_146_23 => ?_)
      ·
        exact absurd c_146_23 (nI_pos (by omega))
      refine lv_aload_n hx hb dX6_step_149 rfl (lv_at hl 1 rfl) ?_
      refine lv_iload_n hx hb dX6_step_150 rfl (lv_at hl 0 rfl) ?_
      have hmm : okM N (lp_X6_step_2 9 σ 0) := by repeat (first | exact okM_wake _ _ _ hm | refine okM_sI (by omega) ?_)
      refine e_cv (e_runV (C := RX6) (ci := 6) (As := [.int (nI q44_4)]) (rest := []) ⟨hx, hb, hml, hown, hts⟩ (k_X6_instruction l D cs b (lp_X6_step_2 9 σ 0) q44_4 (by assumption) N hmm.2.2.2.1 hN hmm.2.1 hmm.1 hmm.2.2.1 hmm.2.2.2.2) ⟨callB_of 1 hts (gC wC_X6_instruction) rfl rfl rfl (hts _ wi_X6) (hts _ wM_X6_99) (by decide +kernel) (by decide), hts _ wN_X6_instruction, hts _ wS_X6_instruction⟩ hK hH (xo_ok (by decide)).2.2 (Ex_at cs b (lp_X6_step_2 9 σ 0) (by decide)) rfl rfl rfl hl.1 rfl (Nat.le_of_ble_eq_true rfl) dX6_step_151 (by decide)) hS (fun H locs hH hS => ?_)
      refine lv_aload_n hx hb dX6_step_154 rfl (lv_at hl 1 rfl) ?_
      refine lv_dup hx hb dX6_step_155 rfl ?_
      refine fgX6_59 hx hb hts hown hK hH 0 (by decide) dX6_step_156 ?_
      refine lv_iconst (v := 1) hx hb dX6_step_159 (by decide) ?_
      refine lv_iadd hx hb dX6_step_160 ?_
      refine fpX6_59 hx hb hts hown hK hH hS 0 (by decide) dX6_step_161 (fun H locs hH hS => ?_)
      refine lv_iload_n hx hb dX6_step_164 rfl (lv_at hl 0 rfl) ?_
      refine lv_if_ge (tgt := 172) hx hb dX6_step_165 (by decide) (fun c_165_24 => ?_) (fun c_165_24 => ?_)
      rotate_left
      ·
        exact absurd (nI_pos' (by omega)) c_165_24
      refine lv_iconst (v := 0) hx hb dX6_step_172 (by decide) ?_
      exact e_zret hx hb hr hlk hK hH hS dX6_step_173 (by rfl) (by simp only [f_X6_step, hq_44_4, oC_some, if_neg c_59_21]) (congrArg (Ex cs b) (by simp only [f_X6_step, hq_44_4, oC_some, if_neg c_59_21]))
    ·
      refine lv_aload_n hx hb dX6_step_62 rfl (lv_at hl 1 rfl) ?_
      refine lv_iconst (v := 0) hx hb dX6_step_63 (by decide) ?_
      refine lv_iconst (v := 0) hx hb dX6_step_64 (by decide) ?_
      refine e_ci (e_runV (C := RX6) (ci := 6) (As := [.int (0), .int (0)]) (rest := []) ⟨hx, hb, hml, hown, hts⟩ (k_X6_ready l D cs b (lp_X6_step_2 9 σ 0) 0 0 ) ⟨callB_of 2 hts (gC wC_X6_ready) rfl rfl rfl (hts _ wi_X6) (hts _ wM_X6_92) (by decide +kernel) (by decide), hts _ wN_X6_ready, hts _ wS_X6_ready⟩ hK hH (xo_ok (by decide)).2.2 (Ex_at cs b (lp_X6_step_2 9 σ 0) (by decide)) rfl rfl rfl hl.1 rfl (Nat.le_of_ble_eq_true rfl) dX6_step_65 (by decide)) hS (fun H locs hH hS => ?_)
      rcases hq_65_25 : f_X6_ready (lp_X6_step_2 9 σ 0) 0 0 with _ | q65_25
      ·
        refine W.eq (g2 := F0 m 68 ls [.int ((-1))]) rfl ?_
        refine lv_if_lt (tgt := 100) hx hb dX6_step_68 (by decide) (fun c_68_26 => ?_) (fun c_68_26 => ?_)
        rotate_left
        ·
          exact absurd (by decide) c_68_26
        refine lv_iload_n hx hb dX6_step_100 rfl (lv_at hl 0 rfl) ?_
        refine lv_if_ge (tgt := 145) hx hb dX6_step_101 (by decide) (fun c_101_27 => ?_) (fun c_101_27 => ?_)
        rotate_left
        ·
          exact absurd (nI_pos' (by omega)) c_101_27
        refine lv_iload_n hx hb dX6_step_145 rfl (lv_at hl 0 rfl) ?_
        refine lv_if_lt (tgt := 154) hx hb dX6_step_146 (by decide) (fun c_146_28 => ?_) (fun c_146_28 => ?_)
        ·
          exact absurd c_146_28 (nI_pos (by omega))
        refine lv_aload_n hx hb dX6_step_149 rfl (lv_at hl 1 rfl) ?_
        refine lv_iload_n hx hb dX6_step_150 rfl (lv_at hl 0 rfl) ?_
        have hmm : okM N (lp_X6_step_2 9 σ 0) := by repeat (first | exact okM_wake _ _ _ hm | refine okM_sI (by omega) ?_)
        refine e_cv (e_runV (C := RX6) (ci := 6) (As := [.int (nI q44_4)]) (rest := []) ⟨hx, hb, hml, hown, hts⟩ (k_X6_instruction l D cs b (lp_X6_step_2 9 σ 0) q44_4 (by assumption) N hmm.2.2.2.1 hN hmm.2.1 hmm.1 hmm.2.2.1 hmm.2.2.2.2) ⟨callB_of 1 hts (gC wC_X6_instruction) rfl rfl rfl (hts _ wi_X6) (hts _ wM_X6_99) (by decide +kernel) (by decide), hts _ wN_X6_instruction, hts _ wS_X6_instruction⟩ hK hH (xo_ok (by decide)).2.2 (Ex_at cs b (lp_X6_step_2 9 σ 0) (by decide)) rfl rfl rfl hl.1 rfl (Nat.le_of_ble_eq_true rfl) dX6_step_151 (by decide)) hS (fun H locs hH hS => ?_)
        refine lv_aload_n hx hb dX6_step_154 rfl (lv_at hl 1 rfl) ?_
        refine lv_dup hx hb dX6_step_155 rfl ?_
        refine fgX6_59 hx hb hts hown hK hH 0 (by decide) dX6_step_156 ?_
        refine lv_iconst (v := 1) hx hb dX6_step_159 (by decide) ?_
        refine lv_iadd hx hb dX6_step_160 ?_
        refine fpX6_59 hx hb hts hown hK hH hS 0 (by decide) dX6_step_161 (fun H locs hH hS => ?_)
        refine lv_iload_n hx hb dX6_step_164 rfl (lv_at hl 0 rfl) ?_
        refine lv_if_ge (tgt := 172) hx hb dX6_step_165 (by decide) (fun c_165_29 => ?_) (fun c_165_29 => ?_)
        rotate_left
        ·
          exact absurd (nI_pos' (by omega)) c_165_29
        refine lv_iconst (v := 0) hx hb dX6_step_172 (by decide) ?_
        exact e_zret hx hb hr hlk hK hH hS dX6_step_173 (by rfl) (by simp only [f_X6_step, hq_44_4, oC_some, if_pos c_59_21, hq_65_25, oC_none]) (congrArg (Ex cs b) (by simp only [f_X6_step, hq_44_4, oC_some, if_pos c_59_21, hq_65_25, oC_none]))
      ·
        have q65_25b := rdy_lt hq_65_25
        refine W.eq (g2 := F0 m 68 ls [.int (nI q65_25)]) rfl ?_
        refine lv_if_lt (tgt := 100) hx hb dX6_step_68 (by decide) (fun c_68_30 => ?_) (fun c_68_30 => ?_)
        ·
          exact absurd c_68_30 (nI_pos (by omega))
        refine lv_aload_n hx hb dX6_step_71 rfl (lv_at hl 1 rfl) ?_
        refine fgX6_13 hx hb hts hown hK hH 0 (by decide) dX6_step_72 ?_
        refine lv_iload_n hx hb dX6_step_75 rfl (lv_at hl 0 rfl) ?_
        refine lv_iconst (v := 1) hx hb dX6_step_76 (by decide) ?_
        refine x_iast hx hb hK hH hS 15 0 8 (by decide) (fun _ _ => rfl) q44_4 rfl (by omega) (by decide) dX6_step_77 (fun H locs hH hS => ?_)
        refine lv_aload_n hx hb dX6_step_78 rfl (lv_at hl 1 rfl) ?_
        refine lv_dup hx hb dX6_step_79 rfl ?_
        refine fgX6_96 hx hb hts hown hK hH 0 (by decide) dX6_step_80 ?_
        refine lv_iconst (v := 1) hx hb dX6_step_83 (by decide) ?_
        refine lv_isub hx hb dX6_step_84 ?_
        refine fpX6_96 hx hb hts hown hK hH hS 0 (by decide) dX6_step_85 (fun H locs hH hS => ?_)
        refine lv_aload_n hx hb dX6_step_88 rfl (lv_at hl 1 rfl) ?_
        refine fgX6_25 hx hb hts hown hK hH 0 (by decide) dX6_step_89 ?_
        refine lv_iload_n hx hb dX6_step_92 rfl (lv_at hl 0 rfl) ?_
        refine lv_aload_n hx hb dX6_step_93 rfl (lv_at hl 1 rfl) ?_
        refine fgX6_96 hx hb hts hown hK hH 0 (by decide) dX6_step_94 ?_
        refine x_iast hx hb hK hH hS 19 0 8 (by decide) (fun _ _ => rfl) q44_4 rfl (by omega) (by decide) dX6_step_97 (fun H locs hH hS => ?_)
        refine lv_iconst (v := (-1)) hx hb dX6_step_98 (by decide) ?_
        refine lv_istore_n (lv' := [(1, .int ((-1))), (0, .ref (b + xo 13 0))]) hx hb dX6_step_99 rfl hl (by decide) rfl (fun ls hl => ?_)
        refine lv_iload_n hx hb dX6_step_100 rfl (lv_at hl 0 rfl) ?_
        refine lv_if_ge (tgt := 145) hx hb dX6_step_101 (by decide) (fun c_101_31 => ?_) (fun c_101_31 => ?_)
        ·
          exact absurd c_101_31 (by decide)
        refine lv_aload_n hx hb dX6_step_104 rfl (lv_at hl 1 rfl) ?_
        refine lv_iconst (v := 0) hx hb dX6_step_105 (by decide) ?_
        refine lv_iconst (v := 0) hx hb dX6_step_106 (by decide) ?_
        refine e_ci (e_runV (C := RX6) (ci := 6) (As := [.int (0), .int (0)]) (rest := []) ⟨hx, hb, hml, hown, hts⟩ (k_X6_ready l D cs b (sI (sI (sI (lp_X6_step_2 9 σ 0) 15 0 q44_4 1) 13 0 9 ((gI (sI (lp_X6_step_2 9 σ 0) 15 0 q44_4 1) 13 0 9) - 1)) 19 0 q44_4 (gI (sI (sI (lp_X6_step_2 9 σ 0) 15 0 q44_4 1) 13 0 9 ((gI (sI (lp_X6_step_2 9 σ 0) 15 0 q44_4 1) 13 0 9) - 1)) 13 0 9)) 0 0 ) ⟨callB_of 2 hts (gC wC_X6_ready) rfl rfl rfl (hts _ wi_X6) (hts _ wM_X6_92) (by decide +kernel) (by decide), hts _ wN_X6_ready, hts _ wS_X6_ready⟩ hK hH (xo_ok (by decide)).2.2 (Ex_at cs b (sI (sI (sI (lp_X6_step_2 9 σ 0) 15 0 q44_4 1) 13 0 9 ((gI (sI (lp_X6_step_2 9 σ 0) 15 0 q44_4 1) 13 0 9) - 1)) 19 0 q44_4 (gI (sI (sI (lp_X6_step_2 9 σ 0) 15 0 q44_4 1) 13 0 9 ((gI (sI (lp_X6_step_2 9 σ 0) 15 0 q44_4 1) 13 0 9) - 1)) 13 0 9)) (by decide)) rfl rfl rfl hl.1 rfl (Nat.le_of_ble_eq_true rfl) dX6_step_107 (by decide)) hS (fun H locs hH hS => ?_)
        rcases hq_107_32 : f_X6_ready (sI (sI (sI (lp_X6_step_2 9 σ 0) 15 0 q44_4 1) 13 0 9 ((gI (sI (lp_X6_step_2 9 σ 0) 15 0 q44_4 1) 13 0 9) - 1)) 19 0 q44_4 (gI (sI (sI (lp_X6_step_2 9 σ 0) 15 0 q44_4 1) 13 0 9 ((gI (sI (lp_X6_step_2 9 σ 0) 15 0 q44_4 1) 13 0 9) - 1)) 13 0 9)) 0 0 with _ | q107_32
        ·
          refine W.eq (g2 := F0 m 110 ls [.int ((-1))]) rfl ?_
          refine lv_if_lt (tgt := 122) hx hb dX6_step_110 (by decide) (fun c_110_33 => ?_) (fun c_110_33 => ?_)
          rotate_left
          ·
            exact absurd (by decide) c_110_33
          refine lv_aload_n hx hb dX6_step_122 rfl (lv_at hl 1 rfl) ?_
          refine lv_iconst (v := 1) hx hb dX6_step_123 (by decide) ?_
          refine lv_iconst (v := 0) hx hb dX6_step_124 (by decide) ?_
          refine e_ci (e_runV (C := RX6) (ci := 6) (As := [.int (1), .int (0)]) (rest := []) ⟨hx, hb, hml, hown, hts⟩ (k_X6_ready l D cs b (sI (sI (sI (lp_X6_step_2 9 σ 0) 15 0 q44_4 1) 13 0 9 ((gI (sI (lp_X6_step_2 9 σ 0) 15 0 q44_4 1) 13 0 9) - 1)) 19 0 q44_4 (gI (sI (sI (lp_X6_step_2 9 σ 0) 15 0 q44_4 1) 13 0 9 ((gI (sI (lp_X6_step_2 9 σ 0) 15 0 q44_4 1) 13 0 9) - 1)) 13 0 9)) 1 0 ) ⟨callB_of 2 hts (gC wC_X6_ready) rfl rfl rfl (hts _ wi_X6) (hts _ wM_X6_92) (by decide +kernel) (by decide), hts _ wN_X6_ready, hts _ wS_X6_ready⟩ hK hH (xo_ok (by decide)).2.2 (Ex_at cs b (sI (sI (sI (lp_X6_step_2 9 σ 0) 15 0 q44_4 1) 13 0 9 ((gI (sI (lp_X6_step_2 9 σ 0) 15 0 q44_4 1) 13 0 9) - 1)) 19 0 q44_4 (gI (sI (sI (lp_X6_step_2 9 σ 0) 15 0 q44_4 1) 13 0 9 ((gI (sI (lp_X6_step_2 9 σ 0) 15 0 q44_4 1) 13 0 9) - 1)) 13 0 9)) (by decide)) rfl rfl rfl hl.1 rfl (Nat.le_of_ble_eq_true rfl) dX6_step_125 (by decide)) hS (fun H locs hH hS => ?_)
          rcases hq_125_34 : f_X6_ready (sI (sI (sI (lp_X6_step_2 9 σ 0) 15 0 q44_4 1) 13 0 9 ((gI (sI (lp_X6_step_2 9 σ 0) 15 0 q44_4 1) 13 0 9) - 1)) 19 0 q44_4 (gI (sI (sI (lp_X6_step_2 9 σ 0) 15 0 q44_4 1) 13 0 9 ((gI (sI (lp_X6_step_2 9 σ 0) 15 0 q44_4 1) 13 0 9) - 1)) 13 0 9)) 1 0 with _ | q125_34
          ·
            refine W.eq (g2 := F0 m 128 ls [.int ((-1))]) rfl ?_
            refine lv_istore_n (lv' := [(1, .int ((-1))), (0, .ref (b + xo 13 0))]) hx hb dX6_step_128 rfl hl (by decide) rfl (fun ls hl => ?_)
            refine lv_aload_n hx hb dX6_step_129 rfl (lv_at hl 1 rfl) ?_
            refine lv_iconst (v := 0) hx hb dX6_step_130 (by decide) ?_
            refine fpX6_76 hx hb hts hown hK hH hS 0 (by decide) dX6_step_131 (fun H locs hH hS => ?_)
            refine lv_iload_n hx hb dX6_step_134 rfl (lv_at hl 0 rfl) ?_
            refine lv_if_lt (tgt := 145) hx hb dX6_step_135 (by decide) (fun c_135_35 => ?_) (fun c_135_35 => ?_)
            rotate_left
            ·
              exact absurd (by decide) c_135_35
            refine lv_iload_n hx hb dX6_step_145 rfl (lv_at hl 0 rfl) ?_
            refine lv_if_lt (tgt := 154) hx hb dX6_step_146 (by decide) (fun c_146_36 => ?_) (fun c_146_36 => ?_)
            rotate_left
            ·
              exact absurd (by decide) c_146_36
            refine lv_aload_n hx hb dX6_step_154 rfl (lv_at hl 1 rfl) ?_
            refine lv_dup hx hb dX6_step_155 rfl ?_
            refine fgX6_59 hx hb hts hown hK hH 0 (by decide) dX6_step_156 ?_
            refine lv_iconst (v := 1) hx hb dX6_step_159 (by decide) ?_
            refine lv_iadd hx hb dX6_step_160 ?_
            refine fpX6_59 hx hb hts hown hK hH hS 0 (by decide) dX6_step_161 (fun H locs hH hS => ?_)
            refine lv_iload_n hx hb dX6_step_164 rfl (lv_at hl 0 rfl) ?_
            refine lv_if_ge (tgt := 172) hx hb dX6_step_165 (by decide) (fun c_165_37 => ?_) (fun c_165_37 => ?_)
            ·
              exact absurd c_165_37 (by decide)
            refine lv_iconst (v := 1) hx hb dX6_step_168 (by decide) ?_
            refine lv_goto (tgt := 173) hx hb dX6_step_169 (by decide) ?_
            exact e_zret hx hb hr hlk hK hH hS dX6_step_173 (by rfl) (by simp only [f_X6_step, hq_44_4, oC_some, if_pos c_59_21, hq_65_25, oC_some, hq_107_32, oC_none, hq_125_34, oC_none]) (congrArg (Ex cs b) (by simp only [f_X6_step, hq_44_4, oC_some, if_pos c_59_21, hq_65_25, oC_some, hq_107_32, oC_none, hq_125_34, oC_none]))
          ·
            have q125_34b := rdy_lt hq_125_34
            refine W.eq (g2 := F0 m 128 ls [.int (nI q125_34)]) rfl ?_
            refine lv_istore_n (lv' := [(1, .int (nI q125_34)), (0, .ref (b + xo 13 0))]) hx hb dX6_step_128 rfl hl (by decide) rfl (fun ls hl => ?_)
            refine lv_aload_n hx hb dX6_step_129 rfl (lv_at hl 1 rfl) ?_
            refine lv_iconst (v := 0) hx hb dX6_step_130 (by decide) ?_
            refine fpX6_76 hx hb hts hown hK hH hS 0 (by decide) dX6_step_131 (fun H locs hH hS => ?_)
            refine lv_iload_n hx hb dX6_step_134 rfl (lv_at hl 0 rfl) ?_
            refine lv_if_lt (tgt := 145) hx hb dX6_step_135 (by decide) (fun c_135_38 => ?_) (fun c_135_38 => ?_)
            ·
              exact absurd c_135_38 (nI_pos (by omega))
            refine lv_aload_n hx hb dX6_step_138 rfl (lv_at hl 1 rfl) ?_
            refine fgX6_13 hx hb hts hown hK hH 0 (by decide) dX6_step_139 ?_
            refine lv_iload_n hx hb dX6_step_142 rfl (lv_at hl 0 rfl) ?_
            refine lv_iconst (v := 2) hx hb dX6_step_143 (by decide) ?_
            refine x_iast hx hb hK hH hS 15 0 8 (by decide) (fun _ _ => rfl) q125_34 rfl (by omega) (by decide) dX6_step_144 (fun H locs hH hS => ?_)
            refine lv_iload_n hx hb dX6_step_145 rfl (lv_at hl 0 rfl) ?_
            refine lv_if_lt (tgt := 154) hx hb dX6_step_146 (by decide) (fun c_146_39 => ?_) (fun c_146_39 => ?_)
            ·
              exact absurd c_146_39 (nI_pos (by omega))
            refine lv_aload_n hx hb dX6_step_149 rfl (lv_at hl 1 rfl) ?_
            refine lv_iload_n hx hb dX6_step_150 rfl (lv_at hl 0 rfl) ?_
            have hmm : okM N (sI (sI (sI (sI (sI (lp_X6_step_2 9 σ 0) 15 0 q44_4 1) 13 0 9 ((gI (sI (lp_X6_step_2 9 σ 0) 15 0 q44_4 1) 13 0 9) - 1)) 19 0 q44_4 (gI (sI (sI (lp_X6_step_2 9 σ 0) 15 0 q44_4 1) 13 0 9 ((gI (sI (lp_X6_step_2 9 σ 0) 15 0 q44_4 1) 13 0 9) - 1)) 13 0 9)) 13 0 12 0) 15 0 q125_34 2) := by repeat (first | exact okM_wake _ _ _ hm | refine okM_sI (by omega) ?_)
            refine e_cv (e_runV (C := RX6) (ci := 6) (As := [.int (nI q125_34)]) (rest := []) ⟨hx, hb, hml, hown, hts⟩ (k_X6_instruction l D cs b (sI (sI (sI (sI (sI (lp_X6_step_2 9 σ 0) 15 0 q44_4 1) 13 0 9 ((gI (sI (lp_X6_step_2 9 σ 0) 15 0 q44_4 1) 13 0 9) - 1)) 19 0 q44_4 (gI (sI (sI (lp_X6_step_2 9 σ 0) 15 0 q44_4 1) 13 0 9 ((gI (sI (lp_X6_step_2 9 σ 0) 15 0 q44_4 1) 13 0 9) - 1)) 13 0 9)) 13 0 12 0) 15 0 q125_34 2) q125_34 (by assumption) N hmm.2.2.2.1 hN hmm.2.1 hmm.1 hmm.2.2.1 hmm.2.2.2.2) ⟨callB_of 1 hts (gC wC_X6_instruction) rfl rfl rfl (hts _ wi_X6) (hts _ wM_X6_99) (by decide +kernel) (by decide), hts _ wN_X6_instruction, hts _ wS_X6_instruction⟩ hK hH (xo_ok (by decide)).2.2 (Ex_at cs b (sI (sI (sI (sI (sI (lp_X6_step_2 9 σ 0) 15 0 q44_4 1) 13 0 9 ((gI (sI (lp_X6_step_2 9 σ 0) 15 0 q44_4 1) 13 0 9) - 1)) 19 0 q44_4 (gI (sI (sI (lp_X6_step_2 9 σ 0) 15 0 q44_4 1) 13 0 9 ((gI (sI (lp_X6_step_2 9 σ 0) 15 0 q44_4 1) 13 0 9) - 1)) 13 0 9)) 13 0 12 0) 15 0 q125_34 2) (by decide)) rfl rfl rfl hl.1 rfl (Nat.le_of_ble_eq_true rfl) dX6_step_151 (by decide)) hS (fun H locs hH hS => ?_)
            refine lv_aload_n hx hb dX6_step_154 rfl (lv_at hl 1 rfl) ?_
            refine lv_dup hx hb dX6_step_155 rfl ?_
            refine fgX6_59 hx hb hts hown hK hH 0 (by decide) dX6_step_156 ?_
            refine lv_iconst (v := 1) hx hb dX6_step_159 (by decide) ?_
            refine lv_iadd hx hb dX6_step_160 ?_
            refine fpX6_59 hx hb hts hown hK hH hS 0 (by decide) dX6_step_161 (fun H locs hH hS => ?_)
            refine lv_iload_n hx hb dX6_step_164 rfl (lv_at hl 0 rfl) ?_
            refine lv_if_ge (tgt := 172) hx hb dX6_step_165 (by decide) (fun c_165_40 => ?_) (fun c_165_40 => ?_)
            rotate_left
            ·
              exact absurd (nI_pos' (by omega)) c_165_40
            refine lv_iconst (v := 0) hx hb dX6_step_172 (by decide) ?_
            exact e_zret hx hb hr hlk hK hH hS dX6_step_173 (by rfl) (by simp only [f_X6_step, hq_44_4, oC_some, if_pos c_59_21, hq_65_25, oC_some, hq_107_32, oC_none, hq_125_34, oC_some]) (congrArg (Ex cs b) (by simp only [f_X6_step, hq_44_4, oC_some, if_pos c_59_21, hq_65_25, oC_some, hq_107_32, oC_none, hq_125_34, oC_some]))
        ·
          have q107_32b := rdy_lt hq_107_32
          refine W.eq (g2 := F0 m 110 ls [.int (nI q107_32)]) rfl ?_
          refine lv_if_lt (tgt := 122) hx hb dX6_step_110 (by decide) (fun c_110_41 => ?_) (fun c_110_41 => ?_)
          ·
            exact absurd c_110_41 (nI_pos (by omega))
          refine lv_aload_n hx hb dX6_step_113 rfl (lv_at hl 1 rfl) ?_
          refine lv_iconst (v := 0) hx hb dX6_step_114 (by decide) ?_
          refine lv_iconst (v := 0) hx hb dX6_step_115 (by decide) ?_
          refine e_ci (e_runV (C := RX6) (ci := 6) (As := [.int (0), .int (0)]) (rest := []) ⟨hx, hb, hml, hown, hts⟩ (k_X6_ready l D cs b (sI (sI (sI (lp_X6_step_2 9 σ 0) 15 0 q44_4 1) 13 0 9 ((gI (sI (lp_X6_step_2 9 σ 0) 15 0 q44_4 1) 13 0 9) - 1)) 19 0 q44_4 (gI (sI (sI (lp_X6_step_2 9 σ 0) 15 0 q44_4 1) 13 0 9 ((gI (sI (lp_X6_step_2 9 σ 0) 15 0 q44_4 1) 13 0 9) - 1)) 13 0 9)) 0 0 ) ⟨callB_of 2 hts (gC wC_X6_ready) rfl rfl rfl (hts _ wi_X6) (hts _ wM_X6_92) (by decide +kernel) (by decide), hts _ wN_X6_ready, hts _ wS_X6_ready⟩ hK hH (xo_ok (by decide)).2.2 (Ex_at cs b (sI (sI (sI (lp_X6_step_2 9 σ 0) 15 0 q44_4 1) 13 0 9 ((gI (sI (lp_X6_step_2 9 σ 0) 15 0 q44_4 1) 13 0 9) - 1)) 19 0 q44_4 (gI (sI (sI (lp_X6_step_2 9 σ 0) 15 0 q44_4 1) 13 0 9 ((gI (sI (lp_X6_step_2 9 σ 0) 15 0 q44_4 1) 13 0 9) - 1)) 13 0 9)) (by decide)) rfl rfl rfl hl.1 rfl (Nat.le_of_ble_eq_true rfl) dX6_step_116 (by decide)) hS (fun H locs hH hS => ?_)
          rw [hq_107_32]
          refine W.eq (g2 := F0 m 119 ls [.int (nI q107_32)]) rfl ?_
          refine lv_goto (tgt := 128) hx hb dX6_step_119 (by decide) ?_
          refine lv_istore_n (lv' := [(1, .int (nI q107_32)), (0, .ref (b + xo 13 0))]) hx hb dX6_step_128 rfl hl (by decide) rfl (fun ls hl => ?_)
          refine lv_aload_n hx hb dX6_step_129 rfl (lv_at hl 1 rfl) ?_
          refine lv_iconst (v := 0) hx hb dX6_step_130 (by decide) ?_
          refine fpX6_76 hx hb hts hown hK hH hS 0 (by decide) dX6_step_131 (fun H locs hH hS => ?_)
          refine lv_iload_n hx hb dX6_step_134 rfl (lv_at hl 0 rfl) ?_
          refine lv_if_lt (tgt := 145) hx hb dX6_step_135 (by decide) (fun c_135_42 => ?_) (fun c_135_42 => ?_)
          ·
            exact absurd c_135_42 (nI_pos (by omega))
          refine lv_aload_n hx hb dX6_step_138 rfl (lv_at hl 1 rfl) ?_
          refine fgX6_13 hx hb hts hown hK hH 0 (by decide) dX6_step_139 ?_
          refine lv_iload_n hx hb dX6_step_142 rfl (lv_at hl 0 rfl) ?_
          refine lv_iconst (v := 2) hx hb dX6_step_143 (by decide) ?_
          refine x_iast hx hb hK hH hS 15 0 8 (by decide) (fun _ _ => rfl) q107_32 rfl (by omega) (by decide) dX6_step_144 (fun H locs hH hS => ?_)
          refine lv_iload_n hx hb dX6_step_145 rfl (lv_at hl 0 rfl) ?_
          refine lv_if_lt (tgt := 154) hx hb dX6_step_146 (by decide) (fun c_146_43 => ?_) (fun c_146_43 => ?_)
          ·
            exact absurd c_146_43 (nI_pos (by omega))
          refine lv_aload_n hx hb dX6_step_149 rfl (lv_at hl 1 rfl) ?_
          refine lv_iload_n hx hb dX6_step_150 rfl (lv_at hl 0 rfl) ?_
          have hmm : okM N (sI (sI (sI (sI (sI (lp_X6_step_2 9 σ 0) 15 0 q44_4 1) 13 0 9 ((gI (sI (lp_X6_step_2 9 σ 0) 15 0 q44_4 1) 13 0 9) - 1)) 19 0 q44_4 (gI (sI (sI (lp_X6_step_2 9 σ 0) 15 0 q44_4 1) 13 0 9 ((gI (sI (lp_X6_step_2 9 σ 0) 15 0 q44_4 1) 13 0 9) - 1)) 13 0 9)) 13 0 12 0) 15 0 q107_32 2) := by repeat (first | exact okM_wake _ _ _ hm | refine okM_sI (by omega) ?_)
          refine e_cv (e_runV (C := RX6) (ci := 6) (As := [.int (nI q107_32)]) (rest := []) ⟨hx, hb, hml, hown, hts⟩ (k_X6_instruction l D cs b (sI (sI (sI (sI (sI (lp_X6_step_2 9 σ 0) 15 0 q44_4 1) 13 0 9 ((gI (sI (lp_X6_step_2 9 σ 0) 15 0 q44_4 1) 13 0 9) - 1)) 19 0 q44_4 (gI (sI (sI (lp_X6_step_2 9 σ 0) 15 0 q44_4 1) 13 0 9 ((gI (sI (lp_X6_step_2 9 σ 0) 15 0 q44_4 1) 13 0 9) - 1)) 13 0 9)) 13 0 12 0) 15 0 q107_32 2) q107_32 (by assumption) N hmm.2.2.2.1 hN hmm.2.1 hmm.1 hmm.2.2.1 hmm.2.2.2.2) ⟨callB_of 1 hts (gC wC_X6_instruction) rfl rfl rfl (hts _ wi_X6) (hts _ wM_X6_99) (by decide +kernel) (by decide), hts _ wN_X6_instruction, hts _ wS_X6_instruction⟩ hK hH (xo_ok (by decide)).2.2 (Ex_at cs b (sI (sI (sI (sI (sI (lp_X6_step_2 9 σ 0) 15 0 q44_4 1) 13 0 9 ((gI (sI (lp_X6_step_2 9 σ 0) 15 0 q44_4 1) 13 0 9) - 1)) 19 0 q44_4 (gI (sI (sI (lp_X6_step_2 9 σ 0) 15 0 q44_4 1) 13 0 9 ((gI (sI (lp_X6_step_2 9 σ 0) 15 0 q44_4 1) 13 0 9) - 1)) 13 0 9)) 13 0 12 0) 15 0 q107_32 2) (by decide)) rfl rfl rfl hl.1 rfl (Nat.le_of_ble_eq_true rfl) dX6_step_151 (by decide)) hS (fun H locs hH hS => ?_)
          refine lv_aload_n hx hb dX6_step_154 rfl (lv_at hl 1 rfl) ?_
          refine lv_dup hx hb dX6_step_155 rfl ?_
          refine fgX6_59 hx hb hts hown hK hH 0 (by decide) dX6_step_156 ?_
          refine lv_iconst (v := 1) hx hb dX6_step_159 (by decide) ?_
          refine lv_iadd hx hb dX6_step_160 ?_
          refine fpX6_59 hx hb hts hown hK hH hS 0 (by decide) dX6_step_161 (fun H locs hH hS => ?_)
          refine lv_iload_n hx hb dX6_step_164 rfl (lv_at hl 0 rfl) ?_
          refine lv_if_ge (tgt := 172) hx hb dX6_step_165 (by decide) (fun c_165_44 => ?_) (fun c_165_44 => ?_)
          rotate_left
          ·
            exact absurd (nI_pos' (by omega)) c_165_44
          refine lv_iconst (v := 0) hx hb dX6_step_172 (by decide) ?_
          exact e_zret hx hb hr hlk hK hH hS dX6_step_173 (by rfl) (by simp only [f_X6_step, hq_44_4, oC_some, if_pos c_59_21, hq_65_25, oC_some, hq_107_32, oC_some]) (congrArg (Ex cs b) (by simp only [f_X6_step, hq_44_4, oC_some, if_pos c_59_21, hq_65_25, oC_some, hq_107_32, oC_some]))
