theorem jlt400' {x : Int32} {j : Nat} (h0 : ¬ x < 0) (h1 : ¬ 400 < x) (hj : j ≤ 400) (h : ¬ x ≤ nI j) : j < 400 := by
  refine jlt400 h0 ?_ hj h
  obtain ⟨k, hk, rfl⟩ := nI_of h0
  have : ¬ 400 < k := fun q => h1 (nI_lt q hk)
  exact show nI k ≤ nI 400 from nI_le (by omega) (by decide)
def lp_X6_run_17 (x : Int32) : Nat → St → Int32 → Nat → Int32 × St
  | 0, σ, w, _ => (w, σ)
  | n + 1, σ, w, j => (if x ≤ nI j then (w, σ) else (if (f_X6_step σ).1 = 0 then lp_X6_run_17 x n ((f_X6_step σ).2) w ((j + 1)) else lp_X6_run_17 x n ((f_X6_step σ).2) (w + 1) ((j + 1))))
def f_X6_run (σ : St) (x : Int32) : Int32 × St := (if f_X6_within σ x 0 400 = 0 then ((-1), σ) else lp_X6_run_17 x 401 σ 0 0)
set_option maxRecDepth 100000 in
set_option maxHeartbeats 4000000 in
theorem w_X6_run_17 {l : Launch} {D : va_G} {cs : Nat → ClassId} {b : Nat} {pg : Program} {e : Env} {s : State} {m : MethodId} {below : List Frame} {meth : Method} {c : Code} (x : Int32)  (N : Nat) (hN : N + 400 < 2 ^ 30) (hx : pg.tables.exec = Jvm.exec) (hb : c.code = cX6_run) (hr : meth.sig.returnType = (some FieldType.int)) (hml : c.maxLocals = 4) {args : Array Value} (hts : ∀ w ∈ T0, w.before args s = true) (hown : s.vm.findClass RX6 = some m.cls) (hlk : meth.locks = false) (hK : va_K D vwCl (tyx cs) s) : ∀ (n : Nat) (σ : St) (w : Int32) (j : Nat), 400 < j + n → j ≤ 400 → okM (N + j) σ → ¬ x < 0 → ¬ 400 < x → ∀ (H : Heap) (locs : List Loc) (ls : Array Slot), He D b 43 (Ex cs b σ) H → va_S (fun a => b ≤ a) s.heap H locs → lv_has ls 4 [(0, .ref (b + xo 13 0)), (1, .int (x)), (2, .int (w)), (3, .int (nI j))] → W pg l e { frames := 5, cells := 0, slots := 0, locals := 118 } s m args below meth c H locs 0 0 (MQ below (Qi D (tyx cs) b 43 (Ex cs b (lp_X6_run_17 x n σ w j).2) (lp_X6_run_17 x n σ w j).1) args s 0 0 (fun a => b ≤ a)) (F0 m 17 ls []) := by
  intro n
  induction n with
  | zero =>
    intro σ w j h0 h1 h2 h3 h4
    exact absurd h0 (by omega)
  | succ n ih =>
    intro σ w j h0 h1 h2 h3 h4 H locs ls hH hS hl
    refine lv_iload_n hx hb dX6_run_17 rfl (lv_at hl 3 rfl) ?_
    refine lv_iload_n hx hb dX6_run_18 rfl (lv_at hl 1 rfl) ?_
    refine lv_icmp_ge (tgt := 38) hx hb dX6_run_19 (by decide) (fun c_19_1 => ?_) (fun c_19_1 => ?_)
    ·
      refine lv_iload_n hx hb dX6_run_38 rfl (lv_at hl 2 rfl) ?_
      exact e_iret hx hb hr hlk hK hH hS dX6_run_39 (by simp only [lp_X6_run_17, if_pos c_19_1]) (congrArg (Ex cs b) (by simp only [lp_X6_run_17, if_pos c_19_1]))
    ·
      have hj4 := jlt400' h3 h4 h1 (by assumption)
      refine lv_aload_n hx hb dX6_run_22 rfl (lv_at hl 0 rfl) ?_
      refine e_ci (e_runV (C := RX6) (ci := 6) (As := []) (rest := []) ⟨hx, hb, hml, hown, hts⟩ (k_X6_step l D cs b σ  (N + j) h2 (by omega)) ⟨callB_of 0 hts (gC wC_X6_step) rfl rfl rfl (hts _ wi_X6) (hts _ wM_X6_102) (by decide +kernel) (by decide), hts _ wN_X6_step, hts _ wS_X6_step⟩ hK hH (xo_ok (by decide)).2.2 (Ex_at cs b σ (by decide)) rfl rfl rfl hl.1 rfl (Nat.le_of_ble_eq_true rfl) dX6_run_23 (by decide)) hS (fun H locs hH hS => ?_)
      refine lv_if_eq (tgt := 32) hx hb dX6_run_26 (by decide) (fun c_26_2 => ?_) (fun c_26_2 => ?_)
      ·
        refine lv_iinc (v := nI (j + 1)) (lv' := [(3, .int (nI (j + 1))), (0, .ref (b + xo 13 0)), (1, .int (x)), (2, .int (w))]) hx hb dX6_run_32 hl (k := 3) rfl (nI_1 j) (by decide) rfl (fun ls hl => ?_)
        refine lv_goto (tgt := 17) hx hb dX6_run_35 (by decide) ?_
        have e_ : lp_X6_run_17 x (n + 1) σ w j = lp_X6_run_17 x n ((f_X6_step σ).2) w ((j + 1)) := by simp only [lp_X6_run_17, if_neg c_19_1, if_pos c_26_2]
        rw [e_]
        exact ih ((f_X6_step σ).2) w ((j + 1)) (by omega) (by omega) (okM_step (N := N + j) (by omega) h2) h3 h4 _ _ _ hH hS (lv_sub hl [1, 2, 3, 0] rfl)
      ·
        refine lv_iinc (v := w + 1) (lv' := [(2, .int (w + 1)), (0, .ref (b + xo 13 0)), (1, .int (x)), (3, .int (nI j))]) hx hb dX6_run_29 hl (k := 2) rfl (rfl) (by decide) rfl (fun ls hl => ?_)
        refine lv_iinc (v := nI (j + 1)) (lv' := [(3, .int (nI (j + 1))), (2, .int (w + 1)), (0, .ref (b + xo 13 0)), (1, .int (x))]) hx hb dX6_run_32 hl (k := 3) rfl (nI_1 j) (by decide) rfl (fun ls hl => ?_)
        refine lv_goto (tgt := 17) hx hb dX6_run_35 (by decide) ?_
        have e_ : lp_X6_run_17 x (n + 1) σ w j = lp_X6_run_17 x n ((f_X6_step σ).2) (w + 1) ((j + 1)) := by simp only [lp_X6_run_17, if_neg c_19_1, if_neg c_26_2]
        rw [e_]
        exact ih ((f_X6_step σ).2) (w + 1) ((j + 1)) (by omega) (by omega) (okM_step (N := N + j) (by omega) h2) h3 h4 _ _ _ hH hS (lv_sub hl [2, 3, 1, 0] rfl)
set_option maxRecDepth 100000 in
set_option maxHeartbeats 4000000 in
theorem k_X6_run (l : Launch) (D : va_G) (cs : Nat → ClassId) (b : Nat) (σ : St) (x : Int32) (N : Nat) (hN : N + 400 < 2 ^ 30) (hm : okM N σ) : Met l yX6_run (Cond.code yX6_run cX6_run 4 (some FieldType.int) :: T0) { frames := 5, cells := 0, slots := 0, locals := 118 } (Pe D (tyx cs) b 43 (Ex cs b σ) [.ref (b + xo 13 0), .int (x)]) (Qi D (tyx cs) b 43 (Ex cs b (f_X6_run σ x).2) (f_X6_run σ x).1) 0 0 (fun a => b ≤ a) := by
  refine e_met (by decide) rfl (Nat.le_of_ble_eq_true rfl) (fun pg e s m below meth c ls hx hb hr hml hts0 hown hlk hnm hH hK hl hS => ?_)
  have hts : ∀ w ∈ T0, w.before _ s = true := fun w h => hts0 w (List.mem_cons_of_mem _ h)
  have hl : lv_has ls 4 [(0, .ref (b + xo 13 0)), (1, .int (x))] := hl
  refine lv_iload_n hx hb dX6_run_0 rfl (lv_at hl 1 rfl) ?_
  refine lv_iconst (v := 0) hx hb dX6_run_1 (by decide) ?_
  refine lv_sipush (v := 400) hx hb dX6_run_2 (by decide) ?_
  refine e_ci (e_runS (As := [.int (x), .int (0), .int (400)]) (rest := []) ⟨hx, hb, hml, hown, hts⟩ (k_X6_within l D cs b σ x 0 400 ) ⟨callB_of 3 hts (gC wC_X6_within) rfl rfl rfl (hts _ wi_X6) (hts _ wM_X6_40) (by decide +kernel) (by decide), hts _ wT_X6_within⟩ hK hH rfl hl.1 rfl (Nat.le_of_ble_eq_true rfl) dX6_run_5 (by decide)) hS (fun H locs hH hS => ?_)
  refine lv_if_ne (tgt := 13) hx hb dX6_run_8 (by decide) (fun c_8_3 => ?_) (fun c_8_3 => ?_)
  ·
    have hwi : ¬ f_X6_within σ x 0 400 = 0 := by assumption
    refine lv_iconst (v := 0) hx hb dX6_run_13 (by decide) ?_
    refine lv_istore_n (lv' := [(2, .int (0)), (0, .ref (b + xo 13 0)), (1, .int (x))]) hx hb dX6_run_14 rfl hl (by decide) rfl (fun ls hl => ?_)
    refine lv_iconst (v := 0) hx hb dX6_run_15 (by decide) ?_
    refine lv_istore_n (lv' := [(3, .int (0)), (2, .int (0)), (0, .ref (b + xo 13 0)), (1, .int (x))]) hx hb dX6_run_16 rfl hl (by decide) rfl (fun ls hl => ?_)
    have e_ : f_X6_run σ x = lp_X6_run_17 x 401 σ 0 0 := by simp only [f_X6_run, if_neg c_8_3]
    rw [e_]
    exact w_X6_run_17 x N hN hx hb hr hml hts hown hlk hK 401 σ 0 0 (by omega) (by omega) hm (within_of hwi).1 (within_of hwi).2 _ _ _ hH hS (lv_sub hl [2, 3, 1, 0] rfl)
  ·
    refine lv_iconst (v := (-1)) hx hb dX6_run_11 (by decide) ?_
    exact e_iret hx hb hr hlk hK hH hS dX6_run_12 (by simp only [f_X6_run, if_pos c_8_3]) (congrArg (Ex cs b) (by simp only [f_X6_run, if_pos c_8_3]))
def f_X6_clock (σ : St)  : Int32 := gI σ 13 0 11
set_option maxRecDepth 100000 in
set_option maxHeartbeats 4000000 in
theorem k_X6_clock (l : Launch) (D : va_G) (cs : Nat → ClassId) (b : Nat) (σ : St)   : Met l yX6_clock (Cond.code yX6_clock cX6_clock 1 (some FieldType.int) :: T0) { frames := 0, cells := 0, slots := 0, locals := 0 } (Pe D (tyx cs) b 43 (Ex cs b σ) [.ref (b + xo 13 0)]) (Qi D (tyx cs) b 43 (Ex cs b σ) (f_X6_clock σ)) 0 0 (fun a => b ≤ a) := by
  refine e_met (by decide) rfl (Nat.le_of_ble_eq_true rfl) (fun pg e s m below meth c ls hx hb hr hml hts0 hown hlk hnm hH hK hl hS => ?_)
  have hts : ∀ w ∈ T0, w.before _ s = true := fun w h => hts0 w (List.mem_cons_of_mem _ h)
  have hl : lv_has ls 1 [(0, .ref (b + xo 13 0))] := hl
  refine lv_aload_n hx hb dX6_clock_0 rfl (lv_at hl 0 rfl) ?_
  refine fgX6_59 hx hb hts hown hK hH 0 (by decide) dX6_clock_1 ?_
  exact e_iret hx hb hr hlk hK hH hS dX6_clock_4 (by simp only [f_X6_clock]) rfl
def f_X6_running (σ : St)  : Int32 := (oC (f_X6_current σ) ((-1)) (fun q1_1 => nI q1_1))
set_option maxRecDepth 100000 in
set_option maxHeartbeats 4000000 in
theorem k_X6_running (l : Launch) (D : va_G) (cs : Nat → ClassId) (b : Nat) (σ : St)   : Met l yX6_running (Cond.code yX6_running cX6_running 1 (some FieldType.int) :: T0) { frames := 1, cells := 0, slots := 0, locals := 21 } (Pe D (tyx cs) b 43 (Ex cs b σ) [.ref (b + xo 13 0)]) (Qi D (tyx cs) b 43 (Ex cs b σ) (f_X6_running σ)) 0 0 (fun a => b ≤ a) := by
  refine e_met (by decide) rfl (Nat.le_of_ble_eq_true rfl) (fun pg e s m below meth c ls hx hb hr hml hts0 hown hlk hnm hH hK hl hS => ?_)
  have hts : ∀ w ∈ T0, w.before _ s = true := fun w h => hts0 w (List.mem_cons_of_mem _ h)
  have hl : lv_has ls 1 [(0, .ref (b + xo 13 0))] := hl
  refine lv_aload_n hx hb dX6_running_0 rfl (lv_at hl 0 rfl) ?_
  refine e_ci (e_runV (C := RX6) (ci := 6) (As := []) (rest := []) ⟨hx, hb, hml, hown, hts⟩ (k_X6_current l D cs b σ  ) ⟨callB_of 0 hts (gC wC_X6_current) rfl rfl rfl (hts _ wi_X6) (hts _ wM_X6_88) (by decide +kernel) (by decide), hts _ wN_X6_current, hts _ wS_X6_current⟩ hK hH (xo_ok (by decide)).2.2 (Ex_at cs b σ (by decide)) rfl rfl rfl hl.1 rfl (Nat.le_of_ble_eq_true rfl) dX6_running_1 (by decide)) hS (fun H locs hH hS => ?_)
  rcases hq_1_1 : f_X6_current σ with _ | q1_1
  ·
    refine W.eq (g2 := F0 m 4 ls [.int ((-1))]) rfl ?_
    exact e_iret hx hb hr hlk hK hH hS dX6_running_4 (by simp only [f_X6_running, hq_1_1, oC_none]) rfl
  ·
    refine W.eq (g2 := F0 m 4 ls [.int (nI q1_1)]) rfl ?_
    exact e_iret hx hb hr hlk hK hH hS dX6_running_4 (by simp only [f_X6_running, hq_1_1, oC_some]) rfl
def f_X6_messages (σ : St)  : Int32 := gI σ 13 0 14
set_option maxRecDepth 100000 in
set_option maxHeartbeats 4000000 in
theorem k_X6_messages (l : Launch) (D : va_G) (cs : Nat → ClassId) (b : Nat) (σ : St)   : Met l yX6_messages (Cond.code yX6_messages cX6_messages 1 (some FieldType.int) :: T0) { frames := 0, cells := 0, slots := 0, locals := 0 } (Pe D (tyx cs) b 43 (Ex cs b σ) [.ref (b + xo 13 0)]) (Qi D (tyx cs) b 43 (Ex cs b σ) (f_X6_messages σ)) 0 0 (fun a => b ≤ a) := by
  refine e_met (by decide) rfl (Nat.le_of_ble_eq_true rfl) (fun pg e s m below meth c ls hx hb hr hml hts0 hown hlk hnm hH hK hl hS => ?_)
  have hts : ∀ w ∈ T0, w.before _ s = true := fun w h => hts0 w (List.mem_cons_of_mem _ h)
  have hl : lv_has ls 1 [(0, .ref (b + xo 13 0))] := hl
  refine lv_aload_n hx hb dX6_messages_0 rfl (lv_at hl 0 rfl) ?_
  refine fgX6_62 hx hb hts hown hK hH 0 (by decide) dX6_messages_1 ?_
  exact e_iret hx hb hr hlk hK hH hS dX6_messages_4 (by simp only [f_X6_messages]) rfl
def f_X6_state (σ : St) (x : Int32) : Int32 := (if f_X6_within σ x 0 7 = 0 then (-1) else gI σ 15 0 x.toNatClampNeg)
set_option maxRecDepth 100000 in
set_option maxHeartbeats 4000000 in
theorem k_X6_state (l : Launch) (D : va_G) (cs : Nat → ClassId) (b : Nat) (σ : St) (x : Int32)  : Met l yX6_state (Cond.code yX6_state cX6_state 2 (some FieldType.int) :: T0) { frames := 1, cells := 0, slots := 0, locals := 22 } (Pe D (tyx cs) b 43 (Ex cs b σ) [.ref (b + xo 13 0), .int (x)]) (Qi D (tyx cs) b 43 (Ex cs b σ) (f_X6_state σ x)) 0 0 (fun a => b ≤ a) := by
  refine e_met (by decide) rfl (Nat.le_of_ble_eq_true rfl) (fun pg e s m below meth c ls hx hb hr hml hts0 hown hlk hnm hH hK hl hS => ?_)
  have hts : ∀ w ∈ T0, w.before _ s = true := fun w h => hts0 w (List.mem_cons_of_mem _ h)
  have hl : lv_has ls 2 [(0, .ref (b + xo 13 0)), (1, .int (x))] := hl
  refine lv_iload_n hx hb dX6_state_0 rfl (lv_at hl 1 rfl) ?_
  refine lv_iconst (v := 0) hx hb dX6_state_1 (by decide) ?_
  refine lv_bipush (v := 7) hx hb dX6_state_2 (by decide) ?_
  refine e_ci (e_runS (As := [.int (x), .int (0), .int (7)]) (rest := []) ⟨hx, hb, hml, hown, hts⟩ (k_X6_within l D cs b σ x 0 7 ) ⟨callB_of 3 hts (gC wC_X6_within) rfl rfl rfl (hts _ wi_X6) (hts _ wM_X6_40) (by decide +kernel) (by decide), hts _ wT_X6_within⟩ hK hH rfl hl.1 rfl (Nat.le_of_ble_eq_true rfl) dX6_state_4 (by decide)) hS (fun H locs hH hS => ?_)
  refine lv_if_eq (tgt := 19) hx hb dX6_state_7 (by decide) (fun c_7_1 => ?_) (fun c_7_1 => ?_)
  ·
    refine lv_iconst (v := (-1)) hx hb dX6_state_19 (by decide) ?_
    exact e_iret hx hb hr hlk hK hH hS dX6_state_20 (by simp only [f_X6_state, if_pos c_7_1]) rfl
  ·
    refine lv_aload_n hx hb dX6_state_10 rfl (lv_at hl 0 rfl) ?_
    refine fgX6_13 hx hb hts hown hK hH 0 (by decide) dX6_state_11 ?_
    refine lv_iload_n hx hb dX6_state_14 rfl (lv_at hl 1 rfl) ?_
    refine x_ialdU hx hb hK hH 15 0 8 (by decide) rfl (vin_within (σ := σ) 7 (by assumption) (by decide)) dX6_state_15 ?_
    refine lv_goto (tgt := 20) hx hb dX6_state_16 (by decide) ?_
    exact e_iret hx hb hr hlk hK hH hS dX6_state_20 (by simp only [f_X6_state, if_neg c_7_1]) rfl
def f_X6_channel (σ : St) (x : Int32) : Int32 := (if f_X6_within σ x 0 3 = 0 then (-1) else gI σ 22 0 x.toNatClampNeg)
set_option maxRecDepth 100000 in
set_option maxHeartbeats 4000000 in
theorem k_X6_channel (l : Launch) (D : va_G) (cs : Nat → ClassId) (b : Nat) (σ : St) (x : Int32)  : Met l yX6_channel (Cond.code yX6_channel cX6_channel 2 (some FieldType.int) :: T0) { frames := 1, cells := 0, slots := 0, locals := 22 } (Pe D (tyx cs) b 43 (Ex cs b σ) [.ref (b + xo 13 0), .int (x)]) (Qi D (tyx cs) b 43 (Ex cs b σ) (f_X6_channel σ x)) 0 0 (fun a => b ≤ a) := by
  refine e_met (by decide) rfl (Nat.le_of_ble_eq_true rfl) (fun pg e s m below meth c ls hx hb hr hml hts0 hown hlk hnm hH hK hl hS => ?_)
  have hts : ∀ w ∈ T0, w.before _ s = true := fun w h => hts0 w (List.mem_cons_of_mem _ h)
  have hl : lv_has ls 2 [(0, .ref (b + xo 13 0)), (1, .int (x))] := hl
  refine lv_iload_n hx hb dX6_channel_0 rfl (lv_at hl 1 rfl) ?_
  refine lv_iconst (v := 0) hx hb dX6_channel_1 (by decide) ?_
  refine lv_iconst (v := 3) hx hb dX6_channel_2 (by decide) ?_
  refine e_ci (e_runS (As := [.int (x), .int (0), .int (3)]) (rest := []) ⟨hx, hb, hml, hown, hts⟩ (k_X6_within l D cs b σ x 0 3 ) ⟨callB_of 3 hts (gC wC_X6_within) rfl rfl rfl (hts _ wi_X6) (hts _ wM_X6_40) (by decide +kernel) (by decide), hts _ wT_X6_within⟩ hK hH rfl hl.1 rfl (Nat.le_of_ble_eq_true rfl) dX6_channel_3 (by decide)) hS (fun H locs hH hS => ?_)
  refine lv_if_eq (tgt := 18) hx hb dX6_channel_6 (by decide) (fun c_6_1 => ?_) (fun c_6_1 => ?_)
  ·
    refine lv_iconst (v := (-1)) hx hb dX6_channel_18 (by decide) ?_
    exact e_iret hx hb hr hlk hK hH hS dX6_channel_19 (by simp only [f_X6_channel, if_pos c_6_1]) rfl
  ·
    refine lv_aload_n hx hb dX6_channel_9 rfl (lv_at hl 0 rfl) ?_
    refine fgX6_34 hx hb hts hown hK hH 0 (by decide) dX6_channel_10 ?_
    refine lv_iload_n hx hb dX6_channel_13 rfl (lv_at hl 1 rfl) ?_
    refine x_ialdU hx hb hK hH 22 0 4 (by decide) rfl (vin_within (σ := σ) 3 (by assumption) (by decide)) dX6_channel_14 ?_
    refine lv_goto (tgt := 19) hx hb dX6_channel_15 (by decide) ?_
    exact e_iret hx hb hr hlk hK hH hS dX6_channel_19 (by simp only [f_X6_channel, if_neg c_6_1]) rfl
def f_X6_waiting (σ : St) (x : Int32) (y : Int32) : Int32 := (if f_X6_within σ x 0 1 = 0 then (-1) else (if y < 0 then (-1) else (oC (f_X6_ready σ x y) ((-1)) (fun q16_3 => nI q16_3))))
set_option maxRecDepth 100000 in
set_option maxHeartbeats 4000000 in
theorem k_X6_waiting (l : Launch) (D : va_G) (cs : Nat → ClassId) (b : Nat) (σ : St) (x : Int32) (y : Int32)  : Met l yX6_waiting (Cond.code yX6_waiting cX6_waiting 3 (some FieldType.int) :: T0) { frames := 1, cells := 0, slots := 0, locals := 25 } (Pe D (tyx cs) b 43 (Ex cs b σ) [.ref (b + xo 13 0), .int (x), .int (y)]) (Qi D (tyx cs) b 43 (Ex cs b σ) (f_X6_waiting σ x y)) 0 0 (fun a => b ≤ a) := by
  refine e_met (by decide) rfl (Nat.le_of_ble_eq_true rfl) (fun pg e s m below meth c ls hx hb hr hml hts0 hown hlk hnm hH hK hl hS => ?_)
  have hts : ∀ w ∈ T0, w.before _ s = true := fun w h => hts0 w (List.mem_cons_of_mem _ h)
  have hl : lv_has ls 3 [(0, .ref (b + xo 13 0)), (1, .int (x)), (2, .int (y))] := hl
  refine lv_iload_n hx hb dX6_waiting_0 rfl (lv_at hl 1 rfl) ?_
  refine lv_iconst (v := 0) hx hb dX6_waiting_1 (by decide) ?_
  refine lv_iconst (v := 1) hx hb dX6_waiting_2 (by decide) ?_
  refine e_ci (e_runS (As := [.int (x), .int (0), .int (1)]) (rest := []) ⟨hx, hb, hml, hown, hts⟩ (k_X6_within l D cs b σ x 0 1 ) ⟨callB_of 3 hts (gC wC_X6_within) rfl rfl rfl (hts _ wi_X6) (hts _ wM_X6_40) (by decide +kernel) (by decide), hts _ wT_X6_within⟩ hK hH rfl hl.1 rfl (Nat.le_of_ble_eq_true rfl) dX6_waiting_3 (by decide)) hS (fun H locs hH hS => ?_)
  refine lv_if_eq (tgt := 22) hx hb dX6_waiting_6 (by decide) (fun c_6_1 => ?_) (fun c_6_1 => ?_)
  ·
    refine lv_iconst (v := (-1)) hx hb dX6_waiting_22 (by decide) ?_
    exact e_iret hx hb hr hlk hK hH hS dX6_waiting_23 (by simp only [f_X6_waiting, if_pos c_6_1]) rfl
  ·
    refine lv_iload_n hx hb dX6_waiting_9 rfl (lv_at hl 2 rfl) ?_
    refine lv_if_lt (tgt := 22) hx hb dX6_waiting_10 (by decide) (fun c_10_2 => ?_) (fun c_10_2 => ?_)
    ·
      refine lv_iconst (v := (-1)) hx hb dX6_waiting_22 (by decide) ?_
      exact e_iret hx hb hr hlk hK hH hS dX6_waiting_23 (by simp only [f_X6_waiting, if_neg c_6_1, if_pos c_10_2]) rfl
    ·
      refine lv_aload_n hx hb dX6_waiting_13 rfl (lv_at hl 0 rfl) ?_
      refine lv_iload_n hx hb dX6_waiting_14 rfl (lv_at hl 1 rfl) ?_
      refine lv_iload_n hx hb dX6_waiting_15 rfl (lv_at hl 2 rfl) ?_
      refine e_ci (e_runV (C := RX6) (ci := 6) (As := [.int (x), .int (y)]) (rest := []) ⟨hx, hb, hml, hown, hts⟩ (k_X6_ready l D cs b σ x y ) ⟨callB_of 2 hts (gC wC_X6_ready) rfl rfl rfl (hts _ wi_X6) (hts _ wM_X6_92) (by decide +kernel) (by decide), hts _ wN_X6_ready, hts _ wS_X6_ready⟩ hK hH (xo_ok (by decide)).2.2 (Ex_at cs b σ (by decide)) rfl rfl rfl hl.1 rfl (Nat.le_of_ble_eq_true rfl) dX6_waiting_16 (by decide)) hS (fun H locs hH hS => ?_)
      rcases hq_16_3 : f_X6_ready σ x y with _ | q16_3
      ·
        refine W.eq (g2 := F0 m 19 ls [.int ((-1))]) rfl ?_
        refine lv_goto (tgt := 23) hx hb dX6_waiting_19 (by decide) ?_
        exact e_iret hx hb hr hlk hK hH hS dX6_waiting_23 (by simp only [f_X6_waiting, if_neg c_6_1, if_neg c_10_2, hq_16_3, oC_none]) rfl
      ·
        refine W.eq (g2 := F0 m 19 ls [.int (nI q16_3)]) rfl ?_
        refine lv_goto (tgt := 23) hx hb dX6_waiting_19 (by decide) ?_
        exact e_iret hx hb hr hlk hK hH hS dX6_waiting_23 (by simp only [f_X6_waiting, if_neg c_6_1, if_neg c_10_2, hq_16_3, oC_some]) rfl
theorem vin_look {σ : St} {x y : Int32} (hx : vp_in x 8) (hy : ¬ f_X6_within σ y 0 8 = 0) (h0 : ¬ y = 0) (h1 : ¬ y = 1) : vp_in (7 * x + y - 2) 56 := by
  have hy8 := vin_within (σ := σ) 8 hy (by decide)
  have ex := cl_of hx
  have ey := cl_of hy8
  have lx := cl_lt hx
  have ly := cl_lt hy8
  generalize x.toNatClampNeg = a at ex lx
  generalize y.toNatClampNeg = c at ey ly
  subst ex
  subst ey
  have hc : 2 ≤ c := by
    rcases Nat.lt_or_ge c 2 with q | q
    · rcases (show c = 0 ∨ c = 1 by omega) with rfl | rfl
      · exact absurd rfl h0
      · exact absurd rfl h1
    · exact q
  have e : (7 : Int32) * nI a + nI c - 2 = nI (7 * a + c - 2) := by
    rw [tagA (tagM (show (7 : Int32) = nI 7 from rfl) rfl) rfl]
    exact pk_sub (b := 2) (by omega)
  rw [e]
  exact vp_in_nI (by omega) (by decide)
theorem vin_msg {N : Nat} {σ : St} {x w : Int32} (hm : okMg N σ) (hN : N < 2 ^ 30) (h0 : ¬ x < 0) (h1 : ¬ gI σ 13 0 14 ≤ x) (hw : ¬ f_X6_within σ w 0 4 = 0) : vp_in (5 * ((gI σ 13 0 14 - 1 - x) - (gI σ 13 0 14 - 1 - x) / 16 * 16) + w) 80 := by
  have hw5 := vin_within (σ := σ) 4 hw (by decide)
  have ew := cl_of hw5
  have lw := cl_lt hw5
  have hM := hm.2
  rw [hm.1] at h1 ⊢
  obtain ⟨j, hj, rfl⟩ := nI_of h0
  have hjm : j < mgN σ := by
    rcases Nat.lt_or_ge j (mgN σ) with q | q
    · exact q
    · exact absurd (nI_le q hj) h1
  have e1 : nI (mgN σ) - 1 - nI j = nI (mgN σ - 1 - j) := by
    rw [show nI (mgN σ) - 1 = nI (mgN σ - 1) from pk_sub (b := 1) (by omega), pk_sub (by omega)]
  rw [e1, show nI (mgN σ - 1 - j) - nI (mgN σ - 1 - j) / 16 * 16 = nI ((mgN σ - 1 - j) % 16) from pk_rem (d := 16) (by omega) (by decide) (by decide), ew, show (5 : Int32) * nI ((mgN σ - 1 - j) % 16) + nI w.toNatClampNeg = nI (5 * ((mgN σ - 1 - j) % 16) + w.toNatClampNeg) from tagA (tagM (show (5 : Int32) = nI 5 from rfl) rfl) rfl]
  exact vp_in_nI (by omega) (by decide)
def f_X6_look (σ : St) (x : Int32) (y : Int32) : Int64 := (if f_X6_within σ x 0 7 = 0 then 4294967296 else (if gI σ 15 0 x.toNatClampNeg = 0 then 4294967296 else (if f_X6_within σ y 0 8 = 0 then 4294967296 else (if y = 0 then (gI σ 16 0 x.toNatClampNeg).toInt64 else (if y = 1 then (gI σ 17 0 x.toNatClampNeg).toInt64 else (gI σ 18 0 (((7 * x) + y) - 2).toNatClampNeg).toInt64)))))
set_option maxRecDepth 100000 in
set_option maxHeartbeats 4000000 in
theorem k_X6_look (l : Launch) (D : va_G) (cs : Nat → ClassId) (b : Nat) (σ : St) (x : Int32) (y : Int32)  : Met l yX6_look (Cond.code yX6_look cX6_look 3 (some FieldType.long) :: T0) { frames := 1, cells := 0, slots := 0, locals := 22 } (Pe D (tyx cs) b 43 (Ex cs b σ) [.ref (b + xo 13 0), .int (x), .int (y)]) (Ql D (tyx cs) b 43 (Ex cs b σ) (f_X6_look σ x y)) 0 0 (fun a => b ≤ a) := by
  refine e_met (by decide) rfl (Nat.le_of_ble_eq_true rfl) (fun pg e s m below meth c ls hx hb hr hml hts0 hown hlk hnm hH hK hl hS => ?_)
  have hts : ∀ w ∈ T0, w.before _ s = true := fun w h => hts0 w (List.mem_cons_of_mem _ h)
  have hl : lv_has ls 3 [(0, .ref (b + xo 13 0)), (1, .int (x)), (2, .int (y))] := hl
  refine lv_iload_n hx hb dX6_look_0 rfl (lv_at hl 1 rfl) ?_
  refine lv_iconst (v := 0) hx hb dX6_look_1 (by decide) ?_
  refine lv_bipush (v := 7) hx hb dX6_look_2 (by decide) ?_
  refine e_ci (e_runS (As := [.int (x), .int (0), .int (7)]) (rest := []) ⟨hx, hb, hml, hown, hts⟩ (k_X6_within l D cs b σ x 0 7 ) ⟨callB_of 3 hts (gC wC_X6_within) rfl rfl rfl (hts _ wi_X6) (hts _ wM_X6_40) (by decide +kernel) (by decide), hts _ wT_X6_within⟩ hK hH rfl hl.1 rfl (Nat.le_of_ble_eq_true rfl) dX6_look_4 (by decide)) hS (fun H locs hH hS => ?_)
  refine lv_if_eq (tgt := 29) hx hb dX6_look_7 (by decide) (fun c_7_1 => ?_) (fun c_7_1 => ?_)
  ·
    refine lv_ldc2 hx hb hown (hts _ wK_X6_106) dX6_look_29 ?_
    exact e_lret hx hb hr hlk hK hH hS dX6_look_32 (by simp only [f_X6_look, if_pos c_7_1]) rfl
  ·
    refine lv_aload_n hx hb dX6_look_10 rfl (lv_at hl 0 rfl) ?_
    refine fgX6_13 hx hb hts hown hK hH 0 (by decide) dX6_look_11 ?_
    refine lv_iload_n hx hb dX6_look_14 rfl (lv_at hl 1 rfl) ?_
    refine x_ialdU hx hb hK hH 15 0 8 (by decide) rfl (vin_within (σ := σ) 7 (by assumption) (by decide)) dX6_look_15 ?_
    refine lv_if_eq (tgt := 29) hx hb dX6_look_16 (by decide) (fun c_16_2 => ?_) (fun c_16_2 => ?_)
    ·
      refine lv_ldc2 hx hb hown (hts _ wK_X6_106) dX6_look_29 ?_
      exact e_lret hx hb hr hlk hK hH hS dX6_look_32 (by simp only [f_X6_look, if_neg c_7_1, if_pos c_16_2]) rfl
    ·
      refine lv_iload_n hx hb dX6_look_19 rfl (lv_at hl 2 rfl) ?_
      refine lv_iconst (v := 0) hx hb dX6_look_20 (by decide) ?_
      refine lv_bipush (v := 8) hx hb dX6_look_21 (by decide) ?_
      refine e_ci (e_runS (As := [.int (y), .int (0), .int (8)]) (rest := []) ⟨hx, hb, hml, hown, hts⟩ (k_X6_within l D cs b σ y 0 8 ) ⟨callB_of 3 hts (gC wC_X6_within) rfl rfl rfl (hts _ wi_X6) (hts _ wM_X6_40) (by decide +kernel) (by decide), hts _ wT_X6_within⟩ hK hH rfl hl.1 rfl (Nat.le_of_ble_eq_true rfl) dX6_look_23 (by decide)) hS (fun H locs hH hS => ?_)
      refine lv_if_ne (tgt := 33) hx hb dX6_look_26 (by decide) (fun c_26_3 => ?_) (fun c_26_3 => ?_)
      ·
        refine lv_iload_n hx hb dX6_look_33 rfl (lv_at hl 2 rfl) ?_
        refine lv_if_ne (tgt := 47) hx hb dX6_look_34 (by decide) (fun c_34_4 => ?_) (fun c_34_4 => ?_)
        ·
          refine lv_iload_n hx hb dX6_look_47 rfl (lv_at hl 2 rfl) ?_
          refine lv_iconst (v := 1) hx hb dX6_look_48 (by decide) ?_
          refine lv_icmp_ne (tgt := 62) hx hb dX6_look_49 (by decide) (fun c_49_5 => ?_) (fun c_49_5 => ?_)
          ·
            refine lv_aload_n hx hb dX6_look_62 rfl (lv_at hl 0 rfl) ?_
            refine fgX6_22 hx hb hts hown hK hH 0 (by decide) dX6_look_63 ?_
            refine lv_bipush (v := 7) hx hb dX6_look_66 (by decide) ?_
            refine lv_iload_n hx hb dX6_look_68 rfl (lv_at hl 1 rfl) ?_
            refine lv_imul hx hb dX6_look_69 ?_
            refine lv_iload_n hx hb dX6_look_70 rfl (lv_at hl 2 rfl) ?_
            refine lv_iadd hx hb dX6_look_71 ?_
            refine lv_iconst (v := 2) hx hb dX6_look_72 (by decide) ?_
            refine lv_isub hx hb dX6_look_73 ?_
            refine x_ialdU hx hb hK hH 18 0 56 (by decide) rfl (vin_look (σ := σ) (vin_within (σ := σ) 7 (by assumption) (by decide)) (by assumption) (by assumption) (by assumption)) dX6_look_74 ?_
            refine lv_i2l (v := (gI σ 18 0 (((7 * x) + y) - 2).toNatClampNeg).toInt64) hx hb dX6_look_75 rfl ?_
            exact e_lret hx hb hr hlk hK hH hS dX6_look_76 (by simp only [f_X6_look, if_neg c_7_1, if_neg c_16_2, if_neg c_26_3, if_neg c_34_4, if_neg c_49_5]) rfl
          ·
            refine lv_aload_n hx hb dX6_look_52 rfl (lv_at hl 0 rfl) ?_
            refine fgX6_19 hx hb hts hown hK hH 0 (by decide) dX6_look_53 ?_
            refine lv_iload_n hx hb dX6_look_56 rfl (lv_at hl 1 rfl) ?_
            refine x_ialdU hx hb hK hH 17 0 8 (by decide) rfl (vin_within (σ := σ) 7 (by assumption) (by decide)) dX6_look_57 ?_
            refine lv_i2l (v := (gI σ 17 0 x.toNatClampNeg).toInt64) hx hb dX6_look_58 rfl ?_
            refine lv_goto (tgt := 76) hx hb dX6_look_59 (by decide) ?_
            exact e_lret hx hb hr hlk hK hH hS dX6_look_76 (by simp only [f_X6_look, if_neg c_7_1, if_neg c_16_2, if_neg c_26_3, if_neg c_34_4, if_pos c_49_5]) rfl
        ·
          refine lv_aload_n hx hb dX6_look_37 rfl (lv_at hl 0 rfl) ?_
          refine fgX6_16 hx hb hts hown hK hH 0 (by decide) dX6_look_38 ?_
          refine lv_iload_n hx hb dX6_look_41 rfl (lv_at hl 1 rfl) ?_
          refine x_ialdU hx hb hK hH 16 0 8 (by decide) rfl (vin_within (σ := σ) 7 (by assumption) (by decide)) dX6_look_42 ?_
          refine lv_i2l (v := (gI σ 16 0 x.toNatClampNeg).toInt64) hx hb dX6_look_43 rfl ?_
          refine lv_goto (tgt := 76) hx hb dX6_look_44 (by decide) ?_
          exact e_lret hx hb hr hlk hK hH hS dX6_look_76 (by simp only [f_X6_look, if_neg c_7_1, if_neg c_16_2, if_neg c_26_3, if_pos c_34_4]) rfl
      ·
        refine lv_ldc2 hx hb hown (hts _ wK_X6_106) dX6_look_29 ?_
        exact e_lret hx hb hr hlk hK hH hS dX6_look_32 (by simp only [f_X6_look, if_neg c_7_1, if_neg c_16_2, if_pos c_26_3]) rfl
def f_X6_message (σ : St) (x : Int32) (w : Int32) : Int64 := (if x < 0 then 4294967296 else (if 15 < x then 4294967296 else (if gI σ 13 0 14 ≤ x then 4294967296 else (if f_X6_within σ w 0 4 = 0 then 4294967296 else (gI σ 23 0 ((5 * ((((gI σ 13 0 14) - 1) - x) - (((gI σ 13 0 14) - 1) - x) / 16 * 16)) + w).toNatClampNeg).toInt64))))
set_option maxRecDepth 100000 in
set_option maxHeartbeats 4000000 in
theorem k_X6_message (l : Launch) (D : va_G) (cs : Nat → ClassId) (b : Nat) (σ : St) (x : Int32) (w : Int32) (N : Nat) (hM : okMg N σ) (hN : N < 2 ^ 30) : Met l yX6_message (Cond.code yX6_message cX6_message 3 (some FieldType.long) :: T0) { frames := 1, cells := 0, slots := 0, locals := 22 } (Pe D (tyx cs) b 43 (Ex cs b σ) [.ref (b + xo 13 0), .int (x), .int (w)]) (Ql D (tyx cs) b 43 (Ex cs b σ) (f_X6_message σ x w)) 0 0 (fun a => b ≤ a) := by
  refine e_met (by decide) rfl (Nat.le_of_ble_eq_true rfl) (fun pg e s m below meth c ls hx hb hr hml hts0 hown hlk hnm hH hK hl hS => ?_)
  have hts : ∀ w ∈ T0, w.before _ s = true := fun w h => hts0 w (List.mem_cons_of_mem _ h)
  have hl : lv_has ls 3 [(0, .ref (b + xo 13 0)), (1, .int (x)), (2, .int (w))] := hl
  refine lv_iload_n hx hb dX6_message_0 rfl (lv_at hl 1 rfl) ?_
  refine lv_if_lt (tgt := 27) hx hb dX6_message_1 (by decide) (fun c_1_1 => ?_) (fun c_1_1 => ?_)
  ·
    refine lv_ldc2 hx hb hown (hts _ wK_X6_106) dX6_message_27 ?_
    exact e_lret hx hb hr hlk hK hH hS dX6_message_30 (by simp only [f_X6_message, if_pos c_1_1]) rfl
  ·
    refine lv_iload_n hx hb dX6_message_4 rfl (lv_at hl 1 rfl) ?_
    refine lv_bipush (v := 15) hx hb dX6_message_5 (by decide) ?_
    refine lv_icmp_gt (tgt := 27) hx hb dX6_message_7 (by decide) (fun c_7_2 => ?_) (fun c_7_2 => ?_)
    ·
      refine lv_ldc2 hx hb hown (hts _ wK_X6_106) dX6_message_27 ?_
      exact e_lret hx hb hr hlk hK hH hS dX6_message_30 (by simp only [f_X6_message, if_neg c_1_1, if_pos c_7_2]) rfl
    ·
      refine lv_iload_n hx hb dX6_message_10 rfl (lv_at hl 1 rfl) ?_
      refine lv_aload_n hx hb dX6_message_11 rfl (lv_at hl 0 rfl) ?_
      refine fgX6_62 hx hb hts hown hK hH 0 (by decide) dX6_message_12 ?_
      refine lv_icmp_ge (tgt := 27) hx hb dX6_message_15 (by decide) (fun c_15_3 => ?_) (fun c_15_3 => ?_)
      ·
        refine lv_ldc2 hx hb hown (hts _ wK_X6_106) dX6_message_27 ?_
        exact e_lret hx hb hr hlk hK hH hS dX6_message_30 (by simp only [f_X6_message, if_neg c_1_1, if_neg c_7_2, if_pos c_15_3]) rfl
      ·
        refine lv_iload_n hx hb dX6_message_18 rfl (lv_at hl 2 rfl) ?_
        refine lv_iconst (v := 0) hx hb dX6_message_19 (by decide) ?_
        refine lv_iconst (v := 4) hx hb dX6_message_20 (by decide) ?_
        refine e_ci (e_runS (As := [.int (w), .int (0), .int (4)]) (rest := []) ⟨hx, hb, hml, hown, hts⟩ (k_X6_within l D cs b σ w 0 4 ) ⟨callB_of 3 hts (gC wC_X6_within) rfl rfl rfl (hts _ wi_X6) (hts _ wM_X6_40) (by decide +kernel) (by decide), hts _ wT_X6_within⟩ hK hH rfl hl.1 rfl (Nat.le_of_ble_eq_true rfl) dX6_message_21 (by decide)) hS (fun H locs hH hS => ?_)
        refine lv_if_ne (tgt := 31) hx hb dX6_message_24 (by decide) (fun c_24_4 => ?_) (fun c_24_4 => ?_)
        ·
          refine lv_aload_n hx hb dX6_message_31 rfl (lv_at hl 0 rfl) ?_
          refine fgX6_37 hx hb hts hown hK hH 0 (by decide) dX6_message_32 ?_
          refine lv_iconst (v := 5) hx hb dX6_message_35 (by decide) ?_
          refine lv_aload_n hx hb dX6_message_36 rfl (lv_at hl 0 rfl) ?_
          refine fgX6_62 hx hb hts hown hK hH 0 (by decide) dX6_message_37 ?_
          refine lv_iconst (v := 1) hx hb dX6_message_40 (by decide) ?_
          refine lv_isub hx hb dX6_message_41 ?_
          refine lv_iload_n hx hb dX6_message_42 rfl (lv_at hl 1 rfl) ?_
          refine lv_isub hx hb dX6_message_43 ?_
          refine lv_bipush (v := 16) hx hb dX6_message_44 (by decide) ?_
          refine lv_irem hx hb dX6_message_46 (by decide) ?_
          refine lv_imul hx hb dX6_message_47 ?_
          refine lv_iload_n hx hb dX6_message_48 rfl (lv_at hl 2 rfl) ?_
          refine lv_iadd hx hb dX6_message_49 ?_
          refine x_ialdU hx hb hK hH 23 0 80 (by decide) rfl (vin_msg hM hN (by assumption) (by assumption) (by assumption)) dX6_message_50 ?_
          refine lv_i2l (v := (gI σ 23 0 ((5 * ((((gI σ 13 0 14) - 1) - x) - (((gI σ 13 0 14) - 1) - x) / 16 * 16)) + w).toNatClampNeg).toInt64) hx hb dX6_message_51 rfl ?_
          exact e_lret hx hb hr hlk hK hH hS dX6_message_52 (by simp only [f_X6_message, if_neg c_1_1, if_neg c_7_2, if_neg c_15_3, if_neg c_24_4]) rfl
        ·
          refine lv_ldc2 hx hb hown (hts _ wK_X6_106) dX6_message_27 ?_
          exact e_lret hx hb hr hlk hK hH hS dX6_message_30 (by simp only [f_X6_message, if_neg c_1_1, if_neg c_7_2, if_neg c_15_3, if_pos c_24_4]) rfl
