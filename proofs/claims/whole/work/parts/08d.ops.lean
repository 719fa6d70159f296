def f_X5_jump (σ : St) (q : Nat) (x : Int32) : St := (if gI (sI σ 5 q 4 x) 5 q 3 = 1 then (if gI (sI σ 5 q 4 x) 5 q 9 < 8 then sI σ 5 q 4 x else f_X5_becomeReady (sI σ 5 q 4 x) q) else sI σ 5 q 4 x)
set_option maxRecDepth 100000 in
set_option maxHeartbeats 4000000 in
theorem k_X5_jump (l : Launch) (D : va_G) (cs : Nat → ClassId) (b : Nat) (σ : St) (q : Nat) (x : Int32) (hq : q < 8) : Met l yX5_jump (Cond.code yX5_jump cX5_jump 3 (none : Option FieldType) :: T0) { frames := 2, cells := 0, slots := 0, locals := 42 } (Pe D (tyx cs) b 43 (Ex cs b σ) [.ref (b + xo 0 0), .ref (b + xo 5 q), .int (x)]) (Qv D (tyx cs) b 43 (Ex cs b (f_X5_jump σ q x))) 0 0 (fun a => b ≤ a) := by
  refine e_met (by decide) rfl (Nat.le_of_ble_eq_true rfl) (fun pg e s m below meth c ls hx hb hr hml hts0 hown hlk hnm hH hK hl hS => ?_)
  have hts : ∀ w ∈ T0, w.before _ s = true := fun w h => hts0 w (List.mem_cons_of_mem _ h)
  have hl : lv_has ls 3 [(0, .ref (b + xo 0 0)), (1, .ref (b + xo 5 q)), (2, .int (x))] := hl
  refine lv_aload_n hx hb dX5_jump_0 rfl (lv_at hl 1 rfl) ?_
  refine lv_iload_n hx hb dX5_jump_1 rfl (lv_at hl 2 rfl) ?_
  refine fpX5_167 hx hb hts hown hK hH hS q (show q < 8 by first | assumption | omega) dX5_jump_2 (fun H locs hH hS => ?_)
  refine lv_aload_n hx hb dX5_jump_5 rfl (lv_at hl 1 rfl) ?_
  refine fgX5_133 hx hb hts hown hK hH q (show q < 8 by first | assumption | omega) dX5_jump_6 ?_
  refine lv_iconst (v := 1) hx hb dX5_jump_9 (by decide) ?_
  refine lv_icmp_ne (tgt := 27) hx hb dX5_jump_10 (by decide) (fun c_10_1 => ?_) (fun c_10_1 => ?_)
  ·
    exact e_vret hx hb hr hlk hK hH hS dX5_jump_27 (congrArg (Ex cs b) (by simp only [f_X5_jump, if_neg c_10_1]))
  ·
    refine lv_aload_n hx hb dX5_jump_13 rfl (lv_at hl 1 rfl) ?_
    refine fgX5_164 hx hb hts hown hK hH q (show q < 8 by first | assumption | omega) dX5_jump_14 ?_
    refine lv_bipush (v := 8) hx hb dX5_jump_17 (by decide) ?_
    refine lv_icmp_lt (tgt := 27) hx hb dX5_jump_19 (by decide) (fun c_19_2 => ?_) (fun c_19_2 => ?_)
    ·
      exact e_vret hx hb hr hlk hK hH hS dX5_jump_27 (congrArg (Ex cs b) (by simp only [f_X5_jump, if_pos c_10_1, if_pos c_19_2]))
    ·
      refine lv_aload_n hx hb dX5_jump_22 rfl (lv_at hl 0 rfl) ?_
      refine lv_aload_n hx hb dX5_jump_23 rfl (lv_at hl 1 rfl) ?_
      refine e_cv (e_runV (C := RX5) (ci := 5) (As := [.ref (b + xo 5 q)]) (rest := []) ⟨hx, hb, hml, hown, hts⟩ (k_X5_becomeReady l D cs b (sI σ 5 q 4 x) q (by first | assumption | omega | decide)) ⟨callB_of 1 hts (gC wC_X5_becomeReady) rfl rfl rfl (hts _ wi_X5) (hts _ wM_X5_129) (by decide +kernel) (by decide), hts _ wN_X5_becomeReady, hts _ wS_X5_becomeReady⟩ hK hH (xo_ok (by decide)).2.2 (Ex_at cs b (sI σ 5 q 4 x) (by decide)) rfl rfl rfl hl.1 rfl (Nat.le_of_ble_eq_true rfl) dX5_jump_24 (by decide)) hS (fun H locs hH hS => ?_)
      exact e_vret hx hb hr hlk hK hH hS dX5_jump_27 (congrArg (Ex cs b) (by simp only [f_X5_jump, if_pos c_10_1, if_neg c_19_2]))
def f_X5_jumpIfZero (σ : St) (q : Nat) (x : Int32) : St := (if gI σ 5 q 5 = 0 then sI σ 5 q 4 x else sI (f_X2_drop σ q) 5 q 4 ((gI (f_X2_drop σ q) 5 q 4) + 1))
set_option maxRecDepth 100000 in
set_option maxHeartbeats 4000000 in
theorem k_X5_jumpIfZero (l : Launch) (D : va_G) (cs : Nat → ClassId) (b : Nat) (σ : St) (q : Nat) (x : Int32) (hq : q < 8) : Met l yX5_jumpIfZero (Cond.code yX5_jumpIfZero cX5_jumpIfZero 3 (none : Option FieldType) :: T0) { frames := 1, cells := 0, slots := 0, locals := 20 } (Pe D (tyx cs) b 43 (Ex cs b σ) [.ref (b + xo 0 0), .ref (b + xo 5 q), .int (x)]) (Qv D (tyx cs) b 43 (Ex cs b (f_X5_jumpIfZero σ q x))) 0 0 (fun a => b ≤ a) := by
  refine e_met (by decide) rfl (Nat.le_of_ble_eq_true rfl) (fun pg e s m below meth c ls hx hb hr hml hts0 hown hlk hnm hH hK hl hS => ?_)
  have hts : ∀ w ∈ T0, w.before _ s = true := fun w h => hts0 w (List.mem_cons_of_mem _ h)
  have hl : lv_has ls 3 [(0, .ref (b + xo 0 0)), (1, .ref (b + xo 5 q)), (2, .int (x))] := hl
  refine lv_aload_n hx hb dX5_jumpIfZero_0 rfl (lv_at hl 1 rfl) ?_
  refine fgX5_193 hx hb hts hown hK hH q (show q < 8 by first | assumption | omega) dX5_jumpIfZero_1 ?_
  refine lv_if_ne (tgt := 15) hx hb dX5_jumpIfZero_4 (by decide) (fun c_4_1 => ?_) (fun c_4_1 => ?_)
  ·
    refine lv_aload_n hx hb dX5_jumpIfZero_15 rfl (lv_at hl 1 rfl) ?_
    refine e_cv (e_runV (C := RX2) (ci := 2) (As := []) (rest := []) ⟨hx, hb, hml, hown, hts⟩ (k_X2_drop l D cs b σ q (by first | assumption | omega | decide)) ⟨callB_of 0 hts (gC wC_X2_drop) rfl rfl rfl (hts _ wi_X2) (hts _ wM_X5_210) (by decide +kernel) (by decide), hts _ wN_X2_drop, hts _ wS_X2_drop⟩ hK hH (xo_ok (show q < xn 5 by first | assumption | (show q < 8; first | assumption | omega))).2.2 (Ex_at cs b σ (show q < xn 5 by first | assumption | (show q < 8; first | assumption | omega))) rfl rfl rfl hl.1 rfl (Nat.le_of_ble_eq_true rfl) dX5_jumpIfZero_16 (by decide)) hS (fun H locs hH hS => ?_)
    refine lv_aload_n hx hb dX5_jumpIfZero_19 rfl (lv_at hl 1 rfl) ?_
    refine lv_dup hx hb dX5_jumpIfZero_20 rfl ?_
    refine fgX5_167 hx hb hts hown hK hH q (show q < 8 by first | assumption | omega) dX5_jumpIfZero_21 ?_
    refine lv_iconst (v := 1) hx hb dX5_jumpIfZero_24 (by decide) ?_
    refine lv_iadd hx hb dX5_jumpIfZero_25 ?_
    refine fpX5_167 hx hb hts hown hK hH hS q (show q < 8 by first | assumption | omega) dX5_jumpIfZero_26 (fun H locs hH hS => ?_)
    exact e_vret hx hb hr hlk hK hH hS dX5_jumpIfZero_29 (congrArg (Ex cs b) (by simp only [f_X5_jumpIfZero, if_neg c_4_1]))
  ·
    refine lv_aload_n hx hb dX5_jumpIfZero_7 rfl (lv_at hl 1 rfl) ?_
    refine lv_iload_n hx hb dX5_jumpIfZero_8 rfl (lv_at hl 2 rfl) ?_
    refine fpX5_167 hx hb hts hown hK hH hS q (show q < 8 by first | assumption | omega) dX5_jumpIfZero_9 (fun H locs hH hS => ?_)
    refine lv_goto (tgt := 29) hx hb dX5_jumpIfZero_12 (by decide) ?_
    exact e_vret hx hb hr hlk hK hH hS dX5_jumpIfZero_29 (congrArg (Ex cs b) (by simp only [f_X5_jumpIfZero, if_pos c_4_1]))
def f_X5_awaitTime (σ : St) (q : Nat) : St := (if f_X5_hasCome (sI (f_X2_drop σ q) 5 q 4 ((gI (f_X2_drop σ q) 5 q 4) + 1)) (gI σ 5 q 5) = 0 then sI (sI (sI (f_X2_drop σ q) 5 q 4 ((gI (f_X2_drop σ q) 5 q 4) + 1)) 5 q 8 (gI σ 5 q 5)) 5 q 2 4 else sI (f_X2_drop σ q) 5 q 4 ((gI (f_X2_drop σ q) 5 q 4) + 1))
set_option maxRecDepth 100000 in
set_option maxHeartbeats 4000000 in
theorem k_X5_awaitTime (l : Launch) (D : va_G) (cs : Nat → ClassId) (b : Nat) (σ : St) (q : Nat) (hq : q < 8) : Met l yX5_awaitTime (Cond.code yX5_awaitTime cX5_awaitTime 3 (none : Option FieldType) :: T0) { frames := 1, cells := 0, slots := 0, locals := 21 } (Pe D (tyx cs) b 43 (Ex cs b σ) [.ref (b + xo 0 0), .ref (b + xo 5 q)]) (Qv D (tyx cs) b 43 (Ex cs b (f_X5_awaitTime σ q))) 0 0 (fun a => b ≤ a) := by
  refine e_met (by decide) rfl (Nat.le_of_ble_eq_true rfl) (fun pg e s m below meth c ls hx hb hr hml hts0 hown hlk hnm hH hK hl hS => ?_)
  have hts : ∀ w ∈ T0, w.before _ s = true := fun w h => hts0 w (List.mem_cons_of_mem _ h)
  have hl : lv_has ls 3 [(0, .ref (b + xo 0 0)), (1, .ref (b + xo 5 q))] := hl
  refine lv_aload_n hx hb dX5_awaitTime_0 rfl (lv_at hl 1 rfl) ?_
  refine fgX5_193 hx hb hts hown hK hH q (show q < 8 by first | assumption | omega) dX5_awaitTime_1 ?_
  refine lv_istore_n (lv' := [(2, .int (gI σ 5 q 5)), (0, .ref (b + xo 0 0)), (1, .ref (b + xo 5 q))]) hx hb dX5_awaitTime_4 rfl hl (by decide) rfl (fun ls hl => ?_)
  refine lv_aload_n hx hb dX5_awaitTime_5 rfl (lv_at hl 2 rfl) ?_
  refine e_cv (e_runV (C := RX2) (ci := 2) (As := []) (rest := []) ⟨hx, hb, hml, hown, hts⟩ (k_X2_drop l D cs b σ q (by first | assumption | omega | decide)) ⟨callB_of 0 hts (gC wC_X2_drop) rfl rfl rfl (hts _ wi_X2) (hts _ wM_X5_210) (by decide +kernel) (by decide), hts _ wN_X2_drop, hts _ wS_X2_drop⟩ hK hH (xo_ok (show q < xn 5 by first | assumption | (show q < 8; first | assumption | omega))).2.2 (Ex_at cs b σ (show q < xn 5 by first | assumption | (show q < 8; first | assumption | omega))) rfl rfl rfl hl.1 rfl (Nat.le_of_ble_eq_true rfl) dX5_awaitTime_6 (by decide)) hS (fun H locs hH hS => ?_)
  refine lv_aload_n hx hb dX5_awaitTime_9 rfl (lv_at hl 2 rfl) ?_
  refine lv_dup hx hb dX5_awaitTime_10 rfl ?_
  refine fgX5_167 hx hb hts hown hK hH q (show q < 8 by first | assumption | omega) dX5_awaitTime_11 ?_
  refine lv_iconst (v := 1) hx hb dX5_awaitTime_14 (by decide) ?_
  refine lv_iadd hx hb dX5_awaitTime_15 ?_
  refine fpX5_167 hx hb hts hown hK hH hS q (show q < 8 by first | assumption | omega) dX5_awaitTime_16 (fun H locs hH hS => ?_)
  refine lv_aload_n hx hb dX5_awaitTime_19 rfl (lv_at hl 1 rfl) ?_
  refine lv_iload_n hx hb dX5_awaitTime_20 rfl (lv_at hl 0 rfl) ?_
  refine e_ci (e_runV (C := RX5) (ci := 5) (As := [.int (gI σ 5 q 5)]) (rest := []) ⟨hx, hb, hml, hown, hts⟩ (k_X5_hasCome l D cs b (sI (f_X2_drop σ q) 5 q 4 ((gI (f_X2_drop σ q) 5 q 4) + 1)) (gI σ 5 q 5) ) ⟨callB_of 1 hts (gC wC_X5_hasCome) rfl rfl rfl (hts _ wi_X5) (hts _ wM_X5_154) (by decide +kernel) (by decide), hts _ wN_X5_hasCome, hts _ wS_X5_hasCome⟩ hK hH (xo_ok (by decide)).2.2 (Ex_at cs b (sI (f_X2_drop σ q) 5 q 4 ((gI (f_X2_drop σ q) 5 q 4) + 1)) (by decide)) rfl rfl rfl hl.1 rfl (Nat.le_of_ble_eq_true rfl) dX5_awaitTime_21 (by decide)) hS (fun H locs hH hS => ?_)
  refine lv_if_ne (tgt := 37) hx hb dX5_awaitTime_24 (by decide) (fun c_24_1 => ?_) (fun c_24_1 => ?_)
  ·
    exact e_vret hx hb hr hlk hK hH hS dX5_awaitTime_37 (congrArg (Ex cs b) (by simp only [f_X5_awaitTime, if_neg c_24_1]))
  ·
    refine lv_aload_n hx hb dX5_awaitTime_27 rfl (lv_at hl 2 rfl) ?_
    refine lv_iload_n hx hb dX5_awaitTime_28 rfl (lv_at hl 0 rfl) ?_
    refine fpX5_151 hx hb hts hown hK hH hS q (show q < 8 by first | assumption | omega) dX5_awaitTime_29 (fun H locs hH hS => ?_)
    refine lv_aload_n hx hb dX5_awaitTime_32 rfl (lv_at hl 2 rfl) ?_
    refine lv_iconst (v := 4) hx hb dX5_awaitTime_33 (by decide) ?_
    refine fpX5_80 hx hb hts hown hK hH hS q (show q < 8 by first | assumption | omega) dX5_awaitTime_34 (fun H locs hH hS => ?_)
    exact e_vret hx hb hr hlk hK hH hS dX5_awaitTime_37 (congrArg (Ex cs b) (by simp only [f_X5_awaitTime, if_pos c_24_1]))
def f_X5_deliver (σ : St) (u : Int32) (q : Nat) (w : Nat) (x : Int32) : St := f_X1_append (f_X2_put σ w x) u (nI q) (nI w) x (gI (f_X2_put σ w x) 0 0 7)
set_option maxRecDepth 100000 in
set_option maxHeartbeats 4000000 in
theorem k_X5_deliver (l : Launch) (D : va_G) (cs : Nat → ClassId) (b : Nat) (σ : St) (u : Int32) (q : Nat) (w : Nat) (x : Int32) (hq : q < 8) (hw5 : w < 8) : Met l yX5_deliver (Cond.code yX5_deliver cX5_deliver 5 (none : Option FieldType) :: T0) { frames := 2, cells := 0, slots := 0, locals := 46 } (Pe D (tyx cs) b 43 (Ex cs b σ) [.ref (b + xo 0 0), .int (u), .ref (b + xo 5 q), .ref (b + xo 5 w), .int (x)]) (Qv D (tyx cs) b 43 (Ex cs b (f_X5_deliver σ u q w x))) 0 0 (fun a => b ≤ a) := by
  refine e_met (by decide) rfl (Nat.le_of_ble_eq_true rfl) (fun pg e s m below meth c ls hx hb hr hml hts0 hown hlk hnm hH hK hl hS => ?_)
  have hts : ∀ w ∈ T0, w.before _ s = true := fun w h => hts0 w (List.mem_cons_of_mem _ h)
  have hl : lv_has ls 5 [(0, .ref (b + xo 0 0)), (1, .int (u)), (2, .ref (b + xo 5 q)), (3, .ref (b + xo 5 w)), (4, .int (x))] := hl
  refine lv_aload_n hx hb dX5_deliver_0 rfl (lv_at hl 3 rfl) ?_
  refine lv_iload hx hb dX5_deliver_1 (lv_at hl 4 rfl) ?_
  refine e_cv (e_runV (C := RX2) (ci := 2) (As := [.int (x)]) (rest := []) ⟨hx, hb, hml, hown, hts⟩ (k_X2_put l D cs b σ w x (by first | assumption | omega | decide)) ⟨callB_of 1 hts (gC wC_X2_put) rfl rfl rfl (hts _ wi_X2) (hts _ wM_X5_196) (by decide +kernel) (by decide), hts _ wN_X2_put, hts _ wS_X2_put⟩ hK hH (xo_ok (show w < xn 5 by first | assumption | (show w < 8; first | assumption | omega))).2.2 (Ex_at cs b σ (show w < xn 5 by first | assumption | (show w < 8; first | assumption | omega))) rfl rfl rfl hl.1 rfl (Nat.le_of_ble_eq_true rfl) dX5_deliver_3 (by decide)) hS (fun H locs hH hS => ?_)
  refine lv_aload_n hx hb dX5_deliver_6 rfl (lv_at hl 0 rfl) ?_
  refine fgX5_45 hx hb hts hown hK hH 0 (by decide) dX5_deliver_7 ?_
  refine lv_iload_n hx hb dX5_deliver_10 rfl (lv_at hl 1 rfl) ?_
  refine lv_aload_n hx hb dX5_deliver_11 rfl (lv_at hl 2 rfl) ?_
  refine fgX5_87 hx hb hts hown hK hH q (show q < 8 by first | assumption | omega) dX5_deliver_12 ?_
  refine lv_aload_n hx hb dX5_deliver_15 rfl (lv_at hl 3 rfl) ?_
  refine fgX5_87 hx hb hts hown hK hH w (show w < 8 by first | assumption | omega) dX5_deliver_16 ?_
  refine lv_iload hx hb dX5_deliver_19 (lv_at hl 4 rfl) ?_
  refine lv_aload_n hx hb dX5_deliver_21 rfl (lv_at hl 0 rfl) ?_
  refine fgX5_53 hx hb hts hown hK hH 0 (by decide) dX5_deliver_22 ?_
  refine e_cv (e_runV (C := RX1) (ci := 1) (As := [.int (u), .int (nI q), .int (nI w), .int (x), .int (gI (f_X2_put σ w x) 0 0 7)]) (rest := []) ⟨hx, hb, hml, hown, hts⟩ (k_X1_append l D cs b (f_X2_put σ w x) u (nI q) (nI w) x (gI (f_X2_put σ w x) 0 0 7) ) ⟨callB_of 5 hts (gC wC_X1_append) rfl rfl rfl (hts _ wi_X1) (hts _ wM_X5_240) (by decide +kernel) (by decide), hts _ wN_X1_append, hts _ wS_X1_append⟩ hK hH (xo_ok (by decide)).2.2 (Ex_at cs b (f_X2_put σ w x) (by decide)) rfl rfl rfl hl.1 rfl (Nat.le_of_ble_eq_true rfl) dX5_deliver_25 (by decide)) hS (fun H locs hH hS => ?_)
  exact e_vret hx hb hr hlk hK hH hS dX5_deliver_28 (congrArg (Ex cs b) (by simp only [f_X5_deliver]))
def f_X5_send (σ : St) (q : Nat) (k : Nat) : St := (if f_X0_hasSender σ k = 0 then (oC (gR (sI (f_X2_drop σ q) 5 q 4 ((gI (f_X2_drop σ q) 5 q 4) + 1)) 8 k 1) (f_X0_hold (sI (f_X2_drop σ q) 5 q 4 ((gI (f_X2_drop σ q) 5 q 4) + 1)) k q 1 (gI σ 5 q 5)) (fun q37_2 => f_X5_becomeReady (f_X5_deliver (f_X0_clear (sI (f_X2_drop σ q) 5 q 4 ((gI (f_X2_drop σ q) 5 q 4) + 1)) k) (nI k) q q37_2 (gI σ 5 q 5)) q37_2)) else sI σ 5 q 2 5)
set_option maxRecDepth 100000 in
set_option maxHeartbeats 4000000 in
theorem k_X5_send (l : Launch) (D : va_G) (cs : Nat → ClassId) (b : Nat) (σ : St) (q : Nat) (k : Nat) (hq : q < 8) (hk : k < 4) (hwt : ∀ p, gR σ 8 k 1 = some p → p < 8) : Met l yX5_send (Cond.code yX5_send cX5_send 5 (none : Option FieldType) :: T0) { frames := 3, cells := 0, slots := 0, locals := 70 } (Pe D (tyx cs) b 43 (Ex cs b σ) [.ref (b + xo 0 0), .ref (b + xo 5 q), .ref (b + xo 8 k)]) (Qv D (tyx cs) b 43 (Ex cs b (f_X5_send σ q k))) 0 0 (fun a => b ≤ a) := by
  refine e_met (by decide) rfl (Nat.le_of_ble_eq_true rfl) (fun pg e s m below meth c ls hx hb hr hml hts0 hown hlk hnm hH hK hl hS => ?_)
  have hts : ∀ w ∈ T0, w.before _ s = true := fun w h => hts0 w (List.mem_cons_of_mem _ h)
  have hl : lv_has ls 5 [(0, .ref (b + xo 0 0)), (1, .ref (b + xo 5 q)), (2, .ref (b + xo 8 k))] := hl
  refine lv_aload_n hx hb dX5_send_0 rfl (lv_at hl 2 rfl) ?_
  refine lv_ifnull hx hb dX5_send_1 ?_
  refine lv_aload_n hx hb dX5_send_4 rfl (lv_at hl 2 rfl) ?_
  refine e_ci (e_runV (C := RX0) (ci := 0) (As := []) (rest := []) ⟨hx, hb, hml, hown, hts⟩ (k_X0_hasSender l D cs b σ k (by first | assumption | omega | decide)) ⟨callB_of 0 hts (gC wC_X0_hasSender) rfl rfl rfl (hts _ wi_X0) (hts _ wM_X5_219) (by decide +kernel) (by decide), hts _ wN_X0_hasSender, hts _ wS_X0_hasSender⟩ hK hH (xo_ok (show k < xn 8 by first | assumption | (show k < 4; first | assumption | omega))).2.2 (Ex_at cs b σ (show k < xn 8 by first | assumption | (show k < 4; first | assumption | omega))) rfl rfl rfl hl.1 rfl (Nat.le_of_ble_eq_true rfl) dX5_send_5 (by decide)) hS (fun H locs hH hS => ?_)
  refine lv_if_eq (tgt := 17) hx hb dX5_send_8 (by decide) (fun c_8_1 => ?_) (fun c_8_1 => ?_)
  ·
    refine lv_aload_n hx hb dX5_send_17 rfl (lv_at hl 1 rfl) ?_
    refine fgX5_193 hx hb hts hown hK hH q (show q < 8 by first | assumption | omega) dX5_send_18 ?_
    refine lv_istore_n (lv' := [(3, .int (gI σ 5 q 5)), (0, .ref (b + xo 0 0)), (1, .ref (b + xo 5 q)), (2, .ref (b + xo 8 k))]) hx hb dX5_send_21 rfl hl (by decide) rfl (fun ls hl => ?_)
    refine lv_aload_n hx hb dX5_send_22 rfl (lv_at hl 2 rfl) ?_
    refine e_cv (e_runV (C := RX2) (ci := 2) (As := []) (rest := []) ⟨hx, hb, hml, hown, hts⟩ (k_X2_drop l D cs b σ q (by first | assumption | omega | decide)) ⟨callB_of 0 hts (gC wC_X2_drop) rfl rfl rfl (hts _ wi_X2) (hts _ wM_X5_210) (by decide +kernel) (by decide), hts _ wN_X2_drop, hts _ wS_X2_drop⟩ hK hH (xo_ok (show q < xn 5 by first | assumption | (show q < 8; first | assumption | omega))).2.2 (Ex_at cs b σ (show q < xn 5 by first | assumption | (show q < 8; first | assumption | omega))) rfl rfl rfl hl.1 rfl (Nat.le_of_ble_eq_true rfl) dX5_send_23 (by decide)) hS (fun H locs hH hS => ?_)
    refine lv_aload_n hx hb dX5_send_26 rfl (lv_at hl 2 rfl) ?_
    refine lv_dup hx hb dX5_send_27 rfl ?_
    refine fgX5_167 hx hb hts hown hK hH q (show q < 8 by first | assumption | omega) dX5_send_28 ?_
    refine lv_iconst (v := 1) hx hb dX5_send_31 (by decide) ?_
    refine lv_iadd hx hb dX5_send_32 ?_
    refine fpX5_167 hx hb hts hown hK hH hS q (show q < 8 by first | assumption | omega) dX5_send_33 (fun H locs hH hS => ?_)
    refine lv_aload_n hx hb dX5_send_36 rfl (lv_at hl 3 rfl) ?_
    refine fgX5_222 hx hb hts hown hK hH k (show k < 4 by first | assumption | omega) _ rfl dX5_send_37 ?_
    rcases hq_37_2 : gR (sI (f_X2_drop σ q) 5 q 4 ((gI (f_X2_drop σ q) 5 q 4) + 1)) 8 k 1 with _ | q37_2
    ·
      refine W.eq (g2 := F0 m 40 ls [.null]) rfl ?_
      refine lv_astoreN (lv' := [(4, .null), (3, .int (gI σ 5 q 5)), (0, .ref (b + xo 0 0)), (1, .ref (b + xo 5 q)), (2, .ref (b + xo 8 k))]) hx hb dX5_send_40 hl (by decide) rfl (fun ls hl => ?_)
      refine lv_aloadN hx hb dX5_send_42 (lv_at hl 0 rfl) ?_
      refine lv_ifnonnullN hx hb dX5_send_44 ?_
      refine lv_aload_n hx hb dX5_send_47 rfl (lv_at hl 4 rfl) ?_
      refine lv_aload_n hx hb dX5_send_48 rfl (lv_at hl 3 rfl) ?_
      refine lv_iconst (v := 1) hx hb dX5_send_49 (by decide) ?_
      refine lv_iload_n hx hb dX5_send_50 rfl (lv_at hl 1 rfl) ?_
      refine e_cv (e_runV (C := RX0) (ci := 0) (As := [.ref (b + xo 5 q), .int (1), .int (gI σ 5 q 5)]) (rest := []) ⟨hx, hb, hml, hown, hts⟩ (k_X0_hold l D cs b (sI (f_X2_drop σ q) 5 q 4 ((gI (f_X2_drop σ q) 5 q 4) + 1)) k q 1 (gI σ 5 q 5) (by first | assumption | omega | decide) (by first | assumption | omega | decide) (by first | assumption | omega | decide)) ⟨callB_of 3 hts (gC wC_X0_hold) rfl rfl rfl (hts _ wi_X0) (hts _ wM_X5_225) (by decide +kernel) (by decide), hts _ wN_X0_hold, hts _ wS_X0_hold⟩ hK hH (xo_ok (show k < xn 8 by first | assumption | (show k < 4; first | assumption | omega))).2.2 (Ex_at cs b (sI (f_X2_drop σ q) 5 q 4 ((gI (f_X2_drop σ q) 5 q 4) + 1)) (show k < xn 8 by first | assumption | (show k < 4; first | assumption | omega))) rfl rfl rfl hl.1 rfl (Nat.le_of_ble_eq_true rfl) dX5_send_51 (by decide)) hS (fun H locs hH hS => ?_)
      exact e_vret hx hb hr hlk hK hH hS dX5_send_54 (congrArg (Ex cs b) (by simp only [f_X5_send, if_pos c_8_1, hq_37_2, oC_none]))
    ·
      have q37_2b : q37_2 < 8 := hwt _ hq_37_2
      refine W.eq (g2 := F0 m 40 ls [.ref (b + xo 5 q37_2)]) rfl ?_
      refine lv_astore (lv' := [(4, .ref (b + xo 5 q37_2)), (3, .int (gI σ 5 q 5)), (0, .ref (b + xo 0 0)), (1, .ref (b + xo 5 q)), (2, .ref (b + xo 8 k))]) hx hb dX5_send_40 hl (by decide) rfl (fun ls hl => ?_)
      refine lv_aload hx hb dX5_send_42 (lv_at hl 0 rfl) ?_
      refine lv_ifnonnull (tgt := 55) hx hb dX5_send_44 (by decide) ?_
      refine lv_aload_n hx hb dX5_send_55 rfl (lv_at hl 4 rfl) ?_
      refine e_cv (e_runV (C := RX0) (ci := 0) (As := []) (rest := []) ⟨hx, hb, hml, hown, hts⟩ (k_X0_clear l D cs b (sI (f_X2_drop σ q) 5 q 4 ((gI (f_X2_drop σ q) 5 q 4) + 1)) k (by first | assumption | omega | decide)) ⟨callB_of 0 hts (gC wC_X0_clear) rfl rfl rfl (hts _ wi_X0) (hts _ wM_X5_83) (by decide +kernel) (by decide), hts _ wN_X0_clear, hts _ wS_X0_clear⟩ hK hH (xo_ok (show k < xn 8 by first | assumption | (show k < 4; first | assumption | omega))).2.2 (Ex_at cs b (sI (f_X2_drop σ q) 5 q 4 ((gI (f_X2_drop σ q) 5 q 4) + 1)) (show k < xn 8 by first | assumption | (show k < 4; first | assumption | omega))) rfl rfl rfl hl.1 rfl (Nat.le_of_ble_eq_true rfl) dX5_send_56 (by decide)) hS (fun H locs hH hS => ?_)
      refine lv_aload_n hx hb dX5_send_59 rfl (lv_at hl 2 rfl) ?_
      refine lv_aload_n hx hb dX5_send_60 rfl (lv_at hl 4 rfl) ?_
      refine fgX5_229 hx hb hts hown hK hH k (show k < 4 by first | assumption | omega) dX5_send_61 ?_
      refine lv_aload_n hx hb dX5_send_64 rfl (lv_at hl 3 rfl) ?_
      refine lv_aload hx hb dX5_send_65 (lv_at hl 0 rfl) ?_
      refine lv_iload_n hx hb dX5_send_67 rfl (lv_at hl 1 rfl) ?_
      refine e_cv (e_runV (C := RX5) (ci := 5) (As := [.int (nI k), .ref (b + xo 5 q), .ref (b + xo 5 q37_2), .int (gI σ 5 q 5)]) (rest := []) ⟨hx, hb, hml, hown, hts⟩ (k_X5_deliver l D cs b (f_X0_clear (sI (f_X2_drop σ q) 5 q 4 ((gI (f_X2_drop σ q) 5 q 4) + 1)) k) (nI k) q q37_2 (gI σ 5 q 5) (by first | assumption | omega | decide) (by first | assumption | omega | decide)) ⟨callB_of 4 hts (gC wC_X5_deliver) rfl rfl rfl (hts _ wi_X5) (hts _ wM_X5_230) (by decide +kernel) (by decide), hts _ wN_X5_deliver, hts _ wS_X5_deliver⟩ hK hH (xo_ok (by decide)).2.2 (Ex_at cs b (f_X0_clear (sI (f_X2_drop σ q) 5 q 4 ((gI (f_X2_drop σ q) 5 q 4) + 1)) k) (by decide)) rfl rfl rfl hl.1 rfl (Nat.le_of_ble_eq_true rfl) dX5_send_68 (by decide)) hS (fun H locs hH hS => ?_)
      refine lv_aload_n hx hb dX5_send_71 rfl (lv_at hl 2 rfl) ?_
      refine lv_aload hx hb dX5_send_72 (lv_at hl 0 rfl) ?_
      refine e_cv (e_runV (C := RX5) (ci := 5) (As := [.ref (b + xo 5 q37_2)]) (rest := []) ⟨hx, hb, hml, hown, hts⟩ (k_X5_becomeReady l D cs b (f_X5_deliver (f_X0_clear (sI (f_X2_drop σ q) 5 q 4 ((gI (f_X2_drop σ q) 5 q 4) + 1)) k) (nI k) q q37_2 (gI σ 5 q 5)) q37_2 (by first | assumption | omega | decide)) ⟨callB_of 1 hts (gC wC_X5_becomeReady) rfl rfl rfl (hts _ wi_X5) (hts _ wM_X5_129) (by decide +kernel) (by decide), hts _ wN_X5_becomeReady, hts _ wS_X5_becomeReady⟩ hK hH (xo_ok (by decide)).2.2 (Ex_at cs b (f_X5_deliver (f_X0_clear (sI (f_X2_drop σ q) 5 q 4 ((gI (f_X2_drop σ q) 5 q 4) + 1)) k) (nI k) q q37_2 (gI σ 5 q 5)) (by decide)) rfl rfl rfl hl.1 rfl (Nat.le_of_ble_eq_true rfl) dX5_send_74 (by decide)) hS (fun H locs hH hS => ?_)
      exact e_vret hx hb hr hlk hK hH hS dX5_send_77 (congrArg (Ex cs b) (by simp only [f_X5_send, if_pos c_8_1, hq_37_2, oC_some]))
  ·
    refine lv_aload_n hx hb dX5_send_11 rfl (lv_at hl 1 rfl) ?_
    refine lv_iconst (v := 5) hx hb dX5_send_12 (by decide) ?_
    refine fpX5_80 hx hb hts hown hK hH hS q (show q < 8 by first | assumption | omega) dX5_send_13 (fun H locs hH hS => ?_)
    exact e_vret hx hb hr hlk hK hH hS dX5_send_16 (congrArg (Ex cs b) (by simp only [f_X5_send, if_neg c_8_1]))
def f_X5_sendN (σ : St) (q : Nat) : St := sI σ 5 q 2 5
set_option maxRecDepth 100000 in
set_option maxHeartbeats 4000000 in
theorem k_X5_sendN (l : Launch) (D : va_G) (cs : Nat → ClassId) (b : Nat) (σ : St) (q : Nat) (hq : q < 8) : Met l yX5_send (Cond.code yX5_send cX5_send 5 (none : Option FieldType) :: T0) { frames := 0, cells := 0, slots := 0, locals := 0 } (Pe D (tyx cs) b 43 (Ex cs b σ) [.ref (b + xo 0 0), .ref (b + xo 5 q), .null]) (Qv D (tyx cs) b 43 (Ex cs b (f_X5_sendN σ q))) 0 0 (fun a => b ≤ a) := by
  refine e_met (by decide) rfl (Nat.le_of_ble_eq_true rfl) (fun pg e s m below meth c ls hx hb hr hml hts0 hown hlk hnm hH hK hl hS => ?_)
  have hts : ∀ w ∈ T0, w.before _ s = true := fun w h => hts0 w (List.mem_cons_of_mem _ h)
  have hl : lv_has ls 5 [(0, .ref (b + xo 0 0)), (1, .ref (b + xo 5 q)), (2, .null)] := hl
  refine lv_aload_nN hx hb dX5_send_0 rfl (lv_at hl 2 rfl) ?_
  refine lv_ifnullN (tgt := 11) hx hb dX5_send_1 (by decide) ?_
  refine lv_aload_n hx hb dX5_send_11 rfl (lv_at hl 1 rfl) ?_
  refine lv_iconst (v := 5) hx hb dX5_send_12 (by decide) ?_
  refine fpX5_80 hx hb hts hown hK hH hS q (show q < 8 by first | assumption | omega) dX5_send_13 (fun H locs hH hS => ?_)
  exact e_vret hx hb hr hlk hK hH hS dX5_send_16 (congrArg (Ex cs b) (by simp only [f_X5_sendN]))
def f_X5_receive (σ : St) (q : Nat) (k : Nat) : St := (if f_X0_hasReceiver σ k = 0 then (oC (gR (sI σ 5 q 4 ((gI σ 5 q 4) + 1)) 8 k 1) (f_X0_hold (sI σ 5 q 4 ((gI σ 5 q 4) + 1)) k q 0 0) (fun q28_2 => f_X5_becomeReady (f_X5_deliver (f_X0_clear (sI σ 5 q 4 ((gI σ 5 q 4) + 1)) k) (nI k) q28_2 q (gI (sI σ 5 q 4 ((gI σ 5 q 4) + 1)) 8 k 3)) q28_2)) else sI σ 5 q 2 5)
set_option maxRecDepth 100000 in
set_option maxHeartbeats 4000000 in
theorem k_X5_receive (l : Launch) (D : va_G) (cs : Nat → ClassId) (b : Nat) (σ : St) (q : Nat) (k : Nat) (hq : q < 8) (hk : k < 4) (hwt : ∀ p, gR σ 8 k 1 = some p → p < 8) : Met l yX5_receive (Cond.code yX5_receive cX5_receive 5 (none : Option FieldType) :: T0) { frames := 3, cells := 0, slots := 0, locals := 70 } (Pe D (tyx cs) b 43 (Ex cs b σ) [.ref (b + xo 0 0), .ref (b + xo 5 q), .ref (b + xo 8 k)]) (Qv D (tyx cs) b 43 (Ex cs b (f_X5_receive σ q k))) 0 0 (fun a => b ≤ a) := by
  refine e_met (by decide) rfl (Nat.le_of_ble_eq_true rfl) (fun pg e s m below meth c ls hx hb hr hml hts0 hown hlk hnm hH hK hl hS => ?_)
  have hts : ∀ w ∈ T0, w.before _ s = true := fun w h => hts0 w (List.mem_cons_of_mem _ h)
  have hl : lv_has ls 5 [(0, .ref (b + xo 0 0)), (1, .ref (b + xo 5 q)), (2, .ref (b + xo 8 k))] := hl
  refine lv_aload_n hx hb dX5_receive_0 rfl (lv_at hl 2 rfl) ?_
  refine lv_ifnull hx hb dX5_receive_1 ?_
  refine lv_aload_n hx hb dX5_receive_4 rfl (lv_at hl 2 rfl) ?_
  refine e_ci (e_runV (C := RX0) (ci := 0) (As := []) (rest := []) ⟨hx, hb, hml, hown, hts⟩ (k_X0_hasReceiver l D cs b σ k (by first | assumption | omega | decide)) ⟨callB_of 0 hts (gC wC_X0_hasReceiver) rfl rfl rfl (hts _ wi_X0) (hts _ wM_X5_234) (by decide +kernel) (by decide), hts _ wN_X0_hasReceiver, hts _ wS_X0_hasReceiver⟩ hK hH (xo_ok (show k < xn 8 by first | assumption | (show k < 4; first | assumption | omega))).2.2 (Ex_at cs b σ (show k < xn 8 by first | assumption | (show k < 4; first | assumption | omega))) rfl rfl rfl hl.1 rfl (Nat.le_of_ble_eq_true rfl) dX5_receive_5 (by decide)) hS (fun H locs hH hS => ?_)
  refine lv_if_eq (tgt := 17) hx hb dX5_receive_8 (by decide) (fun c_8_1 => ?_) (fun c_8_1 => ?_)
  ·
    refine lv_aload_n hx hb dX5_receive_17 rfl (lv_at hl 1 rfl) ?_
    refine lv_dup hx hb dX5_receive_18 rfl ?_
    refine fgX5_167 hx hb hts hown hK hH q (show q < 8 by first | assumption | omega) dX5_receive_19 ?_
    refine lv_iconst (v := 1) hx hb dX5_receive_22 (by decide) ?_
    refine lv_iadd hx hb dX5_receive_23 ?_
    refine fpX5_167 hx hb hts hown hK hH hS q (show q < 8 by first | assumption | omega) dX5_receive_24 (fun H locs hH hS => ?_)
    refine lv_aload_n hx hb dX5_receive_27 rfl (lv_at hl 2 rfl) ?_
    refine fgX5_222 hx hb hts hown hK hH k (show k < 4 by first | assumption | omega) _ rfl dX5_receive_28 ?_
    rcases hq_28_2 : gR (sI σ 5 q 4 ((gI σ 5 q 4) + 1)) 8 k 1 with _ | q28_2
    ·
      refine W.eq (g2 := F0 m 31 ls [.null]) rfl ?_
      refine lv_astore_nN (lv' := [(3, .null), (0, .ref (b + xo 0 0)), (1, .ref (b + xo 5 q)), (2, .ref (b + xo 8 k))]) hx hb dX5_receive_31 rfl hl (by decide) rfl (fun ls hl => ?_)
      refine lv_aload_nN hx hb dX5_receive_32 rfl (lv_at hl 0 rfl) ?_
      refine lv_ifnonnullN hx hb dX5_receive_33 ?_
      refine lv_aload_n hx hb dX5_receive_36 rfl (lv_at hl 3 rfl) ?_
      refine lv_aload_n hx hb dX5_receive_37 rfl (lv_at hl 2 rfl) ?_
      refine lv_iconst (v := 0) hx hb dX5_receive_38 (by decide) ?_
      refine lv_iconst (v := 0) hx hb dX5_receive_39 (by decide) ?_
      refine e_cv (e_runV (C := RX0) (ci := 0) (As := [.ref (b + xo 5 q), .int (0), .int (0)]) (rest := []) ⟨hx, hb, hml, hown, hts⟩ (k_X0_hold l D cs b (sI σ 5 q 4 ((gI σ 5 q 4) + 1)) k q 0 0 (by first | assumption | omega | decide) (by first | assumption | omega | decide) (by first | assumption | omega | decide)) ⟨callB_of 3 hts (gC wC_X0_hold) rfl rfl rfl (hts _ wi_X0) (hts _ wM_X5_225) (by decide +kernel) (by decide), hts _ wN_X0_hold, hts _ wS_X0_hold⟩ hK hH (xo_ok (show k < xn 8 by first | assumption | (show k < 4; first | assumption | omega))).2.2 (Ex_at cs b (sI σ 5 q 4 ((gI σ 5 q 4) + 1)) (show k < xn 8 by first | assumption | (show k < 4; first | assumption | omega))) rfl rfl rfl hl.1 rfl (Nat.le_of_ble_eq_true rfl) dX5_receive_40 (by decide)) hS (fun H locs hH hS => ?_)
      exact e_vret hx hb hr hlk hK hH hS dX5_receive_43 (congrArg (Ex cs b) (by simp only [f_X5_receive, if_pos c_8_1, hq_28_2, oC_none]))
    ·
      have q28_2b : q28_2 < 8 := hwt _ hq_28_2
      refine W.eq (g2 := F0 m 31 ls [.ref (b + xo 5 q28_2)]) rfl ?_
      refine lv_astore_n (lv' := [(3, .ref (b + xo 5 q28_2)), (0, .ref (b + xo 0 0)), (1, .ref (b + xo 5 q)), (2, .ref (b + xo 8 k))]) hx hb dX5_receive_31 rfl hl (by decide) rfl (fun ls hl => ?_)
      refine lv_aload_n hx hb dX5_receive_32 rfl (lv_at hl 0 rfl) ?_
      refine lv_ifnonnull (tgt := 44) hx hb dX5_receive_33 (by decide) ?_
      refine lv_aload_n hx hb dX5_receive_44 rfl (lv_at hl 3 rfl) ?_
      refine fgX5_237 hx hb hts hown hK hH k (show k < 4 by first | assumption | omega) dX5_receive_45 ?_
      refine lv_istore (lv' := [(4, .int (gI (sI σ 5 q 4 ((gI σ 5 q 4) + 1)) 8 k 3)), (3, .ref (b + xo 5 q28_2)), (0, .ref (b + xo 0 0)), (1, .ref (b + xo 5 q)), (2, .ref (b + xo 8 k))]) hx hb dX5_receive_48 hl (by decide) rfl (fun ls hl => ?_)
      refine lv_aload_n hx hb dX5_receive_50 rfl (lv_at hl 4 rfl) ?_
      refine e_cv (e_runV (C := RX0) (ci := 0) (As := []) (rest := []) ⟨hx, hb, hml, hown, hts⟩ (k_X0_clear l D cs b (sI σ 5 q 4 ((gI σ 5 q 4) + 1)) k (by first | assumption | omega | decide)) ⟨callB_of 0 hts (gC wC_X0_clear) rfl rfl rfl (hts _ wi_X0) (hts _ wM_X5_83) (by decide +kernel) (by decide), hts _ wN_X0_clear, hts _ wS_X0_clear⟩ hK hH (xo_ok (show k < xn 8 by first | assumption | (show k < 4; first | assumption | omega))).2.2 (Ex_at cs b (sI σ 5 q 4 ((gI σ 5 q 4) + 1)) (show k < xn 8 by first | assumption | (show k < 4; first | assumption | omega))) rfl rfl rfl hl.1 rfl (Nat.le_of_ble_eq_true rfl) dX5_receive_51 (by decide)) hS (fun H locs hH hS => ?_)
      refine lv_aload_n hx hb dX5_receive_54 rfl (lv_at hl 2 rfl) ?_
      refine lv_aload_n hx hb dX5_receive_55 rfl (lv_at hl 4 rfl) ?_
      refine fgX5_229 hx hb hts hown hK hH k (show k < 4 by first | assumption | omega) dX5_receive_56 ?_
      refine lv_aload_n hx hb dX5_receive_59 rfl (lv_at hl 1 rfl) ?_
      refine lv_aload_n hx hb dX5_receive_60 rfl (lv_at hl 3 rfl) ?_
      refine lv_iload hx hb dX5_receive_61 (lv_at hl 0 rfl) ?_
      refine e_cv (e_runV (C := RX5) (ci := 5) (As := [.int (nI k), .ref (b + xo 5 q28_2), .ref (b + xo 5 q), .int (gI (sI σ 5 q 4 ((gI σ 5 q 4) + 1)) 8 k 3)]) (rest := []) ⟨hx, hb, hml, hown, hts⟩ (k_X5_deliver l D cs b (f_X0_clear (sI σ 5 q 4 ((gI σ 5 q 4) + 1)) k) (nI k) q28_2 q (gI (sI σ 5 q 4 ((gI σ 5 q 4) + 1)) 8 k 3) (by first | assumption | omega | decide) (by first | assumption | omega | decide)) ⟨callB_of 4 hts (gC wC_X5_deliver) rfl rfl rfl (hts _ wi_X5) (hts _ wM_X5_230) (by decide +kernel) (by decide), hts _ wN_X5_deliver, hts _ wS_X5_deliver⟩ hK hH (xo_ok (by decide)).2.2 (Ex_at cs b (f_X0_clear (sI σ 5 q 4 ((gI σ 5 q 4) + 1)) k) (by decide)) rfl rfl rfl hl.1 rfl (Nat.le_of_ble_eq_true rfl) dX5_receive_63 (by decide)) hS (fun H locs hH hS => ?_)
      refine lv_aload_n hx hb dX5_receive_66 rfl (lv_at hl 2 rfl) ?_
      refine lv_aload_n hx hb dX5_receive_67 rfl (lv_at hl 1 rfl) ?_
      refine e_cv (e_runV (C := RX5) (ci := 5) (As := [.ref (b + xo 5 q28_2)]) (rest := []) ⟨hx, hb, hml, hown, hts⟩ (k_X5_becomeReady l D cs b (f_X5_deliver (f_X0_clear (sI σ 5 q 4 ((gI σ 5 q 4) + 1)) k) (nI k) q28_2 q (gI (sI σ 5 q 4 ((gI σ 5 q 4) + 1)) 8 k 3)) q28_2 (by first | assumption | omega | decide)) ⟨callB_of 1 hts (gC wC_X5_becomeReady) rfl rfl rfl (hts _ wi_X5) (hts _ wM_X5_129) (by decide +kernel) (by decide), hts _ wN_X5_becomeReady, hts _ wS_X5_becomeReady⟩ hK hH (xo_ok (by decide)).2.2 (Ex_at cs b (f_X5_deliver (f_X0_clear (sI σ 5 q 4 ((gI σ 5 q 4) + 1)) k) (nI k) q28_2 q (gI (sI σ 5 q 4 ((gI σ 5 q 4) + 1)) 8 k 3)) (by decide)) rfl rfl rfl hl.1 rfl (Nat.le_of_ble_eq_true rfl) dX5_receive_68 (by decide)) hS (fun H locs hH hS => ?_)
      exact e_vret hx hb hr hlk hK hH hS dX5_receive_71 (congrArg (Ex cs b) (by simp only [f_X5_receive, if_pos c_8_1, hq_28_2, oC_some]))
  ·
    refine lv_aload_n hx hb dX5_receive_11 rfl (lv_at hl 1 rfl) ?_
    refine lv_iconst (v := 5) hx hb dX5_receive_12 (by decide) ?_
    refine fpX5_80 hx hb hts hown hK hH hS q (show q < 8 by first | assumption | omega) dX5_receive_13 (fun H locs hH hS => ?_)
    exact e_vret hx hb hr hlk hK hH hS dX5_receive_16 (congrArg (Ex cs b) (by simp only [f_X5_receive, if_neg c_8_1]))
def f_X5_receiveN (σ : St) (q : Nat) : St := sI σ 5 q 2 5
set_option maxRecDepth 100000 in
set_option maxHeartbeats 4000000 in
theorem k_X5_receiveN (l : Launch) (D : va_G) (cs : Nat → ClassId) (b : Nat) (σ : St) (q : Nat) (hq : q < 8) : Met l yX5_receive (Cond.code yX5_receive cX5_receive 5 (none : Option FieldType) :: T0) { frames := 0, cells := 0, slots := 0, locals := 0 } (Pe D (tyx cs) b 43 (Ex cs b σ) [.ref (b + xo 0 0), .ref (b + xo 5 q), .null]) (Qv D (tyx cs) b 43 (Ex cs b (f_X5_receiveN σ q))) 0 0 (fun a => b ≤ a) := by
  refine e_met (by decide) rfl (Nat.le_of_ble_eq_true rfl) (fun pg e s m below meth c ls hx hb hr hml hts0 hown hlk hnm hH hK hl hS => ?_)
  have hts : ∀ w ∈ T0, w.before _ s = true := fun w h => hts0 w (List.mem_cons_of_mem _ h)
  have hl : lv_has ls 5 [(0, .ref (b + xo 0 0)), (1, .ref (b + xo 5 q)), (2, .null)] := hl
  refine lv_aload_nN hx hb dX5_receive_0 rfl (lv_at hl 2 rfl) ?_
  refine lv_ifnullN (tgt := 11) hx hb dX5_receive_1 (by decide) ?_
  refine lv_aload_n hx hb dX5_receive_11 rfl (lv_at hl 1 rfl) ?_
  refine lv_iconst (v := 5) hx hb dX5_receive_12 (by decide) ?_
  refine fpX5_80 hx hb hts hown hK hH hS q (show q < 8 by first | assumption | omega) dX5_receive_13 (fun H locs hH hS => ?_)
  exact e_vret hx hb hr hlk hK hH hS dX5_receive_16 (congrArg (Ex cs b) (by simp only [f_X5_receiveN]))
def f_X5_compute (σ : St) (q : Nat) (x : Int32) (y : Int32) : St := (if x = 1 then f_X2_put σ q y else (if x = 2 then f_X2_put σ q (f_X2_word σ q y) else (if x = 3 then f_X2_drop (f_X2_setWord σ q y (gI σ 5 q 5)) q else (if x = 4 then f_X2_replaceTwo σ q ((gI σ 5 q 6) + (gI σ 5 q 5)) else (if x = 5 then f_X2_replaceTwo σ q ((gI σ 5 q 6) - (gI σ 5 q 5)) else (if x = 6 then f_X2_replaceTwo σ q ((gI σ 5 q 6) * (gI σ 5 q 5)) else (if x = 7 then (if gI σ 5 q 6 ≤ gI σ 5 q 5 then f_X2_replaceTwo σ q 0 else f_X2_replaceTwo σ q 1) else (if x = 8 then σ else (if x = 9 then σ else (if x = 10 then σ else (if x = 11 then σ else (if x = 12 then f_X2_put σ q (gI σ 0 0 7) else σ))))))))))))
set_option maxRecDepth 100000 in
set_option maxHeartbeats 4000000 in
theorem k_X5_compute (l : Launch) (D : va_G) (cs : Nat → ClassId) (b : Nat) (σ : St) (q : Nat) (x : Int32) (y : Int32) (hq : q < 8) : Met l yX5_compute (Cond.code yX5_compute cX5_compute 4 (none : Option FieldType) :: T0) { frames := 1, cells := 0, slots := 0, locals := 22 } (Pe D (tyx cs) b 43 (Ex cs b σ) [.ref (b + xo 0 0), .ref (b + xo 5 q), .int (x), .int (y)]) (Qv D (tyx cs) b 43 (Ex cs b (f_X5_compute σ q x y))) 0 0 (fun a => b ≤ a) := by
  refine e_met (by decide) rfl (Nat.le_of_ble_eq_true rfl) (fun pg e s m below meth c ls hx hb hr hml hts0 hown hlk hnm hH hK hl hS => ?_)
  have hts : ∀ w ∈ T0, w.before _ s = true := fun w h => hts0 w (List.mem_cons_of_mem _ h)
  have hl : lv_has ls 4 [(0, .ref (b + xo 0 0)), (1, .ref (b + xo 5 q)), (2, .int (x)), (3, .int (y))] := hl
  refine lv_iload_n hx hb dX5_compute_0 rfl (lv_at hl 2 rfl) ?_
  by_cases c_1_1 : x = 1
  ·
    refine lv_tableIn (off := 63) (tgt := 64) hx hb dX5_compute_1 (by rw [c_1_1]; decide) (by rw [c_1_1]; decide) (by rw [c_1_1]; rfl) (by decide) ?_
    refine lv_aload_n hx hb dX5_compute_64 rfl (lv_at hl 1 rfl) ?_
    refine lv_iload_n hx hb dX5_compute_65 rfl (lv_at hl 3 rfl) ?_
    refine e_cv (e_runV (C := RX2) (ci := 2) (As := [.int (y)]) (rest := []) ⟨hx, hb, hml, hown, hts⟩ (k_X2_put l D cs b σ q y (by first | assumption | omega | decide)) ⟨callB_of 1 hts (gC wC_X2_put) rfl rfl rfl (hts _ wi_X2) (hts _ wM_X5_196) (by decide +kernel) (by decide), hts _ wN_X2_put, hts _ wS_X2_put⟩ hK hH (xo_ok (show q < xn 5 by first | assumption | (show q < 8; first | assumption | omega))).2.2 (Ex_at cs b σ (show q < xn 5 by first | assumption | (show q < 8; first | assumption | omega))) rfl rfl rfl hl.1 rfl (Nat.le_of_ble_eq_true rfl) dX5_compute_66 (by decide)) hS (fun H locs hH hS => ?_)
    refine lv_goto (tgt := 182) hx hb dX5_compute_69 (by decide) ?_
    exact e_vret hx hb hr hlk hK hH hS dX5_compute_182 (congrArg (Ex cs b) (by simp only [f_X5_compute, if_pos c_1_1]))
  by_cases c_1_2 : x = 2
  ·
    refine lv_tableIn (off := 71) (tgt := 72) hx hb dX5_compute_1 (by rw [c_1_2]; decide) (by rw [c_1_2]; decide) (by rw [c_1_2]; rfl) (by decide) ?_
    refine lv_aload_n hx hb dX5_compute_72 rfl (lv_at hl 1 rfl) ?_
    refine lv_aload_n hx hb dX5_compute_73 rfl (lv_at hl 1 rfl) ?_
    refine lv_iload_n hx hb dX5_compute_74 rfl (lv_at hl 3 rfl) ?_
    refine e_ci (e_runV (C := RX2) (ci := 2) (As := [.int (y)]) (rest := [.ref (b + xo 5 q)]) ⟨hx, hb, hml, hown, hts⟩ (k_X2_word l D cs b σ q y (by first | assumption | omega | decide)) ⟨callB_of 1 hts (gC wC_X2_word) rfl rfl rfl (hts _ wi_X2) (hts _ wM_X5_203) (by decide +kernel) (by decide), hts _ wN_X2_word, hts _ wS_X2_word⟩ hK hH (xo_ok (show q < xn 5 by first | assumption | (show q < 8; first | assumption | omega))).2.2 (Ex_at cs b σ (show q < xn 5 by first | assumption | (show q < 8; first | assumption | omega))) rfl rfl rfl hl.1 rfl (Nat.le_of_ble_eq_true rfl) dX5_compute_75 (by decide)) hS (fun H locs hH hS => ?_)
    refine e_cv (e_runV (C := RX2) (ci := 2) (As := [.int (f_X2_word σ q y)]) (rest := []) ⟨hx, hb, hml, hown, hts⟩ (k_X2_put l D cs b σ q (f_X2_word σ q y) (by first | assumption | omega | decide)) ⟨callB_of 1 hts (gC wC_X2_put) rfl rfl rfl (hts _ wi_X2) (hts _ wM_X5_196) (by decide +kernel) (by decide), hts _ wN_X2_put, hts _ wS_X2_put⟩ hK hH (xo_ok (show q < xn 5 by first | assumption | (show q < 8; first | assumption | omega))).2.2 (Ex_at cs b σ (show q < xn 5 by first | assumption | (show q < 8; first | assumption | omega))) rfl rfl rfl hl.1 rfl (Nat.le_of_ble_eq_true rfl) dX5_compute_78 (by decide)) hS (fun H locs hH hS => ?_)
    refine lv_goto (tgt := 182) hx hb dX5_compute_81 (by decide) ?_
    exact e_vret hx hb hr hlk hK hH hS dX5_compute_182 (congrArg (Ex cs b) (by simp only [f_X5_compute, if_neg c_1_1, if_pos c_1_2]))
  by_cases c_1_3 : x = 3
  ·
    refine lv_tableIn (off := 83) (tgt := 84) hx hb dX5_compute_1 (by rw [c_1_3]; decide) (by rw [c_1_3]; decide) (by rw [c_1_3]; rfl) (by decide) ?_
    refine lv_aload_n hx hb dX5_compute_84 rfl (lv_at hl 1 rfl) ?_
    refine lv_iload_n hx hb dX5_compute_85 rfl (lv_at hl 3 rfl) ?_
    refine lv_aload_n hx hb dX5_compute_86 rfl (lv_at hl 1 rfl) ?_
    refine fgX5_193 hx hb hts hown hK hH q (show q < 8 by first | assumption | omega) dX5_compute_87 ?_
    refine e_cv (e_runV (C := RX2) (ci := 2) (As := [.int (y), .int (gI σ 5 q 5)]) (rest := []) ⟨hx, hb, hml, hown, hts⟩ (k_X2_setWord l D cs b σ q y (gI σ 5 q 5) (by first | assumption | omega | decide)) ⟨callB_of 2 hts (gC wC_X2_setWord) rfl rfl rfl (hts _ wi_X2) (hts _ wM_X5_206) (by decide +kernel) (by decide), hts _ wN_X2_setWord, hts _ wS_X2_setWord⟩ hK hH (xo_ok (show q < xn 5 by first | assumption | (show q < 8; first | assumption | omega))).2.2 (Ex_at cs b σ (show q < xn 5 by first | assumption | (show q < 8; first | assumption | omega))) rfl rfl rfl hl.1 rfl (Nat.le_of_ble_eq_true rfl) dX5_compute_90 (by decide)) hS (fun H locs hH hS => ?_)
    refine lv_aload_n hx hb dX5_compute_93 rfl (lv_at hl 1 rfl) ?_
    refine e_cv (e_runV (C := RX2) (ci := 2) (As := []) (rest := []) ⟨hx, hb, hml, hown, hts⟩ (k_X2_drop l D cs b (f_X2_setWord σ q y (gI σ 5 q 5)) q (by first | assumption | omega | decide)) ⟨callB_of 0 hts (gC wC_X2_drop) rfl rfl rfl (hts _ wi_X2) (hts _ wM_X5_210) (by decide +kernel) (by decide), hts _ wN_X2_drop, hts _ wS_X2_drop⟩ hK hH (xo_ok (show q < xn 5 by first | assumption | (show q < 8; first | assumption | omega))).2.2 (Ex_at cs b (f_X2_setWord σ q y (gI σ 5 q 5)) (show q < xn 5 by first | assumption | (show q < 8; first | assumption | omega))) rfl rfl rfl hl.1 rfl (Nat.le_of_ble_eq_true rfl) dX5_compute_94 (by decide)) hS (fun H locs hH hS => ?_)
    refine lv_goto (tgt := 182) hx hb dX5_compute_97 (by decide) ?_
    exact e_vret hx hb hr hlk hK hH hS dX5_compute_182 (congrArg (Ex cs b) (by simp only [f_X5_compute, if_neg c_1_1, if_neg c_1_2, if_pos c_1_3]))
  by_cases c_1_4 : x = 4
  ·
    refine lv_tableIn (off := 99) (tgt := 100) hx hb dX5_compute_1 (by rw [c_1_4]; decide) (by rw [c_1_4]; decide) (by rw [c_1_4]; rfl) (by decide) ?_
    refine lv_aload_n hx hb dX5_compute_100 rfl (lv_at hl 1 rfl) ?_
    refine lv_aload_n hx hb dX5_compute_101 rfl (lv_at hl 1 rfl) ?_
    refine fgX5_213 hx hb hts hown hK hH q (show q < 8 by first | assumption | omega) dX5_compute_102 ?_
    refine lv_aload_n hx hb dX5_compute_105 rfl (lv_at hl 1 rfl) ?_
    refine fgX5_193 hx hb hts hown hK hH q (show q < 8 by first | assumption | omega) dX5_compute_106 ?_
    refine lv_iadd hx hb dX5_compute_109 ?_
    refine e_cv (e_runV (C := RX2) (ci := 2) (As := [.int ((gI σ 5 q 6) + (gI σ 5 q 5))]) (rest := []) ⟨hx, hb, hml, hown, hts⟩ (k_X2_replaceTwo l D cs b σ q ((gI σ 5 q 6) + (gI σ 5 q 5)) (by first | assumption | omega | decide)) ⟨callB_of 1 hts (gC wC_X2_replaceTwo) rfl rfl rfl (hts _ wi_X2) (hts _ wM_X5_216) (by decide +kernel) (by decide), hts _ wN_X2_replaceTwo, hts _ wS_X2_replaceTwo⟩ hK hH (xo_ok (show q < xn 5 by first | assumption | (show q < 8; first | assumption | omega))).2.2 (Ex_at cs b σ (show q < xn 5 by first | assumption | (show q < 8; first | assumption | omega))) rfl rfl rfl hl.1 rfl (Nat.le_of_ble_eq_true rfl) dX5_compute_110 (by decide)) hS (fun H locs hH hS => ?_)
    refine lv_goto (tgt := 182) hx hb dX5_compute_113 (by decide) ?_
    exact e_vret hx hb hr hlk hK hH hS dX5_compute_182 (congrArg (Ex cs b) (by simp only [f_X5_compute, if_neg c_1_1, if_neg c_1_2, if_neg c_1_3, if_pos c_1_4]))
  by_cases c_1_5 : x = 5
  ·
    refine lv_tableIn (off := 115) (tgt := 116) hx hb dX5_compute_1 (by rw [c_1_5]; decide) (by rw [c_1_5]; decide) (by rw [c_1_5]; rfl) (by decide) ?_
    refine lv_aload_n hx hb dX5_compute_116 rfl (lv_at hl 1 rfl) ?_
    refine lv_aload_n hx hb dX5_compute_117 rfl (lv_at hl 1 rfl) ?_
    refine fgX5_213 hx hb hts hown hK hH q (show q < 8 by first | assumption | omega) dX5_compute_118 ?_
    refine lv_aload_n hx hb dX5_compute_121 rfl (lv_at hl 1 rfl) ?_
    refine fgX5_193 hx hb hts hown hK hH q (show q < 8 by first | assumption | omega) dX5_compute_122 ?_
    refine lv_isub hx hb dX5_compute_125 ?_
    refine e_cv (e_runV (C := RX2) (ci := 2) (As := [.int ((gI σ 5 q 6) - (gI σ 5 q 5))]) (rest := []) ⟨hx, hb, hml, hown, hts⟩ (k_X2_replaceTwo l D cs b σ q ((gI σ 5 q 6) - (gI σ 5 q 5)) (by first | assumption | omega | decide)) ⟨callB_of 1 hts (gC wC_X2_replaceTwo) rfl rfl rfl (hts _ wi_X2) (hts _ wM_X5_216) (by decide +kernel) (by decide), hts _ wN_X2_replaceTwo, hts _ wS_X2_replaceTwo⟩ hK hH (xo_ok (show q < xn 5 by first | assumption | (show q < 8; first | assumption | omega))).2.2 (Ex_at cs b σ (show q < xn 5 by first | assumption | (show q < 8; first | assumption | omega))) rfl rfl rfl hl.1 rfl (Nat.le_of_ble_eq_true rfl) dX5_compute_126 (by decide)) hS (fun H locs hH hS => ?_)
    refine lv_goto (tgt := 182) hx hb dX5_compute_129 (by decide) ?_
    exact e_vret hx hb hr hlk hK hH hS dX5_compute_182 (congrArg (Ex cs b) (by simp only [f_X5_compute, if_neg c_1_1, if_neg c_1_2, if_neg c_1_3, if_neg c_1_4, if_pos c_1_5]))
  by_cases c_1_6 : x = 6
  ·
    refine lv_tableIn (off := 131) (tgt := 132) hx hb dX5_compute_1 (by rw [c_1_6]; decide) (by rw [c_1_6]; decide) (by rw [c_1_6]; rfl) (by decide) ?_
    refine lv_aload_n hx hb dX5_compute_132 rfl (lv_at hl 1 rfl) ?_
    refine lv_aload_n hx hb dX5_compute_133 rfl (lv_at hl 1 rfl) ?_
    refine fgX5_213 hx hb hts hown hK hH q (show q < 8 by first | assumption | omega) dX5_compute_134 ?_
    refine lv_aload_n hx hb dX5_compute_137 rfl (lv_at hl 1 rfl) ?_
    refine fgX5_193 hx hb hts hown hK hH q (show q < 8 by first | assumption | omega) dX5_compute_138 ?_
    refine lv_imul hx hb dX5_compute_141 ?_
    refine e_cv (e_runV (C := RX2) (ci := 2) (As := [.int ((gI σ 5 q 6) * (gI σ 5 q 5))]) (rest := []) ⟨hx, hb, hml, hown, hts⟩ (k_X2_replaceTwo l D cs b σ q ((gI σ 5 q 6) * (gI σ 5 q 5)) (by first | assumption | omega | decide)) ⟨callB_of 1 hts (gC wC_X2_replaceTwo) rfl rfl rfl (hts _ wi_X2) (hts _ wM_X5_216) (by decide +kernel) (by decide), hts _ wN_X2_replaceTwo, hts _ wS_X2_replaceTwo⟩ hK hH (xo_ok (show q < xn 5 by first | assumption | (show q < 8; first | assumption | omega))).2.2 (Ex_at cs b σ (show q < xn 5 by first | assumption | (show q < 8; first | assumption | omega))) rfl rfl rfl hl.1 rfl (Nat.le_of_ble_eq_true rfl) dX5_compute_142 (by decide)) hS (fun H locs hH hS => ?_)
    refine lv_goto (tgt := 182) hx hb dX5_compute_145 (by decide) ?_
    exact e_vret hx hb hr hlk hK hH hS dX5_compute_182 (congrArg (Ex cs b) (by simp only [f_X5_compute, if_neg c_1_1, if_neg c_1_2, if_neg c_1_3, if_neg c_1_4, if_neg c_1_5, if_pos c_1_6]))
  by_cases c_1_7 : x = 7
  ·
    refine lv_tableIn (off := 147) (tgt := 148) hx hb dX5_compute_1 (by rw [c_1_7]; decide) (by rw [c_1_7]; decide) (by rw [c_1_7]; rfl) (by decide) ?_
    refine lv_aload_n hx hb dX5_compute_148 rfl (lv_at hl 1 rfl) ?_
    refine lv_aload_n hx hb dX5_compute_149 rfl (lv_at hl 1 rfl) ?_
    refine fgX5_213 hx hb hts hown hK hH q (show q < 8 by first | assumption | omega) dX5_compute_150 ?_
    refine lv_aload_n hx hb dX5_compute_153 rfl (lv_at hl 1 rfl) ?_
    refine fgX5_193 hx hb hts hown hK hH q (show q < 8 by first | assumption | omega) dX5_compute_154 ?_
    refine lv_icmp_le (tgt := 164) hx hb dX5_compute_157 (by decide) (fun c_157_8 => ?_) (fun c_157_8 => ?_)
    ·
      refine lv_iconst (v := 0) hx hb dX5_compute_164 (by decide) ?_
      refine e_cv (e_runV (C := RX2) (ci := 2) (As := [.int (0)]) (rest := []) ⟨hx, hb, hml, hown, hts⟩ (k_X2_replaceTwo l D cs b σ q 0 (by first | assumption | omega | decide)) ⟨callB_of 1 hts (gC wC_X2_replaceTwo) rfl rfl rfl (hts _ wi_X2) (hts _ wM_X5_216) (by decide +kernel) (by decide), hts _ wN_X2_replaceTwo, hts _ wS_X2_replaceTwo⟩ hK hH (xo_ok (show q < xn 5 by first | assumption | (show q < 8; first | assumption | omega))).2.2 (Ex_at cs b σ (show q < xn 5 by first | assumption | (show q < 8; first | assumption | omega))) rfl rfl rfl hl.1 rfl (Nat.le_of_ble_eq_true rfl) dX5_compute_165 (by decide)) hS (fun H locs hH hS => ?_)
      refine lv_goto (tgt := 182) hx hb dX5_compute_168 (by decide) ?_
      exact e_vret hx hb hr hlk hK hH hS dX5_compute_182 (congrArg (Ex cs b) (by simp only [f_X5_compute, if_neg c_1_1, if_neg c_1_2, if_neg c_1_3, if_neg c_1_4, if_neg c_1_5, if_neg c_1_6, if_pos c_1_7, if_pos c_157_8]))
    ·
      refine lv_iconst (v := 1) hx hb dX5_compute_160 (by decide) ?_
      refine lv_goto (tgt := 165) hx hb dX5_compute_161 (by decide) ?_
      refine e_cv (e_runV (C := RX2) (ci := 2) (As := [.int (1)]) (rest := []) ⟨hx, hb, hml, hown, hts⟩ (k_X2_replaceTwo l D cs b σ q 1 (by first | assumption | omega | decide)) ⟨callB_of 1 hts (gC wC_X2_replaceTwo) rfl rfl rfl (hts _ wi_X2) (hts _ wM_X5_216) (by decide +kernel) (by decide), hts _ wN_X2_replaceTwo, hts _ wS_X2_replaceTwo⟩ hK hH (xo_ok (show q < xn 5 by first | assumption | (show q < 8; first | assumption | omega))).2.2 (Ex_at cs b σ (show q < xn 5 by first | assumption | (show q < 8; first | assumption | omega))) rfl rfl rfl hl.1 rfl (Nat.le_of_ble_eq_true rfl) dX5_compute_165 (by decide)) hS (fun H locs hH hS => ?_)
      refine lv_goto (tgt := 182) hx hb dX5_compute_168 (by decide) ?_
      exact e_vret hx hb hr hlk hK hH hS dX5_compute_182 (congrArg (Ex cs b) (by simp only [f_X5_compute, if_neg c_1_1, if_neg c_1_2, if_neg c_1_3, if_neg c_1_4, if_neg c_1_5, if_neg c_1_6, if_pos c_1_7, if_neg c_157_8]))
  by_cases c_1_9 : x = 8
  ·
    refine lv_tableIn (off := 181) (tgt := 182) hx hb dX5_compute_1 (by rw [c_1_9]; decide) (by rw [c_1_9]; decide) (by rw [c_1_9]; rfl) (by decide) ?_
    exact e_vret hx hb hr hlk hK hH hS dX5_compute_182 (congrArg (Ex cs b) (by simp only [f_X5_compute, if_neg c_1_1, if_neg c_1_2, if_neg c_1_3, if_neg c_1_4, if_neg c_1_5, if_neg c_1_6, if_neg c_1_7, if_pos c_1_9]))
  by_cases c_1_10 : x = 9
  ·
    refine lv_tableIn (off := 181) (tgt := 182) hx hb dX5_compute_1 (by rw [c_1_10]; decide) (by rw [c_1_10]; decide) (by rw [c_1_10]; rfl) (by decide) ?_
    exact e_vret hx hb hr hlk hK hH hS dX5_compute_182 (congrArg (Ex cs b) (by simp only [f_X5_compute, if_neg c_1_1, if_neg c_1_2, if_neg c_1_3, if_neg c_1_4, if_neg c_1_5, if_neg c_1_6, if_neg c_1_7, if_neg c_1_9, if_pos c_1_10]))
  by_cases c_1_11 : x = 10
  ·
    refine lv_tableIn (off := 181) (tgt := 182) hx hb dX5_compute_1 (by rw [c_1_11]; decide) (by rw [c_1_11]; decide) (by rw [c_1_11]; rfl) (by decide) ?_
    exact e_vret hx hb hr hlk hK hH hS dX5_compute_182 (congrArg (Ex cs b) (by simp only [f_X5_compute, if_neg c_1_1, if_neg c_1_2, if_neg c_1_3, if_neg c_1_4, if_neg c_1_5, if_neg c_1_6, if_neg c_1_7, if_neg c_1_9, if_neg c_1_10, if_pos c_1_11]))
  by_cases c_1_12 : x = 11
  ·
    refine lv_tableIn (off := 181) (tgt := 182) hx hb dX5_compute_1 (by rw [c_1_12]; decide) (by rw [c_1_12]; decide) (by rw [c_1_12]; rfl) (by decide) ?_
    exact e_vret hx hb hr hlk hK hH hS dX5_compute_182 (congrArg (Ex cs b) (by simp only [f_X5_compute, if_neg c_1_1, if_neg c_1_2, if_neg c_1_3, if_neg c_1_4, if_neg c_1_5, if_neg c_1_6, if_neg c_1_7, if_neg c_1_9, if_neg c_1_10, if_neg c_1_11, if_pos c_1_12]))
  by_cases c_1_13 : x = 12
  ·
    refine lv_tableIn (off := 170) (tgt := 171) hx hb dX5_compute_1 (by rw [c_1_13]; decide) (by rw [c_1_13]; decide) (by rw [c_1_13]; rfl) (by decide) ?_
    refine lv_aload_n hx hb dX5_compute_171 rfl (lv_at hl 1 rfl) ?_
    refine lv_aload_n hx hb dX5_compute_172 rfl (lv_at hl 0 rfl) ?_
    refine fgX5_53 hx hb hts hown hK hH 0 (by decide) dX5_compute_173 ?_
    refine e_cv (e_runV (C := RX2) (ci := 2) (As := [.int (gI σ 0 0 7)]) (rest := []) ⟨hx, hb, hml, hown, hts⟩ (k_X2_put l D cs b σ q (gI σ 0 0 7) (by first | assumption | omega | decide)) ⟨callB_of 1 hts (gC wC_X2_put) rfl rfl rfl (hts _ wi_X2) (hts _ wM_X5_196) (by decide +kernel) (by decide), hts _ wN_X2_put, hts _ wS_X2_put⟩ hK hH (xo_ok (show q < xn 5 by first | assumption | (show q < 8; first | assumption | omega))).2.2 (Ex_at cs b σ (show q < xn 5 by first | assumption | (show q < 8; first | assumption | omega))) rfl rfl rfl hl.1 rfl (Nat.le_of_ble_eq_true rfl) dX5_compute_176 (by decide)) hS (fun H locs hH hS => ?_)
    refine lv_goto (tgt := 182) hx hb dX5_compute_179 (by decide) ?_
    exact e_vret hx hb hr hlk hK hH hS dX5_compute_182 (congrArg (Ex cs b) (by simp only [f_X5_compute, if_neg c_1_1, if_neg c_1_2, if_neg c_1_3, if_neg c_1_4, if_neg c_1_5, if_neg c_1_6, if_neg c_1_7, if_neg c_1_9, if_neg c_1_10, if_neg c_1_11, if_neg c_1_12, if_pos c_1_13]))
  refine lv_tableOut (tgt := 182) hx hb dX5_compute_1 (by have h1 := ne_i 1 c_1_1 (by decide); have h2 := ne_i 2 c_1_2 (by decide); have h3 := ne_i 3 c_1_3 (by decide); have h4 := ne_i 4 c_1_4 (by decide); have h5 := ne_i 5 c_1_5 (by decide); have h6 := ne_i 6 c_1_6 (by decide); have h7 := ne_i 7 c_1_7 (by decide); have h8 := ne_i 8 c_1_9 (by decide); have h9 := ne_i 9 c_1_10 (by decide); have h10 := ne_i 10 c_1_11 (by decide); have h11 := ne_i 11 c_1_12 (by decide); have h12 := ne_i 12 c_1_13 (by decide); omega) (by decide) ?_
  exact e_vret hx hb hr hlk hK hH hS dX5_compute_182 (congrArg (Ex cs b) (by simp only [f_X5_compute, if_neg c_1_1, if_neg c_1_2, if_neg c_1_3, if_neg c_1_4, if_neg c_1_5, if_neg c_1_6, if_neg c_1_7, if_neg c_1_9, if_neg c_1_10, if_neg c_1_11, if_neg c_1_12, if_neg c_1_13]))
