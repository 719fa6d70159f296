theorem ok_step {σ : St} (h : ok σ) : ok (f_X5_step σ).2 := by
  have h1 := ok_giveWay (ok_wake h)
  have h2 := ok_takeNext h1
  unfold f_X5_step
  rcases hq : gR (f_X5_giveWayToHigh (f_X5_wakeThoseWhoseTimeHasCome σ)) 0 0 6 with _ | q
  · rw [oC_none]
    rcases hp : gR (f_X5_takeNext (f_X5_giveWayToHigh (f_X5_wakeThoseWhoseTimeHasCome σ))) 0 0 6 with _ | p
    · exact ok_sI (by decide) h2
    · rw [oC_some]
      have h3 := ok_execute (h2.2.2.1 _ hp) h2
      split
      · exact ok_sI (by decide) h3
      · exact ok_sI (by decide) (ok_sR none_lt h3)
  · rw [oC_some]
    have h3 := ok_execute (h1.2.2.1 _ hq) h1
    split
    · exact ok_sI (by decide) h3
    · exact ok_sI (by decide) (ok_sR none_lt h3)
theorem jlt400 {x : Int32} {j : Nat} (h0 : ¬ x < 0) (h1 : x ≤ 400) (hj : j ≤ 400) (h : ¬ x ≤ nI j) : j < 400 := by
  obtain ⟨k, hk, rfl⟩ := nI_of h0
  have := (nI_leI hk (show 400 < 2 ^ 31 by decide)).mp h1
  exact Nat.lt_of_lt_of_le (ngt_8 hj k this h) this
def lp_X5_run_17 (x : Int32) : Nat → St → Int32 → Nat → Int32 × St
  | 0, σ, w, _ => (w, σ)
  | n + 1, σ, w, j => (if x ≤ nI j then (w, σ) else (if (f_X5_step σ).1 = 0 then lp_X5_run_17 x n ((f_X5_step σ).2) (w + 1) ((j + 1)) else lp_X5_run_17 x n ((f_X5_step σ).2) w ((j + 1))))
def f_X5_run (σ : St) (x : Int32) : Int32 × St := (if x < 0 then ((-1), σ) else (if x ≤ 400 then lp_X5_run_17 x 401 σ 0 0 else ((-1), σ)))
set_option maxRecDepth 100000 in
set_option maxHeartbeats 4000000 in
theorem w_X5_run_17 {l : Launch} {D : va_G} {cs : Nat → ClassId} {b : Nat} {pg : Program} {e : Env} {s : State} {m : MethodId} {below : List Frame} {meth : Method} {c : Code} (x : Int32)   (hx : pg.tables.exec = Jvm.exec) (hb : c.code = cX5_run) (hr : meth.sig.returnType = (some FieldType.int)) (hml : c.maxLocals = 4) {args : Array Value} (hts : ∀ w ∈ T0, w.before args s = true) (hown : s.vm.findClass RX5 = some m.cls) (hlk : meth.locks = false) (hK : va_K D vwCl (tyx cs) s) : ∀ (n : Nat) (σ : St) (w : Int32) (j : Nat), 400 < j + n → j ≤ 400 → ok σ → ¬ x < 0 → x ≤ 400 → ∀ (H : Heap) (locs : List Loc) (ls : Array Slot), He D b 43 (Ex cs b σ) H → va_S (fun a => b ≤ a) s.heap H locs → lv_has ls 4 [(0, .ref (b + xo 0 0)), (1, .int (x)), (2, .int (w)), (3, .int (nI j))] → W pg l e { frames := 6, cells := 0, slots := 0, locals := 138 } s m args below meth c H locs 0 0 (MQ below (Qi D (tyx cs) b 43 (Ex cs b (lp_X5_run_17 x n σ w j).2) (lp_X5_run_17 x n σ w j).1) args s 0 0 (fun a => b ≤ a)) (F0 m 17 ls []) := by
  intro n
  induction n with
  | zero =>
    intro σ w j h0 h1 h2 h3 h4
    exact absurd h0 (by omega)
  | succ n ih =>
    intro σ w j h0 h1 h2 h3 h4 H locs ls hH hS hl
    refine lv_iload_n hx hb dX5_run_17 rfl (lv_at hl 3 rfl) ?_
    refine lv_iload_n hx hb dX5_run_18 rfl (lv_at hl 1 rfl) ?_
    refine lv_icmp_ge (tgt := 38) hx hb dX5_run_19 (by decide) (fun c_19_1 => ?_) (fun c_19_1 => ?_)
    ·
      refine lv_iload_n hx hb dX5_run_38 rfl (lv_at hl 2 rfl) ?_
      exact e_iret hx hb hr hlk hK hH hS dX5_run_39 (by simp only [lp_X5_run_17, if_pos c_19_1]) (congrArg (Ex cs b) (by simp only [lp_X5_run_17, if_pos c_19_1]))
    ·
      have hj4 := jlt400 h3 h4 h1 (by assumption)
      refine lv_aload_n hx hb dX5_run_22 rfl (lv_at hl 0 rfl) ?_
      refine e_ci (e_runV (C := RX5) (ci := 5) (As := []) (rest := []) ⟨hx, hb, hml, hown, hts⟩ (k_X5_step l D cs b σ  (by first | assumption | omega | decide)) ⟨callB_of 0 hts (gC wC_X5_step) rfl rfl rfl (hts _ wi_X5) (hts _ wM_X5_76) (by decide +kernel) (by decide), hts _ wN_X5_step, hts _ wS_X5_step⟩ hK hH (xo_ok (by decide)).2.2 (Ex_at cs b σ (by decide)) rfl rfl rfl hl.1 rfl (Nat.le_of_ble_eq_true rfl) dX5_run_23 (by decide)) hS (fun H locs hH hS => ?_)
      refine lv_if_ne (tgt := 32) hx hb dX5_run_26 (by decide) (fun c_26_2 => ?_) (fun c_26_2 => ?_)
      ·
        refine lv_iinc (v := nI (j + 1)) (lv' := [(3, .int (nI (j + 1))), (0, .ref (b + xo 0 0)), (1, .int (x)), (2, .int (w))]) hx hb dX5_run_32 hl (k := 3) rfl (nI_1 j) (by decide) rfl (fun ls hl => ?_)
        refine lv_goto (tgt := 17) hx hb dX5_run_35 (by decide) ?_
        have e_ : lp_X5_run_17 x (n + 1) σ w j = lp_X5_run_17 x n ((f_X5_step σ).2) w ((j + 1)) := by simp only [lp_X5_run_17, if_neg c_19_1, if_neg c_26_2]
        rw [e_]
        exact ih ((f_X5_step σ).2) w ((j + 1)) (by omega) (by omega) (ok_step h2) h3 h4 _ _ _ hH hS (lv_sub hl [1, 2, 3, 0] rfl)
      ·
        refine lv_iinc (v := w + 1) (lv' := [(2, .int (w + 1)), (0, .ref (b + xo 0 0)), (1, .int (x)), (3, .int (nI j))]) hx hb dX5_run_29 hl (k := 2) rfl (rfl) (by decide) rfl (fun ls hl => ?_)
        refine lv_iinc (v := nI (j + 1)) (lv' := [(3, .int (nI (j + 1))), (2, .int (w + 1)), (0, .ref (b + xo 0 0)), (1, .int (x))]) hx hb dX5_run_32 hl (k := 3) rfl (nI_1 j) (by decide) rfl (fun ls hl => ?_)
        refine lv_goto (tgt := 17) hx hb dX5_run_35 (by decide) ?_
        have e_ : lp_X5_run_17 x (n + 1) σ w j = lp_X5_run_17 x n ((f_X5_step σ).2) (w + 1) ((j + 1)) := by simp only [lp_X5_run_17, if_neg c_19_1, if_pos c_26_2]
        rw [e_]
        exact ih ((f_X5_step σ).2) (w + 1) ((j + 1)) (by omega) (by omega) (ok_step h2) h3 h4 _ _ _ hH hS (lv_sub hl [2, 3, 1, 0] rfl)
set_option maxRecDepth 100000 in
set_option maxHeartbeats 4000000 in
theorem k_X5_run (l : Launch) (D : va_G) (cs : Nat → ClassId) (b : Nat) (σ : St) (x : Int32) (ho : ok σ) : Met l yX5_run (Cond.code yX5_run cX5_run 4 (some FieldType.int) :: T0) { frames := 6, cells := 0, slots := 0, locals := 138 } (Pe D (tyx cs) b 43 (Ex cs b σ) [.ref (b + xo 0 0), .int (x)]) (Qi D (tyx cs) b 43 (Ex cs b (f_X5_run σ x).2) (f_X5_run σ x).1) 0 0 (fun a => b ≤ a) := by
  refine e_met (by decide) rfl (Nat.le_of_ble_eq_true rfl) (fun pg e s m below meth c ls hx hb hr hml hts0 hown hlk hnm hH hK hl hS => ?_)
  have hts : ∀ w ∈ T0, w.before _ s = true := fun w h => hts0 w (List.mem_cons_of_mem _ h)
  have hl : lv_has ls 4 [(0, .ref (b + xo 0 0)), (1, .int (x))] := hl
  refine lv_iload_n hx hb dX5_run_0 rfl (lv_at hl 1 rfl) ?_
  refine lv_if_lt (tgt := 11) hx hb dX5_run_1 (by decide) (fun c_1_3 => ?_) (fun c_1_3 => ?_)
  ·
    refine lv_iconst (v := (-1)) hx hb dX5_run_11 (by decide) ?_
    exact e_iret hx hb hr hlk hK hH hS dX5_run_12 (by simp only [f_X5_run, if_pos c_1_3]) (congrArg (Ex cs b) (by simp only [f_X5_run, if_pos c_1_3]))
  ·
    refine lv_iload_n hx hb dX5_run_4 rfl (lv_at hl 1 rfl) ?_
    refine lv_sipush (v := 400) hx hb dX5_run_5 (by decide) ?_
    refine lv_icmp_le (tgt := 13) hx hb dX5_run_8 (by decide) (fun c_8_4 => ?_) (fun c_8_4 => ?_)
    ·
      refine lv_iconst (v := 0) hx hb dX5_run_13 (by decide) ?_
      refine lv_istore_n (lv' := [(2, .int (0)), (0, .ref (b + xo 0 0)), (1, .int (x))]) hx hb dX5_run_14 rfl hl (by decide) rfl (fun ls hl => ?_)
      refine lv_iconst (v := 0) hx hb dX5_run_15 (by decide) ?_
      refine lv_istore_n (lv' := [(3, .int (0)), (2, .int (0)), (0, .ref (b + xo 0 0)), (1, .int (x))]) hx hb dX5_run_16 rfl hl (by decide) rfl (fun ls hl => ?_)
      have e_ : f_X5_run σ x = lp_X5_run_17 x 401 σ 0 0 := by simp only [f_X5_run, if_neg c_1_3, if_pos c_8_4]
      rw [e_]
      exact w_X5_run_17 x  hx hb hr hml hts hown hlk hK 401 σ 0 0 (by omega) (by omega) ho (by assumption) (by assumption) _ _ _ hH hS (lv_sub hl [2, 3, 1, 0] rfl)
    ·
      refine lv_iconst (v := (-1)) hx hb dX5_run_11 (by decide) ?_
      exact e_iret hx hb hr hlk hK hH hS dX5_run_12 (by simp only [f_X5_run, if_neg c_1_3, if_neg c_8_4]) (congrArg (Ex cs b) (by simp only [f_X5_run, if_neg c_1_3, if_neg c_8_4]))
def f_X5_setClock (σ : St) (x : Int32) : St := sI σ 0 0 7 x
set_option maxRecDepth 100000 in
set_option maxHeartbeats 4000000 in
theorem k_X5_setClock (l : Launch) (D : va_G) (cs : Nat → ClassId) (b : Nat) (σ : St) (x : Int32)  : Met l yX5_setClock (Cond.code yX5_setClock cX5_setClock 2 (none : Option FieldType) :: T0) { frames := 0, cells := 0, slots := 0, locals := 0 } (Pe D (tyx cs) b 43 (Ex cs b σ) [.ref (b + xo 0 0), .int (x)]) (Qv D (tyx cs) b 43 (Ex cs b (f_X5_setClock σ x))) 0 0 (fun a => b ≤ a) := by
  refine e_met (by decide) rfl (Nat.le_of_ble_eq_true rfl) (fun pg e s m below meth c ls hx hb hr hml hts0 hown hlk hnm hH hK hl hS => ?_)
  have hts : ∀ w ∈ T0, w.before _ s = true := fun w h => hts0 w (List.mem_cons_of_mem _ h)
  have hl : lv_has ls 2 [(0, .ref (b + xo 0 0)), (1, .int (x))] := hl
  refine lv_aload_n hx hb dX5_setClock_0 rfl (lv_at hl 0 rfl) ?_
  refine lv_iload_n hx hb dX5_setClock_1 rfl (lv_at hl 1 rfl) ?_
  refine fpX5_53 hx hb hts hown hK hH hS 0 (by decide) dX5_setClock_2 (fun H locs hH hS => ?_)
  exact e_vret hx hb hr hlk hK hH hS dX5_setClock_5 (congrArg (Ex cs b) (by simp only [f_X5_setClock]))
def f_X5_clock (σ : St)  : Int32 := gI σ 0 0 7
set_option maxRecDepth 100000 in
set_option maxHeartbeats 4000000 in
theorem k_X5_clock (l : Launch) (D : va_G) (cs : Nat → ClassId) (b : Nat) (σ : St)   : Met l yX5_clock (Cond.code yX5_clock cX5_clock 1 (some FieldType.int) :: T0) { frames := 0, cells := 0, slots := 0, locals := 0 } (Pe D (tyx cs) b 43 (Ex cs b σ) [.ref (b + xo 0 0)]) (Qi D (tyx cs) b 43 (Ex cs b σ) (f_X5_clock σ)) 0 0 (fun a => b ≤ a) := by
  refine e_met (by decide) rfl (Nat.le_of_ble_eq_true rfl) (fun pg e s m below meth c ls hx hb hr hml hts0 hown hlk hnm hH hK hl hS => ?_)
  have hts : ∀ w ∈ T0, w.before _ s = true := fun w h => hts0 w (List.mem_cons_of_mem _ h)
  have hl : lv_has ls 1 [(0, .ref (b + xo 0 0))] := hl
  refine lv_aload_n hx hb dX5_clock_0 rfl (lv_at hl 0 rfl) ?_
  refine fgX5_53 hx hb hts hown hK hH 0 (by decide) dX5_clock_1 ?_
  exact e_iret hx hb hr hlk hK hH hS dX5_clock_4 (by simp only [f_X5_clock]) rfl
def f_X5_messages (σ : St)  : Int32 := gI σ 11 0 1
set_option maxRecDepth 100000 in
set_option maxHeartbeats 4000000 in
theorem k_X5_messages (l : Launch) (D : va_G) (cs : Nat → ClassId) (b : Nat) (σ : St)   : Met l yX5_messages (Cond.code yX5_messages cX5_messages 1 (some FieldType.int) :: T0) { frames := 0, cells := 0, slots := 0, locals := 0 } (Pe D (tyx cs) b 43 (Ex cs b σ) [.ref (b + xo 0 0)]) (Qi D (tyx cs) b 43 (Ex cs b σ) (f_X5_messages σ)) 0 0 (fun a => b ≤ a) := by
  refine e_met (by decide) rfl (Nat.le_of_ble_eq_true rfl) (fun pg e s m below meth c ls hx hb hr hml hts0 hown hlk hnm hH hK hl hS => ?_)
  have hts : ∀ w ∈ T0, w.before _ s = true := fun w h => hts0 w (List.mem_cons_of_mem _ h)
  have hl : lv_has ls 1 [(0, .ref (b + xo 0 0))] := hl
  refine lv_aload_n hx hb dX5_messages_0 rfl (lv_at hl 0 rfl) ?_
  refine fgX5_45 hx hb hts hown hK hH 0 (by decide) dX5_messages_1 ?_
  refine fgX5_115 hx hb hts hown hK hH 0 (by decide) dX5_messages_4 ?_
  exact e_iret hx hb hr hlk hK hH hS dX5_messages_7 (by simp only [f_X5_messages]) rfl
def f_X5_message (σ : St) (x : Int32) (w : Int32) : Int64 := f_X1_part σ x w
set_option maxRecDepth 100000 in
set_option maxHeartbeats 4000000 in
theorem k_X5_message (l : Launch) (D : va_G) (cs : Nat → ClassId) (b : Nat) (σ : St) (x : Int32) (w : Int32)  : Met l yX5_message (Cond.code yX5_message cX5_message 3 (some FieldType.long) :: T0) { frames := 2, cells := 0, slots := 0, locals := 42 } (Pe D (tyx cs) b 43 (Ex cs b σ) [.ref (b + xo 0 0), .int (x), .int (w)]) (Ql D (tyx cs) b 43 (Ex cs b σ) (f_X5_message σ x w)) 0 0 (fun a => b ≤ a) := by
  refine e_met (by decide) rfl (Nat.le_of_ble_eq_true rfl) (fun pg e s m below meth c ls hx hb hr hml hts0 hown hlk hnm hH hK hl hS => ?_)
  have hts : ∀ w ∈ T0, w.before _ s = true := fun w h => hts0 w (List.mem_cons_of_mem _ h)
  have hl : lv_has ls 3 [(0, .ref (b + xo 0 0)), (1, .int (x)), (2, .int (w))] := hl
  refine lv_aload_n hx hb dX5_message_0 rfl (lv_at hl 0 rfl) ?_
  refine fgX5_45 hx hb hts hown hK hH 0 (by decide) dX5_message_1 ?_
  refine lv_iload_n hx hb dX5_message_4 rfl (lv_at hl 1 rfl) ?_
  refine lv_iload_n hx hb dX5_message_5 rfl (lv_at hl 2 rfl) ?_
  refine e_cl (e_runV (C := RX1) (ci := 1) (As := [.int (x), .int (w)]) (rest := []) ⟨hx, hb, hml, hown, hts⟩ (k_X1_part l D cs b σ x w ) ⟨callB_of 2 hts (gC wC_X1_part) rfl rfl rfl (hts _ wi_X1) (hts _ wM_X5_118) (by decide +kernel) (by decide), hts _ wN_X1_part, hts _ wS_X1_part⟩ hK hH (xo_ok (by decide)).2.2 (Ex_at cs b σ (by decide)) rfl rfl rfl hl.1 rfl (Nat.le_of_ble_eq_true rfl) dX5_message_6 (by decide)) hS (fun H locs hH hS => ?_)
  exact e_lret hx hb hr hlk hK hH hS dX5_message_9 (by simp only [f_X5_message]) rfl
def f_X5_add (σ : St) (x : Int32) (y : Int32) : Int32 × St := (if x < 0 then ((-1), σ) else (if x ≤ 15 then (if f_X5_isOperand σ x y = 0 then ((-2), σ) else (if gI σ 1 0 2 < 40 then ((f_X3_append σ x y).1, (f_X3_append σ x y).2) else ((-3), σ))) else ((-1), σ)))
set_option maxRecDepth 100000 in
set_option maxHeartbeats 4000000 in
theorem k_X5_add (l : Launch) (D : va_G) (cs : Nat → ClassId) (b : Nat) (σ : St) (x : Int32) (y : Int32)  : Met l yX5_add (Cond.code yX5_add cX5_add 3 (some FieldType.int) :: T0) { frames := 1, cells := 0, slots := 0, locals := 23 } (Pe D (tyx cs) b 43 (Ex cs b σ) [.ref (b + xo 0 0), .int (x), .int (y)]) (Qi D (tyx cs) b 43 (Ex cs b (f_X5_add σ x y).2) (f_X5_add σ x y).1) 0 0 (fun a => b ≤ a) := by
  refine e_met (by decide) rfl (Nat.le_of_ble_eq_true rfl) (fun pg e s m below meth c ls hx hb hr hml hts0 hown hlk hnm hH hK hl hS => ?_)
  have hts : ∀ w ∈ T0, w.before _ s = true := fun w h => hts0 w (List.mem_cons_of_mem _ h)
  have hl : lv_has ls 3 [(0, .ref (b + xo 0 0)), (1, .int (x)), (2, .int (y))] := hl
  refine lv_iload_n hx hb dX5_add_0 rfl (lv_at hl 1 rfl) ?_
  refine lv_if_lt (tgt := 10) hx hb dX5_add_1 (by decide) (fun c_1_1 => ?_) (fun c_1_1 => ?_)
  ·
    refine lv_iconst (v := (-1)) hx hb dX5_add_10 (by decide) ?_
    exact e_iret hx hb hr hlk hK hH hS dX5_add_11 (by simp only [f_X5_add, if_pos c_1_1]) (congrArg (Ex cs b) (by simp only [f_X5_add, if_pos c_1_1]))
  ·
    refine lv_iload_n hx hb dX5_add_4 rfl (lv_at hl 1 rfl) ?_
    refine lv_bipush (v := 15) hx hb dX5_add_5 (by decide) ?_
    refine lv_icmp_le (tgt := 12) hx hb dX5_add_7 (by decide) (fun c_7_2 => ?_) (fun c_7_2 => ?_)
    ·
      refine lv_iload_n hx hb dX5_add_12 rfl (lv_at hl 1 rfl) ?_
      refine lv_iload_n hx hb dX5_add_13 rfl (lv_at hl 2 rfl) ?_
      refine e_ci (e_runS (As := [.int (x), .int (y)]) (rest := []) ⟨hx, hb, hml, hown, hts⟩ (k_X5_isOperand l D cs b σ x y ) ⟨callB_of 2 hts (gC wC_X5_isOperand) rfl rfl rfl (hts _ wi_X5) (hts _ wM_X5_57) (by decide +kernel) (by decide), hts _ wT_X5_isOperand⟩ hK hH rfl hl.1 rfl (Nat.le_of_ble_eq_true rfl) dX5_add_14 (by decide)) hS (fun H locs hH hS => ?_)
      refine lv_if_ne (tgt := 23) hx hb dX5_add_17 (by decide) (fun c_17_3 => ?_) (fun c_17_3 => ?_)
      ·
        refine lv_aload_n hx hb dX5_add_23 rfl (lv_at hl 0 rfl) ?_
        refine fgX5_10 hx hb hts hown hK hH 0 (by decide) dX5_add_24 ?_
        refine fgX5_61 hx hb hts hown hK hH 0 (by decide) dX5_add_27 ?_
        refine lv_bipush (v := 40) hx hb dX5_add_30 (by decide) ?_
        refine lv_icmp_lt (tgt := 38) hx hb dX5_add_32 (by decide) (fun c_32_4 => ?_) (fun c_32_4 => ?_)
        ·
          refine lv_aload_n hx hb dX5_add_38 rfl (lv_at hl 0 rfl) ?_
          refine fgX5_10 hx hb hts hown hK hH 0 (by decide) dX5_add_39 ?_
          refine lv_iload_n hx hb dX5_add_42 rfl (lv_at hl 1 rfl) ?_
          refine lv_iload_n hx hb dX5_add_43 rfl (lv_at hl 2 rfl) ?_
          refine e_ci (e_runV (C := RX3) (ci := 3) (As := [.int (x), .int (y)]) (rest := []) ⟨hx, hb, hml, hown, hts⟩ (k_X3_append l D cs b σ x y ) ⟨callB_of 2 hts (gC wC_X3_append) rfl rfl rfl (hts _ wi_X3) (hts _ wM_X5_64) (by decide +kernel) (by decide), hts _ wN_X3_append, hts _ wS_X3_append⟩ hK hH (xo_ok (by decide)).2.2 (Ex_at cs b σ (by decide)) rfl rfl rfl hl.1 rfl (Nat.le_of_ble_eq_true rfl) dX5_add_44 (by decide)) hS (fun H locs hH hS => ?_)
          exact e_iret hx hb hr hlk hK hH hS dX5_add_47 (by simp only [f_X5_add, if_neg c_1_1, if_pos c_7_2, if_neg c_17_3, if_pos c_32_4]) (congrArg (Ex cs b) (by simp only [f_X5_add, if_neg c_1_1, if_pos c_7_2, if_neg c_17_3, if_pos c_32_4]))
        ·
          refine lv_bipush (v := (-3)) hx hb dX5_add_35 (by decide) ?_
          exact e_iret hx hb hr hlk hK hH hS dX5_add_37 (by simp only [f_X5_add, if_neg c_1_1, if_pos c_7_2, if_neg c_17_3, if_neg c_32_4]) (congrArg (Ex cs b) (by simp only [f_X5_add, if_neg c_1_1, if_pos c_7_2, if_neg c_17_3, if_neg c_32_4]))
      ·
        refine lv_bipush (v := (-2)) hx hb dX5_add_20 (by decide) ?_
        exact e_iret hx hb hr hlk hK hH hS dX5_add_22 (by simp only [f_X5_add, if_neg c_1_1, if_pos c_7_2, if_pos c_17_3]) (congrArg (Ex cs b) (by simp only [f_X5_add, if_neg c_1_1, if_pos c_7_2, if_pos c_17_3]))
    ·
      refine lv_iconst (v := (-1)) hx hb dX5_add_10 (by decide) ?_
      exact e_iret hx hb hr hlk hK hH hS dX5_add_11 (by simp only [f_X5_add, if_neg c_1_1, if_neg c_7_2]) (congrArg (Ex cs b) (by simp only [f_X5_add, if_neg c_1_1, if_neg c_7_2]))
def f_X5_start (σ : St) (x : Int32) (y : Int32) (z : Int32) : Int32 × St := (if f_X5_isPriority σ x = 0 then ((-1), σ) else (if y < 0 then ((-1), σ) else (if y < 40 then (if (f_X5_startLeastFree σ x y z).1 = (-1) then ((-2), (f_X5_startLeastFree σ x y z).2) else ((f_X5_startLeastFree σ x y z).1, (f_X5_startLeastFree σ x y z).2)) else ((-1), σ))))
set_option maxRecDepth 100000 in
set_option maxHeartbeats 4000000 in
theorem k_X5_start (l : Launch) (D : va_G) (cs : Nat → ClassId) (b : Nat) (σ : St) (x : Int32) (y : Int32) (z : Int32)  : Met l yX5_start (Cond.code yX5_start cX5_start 5 (some FieldType.int) :: T0) { frames := 3, cells := 0, slots := 0, locals := 66 } (Pe D (tyx cs) b 43 (Ex cs b σ) [.ref (b + xo 0 0), .int (x), .int (y), .int (z)]) (Qi D (tyx cs) b 43 (Ex cs b (f_X5_start σ x y z).2) (f_X5_start σ x y z).1) 0 0 (fun a => b ≤ a) := by
  refine e_met (by decide) rfl (Nat.le_of_ble_eq_true rfl) (fun pg e s m below meth c ls hx hb hr hml hts0 hown hlk hnm hH hK hl hS => ?_)
  have hts : ∀ w ∈ T0, w.before _ s = true := fun w h => hts0 w (List.mem_cons_of_mem _ h)
  have hl : lv_has ls 5 [(0, .ref (b + xo 0 0)), (1, .int (x)), (2, .int (y)), (3, .int (z))] := hl
  refine lv_iload_n hx hb dX5_start_0 rfl (lv_at hl 1 rfl) ?_
  refine e_ci (e_runS (As := [.int (x)]) (rest := []) ⟨hx, hb, hml, hown, hts⟩ (k_X5_isPriority l D cs b σ x ) ⟨callB_of 1 hts (gC wC_X5_isPriority) rfl rfl rfl (hts _ wi_X5) (hts _ wM_X5_68) (by decide +kernel) (by decide), hts _ wT_X5_isPriority⟩ hK hH rfl hl.1 rfl (Nat.le_of_ble_eq_true rfl) dX5_start_1 (by decide)) hS (fun H locs hH hS => ?_)
  refine lv_if_eq (tgt := 17) hx hb dX5_start_4 (by decide) (fun c_4_1 => ?_) (fun c_4_1 => ?_)
  ·
    refine lv_iconst (v := (-1)) hx hb dX5_start_17 (by decide) ?_
    exact e_iret hx hb hr hlk hK hH hS dX5_start_18 (by simp only [f_X5_start, if_pos c_4_1]) (congrArg (Ex cs b) (by simp only [f_X5_start, if_pos c_4_1]))
  ·
    refine lv_iload_n hx hb dX5_start_7 rfl (lv_at hl 2 rfl) ?_
    refine lv_if_lt (tgt := 17) hx hb dX5_start_8 (by decide) (fun c_8_2 => ?_) (fun c_8_2 => ?_)
    ·
      refine lv_iconst (v := (-1)) hx hb dX5_start_17 (by decide) ?_
      exact e_iret hx hb hr hlk hK hH hS dX5_start_18 (by simp only [f_X5_start, if_neg c_4_1, if_pos c_8_2]) (congrArg (Ex cs b) (by simp only [f_X5_start, if_neg c_4_1, if_pos c_8_2]))
    ·
      refine lv_iload_n hx hb dX5_start_11 rfl (lv_at hl 2 rfl) ?_
      refine lv_bipush (v := 40) hx hb dX5_start_12 (by decide) ?_
      refine lv_icmp_lt (tgt := 19) hx hb dX5_start_14 (by decide) (fun c_14_3 => ?_) (fun c_14_3 => ?_)
      ·
        refine lv_aload_n hx hb dX5_start_19 rfl (lv_at hl 0 rfl) ?_
        refine lv_iload_n hx hb dX5_start_20 rfl (lv_at hl 1 rfl) ?_
        refine lv_iload_n hx hb dX5_start_21 rfl (lv_at hl 2 rfl) ?_
        refine lv_iload_n hx hb dX5_start_22 rfl (lv_at hl 3 rfl) ?_
        refine e_ci (e_runV (C := RX5) (ci := 5) (As := [.int (x), .int (y), .int (z)]) (rest := []) ⟨hx, hb, hml, hown, hts⟩ (k_X5_startLeastFree l D cs b σ x y z ) ⟨callB_of 3 hts (gC wC_X5_startLeastFree) rfl rfl rfl (hts _ wi_X5) (hts _ wM_X5_72) (by decide +kernel) (by decide), hts _ wN_X5_startLeastFree, hts _ wS_X5_startLeastFree⟩ hK hH (xo_ok (by decide)).2.2 (Ex_at cs b σ (by decide)) rfl rfl rfl hl.1 rfl (Nat.le_of_ble_eq_true rfl) dX5_start_23 (by decide)) hS (fun H locs hH hS => ?_)
        refine lv_istore (lv' := [(4, .int ((f_X5_startLeastFree σ x y z).1)), (0, .ref (b + xo 0 0)), (1, .int (x)), (2, .int (y)), (3, .int (z))]) hx hb dX5_start_26 hl (by decide) rfl (fun ls hl => ?_)
        refine lv_iload hx hb dX5_start_28 (lv_at hl 0 rfl) ?_
        refine lv_iconst (v := (-1)) hx hb dX5_start_30 (by decide) ?_
        refine lv_icmp_ne (tgt := 39) hx hb dX5_start_31 (by decide) (fun c_31_4 => ?_) (fun c_31_4 => ?_)
        ·
          refine lv_iload hx hb dX5_start_39 (lv_at hl 0 rfl) ?_
          exact e_iret hx hb hr hlk hK hH hS dX5_start_41 (by simp only [f_X5_start, if_neg c_4_1, if_neg c_8_2, if_pos c_14_3, if_neg c_31_4]) (congrArg (Ex cs b) (by simp only [f_X5_start, if_neg c_4_1, if_neg c_8_2, if_pos c_14_3, if_neg c_31_4]))
        ·
          refine lv_bipush (v := (-2)) hx hb dX5_start_34 (by decide) ?_
          refine lv_goto (tgt := 41) hx hb dX5_start_36 (by decide) ?_
          exact e_iret hx hb hr hlk hK hH hS dX5_start_41 (by simp only [f_X5_start, if_neg c_4_1, if_neg c_8_2, if_pos c_14_3, if_pos c_31_4]) (congrArg (Ex cs b) (by simp only [f_X5_start, if_neg c_4_1, if_neg c_8_2, if_pos c_14_3, if_pos c_31_4]))
      ·
        refine lv_iconst (v := (-1)) hx hb dX5_start_17 (by decide) ?_
        exact e_iret hx hb hr hlk hK hH hS dX5_start_18 (by simp only [f_X5_start, if_neg c_4_1, if_neg c_8_2, if_neg c_14_3]) (congrArg (Ex cs b) (by simp only [f_X5_start, if_neg c_4_1, if_neg c_8_2, if_neg c_14_3]))
def lp_X5_reset_2 : Nat → St → Nat → St
  | 0, σ, _ => σ
  | n + 1, σ, j => (if 8 ≤ nI j then σ else lp_X5_reset_2 n (sI σ 5 j 2 0) ((j + 1)))
def lp_X5_reset_26 : Nat → St → Nat → St
  | 0, σ, _ => σ
  | n + 1, σ, j => (if 4 ≤ nI j then σ else lp_X5_reset_26 n (f_X0_clear σ j) ((j + 1)))
def f_X5_reset (σ : St)  : St := sR (f_X4_clear (f_X4_clear (lp_X5_reset_26 5 (lp_X5_reset_2 9 σ 0) 0) 0) 1) 0 0 6 (none)
set_option maxRecDepth 100000 in
set_option maxHeartbeats 4000000 in
theorem w_X5_reset_2 {l : Launch} {D : va_G} {cs : Nat → ClassId} {b : Nat} {pg : Program} {e : Env} {s : State} {m : MethodId} {below : List Frame} {meth : Method} {c : Code}    (hx : pg.tables.exec = Jvm.exec) (hb : c.code = cX5_reset) (hml : c.maxLocals = 2) {args : Array Value} {H0 : Heap} {Q : State → Prop} (hts : ∀ w ∈ T0, w.before args s = true) (hown : s.vm.findClass RX5 = some m.cls) (hK : va_K D vwCl (tyx cs) s) : ∀ (n : Nat) (σ : St) (j : Nat), 8 < j + n → j ≤ 8 → ∀ (H : Heap) (locs : List Loc) (ls : Array Slot), (∀ (H : Heap) (locs : List Loc) (ls : Array Slot), He D b 43 (Ex cs b (lp_X5_reset_2 n σ j)) H → va_S (fun a => b ≤ a) H0 H locs → lv_has ls 2 [(0, .ref (b + xo 0 0))] → W pg l e { frames := 1, cells := 0, slots := 0, locals := 20 } s m args below meth c H locs 0 0 Q (F0 m 24 ls [])) → He D b 43 (Ex cs b σ) H → va_S (fun a => b ≤ a) H0 H locs → lv_has ls 2 [(0, .ref (b + xo 0 0)), (1, .int (nI j))] → W pg l e { frames := 1, cells := 0, slots := 0, locals := 20 } s m args below meth c H locs 0 0 Q (F0 m 2 ls []) := by
  intro n
  induction n with
  | zero =>
    intro σ j h0 h1
    exact absurd h0 (by omega)
  | succ n ih =>
    intro σ j h0 h1 H locs ls kk hH hS hl
    refine lv_iload_n hx hb dX5_reset_2 rfl (lv_at hl 1 rfl) ?_
    refine lv_bipush (v := 8) hx hb dX5_reset_3 (by decide) ?_
    refine lv_icmp_ge (tgt := 24) hx hb dX5_reset_5 (by decide) (fun c_5_1 => ?_) (fun c_5_1 => ?_)
    ·
      have e_ : lp_X5_reset_2 (n + 1) σ j = σ := by simp only [lp_X5_reset_2, if_pos c_5_1]
      rw [e_] at kk
      exact kk _ _ _ hH hS (lv_sub hl [0] rfl)
    ·
      have hj8 := ngt_8 (j := j) (by omega) 8 (by decide) (by assumption)
      refine lv_aload_n hx hb dX5_reset_8 rfl (lv_at hl 0 rfl) ?_
      refine fgX5_18 hx hb hts hown hK hH 0 (by decide) dX5_reset_9 ?_
      refine lv_iload_n hx hb dX5_reset_12 rfl (lv_at hl 1 rfl) ?_
      refine x_procs hx hb hK hH j rfl (by omega) dX5_reset_13 ?_
      refine lv_iconst (v := 0) hx hb dX5_reset_14 (by decide) ?_
      refine fpX5_80 hx hb hts hown hK hH hS j (show j < 8 by first | assumption | omega) dX5_reset_15 (fun H locs hH hS => ?_)
      refine lv_iinc (v := nI (j + 1)) (lv' := [(1, .int (nI (j + 1))), (0, .ref (b + xo 0 0))]) hx hb dX5_reset_18 hl (k := 1) rfl (nI_1 j) (by decide) rfl (fun ls hl => ?_)
      refine lv_goto (tgt := 2) hx hb dX5_reset_21 (by decide) ?_
      have e_ : lp_X5_reset_2 (n + 1) σ j = lp_X5_reset_2 n (sI σ 5 j 2 0) ((j + 1)) := by simp only [lp_X5_reset_2, if_neg c_5_1]
      rw [e_] at kk
      exact ih (sI σ 5 j 2 0) ((j + 1)) (by omega) (by omega) _ _ _ kk hH hS (lv_sub hl [1, 0] rfl)
set_option maxRecDepth 100000 in
set_option maxHeartbeats 4000000 in
theorem w_X5_reset_26 {l : Launch} {D : va_G} {cs : Nat → ClassId} {b : Nat} {pg : Program} {e : Env} {s : State} {m : MethodId} {below : List Frame} {meth : Method} {c : Code}    (hx : pg.tables.exec = Jvm.exec) (hb : c.code = cX5_reset) (hml : c.maxLocals = 2) {args : Array Value} {H0 : Heap} {Q : State → Prop} (hts : ∀ w ∈ T0, w.before args s = true) (hown : s.vm.findClass RX5 = some m.cls) (hK : va_K D vwCl (tyx cs) s) : ∀ (n : Nat) (σ : St) (j : Nat), 4 < j + n → j ≤ 4 → ∀ (H : Heap) (locs : List Loc) (ls : Array Slot), (∀ (H : Heap) (locs : List Loc) (ls : Array Slot), He D b 43 (Ex cs b (lp_X5_reset_26 n σ j)) H → va_S (fun a => b ≤ a) H0 H locs → lv_has ls 2 [(0, .ref (b + xo 0 0))] → W pg l e { frames := 1, cells := 0, slots := 0, locals := 20 } s m args below meth c H locs 0 0 Q (F0 m 46 ls [])) → He D b 43 (Ex cs b σ) H → va_S (fun a => b ≤ a) H0 H locs → lv_has ls 2 [(0, .ref (b + xo 0 0)), (1, .int (nI j))] → W pg l e { frames := 1, cells := 0, slots := 0, locals := 20 } s m args below meth c H locs 0 0 Q (F0 m 26 ls []) := by
  intro n
  induction n with
  | zero =>
    intro σ j h0 h1
    exact absurd h0 (by omega)
  | succ n ih =>
    intro σ j h0 h1 H locs ls kk hH hS hl
    refine lv_iload_n hx hb dX5_reset_26 rfl (lv_at hl 1 rfl) ?_
    refine lv_iconst (v := 4) hx hb dX5_reset_27 (by decide) ?_
    refine lv_icmp_ge (tgt := 46) hx hb dX5_reset_28 (by decide) (fun c_28_2 => ?_) (fun c_28_2 => ?_)
    ·
      have e_ : lp_X5_reset_26 (n + 1) σ j = σ := by simp only [lp_X5_reset_26, if_pos c_28_2]
      rw [e_] at kk
      exact kk _ _ _ hH hS (lv_sub hl [0] rfl)
    ·
      have hj4 := ngt_8 (j := j) (by omega) 4 (by decide) (by assumption)
      refine lv_aload_n hx hb dX5_reset_31 rfl (lv_at hl 0 rfl) ?_
      refine fgX5_27 hx hb hts hown hK hH 0 (by decide) dX5_reset_32 ?_
      refine lv_iload_n hx hb dX5_reset_35 rfl (lv_at hl 1 rfl) ?_
      refine x_chans hx hb hK hH j rfl (by omega) dX5_reset_36 ?_
      refine e_cv (e_runV (C := RX0) (ci := 0) (As := []) (rest := []) ⟨hx, hb, hml, hown, hts⟩ (k_X0_clear l D cs b σ j (by first | assumption | omega | decide)) ⟨callB_of 0 hts (gC wC_X0_clear) rfl rfl rfl (hts _ wi_X0) (hts _ wM_X5_83) (by decide +kernel) (by decide), hts _ wN_X0_clear, hts _ wS_X0_clear⟩ hK hH (xo_ok (show j < xn 8 by first | assumption | (show j < 4; first | assumption | omega))).2.2 (Ex_at cs b σ (show j < xn 8 by first | assumption | (show j < 4; first | assumption | omega))) rfl rfl rfl hl.1 rfl (Nat.le_of_ble_eq_true rfl) dX5_reset_37 (by decide)) hS (fun H locs hH hS => ?_)
      refine lv_iinc (v := nI (j + 1)) (lv' := [(1, .int (nI (j + 1))), (0, .ref (b + xo 0 0))]) hx hb dX5_reset_40 hl (k := 1) rfl (nI_1 j) (by decide) rfl (fun ls hl => ?_)
      refine lv_goto (tgt := 26) hx hb dX5_reset_43 (by decide) ?_
      have e_ : lp_X5_reset_26 (n + 1) σ j = lp_X5_reset_26 n (f_X0_clear σ j) ((j + 1)) := by simp only [lp_X5_reset_26, if_neg c_28_2]
      rw [e_] at kk
      exact ih (f_X0_clear σ j) ((j + 1)) (by omega) (by omega) _ _ _ kk hH hS (lv_sub hl [1, 0] rfl)
set_option maxRecDepth 100000 in
set_option maxHeartbeats 4000000 in
theorem k_X5_reset (l : Launch) (D : va_G) (cs : Nat → ClassId) (b : Nat) (σ : St)   : Met l yX5_reset (Cond.code yX5_reset cX5_reset 2 (none : Option FieldType) :: T0) { frames := 1, cells := 0, slots := 0, locals := 20 } (Pe D (tyx cs) b 43 (Ex cs b σ) [.ref (b + xo 0 0)]) (Qv D (tyx cs) b 43 (Ex cs b (f_X5_reset σ))) 0 0 (fun a => b ≤ a) := by
  refine e_met (by decide) rfl (Nat.le_of_ble_eq_true rfl) (fun pg e s m below meth c ls hx hb hr hml hts0 hown hlk hnm hH hK hl hS => ?_)
  have hts : ∀ w ∈ T0, w.before _ s = true := fun w h => hts0 w (List.mem_cons_of_mem _ h)
  have hl : lv_has ls 2 [(0, .ref (b + xo 0 0))] := hl
  refine lv_iconst (v := 0) hx hb dX5_reset_0 (by decide) ?_
  refine lv_istore_n (lv' := [(1, .int (0)), (0, .ref (b + xo 0 0))]) hx hb dX5_reset_1 rfl hl (by decide) rfl (fun ls hl => ?_)
  refine w_X5_reset_2  hx hb hml hts hown hK 9 σ 0 (by omega) (by omega) _ _ _ (fun H locs ls hH hS hl => ?_) hH hS (lv_sub hl [1, 0] rfl)
  refine lv_iconst (v := 0) hx hb dX5_reset_24 (by decide) ?_
  refine lv_istore_n (lv' := [(1, .int (0)), (0, .ref (b + xo 0 0))]) hx hb dX5_reset_25 rfl hl (by decide) rfl (fun ls hl => ?_)
  refine w_X5_reset_26  hx hb hml hts hown hK 5 (lp_X5_reset_2 9 σ 0) 0 (by omega) (by omega) _ _ _ (fun H locs ls hH hS hl => ?_) hH hS (lv_sub hl [1, 0] rfl)
  refine lv_aload_n hx hb dX5_reset_46 rfl (lv_at hl 0 rfl) ?_
  refine fgX5_35 hx hb hts hown hK hH 0 (by decide) dX5_reset_47 ?_
  refine e_cv (e_runV (C := RX4) (ci := 4) (As := []) (rest := []) ⟨hx, hb, hml, hown, hts⟩ (k_X4_clear l D cs b (lp_X5_reset_26 5 (lp_X5_reset_2 9 σ 0) 0) 0 (by first | assumption | omega | decide)) ⟨callB_of 0 hts (gC wC_X4_clear) rfl rfl rfl (hts _ wi_X4) (hts _ wM_X5_86) (by decide +kernel) (by decide), hts _ wN_X4_clear, hts _ wS_X4_clear⟩ hK hH (xo_ok (by decide)).2.2 (Ex_at cs b (lp_X5_reset_26 5 (lp_X5_reset_2 9 σ 0) 0) (by decide)) rfl rfl rfl hl.1 rfl (Nat.le_of_ble_eq_true rfl) dX5_reset_50 (by decide)) hS (fun H locs hH hS => ?_)
  refine lv_aload_n hx hb dX5_reset_53 rfl (lv_at hl 0 rfl) ?_
  refine fgX5_39 hx hb hts hown hK hH 0 (by decide) dX5_reset_54 ?_
  refine e_cv (e_runV (C := RX4) (ci := 4) (As := []) (rest := []) ⟨hx, hb, hml, hown, hts⟩ (k_X4_clear l D cs b (f_X4_clear (lp_X5_reset_26 5 (lp_X5_reset_2 9 σ 0) 0) 0) 1 (by first | assumption | omega | decide)) ⟨callB_of 0 hts (gC wC_X4_clear) rfl rfl rfl (hts _ wi_X4) (hts _ wM_X5_86) (by decide +kernel) (by decide), hts _ wN_X4_clear, hts _ wS_X4_clear⟩ hK hH (xo_ok (by decide)).2.2 (Ex_at cs b (f_X4_clear (lp_X5_reset_26 5 (lp_X5_reset_2 9 σ 0) 0) 0) (by decide)) rfl rfl rfl hl.1 rfl (Nat.le_of_ble_eq_true rfl) dX5_reset_57 (by decide)) hS (fun H locs hH hS => ?_)
  refine lv_aload_n hx hb dX5_reset_60 rfl (lv_at hl 0 rfl) ?_
  refine lv_null hx hb dX5_reset_61 ?_
  refine fpX5_49 hx hb hts hown hK hH hS 0 (by decide) (none) rfl dX5_reset_62 (fun H locs hH hS => ?_)
  exact e_vret hx hb hr hlk hK hH hS dX5_reset_65 (congrArg (Ex cs b) (by simp only [f_X5_reset]))
def f_X5_running (σ : St)  : Int32 := (oC (gR σ 0 0 6) ((-1)) (fun q1_1 => nI q1_1))
set_option maxRecDepth 100000 in
set_option maxHeartbeats 4000000 in
theorem k_X5_running (l : Launch) (D : va_G) (cs : Nat → ClassId) (b : Nat) (σ : St)  (ho : ok σ) : Met l yX5_running (Cond.code yX5_running cX5_running 1 (some FieldType.int) :: T0) { frames := 0, cells := 0, slots := 0, locals := 0 } (Pe D (tyx cs) b 43 (Ex cs b σ) [.ref (b + xo 0 0)]) (Qi D (tyx cs) b 43 (Ex cs b σ) (f_X5_running σ)) 0 0 (fun a => b ≤ a) := by
  refine e_met (by decide) rfl (Nat.le_of_ble_eq_true rfl) (fun pg e s m below meth c ls hx hb hr hml hts0 hown hlk hnm hH hK hl hS => ?_)
  have hts : ∀ w ∈ T0, w.before _ s = true := fun w h => hts0 w (List.mem_cons_of_mem _ h)
  have hl : lv_has ls 1 [(0, .ref (b + xo 0 0))] := hl
  refine lv_aload_n hx hb dX5_running_0 rfl (lv_at hl 0 rfl) ?_
  refine fgX5_49 hx hb hts hown hK hH 0 (by decide) _ rfl dX5_running_1 ?_
  rcases hq_1_1 : gR σ 0 0 6 with _ | q1_1
  ·
    refine W.eq (g2 := F0 m 4 ls [.null]) rfl ?_
    refine lv_ifnonnullN hx hb dX5_running_4 ?_
    refine lv_iconst (v := (-1)) hx hb dX5_running_7 (by decide) ?_
    refine lv_goto (tgt := 18) hx hb dX5_running_8 (by decide) ?_
    exact e_iret hx hb hr hlk hK hH hS dX5_running_18 (by simp only [f_X5_running, hq_1_1, oC_none]) rfl
  ·
    have q1_1b := ho.2.2.1 _ hq_1_1
    refine W.eq (g2 := F0 m 4 ls [.ref (b + xo 5 q1_1)]) rfl ?_
    refine lv_ifnonnull (tgt := 11) hx hb dX5_running_4 (by decide) ?_
    refine lv_aload_n hx hb dX5_running_11 rfl (lv_at hl 0 rfl) ?_
    refine fgX5_49 hx hb hts hown hK hH 0 (by decide) (some q1_1) (hq_1_1) dX5_running_12 ?_
    refine W.eq (g2 := F0 m 15 ls [.ref (b + xo 5 q1_1)]) rfl ?_
    refine fgX5_87 hx hb hts hown hK hH q1_1 (show q1_1 < 8 by first | assumption | omega) dX5_running_15 ?_
    exact e_iret hx hb hr hlk hK hH hS dX5_running_18 (by simp only [f_X5_running, hq_1_1, oC_some]) rfl
def f_X5_state (σ : St) (x : Int32) : Int32 := (if f_X5_isProcess σ x = 0 then (-1) else gI σ 5 ((x.toNatClampNeg)) 2)
set_option maxRecDepth 100000 in
set_option maxHeartbeats 4000000 in
theorem k_X5_state (l : Launch) (D : va_G) (cs : Nat → ClassId) (b : Nat) (σ : St) (x : Int32)  : Met l yX5_state (Cond.code yX5_state cX5_state 2 (some FieldType.int) :: T0) { frames := 1, cells := 0, slots := 0, locals := 20 } (Pe D (tyx cs) b 43 (Ex cs b σ) [.ref (b + xo 0 0), .int (x)]) (Qi D (tyx cs) b 43 (Ex cs b σ) (f_X5_state σ x)) 0 0 (fun a => b ≤ a) := by
  refine e_met (by decide) rfl (Nat.le_of_ble_eq_true rfl) (fun pg e s m below meth c ls hx hb hr hml hts0 hown hlk hnm hH hK hl hS => ?_)
  have hts : ∀ w ∈ T0, w.before _ s = true := fun w h => hts0 w (List.mem_cons_of_mem _ h)
  have hl : lv_has ls 2 [(0, .ref (b + xo 0 0)), (1, .int (x))] := hl
  refine lv_iload_n hx hb dX5_state_0 rfl (lv_at hl 1 rfl) ?_
  refine e_ci (e_runS (As := [.int (x)]) (rest := []) ⟨hx, hb, hml, hown, hts⟩ (k_X5_isProcess l D cs b σ x ) ⟨callB_of 1 hts (gC wC_X5_isProcess) rfl rfl rfl (hts _ wi_X5) (hts _ wM_X5_90) (by decide +kernel) (by decide), hts _ wT_X5_isProcess⟩ hK hH rfl hl.1 rfl (Nat.le_of_ble_eq_true rfl) dX5_state_1 (by decide)) hS (fun H locs hH hS => ?_)
  refine lv_if_eq (tgt := 19) hx hb dX5_state_4 (by decide) (fun c_4_1 => ?_) (fun c_4_1 => ?_)
  ·
    refine lv_iconst (v := (-1)) hx hb dX5_state_19 (by decide) ?_
    exact e_iret hx hb hr hlk hK hH hS dX5_state_20 (by simp only [f_X5_state, if_pos c_4_1]) rfl
  ·
    refine lv_aload_n hx hb dX5_state_7 rfl (lv_at hl 0 rfl) ?_
    refine fgX5_18 hx hb hts hown hK hH 0 (by decide) dX5_state_8 ?_
    refine lv_iload_n hx hb dX5_state_11 rfl (lv_at hl 1 rfl) ?_
    have hx8 : (x.toNatClampNeg) < 8 := cl_lt (vin_isProc (σ := σ) (by assumption))
    refine x_procs hx hb hK hH x.toNatClampNeg (cl_of (vin_isProc (σ := σ) (by assumption))) (cl_lt (vin_isProc (σ := σ) (by assumption))) dX5_state_12 ?_
    refine fgX5_80 hx hb hts hown hK hH ((x.toNatClampNeg)) (show (x.toNatClampNeg) < 8 by first | assumption | omega) dX5_state_13 ?_
    refine lv_goto (tgt := 20) hx hb dX5_state_16 (by decide) ?_
    exact e_iret hx hb hr hlk hK hH hS dX5_state_20 (by simp only [f_X5_state, if_neg c_4_1]) rfl
def f_X5_look (σ : St) (x : Int32) (y : Int32) : Int64 := (if f_X5_isProcess σ x = 0 then 4294967296 else (if gI σ 5 ((x.toNatClampNeg)) 2 = 0 then 4294967296 else f_X2_part σ ((x.toNatClampNeg)) y))
set_option maxRecDepth 100000 in
set_option maxHeartbeats 4000000 in
theorem k_X5_look (l : Launch) (D : va_G) (cs : Nat → ClassId) (b : Nat) (σ : St) (x : Int32) (y : Int32)  : Met l yX5_look (Cond.code yX5_look cX5_look 3 (some FieldType.long) :: T0) { frames := 2, cells := 0, slots := 0, locals := 42 } (Pe D (tyx cs) b 43 (Ex cs b σ) [.ref (b + xo 0 0), .int (x), .int (y)]) (Ql D (tyx cs) b 43 (Ex cs b σ) (f_X5_look σ x y)) 0 0 (fun a => b ≤ a) := by
  refine e_met (by decide) rfl (Nat.le_of_ble_eq_true rfl) (fun pg e s m below meth c ls hx hb hr hml hts0 hown hlk hnm hH hK hl hS => ?_)
  have hts : ∀ w ∈ T0, w.before _ s = true := fun w h => hts0 w (List.mem_cons_of_mem _ h)
  have hl : lv_has ls 3 [(0, .ref (b + xo 0 0)), (1, .int (x)), (2, .int (y))] := hl
  refine lv_iload_n hx hb dX5_look_0 rfl (lv_at hl 1 rfl) ?_
  refine e_ci (e_runS (As := [.int (x)]) (rest := []) ⟨hx, hb, hml, hown, hts⟩ (k_X5_isProcess l D cs b σ x ) ⟨callB_of 1 hts (gC wC_X5_isProcess) rfl rfl rfl (hts _ wi_X5) (hts _ wM_X5_90) (by decide +kernel) (by decide), hts _ wT_X5_isProcess⟩ hK hH rfl hl.1 rfl (Nat.le_of_ble_eq_true rfl) dX5_look_1 (by decide)) hS (fun H locs hH hS => ?_)
  refine lv_if_eq (tgt := 19) hx hb dX5_look_4 (by decide) (fun c_4_1 => ?_) (fun c_4_1 => ?_)
  ·
    refine lv_ldc2 hx hb hown (hts _ wK_X5_93) dX5_look_19 ?_
    exact e_lret hx hb hr hlk hK hH hS dX5_look_22 (by simp only [f_X5_look, if_pos c_4_1]) rfl
  ·
    refine lv_aload_n hx hb dX5_look_7 rfl (lv_at hl 0 rfl) ?_
    refine fgX5_18 hx hb hts hown hK hH 0 (by decide) dX5_look_8 ?_
    refine lv_iload_n hx hb dX5_look_11 rfl (lv_at hl 1 rfl) ?_
    have hx8 : (x.toNatClampNeg) < 8 := cl_lt (vin_isProc (σ := σ) (by assumption))
    refine x_procs hx hb hK hH x.toNatClampNeg (cl_of (vin_isProc (σ := σ) (by assumption))) (cl_lt (vin_isProc (σ := σ) (by assumption))) dX5_look_12 ?_
    refine fgX5_80 hx hb hts hown hK hH ((x.toNatClampNeg)) (show (x.toNatClampNeg) < 8 by first | assumption | omega) dX5_look_13 ?_
    refine lv_if_ne (tgt := 23) hx hb dX5_look_16 (by decide) (fun c_16_2 => ?_) (fun c_16_2 => ?_)
    ·
      refine lv_aload_n hx hb dX5_look_23 rfl (lv_at hl 0 rfl) ?_
      refine fgX5_18 hx hb hts hown hK hH 0 (by decide) dX5_look_24 ?_
      refine lv_iload_n hx hb dX5_look_27 rfl (lv_at hl 1 rfl) ?_
      refine x_procs hx hb hK hH x.toNatClampNeg (cl_of (vin_isProc (σ := σ) (by assumption))) (cl_lt (vin_isProc (σ := σ) (by assumption))) dX5_look_28 ?_
      refine lv_iload_n hx hb dX5_look_29 rfl (lv_at hl 2 rfl) ?_
      refine e_cl (e_runV (C := RX2) (ci := 2) (As := [.int (y)]) (rest := []) ⟨hx, hb, hml, hown, hts⟩ (k_X2_part l D cs b σ ((x.toNatClampNeg)) y (by first | assumption | omega | decide)) ⟨callB_of 1 hts (gC wC_X2_part) rfl rfl rfl (hts _ wi_X2) (hts _ wM_X5_95) (by decide +kernel) (by decide), hts _ wN_X2_part, hts _ wS_X2_part⟩ hK hH (xo_ok (show (x.toNatClampNeg) < xn 5 by first | assumption | (show (x.toNatClampNeg) < 8; first | assumption | omega))).2.2 (Ex_at cs b σ (show (x.toNatClampNeg) < xn 5 by first | assumption | (show (x.toNatClampNeg) < 8; first | assumption | omega))) rfl rfl rfl hl.1 rfl (Nat.le_of_ble_eq_true rfl) dX5_look_30 (by decide)) hS (fun H locs hH hS => ?_)
      exact e_lret hx hb hr hlk hK hH hS dX5_look_33 (by simp only [f_X5_look, if_neg c_4_1, if_neg c_16_2]) rfl
    ·
      refine lv_ldc2 hx hb hown (hts _ wK_X5_93) dX5_look_19 ?_
      exact e_lret hx hb hr hlk hK hH hS dX5_look_22 (by simp only [f_X5_look, if_neg c_4_1, if_pos c_16_2]) rfl
def f_X5_waiting (σ : St) (x : Int32) (y : Int32) : Int32 := (if f_X5_isPriority σ x = 0 then (-1) else f_X4_numberAt σ ((f_X5_rowOf σ x)) y)
set_option maxRecDepth 100000 in
set_option maxHeartbeats 4000000 in
theorem k_X5_waiting (l : Launch) (D : va_G) (cs : Nat → ClassId) (b : Nat) (σ : St) (x : Int32) (y : Int32) (ho : ok σ) : Met l yX5_waiting (Cond.code yX5_waiting cX5_waiting 3 (some FieldType.int) :: T0) { frames := 1, cells := 0, slots := 0, locals := 22 } (Pe D (tyx cs) b 43 (Ex cs b σ) [.ref (b + xo 0 0), .int (x), .int (y)]) (Qi D (tyx cs) b 43 (Ex cs b σ) (f_X5_waiting σ x y)) 0 0 (fun a => b ≤ a) := by
  refine e_met (by decide) rfl (Nat.le_of_ble_eq_true rfl) (fun pg e s m below meth c ls hx hb hr hml hts0 hown hlk hnm hH hK hl hS => ?_)
  have hts : ∀ w ∈ T0, w.before _ s = true := fun w h => hts0 w (List.mem_cons_of_mem _ h)
  have hl : lv_has ls 3 [(0, .ref (b + xo 0 0)), (1, .int (x)), (2, .int (y))] := hl
  refine lv_iload_n hx hb dX5_waiting_0 rfl (lv_at hl 1 rfl) ?_
  refine e_ci (e_runS (As := [.int (x)]) (rest := []) ⟨hx, hb, hml, hown, hts⟩ (k_X5_isPriority l D cs b σ x ) ⟨callB_of 1 hts (gC wC_X5_isPriority) rfl rfl rfl (hts _ wi_X5) (hts _ wM_X5_68) (by decide +kernel) (by decide), hts _ wT_X5_isPriority⟩ hK hH rfl hl.1 rfl (Nat.le_of_ble_eq_true rfl) dX5_waiting_1 (by decide)) hS (fun H locs hH hS => ?_)
  refine lv_if_eq (tgt := 19) hx hb dX5_waiting_4 (by decide) (fun c_4_1 => ?_) (fun c_4_1 => ?_)
  ·
    refine lv_iconst (v := (-1)) hx hb dX5_waiting_19 (by decide) ?_
    exact e_iret hx hb hr hlk hK hH hS dX5_waiting_20 (by simp only [f_X5_waiting, if_pos c_4_1]) rfl
  ·
    refine lv_aload_n hx hb dX5_waiting_7 rfl (lv_at hl 0 rfl) ?_
    refine lv_iload_n hx hb dX5_waiting_8 rfl (lv_at hl 1 rfl) ?_
    refine e_cq (e_runV (C := RX5) (ci := 5) (As := [.int (x)]) (rest := []) ⟨hx, hb, hml, hown, hts⟩ (k_X5_rowOf l D cs b σ x ) ⟨callB_of 1 hts (gC wC_X5_rowOf) rfl rfl rfl (hts _ wi_X5) (hts _ wM_X5_99) (by decide +kernel) (by decide), hts _ wN_X5_rowOf, hts _ wS_X5_rowOf⟩ hK hH (xo_ok (by decide)).2.2 (Ex_at cs b σ (by decide)) rfl rfl rfl hl.1 rfl (Nat.le_of_ble_eq_true rfl) dX5_waiting_9 (by decide)) hS (fun H locs hH hS => ?_)
    refine W.eq (g2 := F0 m 12 ls [.ref (b + xo 9 (f_X5_rowOf σ x))]) rfl ?_
    have hrw : f_X5_rowOf σ x < 2 := rowOf_lt _ _
    refine lv_iload_n hx hb dX5_waiting_12 rfl (lv_at hl 2 rfl) ?_
    refine e_ci (e_runV (C := RX4) (ci := 4) (As := [.int (y)]) (rest := []) ⟨hx, hb, hml, hown, hts⟩ (k_X4_numberAt l D cs b σ ((f_X5_rowOf σ x)) y (by assumption) (ok_R (by assumption) ho)) ⟨callB_of 1 hts (gC wC_X4_numberAt) rfl rfl rfl (hts _ wi_X4) (hts _ wM_X5_103) (by decide +kernel) (by decide), hts _ wN_X4_numberAt, hts _ wS_X4_numberAt⟩ hK hH (xo_ok (show (f_X5_rowOf σ x) < xn 9 by first | assumption | (show (f_X5_rowOf σ x) < 2; first | assumption | omega))).2.2 (Ex_at cs b σ (show (f_X5_rowOf σ x) < xn 9 by first | assumption | (show (f_X5_rowOf σ x) < 2; first | assumption | omega))) rfl rfl rfl hl.1 rfl (Nat.le_of_ble_eq_true rfl) dX5_waiting_13 (by decide)) hS (fun H locs hH hS => ?_)
    refine lv_goto (tgt := 20) hx hb dX5_waiting_16 (by decide) ?_
    exact e_iret hx hb hr hlk hK hH hS dX5_waiting_20 (by simp only [f_X5_waiting, if_neg c_4_1]) rfl
def f_X5_channel (σ : St) (x : Int32) : Int32 := (oC (f_X5_channelAt σ x) ((-1)) (fun q2_1 => f_X0_code σ q2_1))
set_option maxRecDepth 100000 in
set_option maxHeartbeats 4000000 in
theorem k_X5_channel (l : Launch) (D : va_G) (cs : Nat → ClassId) (b : Nat) (σ : St) (x : Int32) (ho : ok σ) : Met l yX5_channel (Cond.code yX5_channel cX5_channel 3 (some FieldType.int) :: T0) { frames := 1, cells := 0, slots := 0, locals := 21 } (Pe D (tyx cs) b 43 (Ex cs b σ) [.ref (b + xo 0 0), .int (x)]) (Qi D (tyx cs) b 43 (Ex cs b σ) (f_X5_channel σ x)) 0 0 (fun a => b ≤ a) := by
  refine e_met (by decide) rfl (Nat.le_of_ble_eq_true rfl) (fun pg e s m below meth c ls hx hb hr hml hts0 hown hlk hnm hH hK hl hS => ?_)
  have hts : ∀ w ∈ T0, w.before _ s = true := fun w h => hts0 w (List.mem_cons_of_mem _ h)
  have hl : lv_has ls 3 [(0, .ref (b + xo 0 0)), (1, .int (x))] := hl
  refine lv_aload_n hx hb dX5_channel_0 rfl (lv_at hl 0 rfl) ?_
  refine lv_iload_n hx hb dX5_channel_1 rfl (lv_at hl 1 rfl) ?_
  refine e_cq (e_runV (C := RX5) (ci := 5) (As := [.int (x)]) (rest := []) ⟨hx, hb, hml, hown, hts⟩ (k_X5_channelAt l D cs b σ x ) ⟨callB_of 1 hts (gC wC_X5_channelAt) rfl rfl rfl (hts _ wi_X5) (hts _ wM_X5_107) (by decide +kernel) (by decide), hts _ wN_X5_channelAt, hts _ wS_X5_channelAt⟩ hK hH (xo_ok (by decide)).2.2 (Ex_at cs b σ (by decide)) rfl rfl rfl hl.1 rfl (Nat.le_of_ble_eq_true rfl) dX5_channel_2 (by decide)) hS (fun H locs hH hS => ?_)
  rcases hq_2_1 : f_X5_channelAt σ x with _ | q2_1
  ·
    refine W.eq (g2 := F0 m 5 ls [.null]) rfl ?_
    refine lv_astore_nN (lv' := [(2, .null), (0, .ref (b + xo 0 0)), (1, .int (x))]) hx hb dX5_channel_5 rfl hl (by decide) rfl (fun ls hl => ?_)
    refine lv_aload_nN hx hb dX5_channel_6 rfl (lv_at hl 0 rfl) ?_
    refine lv_ifnonnullN hx hb dX5_channel_7 ?_
    refine lv_iconst (v := (-1)) hx hb dX5_channel_10 (by decide) ?_
    refine lv_goto (tgt := 18) hx hb dX5_channel_11 (by decide) ?_
    exact e_iret hx hb hr hlk hK hH hS dX5_channel_18 (by simp only [f_X5_channel, hq_2_1, oC_none]) rfl
  ·
    have q2_1b := channelAt_lt hq_2_1
    refine W.eq (g2 := F0 m 5 ls [.ref (b + xo 8 q2_1)]) rfl ?_
    refine lv_astore_n (lv' := [(2, .ref (b + xo 8 q2_1)), (0, .ref (b + xo 0 0)), (1, .int (x))]) hx hb dX5_channel_5 rfl hl (by decide) rfl (fun ls hl => ?_)
    refine lv_aload_n hx hb dX5_channel_6 rfl (lv_at hl 0 rfl) ?_
    refine lv_ifnonnull (tgt := 14) hx hb dX5_channel_7 (by decide) ?_
    refine lv_aload_n hx hb dX5_channel_14 rfl (lv_at hl 0 rfl) ?_
    refine e_ci (e_runV (C := RX0) (ci := 0) (As := []) (rest := []) ⟨hx, hb, hml, hown, hts⟩ (k_X0_code l D cs b σ q2_1 (by assumption) (ho.2.2.2 _)) ⟨callB_of 0 hts (gC wC_X0_code) rfl rfl rfl (hts _ wi_X0) (hts _ wM_X5_111) (by decide +kernel) (by decide), hts _ wN_X0_code, hts _ wS_X0_code⟩ hK hH (xo_ok (show q2_1 < xn 8 by first | assumption | (show q2_1 < 4; first | assumption | omega))).2.2 (Ex_at cs b σ (show q2_1 < xn 8 by first | assumption | (show q2_1 < 4; first | assumption | omega))) rfl rfl rfl hl.1 rfl (Nat.le_of_ble_eq_true rfl) dX5_channel_15 (by decide)) hS (fun H locs hH hS => ?_)
    exact e_iret hx hb hr hlk hK hH hS dX5_channel_18 (by simp only [f_X5_channel, hq_2_1, oC_some]) rfl
