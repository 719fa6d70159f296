def f_X0_clear (σ : St) (k : Nat) : St := sI (sI (sR σ 8 k 1 (none)) 8 k 2 0) 8 k 3 0
set_option maxRecDepth 100000 in
set_option maxHeartbeats 4000000 in
theorem k_X0_clear (l : Launch) (D : va_G) (cs : Nat → ClassId) (b : Nat) (σ : St) (k : Nat) (hk : k < 4) : Met l yX0_clear (Cond.code yX0_clear cX0_clear 1 (none : Option FieldType) :: T0) { frames := 0, cells := 0, slots := 0, locals := 0 } (Pe D (tyx cs) b 43 (Ex cs b σ) [.ref (b + xo 8 k)]) (Qv D (tyx cs) b 43 (Ex cs b (f_X0_clear σ k))) 0 0 (fun a => b ≤ a) := by
  refine e_met (by decide) rfl (Nat.le_of_ble_eq_true rfl) (fun pg e s m below meth c ls hx hb hr hml hts0 hown hlk hnm hH hK hl hS => ?_)
  have hts : ∀ w ∈ T0, w.before _ s = true := fun w h => hts0 w (List.mem_cons_of_mem _ h)
  have hl : lv_has ls 1 [(0, .ref (b + xo 8 k))] := hl
  refine lv_aload_n hx hb dX0_clear_0 rfl (lv_at hl 0 rfl) ?_
  refine lv_null hx hb dX0_clear_1 ?_
  refine fpX0_15 hx hb hts hown hK hH hS k (show k < 4 by first | assumption | omega) (none) rfl dX0_clear_2 (fun H locs hH hS => ?_)
  refine lv_aload_n hx hb dX0_clear_5 rfl (lv_at hl 0 rfl) ?_
  refine lv_iconst (v := 0) hx hb dX0_clear_6 (by decide) ?_
  refine fpX0_19 hx hb hts hown hK hH hS k (show k < 4 by first | assumption | omega) (by decide) dX0_clear_7 (fun H locs hH hS => ?_)
  refine lv_aload_n hx hb dX0_clear_10 rfl (lv_at hl 0 rfl) ?_
  refine lv_iconst (v := 0) hx hb dX0_clear_11 (by decide) ?_
  refine fpX0_23 hx hb hts hown hK hH hS k (show k < 4 by first | assumption | omega) dX0_clear_12 (fun H locs hH hS => ?_)
  exact e_vret hx hb hr hlk hK hH hS dX0_clear_15 (congrArg (Ex cs b) (by simp only [f_X0_clear]))
def f_X0_hold (σ : St) (k : Nat) (q : Nat) (z : Int32) (x : Int32) : St := sI (sI (sI (sR σ 8 k 1 (some q)) 8 k 2 z) 8 k 3 x) 5 q 2 3
set_option maxRecDepth 100000 in
set_option maxHeartbeats 4000000 in
theorem k_X0_hold (l : Launch) (D : va_G) (cs : Nat → ClassId) (b : Nat) (σ : St) (k : Nat) (q : Nat) (z : Int32) (x : Int32) (hk : k < 4) (hq : q < 8) (hz : z = 0 ∨ z = 1) : Met l yX0_hold (Cond.code yX0_hold cX0_hold 4 (none : Option FieldType) :: T0) { frames := 0, cells := 0, slots := 0, locals := 0 } (Pe D (tyx cs) b 43 (Ex cs b σ) [.ref (b + xo 8 k), .ref (b + xo 5 q), .int (z), .int (x)]) (Qv D (tyx cs) b 43 (Ex cs b (f_X0_hold σ k q z x))) 0 0 (fun a => b ≤ a) := by
  refine e_met (by decide) rfl (Nat.le_of_ble_eq_true rfl) (fun pg e s m below meth c ls hx hb hr hml hts0 hown hlk hnm hH hK hl hS => ?_)
  have hts : ∀ w ∈ T0, w.before _ s = true := fun w h => hts0 w (List.mem_cons_of_mem _ h)
  have hl : lv_has ls 4 [(0, .ref (b + xo 8 k)), (1, .ref (b + xo 5 q)), (2, .int (z)), (3, .int (x))] := hl
  refine lv_aload_n hx hb dX0_hold_0 rfl (lv_at hl 0 rfl) ?_
  refine lv_aload_n hx hb dX0_hold_1 rfl (lv_at hl 1 rfl) ?_
  refine fpX0_15 hx hb hts hown hK hH hS k (show k < 4 by first | assumption | omega) (some q) rfl dX0_hold_2 (fun H locs hH hS => ?_)
  refine lv_aload_n hx hb dX0_hold_5 rfl (lv_at hl 0 rfl) ?_
  refine lv_iload_n hx hb dX0_hold_6 rfl (lv_at hl 2 rfl) ?_
  refine fpX0_19 hx hb hts hown hK hH hS k (show k < 4 by first | assumption | omega) hz dX0_hold_7 (fun H locs hH hS => ?_)
  refine lv_aload_n hx hb dX0_hold_10 rfl (lv_at hl 0 rfl) ?_
  refine lv_iload_n hx hb dX0_hold_11 rfl (lv_at hl 3 rfl) ?_
  refine fpX0_23 hx hb hts hown hK hH hS k (show k < 4 by first | assumption | omega) dX0_hold_12 (fun H locs hH hS => ?_)
  refine lv_aload_n hx hb dX0_hold_15 rfl (lv_at hl 1 rfl) ?_
  refine lv_iconst (v := 3) hx hb dX0_hold_16 (by decide) ?_
  refine fpX0_26 hx hb hts hown hK hH hS q (show q < 8 by first | assumption | omega) dX0_hold_17 (fun H locs hH hS => ?_)
  exact e_vret hx hb hr hlk hK hH hS dX0_hold_20 (congrArg (Ex cs b) (by simp only [f_X0_hold]))
def f_X0_hasSender (σ : St) (k : Nat) : Int32 := (oC (gR σ 8 k 1) 0 (fun q1_1 => (if gI σ 8 k 2 = 0 then 0 else 1)))
set_option maxRecDepth 100000 in
set_option maxHeartbeats 4000000 in
theorem k_X0_hasSender (l : Launch) (D : va_G) (cs : Nat → ClassId) (b : Nat) (σ : St) (k : Nat) (hk : k < 4) : Met l yX0_hasSender (Cond.code yX0_hasSender cX0_hasSender 1 (some FieldType.boolean) :: T0) { frames := 0, cells := 0, slots := 0, locals := 0 } (Pe D (tyx cs) b 43 (Ex cs b σ) [.ref (b + xo 8 k)]) (Qi D (tyx cs) b 43 (Ex cs b σ) (f_X0_hasSender σ k)) 0 0 (fun a => b ≤ a) := by
  refine e_met (by decide) rfl (Nat.le_of_ble_eq_true rfl) (fun pg e s m below meth c ls hx hb hr hml hts0 hown hlk hnm hH hK hl hS => ?_)
  have hts : ∀ w ∈ T0, w.before _ s = true := fun w h => hts0 w (List.mem_cons_of_mem _ h)
  have hl : lv_has ls 1 [(0, .ref (b + xo 8 k))] := hl
  refine lv_aload_n hx hb dX0_hasSender_0 rfl (lv_at hl 0 rfl) ?_
  refine fgX0_15 hx hb hts hown hK hH k (show k < 4 by first | assumption | omega) _ rfl dX0_hasSender_1 ?_
  rcases hq_1_1 : gR σ 8 k 1 with _ | q1_1
  ·
    refine W.eq (g2 := F0 m 4 ls [.null]) rfl ?_
    refine lv_ifnullN (tgt := 18) hx hb dX0_hasSender_4 (by decide) ?_
    refine lv_iconst (v := 0) hx hb dX0_hasSender_18 (by decide) ?_
    exact e_zret hx hb hr hlk hK hH hS dX0_hasSender_19 (by rfl) (by simp only [f_X0_hasSender, hq_1_1, oC_none]) rfl
  ·
    refine W.eq (g2 := F0 m 4 ls [.ref (b + xo 5 q1_1)]) rfl ?_
    refine lv_ifnull hx hb dX0_hasSender_4 ?_
    refine lv_aload_n hx hb dX0_hasSender_7 rfl (lv_at hl 0 rfl) ?_
    refine fgX0_19 hx hb hts hown hK hH k (show k < 4 by first | assumption | omega) dX0_hasSender_8 ?_
    refine lv_if_eq (tgt := 18) hx hb dX0_hasSender_11 (by decide) (fun c_11_2 => ?_) (fun c_11_2 => ?_)
    ·
      refine lv_iconst (v := 0) hx hb dX0_hasSender_18 (by decide) ?_
      exact e_zret hx hb hr hlk hK hH hS dX0_hasSender_19 (by rfl) (by simp only [f_X0_hasSender, hq_1_1, oC_some, if_pos c_11_2]) rfl
    ·
      refine lv_iconst (v := 1) hx hb dX0_hasSender_14 (by decide) ?_
      refine lv_goto (tgt := 19) hx hb dX0_hasSender_15 (by decide) ?_
      exact e_zret hx hb hr hlk hK hH hS dX0_hasSender_19 (by rfl) (by simp only [f_X0_hasSender, hq_1_1, oC_some, if_neg c_11_2]) rfl
def f_X0_hasReceiver (σ : St) (k : Nat) : Int32 := (oC (gR σ 8 k 1) 0 (fun q1_1 => (if gI σ 8 k 2 = 0 then 1 else 0)))
set_option maxRecDepth 100000 in
set_option maxHeartbeats 4000000 in
theorem k_X0_hasReceiver (l : Launch) (D : va_G) (cs : Nat → ClassId) (b : Nat) (σ : St) (k : Nat) (hk : k < 4) : Met l yX0_hasReceiver (Cond.code yX0_hasReceiver cX0_hasReceiver 1 (some FieldType.boolean) :: T0) { frames := 0, cells := 0, slots := 0, locals := 0 } (Pe D (tyx cs) b 43 (Ex cs b σ) [.ref (b + xo 8 k)]) (Qi D (tyx cs) b 43 (Ex cs b σ) (f_X0_hasReceiver σ k)) 0 0 (fun a => b ≤ a) := by
  refine e_met (by decide) rfl (Nat.le_of_ble_eq_true rfl) (fun pg e s m below meth c ls hx hb hr hml hts0 hown hlk hnm hH hK hl hS => ?_)
  have hts : ∀ w ∈ T0, w.before _ s = true := fun w h => hts0 w (List.mem_cons_of_mem _ h)
  have hl : lv_has ls 1 [(0, .ref (b + xo 8 k))] := hl
  refine lv_aload_n hx hb dX0_hasReceiver_0 rfl (lv_at hl 0 rfl) ?_
  refine fgX0_15 hx hb hts hown hK hH k (show k < 4 by first | assumption | omega) _ rfl dX0_hasReceiver_1 ?_
  rcases hq_1_1 : gR σ 8 k 1 with _ | q1_1
  ·
    refine W.eq (g2 := F0 m 4 ls [.null]) rfl ?_
    refine lv_ifnullN (tgt := 18) hx hb dX0_hasReceiver_4 (by decide) ?_
    refine lv_iconst (v := 0) hx hb dX0_hasReceiver_18 (by decide) ?_
    exact e_zret hx hb hr hlk hK hH hS dX0_hasReceiver_19 (by rfl) (by simp only [f_X0_hasReceiver, hq_1_1, oC_none]) rfl
  ·
    refine W.eq (g2 := F0 m 4 ls [.ref (b + xo 5 q1_1)]) rfl ?_
    refine lv_ifnull hx hb dX0_hasReceiver_4 ?_
    refine lv_aload_n hx hb dX0_hasReceiver_7 rfl (lv_at hl 0 rfl) ?_
    refine fgX0_19 hx hb hts hown hK hH k (show k < 4 by first | assumption | omega) dX0_hasReceiver_8 ?_
    refine lv_if_ne (tgt := 18) hx hb dX0_hasReceiver_11 (by decide) (fun c_11_2 => ?_) (fun c_11_2 => ?_)
    ·
      refine lv_iconst (v := 0) hx hb dX0_hasReceiver_18 (by decide) ?_
      exact e_zret hx hb hr hlk hK hH hS dX0_hasReceiver_19 (by rfl) (by simp only [f_X0_hasReceiver, hq_1_1, oC_some, if_neg c_11_2]) rfl
    ·
      refine lv_iconst (v := 1) hx hb dX0_hasReceiver_14 (by decide) ?_
      refine lv_goto (tgt := 19) hx hb dX0_hasReceiver_15 (by decide) ?_
      exact e_zret hx hb hr hlk hK hH hS dX0_hasReceiver_19 (by rfl) (by simp only [f_X0_hasReceiver, hq_1_1, oC_some, if_pos c_11_2]) rfl
def f_X0_code (σ : St) (k : Nat) : Int32 := (oC (gR σ 8 k 1) 0 (fun q1_1 => (if gI σ 8 k 2 = 0 then 16 + (nI q1_1) else 8 + (nI q1_1))))
set_option maxRecDepth 100000 in
set_option maxHeartbeats 4000000 in
theorem k_X0_code (l : Launch) (D : va_G) (cs : Nat → ClassId) (b : Nat) (σ : St) (k : Nat) (hk : k < 4) (hw : ∀ p, gR σ 8 k 1 = some p → p < 8) : Met l yX0_code (Cond.code yX0_code cX0_code 1 (some FieldType.int) :: T0) { frames := 0, cells := 0, slots := 0, locals := 0 } (Pe D (tyx cs) b 43 (Ex cs b σ) [.ref (b + xo 8 k)]) (Qi D (tyx cs) b 43 (Ex cs b σ) (f_X0_code σ k)) 0 0 (fun a => b ≤ a) := by
  refine e_met (by decide) rfl (Nat.le_of_ble_eq_true rfl) (fun pg e s m below meth c ls hx hb hr hml hts0 hown hlk hnm hH hK hl hS => ?_)
  have hts : ∀ w ∈ T0, w.before _ s = true := fun w h => hts0 w (List.mem_cons_of_mem _ h)
  have hl : lv_has ls 1 [(0, .ref (b + xo 8 k))] := hl
  refine lv_aload_n hx hb dX0_code_0 rfl (lv_at hl 0 rfl) ?_
  refine fgX0_15 hx hb hts hown hK hH k (show k < 4 by first | assumption | omega) _ rfl dX0_code_1 ?_
  rcases hq_1_1 : gR σ 8 k 1 with _ | q1_1
  ·
    refine W.eq (g2 := F0 m 4 ls [.null]) rfl ?_
    refine lv_ifnonnullN hx hb dX0_code_4 ?_
    refine lv_iconst (v := 0) hx hb dX0_code_7 (by decide) ?_
    exact e_iret hx hb hr hlk hK hH hS dX0_code_8 (by simp only [f_X0_code, hq_1_1, oC_none]) rfl
  ·
    have q1_1b := hw _ hq_1_1
    refine W.eq (g2 := F0 m 4 ls [.ref (b + xo 5 q1_1)]) rfl ?_
    refine lv_ifnonnull (tgt := 9) hx hb dX0_code_4 (by decide) ?_
    refine lv_aload_n hx hb dX0_code_9 rfl (lv_at hl 0 rfl) ?_
    refine fgX0_19 hx hb hts hown hK hH k (show k < 4 by first | assumption | omega) dX0_code_10 ?_
    refine lv_if_eq (tgt := 21) hx hb dX0_code_13 (by decide) (fun c_13_2 => ?_) (fun c_13_2 => ?_)
    ·
      refine lv_bipush (v := 16) hx hb dX0_code_21 (by decide) ?_
      refine lv_aload_n hx hb dX0_code_23 rfl (lv_at hl 0 rfl) ?_
      refine fgX0_15 hx hb hts hown hK hH k (show k < 4 by first | assumption | omega) (some q1_1) (hq_1_1) dX0_code_24 ?_
      refine W.eq (g2 := F0 m 27 ls [.ref (b + xo 5 q1_1), .int (16)]) rfl ?_
      refine fgX0_31 hx hb hts hown hK hH q1_1 (show q1_1 < 8 by first | assumption | omega) dX0_code_27 ?_
      refine lv_iadd hx hb dX0_code_30 ?_
      exact e_iret hx hb hr hlk hK hH hS dX0_code_31 (by simp only [f_X0_code, hq_1_1, oC_some, if_pos c_13_2]) rfl
    ·
      refine lv_bipush (v := 8) hx hb dX0_code_16 (by decide) ?_
      refine lv_goto (tgt := 23) hx hb dX0_code_18 (by decide) ?_
      refine lv_aload_n hx hb dX0_code_23 rfl (lv_at hl 0 rfl) ?_
      refine fgX0_15 hx hb hts hown hK hH k (show k < 4 by first | assumption | omega) (some q1_1) (hq_1_1) dX0_code_24 ?_
      refine W.eq (g2 := F0 m 27 ls [.ref (b + xo 5 q1_1), .int (8)]) rfl ?_
      refine fgX0_31 hx hb hts hown hK hH q1_1 (show q1_1 < 8 by first | assumption | omega) dX0_code_27 ?_
      refine lv_iadd hx hb dX0_code_30 ?_
      exact e_iret hx hb hr hlk hK hH hS dX0_code_31 (by simp only [f_X0_code, hq_1_1, oC_some, if_neg c_13_2]) rfl
