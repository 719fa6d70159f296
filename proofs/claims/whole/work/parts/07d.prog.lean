def f_X3_append (σ : St) (x : Int32) (y : Int32) : Int32 × St := (if gI σ 1 0 2 < 0 then ((-1), σ) else (if gI σ 1 0 2 < 40 then (gI σ 1 0 2, sI (sI (sI σ 2 0 (gI σ 1 0 2).toNatClampNeg x) 3 0 (gI σ 1 0 2).toNatClampNeg y) 1 0 2 ((gI σ 1 0 2) + 1)) else ((-1), σ)))
set_option maxRecDepth 100000 in
set_option maxHeartbeats 4000000 in
theorem k_X3_append (l : Launch) (D : va_G) (cs : Nat → ClassId) (b : Nat) (σ : St) (x : Int32) (y : Int32)  : Met l yX3_append (Cond.code yX3_append cX3_append 4 (some FieldType.int) :: T0) { frames := 0, cells := 0, slots := 0, locals := 0 } (Pe D (tyx cs) b 43 (Ex cs b σ) [.ref (b + xo 1 0), .int (x), .int (y)]) (Qi D (tyx cs) b 43 (Ex cs b (f_X3_append σ x y).2) (f_X3_append σ x y).1) 0 0 (fun a => b ≤ a) := by
  refine e_met (by decide) rfl (Nat.le_of_ble_eq_true rfl) (fun pg e s m below meth c ls hx hb hr hml hts0 hown hlk hnm hH hK hl hS => ?_)
  have hts : ∀ w ∈ T0, w.before _ s = true := fun w h => hts0 w (List.mem_cons_of_mem _ h)
  have hl : lv_has ls 4 [(0, .ref (b + xo 1 0)), (1, .int (x)), (2, .int (y))] := hl
  refine lv_aload_n hx hb dX3_append_0 rfl (lv_at hl 0 rfl) ?_
  refine fgX3_18 hx hb hts hown hK hH 0 (by decide) dX3_append_1 ?_
  refine lv_istore_n (lv' := [(3, .int (gI σ 1 0 2)), (0, .ref (b + xo 1 0)), (1, .int (x)), (2, .int (y))]) hx hb dX3_append_4 rfl hl (by decide) rfl (fun ls hl => ?_)
  refine lv_iload_n hx hb dX3_append_5 rfl (lv_at hl 0 rfl) ?_
  refine lv_if_lt (tgt := 15) hx hb dX3_append_6 (by decide) (fun c_6_1 => ?_) (fun c_6_1 => ?_)
  ·
    refine lv_iconst (v := (-1)) hx hb dX3_append_15 (by decide) ?_
    exact e_iret hx hb hr hlk hK hH hS dX3_append_16 (by simp only [f_X3_append, if_pos c_6_1]) (congrArg (Ex cs b) (by simp only [f_X3_append, if_pos c_6_1]))
  ·
    refine lv_iload_n hx hb dX3_append_9 rfl (lv_at hl 0 rfl) ?_
    refine lv_bipush (v := 40) hx hb dX3_append_10 (by decide) ?_
    refine lv_icmp_lt (tgt := 17) hx hb dX3_append_12 (by decide) (fun c_12_2 => ?_) (fun c_12_2 => ?_)
    ·
      refine lv_aload_n hx hb dX3_append_17 rfl (lv_at hl 1 rfl) ?_
      refine fgX3_9 hx hb hts hown hK hH 0 (by decide) dX3_append_18 ?_
      refine lv_iload_n hx hb dX3_append_21 rfl (lv_at hl 0 rfl) ?_
      refine lv_iload_n hx hb dX3_append_22 rfl (lv_at hl 2 rfl) ?_
      refine x_iastU hx hb hK hH hS 2 0 40 (by decide) (fun _ _ => rfl) (vin_lt 40 (by assumption) (by assumption) (by decide)) dX3_append_23 (fun H locs hH hS => ?_)
      refine lv_aload_n hx hb dX3_append_24 rfl (lv_at hl 1 rfl) ?_
      refine fgX3_15 hx hb hts hown hK hH 0 (by decide) dX3_append_25 ?_
      refine lv_iload_n hx hb dX3_append_28 rfl (lv_at hl 0 rfl) ?_
      refine lv_iload_n hx hb dX3_append_29 rfl (lv_at hl 3 rfl) ?_
      refine x_iastU hx hb hK hH hS 3 0 40 (by decide) (fun _ _ => rfl) (vin_lt 40 (by assumption) (by assumption) (by decide)) dX3_append_30 (fun H locs hH hS => ?_)
      refine lv_aload_n hx hb dX3_append_31 rfl (lv_at hl 1 rfl) ?_
      refine lv_iload_n hx hb dX3_append_32 rfl (lv_at hl 0 rfl) ?_
      refine lv_iconst (v := 1) hx hb dX3_append_33 (by decide) ?_
      refine lv_iadd hx hb dX3_append_34 ?_
      refine fpX3_18 hx hb hts hown hK hH hS 0 (by decide) dX3_append_35 (fun H locs hH hS => ?_)
      refine lv_iload_n hx hb dX3_append_38 rfl (lv_at hl 0 rfl) ?_
      exact e_iret hx hb hr hlk hK hH hS dX3_append_39 (by simp only [f_X3_append, if_neg c_6_1, if_pos c_12_2]) (congrArg (Ex cs b) (by simp only [f_X3_append, if_neg c_6_1, if_pos c_12_2]))
    ·
      refine lv_iconst (v := (-1)) hx hb dX3_append_15 (by decide) ?_
      exact e_iret hx hb hr hlk hK hH hS dX3_append_16 (by simp only [f_X3_append, if_neg c_6_1, if_neg c_12_2]) (congrArg (Ex cs b) (by simp only [f_X3_append, if_neg c_6_1, if_neg c_12_2]))
def f_X3_holds (σ : St) (x : Int32) : Int32 := (if x < 0 then 0 else (if gI σ 1 0 2 ≤ x then 0 else (if 40 ≤ x then 0 else 1)))
set_option maxRecDepth 100000 in
set_option maxHeartbeats 4000000 in
theorem k_X3_holds (l : Launch) (D : va_G) (cs : Nat → ClassId) (b : Nat) (σ : St) (x : Int32)  : Met l yX3_holds (Cond.code yX3_holds cX3_holds 2 (some FieldType.boolean) :: T0) { frames := 0, cells := 0, slots := 0, locals := 0 } (Pe D (tyx cs) b 43 (Ex cs b σ) [.ref (b + xo 1 0), .int (x)]) (Qi D (tyx cs) b 43 (Ex cs b σ) (f_X3_holds σ x)) 0 0 (fun a => b ≤ a) := by
  refine e_met (by decide) rfl (Nat.le_of_ble_eq_true rfl) (fun pg e s m below meth c ls hx hb hr hml hts0 hown hlk hnm hH hK hl hS => ?_)
  have hts : ∀ w ∈ T0, w.before _ s = true := fun w h => hts0 w (List.mem_cons_of_mem _ h)
  have hl : lv_has ls 2 [(0, .ref (b + xo 1 0)), (1, .int (x))] := hl
  refine lv_iload_n hx hb dX3_holds_0 rfl (lv_at hl 1 rfl) ?_
  refine lv_if_lt (tgt := 22) hx hb dX3_holds_1 (by decide) (fun c_1_1 => ?_) (fun c_1_1 => ?_)
  ·
    refine lv_iconst (v := 0) hx hb dX3_holds_22 (by decide) ?_
    exact e_zret hx hb hr hlk hK hH hS dX3_holds_23 (by rfl) (by simp only [f_X3_holds, if_pos c_1_1]) rfl
  ·
    refine lv_iload_n hx hb dX3_holds_4 rfl (lv_at hl 1 rfl) ?_
    refine lv_aload_n hx hb dX3_holds_5 rfl (lv_at hl 0 rfl) ?_
    refine fgX3_18 hx hb hts hown hK hH 0 (by decide) dX3_holds_6 ?_
    refine lv_icmp_ge (tgt := 22) hx hb dX3_holds_9 (by decide) (fun c_9_2 => ?_) (fun c_9_2 => ?_)
    ·
      refine lv_iconst (v := 0) hx hb dX3_holds_22 (by decide) ?_
      exact e_zret hx hb hr hlk hK hH hS dX3_holds_23 (by rfl) (by simp only [f_X3_holds, if_neg c_1_1, if_pos c_9_2]) rfl
    ·
      refine lv_iload_n hx hb dX3_holds_12 rfl (lv_at hl 1 rfl) ?_
      refine lv_bipush (v := 40) hx hb dX3_holds_13 (by decide) ?_
      refine lv_icmp_ge (tgt := 22) hx hb dX3_holds_15 (by decide) (fun c_15_3 => ?_) (fun c_15_3 => ?_)
      ·
        refine lv_iconst (v := 0) hx hb dX3_holds_22 (by decide) ?_
        exact e_zret hx hb hr hlk hK hH hS dX3_holds_23 (by rfl) (by simp only [f_X3_holds, if_neg c_1_1, if_neg c_9_2, if_pos c_15_3]) rfl
      ·
        refine lv_iconst (v := 1) hx hb dX3_holds_18 (by decide) ?_
        refine lv_goto (tgt := 23) hx hb dX3_holds_19 (by decide) ?_
        exact e_zret hx hb hr hlk hK hH hS dX3_holds_23 (by rfl) (by simp only [f_X3_holds, if_neg c_1_1, if_neg c_9_2, if_neg c_15_3]) rfl
theorem vin_holds {σ : St} {x : Int32} (h : ¬ f_X3_holds σ x = 0) : vp_in x 40 := by
  unfold f_X3_holds at h
  split at h
  · exact absurd rfl h
  · split at h
    · exact absurd rfl h
    · split at h
      · exact absurd rfl h
      · exact vin_nle 40 (by assumption) (by assumption) (by decide)
def f_X3_opAt (σ : St) (x : Int32) : Int32 := (if f_X3_holds σ x = 0 then 0 else gI σ 2 0 x.toNatClampNeg)
set_option maxRecDepth 100000 in
set_option maxHeartbeats 4000000 in
theorem k_X3_opAt (l : Launch) (D : va_G) (cs : Nat → ClassId) (b : Nat) (σ : St) (x : Int32)  : Met l yX3_opAt (Cond.code yX3_opAt cX3_opAt 2 (some FieldType.int) :: T0) { frames := 1, cells := 0, slots := 0, locals := 21 } (Pe D (tyx cs) b 43 (Ex cs b σ) [.ref (b + xo 1 0), .int (x)]) (Qi D (tyx cs) b 43 (Ex cs b σ) (f_X3_opAt σ x)) 0 0 (fun a => b ≤ a) := by
  refine e_met (by decide) rfl (Nat.le_of_ble_eq_true rfl) (fun pg e s m below meth c ls hx hb hr hml hts0 hown hlk hnm hH hK hl hS => ?_)
  have hts : ∀ w ∈ T0, w.before _ s = true := fun w h => hts0 w (List.mem_cons_of_mem _ h)
  have hl : lv_has ls 2 [(0, .ref (b + xo 1 0)), (1, .int (x))] := hl
  refine lv_aload_n hx hb dX3_opAt_0 rfl (lv_at hl 0 rfl) ?_
  refine lv_iload_n hx hb dX3_opAt_1 rfl (lv_at hl 1 rfl) ?_
  refine e_ci (e_runV (C := RX3) (ci := 3) (As := [.int (x)]) (rest := []) ⟨hx, hb, hml, hown, hts⟩ (k_X3_holds l D cs b σ x ) ⟨callB_of 1 hts (gC wC_X3_holds) rfl rfl rfl (hts _ wi_X3) (hts _ wM_X3_22) (by decide +kernel) (by decide), hts _ wN_X3_holds, hts _ wS_X3_holds⟩ hK hH (xo_ok (by decide)).2.2 (Ex_at cs b σ (by decide)) rfl rfl rfl hl.1 rfl (Nat.le_of_ble_eq_true rfl) dX3_opAt_2 (by decide)) hS (fun H locs hH hS => ?_)
  refine lv_if_eq (tgt := 17) hx hb dX3_opAt_5 (by decide) (fun c_5_1 => ?_) (fun c_5_1 => ?_)
  ·
    refine lv_iconst (v := 0) hx hb dX3_opAt_17 (by decide) ?_
    exact e_iret hx hb hr hlk hK hH hS dX3_opAt_18 (by simp only [f_X3_opAt, if_pos c_5_1]) rfl
  ·
    refine lv_aload_n hx hb dX3_opAt_8 rfl (lv_at hl 0 rfl) ?_
    refine fgX3_9 hx hb hts hown hK hH 0 (by decide) dX3_opAt_9 ?_
    refine lv_iload_n hx hb dX3_opAt_12 rfl (lv_at hl 1 rfl) ?_
    refine x_ialdU hx hb hK hH 2 0 40 (by decide) rfl (vin_holds (by assumption)) dX3_opAt_13 ?_
    refine lv_goto (tgt := 18) hx hb dX3_opAt_14 (by decide) ?_
    exact e_iret hx hb hr hlk hK hH hS dX3_opAt_18 (by simp only [f_X3_opAt, if_neg c_5_1]) rfl
def f_X3_operandAt (σ : St) (x : Int32) : Int32 := (if f_X3_holds σ x = 0 then 0 else gI σ 3 0 x.toNatClampNeg)
set_option maxRecDepth 100000 in
set_option maxHeartbeats 4000000 in
theorem k_X3_operandAt (l : Launch) (D : va_G) (cs : Nat → ClassId) (b : Nat) (σ : St) (x : Int32)  : Met l yX3_operandAt (Cond.code yX3_operandAt cX3_operandAt 2 (some FieldType.int) :: T0) { frames := 1, cells := 0, slots := 0, locals := 21 } (Pe D (tyx cs) b 43 (Ex cs b σ) [.ref (b + xo 1 0), .int (x)]) (Qi D (tyx cs) b 43 (Ex cs b σ) (f_X3_operandAt σ x)) 0 0 (fun a => b ≤ a) := by
  refine e_met (by decide) rfl (Nat.le_of_ble_eq_true rfl) (fun pg e s m below meth c ls hx hb hr hml hts0 hown hlk hnm hH hK hl hS => ?_)
  have hts : ∀ w ∈ T0, w.before _ s = true := fun w h => hts0 w (List.mem_cons_of_mem _ h)
  have hl : lv_has ls 2 [(0, .ref (b + xo 1 0)), (1, .int (x))] := hl
  refine lv_aload_n hx hb dX3_operandAt_0 rfl (lv_at hl 0 rfl) ?_
  refine lv_iload_n hx hb dX3_operandAt_1 rfl (lv_at hl 1 rfl) ?_
  refine e_ci (e_runV (C := RX3) (ci := 3) (As := [.int (x)]) (rest := []) ⟨hx, hb, hml, hown, hts⟩ (k_X3_holds l D cs b σ x ) ⟨callB_of 1 hts (gC wC_X3_holds) rfl rfl rfl (hts _ wi_X3) (hts _ wM_X3_22) (by decide +kernel) (by decide), hts _ wN_X3_holds, hts _ wS_X3_holds⟩ hK hH (xo_ok (by decide)).2.2 (Ex_at cs b σ (by decide)) rfl rfl rfl hl.1 rfl (Nat.le_of_ble_eq_true rfl) dX3_operandAt_2 (by decide)) hS (fun H locs hH hS => ?_)
  refine lv_if_eq (tgt := 17) hx hb dX3_operandAt_5 (by decide) (fun c_5_1 => ?_) (fun c_5_1 => ?_)
  ·
    refine lv_iconst (v := 0) hx hb dX3_operandAt_17 (by decide) ?_
    exact e_iret hx hb hr hlk hK hH hS dX3_operandAt_18 (by simp only [f_X3_operandAt, if_pos c_5_1]) rfl
  ·
    refine lv_aload_n hx hb dX3_operandAt_8 rfl (lv_at hl 0 rfl) ?_
    refine fgX3_15 hx hb hts hown hK hH 0 (by decide) dX3_operandAt_9 ?_
    refine lv_iload_n hx hb dX3_operandAt_12 rfl (lv_at hl 1 rfl) ?_
    refine x_ialdU hx hb hK hH 3 0 40 (by decide) rfl (vin_holds (by assumption)) dX3_operandAt_13 ?_
    refine lv_goto (tgt := 18) hx hb dX3_operandAt_14 (by decide) ?_
    exact e_iret hx hb hr hlk hK hH hS dX3_operandAt_18 (by simp only [f_X3_operandAt, if_neg c_5_1]) rfl
