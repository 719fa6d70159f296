def f_X1_roomOf (σ : St) (x : Int32) : Int32 := (x &&& 15) * 5
set_option maxRecDepth 100000 in
set_option maxHeartbeats 4000000 in
theorem k_X1_roomOf (l : Launch) (D : va_G) (cs : Nat → ClassId) (b : Nat) (σ : St) (x : Int32)  : Met l yX1_roomOf (Cond.code yX1_roomOf cX1_roomOf 1 (some FieldType.int) :: T0) { frames := 0, cells := 0, slots := 0, locals := 0 } (Pe D (tyx cs) b 43 (Ex cs b σ) [.int (x)]) (Qi D (tyx cs) b 43 (Ex cs b σ) (f_X1_roomOf σ x)) 0 0 (fun a => b ≤ a) := by
  refine e_met (by decide) rfl (Nat.le_of_ble_eq_true rfl) (fun pg e s m below meth c ls hx hb hr hml hts0 hown hlk hnm hH hK hl hS => ?_)
  have hts : ∀ w ∈ T0, w.before _ s = true := fun w h => hts0 w (List.mem_cons_of_mem _ h)
  have hl : lv_has ls 1 [(0, .int (x))] := hl
  refine lv_iload_n hx hb dX1_roomOf_0 rfl (lv_at hl 0 rfl) ?_
  refine lv_bipush (v := 15) hx hb dX1_roomOf_1 (by decide) ?_
  refine lv_iand hx hb dX1_roomOf_3 ?_
  refine lv_iconst (v := 5) hx hb dX1_roomOf_4 (by decide) ?_
  refine lv_imul hx hb dX1_roomOf_5 ?_
  exact e_iret hx hb hr hlk hK hH hS dX1_roomOf_6 (by simp only [f_X1_roomOf]) rfl
theorem room_of (σ : St) (x : Int32) : ∃ j : Nat, j < 16 ∧ f_X1_roomOf σ x = nI (j * 5) := by
  obtain ⟨j, hj, e⟩ := pk_andE x (m := 15) 4 (by decide)
  exact ⟨j, hj, by unfold f_X1_roomOf; rw [e]; exact pk_mul j 5⟩
theorem vin_room (σ : St) (x y : Int32) (k : Nat) (hk : k < 5) (hy : y = nI k) : vp_in (f_X1_roomOf σ x + y) 80 := by
  obtain ⟨j, hj, e⟩ := room_of σ x
  rw [e, hy, nI_add]
  exact vp_in_nI (by omega) (by decide)
theorem vin_room0 (σ : St) (x : Int32) : vp_in (f_X1_roomOf σ x) 80 := by
  obtain ⟨j, hj, e⟩ := room_of σ x
  rw [e]
  exact vp_in_nI (by omega) (by decide)
theorem vin_roomW (σ : St) (x w : Int32) (h0 : ¬ w < 0) (h : w < 5) : vp_in (f_X1_roomOf σ x + w) 80 := by
  have hw := vin_lt 5 h0 h (by decide)
  exact vin_room σ x w w.toNatClampNeg (cl_lt hw) (cl_of hw)
def f_X1_append (σ : St) (u : Int32) (v : Int32) (w : Int32) (x : Int32) (y : Int32) : St := sI (sI (sI (sI (sI (sI σ 12 0 (f_X1_roomOf σ (gI σ 11 0 1)).toNatClampNeg u) 12 0 ((f_X1_roomOf σ (gI σ 11 0 1)) + 1).toNatClampNeg v) 12 0 ((f_X1_roomOf σ (gI σ 11 0 1)) + 2).toNatClampNeg w) 12 0 ((f_X1_roomOf σ (gI σ 11 0 1)) + 3).toNatClampNeg x) 12 0 ((f_X1_roomOf σ (gI σ 11 0 1)) + 4).toNatClampNeg y) 11 0 1 ((gI (sI (sI (sI (sI (sI σ 12 0 (f_X1_roomOf σ (gI σ 11 0 1)).toNatClampNeg u) 12 0 ((f_X1_roomOf σ (gI σ 11 0 1)) + 1).toNatClampNeg v) 12 0 ((f_X1_roomOf σ (gI σ 11 0 1)) + 2).toNatClampNeg w) 12 0 ((f_X1_roomOf σ (gI σ 11 0 1)) + 3).toNatClampNeg x) 12 0 ((f_X1_roomOf σ (gI σ 11 0 1)) + 4).toNatClampNeg y) 11 0 1) + 1)
set_option maxRecDepth 100000 in
set_option maxHeartbeats 4000000 in
theorem k_X1_append (l : Launch) (D : va_G) (cs : Nat → ClassId) (b : Nat) (σ : St) (u : Int32) (v : Int32) (w : Int32) (x : Int32) (y : Int32)  : Met l yX1_append (Cond.code yX1_append cX1_append 7 (none : Option FieldType) :: T0) { frames := 1, cells := 0, slots := 0, locals := 20 } (Pe D (tyx cs) b 43 (Ex cs b σ) [.ref (b + xo 11 0), .int (u), .int (v), .int (w), .int (x), .int (y)]) (Qv D (tyx cs) b 43 (Ex cs b (f_X1_append σ u v w x y))) 0 0 (fun a => b ≤ a) := by
  refine e_met (by decide) rfl (Nat.le_of_ble_eq_true rfl) (fun pg e s m below meth c ls hx hb hr hml hts0 hown hlk hnm hH hK hl hS => ?_)
  have hts : ∀ w ∈ T0, w.before _ s = true := fun w h => hts0 w (List.mem_cons_of_mem _ h)
  have hl : lv_has ls 7 [(0, .ref (b + xo 11 0)), (1, .int (u)), (2, .int (v)), (3, .int (w)), (4, .int (x)), (5, .int (y))] := hl
  refine lv_aload_n hx hb dX1_append_0 rfl (lv_at hl 0 rfl) ?_
  refine fgX1_15 hx hb hts hown hK hH 0 (by decide) dX1_append_1 ?_
  refine e_ci (e_runS (As := [.int (gI σ 11 0 1)]) (rest := []) ⟨hx, hb, hml, hown, hts⟩ (k_X1_roomOf l D cs b σ (gI σ 11 0 1) ) ⟨callB_of 1 hts (gC wC_X1_roomOf) rfl rfl rfl (hts _ wi_X1) (hts _ wM_X1_19) (by decide +kernel) (by decide), hts _ wT_X1_roomOf⟩ hK hH rfl hl.1 rfl (Nat.le_of_ble_eq_true rfl) dX1_append_4 (by decide)) hS (fun H locs hH hS => ?_)
  refine lv_istore (lv' := [(6, .int (f_X1_roomOf σ (gI σ 11 0 1))), (0, .ref (b + xo 11 0)), (1, .int (u)), (2, .int (v)), (3, .int (w)), (4, .int (x)), (5, .int (y))]) hx hb dX1_append_7 hl (by decide) rfl (fun ls hl => ?_)
  refine lv_aload_n hx hb dX1_append_9 rfl (lv_at hl 1 rfl) ?_
  refine fgX1_9 hx hb hts hown hK hH 0 (by decide) dX1_append_10 ?_
  refine lv_iload hx hb dX1_append_13 (lv_at hl 0 rfl) ?_
  refine lv_iload_n hx hb dX1_append_15 rfl (lv_at hl 2 rfl) ?_
  refine x_iastU hx hb hK hH hS 12 0 80 (by decide) (fun _ _ => rfl) (vin_room0 _ _) dX1_append_16 (fun H locs hH hS => ?_)
  refine lv_aload_n hx hb dX1_append_17 rfl (lv_at hl 1 rfl) ?_
  refine fgX1_9 hx hb hts hown hK hH 0 (by decide) dX1_append_18 ?_
  refine lv_iload hx hb dX1_append_21 (lv_at hl 0 rfl) ?_
  refine lv_iconst (v := 1) hx hb dX1_append_23 (by decide) ?_
  refine lv_iadd hx hb dX1_append_24 ?_
  refine lv_iload_n hx hb dX1_append_25 rfl (lv_at hl 3 rfl) ?_
  refine x_iastU hx hb hK hH hS 12 0 80 (by decide) (fun _ _ => rfl) (vin_room _ _ _ 1 (by decide) rfl) dX1_append_26 (fun H locs hH hS => ?_)
  refine lv_aload_n hx hb dX1_append_27 rfl (lv_at hl 1 rfl) ?_
  refine fgX1_9 hx hb hts hown hK hH 0 (by decide) dX1_append_28 ?_
  refine lv_iload hx hb dX1_append_31 (lv_at hl 0 rfl) ?_
  refine lv_iconst (v := 2) hx hb dX1_append_33 (by decide) ?_
  refine lv_iadd hx hb dX1_append_34 ?_
  refine lv_iload_n hx hb dX1_append_35 rfl (lv_at hl 4 rfl) ?_
  refine x_iastU hx hb hK hH hS 12 0 80 (by decide) (fun _ _ => rfl) (vin_room _ _ _ 2 (by decide) rfl) dX1_append_36 (fun H locs hH hS => ?_)
  refine lv_aload_n hx hb dX1_append_37 rfl (lv_at hl 1 rfl) ?_
  refine fgX1_9 hx hb hts hown hK hH 0 (by decide) dX1_append_38 ?_
  refine lv_iload hx hb dX1_append_41 (lv_at hl 0 rfl) ?_
  refine lv_iconst (v := 3) hx hb dX1_append_43 (by decide) ?_
  refine lv_iadd hx hb dX1_append_44 ?_
  refine lv_iload hx hb dX1_append_45 (lv_at hl 5 rfl) ?_
  refine x_iastU hx hb hK hH hS 12 0 80 (by decide) (fun _ _ => rfl) (vin_room _ _ _ 3 (by decide) rfl) dX1_append_47 (fun H locs hH hS => ?_)
  refine lv_aload_n hx hb dX1_append_48 rfl (lv_at hl 1 rfl) ?_
  refine fgX1_9 hx hb hts hown hK hH 0 (by decide) dX1_append_49 ?_
  refine lv_iload hx hb dX1_append_52 (lv_at hl 0 rfl) ?_
  refine lv_iconst (v := 4) hx hb dX1_append_54 (by decide) ?_
  refine lv_iadd hx hb dX1_append_55 ?_
  refine lv_iload hx hb dX1_append_56 (lv_at hl 6 rfl) ?_
  refine x_iastU hx hb hK hH hS 12 0 80 (by decide) (fun _ _ => rfl) (vin_room _ _ _ 4 (by decide) rfl) dX1_append_58 (fun H locs hH hS => ?_)
  refine lv_aload_n hx hb dX1_append_59 rfl (lv_at hl 1 rfl) ?_
  refine lv_dup hx hb dX1_append_60 rfl ?_
  refine fgX1_15 hx hb hts hown hK hH 0 (by decide) dX1_append_61 ?_
  refine lv_iconst (v := 1) hx hb dX1_append_64 (by decide) ?_
  refine lv_iadd hx hb dX1_append_65 ?_
  refine fpX1_15 hx hb hts hown hK hH hS 0 (by decide) dX1_append_66 (fun H locs hH hS => ?_)
  exact e_vret hx hb hr hlk hK hH hS dX1_append_69 (congrArg (Ex cs b) (by simp only [f_X1_append]))
def f_X1_part (σ : St) (x : Int32) (w : Int32) : Int64 := (if x < 0 then 4294967296 else (if 16 ≤ x then 4294967296 else (if gI σ 11 0 1 ≤ x then 4294967296 else (if w < 0 then 4294967296 else (if w < 5 then (gI σ 12 0 ((f_X1_roomOf σ (((gI σ 11 0 1) - 1) - x)) + w).toNatClampNeg).toInt64 else 4294967296)))))
set_option maxRecDepth 100000 in
set_option maxHeartbeats 4000000 in
theorem k_X1_part (l : Launch) (D : va_G) (cs : Nat → ClassId) (b : Nat) (σ : St) (x : Int32) (w : Int32)  : Met l yX1_part (Cond.code yX1_part cX1_part 3 (some FieldType.long) :: T0) { frames := 1, cells := 0, slots := 0, locals := 20 } (Pe D (tyx cs) b 43 (Ex cs b σ) [.ref (b + xo 11 0), .int (x), .int (w)]) (Ql D (tyx cs) b 43 (Ex cs b σ) (f_X1_part σ x w)) 0 0 (fun a => b ≤ a) := by
  refine e_met (by decide) rfl (Nat.le_of_ble_eq_true rfl) (fun pg e s m below meth c ls hx hb hr hml hts0 hown hlk hnm hH hK hl hS => ?_)
  have hts : ∀ w ∈ T0, w.before _ s = true := fun w h => hts0 w (List.mem_cons_of_mem _ h)
  have hl : lv_has ls 3 [(0, .ref (b + xo 11 0)), (1, .int (x)), (2, .int (w))] := hl
  refine lv_iload_n hx hb dX1_part_0 rfl (lv_at hl 1 rfl) ?_
  refine lv_if_lt (tgt := 27) hx hb dX1_part_1 (by decide) (fun c_1_1 => ?_) (fun c_1_1 => ?_)
  ·
    refine lv_ldc2 hx hb hown (hts _ wK_X1_23) dX1_part_27 ?_
    exact e_lret hx hb hr hlk hK hH hS dX1_part_30 (by simp only [f_X1_part, if_pos c_1_1]) rfl
  ·
    refine lv_iload_n hx hb dX1_part_4 rfl (lv_at hl 1 rfl) ?_
    refine lv_bipush (v := 16) hx hb dX1_part_5 (by decide) ?_
    refine lv_icmp_ge (tgt := 27) hx hb dX1_part_7 (by decide) (fun c_7_2 => ?_) (fun c_7_2 => ?_)
    ·
      refine lv_ldc2 hx hb hown (hts _ wK_X1_23) dX1_part_27 ?_
      exact e_lret hx hb hr hlk hK hH hS dX1_part_30 (by simp only [f_X1_part, if_neg c_1_1, if_pos c_7_2]) rfl
    ·
      refine lv_iload_n hx hb dX1_part_10 rfl (lv_at hl 1 rfl) ?_
      refine lv_aload_n hx hb dX1_part_11 rfl (lv_at hl 0 rfl) ?_
      refine fgX1_15 hx hb hts hown hK hH 0 (by decide) dX1_part_12 ?_
      refine lv_icmp_ge (tgt := 27) hx hb dX1_part_15 (by decide) (fun c_15_3 => ?_) (fun c_15_3 => ?_)
      ·
        refine lv_ldc2 hx hb hown (hts _ wK_X1_23) dX1_part_27 ?_
        exact e_lret hx hb hr hlk hK hH hS dX1_part_30 (by simp only [f_X1_part, if_neg c_1_1, if_neg c_7_2, if_pos c_15_3]) rfl
      ·
        refine lv_iload_n hx hb dX1_part_18 rfl (lv_at hl 2 rfl) ?_
        refine lv_if_lt (tgt := 27) hx hb dX1_part_19 (by decide) (fun c_19_4 => ?_) (fun c_19_4 => ?_)
        ·
          refine lv_ldc2 hx hb hown (hts _ wK_X1_23) dX1_part_27 ?_
          exact e_lret hx hb hr hlk hK hH hS dX1_part_30 (by simp only [f_X1_part, if_neg c_1_1, if_neg c_7_2, if_neg c_15_3, if_pos c_19_4]) rfl
        ·
          refine lv_iload_n hx hb dX1_part_22 rfl (lv_at hl 2 rfl) ?_
          refine lv_iconst (v := 5) hx hb dX1_part_23 (by decide) ?_
          refine lv_icmp_lt (tgt := 31) hx hb dX1_part_24 (by decide) (fun c_24_5 => ?_) (fun c_24_5 => ?_)
          ·
            refine lv_aload_n hx hb dX1_part_31 rfl (lv_at hl 0 rfl) ?_
            refine fgX1_9 hx hb hts hown hK hH 0 (by decide) dX1_part_32 ?_
            refine lv_aload_n hx hb dX1_part_35 rfl (lv_at hl 0 rfl) ?_
            refine fgX1_15 hx hb hts hown hK hH 0 (by decide) dX1_part_36 ?_
            refine lv_iconst (v := 1) hx hb dX1_part_39 (by decide) ?_
            refine lv_isub hx hb dX1_part_40 ?_
            refine lv_iload_n hx hb dX1_part_41 rfl (lv_at hl 1 rfl) ?_
            refine lv_isub hx hb dX1_part_42 ?_
            refine e_ci (e_runS (As := [.int (((gI σ 11 0 1) - 1) - x)]) (rest := [.ref (b + xo 12 0)]) ⟨hx, hb, hml, hown, hts⟩ (k_X1_roomOf l D cs b σ (((gI σ 11 0 1) - 1) - x) ) ⟨callB_of 1 hts (gC wC_X1_roomOf) rfl rfl rfl (hts _ wi_X1) (hts _ wM_X1_19) (by decide +kernel) (by decide), hts _ wT_X1_roomOf⟩ hK hH rfl hl.1 rfl (Nat.le_of_ble_eq_true rfl) dX1_part_43 (by decide)) hS (fun H locs hH hS => ?_)
            refine lv_iload_n hx hb dX1_part_46 rfl (lv_at hl 2 rfl) ?_
            refine lv_iadd hx hb dX1_part_47 ?_
            refine x_ialdU hx hb hK hH 12 0 80 (by decide) rfl (vin_roomW _ _ _ (by assumption) (by assumption)) dX1_part_48 ?_
            refine lv_i2l (v := (gI σ 12 0 ((f_X1_roomOf σ (((gI σ 11 0 1) - 1) - x)) + w).toNatClampNeg).toInt64) hx hb dX1_part_49 rfl ?_
            exact e_lret hx hb hr hlk hK hH hS dX1_part_50 (by simp only [f_X1_part, if_neg c_1_1, if_neg c_7_2, if_neg c_15_3, if_neg c_19_4, if_pos c_24_5]) rfl
          ·
            refine lv_ldc2 hx hb hown (hts _ wK_X1_23) dX1_part_27 ?_
            exact e_lret hx hb hr hlk hK hH hS dX1_part_30 (by simp only [f_X1_part, if_neg c_1_1, if_neg c_7_2, if_neg c_15_3, if_neg c_19_4, if_neg c_24_5]) rfl
