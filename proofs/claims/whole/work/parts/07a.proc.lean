def f_X2_put (σ : St) (q : Nat) (x : Int32) : St := sI (sI (sI σ 5 q 7 (gI σ 5 q 6)) 5 q 6 (gI (sI σ 5 q 7 (gI σ 5 q 6)) 5 q 5)) 5 q 5 x
set_option maxRecDepth 100000 in
set_option maxHeartbeats 4000000 in
theorem k_X2_put (l : Launch) (D : va_G) (cs : Nat → ClassId) (b : Nat) (σ : St) (q : Nat) (x : Int32) (hq : q < 8) : Met l yX2_put (Cond.code yX2_put cX2_put 2 (none : Option FieldType) :: T0) { frames := 0, cells := 0, slots := 0, locals := 0 } (Pe D (tyx cs) b 43 (Ex cs b σ) [.ref (b + xo 5 q), .int (x)]) (Qv D (tyx cs) b 43 (Ex cs b (f_X2_put σ q x))) 0 0 (fun a => b ≤ a) := by
  refine e_met (by decide) rfl (Nat.le_of_ble_eq_true rfl) (fun pg e s m below meth c ls hx hb hr hml hts0 hown hlk hnm hH hK hl hS => ?_)
  have hts : ∀ w ∈ T0, w.before _ s = true := fun w h => hts0 w (List.mem_cons_of_mem _ h)
  have hl : lv_has ls 2 [(0, .ref (b + xo 5 q)), (1, .int (x))] := hl
  refine lv_aload_n hx hb dX2_put_0 rfl (lv_at hl 0 rfl) ?_
  refine lv_aload_n hx hb dX2_put_1 rfl (lv_at hl 0 rfl) ?_
  refine fgX2_31 hx hb hts hown hK hH q (show q < 8 by first | assumption | omega) dX2_put_2 ?_
  refine fpX2_34 hx hb hts hown hK hH hS q (show q < 8 by first | assumption | omega) dX2_put_5 (fun H locs hH hS => ?_)
  refine lv_aload_n hx hb dX2_put_8 rfl (lv_at hl 0 rfl) ?_
  refine lv_aload_n hx hb dX2_put_9 rfl (lv_at hl 0 rfl) ?_
  refine fgX2_28 hx hb hts hown hK hH q (show q < 8 by first | assumption | omega) dX2_put_10 ?_
  refine fpX2_31 hx hb hts hown hK hH hS q (show q < 8 by first | assumption | omega) dX2_put_13 (fun H locs hH hS => ?_)
  refine lv_aload_n hx hb dX2_put_16 rfl (lv_at hl 0 rfl) ?_
  refine lv_iload_n hx hb dX2_put_17 rfl (lv_at hl 1 rfl) ?_
  refine fpX2_28 hx hb hts hown hK hH hS q (show q < 8 by first | assumption | omega) dX2_put_18 (fun H locs hH hS => ?_)
  exact e_vret hx hb hr hlk hK hH hS dX2_put_21 (congrArg (Ex cs b) (by simp only [f_X2_put]))
def f_X2_drop (σ : St) (q : Nat) : St := sI (sI σ 5 q 5 (gI σ 5 q 6)) 5 q 6 (gI (sI σ 5 q 5 (gI σ 5 q 6)) 5 q 7)
set_option maxRecDepth 100000 in
set_option maxHeartbeats 4000000 in
theorem k_X2_drop (l : Launch) (D : va_G) (cs : Nat → ClassId) (b : Nat) (σ : St) (q : Nat) (hq : q < 8) : Met l yX2_drop (Cond.code yX2_drop cX2_drop 1 (none : Option FieldType) :: T0) { frames := 0, cells := 0, slots := 0, locals := 0 } (Pe D (tyx cs) b 43 (Ex cs b σ) [.ref (b + xo 5 q)]) (Qv D (tyx cs) b 43 (Ex cs b (f_X2_drop σ q))) 0 0 (fun a => b ≤ a) := by
  refine e_met (by decide) rfl (Nat.le_of_ble_eq_true rfl) (fun pg e s m below meth c ls hx hb hr hml hts0 hown hlk hnm hH hK hl hS => ?_)
  have hts : ∀ w ∈ T0, w.before _ s = true := fun w h => hts0 w (List.mem_cons_of_mem _ h)
  have hl : lv_has ls 1 [(0, .ref (b + xo 5 q))] := hl
  refine lv_aload_n hx hb dX2_drop_0 rfl (lv_at hl 0 rfl) ?_
  refine lv_aload_n hx hb dX2_drop_1 rfl (lv_at hl 0 rfl) ?_
  refine fgX2_31 hx hb hts hown hK hH q (show q < 8 by first | assumption | omega) dX2_drop_2 ?_
  refine fpX2_28 hx hb hts hown hK hH hS q (show q < 8 by first | assumption | omega) dX2_drop_5 (fun H locs hH hS => ?_)
  refine lv_aload_n hx hb dX2_drop_8 rfl (lv_at hl 0 rfl) ?_
  refine lv_aload_n hx hb dX2_drop_9 rfl (lv_at hl 0 rfl) ?_
  refine fgX2_34 hx hb hts hown hK hH q (show q < 8 by first | assumption | omega) dX2_drop_10 ?_
  refine fpX2_31 hx hb hts hown hK hH hS q (show q < 8 by first | assumption | omega) dX2_drop_13 (fun H locs hH hS => ?_)
  exact e_vret hx hb hr hlk hK hH hS dX2_drop_16 (congrArg (Ex cs b) (by simp only [f_X2_drop]))
def f_X2_replaceTwo (σ : St) (q : Nat) (x : Int32) : St := sI (sI σ 5 q 5 x) 5 q 6 (gI (sI σ 5 q 5 x) 5 q 7)
set_option maxRecDepth 100000 in
set_option maxHeartbeats 4000000 in
theorem k_X2_replaceTwo (l : Launch) (D : va_G) (cs : Nat → ClassId) (b : Nat) (σ : St) (q : Nat) (x : Int32) (hq : q < 8) : Met l yX2_replaceTwo (Cond.code yX2_replaceTwo cX2_replaceTwo 2 (none : Option FieldType) :: T0) { frames := 0, cells := 0, slots := 0, locals := 0 } (Pe D (tyx cs) b 43 (Ex cs b σ) [.ref (b + xo 5 q), .int (x)]) (Qv D (tyx cs) b 43 (Ex cs b (f_X2_replaceTwo σ q x))) 0 0 (fun a => b ≤ a) := by
  refine e_met (by decide) rfl (Nat.le_of_ble_eq_true rfl) (fun pg e s m below meth c ls hx hb hr hml hts0 hown hlk hnm hH hK hl hS => ?_)
  have hts : ∀ w ∈ T0, w.before _ s = true := fun w h => hts0 w (List.mem_cons_of_mem _ h)
  have hl : lv_has ls 2 [(0, .ref (b + xo 5 q)), (1, .int (x))] := hl
  refine lv_aload_n hx hb dX2_replaceTwo_0 rfl (lv_at hl 0 rfl) ?_
  refine lv_iload_n hx hb dX2_replaceTwo_1 rfl (lv_at hl 1 rfl) ?_
  refine fpX2_28 hx hb hts hown hK hH hS q (show q < 8 by first | assumption | omega) dX2_replaceTwo_2 (fun H locs hH hS => ?_)
  refine lv_aload_n hx hb dX2_replaceTwo_5 rfl (lv_at hl 0 rfl) ?_
  refine lv_aload_n hx hb dX2_replaceTwo_6 rfl (lv_at hl 0 rfl) ?_
  refine fgX2_34 hx hb hts hown hK hH q (show q < 8 by first | assumption | omega) dX2_replaceTwo_7 ?_
  refine fpX2_31 hx hb hts hown hK hH hS q (show q < 8 by first | assumption | omega) dX2_replaceTwo_10 (fun H locs hH hS => ?_)
  exact e_vret hx hb hr hlk hK hH hS dX2_replaceTwo_13 (congrArg (Ex cs b) (by simp only [f_X2_replaceTwo]))
def f_X2_word (σ : St) (q : Nat) (x : Int32) : Int32 := (if x < 0 then 0 else (if 4 ≤ x then 0 else gI σ 6 q x.toNatClampNeg))
set_option maxRecDepth 100000 in
set_option maxHeartbeats 4000000 in
theorem k_X2_word (l : Launch) (D : va_G) (cs : Nat → ClassId) (b : Nat) (σ : St) (q : Nat) (x : Int32) (hq : q < 8) : Met l yX2_word (Cond.code yX2_word cX2_word 2 (some FieldType.int) :: T0) { frames := 0, cells := 0, slots := 0, locals := 0 } (Pe D (tyx cs) b 43 (Ex cs b σ) [.ref (b + xo 5 q), .int (x)]) (Qi D (tyx cs) b 43 (Ex cs b σ) (f_X2_word σ q x)) 0 0 (fun a => b ≤ a) := by
  refine e_met (by decide) rfl (Nat.le_of_ble_eq_true rfl) (fun pg e s m below meth c ls hx hb hr hml hts0 hown hlk hnm hH hK hl hS => ?_)
  have hts : ∀ w ∈ T0, w.before _ s = true := fun w h => hts0 w (List.mem_cons_of_mem _ h)
  have hl : lv_has ls 2 [(0, .ref (b + xo 5 q)), (1, .int (x))] := hl
  refine lv_iload_n hx hb dX2_word_0 rfl (lv_at hl 1 rfl) ?_
  refine lv_if_lt (tgt := 18) hx hb dX2_word_1 (by decide) (fun c_1_1 => ?_) (fun c_1_1 => ?_)
  ·
    refine lv_iconst (v := 0) hx hb dX2_word_18 (by decide) ?_
    exact e_iret hx hb hr hlk hK hH hS dX2_word_19 (by simp only [f_X2_word, if_pos c_1_1]) rfl
  ·
    refine lv_iload_n hx hb dX2_word_4 rfl (lv_at hl 1 rfl) ?_
    refine lv_iconst (v := 4) hx hb dX2_word_5 (by decide) ?_
    refine lv_icmp_ge (tgt := 18) hx hb dX2_word_6 (by decide) (fun c_6_2 => ?_) (fun c_6_2 => ?_)
    ·
      refine lv_iconst (v := 0) hx hb dX2_word_18 (by decide) ?_
      exact e_iret hx hb hr hlk hK hH hS dX2_word_19 (by simp only [f_X2_word, if_neg c_1_1, if_pos c_6_2]) rfl
    ·
      refine lv_aload_n hx hb dX2_word_9 rfl (lv_at hl 0 rfl) ?_
      refine fgX2_15 hx hb hts hown hK hH q (show q < 8 by first | assumption | omega) dX2_word_10 ?_
      refine lv_iload_n hx hb dX2_word_13 rfl (lv_at hl 1 rfl) ?_
      refine x_ialdU hx hb hK hH 6 q 4 (show q < 8 by first | assumption | omega) rfl (vin_nle 4 (by assumption) (by assumption) (by decide)) dX2_word_14 ?_
      refine lv_goto (tgt := 19) hx hb dX2_word_15 (by decide) ?_
      exact e_iret hx hb hr hlk hK hH hS dX2_word_19 (by simp only [f_X2_word, if_neg c_1_1, if_neg c_6_2]) rfl
def f_X2_setWord (σ : St) (q : Nat) (x : Int32) (y : Int32) : St := (if x < 0 then σ else (if 4 ≤ x then σ else sI σ 6 q x.toNatClampNeg y))
set_option maxRecDepth 100000 in
set_option maxHeartbeats 4000000 in
theorem k_X2_setWord (l : Launch) (D : va_G) (cs : Nat → ClassId) (b : Nat) (σ : St) (q : Nat) (x : Int32) (y : Int32) (hq : q < 8) : Met l yX2_setWord (Cond.code yX2_setWord cX2_setWord 3 (none : Option FieldType) :: T0) { frames := 0, cells := 0, slots := 0, locals := 0 } (Pe D (tyx cs) b 43 (Ex cs b σ) [.ref (b + xo 5 q), .int (x), .int (y)]) (Qv D (tyx cs) b 43 (Ex cs b (f_X2_setWord σ q x y))) 0 0 (fun a => b ≤ a) := by
  refine e_met (by decide) rfl (Nat.le_of_ble_eq_true rfl) (fun pg e s m below meth c ls hx hb hr hml hts0 hown hlk hnm hH hK hl hS => ?_)
  have hts : ∀ w ∈ T0, w.before _ s = true := fun w h => hts0 w (List.mem_cons_of_mem _ h)
  have hl : lv_has ls 3 [(0, .ref (b + xo 5 q)), (1, .int (x)), (2, .int (y))] := hl
  refine lv_iload_n hx hb dX2_setWord_0 rfl (lv_at hl 1 rfl) ?_
  refine lv_if_lt (tgt := 16) hx hb dX2_setWord_1 (by decide) (fun c_1_1 => ?_) (fun c_1_1 => ?_)
  ·
    exact e_vret hx hb hr hlk hK hH hS dX2_setWord_16 (congrArg (Ex cs b) (by simp only [f_X2_setWord, if_pos c_1_1]))
  ·
    refine lv_iload_n hx hb dX2_setWord_4 rfl (lv_at hl 1 rfl) ?_
    refine lv_iconst (v := 4) hx hb dX2_setWord_5 (by decide) ?_
    refine lv_icmp_ge (tgt := 16) hx hb dX2_setWord_6 (by decide) (fun c_6_2 => ?_) (fun c_6_2 => ?_)
    ·
      exact e_vret hx hb hr hlk hK hH hS dX2_setWord_16 (congrArg (Ex cs b) (by simp only [f_X2_setWord, if_neg c_1_1, if_pos c_6_2]))
    ·
      refine lv_aload_n hx hb dX2_setWord_9 rfl (lv_at hl 0 rfl) ?_
      refine fgX2_15 hx hb hts hown hK hH q (show q < 8 by first | assumption | omega) dX2_setWord_10 ?_
      refine lv_iload_n hx hb dX2_setWord_13 rfl (lv_at hl 1 rfl) ?_
      refine lv_iload_n hx hb dX2_setWord_14 rfl (lv_at hl 2 rfl) ?_
      refine x_iastU hx hb hK hH hS 6 q 4 (show q < 8 by first | assumption | omega) (fun _ _ => rfl) (vin_nle 4 (by assumption) (by assumption) (by decide)) dX2_setWord_15 (fun H locs hH hS => ?_)
      exact e_vret hx hb hr hlk hK hH hS dX2_setWord_16 (congrArg (Ex cs b) (by simp only [f_X2_setWord, if_neg c_1_1, if_neg c_6_2]))
def f_X2_part (σ : St) (q : Nat) (x : Int32) : Int64 := (if x = 0 then (gI σ 5 q 3).toInt64 else (if x = 1 then (gI σ 5 q 4).toInt64 else (if x = 2 then (gI σ 5 q 5).toInt64 else (if x = 3 then (gI σ 5 q 6).toInt64 else (if x = 4 then (gI σ 5 q 7).toInt64 else (if x = 5 then (f_X2_word σ q (x - 5)).toInt64 else (if x = 6 then (f_X2_word σ q (x - 5)).toInt64 else (if x = 7 then (f_X2_word σ q (x - 5)).toInt64 else (if x = 8 then (f_X2_word σ q (x - 5)).toInt64 else 4294967296)))))))))
set_option maxRecDepth 100000 in
set_option maxHeartbeats 4000000 in
theorem k_X2_part (l : Launch) (D : va_G) (cs : Nat → ClassId) (b : Nat) (σ : St) (q : Nat) (x : Int32) (hq : q < 8) : Met l yX2_part (Cond.code yX2_part cX2_part 2 (some FieldType.long) :: T0) { frames := 1, cells := 0, slots := 0, locals := 21 } (Pe D (tyx cs) b 43 (Ex cs b σ) [.ref (b + xo 5 q), .int (x)]) (Ql D (tyx cs) b 43 (Ex cs b σ) (f_X2_part σ q x)) 0 0 (fun a => b ≤ a) := by
  refine e_met (by decide) rfl (Nat.le_of_ble_eq_true rfl) (fun pg e s m below meth c ls hx hb hr hml hts0 hown hlk hnm hH hK hl hS => ?_)
  have hts : ∀ w ∈ T0, w.before _ s = true := fun w h => hts0 w (List.mem_cons_of_mem _ h)
  have hl : lv_has ls 2 [(0, .ref (b + xo 5 q)), (1, .int (x))] := hl
  refine lv_iload_n hx hb dX2_part_0 rfl (lv_at hl 1 rfl) ?_
  by_cases c_1_1 : x = 0
  ·
    refine lv_tableIn (off := 51) (tgt := 52) hx hb dX2_part_1 (by rw [c_1_1]; decide) (by rw [c_1_1]; decide) (by rw [c_1_1]; rfl) (by decide) ?_
    refine lv_aload_n hx hb dX2_part_52 rfl (lv_at hl 0 rfl) ?_
    refine fgX2_22 hx hb hts hown hK hH q (show q < 8 by first | assumption | omega) dX2_part_53 ?_
    refine lv_i2l (v := (gI σ 5 q 3).toInt64) hx hb dX2_part_56 rfl ?_
    exact e_lret hx hb hr hlk hK hH hS dX2_part_57 (by simp only [f_X2_part, if_pos c_1_1]) rfl
  by_cases c_1_2 : x = 1
  ·
    refine lv_tableIn (off := 57) (tgt := 58) hx hb dX2_part_1 (by rw [c_1_2]; decide) (by rw [c_1_2]; decide) (by rw [c_1_2]; rfl) (by decide) ?_
    refine lv_aload_n hx hb dX2_part_58 rfl (lv_at hl 0 rfl) ?_
    refine fgX2_25 hx hb hts hown hK hH q (show q < 8 by first | assumption | omega) dX2_part_59 ?_
    refine lv_i2l (v := (gI σ 5 q 4).toInt64) hx hb dX2_part_62 rfl ?_
    exact e_lret hx hb hr hlk hK hH hS dX2_part_63 (by simp only [f_X2_part, if_neg c_1_1, if_pos c_1_2]) rfl
  by_cases c_1_3 : x = 2
  ·
    refine lv_tableIn (off := 63) (tgt := 64) hx hb dX2_part_1 (by rw [c_1_3]; decide) (by rw [c_1_3]; decide) (by rw [c_1_3]; rfl) (by decide) ?_
    refine lv_aload_n hx hb dX2_part_64 rfl (lv_at hl 0 rfl) ?_
    refine fgX2_28 hx hb hts hown hK hH q (show q < 8 by first | assumption | omega) dX2_part_65 ?_
    refine lv_i2l (v := (gI σ 5 q 5).toInt64) hx hb dX2_part_68 rfl ?_
    exact e_lret hx hb hr hlk hK hH hS dX2_part_69 (by simp only [f_X2_part, if_neg c_1_1, if_neg c_1_2, if_pos c_1_3]) rfl
  by_cases c_1_4 : x = 3
  ·
    refine lv_tableIn (off := 69) (tgt := 70) hx hb dX2_part_1 (by rw [c_1_4]; decide) (by rw [c_1_4]; decide) (by rw [c_1_4]; rfl) (by decide) ?_
    refine lv_aload_n hx hb dX2_part_70 rfl (lv_at hl 0 rfl) ?_
    refine fgX2_31 hx hb hts hown hK hH q (show q < 8 by first | assumption | omega) dX2_part_71 ?_
    refine lv_i2l (v := (gI σ 5 q 6).toInt64) hx hb dX2_part_74 rfl ?_
    exact e_lret hx hb hr hlk hK hH hS dX2_part_75 (by simp only [f_X2_part, if_neg c_1_1, if_neg c_1_2, if_neg c_1_3, if_pos c_1_4]) rfl
  by_cases c_1_5 : x = 4
  ·
    refine lv_tableIn (off := 75) (tgt := 76) hx hb dX2_part_1 (by rw [c_1_5]; decide) (by rw [c_1_5]; decide) (by rw [c_1_5]; rfl) (by decide) ?_
    refine lv_aload_n hx hb dX2_part_76 rfl (lv_at hl 0 rfl) ?_
    refine fgX2_34 hx hb hts hown hK hH q (show q < 8 by first | assumption | omega) dX2_part_77 ?_
    refine lv_i2l (v := (gI σ 5 q 7).toInt64) hx hb dX2_part_80 rfl ?_
    exact e_lret hx hb hr hlk hK hH hS dX2_part_81 (by simp only [f_X2_part, if_neg c_1_1, if_neg c_1_2, if_neg c_1_3, if_neg c_1_4, if_pos c_1_5]) rfl
  by_cases c_1_6 : x = 5
  ·
    refine lv_tableIn (off := 81) (tgt := 82) hx hb dX2_part_1 (by rw [c_1_6]; decide) (by rw [c_1_6]; decide) (by rw [c_1_6]; rfl) (by decide) ?_
    refine lv_aload_n hx hb dX2_part_82 rfl (lv_at hl 0 rfl) ?_
    refine lv_iload_n hx hb dX2_part_83 rfl (lv_at hl 1 rfl) ?_
    refine lv_iconst (v := 5) hx hb dX2_part_84 (by decide) ?_
    refine lv_isub hx hb dX2_part_85 ?_
    refine e_ci (e_runV (C := RX2) (ci := 2) (As := [.int (x - 5)]) (rest := []) ⟨hx, hb, hml, hown, hts⟩ (k_X2_word l D cs b σ q (x - 5) (by first | assumption | omega | decide)) ⟨callB_of 1 hts (gC wC_X2_word) rfl rfl rfl (hts _ wi_X2) (hts _ wM_X2_37) (by decide +kernel) (by decide), hts _ wN_X2_word, hts _ wS_X2_word⟩ hK hH (xo_ok (show q < xn 5 by first | assumption | (show q < 8; first | assumption | omega))).2.2 (Ex_at cs b σ (show q < xn 5 by first | assumption | (show q < 8; first | assumption | omega))) rfl rfl rfl hl.1 rfl (Nat.le_of_ble_eq_true rfl) dX2_part_86 (by decide)) hS (fun H locs hH hS => ?_)
    refine lv_i2l (v := (f_X2_word σ q (x - 5)).toInt64) hx hb dX2_part_89 rfl ?_
    exact e_lret hx hb hr hlk hK hH hS dX2_part_90 (by simp only [f_X2_part, if_neg c_1_1, if_neg c_1_2, if_neg c_1_3, if_neg c_1_4, if_neg c_1_5, if_pos c_1_6]) rfl
  by_cases c_1_7 : x = 6
  ·
    refine lv_tableIn (off := 81) (tgt := 82) hx hb dX2_part_1 (by rw [c_1_7]; decide) (by rw [c_1_7]; decide) (by rw [c_1_7]; rfl) (by decide) ?_
    refine lv_aload_n hx hb dX2_part_82 rfl (lv_at hl 0 rfl) ?_
    refine lv_iload_n hx hb dX2_part_83 rfl (lv_at hl 1 rfl) ?_
    refine lv_iconst (v := 5) hx hb dX2_part_84 (by decide) ?_
    refine lv_isub hx hb dX2_part_85 ?_
    refine e_ci (e_runV (C := RX2) (ci := 2) (As := [.int (x - 5)]) (rest := []) ⟨hx, hb, hml, hown, hts⟩ (k_X2_word l D cs b σ q (x - 5) (by first | assumption | omega | decide)) ⟨callB_of 1 hts (gC wC_X2_word) rfl rfl rfl (hts _ wi_X2) (hts _ wM_X2_37) (by decide +kernel) (by decide), hts _ wN_X2_word, hts _ wS_X2_word⟩ hK hH (xo_ok (show q < xn 5 by first | assumption | (show q < 8; first | assumption | omega))).2.2 (Ex_at cs b σ (show q < xn 5 by first | assumption | (show q < 8; first | assumption | omega))) rfl rfl rfl hl.1 rfl (Nat.le_of_ble_eq_true rfl) dX2_part_86 (by decide)) hS (fun H locs hH hS => ?_)
    refine lv_i2l (v := (f_X2_word σ q (x - 5)).toInt64) hx hb dX2_part_89 rfl ?_
    exact e_lret hx hb hr hlk hK hH hS dX2_part_90 (by simp only [f_X2_part, if_neg c_1_1, if_neg c_1_2, if_neg c_1_3, if_neg c_1_4, if_neg c_1_5, if_neg c_1_6, if_pos c_1_7]) rfl
  by_cases c_1_8 : x = 7
  ·
    refine lv_tableIn (off := 81) (tgt := 82) hx hb dX2_part_1 (by rw [c_1_8]; decide) (by rw [c_1_8]; decide) (by rw [c_1_8]; rfl) (by decide) ?_
    refine lv_aload_n hx hb dX2_part_82 rfl (lv_at hl 0 rfl) ?_
    refine lv_iload_n hx hb dX2_part_83 rfl (lv_at hl 1 rfl) ?_
    refine lv_iconst (v := 5) hx hb dX2_part_84 (by decide) ?_
    refine lv_isub hx hb dX2_part_85 ?_
    refine e_ci (e_runV (C := RX2) (ci := 2) (As := [.int (x - 5)]) (rest := []) ⟨hx, hb, hml, hown, hts⟩ (k_X2_word l D cs b σ q (x - 5) (by first | assumption | omega | decide)) ⟨callB_of 1 hts (gC wC_X2_word) rfl rfl rfl (hts _ wi_X2) (hts _ wM_X2_37) (by decide +kernel) (by decide), hts _ wN_X2_word, hts _ wS_X2_word⟩ hK hH (xo_ok (show q < xn 5 by first | assumption | (show q < 8; first | assumption | omega))).2.2 (Ex_at cs b σ (show q < xn 5 by first | assumption | (show q < 8; first | assumption | omega))) rfl rfl rfl hl.1 rfl (Nat.le_of_ble_eq_true rfl) dX2_part_86 (by decide)) hS (fun H locs hH hS => ?_)
    refine lv_i2l (v := (f_X2_word σ q (x - 5)).toInt64) hx hb dX2_part_89 rfl ?_
    exact e_lret hx hb hr hlk hK hH hS dX2_part_90 (by simp only [f_X2_part, if_neg c_1_1, if_neg c_1_2, if_neg c_1_3, if_neg c_1_4, if_neg c_1_5, if_neg c_1_6, if_neg c_1_7, if_pos c_1_8]) rfl
  by_cases c_1_9 : x = 8
  ·
    refine lv_tableIn (off := 81) (tgt := 82) hx hb dX2_part_1 (by rw [c_1_9]; decide) (by rw [c_1_9]; decide) (by rw [c_1_9]; rfl) (by decide) ?_
    refine lv_aload_n hx hb dX2_part_82 rfl (lv_at hl 0 rfl) ?_
    refine lv_iload_n hx hb dX2_part_83 rfl (lv_at hl 1 rfl) ?_
    refine lv_iconst (v := 5) hx hb dX2_part_84 (by decide) ?_
    refine lv_isub hx hb dX2_part_85 ?_
    refine e_ci (e_runV (C := RX2) (ci := 2) (As := [.int (x - 5)]) (rest := []) ⟨hx, hb, hml, hown, hts⟩ (k_X2_word l D cs b σ q (x - 5) (by first | assumption | omega | decide)) ⟨callB_of 1 hts (gC wC_X2_word) rfl rfl rfl (hts _ wi_X2) (hts _ wM_X2_37) (by decide +kernel) (by decide), hts _ wN_X2_word, hts _ wS_X2_word⟩ hK hH (xo_ok (show q < xn 5 by first | assumption | (show q < 8; first | assumption | omega))).2.2 (Ex_at cs b σ (show q < xn 5 by first | assumption | (show q < 8; first | assumption | omega))) rfl rfl rfl hl.1 rfl (Nat.le_of_ble_eq_true rfl) dX2_part_86 (by decide)) hS (fun H locs hH hS => ?_)
    refine lv_i2l (v := (f_X2_word σ q (x - 5)).toInt64) hx hb dX2_part_89 rfl ?_
    exact e_lret hx hb hr hlk hK hH hS dX2_part_90 (by simp only [f_X2_part, if_neg c_1_1, if_neg c_1_2, if_neg c_1_3, if_neg c_1_4, if_neg c_1_5, if_neg c_1_6, if_neg c_1_7, if_neg c_1_8, if_pos c_1_9]) rfl
  refine lv_tableOut (tgt := 91) hx hb dX2_part_1 (by have h0 := ne_i 0 c_1_1 (by decide); have h1 := ne_i 1 c_1_2 (by decide); have h2 := ne_i 2 c_1_3 (by decide); have h3 := ne_i 3 c_1_4 (by decide); have h4 := ne_i 4 c_1_5 (by decide); have h5 := ne_i 5 c_1_6 (by decide); have h6 := ne_i 6 c_1_7 (by decide); have h7 := ne_i 7 c_1_8 (by decide); have h8 := ne_i 8 c_1_9 (by decide); omega) (by decide) ?_
  refine lv_ldc2 hx hb hown (hts _ wK_X2_41) dX2_part_91 ?_
  exact e_lret hx hb hr hlk hK hH hS dX2_part_94 (by simp only [f_X2_part, if_neg c_1_1, if_neg c_1_2, if_neg c_1_3, if_neg c_1_4, if_neg c_1_5, if_neg c_1_6, if_neg c_1_7, if_neg c_1_8, if_neg c_1_9]) rfl
def lp_X2_begin_28 (q : Nat) (x : Int32) (y : Int32) (z : Int32) : Nat → St → Nat → St
  | 0, σ, _ => σ
  | n + 1, σ, j => (if 4 ≤ nI j then σ else lp_X2_begin_28 q x y z n (sI σ 6 q j 0) ((j + 1)))
def f_X2_begin (σ : St) (q : Nat) (x : Int32) (y : Int32) (z : Int32) : St := lp_X2_begin_28 q x y z 5 (sI (sI (sI (sI (sI σ 5 q 3 x) 5 q 4 y) 5 q 5 z) 5 q 6 0) 5 q 7 0) 0
set_option maxRecDepth 100000 in
set_option maxHeartbeats 4000000 in
theorem w_X2_begin_28 {l : Launch} {D : va_G} {cs : Nat → ClassId} {b : Nat} {pg : Program} {e : Env} {s : State} {m : MethodId} {below : List Frame} {meth : Method} {c : Code} (q : Nat) (x : Int32) (y : Int32) (z : Int32)  (hq : q < 8) (hx : pg.tables.exec = Jvm.exec) (hb : c.code = cX2_begin) (hml : c.maxLocals = 5) {args : Array Value} {H0 : Heap} {Q : State → Prop} (hts : ∀ w ∈ T0, w.before args s = true) (hown : s.vm.findClass RX2 = some m.cls) (hK : va_K D vwCl (tyx cs) s) : ∀ (n : Nat) (σ : St) (j : Nat), 4 < j + n → j ≤ 4 → ∀ (H : Heap) (locs : List Loc) (ls : Array Slot), (∀ (H : Heap) (locs : List Loc) (ls : Array Slot), He D b 43 (Ex cs b (lp_X2_begin_28 q x y z n σ j)) H → va_S (fun a => b ≤ a) H0 H locs → lv_has ls 5 [(0, .ref (b + xo 5 q)), (1, .int (x)), (2, .int (y)), (3, .int (z))] → W pg l e { frames := 0, cells := 0, slots := 0, locals := 0 } s m args below meth c H locs 0 0 Q (F0 m 48 ls [])) → He D b 43 (Ex cs b σ) H → va_S (fun a => b ≤ a) H0 H locs → lv_has ls 5 [(0, .ref (b + xo 5 q)), (1, .int (x)), (2, .int (y)), (3, .int (z)), (4, .int (nI j))] → W pg l e { frames := 0, cells := 0, slots := 0, locals := 0 } s m args below meth c H locs 0 0 Q (F0 m 28 ls []) := by
  intro n
  induction n with
  | zero =>
    intro σ j h0 h1
    exact absurd h0 (by omega)
  | succ n ih =>
    intro σ j h0 h1 H locs ls kk hH hS hl
    refine lv_iload hx hb dX2_begin_28 (lv_at hl 4 rfl) ?_
    refine lv_iconst (v := 4) hx hb dX2_begin_30 (by decide) ?_
    refine lv_icmp_ge (tgt := 48) hx hb dX2_begin_31 (by decide) (fun c_31_1 => ?_) (fun c_31_1 => ?_)
    ·
      have e_ : lp_X2_begin_28 q x y z (n + 1) σ j = σ := by simp only [lp_X2_begin_28, if_pos c_31_1]
      rw [e_] at kk
      exact kk _ _ _ hH hS (lv_sub hl [0, 1, 2, 3] rfl)
    ·
      have hj4 := ngt_8 (j := j) (by omega) 4 (by decide) (by assumption)
      refine lv_aload_n hx hb dX2_begin_34 rfl (lv_at hl 0 rfl) ?_
      refine fgX2_15 hx hb hts hown hK hH q (show q < 8 by first | assumption | omega) dX2_begin_35 ?_
      refine lv_iload hx hb dX2_begin_38 (lv_at hl 4 rfl) ?_
      refine lv_iconst (v := 0) hx hb dX2_begin_40 (by decide) ?_
      refine x_iast hx hb hK hH hS 6 q 4 (show q < 8 by first | assumption | omega) (fun _ _ => rfl) j rfl (by omega) (by decide) dX2_begin_41 (fun H locs hH hS => ?_)
      refine lv_iinc (v := nI (j + 1)) (lv' := [(4, .int (nI (j + 1))), (0, .ref (b + xo 5 q)), (1, .int (x)), (2, .int (y)), (3, .int (z))]) hx hb dX2_begin_42 hl (k := 4) rfl (nI_1 j) (by decide) rfl (fun ls hl => ?_)
      refine lv_goto (tgt := 28) hx hb dX2_begin_45 (by decide) ?_
      have e_ : lp_X2_begin_28 q x y z (n + 1) σ j = lp_X2_begin_28 q x y z n (sI σ 6 q j 0) ((j + 1)) := by simp only [lp_X2_begin_28, if_neg c_31_1]
      rw [e_] at kk
      exact ih (sI σ 6 q j 0) ((j + 1)) (by omega) (by omega) _ _ _ kk hH hS (lv_sub hl [1, 2, 3, 4, 0] rfl)
set_option maxRecDepth 100000 in
set_option maxHeartbeats 4000000 in
theorem k_X2_begin (l : Launch) (D : va_G) (cs : Nat → ClassId) (b : Nat) (σ : St) (q : Nat) (x : Int32) (y : Int32) (z : Int32) (hq : q < 8) : Met l yX2_begin (Cond.code yX2_begin cX2_begin 5 (none : Option FieldType) :: T0) { frames := 0, cells := 0, slots := 0, locals := 0 } (Pe D (tyx cs) b 43 (Ex cs b σ) [.ref (b + xo 5 q), .int (x), .int (y), .int (z)]) (Qv D (tyx cs) b 43 (Ex cs b (f_X2_begin σ q x y z))) 0 0 (fun a => b ≤ a) := by
  refine e_met (by decide) rfl (Nat.le_of_ble_eq_true rfl) (fun pg e s m below meth c ls hx hb hr hml hts0 hown hlk hnm hH hK hl hS => ?_)
  have hts : ∀ w ∈ T0, w.before _ s = true := fun w h => hts0 w (List.mem_cons_of_mem _ h)
  have hl : lv_has ls 5 [(0, .ref (b + xo 5 q)), (1, .int (x)), (2, .int (y)), (3, .int (z))] := hl
  refine lv_aload_n hx hb dX2_begin_0 rfl (lv_at hl 0 rfl) ?_
  refine lv_iload_n hx hb dX2_begin_1 rfl (lv_at hl 1 rfl) ?_
  refine fpX2_22 hx hb hts hown hK hH hS q (show q < 8 by first | assumption | omega) dX2_begin_2 (fun H locs hH hS => ?_)
  refine lv_aload_n hx hb dX2_begin_5 rfl (lv_at hl 0 rfl) ?_
  refine lv_iload_n hx hb dX2_begin_6 rfl (lv_at hl 2 rfl) ?_
  refine fpX2_25 hx hb hts hown hK hH hS q (show q < 8 by first | assumption | omega) dX2_begin_7 (fun H locs hH hS => ?_)
  refine lv_aload_n hx hb dX2_begin_10 rfl (lv_at hl 0 rfl) ?_
  refine lv_iload_n hx hb dX2_begin_11 rfl (lv_at hl 3 rfl) ?_
  refine fpX2_28 hx hb hts hown hK hH hS q (show q < 8 by first | assumption | omega) dX2_begin_12 (fun H locs hH hS => ?_)
  refine lv_aload_n hx hb dX2_begin_15 rfl (lv_at hl 0 rfl) ?_
  refine lv_iconst (v := 0) hx hb dX2_begin_16 (by decide) ?_
  refine fpX2_31 hx hb hts hown hK hH hS q (show q < 8 by first | assumption | omega) dX2_begin_17 (fun H locs hH hS => ?_)
  refine lv_aload_n hx hb dX2_begin_20 rfl (lv_at hl 0 rfl) ?_
  refine lv_iconst (v := 0) hx hb dX2_begin_21 (by decide) ?_
  refine fpX2_34 hx hb hts hown hK hH hS q (show q < 8 by first | assumption | omega) dX2_begin_22 (fun H locs hH hS => ?_)
  refine lv_iconst (v := 0) hx hb dX2_begin_25 (by decide) ?_
  refine lv_istore (lv' := [(4, .int (0)), (0, .ref (b + xo 5 q)), (1, .int (x)), (2, .int (y)), (3, .int (z))]) hx hb dX2_begin_26 hl (by decide) rfl (fun ls hl => ?_)
  refine w_X2_begin_28 q x y z hq hx hb hml hts hown hK 5 (sI (sI (sI (sI (sI σ 5 q 3 x) 5 q 4 y) 5 q 5 z) 5 q 6 0) 5 q 7 0) 0 (by omega) (by omega) _ _ _ (fun H locs ls hH hS hl => ?_) hH hS (lv_sub hl [1, 2, 3, 4, 0] rfl)
  exact e_vret hx hb hr hlk hK hH hS dX2_begin_48 (congrArg (Ex cs b) (by simp only [f_X2_begin]))
