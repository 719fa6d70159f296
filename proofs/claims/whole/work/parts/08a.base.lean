def f_X5_isPriority (σ : St) (x : Int32) : Int32 := (if x = 0 then 1 else (if x = 1 then 1 else 0))
set_option maxRecDepth 100000 in
set_option maxHeartbeats 4000000 in
theorem k_X5_isPriority (l : Launch) (D : va_G) (cs : Nat → ClassId) (b : Nat) (σ : St) (x : Int32)  : Met l yX5_isPriority (Cond.code yX5_isPriority cX5_isPriority 1 (some FieldType.boolean) :: T0) { frames := 0, cells := 0, slots := 0, locals := 0 } (Pe D (tyx cs) b 43 (Ex cs b σ) [.int (x)]) (Qi D (tyx cs) b 43 (Ex cs b σ) (f_X5_isPriority σ x)) 0 0 (fun a => b ≤ a) := by
  refine e_met (by decide) rfl (Nat.le_of_ble_eq_true rfl) (fun pg e s m below meth c ls hx hb hr hml hts0 hown hlk hnm hH hK hl hS => ?_)
  have hts : ∀ w ∈ T0, w.before _ s = true := fun w h => hts0 w (List.mem_cons_of_mem _ h)
  have hl : lv_has ls 1 [(0, .int (x))] := hl
  refine lv_iload_n hx hb dX5_isPriority_0 rfl (lv_at hl 0 rfl) ?_
  refine lv_if_eq (tgt := 9) hx hb dX5_isPriority_1 (by decide) (fun c_1_1 => ?_) (fun c_1_1 => ?_)
  ·
    refine lv_iconst (v := 1) hx hb dX5_isPriority_9 (by decide) ?_
    refine lv_goto (tgt := 14) hx hb dX5_isPriority_10 (by decide) ?_
    exact e_zret hx hb hr hlk hK hH hS dX5_isPriority_14 (by rfl) (by simp only [f_X5_isPriority, if_pos c_1_1]) rfl
  ·
    refine lv_iload_n hx hb dX5_isPriority_4 rfl (lv_at hl 0 rfl) ?_
    refine lv_iconst (v := 1) hx hb dX5_isPriority_5 (by decide) ?_
    refine lv_icmp_ne (tgt := 13) hx hb dX5_isPriority_6 (by decide) (fun c_6_2 => ?_) (fun c_6_2 => ?_)
    ·
      refine lv_iconst (v := 0) hx hb dX5_isPriority_13 (by decide) ?_
      exact e_zret hx hb hr hlk hK hH hS dX5_isPriority_14 (by rfl) (by simp only [f_X5_isPriority, if_neg c_1_1, if_neg c_6_2]) rfl
    ·
      refine lv_iconst (v := 1) hx hb dX5_isPriority_9 (by decide) ?_
      refine lv_goto (tgt := 14) hx hb dX5_isPriority_10 (by decide) ?_
      exact e_zret hx hb hr hlk hK hH hS dX5_isPriority_14 (by rfl) (by simp only [f_X5_isPriority, if_neg c_1_1, if_pos c_6_2]) rfl
def f_X5_isProcess (σ : St) (x : Int32) : Int32 := (if x < 0 then 0 else (if 8 ≤ x then 0 else 1))
set_option maxRecDepth 100000 in
set_option maxHeartbeats 4000000 in
theorem k_X5_isProcess (l : Launch) (D : va_G) (cs : Nat → ClassId) (b : Nat) (σ : St) (x : Int32)  : Met l yX5_isProcess (Cond.code yX5_isProcess cX5_isProcess 1 (some FieldType.boolean) :: T0) { frames := 0, cells := 0, slots := 0, locals := 0 } (Pe D (tyx cs) b 43 (Ex cs b σ) [.int (x)]) (Qi D (tyx cs) b 43 (Ex cs b σ) (f_X5_isProcess σ x)) 0 0 (fun a => b ≤ a) := by
  refine e_met (by decide) rfl (Nat.le_of_ble_eq_true rfl) (fun pg e s m below meth c ls hx hb hr hml hts0 hown hlk hnm hH hK hl hS => ?_)
  have hts : ∀ w ∈ T0, w.before _ s = true := fun w h => hts0 w (List.mem_cons_of_mem _ h)
  have hl : lv_has ls 1 [(0, .int (x))] := hl
  refine lv_iload_n hx hb dX5_isProcess_0 rfl (lv_at hl 0 rfl) ?_
  refine lv_if_lt (tgt := 14) hx hb dX5_isProcess_1 (by decide) (fun c_1_1 => ?_) (fun c_1_1 => ?_)
  ·
    refine lv_iconst (v := 0) hx hb dX5_isProcess_14 (by decide) ?_
    exact e_zret hx hb hr hlk hK hH hS dX5_isProcess_15 (by rfl) (by simp only [f_X5_isProcess, if_pos c_1_1]) rfl
  ·
    refine lv_iload_n hx hb dX5_isProcess_4 rfl (lv_at hl 0 rfl) ?_
    refine lv_bipush (v := 8) hx hb dX5_isProcess_5 (by decide) ?_
    refine lv_icmp_ge (tgt := 14) hx hb dX5_isProcess_7 (by decide) (fun c_7_2 => ?_) (fun c_7_2 => ?_)
    ·
      refine lv_iconst (v := 0) hx hb dX5_isProcess_14 (by decide) ?_
      exact e_zret hx hb hr hlk hK hH hS dX5_isProcess_15 (by rfl) (by simp only [f_X5_isProcess, if_neg c_1_1, if_pos c_7_2]) rfl
    ·
      refine lv_iconst (v := 1) hx hb dX5_isProcess_10 (by decide) ?_
      refine lv_goto (tgt := 15) hx hb dX5_isProcess_11 (by decide) ?_
      exact e_zret hx hb hr hlk hK hH hS dX5_isProcess_15 (by rfl) (by simp only [f_X5_isProcess, if_neg c_1_1, if_neg c_7_2]) rfl
def f_X5_isOperand (σ : St) (x : Int32) (y : Int32) : Int32 := (if x = 2 then (if y < 0 then 0 else (if 4 ≤ y then 0 else 1)) else (if x = 3 then (if y < 0 then 0 else (if 4 ≤ y then 0 else 1)) else (if x = 4 then 1 else (if x = 5 then 1 else (if x = 6 then 1 else (if x = 7 then 1 else (if x = 8 then (if y < 0 then 0 else (if 40 ≤ y then 0 else 1)) else (if x = 9 then (if y < 0 then 0 else (if 40 ≤ y then 0 else 1)) else (if x = 10 then (if y < 0 then 0 else (if 4 ≤ y then 0 else 1)) else (if x = 11 then (if y < 0 then 0 else (if 4 ≤ y then 0 else 1)) else (if x = 12 then 1 else (if x = 13 then 1 else (if x = 14 then (if y < 0 then 0 else (if 80 ≤ y then 0 else 1)) else 1)))))))))))))
set_option maxRecDepth 100000 in
set_option maxHeartbeats 4000000 in
theorem k_X5_isOperand (l : Launch) (D : va_G) (cs : Nat → ClassId) (b : Nat) (σ : St) (x : Int32) (y : Int32)  : Met l yX5_isOperand (Cond.code yX5_isOperand cX5_isOperand 2 (some FieldType.boolean) :: T0) { frames := 0, cells := 0, slots := 0, locals := 0 } (Pe D (tyx cs) b 43 (Ex cs b σ) [.int (x), .int (y)]) (Qi D (tyx cs) b 43 (Ex cs b σ) (f_X5_isOperand σ x y)) 0 0 (fun a => b ≤ a) := by
  refine e_met (by decide) rfl (Nat.le_of_ble_eq_true rfl) (fun pg e s m below meth c ls hx hb hr hml hts0 hown hlk hnm hH hK hl hS => ?_)
  have hts : ∀ w ∈ T0, w.before _ s = true := fun w h => hts0 w (List.mem_cons_of_mem _ h)
  have hl : lv_has ls 2 [(0, .int (x)), (1, .int (y))] := hl
  refine lv_iload_n hx hb dX5_isOperand_0 rfl (lv_at hl 0 rfl) ?_
  by_cases c_1_1 : x = 2
  ·
    refine lv_tableIn (off := 67) (tgt := 68) hx hb dX5_isOperand_1 (by rw [c_1_1]; decide) (by rw [c_1_1]; decide) (by rw [c_1_1]; rfl) (by decide) ?_
    refine lv_iload_n hx hb dX5_isOperand_68 rfl (lv_at hl 1 rfl) ?_
    refine lv_if_lt (tgt := 81) hx hb dX5_isOperand_69 (by decide) (fun c_69_2 => ?_) (fun c_69_2 => ?_)
    ·
      refine lv_iconst (v := 0) hx hb dX5_isOperand_81 (by decide) ?_
      exact e_zret hx hb hr hlk hK hH hS dX5_isOperand_82 (by rfl) (by simp only [f_X5_isOperand, if_pos c_1_1, if_pos c_69_2]) rfl
    ·
      refine lv_iload_n hx hb dX5_isOperand_72 rfl (lv_at hl 1 rfl) ?_
      refine lv_iconst (v := 4) hx hb dX5_isOperand_73 (by decide) ?_
      refine lv_icmp_ge (tgt := 81) hx hb dX5_isOperand_74 (by decide) (fun c_74_3 => ?_) (fun c_74_3 => ?_)
      ·
        refine lv_iconst (v := 0) hx hb dX5_isOperand_81 (by decide) ?_
        exact e_zret hx hb hr hlk hK hH hS dX5_isOperand_82 (by rfl) (by simp only [f_X5_isOperand, if_pos c_1_1, if_neg c_69_2, if_pos c_74_3]) rfl
      ·
        refine lv_iconst (v := 1) hx hb dX5_isOperand_77 (by decide) ?_
        refine lv_goto (tgt := 82) hx hb dX5_isOperand_78 (by decide) ?_
        exact e_zret hx hb hr hlk hK hH hS dX5_isOperand_82 (by rfl) (by simp only [f_X5_isOperand, if_pos c_1_1, if_neg c_69_2, if_neg c_74_3]) rfl
  by_cases c_1_4 : x = 3
  ·
    refine lv_tableIn (off := 67) (tgt := 68) hx hb dX5_isOperand_1 (by rw [c_1_4]; decide) (by rw [c_1_4]; decide) (by rw [c_1_4]; rfl) (by decide) ?_
    refine lv_iload_n hx hb dX5_isOperand_68 rfl (lv_at hl 1 rfl) ?_
    refine lv_if_lt (tgt := 81) hx hb dX5_isOperand_69 (by decide) (fun c_69_5 => ?_) (fun c_69_5 => ?_)
    ·
      refine lv_iconst (v := 0) hx hb dX5_isOperand_81 (by decide) ?_
      exact e_zret hx hb hr hlk hK hH hS dX5_isOperand_82 (by rfl) (by simp only [f_X5_isOperand, if_neg c_1_1, if_pos c_1_4, if_pos c_69_5]) rfl
    ·
      refine lv_iload_n hx hb dX5_isOperand_72 rfl (lv_at hl 1 rfl) ?_
      refine lv_iconst (v := 4) hx hb dX5_isOperand_73 (by decide) ?_
      refine lv_icmp_ge (tgt := 81) hx hb dX5_isOperand_74 (by decide) (fun c_74_6 => ?_) (fun c_74_6 => ?_)
      ·
        refine lv_iconst (v := 0) hx hb dX5_isOperand_81 (by decide) ?_
        exact e_zret hx hb hr hlk hK hH hS dX5_isOperand_82 (by rfl) (by simp only [f_X5_isOperand, if_neg c_1_1, if_pos c_1_4, if_neg c_69_5, if_pos c_74_6]) rfl
      ·
        refine lv_iconst (v := 1) hx hb dX5_isOperand_77 (by decide) ?_
        refine lv_goto (tgt := 82) hx hb dX5_isOperand_78 (by decide) ?_
        exact e_zret hx hb hr hlk hK hH hS dX5_isOperand_82 (by rfl) (by simp only [f_X5_isOperand, if_neg c_1_1, if_pos c_1_4, if_neg c_69_5, if_neg c_74_6]) rfl
  by_cases c_1_7 : x = 4
  ·
    refine lv_tableIn (off := 129) (tgt := 130) hx hb dX5_isOperand_1 (by rw [c_1_7]; decide) (by rw [c_1_7]; decide) (by rw [c_1_7]; rfl) (by decide) ?_
    refine lv_iconst (v := 1) hx hb dX5_isOperand_130 (by decide) ?_
    exact e_zret hx hb hr hlk hK hH hS dX5_isOperand_131 (by rfl) (by simp only [f_X5_isOperand, if_neg c_1_1, if_neg c_1_4, if_pos c_1_7]) rfl
  by_cases c_1_8 : x = 5
  ·
    refine lv_tableIn (off := 129) (tgt := 130) hx hb dX5_isOperand_1 (by rw [c_1_8]; decide) (by rw [c_1_8]; decide) (by rw [c_1_8]; rfl) (by decide) ?_
    refine lv_iconst (v := 1) hx hb dX5_isOperand_130 (by decide) ?_
    exact e_zret hx hb hr hlk hK hH hS dX5_isOperand_131 (by rfl) (by simp only [f_X5_isOperand, if_neg c_1_1, if_neg c_1_4, if_neg c_1_7, if_pos c_1_8]) rfl
  by_cases c_1_9 : x = 6
  ·
    refine lv_tableIn (off := 129) (tgt := 130) hx hb dX5_isOperand_1 (by rw [c_1_9]; decide) (by rw [c_1_9]; decide) (by rw [c_1_9]; rfl) (by decide) ?_
    refine lv_iconst (v := 1) hx hb dX5_isOperand_130 (by decide) ?_
    exact e_zret hx hb hr hlk hK hH hS dX5_isOperand_131 (by rfl) (by simp only [f_X5_isOperand, if_neg c_1_1, if_neg c_1_4, if_neg c_1_7, if_neg c_1_8, if_pos c_1_9]) rfl
  by_cases c_1_10 : x = 7
  ·
    refine lv_tableIn (off := 129) (tgt := 130) hx hb dX5_isOperand_1 (by rw [c_1_10]; decide) (by rw [c_1_10]; decide) (by rw [c_1_10]; rfl) (by decide) ?_
    refine lv_iconst (v := 1) hx hb dX5_isOperand_130 (by decide) ?_
    exact e_zret hx hb hr hlk hK hH hS dX5_isOperand_131 (by rfl) (by simp only [f_X5_isOperand, if_neg c_1_1, if_neg c_1_4, if_neg c_1_7, if_neg c_1_8, if_neg c_1_9, if_pos c_1_10]) rfl
  by_cases c_1_11 : x = 8
  ·
    refine lv_tableIn (off := 97) (tgt := 98) hx hb dX5_isOperand_1 (by rw [c_1_11]; decide) (by rw [c_1_11]; decide) (by rw [c_1_11]; rfl) (by decide) ?_
    refine lv_iload_n hx hb dX5_isOperand_98 rfl (lv_at hl 1 rfl) ?_
    refine lv_if_lt (tgt := 112) hx hb dX5_isOperand_99 (by decide) (fun c_99_12 => ?_) (fun c_99_12 => ?_)
    ·
      refine lv_iconst (v := 0) hx hb dX5_isOperand_112 (by decide) ?_
      exact e_zret hx hb hr hlk hK hH hS dX5_isOperand_113 (by rfl) (by simp only [f_X5_isOperand, if_neg c_1_1, if_neg c_1_4, if_neg c_1_7, if_neg c_1_8, if_neg c_1_9, if_neg c_1_10, if_pos c_1_11, if_pos c_99_12]) rfl
    ·
      refine lv_iload_n hx hb dX5_isOperand_102 rfl (lv_at hl 1 rfl) ?_
      refine lv_bipush (v := 40) hx hb dX5_isOperand_103 (by decide) ?_
      refine lv_icmp_ge (tgt := 112) hx hb dX5_isOperand_105 (by decide) (fun c_105_13 => ?_) (fun c_105_13 => ?_)
      ·
        refine lv_iconst (v := 0) hx hb dX5_isOperand_112 (by decide) ?_
        exact e_zret hx hb hr hlk hK hH hS dX5_isOperand_113 (by rfl) (by simp only [f_X5_isOperand, if_neg c_1_1, if_neg c_1_4, if_neg c_1_7, if_neg c_1_8, if_neg c_1_9, if_neg c_1_10, if_pos c_1_11, if_neg c_99_12, if_pos c_105_13]) rfl
      ·
        refine lv_iconst (v := 1) hx hb dX5_isOperand_108 (by decide) ?_
        refine lv_goto (tgt := 113) hx hb dX5_isOperand_109 (by decide) ?_
        exact e_zret hx hb hr hlk hK hH hS dX5_isOperand_113 (by rfl) (by simp only [f_X5_isOperand, if_neg c_1_1, if_neg c_1_4, if_neg c_1_7, if_neg c_1_8, if_neg c_1_9, if_neg c_1_10, if_pos c_1_11, if_neg c_99_12, if_neg c_105_13]) rfl
  by_cases c_1_14 : x = 9
  ·
    refine lv_tableIn (off := 97) (tgt := 98) hx hb dX5_isOperand_1 (by rw [c_1_14]; decide) (by rw [c_1_14]; decide) (by rw [c_1_14]; rfl) (by decide) ?_
    refine lv_iload_n hx hb dX5_isOperand_98 rfl (lv_at hl 1 rfl) ?_
    refine lv_if_lt (tgt := 112) hx hb dX5_isOperand_99 (by decide) (fun c_99_15 => ?_) (fun c_99_15 => ?_)
    ·
      refine lv_iconst (v := 0) hx hb dX5_isOperand_112 (by decide) ?_
      exact e_zret hx hb hr hlk hK hH hS dX5_isOperand_113 (by rfl) (by simp only [f_X5_isOperand, if_neg c_1_1, if_neg c_1_4, if_neg c_1_7, if_neg c_1_8, if_neg c_1_9, if_neg c_1_10, if_neg c_1_11, if_pos c_1_14, if_pos c_99_15]) rfl
    ·
      refine lv_iload_n hx hb dX5_isOperand_102 rfl (lv_at hl 1 rfl) ?_
      refine lv_bipush (v := 40) hx hb dX5_isOperand_103 (by decide) ?_
      refine lv_icmp_ge (tgt := 112) hx hb dX5_isOperand_105 (by decide) (fun c_105_16 => ?_) (fun c_105_16 => ?_)
      ·
        refine lv_iconst (v := 0) hx hb dX5_isOperand_112 (by decide) ?_
        exact e_zret hx hb hr hlk hK hH hS dX5_isOperand_113 (by rfl) (by simp only [f_X5_isOperand, if_neg c_1_1, if_neg c_1_4, if_neg c_1_7, if_neg c_1_8, if_neg c_1_9, if_neg c_1_10, if_neg c_1_11, if_pos c_1_14, if_neg c_99_15, if_pos c_105_16]) rfl
      ·
        refine lv_iconst (v := 1) hx hb dX5_isOperand_108 (by decide) ?_
        refine lv_goto (tgt := 113) hx hb dX5_isOperand_109 (by decide) ?_
        exact e_zret hx hb hr hlk hK hH hS dX5_isOperand_113 (by rfl) (by simp only [f_X5_isOperand, if_neg c_1_1, if_neg c_1_4, if_neg c_1_7, if_neg c_1_8, if_neg c_1_9, if_neg c_1_10, if_neg c_1_11, if_pos c_1_14, if_neg c_99_15, if_neg c_105_16]) rfl
  by_cases c_1_17 : x = 10
  ·
    refine lv_tableIn (off := 82) (tgt := 83) hx hb dX5_isOperand_1 (by rw [c_1_17]; decide) (by rw [c_1_17]; decide) (by rw [c_1_17]; rfl) (by decide) ?_
    refine lv_iload_n hx hb dX5_isOperand_83 rfl (lv_at hl 1 rfl) ?_
    refine lv_if_lt (tgt := 96) hx hb dX5_isOperand_84 (by decide) (fun c_84_18 => ?_) (fun c_84_18 => ?_)
    ·
      refine lv_iconst (v := 0) hx hb dX5_isOperand_96 (by decide) ?_
      exact e_zret hx hb hr hlk hK hH hS dX5_isOperand_97 (by rfl) (by simp only [f_X5_isOperand, if_neg c_1_1, if_neg c_1_4, if_neg c_1_7, if_neg c_1_8, if_neg c_1_9, if_neg c_1_10, if_neg c_1_11, if_neg c_1_14, if_pos c_1_17, if_pos c_84_18]) rfl
    ·
      refine lv_iload_n hx hb dX5_isOperand_87 rfl (lv_at hl 1 rfl) ?_
      refine lv_iconst (v := 4) hx hb dX5_isOperand_88 (by decide) ?_
      refine lv_icmp_ge (tgt := 96) hx hb dX5_isOperand_89 (by decide) (fun c_89_19 => ?_) (fun c_89_19 => ?_)
      ·
        refine lv_iconst (v := 0) hx hb dX5_isOperand_96 (by decide) ?_
        exact e_zret hx hb hr hlk hK hH hS dX5_isOperand_97 (by rfl) (by simp only [f_X5_isOperand, if_neg c_1_1, if_neg c_1_4, if_neg c_1_7, if_neg c_1_8, if_neg c_1_9, if_neg c_1_10, if_neg c_1_11, if_neg c_1_14, if_pos c_1_17, if_neg c_84_18, if_pos c_89_19]) rfl
      ·
        refine lv_iconst (v := 1) hx hb dX5_isOperand_92 (by decide) ?_
        refine lv_goto (tgt := 97) hx hb dX5_isOperand_93 (by decide) ?_
        exact e_zret hx hb hr hlk hK hH hS dX5_isOperand_97 (by rfl) (by simp only [f_X5_isOperand, if_neg c_1_1, if_neg c_1_4, if_neg c_1_7, if_neg c_1_8, if_neg c_1_9, if_neg c_1_10, if_neg c_1_11, if_neg c_1_14, if_pos c_1_17, if_neg c_84_18, if_neg c_89_19]) rfl
  by_cases c_1_20 : x = 11
  ·
    refine lv_tableIn (off := 82) (tgt := 83) hx hb dX5_isOperand_1 (by rw [c_1_20]; decide) (by rw [c_1_20]; decide) (by rw [c_1_20]; rfl) (by decide) ?_
    refine lv_iload_n hx hb dX5_isOperand_83 rfl (lv_at hl 1 rfl) ?_
    refine lv_if_lt (tgt := 96) hx hb dX5_isOperand_84 (by decide) (fun c_84_21 => ?_) (fun c_84_21 => ?_)
    ·
      refine lv_iconst (v := 0) hx hb dX5_isOperand_96 (by decide) ?_
      exact e_zret hx hb hr hlk hK hH hS dX5_isOperand_97 (by rfl) (by simp only [f_X5_isOperand, if_neg c_1_1, if_neg c_1_4, if_neg c_1_7, if_neg c_1_8, if_neg c_1_9, if_neg c_1_10, if_neg c_1_11, if_neg c_1_14, if_neg c_1_17, if_pos c_1_20, if_pos c_84_21]) rfl
    ·
      refine lv_iload_n hx hb dX5_isOperand_87 rfl (lv_at hl 1 rfl) ?_
      refine lv_iconst (v := 4) hx hb dX5_isOperand_88 (by decide) ?_
      refine lv_icmp_ge (tgt := 96) hx hb dX5_isOperand_89 (by decide) (fun c_89_22 => ?_) (fun c_89_22 => ?_)
      ·
        refine lv_iconst (v := 0) hx hb dX5_isOperand_96 (by decide) ?_
        exact e_zret hx hb hr hlk hK hH hS dX5_isOperand_97 (by rfl) (by simp only [f_X5_isOperand, if_neg c_1_1, if_neg c_1_4, if_neg c_1_7, if_neg c_1_8, if_neg c_1_9, if_neg c_1_10, if_neg c_1_11, if_neg c_1_14, if_neg c_1_17, if_pos c_1_20, if_neg c_84_21, if_pos c_89_22]) rfl
      ·
        refine lv_iconst (v := 1) hx hb dX5_isOperand_92 (by decide) ?_
        refine lv_goto (tgt := 97) hx hb dX5_isOperand_93 (by decide) ?_
        exact e_zret hx hb hr hlk hK hH hS dX5_isOperand_97 (by rfl) (by simp only [f_X5_isOperand, if_neg c_1_1, if_neg c_1_4, if_neg c_1_7, if_neg c_1_8, if_neg c_1_9, if_neg c_1_10, if_neg c_1_11, if_neg c_1_14, if_neg c_1_17, if_pos c_1_20, if_neg c_84_21, if_neg c_89_22]) rfl
  by_cases c_1_23 : x = 12
  ·
    refine lv_tableIn (off := 129) (tgt := 130) hx hb dX5_isOperand_1 (by rw [c_1_23]; decide) (by rw [c_1_23]; decide) (by rw [c_1_23]; rfl) (by decide) ?_
    refine lv_iconst (v := 1) hx hb dX5_isOperand_130 (by decide) ?_
    exact e_zret hx hb hr hlk hK hH hS dX5_isOperand_131 (by rfl) (by simp only [f_X5_isOperand, if_neg c_1_1, if_neg c_1_4, if_neg c_1_7, if_neg c_1_8, if_neg c_1_9, if_neg c_1_10, if_neg c_1_11, if_neg c_1_14, if_neg c_1_17, if_neg c_1_20, if_pos c_1_23]) rfl
  by_cases c_1_24 : x = 13
  ·
    refine lv_tableIn (off := 129) (tgt := 130) hx hb dX5_isOperand_1 (by rw [c_1_24]; decide) (by rw [c_1_24]; decide) (by rw [c_1_24]; rfl) (by decide) ?_
    refine lv_iconst (v := 1) hx hb dX5_isOperand_130 (by decide) ?_
    exact e_zret hx hb hr hlk hK hH hS dX5_isOperand_131 (by rfl) (by simp only [f_X5_isOperand, if_neg c_1_1, if_neg c_1_4, if_neg c_1_7, if_neg c_1_8, if_neg c_1_9, if_neg c_1_10, if_neg c_1_11, if_neg c_1_14, if_neg c_1_17, if_neg c_1_20, if_neg c_1_23, if_pos c_1_24]) rfl
  by_cases c_1_25 : x = 14
  ·
    refine lv_tableIn (off := 113) (tgt := 114) hx hb dX5_isOperand_1 (by rw [c_1_25]; decide) (by rw [c_1_25]; decide) (by rw [c_1_25]; rfl) (by decide) ?_
    refine lv_iload_n hx hb dX5_isOperand_114 rfl (lv_at hl 1 rfl) ?_
    refine lv_if_lt (tgt := 128) hx hb dX5_isOperand_115 (by decide) (fun c_115_26 => ?_) (fun c_115_26 => ?_)
    ·
      refine lv_iconst (v := 0) hx hb dX5_isOperand_128 (by decide) ?_
      exact e_zret hx hb hr hlk hK hH hS dX5_isOperand_129 (by rfl) (by simp only [f_X5_isOperand, if_neg c_1_1, if_neg c_1_4, if_neg c_1_7, if_neg c_1_8, if_neg c_1_9, if_neg c_1_10, if_neg c_1_11, if_neg c_1_14, if_neg c_1_17, if_neg c_1_20, if_neg c_1_23, if_neg c_1_24, if_pos c_1_25, if_pos c_115_26]) rfl
    ·
      refine lv_iload_n hx hb dX5_isOperand_118 rfl (lv_at hl 1 rfl) ?_
      refine lv_bipush (v := 80) hx hb dX5_isOperand_119 (by decide) ?_
      refine lv_icmp_ge (tgt := 128) hx hb dX5_isOperand_121 (by decide) (fun c_121_27 => ?_) (fun c_121_27 => ?_)
      ·
        refine lv_iconst (v := 0) hx hb dX5_isOperand_128 (by decide) ?_
        exact e_zret hx hb hr hlk hK hH hS dX5_isOperand_129 (by rfl) (by simp only [f_X5_isOperand, if_neg c_1_1, if_neg c_1_4, if_neg c_1_7, if_neg c_1_8, if_neg c_1_9, if_neg c_1_10, if_neg c_1_11, if_neg c_1_14, if_neg c_1_17, if_neg c_1_20, if_neg c_1_23, if_neg c_1_24, if_pos c_1_25, if_neg c_115_26, if_pos c_121_27]) rfl
      ·
        refine lv_iconst (v := 1) hx hb dX5_isOperand_124 (by decide) ?_
        refine lv_goto (tgt := 129) hx hb dX5_isOperand_125 (by decide) ?_
        exact e_zret hx hb hr hlk hK hH hS dX5_isOperand_129 (by rfl) (by simp only [f_X5_isOperand, if_neg c_1_1, if_neg c_1_4, if_neg c_1_7, if_neg c_1_8, if_neg c_1_9, if_neg c_1_10, if_neg c_1_11, if_neg c_1_14, if_neg c_1_17, if_neg c_1_20, if_neg c_1_23, if_neg c_1_24, if_pos c_1_25, if_neg c_115_26, if_neg c_121_27]) rfl
  refine lv_tableOut (tgt := 130) hx hb dX5_isOperand_1 (by have h2 := ne_i 2 c_1_1 (by decide); have h3 := ne_i 3 c_1_4 (by decide); have h4 := ne_i 4 c_1_7 (by decide); have h5 := ne_i 5 c_1_8 (by decide); have h6 := ne_i 6 c_1_9 (by decide); have h7 := ne_i 7 c_1_10 (by decide); have h8 := ne_i 8 c_1_11 (by decide); have h9 := ne_i 9 c_1_14 (by decide); have h10 := ne_i 10 c_1_17 (by decide); have h11 := ne_i 11 c_1_20 (by decide); have h12 := ne_i 12 c_1_23 (by decide); have h13 := ne_i 13 c_1_24 (by decide); have h14 := ne_i 14 c_1_25 (by decide); omega) (by decide) ?_
  refine lv_iconst (v := 1) hx hb dX5_isOperand_130 (by decide) ?_
  exact e_zret hx hb hr hlk hK hH hS dX5_isOperand_131 (by rfl) (by simp only [f_X5_isOperand, if_neg c_1_1, if_neg c_1_4, if_neg c_1_7, if_neg c_1_8, if_neg c_1_9, if_neg c_1_10, if_neg c_1_11, if_neg c_1_14, if_neg c_1_17, if_neg c_1_20, if_neg c_1_23, if_neg c_1_24, if_neg c_1_25]) rfl
theorem vin_isProc {σ : St} {x : Int32} (h : ¬ f_X5_isProcess σ x = 0) : vp_in x 8 := by
  unfold f_X5_isProcess at h
  split at h
  · exact absurd rfl h
  · split at h
    · exact absurd rfl h
    · exact vin_nle 8 (by assumption) (by assumption) (by decide)
theorem vin_isProc' {σ : St} {x : Int32} (h : f_X5_isProcess σ x ≠ 0) : vp_in x 8 := vin_isProc h
def f_X5_rowOf (σ : St) (x : Int32) : Nat := (if x = 0 then 0 else 1)
set_option maxRecDepth 100000 in
set_option maxHeartbeats 4000000 in
theorem k_X5_rowOf (l : Launch) (D : va_G) (cs : Nat → ClassId) (b : Nat) (σ : St) (x : Int32)  : Met l yX5_rowOf (Cond.code yX5_rowOf cX5_rowOf 2 (some (FieldType.object "ProcessTurns$Row")) :: T0) { frames := 0, cells := 0, slots := 0, locals := 0 } (Pe D (tyx cs) b 43 (Ex cs b σ) [.ref (b + xo 0 0), .int (x)]) (Qq D (tyx cs) b 43 (Ex cs b σ) (some (b + xo 9 (f_X5_rowOf σ x)))) 0 0 (fun a => b ≤ a) := by
  refine e_met (by decide) rfl (Nat.le_of_ble_eq_true rfl) (fun pg e s m below meth c ls hx hb hr hml hts0 hown hlk hnm hH hK hl hS => ?_)
  have hts : ∀ w ∈ T0, w.before _ s = true := fun w h => hts0 w (List.mem_cons_of_mem _ h)
  have hl : lv_has ls 2 [(0, .ref (b + xo 0 0)), (1, .int (x))] := hl
  refine lv_iload_n hx hb dX5_rowOf_0 rfl (lv_at hl 1 rfl) ?_
  refine lv_if_ne (tgt := 11) hx hb dX5_rowOf_1 (by decide) (fun c_1_1 => ?_) (fun c_1_1 => ?_)
  ·
    refine lv_aload_n hx hb dX5_rowOf_11 rfl (lv_at hl 0 rfl) ?_
    refine fgX5_39 hx hb hts hown hK hH 0 (by decide) dX5_rowOf_12 ?_
    exact e_qret (r := some (b + xo 9 _)) hx hb hr hlk hK hH hS dX5_rowOf_15 (by simp only [f_X5_rowOf, if_neg c_1_1]; rfl) rfl
  ·
    refine lv_aload_n hx hb dX5_rowOf_4 rfl (lv_at hl 0 rfl) ?_
    refine fgX5_35 hx hb hts hown hK hH 0 (by decide) dX5_rowOf_5 ?_
    refine lv_goto (tgt := 15) hx hb dX5_rowOf_8 (by decide) ?_
    exact e_qret (r := some (b + xo 9 _)) hx hb hr hlk hK hH hS dX5_rowOf_15 (by simp only [f_X5_rowOf, if_pos c_1_1]; rfl) rfl
theorem rowOf_lt (σ : St) (x : Int32) : f_X5_rowOf σ x < 2 := by
  unfold f_X5_rowOf
  split <;> decide
def f_X5_channelAt (σ : St) (x : Int32) : Option Nat := (if x < 0 then none else (if 4 ≤ x then none else some ((x.toNatClampNeg))))
set_option maxRecDepth 100000 in
set_option maxHeartbeats 4000000 in
theorem k_X5_channelAt (l : Launch) (D : va_G) (cs : Nat → ClassId) (b : Nat) (σ : St) (x : Int32)  : Met l yX5_channelAt (Cond.code yX5_channelAt cX5_channelAt 2 (some (FieldType.object "ProcessTurns$Channel")) :: T0) { frames := 0, cells := 0, slots := 0, locals := 0 } (Pe D (tyx cs) b 43 (Ex cs b σ) [.ref (b + xo 0 0), .int (x)]) (Qq D (tyx cs) b 43 (Ex cs b σ) ((f_X5_channelAt σ x).map (fun j => b + xo 8 j))) 0 0 (fun a => b ≤ a) := by
  refine e_met (by decide) rfl (Nat.le_of_ble_eq_true rfl) (fun pg e s m below meth c ls hx hb hr hml hts0 hown hlk hnm hH hK hl hS => ?_)
  have hts : ∀ w ∈ T0, w.before _ s = true := fun w h => hts0 w (List.mem_cons_of_mem _ h)
  have hl : lv_has ls 2 [(0, .ref (b + xo 0 0)), (1, .int (x))] := hl
  refine lv_iload_n hx hb dX5_channelAt_0 rfl (lv_at hl 1 rfl) ?_
  refine lv_if_lt (tgt := 18) hx hb dX5_channelAt_1 (by decide) (fun c_1_1 => ?_) (fun c_1_1 => ?_)
  ·
    refine lv_null hx hb dX5_channelAt_18 ?_
    exact e_qret hx hb hr hlk hK hH hS dX5_channelAt_19 (by simp only [f_X5_channelAt, if_pos c_1_1]; rfl) rfl
  ·
    refine lv_iload_n hx hb dX5_channelAt_4 rfl (lv_at hl 1 rfl) ?_
    refine lv_iconst (v := 4) hx hb dX5_channelAt_5 (by decide) ?_
    refine lv_icmp_ge (tgt := 18) hx hb dX5_channelAt_6 (by decide) (fun c_6_2 => ?_) (fun c_6_2 => ?_)
    ·
      refine lv_null hx hb dX5_channelAt_18 ?_
      exact e_qret hx hb hr hlk hK hH hS dX5_channelAt_19 (by simp only [f_X5_channelAt, if_neg c_1_1, if_pos c_6_2]; rfl) rfl
    ·
      refine lv_aload_n hx hb dX5_channelAt_9 rfl (lv_at hl 0 rfl) ?_
      refine fgX5_27 hx hb hts hown hK hH 0 (by decide) dX5_channelAt_10 ?_
      refine lv_iload_n hx hb dX5_channelAt_13 rfl (lv_at hl 1 rfl) ?_
      refine x_chans hx hb hK hH x.toNatClampNeg (cl_of (vin_nle 4 (by assumption) (by assumption) (by decide))) (cl_lt (vin_nle 4 (by assumption) (by assumption) (by decide))) dX5_channelAt_14 ?_
      refine lv_goto (tgt := 19) hx hb dX5_channelAt_15 (by decide) ?_
      exact e_qret hx hb hr hlk hK hH hS dX5_channelAt_19 (by simp only [f_X5_channelAt, if_neg c_1_1, if_neg c_6_2]; rfl) rfl
theorem channelAt_lt {σ : St} {x : Int32} {k : Nat} (h : f_X5_channelAt σ x = some k) : k < 4 := by
  unfold f_X5_channelAt at h
  split at h
  · cases h
  · split at h
    · cases h
    · cases h
      exact cl_lt (vin_nle 4 (by assumption) (by assumption) (by decide))
def lp_X5_leastFree_2 : Nat → St → Nat → Option Nat
  | 0, _, _ => none
  | n + 1, σ, j => (if 8 ≤ nI j then none else (if gI σ 5 j 2 = 0 then some j else lp_X5_leastFree_2 n σ ((j + 1))))
def f_X5_leastFree (σ : St)  : Option Nat := lp_X5_leastFree_2 9 σ 0
set_option maxRecDepth 100000 in
set_option maxHeartbeats 4000000 in
theorem w_X5_leastFree_2 {l : Launch} {D : va_G} {cs : Nat → ClassId} {b : Nat} {pg : Program} {e : Env} {s : State} {m : MethodId} {below : List Frame} {meth : Method} {c : Code}    (hx : pg.tables.exec = Jvm.exec) (hb : c.code = cX5_leastFree) (hr : meth.sig.returnType = (some (FieldType.object "ProcessTurns$Proc"))) (hml : c.maxLocals = 2) {args : Array Value} (hts : ∀ w ∈ T0, w.before args s = true) (hown : s.vm.findClass RX5 = some m.cls) (hlk : meth.locks = false) (hK : va_K D vwCl (tyx cs) s) : ∀ (n : Nat) (σ : St) (j : Nat), 8 < j + n → j ≤ 8 → ∀ (H : Heap) (locs : List Loc) (ls : Array Slot), He D b 43 (Ex cs b σ) H → va_S (fun a => b ≤ a) s.heap H locs → lv_has ls 2 [(0, .ref (b + xo 0 0)), (1, .int (nI j))] → W pg l e { frames := 0, cells := 0, slots := 0, locals := 0 } s m args below meth c H locs 0 0 (MQ below (Qq D (tyx cs) b 43 (Ex cs b σ) ((lp_X5_leastFree_2 n σ j).map (fun j => b + xo 5 j))) args s 0 0 (fun a => b ≤ a)) (F0 m 2 ls []) := by
  intro n
  induction n with
  | zero =>
    intro σ j h0 h1
    exact absurd h0 (by omega)
  | succ n ih =>
    intro σ j h0 h1 H locs ls hH hS hl
    refine lv_iload_n hx hb dX5_leastFree_2 rfl (lv_at hl 1 rfl) ?_
    refine lv_bipush (v := 8) hx hb dX5_leastFree_3 (by decide) ?_
    refine lv_icmp_ge (tgt := 33) hx hb dX5_leastFree_5 (by decide) (fun c_5_1 => ?_) (fun c_5_1 => ?_)
    ·
      refine lv_null hx hb dX5_leastFree_33 ?_
      exact e_qret hx hb hr hlk hK hH hS dX5_leastFree_34 (by simp only [lp_X5_leastFree_2, if_pos c_5_1]; rfl) rfl
    ·
      have hj8 := ngt_8 (j := j) (by omega) 8 (by decide) (by assumption)
      refine lv_aload_n hx hb dX5_leastFree_8 rfl (lv_at hl 0 rfl) ?_
      refine fgX5_18 hx hb hts hown hK hH 0 (by decide) dX5_leastFree_9 ?_
      refine lv_iload_n hx hb dX5_leastFree_12 rfl (lv_at hl 1 rfl) ?_
      refine x_procs hx hb hK hH j rfl (by omega) dX5_leastFree_13 ?_
      refine fgX5_80 hx hb hts hown hK hH j (show j < 8 by first | assumption | omega) dX5_leastFree_14 ?_
      refine lv_if_ne (tgt := 27) hx hb dX5_leastFree_17 (by decide) (fun c_17_2 => ?_) (fun c_17_2 => ?_)
      ·
        refine lv_iinc (v := nI (j + 1)) (lv' := [(1, .int (nI (j + 1))), (0, .ref (b + xo 0 0))]) hx hb dX5_leastFree_27 hl (k := 1) rfl (nI_1 j) (by decide) rfl (fun ls hl => ?_)
        refine lv_goto (tgt := 2) hx hb dX5_leastFree_30 (by decide) ?_
        have e_ : lp_X5_leastFree_2 (n + 1) σ j = lp_X5_leastFree_2 n σ ((j + 1)) := by simp only [lp_X5_leastFree_2, if_neg c_5_1, if_neg c_17_2]
        rw [e_]
        exact ih σ ((j + 1)) (by omega) (by omega) _ _ _ hH hS (lv_sub hl [1, 0] rfl)
      ·
        refine lv_aload_n hx hb dX5_leastFree_20 rfl (lv_at hl 0 rfl) ?_
        refine fgX5_18 hx hb hts hown hK hH 0 (by decide) dX5_leastFree_21 ?_
        refine lv_iload_n hx hb dX5_leastFree_24 rfl (lv_at hl 1 rfl) ?_
        refine x_procs hx hb hK hH j rfl (by omega) dX5_leastFree_25 ?_
        exact e_qret hx hb hr hlk hK hH hS dX5_leastFree_26 (by simp only [lp_X5_leastFree_2, if_neg c_5_1, if_pos c_17_2]; rfl) rfl
set_option maxRecDepth 100000 in
set_option maxHeartbeats 4000000 in
theorem k_X5_leastFree (l : Launch) (D : va_G) (cs : Nat → ClassId) (b : Nat) (σ : St)   : Met l yX5_leastFree (Cond.code yX5_leastFree cX5_leastFree 2 (some (FieldType.object "ProcessTurns$Proc")) :: T0) { frames := 0, cells := 0, slots := 0, locals := 0 } (Pe D (tyx cs) b 43 (Ex cs b σ) [.ref (b + xo 0 0)]) (Qq D (tyx cs) b 43 (Ex cs b σ) ((f_X5_leastFree σ).map (fun j => b + xo 5 j))) 0 0 (fun a => b ≤ a) := by
  refine e_met (by decide) rfl (Nat.le_of_ble_eq_true rfl) (fun pg e s m below meth c ls hx hb hr hml hts0 hown hlk hnm hH hK hl hS => ?_)
  have hts : ∀ w ∈ T0, w.before _ s = true := fun w h => hts0 w (List.mem_cons_of_mem _ h)
  have hl : lv_has ls 2 [(0, .ref (b + xo 0 0))] := hl
  refine lv_iconst (v := 0) hx hb dX5_leastFree_0 (by decide) ?_
  refine lv_istore_n (lv' := [(1, .int (0)), (0, .ref (b + xo 0 0))]) hx hb dX5_leastFree_1 rfl hl (by decide) rfl (fun ls hl => ?_)
  have e_ : f_X5_leastFree σ = lp_X5_leastFree_2 9 σ 0 := by simp only [f_X5_leastFree]
  rw [e_]
  exact w_X5_leastFree_2  hx hb hr hml hts hown hlk hK 9 σ 0 (by omega) (by omega) _ _ _ hH hS (lv_sub hl [1, 0] rfl)
theorem lf_lt0 : ∀ (n : Nat) (σ : St) (j : Nat) (k : Nat), j ≤ 8 → lp_X5_leastFree_2 n σ j = some k → k < 8 := by
  intro n
  induction n with
  | zero => intro σ j k hj h; cases h
  | succ n ih =>
    intro σ j k hj h
    unfold lp_X5_leastFree_2 at h
    split at h
    · cases h
    · have hj8 := ngt_8 (j := j) (by omega) 8 (by decide) (by assumption)
      split at h
      · cases h; omega
      · exact ih σ (j + 1) k (by omega) h
theorem lf_lt {σ : St} {k : Nat} (h : f_X5_leastFree σ = some k) : k < 8 := lf_lt0 9 σ 0 k (by decide) h
