def f_X6_within (σ : St) (x : Int32) (y : Int32) (z : Int32) : Int32 := (if x < y then 0 else (if z < x then 0 else 1))
set_option maxRecDepth 100000 in
set_option maxHeartbeats 4000000 in
theorem k_X6_within (l : Launch) (D : va_G) (cs : Nat → ClassId) (b : Nat) (σ : St) (x : Int32) (y : Int32) (z : Int32)  : Met l yX6_within (Cond.code yX6_within cX6_within 3 (some FieldType.boolean) :: T0) { frames := 0, cells := 0, slots := 0, locals := 0 } (Pe D (tyx cs) b 43 (Ex cs b σ) [.int (x), .int (y), .int (z)]) (Qi D (tyx cs) b 43 (Ex cs b σ) (f_X6_within σ x y z)) 0 0 (fun a => b ≤ a) := by
  refine e_met (by decide) rfl (Nat.le_of_ble_eq_true rfl) (fun pg e s m below meth c ls hx hb hr hml hts0 hown hlk hnm hH hK hl hS => ?_)
  have hts : ∀ w ∈ T0, w.before _ s = true := fun w h => hts0 w (List.mem_cons_of_mem _ h)
  have hl : lv_has ls 3 [(0, .int (x)), (1, .int (y)), (2, .int (z))] := hl
  refine lv_iload_n hx hb dX6_within_0 rfl (lv_at hl 0 rfl) ?_
  refine lv_iload_n hx hb dX6_within_1 rfl (lv_at hl 1 rfl) ?_
  refine lv_icmp_lt (tgt := 14) hx hb dX6_within_2 (by decide) (fun c_2_1 => ?_) (fun c_2_1 => ?_)
  ·
    refine lv_iconst (v := 0) hx hb dX6_within_14 (by decide) ?_
    exact e_zret hx hb hr hlk hK hH hS dX6_within_15 (by rfl) (by simp only [f_X6_within, if_pos c_2_1]) rfl
  ·
    refine lv_iload_n hx hb dX6_within_5 rfl (lv_at hl 0 rfl) ?_
    refine lv_iload_n hx hb dX6_within_6 rfl (lv_at hl 2 rfl) ?_
    refine lv_icmp_gt (tgt := 14) hx hb dX6_within_7 (by decide) (fun c_7_2 => ?_) (fun c_7_2 => ?_)
    ·
      refine lv_iconst (v := 0) hx hb dX6_within_14 (by decide) ?_
      exact e_zret hx hb hr hlk hK hH hS dX6_within_15 (by rfl) (by simp only [f_X6_within, if_neg c_2_1, if_pos c_7_2]) rfl
    ·
      refine lv_iconst (v := 1) hx hb dX6_within_10 (by decide) ?_
      refine lv_goto (tgt := 15) hx hb dX6_within_11 (by decide) ?_
      exact e_zret hx hb hr hlk hK hH hS dX6_within_15 (by rfl) (by simp only [f_X6_within, if_neg c_2_1, if_neg c_7_2]) rfl
theorem within_of {σ : St} {x y z : Int32} (h : ¬ f_X6_within σ x y z = 0) : ¬ x < y ∧ ¬ z < x := by
  unfold f_X6_within at h
  split at h
  · exact absurd rfl h
  · split at h
    · exact absurd rfl h
    · exact ⟨by assumption, by assumption⟩
theorem vin_within {σ : St} {x : Int32} (m : Nat) (h : ¬ f_X6_within σ x 0 (nI m) = 0) (hm : m < 900) : vp_in x (m + 1) := by
  obtain ⟨h0, h1⟩ := within_of h
  rw [vp_in_iff]
  obtain ⟨j, hj, e⟩ := nI_of h0
  subst e
  rw [nI_toInt hj]
  have : ¬ m < j := fun q => h1 (nI_lt q hj)
  omega
def f_X6_add (σ : St) (x : Int32) (y : Int32) : Int32 × St := (if f_X6_within σ x 0 15 = 0 then ((-1), σ) else (if x = 2 then (if f_X6_within σ y 0 3 = 0 then ((-2), σ) else (if x = 8 then (if f_X6_within σ y 0 39 = 0 then ((-2), σ) else (if x = 14 then (if f_X6_within σ y 0 79 = 0 then ((-2), σ) else (if nI (lN0 σ) = 40 then ((-3), σ) else ((gI (sI (sI (sI σ 14 0 (2 * (lN0 σ)) x) 14 0 ((2 * (lN0 σ)) + 1) y) 13 0 1 ((nI (lN0 σ)) + 1)) 13 0 1) - 1, sI (sI (sI σ 14 0 (2 * (lN0 σ)) x) 14 0 ((2 * (lN0 σ)) + 1) y) 13 0 1 ((nI (lN0 σ)) + 1)))) else (if nI (lN0 σ) = 40 then ((-3), σ) else ((gI (sI (sI (sI σ 14 0 (2 * (lN0 σ)) x) 14 0 ((2 * (lN0 σ)) + 1) y) 13 0 1 ((nI (lN0 σ)) + 1)) 13 0 1) - 1, sI (sI (sI σ 14 0 (2 * (lN0 σ)) x) 14 0 ((2 * (lN0 σ)) + 1) y) 13 0 1 ((nI (lN0 σ)) + 1))))) else (if x = 9 then (if f_X6_within σ y 0 39 = 0 then ((-2), σ) else (if x = 14 then (if f_X6_within σ y 0 79 = 0 then ((-2), σ) else (if nI (lN0 σ) = 40 then ((-3), σ) else ((gI (sI (sI (sI σ 14 0 (2 * (lN0 σ)) x) 14 0 ((2 * (lN0 σ)) + 1) y) 13 0 1 ((nI (lN0 σ)) + 1)) 13 0 1) - 1, sI (sI (sI σ 14 0 (2 * (lN0 σ)) x) 14 0 ((2 * (lN0 σ)) + 1) y) 13 0 1 ((nI (lN0 σ)) + 1)))) else (if nI (lN0 σ) = 40 then ((-3), σ) else ((gI (sI (sI (sI σ 14 0 (2 * (lN0 σ)) x) 14 0 ((2 * (lN0 σ)) + 1) y) 13 0 1 ((nI (lN0 σ)) + 1)) 13 0 1) - 1, sI (sI (sI σ 14 0 (2 * (lN0 σ)) x) 14 0 ((2 * (lN0 σ)) + 1) y) 13 0 1 ((nI (lN0 σ)) + 1))))) else (if x = 14 then (if f_X6_within σ y 0 79 = 0 then ((-2), σ) else (if nI (lN0 σ) = 40 then ((-3), σ) else ((gI (sI (sI (sI σ 14 0 (2 * (lN0 σ)) x) 14 0 ((2 * (lN0 σ)) + 1) y) 13 0 1 ((nI (lN0 σ)) + 1)) 13 0 1) - 1, sI (sI (sI σ 14 0 (2 * (lN0 σ)) x) 14 0 ((2 * (lN0 σ)) + 1) y) 13 0 1 ((nI (lN0 σ)) + 1)))) else (if nI (lN0 σ) = 40 then ((-3), σ) else ((gI (sI (sI (sI σ 14 0 (2 * (lN0 σ)) x) 14 0 ((2 * (lN0 σ)) + 1) y) 13 0 1 ((nI (lN0 σ)) + 1)) 13 0 1) - 1, sI (sI (sI σ 14 0 (2 * (lN0 σ)) x) 14 0 ((2 * (lN0 σ)) + 1) y) 13 0 1 ((nI (lN0 σ)) + 1))))))) else (if x = 3 then (if f_X6_within σ y 0 3 = 0 then ((-2), σ) else (if x = 8 then (if f_X6_within σ y 0 39 = 0 then ((-2), σ) else (if x = 14 then (if f_X6_within σ y 0 79 = 0 then ((-2), σ) else (if nI (lN0 σ) = 40 then ((-3), σ) else ((gI (sI (sI (sI σ 14 0 (2 * (lN0 σ)) x) 14 0 ((2 * (lN0 σ)) + 1) y) 13 0 1 ((nI (lN0 σ)) + 1)) 13 0 1) - 1, sI (sI (sI σ 14 0 (2 * (lN0 σ)) x) 14 0 ((2 * (lN0 σ)) + 1) y) 13 0 1 ((nI (lN0 σ)) + 1)))) else (if nI (lN0 σ) = 40 then ((-3), σ) else ((gI (sI (sI (sI σ 14 0 (2 * (lN0 σ)) x) 14 0 ((2 * (lN0 σ)) + 1) y) 13 0 1 ((nI (lN0 σ)) + 1)) 13 0 1) - 1, sI (sI (sI σ 14 0 (2 * (lN0 σ)) x) 14 0 ((2 * (lN0 σ)) + 1) y) 13 0 1 ((nI (lN0 σ)) + 1))))) else (if x = 9 then (if f_X6_within σ y 0 39 = 0 then ((-2), σ) else (if x = 14 then (if f_X6_within σ y 0 79 = 0 then ((-2), σ) else (if nI (lN0 σ) = 40 then ((-3), σ) else ((gI (sI (sI (sI σ 14 0 (2 * (lN0 σ)) x) 14 0 ((2 * (lN0 σ)) + 1) y) 13 0 1 ((nI (lN0 σ)) + 1)) 13 0 1) - 1, sI (sI (sI σ 14 0 (2 * (lN0 σ)) x) 14 0 ((2 * (lN0 σ)) + 1) y) 13 0 1 ((nI (lN0 σ)) + 1)))) else (if nI (lN0 σ) = 40 then ((-3), σ) else ((gI (sI (sI (sI σ 14 0 (2 * (lN0 σ)) x) 14 0 ((2 * (lN0 σ)) + 1) y) 13 0 1 ((nI (lN0 σ)) + 1)) 13 0 1) - 1, sI (sI (sI σ 14 0 (2 * (lN0 σ)) x) 14 0 ((2 * (lN0 σ)) + 1) y) 13 0 1 ((nI (lN0 σ)) + 1))))) else (if x = 14 then (if f_X6_within σ y 0 79 = 0 then ((-2), σ) else (if nI (lN0 σ) = 40 then ((-3), σ) else ((gI (sI (sI (sI σ 14 0 (2 * (lN0 σ)) x) 14 0 ((2 * (lN0 σ)) + 1) y) 13 0 1 ((nI (lN0 σ)) + 1)) 13 0 1) - 1, sI (sI (sI σ 14 0 (2 * (lN0 σ)) x) 14 0 ((2 * (lN0 σ)) + 1) y) 13 0 1 ((nI (lN0 σ)) + 1)))) else (if nI (lN0 σ) = 40 then ((-3), σ) else ((gI (sI (sI (sI σ 14 0 (2 * (lN0 σ)) x) 14 0 ((2 * (lN0 σ)) + 1) y) 13 0 1 ((nI (lN0 σ)) + 1)) 13 0 1) - 1, sI (sI (sI σ 14 0 (2 * (lN0 σ)) x) 14 0 ((2 * (lN0 σ)) + 1) y) 13 0 1 ((nI (lN0 σ)) + 1))))))) else (if x = 10 then (if f_X6_within σ y 0 3 = 0 then ((-2), σ) else (if x = 8 then (if f_X6_within σ y 0 39 = 0 then ((-2), σ) else (if x = 14 then (if f_X6_within σ y 0 79 = 0 then ((-2), σ) else (if nI (lN0 σ) = 40 then ((-3), σ) else ((gI (sI (sI (sI σ 14 0 (2 * (lN0 σ)) x) 14 0 ((2 * (lN0 σ)) + 1) y) 13 0 1 ((nI (lN0 σ)) + 1)) 13 0 1) - 1, sI (sI (sI σ 14 0 (2 * (lN0 σ)) x) 14 0 ((2 * (lN0 σ)) + 1) y) 13 0 1 ((nI (lN0 σ)) + 1)))) else (if nI (lN0 σ) = 40 then ((-3), σ) else ((gI (sI (sI (sI σ 14 0 (2 * (lN0 σ)) x) 14 0 ((2 * (lN0 σ)) + 1) y) 13 0 1 ((nI (lN0 σ)) + 1)) 13 0 1) - 1, sI (sI (sI σ 14 0 (2 * (lN0 σ)) x) 14 0 ((2 * (lN0 σ)) + 1) y) 13 0 1 ((nI (lN0 σ)) + 1))))) else (if x = 9 then (if f_X6_within σ y 0 39 = 0 then ((-2), σ) else (if x = 14 then (if f_X6_within σ y 0 79 = 0 then ((-2), σ) else (if nI (lN0 σ) = 40 then ((-3), σ) else ((gI (sI (sI (sI σ 14 0 (2 * (lN0 σ)) x) 14 0 ((2 * (lN0 σ)) + 1) y) 13 0 1 ((nI (lN0 σ)) + 1)) 13 0 1) - 1, sI (sI (sI σ 14 0 (2 * (lN0 σ)) x) 14 0 ((2 * (lN0 σ)) + 1) y) 13 0 1 ((nI (lN0 σ)) + 1)))) else (if nI (lN0 σ) = 40 then ((-3), σ) else ((gI (sI (sI (sI σ 14 0 (2 * (lN0 σ)) x) 14 0 ((2 * (lN0 σ)) + 1) y) 13 0 1 ((nI (lN0 σ)) + 1)) 13 0 1) - 1, sI (sI (sI σ 14 0 (2 * (lN0 σ)) x) 14 0 ((2 * (lN0 σ)) + 1) y) 13 0 1 ((nI (lN0 σ)) + 1))))) else (if x = 14 then (if f_X6_within σ y 0 79 = 0 then ((-2), σ) else (if nI (lN0 σ) = 40 then ((-3), σ) else ((gI (sI (sI (sI σ 14 0 (2 * (lN0 σ)) x) 14 0 ((2 * (lN0 σ)) + 1) y) 13 0 1 ((nI (lN0 σ)) + 1)) 13 0 1) - 1, sI (sI (sI σ 14 0 (2 * (lN0 σ)) x) 14 0 ((2 * (lN0 σ)) + 1) y) 13 0 1 ((nI (lN0 σ)) + 1)))) else (if nI (lN0 σ) = 40 then ((-3), σ) else ((gI (sI (sI (sI σ 14 0 (2 * (lN0 σ)) x) 14 0 ((2 * (lN0 σ)) + 1) y) 13 0 1 ((nI (lN0 σ)) + 1)) 13 0 1) - 1, sI (sI (sI σ 14 0 (2 * (lN0 σ)) x) 14 0 ((2 * (lN0 σ)) + 1) y) 13 0 1 ((nI (lN0 σ)) + 1))))))) else (if x = 11 then (if f_X6_within σ y 0 3 = 0 then ((-2), σ) else (if x = 8 then (if f_X6_within σ y 0 39 = 0 then ((-2), σ) else (if x = 14 then (if f_X6_within σ y 0 79 = 0 then ((-2), σ) else (if nI (lN0 σ) = 40 then ((-3), σ) else ((gI (sI (sI (sI σ 14 0 (2 * (lN0 σ)) x) 14 0 ((2 * (lN0 σ)) + 1) y) 13 0 1 ((nI (lN0 σ)) + 1)) 13 0 1) - 1, sI (sI (sI σ 14 0 (2 * (lN0 σ)) x) 14 0 ((2 * (lN0 σ)) + 1) y) 13 0 1 ((nI (lN0 σ)) + 1)))) else (if nI (lN0 σ) = 40 then ((-3), σ) else ((gI (sI (sI (sI σ 14 0 (2 * (lN0 σ)) x) 14 0 ((2 * (lN0 σ)) + 1) y) 13 0 1 ((nI (lN0 σ)) + 1)) 13 0 1) - 1, sI (sI (sI σ 14 0 (2 * (lN0 σ)) x) 14 0 ((2 * (lN0 σ)) + 1) y) 13 0 1 ((nI (lN0 σ)) + 1))))) else (if x = 9 then (if f_X6_within σ y 0 39 = 0 then ((-2), σ) else (if x = 14 then (if f_X6_within σ y 0 79 = 0 then ((-2), σ) else (if nI (lN0 σ) = 40 then ((-3), σ) else ((gI (sI (sI (sI σ 14 0 (2 * (lN0 σ)) x) 14 0 ((2 * (lN0 σ)) + 1) y) 13 0 1 ((nI (lN0 σ)) + 1)) 13 0 1) - 1, sI (sI (sI σ 14 0 (2 * (lN0 σ)) x) 14 0 ((2 * (lN0 σ)) + 1) y) 13 0 1 ((nI (lN0 σ)) + 1)))) else (if nI (lN0 σ) = 40 then ((-3), σ) else ((gI (sI (sI (sI σ 14 0 (2 * (lN0 σ)) x) 14 0 ((2 * (lN0 σ)) + 1) y) 13 0 1 ((nI (lN0 σ)) + 1)) 13 0 1) - 1, sI (sI (sI σ 14 0 (2 * (lN0 σ)) x) 14 0 ((2 * (lN0 σ)) + 1) y) 13 0 1 ((nI (lN0 σ)) + 1))))) else (if x = 14 then (if f_X6_within σ y 0 79 = 0 then ((-2), σ) else (if nI (lN0 σ) = 40 then ((-3), σ) else ((gI (sI (sI (sI σ 14 0 (2 * (lN0 σ)) x) 14 0 ((2 * (lN0 σ)) + 1) y) 13 0 1 ((nI (lN0 σ)) + 1)) 13 0 1) - 1, sI (sI (sI σ 14 0 (2 * (lN0 σ)) x) 14 0 ((2 * (lN0 σ)) + 1) y) 13 0 1 ((nI (lN0 σ)) + 1)))) else (if nI (lN0 σ) = 40 then ((-3), σ) else ((gI (sI (sI (sI σ 14 0 (2 * (lN0 σ)) x) 14 0 ((2 * (lN0 σ)) + 1) y) 13 0 1 ((nI (lN0 σ)) + 1)) 13 0 1) - 1, sI (sI (sI σ 14 0 (2 * (lN0 σ)) x) 14 0 ((2 * (lN0 σ)) + 1) y) 13 0 1 ((nI (lN0 σ)) + 1))))))) else (if x = 8 then (if f_X6_within σ y 0 39 = 0 then ((-2), σ) else (if x = 14 then (if f_X6_within σ y 0 79 = 0 then ((-2), σ) else (if nI (lN0 σ) = 40 then ((-3), σ) else ((gI (sI (sI (sI σ 14 0 (2 * (lN0 σ)) x) 14 0 ((2 * (lN0 σ)) + 1) y) 13 0 1 ((nI (lN0 σ)) + 1)) 13 0 1) - 1, sI (sI (sI σ 14 0 (2 * (lN0 σ)) x) 14 0 ((2 * (lN0 σ)) + 1) y) 13 0 1 ((nI (lN0 σ)) + 1)))) else (if nI (lN0 σ) = 40 then ((-3), σ) else ((gI (sI (sI (sI σ 14 0 (2 * (lN0 σ)) x) 14 0 ((2 * (lN0 σ)) + 1) y) 13 0 1 ((nI (lN0 σ)) + 1)) 13 0 1) - 1, sI (sI (sI σ 14 0 (2 * (lN0 σ)) x) 14 0 ((2 * (lN0 σ)) + 1) y) 13 0 1 ((nI (lN0 σ)) + 1))))) else (if x = 9 then (if f_X6_within σ y 0 39 = 0 then ((-2), σ) else (if x = 14 then (if f_X6_within σ y 0 79 = 0 then ((-2), σ) else (if nI (lN0 σ) = 40 then ((-3), σ) else ((gI (sI (sI (sI σ 14 0 (2 * (lN0 σ)) x) 14 0 ((2 * (lN0 σ)) + 1) y) 13 0 1 ((nI (lN0 σ)) + 1)) 13 0 1) - 1, sI (sI (sI σ 14 0 (2 * (lN0 σ)) x) 14 0 ((2 * (lN0 σ)) + 1) y) 13 0 1 ((nI (lN0 σ)) + 1)))) else (if nI (lN0 σ) = 40 then ((-3), σ) else ((gI (sI (sI (sI σ 14 0 (2 * (lN0 σ)) x) 14 0 ((2 * (lN0 σ)) + 1) y) 13 0 1 ((nI (lN0 σ)) + 1)) 13 0 1) - 1, sI (sI (sI σ 14 0 (2 * (lN0 σ)) x) 14 0 ((2 * (lN0 σ)) + 1) y) 13 0 1 ((nI (lN0 σ)) + 1))))) else (if x = 14 then (if f_X6_within σ y 0 79 = 0 then ((-2), σ) else (if nI (lN0 σ) = 40 then ((-3), σ) else ((gI (sI (sI (sI σ 14 0 (2 * (lN0 σ)) x) 14 0 ((2 * (lN0 σ)) + 1) y) 13 0 1 ((nI (lN0 σ)) + 1)) 13 0 1) - 1, sI (sI (sI σ 14 0 (2 * (lN0 σ)) x) 14 0 ((2 * (lN0 σ)) + 1) y) 13 0 1 ((nI (lN0 σ)) + 1)))) else (if nI (lN0 σ) = 40 then ((-3), σ) else ((gI (sI (sI (sI σ 14 0 (2 * (lN0 σ)) x) 14 0 ((2 * (lN0 σ)) + 1) y) 13 0 1 ((nI (lN0 σ)) + 1)) 13 0 1) - 1, sI (sI (sI σ 14 0 (2 * (lN0 σ)) x) 14 0 ((2 * (lN0 σ)) + 1) y) 13 0 1 ((nI (lN0 σ)) + 1)))))))))))
set_option maxRecDepth 100000 in
set_option maxHeartbeats 4000000 in
theorem k_X6_add (l : Launch) (D : va_G) (cs : Nat → ClassId) (b : Nat) (σ : St) (x : Int32) (y : Int32) (hL : okL σ) : Met l yX6_add (Cond.code yX6_add cX6_add 4 (some FieldType.int) :: T0) { frames := 1, cells := 0, slots := 0, locals := 22 } (Pe D (tyx cs) b 43 (Ex cs b σ) [.ref (b + xo 13 0), .int (x), .int (y)]) (Qi D (tyx cs) b 43 (Ex cs b (f_X6_add σ x y).2) (f_X6_add σ x y).1) 0 0 (fun a => b ≤ a) := by
  refine e_met (by decide) rfl (Nat.le_of_ble_eq_true rfl) (fun pg e s m below meth c ls hx hb hr hml hts0 hown hlk hnm hH hK hl hS => ?_)
  have hts : ∀ w ∈ T0, w.before _ s = true := fun w h => hts0 w (List.mem_cons_of_mem _ h)
  have hl : lv_has ls 4 [(0, .ref (b + xo 13 0)), (1, .int (x)), (2, .int (y))] := hl
  refine lv_iload_n hx hb dX6_add_0 rfl (lv_at hl 1 rfl) ?_
  refine lv_iconst (v := 0) hx hb dX6_add_1 (by decide) ?_
  refine lv_bipush (v := 15) hx hb dX6_add_2 (by decide) ?_
  refine e_ci (e_runS (As := [.int (x), .int (0), .int (15)]) (rest := []) ⟨hx, hb, hml, hown, hts⟩ (k_X6_within l D cs b σ x 0 15 ) ⟨callB_of 3 hts (gC wC_X6_within) rfl rfl rfl (hts _ wi_X6) (hts _ wM_X6_40) (by decide +kernel) (by decide), hts _ wT_X6_within⟩ hK hH rfl hl.1 rfl (Nat.le_of_ble_eq_true rfl) dX6_add_4 (by decide)) hS (fun H locs hH hS => ?_)
  refine lv_if_ne (tgt := 12) hx hb dX6_add_7 (by decide) (fun c_7_1 => ?_) (fun c_7_1 => ?_)
  ·
    refine lv_iload_n hx hb dX6_add_12 rfl (lv_at hl 1 rfl) ?_
    refine lv_iconst (v := 2) hx hb dX6_add_13 (by decide) ?_
    refine lv_icmp_eq (tgt := 34) hx hb dX6_add_14 (by decide) (fun c_14_2 => ?_) (fun c_14_2 => ?_)
    ·
      refine lv_iconst (v := 1) hx hb dX6_add_34 (by decide) ?_
      refine lv_goto (tgt := 39) hx hb dX6_add_35 (by decide) ?_
      refine lv_istore_n (lv' := [(3, .int (1)), (0, .ref (b + xo 13 0)), (1, .int (x)), (2, .int (y))]) hx hb dX6_add_39 rfl hl (by decide) rfl (fun ls hl => ?_)
      refine lv_iload_n hx hb dX6_add_40 rfl (lv_at hl 0 rfl) ?_
      refine lv_if_eq (tgt := 53) hx hb dX6_add_41 (by decide) (fun c_41_3 => ?_) (fun c_41_3 => ?_)
      ·
        exact absurd c_41_3 (by decide)
      refine lv_iload_n hx hb dX6_add_44 rfl (lv_at hl 3 rfl) ?_
      refine lv_iconst (v := 0) hx hb dX6_add_45 (by decide) ?_
      refine lv_iconst (v := 3) hx hb dX6_add_46 (by decide) ?_
      refine e_ci (e_runS (As := [.int (y), .int (0), .int (3)]) (rest := []) ⟨hx, hb, hml, hown, hts⟩ (k_X6_within l D cs b σ y 0 3 ) ⟨callB_of 3 hts (gC wC_X6_within) rfl rfl rfl (hts _ wi_X6) (hts _ wM_X6_40) (by decide +kernel) (by decide), hts _ wT_X6_within⟩ hK hH rfl hl.1 rfl (Nat.le_of_ble_eq_true rfl) dX6_add_47 (by decide)) hS (fun H locs hH hS => ?_)
      refine lv_if_eq (tgt := 91) hx hb dX6_add_50 (by decide) (fun c_50_4 => ?_) (fun c_50_4 => ?_)
      ·
        refine lv_bipush (v := (-2)) hx hb dX6_add_91 (by decide) ?_
        exact e_iret hx hb hr hlk hK hH hS dX6_add_93 (by simp only [f_X6_add, if_neg c_7_1, if_pos c_14_2, if_pos c_50_4]) (congrArg (Ex cs b) (by simp only [f_X6_add, if_neg c_7_1, if_pos c_14_2, if_pos c_50_4]))
      ·
        refine lv_iload_n hx hb dX6_add_53 rfl (lv_at hl 2 rfl) ?_
        refine lv_bipush (v := 8) hx hb dX6_add_54 (by decide) ?_
        refine lv_icmp_eq (tgt := 65) hx hb dX6_add_56 (by decide) (fun c_56_5 => ?_) (fun c_56_5 => ?_)
        ·
          refine lv_iload_n hx hb dX6_add_65 rfl (lv_at hl 3 rfl) ?_
          refine lv_iconst (v := 0) hx hb dX6_add_66 (by decide) ?_
          refine lv_bipush (v := 39) hx hb dX6_add_67 (by decide) ?_
          refine e_ci (e_runS (As := [.int (y), .int (0), .int (39)]) (rest := []) ⟨hx, hb, hml, hown, hts⟩ (k_X6_within l D cs b σ y 0 39 ) ⟨callB_of 3 hts (gC wC_X6_within) rfl rfl rfl (hts _ wi_X6) (hts _ wM_X6_40) (by decide +kernel) (by decide), hts _ wT_X6_within⟩ hK hH rfl hl.1 rfl (Nat.le_of_ble_eq_true rfl) dX6_add_69 (by decide)) hS (fun H locs hH hS => ?_)
          refine lv_if_eq (tgt := 91) hx hb dX6_add_72 (by decide) (fun c_72_6 => ?_) (fun c_72_6 => ?_)
          ·
            refine lv_bipush (v := (-2)) hx hb dX6_add_91 (by decide) ?_
            exact e_iret hx hb hr hlk hK hH hS dX6_add_93 (by simp only [f_X6_add, if_neg c_7_1, if_pos c_14_2, if_neg c_50_4, if_pos c_56_5, if_pos c_72_6]) (congrArg (Ex cs b) (by simp only [f_X6_add, if_neg c_7_1, if_pos c_14_2, if_neg c_50_4, if_pos c_56_5, if_pos c_72_6]))
          ·
            refine lv_iload_n hx hb dX6_add_75 rfl (lv_at hl 2 rfl) ?_
            refine lv_bipush (v := 14) hx hb dX6_add_76 (by decide) ?_
            refine lv_icmp_ne (tgt := 94) hx hb dX6_add_78 (by decide) (fun c_78_7 => ?_) (fun c_78_7 => ?_)
            ·
              refine lv_aload_n hx hb dX6_add_94 rfl (lv_at hl 1 rfl) ?_
              refine fgX6_44 hx hb hts hown hK hH 0 (by decide) dX6_add_95 ?_
              rw [show gI σ 13 0 1 = nI (lN0 σ) from hL.1]
              refine lv_bipush (v := 40) hx hb dX6_add_98 (by decide) ?_
              refine lv_icmp_ne (tgt := 106) hx hb dX6_add_100 (by decide) (fun c_100_8 => ?_) (fun c_100_8 => ?_)
              ·
                have hl40 : lN0 σ < 40 := ne40 hL (by assumption)
                refine lv_aload_n hx hb dX6_add_106 rfl (lv_at hl 1 rfl) ?_
                refine fgX6_7 hx hb hts hown hK hH 0 (by decide) dX6_add_107 ?_
                refine lv_iconst (v := 2) hx hb dX6_add_110 (by decide) ?_
                refine lv_aload_n hx hb dX6_add_111 rfl (lv_at hl 1 rfl) ?_
                refine fgX6_44 hx hb hts hown hK hH 0 (by decide) dX6_add_112 ?_
                rw [show gI σ 13 0 1 = nI (lN0 σ) from hL.1]
                refine lv_imul hx hb dX6_add_115 ?_
                refine lv_iload_n hx hb dX6_add_116 rfl (lv_at hl 2 rfl) ?_
                refine x_iast hx hb hK hH hS 14 0 80 (by decide) (fun _ _ => rfl) (2 * (lN0 σ)) ((tagM ((rfl : (2 : Int32) = nI 2)) rfl)) (by omega) (by decide) dX6_add_117 (fun H locs hH hS => ?_)
                refine lv_aload_n hx hb dX6_add_118 rfl (lv_at hl 1 rfl) ?_
                refine fgX6_7 hx hb hts hown hK hH 0 (by decide) dX6_add_119 ?_
                refine lv_iconst (v := 2) hx hb dX6_add_122 (by decide) ?_
                refine lv_aload_n hx hb dX6_add_123 rfl (lv_at hl 1 rfl) ?_
                refine fgX6_44 hx hb hts hown hK hH 0 (by decide) dX6_add_124 ?_
                rw [show gI (sI σ 14 0 (2 * (lN0 σ)) x) 13 0 1 = nI (lN0 σ) from hL.1]
                refine lv_imul hx hb dX6_add_127 ?_
                refine lv_iconst (v := 1) hx hb dX6_add_128 (by decide) ?_
                refine lv_iadd hx hb dX6_add_129 ?_
                refine lv_iload_n hx hb dX6_add_130 rfl (lv_at hl 3 rfl) ?_
                refine x_iast hx hb hK hH hS 14 0 80 (by decide) (fun _ _ => rfl) ((2 * (lN0 σ)) + 1) ((tagA ((tagM ((rfl : (2 : Int32) = nI 2)) rfl)) ((rfl : (1 : Int32) = nI 1)))) (by omega) (by decide) dX6_add_131 (fun H locs hH hS => ?_)
                refine lv_aload_n hx hb dX6_add_132 rfl (lv_at hl 1 rfl) ?_
                refine lv_dup hx hb dX6_add_133 rfl ?_
                refine fgX6_44 hx hb hts hown hK hH 0 (by decide) dX6_add_134 ?_
                rw [show gI (sI (sI σ 14 0 (2 * (lN0 σ)) x) 14 0 ((2 * (lN0 σ)) + 1) y) 13 0 1 = nI (lN0 σ) from hL.1]
                refine lv_iconst (v := 1) hx hb dX6_add_137 (by decide) ?_
                refine lv_iadd hx hb dX6_add_138 ?_
                refine fpX6_44 hx hb hts hown hK hH hS 0 (by decide) dX6_add_139 (fun H locs hH hS => ?_)
                refine lv_aload_n hx hb dX6_add_142 rfl (lv_at hl 1 rfl) ?_
                refine fgX6_44 hx hb hts hown hK hH 0 (by decide) dX6_add_143 ?_
                refine lv_iconst (v := 1) hx hb dX6_add_146 (by decide) ?_
                refine lv_isub hx hb dX6_add_147 ?_
                exact e_iret hx hb hr hlk hK hH hS dX6_add_148 (by simp only [f_X6_add, if_neg c_7_1, if_pos c_14_2, if_neg c_50_4, if_pos c_56_5, if_neg c_72_6, if_neg c_78_7, if_neg c_100_8]) (congrArg (Ex cs b) (by simp only [f_X6_add, if_neg c_7_1, if_pos c_14_2, if_neg c_50_4, if_pos c_56_5, if_neg c_72_6, if_neg c_78_7, if_neg c_100_8]))
              ·
                refine lv_bipush (v := (-3)) hx hb dX6_add_103 (by decide) ?_
                exact e_iret hx hb hr hlk hK hH hS dX6_add_105 (by simp only [f_X6_add, if_neg c_7_1, if_pos c_14_2, if_neg c_50_4, if_pos c_56_5, if_neg c_72_6, if_neg c_78_7, if_pos c_100_8]) (congrArg (Ex cs b) (by simp only [f_X6_add, if_neg c_7_1, if_pos c_14_2, if_neg c_50_4, if_pos c_56_5, if_neg c_72_6, if_neg c_78_7, if_pos c_100_8]))
            ·
              refine lv_iload_n hx hb dX6_add_81 rfl (lv_at hl 3 rfl) ?_
              refine lv_iconst (v := 0) hx hb dX6_add_82 (by decide) ?_
              refine lv_bipush (v := 79) hx hb dX6_add_83 (by decide) ?_
              refine e_ci (e_runS (As := [.int (y), .int (0), .int (79)]) (rest := []) ⟨hx, hb, hml, hown, hts⟩ (k_X6_within l D cs b σ y 0 79 ) ⟨callB_of 3 hts (gC wC_X6_within) rfl rfl rfl (hts _ wi_X6) (hts _ wM_X6_40) (by decide +kernel) (by decide), hts _ wT_X6_within⟩ hK hH rfl hl.1 rfl (Nat.le_of_ble_eq_true rfl) dX6_add_85 (by decide)) hS (fun H locs hH hS => ?_)
              refine lv_if_ne (tgt := 94) hx hb dX6_add_88 (by decide) (fun c_88_9 => ?_) (fun c_88_9 => ?_)
              ·
                refine lv_aload_n hx hb dX6_add_94 rfl (lv_at hl 1 rfl) ?_
                refine fgX6_44 hx hb hts hown hK hH 0 (by decide) dX6_add_95 ?_
                rw [show gI σ 13 0 1 = nI (lN0 σ) from hL.1]
                refine lv_bipush (v := 40) hx hb dX6_add_98 (by decide) ?_
                refine lv_icmp_ne (tgt := 106) hx hb dX6_add_100 (by decide) (fun c_100_10 => ?_) (fun c_100_10 => ?_)
                ·
                  have hl40 : lN0 σ < 40 := ne40 hL (by assumption)
                  refine lv_aload_n hx hb dX6_add_106 rfl (lv_at hl 1 rfl) ?_
                  refine fgX6_7 hx hb hts hown hK hH 0 (by decide) dX6_add_107 ?_
                  refine lv_iconst (v := 2) hx hb dX6_add_110 (by decide) ?_
                  refine lv_aload_n hx hb dX6_add_111 rfl (lv_at hl 1 rfl) ?_
                  refine fgX6_44 hx hb hts hown hK hH 0 (by decide) dX6_add_112 ?_
                  rw [show gI σ 13 0 1 = nI (lN0 σ) from hL.1]
                  refine lv_imul hx hb dX6_add_115 ?_
                  refine lv_iload_n hx hb dX6_add_116 rfl (lv_at hl 2 rfl) ?_
                  refine x_iast hx hb hK hH hS 14 0 80 (by decide) (fun _ _ => rfl) (2 * (lN0 σ)) ((tagM ((rfl : (2 : Int32) = nI 2)) rfl)) (by omega) (by decide) dX6_add_117 (fun H locs hH hS => ?_)
                  refine lv_aload_n hx hb dX6_add_118 rfl (lv_at hl 1 rfl) ?_
                  refine fgX6_7 hx hb hts hown hK hH 0 (by decide) dX6_add_119 ?_
                  refine lv_iconst (v := 2) hx hb dX6_add_122 (by decide) ?_
                  refine lv_aload_n hx hb dX6_add_123 rfl (lv_at hl 1 rfl) ?_
                  refine fgX6_44 hx hb hts hown hK hH 0 (by decide) dX6_add_124 ?_
                  rw [show gI (sI σ 14 0 (2 * (lN0 σ)) x) 13 0 1 = nI (lN0 σ) from hL.1]
                  refine lv_imul hx hb dX6_add_127 ?_
                  refine lv_iconst (v := 1) hx hb dX6_add_128 (by decide) ?_
                  refine lv_iadd hx hb dX6_add_129 ?_
                  refine lv_iload_n hx hb dX6_add_130 rfl (lv_at hl 3 rfl) ?_
                  refine x_iast hx hb hK hH hS 14 0 80 (by decide) (fun _ _ => rfl) ((2 * (lN0 σ)) + 1) ((tagA ((tagM ((rfl : (2 : Int32) = nI 2)) rfl)) ((rfl : (1 : Int32) = nI 1)))) (by omega) (by decide) dX6_add_131 (fun H locs hH hS => ?_)
                  refine lv_aload_n hx hb dX6_add_132 rfl (lv_at hl 1 rfl) ?_
                  refine lv_dup hx hb dX6_add_133 rfl ?_
                  refine fgX6_44 hx hb hts hown hK hH 0 (by decide) dX6_add_134 ?_
                  rw [show gI (sI (sI σ 14 0 (2 * (lN0 σ)) x) 14 0 ((2 * (lN0 σ)) + 1) y) 13 0 1 = nI (lN0 σ) from hL.1]
                  refine lv_iconst (v := 1) hx hb dX6_add_137 (by decide) ?_
                  refine lv_iadd hx hb dX6_add_138 ?_
                  refine fpX6_44 hx hb hts hown hK hH hS 0 (by decide) dX6_add_139 (fun H locs hH hS => ?_)
                  refine lv_aload_n hx hb dX6_add_142 rfl (lv_at hl 1 rfl) ?_
                  refine fgX6_44 hx hb hts hown hK hH 0 (by decide) dX6_add_143 ?_
                  refine lv_iconst (v := 1) hx hb dX6_add_146 (by decide) ?_
                  refine lv_isub hx hb dX6_add_147 ?_
                  exact e_iret hx hb hr hlk hK hH hS dX6_add_148 (by simp only [f_X6_add, if_neg c_7_1, if_pos c_14_2, if_neg c_50_4, if_pos c_56_5, if_neg c_72_6, if_pos c_78_7, if_neg c_88_9, if_neg c_100_10]) (congrArg (Ex cs b) (by simp only [f_X6_add, if_neg c_7_1, if_pos c_14_2, if_neg c_50_4, if_pos c_56_5, if_neg c_72_6, if_pos c_78_7, if_neg c_88_9, if_neg c_100_10]))
                ·
                  refine lv_bipush (v := (-3)) hx hb dX6_add_103 (by decide) ?_
                  exact e_iret hx hb hr hlk hK hH hS dX6_add_105 (by simp only [f_X6_add, if_neg c_7_1, if_pos c_14_2, if_neg c_50_4, if_pos c_56_5, if_neg c_72_6, if_pos c_78_7, if_neg c_88_9, if_pos c_100_10]) (congrArg (Ex cs b) (by simp only [f_X6_add, if_neg c_7_1, if_pos c_14_2, if_neg c_50_4, if_pos c_56_5, if_neg c_72_6, if_pos c_78_7, if_neg c_88_9, if_pos c_100_10]))
              ·
                refine lv_bipush (v := (-2)) hx hb dX6_add_91 (by decide) ?_
                exact e_iret hx hb hr hlk hK hH hS dX6_add_93 (by simp only [f_X6_add, if_neg c_7_1, if_pos c_14_2, if_neg c_50_4, if_pos c_56_5, if_neg c_72_6, if_pos c_78_7, if_pos c_88_9]) (congrArg (Ex cs b) (by simp only [f_X6_add, if_neg c_7_1, if_pos c_14_2, if_neg c_50_4, if_pos c_56_5, if_neg c_72_6, if_pos c_78_7, if_pos c_88_9]))
        ·
          refine lv_iload_n hx hb dX6_add_59 rfl (lv_at hl 2 rfl) ?_
          refine lv_bipush (v := 9) hx hb dX6_add_60 (by decide) ?_
          refine lv_icmp_ne (tgt := 75) hx hb dX6_add_62 (by decide) (fun c_62_11 => ?_) (fun c_62_11 => ?_)
          ·
            refine lv_iload_n hx hb dX6_add_75 rfl (lv_at hl 2 rfl) ?_
            refine lv_bipush (v := 14) hx hb dX6_add_76 (by decide) ?_
            refine lv_icmp_ne (tgt := 94) hx hb dX6_add_78 (by decide) (fun c_78_12 => ?_) (fun c_78_12 => ?_)
            ·
              refine lv_aload_n hx hb dX6_add_94 rfl (lv_at hl 1 rfl) ?_
              refine fgX6_44 hx hb hts hown hK hH 0 (by decide) dX6_add_95 ?_
              rw [show gI σ 13 0 1 = nI (lN0 σ) from hL.1]
              refine lv_bipush (v := 40) hx hb dX6_add_98 (by decide) ?_
              refine lv_icmp_ne (tgt := 106) hx hb dX6_add_100 (by decide) (fun c_100_13 => ?_) (fun c_100_13 => ?_)
              ·
                have hl40 : lN0 σ < 40 := ne40 hL (by assumption)
                refine lv_aload_n hx hb dX6_add_106 rfl (lv_at hl 1 rfl) ?_
                refine fgX6_7 hx hb hts hown hK hH 0 (by decide) dX6_add_107 ?_
                refine lv_iconst (v := 2) hx hb dX6_add_110 (by decide) ?_
                refine lv_aload_n hx hb dX6_add_111 rfl (lv_at hl 1 rfl) ?_
                refine fgX6_44 hx hb hts hown hK hH 0 (by decide) dX6_add_112 ?_
                rw [show gI σ 13 0 1 = nI (lN0 σ) from hL.1]
                refine lv_imul hx hb dX6_add_115 ?_
                refine lv_iload_n hx hb dX6_add_116 rfl (lv_at hl 2 rfl) ?_
                refine x_iast hx hb hK hH hS 14 0 80 (by decide) (fun _ _ => rfl) (2 * (lN0 σ)) ((tagM ((rfl : (2 : Int32) = nI 2)) rfl)) (by omega) (by decide) dX6_add_117 (fun H locs hH hS => ?_)
                refine lv_aload_n hx hb dX6_add_118 rfl (lv_at hl 1 rfl) ?_
                refine fgX6_7 hx hb hts hown hK hH 0 (by decide) dX6_add_119 ?_
                refine lv_iconst (v := 2) hx hb dX6_add_122 (by decide) ?_
                refine lv_aload_n hx hb dX6_add_123 rfl (lv_at hl 1 rfl) ?_
                refine fgX6_44 hx hb hts hown hK hH 0 (by decide) dX6_add_124 ?_
                rw [show gI (sI σ 14 0 (2 * (lN0 σ)) x) 13 0 1 = nI (lN0 σ) from hL.1]
                refine lv_imul hx hb dX6_add_127 ?_
                refine lv_iconst (v := 1) hx hb dX6_add_128 (by decide) ?_
                refine lv_iadd hx hb dX6_add_129 ?_
                refine lv_iload_n hx hb dX6_add_130 rfl (lv_at hl 3 rfl) ?_
                refine x_iast hx hb hK hH hS 14 0 80 (by decide) (fun _ _ => rfl) ((2 * (lN0 σ)) + 1) ((tagA ((tagM ((rfl : (2 : Int32) = nI 2)) rfl)) ((rfl : (1 : Int32) = nI 1)))) (by omega) (by decide) dX6_add_131 (fun H locs hH hS => ?_)
                refine lv_aload_n hx hb dX6_add_132 rfl (lv_at hl 1 rfl) ?_
                refine lv_dup hx hb dX6_add_133 rfl ?_
                refine fgX6_44 hx hb hts hown hK hH 0 (by decide) dX6_add_134 ?_
                rw [show gI (sI (sI σ 14 0 (2 * (lN0 σ)) x) 14 0 ((2 * (lN0 σ)) + 1) y) 13 0 1 = nI (lN0 σ) from hL.1]
                refine lv_iconst (v := 1) hx hb dX6_add_137 (by decide) ?_
                refine lv_iadd hx hb dX6_add_138 ?_
                refine fpX6_44 hx hb hts hown hK hH hS 0 (by decide) dX6_add_139 (fun H locs hH hS => ?_)
                refine lv_aload_n hx hb dX6_add_142 rfl (lv_at hl 1 rfl) ?_
                refine fgX6_44 hx hb hts hown hK hH 0 (by decide) dX6_add_143 ?_
                refine lv_iconst (v := 1) hx hb dX6_add_146 (by decide) ?_
                refine lv_isub hx hb dX6_add_147 ?_
                exact e_iret hx hb hr hlk hK hH hS dX6_add_148 (by simp only [f_X6_add, if_neg c_7_1, if_pos c_14_2, if_neg c_50_4, if_neg c_56_5, if_neg c_62_11, if_neg c_78_12, if_neg c_100_13]) (congrArg (Ex cs b) (by simp only [f_X6_add, if_neg c_7_1, if_pos c_14_2, if_neg c_50_4, if_neg c_56_5, if_neg c_62_11, if_neg c_78_12, if_neg c_100_13]))
              ·
                refine lv_bipush (v := (-3)) hx hb dX6_add_103 (by decide) ?_
                exact e_iret hx hb hr hlk hK hH hS dX6_add_105 (by simp only [f_X6_add, if_neg c_7_1, if_pos c_14_2, if_neg c_50_4, if_neg c_56_5, if_neg c_62_11, if_neg c_78_12, if_pos c_100_13]) (congrArg (Ex cs b) (by simp only [f_X6_add, if_neg c_7_1, if_pos c_14_2, if_neg c_50_4, if_neg c_56_5, if_neg c_62_11, if_neg c_78_12, if_pos c_100_13]))
            ·
              refine lv_iload_n hx hb dX6_add_81 rfl (lv_at hl 3 rfl) ?_
              refine lv_iconst (v := 0) hx hb dX6_add_82 (by decide) ?_
              refine lv_bipush (v := 79) hx hb dX6_add_83 (by decide) ?_
              refine e_ci (e_runS (As := [.int (y), .int (0), .int (79)]) (rest := []) ⟨hx, hb, hml, hown, hts⟩ (k_X6_within l D cs b σ y 0 79 ) ⟨callB_of 3 hts (gC wC_X6_within) rfl rfl rfl (hts _ wi_X6) (hts _ wM_X6_40) (by decide +kernel) (by decide), hts _ wT_X6_within⟩ hK hH rfl hl.1 rfl (Nat.le_of_ble_eq_true rfl) dX6_add_85 (by decide)) hS (fun H locs hH hS => ?_)
              refine lv_if_ne (tgt := 94) hx hb dX6_add_88 (by decide) (fun c_88_14 => ?_) (fun c_88_14 => ?_)
              ·
                refine lv_aload_n hx hb dX6_add_94 rfl (lv_at hl 1 rfl) ?_
                refine fgX6_44 hx hb hts hown hK hH 0 (by decide) dX6_add_95 ?_
                rw [show gI σ 13 0 1 = nI (lN0 σ) from hL.1]
                refine lv_bipush (v := 40) hx hb dX6_add_98 (by decide) ?_
                refine lv_icmp_ne (tgt := 106) hx hb dX6_add_100 (by decide) (fun c_100_15 => ?_) (fun c_100_15 => ?_)
                ·
                  have hl40 : lN0 σ < 40 := ne40 hL (by assumption)
                  refine lv_aload_n hx hb dX6_add_106 rfl (lv_at hl 1 rfl) ?_
                  refine fgX6_7 hx hb hts hown hK hH 0 (by decide) dX6_add_107 ?_
                  refine lv_iconst (v := 2) hx hb dX6_add_110 (by decide) ?_
                  refine lv_aload_n hx hb dX6_add_111 rfl (lv_at hl 1 rfl) ?_
                  refine fgX6_44 hx hb hts hown hK hH 0 (by decide) dX6_add_112 ?_
                  rw [show gI σ 13 0 1 = nI (lN0 σ) from hL.1]
                  refine lv_imul hx hb dX6_add_115 ?_
                  refine lv_iload_n hx hb dX6_add_116 rfl (lv_at hl 2 rfl) ?_
                  refine x_iast hx hb hK hH hS 14 0 80 (by decide) (fun _ _ => rfl) (2 * (lN0 σ)) ((tagM ((rfl : (2 : Int32) = nI 2)) rfl)) (by omega) (by decide) dX6_add_117 (fun H locs hH hS => ?_)
                  refine lv_aload_n hx hb dX6_add_118 rfl (lv_at hl 1 rfl) ?_
                  refine fgX6_7 hx hb hts hown hK hH 0 (by decide) dX6_add_119 ?_
                  refine lv_iconst (v := 2) hx hb dX6_add_122 (by decide) ?_
                  refine lv_aload_n hx hb dX6_add_123 rfl (lv_at hl 1 rfl) ?_
                  refine fgX6_44 hx hb hts hown hK hH 0 (by decide) dX6_add_124 ?_
                  rw [show gI (sI σ 14 0 (2 * (lN0 σ)) x) 13 0 1 = nI (lN0 σ) from hL.1]
                  refine lv_imul hx hb dX6_add_127 ?_
                  refine lv_iconst (v := 1) hx hb dX6_add_128 (by decide) ?_
                  refine lv_iadd hx hb dX6_add_129 ?_
                  refine lv_iload_n hx hb dX6_add_130 rfl (lv_at hl 3 rfl) ?_
                  refine x_iast hx hb hK hH hS 14 0 80 (by decide) (fun _ _ => rfl) ((2 * (lN0 σ)) + 1) ((tagA ((tagM ((rfl : (2 : Int32) = nI 2)) rfl)) ((rfl : (1 : Int32) = nI 1)))) (by omega) (by decide) dX6_add_131 (fun H locs hH hS => ?_)
                  refine lv_aload_n hx hb dX6_add_132 rfl (lv_at hl 1 rfl) ?_
                  refine lv_dup hx hb dX6_add_133 rfl ?_
                  refine fgX6_44 hx hb hts hown hK hH 0 (by decide) dX6_add_134 ?_
                  rw [show gI (sI (sI σ 14 0 (2 * (lN0 σ)) x) 14 0 ((2 * (lN0 σ)) + 1) y) 13 0 1 = nI (lN0 σ) from hL.1]
                  refine lv_iconst (v := 1) hx hb dX6_add_137 (by decide) ?_
                  refine lv_iadd hx hb dX6_add_138 ?_
                  refine fpX6_44 hx hb hts hown hK hH hS 0 (by decide) dX6_add_139 (fun H locs hH hS => ?_)
                  refine lv_aload_n hx hb dX6_add_142 rfl (lv_at hl 1 rfl) ?_
                  refine fgX6_44 hx hb hts hown hK hH 0 (by decide) dX6_add_143 ?_
                  refine lv_iconst (v := 1) hx hb dX6_add_146 (by decide) ?_
                  refine lv_isub hx hb dX6_add_147 ?_
                  exact e_iret hx hb hr hlk hK hH hS dX6_add_148 (by simp only [f_X6_add, if_neg c_7_1, if_pos c_14_2, if_neg c_50_4, if_neg c_56_5, if_neg c_62_11, if_pos c_78_12, if_neg c_88_14, if_neg c_100_15]) (congrArg (Ex cs b) (by simp only [f_X6_add, if_neg c_7_1, if_pos c_14_2, if_neg c_50_4, if_neg c_56_5, if_neg c_62_11, if_pos c_78_12, if_neg c_88_14, if_neg c_100_15]))
                ·
                  refine lv_bipush (v := (-3)) hx hb dX6_add_103 (by decide) ?_
                  exact e_iret hx hb hr hlk hK hH hS dX6_add_105 (by simp only [f_X6_add, if_neg c_7_1, if_pos c_14_2, if_neg c_50_4, if_neg c_56_5, if_neg c_62_11, if_pos c_78_12, if_neg c_88_14, if_pos c_100_15]) (congrArg (Ex cs b) (by simp only [f_X6_add, if_neg c_7_1, if_pos c_14_2, if_neg c_50_4, if_neg c_56_5, if_neg c_62_11, if_pos c_78_12, if_neg c_88_14, if_pos c_100_15]))
              ·
                refine lv_bipush (v := (-2)) hx hb dX6_add_91 (by decide) ?_
                exact e_iret hx hb hr hlk hK hH hS dX6_add_93 (by simp only [f_X6_add, if_neg c_7_1, if_pos c_14_2, if_neg c_50_4, if_neg c_56_5, if_neg c_62_11, if_pos c_78_12, if_pos c_88_14]) (congrArg (Ex cs b) (by simp only [f_X6_add, if_neg c_7_1, if_pos c_14_2, if_neg c_50_4, if_neg c_56_5, if_neg c_62_11, if_pos c_78_12, if_pos c_88_14]))
          ·
            refine lv_iload_n hx hb dX6_add_65 rfl (lv_at hl 3 rfl) ?_
            refine lv_iconst (v := 0) hx hb dX6_add_66 (by decide) ?_
            refine lv_bipush (v := 39) hx hb dX6_add_67 (by decide) ?_
            refine e_ci (e_runS (As := [.int (y), .int (0), .int (39)]) (rest := []) ⟨hx, hb, hml, hown, hts⟩ (k_X6_within l D cs b σ y 0 39 ) ⟨callB_of 3 hts (gC wC_X6_within) rfl rfl rfl (hts _ wi_X6) (hts _ wM_X6_40) (by decide +kernel) (by decide), hts _ wT_X6_within⟩ hK hH rfl hl.1 rfl (Nat.le_of_ble_eq_true rfl) dX6_add_69 (by decide)) hS (fun H locs hH hS => ?_)
            refine lv_if_eq (tgt := 91) hx hb dX6_add_72 (by decide) (fun c_72_16 => ?_) (fun c_72_16 => ?_)
            ·
              refine lv_bipush (v := (-2)) hx hb dX6_add_91 (by decide) ?_
              exact e_iret hx hb hr hlk hK hH hS dX6_add_93 (by simp only [f_X6_add, if_neg c_7_1, if_pos c_14_2, if_neg c_50_4, if_neg c_56_5, if_pos c_62_11, if_pos c_72_16]) (congrArg (Ex cs b) (by simp only [f_X6_add, if_neg c_7_1, if_pos c_14_2, if_neg c_50_4, if_neg c_56_5, if_pos c_62_11, if_pos c_72_16]))
            ·
              refine lv_iload_n hx hb dX6_add_75 rfl (lv_at hl 2 rfl) ?_
              refine lv_bipush (v := 14) hx hb dX6_add_76 (by decide) ?_
              refine lv_icmp_ne (tgt := 94) hx hb dX6_add_78 (by decide) (fun c_78_17 => ?_) (fun c_78_17 => ?_)
              ·
                refine lv_aload_n hx hb dX6_add_94 rfl (lv_at hl 1 rfl) ?_
                refine fgX6_44 hx hb hts hown hK hH 0 (by decide) dX6_add_95 ?_
                rw [show gI σ 13 0 1 = nI (lN0 σ) from hL.1]
                refine lv_bipush (v := 40) hx hb dX6_add_98 (by decide) ?_
                refine lv_icmp_ne (tgt := 106) hx hb dX6_add_100 (by decide) (fun c_100_18 => ?_) (fun c_100_18 => ?_)
                ·
                  have hl40 : lN0 σ < 40 := ne40 hL (by assumption)
                  refine lv_aload_n hx hb dX6_add_106 rfl (lv_at hl 1 rfl) ?_
                  refine fgX6_7 hx hb hts hown hK hH 0 (by decide) dX6_add_107 ?_
                  refine lv_iconst (v := 2) hx hb dX6_add_110 (by decide) ?_
                  refine lv_aload_n hx hb dX6_add_111 rfl (lv_at hl 1 rfl) ?_
                  refine fgX6_44 hx hb hts hown hK hH 0 (by decide) dX6_add_112 ?_
                  rw [show gI σ 13 0 1 = nI (lN0 σ) from hL.1]
                  refine lv_imul hx hb dX6_add_115 ?_
                  refine lv_iload_n hx hb dX6_add_116 rfl (lv_at hl 2 rfl) ?_
                  refine x_iast hx hb hK hH hS 14 0 80 (by decide) (fun _ _ => rfl) (2 * (lN0 σ)) ((tagM ((rfl : (2 : Int32) = nI 2)) rfl)) (by omega) (by decide) dX6_add_117 (fun H locs hH hS => ?_)
                  refine lv_aload_n hx hb dX6_add_118 rfl (lv_at hl 1 rfl) ?_
                  refine fgX6_7 hx hb hts hown hK hH 0 (by decide) dX6_add_119 ?_
                  refine lv_iconst (v := 2) hx hb dX6_add_122 (by decide) ?_
                  refine lv_aload_n hx hb dX6_add_123 rfl (lv_at hl 1 rfl) ?_
                  refine fgX6_44 hx hb hts hown hK hH 0 (by decide) dX6_add_124 ?_
                  rw [show gI (sI σ 14 0 (2 * (lN0 σ)) x) 13 0 1 = nI (lN0 σ) from hL.1]
                  refine lv_imul hx hb dX6_add_127 ?_
                  refine lv_iconst (v := 1) hx hb dX6_add_128 (by decide) ?_
                  refine lv_iadd hx hb dX6_add_129 ?_
                  refine lv_iload_n hx hb dX6_add_130 rfl (lv_at hl 3 rfl) ?_
                  refine x_iast hx hb hK hH hS 14 0 80 (by decide) (fun _ _ => rfl) ((2 * (lN0 σ)) + 1) ((tagA ((tagM ((rfl : (2 : Int32) = nI 2)) rfl)) ((rfl : (1 : Int32) = nI 1)))) (by omega) (by decide) dX6_add_131 (fun H locs hH hS => ?_)
                  refine lv_aload_n hx hb dX6_add_132 rfl (lv_at hl 1 rfl) ?_
                  refine lv_dup hx hb dX6_add_133 rfl ?_
                  refine fgX6_44 hx hb hts hown hK hH 0 (by decide) dX6_add_134 ?_
                  rw [show gI (sI (sI σ 14 0 (2 * (lN0 σ)) x) 14 0 ((2 * (lN0 σ)) + 1) y) 13 0 1 = nI (lN0 σ) from hL.1]
                  refine lv_iconst (v := 1) hx hb dX6_add_137 (by decide) ?_
                  refine lv_iadd hx hb dX6_add_138 ?_
                  refine fpX6_44 hx hb hts hown hK hH hS 0 (by decide) dX6_add_139 (fun H locs hH hS => ?_)
                  refine lv_aload_n hx hb dX6_add_142 rfl (lv_at hl 1 rfl) ?_
                  refine fgX6_44 hx hb hts hown hK hH 0 (by decide) dX6_add_143 ?_
                  refine lv_iconst (v := 1) hx hb dX6_add_146 (by decide) ?_
                  refine lv_isub hx hb dX6_add_147 ?_
                  exact e_iret hx hb hr hlk hK hH hS dX6_add_148 (by simp only [f_X6_add, if_neg c_7_1, if_pos c_14_2, if_neg c_50_4, if_neg c_56_5, if_pos c_62_11, if_neg c_72_16, if_neg c_78_17, if_neg c_100_18]) (congrArg (Ex cs b) (by simp only [f_X6_add, if_neg c_7_1, if_pos c_14_2, if_neg c_50_4, if_neg c_56_5, if_pos c_62_11, if_neg c_72_16, if_neg c_78_17, if_neg c_100_18]))
                ·
                  refine lv_bipush (v := (-3)) hx hb dX6_add_103 (by decide) ?_
                  exact e_iret hx hb hr hlk hK hH hS dX6_add_105 (by simp only [f_X6_add, if_neg c_7_1, if_pos c_14_2, if_neg c_50_4, if_neg c_56_5, if_pos c_62_11, if_neg c_72_16, if_neg c_78_17, if_pos c_100_18]) (congrArg (Ex cs b) (by simp only [f_X6_add, if_neg c_7_1, if_pos c_14_2, if_neg c_50_4, if_neg c_56_5, if_pos c_62_11, if_neg c_72_16, if_neg c_78_17, if_pos c_100_18]))
              ·
                refine lv_iload_n hx hb dX6_add_81 rfl (lv_at hl 3 rfl) ?_
                refine lv_iconst (v := 0) hx hb dX6_add_82 (by decide) ?_
                refine lv_bipush (v := 79) hx hb dX6_add_83 (by decide) ?_
                refine e_ci (e_runS (As := [.int (y), .int (0), .int (79)]) (rest := []) ⟨hx, hb, hml, hown, hts⟩ (k_X6_within l D cs b σ y 0 79 ) ⟨callB_of 3 hts (gC wC_X6_within) rfl rfl rfl (hts _ wi_X6) (hts _ wM_X6_40) (by decide +kernel) (by decide), hts _ wT_X6_within⟩ hK hH rfl hl.1 rfl (Nat.le_of_ble_eq_true rfl) dX6_add_85 (by decide)) hS (fun H locs hH hS => ?_)
                refine lv_if_ne (tgt := 94) hx hb dX6_add_88 (by decide) (fun c_88_19 => ?_) (fun c_88_19 => ?_)
                ·
                  refine lv_aload_n hx hb dX6_add_94 rfl (lv_at hl 1 rfl) ?_
                  refine fgX6_44 hx hb hts hown hK hH 0 (by decide) dX6_add_95 ?_
                  rw [show gI σ 13 0 1 = nI (lN0 σ) from hL.1]
                  refine lv_bipush (v := 40) hx hb dX6_add_98 (by decide) ?_
                  refine lv_icmp_ne (tgt := 106) hx hb dX6_add_100 (by decide) (fun c_100_20 => ?_) (fun c_100_20 => ?_)
                  ·
                    have hl40 : lN0 σ < 40 := ne40 hL (by assumption)
                    refine lv_aload_n hx hb dX6_add_106 rfl (lv_at hl 1 rfl) ?_
                    refine fgX6_7 hx hb hts hown hK hH 0 (by decide) dX6_add_107 ?_
                    refine lv_iconst (v := 2) hx hb dX6_add_110 (by decide) ?_
                    refine lv_aload_n hx hb dX6_add_111 rfl (lv_at hl 1 rfl) ?_
                    refine fgX6_44 hx hb hts hown hK hH 0 (by decide) dX6_add_112 ?_
                    rw [show gI σ 13 0 1 = nI (lN0 σ) from hL.1]
                    refine lv_imul hx hb dX6_add_115 ?_
                    refine lv_iload_n hx hb dX6_add_116 rfl (lv_at hl 2 rfl) ?_
                    refine x_iast hx hb hK hH hS 14 0 80 (by decide) (fun _ _ => rfl) (2 * (lN0 σ)) ((tagM ((rfl : (2 : Int32) = nI 2)) rfl)) (by omega) (by decide) dX6_add_117 (fun H locs hH hS => ?_)
                    refine lv_aload_n hx hb dX6_add_118 rfl (lv_at hl 1 rfl) ?_
                    refine fgX6_7 hx hb hts hown hK hH 0 (by decide) dX6_add_119 ?_
                    refine lv_iconst (v := 2) hx hb dX6_add_122 (by decide) ?_
                    refine lv_aload_n hx hb dX6_add_123 rfl (lv_at hl 1 rfl) ?_
                    refine fgX6_44 hx hb hts hown hK hH 0 (by decide) dX6_add_124 ?_
                    rw [show gI (sI σ 14 0 (2 * (lN0 σ)) x) 13 0 1 = nI (lN0 σ) from hL.1]
                    refine lv_imul hx hb dX6_add_127 ?_
                    refine lv_iconst (v := 1) hx hb dX6_add_128 (by decide) ?_
                    refine lv_iadd hx hb dX6_add_129 ?_
                    refine lv_iload_n hx hb dX6_add_130 rfl (lv_at hl 3 rfl) ?_
                    refine x_iast hx hb hK hH hS 14 0 80 (by decide) (fun _ _ => rfl) ((2 * (lN0 σ)) + 1) ((tagA ((tagM ((rfl : (2 : Int32) = nI 2)) rfl)) ((rfl : (1 : Int32) = nI 1)))) (by omega) (by decide) dX6_add_131 (fun H locs hH hS => ?_)
                    refine lv_aload_n hx hb dX6_add_132 rfl (lv_at hl 1 rfl) ?_
                    refine lv_dup hx hb dX6_add_133 rfl ?_
                    refine fgX6_44 hx hb hts hown hK hH 0 (by decide) dX6_add_134 ?_
                    rw [show gI (sI (sI σ 14 0 (2 * (lN0 σ)) x) 14 0 ((2 * (lN0 σ)) + 1) y) 13 0 1 = nI (lN0 σ) from hL.1]
                    refine lv_iconst (v := 1) hx hb dX6_add_137 (by decide) ?_
                    refine lv_iadd hx hb dX6_add_138 ?_
                    refine fpX6_44 hx hb hts hown hK hH hS 0 (by decide) dX6_add_139 (fun H locs hH hS => ?_)
                    refine lv_aload_n hx hb dX6_add_142 rfl (lv_at hl 1 rfl) ?_
                    refine fgX6_44 hx hb hts hown hK hH 0 (by decide) dX6_add_143 ?_
                    refine lv_iconst (v := 1) hx hb dX6_add_146 (by decide) ?_
                    refine lv_isub hx hb dX6_add_147 ?_
                    exact e_iret hx hb hr hlk hK hH hS dX6_add_148 (by simp only [f_X6_add, if_neg c_7_1, if_pos c_14_2, if_neg c_50_4, if_neg c_56_5, if_pos c_62_11, if_neg c_72_16, if_pos c_78_17, if_neg c_88_19, if_neg c_100_20]) (congrArg (Ex cs b) (by simp only [f_X6_add, if_neg c_7_1, if_pos c_14_2, if_neg c_50_4, if_neg c_56_5, if_pos c_62_11, if_neg c_72_16, if_pos c_78_17, if_neg c_88_19, if_neg c_100_20]))
                  ·
                    refine lv_bipush (v := (-3)) hx hb dX6_add_103 (by decide) ?_
                    exact e_iret hx hb hr hlk hK hH hS dX6_add_105 (by simp only [f_X6_add, if_neg c_7_1, if_pos c_14_2, if_neg c_50_4, if_neg c_56_5, if_pos c_62_11, if_neg c_72_16, if_pos c_78_17, if_neg c_88_19, if_pos c_100_20]) (congrArg (Ex cs b) (by simp only [f_X6_add, if_neg c_7_1, if_pos c_14_2, if_neg c_50_4, if_neg c_56_5, if_pos c_62_11, if_neg c_72_16, if_pos c_78_17, if_neg c_88_19, if_pos c_100_20]))
                ·
                  refine lv_bipush (v := (-2)) hx hb dX6_add_91 (by decide) ?_
                  exact e_iret hx hb hr hlk hK hH hS dX6_add_93 (by simp only [f_X6_add, if_neg c_7_1, if_pos c_14_2, if_neg c_50_4, if_neg c_56_5, if_pos c_62_11, if_neg c_72_16, if_pos c_78_17, if_pos c_88_19]) (congrArg (Ex cs b) (by simp only [f_X6_add, if_neg c_7_1, if_pos c_14_2, if_neg c_50_4, if_neg c_56_5, if_pos c_62_11, if_neg c_72_16, if_pos c_78_17, if_pos c_88_19]))
    ·
      refine lv_iload_n hx hb dX6_add_17 rfl (lv_at hl 1 rfl) ?_
      refine lv_iconst (v := 3) hx hb dX6_add_18 (by decide) ?_
      refine lv_icmp_eq (tgt := 34) hx hb dX6_add_19 (by decide) (fun c_19_21 => ?_) (fun c_19_21 => ?_)
      ·
        refine lv_iconst (v := 1) hx hb dX6_add_34 (by decide) ?_
        refine lv_goto (tgt := 39) hx hb dX6_add_35 (by decide) ?_
        refine lv_istore_n (lv' := [(3, .int (1)), (0, .ref (b + xo 13 0)), (1, .int (x)), (2, .int (y))]) hx hb dX6_add_39 rfl hl (by decide) rfl (fun ls hl => ?_)
        refine lv_iload_n hx hb dX6_add_40 rfl (lv_at hl 0 rfl) ?_
        refine lv_if_eq (tgt := 53) hx hb dX6_add_41 (by decide) (fun c_41_22 => ?_) (fun c_41_22 => ?_)
        ·
          exact absurd c_41_22 (by decide)
        refine lv_iload_n hx hb dX6_add_44 rfl (lv_at hl 3 rfl) ?_
        refine lv_iconst (v := 0) hx hb dX6_add_45 (by decide) ?_
        refine lv_iconst (v := 3) hx hb dX6_add_46 (by decide) ?_
        refine e_ci (e_runS (As := [.int (y), .int (0), .int (3)]) (rest := []) ⟨hx, hb, hml, hown, hts⟩ (k_X6_within l D cs b σ y 0 3 ) ⟨callB_of 3 hts (gC wC_X6_within) rfl rfl rfl (hts _ wi_X6) (hts _ wM_X6_40) (by decide +kernel) (by decide), hts _ wT_X6_within⟩ hK hH rfl hl.1 rfl (Nat.le_of_ble_eq_true rfl) dX6_add_47 (by decide)) hS (fun H locs hH hS => ?_)
        refine lv_if_eq (tgt := 91) hx hb dX6_add_50 (by decide) (fun c_50_23 => ?_) (fun c_50_23 => ?_)
        ·
          refine lv_bipush (v := (-2)) hx hb dX6_add_91 (by decide) ?_
          exact e_iret hx hb hr hlk hK hH hS dX6_add_93 (by simp only [f_X6_add, if_neg c_7_1, if_neg c_14_2, if_pos c_19_21, if_pos c_50_23]) (congrArg (Ex cs b) (by simp only [f_X6_add, if_neg c_7_1, if_neg c_14_2, if_pos c_19_21, if_pos c_50_23]))
        ·
          refine lv_iload_n hx hb dX6_add_53 rfl (lv_at hl 2 rfl) ?_
          refine lv_bipush (v := 8) hx hb dX6_add_54 (by decide) ?_
          refine lv_icmp_eq (tgt := 65) hx hb dX6_add_56 (by decide) (fun c_56_24 => ?_) (fun c_56_24 => ?_)
          ·
            refine lv_iload_n hx hb dX6_add_65 rfl (lv_at hl 3 rfl) ?_
            refine lv_iconst (v := 0) hx hb dX6_add_66 (by decide) ?_
            refine lv_bipush (v := 39) hx hb dX6_add_67 (by decide) ?_
            refine e_ci (e_runS (As := [.int (y), .int (0), .int (39)]) (rest := []) ⟨hx, hb, hml, hown, hts⟩ (k_X6_within l D cs b σ y 0 39 ) ⟨callB_of 3 hts (gC wC_X6_within) rfl rfl rfl (hts _ wi_X6) (hts _ wM_X6_40) (by decide +kernel) (by decide), hts _ wT_X6_within⟩ hK hH rfl hl.1 rfl (Nat.le_of_ble_eq_true rfl) dX6_add_69 (by decide)) hS (fun H locs hH hS => ?_)
            refine lv_if_eq (tgt := 91) hx hb dX6_add_72 (by decide) (fun c_72_25 => ?_) (fun c_72_25 => ?_)
            ·
              refine lv_bipush (v := (-2)) hx hb dX6_add_91 (by decide) ?_
              exact e_iret hx hb hr hlk hK hH hS dX6_add_93 (by simp only [f_X6_add, if_neg c_7_1, if_neg c_14_2, if_pos c_19_21, if_neg c_50_23, if_pos c_56_24, if_pos c_72_25]) (congrArg (Ex cs b) (by simp only [f_X6_add, if_neg c_7_1, if_neg c_14_2, if_pos c_19_21, if_neg c_50_23, if_pos c_56_24, if_pos c_72_25]))
            ·
              refine lv_iload_n hx hb dX6_add_75 rfl (lv_at hl 2 rfl) ?_
              refine lv_bipush (v := 14) hx hb dX6_add_76 (by decide) ?_
              refine lv_icmp_ne (tgt := 94) hx hb dX6_add_78 (by decide) (fun c_78_26 => ?_) (fun c_78_26 => ?_)
              ·
                refine lv_aload_n hx hb dX6_add_94 rfl (lv_at hl 1 rfl) ?_
                refine fgX6_44 hx hb hts hown hK hH 0 (by decide) dX6_add_95 ?_
                rw [show gI σ 13 0 1 = nI (lN0 σ) from hL.1]
                refine lv_bipush (v := 40) hx hb dX6_add_98 (by decide) ?_
                refine lv_icmp_ne (tgt := 106) hx hb dX6_add_100 (by decide) (fun c_100_27 => ?_) (fun c_100_27 => ?_)
                ·
                  have hl40 : lN0 σ < 40 := ne40 hL (by assumption)
                  refine lv_aload_n hx hb dX6_add_106 rfl (lv_at hl 1 rfl) ?_
                  refine fgX6_7 hx hb hts hown hK hH 0 (by decide) dX6_add_107 ?_
                  refine lv_iconst (v := 2) hx hb dX6_add_110 (by decide) ?_
                  refine lv_aload_n hx hb dX6_add_111 rfl (lv_at hl 1 rfl) ?_
                  refine fgX6_44 hx hb hts hown hK hH 0 (by decide) dX6_add_112 ?_
                  rw [show gI σ 13 0 1 = nI (lN0 σ) from hL.1]
                  refine lv_imul hx hb dX6_add_115 ?_
                  refine lv_iload_n hx hb dX6_add_116 rfl (lv_at hl 2 rfl) ?_
                  refine x_iast hx hb hK hH hS 14 0 80 (by decide) (fun _ _ => rfl) (2 * (lN0 σ)) ((tagM ((rfl : (2 : Int32) = nI 2)) rfl)) (by omega) (by decide) dX6_add_117 (fun H locs hH hS => ?_)
                  refine lv_aload_n hx hb dX6_add_118 rfl (lv_at hl 1 rfl) ?_
                  refine fgX6_7 hx hb hts hown hK hH 0 (by decide) dX6_add_119 ?_
                  refine lv_iconst (v := 2) hx hb dX6_add_122 (by decide) ?_
                  refine lv_aload_n hx hb dX6_add_123 rfl (lv_at hl 1 rfl) ?_
                  refine fgX6_44 hx hb hts hown hK hH 0 (by decide) dX6_add_124 ?_
                  rw [show gI (sI σ 14 0 (2 * (lN0 σ)) x) 13 0 1 = nI (lN0 σ) from hL.1]
                  refine lv_imul hx hb dX6_add_127 ?_
                  refine lv_iconst (v := 1) hx hb dX6_add_128 (by decide) ?_
                  refine lv_iadd hx hb dX6_add_129 ?_
                  refine lv_iload_n hx hb dX6_add_130 rfl (lv_at hl 3 rfl) ?_
                  refine x_iast hx hb hK hH hS 14 0 80 (by decide) (fun _ _ => rfl) ((2 * (lN0 σ)) + 1) ((tagA ((tagM ((rfl : (2 : Int32) = nI 2)) rfl)) ((rfl : (1 : Int32) = nI 1)))) (by omega) (by decide) dX6_add_131 (fun H locs hH hS => ?_)
                  refine lv_aload_n hx hb dX6_add_132 rfl (lv_at hl 1 rfl) ?_
                  refine lv_dup hx hb dX6_add_133 rfl ?_
                  refine fgX6_44 hx hb hts hown hK hH 0 (by decide) dX6_add_134 ?_
                  rw [show gI (sI (sI σ 14 0 (2 * (lN0 σ)) x) 14 0 ((2 * (lN0 σ)) + 1) y) 13 0 1 = nI (lN0 σ) from hL.1]
                  refine lv_iconst (v := 1) hx hb dX6_add_137 (by decide) ?_
                  refine lv_iadd hx hb dX6_add_138 ?_
                  refine fpX6_44 hx hb hts hown hK hH hS 0 (by decide) dX6_add_139 (fun H locs hH hS => ?_)
                  refine lv_aload_n hx hb dX6_add_142 rfl (lv_at hl 1 rfl) ?_
                  refine fgX6_44 hx hb hts hown hK hH 0 (by decide) dX6_add_143 ?_
                  refine lv_iconst (v := 1) hx hb dX6_add_146 (by decide) ?_
                  refine lv_isub hx hb dX6_add_147 ?_
                  exact e_iret hx hb hr hlk hK hH hS dX6_add_148 (by simp only [f_X6_add, if_neg c_7_1, if_neg c_14_2, if_pos c_19_21, if_neg c_50_23, if_pos c_56_24, if_neg c_72_25, if_neg c_78_26, if_neg c_100_27]) (congrArg (Ex cs b) (by simp only [f_X6_add, if_neg c_7_1, if_neg c_14_2, if_pos c_19_21, if_neg c_50_23, if_pos c_56_24, if_neg c_72_25, if_neg c_78_26, if_neg c_100_27]))
                ·
                  refine lv_bipush (v := (-3)) hx hb dX6_add_103 (by decide) ?_
                  exact e_iret hx hb hr hlk hK hH hS dX6_add_105 (by simp only [f_X6_add, if_neg c_7_1, if_neg c_14_2, if_pos c_19_21, if_neg c_50_23, if_pos c_56_24, if_neg c_72_25, if_neg c_78_26, if_pos c_100_27]) (congrArg (Ex cs b) (by simp only [f_X6_add, if_neg c_7_1, if_neg c_14_2, if_pos c_19_21, if_neg c_50_23, if_pos c_56_24, if_neg c_72_25, if_neg c_78_26, if_pos c_100_27]))
              ·
                refine lv_iload_n hx hb dX6_add_81 rfl (lv_at hl 3 rfl) ?_
                refine lv_iconst (v := 0) hx hb dX6_add_82 (by decide) ?_
                refine lv_bipush (v := 79) hx hb dX6_add_83 (by decide) ?_
                refine e_ci (e_runS (As := [.int (y), .int (0), .int (79)]) (rest := []) ⟨hx, hb, hml, hown, hts⟩ (k_X6_within l D cs b σ y 0 79 ) ⟨callB_of 3 hts (gC wC_X6_within) rfl rfl rfl (hts _ wi_X6) (hts _ wM_X6_40) (by decide +kernel) (by decide), hts _ wT_X6_within⟩ hK hH rfl hl.1 rfl (Nat.le_of_ble_eq_true rfl) dX6_add_85 (by decide)) hS (fun H locs hH hS => ?_)
                refine lv_if_ne (tgt := 94) hx hb dX6_add_88 (by decide) (fun c_88_28 => ?_) (fun c_88_28 => ?_)
                ·
                  refine lv_aload_n hx hb dX6_add_94 rfl (lv_at hl 1 rfl) ?_
                  refine fgX6_44 hx hb hts hown hK hH 0 (by decide) dX6_add_95 ?_
                  rw [show gI σ 13 0 1 = nI (lN0 σ) from hL.1]
                  refine lv_bipush (v := 40) hx hb dX6_add_98 (by decide) ?_
                  refine lv_icmp_ne (tgt := 106) hx hb dX6_add_100 (by decide) (fun c_100_29 => ?_) (fun c_100_29 => ?_)
                  ·
                    have hl40 : lN0 σ < 40 := ne40 hL (by assumption)
                    refine lv_aload_n hx hb dX6_add_106 rfl (lv_at hl 1 rfl) ?_
                    refine fgX6_7 hx hb hts hown hK hH 0 (by decide) dX6_add_107 ?_
                    refine lv_iconst (v := 2) hx hb dX6_add_110 (by decide) ?_
                    refine lv_aload_n hx hb dX6_add_111 rfl (lv_at hl 1 rfl) ?_
                    refine fgX6_44 hx hb hts hown hK hH 0 (by decide) dX6_add_112 ?_
                    rw [show gI σ 13 0 1 = nI (lN0 σ) from hL.1]
                    refine lv_imul hx hb dX6_add_115 ?_
                    refine lv_iload_n hx hb dX6_add_116 rfl (lv_at hl 2 rfl) ?_
                    refine x_iast hx hb hK hH hS 14 0 80 (by decide) (fun _ _ => rfl) (2 * (lN0 σ)) ((tagM ((rfl : (2 : Int32) = nI 2)) rfl)) (by omega) (by decide) dX6_add_117 (fun H locs hH hS => ?_)
                    refine lv_aload_n hx hb dX6_add_118 rfl (lv_at hl 1 rfl) ?_
                    refine fgX6_7 hx hb hts hown hK hH 0 (by decide) dX6_add_119 ?_
                    refine lv_iconst (v := 2) hx hb dX6_add_122 (by decide) ?_
                    refine lv_aload_n hx hb dX6_add_123 rfl (lv_at hl 1 rfl) ?_
                    refine fgX6_44 hx hb hts hown hK hH 0 (by decide) dX6_add_124 ?_
                    rw [show gI (sI σ 14 0 (2 * (lN0 σ)) x) 13 0 1 = nI (lN0 σ) from hL.1]
                    refine lv_imul hx hb dX6_add_127 ?_
                    refine lv_iconst (v := 1) hx hb dX6_add_128 (by decide) ?_
                    refine lv_iadd hx hb dX6_add_129 ?_
                    refine lv_iload_n hx hb dX6_add_130 rfl (lv_at hl 3 rfl) ?_
                    refine x_iast hx hb hK hH hS 14 0 80 (by decide) (fun _ _ => rfl) ((2 * (lN0 σ)) + 1) ((tagA ((tagM ((rfl : (2 : Int32) = nI 2)) rfl)) ((rfl : (1 : Int32) = nI 1)))) (by omega) (by decide) dX6_add_131 (fun H locs hH hS => ?_)
                    refine lv_aload_n hx hb dX6_add_132 rfl (lv_at hl 1 rfl) ?_
                    refine lv_dup hx hb dX6_add_133 rfl ?_
                    refine fgX6_44 hx hb hts hown hK hH 0 (by decide) dX6_add_134 ?_
                    rw [show gI (sI (sI σ 14 0 (2 * (lN0 σ)) x) 14 0 ((2 * (lN0 σ)) + 1) y) 13 0 1 = nI (lN0 σ) from hL.1]
                    refine lv_iconst (v := 1) hx hb dX6_add_137 (by decide) ?_
                    refine lv_iadd hx hb dX6_add_138 ?_
                    refine fpX6_44 hx hb hts hown hK hH hS 0 (by decide) dX6_add_139 (fun H locs hH hS => ?_)
                    refine lv_aload_n hx hb dX6_add_142 rfl (lv_at hl 1 rfl) ?_
                    refine fgX6_44 hx hb hts hown hK hH 0 (by decide) dX6_add_143 ?_
                    refine lv_iconst (v := 1) hx hb dX6_add_146 (by decide) ?_
                    refine lv_isub hx hb dX6_add_147 ?_
                    exact e_iret hx hb hr hlk hK hH hS dX6_add_148 (by simp only [f_X6_add, if_neg c_7_1, if_neg c_14_2, if_pos c_19_21, if_neg c_50_23, if_pos c_56_24, if_neg c_72_25, if_pos c_78_26, if_neg c_88_28, if_neg c_100_29]) (congrArg (Ex cs b) (by simp only [f_X6_add, if_neg c_7_1, if_neg c_14_2, if_pos c_19_21, if_neg c_50_23, if_pos c_56_24, if_neg c_72_25, if_pos c_78_26, if_neg c_88_28, if_neg c_100_29]))
                  ·
                    refine lv_bipush (v := (-3)) hx hb dX6_add_103 (by decide) ?_
                    exact e_iret hx hb hr hlk hK hH hS dX6_add_105 (by simp only [f_X6_add, if_neg c_7_1, if_neg c_14_2, if_pos c_19_21, if_neg c_50_23, if_pos c_56_24, if_neg c_72_25, if_pos c_78_26, if_neg c_88_28, if_pos c_100_29]) (congrArg (Ex cs b) (by simp only [f_X6_add, if_neg c_7_1, if_neg c_14_2, if_pos c_19_21, if_neg c_50_23, if_pos c_56_24, if_neg c_72_25, if_pos c_78_26, if_neg c_88_28, if_pos c_100_29]))
                ·
                  refine lv_bipush (v := (-2)) hx hb dX6_add_91 (by decide) ?_
                  exact e_iret hx hb hr hlk hK hH hS dX6_add_93 (by simp only [f_X6_add, if_neg c_7_1, if_neg c_14_2, if_pos c_19_21, if_neg c_50_23, if_pos c_56_24, if_neg c_72_25, if_pos c_78_26, if_pos c_88_28]) (congrArg (Ex cs b) (by simp only [f_X6_add, if_neg c_7_1, if_neg c_14_2, if_pos c_19_21, if_neg c_50_23, if_pos c_56_24, if_neg c_72_25, if_pos c_78_26, if_pos c_88_28]))
          ·
            refine lv_iload_n hx hb dX6_add_59 rfl (lv_at hl 2 rfl) ?_
            refine lv_bipush (v := 9) hx hb dX6_add_60 (by decide) ?_
            refine lv_icmp_ne (tgt := 75) hx hb dX6_add_62 (by decide) (fun c_62_30 => ?_) (fun c_62_30 => ?_)
            ·
              refine lv_iload_n hx hb dX6_add_75 rfl (lv_at hl 2 rfl) ?_
              refine lv_bipush (v := 14) hx hb dX6_add_76 (by decide) ?_
              refine lv_icmp_ne (tgt := 94) hx hb dX6_add_78 (by decide) (fun c_78_31 => ?_) (fun c_78_31 => ?_)
              ·
                refine lv_aload_n hx hb dX6_add_94 rfl (lv_at hl 1 rfl) ?_
                refine fgX6_44 hx hb hts hown hK hH 0 (by decide) dX6_add_95 ?_
                rw [show gI σ 13 0 1 = nI (lN0 σ) from hL.1]
                refine lv_bipush (v := 40) hx hb dX6_add_98 (by decide) ?_
                refine lv_icmp_ne (tgt := 106) hx hb dX6_add_100 (by decide) (fun c_100_32 => ?_) (fun c_100_32 => ?_)
                ·
                  have hl40 : lN0 σ < 40 := ne40 hL (by assumption)
                  refine lv_aload_n hx hb dX6_add_106 rfl (lv_at hl 1 rfl) ?_
                  refine fgX6_7 hx hb hts hown hK hH 0 (by decide) dX6_add_107 ?_
                  refine lv_iconst (v := 2) hx hb dX6_add_110 (by decide) ?_
                  refine lv_aload_n hx hb dX6_add_111 rfl (lv_at hl 1 rfl) ?_
                  refine fgX6_44 hx hb hts hown hK hH 0 (by decide) dX6_add_112 ?_
                  rw [show gI σ 13 0 1 = nI (lN0 σ) from hL.1]
                  refine lv_imul hx hb dX6_add_115 ?_
                  refine lv_iload_n hx hb dX6_add_116 rfl (lv_at hl 2 rfl) ?_
                  refine x_iast hx hb hK hH hS 14 0 80 (by decide) (fun _ _ => rfl) (2 * (lN0 σ)) ((tagM ((rfl : (2 : Int32) = nI 2)) rfl)) (by omega) (by decide) dX6_add_117 (fun H locs hH hS => ?_)
                  refine lv_aload_n hx hb dX6_add_118 rfl (lv_at hl 1 rfl) ?_
                  refine fgX6_7 hx hb hts hown hK hH 0 (by decide) dX6_add_119 ?_
                  refine lv_iconst (v := 2) hx hb dX6_add_122 (by decide) ?_
                  refine lv_aload_n hx hb dX6_add_123 rfl (lv_at hl 1 rfl) ?_
                  refine fgX6_44 hx hb hts hown hK hH 0 (by decide) dX6_add_124 ?_
                  rw [show gI (sI σ 14 0 (2 * (lN0 σ)) x) 13 0 1 = nI (lN0 σ) from hL.1]
                  refine lv_imul hx hb dX6_add_127 ?_
                  refine lv_iconst (v := 1) hx hb dX6_add_128 (by decide) ?_
                  refine lv_iadd hx hb dX6_add_129 ?_
                  refine lv_iload_n hx hb dX6_add_130 rfl (lv_at hl 3 rfl) ?_
                  refine x_iast hx hb hK hH hS 14 0 80 (by decide) (fun _ _ => rfl) ((2 * (lN0 σ)) + 1) ((tagA ((tagM ((rfl : (2 : Int32) = nI 2)) rfl)) ((rfl : (1 : Int32) = nI 1)))) (by omega) (by decide) dX6_add_131 (fun H locs hH hS => ?_)
                  refine lv_aload_n hx hb dX6_add_132 rfl (lv_at hl 1 rfl) ?_
                  refine lv_dup hx hb dX6_add_133 rfl ?_
                  refine fgX6_44 hx hb hts hown hK hH 0 (by decide) dX6_add_134 ?_
                  rw [show gI (sI (sI σ 14 0 (2 * (lN0 σ)) x) 14 0 ((2 * (lN0 σ)) + 1) y) 13 0 1 = nI (lN0 σ) from hL.1]
                  refine lv_iconst (v := 1) hx hb dX6_add_137 (by decide) ?_
                  refine lv_iadd hx hb dX6_add_138 ?_
                  refine fpX6_44 hx hb hts hown hK hH hS 0 (by decide) dX6_add_139 (fun H locs hH hS => ?_)
                  refine lv_aload_n hx hb dX6_add_142 rfl (lv_at hl 1 rfl) ?_
                  refine fgX6_44 hx hb hts hown hK hH 0 (by decide) dX6_add_143 ?_
                  refine lv_iconst (v := 1) hx hb dX6_add_146 (by decide) ?_
                  refine lv_isub hx hb dX6_add_147 ?_
                  exact e_iret hx hb hr hlk hK hH hS dX6_add_148 (by simp only [f_X6_add, if_neg c_7_1, if_neg c_14_2, if_pos c_19_21, if_neg c_50_23, if_neg c_56_24, if_neg c_62_30, if_neg c_78_31, if_neg c_100_32]) (congrArg (Ex cs b) (by simp only [f_X6_add, if_neg c_7_1, if_neg c_14_2, if_pos c_19_21, if_neg c_50_23, if_neg c_56_24, if_neg c_62_30, if_neg c_78_31, if_neg c_100_32]))
                ·
                  refine lv_bipush (v := (-3)) hx hb dX6_add_103 (by decide) ?_
                  exact e_iret hx hb hr hlk hK hH hS dX6_add_105 (by simp only [f_X6_add, if_neg c_7_1, if_neg c_14_2, if_pos c_19_21, if_neg c_50_23, if_neg c_56_24, if_neg c_62_30, if_neg c_78_31, if_pos c_100_32]) (congrArg (Ex cs b) (by simp only [f_X6_add, if_neg c_7_1, if_neg c_14_2, if_pos c_19_21, if_neg c_50_23, if_neg c_56_24, if_neg c_62_30, if_neg c_78_31, if_pos c_100_32]))
              ·
                refine lv_iload_n hx hb dX6_add_81 rfl (lv_at hl 3 rfl) ?_
                refine lv_iconst (v := 0) hx hb dX6_add_82 (by decide) ?_
                refine lv_bipush (v := 79) hx hb dX6_add_83 (by decide) ?_
                refine e_ci (e_runS (As := [.int (y), .int (0), .int (79)]) (rest := []) ⟨hx, hb, hml, hown, hts⟩ (k_X6_within l D cs b σ y 0 79 ) ⟨callB_of 3 hts (gC wC_X6_within) rfl rfl rfl (hts _ wi_X6) (hts _ wM_X6_40) (by decide +kernel) (by decide), hts _ wT_X6_within⟩ hK hH rfl hl.1 rfl (Nat.le_of_ble_eq_true rfl) dX6_add_85 (by decide)) hS (fun H locs hH hS => ?_)
                refine lv_if_ne (tgt := 94) hx hb dX6_add_88 (by decide) (fun c_88_33 => ?_) (fun c_88_33 => ?_)
                ·
                  refine lv_aload_n hx hb dX6_add_94 rfl (lv_at hl 1 rfl) ?_
                  refine fgX6_44 hx hb hts hown hK hH 0 (by decide) dX6_add_95 ?_
                  rw [show gI σ 13 0 1 = nI (lN0 σ) from hL.1]
                  refine lv_bipush (v := 40) hx hb dX6_add_98 (by decide) ?_
                  refine lv_icmp_ne (tgt := 106) hx hb dX6_add_100 (by decide) (fun c_100_34 => ?_) (fun c_100_34 => ?_)
                  ·
                    have hl40 : lN0 σ < 40 := ne40 hL (by assumption)
                    refine lv_aload_n hx hb dX6_add_106 rfl (lv_at hl 1 rfl) ?_
                    refine fgX6_7 hx hb hts hown hK hH 0 (by decide) dX6_add_107 ?_
                    refine lv_iconst (v := 2) hx hb dX6_add_110 (by decide) ?_
                    refine lv_aload_n hx hb dX6_add_111 rfl (lv_at hl 1 rfl) ?_
                    refine fgX6_44 hx hb hts hown hK hH 0 (by decide) dX6_add_112 ?_
                    rw [show gI σ 13 0 1 = nI (lN0 σ) from hL.1]
                    refine lv_imul hx hb dX6_add_115 ?_
                    refine lv_iload_n hx hb dX6_add_116 rfl (lv_at hl 2 rfl) ?_
                    refine x_iast hx hb hK hH hS 14 0 80 (by decide) (fun _ _ => rfl) (2 * (lN0 σ)) ((tagM ((rfl : (2 : Int32) = nI 2)) rfl)) (by omega) (by decide) dX6_add_117 (fun H locs hH hS => ?_)
                    refine lv_aload_n hx hb dX6_add_118 rfl (lv_at hl 1 rfl) ?_
                    refine fgX6_7 hx hb hts hown hK hH 0 (by decide) dX6_add_119 ?_
                    refine lv_iconst (v := 2) hx hb dX6_add_122 (by decide) ?_
                    refine lv_aload_n hx hb dX6_add_123 rfl (lv_at hl 1 rfl) ?_
                    refine fgX6_44 hx hb hts hown hK hH 0 (by decide) dX6_add_124 ?_
                    rw [show gI (sI σ 14 0 (2 * (lN0 σ)) x) 13 0 1 = nI (lN0 σ) from hL.1]
                    refine lv_imul hx hb dX6_add_127 ?_
                    refine lv_iconst (v := 1) hx hb dX6_add_128 (by decide) ?_
                    refine lv_iadd hx hb dX6_add_129 ?_
                    refine lv_iload_n hx hb dX6_add_130 rfl (lv_at hl 3 rfl) ?_
                    refine x_iast hx hb hK hH hS 14 0 80 (by decide) (fun _ _ => rfl) ((2 * (lN0 σ)) + 1) ((tagA ((tagM ((rfl : (2 : Int32) = nI 2)) rfl)) ((rfl : (1 : Int32) = nI 1)))) (by omega) (by decide) dX6_add_131 (fun H locs hH hS => ?_)
                    refine lv_aload_n hx hb dX6_add_132 rfl (lv_at hl 1 rfl) ?_
                    refine lv_dup hx hb dX6_add_133 rfl ?_
                    refine fgX6_44 hx hb hts hown hK hH 0 (by decide) dX6_add_134 ?_
                    rw [show gI (sI (sI σ 14 0 (2 * (lN0 σ)) x) 14 0 ((2 * (lN0 σ)) + 1) y) 13 0 1 = nI (lN0 σ) from hL.1]
                    refine lv_iconst (v := 1) hx hb dX6_add_137 (by decide) ?_
                    refine lv_iadd hx hb dX6_add_138 ?_
                    refine fpX6_44 hx hb hts hown hK hH hS 0 (by decide) dX6_add_139 (fun H locs hH hS => ?_)
                    refine lv_aload_n hx hb dX6_add_142 rfl (lv_at hl 1 rfl) ?_
                    refine fgX6_44 hx hb hts hown hK hH 0 (by decide) dX6_add_143 ?_
                    refine lv_iconst (v := 1) hx hb dX6_add_146 (by decide) ?_
                    refine lv_isub hx hb dX6_add_147 ?_
                    exact e_iret hx hb hr hlk hK hH hS dX6_add_148 (by simp only [f_X6_add, if_neg c_7_1, if_neg c_14_2, if_pos c_19_21, if_neg c_50_23, if_neg c_56_24, if_neg c_62_30, if_pos c_78_31, if_neg c_88_33, if_neg c_100_34]) (congrArg (Ex cs b) (by simp only [f_X6_add, if_neg c_7_1, if_neg c_14_2, if_pos c_19_21, if_neg c_50_23, if_neg c_56_24, if_neg c_62_30, if_pos c_78_31, if_neg c_88_33, if_neg c_100_34]))
                  ·
                    refine lv_bipush (v := (-3)) hx hb dX6_add_103 (by decide) ?_
                    exact e_iret hx hb hr hlk hK hH hS dX6_add_105 (by simp only [f_X6_add, if_neg c_7_1, if_neg c_14_2, if_pos c_19_21, if_neg c_50_23, if_neg c_56_24, if_neg c_62_30, if_pos c_78_31, if_neg c_88_33, if_pos c_100_34]) (congrArg (Ex cs b) (by simp only [f_X6_add, if_neg c_7_1, if_neg c_14_2, if_pos c_19_21, if_neg c_50_23, if_neg c_56_24, if_neg c_62_30, if_pos c_78_31, if_neg c_88_33, if_pos c_100_34]))
                ·
                  refine lv_bipush (v := (-2)) hx hb dX6_add_91 (by decide) ?_
                  exact e_iret hx hb hr hlk hK hH hS dX6_add_93 (by simp only [f_X6_add, if_neg c_7_1, if_neg c_14_2, if_pos c_19_21, if_neg c_50_23, if_neg c_56_24, if_neg c_62_30, if_pos c_78_31, if_pos c_88_33]) (congrArg (Ex cs b) (by simp only [f_X6_add, if_neg c_7_1, if_neg c_14_2, if_pos c_19_21, if_neg c_50_23, if_neg c_56_24, if_neg c_62_30, if_pos c_78_31, if_pos c_88_33]))
            ·
              refine lv_iload_n hx hb dX6_add_65 rfl (lv_at hl 3 rfl) ?_
              refine lv_iconst (v := 0) hx hb dX6_add_66 (by decide) ?_
              refine lv_bipush (v := 39) hx hb dX6_add_67 (by decide) ?_
              refine e_ci (e_runS (As := [.int (y), .int (0), .int (39)]) (rest := []) ⟨hx, hb, hml, hown, hts⟩ (k_X6_within l D cs b σ y 0 39 ) ⟨callB_of 3 hts (gC wC_X6_within) rfl rfl rfl (hts _ wi_X6) (hts _ wM_X6_40) (by decide +kernel) (by decide), hts _ wT_X6_within⟩ hK hH rfl hl.1 rfl (Nat.le_of_ble_eq_true rfl) dX6_add_69 (by decide)) hS (fun H locs hH hS => ?_)
              refine lv_if_eq (tgt := 91) hx hb dX6_add_72 (by decide) (fun c_72_35 => ?_) (fun c_72_35 => ?_)
              ·
                refine lv_bipush (v := (-2)) hx hb dX6_add_91 (by decide) ?_
                exact e_iret hx hb hr hlk hK hH hS dX6_add_93 (by simp only [f_X6_add, if_neg c_7_1, if_neg c_14_2, if_pos c_19_21, if_neg c_50_23, if_neg c_56_24, if_pos c_62_30, if_pos c_72_35]) (congrArg (Ex cs b) (by simp only [f_X6_add, if_neg c_7_1, if_neg c_14_2, if_pos c_19_21, if_neg c_50_23, if_neg c_56_24, if_pos c_62_30, if_pos c_72_35]))
              ·
                refine lv_iload_n hx hb dX6_add_75 rfl (lv_at hl 2 rfl) ?_
                refine lv_bipush (v := 14) hx hb dX6_add_76 (by decide) ?_
                refine lv_icmp_ne (tgt := 94) hx hb dX6_add_78 (by decide) (fun c_78_36 => ?_) (fun c_78_36 => ?_)
                ·
                  refine lv_aload_n hx hb dX6_add_94 rfl (lv_at hl 1 rfl) ?_
                  refine fgX6_44 hx hb hts hown hK hH 0 (by decide) dX6_add_95 ?_
                  rw [show gI σ 13 0 1 = nI (lN0 σ) from hL.1]
                  refine lv_bipush (v := 40) hx hb dX6_add_98 (by decide) ?_
                  refine lv_icmp_ne (tgt := 106) hx hb dX6_add_100 (by decide) (fun c_100_37 => ?_) (fun c_100_37 => ?_)
                  ·
                    have hl40 : lN0 σ < 40 := ne40 hL (by assumption)
                    refine lv_aload_n hx hb dX6_add_106 rfl (lv_at hl 1 rfl) ?_
                    refine fgX6_7 hx hb hts hown hK hH 0 (by decide) dX6_add_107 ?_
                    refine lv_iconst (v := 2) hx hb dX6_add_110 (by decide) ?_
                    refine lv_aload_n hx hb dX6_add_111 rfl (lv_at hl 1 rfl) ?_
                    refine fgX6_44 hx hb hts hown hK hH 0 (by decide) dX6_add_112 ?_
                    rw [show gI σ 13 0 1 = nI (lN0 σ) from hL.1]
                    refine lv_imul hx hb dX6_add_115 ?_
                    refine lv_iload_n hx hb dX6_add_116 rfl (lv_at hl 2 rfl) ?_
                    refine x_iast hx hb hK hH hS 14 0 80 (by decide) (fun _ _ => rfl) (2 * (lN0 σ)) ((tagM ((rfl : (2 : Int32) = nI 2)) rfl)) (by omega) (by decide) dX6_add_117 (fun H locs hH hS => ?_)
                    refine lv_aload_n hx hb dX6_add_118 rfl (lv_at hl 1 rfl) ?_
                    refine fgX6_7 hx hb hts hown hK hH 0 (by decide) dX6_add_119 ?_
                    refine lv_iconst (v := 2) hx hb dX6_add_122 (by decide) ?_
                    refine lv_aload_n hx hb dX6_add_123 rfl (lv_at hl 1 rfl) ?_
                    refine fgX6_44 hx hb hts hown hK hH 0 (by decide) dX6_add_124 ?_
                    rw [show gI (sI σ 14 0 (2 * (lN0 σ)) x) 13 0 1 = nI (lN0 σ) from hL.1]
                    refine lv_imul hx hb dX6_add_127 ?_
                    refine lv_iconst (v := 1) hx hb dX6_add_128 (by decide) ?_
                    refine lv_iadd hx hb dX6_add_129 ?_
                    refine lv_iload_n hx hb dX6_add_130 rfl (lv_at hl 3 rfl) ?_
                    refine x_iast hx hb hK hH hS 14 0 80 (by decide) (fun _ _ => rfl) ((2 * (lN0 σ)) + 1) ((tagA ((tagM ((rfl : (2 : Int32) = nI 2)) rfl)) ((rfl : (1 : Int32) = nI 1)))) (by omega) (by decide) dX6_add_131 (fun H locs hH hS => ?_)
                    refine lv_aload_n hx hb dX6_add_132 rfl (lv_at hl 1 rfl) ?_
                    refine lv_dup hx hb dX6_add_133 rfl ?_
                    refine fgX6_44 hx hb hts hown hK hH 0 (by decide) dX6_add_134 ?_
                    rw [show gI (sI (sI σ 14 0 (2 * (lN0 σ)) x) 14 0 ((2 * (lN0 σ)) + 1) y) 13 0 1 = nI (lN0 σ) from hL.1]
                    refine lv_iconst (v := 1) hx hb dX6_add_137 (by decide) ?_
                    refine lv_iadd hx hb dX6_add_138 ?_
                    refine fpX6_44 hx hb hts hown hK hH hS 0 (by decide) dX6_add_139 (fun H locs hH hS => ?_)
                    refine lv_aload_n hx hb dX6_add_142 rfl (lv_at hl 1 rfl) ?_
                    refine fgX6_44 hx hb hts hown hK hH 0 (by decide) dX6_add_143 ?_
                    refine lv_iconst (v := 1) hx hb dX6_add_146 (by decide) ?_
                    refine lv_isub hx hb dX6_add_147 ?_
                    exact e_iret hx hb hr hlk hK hH hS dX6_add_148 (by simp only [f_X6_add, if_neg c_7_1, if_neg c_14_2, if_pos c_19_21, if_neg c_50_23, if_neg c_56_24, if_pos c_62_30, if_neg c_72_35, if_neg c_78_36, if_neg c_100_37]) (congrArg (Ex cs b) (by simp only [f_X6_add, if_neg c_7_1, if_neg c_14_2, if_pos c_19_21, if_neg c_50_23, if_neg c_56_24, if_pos c_62_30, if_neg c_72_35, if_neg c_78_36, if_neg c_100_37]))
                  ·
                    refine lv_bipush (v := (-3)) hx hb dX6_add_103 (by decide) ?_
                    exact e_iret hx hb hr hlk hK hH hS dX6_add_105 (by simp only [f_X6_add, if_neg c_7_1, if_neg c_14_2, if_pos c_19_21, if_neg c_50_23, if_neg c_56_24, if_pos c_62_30, if_neg c_72_35, if_neg c_78_36, if_pos c_100_37]) (congrArg (Ex cs b) (by simp only [f_X6_add, if_neg c_7_1, if_neg c_14_2, if_pos c_19_21, if_neg c_50_23, if_neg c_56_24, if_pos c_62_30, if_neg c_72_35, if_neg c_78_36, if_pos c_100_37]))
                ·
                  refine lv_iload_n hx hb dX6_add_81 rfl (lv_at hl 3 rfl) ?_
                  refine lv_iconst (v := 0) hx hb dX6_add_82 (by decide) ?_
                  refine lv_bipush (v := 79) hx hb dX6_add_83 (by decide) ?_
                  refine e_ci (e_runS (As := [.int (y), .int (0), .int (79)]) (rest := []) ⟨hx, hb, hml, hown, hts⟩ (k_X6_within l D cs b σ y 0 79 ) ⟨callB_of 3 hts (gC wC_X6_within) rfl rfl rfl (hts _ wi_X6) (hts _ wM_X6_40) (by decide +kernel) (by decide), hts _ wT_X6_within⟩ hK hH rfl hl.1 rfl (Nat.le_of_ble_eq_true rfl) dX6_add_85 (by decide)) hS (fun H locs hH hS => ?_)
                  refine lv_if_ne (tgt := 94) hx hb dX6_add_88 (by decide) (fun c_88_38 => ?_) (fun c_88_38 => ?_)
                  ·
                    refine lv_aload_n hx hb dX6_add_94 rfl (lv_at hl 1 rfl) ?_
                    refine fgX6_44 hx hb hts hown hK hH 0 (by decide) dX6_add_95 ?_
                    rw [show gI σ 13 0 1 = nI (lN0 σ) from hL.1]
                    refine lv_bipush (v := 40) hx hb dX6_add_98 (by decide) ?_
                    refine lv_icmp_ne (tgt := 106) hx hb dX6_add_100 (by decide) (fun c_100_39 => ?_) (fun c_100_39 => ?_)
                    ·
                      have hl40 : lN0 σ < 40 := ne40 hL (by assumption)
                      refine lv_aload_n hx hb dX6_add_106 rfl (lv_at hl 1 rfl) ?_
                      refine fgX6_7 hx hb hts hown hK hH 0 (by decide) dX6_add_107 ?_
                      refine lv_iconst (v := 2) hx hb dX6_add_110 (by decide) ?_
                      refine lv_aload_n hx hb dX6_add_111 rfl (lv_at hl 1 rfl) ?_
                      refine fgX6_44 hx hb hts hown hK hH 0 (by decide) dX6_add_112 ?_
                      rw [show gI σ 13 0 1 = nI (lN0 σ) from hL.1]
                      refine lv_imul hx hb dX6_add_115 ?_
                      refine lv_iload_n hx hb dX6_add_116 rfl (lv_at hl 2 rfl) ?_
                      refine x_iast hx hb hK hH hS 14 0 80 (by decide) (fun _ _ => rfl) (2 * (lN0 σ)) ((tagM ((rfl : (2 : Int32) = nI 2)) rfl)) (by omega) (by decide) dX6_add_117 (fun H locs hH hS => ?_)
                      refine lv_aload_n hx hb dX6_add_118 rfl (lv_at hl 1 rfl) ?_
                      refine fgX6_7 hx hb hts hown hK hH 0 (by decide) dX6_add_119 ?_
                      refine lv_iconst (v := 2) hx hb dX6_add_122 (by decide) ?_
                      refine lv_aload_n hx hb dX6_add_123 rfl (lv_at hl 1 rfl) ?_
                      refine fgX6_44 hx hb hts hown hK hH 0 (by decide) dX6_add_124 ?_
                      rw [show gI (sI σ 14 0 (2 * (lN0 σ)) x) 13 0 1 = nI (lN0 σ) from hL.1]
                      refine lv_imul hx hb dX6_add_127 ?_
                      refine lv_iconst (v := 1) hx hb dX6_add_128 (by decide) ?_
                      refine lv_iadd hx hb dX6_add_129 ?_
                      refine lv_iload_n hx hb dX6_add_130 rfl (lv_at hl 3 rfl) ?_
                      refine x_iast hx hb hK hH hS 14 0 80 (by decide) (fun _ _ => rfl) ((2 * (lN0 σ)) + 1) ((tagA ((tagM ((rfl : (2 : Int32) = nI 2)) rfl)) ((rfl : (1 : Int32) = nI 1)))) (by omega) (by decide) dX6_add_131 (fun H locs hH hS => ?_)
                      refine lv_aload_n hx hb dX6_add_132 rfl (lv_at hl 1 rfl) ?_
                      refine lv_dup hx hb dX6_add_133 rfl ?_
                      refine fgX6_44 hx hb hts hown hK hH 0 (by decide) dX6_add_134 ?_
                      rw [show gI (sI (sI σ 14 0 (2 * (lN0 σ)) x) 14 0 ((2 * (lN0 σ)) + 1) y) 13 0 1 = nI (lN0 σ) from hL.1]
                      refine lv_iconst (v := 1) hx hb dX6_add_137 (by decide) ?_
                      refine lv_iadd hx hb dX6_add_138 ?_
                      refine fpX6_44 hx hb hts hown hK hH hS 0 (by decide) dX6_add_139 (fun H locs hH hS => ?_)
                      refine lv_aload_n hx hb dX6_add_142 rfl (lv_at hl 1 rfl) ?_
                      refine fgX6_44 hx hb hts hown hK hH 0 (by decide) dX6_add_143 ?_
                      refine lv_iconst (v := 1) hx hb dX6_add_146 (by decide) ?_
                      refine lv_isub hx hb dX6_add_147 ?_
                      exact e_iret hx hb hr hlk hK hH hS dX6_add_148 (by simp only [f_X6_add, if_neg c_7_1, if_neg c_14_2, if_pos c_19_21, if_neg c_50_23, if_neg c_56_24, if_pos c_62_30, if_neg c_72_35, if_pos c_78_36, if_neg c_88_38, if_neg c_100_39]) (congrArg (Ex cs b) (by simp only [f_X6_add, if_neg c_7_1, if_neg c_14_2, if_pos c_19_21, if_neg c_50_23, if_neg c_56_24, if_pos c_62_30, if_neg c_72_35, if_pos c_78_36, if_neg c_88_38, if_neg c_100_39]))
                    ·
                      refine lv_bipush (v := (-3)) hx hb dX6_add_103 (by decide) ?_
                      exact e_iret hx hb hr hlk hK hH hS dX6_add_105 (by simp only [f_X6_add, if_neg c_7_1, if_neg c_14_2, if_pos c_19_21, if_neg c_50_23, if_neg c_56_24, if_pos c_62_30, if_neg c_72_35, if_pos c_78_36, if_neg c_88_38, if_pos c_100_39]) (congrArg (Ex cs b) (by simp only [f_X6_add, if_neg c_7_1, if_neg c_14_2, if_pos c_19_21, if_neg c_50_23, if_neg c_56_24, if_pos c_62_30, if_neg c_72_35, if_pos c_78_36, if_neg c_88_38, if_pos c_100_39]))
                  ·
                    refine lv_bipush (v := (-2)) hx hb dX6_add_91 (by decide) ?_
                    exact e_iret hx hb hr hlk hK hH hS dX6_add_93 (by simp only [f_X6_add, if_neg c_7_1, if_neg c_14_2, if_pos c_19_21, if_neg c_50_23, if_neg c_56_24, if_pos c_62_30, if_neg c_72_35, if_pos c_78_36, if_pos c_88_38]) (congrArg (Ex cs b) (by simp only [f_X6_add, if_neg c_7_1, if_neg c_14_2, if_pos c_19_21, if_neg c_50_23, if_neg c_56_24, if_pos c_62_30, if_neg c_72_35, if_pos c_78_36, if_pos c_88_38]))
      ·
        refine lv_iload_n hx hb dX6_add_22 rfl (lv_at hl 1 rfl) ?_
        refine lv_bipush (v := 10) hx hb dX6_add_23 (by decide) ?_
        refine lv_icmp_eq (tgt := 34) hx hb dX6_add_25 (by decide) (fun c_25_40 => ?_) (fun c_25_40 => ?_)
        ·
          refine lv_iconst (v := 1) hx hb dX6_add_34 (by decide) ?_
          refine lv_goto (tgt := 39) hx hb dX6_add_35 (by decide) ?_
          refine lv_istore_n (lv' := [(3, .int (1)), (0, .ref (b + xo 13 0)), (1, .int (x)), (2, .int (y))]) hx hb dX6_add_39 rfl hl (by decide) rfl (fun ls hl => ?_)
          refine lv_iload_n hx hb dX6_add_40 rfl (lv_at hl 0 rfl) ?_
          refine lv_if_eq (tgt := 53) hx hb dX6_add_41 (by decide) (fun c_41_41 => ?_) (fun c_41_41 => ?_)
          ·
            exact absurd c_41_41 (by decide)
          refine lv_iload_n hx hb dX6_add_44 rfl (lv_at hl 3 rfl) ?_
          refine lv_iconst (v := 0) hx hb dX6_add_45 (by decide) ?_
          refine lv_iconst (v := 3) hx hb dX6_add_46 (by decide) ?_
          refine e_ci (e_runS (As := [.int (y), .int (0), .int (3)]) (rest := []) ⟨hx, hb, hml, hown, hts⟩ (k_X6_within l D cs b σ y 0 3 ) ⟨callB_of 3 hts (gC wC_X6_within) rfl rfl rfl (hts _ wi_X6) (hts _ wM_X6_40) (by decide +kernel) (by decide), hts _ wT_X6_within⟩ hK hH rfl hl.1 rfl (Nat.le_of_ble_eq_true rfl) dX6_add_47 (by decide)) hS (fun H locs hH hS => ?_)
          refine lv_if_eq (tgt := 91) hx hb dX6_add_50 (by decide) (fun c_50_42 => ?_) (fun c_50_42 => ?_)
          ·
            refine lv_bipush (v := (-2)) hx hb dX6_add_91 (by decide) ?_
            exact e_iret hx hb hr hlk hK hH hS dX6_add_93 (by simp only [f_X6_add, if_neg c_7_1, if_neg c_14_2, if_neg c_19_21, if_pos c_25_40, if_pos c_50_42]) (congrArg (Ex cs b) (by simp only [f_X6_add, if_neg c_7_1, if_neg c_14_2, if_neg c_19_21, if_pos c_25_40, if_pos c_50_42]))
          ·
            refine lv_iload_n hx hb dX6_add_53 rfl (lv_at hl 2 rfl) ?_
            refine lv_bipush (v := 8) hx hb dX6_add_54 (by decide) ?_
            refine lv_icmp_eq (tgt := 65) hx hb dX6_add_56 (by decide) (fun c_56_43 => ?_) (fun c_56_43 => ?_)
            ·
              refine lv_iload_n hx hb dX6_add_65 rfl (lv_at hl 3 rfl) ?_
              refine lv_iconst (v := 0) hx hb dX6_add_66 (by decide) ?_
              refine lv_bipush (v := 39) hx hb dX6_add_67 (by decide) ?_
              refine e_ci (e_runS (As := [.int (y), .int (0), .int (39)]) (rest := []) ⟨hx, hb, hml, hown, hts⟩ (k_X6_within l D cs b σ y 0 39 ) ⟨callB_of 3 hts (gC wC_X6_within) rfl rfl rfl (hts _ wi_X6) (hts _ wM_X6_40) (by decide +kernel) (by decide), hts _ wT_X6_within⟩ hK hH rfl hl.1 rfl (Nat.le_of_ble_eq_true rfl) dX6_add_69 (by decide)) hS (fun H locs hH hS => ?_)
              refine lv_if_eq (tgt := 91) hx hb dX6_add_72 (by decide) (fun c_72_44 => ?_) (fun c_72_44 => ?_)
              ·
                refine lv_bipush (v := (-2)) hx hb dX6_add_91 (by decide) ?_
                exact e_iret hx hb hr hlk hK hH hS dX6_add_93 (by simp only [f_X6_add, if_neg c_7_1, if_neg c_14_2, if_neg c_19_21, if_pos c_25_40, if_neg c_50_42, if_pos c_56_43, if_pos c_72_44]) (congrArg (Ex cs b) (by simp only [f_X6_add, if_neg c_7_1, if_neg c_14_2, if_neg c_19_21, if_pos c_25_40, if_neg c_50_42, if_pos c_56_43, if_pos c_72_44]))
              ·
                refine lv_iload_n hx hb dX6_add_75 rfl (lv_at hl 2 rfl) ?_
                refine lv_bipush (v := 14) hx hb dX6_add_76 (by decide) ?_
                refine lv_icmp_ne (tgt := 94) hx hb dX6_add_78 (by decide) (fun c_78_45 => ?_) (fun c_78_45 => ?_)
                ·
                  refine lv_aload_n hx hb dX6_add_94 rfl (lv_at hl 1 rfl) ?_
                  refine fgX6_44 hx hb hts hown hK hH 0 (by decide) dX6_add_95 ?_
                  rw [show gI σ 13 0 1 = nI (lN0 σ) from hL.1]
                  refine lv_bipush (v := 40) hx hb dX6_add_98 (by decide) ?_
                  refine lv_icmp_ne (tgt := 106) hx hb dX6_add_100 (by decide) (fun c_100_46 => ?_) (fun c_100_46 => ?_)
                  ·
                    have hl40 : lN0 σ < 40 := ne40 hL (by assumption)
                    refine lv_aload_n hx hb dX6_add_106 rfl (lv_at hl 1 rfl) ?_
                    refine fgX6_7 hx hb hts hown hK hH 0 (by decide) dX6_add_107 ?_
                    refine lv_iconst (v := 2) hx hb dX6_add_110 (by decide) ?_
                    refine lv_aload_n hx hb dX6_add_111 rfl (lv_at hl 1 rfl) ?_
                    refine fgX6_44 hx hb hts hown hK hH 0 (by decide) dX6_add_112 ?_
                    rw [show gI σ 13 0 1 = nI (lN0 σ) from hL.1]
                    refine lv_imul hx hb dX6_add_115 ?_
                    refine lv_iload_n hx hb dX6_add_116 rfl (lv_at hl 2 rfl) ?_
                    refine x_iast hx hb hK hH hS 14 0 80 (by decide) (fun _ _ => rfl) (2 * (lN0 σ)) ((tagM ((rfl : (2 : Int32) = nI 2)) rfl)) (by omega) (by decide) dX6_add_117 (fun H locs hH hS => ?_)
                    refine lv_aload_n hx hb dX6_add_118 rfl (lv_at hl 1 rfl) ?_
                    refine fgX6_7 hx hb hts hown hK hH 0 (by decide) dX6_add_119 ?_
                    refine lv_iconst (v := 2) hx hb dX6_add_122 (by decide) ?_
                    refine lv_aload_n hx hb dX6_add_123 rfl (lv_at hl 1 rfl) ?_
                    refine fgX6_44 hx hb hts hown hK hH 0 (by decide) dX6_add_124 ?_
                    rw [show gI (sI σ 14 0 (2 * (lN0 σ)) x) 13 0 1 = nI (lN0 σ) from hL.1]
                    refine lv_imul hx hb dX6_add_127 ?_
                    refine lv_iconst (v := 1) hx hb dX6_add_128 (by decide) ?_
                    refine lv_iadd hx hb dX6_add_129 ?_
                    refine lv_iload_n hx hb dX6_add_130 rfl (lv_at hl 3 rfl) ?_
                    refine x_iast hx hb hK hH hS 14 0 80 (by decide) (fun _ _ => rfl) ((2 * (lN0 σ)) + 1) ((tagA ((tagM ((rfl : (2 : Int32) = nI 2)) rfl)) ((rfl : (1 : Int32) = nI 1)))) (by omega) (by decide) dX6_add_131 (fun H locs hH hS => ?_)
                    refine lv_aload_n hx hb dX6_add_132 rfl (lv_at hl 1 rfl) ?_
                    refine lv_dup hx hb dX6_add_133 rfl ?_
                    refine fgX6_44 hx hb hts hown hK hH 0 (by decide) dX6_add_134 ?_
                    rw [show gI (sI (sI σ 14 0 (2 * (lN0 σ)) x) 14 0 ((2 * (lN0 σ)) + 1) y) 13 0 1 = nI (lN0 σ) from hL.1]
                    refine lv_iconst (v := 1) hx hb dX6_add_137 (by decide) ?_
                    refine lv_iadd hx hb dX6_add_138 ?_
                    refine fpX6_44 hx hb hts hown hK hH hS 0 (by decide) dX6_add_139 (fun H locs hH hS => ?_)
                    refine lv_aload_n hx hb dX6_add_142 rfl (lv_at hl 1 rfl) ?_
                    refine fgX6_44 hx hb hts hown hK hH 0 (by decide) dX6_add_143 ?_
                    refine lv_iconst (v := 1) hx hb dX6_add_146 (by decide) ?_
                    refine lv_isub hx hb dX6_add_147 ?_
                    exact e_iret hx hb hr hlk hK hH hS dX6_add_148 (by simp only [f_X6_add, if_neg c_7_1, if_neg c_14_2, if_neg c_19_21, if_pos c_25_40, if_neg c_50_42, if_pos c_56_43, if_neg c_72_44, if_neg c_78_45, if_neg c_100_46]) (congrArg (Ex cs b) (by simp only [f_X6_add, if_neg c_7_1, if_neg c_14_2, if_neg c_19_21, if_pos c_25_40, if_neg c_50_42, if_pos c_56_43, if_neg c_72_44, if_neg c_78_45, if_neg c_100_46]))
                  ·
                    refine lv_bipush (v := (-3)) hx hb dX6_add_103 (by decide) ?_
                    exact e_iret hx hb hr hlk hK hH hS dX6_add_105 (by simp only [f_X6_add, if_neg c_7_1, if_neg c_14_2, if_neg c_19_21, if_pos c_25_40, if_neg c_50_42, if_pos c_56_43, if_neg c_72_44, if_neg c_78_45, if_pos c_100_46]) (congrArg (Ex cs b) (by simp only [f_X6_add, if_neg c_7_1, if_neg c_14_2, if_neg c_19_21, if_pos c_25_40, if_neg c_50_42, if_pos c_56_43, if_neg c_72_44, if_neg c_78_45, if_pos c_100_46]))
                ·
                  refine lv_iload_n hx hb dX6_add_81 rfl (lv_at hl 3 rfl) ?_
                  refine lv_iconst (v := 0) hx hb dX6_add_82 (by decide) ?_
                  refine lv_bipush (v := 79) hx hb dX6_add_83 (by decide) ?_
                  refine e_ci (e_runS (As := [.int (y), .int (0), .int (79)]) (rest := []) ⟨hx, hb, hml, hown, hts⟩ (k_X6_within l D cs b σ y 0 79 ) ⟨callB_of 3 hts (gC wC_X6_within) rfl rfl rfl (hts _ wi_X6) (hts _ wM_X6_40) (by decide +kernel) (by decide), hts _ wT_X6_within⟩ hK hH rfl hl.1 rfl (Nat.le_of_ble_eq_true rfl) dX6_add_85 (by decide)) hS (fun H locs hH hS => ?_)
                  refine lv_if_ne (tgt := 94) hx hb dX6_add_88 (by decide) (fun c_88_47 => ?_) (fun c_88_47 => ?_)
                  ·
                    refine lv_aload_n hx hb dX6_add_94 rfl (lv_at hl 1 rfl) ?_
                    refine fgX6_44 hx hb hts hown hK hH 0 (by decide) dX6_add_95 ?_
                    rw [show gI σ 13 0 1 = nI (lN0 σ) from hL.1]
                    refine lv_bipush (v := 40) hx hb dX6_add_98 (by decide) ?_
                    refine lv_icmp_ne (tgt := 106) hx hb dX6_add_100 (by decide) (fun c_100_48 => ?_) (fun c_100_48 => ?_)
                    ·
                      have hl40 : lN0 σ < 40 := ne40 hL (by assumption)
                      refine lv_aload_n hx hb dX6_add_106 rfl (lv_at hl 1 rfl) ?_
                      refine fgX6_7 hx hb hts hown hK hH 0 (by decide) dX6_add_107 ?_
                      refine lv_iconst (v := 2) hx hb dX6_add_110 (by decide) ?_
                      refine lv_aload_n hx hb dX6_add_111 rfl (lv_at hl 1 rfl) ?_
                      refine fgX6_44 hx hb hts hown hK hH 0 (by decide) dX6_add_112 ?_
                      rw [show gI σ 13 0 1 = nI (lN0 σ) from hL.1]
                      refine lv_imul hx hb dX6_add_115 ?_
                      refine lv_iload_n hx hb dX6_add_116 rfl (lv_at hl 2 rfl) ?_
                      refine x_iast hx hb hK hH hS 14 0 80 (by decide) (fun _ _ => rfl) (2 * (lN0 σ)) ((tagM ((rfl : (2 : Int32) = nI 2)) rfl)) (by omega) (by decide) dX6_add_117 (fun H locs hH hS => ?_)
                      refine lv_aload_n hx hb dX6_add_118 rfl (lv_at hl 1 rfl) ?_
                      refine fgX6_7 hx hb hts hown hK hH 0 (by decide) dX6_add_119 ?_
                      refine lv_iconst (v := 2) hx hb dX6_add_122 (by decide) ?_
                      refine lv_aload_n hx hb dX6_add_123 rfl (lv_at hl 1 rfl) ?_
                      refine fgX6_44 hx hb hts hown hK hH 0 (by decide) dX6_add_124 ?_
                      rw [show gI (sI σ 14 0 (2 * (lN0 σ)) x) 13 0 1 = nI (lN0 σ) from hL.1]
                      refine lv_imul hx hb dX6_add_127 ?_
                      refine lv_iconst (v := 1) hx hb dX6_add_128 (by decide) ?_
                      refine lv_iadd hx hb dX6_add_129 ?_
                      refine lv_iload_n hx hb dX6_add_130 rfl (lv_at hl 3 rfl) ?_
                      refine x_iast hx hb hK hH hS 14 0 80 (by decide) (fun _ _ => rfl) ((2 * (lN0 σ)) + 1) ((tagA ((tagM ((rfl : (2 : Int32) = nI 2)) rfl)) ((rfl : (1 : Int32) = nI 1)))) (by omega) (by decide) dX6_add_131 (fun H locs hH hS => ?_)
                      refine lv_aload_n hx hb dX6_add_132 rfl (lv_at hl 1 rfl) ?_
                      refine lv_dup hx hb dX6_add_133 rfl ?_
                      refine fgX6_44 hx hb hts hown hK hH 0 (by decide) dX6_add_134 ?_
                      rw [show gI (sI (sI σ 14 0 (2 * (lN0 σ)) x) 14 0 ((2 * (lN0 σ)) + 1) y) 13 0 1 = nI (lN0 σ) from hL.1]
                      refine lv_iconst (v := 1) hx hb dX6_add_137 (by decide) ?_
                      refine lv_iadd hx hb dX6_add_138 ?_
                      refine fpX6_44 hx hb hts hown hK hH hS 0 (by decide) dX6_add_139 (fun H locs hH hS => ?_)
                      refine lv_aload_n hx hb dX6_add_142 rfl (lv_at hl 1 rfl) ?_
                      refine fgX6_44 hx hb hts hown hK hH 0 (by decide) dX6_add_143 ?_
                      refine lv_iconst (v := 1) hx hb dX6_add_146 (by decide) ?_
                      refine lv_isub hx hb dX6_add_147 ?_
                      exact e_iret hx hb hr hlk hK hH hS dX6_add_148 (by simp only [f_X6_add, if_neg c_7_1, if_neg c_14_2, if_neg c_19_21, if_pos c_25_40, if_neg c_50_42, if_pos c_56_43, if_neg c_72_44, if_pos c_78_45, if_neg c_88_47, if_neg c_100_48]) (congrArg (Ex cs b) (by simp only [f_X6_add, if_neg c_7_1, if_neg c_14_2, if_neg c_19_21, if_pos c_25_40, if_neg c_50_42, if_pos c_56_43, if_neg c_72_44, if_pos c_78_45, if_neg c_88_47, if_neg c_100_48]))
                    ·
                      refine lv_bipush (v := (-3)) hx hb dX6_add_103 (by decide) ?_
                      exact e_iret hx hb hr hlk hK hH hS dX6_add_105 (by simp only [f_X6_add, if_neg c_7_1, if_neg c_14_2, if_neg c_19_21, if_pos c_25_40, if_neg c_50_42, if_pos c_56_43, if_neg c_72_44, if_pos c_78_45, if_neg c_88_47, if_pos c_100_48]) (congrArg (Ex cs b) (by simp only [f_X6_add, if_neg c_7_1, if_neg c_14_2, if_neg c_19_21, if_pos c_25_40, if_neg c_50_42, if_pos c_56_43, if_neg c_72_44, if_pos c_78_45, if_neg c_88_47, if_pos c_100_48]))
                  ·
                    refine lv_bipush (v := (-2)) hx hb dX6_add_91 (by decide) ?_
                    exact e_iret hx hb hr hlk hK hH hS dX6_add_93 (by simp only [f_X6_add, if_neg c_7_1, if_neg c_14_2, if_neg c_19_21, if_pos c_25_40, if_neg c_50_42, if_pos c_56_43, if_neg c_72_44, if_pos c_78_45, if_pos c_88_47]) (congrArg (Ex cs b) (by simp only [f_X6_add, if_neg c_7_1, if_neg c_14_2, if_neg c_19_21, if_pos c_25_40, if_neg c_50_42, if_pos c_56_43, if_neg c_72_44, if_pos c_78_45, if_pos c_88_47]))
            ·
              refine lv_iload_n hx hb dX6_add_59 rfl (lv_at hl 2 rfl) ?_
              refine lv_bipush (v := 9) hx hb dX6_add_60 (by decide) ?_
              refine lv_icmp_ne (tgt := 75) hx hb dX6_add_62 (by decide) (fun c_62_49 => ?_) (fun c_62_49 => ?_)
              ·
                refine lv_iload_n hx hb dX6_add_75 rfl (lv_at hl 2 rfl) ?_
                refine lv_bipush (v := 14) hx hb dX6_add_76 (by decide) ?_
                refine lv_icmp_ne (tgt := 94) hx hb dX6_add_78 (by decide) (fun c_78_50 => ?_) (fun c_78_50 => ?_)
                ·
                  refine lv_aload_n hx hb dX6_add_94 rfl (lv_at hl 1 rfl) ?_
                  refine fgX6_44 hx hb hts hown hK hH 0 (by decide) dX6_add_95 ?_
                  rw [show gI σ 13 0 1 = nI (lN0 σ) from hL.1]
                  refine lv_bipush (v := 40) hx hb dX6_add_98 (by decide) ?_
                  refine lv_icmp_ne (tgt := 106) hx hb dX6_add_100 (by decide) (fun c_100_51 => ?_) (fun c_100_51 => ?_)
                  ·
                    have hl40 : lN0 σ < 40 := ne40 hL (by assumption)
                    refine lv_aload_n hx hb dX6_add_106 rfl (lv_at hl 1 rfl) ?_
                    refine fgX6_7 hx hb hts hown hK hH 0 (by decide) dX6_add_107 ?_
                    refine lv_iconst (v := 2) hx hb dX6_add_110 (by decide) ?_
                    refine lv_aload_n hx hb dX6_add_111 rfl (lv_at hl 1 rfl) ?_
                    refine fgX6_44 hx hb hts hown hK hH 0 (by decide) dX6_add_112 ?_
                    rw [show gI σ 13 0 1 = nI (lN0 σ) from hL.1]
                    refine lv_imul hx hb dX6_add_115 ?_
                    refine lv_iload_n hx hb dX6_add_116 rfl (lv_at hl 2 rfl) ?_
                    refine x_iast hx hb hK hH hS 14 0 80 (by decide) (fun _ _ => rfl) (2 * (lN0 σ)) ((tagM ((rfl : (2 : Int32) = nI 2)) rfl)) (by omega) (by decide) dX6_add_117 (fun H locs hH hS => ?_)
                    refine lv_aload_n hx hb dX6_add_118 rfl (lv_at hl 1 rfl) ?_
                    refine fgX6_7 hx hb hts hown hK hH 0 (by decide) dX6_add_119 ?_
                    refine lv_iconst (v := 2) hx hb dX6_add_122 (by decide) ?_
                    refine lv_aload_n hx hb dX6_add_123 rfl (lv_at hl 1 rfl) ?_
                    refine fgX6_44 hx hb hts hown hK hH 0 (by decide) dX6_add_124 ?_
                    rw [show gI (sI σ 14 0 (2 * (lN0 σ)) x) 13 0 1 = nI (lN0 σ) from hL.1]
                    refine lv_imul hx hb dX6_add_127 ?_
                    refine lv_iconst (v := 1) hx hb dX6_add_128 (by decide) ?_
                    refine lv_iadd hx hb dX6_add_129 ?_
                    refine lv_iload_n hx hb dX6_add_130 rfl (lv_at hl 3 rfl) ?_
                    refine x_iast hx hb hK hH hS 14 0 80 (by decide) (fun _ _ => rfl) ((2 * (lN0 σ)) + 1) ((tagA ((tagM ((rfl : (2 : Int32) = nI 2)) rfl)) ((rfl : (1 : Int32) = nI 1)))) (by omega) (by decide) dX6_add_131 (fun H locs hH hS => ?_)
                    refine lv_aload_n hx hb dX6_add_132 rfl (lv_at hl 1 rfl) ?_
                    refine lv_dup hx hb dX6_add_133 rfl ?_
                    refine fgX6_44 hx hb hts hown hK hH 0 (by decide) dX6_add_134 ?_
                    rw [show gI (sI (sI σ 14 0 (2 * (lN0 σ)) x) 14 0 ((2 * (lN0 σ)) + 1) y) 13 0 1 = nI (lN0 σ) from hL.1]
                    refine lv_iconst (v := 1) hx hb dX6_add_137 (by decide) ?_
                    refine lv_iadd hx hb dX6_add_138 ?_
                    refine fpX6_44 hx hb hts hown hK hH hS 0 (by decide) dX6_add_139 (fun H locs hH hS => ?_)
                    refine lv_aload_n hx hb dX6_add_142 rfl (lv_at hl 1 rfl) ?_
                    refine fgX6_44 hx hb hts hown hK hH 0 (by decide) dX6_add_143 ?_
                    refine lv_iconst (v := 1) hx hb dX6_add_146 (by decide) ?_
                    refine lv_isub hx hb dX6_add_147 ?_
                    exact e_iret hx hb hr hlk hK hH hS dX6_add_148 (by simp only [f_X6_add, if_neg c_7_1, if_neg c_14_2, if_neg c_19_21, if_pos c_25_40, if_neg c_50_42, if_neg c_56_43, if_neg c_62_49, if_neg c_78_50, if_neg c_100_51]) (congrArg (Ex cs b) (by simp only [f_X6_add, if_neg c_7_1, if_neg c_14_2, if_neg c_19_21, if_pos c_25_40, if_neg c_50_42, if_neg c_56_43, if_neg c_62_49, if_neg c_78_50, if_neg c_100_51]))
                  ·
                    refine lv_bipush (v := (-3)) hx hb dX6_add_103 (by decide) ?_
                    exact e_iret hx hb hr hlk hK hH hS dX6_add_105 (by simp only [f_X6_add, if_neg c_7_1, if_neg c_14_2, if_neg c_19_21, if_pos c_25_40, if_neg c_50_42, if_neg c_56_43, if_neg c_62_49, if_neg c_78_50, if_pos c_100_51]) (congrArg (Ex cs b) (by simp only [f_X6_add, if_neg c_7_1, if_neg c_14_2, if_neg c_19_21, if_pos c_25_40, if_neg c_50_42, if_neg c_56_43, if_neg c_62_49, if_neg c_78_50, if_pos c_100_51]))
                ·
                  refine lv_iload_n hx hb dX6_add_81 rfl (lv_at hl 3 rfl) ?_
                  refine lv_iconst (v := 0) hx hb dX6_add_82 (by decide) ?_
                  refine lv_bipush (v := 79) hx hb dX6_add_83 (by decide) ?_
                  refine e_ci (e_runS (As := [.int (y), .int (0), .int (79)]) (rest := []) ⟨hx, hb, hml, hown, hts⟩ (k_X6_within l D cs b σ y 0 79 ) ⟨callB_of 3 hts (gC wC_X6_within) rfl rfl rfl (hts _ wi_X6) (hts _ wM_X6_40) (by decide +kernel) (by decide), hts _ wT_X6_within⟩ hK hH rfl hl.1 rfl (Nat.le_of_ble_eq_true rfl) dX6_add_85 (by decide)) hS (fun H locs hH hS => ?_)
                  refine lv_if_ne (tgt := 94) hx hb dX6_add_88 (by decide) (fun c_88_52 => ?_) (fun c_88_52 => ?_)
                  ·
                    refine lv_aload_n hx hb dX6_add_94 rfl (lv_at hl 1 rfl) ?_
                    refine fgX6_44 hx hb hts hown hK hH 0 (by decide) dX6_add_95 ?_
                    rw [show gI σ 13 0 1 = nI (lN0 σ) from hL.1]
                    refine lv_bipush (v := 40) hx hb dX6_add_98 (by decide) ?_
                    refine lv_icmp_ne (tgt := 106) hx hb dX6_add_100 (by decide) (fun c_100_53 => ?_) (fun c_100_53 => ?_)
                    ·
                      have hl40 : lN0 σ < 40 := ne40 hL (by assumption)
                      refine lv_aload_n hx hb dX6_add_106 rfl (lv_at hl 1 rfl) ?_
                      refine fgX6_7 hx hb hts hown hK hH 0 (by decide) dX6_add_107 ?_
                      refine lv_iconst (v := 2) hx hb dX6_add_110 (by decide) ?_
                      refine lv_aload_n hx hb dX6_add_111 rfl (lv_at hl 1 rfl) ?_
                      refine fgX6_44 hx hb hts hown hK hH 0 (by decide) dX6_add_112 ?_
                      rw [show gI σ 13 0 1 = nI (lN0 σ) from hL.1]
                      refine lv_imul hx hb dX6_add_115 ?_
                      refine lv_iload_n hx hb dX6_add_116 rfl (lv_at hl 2 rfl) ?_
                      refine x_iast hx hb hK hH hS 14 0 80 (by decide) (fun _ _ => rfl) (2 * (lN0 σ)) ((tagM ((rfl : (2 : Int32) = nI 2)) rfl)) (by omega) (by decide) dX6_add_117 (fun H locs hH hS => ?_)
                      refine lv_aload_n hx hb dX6_add_118 rfl (lv_at hl 1 rfl) ?_
                      refine fgX6_7 hx hb hts hown hK hH 0 (by decide) dX6_add_119 ?_
                      refine lv_iconst (v := 2) hx hb dX6_add_122 (by decide) ?_
                      refine lv_aload_n hx hb dX6_add_123 rfl (lv_at hl 1 rfl) ?_
                      refine fgX6_44 hx hb hts hown hK hH 0 (by decide) dX6_add_124 ?_
                      rw [show gI (sI σ 14 0 (2 * (lN0 σ)) x) 13 0 1 = nI (lN0 σ) from hL.1]
                      refine lv_imul hx hb dX6_add_127 ?_
                      refine lv_iconst (v := 1) hx hb dX6_add_128 (by decide) ?_
                      refine lv_iadd hx hb dX6_add_129 ?_
                      refine lv_iload_n hx hb dX6_add_130 rfl (lv_at hl 3 rfl) ?_
                      refine x_iast hx hb hK hH hS 14 0 80 (by decide) (fun _ _ => rfl) ((2 * (lN0 σ)) + 1) ((tagA ((tagM ((rfl : (2 : Int32) = nI 2)) rfl)) ((rfl : (1 : Int32) = nI 1)))) (by omega) (by decide) dX6_add_131 (fun H locs hH hS => ?_)
                      refine lv_aload_n hx hb dX6_add_132 rfl (lv_at hl 1 rfl) ?_
                      refine lv_dup hx hb dX6_add_133 rfl ?_
                      refine fgX6_44 hx hb hts hown hK hH 0 (by decide) dX6_add_134 ?_
                      rw [show gI (sI (sI σ 14 0 (2 * (lN0 σ)) x) 14 0 ((2 * (lN0 σ)) + 1) y) 13 0 1 = nI (lN0 σ) from hL.1]
                      refine lv_iconst (v := 1) hx hb dX6_add_137 (by decide) ?_
                      refine lv_iadd hx hb dX6_add_138 ?_
                      refine fpX6_44 hx hb hts hown hK hH hS 0 (by decide) dX6_add_139 (fun H locs hH hS => ?_)
                      refine lv_aload_n hx hb dX6_add_142 rfl (lv_at hl 1 rfl) ?_
                      refine fgX6_44 hx hb hts hown hK hH 0 (by decide) dX6_add_143 ?_
                      refine lv_iconst (v := 1) hx hb dX6_add_146 (by decide) ?_
                      refine lv_isub hx hb dX6_add_147 ?_
                      exact e_iret hx hb hr hlk hK hH hS dX6_add_148 (by simp only [f_X6_add, if_neg c_7_1, if_neg c_14_2, if_neg c_19_21, if_pos c_25_40, if_neg c_50_42, if_neg c_56_43, if_neg c_62_49, if_pos c_78_50, if_neg c_88_52, if_neg c_100_53]) (congrArg (Ex cs b) (by simp only [f_X6_add, if_neg c_7_1, if_neg c_14_2, if_neg c_19_21, if_pos c_25_40, if_neg c_50_42, if_neg c_56_43, if_neg c_62_49, if_pos c_78_50, if_neg c_88_52, if_neg c_100_53]))
                    ·
                      refine lv_bipush (v := (-3)) hx hb dX6_add_103 (by decide) ?_
                      exact e_iret hx hb hr hlk hK hH hS dX6_add_105 (by simp only [f_X6_add, if_neg c_7_1, if_neg c_14_2, if_neg c_19_21, if_pos c_25_40, if_neg c_50_42, if_neg c_56_43, if_neg c_62_49, if_pos c_78_50, if_neg c_88_52, if_pos c_100_53]) (congrArg (Ex cs b) (by simp only [f_X6_add, if_neg c_7_1, if_neg c_14_2, if_neg c_19_21, if_pos c_25_40, if_neg c_50_42, if_neg c_56_43, if_neg c_62_49, if_pos c_78_50, if_neg c_88_52, if_pos c_100_53]))
                  ·
                    refine lv_bipush (v := (-2)) hx hb dX6_add_91 (by decide) ?_
                    exact e_iret hx hb hr hlk hK hH hS dX6_add_93 (by simp only [f_X6_add, if_neg c_7_1, if_neg c_14_2, if_neg c_19_21, if_pos c_25_40, if_neg c_50_42, if_neg c_56_43, if_neg c_62_49, if_pos c_78_50, if_pos c_88_52]) (congrArg (Ex cs b) (by simp only [f_X6_add, if_neg c_7_1, if_neg c_14_2, if_neg c_19_21, if_pos c_25_40, if_neg c_50_42, if_neg c_56_43, if_neg c_62_49, if_pos c_78_50, if_pos c_88_52]))
              ·
                refine lv_iload_n hx hb dX6_add_65 rfl (lv_at hl 3 rfl) ?_
                refine lv_iconst (v := 0) hx hb dX6_add_66 (by decide) ?_
                refine lv_bipush (v := 39) hx hb dX6_add_67 (by decide) ?_
                refine e_ci (e_runS (As := [.int (y), .int (0), .int (39)]) (rest := []) ⟨hx, hb, hml, hown, hts⟩ (k_X6_within l D cs b σ y 0 39 ) ⟨callB_of 3 hts (gC wC_X6_within) rfl rfl rfl (hts _ wi_X6) (hts _ wM_X6_40) (by decide +kernel) (by decide), hts _ wT_X6_within⟩ hK hH rfl hl.1 rfl (Nat.le_of_ble_eq_true rfl) dX6_add_69 (by decide)) hS (fun H locs hH hS => ?_)
                refine lv_if_eq (tgt := 91) hx hb dX6_add_72 (by decide) (fun c_72_54 => ?_) (fun c_72_54 => ?_)
                ·
                  refine lv_bipush (v := (-2)) hx hb dX6_add_91 (by decide) ?_
                  exact e_iret hx hb hr hlk hK hH hS dX6_add_93 (by simp only [f_X6_add, if_neg c_7_1, if_neg c_14_2, if_neg c_19_21, if_pos c_25_40, if_neg c_50_42, if_neg c_56_43, if_pos c_62_49, if_pos c_72_54]) (congrArg (Ex cs b) (by simp only [f_X6_add, if_neg c_7_1, if_neg c_14_2, if_neg c_19_21, if_pos c_25_40, if_neg c_50_42, if_neg c_56_43, if_pos c_62_49, if_pos c_72_54]))
                ·
                  refine lv_iload_n hx hb dX6_add_75 rfl (lv_at hl 2 rfl) ?_
                  refine lv_bipush (v := 14) hx hb dX6_add_76 (by decide) ?_
                  refine lv_icmp_ne (tgt := 94) hx hb dX6_add_78 (by decide) (fun c_78_55 => ?_) (fun c_78_55 => ?_)
                  ·
                    refine lv_aload_n hx hb dX6_add_94 rfl (lv_at hl 1 rfl) ?_
                    refine fgX6_44 hx hb hts hown hK hH 0 (by decide) dX6_add_95 ?_
                    rw [show gI σ 13 0 1 = nI (lN0 σ) from hL.1]
                    refine lv_bipush (v := 40) hx hb dX6_add_98 (by decide) ?_
                    refine lv_icmp_ne (tgt := 106) hx hb dX6_add_100 (by decide) (fun c_100_56 => ?_) (fun c_100_56 => ?_)
                    ·
                      have hl40 : lN0 σ < 40 := ne40 hL (by assumption)
                      refine lv_aload_n hx hb dX6_add_106 rfl (lv_at hl 1 rfl) ?_
                      refine fgX6_7 hx hb hts hown hK hH 0 (by decide) dX6_add_107 ?_
                      refine lv_iconst (v := 2) hx hb dX6_add_110 (by decide) ?_
                      refine lv_aload_n hx hb dX6_add_111 rfl (lv_at hl 1 rfl) ?_
                      refine fgX6_44 hx hb hts hown hK hH 0 (by decide) dX6_add_112 ?_
                      rw [show gI σ 13 0 1 = nI (lN0 σ) from hL.1]
                      refine lv_imul hx hb dX6_add_115 ?_
                      refine lv_iload_n hx hb dX6_add_116 rfl (lv_at hl 2 rfl) ?_
                      refine x_iast hx hb hK hH hS 14 0 80 (by decide) (fun _ _ => rfl) (2 * (lN0 σ)) ((tagM ((rfl : (2 : Int32) = nI 2)) rfl)) (by omega) (by decide) dX6_add_117 (fun H locs hH hS => ?_)
                      refine lv_aload_n hx hb dX6_add_118 rfl (lv_at hl 1 rfl) ?_
                      refine fgX6_7 hx hb hts hown hK hH 0 (by decide) dX6_add_119 ?_
                      refine lv_iconst (v := 2) hx hb dX6_add_122 (by decide) ?_
                      refine lv_aload_n hx hb dX6_add_123 rfl (lv_at hl 1 rfl) ?_
                      refine fgX6_44 hx hb hts hown hK hH 0 (by decide) dX6_add_124 ?_
                      rw [show gI (sI σ 14 0 (2 * (lN0 σ)) x) 13 0 1 = nI (lN0 σ) from hL.1]
                      refine lv_imul hx hb dX6_add_127 ?_
                      refine lv_iconst (v := 1) hx hb dX6_add_128 (by decide) ?_
                      refine lv_iadd hx hb dX6_add_129 ?_
                      refine lv_iload_n hx hb dX6_add_130 rfl (lv_at hl 3 rfl) ?_
                      refine x_iast hx hb hK hH hS 14 0 80 (by decide) (fun _ _ => rfl) ((2 * (lN0 σ)) + 1) ((tagA ((tagM ((rfl : (2 : Int32) = nI 2)) rfl)) ((rfl : (1 : Int32) = nI 1)))) (by omega) (by decide) dX6_add_131 (fun H locs hH hS => ?_)
                      refine lv_aload_n hx hb dX6_add_132 rfl (lv_at hl 1 rfl) ?_
                      refine lv_dup hx hb dX6_add_133 rfl ?_
                      refine fgX6_44 hx hb hts hown hK hH 0 (by decide) dX6_add_134 ?_
                      rw [show gI (sI (sI σ 14 0 (2 * (lN0 σ)) x) 14 0 ((2 * (lN0 σ)) + 1) y) 13 0 1 = nI (lN0 σ) from hL.1]
                      refine lv_iconst (v := 1) hx hb dX6_add_137 (by decide) ?_
                      refine lv_iadd hx hb dX6_add_138 ?_
                      refine fpX6_44 hx hb hts hown hK hH hS 0 (by decide) dX6_add_139 (fun H locs hH hS => ?_)
                      refine lv_aload_n hx hb dX6_add_142 rfl (lv_at hl 1 rfl) ?_
                      refine fgX6_44 hx hb hts hown hK hH 0 (by decide) dX6_add_143 ?_
                      refine lv_iconst (v := 1) hx hb dX6_add_146 (by decide) ?_
                      refine lv_isub hx hb dX6_add_147 ?_
                      exact e_iret hx hb hr hlk hK hH hS dX6_add_148 (by simp only [f_X6_add, if_neg c_7_1, if_neg c_14_2, if_neg c_19_21, if_pos c_25_40, if_neg c_50_42, if_neg c_56_43, if_pos c_62_49, if_neg c_72_54, if_neg c_78_55, if_neg c_100_56]) (congrArg (Ex cs b) (by simp only [f_X6_add, if_neg c_7_1, if_neg c_14_2, if_neg c_19_21, if_pos c_25_40, if_neg c_50_42, if_neg c_56_43, if_pos c_62_49, if_neg c_72_54, if_neg c_78_55, if_neg c_100_56]))
                    ·
                      refine lv_bipush (v := (-3)) hx hb dX6_add_103 (by decide) ?_
                      exact e_iret hx hb hr hlk hK hH hS dX6_add_105 (by simp only [f_X6_add, if_neg c_7_1, if_neg c_14_2, if_neg c_19_21, if_pos c_25_40, if_neg c_50_42, if_neg c_56_43, if_pos c_62_49, if_neg c_72_54, if_neg c_78_55, if_pos c_100_56]) (congrArg (Ex cs b) (by simp only [f_X6_add, if_neg c_7_1, if_neg c_14_2, if_neg c_19_21, if_pos c_25_40, if_neg c_50_42, if_neg c_56_43, if_pos c_62_49, if_neg c_72_54, if_neg c_78_55, if_pos c_100_56]))
                  ·
                    refine lv_iload_n hx hb dX6_add_81 rfl (lv_at hl 3 rfl) ?_
                    refine lv_iconst (v := 0) hx hb dX6_add_82 (by decide) ?_
                    refine lv_bipush (v := 79) hx hb dX6_add_83 (by decide) ?_
                    refine e_ci (e_runS (As := [.int (y), .int (0), .int (79)]) (rest := []) ⟨hx, hb, hml, hown, hts⟩ (k_X6_within l D cs b σ y 0 79 ) ⟨callB_of 3 hts (gC wC_X6_within) rfl rfl rfl (hts _ wi_X6) (hts _ wM_X6_40) (by decide +kernel) (by decide), hts _ wT_X6_within⟩ hK hH rfl hl.1 rfl (Nat.le_of_ble_eq_true rfl) dX6_add_85 (by decide)) hS (fun H locs hH hS => ?_)
                    refine lv_if_ne (tgt := 94) hx hb dX6_add_88 (by decide) (fun c_88_57 => ?_) (fun c_88_57 => ?_)
                    ·
                      refine lv_aload_n hx hb dX6_add_94 rfl (lv_at hl 1 rfl) ?_
                      refine fgX6_44 hx hb hts hown hK hH 0 (by decide) dX6_add_95 ?_
                      rw [show gI σ 13 0 1 = nI (lN0 σ) from hL.1]
                      refine lv_bipush (v := 40) hx hb dX6_add_98 (by decide) ?_
                      refine lv_icmp_ne (tgt := 106) hx hb dX6_add_100 (by decide) (fun c_100_58 => ?_) (fun c_100_58 => ?_)
                      ·
                        have hl40 : lN0 σ < 40 := ne40 hL (by assumption)
                        refine lv_aload_n hx hb dX6_add_106 rfl (lv_at hl 1 rfl) ?_
                        refine fgX6_7 hx hb hts hown hK hH 0 (by decide) dX6_add_107 ?_
                        refine lv_iconst (v := 2) hx hb dX6_add_110 (by decide) ?_
                        refine lv_aload_n hx hb dX6_add_111 rfl (lv_at hl 1 rfl) ?_
                        refine fgX6_44 hx hb hts hown hK hH 0 (by decide) dX6_add_112 ?_
                        rw [show gI σ 13 0 1 = nI (lN0 σ) from hL.1]
                        refine lv_imul hx hb dX6_add_115 ?_
                        refine lv_iload_n hx hb dX6_add_116 rfl (lv_at hl 2 rfl) ?_
                        refine x_iast hx hb hK hH hS 14 0 80 (by decide) (fun _ _ => rfl) (2 * (lN0 σ)) ((tagM ((rfl : (2 : Int32) = nI 2)) rfl)) (by omega) (by decide) dX6_add_117 (fun H locs hH hS => ?_)
                        refine lv_aload_n hx hb dX6_add_118 rfl (lv_at hl 1 rfl) ?_
                        refine fgX6_7 hx hb hts hown hK hH 0 (by decide) dX6_add_119 ?_
                        refine lv_iconst (v := 2) hx hb dX6_add_122 (by decide) ?_
                        refine lv_aload_n hx hb dX6_add_123 rfl (lv_at hl 1 rfl) ?_
                        refine fgX6_44 hx hb hts hown hK hH 0 (by decide) dX6_add_124 ?_
                        rw [show gI (sI σ 14 0 (2 * (lN0 σ)) x) 13 0 1 = nI (lN0 σ) from hL.1]
                        refine lv_imul hx hb dX6_add_127 ?_
                        refine lv_iconst (v := 1) hx hb dX6_add_128 (by decide) ?_
                        refine lv_iadd hx hb dX6_add_129 ?_
                        refine lv_iload_n hx hb dX6_add_130 rfl (lv_at hl 3 rfl) ?_
                        refine x_iast hx hb hK hH hS 14 0 80 (by decide) (fun _ _ => rfl) ((2 * (lN0 σ)) + 1) ((tagA ((tagM ((rfl : (2 : Int32) = nI 2)) rfl)) ((rfl : (1 : Int32) = nI 1)))) (by omega) (by decide) dX6_add_131 (fun H locs hH hS => ?_)
                        refine lv_aload_n hx hb dX6_add_132 rfl (lv_at hl 1 rfl) ?_
                        refine lv_dup hx hb dX6_add_133 rfl ?_
                        refine fgX6_44 hx hb hts hown hK hH 0 (by decide) dX6_add_134 ?_
                        rw [show gI (sI (sI σ 14 0 (2 * (lN0 σ)) x) 14 0 ((2 * (lN0 σ)) + 1) y) 13 0 1 = nI (lN0 σ) from hL.1]
                        refine lv_iconst (v := 1) hx hb dX6_add_137 (by decide) ?_
                        refine lv_iadd hx hb dX6_add_138 ?_
                        refine fpX6_44 hx hb hts hown hK hH hS 0 (by decide) dX6_add_139 (fun H locs hH hS => ?_)
                        refine lv_aload_n hx hb dX6_add_142 rfl (lv_at hl 1 rfl) ?_
                        refine fgX6_44 hx hb hts hown hK hH 0 (by decide) dX6_add_143 ?_
                        refine lv_iconst (v := 1) hx hb dX6_add_146 (by decide) ?_
                        refine lv_isub hx hb dX6_add_147 ?_
                        exact e_iret hx hb hr hlk hK hH hS dX6_add_148 (by simp only [f_X6_add, if_neg c_7_1, if_neg c_14_2, if_neg c_19_21, if_pos c_25_40, if_neg c_50_42, if_neg c_56_43, if_pos c_62_49, if_neg c_72_54, if_pos c_78_55, if_neg c_88_57, if_neg c_100_58]) (congrArg (Ex cs b) (by simp only [f_X6_add, if_neg c_7_1, if_neg c_14_2, if_neg c_19_21, if_pos c_25_40, if_neg c_50_42, if_neg c_56_43, if_pos c_62_49, if_neg c_72_54, if_pos c_78_55, if_neg c_88_57, if_neg c_100_58]))
                      ·
                        refine lv_bipush (v := (-3)) hx hb dX6_add_103 (by decide) ?_
                        exact e_iret hx hb hr hlk hK hH hS dX6_add_105 (by simp only [f_X6_add, if_neg c_7_1, if_neg c_14_2, if_neg c_19_21, if_pos c_25_40, if_neg c_50_42, if_neg c_56_43, if_pos c_62_49, if_neg c_72_54, if_pos c_78_55, if_neg c_88_57, if_pos c_100_58]) (congrArg (Ex cs b) (by simp only [f_X6_add, if_neg c_7_1, if_neg c_14_2, if_neg c_19_21, if_pos c_25_40, if_neg c_50_42, if_neg c_56_43, if_pos c_62_49, if_neg c_72_54, if_pos c_78_55, if_neg c_88_57, if_pos c_100_58]))
                    ·
                      refine lv_bipush (v := (-2)) hx hb dX6_add_91 (by decide) ?_
                      exact e_iret hx hb hr hlk hK hH hS dX6_add_93 (by simp only [f_X6_add, if_neg c_7_1, if_neg c_14_2, if_neg c_19_21, if_pos c_25_40, if_neg c_50_42, if_neg c_56_43, if_pos c_62_49, if_neg c_72_54, if_pos c_78_55, if_pos c_88_57]) (congrArg (Ex cs b) (by simp only [f_X6_add, if_neg c_7_1, if_neg c_14_2, if_neg c_19_21, if_pos c_25_40, if_neg c_50_42, if_neg c_56_43, if_pos c_62_49, if_neg c_72_54, if_pos c_78_55, if_pos c_88_57]))
        ·
          refine lv_iload_n hx hb dX6_add_28 rfl (lv_at hl 1 rfl) ?_
          refine lv_bipush (v := 11) hx hb dX6_add_29 (by decide) ?_
          refine lv_icmp_ne (tgt := 38) hx hb dX6_add_31 (by decide) (fun c_31_59 => ?_) (fun c_31_59 => ?_)
          ·
            refine lv_iconst (v := 0) hx hb dX6_add_38 (by decide) ?_
            refine lv_istore_n (lv' := [(3, .int (0)), (0, .ref (b + xo 13 0)), (1, .int (x)), (2, .int (y))]) hx hb dX6_add_39 rfl hl (by decide) rfl (fun ls hl => ?_)
            refine lv_iload_n hx hb dX6_add_40 rfl (lv_at hl 0 rfl) ?_
            refine lv_if_eq (tgt := 53) hx hb dX6_add_41 (by decide) (fun c_41_60 => ?_) (fun c_41_60 => ?_)
            rotate_left
            ·
              exact absurd (by decide) c_41_60
            refine lv_iload_n hx hb dX6_add_53 rfl (lv_at hl 2 rfl) ?_
            refine lv_bipush (v := 8) hx hb dX6_add_54 (by decide) ?_
            refine lv_icmp_eq (tgt := 65) hx hb dX6_add_56 (by decide) (fun c_56_61 => ?_) (fun c_56_61 => ?_)
            ·
              refine lv_iload_n hx hb dX6_add_65 rfl (lv_at hl 3 rfl) ?_
              refine lv_iconst (v := 0) hx hb dX6_add_66 (by decide) ?_
              refine lv_bipush (v := 39) hx hb dX6_add_67 (by decide) ?_
              refine e_ci (e_runS (As := [.int (y), .int (0), .int (39)]) (rest := []) ⟨hx, hb, hml, hown, hts⟩ (k_X6_within l D cs b σ y 0 39 ) ⟨callB_of 3 hts (gC wC_X6_within) rfl rfl rfl (hts _ wi_X6) (hts _ wM_X6_40) (by decide +kernel) (by decide), hts _ wT_X6_within⟩ hK hH rfl hl.1 rfl (Nat.le_of_ble_eq_true rfl) dX6_add_69 (by decide)) hS (fun H locs hH hS => ?_)
              refine lv_if_eq (tgt := 91) hx hb dX6_add_72 (by decide) (fun c_72_62 => ?_) (fun c_72_62 => ?_)
              ·
                refine lv_bipush (v := (-2)) hx hb dX6_add_91 (by decide) ?_
                exact e_iret hx hb hr hlk hK hH hS dX6_add_93 (by simp only [f_X6_add, if_neg c_7_1, if_neg c_14_2, if_neg c_19_21, if_neg c_25_40, if_neg c_31_59, if_pos c_56_61, if_pos c_72_62]) (congrArg (Ex cs b) (by simp only [f_X6_add, if_neg c_7_1, if_neg c_14_2, if_neg c_19_21, if_neg c_25_40, if_neg c_31_59, if_pos c_56_61, if_pos c_72_62]))
              ·
                refine lv_iload_n hx hb dX6_add_75 rfl (lv_at hl 2 rfl) ?_
                refine lv_bipush (v := 14) hx hb dX6_add_76 (by decide) ?_
                refine lv_icmp_ne (tgt := 94) hx hb dX6_add_78 (by decide) (fun c_78_63 => ?_) (fun c_78_63 => ?_)
                ·
                  refine lv_aload_n hx hb dX6_add_94 rfl (lv_at hl 1 rfl) ?_
                  refine fgX6_44 hx hb hts hown hK hH 0 (by decide) dX6_add_95 ?_
                  rw [show gI σ 13 0 1 = nI (lN0 σ) from hL.1]
                  refine lv_bipush (v := 40) hx hb dX6_add_98 (by decide) ?_
                  refine lv_icmp_ne (tgt := 106) hx hb dX6_add_100 (by decide) (fun c_100_64 => ?_) (fun c_100_64 => ?_)
                  ·
                    have hl40 : lN0 σ < 40 := ne40 hL (by assumption)
                    refine lv_aload_n hx hb dX6_add_106 rfl (lv_at hl 1 rfl) ?_
                    refine fgX6_7 hx hb hts hown hK hH 0 (by decide) dX6_add_107 ?_
                    refine lv_iconst (v := 2) hx hb dX6_add_110 (by decide) ?_
                    refine lv_aload_n hx hb dX6_add_111 rfl (lv_at hl 1 rfl) ?_
                    refine fgX6_44 hx hb hts hown hK hH 0 (by decide) dX6_add_112 ?_
                    rw [show gI σ 13 0 1 = nI (lN0 σ) from hL.1]
                    refine lv_imul hx hb dX6_add_115 ?_
                    refine lv_iload_n hx hb dX6_add_116 rfl (lv_at hl 2 rfl) ?_
                    refine x_iast hx hb hK hH hS 14 0 80 (by decide) (fun _ _ => rfl) (2 * (lN0 σ)) ((tagM ((rfl : (2 : Int32) = nI 2)) rfl)) (by omega) (by decide) dX6_add_117 (fun H locs hH hS => ?_)
                    refine lv_aload_n hx hb dX6_add_118 rfl (lv_at hl 1 rfl) ?_
                    refine fgX6_7 hx hb hts hown hK hH 0 (by decide) dX6_add_119 ?_
                    refine lv_iconst (v := 2) hx hb dX6_add_122 (by decide) ?_
                    refine lv_aload_n hx hb dX6_add_123 rfl (lv_at hl 1 rfl) ?_
                    refine fgX6_44 hx hb hts hown hK hH 0 (by decide) dX6_add_124 ?_
                    rw [show gI (sI σ 14 0 (2 * (lN0 σ)) x) 13 0 1 = nI (lN0 σ) from hL.1]
                    refine lv_imul hx hb dX6_add_127 ?_
                    refine lv_iconst (v := 1) hx hb dX6_add_128 (by decide) ?_
                    refine lv_iadd hx hb dX6_add_129 ?_
                    refine lv_iload_n hx hb dX6_add_130 rfl (lv_at hl 3 rfl) ?_
                    refine x_iast hx hb hK hH hS 14 0 80 (by decide) (fun _ _ => rfl) ((2 * (lN0 σ)) + 1) ((tagA ((tagM ((rfl : (2 : Int32) = nI 2)) rfl)) ((rfl : (1 : Int32) = nI 1)))) (by omega) (by decide) dX6_add_131 (fun H locs hH hS => ?_)
                    refine lv_aload_n hx hb dX6_add_132 rfl (lv_at hl 1 rfl) ?_
                    refine lv_dup hx hb dX6_add_133 rfl ?_
                    refine fgX6_44 hx hb hts hown hK hH 0 (by decide) dX6_add_134 ?_
                    rw [show gI (sI (sI σ 14 0 (2 * (lN0 σ)) x) 14 0 ((2 * (lN0 σ)) + 1) y) 13 0 1 = nI (lN0 σ) from hL.1]
                    refine lv_iconst (v := 1) hx hb dX6_add_137 (by decide) ?_
                    refine lv_iadd hx hb dX6_add_138 ?_
                    refine fpX6_44 hx hb hts hown hK hH hS 0 (by decide) dX6_add_139 (fun H locs hH hS => ?_)
                    refine lv_aload_n hx hb dX6_add_142 rfl (lv_at hl 1 rfl) ?_
                    refine fgX6_44 hx hb hts hown hK hH 0 (by decide) dX6_add_143 ?_
                    refine lv_iconst (v := 1) hx hb dX6_add_146 (by decide) ?_
                    refine lv_isub hx hb dX6_add_147 ?_
                    exact e_iret hx hb hr hlk hK hH hS dX6_add_148 (by simp only [f_X6_add, if_neg c_7_1, if_neg c_14_2, if_neg c_19_21, if_neg c_25_40, if_neg c_31_59, if_pos c_56_61, if_neg c_72_62, if_neg c_78_63, if_neg c_100_64]) (congrArg (Ex cs b) (by simp only [f_X6_add, if_neg c_7_1, if_neg c_14_2, if_neg c_19_21, if_neg c_25_40, if_neg c_31_59, if_pos c_56_61, if_neg c_72_62, if_neg c_78_63, if_neg c_100_64]))
                  ·
                    refine lv_bipush (v := (-3)) hx hb dX6_add_103 (by decide) ?_
                    exact e_iret hx hb hr hlk hK hH hS dX6_add_105 (by simp only [f_X6_add, if_neg c_7_1, if_neg c_14_2, if_neg c_19_21, if_neg c_25_40, if_neg c_31_59, if_pos c_56_61, if_neg c_72_62, if_neg c_78_63, if_pos c_100_64]) (congrArg (Ex cs b) (by simp only [f_X6_add, if_neg c_7_1, if_neg c_14_2, if_neg c_19_21, if_neg c_25_40, if_neg c_31_59, if_pos c_56_61, if_neg c_72_62, if_neg c_78_63, if_pos c_100_64]))
                ·
                  refine lv_iload_n hx hb dX6_add_81 rfl (lv_at hl 3 rfl) ?_
                  refine lv_iconst (v := 0) hx hb dX6_add_82 (by decide) ?_
                  refine lv_bipush (v := 79) hx hb dX6_add_83 (by decide) ?_
                  refine e_ci (e_runS (As := [.int (y), .int (0), .int (79)]) (rest := []) ⟨hx, hb, hml, hown, hts⟩ (k_X6_within l D cs b σ y 0 79 ) ⟨callB_of 3 hts (gC wC_X6_within) rfl rfl rfl (hts _ wi_X6) (hts _ wM_X6_40) (by decide +kernel) (by decide), hts _ wT_X6_within⟩ hK hH rfl hl.1 rfl (Nat.le_of_ble_eq_true rfl) dX6_add_85 (by decide)) hS (fun H locs hH hS => ?_)
                  refine lv_if_ne (tgt := 94) hx hb dX6_add_88 (by decide) (fun c_88_65 => ?_) (fun c_88_65 => ?_)
                  ·
                    refine lv_aload_n hx hb dX6_add_94 rfl (lv_at hl 1 rfl) ?_
                    refine fgX6_44 hx hb hts hown hK hH 0 (by decide) dX6_add_95 ?_
                    rw [show gI σ 13 0 1 = nI (lN0 σ) from hL.1]
                    refine lv_bipush (v := 40) hx hb dX6_add_98 (by decide) ?_
                    refine lv_icmp_ne (tgt := 106) hx hb dX6_add_100 (by decide) (fun c_100_66 => ?_) (fun c_100_66 => ?_)
                    ·
                      have hl40 : lN0 σ < 40 := ne40 hL (by assumption)
                      refine lv_aload_n hx hb dX6_add_106 rfl (lv_at hl 1 rfl) ?_
                      refine fgX6_7 hx hb hts hown hK hH 0 (by decide) dX6_add_107 ?_
                      refine lv_iconst (v := 2) hx hb dX6_add_110 (by decide) ?_
                      refine lv_aload_n hx hb dX6_add_111 rfl (lv_at hl 1 rfl) ?_
                      refine fgX6_44 hx hb hts hown hK hH 0 (by decide) dX6_add_112 ?_
                      rw [show gI σ 13 0 1 = nI (lN0 σ) from hL.1]
                      refine lv_imul hx hb dX6_add_115 ?_
                      refine lv_iload_n hx hb dX6_add_116 rfl (lv_at hl 2 rfl) ?_
                      refine x_iast hx hb hK hH hS 14 0 80 (by decide) (fun _ _ => rfl) (2 * (lN0 σ)) ((tagM ((rfl : (2 : Int32) = nI 2)) rfl)) (by omega) (by decide) dX6_add_117 (fun H locs hH hS => ?_)
                      refine lv_aload_n hx hb dX6_add_118 rfl (lv_at hl 1 rfl) ?_
                      refine fgX6_7 hx hb hts hown hK hH 0 (by decide) dX6_add_119 ?_
                      refine lv_iconst (v := 2) hx hb dX6_add_122 (by decide) ?_
                      refine lv_aload_n hx hb dX6_add_123 rfl (lv_at hl 1 rfl) ?_
                      refine fgX6_44 hx hb hts hown hK hH 0 (by decide) dX6_add_124 ?_
                      rw [show gI (sI σ 14 0 (2 * (lN0 σ)) x) 13 0 1 = nI (lN0 σ) from hL.1]
                      refine lv_imul hx hb dX6_add_127 ?_
                      refine lv_iconst (v := 1) hx hb dX6_add_128 (by decide) ?_
                      refine lv_iadd hx hb dX6_add_129 ?_
                      refine lv_iload_n hx hb dX6_add_130 rfl (lv_at hl 3 rfl) ?_
                      refine x_iast hx hb hK hH hS 14 0 80 (by decide) (fun _ _ => rfl) ((2 * (lN0 σ)) + 1) ((tagA ((tagM ((rfl : (2 : Int32) = nI 2)) rfl)) ((rfl : (1 : Int32) = nI 1)))) (by omega) (by decide) dX6_add_131 (fun H locs hH hS => ?_)
                      refine lv_aload_n hx hb dX6_add_132 rfl (lv_at hl 1 rfl) ?_
                      refine lv_dup hx hb dX6_add_133 rfl ?_
                      refine fgX6_44 hx hb hts hown hK hH 0 (by decide) dX6_add_134 ?_
                      rw [show gI (sI (sI σ 14 0 (2 * (lN0 σ)) x) 14 0 ((2 * (lN0 σ)) + 1) y) 13 0 1 = nI (lN0 σ) from hL.1]
                      refine lv_iconst (v := 1) hx hb dX6_add_137 (by decide) ?_
                      refine lv_iadd hx hb dX6_add_138 ?_
                      refine fpX6_44 hx hb hts hown hK hH hS 0 (by decide) dX6_add_139 (fun H locs hH hS => ?_)
                      refine lv_aload_n hx hb dX6_add_142 rfl (lv_at hl 1 rfl) ?_
                      refine fgX6_44 hx hb hts hown hK hH 0 (by decide) dX6_add_143 ?_
                      refine lv_iconst (v := 1) hx hb dX6_add_146 (by decide) ?_
                      refine lv_isub hx hb dX6_add_147 ?_
                      exact e_iret hx hb hr hlk hK hH hS dX6_add_148 (by simp only [f_X6_add, if_neg c_7_1, if_neg c_14_2, if_neg c_19_21, if_neg c_25_40, if_neg c_31_59, if_pos c_56_61, if_neg c_72_62, if_pos c_78_63, if_neg c_88_65, if_neg c_100_66]) (congrArg (Ex cs b) (by simp only [f_X6_add, if_neg c_7_1, if_neg c_14_2, if_neg c_19_21, if_neg c_25_40, if_neg c_31_59, if_pos c_56_61, if_neg c_72_62, if_pos c_78_63, if_neg c_88_65, if_neg c_100_66]))
                    ·
                      refine lv_bipush (v := (-3)) hx hb dX6_add_103 (by decide) ?_
                      exact e_iret hx hb hr hlk hK hH hS dX6_add_105 (by simp only [f_X6_add, if_neg c_7_1, if_neg c_14_2, if_neg c_19_21, if_neg c_25_40, if_neg c_31_59, if_pos c_56_61, if_neg c_72_62, if_pos c_78_63, if_neg c_88_65, if_pos c_100_66]) (congrArg (Ex cs b) (by simp only [f_X6_add, if_neg c_7_1, if_neg c_14_2, if_neg c_19_21, if_neg c_25_40, if_neg c_31_59, if_pos c_56_61, if_neg c_72_62, if_pos c_78_63, if_neg c_88_65, if_pos c_100_66]))
                  ·
                    refine lv_bipush (v := (-2)) hx hb dX6_add_91 (by decide) ?_
                    exact e_iret hx hb hr hlk hK hH hS dX6_add_93 (by simp only [f_X6_add, if_neg c_7_1, if_neg c_14_2, if_neg c_19_21, if_neg c_25_40, if_neg c_31_59, if_pos c_56_61, if_neg c_72_62, if_pos c_78_63, if_pos c_88_65]) (congrArg (Ex cs b) (by simp only [f_X6_add, if_neg c_7_1, if_neg c_14_2, if_neg c_19_21, if_neg c_25_40, if_neg c_31_59, if_pos c_56_61, if_neg c_72_62, if_pos c_78_63, if_pos c_88_65]))
            ·
              refine lv_iload_n hx hb dX6_add_59 rfl (lv_at hl 2 rfl) ?_
              refine lv_bipush (v := 9) hx hb dX6_add_60 (by decide) ?_
              refine lv_icmp_ne (tgt := 75) hx hb dX6_add_62 (by decide) (fun c_62_67 => ?_) (fun c_62_67 => ?_)
              ·
                refine lv_iload_n hx hb dX6_add_75 rfl (lv_at hl 2 rfl) ?_
                refine lv_bipush (v := 14) hx hb dX6_add_76 (by decide) ?_
                refine lv_icmp_ne (tgt := 94) hx hb dX6_add_78 (by decide) (fun c_78_68 => ?_) (fun c_78_68 => ?_)
                ·
                  refine lv_aload_n hx hb dX6_add_94 rfl (lv_at hl 1 rfl) ?_
                  refine fgX6_44 hx hb hts hown hK hH 0 (by decide) dX6_add_95 ?_
                  rw [show gI σ 13 0 1 = nI (lN0 σ) from hL.1]
                  refine lv_bipush (v := 40) hx hb dX6_add_98 (by decide) ?_
                  refine lv_icmp_ne (tgt := 106) hx hb dX6_add_100 (by decide) (fun c_100_69 => ?_) (fun c_100_69 => ?_)
                  ·
                    have hl40 : lN0 σ < 40 := ne40 hL (by assumption)
                    refine lv_aload_n hx hb dX6_add_106 rfl (lv_at hl 1 rfl) ?_
                    refine fgX6_7 hx hb hts hown hK hH 0 (by decide) dX6_add_107 ?_
                    refine lv_iconst (v := 2) hx hb dX6_add_110 (by decide) ?_
                    refine lv_aload_n hx hb dX6_add_111 rfl (lv_at hl 1 rfl) ?_
                    refine fgX6_44 hx hb hts hown hK hH 0 (by decide) dX6_add_112 ?_
                    rw [show gI σ 13 0 1 = nI (lN0 σ) from hL.1]
                    refine lv_imul hx hb dX6_add_115 ?_
                    refine lv_iload_n hx hb dX6_add_116 rfl (lv_at hl 2 rfl) ?_
                    refine x_iast hx hb hK hH hS 14 0 80 (by decide) (fun _ _ => rfl) (2 * (lN0 σ)) ((tagM ((rfl : (2 : Int32) = nI 2)) rfl)) (by omega) (by decide) dX6_add_117 (fun H locs hH hS => ?_)
                    refine lv_aload_n hx hb dX6_add_118 rfl (lv_at hl 1 rfl) ?_
                    refine fgX6_7 hx hb hts hown hK hH 0 (by decide) dX6_add_119 ?_
                    refine lv_iconst (v := 2) hx hb dX6_add_122 (by decide) ?_
                    refine lv_aload_n hx hb dX6_add_123 rfl (lv_at hl 1 rfl) ?_
                    refine fgX6_44 hx hb hts hown hK hH 0 (by decide) dX6_add_124 ?_
                    rw [show gI (sI σ 14 0 (2 * (lN0 σ)) x) 13 0 1 = nI (lN0 σ) from hL.1]
                    refine lv_imul hx hb dX6_add_127 ?_
                    refine lv_iconst (v := 1) hx hb dX6_add_128 (by decide) ?_
                    refine lv_iadd hx hb dX6_add_129 ?_
                    refine lv_iload_n hx hb dX6_add_130 rfl (lv_at hl 3 rfl) ?_
                    refine x_iast hx hb hK hH hS 14 0 80 (by decide) (fun _ _ => rfl) ((2 * (lN0 σ)) + 1) ((tagA ((tagM ((rfl : (2 : Int32) = nI 2)) rfl)) ((rfl : (1 : Int32) = nI 1)))) (by omega) (by decide) dX6_add_131 (fun H locs hH hS => ?_)
                    refine lv_aload_n hx hb dX6_add_132 rfl (lv_at hl 1 rfl) ?_
                    refine lv_dup hx hb dX6_add_133 rfl ?_
                    refine fgX6_44 hx hb hts hown hK hH 0 (by decide) dX6_add_134 ?_
                    rw [show gI (sI (sI σ 14 0 (2 * (lN0 σ)) x) 14 0 ((2 * (lN0 σ)) + 1) y) 13 0 1 = nI (lN0 σ) from hL.1]
                    refine lv_iconst (v := 1) hx hb dX6_add_137 (by decide) ?_
                    refine lv_iadd hx hb dX6_add_138 ?_
                    refine fpX6_44 hx hb hts hown hK hH hS 0 (by decide) dX6_add_139 (fun H locs hH hS => ?_)
                    refine lv_aload_n hx hb dX6_add_142 rfl (lv_at hl 1 rfl) ?_
                    refine fgX6_44 hx hb hts hown hK hH 0 (by decide) dX6_add_143 ?_
                    refine lv_iconst (v := 1) hx hb dX6_add_146 (by decide) ?_
                    refine lv_isub hx hb dX6_add_147 ?_
                    exact e_iret hx hb hr hlk hK hH hS dX6_add_148 (by simp only [f_X6_add, if_neg c_7_1, if_neg c_14_2, if_neg c_19_21, if_neg c_25_40, if_neg c_31_59, if_neg c_56_61, if_neg c_62_67, if_neg c_78_68, if_neg c_100_69]) (congrArg (Ex cs b) (by simp only [f_X6_add, if_neg c_7_1, if_neg c_14_2, if_neg c_19_21, if_neg c_25_40, if_neg c_31_59, if_neg c_56_61, if_neg c_62_67, if_neg c_78_68, if_neg c_100_69]))
                  ·
                    refine lv_bipush (v := (-3)) hx hb dX6_add_103 (by decide) ?_
                    exact e_iret hx hb hr hlk hK hH hS dX6_add_105 (by simp only [f_X6_add, if_neg c_7_1, if_neg c_14_2, if_neg c_19_21, if_neg c_25_40, if_neg c_31_59, if_neg c_56_61, if_neg c_62_67, if_neg c_78_68, if_pos c_100_69]) (congrArg (Ex cs b) (by simp only [f_X6_add, if_neg c_7_1, if_neg c_14_2, if_neg c_19_21, if_neg c_25_40, if_neg c_31_59, if_neg c_56_61, if_neg c_62_67, if_neg c_78_68, if_pos c_100_69]))
                ·
                  refine lv_iload_n hx hb dX6_add_81 rfl (lv_at hl 3 rfl) ?_
                  refine lv_iconst (v := 0) hx hb dX6_add_82 (by decide) ?_
                  refine lv_bipush (v := 79) hx hb dX6_add_83 (by decide) ?_
                  refine e_ci (e_runS (As := [.int (y), .int (0), .int (79)]) (rest := []) ⟨hx, hb, hml, hown, hts⟩ (k_X6_within l D cs b σ y 0 79 ) ⟨callB_of 3 hts (gC wC_X6_within) rfl rfl rfl (hts _ wi_X6) (hts _ wM_X6_40) (by decide +kernel) (by decide), hts _ wT_X6_within⟩ hK hH rfl hl.1 rfl (Nat.le_of_ble_eq_true rfl) dX6_add_85 (by decide)) hS (fun H locs hH hS => ?_)
                  refine lv_if_ne (tgt := 94) hx hb dX6_add_88 (by decide) (fun c_88_70 => ?_) (fun c_88_70 => ?_)
                  ·
                    refine lv_aload_n hx hb dX6_add_94 rfl (lv_at hl 1 rfl) ?_
                    refine fgX6_44 hx hb hts hown hK hH 0 (by decide) dX6_add_95 ?_
                    rw [show gI σ 13 0 1 = nI (lN0 σ) from hL.1]
                    refine lv_bipush (v := 40) hx hb dX6_add_98 (by decide) ?_
                    refine lv_icmp_ne (tgt := 106) hx hb dX6_add_100 (by decide) (fun c_100_71 => ?_) (fun c_100_71 => ?_)
                    ·
                      have hl40 : lN0 σ < 40 := ne40 hL (by assumption)
                      refine lv_aload_n hx hb dX6_add_106 rfl (lv_at hl 1 rfl) ?_
                      refine fgX6_7 hx hb hts hown hK hH 0 (by decide) dX6_add_107 ?_
                      refine lv_iconst (v := 2) hx hb dX6_add_110 (by decide) ?_
                      refine lv_aload_n hx hb dX6_add_111 rfl (lv_at hl 1 rfl) ?_
                      refine fgX6_44 hx hb hts hown hK hH 0 (by decide) dX6_add_112 ?_
                      rw [show gI σ 13 0 1 = nI (lN0 σ) from hL.1]
                      refine lv_imul hx hb dX6_add_115 ?_
                      refine lv_iload_n hx hb dX6_add_116 rfl (lv_at hl 2 rfl) ?_
                      refine x_iast hx hb hK hH hS 14 0 80 (by decide) (fun _ _ => rfl) (2 * (lN0 σ)) ((tagM ((rfl : (2 : Int32) = nI 2)) rfl)) (by omega) (by decide) dX6_add_117 (fun H locs hH hS => ?_)
                      refine lv_aload_n hx hb dX6_add_118 rfl (lv_at hl 1 rfl) ?_
                      refine fgX6_7 hx hb hts hown hK hH 0 (by decide) dX6_add_119 ?_
                      refine lv_iconst (v := 2) hx hb dX6_add_122 (by decide) ?_
                      refine lv_aload_n hx hb dX6_add_123 rfl (lv_at hl 1 rfl) ?_
                      refine fgX6_44 hx hb hts hown hK hH 0 (by decide) dX6_add_124 ?_
                      rw [show gI (sI σ 14 0 (2 * (lN0 σ)) x) 13 0 1 = nI (lN0 σ) from hL.1]
                      refine lv_imul hx hb dX6_add_127 ?_
                      refine lv_iconst (v := 1) hx hb dX6_add_128 (by decide) ?_
                      refine lv_iadd hx hb dX6_add_129 ?_
                      refine lv_iload_n hx hb dX6_add_130 rfl (lv_at hl 3 rfl) ?_
                      refine x_iast hx hb hK hH hS 14 0 80 (by decide) (fun _ _ => rfl) ((2 * (lN0 σ)) + 1) ((tagA ((tagM ((rfl : (2 : Int32) = nI 2)) rfl)) ((rfl : (1 : Int32) = nI 1)))) (by omega) (by decide) dX6_add_131 (fun H locs hH hS => ?_)
                      refine lv_aload_n hx hb dX6_add_132 rfl (lv_at hl 1 rfl) ?_
                      refine lv_dup hx hb dX6_add_133 rfl ?_
                      refine fgX6_44 hx hb hts hown hK hH 0 (by decide) dX6_add_134 ?_
                      rw [show gI (sI (sI σ 14 0 (2 * (lN0 σ)) x) 14 0 ((2 * (lN0 σ)) + 1) y) 13 0 1 = nI (lN0 σ) from hL.1]
                      refine lv_iconst (v := 1) hx hb dX6_add_137 (by decide) ?_
                      refine lv_iadd hx hb dX6_add_138 ?_
                      refine fpX6_44 hx hb hts hown hK hH hS 0 (by decide) dX6_add_139 (fun H locs hH hS => ?_)
                      refine lv_aload_n hx hb dX6_add_142 rfl (lv_at hl 1 rfl) ?_
                      refine fgX6_44 hx hb hts hown hK hH 0 (by decide) dX6_add_143 ?_
                      refine lv_iconst (v := 1) hx hb dX6_add_146 (by decide) ?_
                      refine lv_isub hx hb dX6_add_147 ?_
                      exact e_iret hx hb hr hlk hK hH hS dX6_add_148 (by simp only [f_X6_add, if_neg c_7_1, if_neg c_14_2, if_neg c_19_21, if_neg c_25_40, if_neg c_31_59, if_neg c_56_61, if_neg c_62_67, if_pos c_78_68, if_neg c_88_70, if_neg c_100_71]) (congrArg (Ex cs b) (by simp only [f_X6_add, if_neg c_7_1, if_neg c_14_2, if_neg c_19_21, if_neg c_25_40, if_neg c_31_59, if_neg c_56_61, if_neg c_62_67, if_pos c_78_68, if_neg c_88_70, if_neg c_100_71]))
                    ·
                      refine lv_bipush (v := (-3)) hx hb dX6_add_103 (by decide) ?_
                      exact e_iret hx hb hr hlk hK hH hS dX6_add_105 (by simp only [f_X6_add, if_neg c_7_1, if_neg c_14_2, if_neg c_19_21, if_neg c_25_40, if_neg c_31_59, if_neg c_56_61, if_neg c_62_67, if_pos c_78_68, if_neg c_88_70, if_pos c_100_71]) (congrArg (Ex cs b) (by simp only [f_X6_add, if_neg c_7_1, if_neg c_14_2, if_neg c_19_21, if_neg c_25_40, if_neg c_31_59, if_neg c_56_61, if_neg c_62_67, if_pos c_78_68, if_neg c_88_70, if_pos c_100_71]))
                  ·
                    refine lv_bipush (v := (-2)) hx hb dX6_add_91 (by decide) ?_
                    exact e_iret hx hb hr hlk hK hH hS dX6_add_93 (by simp only [f_X6_add, if_neg c_7_1, if_neg c_14_2, if_neg c_19_21, if_neg c_25_40, if_neg c_31_59, if_neg c_56_61, if_neg c_62_67, if_pos c_78_68, if_pos c_88_70]) (congrArg (Ex cs b) (by simp only [f_X6_add, if_neg c_7_1, if_neg c_14_2, if_neg c_19_21, if_neg c_25_40, if_neg c_31_59, if_neg c_56_61, if_neg c_62_67, if_pos c_78_68, if_pos c_88_70]))
              ·
                refine lv_iload_n hx hb dX6_add_65 rfl (lv_at hl 3 rfl) ?_
                refine lv_iconst (v := 0) hx hb dX6_add_66 (by decide) ?_
                refine lv_bipush (v := 39) hx hb dX6_add_67 (by decide) ?_
                refine e_ci (e_runS (As := [.int (y), .int (0), .int (39)]) (rest := []) ⟨hx, hb, hml, hown, hts⟩ (k_X6_within l D cs b σ y 0 39 ) ⟨callB_of 3 hts (gC wC_X6_within) rfl rfl rfl (hts _ wi_X6) (hts _ wM_X6_40) (by decide +kernel) (by decide), hts _ wT_X6_within⟩ hK hH rfl hl.1 rfl (Nat.le_of_ble_eq_true rfl) dX6_add_69 (by decide)) hS (fun H locs hH hS => ?_)
                refine lv_if_eq (tgt := 91) hx hb dX6_add_72 (by decide) (fun c_72_72 => ?_) (fun c_72_72 => ?_)
                ·
                  refine lv_bipush (v := (-2)) hx hb dX6_add_91 (by decide) ?_
                  exact e_iret hx hb hr hlk hK hH hS dX6_add_93 (by simp only [f_X6_add, if_neg c_7_1, if_neg c_14_2, if_neg c_19_21, if_neg c_25_40, if_neg c_31_59, if_neg c_56_61, if_pos c_62_67, if_pos c_72_72]) (congrArg (Ex cs b) (by simp only [f_X6_add, if_neg c_7_1, if_neg c_14_2, if_neg c_19_21, if_neg c_25_40, if_neg c_31_59, if_neg c_56_61, if_pos c_62_67, if_pos c_72_72]))
                ·
                  refine lv_iload_n hx hb dX6_add_75 rfl (lv_at hl 2 rfl) ?_
                  refine lv_bipush (v := 14) hx hb dX6_add_76 (by decide) ?_
                  refine lv_icmp_ne (tgt := 94) hx hb dX6_add_78 (by decide) (fun c_78_73 => ?_) (fun c_78_73 => ?_)
                  ·
                    refine lv_aload_n hx hb dX6_add_94 rfl (lv_at hl 1 rfl) ?_
                    refine fgX6_44 hx hb hts hown hK hH 0 (by decide) dX6_add_95 ?_
                    rw [show gI σ 13 0 1 = nI (lN0 σ) from hL.1]
                    refine lv_bipush (v := 40) hx hb dX6_add_98 (by decide) ?_
                    refine lv_icmp_ne (tgt := 106) hx hb dX6_add_100 (by decide) (fun c_100_74 => ?_) (fun c_100_74 => ?_)
                    ·
                      have hl40 : lN0 σ < 40 := ne40 hL (by assumption)
                      refine lv_aload_n hx hb dX6_add_106 rfl (lv_at hl 1 rfl) ?_
                      refine fgX6_7 hx hb hts hown hK hH 0 (by decide) dX6_add_107 ?_
                      refine lv_iconst (v := 2) hx hb dX6_add_110 (by decide) ?_
                      refine lv_aload_n hx hb dX6_add_111 rfl (lv_at hl 1 rfl) ?_
                      refine fgX6_44 hx hb hts hown hK hH 0 (by decide) dX6_add_112 ?_
                      rw [show gI σ 13 0 1 = nI (lN0 σ) from hL.1]
                      refine lv_imul hx hb dX6_add_115 ?_
                      refine lv_iload_n hx hb dX6_add_116 rfl (lv_at hl 2 rfl) ?_
                      refine x_iast hx hb hK hH hS 14 0 80 (by decide) (fun _ _ => rfl) (2 * (lN0 σ)) ((tagM ((rfl : (2 : Int32) = nI 2)) rfl)) (by omega) (by decide) dX6_add_117 (fun H locs hH hS => ?_)
                      refine lv_aload_n hx hb dX6_add_118 rfl (lv_at hl 1 rfl) ?_
                      refine fgX6_7 hx hb hts hown hK hH 0 (by decide) dX6_add_119 ?_
                      refine lv_iconst (v := 2) hx hb dX6_add_122 (by decide) ?_
                      refine lv_aload_n hx hb dX6_add_123 rfl (lv_at hl 1 rfl) ?_
                      refine fgX6_44 hx hb hts hown hK hH 0 (by decide) dX6_add_124 ?_
                      rw [show gI (sI σ 14 0 (2 * (lN0 σ)) x) 13 0 1 = nI (lN0 σ) from hL.1]
                      refine lv_imul hx hb dX6_add_127 ?_
                      refine lv_iconst (v := 1) hx hb dX6_add_128 (by decide) ?_
                      refine lv_iadd hx hb dX6_add_129 ?_
                      refine lv_iload_n hx hb dX6_add_130 rfl (lv_at hl 3 rfl) ?_
                      refine x_iast hx hb hK hH hS 14 0 80 (by decide) (fun _ _ => rfl) ((2 * (lN0 σ)) + 1) ((tagA ((tagM ((rfl : (2 : Int32) = nI 2)) rfl)) ((rfl : (1 : Int32) = nI 1)))) (by omega) (by decide) dX6_add_131 (fun H locs hH hS => ?_)
                      refine lv_aload_n hx hb dX6_add_132 rfl (lv_at hl 1 rfl) ?_
                      refine lv_dup hx hb dX6_add_133 rfl ?_
                      refine fgX6_44 hx hb hts hown hK hH 0 (by decide) dX6_add_134 ?_
                      rw [show gI (sI (sI σ 14 0 (2 * (lN0 σ)) x) 14 0 ((2 * (lN0 σ)) + 1) y) 13 0 1 = nI (lN0 σ) from hL.1]
                      refine lv_iconst (v := 1) hx hb dX6_add_137 (by decide) ?_
                      refine lv_iadd hx hb dX6_add_138 ?_
                      refine fpX6_44 hx hb hts hown hK hH hS 0 (by decide) dX6_add_139 (fun H locs hH hS => ?_)
                      refine lv_aload_n hx hb dX6_add_142 rfl (lv_at hl 1 rfl) ?_
                      refine fgX6_44 hx hb hts hown hK hH 0 (by decide) dX6_add_143 ?_
                      refine lv_iconst (v := 1) hx hb dX6_add_146 (by decide) ?_
                      refine lv_isub hx hb dX6_add_147 ?_
                      exact e_iret hx hb hr hlk hK hH hS dX6_add_148 (by simp only [f_X6_add, if_neg c_7_1, if_neg c_14_2, if_neg c_19_21, if_neg c_25_40, if_neg c_31_59, if_neg c_56_61, if_pos c_62_67, if_neg c_72_72, if_neg c_78_73, if_neg c_100_74]) (congrArg (Ex cs b) (by simp only [f_X6_add, if_neg c_7_1, if_neg c_14_2, if_neg c_19_21, if_neg c_25_40, if_neg c_31_59, if_neg c_56_61, if_pos c_62_67, if_neg c_72_72, if_neg c_78_73, if_neg c_100_74]))
                    ·
                      refine lv_bipush (v := (-3)) hx hb dX6_add_103 (by decide) ?_
                      exact e_iret hx hb hr hlk hK hH hS dX6_add_105 (by simp only [f_X6_add, if_neg c_7_1, if_neg c_14_2, if_neg c_19_21, if_neg c_25_40, if_neg c_31_59, if_neg c_56_61, if_pos c_62_67, if_neg c_72_72, if_neg c_78_73, if_pos c_100_74]) (congrArg (Ex cs b) (by simp only [f_X6_add, if_neg c_7_1, if_neg c_14_2, if_neg c_19_21, if_neg c_25_40, if_neg c_31_59, if_neg c_56_61, if_pos c_62_67, if_neg c_72_72, if_neg c_78_73, if_pos c_100_74]))
                  ·
                    refine lv_iload_n hx hb dX6_add_81 rfl (lv_at hl 3 rfl) ?_
                    refine lv_iconst (v := 0) hx hb dX6_add_82 (by decide) ?_
                    refine lv_bipush (v := 79) hx hb dX6_add_83 (by decide) ?_
                    refine e_ci (e_runS (As := [.int (y), .int (0), .int (79)]) (rest := []) ⟨hx, hb, hml, hown, hts⟩ (k_X6_within l D cs b σ y 0 79 ) ⟨callB_of 3 hts (gC wC_X6_within) rfl rfl rfl (hts _ wi_X6) (hts _ wM_X6_40) (by decide +kernel) (by decide), hts _ wT_X6_within⟩ hK hH rfl hl.1 rfl (Nat.le_of_ble_eq_true rfl) dX6_add_85 (by decide)) hS (fun H locs hH hS => ?_)
                    refine lv_if_ne (tgt := 94) hx hb dX6_add_88 (by decide) (fun c_88_75 => ?_) (fun c_88_75 => ?_)
                    ·
                      refine lv_aload_n hx hb dX6_add_94 rfl (lv_at hl 1 rfl) ?_
                      refine fgX6_44 hx hb hts hown hK hH 0 (by decide) dX6_add_95 ?_
                      rw [show gI σ 13 0 1 = nI (lN0 σ) from hL.1]
                      refine lv_bipush (v := 40) hx hb dX6_add_98 (by decide) ?_
                      refine lv_icmp_ne (tgt := 106) hx hb dX6_add_100 (by decide) (fun c_100_76 => ?_) (fun c_100_76 => ?_)
                      ·
                        have hl40 : lN0 σ < 40 := ne40 hL (by assumption)
                        refine lv_aload_n hx hb dX6_add_106 rfl (lv_at hl 1 rfl) ?_
                        refine fgX6_7 hx hb hts hown hK hH 0 (by decide) dX6_add_107 ?_
                        refine lv_iconst (v := 2) hx hb dX6_add_110 (by decide) ?_
                        refine lv_aload_n hx hb dX6_add_111 rfl (lv_at hl 1 rfl) ?_
                        refine fgX6_44 hx hb hts hown hK hH 0 (by decide) dX6_add_112 ?_
                        rw [show gI σ 13 0 1 = nI (lN0 σ) from hL.1]
                        refine lv_imul hx hb dX6_add_115 ?_
                        refine lv_iload_n hx hb dX6_add_116 rfl (lv_at hl 2 rfl) ?_
                        refine x_iast hx hb hK hH hS 14 0 80 (by decide) (fun _ _ => rfl) (2 * (lN0 σ)) ((tagM ((rfl : (2 : Int32) = nI 2)) rfl)) (by omega) (by decide) dX6_add_117 (fun H locs hH hS => ?_)
                        refine lv_aload_n hx hb dX6_add_118 rfl (lv_at hl 1 rfl) ?_
                        refine fgX6_7 hx hb hts hown hK hH 0 (by decide) dX6_add_119 ?_
                        refine lv_iconst (v := 2) hx hb dX6_add_122 (by decide) ?_
                        refine lv_aload_n hx hb dX6_add_123 rfl (lv_at hl 1 rfl) ?_
                        refine fgX6_44 hx hb hts hown hK hH 0 (by decide) dX6_add_124 ?_
                        rw [show gI (sI σ 14 0 (2 * (lN0 σ)) x) 13 0 1 = nI (lN0 σ) from hL.1]
                        refine lv_imul hx hb dX6_add_127 ?_
                        refine lv_iconst (v := 1) hx hb dX6_add_128 (by decide) ?_
                        refine lv_iadd hx hb dX6_add_129 ?_
                        refine lv_iload_n hx hb dX6_add_130 rfl (lv_at hl 3 rfl) ?_
                        refine x_iast hx hb hK hH hS 14 0 80 (by decide) (fun _ _ => rfl) ((2 * (lN0 σ)) + 1) ((tagA ((tagM ((rfl : (2 : Int32) = nI 2)) rfl)) ((rfl : (1 : Int32) = nI 1)))) (by omega) (by decide) dX6_add_131 (fun H locs hH hS => ?_)
                        refine lv_aload_n hx hb dX6_add_132 rfl (lv_at hl 1 rfl) ?_
                        refine lv_dup hx hb dX6_add_133 rfl ?_
                        refine fgX6_44 hx hb hts hown hK hH 0 (by decide) dX6_add_134 ?_
                        rw [show gI (sI (sI σ 14 0 (2 * (lN0 σ)) x) 14 0 ((2 * (lN0 σ)) + 1) y) 13 0 1 = nI (lN0 σ) from hL.1]
                        refine lv_iconst (v := 1) hx hb dX6_add_137 (by decide) ?_
                        refine lv_iadd hx hb dX6_add_138 ?_
                        refine fpX6_44 hx hb hts hown hK hH hS 0 (by decide) dX6_add_139 (fun H locs hH hS => ?_)
                        refine lv_aload_n hx hb dX6_add_142 rfl (lv_at hl 1 rfl) ?_
                        refine fgX6_44 hx hb hts hown hK hH 0 (by decide) dX6_add_143 ?_
                        refine lv_iconst (v := 1) hx hb dX6_add_146 (by decide) ?_
                        refine lv_isub hx hb dX6_add_147 ?_
                        exact e_iret hx hb hr hlk hK hH hS dX6_add_148 (by simp only [f_X6_add, if_neg c_7_1, if_neg c_14_2, if_neg c_19_21, if_neg c_25_40, if_neg c_31_59, if_neg c_56_61, if_pos c_62_67, if_neg c_72_72, if_pos c_78_73, if_neg c_88_75, if_neg c_100_76]) (congrArg (Ex cs b) (by simp only [f_X6_add, if_neg c_7_1, if_neg c_14_2, if_neg c_19_21, if_neg c_25_40, if_neg c_31_59, if_neg c_56_61, if_pos c_62_67, if_neg c_72_72, if_pos c_78_73, if_neg c_88_75, if_neg c_100_76]))
                      ·
                        refine lv_bipush (v := (-3)) hx hb dX6_add_103 (by decide) ?_
                        exact e_iret hx hb hr hlk hK hH hS dX6_add_105 (by simp only [f_X6_add, if_neg c_7_1, if_neg c_14_2, if_neg c_19_21, if_neg c_25_40, if_neg c_31_59, if_neg c_56_61, if_pos c_62_67, if_neg c_72_72, if_pos c_78_73, if_neg c_88_75, if_pos c_100_76]) (congrArg (Ex cs b) (by simp only [f_X6_add, if_neg c_7_1, if_neg c_14_2, if_neg c_19_21, if_neg c_25_40, if_neg c_31_59, if_neg c_56_61, if_pos c_62_67, if_neg c_72_72, if_pos c_78_73, if_neg c_88_75, if_pos c_100_76]))
                    ·
                      refine lv_bipush (v := (-2)) hx hb dX6_add_91 (by decide) ?_
                      exact e_iret hx hb hr hlk hK hH hS dX6_add_93 (by simp only [f_X6_add, if_neg c_7_1, if_neg c_14_2, if_neg c_19_21, if_neg c_25_40, if_neg c_31_59, if_neg c_56_61, if_pos c_62_67, if_neg c_72_72, if_pos c_78_73, if_pos c_88_75]) (congrArg (Ex cs b) (by simp only [f_X6_add, if_neg c_7_1, if_neg c_14_2, if_neg c_19_21, if_neg c_25_40, if_neg c_31_59, if_neg c_56_61, if_pos c_62_67, if_neg c_72_72, if_pos c_78_73, if_pos c_88_75]))
          ·
            refine lv_iconst (v := 1) hx hb dX6_add_34 (by decide) ?_
            refine lv_goto (tgt := 39) hx hb dX6_add_35 (by decide) ?_
            refine lv_istore_n (lv' := [(3, .int (1)), (0, .ref (b + xo 13 0)), (1, .int (x)), (2, .int (y))]) hx hb dX6_add_39 rfl hl (by decide) rfl (fun ls hl => ?_)
            refine lv_iload_n hx hb dX6_add_40 rfl (lv_at hl 0 rfl) ?_
            refine lv_if_eq (tgt := 53) hx hb dX6_add_41 (by decide) (fun c_41_77 => ?_) (fun c_41_77 => ?_)
            ·
              exact absurd c_41_77 (by decide)
            refine lv_iload_n hx hb dX6_add_44 rfl (lv_at hl 3 rfl) ?_
            refine lv_iconst (v := 0) hx hb dX6_add_45 (by decide) ?_
            refine lv_iconst (v := 3) hx hb dX6_add_46 (by decide) ?_
            refine e_ci (e_runS (As := [.int (y), .int (0), .int (3)]) (rest := []) ⟨hx, hb, hml, hown, hts⟩ (k_X6_within l D cs b σ y 0 3 ) ⟨callB_of 3 hts (gC wC_X6_within) rfl rfl rfl (hts _ wi_X6) (hts _ wM_X6_40) (by decide +kernel) (by decide), hts _ wT_X6_within⟩ hK hH rfl hl.1 rfl (Nat.le_of_ble_eq_true rfl) dX6_add_47 (by decide)) hS (fun H locs hH hS => ?_)
            refine lv_if_eq (tgt := 91) hx hb dX6_add_50 (by decide) (fun c_50_78 => ?_) (fun c_50_78 => ?_)
            ·
              refine lv_bipush (v := (-2)) hx hb dX6_add_91 (by decide) ?_
              exact e_iret hx hb hr hlk hK hH hS dX6_add_93 (by simp only [f_X6_add, if_neg c_7_1, if_neg c_14_2, if_neg c_19_21, if_neg c_25_40, if_pos c_31_59, if_pos c_50_78]) (congrArg (Ex cs b) (by simp only [f_X6_add, if_neg c_7_1, if_neg c_14_2, if_neg c_19_21, if_neg c_25_40, if_pos c_31_59, if_pos c_50_78]))
            ·
              refine lv_iload_n hx hb dX6_add_53 rfl (lv_at hl 2 rfl) ?_
              refine lv_bipush (v := 8) hx hb dX6_add_54 (by decide) ?_
              refine lv_icmp_eq (tgt := 65) hx hb dX6_add_56 (by decide) (fun c_56_79 => ?_) (fun c_56_79 => ?_)
              ·
                refine lv_iload_n hx hb dX6_add_65 rfl (lv_at hl 3 rfl) ?_
                refine lv_iconst (v := 0) hx hb dX6_add_66 (by decide) ?_
                refine lv_bipush (v := 39) hx hb dX6_add_67 (by decide) ?_
                refine e_ci (e_runS (As := [.int (y), .int (0), .int (39)]) (rest := []) ⟨hx, hb, hml, hown, hts⟩ (k_X6_within l D cs b σ y 0 39 ) ⟨callB_of 3 hts (gC wC_X6_within) rfl rfl rfl (hts _ wi_X6) (hts _ wM_X6_40) (by decide +kernel) (by decide), hts _ wT_X6_within⟩ hK hH rfl hl.1 rfl (Nat.le_of_ble_eq_true rfl) dX6_add_69 (by decide)) hS (fun H locs hH hS => ?_)
                refine lv_if_eq (tgt := 91) hx hb dX6_add_72 (by decide) (fun c_72_80 => ?_) (fun c_72_80 => ?_)
                ·
                  refine lv_bipush (v := (-2)) hx hb dX6_add_91 (by decide) ?_
                  exact e_iret hx hb hr hlk hK hH hS dX6_add_93 (by simp only [f_X6_add, if_neg c_7_1, if_neg c_14_2, if_neg c_19_21, if_neg c_25_40, if_pos c_31_59, if_neg c_50_78, if_pos c_56_79, if_pos c_72_80]) (congrArg (Ex cs b) (by simp only [f_X6_add, if_neg c_7_1, if_neg c_14_2, if_neg c_19_21, if_neg c_25_40, if_pos c_31_59, if_neg c_50_78, if_pos c_56_79, if_pos c_72_80]))
                ·
                  refine lv_iload_n hx hb dX6_add_75 rfl (lv_at hl 2 rfl) ?_
                  refine lv_bipush (v := 14) hx hb dX6_add_76 (by decide) ?_
                  refine lv_icmp_ne (tgt := 94) hx hb dX6_add_78 (by decide) (fun c_78_81 => ?_) (fun c_78_81 => ?_)
                  ·
                    refine lv_aload_n hx hb dX6_add_94 rfl (lv_at hl 1 rfl) ?_
                    refine fgX6_44 hx hb hts hown hK hH 0 (by decide) dX6_add_95 ?_
                    rw [show gI σ 13 0 1 = nI (lN0 σ) from hL.1]
                    refine lv_bipush (v := 40) hx hb dX6_add_98 (by decide) ?_
                    refine lv_icmp_ne (tgt := 106) hx hb dX6_add_100 (by decide) (fun c_100_82 => ?_) (fun c_100_82 => ?_)
                    ·
                      have hl40 : lN0 σ < 40 := ne40 hL (by assumption)
                      refine lv_aload_n hx hb dX6_add_106 rfl (lv_at hl 1 rfl) ?_
                      refine fgX6_7 hx hb hts hown hK hH 0 (by decide) dX6_add_107 ?_
                      refine lv_iconst (v := 2) hx hb dX6_add_110 (by decide) ?_
                      refine lv_aload_n hx hb dX6_add_111 rfl (lv_at hl 1 rfl) ?_
                      refine fgX6_44 hx hb hts hown hK hH 0 (by decide) dX6_add_112 ?_
                      rw [show gI σ 13 0 1 = nI (lN0 σ) from hL.1]
                      refine lv_imul hx hb dX6_add_115 ?_
                      refine lv_iload_n hx hb dX6_add_116 rfl (lv_at hl 2 rfl) ?_
                      refine x_iast hx hb hK hH hS 14 0 80 (by decide) (fun _ _ => rfl) (2 * (lN0 σ)) ((tagM ((rfl : (2 : Int32) = nI 2)) rfl)) (by omega) (by decide) dX6_add_117 (fun H locs hH hS => ?_)
                      refine lv_aload_n hx hb dX6_add_118 rfl (lv_at hl 1 rfl) ?_
                      refine fgX6_7 hx hb hts hown hK hH 0 (by decide) dX6_add_119 ?_
                      refine lv_iconst (v := 2) hx hb dX6_add_122 (by decide) ?_
                      refine lv_aload_n hx hb dX6_add_123 rfl (lv_at hl 1 rfl) ?_
                      refine fgX6_44 hx hb hts hown hK hH 0 (by decide) dX6_add_124 ?_
                      rw [show gI (sI σ 14 0 (2 * (lN0 σ)) x) 13 0 1 = nI (lN0 σ) from hL.1]
                      refine lv_imul hx hb dX6_add_127 ?_
                      refine lv_iconst (v := 1) hx hb dX6_add_128 (by decide) ?_
                      refine lv_iadd hx hb dX6_add_129 ?_
                      refine lv_iload_n hx hb dX6_add_130 rfl (lv_at hl 3 rfl) ?_
                      refine x_iast hx hb hK hH hS 14 0 80 (by decide) (fun _ _ => rfl) ((2 * (lN0 σ)) + 1) ((tagA ((tagM ((rfl : (2 : Int32) = nI 2)) rfl)) ((rfl : (1 : Int32) = nI 1)))) (by omega) (by decide) dX6_add_131 (fun H locs hH hS => ?_)
                      refine lv_aload_n hx hb dX6_add_132 rfl (lv_at hl 1 rfl) ?_
                      refine lv_dup hx hb dX6_add_133 rfl ?_
                      refine fgX6_44 hx hb hts hown hK hH 0 (by decide) dX6_add_134 ?_
                      rw [show gI (sI (sI σ 14 0 (2 * (lN0 σ)) x) 14 0 ((2 * (lN0 σ)) + 1) y) 13 0 1 = nI (lN0 σ) from hL.1]
                      refine lv_iconst (v := 1) hx hb dX6_add_137 (by decide) ?_
                      refine lv_iadd hx hb dX6_add_138 ?_
                      refine fpX6_44 hx hb hts hown hK hH hS 0 (by decide) dX6_add_139 (fun H locs hH hS => ?_)
                      refine lv_aload_n hx hb dX6_add_142 rfl (lv_at hl 1 rfl) ?_
                      refine fgX6_44 hx hb hts hown hK hH 0 (by decide) dX6_add_143 ?_
                      refine lv_iconst (v := 1) hx hb dX6_add_146 (by decide) ?_
                      refine lv_isub hx hb dX6_add_147 ?_
                      exact e_iret hx hb hr hlk hK hH hS dX6_add_148 (by simp only [f_X6_add, if_neg c_7_1, if_neg c_14_2, if_neg c_19_21, if_neg c_25_40, if_pos c_31_59, if_neg c_50_78, if_pos c_56_79, if_neg c_72_80, if_neg c_78_81, if_neg c_100_82]) (congrArg (Ex cs b) (by simp only [f_X6_add, if_neg c_7_1, if_neg c_14_2, if_neg c_19_21, if_neg c_25_40, if_pos c_31_59, if_neg c_50_78, if_pos c_56_79, if_neg c_72_80, if_neg c_78_81, if_neg c_100_82]))
                    ·
                      refine lv_bipush (v := (-3)) hx hb dX6_add_103 (by decide) ?_
                      exact e_iret hx hb hr hlk hK hH hS dX6_add_105 (by simp only [f_X6_add, if_neg c_7_1, if_neg c_14_2, if_neg c_19_21, if_neg c_25_40, if_pos c_31_59, if_neg c_50_78, if_pos c_56_79, if_neg c_72_80, if_neg c_78_81, if_pos c_100_82]) (congrArg (Ex cs b) (by simp only [f_X6_add, if_neg c_7_1, if_neg c_14_2, if_neg c_19_21, if_neg c_25_40, if_pos c_31_59, if_neg c_50_78, if_pos c_56_79, if_neg c_72_80, if_neg c_78_81, if_pos c_100_82]))
                  ·
                    refine lv_iload_n hx hb dX6_add_81 rfl (lv_at hl 3 rfl) ?_
                    refine lv_iconst (v := 0) hx hb dX6_add_82 (by decide) ?_
                    refine lv_bipush (v := 79) hx hb dX6_add_83 (by decide) ?_
                    refine e_ci (e_runS (As := [.int (y), .int (0), .int (79)]) (rest := []) ⟨hx, hb, hml, hown, hts⟩ (k_X6_within l D cs b σ y 0 79 ) ⟨callB_of 3 hts (gC wC_X6_within) rfl rfl rfl (hts _ wi_X6) (hts _ wM_X6_40) (by decide +kernel) (by decide), hts _ wT_X6_within⟩ hK hH rfl hl.1 rfl (Nat.le_of_ble_eq_true rfl) dX6_add_85 (by decide)) hS (fun H locs hH hS => ?_)
                    refine lv_if_ne (tgt := 94) hx hb dX6_add_88 (by decide) (fun c_88_83 => ?_) (fun c_88_83 => ?_)
                    ·
                      refine lv_aload_n hx hb dX6_add_94 rfl (lv_at hl 1 rfl) ?_
                      refine fgX6_44 hx hb hts hown hK hH 0 (by decide) dX6_add_95 ?_
                      rw [show gI σ 13 0 1 = nI (lN0 σ) from hL.1]
                      refine lv_bipush (v := 40) hx hb dX6_add_98 (by decide) ?_
                      refine lv_icmp_ne (tgt := 106) hx hb dX6_add_100 (by decide) (fun c_100_84 => ?_) (fun c_100_84 => ?_)
                      ·
                        have hl40 : lN0 σ < 40 := ne40 hL (by assumption)
                        refine lv_aload_n hx hb dX6_add_106 rfl (lv_at hl 1 rfl) ?_
                        refine fgX6_7 hx hb hts hown hK hH 0 (by decide) dX6_add_107 ?_
                        refine lv_iconst (v := 2) hx hb dX6_add_110 (by decide) ?_
                        refine lv_aload_n hx hb dX6_add_111 rfl (lv_at hl 1 rfl) ?_
                        refine fgX6_44 hx hb hts hown hK hH 0 (by decide) dX6_add_112 ?_
                        rw [show gI σ 13 0 1 = nI (lN0 σ) from hL.1]
                        refine lv_imul hx hb dX6_add_115 ?_
                        refine lv_iload_n hx hb dX6_add_116 rfl (lv_at hl 2 rfl) ?_
                        refine x_iast hx hb hK hH hS 14 0 80 (by decide) (fun _ _ => rfl) (2 * (lN0 σ)) ((tagM ((rfl : (2 : Int32) = nI 2)) rfl)) (by omega) (by decide) dX6_add_117 (fun H locs hH hS => ?_)
                        refine lv_aload_n hx hb dX6_add_118 rfl (lv_at hl 1 rfl) ?_
                        refine fgX6_7 hx hb hts hown hK hH 0 (by decide) dX6_add_119 ?_
                        refine lv_iconst (v := 2) hx hb dX6_add_122 (by decide) ?_
                        refine lv_aload_n hx hb dX6_add_123 rfl (lv_at hl 1 rfl) ?_
                        refine fgX6_44 hx hb hts hown hK hH 0 (by decide) dX6_add_124 ?_
                        rw [show gI (sI σ 14 0 (2 * (lN0 σ)) x) 13 0 1 = nI (lN0 σ) from hL.1]
                        refine lv_imul hx hb dX6_add_127 ?_
                        refine lv_iconst (v := 1) hx hb dX6_add_128 (by decide) ?_
                        refine lv_iadd hx hb dX6_add_129 ?_
                        refine lv_iload_n hx hb dX6_add_130 rfl (lv_at hl 3 rfl) ?_
                        refine x_iast hx hb hK hH hS 14 0 80 (by decide) (fun _ _ => rfl) ((2 * (lN0 σ)) + 1) ((tagA ((tagM ((rfl : (2 : Int32) = nI 2)) rfl)) ((rfl : (1 : Int32) = nI 1)))) (by omega) (by decide) dX6_add_131 (fun H locs hH hS => ?_)
                        refine lv_aload_n hx hb dX6_add_132 rfl (lv_at hl 1 rfl) ?_
                        refine lv_dup hx hb dX6_add_133 rfl ?_
                        refine fgX6_44 hx hb hts hown hK hH 0 (by decide) dX6_add_134 ?_
                        rw [show gI (sI (sI σ 14 0 (2 * (lN0 σ)) x) 14 0 ((2 * (lN0 σ)) + 1) y) 13 0 1 = nI (lN0 σ) from hL.1]
                        refine lv_iconst (v := 1) hx hb dX6_add_137 (by decide) ?_
                        refine lv_iadd hx hb dX6_add_138 ?_
                        refine fpX6_44 hx hb hts hown hK hH hS 0 (by decide) dX6_add_139 (fun H locs hH hS => ?_)
                        refine lv_aload_n hx hb dX6_add_142 rfl (lv_at hl 1 rfl) ?_
                        refine fgX6_44 hx hb hts hown hK hH 0 (by decide) dX6_add_143 ?_
                        refine lv_iconst (v := 1) hx hb dX6_add_146 (by decide) ?_
                        refine lv_isub hx hb dX6_add_147 ?_
                        exact e_iret hx hb hr hlk hK hH hS dX6_add_148 (by simp only [f_X6_add, if_neg c_7_1, if_neg c_14_2, if_neg c_19_21, if_neg c_25_40, if_pos c_31_59, if_neg c_50_78, if_pos c_56_79, if_neg c_72_80, if_pos c_78_81, if_neg c_88_83, if_neg c_100_84]) (congrArg (Ex cs b) (by simp only [f_X6_add, if_neg c_7_1, if_neg c_14_2, if_neg c_19_21, if_neg c_25_40, if_pos c_31_59, if_neg c_50_78, if_pos c_56_79, if_neg c_72_80, if_pos c_78_81, if_neg c_88_83, if_neg c_100_84]))
                      ·
                        refine lv_bipush (v := (-3)) hx hb dX6_add_103 (by decide) ?_
                        exact e_iret hx hb hr hlk hK hH hS dX6_add_105 (by simp only [f_X6_add, if_neg c_7_1, if_neg c_14_2, if_neg c_19_21, if_neg c_25_40, if_pos c_31_59, if_neg c_50_78, if_pos c_56_79, if_neg c_72_80, if_pos c_78_81, if_neg c_88_83, if_pos c_100_84]) (congrArg (Ex cs b) (by simp only [f_X6_add, if_neg c_7_1, if_neg c_14_2, if_neg c_19_21, if_neg c_25_40, if_pos c_31_59, if_neg c_50_78, if_pos c_56_79, if_neg c_72_80, if_pos c_78_81, if_neg c_88_83, if_pos c_100_84]))
                    ·
                      refine lv_bipush (v := (-2)) hx hb dX6_add_91 (by decide) ?_
                      exact e_iret hx hb hr hlk hK hH hS dX6_add_93 (by simp only [f_X6_add, if_neg c_7_1, if_neg c_14_2, if_neg c_19_21, if_neg c_25_40, if_pos c_31_59, if_neg c_50_78, if_pos c_56_79, if_neg c_72_80, if_pos c_78_81, if_pos c_88_83]) (congrArg (Ex cs b) (by simp only [f_X6_add, if_neg c_7_1, if_neg c_14_2, if_neg c_19_21, if_neg c_25_40, if_pos c_31_59, if_neg c_50_78, if_pos c_56_79, if_neg c_72_80, if_pos c_78_81, if_pos c_88_83]))
              ·
                refine lv_iload_n hx hb dX6_add_59 rfl (lv_at hl 2 rfl) ?_
                refine lv_bipush (v := 9) hx hb dX6_add_60 (by decide) ?_
                refine lv_icmp_ne (tgt := 75) hx hb dX6_add_62 (by decide) (fun c_62_85 => ?_) (fun c_62_85 => ?_)
                ·
                  refine lv_iload_n hx hb dX6_add_75 rfl (lv_at hl 2 rfl) ?_
                  refine lv_bipush (v := 14) hx hb dX6_add_76 (by decide) ?_
                  refine lv_icmp_ne (tgt := 94) hx hb dX6_add_78 (by decide) (fun c_78_86 => ?_) (fun c_78_86 => ?_)
                  ·
                    refine lv_aload_n hx hb dX6_add_94 rfl (lv_at hl 1 rfl) ?_
                    refine fgX6_44 hx hb hts hown hK hH 0 (by decide) dX6_add_95 ?_
                    rw [show gI σ 13 0 1 = nI (lN0 σ) from hL.1]
                    refine lv_bipush (v := 40) hx hb dX6_add_98 (by decide) ?_
                    refine lv_icmp_ne (tgt := 106) hx hb dX6_add_100 (by decide) (fun c_100_87 => ?_) (fun c_100_87 => ?_)
                    ·
                      have hl40 : lN0 σ < 40 := ne40 hL (by assumption)
                      refine lv_aload_n hx hb dX6_add_106 rfl (lv_at hl 1 rfl) ?_
                      refine fgX6_7 hx hb hts hown hK hH 0 (by decide) dX6_add_107 ?_
                      refine lv_iconst (v := 2) hx hb dX6_add_110 (by decide) ?_
                      refine lv_aload_n hx hb dX6_add_111 rfl (lv_at hl 1 rfl) ?_
                      refine fgX6_44 hx hb hts hown hK hH 0 (by decide) dX6_add_112 ?_
                      rw [show gI σ 13 0 1 = nI (lN0 σ) from hL.1]
                      refine lv_imul hx hb dX6_add_115 ?_
                      refine lv_iload_n hx hb dX6_add_116 rfl (lv_at hl 2 rfl) ?_
                      refine x_iast hx hb hK hH hS 14 0 80 (by decide) (fun _ _ => rfl) (2 * (lN0 σ)) ((tagM ((rfl : (2 : Int32) = nI 2)) rfl)) (by omega) (by decide) dX6_add_117 (fun H locs hH hS => ?_)
                      refine lv_aload_n hx hb dX6_add_118 rfl (lv_at hl 1 rfl) ?_
                      refine fgX6_7 hx hb hts hown hK hH 0 (by decide) dX6_add_119 ?_
                      refine lv_iconst (v := 2) hx hb dX6_add_122 (by decide) ?_
                      refine lv_aload_n hx hb dX6_add_123 rfl (lv_at hl 1 rfl) ?_
                      refine fgX6_44 hx hb hts hown hK hH 0 (by decide) dX6_add_124 ?_
                      rw [show gI (sI σ 14 0 (2 * (lN0 σ)) x) 13 0 1 = nI (lN0 σ) from hL.1]
                      refine lv_imul hx hb dX6_add_127 ?_
                      refine lv_iconst (v := 1) hx hb dX6_add_128 (by decide) ?_
                      refine lv_iadd hx hb dX6_add_129 ?_
                      refine lv_iload_n hx hb dX6_add_130 rfl (lv_at hl 3 rfl) ?_
                      refine x_iast hx hb hK hH hS 14 0 80 (by decide) (fun _ _ => rfl) ((2 * (lN0 σ)) + 1) ((tagA ((tagM ((rfl : (2 : Int32) = nI 2)) rfl)) ((rfl : (1 : Int32) = nI 1)))) (by omega) (by decide) dX6_add_131 (fun H locs hH hS => ?_)
                      refine lv_aload_n hx hb dX6_add_132 rfl (lv_at hl 1 rfl) ?_
                      refine lv_dup hx hb dX6_add_133 rfl ?_
                      refine fgX6_44 hx hb hts hown hK hH 0 (by decide) dX6_add_134 ?_
                      rw [show gI (sI (sI σ 14 0 (2 * (lN0 σ)) x) 14 0 ((2 * (lN0 σ)) + 1) y) 13 0 1 = nI (lN0 σ) from hL.1]
                      refine lv_iconst (v := 1) hx hb dX6_add_137 (by decide) ?_
                      refine lv_iadd hx hb dX6_add_138 ?_
                      refine fpX6_44 hx hb hts hown hK hH hS 0 (by decide) dX6_add_139 (fun H locs hH hS => ?_)
                      refine lv_aload_n hx hb dX6_add_142 rfl (lv_at hl 1 rfl) ?_
                      refine fgX6_44 hx hb hts hown hK hH 0 (by decide) dX6_add_143 ?_
                      refine lv_iconst (v := 1) hx hb dX6_add_146 (by decide) ?_
                      refine lv_isub hx hb dX6_add_147 ?_
                      exact e_iret hx hb hr hlk hK hH hS dX6_add_148 (by simp only [f_X6_add, if_neg c_7_1, if_neg c_14_2, if_neg c_19_21, if_neg c_25_40, if_pos c_31_59, if_neg c_50_78, if_neg c_56_79, if_neg c_62_85, if_neg c_78_86, if_neg c_100_87]) (congrArg (Ex cs b) (by simp only [f_X6_add, if_neg c_7_1, if_neg c_14_2, if_neg c_19_21, if_neg c_25_40, if_pos c_31_59, if_neg c_50_78, if_neg c_56_79, if_neg c_62_85, if_neg c_78_86, if_neg c_100_87]))
                    ·
                      refine lv_bipush (v := (-3)) hx hb dX6_add_103 (by decide) ?_
                      exact e_iret hx hb hr hlk hK hH hS dX6_add_105 (by simp only [f_X6_add, if_neg c_7_1, if_neg c_14_2, if_neg c_19_21, if_neg c_25_40, if_pos c_31_59, if_neg c_50_78, if_neg c_56_79, if_neg c_62_85, if_neg c_78_86, if_pos c_100_87]) (congrArg (Ex cs b) (by simp only [f_X6_add, if_neg c_7_1, if_neg c_14_2, if_neg c_19_21, if_neg c_25_40, if_pos c_31_59, if_neg c_50_78, if_neg c_56_79, if_neg c_62_85, if_neg c_78_86, if_pos c_100_87]))
                  ·
                    refine lv_iload_n hx hb dX6_add_81 rfl (lv_at hl 3 rfl) ?_
                    refine lv_iconst (v := 0) hx hb dX6_add_82 (by decide) ?_
                    refine lv_bipush (v := 79) hx hb dX6_add_83 (by decide) ?_
                    refine e_ci (e_runS (As := [.int (y), .int (0), .int (79)]) (rest := []) ⟨hx, hb, hml, hown, hts⟩ (k_X6_within l D cs b σ y 0 79 ) ⟨callB_of 3 hts (gC wC_X6_within) rfl rfl rfl (hts _ wi_X6) (hts _ wM_X6_40) (by decide +kernel) (by decide), hts _ wT_X6_within⟩ hK hH rfl hl.1 rfl (Nat.le_of_ble_eq_true rfl) dX6_add_85 (by decide)) hS (fun H locs hH hS => ?_)
                    refine lv_if_ne (tgt := 94) hx hb dX6_add_88 (by decide) (fun c_88_88 => ?_) (fun c_88_88 => ?_)
                    ·
                      refine lv_aload_n hx hb dX6_add_94 rfl (lv_at hl 1 rfl) ?_
                      refine fgX6_44 hx hb hts hown hK hH 0 (by decide) dX6_add_95 ?_
                      rw [show gI σ 13 0 1 = nI (lN0 σ) from hL.1]
                      refine lv_bipush (v := 40) hx hb dX6_add_98 (by decide) ?_
                      refine lv_icmp_ne (tgt := 106) hx hb dX6_add_100 (by decide) (fun c_100_89 => ?_) (fun c_100_89 => ?_)
                      ·
                        have hl40 : lN0 σ < 40 := ne40 hL (by assumption)
                        refine lv_aload_n hx hb dX6_add_106 rfl (lv_at hl 1 rfl) ?_
                        refine fgX6_7 hx hb hts hown hK hH 0 (by decide) dX6_add_107 ?_
                        refine lv_iconst (v := 2) hx hb dX6_add_110 (by decide) ?_
                        refine lv_aload_n hx hb dX6_add_111 rfl (lv_at hl 1 rfl) ?_
                        refine fgX6_44 hx hb hts hown hK hH 0 (by decide) dX6_add_112 ?_
                        rw [show gI σ 13 0 1 = nI (lN0 σ) from hL.1]
                        refine lv_imul hx hb dX6_add_115 ?_
                        refine lv_iload_n hx hb dX6_add_116 rfl (lv_at hl 2 rfl) ?_
                        refine x_iast hx hb hK hH hS 14 0 80 (by decide) (fun _ _ => rfl) (2 * (lN0 σ)) ((tagM ((rfl : (2 : Int32) = nI 2)) rfl)) (by omega) (by decide) dX6_add_117 (fun H locs hH hS => ?_)
                        refine lv_aload_n hx hb dX6_add_118 rfl (lv_at hl 1 rfl) ?_
                        refine fgX6_7 hx hb hts hown hK hH 0 (by decide) dX6_add_119 ?_
                        refine lv_iconst (v := 2) hx hb dX6_add_122 (by decide) ?_
                        refine lv_aload_n hx hb dX6_add_123 rfl (lv_at hl 1 rfl) ?_
                        refine fgX6_44 hx hb hts hown hK hH 0 (by decide) dX6_add_124 ?_
                        rw [show gI (sI σ 14 0 (2 * (lN0 σ)) x) 13 0 1 = nI (lN0 σ) from hL.1]
                        refine lv_imul hx hb dX6_add_127 ?_
                        refine lv_iconst (v := 1) hx hb dX6_add_128 (by decide) ?_
                        refine lv_iadd hx hb dX6_add_129 ?_
                        refine lv_iload_n hx hb dX6_add_130 rfl (lv_at hl 3 rfl) ?_
                        refine x_iast hx hb hK hH hS 14 0 80 (by decide) (fun _ _ => rfl) ((2 * (lN0 σ)) + 1) ((tagA ((tagM ((rfl : (2 : Int32) = nI 2)) rfl)) ((rfl : (1 : Int32) = nI 1)))) (by omega) (by decide) dX6_add_131 (fun H locs hH hS => ?_)
                        refine lv_aload_n hx hb dX6_add_132 rfl (lv_at hl 1 rfl) ?_
                        refine lv_dup hx hb dX6_add_133 rfl ?_
                        refine fgX6_44 hx hb hts hown hK hH 0 (by decide) dX6_add_134 ?_
                        rw [show gI (sI (sI σ 14 0 (2 * (lN0 σ)) x) 14 0 ((2 * (lN0 σ)) + 1) y) 13 0 1 = nI (lN0 σ) from hL.1]
                        refine lv_iconst (v := 1) hx hb dX6_add_137 (by decide) ?_
                        refine lv_iadd hx hb dX6_add_138 ?_
                        refine fpX6_44 hx hb hts hown hK hH hS 0 (by decide) dX6_add_139 (fun H locs hH hS => ?_)
                        refine lv_aload_n hx hb dX6_add_142 rfl (lv_at hl 1 rfl) ?_
                        refine fgX6_44 hx hb hts hown hK hH 0 (by decide) dX6_add_143 ?_
                        refine lv_iconst (v := 1) hx hb dX6_add_146 (by decide) ?_
                        refine lv_isub hx hb dX6_add_147 ?_
                        exact e_iret hx hb hr hlk hK hH hS dX6_add_148 (by simp only [f_X6_add, if_neg c_7_1, if_neg c_14_2, if_neg c_19_21, if_neg c_25_40, if_pos c_31_59, if_neg c_50_78, if_neg c_56_79, if_neg c_62_85, if_pos c_78_86, if_neg c_88_88, if_neg c_100_89]) (congrArg (Ex cs b) (by simp only [f_X6_add, if_neg c_7_1, if_neg c_14_2, if_neg c_19_21, if_neg c_25_40, if_pos c_31_59, if_neg c_50_78, if_neg c_56_79, if_neg c_62_85, if_pos c_78_86, if_neg c_88_88, if_neg c_100_89]))
                      ·
                        refine lv_bipush (v := (-3)) hx hb dX6_add_103 (by decide) ?_
                        exact e_iret hx hb hr hlk hK hH hS dX6_add_105 (by simp only [f_X6_add, if_neg c_7_1, if_neg c_14_2, if_neg c_19_21, if_neg c_25_40, if_pos c_31_59, if_neg c_50_78, if_neg c_56_79, if_neg c_62_85, if_pos c_78_86, if_neg c_88_88, if_pos c_100_89]) (congrArg (Ex cs b) (by simp only [f_X6_add, if_neg c_7_1, if_neg c_14_2, if_neg c_19_21, if_neg c_25_40, if_pos c_31_59, if_neg c_50_78, if_neg c_56_79, if_neg c_62_85, if_pos c_78_86, if_neg c_88_88, if_pos c_100_89]))
                    ·
                      refine lv_bipush (v := (-2)) hx hb dX6_add_91 (by decide) ?_
                      exact e_iret hx hb hr hlk hK hH hS dX6_add_93 (by simp only [f_X6_add, if_neg c_7_1, if_neg c_14_2, if_neg c_19_21, if_neg c_25_40, if_pos c_31_59, if_neg c_50_78, if_neg c_56_79, if_neg c_62_85, if_pos c_78_86, if_pos c_88_88]) (congrArg (Ex cs b) (by simp only [f_X6_add, if_neg c_7_1, if_neg c_14_2, if_neg c_19_21, if_neg c_25_40, if_pos c_31_59, if_neg c_50_78, if_neg c_56_79, if_neg c_62_85, if_pos c_78_86, if_pos c_88_88]))
                ·
                  refine lv_iload_n hx hb dX6_add_65 rfl (lv_at hl 3 rfl) ?_
                  refine lv_iconst (v := 0) hx hb dX6_add_66 (by decide) ?_
                  refine lv_bipush (v := 39) hx hb dX6_add_67 (by decide) ?_
                  refine e_ci (e_runS (As := [.int (y), .int (0), .int (39)]) (rest := []) ⟨hx, hb, hml, hown, hts⟩ (k_X6_within l D cs b σ y 0 39 ) ⟨callB_of 3 hts (gC wC_X6_within) rfl rfl rfl (hts _ wi_X6) (hts _ wM_X6_40) (by decide +kernel) (by decide), hts _ wT_X6_within⟩ hK hH rfl hl.1 rfl (Nat.le_of_ble_eq_true rfl) dX6_add_69 (by decide)) hS (fun H locs hH hS => ?_)
                  refine lv_if_eq (tgt := 91) hx hb dX6_add_72 (by decide) (fun c_72_90 => ?_) (fun c_72_90 => ?_)
                  ·
                    refine lv_bipush (v := (-2)) hx hb dX6_add_91 (by decide) ?_
                    exact e_iret hx hb hr hlk hK hH hS dX6_add_93 (by simp only [f_X6_add, if_neg c_7_1, if_neg c_14_2, if_neg c_19_21, if_neg c_25_40, if_pos c_31_59, if_neg c_50_78, if_neg c_56_79, if_pos c_62_85, if_pos c_72_90]) (congrArg (Ex cs b) (by simp only [f_X6_add, if_neg c_7_1, if_neg c_14_2, if_neg c_19_21, if_neg c_25_40, if_pos c_31_59, if_neg c_50_78, if_neg c_56_79, if_pos c_62_85, if_pos c_72_90]))
                  ·
                    refine lv_iload_n hx hb dX6_add_75 rfl (lv_at hl 2 rfl) ?_
                    refine lv_bipush (v := 14) hx hb dX6_add_76 (by decide) ?_
                    refine lv_icmp_ne (tgt := 94) hx hb dX6_add_78 (by decide) (fun c_78_91 => ?_) (fun c_78_91 => ?_)
                    ·
                      refine lv_aload_n hx hb dX6_add_94 rfl (lv_at hl 1 rfl) ?_
                      refine fgX6_44 hx hb hts hown hK hH 0 (by decide) dX6_add_95 ?_
                      rw [show gI σ 13 0 1 = nI (lN0 σ) from hL.1]
                      refine lv_bipush (v := 40) hx hb dX6_add_98 (by decide) ?_
                      refine lv_icmp_ne (tgt := 106) hx hb dX6_add_100 (by decide) (fun c_100_92 => ?_) (fun c_100_92 => ?_)
                      ·
                        have hl40 : lN0 σ < 40 := ne40 hL (by assumption)
                        refine lv_aload_n hx hb dX6_add_106 rfl (lv_at hl 1 rfl) ?_
                        refine fgX6_7 hx hb hts hown hK hH 0 (by decide) dX6_add_107 ?_
                        refine lv_iconst (v := 2) hx hb dX6_add_110 (by decide) ?_
                        refine lv_aload_n hx hb dX6_add_111 rfl (lv_at hl 1 rfl) ?_
                        refine fgX6_44 hx hb hts hown hK hH 0 (by decide) dX6_add_112 ?_
                        rw [show gI σ 13 0 1 = nI (lN0 σ) from hL.1]
                        refine lv_imul hx hb dX6_add_115 ?_
                        refine lv_iload_n hx hb dX6_add_116 rfl (lv_at hl 2 rfl) ?_
                        refine x_iast hx hb hK hH hS 14 0 80 (by decide) (fun _ _ => rfl) (2 * (lN0 σ)) ((tagM ((rfl : (2 : Int32) = nI 2)) rfl)) (by omega) (by decide) dX6_add_117 (fun H locs hH hS => ?_)
                        refine lv_aload_n hx hb dX6_add_118 rfl (lv_at hl 1 rfl) ?_
                        refine fgX6_7 hx hb hts hown hK hH 0 (by decide) dX6_add_119 ?_
                        refine lv_iconst (v := 2) hx hb dX6_add_122 (by decide) ?_
                        refine lv_aload_n hx hb dX6_add_123 rfl (lv_at hl 1 rfl) ?_
                        refine fgX6_44 hx hb hts hown hK hH 0 (by decide) dX6_add_124 ?_
                        rw [show gI (sI σ 14 0 (2 * (lN0 σ)) x) 13 0 1 = nI (lN0 σ) from hL.1]
                        refine lv_imul hx hb dX6_add_127 ?_
                        refine lv_iconst (v := 1) hx hb dX6_add_128 (by decide) ?_
                        refine lv_iadd hx hb dX6_add_129 ?_
                        refine lv_iload_n hx hb dX6_add_130 rfl (lv_at hl 3 rfl) ?_
                        refine x_iast hx hb hK hH hS 14 0 80 (by decide) (fun _ _ => rfl) ((2 * (lN0 σ)) + 1) ((tagA ((tagM ((rfl : (2 : Int32) = nI 2)) rfl)) ((rfl : (1 : Int32) = nI 1)))) (by omega) (by decide) dX6_add_131 (fun H locs hH hS => ?_)
                        refine lv_aload_n hx hb dX6_add_132 rfl (lv_at hl 1 rfl) ?_
                        refine lv_dup hx hb dX6_add_133 rfl ?_
                        refine fgX6_44 hx hb hts hown hK hH 0 (by decide) dX6_add_134 ?_
                        rw [show gI (sI (sI σ 14 0 (2 * (lN0 σ)) x) 14 0 ((2 * (lN0 σ)) + 1) y) 13 0 1 = nI (lN0 σ) from hL.1]
                        refine lv_iconst (v := 1) hx hb dX6_add_137 (by decide) ?_
                        refine lv_iadd hx hb dX6_add_138 ?_
                        refine fpX6_44 hx hb hts hown hK hH hS 0 (by decide) dX6_add_139 (fun H locs hH hS => ?_)
                        refine lv_aload_n hx hb dX6_add_142 rfl (lv_at hl 1 rfl) ?_
                        refine fgX6_44 hx hb hts hown hK hH 0 (by decide) dX6_add_143 ?_
                        refine lv_iconst (v := 1) hx hb dX6_add_146 (by decide) ?_
                        refine lv_isub hx hb dX6_add_147 ?_
                        exact e_iret hx hb hr hlk hK hH hS dX6_add_148 (by simp only [f_X6_add, if_neg c_7_1, if_neg c_14_2, if_neg c_19_21, if_neg c_25_40, if_pos c_31_59, if_neg c_50_78, if_neg c_56_79, if_pos c_62_85, if_neg c_72_90, if_neg c_78_91, if_neg c_100_92]) (congrArg (Ex cs b) (by simp only [f_X6_add, if_neg c_7_1, if_neg c_14_2, if_neg c_19_21, if_neg c_25_40, if_pos c_31_59, if_neg c_50_78, if_neg c_56_79, if_pos c_62_85, if_neg c_72_90, if_neg c_78_91, if_neg c_100_92]))
                      ·
                        refine lv_bipush (v := (-3)) hx hb dX6_add_103 (by decide) ?_
                        exact e_iret hx hb hr hlk hK hH hS dX6_add_105 (by simp only [f_X6_add, if_neg c_7_1, if_neg c_14_2, if_neg c_19_21, if_neg c_25_40, if_pos c_31_59, if_neg c_50_78, if_neg c_56_79, if_pos c_62_85, if_neg c_72_90, if_neg c_78_91, if_pos c_100_92]) (congrArg (Ex cs b) (by simp only [f_X6_add, if_neg c_7_1, if_neg c_14_2, if_neg c_19_21, if_neg c_25_40, if_pos c_31_59, if_neg c_50_78, if_neg c_56_79, if_pos c_62_85, if_neg c_72_90, if_neg c_78_91, if_pos c_100_92]))
                    ·
                      refine lv_iload_n hx hb dX6_add_81 rfl (lv_at hl 3 rfl) ?_
                      refine lv_iconst (v := 0) hx hb dX6_add_82 (by decide) ?_
                      refine lv_bipush (v := 79) hx hb dX6_add_83 (by decide) ?_
                      refine e_ci (e_runS (As := [.int (y), .int (0), .int (79)]) (rest := []) ⟨hx, hb, hml, hown, hts⟩ (k_X6_within l D cs b σ y 0 79 ) ⟨callB_of 3 hts (gC wC_X6_within) rfl rfl rfl (hts _ wi_X6) (hts _ wM_X6_40) (by decide +kernel) (by decide), hts _ wT_X6_within⟩ hK hH rfl hl.1 rfl (Nat.le_of_ble_eq_true rfl) dX6_add_85 (by decide)) hS (fun H locs hH hS => ?_)
                      refine lv_if_ne (tgt := 94) hx hb dX6_add_88 (by decide) (fun c_88_93 => ?_) (fun c_88_93 => ?_)
                      ·
                        refine lv_aload_n hx hb dX6_add_94 rfl (lv_at hl 1 rfl) ?_
                        refine fgX6_44 hx hb hts hown hK hH 0 (by decide) dX6_add_95 ?_
                        rw [show gI σ 13 0 1 = nI (lN0 σ) from hL.1]
                        refine lv_bipush (v := 40) hx hb dX6_add_98 (by decide) ?_
                        refine lv_icmp_ne (tgt := 106) hx hb dX6_add_100 (by decide) (fun c_100_94 => ?_) (fun c_100_94 => ?_)
                        ·
                          have hl40 : lN0 σ < 40 := ne40 hL (by assumption)
                          refine lv_aload_n hx hb dX6_add_106 rfl (lv_at hl 1 rfl) ?_
                          refine fgX6_7 hx hb hts hown hK hH 0 (by decide) dX6_add_107 ?_
                          refine lv_iconst (v := 2) hx hb dX6_add_110 (by decide) ?_
                          refine lv_aload_n hx hb dX6_add_111 rfl (lv_at hl 1 rfl) ?_
                          refine fgX6_44 hx hb hts hown hK hH 0 (by decide) dX6_add_112 ?_
                          rw [show gI σ 13 0 1 = nI (lN0 σ) from hL.1]
                          refine lv_imul hx hb dX6_add_115 ?_
                          refine lv_iload_n hx hb dX6_add_116 rfl (lv_at hl 2 rfl) ?_
                          refine x_iast hx hb hK hH hS 14 0 80 (by decide) (fun _ _ => rfl) (2 * (lN0 σ)) ((tagM ((rfl : (2 : Int32) = nI 2)) rfl)) (by omega) (by decide) dX6_add_117 (fun H locs hH hS => ?_)
                          refine lv_aload_n hx hb dX6_add_118 rfl (lv_at hl 1 rfl) ?_
                          refine fgX6_7 hx hb hts hown hK hH 0 (by decide) dX6_add_119 ?_
                          refine lv_iconst (v := 2) hx hb dX6_add_122 (by decide) ?_
                          refine lv_aload_n hx hb dX6_add_123 rfl (lv_at hl 1 rfl) ?_
                          refine fgX6_44 hx hb hts hown hK hH 0 (by decide) dX6_add_124 ?_
                          rw [show gI (sI σ 14 0 (2 * (lN0 σ)) x) 13 0 1 = nI (lN0 σ) from hL.1]
                          refine lv_imul hx hb dX6_add_127 ?_
                          refine lv_iconst (v := 1) hx hb dX6_add_128 (by decide) ?_
                          refine lv_iadd hx hb dX6_add_129 ?_
                          refine lv_iload_n hx hb dX6_add_130 rfl (lv_at hl 3 rfl) ?_
                          refine x_iast hx hb hK hH hS 14 0 80 (by decide) (fun _ _ => rfl) ((2 * (lN0 σ)) + 1) ((tagA ((tagM ((rfl : (2 : Int32) = nI 2)) rfl)) ((rfl : (1 : Int32) = nI 1)))) (by omega) (by decide) dX6_add_131 (fun H locs hH hS => ?_)
                          refine lv_aload_n hx hb dX6_add_132 rfl (lv_at hl 1 rfl) ?_
                          refine lv_dup hx hb dX6_add_133 rfl ?_
                          refine fgX6_44 hx hb hts hown hK hH 0 (by decide) dX6_add_134 ?_
                          rw [show gI (sI (sI σ 14 0 (2 * (lN0 σ)) x) 14 0 ((2 * (lN0 σ)) + 1) y) 13 0 1 = nI (lN0 σ) from hL.1]
                          refine lv_iconst (v := 1) hx hb dX6_add_137 (by decide) ?_
                          refine lv_iadd hx hb dX6_add_138 ?_
                          refine fpX6_44 hx hb hts hown hK hH hS 0 (by decide) dX6_add_139 (fun H locs hH hS => ?_)
                          refine lv_aload_n hx hb dX6_add_142 rfl (lv_at hl 1 rfl) ?_
                          refine fgX6_44 hx hb hts hown hK hH 0 (by decide) dX6_add_143 ?_
                          refine lv_iconst (v := 1) hx hb dX6_add_146 (by decide) ?_
                          refine lv_isub hx hb dX6_add_147 ?_
                          exact e_iret hx hb hr hlk hK hH hS dX6_add_148 (by simp only [f_X6_add, if_neg c_7_1, if_neg c_14_2, if_neg c_19_21, if_neg c_25_40, if_pos c_31_59, if_neg c_50_78, if_neg c_56_79, if_pos c_62_85, if_neg c_72_90, if_pos c_78_91, if_neg c_88_93, if_neg c_100_94]) (congrArg (Ex cs b) (by simp only [f_X6_add, if_neg c_7_1, if_neg c_14_2, if_neg c_19_21, if_neg c_25_40, if_pos c_31_59, if_neg c_50_78, if_neg c_56_79, if_pos c_62_85, if_neg c_72_90, if_pos c_78_91, if_neg c_88_93, if_neg c_100_94]))
                        ·
                          refine lv_bipush (v := (-3)) hx hb dX6_add_103 (by decide) ?_
                          exact e_iret hx hb hr hlk hK hH hS dX6_add_105 (by simp only [f_X6_add, if_neg c_7_1, if_neg c_14_2, if_neg c_19_21, if_neg c_25_40, if_pos c_31_59, if_neg c_50_78, if_neg c_56_79, if_pos c_62_85, if_neg c_72_90, if_pos c_78_91, if_neg c_88_93, if_pos c_100_94]) (congrArg (Ex cs b) (by simp only [f_X6_add, if_neg c_7_1, if_neg c_14_2, if_neg c_19_21, if_neg c_25_40, if_pos c_31_59, if_neg c_50_78, if_neg c_56_79, if_pos c_62_85, if_neg c_72_90, if_pos c_78_91, if_neg c_88_93, if_pos c_100_94]))
                      ·
                        refine lv_bipush (v := (-2)) hx hb dX6_add_91 (by decide) ?_
                        exact e_iret hx hb hr hlk hK hH hS dX6_add_93 (by simp only [f_X6_add, if_neg c_7_1, if_neg c_14_2, if_neg c_19_21, if_neg c_25_40, if_pos c_31_59, if_neg c_50_78, if_neg c_56_79, if_pos c_62_85, if_neg c_72_90, if_pos c_78_91, if_pos c_88_93]) (congrArg (Ex cs b) (by simp only [f_X6_add, if_neg c_7_1, if_neg c_14_2, if_neg c_19_21, if_neg c_25_40, if_pos c_31_59, if_neg c_50_78, if_neg c_56_79, if_pos c_62_85, if_neg c_72_90, if_pos c_78_91, if_pos c_88_93]))
  ·
    refine lv_iconst (v := (-1)) hx hb dX6_add_10 (by decide) ?_
    exact e_iret hx hb hr hlk hK hH hS dX6_add_11 (by simp only [f_X6_add, if_pos c_7_1]) (congrArg (Ex cs b) (by simp only [f_X6_add, if_pos c_7_1]))
def f_X6_atEnd (σ : St) (p : Nat) : St := sI (sI (sI σ 15 0 p 1) 19 0 p (gI (sI σ 15 0 p 1) 13 0 10)) 13 0 10 ((gI (sI (sI σ 15 0 p 1) 19 0 p (gI (sI σ 15 0 p 1) 13 0 10)) 13 0 10) + 1)
set_option maxRecDepth 100000 in
set_option maxHeartbeats 4000000 in
theorem k_X6_atEnd (l : Launch) (D : va_G) (cs : Nat → ClassId) (b : Nat) (σ : St) (p : Nat) (hp : p < 8) : Met l yX6_atEnd (Cond.code yX6_atEnd cX6_atEnd 2 (none : Option FieldType) :: T0) { frames := 0, cells := 0, slots := 0, locals := 0 } (Pe D (tyx cs) b 43 (Ex cs b σ) [.ref (b + xo 13 0), .int (nI p)]) (Qv D (tyx cs) b 43 (Ex cs b (f_X6_atEnd σ p))) 0 0 (fun a => b ≤ a) := by
  refine e_met (by decide) rfl (Nat.le_of_ble_eq_true rfl) (fun pg e s m below meth c ls hx hb hr hml hts0 hown hlk hnm hH hK hl hS => ?_)
  have hts : ∀ w ∈ T0, w.before _ s = true := fun w h => hts0 w (List.mem_cons_of_mem _ h)
  have hl : lv_has ls 2 [(0, .ref (b + xo 13 0)), (1, .int (nI p))] := hl
  refine lv_aload_n hx hb dX6_atEnd_0 rfl (lv_at hl 0 rfl) ?_
  refine fgX6_13 hx hb hts hown hK hH 0 (by decide) dX6_atEnd_1 ?_
  refine lv_iload_n hx hb dX6_atEnd_4 rfl (lv_at hl 1 rfl) ?_
  refine lv_iconst (v := 1) hx hb dX6_atEnd_5 (by decide) ?_
  refine x_iast hx hb hK hH hS 15 0 8 (by decide) (fun _ _ => rfl) p rfl (by omega) (by decide) dX6_atEnd_6 (fun H locs hH hS => ?_)
  refine lv_aload_n hx hb dX6_atEnd_7 rfl (lv_at hl 0 rfl) ?_
  refine fgX6_25 hx hb hts hown hK hH 0 (by decide) dX6_atEnd_8 ?_
  refine lv_iload_n hx hb dX6_atEnd_11 rfl (lv_at hl 1 rfl) ?_
  refine lv_aload_n hx hb dX6_atEnd_12 rfl (lv_at hl 0 rfl) ?_
  refine fgX6_48 hx hb hts hown hK hH 0 (by decide) dX6_atEnd_13 ?_
  refine x_iast hx hb hK hH hS 19 0 8 (by decide) (fun _ _ => rfl) p rfl (by omega) (by decide) dX6_atEnd_16 (fun H locs hH hS => ?_)
  refine lv_aload_n hx hb dX6_atEnd_17 rfl (lv_at hl 0 rfl) ?_
  refine lv_dup hx hb dX6_atEnd_18 rfl ?_
  refine fgX6_48 hx hb hts hown hK hH 0 (by decide) dX6_atEnd_19 ?_
  refine lv_iconst (v := 1) hx hb dX6_atEnd_22 (by decide) ?_
  refine lv_iadd hx hb dX6_atEnd_23 ?_
  refine fpX6_48 hx hb hts hown hK hH hS 0 (by decide) dX6_atEnd_24 (fun H locs hH hS => ?_)
  exact e_vret hx hb hr hlk hK hH hS dX6_atEnd_27 (congrArg (Ex cs b) (by simp only [f_X6_atEnd]))
