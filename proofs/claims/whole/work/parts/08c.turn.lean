theorem okR_sI {σ : St} {r g i k : Nat} {v : Int32} (hg : g ≠ 9) (h : okR σ r) : okR (sI σ g i k v) r := by
  have e : gI (sI σ g i k v) 9 r 1 = gI σ 9 r 1 := by rw [gI_sI, if_neg (fun q => hg q.1.symm)]
  have z : zN (sI σ g i k v) r = zN σ r := by unfold zN; rw [e]
  exact ⟨by rw [e, z]; exact h.1, by rw [z]; exact h.2.1, h.2.2⟩
theorem okR_sR {σ : St} {r g i k : Nat} {v : Option Nat} (hv : ∀ p, v = some p → p < 8) (h : okR σ r) : okR (sR σ g i k v) r := by
  refine ⟨h.1, h.2.1, fun j p hp => ?_⟩
  rw [gR_sR] at hp
  split at hp
  · exact hv p hp
  · exact h.2.2 j p hp
def ok (σ : St) : Prop := okR σ 0 ∧ okR σ 1 ∧ (∀ p, gR σ 0 0 6 = some p → p < 8) ∧ ∀ k p, gR σ 8 k 1 = some p → p < 8
def f_X5_giveWayToHigh (σ : St)  : St := (oC (gR σ 0 0 6) σ (fun q1_1 => (if gI σ 5 q1_1 3 = 1 then (if gI σ 9 0 1 ≤ 0 then σ else sR (f_X4_putFirst (sI σ 5 q1_1 2 1) 1 q1_1) 0 0 6 (none)) else σ)))
set_option maxRecDepth 100000 in
set_option maxHeartbeats 4000000 in
theorem k_X5_giveWayToHigh (l : Launch) (D : va_G) (cs : Nat → ClassId) (b : Nat) (σ : St)  (ho : ok σ) : Met l yX5_giveWayToHigh (Cond.code yX5_giveWayToHigh cX5_giveWayToHigh 1 (none : Option FieldType) :: T0) { frames := 1, cells := 0, slots := 0, locals := 22 } (Pe D (tyx cs) b 43 (Ex cs b σ) [.ref (b + xo 0 0)]) (Qv D (tyx cs) b 43 (Ex cs b (f_X5_giveWayToHigh σ))) 0 0 (fun a => b ≤ a) := by
  refine e_met (by decide) rfl (Nat.le_of_ble_eq_true rfl) (fun pg e s m below meth c ls hx hb hr hml hts0 hown hlk hnm hH hK hl hS => ?_)
  have hts : ∀ w ∈ T0, w.before _ s = true := fun w h => hts0 w (List.mem_cons_of_mem _ h)
  have hl : lv_has ls 1 [(0, .ref (b + xo 0 0))] := hl
  refine lv_aload_n hx hb dX5_giveWayToHigh_0 rfl (lv_at hl 0 rfl) ?_
  refine fgX5_49 hx hb hts hown hK hH 0 (by decide) _ rfl dX5_giveWayToHigh_1 ?_
  rcases hq_1_1 : gR σ 0 0 6 with _ | q1_1
  ·
    refine W.eq (g2 := F0 m 4 ls [.null]) rfl ?_
    refine lv_ifnullN (tgt := 52) hx hb dX5_giveWayToHigh_4 (by decide) ?_
    exact e_vret hx hb hr hlk hK hH hS dX5_giveWayToHigh_52 (congrArg (Ex cs b) (by simp only [f_X5_giveWayToHigh, hq_1_1, oC_none]))
  ·
    have q1_1b := ho.2.2.1 _ hq_1_1
    refine W.eq (g2 := F0 m 4 ls [.ref (b + xo 5 q1_1)]) rfl ?_
    refine lv_ifnull hx hb dX5_giveWayToHigh_4 ?_
    refine lv_aload_n hx hb dX5_giveWayToHigh_7 rfl (lv_at hl 0 rfl) ?_
    refine fgX5_49 hx hb hts hown hK hH 0 (by decide) (some q1_1) (hq_1_1) dX5_giveWayToHigh_8 ?_
    refine W.eq (g2 := F0 m 11 ls [.ref (b + xo 5 q1_1)]) rfl ?_
    refine fgX5_133 hx hb hts hown hK hH q1_1 (show q1_1 < 8 by first | assumption | omega) dX5_giveWayToHigh_11 ?_
    refine lv_iconst (v := 1) hx hb dX5_giveWayToHigh_14 (by decide) ?_
    refine lv_icmp_ne (tgt := 52) hx hb dX5_giveWayToHigh_15 (by decide) (fun c_15_2 => ?_) (fun c_15_2 => ?_)
    ·
      exact e_vret hx hb hr hlk hK hH hS dX5_giveWayToHigh_52 (congrArg (Ex cs b) (by simp only [f_X5_giveWayToHigh, hq_1_1, oC_some, if_neg c_15_2]))
    ·
      refine lv_aload_n hx hb dX5_giveWayToHigh_18 rfl (lv_at hl 0 rfl) ?_
      refine fgX5_35 hx hb hts hown hK hH 0 (by decide) dX5_giveWayToHigh_19 ?_
      refine fgX5_157 hx hb hts hown hK hH 0 (by decide) dX5_giveWayToHigh_22 ?_
      refine lv_if_le (tgt := 52) hx hb dX5_giveWayToHigh_25 (by decide) (fun c_25_3 => ?_) (fun c_25_3 => ?_)
      ·
        exact e_vret hx hb hr hlk hK hH hS dX5_giveWayToHigh_52 (congrArg (Ex cs b) (by simp only [f_X5_giveWayToHigh, hq_1_1, oC_some, if_pos c_15_2, if_pos c_25_3]))
      ·
        refine lv_aload_n hx hb dX5_giveWayToHigh_28 rfl (lv_at hl 0 rfl) ?_
        refine fgX5_49 hx hb hts hown hK hH 0 (by decide) (some q1_1) (hq_1_1) dX5_giveWayToHigh_29 ?_
        refine W.eq (g2 := F0 m 32 ls [.ref (b + xo 5 q1_1)]) rfl ?_
        refine lv_iconst (v := 1) hx hb dX5_giveWayToHigh_32 (by decide) ?_
        refine fpX5_80 hx hb hts hown hK hH hS q1_1 (show q1_1 < 8 by first | assumption | omega) dX5_giveWayToHigh_33 (fun H locs hH hS => ?_)
        refine lv_aload_n hx hb dX5_giveWayToHigh_36 rfl (lv_at hl 0 rfl) ?_
        refine fgX5_39 hx hb hts hown hK hH 0 (by decide) dX5_giveWayToHigh_37 ?_
        refine lv_aload_n hx hb dX5_giveWayToHigh_40 rfl (lv_at hl 0 rfl) ?_
        refine fgX5_49 hx hb hts hown hK hH 0 (by decide) (some q1_1) (hq_1_1) dX5_giveWayToHigh_41 ?_
        refine W.eq (g2 := F0 m 44 ls [.ref (b + xo 5 q1_1), .ref (b + xo 9 1)]) rfl ?_
        refine e_cv (e_runV (C := RX4) (ci := 4) (As := [.ref (b + xo 5 q1_1)]) (rest := []) ⟨hx, hb, hml, hown, hts⟩ (k_X4_putFirst l D cs b (sI σ 5 q1_1 2 1) 1 q1_1 (by decide) (by assumption) (okR_sI (by decide) ho.2.1)) ⟨callB_of 1 hts (gC wC_X4_putFirst) rfl rfl rfl (hts _ wi_X4) (hts _ wM_X5_158) (by decide +kernel) (by decide), hts _ wN_X4_putFirst, hts _ wS_X4_putFirst⟩ hK hH (xo_ok (by decide)).2.2 (Ex_at cs b (sI σ 5 q1_1 2 1) (by decide)) rfl rfl rfl hl.1 rfl (Nat.le_of_ble_eq_true rfl) dX5_giveWayToHigh_44 (by decide)) hS (fun H locs hH hS => ?_)
        refine lv_aload_n hx hb dX5_giveWayToHigh_47 rfl (lv_at hl 0 rfl) ?_
        refine lv_null hx hb dX5_giveWayToHigh_48 ?_
        refine fpX5_49 hx hb hts hown hK hH hS 0 (by decide) (none) rfl dX5_giveWayToHigh_49 (fun H locs hH hS => ?_)
        exact e_vret hx hb hr hlk hK hH hS dX5_giveWayToHigh_52 (congrArg (Ex cs b) (by simp only [f_X5_giveWayToHigh, hq_1_1, oC_some, if_pos c_15_2, if_neg c_25_3]))
theorem take_lt {σ : St} {r p : Nat} (hk : okR σ r) (h : (f_X4_takeFirst σ r).1 = some p) : p < 8 := by
  unfold f_X4_takeFirst at h
  split at h
  · rcases hq : gR σ 10 r 0 with _ | q
    · rw [hq, oC_none] at h; cases h
    · rw [hq, oC_some] at h; cases h; exact hk.2.2 _ _ hq
  · cases h
def f_X5_takeNext (σ : St)  : St := (if gI σ 9 0 1 ≤ 0 then (oC ((f_X4_takeFirst σ 1).1) (sR ((f_X4_takeFirst σ 1).2) 0 0 6 (none)) (fun q25_2 => sI (sI (sR ((f_X4_takeFirst σ 1).2) 0 0 6 (some q25_2)) 5 q25_2 2 2) 5 q25_2 9 0)) else (oC ((f_X4_takeFirst σ 0).1) (sR ((f_X4_takeFirst σ 0).2) 0 0 6 (none)) (fun q15_3 => sI (sI (sR ((f_X4_takeFirst σ 0).2) 0 0 6 (some q15_3)) 5 q15_3 2 2) 5 q15_3 9 0)))
set_option maxRecDepth 100000 in
set_option maxHeartbeats 4000000 in
theorem k_X5_takeNext (l : Launch) (D : va_G) (cs : Nat → ClassId) (b : Nat) (σ : St)  (ho : ok σ) : Met l yX5_takeNext (Cond.code yX5_takeNext cX5_takeNext 1 (none : Option FieldType) :: T0) { frames := 1, cells := 0, slots := 0, locals := 22 } (Pe D (tyx cs) b 43 (Ex cs b σ) [.ref (b + xo 0 0)]) (Qv D (tyx cs) b 43 (Ex cs b (f_X5_takeNext σ))) 0 0 (fun a => b ≤ a) := by
  refine e_met (by decide) rfl (Nat.le_of_ble_eq_true rfl) (fun pg e s m below meth c ls hx hb hr hml hts0 hown hlk hnm hH hK hl hS => ?_)
  have hts : ∀ w ∈ T0, w.before _ s = true := fun w h => hts0 w (List.mem_cons_of_mem _ h)
  have hl : lv_has ls 1 [(0, .ref (b + xo 0 0))] := hl
  refine lv_aload_n hx hb dX5_takeNext_0 rfl (lv_at hl 0 rfl) ?_
  refine lv_aload_n hx hb dX5_takeNext_1 rfl (lv_at hl 0 rfl) ?_
  refine fgX5_35 hx hb hts hown hK hH 0 (by decide) dX5_takeNext_2 ?_
  refine fgX5_157 hx hb hts hown hK hH 0 (by decide) dX5_takeNext_5 ?_
  refine lv_if_le (tgt := 21) hx hb dX5_takeNext_8 (by decide) (fun c_8_1 => ?_) (fun c_8_1 => ?_)
  ·
    refine lv_aload_n hx hb dX5_takeNext_21 rfl (lv_at hl 0 rfl) ?_
    refine fgX5_39 hx hb hts hown hK hH 0 (by decide) dX5_takeNext_22 ?_
    refine e_cq (e_runV (C := RX4) (ci := 4) (As := []) (rest := [.ref (b + xo 0 0)]) ⟨hx, hb, hml, hown, hts⟩ (k_X4_takeFirst l D cs b σ 1 (by decide) ho.2.1) ⟨callB_of 0 hts (gC wC_X4_takeFirst) rfl rfl rfl (hts _ wi_X4) (hts _ wM_X5_161) (by decide +kernel) (by decide), hts _ wN_X4_takeFirst, hts _ wS_X4_takeFirst⟩ hK hH (xo_ok (by decide)).2.2 (Ex_at cs b σ (by decide)) rfl rfl rfl hl.1 rfl (Nat.le_of_ble_eq_true rfl) dX5_takeNext_25 (by decide)) hS (fun H locs hH hS => ?_)
    rcases hq_25_2 : (f_X4_takeFirst σ 1).1 with _ | q25_2
    ·
      refine W.eq (g2 := F0 m 28 ls [.null, .ref (b + xo 0 0)]) rfl ?_
      refine fpX5_49 hx hb hts hown hK hH hS 0 (by decide) (none) rfl dX5_takeNext_28 (fun H locs hH hS => ?_)
      refine lv_aload_n hx hb dX5_takeNext_31 rfl (lv_at hl 0 rfl) ?_
      refine fgX5_49 hx hb hts hown hK hH 0 (by decide) (none) (rfl) dX5_takeNext_32 ?_
      refine W.eq (g2 := F0 m 35 ls [.null]) rfl ?_
      refine lv_ifnullN (tgt := 54) hx hb dX5_takeNext_35 (by decide) ?_
      exact e_vret hx hb hr hlk hK hH hS dX5_takeNext_54 (congrArg (Ex cs b) (by simp only [f_X5_takeNext, if_pos c_8_1, hq_25_2, oC_none]))
    ·
      have q25_2b := take_lt ho.2.1 hq_25_2
      refine W.eq (g2 := F0 m 28 ls [.ref (b + xo 5 q25_2), .ref (b + xo 0 0)]) rfl ?_
      refine fpX5_49 hx hb hts hown hK hH hS 0 (by decide) (some q25_2) rfl dX5_takeNext_28 (fun H locs hH hS => ?_)
      refine lv_aload_n hx hb dX5_takeNext_31 rfl (lv_at hl 0 rfl) ?_
      refine fgX5_49 hx hb hts hown hK hH 0 (by decide) (some q25_2) (rfl) dX5_takeNext_32 ?_
      refine W.eq (g2 := F0 m 35 ls [.ref (b + xo 5 q25_2)]) rfl ?_
      refine lv_ifnull hx hb dX5_takeNext_35 ?_
      refine lv_aload_n hx hb dX5_takeNext_38 rfl (lv_at hl 0 rfl) ?_
      refine fgX5_49 hx hb hts hown hK hH 0 (by decide) (some q25_2) (rfl) dX5_takeNext_39 ?_
      refine W.eq (g2 := F0 m 42 ls [.ref (b + xo 5 q25_2)]) rfl ?_
      refine lv_iconst (v := 2) hx hb dX5_takeNext_42 (by decide) ?_
      refine fpX5_80 hx hb hts hown hK hH hS q25_2 (show q25_2 < 8 by first | assumption | omega) dX5_takeNext_43 (fun H locs hH hS => ?_)
      refine lv_aload_n hx hb dX5_takeNext_46 rfl (lv_at hl 0 rfl) ?_
      refine fgX5_49 hx hb hts hown hK hH 0 (by decide) (some q25_2) (rfl) dX5_takeNext_47 ?_
      refine W.eq (g2 := F0 m 50 ls [.ref (b + xo 5 q25_2)]) rfl ?_
      refine lv_iconst (v := 0) hx hb dX5_takeNext_50 (by decide) ?_
      refine fpX5_164 hx hb hts hown hK hH hS q25_2 (show q25_2 < 8 by first | assumption | omega) dX5_takeNext_51 (fun H locs hH hS => ?_)
      exact e_vret hx hb hr hlk hK hH hS dX5_takeNext_54 (congrArg (Ex cs b) (by simp only [f_X5_takeNext, if_pos c_8_1, hq_25_2, oC_some]))
  ·
    refine lv_aload_n hx hb dX5_takeNext_11 rfl (lv_at hl 0 rfl) ?_
    refine fgX5_35 hx hb hts hown hK hH 0 (by decide) dX5_takeNext_12 ?_
    refine e_cq (e_runV (C := RX4) (ci := 4) (As := []) (rest := [.ref (b + xo 0 0)]) ⟨hx, hb, hml, hown, hts⟩ (k_X4_takeFirst l D cs b σ 0 (by decide) ho.1) ⟨callB_of 0 hts (gC wC_X4_takeFirst) rfl rfl rfl (hts _ wi_X4) (hts _ wM_X5_161) (by decide +kernel) (by decide), hts _ wN_X4_takeFirst, hts _ wS_X4_takeFirst⟩ hK hH (xo_ok (by decide)).2.2 (Ex_at cs b σ (by decide)) rfl rfl rfl hl.1 rfl (Nat.le_of_ble_eq_true rfl) dX5_takeNext_15 (by decide)) hS (fun H locs hH hS => ?_)
    rcases hq_15_3 : (f_X4_takeFirst σ 0).1 with _ | q15_3
    ·
      refine W.eq (g2 := F0 m 18 ls [.null, .ref (b + xo 0 0)]) rfl ?_
      refine lv_goto (tgt := 28) hx hb dX5_takeNext_18 (by decide) ?_
      refine fpX5_49 hx hb hts hown hK hH hS 0 (by decide) (none) rfl dX5_takeNext_28 (fun H locs hH hS => ?_)
      refine lv_aload_n hx hb dX5_takeNext_31 rfl (lv_at hl 0 rfl) ?_
      refine fgX5_49 hx hb hts hown hK hH 0 (by decide) (none) (rfl) dX5_takeNext_32 ?_
      refine W.eq (g2 := F0 m 35 ls [.null]) rfl ?_
      refine lv_ifnullN (tgt := 54) hx hb dX5_takeNext_35 (by decide) ?_
      exact e_vret hx hb hr hlk hK hH hS dX5_takeNext_54 (congrArg (Ex cs b) (by simp only [f_X5_takeNext, if_neg c_8_1, hq_15_3, oC_none]))
    ·
      have q15_3b := take_lt ho.1 hq_15_3
      refine W.eq (g2 := F0 m 18 ls [.ref (b + xo 5 q15_3), .ref (b + xo 0 0)]) rfl ?_
      refine lv_goto (tgt := 28) hx hb dX5_takeNext_18 (by decide) ?_
      refine fpX5_49 hx hb hts hown hK hH hS 0 (by decide) (some q15_3) rfl dX5_takeNext_28 (fun H locs hH hS => ?_)
      refine lv_aload_n hx hb dX5_takeNext_31 rfl (lv_at hl 0 rfl) ?_
      refine fgX5_49 hx hb hts hown hK hH 0 (by decide) (some q15_3) (rfl) dX5_takeNext_32 ?_
      refine W.eq (g2 := F0 m 35 ls [.ref (b + xo 5 q15_3)]) rfl ?_
      refine lv_ifnull hx hb dX5_takeNext_35 ?_
      refine lv_aload_n hx hb dX5_takeNext_38 rfl (lv_at hl 0 rfl) ?_
      refine fgX5_49 hx hb hts hown hK hH 0 (by decide) (some q15_3) (rfl) dX5_takeNext_39 ?_
      refine W.eq (g2 := F0 m 42 ls [.ref (b + xo 5 q15_3)]) rfl ?_
      refine lv_iconst (v := 2) hx hb dX5_takeNext_42 (by decide) ?_
      refine fpX5_80 hx hb hts hown hK hH hS q15_3 (show q15_3 < 8 by first | assumption | omega) dX5_takeNext_43 (fun H locs hH hS => ?_)
      refine lv_aload_n hx hb dX5_takeNext_46 rfl (lv_at hl 0 rfl) ?_
      refine fgX5_49 hx hb hts hown hK hH 0 (by decide) (some q15_3) (rfl) dX5_takeNext_47 ?_
      refine W.eq (g2 := F0 m 50 ls [.ref (b + xo 5 q15_3)]) rfl ?_
      refine lv_iconst (v := 0) hx hb dX5_takeNext_50 (by decide) ?_
      refine fpX5_164 hx hb hts hown hK hH hS q15_3 (show q15_3 < 8 by first | assumption | omega) dX5_takeNext_51 (fun H locs hH hS => ?_)
      exact e_vret hx hb hr hlk hK hH hS dX5_takeNext_54 (congrArg (Ex cs b) (by simp only [f_X5_takeNext, if_neg c_8_1, hq_15_3, oC_some]))
