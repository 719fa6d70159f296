def f_X6_push (σ : St) (p : Nat) (x : Int32) : St := sI (sI (sI σ 18 0 ((7 * p) + 2) (gI σ 18 0 ((7 * p) + 1))) 18 0 ((7 * p) + 1) (gI (sI σ 18 0 ((7 * p) + 2) (gI σ 18 0 ((7 * p) + 1))) 18 0 (7 * p))) 18 0 (7 * p) x
set_option maxRecDepth 100000 in
set_option maxHeartbeats 4000000 in
theorem k_X6_push (l : Launch) (D : va_G) (cs : Nat → ClassId) (b : Nat) (σ : St) (p : Nat) (x : Int32) (hp : p < 8) : Met l yX6_push (Cond.code yX6_push cX6_push 3 (none : Option FieldType) :: T0) { frames := 0, cells := 0, slots := 0, locals := 0 } (Pe D (tyx cs) b 43 (Ex cs b σ) [.ref (b + xo 13 0), .int (nI p), .int (x)]) (Qv D (tyx cs) b 43 (Ex cs b (f_X6_push σ p x))) 0 0 (fun a => b ≤ a) := by
  refine e_met (by decide) rfl (Nat.le_of_ble_eq_true rfl) (fun pg e s m below meth c ls hx hb hr hml hts0 hown hlk hnm hH hK hl hS => ?_)
  have hts : ∀ w ∈ T0, w.before _ s = true := fun w h => hts0 w (List.mem_cons_of_mem _ h)
  have hl : lv_has ls 3 [(0, .ref (b + xo 13 0)), (1, .int (nI p)), (2, .int (x))] := hl
  refine lv_aload_n hx hb dX6_push_0 rfl (lv_at hl 0 rfl) ?_
  refine fgX6_22 hx hb hts hown hK hH 0 (by decide) dX6_push_1 ?_
  refine lv_bipush (v := 7) hx hb dX6_push_4 (by decide) ?_
  refine lv_iload_n hx hb dX6_push_6 rfl (lv_at hl 1 rfl) ?_
  refine lv_imul hx hb dX6_push_7 ?_
  refine lv_iconst (v := 2) hx hb dX6_push_8 (by decide) ?_
  refine lv_iadd hx hb dX6_push_9 ?_
  refine lv_aload_n hx hb dX6_push_10 rfl (lv_at hl 0 rfl) ?_
  refine fgX6_22 hx hb hts hown hK hH 0 (by decide) dX6_push_11 ?_
  refine lv_bipush (v := 7) hx hb dX6_push_14 (by decide) ?_
  refine lv_iload_n hx hb dX6_push_16 rfl (lv_at hl 1 rfl) ?_
  refine lv_imul hx hb dX6_push_17 ?_
  refine lv_iconst (v := 1) hx hb dX6_push_18 (by decide) ?_
  refine lv_iadd hx hb dX6_push_19 ?_
  refine x_iald hx hb hK hH 18 0 56 (by decide) rfl ((7 * p) + 1) ((tagA ((tagM ((rfl : (7 : Int32) = nI 7)) rfl)) ((rfl : (1 : Int32) = nI 1)))) (by omega) (by decide) dX6_push_20 ?_
  refine x_iast hx hb hK hH hS 18 0 56 (by decide) (fun _ _ => rfl) ((7 * p) + 2) ((tagA ((tagM ((rfl : (7 : Int32) = nI 7)) rfl)) ((rfl : (2 : Int32) = nI 2)))) (by omega) (by decide) dX6_push_21 (fun H locs hH hS => ?_)
  refine lv_aload_n hx hb dX6_push_22 rfl (lv_at hl 0 rfl) ?_
  refine fgX6_22 hx hb hts hown hK hH 0 (by decide) dX6_push_23 ?_
  refine lv_bipush (v := 7) hx hb dX6_push_26 (by decide) ?_
  refine lv_iload_n hx hb dX6_push_28 rfl (lv_at hl 1 rfl) ?_
  refine lv_imul hx hb dX6_push_29 ?_
  refine lv_iconst (v := 1) hx hb dX6_push_30 (by decide) ?_
  refine lv_iadd hx hb dX6_push_31 ?_
  refine lv_aload_n hx hb dX6_push_32 rfl (lv_at hl 0 rfl) ?_
  refine fgX6_22 hx hb hts hown hK hH 0 (by decide) dX6_push_33 ?_
  refine lv_bipush (v := 7) hx hb dX6_push_36 (by decide) ?_
  refine lv_iload_n hx hb dX6_push_38 rfl (lv_at hl 1 rfl) ?_
  refine lv_imul hx hb dX6_push_39 ?_
  refine x_iald hx hb hK hH 18 0 56 (by decide) rfl (7 * p) ((tagM ((rfl : (7 : Int32) = nI 7)) rfl)) (by omega) (by decide) dX6_push_40 ?_
  refine x_iast hx hb hK hH hS 18 0 56 (by decide) (fun _ _ => rfl) ((7 * p) + 1) ((tagA ((tagM ((rfl : (7 : Int32) = nI 7)) rfl)) ((rfl : (1 : Int32) = nI 1)))) (by omega) (by decide) dX6_push_41 (fun H locs hH hS => ?_)
  refine lv_aload_n hx hb dX6_push_42 rfl (lv_at hl 0 rfl) ?_
  refine fgX6_22 hx hb hts hown hK hH 0 (by decide) dX6_push_43 ?_
  refine lv_bipush (v := 7) hx hb dX6_push_46 (by decide) ?_
  refine lv_iload_n hx hb dX6_push_48 rfl (lv_at hl 1 rfl) ?_
  refine lv_imul hx hb dX6_push_49 ?_
  refine lv_iload_n hx hb dX6_push_50 rfl (lv_at hl 2 rfl) ?_
  refine x_iast hx hb hK hH hS 18 0 56 (by decide) (fun _ _ => rfl) (7 * p) ((tagM ((rfl : (7 : Int32) = nI 7)) rfl)) (by omega) (by decide) dX6_push_51 (fun H locs hH hS => ?_)
  exact e_vret hx hb hr hlk hK hH hS dX6_push_52 (congrArg (Ex cs b) (by simp only [f_X6_push]))
def f_X6_pull (σ : St) (p : Nat) : St := sI (sI σ 18 0 (7 * p) (gI σ 18 0 ((7 * p) + 1))) 18 0 ((7 * p) + 1) (gI (sI σ 18 0 (7 * p) (gI σ 18 0 ((7 * p) + 1))) 18 0 ((7 * p) + 2))
set_option maxRecDepth 100000 in
set_option maxHeartbeats 4000000 in
theorem k_X6_pull (l : Launch) (D : va_G) (cs : Nat → ClassId) (b : Nat) (σ : St) (p : Nat) (hp : p < 8) : Met l yX6_pull (Cond.code yX6_pull cX6_pull 2 (none : Option FieldType) :: T0) { frames := 0, cells := 0, slots := 0, locals := 0 } (Pe D (tyx cs) b 43 (Ex cs b σ) [.ref (b + xo 13 0), .int (nI p)]) (Qv D (tyx cs) b 43 (Ex cs b (f_X6_pull σ p))) 0 0 (fun a => b ≤ a) := by
  refine e_met (by decide) rfl (Nat.le_of_ble_eq_true rfl) (fun pg e s m below meth c ls hx hb hr hml hts0 hown hlk hnm hH hK hl hS => ?_)
  have hts : ∀ w ∈ T0, w.before _ s = true := fun w h => hts0 w (List.mem_cons_of_mem _ h)
  have hl : lv_has ls 2 [(0, .ref (b + xo 13 0)), (1, .int (nI p))] := hl
  refine lv_aload_n hx hb dX6_pull_0 rfl (lv_at hl 0 rfl) ?_
  refine fgX6_22 hx hb hts hown hK hH 0 (by decide) dX6_pull_1 ?_
  refine lv_bipush (v := 7) hx hb dX6_pull_4 (by decide) ?_
  refine lv_iload_n hx hb dX6_pull_6 rfl (lv_at hl 1 rfl) ?_
  refine lv_imul hx hb dX6_pull_7 ?_
  refine lv_aload_n hx hb dX6_pull_8 rfl (lv_at hl 0 rfl) ?_
  refine fgX6_22 hx hb hts hown hK hH 0 (by decide) dX6_pull_9 ?_
  refine lv_bipush (v := 7) hx hb dX6_pull_12 (by decide) ?_
  refine lv_iload_n hx hb dX6_pull_14 rfl (lv_at hl 1 rfl) ?_
  refine lv_imul hx hb dX6_pull_15 ?_
  refine lv_iconst (v := 1) hx hb dX6_pull_16 (by decide) ?_
  refine lv_iadd hx hb dX6_pull_17 ?_
  refine x_iald hx hb hK hH 18 0 56 (by decide) rfl ((7 * p) + 1) ((tagA ((tagM ((rfl : (7 : Int32) = nI 7)) rfl)) ((rfl : (1 : Int32) = nI 1)))) (by omega) (by decide) dX6_pull_18 ?_
  refine x_iast hx hb hK hH hS 18 0 56 (by decide) (fun _ _ => rfl) (7 * p) ((tagM ((rfl : (7 : Int32) = nI 7)) rfl)) (by omega) (by decide) dX6_pull_19 (fun H locs hH hS => ?_)
  refine lv_aload_n hx hb dX6_pull_20 rfl (lv_at hl 0 rfl) ?_
  refine fgX6_22 hx hb hts hown hK hH 0 (by decide) dX6_pull_21 ?_
  refine lv_bipush (v := 7) hx hb dX6_pull_24 (by decide) ?_
  refine lv_iload_n hx hb dX6_pull_26 rfl (lv_at hl 1 rfl) ?_
  refine lv_imul hx hb dX6_pull_27 ?_
  refine lv_iconst (v := 1) hx hb dX6_pull_28 (by decide) ?_
  refine lv_iadd hx hb dX6_pull_29 ?_
  refine lv_aload_n hx hb dX6_pull_30 rfl (lv_at hl 0 rfl) ?_
  refine fgX6_22 hx hb hts hown hK hH 0 (by decide) dX6_pull_31 ?_
  refine lv_bipush (v := 7) hx hb dX6_pull_34 (by decide) ?_
  refine lv_iload_n hx hb dX6_pull_36 rfl (lv_at hl 1 rfl) ?_
  refine lv_imul hx hb dX6_pull_37 ?_
  refine lv_iconst (v := 2) hx hb dX6_pull_38 (by decide) ?_
  refine lv_iadd hx hb dX6_pull_39 ?_
  refine x_iald hx hb hK hH 18 0 56 (by decide) rfl ((7 * p) + 2) ((tagA ((tagM ((rfl : (7 : Int32) = nI 7)) rfl)) ((rfl : (2 : Int32) = nI 2)))) (by omega) (by decide) dX6_pull_40 ?_
  refine x_iast hx hb hK hH hS 18 0 56 (by decide) (fun _ _ => rfl) ((7 * p) + 1) ((tagA ((tagM ((rfl : (7 : Int32) = nI 7)) rfl)) ((rfl : (1 : Int32) = nI 1)))) (by omega) (by decide) dX6_pull_41 (fun H locs hH hS => ?_)
  exact e_vret hx hb hr hlk hK hH hS dX6_pull_42 (congrArg (Ex cs b) (by simp only [f_X6_pull]))
def f_X6_tell (σ : St) (k : Nat) (u : Int32) (t : Nat) (x : Int32) : St := sI (f_X6_push (sI (sI (sI (sI (sI (sI σ 23 0 (5 * (mgN σ % 16)) (nI k)) 23 0 ((5 * (mgN σ % 16)) + 1) u) 23 0 ((5 * (mgN σ % 16)) + 2) (nI t)) 23 0 ((5 * (mgN σ % 16)) + 3) x) 23 0 ((5 * (mgN σ % 16)) + 4) (gI (sI (sI (sI (sI σ 23 0 (5 * (mgN σ % 16)) (nI k)) 23 0 ((5 * (mgN σ % 16)) + 1) u) 23 0 ((5 * (mgN σ % 16)) + 2) (nI t)) 23 0 ((5 * (mgN σ % 16)) + 3) x) 13 0 11)) 13 0 14 ((gI (sI (sI (sI (sI (sI σ 23 0 (5 * (mgN σ % 16)) (nI k)) 23 0 ((5 * (mgN σ % 16)) + 1) u) 23 0 ((5 * (mgN σ % 16)) + 2) (nI t)) 23 0 ((5 * (mgN σ % 16)) + 3) x) 23 0 ((5 * (mgN σ % 16)) + 4) (gI (sI (sI (sI (sI σ 23 0 (5 * (mgN σ % 16)) (nI k)) 23 0 ((5 * (mgN σ % 16)) + 1) u) 23 0 ((5 * (mgN σ % 16)) + 2) (nI t)) 23 0 ((5 * (mgN σ % 16)) + 3) x) 13 0 11)) 13 0 14) + 1)) t x) 22 0 k 0
set_option maxRecDepth 100000 in
set_option maxHeartbeats 4000000 in
theorem k_X6_tell (l : Launch) (D : va_G) (cs : Nat → ClassId) (b : Nat) (σ : St) (k : Nat) (u : Int32) (t : Nat) (x : Int32) (hk4 : k < 4) (ht8 : t < 8) (N : Nat) (hM : okMg N σ) (hN : N < 2 ^ 30) : Met l yX6_tell (Cond.code yX6_tell cX6_tell 6 (none : Option FieldType) :: T0) { frames := 1, cells := 0, slots := 0, locals := 22 } (Pe D (tyx cs) b 43 (Ex cs b σ) [.ref (b + xo 13 0), .int (nI k), .int (u), .int (nI t), .int (x)]) (Qv D (tyx cs) b 43 (Ex cs b (f_X6_tell σ k u t x))) 0 0 (fun a => b ≤ a) := by
  refine e_met (by decide) rfl (Nat.le_of_ble_eq_true rfl) (fun pg e s m below meth c ls hx hb hr hml hts0 hown hlk hnm hH hK hl hS => ?_)
  have hts : ∀ w ∈ T0, w.before _ s = true := fun w h => hts0 w (List.mem_cons_of_mem _ h)
  have hl : lv_has ls 6 [(0, .ref (b + xo 13 0)), (1, .int (nI k)), (2, .int (u)), (3, .int (nI t)), (4, .int (x))] := hl
  refine lv_iconst (v := 5) hx hb dX6_tell_0 (by decide) ?_
  refine lv_aload_n hx hb dX6_tell_1 rfl (lv_at hl 0 rfl) ?_
  refine fgX6_62 hx hb hts hown hK hH 0 (by decide) dX6_tell_2 ?_
  refine lv_bipush (v := 16) hx hb dX6_tell_5 (by decide) ?_
  refine lv_irem hx hb dX6_tell_7 (by decide) ?_
  rw [rem16 hM hN]
  refine lv_imul hx hb dX6_tell_8 ?_
  refine lv_istore (lv' := [(5, .int (5 * (nI (mgN σ % 16)))), (0, .ref (b + xo 13 0)), (1, .int (nI k)), (2, .int (u)), (3, .int (nI t)), (4, .int (x))]) hx hb dX6_tell_9 hl (by decide) rfl (fun ls hl => ?_)
  refine lv_aload_n hx hb dX6_tell_11 rfl (lv_at hl 1 rfl) ?_
  refine fgX6_37 hx hb hts hown hK hH 0 (by decide) dX6_tell_12 ?_
  refine lv_iload hx hb dX6_tell_15 (lv_at hl 0 rfl) ?_
  refine lv_iload_n hx hb dX6_tell_17 rfl (lv_at hl 2 rfl) ?_
  refine x_iast hx hb hK hH hS 23 0 80 (by decide) (fun _ _ => rfl) (5 * (mgN σ % 16)) ((tagM ((rfl : (5 : Int32) = nI 5)) rfl)) (by omega) (by decide) dX6_tell_18 (fun H locs hH hS => ?_)
  refine lv_aload_n hx hb dX6_tell_19 rfl (lv_at hl 1 rfl) ?_
  refine fgX6_37 hx hb hts hown hK hH 0 (by decide) dX6_tell_20 ?_
  refine lv_iload hx hb dX6_tell_23 (lv_at hl 0 rfl) ?_
  refine lv_iconst (v := 1) hx hb dX6_tell_25 (by decide) ?_
  refine lv_iadd hx hb dX6_tell_26 ?_
  refine lv_iload_n hx hb dX6_tell_27 rfl (lv_at hl 3 rfl) ?_
  refine x_iast hx hb hK hH hS 23 0 80 (by decide) (fun _ _ => rfl) ((5 * (mgN σ % 16)) + 1) ((tagA ((tagM ((rfl : (5 : Int32) = nI 5)) rfl)) ((rfl : (1 : Int32) = nI 1)))) (by omega) (by decide) dX6_tell_28 (fun H locs hH hS => ?_)
  refine lv_aload_n hx hb dX6_tell_29 rfl (lv_at hl 1 rfl) ?_
  refine fgX6_37 hx hb hts hown hK hH 0 (by decide) dX6_tell_30 ?_
  refine lv_iload hx hb dX6_tell_33 (lv_at hl 0 rfl) ?_
  refine lv_iconst (v := 2) hx hb dX6_tell_35 (by decide) ?_
  refine lv_iadd hx hb dX6_tell_36 ?_
  refine lv_iload_n hx hb dX6_tell_37 rfl (lv_at hl 4 rfl) ?_
  refine x_iast hx hb hK hH hS 23 0 80 (by decide) (fun _ _ => rfl) ((5 * (mgN σ % 16)) + 2) ((tagA ((tagM ((rfl : (5 : Int32) = nI 5)) rfl)) ((rfl : (2 : Int32) = nI 2)))) (by omega) (by decide) dX6_tell_38 (fun H locs hH hS => ?_)
  refine lv_aload_n hx hb dX6_tell_39 rfl (lv_at hl 1 rfl) ?_
  refine fgX6_37 hx hb hts hown hK hH 0 (by decide) dX6_tell_40 ?_
  refine lv_iload hx hb dX6_tell_43 (lv_at hl 0 rfl) ?_
  refine lv_iconst (v := 3) hx hb dX6_tell_45 (by decide) ?_
  refine lv_iadd hx hb dX6_tell_46 ?_
  refine lv_iload hx hb dX6_tell_47 (lv_at hl 5 rfl) ?_
  refine x_iast hx hb hK hH hS 23 0 80 (by decide) (fun _ _ => rfl) ((5 * (mgN σ % 16)) + 3) ((tagA ((tagM ((rfl : (5 : Int32) = nI 5)) rfl)) ((rfl : (3 : Int32) = nI 3)))) (by omega) (by decide) dX6_tell_49 (fun H locs hH hS => ?_)
  refine lv_aload_n hx hb dX6_tell_50 rfl (lv_at hl 1 rfl) ?_
  refine fgX6_37 hx hb hts hown hK hH 0 (by decide) dX6_tell_51 ?_
  refine lv_iload hx hb dX6_tell_54 (lv_at hl 0 rfl) ?_
  refine lv_iconst (v := 4) hx hb dX6_tell_56 (by decide) ?_
  refine lv_iadd hx hb dX6_tell_57 ?_
  refine lv_aload_n hx hb dX6_tell_58 rfl (lv_at hl 1 rfl) ?_
  refine fgX6_59 hx hb hts hown hK hH 0 (by decide) dX6_tell_59 ?_
  refine x_iast hx hb hK hH hS 23 0 80 (by decide) (fun _ _ => rfl) ((5 * (mgN σ % 16)) + 4) ((tagA ((tagM ((rfl : (5 : Int32) = nI 5)) rfl)) ((rfl : (4 : Int32) = nI 4)))) (by omega) (by decide) dX6_tell_62 (fun H locs hH hS => ?_)
  refine lv_aload_n hx hb dX6_tell_63 rfl (lv_at hl 1 rfl) ?_
  refine lv_dup hx hb dX6_tell_64 rfl ?_
  refine fgX6_62 hx hb hts hown hK hH 0 (by decide) dX6_tell_65 ?_
  refine lv_iconst (v := 1) hx hb dX6_tell_68 (by decide) ?_
  refine lv_iadd hx hb dX6_tell_69 ?_
  refine fpX6_62 hx hb hts hown hK hH hS 0 (by decide) dX6_tell_70 (fun H locs hH hS => ?_)
  refine lv_aload_n hx hb dX6_tell_73 rfl (lv_at hl 1 rfl) ?_
  refine lv_iload_n hx hb dX6_tell_74 rfl (lv_at hl 4 rfl) ?_
  refine lv_iload hx hb dX6_tell_75 (lv_at hl 5 rfl) ?_
  refine e_cv (e_runV (C := RX6) (ci := 6) (As := [.int (nI t), .int (x)]) (rest := []) ⟨hx, hb, hml, hown, hts⟩ (k_X6_push l D cs b (sI (sI (sI (sI (sI (sI σ 23 0 (5 * (mgN σ % 16)) (nI k)) 23 0 ((5 * (mgN σ % 16)) + 1) u) 23 0 ((5 * (mgN σ % 16)) + 2) (nI t)) 23 0 ((5 * (mgN σ % 16)) + 3) x) 23 0 ((5 * (mgN σ % 16)) + 4) (gI (sI (sI (sI (sI σ 23 0 (5 * (mgN σ % 16)) (nI k)) 23 0 ((5 * (mgN σ % 16)) + 1) u) 23 0 ((5 * (mgN σ % 16)) + 2) (nI t)) 23 0 ((5 * (mgN σ % 16)) + 3) x) 13 0 11)) 13 0 14 ((gI (sI (sI (sI (sI (sI σ 23 0 (5 * (mgN σ % 16)) (nI k)) 23 0 ((5 * (mgN σ % 16)) + 1) u) 23 0 ((5 * (mgN σ % 16)) + 2) (nI t)) 23 0 ((5 * (mgN σ % 16)) + 3) x) 23 0 ((5 * (mgN σ % 16)) + 4) (gI (sI (sI (sI (sI σ 23 0 (5 * (mgN σ % 16)) (nI k)) 23 0 ((5 * (mgN σ % 16)) + 1) u) 23 0 ((5 * (mgN σ % 16)) + 2) (nI t)) 23 0 ((5 * (mgN σ % 16)) + 3) x) 13 0 11)) 13 0 14) + 1)) t x (by first | assumption | omega | decide)) ⟨callB_of 2 hts (gC wC_X6_push) rfl rfl rfl (hts _ wi_X6) (hts _ wM_X6_65) (by decide +kernel) (by decide), hts _ wN_X6_push, hts _ wS_X6_push⟩ hK hH (xo_ok (by decide)).2.2 (Ex_at cs b (sI (sI (sI (sI (sI (sI σ 23 0 (5 * (mgN σ % 16)) (nI k)) 23 0 ((5 * (mgN σ % 16)) + 1) u) 23 0 ((5 * (mgN σ % 16)) + 2) (nI t)) 23 0 ((5 * (mgN σ % 16)) + 3) x) 23 0 ((5 * (mgN σ % 16)) + 4) (gI (sI (sI (sI (sI σ 23 0 (5 * (mgN σ % 16)) (nI k)) 23 0 ((5 * (mgN σ % 16)) + 1) u) 23 0 ((5 * (mgN σ % 16)) + 2) (nI t)) 23 0 ((5 * (mgN σ % 16)) + 3) x) 13 0 11)) 13 0 14 ((gI (sI (sI (sI (sI (sI σ 23 0 (5 * (mgN σ % 16)) (nI k)) 23 0 ((5 * (mgN σ % 16)) + 1) u) 23 0 ((5 * (mgN σ % 16)) + 2) (nI t)) 23 0 ((5 * (mgN σ % 16)) + 3) x) 23 0 ((5 * (mgN σ % 16)) + 4) (gI (sI (sI (sI (sI σ 23 0 (5 * (mgN σ % 16)) (nI k)) 23 0 ((5 * (mgN σ % 16)) + 1) u) 23 0 ((5 * (mgN σ % 16)) + 2) (nI t)) 23 0 ((5 * (mgN σ % 16)) + 3) x) 13 0 11)) 13 0 14) + 1)) (by decide)) rfl rfl rfl hl.1 rfl (Nat.le_of_ble_eq_true rfl) dX6_tell_77 (by decide)) hS (fun H locs hH hS => ?_)
  refine lv_aload_n hx hb dX6_tell_80 rfl (lv_at hl 1 rfl) ?_
  refine fgX6_34 hx hb hts hown hK hH 0 (by decide) dX6_tell_81 ?_
  refine lv_iload_n hx hb dX6_tell_84 rfl (lv_at hl 2 rfl) ?_
  refine lv_iconst (v := 0) hx hb dX6_tell_85 (by decide) ?_
  refine x_iast hx hb hK hH hS 22 0 4 (by decide) (fun _ _ => rfl) k rfl (by omega) (by decide) dX6_tell_86 (fun H locs hH hS => ?_)
  exact e_vret hx hb hr hlk hK hH hS dX6_tell_87 (congrArg (Ex cs b) (by simp only [f_X6_tell]))
def f_X6_send (σ : St) (p : Nat) (k : Nat) : St := (if gI σ 22 0 k < 8 then (if gI (f_X6_pull σ p) 22 0 k = 0 then sI (sI (sI (f_X6_pull σ p) 15 0 p 3) 21 0 p (gI σ 18 0 (7 * p))) 22 0 k (8 + (nI p)) else f_X6_atEnd (f_X6_tell (f_X6_pull σ p) k (nI p) (chN σ k % 8) (gI σ 18 0 (7 * p))) (chN σ k % 8)) else (if 16 ≤ gI σ 22 0 k then (if gI (f_X6_pull σ p) 22 0 k = 0 then sI (sI (sI (f_X6_pull σ p) 15 0 p 3) 21 0 p (gI σ 18 0 (7 * p))) 22 0 k (8 + (nI p)) else f_X6_atEnd (f_X6_tell (f_X6_pull σ p) k (nI p) (chN σ k % 8) (gI σ 18 0 (7 * p))) (chN σ k % 8)) else sI (sI σ 15 0 p 5) 17 0 p ((gI (sI σ 15 0 p 5) 17 0 p) - 1)))
set_option maxRecDepth 100000 in
set_option maxHeartbeats 4000000 in
theorem k_X6_send (l : Launch) (D : va_G) (cs : Nat → ClassId) (b : Nat) (σ : St) (p : Nat) (k : Nat) (hp : p < 8) (hk4 : k < 4) (N : Nat) (hM : okMg N σ) (hN : N < 2 ^ 30) (hC : okCh σ) : Met l yX6_send (Cond.code yX6_send cX6_send 5 (none : Option FieldType) :: T0) { frames := 2, cells := 0, slots := 0, locals := 47 } (Pe D (tyx cs) b 43 (Ex cs b σ) [.ref (b + xo 13 0), .int (nI p), .int (nI k)]) (Qv D (tyx cs) b 43 (Ex cs b (f_X6_send σ p k))) 0 0 (fun a => b ≤ a) := by
  refine e_met (by decide) rfl (Nat.le_of_ble_eq_true rfl) (fun pg e s m below meth c ls hx hb hr hml hts0 hown hlk hnm hH hK hl hS => ?_)
  have hts : ∀ w ∈ T0, w.before _ s = true := fun w h => hts0 w (List.mem_cons_of_mem _ h)
  have hl : lv_has ls 5 [(0, .ref (b + xo 13 0)), (1, .int (nI p)), (2, .int (nI k))] := hl
  refine lv_aload_n hx hb dX6_send_0 rfl (lv_at hl 0 rfl) ?_
  refine fgX6_34 hx hb hts hown hK hH 0 (by decide) dX6_send_1 ?_
  refine lv_iload_n hx hb dX6_send_4 rfl (lv_at hl 2 rfl) ?_
  refine x_iald hx hb hK hH 22 0 4 (by decide) rfl k rfl (by omega) (by decide) dX6_send_5 ?_
  refine lv_bipush (v := 8) hx hb dX6_send_6 (by decide) ?_
  refine lv_irem hx hb dX6_send_8 (by decide) ?_
  rw [rem8 hC hk4]
  refine lv_istore_n (lv' := [(3, .int (nI (chN σ k % 8))), (0, .ref (b + xo 13 0)), (1, .int (nI p)), (2, .int (nI k))]) hx hb dX6_send_9 rfl hl (by decide) rfl (fun ls hl => ?_)
  refine lv_aload_n hx hb dX6_send_10 rfl (lv_at hl 1 rfl) ?_
  refine fgX6_22 hx hb hts hown hK hH 0 (by decide) dX6_send_11 ?_
  refine lv_bipush (v := 7) hx hb dX6_send_14 (by decide) ?_
  refine lv_iload_n hx hb dX6_send_16 rfl (lv_at hl 2 rfl) ?_
  refine lv_imul hx hb dX6_send_17 ?_
  refine x_iald hx hb hK hH 18 0 56 (by decide) rfl (7 * p) ((tagM ((rfl : (7 : Int32) = nI 7)) rfl)) (by omega) (by decide) dX6_send_18 ?_
  refine lv_istore (lv' := [(4, .int (gI σ 18 0 (7 * p))), (3, .int (nI (chN σ k % 8))), (0, .ref (b + xo 13 0)), (1, .int (nI p)), (2, .int (nI k))]) hx hb dX6_send_19 hl (by decide) rfl (fun ls hl => ?_)
  refine lv_aload_n hx hb dX6_send_21 rfl (lv_at hl 2 rfl) ?_
  refine fgX6_34 hx hb hts hown hK hH 0 (by decide) dX6_send_22 ?_
  refine lv_iload_n hx hb dX6_send_25 rfl (lv_at hl 4 rfl) ?_
  refine x_iald hx hb hK hH 22 0 4 (by decide) rfl k rfl (by omega) (by decide) dX6_send_26 ?_
  refine lv_bipush (v := 8) hx hb dX6_send_27 (by decide) ?_
  refine lv_icmp_lt (tgt := 61) hx hb dX6_send_29 (by decide) (fun c_29_1 => ?_) (fun c_29_1 => ?_)
  ·
    refine lv_aload_n hx hb dX6_send_61 rfl (lv_at hl 2 rfl) ?_
    refine lv_iload_n hx hb dX6_send_62 rfl (lv_at hl 3 rfl) ?_
    refine e_cv (e_runV (C := RX6) (ci := 6) (As := [.int (nI p)]) (rest := []) ⟨hx, hb, hml, hown, hts⟩ (k_X6_pull l D cs b σ p (by first | assumption | omega | decide)) ⟨callB_of 1 hts (gC wC_X6_pull) rfl rfl rfl (hts _ wi_X6) (hts _ wM_X6_69) (by decide +kernel) (by decide), hts _ wN_X6_pull, hts _ wS_X6_pull⟩ hK hH (xo_ok (by decide)).2.2 (Ex_at cs b σ (by decide)) rfl rfl rfl hl.1 rfl (Nat.le_of_ble_eq_true rfl) dX6_send_63 (by decide)) hS (fun H locs hH hS => ?_)
    refine lv_aload_n hx hb dX6_send_66 rfl (lv_at hl 2 rfl) ?_
    refine fgX6_34 hx hb hts hown hK hH 0 (by decide) dX6_send_67 ?_
    refine lv_iload_n hx hb dX6_send_70 rfl (lv_at hl 4 rfl) ?_
    refine x_iald hx hb hK hH 22 0 4 (by decide) rfl k rfl (by omega) (by decide) dX6_send_71 ?_
    refine lv_if_ne (tgt := 103) hx hb dX6_send_72 (by decide) (fun c_72_2 => ?_) (fun c_72_2 => ?_)
    ·
      refine lv_aload_n hx hb dX6_send_103 rfl (lv_at hl 2 rfl) ?_
      refine lv_iload_n hx hb dX6_send_104 rfl (lv_at hl 4 rfl) ?_
      refine lv_iload_n hx hb dX6_send_105 rfl (lv_at hl 3 rfl) ?_
      refine lv_iload_n hx hb dX6_send_106 rfl (lv_at hl 1 rfl) ?_
      refine lv_iload hx hb dX6_send_107 (lv_at hl 0 rfl) ?_
      refine e_cv (e_runV (C := RX6) (ci := 6) (As := [.int (nI k), .int (nI p), .int (nI (chN σ k % 8)), .int (gI σ 18 0 (7 * p))]) (rest := []) ⟨hx, hb, hml, hown, hts⟩ (k_X6_tell l D cs b (f_X6_pull σ p) k (nI p) (chN σ k % 8) (gI σ 18 0 (7 * p)) (by assumption) (by omega) N hM hN) ⟨callB_of 4 hts (gC wC_X6_tell) rfl rfl rfl (hts _ wi_X6) (hts _ wM_X6_72) (by decide +kernel) (by decide), hts _ wN_X6_tell, hts _ wS_X6_tell⟩ hK hH (xo_ok (by decide)).2.2 (Ex_at cs b (f_X6_pull σ p) (by decide)) rfl rfl rfl hl.1 rfl (Nat.le_of_ble_eq_true rfl) dX6_send_109 (by decide)) hS (fun H locs hH hS => ?_)
      refine lv_aload_n hx hb dX6_send_112 rfl (lv_at hl 2 rfl) ?_
      refine lv_iload_n hx hb dX6_send_113 rfl (lv_at hl 1 rfl) ?_
      refine e_cv (e_runV (C := RX6) (ci := 6) (As := [.int (nI (chN σ k % 8))]) (rest := []) ⟨hx, hb, hml, hown, hts⟩ (k_X6_atEnd l D cs b (f_X6_tell (f_X6_pull σ p) k (nI p) (chN σ k % 8) (gI σ 18 0 (7 * p))) (chN σ k % 8) (by omega)) ⟨callB_of 1 hts (gC wC_X6_atEnd) rfl rfl rfl (hts _ wi_X6) (hts _ wM_X6_51) (by decide +kernel) (by decide), hts _ wN_X6_atEnd, hts _ wS_X6_atEnd⟩ hK hH (xo_ok (by decide)).2.2 (Ex_at cs b (f_X6_tell (f_X6_pull σ p) k (nI p) (chN σ k % 8) (gI σ 18 0 (7 * p))) (by decide)) rfl rfl rfl hl.1 rfl (Nat.le_of_ble_eq_true rfl) dX6_send_114 (by decide)) hS (fun H locs hH hS => ?_)
      exact e_vret hx hb hr hlk hK hH hS dX6_send_117 (congrArg (Ex cs b) (by simp only [f_X6_send, if_pos c_29_1, if_neg c_72_2]))
    ·
      refine lv_aload_n hx hb dX6_send_75 rfl (lv_at hl 2 rfl) ?_
      refine fgX6_13 hx hb hts hown hK hH 0 (by decide) dX6_send_76 ?_
      refine lv_iload_n hx hb dX6_send_79 rfl (lv_at hl 3 rfl) ?_
      refine lv_iconst (v := 3) hx hb dX6_send_80 (by decide) ?_
      refine x_iast hx hb hK hH hS 15 0 8 (by decide) (fun _ _ => rfl) p rfl (by omega) (by decide) dX6_send_81 (fun H locs hH hS => ?_)
      refine lv_aload_n hx hb dX6_send_82 rfl (lv_at hl 2 rfl) ?_
      refine fgX6_31 hx hb hts hown hK hH 0 (by decide) dX6_send_83 ?_
      refine lv_iload_n hx hb dX6_send_86 rfl (lv_at hl 3 rfl) ?_
      refine lv_iload hx hb dX6_send_87 (lv_at hl 0 rfl) ?_
      refine x_iast hx hb hK hH hS 21 0 8 (by decide) (fun _ _ => rfl) p rfl (by omega) (by decide) dX6_send_89 (fun H locs hH hS => ?_)
      refine lv_aload_n hx hb dX6_send_90 rfl (lv_at hl 2 rfl) ?_
      refine fgX6_34 hx hb hts hown hK hH 0 (by decide) dX6_send_91 ?_
      refine lv_iload_n hx hb dX6_send_94 rfl (lv_at hl 4 rfl) ?_
      refine lv_bipush (v := 8) hx hb dX6_send_95 (by decide) ?_
      refine lv_iload_n hx hb dX6_send_97 rfl (lv_at hl 3 rfl) ?_
      refine lv_iadd hx hb dX6_send_98 ?_
      refine x_iast hx hb hK hH hS 22 0 4 (by decide) (fun _ _ => rfl) k rfl (by omega) (by decide) dX6_send_99 (fun H locs hH hS => ?_)
      refine lv_goto (tgt := 117) hx hb dX6_send_100 (by decide) ?_
      exact e_vret hx hb hr hlk hK hH hS dX6_send_117 (congrArg (Ex cs b) (by simp only [f_X6_send, if_pos c_29_1, if_pos c_72_2]))
  ·
    refine lv_aload_n hx hb dX6_send_32 rfl (lv_at hl 2 rfl) ?_
    refine fgX6_34 hx hb hts hown hK hH 0 (by decide) dX6_send_33 ?_
    refine lv_iload_n hx hb dX6_send_36 rfl (lv_at hl 4 rfl) ?_
    refine x_iald hx hb hK hH 22 0 4 (by decide) rfl k rfl (by omega) (by decide) dX6_send_37 ?_
    refine lv_bipush (v := 16) hx hb dX6_send_38 (by decide) ?_
    refine lv_icmp_ge (tgt := 61) hx hb dX6_send_40 (by decide) (fun c_40_3 => ?_) (fun c_40_3 => ?_)
    ·
      refine lv_aload_n hx hb dX6_send_61 rfl (lv_at hl 2 rfl) ?_
      refine lv_iload_n hx hb dX6_send_62 rfl (lv_at hl 3 rfl) ?_
      refine e_cv (e_runV (C := RX6) (ci := 6) (As := [.int (nI p)]) (rest := []) ⟨hx, hb, hml, hown, hts⟩ (k_X6_pull l D cs b σ p (by first | assumption | omega | decide)) ⟨callB_of 1 hts (gC wC_X6_pull) rfl rfl rfl (hts _ wi_X6) (hts _ wM_X6_69) (by decide +kernel) (by decide), hts _ wN_X6_pull, hts _ wS_X6_pull⟩ hK hH (xo_ok (by decide)).2.2 (Ex_at cs b σ (by decide)) rfl rfl rfl hl.1 rfl (Nat.le_of_ble_eq_true rfl) dX6_send_63 (by decide)) hS (fun H locs hH hS => ?_)
      refine lv_aload_n hx hb dX6_send_66 rfl (lv_at hl 2 rfl) ?_
      refine fgX6_34 hx hb hts hown hK hH 0 (by decide) dX6_send_67 ?_
      refine lv_iload_n hx hb dX6_send_70 rfl (lv_at hl 4 rfl) ?_
      refine x_iald hx hb hK hH 22 0 4 (by decide) rfl k rfl (by omega) (by decide) dX6_send_71 ?_
      refine lv_if_ne (tgt := 103) hx hb dX6_send_72 (by decide) (fun c_72_4 => ?_) (fun c_72_4 => ?_)
      ·
        refine lv_aload_n hx hb dX6_send_103 rfl (lv_at hl 2 rfl) ?_
        refine lv_iload_n hx hb dX6_send_104 rfl (lv_at hl 4 rfl) ?_
        refine lv_iload_n hx hb dX6_send_105 rfl (lv_at hl 3 rfl) ?_
        refine lv_iload_n hx hb dX6_send_106 rfl (lv_at hl 1 rfl) ?_
        refine lv_iload hx hb dX6_send_107 (lv_at hl 0 rfl) ?_
        refine e_cv (e_runV (C := RX6) (ci := 6) (As := [.int (nI k), .int (nI p), .int (nI (chN σ k % 8)), .int (gI σ 18 0 (7 * p))]) (rest := []) ⟨hx, hb, hml, hown, hts⟩ (k_X6_tell l D cs b (f_X6_pull σ p) k (nI p) (chN σ k % 8) (gI σ 18 0 (7 * p)) (by assumption) (by omega) N hM hN) ⟨callB_of 4 hts (gC wC_X6_tell) rfl rfl rfl (hts _ wi_X6) (hts _ wM_X6_72) (by decide +kernel) (by decide), hts _ wN_X6_tell, hts _ wS_X6_tell⟩ hK hH (xo_ok (by decide)).2.2 (Ex_at cs b (f_X6_pull σ p) (by decide)) rfl rfl rfl hl.1 rfl (Nat.le_of_ble_eq_true rfl) dX6_send_109 (by decide)) hS (fun H locs hH hS => ?_)
        refine lv_aload_n hx hb dX6_send_112 rfl (lv_at hl 2 rfl) ?_
        refine lv_iload_n hx hb dX6_send_113 rfl (lv_at hl 1 rfl) ?_
        refine e_cv (e_runV (C := RX6) (ci := 6) (As := [.int (nI (chN σ k % 8))]) (rest := []) ⟨hx, hb, hml, hown, hts⟩ (k_X6_atEnd l D cs b (f_X6_tell (f_X6_pull σ p) k (nI p) (chN σ k % 8) (gI σ 18 0 (7 * p))) (chN σ k % 8) (by omega)) ⟨callB_of 1 hts (gC wC_X6_atEnd) rfl rfl rfl (hts _ wi_X6) (hts _ wM_X6_51) (by decide +kernel) (by decide), hts _ wN_X6_atEnd, hts _ wS_X6_atEnd⟩ hK hH (xo_ok (by decide)).2.2 (Ex_at cs b (f_X6_tell (f_X6_pull σ p) k (nI p) (chN σ k % 8) (gI σ 18 0 (7 * p))) (by decide)) rfl rfl rfl hl.1 rfl (Nat.le_of_ble_eq_true rfl) dX6_send_114 (by decide)) hS (fun H locs hH hS => ?_)
        exact e_vret hx hb hr hlk hK hH hS dX6_send_117 (congrArg (Ex cs b) (by simp only [f_X6_send, if_neg c_29_1, if_pos c_40_3, if_neg c_72_4]))
      ·
        refine lv_aload_n hx hb dX6_send_75 rfl (lv_at hl 2 rfl) ?_
        refine fgX6_13 hx hb hts hown hK hH 0 (by decide) dX6_send_76 ?_
        refine lv_iload_n hx hb dX6_send_79 rfl (lv_at hl 3 rfl) ?_
        refine lv_iconst (v := 3) hx hb dX6_send_80 (by decide) ?_
        refine x_iast hx hb hK hH hS 15 0 8 (by decide) (fun _ _ => rfl) p rfl (by omega) (by decide) dX6_send_81 (fun H locs hH hS => ?_)
        refine lv_aload_n hx hb dX6_send_82 rfl (lv_at hl 2 rfl) ?_
        refine fgX6_31 hx hb hts hown hK hH 0 (by decide) dX6_send_83 ?_
        refine lv_iload_n hx hb dX6_send_86 rfl (lv_at hl 3 rfl) ?_
        refine lv_iload hx hb dX6_send_87 (lv_at hl 0 rfl) ?_
        refine x_iast hx hb hK hH hS 21 0 8 (by decide) (fun _ _ => rfl) p rfl (by omega) (by decide) dX6_send_89 (fun H locs hH hS => ?_)
        refine lv_aload_n hx hb dX6_send_90 rfl (lv_at hl 2 rfl) ?_
        refine fgX6_34 hx hb hts hown hK hH 0 (by decide) dX6_send_91 ?_
        refine lv_iload_n hx hb dX6_send_94 rfl (lv_at hl 4 rfl) ?_
        refine lv_bipush (v := 8) hx hb dX6_send_95 (by decide) ?_
        refine lv_iload_n hx hb dX6_send_97 rfl (lv_at hl 3 rfl) ?_
        refine lv_iadd hx hb dX6_send_98 ?_
        refine x_iast hx hb hK hH hS 22 0 4 (by decide) (fun _ _ => rfl) k rfl (by omega) (by decide) dX6_send_99 (fun H locs hH hS => ?_)
        refine lv_goto (tgt := 117) hx hb dX6_send_100 (by decide) ?_
        exact e_vret hx hb hr hlk hK hH hS dX6_send_117 (congrArg (Ex cs b) (by simp only [f_X6_send, if_neg c_29_1, if_pos c_40_3, if_pos c_72_4]))
    ·
      refine lv_aload_n hx hb dX6_send_43 rfl (lv_at hl 2 rfl) ?_
      refine fgX6_13 hx hb hts hown hK hH 0 (by decide) dX6_send_44 ?_
      refine lv_iload_n hx hb dX6_send_47 rfl (lv_at hl 3 rfl) ?_
      refine lv_iconst (v := 5) hx hb dX6_send_48 (by decide) ?_
      refine x_iast hx hb hK hH hS 15 0 8 (by decide) (fun _ _ => rfl) p rfl (by omega) (by decide) dX6_send_49 (fun H locs hH hS => ?_)
      refine lv_aload_n hx hb dX6_send_50 rfl (lv_at hl 2 rfl) ?_
      refine fgX6_19 hx hb hts hown hK hH 0 (by decide) dX6_send_51 ?_
      refine lv_iload_n hx hb dX6_send_54 rfl (lv_at hl 3 rfl) ?_
      refine lv_dup2_11 hx hb dX6_send_55 rfl rfl ?_
      refine x_iald hx hb hK hH 17 0 8 (by decide) rfl p rfl (by omega) (by decide) dX6_send_56 ?_
      refine lv_iconst (v := 1) hx hb dX6_send_57 (by decide) ?_
      refine lv_isub hx hb dX6_send_58 ?_
      refine x_iast hx hb hK hH hS 17 0 8 (by decide) (fun _ _ => rfl) p rfl (by omega) (by decide) dX6_send_59 (fun H locs hH hS => ?_)
      exact e_vret hx hb hr hlk hK hH hS dX6_send_60 (congrArg (Ex cs b) (by simp only [f_X6_send, if_neg c_29_1, if_neg c_40_3]))
def f_X6_receive (σ : St) (p : Nat) (k : Nat) : St := (if gI σ 22 0 k < 16 then (if gI σ 22 0 k = 0 then sI (sI σ 15 0 p 3) 22 0 k (16 + (nI p)) else f_X6_atEnd (f_X6_tell σ k (nI (chN σ k % 8)) p (gI σ 21 0 (chN σ k % 8))) (chN σ k % 8)) else sI (sI σ 15 0 p 5) 17 0 p ((gI (sI σ 15 0 p 5) 17 0 p) - 1))
set_option maxRecDepth 100000 in
set_option maxHeartbeats 4000000 in
theorem k_X6_receive (l : Launch) (D : va_G) (cs : Nat → ClassId) (b : Nat) (σ : St) (p : Nat) (k : Nat) (hp : p < 8) (hk4 : k < 4) (N : Nat) (hM : okMg N σ) (hN : N < 2 ^ 30) (hC : okCh σ) : Met l yX6_receive (Cond.code yX6_receive cX6_receive 4 (none : Option FieldType) :: T0) { frames := 2, cells := 0, slots := 0, locals := 47 } (Pe D (tyx cs) b 43 (Ex cs b σ) [.ref (b + xo 13 0), .int (nI p), .int (nI k)]) (Qv D (tyx cs) b 43 (Ex cs b (f_X6_receive σ p k))) 0 0 (fun a => b ≤ a) := by
  refine e_met (by decide) rfl (Nat.le_of_ble_eq_true rfl) (fun pg e s m below meth c ls hx hb hr hml hts0 hown hlk hnm hH hK hl hS => ?_)
  have hts : ∀ w ∈ T0, w.before _ s = true := fun w h => hts0 w (List.mem_cons_of_mem _ h)
  have hl : lv_has ls 4 [(0, .ref (b + xo 13 0)), (1, .int (nI p)), (2, .int (nI k))] := hl
  refine lv_aload_n hx hb dX6_receive_0 rfl (lv_at hl 0 rfl) ?_
  refine fgX6_34 hx hb hts hown hK hH 0 (by decide) dX6_receive_1 ?_
  refine lv_iload_n hx hb dX6_receive_4 rfl (lv_at hl 2 rfl) ?_
  refine x_iald hx hb hK hH 22 0 4 (by decide) rfl k rfl (by omega) (by decide) dX6_receive_5 ?_
  refine lv_bipush (v := 8) hx hb dX6_receive_6 (by decide) ?_
  refine lv_irem hx hb dX6_receive_8 (by decide) ?_
  rw [rem8 hC hk4]
  refine lv_istore_n (lv' := [(3, .int (nI (chN σ k % 8))), (0, .ref (b + xo 13 0)), (1, .int (nI p)), (2, .int (nI k))]) hx hb dX6_receive_9 rfl hl (by decide) rfl (fun ls hl => ?_)
  refine lv_aload_n hx hb dX6_receive_10 rfl (lv_at hl 1 rfl) ?_
  refine fgX6_34 hx hb hts hown hK hH 0 (by decide) dX6_receive_11 ?_
  refine lv_iload_n hx hb dX6_receive_14 rfl (lv_at hl 3 rfl) ?_
  refine x_iald hx hb hK hH 22 0 4 (by decide) rfl k rfl (by omega) (by decide) dX6_receive_15 ?_
  refine lv_bipush (v := 16) hx hb dX6_receive_16 (by decide) ?_
  refine lv_icmp_lt (tgt := 41) hx hb dX6_receive_18 (by decide) (fun c_18_1 => ?_) (fun c_18_1 => ?_)
  ·
    refine lv_aload_n hx hb dX6_receive_41 rfl (lv_at hl 1 rfl) ?_
    refine fgX6_34 hx hb hts hown hK hH 0 (by decide) dX6_receive_42 ?_
    refine lv_iload_n hx hb dX6_receive_45 rfl (lv_at hl 3 rfl) ?_
    refine x_iald hx hb hK hH 22 0 4 (by decide) rfl k rfl (by omega) (by decide) dX6_receive_46 ?_
    refine lv_if_ne (tgt := 70) hx hb dX6_receive_47 (by decide) (fun c_47_2 => ?_) (fun c_47_2 => ?_)
    ·
      refine lv_aload_n hx hb dX6_receive_70 rfl (lv_at hl 1 rfl) ?_
      refine lv_iload_n hx hb dX6_receive_71 rfl (lv_at hl 3 rfl) ?_
      refine lv_iload_n hx hb dX6_receive_72 rfl (lv_at hl 0 rfl) ?_
      refine lv_iload_n hx hb dX6_receive_73 rfl (lv_at hl 2 rfl) ?_
      refine lv_aload_n hx hb dX6_receive_74 rfl (lv_at hl 1 rfl) ?_
      refine fgX6_31 hx hb hts hown hK hH 0 (by decide) dX6_receive_75 ?_
      refine lv_iload_n hx hb dX6_receive_78 rfl (lv_at hl 0 rfl) ?_
      refine x_iald hx hb hK hH 21 0 8 (by decide) rfl (chN σ k % 8) rfl (by omega) (by decide) dX6_receive_79 ?_
      refine e_cv (e_runV (C := RX6) (ci := 6) (As := [.int (nI k), .int (nI (chN σ k % 8)), .int (nI p), .int (gI σ 21 0 (chN σ k % 8))]) (rest := []) ⟨hx, hb, hml, hown, hts⟩ (k_X6_tell l D cs b σ k (nI (chN σ k % 8)) p (gI σ 21 0 (chN σ k % 8)) (by assumption) (by omega) N hM hN) ⟨callB_of 4 hts (gC wC_X6_tell) rfl rfl rfl (hts _ wi_X6) (hts _ wM_X6_72) (by decide +kernel) (by decide), hts _ wN_X6_tell, hts _ wS_X6_tell⟩ hK hH (xo_ok (by decide)).2.2 (Ex_at cs b σ (by decide)) rfl rfl rfl hl.1 rfl (Nat.le_of_ble_eq_true rfl) dX6_receive_80 (by decide)) hS (fun H locs hH hS => ?_)
      refine lv_aload_n hx hb dX6_receive_83 rfl (lv_at hl 1 rfl) ?_
      refine lv_iload_n hx hb dX6_receive_84 rfl (lv_at hl 0 rfl) ?_
      refine e_cv (e_runV (C := RX6) (ci := 6) (As := [.int (nI (chN σ k % 8))]) (rest := []) ⟨hx, hb, hml, hown, hts⟩ (k_X6_atEnd l D cs b (f_X6_tell σ k (nI (chN σ k % 8)) p (gI σ 21 0 (chN σ k % 8))) (chN σ k % 8) (by omega)) ⟨callB_of 1 hts (gC wC_X6_atEnd) rfl rfl rfl (hts _ wi_X6) (hts _ wM_X6_51) (by decide +kernel) (by decide), hts _ wN_X6_atEnd, hts _ wS_X6_atEnd⟩ hK hH (xo_ok (by decide)).2.2 (Ex_at cs b (f_X6_tell σ k (nI (chN σ k % 8)) p (gI σ 21 0 (chN σ k % 8))) (by decide)) rfl rfl rfl hl.1 rfl (Nat.le_of_ble_eq_true rfl) dX6_receive_85 (by decide)) hS (fun H locs hH hS => ?_)
      exact e_vret hx hb hr hlk hK hH hS dX6_receive_88 (congrArg (Ex cs b) (by simp only [f_X6_receive, if_pos c_18_1, if_neg c_47_2]))
    ·
      refine lv_aload_n hx hb dX6_receive_50 rfl (lv_at hl 1 rfl) ?_
      refine fgX6_13 hx hb hts hown hK hH 0 (by decide) dX6_receive_51 ?_
      refine lv_iload_n hx hb dX6_receive_54 rfl (lv_at hl 2 rfl) ?_
      refine lv_iconst (v := 3) hx hb dX6_receive_55 (by decide) ?_
      refine x_iast hx hb hK hH hS 15 0 8 (by decide) (fun _ _ => rfl) p rfl (by omega) (by decide) dX6_receive_56 (fun H locs hH hS => ?_)
      refine lv_aload_n hx hb dX6_receive_57 rfl (lv_at hl 1 rfl) ?_
      refine fgX6_34 hx hb hts hown hK hH 0 (by decide) dX6_receive_58 ?_
      refine lv_iload_n hx hb dX6_receive_61 rfl (lv_at hl 3 rfl) ?_
      refine lv_bipush (v := 16) hx hb dX6_receive_62 (by decide) ?_
      refine lv_iload_n hx hb dX6_receive_64 rfl (lv_at hl 2 rfl) ?_
      refine lv_iadd hx hb dX6_receive_65 ?_
      refine x_iast hx hb hK hH hS 22 0 4 (by decide) (fun _ _ => rfl) k rfl (by omega) (by decide) dX6_receive_66 (fun H locs hH hS => ?_)
      refine lv_goto (tgt := 88) hx hb dX6_receive_67 (by decide) ?_
      exact e_vret hx hb hr hlk hK hH hS dX6_receive_88 (congrArg (Ex cs b) (by simp only [f_X6_receive, if_pos c_18_1, if_pos c_47_2]))
  ·
    refine lv_aload_n hx hb dX6_receive_21 rfl (lv_at hl 1 rfl) ?_
    refine fgX6_13 hx hb hts hown hK hH 0 (by decide) dX6_receive_22 ?_
    refine lv_iload_n hx hb dX6_receive_25 rfl (lv_at hl 2 rfl) ?_
    refine lv_iconst (v := 5) hx hb dX6_receive_26 (by decide) ?_
    refine x_iast hx hb hK hH hS 15 0 8 (by decide) (fun _ _ => rfl) p rfl (by omega) (by decide) dX6_receive_27 (fun H locs hH hS => ?_)
    refine lv_aload_n hx hb dX6_receive_28 rfl (lv_at hl 1 rfl) ?_
    refine fgX6_19 hx hb hts hown hK hH 0 (by decide) dX6_receive_29 ?_
    refine lv_iload_n hx hb dX6_receive_32 rfl (lv_at hl 2 rfl) ?_
    refine lv_dup2_11 hx hb dX6_receive_33 rfl rfl ?_
    refine x_iald hx hb hK hH 17 0 8 (by decide) rfl p rfl (by omega) (by decide) dX6_receive_34 ?_
    refine lv_iconst (v := 1) hx hb dX6_receive_35 (by decide) ?_
    refine lv_isub hx hb dX6_receive_36 ?_
    refine x_iast hx hb hK hH hS 17 0 8 (by decide) (fun _ _ => rfl) p rfl (by omega) (by decide) dX6_receive_37 (fun H locs hH hS => ?_)
    refine lv_goto (tgt := 88) hx hb dX6_receive_38 (by decide) ?_
    exact e_vret hx hb hr hlk hK hH hS dX6_receive_88 (congrArg (Ex cs b) (by simp only [f_X6_receive, if_neg c_18_1]))
def f_X6_value (σ : St) (x : Int32) (y : Int32) (z : Int32) : Int32 := (if x = 4 then z + y else (if x = 5 then z - y else (if x = 6 then z * y else (if z ≤ y then 0 else 1))))
set_option maxRecDepth 100000 in
set_option maxHeartbeats 4000000 in
theorem k_X6_value (l : Launch) (D : va_G) (cs : Nat → ClassId) (b : Nat) (σ : St) (x : Int32) (y : Int32) (z : Int32)  : Met l yX6_value (Cond.code yX6_value cX6_value 3 (some FieldType.int) :: T0) { frames := 0, cells := 0, slots := 0, locals := 0 } (Pe D (tyx cs) b 43 (Ex cs b σ) [.int (x), .int (y), .int (z)]) (Qi D (tyx cs) b 43 (Ex cs b σ) (f_X6_value σ x y z)) 0 0 (fun a => b ≤ a) := by
  refine e_met (by decide) rfl (Nat.le_of_ble_eq_true rfl) (fun pg e s m below meth c ls hx hb hr hml hts0 hown hlk hnm hH hK hl hS => ?_)
  have hts : ∀ w ∈ T0, w.before _ s = true := fun w h => hts0 w (List.mem_cons_of_mem _ h)
  have hl : lv_has ls 3 [(0, .int (x)), (1, .int (y)), (2, .int (z))] := hl
  refine lv_iload_n hx hb dX6_value_0 rfl (lv_at hl 0 rfl) ?_
  refine lv_iconst (v := 4) hx hb dX6_value_1 (by decide) ?_
  refine lv_icmp_ne (tgt := 11) hx hb dX6_value_2 (by decide) (fun c_2_1 => ?_) (fun c_2_1 => ?_)
  ·
    refine lv_iload_n hx hb dX6_value_11 rfl (lv_at hl 0 rfl) ?_
    refine lv_iconst (v := 5) hx hb dX6_value_12 (by decide) ?_
    refine lv_icmp_ne (tgt := 22) hx hb dX6_value_13 (by decide) (fun c_13_2 => ?_) (fun c_13_2 => ?_)
    ·
      refine lv_iload_n hx hb dX6_value_22 rfl (lv_at hl 0 rfl) ?_
      refine lv_bipush (v := 6) hx hb dX6_value_23 (by decide) ?_
      refine lv_icmp_ne (tgt := 34) hx hb dX6_value_25 (by decide) (fun c_25_3 => ?_) (fun c_25_3 => ?_)
      ·
        refine lv_iload_n hx hb dX6_value_34 rfl (lv_at hl 2 rfl) ?_
        refine lv_iload_n hx hb dX6_value_35 rfl (lv_at hl 1 rfl) ?_
        refine lv_icmp_le (tgt := 43) hx hb dX6_value_36 (by decide) (fun c_36_4 => ?_) (fun c_36_4 => ?_)
        ·
          refine lv_iconst (v := 0) hx hb dX6_value_43 (by decide) ?_
          exact e_iret hx hb hr hlk hK hH hS dX6_value_44 (by simp only [f_X6_value, if_neg c_2_1, if_neg c_13_2, if_neg c_25_3, if_pos c_36_4]) rfl
        ·
          refine lv_iconst (v := 1) hx hb dX6_value_39 (by decide) ?_
          refine lv_goto (tgt := 44) hx hb dX6_value_40 (by decide) ?_
          exact e_iret hx hb hr hlk hK hH hS dX6_value_44 (by simp only [f_X6_value, if_neg c_2_1, if_neg c_13_2, if_neg c_25_3, if_neg c_36_4]) rfl
      ·
        refine lv_iload_n hx hb dX6_value_28 rfl (lv_at hl 2 rfl) ?_
        refine lv_iload_n hx hb dX6_value_29 rfl (lv_at hl 1 rfl) ?_
        refine lv_imul hx hb dX6_value_30 ?_
        refine lv_goto (tgt := 44) hx hb dX6_value_31 (by decide) ?_
        exact e_iret hx hb hr hlk hK hH hS dX6_value_44 (by simp only [f_X6_value, if_neg c_2_1, if_neg c_13_2, if_pos c_25_3]) rfl
    ·
      refine lv_iload_n hx hb dX6_value_16 rfl (lv_at hl 2 rfl) ?_
      refine lv_iload_n hx hb dX6_value_17 rfl (lv_at hl 1 rfl) ?_
      refine lv_isub hx hb dX6_value_18 ?_
      refine lv_goto (tgt := 44) hx hb dX6_value_19 (by decide) ?_
      exact e_iret hx hb hr hlk hK hH hS dX6_value_44 (by simp only [f_X6_value, if_neg c_2_1, if_pos c_13_2]) rfl
  ·
    refine lv_iload_n hx hb dX6_value_5 rfl (lv_at hl 2 rfl) ?_
    refine lv_iload_n hx hb dX6_value_6 rfl (lv_at hl 1 rfl) ?_
    refine lv_iadd hx hb dX6_value_7 ?_
    refine lv_goto (tgt := 44) hx hb dX6_value_8 (by decide) ?_
    exact e_iret hx hb hr hlk hK hH hS dX6_value_44 (by simp only [f_X6_value, if_pos c_2_1]) rfl
