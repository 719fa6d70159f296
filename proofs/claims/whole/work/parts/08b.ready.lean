def f_X5_becomeReady (σ : St) (q : Nat) : St := f_X4_putLast (sI σ 5 q 2 1) ((f_X5_rowOf (sI σ 5 q 2 1) (gI (sI σ 5 q 2 1) 5 q 3))) q
set_option maxRecDepth 100000 in
set_option maxHeartbeats 4000000 in
theorem k_X5_becomeReady (l : Launch) (D : va_G) (cs : Nat → ClassId) (b : Nat) (σ : St) (q : Nat) (hq : q < 8) : Met l yX5_becomeReady (Cond.code yX5_becomeReady cX5_becomeReady 2 (none : Option FieldType) :: T0) { frames := 1, cells := 0, slots := 0, locals := 21 } (Pe D (tyx cs) b 43 (Ex cs b σ) [.ref (b + xo 0 0), .ref (b + xo 5 q)]) (Qv D (tyx cs) b 43 (Ex cs b (f_X5_becomeReady σ q))) 0 0 (fun a => b ≤ a) := by
  refine e_met (by decide) rfl (Nat.le_of_ble_eq_true rfl) (fun pg e s m below meth c ls hx hb hr hml hts0 hown hlk hnm hH hK hl hS => ?_)
  have hts : ∀ w ∈ T0, w.before _ s = true := fun w h => hts0 w (List.mem_cons_of_mem _ h)
  have hl : lv_has ls 2 [(0, .ref (b + xo 0 0)), (1, .ref (b + xo 5 q))] := hl
  refine lv_aload_n hx hb dX5_becomeReady_0 rfl (lv_at hl 1 rfl) ?_
  refine lv_iconst (v := 1) hx hb dX5_becomeReady_1 (by decide) ?_
  refine fpX5_80 hx hb hts hown hK hH hS q (show q < 8 by first | assumption | omega) dX5_becomeReady_2 (fun H locs hH hS => ?_)
  refine lv_aload_n hx hb dX5_becomeReady_5 rfl (lv_at hl 0 rfl) ?_
  refine lv_aload_n hx hb dX5_becomeReady_6 rfl (lv_at hl 1 rfl) ?_
  refine fgX5_133 hx hb hts hown hK hH q (show q < 8 by first | assumption | omega) dX5_becomeReady_7 ?_
  refine e_cq (e_runV (C := RX5) (ci := 5) (As := [.int (gI (sI σ 5 q 2 1) 5 q 3)]) (rest := []) ⟨hx, hb, hml, hown, hts⟩ (k_X5_rowOf l D cs b (sI σ 5 q 2 1) (gI (sI σ 5 q 2 1) 5 q 3) ) ⟨callB_of 1 hts (gC wC_X5_rowOf) rfl rfl rfl (hts _ wi_X5) (hts _ wM_X5_99) (by decide +kernel) (by decide), hts _ wN_X5_rowOf, hts _ wS_X5_rowOf⟩ hK hH (xo_ok (by decide)).2.2 (Ex_at cs b (sI σ 5 q 2 1) (by decide)) rfl rfl rfl hl.1 rfl (Nat.le_of_ble_eq_true rfl) dX5_becomeReady_10 (by decide)) hS (fun H locs hH hS => ?_)
  refine W.eq (g2 := F0 m 13 ls [.ref (b + xo 9 (f_X5_rowOf (sI σ 5 q 2 1) (gI (sI σ 5 q 2 1) 5 q 3)))]) rfl ?_
  have hrw : f_X5_rowOf (sI σ 5 q 2 1) (gI (sI σ 5 q 2 1) 5 q 3) < 2 := rowOf_lt _ _
  refine lv_aload_n hx hb dX5_becomeReady_13 rfl (lv_at hl 1 rfl) ?_
  refine e_cv (e_runV (C := RX4) (ci := 4) (As := [.ref (b + xo 5 q)]) (rest := []) ⟨hx, hb, hml, hown, hts⟩ (k_X4_putLast l D cs b (sI σ 5 q 2 1) ((f_X5_rowOf (sI σ 5 q 2 1) (gI (sI σ 5 q 2 1) 5 q 3))) q (by first | assumption | omega | decide) (by first | assumption | omega | decide)) ⟨callB_of 1 hts (gC wC_X4_putLast) rfl rfl rfl (hts _ wi_X4) (hts _ wM_X5_136) (by decide +kernel) (by decide), hts _ wN_X4_putLast, hts _ wS_X4_putLast⟩ hK hH (xo_ok (show (f_X5_rowOf (sI σ 5 q 2 1) (gI (sI σ 5 q 2 1) 5 q 3)) < xn 9 by first | assumption | (show (f_X5_rowOf (sI σ 5 q 2 1) (gI (sI σ 5 q 2 1) 5 q 3)) < 2; first | assumption | omega))).2.2 (Ex_at cs b (sI σ 5 q 2 1) (show (f_X5_rowOf (sI σ 5 q 2 1) (gI (sI σ 5 q 2 1) 5 q 3)) < xn 9 by first | assumption | (show (f_X5_rowOf (sI σ 5 q 2 1) (gI (sI σ 5 q 2 1) 5 q 3)) < 2; first | assumption | omega))) rfl rfl rfl hl.1 rfl (Nat.le_of_ble_eq_true rfl) dX5_becomeReady_14 (by decide)) hS (fun H locs hH hS => ?_)
  exact e_vret hx hb hr hlk hK hH hS dX5_becomeReady_17 (congrArg (Ex cs b) (by simp only [f_X5_becomeReady]))
def f_X5_startLeastFree (σ : St) (x : Int32) (y : Int32) (z : Int32) : Int32 × St := (oC (f_X5_leastFree σ) (((-1), σ)) (fun q1_1 => (nI q1_1, f_X5_becomeReady (f_X2_begin σ q1_1 x y z) q1_1)))
set_option maxRecDepth 100000 in
set_option maxHeartbeats 4000000 in
theorem k_X5_startLeastFree (l : Launch) (D : va_G) (cs : Nat → ClassId) (b : Nat) (σ : St) (x : Int32) (y : Int32) (z : Int32)  : Met l yX5_startLeastFree (Cond.code yX5_startLeastFree cX5_startLeastFree 5 (some FieldType.int) :: T0) { frames := 2, cells := 0, slots := 0, locals := 42 } (Pe D (tyx cs) b 43 (Ex cs b σ) [.ref (b + xo 0 0), .int (x), .int (y), .int (z)]) (Qi D (tyx cs) b 43 (Ex cs b (f_X5_startLeastFree σ x y z).2) (f_X5_startLeastFree σ x y z).1) 0 0 (fun a => b ≤ a) := by
  refine e_met (by decide) rfl (Nat.le_of_ble_eq_true rfl) (fun pg e s m below meth c ls hx hb hr hml hts0 hown hlk hnm hH hK hl hS => ?_)
  have hts : ∀ w ∈ T0, w.before _ s = true := fun w h => hts0 w (List.mem_cons_of_mem _ h)
  have hl : lv_has ls 5 [(0, .ref (b + xo 0 0)), (1, .int (x)), (2, .int (y)), (3, .int (z))] := hl
  refine lv_aload_n hx hb dX5_startLeastFree_0 rfl (lv_at hl 0 rfl) ?_
  refine e_cq (e_runV (C := RX5) (ci := 5) (As := []) (rest := []) ⟨hx, hb, hml, hown, hts⟩ (k_X5_leastFree l D cs b σ  ) ⟨callB_of 0 hts (gC wC_X5_leastFree) rfl rfl rfl (hts _ wi_X5) (hts _ wM_X5_121) (by decide +kernel) (by decide), hts _ wN_X5_leastFree, hts _ wS_X5_leastFree⟩ hK hH (xo_ok (by decide)).2.2 (Ex_at cs b σ (by decide)) rfl rfl rfl hl.1 rfl (Nat.le_of_ble_eq_true rfl) dX5_startLeastFree_1 (by decide)) hS (fun H locs hH hS => ?_)
  rcases hq_1_1 : f_X5_leastFree σ with _ | q1_1
  ·
    refine W.eq (g2 := F0 m 4 ls [.null]) rfl ?_
    refine lv_astoreN (lv' := [(4, .null), (0, .ref (b + xo 0 0)), (1, .int (x)), (2, .int (y)), (3, .int (z))]) hx hb dX5_startLeastFree_4 hl (by decide) rfl (fun ls hl => ?_)
    refine lv_aloadN hx hb dX5_startLeastFree_6 (lv_at hl 0 rfl) ?_
    refine lv_ifnonnullN hx hb dX5_startLeastFree_8 ?_
    refine lv_iconst (v := (-1)) hx hb dX5_startLeastFree_11 (by decide) ?_
    exact e_iret hx hb hr hlk hK hH hS dX5_startLeastFree_12 (by simp only [f_X5_startLeastFree, hq_1_1, oC_none]) (congrArg (Ex cs b) (by simp only [f_X5_startLeastFree, hq_1_1, oC_none]))
  ·
    have q1_1b := lf_lt hq_1_1
    refine W.eq (g2 := F0 m 4 ls [.ref (b + xo 5 q1_1)]) rfl ?_
    refine lv_astore (lv' := [(4, .ref (b + xo 5 q1_1)), (0, .ref (b + xo 0 0)), (1, .int (x)), (2, .int (y)), (3, .int (z))]) hx hb dX5_startLeastFree_4 hl (by decide) rfl (fun ls hl => ?_)
    refine lv_aload hx hb dX5_startLeastFree_6 (lv_at hl 0 rfl) ?_
    refine lv_ifnonnull (tgt := 13) hx hb dX5_startLeastFree_8 (by decide) ?_
    refine lv_aload hx hb dX5_startLeastFree_13 (lv_at hl 0 rfl) ?_
    refine lv_iload_n hx hb dX5_startLeastFree_15 rfl (lv_at hl 2 rfl) ?_
    refine lv_iload_n hx hb dX5_startLeastFree_16 rfl (lv_at hl 3 rfl) ?_
    refine lv_iload_n hx hb dX5_startLeastFree_17 rfl (lv_at hl 4 rfl) ?_
    refine e_cv (e_runV (C := RX2) (ci := 2) (As := [.int (x), .int (y), .int (z)]) (rest := []) ⟨hx, hb, hml, hown, hts⟩ (k_X2_begin l D cs b σ q1_1 x y z (by first | assumption | omega | decide)) ⟨callB_of 3 hts (gC wC_X2_begin) rfl rfl rfl (hts _ wi_X2) (hts _ wM_X5_125) (by decide +kernel) (by decide), hts _ wN_X2_begin, hts _ wS_X2_begin⟩ hK hH (xo_ok (show q1_1 < xn 5 by first | assumption | (show q1_1 < 8; first | assumption | omega))).2.2 (Ex_at cs b σ (show q1_1 < xn 5 by first | assumption | (show q1_1 < 8; first | assumption | omega))) rfl rfl rfl hl.1 rfl (Nat.le_of_ble_eq_true rfl) dX5_startLeastFree_18 (by decide)) hS (fun H locs hH hS => ?_)
    refine lv_aload_n hx hb dX5_startLeastFree_21 rfl (lv_at hl 1 rfl) ?_
    refine lv_aload hx hb dX5_startLeastFree_22 (lv_at hl 0 rfl) ?_
    refine e_cv (e_runV (C := RX5) (ci := 5) (As := [.ref (b + xo 5 q1_1)]) (rest := []) ⟨hx, hb, hml, hown, hts⟩ (k_X5_becomeReady l D cs b (f_X2_begin σ q1_1 x y z) q1_1 (by first | assumption | omega | decide)) ⟨callB_of 1 hts (gC wC_X5_becomeReady) rfl rfl rfl (hts _ wi_X5) (hts _ wM_X5_129) (by decide +kernel) (by decide), hts _ wN_X5_becomeReady, hts _ wS_X5_becomeReady⟩ hK hH (xo_ok (by decide)).2.2 (Ex_at cs b (f_X2_begin σ q1_1 x y z) (by decide)) rfl rfl rfl hl.1 rfl (Nat.le_of_ble_eq_true rfl) dX5_startLeastFree_24 (by decide)) hS (fun H locs hH hS => ?_)
    refine lv_aload hx hb dX5_startLeastFree_27 (lv_at hl 0 rfl) ?_
    refine fgX5_87 hx hb hts hown hK hH q1_1 (show q1_1 < 8 by first | assumption | omega) dX5_startLeastFree_29 ?_
    exact e_iret hx hb hr hlk hK hH hS dX5_startLeastFree_32 (by simp only [f_X5_startLeastFree, hq_1_1, oC_some]) (congrArg (Ex cs b) (by simp only [f_X5_startLeastFree, hq_1_1, oC_some]))
def f_X5_hasCome (σ : St) (x : Int32) : Int32 := (if 0 < x - (gI σ 0 0 7) then 0 else 1)
set_option maxRecDepth 100000 in
set_option maxHeartbeats 4000000 in
theorem k_X5_hasCome (l : Launch) (D : va_G) (cs : Nat → ClassId) (b : Nat) (σ : St) (x : Int32)  : Met l yX5_hasCome (Cond.code yX5_hasCome cX5_hasCome 2 (some FieldType.boolean) :: T0) { frames := 0, cells := 0, slots := 0, locals := 0 } (Pe D (tyx cs) b 43 (Ex cs b σ) [.ref (b + xo 0 0), .int (x)]) (Qi D (tyx cs) b 43 (Ex cs b σ) (f_X5_hasCome σ x)) 0 0 (fun a => b ≤ a) := by
  refine e_met (by decide) rfl (Nat.le_of_ble_eq_true rfl) (fun pg e s m below meth c ls hx hb hr hml hts0 hown hlk hnm hH hK hl hS => ?_)
  have hts : ∀ w ∈ T0, w.before _ s = true := fun w h => hts0 w (List.mem_cons_of_mem _ h)
  have hl : lv_has ls 2 [(0, .ref (b + xo 0 0)), (1, .int (x))] := hl
  refine lv_iload_n hx hb dX5_hasCome_0 rfl (lv_at hl 1 rfl) ?_
  refine lv_aload_n hx hb dX5_hasCome_1 rfl (lv_at hl 0 rfl) ?_
  refine fgX5_53 hx hb hts hown hK hH 0 (by decide) dX5_hasCome_2 ?_
  refine lv_isub hx hb dX5_hasCome_5 ?_
  refine lv_if_gt (tgt := 13) hx hb dX5_hasCome_6 (by decide) (fun c_6_1 => ?_) (fun c_6_1 => ?_)
  ·
    refine lv_iconst (v := 0) hx hb dX5_hasCome_13 (by decide) ?_
    exact e_zret hx hb hr hlk hK hH hS dX5_hasCome_14 (by rfl) (by simp only [f_X5_hasCome, if_pos c_6_1]) rfl
  ·
    refine lv_iconst (v := 1) hx hb dX5_hasCome_9 (by decide) ?_
    refine lv_goto (tgt := 14) hx hb dX5_hasCome_10 (by decide) ?_
    exact e_zret hx hb hr hlk hK hH hS dX5_hasCome_14 (by rfl) (by simp only [f_X5_hasCome, if_neg c_6_1]) rfl
def lp_X5_wakeThoseWhoseTimeHasCome_2 : Nat → St → Nat → St
  | 0, σ, _ => σ
  | n + 1, σ, j => (if 8 ≤ nI j then σ else (if gI σ 5 j 2 = 4 then (if f_X5_hasCome σ (gI σ 5 j 8) = 0 then lp_X5_wakeThoseWhoseTimeHasCome_2 n σ ((j + 1)) else lp_X5_wakeThoseWhoseTimeHasCome_2 n (f_X5_becomeReady σ j) ((j + 1))) else lp_X5_wakeThoseWhoseTimeHasCome_2 n σ ((j + 1))))
def f_X5_wakeThoseWhoseTimeHasCome (σ : St)  : St := lp_X5_wakeThoseWhoseTimeHasCome_2 9 σ 0
set_option maxRecDepth 100000 in
set_option maxHeartbeats 4000000 in
theorem w_X5_wakeThoseWhoseTimeHasCome_2 {l : Launch} {D : va_G} {cs : Nat → ClassId} {b : Nat} {pg : Program} {e : Env} {s : State} {m : MethodId} {below : List Frame} {meth : Method} {c : Code}    (hx : pg.tables.exec = Jvm.exec) (hb : c.code = cX5_wakeThoseWhoseTimeHasCome) (hml : c.maxLocals = 2) {args : Array Value} {H0 : Heap} {Q : State → Prop} (hts : ∀ w ∈ T0, w.before args s = true) (hown : s.vm.findClass RX5 = some m.cls) (hK : va_K D vwCl (tyx cs) s) : ∀ (n : Nat) (σ : St) (j : Nat), 8 < j + n → j ≤ 8 → ∀ (H : Heap) (locs : List Loc) (ls : Array Slot), (∀ (H : Heap) (locs : List Loc) (ls : Array Slot), He D b 43 (Ex cs b (lp_X5_wakeThoseWhoseTimeHasCome_2 n σ j)) H → va_S (fun a => b ≤ a) H0 H locs → lv_has ls 2 [(0, .ref (b + xo 0 0))] → W pg l e { frames := 2, cells := 0, slots := 0, locals := 42 } s m args below meth c H locs 0 0 Q (F0 m 53 ls [])) → He D b 43 (Ex cs b σ) H → va_S (fun a => b ≤ a) H0 H locs → lv_has ls 2 [(0, .ref (b + xo 0 0)), (1, .int (nI j))] → W pg l e { frames := 2, cells := 0, slots := 0, locals := 42 } s m args below meth c H locs 0 0 Q (F0 m 2 ls []) := by
  intro n
  induction n with
  | zero =>
    intro σ j h0 h1
    exact absurd h0 (by omega)
  | succ n ih =>
    intro σ j h0 h1 H locs ls kk hH hS hl
    refine lv_iload_n hx hb dX5_wakeThoseWhoseTimeHasCome_2 rfl (lv_at hl 1 rfl) ?_
    refine lv_bipush (v := 8) hx hb dX5_wakeThoseWhoseTimeHasCome_3 (by decide) ?_
    refine lv_icmp_ge (tgt := 53) hx hb dX5_wakeThoseWhoseTimeHasCome_5 (by decide) (fun c_5_1 => ?_) (fun c_5_1 => ?_)
    ·
      have e_ : lp_X5_wakeThoseWhoseTimeHasCome_2 (n + 1) σ j = σ := by simp only [lp_X5_wakeThoseWhoseTimeHasCome_2, if_pos c_5_1]
      rw [e_] at kk
      exact kk _ _ _ hH hS (lv_sub hl [0] rfl)
    ·
      have hj8 := ngt_8 (j := j) (by omega) 8 (by decide) (by assumption)
      refine lv_aload_n hx hb dX5_wakeThoseWhoseTimeHasCome_8 rfl (lv_at hl 0 rfl) ?_
      refine fgX5_18 hx hb hts hown hK hH 0 (by decide) dX5_wakeThoseWhoseTimeHasCome_9 ?_
      refine lv_iload_n hx hb dX5_wakeThoseWhoseTimeHasCome_12 rfl (lv_at hl 1 rfl) ?_
      refine x_procs hx hb hK hH j rfl (by omega) dX5_wakeThoseWhoseTimeHasCome_13 ?_
      refine fgX5_80 hx hb hts hown hK hH j (show j < 8 by first | assumption | omega) dX5_wakeThoseWhoseTimeHasCome_14 ?_
      refine lv_iconst (v := 4) hx hb dX5_wakeThoseWhoseTimeHasCome_17 (by decide) ?_
      refine lv_icmp_ne (tgt := 47) hx hb dX5_wakeThoseWhoseTimeHasCome_18 (by decide) (fun c_18_2 => ?_) (fun c_18_2 => ?_)
      ·
        refine lv_iinc (v := nI (j + 1)) (lv' := [(1, .int (nI (j + 1))), (0, .ref (b + xo 0 0))]) hx hb dX5_wakeThoseWhoseTimeHasCome_47 hl (k := 1) rfl (nI_1 j) (by decide) rfl (fun ls hl => ?_)
        refine lv_goto (tgt := 2) hx hb dX5_wakeThoseWhoseTimeHasCome_50 (by decide) ?_
        have e_ : lp_X5_wakeThoseWhoseTimeHasCome_2 (n + 1) σ j = lp_X5_wakeThoseWhoseTimeHasCome_2 n σ ((j + 1)) := by simp only [lp_X5_wakeThoseWhoseTimeHasCome_2, if_neg c_5_1, if_neg c_18_2]
        rw [e_] at kk
        exact ih σ ((j + 1)) (by omega) (by omega) _ _ _ kk hH hS (lv_sub hl [1, 0] rfl)
      ·
        refine lv_aload_n hx hb dX5_wakeThoseWhoseTimeHasCome_21 rfl (lv_at hl 0 rfl) ?_
        refine lv_aload_n hx hb dX5_wakeThoseWhoseTimeHasCome_22 rfl (lv_at hl 0 rfl) ?_
        refine fgX5_18 hx hb hts hown hK hH 0 (by decide) dX5_wakeThoseWhoseTimeHasCome_23 ?_
        refine lv_iload_n hx hb dX5_wakeThoseWhoseTimeHasCome_26 rfl (lv_at hl 1 rfl) ?_
        refine x_procs hx hb hK hH j rfl (by omega) dX5_wakeThoseWhoseTimeHasCome_27 ?_
        refine fgX5_151 hx hb hts hown hK hH j (show j < 8 by first | assumption | omega) dX5_wakeThoseWhoseTimeHasCome_28 ?_
        refine e_ci (e_runV (C := RX5) (ci := 5) (As := [.int (gI σ 5 j 8)]) (rest := []) ⟨hx, hb, hml, hown, hts⟩ (k_X5_hasCome l D cs b σ (gI σ 5 j 8) ) ⟨callB_of 1 hts (gC wC_X5_hasCome) rfl rfl rfl (hts _ wi_X5) (hts _ wM_X5_154) (by decide +kernel) (by decide), hts _ wN_X5_hasCome, hts _ wS_X5_hasCome⟩ hK hH (xo_ok (by decide)).2.2 (Ex_at cs b σ (by decide)) rfl rfl rfl hl.1 rfl (Nat.le_of_ble_eq_true rfl) dX5_wakeThoseWhoseTimeHasCome_31 (by decide)) hS (fun H locs hH hS => ?_)
        refine lv_if_eq (tgt := 47) hx hb dX5_wakeThoseWhoseTimeHasCome_34 (by decide) (fun c_34_3 => ?_) (fun c_34_3 => ?_)
        ·
          refine lv_iinc (v := nI (j + 1)) (lv' := [(1, .int (nI (j + 1))), (0, .ref (b + xo 0 0))]) hx hb dX5_wakeThoseWhoseTimeHasCome_47 hl (k := 1) rfl (nI_1 j) (by decide) rfl (fun ls hl => ?_)
          refine lv_goto (tgt := 2) hx hb dX5_wakeThoseWhoseTimeHasCome_50 (by decide) ?_
          have e_ : lp_X5_wakeThoseWhoseTimeHasCome_2 (n + 1) σ j = lp_X5_wakeThoseWhoseTimeHasCome_2 n σ ((j + 1)) := by simp only [lp_X5_wakeThoseWhoseTimeHasCome_2, if_neg c_5_1, if_pos c_18_2, if_pos c_34_3]
          rw [e_] at kk
          exact ih σ ((j + 1)) (by omega) (by omega) _ _ _ kk hH hS (lv_sub hl [1, 0] rfl)
        ·
          refine lv_aload_n hx hb dX5_wakeThoseWhoseTimeHasCome_37 rfl (lv_at hl 0 rfl) ?_
          refine lv_aload_n hx hb dX5_wakeThoseWhoseTimeHasCome_38 rfl (lv_at hl 0 rfl) ?_
          refine fgX5_18 hx hb hts hown hK hH 0 (by decide) dX5_wakeThoseWhoseTimeHasCome_39 ?_
          refine lv_iload_n hx hb dX5_wakeThoseWhoseTimeHasCome_42 rfl (lv_at hl 1 rfl) ?_
          refine x_procs hx hb hK hH j rfl (by omega) dX5_wakeThoseWhoseTimeHasCome_43 ?_
          refine e_cv (e_runV (C := RX5) (ci := 5) (As := [.ref (b + xo 5 j)]) (rest := []) ⟨hx, hb, hml, hown, hts⟩ (k_X5_becomeReady l D cs b σ j (by first | assumption | omega | decide)) ⟨callB_of 1 hts (gC wC_X5_becomeReady) rfl rfl rfl (hts _ wi_X5) (hts _ wM_X5_129) (by decide +kernel) (by decide), hts _ wN_X5_becomeReady, hts _ wS_X5_becomeReady⟩ hK hH (xo_ok (by decide)).2.2 (Ex_at cs b σ (by decide)) rfl rfl rfl hl.1 rfl (Nat.le_of_ble_eq_true rfl) dX5_wakeThoseWhoseTimeHasCome_44 (by decide)) hS (fun H locs hH hS => ?_)
          refine lv_iinc (v := nI (j + 1)) (lv' := [(1, .int (nI (j + 1))), (0, .ref (b + xo 0 0))]) hx hb dX5_wakeThoseWhoseTimeHasCome_47 hl (k := 1) rfl (nI_1 j) (by decide) rfl (fun ls hl => ?_)
          refine lv_goto (tgt := 2) hx hb dX5_wakeThoseWhoseTimeHasCome_50 (by decide) ?_
          have e_ : lp_X5_wakeThoseWhoseTimeHasCome_2 (n + 1) σ j = lp_X5_wakeThoseWhoseTimeHasCome_2 n (f_X5_becomeReady σ j) ((j + 1)) := by simp only [lp_X5_wakeThoseWhoseTimeHasCome_2, if_neg c_5_1, if_pos c_18_2, if_neg c_34_3]
          rw [e_] at kk
          exact ih (f_X5_becomeReady σ j) ((j + 1)) (by omega) (by omega) _ _ _ kk hH hS (lv_sub hl [1, 0] rfl)
set_option maxRecDepth 100000 in
set_option maxHeartbeats 4000000 in
theorem k_X5_wakeThoseWhoseTimeHasCome (l : Launch) (D : va_G) (cs : Nat → ClassId) (b : Nat) (σ : St)   : Met l yX5_wakeThoseWhoseTimeHasCome (Cond.code yX5_wakeThoseWhoseTimeHasCome cX5_wakeThoseWhoseTimeHasCome 2 (none : Option FieldType) :: T0) { frames := 2, cells := 0, slots := 0, locals := 42 } (Pe D (tyx cs) b 43 (Ex cs b σ) [.ref (b + xo 0 0)]) (Qv D (tyx cs) b 43 (Ex cs b (f_X5_wakeThoseWhoseTimeHasCome σ))) 0 0 (fun a => b ≤ a) := by
  refine e_met (by decide) rfl (Nat.le_of_ble_eq_true rfl) (fun pg e s m below meth c ls hx hb hr hml hts0 hown hlk hnm hH hK hl hS => ?_)
  have hts : ∀ w ∈ T0, w.before _ s = true := fun w h => hts0 w (List.mem_cons_of_mem _ h)
  have hl : lv_has ls 2 [(0, .ref (b + xo 0 0))] := hl
  refine lv_iconst (v := 0) hx hb dX5_wakeThoseWhoseTimeHasCome_0 (by decide) ?_
  refine lv_istore_n (lv' := [(1, .int (0)), (0, .ref (b + xo 0 0))]) hx hb dX5_wakeThoseWhoseTimeHasCome_1 rfl hl (by decide) rfl (fun ls hl => ?_)
  refine w_X5_wakeThoseWhoseTimeHasCome_2  hx hb hml hts hown hK 9 σ 0 (by omega) (by omega) _ _ _ (fun H locs ls hH hS hl => ?_) hH hS (lv_sub hl [1, 0] rfl)
  exact e_vret hx hb hr hlk hK hH hS dX5_wakeThoseWhoseTimeHasCome_53 (congrArg (Ex cs b) (by simp only [f_X5_wakeThoseWhoseTimeHasCome]))
