def lp_X6_ready_37 (x : Int32) (y : Int32) : Nat → St → Nat → Nat → Nat → Nat
  | 0, _, _, w, _ => w
  | n + 1, σ, p3, w, k => (if 8 ≤ nI k then w else (if gI σ 15 0 k = 1 then (if gI σ 16 0 k = x then (if gI σ 19 0 p3 ≤ gI σ 19 0 k then lp_X6_ready_37 x y n σ p3 w ((k + 1)) else lp_X6_ready_37 x y n σ p3 ((w + 1)) ((k + 1))) else lp_X6_ready_37 x y n σ p3 w ((k + 1))) else lp_X6_ready_37 x y n σ p3 w ((k + 1))))
def lp_X6_ready_2 (x : Int32) (y : Int32) : Nat → St → Nat → Option Nat
  | 0, _, _ => none
  | n + 1, σ, j => (if 8 ≤ nI j then none else (if gI σ 15 0 j = 1 then (if gI σ 16 0 j = x then (if nI (lp_X6_ready_37 x y 9 σ j 0 0) = y then some j else lp_X6_ready_2 x y n σ ((j + 1))) else lp_X6_ready_2 x y n σ ((j + 1))) else lp_X6_ready_2 x y n σ ((j + 1))))
def f_X6_ready (σ : St) (x : Int32) (y : Int32) : Option Nat := lp_X6_ready_2 x y 9 σ 0
set_option maxRecDepth 100000 in
set_option maxHeartbeats 4000000 in
theorem w_X6_ready_37 {l : Launch} {D : va_G} {cs : Nat → ClassId} {b : Nat} {pg : Program} {e : Env} {s : State} {m : MethodId} {below : List Frame} {meth : Method} {c : Code} (x : Int32) (y : Int32)   (hx : pg.tables.exec = Jvm.exec) (hb : c.code = cX6_ready) (hml : c.maxLocals = 6) {args : Array Value} {H0 : Heap} {Q : State → Prop} (hts : ∀ w ∈ T0, w.before args s = true) (hown : s.vm.findClass RX6 = some m.cls) (hK : va_K D vwCl (tyx cs) s) : ∀ (n : Nat) (σ : St) (p3 : Nat) (w : Nat) (k : Nat), 8 < k + n → k ≤ 8 → p3 < 8 → ∀ (H : Heap) (locs : List Loc) (ls : Array Slot), (∀ (H : Heap) (locs : List Loc) (ls : Array Slot), He D b 43 (Ex cs b (σ)) H → va_S (fun a => b ≤ a) H0 H locs → lv_has ls 6 [(0, .ref (b + xo 13 0)), (1, .int (x)), (2, .int (y)), (3, .int (nI p3)), (4, .int (nI (lp_X6_ready_37 x y n σ p3 w k)))] → W pg l e { frames := 0, cells := 0, slots := 0, locals := 0 } s m args below meth c H locs 0 0 Q (F0 m 91 ls [])) → He D b 43 (Ex cs b σ) H → va_S (fun a => b ≤ a) H0 H locs → lv_has ls 6 [(0, .ref (b + xo 13 0)), (1, .int (x)), (2, .int (y)), (3, .int (nI p3)), (4, .int (nI w)), (5, .int (nI k))] → W pg l e { frames := 0, cells := 0, slots := 0, locals := 0 } s m args below meth c H locs 0 0 Q (F0 m 37 ls []) := by
  intro n
  induction n with
  | zero =>
    intro σ p3 w k h0 h1 h2
    exact absurd h0 (by omega)
  | succ n ih =>
    intro σ p3 w k h0 h1 h2 H locs ls kk hH hS hl
    refine lv_iload hx hb dX6_ready_37 (lv_at hl 5 rfl) ?_
    refine lv_bipush (v := 8) hx hb dX6_ready_39 (by decide) ?_
    refine lv_icmp_ge (tgt := 91) hx hb dX6_ready_41 (by decide) (fun c_41_1 => ?_) (fun c_41_1 => ?_)
    ·
      have e_ : lp_X6_ready_37 x y (n + 1) σ p3 w k = w := by simp only [lp_X6_ready_37, if_pos c_41_1]
      rw [e_] at kk
      exact kk _ _ _ hH hS (lv_sub hl [0, 1, 2, 3, 4] rfl)
    ·
      have hk8 := ngt_8 (j := k) (by omega) 8 (by decide) (by assumption)
      refine lv_aload_n hx hb dX6_ready_44 rfl (lv_at hl 0 rfl) ?_
      refine fgX6_13 hx hb hts hown hK hH 0 (by decide) dX6_ready_45 ?_
      refine lv_iload hx hb dX6_ready_48 (lv_at hl 5 rfl) ?_
      refine x_iald hx hb hK hH 15 0 8 (by decide) rfl k rfl (by omega) (by decide) dX6_ready_50 ?_
      refine lv_iconst (v := 1) hx hb dX6_ready_51 (by decide) ?_
      refine lv_icmp_ne (tgt := 85) hx hb dX6_ready_52 (by decide) (fun c_52_2 => ?_) (fun c_52_2 => ?_)
      ·
        refine lv_iinc (v := nI (k + 1)) (lv' := [(5, .int (nI (k + 1))), (0, .ref (b + xo 13 0)), (1, .int (x)), (2, .int (y)), (3, .int (nI p3)), (4, .int (nI w))]) hx hb dX6_ready_85 hl (k := 5) rfl (nI_1 k) (by decide) rfl (fun ls hl => ?_)
        refine lv_goto (tgt := 37) hx hb dX6_ready_88 (by decide) ?_
        have e_ : lp_X6_ready_37 x y (n + 1) σ p3 w k = lp_X6_ready_37 x y n σ p3 w ((k + 1)) := by simp only [lp_X6_ready_37, if_neg c_41_1, if_neg c_52_2]
        rw [e_] at kk
        exact ih σ p3 w ((k + 1)) (by omega) (by omega) h2 _ _ _ kk hH hS (lv_sub hl [1, 2, 3, 4, 5, 0] rfl)
      ·
        refine lv_aload_n hx hb dX6_ready_55 rfl (lv_at hl 0 rfl) ?_
        refine fgX6_16 hx hb hts hown hK hH 0 (by decide) dX6_ready_56 ?_
        refine lv_iload hx hb dX6_ready_59 (lv_at hl 5 rfl) ?_
        refine x_iald hx hb hK hH 16 0 8 (by decide) rfl k rfl (by omega) (by decide) dX6_ready_61 ?_
        refine lv_iload_n hx hb dX6_ready_62 rfl (lv_at hl 1 rfl) ?_
        refine lv_icmp_ne (tgt := 85) hx hb dX6_ready_63 (by decide) (fun c_63_3 => ?_) (fun c_63_3 => ?_)
        ·
          refine lv_iinc (v := nI (k + 1)) (lv' := [(5, .int (nI (k + 1))), (0, .ref (b + xo 13 0)), (1, .int (x)), (2, .int (y)), (3, .int (nI p3)), (4, .int (nI w))]) hx hb dX6_ready_85 hl (k := 5) rfl (nI_1 k) (by decide) rfl (fun ls hl => ?_)
          refine lv_goto (tgt := 37) hx hb dX6_ready_88 (by decide) ?_
          have e_ : lp_X6_ready_37 x y (n + 1) σ p3 w k = lp_X6_ready_37 x y n σ p3 w ((k + 1)) := by simp only [lp_X6_ready_37, if_neg c_41_1, if_pos c_52_2, if_neg c_63_3]
          rw [e_] at kk
          exact ih σ p3 w ((k + 1)) (by omega) (by omega) h2 _ _ _ kk hH hS (lv_sub hl [1, 2, 3, 4, 5, 0] rfl)
        ·
          refine lv_aload_n hx hb dX6_ready_66 rfl (lv_at hl 0 rfl) ?_
          refine fgX6_25 hx hb hts hown hK hH 0 (by decide) dX6_ready_67 ?_
          refine lv_iload hx hb dX6_ready_70 (lv_at hl 5 rfl) ?_
          refine x_iald hx hb hK hH 19 0 8 (by decide) rfl k rfl (by omega) (by decide) dX6_ready_72 ?_
          refine lv_aload_n hx hb dX6_ready_73 rfl (lv_at hl 0 rfl) ?_
          refine fgX6_25 hx hb hts hown hK hH 0 (by decide) dX6_ready_74 ?_
          refine lv_iload_n hx hb dX6_ready_77 rfl (lv_at hl 3 rfl) ?_
          refine x_iald hx hb hK hH 19 0 8 (by decide) rfl p3 rfl (by omega) (by decide) dX6_ready_78 ?_
          refine lv_icmp_ge (tgt := 85) hx hb dX6_ready_79 (by decide) (fun c_79_4 => ?_) (fun c_79_4 => ?_)
          ·
            refine lv_iinc (v := nI (k + 1)) (lv' := [(5, .int (nI (k + 1))), (0, .ref (b + xo 13 0)), (1, .int (x)), (2, .int (y)), (3, .int (nI p3)), (4, .int (nI w))]) hx hb dX6_ready_85 hl (k := 5) rfl (nI_1 k) (by decide) rfl (fun ls hl => ?_)
            refine lv_goto (tgt := 37) hx hb dX6_ready_88 (by decide) ?_
            have e_ : lp_X6_ready_37 x y (n + 1) σ p3 w k = lp_X6_ready_37 x y n σ p3 w ((k + 1)) := by simp only [lp_X6_ready_37, if_neg c_41_1, if_pos c_52_2, if_pos c_63_3, if_pos c_79_4]
            rw [e_] at kk
            exact ih σ p3 w ((k + 1)) (by omega) (by omega) h2 _ _ _ kk hH hS (lv_sub hl [1, 2, 3, 4, 5, 0] rfl)
          ·
            refine lv_iinc (v := nI (w + 1)) (lv' := [(4, .int (nI (w + 1))), (0, .ref (b + xo 13 0)), (1, .int (x)), (2, .int (y)), (3, .int (nI p3)), (5, .int (nI k))]) hx hb dX6_ready_82 hl (k := 4) rfl (nI_1 w) (by decide) rfl (fun ls hl => ?_)
            refine lv_iinc (v := nI (k + 1)) (lv' := [(5, .int (nI (k + 1))), (4, .int (nI (w + 1))), (0, .ref (b + xo 13 0)), (1, .int (x)), (2, .int (y)), (3, .int (nI p3))]) hx hb dX6_ready_85 hl (k := 5) rfl (nI_1 k) (by decide) rfl (fun ls hl => ?_)
            refine lv_goto (tgt := 37) hx hb dX6_ready_88 (by decide) ?_
            have e_ : lp_X6_ready_37 x y (n + 1) σ p3 w k = lp_X6_ready_37 x y n σ p3 ((w + 1)) ((k + 1)) := by simp only [lp_X6_ready_37, if_neg c_41_1, if_pos c_52_2, if_pos c_63_3, if_neg c_79_4]
            rw [e_] at kk
            exact ih σ p3 ((w + 1)) ((k + 1)) (by omega) (by omega) h2 _ _ _ kk hH hS (lv_sub hl [2, 3, 4, 5, 1, 0] rfl)
set_option maxRecDepth 100000 in
set_option maxHeartbeats 4000000 in
theorem w_X6_ready_2 {l : Launch} {D : va_G} {cs : Nat → ClassId} {b : Nat} {pg : Program} {e : Env} {s : State} {m : MethodId} {below : List Frame} {meth : Method} {c : Code} (x : Int32) (y : Int32)   (hx : pg.tables.exec = Jvm.exec) (hb : c.code = cX6_ready) (hr : meth.sig.returnType = (some FieldType.int)) (hml : c.maxLocals = 6) {args : Array Value} (hts : ∀ w ∈ T0, w.before args s = true) (hown : s.vm.findClass RX6 = some m.cls) (hlk : meth.locks = false) (hK : va_K D vwCl (tyx cs) s) : ∀ (n : Nat) (σ : St) (j : Nat), 8 < j + n → j ≤ 8 → ∀ (H : Heap) (locs : List Loc) (ls : Array Slot), He D b 43 (Ex cs b σ) H → va_S (fun a => b ≤ a) s.heap H locs → lv_has ls 6 [(0, .ref (b + xo 13 0)), (1, .int (x)), (2, .int (y)), (3, .int (nI j))] → W pg l e { frames := 0, cells := 0, slots := 0, locals := 0 } s m args below meth c H locs 0 0 (MQ below (Qi D (tyx cs) b 43 (Ex cs b σ) (oI ((lp_X6_ready_2 x y n σ j)))) args s 0 0 (fun a => b ≤ a)) (F0 m 2 ls []) := by
  intro n
  induction n with
  | zero =>
    intro σ j h0 h1
    exact absurd h0 (by omega)
  | succ n ih =>
    intro σ j h0 h1 H locs ls hH hS hl
    refine lv_iload_n hx hb dX6_ready_2 rfl (lv_at hl 3 rfl) ?_
    refine lv_bipush (v := 8) hx hb dX6_ready_3 (by decide) ?_
    refine lv_icmp_ge (tgt := 105) hx hb dX6_ready_5 (by decide) (fun c_5_5 => ?_) (fun c_5_5 => ?_)
    ·
      refine lv_iconst (v := (-1)) hx hb dX6_ready_105 (by decide) ?_
      exact e_iret hx hb hr hlk hK hH hS dX6_ready_106 (by simp only [lp_X6_ready_2, if_pos c_5_5]; rfl) rfl
    ·
      have hj8 := ngt_8 (j := j) (by omega) 8 (by decide) (by assumption)
      refine lv_aload_n hx hb dX6_ready_8 rfl (lv_at hl 0 rfl) ?_
      refine fgX6_13 hx hb hts hown hK hH 0 (by decide) dX6_ready_9 ?_
      refine lv_iload_n hx hb dX6_ready_12 rfl (lv_at hl 3 rfl) ?_
      refine x_iald hx hb hK hH 15 0 8 (by decide) rfl j rfl (by omega) (by decide) dX6_ready_13 ?_
      refine lv_iconst (v := 1) hx hb dX6_ready_14 (by decide) ?_
      refine lv_icmp_ne (tgt := 99) hx hb dX6_ready_15 (by decide) (fun c_15_6 => ?_) (fun c_15_6 => ?_)
      ·
        refine lv_iinc (v := nI (j + 1)) (lv' := [(3, .int (nI (j + 1))), (0, .ref (b + xo 13 0)), (1, .int (x)), (2, .int (y))]) hx hb dX6_ready_99 hl (k := 3) rfl (nI_1 j) (by decide) rfl (fun ls hl => ?_)
        refine lv_goto (tgt := 2) hx hb dX6_ready_102 (by decide) ?_
        have e_ : lp_X6_ready_2 x y (n + 1) σ j = lp_X6_ready_2 x y n σ ((j + 1)) := by simp only [lp_X6_ready_2, if_neg c_5_5, if_neg c_15_6]
        rw [e_]
        exact ih σ ((j + 1)) (by omega) (by omega) _ _ _ hH hS (lv_sub hl [1, 2, 3, 0] rfl)
      ·
        refine lv_aload_n hx hb dX6_ready_18 rfl (lv_at hl 0 rfl) ?_
        refine fgX6_16 hx hb hts hown hK hH 0 (by decide) dX6_ready_19 ?_
        refine lv_iload_n hx hb dX6_ready_22 rfl (lv_at hl 3 rfl) ?_
        refine x_iald hx hb hK hH 16 0 8 (by decide) rfl j rfl (by omega) (by decide) dX6_ready_23 ?_
        refine lv_iload_n hx hb dX6_ready_24 rfl (lv_at hl 1 rfl) ?_
        refine lv_icmp_eq (tgt := 31) hx hb dX6_ready_25 (by decide) (fun c_25_7 => ?_) (fun c_25_7 => ?_)
        ·
          refine lv_iconst (v := 0) hx hb dX6_ready_31 (by decide) ?_
          refine lv_istore (lv' := [(4, .int (0)), (0, .ref (b + xo 13 0)), (1, .int (x)), (2, .int (y)), (3, .int (nI j))]) hx hb dX6_ready_32 hl (by decide) rfl (fun ls hl => ?_)
          refine lv_iconst (v := 0) hx hb dX6_ready_34 (by decide) ?_
          refine lv_istore (lv' := [(5, .int (0)), (4, .int (0)), (0, .ref (b + xo 13 0)), (1, .int (x)), (2, .int (y)), (3, .int (nI j))]) hx hb dX6_ready_35 hl (by decide) rfl (fun ls hl => ?_)
          refine w_X6_ready_37 x y  hx hb hml hts hown hK 9 σ j 0 0 (by omega) (by omega) (by omega) _ _ _ (fun H locs ls hH hS hl => ?_) hH hS (lv_sub hl [2, 3, 4, 5, 1, 0] rfl)
          refine lv_iload hx hb dX6_ready_91 (lv_at hl 4 rfl) ?_
          refine lv_iload_n hx hb dX6_ready_93 rfl (lv_at hl 2 rfl) ?_
          refine lv_icmp_ne (tgt := 99) hx hb dX6_ready_94 (by decide) (fun c_94_8 => ?_) (fun c_94_8 => ?_)
          ·
            refine lv_iinc (v := nI (j + 1)) (lv' := [(3, .int (nI (j + 1))), (0, .ref (b + xo 13 0)), (1, .int (x)), (2, .int (y)), (4, .int (nI (lp_X6_ready_37 x y 9 σ j 0 0)))]) hx hb dX6_ready_99 hl (k := 3) rfl (nI_1 j) (by decide) rfl (fun ls hl => ?_)
            refine lv_goto (tgt := 2) hx hb dX6_ready_102 (by decide) ?_
            have e_ : lp_X6_ready_2 x y (n + 1) σ j = lp_X6_ready_2 x y n σ ((j + 1)) := by simp only [lp_X6_ready_2, if_neg c_5_5, if_pos c_15_6, if_pos c_25_7, if_neg c_94_8]
            rw [e_]
            exact ih σ ((j + 1)) (by omega) (by omega) _ _ _ hH hS (lv_sub hl [1, 2, 3, 0] rfl)
          ·
            refine lv_iload_n hx hb dX6_ready_97 rfl (lv_at hl 3 rfl) ?_
            exact e_iret hx hb hr hlk hK hH hS dX6_ready_98 (by simp only [lp_X6_ready_2, if_neg c_5_5, if_pos c_15_6, if_pos c_25_7, if_pos c_94_8]; rfl) rfl
        ·
          refine lv_goto (tgt := 99) hx hb dX6_ready_28 (by decide) ?_
          refine lv_iinc (v := nI (j + 1)) (lv' := [(3, .int (nI (j + 1))), (0, .ref (b + xo 13 0)), (1, .int (x)), (2, .int (y))]) hx hb dX6_ready_99 hl (k := 3) rfl (nI_1 j) (by decide) rfl (fun ls hl => ?_)
          refine lv_goto (tgt := 2) hx hb dX6_ready_102 (by decide) ?_
          have e_ : lp_X6_ready_2 x y (n + 1) σ j = lp_X6_ready_2 x y n σ ((j + 1)) := by simp only [lp_X6_ready_2, if_neg c_5_5, if_pos c_15_6, if_neg c_25_7]
          rw [e_]
          exact ih σ ((j + 1)) (by omega) (by omega) _ _ _ hH hS (lv_sub hl [1, 2, 3, 0] rfl)
set_option maxRecDepth 100000 in
set_option maxHeartbeats 4000000 in
theorem k_X6_ready (l : Launch) (D : va_G) (cs : Nat → ClassId) (b : Nat) (σ : St) (x : Int32) (y : Int32)  : Met l yX6_ready (Cond.code yX6_ready cX6_ready 6 (some FieldType.int) :: T0) { frames := 0, cells := 0, slots := 0, locals := 0 } (Pe D (tyx cs) b 43 (Ex cs b σ) [.ref (b + xo 13 0), .int (x), .int (y)]) (Qi D (tyx cs) b 43 (Ex cs b σ) (oI ((f_X6_ready σ x y)))) 0 0 (fun a => b ≤ a) := by
  refine e_met (by decide) rfl (Nat.le_of_ble_eq_true rfl) (fun pg e s m below meth c ls hx hb hr hml hts0 hown hlk hnm hH hK hl hS => ?_)
  have hts : ∀ w ∈ T0, w.before _ s = true := fun w h => hts0 w (List.mem_cons_of_mem _ h)
  have hl : lv_has ls 6 [(0, .ref (b + xo 13 0)), (1, .int (x)), (2, .int (y))] := hl
  refine lv_iconst (v := 0) hx hb dX6_ready_0 (by decide) ?_
  refine lv_istore_n (lv' := [(3, .int (0)), (0, .ref (b + xo 13 0)), (1, .int (x)), (2, .int (y))]) hx hb dX6_ready_1 rfl hl (by decide) rfl (fun ls hl => ?_)
  have e_ : f_X6_ready σ x y = lp_X6_ready_2 x y 9 σ 0 := by simp only [f_X6_ready]
  rw [e_]
  exact w_X6_ready_2 x y  hx hb hr hml hts hown hlk hK 9 σ 0 (by omega) (by omega) _ _ _ hH hS (lv_sub hl [1, 2, 3, 0] rfl)
theorem rdy_lt0 {x y : Int32} : ∀ (n : Nat) (σ : St) (j q : Nat), j ≤ 8 → lp_X6_ready_2 x y n σ j = some q → q < 8 := by
  intro n
  induction n with
  | zero => intro σ j q _ h; cases h
  | succ n ih =>
    intro σ j q hj h
    unfold lp_X6_ready_2 at h
    split at h
    · cases h
    · have hj8 := ngt_8 (j := j) (by omega) 8 (by decide) (by assumption)
      split at h
      · split at h
        · split at h
          · cases h; exact hj8
          · exact ih σ (j + 1) q (by omega) h
        · exact ih σ (j + 1) q (by omega) h
      · exact ih σ (j + 1) q (by omega) h
theorem rdy_lt {σ : St} {x y : Int32} {q : Nat} (h : f_X6_ready σ x y = some q) : q < 8 := rdy_lt0 9 σ 0 q (by decide) h
def lp_X6_current_2 : Nat → St → Nat → Option Nat
  | 0, _, _ => none
  | n + 1, σ, j => (if 8 ≤ nI j then none else (if gI σ 15 0 j = 2 then some j else lp_X6_current_2 n σ ((j + 1))))
def f_X6_current (σ : St)  : Option Nat := lp_X6_current_2 9 σ 0
set_option maxRecDepth 100000 in
set_option maxHeartbeats 4000000 in
theorem w_X6_current_2 {l : Launch} {D : va_G} {cs : Nat → ClassId} {b : Nat} {pg : Program} {e : Env} {s : State} {m : MethodId} {below : List Frame} {meth : Method} {c : Code}    (hx : pg.tables.exec = Jvm.exec) (hb : c.code = cX6_current) (hr : meth.sig.returnType = (some FieldType.int)) (hml : c.maxLocals = 2) {args : Array Value} (hts : ∀ w ∈ T0, w.before args s = true) (hown : s.vm.findClass RX6 = some m.cls) (hlk : meth.locks = false) (hK : va_K D vwCl (tyx cs) s) : ∀ (n : Nat) (σ : St) (j : Nat), 8 < j + n → j ≤ 8 → ∀ (H : Heap) (locs : List Loc) (ls : Array Slot), He D b 43 (Ex cs b σ) H → va_S (fun a => b ≤ a) s.heap H locs → lv_has ls 2 [(0, .ref (b + xo 13 0)), (1, .int (nI j))] → W pg l e { frames := 0, cells := 0, slots := 0, locals := 0 } s m args below meth c H locs 0 0 (MQ below (Qi D (tyx cs) b 43 (Ex cs b σ) (oI ((lp_X6_current_2 n σ j)))) args s 0 0 (fun a => b ≤ a)) (F0 m 2 ls []) := by
  intro n
  induction n with
  | zero =>
    intro σ j h0 h1
    exact absurd h0 (by omega)
  | succ n ih =>
    intro σ j h0 h1 H locs ls hH hS hl
    refine lv_iload_n hx hb dX6_current_2 rfl (lv_at hl 1 rfl) ?_
    refine lv_bipush (v := 8) hx hb dX6_current_3 (by decide) ?_
    refine lv_icmp_ge (tgt := 26) hx hb dX6_current_5 (by decide) (fun c_5_1 => ?_) (fun c_5_1 => ?_)
    ·
      refine lv_iconst (v := (-1)) hx hb dX6_current_26 (by decide) ?_
      exact e_iret hx hb hr hlk hK hH hS dX6_current_27 (by simp only [lp_X6_current_2, if_pos c_5_1]; rfl) rfl
    ·
      have hj8 := ngt_8 (j := j) (by omega) 8 (by decide) (by assumption)
      refine lv_aload_n hx hb dX6_current_8 rfl (lv_at hl 0 rfl) ?_
      refine fgX6_13 hx hb hts hown hK hH 0 (by decide) dX6_current_9 ?_
      refine lv_iload_n hx hb dX6_current_12 rfl (lv_at hl 1 rfl) ?_
      refine x_iald hx hb hK hH 15 0 8 (by decide) rfl j rfl (by omega) (by decide) dX6_current_13 ?_
      refine lv_iconst (v := 2) hx hb dX6_current_14 (by decide) ?_
      refine lv_icmp_ne (tgt := 20) hx hb dX6_current_15 (by decide) (fun c_15_2 => ?_) (fun c_15_2 => ?_)
      ·
        refine lv_iinc (v := nI (j + 1)) (lv' := [(1, .int (nI (j + 1))), (0, .ref (b + xo 13 0))]) hx hb dX6_current_20 hl (k := 1) rfl (nI_1 j) (by decide) rfl (fun ls hl => ?_)
        refine lv_goto (tgt := 2) hx hb dX6_current_23 (by decide) ?_
        have e_ : lp_X6_current_2 (n + 1) σ j = lp_X6_current_2 n σ ((j + 1)) := by simp only [lp_X6_current_2, if_neg c_5_1, if_neg c_15_2]
        rw [e_]
        exact ih σ ((j + 1)) (by omega) (by omega) _ _ _ hH hS (lv_sub hl [1, 0] rfl)
      ·
        refine lv_iload_n hx hb dX6_current_18 rfl (lv_at hl 1 rfl) ?_
        exact e_iret hx hb hr hlk hK hH hS dX6_current_19 (by simp only [lp_X6_current_2, if_neg c_5_1, if_pos c_15_2]; rfl) rfl
set_option maxRecDepth 100000 in
set_option maxHeartbeats 4000000 in
theorem k_X6_current (l : Launch) (D : va_G) (cs : Nat → ClassId) (b : Nat) (σ : St)   : Met l yX6_current (Cond.code yX6_current cX6_current 2 (some FieldType.int) :: T0) { frames := 0, cells := 0, slots := 0, locals := 0 } (Pe D (tyx cs) b 43 (Ex cs b σ) [.ref (b + xo 13 0)]) (Qi D (tyx cs) b 43 (Ex cs b σ) (oI ((f_X6_current σ)))) 0 0 (fun a => b ≤ a) := by
  refine e_met (by decide) rfl (Nat.le_of_ble_eq_true rfl) (fun pg e s m below meth c ls hx hb hr hml hts0 hown hlk hnm hH hK hl hS => ?_)
  have hts : ∀ w ∈ T0, w.before _ s = true := fun w h => hts0 w (List.mem_cons_of_mem _ h)
  have hl : lv_has ls 2 [(0, .ref (b + xo 13 0))] := hl
  refine lv_iconst (v := 0) hx hb dX6_current_0 (by decide) ?_
  refine lv_istore_n (lv' := [(1, .int (0)), (0, .ref (b + xo 13 0))]) hx hb dX6_current_1 rfl hl (by decide) rfl (fun ls hl => ?_)
  have e_ : f_X6_current σ = lp_X6_current_2 9 σ 0 := by simp only [f_X6_current]
  rw [e_]
  exact w_X6_current_2  hx hb hr hml hts hown hlk hK 9 σ 0 (by omega) (by omega) _ _ _ hH hS (lv_sub hl [1, 0] rfl)
theorem cur_lt0 : ∀ (n : Nat) (σ : St) (j q : Nat), j ≤ 8 → lp_X6_current_2 n σ j = some q → q < 8 := by
  intro n
  induction n with
  | zero => intro σ j q _ h; cases h
  | succ n ih =>
    intro σ j q hj h
    unfold lp_X6_current_2 at h
    split at h
    · cases h
    · have hj8 := ngt_8 (j := j) (by omega) 8 (by decide) (by assumption)
      split at h
      · cases h; exact hj8
      · exact ih σ (j + 1) q (by omega) h
theorem cur_lt {σ : St} {q : Nat} (h : f_X6_current σ = some q) : q < 8 := cur_lt0 9 σ 0 q (by decide) h
