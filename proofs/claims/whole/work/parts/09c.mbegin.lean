def lp_X6_begin_3 (x : Int32) (y : Int32) (z : Int32) : Nat → St → Nat → Nat
  | 0, _, j => j
  | n + 1, σ, j => (if 8 ≤ nI j then j else (if gI σ 15 0 j = 0 then j else lp_X6_begin_3 x y z n σ ((j + 1))))
def lp_X6_begin_54 (x : Int32) (y : Int32) (z : Int32) : Nat → St → Nat → Nat → St
  | 0, σ, _, _ => σ
  | n + 1, σ, p4, j => (if 7 ≤ nI j then σ else lp_X6_begin_54 x y z n (sI σ 18 0 ((7 * p4) + j) 0) p4 ((j + 1)))
def f_X6_begin (σ : St) (x : Int32) (y : Int32) (z : Int32) : Option Nat × St := (if nI (lp_X6_begin_3 x y z 9 σ 0) = 8 then (none, σ) else (some ((lp_X6_begin_3 x y z 9 σ 0)), f_X6_atEnd (sI (lp_X6_begin_54 x y z 8 (sI (sI σ 16 0 ((lp_X6_begin_3 x y z 9 σ 0)) x) 17 0 ((lp_X6_begin_3 x y z 9 σ 0)) y) ((lp_X6_begin_3 x y z 9 σ 0)) 0) 18 0 (7 * ((lp_X6_begin_3 x y z 9 σ 0))) z) ((lp_X6_begin_3 x y z 9 σ 0))))
theorem bg_le (x y z : Int32) : ∀ (n : Nat) (σ : St) (j : Nat), j ≤ 8 → lp_X6_begin_3 x y z n σ j ≤ 8 := by
  intro n
  induction n with
  | zero => intro σ j h; exact h
  | succ n ih =>
    intro σ j h
    unfold lp_X6_begin_3
    split
    · exact h
    · have hj8 := ngt_8 (j := j) (by omega) 8 (by decide) (by assumption)
      split
      · exact h
      · exact ih σ (j + 1) (by omega)
set_option maxRecDepth 100000 in
set_option maxHeartbeats 4000000 in
theorem w_X6_begin_3 {l : Launch} {D : va_G} {cs : Nat → ClassId} {b : Nat} {pg : Program} {e : Env} {s : State} {m : MethodId} {below : List Frame} {meth : Method} {c : Code} (x : Int32) (y : Int32) (z : Int32)   (hx : pg.tables.exec = Jvm.exec) (hb : c.code = cX6_begin) (hml : c.maxLocals = 6) {args : Array Value} {H0 : Heap} {Q : State → Prop} (hts : ∀ w ∈ T0, w.before args s = true) (hown : s.vm.findClass RX6 = some m.cls) (hK : va_K D vwCl (tyx cs) s) : ∀ (n : Nat) (σ : St) (j : Nat), 8 < j + n → j ≤ 8 → ∀ (H : Heap) (locs : List Loc) (ls : Array Slot), (∀ (H : Heap) (locs : List Loc) (ls : Array Slot), He D b 43 (Ex cs b (σ)) H → va_S (fun a => b ≤ a) H0 H locs → lv_has ls 6 [(0, .ref (b + xo 13 0)), (1, .int (x)), (2, .int (y)), (3, .int (z)), (4, .int (nI (lp_X6_begin_3 x y z n σ j)))] → W pg l e { frames := 1, cells := 0, slots := 0, locals := 21 } s m args below meth c H locs 0 0 Q (F0 m 26 ls [])) → He D b 43 (Ex cs b σ) H → va_S (fun a => b ≤ a) H0 H locs → lv_has ls 6 [(0, .ref (b + xo 13 0)), (1, .int (x)), (2, .int (y)), (3, .int (z)), (4, .int (nI j))] → W pg l e { frames := 1, cells := 0, slots := 0, locals := 21 } s m args below meth c H locs 0 0 Q (F0 m 3 ls []) := by
  intro n
  induction n with
  | zero =>
    intro σ j h0 h1
    exact absurd h0 (by omega)
  | succ n ih =>
    intro σ j h0 h1 H locs ls kk hH hS hl
    refine lv_iload hx hb dX6_begin_3 (lv_at hl 4 rfl) ?_
    refine lv_bipush (v := 8) hx hb dX6_begin_5 (by decide) ?_
    refine lv_icmp_ge (tgt := 26) hx hb dX6_begin_7 (by decide) (fun c_7_1 => ?_) (fun c_7_1 => ?_)
    ·
      have e_ : lp_X6_begin_3 x y z (n + 1) σ j = j := by simp only [lp_X6_begin_3, if_pos c_7_1]
      rw [e_] at kk
      exact kk _ _ _ hH hS (lv_sub hl [0, 1, 2, 3, 4] rfl)
    ·
      have hj8 := ngt_8 (j := j) (by omega) 8 (by decide) (by assumption)
      refine lv_aload_n hx hb dX6_begin_10 rfl (lv_at hl 0 rfl) ?_
      refine fgX6_13 hx hb hts hown hK hH 0 (by decide) dX6_begin_11 ?_
      refine lv_iload hx hb dX6_begin_14 (lv_at hl 4 rfl) ?_
      refine x_iald hx hb hK hH 15 0 8 (by decide) rfl j rfl (by omega) (by decide) dX6_begin_16 ?_
      refine lv_if_eq (tgt := 26) hx hb dX6_begin_17 (by decide) (fun c_17_2 => ?_) (fun c_17_2 => ?_)
      ·
        have e_ : lp_X6_begin_3 x y z (n + 1) σ j = j := by simp only [lp_X6_begin_3, if_neg c_7_1, if_pos c_17_2]
        rw [e_] at kk
        exact kk _ _ _ hH hS (lv_sub hl [0, 1, 2, 3, 4] rfl)
      ·
        refine lv_iinc (v := nI (j + 1)) (lv' := [(4, .int (nI (j + 1))), (0, .ref (b + xo 13 0)), (1, .int (x)), (2, .int (y)), (3, .int (z))]) hx hb dX6_begin_20 hl (k := 4) rfl (nI_1 j) (by decide) rfl (fun ls hl => ?_)
        refine lv_goto (tgt := 3) hx hb dX6_begin_23 (by decide) ?_
        have e_ : lp_X6_begin_3 x y z (n + 1) σ j = lp_X6_begin_3 x y z n σ ((j + 1)) := by simp only [lp_X6_begin_3, if_neg c_7_1, if_neg c_17_2]
        rw [e_] at kk
        exact ih σ ((j + 1)) (by omega) (by omega) _ _ _ kk hH hS (lv_sub hl [1, 2, 3, 4, 0] rfl)
set_option maxRecDepth 100000 in
set_option maxHeartbeats 4000000 in
theorem w_X6_begin_54 {l : Launch} {D : va_G} {cs : Nat → ClassId} {b : Nat} {pg : Program} {e : Env} {s : State} {m : MethodId} {below : List Frame} {meth : Method} {c : Code} (x : Int32) (y : Int32) (z : Int32)   (hx : pg.tables.exec = Jvm.exec) (hb : c.code = cX6_begin) (hml : c.maxLocals = 6) {args : Array Value} {H0 : Heap} {Q : State → Prop} (hts : ∀ w ∈ T0, w.before args s = true) (hown : s.vm.findClass RX6 = some m.cls) (hK : va_K D vwCl (tyx cs) s) : ∀ (n : Nat) (σ : St) (p4 : Nat) (j : Nat), 7 < j + n → j ≤ 7 → p4 < 8 → ∀ (H : Heap) (locs : List Loc) (ls : Array Slot), (∀ (H : Heap) (locs : List Loc) (ls : Array Slot), He D b 43 (Ex cs b (lp_X6_begin_54 x y z n σ p4 j)) H → va_S (fun a => b ≤ a) H0 H locs → lv_has ls 6 [(0, .ref (b + xo 13 0)), (1, .int (x)), (2, .int (y)), (3, .int (z)), (4, .int (nI p4))] → W pg l e { frames := 1, cells := 0, slots := 0, locals := 21 } s m args below meth c H locs 0 0 Q (F0 m 81 ls [])) → He D b 43 (Ex cs b σ) H → va_S (fun a => b ≤ a) H0 H locs → lv_has ls 6 [(0, .ref (b + xo 13 0)), (1, .int (x)), (2, .int (y)), (3, .int (z)), (4, .int (nI p4)), (5, .int (nI j))] → W pg l e { frames := 1, cells := 0, slots := 0, locals := 21 } s m args below meth c H locs 0 0 Q (F0 m 54 ls []) := by
  intro n
  induction n with
  | zero =>
    intro σ p4 j h0 h1 h2
    exact absurd h0 (by omega)
  | succ n ih =>
    intro σ p4 j h0 h1 h2 H locs ls kk hH hS hl
    refine lv_iload hx hb dX6_begin_54 (lv_at hl 5 rfl) ?_
    refine lv_bipush (v := 7) hx hb dX6_begin_56 (by decide) ?_
    refine lv_icmp_ge (tgt := 81) hx hb dX6_begin_58 (by decide) (fun c_58_3 => ?_) (fun c_58_3 => ?_)
    ·
      have e_ : lp_X6_begin_54 x y z (n + 1) σ p4 j = σ := by simp only [lp_X6_begin_54, if_pos c_58_3]
      rw [e_] at kk
      exact kk _ _ _ hH hS (lv_sub hl [0, 1, 2, 3, 4] rfl)
    ·
      have hj7 := ngt_8 (j := j) (by omega) 7 (by decide) (by assumption)
      refine lv_aload_n hx hb dX6_begin_61 rfl (lv_at hl 0 rfl) ?_
      refine fgX6_22 hx hb hts hown hK hH 0 (by decide) dX6_begin_62 ?_
      refine lv_bipush (v := 7) hx hb dX6_begin_65 (by decide) ?_
      refine lv_iload hx hb dX6_begin_67 (lv_at hl 4 rfl) ?_
      refine lv_imul hx hb dX6_begin_69 ?_
      refine lv_iload hx hb dX6_begin_70 (lv_at hl 5 rfl) ?_
      refine lv_iadd hx hb dX6_begin_72 ?_
      refine lv_iconst (v := 0) hx hb dX6_begin_73 (by decide) ?_
      refine x_iast hx hb hK hH hS 18 0 56 (by decide) (fun _ _ => rfl) ((7 * p4) + j) ((tagA ((tagM ((rfl : (7 : Int32) = nI 7)) rfl)) rfl)) (by omega) (by decide) dX6_begin_74 (fun H locs hH hS => ?_)
      refine lv_iinc (v := nI (j + 1)) (lv' := [(5, .int (nI (j + 1))), (0, .ref (b + xo 13 0)), (1, .int (x)), (2, .int (y)), (3, .int (z)), (4, .int (nI p4))]) hx hb dX6_begin_75 hl (k := 5) rfl (nI_1 j) (by decide) rfl (fun ls hl => ?_)
      refine lv_goto (tgt := 54) hx hb dX6_begin_78 (by decide) ?_
      have e_ : lp_X6_begin_54 x y z (n + 1) σ p4 j = lp_X6_begin_54 x y z n (sI σ 18 0 ((7 * p4) + j) 0) p4 ((j + 1)) := by simp only [lp_X6_begin_54, if_neg c_58_3]
      rw [e_] at kk
      exact ih (sI σ 18 0 ((7 * p4) + j) 0) p4 ((j + 1)) (by omega) (by omega) h2 _ _ _ kk hH hS (lv_sub hl [1, 2, 3, 4, 5, 0] rfl)
set_option maxRecDepth 100000 in
set_option maxHeartbeats 4000000 in
theorem k_X6_begin (l : Launch) (D : va_G) (cs : Nat → ClassId) (b : Nat) (σ : St) (x : Int32) (y : Int32) (z : Int32)  : Met l yX6_begin (Cond.code yX6_begin cX6_begin 6 (some FieldType.int) :: T0) { frames := 1, cells := 0, slots := 0, locals := 21 } (Pe D (tyx cs) b 43 (Ex cs b σ) [.ref (b + xo 13 0), .int (x), .int (y), .int (z)]) (Qi D (tyx cs) b 43 (Ex cs b (f_X6_begin σ x y z).2) (oI ((f_X6_begin σ x y z).1))) 0 0 (fun a => b ≤ a) := by
  refine e_met (by decide) rfl (Nat.le_of_ble_eq_true rfl) (fun pg e s m below meth c ls hx hb hr hml hts0 hown hlk hnm hH hK hl hS => ?_)
  have hts : ∀ w ∈ T0, w.before _ s = true := fun w h => hts0 w (List.mem_cons_of_mem _ h)
  have hl : lv_has ls 6 [(0, .ref (b + xo 13 0)), (1, .int (x)), (2, .int (y)), (3, .int (z))] := hl
  refine lv_iconst (v := 0) hx hb dX6_begin_0 (by decide) ?_
  refine lv_istore (lv' := [(4, .int (0)), (0, .ref (b + xo 13 0)), (1, .int (x)), (2, .int (y)), (3, .int (z))]) hx hb dX6_begin_1 hl (by decide) rfl (fun ls hl => ?_)
  refine w_X6_begin_3 x y z  hx hb hml hts hown hK 9 σ 0 (by omega) (by omega) _ _ _ (fun H locs ls hH hS hl => ?_) hH hS (lv_sub hl [1, 2, 3, 4, 0] rfl)
  have hb8 := bg_le x y z 9 σ 0 (by decide)
  refine lv_iload hx hb dX6_begin_26 (lv_at hl 4 rfl) ?_
  refine lv_bipush (v := 8) hx hb dX6_begin_28 (by decide) ?_
  refine lv_icmp_ne (tgt := 35) hx hb dX6_begin_30 (by decide) (fun c_30_4 => ?_) (fun c_30_4 => ?_)
  ·
    have hb7 := nlt8 hb8 (by assumption)
    refine lv_aload_n hx hb dX6_begin_35 rfl (lv_at hl 0 rfl) ?_
    refine fgX6_16 hx hb hts hown hK hH 0 (by decide) dX6_begin_36 ?_
    refine lv_iload hx hb dX6_begin_39 (lv_at hl 4 rfl) ?_
    refine lv_iload_n hx hb dX6_begin_41 rfl (lv_at hl 1 rfl) ?_
    refine x_iast hx hb hK hH hS 16 0 8 (by decide) (fun _ _ => rfl) ((lp_X6_begin_3 x y z 9 σ 0)) rfl (by omega) (by decide) dX6_begin_42 (fun H locs hH hS => ?_)
    refine lv_aload_n hx hb dX6_begin_43 rfl (lv_at hl 0 rfl) ?_
    refine fgX6_19 hx hb hts hown hK hH 0 (by decide) dX6_begin_44 ?_
    refine lv_iload hx hb dX6_begin_47 (lv_at hl 4 rfl) ?_
    refine lv_iload_n hx hb dX6_begin_49 rfl (lv_at hl 2 rfl) ?_
    refine x_iast hx hb hK hH hS 17 0 8 (by decide) (fun _ _ => rfl) ((lp_X6_begin_3 x y z 9 σ 0)) rfl (by omega) (by decide) dX6_begin_50 (fun H locs hH hS => ?_)
    refine lv_iconst (v := 0) hx hb dX6_begin_51 (by decide) ?_
    refine lv_istore (lv' := [(5, .int (0)), (0, .ref (b + xo 13 0)), (1, .int (x)), (2, .int (y)), (3, .int (z)), (4, .int (nI (lp_X6_begin_3 x y z 9 σ 0)))]) hx hb dX6_begin_52 hl (by decide) rfl (fun ls hl => ?_)
    refine w_X6_begin_54 x y z  hx hb hml hts hown hK 8 (sI (sI σ 16 0 ((lp_X6_begin_3 x y z 9 σ 0)) x) 17 0 ((lp_X6_begin_3 x y z 9 σ 0)) y) ((lp_X6_begin_3 x y z 9 σ 0)) 0 (by omega) (by omega) (by omega) _ _ _ (fun H locs ls hH hS hl => ?_) hH hS (lv_sub hl [1, 2, 3, 4, 5, 0] rfl)
    refine lv_aload_n hx hb dX6_begin_81 rfl (lv_at hl 0 rfl) ?_
    refine fgX6_22 hx hb hts hown hK hH 0 (by decide) dX6_begin_82 ?_
    refine lv_bipush (v := 7) hx hb dX6_begin_85 (by decide) ?_
    refine lv_iload hx hb dX6_begin_87 (lv_at hl 4 rfl) ?_
    refine lv_imul hx hb dX6_begin_89 ?_
    refine lv_iload_n hx hb dX6_begin_90 rfl (lv_at hl 3 rfl) ?_
    refine x_iast hx hb hK hH hS 18 0 56 (by decide) (fun _ _ => rfl) (7 * ((lp_X6_begin_3 x y z 9 σ 0))) ((tagM ((rfl : (7 : Int32) = nI 7)) rfl)) (by omega) (by decide) dX6_begin_91 (fun H locs hH hS => ?_)
    refine lv_aload_n hx hb dX6_begin_92 rfl (lv_at hl 0 rfl) ?_
    refine lv_iload hx hb dX6_begin_93 (lv_at hl 4 rfl) ?_
    refine e_cv (e_runV (C := RX6) (ci := 6) (As := [.int (nI (lp_X6_begin_3 x y z 9 σ 0))]) (rest := []) ⟨hx, hb, hml, hown, hts⟩ (k_X6_atEnd l D cs b (sI (lp_X6_begin_54 x y z 8 (sI (sI σ 16 0 ((lp_X6_begin_3 x y z 9 σ 0)) x) 17 0 ((lp_X6_begin_3 x y z 9 σ 0)) y) ((lp_X6_begin_3 x y z 9 σ 0)) 0) 18 0 (7 * ((lp_X6_begin_3 x y z 9 σ 0))) z) ((lp_X6_begin_3 x y z 9 σ 0)) (by first | assumption | omega | decide)) ⟨callB_of 1 hts (gC wC_X6_atEnd) rfl rfl rfl (hts _ wi_X6) (hts _ wM_X6_51) (by decide +kernel) (by decide), hts _ wN_X6_atEnd, hts _ wS_X6_atEnd⟩ hK hH (xo_ok (by decide)).2.2 (Ex_at cs b (sI (lp_X6_begin_54 x y z 8 (sI (sI σ 16 0 ((lp_X6_begin_3 x y z 9 σ 0)) x) 17 0 ((lp_X6_begin_3 x y z 9 σ 0)) y) ((lp_X6_begin_3 x y z 9 σ 0)) 0) 18 0 (7 * ((lp_X6_begin_3 x y z 9 σ 0))) z) (by decide)) rfl rfl rfl hl.1 rfl (Nat.le_of_ble_eq_true rfl) dX6_begin_95 (by decide)) hS (fun H locs hH hS => ?_)
    refine lv_iload hx hb dX6_begin_98 (lv_at hl 4 rfl) ?_
    exact e_iret hx hb hr hlk hK hH hS dX6_begin_100 (by simp only [f_X6_begin, if_neg c_30_4]; rfl) (congrArg (Ex cs b) (by simp only [f_X6_begin, if_neg c_30_4]))
  ·
    refine lv_iconst (v := (-1)) hx hb dX6_begin_33 (by decide) ?_
    exact e_iret hx hb hr hlk hK hH hS dX6_begin_34 (by simp only [f_X6_begin, if_pos c_30_4]; rfl) (congrArg (Ex cs b) (by simp only [f_X6_begin, if_pos c_30_4]))
theorem begin_lt {σ : St} {x y z : Int32} {q : Nat} (h : (f_X6_begin σ x y z).1 = some q) : q < 8 := by
  unfold f_X6_begin at h
  split at h
  · cases h
  · cases h
    exact nlt8 (bg_le x y z 9 σ 0 (by decide)) (by assumption)
def f_X6_start (σ : St) (x : Int32) (y : Int32) (z : Int32) : Int32 × St := (if f_X6_within σ x 0 1 = 0 then ((-1), σ) else (if f_X6_within σ y 0 39 = 0 then ((-1), σ) else (oC ((f_X6_begin σ x y z).1) (((-2), (f_X6_begin σ x y z).2)) (fun q25_3 => (nI q25_3, (f_X6_begin σ x y z).2)))))
set_option maxRecDepth 100000 in
set_option maxHeartbeats 4000000 in
theorem k_X6_start (l : Launch) (D : va_G) (cs : Nat → ClassId) (b : Nat) (σ : St) (x : Int32) (y : Int32) (z : Int32)  : Met l yX6_start (Cond.code yX6_start cX6_start 5 (some FieldType.int) :: T0) { frames := 2, cells := 0, slots := 0, locals := 46 } (Pe D (tyx cs) b 43 (Ex cs b σ) [.ref (b + xo 13 0), .int (x), .int (y), .int (z)]) (Qi D (tyx cs) b 43 (Ex cs b (f_X6_start σ x y z).2) (f_X6_start σ x y z).1) 0 0 (fun a => b ≤ a) := by
  refine e_met (by decide) rfl (Nat.le_of_ble_eq_true rfl) (fun pg e s m below meth c ls hx hb hr hml hts0 hown hlk hnm hH hK hl hS => ?_)
  have hts : ∀ w ∈ T0, w.before _ s = true := fun w h => hts0 w (List.mem_cons_of_mem _ h)
  have hl : lv_has ls 5 [(0, .ref (b + xo 13 0)), (1, .int (x)), (2, .int (y)), (3, .int (z))] := hl
  refine lv_iload_n hx hb dX6_start_0 rfl (lv_at hl 1 rfl) ?_
  refine lv_iconst (v := 0) hx hb dX6_start_1 (by decide) ?_
  refine lv_iconst (v := 1) hx hb dX6_start_2 (by decide) ?_
  refine e_ci (e_runS (As := [.int (x), .int (0), .int (1)]) (rest := []) ⟨hx, hb, hml, hown, hts⟩ (k_X6_within l D cs b σ x 0 1 ) ⟨callB_of 3 hts (gC wC_X6_within) rfl rfl rfl (hts _ wi_X6) (hts _ wM_X6_40) (by decide +kernel) (by decide), hts _ wT_X6_within⟩ hK hH rfl hl.1 rfl (Nat.le_of_ble_eq_true rfl) dX6_start_3 (by decide)) hS (fun H locs hH hS => ?_)
  refine lv_if_eq (tgt := 19) hx hb dX6_start_6 (by decide) (fun c_6_1 => ?_) (fun c_6_1 => ?_)
  ·
    refine lv_iconst (v := (-1)) hx hb dX6_start_19 (by decide) ?_
    exact e_iret hx hb hr hlk hK hH hS dX6_start_20 (by simp only [f_X6_start, if_pos c_6_1]) (congrArg (Ex cs b) (by simp only [f_X6_start, if_pos c_6_1]))
  ·
    refine lv_iload_n hx hb dX6_start_9 rfl (lv_at hl 2 rfl) ?_
    refine lv_iconst (v := 0) hx hb dX6_start_10 (by decide) ?_
    refine lv_bipush (v := 39) hx hb dX6_start_11 (by decide) ?_
    refine e_ci (e_runS (As := [.int (y), .int (0), .int (39)]) (rest := []) ⟨hx, hb, hml, hown, hts⟩ (k_X6_within l D cs b σ y 0 39 ) ⟨callB_of 3 hts (gC wC_X6_within) rfl rfl rfl (hts _ wi_X6) (hts _ wM_X6_40) (by decide +kernel) (by decide), hts _ wT_X6_within⟩ hK hH rfl hl.1 rfl (Nat.le_of_ble_eq_true rfl) dX6_start_13 (by decide)) hS (fun H locs hH hS => ?_)
    refine lv_if_ne (tgt := 21) hx hb dX6_start_16 (by decide) (fun c_16_2 => ?_) (fun c_16_2 => ?_)
    ·
      refine lv_aload_n hx hb dX6_start_21 rfl (lv_at hl 0 rfl) ?_
      refine lv_iload_n hx hb dX6_start_22 rfl (lv_at hl 1 rfl) ?_
      refine lv_iload_n hx hb dX6_start_23 rfl (lv_at hl 2 rfl) ?_
      refine lv_iload_n hx hb dX6_start_24 rfl (lv_at hl 3 rfl) ?_
      refine e_ci (e_runV (C := RX6) (ci := 6) (As := [.int (x), .int (y), .int (z)]) (rest := []) ⟨hx, hb, hml, hown, hts⟩ (k_X6_begin l D cs b σ x y z ) ⟨callB_of 3 hts (gC wC_X6_begin) rfl rfl rfl (hts _ wi_X6) (hts _ wM_X6_55) (by decide +kernel) (by decide), hts _ wN_X6_begin, hts _ wS_X6_begin⟩ hK hH (xo_ok (by decide)).2.2 (Ex_at cs b σ (by decide)) rfl rfl rfl hl.1 rfl (Nat.le_of_ble_eq_true rfl) dX6_start_25 (by decide)) hS (fun H locs hH hS => ?_)
      rcases hq_25_3 : (f_X6_begin σ x y z).1 with _ | q25_3
      ·
        refine W.eq (g2 := F0 m 28 ls [.int ((-1))]) rfl ?_
        refine lv_istore (lv' := [(4, .int ((-1))), (0, .ref (b + xo 13 0)), (1, .int (x)), (2, .int (y)), (3, .int (z))]) hx hb dX6_start_28 hl (by decide) rfl (fun ls hl => ?_)
        refine lv_iload hx hb dX6_start_30 (lv_at hl 0 rfl) ?_
        refine lv_if_ge (tgt := 40) hx hb dX6_start_32 (by decide) (fun c_32_4 => ?_) (fun c_32_4 => ?_)
        ·
          exact absurd c_32_4 (by decide)
        refine lv_bipush (v := (-2)) hx hb dX6_start_35 (by decide) ?_
        refine lv_goto (tgt := 42) hx hb dX6_start_37 (by decide) ?_
        exact e_iret hx hb hr hlk hK hH hS dX6_start_42 (by simp only [f_X6_start, if_neg c_6_1, if_neg c_16_2, hq_25_3, oC_none]) (congrArg (Ex cs b) (by simp only [f_X6_start, if_neg c_6_1, if_neg c_16_2, hq_25_3, oC_none]))
      ·
        have q25_3b := begin_lt hq_25_3
        refine W.eq (g2 := F0 m 28 ls [.int (nI q25_3)]) rfl ?_
        refine lv_istore (lv' := [(4, .int (nI q25_3)), (0, .ref (b + xo 13 0)), (1, .int (x)), (2, .int (y)), (3, .int (z))]) hx hb dX6_start_28 hl (by decide) rfl (fun ls hl => ?_)
        refine lv_iload hx hb dX6_start_30 (lv_at hl 0 rfl) ?_
        refine lv_if_ge (tgt := 40) hx hb dX6_start_32 (by decide) (fun c_32_5 => ?_) (fun c_32_5 => ?_)
        rotate_left
        ·
          exact absurd (nI_pos' (by omega)) c_32_5
        refine lv_iload hx hb dX6_start_40 (lv_at hl 0 rfl) ?_
        exact e_iret hx hb hr hlk hK hH hS dX6_start_42 (by simp only [f_X6_start, if_neg c_6_1, if_neg c_16_2, hq_25_3, oC_some]) (congrArg (Ex cs b) (by simp only [f_X6_start, if_neg c_6_1, if_neg c_16_2, hq_25_3, oC_some]))
    ·
      refine lv_iconst (v := (-1)) hx hb dX6_start_19 (by decide) ?_
      exact e_iret hx hb hr hlk hK hH hS dX6_start_20 (by simp only [f_X6_start, if_neg c_6_1, if_pos c_16_2]) (congrArg (Ex cs b) (by simp only [f_X6_start, if_neg c_6_1, if_pos c_16_2]))
def f_X6_setClock (σ : St) (x : Int32) : St := sI σ 13 0 11 x
set_option maxRecDepth 100000 in
set_option maxHeartbeats 4000000 in
theorem k_X6_setClock (l : Launch) (D : va_G) (cs : Nat → ClassId) (b : Nat) (σ : St) (x : Int32)  : Met l yX6_setClock (Cond.code yX6_setClock cX6_setClock 2 (none : Option FieldType) :: T0) { frames := 0, cells := 0, slots := 0, locals := 0 } (Pe D (tyx cs) b 43 (Ex cs b σ) [.ref (b + xo 13 0), .int (x)]) (Qv D (tyx cs) b 43 (Ex cs b (f_X6_setClock σ x))) 0 0 (fun a => b ≤ a) := by
  refine e_met (by decide) rfl (Nat.le_of_ble_eq_true rfl) (fun pg e s m below meth c ls hx hb hr hml hts0 hown hlk hnm hH hK hl hS => ?_)
  have hts : ∀ w ∈ T0, w.before _ s = true := fun w h => hts0 w (List.mem_cons_of_mem _ h)
  have hl : lv_has ls 2 [(0, .ref (b + xo 13 0)), (1, .int (x))] := hl
  refine lv_aload_n hx hb dX6_setClock_0 rfl (lv_at hl 0 rfl) ?_
  refine lv_iload_n hx hb dX6_setClock_1 rfl (lv_at hl 1 rfl) ?_
  refine fpX6_59 hx hb hts hown hK hH hS 0 (by decide) dX6_setClock_2 (fun H locs hH hS => ?_)
  exact e_vret hx hb hr hlk hK hH hS dX6_setClock_5 (congrArg (Ex cs b) (by simp only [f_X6_setClock]))
def lp_X6_reset_2 : Nat → St → Nat → St
  | 0, σ, _ => σ
  | n + 1, σ, j => (if 8 ≤ nI j then σ else lp_X6_reset_2 n (sI σ 15 0 j 0) ((j + 1)))
def lp_X6_reset_23 : Nat → St → Nat → St
  | 0, σ, _ => σ
  | n + 1, σ, j => (if 4 ≤ nI j then σ else lp_X6_reset_23 n (sI σ 22 0 j 0) ((j + 1)))
def f_X6_reset (σ : St)  : St := lp_X6_reset_23 5 (lp_X6_reset_2 9 σ 0) 0
set_option maxRecDepth 100000 in
set_option maxHeartbeats 4000000 in
theorem w_X6_reset_2 {l : Launch} {D : va_G} {cs : Nat → ClassId} {b : Nat} {pg : Program} {e : Env} {s : State} {m : MethodId} {below : List Frame} {meth : Method} {c : Code}    (hx : pg.tables.exec = Jvm.exec) (hb : c.code = cX6_reset) (hml : c.maxLocals = 2) {args : Array Value} {H0 : Heap} {Q : State → Prop} (hts : ∀ w ∈ T0, w.before args s = true) (hown : s.vm.findClass RX6 = some m.cls) (hK : va_K D vwCl (tyx cs) s) : ∀ (n : Nat) (σ : St) (j : Nat), 8 < j + n → j ≤ 8 → ∀ (H : Heap) (locs : List Loc) (ls : Array Slot), (∀ (H : Heap) (locs : List Loc) (ls : Array Slot), He D b 43 (Ex cs b (lp_X6_reset_2 n σ j)) H → va_S (fun a => b ≤ a) H0 H locs → lv_has ls 2 [(0, .ref (b + xo 13 0))] → W pg l e { frames := 0, cells := 0, slots := 0, locals := 0 } s m args below meth c H locs 0 0 Q (F0 m 21 ls [])) → He D b 43 (Ex cs b σ) H → va_S (fun a => b ≤ a) H0 H locs → lv_has ls 2 [(0, .ref (b + xo 13 0)), (1, .int (nI j))] → W pg l e { frames := 0, cells := 0, slots := 0, locals := 0 } s m args below meth c H locs 0 0 Q (F0 m 2 ls []) := by
  intro n
  induction n with
  | zero =>
    intro σ j h0 h1
    exact absurd h0 (by omega)
  | succ n ih =>
    intro σ j h0 h1 H locs ls kk hH hS hl
    refine lv_iload_n hx hb dX6_reset_2 rfl (lv_at hl 1 rfl) ?_
    refine lv_bipush (v := 8) hx hb dX6_reset_3 (by decide) ?_
    refine lv_icmp_ge (tgt := 21) hx hb dX6_reset_5 (by decide) (fun c_5_1 => ?_) (fun c_5_1 => ?_)
    ·
      have e_ : lp_X6_reset_2 (n + 1) σ j = σ := by simp only [lp_X6_reset_2, if_pos c_5_1]
      rw [e_] at kk
      exact kk _ _ _ hH hS (lv_sub hl [0] rfl)
    ·
      have hj8 := ngt_8 (j := j) (by omega) 8 (by decide) (by assumption)
      refine lv_aload_n hx hb dX6_reset_8 rfl (lv_at hl 0 rfl) ?_
      refine fgX6_13 hx hb hts hown hK hH 0 (by decide) dX6_reset_9 ?_
      refine lv_iload_n hx hb dX6_reset_12 rfl (lv_at hl 1 rfl) ?_
      refine lv_iconst (v := 0) hx hb dX6_reset_13 (by decide) ?_
      refine x_iast hx hb hK hH hS 15 0 8 (by decide) (fun _ _ => rfl) j rfl (by omega) (by decide) dX6_reset_14 (fun H locs hH hS => ?_)
      refine lv_iinc (v := nI (j + 1)) (lv' := [(1, .int (nI (j + 1))), (0, .ref (b + xo 13 0))]) hx hb dX6_reset_15 hl (k := 1) rfl (nI_1 j) (by decide) rfl (fun ls hl => ?_)
      refine lv_goto (tgt := 2) hx hb dX6_reset_18 (by decide) ?_
      have e_ : lp_X6_reset_2 (n + 1) σ j = lp_X6_reset_2 n (sI σ 15 0 j 0) ((j + 1)) := by simp only [lp_X6_reset_2, if_neg c_5_1]
      rw [e_] at kk
      exact ih (sI σ 15 0 j 0) ((j + 1)) (by omega) (by omega) _ _ _ kk hH hS (lv_sub hl [1, 0] rfl)
set_option maxRecDepth 100000 in
set_option maxHeartbeats 4000000 in
theorem w_X6_reset_23 {l : Launch} {D : va_G} {cs : Nat → ClassId} {b : Nat} {pg : Program} {e : Env} {s : State} {m : MethodId} {below : List Frame} {meth : Method} {c : Code}    (hx : pg.tables.exec = Jvm.exec) (hb : c.code = cX6_reset) (hml : c.maxLocals = 2) {args : Array Value} {H0 : Heap} {Q : State → Prop} (hts : ∀ w ∈ T0, w.before args s = true) (hown : s.vm.findClass RX6 = some m.cls) (hK : va_K D vwCl (tyx cs) s) : ∀ (n : Nat) (σ : St) (j : Nat), 4 < j + n → j ≤ 4 → ∀ (H : Heap) (locs : List Loc) (ls : Array Slot), (∀ (H : Heap) (locs : List Loc) (ls : Array Slot), He D b 43 (Ex cs b (lp_X6_reset_23 n σ j)) H → va_S (fun a => b ≤ a) H0 H locs → lv_has ls 2 [(0, .ref (b + xo 13 0))] → W pg l e { frames := 0, cells := 0, slots := 0, locals := 0 } s m args below meth c H locs 0 0 Q (F0 m 41 ls [])) → He D b 43 (Ex cs b σ) H → va_S (fun a => b ≤ a) H0 H locs → lv_has ls 2 [(0, .ref (b + xo 13 0)), (1, .int (nI j))] → W pg l e { frames := 0, cells := 0, slots := 0, locals := 0 } s m args below meth c H locs 0 0 Q (F0 m 23 ls []) := by
  intro n
  induction n with
  | zero =>
    intro σ j h0 h1
    exact absurd h0 (by omega)
  | succ n ih =>
    intro σ j h0 h1 H locs ls kk hH hS hl
    refine lv_iload_n hx hb dX6_reset_23 rfl (lv_at hl 1 rfl) ?_
    refine lv_iconst (v := 4) hx hb dX6_reset_24 (by decide) ?_
    refine lv_icmp_ge (tgt := 41) hx hb dX6_reset_25 (by decide) (fun c_25_2 => ?_) (fun c_25_2 => ?_)
    ·
      have e_ : lp_X6_reset_23 (n + 1) σ j = σ := by simp only [lp_X6_reset_23, if_pos c_25_2]
      rw [e_] at kk
      exact kk _ _ _ hH hS (lv_sub hl [0] rfl)
    ·
      have hj4 := ngt_8 (j := j) (by omega) 4 (by decide) (by assumption)
      refine lv_aload_n hx hb dX6_reset_28 rfl (lv_at hl 0 rfl) ?_
      refine fgX6_34 hx hb hts hown hK hH 0 (by decide) dX6_reset_29 ?_
      refine lv_iload_n hx hb dX6_reset_32 rfl (lv_at hl 1 rfl) ?_
      refine lv_iconst (v := 0) hx hb dX6_reset_33 (by decide) ?_
      refine x_iast hx hb hK hH hS 22 0 4 (by decide) (fun _ _ => rfl) j rfl (by omega) (by decide) dX6_reset_34 (fun H locs hH hS => ?_)
      refine lv_iinc (v := nI (j + 1)) (lv' := [(1, .int (nI (j + 1))), (0, .ref (b + xo 13 0))]) hx hb dX6_reset_35 hl (k := 1) rfl (nI_1 j) (by decide) rfl (fun ls hl => ?_)
      refine lv_goto (tgt := 23) hx hb dX6_reset_38 (by decide) ?_
      have e_ : lp_X6_reset_23 (n + 1) σ j = lp_X6_reset_23 n (sI σ 22 0 j 0) ((j + 1)) := by simp only [lp_X6_reset_23, if_neg c_25_2]
      rw [e_] at kk
      exact ih (sI σ 22 0 j 0) ((j + 1)) (by omega) (by omega) _ _ _ kk hH hS (lv_sub hl [1, 0] rfl)
set_option maxRecDepth 100000 in
set_option maxHeartbeats 4000000 in
theorem k_X6_reset (l : Launch) (D : va_G) (cs : Nat → ClassId) (b : Nat) (σ : St)   : Met l yX6_reset (Cond.code yX6_reset cX6_reset 2 (none : Option FieldType) :: T0) { frames := 0, cells := 0, slots := 0, locals := 0 } (Pe D (tyx cs) b 43 (Ex cs b σ) [.ref (b + xo 13 0)]) (Qv D (tyx cs) b 43 (Ex cs b (f_X6_reset σ))) 0 0 (fun a => b ≤ a) := by
  refine e_met (by decide) rfl (Nat.le_of_ble_eq_true rfl) (fun pg e s m below meth c ls hx hb hr hml hts0 hown hlk hnm hH hK hl hS => ?_)
  have hts : ∀ w ∈ T0, w.before _ s = true := fun w h => hts0 w (List.mem_cons_of_mem _ h)
  have hl : lv_has ls 2 [(0, .ref (b + xo 13 0))] := hl
  refine lv_iconst (v := 0) hx hb dX6_reset_0 (by decide) ?_
  refine lv_istore_n (lv' := [(1, .int (0)), (0, .ref (b + xo 13 0))]) hx hb dX6_reset_1 rfl hl (by decide) rfl (fun ls hl => ?_)
  refine w_X6_reset_2  hx hb hml hts hown hK 9 σ 0 (by omega) (by omega) _ _ _ (fun H locs ls hH hS hl => ?_) hH hS (lv_sub hl [1, 0] rfl)
  refine lv_iconst (v := 0) hx hb dX6_reset_21 (by decide) ?_
  refine lv_istore_n (lv' := [(1, .int (0)), (0, .ref (b + xo 13 0))]) hx hb dX6_reset_22 rfl hl (by decide) rfl (fun ls hl => ?_)
  refine w_X6_reset_23  hx hb hml hts hown hK 5 (lp_X6_reset_2 9 σ 0) 0 (by omega) (by omega) _ _ _ (fun H locs ls hH hS hl => ?_) hH hS (lv_sub hl [1, 0] rfl)
  exact e_vret hx hb hr hlk hK hH hS dX6_reset_41 (congrArg (Ex cs b) (by simp only [f_X6_reset]))
