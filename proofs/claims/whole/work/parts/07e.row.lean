def zN (σ : St) (r : Nat) : Nat := (gI σ 9 r 1).toNatClampNeg
def okR (σ : St) (r : Nat) : Prop := gI σ 9 r 1 = nI (zN σ r) ∧ zN σ r ≤ 8 ∧ ∀ j p, gR σ 10 r j = some p → p < 8
theorem vin_sz {σ : St} {r : Nat} {x : Int32} (h0 : ¬ x < 0) (h : ¬ gI σ 9 r 1 ≤ x) (hk : okR σ r) : vp_in x 8 := by
  rw [hk.1] at h
  have h1 := vin_nle (zN σ r) h0 h (by have := hk.2.1; omega)
  have h2 := cl_of h1
  have h3 := cl_lt h1
  have := hk.2.1
  rw [h2]
  exact vp_in_nI (by omega) (by decide)
theorem szpos {σ : St} {r : Nat} (h : 0 < gI σ 9 r 1) (hk : okR σ r) : 0 < zN σ r := by
  rcases Nat.eq_zero_or_pos (zN σ r) with q | q
  · rw [hk.1, q] at h; exact absurd h (by decide)
  · exact q
def f_X4_clear (σ : St) (r : Nat) : St := sI σ 9 r 1 0
set_option maxRecDepth 100000 in
set_option maxHeartbeats 4000000 in
theorem k_X4_clear (l : Launch) (D : va_G) (cs : Nat → ClassId) (b : Nat) (σ : St) (r : Nat) (hr2 : r < 2) : Met l yX4_clear (Cond.code yX4_clear cX4_clear 1 (none : Option FieldType) :: T0) { frames := 0, cells := 0, slots := 0, locals := 0 } (Pe D (tyx cs) b 43 (Ex cs b σ) [.ref (b + xo 9 r)]) (Qv D (tyx cs) b 43 (Ex cs b (f_X4_clear σ r))) 0 0 (fun a => b ≤ a) := by
  refine e_met (by decide) rfl (Nat.le_of_ble_eq_true rfl) (fun pg e s m below meth c ls hx hb hr hml hts0 hown hlk hnm hH hK hl hS => ?_)
  have hts : ∀ w ∈ T0, w.before _ s = true := fun w h => hts0 w (List.mem_cons_of_mem _ h)
  have hl : lv_has ls 1 [(0, .ref (b + xo 9 r))] := hl
  refine lv_aload_n hx hb dX4_clear_0 rfl (lv_at hl 0 rfl) ?_
  refine lv_iconst (v := 0) hx hb dX4_clear_1 (by decide) ?_
  refine fpX4_17 hx hb hts hown hK hH hS r (show r < 2 by first | assumption | omega) dX4_clear_2 (fun H locs hH hS => ?_)
  exact e_vret hx hb hr hlk hK hH hS dX4_clear_5 (congrArg (Ex cs b) (by simp only [f_X4_clear]))
def f_X4_putLast (σ : St) (r : Nat) (q : Nat) : St := (if gI σ 9 r 1 < 0 then σ else (if 8 ≤ gI σ 9 r 1 then σ else sI (sR σ 10 r (((gI σ 9 r 1).toNatClampNeg)) (some q)) 9 r 1 ((gI (sR σ 10 r (((gI σ 9 r 1).toNatClampNeg)) (some q)) 9 r 1) + 1)))
set_option maxRecDepth 100000 in
set_option maxHeartbeats 4000000 in
theorem k_X4_putLast (l : Launch) (D : va_G) (cs : Nat → ClassId) (b : Nat) (σ : St) (r : Nat) (q : Nat) (hr2 : r < 2) (hq : q < 8) : Met l yX4_putLast (Cond.code yX4_putLast cX4_putLast 2 (none : Option FieldType) :: T0) { frames := 0, cells := 0, slots := 0, locals := 0 } (Pe D (tyx cs) b 43 (Ex cs b σ) [.ref (b + xo 9 r), .ref (b + xo 5 q)]) (Qv D (tyx cs) b 43 (Ex cs b (f_X4_putLast σ r q))) 0 0 (fun a => b ≤ a) := by
  refine e_met (by decide) rfl (Nat.le_of_ble_eq_true rfl) (fun pg e s m below meth c ls hx hb hr hml hts0 hown hlk hnm hH hK hl hS => ?_)
  have hts : ∀ w ∈ T0, w.before _ s = true := fun w h => hts0 w (List.mem_cons_of_mem _ h)
  have hl : lv_has ls 2 [(0, .ref (b + xo 9 r)), (1, .ref (b + xo 5 q))] := hl
  refine lv_aload_n hx hb dX4_putLast_0 rfl (lv_at hl 0 rfl) ?_
  refine fgX4_17 hx hb hts hown hK hH r (show r < 2 by first | assumption | omega) dX4_putLast_1 ?_
  refine lv_if_lt (tgt := 36) hx hb dX4_putLast_4 (by decide) (fun c_4_1 => ?_) (fun c_4_1 => ?_)
  ·
    exact e_vret hx hb hr hlk hK hH hS dX4_putLast_36 (congrArg (Ex cs b) (by simp only [f_X4_putLast, if_pos c_4_1]))
  ·
    refine lv_aload_n hx hb dX4_putLast_7 rfl (lv_at hl 0 rfl) ?_
    refine fgX4_17 hx hb hts hown hK hH r (show r < 2 by first | assumption | omega) dX4_putLast_8 ?_
    refine lv_bipush (v := 8) hx hb dX4_putLast_11 (by decide) ?_
    refine lv_icmp_ge (tgt := 36) hx hb dX4_putLast_13 (by decide) (fun c_13_2 => ?_) (fun c_13_2 => ?_)
    ·
      exact e_vret hx hb hr hlk hK hH hS dX4_putLast_36 (congrArg (Ex cs b) (by simp only [f_X4_putLast, if_neg c_4_1, if_pos c_13_2]))
    ·
      refine lv_aload_n hx hb dX4_putLast_16 rfl (lv_at hl 0 rfl) ?_
      refine fgX4_11 hx hb hts hown hK hH r (show r < 2 by first | assumption | omega) dX4_putLast_17 ?_
      refine lv_aload_n hx hb dX4_putLast_20 rfl (lv_at hl 0 rfl) ?_
      refine fgX4_17 hx hb hts hown hK hH r (show r < 2 by first | assumption | omega) dX4_putLast_21 ?_
      refine lv_aload_n hx hb dX4_putLast_24 rfl (lv_at hl 1 rfl) ?_
      refine x_membS hx hb hK hH hS r (show r < 2 by first | assumption | omega) (((gI σ 9 r 1).toNatClampNeg)) ((cl_of (vin_nle 8 (by assumption) (by assumption) (by decide)))) (cl_lt (vin_nle 8 (by assumption) (by assumption) (by decide))) (some q) (fun _ h => by cases h; first | assumption | omega) rfl dX4_putLast_25 (fun H locs hH hS => ?_)
      refine lv_aload_n hx hb dX4_putLast_26 rfl (lv_at hl 0 rfl) ?_
      refine lv_dup hx hb dX4_putLast_27 rfl ?_
      refine fgX4_17 hx hb hts hown hK hH r (show r < 2 by first | assumption | omega) dX4_putLast_28 ?_
      refine lv_iconst (v := 1) hx hb dX4_putLast_31 (by decide) ?_
      refine lv_iadd hx hb dX4_putLast_32 ?_
      refine fpX4_17 hx hb hts hown hK hH hS r (show r < 2 by first | assumption | omega) dX4_putLast_33 (fun H locs hH hS => ?_)
      exact e_vret hx hb hr hlk hK hH hS dX4_putLast_36 (congrArg (Ex cs b) (by simp only [f_X4_putLast, if_neg c_4_1, if_neg c_13_2]))
def lp_X4_putFirst_14 (r : Nat) (q : Nat) : Nat → St → Nat → St
  | 0, σ, _ => σ
  | n + 1, σ, j => (if nI j ≤ 0 then σ else lp_X4_putFirst_14 r q n (sR σ 10 r j (gR σ 10 r (j - 1))) ((j - 1)))
def f_X4_putFirst (σ : St) (r : Nat) (q : Nat) : St := (if 8 ≤ gI σ 9 r 1 then σ else sI (sR (lp_X4_putFirst_14 r q 9 σ (zN σ r)) 10 r 0 (some q)) 9 r 1 ((gI (sR (lp_X4_putFirst_14 r q 9 σ (zN σ r)) 10 r 0 (some q)) 9 r 1) + 1))
set_option maxRecDepth 100000 in
set_option maxHeartbeats 4000000 in
theorem w_X4_putFirst_14 {l : Launch} {D : va_G} {cs : Nat → ClassId} {b : Nat} {pg : Program} {e : Env} {s : State} {m : MethodId} {below : List Frame} {meth : Method} {c : Code} (r : Nat) (q : Nat)  (hr2 : r < 2) (hq : q < 8) (hx : pg.tables.exec = Jvm.exec) (hb : c.code = cX4_putFirst) (hml : c.maxLocals = 3) {args : Array Value} {H0 : Heap} {Q : State → Prop} (hts : ∀ w ∈ T0, w.before args s = true) (hown : s.vm.findClass RX4 = some m.cls) (hK : va_K D vwCl (tyx cs) s) : ∀ (n : Nat) (σ : St) (j : Nat), j < n → j < 8 → (∀ a p, gR σ 10 r a = some p → p < 8) → ∀ (H : Heap) (locs : List Loc) (ls : Array Slot), (∀ (H : Heap) (locs : List Loc) (ls : Array Slot), He D b 43 (Ex cs b (lp_X4_putFirst_14 r q n σ j)) H → va_S (fun a => b ≤ a) H0 H locs → lv_has ls 3 [(0, .ref (b + xo 9 r)), (1, .ref (b + xo 5 q))] → W pg l e { frames := 0, cells := 0, slots := 0, locals := 0 } s m args below meth c H locs 0 0 Q (F0 m 38 ls [])) → He D b 43 (Ex cs b σ) H → va_S (fun a => b ≤ a) H0 H locs → lv_has ls 3 [(0, .ref (b + xo 9 r)), (1, .ref (b + xo 5 q)), (2, .int (nI j))] → W pg l e { frames := 0, cells := 0, slots := 0, locals := 0 } s m args below meth c H locs 0 0 Q (F0 m 14 ls []) := by
  intro n
  induction n with
  | zero =>
    intro σ j h0 h1 h2
    exact absurd h0 (by omega)
  | succ n ih =>
    intro σ j h0 h1 h2 H locs ls kk hH hS hl
    refine lv_iload_n hx hb dX4_putFirst_14 rfl (lv_at hl 2 rfl) ?_
    refine lv_if_le (tgt := 38) hx hb dX4_putFirst_15 (by decide) (fun c_15_1 => ?_) (fun c_15_1 => ?_)
    ·
      have e_ : lp_X4_putFirst_14 r q (n + 1) σ j = σ := by simp only [lp_X4_putFirst_14, if_pos c_15_1]
      rw [e_] at kk
      exact kk _ _ _ hH hS (lv_sub hl [0, 1] rfl)
    ·
      have hj0 := npos (by assumption)
      refine lv_aload_n hx hb dX4_putFirst_18 rfl (lv_at hl 0 rfl) ?_
      refine fgX4_11 hx hb hts hown hK hH r (show r < 2 by first | assumption | omega) dX4_putFirst_19 ?_
      refine lv_iload_n hx hb dX4_putFirst_22 rfl (lv_at hl 2 rfl) ?_
      refine lv_aload_n hx hb dX4_putFirst_23 rfl (lv_at hl 0 rfl) ?_
      refine fgX4_11 hx hb hts hown hK hH r (show r < 2 by first | assumption | omega) dX4_putFirst_24 ?_
      refine lv_iload_n hx hb dX4_putFirst_27 rfl (lv_at hl 2 rfl) ?_
      refine lv_iconst (v := 1) hx hb dX4_putFirst_28 (by decide) ?_
      refine lv_isub hx hb dX4_putFirst_29 ?_
      refine x_memb hx hb hK hH r (show r < 2 by first | assumption | omega) (j - 1) ((tagP rfl (by omega))) (by omega) dX4_putFirst_30 ?_
      refine x_membS hx hb hK hH hS r (show r < 2 by first | assumption | omega) j rfl (by omega) (gR σ 10 r (j - 1)) (fun p h => h2 _ p h) rfl dX4_putFirst_31 (fun H locs hH hS => ?_)
      refine lv_iinc (v := nI (j - 1)) (lv' := [(2, .int (nI (j - 1))), (0, .ref (b + xo 9 r)), (1, .ref (b + xo 5 q))]) hx hb dX4_putFirst_32 hl (k := 2) rfl (tagD (by omega)) (by decide) rfl (fun ls hl => ?_)
      refine lv_goto (tgt := 14) hx hb dX4_putFirst_35 (by decide) ?_
      have e_ : lp_X4_putFirst_14 r q (n + 1) σ j = lp_X4_putFirst_14 r q n (sR σ 10 r j (gR σ 10 r (j - 1))) ((j - 1)) := by simp only [lp_X4_putFirst_14, if_neg c_15_1]
      rw [e_] at kk
      exact ih (sR σ 10 r j (gR σ 10 r (j - 1))) ((j - 1)) (by omega) (by omega) (fun a p h => by rw [gR_sR] at h; split at h <;> exact h2 _ _ h) _ _ _ kk hH hS (lv_sub hl [1, 2, 0] rfl)
set_option maxRecDepth 100000 in
set_option maxHeartbeats 4000000 in
theorem k_X4_putFirst (l : Launch) (D : va_G) (cs : Nat → ClassId) (b : Nat) (σ : St) (r : Nat) (q : Nat) (hr2 : r < 2) (hq : q < 8) (ho : okR σ r) : Met l yX4_putFirst (Cond.code yX4_putFirst cX4_putFirst 3 (none : Option FieldType) :: T0) { frames := 0, cells := 0, slots := 0, locals := 0 } (Pe D (tyx cs) b 43 (Ex cs b σ) [.ref (b + xo 9 r), .ref (b + xo 5 q)]) (Qv D (tyx cs) b 43 (Ex cs b (f_X4_putFirst σ r q))) 0 0 (fun a => b ≤ a) := by
  refine e_met (by decide) rfl (Nat.le_of_ble_eq_true rfl) (fun pg e s m below meth c ls hx hb hr hml hts0 hown hlk hnm hH hK hl hS => ?_)
  have hts : ∀ w ∈ T0, w.before _ s = true := fun w h => hts0 w (List.mem_cons_of_mem _ h)
  have hl : lv_has ls 3 [(0, .ref (b + xo 9 r)), (1, .ref (b + xo 5 q))] := hl
  refine lv_aload_n hx hb dX4_putFirst_0 rfl (lv_at hl 0 rfl) ?_
  refine fgX4_17 hx hb hts hown hK hH r (show r < 2 by first | assumption | omega) dX4_putFirst_1 ?_
  refine lv_bipush (v := 8) hx hb dX4_putFirst_4 (by decide) ?_
  refine lv_icmp_ge (tgt := 55) hx hb dX4_putFirst_6 (by decide) (fun c_6_2 => ?_) (fun c_6_2 => ?_)
  ·
    exact e_vret hx hb hr hlk hK hH hS dX4_putFirst_55 (congrArg (Ex cs b) (by simp only [f_X4_putFirst, if_pos c_6_2]))
  ·
    have hz8 : zN σ r < 8 := ngt_8 (by have := ho.2.1; omega) 8 (by decide) (by rw [← ho.1]; assumption)
    refine lv_aload_n hx hb dX4_putFirst_9 rfl (lv_at hl 0 rfl) ?_
    refine fgX4_17 hx hb hts hown hK hH r (show r < 2 by first | assumption | omega) dX4_putFirst_10 ?_
    rw [ho.1]
    refine lv_istore_n (lv' := [(2, .int (nI (zN σ r))), (0, .ref (b + xo 9 r)), (1, .ref (b + xo 5 q))]) hx hb dX4_putFirst_13 rfl hl (by decide) rfl (fun ls hl => ?_)
    refine w_X4_putFirst_14 r q hr2 hq hx hb hml hts hown hK 9 σ (zN σ r) (by omega) (by omega) ho.2.2 _ _ _ (fun H locs ls hH hS hl => ?_) hH hS (lv_sub hl [1, 2, 0] rfl)
    refine lv_aload_n hx hb dX4_putFirst_38 rfl (lv_at hl 0 rfl) ?_
    refine fgX4_11 hx hb hts hown hK hH r (show r < 2 by first | assumption | omega) dX4_putFirst_39 ?_
    refine lv_iconst (v := 0) hx hb dX4_putFirst_42 (by decide) ?_
    refine lv_aload_n hx hb dX4_putFirst_43 rfl (lv_at hl 1 rfl) ?_
    refine x_membS hx hb hK hH hS r (show r < 2 by first | assumption | omega) 0 ((rfl : (0 : Int32) = nI 0)) (by omega) (some q) (fun _ h => by cases h; first | assumption | omega) rfl dX4_putFirst_44 (fun H locs hH hS => ?_)
    refine lv_aload_n hx hb dX4_putFirst_45 rfl (lv_at hl 0 rfl) ?_
    refine lv_dup hx hb dX4_putFirst_46 rfl ?_
    refine fgX4_17 hx hb hts hown hK hH r (show r < 2 by first | assumption | omega) dX4_putFirst_47 ?_
    refine lv_iconst (v := 1) hx hb dX4_putFirst_50 (by decide) ?_
    refine lv_iadd hx hb dX4_putFirst_51 ?_
    refine fpX4_17 hx hb hts hown hK hH hS r (show r < 2 by first | assumption | omega) dX4_putFirst_52 (fun H locs hH hS => ?_)
    exact e_vret hx hb hr hlk hK hH hS dX4_putFirst_55 (congrArg (Ex cs b) (by simp only [f_X4_putFirst, if_neg c_6_2]))
theorem nle_j1 {j : Nat} (h : j < 7) : ¬ (8 : Int32) ≤ nI j + 1 := by
  intro q
  rw [show nI j + 1 = nI (j + 1) from tagA rfl (rfl : (1 : Int32) = nI 1)] at q
  have := (nI_leI (show 8 < 2 ^ 31 by decide) (show j + 1 < 2 ^ 31 by omega)).mp q
  omega
theorem nle_in8 {x : Int32} (h : vp_in x 8) : ¬ (8 : Int32) ≤ x := by
  intro q
  have h1 := cl_lt h
  rw [cl_of h] at q
  have := (nI_leI (show 8 < 2 ^ 31 by decide) (show x.toNatClampNeg < 2 ^ 31 by omega)).mp q
  omega
theorem zN_dec0 {σ : St} {r : Nat} (h0 : 0 < zN σ r) (hk : okR σ r) : gI (sI σ 9 r 1 (gI σ 9 r 1 - 1)) 9 r 1 = nI (zN σ r - 1) := by
  rw [gI_sI, if_pos ⟨rfl, rfl, rfl⟩]
  exact tagP hk.1 h0
theorem zN_dec1 {σ : St} {r : Nat} (h0 : 0 < zN σ r) (hk : okR σ r) : zN (sI σ 9 r 1 (gI σ 9 r 1 - 1)) r = zN σ r - 1 := by
  have := hk.2.1
  unfold zN
  rw [zN_dec0 h0 hk, nI_clamp (by omega)]
  rfl
theorem zN_dec {σ : St} {r : Nat} (h0 : 0 < zN σ r) (hk : okR σ r) : zN (sI σ 9 r 1 (gI σ 9 r 1 - 1)) r < 8 := by
  have := hk.2.1
  rw [zN_dec1 h0 hk]; omega
theorem okR_dec {σ : St} {r : Nat} (h0 : 0 < zN σ r) (hk : okR σ r) : okR (sI σ 9 r 1 (gI σ 9 r 1 - 1)) r := by
  have := hk.2.1
  exact ⟨by rw [zN_dec0 h0 hk, zN_dec1 h0 hk], by rw [zN_dec1 h0 hk]; omega, hk.2.2⟩
def lp_X4_takeFirst_28 (r : Nat) : Nat → St → Nat → St
  | 0, σ, _ => σ
  | n + 1, σ, j => (if gI σ 9 r 1 ≤ nI j then σ else lp_X4_takeFirst_28 r n (sR σ 10 r j (gR σ 10 r (j + 1))) ((j + 1)))
def f_X4_takeFirst (σ : St) (r : Nat) : Option Nat × St := (if 0 < gI σ 9 r 1 then (oC (gR σ 10 r 0) ((none, lp_X4_takeFirst_28 r 9 (sI σ 9 r 1 ((gI σ 9 r 1) - 1)) 0)) (fun q14_4 => (some q14_4, lp_X4_takeFirst_28 r 9 (sI σ 9 r 1 ((gI σ 9 r 1) - 1)) 0))) else (none, σ))
set_option maxRecDepth 100000 in
set_option maxHeartbeats 4000000 in
theorem w_X4_takeFirst_28 {l : Launch} {D : va_G} {cs : Nat → ClassId} {b : Nat} {pg : Program} {e : Env} {s : State} {m : MethodId} {below : List Frame} {meth : Method} {c : Code} (r : Nat) (v1 : Value) (h_v1 : v1.category = 1) (hr2 : r < 2) (hx : pg.tables.exec = Jvm.exec) (hb : c.code = cX4_takeFirst) (hml : c.maxLocals = 3) {args : Array Value} {H0 : Heap} {Q : State → Prop} (hts : ∀ w ∈ T0, w.before args s = true) (hown : s.vm.findClass RX4 = some m.cls) (hK : va_K D vwCl (tyx cs) s) : ∀ (n : Nat) (σ : St) (j : Nat), 8 < j + n → okR σ r → zN σ r < 8 → j ≤ zN σ r → ∀ (H : Heap) (locs : List Loc) (ls : Array Slot), (∀ (H : Heap) (locs : List Loc) (ls : Array Slot), He D b 43 (Ex cs b (lp_X4_takeFirst_28 r n σ j)) H → va_S (fun a => b ≤ a) H0 H locs → lv_has ls 3 [(0, .ref (b + xo 9 r)), (1, v1)] → W pg l e { frames := 0, cells := 0, slots := 0, locals := 0 } s m args below meth c H locs 0 0 Q (F0 m 64 ls [])) → He D b 43 (Ex cs b σ) H → va_S (fun a => b ≤ a) H0 H locs → lv_has ls 3 [(0, .ref (b + xo 9 r)), (1, v1), (2, .int (nI j))] → W pg l e { frames := 0, cells := 0, slots := 0, locals := 0 } s m args below meth c H locs 0 0 Q (F0 m 28 ls []) := by
  intro n
  induction n with
  | zero =>
    intro σ j h0 h1 h2 h3
    exact absurd h0 (by omega)
  | succ n ih =>
    intro σ j h0 h1 h2 h3 H locs ls kk hH hS hl
    refine lv_iload_n hx hb dX4_takeFirst_28 rfl (lv_at hl 2 rfl) ?_
    refine lv_aload_n hx hb dX4_takeFirst_29 rfl (lv_at hl 0 rfl) ?_
    refine fgX4_17 hx hb hts hown hK hH r (show r < 2 by first | assumption | omega) dX4_takeFirst_30 ?_
    refine lv_icmp_ge (tgt := 64) hx hb dX4_takeFirst_33 (by decide) (fun c_33_1 => ?_) (fun c_33_1 => ?_)
    ·
      have e_ : lp_X4_takeFirst_28 r (n + 1) σ j = σ := by simp only [lp_X4_takeFirst_28, if_pos c_33_1]
      rw [e_] at kk
      exact kk _ _ _ hH hS (lv_sub hl [0, 1] rfl)
    ·
      have hjz : j < zN σ r := ngt_8 (by omega) _ (by omega) (by rw [← h1.1]; assumption)
      refine lv_iload_n hx hb dX4_takeFirst_36 rfl (lv_at hl 2 rfl) ?_
      refine lv_iconst (v := 1) hx hb dX4_takeFirst_37 (by decide) ?_
      refine lv_iadd hx hb dX4_takeFirst_38 ?_
      refine lv_bipush (v := 8) hx hb dX4_takeFirst_39 (by decide) ?_
      refine lv_icmp_ge (tgt := 64) hx hb dX4_takeFirst_41 (by decide) (fun c_41_2 => ?_) (fun c_41_2 => ?_)
      ·
        exact absurd c_41_2 (nle_j1 (by omega))
      refine lv_aload_n hx hb dX4_takeFirst_44 rfl (lv_at hl 0 rfl) ?_
      refine fgX4_11 hx hb hts hown hK hH r (show r < 2 by first | assumption | omega) dX4_takeFirst_45 ?_
      refine lv_iload_n hx hb dX4_takeFirst_48 rfl (lv_at hl 2 rfl) ?_
      refine lv_aload_n hx hb dX4_takeFirst_49 rfl (lv_at hl 0 rfl) ?_
      refine fgX4_11 hx hb hts hown hK hH r (show r < 2 by first | assumption | omega) dX4_takeFirst_50 ?_
      refine lv_iload_n hx hb dX4_takeFirst_53 rfl (lv_at hl 2 rfl) ?_
      refine lv_iconst (v := 1) hx hb dX4_takeFirst_54 (by decide) ?_
      refine lv_iadd hx hb dX4_takeFirst_55 ?_
      refine x_memb hx hb hK hH r (show r < 2 by first | assumption | omega) (j + 1) ((tagA rfl ((rfl : (1 : Int32) = nI 1)))) (by omega) dX4_takeFirst_56 ?_
      refine x_membS hx hb hK hH hS r (show r < 2 by first | assumption | omega) j rfl (by omega) (gR σ 10 r (j + 1)) (fun p h => h1.2.2 _ p h) rfl dX4_takeFirst_57 (fun H locs hH hS => ?_)
      refine lv_iinc (v := nI (j + 1)) (lv' := [(2, .int (nI (j + 1))), (0, .ref (b + xo 9 r)), (1, v1)]) hx hb dX4_takeFirst_58 hl (k := 2) rfl (nI_1 j) (by decide) (by simp [h_v1]) (fun ls hl => ?_)
      refine lv_goto (tgt := 28) hx hb dX4_takeFirst_61 (by decide) ?_
      have e_ : lp_X4_takeFirst_28 r (n + 1) σ j = lp_X4_takeFirst_28 r n (sR σ 10 r j (gR σ 10 r (j + 1))) ((j + 1)) := by simp only [lp_X4_takeFirst_28, if_neg c_33_1]
      rw [e_] at kk
      exact ih (sR σ 10 r j (gR σ 10 r (j + 1))) ((j + 1)) (by omega) ⟨h1.1, h1.2.1, fun a p h => by rw [gR_sR] at h; split at h <;> exact h1.2.2 _ _ h⟩ h2 (by show _ ≤ zN σ r; omega) _ _ _ kk hH hS (lv_sub hl [1, 2, 0] rfl)
set_option maxRecDepth 100000 in
set_option maxHeartbeats 4000000 in
theorem k_X4_takeFirst (l : Launch) (D : va_G) (cs : Nat → ClassId) (b : Nat) (σ : St) (r : Nat) (hr2 : r < 2) (ho : okR σ r) : Met l yX4_takeFirst (Cond.code yX4_takeFirst cX4_takeFirst 3 (some (FieldType.object "ProcessTurns$Proc")) :: T0) { frames := 0, cells := 0, slots := 0, locals := 0 } (Pe D (tyx cs) b 43 (Ex cs b σ) [.ref (b + xo 9 r)]) (Qq D (tyx cs) b 43 (Ex cs b (f_X4_takeFirst σ r).2) ((f_X4_takeFirst σ r).1.map (fun j => b + xo 5 j))) 0 0 (fun a => b ≤ a) := by
  refine e_met (by decide) rfl (Nat.le_of_ble_eq_true rfl) (fun pg e s m below meth c ls hx hb hr hml hts0 hown hlk hnm hH hK hl hS => ?_)
  have hts : ∀ w ∈ T0, w.before _ s = true := fun w h => hts0 w (List.mem_cons_of_mem _ h)
  have hl : lv_has ls 3 [(0, .ref (b + xo 9 r))] := hl
  refine lv_aload_n hx hb dX4_takeFirst_0 rfl (lv_at hl 0 rfl) ?_
  refine fgX4_17 hx hb hts hown hK hH r (show r < 2 by first | assumption | omega) dX4_takeFirst_1 ?_
  refine lv_if_gt (tgt := 9) hx hb dX4_takeFirst_4 (by decide) (fun c_4_3 => ?_) (fun c_4_3 => ?_)
  ·
    have hz0 := szpos (by assumption) ho
    refine lv_aload_n hx hb dX4_takeFirst_9 rfl (lv_at hl 0 rfl) ?_
    refine fgX4_11 hx hb hts hown hK hH r (show r < 2 by first | assumption | omega) dX4_takeFirst_10 ?_
    refine lv_iconst (v := 0) hx hb dX4_takeFirst_13 (by decide) ?_
    refine x_memb hx hb hK hH r (show r < 2 by first | assumption | omega) 0 ((rfl : (0 : Int32) = nI 0)) (by omega) dX4_takeFirst_14 ?_
    rcases hq_14_4 : gR σ 10 r 0 with _ | q14_4
    ·
      refine W.eq (g2 := F0 m 15 ls [.null]) rfl ?_
      refine lv_astore_nN (lv' := [(1, .null), (0, .ref (b + xo 9 r))]) hx hb dX4_takeFirst_15 rfl hl (by decide) rfl (fun ls hl => ?_)
      refine lv_aload_n hx hb dX4_takeFirst_16 rfl (lv_at hl 1 rfl) ?_
      refine lv_dup hx hb dX4_takeFirst_17 rfl ?_
      refine fgX4_17 hx hb hts hown hK hH r (show r < 2 by first | assumption | omega) dX4_takeFirst_18 ?_
      refine lv_iconst (v := 1) hx hb dX4_takeFirst_21 (by decide) ?_
      refine lv_isub hx hb dX4_takeFirst_22 ?_
      refine fpX4_17 hx hb hts hown hK hH hS r (show r < 2 by first | assumption | omega) dX4_takeFirst_23 (fun H locs hH hS => ?_)
      have hk1 := okR_dec hz0 ho
      have hz7 := zN_dec hz0 ho
      refine lv_iconst (v := 0) hx hb dX4_takeFirst_26 (by decide) ?_
      refine lv_istore_n (lv' := [(2, .int (0)), (1, .null), (0, .ref (b + xo 9 r))]) hx hb dX4_takeFirst_27 rfl hl (by decide) rfl (fun ls hl => ?_)
      refine w_X4_takeFirst_28 r (.null) rfl hr2 hx hb hml hts hown hK 9 (sI σ 9 r 1 ((gI σ 9 r 1) - 1)) 0 (by omega) hk1 hz7 (by omega) _ _ _ (fun H locs ls hH hS hl => ?_) hH hS (lv_sub hl [2, 1, 0] rfl)
      refine lv_aload_nN hx hb dX4_takeFirst_64 rfl (lv_at hl 1 rfl) ?_
      exact e_qret hx hb hr hlk hK hH hS dX4_takeFirst_65 (by simp only [f_X4_takeFirst, if_pos c_4_3, hq_14_4, oC_none]; rfl) (congrArg (Ex cs b) (by simp only [f_X4_takeFirst, if_pos c_4_3, hq_14_4, oC_none]))
    ·
      refine W.eq (g2 := F0 m 15 ls [.ref (b + xo 5 q14_4)]) rfl ?_
      refine lv_astore_n (lv' := [(1, .ref (b + xo 5 q14_4)), (0, .ref (b + xo 9 r))]) hx hb dX4_takeFirst_15 rfl hl (by decide) rfl (fun ls hl => ?_)
      refine lv_aload_n hx hb dX4_takeFirst_16 rfl (lv_at hl 1 rfl) ?_
      refine lv_dup hx hb dX4_takeFirst_17 rfl ?_
      refine fgX4_17 hx hb hts hown hK hH r (show r < 2 by first | assumption | omega) dX4_takeFirst_18 ?_
      refine lv_iconst (v := 1) hx hb dX4_takeFirst_21 (by decide) ?_
      refine lv_isub hx hb dX4_takeFirst_22 ?_
      refine fpX4_17 hx hb hts hown hK hH hS r (show r < 2 by first | assumption | omega) dX4_takeFirst_23 (fun H locs hH hS => ?_)
      have hk1 := okR_dec hz0 ho
      have hz7 := zN_dec hz0 ho
      refine lv_iconst (v := 0) hx hb dX4_takeFirst_26 (by decide) ?_
      refine lv_istore_n (lv' := [(2, .int (0)), (1, .ref (b + xo 5 q14_4)), (0, .ref (b + xo 9 r))]) hx hb dX4_takeFirst_27 rfl hl (by decide) rfl (fun ls hl => ?_)
      refine w_X4_takeFirst_28 r (.ref (b + xo 5 q14_4)) rfl hr2 hx hb hml hts hown hK 9 (sI σ 9 r 1 ((gI σ 9 r 1) - 1)) 0 (by omega) hk1 hz7 (by omega) _ _ _ (fun H locs ls hH hS hl => ?_) hH hS (lv_sub hl [2, 1, 0] rfl)
      refine lv_aload_n hx hb dX4_takeFirst_64 rfl (lv_at hl 1 rfl) ?_
      exact e_qret hx hb hr hlk hK hH hS dX4_takeFirst_65 (by simp only [f_X4_takeFirst, if_pos c_4_3, hq_14_4, oC_some]; rfl) (congrArg (Ex cs b) (by simp only [f_X4_takeFirst, if_pos c_4_3, hq_14_4, oC_some]))
  ·
    refine lv_null hx hb dX4_takeFirst_7 ?_
    exact e_qret hx hb hr hlk hK hH hS dX4_takeFirst_8 (by simp only [f_X4_takeFirst, if_neg c_4_3]; rfl) (congrArg (Ex cs b) (by simp only [f_X4_takeFirst, if_neg c_4_3]))
def f_X4_numberAt (σ : St) (r : Nat) (x : Int32) : Int32 := (if x < 0 then (-1) else (if gI σ 9 r 1 ≤ x then (-1) else (oC (gR σ 10 r ((x.toNatClampNeg))) ((-1)) (fun q33_7 => nI q33_7))))
set_option maxRecDepth 100000 in
set_option maxHeartbeats 4000000 in
theorem k_X4_numberAt (l : Launch) (D : va_G) (cs : Nat → ClassId) (b : Nat) (σ : St) (r : Nat) (x : Int32) (hr2 : r < 2) (ho : okR σ r) : Met l yX4_numberAt (Cond.code yX4_numberAt cX4_numberAt 3 (some FieldType.int) :: T0) { frames := 0, cells := 0, slots := 0, locals := 0 } (Pe D (tyx cs) b 43 (Ex cs b σ) [.ref (b + xo 9 r), .int (x)]) (Qi D (tyx cs) b 43 (Ex cs b σ) (f_X4_numberAt σ r x)) 0 0 (fun a => b ≤ a) := by
  refine e_met (by decide) rfl (Nat.le_of_ble_eq_true rfl) (fun pg e s m below meth c ls hx hb hr hml hts0 hown hlk hnm hH hK hl hS => ?_)
  have hts : ∀ w ∈ T0, w.before _ s = true := fun w h => hts0 w (List.mem_cons_of_mem _ h)
  have hl : lv_has ls 3 [(0, .ref (b + xo 9 r)), (1, .int (x))] := hl
  refine lv_iload_n hx hb dX4_numberAt_0 rfl (lv_at hl 1 rfl) ?_
  refine lv_if_lt (tgt := 22) hx hb dX4_numberAt_1 (by decide) (fun c_1_1 => ?_) (fun c_1_1 => ?_)
  ·
    refine lv_iconst (v := 0) hx hb dX4_numberAt_22 (by decide) ?_
    refine lv_istore_n (lv' := [(2, .int (0)), (0, .ref (b + xo 9 r)), (1, .int (x))]) hx hb dX4_numberAt_23 rfl hl (by decide) rfl (fun ls hl => ?_)
    refine lv_iload_n hx hb dX4_numberAt_24 rfl (lv_at hl 0 rfl) ?_
    refine lv_if_eq (tgt := 49) hx hb dX4_numberAt_25 (by decide) (fun c_25_2 => ?_) (fun c_25_2 => ?_)
    rotate_left
    ·
      exact absurd (by decide) c_25_2
    refine lv_iconst (v := (-1)) hx hb dX4_numberAt_49 (by decide) ?_
    exact e_iret hx hb hr hlk hK hH hS dX4_numberAt_50 (by simp only [f_X4_numberAt, if_pos c_1_1]) rfl
  ·
    refine lv_iload_n hx hb dX4_numberAt_4 rfl (lv_at hl 1 rfl) ?_
    refine lv_aload_n hx hb dX4_numberAt_5 rfl (lv_at hl 0 rfl) ?_
    refine fgX4_17 hx hb hts hown hK hH r (show r < 2 by first | assumption | omega) dX4_numberAt_6 ?_
    refine lv_icmp_ge (tgt := 22) hx hb dX4_numberAt_9 (by decide) (fun c_9_3 => ?_) (fun c_9_3 => ?_)
    ·
      refine lv_iconst (v := 0) hx hb dX4_numberAt_22 (by decide) ?_
      refine lv_istore_n (lv' := [(2, .int (0)), (0, .ref (b + xo 9 r)), (1, .int (x))]) hx hb dX4_numberAt_23 rfl hl (by decide) rfl (fun ls hl => ?_)
      refine lv_iload_n hx hb dX4_numberAt_24 rfl (lv_at hl 0 rfl) ?_
      refine lv_if_eq (tgt := 49) hx hb dX4_numberAt_25 (by decide) (fun c_25_4 => ?_) (fun c_25_4 => ?_)
      rotate_left
      ·
        exact absurd (by decide) c_25_4
      refine lv_iconst (v := (-1)) hx hb dX4_numberAt_49 (by decide) ?_
      exact e_iret hx hb hr hlk hK hH hS dX4_numberAt_50 (by simp only [f_X4_numberAt, if_neg c_1_1, if_pos c_9_3]) rfl
    ·
      refine lv_iload_n hx hb dX4_numberAt_12 rfl (lv_at hl 1 rfl) ?_
      refine lv_bipush (v := 8) hx hb dX4_numberAt_13 (by decide) ?_
      refine lv_icmp_ge (tgt := 22) hx hb dX4_numberAt_15 (by decide) (fun c_15_5 => ?_) (fun c_15_5 => ?_)
      ·
        exact absurd c_15_5 (nle_in8 (vin_sz (by assumption) (by assumption) ho))
      refine lv_iconst (v := 1) hx hb dX4_numberAt_18 (by decide) ?_
      refine lv_goto (tgt := 23) hx hb dX4_numberAt_19 (by decide) ?_
      refine lv_istore_n (lv' := [(2, .int (1)), (0, .ref (b + xo 9 r)), (1, .int (x))]) hx hb dX4_numberAt_23 rfl hl (by decide) rfl (fun ls hl => ?_)
      refine lv_iload_n hx hb dX4_numberAt_24 rfl (lv_at hl 0 rfl) ?_
      refine lv_if_eq (tgt := 49) hx hb dX4_numberAt_25 (by decide) (fun c_25_6 => ?_) (fun c_25_6 => ?_)
      ·
        exact absurd c_25_6 (by decide)
      refine lv_aload_n hx hb dX4_numberAt_28 rfl (lv_at hl 1 rfl) ?_
      refine fgX4_11 hx hb hts hown hK hH r (show r < 2 by first | assumption | omega) dX4_numberAt_29 ?_
      refine lv_iload_n hx hb dX4_numberAt_32 rfl (lv_at hl 2 rfl) ?_
      refine x_memb hx hb hK hH r (show r < 2 by first | assumption | omega) ((x.toNatClampNeg)) ((cl_of (vin_sz (by assumption) (by assumption) ho))) (cl_lt (vin_sz (by assumption) (by assumption) ho)) dX4_numberAt_33 ?_
      rcases hq_33_7 : gR σ 10 r ((x.toNatClampNeg)) with _ | q33_7
      ·
        refine W.eq (g2 := F0 m 34 ls [.null]) rfl ?_
        refine lv_ifnullN (tgt := 49) hx hb dX4_numberAt_34 (by decide) ?_
        refine lv_iconst (v := (-1)) hx hb dX4_numberAt_49 (by decide) ?_
        exact e_iret hx hb hr hlk hK hH hS dX4_numberAt_50 (by simp only [f_X4_numberAt, if_neg c_1_1, if_neg c_9_3, hq_33_7, oC_none]) rfl
      ·
        have q33_7b := ho.2.2 _ _ hq_33_7
        refine W.eq (g2 := F0 m 34 ls [.ref (b + xo 5 q33_7)]) rfl ?_
        refine lv_ifnull hx hb dX4_numberAt_34 ?_
        refine lv_aload_n hx hb dX4_numberAt_37 rfl (lv_at hl 1 rfl) ?_
        refine fgX4_11 hx hb hts hown hK hH r (show r < 2 by first | assumption | omega) dX4_numberAt_38 ?_
        refine lv_iload_n hx hb dX4_numberAt_41 rfl (lv_at hl 2 rfl) ?_
        refine x_memb hx hb hK hH r (show r < 2 by first | assumption | omega) ((x.toNatClampNeg)) ((cl_of (vin_sz (by assumption) (by assumption) ho))) (cl_lt (vin_sz (by assumption) (by assumption) ho)) dX4_numberAt_42 ?_
        rw [show gR σ 10 r ((x.toNatClampNeg)) = some q33_7 from hq_33_7]
        refine W.eq (g2 := F0 m 43 ls [.ref (b + xo 5 q33_7)]) rfl ?_
        refine fgX4_21 hx hb hts hown hK hH q33_7 (show q33_7 < 8 by first | assumption | omega) dX4_numberAt_43 ?_
        refine lv_goto (tgt := 50) hx hb dX4_numberAt_46 (by decide) ?_
        exact e_iret hx hb hr hlk hK hH hS dX4_numberAt_50 (by simp only [f_X4_numberAt, if_neg c_1_1, if_neg c_9_3, hq_33_7, oC_some]) rfl
