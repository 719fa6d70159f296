theorem XL33 (cs : Nat → ClassId) (b : Nat) : XL cs b ++ [.inr (6, [.null, .int 0, .null, .null, .null, .null, .null, .null, .null, .int 0, .int 0, .int 0, .int 0, .null, .int 0, .null])] = L33 cs b := rfl
theorem XL_len (cs : Nat → ClassId) (b : Nat) : (XL cs b).length = 32 := rfl
set_option maxRecDepth 100000 in
set_option maxHeartbeats 4000000 in
theorem whole_of {Inv : Nat → St → Prop} (hG : Good Inv) {p : Program} {e : Env} {s : State} {m : MethodId} {below : List Frame} {meth : Method} {c : Code} (l : Launch) {b L : Nat} {xs : Nat → Int32} (hL : L ≤ 2048) (C0 : lw_At p s m meth c b L xs) : W p l e room_1 s m #[Value.ref b] below meth c s.heap [] 0 0 (lw_Z below #[Value.ref b] s) (entryFrame m ([Value.ref b] : List Value).toArray 4) := by
  obtain ⟨hx, hb, hr, hml, hown, hts0, hX, hbl, hlk, hgv⟩ := id C0
  have hts : ∀ w ∈ T0, w.before #[Value.ref b] s = true := fun w h => hts0 w (T0_in h)
  obtain ⟨D, cs, hK, hao2, hao0⟩ := law_known hts0
  obtain ⟨a, ha⟩ : ∃ a, a = s.heap.size := ⟨_, rfl⟩
  have hH : He D a 0 (wl []) s.heap := ⟨ha.symm, fun j hj => absurd hj (Nat.not_lt_zero j)⟩
  have hS : va_S (fun q => a ≤ q) s.heap s.heap [] := va_S.rf
  have hl := lv_entry ([.ref b]) (n := 4) (Nat.le_of_ble_eq_true rfl)
  rw [lg_entry_eq]
  generalize (lg_sl ([.ref b]) ++ List.replicate (4 - (lg_sl ([.ref b])).length) Slot.unset).toArray = ls at hl ⊢
  have hl : lv_has ls 4 [(0, .ref b)] := hl
  refine e_new (ci := 5) (fs := [.null, .null, .null, .null, .null, .null, .null, .int 0]) hx hb hts inX5 tyX5 tyX5_ok hown wL_L_7 wn_X5 wi_X5 hK hH hS rfl (lt_s (lt_s (lt_s (lt_s (lt_s (lt_s (lt_s (lt_s lt_0 rfl) rfl) rfl) rfl) rfl) rfl) rfl) rfl) (by decide) (by decide) dL_law_0 (fun H hH hS => ?_)
  replace hH := He_push2 hH rfl
  have hH : He D a 1 (wl [.inr (5, [.null, .null, .null, .null, .null, .null, .null, .int 0])]) H := hH
  refine lv_dup hx hb dL_law_3 rfl ?_
  refine e_cv (e_runIA (j := 0) (As := []) (rest := [.ref (a + 0)]) ⟨hx, hb, hml, hown, hts⟩ (k_X5_init l D cs a) ⟨callB_of 0 hts (gC wC_X5_init) rfl rfl rfl (hts _ wi_X5) (hts _ wM_L_9) (by decide +kernel) (by decide), rfl, hts _ wN_X5_init⟩ hK hao2 hao0 hH rfl hl.1 rfl (Nat.le_of_ble_eq_true rfl) dL_law_4 (by decide)) hS (fun H locs hH hS => ?_)
  refine lv_astore_n (lv' := [(1, .ref (a + 0)), (0, .ref b)]) hx hb dL_law_7 rfl hl (by decide) rfl (fun ls hl => ?_)
  refine e_new (ci := 6) (fs := [.null, .int 0, .null, .null, .null, .null, .null, .null, .null, .int 0, .int 0, .int 0, .int 0, .null, .int 0, .null]) hx hb hts inX6 tyX6 tyX6_ok hown wL_L_10 wn_X6 wi_X6 hK hH hS rfl (lt_s (lt_s (lt_s (lt_s (lt_s (lt_s (lt_s (lt_s (lt_s (lt_s (lt_s (lt_s (lt_s (lt_s (lt_s (lt_s lt_0 rfl) rfl) rfl) rfl) rfl) rfl) rfl) rfl) rfl) rfl) rfl) rfl) rfl) rfl) rfl) rfl) (by decide) (by decide) dL_law_8 (fun H hH hS => ?_)
  replace hH := He_push2 hH (XL_len cs a)
  rw [XL33] at hH
  refine lv_dup hx hb dL_law_11 rfl ?_
  refine e_cv (e_runIA (j := 32) (As := []) (rest := [.ref (a + 32)]) ⟨hx, hb, hml, hown, hts⟩ (k_X6_initC l D cs a) ⟨callB_of 0 hts (gC wC_X6_init) rfl rfl rfl (hts _ wi_X6) (hts _ wM_L_12) (by decide +kernel) (by decide), rfl, hts _ wN_X6_init⟩ hK hao2 hao0 hH rfl hl.1 rfl (Nat.le_of_ble_eq_true rfl) dL_law_12 (by decide)) hS (fun H locs hH hS => ?_)
  have hH := fresh_Ex hH
  refine lv_astore_n (lv' := [(2, .ref (a + 32)), (1, .ref (a + 0)), (0, .ref b)]) hx hb dL_law_15 rfl hl (by decide) rfl (fun ls hl => ?_)
  refine lv_iconst (v := nI 0) hx hb dL_law_16 (by decide) ?_
  refine lv_istore_n (lv' := [(3, .int (nI 0)), (2, .ref (a + 32)), (1, .ref (a + 0)), (0, .ref b)]) hx hb dL_law_17 rfl hl (by decide) rfl (fun ls hl => ?_)
  exact law_loop (b := a) ha hG hL C0 hK (L + 1) 0 st0 (by omega) (by omega) hG.1 _ _ _ hH hS (lv_sub hl [3, 2, 1, 0] rfl)
