def st0 : St := (fun _ _ _ => 0, fun _ _ _ => none)
def G_add (Inv : Nat → St → Prop) (t : Nat) (σ : St) : Prop := ∀ x y, okL (f_X5_add σ x y).2 ∧ (f_X5_add σ x y).1 = (f_X6_add (f_X5_add σ x y).2 x y).1 ∧ Inv (t + 1) (f_X6_add (f_X5_add σ x y).2 x y).2
def G_start (Inv : Nat → St → Prop) (t : Nat) (σ : St) : Prop := ∀ x y z, (f_X5_start σ x y z).1 = (f_X6_start (f_X5_start σ x y z).2 x y z).1 ∧ Inv (t + 1) (f_X6_start (f_X5_start σ x y z).2 x y z).2
def G_run (Inv : Nat → St → Prop) (t : Nat) (σ : St) : Prop := ∀ x, okM (400 * t) (f_X5_run σ x).2 ∧ (f_X5_run σ x).1 = (f_X6_run (f_X5_run σ x).2 x).1 ∧ Inv (t + 1) (f_X6_run (f_X5_run σ x).2 x).2
def G_setClock (Inv : Nat → St → Prop) (t : Nat) (σ : St) : Prop := ∀ x, Inv (t + 1) (f_X6_setClock (f_X5_setClock σ x) x)
def G_reset (Inv : Nat → St → Prop) (t : Nat) (σ : St) : Prop := Inv (t + 1) (f_X6_reset (f_X5_reset σ))
def G_read (σ : St) : Prop := f_X5_clock σ = f_X6_clock σ ∧ f_X5_running σ = f_X6_running σ ∧ (∀ x, f_X5_state σ x = f_X6_state σ x) ∧ (∀ x y, f_X5_look σ x y = f_X6_look σ x y) ∧ (∀ x y, f_X5_waiting σ x y = f_X6_waiting σ x y) ∧ (∀ x, f_X5_channel σ x = f_X6_channel σ x) ∧ f_X5_messages σ = f_X6_messages σ ∧ ∀ x w, f_X5_message σ x w = f_X6_message σ x w
/-- what the simulation must give -/
def Good (Inv : Nat → St → Prop) : Prop := Inv 0 st0 ∧ ∀ t σ, t < 512 → Inv t σ → Inv (t + 1) σ ∧ ok σ ∧ okM (400 * t) σ ∧ G_add Inv t σ ∧ G_start Inv t σ ∧ G_run Inv t σ ∧ G_setClock Inv t σ ∧ G_reset Inv t σ ∧ G_read σ
theorem i4 (t : Nat) : nI (4 * t) + Int32.ofInt 4 = nI (4 * (t + 1)) := by
  show nI (4 * t) + nI 4 = _
  rw [nI_add]; rfl
theorem len4 {L i : Nat} (hL : L ≤ 2048) (hi : i ≤ 2048) (h : ¬ Int32.ofNat L - 4 < nI i) : i + 4 ≤ L := by
  have h1 : (nI L - nI 4).toInt = (L : Int) - 4 := pk_sub_toInt (by omega) (by decide)
  have h2 : (nI i).toInt = (i : Int) := nI_toInt (by omega)
  have h3 : ¬ (nI L - nI 4).toInt < (nI i).toInt := fun q => h (Int32.lt_iff_toInt_lt.mpr q)
  rw [h1, h2] at h3
  omega

theorem lcmp_eq {x y : Int64} (h : x = y) : lg_cmp x y = 0 := by
  subst h
  unfold lg_cmp
  rw [if_neg (by simp), if_pos rfl]
/-! THE CLAIM OUT OF ONE WALK OF THE LAW'S BODY. Your part is whole_start (and what it stands on); all else here is the same for every law, but numbers. -/
def R_law : String := "ProcessTurnsLaw"
def lw_P (b : Addr) (xs : List Int32) (args : Array Value) (s : State) : Prop := args = #[.ref b] ∧ s.IntsAt b xs ∧ xs.length ≤ 2048 ∧ (Jvm.Cond.and given_1 narrow_1).before args s = true
def lw_Q (_ : Array Value) (s : State) (o : Outcome) (t : State) : Prop := o = .returned (some (.int 1)) ∧ Framed s o t [] 600000 7302250
def lw_Z (below : List Frame) (a : Array Value) (s : State) : State → Prop := fun t => ∃ o, t.status = .running ∧ Ended t below o ∧ lw_Q a s o t
/-- the law's own end, with 1 on the stack, nothing written that was there before, its room as the claim has it -/
theorem lw_ret {p : Program} {l : Launch} {e : Env} {s : State} {m : MethodId} {below : List Frame} {meth : Method} {c : Code} {b : Nat} (hx : p.tables.exec = Jvm.exec) (hb : c.code = code) (hr : meth.sig.returnType = ret) (hlocks : meth.locks = false) {pc : Nat} {H : Heap} {ls : Array Slot} (hdg : decode code pc = .ok (.ireturn, 1)) : W p l e room_1 s m #[Value.ref b] below meth c H [] 600000 7302250 (lw_Z below #[Value.ref b] s) (F0 m pc ls [.int 1]) := by
  intro T hT X
  obtain ⟨fs, hret, hrun, hended, hW, hframe⟩ := X.leave (v := some (.int 1)) (hlocks := hlocks) (fun h => by rw [hr] at h; cases h)
  have hmeth' : T.vm.method? m = some meth := X.method'
  refine ⟨T.setFrames fs, ?_, .returned (some (.int 1)), hrun, hended, rfl, ⟨_, rfl⟩, hW, hframe⟩
  jvm_step X.here [X.here.top, hx, hb, hdg, hmeth', hr, ret, narrow_b1]
  (try refine ⟨rfl, ?_⟩); (try refine ⟨rfl, ?_⟩)
  first | (intro acts; rw [hret _ acts rfl rfl rfl]) | rw [hret _ _ rfl rfl rfl]
  exact Steps.refl _
/-- what holds at the law's entry: the machine, the code, the tables' words (any of lw_tbl by 'hts w (by decide +kernel)'), the script of L ints xs at the cell b, what the Statement gives of the start (any of its parts by flat_of_before) -/
def lw_At (p : Program) (s : State) (m : MethodId) (meth : Method) (c : Code) (b L : Nat) (xs : Nat → Int32) : Prop :=
  p.tables.exec = Jvm.exec ∧ c.code = code ∧ meth.sig.returnType = ret ∧ c.maxLocals = 4 ∧ s.vm.findClass R_law = some m.cls ∧ (∀ w ∈ lw_tbl, w.before #[Value.ref b] s = true) ∧ va_X b L xs s s.heap ∧ b < s.heap.size ∧ meth.locks = false ∧ (Jvm.Cond.and given_1 narrow_1).before #[Value.ref b] s = true

set_option maxRecDepth 100000 in
set_option maxHeartbeats 8000000 in
theorem law_loop {p : Program} {l : Launch} {e : Env} {s : State} {m : MethodId} {below : List Frame} {meth : Method} {c : Code} {D : va_G} {cs : Nat → ClassId} {sb L : Nat} {xs : Nat → Int32} {b : Nat} (hbs : b = s.heap.size) {Inv : Nat → St → Prop} (hG : Good Inv) (hL : L ≤ 2048) (C0 : lw_At p s m meth c sb L xs) (hK : va_K D vwCl (tyx cs) s) :
    ∀ (n t : Nat) (σ : St), L + 3 < 4 * (t + n) → 4 * t ≤ L + 3 → Inv t σ → ∀ (H : Heap) (locs : List Loc) (ls : Array Slot), He D b 43 (Ex cs b σ) H → va_S (fun q => b ≤ q) s.heap H locs → lv_has ls 4 [(0, .ref sb), (1, .ref (b + xo 0 0)), (2, .ref (b + xo 13 0)), (3, .int (nI (4 * t)))] → W p l e room_1 s m #[Value.ref sb] below meth c H locs 43 617 (lw_Z below #[Value.ref sb] s) (F0 m 18 ls []) := by
  obtain ⟨hx, hb, hr, hml, hown, hts0, hX, hbl, hlk, hgv⟩ := C0
  have hts : ∀ w ∈ T0, w.before #[Value.ref sb] s = true := fun w h => hts0 w (T0_in h)
  have hbA : ¬ (fun q : Nat => b ≤ q) sb := Nat.not_le.mpr (by rw [hbs]; exact hbl)
  intro n
  induction n with
  | zero =>
    intro t σ h0 h1
    exact absurd h1 (by omega)
  | succ n ih =>
    intro t σ h0 h1 hinv H locs ls hH hS hl
    refine lv_iload_n hx hb dL_law_18 rfl (lv_at hl 3 rfl) ?_
    refine lv_aload_n hx hb dL_law_19 rfl (lv_at hl 0 rfl) ?_
    refine va_slen hx hb hX hbl hbA hS dL_law_20 ?_
    refine lv_iconst (v := 4) hx hb dL_law_21 (by decide) ?_
    refine lv_isub hx hb dL_law_22 ?_
    refine lv_icmp_gt (tgt := 423) hx hb dL_law_23 (by decide) (fun c_1 => ?_) (fun c_1 => ?_)
    ·
      refine lv_iconst (v := 1) hx hb dL_law_423 (by decide) ?_
      refine va_forget (fun q hq => by rw [← hbs]; exact hS.2.2 q hq) ?_
      refine W.widen (k := 600000) (n := 7302250) (by decide) (by decide) ?_
      exact lw_ret hx hb hr hlk dL_law_424
    have h4 : 4 * t + 4 ≤ L := len4 hL (by omega) c_1
    obtain ⟨hnext, ho, hm, gA, gS, gR_, gC_, gZ, gF⟩ := hG.2 t σ (by omega) hinv
    refine lv_aload_n hx hb dL_law_26 rfl (lv_at hl 0 rfl) ?_
    refine lv_iload_n hx hb dL_law_27 rfl (lv_at hl 3 rfl) ?_
    refine va_sld hx hb hX hbl hbA hS (vp_in_nI (by omega) (by omega)) dL_law_28 ?_
    refine lv_bipush (v := 15) hx hb dL_law_29 (by decide) ?_
    refine lv_iand hx hb dL_law_31 ?_
    refine lv_topi (fun w ew => ?_)
    by_cases c_0_ : w = 0
    ·
      refine lv_tableIn (off := 68) (tgt := 100) hx hb dL_law_32 (by rw [c_0_]; decide) (by rw [c_0_]; decide) (by rw [c_0_]; rfl) (by decide) ?_
      refine lv_aload_n hx hb dL_law_100 rfl (lv_at hl 1 rfl) ?_
      refine lv_aload_n hx hb dL_law_101 rfl (lv_at hl 0 rfl) ?_
      refine lv_iload_n hx hb dL_law_102 rfl (lv_at hl 3 rfl) ?_
      refine lv_iconst (v := 1) hx hb dL_law_103 (by decide) ?_
      refine lv_iadd hx hb dL_law_104 ?_
      rw [show nI (4 * t) + 1 = nI (4 * t + 1) from tagA rfl rfl]
      refine va_sld hx hb hX hbl hbA hS (vp_in_nI (by omega) (by omega)) dL_law_105 ?_
      rw [nI_clamp (show 4 * t + 1 < 2 ^ 31 by omega)]
      refine lv_aload_n hx hb dL_law_106 rfl (lv_at hl 0 rfl) ?_
      refine lv_iload_n hx hb dL_law_107 rfl (lv_at hl 3 rfl) ?_
      refine lv_iconst (v := 2) hx hb dL_law_108 (by decide) ?_
      refine lv_iadd hx hb dL_law_109 ?_
      rw [show nI (4 * t) + 2 = nI (4 * t + 2) from tagA rfl rfl]
      refine va_sld hx hb hX hbl hbA hS (vp_in_nI (by omega) (by omega)) dL_law_110 ?_
      rw [nI_clamp (show 4 * t + 2 < 2 ^ 31 by omega)]
      refine e_ci (e_runV (C := RX5) (ci := 5) (As := [.int (xs (4 * t + 1)), .int (xs (4 * t + 2))]) (rest := []) ⟨hx, hb, hml, hown, hts⟩ (k_X5_add l D cs b σ (xs (4 * t + 1)) (xs (4 * t + 2)) ) ⟨callB_of 2 hts (gC wC_X5_add) rfl rfl rfl (hts _ wi_X5) (hts _ wM_L_13) (by decide +kernel) (by decide), hts _ wN_X5_add, hts _ wS_X5_add⟩ hK hH (xo_ok (show 0 < xn 0 by decide)).2.2 (Ex_at cs b σ (show 0 < xn 0 by decide)) rfl rfl rfl hl.1 rfl (Nat.le_of_ble_eq_true rfl) dL_law_111 (by decide)) hS (fun H locs hH hS => ?_)
      refine lv_aload_n hx hb dL_law_114 rfl (lv_at hl 2 rfl) ?_
      refine lv_aload_n hx hb dL_law_115 rfl (lv_at hl 0 rfl) ?_
      refine lv_iload_n hx hb dL_law_116 rfl (lv_at hl 3 rfl) ?_
      refine lv_iconst (v := 1) hx hb dL_law_117 (by decide) ?_
      refine lv_iadd hx hb dL_law_118 ?_
      rw [show nI (4 * t) + 1 = nI (4 * t + 1) from tagA rfl rfl]
      refine va_sld hx hb hX hbl hbA hS (vp_in_nI (by omega) (by omega)) dL_law_119 ?_
      rw [nI_clamp (show 4 * t + 1 < 2 ^ 31 by omega)]
      refine lv_aload_n hx hb dL_law_120 rfl (lv_at hl 0 rfl) ?_
      refine lv_iload_n hx hb dL_law_121 rfl (lv_at hl 3 rfl) ?_
      refine lv_iconst (v := 2) hx hb dL_law_122 (by decide) ?_
      refine lv_iadd hx hb dL_law_123 ?_
      rw [show nI (4 * t) + 2 = nI (4 * t + 2) from tagA rfl rfl]
      refine va_sld hx hb hX hbl hbA hS (vp_in_nI (by omega) (by omega)) dL_law_124 ?_
      rw [nI_clamp (show 4 * t + 2 < 2 ^ 31 by omega)]
      refine e_ci (e_runV (C := RX6) (ci := 6) (As := [.int (xs (4 * t + 1)), .int (xs (4 * t + 2))]) (rest := [.int ((f_X5_add σ (xs (4 * t + 1)) (xs (4 * t + 2))).1)]) ⟨hx, hb, hml, hown, hts⟩ (k_X6_add l D cs b ((f_X5_add σ (xs (4 * t + 1)) (xs (4 * t + 2))).2) (xs (4 * t + 1)) (xs (4 * t + 2)) (gA (xs (4 * t + 1)) (xs (4 * t + 2))).1) ⟨callB_of 2 hts (gC wC_X6_add) rfl rfl rfl (hts _ wi_X6) (hts _ wM_L_17) (by decide +kernel) (by decide), hts _ wN_X6_add, hts _ wS_X6_add⟩ hK hH (xo_ok (show 0 < xn 13 by decide)).2.2 (Ex_at cs b ((f_X5_add σ (xs (4 * t + 1)) (xs (4 * t + 2))).2) (show 0 < xn 13 by decide)) rfl rfl rfl hl.1 rfl (Nat.le_of_ble_eq_true rfl) dL_law_125 (by decide)) hS (fun H locs hH hS => ?_)
      refine lv_icmp_eq (tgt := 417) hx hb dL_law_128 (by decide) (fun c_ => ?_) (fun c_ => absurd (gA (xs (4 * t + 1)) (xs (4 * t + 2))).2.1 c_)
      refine lv_iinc (v := nI (4 * (t + 1))) (lv' := [(3, .int (nI (4 * (t + 1)))), (0, .ref sb), (1, .ref (b + xo 0 0)), (2, .ref (b + xo 13 0))]) hx hb dL_law_417 hl (k := 3) rfl (i4 t) (by decide) rfl (fun ls hl => ?_)
      refine lv_goto (tgt := 18) hx hb dL_law_420 (by decide) ?_
      exact ih (t + 1) ((f_X6_add ((f_X5_add σ (xs (4 * t + 1)) (xs (4 * t + 2))).2) (xs (4 * t + 1)) (xs (4 * t + 2))).2) (by omega) (by omega) (gA (xs (4 * t + 1)) (xs (4 * t + 2))).2.2 _ _ _ hH hS (lv_sub hl [1, 2, 3, 0] rfl)
    by_cases c_1_ : w = 1
    ·
      refine lv_tableIn (off := 101) (tgt := 133) hx hb dL_law_32 (by rw [c_1_]; decide) (by rw [c_1_]; decide) (by rw [c_1_]; rfl) (by decide) ?_
      refine lv_aload_n hx hb dL_law_133 rfl (lv_at hl 1 rfl) ?_
      refine lv_aload_n hx hb dL_law_134 rfl (lv_at hl 0 rfl) ?_
      refine lv_iload_n hx hb dL_law_135 rfl (lv_at hl 3 rfl) ?_
      refine lv_iconst (v := 1) hx hb dL_law_136 (by decide) ?_
      refine lv_iadd hx hb dL_law_137 ?_
      rw [show nI (4 * t) + 1 = nI (4 * t + 1) from tagA rfl rfl]
      refine va_sld hx hb hX hbl hbA hS (vp_in_nI (by omega) (by omega)) dL_law_138 ?_
      rw [nI_clamp (show 4 * t + 1 < 2 ^ 31 by omega)]
      refine lv_aload_n hx hb dL_law_139 rfl (lv_at hl 0 rfl) ?_
      refine lv_iload_n hx hb dL_law_140 rfl (lv_at hl 3 rfl) ?_
      refine lv_iconst (v := 2) hx hb dL_law_141 (by decide) ?_
      refine lv_iadd hx hb dL_law_142 ?_
      rw [show nI (4 * t) + 2 = nI (4 * t + 2) from tagA rfl rfl]
      refine va_sld hx hb hX hbl hbA hS (vp_in_nI (by omega) (by omega)) dL_law_143 ?_
      rw [nI_clamp (show 4 * t + 2 < 2 ^ 31 by omega)]
      refine lv_aload_n hx hb dL_law_144 rfl (lv_at hl 0 rfl) ?_
      refine lv_iload_n hx hb dL_law_145 rfl (lv_at hl 3 rfl) ?_
      refine lv_iconst (v := 3) hx hb dL_law_146 (by decide) ?_
      refine lv_iadd hx hb dL_law_147 ?_
      rw [show nI (4 * t) + 3 = nI (4 * t + 3) from tagA rfl rfl]
      refine va_sld hx hb hX hbl hbA hS (vp_in_nI (by omega) (by omega)) dL_law_148 ?_
      rw [nI_clamp (show 4 * t + 3 < 2 ^ 31 by omega)]
      refine e_ci (e_runV (C := RX5) (ci := 5) (As := [.int (xs (4 * t + 1)), .int (xs (4 * t + 2)), .int (xs (4 * t + 3))]) (rest := []) ⟨hx, hb, hml, hown, hts⟩ (k_X5_start l D cs b σ (xs (4 * t + 1)) (xs (4 * t + 2)) (xs (4 * t + 3)) ) ⟨callB_of 3 hts (gC wC_X5_start) rfl rfl rfl (hts _ wi_X5) (hts _ wM_L_18) (by decide +kernel) (by decide), hts _ wN_X5_start, hts _ wS_X5_start⟩ hK hH (xo_ok (show 0 < xn 0 by decide)).2.2 (Ex_at cs b σ (show 0 < xn 0 by decide)) rfl rfl rfl hl.1 rfl (Nat.le_of_ble_eq_true rfl) dL_law_149 (by decide)) hS (fun H locs hH hS => ?_)
      refine lv_aload_n hx hb dL_law_152 rfl (lv_at hl 2 rfl) ?_
      refine lv_aload_n hx hb dL_law_153 rfl (lv_at hl 0 rfl) ?_
      refine lv_iload_n hx hb dL_law_154 rfl (lv_at hl 3 rfl) ?_
      refine lv_iconst (v := 1) hx hb dL_law_155 (by decide) ?_
      refine lv_iadd hx hb dL_law_156 ?_
      rw [show nI (4 * t) + 1 = nI (4 * t + 1) from tagA rfl rfl]
      refine va_sld hx hb hX hbl hbA hS (vp_in_nI (by omega) (by omega)) dL_law_157 ?_
      rw [nI_clamp (show 4 * t + 1 < 2 ^ 31 by omega)]
      refine lv_aload_n hx hb dL_law_158 rfl (lv_at hl 0 rfl) ?_
      refine lv_iload_n hx hb dL_law_159 rfl (lv_at hl 3 rfl) ?_
      refine lv_iconst (v := 2) hx hb dL_law_160 (by decide) ?_
      refine lv_iadd hx hb dL_law_161 ?_
      rw [show nI (4 * t) + 2 = nI (4 * t + 2) from tagA rfl rfl]
      refine va_sld hx hb hX hbl hbA hS (vp_in_nI (by omega) (by omega)) dL_law_162 ?_
      rw [nI_clamp (show 4 * t + 2 < 2 ^ 31 by omega)]
      refine lv_aload_n hx hb dL_law_163 rfl (lv_at hl 0 rfl) ?_
      refine lv_iload_n hx hb dL_law_164 rfl (lv_at hl 3 rfl) ?_
      refine lv_iconst (v := 3) hx hb dL_law_165 (by decide) ?_
      refine lv_iadd hx hb dL_law_166 ?_
      rw [show nI (4 * t) + 3 = nI (4 * t + 3) from tagA rfl rfl]
      refine va_sld hx hb hX hbl hbA hS (vp_in_nI (by omega) (by omega)) dL_law_167 ?_
      rw [nI_clamp (show 4 * t + 3 < 2 ^ 31 by omega)]
      refine e_ci (e_runV (C := RX6) (ci := 6) (As := [.int (xs (4 * t + 1)), .int (xs (4 * t + 2)), .int (xs (4 * t + 3))]) (rest := [.int ((f_X5_start σ (xs (4 * t + 1)) (xs (4 * t + 2)) (xs (4 * t + 3))).1)]) ⟨hx, hb, hml, hown, hts⟩ (k_X6_start l D cs b ((f_X5_start σ (xs (4 * t + 1)) (xs (4 * t + 2)) (xs (4 * t + 3))).2) (xs (4 * t + 1)) (xs (4 * t + 2)) (xs (4 * t + 3)) ) ⟨callB_of 3 hts (gC wC_X6_start) rfl rfl rfl (hts _ wi_X6) (hts _ wM_L_22) (by decide +kernel) (by decide), hts _ wN_X6_start, hts _ wS_X6_start⟩ hK hH (xo_ok (show 0 < xn 13 by decide)).2.2 (Ex_at cs b ((f_X5_start σ (xs (4 * t + 1)) (xs (4 * t + 2)) (xs (4 * t + 3))).2) (show 0 < xn 13 by decide)) rfl rfl rfl hl.1 rfl (Nat.le_of_ble_eq_true rfl) dL_law_168 (by decide)) hS (fun H locs hH hS => ?_)
      refine lv_icmp_eq (tgt := 417) hx hb dL_law_171 (by decide) (fun c_ => ?_) (fun c_ => absurd (gS (xs (4 * t + 1)) (xs (4 * t + 2)) (xs (4 * t + 3))).1 c_)
      refine lv_iinc (v := nI (4 * (t + 1))) (lv' := [(3, .int (nI (4 * (t + 1)))), (0, .ref sb), (1, .ref (b + xo 0 0)), (2, .ref (b + xo 13 0))]) hx hb dL_law_417 hl (k := 3) rfl (i4 t) (by decide) rfl (fun ls hl => ?_)
      refine lv_goto (tgt := 18) hx hb dL_law_420 (by decide) ?_
      exact ih (t + 1) ((f_X6_start ((f_X5_start σ (xs (4 * t + 1)) (xs (4 * t + 2)) (xs (4 * t + 3))).2) (xs (4 * t + 1)) (xs (4 * t + 2)) (xs (4 * t + 3))).2) (by omega) (by omega) (gS (xs (4 * t + 1)) (xs (4 * t + 2)) (xs (4 * t + 3))).2 _ _ _ hH hS (lv_sub hl [1, 2, 3, 0] rfl)
    by_cases c_2_ : w = 2
    ·
      refine lv_tableIn (off := 144) (tgt := 176) hx hb dL_law_32 (by rw [c_2_]; decide) (by rw [c_2_]; decide) (by rw [c_2_]; rfl) (by decide) ?_
      refine lv_aload_n hx hb dL_law_176 rfl (lv_at hl 1 rfl) ?_
      refine lv_aload_n hx hb dL_law_177 rfl (lv_at hl 0 rfl) ?_
      refine lv_iload_n hx hb dL_law_178 rfl (lv_at hl 3 rfl) ?_
      refine lv_iconst (v := 1) hx hb dL_law_179 (by decide) ?_
      refine lv_iadd hx hb dL_law_180 ?_
      rw [show nI (4 * t) + 1 = nI (4 * t + 1) from tagA rfl rfl]
      refine va_sld hx hb hX hbl hbA hS (vp_in_nI (by omega) (by omega)) dL_law_181 ?_
      rw [nI_clamp (show 4 * t + 1 < 2 ^ 31 by omega)]
      refine e_ci (e_runV (C := RX5) (ci := 5) (As := [.int (xs (4 * t + 1))]) (rest := []) ⟨hx, hb, hml, hown, hts⟩ (k_X5_run l D cs b σ (xs (4 * t + 1)) ho) ⟨callB_of 1 hts (gC wC_X5_run) rfl rfl rfl (hts _ wi_X5) (hts _ wM_L_23) (by decide +kernel) (by decide), hts _ wN_X5_run, hts _ wS_X5_run⟩ hK hH (xo_ok (show 0 < xn 0 by decide)).2.2 (Ex_at cs b σ (show 0 < xn 0 by decide)) rfl rfl rfl hl.1 rfl (Nat.le_of_ble_eq_true rfl) dL_law_182 (by decide)) hS (fun H locs hH hS => ?_)
      refine lv_aload_n hx hb dL_law_185 rfl (lv_at hl 2 rfl) ?_
      refine lv_aload_n hx hb dL_law_186 rfl (lv_at hl 0 rfl) ?_
      refine lv_iload_n hx hb dL_law_187 rfl (lv_at hl 3 rfl) ?_
      refine lv_iconst (v := 1) hx hb dL_law_188 (by decide) ?_
      refine lv_iadd hx hb dL_law_189 ?_
      rw [show nI (4 * t) + 1 = nI (4 * t + 1) from tagA rfl rfl]
      refine va_sld hx hb hX hbl hbA hS (vp_in_nI (by omega) (by omega)) dL_law_190 ?_
      rw [nI_clamp (show 4 * t + 1 < 2 ^ 31 by omega)]
      refine e_ci (e_runV (C := RX6) (ci := 6) (As := [.int (xs (4 * t + 1))]) (rest := [.int ((f_X5_run σ (xs (4 * t + 1))).1)]) ⟨hx, hb, hml, hown, hts⟩ (k_X6_run l D cs b ((f_X5_run σ (xs (4 * t + 1))).2) (xs (4 * t + 1)) (400 * t) (by omega) (gR_ (xs (4 * t + 1))).1) ⟨callB_of 1 hts (gC wC_X6_run) rfl rfl rfl (hts _ wi_X6) (hts _ wM_L_27) (by decide +kernel) (by decide), hts _ wN_X6_run, hts _ wS_X6_run⟩ hK hH (xo_ok (show 0 < xn 13 by decide)).2.2 (Ex_at cs b ((f_X5_run σ (xs (4 * t + 1))).2) (show 0 < xn 13 by decide)) rfl rfl rfl hl.1 rfl (Nat.le_of_ble_eq_true rfl) dL_law_191 (by decide)) hS (fun H locs hH hS => ?_)
      refine lv_icmp_eq (tgt := 417) hx hb dL_law_194 (by decide) (fun c_ => ?_) (fun c_ => absurd (gR_ (xs (4 * t + 1))).2.1 c_)
      refine lv_iinc (v := nI (4 * (t + 1))) (lv' := [(3, .int (nI (4 * (t + 1)))), (0, .ref sb), (1, .ref (b + xo 0 0)), (2, .ref (b + xo 13 0))]) hx hb dL_law_417 hl (k := 3) rfl (i4 t) (by decide) rfl (fun ls hl => ?_)
      refine lv_goto (tgt := 18) hx hb dL_law_420 (by decide) ?_
      exact ih (t + 1) ((f_X6_run ((f_X5_run σ (xs (4 * t + 1))).2) (xs (4 * t + 1))).2) (by omega) (by omega) (gR_ (xs (4 * t + 1))).2.2 _ _ _ hH hS (lv_sub hl [1, 2, 3, 0] rfl)
    by_cases c_3_ : w = 3
    ·
      refine lv_tableIn (off := 167) (tgt := 199) hx hb dL_law_32 (by rw [c_3_]; decide) (by rw [c_3_]; decide) (by rw [c_3_]; rfl) (by decide) ?_
      refine lv_aload_n hx hb dL_law_199 rfl (lv_at hl 1 rfl) ?_
      refine lv_aload_n hx hb dL_law_200 rfl (lv_at hl 0 rfl) ?_
      refine lv_iload_n hx hb dL_law_201 rfl (lv_at hl 3 rfl) ?_
      refine lv_iconst (v := 1) hx hb dL_law_202 (by decide) ?_
      refine lv_iadd hx hb dL_law_203 ?_
      rw [show nI (4 * t) + 1 = nI (4 * t + 1) from tagA rfl rfl]
      refine va_sld hx hb hX hbl hbA hS (vp_in_nI (by omega) (by omega)) dL_law_204 ?_
      rw [nI_clamp (show 4 * t + 1 < 2 ^ 31 by omega)]
      refine e_cv (e_runV (C := RX5) (ci := 5) (As := [.int (xs (4 * t + 1))]) (rest := []) ⟨hx, hb, hml, hown, hts⟩ (k_X5_setClock l D cs b σ (xs (4 * t + 1)) ) ⟨callB_of 1 hts (gC wC_X5_setClock) rfl rfl rfl (hts _ wi_X5) (hts _ wM_L_28) (by decide +kernel) (by decide), hts _ wN_X5_setClock, hts _ wS_X5_setClock⟩ hK hH (xo_ok (show 0 < xn 0 by decide)).2.2 (Ex_at cs b σ (show 0 < xn 0 by decide)) rfl rfl rfl hl.1 rfl (Nat.le_of_ble_eq_true rfl) dL_law_205 (by decide)) hS (fun H locs hH hS => ?_)
      refine lv_aload_n hx hb dL_law_208 rfl (lv_at hl 2 rfl) ?_
      refine lv_aload_n hx hb dL_law_209 rfl (lv_at hl 0 rfl) ?_
      refine lv_iload_n hx hb dL_law_210 rfl (lv_at hl 3 rfl) ?_
      refine lv_iconst (v := 1) hx hb dL_law_211 (by decide) ?_
      refine lv_iadd hx hb dL_law_212 ?_
      rw [show nI (4 * t) + 1 = nI (4 * t + 1) from tagA rfl rfl]
      refine va_sld hx hb hX hbl hbA hS (vp_in_nI (by omega) (by omega)) dL_law_213 ?_
      rw [nI_clamp (show 4 * t + 1 < 2 ^ 31 by omega)]
      refine e_cv (e_runV (C := RX6) (ci := 6) (As := [.int (xs (4 * t + 1))]) (rest := []) ⟨hx, hb, hml, hown, hts⟩ (k_X6_setClock l D cs b (f_X5_setClock σ (xs (4 * t + 1))) (xs (4 * t + 1)) ) ⟨callB_of 1 hts (gC wC_X6_setClock) rfl rfl rfl (hts _ wi_X6) (hts _ wM_L_32) (by decide +kernel) (by decide), hts _ wN_X6_setClock, hts _ wS_X6_setClock⟩ hK hH (xo_ok (show 0 < xn 13 by decide)).2.2 (Ex_at cs b (f_X5_setClock σ (xs (4 * t + 1))) (show 0 < xn 13 by decide)) rfl rfl rfl hl.1 rfl (Nat.le_of_ble_eq_true rfl) dL_law_214 (by decide)) hS (fun H locs hH hS => ?_)
      refine lv_goto (tgt := 417) hx hb dL_law_217 (by decide) ?_
      refine lv_iinc (v := nI (4 * (t + 1))) (lv' := [(3, .int (nI (4 * (t + 1)))), (0, .ref sb), (1, .ref (b + xo 0 0)), (2, .ref (b + xo 13 0))]) hx hb dL_law_417 hl (k := 3) rfl (i4 t) (by decide) rfl (fun ls hl => ?_)
      refine lv_goto (tgt := 18) hx hb dL_law_420 (by decide) ?_
      exact ih (t + 1) (f_X6_setClock (f_X5_setClock σ (xs (4 * t + 1))) (xs (4 * t + 1))) (by omega) (by omega) (gC_ (xs (4 * t + 1))) _ _ _ hH hS (lv_sub hl [1, 2, 3, 0] rfl)
    by_cases c_4_ : w = 4
    ·
      refine lv_tableIn (off := 188) (tgt := 220) hx hb dL_law_32 (by rw [c_4_]; decide) (by rw [c_4_]; decide) (by rw [c_4_]; rfl) (by decide) ?_
      refine lv_aload_n hx hb dL_law_220 rfl (lv_at hl 1 rfl) ?_
      refine e_cv (e_runV (C := RX5) (ci := 5) (As := []) (rest := []) ⟨hx, hb, hml, hown, hts⟩ (k_X5_reset l D cs b σ  ) ⟨callB_of 0 hts (gC wC_X5_reset) rfl rfl rfl (hts _ wi_X5) (hts _ wM_L_33) (by decide +kernel) (by decide), hts _ wN_X5_reset, hts _ wS_X5_reset⟩ hK hH (xo_ok (show 0 < xn 0 by decide)).2.2 (Ex_at cs b σ (show 0 < xn 0 by decide)) rfl rfl rfl hl.1 rfl (Nat.le_of_ble_eq_true rfl) dL_law_221 (by decide)) hS (fun H locs hH hS => ?_)
      refine lv_aload_n hx hb dL_law_224 rfl (lv_at hl 2 rfl) ?_
      refine e_cv (e_runV (C := RX6) (ci := 6) (As := []) (rest := []) ⟨hx, hb, hml, hown, hts⟩ (k_X6_reset l D cs b (f_X5_reset σ)  ) ⟨callB_of 0 hts (gC wC_X6_reset) rfl rfl rfl (hts _ wi_X6) (hts _ wM_L_36) (by decide +kernel) (by decide), hts _ wN_X6_reset, hts _ wS_X6_reset⟩ hK hH (xo_ok (show 0 < xn 13 by decide)).2.2 (Ex_at cs b (f_X5_reset σ) (show 0 < xn 13 by decide)) rfl rfl rfl hl.1 rfl (Nat.le_of_ble_eq_true rfl) dL_law_225 (by decide)) hS (fun H locs hH hS => ?_)
      refine lv_goto (tgt := 417) hx hb dL_law_228 (by decide) ?_
      refine lv_iinc (v := nI (4 * (t + 1))) (lv' := [(3, .int (nI (4 * (t + 1)))), (0, .ref sb), (1, .ref (b + xo 0 0)), (2, .ref (b + xo 13 0))]) hx hb dL_law_417 hl (k := 3) rfl (i4 t) (by decide) rfl (fun ls hl => ?_)
      refine lv_goto (tgt := 18) hx hb dL_law_420 (by decide) ?_
      exact ih (t + 1) (f_X6_reset (f_X5_reset σ)) (by omega) (by omega) gZ _ _ _ hH hS (lv_sub hl [1, 2, 3, 0] rfl)
    by_cases c_5_ : w = 5
    ·
      refine lv_tableIn (off := 199) (tgt := 231) hx hb dL_law_32 (by rw [c_5_]; decide) (by rw [c_5_]; decide) (by rw [c_5_]; rfl) (by decide) ?_
      refine lv_aload_n hx hb dL_law_231 rfl (lv_at hl 1 rfl) ?_
      refine e_ci (e_runV (C := RX5) (ci := 5) (As := []) (rest := []) ⟨hx, hb, hml, hown, hts⟩ (k_X5_clock l D cs b σ  ) ⟨callB_of 0 hts (gC wC_X5_clock) rfl rfl rfl (hts _ wi_X5) (hts _ wM_L_37) (by decide +kernel) (by decide), hts _ wN_X5_clock, hts _ wS_X5_clock⟩ hK hH (xo_ok (show 0 < xn 0 by decide)).2.2 (Ex_at cs b σ (show 0 < xn 0 by decide)) rfl rfl rfl hl.1 rfl (Nat.le_of_ble_eq_true rfl) dL_law_232 (by decide)) hS (fun H locs hH hS => ?_)
      refine lv_aload_n hx hb dL_law_235 rfl (lv_at hl 2 rfl) ?_
      refine e_ci (e_runV (C := RX6) (ci := 6) (As := []) (rest := [.int (f_X5_clock σ)]) ⟨hx, hb, hml, hown, hts⟩ (k_X6_clock l D cs b σ  ) ⟨callB_of 0 hts (gC wC_X6_clock) rfl rfl rfl (hts _ wi_X6) (hts _ wM_L_41) (by decide +kernel) (by decide), hts _ wN_X6_clock, hts _ wS_X6_clock⟩ hK hH (xo_ok (show 0 < xn 13 by decide)).2.2 (Ex_at cs b σ (show 0 < xn 13 by decide)) rfl rfl rfl hl.1 rfl (Nat.le_of_ble_eq_true rfl) dL_law_236 (by decide)) hS (fun H locs hH hS => ?_)
      refine lv_icmp_eq (tgt := 417) hx hb dL_law_239 (by decide) (fun c_ => ?_) (fun c_ => absurd gF.1 c_)
      refine lv_iinc (v := nI (4 * (t + 1))) (lv' := [(3, .int (nI (4 * (t + 1)))), (0, .ref sb), (1, .ref (b + xo 0 0)), (2, .ref (b + xo 13 0))]) hx hb dL_law_417 hl (k := 3) rfl (i4 t) (by decide) rfl (fun ls hl => ?_)
      refine lv_goto (tgt := 18) hx hb dL_law_420 (by decide) ?_
      exact ih (t + 1) σ (by omega) (by omega) hnext _ _ _ hH hS (lv_sub hl [1, 2, 3, 0] rfl)
    by_cases c_6_ : w = 6
    ·
      refine lv_tableIn (off := 212) (tgt := 244) hx hb dL_law_32 (by rw [c_6_]; decide) (by rw [c_6_]; decide) (by rw [c_6_]; rfl) (by decide) ?_
      refine lv_aload_n hx hb dL_law_244 rfl (lv_at hl 1 rfl) ?_
      refine e_ci (e_runV (C := RX5) (ci := 5) (As := []) (rest := []) ⟨hx, hb, hml, hown, hts⟩ (k_X5_running l D cs b σ  ho) ⟨callB_of 0 hts (gC wC_X5_running) rfl rfl rfl (hts _ wi_X5) (hts _ wM_L_42) (by decide +kernel) (by decide), hts _ wN_X5_running, hts _ wS_X5_running⟩ hK hH (xo_ok (show 0 < xn 0 by decide)).2.2 (Ex_at cs b σ (show 0 < xn 0 by decide)) rfl rfl rfl hl.1 rfl (Nat.le_of_ble_eq_true rfl) dL_law_245 (by decide)) hS (fun H locs hH hS => ?_)
      refine lv_aload_n hx hb dL_law_248 rfl (lv_at hl 2 rfl) ?_
      refine e_ci (e_runV (C := RX6) (ci := 6) (As := []) (rest := [.int (f_X5_running σ)]) ⟨hx, hb, hml, hown, hts⟩ (k_X6_running l D cs b σ  ) ⟨callB_of 0 hts (gC wC_X6_running) rfl rfl rfl (hts _ wi_X6) (hts _ wM_L_45) (by decide +kernel) (by decide), hts _ wN_X6_running, hts _ wS_X6_running⟩ hK hH (xo_ok (show 0 < xn 13 by decide)).2.2 (Ex_at cs b σ (show 0 < xn 13 by decide)) rfl rfl rfl hl.1 rfl (Nat.le_of_ble_eq_true rfl) dL_law_249 (by decide)) hS (fun H locs hH hS => ?_)
      refine lv_icmp_eq (tgt := 417) hx hb dL_law_252 (by decide) (fun c_ => ?_) (fun c_ => absurd gF.2.1 c_)
      refine lv_iinc (v := nI (4 * (t + 1))) (lv' := [(3, .int (nI (4 * (t + 1)))), (0, .ref sb), (1, .ref (b + xo 0 0)), (2, .ref (b + xo 13 0))]) hx hb dL_law_417 hl (k := 3) rfl (i4 t) (by decide) rfl (fun ls hl => ?_)
      refine lv_goto (tgt := 18) hx hb dL_law_420 (by decide) ?_
      exact ih (t + 1) σ (by omega) (by omega) hnext _ _ _ hH hS (lv_sub hl [1, 2, 3, 0] rfl)
    by_cases c_7_ : w = 7
    ·
      refine lv_tableIn (off := 225) (tgt := 257) hx hb dL_law_32 (by rw [c_7_]; decide) (by rw [c_7_]; decide) (by rw [c_7_]; rfl) (by decide) ?_
      refine lv_aload_n hx hb dL_law_257 rfl (lv_at hl 1 rfl) ?_
      refine lv_aload_n hx hb dL_law_258 rfl (lv_at hl 0 rfl) ?_
      refine lv_iload_n hx hb dL_law_259 rfl (lv_at hl 3 rfl) ?_
      refine lv_iconst (v := 1) hx hb dL_law_260 (by decide) ?_
      refine lv_iadd hx hb dL_law_261 ?_
      rw [show nI (4 * t) + 1 = nI (4 * t + 1) from tagA rfl rfl]
      refine va_sld hx hb hX hbl hbA hS (vp_in_nI (by omega) (by omega)) dL_law_262 ?_
      rw [nI_clamp (show 4 * t + 1 < 2 ^ 31 by omega)]
      refine e_ci (e_runV (C := RX5) (ci := 5) (As := [.int (xs (4 * t + 1))]) (rest := []) ⟨hx, hb, hml, hown, hts⟩ (k_X5_state l D cs b σ (xs (4 * t + 1)) ) ⟨callB_of 1 hts (gC wC_X5_state) rfl rfl rfl (hts _ wi_X5) (hts _ wM_L_46) (by decide +kernel) (by decide), hts _ wN_X5_state, hts _ wS_X5_state⟩ hK hH (xo_ok (show 0 < xn 0 by decide)).2.2 (Ex_at cs b σ (show 0 < xn 0 by decide)) rfl rfl rfl hl.1 rfl (Nat.le_of_ble_eq_true rfl) dL_law_263 (by decide)) hS (fun H locs hH hS => ?_)
      refine lv_aload_n hx hb dL_law_266 rfl (lv_at hl 2 rfl) ?_
      refine lv_aload_n hx hb dL_law_267 rfl (lv_at hl 0 rfl) ?_
      refine lv_iload_n hx hb dL_law_268 rfl (lv_at hl 3 rfl) ?_
      refine lv_iconst (v := 1) hx hb dL_law_269 (by decide) ?_
      refine lv_iadd hx hb dL_law_270 ?_
      rw [show nI (4 * t) + 1 = nI (4 * t + 1) from tagA rfl rfl]
      refine va_sld hx hb hX hbl hbA hS (vp_in_nI (by omega) (by omega)) dL_law_271 ?_
      rw [nI_clamp (show 4 * t + 1 < 2 ^ 31 by omega)]
      refine e_ci (e_runV (C := RX6) (ci := 6) (As := [.int (xs (4 * t + 1))]) (rest := [.int (f_X5_state σ (xs (4 * t + 1)))]) ⟨hx, hb, hml, hown, hts⟩ (k_X6_state l D cs b σ (xs (4 * t + 1)) ) ⟨callB_of 1 hts (gC wC_X6_state) rfl rfl rfl (hts _ wi_X6) (hts _ wM_L_49) (by decide +kernel) (by decide), hts _ wN_X6_state, hts _ wS_X6_state⟩ hK hH (xo_ok (show 0 < xn 13 by decide)).2.2 (Ex_at cs b σ (show 0 < xn 13 by decide)) rfl rfl rfl hl.1 rfl (Nat.le_of_ble_eq_true rfl) dL_law_272 (by decide)) hS (fun H locs hH hS => ?_)
      refine lv_icmp_eq (tgt := 417) hx hb dL_law_275 (by decide) (fun c_ => ?_) (fun c_ => absurd (gF.2.2.1 (xs (4 * t + 1))) c_)
      refine lv_iinc (v := nI (4 * (t + 1))) (lv' := [(3, .int (nI (4 * (t + 1)))), (0, .ref sb), (1, .ref (b + xo 0 0)), (2, .ref (b + xo 13 0))]) hx hb dL_law_417 hl (k := 3) rfl (i4 t) (by decide) rfl (fun ls hl => ?_)
      refine lv_goto (tgt := 18) hx hb dL_law_420 (by decide) ?_
      exact ih (t + 1) σ (by omega) (by omega) hnext _ _ _ hH hS (lv_sub hl [1, 2, 3, 0] rfl)
    by_cases c_8_ : w = 8
    ·
      refine lv_tableIn (off := 248) (tgt := 280) hx hb dL_law_32 (by rw [c_8_]; decide) (by rw [c_8_]; decide) (by rw [c_8_]; rfl) (by decide) ?_
      refine lv_aload_n hx hb dL_law_280 rfl (lv_at hl 1 rfl) ?_
      refine lv_aload_n hx hb dL_law_281 rfl (lv_at hl 0 rfl) ?_
      refine lv_iload_n hx hb dL_law_282 rfl (lv_at hl 3 rfl) ?_
      refine lv_iconst (v := 1) hx hb dL_law_283 (by decide) ?_
      refine lv_iadd hx hb dL_law_284 ?_
      rw [show nI (4 * t) + 1 = nI (4 * t + 1) from tagA rfl rfl]
      refine va_sld hx hb hX hbl hbA hS (vp_in_nI (by omega) (by omega)) dL_law_285 ?_
      rw [nI_clamp (show 4 * t + 1 < 2 ^ 31 by omega)]
      refine lv_aload_n hx hb dL_law_286 rfl (lv_at hl 0 rfl) ?_
      refine lv_iload_n hx hb dL_law_287 rfl (lv_at hl 3 rfl) ?_
      refine lv_iconst (v := 2) hx hb dL_law_288 (by decide) ?_
      refine lv_iadd hx hb dL_law_289 ?_
      rw [show nI (4 * t) + 2 = nI (4 * t + 2) from tagA rfl rfl]
      refine va_sld hx hb hX hbl hbA hS (vp_in_nI (by omega) (by omega)) dL_law_290 ?_
      rw [nI_clamp (show 4 * t + 2 < 2 ^ 31 by omega)]
      refine e_cl (e_runV (C := RX5) (ci := 5) (As := [.int (xs (4 * t + 1)), .int (xs (4 * t + 2))]) (rest := []) ⟨hx, hb, hml, hown, hts⟩ (k_X5_look l D cs b σ (xs (4 * t + 1)) (xs (4 * t + 2)) ) ⟨callB_of 2 hts (gC wC_X5_look) rfl rfl rfl (hts _ wi_X5) (hts _ wM_L_50) (by decide +kernel) (by decide), hts _ wN_X5_look, hts _ wS_X5_look⟩ hK hH (xo_ok (show 0 < xn 0 by decide)).2.2 (Ex_at cs b σ (show 0 < xn 0 by decide)) rfl rfl rfl hl.1 rfl (Nat.le_of_ble_eq_true rfl) dL_law_291 (by decide)) hS (fun H locs hH hS => ?_)
      refine lv_aload_n hx hb dL_law_294 rfl (lv_at hl 2 rfl) ?_
      refine lv_aload_n hx hb dL_law_295 rfl (lv_at hl 0 rfl) ?_
      refine lv_iload_n hx hb dL_law_296 rfl (lv_at hl 3 rfl) ?_
      refine lv_iconst (v := 1) hx hb dL_law_297 (by decide) ?_
      refine lv_iadd hx hb dL_law_298 ?_
      rw [show nI (4 * t) + 1 = nI (4 * t + 1) from tagA rfl rfl]
      refine va_sld hx hb hX hbl hbA hS (vp_in_nI (by omega) (by omega)) dL_law_299 ?_
      rw [nI_clamp (show 4 * t + 1 < 2 ^ 31 by omega)]
      refine lv_aload_n hx hb dL_law_300 rfl (lv_at hl 0 rfl) ?_
      refine lv_iload_n hx hb dL_law_301 rfl (lv_at hl 3 rfl) ?_
      refine lv_iconst (v := 2) hx hb dL_law_302 (by decide) ?_
      refine lv_iadd hx hb dL_law_303 ?_
      rw [show nI (4 * t) + 2 = nI (4 * t + 2) from tagA rfl rfl]
      refine va_sld hx hb hX hbl hbA hS (vp_in_nI (by omega) (by omega)) dL_law_304 ?_
      rw [nI_clamp (show 4 * t + 2 < 2 ^ 31 by omega)]
      refine e_cl (e_runV (C := RX6) (ci := 6) (As := [.int (xs (4 * t + 1)), .int (xs (4 * t + 2))]) (rest := [.long (f_X5_look σ (xs (4 * t + 1)) (xs (4 * t + 2)))]) ⟨hx, hb, hml, hown, hts⟩ (k_X6_look l D cs b σ (xs (4 * t + 1)) (xs (4 * t + 2)) ) ⟨callB_of 2 hts (gC wC_X6_look) rfl rfl rfl (hts _ wi_X6) (hts _ wM_L_54) (by decide +kernel) (by decide), hts _ wN_X6_look, hts _ wS_X6_look⟩ hK hH (xo_ok (show 0 < xn 13 by decide)).2.2 (Ex_at cs b σ (show 0 < xn 13 by decide)) rfl rfl rfl hl.1 rfl (Nat.le_of_ble_eq_true rfl) dL_law_305 (by decide)) hS (fun H locs hH hS => ?_)
      refine W.lcmp hx hb dL_law_308 ?_
      rw [lcmp_eq (gF.2.2.2.1 (xs (4 * t + 1)) (xs (4 * t + 2)))]
      refine lv_if_eq (tgt := 417) hx hb dL_law_309 (by decide) (fun c_ => ?_) (fun c_ => absurd rfl c_)
      refine lv_iinc (v := nI (4 * (t + 1))) (lv' := [(3, .int (nI (4 * (t + 1)))), (0, .ref sb), (1, .ref (b + xo 0 0)), (2, .ref (b + xo 13 0))]) hx hb dL_law_417 hl (k := 3) rfl (i4 t) (by decide) rfl (fun ls hl => ?_)
      refine lv_goto (tgt := 18) hx hb dL_law_420 (by decide) ?_
      exact ih (t + 1) σ (by omega) (by omega) hnext _ _ _ hH hS (lv_sub hl [1, 2, 3, 0] rfl)
    by_cases c_9_ : w = 9
    ·
      refine lv_tableIn (off := 282) (tgt := 314) hx hb dL_law_32 (by rw [c_9_]; decide) (by rw [c_9_]; decide) (by rw [c_9_]; rfl) (by decide) ?_
      refine lv_aload_n hx hb dL_law_314 rfl (lv_at hl 1 rfl) ?_
      refine lv_aload_n hx hb dL_law_315 rfl (lv_at hl 0 rfl) ?_
      refine lv_iload_n hx hb dL_law_316 rfl (lv_at hl 3 rfl) ?_
      refine lv_iconst (v := 1) hx hb dL_law_317 (by decide) ?_
      refine lv_iadd hx hb dL_law_318 ?_
      rw [show nI (4 * t) + 1 = nI (4 * t + 1) from tagA rfl rfl]
      refine va_sld hx hb hX hbl hbA hS (vp_in_nI (by omega) (by omega)) dL_law_319 ?_
      rw [nI_clamp (show 4 * t + 1 < 2 ^ 31 by omega)]
      refine lv_aload_n hx hb dL_law_320 rfl (lv_at hl 0 rfl) ?_
      refine lv_iload_n hx hb dL_law_321 rfl (lv_at hl 3 rfl) ?_
      refine lv_iconst (v := 2) hx hb dL_law_322 (by decide) ?_
      refine lv_iadd hx hb dL_law_323 ?_
      rw [show nI (4 * t) + 2 = nI (4 * t + 2) from tagA rfl rfl]
      refine va_sld hx hb hX hbl hbA hS (vp_in_nI (by omega) (by omega)) dL_law_324 ?_
      rw [nI_clamp (show 4 * t + 2 < 2 ^ 31 by omega)]
      refine e_ci (e_runV (C := RX5) (ci := 5) (As := [.int (xs (4 * t + 1)), .int (xs (4 * t + 2))]) (rest := []) ⟨hx, hb, hml, hown, hts⟩ (k_X5_waiting l D cs b σ (xs (4 * t + 1)) (xs (4 * t + 2)) ho) ⟨callB_of 2 hts (gC wC_X5_waiting) rfl rfl rfl (hts _ wi_X5) (hts _ wM_L_55) (by decide +kernel) (by decide), hts _ wN_X5_waiting, hts _ wS_X5_waiting⟩ hK hH (xo_ok (show 0 < xn 0 by decide)).2.2 (Ex_at cs b σ (show 0 < xn 0 by decide)) rfl rfl rfl hl.1 rfl (Nat.le_of_ble_eq_true rfl) dL_law_325 (by decide)) hS (fun H locs hH hS => ?_)
      refine lv_aload_n hx hb dL_law_328 rfl (lv_at hl 2 rfl) ?_
      refine lv_aload_n hx hb dL_law_329 rfl (lv_at hl 0 rfl) ?_
      refine lv_iload_n hx hb dL_law_330 rfl (lv_at hl 3 rfl) ?_
      refine lv_iconst (v := 1) hx hb dL_law_331 (by decide) ?_
      refine lv_iadd hx hb dL_law_332 ?_
      rw [show nI (4 * t) + 1 = nI (4 * t + 1) from tagA rfl rfl]
      refine va_sld hx hb hX hbl hbA hS (vp_in_nI (by omega) (by omega)) dL_law_333 ?_
      rw [nI_clamp (show 4 * t + 1 < 2 ^ 31 by omega)]
      refine lv_aload_n hx hb dL_law_334 rfl (lv_at hl 0 rfl) ?_
      refine lv_iload_n hx hb dL_law_335 rfl (lv_at hl 3 rfl) ?_
      refine lv_iconst (v := 2) hx hb dL_law_336 (by decide) ?_
      refine lv_iadd hx hb dL_law_337 ?_
      rw [show nI (4 * t) + 2 = nI (4 * t + 2) from tagA rfl rfl]
      refine va_sld hx hb hX hbl hbA hS (vp_in_nI (by omega) (by omega)) dL_law_338 ?_
      rw [nI_clamp (show 4 * t + 2 < 2 ^ 31 by omega)]
      refine e_ci (e_runV (C := RX6) (ci := 6) (As := [.int (xs (4 * t + 1)), .int (xs (4 * t + 2))]) (rest := [.int (f_X5_waiting σ (xs (4 * t + 1)) (xs (4 * t + 2)))]) ⟨hx, hb, hml, hown, hts⟩ (k_X6_waiting l D cs b σ (xs (4 * t + 1)) (xs (4 * t + 2)) ) ⟨callB_of 2 hts (gC wC_X6_waiting) rfl rfl rfl (hts _ wi_X6) (hts _ wM_L_58) (by decide +kernel) (by decide), hts _ wN_X6_waiting, hts _ wS_X6_waiting⟩ hK hH (xo_ok (show 0 < xn 13 by decide)).2.2 (Ex_at cs b σ (show 0 < xn 13 by decide)) rfl rfl rfl hl.1 rfl (Nat.le_of_ble_eq_true rfl) dL_law_339 (by decide)) hS (fun H locs hH hS => ?_)
      refine lv_icmp_eq (tgt := 417) hx hb dL_law_342 (by decide) (fun c_ => ?_) (fun c_ => absurd (gF.2.2.2.2.1 (xs (4 * t + 1)) (xs (4 * t + 2))) c_)
      refine lv_iinc (v := nI (4 * (t + 1))) (lv' := [(3, .int (nI (4 * (t + 1)))), (0, .ref sb), (1, .ref (b + xo 0 0)), (2, .ref (b + xo 13 0))]) hx hb dL_law_417 hl (k := 3) rfl (i4 t) (by decide) rfl (fun ls hl => ?_)
      refine lv_goto (tgt := 18) hx hb dL_law_420 (by decide) ?_
      exact ih (t + 1) σ (by omega) (by omega) hnext _ _ _ hH hS (lv_sub hl [1, 2, 3, 0] rfl)
    by_cases c_10_ : w = 10
    ·
      refine lv_tableIn (off := 315) (tgt := 347) hx hb dL_law_32 (by rw [c_10_]; decide) (by rw [c_10_]; decide) (by rw [c_10_]; rfl) (by decide) ?_
      refine lv_aload_n hx hb dL_law_347 rfl (lv_at hl 1 rfl) ?_
      refine lv_aload_n hx hb dL_law_348 rfl (lv_at hl 0 rfl) ?_
      refine lv_iload_n hx hb dL_law_349 rfl (lv_at hl 3 rfl) ?_
      refine lv_iconst (v := 1) hx hb dL_law_350 (by decide) ?_
      refine lv_iadd hx hb dL_law_351 ?_
      rw [show nI (4 * t) + 1 = nI (4 * t + 1) from tagA rfl rfl]
      refine va_sld hx hb hX hbl hbA hS (vp_in_nI (by omega) (by omega)) dL_law_352 ?_
      rw [nI_clamp (show 4 * t + 1 < 2 ^ 31 by omega)]
      refine e_ci (e_runV (C := RX5) (ci := 5) (As := [.int (xs (4 * t + 1))]) (rest := []) ⟨hx, hb, hml, hown, hts⟩ (k_X5_channel l D cs b σ (xs (4 * t + 1)) ho) ⟨callB_of 1 hts (gC wC_X5_channel) rfl rfl rfl (hts _ wi_X5) (hts _ wM_L_59) (by decide +kernel) (by decide), hts _ wN_X5_channel, hts _ wS_X5_channel⟩ hK hH (xo_ok (show 0 < xn 0 by decide)).2.2 (Ex_at cs b σ (show 0 < xn 0 by decide)) rfl rfl rfl hl.1 rfl (Nat.le_of_ble_eq_true rfl) dL_law_353 (by decide)) hS (fun H locs hH hS => ?_)
      refine lv_aload_n hx hb dL_law_356 rfl (lv_at hl 2 rfl) ?_
      refine lv_aload_n hx hb dL_law_357 rfl (lv_at hl 0 rfl) ?_
      refine lv_iload_n hx hb dL_law_358 rfl (lv_at hl 3 rfl) ?_
      refine lv_iconst (v := 1) hx hb dL_law_359 (by decide) ?_
      refine lv_iadd hx hb dL_law_360 ?_
      rw [show nI (4 * t) + 1 = nI (4 * t + 1) from tagA rfl rfl]
      refine va_sld hx hb hX hbl hbA hS (vp_in_nI (by omega) (by omega)) dL_law_361 ?_
      rw [nI_clamp (show 4 * t + 1 < 2 ^ 31 by omega)]
      refine e_ci (e_runV (C := RX6) (ci := 6) (As := [.int (xs (4 * t + 1))]) (rest := [.int (f_X5_channel σ (xs (4 * t + 1)))]) ⟨hx, hb, hml, hown, hts⟩ (k_X6_channel l D cs b σ (xs (4 * t + 1)) ) ⟨callB_of 1 hts (gC wC_X6_channel) rfl rfl rfl (hts _ wi_X6) (hts _ wM_L_62) (by decide +kernel) (by decide), hts _ wN_X6_channel, hts _ wS_X6_channel⟩ hK hH (xo_ok (show 0 < xn 13 by decide)).2.2 (Ex_at cs b σ (show 0 < xn 13 by decide)) rfl rfl rfl hl.1 rfl (Nat.le_of_ble_eq_true rfl) dL_law_362 (by decide)) hS (fun H locs hH hS => ?_)
      refine lv_icmp_eq (tgt := 417) hx hb dL_law_365 (by decide) (fun c_ => ?_) (fun c_ => absurd (gF.2.2.2.2.2.1 (xs (4 * t + 1))) c_)
      refine lv_iinc (v := nI (4 * (t + 1))) (lv' := [(3, .int (nI (4 * (t + 1)))), (0, .ref sb), (1, .ref (b + xo 0 0)), (2, .ref (b + xo 13 0))]) hx hb dL_law_417 hl (k := 3) rfl (i4 t) (by decide) rfl (fun ls hl => ?_)
      refine lv_goto (tgt := 18) hx hb dL_law_420 (by decide) ?_
      exact ih (t + 1) σ (by omega) (by omega) hnext _ _ _ hH hS (lv_sub hl [1, 2, 3, 0] rfl)
    by_cases c_11_ : w = 11
    ·
      refine lv_tableIn (off := 338) (tgt := 370) hx hb dL_law_32 (by rw [c_11_]; decide) (by rw [c_11_]; decide) (by rw [c_11_]; rfl) (by decide) ?_
      refine lv_aload_n hx hb dL_law_370 rfl (lv_at hl 1 rfl) ?_
      refine e_ci (e_runV (C := RX5) (ci := 5) (As := []) (rest := []) ⟨hx, hb, hml, hown, hts⟩ (k_X5_messages l D cs b σ  ) ⟨callB_of 0 hts (gC wC_X5_messages) rfl rfl rfl (hts _ wi_X5) (hts _ wM_L_63) (by decide +kernel) (by decide), hts _ wN_X5_messages, hts _ wS_X5_messages⟩ hK hH (xo_ok (show 0 < xn 0 by decide)).2.2 (Ex_at cs b σ (show 0 < xn 0 by decide)) rfl rfl rfl hl.1 rfl (Nat.le_of_ble_eq_true rfl) dL_law_371 (by decide)) hS (fun H locs hH hS => ?_)
      refine lv_aload_n hx hb dL_law_374 rfl (lv_at hl 2 rfl) ?_
      refine e_ci (e_runV (C := RX6) (ci := 6) (As := []) (rest := [.int (f_X5_messages σ)]) ⟨hx, hb, hml, hown, hts⟩ (k_X6_messages l D cs b σ  ) ⟨callB_of 0 hts (gC wC_X6_messages) rfl rfl rfl (hts _ wi_X6) (hts _ wM_L_66) (by decide +kernel) (by decide), hts _ wN_X6_messages, hts _ wS_X6_messages⟩ hK hH (xo_ok (show 0 < xn 13 by decide)).2.2 (Ex_at cs b σ (show 0 < xn 13 by decide)) rfl rfl rfl hl.1 rfl (Nat.le_of_ble_eq_true rfl) dL_law_375 (by decide)) hS (fun H locs hH hS => ?_)
      refine lv_icmp_eq (tgt := 417) hx hb dL_law_378 (by decide) (fun c_ => ?_) (fun c_ => absurd gF.2.2.2.2.2.2.1 c_)
      refine lv_iinc (v := nI (4 * (t + 1))) (lv' := [(3, .int (nI (4 * (t + 1)))), (0, .ref sb), (1, .ref (b + xo 0 0)), (2, .ref (b + xo 13 0))]) hx hb dL_law_417 hl (k := 3) rfl (i4 t) (by decide) rfl (fun ls hl => ?_)
      refine lv_goto (tgt := 18) hx hb dL_law_420 (by decide) ?_
      exact ih (t + 1) σ (by omega) (by omega) hnext _ _ _ hH hS (lv_sub hl [1, 2, 3, 0] rfl)
    by_cases c_12_ : w = 12
    ·
      refine lv_tableIn (off := 351) (tgt := 383) hx hb dL_law_32 (by rw [c_12_]; decide) (by rw [c_12_]; decide) (by rw [c_12_]; rfl) (by decide) ?_
      refine lv_aload_n hx hb dL_law_383 rfl (lv_at hl 1 rfl) ?_
      refine lv_aload_n hx hb dL_law_384 rfl (lv_at hl 0 rfl) ?_
      refine lv_iload_n hx hb dL_law_385 rfl (lv_at hl 3 rfl) ?_
      refine lv_iconst (v := 1) hx hb dL_law_386 (by decide) ?_
      refine lv_iadd hx hb dL_law_387 ?_
      rw [show nI (4 * t) + 1 = nI (4 * t + 1) from tagA rfl rfl]
      refine va_sld hx hb hX hbl hbA hS (vp_in_nI (by omega) (by omega)) dL_law_388 ?_
      rw [nI_clamp (show 4 * t + 1 < 2 ^ 31 by omega)]
      refine lv_aload_n hx hb dL_law_389 rfl (lv_at hl 0 rfl) ?_
      refine lv_iload_n hx hb dL_law_390 rfl (lv_at hl 3 rfl) ?_
      refine lv_iconst (v := 2) hx hb dL_law_391 (by decide) ?_
      refine lv_iadd hx hb dL_law_392 ?_
      rw [show nI (4 * t) + 2 = nI (4 * t + 2) from tagA rfl rfl]
      refine va_sld hx hb hX hbl hbA hS (vp_in_nI (by omega) (by omega)) dL_law_393 ?_
      rw [nI_clamp (show 4 * t + 2 < 2 ^ 31 by omega)]
      refine e_cl (e_runV (C := RX5) (ci := 5) (As := [.int (xs (4 * t + 1)), .int (xs (4 * t + 2))]) (rest := []) ⟨hx, hb, hml, hown, hts⟩ (k_X5_message l D cs b σ (xs (4 * t + 1)) (xs (4 * t + 2)) ) ⟨callB_of 2 hts (gC wC_X5_message) rfl rfl rfl (hts _ wi_X5) (hts _ wM_L_67) (by decide +kernel) (by decide), hts _ wN_X5_message, hts _ wS_X5_message⟩ hK hH (xo_ok (show 0 < xn 0 by decide)).2.2 (Ex_at cs b σ (show 0 < xn 0 by decide)) rfl rfl rfl hl.1 rfl (Nat.le_of_ble_eq_true rfl) dL_law_394 (by decide)) hS (fun H locs hH hS => ?_)
      refine lv_aload_n hx hb dL_law_397 rfl (lv_at hl 2 rfl) ?_
      refine lv_aload_n hx hb dL_law_398 rfl (lv_at hl 0 rfl) ?_
      refine lv_iload_n hx hb dL_law_399 rfl (lv_at hl 3 rfl) ?_
      refine lv_iconst (v := 1) hx hb dL_law_400 (by decide) ?_
      refine lv_iadd hx hb dL_law_401 ?_
      rw [show nI (4 * t) + 1 = nI (4 * t + 1) from tagA rfl rfl]
      refine va_sld hx hb hX hbl hbA hS (vp_in_nI (by omega) (by omega)) dL_law_402 ?_
      rw [nI_clamp (show 4 * t + 1 < 2 ^ 31 by omega)]
      refine lv_aload_n hx hb dL_law_403 rfl (lv_at hl 0 rfl) ?_
      refine lv_iload_n hx hb dL_law_404 rfl (lv_at hl 3 rfl) ?_
      refine lv_iconst (v := 2) hx hb dL_law_405 (by decide) ?_
      refine lv_iadd hx hb dL_law_406 ?_
      rw [show nI (4 * t) + 2 = nI (4 * t + 2) from tagA rfl rfl]
      refine va_sld hx hb hX hbl hbA hS (vp_in_nI (by omega) (by omega)) dL_law_407 ?_
      rw [nI_clamp (show 4 * t + 2 < 2 ^ 31 by omega)]
      refine e_cl (e_runV (C := RX6) (ci := 6) (As := [.int (xs (4 * t + 1)), .int (xs (4 * t + 2))]) (rest := [.long (f_X5_message σ (xs (4 * t + 1)) (xs (4 * t + 2)))]) ⟨hx, hb, hml, hown, hts⟩ (k_X6_message l D cs b σ (xs (4 * t + 1)) (xs (4 * t + 2)) (400 * t) hm.2.2.2.1 (by omega)) ⟨callB_of 2 hts (gC wC_X6_message) rfl rfl rfl (hts _ wi_X6) (hts _ wM_L_70) (by decide +kernel) (by decide), hts _ wN_X6_message, hts _ wS_X6_message⟩ hK hH (xo_ok (show 0 < xn 13 by decide)).2.2 (Ex_at cs b σ (show 0 < xn 13 by decide)) rfl rfl rfl hl.1 rfl (Nat.le_of_ble_eq_true rfl) dL_law_408 (by decide)) hS (fun H locs hH hS => ?_)
      refine W.lcmp hx hb dL_law_411 ?_
      rw [lcmp_eq (gF.2.2.2.2.2.2.2 (xs (4 * t + 1)) (xs (4 * t + 2)))]
      refine lv_if_eq (tgt := 417) hx hb dL_law_412 (by decide) (fun c_ => ?_) (fun c_ => absurd rfl c_)
      refine lv_iinc (v := nI (4 * (t + 1))) (lv' := [(3, .int (nI (4 * (t + 1)))), (0, .ref sb), (1, .ref (b + xo 0 0)), (2, .ref (b + xo 13 0))]) hx hb dL_law_417 hl (k := 3) rfl (i4 t) (by decide) rfl (fun ls hl => ?_)
      refine lv_goto (tgt := 18) hx hb dL_law_420 (by decide) ?_
      exact ih (t + 1) σ (by omega) (by omega) hnext _ _ _ hH hS (lv_sub hl [1, 2, 3, 0] rfl)
    refine lv_tableOut (tgt := 417) hx hb dL_law_32 (by have h0 := ne_i 0 c_0_ (by decide); have h1 := ne_i 1 c_1_ (by decide); have h2 := ne_i 2 c_2_ (by decide); have h3 := ne_i 3 c_3_ (by decide); have h4 := ne_i 4 c_4_ (by decide); have h5 := ne_i 5 c_5_ (by decide); have h6 := ne_i 6 c_6_ (by decide); have h7 := ne_i 7 c_7_ (by decide); have h8 := ne_i 8 c_8_ (by decide); have h9 := ne_i 9 c_9_ (by decide); have h10 := ne_i 10 c_10_ (by decide); have h11 := ne_i 11 c_11_ (by decide); have h12 := ne_i 12 c_12_ (by decide); omega) (by decide) ?_
    refine lv_iinc (v := nI (4 * (t + 1))) (lv' := [(3, .int (nI (4 * (t + 1)))), (0, .ref sb), (1, .ref (b + xo 0 0)), (2, .ref (b + xo 13 0))]) hx hb dL_law_417 hl (k := 3) rfl (i4 t) (by decide) rfl (fun ls hl => ?_)
    refine lv_goto (tgt := 18) hx hb dL_law_420 (by decide) ?_
    exact ih (t + 1) σ (by omega) (by omega) hnext _ _ _ hH hS (lv_sub hl [1, 2, 3, 0] rfl)
