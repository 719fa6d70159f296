/-! START, RESET -/
theorem SA_start {B : Nat} {x y z : Int32} {α β : St} (h : Sim B α β) : SA (f_X5_startLeastFree α x y z).2 (f_X6_begin β x y z).2 := by
  obtain ⟨l1, l2⟩ := lf_spec h.1 (x := x) (y := y) (z := z) 9 0 (by decide) (by decide)
  unfold f_X5_startLeastFree f_X6_begin
  cases hq : f_X5_leastFree α with
  | none =>
    have e8 := l2 hq
    rw [e8, oC_none, if_pos (show nI 8 = 8 from rfl)]
    exact h.2
  | some q =>
    obtain ⟨e1, e2, e3⟩ := l1 q hq
    rw [e1, oC_some, if_neg (show ¬ nI q = 8 from fun e => absurd ((nI_eq (by omega) (by decide)).mp (show nI q = nI 8 from e)) (by omega))]
    have hb := (bx_all (q := q) (x := x) (y := y) (z := z) (α := α))
    have h2 : ∀ p, gI (f_X2_begin α q x y z) 5 p 2 = gI α 5 p 2 := fun p => by rw [hb.2, if_neg (by omega), if_neg (by omega)]
    have h9 : ∀ p, gI (f_X2_begin α q x y z) 5 p 9 = gI α 5 p 9 := fun p => by rw [hb.2, if_neg (by omega), if_neg (by omega)]
    have hS : SA (f_X2_begin α q x y z) (bM β q x y z) := by
      intro p hp
      rw [h2, h9, hb.1, bm_all, if_neg (by omega), if_neg (by omega), if_neg (by omega)]
      exact h.2 p hp
    exact SA_ready hS (by rw [h2, e3]; decide)
theorem start_full {B N : Nat} {x y z : Int32} {α β : St} (hB : B + 1 < 2 ^ 30) (h : Sim B α β) (ho : ok α) (hm : okM N β) : (f_X5_start α x y z).1 = (f_X6_start β x y z).1 ∧ Sim (B + 1) (f_X5_start α x y z).2 (f_X6_start β x y z).2 ∧ ok (f_X5_start α x y z).2 ∧ okM N (f_X6_start β x y z).2 := by
  have hno : (((-1 : Int32), α).1 = ((-1 : Int32), β).1 ∧ Sim (B + 1) ((-1 : Int32), α).2 ((-1 : Int32), β).2 ∧ ok ((-1 : Int32), α).2 ∧ okM N ((-1 : Int32), β).2) := ⟨rfl, Sim_mono (by omega) h, ho, hm⟩
  unfold f_X5_start f_X6_start
  by_cases hx : x = 0 ∨ x = 1
  · have hx1 : f_X5_isPriority α x = 1 := by
      unfold f_X5_isPriority
      rcases hx with rfl | rfl
      · rw [if_pos rfl]
      · rw [if_neg (by decide), if_pos rfl]
    have hx2 : f_X6_within β x 0 1 = 1 := by
      rcases hx with rfl | rfl
      · exact within1 (by decide) (by decide)
      · exact within1 (by decide) (by decide)
    rw [hx1, hx2, if_neg (show ¬ (1 : Int32) = 0 by decide), if_neg (show ¬ (1 : Int32) = 0 by decide)]
    by_cases h0 : y < 0
    · rw [if_pos h0, withinL h0, if_pos rfl]; exact hno
    · rw [if_neg h0]
      obtain ⟨k, hk, rfl⟩ := nI_of h0
      by_cases h4 : k < 40
      · rw [if_pos (show nI k < 40 from nI_lt (b := 40) h4 (by decide)), within1 h0 (show ¬ 39 < nI k from nI_nlt (a := 39) (by omega) (by decide)), if_neg (show ¬ (1 : Int32) = 0 by decide)]
        obtain ⟨a1, a2⟩ := start_sim (y := nI k) (z := z) h.1 (by omega) hx
        have a3 := SA_start (x := x) (y := nI k) (z := z) h
        have a4 := ok_start (x := x) (y := nI k) (z := z) ho
        have a5 := okM_begin (x := x) (y := nI k) (z := z) rfl (by omega) hm
        have a6 := fun q => begin_lt (x := x) (y := nI k) (z := z) (σ := β) (q := q)
        rw [a1]
        cases hq : (f_X6_begin β x (nI k) z).1 with
        | none =>
          rw [oC_none, if_pos (show oI none = -1 from rfl)]
          exact ⟨rfl, ⟨a2, a3⟩, a4, a5⟩
        | some q =>
          have hq8 := a6 q hq
          rw [oC_some, if_neg (show ¬ oI (some q) = -1 from fun e => nI_pos (n := q) (by omega) (by rw [show nI q = -1 from e]; decide))]
          exact ⟨rfl, ⟨a2, a3⟩, a4, a5⟩
      · rw [if_neg (show ¬ nI k < 40 from nI_nlt (b := 40) (by omega) hk), withinR h0 (show 39 < nI k from nI_lt (a := 39) (by omega) hk), if_pos rfl]
        exact hno
  · have hx1 : f_X5_isPriority α x = 0 := by
      unfold f_X5_isPriority
      rw [if_neg (fun e => hx (Or.inl e)), if_neg (fun e => hx (Or.inr e))]
    have hx2 : f_X6_within β x 0 1 = 0 := by
      by_cases h0 : x < 0
      · exact withinL h0
      · obtain ⟨k, hk, rfl⟩ := nI_of h0
        refine withinR h0 (show 1 < nI k from nI_lt (a := 1) ?_ hk)
        rcases (show k = 0 ∨ k = 1 ∨ 1 < k by omega) with rfl | rfl | q
        · exact absurd (Or.inl rfl) hx
        · exact absurd (Or.inr rfl) hx
        · exact q
    rw [hx1, hx2, if_pos rfl, if_pos rfl]
    exact hno
theorem g_start {t : Nat} {σ : St} (ht : t < 512) (h : Inv t σ) : G_start Inv t σ := by
  intro x y z
  have e1 : eqM σ (f_X5_start σ x y z).2 := cl_start' (cl_eqM σ) (eqM_refl σ)
  obtain ⟨r1, r2, r3, r4⟩ := start_full (x := x) (y := y) (z := z) (N := 400 * t) (B := 5000 * t) (by omega) (Sim_eqM e1 h.1) h.2.1 (okM_eqM e1 h.2.2)
  exact ⟨r1, Inv_of h e1 (cm_start (cm_eqX _) (eqX_refl _)) (fun _ _ => ⟨Sim_mono (by omega) r2, r3, okM_mono (by omega) r4⟩)⟩
theorem rs0 : ∀ (n : Nat) (σ : St) (j : Nat), 8 < j + n → j ≤ 8 → gR (lp_X5_reset_2 n σ j) = gR σ ∧ ∀ g i k, gI (lp_X5_reset_2 n σ j) g i k = if g = 5 ∧ j ≤ i ∧ i < 8 ∧ k = 2 then 0 else gI σ g i k := by
  intro n
  induction n with
  | zero => intro σ j h1 h2; omega
  | succ n ih =>
    intro σ j hf hj
    unfold lp_X5_reset_2
    by_cases hc : 8 ≤ nI j
    · rw [if_pos hc]
      have : ¬ j < 8 := fun q => nI_ge (b := 8) q (by decide) hc
      exact ⟨rfl, fun g i k => by rw [if_neg (by omega)]⟩
    · rw [if_neg hc]
      have hj8 := ngt_8 (j := j) (by omega) 8 (by decide) hc
      obtain ⟨i1, i2⟩ := ih (sI σ 5 j 2 0) (j + 1) (by omega) (by omega)
      refine ⟨i1, fun g i k => ?_⟩
      rw [i2, gI_sI]
      by_cases h1 : g = 5 ∧ j ≤ i ∧ i < 8 ∧ k = 2
      · rw [if_pos h1]
        by_cases h2 : i = j
        · rw [if_neg (by omega), if_pos (by omega)]
        · rw [if_pos (by omega)]
      · rw [if_neg h1, if_neg (by omega), if_neg (by omega)]
theorem rs1 : ∀ (n : Nat) (σ : St) (j : Nat), 4 < j + n → j ≤ 4 → (∀ g i k, gR (lp_X5_reset_26 n σ j) g i k = if g = 8 ∧ j ≤ i ∧ i < 4 ∧ k = 1 then none else gR σ g i k) ∧ ∀ g i k, g ≠ 8 → gI (lp_X5_reset_26 n σ j) g i k = gI σ g i k := by
  intro n
  induction n with
  | zero => intro σ j h1 h2; omega
  | succ n ih =>
    intro σ j hf hj
    unfold lp_X5_reset_26
    by_cases hc : 4 ≤ nI j
    · rw [if_pos hc]
      have : ¬ j < 4 := fun q => nI_ge (b := 4) q (by decide) hc
      exact ⟨fun g i k => by rw [if_neg (by omega)], fun g i k _ => rfl⟩
    · rw [if_neg hc]
      have hj8 := ngt_8 (j := j) (by omega) 4 (by decide) hc
      obtain ⟨i1, i2⟩ := ih (f_X0_clear σ j) (j + 1) (by omega) (by omega)
      refine ⟨fun g i k => ?_, fun g i k hg => ?_⟩
      · rw [i1]
        show (if g = 8 ∧ j + 1 ≤ i ∧ i < 4 ∧ k = 1 then none else gR (sR σ 8 j 1 none) g i k) = _
        rw [gR_sR]
        by_cases h1 : g = 8 ∧ j ≤ i ∧ i < 4 ∧ k = 1
        · rw [if_pos h1]
          by_cases h2 : i = j
          · rw [if_neg (by omega), if_pos (by omega)]
          · rw [if_pos (by omega)]
        · rw [if_neg h1, if_neg (by omega), if_neg (by omega)]
      · rw [i2 g i k hg]
        unfold f_X0_clear
        rw [gI_sI, if_neg (by omega), gI_sI, if_neg (by omega), gI_sR]
theorem rsm0 : ∀ (n : Nat) (σ : St) (j : Nat), 8 < j + n → j ≤ 8 → ∀ g i k, gI (lp_X6_reset_2 n σ j) g i k = if g = 15 ∧ i = 0 ∧ j ≤ k ∧ k < 8 then 0 else gI σ g i k := by
  intro n
  induction n with
  | zero => intro σ j h1 h2; omega
  | succ n ih =>
    intro σ j hf hj g i k
    unfold lp_X6_reset_2
    by_cases hc : 8 ≤ nI j
    · rw [if_pos hc]
      have : ¬ j < 8 := fun q => nI_ge (b := 8) q (by decide) hc
      rw [if_neg (by omega)]
    · rw [if_neg hc]
      have hj8 := ngt_8 (j := j) (by omega) 8 (by decide) hc
      rw [ih (sI σ 15 0 j 0) (j + 1) (by omega) (by omega), gI_sI]
      by_cases h1 : g = 15 ∧ i = 0 ∧ j ≤ k ∧ k < 8
      · rw [if_pos h1]
        by_cases h2 : k = j
        · rw [if_neg (by omega), if_pos (by omega)]
        · rw [if_pos (by omega)]
      · rw [if_neg h1, if_neg (by omega), if_neg (by omega)]
theorem rsm1 : ∀ (n : Nat) (σ : St) (j : Nat), 4 < j + n → j ≤ 4 → ∀ g i k, gI (lp_X6_reset_23 n σ j) g i k = if g = 22 ∧ i = 0 ∧ j ≤ k ∧ k < 4 then 0 else gI σ g i k := by
  intro n
  induction n with
  | zero => intro σ j h1 h2; omega
  | succ n ih =>
    intro σ j hf hj g i k
    unfold lp_X6_reset_23
    by_cases hc : 4 ≤ nI j
    · rw [if_pos hc]
      have : ¬ j < 4 := fun q => nI_ge (b := 4) q (by decide) hc
      rw [if_neg (by omega)]
    · rw [if_neg hc]
      have hj8 := ngt_8 (j := j) (by omega) 4 (by decide) hc
      rw [ih (sI σ 22 0 j 0) (j + 1) (by omega) (by omega), gI_sI]
      by_cases h1 : g = 22 ∧ i = 0 ∧ j ≤ k ∧ k < 4
      · rw [if_pos h1]
        by_cases h2 : k = j
        · rw [if_neg (by omega), if_pos (by omega)]
        · rw [if_pos (by omega)]
      · rw [if_neg h1, if_neg (by omega), if_neg (by omega)]
theorem ok_rs0 : ∀ (n : Nat) (σ : St) (j : Nat), ok σ → ok (lp_X5_reset_2 n σ j) := by
  intro n
  induction n with
  | zero => intro σ j h; exact h
  | succ n ih =>
    intro σ j h
    unfold lp_X5_reset_2
    exact c_ite h (ih _ _ (ok_sI (by decide) h))
theorem ok_rs1 : ∀ (n : Nat) (σ : St) (j : Nat), ok σ → ok (lp_X5_reset_26 n σ j) := by
  intro n
  induction n with
  | zero => intro σ j h; exact h
  | succ n ih =>
    intro σ j h
    unfold lp_X5_reset_26
    exact c_ite h (ih _ _ (ok_clear h))
theorem ok_reset {σ : St} (h : ok σ) : ok (f_X5_reset σ) := ok_sR none_lt (ok_size (z := 0) rfl (by decide) (ok_size (z := 0) rfl (by decide) (ok_rs1 _ _ _ (ok_rs0 _ _ _ h))))
theorem okM_rm0 {N : Nat} : ∀ (n : Nat) (σ : St) (j : Nat), okM N σ → okM N (lp_X6_reset_2 n σ j) := by
  intro n
  induction n with
  | zero => intro σ j h; exact h
  | succ n ih =>
    intro σ j h
    unfold lp_X6_reset_2
    exact c_ite h (ih _ _ (okM_sI (by omega) h))
theorem okM_rm1 {N : Nat} : ∀ (n : Nat) (σ : St) (j : Nat), okM N σ → okM N (lp_X6_reset_23 n σ j) := by
  intro n
  induction n with
  | zero => intro σ j h; exact h
  | succ n ih =>
    intro σ j h
    unfold lp_X6_reset_23
    exact c_ite h (ih _ _ (okM_ch (a := 0) rfl (by decide) h))
theorem okM_reset {N : Nat} {σ : St} (h : okM N σ) : okM N (f_X6_reset σ) := okM_rm1 _ _ _ (okM_rm0 _ _ _ h)
theorem resetX (α : St) : (∀ g i k, gR (f_X5_reset α) g i k = if g = 0 ∧ i = 0 ∧ k = 6 then none else if g = 8 ∧ i < 4 ∧ k = 1 then none else gR α g i k) ∧ ∀ g i k, g ≠ 8 → gI (f_X5_reset α) g i k = if g = 9 ∧ i < 2 ∧ k = 1 then 0 else if g = 5 ∧ i < 8 ∧ k = 2 then 0 else gI α g i k := by
  obtain ⟨a1, a2⟩ := rs0 9 α 0 (by decide) (by decide)
  obtain ⟨b1, b2⟩ := rs1 5 (lp_X5_reset_2 9 α 0) 0 (by decide) (by decide)
  unfold f_X5_reset f_X4_clear
  refine ⟨fun g i k => ?_, fun g i k hg => ?_⟩
  · rw [gR_sR, gR_sI, gR_sI, b1, a1]
    by_cases h1 : g = 8 ∧ i < 4 ∧ k = 1
    · rw [if_pos h1, if_pos (show g = 8 ∧ 0 ≤ i ∧ i < 4 ∧ k = 1 by omega)]
    · rw [if_neg h1, if_neg (show ¬ (g = 8 ∧ 0 ≤ i ∧ i < 4 ∧ k = 1) by omega)]
  · rw [gI_sR, gI_sI, gI_sI, b2 g i k hg, a2]
    by_cases h1 : g = 9 ∧ i < 2 ∧ k = 1
    · rw [if_pos h1]
      by_cases h2 : i = 1
      · rw [if_pos (by omega)]
      · rw [if_neg (by omega), if_pos (by omega)]
    · rw [if_neg h1, if_neg (by omega), if_neg (by omega)]
      by_cases h3 : g = 5 ∧ i < 8 ∧ k = 2
      · rw [if_pos h3, if_pos (by omega)]
      · rw [if_neg h3, if_neg (by omega)]
theorem resetM (β : St) : ∀ g i k, gI (f_X6_reset β) g i k = if g = 22 ∧ i = 0 ∧ k < 4 then 0 else if g = 15 ∧ i = 0 ∧ k < 8 then 0 else gI β g i k := by
  intro g i k
  unfold f_X6_reset
  rw [rsm1 5 _ 0 (by decide) (by decide), rsm0 9 _ 0 (by decide) (by decide)]
  by_cases h1 : g = 22 ∧ i = 0 ∧ k < 4
  · rw [if_pos h1, if_pos (by omega)]
  · rw [if_neg h1, if_neg (by omega)]
    by_cases h2 : g = 15 ∧ i = 0 ∧ k < 8
    · rw [if_pos h2, if_pos (by omega)]
    · rw [if_neg h2, if_neg (by omega)]
theorem reset_sim {B : Nat} {α β : St} (h : Sim B α β) : Sim B (f_X5_reset α) (f_X6_reset β) := by
  obtain ⟨xR, xI⟩ := resetX α
  have mI := resetM β
  generalize f_X5_reset α = A at xR xI ⊢
  generalize f_X6_reset β = C at mI ⊢
  obtain ⟨⟨hP, ⟨g1, g2, g3, g4, g5⟩, hC, hR1, hR2, hR3⟩, hA⟩ := h
  have s2 : ∀ p, p < 8 → gI A 5 p 2 = 0 := fun p hp => by rw [xI _ _ _ (by decide), if_neg (by omega), if_pos ⟨rfl, hp, rfl⟩]
  have s15 : ∀ p, p < 8 → gI C 15 0 p = 0 := fun p hp => by rw [mI, if_neg (by omega), if_pos ⟨rfl, rfl, hp⟩]
  have f5 : ∀ p k, k ≠ 2 → gI A 5 p k = gI α 5 p k := fun p k hk => by rw [xI _ _ _ (by decide), if_neg (by omega), if_neg (by omega)]
  have fx : ∀ g i k, g ≠ 5 → g ≠ 8 → g ≠ 9 → gI A g i k = gI α g i k := fun g i k h5 h8 h9 => by rw [xI _ _ _ h8, if_neg (by omega), if_neg (by omega)]
  have fm : ∀ g i k, g ≠ 22 → g ≠ 15 → gI C g i k = gI β g i k := fun g i k h5 h8 => by rw [mI, if_neg (by omega), if_neg (by omega)]
  have fr : ∀ k, k < 4 → gR A 8 k 1 = none := fun k hk => by rw [xR, if_neg (by omega), if_pos ⟨rfl, hk, rfl⟩]
  have fa : gR A 0 0 6 = none := by rw [xR, if_pos ⟨rfl, rfl, rfl⟩]
  refine ⟨⟨fun p hp => ?_, ⟨?_, ?_, fun i hi => ?_, ?_, fun i hi => ?_⟩, fun k hk => ?_, fun r hr => ?_, fun p hp h1 => ?_, ?_⟩, fun p hp => ?_⟩
  · obtain ⟨a1, a2, a3, a4, a5, a6, a7, a8, a9⟩ := hP p hp
    refine ⟨by rw [s2 p hp, s15 p hp], ?_, fun e => absurd (s2 p hp) e, ?_, ?_, ?_, fun k hk => ?_, ?_, fun e => ?_⟩
    · rw [f5 _ _ (by decide), fm _ _ _ (by decide) (by decide)]; exact a2
    · rw [f5 _ _ (by decide), fm _ _ _ (by decide) (by decide)]; exact a4
    · rw [f5 _ _ (by decide), fm _ _ _ (by decide) (by decide)]; exact a5
    · rw [f5 _ _ (by decide), fm _ _ _ (by decide) (by decide)]; exact a6
    · rw [fx _ _ _ (by decide) (by decide) (by decide), fm _ _ _ (by decide) (by decide)]; exact a7 k hk
    · rw [f5 _ _ (by decide)]; exact a8
    · rw [s2 p hp] at e; exact absurd e (by decide)
  · rw [fx _ _ _ (by decide) (by decide) (by decide), fm _ _ _ (by decide) (by decide)]; exact g1
  · rw [fx _ _ _ (by decide) (by decide) (by decide), fm _ _ _ (by decide) (by decide)]; exact g2
  · rw [fx _ _ _ (by decide) (by decide) (by decide), fx _ _ _ (by decide) (by decide) (by decide), fm _ _ _ (by decide) (by decide), fm _ _ _ (by decide) (by decide)]; exact g3 i hi
  · rw [fx _ _ _ (by decide) (by decide) (by decide), fm _ _ _ (by decide) (by decide)]; exact g4
  · rw [fx _ _ _ (by decide) (by decide) (by decide), fm _ _ _ (by decide) (by decide)]; exact g5 i hi
  · refine ⟨?_, fun p hp => ?_, fun k' p hk' hp => ?_⟩
    · rw [code_none (fr k hk), mI, if_pos ⟨rfl, rfl, hk⟩]
    · rw [fr k hk] at hp; cases hp
    · rw [fr k hk] at hp; cases hp
  · have e9 : gI A 9 r 1 = nI 0 := by rw [xI _ _ _ (by decide), if_pos ⟨rfl, hr, rfl⟩]; rfl
    have ez : zN A r = 0 := zN_of e9 (by decide)
    have el : rowL A r = [] := List.eq_nil_of_length_eq_zero (by rw [rowL_len, ez])
    refine ⟨⟨⟨by rw [ez]; exact e9, by rw [ez]; decide, fun j p hp => ?_⟩, fun j hj => ?_⟩, ?_⟩
    · rw [xR, if_neg (by omega), if_neg (by omega)] at hp
      exact (hR1 r hr).1.1.2.2 j p hp
    · rw [ez] at hj; omega
    · rw [el]
      refine ⟨List.Pairwise.nil, fun p => ⟨fun hp => (by cases hp), fun hp => ?_⟩⟩
      have := hp.2.1
      rw [s15 p hp.1] at this
      exact absurd this (by decide)
  · rw [s15 p hp] at h1; exact absurd h1 (by decide)
  · unfold fst lst at *
    rw [fm _ _ _ (by decide) (by decide), fm _ _ _ (by decide) (by decide)]
    exact hR3
  · rw [s2 p hp, fa]
    exact ⟨⟨fun e => absurd e (by decide), fun e => by cases e⟩, fun e => by cases e⟩
theorem g_reset {t : Nat} {σ : St} (h : Inv t σ) : G_reset Inv t σ := by
  refine Inv_of (σ1 := f_X5_reset σ) h (cl_reset (cl_eqM σ) (eqM_refl σ)) (cm_reset (cm_eqX _) (eqX_refl _)) (fun a b => ⟨Sim_mono (by omega) (reset_sim a), ok_reset h.2.1, okM_mono (by omega) (okM_reset b)⟩)
