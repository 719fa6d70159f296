theorem bx_loop {q : Nat} {x y z : Int32} : ∀ (n : Nat) (σ : St) (j : Nat), 4 < j + n → j ≤ 4 → gR (lp_X2_begin_28 q x y z n σ j) = gR σ ∧ ∀ g i k, gI (lp_X2_begin_28 q x y z n σ j) g i k = if g = 6 ∧ i = q ∧ j ≤ k ∧ k < 4 then 0 else gI σ g i k := by
  intro n
  induction n with
  | zero => intro σ j h h2; omega
  | succ n ih =>
    intro σ j hf hj
    unfold lp_X2_begin_28
    split
    · rename_i c
      have : j = 4 := by
        rcases Nat.lt_or_ge j 4 with w | w
        · exact absurd c (nI_ge w (by decide))
        · omega
      exact ⟨rfl, fun g i k => by rw [if_neg (by omega)]⟩
    · rename_i c
      have hj4 := ngt_8 (j := j) (by omega) 4 (by decide) c
      obtain ⟨e1, e2⟩ := ih (sI σ 6 q j 0) (j + 1) (by omega) (by omega)
      refine ⟨e1, fun g i k => ?_⟩
      rw [e2, gI_sI]
      by_cases h : g = 6 ∧ i = q ∧ j ≤ k ∧ k < 4
      · rw [if_pos h]
        by_cases h2 : k = j
        · rw [if_neg (by omega), if_pos ⟨h.1, h.2.1, h2⟩]
        · rw [if_pos (by omega)]
      · rw [if_neg h, if_neg (by omega), if_neg (by omega)]
theorem bx_all {q : Nat} {x y z : Int32} {α : St} : gR (f_X2_begin α q x y z) = gR α ∧ ∀ g i k, gI (f_X2_begin α q x y z) g i k = if g = 6 ∧ i = q ∧ k < 4 then 0 else if g = 5 ∧ i = q ∧ 3 ≤ k ∧ k ≤ 7 then (if k = 3 then x else if k = 4 then y else if k = 5 then z else 0) else gI α g i k := by
  obtain ⟨e1, e2⟩ := bx_loop (q := q) (x := x) (y := y) (z := z) 5 (sI (sI (sI (sI (sI α 5 q 3 x) 5 q 4 y) 5 q 5 z) 5 q 6 0) 5 q 7 0) 0 (by decide) (by decide)
  refine ⟨e1, fun g i k => ?_⟩
  unfold f_X2_begin
  rw [e2]
  by_cases h : g = 6 ∧ i = q ∧ k < 4
  · rw [if_pos h, if_pos (by omega)]
  · rw [if_neg h, if_neg (by omega)]
    simp only [gI_sI]
    by_cases h5 : g = 5 ∧ i = q ∧ 3 ≤ k ∧ k ≤ 7
    · rw [if_pos h5]
      obtain ⟨rfl, rfl, h3, h7⟩ := h5
      rcases (show k = 3 ∨ k = 4 ∨ k = 5 ∨ k = 6 ∨ k = 7 by omega) with rfl | rfl | rfl | rfl | rfl <;> simp
    · rw [if_neg h5, if_neg (by omega), if_neg (by omega), if_neg (by omega), if_neg (by omega), if_neg (by omega)]
theorem bm_loop {q : Nat} {x y z : Int32} : ∀ (n : Nat) (σ : St) (j : Nat), 7 < j + n → j ≤ 7 → ∀ g i k, gI (lp_X6_begin_54 x y z n σ q j) g i k = if g = 18 ∧ i = 0 ∧ 7 * q + j ≤ k ∧ k < 7 * q + 7 then 0 else gI σ g i k := by
  intro n
  induction n with
  | zero => intro σ j h h2; omega
  | succ n ih =>
    intro σ j hf hj g i k
    unfold lp_X6_begin_54
    split
    · rename_i c
      have : j = 7 := by
        rcases Nat.lt_or_ge j 7 with w | w
        · exact absurd c (nI_ge w (by decide))
        · omega
      rw [if_neg (by omega)]
    · rename_i c
      have hj7 := ngt_8 (j := j) (by omega) 7 (by decide) c
      rw [ih (sI σ 18 0 (7 * q + j) 0) (j + 1) (by omega) (by omega), gI_sI]
      by_cases h : g = 18 ∧ i = 0 ∧ 7 * q + j ≤ k ∧ k < 7 * q + 7
      · rw [if_pos h]
        by_cases h2 : k = 7 * q + j
        · rw [if_neg (by omega), if_pos ⟨h.1, h.2.1, h2⟩]
        · rw [if_pos (by omega)]
      · rw [if_neg h, if_neg (by omega), if_neg (by omega)]
def bM (β : St) (q : Nat) (x y z : Int32) : St := sI (lp_X6_begin_54 x y z 8 (sI (sI β 16 0 q x) 17 0 q y) q 0) 18 0 (7 * q) z
theorem bm_all {q : Nat} {x y z : Int32} {β : St} : ∀ g i k, gI (bM β q x y z) g i k = if g = 18 ∧ i = 0 ∧ 7 * q ≤ k ∧ k < 7 * q + 7 then (if k = 7 * q then z else 0) else if g = 16 ∧ i = 0 ∧ k = q then x else if g = 17 ∧ i = 0 ∧ k = q then y else gI β g i k := by
  intro g i k
  unfold bM
  rw [gI_sI, bm_loop (q := q) 8 _ 0 (by decide) (by decide), gI_sI, gI_sI]
  by_cases h : g = 18 ∧ i = 0 ∧ 7 * q ≤ k ∧ k < 7 * q + 7
  · rw [if_pos h]
    by_cases h2 : k = 7 * q
    · rw [if_pos ⟨h.1, h.2.1, h2⟩, if_pos h2]
    · rw [if_neg (by omega), if_neg h2, if_pos (by omega)]
  · rw [if_neg h, if_neg (by omega), if_neg (by omega)]
    by_cases h6 : g = 16 ∧ i = 0 ∧ k = q
    · rw [if_neg (show ¬ (g = 17 ∧ i = 0 ∧ k = q) by omega), if_pos h6, if_pos h6]
    · rw [if_neg h6, if_neg h6]
theorem S0_begin {B q : Nat} {x y z : Int32} {α β : St} (h : S0 B α β) (hq : q < 8) (hs : gI α 5 q 2 = 0) (hx : x = 0 ∨ x = 1) : S0 B (f_X2_begin α q x y z) (bM β q x y z) := by
  obtain ⟨bR, bI⟩ := bx_all (q := q) (x := x) (y := y) (z := z) (α := α)
  have bN := bm_all (q := q) (x := x) (y := y) (z := z) (β := β)
  generalize f_X2_begin α q x y z = α1 at bR bI ⊢
  generalize bM β q x y z = β1 at bN ⊢
  obtain ⟨hP, ⟨g1, g2, g3, g4, g5⟩, hC, hR1, hR2, hR3⟩ := h
  have hsβ : gI β 15 0 q = 0 := by rw [← (hP q hq).1]; exact hs
  have b15 : ∀ p, gI β1 15 0 p = gI β 15 0 p := fun p => by rw [bN, if_neg (by omega), if_neg (by omega), if_neg (by omega)]
  have b19 : ∀ p, gI β1 19 0 p = gI β 19 0 p := fun p => by rw [bN, if_neg (by omega), if_neg (by omega), if_neg (by omega)]
  have b13 : ∀ k, gI β1 13 0 k = gI β 13 0 k := fun k => by rw [bN, if_neg (by omega), if_neg (by omega), if_neg (by omega)]
  have b16 : ∀ p, gI β1 16 0 p = if p = q then x else gI β 16 0 p := fun p => by
    rw [bN, if_neg (by omega)]
    by_cases hp : p = q
    · rw [if_pos ⟨rfl, rfl, hp⟩, if_pos hp]
    · rw [if_neg (by omega), if_neg (by omega), if_neg hp]
  refine ⟨fun p hp => ?_, ⟨?_, ?_, fun i hi => ⟨?_, ?_⟩, ?_, fun i hi => ?_⟩, ?_, fun r hr => ?_, fun p hp h1 => ?_, ?_⟩
  · obtain ⟨a1, a2, a3, a4, a5, a6, a7, a8, a9⟩ := hP p hp
    by_cases hpq : p = q
    · subst hpq
      have eA3 : gI α1 5 p 3 = x := by rw [bI, if_neg (by omega), if_pos (by omega), if_pos rfl]
      have eA4 : gI α1 5 p 4 = y := by rw [bI, if_neg (by omega), if_pos (by omega), if_neg (by omega), if_pos rfl]
      have eA5 : gI α1 5 p 5 = z := by rw [bI, if_neg (by omega), if_pos (by omega), if_neg (by omega), if_neg (by omega), if_pos rfl]
      have eA6 : gI α1 5 p 6 = 0 := by rw [bI, if_neg (by omega), if_pos (by omega), if_neg (by omega), if_neg (by omega), if_neg (by omega)]
      have eA7 : gI α1 5 p 7 = 0 := by rw [bI, if_neg (by omega), if_pos (by omega), if_neg (by omega), if_neg (by omega), if_neg (by omega)]
      have eA2 : gI α1 5 p 2 = gI α 5 p 2 := by rw [bI, if_neg (by omega), if_neg (by omega)]
      have eB17 : gI β1 17 0 p = y := by rw [bN, if_neg (by omega), if_neg (by omega), if_pos ⟨rfl, rfl, rfl⟩]
      have eB0 : gI β1 18 0 (7 * p) = z := by rw [bN, if_pos (by omega), if_pos rfl]
      have eBc : ∀ c, 1 ≤ c → c < 7 → gI β1 18 0 (7 * p + c) = 0 := fun c h1 h2 => by rw [bN, if_pos (by omega), if_neg (by omega)]
      refine ⟨by rw [eA2, b15]; exact a1, by rw [eA3, b16, if_pos rfl], fun _ => by rw [eA4, eB17], by rw [eA5, eB0], by rw [eA6, eBc 1 (by decide) (by decide)], by rw [eA7, eBc 2 (by decide) (by decide)], fun k hk => ?_, by rw [eA3]; exact hx, ?_⟩
      · rw [bI, if_pos ⟨rfl, rfl, hk⟩, Nat.add_assoc, eBc (3 + k) (by omega) (by omega)]
      · rw [eA2, hs]
        exact fun e => absurd e (by decide)
    · have eX : ∀ k, gI α1 5 p k = gI α 5 p k := fun k => by rw [bI, if_neg (by omega), if_neg (by omega)]
      have e18 : ∀ c, c < 7 → gI β1 18 0 (7 * p + c) = gI β 18 0 (7 * p + c) := fun c hc => by rw [bN, if_neg (by omega), if_neg (by omega), if_neg (by omega)]
      refine ⟨by rw [eX, b15]; exact a1, by rw [eX, b16, if_neg hpq]; exact a2, ?_, by rw [eX]; exact a4.trans (e18 0 (by decide)).symm, by rw [eX, e18 1 (by decide)]; exact a5, by rw [eX, e18 2 (by decide)]; exact a6, fun k hk => ?_, by rw [eX]; exact a8, ?_⟩
      · rw [eX, eX, bN, if_neg (by omega), if_neg (by omega), if_neg (by omega)]; exact a3
      · rw [bI, if_neg (by omega), if_neg (by omega), Nat.add_assoc, e18 (3 + k) (by omega), ← Nat.add_assoc]; exact a7 k hk
      · rw [eX, eX, bN, if_neg (by omega), if_neg (by omega), if_neg (by omega)]; exact a9
  · rw [bI, if_neg (by omega), if_neg (by omega), b13]; exact g1
  · rw [bI, if_neg (by omega), if_neg (by omega), b13]; exact g2
  · rw [bI, if_neg (by omega), if_neg (by omega), bN, if_neg (by omega), if_neg (by omega), if_neg (by omega)]; exact (g3 i hi).1
  · rw [bI, if_neg (by omega), if_neg (by omega), bN, if_neg (by omega), if_neg (by omega), if_neg (by omega)]; exact (g3 i hi).2
  · rw [bI, if_neg (by omega), if_neg (by omega), b13]; exact g4
  · rw [bI, if_neg (by omega), if_neg (by omega), bN, if_neg (by omega), if_neg (by omega), if_neg (by omega)]; exact g5 i hi
  · exact SC_congr hC (fun p _ => by rw [bI, if_neg (by omega), if_neg (by omega)]) (fun k => by rw [bR]) (fun k => by rw [bI, if_neg (by omega), if_neg (by omega)]) (fun k => by rw [bI, if_neg (by omega), if_neg (by omega)]) (fun k => by rw [bN, if_neg (by omega), if_neg (by omega), if_neg (by omega)]) (fun k => by rw [bN, if_neg (by omega), if_neg (by omega), if_neg (by omega)])
  · have ho := wf_other (α1 := α1) (r' := r) (by rw [bI, if_neg (by omega), if_neg (by omega)]) (fun j => by rw [bR]) (hR1 r hr).1
    refine ⟨ho.1, ?_⟩
    rw [ho.2]
    have hrw := (hR1 r hr).2
    have hrk : ∀ p, rk β1 p = rk β p := fun p => by unfold rk; rw [b19]
    refine ⟨hrw.1.imp (fun {a b} hab => by rw [hrk, hrk]; exact hab), fun p => ?_⟩
    rw [b15, b16, hrw.2 p]
    by_cases hpq : p = q
    · subst hpq
      rw [hsβ]
      exact ⟨fun z => absurd z.2.1 (by decide), fun z => absurd z.2.1 (by decide)⟩
    · rw [if_neg hpq]
  · rw [b15] at h1
    unfold fst lst rk
    rw [b13, b13, b19]
    exact hR2 p hp h1
  · unfold fst lst
    rw [b13, b13]
    exact hR3
theorem lf_spec {B : Nat} {α β : St} (h : S0 B α β) {x y z : Int32} : ∀ (n j : Nat), 8 < j + n → j ≤ 8 → (∀ q, lp_X5_leastFree_2 n α j = some q → lp_X6_begin_3 x y z n β j = q ∧ q < 8 ∧ gI α 5 q 2 = 0) ∧ (lp_X5_leastFree_2 n α j = none → lp_X6_begin_3 x y z n β j = 8) := by
  intro n
  induction n with
  | zero => intro j h1 h2; omega
  | succ n ih =>
    intro j hf hj
    unfold lp_X5_leastFree_2 lp_X6_begin_3
    split
    · rename_i c
      have : j = 8 := by
        rcases Nat.lt_or_ge j 8 with w | w
        · exact absurd c (nI_ge w (by decide))
        · omega
      exact ⟨fun q hq => (by cases hq), fun _ => this⟩
    · rename_i c
      have hj8 := ngt_8 (j := j) (by omega) 8 (by decide) c
      by_cases c0 : gI α 5 j 2 = 0
      · have e0 : gI β 15 0 j = 0 := by rw [← (h.1 j hj8).1]; exact c0
        rw [if_pos c0, if_pos e0]
        exact ⟨fun q hq => by cases hq; exact ⟨rfl, hj8, c0⟩, fun hn => (by cases hn)⟩
      · have e0 : ¬ gI β 15 0 j = 0 := by rw [← (h.1 j hj8).1]; exact c0
        rw [if_neg c0, if_neg e0]
        exact ih (j + 1) (by omega) (by omega)
/-- a process is started: the same number, or none -/
theorem start_sim {B : Nat} {x y z : Int32} {α β : St} (h : S0 B α β) (hB : B < 2 ^ 30) (hx : x = 0 ∨ x = 1) : (f_X5_startLeastFree α x y z).1 = oI (f_X6_begin β x y z).1 ∧ S0 (B + 1) (f_X5_startLeastFree α x y z).2 (f_X6_begin β x y z).2 := by
  obtain ⟨l1, l2⟩ := lf_spec h (x := x) (y := y) (z := z) 9 0 (by decide) (by decide)
  unfold f_X5_startLeastFree f_X6_begin
  cases hq : f_X5_leastFree α with
  | none =>
    have e8 := l2 hq
    rw [e8, oC_none, if_pos (show nI 8 = 8 from rfl)]
    exact ⟨rfl, S0_mono (by omega) h⟩
  | some q =>
    obtain ⟨e1, e2, e3⟩ := l1 q hq
    rw [e1, oC_some, if_neg (show ¬ nI q = 8 from fun e => absurd ((nI_eq (by omega) (by decide)).mp (show nI q = nI 8 from e)) (by omega))]
    refine ⟨rfl, ?_⟩
    have hb := S0_begin (y := y) (z := z) h e2 e3 hx
    have hst : gI (f_X2_begin α q x y z) 5 q 2 = 0 := ((bx_all (q := q) (x := x) (y := y) (z := z) (α := α)).2 5 q 2).trans (by rw [if_neg (by omega), if_neg (by omega)]; exact e3)
    refine S0_ready hb hB e2 (by rw [hst]; decide) (nw_of hb (by rw [hst]; decide)) ?_
    rw [(bx_all (q := q) (x := x) (y := y) (z := z) (α := α)).2, if_neg (by omega), if_pos (by omega), if_neg (by omega), if_pos rfl, show gI (sI (lp_X6_begin_54 x y z 8 (sI (sI β 16 0 q x) 17 0 q y) q 0) 18 0 (7 * q) z) 17 0 q = gI (bM β q x y z) 17 0 q from rfl, bm_all, if_neg (by omega), if_neg (by omega), if_pos ⟨rfl, rfl, rfl⟩]
