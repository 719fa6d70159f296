theorem bg_same {x y z : Int32} {β β' : St} (he : ∀ p, gI β' 15 0 p = gI β 15 0 p) : ∀ (n j : Nat), lp_X6_begin_3 x y z n β' j = lp_X6_begin_3 x y z n β j := by
  intro n
  induction n with
  | zero => intro j; rfl
  | succ n ih =>
    intro j
    unfold lp_X6_begin_3
    rw [he, ih]
theorem bg_free {x y z : Int32} {β : St} : ∀ (n j : Nat), 8 < j + n → j ≤ 8 → lp_X6_begin_3 x y z n β j < 8 → gI β 15 0 (lp_X6_begin_3 x y z n β j) = 0 := by
  intro n
  induction n with
  | zero => intro j h1 h2; omega
  | succ n ih =>
    intro j hf hj
    unfold lp_X6_begin_3
    split
    · rename_i c
      intro h8
      exact absurd c (nI_ge h8 (by decide))
    · rename_i c
      have hj8 := ngt_8 (j := j) (by omega) 8 (by decide) c
      split
      · rename_i c0; exact fun _ => c0
      · exact ih (j + 1) (by omega) (by omega)
theorem atEnd_all {σ : St} {q : Nat} : ∀ g i k, gI (f_X6_atEnd σ q) g i k = if g = 13 ∧ i = 0 ∧ k = 10 then gI σ 13 0 10 + 1 else if g = 19 ∧ i = 0 ∧ k = q then gI σ 13 0 10 else if g = 15 ∧ i = 0 ∧ k = q then 1 else gI σ g i k := by
  intro g i k
  show gI (sI (sI (sI σ 15 0 q 1) 19 0 q (gI σ 13 0 10)) 13 0 10 (gI σ 13 0 10 + 1)) g i k = _
  rw [gI_sI, gI_sI, gI_sI]
/-- begin, where only p's place differs, and p isn't free -/
theorem begin_17 {x y z w : Int32} {β : St} {p : Nat} (hp : ¬ gI β 15 0 p = 0) : (f_X6_begin (sI β 17 0 p w) x y z).1 = (f_X6_begin β x y z).1 ∧ ∀ g i k, gI (f_X6_begin (sI β 17 0 p w) x y z).2 g i k = if g = 17 ∧ i = 0 ∧ k = p then w else gI (f_X6_begin β x y z).2 g i k := by
  have hb := bg_same (x := x) (y := y) (z := z) (β := β) (β' := sI β 17 0 p w) (fun _ => rfl) 9 0
  have hf := bg_free (x := x) (y := y) (z := z) (β := β) 9 0 (by decide) (by decide)
  have hle := bg_le x y z 9 β 0 (by decide)
  unfold f_X6_begin
  rw [hb]
  generalize lp_X6_begin_3 x y z 9 β 0 = q at hf hle ⊢
  by_cases h8 : nI q = 8
  · rw [if_pos h8, if_pos h8]
    exact ⟨rfl, fun g i k => gI_sI _ _ _ _ _ _ _ _⟩
  · rw [if_neg h8, if_neg h8]
    have hqp : q ≠ p := fun e => hp (by rw [← e]; exact hf (nlt8 hle h8))
    refine ⟨rfl, fun g i k => ?_⟩
    show gI (f_X6_atEnd (bM (sI β 17 0 p w) q x y z) q) g i k = if g = 17 ∧ i = 0 ∧ k = p then w else gI (f_X6_atEnd (bM β q x y z) q) g i k
    have hS : ∀ g i k, gI (bM (sI β 17 0 p w) q x y z) g i k = if g = 17 ∧ i = 0 ∧ k = p then w else gI (bM β q x y z) g i k := by
      intro g i k
      rw [bm_all, bm_all, gI_sI]
      by_cases h7 : g = 17 ∧ i = 0 ∧ k = p
      · rw [if_pos h7, if_pos h7, if_neg (by omega), if_neg (by omega), if_neg (by omega)]
      · rw [if_neg h7, if_neg h7]
    rw [atEnd_all, atEnd_all, hS, hS, if_neg (show ¬ (13 = 17 ∧ 0 = 0 ∧ 10 = p) by omega)]
    by_cases h7 : g = 17 ∧ i = 0 ∧ k = p
    · rw [if_pos h7, if_pos h7, if_neg (by omega), if_neg (by omega), if_neg (by omega)]
    · rw [if_neg h7, if_neg h7]
theorem push_17 {w n : Int32} {S S' : St} {p : Nat} (h : ∀ g i k, gI S' g i k = if g = 17 ∧ i = 0 ∧ k = p then w else gI S g i k) : ∀ g i k, gI (f_X6_push S' p n) g i k = gI (sI (f_X6_push S p n) 17 0 p w) g i k := by
  have h8 : ∀ c, gI S' 18 0 c = gI S 18 0 c := fun c => by rw [h, if_neg (by omega)]
  intro g i k
  rw [gI_sI]
  unfold f_X6_push
  rw [gI_sI, gI_sI, gI_sI, gI_sI, gI_sI, gI_sI, gI_sI, gI_sI, h8, h8, h]
  by_cases h7 : g = 17 ∧ i = 0 ∧ k = p
  · rw [if_pos h7, if_pos h7, if_neg (by omega), if_neg (by omega), if_neg (by omega)]
  · rw [if_neg h7, if_neg h7]
theorem start_place {x y z : Int32} {τ : St} {p k : Nat} (hk : k ≠ 2) (hp : ¬ gI τ 5 p 2 = 0) (hl : ∀ q, f_X5_leastFree τ = some q → gI τ 5 q 2 = 0) : gI (f_X5_startLeastFree τ x y z).2 5 p k = gI τ 5 p k := by
  unfold f_X5_startLeastFree
  cases hq : f_X5_leastFree τ with
  | none => rfl
  | some q =>
    have hqp : p ≠ q := fun e => hp (by rw [e]; exact hl q hq)
    show gI (f_X5_becomeReady (f_X2_begin τ q x y z) q) 5 p k = _
    rw [ready_k hk, (bx_all).2, if_neg (by omega), if_neg (by omega)]
theorem op_start {B p pl : Nat} {τ β1 : St} (h : Pre B p pl τ β1) (hB : B < 2 ^ 30) {x y z : Int32} (hx : x = 0 ∨ x = 1) : S0 (B + 1) (sI (f_X2_put (f_X5_startLeastFree τ x y z).2 p (f_X5_startLeastFree τ x y z).1) 5 p 4 (gI (f_X2_put (f_X5_startLeastFree τ x y z).2 p (f_X5_startLeastFree τ x y z).1) 5 p 4 + 1)) (oC ((f_X6_begin (sI β1 17 0 p (nI pl + 1)) x y z).1) (f_X6_push ((f_X6_begin (sI β1 17 0 p (nI pl + 1)) x y z).2) p (-1)) (fun q => f_X6_push ((f_X6_begin (sI β1 17 0 p (nI pl + 1)) x y z).2) p (nI q))) := by
  obtain ⟨e1, e2⟩ := start_sim (y := y) (z := z) h.1 hB hx
  have hs0 : ¬ gI τ 5 p 2 = 0 := by rw [h.2.2.1]; decide
  have hlf : ∀ q, f_X5_leastFree τ = some q → gI τ 5 q 2 = 0 := fun q hq => ((lf_spec h.1 (x := x) (y := y) (z := z) 9 0 (by decide) (by decide)).1 q hq).2.2
  obtain ⟨b1, b2⟩ := begin_17 (x := x) (y := y) (z := z) (w := nI pl + 1) (β := β1) (p := p) (by rw [← (h.1.1 p h.2.1).1]; exact hs0)
  rw [put_4, start_place (by decide) hs0 hlf, h.2.2.2.1, e1, b1]
  have key : ∀ n : Int32, S0 (B + 1) (sI (f_X2_put (f_X5_startLeastFree τ x y z).2 p n) 5 p 4 (nI pl + 1)) (f_X6_push ((f_X6_begin (sI β1 17 0 p (nI pl + 1)) x y z).2) p n) := fun n =>
    S0_eqM (fun g i k _ => push_17 b2 g i k) (S0_place (S0_put (x := n) e2 h.2.1) h.2.1)
  cases (f_X6_begin β1 x y z).1 with
  | none => exact key _
  | some q => exact key _
