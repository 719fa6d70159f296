/-! 'ok' is kept by all that a step does -/
theorem ok_sI {σ : St} {g i k : Nat} {v : Int32} (hg : g ≠ 9) (h : ok σ) : ok (sI σ g i k v) := ⟨okR_sI hg h.1, okR_sI hg h.2.1, h.2.2.1, h.2.2.2⟩
theorem ok_sR {σ : St} {g i k : Nat} {v : Option Nat} (hv : ∀ p, v = some p → p < 8) (h : ok σ) : ok (sR σ g i k v) := by
  refine ⟨okR_sR hv h.1, okR_sR hv h.2.1, fun p hp => ?_, fun a p hp => ?_⟩
  · rw [gR_sR] at hp
    split at hp
    · exact hv p hp
    · exact h.2.2.1 p hp
  · rw [gR_sR] at hp
    split at hp
    · exact hv p hp
    · exact h.2.2.2 a p hp
theorem okR_size {σ : St} {r r' z : Nat} {v : Int32} (hv : v = nI z) (hz : z ≤ 8) (h : okR σ r') : okR (sI σ 9 r 1 v) r' := by
  by_cases hr : r' = r
  · subst hr
    have e : gI (sI σ 9 r' 1 v) 9 r' 1 = nI z := by rw [gI_sI, if_pos ⟨rfl, rfl, rfl⟩, hv]
    have ez : zN (sI σ 9 r' 1 v) r' = z := by unfold zN; rw [e, nI_clamp (by omega)]
    exact ⟨by rw [e, ez], by rw [ez]; exact hz, h.2.2⟩
  · have e : gI (sI σ 9 r 1 v) 9 r' 1 = gI σ 9 r' 1 := by rw [gI_sI, if_neg (fun q => hr q.2.1)]
    have ez : zN (sI σ 9 r 1 v) r' = zN σ r' := by unfold zN; rw [e]
    exact ⟨by rw [e, ez]; exact h.1, by rw [ez]; exact h.2.1, h.2.2⟩
theorem ok_size {σ : St} {r z : Nat} {v : Int32} (hv : v = nI z) (hz : z ≤ 8) (h : ok σ) : ok (sI σ 9 r 1 v) := ⟨okR_size hv hz h.1, okR_size hv hz h.2.1, h.2.2.1, h.2.2.2⟩
theorem ok_R {σ : St} {r : Nat} (hr : r < 2) (h : ok σ) : okR σ r := by
  rcases (show r = 0 ∨ r = 1 by omega) with rfl | rfl
  · exact h.1
  · exact h.2.1
theorem some_lt {q : Nat} (hq : q < 8) : ∀ p, some q = some p → p < 8 := fun p h => by cases h; exact hq
theorem none_lt : ∀ p : Nat, none = some p → p < 8 := fun p h => by cases h
theorem ok_putLast {σ : St} {r q : Nat} (hr : r < 2) (hq : q < 8) (h : ok σ) : ok (f_X4_putLast σ r q) := by
  have hk := ok_R hr h
  unfold f_X4_putLast
  split
  · exact h
  · split
    · exact h
    · rename_i h1 h2
      have hz : zN σ r < 8 := ngt_8 (by have := hk.2.1; omega) 8 (by decide) (by rw [← hk.1]; exact h2)
      exact ok_size (z := zN σ r + 1) (by rw [gI_sR, hk.1]; exact nI_1 _) (by omega) (ok_sR (some_lt hq) h)
theorem ok_becomeReady {σ : St} {q : Nat} (hq : q < 8) (h : ok σ) : ok (f_X5_becomeReady σ q) := ok_putLast (rowOf_lt _ _) hq (ok_sI (by decide) h)
theorem ok_begin0 {q : Nat} {x y z : Int32} : ∀ (n : Nat) (σ : St) (j : Nat), ok σ → ok (lp_X2_begin_28 q x y z n σ j) := by
  intro n
  induction n with
  | zero => intro σ j h; exact h
  | succ n ih =>
    intro σ j h
    unfold lp_X2_begin_28
    split
    · exact h
    · exact ih _ _ (ok_sI (by decide) h)
theorem ok_begin {σ : St} {q : Nat} {x y z : Int32} (h : ok σ) : ok (f_X2_begin σ q x y z) := ok_begin0 _ _ _ (ok_sI (by decide) (ok_sI (by decide) (ok_sI (by decide) (ok_sI (by decide) (ok_sI (by decide) h)))))
theorem ok_start {σ : St} {x y z : Int32} (h : ok σ) : ok (f_X5_startLeastFree σ x y z).2 := by
  unfold f_X5_startLeastFree
  rcases hq : f_X5_leastFree σ with _ | q
  · exact h
  · exact ok_becomeReady (lf_lt hq) (ok_begin h)
theorem ok_wake0 : ∀ (n : Nat) (σ : St) (j : Nat), j ≤ 8 → ok σ → ok (lp_X5_wakeThoseWhoseTimeHasCome_2 n σ j) := by
  intro n
  induction n with
  | zero => intro σ j _ h; exact h
  | succ n ih =>
    intro σ j hj h
    unfold lp_X5_wakeThoseWhoseTimeHasCome_2
    split
    · exact h
    · have hj8 := ngt_8 (j := j) (by omega) 8 (by decide) (by assumption)
      split
      · split
        · exact ih _ _ (by omega) h
        · exact ih _ _ (by omega) (ok_becomeReady hj8 h)
      · exact ih _ _ (by omega) h
theorem ok_wake {σ : St} (h : ok σ) : ok (f_X5_wakeThoseWhoseTimeHasCome σ) := ok_wake0 _ _ _ (by decide) h
theorem ok_pf0 {r q : Nat} (hr : r < 2) : ∀ (n : Nat) (σ : St) (j : Nat), ok σ → ok (lp_X4_putFirst_14 r q n σ j) ∧ gI (lp_X4_putFirst_14 r q n σ j) = gI σ := by
  intro n
  induction n with
  | zero => intro σ j h; exact ⟨h, rfl⟩
  | succ n ih =>
    intro σ j h
    unfold lp_X4_putFirst_14
    split
    · exact ⟨h, rfl⟩
    · obtain ⟨a, e⟩ := ih (sR σ 10 r j (gR σ 10 r (j - 1))) (j - 1) (ok_sR (fun p hp => (ok_R hr h).2.2 _ _ hp) h)
      exact ⟨a, e⟩
theorem ok_putFirst {σ : St} {r q : Nat} (hr : r < 2) (hq : q < 8) (h : ok σ) : ok (f_X4_putFirst σ r q) := by
  have hk := ok_R hr h
  unfold f_X4_putFirst
  split
  · exact h
  · rename_i h2
    have hz : zN σ r < 8 := ngt_8 (by have := hk.2.1; omega) 8 (by decide) (by rw [← hk.1]; exact h2)
    obtain ⟨a, e⟩ := ok_pf0 (q := q) hr 9 σ (zN σ r) h
    exact ok_size (z := zN σ r + 1) (by rw [gI_sR, e, hk.1]; exact nI_1 _) (by omega) (ok_sR (some_lt hq) a)
theorem ok_tf0 {r : Nat} (hr : r < 2) : ∀ (n : Nat) (σ : St) (j : Nat), ok σ → ok (lp_X4_takeFirst_28 r n σ j) := by
  intro n
  induction n with
  | zero => intro σ j h; exact h
  | succ n ih =>
    intro σ j h
    unfold lp_X4_takeFirst_28
    split
    · exact h
    · exact ih (sR σ 10 r j (gR σ 10 r (j + 1))) (j + 1) (ok_sR (fun p hp => (ok_R hr h).2.2 _ _ hp) h)
theorem ok_takeFirst {σ : St} {r : Nat} (hr : r < 2) (h : ok σ) : ok (f_X4_takeFirst σ r).2 := by
  have hk := ok_R hr h
  unfold f_X4_takeFirst
  split
  · rename_i h2
    have h0 := szpos h2 hk
    have h3 : ok (sI σ 9 r 1 (gI σ 9 r 1 - 1)) := ok_size (z := zN σ r - 1) (tagP hk.1 h0) (by have := hk.2.1; omega) h
    rcases hq : gR σ 10 r 0 with _ | q
    · exact ok_tf0 hr _ _ _ h3
    · exact ok_tf0 hr _ _ _ h3
  · exact h
theorem ok_giveWay {σ : St} (h : ok σ) : ok (f_X5_giveWayToHigh σ) := by
  unfold f_X5_giveWayToHigh
  rcases hq : gR σ 0 0 6 with _ | q
  · exact h
  · rw [oC_some]
    split
    · split
      · exact h
      · exact ok_sR none_lt (ok_putFirst (by decide) (h.2.2.1 _ hq) (ok_sI (by decide) h))
    · exact h
theorem ok_takeNext {σ : St} (h : ok σ) : ok (f_X5_takeNext σ) := by
  unfold f_X5_takeNext
  split
  · rcases hq : (f_X4_takeFirst σ 1).1 with _ | q
    · exact ok_sR none_lt (ok_takeFirst (by decide) h)
    · exact ok_sI (by decide) (ok_sI (by decide) (ok_sR (some_lt (take_lt h.2.1 hq)) (ok_takeFirst (by decide) h)))
  · rcases hq : (f_X4_takeFirst σ 0).1 with _ | q
    · exact ok_sR none_lt (ok_takeFirst (by decide) h)
    · exact ok_sI (by decide) (ok_sI (by decide) (ok_sR (some_lt (take_lt h.1 hq)) (ok_takeFirst (by decide) h)))
theorem ok_put {σ : St} {q : Nat} {x : Int32} (h : ok σ) : ok (f_X2_put σ q x) := ok_sI (by decide) (ok_sI (by decide) (ok_sI (by decide) h))
theorem ok_drop {σ : St} {q : Nat} (h : ok σ) : ok (f_X2_drop σ q) := ok_sI (by decide) (ok_sI (by decide) h)
theorem ok_rep {σ : St} {q : Nat} {x : Int32} (h : ok σ) : ok (f_X2_replaceTwo σ q x) := ok_sI (by decide) (ok_sI (by decide) h)
theorem ok_setWord {σ : St} {q : Nat} {x y : Int32} (h : ok σ) : ok (f_X2_setWord σ q x y) := by
  unfold f_X2_setWord
  split
  · exact h
  · split
    · exact h
    · exact ok_sI (by decide) h
theorem ok_compute {σ : St} {q : Nat} {x y : Int32} (h : ok σ) : ok (f_X5_compute σ q x y) := by
  unfold f_X5_compute
  repeat' split
  all_goals first | exact h | exact ok_put h | exact ok_rep h | exact ok_drop (ok_setWord h)
theorem ok_append {σ : St} {u v w x y : Int32} (h : ok σ) : ok (f_X1_append σ u v w x y) := ok_sI (by decide) (ok_sI (by decide) (ok_sI (by decide) (ok_sI (by decide) (ok_sI (by decide) (ok_sI (by decide) h)))))
theorem ok_deliver {σ : St} {u x : Int32} {q w : Nat} (h : ok σ) : ok (f_X5_deliver σ u q w x) := ok_append (ok_put h)
theorem ok_clear {σ : St} {k : Nat} (h : ok σ) : ok (f_X0_clear σ k) := ok_sI (by decide) (ok_sI (by decide) (ok_sR none_lt h))
theorem ok_hold {σ : St} {k q : Nat} {z x : Int32} (hq : q < 8) (h : ok σ) : ok (f_X0_hold σ k q z x) := ok_sI (by decide) (ok_sI (by decide) (ok_sI (by decide) (ok_sR (some_lt hq) h)))
theorem ok_jump {σ : St} {q : Nat} {x : Int32} (hq : q < 8) (h : ok σ) : ok (f_X5_jump σ q x) := by
  unfold f_X5_jump
  repeat' split
  all_goals first | exact ok_sI (by decide) h | exact ok_becomeReady hq (ok_sI (by decide) h)
theorem ok_jz {σ : St} {q : Nat} {x : Int32} (h : ok σ) : ok (f_X5_jumpIfZero σ q x) := by
  unfold f_X5_jumpIfZero
  split
  · exact ok_sI (by decide) h
  · exact ok_sI (by decide) (ok_drop h)
theorem ok_await {σ : St} {q : Nat} (h : ok σ) : ok (f_X5_awaitTime σ q) := by
  unfold f_X5_awaitTime
  split
  · exact ok_sI (by decide) (ok_sI (by decide) (ok_sI (by decide) (ok_drop h)))
  · exact ok_sI (by decide) (ok_drop h)
theorem ok_send {σ : St} {q k : Nat} (hq : q < 8) (h : ok σ) : ok (f_X5_send σ q k) := by
  unfold f_X5_send
  split
  · rcases hw : gR (sI (f_X2_drop σ q) 5 q 4 (gI (f_X2_drop σ q) 5 q 4 + 1)) 8 k 1 with _ | w
    · exact ok_hold hq (ok_sI (by decide) (ok_drop h))
    · exact ok_becomeReady (h.2.2.2 k w hw) (ok_deliver (ok_clear (ok_sI (by decide) (ok_drop h))))
  · exact ok_sI (by decide) h
theorem ok_receive {σ : St} {q k : Nat} (hq : q < 8) (h : ok σ) : ok (f_X5_receive σ q k) := by
  unfold f_X5_receive
  split
  · rcases hw : gR (sI σ 5 q 4 (gI σ 5 q 4 + 1)) 8 k 1 with _ | w
    · exact ok_hold hq (ok_sI (by decide) h)
    · exact ok_becomeReady (h.2.2.2 k w hw) (ok_deliver (ok_clear (ok_sI (by decide) h)))
  · exact ok_sI (by decide) h
theorem ok_oC {o : Option Nat} {a : St} {f : Nat → St} (ha : ok a) (hf : ∀ q, ok (f q)) : ok (oC o a f) := by
  cases o with
  | none => exact ha
  | some q => exact hf q
theorem ok_ite {c : Prop} [Decidable c] {a b : St} (ha : ok a) (hb : ok b) : ok (if c then a else b) := by
  by_cases h : c
  · rw [if_pos h]; exact ha
  · rw [if_neg h]; exact hb
theorem ok_execute {σ : St} {q : Nat} (hq : q < 8) (h : ok σ) : ok (f_X5_execute σ q) := by
  have h1 : ok (sI σ 5 q 9 (gI σ 5 q 9 + 1)) := ok_sI (by decide) h
  unfold f_X5_execute
  generalize sI σ 5 q 9 (gI σ 5 q 9 + 1) = τ at h1 ⊢
  refine ok_ite (ok_sI (by decide) h1) ?_
  iterate 7 refine ok_ite (ok_sI (by decide) (ok_compute h1)) ?_
  refine ok_ite (ok_jump hq h1) ?_
  refine ok_ite (ok_jz h1) ?_
  refine ok_ite (ok_oC (ok_sI (by decide) h1) (fun k => ok_send hq h1)) ?_
  refine ok_ite (ok_oC (ok_sI (by decide) h1) (fun k => ok_receive hq h1)) ?_
  refine ok_ite (ok_sI (by decide) (ok_compute h1)) ?_
  refine ok_ite (ok_await h1) ?_
  refine ok_ite (ok_ite (ok_sI (by decide) (ok_put (ok_start h1))) (ok_sI (by decide) (ok_put (ok_start h1)))) ?_
  refine ok_ite (ok_sI (by decide) h1) ?_
  exact ok_sI (by decide) (ok_compute h1)
