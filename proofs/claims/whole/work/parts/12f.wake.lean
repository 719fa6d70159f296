theorem putLast_gI {α : St} {r q g i k : Nat} (hg : g ≠ 9) : gI (f_X4_putLast α r q) g i k = gI α g i k := by
  unfold f_X4_putLast
  split
  · rfl
  · split
    · rfl
    · rw [gI_sI, if_neg (fun z => hg z.1)]; rfl
theorem putLast_gR {α : St} {r q g i k : Nat} (hg : g ≠ 10) : gR (f_X4_putLast α r q) g i k = gR α g i k := by
  unfold f_X4_putLast
  split
  · rfl
  · split
    · rfl
    · rw [gR_sI, gR_sR, if_neg (fun z => hg z.1)]
theorem ready_gR {α : St} {q g i k : Nat} (hg : g ≠ 10) : gR (f_X5_becomeReady α q) g i k = gR α g i k := putLast_gR hg
theorem ready_st {α : St} {q p : Nat} : gI (f_X5_becomeReady α q) 5 p 2 = if p = q then 1 else gI α 5 p 2 := by
  unfold f_X5_becomeReady
  rw [putLast_gI (by decide), rdA]
theorem ready_k {α : St} {q p k : Nat} (hk : k ≠ 2) : gI (f_X5_becomeReady α q) 5 p k = gI α 5 p k := by
  unfold f_X5_becomeReady
  rw [putLast_gI (by decide), gI_sI, if_neg (fun z => hk z.2.2)]
theorem ready_g {α : St} {q g i k : Nat} (hg : g ≠ 5) (hg9 : g ≠ 9) : gI (f_X5_becomeReady α q) g i k = gI α g i k := by
  unfold f_X5_becomeReady
  rw [putLast_gI hg9, gI_sI, if_neg (fun z => hg z.1)]
theorem SA_ready {α β : St} {q : Nat} (h : SA α β) (hs : ¬ gI α 5 q 2 = 2) : SA (f_X5_becomeReady α q) (f_X6_atEnd β q) := by
  intro p hp
  obtain ⟨h1, h2⟩ := h p hp
  have e9 : gI (f_X5_becomeReady α q) 5 p 9 = gI α 5 p 9 := ready_k (by decide)
  rw [ready_gR (by decide), e9, ready_st]
  refine ⟨?_, h2⟩
  split
  · rename_i e; subst e
    exact ⟨fun z => absurd z (by decide), fun z => absurd (h1.mpr z) hs⟩
  · exact h1
def Sim (B : Nat) (α β : St) : Prop := S0 B α β ∧ SA α β
theorem nw_of {B : Nat} {α β : St} (h : S0 B α β) {q : Nat} (hs : ¬ gI α 5 q 2 = 3) : nw α q := fun k hk hw => hs ((h.2.2.1 k hk).2.1 q hw).2.1
theorem wake_sim : ∀ (n : Nat) (B : Nat) (α β : St) (j : Nat), B + 8 < 2 ^ 30 + j → j ≤ 8 → Sim B α β → Sim (B + (8 - j)) (lp_X5_wakeThoseWhoseTimeHasCome_2 n α j) (lp_X6_step_2 n β j) := by
  intro n
  induction n with
  | zero => intro B α β j _ _ h; exact ⟨S0_mono (by omega) h.1, h.2⟩
  | succ n ih =>
    intro B α β j hB hj h
    unfold lp_X5_wakeThoseWhoseTimeHasCome_2 lp_X6_step_2
    split
    · exact ⟨S0_mono (by omega) h.1, h.2⟩
    · rename_i c
      have hj8 := ngt_8 (j := j) (by omega) 8 (by decide) c
      obtain ⟨a1, a2, a3, a4, a5, a6, a7, a8, a9⟩ := h.1.1 j hj8
      have hskip := ih B α β (j + 1) (by omega) (by omega) h
      have hskip' : Sim (B + (8 - j)) (lp_X5_wakeThoseWhoseTimeHasCome_2 n α (j + 1)) (lp_X6_step_2 n β (j + 1)) := ⟨S0_mono (by omega) hskip.1, hskip.2⟩
      by_cases c4 : gI α 5 j 2 = 4
      · have e4 : gI β 15 0 j = 4 := by rw [← a1]; exact c4
        rw [if_pos c4, if_pos e4]
        have ew := a9 c4
        unfold f_X5_hasCome
        rw [ew, h.1.2.1.1]
        by_cases c5 : 0 < gI β 20 0 j - gI β 13 0 11
        · rw [if_pos c5]; simp only [if_true, if_pos c5]; exact hskip'
        · rw [if_neg c5, if_neg (show ¬ (1 : Int32) = 0 by decide), if_neg c5]
          have hr := S0_ready (q := j) h.1 (by omega) hj8 (by rw [c4]; decide) (nw_of h.1 (by rw [c4]; decide)) (a3 (by rw [c4]; decide))
          have h2 := ih (B + 1) _ _ (j + 1) (by omega) (by omega) ⟨hr, SA_ready h.2 (by rw [c4]; decide)⟩
          exact ⟨S0_mono (by omega) h2.1, h2.2⟩
      · have e4 : ¬ gI β 15 0 j = 4 := by rw [← a1]; exact c4
        rw [if_neg c4, if_neg e4]; exact hskip'
/-- the one that runs -/
theorem cur_none {β : St} : ∀ (n j : Nat), j ≤ 8 → (∀ k, k < 8 → ¬ gI β 15 0 k = 2) → lp_X6_current_2 n β j = none := by
  intro n
  induction n with
  | zero => intro j _ _; rfl
  | succ n ih =>
    intro j hj h
    unfold lp_X6_current_2
    split
    · rfl
    · rename_i c
      have hj8 := ngt_8 (j := j) (by omega) 8 (by decide) c
      rw [if_neg (h j hj8)]
      exact ih (j + 1) (by omega) h
theorem cur_some {β : St} {q : Nat} (hq : q < 8) (h1 : gI β 15 0 q = 2) (h2 : ∀ k, k < 8 → gI β 15 0 k = 2 → k = q) : ∀ (n j : Nat), 8 < j + n → j ≤ q → lp_X6_current_2 n β j = some q := by
  intro n
  induction n with
  | zero => intro j h _; omega
  | succ n ih =>
    intro j hf hj
    unfold lp_X6_current_2
    rw [if_neg (show ¬ (8 : Int32) ≤ nI j from nI_ge (show j < 8 by omega) (by decide))]
    by_cases hjq : j = q
    · subst hjq; rw [if_pos h1]
    · rw [if_neg (fun z => hjq (h2 j (by omega) z))]
      exact ih (j + 1) (by omega) (by omega)
theorem cur_spec {B : Nat} {α β : St} (h : Sim B α β) (hok : ∀ p, gR α 0 0 6 = some p → p < 8) : f_X6_current β = gR α 0 0 6 := by
  have hst : ∀ p, p < 8 → (gI β 15 0 p = 2 ↔ gR α 0 0 6 = some p) := fun p hp => by rw [← (h.1.1 p hp).1]; exact (h.2 p hp).1
  cases ha : gR α 0 0 6 with
  | none => exact cur_none 9 0 (by decide) (fun k hk z => by have := (hst k hk).mp z; rw [ha] at this; cases this)
  | some q =>
    have hq := hok q ha
    exact cur_some hq ((hst q hq).mpr ha) (fun k hk z => by have := (hst k hk).mp z; rw [ha] at this; cases this; rfl) 9 0 (by decide) (Nat.zero_le _)
/-- the row's first, and whether there is one -/
theorem row_none {B r : Nat} {α β : St} (h : S0 B α β) (hr : r < 2) : f_X6_ready β (nI r) 0 = (rowL α r)[0]? := ready_spec ((h.2.2.2.1 r hr).2) 0 (by decide)
theorem size_le {B r : Nat} {α β : St} (h : S0 B α β) (hr : r < 2) : gI α 9 r 1 ≤ 0 ↔ rowL α r = [] := by
  have hw := (h.2.2.2.1 r hr).1.1
  have hl := rowL_len α r
  have h8 := hw.2.1
  rw [hw.1]
  constructor
  · intro z
    rcases Nat.eq_zero_or_pos (zN α r) with q | q
    · exact List.length_eq_zero_iff.mp (by rw [hl, q])
    · exact absurd z (nI_nle q (by omega))
  · intro z
    rw [z] at hl
    rw [← hl]; decide
