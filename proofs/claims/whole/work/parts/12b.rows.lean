/-! ROWS as lists -/
def wf (α : St) (r : Nat) : Prop := okR α r ∧ ∀ j, j < zN α r → ∃ p, gR α 10 r j = some p
def rowL (α : St) (r : Nat) : List Nat := (List.range (zN α r)).map (fun j => (gR α 10 r j).getD 0)
theorem rowL_len (α : St) (r : Nat) : (rowL α r).length = zN α r := by simp [rowL]
theorem rowL_get {α : St} {r j : Nat} (h : wf α r) (hj : j < zN α r) {p : Nat} : gR α 10 r j = some p ↔ (rowL α r)[j]? = some p := by
  obtain ⟨q, hq⟩ := h.2 j hj
  simp [rowL, hj, hq]
theorem rowL_ext {α β : St} {r : Nat} (hz : zN α r = zN β r) (hg : ∀ j, j < zN α r → gR α 10 r j = gR β 10 r j) : rowL α r = rowL β r := by
  unfold rowL
  rw [← hz]
  apply List.map_congr_left
  intro j hj
  rw [hg j (List.mem_range.mp hj)]
theorem zN_of {α : St} {r z : Nat} (h : gI α 9 r 1 = nI z) (hz : z < 100) : zN α r = z := by
  unfold zN; rw [h, nI_clamp (by omega)]
/-- putLast -/
theorem putLast_eq {α : St} {r q : Nat} (h : okR α r) (hz : zN α r < 8) : f_X4_putLast α r q = sI (sR α 10 r (zN α r) (some q)) 9 r 1 (nI (zN α r + 1)) := by
  have e := h.1
  unfold f_X4_putLast
  rw [if_neg (by rw [e]; exact nI_pos (by omega)), if_neg (by rw [e]; exact fun q => absurd q (nI_ge hz (by decide)))]
  show sI (sR α 10 r (zN α r) (some q)) 9 r 1 (gI α 9 r 1 + 1) = _
  rw [e, nI_1]
theorem putLast_row {α : St} {r q : Nat} (h : wf α r) (hq : q < 8) (hz : zN α r < 8) : wf (f_X4_putLast α r q) r ∧ rowL (f_X4_putLast α r q) r = rowL α r ++ [q] := by
  rw [putLast_eq h.1 hz]
  have e1 : zN (sI (sR α 10 r (zN α r) (some q)) 9 r 1 (nI (zN α r + 1))) r = zN α r + 1 := zN_of (by rw [gI_sI, if_pos ⟨rfl, rfl, rfl⟩]) (by omega)
  have e2 : ∀ j, gR (sI (sR α 10 r (zN α r) (some q)) 9 r 1 (nI (zN α r + 1))) 10 r j = if j = zN α r then some q else gR α 10 r j := fun j => by
    rw [gR_sI, gR_sR]; simp
  refine ⟨⟨⟨by rw [e1, gI_sI, if_pos ⟨rfl, rfl, rfl⟩], by rw [e1]; omega, fun j p hp => ?_⟩, fun j hj => ?_⟩, ?_⟩
  · rw [e2] at hp
    split at hp
    · cases hp; exact hq
    · exact h.1.2.2 j p hp
  · rw [e1] at hj
    rw [e2]
    split
    · exact ⟨q, rfl⟩
    · exact h.2 j (by omega)
  · unfold rowL
    rw [e1, List.range_succ, List.map_append]
    congr 1
    · apply List.map_congr_left
      intro j hj
      have := List.mem_range.mp hj
      rw [e2, if_neg (by omega)]
    · simp [e2]
theorem putLast_other {α : St} {r r' q : Nat} (h : okR α r) (hz : zN α r < 8) (hr : r' ≠ r) : zN (f_X4_putLast α r q) r' = zN α r' ∧ (∀ j, gR (f_X4_putLast α r q) 10 r' j = gR α 10 r' j) ∧ gI (f_X4_putLast α r q) 9 r' 1 = gI α 9 r' 1 := by
  rw [putLast_eq h hz]
  have e : gI (sI (sR α 10 r (zN α r) (some q)) 9 r 1 (nI (zN α r + 1))) 9 r' 1 = gI α 9 r' 1 := by
    rw [gI_sI, if_neg (fun z => hr z.2.1)]; rfl
  refine ⟨congrArg Int32.toNatClampNeg e, fun j => ?_, e⟩
  rw [gR_sI, gR_sR, if_neg (fun z => hr z.2.1)]
/-- putFirst -/
theorem pf_loop {r q : Nat} : ∀ (n : Nat) (σ : St) (j : Nat), j < n → j < 100 → gI (lp_X4_putFirst_14 r q n σ j) = gI σ ∧ ∀ g i k, gR (lp_X4_putFirst_14 r q n σ j) g i k = if g = 10 ∧ i = r ∧ 1 ≤ k ∧ k ≤ j then gR σ 10 r (k - 1) else gR σ g i k := by
  intro n
  induction n with
  | zero => intro σ j h; omega
  | succ n ih =>
    intro σ j hj hb
    unfold lp_X4_putFirst_14
    split
    · rename_i c
      have hj0 : j = 0 := by
        rcases Nat.eq_zero_or_pos j with z | z
        · exact z
        · exact absurd c (nI_nle z (by omega))
      refine ⟨rfl, fun g i k => ?_⟩
      rw [if_neg (by omega)]
    · rename_i c
      have hj0 := npos c
      obtain ⟨e1, e2⟩ := ih (sR σ 10 r j (gR σ 10 r (j - 1))) (j - 1) (by omega) (by omega)
      refine ⟨e1, fun g i k => ?_⟩
      rw [e2]
      by_cases hgi : g = 10 ∧ i = r
      · obtain ⟨rfl, rfl⟩ := hgi
        by_cases hk : 1 ≤ k ∧ k ≤ j - 1
        · rw [if_pos ⟨rfl, rfl, hk⟩, if_pos ⟨rfl, rfl, by omega⟩, gR_sR, if_neg (by omega)]
        · rw [if_neg (by omega), gR_sR]
          by_cases hkj : k = j
          · rw [if_pos ⟨rfl, rfl, hkj⟩, if_pos ⟨rfl, rfl, by omega⟩, hkj]
          · rw [if_neg (by omega), if_neg (by omega)]
      · rw [if_neg (by omega), if_neg (by omega), gR_sR, if_neg (by omega)]
theorem putFirst_row {α : St} {r q : Nat} (h : wf α r) (hq : q < 8) (hz : zN α r < 8) : wf (f_X4_putFirst α r q) r ∧ rowL (f_X4_putFirst α r q) r = q :: rowL α r ∧ (∀ g i k, ¬ (g = 9 ∧ i = r ∧ k = 1) → gI (f_X4_putFirst α r q) g i k = gI α g i k) ∧ ∀ g i k, ¬ (g = 10 ∧ i = r) → gR (f_X4_putFirst α r q) g i k = gR α g i k := by
  obtain ⟨e1, e2⟩ := pf_loop (r := r) (q := q) 9 α (zN α r) (by omega) (by omega)
  unfold f_X4_putFirst
  rw [if_neg (by rw [h.1.1]; exact fun q => absurd q (nI_ge hz (by decide)))]
  generalize lp_X4_putFirst_14 r q 9 α (zN α r) = τ at e1 e2 ⊢
  have ev : gI (sR τ 10 r 0 (some q)) 9 r 1 + 1 = nI (zN α r + 1) := by
    rw [gI_sR, e1, h.1.1, nI_1]
  rw [ev]
  have z1 : zN (sI (sR τ 10 r 0 (some q)) 9 r 1 (nI (zN α r + 1))) r = zN α r + 1 := zN_of (by rw [gI_sI, if_pos ⟨rfl, rfl, rfl⟩]) (by omega)
  have g1 : ∀ j, gR (sI (sR τ 10 r 0 (some q)) 9 r 1 (nI (zN α r + 1))) 10 r j = if j = 0 then some q else if j ≤ zN α r then gR α 10 r (j - 1) else gR α 10 r j := by
    intro j
    rw [gR_sI, gR_sR]
    by_cases hj : j = 0
    · rw [if_pos ⟨rfl, rfl, hj⟩, if_pos hj]
    · rw [if_neg (by omega), if_neg hj, e2]
      by_cases hjz : j ≤ zN α r
      · rw [if_pos ⟨rfl, rfl, by omega, hjz⟩, if_pos hjz]
      · rw [if_neg (by omega), if_neg hjz]
  refine ⟨⟨⟨by rw [z1, gI_sI, if_pos ⟨rfl, rfl, rfl⟩], by rw [z1]; omega, fun j p hp => ?_⟩, fun j hj => ?_⟩, ?_, fun g i k hn => ?_, fun g i k hn => ?_⟩
  · rw [g1] at hp
    split at hp
    · cases hp; exact hq
    · split at hp
      · exact h.1.2.2 _ p hp
      · exact h.1.2.2 _ p hp
  · rw [z1] at hj
    rw [g1]
    split
    · exact ⟨q, rfl⟩
    · split
      · exact h.2 _ (by omega)
      · omega
  · unfold rowL
    rw [z1, List.range_succ_eq_map, List.map_cons, List.map_map]
    congr 1
    · rw [g1, if_pos rfl]; rfl
    apply List.map_congr_left
    intro j hj
    have := List.mem_range.mp hj
    show (gR _ 10 r (j + 1)).getD 0 = _
    rw [g1, if_neg (by omega), if_pos (by omega)]
    rfl
  · rw [gI_sI, if_neg hn, gI_sR, e1]
  · rw [gR_sI, gR_sR, if_neg (by omega), e2, if_neg (by omega)]
/-- takeFirst -/
theorem tf_loop {r : Nat} : ∀ (n : Nat) (σ : St) (j : Nat), zN σ r < j + n → gI σ 9 r 1 = nI (zN σ r) → zN σ r < 100 → j ≤ zN σ r → gI (lp_X4_takeFirst_28 r n σ j) = gI σ ∧ ∀ g i k, gR (lp_X4_takeFirst_28 r n σ j) g i k = if g = 10 ∧ i = r ∧ j ≤ k ∧ k < zN σ r then gR σ 10 r (k + 1) else gR σ g i k := by
  intro n
  induction n with
  | zero => intro σ j h _ _ h2; omega
  | succ n ih =>
    intro σ j hf hz hb hj
    unfold lp_X4_takeFirst_28
    split
    · rename_i c
      rw [hz] at c
      have hjz : j = zN σ r := by
        have := (nI_leI (show zN σ r < 2 ^ 31 by omega) (show j < 2 ^ 31 by omega)).mp c
        omega
      refine ⟨rfl, fun g i k => ?_⟩
      rw [if_neg (by omega)]
    · rename_i c
      rw [hz] at c
      have hjz : j < zN σ r := by
        rcases Nat.lt_or_ge j (zN σ r) with q | q
        · exact q
        · exact absurd (nI_le q (by omega)) c
      obtain ⟨e1, e2⟩ := ih (sR σ 10 r j (gR σ 10 r (j + 1))) (j + 1) (show zN σ r < _ by omega) hz hb (show _ ≤ zN σ r by omega)
      have ez : zN (sR σ 10 r j (gR σ 10 r (j + 1))) r = zN σ r := rfl
      refine ⟨e1, fun g i k => ?_⟩
      rw [e2, ez]
      by_cases hgi : g = 10 ∧ i = r
      · obtain ⟨rfl, rfl⟩ := hgi
        by_cases hk : j + 1 ≤ k ∧ k < zN σ i
        · rw [if_pos ⟨rfl, rfl, hk⟩, if_pos ⟨rfl, rfl, by omega⟩, gR_sR, if_neg (by omega)]
        · rw [if_neg (by omega), gR_sR]
          by_cases hkj : k = j
          · rw [if_pos ⟨rfl, rfl, hkj⟩, if_pos ⟨rfl, rfl, by omega⟩, hkj]
          · rw [if_neg (by omega), if_neg (by omega)]
      · rw [if_neg (by omega), if_neg (by omega), gR_sR, if_neg (by omega)]
theorem takeFirst_nil {α : St} {r : Nat} (h : okR α r) (hz : zN α r = 0) : f_X4_takeFirst α r = (none, α) := by
  unfold f_X4_takeFirst
  rw [if_neg (by rw [h.1, hz]; decide)]
theorem takeFirst_row {α : St} {r q : Nat} {l : List Nat} (h : wf α r) (hl : rowL α r = q :: l) : (f_X4_takeFirst α r).1 = some q ∧ wf (f_X4_takeFirst α r).2 r ∧ rowL (f_X4_takeFirst α r).2 r = l ∧ (∀ g i k, ¬ (g = 9 ∧ i = r ∧ k = 1) → gI (f_X4_takeFirst α r).2 g i k = gI α g i k) ∧ ∀ g i k, ¬ (g = 10 ∧ i = r) → gR (f_X4_takeFirst α r).2 g i k = gR α g i k := by
  have hlen := rowL_len α r
  rw [hl, List.length_cons] at hlen
  have h8 := h.1.2.1
  have h0 : 0 < zN α r := by omega
  have hq : gR α 10 r 0 = some q := (rowL_get h h0).mpr (by rw [hl]; rfl)
  have hd := zN_dec1 h0 h.1
  have hd0 := zN_dec0 h0 h.1
  obtain ⟨e1, e2⟩ := tf_loop (r := r) 9 (sI α 9 r 1 (gI α 9 r 1 - 1)) 0 (by omega) (by rw [hd0, hd]) (by omega) (by omega)
  rw [hd] at e2
  unfold f_X4_takeFirst
  rw [if_pos (by rw [h.1.1]; exact (show (0 : Int32) = nI 0 from rfl) ▸ nI_lt h0 (by omega)), hq, oC_some]
  refine ⟨rfl, ?_⟩
  show wf (lp_X4_takeFirst_28 r 9 (sI α 9 r 1 (gI α 9 r 1 - 1)) 0) r ∧ rowL (lp_X4_takeFirst_28 r 9 (sI α 9 r 1 (gI α 9 r 1 - 1)) 0) r = l ∧ (∀ g i k, ¬ (g = 9 ∧ i = r ∧ k = 1) → gI (lp_X4_takeFirst_28 r 9 (sI α 9 r 1 (gI α 9 r 1 - 1)) 0) g i k = gI α g i k) ∧ ∀ g i k, ¬ (g = 10 ∧ i = r) → gR (lp_X4_takeFirst_28 r 9 (sI α 9 r 1 (gI α 9 r 1 - 1)) 0) g i k = gR α g i k
  generalize lp_X4_takeFirst_28 r 9 (sI α 9 r 1 (gI α 9 r 1 - 1)) 0 = τ at e1 e2 ⊢
  have ez : gI τ 9 r 1 = nI (zN α r - 1) := by rw [e1]; exact hd0
  have z1 : zN τ r = zN α r - 1 := zN_of ez (by omega)
  have g1 : ∀ j, gR τ 10 r j = if j < zN α r - 1 then gR α 10 r (j + 1) else gR α 10 r j := by
    intro j
    rw [e2]
    by_cases hj : j < zN α r - 1
    · rw [if_pos ⟨rfl, rfl, by omega, hj⟩, if_pos hj]; rfl
    · rw [if_neg (by omega), if_neg hj]; rfl
  refine ⟨⟨⟨by rw [z1]; exact ez, by rw [z1]; omega, fun j p hp => ?_⟩, fun j hj => ?_⟩, ?_, fun g i k hn => ?_, fun g i k hn => ?_⟩
  · rw [g1] at hp
    split at hp
    · exact h.1.2.2 _ p hp
    · exact h.1.2.2 _ p hp
  · rw [z1] at hj
    rw [g1, if_pos hj]
    exact h.2 _ (by omega)
  · have hl2 : rowL α r = (rowL α r).head (by rw [hl]; simp) :: l := by simp [hl]
    unfold rowL at hl ⊢
    rw [show zN α r = (zN α r - 1) + 1 by omega, List.range_succ_eq_map, List.map_cons, List.map_map] at hl
    have hl3 := (List.cons.inj hl).2
    rw [z1, ← hl3]
    apply List.map_congr_left
    intro j hj
    have := List.mem_range.mp hj
    rw [g1, if_pos this]
    rfl
  · rw [e1, gI_sI, if_neg hn]
  · rw [e2, if_neg (by omega)]; rfl
