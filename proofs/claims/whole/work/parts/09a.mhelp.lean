def oI (o : Option Nat) : Int32 := match o with
  | none => (-1)
  | some q => nI q
def lN0 (σ : St) : Nat := (gI σ 13 0 1).toNatClampNeg
def plN (σ : St) (p : Nat) : Nat := (gI σ 17 0 p).toNatClampNeg
def chN (σ : St) (k : Nat) : Nat := (gI σ 22 0 k).toNatClampNeg
def mgN (σ : St) : Nat := (gI σ 13 0 14).toNatClampNeg
def kN (σ : St) (p : Nat) : Nat := (gI σ 14 0 (2 * plN σ p + 1)).toNatClampNeg
def okL (σ : St) : Prop := gI σ 13 0 1 = nI (lN0 σ) ∧ lN0 σ ≤ 40
def okCh (σ : St) : Prop := ∀ k, k < 4 → gI σ 22 0 k = nI (chN σ k) ∧ chN σ k < 24
def okPl (σ : St) : Prop := ∀ p, p < 8 → gI σ 17 0 p = nI (plN σ p) ∧ plN σ p ≤ 40
def okMg (N : Nat) (σ : St) : Prop := gI σ 13 0 14 = nI (mgN σ) ∧ mgN σ ≤ N
def okOp (σ : St) : Prop := ∀ i, i < lN0 σ → ((gI σ 14 0 (2 * i) = 2 ∨ gI σ 14 0 (2 * i) = 3 ∨ gI σ 14 0 (2 * i) = 10 ∨ gI σ 14 0 (2 * i) = 11) → ∃ k, k < 4 ∧ gI σ 14 0 (2 * i + 1) = nI k) ∧ ((gI σ 14 0 (2 * i) = 8 ∨ gI σ 14 0 (2 * i) = 9) → ∃ k, k < 40 ∧ gI σ 14 0 (2 * i + 1) = nI k) ∧ (gI σ 14 0 (2 * i) = 14 → ∃ k, k < 80 ∧ gI σ 14 0 (2 * i + 1) = nI k) ∧ ∃ o, o < 16 ∧ gI σ 14 0 (2 * i) = nI o
def okM (N : Nat) (σ : St) : Prop := okL σ ∧ okCh σ ∧ okPl σ ∧ okMg N σ ∧ okOp σ
theorem rem16 {N : Nat} {σ : St} (h : okMg N σ) (hN : N < 2 ^ 30) : gI σ 13 0 14 - gI σ 13 0 14 / 16 * 16 = nI (mgN σ % 16) := by
  rw [h.1]
  have := h.2
  exact pk_rem (d := 16) (by omega) (by decide) (by decide)
theorem rem8 {σ : St} (h : okCh σ) {k : Nat} (hk : k < 4) : gI σ 22 0 k - gI σ 22 0 k / 8 * 8 = nI (chN σ k % 8) := by
  rw [(h k hk).1]
  have := (h k hk).2
  exact pk_rem (d := 8) (by omega) (by decide) (by decide)
theorem ne40 {σ : St} (h : okL σ) (hn : ¬ nI (lN0 σ) = 40) : lN0 σ < 40 := by
  have := h.2
  rcases Nat.lt_or_ge (lN0 σ) 40 with q | q
  · exact q
  · exact absurd (show nI (lN0 σ) = 40 by rw [show lN0 σ = 40 by omega]; rfl) hn
theorem nlt8 {j : Nat} (hj : j ≤ 8) (h : ¬ nI j = 8) : j < 8 := by
  rcases Nat.lt_or_ge j 8 with q | q
  · exact q
  · exact absurd (show nI j = 8 by rw [show j = 8 by omega]; rfl) h
theorem vin_cell {p k : Nat} {x : Int32} (hp : p < 8) (hx : x = nI k) (hk : k < 4) : vp_in (7 * nI p + 3 + x) 56 := by
  rw [hx, show ((7 : Int32) * nI p + 3 + nI k) = nI (7 * p + 3 + k) from tagA (tagA (tagM (show (7 : Int32) = nI 7 from rfl) rfl) (show (3 : Int32) = nI 3 from rfl)) rfl]
  exact vp_in_nI (by omega) (by decide)
theorem op_kN {σ : St} {p : Nat} (h : ∃ k, k < 4 ∧ gI σ 14 0 (2 * plN σ p + 1) = nI k) : gI σ 14 0 (2 * plN σ p + 1) = nI (kN σ p) ∧ kN σ p < 4 := by
  obtain ⟨k, hk, e⟩ := h
  have : kN σ p = k := by unfold kN; rw [e, nI_clamp (by omega)]
  rw [this]; exact ⟨e, hk⟩
