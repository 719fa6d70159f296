/-! THE SIMULATION: the class's state in α (groups 0 to 12), the reference's in β (groups 13 to 23) -/
def SP1 (α β : St) (p : Nat) : Prop := gI α 5 p 2 = gI β 15 0 p ∧ gI α 5 p 3 = gI β 16 0 p ∧ (¬ gI α 5 p 2 = 0 → gI α 5 p 4 = gI β 17 0 p) ∧ gI α 5 p 5 = gI β 18 0 (7 * p) ∧ gI α 5 p 6 = gI β 18 0 (7 * p + 1) ∧ gI α 5 p 7 = gI β 18 0 (7 * p + 2) ∧ (∀ k, k < 4 → gI α 6 p k = gI β 18 0 (7 * p + 3 + k)) ∧ (gI α 5 p 3 = 0 ∨ gI α 5 p 3 = 1) ∧ (gI α 5 p 2 = 4 → gI α 5 p 8 = gI β 20 0 p)
def SP (α β : St) : Prop := ∀ p, p < 8 → SP1 α β p
def SG (α β : St) : Prop := gI α 0 0 7 = gI β 13 0 11 ∧ gI α 1 0 2 = gI β 13 0 1 ∧ (∀ i, i < 40 → gI α 2 0 i = gI β 14 0 (2 * i) ∧ gI α 3 0 i = gI β 14 0 (2 * i + 1)) ∧ gI α 11 0 1 = gI β 13 0 14 ∧ ∀ i, i < 80 → gI α 12 0 i = gI β 23 0 i
def SC1 (α β : St) (k : Nat) : Prop := gI β 22 0 k = f_X0_code α k ∧ (∀ p, gR α 8 k 1 = some p → p < 8 ∧ gI α 5 p 2 = 3 ∧ (¬ gI α 8 k 2 = 0 → gI α 8 k 3 = gI β 21 0 p)) ∧ ∀ k' p, k' < 4 → gR α 8 k 1 = some p → gR α 8 k' 1 = some p → k = k'
def SC (α β : St) : Prop := ∀ k, k < 4 → SC1 α β k
def fst (β : St) : Int := (gI β 13 0 9).toInt
def lst (β : St) : Int := (gI β 13 0 10).toInt
def SR (B : Nat) (α β : St) : Prop := (∀ r, r < 2 → wf α r ∧ RL0 β (nI r) (rowL α r)) ∧ (∀ p, p < 8 → gI β 15 0 p = 1 → fst β ≤ rk β p ∧ rk β p < lst β) ∧ -(B : Int) ≤ fst β ∧ fst β ≤ lst β ∧ lst β ≤ B
def S0 (B : Nat) (α β : St) : Prop := SP α β ∧ SG α β ∧ SC α β ∧ SR B α β
def SA (α β : St) : Prop := ∀ p, p < 8 → (gI α 5 p 2 = 2 ↔ gR α 0 0 6 = some p) ∧ (gR α 0 0 6 = some p → gI α 5 p 9 = gI β 13 0 12)
/-- within a step: p runs -/
def SM (p : Nat) (α β : St) : Prop := gR α 0 0 6 = some p ∧ (∀ q, q < 8 → gI α 5 q 2 = 2 → q = p) ∧ gI α 5 p 9 = gI β 13 0 12
theorem SR_mono {B B' : Nat} {α β : St} (hB : B ≤ B') (h : SR B α β) : SR B' α β := ⟨h.1, h.2.1, by have := h.2.2.1; omega, h.2.2.2.1, by have := h.2.2.2.2; omega⟩
theorem S0_mono {B B' : Nat} {α β : St} (hB : B ≤ B') (h : S0 B α β) : S0 B' α β := ⟨h.1, h.2.1, h.2.2.1, SR_mono hB h.2.2.2⟩
theorem SC_congr {α β α' β' : St} (h : SC α β) (h1 : ∀ p, p < 8 → gI α' 5 p 2 = gI α 5 p 2) (h2 : ∀ k, gR α' 8 k 1 = gR α 8 k 1) (h3 : ∀ k, gI α' 8 k 2 = gI α 8 k 2) (h4 : ∀ k, gI α' 8 k 3 = gI α 8 k 3) (h5 : ∀ k, gI β' 22 0 k = gI β 22 0 k) (h6 : ∀ p, gI β' 21 0 p = gI β 21 0 p) : SC α' β' := by
  intro k hk
  obtain ⟨b1, b2, b3⟩ := h k hk
  refine ⟨?_, fun p hp => ?_, fun k' p hk' hp hp' => ?_⟩
  · rw [h5, b1]; unfold f_X0_code; rw [h2, h3]
  · rw [h2] at hp
    obtain ⟨d1, d2, d3⟩ := b2 p hp
    exact ⟨d1, by rw [h1 p d1]; exact d2, fun hz => by rw [h4, h6]; exact d3 (by rw [← h3]; exact hz)⟩
  · rw [h2] at hp hp'
    exact b3 k' p hk' hp hp'
theorem SP1_mk {α β α' β' : St} {q : Nat} (h : SP1 α β q) (e2 : gI α' 5 q 2 = gI α 5 q 2) (e3 : gI α' 5 q 3 = gI α 5 q 3) (e8 : gI α' 5 q 8 = gI α 5 q 8) (m15 : gI β' 15 0 q = gI β 15 0 q) (m16 : gI β' 16 0 q = gI β 16 0 q) (m20 : gI β' 20 0 q = gI β 20 0 q) (f4 : ¬ gI α 5 q 2 = 0 → gI α' 5 q 4 = gI β' 17 0 q) (f5 : gI α' 5 q 5 = gI β' 18 0 (7 * q)) (f6 : gI α' 5 q 6 = gI β' 18 0 (7 * q + 1)) (f7 : gI α' 5 q 7 = gI β' 18 0 (7 * q + 2)) (fw : ∀ k, k < 4 → gI α' 6 q k = gI β' 18 0 (7 * q + 3 + k)) : SP1 α' β' q := by
  obtain ⟨a1, a2, a3, a4, a5, a6, a7, a8, a9⟩ := h
  exact ⟨by rw [e2, m15]; exact a1, by rw [e3, m16]; exact a2, by rw [e2]; exact f4, f5, f6, f7, fw, by rw [e3]; exact a8, by rw [e2, e8, m20]; exact a9⟩

theorem S0_put {B p : Nat} {x : Int32} {α β : St} (h : S0 B α β) (hp : p < 8)  : S0 B (f_X2_put α p x) (f_X6_push β p x) := by
  refine ⟨fun q hq => ?_, h.2.1, SC_congr h.2.2.1 ?_ (fun _ => rfl) (fun _ => rfl) (fun _ => rfl) (fun _ => rfl) (fun _ => rfl), h.2.2.2⟩
  · have a := h.1 q hq
    obtain ⟨a1, a2, a3, a4, a5, a6, a7, a8, a9⟩ := id a
    by_cases hqp : q = p
    · subst hqp
      refine SP1_mk a ?_ ?_ ?_ ?_ ?_ ?_ ?_ ?_ ?_ ?_ ?_
      all_goals (intros; try simp only [f_X2_put, f_X6_push, gI_sI]; (repeat' split) <;> first | rfl | assumption | omega | (apply a7; assumption) | (apply a3; assumption))
    · refine SP1_mk a ?_ ?_ ?_ ?_ ?_ ?_ ?_ ?_ ?_ ?_ ?_
      all_goals (intros; try simp only [f_X2_put, f_X6_push, gI_sI]; (repeat' split) <;> first | rfl | assumption | omega | (apply a7; assumption) | (apply a3; assumption))
  · intro q hq
    (intros; try simp only [f_X2_put, f_X6_push, gI_sI]; (repeat' split) <;> first | rfl | assumption | omega )

theorem S0_drop {B p : Nat}  {α β : St} (h : S0 B α β) (hp : p < 8)  : S0 B (f_X2_drop α p) (f_X6_pull β p) := by
  refine ⟨fun q hq => ?_, h.2.1, SC_congr h.2.2.1 ?_ (fun _ => rfl) (fun _ => rfl) (fun _ => rfl) (fun _ => rfl) (fun _ => rfl), h.2.2.2⟩
  · have a := h.1 q hq
    obtain ⟨a1, a2, a3, a4, a5, a6, a7, a8, a9⟩ := id a
    by_cases hqp : q = p
    · subst hqp
      refine SP1_mk a ?_ ?_ ?_ ?_ ?_ ?_ ?_ ?_ ?_ ?_ ?_
      all_goals (intros; try simp only [f_X2_drop, f_X6_pull, gI_sI]; (repeat' split) <;> first | rfl | assumption | omega | (apply a7; assumption) | (apply a3; assumption))
    · refine SP1_mk a ?_ ?_ ?_ ?_ ?_ ?_ ?_ ?_ ?_ ?_ ?_
      all_goals (intros; try simp only [f_X2_drop, f_X6_pull, gI_sI]; (repeat' split) <;> first | rfl | assumption | omega | (apply a7; assumption) | (apply a3; assumption))
  · intro q hq
    (intros; try simp only [f_X2_drop, f_X6_pull, gI_sI]; (repeat' split) <;> first | rfl | assumption | omega )

theorem S0_rep {B p : Nat} {x : Int32} {α β : St} (h : S0 B α β) (hp : p < 8)  : S0 B (f_X2_replaceTwo α p x) (sI (sI β 18 0 (7 * p) x) 18 0 (7 * p + 1) (gI (sI β 18 0 (7 * p) x) 18 0 (7 * p + 2))) := by
  refine ⟨fun q hq => ?_, h.2.1, SC_congr h.2.2.1 ?_ (fun _ => rfl) (fun _ => rfl) (fun _ => rfl) (fun _ => rfl) (fun _ => rfl), h.2.2.2⟩
  · have a := h.1 q hq
    obtain ⟨a1, a2, a3, a4, a5, a6, a7, a8, a9⟩ := id a
    by_cases hqp : q = p
    · subst hqp
      refine SP1_mk a ?_ ?_ ?_ ?_ ?_ ?_ ?_ ?_ ?_ ?_ ?_
      all_goals (intros; try simp only [f_X2_replaceTwo, gI_sI]; (repeat' split) <;> first | rfl | assumption | omega | (apply a7; assumption) | (apply a3; assumption))
    · refine SP1_mk a ?_ ?_ ?_ ?_ ?_ ?_ ?_ ?_ ?_ ?_ ?_
      all_goals (intros; try simp only [f_X2_replaceTwo, gI_sI]; (repeat' split) <;> first | rfl | assumption | omega | (apply a7; assumption) | (apply a3; assumption))
  · intro q hq
    (intros; try simp only [f_X2_replaceTwo, gI_sI]; (repeat' split) <;> first | rfl | assumption | omega )

theorem S0_word {B p c : Nat} {x : Int32} {α β : St} (h : S0 B α β) (hp : p < 8) (hc : c < 4) : S0 B (sI α 6 p c x) (sI β 18 0 (7 * p + 3 + c) x) := by
  refine ⟨fun q hq => ?_, h.2.1, h.2.2.1, h.2.2.2⟩
  obtain ⟨a1, a2, a3, a4, a5, a6, a7, a8, a9⟩ := h.1 q hq
  refine ⟨a1, a2, a3, ?_, ?_, ?_, fun k hk => ?_, a8, a9⟩
  · rw [gI_sI, gI_sI, if_neg (by omega), if_neg (by omega)]; exact a4
  · rw [gI_sI, gI_sI, if_neg (by omega), if_neg (by omega)]; exact a5
  · rw [gI_sI, gI_sI, if_neg (by omega), if_neg (by omega)]; exact a6
  · rw [gI_sI, gI_sI]
    by_cases hkc : q = p ∧ k = c
    · obtain ⟨rfl, rfl⟩ := hkc
      rw [if_pos ⟨rfl, rfl, rfl⟩, if_pos ⟨rfl, rfl, rfl⟩]
    · rw [if_neg (by omega), if_neg (by omega)]; exact a7 k hk
theorem S0_place {B p : Nat} {x : Int32} {α β : St} (h : S0 B α β) (hp : p < 8)  : S0 B (sI α 5 p 4 x) (sI β 17 0 p x) := by
  refine ⟨fun q hq => ?_, h.2.1, SC_congr h.2.2.1 ?_ (fun _ => rfl) (fun _ => rfl) (fun _ => rfl) (fun _ => rfl) (fun _ => rfl), h.2.2.2⟩
  · have a := h.1 q hq
    obtain ⟨a1, a2, a3, a4, a5, a6, a7, a8, a9⟩ := id a
    by_cases hqp : q = p
    · subst hqp
      refine SP1_mk a ?_ ?_ ?_ ?_ ?_ ?_ ?_ ?_ ?_ ?_ ?_
      all_goals (intros; try simp only [gI_sI]; (repeat' split) <;> first | rfl | assumption | omega | (apply a7; assumption) | (apply a3; assumption))
    · refine SP1_mk a ?_ ?_ ?_ ?_ ?_ ?_ ?_ ?_ ?_ ?_ ?_
      all_goals (intros; try simp only [gI_sI]; (repeat' split) <;> first | rfl | assumption | omega | (apply a7; assumption) | (apply a3; assumption))
  · intro q hq
    (intros; try simp only [gI_sI]; (repeat' split) <;> first | rfl | assumption | omega )

theorem S0_done {B p : Nat} {x y : Int32} {α β : St} (h : S0 B α β) (hp : p < 8)  : S0 B (sI α 5 p 9 x) (sI β 13 0 12 y) := by
  refine ⟨fun q hq => ?_, h.2.1, SC_congr h.2.2.1 ?_ (fun _ => rfl) (fun _ => rfl) (fun _ => rfl) (fun _ => rfl) (fun _ => rfl), h.2.2.2⟩
  · have a := h.1 q hq
    obtain ⟨a1, a2, a3, a4, a5, a6, a7, a8, a9⟩ := id a
    by_cases hqp : q = p
    · subst hqp
      refine SP1_mk a ?_ ?_ ?_ ?_ ?_ ?_ ?_ ?_ ?_ ?_ ?_
      all_goals (intros; try simp only [gI_sI]; (repeat' split) <;> first | rfl | assumption | omega | (apply a7; assumption) | (apply a3; assumption))
    · refine SP1_mk a ?_ ?_ ?_ ?_ ?_ ?_ ?_ ?_ ?_ ?_ ?_
      all_goals (intros; try simp only [gI_sI]; (repeat' split) <;> first | rfl | assumption | omega | (apply a7; assumption) | (apply a3; assumption))
  · intro q hq
    (intros; try simp only [gI_sI]; (repeat' split) <;> first | rfl | assumption | omega )

theorem S0_doneM {B : Nat} {y : Int32} {α β : St} (h : S0 B α β) : S0 B α (sI β 13 0 12 y) := ⟨h.1, h.2.1, h.2.2.1, h.2.2.2⟩
theorem S0_active {B : Nat} {o : Option Nat} {α β : St} (h : S0 B α β) : S0 B (sR α 0 0 6 o) β := ⟨h.1, h.2.1, h.2.2.1, h.2.2.2⟩
theorem S0_clock {B : Nat} {x y : Int32} {α β : St} (h : S0 B α β) (hxy : x = y) : S0 B (sI α 0 0 7 x) (sI β 13 0 11 y) := by
  subst hxy
  exact ⟨h.1, ⟨rfl, h.2.1.2⟩, h.2.2.1, h.2.2.2⟩
