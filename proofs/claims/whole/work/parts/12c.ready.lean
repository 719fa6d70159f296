/-! THE REFERENCE'S 'ready': the i-th of the list of ready processes, sorted by rank -/
def cnt (S : Nat → Bool) : Nat → Nat
  | 0 => 0
  | n + 1 => cnt S n + (if S n then 1 else 0)
theorem cnt_congr {S T : Nat → Bool} : ∀ n, (∀ k, k < n → S k = T k) → cnt S n = cnt T n := by
  intro n
  induction n with
  | zero => intro _; rfl
  | succ n ih =>
    intro h
    unfold cnt
    rw [ih (fun k hk => h k (by omega)), h n (by omega)]
theorem cnt_insert {S T : Nat → Bool} {a : Nat} (hT : T a = false) (hS : S a = true) (hne : ∀ k, k ≠ a → S k = T k) : ∀ n, a < n → cnt S n = cnt T n + 1 := by
  intro n
  induction n with
  | zero => intro h; omega
  | succ n ih =>
    intro h
    unfold cnt
    by_cases ha : a = n
    · subst ha
      rw [hS, hT, cnt_congr a (fun k hk => hne k (by omega))]
      simp
    · rw [ih (by omega), hne n (fun q => ha q.symm)]
      omega
theorem cnt_list : ∀ (l : List Nat), l.Nodup → (∀ x ∈ l, x < 8) → cnt (fun k => decide (k ∈ l)) 8 = l.length := by
  intro l
  induction l with
  | nil => intro _ _; rfl
  | cons a l ih =>
    intro hn h8
    have hn' := List.nodup_cons.mp hn
    rw [cnt_insert (a := a) (T := fun k => decide (k ∈ l)) (by simp [hn'.1]) (by simp) (fun k hk => by simp [hk]) 8 (h8 a List.mem_cons_self), ih hn'.2 (fun x hx => h8 x (List.mem_cons_of_mem _ hx))]
    rfl
theorem len_le8 {l : List Nat} (hn : l.Nodup) (h8 : ∀ x ∈ l, x < 8) : l.length ≤ 8 := by
  rw [← cnt_list l hn h8]
  have : ∀ (S : Nat → Bool) n, cnt S n ≤ n := by
    intro S n
    induction n with
    | zero => exact Nat.le_refl _
    | succ n ih =>
      unfold cnt
      split <;> omega
  exact this _ _
def rk (β : St) (p : Nat) : Int := (gI β 19 0 p).toInt
/-- the list of the ready processes of a priority, sorted by rank -/
def RL0 (β : St) (x : Int32) (l : List Nat) : Prop := l.Pairwise (fun p q => rk β p < rk β q) ∧ ∀ p, p ∈ l ↔ p < 8 ∧ gI β 15 0 p = 1 ∧ gI β 16 0 p = x
theorem RL0.nodup {β : St} {x : Int32} {l : List Nat} (h : RL0 β x l) : l.Nodup := h.1.imp (fun {a b} hab he => by subst he; exact absurd hab (Int.lt_irrefl _))
theorem RL0.lt8 {β : St} {x : Int32} {l : List Nat} (h : RL0 β x l) : ∀ p ∈ l, p < 8 := fun p hp => ((h.2 p).mp hp).1
theorem cnt_loop {x y : Int32} {β : St} {p : Nat} : ∀ (n k w : Nat), 8 < k + n → k ≤ 8 → lp_X6_ready_37 x y n β p w k + cnt (fun k => decide (gI β 15 0 k = 1 ∧ gI β 16 0 k = x ∧ rk β k < rk β p)) k = w + cnt (fun k => decide (gI β 15 0 k = 1 ∧ gI β 16 0 k = x ∧ rk β k < rk β p)) 8 := by
  intro n
  induction n with
  | zero => intro k w h h2; omega
  | succ n ih =>
    intro k w hf hk
    unfold lp_X6_ready_37
    split
    · rename_i c
      have hk8 : k = 8 := by
        rcases Nat.lt_or_ge k 8 with q | q
        · exact absurd c (nI_ge q (by decide))
        · omega
      subst hk8; rfl
    · rename_i c
      have hk8 := ngt_8 (j := k) (by omega) 8 (by decide) c
      have hc : cnt (fun k => decide (gI β 15 0 k = 1 ∧ gI β 16 0 k = x ∧ rk β k < rk β p)) (k + 1) = cnt (fun k => decide (gI β 15 0 k = 1 ∧ gI β 16 0 k = x ∧ rk β k < rk β p)) k + (if decide (gI β 15 0 k = 1 ∧ gI β 16 0 k = x ∧ rk β k < rk β p) then 1 else 0) := rfl
      split
      · split
        · split
          · rename_i c1 c2 c3
            have h := ih (k + 1) w (by omega) (by omega)
            rw [hc, if_neg (by simp only [decide_eq_true_eq]; rintro ⟨-, -, q⟩; have := Int32.le_iff_toInt_le.mp c3; unfold rk at q; omega)] at h
            omega
          · rename_i c1 c2 c3
            have h := ih (k + 1) (w + 1) (by omega) (by omega)
            rw [hc, if_pos (by simp only [decide_eq_true_eq]; exact ⟨c1, c2, by unfold rk; have : ¬ (gI β 19 0 p).toInt ≤ (gI β 19 0 k).toInt := fun q => c3 (Int32.le_iff_toInt_le.mpr q); omega⟩)] at h
            omega
        · rename_i c1 c2
          have h := ih (k + 1) w (by omega) (by omega)
          rw [hc, if_neg (by simp only [decide_eq_true_eq]; rintro ⟨-, q, -⟩; exact c2 q)] at h
          omega
      · rename_i c1
        have h := ih (k + 1) w (by omega) (by omega)
        rw [hc, if_neg (by simp only [decide_eq_true_eq]; rintro ⟨q, -, -⟩; exact c1 q)] at h
        omega
theorem count_at {x y : Int32} {β : St} {l : List Nat} (h : RL0 β x l) {i p : Nat} (hi : l[i]? = some p) : lp_X6_ready_37 x y 9 β p 0 0 = i := by
  have hlt : i < l.length := (List.getElem?_eq_some_iff.mp hi).1
  have hp : l[i] = p := (List.getElem?_eq_some_iff.mp hi).2
  have h1 := cnt_loop (x := x) (y := y) (β := β) (p := p) 9 0 0 (by decide) (by decide)
  have h2 : cnt (fun k => decide (gI β 15 0 k = 1 ∧ gI β 16 0 k = x ∧ rk β k < rk β p)) 8 = cnt (fun k => decide (k ∈ l.take i)) 8 := by
    apply cnt_congr
    intro k hk
    rw [decide_eq_decide]
    constructor
    · rintro ⟨a, b, c⟩
      obtain ⟨j, hj⟩ := List.getElem?_of_mem ((h.2 k).mpr ⟨hk, a, b⟩)
      have hjl : j < l.length := (List.getElem?_eq_some_iff.mp hj).1
      have hjk : l[j] = k := (List.getElem?_eq_some_iff.mp hj).2
      have hji : j < i := by
        rcases Nat.lt_or_ge j i with q | q
        · exact q
        · rcases Nat.eq_or_lt_of_le q with q | q
          · subst q; rw [hp] at hjk; subst hjk; exact absurd c (Int.lt_irrefl _)
          · have := List.pairwise_iff_getElem.mp h.1 i j hlt hjl q
            rw [hp, hjk] at this
            omega
      rw [List.mem_take_iff_getElem]
      exact ⟨j, by omega, hjk⟩
    · intro hm
      rw [List.mem_take_iff_getElem] at hm
      obtain ⟨j, hj, hjk⟩ := hm
      have := List.pairwise_iff_getElem.mp h.1 j i (by omega) hlt (by omega)
      rw [hp, hjk] at this
      have hk2 := (h.2 k).mp (hjk ▸ List.getElem_mem _)
      exact ⟨hk2.2.1, hk2.2.2, this⟩
  rw [h2, cnt_list _ (List.Sublist.nodup (List.take_sublist i l) h.nodup) (fun q hq => h.lt8 q (List.mem_of_mem_take hq)), List.length_take] at h1
  have : cnt (fun k => decide (gI β 15 0 k = 1 ∧ gI β 16 0 k = x ∧ rk β k < rk β p)) 0 = 0 := rfl
  omega
theorem ready_none {x y : Int32} {β : St} : ∀ (n j : Nat), j ≤ 8 → (∀ k, j ≤ k → k < 8 → gI β 15 0 k = 1 → gI β 16 0 k = x → ¬ nI (lp_X6_ready_37 x y 9 β k 0 0) = y) → lp_X6_ready_2 x y n β j = none := by
  intro n
  induction n with
  | zero => intro j _ _; rfl
  | succ n ih =>
    intro j hj h
    unfold lp_X6_ready_2
    split
    · rfl
    · rename_i c
      have hj8 := ngt_8 (j := j) (by omega) 8 (by decide) c
      have ih' := ih (j + 1) (by omega) (fun k h1 h2 => h k (by omega) h2)
      split
      · split
        · rename_i c1 c2
          rw [if_neg (h j (Nat.le_refl _) hj8 c1 c2)]; exact ih'
        · exact ih'
      · exact ih'
theorem ready_some {x y : Int32} {β : St} {q : Nat} (hq : q < 8) (h1 : gI β 15 0 q = 1) (h2 : gI β 16 0 q = x) (h3 : nI (lp_X6_ready_37 x y 9 β q 0 0) = y) : ∀ (n j : Nat), 8 < j + n → j ≤ q → (∀ k, k < q → gI β 15 0 k = 1 → gI β 16 0 k = x → ¬ nI (lp_X6_ready_37 x y 9 β k 0 0) = y) → lp_X6_ready_2 x y n β j = some q := by
  intro n
  induction n with
  | zero => intro j h _ _; omega
  | succ n ih =>
    intro j hf hj h
    unfold lp_X6_ready_2
    rw [if_neg (show ¬ (8 : Int32) ≤ nI j from nI_ge (show j < 8 by omega) (by decide))]
    by_cases hjq : j = q
    · subst hjq
      rw [if_pos h1, if_pos h2, if_pos h3]
    · have ih' := ih (j + 1) (by omega) (by omega) h
      split
      · split
        · rename_i c1 c2
          rw [if_neg (h j (by omega) c1 c2)]; exact ih'
        · exact ih'
      · exact ih'
theorem ready_spec {x : Int32} {β : St} {l : List Nat} (h : RL0 β x l) (i : Nat) (hi : i < 2 ^ 31) : f_X6_ready β x (nI i) = l[i]? := by
  have hl8 := len_le8 h.nodup h.lt8
  unfold f_X6_ready
  have key : ∀ k, k < 8 → gI β 15 0 k = 1 → gI β 16 0 k = x → nI (lp_X6_ready_37 x (nI i) 9 β k 0 0) = nI i → l[i]? = some k := by
    intro k hk a b c
    obtain ⟨j, hj⟩ := List.getElem?_of_mem ((h.2 k).mpr ⟨hk, a, b⟩)
    have hjl : j < l.length := (List.getElem?_eq_some_iff.mp hj).1
    rw [count_at h hj] at c
    have : j = i := (nI_eq (by omega) hi).mp c
    subst this; exact hj
  cases hli : l[i]? with
  | none =>
    exact ready_none 9 0 (by decide) (fun k _ hk a b c => by have := key k hk a b c; rw [hli] at this; cases this)
  | some q =>
    have hq := (h.2 q).mp (List.mem_of_getElem? hli)
    exact ready_some hq.1 hq.2.1 hq.2.2 (by rw [count_at h hli]) 9 0 (by decide) (Nat.zero_le _) (fun k hk a b c => by have := key k (by omega) a b c; rw [hli] at this; cases this; omega)
