/-! ADD -/
def aE (σ : St) (x y : Int32) : Int32 × St := (if nI (lN0 σ) = 40 then ((-3), σ) else ((gI (sI (sI (sI σ 14 0 (2 * (lN0 σ)) x) 14 0 ((2 * (lN0 σ)) + 1) y) 13 0 1 ((nI (lN0 σ)) + 1)) 13 0 1) - 1, sI (sI (sI σ 14 0 (2 * (lN0 σ)) x) 14 0 ((2 * (lN0 σ)) + 1) y) 13 0 1 ((nI (lN0 σ)) + 1)))
theorem addM_eq (σ : St) (x y : Int32) : f_X6_add σ x y = (if f_X6_within σ x 0 15 = 0 then ((-1), σ) else (if x = 2 then (if f_X6_within σ y 0 3 = 0 then ((-2), σ) else (if x = 8 then (if f_X6_within σ y 0 39 = 0 then ((-2), σ) else (if x = 14 then (if f_X6_within σ y 0 79 = 0 then ((-2), σ) else aE σ x y) else aE σ x y)) else (if x = 9 then (if f_X6_within σ y 0 39 = 0 then ((-2), σ) else (if x = 14 then (if f_X6_within σ y 0 79 = 0 then ((-2), σ) else aE σ x y) else aE σ x y)) else (if x = 14 then (if f_X6_within σ y 0 79 = 0 then ((-2), σ) else aE σ x y) else aE σ x y)))) else (if x = 3 then (if f_X6_within σ y 0 3 = 0 then ((-2), σ) else (if x = 8 then (if f_X6_within σ y 0 39 = 0 then ((-2), σ) else (if x = 14 then (if f_X6_within σ y 0 79 = 0 then ((-2), σ) else aE σ x y) else aE σ x y)) else (if x = 9 then (if f_X6_within σ y 0 39 = 0 then ((-2), σ) else (if x = 14 then (if f_X6_within σ y 0 79 = 0 then ((-2), σ) else aE σ x y) else aE σ x y)) else (if x = 14 then (if f_X6_within σ y 0 79 = 0 then ((-2), σ) else aE σ x y) else aE σ x y)))) else (if x = 10 then (if f_X6_within σ y 0 3 = 0 then ((-2), σ) else (if x = 8 then (if f_X6_within σ y 0 39 = 0 then ((-2), σ) else (if x = 14 then (if f_X6_within σ y 0 79 = 0 then ((-2), σ) else aE σ x y) else aE σ x y)) else (if x = 9 then (if f_X6_within σ y 0 39 = 0 then ((-2), σ) else (if x = 14 then (if f_X6_within σ y 0 79 = 0 then ((-2), σ) else aE σ x y) else aE σ x y)) else (if x = 14 then (if f_X6_within σ y 0 79 = 0 then ((-2), σ) else aE σ x y) else aE σ x y)))) else (if x = 11 then (if f_X6_within σ y 0 3 = 0 then ((-2), σ) else (if x = 8 then (if f_X6_within σ y 0 39 = 0 then ((-2), σ) else (if x = 14 then (if f_X6_within σ y 0 79 = 0 then ((-2), σ) else aE σ x y) else aE σ x y)) else (if x = 9 then (if f_X6_within σ y 0 39 = 0 then ((-2), σ) else (if x = 14 then (if f_X6_within σ y 0 79 = 0 then ((-2), σ) else aE σ x y) else aE σ x y)) else (if x = 14 then (if f_X6_within σ y 0 79 = 0 then ((-2), σ) else aE σ x y) else aE σ x y)))) else (if x = 8 then (if f_X6_within σ y 0 39 = 0 then ((-2), σ) else (if x = 14 then (if f_X6_within σ y 0 79 = 0 then ((-2), σ) else aE σ x y) else aE σ x y)) else (if x = 9 then (if f_X6_within σ y 0 39 = 0 then ((-2), σ) else (if x = 14 then (if f_X6_within σ y 0 79 = 0 then ((-2), σ) else aE σ x y) else aE σ x y)) else (if x = 14 then (if f_X6_within σ y 0 79 = 0 then ((-2), σ) else aE σ x y) else aE σ x y)))))))) := rfl
def badO (o : Nat) (y : Int32) : Prop := ((o = 2 ∨ o = 3 ∨ o = 10 ∨ o = 11) ∧ (y < 0 ∨ 4 ≤ y)) ∨ ((o = 8 ∨ o = 9) ∧ (y < 0 ∨ 40 ≤ y)) ∨ (o = 14 ∧ (y < 0 ∨ 80 ≤ y))
theorem isO_0 (σ : St) (y : Int32) : f_X5_isOperand σ 0 y = 1 := by
  unfold f_X5_isOperand
  rw [if_neg (show ¬ (0 : Int32) = 2 by decide), if_neg (show ¬ (0 : Int32) = 3 by decide), if_neg (show ¬ (0 : Int32) = 4 by decide), if_neg (show ¬ (0 : Int32) = 5 by decide), if_neg (show ¬ (0 : Int32) = 6 by decide), if_neg (show ¬ (0 : Int32) = 7 by decide), if_neg (show ¬ (0 : Int32) = 8 by decide), if_neg (show ¬ (0 : Int32) = 9 by decide), if_neg (show ¬ (0 : Int32) = 10 by decide), if_neg (show ¬ (0 : Int32) = 11 by decide), if_neg (show ¬ (0 : Int32) = 12 by decide), if_neg (show ¬ (0 : Int32) = 13 by decide), if_neg (show ¬ (0 : Int32) = 14 by decide)]
theorem adM_0 (σ : St) (y : Int32) : f_X6_add σ 0 y = aE σ 0 y := by
  rw [addM_eq, show f_X6_within σ 0 0 15 = 1 from within1 (by decide) (by decide), if_neg (show ¬ (1 : Int32) = 0 by decide), if_neg (show ¬ (0 : Int32) = 2 by decide), if_neg (show ¬ (0 : Int32) = 3 by decide), if_neg (show ¬ (0 : Int32) = 10 by decide), if_neg (show ¬ (0 : Int32) = 11 by decide), if_neg (show ¬ (0 : Int32) = 8 by decide), if_neg (show ¬ (0 : Int32) = 9 by decide), if_neg (show ¬ (0 : Int32) = 14 by decide)]
theorem isO_1 (σ : St) (y : Int32) : f_X5_isOperand σ 1 y = 1 := by
  unfold f_X5_isOperand
  rw [if_neg (show ¬ (1 : Int32) = 2 by decide), if_neg (show ¬ (1 : Int32) = 3 by decide), if_neg (show ¬ (1 : Int32) = 4 by decide), if_neg (show ¬ (1 : Int32) = 5 by decide), if_neg (show ¬ (1 : Int32) = 6 by decide), if_neg (show ¬ (1 : Int32) = 7 by decide), if_neg (show ¬ (1 : Int32) = 8 by decide), if_neg (show ¬ (1 : Int32) = 9 by decide), if_neg (show ¬ (1 : Int32) = 10 by decide), if_neg (show ¬ (1 : Int32) = 11 by decide), if_neg (show ¬ (1 : Int32) = 12 by decide), if_neg (show ¬ (1 : Int32) = 13 by decide), if_neg (show ¬ (1 : Int32) = 14 by decide)]
theorem adM_1 (σ : St) (y : Int32) : f_X6_add σ 1 y = aE σ 1 y := by
  rw [addM_eq, show f_X6_within σ 1 0 15 = 1 from within1 (by decide) (by decide), if_neg (show ¬ (1 : Int32) = 0 by decide), if_neg (show ¬ (1 : Int32) = 2 by decide), if_neg (show ¬ (1 : Int32) = 3 by decide), if_neg (show ¬ (1 : Int32) = 10 by decide), if_neg (show ¬ (1 : Int32) = 11 by decide), if_neg (show ¬ (1 : Int32) = 8 by decide), if_neg (show ¬ (1 : Int32) = 9 by decide), if_neg (show ¬ (1 : Int32) = 14 by decide)]
theorem isO_2 (σ : St) (y : Int32) : f_X5_isOperand σ 2 y = (if y < 0 then 0 else (if 4 ≤ y then 0 else 1)) := by
  unfold f_X5_isOperand
  rw [if_pos rfl]
theorem adM_2 (σ : St) (y : Int32) : f_X6_add σ 2 y = if f_X6_within σ y 0 3 = 0 then ((-2), σ) else aE σ 2 y := by
  rw [addM_eq, show f_X6_within σ 2 0 15 = 1 from within1 (by decide) (by decide), if_neg (show ¬ (1 : Int32) = 0 by decide), if_pos rfl, if_neg (show ¬ (2 : Int32) = 8 by decide), if_neg (show ¬ (2 : Int32) = 9 by decide), if_neg (show ¬ (2 : Int32) = 14 by decide)]
theorem isO_3 (σ : St) (y : Int32) : f_X5_isOperand σ 3 y = (if y < 0 then 0 else (if 4 ≤ y then 0 else 1)) := by
  unfold f_X5_isOperand
  rw [if_neg (show ¬ (3 : Int32) = 2 by decide), if_pos rfl]
theorem adM_3 (σ : St) (y : Int32) : f_X6_add σ 3 y = if f_X6_within σ y 0 3 = 0 then ((-2), σ) else aE σ 3 y := by
  rw [addM_eq, show f_X6_within σ 3 0 15 = 1 from within1 (by decide) (by decide), if_neg (show ¬ (1 : Int32) = 0 by decide), if_neg (show ¬ (3 : Int32) = 2 by decide), if_pos rfl, if_neg (show ¬ (3 : Int32) = 8 by decide), if_neg (show ¬ (3 : Int32) = 9 by decide), if_neg (show ¬ (3 : Int32) = 14 by decide)]
theorem isO_4 (σ : St) (y : Int32) : f_X5_isOperand σ 4 y = 1 := by
  unfold f_X5_isOperand
  rw [if_neg (show ¬ (4 : Int32) = 2 by decide), if_neg (show ¬ (4 : Int32) = 3 by decide), if_pos rfl]
theorem adM_4 (σ : St) (y : Int32) : f_X6_add σ 4 y = aE σ 4 y := by
  rw [addM_eq, show f_X6_within σ 4 0 15 = 1 from within1 (by decide) (by decide), if_neg (show ¬ (1 : Int32) = 0 by decide), if_neg (show ¬ (4 : Int32) = 2 by decide), if_neg (show ¬ (4 : Int32) = 3 by decide), if_neg (show ¬ (4 : Int32) = 10 by decide), if_neg (show ¬ (4 : Int32) = 11 by decide), if_neg (show ¬ (4 : Int32) = 8 by decide), if_neg (show ¬ (4 : Int32) = 9 by decide), if_neg (show ¬ (4 : Int32) = 14 by decide)]
theorem isO_5 (σ : St) (y : Int32) : f_X5_isOperand σ 5 y = 1 := by
  unfold f_X5_isOperand
  rw [if_neg (show ¬ (5 : Int32) = 2 by decide), if_neg (show ¬ (5 : Int32) = 3 by decide), if_neg (show ¬ (5 : Int32) = 4 by decide), if_pos rfl]
theorem adM_5 (σ : St) (y : Int32) : f_X6_add σ 5 y = aE σ 5 y := by
  rw [addM_eq, show f_X6_within σ 5 0 15 = 1 from within1 (by decide) (by decide), if_neg (show ¬ (1 : Int32) = 0 by decide), if_neg (show ¬ (5 : Int32) = 2 by decide), if_neg (show ¬ (5 : Int32) = 3 by decide), if_neg (show ¬ (5 : Int32) = 10 by decide), if_neg (show ¬ (5 : Int32) = 11 by decide), if_neg (show ¬ (5 : Int32) = 8 by decide), if_neg (show ¬ (5 : Int32) = 9 by decide), if_neg (show ¬ (5 : Int32) = 14 by decide)]
theorem isO_6 (σ : St) (y : Int32) : f_X5_isOperand σ 6 y = 1 := by
  unfold f_X5_isOperand
  rw [if_neg (show ¬ (6 : Int32) = 2 by decide), if_neg (show ¬ (6 : Int32) = 3 by decide), if_neg (show ¬ (6 : Int32) = 4 by decide), if_neg (show ¬ (6 : Int32) = 5 by decide), if_pos rfl]
theorem adM_6 (σ : St) (y : Int32) : f_X6_add σ 6 y = aE σ 6 y := by
  rw [addM_eq, show f_X6_within σ 6 0 15 = 1 from within1 (by decide) (by decide), if_neg (show ¬ (1 : Int32) = 0 by decide), if_neg (show ¬ (6 : Int32) = 2 by decide), if_neg (show ¬ (6 : Int32) = 3 by decide), if_neg (show ¬ (6 : Int32) = 10 by decide), if_neg (show ¬ (6 : Int32) = 11 by decide), if_neg (show ¬ (6 : Int32) = 8 by decide), if_neg (show ¬ (6 : Int32) = 9 by decide), if_neg (show ¬ (6 : Int32) = 14 by decide)]
theorem isO_7 (σ : St) (y : Int32) : f_X5_isOperand σ 7 y = 1 := by
  unfold f_X5_isOperand
  rw [if_neg (show ¬ (7 : Int32) = 2 by decide), if_neg (show ¬ (7 : Int32) = 3 by decide), if_neg (show ¬ (7 : Int32) = 4 by decide), if_neg (show ¬ (7 : Int32) = 5 by decide), if_neg (show ¬ (7 : Int32) = 6 by decide), if_pos rfl]
theorem adM_7 (σ : St) (y : Int32) : f_X6_add σ 7 y = aE σ 7 y := by
  rw [addM_eq, show f_X6_within σ 7 0 15 = 1 from within1 (by decide) (by decide), if_neg (show ¬ (1 : Int32) = 0 by decide), if_neg (show ¬ (7 : Int32) = 2 by decide), if_neg (show ¬ (7 : Int32) = 3 by decide), if_neg (show ¬ (7 : Int32) = 10 by decide), if_neg (show ¬ (7 : Int32) = 11 by decide), if_neg (show ¬ (7 : Int32) = 8 by decide), if_neg (show ¬ (7 : Int32) = 9 by decide), if_neg (show ¬ (7 : Int32) = 14 by decide)]
theorem isO_8 (σ : St) (y : Int32) : f_X5_isOperand σ 8 y = (if y < 0 then 0 else (if 40 ≤ y then 0 else 1)) := by
  unfold f_X5_isOperand
  rw [if_neg (show ¬ (8 : Int32) = 2 by decide), if_neg (show ¬ (8 : Int32) = 3 by decide), if_neg (show ¬ (8 : Int32) = 4 by decide), if_neg (show ¬ (8 : Int32) = 5 by decide), if_neg (show ¬ (8 : Int32) = 6 by decide), if_neg (show ¬ (8 : Int32) = 7 by decide), if_pos rfl]
theorem adM_8 (σ : St) (y : Int32) : f_X6_add σ 8 y = if f_X6_within σ y 0 39 = 0 then ((-2), σ) else aE σ 8 y := by
  rw [addM_eq, show f_X6_within σ 8 0 15 = 1 from within1 (by decide) (by decide), if_neg (show ¬ (1 : Int32) = 0 by decide), if_neg (show ¬ (8 : Int32) = 2 by decide), if_neg (show ¬ (8 : Int32) = 3 by decide), if_neg (show ¬ (8 : Int32) = 10 by decide), if_neg (show ¬ (8 : Int32) = 11 by decide), if_pos rfl, if_neg (show ¬ (8 : Int32) = 14 by decide)]
theorem isO_9 (σ : St) (y : Int32) : f_X5_isOperand σ 9 y = (if y < 0 then 0 else (if 40 ≤ y then 0 else 1)) := by
  unfold f_X5_isOperand
  rw [if_neg (show ¬ (9 : Int32) = 2 by decide), if_neg (show ¬ (9 : Int32) = 3 by decide), if_neg (show ¬ (9 : Int32) = 4 by decide), if_neg (show ¬ (9 : Int32) = 5 by decide), if_neg (show ¬ (9 : Int32) = 6 by decide), if_neg (show ¬ (9 : Int32) = 7 by decide), if_neg (show ¬ (9 : Int32) = 8 by decide), if_pos rfl]
theorem adM_9 (σ : St) (y : Int32) : f_X6_add σ 9 y = if f_X6_within σ y 0 39 = 0 then ((-2), σ) else aE σ 9 y := by
  rw [addM_eq, show f_X6_within σ 9 0 15 = 1 from within1 (by decide) (by decide), if_neg (show ¬ (1 : Int32) = 0 by decide), if_neg (show ¬ (9 : Int32) = 2 by decide), if_neg (show ¬ (9 : Int32) = 3 by decide), if_neg (show ¬ (9 : Int32) = 10 by decide), if_neg (show ¬ (9 : Int32) = 11 by decide), if_neg (show ¬ (9 : Int32) = 8 by decide), if_pos rfl, if_neg (show ¬ (9 : Int32) = 14 by decide)]
theorem isO_10 (σ : St) (y : Int32) : f_X5_isOperand σ 10 y = (if y < 0 then 0 else (if 4 ≤ y then 0 else 1)) := by
  unfold f_X5_isOperand
  rw [if_neg (show ¬ (10 : Int32) = 2 by decide), if_neg (show ¬ (10 : Int32) = 3 by decide), if_neg (show ¬ (10 : Int32) = 4 by decide), if_neg (show ¬ (10 : Int32) = 5 by decide), if_neg (show ¬ (10 : Int32) = 6 by decide), if_neg (show ¬ (10 : Int32) = 7 by decide), if_neg (show ¬ (10 : Int32) = 8 by decide), if_neg (show ¬ (10 : Int32) = 9 by decide), if_pos rfl]
theorem adM_10 (σ : St) (y : Int32) : f_X6_add σ 10 y = if f_X6_within σ y 0 3 = 0 then ((-2), σ) else aE σ 10 y := by
  rw [addM_eq, show f_X6_within σ 10 0 15 = 1 from within1 (by decide) (by decide), if_neg (show ¬ (1 : Int32) = 0 by decide), if_neg (show ¬ (10 : Int32) = 2 by decide), if_neg (show ¬ (10 : Int32) = 3 by decide), if_pos rfl, if_neg (show ¬ (10 : Int32) = 8 by decide), if_neg (show ¬ (10 : Int32) = 9 by decide), if_neg (show ¬ (10 : Int32) = 14 by decide)]
theorem isO_11 (σ : St) (y : Int32) : f_X5_isOperand σ 11 y = (if y < 0 then 0 else (if 4 ≤ y then 0 else 1)) := by
  unfold f_X5_isOperand
  rw [if_neg (show ¬ (11 : Int32) = 2 by decide), if_neg (show ¬ (11 : Int32) = 3 by decide), if_neg (show ¬ (11 : Int32) = 4 by decide), if_neg (show ¬ (11 : Int32) = 5 by decide), if_neg (show ¬ (11 : Int32) = 6 by decide), if_neg (show ¬ (11 : Int32) = 7 by decide), if_neg (show ¬ (11 : Int32) = 8 by decide), if_neg (show ¬ (11 : Int32) = 9 by decide), if_neg (show ¬ (11 : Int32) = 10 by decide), if_pos rfl]
theorem adM_11 (σ : St) (y : Int32) : f_X6_add σ 11 y = if f_X6_within σ y 0 3 = 0 then ((-2), σ) else aE σ 11 y := by
  rw [addM_eq, show f_X6_within σ 11 0 15 = 1 from within1 (by decide) (by decide), if_neg (show ¬ (1 : Int32) = 0 by decide), if_neg (show ¬ (11 : Int32) = 2 by decide), if_neg (show ¬ (11 : Int32) = 3 by decide), if_neg (show ¬ (11 : Int32) = 10 by decide), if_pos rfl, if_neg (show ¬ (11 : Int32) = 8 by decide), if_neg (show ¬ (11 : Int32) = 9 by decide), if_neg (show ¬ (11 : Int32) = 14 by decide)]
theorem isO_12 (σ : St) (y : Int32) : f_X5_isOperand σ 12 y = 1 := by
  unfold f_X5_isOperand
  rw [if_neg (show ¬ (12 : Int32) = 2 by decide), if_neg (show ¬ (12 : Int32) = 3 by decide), if_neg (show ¬ (12 : Int32) = 4 by decide), if_neg (show ¬ (12 : Int32) = 5 by decide), if_neg (show ¬ (12 : Int32) = 6 by decide), if_neg (show ¬ (12 : Int32) = 7 by decide), if_neg (show ¬ (12 : Int32) = 8 by decide), if_neg (show ¬ (12 : Int32) = 9 by decide), if_neg (show ¬ (12 : Int32) = 10 by decide), if_neg (show ¬ (12 : Int32) = 11 by decide), if_pos rfl]
theorem adM_12 (σ : St) (y : Int32) : f_X6_add σ 12 y = aE σ 12 y := by
  rw [addM_eq, show f_X6_within σ 12 0 15 = 1 from within1 (by decide) (by decide), if_neg (show ¬ (1 : Int32) = 0 by decide), if_neg (show ¬ (12 : Int32) = 2 by decide), if_neg (show ¬ (12 : Int32) = 3 by decide), if_neg (show ¬ (12 : Int32) = 10 by decide), if_neg (show ¬ (12 : Int32) = 11 by decide), if_neg (show ¬ (12 : Int32) = 8 by decide), if_neg (show ¬ (12 : Int32) = 9 by decide), if_neg (show ¬ (12 : Int32) = 14 by decide)]
theorem isO_13 (σ : St) (y : Int32) : f_X5_isOperand σ 13 y = 1 := by
  unfold f_X5_isOperand
  rw [if_neg (show ¬ (13 : Int32) = 2 by decide), if_neg (show ¬ (13 : Int32) = 3 by decide), if_neg (show ¬ (13 : Int32) = 4 by decide), if_neg (show ¬ (13 : Int32) = 5 by decide), if_neg (show ¬ (13 : Int32) = 6 by decide), if_neg (show ¬ (13 : Int32) = 7 by decide), if_neg (show ¬ (13 : Int32) = 8 by decide), if_neg (show ¬ (13 : Int32) = 9 by decide), if_neg (show ¬ (13 : Int32) = 10 by decide), if_neg (show ¬ (13 : Int32) = 11 by decide), if_neg (show ¬ (13 : Int32) = 12 by decide), if_pos rfl]
theorem adM_13 (σ : St) (y : Int32) : f_X6_add σ 13 y = aE σ 13 y := by
  rw [addM_eq, show f_X6_within σ 13 0 15 = 1 from within1 (by decide) (by decide), if_neg (show ¬ (1 : Int32) = 0 by decide), if_neg (show ¬ (13 : Int32) = 2 by decide), if_neg (show ¬ (13 : Int32) = 3 by decide), if_neg (show ¬ (13 : Int32) = 10 by decide), if_neg (show ¬ (13 : Int32) = 11 by decide), if_neg (show ¬ (13 : Int32) = 8 by decide), if_neg (show ¬ (13 : Int32) = 9 by decide), if_neg (show ¬ (13 : Int32) = 14 by decide)]
theorem isO_14 (σ : St) (y : Int32) : f_X5_isOperand σ 14 y = (if y < 0 then 0 else (if 80 ≤ y then 0 else 1)) := by
  unfold f_X5_isOperand
  rw [if_neg (show ¬ (14 : Int32) = 2 by decide), if_neg (show ¬ (14 : Int32) = 3 by decide), if_neg (show ¬ (14 : Int32) = 4 by decide), if_neg (show ¬ (14 : Int32) = 5 by decide), if_neg (show ¬ (14 : Int32) = 6 by decide), if_neg (show ¬ (14 : Int32) = 7 by decide), if_neg (show ¬ (14 : Int32) = 8 by decide), if_neg (show ¬ (14 : Int32) = 9 by decide), if_neg (show ¬ (14 : Int32) = 10 by decide), if_neg (show ¬ (14 : Int32) = 11 by decide), if_neg (show ¬ (14 : Int32) = 12 by decide), if_neg (show ¬ (14 : Int32) = 13 by decide), if_pos rfl]
theorem adM_14 (σ : St) (y : Int32) : f_X6_add σ 14 y = if f_X6_within σ y 0 79 = 0 then ((-2), σ) else aE σ 14 y := by
  rw [addM_eq, show f_X6_within σ 14 0 15 = 1 from within1 (by decide) (by decide), if_neg (show ¬ (1 : Int32) = 0 by decide), if_neg (show ¬ (14 : Int32) = 2 by decide), if_neg (show ¬ (14 : Int32) = 3 by decide), if_neg (show ¬ (14 : Int32) = 10 by decide), if_neg (show ¬ (14 : Int32) = 11 by decide), if_neg (show ¬ (14 : Int32) = 8 by decide), if_neg (show ¬ (14 : Int32) = 9 by decide), if_pos rfl]
theorem isO_15 (σ : St) (y : Int32) : f_X5_isOperand σ 15 y = 1 := by
  unfold f_X5_isOperand
  rw [if_neg (show ¬ (15 : Int32) = 2 by decide), if_neg (show ¬ (15 : Int32) = 3 by decide), if_neg (show ¬ (15 : Int32) = 4 by decide), if_neg (show ¬ (15 : Int32) = 5 by decide), if_neg (show ¬ (15 : Int32) = 6 by decide), if_neg (show ¬ (15 : Int32) = 7 by decide), if_neg (show ¬ (15 : Int32) = 8 by decide), if_neg (show ¬ (15 : Int32) = 9 by decide), if_neg (show ¬ (15 : Int32) = 10 by decide), if_neg (show ¬ (15 : Int32) = 11 by decide), if_neg (show ¬ (15 : Int32) = 12 by decide), if_neg (show ¬ (15 : Int32) = 13 by decide), if_neg (show ¬ (15 : Int32) = 14 by decide)]
theorem adM_15 (σ : St) (y : Int32) : f_X6_add σ 15 y = aE σ 15 y := by
  rw [addM_eq, show f_X6_within σ 15 0 15 = 1 from within1 (by decide) (by decide), if_neg (show ¬ (1 : Int32) = 0 by decide), if_neg (show ¬ (15 : Int32) = 2 by decide), if_neg (show ¬ (15 : Int32) = 3 by decide), if_neg (show ¬ (15 : Int32) = 10 by decide), if_neg (show ¬ (15 : Int32) = 11 by decide), if_neg (show ¬ (15 : Int32) = 8 by decide), if_neg (show ¬ (15 : Int32) = 9 by decide), if_neg (show ¬ (15 : Int32) = 14 by decide)]
theorem lim_sim {σ : St} {y l1 : Int32} {L : Nat} (hL : l1 = nI (L - 1)) (h0 : 0 < L) (hL2 : L < 1000) : ((y < 0 ∨ nI L ≤ y) ∧ (if y < 0 then (0 : Int32) else (if nI L ≤ y then 0 else 1)) = 0 ∧ f_X6_within σ y 0 l1 = 0) ∨ ((∃ k, k < L ∧ y = nI k) ∧ (if y < 0 then (0 : Int32) else (if nI L ≤ y then 0 else 1)) = 1 ∧ f_X6_within σ y 0 l1 = 1) := by
  by_cases hy : y < 0
  · exact Or.inl ⟨Or.inl hy, by rw [if_pos hy], withinL hy⟩
  · obtain ⟨k, hk, rfl⟩ := nI_of hy
    by_cases hkL : k < L
    · exact Or.inr ⟨⟨k, hkL, rfl⟩, by rw [if_neg hy, if_neg (nI_ge hkL (by omega))], within1 hy (by rw [hL]; exact nI_nlt (by omega) (by omega))⟩
    · have hle : nI L ≤ nI k := nI_le (by omega) hk
      exact Or.inl ⟨Or.inr hle, by rw [if_neg hy, if_pos hle], withinR hy (by rw [hL]; exact nI_lt (by omega) hk)⟩
/-- an instruction that may be added -/
def opOK (x y : Int32) : Prop := ((x = 2 ∨ x = 3 ∨ x = 10 ∨ x = 11) → ∃ k, k < 4 ∧ y = nI k) ∧ ((x = 8 ∨ x = 9) → ∃ k, k < 40 ∧ y = nI k) ∧ (x = 14 → ∃ k, k < 80 ∧ y = nI k) ∧ ∃ o, o < 16 ∧ x = nI o
theorem add_kind (α β : St) {x y : Int32} {o : Nat} (ho : o < 16) (hx : x = nI o) : (f_X5_isOperand α x y = 0 ∧ f_X6_add β x y = ((-2), β)) ∨ (f_X5_isOperand α x y = 1 ∧ f_X6_add β x y = aE β x y ∧ opOK x y) := by
  rcases (show o = 0 ∨ o = 1 ∨ o = 2 ∨ o = 3 ∨ o = 4 ∨ o = 5 ∨ o = 6 ∨ o = 7 ∨ o = 8 ∨ o = 9 ∨ o = 10 ∨ o = 11 ∨ o = 12 ∨ o = 13 ∨ o = 14 ∨ o = 15 by omega) with rfl | rfl | rfl | rfl | rfl | rfl | rfl | rfl | rfl | rfl | rfl | rfl | rfl | rfl | rfl | rfl
  · obtain rfl : x = 0 := hx
    exact Or.inr ⟨isO_0 α y, adM_0 β y, fun e => absurd e (by decide), fun e => absurd e (by decide), fun e => absurd e (by decide), 0, by decide, rfl⟩
  · obtain rfl : x = 1 := hx
    exact Or.inr ⟨isO_1 α y, adM_1 β y, fun e => absurd e (by decide), fun e => absurd e (by decide), fun e => absurd e (by decide), 1, by decide, rfl⟩
  · obtain rfl : x = 2 := hx
    rw [isO_2, adM_2]
    rcases lim_sim (σ := β) (y := y) (l1 := 3) (L := 4) rfl (by decide) (by decide) with ⟨-, e1, e2⟩ | ⟨e0, e1, e2⟩
    · exact Or.inl ⟨e1, by rw [e2, if_pos rfl]⟩
    · exact Or.inr ⟨e1, by rw [e2, if_neg (by decide)], fun _ => e0, fun e => absurd e (by decide), fun e => absurd e (by decide), 2, by decide, rfl⟩
  · obtain rfl : x = 3 := hx
    rw [isO_3, adM_3]
    rcases lim_sim (σ := β) (y := y) (l1 := 3) (L := 4) rfl (by decide) (by decide) with ⟨-, e1, e2⟩ | ⟨e0, e1, e2⟩
    · exact Or.inl ⟨e1, by rw [e2, if_pos rfl]⟩
    · exact Or.inr ⟨e1, by rw [e2, if_neg (by decide)], fun _ => e0, fun e => absurd e (by decide), fun e => absurd e (by decide), 3, by decide, rfl⟩
  · obtain rfl : x = 4 := hx
    exact Or.inr ⟨isO_4 α y, adM_4 β y, fun e => absurd e (by decide), fun e => absurd e (by decide), fun e => absurd e (by decide), 4, by decide, rfl⟩
  · obtain rfl : x = 5 := hx
    exact Or.inr ⟨isO_5 α y, adM_5 β y, fun e => absurd e (by decide), fun e => absurd e (by decide), fun e => absurd e (by decide), 5, by decide, rfl⟩
  · obtain rfl : x = 6 := hx
    exact Or.inr ⟨isO_6 α y, adM_6 β y, fun e => absurd e (by decide), fun e => absurd e (by decide), fun e => absurd e (by decide), 6, by decide, rfl⟩
  · obtain rfl : x = 7 := hx
    exact Or.inr ⟨isO_7 α y, adM_7 β y, fun e => absurd e (by decide), fun e => absurd e (by decide), fun e => absurd e (by decide), 7, by decide, rfl⟩
  · obtain rfl : x = 8 := hx
    rw [isO_8, adM_8]
    rcases lim_sim (σ := β) (y := y) (l1 := 39) (L := 40) rfl (by decide) (by decide) with ⟨-, e1, e2⟩ | ⟨e0, e1, e2⟩
    · exact Or.inl ⟨e1, by rw [e2, if_pos rfl]⟩
    · exact Or.inr ⟨e1, by rw [e2, if_neg (by decide)], fun e => absurd e (by decide), fun _ => e0, fun e => absurd e (by decide), 8, by decide, rfl⟩
  · obtain rfl : x = 9 := hx
    rw [isO_9, adM_9]
    rcases lim_sim (σ := β) (y := y) (l1 := 39) (L := 40) rfl (by decide) (by decide) with ⟨-, e1, e2⟩ | ⟨e0, e1, e2⟩
    · exact Or.inl ⟨e1, by rw [e2, if_pos rfl]⟩
    · exact Or.inr ⟨e1, by rw [e2, if_neg (by decide)], fun e => absurd e (by decide), fun _ => e0, fun e => absurd e (by decide), 9, by decide, rfl⟩
  · obtain rfl : x = 10 := hx
    rw [isO_10, adM_10]
    rcases lim_sim (σ := β) (y := y) (l1 := 3) (L := 4) rfl (by decide) (by decide) with ⟨-, e1, e2⟩ | ⟨e0, e1, e2⟩
    · exact Or.inl ⟨e1, by rw [e2, if_pos rfl]⟩
    · exact Or.inr ⟨e1, by rw [e2, if_neg (by decide)], fun _ => e0, fun e => absurd e (by decide), fun e => absurd e (by decide), 10, by decide, rfl⟩
  · obtain rfl : x = 11 := hx
    rw [isO_11, adM_11]
    rcases lim_sim (σ := β) (y := y) (l1 := 3) (L := 4) rfl (by decide) (by decide) with ⟨-, e1, e2⟩ | ⟨e0, e1, e2⟩
    · exact Or.inl ⟨e1, by rw [e2, if_pos rfl]⟩
    · exact Or.inr ⟨e1, by rw [e2, if_neg (by decide)], fun _ => e0, fun e => absurd e (by decide), fun e => absurd e (by decide), 11, by decide, rfl⟩
  · obtain rfl : x = 12 := hx
    exact Or.inr ⟨isO_12 α y, adM_12 β y, fun e => absurd e (by decide), fun e => absurd e (by decide), fun e => absurd e (by decide), 12, by decide, rfl⟩
  · obtain rfl : x = 13 := hx
    exact Or.inr ⟨isO_13 α y, adM_13 β y, fun e => absurd e (by decide), fun e => absurd e (by decide), fun e => absurd e (by decide), 13, by decide, rfl⟩
  · obtain rfl : x = 14 := hx
    rw [isO_14, adM_14]
    rcases lim_sim (σ := β) (y := y) (l1 := 79) (L := 80) rfl (by decide) (by decide) with ⟨-, e1, e2⟩ | ⟨e0, e1, e2⟩
    · exact Or.inl ⟨e1, by rw [e2, if_pos rfl]⟩
    · exact Or.inr ⟨e1, by rw [e2, if_neg (by decide)], fun e => absurd e (by decide), fun e => absurd e (by decide), fun _ => e0, 14, by decide, rfl⟩
  · obtain rfl : x = 15 := hx
    exact Or.inr ⟨isO_15 α y, adM_15 β y, fun e => absurd e (by decide), fun e => absurd e (by decide), fun e => absurd e (by decide), 15, by decide, rfl⟩
theorem add_sim {B N : Nat} {x y : Int32} {α β : St} (h : Sim B α β) (ho : ok α) (hm : okM N β) : (f_X5_add α x y).1 = (f_X6_add β x y).1 ∧ Sim B (f_X5_add α x y).2 (f_X6_add β x y).2 ∧ ok (f_X5_add α x y).2 ∧ okM N (f_X6_add β x y).2 := by
  have hno : ∀ v : Int32, ((v, α).1 = (v, β).1 ∧ Sim B (v, α).2 (v, β).2 ∧ ok (v, α).2 ∧ okM N (v, β).2) := fun v => ⟨rfl, h, ho, hm⟩
  unfold f_X5_add
  by_cases h0 : x < 0
  · rw [if_pos h0, addM_eq, withinL h0, if_pos rfl]; exact hno _
  · rw [if_neg h0]
    obtain ⟨o, hk, hxo⟩ := nI_of h0
    by_cases h15 : o ≤ 15
    · rw [if_pos (show x ≤ 15 by rw [hxo]; exact nI_le (b := 15) h15 (by decide))]
      rcases add_kind α β (show o < 16 by omega) hxo (y := y) with ⟨k1, k2⟩ | ⟨k1, k2, k3⟩
      · rw [k1, if_pos rfl, k2]; exact hno _
      · rw [k1, if_neg (show ¬ (1 : Int32) = 0 by decide), k2]
        obtain ⟨hL, hL40⟩ := hm.1
        have eL : gI α 1 0 2 = nI (lN0 β) := h.1.2.1.2.1.trans hL
        unfold aE
        by_cases hF : lN0 β = 40
        · rw [eL, hF, if_neg (show ¬ nI 40 < 40 by decide), if_pos (show nI 40 = 40 from rfl)]; exact hno _
        · have hlt : lN0 β < 40 := by omega
          unfold f_X3_append
          rw [eL, if_pos (show nI (lN0 β) < 40 from nI_lt (b := 40) hlt (by decide)), if_neg (nI_pos (by omega)), if_pos (show nI (lN0 β) < 40 from nI_lt (b := 40) hlt (by decide)), if_neg (show ¬ nI (lN0 β) = 40 from fun e => hF ((nI_eq (by omega) (by decide)).mp (show nI (lN0 β) = nI 40 from e))), nI_clamp (by omega)]
          generalize lN0 β = L at hL hL40 eL hF hlt ⊢
          refine ⟨?_, ⟨⟨h.1.1, ⟨h.1.2.1.1, rfl, fun i hi => ?_, h.1.2.1.2.2.2.1, h.1.2.1.2.2.2.2⟩, h.1.2.2.1, h.1.2.2.2⟩, h.2⟩, ok_sI (by decide) (ok_sI (by decide) (ok_sI (by decide) ho)), ?_⟩
          · show nI L = nI L + 1 - 1
            rw [nI_1, nI_pred]
          · obtain ⟨a1, a2⟩ := h.1.2.1.2.2.1 i hi
            show gI (sI α 2 0 L x) 2 0 i = gI (sI (sI β 14 0 (2 * L) x) 14 0 (2 * L + 1) y) 14 0 (2 * i) ∧ gI (sI (sI α 2 0 L x) 3 0 L y) 3 0 i = gI (sI (sI β 14 0 (2 * L) x) 14 0 (2 * L + 1) y) 14 0 (2 * i + 1)
            rw [rdB, rdB, rdB, rdB, rdB, rdB]
            by_cases hi2 : i = L
            · subst hi2
              rw [if_pos rfl, if_neg (by omega), if_pos rfl, if_pos rfl, if_pos rfl]
              exact ⟨rfl, rfl⟩
            · rw [if_neg hi2, if_neg (by omega), if_neg (by omega), if_neg hi2, if_neg (by omega), if_neg (by omega)]
              exact ⟨a1, a2⟩
          · obtain ⟨-, m2, m3, m4, m5⟩ := hm
            have e1 : gI (sI (sI (sI β 14 0 (2 * L) x) 14 0 (2 * L + 1) y) 13 0 1 (nI L + 1)) 13 0 1 = nI (L + 1) := by
              rw [rdB, if_pos rfl, nI_1]
            have eN : lN0 (sI (sI (sI β 14 0 (2 * L) x) 14 0 (2 * L + 1) y) 13 0 1 (nI L + 1)) = L + 1 := by
              unfold lN0; rw [e1, nI_clamp (by omega)]
            have eN0 : lN0 β = L := by unfold lN0; rw [hL, nI_clamp (by omega)]
            refine ⟨⟨by rw [eN]; exact e1, by rw [eN]; omega⟩, m2, m3, m4, fun i hi => ?_⟩
            rw [eN] at hi
            have ea : gI (sI (sI (sI β 14 0 (2 * L) x) 14 0 (2 * L + 1) y) 13 0 1 (nI L + 1)) 14 0 (2 * i) = if i = L then x else gI β 14 0 (2 * i) := by
              show gI (sI (sI β 14 0 (2 * L) x) 14 0 (2 * L + 1) y) 14 0 (2 * i) = _
              rw [rdB, rdB, if_neg (by omega)]
              by_cases hi2 : i = L
              · rw [if_pos (by omega), if_pos hi2]
              · rw [if_neg (by omega), if_neg hi2]
            have eb : gI (sI (sI (sI β 14 0 (2 * L) x) 14 0 (2 * L + 1) y) 13 0 1 (nI L + 1)) 14 0 (2 * i + 1) = if i = L then y else gI β 14 0 (2 * i + 1) := by
              show gI (sI (sI β 14 0 (2 * L) x) 14 0 (2 * L + 1) y) 14 0 (2 * i + 1) = _
              rw [rdB, rdB]
              by_cases hi2 : i = L
              · rw [if_pos (by omega), if_pos hi2]
              · rw [if_neg (by omega), if_neg (by omega), if_neg hi2]
            rw [ea, eb]
            by_cases hi2 : i = L
            · rw [if_pos hi2, if_pos hi2]; exact k3
            · rw [if_neg hi2, if_neg hi2]; exact m5 i (by omega)
    · rw [if_neg (show ¬ x ≤ 15 by rw [hxo]; exact nI_ge (a := 15) (by omega) hk), addM_eq, withinR h0 (show 15 < x by rw [hxo]; exact nI_lt (a := 15) (by omega) hk), if_pos rfl]
      exact hno _
theorem g_add {t : Nat} {σ : St} (h : Inv t σ) : G_add Inv t σ := by
  intro x y
  have e1 : eqM σ (f_X5_add σ x y).2 := cl_add (cl_eqM σ) (eqM_refl σ)
  have hm1 := okM_eqM e1 h.2.2
  obtain ⟨r1, r2, r3, r4⟩ := add_sim (x := x) (y := y) (N := 400 * t) (B := 5000 * t) (Sim_eqM e1 h.1) h.2.1 hm1
  exact ⟨hm1.1, r1, Inv_of h e1 (cm_add (cm_eqX _) (eqX_refl _)) (fun _ _ => ⟨Sim_mono (by omega) r2, r3, okM_mono (by omega) r4⟩)⟩
