theorem fr_0 (cs : Nat → ClassId) (b : Nat) : wl (L43 cs b) 0 = Ex cs b st0 0 := rfl
theorem fr_1 (cs : Nat → ClassId) (b : Nat) : wl (L43 cs b) 1 = Ex cs b st0 1 := rfl
theorem fr_2 (cs : Nat → ClassId) (b : Nat) : wl (L43 cs b) 2 = Ex cs b st0 2 := rfl
theorem fr_3 (cs : Nat → ClassId) (b : Nat) : wl (L43 cs b) 3 = Ex cs b st0 3 := rfl
theorem fr_5 (cs : Nat → ClassId) (b : Nat) : wl (L43 cs b) 5 = Ex cs b st0 5 := rfl
theorem fr_6 (cs : Nat → ClassId) (b : Nat) : wl (L43 cs b) 6 = Ex cs b st0 6 := rfl
theorem fr_7 (cs : Nat → ClassId) (b : Nat) : wl (L43 cs b) 7 = Ex cs b st0 7 := rfl
theorem fr_8 (cs : Nat → ClassId) (b : Nat) : wl (L43 cs b) 8 = Ex cs b st0 8 := rfl
theorem fr_9 (cs : Nat → ClassId) (b : Nat) : wl (L43 cs b) 9 = Ex cs b st0 9 := rfl
theorem fr_10 (cs : Nat → ClassId) (b : Nat) : wl (L43 cs b) 10 = Ex cs b st0 10 := rfl
theorem fr_11 (cs : Nat → ClassId) (b : Nat) : wl (L43 cs b) 11 = Ex cs b st0 11 := rfl
theorem fr_12 (cs : Nat → ClassId) (b : Nat) : wl (L43 cs b) 12 = Ex cs b st0 12 := rfl
theorem fr_13 (cs : Nat → ClassId) (b : Nat) : wl (L43 cs b) 13 = Ex cs b st0 13 := rfl
theorem fr_14 (cs : Nat → ClassId) (b : Nat) : wl (L43 cs b) 14 = Ex cs b st0 14 := rfl
theorem fr_15 (cs : Nat → ClassId) (b : Nat) : wl (L43 cs b) 15 = Ex cs b st0 15 := rfl
theorem fr_16 (cs : Nat → ClassId) (b : Nat) : wl (L43 cs b) 16 = Ex cs b st0 16 := rfl
theorem fr_17 (cs : Nat → ClassId) (b : Nat) : wl (L43 cs b) 17 = Ex cs b st0 17 := rfl
theorem fr_18 (cs : Nat → ClassId) (b : Nat) : wl (L43 cs b) 18 = Ex cs b st0 18 := rfl
theorem fr_19 (cs : Nat → ClassId) (b : Nat) : wl (L43 cs b) 19 = Ex cs b st0 19 := rfl
theorem fr_20 (cs : Nat → ClassId) (b : Nat) : wl (L43 cs b) 20 = Ex cs b st0 20 := rfl
theorem fr_22 (cs : Nat → ClassId) (b : Nat) : wl (L43 cs b) 22 = Ex cs b st0 22 := rfl
theorem fr_23 (cs : Nat → ClassId) (b : Nat) : wl (L43 cs b) 23 = Ex cs b st0 23 := rfl
theorem fr_24 (cs : Nat → ClassId) (b : Nat) : wl (L43 cs b) 24 = Ex cs b st0 24 := rfl
theorem fr_25 (cs : Nat → ClassId) (b : Nat) : wl (L43 cs b) 25 = Ex cs b st0 25 := rfl
theorem fr_26 (cs : Nat → ClassId) (b : Nat) : wl (L43 cs b) 26 = Ex cs b st0 26 := rfl
theorem fr_27 (cs : Nat → ClassId) (b : Nat) : wl (L43 cs b) 27 = Ex cs b st0 27 := rfl
theorem fr_28 (cs : Nat → ClassId) (b : Nat) : wl (L43 cs b) 28 = Ex cs b st0 28 := rfl
theorem fr_29 (cs : Nat → ClassId) (b : Nat) : wl (L43 cs b) 29 = Ex cs b st0 29 := rfl
theorem fr_30 (cs : Nat → ClassId) (b : Nat) : wl (L43 cs b) 30 = Ex cs b st0 30 := rfl
theorem fr_31 (cs : Nat → ClassId) (b : Nat) : wl (L43 cs b) 31 = Ex cs b st0 31 := rfl
theorem fr_32 (cs : Nat → ClassId) (b : Nat) : wl (L43 cs b) 32 = Ex cs b st0 32 := rfl
theorem fr_33 (cs : Nat → ClassId) (b : Nat) : wl (L43 cs b) 33 = Ex cs b st0 33 := rfl
theorem fr_34 (cs : Nat → ClassId) (b : Nat) : wl (L43 cs b) 34 = Ex cs b st0 34 := rfl
theorem fr_35 (cs : Nat → ClassId) (b : Nat) : wl (L43 cs b) 35 = Ex cs b st0 35 := rfl
theorem fr_36 (cs : Nat → ClassId) (b : Nat) : wl (L43 cs b) 36 = Ex cs b st0 36 := rfl
theorem fr_37 (cs : Nat → ClassId) (b : Nat) : wl (L43 cs b) 37 = Ex cs b st0 37 := rfl
theorem fr_38 (cs : Nat → ClassId) (b : Nat) : wl (L43 cs b) 38 = Ex cs b st0 38 := rfl
theorem fr_39 (cs : Nat → ClassId) (b : Nat) : wl (L43 cs b) 39 = Ex cs b st0 39 := rfl
theorem fr_40 (cs : Nat → ClassId) (b : Nat) : wl (L43 cs b) 40 = Ex cs b st0 40 := rfl
theorem fr_41 (cs : Nat → ClassId) (b : Nat) : wl (L43 cs b) 41 = Ex cs b st0 41 := rfl
theorem fr_42 (cs : Nat → ClassId) (b : Nat) : wl (L43 cs b) 42 = Ex cs b st0 42 := rfl
theorem fr_all (cs : Nat → ClassId) (b : Nat) : ∀ j, j < 43 → j ≠ 4 → j ≠ 21 → wl (L43 cs b) j = Ex cs b st0 j :=
  (lt_s (lt_s (lt_s (lt_s (lt_s (lt_s (lt_s (lt_s (lt_s (lt_s (lt_s (lt_s (lt_s (lt_s (lt_s (lt_s (lt_s (lt_s (lt_s (lt_s (lt_s (lt_s (lt_s (lt_s (lt_s (lt_s (lt_s (lt_s (lt_s (lt_s (lt_s (lt_s (lt_s (lt_s (lt_s (lt_s (lt_s (lt_s (lt_s (lt_s (lt_s (lt_s (lt_s lt_0 (fun h4 h21 => fr_0 cs b)) (fun h4 h21 => fr_1 cs b)) (fun h4 h21 => fr_2 cs b)) (fun h4 h21 => fr_3 cs b)) (fun h4 h21 => absurd rfl h4)) (fun h4 h21 => fr_5 cs b)) (fun h4 h21 => fr_6 cs b)) (fun h4 h21 => fr_7 cs b)) (fun h4 h21 => fr_8 cs b)) (fun h4 h21 => fr_9 cs b)) (fun h4 h21 => fr_10 cs b)) (fun h4 h21 => fr_11 cs b)) (fun h4 h21 => fr_12 cs b)) (fun h4 h21 => fr_13 cs b)) (fun h4 h21 => fr_14 cs b)) (fun h4 h21 => fr_15 cs b)) (fun h4 h21 => fr_16 cs b)) (fun h4 h21 => fr_17 cs b)) (fun h4 h21 => fr_18 cs b)) (fun h4 h21 => fr_19 cs b)) (fun h4 h21 => fr_20 cs b)) (fun h4 h21 => absurd rfl h21)) (fun h4 h21 => fr_22 cs b)) (fun h4 h21 => fr_23 cs b)) (fun h4 h21 => fr_24 cs b)) (fun h4 h21 => fr_25 cs b)) (fun h4 h21 => fr_26 cs b)) (fun h4 h21 => fr_27 cs b)) (fun h4 h21 => fr_28 cs b)) (fun h4 h21 => fr_29 cs b)) (fun h4 h21 => fr_30 cs b)) (fun h4 h21 => fr_31 cs b)) (fun h4 h21 => fr_32 cs b)) (fun h4 h21 => fr_33 cs b)) (fun h4 h21 => fr_34 cs b)) (fun h4 h21 => fr_35 cs b)) (fun h4 h21 => fr_36 cs b)) (fun h4 h21 => fr_37 cs b)) (fun h4 h21 => fr_38 cs b)) (fun h4 h21 => fr_39 cs b)) (fun h4 h21 => fr_40 cs b)) (fun h4 h21 => fr_41 cs b)) (fun h4 h21 => fr_42 cs b))
theorem fr4 (cs : Nat → ClassId) (b : Nat) : (.inl (cs 1, 8, .inr (.inr (.inr (.inr (fun k => some (b + xo 5 k)))))) : va_E) = Ex cs b st0 4 := rfl
theorem fr21 (cs : Nat → ClassId) (b : Nat) : (.inl (cs 2, 4, .inr (.inr (.inr (.inr (fun k => some (b + xo 8 k)))))) : va_E) = Ex cs b st0 21 := rfl
theorem fw4 (cs : Nat → ClassId) (b : Nat) : wl (L43 cs b) 4 = .inl (cs 1, 8, .inr (.inr (.inr (.inr (va_up (va_up (va_up (va_up (va_up (va_up (va_up (va_up (fun _ => none) (nI 0).toNatClampNeg (some (b + 5))) (nI 1).toNatClampNeg (some (b + 7))) (nI 2).toNatClampNeg (some (b + 9))) (nI 3).toNatClampNeg (some (b + 11))) (nI 4).toNatClampNeg (some (b + 13))) (nI 5).toNatClampNeg (some (b + 15))) (nI 6).toNatClampNeg (some (b + 17))) (nI 7).toNatClampNeg (some (b + 19))))))) := rfl
theorem fw21 (cs : Nat → ClassId) (b : Nat) : wl (L43 cs b) 21 = .inl (cs 2, 4, .inr (.inr (.inr (.inr (va_up (va_up (va_up (va_up (fun _ => none) (nI 0).toNatClampNeg (some (b + 22))) (nI 1).toNatClampNeg (some (b + 23))) (nI 2).toNatClampNeg (some (b + 24))) (nI 3).toNatClampNeg (some (b + 25))))))) := rfl
theorem fresh_Ex {D : va_G} {cs : Nat → ClassId} {b : Nat} {H : Heap} (h : He D b 43 (wl (L43 cs b)) H) : He D b 43 (Ex cs b st0) H := by
  have h1 := He_arrq (j := 4) (g := fun k => some (b + xo 5 k)) h (by decide) (fw4 cs b) (fp_ok b)
  have h2 := He_arrq (j := 21) (g := fun k => some (b + xo 8 k)) h1 (by decide) ((eU_n (by decide)).trans (fw21 cs b)) (fc_ok b)
  refine h2.to fun j hj => ?_
  by_cases h21 : j = 21
  · subst h21; rw [eU_s]; exact fr21 cs b
  · rw [eU_n h21]
    by_cases h4 : j = 4
    · subst h4; rw [eU_s]; exact fr4 cs b
    · rw [eU_n h4]; exact fr_all cs b j hj h4 h21
