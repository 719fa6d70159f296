/-! CLOSURE: what is kept by writing the class's own groups is kept by its methods; the reference's likewise -/
def Cl (P : St → Prop) : Prop := (∀ (σ : St) (g i k : Nat) (v : Int32), g < 13 → P σ → P (sI σ g i k v)) ∧ ∀ (σ : St) (g i k : Nat) (v : Option Nat), P σ → P (sR σ g i k v)
def Cm (P : St → Prop) : Prop := ∀ (σ : St) (g i k : Nat) (v : Int32), 13 ≤ g → P σ → P (sI σ g i k v)
theorem c_ite {P : St → Prop} {c : Prop} [Decidable c] {a b : St} (ha : P a) (hb : P b) : P (if c then a else b) := by
  by_cases h : c
  · rw [if_pos h]; exact ha
  · rw [if_neg h]; exact hb
theorem c_ite2 {α : Type} {P : St → Prop} {c : Prop} [Decidable c] {a b : α × St} (ha : P a.2) (hb : P b.2) : P (if c then a else b).2 := by
  by_cases h : c
  · rw [if_pos h]; exact ha
  · rw [if_neg h]; exact hb
theorem c_oC {P : St → Prop} {o : Option Nat} {a : St} {f : Nat → St} (ha : P a) (hf : ∀ q, P (f q)) : P (oC o a f) := by
  cases o with
  | none => exact ha
  | some q => exact hf q
theorem c_oC2 {α : Type} {P : St → Prop} {o : Option Nat} {a : α × St} {f : Nat → α × St} (ha : P a.2) (hf : ∀ q, P (f q).2) : P (oC o a f).2 := by
  cases o with
  | none => exact ha
  | some q => exact hf q
section CX
variable {P : St → Prop} {σ : St}
theorem cl_I (hc : Cl P) {g i k : Nat} {v : Int32} (hg : g < 13) (h : P σ) : P (sI σ g i k v) := hc.1 σ g i k v hg h
theorem cl_R (hc : Cl P) {g i k : Nat} {v : Option Nat} (h : P σ) : P (sR σ g i k v) := hc.2 σ g i k v h
theorem cl_putLast (hc : Cl P) {r q : Nat} (h : P σ) : P (f_X4_putLast σ r q) := by
  unfold f_X4_putLast
  exact c_ite h (c_ite h (cl_I hc (by decide) (cl_R hc h)))
theorem cl_ready (hc : Cl P) {q : Nat} (h : P σ) : P (f_X5_becomeReady σ q) := cl_putLast hc (cl_I hc (by decide) h)
theorem cl_begin0 (hc : Cl P) {q : Nat} {x y z : Int32} : ∀ (n : Nat) (σ : St) (j : Nat), P σ → P (lp_X2_begin_28 q x y z n σ j) := by
  intro n
  induction n with
  | zero => intro σ j h; exact h
  | succ n ih =>
    intro σ j h
    unfold lp_X2_begin_28
    exact c_ite h (ih _ _ (cl_I hc (by decide) h))
theorem cl_begin (hc : Cl P) {q : Nat} {x y z : Int32} (h : P σ) : P (f_X2_begin σ q x y z) := cl_begin0 hc _ _ _ (cl_I hc (by decide) (cl_I hc (by decide) (cl_I hc (by decide) (cl_I hc (by decide) (cl_I hc (by decide) h)))))
theorem cl_start (hc : Cl P) {x y z : Int32} (h : P σ) : P (f_X5_startLeastFree σ x y z).2 := by
  unfold f_X5_startLeastFree
  exact c_oC2 h (fun q => cl_ready hc (cl_begin hc h))
theorem cl_wake0 (hc : Cl P) : ∀ (n : Nat) (σ : St) (j : Nat), P σ → P (lp_X5_wakeThoseWhoseTimeHasCome_2 n σ j) := by
  intro n
  induction n with
  | zero => intro σ j h; exact h
  | succ n ih =>
    intro σ j h
    unfold lp_X5_wakeThoseWhoseTimeHasCome_2
    exact c_ite h (c_ite (c_ite (ih _ _ h) (ih _ _ (cl_ready hc h))) (ih _ _ h))
theorem cl_wake (hc : Cl P) (h : P σ) : P (f_X5_wakeThoseWhoseTimeHasCome σ) := cl_wake0 hc _ _ _ h
theorem cl_pf0 (hc : Cl P) {r q : Nat} : ∀ (n : Nat) (σ : St) (j : Nat), P σ → P (lp_X4_putFirst_14 r q n σ j) := by
  intro n
  induction n with
  | zero => intro σ j h; exact h
  | succ n ih =>
    intro σ j h
    unfold lp_X4_putFirst_14
    exact c_ite h (ih _ _ (cl_R hc h))
theorem cl_putFirst (hc : Cl P) {r q : Nat} (h : P σ) : P (f_X4_putFirst σ r q) := by
  unfold f_X4_putFirst
  exact c_ite h (cl_I hc (by decide) (cl_R hc (cl_pf0 hc _ _ _ h)))
theorem cl_tf0 (hc : Cl P) {r : Nat} : ∀ (n : Nat) (σ : St) (j : Nat), P σ → P (lp_X4_takeFirst_28 r n σ j) := by
  intro n
  induction n with
  | zero => intro σ j h; exact h
  | succ n ih =>
    intro σ j h
    unfold lp_X4_takeFirst_28
    exact c_ite h (ih _ _ (cl_R hc h))
theorem cl_takeFirst (hc : Cl P) {r : Nat} (h : P σ) : P (f_X4_takeFirst σ r).2 := by
  unfold f_X4_takeFirst
  exact c_ite2 (c_oC2 (cl_tf0 hc _ _ _ (cl_I hc (by decide) h)) (fun q => cl_tf0 hc _ _ _ (cl_I hc (by decide) h))) h
theorem cl_giveWay (hc : Cl P) (h : P σ) : P (f_X5_giveWayToHigh σ) := by
  unfold f_X5_giveWayToHigh
  exact c_oC h (fun q => c_ite (c_ite h (cl_R hc (cl_putFirst hc (cl_I hc (by decide) h)))) h)
theorem cl_takeNext (hc : Cl P) (h : P σ) : P (f_X5_takeNext σ) := by
  unfold f_X5_takeNext
  exact c_ite (c_oC (cl_R hc (cl_takeFirst hc h)) (fun q => cl_I hc (by decide) (cl_I hc (by decide) (cl_R hc (cl_takeFirst hc h))))) (c_oC (cl_R hc (cl_takeFirst hc h)) (fun q => cl_I hc (by decide) (cl_I hc (by decide) (cl_R hc (cl_takeFirst hc h)))))
theorem cl_put (hc : Cl P) {q : Nat} {x : Int32} (h : P σ) : P (f_X2_put σ q x) := cl_I hc (by decide) (cl_I hc (by decide) (cl_I hc (by decide) h))
theorem cl_drop (hc : Cl P) {q : Nat} (h : P σ) : P (f_X2_drop σ q) := cl_I hc (by decide) (cl_I hc (by decide) h)
theorem cl_rep (hc : Cl P) {q : Nat} {x : Int32} (h : P σ) : P (f_X2_replaceTwo σ q x) := cl_I hc (by decide) (cl_I hc (by decide) h)
theorem cl_setWord (hc : Cl P) {q : Nat} {x y : Int32} (h : P σ) : P (f_X2_setWord σ q x y) := by
  unfold f_X2_setWord
  exact c_ite h (c_ite h (cl_I hc (by decide) h))
theorem cl_compute (hc : Cl P) {q : Nat} {x y : Int32} (h : P σ) : P (f_X5_compute σ q x y) := by
  unfold f_X5_compute
  exact c_ite (cl_put hc h) (c_ite (cl_put hc h) (c_ite (cl_drop hc (cl_setWord hc h)) (c_ite (cl_rep hc h) (c_ite (cl_rep hc h) (c_ite (cl_rep hc h) (c_ite (c_ite (cl_rep hc h) (cl_rep hc h)) (c_ite h (c_ite h (c_ite h (c_ite h (c_ite (cl_put hc h) h)))))))))))
theorem cl_append (hc : Cl P) {u v w x y : Int32} (h : P σ) : P (f_X1_append σ u v w x y) := cl_I hc (by decide) (cl_I hc (by decide) (cl_I hc (by decide) (cl_I hc (by decide) (cl_I hc (by decide) (cl_I hc (by decide) h)))))
theorem cl_deliver (hc : Cl P) {u x : Int32} {q w : Nat} (h : P σ) : P (f_X5_deliver σ u q w x) := cl_append hc (cl_put hc h)
theorem cl_clear (hc : Cl P) {k : Nat} (h : P σ) : P (f_X0_clear σ k) := cl_I hc (by decide) (cl_I hc (by decide) (cl_R hc h))
theorem cl_hold (hc : Cl P) {k q : Nat} {z x : Int32} (h : P σ) : P (f_X0_hold σ k q z x) := cl_I hc (by decide) (cl_I hc (by decide) (cl_I hc (by decide) (cl_R hc h)))
theorem cl_jump (hc : Cl P) {q : Nat} {x : Int32} (h : P σ) : P (f_X5_jump σ q x) := by
  unfold f_X5_jump
  exact c_ite (c_ite (cl_I hc (by decide) h) (cl_ready hc (cl_I hc (by decide) h))) (cl_I hc (by decide) h)
theorem cl_jz (hc : Cl P) {q : Nat} {x : Int32} (h : P σ) : P (f_X5_jumpIfZero σ q x) := by
  unfold f_X5_jumpIfZero
  exact c_ite (cl_I hc (by decide) h) (cl_I hc (by decide) (cl_drop hc h))
theorem cl_await (hc : Cl P) {q : Nat} (h : P σ) : P (f_X5_awaitTime σ q) := by
  unfold f_X5_awaitTime
  exact c_ite (cl_I hc (by decide) (cl_I hc (by decide) (cl_I hc (by decide) (cl_drop hc h)))) (cl_I hc (by decide) (cl_drop hc h))
theorem cl_send (hc : Cl P) {q k : Nat} (h : P σ) : P (f_X5_send σ q k) := by
  unfold f_X5_send
  exact c_ite (c_oC (cl_hold hc (cl_I hc (by decide) (cl_drop hc h))) (fun w => cl_ready hc (cl_deliver hc (cl_clear hc (cl_I hc (by decide) (cl_drop hc h)))))) (cl_I hc (by decide) h)
theorem cl_receive (hc : Cl P) {q k : Nat} (h : P σ) : P (f_X5_receive σ q k) := by
  unfold f_X5_receive
  exact c_ite (c_oC (cl_hold hc (cl_I hc (by decide) h)) (fun w => cl_ready hc (cl_deliver hc (cl_clear hc (cl_I hc (by decide) h))))) (cl_I hc (by decide) h)
theorem cl_execute (hc : Cl P) {q : Nat} (h : P σ) : P (f_X5_execute σ q) := by
  have h1 : P (sI σ 5 q 9 (gI σ 5 q 9 + 1)) := cl_I hc (by decide) h
  unfold f_X5_execute
  generalize sI σ 5 q 9 (gI σ 5 q 9 + 1) = τ at h1 ⊢
  refine c_ite (cl_I hc (by decide) h1) ?_
  iterate 7 refine c_ite (cl_I hc (by decide) (cl_compute hc h1)) ?_
  refine c_ite (cl_jump hc h1) ?_
  refine c_ite (cl_jz hc h1) ?_
  refine c_ite (c_oC (cl_I hc (by decide) h1) (fun k => cl_send hc h1)) ?_
  refine c_ite (c_oC (cl_I hc (by decide) h1) (fun k => cl_receive hc h1)) ?_
  refine c_ite (cl_I hc (by decide) (cl_compute hc h1)) ?_
  refine c_ite (cl_await hc h1) ?_
  refine c_ite (c_ite (cl_I hc (by decide) (cl_put hc (cl_start hc h1))) (cl_I hc (by decide) (cl_put hc (cl_start hc h1)))) ?_
  refine c_ite (cl_I hc (by decide) h1) ?_
  exact cl_I hc (by decide) (cl_compute hc h1)
theorem cl_step (hc : Cl P) (h : P σ) : P (f_X5_step σ).2 := by
  have h1 := cl_giveWay hc (cl_wake hc h)
  have h2 := cl_takeNext hc h1
  unfold f_X5_step
  exact c_oC2 (c_oC2 (cl_I hc (by decide) h2) (fun q => c_ite2 (cl_I hc (by decide) (cl_execute hc h2)) (cl_I hc (by decide) (cl_R hc (cl_execute hc h2))))) (fun q => c_ite2 (cl_I hc (by decide) (cl_execute hc h1)) (cl_I hc (by decide) (cl_R hc (cl_execute hc h1))))
theorem cl_run0 (hc : Cl P) {x : Int32} : ∀ (n : Nat) (σ : St) (w : Int32) (j : Nat), P σ → P (lp_X5_run_17 x n σ w j).2 := by
  intro n
  induction n with
  | zero => intro σ w j h; exact h
  | succ n ih =>
    intro σ w j h
    unfold lp_X5_run_17
    exact c_ite2 h (c_ite2 (ih _ _ _ (cl_step hc h)) (ih _ _ _ (cl_step hc h)))
theorem cl_run (hc : Cl P) {x : Int32} (h : P σ) : P (f_X5_run σ x).2 := by
  unfold f_X5_run
  exact c_ite2 h (c_ite2 (cl_run0 hc _ _ _ _ h) h)
theorem cl_add (hc : Cl P) {x y : Int32} (h : P σ) : P (f_X5_add σ x y).2 := by
  have h1 : P (f_X3_append σ x y).2 := by
    unfold f_X3_append
    exact c_ite2 h (c_ite2 (cl_I hc (by decide) (cl_I hc (by decide) (cl_I hc (by decide) h))) h)
  unfold f_X5_add
  repeat' first | exact h | exact h1 | refine c_ite2 ?_ ?_
theorem cl_start' (hc : Cl P) {x y z : Int32} (h : P σ) : P (f_X5_start σ x y z).2 := by
  have h1 : P (f_X5_startLeastFree σ x y z).2 := cl_start hc h
  unfold f_X5_start
  repeat' first | exact h | exact h1 | refine c_ite2 ?_ ?_
theorem cl_rs0 (hc : Cl P) : ∀ (n : Nat) (σ : St) (j : Nat), P σ → P (lp_X5_reset_2 n σ j) := by
  intro n
  induction n with
  | zero => intro σ j h; exact h
  | succ n ih =>
    intro σ j h
    unfold lp_X5_reset_2
    exact c_ite h (ih _ _ (cl_I hc (by decide) h))
theorem cl_rs1 (hc : Cl P) : ∀ (n : Nat) (σ : St) (j : Nat), P σ → P (lp_X5_reset_26 n σ j) := by
  intro n
  induction n with
  | zero => intro σ j h; exact h
  | succ n ih =>
    intro σ j h
    unfold lp_X5_reset_26
    exact c_ite h (ih _ _ (cl_clear hc h))
theorem cl_reset (hc : Cl P) (h : P σ) : P (f_X5_reset σ) := by
  unfold f_X5_reset f_X4_clear
  exact cl_R hc (cl_I hc (by decide) (cl_I hc (by decide) (cl_rs1 hc _ _ _ (cl_rs0 hc _ _ _ h))))
end CX
section CM
variable {P : St → Prop} {σ : St}
theorem cm_atEnd (hc : Cm P) {p : Nat} (h : P σ) : P (f_X6_atEnd σ p) := hc _ _ _ _ _ (by decide) (hc _ _ _ _ _ (by decide) (hc _ _ _ _ _ (by decide) h))
theorem cm_push (hc : Cm P) {p : Nat} {x : Int32} (h : P σ) : P (f_X6_push σ p x) := hc _ _ _ _ _ (by decide) (hc _ _ _ _ _ (by decide) (hc _ _ _ _ _ (by decide) h))
theorem cm_pull (hc : Cm P) {p : Nat} (h : P σ) : P (f_X6_pull σ p) := hc _ _ _ _ _ (by decide) (hc _ _ _ _ _ (by decide) h)
theorem cm_tell (hc : Cm P) {k t : Nat} {u x : Int32} (h : P σ) : P (f_X6_tell σ k u t x) := hc _ _ _ _ _ (by decide) (cm_push hc (hc _ _ _ _ _ (by decide) (hc _ _ _ _ _ (by decide) (hc _ _ _ _ _ (by decide) (hc _ _ _ _ _ (by decide) (hc _ _ _ _ _ (by decide) (hc _ _ _ _ _ (by decide) h)))))))
theorem cm_send (hc : Cm P) {p k : Nat} (h : P σ) : P (f_X6_send σ p k) := by
  have h1 : P (sI (sI (sI (f_X6_pull σ p) 15 0 p 3) 21 0 p (gI σ 18 0 (7 * p))) 22 0 k (8 + nI p)) := hc _ _ _ _ _ (by decide) (hc _ _ _ _ _ (by decide) (hc _ _ _ _ _ (by decide) (cm_pull hc h)))
  unfold f_X6_send
  exact c_ite (c_ite h1 (cm_atEnd hc (cm_tell hc (cm_pull hc h)))) (c_ite (c_ite h1 (cm_atEnd hc (cm_tell hc (cm_pull hc h)))) (hc _ _ _ _ _ (by decide) (hc _ _ _ _ _ (by decide) h)))
theorem cm_receive (hc : Cm P) {p k : Nat} (h : P σ) : P (f_X6_receive σ p k) := by
  unfold f_X6_receive
  exact c_ite (c_ite (hc _ _ _ _ _ (by decide) (hc _ _ _ _ _ (by decide) h)) (cm_atEnd hc (cm_tell hc h))) (hc _ _ _ _ _ (by decide) (hc _ _ _ _ _ (by decide) h))
theorem cm_bg (hc : Cm P) {x y z : Int32} : ∀ (n : Nat) (σ : St) (p j : Nat), P σ → P (lp_X6_begin_54 x y z n σ p j) := by
  intro n
  induction n with
  | zero => intro σ p j h; exact h
  | succ n ih =>
    intro σ p j h
    unfold lp_X6_begin_54
    exact c_ite h (ih _ _ _ (hc _ _ _ _ _ (by decide) h))
theorem cm_begin (hc : Cm P) {x y z : Int32} (h : P σ) : P (f_X6_begin σ x y z).2 := by
  unfold f_X6_begin
  exact c_ite2 h (cm_atEnd hc (hc _ _ _ _ _ (by decide) (cm_bg hc _ _ _ _ (hc _ _ _ _ _ (by decide) (hc _ _ _ _ _ (by decide) h)))))
theorem cm_instr (hc : Cm P) {p : Nat} (h : P σ) : P (f_X6_instruction σ p) := by
  have h0 : P (sI (sI σ 13 0 12 (gI σ 13 0 12 + 1)) 15 0 p 5) := hc _ _ _ _ _ (by decide) (hc _ _ _ _ _ (by decide) h)
  have h1 : P (sI (sI σ 13 0 12 (gI σ 13 0 12 + 1)) 17 0 p (nI (plN σ p) + 1)) := hc _ _ _ _ _ (by decide) (hc _ _ _ _ _ (by decide) h)
  unfold f_X6_instruction
  refine c_ite h0 (c_ite h0 ?_)
  generalize sI (sI σ 13 0 12 (gI σ 13 0 12 + 1)) 17 0 p (nI (plN σ p) + 1) = τ at h1 ⊢
  refine c_ite (cm_push hc h1) (c_ite (cm_push hc h1) (c_ite (cm_pull hc (hc _ _ _ _ _ (by decide) h1)) ?_))
  iterate 4 refine c_ite (hc _ _ _ _ _ (by decide) (hc _ _ _ _ _ (by decide) h1)) ?_
  refine c_ite (c_ite (c_ite (hc _ _ _ _ _ (by decide) h1) (cm_atEnd hc (hc _ _ _ _ _ (by decide) h1))) (hc _ _ _ _ _ (by decide) h1)) ?_
  refine c_ite (c_ite (hc _ _ _ _ _ (by decide) h1) (cm_pull hc h1)) ?_
  refine c_ite (cm_send hc h1) (c_ite (cm_receive hc h1) (c_ite (cm_push hc h1) ?_))
  refine c_ite (c_ite (hc _ _ _ _ _ (by decide) (cm_pull hc h1)) (hc _ _ _ _ _ (by decide) (hc _ _ _ _ _ (by decide) (cm_pull hc h1)))) ?_
  exact c_ite (c_oC (cm_push hc (cm_begin hc h1)) (fun q => cm_push hc (cm_begin hc h1))) (hc _ _ _ _ _ (by decide) h1)
theorem cm_wake (hc : Cm P) : ∀ (n : Nat) (σ : St) (j : Nat), P σ → P (lp_X6_step_2 n σ j) := by
  intro n
  induction n with
  | zero => intro σ j h; exact h
  | succ n ih =>
    intro σ j h
    unfold lp_X6_step_2
    exact c_ite h (c_ite (c_ite (ih _ _ h) (ih _ _ (cm_atEnd hc h))) (ih _ _ h))
theorem cm_step (hc : Cm P) (h : P σ) : P (f_X6_step σ).2 := by
  have hw := cm_wake hc 9 σ 0 h
  unfold f_X6_step
  generalize lp_X6_step_2 9 σ 0 = τ at hw ⊢
  have hI : ∀ q τ', P τ' → P (sI (f_X6_instruction τ' q) 13 0 11 (gI (f_X6_instruction τ' q) 13 0 11 + 1)) := fun q τ' h => hc _ _ _ _ _ (by decide) (cm_instr hc h)
  refine c_oC2 (c_oC2 (c_oC2 (hc _ _ _ _ _ (by decide) (hc _ _ _ _ _ (by decide) hw)) (fun q => hI q _ (hc _ _ _ _ _ (by decide) (hc _ _ _ _ _ (by decide) hw)))) (fun q => hI q _ (hc _ _ _ _ _ (by decide) (hc _ _ _ _ _ (by decide) hw)))) (fun q => c_ite2 (c_oC2 (hI q _ hw) (fun q2 => ?_)) (hI q _ hw))
  have hg : P (sI (sI (sI τ 15 0 q 1) 13 0 9 (gI (sI τ 15 0 q 1) 13 0 9 - 1)) 19 0 q (gI (sI (sI τ 15 0 q 1) 13 0 9 (gI (sI τ 15 0 q 1) 13 0 9 - 1)) 13 0 9)) := hc _ _ _ _ _ (by decide) (hc _ _ _ _ _ (by decide) (hc _ _ _ _ _ (by decide) hw))
  generalize sI (sI (sI τ 15 0 q 1) 13 0 9 (gI (sI τ 15 0 q 1) 13 0 9 - 1)) 19 0 q (gI (sI (sI τ 15 0 q 1) 13 0 9 (gI (sI τ 15 0 q 1) 13 0 9 - 1)) 13 0 9) = υ at hg ⊢
  exact c_oC2 (c_oC2 (hc _ _ _ _ _ (by decide) (hc _ _ _ _ _ (by decide) hg)) (fun q => hI q _ (hc _ _ _ _ _ (by decide) (hc _ _ _ _ _ (by decide) hg)))) (fun q => hI q _ (hc _ _ _ _ _ (by decide) (hc _ _ _ _ _ (by decide) hg)))
theorem cm_run0 (hc : Cm P) {x : Int32} : ∀ (n : Nat) (σ : St) (w : Int32) (j : Nat), P σ → P (lp_X6_run_17 x n σ w j).2 := by
  intro n
  induction n with
  | zero => intro σ w j h; exact h
  | succ n ih =>
    intro σ w j h
    unfold lp_X6_run_17
    exact c_ite2 h (c_ite2 (ih _ _ _ (cm_step hc h)) (ih _ _ _ (cm_step hc h)))
theorem cm_run (hc : Cm P) {x : Int32} (h : P σ) : P (f_X6_run σ x).2 := by
  unfold f_X6_run
  exact c_ite2 h (cm_run0 hc _ _ _ _ h)
theorem cm_add (hc : Cm P) {x y : Int32} (h : P σ) : P (f_X6_add σ x y).2 := by
  have h1 : P (sI (sI (sI σ 14 0 (2 * lN0 σ) x) 14 0 (2 * lN0 σ + 1) y) 13 0 1 (nI (lN0 σ) + 1)) := hc _ _ _ _ _ (by decide) (hc _ _ _ _ _ (by decide) (hc _ _ _ _ _ (by decide) h))
  unfold f_X6_add
  repeat' first | exact h | exact h1 | refine c_ite2 ?_ ?_
theorem cm_start (hc : Cm P) {x y z : Int32} (h : P σ) : P (f_X6_start σ x y z).2 := by
  unfold f_X6_start
  exact c_ite2 h (c_ite2 h (c_oC2 (cm_begin hc h) (fun q => cm_begin hc h)))
theorem cm_rs0 (hc : Cm P) : ∀ (n : Nat) (σ : St) (j : Nat), P σ → P (lp_X6_reset_2 n σ j) := by
  intro n
  induction n with
  | zero => intro σ j h; exact h
  | succ n ih =>
    intro σ j h
    unfold lp_X6_reset_2
    exact c_ite h (ih _ _ (hc _ _ _ _ _ (by decide) h))
theorem cm_rs1 (hc : Cm P) : ∀ (n : Nat) (σ : St) (j : Nat), P σ → P (lp_X6_reset_23 n σ j) := by
  intro n
  induction n with
  | zero => intro σ j h; exact h
  | succ n ih =>
    intro σ j h
    unfold lp_X6_reset_23
    exact c_ite h (ih _ _ (hc _ _ _ _ _ (by decide) h))
theorem cm_reset (hc : Cm P) (h : P σ) : P (f_X6_reset σ) := cm_rs1 hc _ _ _ (cm_rs0 hc _ _ _ h)
end CM
