/-- within an instruction: who runs, and how long -/
def Kq (P : St → Prop) : Prop := (∀ (σ : St) (g i k : Nat) (v : Int32), ¬ (g = 5 ∧ (k = 9 ∨ (k = 2 ∧ v = 2))) → g ≠ 0 → P σ → P (sI σ g i k v)) ∧ ∀ (σ : St) (g i k : Nat) (v : Option Nat), g ≠ 0 → P σ → P (sR σ g i k v)
section KQ
variable {P : St → Prop} {σ : St}
theorem kq_I (hc : Kq P) {g i k : Nat} {v : Int32} (hk : ¬ (g = 5 ∧ (k = 9 ∨ (k = 2 ∧ v = 2)))) (hg : g ≠ 0) (h : P σ) : P (sI σ g i k v) := hc.1 σ g i k v hk hg h
theorem kq_R (hc : Kq P) {g i k : Nat} {v : Option Nat} (hg : g ≠ 0) (h : P σ) : P (sR σ g i k v) := hc.2 σ g i k v hg h
theorem kq_putLast (hc : Kq P) {r q : Nat} (h : P σ) : P (f_X4_putLast σ r q) := by
  unfold f_X4_putLast
  exact c_ite h (c_ite h (kq_I hc (by first | decide | omega | simp) (by decide) (kq_R hc (by decide) h)))
theorem kq_ready (hc : Kq P) {q : Nat} (h : P σ) : P (f_X5_becomeReady σ q) := kq_putLast hc (kq_I hc (by first | decide | omega | simp) (by decide) h)
theorem kq_begin0 (hc : Kq P) {q : Nat} {x y z : Int32} : ∀ (n : Nat) (σ : St) (j : Nat), P σ → P (lp_X2_begin_28 q x y z n σ j) := by
  intro n
  induction n with
  | zero => intro σ j h; exact h
  | succ n ih =>
    intro σ j h
    unfold lp_X2_begin_28
    exact c_ite h (ih _ _ (kq_I hc (by first | decide | omega | simp) (by decide) h))
theorem kq_begin (hc : Kq P) {q : Nat} {x y z : Int32} (h : P σ) : P (f_X2_begin σ q x y z) := kq_begin0 hc _ _ _ (kq_I hc (by first | decide | omega | simp) (by decide) (kq_I hc (by first | decide | omega | simp) (by decide) (kq_I hc (by first | decide | omega | simp) (by decide) (kq_I hc (by first | decide | omega | simp) (by decide) (kq_I hc (by first | decide | omega | simp) (by decide) h)))))
theorem kq_start (hc : Kq P) {x y z : Int32} (h : P σ) : P (f_X5_startLeastFree σ x y z).2 := by
  unfold f_X5_startLeastFree
  exact c_oC2 h (fun q => kq_ready hc (kq_begin hc h))
theorem kq_put (hc : Kq P) {q : Nat} {x : Int32} (h : P σ) : P (f_X2_put σ q x) := kq_I hc (by first | decide | omega | simp) (by decide) (kq_I hc (by first | decide | omega | simp) (by decide) (kq_I hc (by first | decide | omega | simp) (by decide) h))
theorem kq_drop (hc : Kq P) {q : Nat} (h : P σ) : P (f_X2_drop σ q) := kq_I hc (by first | decide | omega | simp) (by decide) (kq_I hc (by first | decide | omega | simp) (by decide) h)
theorem kq_rep (hc : Kq P) {q : Nat} {x : Int32} (h : P σ) : P (f_X2_replaceTwo σ q x) := kq_I hc (by first | decide | omega | simp) (by decide) (kq_I hc (by first | decide | omega | simp) (by decide) h)
theorem kq_setWord (hc : Kq P) {q : Nat} {x y : Int32} (h : P σ) : P (f_X2_setWord σ q x y) := by
  unfold f_X2_setWord
  exact c_ite h (c_ite h (kq_I hc (by first | decide | omega | simp) (by decide) h))
theorem kq_compute (hc : Kq P) {q : Nat} {x y : Int32} (h : P σ) : P (f_X5_compute σ q x y) := by
  unfold f_X5_compute
  exact c_ite (kq_put hc h) (c_ite (kq_put hc h) (c_ite (kq_drop hc (kq_setWord hc h)) (c_ite (kq_rep hc h) (c_ite (kq_rep hc h) (c_ite (kq_rep hc h) (c_ite (c_ite (kq_rep hc h) (kq_rep hc h)) (c_ite h (c_ite h (c_ite h (c_ite h (c_ite (kq_put hc h) h)))))))))))
theorem kq_append (hc : Kq P) {u v w x y : Int32} (h : P σ) : P (f_X1_append σ u v w x y) := kq_I hc (by first | decide | omega | simp) (by decide) (kq_I hc (by first | decide | omega | simp) (by decide) (kq_I hc (by first | decide | omega | simp) (by decide) (kq_I hc (by first | decide | omega | simp) (by decide) (kq_I hc (by first | decide | omega | simp) (by decide) (kq_I hc (by first | decide | omega | simp) (by decide) h)))))
theorem kq_deliver (hc : Kq P) {u x : Int32} {q w : Nat} (h : P σ) : P (f_X5_deliver σ u q w x) := kq_append hc (kq_put hc h)
theorem kq_clear (hc : Kq P) {k : Nat} (h : P σ) : P (f_X0_clear σ k) := kq_I hc (by first | decide | omega | simp) (by decide) (kq_I hc (by first | decide | omega | simp) (by decide) (kq_R hc (by decide) h))
theorem kq_hold (hc : Kq P) {k q : Nat} {z x : Int32} (h : P σ) : P (f_X0_hold σ k q z x) := kq_I hc (by first | decide | omega | simp) (by decide) (kq_I hc (by first | decide | omega | simp) (by decide) (kq_I hc (by first | decide | omega | simp) (by decide) (kq_R hc (by decide) h)))
theorem kq_jump (hc : Kq P) {q : Nat} {x : Int32} (h : P σ) : P (f_X5_jump σ q x) := by
  unfold f_X5_jump
  exact c_ite (c_ite (kq_I hc (by first | decide | omega | simp) (by decide) h) (kq_ready hc (kq_I hc (by first | decide | omega | simp) (by decide) h))) (kq_I hc (by first | decide | omega | simp) (by decide) h)
theorem kq_jz (hc : Kq P) {q : Nat} {x : Int32} (h : P σ) : P (f_X5_jumpIfZero σ q x) := by
  unfold f_X5_jumpIfZero
  exact c_ite (kq_I hc (by first | decide | omega | simp) (by decide) h) (kq_I hc (by first | decide | omega | simp) (by decide) (kq_drop hc h))
theorem kq_await (hc : Kq P) {q : Nat} (h : P σ) : P (f_X5_awaitTime σ q) := by
  unfold f_X5_awaitTime
  exact c_ite (kq_I hc (by first | decide | omega | simp) (by decide) (kq_I hc (by first | decide | omega | simp) (by decide) (kq_I hc (by first | decide | omega | simp) (by decide) (kq_drop hc h)))) (kq_I hc (by first | decide | omega | simp) (by decide) (kq_drop hc h))
theorem kq_send (hc : Kq P) {q k : Nat} (h : P σ) : P (f_X5_send σ q k) := by
  unfold f_X5_send
  exact c_ite (c_oC (kq_hold hc (kq_I hc (by first | decide | omega | simp) (by decide) (kq_drop hc h))) (fun w => kq_ready hc (kq_deliver hc (kq_clear hc (kq_I hc (by first | decide | omega | simp) (by decide) (kq_drop hc h)))))) (kq_I hc (by first | decide | omega | simp) (by decide) h)
theorem kq_receive (hc : Kq P) {q k : Nat} (h : P σ) : P (f_X5_receive σ q k) := by
  unfold f_X5_receive
  exact c_ite (c_oC (kq_hold hc (kq_I hc (by first | decide | omega | simp) (by decide) h)) (fun w => kq_ready hc (kq_deliver hc (kq_clear hc (kq_I hc (by first | decide | omega | simp) (by decide) h))))) (kq_I hc (by first | decide | omega | simp) (by decide) h)
theorem kq_execute (hc : Kq P) {q : Nat} (h1 : P (sI σ 5 q 9 (gI σ 5 q 9 + 1))) : P (f_X5_execute σ q) := by
  unfold f_X5_execute
  generalize sI σ 5 q 9 (gI σ 5 q 9 + 1) = τ at h1 ⊢
  refine c_ite (kq_I hc (by first | decide | omega | simp) (by decide) h1) ?_
  iterate 7 refine c_ite (kq_I hc (by first | decide | omega | simp) (by decide) (kq_compute hc h1)) ?_
  refine c_ite (kq_jump hc h1) ?_
  refine c_ite (kq_jz hc h1) ?_
  refine c_ite (c_oC (kq_I hc (by first | decide | omega | simp) (by decide) h1) (fun k => kq_send hc h1)) ?_
  refine c_ite (c_oC (kq_I hc (by first | decide | omega | simp) (by decide) h1) (fun k => kq_receive hc h1)) ?_
  refine c_ite (kq_I hc (by first | decide | omega | simp) (by decide) (kq_compute hc h1)) ?_
  refine c_ite (kq_await hc h1) ?_
  refine c_ite (c_ite (kq_I hc (by first | decide | omega | simp) (by decide) (kq_put hc (kq_start hc h1))) (kq_I hc (by first | decide | omega | simp) (by decide) (kq_put hc (kq_start hc h1)))) ?_
  refine c_ite (kq_I hc (by first | decide | omega | simp) (by decide) h1) ?_
  exact kq_I hc (by first | decide | omega | simp) (by decide) (kq_compute hc h1)
end KQ
