def eqM (β β' : St) : Prop := ∀ g i k, 13 ≤ g → gI β' g i k = gI β g i k
def eqX (α α' : St) : Prop := (∀ g i k, g < 13 → gI α' g i k = gI α g i k) ∧ ∀ g i k, gR α' g i k = gR α g i k
theorem RL0_eqM {β β' : St} {x : Int32} {l : List Nat} (he : eqM β β') (h : RL0 β x l) : RL0 β' x l := by
  have hrk : ∀ p, rk β' p = rk β p := fun p => by unfold rk; rw [he _ _ _ (by decide)]
  exact ⟨h.1.imp (fun {a b} hab => by rw [hrk, hrk]; exact hab), fun p => by rw [he _ _ _ (by decide), he _ _ _ (by decide)]; exact h.2 p⟩
theorem S0_eqM {B : Nat} {α β β' : St} (he : eqM β β') (h : S0 B α β) : S0 B α β' := by
  obtain ⟨hP, ⟨g1, g2, g3, g4, g5⟩, hC, hR1, hR2, hR3⟩ := h
  refine ⟨fun p hp => ?_, ⟨?_, ?_, fun i hi => ?_, ?_, fun i hi => ?_⟩, ?_, fun r hr => ⟨(hR1 r hr).1, RL0_eqM he (hR1 r hr).2⟩, fun p hp h1 => ?_, ?_⟩
  · obtain ⟨a1, a2, a3, a4, a5, a6, a7, a8, a9⟩ := hP p hp
    exact ⟨by rw [he _ _ _ (by decide)]; exact a1, by rw [he _ _ _ (by decide)]; exact a2, by rw [he _ _ _ (by decide)]; exact a3, by rw [he _ _ _ (by decide)]; exact a4, by rw [he _ _ _ (by decide)]; exact a5, by rw [he _ _ _ (by decide)]; exact a6, fun k hk => by rw [he _ _ _ (by decide)]; exact a7 k hk, a8, by rw [he _ _ _ (by decide)]; exact a9⟩
  · rw [he _ _ _ (by decide)]; exact g1
  · rw [he _ _ _ (by decide)]; exact g2
  · rw [he _ _ _ (by decide), he _ _ _ (by decide)]; exact g3 i hi
  · rw [he _ _ _ (by decide)]; exact g4
  · rw [he _ _ _ (by decide)]; exact g5 i hi
  · exact SC_congr hC (fun _ _ => rfl) (fun _ => rfl) (fun _ => rfl) (fun _ => rfl) (fun _ => he _ _ _ (by decide)) (fun _ => he _ _ _ (by decide))
  · rw [he _ _ _ (by decide)] at h1
    have := hR2 p hp h1
    unfold fst lst rk at *
    rw [he _ _ _ (by decide), he _ _ _ (by decide), he _ _ _ (by decide)]
    exact this
  · unfold fst lst at *
    rw [he _ _ _ (by decide), he _ _ _ (by decide)]
    exact hR3
theorem S0_eqX {B : Nat} {α α' β : St} (he : eqX α α') (h : S0 B α β) : S0 B α' β := by
  obtain ⟨hI, hR⟩ := he
  obtain ⟨hP, ⟨g1, g2, g3, g4, g5⟩, hC, hR1, hR2, hR3⟩ := h
  refine ⟨fun p hp => ?_, ⟨?_, ?_, fun i hi => ?_, ?_, fun i hi => ?_⟩, ?_, fun r hr => ?_, hR2, hR3⟩
  · obtain ⟨a1, a2, a3, a4, a5, a6, a7, a8, a9⟩ := hP p hp
    have e : ∀ k, gI α' 5 p k = gI α 5 p k := fun k => hI 5 p k (by decide)
    exact ⟨by rw [e]; exact a1, by rw [e]; exact a2, by rw [e, e]; exact a3, by rw [e]; exact a4, by rw [e]; exact a5, by rw [e]; exact a6, fun k hk => by rw [hI 6 p k (by decide)]; exact a7 k hk, by rw [e]; exact a8, by rw [e, e]; exact a9⟩
  · rw [hI _ _ _ (by decide)]; exact g1
  · rw [hI _ _ _ (by decide)]; exact g2
  · rw [hI _ _ _ (by decide), hI _ _ _ (by decide)]; exact g3 i hi
  · rw [hI _ _ _ (by decide)]; exact g4
  · rw [hI _ _ _ (by decide)]; exact g5 i hi
  · exact SC_congr hC (fun _ _ => hI _ _ _ (by decide)) (fun _ => hR _ _ _) (fun _ => hI _ _ _ (by decide)) (fun _ => hI _ _ _ (by decide)) (fun _ => rfl) (fun _ => rfl)
  · have ho := wf_other (α1 := α') (r' := r) (hI _ _ _ (by decide)) (fun j => hR _ _ _) (hR1 r hr).1
    refine ⟨ho.1, ?_⟩
    rw [ho.2]; exact (hR1 r hr).2
/-- before the instruction's own work: p runs, at place pl -/
def Pre (B p pl : Nat) (τ β1 : St) : Prop := S0 B τ β1 ∧ p < 8 ∧ gI τ 5 p 2 = 2 ∧ gI τ 5 p 4 = nI pl ∧ gI β1 17 0 p = nI pl
theorem put_4 (τ : St) (p : Nat) (x : Int32) : gI (f_X2_put τ p x) 5 p 4 = gI τ 5 p 4 := by
  unfold f_X2_put; rw [gI_sI, if_neg (by omega), gI_sI, if_neg (by omega), gI_sI, if_neg (by omega)]
theorem drop_k (τ : St) (p k : Nat) (hk : k ≠ 5) (hk6 : k ≠ 6) : gI (f_X2_drop τ p) 5 p k = gI τ 5 p k := by
  unfold f_X2_drop; rw [gI_sI, if_neg (by omega), gI_sI, if_neg (by omega)]
theorem rep_4 (τ : St) (p : Nat) (x : Int32) : gI (f_X2_replaceTwo τ p x) 5 p 4 = gI τ 5 p 4 := by
  unfold f_X2_replaceTwo; rw [gI_sI, if_neg (by omega), gI_sI, if_neg (by omega)]
section OPS
variable {B p pl : Nat} {τ β1 : St} {kk : Int32}
theorem op_put (h : Pre B p pl τ β1) (x : Int32) : S0 B (sI (f_X2_put τ p x) 5 p 4 (gI (f_X2_put τ p x) 5 p 4 + 1)) (f_X6_push (sI β1 17 0 p (nI pl + 1)) p x) := by
  rw [put_4, h.2.2.2.1]
  exact S0_place (S0_put (x := x) h.1 h.2.1) h.2.1
theorem op_rep (h : Pre B p pl τ β1) (x : Int32) : S0 B (sI (f_X2_replaceTwo τ p x) 5 p 4 (gI (f_X2_replaceTwo τ p x) 5 p 4 + 1)) (sI (sI (sI β1 17 0 p (nI pl + 1)) 18 0 (7 * p) x) 18 0 (7 * p + 1) (gI (sI (sI β1 17 0 p (nI pl + 1)) 18 0 (7 * p) x) 18 0 (7 * p + 2))) := by
  rw [rep_4, h.2.2.2.1]
  exact S0_place (S0_rep (x := x) h.1 h.2.1) h.2.1
theorem op_state (h : Pre B p pl τ β1) (v : Int32) (hv : ¬ v = 1) (hv4 : ¬ v = 4) : S0 B (sI τ 5 p 2 v) (sI β1 15 0 p v) :=
  S0_state h.1 h.2.1 (by rw [h.2.2.1]; decide) (by rw [h.2.2.1]; decide) hv (fun e => absurd e hv4) (nw_of h.1 (by rw [h.2.2.1]; decide))
/-- stopped in conflict: the place goes back -/
theorem op_back (h : Pre B p pl τ β1) : S0 B (sI τ 5 p 2 5) (sI (sI (sI β1 17 0 p (nI pl + 1)) 15 0 p 5) 17 0 p (gI (sI (sI β1 17 0 p (nI pl + 1)) 15 0 p 5) 17 0 p - 1)) := by
  refine S0_eqM ?_ (op_state h 5 (by decide) (by decide))
  have e : gI (sI (sI β1 17 0 p (nI pl + 1)) 15 0 p 5) 17 0 p = nI (pl + 1) := by
    show gI (sI β1 17 0 p (nI pl + 1)) 17 0 p = _
    rw [rdB, if_pos rfl, nI_1]
  intro g i k hg
  rw [e, nI_pred, gI_sI]
  by_cases h7 : g = 17 ∧ i = 0 ∧ k = p
  · obtain ⟨rfl, rfl, rfl⟩ := h7
    rw [if_pos ⟨rfl, rfl, rfl⟩]
    exact h.2.2.2.2.symm
  · rw [if_neg h7, gI_sI, gI_sI, gI_sI, if_neg h7]
/-- END: the place of a free process is nobody's -/
theorem op_end (h : Pre B p pl τ β1) : S0 B (sI τ 5 p 2 0) (sI (sI β1 17 0 p (nI pl + 1)) 15 0 p 0) := by
  obtain ⟨hP, hG, hC, hR⟩ := op_state h 0 (by decide) (by decide)
  refine ⟨fun q hq => ?_, hG, hC, hR⟩
  obtain ⟨a1, a2, a3, a4, a5, a6, a7, a8, a9⟩ := hP q hq
  refine ⟨a1, a2, fun h0 => ?_, a4, a5, a6, a7, a8, a9⟩
  have hqp : q ≠ p := fun e => h0 (by rw [e, rdA, if_pos rfl])
  have := a3 h0
  show _ = gI (sI β1 17 0 p (nI pl + 1)) 17 0 q
  rw [rdB, if_neg hqp]
  exact this
end OPS
