/-! RUN -/
theorem run_loop {x : Int32} {k : Nat} (hx : x = nI k) (hk : k ≤ 400) : ∀ (n B N : Nat) (α β : St) (w : Int32) (j : Nat), 400 < j + n → j ≤ 400 → N + (400 - j) < 2 ^ 30 → B + 10 * (400 - j) < 2 ^ 30 → Sim B α β → ok α → okM N β → (lp_X5_run_17 x n α w j).1 = (lp_X6_run_17 x n β w j).1 ∧ Sim (B + 10 * (400 - j)) (lp_X5_run_17 x n α w j).2 (lp_X6_run_17 x n β w j).2 ∧ ok (lp_X5_run_17 x n α w j).2 ∧ okM (N + (400 - j)) (lp_X6_run_17 x n β w j).2 := by
  intro n
  induction n with
  | zero => intro B N α β w j h1 h2; omega
  | succ n ih =>
    intro B N α β w j hf hj hN hB hS ho hm
    unfold lp_X5_run_17 lp_X6_run_17
    by_cases hc : x ≤ nI j
    · rw [if_pos hc, if_pos hc]
      exact ⟨rfl, ⟨S0_mono (by omega) hS.1, hS.2⟩, ho, okM_mono (by omega) hm⟩
    · rw [if_neg hc, if_neg hc]
      have hjk : j < k := ngt_8 hj k hk (by rw [← hx]; exact hc)
      obtain ⟨ha, hs⟩ := step_sim hS ho hm (by omega) (by omega)
      have ho' := ok_step ho
      have hm' := okM_step (by omega) hm
      have key := fun w' => ih (B + 10) (N + 1) (f_X5_step α).2 (f_X6_step β).2 w' (j + 1) (by omega) (by omega) (by omega) (by omega) hs ho' hm'
      rw [show B + 10 + 10 * (400 - (j + 1)) = B + 10 * (400 - j) by omega, show N + 1 + (400 - (j + 1)) = N + (400 - j) by omega] at key
      rcases ha with ⟨a1, a2⟩ | ⟨a1, a2⟩
      · rw [a1, a2, if_neg (show ¬ (1 : Int32) = 0 by decide), if_pos rfl]
        exact key w
      · rw [a1, a2, if_neg (show ¬ (1 : Int32) = 0 by decide), if_pos rfl]
        exact key (w + 1)
theorem within0 {σ : St} {x y z : Int32} (h : f_X6_within σ x y z = 0) : x < y ∨ z < x := by
  unfold f_X6_within at h
  split at h
  · exact Or.inl (by assumption)
  · split at h
    · exact Or.inr (by assumption)
    · exact absurd h (by decide)
theorem within1 {σ : St} {x y z : Int32} (h1 : ¬ x < y) (h2 : ¬ z < x) : f_X6_within σ x y z = 1 := by
  unfold f_X6_within
  rw [if_neg h1, if_neg h2]
theorem withinL {σ : St} {x y z : Int32} (h1 : x < y) : f_X6_within σ x y z = 0 := by
  unfold f_X6_within
  rw [if_pos h1]
theorem withinR {σ : St} {x y z : Int32} (h1 : ¬ x < y) (h2 : z < x) : f_X6_within σ x y z = 0 := by
  unfold f_X6_within
  rw [if_neg h1, if_pos h2]
theorem run_sim {B N : Nat} {x : Int32} {α β : St} (hN : N + 400 < 2 ^ 30) (hB : B + 4000 < 2 ^ 30) (h : Sim B α β) (ho : ok α) (hm : okM N β) : (f_X5_run α x).1 = (f_X6_run β x).1 ∧ Sim (B + 4000) (f_X5_run α x).2 (f_X6_run β x).2 ∧ ok (f_X5_run α x).2 ∧ okM (N + 400) (f_X6_run β x).2 := by
  have hno : (((-1 : Int32), α).1 = ((-1 : Int32), β).1 ∧ Sim (B + 4000) ((-1 : Int32), α).2 ((-1 : Int32), β).2 ∧ ok ((-1 : Int32), α).2 ∧ okM (N + 400) ((-1 : Int32), β).2) := ⟨rfl, ⟨S0_mono (by omega) h.1, h.2⟩, ho, okM_mono (by omega) hm⟩
  unfold f_X5_run f_X6_run
  by_cases h0 : x < 0
  · rw [if_pos h0, withinL h0, if_pos rfl]
    exact hno
  · obtain ⟨k, hk, rfl⟩ := nI_of h0
    rw [if_neg h0]
    by_cases h4 : k ≤ 400
    · rw [if_pos (show nI k ≤ 400 from nI_le (b := 400) h4 (by decide)), within1 h0 (show ¬ 400 < nI k from nI_nlt (a := 400) h4 (by decide)), if_neg (show ¬ (1 : Int32) = 0 by decide)]
      exact run_loop rfl h4 401 B N α β 0 0 (by decide) (by decide) (by omega) (by omega) h ho hm
    · rw [if_neg (show ¬ nI k ≤ 400 from nI_ge (a := 400) (by omega) hk), withinR h0 (show 400 < nI k from nI_lt (a := 400) (by omega) hk), if_pos rfl]
      exact hno
/-! FRAMES: the class's methods leave the reference alone, and the other way round -/
theorem cl_eqM (σ : St) : Cl (eqM σ) := by
  refine ⟨fun τ g i k v hg h g' i' k' hg' => ?_, fun τ g i k v h => h⟩
  rw [gI_sI, if_neg (by omega)]
  exact h g' i' k' hg'
theorem cm_eqX (σ : St) : Cm (eqX σ) := by
  intro τ g i k v hg h
  refine ⟨fun g' i' k' hg' => ?_, h.2⟩
  rw [gI_sI, if_neg (by omega)]
  exact h.1 g' i' k' hg'
theorem eqM_refl (σ : St) : eqM σ σ := fun _ _ _ _ => rfl
theorem eqX_refl (σ : St) : eqX σ σ := ⟨fun _ _ _ _ => rfl, fun _ _ _ => rfl⟩
theorem Sim_eqM {B : Nat} {α β β' : St} (he : eqM β β') (h : Sim B α β) : Sim B α β' := ⟨S0_eqM he h.1, fun p hp => ⟨(h.2 p hp).1, fun e => by rw [he 13 0 12 (by decide)]; exact (h.2 p hp).2 e⟩⟩
theorem Sim_eqX {B : Nat} {α α' β : St} (he : eqX α α') (h : Sim B α β) : Sim B α' β := ⟨S0_eqX he h.1, fun p hp => by
  rw [he.1 5 p 2 (by decide), he.2, he.1 5 p 9 (by decide)]; exact h.2 p hp⟩
theorem okM_eqM {N : Nat} {β β' : St} (he : eqM β β') (h : okM N β) : okM N β' := okM_congr (he _ _ _ (by decide)) (fun _ => he _ _ _ (by decide)) (fun _ => he _ _ _ (by decide)) (he _ _ _ (by decide)) (fun _ => he _ _ _ (by decide)) h
theorem okR_eqX {α α' : St} {r : Nat} (he : eqX α α') (h : okR α r) : okR α' r := by
  have e : gI α' 9 r 1 = gI α 9 r 1 := he.1 _ _ _ (by decide)
  have ez : zN α' r = zN α r := by unfold zN; rw [e]
  exact ⟨by rw [e, ez]; exact h.1, by rw [ez]; exact h.2.1, fun j p hp => h.2.2 j p (by rw [← he.2]; exact hp)⟩
theorem ok_eqX {α α' : St} (he : eqX α α') (h : ok α) : ok α' := ⟨okR_eqX he h.1, okR_eqX he h.2.1, fun p hp => h.2.2.1 p (by rw [← he.2]; exact hp), fun k p hp => h.2.2.2 k p (by rw [← he.2]; exact hp)⟩
def Inv (t : Nat) (σ : St) : Prop := Sim (5000 * t) σ σ ∧ ok σ ∧ okM (400 * t) σ
theorem Inv_mono {t : Nat} {σ : St} (h : Inv t σ) : Inv (t + 1) σ := ⟨⟨S0_mono (by omega) h.1.1, h.1.2⟩, h.2.1, okM_mono (by omega) h.2.2⟩
/-- from the two sides to one state -/
theorem Inv_of {t : Nat} {σ σ1 σ2 : St} (h : Inv t σ) (h1 : eqM σ σ1) (h2 : eqX σ1 σ2) (hk : Sim (5000 * t) σ σ1 → okM (400 * t) σ1 → Sim (5000 * t + 5000) σ1 σ2 ∧ ok σ1 ∧ okM (400 * t + 400) σ2) : Inv (t + 1) σ2 := by
  obtain ⟨k1, k2, k3⟩ := hk (Sim_eqM h1 h.1) (okM_eqM h1 h.2.2)
  exact ⟨by rw [show 5000 * (t + 1) = 5000 * t + 5000 by omega]; exact Sim_eqX h2 k1, ok_eqX h2 k2, by rw [show 400 * (t + 1) = 400 * t + 400 by omega]; exact k3⟩
theorem Sim_mono {B B' : Nat} {α β : St} (hB : B ≤ B') (h : Sim B α β) : Sim B' α β := ⟨S0_mono hB h.1, h.2⟩
theorem g_run {t : Nat} {σ : St} (ht : t < 512) (h : Inv t σ) : G_run Inv t σ := by
  intro x
  have e1 : eqM σ (f_X5_run σ x).2 := cl_run (cl_eqM σ) (eqM_refl σ)
  have hm1 := okM_eqM e1 h.2.2
  obtain ⟨r1, r2, r3, r4⟩ := run_sim (x := x) (N := 400 * t) (B := 5000 * t) (by omega) (by omega) (Sim_eqM e1 h.1) h.2.1 hm1
  exact ⟨hm1, r1, Inv_of h e1 (cm_run (cm_eqX _) (eqX_refl _)) (fun _ _ => ⟨Sim_mono (by omega) r2, r3, r4⟩)⟩
theorem g_setClock {t : Nat} {σ : St} (h : Inv t σ) : G_setClock Inv t σ := by
  intro x
  refine Inv_of (σ1 := f_X5_setClock σ x) h (cl_I (cl_eqM σ) (by decide) (eqM_refl σ)) (cm_eqX _ _ _ _ _ _ (by decide) (eqX_refl _)) (fun a b => ⟨⟨S0_mono (by omega) (S0_clock a.1 rfl), a.2⟩, ok_sI (by decide) h.2.1, okM_mono (by omega) (okM_sI (by omega) b)⟩)
