/-! A STEP -/
def exS (α : St) (q : Nat) : Int32 × St := (if gI (f_X5_execute α q) 5 q 2 = 2 then (1, sI (f_X5_execute α q) 0 0 7 ((gI (f_X5_execute α q) 0 0 7) + 1)) else (1, sI (sR (f_X5_execute α q) 0 0 6 (none)) 0 0 7 ((gI (sR (f_X5_execute α q) 0 0 6 (none)) 0 0 7) + 1)))
def txS (α : St) : Int32 × St := oC (gR (f_X5_takeNext α) 0 0 6) ((0, sI (f_X5_takeNext α) 0 0 7 ((gI (f_X5_takeNext α) 0 0 7) + 1))) (fun q => exS (f_X5_takeNext α) q)
theorem stepX_eq (σ : St) : f_X5_step σ = oC (gR (f_X5_giveWayToHigh (f_X5_wakeThoseWhoseTimeHasCome σ)) 0 0 6) (txS (f_X5_giveWayToHigh (f_X5_wakeThoseWhoseTimeHasCome σ))) (fun q => exS (f_X5_giveWayToHigh (f_X5_wakeThoseWhoseTimeHasCome σ)) q) := rfl
def inS (β : St) (q : Nat) : Int32 × St := (0, sI (f_X6_instruction β q) 13 0 11 ((gI (f_X6_instruction β q) 13 0 11) + 1))
def tmS (β : St) : Int32 × St := oC (f_X6_ready β 0 0) (oC (f_X6_ready β 1 0) ((1, sI (sI β 13 0 12 0) 13 0 11 ((gI (sI β 13 0 12 0) 13 0 11) + 1))) (fun q => inS (sI (sI β 13 0 12 0) 15 0 q 2) q)) (fun q => inS (sI (sI β 13 0 12 0) 15 0 q 2) q)
def gM (β : St) (q : Nat) : St := sI (sI (sI β 15 0 q 1) 13 0 9 ((gI (sI β 15 0 q 1) 13 0 9) - 1)) 19 0 q (gI (sI (sI β 15 0 q 1) 13 0 9 ((gI (sI β 15 0 q 1) 13 0 9) - 1)) 13 0 9)
theorem stepM_eq (σ : St) : f_X6_step σ = oC (f_X6_current (lp_X6_step_2 9 σ 0)) (tmS (lp_X6_step_2 9 σ 0)) (fun q => if gI (lp_X6_step_2 9 σ 0) 16 0 q = 1 then oC (f_X6_ready (lp_X6_step_2 9 σ 0) 0 0) (inS (lp_X6_step_2 9 σ 0) q) (fun _ => tmS (gM (lp_X6_step_2 9 σ 0) q)) else inS (lp_X6_step_2 9 σ 0) q) := rfl
theorem i12_send {τ : St} {p k : Nat} : gI (f_X6_send τ p k) 13 0 12 = gI τ 13 0 12 := by
  unfold f_X6_send
  split
  · split <;> rfl
  · split
    · split <;> rfl
    · rfl
theorem i12_receive {τ : St} {p k : Nat} : gI (f_X6_receive τ p k) 13 0 12 = gI τ 13 0 12 := by
  unfold f_X6_receive
  split
  · split <;> rfl
  · rfl
theorem i12_begin {τ : St} {x y z : Int32} : gI (f_X6_begin τ x y z).2 13 0 12 = gI τ 13 0 12 := by
  unfold f_X6_begin
  split
  · rfl
  · show gI (f_X6_atEnd (bM τ _ x y z) _) 13 0 12 = _
    rw [atEnd_all, if_neg (by omega), if_neg (by omega), if_neg (by omega), bm_all, if_neg (by omega), if_neg (by omega), if_neg (by omega)]
theorem i12_ite {c : Prop} [Decidable c] {a b : St} {v : Int32} (ha : gI a 13 0 12 = v) (hb : gI b 13 0 12 = v) : gI (if c then a else b) 13 0 12 = v := by
  split <;> assumption
theorem i12_inM {τ : St} {p kn : Nat} {o kk a : Int32} : gI (inM τ p o kk a kn) 13 0 12 = gI τ 13 0 12 := by
  unfold inM
  iterate 7 refine i12_ite rfl ?_
  refine i12_ite (i12_ite (i12_ite rfl rfl) rfl) ?_
  refine i12_ite (i12_ite rfl rfl) ?_
  refine i12_ite i12_send ?_
  refine i12_ite i12_receive ?_
  refine i12_ite rfl ?_
  refine i12_ite (i12_ite rfl rfl) ?_
  refine i12_ite ?_ rfl
  cases (f_X6_begin τ (kk - kk / 2 * 2) (kk / 2) a).1 with
  | none => exact i12_begin
  | some q => exact i12_begin
theorem i12_instr {β : St} {p : Nat} : gI (f_X6_instruction β p) 13 0 12 = gI β 13 0 12 + 1 := by
  rw [inM_eq]
  refine i12_ite rfl (i12_ite rfl ?_)
  rw [i12_inM]
  rfl
theorem kq_run {p : Nat} {c : Int32} : Kq (fun σ => gR σ 0 0 6 = some p ∧ (∀ q, q < 8 → gI σ 5 q 2 = 2 → q = p) ∧ gI σ 5 p 9 = c) := by
  refine ⟨fun σ g i k v hk hg h => ⟨h.1, fun q hq h2 => ?_, ?_⟩, fun σ g i k v hg h => ⟨?_, h.2.1, h.2.2⟩⟩
  · rw [gI_sI] at h2
    split at h2
    · rename_i hc
      exact absurd ⟨hc.1.symm, Or.inr ⟨hc.2.2.symm, h2⟩⟩ hk
    · exact h.2.1 q hq h2
  · rw [gI_sI, if_neg (fun hc => hk ⟨hc.1.symm, Or.inl hc.2.2.symm⟩)]
    exact h.2.2
  · rw [gR_sR, if_neg (fun hc => hg hc.1.symm)]
    exact h.1
def StepOK (B : Nat) (a b : Int32 × St) : Prop := (a.1 = 1 ∧ b.1 = 0 ∨ a.1 = 0 ∧ b.1 = 1) ∧ Sim B a.2 b.2
theorem StepOK_mono {B B' : Nat} {a b : Int32 × St} (hB : B ≤ B') (h : StepOK B a b) : StepOK B' a b := ⟨h.1, S0_mono hB h.2.1, h.2.2⟩
theorem exS_sim {B N p : Nat} {α β : St} (h : S0 B α β) (hm : okM N β) (hN : N < 2 ^ 30) (hB : B < 2 ^ 30) (hp : p < 8) (h2 : gI α 5 p 2 = 2) (hs : SM p α β) : StepOK (B + 1) (exS α p) (inS β p) := by
  have h1 := exec_sim h hm hN hB hp h2 hs.2.2
  have hk := kq_execute (P := fun σ => gR σ 0 0 6 = some p ∧ (∀ q, q < 8 → gI σ 5 q 2 = 2 → q = p) ∧ gI σ 5 p 9 = gI α 5 p 9 + 1) (σ := α) kq_run (q := p) ⟨hs.1, fun q hq e => hs.2.1 q hq (by rw [gI_sI, if_neg (by omega)] at e; exact e), by rw [gI_sI, if_pos ⟨rfl, rfl, rfl⟩]⟩
  have h9 : gI (f_X5_execute α p) 5 p 9 = gI (f_X6_instruction β p) 13 0 12 := by rw [hk.2.2, i12_instr, hs.2.2]
  have hk1 := hk.1
  have hk2 := hk.2.1
  have hc : gI (f_X5_execute α p) 0 0 7 + 1 = gI (f_X6_instruction β p) 13 0 11 + 1 := by rw [h1.2.1.1]
  unfold exS inS
  generalize f_X5_execute α p = A at *
  generalize f_X6_instruction β p = C at *
  by_cases hA : gI A 5 p 2 = 2
  · rw [if_pos hA]
    refine ⟨Or.inl ⟨rfl, rfl⟩, S0_clock h1 hc, fun q hq => ⟨⟨fun e => ?_, fun e => ?_⟩, fun e => ?_⟩⟩
    · have : q = p := hk2 q hq e
      rw [this]; exact hk1
    · have : p = q := Option.some.inj (hk1.symm.trans e)
      subst this
      exact hA
    · have : p = q := Option.some.inj (hk1.symm.trans e)
      subst this
      exact h9
  · rw [if_neg hA]
    refine ⟨Or.inl ⟨rfl, rfl⟩, S0_clock (S0_active h1) hc, fun q hq => ⟨⟨fun e => ?_, fun e => ?_⟩, fun e => ?_⟩⟩
    · have : q = p := hk2 q hq e
      subst this
      exact absurd e hA
    · cases (show (none : Option Nat) = some q from e)
    · cases (show (none : Option Nat) = some q from e)
def tkX (α : St) (r : Nat) : St := oC ((f_X4_takeFirst α r).1) (sR ((f_X4_takeFirst α r).2) 0 0 6 (none)) (fun q => sI (sI (sR ((f_X4_takeFirst α r).2) 0 0 6 (some q)) 5 q 2 2) 5 q 9 0)
theorem takeNext_eq (α : St) : f_X5_takeNext α = if gI α 9 0 1 ≤ 0 then tkX α 1 else tkX α 0 := rfl
theorem tk_some {B N r q : Nat} {l : List Nat} {α β : St} (h : S0 B α β) (hm : okM N β) (hN : N < 2 ^ 30) (hB : B < 2 ^ 30) (hr : r < 2) (hl : rowL α r = q :: l) (hno : ∀ q, q < 8 → ¬ gI α 5 q 2 = 2) : StepOK (B + 1) (oC (gR (tkX α r) 0 0 6) ((0, sI (tkX α r) 0 0 7 ((gI (tkX α r) 0 0 7) + 1))) (fun q => exS (tkX α r) q)) (inS (sI (sI β 13 0 12 0) 15 0 q 2) q) := by
  obtain ⟨t1, t2, t3, t4⟩ := S0_take (S0_doneM (y := 0) h) hr hl
  have e : tkX α r = sI (sI (sR ((f_X4_takeFirst α r).2) 0 0 6 (some q)) 5 q 2 2) 5 q 9 0 := by
    unfold tkX; rw [t1, oC_some]
  have eS : gR (sI (sI (sR ((f_X4_takeFirst α r).2) 0 0 6 (some q)) 5 q 2 2) 5 q 9 0) 0 0 6 = some q := by rw [gR_sI, gR_sI, gR_sR, if_pos ⟨rfl, rfl, rfl⟩]
  rw [e, eS, oC_some]
  refine exS_sim (S0_doneX (S0_active (o := some q) t3)) (okM_sI (by omega) (okM_sI (by omega) hm)) hN hB t2 ?_ ⟨rfl, fun q' hq' e2 => ?_, ?_⟩
  · rw [gI_sI, if_neg (by omega), gI_sI, if_pos ⟨rfl, rfl, rfl⟩]
  · rw [gI_sI, if_neg (by omega), rdA] at e2
    split at e2
    · assumption
    · exact absurd (((t4.1 5 q' 2 (by decide)).symm.trans e2)) (hno q' hq')
  · rw [rdA, if_pos rfl]; rfl
theorem take_sim {B N : Nat} {α β : St} (h : S0 B α β) (hm : okM N β) (hN : N < 2 ^ 30) (hB : B < 2 ^ 30) (hno : ∀ q, q < 8 → ¬ gI α 5 q 2 = 2) : StepOK (B + 1) (txS α) (tmS β) := by
  have r0 : f_X6_ready β 0 0 = (rowL α 0)[0]? := row_none h (r := 0) (by decide)
  have r1 : f_X6_ready β 1 0 = (rowL α 1)[0]? := row_none h (r := 1) (by decide)
  unfold txS tmS
  rw [takeNext_eq, r0, r1]
  rcases hl0 : rowL α 0 with _ | ⟨q, l⟩
  · rw [if_pos ((size_le h (by decide)).mpr hl0)]
    rcases hl1 : rowL α 1 with _ | ⟨q, l⟩
    · have hw := (h.2.2.2.1 1 (by decide)).1
      have hz : zN α 1 = 0 := by rw [← rowL_len, hl1]; rfl
      have e : tkX α 1 = sR α 0 0 6 none := by
        unfold tkX; rw [takeFirst_nil hw.1 hz]; rfl
      have eN : gR (sR α 0 0 6 none) 0 0 6 = none := by rw [gR_sR, if_pos ⟨rfl, rfl, rfl⟩]
      rw [e, eN, oC_none, show ([] : List Nat)[0]? = none from rfl, oC_none, oC_none]
      have hc : gI (sR α 0 0 6 none) 0 0 7 + 1 = gI (sI β 13 0 12 0) 13 0 11 + 1 := by
        show gI α 0 0 7 + 1 = gI β 13 0 11 + 1
        rw [h.2.1.1]
      refine ⟨Or.inr ⟨rfl, rfl⟩, S0_mono (by omega) (S0_clock (S0_active (S0_doneM h)) hc), fun q hq => ⟨⟨fun e => absurd e (hno q hq), fun e => ?_⟩, fun e => ?_⟩⟩
      · cases (show (none : Option Nat) = some q from e)
      · cases (show (none : Option Nat) = some q from e)
    · rw [show ([] : List Nat)[0]? = none from rfl, oC_none, show (q :: l)[0]? = some q from rfl, oC_some]
      exact tk_some h hm hN hB (by decide) hl1 hno
  · rw [if_neg (fun c => by rw [(size_le h (by decide)).mp c] at hl0; cases hl0)]
    rw [show (q :: l)[0]? = some q from rfl, oC_some]
    exact tk_some h hm hN hB (by decide) hl0 hno
theorem step_sim {B N : Nat} {α β : St} (h : Sim B α β) (ho : ok α) (hm : okM N β) (hN : N < 2 ^ 30) (hB : B + 10 < 2 ^ 30) : StepOK (B + 10) (f_X5_step α) (f_X6_step β) := by
  have hw : Sim (B + 8) (f_X5_wakeThoseWhoseTimeHasCome α) (lp_X6_step_2 9 β 0) := wake_sim 9 B α β 0 (by omega) (by decide) h
  have hwo := ok_wake ho
  have hwm : okM N (lp_X6_step_2 9 β 0) := okM_wake _ _ _ hm
  rw [stepX_eq, stepM_eq]
  generalize f_X5_wakeThoseWhoseTimeHasCome α = A at hw hwo ⊢
  generalize lp_X6_step_2 9 β 0 = C at hw hwm ⊢
  rw [cur_spec hw hwo.2.2.1]
  have r0 : f_X6_ready C 0 0 = (rowL A 0)[0]? := row_none hw.1 (r := 0) (by decide)
  rcases hA : gR A 0 0 6 with _ | p
  · have e : f_X5_giveWayToHigh A = A := by unfold f_X5_giveWayToHigh; rw [hA]; rfl
    rw [e, hA, oC_none, oC_none]
    exact StepOK_mono (by omega) (take_sim hw.1 hwm hN (by omega) (fun q hq e2 => by have := ((hw.2 q hq).1.mp e2); rw [hA] at this; cases this))
  · have hp := hwo.2.2.1 p hA
    have h2 : gI A 5 p 2 = 2 := (hw.2 p hp).1.mpr hA
    have hSM : SM p A C := ⟨hA, fun q hq e2 => by have := (hw.2 q hq).1.mp e2; rw [hA] at this; exact (Option.some.inj this).symm, (hw.2 p hp).2 hA⟩
    have e3 : gI A 5 p 3 = gI C 16 0 p := (hw.1.1 p hp).2.1
    rw [oC_some]
    have hEx := exS_sim hw.1 hwm hN (by omega) hp h2 hSM
    by_cases h1 : gI A 5 p 3 = 1
    · rw [if_pos (show gI C 16 0 p = 1 by rw [← e3]; exact h1), r0]
      rcases hl0 : rowL A 0 with _ | ⟨q, l⟩
      · have e : f_X5_giveWayToHigh A = A := by
          unfold f_X5_giveWayToHigh; rw [hA, oC_some, if_pos h1, if_pos ((size_le hw.1 (by decide)).mpr hl0)]
        rw [e, hA, oC_some, show ([] : List Nat)[0]? = none from rfl, oC_none]
        exact StepOK_mono (by omega) hEx
      · have e : f_X5_giveWayToHigh A = sR (f_X4_putFirst (sI A 5 p 2 1) 1 p) 0 0 6 none := by
          unfold f_X5_giveWayToHigh; rw [hA, oC_some, if_pos h1, if_neg (fun c => by rw [(size_le hw.1 (by decide)).mp c] at hl0; cases hl0)]
        obtain ⟨g1, g2⟩ := S0_give hw.1 (by omega) hp h2 h1
        have eN : gR (sR (f_X4_putFirst (sI A 5 p 2 1) 1 p) 0 0 6 none) 0 0 6 = none := by rw [gR_sR, if_pos ⟨rfl, rfl, rfl⟩]
        rw [e, eN, oC_none, show (q :: l)[0]? = some q from rfl, oC_some]
        have hgm : okM N (gM C p) := okM_sI (by omega) (okM_sI (by omega) (okM_sI (by omega) hwm))
        refine take_sim (B := B + 9) (S0_active g1) hgm hN (by omega) (fun q hq e2 => ?_)
        have e5 : gI (f_X4_putFirst (sI A 5 p 2 1) 1 p) 5 q 2 = 2 := e2
        rw [g2.1 5 q 2 (by decide), rdA] at e5
        split at e5
        · exact absurd e5 (by decide)
        · rename_i hne
          exact hne (hSM.2.1 q hq e5)
    · have e : f_X5_giveWayToHigh A = A := by
        unfold f_X5_giveWayToHigh; rw [hA, oC_some, if_neg h1]
      rw [if_neg (show ¬ gI C 16 0 p = 1 by rw [← e3]; exact h1), e, hA, oC_some]
      exact StepOK_mono (by omega) hEx
