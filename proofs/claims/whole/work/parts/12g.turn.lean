/-- only rows changed -/
def X1 (α α1 : St) : Prop := (∀ g i k, g ≠ 9 → gI α1 g i k = gI α g i k) ∧ ∀ g i k, g ≠ 10 → gR α1 g i k = gR α g i k
theorem SP_x {α α1 β : St} (hx : X1 α α1) (h : SP α β) : SP α1 β := by
  intro p hp
  obtain ⟨a1, a2, a3, a4, a5, a6, a7, a8, a9⟩ := h p hp
  have e : ∀ k, gI α1 5 p k = gI α 5 p k := fun k => hx.1 5 p k (by decide)
  exact ⟨by rw [e]; exact a1, by rw [e]; exact a2, by rw [e, e]; exact a3, by rw [e]; exact a4, by rw [e]; exact a5, by rw [e]; exact a6, fun k hk => by rw [hx.1 6 p k (by decide)]; exact a7 k hk, by rw [e]; exact a8, by rw [e, e]; exact a9⟩
theorem SG_x {α α1 β : St} (hx : X1 α α1) (h : SG α β) : SG α1 β := by
  obtain ⟨g1, g2, g3, g4, g5⟩ := h
  exact ⟨by rw [hx.1 _ _ _ (by decide)]; exact g1, by rw [hx.1 _ _ _ (by decide)]; exact g2, fun i hi => by rw [hx.1 _ _ _ (by decide), hx.1 _ _ _ (by decide)]; exact g3 i hi, by rw [hx.1 _ _ _ (by decide)]; exact g4, fun i hi => by rw [hx.1 _ _ _ (by decide)]; exact g5 i hi⟩
theorem SC_x {α α1 β : St} (hx : X1 α α1) (h : SC α β) : SC α1 β := SC_congr h (fun p _ => hx.1 _ _ _ (by decide)) (fun k => hx.2 _ _ _ (by decide)) (fun k => hx.1 _ _ _ (by decide)) (fun k => hx.1 _ _ _ (by decide)) (fun _ => rfl) (fun _ => rfl)
theorem nw_x {α α1 : St} {q : Nat} (hx : X1 α α1) (h : nw α q) : nw α1 q := fun k hk hz => h k hk (by rw [← hx.2 _ _ _ (by decide)]; exact hz)
theorem S0_doneX {B p : Nat} {x : Int32} {α β : St} (h : S0 B α β) : S0 B (sI α 5 p 9 x) β := by
  refine ⟨fun q hq => ?_, h.2.1, SC_congr h.2.2.1 ?_ (fun _ => rfl) (fun _ => rfl) (fun _ => rfl) (fun _ => rfl) (fun _ => rfl), h.2.2.2⟩
  · obtain ⟨a1, a2, a3, a4, a5, a6, a7, a8, a9⟩ := id (h.1 q hq)
    refine SP1_mk (h.1 q hq) ?_ ?_ ?_ rfl rfl rfl (fun h0 => ?_) ?_ ?_ ?_ a7
    all_goals (rw [gI_sI, if_neg (by omega)])
    all_goals first | assumption | exact a3 h0
  · intro q hq
    rw [gI_sI, if_neg (by omega)]
theorem wf_other {α α1 : St} {r' : Nat} (e9 : gI α1 9 r' 1 = gI α 9 r' 1) (e10 : ∀ j, gR α1 10 r' j = gR α 10 r' j) (h : wf α r') : wf α1 r' ∧ rowL α1 r' = rowL α r' := by
  have o1 : zN α1 r' = zN α r' := congrArg Int32.toNatClampNeg e9
  exact ⟨⟨⟨by rw [e9, o1]; exact h.1.1, by rw [o1]; exact h.1.2.1, fun j p hp => h.1.2.2 j p (by rw [e10] at hp; exact hp)⟩, fun j hj => by rw [e10]; exact h.2 j (by rw [o1] at hj; exact hj)⟩, rowL_ext o1 (fun j _ => e10 j)⟩
/-- the first of a row begins to run -/
theorem S0_take {B r q : Nat} {l : List Nat} {α β : St} (h : S0 B α β) (hr : r < 2) (hl : rowL α r = q :: l) : (f_X4_takeFirst α r).1 = some q ∧ q < 8 ∧ S0 B (sI (f_X4_takeFirst α r).2 5 q 2 2) (sI β 15 0 q 2) ∧ X1 α (f_X4_takeFirst α r).2 := by
  obtain ⟨hP, hG, hC, hR1, hR2, hR3⟩ := h
  have hrow := (hR1 r hr).2
  rw [hl] at hrow
  have hq := (hrow.2 q).mp List.mem_cons_self
  have hst1 : gI α 5 q 2 = 1 := by rw [(hP q hq.1).1]; exact hq.2.1
  obtain ⟨t1, t2, t3, t4, t5⟩ := takeFirst_row (hR1 r hr).1 hl
  have hx : X1 α (f_X4_takeFirst α r).2 := ⟨fun g i k hg => t4 g i k (fun z => hg z.1), fun g i k hg => t5 g i k (fun z => hg z.1)⟩
  refine ⟨t1, hq.1, ?_, hx⟩
  have hn : nw (f_X4_takeFirst α r).2 q := nw_x hx (fun k hk hw => by have := ((hC k hk).2.1 q hw).2.1; rw [hst1] at this; exact absurd this (by decide))
  have hst : ∀ p, gI (sI β 15 0 q 2) 15 0 p = if p = q then 2 else gI β 15 0 p := fun p => rdB _ _ _ _ _
  have hnd := List.nodup_cons.mp hrow.nodup
  refine ⟨SP_state (SP_x hx hP) (fun e => absurd e (by decide)) (fun _ => by rw [hx.1 5 q 4 (by decide)]; exact (hP q hq.1).2.2.1 (by rw [hst1]; decide)), (show SG (f_X4_takeFirst α r).2 β from SG_x hx hG), SC_state (SC_x hx hC) hn, fun r' hr' => ?_, fun p hp h1 => ?_, hR3⟩
  · by_cases hrr : r' = r
    · subst hrr
      refine ⟨t2, ?_⟩
      show RL0 _ _ (rowL (f_X4_takeFirst α r').2 r')
      rw [t3]
      refine ⟨(List.pairwise_cons.mp hrow.1).2, fun p => ?_⟩
      rw [hst]
      by_cases hpq : p = q
      · subst hpq
        rw [if_pos rfl]
        exact ⟨fun z => absurd z hnd.1, fun z => absurd z.2.1 (by decide)⟩
      · rw [if_neg hpq]
        have := hrow.2 p
        rw [List.mem_cons] at this
        exact ⟨fun z => this.mp (Or.inr z), fun z => (this.mpr z).elim (fun e => absurd e hpq) id⟩
    · have ho := wf_other (α1 := (f_X4_takeFirst α r).2) (t4 9 r' 1 (fun z => hrr z.2.1)) (fun j => t5 10 r' j (fun z => hrr z.2)) (hR1 r' hr').1
      refine ⟨ho.1, ?_⟩
      show RL0 _ _ (rowL (f_X4_takeFirst α r).2 r')
      rw [ho.2]
      have hrw := (hR1 r' hr').2
      refine ⟨hrw.1, fun p => ?_⟩
      rw [hst]
      by_cases hpq : p = q
      · subst hpq
        rw [if_pos rfl]
        refine ⟨fun z => ?_, fun z => absurd z.2.1 (by decide)⟩
        have h3 := ((hrw.2 p).mp z).2.2
        exact absurd (nI2_inj hr' hr (by rw [← h3]; exact hq.2.2)) hrr
      · rw [if_neg hpq]; exact hrw.2 p
  · rw [hst] at h1
    split at h1
    · exact absurd h1 (by decide)
    · exact hR2 p hp h1
/-- a running process gives way -/
theorem S0_give {B q : Nat} {α β : St} (h : S0 B α β) (hB : B < 2 ^ 30) (hq : q < 8) (hs : gI α 5 q 2 = 2) (hp1 : gI α 5 q 3 = 1) : S0 (B + 1) (f_X4_putFirst (sI α 5 q 2 1) 1 q) (sI (sI (sI β 15 0 q 1) 13 0 9 (gI β 13 0 9 - 1)) 19 0 q (gI β 13 0 9 - 1)) ∧ X1 (sI α 5 q 2 1) (f_X4_putFirst (sI α 5 q 2 1) 1 q) := by
  have hroom := fun r hr => row_room h hq (by rw [hs]; decide) (r := r) hr
  have hn : nw α q := nw_of h (by rw [hs]; decide)
  obtain ⟨hP, hG, hC, hR1, hR2, hF1, hF2, hF3⟩ := h
  obtain ⟨a1, a2, a3, a4, a5, a6, a7, a8, a9⟩ := hP q hq
  have hw : wf (sI α 5 q 2 1) 1 := (hR1 1 (by decide)).1
  have hz : zN (sI α 5 q 2 1) 1 < 8 := (hroom 1 (by decide)).2
  obtain ⟨t2, t3, t4, t5⟩ := putFirst_row (q := q) hw hq hz
  have hx : X1 (sI α 5 q 2 1) (f_X4_putFirst (sI α 5 q 2 1) 1 q) := ⟨fun g i k hg => t4 g i k (fun z => hg z.1), fun g i k hg => t5 g i k (fun z => hg z.1)⟩
  refine ⟨?_, hx⟩
  generalize hβ : sI (sI (sI β 15 0 q 1) 13 0 9 (gI β 13 0 9 - 1)) 19 0 q (gI β 13 0 9 - 1) = β'
  have hd : (gI β 13 0 9 - 1).toInt = fst β - 1 := toInt_dec (B := B) hF1 (by unfold fst lst at *; omega) hB
  have hfst : fst β' = fst β - 1 := by rw [← hβ]; exact hd
  have hlst : lst β' = lst β := by rw [← hβ]; rfl
  have hrk : ∀ p, rk β' p = if p = q then fst β - 1 else rk β p := by
    intro p
    rw [← hβ]
    show (gI (sI (sI (sI β 15 0 q 1) 13 0 9 (gI β 13 0 9 - 1)) 19 0 q (gI β 13 0 9 - 1)) 19 0 p).toInt = _
    rw [rdB]
    split
    · exact hd
    · rfl
  have hst : ∀ p, gI β' 15 0 p = if p = q then 1 else gI β 15 0 p := by
    intro p
    rw [← hβ]
    show gI (sI β 15 0 q 1) 15 0 p = _
    rw [rdB]
  have hpr : ∀ p, gI β' 16 0 p = gI β 16 0 p := fun p => by rw [← hβ]; rfl
  have hP1 : SP (sI α 5 q 2 1) (sI β 15 0 q 1) := SP_state hP (fun e => absurd e (by decide)) (fun _ => a3 (by rw [hs]; decide))
  refine ⟨by rw [← hβ]; exact SP_x hx hP1, by rw [← hβ]; exact SG_x hx hG, by rw [← hβ]; exact SC_x hx (SC_state (v := 1) (w := 1) hC hn), fun r' hr' => ?_, fun p hp h1 => ?_, by rw [hfst]; omega, by rw [hfst, hlst]; omega, by rw [hlst]; omega⟩
  · by_cases hrr : r' = 1
    · subst hrr
      refine ⟨t2, ?_⟩
      rw [t3]
      have hl := (hR1 1 hr').2
      refine ⟨?_, fun p => ?_⟩
      · show List.Pairwise _ (q :: rowL α 1)
        rw [List.pairwise_cons]
        refine ⟨fun b hb => ?_, hl.1.imp_of_mem (fun {a b} ha hb hab => ?_)⟩
        · rw [hrk, hrk, if_pos rfl, if_neg (fun e : b = q => (hroom 1 hr').1 (e ▸ hb))]
          have hm := (hl.2 b).mp hb
          have := (hR2 b hm.1 hm.2.1).1
          omega
        · rw [hrk, hrk, if_neg (fun e : a = q => (hroom 1 hr').1 (e ▸ ha)), if_neg (fun e : b = q => (hroom 1 hr').1 (e ▸ hb))]
          exact hab
      · show p ∈ q :: rowL α 1 ↔ _
        rw [List.mem_cons, hst, hpr]
        by_cases hpq : p = q
        · subst hpq
          simp only [if_true]
          exact ⟨fun _ => ⟨hq, trivial, by rw [← a2, hp1]; rfl⟩, fun _ => Or.inl trivial⟩
        · rw [if_neg hpq, ← hl.2 p]
          exact ⟨fun z => z.elim (fun e => absurd e hpq) id, Or.inr⟩
    · have ho := wf_other (α1 := f_X4_putFirst (sI α 5 q 2 1) 1 q) (t4 9 r' 1 (fun z => hrr z.2.1)) (fun j => t5 10 r' j (fun z => hrr z.2)) (hR1 r' hr').1
      refine ⟨ho.1, ?_⟩
      rw [ho.2]
      have hrw := (hR1 r' hr').2
      refine ⟨hrw.1.imp_of_mem (fun {a b} ha hb hab => ?_), fun p => ?_⟩
      · rw [hrk, hrk, if_neg (fun e : a = q => (hroom r' hr').1 (e ▸ ha)), if_neg (fun e : b = q => (hroom r' hr').1 (e ▸ hb))]
        exact hab
      · show p ∈ rowL α r' ↔ _
        rw [hst, hpr]
        by_cases hpq : p = q
        · subst hpq
          rw [if_pos rfl]
          refine ⟨fun z => absurd z (hroom r' hr').1, fun z => ?_⟩
          exact absurd (nI2_inj hr' (by decide) (by rw [← z.2.2, ← a2, hp1]; rfl)) hrr
        · rw [if_neg hpq, ← hrw.2 p]
  · rw [hst] at h1
    rw [hfst, hlst, hrk]
    split at h1
    · rename_i e; rw [if_pos e]; omega
    · rename_i e; rw [if_neg e]
      have := hR2 p hp h1
      omega
