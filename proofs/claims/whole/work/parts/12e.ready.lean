theorem rdA (σ : St) (g i k : Nat) (v : Int32) (i' : Nat) : gI (sI σ g i k v) g i' k = if i' = i then v else gI σ g i' k := by
  rw [gI_sI]; simp
theorem rdB (σ : St) (g k : Nat) (v : Int32) (k' : Nat) : gI (sI σ g 0 k v) g 0 k' = if k' = k then v else gI σ g 0 k' := by
  rw [gI_sI]; simp
theorem toInt_inc {x : Int32} {B : Nat} (h1 : -(B : Int) ≤ x.toInt) (h2 : x.toInt ≤ B) (hB : B < 2 ^ 30) : (x + 1).toInt = x.toInt + 1 := by
  rw [Int32.toInt_add]
  show (x.toInt + 1).bmod (2 ^ 32) = _
  exact Int.bmod_eq_of_le (by omega) (by omega)
theorem toInt_dec {x : Int32} {B : Nat} (h1 : -(B : Int) ≤ x.toInt) (h2 : x.toInt ≤ B) (hB : B < 2 ^ 30) : (x - 1).toInt = x.toInt - 1 := by
  rw [Int32.toInt_sub]
  show (x.toInt - 1).bmod (2 ^ 32) = _
  exact Int.bmod_eq_of_le (by omega) (by omega)
/-- q waits at no channel -/
def nw (α : St) (q : Nat) : Prop := ∀ k, k < 4 → ¬ gR α 8 k 1 = some q
theorem SC_state {α β : St} {q : Nat} {v w : Int32} (h : SC α β) (hn : nw α q) : SC (sI α 5 q 2 v) (sI β 15 0 q w) := by
  intro k hk
  obtain ⟨b1, b2, b3⟩ := h k hk
  refine ⟨b1, fun p hp => ?_, b3⟩
  obtain ⟨d1, d2, d3⟩ := b2 p hp
  refine ⟨d1, ?_, d3⟩
  rw [rdA, if_neg (fun e => hn k hk (by rw [← e]; exact hp))]
  exact d2
theorem SP_state {α β : St} {q : Nat} {v : Int32} (h : SP α β) (hv : v = 4 → gI α 5 q 8 = gI β 20 0 q) (hvp : ¬ v = 0 → gI α 5 q 4 = gI β 17 0 q) : SP (sI α 5 q 2 v) (sI β 15 0 q v) := by
  intro p hp
  obtain ⟨a1, a2, a3, a4, a5, a6, a7, a8, a9⟩ := h p hp
  refine ⟨?_, ?_, ?_, ?_, ?_, ?_, a7, ?_, ?_⟩
  · rw [rdA, rdB]; split
    · rfl
    · exact a1
  · rw [gI_sI, if_neg (by omega)]; exact a2
  · have e4 : gI (sI α 5 q 2 v) 5 p 4 = gI α 5 p 4 := by rw [gI_sI, if_neg (by omega)]
    have e17 : gI (sI β 15 0 q v) 17 0 p = gI β 17 0 p := rfl
    rw [e4, e17, rdA]
    split
    · rename_i e; subst e; exact hvp
    · exact a3
  · rw [gI_sI, if_neg (by omega)]; exact a4
  · rw [gI_sI, if_neg (by omega)]; exact a5
  · rw [gI_sI, if_neg (by omega)]; exact a6
  · rw [gI_sI, if_neg (by omega)]; exact a8
  · have e8 : gI (sI α 5 q 2 v) 5 p 8 = gI α 5 p 8 := by rw [gI_sI, if_neg (by omega)]
    have e20 : gI (sI β 15 0 q v) 20 0 p = gI β 20 0 p := rfl
    rw [e8, e20, rdA]
    split
    · rename_i e; subst e; exact hv
    · exact a9
/-- a process that isn't ready gets another state, but not 'ready' -/
theorem S0_state {B q : Nat} {v : Int32} {α β : St} (h : S0 B α β) (hq : q < 8) (hs : ¬ gI α 5 q 2 = 1) (hs0 : ¬ gI α 5 q 2 = 0) (hv : ¬ v = 1) (hv4 : v = 4 → gI α 5 q 8 = gI β 20 0 q) (hn : nw α q) : S0 B (sI α 5 q 2 v) (sI β 15 0 q v) := by
  obtain ⟨hP, hG, hC, hR1, hR2, hR3⟩ := h
  have hsβ : ¬ gI β 15 0 q = 1 := by rw [← (hP q hq).1]; exact hs
  refine ⟨SP_state hP hv4 (fun _ => (hP q hq).2.2.1 hs0), hG, SC_state hC hn, fun r hr => ⟨(hR1 r hr).1, (hR1 r hr).2.1, fun p => ?_⟩, fun p hp h1 => ?_, hR3⟩
  · show p ∈ rowL α r ↔ _
    rw [(hR1 r hr).2.2 p, rdB]
    split
    · rename_i e; subst e
      exact ⟨fun z => absurd z.2.1 hsβ, fun z => absurd z.2.1 hv⟩
    · exact Iff.rfl
  · rw [rdB] at h1
    split at h1
    · exact absurd h1 hv
    · exact hR2 p hp h1
theorem row_room {B q : Nat} {α β : St} (h : S0 B α β) (hq : q < 8) (hs : ¬ gI α 5 q 2 = 1) {r : Nat} (hr : r < 2) : q ∉ rowL α r ∧ zN α r < 8 := by
  obtain ⟨hP, hG, hC, hR1, hR2, hR3⟩ := h
  have hsβ : ¬ gI β 15 0 q = 1 := by rw [← (hP q hq).1]; exact hs
  have hni : q ∉ rowL α r := fun z => hsβ (((hR1 r hr).2.2 q).mp z).2.1
  refine ⟨hni, ?_⟩
  have hnd : (q :: rowL α r).Nodup := List.nodup_cons.mpr ⟨hni, (hR1 r hr).2.nodup⟩
  have := len_le8 hnd (fun x hx => by
    rcases List.mem_cons.mp hx with e | e
    · rw [e]; exact hq
    · exact (hR1 r hr).2.lt8 x e)
  rw [List.length_cons, rowL_len] at this
  omega
theorem rowOf_eq {σ : St} {x : Int32} (hx : x = 0 ∨ x = 1) : x = nI (f_X5_rowOf σ x) := by
  unfold f_X5_rowOf
  rcases hx with rfl | rfl <;> decide
theorem nI2_inj {a b : Nat} (ha : a < 2) (hb : b < 2) (h : nI a = nI b) : a = b := (nI_eq (by omega) (by omega)).mp h
/-- becomes ready -/
theorem S0_ready {B q : Nat} {α β : St} (h : S0 B α β) (hB : B < 2 ^ 30) (hq : q < 8) (hs : ¬ gI α 5 q 2 = 1) (hn : nw α q) (hpl : gI α 5 q 4 = gI β 17 0 q) : S0 (B + 1) (f_X5_becomeReady α q) (f_X6_atEnd β q) := by
  have hroom := fun r hr => row_room h hq hs (r := r) hr
  obtain ⟨hP, hG, hC, hR1, hR2, hF1, hF2, hF3⟩ := h
  obtain ⟨a1, a2, a3, a4, a5, a6, a7, a8, a9⟩ := hP q hq
  have hsβ : ¬ gI β 15 0 q = 1 := by rw [← a1]; exact hs
  -- the row
  have er : gI (sI α 5 q 2 1) 5 q 3 = gI α 5 q 3 := by rw [gI_sI, if_neg (by omega)]
  have hr2 := rowOf_lt (sI α 5 q 2 1) (gI α 5 q 3)
  have hrn : gI α 5 q 3 = nI (f_X5_rowOf (sI α 5 q 2 1) (gI α 5 q 3)) := rowOf_eq a8
  unfold f_X5_becomeReady
  rw [er]
  generalize f_X5_rowOf (sI α 5 q 2 1) (gI α 5 q 3) = r at hr2 hrn ⊢
  have hw : wf (sI α 5 q 2 1) r := (hR1 r hr2).1
  have hz : zN (sI α 5 q 2 1) r < 8 := (hroom r hr2).2
  obtain ⟨w1, w2⟩ := putLast_row (q := q) hw hq hz
  have heq := putLast_eq (q := q) hw.1 hz
  have hlast : lst (f_X6_atEnd β q) = lst β + 1 := by
    show (gI β 13 0 10 + 1).toInt = _
    exact toInt_inc (B := B) (by unfold lst fst at *; omega) hF3 hB
  have hfst : fst (f_X6_atEnd β q) = fst β := rfl
  have hrk : ∀ p, rk (f_X6_atEnd β q) p = if p = q then lst β else rk β p := by
    intro p
    show (gI (sI (sI β 15 0 q 1) 19 0 q (gI β 13 0 10)) 19 0 p).toInt = _
    rw [rdB]
    split <;> rfl
  have hst : ∀ p, gI (f_X6_atEnd β q) 15 0 p = if p = q then 1 else gI β 15 0 p := by
    intro p
    show gI (sI β 15 0 q 1) 15 0 p = _
    rw [rdB]
  have hpr : ∀ p, gI (f_X6_atEnd β q) 16 0 p = gI β 16 0 p := fun p => rfl
  refine ⟨?_, ?_, ?_, ?_⟩
  · rw [heq]
    exact SP_state (v := 1) hP (fun e => absurd e (by decide)) (fun _ => hpl)
  · rw [heq]; exact hG
  · rw [heq]
    exact SC_state (v := 1) (w := 1) hC hn
  · refine ⟨fun r' hr' => ?_, fun p hp h1 => ?_, by rw [hfst]; omega, by rw [hfst, hlast]; omega, by rw [hlast]; omega⟩
    · by_cases hrr : r' = r
      · subst hrr
        refine ⟨w1, ?_⟩
        rw [w2]
        have hl := (hR1 r' hr').2
        refine ⟨?_, fun p => ?_⟩
        · show List.Pairwise _ (rowL α r' ++ [q])
          rw [List.pairwise_append]
          refine ⟨hl.1.imp_of_mem (fun {a b} ha hb hab => ?_), List.pairwise_singleton _ _, fun a ha b hb => ?_⟩
          · rw [hrk, hrk, if_neg (fun e : a = q => (hroom r' hr').1 (e ▸ ha)), if_neg (fun e : b = q => (hroom r' hr').1 (e ▸ hb))]
            exact hab
          · rw [List.mem_singleton.mp hb, hrk, hrk, if_neg (fun e : a = q => (hroom r' hr').1 (e ▸ ha)), if_pos rfl]
            have hm := (hl.2 a).mp ha
            exact (hR2 a hm.1 hm.2.1).2
        · show p ∈ rowL α r' ++ [q] ↔ _
          rw [List.mem_append, List.mem_singleton, hst, hpr]
          by_cases hpq : p = q
          · subst hpq
            simp only [if_true]
            exact ⟨fun _ => ⟨hq, trivial, by rw [← a2]; exact hrn⟩, fun _ => Or.inr trivial⟩
          · rw [if_neg hpq, ← hl.2 p]
            exact ⟨fun z => z.elim id (fun e => absurd e hpq), Or.inl⟩
      · obtain ⟨o1, o2, o3⟩ := putLast_other (q := q) hw.1 hz hrr
        have hl := hR1 r' hr'
        have erow : rowL (f_X4_putLast (sI α 5 q 2 1) r q) r' = rowL α r' := rowL_ext o1 (fun j _ => o2 j)
        refine ⟨⟨⟨by rw [o3, o1]; exact hl.1.1.1, by rw [o1]; exact hl.1.1.2.1, fun j p hp => hl.1.1.2.2 j p (by rw [o2] at hp; exact hp)⟩, fun j hj => by rw [o2]; exact hl.1.2 j (by rw [o1] at hj; exact hj)⟩, ?_⟩
        rw [erow]
        refine ⟨hl.2.1.imp_of_mem (fun {a b} ha hb hab => ?_), fun p => ?_⟩
        · rw [hrk, hrk, if_neg (fun e : a = q => (hroom r' hr').1 (e ▸ ha)), if_neg (fun e : b = q => (hroom r' hr').1 (e ▸ hb))]
          exact hab
        · rw [hst, hpr]
          by_cases hpq : p = q
          · subst hpq
            rw [if_pos rfl]
            refine ⟨fun z => absurd z (hroom r' hr').1, fun z => ?_⟩
            exact absurd (nI2_inj hr' hr2 (by rw [← z.2.2, ← a2]; exact hrn)) hrr
          · rw [if_neg hpq, ← hl.2.2 p]
    · rw [hst] at h1
      rw [hfst, hlast, hrk]
      split at h1
      · rename_i e; rw [if_pos e]; omega
      · rename_i e; rw [if_neg e]
        have := hR2 p hp h1
        omega
