theorem SR_state {B q : Nat} {v : Int32} {α β : St} (h : SR B α β) (hsβ : ¬ gI β 15 0 q = 1) (hv : ¬ v = 1) : SR B α (sI β 15 0 q v) := by
  obtain ⟨hR1, hR2, hR3⟩ := h
  refine ⟨fun r hr => ⟨(hR1 r hr).1, (hR1 r hr).2.1, fun p => ?_⟩, fun p hp h1 => ?_, hR3⟩
  · rw [(hR1 r hr).2.2 p, rdB]
    split
    · rename_i e; subst e
      exact ⟨fun z => absurd z.2.1 hsβ, fun z => absurd z.2.1 hv⟩
    · exact Iff.rfl
  · rw [rdB] at h1
    split at h1
    · exact absurd h1 hv
    · exact hR2 p hp h1
theorem rdR (σ : St) (g k : Nat) (o : Option Nat) (i i' : Nat) : gR (sR σ g i k o) g i' k = if i' = i then o else gR σ g i' k := by
  rw [gR_sR]; simp
/-- a process waits at an empty channel -/
theorem SC_hold {k q : Nat} {z x : Int32} {α β β' : St} (h : SC α β) (hk : k < 4) (hq : q < 8) (hn : nw α q) (e22 : ∀ k', gI β' 22 0 k' = if k' = k then (if z = 0 then 16 + nI q else 8 + nI q) else gI β 22 0 k') (e21 : ∀ p, p ≠ q → gI β' 21 0 p = gI β 21 0 p) (e21q : ¬ z = 0 → x = gI β' 21 0 q) : SC (f_X0_hold α k q z x) β' := by
  have hR : ∀ k', gR (f_X0_hold α k q z x) 8 k' 1 = if k' = k then some q else gR α 8 k' 1 := fun k' => rdR _ _ _ _ _ _
  have h2 : ∀ k', gI (f_X0_hold α k q z x) 8 k' 2 = if k' = k then z else gI α 8 k' 2 := fun k' => by
    show gI (sI (sI (sR α 8 k 1 (some q)) 8 k 2 z) 8 k 3 x) 8 k' 2 = _
    rw [gI_sI, if_neg (by omega), rdA]; rfl
  have h3 : ∀ k', gI (f_X0_hold α k q z x) 8 k' 3 = if k' = k then x else gI α 8 k' 3 := fun k' => by
    have e : gI (sI (sR α 8 k 1 (some q)) 8 k 2 z) 8 k' 3 = gI α 8 k' 3 := by rw [gI_sI, if_neg (by omega)]; rfl
    show gI (sI (sI (sR α 8 k 1 (some q)) 8 k 2 z) 8 k 3 x) 8 k' 3 = _
    rw [rdA, e]
  have h5 : ∀ p, gI (f_X0_hold α k q z x) 5 p 2 = if p = q then 3 else gI α 5 p 2 := fun p => rdA _ _ _ _ _ _
  intro k' hk'
  unfold SC1 f_X0_code
  rw [e22, hR, h2, h3]
  by_cases hkk : k' = k
  · subst hkk
    simp only [if_true, oC_some]
    refine ⟨by first | trivial | rfl, fun p hp => ?_, fun k2 p hk2 hp hp2 => ?_⟩
    · cases hp
      exact ⟨hq, by rw [h5, if_pos rfl], e21q⟩
    · cases hp
      rw [hR] at hp2
      split at hp2
      · rename_i e; exact e.symm
      · exact absurd hp2 (hn k2 hk2)
  · rw [if_neg hkk, if_neg hkk, if_neg hkk, if_neg hkk]
    obtain ⟨b1, b2, b3⟩ := h k' hk'
    refine ⟨b1, fun p hp => ?_, fun k2 p hk2 hp hp2 => ?_⟩
    · obtain ⟨d1, d2, d3⟩ := b2 p hp
      have hpq : p ≠ q := fun e => hn k' hk' (by rw [← e]; exact hp)
      exact ⟨d1, by rw [h5, if_neg hpq]; exact d2, fun zz => by rw [e21 p hpq]; exact d3 zz⟩
    · rw [hR] at hp2
      split at hp2
      · cases hp2; exact absurd hp (hn k' hk')
      · exact b3 k2 p hk2 hp hp2
theorem S0_holdS {B k q : Nat} {x : Int32} {α β : St} (h : S0 B α β) (hk : k < 4) (hq : q < 8) (hs : gI α 5 q 2 = 2) : S0 B (f_X0_hold α k q 1 x) (sI (sI (sI β 15 0 q 3) 21 0 q x) 22 0 k (8 + nI q)) := by
  have hn : nw α q := nw_of h (by rw [hs]; decide)
  have hsβ : ¬ gI β 15 0 q = 1 := by rw [← (h.1 q hq).1, hs]; decide
  refine ⟨SP_state (v := 3) h.1 (fun e => absurd e (by decide)) (fun _ => (h.1 q hq).2.2.1 (by rw [hs]; decide)), h.2.1, SC_hold h.2.2.1 hk hq hn (fun k' => ?_) (fun p hp => ?_) (fun _ => ?_), SR_state (v := 3) h.2.2.2 hsβ (by decide)⟩
  · rw [rdB]; rfl
  · show gI (sI (sI β 15 0 q 3) 21 0 q x) 21 0 p = _
    rw [rdB, if_neg hp]; rfl
  · show x = gI (sI (sI β 15 0 q 3) 21 0 q x) 21 0 q
    rw [rdB, if_pos rfl]
theorem S0_holdR {B k q : Nat} {α β : St} (h : S0 B α β) (hk : k < 4) (hq : q < 8) (hs : gI α 5 q 2 = 2) : S0 B (f_X0_hold α k q 0 0) (sI (sI β 15 0 q 3) 22 0 k (16 + nI q)) := by
  have hn : nw α q := nw_of h (by rw [hs]; decide)
  have hsβ : ¬ gI β 15 0 q = 1 := by rw [← (h.1 q hq).1, hs]; decide
  refine ⟨SP_state (v := 3) h.1 (fun e => absurd e (by decide)) (fun _ => (h.1 q hq).2.2.1 (by rw [hs]; decide)), h.2.1, SC_hold h.2.2.1 hk hq hn (fun k' => ?_) (fun p hp => rfl) (fun e => absurd rfl e), SR_state (v := 3) h.2.2.2 hsβ (by decide)⟩
  rw [rdB]; rfl
/-- the log's room -/
theorem room_eq {σ : St} {m : Nat} (hm : m < 2 ^ 30) : f_X1_roomOf σ (nI m) = nI (5 * (m % 16)) := by
  unfold f_X1_roomOf
  rw [show (nI m &&& 15) = nI (m % 16) from pk_andN (m := 15) (by omega) 4 (by decide), show nI (m % 16) * 5 = nI ((m % 16) * 5) from pk_mul _ 5, Nat.mul_comm]
theorem room_ix {σ : St} {m j : Nat} (hm : m < 2 ^ 30) (hj : j < 5) {y : Int32} (hy : y = nI j) : (f_X1_roomOf σ (nI m) + y).toNatClampNeg = 5 * (m % 16) + j := by
  rw [room_eq hm, hy, nI_add, nI_clamp (by omega)]
theorem room_ix0 {σ : St} {m : Nat} (hm : m < 2 ^ 30) : (f_X1_roomOf σ (nI m)).toNatClampNeg = 5 * (m % 16) := by
  rw [room_eq hm, nI_clamp (by omega)]
theorem SC_tell {k t s : Nat} {x u : Int32} {α β : St} (h : SC α β) (hk : k < 4) : SC (f_X5_deliver (f_X0_clear α k) (nI k) s t x) (f_X6_tell β k u t x) := by
  have hR : ∀ k', gR (f_X5_deliver (f_X0_clear α k) (nI k) s t x) 8 k' 1 = if k' = k then none else gR α 8 k' 1 := fun k' => rdR _ _ _ _ _ _
  have h2 : ∀ k', gI (f_X5_deliver (f_X0_clear α k) (nI k) s t x) 8 k' 2 = if k' = k then 0 else gI α 8 k' 2 := fun k' => by
    show gI (sI (sI (sR α 8 k 1 none) 8 k 2 0) 8 k 3 0) 8 k' 2 = _
    rw [gI_sI, if_neg (by omega), rdA]; rfl
  have h3 : ∀ k', gI (f_X5_deliver (f_X0_clear α k) (nI k) s t x) 8 k' 3 = if k' = k then 0 else gI α 8 k' 3 := fun k' => by
    have e : gI (sI (sR α 8 k 1 none) 8 k 2 0) 8 k' 3 = gI α 8 k' 3 := by rw [gI_sI, if_neg (by omega)]; rfl
    show gI (sI (sI (sR α 8 k 1 none) 8 k 2 0) 8 k 3 0) 8 k' 3 = _
    rw [rdA, e]
  have h5 : ∀ p, gI (f_X5_deliver (f_X0_clear α k) (nI k) s t x) 5 p 2 = gI α 5 p 2 := fun p => by
    show gI (f_X2_put (f_X0_clear α k) t x) 5 p 2 = _
    unfold f_X2_put
    rw [gI_sI, if_neg (by omega), gI_sI, if_neg (by omega), gI_sI, if_neg (by omega)]; rfl
  have e22 : ∀ k', gI (f_X6_tell β k u t x) 22 0 k' = if k' = k then 0 else gI β 22 0 k' := fun k' => rdB _ _ _ _ _
  intro k' hk'
  unfold SC1 f_X0_code
  rw [e22, hR, h2, h3]
  by_cases hkk : k' = k
  · subst hkk
    rw [if_pos rfl, if_pos rfl, if_pos rfl, if_pos rfl]
    exact ⟨rfl, fun p hp => (by cases hp), fun k2 p _ hp _ => (by cases hp)⟩
  · rw [if_neg hkk, if_neg hkk, if_neg hkk, if_neg hkk]
    obtain ⟨b1, b2, b3⟩ := h k' hk'
    refine ⟨b1, fun p hp => ?_, fun k2 p hk2 hp hp2 => ?_⟩
    · obtain ⟨d1, d2, d3⟩ := b2 p hp
      exact ⟨d1, by rw [h5]; exact d2, d3⟩
    · rw [hR] at hp2
      split at hp2
      · cases hp2
      · exact b3 k2 p hk2 hp hp2
theorem SG_tell {N k t s : Nat} {x : Int32} {α β : St} (h : SG α β) (hM : okMg N β) (hN : N < 2 ^ 30) : SG (f_X5_deliver (f_X0_clear α k) (nI k) s t x) (f_X6_tell β k (nI s) t x) := by
  obtain ⟨g1, g2, g3, g4, g5⟩ := h
  have hm : mgN β < 2 ^ 30 := by have := hM.2; omega
  have ec : gI (f_X2_put (f_X0_clear α k) t x) 11 0 1 = nI (mgN β) := g4.trans hM.1
  refine ⟨g1, g2, g3, ?_, fun i hi => ?_⟩
  · show gI α 11 0 1 + 1 = gI β 13 0 14 + 1
    rw [g4]
  · have hv : gI (f_X2_put (f_X0_clear α k) t x) 0 0 7 = gI β 13 0 11 := g1
    unfold f_X5_deliver f_X1_append
    rw [ec, room_ix0 hm, room_ix hm (j := 1) (y := 1) (by decide) rfl, room_ix hm (j := 2) (y := 2) (by decide) rfl, room_ix hm (j := 3) (y := 3) (by decide) rfl, room_ix hm (j := 4) (y := 4) (by decide) rfl, hv]
    show gI (sI (sI (sI (sI (sI (f_X2_put (f_X0_clear α k) t x) 12 0 (5 * (mgN β % 16)) (nI k)) 12 0 (5 * (mgN β % 16) + 1) (nI s)) 12 0 (5 * (mgN β % 16) + 2) (nI t)) 12 0 (5 * (mgN β % 16) + 3) x) 12 0 (5 * (mgN β % 16) + 4) (gI β 13 0 11)) 12 0 i = gI (sI (sI (sI (sI (sI β 23 0 (5 * (mgN β % 16)) (nI k)) 23 0 (5 * (mgN β % 16) + 1) (nI s)) 23 0 (5 * (mgN β % 16) + 2) (nI t)) 23 0 (5 * (mgN β % 16) + 3) x) 23 0 (5 * (mgN β % 16) + 4) (gI β 13 0 11)) 23 0 i
    rw [rdB, rdB, rdB, rdB, rdB, rdB, rdB, rdB, rdB, rdB]
    rw [show gI (f_X2_put (f_X0_clear α k) t x) 12 0 i = gI β 23 0 i from g5 i hi]
theorem S0_tell {B N k t s : Nat} {x : Int32} {α β : St} (h : S0 B α β) (hM : okMg N β) (hN : N < 2 ^ 30) (hk : k < 4) (ht : t < 8) : S0 B (f_X5_deliver (f_X0_clear α k) (nI k) s t x) (f_X6_tell β k (nI s) t x) :=
  ⟨(S0_put (x := x) h ht).1, SG_tell h.2.1 hM hN, SC_tell h.2.2.1 hk, h.2.2.2⟩
