/-! HELP for the walks -/
def oC {α : Type} (o : Option Nat) (a : α) (f : Nat → α) : α := match o with
  | none => a
  | some q => f q
theorem oC_none {α : Type} (a : α) (f : Nat → α) : oC none a f = a := rfl
theorem oC_some {α : Type} (q : Nat) (a : α) (f : Nat → α) : oC (some q) a f = f q := rfl
theorem tagA {x y : Int32} {a b : Nat} (hx : x = nI a) (hy : y = nI b) : x + y = nI (a + b) := by rw [hx, hy, nI_add]
theorem tagM {x y : Int32} {a b : Nat} (hx : x = nI a) (hy : y = nI b) : x * y = nI (a * b) := by rw [hx, hy, pk_mul]
theorem tagS {x : Int32} {a : Nat} (hx : x = nI (a + 1)) : x - 1 = nI a := by rw [hx, nI_pred]
theorem tagP {x : Int32} {a : Nat} (hx : x = nI a) (h : 0 < a) : x - 1 = nI (a - 1) := by
  obtain ⟨k, rfl⟩ : ∃ k, a = k + 1 := ⟨a - 1, by omega⟩
  rw [hx, nI_pred]; rfl
theorem tagD {a : Nat} (h : 0 < a) : nI a + Int32.ofInt (-1) = nI (a - 1) := by
  obtain ⟨k, rfl⟩ : ∃ k, a = k + 1 := ⟨a - 1, by omega⟩
  exact pk_m1 k
theorem npos {j : Nat} (h : ¬ nI j ≤ 0) : 0 < j := by
  rcases Nat.eq_zero_or_pos j with q | q
  · subst q; exact absurd (by decide) h
  · exact q
theorem ne_i {x : Int32} (k : Nat) (h : ¬ x = nI k) (hk : k < 2 ^ 31) : x.toInt ≠ (k : Int) := fun q => h (Int32.toInt_inj.mp (q.trans (nI_toInt hk).symm))
theorem gC {w : Cond} (h : w ∈ T0) : GoodIn T0 (w :: T0) := fun v hv => by
  rcases List.mem_cons.mp hv with q | q
  · rw [q]; exact T0_good _ h
  · exact T0_good _ q
theorem cl_lt {x : Int32} {n : Nat} (h : vp_in x n) : x.toNatClampNeg < n := Nat.not_le.mp fun q => h (Or.inr q)
theorem cl_of {x : Int32} {n : Nat} (h : vp_in x n) : x = nI x.toNatClampNeg := by
  obtain ⟨j, hj, e⟩ := nI_of (fun q => h (Or.inl q) : ¬ x < 0)
  rw [e, nI_clamp hj]
theorem vin_lt {x : Int32} (n : Nat) (h0 : ¬ x < 0) (h : x < nI n) (hn : n < 1000) : vp_in x n := by
  rw [vp_in_iff]
  obtain ⟨j, hj, e⟩ := nI_of h0
  subst e
  rw [nI_toInt hj]
  have := (nI_ltI hj (show n < 2 ^ 31 by omega)).mp h
  omega
theorem vin_nle {x : Int32} (n : Nat) (h0 : ¬ x < 0) (h : ¬ nI n ≤ x) (hn : n < 1000) : vp_in x n := by
  rw [vp_in_iff]
  obtain ⟨j, hj, e⟩ := nI_of h0
  subst e
  rw [nI_toInt hj]
  have : ¬ n ≤ j := fun q => h ((nI_leI (show n < 2 ^ 31 by omega) hj).mpr q)
  omega
theorem ngt_8 {j : Nat} (hj : j ≤ 400) (k : Nat) (hk : k ≤ 400) (h : ¬ nI k ≤ nI j) : j < k := by
  rcases Nat.lt_or_ge j k with q | q
  · exact q
  · exact absurd (nI_le q (by omega)) h
section MU
variable {p : Program} {l : Launch} {e : Env} {R : Room} {s : State} {m : MethodId} {args : Array Value} {below : List Frame} {meth : Method} {c : Code} {H : Heap} {locs : List Loc} {cells slots : Nat} {Q : State → Prop}
variable {cc : ByteArray} {pc : Nat} {ls : Array Slot} {rest : List Value} {D : va_G} {cs : Nat → ClassId} {H0 : Heap} {b : Nat} {σ : St}
theorem x_ialdU (hexec : p.tables.exec = Jvm.exec) (hb : c.code = cc) (hK : va_K D vwCl (tyx cs) s) (hH : He D b 43 (Ex cs b σ) H) (g i N : Nat) (hi : i < xn g) (he : xeF cs b (gI σ g i) (gR σ g i) g i = .inl (cs 0, N, .inl (gI σ g i))) {x : Int32} (hin : vp_in x N) (hdg : decode cc pc = .ok (.iaload, 1))
    (kk : W p l e R s m args below meth c H locs cells slots Q (F0 m (pc + 1) ls (.int (gI σ g i x.toNatClampNeg) :: rest))) : W p l e R s m args below meth c H locs cells slots Q (F0 m pc ls (.int x :: .ref (b + xo g i) :: rest)) :=
  e_iald hexec hb hK hH (xo_ok hi).2.2 0 ((Ex_at cs b σ hi).trans he) rfl hin hdg kk
theorem x_iastU (hexec : p.tables.exec = Jvm.exec) (hb : c.code = cc) (hK : va_K D vwCl (tyx cs) s) (hH : He D b 43 (Ex cs b σ) H) (hS0 : va_S (fun q => b ≤ q) H0 H locs) (g i N : Nat) (hi : i < xn g) (he : ∀ (f : Nat → Int32) (r : Nat → Option Nat), xeF cs b f r g i = .inl (cs 0, N, .inl f)) {x v : Int32} (hin : vp_in x N) (hdg : decode cc pc = .ok (.iastore, 1))
    (kk : ∀ (H1 : Heap) (locs1 : List Loc), He D b 43 (Ex cs b (sI σ g i x.toNatClampNeg v)) H1 → va_S (fun q => b ≤ q) H0 H1 locs1 → W p l e R s m args below meth c H1 locs1 cells slots Q (F0 m (pc + 1) ls rest)) : W p l e R s m args below meth c H locs cells slots Q (F0 m pc ls (.int v :: .int x :: .ref (b + xo g i) :: rest)) := by
  refine e_iast hexec hb hK hH hS0 (xo_ok hi).2.2 0 ((Ex_at cs b σ hi).trans (he _ _)) rfl hin hdg (fun H1 locs1 hH1 hS1 => kk H1 locs1 (Ex_put hi sI_off ?_ hH1) hS1)
  rw [gI_sI_f]
  exact he _ _
end MU
