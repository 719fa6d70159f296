/-! THE LAYOUT. A state is what the variables hold: ints by (group, place in the group, slot), references likewise (which process). The groups:
 0 ProcessTurns, 1 Program, 2 ops, 3 operands, 4 processes, 5 Proc, 6 words, 7 channels, 8 Channel, 9 Row, 10 members, 11 Log, 12 parts;
 13 ProcessTurnsModel, 14 code, 15 state, 16 priority, 17 place, 18 cells, 19 rank, 20 until, 21 message, 22 channel, 23 log. -/
abbrev St : Type := (Nat → Nat → Nat → Int32) × (Nat → Nat → Nat → Option Nat)
def gI (σ : St) (g i k : Nat) : Int32 := σ.1 g i k
def gR (σ : St) (g i k : Nat) : Option Nat := σ.2 g i k
def sI (σ : St) (g i k : Nat) (v : Int32) : St := (fun g' i' k' => if g' = g ∧ i' = i ∧ k' = k then v else σ.1 g' i' k', σ.2)
def sR (σ : St) (g i k : Nat) (v : Option Nat) : St := (σ.1, fun g' i' k' => if g' = g ∧ i' = i ∧ k' = k then v else σ.2 g' i' k')
theorem gI_sI (σ : St) (g i k : Nat) (v : Int32) (g' i' k' : Nat) : gI (sI σ g i k v) g' i' k' = if g' = g ∧ i' = i ∧ k' = k then v else gI σ g' i' k' := rfl
theorem gR_sI (σ : St) (g i k : Nat) (v : Int32) (g' i' k' : Nat) : gR (sI σ g i k v) g' i' k' = gR σ g' i' k' := rfl
theorem gI_sR (σ : St) (g i k : Nat) (v : Option Nat) (g' i' k' : Nat) : gI (sR σ g i k v) g' i' k' = gI σ g' i' k' := rfl
theorem gR_sR (σ : St) (g i k : Nat) (v : Option Nat) (g' i' k' : Nat) : gR (sR σ g i k v) g' i' k' = if g' = g ∧ i' = i ∧ k' = k then v else gR σ g' i' k' := rfl
theorem gI_sI_f (σ : St) (g i k : Nat) (v : Int32) : gI (sI σ g i k v) g i = upd (gI σ g i) k v := by
  funext j
  simp [gI_sI, upd]
theorem gR_sR_f (σ : St) (g i k : Nat) (v : Option Nat) : gR (sR σ g i k v) g i = va_up (gR σ g i) k v := by
  funext j
  simp [gR_sR, va_up]
def xo (g i : Nat) : Nat := match g with
  | 5 => 5 + 2 * i
  | 6 => 6 + 2 * i
  | 7 => 21
  | 8 => 22 + i
  | 9 => 26 + 2 * i
  | 10 => 27 + 2 * i
  | 11 => 30
  | 12 => 31
  | g => if g < 5 then g else g + 19
def xn (g : Nat) : Nat := match g with
  | 5 => 8
  | 6 => 8
  | 8 => 4
  | 9 => 2
  | 10 => 2
  | g => if g < 24 then 1 else 0
def xg (j : Nat) : Nat := if j < 5 then j else if j < 21 then (if j % 2 = 1 then 5 else 6) else if j = 21 then 7 else if j < 26 then 8 else if j < 30 then (if j % 2 = 0 then 9 else 10) else if j = 30 then 11 else if j = 31 then 12 else j - 19
def xi (j : Nat) : Nat := if j < 5 then 0 else if j < 21 then (j - 5) / 2 else if j = 21 then 0 else if j < 26 then j - 22 else if j < 30 then (j - 26) / 2 else 0
theorem xo_ok0 : ∀ g, g < 24 → ∀ i, i < xn g → xg (xo g i) = g ∧ xi (xo g i) = i ∧ xo g i < 43 := by decide +kernel
theorem xo_back : ∀ j, j < 43 → xo (xg j) (xi j) = j ∧ xi j < xn (xg j) := by decide +kernel
theorem xn_lt {g i : Nat} (h : i < xn g) : g < 24 := by
  rcases Nat.lt_or_ge g 24 with q | q
  · exact q
  · have h0 : xn g = 0 := by
      unfold xn
      split <;> first | omega | (rw [if_neg (by omega)])
    omega
theorem xo_ok {g i : Nat} (h : i < xn g) : xg (xo g i) = g ∧ xi (xo g i) = i ∧ xo g i < 43 := xo_ok0 g (xn_lt h) i h
/-- a cell out of its variables f (ints), r (references) -/
def xeF (cs : Nat → ClassId) (b : Nat) (f : Nat → Int32) (r : Nat → Option Nat) (g i : Nat) : va_E := match g with
  | 0 => .inr (5, [.ref (b + xo 1 0), .ref (b + xo 4 0), .ref (b + xo 7 0), .ref (b + xo 9 0), .ref (b + xo 9 1), .ref (b + xo 11 0), va_rf ((r 6).map (fun p => b + xo 5 p)), .int (f 7)])
  | 1 => .inr (3, [.ref (b + xo 2 0), .ref (b + xo 3 0), .int (f 2)])
  | 2 => .inl (cs 0, 40, .inl f)
  | 3 => .inl (cs 0, 40, .inl f)
  | 4 => .inl (cs 1, 8, .inr (.inr (.inr (.inr (fun k => some (b + xo 5 k))))))
  | 5 => .inr (2, [.int (nI i), .ref (b + xo 6 i), .int (f 2), .int (f 3), .int (f 4), .int (f 5), .int (f 6), .int (f 7), .int (f 8), .int (f 9)])
  | 6 => .inl (cs 0, 4, .inl f)
  | 7 => .inl (cs 2, 4, .inr (.inr (.inr (.inr (fun k => some (b + xo 8 k))))))
  | 8 => .inr (0, [.int (nI i), va_rf ((r 1).map (fun p => b + xo 5 p)), .int (f 2), .int (f 3)])
  | 9 => .inr (4, [.ref (b + xo 10 i), .int (f 1)])
  | 10 => .inl (cs 1, 8, .inr (.inr (.inr (.inr (fun k => (r k).map (fun p => b + xo 5 p))))))
  | 11 => .inr (1, [.ref (b + xo 12 0), .int (f 1)])
  | 12 => .inl (cs 0, 80, .inl f)
  | 13 => .inr (6, [.ref (b + xo 14 0), .int (f 1), .ref (b + xo 15 0), .ref (b + xo 16 0), .ref (b + xo 17 0), .ref (b + xo 18 0), .ref (b + xo 19 0), .ref (b + xo 20 0), .ref (b + xo 21 0), .int (f 9), .int (f 10), .int (f 11), .int (f 12), .ref (b + xo 22 0), .int (f 14), .ref (b + xo 23 0)])
  | 14 => .inl (cs 0, 80, .inl f)
  | 18 => .inl (cs 0, 56, .inl f)
  | 22 => .inl (cs 0, 4, .inl f)
  | 23 => .inl (cs 0, 80, .inl f)
  | _ => .inl (cs 0, 8, .inl f)
def Ex (cs : Nat → ClassId) (b : Nat) (σ : St) (j : Nat) : va_E := xeF cs b (gI σ (xg j) (xi j)) (gR σ (xg j) (xi j)) (xg j) (xi j)
abbrev tyx (cs : Nat → ClassId) : List (ClassId × FieldType) := [(cs 0, .int), (cs 1, .object RX2), (cs 2, .object RX0)]
theorem Ex_at (cs : Nat → ClassId) (b : Nat) (σ : St) {g i : Nat} (h : i < xn g) : Ex cs b σ (xo g i) = xeF cs b (gI σ g i) (gR σ g i) g i := by
  obtain ⟨h1, h2, -⟩ := xo_ok h
  unfold Ex
  rw [h1, h2]
theorem Ex_put {D : va_G} {cs : Nat → ClassId} {b : Nat} {σ σ' : St} {g i : Nat} {x : va_E} {H : Heap} (h : i < xn g) (hu : ∀ g' i', ¬ (g' = g ∧ i' = i) → gI σ' g' i' = gI σ g' i' ∧ gR σ' g' i' = gR σ g' i') (hx : xeF cs b (gI σ' g i) (gR σ' g i) g i = x) (hH : He D b 43 (eU (Ex cs b σ) (xo g i) x) H) : He D b 43 (Ex cs b σ') H := by
  refine hH.to fun j hj => ?_
  by_cases hij : j = xo g i
  · subst hij
    rw [eU_s, Ex_at cs b σ' h, hx]
  · rw [eU_n hij]
    unfold Ex
    obtain ⟨e1, e2⟩ := hu (xg j) (xi j) (fun q => hij (by rw [← (xo_back j hj).1, q.1, q.2]))
    rw [e1, e2]
theorem sI_off {σ : St} {g i k : Nat} {v : Int32} (g' i' : Nat) (h : ¬ (g' = g ∧ i' = i)) : gI (sI σ g i k v) g' i' = gI σ g' i' ∧ gR (sI σ g i k v) g' i' = gR σ g' i' := by
  refine ⟨?_, rfl⟩
  funext q
  rw [gI_sI, if_neg (fun z => h ⟨z.1, z.2.1⟩)]
theorem sR_off {σ : St} {g i k : Nat} {v : Option Nat} (g' i' : Nat) (h : ¬ (g' = g ∧ i' = i)) : gI (sR σ g i k v) g' i' = gI σ g' i' ∧ gR (sR σ g i k v) g' i' = gR σ g' i' := by
  refine ⟨rfl, ?_⟩
  funext q
  rw [gR_sR, if_neg (fun z => h ⟨z.1, z.2.1⟩)]
section MT
variable {p : Program} {l : Launch} {e : Env} {R : Room} {s : State} {m : MethodId} {args : Array Value} {below : List Frame} {meth : Method} {c : Code} {H : Heap} {locs : List Loc} {cells slots : Nat} {Q : State → Prop}
variable {cc : ByteArray} {pc : Nat} {ls : Array Slot} {rest : List Value} {D : va_G} {cs : Nat → ClassId} {H0 : Heap} {b : Nat} {σ : St}
theorem x_get (hexec : p.tables.exec = Jvm.exec) (hb : c.code = cc) {own ref C : String} {T : u_T} {N ci index : Nat} {Ts : List Cond} (hts : ∀ w ∈ Ts, w.before args s = true) (hin : ∀ w ∈ u_ws C T N, w ∈ Ts) (hown : s.vm.findClass own = some m.cls) (hK : va_K D vwCl (tyx cs) s) (hH : He D b 43 (Ex cs b σ) H) (g i k : Nat) (hi : i < xn g) {fs : List Value} (he : xeF cs b (gI σ g i) (gR σ g i) g i = .inr (ci, fs)) (hc : vwCl[ci]? = some (C, T, N)) (hk : k < N) (hlink : Cond.fieldLink own index ref (T k).2.1 (T k).2.2.1 ∈ Ts) (href : (T k).1 = ref) {v : Value} (hv : fs[k]? = some v) (hdg : decode cc pc = .ok (.getfield index, 3))
    (kk : W p l e R s m args below meth c H locs cells slots Q (F0 m (pc + 3) ls (v :: rest))) : W p l e R s m args below meth c H locs cells slots Q (F0 m pc ls (.ref (b + xo g i) :: rest)) :=
  e_get hexec hb hts hin hown hK hH (xo_ok hi).2.2 ((Ex_at cs b σ hi).trans he) hc k hk hlink href hv hdg kk
theorem x_putI (hexec : p.tables.exec = Jvm.exec) (hb : c.code = cc) {own ref C : String} {T : u_T} {N ci index : Nat} {Ts : List Cond} (hts : ∀ w ∈ Ts, w.before args s = true) (hin : ∀ w ∈ u_ws C T N, w ∈ Ts) (ty0 : Nat → FieldType) (hty : ∀ k, k < N → parseFieldDescriptor (T k).2.2.1 = some (ty0 k)) (hnm : ∀ a, a < N → ∀ b, b < N → a ≠ b → (T a).2.1 ≠ (T b).2.1) (hown : s.vm.findClass own = some m.cls) (hK : va_K D vwCl (tyx cs) s) (hH : He D b 43 (Ex cs b σ) H) (hS0 : va_S (fun q => b ≤ q) H0 H locs) (g i k : Nat) (hi : i < xn g) {fs : List Value} (he : xeF cs b (gI σ g i) (gR σ g i) g i = .inr (ci, fs)) {v : Int32} (he' : xeF cs b (upd (gI σ g i) k v) (gR σ g i) g i = .inr (ci, fs.set k (.int v))) (hc : vwCl[ci]? = some (C, T, N)) (hk : k < N) (hlink : Cond.fieldLink own index ref (T k).2.1 (T k).2.2.1 ∈ Ts) (href : (T k).1 = ref) (hfin : (T k).2.2.2 = false) (hn : narrow (ty0 k) (.int v) = .int v) (hfit : fits (ty0 k) (.int v) = true) (hl : k < fs.length)
    (hdg : decode cc pc = .ok (.putfield index, 3)) (kk : ∀ (H1 : Heap) (locs1 : List Loc), He D b 43 (Ex cs b (sI σ g i k v)) H1 → va_S (fun q => b ≤ q) H0 H1 locs1 → W p l e R s m args below meth c H1 locs1 cells slots Q (F0 m (pc + 3) ls rest)) : W p l e R s m args below meth c H locs cells slots Q (F0 m pc ls (.int v :: .ref (b + xo g i) :: rest)) :=
  e_put hexec hb hts hin ty0 hty hnm hown hK hH hS0 (xo_ok hi).2.2 ((Ex_at cs b σ hi).trans he) hc k hk hlink href hfin hn hfit hl hdg (fun H1 locs1 hH1 hS1 => kk H1 locs1 (Ex_put hi sI_off (by rw [gI_sI_f]; exact he') hH1) hS1)
theorem x_putR (hexec : p.tables.exec = Jvm.exec) (hb : c.code = cc) {own ref C : String} {T : u_T} {N ci index : Nat} {Ts : List Cond} (hts : ∀ w ∈ Ts, w.before args s = true) (hin : ∀ w ∈ u_ws C T N, w ∈ Ts) (ty0 : Nat → FieldType) (hty : ∀ k, k < N → parseFieldDescriptor (T k).2.2.1 = some (ty0 k)) (hnm : ∀ a, a < N → ∀ b, b < N → a ≠ b → (T a).2.1 ≠ (T b).2.1) (hown : s.vm.findClass own = some m.cls) (hK : va_K D vwCl (tyx cs) s) (hH : He D b 43 (Ex cs b σ) H) (hS0 : va_S (fun q => b ≤ q) H0 H locs) (g i k : Nat) (hi : i < xn g) {fs : List Value} (he : xeF cs b (gI σ g i) (gR σ g i) g i = .inr (ci, fs)) (r : Option Nat) {v : Value} (hrv : va_rf (r.map (fun p => b + xo 5 p)) = v) (he' : xeF cs b (gI σ g i) (va_up (gR σ g i) k r) g i = .inr (ci, fs.set k (va_rf (r.map (fun p => b + xo 5 p))))) (hc : vwCl[ci]? = some (C, T, N)) (hk : k < N) (hlink : Cond.fieldLink own index ref (T k).2.1 (T k).2.2.1 ∈ Ts) (href : (T k).1 = ref) (hfin : (T k).2.2.2 = false) {C' : String} (hty0 : ty0 k = .object C') (hl : k < fs.length)
    (hdg : decode cc pc = .ok (.putfield index, 3)) (kk : ∀ (H1 : Heap) (locs1 : List Loc), He D b 43 (Ex cs b (sR σ g i k r)) H1 → va_S (fun q => b ≤ q) H0 H1 locs1 → W p l e R s m args below meth c H1 locs1 cells slots Q (F0 m (pc + 3) ls rest)) : W p l e R s m args below meth c H locs cells slots Q (F0 m pc ls (v :: .ref (b + xo g i) :: rest)) := by
  subst hrv
  refine e_put hexec hb hts hin ty0 hty hnm hown hK hH hS0 (xo_ok hi).2.2 ((Ex_at cs b σ hi).trans he) hc k hk hlink href hfin ?_ ?_ hl hdg (fun H1 locs1 hH1 hS1 => kk H1 locs1 (Ex_put hi sR_off (by rw [gR_sR_f]; exact he') hH1) hS1)
  · rw [hty0]; cases r <;> rfl
  · rw [hty0]; cases r <;> rfl
theorem x_iald (hexec : p.tables.exec = Jvm.exec) (hb : c.code = cc) (hK : va_K D vwCl (tyx cs) s) (hH : He D b 43 (Ex cs b σ) H) (g i N : Nat) (hi : i < xn g) (he : xeF cs b (gI σ g i) (gR σ g i) g i = .inl (cs 0, N, .inl (gI σ g i))) (j : Nat) {x : Int32} (hx : x = nI j) (hj : j < N) (hN : N < 1000) (hdg : decode cc pc = .ok (.iaload, 1))
    (kk : W p l e R s m args below meth c H locs cells slots Q (F0 m (pc + 1) ls (.int (gI σ g i j) :: rest))) : W p l e R s m args below meth c H locs cells slots Q (F0 m pc ls (.int x :: .ref (b + xo g i) :: rest)) := by
  subst hx
  refine e_iald hexec hb hK hH (xo_ok hi).2.2 0 ((Ex_at cs b σ hi).trans he) rfl (vp_in_nI hj (by omega)) hdg ?_
  rw [nI_clamp (show j < 2 ^ 31 by omega)]
  exact kk
theorem x_iast (hexec : p.tables.exec = Jvm.exec) (hb : c.code = cc) (hK : va_K D vwCl (tyx cs) s) (hH : He D b 43 (Ex cs b σ) H) (hS0 : va_S (fun q => b ≤ q) H0 H locs) (g i N : Nat) (hi : i < xn g) (he : ∀ (f : Nat → Int32) (r : Nat → Option Nat), xeF cs b f r g i = .inl (cs 0, N, .inl f)) (j : Nat) {x v : Int32} (hx : x = nI j) (hj : j < N) (hN : N < 1000) (hdg : decode cc pc = .ok (.iastore, 1))
    (kk : ∀ (H1 : Heap) (locs1 : List Loc), He D b 43 (Ex cs b (sI σ g i j v)) H1 → va_S (fun q => b ≤ q) H0 H1 locs1 → W p l e R s m args below meth c H1 locs1 cells slots Q (F0 m (pc + 1) ls rest)) : W p l e R s m args below meth c H locs cells slots Q (F0 m pc ls (.int v :: .int x :: .ref (b + xo g i) :: rest)) := by
  subst hx
  refine e_iast hexec hb hK hH hS0 (xo_ok hi).2.2 0 ((Ex_at cs b σ hi).trans (he _ _)) rfl (vp_in_nI hj (by omega)) hdg (fun H1 locs1 hH1 hS1 => kk H1 locs1 (Ex_put hi sI_off ?_ hH1) hS1)
  rw [gI_sI_f, nI_clamp (show j < 2 ^ 31 by omega)]
  exact he _ _
/-- processes[j], channels[j] -/
theorem x_procs (hexec : p.tables.exec = Jvm.exec) (hb : c.code = cc) (hK : va_K D vwCl (tyx cs) s) (hH : He D b 43 (Ex cs b σ) H) (j : Nat) {x : Int32} (hx : x = nI j) (hj : j < 8) (hdg : decode cc pc = .ok (.aaload, 1))
    (kk : W p l e R s m args below meth c H locs cells slots Q (F0 m (pc + 1) ls (.ref (b + xo 5 j) :: rest))) : W p l e R s m args below meth c H locs cells slots Q (F0 m pc ls (.int x :: .ref (b + xo 4 0) :: rest)) := by
  subst hx
  refine e_aald hexec hb hK hH (xo_ok (show 0 < xn 4 by decide)).2.2 1 (Ex_at cs b σ (show 0 < xn 4 by decide)) rfl (vp_in_nI hj (by omega)) hdg ?_
  rw [nI_clamp (show j < 2 ^ 31 by omega)]
  exact kk
theorem x_chans (hexec : p.tables.exec = Jvm.exec) (hb : c.code = cc) (hK : va_K D vwCl (tyx cs) s) (hH : He D b 43 (Ex cs b σ) H) (j : Nat) {x : Int32} (hx : x = nI j) (hj : j < 4) (hdg : decode cc pc = .ok (.aaload, 1))
    (kk : W p l e R s m args below meth c H locs cells slots Q (F0 m (pc + 1) ls (.ref (b + xo 8 j) :: rest))) : W p l e R s m args below meth c H locs cells slots Q (F0 m pc ls (.int x :: .ref (b + xo 7 0) :: rest)) := by
  subst hx
  refine e_aald hexec hb hK hH (xo_ok (show 0 < xn 7 by decide)).2.2 2 (Ex_at cs b σ (show 0 < xn 7 by decide)) rfl (vp_in_nI hj (by omega)) hdg ?_
  rw [nI_clamp (show j < 2 ^ 31 by omega)]
  exact kk
/-- members[j] of a row -/
theorem x_memb (hexec : p.tables.exec = Jvm.exec) (hb : c.code = cc) (hK : va_K D vwCl (tyx cs) s) (hH : He D b 43 (Ex cs b σ) H) (i : Nat) (hi : i < 2) (j : Nat) {x : Int32} (hx : x = nI j) (hj : j < 8) (hdg : decode cc pc = .ok (.aaload, 1))
    (kk : W p l e R s m args below meth c H locs cells slots Q (F0 m (pc + 1) ls (va_rf ((gR σ 10 i j).map (fun p => b + xo 5 p)) :: rest))) : W p l e R s m args below meth c H locs cells slots Q (F0 m pc ls (.int x :: .ref (b + xo 10 i) :: rest)) := by
  subst hx
  refine e_aald hexec hb hK hH (xo_ok (show i < xn 10 from hi)).2.2 1 (Ex_at cs b σ (show i < xn 10 from hi)) rfl (vp_in_nI hj (by omega)) hdg ?_
  rw [nI_clamp (show j < 2 ^ 31 by omega)]
  exact kk
theorem x_membS (hexec : p.tables.exec = Jvm.exec) (hb : c.code = cc) (hK : va_K D vwCl (tyx cs) s) (hH : He D b 43 (Ex cs b σ) H) (hS0 : va_S (fun q => b ≤ q) H0 H locs) (i : Nat) (hi : i < 2) (j : Nat) {x : Int32} (hx : x = nI j) (hj : j < 8) (q : Option Nat) (hq : ∀ p, q = some p → p < 8) {v : Value} (hv : va_rf (q.map (fun p => b + xo 5 p)) = v) (hdg : decode cc pc = .ok (.aastore, 1))
    (kk : ∀ (H1 : Heap) (locs1 : List Loc), He D b 43 (Ex cs b (sR σ 10 i j q)) H1 → va_S (fun q => b ≤ q) H0 H1 locs1 → W p l e R s m args below meth c H1 locs1 cells slots Q (F0 m (pc + 1) ls rest)) : W p l e R s m args below meth c H locs cells slots Q (F0 m pc ls (v :: .int x :: .ref (b + xo 10 i) :: rest)) := by
  subst hx
  subst hv
  have hi' : i < xn 10 := hi
  have hfin : ∀ (q : Option Nat), xeF cs b (gI (sR σ 10 i j q) 10 i) (gR (sR σ 10 i j q) 10 i) 10 i = .inl (cs 1, 8, .inr (.inr (.inr (.inr (va_up (fun k => (gR σ 10 i k).map (fun p => b + xo 5 p)) (nI j).toNatClampNeg (q.map (fun p => b + xo 5 p))))))) := by
    intro q
    rw [gR_sR_f, nI_clamp (show j < 2 ^ 31 by omega)]
    show (Sum.inl (cs 1, 8, .inr (.inr (.inr (.inr (fun k => (va_up (gR σ 10 i) j q k).map (fun p => b + xo 5 p)))))) : va_E) = _
    congr 7
    funext k
    by_cases hk : k = j
    · subst hk; simp [va_up]
    · simp [va_up, hk]
  cases q with
  | none =>
    refine e_aastN hexec hb hK hH hS0 (xo_ok hi').2.2 1 (Ex_at cs b σ hi') rfl (vp_in_nI hj (by omega)) hdg (fun H1 locs1 hH1 hS1 => kk H1 locs1 (Ex_put hi' sR_off (hfin none) hH1) hS1)
  | some p =>
    have hp : p < xn 5 := hq p rfl
    exact e_aast hexec hb hK hH hS0 (r := (RX2, TX2, 10)) (xo_ok hi').2.2 1 (Ex_at cs b σ hi') rfl (xo_ok hp).2.2 (Ex_at cs b σ hp) rfl (vp_in_nI hj (by omega)) hdg (fun H1 locs1 hH1 hS1 => kk H1 locs1 (Ex_put hi' sR_off (hfin (some p)) hH1) hS1)
end MT
