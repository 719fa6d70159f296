/-! CONTRACTS. A method's start is a world, its end a world and an answer. -/
def Pe (D : va_G) (tys : List (ClassId × FieldType)) (b n : Nat) (E : Nat → va_E) (av : List Value) : Array Value → State → Prop := va_Pc av (fun U => He D b n E U.heap ∧ va_K D vwCl tys U)
def Be (D : va_G) (tys : List (ClassId × FieldType)) (b n : Nat) (E : Nat → va_E) (t : State) : Prop := He D b n E t.heap ∧ va_K D vwCl tys t
def Qi (D : va_G) (tys : List (ClassId × FieldType)) (b n : Nat) (E : Nat → va_E) (r : Int32) : Array Value → State → Outcome → State → Prop := va_Qi (fun x (_ : Unit) => x = r) (fun _ t => Be D tys b n E t) (fun q => b ≤ q)
def Ql (D : va_G) (tys : List (ClassId × FieldType)) (b n : Nat) (E : Nat → va_E) (r : Int64) : Array Value → State → Outcome → State → Prop := va_Ql (fun x (_ : Unit) => x = r) (fun _ t => Be D tys b n E t) (fun q => b ≤ q)
def Qv (D : va_G) (tys : List (ClassId × FieldType)) (b n : Nat) (E : Nat → va_E) : Array Value → State → Outcome → State → Prop := va_Qv (fun (_ : Unit) => True) (fun _ t => Be D tys b n E t) (fun q => b ≤ q)
def Qq (D : va_G) (tys : List (ClassId × FieldType)) (b n : Nat) (E : Nat → va_E) (r : Option Nat) : Array Value → State → Outcome → State → Prop := va_Qq (fun x (_ : Unit) => x = r) (fun _ t => Be D tys b n E t) (fun q => b ≤ q)
theorem Pe_blind {D : va_G} {tys : List (ClassId × FieldType)} {b n : Nat} {E : Nat → va_E} {av : List Value} : FrameBlind (Pe D tys b n E av) := fun a U g mk h => by
  obtain ⟨q0, qP, qK⟩ := h
  exact ⟨q0, qP, va_K.moved (u := U) (U := U.calling g mk a) (Vm.Alike.refl U.vm) qK⟩
theorem e_met {l : Launch} {D : va_G} {tys : List (ClassId × FieldType)} {b n : Nat} {E : Nat → va_E} {y : MethodName} {cc : ByteArray} {maxL : Nat} {ret : Option FieldType} {ws ws' : List Cond} {rm : Room} {av : List Value} {Qc : Array Value → State → Outcome → State → Prop} {mc ms : Nat} {free : Addr → Prop} (hy : plainName y.cls = true) (hw : ws = Cond.code y cc maxL ret :: ws') (hav : (lg_sl av).length ≤ maxL)
    (body : ∀ (p : Program) (e : Env) (s : State) (m : MethodId) (below : List Frame) (meth : Method) (c : Code) (ls : Array Slot), p.tables.exec = Jvm.exec → c.code = cc → meth.sig.returnType = ret → c.maxLocals = maxL → (∀ w ∈ ws, w.before av.toArray s = true) → s.vm.findClass y.cls = some m.cls → meth.locks = false → meth.name = y.name → He D b n E s.heap → va_K D vwCl tys s → lv_has ls maxL (lv_args 0 av) → va_S (fun q => b ≤ q) s.heap s.heap [] →
      W p l e rm s m av.toArray below meth c s.heap [] 0 0 (MQ below Qc av.toArray s mc ms free) (F0 m 0 ls [])) : Met l y ws rm (Pe D tys b n E av) Qc mc ms free := by
  refine Met.ofW (cc := cc) (maxL := maxL) (ret := ret) hy hw ?_
  intro p e s m args below meth c s₁ B hml hv
  obtain ⟨rfl, hH, hK⟩ := hv
  have hl := lv_entry av (n := maxL) hav
  rw [lg_entry_eq]
  exact body p e s m below meth c _ B.exec B.bytes B.returns hml (atoms_spec B.pre) (findClass_of_methodNamed B.named) B.notSynchronized (name_of_methodNamed B.named B.method).1 hH hK hl va_S.rf
section MB
variable {p : Program} {l : Launch} {e : Env} {R : Room} {s : State} {m : MethodId} {args : Array Value} {below : List Frame} {meth : Method} {c : Code} {H : Heap} {locs : List Loc} {cells slots : Nat} {Q : State → Prop}
variable {cc : ByteArray} {pc : Nat} {ls : Array Slot} {rest st0 : List Value} {D : va_G} {tys : List (ClassId × FieldType)} {H0 : Heap} {b n n' : Nat} {E E' E1 : Nat → va_E}
variable {y : MethodName} {bytes : ByteArray} {maxL nL mc ms nA index : Nat} {ret : Option FieldType} {ws : List Cond} {rm : Room} {Qc : Array Value → State → Outcome → State → Prop} {free : Addr → Prop} {Ts : List Cond} {own C : String} {As : List Value} {a : Array Value}
theorem e_runV (S : CallFix p m c cc nL s args Ts own) {j : Nat} (hM : Met l y ws rm (Pe D tys b n E (.ref (b + j) :: As)) Qc mc ms free) (cw : CallW R s args own C index y bytes maxL ret ws rm mc ms nA) (hK : va_K D vwCl tys s) (hH : He D b n E H) (hj : j < n) {ci : Nat} {fs : List Value} {q : vw_C} (he : E j = .inr (ci, fs)) (hc : vwCl[ci]? = some q) (hC : q.1 = C) (hn : As.length = nA) (hsize : ls.size = nL) (hst : st0 = As.reverse ++ .ref (b + j) :: rest) (hW : (rest.map fun v => v.category).sum ≤ 8) (hdg : decode cc pc = .ok (.invokevirtual index, 3)) (hf : cells + mc ≤ R.cells ∧ slots + ms ≤ R.slots) :
    va_Run p l e R s m args below meth c H locs cells slots mc ms (F0 m pc ls st0) rest (Qc (Value.ref (b + j) :: As).toArray) free := by
  subst hC
  exact va_runV (C := q.1) S hM cw ⟨Pe_blind, va_recv hK (hH.P hj he) (ci := ci) (q0 := 0) hc rfl, fun U hU hW => ⟨rfl, by rw [hU]; exact hH, va_K.moved hW.alike hK⟩⟩ rfl hn hsize hst (lv_room hW) hdg hf
theorem e_runS (S : CallFix p m c cc nL s args Ts own) (hM : Met l y ws rm (Pe D tys b n E As) Qc mc ms free) (cw : CallB R s args own index y bytes maxL ret ws rm mc ms nA ∧ (Cond.static y).before args s = true) (hK : va_K D vwCl tys s) (hH : He D b n E H) (hn : As.length = nA) (hsize : ls.size = nL) (hst : st0 = As.reverse ++ rest) (hW : (rest.map fun v => v.category).sum ≤ 8) (hdg : decode cc pc = .ok (.invokestatic index, 3)) (hf : cells + mc ≤ R.cells ∧ slots + ms ≤ R.slots) :
    va_Run p l e R s m args below meth c H locs cells slots mc ms (F0 m pc ls st0) rest (Qc As.toArray) free :=
  va_runS S hM cw ⟨Pe_blind, fun U hU hW => ⟨rfl, by rw [hU]; exact hH, va_K.moved hW.alike hK⟩⟩ rfl hn hsize hst (lv_room hW) hdg hf
theorem e_runI (S : CallFix p m c cc nL s args Ts own) {j : Nat} (hM : Met l y ws rm (Pe D tys b n E (.ref (b + j) :: As)) Qc mc ms free) (cw : CallB R s args own index y bytes maxL none ws rm mc ms nA ∧ y.name = "<init>" ∧ (Cond.instanceMethod y).before args s = true) (hK : va_K D vwCl tys s) (hH : He D b n E H) (hn : As.length = nA) (hsize : ls.size = nL) (hst : st0 = As.reverse ++ .ref (b + j) :: rest) (hW : (rest.map fun v => v.category).sum ≤ 8) (hdg : decode cc pc = .ok (.invokespecial index, 3)) (hf : cells + mc ≤ R.cells ∧ slots + ms ≤ R.slots) :
    va_Run p l e R s m args below meth c H locs cells slots mc ms (F0 m pc ls st0) rest (Qc (Value.ref (b + j) :: As).toArray) free :=
  va_runI S hM cw ⟨Pe_blind, fun U hU hW => ⟨rfl, by rw [hU]; exact hH, va_K.moved hW.alike hK⟩⟩ rfl hn hsize hst (lv_room hW) hdg hf
theorem e_ci {r : Int32} (hr : va_Run p l e R s m args below meth c H locs cells slots mc ms (F0 m pc ls st0) rest (Qi D tys b n' E' r a) (fun q => b ≤ q)) (hS : va_S (fun q => b ≤ q) H0 H locs)
    (kk : ∀ (H1 : Heap) (locs1 : List Loc), He D b n' E' H1 → va_S (fun q => b ≤ q) H0 H1 locs1 → W p l e R s m args below meth c H1 locs1 (cells + mc) (slots + ms) Q (F0 m (pc + 3) ls (.int r :: rest))) : W p l e R s m args below meth c H locs cells slots Q (F0 m pc ls st0) :=
  va_calli hr hS (fun _ _ h => h) (fun _ h => h) (fun r' u t H1 locs1 ht hvm hw hB hz hk hS1 => by
    have hw : r' = r := hw
    subst hw
    have hB : Be D tys b n' E' t := hB
    exact kk H1 locs1 (ht ▸ hB.1) hS1)
theorem e_cl {r : Int64} (hr : va_Run p l e R s m args below meth c H locs cells slots mc ms (F0 m pc ls st0) rest (Ql D tys b n' E' r a) (fun q => b ≤ q)) (hS : va_S (fun q => b ≤ q) H0 H locs)
    (kk : ∀ (H1 : Heap) (locs1 : List Loc), He D b n' E' H1 → va_S (fun q => b ≤ q) H0 H1 locs1 → W p l e R s m args below meth c H1 locs1 (cells + mc) (slots + ms) Q (F0 m (pc + 3) ls (.long r :: rest))) : W p l e R s m args below meth c H locs cells slots Q (F0 m pc ls st0) :=
  va_calll hr hS (fun _ _ h => h) (fun _ h => h) (fun r' u t H1 locs1 ht hvm hw hB hz hk hS1 => by
    have hw : r' = r := hw
    subst hw
    have hB : Be D tys b n' E' t := hB
    exact kk H1 locs1 (ht ▸ hB.1) hS1)
theorem e_cq {r : Option Nat} (hr : va_Run p l e R s m args below meth c H locs cells slots mc ms (F0 m pc ls st0) rest (Qq D tys b n' E' r a) (fun q => b ≤ q)) (hS : va_S (fun q => b ≤ q) H0 H locs)
    (kk : ∀ (H1 : Heap) (locs1 : List Loc), He D b n' E' H1 → va_S (fun q => b ≤ q) H0 H1 locs1 → W p l e R s m args below meth c H1 locs1 (cells + mc) (slots + ms) Q (F0 m (pc + 3) ls (va_rf r :: rest))) : W p l e R s m args below meth c H locs cells slots Q (F0 m pc ls st0) :=
  va_callq hr hS (fun _ _ h => h) (fun _ h => h) (fun r' u t H1 locs1 ht hvm hw hB hz hk hS1 => by
    have hw : r' = r := hw
    subst hw
    have hB : Be D tys b n' E' t := hB
    exact kk H1 locs1 (ht ▸ hB.1) hS1)
theorem e_cv (hr : va_Run p l e R s m args below meth c H locs cells slots mc ms (F0 m pc ls st0) rest (Qv D tys b n' E' a) (fun q => b ≤ q)) (hS : va_S (fun q => b ≤ q) H0 H locs)
    (kk : ∀ (H1 : Heap) (locs1 : List Loc), He D b n' E' H1 → va_S (fun q => b ≤ q) H0 H1 locs1 → W p l e R s m args below meth c H1 locs1 (cells + mc) (slots + ms) Q (F0 m (pc + 3) ls rest)) : W p l e R s m args below meth c H locs cells slots Q (F0 m pc ls st0) :=
  va_callv hr hS (fun _ _ h => h) (fun _ h => h) (fun u t H1 locs1 ht hvm hw hB hz hk hS1 => by
    have hB : Be D tys b n' E' t := hB
    exact kk H1 locs1 (ht ▸ hB.1) hS1)
/-- the ends -/
theorem e_iret {v r : Int32} (hexec : p.tables.exec = Jvm.exec) (hb : c.code = cc) (hr : meth.sig.returnType = some .int) (hlocks : meth.locks = false) (hK : va_K D vwCl tys s) (hH : He D b n E H) (hS : va_S (fun q => b ≤ q) s.heap H locs) (hdg : decode cc pc = .ok (.ireturn, 1)) (hv : v = r) (hE : E = E') :
    W p l e R s m args below meth c H locs cells slots (MQ below (Qi D tys b n E' r) args s cells slots (fun q => b ≤ q)) (F0 m pc ls [.int v]) := by
  subst hv; subst hE
  exact W.iret hexec hb hr (fun t ht hW => ⟨⟨v, (), rfl, rfl, by rw [ht]; exact hH, va_K.moved hW.alike hK⟩, hS.F ht⟩) hS.2.2 hdg hlocks
theorem e_zret {v r : Int32} {ty : FieldType} (hexec : p.tables.exec = Jvm.exec) (hb : c.code = cc) (hr : meth.sig.returnType = some ty) (hlocks : meth.locks = false) (hK : va_K D vwCl tys s) (hH : He D b n E H) (hS : va_S (fun q => b ≤ q) s.heap H locs) (hdg : decode cc pc = .ok (.ireturn, 1)) (hn : narrow ty (.int v) = .int v) (hv : v = r) (hE : E = E') :
    W p l e R s m args below meth c H locs cells slots (MQ below (Qi D tys b n E' r) args s cells slots (fun q => b ≤ q)) (F0 m pc ls [.int v]) := by
  subst hv; subst hE
  exact W.zret hexec hb hr hn (fun t ht hW => ⟨⟨v, (), rfl, rfl, by rw [ht]; exact hH, va_K.moved hW.alike hK⟩, hS.F ht⟩) hS.2.2 hdg hlocks
theorem e_lret {v r : Int64} (hexec : p.tables.exec = Jvm.exec) (hb : c.code = cc) (hr : meth.sig.returnType = some .long) (hlocks : meth.locks = false) (hK : va_K D vwCl tys s) (hH : He D b n E H) (hS : va_S (fun q => b ≤ q) s.heap H locs) (hdg : decode cc pc = .ok (.lreturn, 1)) (hv : v = r) (hE : E = E') :
    W p l e R s m args below meth c H locs cells slots (MQ below (Ql D tys b n E' r) args s cells slots (fun q => b ≤ q)) (F0 m pc ls [.long v]) := by
  subst hv; subst hE
  exact W.lret hexec hb hr (fun t ht hW => ⟨⟨v, (), rfl, rfl, by rw [ht]; exact hH, va_K.moved hW.alike hK⟩, hS.F ht⟩) hS.2.2 hdg hlocks
theorem e_vret (hexec : p.tables.exec = Jvm.exec) (hb : c.code = cc) (hr : meth.sig.returnType = none) (hlocks : meth.locks = false) (hK : va_K D vwCl tys s) (hH : He D b n E H) (hS : va_S (fun q => b ≤ q) s.heap H locs) (hdg : decode cc pc = .ok (.return_, 1)) (hE : E = E') :
    W p l e R s m args below meth c H locs cells slots (MQ below (Qv D tys b n E') args s cells slots (fun q => b ≤ q)) (F0 m pc ls []) := by
  subst hE
  exact W.vret hexec hb hr (fun t ht hW => ⟨⟨(), rfl, trivial, by rw [ht]; exact hH, va_K.moved hW.alike hK⟩, hS.F ht⟩) hS.2.2 hdg hlocks
theorem e_qret {v : Value} {r : Option Nat} {C' : String} (hexec : p.tables.exec = Jvm.exec) (hb : c.code = cc) (hr : meth.sig.returnType = some (.object C')) (hlocks : meth.locks = false) (hK : va_K D vwCl tys s) (hH : He D b n E H) (hS : va_S (fun q => b ≤ q) s.heap H locs) (hdg : decode cc pc = .ok (.areturn, 1)) (hv : v = va_rf r) (hE : E = E') :
    W p l e R s m args below meth c H locs cells slots (MQ below (Qq D tys b n E' r) args s cells slots (fun q => b ≤ q)) (F0 m pc ls [v]) := by
  subst hv; subst hE
  exact W.aret hexec hb hr (Or.inl ⟨_, rfl⟩) (va_rf_or r) (fun t ht hW => ⟨⟨r, (), rfl, rfl, by rw [ht]; exact hH, va_K.moved hW.alike hK⟩, hS.F ht⟩) hS.2.2 hdg hlocks
end MB
