/-! BASE: options, contexts, ends of methods, calls inside one world -/
theorem og_n {α : Type} {c : Prop} [Decidable c] {x : Option α} {r : α} (h : (if c then none else x) = some r) : ¬ c ∧ x = some r := by
  by_cases hc : c
  · rw [if_pos hc] at h; cases h
  · rw [if_neg hc] at h; exact ⟨hc, h⟩
theorem og_p {α : Type} {c : Prop} [Decidable c] {x : Option α} {r : α} (h : (if c then x else none) = some r) : c ∧ x = some r := by
  by_cases hc : c
  · rw [if_pos hc] at h; exact ⟨hc, h⟩
  · rw [if_neg hc] at h; cases h
theorem og_b {α β : Type} {o : Option α} {f : α → Option β} {r : β} (h : o.bind f = some r) : ∃ v, o = some v ∧ f v = some r := by
  cases o with
  | none => cases h
  | some v => exact ⟨v, rfl, h⟩
theorem og_t {α : Type} {c : Prop} [Decidable c] {x y : Option α} {r : α} (hc : c) (h : (if c then x else y) = some r) : x = some r := by
  rw [if_pos hc] at h; exact h
theorem og_f {α : Type} {c : Prop} [Decidable c] {x y : Option α} {r : α} (hc : ¬ c) (h : (if c then x else y) = some r) : y = some r := by
  rw [if_neg hc] at h; exact h
theorem og_s {α : Type} {x y : α} (h : some x = some y) : x = y := Option.some.inj h
theorem nz_z {v : Int32} (h : v = 0 ∨ v = 1) : narrow .boolean (.int v) = .int v := by
  rcases h with rfl | rfl <;> rfl
theorem nz_f {v : Int32} (h : v = 0 ∨ v = 1) : fits .boolean (.int v) = true := by
  rcases h with rfl | rfl <;> rfl
/-- a loop's fuel -/
def FU : Nat := 1000000
/-- what a body knows of its own method -/
def Cx (p : Program) (s : State) (m : MethodId) (args : Array Value) (meth : Method) (c : Code) (cc : ByteArray) (nL : Nat) (Ts : List Cond) (own : String) (ret : Option FieldType) : Prop :=
  CallFix p m c cc nL s args Ts own ∧ meth.sig.returnType = ret ∧ meth.locks = false
/-- a start: the world w, the arguments av -/
def pW (D : va_G) (tys : List (ClassId × FieldType)) (w : va_W) (sz : Nat) (av : List Value) : Array Value → State → Prop :=
  va_Pc av (fun U => U.heap.size = sz ∧ va_P D vwCl w U.heap ∧ va_K D vwCl tys U ∧ va_D (fun _ => True) w)
/-- an end: the answer v, the world w1 -/
def qW (v : Option Value) (w1 : va_W) (D : va_G) (tys : List (ClassId × FieldType)) (A : Nat → Prop) : Array Value → State → Outcome → State → Prop := fun _ st oc t =>
  oc = .returned v ∧ (va_P D vwCl w1 t.heap ∧ va_K D vwCl tys t ∧ va_D A w1) ∧ va_F A st t
theorem pW_blind {D : va_G} {tys : List (ClassId × FieldType)} {w : va_W} {sz : Nat} {av : List Value} : FrameBlind (pW D tys w sz av) := by
  intro a U g mk q
  obtain ⟨q0, q1, qP, qK, qD⟩ := q
  exact ⟨q0, q1, qP, va_K.moved (u := U) (U := U.calling g mk a) (Vm.Alike.refl U.vm) qK, qD⟩
section BASE
variable {p : Program} {l : Launch} {e : Env} {R : Room} {s : State} {m : MethodId} {args : Array Value} {below : List Frame} {meth : Method} {c : Code} {H : Heap} {locs : List Loc} {cells slots : Nat} {Q : State → Prop}
variable {cc : ByteArray} {nL : Nat} {Ts : List Cond} {own : String} {pc : Nat} {ls : Array Slot} {rest st0 st1 : List Value} {D : va_G} {tys : List (ClassId × FieldType)} {A : Nat → Prop} {w0 w1 w : va_W}
-- ends of readers
theorem rt_i (C : Cx p s m args meth c cc nL Ts own (some .int)) {v : Int32} (hdg : decode cc pc = .ok (.ireturn, 1)) : W p l e R s m args below meth c s.heap [] 0 0 (MQ below (k2_QcV (.int v)) args s 0 0 (fun _ => False)) (F0 m pc ls [.int v]) :=
  W.iret C.1.1 C.1.2.1 C.2.1 (fun t ht _ => ⟨rfl, ht⟩) (fun q h => nomatch h) hdg C.2.2
theorem rt_z {ty : FieldType} (C : Cx p s m args meth c cc nL Ts own (some ty)) {v : Int32} (hz : narrow ty (.int v) = .int v) (hdg : decode cc pc = .ok (.ireturn, 1)) : W p l e R s m args below meth c s.heap [] 0 0 (MQ below (k2_QcV (.int v)) args s 0 0 (fun _ => False)) (F0 m pc ls [.int v]) :=
  W.zret C.1.1 C.1.2.1 C.2.1 hz (fun t ht _ => ⟨rfl, ht⟩) (fun q h => nomatch h) hdg C.2.2
theorem rt_l (C : Cx p s m args meth c cc nL Ts own (some .long)) {v : Int64} (hdg : decode cc pc = .ok (.lreturn, 1)) : W p l e R s m args below meth c s.heap [] 0 0 (MQ below (k2_QcV (.long v)) args s 0 0 (fun _ => False)) (F0 m pc ls [.long v]) :=
  W.lret C.1.1 C.1.2.1 C.2.1 (fun t ht _ => ⟨rfl, ht⟩) (fun q h => nomatch h) hdg C.2.2
-- ends of writers
theorem rw_i (C : Cx p s m args meth c cc nL Ts own (some .int)) (hK : va_K D vwCl tys s) (hP : va_P D vwCl w1 H) (hD : va_D A w1) (hS : va_S A s.heap H locs) {v : Int32} (hdg : decode cc pc = .ok (.ireturn, 1)) : W p l e R s m args below meth c H locs 0 0 (MQ below (qW (some (.int v)) w1 D tys A) args s 0 0 A) (F0 m pc ls [.int v]) :=
  W.iret C.1.1 C.1.2.1 C.2.1 (fun t ht hW => ⟨rfl, ⟨by rw [ht]; exact hP, va_K.moved hW.alike hK, hD⟩, hS.F ht⟩) hS.2.2 hdg C.2.2
theorem rw_z {ty : FieldType} (C : Cx p s m args meth c cc nL Ts own (some ty)) (hK : va_K D vwCl tys s) (hP : va_P D vwCl w1 H) (hD : va_D A w1) (hS : va_S A s.heap H locs) {v : Int32} (hz : narrow ty (.int v) = .int v) (hdg : decode cc pc = .ok (.ireturn, 1)) : W p l e R s m args below meth c H locs 0 0 (MQ below (qW (some (.int v)) w1 D tys A) args s 0 0 A) (F0 m pc ls [.int v]) :=
  W.zret C.1.1 C.1.2.1 C.2.1 hz (fun t ht hW => ⟨rfl, ⟨by rw [ht]; exact hP, va_K.moved hW.alike hK, hD⟩, hS.F ht⟩) hS.2.2 hdg C.2.2
theorem rw_l (C : Cx p s m args meth c cc nL Ts own (some .long)) (hK : va_K D vwCl tys s) (hP : va_P D vwCl w1 H) (hD : va_D A w1) (hS : va_S A s.heap H locs) {v : Int64} (hdg : decode cc pc = .ok (.lreturn, 1)) : W p l e R s m args below meth c H locs 0 0 (MQ below (qW (some (.long v)) w1 D tys A) args s 0 0 A) (F0 m pc ls [.long v]) :=
  W.lret C.1.1 C.1.2.1 C.2.1 (fun t ht hW => ⟨rfl, ⟨by rw [ht]; exact hP, va_K.moved hW.alike hK, hD⟩, hS.F ht⟩) hS.2.2 hdg C.2.2
theorem rw_v (C : Cx p s m args meth c cc nL Ts own none) (hK : va_K D vwCl tys s) (hP : va_P D vwCl w1 H) (hD : va_D A w1) (hS : va_S A s.heap H locs) (hdg : decode cc pc = .ok (.return_, 1)) : W p l e R s m args below meth c H locs 0 0 (MQ below (qW none w1 D tys A) args s 0 0 A) (F0 m pc ls []) :=
  W.vret C.1.1 C.1.2.1 C.2.1 (fun t ht hW => ⟨rfl, ⟨by rw [ht]; exact hP, va_K.moved hW.alike hK, hD⟩, hS.F ht⟩) hS.2.2 hdg C.2.2
-- a method's start
theorem mt_s {y : MethodName} {ws ws' : List Cond} {rm : Room} {maxL : Nat} {ret : Option FieldType} {av : List Value} {v : Value} (hy : plainName y.cls = true) (hw : ws = Cond.code y cc maxL ret :: ws') (hn : (lg_sl av).length ≤ maxL)
    (body : ∀ (p : Program) (e : Env) (s : State) (m : MethodId) (below : List Frame) (meth : Method) (c : Code) (ls : Array Slot), Cx p s m av.toArray meth c cc maxL ws y.cls ret → lv_has ls maxL (lv_args 0 av) →
      W p l e rm s m av.toArray below meth c s.heap [] 0 0 (MQ below (k2_QcV v) av.toArray s 0 0 (fun _ => False)) (F0 m 0 ls [])) : Met l y ws rm (va_Pc av (fun _ => True)) (k2_QcV v) 0 0 (fun _ => False) := by
  refine Met.ofW (cc := cc) (maxL := maxL) (ret := ret) hy hw ?_
  intro p e s m args below meth c s₁ B hml hv
  obtain ⟨rfl, -⟩ := hv
  rw [lg_entry_eq]
  exact body p e s m below meth c _ ⟨⟨B.exec, B.bytes, hml, findClass_of_methodNamed B.named, atoms_spec (ws := ws) B.pre⟩, B.returns, B.notSynchronized⟩ (lv_entry av hn)
theorem mt_r {y : MethodName} {ws ws' : List Cond} {rm : Room} {maxL sz : Nat} {ret : Option FieldType} {av : List Value} {v : Value} (hy : plainName y.cls = true) (hw : ws = Cond.code y cc maxL ret :: ws') (hn : (lg_sl av).length ≤ maxL)
    (body : ∀ (p : Program) (e : Env) (s : State) (m : MethodId) (below : List Frame) (meth : Method) (c : Code) (ls : Array Slot), Cx p s m av.toArray meth c cc maxL ws y.cls ret → lv_has ls maxL (lv_args 0 av) → va_K D vwCl tys s → va_P D vwCl w s.heap → va_D (fun _ => True) w →
      W p l e rm s m av.toArray below meth c s.heap [] 0 0 (MQ below (k2_QcV v) av.toArray s 0 0 (fun _ => False)) (F0 m 0 ls [])) : Met l y ws rm (pW D tys w sz av) (k2_QcV v) 0 0 (fun _ => False) := by
  refine Met.ofW (cc := cc) (maxL := maxL) (ret := ret) hy hw ?_
  intro p e s m args below meth c s₁ B hml hv
  obtain ⟨rfl, -, hP, hK, hD⟩ := hv
  rw [lg_entry_eq]
  exact body p e s m below meth c _ ⟨⟨B.exec, B.bytes, hml, findClass_of_methodNamed B.named, atoms_spec (ws := ws) B.pre⟩, B.returns, B.notSynchronized⟩ (lv_entry av hn) hK hP hD
theorem mt_w {y : MethodName} {ws ws' : List Cond} {rm : Room} {maxL sz : Nat} {ret : Option FieldType} {av : List Value} {v : Option Value} (hy : plainName y.cls = true) (hw : ws = Cond.code y cc maxL ret :: ws') (hn : (lg_sl av).length ≤ maxL)
    (body : ∀ (p : Program) (e : Env) (s : State) (m : MethodId) (below : List Frame) (meth : Method) (c : Code) (ls : Array Slot) (A : Nat → Prop), Cx p s m av.toArray meth c cc maxL ws y.cls ret → lv_has ls maxL (lv_args 0 av) → va_K D vwCl tys s → (∀ q : Nat, s.heap.size ≤ q → A q) → va_P D vwCl w s.heap → va_D A w → va_S A s.heap s.heap [] →
      W p l e rm s m av.toArray below meth c s.heap [] 0 0 (MQ below (qW v w1 D tys A) av.toArray s 0 0 A) (F0 m 0 ls [])) : Met l y ws rm (pW D tys w sz av) (qW v w1 D tys (va_A w sz)) 0 0 (va_A w sz) := by
  refine Met.ofW (cc := cc) (maxL := maxL) (ret := ret) hy hw ?_
  intro p e s m args below meth c s₁ B hml hv
  obtain ⟨rfl, hsz, hP, hK, hD⟩ := hv
  subst hsz
  rw [lg_entry_eq]
  exact body p e s m below meth c _ _ ⟨⟨B.exec, B.bytes, hml, findClass_of_methodNamed B.named, atoms_spec (ws := ws) B.pre⟩, B.returns, B.notSynchronized⟩ (lv_entry av hn) hK (fun q h => Or.inr h) hP hD.self va_S.rf
-- calls
section CALLS
variable {y : MethodName} {bytes : ByteArray} {maxL n index : Nat} {ret : Option FieldType} {ws : List Cond} {rm : Room} {C0 : String} {b : Addr} {As : List Value} {v : Value} {ov : Option Value} {sz : Nat}
/-- a static method that touches nothing -/
theorem ck_s (S : CallFix p m c cc nL s args Ts own) (hM : Met l y ws rm (va_Pc As (fun _ => True)) (k2_QcV v) 0 0 (fun _ => False)) (cw : CallB R s args own index y bytes maxL ret ws rm 0 0 n ∧ (Cond.static y).before args s = true)
    (hn : As.length = n) (hsize : ls.size = nL) (hstack : st0 = As.reverse ++ rest) (hW : (rest.map fun v => v.category).sum ≤ 8) (hf : cells ≤ R.cells ∧ slots ≤ R.slots) (hdg : decode cc pc = .ok (.invokestatic index, 3))
    (kk : W p l e R s m args below meth c H locs cells slots Q (F0 m (pc + 3) ls (v :: rest))) : W p l e R s m args below meth c H locs cells slots Q (F0 m pc ls st0) :=
  W.callV (W.runS (g := F0 m pc ls st0) S hM cw ⟨fun a U g mk q => q, fun U _ _ => ⟨rfl, trivial⟩⟩ rfl hn hsize hstack (lv_room hW) hdg hf) kk
/-- a reader of the world w -/
theorem ck_r (S : CallFix p m c cc nL s args Ts own) (hM : Met l y ws rm (pW D tys w H.size (.ref b :: As)) (k2_QcV v) 0 0 (fun _ => False)) (cw : CallW R s args own C0 index y bytes maxL ret ws rm 0 0 n) (hK : va_K D vwCl tys s) (hP : va_P D vwCl w H) (hD : va_D A w)
    {q0 ci : Nat} {fs : List Value} {q : vw_C} (he : w[q0]? = some (b, .inr (ci, fs))) (hc : vwCl[ci]? = some q) (hq : q.1 = C0) (hn : As.length = n) (hsize : ls.size = nL) (hstack : st0 = As.reverse ++ .ref b :: rest) (hW : (rest.map fun v => v.category).sum ≤ 8) (hf : cells ≤ R.cells ∧ slots ≤ R.slots) (hdg : decode cc pc = .ok (.invokevirtual index, 3))
    (kk : W p l e R s m args below meth c H locs cells slots Q (F0 m (pc + 3) ls (v :: rest))) : W p l e R s m args below meth c H locs cells slots Q (F0 m pc ls st0) := by
  subst hq
  exact W.callV (W.runV (g := F0 m pc ls st0) S hM cw ⟨pW_blind, va_recv hK hP hc he, fun U hU hW => ⟨rfl, by rw [hU], by rw [hU]; exact hP, va_K.moved hW.alike hK, hD.weaken (fun _ _ _ _ => trivial)⟩⟩ rfl hn hsize hstack (lv_room hW) hdg hf) kk
/-- a writer of the world w0, which is the caller's own -/
theorem ck_w (S : CallFix p m c cc nL s args Ts own) (hM : Met l y ws rm (pW D tys w0 H.size (.ref b :: As)) (qW ov w1 D tys (va_A w0 H.size)) 0 0 (va_A w0 H.size)) (cw : CallW R s args own C0 index y bytes maxL ret ws rm 0 0 n) (hK : va_K D vwCl tys s) (hA : ∀ q : Nat, s.heap.size ≤ q → A q) (hP : va_P D vwCl w0 H) (hD : va_D A w0) (hS : va_S A s.heap H locs)
    {q0 ci : Nat} {fs : List Value} {q : vw_C} (he : w0[q0]? = some (b, .inr (ci, fs))) (hc : vwCl[ci]? = some q) (hq : q.1 = C0) (hn : As.length = n) (hsize : ls.size = nL) (hstack : st0 = As.reverse ++ .ref b :: rest) (hst1 : ov.toList ++ rest = st1) (hW : (rest.map fun v => v.category).sum ≤ 8) (hf : cells ≤ R.cells ∧ slots ≤ R.slots) (hdg : decode cc pc = .ok (.invokevirtual index, 3))
    (kk : ∀ (H1 : Heap) (locs1 : List Loc), va_P D vwCl w1 H1 → va_D A w1 → va_S A s.heap H1 locs1 → W p l e R s m args below meth c H1 locs1 cells slots Q (F0 m (pc + 3) ls st1)) : W p l e R s m args below meth c H locs cells slots Q (F0 m pc ls st0) := by
  subst hq
  subst hst1
  have hr := va_runV (g := F0 m pc ls st0) (l := l) (e := e) (R := R) (below := below) (meth := meth) (locs := locs) (cells := cells) (slots := slots) S hM cw ⟨pW_blind, va_recv hK hP hc he, fun U hU hW => ⟨rfl, by rw [hU], by rw [hU]; exact hP, va_K.moved hW.alike hK, hD.weaken (fun _ _ _ _ => trivial)⟩⟩ rfl hn hsize hstack (lv_room hW) hdg hf
  have hF : ∀ q : Nat, va_A w0 H.size q → A q := by
    intro q h
    rcases h with ⟨k, e9, h⟩ | h
    · exact hD.2 k _ h
    · exact hA q (Nat.le_trans hS.1 h)
  intro T hT X
  obtain ⟨v9, st₀, t, T', L, h0, X', hL, e1, e2, ⟨hv, ⟨hp, -, hd⟩, hz, hk⟩, st⟩ := hr T hT X
  cases hv
  rw [h0] at hz hk
  obtain ⟨t2, a1, b1⟩ := kk T'.heap (locs ++ L) (by rw [e1]; exact hp) (hd.weaken (fun k q _ h => hF q.1 h))
    ⟨Nat.le_trans hS.1 (by rw [e1]; exact hz), fun q h1 h2 => by rw [e1, hk q (Nat.lt_of_lt_of_le h1 hS.1) (fun z => h2 (hF q z))]; exact hS.2.1 q h1 h2, fun q hq => by
      rcases List.mem_append.mp hq with h | h
      · exact hS.2.2 q h
      · exact hF _ (hL q h)⟩ T' rfl X'
  exact ⟨t2, st t2 a1, b1⟩
end CALLS
end BASE
