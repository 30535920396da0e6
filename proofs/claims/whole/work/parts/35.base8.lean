/-! SCHEMATICTEXT ITSELF: what its throws need, its world, starts and ends of its methods -/
abbrev nm8 : List String := ["java/lang/RuntimeException", "java/lang/Exception"]
def exN (e : Nat) : String := if e = 1 then "java/lang/IndexOutOfBoundsException" else if e = 2 then "java/lang/IllegalStateException" else "java/lang/IllegalArgumentException"
noncomputable def at1 : List Cond := vx_atS RX8 86 "java/lang/IndexOutOfBoundsException" nm8
noncomputable def at2 : List Cond := vx_atS RX8 126 "java/lang/IllegalStateException" nm8
noncomputable def at3 : List Cond := vx_atS RX8 154 "java/lang/IllegalArgumentException" nm8
def nd8 : List MethodName := [⟨"java/lang/RuntimeException", "<init>", "(Ljava/lang/String;)V"⟩, ⟨"java/lang/Exception", "<init>", "(Ljava/lang/String;)V"⟩, ⟨"java/lang/Throwable", "<init>", "(Ljava/lang/String;)V"⟩]
def nc8 : List String := ["java/lang/IndexOutOfBoundsException", "java/lang/IllegalStateException", "java/lang/IllegalArgumentException"]
def msg8 : List (Nat × String) := [(84, "no such object"), (97, "no such number"), (103, "no such text"), (109, "no such character"), (124, "the object is of another kind"), (133, "below the first character"), (135, "there are no objects"), (145, "no such parent"), (152, "no such kind"), (166, "no such field")]
def ng8 (X : String) : List Cond := [.declares ⟨"java/lang/RuntimeException", "<init>", "(Ljava/lang/String;)V"⟩, .declares ⟨"java/lang/Exception", "<init>", "(Ljava/lang/String;)V"⟩, .declares ⟨"java/lang/Throwable", "<init>", "(Ljava/lang/String;)V"⟩, .castable X X]
set_option maxRecDepth 20000 in
theorem at1_ng : ∀ w ∈ at1.filter (fun w => !goodWord w), w ∈ ng8 "java/lang/IndexOutOfBoundsException" := by decide +kernel
set_option maxRecDepth 20000 in
theorem at2_ng : ∀ w ∈ at2.filter (fun w => !goodWord w), w ∈ ng8 "java/lang/IllegalStateException" := by decide +kernel
set_option maxRecDepth 20000 in
theorem at3_ng : ∀ w ∈ at3.filter (fun w => !goodWord w), w ∈ ng8 "java/lang/IllegalArgumentException" := by decide +kernel
set_option maxRecDepth 20000 in
theorem at1_ot : ∀ w ∈ Cond.classLink RX8 82 "java/lang/IndexOutOfBoundsException" :: Cond.initialized "java/lang/IndexOutOfBoundsException" :: at1, vx_ot w = true := by decide +kernel
set_option maxRecDepth 20000 in
theorem at2_ot : ∀ w ∈ Cond.classLink RX8 122 "java/lang/IllegalStateException" :: Cond.initialized "java/lang/IllegalStateException" :: at2, vx_ot w = true := by decide +kernel
set_option maxRecDepth 20000 in
theorem at3_ot : ∀ w ∈ Cond.classLink RX8 150 "java/lang/IllegalArgumentException" :: Cond.initialized "java/lang/IllegalArgumentException" :: at3, vx_ot w = true := by decide +kernel
noncomputable def WA8 : List Cond := WAX ++ (at1.filter goodWord ++ (at2.filter goodWord ++ at3.filter goodWord))
theorem WA8_good : ∀ w ∈ WA8, goodWord w = true := by
  intro w hw
  rcases List.mem_append.mp hw with h | h
  · exact List.all_eq_true.mp WAX_good w h
  · rcases List.mem_append.mp h with h | h
    · exact (List.mem_filter.mp h).2
    · rcases List.mem_append.mp h with h | h
      · exact (List.mem_filter.mp h).2
      · exact (List.mem_filter.mp h).2
theorem m8 {w : Cond} (h : w ∈ WAX) : w ∈ WA8 := List.mem_append_left _ h
theorem gd8 {c0 : Cond} {ws : List Cond} (h : ∀ w ∈ ws, w ∈ WA8) : GoodIn (c0 :: WA8) ws := fun w hw => ⟨List.mem_cons_of_mem _ (h w hw), good_of_word (WA8_good w (h w hw))⟩
theorem gd8_m {c0 : Cond} {ws : List Cond} (h : GoodIn (c0 :: WAX) ws) : GoodIn (c0 :: WA8) ws := fun w hw => ⟨(List.mem_cons.mp (h w hw).1).elim (fun e => List.mem_cons.mpr (Or.inl e)) (fun q => List.mem_cons_of_mem _ (m8 q)), (h w hw).2⟩
theorem gd8_v {c0 cw : Cond} {own C : String} {idx : Nat} {y : MethodName} (h1 : Cond.methodLink own idx y ∈ WAX) (h2 : Cond.instanceMethod y ∈ WAX) (h3 : Cond.selects C y y ∈ WAX) (h4 : Cond.initialized C ∈ WAX) (h5 : cw ∈ WAX) : GoodIn (c0 :: WA8) (wsV own idx C y (cw :: WA8)) := by
  refine gd8 (fun w hw => ?_)
  rcases List.mem_append.mp hw with h | h
  · simp only [List.mem_cons, List.not_mem_nil, or_false] at h
    rcases h with rfl | rfl | rfl | rfl
    · exact m8 h1
    · exact m8 h2
    · exact m8 h3
    · exact m8 h4
  · rcases List.mem_cons.mp h with rfl | h
    · exact m8 h5
    · exact h
/-- what stands, for methods that throw -/
def ST8 (G : Gx) (A : Nat → Prop) (U : State) (H : Heap) : Prop := ST G A U H ∧ ((∀ x ∈ nd8, va_Nw (.declares x) U) ∧ ∀ X ∈ nc8, va_Nw (.castable X X) U) ∧ (vx_Zq Bundle.tN "UNASSIGNED_STACK" Bundle.steD A U H ∧ vx_Zq Bundle.tN "SUPPRESSED_SENTINEL" Bundle.listD A U H) ∧ ∀ q ∈ msg8, ∃ a : Nat, vk_R "SchematicText" q.1 q.2 a U
def pX8 (G : Gx) (w : va_W) (sz : Nat) (av : List Value) : Array Value → State → Prop :=
  va_Pc av (fun U => U.heap.size = sz ∧ va_P (gD G) vwCl w U.heap ∧ va_K (gD G) vwCl (tyG G) U ∧ va_D (fun _ => True) w ∧ ST8 G (va_A w sz) U U.heap)
theorem pX8_blind {G : Gx} {w : va_W} {sz : Nat} {av : List Value} : FrameBlind (pX8 G w sz av) := by
  intro a U g mk q
  obtain ⟨q0, q1, qP, qK, qD, ⟨qS, qN⟩, ⟨q2, q3⟩, ⟨q4, q5⟩, q6⟩ := q
  exact ⟨q0, q1, qP, va_K.moved (u := U) (U := U.calling g mk a) (Vm.Alike.refl U.vm) qK, qD, ⟨qS.moved (U := U.calling g mk a) (Vm.Alike.refl U.vm), qN.same (U := U.calling g mk a) rfl⟩,
    ⟨fun x hx => va_Nw.same rfl (U := U.calling g mk a) rfl (q2 x hx), fun X hX => va_Nw.same rfl (U := U.calling g mk a) rfl (q3 X hX)⟩, ⟨q4.moved (U := U.calling g mk a) (Vm.Alike.refl U.vm), q5.moved (U := U.calling g mk a) (Vm.Alike.refl U.vm)⟩, fun q hq => by
      obtain ⟨z, hz⟩ := q6 q hq
      exact ⟨z, vk_R.same (U := U.calling g mk a) rfl hz⟩⟩
/-- an exception of kind e has come, and nothing that was there has changed -/
def xc8 (e : Nat) : String → State → State → Prop := fun E st t => E = exN e ∧ st.heap.size ≤ t.heap.size ∧ ∀ q : Nat, q < st.heap.size → t.heap[q]? = st.heap[q]?
abbrev Q0 : Array Value → State → Outcome → State → Prop := fun _ _ _ _ => False
abbrev fs8 (bF bS bP : Nat → Nat) (t v : Nat) (u : Md) : List Value := [.ref (bF 0), .ref (bS 0), .ref (bP 0), .ref t, .ref v, .int (gi u 5)]
/-- the whole world of an object: itself, its form, its source, tree and spare, its page -/
def c8 (ci : Nat) (G : Gx) (bX bF bS bT bV bP : Nat → Nat) (t v : Nat) (uX uS uT uV uP : Md) : va_W := [(bX 0, .inr (5, fs8 bF bS bP t v uX))] ++ cF ci bF ++ cS G bS uS ++ cT G bT uT ++ cT G bV uV ++ cP G bP uP
theorem hw8_h {ci : Nat} {G : Gx} {bX bF bS bT bV bP : Nat → Nat} {t v : Nat} {uX uS uT uV uP : Md} {x : Int32} : (c8 ci G bX bF bS bT bV bP t v uX uS uT uV uP).set 0 (bX 0, .inr (5, (fs8 bF bS bP t v uX).set 5 (.int x))) = c8 ci G bX bF bS bT bV bP t v (si uX 5 x) uS uT uV uP := rfl
theorem hw8_t {ci : Nat} {G : Gx} {bX bF bS bT bV bP : Nat → Nat} {t v q : Nat} {uX uS uT uV uP : Md} : (c8 ci G bX bF bS bT bV bP t v uX uS uT uV uP).set 0 (bX 0, .inr (5, (fs8 bF bS bP t v uX).set 3 (.ref q))) = c8 ci G bX bF bS bT bV bP q v uX uS uT uV uP := rfl
theorem hw8_v {ci : Nat} {G : Gx} {bX bF bS bT bV bP : Nat → Nat} {t v q : Nat} {uX uS uT uV uP : Md} : (c8 ci G bX bF bS bT bV bP t v uX uS uT uV uP).set 0 (bX 0, .inr (5, (fs8 bF bS bP t v uX).set 4 (.ref q))) = c8 ci G bX bF bS bT bV bP t q uX uS uT uV uP := rfl
theorem h8_self : ∀ k, k < 6 → (TX8 k).1 = RX8 := by decide +kernel
section B8
variable {p : Program} {l : Launch} {e : Env} {R : Room} {s : State} {m : MethodId} {args : Array Value} {below : List Frame} {meth : Method} {c : Code} {H : Heap} {locs : List Loc} {Q : State → Prop}
variable {cc : ByteArray} {nL : Nat} {own : String} {pc : Nat} {ls : Array Slot} {rest st0 : List Value} {G : Gx} {A : Nat → Prop} {w0 w1 w : va_W} {cw : Cond} {ret0 : Option FieldType}
theorem pre8 {av : List Value} (hK : va_K (gD G) vwCl (tyG G) s) (hA : ∀ q : Nat, s.heap.size ≤ q → A q) (hP : va_P (gD G) vwCl w H) (hD : va_D A w) (hS : va_S A s.heap H locs) (hT : ST8 G A s s.heap) (isC : List Nat) (hnd : va_nd isC = true) (hC : isC.map (fun i => w[i]?) = w0.map some) :
    ∀ U : State, U.heap = H → s.WarmedH U.vm → pX8 G w0 H.size av av.toArray U := by
  intro U hU hW
  subst hU
  have hF := va_free hD hS hA isC hC
  obtain ⟨⟨qS, qN⟩, ⟨q2, q3⟩, ⟨q4, q5⟩, q6⟩ := hT
  exact ⟨rfl, rfl, pl_P hP hC, va_K.moved hW.alike hK, (hD.sub isC hnd hC).weaken (fun _ _ _ _ => trivial), ⟨((qS.kept hS.2.1).narrow hF).moved hW.alike, qN.warm hW⟩,
    ⟨fun x hx => va_Nw.warmD hW (q2 x hx), fun X hX => va_Nw.warmC hW (q3 X hX)⟩, ⟨((q4.kept hS.2.1).narrow hF).moved hW.alike, ((q5.kept hS.2.1).narrow hF).moved hW.alike⟩, fun q hq => by
      obtain ⟨z, hz⟩ := q6 q hq
      exact ⟨z, vk_R.warm hW hz⟩⟩
theorem mx8_r {y : MethodName} {ws ws' : List Cond} {rm : Room} {maxL sz : Nat} {ret : Option FieldType} {av : List Value} {v : Value} (hy : plainName y.cls = true) (hw : ws = Cond.code y cc maxL ret :: ws') (hn : (lg_sl av).length ≤ maxL)
    (body : ∀ (p : Program) (e : Env) (s : State) (m : MethodId) (below : List Frame) (meth : Method) (c : Code) (ls : Array Slot) (A : Nat → Prop), Cx p s m av.toArray meth c cc maxL ws y.cls ret → lv_has ls maxL (lv_args 0 av) → va_K (gD G) vwCl (tyG G) s → (∀ q : Nat, s.heap.size ≤ q → A q) → ST8 G A s s.heap → va_P (gD G) vwCl w s.heap → va_D A w → va_S A s.heap s.heap [] →
      W p l e rm s m av.toArray below meth c s.heap [] 0 0 (MQ below (k2_QcV v) av.toArray s 0 0 (fun _ => False)) (F0 m 0 ls [])) : Met l y ws rm (pX8 G w sz av) (k2_QcV v) 0 0 (fun _ => False) := by
  refine Met.ofW (cc := cc) (maxL := maxL) (ret := ret) hy hw ?_
  intro p e s m args below meth c s₁ B hml hv
  obtain ⟨rfl, hsz, hP, hK, hD, hT⟩ := hv
  subst hsz
  rw [lg_entry_eq]
  exact body p e s m below meth c _ _ ⟨⟨B.exec, B.bytes, hml, findClass_of_methodNamed B.named, atoms_spec (ws := ws) B.pre⟩, B.returns, B.notSynchronized⟩ (lv_entry av hn) hK (fun q h => Or.inr h) hT hP hD.self va_S.rf
theorem mx8_w {y : MethodName} {ws ws' : List Cond} {rm : Room} {maxL sz : Nat} {ret : Option FieldType} {av : List Value} {v : Option Value} (hy : plainName y.cls = true) (hw : ws = Cond.code y cc maxL ret :: ws') (hn : (lg_sl av).length ≤ maxL)
    (body : ∀ (p : Program) (e : Env) (s : State) (m : MethodId) (below : List Frame) (meth : Method) (c : Code) (ls : Array Slot) (A : Nat → Prop), Cx p s m av.toArray meth c cc maxL ws y.cls ret → lv_has ls maxL (lv_args 0 av) → va_K (gD G) vwCl (tyG G) s → (∀ q : Nat, s.heap.size ≤ q → A q) → ST8 G A s s.heap → va_P (gD G) vwCl w s.heap → va_D A w → va_S A s.heap s.heap [] →
      W p l e rm s m av.toArray below meth c s.heap [] 0 0 (MQ below (qW v w1 (gD G) (tyG G) A) av.toArray s 0 0 A) (F0 m 0 ls [])) : Met l y ws rm (pX8 G w sz av) (qW v w1 (gD G) (tyG G) (va_A w sz)) 0 0 (va_A w sz) := by
  refine Met.ofW (cc := cc) (maxL := maxL) (ret := ret) hy hw ?_
  intro p e s m args below meth c s₁ B hml hv
  obtain ⟨rfl, hsz, hP, hK, hD, hT⟩ := hv
  subst hsz
  rw [lg_entry_eq]
  exact body p e s m below meth c _ _ ⟨⟨B.exec, B.bytes, hml, findClass_of_methodNamed B.named, atoms_spec (ws := ws) B.pre⟩, B.returns, B.notSynchronized⟩ (lv_entry av hn) hK (fun q h => Or.inr h) hT hP hD.self va_S.rf
theorem mx8_t {y : MethodName} {ws ws' : List Cond} {rm : Room} {maxL sz ek : Nat} {ret : Option FieldType} {av : List Value} (hy : plainName y.cls = true) (hw : ws = Cond.code y cc maxL ret :: ws') (hn : (lg_sl av).length ≤ maxL)
    (body : ∀ (p : Program) (e : Env) (s : State) (m : MethodId) (below : List Frame) (meth : Method) (c : Code) (ls : Array Slot) (A : Nat → Prop), Cx p s m av.toArray meth c cc maxL ws y.cls ret → (∀ x ∈ c.exceptionTable.toList, False) → lv_has ls maxL (lv_args 0 av) → va_K (gD G) vwCl (tyG G) s → (∀ q : Nat, s.heap.size ≤ q → A q) → ST8 G A s s.heap → va_P (gD G) vwCl w s.heap → va_D A w → va_S A s.heap s.heap [] →
      W p l e rm s m av.toArray below meth c s.heap [] 0 0 (vx_MQ below Q0 (xc8 ek) av.toArray s 1 6 (fun _ => False)) (F0 m 0 ls [])) : vx_Met l y ws rm (pX8 G w sz av) Q0 (xc8 ek) 1 6 (fun _ => False) := by
  refine vx_ofW (cc := cc) (maxL := maxL) (ret := ret) hy hw ?_
  intro p e s m args below meth c s₁ B hml hnt hv
  obtain ⟨rfl, hsz, hP, hK, hD, hT⟩ := hv
  subst hsz
  rw [lg_entry_eq]
  exact body p e s m below meth c _ _ ⟨⟨B.exec, B.bytes, hml, findClass_of_methodNamed B.named, atoms_spec (ws := ws) B.pre⟩, B.returns, B.notSynchronized⟩ hnt (lv_entry av hn) hK (fun q h => Or.inr h) hT hP hD.self va_S.rf
theorem xr8_V {y : MethodName} {bytes : ByteArray} {maxL n index : Nat} {ret : Option FieldType} {ws Ts : List Cond} {rm : Room} {C0 : String} {b : Addr} {As : List Value} {v : Value} (C : Cx p s m args meth c cc nL Ts own ret0) (hM : Met l y ws rm (pX8 G w0 H.size (.ref b :: As)) (k2_QcV v) 0 0 (fun _ => False)) (cwv : CallW R s args own C0 index y bytes maxL ret ws rm 0 0 n) (hK : va_K (gD G) vwCl (tyG G) s) (hA : ∀ q : Nat, s.heap.size ≤ q → A q) (hT : ST8 G A s s.heap) (hP : va_P (gD G) vwCl w H) (hD : va_D A w) (hS : va_S A s.heap H locs)
    (hrec : ∃ cell : Cell, H[b]? = some cell ∧ cell.vm.isStatics = false ∧ s.vm.findClass C0 = some cell.cls) (isC : List Nat) (hnd : va_nd isC = true) (hC : isC.map (fun i => w[i]?) = w0.map some) (hn : As.length = n) (hsize : ls.size = nL) (hstack : st0 = As.reverse ++ .ref b :: rest) (hW : (rest.map fun v => v.category).sum ≤ 8) (hdg : decode cc pc = .ok (.invokevirtual index, 3))
    (kk : W p l e R s m args below meth c H locs 0 0 Q (F0 m (pc + 3) ls (v :: rest))) : W p l e R s m args below meth c H locs 0 0 Q (F0 m pc ls st0) :=
  W.callV (W.runV (g := F0 m pc ls st0) C.1 hM cwv ⟨pX8_blind, hrec, pre8 hK hA hP hD hS hT isC hnd hC⟩ rfl hn hsize hstack (lv_room hW) hdg ⟨Nat.zero_le _, Nat.zero_le _⟩) kk
/-- a callee that throws, in a method that doesn't catch -/
theorem xt8_V {y : MethodName} {bytes : ByteArray} {maxL n index ek : Nat} {ret : Option FieldType} {ws Ts : List Cond} {rm : Room} {C0 : String} {b : Addr} {As : List Value} (C : Cx p s m args meth c cc nL Ts own ret0) (hnt : ∀ x ∈ c.exceptionTable.toList, False) (hM : vx_Met l y ws rm (pX8 G w0 s.heap.size (.ref b :: As)) Q0 (xc8 ek) 1 6 (fun _ => False)) (cwv : CallW R s args own C0 index y bytes maxL ret ws rm 1 6 n) (hK : va_K (gD G) vwCl (tyG G) s) (hA : ∀ q : Nat, s.heap.size ≤ q → A q) (hT : ST8 G A s s.heap) (hP : va_P (gD G) vwCl w s.heap) (hD : va_D A w) (hS : va_S A s.heap s.heap [])
    (hrec : ∃ cell : Cell, s.heap[b]? = some cell ∧ cell.vm.isStatics = false ∧ s.vm.findClass C0 = some cell.cls) (isC : List Nat) (hnd : va_nd isC = true) (hC : isC.map (fun i => w[i]?) = w0.map some) (hn : As.length = n) (hsize : ls.size = nL) (hstack : st0 = As.reverse ++ .ref b :: rest) (hW : (rest.map fun v => v.category).sum ≤ 8) (hR : 1 ≤ R.cells ∧ 6 ≤ R.slots) (hdg : decode cc pc = .ok (.invokevirtual index, 3)) :
    W p l e R s m args below meth c s.heap [] 0 0 (vx_MQ below Q0 (xc8 ek) args s 1 6 (fun _ => False)) (F0 m pc ls st0) := by
  have hr := vx_runV (g := F0 m pc ls st0) (l := l) (e := e) (R := R) (below := below) (meth := meth) (locs := []) (cells := 0) (slots := 0) C.1 hM cwv ⟨pX8_blind, hrec, pre8 hK hA hP hD hS hT isC hnd hC⟩ rfl hn hsize hstack (lv_room hW) hdg ⟨by omega, by omega⟩
  intro T hTh X
  rcases hr T hTh X with ⟨v, st₀, t, T', L, h0, X', hL, e1, e2, hq, st⟩ | ⟨q, st₀, t, T', L, E, ce, h0, X', hL, e1, e2, hx, hce, hcv, hcl, st⟩
  · exact hq.elim
  · have hLn : L = [] := List.eq_nil_iff_forall_not_mem.mpr (fun z hz => hL z hz)
    subst hLn
    obtain ⟨hE, hz, hk⟩ := hx
    rw [h0] at hz hk
    obtain ⟨t2, a1, b1⟩ := vx_out (E := E) (ce := ce) (q := q) (mc := 1) (ms := 6) (free := fun _ => False) (Qc := Q0) (XC := xc8 ek) (H := T'.heap) (rest := rest) (ls := ls) (pc := pc) (fun x hx => (hnt x hx).elim) C.2.2 (by rw [e1]; exact hce) hcv hcl
      (fun t9 h9 _ => ⟨hE, by rw [h9, e1]; exact hz, fun q9 hq9 => by rw [h9, e1]; exact hk q9 hq9⟩) (fun z hz => by simp at hz) (Nat.le_refl _) (Nat.le_refl _) T' rfl X'
    exact ⟨t2, st.trans a1, b1⟩

theorem th8_1 (C : Cx p s m args meth c cc nL (cw :: WA8) RX8 ret0) (hl : l.stackTraces = false) (hT : ST8 G A s s.heap) (hS : va_S A s.heap s.heap []) (hnt : ∀ x ∈ c.exceptionTable.toList, False) (hsz : ls.size = nL) {is : Nat} {tx : String} (hm : (is, tx) ∈ msg8) (h82 : Cond.classLink RX8 82 "java/lang/IndexOutOfBoundsException" ∈ WAX) (hini : Cond.initialized "java/lang/IndexOutOfBoundsException" ∈ WAX)
    (d0 : decode cc pc = .ok (.new 82, 3)) (d3 : decode cc (pc + 3) = .ok (.dup, 1)) (d4 : decode cc (pc + 4) = .ok (.ldc is, 2)) (d6 : decode cc (pc + 6) = .ok (.invokespecial 86, 3)) (d9 : decode cc (pc + 9) = .ok (.athrow, 1))
    (hRf : 5 < R.frames) (hRl : (rest.map fun v => v.category).sum + 82 ≤ R.locals) (hRc : 1 ≤ R.cells) (hRs : 6 ≤ R.slots) :
    W p l e R s m args below meth c s.heap [] 0 0 (vx_MQ below Q0 (xc8 1) args s 1 6 (fun _ => False)) (F0 m pc ls rest) := by
  have hts := C.1.2.2.2.2
  obtain ⟨⟨-, -⟩, ⟨q2, q3⟩, ⟨q4, q5⟩, q6⟩ := hT
  obtain ⟨sa, hsa⟩ := q6 _ hm
  have hat : ∀ w ∈ at1, w.before args s = true := vx_hat (fun w hw => hts w (List.mem_cons_of_mem _ (List.mem_append_right _ (List.mem_append_left _ hw)))) at1_ng
    (vx_c (va_Nw.use rfl (q2 _ List.mem_cons_self)) (vx_c (va_Nw.use rfl (q2 _ (List.mem_cons_of_mem _ List.mem_cons_self))) (vx_c (va_Nw.use rfl (q2 _ (List.mem_cons_of_mem _ (List.mem_cons_of_mem _ List.mem_cons_self)))) (vx_c (va_Nw.use rfl (q3 _ List.mem_cons_self)) vx_n))))
  exact vx_throwS (names := nm8) (mc := 1) (ms := 6) C.1.1 C.1.2.1 hl C.1.2.2.2.1 (by decide +kernel) (by decide +kernel) (hts _ (List.mem_cons_of_mem _ (m8 h82))) (hts _ (List.mem_cons_of_mem _ (m8 hini))) hsa hat at1_ot q4 q5 hS (hsz.trans C.1.2.2.1.symm) d0 d3 d4 d6 d9 (fun x hx => (hnt x hx).elim) hRf hRl (by omega) (by omega) C.2.2 (fun t _ h1 h2 => ⟨rfl, h1, h2⟩) (fun z hz => nomatch hz) (Nat.le_refl _) (Nat.le_refl _)

theorem th8_2 (C : Cx p s m args meth c cc nL (cw :: WA8) RX8 ret0) (hl : l.stackTraces = false) (hT : ST8 G A s s.heap) (hS : va_S A s.heap s.heap []) (hnt : ∀ x ∈ c.exceptionTable.toList, False) (hsz : ls.size = nL) {is : Nat} {tx : String} (hm : (is, tx) ∈ msg8) (h82 : Cond.classLink RX8 122 "java/lang/IllegalStateException" ∈ WAX) (hini : Cond.initialized "java/lang/IllegalStateException" ∈ WAX)
    (d0 : decode cc pc = .ok (.new 122, 3)) (d3 : decode cc (pc + 3) = .ok (.dup, 1)) (d4 : decode cc (pc + 4) = .ok (.ldc is, 2)) (d6 : decode cc (pc + 6) = .ok (.invokespecial 126, 3)) (d9 : decode cc (pc + 9) = .ok (.athrow, 1))
    (hRf : 5 < R.frames) (hRl : (rest.map fun v => v.category).sum + 82 ≤ R.locals) (hRc : 1 ≤ R.cells) (hRs : 6 ≤ R.slots) :
    W p l e R s m args below meth c s.heap [] 0 0 (vx_MQ below Q0 (xc8 2) args s 1 6 (fun _ => False)) (F0 m pc ls rest) := by
  have hts := C.1.2.2.2.2
  obtain ⟨⟨-, -⟩, ⟨q2, q3⟩, ⟨q4, q5⟩, q6⟩ := hT
  obtain ⟨sa, hsa⟩ := q6 _ hm
  have hat : ∀ w ∈ at2, w.before args s = true := vx_hat (fun w hw => hts w (List.mem_cons_of_mem _ (List.mem_append_right _ (List.mem_append_right _ (List.mem_append_left _ hw))))) at2_ng
    (vx_c (va_Nw.use rfl (q2 _ List.mem_cons_self)) (vx_c (va_Nw.use rfl (q2 _ (List.mem_cons_of_mem _ List.mem_cons_self))) (vx_c (va_Nw.use rfl (q2 _ (List.mem_cons_of_mem _ (List.mem_cons_of_mem _ List.mem_cons_self)))) (vx_c (va_Nw.use rfl (q3 _ (List.mem_cons_of_mem _ List.mem_cons_self))) vx_n))))
  exact vx_throwS (names := nm8) (mc := 1) (ms := 6) C.1.1 C.1.2.1 hl C.1.2.2.2.1 (by decide +kernel) (by decide +kernel) (hts _ (List.mem_cons_of_mem _ (m8 h82))) (hts _ (List.mem_cons_of_mem _ (m8 hini))) hsa hat at2_ot q4 q5 hS (hsz.trans C.1.2.2.1.symm) d0 d3 d4 d6 d9 (fun x hx => (hnt x hx).elim) hRf hRl (by omega) (by omega) C.2.2 (fun t _ h1 h2 => ⟨rfl, h1, h2⟩) (fun z hz => nomatch hz) (Nat.le_refl _) (Nat.le_refl _)

theorem th8_3 (C : Cx p s m args meth c cc nL (cw :: WA8) RX8 ret0) (hl : l.stackTraces = false) (hT : ST8 G A s s.heap) (hS : va_S A s.heap s.heap []) (hnt : ∀ x ∈ c.exceptionTable.toList, False) (hsz : ls.size = nL) {is : Nat} {tx : String} (hm : (is, tx) ∈ msg8) (h82 : Cond.classLink RX8 150 "java/lang/IllegalArgumentException" ∈ WAX) (hini : Cond.initialized "java/lang/IllegalArgumentException" ∈ WAX)
    (d0 : decode cc pc = .ok (.new 150, 3)) (d3 : decode cc (pc + 3) = .ok (.dup, 1)) (d4 : decode cc (pc + 4) = .ok (.ldc is, 2)) (d6 : decode cc (pc + 6) = .ok (.invokespecial 154, 3)) (d9 : decode cc (pc + 9) = .ok (.athrow, 1))
    (hRf : 5 < R.frames) (hRl : (rest.map fun v => v.category).sum + 82 ≤ R.locals) (hRc : 1 ≤ R.cells) (hRs : 6 ≤ R.slots) :
    W p l e R s m args below meth c s.heap [] 0 0 (vx_MQ below Q0 (xc8 3) args s 1 6 (fun _ => False)) (F0 m pc ls rest) := by
  have hts := C.1.2.2.2.2
  obtain ⟨⟨-, -⟩, ⟨q2, q3⟩, ⟨q4, q5⟩, q6⟩ := hT
  obtain ⟨sa, hsa⟩ := q6 _ hm
  have hat : ∀ w ∈ at3, w.before args s = true := vx_hat (fun w hw => hts w (List.mem_cons_of_mem _ (List.mem_append_right _ (List.mem_append_right _ (List.mem_append_right _ hw))))) at3_ng
    (vx_c (va_Nw.use rfl (q2 _ List.mem_cons_self)) (vx_c (va_Nw.use rfl (q2 _ (List.mem_cons_of_mem _ List.mem_cons_self))) (vx_c (va_Nw.use rfl (q2 _ (List.mem_cons_of_mem _ (List.mem_cons_of_mem _ List.mem_cons_self)))) (vx_c (va_Nw.use rfl (q3 _ (List.mem_cons_of_mem _ (List.mem_cons_of_mem _ List.mem_cons_self)))) vx_n))))
  exact vx_throwS (names := nm8) (mc := 1) (ms := 6) C.1.1 C.1.2.1 hl C.1.2.2.2.1 (by decide +kernel) (by decide +kernel) (hts _ (List.mem_cons_of_mem _ (m8 h82))) (hts _ (List.mem_cons_of_mem _ (m8 hini))) hsa hat at3_ot q4 q5 hS (hsz.trans C.1.2.2.1.symm) d0 d3 d4 d6 d9 (fun x hx => (hnt x hx).elim) hRf hRl (by omega) (by omega) C.2.2 (fun t _ h1 h2 => ⟨rfl, h1, h2⟩) (fun z hz => nomatch hz) (Nat.le_refl _) (Nat.le_refl _)
end B8
