/-! THE CLASS: what never changes (enum constants, their fields, strings, links inside the nest), worlds of its objects, calls on a part of a world -/
abbrev Gx : Type := va_G × ClassId × ClassId × ClassId × (Nat → Nat) × (Nat → Nat) × Nat × (Nat → Nat) × (Nat → Nat)
def gD (G : Gx) : va_G := G.1
def gI (G : Gx) : ClassId := G.2.1
def gJ (G : Gx) : ClassId := G.2.2.1
def gC (G : Gx) : ClassId := G.2.2.2.1
def gF (G : Gx) : Nat → Nat := G.2.2.2.2.1
def gK (G : Gx) : Nat → Nat := G.2.2.2.2.2.1
def gT (G : Gx) : Nat := G.2.2.2.2.2.2.1
def gS (G : Gx) : Nat → Nat := G.2.2.2.2.2.2.2.1
def gV (G : Gx) : Nat → Nat := G.2.2.2.2.2.2.2.2
abbrev tyG (G : Gx) : List (ClassId × FieldType) := [(gI G, .int), (gJ G, .long), (gC G, .char)]
-- the constants of Field and of Kind, the strings of Kind
def nmF : List String := ["TEXT", "LENGTH", "SIZE", "PAGE", "UNIT_NUMBER", "PIN_KIND", "ANGLE", "VERSION"]
def tbSort : List Int32 := [0, 1, 1, 2, 2, 2, 2, 2]
def tbSince : List Int32 := [1, 1, 3, 1, 1, 2, 1, 1]
def FF : List (String × String × String × List Int32) := [("SchematicText$Field", "sort", "I", tbSort), ("SchematicText$Field", "since", "I", tbSince)]
def tbLow : List Int64 := [0, -1000000000, -1000000000, 0, 1, 0, -360, 1]
def tbHigh : List Int64 := [0, 1000000000, 1000000000, 9999, 9999, 9, 360, 3]
def tbMade : List Int64 := [0, 0, 1270000, 0, 1, 0, 0, 0]
def nmK : List String := ["DESIGN", "SHEET", "SYMBOL", "UNIT", "PIN", "ARC", "NOTE", "WIRE", "FIELD", "UNKNOWN"]
def tbNum : List Int32 := [0, 1, 2, 3, 4, 5, 6, 7, 8, 9]
def tbHomes : List Int32 := [0, 3, 2, 4, 8, 8, 10, 2, 6, 15]
def FK : List (String × String × String × List Int32) := [("SchematicText$Kind", "number", "I", tbNum), ("SchematicText$Kind", "homes", "I", tbHomes)]
def tbTitle : List Nat := [0, 1, 2, 3, 4, 5, 6, 7, 8, 9]
def tbShape : List Nat := [9, 10, 11, 12, 13, 14, 15, 16, 17, 9]
def tbLen : List Nat := [6, 5, 6, 4, 3, 3, 4, 4, 5, 0, 2, 3, 1, 4, 5, 4, 4, 2]
def tbByt : List (List Int32) := [[100, 101, 115, 105, 103, 110], [115, 104, 101, 101, 116], [115, 121, 109, 98, 111, 108], [117, 110, 105, 116], [112, 105, 110], [97, 114, 99], [110, 111, 116, 101], [119, 105, 114, 101], [102, 105, 101, 108, 100], [], [112, 116], [110, 110, 116], [117], [110, 110, 116, 107], [110, 110, 110, 97, 97], [110, 110, 116, 115], [110, 110, 110, 110], [116, 116]]
def fSort (i : Fin 8) : Int32 := tbSort.getD i.val 0
def fSince (i : Fin 8) : Int32 := tbSince.getD i.val 0
def fLow (i : Fin 8) : Int64 := tbLow.getD i.val 0
def fHigh (i : Fin 8) : Int64 := tbHigh.getD i.val 0
def fMade (i : Fin 8) : Int64 := tbMade.getD i.val 0
def kNum (i : Fin 10) : Int32 := tbNum.getD i.val 0
def kHomes (i : Fin 10) : Int32 := tbHomes.getD i.val 0
theorem tbTitle_lt : ∀ i : Fin 10, tbTitle.getD i.val 0 < 18 := by decide
theorem tbShape_lt : ∀ i : Fin 10, tbShape.getD i.val 0 < 18 := by decide
def kTitle (i : Fin 10) : Fin 18 := ⟨tbTitle.getD i.val 0, tbTitle_lt i⟩
def kShape (i : Fin 10) : Fin 18 := ⟨tbShape.getD i.val 0, tbShape_lt i⟩
def sLen (j : Fin 18) : Nat := tbLen.getD j.val 0
def sByt (j : Fin 18) (i : Nat) : Int32 := (tbByt.getD j.val []).getD i 0
def nestF : List (String × Nat × String × String × String × String) := [("SchematicText$ListForm", 72, "SchematicText$Source", "count", "I", "SchematicText"), ("SchematicText$LineForm", 77, "SchematicText$Source", "count", "I", "SchematicText"), ("SchematicText$ListForm", 18, "SchematicText$Source", "at", "I", "SchematicText"), ("SchematicText$LineForm", 27, "SchematicText$Source", "at", "I", "SchematicText"), ("SchematicText$Form", 9, "SchematicText$Source", "at", "I", "SchematicText"), ("SchematicText$ListForm", 41, "SchematicText$Source", "fault", "I", "SchematicText"), ("SchematicText", 63, "SchematicText$Source", "fault", "I", "SchematicText"), ("SchematicText$Form", 62, "SchematicText$Source", "value", "J", "SchematicText"), ("SchematicText", 67, "SchematicText$Tree", "count", "I", "SchematicText"), ("SchematicText", 189, "SchematicText$Tree", "deepest", "I", "SchematicText"), ("SchematicText$Form", 66, "SchematicText$Tree", "version", "I", "SchematicText"), ("SchematicText", 115, "SchematicText$Tree", "version", "I", "SchematicText"), ("SchematicText$Source", 53, "SchematicText$Kind", "ALL", "[LSchematicText$Kind;", "SchematicText"), ("SchematicText$Source", 59, "SchematicText$Kind", "title", "Ljava/lang/String;", "SchematicText"), ("SchematicText$Tree", 84, "SchematicText$Kind", "number", "I", "SchematicText"), ("SchematicText$Tree", 119, "SchematicText$Field", "made", "J", "SchematicText"), ("SchematicText$Form", 77, "SchematicText$Field", "since", "I", "SchematicText"), ("SchematicText", 74, "SchematicText$Kind", "number", "I", "SchematicText"), ("SchematicText$Form", 92, "SchematicText$Kind", "title", "Ljava/lang/String;", "SchematicText")]
def nestM : List (String × Nat × MethodName × String) := [("SchematicText", 9, ⟨"SchematicText$ListForm", "<init>", "()V"⟩, "SchematicText"), ("SchematicText$ListForm", 3, ⟨"SchematicText$Form", "<init>", "()V"⟩, "SchematicText"), ("SchematicText", 12, ⟨"SchematicText$LineForm", "<init>", "()V"⟩, "SchematicText"), ("SchematicText$LineForm", 3, ⟨"SchematicText$Form", "<init>", "()V"⟩, "SchematicText"), ("SchematicText", 21, ⟨"SchematicText$Source", "<init>", "()V"⟩, "SchematicText"), ("SchematicText", 28, ⟨"SchematicText$Page", "<init>", "()V"⟩, "SchematicText"), ("SchematicText", 35, ⟨"SchematicText$Tree", "<init>", "()V"⟩, "SchematicText"), ("SchematicText$Source", 29, ⟨"SchematicText", "isTextMark", "(I)Z"⟩, "SchematicText"), ("SchematicText$Source", 40, ⟨"SchematicText", "isSmallLetter", "(I)Z"⟩, "SchematicText"), ("SchematicText$Source", 101, ⟨"SchematicText", "isDigit", "(I)Z"⟩, "SchematicText"), ("SchematicText$Source", 117, ⟨"SchematicText", "needsEscape", "(I)Z"⟩, "SchematicText"), ("SchematicText$Page", 65, ⟨"SchematicText", "needsEscape", "(I)Z"⟩, "SchematicText"), ("SchematicText$Tree", 140, ⟨"SchematicText", "isTextMark", "(I)Z"⟩, "SchematicText")]
def nestD : List MethodName := [⟨"SchematicText$Form", "take", "(LSchematicText$Source;LSchematicText$Tree;)Z"⟩, ⟨"SchematicText$Form", "passGap", "(LSchematicText$Source;)Z"⟩, ⟨"SchematicText$Form", "tell", "(LSchematicText$Tree;LSchematicText$Page;)V"⟩]

def NW (U : State) : Prop := (∀ q ∈ nestF, va_Nw (.fieldLinkNest q.1 q.2.1 q.2.2.1 q.2.2.2.1 q.2.2.2.2.1 q.2.2.2.2.2) U) ∧ (∀ q ∈ nestM, va_Nw (.methodLinkNest q.1 q.2.1 q.2.2.1 q.2.2.2) U) ∧ ∀ x ∈ nestD, va_Nw (.declares x) U
theorem NW.warm {s U : State} (hW : s.WarmedH U.vm) (h : NW s) : NW U := ⟨fun q hq => va_Nw.warmF hW (h.1 q hq), fun q hq => va_Nw.warmM hW (h.2.1 q hq), fun x hx => va_Nw.warmD hW (h.2.2 x hx)⟩
theorem NW.same {s U : State} (hv : s.vm = U.vm) (h : NW s) : NW U := ⟨fun q hq => va_Nw.same rfl hv (h.1 q hq), fun q hq => va_Nw.same rfl hv (h.2.1 q hq), fun x hx => va_Nw.same rfl hv (h.2.2 x hx)⟩
/-- all that stands and is never written -/
def SH (G : Gx) (A : Nat → Prop) (U : State) (H : Heap) : Prop :=
  va_En "SchematicText$Field" "LSchematicText$Field;" nmF FF (gF G) A U H ∧ va_Ef 8 "SchematicText$Field" "lowest" "J" (fun i => .long (tbLow.getD i 0)) (gF G) A U H ∧ va_Ef 8 "SchematicText$Field" "highest" "J" (fun i => .long (tbHigh.getD i 0)) (gF G) A U H ∧ va_Ef 8 "SchematicText$Field" "made" "J" (fun i => .long (tbMade.getD i 0)) (gF G) A U H ∧
  va_En "SchematicText$Kind" "LSchematicText$Kind;" nmK FK (gK G) A U H ∧ va_Ef 10 "SchematicText$Kind" "title" "Ljava/lang/String;" (fun i => .ref (gS G (tbTitle.getD i 0))) (gK G) A U H ∧ va_Ef 10 "SchematicText$Kind" "shape" "Ljava/lang/String;" (fun i => .ref (gS G (tbShape.getD i 0))) (gK G) A U H ∧
  va_Z "SchematicText$Kind" "ALL" "[LSchematicText$Kind;" (.ref (gT G)) A U H ∧ va_T (.object "SchematicText$Kind") (gT G) 10 (fun i => .ref (gK G i)) A U H ∧ vk_S 18 tbLen tbByt (gS G) (gV G) A U H ∧ va_Z "java/lang/String" "COMPACT_STRINGS" "Z" (.int 1) A U H ∧ va_Zq "jdk/internal/util/Preconditions" "SIOOBE_FORMATTER" "Ljava/util/function/BiFunction;" A U H
def ST (G : Gx) (A : Nat → Prop) (U : State) (H : Heap) : Prop := SH G A U H ∧ NW U
theorem SH.moved {G : Gx} {A : Nat → Prop} {u U : State} {H : Heap} (hvm : u.vm.Alike U.vm) (h : SH G A u H) : SH G A U H := by
  obtain ⟨h1, h2, h3, h4, h5, h6, h7, h8, h9, h10, h11, h12⟩ := h
  exact ⟨h1.moved hvm, h2.moved hvm, h3.moved hvm, h4.moved hvm, h5.moved hvm, h6.moved hvm, h7.moved hvm, h8.moved hvm, h9.moved hvm, h10.moved hvm, h11.moved hvm, h12.moved hvm⟩
theorem SH.kept {G : Gx} {A : Nat → Prop} {U : State} {H H1 : Heap} (h : SH G A U H) (hq : ∀ a : Nat, a < H.size → ¬ A a → H1[a]? = H[a]?) : SH G A U H1 := by
  obtain ⟨h1, h2, h3, h4, h5, h6, h7, h8, h9, h10, h11, h12⟩ := h
  exact ⟨h1.kept hq, h2.kept hq, h3.kept hq, h4.kept hq, h5.kept hq, h6.kept hq, h7.kept hq, h8.kept hq, h9.kept hq, h10.kept hq, h11.kept hq, h12.kept hq⟩
theorem SH.narrow {G : Gx} {A B : Nat → Prop} {U : State} {H : Heap} (h : SH G A U H) (hAB : ∀ q, B q → A q) : SH G B U H := by
  obtain ⟨h1, h2, h3, h4, h5, h6, h7, h8, h9, h10, h11, h12⟩ := h
  exact ⟨h1.narrow hAB, h2.narrow hAB, h3.narrow hAB, h4.narrow hAB, h5.narrow hAB, h6.narrow hAB, h7.narrow hAB, h8.narrow hAB, h9.narrow hAB, h10.narrow hAB, h11.narrow hAB, h12.narrow hAB⟩
/-- a start of a method of the class: the world w, the arguments av -/
def pX (G : Gx) (w : va_W) (sz : Nat) (av : List Value) : Array Value → State → Prop :=
  va_Pc av (fun U => U.heap.size = sz ∧ va_P (gD G) vwCl w U.heap ∧ va_K (gD G) vwCl (tyG G) U ∧ va_D (fun _ => True) w ∧ ST G (va_A w sz) U U.heap)
theorem pX_blind {G : Gx} {w : va_W} {sz : Nat} {av : List Value} : FrameBlind (pX G w sz av) := by
  intro a U g mk q
  obtain ⟨q0, q1, qP, qK, qD, qS, qN⟩ := q
  exact ⟨q0, q1, qP, va_K.moved (u := U) (U := U.calling g mk a) (Vm.Alike.refl U.vm) qK, qD, qS.moved (U := U.calling g mk a) (Vm.Alike.refl U.vm), qN.same (U := U.calling g mk a) rfl⟩
theorem pl_at {w w0 : va_W} {isC : List Nat} (hC : isC.map (fun i => w[i]?) = w0.map some) {k : Nat} {q : Nat × va_E} (h : w0[k]? = some q) : ∃ i, isC[k]? = some i ∧ w[i]? = some q := by
  have h1 : (isC.map (fun i => w[i]?))[k]? = some (some q) := by rw [hC, List.getElem?_map, h]; rfl
  rw [List.getElem?_map] at h1
  cases hi : isC[k]? with
  | none => rw [hi] at h1; cases h1
  | some i => rw [hi] at h1; exact ⟨i, rfl, Option.some.inj h1⟩
theorem pl_P {D : va_G} {H : Heap} {w w0 : va_W} {isC : List Nat} (hP : va_P D vwCl w H) (hC : isC.map (fun i => w[i]?) = w0.map some) : va_P D vwCl w0 H := fun k q h => by
  obtain ⟨i, -, hi⟩ := pl_at hC h
  exact hP i q hi
section BX
variable {p : Program} {l : Launch} {e : Env} {R : Room} {s : State} {m : MethodId} {args : Array Value} {below : List Frame} {meth : Method} {c : Code} {H : Heap} {locs : List Loc} {cells slots : Nat} {Q : State → Prop}
variable {cc : ByteArray} {nL : Nat} {Ts : List Cond} {own : String} {pc : Nat} {ls : Array Slot} {rest st0 st1 : List Value} {G : Gx} {A : Nat → Prop} {w0 w1 w w' wr : va_W}
theorem preX {av : List Value} (hK : va_K (gD G) vwCl (tyG G) s) (hA : ∀ q : Nat, s.heap.size ≤ q → A q) (hP : va_P (gD G) vwCl w H) (hD : va_D A w) (hS : va_S A s.heap H locs) (hT : ST G A s s.heap) (isC : List Nat) (hnd : va_nd isC = true) (hC : isC.map (fun i => w[i]?) = w0.map some) :
    ∀ U : State, U.heap = H → s.WarmedH U.vm → pX G w0 H.size av av.toArray U := by
  intro U hU hW
  subst hU
  have hF := va_free hD hS hA isC hC
  exact ⟨rfl, rfl, pl_P hP hC, va_K.moved hW.alike hK, (hD.sub isC hnd hC).weaken (fun _ _ _ _ => trivial), ((hT.1.kept hS.2.1).narrow hF).moved hW.alike, hT.2.warm hW⟩
theorem mx_r {y : MethodName} {ws ws' : List Cond} {rm : Room} {maxL sz : Nat} {ret : Option FieldType} {av : List Value} {v : Value} (hy : plainName y.cls = true) (hw : ws = Cond.code y cc maxL ret :: ws') (hn : (lg_sl av).length ≤ maxL)
    (body : ∀ (p : Program) (e : Env) (s : State) (m : MethodId) (below : List Frame) (meth : Method) (c : Code) (ls : Array Slot) (A : Nat → Prop), Cx p s m av.toArray meth c cc maxL ws y.cls ret → lv_has ls maxL (lv_args 0 av) → va_K (gD G) vwCl (tyG G) s → (∀ q : Nat, s.heap.size ≤ q → A q) → ST G A s s.heap → va_P (gD G) vwCl w s.heap → va_D A w → va_S A s.heap s.heap [] →
      W p l e rm s m av.toArray below meth c s.heap [] 0 0 (MQ below (k2_QcV v) av.toArray s 0 0 (fun _ => False)) (F0 m 0 ls [])) : Met l y ws rm (pX G w sz av) (k2_QcV v) 0 0 (fun _ => False) := by
  refine Met.ofW (cc := cc) (maxL := maxL) (ret := ret) hy hw ?_
  intro p e s m args below meth c s₁ B hml hv
  obtain ⟨rfl, hsz, hP, hK, hD, hT⟩ := hv
  subst hsz
  rw [lg_entry_eq]
  exact body p e s m below meth c _ _ ⟨⟨B.exec, B.bytes, hml, findClass_of_methodNamed B.named, atoms_spec (ws := ws) B.pre⟩, B.returns, B.notSynchronized⟩ (lv_entry av hn) hK (fun q h => Or.inr h) hT hP hD.self va_S.rf
theorem mx_w {y : MethodName} {ws ws' : List Cond} {rm : Room} {maxL sz : Nat} {ret : Option FieldType} {av : List Value} {v : Option Value} (hy : plainName y.cls = true) (hw : ws = Cond.code y cc maxL ret :: ws') (hn : (lg_sl av).length ≤ maxL)
    (body : ∀ (p : Program) (e : Env) (s : State) (m : MethodId) (below : List Frame) (meth : Method) (c : Code) (ls : Array Slot) (A : Nat → Prop), Cx p s m av.toArray meth c cc maxL ws y.cls ret → lv_has ls maxL (lv_args 0 av) → va_K (gD G) vwCl (tyG G) s → (∀ q : Nat, s.heap.size ≤ q → A q) → ST G A s s.heap → va_P (gD G) vwCl w s.heap → va_D A w → va_S A s.heap s.heap [] →
      W p l e rm s m av.toArray below meth c s.heap [] 0 0 (MQ below (qW v w1 (gD G) (tyG G) A) av.toArray s 0 0 A) (F0 m 0 ls [])) : Met l y ws rm (pX G w sz av) (qW v w1 (gD G) (tyG G) (va_A w sz)) 0 0 (va_A w sz) := by
  refine Met.ofW (cc := cc) (maxL := maxL) (ret := ret) hy hw ?_
  intro p e s m args below meth c s₁ B hml hv
  obtain ⟨rfl, hsz, hP, hK, hD, hT⟩ := hv
  subst hsz
  rw [lg_entry_eq]
  exact body p e s m below meth c _ _ ⟨⟨B.exec, B.bytes, hml, findClass_of_methodNamed B.named, atoms_spec (ws := ws) B.pre⟩, B.returns, B.notSynchronized⟩ (lv_entry av hn) hK (fun q h => Or.inr h) hT hP hD.self va_S.rf
/-- an end with a reference -/
theorem rt_a {rt : FieldType} (C : Cx p s m args meth c cc nL Ts own (some rt)) (hrt : (∃ n, rt = .object n) ∨ ∃ t, rt = .array t) {q : Nat} (hdg : decode cc pc = .ok (.areturn, 1)) : W p l e R s m args below meth c s.heap [] 0 0 (MQ below (k2_QcV (.ref q)) args s 0 0 (fun _ => False)) (F0 m pc ls [.ref q]) :=
  W.aret C.1.1 C.1.2.1 C.2.1 hrt (Or.inr ⟨q, rfl⟩) (fun t ht _ => ⟨rfl, ht⟩) (fun q h => nomatch h) hdg C.2.2
section CX
variable {y x : MethodName} {bytes : ByteArray} {maxL n index : Nat} {ret : Option FieldType} {ws : List Cond} {rm : Room} {C0 owner host : String} {b : Addr} {As : List Value} {v : Value} {ov : Option Value} {ret0 : Option FieldType}
/-- behind a writer's call: the callee's cells, the rest, in the order of w' -/
theorem xw_go {a0 : Array Value} (hr : va_Run p l e R s m args below meth c H locs cells slots 0 0 (F0 m pc ls st0) rest (qW ov w1 (gD G) (tyG G) (va_A w0 H.size) a0) (va_A w0 H.size)) (hA : ∀ q : Nat, s.heap.size ≤ q → A q) (hP : va_P (gD G) vwCl w H) (hD : va_D A w) (hS : va_S A s.heap H locs)
    (isC isR is2 : List Nat) (hC : isC.map (fun i => w[i]?) = w0.map some) (hR : isR.map (fun i => w[i]?) = wr.map some) (hn : va_nd isR = true) (hdis : ∀ i ∈ isR, i ∉ isC) (hn2 : va_nd is2 = true) (h2 : is2.map (fun i => (wr ++ w1)[i]?) = w'.map some) (hst1 : ov.toList ++ rest = st1)
    (kk : ∀ (H1 : Heap) (locs1 : List Loc), va_P (gD G) vwCl w' H1 → va_D A w' → va_S A s.heap H1 locs1 → W p l e R s m args below meth c H1 locs1 cells slots Q (F0 m (pc + 3) ls st1)) : W p l e R s m args below meth c H locs cells slots Q (F0 m pc ls st0) := by
  subst hst1
  have hF := va_free hD hS hA isC hC
  intro T hT X
  obtain ⟨v9, st₀, t, T', L, h0, X', hL, e1, e2, ⟨hv, ⟨hp, -, hd⟩, hz, hk⟩, st⟩ := hr T hT X
  cases hv
  rw [h0] at hz hk
  obtain ⟨jP, jD⟩ := va_join (wr := wr) (w1 := w1) (H1 := t.heap) hP hD isC isR hC hR hn hdis (fun q h1 h2 => hk q h1 h2) hF hp hd
  obtain ⟨t2, a1, b1⟩ := kk T'.heap (locs ++ L) (by rw [e1]; exact pl_P jP h2) (jD.sub is2 hn2 h2)
    ⟨Nat.le_trans hS.1 (by rw [e1]; exact hz), fun q h1 h2 => by rw [e1, hk q (Nat.lt_of_lt_of_le h1 hS.1) (fun z => h2 (hF q z))]; exact hS.2.1 q h1 h2, fun q hq => by
      rcases List.mem_append.mp hq with h | h
      · exact hS.2.2 q h
      · exact hF _ (hL q h)⟩ T' rfl X'
  exact ⟨t2, st t2 a1, b1⟩
theorem xr_V (C : Cx p s m args meth c cc nL Ts own ret0) (hM : Met l y ws rm (pX G w0 H.size (.ref b :: As)) (k2_QcV v) 0 0 (fun _ => False)) (cw : CallW R s args own C0 index y bytes maxL ret ws rm 0 0 n) (hK : va_K (gD G) vwCl (tyG G) s) (hA : ∀ q : Nat, s.heap.size ≤ q → A q) (hT : ST G A s s.heap) (hP : va_P (gD G) vwCl w H) (hD : va_D A w) (hS : va_S A s.heap H locs)
    (hrec : ∃ cell : Cell, H[b]? = some cell ∧ cell.vm.isStatics = false ∧ s.vm.findClass C0 = some cell.cls) (isC : List Nat) (hnd : va_nd isC = true) (hC : isC.map (fun i => w[i]?) = w0.map some) (hn : As.length = n) (hsize : ls.size = nL) (hstack : st0 = As.reverse ++ .ref b :: rest) (hW : (rest.map fun v => v.category).sum ≤ 8) (hdg : decode cc pc = .ok (.invokevirtual index, 3))
    (kk : W p l e R s m args below meth c H locs 0 0 Q (F0 m (pc + 3) ls (v :: rest))) : W p l e R s m args below meth c H locs 0 0 Q (F0 m pc ls st0) :=
  W.callV (W.runV (g := F0 m pc ls st0) C.1 hM cw ⟨pX_blind, hrec, preX hK hA hP hD hS hT isC hnd hC⟩ rfl hn hsize hstack (lv_room hW) hdg ⟨Nat.zero_le _, Nat.zero_le _⟩) kk
theorem xw_V (C : Cx p s m args meth c cc nL Ts own ret0) (hM : Met l y ws rm (pX G w0 H.size (.ref b :: As)) (qW ov w1 (gD G) (tyG G) (va_A w0 H.size)) 0 0 (va_A w0 H.size)) (cw : CallW R s args own C0 index y bytes maxL ret ws rm 0 0 n) (hK : va_K (gD G) vwCl (tyG G) s) (hA : ∀ q : Nat, s.heap.size ≤ q → A q) (hT : ST G A s s.heap) (hP : va_P (gD G) vwCl w H) (hD : va_D A w) (hS : va_S A s.heap H locs)
    (hrec : ∃ cell : Cell, H[b]? = some cell ∧ cell.vm.isStatics = false ∧ s.vm.findClass C0 = some cell.cls) (isC isR is2 : List Nat) (hnd : va_nd isC = true) (hC : isC.map (fun i => w[i]?) = w0.map some) (hR : isR.map (fun i => w[i]?) = wr.map some) (hnR : va_nd isR = true) (hdis : ∀ i ∈ isR, i ∉ isC) (hn2 : va_nd is2 = true) (h2 : is2.map (fun i => (wr ++ w1)[i]?) = w'.map some) (hn : As.length = n) (hsize : ls.size = nL) (hstack : st0 = As.reverse ++ .ref b :: rest) (hst1 : ov.toList ++ rest = st1) (hW : (rest.map fun v => v.category).sum ≤ 8) (hdg : decode cc pc = .ok (.invokevirtual index, 3))
    (kk : ∀ (H1 : Heap) (locs1 : List Loc), va_P (gD G) vwCl w' H1 → va_D A w' → va_S A s.heap H1 locs1 → W p l e R s m args below meth c H1 locs1 0 0 Q (F0 m (pc + 3) ls st1)) : W p l e R s m args below meth c H locs 0 0 Q (F0 m pc ls st0) :=
  xw_go (va_runV (g := F0 m pc ls st0) C.1 hM cw ⟨pX_blind, hrec, preX hK hA hP hD hS hT isC hnd hC⟩ rfl hn hsize hstack (lv_room hW) hdg ⟨Nat.zero_le _, Nat.zero_le _⟩) hA hP hD hS isC isR is2 hC hR hnR hdis hn2 h2 hst1 kk
theorem xw_U (C : Cx p s m args meth c cc nL Ts own ret0) (hM : Met l y ws rm (pX G w0 H.size (.ref b :: As)) (qW ov w1 (gD G) (tyG G) (va_A w0 H.size)) 0 0 (va_A w0 H.size)) (cw : va_CU R s args own C0 owner index x y bytes maxL ret ws rm 0 0 n) (hK : va_K (gD G) vwCl (tyG G) s) (hA : ∀ q : Nat, s.heap.size ≤ q → A q) (hT : ST G A s s.heap) (hP : va_P (gD G) vwCl w H) (hD : va_D A w) (hS : va_S A s.heap H locs)
    (hrec : ∃ cell : Cell, H[b]? = some cell ∧ cell.vm.isStatics = false ∧ s.vm.findClass C0 = some cell.cls) (isC isR is2 : List Nat) (hnd : va_nd isC = true) (hC : isC.map (fun i => w[i]?) = w0.map some) (hR : isR.map (fun i => w[i]?) = wr.map some) (hnR : va_nd isR = true) (hdis : ∀ i ∈ isR, i ∉ isC) (hn2 : va_nd is2 = true) (h2 : is2.map (fun i => (wr ++ w1)[i]?) = w'.map some) (hn : As.length = n) (hsize : ls.size = nL) (hstack : st0 = As.reverse ++ .ref b :: rest) (hst1 : ov.toList ++ rest = st1) (hW : (rest.map fun v => v.category).sum ≤ 8) (hdg : decode cc pc = .ok (.invokevirtual index, 3))
    (kk : ∀ (H1 : Heap) (locs1 : List Loc), va_P (gD G) vwCl w' H1 → va_D A w' → va_S A s.heap H1 locs1 → W p l e R s m args below meth c H1 locs1 0 0 Q (F0 m (pc + 3) ls st1)) : W p l e R s m args below meth c H locs 0 0 Q (F0 m pc ls st0) :=
  xw_go (va_runU (g := F0 m pc ls st0) C.1 hM cw ⟨pX_blind, hrec, preX hK hA hP hD hS hT isC hnd hC⟩ rfl hn hsize hstack (lv_room hW) hdg ⟨Nat.zero_le _, Nat.zero_le _⟩) hA hP hD hS isC isR is2 hC hR hnR hdis hn2 h2 hst1 kk
/-- a static method: no cell of the world is its own -/
theorem xr_S (C : Cx p s m args meth c cc nL Ts own ret0) (hM : Met l y ws rm (pX G [] H.size As) (k2_QcV v) 0 0 (fun _ => False)) (cw : CallB R s args own index y bytes maxL ret ws rm 0 0 n ∧ (Cond.static y).before args s = true) (hK : va_K (gD G) vwCl (tyG G) s) (hA : ∀ q : Nat, s.heap.size ≤ q → A q) (hT : ST G A s s.heap) (hP : va_P (gD G) vwCl w H) (hD : va_D A w) (hS : va_S A s.heap H locs)
    (hn : As.length = n) (hsize : ls.size = nL) (hstack : st0 = As.reverse ++ rest) (hW : (rest.map fun v => v.category).sum ≤ 8) (hdg : decode cc pc = .ok (.invokestatic index, 3))
    (kk : W p l e R s m args below meth c H locs 0 0 Q (F0 m (pc + 3) ls (v :: rest))) : W p l e R s m args below meth c H locs 0 0 Q (F0 m pc ls st0) :=
  W.callV (W.runS (g := F0 m pc ls st0) C.1 hM cw ⟨pX_blind, preX (w0 := []) hK hA hP hD hS hT [] rfl rfl⟩ rfl hn hsize hstack (lv_room hW) hdg ⟨Nat.zero_le _, Nat.zero_le _⟩) kk
theorem xr_SN (C : Cx p s m args meth c cc nL Ts own ret0) (hM : Met l y ws rm (pX G [] H.size As) (k2_QcV v) 0 0 (fun _ => False)) (cw : va_CN R s args own index y host bytes maxL ret ws rm 0 0 n ∧ (Cond.static y).before args s = true ∧ True) (hK : va_K (gD G) vwCl (tyG G) s) (hA : ∀ q : Nat, s.heap.size ≤ q → A q) (hT : ST G A s s.heap) (hP : va_P (gD G) vwCl w H) (hD : va_D A w) (hS : va_S A s.heap H locs)
    (hn : As.length = n) (hsize : ls.size = nL) (hstack : st0 = As.reverse ++ rest) (hW : (rest.map fun v => v.category).sum ≤ 8) (hdg : decode cc pc = .ok (.invokestatic index, 3))
    (kk : W p l e R s m args below meth c H locs 0 0 Q (F0 m (pc + 3) ls (v :: rest))) : W p l e R s m args below meth c H locs 0 0 Q (F0 m pc ls st0) :=
  W.callV ((va_runSN (g := F0 m pc ls st0) C.1 hM cw ⟨pX_blind, preX (w0 := []) hK hA hP hD hS hT [] rfl rfl⟩ rfl hn hsize hstack (lv_room hW) hdg ⟨Nat.zero_le _, Nat.zero_le _⟩).run) kk
end CX
-- reads and writes of cells of the world
section CE
variable {index k q0 t0 ci : Nat} {b : Nat} {fs : List Value} {v : Value} {ret : Option FieldType}
theorem xg (C : Cx p s m args meth c cc nL Ts own ret) {K : String} {T : u_T} {N : Nat} (hin : ∀ w ∈ u_ws K T N, w ∈ Ts) (hK : va_K (gD G) vwCl (tyG G) s) (hP : va_P (gD G) vwCl w H) (q0 : Nat) (he : w[q0]? = some (b, .inr (ci, fs))) (hc : vwCl[ci]? = some (K, T, N)) (k : Nat) (hk : k < N) (hself : (T k).1 = K) (hlink : (Cond.fieldLink own index K (T k).2.1 (T k).2.2.1).before args s = true) (hv : fs[k]? = some v) (hdg : decode cc pc = .ok (.getfield index, 3))
    (kk : W p l e R s m args below meth c H locs cells slots Q (F0 m (pc + 3) ls (v :: rest))) : W p l e R s m args below meth c H locs cells slots Q (F0 m pc ls (.ref b :: rest)) :=
  va_get (D := gD G) (ci := ci) (v := v) (C := K) (T := T) (N := N) C.1.1 C.1.2.1 C.1.2.2.2.2 hin C.1.2.2.2.1 hK hP q0 he hc k hk hlink (fun x h => by rw [hself] at h; exact h) hv hdg kk
theorem xgN (C : Cx p s m args meth c cc nL Ts own ret) (hT : ST G A s s.heap) {K host : String} {T : u_T} {N : Nat} (hin : ∀ w ∈ u_ws K T N, w ∈ Ts) (hK : va_K (gD G) vwCl (tyG G) s) (hP : va_P (gD G) vwCl w H) (q0 : Nat) (he : w[q0]? = some (b, .inr (ci, fs))) (hc : vwCl[ci]? = some (K, T, N)) (k : Nat) (hk : k < N) (hself : (T k).1 = K) (hlink : (own, index, K, (T k).2.1, (T k).2.2.1, host) ∈ nestF) (hv : fs[k]? = some v) (hdg : decode cc pc = .ok (.getfield index, 3))
    (kk : W p l e R s m args below meth c H locs cells slots Q (F0 m (pc + 3) ls (v :: rest))) : W p l e R s m args below meth c H locs cells slots Q (F0 m pc ls (.ref b :: rest)) :=
  va_getN (D := gD G) (ci := ci) (v := v) (C := K) (T := T) (N := N) C.1.1 C.1.2.1 C.1.2.2.2.2 hin C.1.2.2.2.1 hK hP q0 he hc k hk (va_Nw.use rfl (hT.2.1 _ hlink)) (fun x h => by rw [hself] at h; exact h) hv hdg kk
theorem xp (C : Cx p s m args meth c cc nL Ts own ret) {K : String} {T : u_T} {N : Nat} (hin : ∀ w ∈ u_ws K T N, w ∈ Ts) (ty0 : Nat → FieldType) (hty : ∀ k, k < N → parseFieldDescriptor (T k).2.2.1 = some (ty0 k)) (hnm : ∀ a, a < N → ∀ b, b < N → a ≠ b → (T a).2.1 ≠ (T b).2.1) (hK : va_K (gD G) vwCl (tyG G) s) (hP : va_P (gD G) vwCl w H) (hD : va_D A w) (hS : va_S A s.heap H locs) (q0 : Nat) (he : w[q0]? = some (b, .inr (ci, fs))) (hc : vwCl[ci]? = some (K, T, N)) (k : Nat) (hk : k < N) (hself : (T k).1 = K) (hlink : (Cond.fieldLink own index K (T k).2.1 (T k).2.2.1).before args s = true) (hfin : (T k).2.2.2 = false) {ty : FieldType} (hd : ty0 k = ty) (hn : narrow ty v = v) (hfit : fits ty v = true) (hl : k < fs.length) (hdg : decode cc pc = .ok (.putfield index, 3)) (hw : w.set q0 (b, .inr (ci, fs.set k v)) = w')
    (kk : ∀ (H1 : Heap) (locs1 : List Loc), va_P (gD G) vwCl w' H1 → va_D A w' → va_S A s.heap H1 locs1 → W p l e R s m args below meth c H1 locs1 cells slots Q (F0 m (pc + 3) ls rest)) : W p l e R s m args below meth c H locs cells slots Q (F0 m pc ls (v :: .ref b :: rest)) := by
  subst hw
  exact va_put (D := gD G) (ci := ci) (v := v) (ty := ty) (C := K) (T := T) (N := N) C.1.1 C.1.2.1 C.1.2.2.2.2 hin ty0 hty hnm C.1.2.2.2.1 hK hP hD hS q0 he hc k hk hlink (fun x h => by rw [hself] at h; exact h) hfin (by rw [← hd]; exact hty k hk) hn hfit hl hdg kk
theorem xpN (C : Cx p s m args meth c cc nL Ts own ret) (hT : ST G A s s.heap) {K host : String} {T : u_T} {N : Nat} (hin : ∀ w ∈ u_ws K T N, w ∈ Ts) (ty0 : Nat → FieldType) (hty : ∀ k, k < N → parseFieldDescriptor (T k).2.2.1 = some (ty0 k)) (hnm : ∀ a, a < N → ∀ b, b < N → a ≠ b → (T a).2.1 ≠ (T b).2.1) (hK : va_K (gD G) vwCl (tyG G) s) (hP : va_P (gD G) vwCl w H) (hD : va_D A w) (hS : va_S A s.heap H locs) (q0 : Nat) (he : w[q0]? = some (b, .inr (ci, fs))) (hc : vwCl[ci]? = some (K, T, N)) (k : Nat) (hk : k < N) (hself : (T k).1 = K) (hlink : (own, index, K, (T k).2.1, (T k).2.2.1, host) ∈ nestF) (hfin : (T k).2.2.2 = false) {ty : FieldType} (hd : ty0 k = ty) (hn : narrow ty v = v) (hfit : fits ty v = true) (hl : k < fs.length) (hdg : decode cc pc = .ok (.putfield index, 3)) (hw : w.set q0 (b, .inr (ci, fs.set k v)) = w')
    (kk : ∀ (H1 : Heap) (locs1 : List Loc), va_P (gD G) vwCl w' H1 → va_D A w' → va_S A s.heap H1 locs1 → W p l e R s m args below meth c H1 locs1 cells slots Q (F0 m (pc + 3) ls rest)) : W p l e R s m args below meth c H locs cells slots Q (F0 m pc ls (v :: .ref b :: rest)) := by
  subst hw
  exact va_putN (D := gD G) (ci := ci) (v := v) (ty := ty) (C := K) (T := T) (N := N) C.1.1 C.1.2.1 C.1.2.2.2.2 hin ty0 hty hnm C.1.2.2.2.1 hK hP hD hS q0 he hc k hk (va_Nw.use rfl (hT.2.1 _ hlink)) (fun x h => by rw [hself] at h; exact h) hfin (by rw [← hd]; exact hty k hk) hn hfit hl hdg kk
theorem xsi (C : Cx p s m args meth c cc nL Ts own ret) (hK : va_K (gD G) vwCl (tyG G) s) (hP : va_P (gD G) vwCl w H) (hD : va_D A w) (hS : va_S A s.heap H locs) (q0 : Nat) {n : Nat} {f : Nat → Int32} (ha : w[q0]? = some (b, .inl (gI G, n, .inl f))) {i x : Int32} (hi : vp_in i n) (hdg : decode cc pc = .ok (.iastore, 1)) (hw : w.set q0 (b, .inl (gI G, n, .inl (upd f i.toNatClampNeg x))) = w')
    (kk : ∀ (H1 : Heap) (locs1 : List Loc), va_P (gD G) vwCl w' H1 → va_D A w' → va_S A s.heap H1 locs1 → W p l e R s m args below meth c H1 locs1 cells slots Q (F0 m (pc + 1) ls rest)) : W p l e R s m args below meth c H locs cells slots Q (F0 m pc ls (.int x :: .int i :: .ref b :: rest)) := by
  subst hw
  exact va_iast C.1.1 C.1.2.1 hK hP hD hS q0 0 ha rfl hi hdg kk
theorem xsl (C : Cx p s m args meth c cc nL Ts own ret) (hK : va_K (gD G) vwCl (tyG G) s) (hP : va_P (gD G) vwCl w H) (hD : va_D A w) (hS : va_S A s.heap H locs) (q0 : Nat) {n : Nat} {f : Nat → Int64} (ha : w[q0]? = some (b, .inl (gJ G, n, .inr (.inl f)))) {i : Int32} {x : Int64} (hi : vp_in i n) (hdg : decode cc pc = .ok (.lastore, 1)) (hw : w.set q0 (b, .inl (gJ G, n, .inr (.inl (vp_updL f i.toNatClampNeg x)))) = w')
    (kk : ∀ (H1 : Heap) (locs1 : List Loc), va_P (gD G) vwCl w' H1 → va_D A w' → va_S A s.heap H1 locs1 → W p l e R s m args below meth c H1 locs1 cells slots Q (F0 m (pc + 1) ls rest)) : W p l e R s m args below meth c H locs cells slots Q (F0 m pc ls (.long x :: .int i :: .ref b :: rest)) := by
  subst hw
  exact va_last C.1.1 C.1.2.1 hK hP hD hS q0 1 ha rfl hi hdg kk
theorem xsc (C : Cx p s m args meth c cc nL Ts own ret) (hK : va_K (gD G) vwCl (tyG G) s) (hP : va_P (gD G) vwCl w H) (hD : va_D A w) (hS : va_S A s.heap H locs) (q0 : Nat) {n : Nat} {f : Nat → Int32} (ha : w[q0]? = some (b, .inl (gC G, n, .inl f))) {i x : Int32} (hi : vp_in i n) (hdg : decode cc pc = .ok (.castore, 1)) (hw : w.set q0 (b, .inl (gC G, n, .inl (upd f i.toNatClampNeg (vp_nar .char x)))) = w')
    (kk : ∀ (H1 : Heap) (locs1 : List Loc), va_P (gD G) vwCl w' H1 → va_D A w' → va_S A s.heap H1 locs1 → W p l e R s m args below meth c H1 locs1 cells slots Q (F0 m (pc + 1) ls rest)) : W p l e R s m args below meth c H locs cells slots Q (F0 m pc ls (.int x :: .int i :: .ref b :: rest)) := by
  subst hw
  exact va_cast C.1.1 C.1.2.1 hK hP hD hS q0 2 ha rfl hi hdg kk
-- the constants
theorem xK {i : Fin 10} (C : Cx p s m args meth c cc nL Ts own ret) (hT : ST G A s s.heap) (hS : va_S A s.heap H locs) (hlink : (Cond.fieldLink own index "SchematicText$Kind" (nmK.getD i.val "") "LSchematicText$Kind;").before args s = true) (hdg : decode cc pc = .ok (.getstatic index, 3))
    (kk : W p l e R s m args below meth c H locs cells slots Q (F0 m (pc + 3) ls (.ref (gK G i.val) :: rest))) : W p l e R s m args below meth c H locs cells slots Q (F0 m pc ls rest) :=
  va_gets C.1.1 C.1.2.1 (hT.1.2.2.2.2.1.1 i.val i.isLt).1 hS C.1.2.2.2.1 hlink (fun _ h => h) hdg kk
theorem xF {i : Fin 8} (C : Cx p s m args meth c cc nL Ts own ret) (hT : ST G A s s.heap) (hS : va_S A s.heap H locs) (hlink : (Cond.fieldLink own index "SchematicText$Field" (nmF.getD i.val "") "LSchematicText$Field;").before args s = true) (hdg : decode cc pc = .ok (.getstatic index, 3))
    (kk : W p l e R s m args below meth c H locs cells slots Q (F0 m (pc + 3) ls (.ref (gF G i.val) :: rest))) : W p l e R s m args below meth c H locs cells slots Q (F0 m pc ls rest) :=
  va_gets C.1.1 C.1.2.1 (hT.1.1.1 i.val i.isLt).1 hS C.1.2.2.2.1 hlink (fun _ h => h) hdg kk
/-- a field of a constant: OF tells what it holds; by a link of the class's own, or of the nest -/
theorem xo {o n d : String} {q : Nat} (C : Cx p s m args meth c cc nL Ts own ret) (hE : va_OF o n d v q A s s.heap) (hS : va_S A s.heap H locs) (hlink : (Cond.fieldLink own index o n d).before args s = true) (hdg : decode cc pc = .ok (.getfield index, 3))
    (kk : W p l e R s m args below meth c H locs cells slots Q (F0 m (pc + 3) ls (v :: rest))) : W p l e R s m args below meth c H locs cells slots Q (F0 m pc ls (.ref q :: rest)) :=
  vk_getf C.1.1 C.1.2.1 hE hS C.1.2.2.2.1 hlink (fun _ h => h) hdg kk
theorem xoN {o n d host : String} {q : Nat} (C : Cx p s m args meth c cc nL Ts own ret) (hT : ST G A s s.heap) (hE : va_OF o n d v q A s s.heap) (hS : va_S A s.heap H locs) (hlink : (own, index, o, n, d, host) ∈ nestF) (hdg : decode cc pc = .ok (.getfield index, 3))
    (kk : W p l e R s m args below meth c H locs cells slots Q (F0 m (pc + 3) ls (v :: rest))) : W p l e R s m args below meth c H locs cells slots Q (F0 m pc ls (.ref q :: rest)) := by
  obtain ⟨cf, k, fi, f, cell, h1, h2, h3, h4, h5, h6⟩ := hE.kept hS.2.1
  exact va_Wgetf C.1.1 C.1.2.1 C.1.2.2.2.1 (va_Nw.use rfl (hT.2.1 _ hlink)) h1 h2 h3 h4 (v := v) h5 rfl rfl hdg kk
theorem xa_eq {i j : Fin 10} {off : Int} {tgt : Nat} (C : Cx p s m args meth c cc nL Ts own ret) (hT : ST G A s s.heap) (hdg : decode cc pc = .ok (.if_acmp .eq off, 3)) (ht : (pc : Int) + off = (tgt : Int))
    (kt : i = j → W p l e R s m args below meth c H locs cells slots Q (F0 m tgt ls rest)) (kf : ¬ i = j → W p l e R s m args below meth c H locs cells slots Q (F0 m (pc + 3) ls rest)) : W p l e R s m args below meth c H locs cells slots Q (F0 m pc ls (.ref (gK G j.val) :: .ref (gK G i.val) :: rest)) :=
  lv_acmp_eq (rx := some (gK G i.val)) (ry := some (gK G j.val)) C.1.1 C.1.2.1 hdg ht (fun h => kt (Fin.ext (hT.1.2.2.2.2.1.2 i.val j.val i.isLt j.isLt (Option.some.inj h)))) (fun h => kf (fun e9 => h (by rw [e9])))
theorem xa_ne {i j : Fin 10} {off : Int} {tgt : Nat} (C : Cx p s m args meth c cc nL Ts own ret) (hT : ST G A s s.heap) (hdg : decode cc pc = .ok (.if_acmp .ne off, 3)) (ht : (pc : Int) + off = (tgt : Int))
    (kt : ¬ i = j → W p l e R s m args below meth c H locs cells slots Q (F0 m tgt ls rest)) (kf : i = j → W p l e R s m args below meth c H locs cells slots Q (F0 m (pc + 3) ls rest)) : W p l e R s m args below meth c H locs cells slots Q (F0 m pc ls (.ref (gK G j.val) :: .ref (gK G i.val) :: rest)) :=
  lv_acmp_ne (rx := some (gK G i.val)) (ry := some (gK G j.val)) C.1.1 C.1.2.1 hdg ht (fun h => kt (fun e9 => h (by rw [e9]))) (fun h => kf (Fin.ext (hT.1.2.2.2.2.1.2 i.val j.val i.isLt j.isLt (Option.some.inj h))))
theorem xALL (C : Cx p s m args meth c cc nL Ts own ret) (hT : ST G A s s.heap) (hS : va_S A s.heap H locs) (hlink : (Cond.fieldLink own index "SchematicText$Kind" "ALL" "[LSchematicText$Kind;").before args s = true) (hdg : decode cc pc = .ok (.getstatic index, 3))
    (kk : W p l e R s m args below meth c H locs cells slots Q (F0 m (pc + 3) ls (.ref (gT G) :: rest))) : W p l e R s m args below meth c H locs cells slots Q (F0 m pc ls rest) :=
  va_gets C.1.1 C.1.2.1 hT.1.2.2.2.2.2.2.2.1 hS C.1.2.2.2.1 hlink (fun _ h => h) hdg kk
theorem xALLN {host : String} (C : Cx p s m args meth c cc nL Ts own ret) (hT : ST G A s s.heap) (hS : va_S A s.heap H locs) (hlink : (own, index, "SchematicText$Kind", "ALL", "[LSchematicText$Kind;", host) ∈ nestF) (hdg : decode cc pc = .ok (.getstatic index, 3))
    (kk : W p l e R s m args below meth c H locs cells slots Q (F0 m (pc + 3) ls (.ref (gT G) :: rest))) : W p l e R s m args below meth c H locs cells slots Q (F0 m pc ls rest) :=
  va_getsN C.1.1 C.1.2.1 hT.1.2.2.2.2.2.2.2.1 hS C.1.2.2.2.1 (va_Nw.use rfl (hT.2.1 _ hlink)) (fun _ h => h) hdg kk
theorem xtl (C : Cx p s m args meth c cc nL Ts own ret) (hT : ST G A s s.heap) (hS : va_S A s.heap H locs) (hdg : decode cc pc = .ok (.arraylength, 1))
    (kk : W p l e R s m args below meth c H locs cells slots Q (F0 m (pc + 1) ls (.int (10 : Int32) :: rest))) : W p l e R s m args below meth c H locs cells slots Q (F0 m pc ls (.ref (gT G) :: rest)) :=
  va_tlen C.1.1 C.1.2.1 hT.1.2.2.2.2.2.2.2.2.1 hS rfl hdg kk
def fk10 (i : Int32) : Fin 10 := Fin.ofNat 10 i.toNatClampNeg
theorem xta (C : Cx p s m args meth c cc nL Ts own ret) (hT : ST G A s s.heap) (hS : va_S A s.heap H locs) {i : Int32} (hi : vp_in i 10) (hdg : decode cc pc = .ok (.aaload, 1))
    (kk : W p l e R s m args below meth c H locs cells slots Q (F0 m (pc + 1) ls (.ref (gK G (fk10 i).val) :: rest))) : W p l e R s m args below meth c H locs cells slots Q (F0 m pc ls (.int i :: .ref (gT G) :: rest)) :=
  vb_tq C.1.1 C.1.2.1 hT.1.2.2.2.2.2.2.2.2.1 hS hi (v := .ref (gK G (fk10 i).val)) (by
    have hlt : i.toNatClampNeg < 10 := Nat.not_le.mp fun q => hi (Or.inr q)
    have h9 : (fk10 i).val = i.toNatClampNeg := Nat.mod_eq_of_lt hlt
    rw [h9]) hdg kk
end CE
end BX
