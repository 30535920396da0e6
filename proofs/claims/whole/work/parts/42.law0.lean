/-! THE LAW: the pure step that it takes, and the walk of each of its cases -/
abbrev StL : Type := Md × Md × Md × Md × Md × Md
abbrev iN (n : Nat) : Int32 := Int32.ofNat (1 + 5 * n)
theorem lg_self (x : Int64) : lg_cmp x x = 0 := by simp [lg_cmp]
theorem iN_at {n j L : Nat} (hj : j ≤ 4) (hn : 6 + 5 * n ≤ L) (hL : L ≤ 2561) : (iN n + Int32.ofNat j).toInt = ((1 + 5 * n + j : Nat) : Int) := by
  rw [← Int32.ofNat_add]
  exact Int32.toInt_ofNat_of_lt (by omega)
theorem iN_in {n j L : Nat} (hj : j ≤ 4) (hn : 6 + 5 * n ≤ L) (hL : L ≤ 2561) : vp_in (iN n + Int32.ofNat j) L ∧ (iN n + Int32.ofNat j).toNatClampNeg = 1 + 5 * n + j := by
  have h := iN_at hj hn hL
  have h2 : (iN n + Int32.ofNat j).toNatClampNeg = 1 + 5 * n + j := by
    show (iN n + Int32.ofNat j).toInt.toNat = _
    rw [h]; rfl
  refine ⟨fun hc => ?_, h2⟩
  rcases hc with hc | hc
  · have h3 := Int32.lt_iff_toInt_lt.mp hc
    rw [h] at h3
    exact absurd h3 (by show ¬ (((1 + 5 * n + j : Nat) : Int) < 0); omega)
  · rw [h2] at hc; omega
theorem iN_gt {n L : Nat} (hn : n ≤ 600) (hL : L ≤ 2561) : (Int32.ofNat L - 5 < iN n) ↔ L < 6 + 5 * n := by
  rw [Int32.lt_iff_toInt_lt]
  have h1 : (iN n).toInt = ((1 + 5 * n : Nat) : Int) := Int32.toInt_ofNat_of_lt (by omega)
  have h2 : (Int32.ofNat L).toInt = (L : Int) := Int32.toInt_ofNat_of_lt (by omega)
  have h3 : (Int32.ofNat L - 5).toInt = (L : Int) - 5 := by
    rw [Int32.toInt_sub, h2]
    show Int.bmod ((L : Int) - 5) (2 ^ 32) = _
    exact Int.bmod_eq_of_le (by omega) (by omega)
  rw [h1, h3]
  omega
theorem iN_next (n : Nat) : iN n + Int32.ofInt 5 = iN (n + 1) := by
  show Int32.ofNat (1 + 5 * n) + Int32.ofNat 5 = Int32.ofNat (1 + 5 * (n + 1))
  rw [← Int32.ofNat_add]
  exact congrArg Int32.ofNat (by omega)
theorem and15 (a : Int32) : ∃ k : Nat, k < 16 ∧ a &&& 15 = Int32.ofNat k := by
  refine ⟨(a &&& 15).toBitVec.toNat, ?_, ?_⟩
  · have h1 : (a &&& 15).toBitVec = a.toBitVec &&& 15#32 := rfl
    rw [h1, BitVec.toNat_and]
    exact Nat.lt_of_le_of_lt Nat.and_le_right (by decide)
  · apply Int32.toBitVec_inj.mp
    rw [Int32.toBitVec_ofNat']
    exact BitVec.eq_of_toNat_eq (by rw [BitVec.toNat_ofNat, Nat.mod_eq_of_lt (BitVec.isLt _)])
def wLaw (ci : Nat) (G : Gx) (bX bF bS bT bV bP a : Nat → Nat) (o : Nat) (fo : Nat → Int64) (uX uS uT uV uP u : Md) : va_W := c8 ci G bX bF bS bT bV bP (bT 0) (bV 0) uX uS uT uV uP ++ (cM (gI G) (gJ G) a u ++ oL G o fo)
section LW0
variable {p : Program} {l : Launch} {e : Env} {R : Room} {s : State} {m : MethodId} {args : Array Value} {below : List Frame} {meth : Method} {c : Code} {H : Heap} {locs : List Loc} {cells slots : Nat} {Q : State → Prop}
variable {cc : ByteArray} {nL : Nat} {own : String} {pc : Nat} {ls : Array Slot} {rest st0 st1 : List Value} {G : Gx} {A : Nat → Prop} {w0 w1 w wr w' : va_W} {ret0 : Option FieldType}
variable {y : MethodName} {bytes : ByteArray} {maxL n index : Nat} {ret : Option FieldType} {ws Ts : List Cond} {rm : Room} {C0 : String} {b : Addr} {As : List Value} {ov : Option Value} {v : Value}
theorem sld {L j n : Nat} {xs : Nat → Int32} {i : Int32} (hx : p.tables.exec = Jvm.exec) (hb : c.code = cc) (hX : va_X b L xs s s.heap) (hbl : b < s.heap.size) (hbA : ¬ A b) (hS : va_S A s.heap H locs) (hi : i = iN n + Int32.ofNat j) (hj : j ≤ 4) (hn : 6 + 5 * n ≤ L) (hL : L ≤ 2561) (hdg : decode cc pc = .ok (.iaload, 1))
    (kk : W p l e R s m args below meth c H locs cells slots Q (F0 m (pc + 1) ls (.int (xs (1 + 5 * n + j)) :: rest))) : W p l e R s m args below meth c H locs cells slots Q (F0 m pc ls (.int i :: .ref b :: rest)) := by
  subst hi
  obtain ⟨h1, h2⟩ := iN_in hj hn hL
  refine va_sld hx hb hX hbl hbA hS h1 hdg ?_
  rw [h2]
  exact kk
theorem pre9 {av : List Value} (hK : va_K (gD G) vwCl (tyG G) s) (hP : va_P (gD G) vwCl w H) (hD : va_D A w) (isC : List Nat) (hnd : va_nd isC = true) (hC : isC.map (fun i => w[i]?) = w0.map some) :
    ∀ U : State, U.heap = H → s.WarmedH U.vm → pW (gD G) (tyG G) w0 H.size av av.toArray U := by
  intro U hU hW
  subst hU
  exact ⟨rfl, rfl, pl_P hP hC, va_K.moved hW.alike hK, (hD.sub isC hnd hC).weaken (fun _ _ _ _ => trivial)⟩
theorem xw_go2 {mc ms : Nat} {a0 : Array Value} (hr : va_Run p l e R s m args below meth c H locs cells slots mc ms (F0 m pc ls st0) rest (qW ov w1 (gD G) (tyG G) (va_A w0 H.size) a0) (va_A w0 H.size)) (hA : ∀ q : Nat, s.heap.size ≤ q → A q) (hP : va_P (gD G) vwCl w H) (hD : va_D A w) (hS : va_S A s.heap H locs)
    (isC isR is2 : List Nat) (hC : isC.map (fun i => w[i]?) = w0.map some) (hR : isR.map (fun i => w[i]?) = wr.map some) (hn : va_nd isR = true) (hdis : ∀ i ∈ isR, i ∉ isC) (hn2 : va_nd is2 = true) (h2 : is2.map (fun i => (wr ++ w1)[i]?) = w'.map some) (hst1 : ov.toList ++ rest = st1)
    (kk : ∀ (H1 : Heap) (locs1 : List Loc), va_P (gD G) vwCl w' H1 → va_D A w' → va_S A s.heap H1 locs1 → W p l e R s m args below meth c H1 locs1 (cells + mc) (slots + ms) Q (F0 m (pc + 3) ls st1)) : W p l e R s m args below meth c H locs cells slots Q (F0 m pc ls st0) := by
  subst hst1
  have hF := va_free hD hS hA isC hC
  intro T hT X
  obtain ⟨v9, st₀, t, T', L, h0, X', hL, e1, e2, ⟨hv, ⟨hp, -, hd⟩, hz, hk⟩, st⟩ := hr T hT X
  cases hv
  rw [h0] at hz hk
  obtain ⟨jP, jD⟩ := va_join (wr := wr) (w1 := w1) (H1 := t.heap) hP hD isC isR hC hR hn hdis (fun q h1 h2 => hk q h1 h2) hF hp hd
  obtain ⟨t2, a1, b1⟩ := kk T'.heap (locs ++ L) (by rw [e1]; exact pl_P jP h2) (jD.sub is2 hn2 h2)
    ⟨Nat.le_trans hS.1 (by rw [e1]; exact hz), fun q h1 h2 => by rw [e1, hk q (Nat.lt_of_lt_of_le h1 hS.1) (fun z => h2 (hF q z))]; exact hS.2.1 q h1 h2, fun q hq => by
      rcases List.mem_append.mp hq with h | h
      · exact hS.2.2 q h
      · exact hF _ (hL q h)⟩ T' rfl X'
  exact ⟨t2, st t2 a1, b1⟩
theorem yr8 (C : Cx p s m args meth c cc nL Ts own ret0) (hM : Met l y ws rm (pX8 G w0 H.size (.ref b :: As)) (k2_QcV v) 0 0 (fun _ => False)) (cwv : CallW R s args own C0 index y bytes maxL ret ws rm 0 0 n) (hK : va_K (gD G) vwCl (tyG G) s) (hA : ∀ q : Nat, s.heap.size ≤ q → A q) (hT : ST8 G A s s.heap) (hP : va_P (gD G) vwCl w H) (hD : va_D A w) (hS : va_S A s.heap H locs)
    (hrec : ∃ cell : Cell, H[b]? = some cell ∧ cell.vm.isStatics = false ∧ s.vm.findClass C0 = some cell.cls) (isC : List Nat) (hnd : va_nd isC = true) (hC : isC.map (fun i => w[i]?) = w0.map some) (hn : As.length = n) (hsize : ls.size = nL) (hstack : st0 = As.reverse ++ .ref b :: rest) (hW : (rest.map fun v => v.category).sum ≤ 8) (hdg : decode cc pc = .ok (.invokevirtual index, 3)) (hcs : cells ≤ R.cells ∧ slots ≤ R.slots)
    (kk : W p l e R s m args below meth c H locs cells slots Q (F0 m (pc + 3) ls (v :: rest))) : W p l e R s m args below meth c H locs cells slots Q (F0 m pc ls st0) :=
  W.callV (W.runV (g := F0 m pc ls st0) C.1 hM cwv ⟨pX8_blind, hrec, pre8 hK hA hP hD hS hT isC hnd hC⟩ rfl hn hsize hstack (lv_room hW) hdg hcs) kk
theorem yw8 (C : Cx p s m args meth c cc nL Ts own ret0) (hM : Met l y ws rm (pX8 G w0 H.size (.ref b :: As)) (qW ov w1 (gD G) (tyG G) (va_A w0 H.size)) 0 0 (va_A w0 H.size)) (cwv : CallW R s args own C0 index y bytes maxL ret ws rm 0 0 n) (hK : va_K (gD G) vwCl (tyG G) s) (hA : ∀ q : Nat, s.heap.size ≤ q → A q) (hT : ST8 G A s s.heap) (hP : va_P (gD G) vwCl w H) (hD : va_D A w) (hS : va_S A s.heap H locs)
    (hrec : ∃ cell : Cell, H[b]? = some cell ∧ cell.vm.isStatics = false ∧ s.vm.findClass C0 = some cell.cls) (isC isR is2 : List Nat) (hnd : va_nd isC = true) (hC : isC.map (fun i => w[i]?) = w0.map some) (hR : isR.map (fun i => w[i]?) = wr.map some) (hnR : va_nd isR = true) (hdis : ∀ i ∈ isR, i ∉ isC) (hn2 : va_nd is2 = true) (h2 : is2.map (fun i => (wr ++ w1)[i]?) = w'.map some) (hn : As.length = n) (hsize : ls.size = nL) (hstack : st0 = As.reverse ++ .ref b :: rest) (hst1 : ov.toList ++ rest = st1) (hW : (rest.map fun v => v.category).sum ≤ 8) (hdg : decode cc pc = .ok (.invokevirtual index, 3)) (hcs : cells ≤ R.cells ∧ slots ≤ R.slots)
    (kk : ∀ (H1 : Heap) (locs1 : List Loc), va_P (gD G) vwCl w' H1 → va_D A w' → va_S A s.heap H1 locs1 → W p l e R s m args below meth c H1 locs1 cells slots Q (F0 m (pc + 3) ls st1)) : W p l e R s m args below meth c H locs cells slots Q (F0 m pc ls st0) :=
  xw_go (va_runV (g := F0 m pc ls st0) C.1 hM cwv ⟨pX8_blind, hrec, pre8 hK hA hP hD hS hT isC hnd hC⟩ rfl hn hsize hstack (lv_room hW) hdg hcs) hA hP hD hS isC isR is2 hC hR hnR hdis hn2 h2 hst1 kk
theorem yr9 (C : Cx p s m args meth c cc nL Ts own ret0) (hM : Met l y ws rm (pW (gD G) (tyG G) w0 H.size (.ref b :: As)) (k2_QcV v) 0 0 (fun _ => False)) (cwv : CallW R s args own C0 index y bytes maxL ret ws rm 0 0 n) (hK : va_K (gD G) vwCl (tyG G) s) (hP : va_P (gD G) vwCl w H) (hD : va_D A w)
    (hrec : ∃ cell : Cell, H[b]? = some cell ∧ cell.vm.isStatics = false ∧ s.vm.findClass C0 = some cell.cls) (isC : List Nat) (hnd : va_nd isC = true) (hC : isC.map (fun i => w[i]?) = w0.map some) (hn : As.length = n) (hsize : ls.size = nL) (hstack : st0 = As.reverse ++ .ref b :: rest) (hW : (rest.map fun v => v.category).sum ≤ 8) (hdg : decode cc pc = .ok (.invokevirtual index, 3)) (hcs : cells ≤ R.cells ∧ slots ≤ R.slots)
    (kk : W p l e R s m args below meth c H locs cells slots Q (F0 m (pc + 3) ls (v :: rest))) : W p l e R s m args below meth c H locs cells slots Q (F0 m pc ls st0) :=
  W.callV (W.runV (g := F0 m pc ls st0) C.1 hM cwv ⟨pW_blind, hrec, pre9 hK hP hD isC hnd hC⟩ rfl hn hsize hstack (lv_room hW) hdg hcs) kk
theorem yw9 (C : Cx p s m args meth c cc nL Ts own ret0) (hM : Met l y ws rm (pW (gD G) (tyG G) w0 H.size (.ref b :: As)) (qW ov w1 (gD G) (tyG G) (va_A w0 H.size)) 0 0 (va_A w0 H.size)) (cwv : CallW R s args own C0 index y bytes maxL ret ws rm 0 0 n) (hK : va_K (gD G) vwCl (tyG G) s) (hA : ∀ q : Nat, s.heap.size ≤ q → A q) (hP : va_P (gD G) vwCl w H) (hD : va_D A w) (hS : va_S A s.heap H locs)
    (hrec : ∃ cell : Cell, H[b]? = some cell ∧ cell.vm.isStatics = false ∧ s.vm.findClass C0 = some cell.cls) (isC isR is2 : List Nat) (hnd : va_nd isC = true) (hC : isC.map (fun i => w[i]?) = w0.map some) (hR : isR.map (fun i => w[i]?) = wr.map some) (hnR : va_nd isR = true) (hdis : ∀ i ∈ isR, i ∉ isC) (hn2 : va_nd is2 = true) (h2 : is2.map (fun i => (wr ++ w1)[i]?) = w'.map some) (hn : As.length = n) (hsize : ls.size = nL) (hstack : st0 = As.reverse ++ .ref b :: rest) (hst1 : ov.toList ++ rest = st1) (hW : (rest.map fun v => v.category).sum ≤ 8) (hdg : decode cc pc = .ok (.invokevirtual index, 3)) (hcs : cells ≤ R.cells ∧ slots ≤ R.slots)
    (kk : ∀ (H1 : Heap) (locs1 : List Loc), va_P (gD G) vwCl w' H1 → va_D A w' → va_S A s.heap H1 locs1 → W p l e R s m args below meth c H1 locs1 cells slots Q (F0 m (pc + 3) ls st1)) : W p l e R s m args below meth c H locs cells slots Q (F0 m pc ls st0) :=
  xw_go (va_runV (g := F0 m pc ls st0) C.1 hM cwv ⟨pW_blind, hrec, pre9 hK hP hD isC hnd hC⟩ rfl hn hsize hstack (lv_room hW) hdg hcs) hA hP hD hS isC isR is2 hC hR hnR hdis hn2 h2 hst1 kk
theorem ywH {hh : List (Nat × Nat × Nat × Nat)} (C : Cx p s m args meth c cc nL Ts own ret0) (hM : Met l y ws rm (pXL G w0 H.size As) (qW ov w1 (gD G) (tyG G) (va_A w0 H.size)) 1 6 (va_A w0 H.size)) (cws : vx_CSW R s args own index y bytes maxL ret hh ws rm 1 6 n) (hK : va_K (gD G) vwCl (tyG G) s) (hA : ∀ q : Nat, s.heap.size ≤ q → A q) (hT : STL G A s s.heap) (hP : va_P (gD G) vwCl w H) (hD : va_D A w) (hS : va_S A s.heap H locs)
    (isC isR is2 : List Nat) (hnd : va_nd isC = true) (hC : isC.map (fun i => w[i]?) = w0.map some) (hR : isR.map (fun i => w[i]?) = wr.map some) (hnR : va_nd isR = true) (hdis : ∀ i ∈ isR, i ∉ isC) (hn2 : va_nd is2 = true) (h2 : is2.map (fun i => (wr ++ w1)[i]?) = w'.map some) (hn : As.length = n) (hsize : ls.size = nL) (hstack : st0 = As.reverse ++ rest) (hst1 : ov.toList ++ rest = st1) (hW : (rest.map fun v => v.category).sum ≤ 8) (hdg : decode cc pc = .ok (.invokestatic index, 3)) (hcs : cells + 1 ≤ R.cells ∧ slots + 6 ≤ R.slots)
    (kk : ∀ (H1 : Heap) (locs1 : List Loc), va_P (gD G) vwCl w' H1 → va_D A w' → va_S A s.heap H1 locs1 → W p l e R s m args below meth c H1 locs1 (cells + 1) (slots + 6) Q (F0 m (pc + 3) ls st1)) : W p l e R s m args below meth c H locs cells slots Q (F0 m pc ls st0) :=
  xw_go2 (vx_runSW (g := F0 m pc ls st0) C.1 hM cws ⟨pXL_blind, preL hK hA hP hD hS hT isC hnd hC⟩ rfl hn hsize hstack (lv_room hW) hdg hcs) hA hP hD hS isC isR is2 hC hR hnR hdis hn2 h2 hst1 kk
end LW0
def sL_0_L (uX uS uT uV uP u : Md) (a1 : Int32) : Option StL := (f8_unit_L uX uS uT uV uP a1).bind fun p => (f9_unit u a1).bind fun q => if p.1 = q.1 then some (uX, p.2, uT, uV, uP, q.2) else none
def sL_1_L (uX uS uT uV uP u : Md) : Option StL := (f8_read_L uX uS uT uV uP ).bind fun p => (f9_read u ).bind fun q => if p.1 = q.1 then some (p.2.2.1, p.2.2.2.1, p.2.2.2.2.1, p.2.2.2.2.2, uP, q.2) else none
def sL_2_L (uX uS uT uV uP u : Md) (a1 : Int32) : Option StL := (f8_kind_L uX uS uT uV uP a1).bind fun p => (f9_kind u a1).bind fun q => Sum.elim (fun e9 => if e9 = 1 then (if gi q.2 0 = 1 then some (uX, uS, uT, uV, uP, q.2) else none) else none) (fun r => if gi q.2 0 = 0 ∧ r = q.1 then some (uX, uS, uT, uV, uP, q.2) else none) p
def sL_3_L (uX uS uT uV uP u : Md) (a1 : Int32) : Option StL := (f8_parent_L uX uS uT uV uP a1).bind fun p => (f9_parent u a1).bind fun q => Sum.elim (fun e9 => if e9 = 1 then (if gi q.2 0 = 1 then some (uX, uS, uT, uV, uP, q.2) else none) else none) (fun r => if gi q.2 0 = 0 ∧ r = q.1 then some (uX, uS, uT, uV, uP, q.2) else none) p
def sL_4_L (uX uS uT uV uP u : Md) (a1 a2 : Int32) : Option StL := (f8_number_L uX uS uT uV uP a1 a2).bind fun p => (f9_number u a1 a2).bind fun q => Sum.elim (fun e9 => if e9 = 1 then (if gi q.2 0 = 1 then some (uX, uS, uT, uV, uP, q.2) else none) else none) (fun r => if gi q.2 0 = 0 ∧ r = q.1 then some (uX, uS, uT, uV, uP, q.2) else none) p
def sL_5_L (uX uS uT uV uP u : Md) (a1 a2 a3 : Int32) : Option StL := (f8_text_L uX uS uT uV uP a1 a2 a3).bind fun p => (f9_text u a1 a2 a3).bind fun q => Sum.elim (fun e9 => if e9 = 1 then (if gi q.2 0 = 1 then some (uX, uS, uT, uV, uP, q.2) else none) else none) (fun r => if gi q.2 0 = 0 ∧ r = q.1 then some (uX, uS, uT, uV, uP, q.2) else none) p
def sL_6_L (uX uS uT uV uP u : Md) : Option StL := (f8_version_L uX uS uT uV uP ).bind fun p => (f9_version u ).bind fun q => if p = q.1 then some (uX, uS, uT, uV, uP, q.2) else none
def sL_7_L (uX uS uT uV uP u : Md) (a1 a2 : Int32) : Option StL := (f8_unknown_L uX uS uT uV uP a1 a2).bind fun p => (f9_unknown u a1 a2).bind fun q => Sum.elim (fun e9 => if e9 = 1 then (if gi q.2 0 = 1 then some (uX, uS, uT, uV, uP, q.2) else none) else if e9 = 2 then (if gi q.2 0 = 2 then some (uX, uS, uT, uV, uP, q.2) else none) else none) (fun r => if gi q.2 0 = 0 ∧ r = q.1 then some (uX, uS, uT, uV, uP, q.2) else none) p
def sL_8_L (uX uS uT uV uP u : Md) (a1 : Int32) : Option StL := (f8_write_L uX uS uT uV uP a1).bind fun p => (f9_write u a1).bind fun q => Sum.elim (fun e9 => if e9 = 1 then (if gi q.2 0 = 1 then some (uX, uS, uT, uV, uP, q.2) else none) else if e9 = 2 then (if gi q.2 0 = 2 then some (uX, uS, uT, uV, uP, q.2) else none) else none) (fun r => if gi q.2 0 = 0 ∧ r.1 = q.1 then some (r.2.1, uS, uT, uV, r.2.2, q.2) else none) p
def sL_9_L (uX uS uT uV uP u : Md) (a1 a2 : Int32) : Option StL := (f8_object_L uX uS uT uV uP a1 a2).bind fun p => (f9_object u a1 a2).bind fun q => Sum.elim (fun e9 => if e9 = 1 then (if gi q.2 0 = 1 then some (uX, uS, uT, uV, uP, q.2) else none) else if e9 = 3 then (if gi q.2 0 = 2 then some (uX, uS, uT, uV, uP, q.2) else none) else none) (fun r => if gi q.2 0 = 0 ∧ r.1 = q.1 then some (r.2.1, uS, r.2.2, uV, uP, q.2) else none) p
def sL_10_L (uX uS uT uV uP u : Md) (a1 a2 a3 a4 : Int32) : Option StL := (f8_set_L uX uS uT uV uP a1 a2 ((a3.toInt64 <<< ((32 : Int32).toInt64 &&& 63)) ||| (a4.toInt64 &&& 4294967295))).bind fun p => (f9_set u a1 a2 ((a3.toInt64 <<< ((32 : Int32).toInt64 &&& 63)) ||| (a4.toInt64 &&& 4294967295))).bind fun q => Sum.elim (fun e9 => if e9 = 1 then (if gi q.2 0 = 1 then some (uX, uS, uT, uV, uP, q.2) else none) else none) (fun r => if gi q.2 0 = 0 ∧ r.1 = q.1 then some (r.2.1, uS, r.2.2, uV, uP, q.2) else none) p
def sL_11_L (uX uS uT uV uP u : Md) : Option StL := (f8_depth_L uX uS uT uV uP ).bind fun p => (f9_depth u ).bind fun q => if p = q.1 then some (uX, uS, uT, uV, uP, q.2) else none
def sL_12_L (uX uS uT uV uP u : Md) : Option StL := (f8_clear_L uX uS uT uV uP ).bind fun p => (f9_clear u ).bind fun q => some (uX, p, uT, uV, uP, q)
def stepL_L (S : StL) (a0 a1 a2 a3 a4 : Int32) : Option StL := if a0 &&& 15 = 0 then sL_0_L S.1 S.2.1 S.2.2.1 S.2.2.2.1 S.2.2.2.2.1 S.2.2.2.2.2 a1 else if a0 &&& 15 = 1 then sL_1_L S.1 S.2.1 S.2.2.1 S.2.2.2.1 S.2.2.2.2.1 S.2.2.2.2.2  else if a0 &&& 15 = 2 then sL_2_L S.1 S.2.1 S.2.2.1 S.2.2.2.1 S.2.2.2.2.1 S.2.2.2.2.2 a1 else if a0 &&& 15 = 3 then sL_3_L S.1 S.2.1 S.2.2.1 S.2.2.2.1 S.2.2.2.2.1 S.2.2.2.2.2 a1 else if a0 &&& 15 = 4 then sL_4_L S.1 S.2.1 S.2.2.1 S.2.2.2.1 S.2.2.2.2.1 S.2.2.2.2.2 a1 a2 else if a0 &&& 15 = 5 then sL_5_L S.1 S.2.1 S.2.2.1 S.2.2.2.1 S.2.2.2.2.1 S.2.2.2.2.2 a1 a2 a3 else if a0 &&& 15 = 6 then sL_6_L S.1 S.2.1 S.2.2.1 S.2.2.2.1 S.2.2.2.2.1 S.2.2.2.2.2  else if a0 &&& 15 = 7 then sL_7_L S.1 S.2.1 S.2.2.1 S.2.2.2.1 S.2.2.2.2.1 S.2.2.2.2.2 a1 a2 else if a0 &&& 15 = 8 then sL_8_L S.1 S.2.1 S.2.2.1 S.2.2.2.1 S.2.2.2.2.1 S.2.2.2.2.2 a1 else if a0 &&& 15 = 9 then sL_9_L S.1 S.2.1 S.2.2.1 S.2.2.2.1 S.2.2.2.2.1 S.2.2.2.2.2 a1 a2 else if a0 &&& 15 = 10 then sL_10_L S.1 S.2.1 S.2.2.1 S.2.2.2.1 S.2.2.2.2.1 S.2.2.2.2.2 a1 a2 a3 a4 else if a0 &&& 15 = 11 then sL_11_L S.1 S.2.1 S.2.2.1 S.2.2.2.1 S.2.2.2.2.1 S.2.2.2.2.2  else if a0 &&& 15 = 12 then sL_12_L S.1 S.2.1 S.2.2.1 S.2.2.2.1 S.2.2.2.2.1 S.2.2.2.2.2  else some S
def sL_0_B (uX uS uT uV uP u : Md) (a1 : Int32) : Option StL := (f8_unit_B uX uS uT uV uP a1).bind fun p => (f9_unit u a1).bind fun q => if p.1 = q.1 then some (uX, p.2, uT, uV, uP, q.2) else none
def sL_1_B (uX uS uT uV uP u : Md) : Option StL := (f8_read_B uX uS uT uV uP ).bind fun p => (f9_read u ).bind fun q => if p.1 = q.1 then some (p.2.2.1, p.2.2.2.1, p.2.2.2.2.1, p.2.2.2.2.2, uP, q.2) else none
def sL_2_B (uX uS uT uV uP u : Md) (a1 : Int32) : Option StL := (f8_kind_B uX uS uT uV uP a1).bind fun p => (f9_kind u a1).bind fun q => Sum.elim (fun e9 => if e9 = 1 then (if gi q.2 0 = 1 then some (uX, uS, uT, uV, uP, q.2) else none) else none) (fun r => if gi q.2 0 = 0 ∧ r = q.1 then some (uX, uS, uT, uV, uP, q.2) else none) p
def sL_3_B (uX uS uT uV uP u : Md) (a1 : Int32) : Option StL := (f8_parent_B uX uS uT uV uP a1).bind fun p => (f9_parent u a1).bind fun q => Sum.elim (fun e9 => if e9 = 1 then (if gi q.2 0 = 1 then some (uX, uS, uT, uV, uP, q.2) else none) else none) (fun r => if gi q.2 0 = 0 ∧ r = q.1 then some (uX, uS, uT, uV, uP, q.2) else none) p
def sL_4_B (uX uS uT uV uP u : Md) (a1 a2 : Int32) : Option StL := (f8_number_B uX uS uT uV uP a1 a2).bind fun p => (f9_number u a1 a2).bind fun q => Sum.elim (fun e9 => if e9 = 1 then (if gi q.2 0 = 1 then some (uX, uS, uT, uV, uP, q.2) else none) else none) (fun r => if gi q.2 0 = 0 ∧ r = q.1 then some (uX, uS, uT, uV, uP, q.2) else none) p
def sL_5_B (uX uS uT uV uP u : Md) (a1 a2 a3 : Int32) : Option StL := (f8_text_B uX uS uT uV uP a1 a2 a3).bind fun p => (f9_text u a1 a2 a3).bind fun q => Sum.elim (fun e9 => if e9 = 1 then (if gi q.2 0 = 1 then some (uX, uS, uT, uV, uP, q.2) else none) else none) (fun r => if gi q.2 0 = 0 ∧ r = q.1 then some (uX, uS, uT, uV, uP, q.2) else none) p
def sL_6_B (uX uS uT uV uP u : Md) : Option StL := (f8_version_B uX uS uT uV uP ).bind fun p => (f9_version u ).bind fun q => if p = q.1 then some (uX, uS, uT, uV, uP, q.2) else none
def sL_7_B (uX uS uT uV uP u : Md) (a1 a2 : Int32) : Option StL := (f8_unknown_B uX uS uT uV uP a1 a2).bind fun p => (f9_unknown u a1 a2).bind fun q => Sum.elim (fun e9 => if e9 = 1 then (if gi q.2 0 = 1 then some (uX, uS, uT, uV, uP, q.2) else none) else if e9 = 2 then (if gi q.2 0 = 2 then some (uX, uS, uT, uV, uP, q.2) else none) else none) (fun r => if gi q.2 0 = 0 ∧ r = q.1 then some (uX, uS, uT, uV, uP, q.2) else none) p
def sL_8_B (uX uS uT uV uP u : Md) (a1 : Int32) : Option StL := (f8_write_B uX uS uT uV uP a1).bind fun p => (f9_write u a1).bind fun q => Sum.elim (fun e9 => if e9 = 1 then (if gi q.2 0 = 1 then some (uX, uS, uT, uV, uP, q.2) else none) else if e9 = 2 then (if gi q.2 0 = 2 then some (uX, uS, uT, uV, uP, q.2) else none) else none) (fun r => if gi q.2 0 = 0 ∧ r.1 = q.1 then some (r.2.1, uS, uT, uV, r.2.2, q.2) else none) p
def sL_9_B (uX uS uT uV uP u : Md) (a1 a2 : Int32) : Option StL := (f8_object_B uX uS uT uV uP a1 a2).bind fun p => (f9_object u a1 a2).bind fun q => Sum.elim (fun e9 => if e9 = 1 then (if gi q.2 0 = 1 then some (uX, uS, uT, uV, uP, q.2) else none) else if e9 = 3 then (if gi q.2 0 = 2 then some (uX, uS, uT, uV, uP, q.2) else none) else none) (fun r => if gi q.2 0 = 0 ∧ r.1 = q.1 then some (r.2.1, uS, r.2.2, uV, uP, q.2) else none) p
def sL_10_B (uX uS uT uV uP u : Md) (a1 a2 a3 a4 : Int32) : Option StL := (f8_set_B uX uS uT uV uP a1 a2 ((a3.toInt64 <<< ((32 : Int32).toInt64 &&& 63)) ||| (a4.toInt64 &&& 4294967295))).bind fun p => (f9_set u a1 a2 ((a3.toInt64 <<< ((32 : Int32).toInt64 &&& 63)) ||| (a4.toInt64 &&& 4294967295))).bind fun q => Sum.elim (fun e9 => if e9 = 1 then (if gi q.2 0 = 1 then some (uX, uS, uT, uV, uP, q.2) else none) else none) (fun r => if gi q.2 0 = 0 ∧ r.1 = q.1 then some (r.2.1, uS, r.2.2, uV, uP, q.2) else none) p
def sL_11_B (uX uS uT uV uP u : Md) : Option StL := (f8_depth_B uX uS uT uV uP ).bind fun p => (f9_depth u ).bind fun q => if p = q.1 then some (uX, uS, uT, uV, uP, q.2) else none
def sL_12_B (uX uS uT uV uP u : Md) : Option StL := (f8_clear_B uX uS uT uV uP ).bind fun p => (f9_clear u ).bind fun q => some (uX, p, uT, uV, uP, q)
def stepL_B (S : StL) (a0 a1 a2 a3 a4 : Int32) : Option StL := if a0 &&& 15 = 0 then sL_0_B S.1 S.2.1 S.2.2.1 S.2.2.2.1 S.2.2.2.2.1 S.2.2.2.2.2 a1 else if a0 &&& 15 = 1 then sL_1_B S.1 S.2.1 S.2.2.1 S.2.2.2.1 S.2.2.2.2.1 S.2.2.2.2.2  else if a0 &&& 15 = 2 then sL_2_B S.1 S.2.1 S.2.2.1 S.2.2.2.1 S.2.2.2.2.1 S.2.2.2.2.2 a1 else if a0 &&& 15 = 3 then sL_3_B S.1 S.2.1 S.2.2.1 S.2.2.2.1 S.2.2.2.2.1 S.2.2.2.2.2 a1 else if a0 &&& 15 = 4 then sL_4_B S.1 S.2.1 S.2.2.1 S.2.2.2.1 S.2.2.2.2.1 S.2.2.2.2.2 a1 a2 else if a0 &&& 15 = 5 then sL_5_B S.1 S.2.1 S.2.2.1 S.2.2.2.1 S.2.2.2.2.1 S.2.2.2.2.2 a1 a2 a3 else if a0 &&& 15 = 6 then sL_6_B S.1 S.2.1 S.2.2.1 S.2.2.2.1 S.2.2.2.2.1 S.2.2.2.2.2  else if a0 &&& 15 = 7 then sL_7_B S.1 S.2.1 S.2.2.1 S.2.2.2.1 S.2.2.2.2.1 S.2.2.2.2.2 a1 a2 else if a0 &&& 15 = 8 then sL_8_B S.1 S.2.1 S.2.2.1 S.2.2.2.1 S.2.2.2.2.1 S.2.2.2.2.2 a1 else if a0 &&& 15 = 9 then sL_9_B S.1 S.2.1 S.2.2.1 S.2.2.2.1 S.2.2.2.2.1 S.2.2.2.2.2 a1 a2 else if a0 &&& 15 = 10 then sL_10_B S.1 S.2.1 S.2.2.1 S.2.2.2.1 S.2.2.2.2.1 S.2.2.2.2.2 a1 a2 a3 a4 else if a0 &&& 15 = 11 then sL_11_B S.1 S.2.1 S.2.2.1 S.2.2.2.1 S.2.2.2.2.1 S.2.2.2.2.2  else if a0 &&& 15 = 12 then sL_12_B S.1 S.2.1 S.2.2.1 S.2.2.2.1 S.2.2.2.2.1 S.2.2.2.2.2  else some S
