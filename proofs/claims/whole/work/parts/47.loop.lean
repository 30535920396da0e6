/-! THE CLAIM OUT OF ONE WALK OF THE LAW'S BODY. Your part is whole_start (and what it stands on); all else here is the same for every law, but numbers. -/
def R_law : String := "SchematicTextLaw"
def lw_P (b : Addr) (xs : List Int32) (args : Array Value) (s : State) : Prop := args = #[.ref b] ∧ s.IntsAt b xs ∧ xs.length ≤ 2561 ∧ (Jvm.Cond.and given_1 narrow_1).before args s = true
def lw_Q (_ : Array Value) (s : State) (o : Outcome) (t : State) : Prop := o = .returned (some (.int 1)) ∧ Framed s o t [] 601024 7293000
def lw_Z (below : List Frame) (a : Array Value) (s : State) : State → Prop := fun t => ∃ o, t.status = .running ∧ Ended t below o ∧ lw_Q a s o t
/-- the law's own end, with 1 on the stack, nothing written that was there before, its room as the claim has it -/
theorem lw_ret {p : Program} {l : Launch} {e : Env} {s : State} {m : MethodId} {below : List Frame} {meth : Method} {c : Code} {b : Nat} (hx : p.tables.exec = Jvm.exec) (hb : c.code = code) (hr : meth.sig.returnType = ret) (hlocks : meth.locks = false) {pc : Nat} {H : Heap} {ls : Array Slot} (hdg : decode code pc = .ok (.ireturn, 1)) : W p l e room_1 s m #[Value.ref b] below meth c H [] 601024 7293000 (lw_Z below #[Value.ref b] s) (F0 m pc ls [.int 1]) := by
  intro T hT X
  obtain ⟨fs, hret, hrun, hended, hW, hframe⟩ := X.leave (v := some (.int 1)) (hlocks := hlocks) (fun h => by rw [hr] at h; cases h)
  have hmeth' : T.vm.method? m = some meth := X.method'
  refine ⟨T.setFrames fs, ?_, .returned (some (.int 1)), hrun, hended, rfl, ⟨_, rfl⟩, hW, hframe⟩
  jvm_step X.here [X.here.top, hx, hb, hdg, hmeth', hr, ret, narrow_b1]
  (try refine ⟨rfl, ?_⟩); (try refine ⟨rfl, ?_⟩)
  first | (intro acts; rw [hret _ acts rfl rfl rfl]) | rw [hret _ _ rfl rfl rfl]
  exact Steps.refl _
/-- what holds at the law's entry: the machine, the code, the tables' words (any of lw_tbl by 'hts w (by decide +kernel)'), the script of L ints xs at the cell b, what the Statement gives of the start (any of its parts by flat_of_before) -/
def lw_At (p : Program) (s : State) (m : MethodId) (meth : Method) (c : Code) (b L : Nat) (xs : Nat → Int32) : Prop :=
  p.tables.exec = Jvm.exec ∧ c.code = code ∧ meth.sig.returnType = ret ∧ c.maxLocals = 8 ∧ s.vm.findClass R_law = some m.cls ∧ (∀ w ∈ lw_tbl, w.before #[Value.ref b] s = true) ∧ va_X b L xs s s.heap ∧ b < s.heap.size ∧ meth.locks = false ∧ (Jvm.Cond.and given_1 narrow_1).before #[Value.ref b] s = true
theorem lw_tail {p : Program} {l : Launch} {e : Env} {s : State} {m : MethodId} {below : List Frame} {meth : Method} {c : Code} {H : Heap} {locs : List Loc} {cells slots : Nat} {Q : State → Prop} {ls : Array Slot} {b n x1 x2 x3 : Nat} (hx : p.tables.exec = Jvm.exec) (hb : c.code = cL_law) (hl : lv_has ls 8 [(0, .ref b), (1, .ref x1), (2, .ref x2), (3, .ref x3), (4, .int (iN n))])
    (kk : ∀ ls : Array Slot, lv_has ls 8 [(0, .ref b), (1, .ref x1), (2, .ref x2), (3, .ref x3), (4, .int (iN (n + 1)))] → W p l e room_1 s m #[Value.ref b] below meth c H locs cells slots Q (F0 m 33 ls [])) : W p l e room_1 s m #[Value.ref b] below meth c H locs cells slots Q (F0 m 761 ls []) := by
  refine lv_iinc (k := 4) (v := iN (n + 1)) (lv' := [(4, .int (iN (n + 1))), (0, .ref b), (1, .ref x1), (2, .ref x2), (3, .ref x3)]) hx hb dL_law_761 hl rfl (iN_next n) (by decide) rfl (fun ls hl => ?_)
  refine lv_goto (tgt := 33) hx hb dL_law_764 (by decide) ?_
  exact kk ls (lv_sub hl [1, 2, 3, 4, 0] rfl)
def loopL_L (xs : Nat → Int32) (L : Nat) : Nat → Nat → StL → Option Unit
  | 0, _, _ => none
  | k + 1, n, S => if L < 6 + 5 * n then some () else (stepL_L S (xs (1 + 5 * n + 0)) (xs (1 + 5 * n + 1)) (xs (1 + 5 * n + 2)) (xs (1 + 5 * n + 3)) (xs (1 + 5 * n + 4))).bind (fun S' => loopL_L xs L k (n + 1) S')
set_option maxHeartbeats 4000000 in
set_option maxRecDepth 100000 in
theorem lw_loop_L {p : Program} {l : Launch} {e : Env} {s : State} {m : MethodId} {below : List Frame} {meth : Method} {c : Code} {b L : Nat} {xs : Nat → Int32} {G : Gx} {A : Nat → Prop} {bX bF bS bP a : Nat → Nat} {o : Nat}
    (C : Cx p s m #[Value.ref b] meth c cL_law 8 (Cond.initialized RL :: WL) RL ret) (hL0 : l.stackTraces = false) (hX : va_X b L xs s s.heap) (hbl : b < s.heap.size) (hbA : ¬ A b) (hL : L ≤ 2561) (hK : va_K (gD G) vwCl (tyG G) s) (hA : ∀ q : Nat, s.heap.size ≤ q → A q) (hAd : ∀ q : Nat, A q → s.heap.size ≤ q) (hT : STL G A s s.heap) :
    ∀ (k n : Nat) (S : StL) (cells slots : Nat) (bT bV : Nat → Nat) (fo : Nat → Int64) (H : Heap) (locs : List Loc) (ls : Array Slot), n + k ≤ 600 → cells + k ≤ 601024 → slots + 6 * k ≤ 7293000 → va_P (gD G) vwCl (wLaw 0 G bX bF bS bT bV bP a o fo S.1 S.2.1 S.2.2.1 S.2.2.2.1 S.2.2.2.2.1 S.2.2.2.2.2) H → va_D A (wLaw 0 G bX bF bS bT bV bP a o fo S.1 S.2.1 S.2.2.1 S.2.2.2.1 S.2.2.2.2.1 S.2.2.2.2.2) → va_S A s.heap H locs → lv_has ls 8 [(0, .ref b), (1, .ref (bX 0)), (2, .ref (a 0)), (3, .ref o), (4, .int (iN n))] → loopL_L xs L k n S = some () →
      W p l e room_1 s m #[Value.ref b] below meth c H locs cells slots (lw_Z below #[Value.ref b] s) (F0 m 33 ls []) := by
  have hx := C.1.1
  have hb := C.1.2.1
  intro k
  induction k with
  | zero => intro n S cells slots bT bV fo H locs ls h1 h2 h3 hP hD hS hl hf; cases hf
  | succ k ih =>
    intro n S cells slots bT bV fo H locs ls h1 h2 h3 hP hD hS hl hf
    unfold loopL_L at hf
    refine lv_iload hx hb dL_law_33 (lv_at hl 4 rfl) ?_
    refine lv_aload_n hx hb dL_law_35 rfl (lv_at hl 0 rfl) ?_
    refine va_slen hx hb hX hbl hbA hS dL_law_36 ?_
    refine lv_iconst (v := 5) hx hb dL_law_37 (by decide) ?_
    refine lv_isub hx hb dL_law_38 ?_
    refine lv_icmp_gt (tgt := 767) hx hb dL_law_39 (by decide) (fun hc => ?_) (fun hc => ?_)
    · refine lv_iconst (v := 1) hx hb dL_law_767 (by decide) ?_
      refine va_forget (fun q hq => hAd _ (hS.2.2 q hq)) ?_
      refine W.widen (k := 601024) (n := 7293000) (by omega) (by omega) ?_
      exact lw_ret hx hb C.2.1 C.2.2 dL_law_768
    · have hn : ¬ L < 6 + 5 * n := fun h => hc ((iN_gt (by omega) hL).mpr h)
      replace hf := og_f hn hf
      replace hn : 6 + 5 * n ≤ L := by omega
      have hf2 := og_b hf
      clear hf
      obtain ⟨⟨vX, vS, vT, vV, vP, v⟩, hf, hg⟩ := hf2
      obtain ⟨uX, uS, uT, uV, uP, u⟩ := S
      refine lv_aload_n hx hb dL_law_42 rfl (lv_at hl 0 rfl) ?_
      refine lv_iload hx hb dL_law_43 (lv_at hl 4 rfl) ?_
      refine sld (j := 0) (n := n) hx hb hX hbl hbA hS (by simp) (by decide) hn hL dL_law_45 ?_
      refine lv_bipush (v := 15) hx hb dL_law_46 (by decide) ?_
      refine lv_iand hx hb dL_law_48 ?_
      have K := fun (bT bV : Nat → Nat) (fo : Nat → Int64) (H : Heap) (locs : List Loc) (ls : Array Slot) (hP : va_P (gD G) vwCl (wLaw 0 G bX bF bS bT bV bP a o fo vX vS vT vV vP v) H) (hD : va_D A (wLaw 0 G bX bF bS bT bV bP a o fo vX vS vT vV vP v)) (hS : va_S A s.heap H locs) (hl : lv_has ls 8 [(0, .ref b), (1, .ref (bX 0)), (2, .ref (a 0)), (3, .ref o), (4, .int (iN n))]) =>
        lw_tail hx hb hl (fun ls hl => ih (n + 1) (vX, vS, vT, vV, vP, v) (cells + 1) (slots + 6) bT bV fo H locs ls (by omega) (by omega) (by omega) hP hD hS hl hg)
      unfold stepL_L at hf
      by_cases h0 : xs (1 + 5 * n + 0) &&& 15 = 0
      · replace hf := og_t h0 hf
        refine lv_tableIn (off := 67) (tgt := 116) hx hb dL_law_49 (by rw [h0]; decide) (by rw [h0]; decide) (by rw [h0]; rfl) (by decide) ?_
        exact lw_0_L C hL0 hX hbl hbA hL hn hK hA hT ⟨by omega, by omega⟩ hP hD hS hl hf K
      replace hf := og_f h0 hf
      by_cases h1 : xs (1 + 5 * n + 0) &&& 15 = 1
      · replace hf := og_t h1 hf
        refine lv_tableIn (off := 92) (tgt := 141) hx hb dL_law_49 (by rw [h1]; decide) (by rw [h1]; decide) (by rw [h1]; rfl) (by decide) ?_
        exact lw_1_L C hL0 hX hbl hbA hL hn hK hA hT ⟨by omega, by omega⟩ hP hD hS hl hf K
      replace hf := og_f h1 hf
      by_cases h2 : xs (1 + 5 * n + 0) &&& 15 = 2
      · replace hf := og_t h2 hf
        refine lv_tableIn (off := 105) (tgt := 154) hx hb dL_law_49 (by rw [h2]; decide) (by rw [h2]; decide) (by rw [h2]; rfl) (by decide) ?_
        exact lw_2_L C hL0 hX hbl hbA hL hn hK hA hT ⟨by omega, by omega⟩ hP hD hS hl hf K
      replace hf := og_f h2 hf
      by_cases h3 : xs (1 + 5 * n + 0) &&& 15 = 3
      · replace hf := og_t h3 hf
        refine lv_tableIn (off := 161) (tgt := 210) hx hb dL_law_49 (by rw [h3]; decide) (by rw [h3]; decide) (by rw [h3]; rfl) (by decide) ?_
        exact lw_3_L C hL0 hX hbl hbA hL hn hK hA hT ⟨by omega, by omega⟩ hP hD hS hl hf K
      replace hf := og_f h3 hf
      by_cases h4 : xs (1 + 5 * n + 0) &&& 15 = 4
      · replace hf := og_t h4 hf
        refine lv_tableIn (off := 217) (tgt := 266) hx hb dL_law_49 (by rw [h4]; decide) (by rw [h4]; decide) (by rw [h4]; rfl) (by decide) ?_
        exact lw_4_L C hL0 hX hbl hbA hL hn hK hA hT ⟨by omega, by omega⟩ hP hD hS hl hf K
      replace hf := og_f h4 hf
      by_cases h5 : xs (1 + 5 * n + 0) &&& 15 = 5
      · replace hf := og_t h5 hf
        refine lv_tableIn (off := 284) (tgt := 333) hx hb dL_law_49 (by rw [h5]; decide) (by rw [h5]; decide) (by rw [h5]; rfl) (by decide) ?_
        exact lw_5_L C hL0 hX hbl hbA hL hn hK hA hT ⟨by omega, by omega⟩ hP hD hS hl hf K
      replace hf := og_f h5 hf
      by_cases h6 : xs (1 + 5 * n + 0) &&& 15 = 6
      · replace hf := og_t h6 hf
        refine lv_tableIn (off := 364) (tgt := 413) hx hb dL_law_49 (by rw [h6]; decide) (by rw [h6]; decide) (by rw [h6]; rfl) (by decide) ?_
        exact lw_6_L C hL0 hX hbl hbA hL hn hK hA hT ⟨by omega, by omega⟩ hP hD hS hl hf K
      replace hf := og_f h6 hf
      by_cases h7 : xs (1 + 5 * n + 0) &&& 15 = 7
      · replace hf := og_t h7 hf
        refine lv_tableIn (off := 377) (tgt := 426) hx hb dL_law_49 (by rw [h7]; decide) (by rw [h7]; decide) (by rw [h7]; rfl) (by decide) ?_
        exact lw_7_L C hL0 hX hbl hbA hL hn hK hA hT ⟨by omega, by omega⟩ hP hD hS hl hf K
      replace hf := og_f h7 hf
      by_cases h8 : xs (1 + 5 * n + 0) &&& 15 = 8
      · replace hf := og_t h8 hf
        refine lv_tableIn (off := 445) (tgt := 494) hx hb dL_law_49 (by rw [h8]; decide) (by rw [h8]; decide) (by rw [h8]; rfl) (by decide) ?_
        exact lw_8_L C hL0 hX hbl hbA hL hn hK hA hT ⟨by omega, by omega⟩ hP hD hS hl hf K
      replace hf := og_f h8 hf
      by_cases h9 : xs (1 + 5 * n + 0) &&& 15 = 9
      · replace hf := og_t h9 hf
        refine lv_tableIn (off := 501) (tgt := 550) hx hb dL_law_49 (by rw [h9]; decide) (by rw [h9]; decide) (by rw [h9]; rfl) (by decide) ?_
        exact lw_9_L C hL0 hX hbl hbA hL hn hK hA hT ⟨by omega, by omega⟩ hP hD hS hl hf K
      replace hf := og_f h9 hf
      by_cases h10 : xs (1 + 5 * n + 0) &&& 15 = 10
      · replace hf := og_t h10 hf
        refine lv_tableIn (off := 569) (tgt := 618) hx hb dL_law_49 (by rw [h10]; decide) (by rw [h10]; decide) (by rw [h10]; rfl) (by decide) ?_
        exact lw_10_L C hL0 hX hbl hbA hL hn hK hA hT ⟨by omega, by omega⟩ hP hD hS hl hf K
      replace hf := og_f h10 hf
      by_cases h11 : xs (1 + 5 * n + 0) &&& 15 = 11
      · replace hf := og_t h11 hf
        refine lv_tableIn (off := 688) (tgt := 737) hx hb dL_law_49 (by rw [h11]; decide) (by rw [h11]; decide) (by rw [h11]; rfl) (by decide) ?_
        exact lw_11_L C hL0 hX hbl hbA hL hn hK hA hT ⟨by omega, by omega⟩ hP hD hS hl hf K
      replace hf := og_f h11 hf
      by_cases h12 : xs (1 + 5 * n + 0) &&& 15 = 12
      · replace hf := og_t h12 hf
        refine lv_tableIn (off := 701) (tgt := 750) hx hb dL_law_49 (by rw [h12]; decide) (by rw [h12]; decide) (by rw [h12]; rfl) (by decide) ?_
        exact lw_12_L C hL0 hX hbl hbA hL hn hK hA hT ⟨by omega, by omega⟩ hP hD hS hl hf K
      replace hf := og_f h12 hf
      cases (og_s hf)
      obtain ⟨j, hj, hje⟩ := and15 (xs (1 + 5 * n + 0))
      have hj2 : j = 13 ∨ j = 14 ∨ j = 15 := by
        rcases (show j = 0 ∨ j = 1 ∨ j = 2 ∨ j = 3 ∨ j = 4 ∨ j = 5 ∨ j = 6 ∨ j = 7 ∨ j = 8 ∨ j = 9 ∨ j = 10 ∨ j = 11 ∨ j = 12 ∨ j = 13 ∨ j = 14 ∨ j = 15 by omega) with rfl | rfl | rfl | rfl | rfl | rfl | rfl | rfl | rfl | rfl | rfl | rfl | rfl | rfl | rfl | rfl
        · exact absurd hje h0
        · exact absurd hje h1
        · exact absurd hje h2
        · exact absurd hje h3
        · exact absurd hje h4
        · exact absurd hje h5
        · exact absurd hje h6
        · exact absurd hje h7
        · exact absurd hje h8
        · exact absurd hje h9
        · exact absurd hje h10
        · exact absurd hje h11
        · exact absurd hje h12
        · exact Or.inl rfl
        · exact Or.inr (Or.inl rfl)
        · exact Or.inr (Or.inr rfl)
      refine lv_tableOut (tgt := 761) hx hb dL_law_49 (by rw [hje]; rcases hj2 with rfl | rfl | rfl <;> decide) (by decide) ?_
      refine W.widen (k := cells + 1) (n := slots + 6) (by omega) (by omega) ?_
      exact K bT bV fo H locs ls hP hD hS hl
def loopL_B (xs : Nat → Int32) (L : Nat) : Nat → Nat → StL → Option Unit
  | 0, _, _ => none
  | k + 1, n, S => if L < 6 + 5 * n then some () else (stepL_B S (xs (1 + 5 * n + 0)) (xs (1 + 5 * n + 1)) (xs (1 + 5 * n + 2)) (xs (1 + 5 * n + 3)) (xs (1 + 5 * n + 4))).bind (fun S' => loopL_B xs L k (n + 1) S')
set_option maxHeartbeats 4000000 in
set_option maxRecDepth 100000 in
theorem lw_loop_B {p : Program} {l : Launch} {e : Env} {s : State} {m : MethodId} {below : List Frame} {meth : Method} {c : Code} {b L : Nat} {xs : Nat → Int32} {G : Gx} {A : Nat → Prop} {bX bF bS bP a : Nat → Nat} {o : Nat}
    (C : Cx p s m #[Value.ref b] meth c cL_law 8 (Cond.initialized RL :: WL) RL ret) (hL0 : l.stackTraces = false) (hX : va_X b L xs s s.heap) (hbl : b < s.heap.size) (hbA : ¬ A b) (hL : L ≤ 2561) (hK : va_K (gD G) vwCl (tyG G) s) (hA : ∀ q : Nat, s.heap.size ≤ q → A q) (hAd : ∀ q : Nat, A q → s.heap.size ≤ q) (hT : STL G A s s.heap) :
    ∀ (k n : Nat) (S : StL) (cells slots : Nat) (bT bV : Nat → Nat) (fo : Nat → Int64) (H : Heap) (locs : List Loc) (ls : Array Slot), n + k ≤ 600 → cells + k ≤ 601024 → slots + 6 * k ≤ 7293000 → va_P (gD G) vwCl (wLaw 1 G bX bF bS bT bV bP a o fo S.1 S.2.1 S.2.2.1 S.2.2.2.1 S.2.2.2.2.1 S.2.2.2.2.2) H → va_D A (wLaw 1 G bX bF bS bT bV bP a o fo S.1 S.2.1 S.2.2.1 S.2.2.2.1 S.2.2.2.2.1 S.2.2.2.2.2) → va_S A s.heap H locs → lv_has ls 8 [(0, .ref b), (1, .ref (bX 0)), (2, .ref (a 0)), (3, .ref o), (4, .int (iN n))] → loopL_B xs L k n S = some () →
      W p l e room_1 s m #[Value.ref b] below meth c H locs cells slots (lw_Z below #[Value.ref b] s) (F0 m 33 ls []) := by
  have hx := C.1.1
  have hb := C.1.2.1
  intro k
  induction k with
  | zero => intro n S cells slots bT bV fo H locs ls h1 h2 h3 hP hD hS hl hf; cases hf
  | succ k ih =>
    intro n S cells slots bT bV fo H locs ls h1 h2 h3 hP hD hS hl hf
    unfold loopL_B at hf
    refine lv_iload hx hb dL_law_33 (lv_at hl 4 rfl) ?_
    refine lv_aload_n hx hb dL_law_35 rfl (lv_at hl 0 rfl) ?_
    refine va_slen hx hb hX hbl hbA hS dL_law_36 ?_
    refine lv_iconst (v := 5) hx hb dL_law_37 (by decide) ?_
    refine lv_isub hx hb dL_law_38 ?_
    refine lv_icmp_gt (tgt := 767) hx hb dL_law_39 (by decide) (fun hc => ?_) (fun hc => ?_)
    · refine lv_iconst (v := 1) hx hb dL_law_767 (by decide) ?_
      refine va_forget (fun q hq => hAd _ (hS.2.2 q hq)) ?_
      refine W.widen (k := 601024) (n := 7293000) (by omega) (by omega) ?_
      exact lw_ret hx hb C.2.1 C.2.2 dL_law_768
    · have hn : ¬ L < 6 + 5 * n := fun h => hc ((iN_gt (by omega) hL).mpr h)
      replace hf := og_f hn hf
      replace hn : 6 + 5 * n ≤ L := by omega
      have hf2 := og_b hf
      clear hf
      obtain ⟨⟨vX, vS, vT, vV, vP, v⟩, hf, hg⟩ := hf2
      obtain ⟨uX, uS, uT, uV, uP, u⟩ := S
      refine lv_aload_n hx hb dL_law_42 rfl (lv_at hl 0 rfl) ?_
      refine lv_iload hx hb dL_law_43 (lv_at hl 4 rfl) ?_
      refine sld (j := 0) (n := n) hx hb hX hbl hbA hS (by simp) (by decide) hn hL dL_law_45 ?_
      refine lv_bipush (v := 15) hx hb dL_law_46 (by decide) ?_
      refine lv_iand hx hb dL_law_48 ?_
      have K := fun (bT bV : Nat → Nat) (fo : Nat → Int64) (H : Heap) (locs : List Loc) (ls : Array Slot) (hP : va_P (gD G) vwCl (wLaw 1 G bX bF bS bT bV bP a o fo vX vS vT vV vP v) H) (hD : va_D A (wLaw 1 G bX bF bS bT bV bP a o fo vX vS vT vV vP v)) (hS : va_S A s.heap H locs) (hl : lv_has ls 8 [(0, .ref b), (1, .ref (bX 0)), (2, .ref (a 0)), (3, .ref o), (4, .int (iN n))]) =>
        lw_tail hx hb hl (fun ls hl => ih (n + 1) (vX, vS, vT, vV, vP, v) (cells + 1) (slots + 6) bT bV fo H locs ls (by omega) (by omega) (by omega) hP hD hS hl hg)
      unfold stepL_B at hf
      by_cases h0 : xs (1 + 5 * n + 0) &&& 15 = 0
      · replace hf := og_t h0 hf
        refine lv_tableIn (off := 67) (tgt := 116) hx hb dL_law_49 (by rw [h0]; decide) (by rw [h0]; decide) (by rw [h0]; rfl) (by decide) ?_
        exact lw_0_B C hL0 hX hbl hbA hL hn hK hA hT ⟨by omega, by omega⟩ hP hD hS hl hf K
      replace hf := og_f h0 hf
      by_cases h1 : xs (1 + 5 * n + 0) &&& 15 = 1
      · replace hf := og_t h1 hf
        refine lv_tableIn (off := 92) (tgt := 141) hx hb dL_law_49 (by rw [h1]; decide) (by rw [h1]; decide) (by rw [h1]; rfl) (by decide) ?_
        exact lw_1_B C hL0 hX hbl hbA hL hn hK hA hT ⟨by omega, by omega⟩ hP hD hS hl hf K
      replace hf := og_f h1 hf
      by_cases h2 : xs (1 + 5 * n + 0) &&& 15 = 2
      · replace hf := og_t h2 hf
        refine lv_tableIn (off := 105) (tgt := 154) hx hb dL_law_49 (by rw [h2]; decide) (by rw [h2]; decide) (by rw [h2]; rfl) (by decide) ?_
        exact lw_2_B C hL0 hX hbl hbA hL hn hK hA hT ⟨by omega, by omega⟩ hP hD hS hl hf K
      replace hf := og_f h2 hf
      by_cases h3 : xs (1 + 5 * n + 0) &&& 15 = 3
      · replace hf := og_t h3 hf
        refine lv_tableIn (off := 161) (tgt := 210) hx hb dL_law_49 (by rw [h3]; decide) (by rw [h3]; decide) (by rw [h3]; rfl) (by decide) ?_
        exact lw_3_B C hL0 hX hbl hbA hL hn hK hA hT ⟨by omega, by omega⟩ hP hD hS hl hf K
      replace hf := og_f h3 hf
      by_cases h4 : xs (1 + 5 * n + 0) &&& 15 = 4
      · replace hf := og_t h4 hf
        refine lv_tableIn (off := 217) (tgt := 266) hx hb dL_law_49 (by rw [h4]; decide) (by rw [h4]; decide) (by rw [h4]; rfl) (by decide) ?_
        exact lw_4_B C hL0 hX hbl hbA hL hn hK hA hT ⟨by omega, by omega⟩ hP hD hS hl hf K
      replace hf := og_f h4 hf
      by_cases h5 : xs (1 + 5 * n + 0) &&& 15 = 5
      · replace hf := og_t h5 hf
        refine lv_tableIn (off := 284) (tgt := 333) hx hb dL_law_49 (by rw [h5]; decide) (by rw [h5]; decide) (by rw [h5]; rfl) (by decide) ?_
        exact lw_5_B C hL0 hX hbl hbA hL hn hK hA hT ⟨by omega, by omega⟩ hP hD hS hl hf K
      replace hf := og_f h5 hf
      by_cases h6 : xs (1 + 5 * n + 0) &&& 15 = 6
      · replace hf := og_t h6 hf
        refine lv_tableIn (off := 364) (tgt := 413) hx hb dL_law_49 (by rw [h6]; decide) (by rw [h6]; decide) (by rw [h6]; rfl) (by decide) ?_
        exact lw_6_B C hL0 hX hbl hbA hL hn hK hA hT ⟨by omega, by omega⟩ hP hD hS hl hf K
      replace hf := og_f h6 hf
      by_cases h7 : xs (1 + 5 * n + 0) &&& 15 = 7
      · replace hf := og_t h7 hf
        refine lv_tableIn (off := 377) (tgt := 426) hx hb dL_law_49 (by rw [h7]; decide) (by rw [h7]; decide) (by rw [h7]; rfl) (by decide) ?_
        exact lw_7_B C hL0 hX hbl hbA hL hn hK hA hT ⟨by omega, by omega⟩ hP hD hS hl hf K
      replace hf := og_f h7 hf
      by_cases h8 : xs (1 + 5 * n + 0) &&& 15 = 8
      · replace hf := og_t h8 hf
        refine lv_tableIn (off := 445) (tgt := 494) hx hb dL_law_49 (by rw [h8]; decide) (by rw [h8]; decide) (by rw [h8]; rfl) (by decide) ?_
        exact lw_8_B C hL0 hX hbl hbA hL hn hK hA hT ⟨by omega, by omega⟩ hP hD hS hl hf K
      replace hf := og_f h8 hf
      by_cases h9 : xs (1 + 5 * n + 0) &&& 15 = 9
      · replace hf := og_t h9 hf
        refine lv_tableIn (off := 501) (tgt := 550) hx hb dL_law_49 (by rw [h9]; decide) (by rw [h9]; decide) (by rw [h9]; rfl) (by decide) ?_
        exact lw_9_B C hL0 hX hbl hbA hL hn hK hA hT ⟨by omega, by omega⟩ hP hD hS hl hf K
      replace hf := og_f h9 hf
      by_cases h10 : xs (1 + 5 * n + 0) &&& 15 = 10
      · replace hf := og_t h10 hf
        refine lv_tableIn (off := 569) (tgt := 618) hx hb dL_law_49 (by rw [h10]; decide) (by rw [h10]; decide) (by rw [h10]; rfl) (by decide) ?_
        exact lw_10_B C hL0 hX hbl hbA hL hn hK hA hT ⟨by omega, by omega⟩ hP hD hS hl hf K
      replace hf := og_f h10 hf
      by_cases h11 : xs (1 + 5 * n + 0) &&& 15 = 11
      · replace hf := og_t h11 hf
        refine lv_tableIn (off := 688) (tgt := 737) hx hb dL_law_49 (by rw [h11]; decide) (by rw [h11]; decide) (by rw [h11]; rfl) (by decide) ?_
        exact lw_11_B C hL0 hX hbl hbA hL hn hK hA hT ⟨by omega, by omega⟩ hP hD hS hl hf K
      replace hf := og_f h11 hf
      by_cases h12 : xs (1 + 5 * n + 0) &&& 15 = 12
      · replace hf := og_t h12 hf
        refine lv_tableIn (off := 701) (tgt := 750) hx hb dL_law_49 (by rw [h12]; decide) (by rw [h12]; decide) (by rw [h12]; rfl) (by decide) ?_
        exact lw_12_B C hL0 hX hbl hbA hL hn hK hA hT ⟨by omega, by omega⟩ hP hD hS hl hf K
      replace hf := og_f h12 hf
      cases (og_s hf)
      obtain ⟨j, hj, hje⟩ := and15 (xs (1 + 5 * n + 0))
      have hj2 : j = 13 ∨ j = 14 ∨ j = 15 := by
        rcases (show j = 0 ∨ j = 1 ∨ j = 2 ∨ j = 3 ∨ j = 4 ∨ j = 5 ∨ j = 6 ∨ j = 7 ∨ j = 8 ∨ j = 9 ∨ j = 10 ∨ j = 11 ∨ j = 12 ∨ j = 13 ∨ j = 14 ∨ j = 15 by omega) with rfl | rfl | rfl | rfl | rfl | rfl | rfl | rfl | rfl | rfl | rfl | rfl | rfl | rfl | rfl | rfl
        · exact absurd hje h0
        · exact absurd hje h1
        · exact absurd hje h2
        · exact absurd hje h3
        · exact absurd hje h4
        · exact absurd hje h5
        · exact absurd hje h6
        · exact absurd hje h7
        · exact absurd hje h8
        · exact absurd hje h9
        · exact absurd hje h10
        · exact absurd hje h11
        · exact absurd hje h12
        · exact Or.inl rfl
        · exact Or.inr (Or.inl rfl)
        · exact Or.inr (Or.inr rfl)
      refine lv_tableOut (tgt := 761) hx hb dL_law_49 (by rw [hje]; rcases hj2 with rfl | rfl | rfl <;> decide) (by decide) ?_
      refine W.widen (k := cells + 1) (n := slots + 6) (by omega) (by omega) ?_
      exact K bT bV fo H locs ls hP hD hS hl
/-- the form that a script asks for -/
def fC (L : Nat) (xs : Nat → Int32) : Int32 := if 0 < L then xs 0 else 0
theorem fC_pos {L : Nat} {xs : Nat → Int32} (h : 0 < fC L xs) : 1 ≤ fC L xs := by
  rw [Int32.le_iff_toInt_le]
  have h2 := Int32.lt_iff_toInt_lt.mp h
  exact h2
theorem fC_neg {L : Nat} {xs : Nat → Int32} (h : ¬ 0 < fC L xs) : ¬ 1 ≤ fC L xs := by
  intro h1
  apply h
  rw [Int32.lt_iff_toInt_lt]
  exact Int32.le_iff_toInt_le.mp h1
def pC (b L : Nat) (xs : Nat → Int32) : Array Value → State → Prop := va_Pc [.ref b, .int 0] (fun U => va_X b L xs U U.heap ∧ b < U.heap.size)
theorem fC_blind {b L : Nat} {xs : Nat → Int32} : FrameBlind (pC b L xs) := by
  intro a U g mk q
  obtain ⟨q0, ⟨scr, h1, h2, h3⟩, q2⟩ := q
  exact ⟨q0, ⟨scr, h1, State.isArrayOf_alike (Vm.Alike.refl U.vm) h2, h3⟩, q2⟩
theorem fC_pre {s : State} {A : Nat → Prop} {H : Heap} {locs : List Loc} {b L : Nat} {xs : Nat → Int32} (hX : va_X b L xs s s.heap) (hbl : b < s.heap.size) (hbA : ¬ A b) (hS : va_S A s.heap H locs) : ∀ U : State, U.heap = H → s.WarmedH U.vm → pC b L xs ([.ref b, .int 0] : List Value).toArray U := by
  intro U hU hW
  obtain ⟨scr, h1, h2, h3⟩ := hX
  subst hU
  exact ⟨rfl, ⟨scr, by rw [hS.2.1 b hbl hbA]; exact h1, State.isArrayOf_alike hW.alike h2, h3⟩, Nat.lt_of_lt_of_le hbl hS.1⟩
set_option maxHeartbeats 4000000 in
theorem cl_cell (l : Launch) (b L : Nat) (xs : Nat → Int32) (hL : L ≤ 2561) : Met l yL_cell (Cond.code yL_cell cL_cell 2 (some .int) :: WL) { frames := 0, cells := 0, slots := 0, locals := 0 } (pC b L xs) (k2_QcV (.int (fC L xs))) 0 0 (fun _ => False) := by
  refine Met.ofW (cc := cL_cell) (maxL := 2) (ret := some .int) (by decide) rfl ?_
  intro p e s m args below meth c s₁ B hml hv
  obtain ⟨rfl, hX, hbl⟩ := hv
  have hx := B.exec
  have hb := B.bytes
  have hS : va_S (fun _ => False) s.heap s.heap [] := va_S.rf
  have hl := lv_entry ([.ref b, .int 0] : List Value) (n := 2) (Nat.le_of_ble_eq_true rfl)
  rw [lg_entry_eq]
  generalize (lg_sl ([.ref b, .int 0] : List Value) ++ List.replicate (2 - (lg_sl ([.ref b, .int 0] : List Value)).length) Slot.unset).toArray = ls at hl ⊢
  have hl : lv_has ls 2 [(0, .ref b), (1, .int 0)] := hl
  refine lv_iload_n hx hb dL_cell_0 rfl (lv_at hl 1 rfl) ?_
  refine lv_aload_n hx hb dL_cell_1 rfl (lv_at hl 0 rfl) ?_
  refine va_slen hx hb hX hbl (fun h => h) hS dL_cell_2 ?_
  have hLi : (Int32.ofNat L).toInt = (L : Int) := Int32.toInt_ofNat_of_lt (by omega)
  refine lv_icmp_ge (tgt := 12) hx hb dL_cell_3 (by decide) (fun hc => ?_) (fun hc => ?_)
  · have h0 : ¬ 0 < L := fun h => by
      have h2 := Int32.le_iff_toInt_le.mp hc
      rw [hLi] at h2
      exact absurd h2 (by show ¬ ((L : Int) ≤ 0); omega)
    refine lv_iconst (v := 0) hx hb dL_cell_12 (by decide) ?_
    have e0 : fC L xs = 0 := if_neg h0
    rw [e0]
    exact W.iret hx hb B.returns (fun t ht _ => ⟨rfl, ht⟩) (fun q h => nomatch h) dL_cell_13 B.notSynchronized
  · have h0 : 0 < L := Nat.pos_of_ne_zero (fun h => hc (by
      rw [Int32.le_iff_toInt_le, hLi, h]; decide))
    refine lv_aload_n hx hb dL_cell_6 rfl (lv_at hl 0 rfl) ?_
    refine lv_iload_n hx hb dL_cell_7 rfl (lv_at hl 1 rfl) ?_
    refine va_sld hx hb hX hbl (fun h => h) hS (i := 0) (fun h => h.elim (fun h => absurd h (by decide)) (fun h => absurd h (by show ¬ L ≤ 0; omega))) dL_cell_8 ?_
    refine lv_goto (tgt := 13) hx hb dL_cell_9 (by decide) ?_
    have e0 : fC L xs = xs 0 := if_pos h0
    rw [e0]
    exact W.iret hx hb B.returns (fun t ht _ => ⟨rfl, ht⟩) (fun q h => nomatch h) dL_cell_13 B.notSynchronized
theorem gdl_n8 {c0 cw : Cond} (h5 : cw ∈ WL) : GoodIn (c0 :: WL) (cw :: WAX) := gdl (fun w hw => by
  rcases List.mem_cons.mp hw with rfl | h
  · exact h5
  · exact mL8 (m8 h))
theorem gdl_n9 {c0 cw : Cond} (h5 : cw ∈ WL) : GoodIn (c0 :: WL) (cw :: WA9) := gdl (fun w hw => by
  rcases List.mem_cons.mp hw with rfl | h
  · exact h5
  · exact mL9 h)
section LWS
variable {p : Program} {l : Launch} {e : Env} {R : Room} {s : State} {m : MethodId} {args : Array Value} {below : List Frame} {meth : Method} {c : Code} {H : Heap} {locs : List Loc} {cells slots : Nat} {Q : State → Prop}
variable {cc : ByteArray} {nL : Nat} {Ts : List Cond} {own : String} {pc : Nat} {ls : Array Slot} {rest st0 : List Value} {A : Nat → Prop} {w0 w : va_W} {G : Gx}
theorem xc_I {y : MethodName} {bytes : ByteArray} {maxL n index mc ms : Nat} {ws : List Cond} {rm : Room} {b : Addr} {As : List Value} {ret0 : Option FieldType} {S : Type} {post : S → Prop} {w1 : S → va_W} {wr : va_W} (C : Cx p s m args meth c cc nL Ts own ret0) (hM : Met l y ws rm (pX G w0 H.size (.ref b :: As)) (qC post w1 (gD G) (tyG G) (va_A w0 H.size)) mc ms (va_A w0 H.size)) (cw : CallB R s args own index y bytes maxL none ws rm mc ms n ∧ y.name = "<init>" ∧ (Cond.instanceMethod y).before args s = true)
    (hK : va_K (gD G) vwCl (tyG G) s) (hA : ∀ q : Nat, s.heap.size ≤ q → A q) (hT : ST G A s s.heap) (hP : va_P (gD G) vwCl w H) (hD : va_D A w) (hS : va_S A s.heap H locs) (isC isR : List Nat) (hnd : va_nd isC = true) (hC : isC.map (fun i => w[i]?) = w0.map some) (hR : isR.map (fun i => w[i]?) = wr.map some) (hnr : va_nd isR = true) (hdis : ∀ i ∈ isR, i ∉ isC)
    (hn : As.length = n) (hsize : ls.size = nL) (hstack : st0 = As.reverse ++ .ref b :: rest) (hW : (rest.map fun v => v.category).sum ≤ 8) (hdg : decode cc pc = .ok (.invokespecial index, 3)) (hf : cells + mc ≤ R.cells ∧ slots + ms ≤ R.slots)
    (kk : ∀ (u : S) (H1 : Heap) (locs1 : List Loc), post u → va_P (gD G) vwCl (wr ++ w1 u) H1 → va_D A (wr ++ w1 u) → va_S A s.heap H1 locs1 → W p l e R s m args below meth c H1 locs1 (cells + mc) (slots + ms) Q (F0 m (pc + 3) ls rest)) : W p l e R s m args below meth c H locs cells slots Q (F0 m pc ls st0) := by
  have hFc := va_free hD hS hA isC hC
  refine va_callv (va_runI (g := F0 m pc ls st0) (rest := rest) C.1 hM cw ⟨pX_blind, preX hK hA hP hD hS hT isC hnd hC⟩ rfl hn hsize hstack (lv_room hW) hdg hf) hS (fun q _ h => hFc q h) hFc (fun u t H1 locs1 ht hvm hp hB hz1 hk1 hS => ?_)
  obtain ⟨hP1, hK1, hD1⟩ := hB
  rw [ht] at hP1
  obtain ⟨hP, hD⟩ := va_join hP hD isC isR hC hR hnr hdis hk1 hFc hP1 hD1
  exact kk u H1 locs1 hp hP hD hS
theorem xc_I9 {y : MethodName} {bytes : ByteArray} {maxL n index mc ms : Nat} {ws : List Cond} {rm : Room} {b : Addr} {As : List Value} {ret0 : Option FieldType} {S : Type} {post : S → Prop} {w1 : S → va_W} {wr : va_W} (C : Cx p s m args meth c cc nL Ts own ret0) (hM : Met l y ws rm (pW (gD G) (tyG G) w0 H.size (.ref b :: As)) (qC post w1 (gD G) (tyG G) (va_A w0 H.size)) mc ms (va_A w0 H.size)) (cw : CallB R s args own index y bytes maxL none ws rm mc ms n ∧ y.name = "<init>" ∧ (Cond.instanceMethod y).before args s = true)
    (hK : va_K (gD G) vwCl (tyG G) s) (hA : ∀ q : Nat, s.heap.size ≤ q → A q) (hP : va_P (gD G) vwCl w H) (hD : va_D A w) (hS : va_S A s.heap H locs) (isC isR : List Nat) (hnd : va_nd isC = true) (hC : isC.map (fun i => w[i]?) = w0.map some) (hR : isR.map (fun i => w[i]?) = wr.map some) (hnr : va_nd isR = true) (hdis : ∀ i ∈ isR, i ∉ isC)
    (hn : As.length = n) (hsize : ls.size = nL) (hstack : st0 = As.reverse ++ .ref b :: rest) (hW : (rest.map fun v => v.category).sum ≤ 8) (hdg : decode cc pc = .ok (.invokespecial index, 3)) (hf : cells + mc ≤ R.cells ∧ slots + ms ≤ R.slots)
    (kk : ∀ (u : S) (H1 : Heap) (locs1 : List Loc), post u → va_P (gD G) vwCl (wr ++ w1 u) H1 → va_D A (wr ++ w1 u) → va_S A s.heap H1 locs1 → W p l e R s m args below meth c H1 locs1 (cells + mc) (slots + ms) Q (F0 m (pc + 3) ls rest)) : W p l e R s m args below meth c H locs cells slots Q (F0 m pc ls st0) := by
  have hFc := va_free hD hS hA isC hC
  refine va_callv (va_runI (g := F0 m pc ls st0) (rest := rest) C.1 hM cw ⟨pW_blind, pre9 hK hP hD isC hnd hC⟩ rfl hn hsize hstack (lv_room hW) hdg hf) hS (fun q _ h => hFc q h) hFc (fun u t H1 locs1 ht hvm hp hB hz1 hk1 hS => ?_)
  obtain ⟨hP1, hK1, hD1⟩ := hB
  rw [ht] at hP1
  obtain ⟨hP, hD⟩ := va_join hP hD isC isR hC hR hnr hdis hk1 hFc hP1 hD1
  exact kk u H1 locs1 hp hP hD hS
end LWS

set_option maxHeartbeats 4000000 in
set_option maxRecDepth 100000 in
theorem law_go_L {p : Program} {l : Launch} {e : Env} {s : State} {m : MethodId} {below : List Frame} {meth : Method} {c : Code} {b L : Nat} {xs : Nat → Int32} (hL0 : l.stackTraces = false) (hL : L ≤ 2561) (C0 : lw_At p s m meth c b L xs) (hfm : 0 < fC L xs) (hpure : loopL_L xs L 514 0 (u0, u0S, u0, u0, u0, u09 1) = some ()) : W p l e room_1 s m #[Value.ref b] below meth c s.heap [] 0 0 (lw_Z below #[Value.ref b] s) (entryFrame m ([Value.ref b] : List Value).toArray 8) := by
  obtain ⟨hx, hb, hret, hml, hown, htl, hX, hbl, hlocks, hgv⟩ := C0
  obtain ⟨A, hAe⟩ : ∃ A : Nat → Prop, A = fun q => s.heap.size ≤ q := ⟨_, rfl⟩
  have hA : ∀ q : Nat, s.heap.size ≤ q → A q := fun q h => by rw [hAe]; exact h
  have hAd : ∀ q : Nat, A q → s.heap.size ≤ q := fun q h => by rw [hAe] at h; exact h
  have hbA : ¬ A b := fun h => absurd (hAd b h) (by omega)
  obtain ⟨G, hK, hT⟩ := st_all (A := A) htl hgv (fun a ha h => absurd (hAd a h) (by omega))
  have hts : ∀ w ∈ Cond.initialized RL :: WL, w.before #[Value.ref b] s = true := fun w hw => htl w ((List.mem_cons.mp hw).elim (fun e => e ▸ tWL _ ml_7) (tWL w))
  have C : Cx p s m #[Value.ref b] meth c cL_law 8 (Cond.initialized RL :: WL) RL ret := ⟨⟨hx, hb, hml, hown, hts⟩, hret, hlocks⟩
  have hS : va_S A s.heap s.heap [] := va_S.rf
  have hP : va_P (gD G) vwCl [] s.heap := fun k q h => by simp at h
  have hD : va_D A [] := ⟨fun i j p q h => by simp at h, fun k q h => by simp at h⟩
  have hl := lv_entry ([Value.ref b] : List Value) (n := 8) (Nat.le_of_ble_eq_true rfl)
  rw [lg_entry_eq]
  generalize (lg_sl ([Value.ref b] : List Value) ++ List.replicate (8 - (lg_sl ([Value.ref b] : List Value)).length) Slot.unset).toArray = ls at hl ⊢
  have hl : lv_has ls 8 [(0, .ref b)] := hl
  refine va_new (ci := 5) (fs := [.null, .null, .null, .null, .null, .int 0]) (C := RX8) (T := TX8) (N := 6) hx hb hts (fun w h => List.mem_cons_of_mem _ (mL8 (m8 (List.mem_append_right _ (List.mem_append_right _ (List.mem_append_right _ (List.mem_append_right _ h))))))) tyX8 tyX8_ok hown (hts _ (List.mem_cons_of_mem _ ml_0)) (hts _ (List.mem_cons_of_mem _ ml_1)) (hts _ (List.mem_cons_of_mem _ (mL8 (m8 mx_32)))) hK hP hD hS hA rfl (by decide +kernel) (Nat.le_of_ble_eq_true rfl) (Nat.le_of_ble_eq_true rfl) dL_law_0 (fun q1 H hP hD hS => ?_)
  have hP : va_P (gD G) vwCl [(q1, .inr (5, [.null, .null, .null, .null, .null, .int 0]))] H := hP
  have hD : va_D A [(q1, .inr (5, [.null, .null, .null, .null, .null, .int 0]))] := hD
  refine lv_dup hx hb dL_law_3 rfl ?_
  refine lv_aload_n hx hb dL_law_4 rfl (lv_at hl 0 rfl) ?_
  refine lv_iconst (v := 0) hx hb dL_law_5 (by decide) ?_
  refine W.callV (W.runS (g := F0 m 6 ls (.int (0 : Int32) :: .ref b :: [.ref q1, .ref q1])) (As := [.ref b, .int 0]) (rest := [.ref q1, .ref q1]) C.1 (cl_cell l b L xs hL) (va_cwS 2 hts (gdl_s ml_5 ml_6 ml_7 ml_8) rfl rfl rfl (by decide +kernel) ⟨Nat.le_of_ble_eq_true rfl, Nat.le_of_ble_eq_true rfl⟩) ⟨fC_blind, fC_pre hX hbl hbA hS⟩ rfl rfl hl.1 rfl (lv_room (Nat.le_of_ble_eq_true rfl)) dL_law_6 ⟨Nat.le_of_ble_eq_true rfl, Nat.le_of_ble_eq_true rfl⟩) ?_
  refine W.eq (g2 := F0 m 9 ls [.int (fC L xs), .ref q1, .ref q1]) rfl ?_
  refine xc_I (rm := { frames := 3, cells := 31, slots := 106039, locals := 60 }) (mc := 31) (ms := 106039) (w0 := [(q1, .inr (5, [.null, .null, .null, .null, .null, .int 0]))]) (wr := []) (As := [.int (fC L xs)]) (rest := [.ref q1]) C (ci_Own_L l G q1 H.size (fC L xs) hfm) (cwI 1 hts (gdl_n8 (mL8 (m8 mx_464))) rfl rfl rfl (hts _ (List.mem_cons_of_mem _ (mL8 (m8 mx_32)))) (hts _ (List.mem_cons_of_mem _ ml_9)) (hts _ (List.mem_cons_of_mem _ ml_10)) rfl (by decide +kernel) ⟨Nat.le_of_ble_eq_true rfl, Nat.le_of_ble_eq_true rfl⟩) hK hA hT.1.1 hP hD hS [0] [] (by decide) rfl rfl (by decide) (by decide) rfl hl.1 rfl (Nat.le_of_ble_eq_true rfl) dL_law_9 ⟨Nat.le_of_ble_eq_true rfl, Nat.le_of_ble_eq_true rfl⟩ (fun b8 H locs hp hP hD hS => ?_)
  have hP : va_P (gD G) vwCl (c8 0 G (fun _ => q1) b8.1 b8.2.1 b8.2.2.1 b8.2.2.2.1 b8.2.2.2.2 (b8.2.2.1 0) (b8.2.2.2.1 0) u0 u0S u0 u0 u0) H := hP
  have hD : va_D A (c8 0 G (fun _ => q1) b8.1 b8.2.1 b8.2.2.1 b8.2.2.2.1 b8.2.2.2.2 (b8.2.2.1 0) (b8.2.2.2.1 0) u0 u0S u0 u0 u0) := hD
  refine lv_astore_n (lv' := [(1, .ref q1), (0, .ref b)]) hx hb dL_law_12 rfl hl (by decide) rfl (fun ls hl => ?_)
  refine va_new (ci := 6) (fs := [.int 0, .int 0, .null, .int 0, .int 0, .null, .null, .null, .null, .null, .null, .null, .null, .int 0, .int 0, .int 0, .int 0, .int 0, .int 0, .int 0, .int 0, .int 0, .int 0, .null, .null, .null, .int 0, .int 0, .long 0, .int 0, .int 0]) (C := RX9) (T := TX9) (N := 31) hx hb hts (fun w h => List.mem_cons_of_mem _ (mL9 (List.mem_append_right _ h))) tyX9 tyX9_ok hown (hts _ (List.mem_cons_of_mem _ ml_2)) (hts _ (List.mem_cons_of_mem _ ml_3)) (hts _ (List.mem_cons_of_mem _ (mL9 m9_29))) hK hP hD hS hA rfl (by decide +kernel) (Nat.le_of_ble_eq_true rfl) (Nat.le_of_ble_eq_true rfl) dL_law_13 (fun q2 H hP hD hS => ?_)
  refine lv_dup hx hb dL_law_16 rfl ?_
  refine lv_aload_n hx hb dL_law_17 rfl (lv_at hl 1 rfl) ?_
  refine lv_iconst (v := 0) hx hb dL_law_18 (by decide) ?_
  refine W.callV (W.runS (g := F0 m 19 ls (.int (0 : Int32) :: .ref b :: [.ref q2, .ref q2])) (As := [.ref b, .int 0]) (rest := [.ref q2, .ref q2]) C.1 (cl_cell l b L xs hL) (va_cwS 2 hts (gdl_s ml_5 ml_6 ml_7 ml_8) rfl rfl rfl (by decide +kernel) ⟨Nat.le_of_ble_eq_true rfl, Nat.le_of_ble_eq_true rfl⟩) ⟨fC_blind, fC_pre hX hbl hbA hS⟩ rfl rfl hl.1 rfl (lv_room (Nat.le_of_ble_eq_true rfl)) dL_law_19 ⟨Nat.le_of_ble_eq_true rfl, Nat.le_of_ble_eq_true rfl⟩) ?_
  refine W.eq (g2 := F0 m 22 ls [.int (fC L xs), .ref q2, .ref q2]) rfl ?_
  refine xc_I9 (rm := { frames := 1, cells := 12, slots := 134602, locals := 32 }) (mc := 12) (ms := 134602) (w0 := [(q2, .inr (6, [.int 0, .int 0, .null, .int 0, .int 0, .null, .null, .null, .null, .null, .null, .null, .null, .int 0, .int 0, .int 0, .int 0, .int 0, .int 0, .int 0, .int 0, .int 0, .int 0, .null, .null, .null, .int 0, .int 0, .long 0, .int 0, .int 0]))]) (wr := (c8 0 G (fun _ => q1) b8.1 b8.2.1 b8.2.2.1 b8.2.2.2.1 b8.2.2.2.2 (b8.2.2.1 0) (b8.2.2.2.1 0) u0 u0S u0 u0 u0)) (As := [.int (fC L xs)]) (rest := [.ref q2]) C (ci_Ref_L l (gD G) (gI G) (gJ G) (gC G) q2 H.size (fC L xs) (fC_pos hfm)) (cwI 1 hts (gdl_n9 (mL9 m9_0)) rfl rfl rfl (hts _ (List.mem_cons_of_mem _ (mL9 m9_29))) (hts _ (List.mem_cons_of_mem _ ml_11)) (hts _ (List.mem_cons_of_mem _ ml_12)) rfl (by decide +kernel) ⟨Nat.le_of_ble_eq_true rfl, Nat.le_of_ble_eq_true rfl⟩) hK hA hP hD hS [32] [0, 1, 2, 3, 4, 5, 6, 7, 8, 9, 10, 11, 12, 13, 14, 15, 16, 17, 18, 19, 20, 21, 22, 23, 24, 25, 26, 27, 28, 29, 30, 31] (by decide) rfl rfl (by decide) (by decide) rfl hl.1 rfl (Nat.le_of_ble_eq_true rfl) dL_law_22 ⟨Nat.le_of_ble_eq_true rfl, Nat.le_of_ble_eq_true rfl⟩ (fun a H locs hp hP hD hS => ?_)
  try dsimp only at hp
  rw [← hp]
  refine lv_astore_n (lv' := [(2, .ref (a 0)), (1, .ref q1), (0, .ref b)]) hx hb dL_law_25 rfl hl (by decide) rfl (fun ls hl => ?_)
  refine lv_iconst (v := 1) hx hb dL_law_26 (by decide) ?_
  refine xn_j (N' := 1) hx hb (hts _ (List.mem_cons_of_mem _ (mL8 (m8 mx_458)))) hK hP hD hS hA (by decide) (by decide) (by decide) (Nat.le_of_ble_eq_true rfl) (Nat.le_of_ble_eq_true rfl) dL_law_27 (fun o H hP hD hS => ?_)
  refine lv_astore_n (lv' := [(3, .ref o), (2, .ref (a 0)), (1, .ref q1), (0, .ref b)]) hx hb dL_law_29 rfl hl (by decide) rfl (fun ls hl => ?_)
  refine lv_iconst (v := 1) hx hb dL_law_30 (by decide) ?_
  refine lv_istore (lv' := [(4, .int (1 : Int32)), (3, .ref o), (2, .ref (a 0)), (1, .ref q1), (0, .ref b)]) hx hb dL_law_31 hl (by decide) rfl (fun ls hl => ?_)
  refine lw_loop_L (bX := fun _ => q1) (bF := b8.1) (bS := b8.2.1) (bP := b8.2.2.2.2) (a := a) (o := o) C hL0 hX hbl hbA hL hK hA hAd hT 514 0 (u0, u0S, u0, u0, u0, u09 1) _ _ b8.2.2.1 b8.2.2.2.1 (fun _ => 0) H _ ls (by decide) (by decide) (by decide) hP hD hS (lv_sub hl [4, 3, 2, 1, 0] rfl) hpure
set_option maxHeartbeats 4000000 in
set_option maxRecDepth 100000 in
theorem law_go_B {p : Program} {l : Launch} {e : Env} {s : State} {m : MethodId} {below : List Frame} {meth : Method} {c : Code} {b L : Nat} {xs : Nat → Int32} (hL0 : l.stackTraces = false) (hL : L ≤ 2561) (C0 : lw_At p s m meth c b L xs) (hfm : ¬ 0 < fC L xs) (hpure : loopL_B xs L 514 0 (u0, u0S, u0, u0, u0, u09 0) = some ()) : W p l e room_1 s m #[Value.ref b] below meth c s.heap [] 0 0 (lw_Z below #[Value.ref b] s) (entryFrame m ([Value.ref b] : List Value).toArray 8) := by
  obtain ⟨hx, hb, hret, hml, hown, htl, hX, hbl, hlocks, hgv⟩ := C0
  obtain ⟨A, hAe⟩ : ∃ A : Nat → Prop, A = fun q => s.heap.size ≤ q := ⟨_, rfl⟩
  have hA : ∀ q : Nat, s.heap.size ≤ q → A q := fun q h => by rw [hAe]; exact h
  have hAd : ∀ q : Nat, A q → s.heap.size ≤ q := fun q h => by rw [hAe] at h; exact h
  have hbA : ¬ A b := fun h => absurd (hAd b h) (by omega)
  obtain ⟨G, hK, hT⟩ := st_all (A := A) htl hgv (fun a ha h => absurd (hAd a h) (by omega))
  have hts : ∀ w ∈ Cond.initialized RL :: WL, w.before #[Value.ref b] s = true := fun w hw => htl w ((List.mem_cons.mp hw).elim (fun e => e ▸ tWL _ ml_7) (tWL w))
  have C : Cx p s m #[Value.ref b] meth c cL_law 8 (Cond.initialized RL :: WL) RL ret := ⟨⟨hx, hb, hml, hown, hts⟩, hret, hlocks⟩
  have hS : va_S A s.heap s.heap [] := va_S.rf
  have hP : va_P (gD G) vwCl [] s.heap := fun k q h => by simp at h
  have hD : va_D A [] := ⟨fun i j p q h => by simp at h, fun k q h => by simp at h⟩
  have hl := lv_entry ([Value.ref b] : List Value) (n := 8) (Nat.le_of_ble_eq_true rfl)
  rw [lg_entry_eq]
  generalize (lg_sl ([Value.ref b] : List Value) ++ List.replicate (8 - (lg_sl ([Value.ref b] : List Value)).length) Slot.unset).toArray = ls at hl ⊢
  have hl : lv_has ls 8 [(0, .ref b)] := hl
  refine va_new (ci := 5) (fs := [.null, .null, .null, .null, .null, .int 0]) (C := RX8) (T := TX8) (N := 6) hx hb hts (fun w h => List.mem_cons_of_mem _ (mL8 (m8 (List.mem_append_right _ (List.mem_append_right _ (List.mem_append_right _ (List.mem_append_right _ h))))))) tyX8 tyX8_ok hown (hts _ (List.mem_cons_of_mem _ ml_0)) (hts _ (List.mem_cons_of_mem _ ml_1)) (hts _ (List.mem_cons_of_mem _ (mL8 (m8 mx_32)))) hK hP hD hS hA rfl (by decide +kernel) (Nat.le_of_ble_eq_true rfl) (Nat.le_of_ble_eq_true rfl) dL_law_0 (fun q1 H hP hD hS => ?_)
  have hP : va_P (gD G) vwCl [(q1, .inr (5, [.null, .null, .null, .null, .null, .int 0]))] H := hP
  have hD : va_D A [(q1, .inr (5, [.null, .null, .null, .null, .null, .int 0]))] := hD
  refine lv_dup hx hb dL_law_3 rfl ?_
  refine lv_aload_n hx hb dL_law_4 rfl (lv_at hl 0 rfl) ?_
  refine lv_iconst (v := 0) hx hb dL_law_5 (by decide) ?_
  refine W.callV (W.runS (g := F0 m 6 ls (.int (0 : Int32) :: .ref b :: [.ref q1, .ref q1])) (As := [.ref b, .int 0]) (rest := [.ref q1, .ref q1]) C.1 (cl_cell l b L xs hL) (va_cwS 2 hts (gdl_s ml_5 ml_6 ml_7 ml_8) rfl rfl rfl (by decide +kernel) ⟨Nat.le_of_ble_eq_true rfl, Nat.le_of_ble_eq_true rfl⟩) ⟨fC_blind, fC_pre hX hbl hbA hS⟩ rfl rfl hl.1 rfl (lv_room (Nat.le_of_ble_eq_true rfl)) dL_law_6 ⟨Nat.le_of_ble_eq_true rfl, Nat.le_of_ble_eq_true rfl⟩) ?_
  refine W.eq (g2 := F0 m 9 ls [.int (fC L xs), .ref q1, .ref q1]) rfl ?_
  refine xc_I (rm := { frames := 3, cells := 31, slots := 106039, locals := 60 }) (mc := 31) (ms := 106039) (w0 := [(q1, .inr (5, [.null, .null, .null, .null, .null, .int 0]))]) (wr := []) (As := [.int (fC L xs)]) (rest := [.ref q1]) C (ci_Own_B l G q1 H.size (fC L xs) hfm) (cwI 1 hts (gdl_n8 (mL8 (m8 mx_464))) rfl rfl rfl (hts _ (List.mem_cons_of_mem _ (mL8 (m8 mx_32)))) (hts _ (List.mem_cons_of_mem _ ml_9)) (hts _ (List.mem_cons_of_mem _ ml_10)) rfl (by decide +kernel) ⟨Nat.le_of_ble_eq_true rfl, Nat.le_of_ble_eq_true rfl⟩) hK hA hT.1.1 hP hD hS [0] [] (by decide) rfl rfl (by decide) (by decide) rfl hl.1 rfl (Nat.le_of_ble_eq_true rfl) dL_law_9 ⟨Nat.le_of_ble_eq_true rfl, Nat.le_of_ble_eq_true rfl⟩ (fun b8 H locs hp hP hD hS => ?_)
  have hP : va_P (gD G) vwCl (c8 1 G (fun _ => q1) b8.1 b8.2.1 b8.2.2.1 b8.2.2.2.1 b8.2.2.2.2 (b8.2.2.1 0) (b8.2.2.2.1 0) u0 u0S u0 u0 u0) H := hP
  have hD : va_D A (c8 1 G (fun _ => q1) b8.1 b8.2.1 b8.2.2.1 b8.2.2.2.1 b8.2.2.2.2 (b8.2.2.1 0) (b8.2.2.2.1 0) u0 u0S u0 u0 u0) := hD
  refine lv_astore_n (lv' := [(1, .ref q1), (0, .ref b)]) hx hb dL_law_12 rfl hl (by decide) rfl (fun ls hl => ?_)
  refine va_new (ci := 6) (fs := [.int 0, .int 0, .null, .int 0, .int 0, .null, .null, .null, .null, .null, .null, .null, .null, .int 0, .int 0, .int 0, .int 0, .int 0, .int 0, .int 0, .int 0, .int 0, .int 0, .null, .null, .null, .int 0, .int 0, .long 0, .int 0, .int 0]) (C := RX9) (T := TX9) (N := 31) hx hb hts (fun w h => List.mem_cons_of_mem _ (mL9 (List.mem_append_right _ h))) tyX9 tyX9_ok hown (hts _ (List.mem_cons_of_mem _ ml_2)) (hts _ (List.mem_cons_of_mem _ ml_3)) (hts _ (List.mem_cons_of_mem _ (mL9 m9_29))) hK hP hD hS hA rfl (by decide +kernel) (Nat.le_of_ble_eq_true rfl) (Nat.le_of_ble_eq_true rfl) dL_law_13 (fun q2 H hP hD hS => ?_)
  refine lv_dup hx hb dL_law_16 rfl ?_
  refine lv_aload_n hx hb dL_law_17 rfl (lv_at hl 1 rfl) ?_
  refine lv_iconst (v := 0) hx hb dL_law_18 (by decide) ?_
  refine W.callV (W.runS (g := F0 m 19 ls (.int (0 : Int32) :: .ref b :: [.ref q2, .ref q2])) (As := [.ref b, .int 0]) (rest := [.ref q2, .ref q2]) C.1 (cl_cell l b L xs hL) (va_cwS 2 hts (gdl_s ml_5 ml_6 ml_7 ml_8) rfl rfl rfl (by decide +kernel) ⟨Nat.le_of_ble_eq_true rfl, Nat.le_of_ble_eq_true rfl⟩) ⟨fC_blind, fC_pre hX hbl hbA hS⟩ rfl rfl hl.1 rfl (lv_room (Nat.le_of_ble_eq_true rfl)) dL_law_19 ⟨Nat.le_of_ble_eq_true rfl, Nat.le_of_ble_eq_true rfl⟩) ?_
  refine W.eq (g2 := F0 m 22 ls [.int (fC L xs), .ref q2, .ref q2]) rfl ?_
  refine xc_I9 (rm := { frames := 1, cells := 12, slots := 134602, locals := 32 }) (mc := 12) (ms := 134602) (w0 := [(q2, .inr (6, [.int 0, .int 0, .null, .int 0, .int 0, .null, .null, .null, .null, .null, .null, .null, .null, .int 0, .int 0, .int 0, .int 0, .int 0, .int 0, .int 0, .int 0, .int 0, .int 0, .null, .null, .null, .int 0, .int 0, .long 0, .int 0, .int 0]))]) (wr := (c8 1 G (fun _ => q1) b8.1 b8.2.1 b8.2.2.1 b8.2.2.2.1 b8.2.2.2.2 (b8.2.2.1 0) (b8.2.2.2.1 0) u0 u0S u0 u0 u0)) (As := [.int (fC L xs)]) (rest := [.ref q2]) C (ci_Ref_B l (gD G) (gI G) (gJ G) (gC G) q2 H.size (fC L xs) (fC_neg hfm)) (cwI 1 hts (gdl_n9 (mL9 m9_0)) rfl rfl rfl (hts _ (List.mem_cons_of_mem _ (mL9 m9_29))) (hts _ (List.mem_cons_of_mem _ ml_11)) (hts _ (List.mem_cons_of_mem _ ml_12)) rfl (by decide +kernel) ⟨Nat.le_of_ble_eq_true rfl, Nat.le_of_ble_eq_true rfl⟩) hK hA hP hD hS [32] [0, 1, 2, 3, 4, 5, 6, 7, 8, 9, 10, 11, 12, 13, 14, 15, 16, 17, 18, 19, 20, 21, 22, 23, 24, 25, 26, 27, 28, 29, 30, 31] (by decide) rfl rfl (by decide) (by decide) rfl hl.1 rfl (Nat.le_of_ble_eq_true rfl) dL_law_22 ⟨Nat.le_of_ble_eq_true rfl, Nat.le_of_ble_eq_true rfl⟩ (fun a H locs hp hP hD hS => ?_)
  try dsimp only at hp
  rw [← hp]
  refine lv_astore_n (lv' := [(2, .ref (a 0)), (1, .ref q1), (0, .ref b)]) hx hb dL_law_25 rfl hl (by decide) rfl (fun ls hl => ?_)
  refine lv_iconst (v := 1) hx hb dL_law_26 (by decide) ?_
  refine xn_j (N' := 1) hx hb (hts _ (List.mem_cons_of_mem _ (mL8 (m8 mx_458)))) hK hP hD hS hA (by decide) (by decide) (by decide) (Nat.le_of_ble_eq_true rfl) (Nat.le_of_ble_eq_true rfl) dL_law_27 (fun o H hP hD hS => ?_)
  refine lv_astore_n (lv' := [(3, .ref o), (2, .ref (a 0)), (1, .ref q1), (0, .ref b)]) hx hb dL_law_29 rfl hl (by decide) rfl (fun ls hl => ?_)
  refine lv_iconst (v := 1) hx hb dL_law_30 (by decide) ?_
  refine lv_istore (lv' := [(4, .int (1 : Int32)), (3, .ref o), (2, .ref (a 0)), (1, .ref q1), (0, .ref b)]) hx hb dL_law_31 hl (by decide) rfl (fun ls hl => ?_)
  refine lw_loop_B (bX := fun _ => q1) (bF := b8.1) (bS := b8.2.1) (bP := b8.2.2.2.2) (a := a) (o := o) C hL0 hX hbl hbA hL hK hA hAd hT 514 0 (u0, u0S, u0, u0, u0, u09 0) _ _ b8.2.2.1 b8.2.2.2.1 (fun _ => 0) H _ ls (by decide) (by decide) (by decide) hP hD hS (lv_sub hl [4, 3, 2, 1, 0] rfl) hpure
