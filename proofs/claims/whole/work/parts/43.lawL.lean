set_option maxHeartbeats 4000000 in
set_option maxRecDepth 100000 in
theorem lw_0_L {p : Program} {l : Launch} {e : Env} {s : State} {m : MethodId} {below : List Frame} {meth : Method} {c : Code} {H : Heap} {locs : List Loc} {cells slots : Nat} {Q : State → Prop} {ls : Array Slot} {b L n : Nat} {xs : Nat → Int32} {G : Gx} {A : Nat → Prop} {bX bF bS bT bV bP a : Nat → Nat} {o : Nat} {fo : Nat → Int64} {uX uS uT uV uP u : Md} {vX vS vT vV vP v : Md}
    (C : Cx p s m #[Value.ref b] meth c cL_law 8 (Cond.initialized RL :: WL) RL ret) (hL0 : l.stackTraces = false) (hX : va_X b L xs s s.heap) (hbl : b < s.heap.size) (hbA : ¬ A b) (hL : L ≤ 2561) (hn : 6 + 5 * n ≤ L) (hK : va_K (gD G) vwCl (tyG G) s) (hA : ∀ q : Nat, s.heap.size ≤ q → A q) (hT : STL G A s s.heap) (hcs : cells + 1 ≤ 601024 ∧ slots + 6 ≤ 7293000) (hP : va_P (gD G) vwCl (wLaw 0 G bX bF bS bT bV bP a o fo uX uS uT uV uP u) H) (hD : va_D A (wLaw 0 G bX bF bS bT bV bP a o fo uX uS uT uV uP u)) (hS : va_S A s.heap H locs) (hl : lv_has ls 8 [(0, .ref b), (1, .ref (bX 0)), (2, .ref (a 0)), (3, .ref o), (4, .int (iN n))]) (hf : sL_0_L uX uS uT uV uP u (xs (1 + 5 * n + 1)) = some (vX, vS, vT, vV, vP, v))
    (kk : ∀ (bT bV : Nat → Nat) (fo : Nat → Int64) (H : Heap) (locs : List Loc) (ls : Array Slot), va_P (gD G) vwCl (wLaw 0 G bX bF bS bT bV bP a o fo vX vS vT vV vP v) H → va_D A (wLaw 0 G bX bF bS bT bV bP a o fo vX vS vT vV vP v) → va_S A s.heap H locs → lv_has ls 8 [(0, .ref b), (1, .ref (bX 0)), (2, .ref (a 0)), (3, .ref o), (4, .int (iN n))] → W p l e room_1 s m #[Value.ref b] below meth c H locs (cells + 1) (slots + 6) Q (F0 m 761 ls [])) :
    W p l e room_1 s m #[Value.ref b] below meth c H locs cells slots Q (F0 m 116 ls []) := by
  obtain ⟨hc1, hc2⟩ := hcs
  have hx := C.1.1
  have hb := C.1.2.1
  have hown := C.1.2.2.2.1
  have hts := C.1.2.2.2.2
  unfold sL_0_L at hf
  have hf2 := og_b hf
  clear hf
  obtain ⟨⟨r, vS⟩, hq, hf⟩ := hf2
  have hf2 := og_b hf
  clear hf
  obtain ⟨⟨r9, v⟩, h9, hf⟩ := hf2
  try dsimp only at hf
  have hf2 := og_p hf
  clear hf
  obtain ⟨hr, hf⟩ := hf2
  subst hr
  cases (og_s hf)
  refine lv_aload_n hx hb dL_law_116 rfl (lv_at hl 1 rfl) ?_
  refine lv_aload_n hx hb dL_law_117 rfl (lv_at hl 0 rfl) ?_
  refine lv_iload hx hb dL_law_118 (lv_at hl 4 rfl) ?_
  refine lv_iconst (v := (1 : Int32)) hx hb dL_law_120 (by decide) ?_
  refine lv_iadd hx hb dL_law_121 ?_
  refine sld (j := 1) (n := n) hx hb hX hbl hbA hS rfl (by decide) hn hL dL_law_122 ?_
  refine yw8 (ov := (some (.int r))) (st1 := [.int r]) (rest := []) (w0 := (c8 0 G bX bF bS bT bV bP (bT 0) (bV 0) uX uS uT uV uP)) (w1 := (c8 0 G bX bF bS bT bV bP (bT 0) (bV 0) uX vS uT uV uP)) (wr := (cM (gI G) (gJ G) a u ++ oL G o fo)) (w' := (wLaw 0 G bX bF bS bT bV bP a o fo uX vS uT uV uP u)) C (c8_unit_L l G bX bF bS bT bV bP uX uS uT uV uP (xs (1 + 5 * n + 1)) r vS _ hq) (cwV 1 hts (gdl_v ml_13 ml_14 ml_15 (mL8 (m8 mx_32)) (mL8 (m8 mx_487))) rfl rfl rfl hd8_unit_L ⟨Nat.le_of_ble_eq_true rfl, Nat.le_of_ble_eq_true rfl⟩) hK hA hT.1 hP hD hS (va_recv hK hP (ci := 5) (q0 := 0) rfl rfl) [0, 1, 2, 3, 4, 5, 6, 7, 8, 9, 10, 11, 12, 13, 14, 15, 16, 17, 18, 19, 20, 21, 22, 23, 24, 25, 26, 27, 28, 29, 30, 31] [32, 33, 34, 35, 36, 37, 38, 39, 40, 41, 42, 43, 44, 45] [14, 15, 16, 17, 18, 19, 20, 21, 22, 23, 24, 25, 26, 27, 28, 29, 30, 31, 32, 33, 34, 35, 36, 37, 38, 39, 40, 41, 42, 43, 44, 45, 0, 1, 2, 3, 4, 5, 6, 7, 8, 9, 10, 11, 12, 13] rfl rfl rfl rfl (by decide) rfl rfl rfl hl.1 rfl rfl (Nat.le_of_ble_eq_true rfl) dL_law_123 ⟨(by show cells ≤ 601024; omega), (by show slots ≤ 7293000; omega)⟩ (fun H locs hP hD hS => ?_)
  refine lv_aload_n hx hb dL_law_126 rfl (lv_at hl 2 rfl) ?_
  refine lv_aload_n hx hb dL_law_127 rfl (lv_at hl 0 rfl) ?_
  refine lv_iload hx hb dL_law_128 (lv_at hl 4 rfl) ?_
  refine lv_iconst (v := (1 : Int32)) hx hb dL_law_130 (by decide) ?_
  refine lv_iadd hx hb dL_law_131 ?_
  refine sld (j := 1) (n := n) hx hb hX hbl hbA hS rfl (by decide) hn hL dL_law_132 ?_
  refine yw9 (ov := (some (.int r))) (st1 := [.int r, .int r]) (rest := [.int r]) (w0 := (cM (gI G) (gJ G) a u)) (w1 := cM (gI G) (gJ G) a v) (wr := (c8 0 G bX bF bS bT bV bP (bT 0) (bV 0) uX vS uT uV uP ++ oL G o fo)) (w' := (wLaw 0 G bX bF bS bT bV bP a o fo uX vS uT uV uP v)) C (c9_unit l (gD G) (gI G) (gJ G) (gC G) a u (xs (1 + 5 * n + 1)) r v _ h9) (cwV 1 hts (gdl_9 ml_16 ml_17 ml_18 (mL9 m9_29) (mL9 m9_23)) rfl rfl rfl hd9_unit ⟨Nat.le_of_ble_eq_true rfl, Nat.le_of_ble_eq_true rfl⟩) hK hA hP hD hS (va_recv hK hP (ci := 6) (q0 := 32) rfl rfl) [32, 33, 34, 35, 36, 37, 38, 39, 40, 41, 42, 43, 44] [0, 1, 2, 3, 4, 5, 6, 7, 8, 9, 10, 11, 12, 13, 14, 15, 16, 17, 18, 19, 20, 21, 22, 23, 24, 25, 26, 27, 28, 29, 30, 31, 45] [0, 1, 2, 3, 4, 5, 6, 7, 8, 9, 10, 11, 12, 13, 14, 15, 16, 17, 18, 19, 20, 21, 22, 23, 24, 25, 26, 27, 28, 29, 30, 31, 33, 34, 35, 36, 37, 38, 39, 40, 41, 42, 43, 44, 45, 32] rfl rfl rfl rfl (by decide) rfl rfl rfl hl.1 rfl rfl (Nat.le_of_ble_eq_true rfl) dL_law_133 ⟨(by show cells ≤ 601024; omega), (by show slots ≤ 7293000; omega)⟩ (fun H locs hP hD hS => ?_)
  refine lv_icmp_eq (tgt := 761) hx hb dL_law_136 (by decide) (fun _ => ?_) (fun h8 => absurd rfl h8)
  refine W.widen (k := cells + 1) (n := slots + 6) (by omega) (by omega) ?_
  exact kk bT bV _ H locs _ hP hD hS (lv_sub hl [0, 1, 2, 3, 4] rfl)
set_option maxHeartbeats 4000000 in
set_option maxRecDepth 100000 in
theorem lw_1_L {p : Program} {l : Launch} {e : Env} {s : State} {m : MethodId} {below : List Frame} {meth : Method} {c : Code} {H : Heap} {locs : List Loc} {cells slots : Nat} {Q : State → Prop} {ls : Array Slot} {b L n : Nat} {xs : Nat → Int32} {G : Gx} {A : Nat → Prop} {bX bF bS bT bV bP a : Nat → Nat} {o : Nat} {fo : Nat → Int64} {uX uS uT uV uP u : Md} {vX vS vT vV vP v : Md}
    (C : Cx p s m #[Value.ref b] meth c cL_law 8 (Cond.initialized RL :: WL) RL ret) (hL0 : l.stackTraces = false) (hX : va_X b L xs s s.heap) (hbl : b < s.heap.size) (hbA : ¬ A b) (hL : L ≤ 2561) (hn : 6 + 5 * n ≤ L) (hK : va_K (gD G) vwCl (tyG G) s) (hA : ∀ q : Nat, s.heap.size ≤ q → A q) (hT : STL G A s s.heap) (hcs : cells + 1 ≤ 601024 ∧ slots + 6 ≤ 7293000) (hP : va_P (gD G) vwCl (wLaw 0 G bX bF bS bT bV bP a o fo uX uS uT uV uP u) H) (hD : va_D A (wLaw 0 G bX bF bS bT bV bP a o fo uX uS uT uV uP u)) (hS : va_S A s.heap H locs) (hl : lv_has ls 8 [(0, .ref b), (1, .ref (bX 0)), (2, .ref (a 0)), (3, .ref o), (4, .int (iN n))]) (hf : sL_1_L uX uS uT uV uP u  = some (vX, vS, vT, vV, vP, v))
    (kk : ∀ (bT bV : Nat → Nat) (fo : Nat → Int64) (H : Heap) (locs : List Loc) (ls : Array Slot), va_P (gD G) vwCl (wLaw 0 G bX bF bS bT bV bP a o fo vX vS vT vV vP v) H → va_D A (wLaw 0 G bX bF bS bT bV bP a o fo vX vS vT vV vP v) → va_S A s.heap H locs → lv_has ls 8 [(0, .ref b), (1, .ref (bX 0)), (2, .ref (a 0)), (3, .ref o), (4, .int (iN n))] → W p l e room_1 s m #[Value.ref b] below meth c H locs (cells + 1) (slots + 6) Q (F0 m 761 ls [])) :
    W p l e room_1 s m #[Value.ref b] below meth c H locs cells slots Q (F0 m 141 ls []) := by
  obtain ⟨hc1, hc2⟩ := hcs
  have hx := C.1.1
  have hb := C.1.2.1
  have hown := C.1.2.2.2.1
  have hts := C.1.2.2.2.2
  unfold sL_1_L at hf
  have hf2 := og_b hf
  clear hf
  obtain ⟨⟨r, sw, vX, vS, vT, vV⟩, hq, hf⟩ := hf2
  have hf2 := og_b hf
  clear hf
  obtain ⟨⟨r9, v⟩, h9, hf⟩ := hf2
  try dsimp only at hf
  have hf2 := og_p hf
  clear hf
  obtain ⟨hr, hf⟩ := hf2
  subst hr
  cases (og_s hf)
  refine lv_aload_n hx hb dL_law_141 rfl (lv_at hl 1 rfl) ?_
  refine yw8 (ov := (some (.int r))) (st1 := [.int r]) (rest := []) (w0 := (c8 0 G bX bF bS bT bV bP (bT 0) (bV 0) uX uS uT uV uP)) (w1 := (c8 0 G bX bF bS (bif sw then bV else bT) (bif sw then bT else bV) bP ((bif sw then bV else bT) 0) ((bif sw then bT else bV) 0) vX vS vT vV uP)) (wr := (cM (gI G) (gJ G) a u ++ oL G o fo)) (w' := (wLaw 0 G bX bF bS (bif sw then bV else bT) (bif sw then bT else bV) bP a o fo vX vS vT vV uP u)) C (c8_read_L l G bX bF bS bT bV bP uX uS uT uV uP r sw vX vS vT vV _ hq) (cwV 0 hts (gdl_v ml_19 ml_20 ml_21 (mL8 (m8 mx_32)) (mL8 (m8 mx_491))) rfl rfl rfl hd8_read_L ⟨Nat.le_of_ble_eq_true rfl, Nat.le_of_ble_eq_true rfl⟩) hK hA hT.1 hP hD hS (va_recv hK hP (ci := 5) (q0 := 0) rfl rfl) [0, 1, 2, 3, 4, 5, 6, 7, 8, 9, 10, 11, 12, 13, 14, 15, 16, 17, 18, 19, 20, 21, 22, 23, 24, 25, 26, 27, 28, 29, 30, 31] [32, 33, 34, 35, 36, 37, 38, 39, 40, 41, 42, 43, 44, 45] [14, 15, 16, 17, 18, 19, 20, 21, 22, 23, 24, 25, 26, 27, 28, 29, 30, 31, 32, 33, 34, 35, 36, 37, 38, 39, 40, 41, 42, 43, 44, 45, 0, 1, 2, 3, 4, 5, 6, 7, 8, 9, 10, 11, 12, 13] rfl rfl rfl rfl (by decide) rfl rfl rfl hl.1 rfl rfl (Nat.le_of_ble_eq_true rfl) dL_law_142 ⟨(by show cells ≤ 601024; omega), (by show slots ≤ 7293000; omega)⟩ (fun H locs hP hD hS => ?_)
  generalize (bif sw then bV else bT) = bT, (bif sw then bT else bV) = bV at hP hD
  refine lv_aload_n hx hb dL_law_145 rfl (lv_at hl 2 rfl) ?_
  refine yw9 (ov := (some (.int r))) (st1 := [.int r, .int r]) (rest := [.int r]) (w0 := (cM (gI G) (gJ G) a u)) (w1 := cM (gI G) (gJ G) a v) (wr := (c8 0 G bX bF bS bT bV bP (bT 0) (bV 0) vX vS vT vV uP ++ oL G o fo)) (w' := (wLaw 0 G bX bF bS bT bV bP a o fo vX vS vT vV uP v)) C (c9_read l (gD G) (gI G) (gJ G) (gC G) a u  r v _ h9) (cwV 0 hts (gdl_9 ml_22 ml_23 ml_24 (mL9 m9_29) (mL9 m9_182)) rfl rfl rfl hd9_read ⟨Nat.le_of_ble_eq_true rfl, Nat.le_of_ble_eq_true rfl⟩) hK hA hP hD hS (va_recv hK hP (ci := 6) (q0 := 32) rfl rfl) [32, 33, 34, 35, 36, 37, 38, 39, 40, 41, 42, 43, 44] [0, 1, 2, 3, 4, 5, 6, 7, 8, 9, 10, 11, 12, 13, 14, 15, 16, 17, 18, 19, 20, 21, 22, 23, 24, 25, 26, 27, 28, 29, 30, 31, 45] [0, 1, 2, 3, 4, 5, 6, 7, 8, 9, 10, 11, 12, 13, 14, 15, 16, 17, 18, 19, 20, 21, 22, 23, 24, 25, 26, 27, 28, 29, 30, 31, 33, 34, 35, 36, 37, 38, 39, 40, 41, 42, 43, 44, 45, 32] rfl rfl rfl rfl (by decide) rfl rfl rfl hl.1 rfl rfl (Nat.le_of_ble_eq_true rfl) dL_law_146 ⟨(by show cells ≤ 601024; omega), (by show slots ≤ 7293000; omega)⟩ (fun H locs hP hD hS => ?_)
  refine lv_icmp_eq (tgt := 761) hx hb dL_law_149 (by decide) (fun _ => ?_) (fun h8 => absurd rfl h8)
  refine W.widen (k := cells + 1) (n := slots + 6) (by omega) (by omega) ?_
  exact kk _ _ _ H locs _ hP hD hS (lv_sub hl [0, 1, 2, 3, 4] rfl)
set_option maxHeartbeats 4000000 in
set_option maxRecDepth 100000 in
theorem lw_2_L {p : Program} {l : Launch} {e : Env} {s : State} {m : MethodId} {below : List Frame} {meth : Method} {c : Code} {H : Heap} {locs : List Loc} {cells slots : Nat} {Q : State → Prop} {ls : Array Slot} {b L n : Nat} {xs : Nat → Int32} {G : Gx} {A : Nat → Prop} {bX bF bS bT bV bP a : Nat → Nat} {o : Nat} {fo : Nat → Int64} {uX uS uT uV uP u : Md} {vX vS vT vV vP v : Md}
    (C : Cx p s m #[Value.ref b] meth c cL_law 8 (Cond.initialized RL :: WL) RL ret) (hL0 : l.stackTraces = false) (hX : va_X b L xs s s.heap) (hbl : b < s.heap.size) (hbA : ¬ A b) (hL : L ≤ 2561) (hn : 6 + 5 * n ≤ L) (hK : va_K (gD G) vwCl (tyG G) s) (hA : ∀ q : Nat, s.heap.size ≤ q → A q) (hT : STL G A s s.heap) (hcs : cells + 1 ≤ 601024 ∧ slots + 6 ≤ 7293000) (hP : va_P (gD G) vwCl (wLaw 0 G bX bF bS bT bV bP a o fo uX uS uT uV uP u) H) (hD : va_D A (wLaw 0 G bX bF bS bT bV bP a o fo uX uS uT uV uP u)) (hS : va_S A s.heap H locs) (hl : lv_has ls 8 [(0, .ref b), (1, .ref (bX 0)), (2, .ref (a 0)), (3, .ref o), (4, .int (iN n))]) (hf : sL_2_L uX uS uT uV uP u (xs (1 + 5 * n + 1)) = some (vX, vS, vT, vV, vP, v))
    (kk : ∀ (bT bV : Nat → Nat) (fo : Nat → Int64) (H : Heap) (locs : List Loc) (ls : Array Slot), va_P (gD G) vwCl (wLaw 0 G bX bF bS bT bV bP a o fo vX vS vT vV vP v) H → va_D A (wLaw 0 G bX bF bS bT bV bP a o fo vX vS vT vV vP v) → va_S A s.heap H locs → lv_has ls 8 [(0, .ref b), (1, .ref (bX 0)), (2, .ref (a 0)), (3, .ref o), (4, .int (iN n))] → W p l e room_1 s m #[Value.ref b] below meth c H locs (cells + 1) (slots + 6) Q (F0 m 761 ls [])) :
    W p l e room_1 s m #[Value.ref b] below meth c H locs cells slots Q (F0 m 154 ls []) := by
  obtain ⟨hc1, hc2⟩ := hcs
  have hx := C.1.1
  have hb := C.1.2.1
  have hown := C.1.2.2.2.1
  have hts := C.1.2.2.2.2
  unfold sL_2_L at hf
  have hf2 := og_b hf
  clear hf
  obtain ⟨q8, hq, hf⟩ := hf2
  have hf2 := og_b hf
  clear hf
  obtain ⟨⟨r9, v⟩, h9, hf⟩ := hf2
  rcases q8 with e9 | r8
  · dsimp only [Sum.elim_inl] at hf
    by_cases he : e9 = 1
    · replace hf := og_t he hf
      subst he
      have hf2 := og_p hf
      clear hf
      obtain ⟨hg, hf⟩ := hf2
      cases (og_s hf)
      refine lv_aload_n hx hb dL_law_154 rfl (lv_at hl 1 rfl) ?_
      refine lv_aload_n hx hb dL_law_155 rfl (lv_at hl 0 rfl) ?_
      refine lv_iload hx hb dL_law_156 (lv_at hl 4 rfl) ?_
      refine lv_iconst (v := (1 : Int32)) hx hb dL_law_158 (by decide) ?_
      refine lv_iadd hx hb dL_law_159 ?_
      refine sld (j := 1) (n := n) hx hb hX hbl hbA hS rfl (by decide) hn hL dL_law_160 ?_
      refine lv_aload_n hx hb dL_law_161 rfl (lv_at hl 3 rfl) ?_
      refine ywH (ov := some (.int 1)) (st1 := [.int (1 : Int32)]) (rest := []) (w0 := (c8 0 G bX bF bS bT bV bP (bT 0) (bV 0) uX uS uT uV uP ++ oL G o fo)) (w1 := (c8 0 G bX bF bS bT bV bP (bT 0) (bV 0) uX uS uT uV uP ++ oL G o fo)) (wr := cM (gI G) (gJ G) a u) (w' := (wLaw 0 G bX bF bS bT bV bP a o fo uX uS uT uV uP u)) C (ht1_kind_L l hL0 G bX bF bS bT bV bP o fo uX uS uT uV uP (xs (1 + 5 * n + 1)) hq _) (vx_cwSW 3 hts (gdl_s ml_25 ml_26 ml_7 ml_27) rfl rfl rfl (by decide +kernel) ⟨Nat.le_of_ble_eq_true rfl, Nat.le_of_ble_eq_true rfl⟩) hK hA hT hP hD hS [0, 1, 2, 3, 4, 5, 6, 7, 8, 9, 10, 11, 12, 13, 14, 15, 16, 17, 18, 19, 20, 21, 22, 23, 24, 25, 26, 27, 28, 29, 30, 31, 45] [32, 33, 34, 35, 36, 37, 38, 39, 40, 41, 42, 43, 44] [13, 14, 15, 16, 17, 18, 19, 20, 21, 22, 23, 24, 25, 26, 27, 28, 29, 30, 31, 32, 33, 34, 35, 36, 37, 38, 39, 40, 41, 42, 43, 44, 0, 1, 2, 3, 4, 5, 6, 7, 8, 9, 10, 11, 12, 45] rfl rfl rfl rfl (by decide) rfl rfl rfl hl.1 rfl rfl (Nat.le_of_ble_eq_true rfl) dL_law_162 ⟨hc1, hc2⟩ (fun H locs hP hD hS => ?_)
      refine lv_istore (lv' := [(5, .int (1 : Int32)), (0, .ref b), (1, .ref (bX 0)), (2, .ref (a 0)), (3, .ref o), (4, .int (iN n))]) hx hb dL_law_165 hl (by decide) rfl (fun ls hl => ?_)
      refine lv_aload_n hx hb dL_law_167 rfl (lv_at hl 3 rfl) ?_
      refine lv_aload_n hx hb dL_law_168 rfl (lv_at hl 1 rfl) ?_
      refine lv_iload hx hb dL_law_169 (lv_at hl 5 rfl) ?_
      refine lv_iconst (v := (1 : Int32)) hx hb dL_law_171 (by decide) ?_
      refine lv_iadd hx hb dL_law_172 ?_
      refine sld (j := 1) (n := n) hx hb hX hbl hbA hS rfl (by decide) hn hL dL_law_173 ?_
      refine yw9 (ov := (some (.int r9))) (st1 := [.int r9]) (rest := []) (w0 := (cM (gI G) (gJ G) a u)) (w1 := cM (gI G) (gJ G) a v) (wr := (c8 0 G bX bF bS bT bV bP (bT 0) (bV 0) uX uS uT uV uP ++ oL G o fo)) (w' := (wLaw 0 G bX bF bS bT bV bP a o fo uX uS uT uV uP v)) C (c9_kind l (gD G) (gI G) (gJ G) (gC G) a u (xs (1 + 5 * n + 1)) r9 v _ h9) (cwV 1 hts (gdl_9 ml_32 ml_33 ml_34 (mL9 m9_29) (mL9 m9_190)) rfl rfl rfl hd9_kind ⟨Nat.le_of_ble_eq_true rfl, Nat.le_of_ble_eq_true rfl⟩) hK hA hP hD hS (va_recv hK hP (ci := 6) (q0 := 32) rfl rfl) [32, 33, 34, 35, 36, 37, 38, 39, 40, 41, 42, 43, 44] [0, 1, 2, 3, 4, 5, 6, 7, 8, 9, 10, 11, 12, 13, 14, 15, 16, 17, 18, 19, 20, 21, 22, 23, 24, 25, 26, 27, 28, 29, 30, 31, 45] [0, 1, 2, 3, 4, 5, 6, 7, 8, 9, 10, 11, 12, 13, 14, 15, 16, 17, 18, 19, 20, 21, 22, 23, 24, 25, 26, 27, 28, 29, 30, 31, 33, 34, 35, 36, 37, 38, 39, 40, 41, 42, 43, 44, 45, 32] rfl rfl rfl rfl (by decide) rfl rfl rfl hl.1 rfl rfl (Nat.le_of_ble_eq_true rfl) dL_law_174 ⟨(by show cells + 1 ≤ 601024; omega), (by show slots + 6 ≤ 7293000; omega)⟩ (fun H locs hP hD hS => ?_)
      refine lv_istore (lv' := [(6, .int r9), (5, .int (1 : Int32)), (0, .ref b), (1, .ref (bX 0)), (2, .ref (a 0)), (3, .ref o), (4, .int (iN n))]) hx hb dL_law_177 hl (by decide) rfl (fun ls hl => ?_)
      refine lv_aload_n hx hb dL_law_179 rfl (lv_at hl 4 rfl) ?_
      refine yr9 (v := .int (gi v 0)) (rest := []) (w0 := (cM (gI G) (gJ G) a v)) C (c9_thrown l (gD G) (gI G) (gJ G) (gC G) a v _ _ rfl) (cwV 0 hts (gdl_9 ml_35 ml_36 ml_37 (mL9 m9_29) (mL9 m9_22)) rfl rfl rfl hd9_thrown ⟨Nat.le_of_ble_eq_true rfl, Nat.le_of_ble_eq_true rfl⟩) hK hP hD (va_recv hK hP (ci := 6) (q0 := 32) rfl rfl) [32, 33, 34, 35, 36, 37, 38, 39, 40, 41, 42, 43, 44] rfl rfl rfl hl.1 rfl (Nat.le_of_ble_eq_true rfl) dL_law_180 ⟨(by show cells + 1 ≤ 601024; omega), (by show slots + 6 ≤ 7293000; omega)⟩ ?_
      refine lv_iload hx hb dL_law_183 (lv_at hl 1 rfl) ?_
      refine lv_icmp_eq (tgt := 190) hx hb dL_law_185 (by decide) (fun _ => ?_) (fun h8 => absurd hg h8)
      refine lv_iload hx hb dL_law_190 (lv_at hl 1 rfl) ?_
      refine lv_if_ne (tgt := 207) hx hb dL_law_192 (by decide) (fun _ => ?_) (fun h8 => absurd h8 (by decide))
      refine lv_goto (tgt := 761) hx hb dL_law_207 (by decide) ?_
      exact kk bT bV _ H locs _ hP hD hS (lv_sub hl [2, 3, 4, 5, 6] rfl)
    · replace hf := og_f he hf
      cases hf
  · obtain ⟨r, rfl⟩ : ∃ r, r = r8 := ⟨_, rfl⟩
    dsimp only [Sum.elim_inr] at hf
    have hf2 := og_p hf
    clear hf
    obtain ⟨⟨hg, hr⟩, hf⟩ := hf2
    subst hr
    cases (og_s hf)
    refine lv_aload_n hx hb dL_law_154 rfl (lv_at hl 1 rfl) ?_
    refine lv_aload_n hx hb dL_law_155 rfl (lv_at hl 0 rfl) ?_
    refine lv_iload hx hb dL_law_156 (lv_at hl 4 rfl) ?_
    refine lv_iconst (v := (1 : Int32)) hx hb dL_law_158 (by decide) ?_
    refine lv_iadd hx hb dL_law_159 ?_
    refine sld (j := 1) (n := n) hx hb hX hbl hbA hS rfl (by decide) hn hL dL_law_160 ?_
    refine lv_aload_n hx hb dL_law_161 rfl (lv_at hl 3 rfl) ?_
    refine ywH (ov := some (.int 0)) (st1 := [.int (0 : Int32)]) (rest := []) (w0 := (c8 0 G bX bF bS bT bV bP (bT 0) (bV 0) uX uS uT uV uP ++ oL G o fo)) (w1 := (c8 0 G bX bF bS bT bV bP (bT 0) (bV 0) uX uS uT uV uP ++ oL G o (vp_updL fo 0 r.toInt64))) (wr := cM (gI G) (gJ G) a u) (w' := (wLaw 0 G bX bF bS bT bV bP a o (vp_updL fo 0 r.toInt64) uX uS uT uV uP u)) C (hr_kind_L l G bX bF bS bT bV bP o fo uX uS uT uV uP (xs (1 + 5 * n + 1)) r hq _) (vx_cwSW 3 hts (gdl_s ml_25 ml_26 ml_7 ml_27) rfl rfl rfl (by decide +kernel) ⟨Nat.le_of_ble_eq_true rfl, Nat.le_of_ble_eq_true rfl⟩) hK hA hT hP hD hS [0, 1, 2, 3, 4, 5, 6, 7, 8, 9, 10, 11, 12, 13, 14, 15, 16, 17, 18, 19, 20, 21, 22, 23, 24, 25, 26, 27, 28, 29, 30, 31, 45] [32, 33, 34, 35, 36, 37, 38, 39, 40, 41, 42, 43, 44] [13, 14, 15, 16, 17, 18, 19, 20, 21, 22, 23, 24, 25, 26, 27, 28, 29, 30, 31, 32, 33, 34, 35, 36, 37, 38, 39, 40, 41, 42, 43, 44, 0, 1, 2, 3, 4, 5, 6, 7, 8, 9, 10, 11, 12, 45] rfl rfl rfl rfl (by decide) rfl rfl rfl hl.1 rfl rfl (Nat.le_of_ble_eq_true rfl) dL_law_162 ⟨hc1, hc2⟩ (fun H locs hP hD hS => ?_)
    refine lv_istore (lv' := [(5, .int (0 : Int32)), (0, .ref b), (1, .ref (bX 0)), (2, .ref (a 0)), (3, .ref o), (4, .int (iN n))]) hx hb dL_law_165 hl (by decide) rfl (fun ls hl => ?_)
    refine lv_aload_n hx hb dL_law_167 rfl (lv_at hl 3 rfl) ?_
    refine lv_aload_n hx hb dL_law_168 rfl (lv_at hl 1 rfl) ?_
    refine lv_iload hx hb dL_law_169 (lv_at hl 5 rfl) ?_
    refine lv_iconst (v := (1 : Int32)) hx hb dL_law_171 (by decide) ?_
    refine lv_iadd hx hb dL_law_172 ?_
    refine sld (j := 1) (n := n) hx hb hX hbl hbA hS rfl (by decide) hn hL dL_law_173 ?_
    refine yw9 (ov := (some (.int r))) (st1 := [.int r]) (rest := []) (w0 := (cM (gI G) (gJ G) a u)) (w1 := cM (gI G) (gJ G) a v) (wr := (c8 0 G bX bF bS bT bV bP (bT 0) (bV 0) uX uS uT uV uP ++ oL G o (vp_updL fo 0 r.toInt64))) (w' := (wLaw 0 G bX bF bS bT bV bP a o (vp_updL fo 0 r.toInt64) uX uS uT uV uP v)) C (c9_kind l (gD G) (gI G) (gJ G) (gC G) a u (xs (1 + 5 * n + 1)) r v _ h9) (cwV 1 hts (gdl_9 ml_32 ml_33 ml_34 (mL9 m9_29) (mL9 m9_190)) rfl rfl rfl hd9_kind ⟨Nat.le_of_ble_eq_true rfl, Nat.le_of_ble_eq_true rfl⟩) hK hA hP hD hS (va_recv hK hP (ci := 6) (q0 := 32) rfl rfl) [32, 33, 34, 35, 36, 37, 38, 39, 40, 41, 42, 43, 44] [0, 1, 2, 3, 4, 5, 6, 7, 8, 9, 10, 11, 12, 13, 14, 15, 16, 17, 18, 19, 20, 21, 22, 23, 24, 25, 26, 27, 28, 29, 30, 31, 45] [0, 1, 2, 3, 4, 5, 6, 7, 8, 9, 10, 11, 12, 13, 14, 15, 16, 17, 18, 19, 20, 21, 22, 23, 24, 25, 26, 27, 28, 29, 30, 31, 33, 34, 35, 36, 37, 38, 39, 40, 41, 42, 43, 44, 45, 32] rfl rfl rfl rfl (by decide) rfl rfl rfl hl.1 rfl rfl (Nat.le_of_ble_eq_true rfl) dL_law_174 ⟨(by show cells + 1 ≤ 601024; omega), (by show slots + 6 ≤ 7293000; omega)⟩ (fun H locs hP hD hS => ?_)
    refine lv_istore (lv' := [(6, .int r), (5, .int (0 : Int32)), (0, .ref b), (1, .ref (bX 0)), (2, .ref (a 0)), (3, .ref o), (4, .int (iN n))]) hx hb dL_law_177 hl (by decide) rfl (fun ls hl => ?_)
    refine lv_aload_n hx hb dL_law_179 rfl (lv_at hl 4 rfl) ?_
    refine yr9 (v := .int (gi v 0)) (rest := []) (w0 := (cM (gI G) (gJ G) a v)) C (c9_thrown l (gD G) (gI G) (gJ G) (gC G) a v _ _ rfl) (cwV 0 hts (gdl_9 ml_35 ml_36 ml_37 (mL9 m9_29) (mL9 m9_22)) rfl rfl rfl hd9_thrown ⟨Nat.le_of_ble_eq_true rfl, Nat.le_of_ble_eq_true rfl⟩) hK hP hD (va_recv hK hP (ci := 6) (q0 := 32) rfl rfl) [32, 33, 34, 35, 36, 37, 38, 39, 40, 41, 42, 43, 44] rfl rfl rfl hl.1 rfl (Nat.le_of_ble_eq_true rfl) dL_law_180 ⟨(by show cells + 1 ≤ 601024; omega), (by show slots + 6 ≤ 7293000; omega)⟩ ?_
    refine lv_iload hx hb dL_law_183 (lv_at hl 1 rfl) ?_
    refine lv_icmp_eq (tgt := 190) hx hb dL_law_185 (by decide) (fun _ => ?_) (fun h8 => absurd hg h8)
    refine lv_iload hx hb dL_law_190 (lv_at hl 1 rfl) ?_
    refine lv_if_ne (tgt := 207) hx hb dL_law_192 (by decide) (fun h8 => absurd rfl h8) (fun _ => ?_)
    refine lv_aload_n hx hb dL_law_195 rfl (lv_at hl 5 rfl) ?_
    refine lv_iconst (v := (0 : Int32)) hx hb dL_law_196 (by decide) ?_
    refine va_lald hx hb hK hP 45 1 rfl rfl vi01 dL_law_197 ?_
    refine W.eq (g2 := F0 m 198 ls [.long r.toInt64]) rfl ?_
    refine lv_iload hx hb dL_law_198 (lv_at hl 0 rfl) ?_
    refine lv_i2l (v := r.toInt64) hx hb dL_law_200 rfl ?_
    refine W.lcmp hx hb dL_law_201 ?_
    refine lv_if_eq (tgt := 207) hx hb dL_law_202 (by decide) (fun _ => ?_) (fun h8 => absurd (lg_self _) h8)
    refine lv_goto (tgt := 761) hx hb dL_law_207 (by decide) ?_
    exact kk bT bV _ H locs _ hP hD hS (lv_sub hl [2, 3, 4, 5, 6] rfl)
set_option maxHeartbeats 4000000 in
set_option maxRecDepth 100000 in
theorem lw_3_L {p : Program} {l : Launch} {e : Env} {s : State} {m : MethodId} {below : List Frame} {meth : Method} {c : Code} {H : Heap} {locs : List Loc} {cells slots : Nat} {Q : State → Prop} {ls : Array Slot} {b L n : Nat} {xs : Nat → Int32} {G : Gx} {A : Nat → Prop} {bX bF bS bT bV bP a : Nat → Nat} {o : Nat} {fo : Nat → Int64} {uX uS uT uV uP u : Md} {vX vS vT vV vP v : Md}
    (C : Cx p s m #[Value.ref b] meth c cL_law 8 (Cond.initialized RL :: WL) RL ret) (hL0 : l.stackTraces = false) (hX : va_X b L xs s s.heap) (hbl : b < s.heap.size) (hbA : ¬ A b) (hL : L ≤ 2561) (hn : 6 + 5 * n ≤ L) (hK : va_K (gD G) vwCl (tyG G) s) (hA : ∀ q : Nat, s.heap.size ≤ q → A q) (hT : STL G A s s.heap) (hcs : cells + 1 ≤ 601024 ∧ slots + 6 ≤ 7293000) (hP : va_P (gD G) vwCl (wLaw 0 G bX bF bS bT bV bP a o fo uX uS uT uV uP u) H) (hD : va_D A (wLaw 0 G bX bF bS bT bV bP a o fo uX uS uT uV uP u)) (hS : va_S A s.heap H locs) (hl : lv_has ls 8 [(0, .ref b), (1, .ref (bX 0)), (2, .ref (a 0)), (3, .ref o), (4, .int (iN n))]) (hf : sL_3_L uX uS uT uV uP u (xs (1 + 5 * n + 1)) = some (vX, vS, vT, vV, vP, v))
    (kk : ∀ (bT bV : Nat → Nat) (fo : Nat → Int64) (H : Heap) (locs : List Loc) (ls : Array Slot), va_P (gD G) vwCl (wLaw 0 G bX bF bS bT bV bP a o fo vX vS vT vV vP v) H → va_D A (wLaw 0 G bX bF bS bT bV bP a o fo vX vS vT vV vP v) → va_S A s.heap H locs → lv_has ls 8 [(0, .ref b), (1, .ref (bX 0)), (2, .ref (a 0)), (3, .ref o), (4, .int (iN n))] → W p l e room_1 s m #[Value.ref b] below meth c H locs (cells + 1) (slots + 6) Q (F0 m 761 ls [])) :
    W p l e room_1 s m #[Value.ref b] below meth c H locs cells slots Q (F0 m 210 ls []) := by
  obtain ⟨hc1, hc2⟩ := hcs
  have hx := C.1.1
  have hb := C.1.2.1
  have hown := C.1.2.2.2.1
  have hts := C.1.2.2.2.2
  unfold sL_3_L at hf
  have hf2 := og_b hf
  clear hf
  obtain ⟨q8, hq, hf⟩ := hf2
  have hf2 := og_b hf
  clear hf
  obtain ⟨⟨r9, v⟩, h9, hf⟩ := hf2
  rcases q8 with e9 | r8
  · dsimp only [Sum.elim_inl] at hf
    by_cases he : e9 = 1
    · replace hf := og_t he hf
      subst he
      have hf2 := og_p hf
      clear hf
      obtain ⟨hg, hf⟩ := hf2
      cases (og_s hf)
      refine lv_aload_n hx hb dL_law_210 rfl (lv_at hl 1 rfl) ?_
      refine lv_aload_n hx hb dL_law_211 rfl (lv_at hl 0 rfl) ?_
      refine lv_iload hx hb dL_law_212 (lv_at hl 4 rfl) ?_
      refine lv_iconst (v := (1 : Int32)) hx hb dL_law_214 (by decide) ?_
      refine lv_iadd hx hb dL_law_215 ?_
      refine sld (j := 1) (n := n) hx hb hX hbl hbA hS rfl (by decide) hn hL dL_law_216 ?_
      refine lv_aload_n hx hb dL_law_217 rfl (lv_at hl 3 rfl) ?_
      refine ywH (ov := some (.int 1)) (st1 := [.int (1 : Int32)]) (rest := []) (w0 := (c8 0 G bX bF bS bT bV bP (bT 0) (bV 0) uX uS uT uV uP ++ oL G o fo)) (w1 := (c8 0 G bX bF bS bT bV bP (bT 0) (bV 0) uX uS uT uV uP ++ oL G o fo)) (wr := cM (gI G) (gJ G) a u) (w' := (wLaw 0 G bX bF bS bT bV bP a o fo uX uS uT uV uP u)) C (ht1_parent_L l hL0 G bX bF bS bT bV bP o fo uX uS uT uV uP (xs (1 + 5 * n + 1)) hq _) (vx_cwSW 3 hts (gdl_s ml_38 ml_39 ml_7 ml_40) rfl rfl rfl (by decide +kernel) ⟨Nat.le_of_ble_eq_true rfl, Nat.le_of_ble_eq_true rfl⟩) hK hA hT hP hD hS [0, 1, 2, 3, 4, 5, 6, 7, 8, 9, 10, 11, 12, 13, 14, 15, 16, 17, 18, 19, 20, 21, 22, 23, 24, 25, 26, 27, 28, 29, 30, 31, 45] [32, 33, 34, 35, 36, 37, 38, 39, 40, 41, 42, 43, 44] [13, 14, 15, 16, 17, 18, 19, 20, 21, 22, 23, 24, 25, 26, 27, 28, 29, 30, 31, 32, 33, 34, 35, 36, 37, 38, 39, 40, 41, 42, 43, 44, 0, 1, 2, 3, 4, 5, 6, 7, 8, 9, 10, 11, 12, 45] rfl rfl rfl rfl (by decide) rfl rfl rfl hl.1 rfl rfl (Nat.le_of_ble_eq_true rfl) dL_law_218 ⟨hc1, hc2⟩ (fun H locs hP hD hS => ?_)
      refine lv_istore (lv' := [(5, .int (1 : Int32)), (0, .ref b), (1, .ref (bX 0)), (2, .ref (a 0)), (3, .ref o), (4, .int (iN n))]) hx hb dL_law_221 hl (by decide) rfl (fun ls hl => ?_)
      refine lv_aload_n hx hb dL_law_223 rfl (lv_at hl 3 rfl) ?_
      refine lv_aload_n hx hb dL_law_224 rfl (lv_at hl 1 rfl) ?_
      refine lv_iload hx hb dL_law_225 (lv_at hl 5 rfl) ?_
      refine lv_iconst (v := (1 : Int32)) hx hb dL_law_227 (by decide) ?_
      refine lv_iadd hx hb dL_law_228 ?_
      refine sld (j := 1) (n := n) hx hb hX hbl hbA hS rfl (by decide) hn hL dL_law_229 ?_
      refine yw9 (ov := (some (.int r9))) (st1 := [.int r9]) (rest := []) (w0 := (cM (gI G) (gJ G) a u)) (w1 := cM (gI G) (gJ G) a v) (wr := (c8 0 G bX bF bS bT bV bP (bT 0) (bV 0) uX uS uT uV uP ++ oL G o fo)) (w' := (wLaw 0 G bX bF bS bT bV bP a o fo uX uS uT uV uP v)) C (c9_parent l (gD G) (gI G) (gJ G) (gC G) a u (xs (1 + 5 * n + 1)) r9 v _ h9) (cwV 1 hts (gdl_9 ml_44 ml_45 ml_46 (mL9 m9_29) (mL9 m9_194)) rfl rfl rfl hd9_parent ⟨Nat.le_of_ble_eq_true rfl, Nat.le_of_ble_eq_true rfl⟩) hK hA hP hD hS (va_recv hK hP (ci := 6) (q0 := 32) rfl rfl) [32, 33, 34, 35, 36, 37, 38, 39, 40, 41, 42, 43, 44] [0, 1, 2, 3, 4, 5, 6, 7, 8, 9, 10, 11, 12, 13, 14, 15, 16, 17, 18, 19, 20, 21, 22, 23, 24, 25, 26, 27, 28, 29, 30, 31, 45] [0, 1, 2, 3, 4, 5, 6, 7, 8, 9, 10, 11, 12, 13, 14, 15, 16, 17, 18, 19, 20, 21, 22, 23, 24, 25, 26, 27, 28, 29, 30, 31, 33, 34, 35, 36, 37, 38, 39, 40, 41, 42, 43, 44, 45, 32] rfl rfl rfl rfl (by decide) rfl rfl rfl hl.1 rfl rfl (Nat.le_of_ble_eq_true rfl) dL_law_230 ⟨(by show cells + 1 ≤ 601024; omega), (by show slots + 6 ≤ 7293000; omega)⟩ (fun H locs hP hD hS => ?_)
      refine lv_istore (lv' := [(6, .int r9), (5, .int (1 : Int32)), (0, .ref b), (1, .ref (bX 0)), (2, .ref (a 0)), (3, .ref o), (4, .int (iN n))]) hx hb dL_law_233 hl (by decide) rfl (fun ls hl => ?_)
      refine lv_aload_n hx hb dL_law_235 rfl (lv_at hl 4 rfl) ?_
      refine yr9 (v := .int (gi v 0)) (rest := []) (w0 := (cM (gI G) (gJ G) a v)) C (c9_thrown l (gD G) (gI G) (gJ G) (gC G) a v _ _ rfl) (cwV 0 hts (gdl_9 ml_35 ml_36 ml_37 (mL9 m9_29) (mL9 m9_22)) rfl rfl rfl hd9_thrown ⟨Nat.le_of_ble_eq_true rfl, Nat.le_of_ble_eq_true rfl⟩) hK hP hD (va_recv hK hP (ci := 6) (q0 := 32) rfl rfl) [32, 33, 34, 35, 36, 37, 38, 39, 40, 41, 42, 43, 44] rfl rfl rfl hl.1 rfl (Nat.le_of_ble_eq_true rfl) dL_law_236 ⟨(by show cells + 1 ≤ 601024; omega), (by show slots + 6 ≤ 7293000; omega)⟩ ?_
      refine lv_iload hx hb dL_law_239 (lv_at hl 1 rfl) ?_
      refine lv_icmp_eq (tgt := 246) hx hb dL_law_241 (by decide) (fun _ => ?_) (fun h8 => absurd hg h8)
      refine lv_iload hx hb dL_law_246 (lv_at hl 1 rfl) ?_
      refine lv_if_ne (tgt := 263) hx hb dL_law_248 (by decide) (fun _ => ?_) (fun h8 => absurd h8 (by decide))
      refine lv_goto (tgt := 761) hx hb dL_law_263 (by decide) ?_
      exact kk bT bV _ H locs _ hP hD hS (lv_sub hl [2, 3, 4, 5, 6] rfl)
    · replace hf := og_f he hf
      cases hf
  · obtain ⟨r, rfl⟩ : ∃ r, r = r8 := ⟨_, rfl⟩
    dsimp only [Sum.elim_inr] at hf
    have hf2 := og_p hf
    clear hf
    obtain ⟨⟨hg, hr⟩, hf⟩ := hf2
    subst hr
    cases (og_s hf)
    refine lv_aload_n hx hb dL_law_210 rfl (lv_at hl 1 rfl) ?_
    refine lv_aload_n hx hb dL_law_211 rfl (lv_at hl 0 rfl) ?_
    refine lv_iload hx hb dL_law_212 (lv_at hl 4 rfl) ?_
    refine lv_iconst (v := (1 : Int32)) hx hb dL_law_214 (by decide) ?_
    refine lv_iadd hx hb dL_law_215 ?_
    refine sld (j := 1) (n := n) hx hb hX hbl hbA hS rfl (by decide) hn hL dL_law_216 ?_
    refine lv_aload_n hx hb dL_law_217 rfl (lv_at hl 3 rfl) ?_
    refine ywH (ov := some (.int 0)) (st1 := [.int (0 : Int32)]) (rest := []) (w0 := (c8 0 G bX bF bS bT bV bP (bT 0) (bV 0) uX uS uT uV uP ++ oL G o fo)) (w1 := (c8 0 G bX bF bS bT bV bP (bT 0) (bV 0) uX uS uT uV uP ++ oL G o (vp_updL fo 0 r.toInt64))) (wr := cM (gI G) (gJ G) a u) (w' := (wLaw 0 G bX bF bS bT bV bP a o (vp_updL fo 0 r.toInt64) uX uS uT uV uP u)) C (hr_parent_L l G bX bF bS bT bV bP o fo uX uS uT uV uP (xs (1 + 5 * n + 1)) r hq _) (vx_cwSW 3 hts (gdl_s ml_38 ml_39 ml_7 ml_40) rfl rfl rfl (by decide +kernel) ⟨Nat.le_of_ble_eq_true rfl, Nat.le_of_ble_eq_true rfl⟩) hK hA hT hP hD hS [0, 1, 2, 3, 4, 5, 6, 7, 8, 9, 10, 11, 12, 13, 14, 15, 16, 17, 18, 19, 20, 21, 22, 23, 24, 25, 26, 27, 28, 29, 30, 31, 45] [32, 33, 34, 35, 36, 37, 38, 39, 40, 41, 42, 43, 44] [13, 14, 15, 16, 17, 18, 19, 20, 21, 22, 23, 24, 25, 26, 27, 28, 29, 30, 31, 32, 33, 34, 35, 36, 37, 38, 39, 40, 41, 42, 43, 44, 0, 1, 2, 3, 4, 5, 6, 7, 8, 9, 10, 11, 12, 45] rfl rfl rfl rfl (by decide) rfl rfl rfl hl.1 rfl rfl (Nat.le_of_ble_eq_true rfl) dL_law_218 ⟨hc1, hc2⟩ (fun H locs hP hD hS => ?_)
    refine lv_istore (lv' := [(5, .int (0 : Int32)), (0, .ref b), (1, .ref (bX 0)), (2, .ref (a 0)), (3, .ref o), (4, .int (iN n))]) hx hb dL_law_221 hl (by decide) rfl (fun ls hl => ?_)
    refine lv_aload_n hx hb dL_law_223 rfl (lv_at hl 3 rfl) ?_
    refine lv_aload_n hx hb dL_law_224 rfl (lv_at hl 1 rfl) ?_
    refine lv_iload hx hb dL_law_225 (lv_at hl 5 rfl) ?_
    refine lv_iconst (v := (1 : Int32)) hx hb dL_law_227 (by decide) ?_
    refine lv_iadd hx hb dL_law_228 ?_
    refine sld (j := 1) (n := n) hx hb hX hbl hbA hS rfl (by decide) hn hL dL_law_229 ?_
    refine yw9 (ov := (some (.int r))) (st1 := [.int r]) (rest := []) (w0 := (cM (gI G) (gJ G) a u)) (w1 := cM (gI G) (gJ G) a v) (wr := (c8 0 G bX bF bS bT bV bP (bT 0) (bV 0) uX uS uT uV uP ++ oL G o (vp_updL fo 0 r.toInt64))) (w' := (wLaw 0 G bX bF bS bT bV bP a o (vp_updL fo 0 r.toInt64) uX uS uT uV uP v)) C (c9_parent l (gD G) (gI G) (gJ G) (gC G) a u (xs (1 + 5 * n + 1)) r v _ h9) (cwV 1 hts (gdl_9 ml_44 ml_45 ml_46 (mL9 m9_29) (mL9 m9_194)) rfl rfl rfl hd9_parent ⟨Nat.le_of_ble_eq_true rfl, Nat.le_of_ble_eq_true rfl⟩) hK hA hP hD hS (va_recv hK hP (ci := 6) (q0 := 32) rfl rfl) [32, 33, 34, 35, 36, 37, 38, 39, 40, 41, 42, 43, 44] [0, 1, 2, 3, 4, 5, 6, 7, 8, 9, 10, 11, 12, 13, 14, 15, 16, 17, 18, 19, 20, 21, 22, 23, 24, 25, 26, 27, 28, 29, 30, 31, 45] [0, 1, 2, 3, 4, 5, 6, 7, 8, 9, 10, 11, 12, 13, 14, 15, 16, 17, 18, 19, 20, 21, 22, 23, 24, 25, 26, 27, 28, 29, 30, 31, 33, 34, 35, 36, 37, 38, 39, 40, 41, 42, 43, 44, 45, 32] rfl rfl rfl rfl (by decide) rfl rfl rfl hl.1 rfl rfl (Nat.le_of_ble_eq_true rfl) dL_law_230 ⟨(by show cells + 1 ≤ 601024; omega), (by show slots + 6 ≤ 7293000; omega)⟩ (fun H locs hP hD hS => ?_)
    refine lv_istore (lv' := [(6, .int r), (5, .int (0 : Int32)), (0, .ref b), (1, .ref (bX 0)), (2, .ref (a 0)), (3, .ref o), (4, .int (iN n))]) hx hb dL_law_233 hl (by decide) rfl (fun ls hl => ?_)
    refine lv_aload_n hx hb dL_law_235 rfl (lv_at hl 4 rfl) ?_
    refine yr9 (v := .int (gi v 0)) (rest := []) (w0 := (cM (gI G) (gJ G) a v)) C (c9_thrown l (gD G) (gI G) (gJ G) (gC G) a v _ _ rfl) (cwV 0 hts (gdl_9 ml_35 ml_36 ml_37 (mL9 m9_29) (mL9 m9_22)) rfl rfl rfl hd9_thrown ⟨Nat.le_of_ble_eq_true rfl, Nat.le_of_ble_eq_true rfl⟩) hK hP hD (va_recv hK hP (ci := 6) (q0 := 32) rfl rfl) [32, 33, 34, 35, 36, 37, 38, 39, 40, 41, 42, 43, 44] rfl rfl rfl hl.1 rfl (Nat.le_of_ble_eq_true rfl) dL_law_236 ⟨(by show cells + 1 ≤ 601024; omega), (by show slots + 6 ≤ 7293000; omega)⟩ ?_
    refine lv_iload hx hb dL_law_239 (lv_at hl 1 rfl) ?_
    refine lv_icmp_eq (tgt := 246) hx hb dL_law_241 (by decide) (fun _ => ?_) (fun h8 => absurd hg h8)
    refine lv_iload hx hb dL_law_246 (lv_at hl 1 rfl) ?_
    refine lv_if_ne (tgt := 263) hx hb dL_law_248 (by decide) (fun h8 => absurd rfl h8) (fun _ => ?_)
    refine lv_aload_n hx hb dL_law_251 rfl (lv_at hl 5 rfl) ?_
    refine lv_iconst (v := (0 : Int32)) hx hb dL_law_252 (by decide) ?_
    refine va_lald hx hb hK hP 45 1 rfl rfl vi01 dL_law_253 ?_
    refine W.eq (g2 := F0 m 254 ls [.long r.toInt64]) rfl ?_
    refine lv_iload hx hb dL_law_254 (lv_at hl 0 rfl) ?_
    refine lv_i2l (v := r.toInt64) hx hb dL_law_256 rfl ?_
    refine W.lcmp hx hb dL_law_257 ?_
    refine lv_if_eq (tgt := 263) hx hb dL_law_258 (by decide) (fun _ => ?_) (fun h8 => absurd (lg_self _) h8)
    refine lv_goto (tgt := 761) hx hb dL_law_263 (by decide) ?_
    exact kk bT bV _ H locs _ hP hD hS (lv_sub hl [2, 3, 4, 5, 6] rfl)
set_option maxHeartbeats 4000000 in
set_option maxRecDepth 100000 in
theorem lw_4_L {p : Program} {l : Launch} {e : Env} {s : State} {m : MethodId} {below : List Frame} {meth : Method} {c : Code} {H : Heap} {locs : List Loc} {cells slots : Nat} {Q : State → Prop} {ls : Array Slot} {b L n : Nat} {xs : Nat → Int32} {G : Gx} {A : Nat → Prop} {bX bF bS bT bV bP a : Nat → Nat} {o : Nat} {fo : Nat → Int64} {uX uS uT uV uP u : Md} {vX vS vT vV vP v : Md}
    (C : Cx p s m #[Value.ref b] meth c cL_law 8 (Cond.initialized RL :: WL) RL ret) (hL0 : l.stackTraces = false) (hX : va_X b L xs s s.heap) (hbl : b < s.heap.size) (hbA : ¬ A b) (hL : L ≤ 2561) (hn : 6 + 5 * n ≤ L) (hK : va_K (gD G) vwCl (tyG G) s) (hA : ∀ q : Nat, s.heap.size ≤ q → A q) (hT : STL G A s s.heap) (hcs : cells + 1 ≤ 601024 ∧ slots + 6 ≤ 7293000) (hP : va_P (gD G) vwCl (wLaw 0 G bX bF bS bT bV bP a o fo uX uS uT uV uP u) H) (hD : va_D A (wLaw 0 G bX bF bS bT bV bP a o fo uX uS uT uV uP u)) (hS : va_S A s.heap H locs) (hl : lv_has ls 8 [(0, .ref b), (1, .ref (bX 0)), (2, .ref (a 0)), (3, .ref o), (4, .int (iN n))]) (hf : sL_4_L uX uS uT uV uP u (xs (1 + 5 * n + 1)) (xs (1 + 5 * n + 2)) = some (vX, vS, vT, vV, vP, v))
    (kk : ∀ (bT bV : Nat → Nat) (fo : Nat → Int64) (H : Heap) (locs : List Loc) (ls : Array Slot), va_P (gD G) vwCl (wLaw 0 G bX bF bS bT bV bP a o fo vX vS vT vV vP v) H → va_D A (wLaw 0 G bX bF bS bT bV bP a o fo vX vS vT vV vP v) → va_S A s.heap H locs → lv_has ls 8 [(0, .ref b), (1, .ref (bX 0)), (2, .ref (a 0)), (3, .ref o), (4, .int (iN n))] → W p l e room_1 s m #[Value.ref b] below meth c H locs (cells + 1) (slots + 6) Q (F0 m 761 ls [])) :
    W p l e room_1 s m #[Value.ref b] below meth c H locs cells slots Q (F0 m 266 ls []) := by
  obtain ⟨hc1, hc2⟩ := hcs
  have hx := C.1.1
  have hb := C.1.2.1
  have hown := C.1.2.2.2.1
  have hts := C.1.2.2.2.2
  unfold sL_4_L at hf
  have hf2 := og_b hf
  clear hf
  obtain ⟨q8, hq, hf⟩ := hf2
  have hf2 := og_b hf
  clear hf
  obtain ⟨⟨r9, v⟩, h9, hf⟩ := hf2
  rcases q8 with e9 | r8
  · dsimp only [Sum.elim_inl] at hf
    by_cases he : e9 = 1
    · replace hf := og_t he hf
      subst he
      have hf2 := og_p hf
      clear hf
      obtain ⟨hg, hf⟩ := hf2
      cases (og_s hf)
      refine lv_aload_n hx hb dL_law_266 rfl (lv_at hl 1 rfl) ?_
      refine lv_aload_n hx hb dL_law_267 rfl (lv_at hl 0 rfl) ?_
      refine lv_iload hx hb dL_law_268 (lv_at hl 4 rfl) ?_
      refine lv_iconst (v := (1 : Int32)) hx hb dL_law_270 (by decide) ?_
      refine lv_iadd hx hb dL_law_271 ?_
      refine sld (j := 1) (n := n) hx hb hX hbl hbA hS rfl (by decide) hn hL dL_law_272 ?_
      refine lv_aload_n hx hb dL_law_273 rfl (lv_at hl 0 rfl) ?_
      refine lv_iload hx hb dL_law_274 (lv_at hl 4 rfl) ?_
      refine lv_iconst (v := (2 : Int32)) hx hb dL_law_276 (by decide) ?_
      refine lv_iadd hx hb dL_law_277 ?_
      refine sld (j := 2) (n := n) hx hb hX hbl hbA hS rfl (by decide) hn hL dL_law_278 ?_
      refine lv_aload_n hx hb dL_law_279 rfl (lv_at hl 3 rfl) ?_
      refine ywH (ov := some (.int 1)) (st1 := [.int (1 : Int32)]) (rest := []) (w0 := (c8 0 G bX bF bS bT bV bP (bT 0) (bV 0) uX uS uT uV uP ++ oL G o fo)) (w1 := (c8 0 G bX bF bS bT bV bP (bT 0) (bV 0) uX uS uT uV uP ++ oL G o fo)) (wr := cM (gI G) (gJ G) a u) (w' := (wLaw 0 G bX bF bS bT bV bP a o fo uX uS uT uV uP u)) C (ht1_number_L l hL0 G bX bF bS bT bV bP o fo uX uS uT uV uP (xs (1 + 5 * n + 1)) (xs (1 + 5 * n + 2)) hq _) (vx_cwSW 4 hts (gdl_s ml_47 ml_48 ml_7 ml_49) rfl rfl rfl (by decide +kernel) ⟨Nat.le_of_ble_eq_true rfl, Nat.le_of_ble_eq_true rfl⟩) hK hA hT hP hD hS [0, 1, 2, 3, 4, 5, 6, 7, 8, 9, 10, 11, 12, 13, 14, 15, 16, 17, 18, 19, 20, 21, 22, 23, 24, 25, 26, 27, 28, 29, 30, 31, 45] [32, 33, 34, 35, 36, 37, 38, 39, 40, 41, 42, 43, 44] [13, 14, 15, 16, 17, 18, 19, 20, 21, 22, 23, 24, 25, 26, 27, 28, 29, 30, 31, 32, 33, 34, 35, 36, 37, 38, 39, 40, 41, 42, 43, 44, 0, 1, 2, 3, 4, 5, 6, 7, 8, 9, 10, 11, 12, 45] rfl rfl rfl rfl (by decide) rfl rfl rfl hl.1 rfl rfl (Nat.le_of_ble_eq_true rfl) dL_law_280 ⟨hc1, hc2⟩ (fun H locs hP hD hS => ?_)
      refine lv_istore (lv' := [(5, .int (1 : Int32)), (0, .ref b), (1, .ref (bX 0)), (2, .ref (a 0)), (3, .ref o), (4, .int (iN n))]) hx hb dL_law_283 hl (by decide) rfl (fun ls hl => ?_)
      refine lv_aload_n hx hb dL_law_285 rfl (lv_at hl 3 rfl) ?_
      refine lv_aload_n hx hb dL_law_286 rfl (lv_at hl 1 rfl) ?_
      refine lv_iload hx hb dL_law_287 (lv_at hl 5 rfl) ?_
      refine lv_iconst (v := (1 : Int32)) hx hb dL_law_289 (by decide) ?_
      refine lv_iadd hx hb dL_law_290 ?_
      refine sld (j := 1) (n := n) hx hb hX hbl hbA hS rfl (by decide) hn hL dL_law_291 ?_
      refine lv_aload_n hx hb dL_law_292 rfl (lv_at hl 1 rfl) ?_
      refine lv_iload hx hb dL_law_293 (lv_at hl 5 rfl) ?_
      refine lv_iconst (v := (2 : Int32)) hx hb dL_law_295 (by decide) ?_
      refine lv_iadd hx hb dL_law_296 ?_
      refine sld (j := 2) (n := n) hx hb hX hbl hbA hS rfl (by decide) hn hL dL_law_297 ?_
      refine yw9 (ov := (some (.long r9))) (st1 := [.long r9]) (rest := []) (w0 := (cM (gI G) (gJ G) a u)) (w1 := cM (gI G) (gJ G) a v) (wr := (c8 0 G bX bF bS bT bV bP (bT 0) (bV 0) uX uS uT uV uP ++ oL G o fo)) (w' := (wLaw 0 G bX bF bS bT bV bP a o fo uX uS uT uV uP v)) C (c9_number l (gD G) (gI G) (gJ G) (gC G) a u (xs (1 + 5 * n + 1)) (xs (1 + 5 * n + 2)) r9 v _ h9) (cwV 2 hts (gdl_9 ml_53 ml_54 ml_55 (mL9 m9_29) (mL9 m9_195)) rfl rfl rfl hd9_number ⟨Nat.le_of_ble_eq_true rfl, Nat.le_of_ble_eq_true rfl⟩) hK hA hP hD hS (va_recv hK hP (ci := 6) (q0 := 32) rfl rfl) [32, 33, 34, 35, 36, 37, 38, 39, 40, 41, 42, 43, 44] [0, 1, 2, 3, 4, 5, 6, 7, 8, 9, 10, 11, 12, 13, 14, 15, 16, 17, 18, 19, 20, 21, 22, 23, 24, 25, 26, 27, 28, 29, 30, 31, 45] [0, 1, 2, 3, 4, 5, 6, 7, 8, 9, 10, 11, 12, 13, 14, 15, 16, 17, 18, 19, 20, 21, 22, 23, 24, 25, 26, 27, 28, 29, 30, 31, 33, 34, 35, 36, 37, 38, 39, 40, 41, 42, 43, 44, 45, 32] rfl rfl rfl rfl (by decide) rfl rfl rfl hl.1 rfl rfl (Nat.le_of_ble_eq_true rfl) dL_law_298 ⟨(by show cells + 1 ≤ 601024; omega), (by show slots + 6 ≤ 7293000; omega)⟩ (fun H locs hP hD hS => ?_)
      refine lv_lstore (lv' := [(6, .long r9), (5, .int (1 : Int32)), (0, .ref b), (1, .ref (bX 0)), (2, .ref (a 0)), (3, .ref o), (4, .int (iN n))]) hx hb dL_law_301 hl (by decide) rfl (fun ls hl => ?_)
      refine lv_aload_n hx hb dL_law_303 rfl (lv_at hl 4 rfl) ?_
      refine yr9 (v := .int (gi v 0)) (rest := []) (w0 := (cM (gI G) (gJ G) a v)) C (c9_thrown l (gD G) (gI G) (gJ G) (gC G) a v _ _ rfl) (cwV 0 hts (gdl_9 ml_35 ml_36 ml_37 (mL9 m9_29) (mL9 m9_22)) rfl rfl rfl hd9_thrown ⟨Nat.le_of_ble_eq_true rfl, Nat.le_of_ble_eq_true rfl⟩) hK hP hD (va_recv hK hP (ci := 6) (q0 := 32) rfl rfl) [32, 33, 34, 35, 36, 37, 38, 39, 40, 41, 42, 43, 44] rfl rfl rfl hl.1 rfl (Nat.le_of_ble_eq_true rfl) dL_law_304 ⟨(by show cells + 1 ≤ 601024; omega), (by show slots + 6 ≤ 7293000; omega)⟩ ?_
      refine lv_iload hx hb dL_law_307 (lv_at hl 1 rfl) ?_
      refine lv_icmp_eq (tgt := 314) hx hb dL_law_309 (by decide) (fun _ => ?_) (fun h8 => absurd hg h8)
      refine lv_iload hx hb dL_law_314 (lv_at hl 1 rfl) ?_
      refine lv_if_ne (tgt := 330) hx hb dL_law_316 (by decide) (fun _ => ?_) (fun h8 => absurd h8 (by decide))
      refine lv_goto (tgt := 761) hx hb dL_law_330 (by decide) ?_
      exact kk bT bV _ H locs _ hP hD hS (lv_sub hl [2, 3, 4, 5, 6] rfl)
    · replace hf := og_f he hf
      cases hf
  · obtain ⟨r, rfl⟩ : ∃ r, r = r8 := ⟨_, rfl⟩
    dsimp only [Sum.elim_inr] at hf
    have hf2 := og_p hf
    clear hf
    obtain ⟨⟨hg, hr⟩, hf⟩ := hf2
    subst hr
    cases (og_s hf)
    refine lv_aload_n hx hb dL_law_266 rfl (lv_at hl 1 rfl) ?_
    refine lv_aload_n hx hb dL_law_267 rfl (lv_at hl 0 rfl) ?_
    refine lv_iload hx hb dL_law_268 (lv_at hl 4 rfl) ?_
    refine lv_iconst (v := (1 : Int32)) hx hb dL_law_270 (by decide) ?_
    refine lv_iadd hx hb dL_law_271 ?_
    refine sld (j := 1) (n := n) hx hb hX hbl hbA hS rfl (by decide) hn hL dL_law_272 ?_
    refine lv_aload_n hx hb dL_law_273 rfl (lv_at hl 0 rfl) ?_
    refine lv_iload hx hb dL_law_274 (lv_at hl 4 rfl) ?_
    refine lv_iconst (v := (2 : Int32)) hx hb dL_law_276 (by decide) ?_
    refine lv_iadd hx hb dL_law_277 ?_
    refine sld (j := 2) (n := n) hx hb hX hbl hbA hS rfl (by decide) hn hL dL_law_278 ?_
    refine lv_aload_n hx hb dL_law_279 rfl (lv_at hl 3 rfl) ?_
    refine ywH (ov := some (.int 0)) (st1 := [.int (0 : Int32)]) (rest := []) (w0 := (c8 0 G bX bF bS bT bV bP (bT 0) (bV 0) uX uS uT uV uP ++ oL G o fo)) (w1 := (c8 0 G bX bF bS bT bV bP (bT 0) (bV 0) uX uS uT uV uP ++ oL G o (vp_updL fo 0 r))) (wr := cM (gI G) (gJ G) a u) (w' := (wLaw 0 G bX bF bS bT bV bP a o (vp_updL fo 0 r) uX uS uT uV uP u)) C (hr_number_L l G bX bF bS bT bV bP o fo uX uS uT uV uP (xs (1 + 5 * n + 1)) (xs (1 + 5 * n + 2)) r hq _) (vx_cwSW 4 hts (gdl_s ml_47 ml_48 ml_7 ml_49) rfl rfl rfl (by decide +kernel) ⟨Nat.le_of_ble_eq_true rfl, Nat.le_of_ble_eq_true rfl⟩) hK hA hT hP hD hS [0, 1, 2, 3, 4, 5, 6, 7, 8, 9, 10, 11, 12, 13, 14, 15, 16, 17, 18, 19, 20, 21, 22, 23, 24, 25, 26, 27, 28, 29, 30, 31, 45] [32, 33, 34, 35, 36, 37, 38, 39, 40, 41, 42, 43, 44] [13, 14, 15, 16, 17, 18, 19, 20, 21, 22, 23, 24, 25, 26, 27, 28, 29, 30, 31, 32, 33, 34, 35, 36, 37, 38, 39, 40, 41, 42, 43, 44, 0, 1, 2, 3, 4, 5, 6, 7, 8, 9, 10, 11, 12, 45] rfl rfl rfl rfl (by decide) rfl rfl rfl hl.1 rfl rfl (Nat.le_of_ble_eq_true rfl) dL_law_280 ⟨hc1, hc2⟩ (fun H locs hP hD hS => ?_)
    refine lv_istore (lv' := [(5, .int (0 : Int32)), (0, .ref b), (1, .ref (bX 0)), (2, .ref (a 0)), (3, .ref o), (4, .int (iN n))]) hx hb dL_law_283 hl (by decide) rfl (fun ls hl => ?_)
    refine lv_aload_n hx hb dL_law_285 rfl (lv_at hl 3 rfl) ?_
    refine lv_aload_n hx hb dL_law_286 rfl (lv_at hl 1 rfl) ?_
    refine lv_iload hx hb dL_law_287 (lv_at hl 5 rfl) ?_
    refine lv_iconst (v := (1 : Int32)) hx hb dL_law_289 (by decide) ?_
    refine lv_iadd hx hb dL_law_290 ?_
    refine sld (j := 1) (n := n) hx hb hX hbl hbA hS rfl (by decide) hn hL dL_law_291 ?_
    refine lv_aload_n hx hb dL_law_292 rfl (lv_at hl 1 rfl) ?_
    refine lv_iload hx hb dL_law_293 (lv_at hl 5 rfl) ?_
    refine lv_iconst (v := (2 : Int32)) hx hb dL_law_295 (by decide) ?_
    refine lv_iadd hx hb dL_law_296 ?_
    refine sld (j := 2) (n := n) hx hb hX hbl hbA hS rfl (by decide) hn hL dL_law_297 ?_
    refine yw9 (ov := (some (.long r))) (st1 := [.long r]) (rest := []) (w0 := (cM (gI G) (gJ G) a u)) (w1 := cM (gI G) (gJ G) a v) (wr := (c8 0 G bX bF bS bT bV bP (bT 0) (bV 0) uX uS uT uV uP ++ oL G o (vp_updL fo 0 r))) (w' := (wLaw 0 G bX bF bS bT bV bP a o (vp_updL fo 0 r) uX uS uT uV uP v)) C (c9_number l (gD G) (gI G) (gJ G) (gC G) a u (xs (1 + 5 * n + 1)) (xs (1 + 5 * n + 2)) r v _ h9) (cwV 2 hts (gdl_9 ml_53 ml_54 ml_55 (mL9 m9_29) (mL9 m9_195)) rfl rfl rfl hd9_number ⟨Nat.le_of_ble_eq_true rfl, Nat.le_of_ble_eq_true rfl⟩) hK hA hP hD hS (va_recv hK hP (ci := 6) (q0 := 32) rfl rfl) [32, 33, 34, 35, 36, 37, 38, 39, 40, 41, 42, 43, 44] [0, 1, 2, 3, 4, 5, 6, 7, 8, 9, 10, 11, 12, 13, 14, 15, 16, 17, 18, 19, 20, 21, 22, 23, 24, 25, 26, 27, 28, 29, 30, 31, 45] [0, 1, 2, 3, 4, 5, 6, 7, 8, 9, 10, 11, 12, 13, 14, 15, 16, 17, 18, 19, 20, 21, 22, 23, 24, 25, 26, 27, 28, 29, 30, 31, 33, 34, 35, 36, 37, 38, 39, 40, 41, 42, 43, 44, 45, 32] rfl rfl rfl rfl (by decide) rfl rfl rfl hl.1 rfl rfl (Nat.le_of_ble_eq_true rfl) dL_law_298 ⟨(by show cells + 1 ≤ 601024; omega), (by show slots + 6 ≤ 7293000; omega)⟩ (fun H locs hP hD hS => ?_)
    refine lv_lstore (lv' := [(6, .long r), (5, .int (0 : Int32)), (0, .ref b), (1, .ref (bX 0)), (2, .ref (a 0)), (3, .ref o), (4, .int (iN n))]) hx hb dL_law_301 hl (by decide) rfl (fun ls hl => ?_)
    refine lv_aload_n hx hb dL_law_303 rfl (lv_at hl 4 rfl) ?_
    refine yr9 (v := .int (gi v 0)) (rest := []) (w0 := (cM (gI G) (gJ G) a v)) C (c9_thrown l (gD G) (gI G) (gJ G) (gC G) a v _ _ rfl) (cwV 0 hts (gdl_9 ml_35 ml_36 ml_37 (mL9 m9_29) (mL9 m9_22)) rfl rfl rfl hd9_thrown ⟨Nat.le_of_ble_eq_true rfl, Nat.le_of_ble_eq_true rfl⟩) hK hP hD (va_recv hK hP (ci := 6) (q0 := 32) rfl rfl) [32, 33, 34, 35, 36, 37, 38, 39, 40, 41, 42, 43, 44] rfl rfl rfl hl.1 rfl (Nat.le_of_ble_eq_true rfl) dL_law_304 ⟨(by show cells + 1 ≤ 601024; omega), (by show slots + 6 ≤ 7293000; omega)⟩ ?_
    refine lv_iload hx hb dL_law_307 (lv_at hl 1 rfl) ?_
    refine lv_icmp_eq (tgt := 314) hx hb dL_law_309 (by decide) (fun _ => ?_) (fun h8 => absurd hg h8)
    refine lv_iload hx hb dL_law_314 (lv_at hl 1 rfl) ?_
    refine lv_if_ne (tgt := 330) hx hb dL_law_316 (by decide) (fun h8 => absurd rfl h8) (fun _ => ?_)
    refine lv_aload_n hx hb dL_law_319 rfl (lv_at hl 5 rfl) ?_
    refine lv_iconst (v := (0 : Int32)) hx hb dL_law_320 (by decide) ?_
    refine va_lald hx hb hK hP 45 1 rfl rfl vi01 dL_law_321 ?_
    refine W.eq (g2 := F0 m 322 ls [.long r]) rfl ?_
    refine lv_lload hx hb dL_law_322 (lv_at hl 0 rfl) ?_
    refine W.lcmp hx hb dL_law_324 ?_
    refine lv_if_eq (tgt := 330) hx hb dL_law_325 (by decide) (fun _ => ?_) (fun h8 => absurd (lg_self _) h8)
    refine lv_goto (tgt := 761) hx hb dL_law_330 (by decide) ?_
    exact kk bT bV _ H locs _ hP hD hS (lv_sub hl [2, 3, 4, 5, 6] rfl)
set_option maxHeartbeats 4000000 in
set_option maxRecDepth 100000 in
theorem lw_5_L {p : Program} {l : Launch} {e : Env} {s : State} {m : MethodId} {below : List Frame} {meth : Method} {c : Code} {H : Heap} {locs : List Loc} {cells slots : Nat} {Q : State → Prop} {ls : Array Slot} {b L n : Nat} {xs : Nat → Int32} {G : Gx} {A : Nat → Prop} {bX bF bS bT bV bP a : Nat → Nat} {o : Nat} {fo : Nat → Int64} {uX uS uT uV uP u : Md} {vX vS vT vV vP v : Md}
    (C : Cx p s m #[Value.ref b] meth c cL_law 8 (Cond.initialized RL :: WL) RL ret) (hL0 : l.stackTraces = false) (hX : va_X b L xs s s.heap) (hbl : b < s.heap.size) (hbA : ¬ A b) (hL : L ≤ 2561) (hn : 6 + 5 * n ≤ L) (hK : va_K (gD G) vwCl (tyG G) s) (hA : ∀ q : Nat, s.heap.size ≤ q → A q) (hT : STL G A s s.heap) (hcs : cells + 1 ≤ 601024 ∧ slots + 6 ≤ 7293000) (hP : va_P (gD G) vwCl (wLaw 0 G bX bF bS bT bV bP a o fo uX uS uT uV uP u) H) (hD : va_D A (wLaw 0 G bX bF bS bT bV bP a o fo uX uS uT uV uP u)) (hS : va_S A s.heap H locs) (hl : lv_has ls 8 [(0, .ref b), (1, .ref (bX 0)), (2, .ref (a 0)), (3, .ref o), (4, .int (iN n))]) (hf : sL_5_L uX uS uT uV uP u (xs (1 + 5 * n + 1)) (xs (1 + 5 * n + 2)) (xs (1 + 5 * n + 3)) = some (vX, vS, vT, vV, vP, v))
    (kk : ∀ (bT bV : Nat → Nat) (fo : Nat → Int64) (H : Heap) (locs : List Loc) (ls : Array Slot), va_P (gD G) vwCl (wLaw 0 G bX bF bS bT bV bP a o fo vX vS vT vV vP v) H → va_D A (wLaw 0 G bX bF bS bT bV bP a o fo vX vS vT vV vP v) → va_S A s.heap H locs → lv_has ls 8 [(0, .ref b), (1, .ref (bX 0)), (2, .ref (a 0)), (3, .ref o), (4, .int (iN n))] → W p l e room_1 s m #[Value.ref b] below meth c H locs (cells + 1) (slots + 6) Q (F0 m 761 ls [])) :
    W p l e room_1 s m #[Value.ref b] below meth c H locs cells slots Q (F0 m 333 ls []) := by
  obtain ⟨hc1, hc2⟩ := hcs
  have hx := C.1.1
  have hb := C.1.2.1
  have hown := C.1.2.2.2.1
  have hts := C.1.2.2.2.2
  unfold sL_5_L at hf
  have hf2 := og_b hf
  clear hf
  obtain ⟨q8, hq, hf⟩ := hf2
  have hf2 := og_b hf
  clear hf
  obtain ⟨⟨r9, v⟩, h9, hf⟩ := hf2
  rcases q8 with e9 | r8
  · dsimp only [Sum.elim_inl] at hf
    by_cases he : e9 = 1
    · replace hf := og_t he hf
      subst he
      have hf2 := og_p hf
      clear hf
      obtain ⟨hg, hf⟩ := hf2
      cases (og_s hf)
      refine lv_aload_n hx hb dL_law_333 rfl (lv_at hl 1 rfl) ?_
      refine lv_aload_n hx hb dL_law_334 rfl (lv_at hl 0 rfl) ?_
      refine lv_iload hx hb dL_law_335 (lv_at hl 4 rfl) ?_
      refine lv_iconst (v := (1 : Int32)) hx hb dL_law_337 (by decide) ?_
      refine lv_iadd hx hb dL_law_338 ?_
      refine sld (j := 1) (n := n) hx hb hX hbl hbA hS rfl (by decide) hn hL dL_law_339 ?_
      refine lv_aload_n hx hb dL_law_340 rfl (lv_at hl 0 rfl) ?_
      refine lv_iload hx hb dL_law_341 (lv_at hl 4 rfl) ?_
      refine lv_iconst (v := (2 : Int32)) hx hb dL_law_343 (by decide) ?_
      refine lv_iadd hx hb dL_law_344 ?_
      refine sld (j := 2) (n := n) hx hb hX hbl hbA hS rfl (by decide) hn hL dL_law_345 ?_
      refine lv_aload_n hx hb dL_law_346 rfl (lv_at hl 0 rfl) ?_
      refine lv_iload hx hb dL_law_347 (lv_at hl 4 rfl) ?_
      refine lv_iconst (v := (3 : Int32)) hx hb dL_law_349 (by decide) ?_
      refine lv_iadd hx hb dL_law_350 ?_
      refine sld (j := 3) (n := n) hx hb hX hbl hbA hS rfl (by decide) hn hL dL_law_351 ?_
      refine lv_aload_n hx hb dL_law_352 rfl (lv_at hl 3 rfl) ?_
      refine ywH (ov := some (.int 1)) (st1 := [.int (1 : Int32)]) (rest := []) (w0 := (c8 0 G bX bF bS bT bV bP (bT 0) (bV 0) uX uS uT uV uP ++ oL G o fo)) (w1 := (c8 0 G bX bF bS bT bV bP (bT 0) (bV 0) uX uS uT uV uP ++ oL G o fo)) (wr := cM (gI G) (gJ G) a u) (w' := (wLaw 0 G bX bF bS bT bV bP a o fo uX uS uT uV uP u)) C (ht1_text_L l hL0 G bX bF bS bT bV bP o fo uX uS uT uV uP (xs (1 + 5 * n + 1)) (xs (1 + 5 * n + 2)) (xs (1 + 5 * n + 3)) hq _) (vx_cwSW 5 hts (gdl_s ml_56 ml_57 ml_7 ml_58) rfl rfl rfl (by decide +kernel) ⟨Nat.le_of_ble_eq_true rfl, Nat.le_of_ble_eq_true rfl⟩) hK hA hT hP hD hS [0, 1, 2, 3, 4, 5, 6, 7, 8, 9, 10, 11, 12, 13, 14, 15, 16, 17, 18, 19, 20, 21, 22, 23, 24, 25, 26, 27, 28, 29, 30, 31, 45] [32, 33, 34, 35, 36, 37, 38, 39, 40, 41, 42, 43, 44] [13, 14, 15, 16, 17, 18, 19, 20, 21, 22, 23, 24, 25, 26, 27, 28, 29, 30, 31, 32, 33, 34, 35, 36, 37, 38, 39, 40, 41, 42, 43, 44, 0, 1, 2, 3, 4, 5, 6, 7, 8, 9, 10, 11, 12, 45] rfl rfl rfl rfl (by decide) rfl rfl rfl hl.1 rfl rfl (Nat.le_of_ble_eq_true rfl) dL_law_353 ⟨hc1, hc2⟩ (fun H locs hP hD hS => ?_)
      refine lv_istore (lv' := [(5, .int (1 : Int32)), (0, .ref b), (1, .ref (bX 0)), (2, .ref (a 0)), (3, .ref o), (4, .int (iN n))]) hx hb dL_law_356 hl (by decide) rfl (fun ls hl => ?_)
      refine lv_aload_n hx hb dL_law_358 rfl (lv_at hl 3 rfl) ?_
      refine lv_aload_n hx hb dL_law_359 rfl (lv_at hl 1 rfl) ?_
      refine lv_iload hx hb dL_law_360 (lv_at hl 5 rfl) ?_
      refine lv_iconst (v := (1 : Int32)) hx hb dL_law_362 (by decide) ?_
      refine lv_iadd hx hb dL_law_363 ?_
      refine sld (j := 1) (n := n) hx hb hX hbl hbA hS rfl (by decide) hn hL dL_law_364 ?_
      refine lv_aload_n hx hb dL_law_365 rfl (lv_at hl 1 rfl) ?_
      refine lv_iload hx hb dL_law_366 (lv_at hl 5 rfl) ?_
      refine lv_iconst (v := (2 : Int32)) hx hb dL_law_368 (by decide) ?_
      refine lv_iadd hx hb dL_law_369 ?_
      refine sld (j := 2) (n := n) hx hb hX hbl hbA hS rfl (by decide) hn hL dL_law_370 ?_
      refine lv_aload_n hx hb dL_law_371 rfl (lv_at hl 1 rfl) ?_
      refine lv_iload hx hb dL_law_372 (lv_at hl 5 rfl) ?_
      refine lv_iconst (v := (3 : Int32)) hx hb dL_law_374 (by decide) ?_
      refine lv_iadd hx hb dL_law_375 ?_
      refine sld (j := 3) (n := n) hx hb hX hbl hbA hS rfl (by decide) hn hL dL_law_376 ?_
      refine yw9 (ov := (some (.int r9))) (st1 := [.int r9]) (rest := []) (w0 := (cM (gI G) (gJ G) a u)) (w1 := cM (gI G) (gJ G) a v) (wr := (c8 0 G bX bF bS bT bV bP (bT 0) (bV 0) uX uS uT uV uP ++ oL G o fo)) (w' := (wLaw 0 G bX bF bS bT bV bP a o fo uX uS uT uV uP v)) C (c9_text l (gD G) (gI G) (gJ G) (gC G) a u (xs (1 + 5 * n + 1)) (xs (1 + 5 * n + 2)) (xs (1 + 5 * n + 3)) r9 v _ h9) (cwV 3 hts (gdl_9 ml_62 ml_63 ml_64 (mL9 m9_29) (mL9 m9_198)) rfl rfl rfl hd9_text ⟨Nat.le_of_ble_eq_true rfl, Nat.le_of_ble_eq_true rfl⟩) hK hA hP hD hS (va_recv hK hP (ci := 6) (q0 := 32) rfl rfl) [32, 33, 34, 35, 36, 37, 38, 39, 40, 41, 42, 43, 44] [0, 1, 2, 3, 4, 5, 6, 7, 8, 9, 10, 11, 12, 13, 14, 15, 16, 17, 18, 19, 20, 21, 22, 23, 24, 25, 26, 27, 28, 29, 30, 31, 45] [0, 1, 2, 3, 4, 5, 6, 7, 8, 9, 10, 11, 12, 13, 14, 15, 16, 17, 18, 19, 20, 21, 22, 23, 24, 25, 26, 27, 28, 29, 30, 31, 33, 34, 35, 36, 37, 38, 39, 40, 41, 42, 43, 44, 45, 32] rfl rfl rfl rfl (by decide) rfl rfl rfl hl.1 rfl rfl (Nat.le_of_ble_eq_true rfl) dL_law_377 ⟨(by show cells + 1 ≤ 601024; omega), (by show slots + 6 ≤ 7293000; omega)⟩ (fun H locs hP hD hS => ?_)
      refine lv_istore (lv' := [(6, .int r9), (5, .int (1 : Int32)), (0, .ref b), (1, .ref (bX 0)), (2, .ref (a 0)), (3, .ref o), (4, .int (iN n))]) hx hb dL_law_380 hl (by decide) rfl (fun ls hl => ?_)
      refine lv_aload_n hx hb dL_law_382 rfl (lv_at hl 4 rfl) ?_
      refine yr9 (v := .int (gi v 0)) (rest := []) (w0 := (cM (gI G) (gJ G) a v)) C (c9_thrown l (gD G) (gI G) (gJ G) (gC G) a v _ _ rfl) (cwV 0 hts (gdl_9 ml_35 ml_36 ml_37 (mL9 m9_29) (mL9 m9_22)) rfl rfl rfl hd9_thrown ⟨Nat.le_of_ble_eq_true rfl, Nat.le_of_ble_eq_true rfl⟩) hK hP hD (va_recv hK hP (ci := 6) (q0 := 32) rfl rfl) [32, 33, 34, 35, 36, 37, 38, 39, 40, 41, 42, 43, 44] rfl rfl rfl hl.1 rfl (Nat.le_of_ble_eq_true rfl) dL_law_383 ⟨(by show cells + 1 ≤ 601024; omega), (by show slots + 6 ≤ 7293000; omega)⟩ ?_
      refine lv_iload hx hb dL_law_386 (lv_at hl 1 rfl) ?_
      refine lv_icmp_eq (tgt := 393) hx hb dL_law_388 (by decide) (fun _ => ?_) (fun h8 => absurd hg h8)
      refine lv_iload hx hb dL_law_393 (lv_at hl 1 rfl) ?_
      refine lv_if_ne (tgt := 410) hx hb dL_law_395 (by decide) (fun _ => ?_) (fun h8 => absurd h8 (by decide))
      refine lv_goto (tgt := 761) hx hb dL_law_410 (by decide) ?_
      exact kk bT bV _ H locs _ hP hD hS (lv_sub hl [2, 3, 4, 5, 6] rfl)
    · replace hf := og_f he hf
      cases hf
  · obtain ⟨r, rfl⟩ : ∃ r, r = r8 := ⟨_, rfl⟩
    dsimp only [Sum.elim_inr] at hf
    have hf2 := og_p hf
    clear hf
    obtain ⟨⟨hg, hr⟩, hf⟩ := hf2
    subst hr
    cases (og_s hf)
    refine lv_aload_n hx hb dL_law_333 rfl (lv_at hl 1 rfl) ?_
    refine lv_aload_n hx hb dL_law_334 rfl (lv_at hl 0 rfl) ?_
    refine lv_iload hx hb dL_law_335 (lv_at hl 4 rfl) ?_
    refine lv_iconst (v := (1 : Int32)) hx hb dL_law_337 (by decide) ?_
    refine lv_iadd hx hb dL_law_338 ?_
    refine sld (j := 1) (n := n) hx hb hX hbl hbA hS rfl (by decide) hn hL dL_law_339 ?_
    refine lv_aload_n hx hb dL_law_340 rfl (lv_at hl 0 rfl) ?_
    refine lv_iload hx hb dL_law_341 (lv_at hl 4 rfl) ?_
    refine lv_iconst (v := (2 : Int32)) hx hb dL_law_343 (by decide) ?_
    refine lv_iadd hx hb dL_law_344 ?_
    refine sld (j := 2) (n := n) hx hb hX hbl hbA hS rfl (by decide) hn hL dL_law_345 ?_
    refine lv_aload_n hx hb dL_law_346 rfl (lv_at hl 0 rfl) ?_
    refine lv_iload hx hb dL_law_347 (lv_at hl 4 rfl) ?_
    refine lv_iconst (v := (3 : Int32)) hx hb dL_law_349 (by decide) ?_
    refine lv_iadd hx hb dL_law_350 ?_
    refine sld (j := 3) (n := n) hx hb hX hbl hbA hS rfl (by decide) hn hL dL_law_351 ?_
    refine lv_aload_n hx hb dL_law_352 rfl (lv_at hl 3 rfl) ?_
    refine ywH (ov := some (.int 0)) (st1 := [.int (0 : Int32)]) (rest := []) (w0 := (c8 0 G bX bF bS bT bV bP (bT 0) (bV 0) uX uS uT uV uP ++ oL G o fo)) (w1 := (c8 0 G bX bF bS bT bV bP (bT 0) (bV 0) uX uS uT uV uP ++ oL G o (vp_updL fo 0 r.toInt64))) (wr := cM (gI G) (gJ G) a u) (w' := (wLaw 0 G bX bF bS bT bV bP a o (vp_updL fo 0 r.toInt64) uX uS uT uV uP u)) C (hr_text_L l G bX bF bS bT bV bP o fo uX uS uT uV uP (xs (1 + 5 * n + 1)) (xs (1 + 5 * n + 2)) (xs (1 + 5 * n + 3)) r hq _) (vx_cwSW 5 hts (gdl_s ml_56 ml_57 ml_7 ml_58) rfl rfl rfl (by decide +kernel) ⟨Nat.le_of_ble_eq_true rfl, Nat.le_of_ble_eq_true rfl⟩) hK hA hT hP hD hS [0, 1, 2, 3, 4, 5, 6, 7, 8, 9, 10, 11, 12, 13, 14, 15, 16, 17, 18, 19, 20, 21, 22, 23, 24, 25, 26, 27, 28, 29, 30, 31, 45] [32, 33, 34, 35, 36, 37, 38, 39, 40, 41, 42, 43, 44] [13, 14, 15, 16, 17, 18, 19, 20, 21, 22, 23, 24, 25, 26, 27, 28, 29, 30, 31, 32, 33, 34, 35, 36, 37, 38, 39, 40, 41, 42, 43, 44, 0, 1, 2, 3, 4, 5, 6, 7, 8, 9, 10, 11, 12, 45] rfl rfl rfl rfl (by decide) rfl rfl rfl hl.1 rfl rfl (Nat.le_of_ble_eq_true rfl) dL_law_353 ⟨hc1, hc2⟩ (fun H locs hP hD hS => ?_)
    refine lv_istore (lv' := [(5, .int (0 : Int32)), (0, .ref b), (1, .ref (bX 0)), (2, .ref (a 0)), (3, .ref o), (4, .int (iN n))]) hx hb dL_law_356 hl (by decide) rfl (fun ls hl => ?_)
    refine lv_aload_n hx hb dL_law_358 rfl (lv_at hl 3 rfl) ?_
    refine lv_aload_n hx hb dL_law_359 rfl (lv_at hl 1 rfl) ?_
    refine lv_iload hx hb dL_law_360 (lv_at hl 5 rfl) ?_
    refine lv_iconst (v := (1 : Int32)) hx hb dL_law_362 (by decide) ?_
    refine lv_iadd hx hb dL_law_363 ?_
    refine sld (j := 1) (n := n) hx hb hX hbl hbA hS rfl (by decide) hn hL dL_law_364 ?_
    refine lv_aload_n hx hb dL_law_365 rfl (lv_at hl 1 rfl) ?_
    refine lv_iload hx hb dL_law_366 (lv_at hl 5 rfl) ?_
    refine lv_iconst (v := (2 : Int32)) hx hb dL_law_368 (by decide) ?_
    refine lv_iadd hx hb dL_law_369 ?_
    refine sld (j := 2) (n := n) hx hb hX hbl hbA hS rfl (by decide) hn hL dL_law_370 ?_
    refine lv_aload_n hx hb dL_law_371 rfl (lv_at hl 1 rfl) ?_
    refine lv_iload hx hb dL_law_372 (lv_at hl 5 rfl) ?_
    refine lv_iconst (v := (3 : Int32)) hx hb dL_law_374 (by decide) ?_
    refine lv_iadd hx hb dL_law_375 ?_
    refine sld (j := 3) (n := n) hx hb hX hbl hbA hS rfl (by decide) hn hL dL_law_376 ?_
    refine yw9 (ov := (some (.int r))) (st1 := [.int r]) (rest := []) (w0 := (cM (gI G) (gJ G) a u)) (w1 := cM (gI G) (gJ G) a v) (wr := (c8 0 G bX bF bS bT bV bP (bT 0) (bV 0) uX uS uT uV uP ++ oL G o (vp_updL fo 0 r.toInt64))) (w' := (wLaw 0 G bX bF bS bT bV bP a o (vp_updL fo 0 r.toInt64) uX uS uT uV uP v)) C (c9_text l (gD G) (gI G) (gJ G) (gC G) a u (xs (1 + 5 * n + 1)) (xs (1 + 5 * n + 2)) (xs (1 + 5 * n + 3)) r v _ h9) (cwV 3 hts (gdl_9 ml_62 ml_63 ml_64 (mL9 m9_29) (mL9 m9_198)) rfl rfl rfl hd9_text ⟨Nat.le_of_ble_eq_true rfl, Nat.le_of_ble_eq_true rfl⟩) hK hA hP hD hS (va_recv hK hP (ci := 6) (q0 := 32) rfl rfl) [32, 33, 34, 35, 36, 37, 38, 39, 40, 41, 42, 43, 44] [0, 1, 2, 3, 4, 5, 6, 7, 8, 9, 10, 11, 12, 13, 14, 15, 16, 17, 18, 19, 20, 21, 22, 23, 24, 25, 26, 27, 28, 29, 30, 31, 45] [0, 1, 2, 3, 4, 5, 6, 7, 8, 9, 10, 11, 12, 13, 14, 15, 16, 17, 18, 19, 20, 21, 22, 23, 24, 25, 26, 27, 28, 29, 30, 31, 33, 34, 35, 36, 37, 38, 39, 40, 41, 42, 43, 44, 45, 32] rfl rfl rfl rfl (by decide) rfl rfl rfl hl.1 rfl rfl (Nat.le_of_ble_eq_true rfl) dL_law_377 ⟨(by show cells + 1 ≤ 601024; omega), (by show slots + 6 ≤ 7293000; omega)⟩ (fun H locs hP hD hS => ?_)
    refine lv_istore (lv' := [(6, .int r), (5, .int (0 : Int32)), (0, .ref b), (1, .ref (bX 0)), (2, .ref (a 0)), (3, .ref o), (4, .int (iN n))]) hx hb dL_law_380 hl (by decide) rfl (fun ls hl => ?_)
    refine lv_aload_n hx hb dL_law_382 rfl (lv_at hl 4 rfl) ?_
    refine yr9 (v := .int (gi v 0)) (rest := []) (w0 := (cM (gI G) (gJ G) a v)) C (c9_thrown l (gD G) (gI G) (gJ G) (gC G) a v _ _ rfl) (cwV 0 hts (gdl_9 ml_35 ml_36 ml_37 (mL9 m9_29) (mL9 m9_22)) rfl rfl rfl hd9_thrown ⟨Nat.le_of_ble_eq_true rfl, Nat.le_of_ble_eq_true rfl⟩) hK hP hD (va_recv hK hP (ci := 6) (q0 := 32) rfl rfl) [32, 33, 34, 35, 36, 37, 38, 39, 40, 41, 42, 43, 44] rfl rfl rfl hl.1 rfl (Nat.le_of_ble_eq_true rfl) dL_law_383 ⟨(by show cells + 1 ≤ 601024; omega), (by show slots + 6 ≤ 7293000; omega)⟩ ?_
    refine lv_iload hx hb dL_law_386 (lv_at hl 1 rfl) ?_
    refine lv_icmp_eq (tgt := 393) hx hb dL_law_388 (by decide) (fun _ => ?_) (fun h8 => absurd hg h8)
    refine lv_iload hx hb dL_law_393 (lv_at hl 1 rfl) ?_
    refine lv_if_ne (tgt := 410) hx hb dL_law_395 (by decide) (fun h8 => absurd rfl h8) (fun _ => ?_)
    refine lv_aload_n hx hb dL_law_398 rfl (lv_at hl 5 rfl) ?_
    refine lv_iconst (v := (0 : Int32)) hx hb dL_law_399 (by decide) ?_
    refine va_lald hx hb hK hP 45 1 rfl rfl vi01 dL_law_400 ?_
    refine W.eq (g2 := F0 m 401 ls [.long r.toInt64]) rfl ?_
    refine lv_iload hx hb dL_law_401 (lv_at hl 0 rfl) ?_
    refine lv_i2l (v := r.toInt64) hx hb dL_law_403 rfl ?_
    refine W.lcmp hx hb dL_law_404 ?_
    refine lv_if_eq (tgt := 410) hx hb dL_law_405 (by decide) (fun _ => ?_) (fun h8 => absurd (lg_self _) h8)
    refine lv_goto (tgt := 761) hx hb dL_law_410 (by decide) ?_
    exact kk bT bV _ H locs _ hP hD hS (lv_sub hl [2, 3, 4, 5, 6] rfl)
set_option maxHeartbeats 4000000 in
set_option maxRecDepth 100000 in
theorem lw_6_L {p : Program} {l : Launch} {e : Env} {s : State} {m : MethodId} {below : List Frame} {meth : Method} {c : Code} {H : Heap} {locs : List Loc} {cells slots : Nat} {Q : State → Prop} {ls : Array Slot} {b L n : Nat} {xs : Nat → Int32} {G : Gx} {A : Nat → Prop} {bX bF bS bT bV bP a : Nat → Nat} {o : Nat} {fo : Nat → Int64} {uX uS uT uV uP u : Md} {vX vS vT vV vP v : Md}
    (C : Cx p s m #[Value.ref b] meth c cL_law 8 (Cond.initialized RL :: WL) RL ret) (hL0 : l.stackTraces = false) (hX : va_X b L xs s s.heap) (hbl : b < s.heap.size) (hbA : ¬ A b) (hL : L ≤ 2561) (hn : 6 + 5 * n ≤ L) (hK : va_K (gD G) vwCl (tyG G) s) (hA : ∀ q : Nat, s.heap.size ≤ q → A q) (hT : STL G A s s.heap) (hcs : cells + 1 ≤ 601024 ∧ slots + 6 ≤ 7293000) (hP : va_P (gD G) vwCl (wLaw 0 G bX bF bS bT bV bP a o fo uX uS uT uV uP u) H) (hD : va_D A (wLaw 0 G bX bF bS bT bV bP a o fo uX uS uT uV uP u)) (hS : va_S A s.heap H locs) (hl : lv_has ls 8 [(0, .ref b), (1, .ref (bX 0)), (2, .ref (a 0)), (3, .ref o), (4, .int (iN n))]) (hf : sL_6_L uX uS uT uV uP u  = some (vX, vS, vT, vV, vP, v))
    (kk : ∀ (bT bV : Nat → Nat) (fo : Nat → Int64) (H : Heap) (locs : List Loc) (ls : Array Slot), va_P (gD G) vwCl (wLaw 0 G bX bF bS bT bV bP a o fo vX vS vT vV vP v) H → va_D A (wLaw 0 G bX bF bS bT bV bP a o fo vX vS vT vV vP v) → va_S A s.heap H locs → lv_has ls 8 [(0, .ref b), (1, .ref (bX 0)), (2, .ref (a 0)), (3, .ref o), (4, .int (iN n))] → W p l e room_1 s m #[Value.ref b] below meth c H locs (cells + 1) (slots + 6) Q (F0 m 761 ls [])) :
    W p l e room_1 s m #[Value.ref b] below meth c H locs cells slots Q (F0 m 413 ls []) := by
  obtain ⟨hc1, hc2⟩ := hcs
  have hx := C.1.1
  have hb := C.1.2.1
  have hown := C.1.2.2.2.1
  have hts := C.1.2.2.2.2
  unfold sL_6_L at hf
  have hf2 := og_b hf
  clear hf
  obtain ⟨r, hq, hf⟩ := hf2
  have hf2 := og_b hf
  clear hf
  obtain ⟨⟨r9, v⟩, h9, hf⟩ := hf2
  try dsimp only at hf
  have hf2 := og_p hf
  clear hf
  obtain ⟨hr, hf⟩ := hf2
  subst hr
  cases (og_s hf)
  refine lv_aload_n hx hb dL_law_413 rfl (lv_at hl 1 rfl) ?_
  refine yr8 (v := .int r) (rest := []) (w0 := (c8 0 G bX bF bS bT bV bP (bT 0) (bV 0) uX uS uT uV uP)) C (c8_version_L l G bX bF bS bT bV bP uX uS uT uV uP r _ hq) (cwV 0 hts (gdl_v ml_65 ml_66 ml_67 (mL8 (m8 mx_32)) (mL8 (m8 mx_523))) rfl rfl rfl hd8_version_L ⟨Nat.le_of_ble_eq_true rfl, Nat.le_of_ble_eq_true rfl⟩) hK hA hT.1 hP hD hS (va_recv hK hP (ci := 5) (q0 := 0) rfl rfl) [0, 1, 2, 3, 4, 5, 6, 7, 8, 9, 10, 11, 12, 13, 14, 15, 16, 17, 18, 19, 20, 21, 22, 23, 24, 25, 26, 27, 28, 29, 30, 31] rfl rfl rfl hl.1 rfl (Nat.le_of_ble_eq_true rfl) dL_law_414 ⟨(by show cells ≤ 601024; omega), (by show slots ≤ 7293000; omega)⟩ ?_
  refine lv_aload_n hx hb dL_law_417 rfl (lv_at hl 2 rfl) ?_
  refine yw9 (ov := (some (.int r))) (st1 := [.int r, .int r]) (rest := [.int r]) (w0 := (cM (gI G) (gJ G) a u)) (w1 := cM (gI G) (gJ G) a v) (wr := (c8 0 G bX bF bS bT bV bP (bT 0) (bV 0) uX uS uT uV uP ++ oL G o fo)) (w' := (wLaw 0 G bX bF bS bT bV bP a o fo uX uS uT uV uP v)) C (c9_version l (gD G) (gI G) (gJ G) (gC G) a u  r v _ h9) (cwV 0 hts (gdl_9 ml_68 ml_69 ml_70 (mL9 m9_29) (mL9 m9_199)) rfl rfl rfl hd9_version ⟨Nat.le_of_ble_eq_true rfl, Nat.le_of_ble_eq_true rfl⟩) hK hA hP hD hS (va_recv hK hP (ci := 6) (q0 := 32) rfl rfl) [32, 33, 34, 35, 36, 37, 38, 39, 40, 41, 42, 43, 44] [0, 1, 2, 3, 4, 5, 6, 7, 8, 9, 10, 11, 12, 13, 14, 15, 16, 17, 18, 19, 20, 21, 22, 23, 24, 25, 26, 27, 28, 29, 30, 31, 45] [0, 1, 2, 3, 4, 5, 6, 7, 8, 9, 10, 11, 12, 13, 14, 15, 16, 17, 18, 19, 20, 21, 22, 23, 24, 25, 26, 27, 28, 29, 30, 31, 33, 34, 35, 36, 37, 38, 39, 40, 41, 42, 43, 44, 45, 32] rfl rfl rfl rfl (by decide) rfl rfl rfl hl.1 rfl rfl (Nat.le_of_ble_eq_true rfl) dL_law_418 ⟨(by show cells ≤ 601024; omega), (by show slots ≤ 7293000; omega)⟩ (fun H locs hP hD hS => ?_)
  refine lv_icmp_eq (tgt := 761) hx hb dL_law_421 (by decide) (fun _ => ?_) (fun h8 => absurd rfl h8)
  refine W.widen (k := cells + 1) (n := slots + 6) (by omega) (by omega) ?_
  exact kk bT bV _ H locs _ hP hD hS (lv_sub hl [0, 1, 2, 3, 4] rfl)
set_option maxHeartbeats 4000000 in
set_option maxRecDepth 100000 in
theorem lw_7_L {p : Program} {l : Launch} {e : Env} {s : State} {m : MethodId} {below : List Frame} {meth : Method} {c : Code} {H : Heap} {locs : List Loc} {cells slots : Nat} {Q : State → Prop} {ls : Array Slot} {b L n : Nat} {xs : Nat → Int32} {G : Gx} {A : Nat → Prop} {bX bF bS bT bV bP a : Nat → Nat} {o : Nat} {fo : Nat → Int64} {uX uS uT uV uP u : Md} {vX vS vT vV vP v : Md}
    (C : Cx p s m #[Value.ref b] meth c cL_law 8 (Cond.initialized RL :: WL) RL ret) (hL0 : l.stackTraces = false) (hX : va_X b L xs s s.heap) (hbl : b < s.heap.size) (hbA : ¬ A b) (hL : L ≤ 2561) (hn : 6 + 5 * n ≤ L) (hK : va_K (gD G) vwCl (tyG G) s) (hA : ∀ q : Nat, s.heap.size ≤ q → A q) (hT : STL G A s s.heap) (hcs : cells + 1 ≤ 601024 ∧ slots + 6 ≤ 7293000) (hP : va_P (gD G) vwCl (wLaw 0 G bX bF bS bT bV bP a o fo uX uS uT uV uP u) H) (hD : va_D A (wLaw 0 G bX bF bS bT bV bP a o fo uX uS uT uV uP u)) (hS : va_S A s.heap H locs) (hl : lv_has ls 8 [(0, .ref b), (1, .ref (bX 0)), (2, .ref (a 0)), (3, .ref o), (4, .int (iN n))]) (hf : sL_7_L uX uS uT uV uP u (xs (1 + 5 * n + 1)) (xs (1 + 5 * n + 2)) = some (vX, vS, vT, vV, vP, v))
    (kk : ∀ (bT bV : Nat → Nat) (fo : Nat → Int64) (H : Heap) (locs : List Loc) (ls : Array Slot), va_P (gD G) vwCl (wLaw 0 G bX bF bS bT bV bP a o fo vX vS vT vV vP v) H → va_D A (wLaw 0 G bX bF bS bT bV bP a o fo vX vS vT vV vP v) → va_S A s.heap H locs → lv_has ls 8 [(0, .ref b), (1, .ref (bX 0)), (2, .ref (a 0)), (3, .ref o), (4, .int (iN n))] → W p l e room_1 s m #[Value.ref b] below meth c H locs (cells + 1) (slots + 6) Q (F0 m 761 ls [])) :
    W p l e room_1 s m #[Value.ref b] below meth c H locs cells slots Q (F0 m 426 ls []) := by
  obtain ⟨hc1, hc2⟩ := hcs
  have hx := C.1.1
  have hb := C.1.2.1
  have hown := C.1.2.2.2.1
  have hts := C.1.2.2.2.2
  unfold sL_7_L at hf
  have hf2 := og_b hf
  clear hf
  obtain ⟨q8, hq, hf⟩ := hf2
  have hf2 := og_b hf
  clear hf
  obtain ⟨⟨r9, v⟩, h9, hf⟩ := hf2
  rcases q8 with e9 | r8
  · dsimp only [Sum.elim_inl] at hf
    by_cases he : e9 = 1
    · replace hf := og_t he hf
      subst he
      have hf2 := og_p hf
      clear hf
      obtain ⟨hg, hf⟩ := hf2
      cases (og_s hf)
      refine lv_aload_n hx hb dL_law_426 rfl (lv_at hl 1 rfl) ?_
      refine lv_aload_n hx hb dL_law_427 rfl (lv_at hl 0 rfl) ?_
      refine lv_iload hx hb dL_law_428 (lv_at hl 4 rfl) ?_
      refine lv_iconst (v := (1 : Int32)) hx hb dL_law_430 (by decide) ?_
      refine lv_iadd hx hb dL_law_431 ?_
      refine sld (j := 1) (n := n) hx hb hX hbl hbA hS rfl (by decide) hn hL dL_law_432 ?_
      refine lv_aload_n hx hb dL_law_433 rfl (lv_at hl 0 rfl) ?_
      refine lv_iload hx hb dL_law_434 (lv_at hl 4 rfl) ?_
      refine lv_iconst (v := (2 : Int32)) hx hb dL_law_436 (by decide) ?_
      refine lv_iadd hx hb dL_law_437 ?_
      refine sld (j := 2) (n := n) hx hb hX hbl hbA hS rfl (by decide) hn hL dL_law_438 ?_
      refine lv_aload_n hx hb dL_law_439 rfl (lv_at hl 3 rfl) ?_
      refine ywH (ov := some (.int 1)) (st1 := [.int (1 : Int32)]) (rest := []) (w0 := (c8 0 G bX bF bS bT bV bP (bT 0) (bV 0) uX uS uT uV uP ++ oL G o fo)) (w1 := (c8 0 G bX bF bS bT bV bP (bT 0) (bV 0) uX uS uT uV uP ++ oL G o fo)) (wr := cM (gI G) (gJ G) a u) (w' := (wLaw 0 G bX bF bS bT bV bP a o fo uX uS uT uV uP u)) C (ht1_unknown_L l hL0 G bX bF bS bT bV bP o fo uX uS uT uV uP (xs (1 + 5 * n + 1)) (xs (1 + 5 * n + 2)) hq _) (vx_cwSW 4 hts (gdl_s ml_71 ml_72 ml_7 ml_73) rfl rfl rfl (by decide +kernel) ⟨Nat.le_of_ble_eq_true rfl, Nat.le_of_ble_eq_true rfl⟩) hK hA hT hP hD hS [0, 1, 2, 3, 4, 5, 6, 7, 8, 9, 10, 11, 12, 13, 14, 15, 16, 17, 18, 19, 20, 21, 22, 23, 24, 25, 26, 27, 28, 29, 30, 31, 45] [32, 33, 34, 35, 36, 37, 38, 39, 40, 41, 42, 43, 44] [13, 14, 15, 16, 17, 18, 19, 20, 21, 22, 23, 24, 25, 26, 27, 28, 29, 30, 31, 32, 33, 34, 35, 36, 37, 38, 39, 40, 41, 42, 43, 44, 0, 1, 2, 3, 4, 5, 6, 7, 8, 9, 10, 11, 12, 45] rfl rfl rfl rfl (by decide) rfl rfl rfl hl.1 rfl rfl (Nat.le_of_ble_eq_true rfl) dL_law_440 ⟨hc1, hc2⟩ (fun H locs hP hD hS => ?_)
      refine lv_istore (lv' := [(5, .int (1 : Int32)), (0, .ref b), (1, .ref (bX 0)), (2, .ref (a 0)), (3, .ref o), (4, .int (iN n))]) hx hb dL_law_443 hl (by decide) rfl (fun ls hl => ?_)
      refine lv_aload_n hx hb dL_law_445 rfl (lv_at hl 3 rfl) ?_
      refine lv_aload_n hx hb dL_law_446 rfl (lv_at hl 1 rfl) ?_
      refine lv_iload hx hb dL_law_447 (lv_at hl 5 rfl) ?_
      refine lv_iconst (v := (1 : Int32)) hx hb dL_law_449 (by decide) ?_
      refine lv_iadd hx hb dL_law_450 ?_
      refine sld (j := 1) (n := n) hx hb hX hbl hbA hS rfl (by decide) hn hL dL_law_451 ?_
      refine lv_aload_n hx hb dL_law_452 rfl (lv_at hl 1 rfl) ?_
      refine lv_iload hx hb dL_law_453 (lv_at hl 5 rfl) ?_
      refine lv_iconst (v := (2 : Int32)) hx hb dL_law_455 (by decide) ?_
      refine lv_iadd hx hb dL_law_456 ?_
      refine sld (j := 2) (n := n) hx hb hX hbl hbA hS rfl (by decide) hn hL dL_law_457 ?_
      refine yw9 (ov := (some (.int r9))) (st1 := [.int r9]) (rest := []) (w0 := (cM (gI G) (gJ G) a u)) (w1 := cM (gI G) (gJ G) a v) (wr := (c8 0 G bX bF bS bT bV bP (bT 0) (bV 0) uX uS uT uV uP ++ oL G o fo)) (w' := (wLaw 0 G bX bF bS bT bV bP a o fo uX uS uT uV uP v)) C (c9_unknown l (gD G) (gI G) (gJ G) (gC G) a u (xs (1 + 5 * n + 1)) (xs (1 + 5 * n + 2)) r9 v _ h9) (cwV 2 hts (gdl_9 ml_78 ml_79 ml_80 (mL9 m9_29) (mL9 m9_200)) rfl rfl rfl hd9_unknown ⟨Nat.le_of_ble_eq_true rfl, Nat.le_of_ble_eq_true rfl⟩) hK hA hP hD hS (va_recv hK hP (ci := 6) (q0 := 32) rfl rfl) [32, 33, 34, 35, 36, 37, 38, 39, 40, 41, 42, 43, 44] [0, 1, 2, 3, 4, 5, 6, 7, 8, 9, 10, 11, 12, 13, 14, 15, 16, 17, 18, 19, 20, 21, 22, 23, 24, 25, 26, 27, 28, 29, 30, 31, 45] [0, 1, 2, 3, 4, 5, 6, 7, 8, 9, 10, 11, 12, 13, 14, 15, 16, 17, 18, 19, 20, 21, 22, 23, 24, 25, 26, 27, 28, 29, 30, 31, 33, 34, 35, 36, 37, 38, 39, 40, 41, 42, 43, 44, 45, 32] rfl rfl rfl rfl (by decide) rfl rfl rfl hl.1 rfl rfl (Nat.le_of_ble_eq_true rfl) dL_law_458 ⟨(by show cells + 1 ≤ 601024; omega), (by show slots + 6 ≤ 7293000; omega)⟩ (fun H locs hP hD hS => ?_)
      refine lv_istore (lv' := [(6, .int r9), (5, .int (1 : Int32)), (0, .ref b), (1, .ref (bX 0)), (2, .ref (a 0)), (3, .ref o), (4, .int (iN n))]) hx hb dL_law_461 hl (by decide) rfl (fun ls hl => ?_)
      refine lv_aload_n hx hb dL_law_463 rfl (lv_at hl 4 rfl) ?_
      refine yr9 (v := .int (gi v 0)) (rest := []) (w0 := (cM (gI G) (gJ G) a v)) C (c9_thrown l (gD G) (gI G) (gJ G) (gC G) a v _ _ rfl) (cwV 0 hts (gdl_9 ml_35 ml_36 ml_37 (mL9 m9_29) (mL9 m9_22)) rfl rfl rfl hd9_thrown ⟨Nat.le_of_ble_eq_true rfl, Nat.le_of_ble_eq_true rfl⟩) hK hP hD (va_recv hK hP (ci := 6) (q0 := 32) rfl rfl) [32, 33, 34, 35, 36, 37, 38, 39, 40, 41, 42, 43, 44] rfl rfl rfl hl.1 rfl (Nat.le_of_ble_eq_true rfl) dL_law_464 ⟨(by show cells + 1 ≤ 601024; omega), (by show slots + 6 ≤ 7293000; omega)⟩ ?_
      refine lv_iload hx hb dL_law_467 (lv_at hl 1 rfl) ?_
      refine lv_icmp_eq (tgt := 474) hx hb dL_law_469 (by decide) (fun _ => ?_) (fun h8 => absurd hg h8)
      refine lv_iload hx hb dL_law_474 (lv_at hl 1 rfl) ?_
      refine lv_if_ne (tgt := 491) hx hb dL_law_476 (by decide) (fun _ => ?_) (fun h8 => absurd h8 (by decide))
      refine lv_goto (tgt := 761) hx hb dL_law_491 (by decide) ?_
      exact kk bT bV _ H locs _ hP hD hS (lv_sub hl [2, 3, 4, 5, 6] rfl)
    · replace hf := og_f he hf
      by_cases he : e9 = 2
      · replace hf := og_t he hf
        subst he
        have hf2 := og_p hf
        clear hf
        obtain ⟨hg, hf⟩ := hf2
        cases (og_s hf)
        refine lv_aload_n hx hb dL_law_426 rfl (lv_at hl 1 rfl) ?_
        refine lv_aload_n hx hb dL_law_427 rfl (lv_at hl 0 rfl) ?_
        refine lv_iload hx hb dL_law_428 (lv_at hl 4 rfl) ?_
        refine lv_iconst (v := (1 : Int32)) hx hb dL_law_430 (by decide) ?_
        refine lv_iadd hx hb dL_law_431 ?_
        refine sld (j := 1) (n := n) hx hb hX hbl hbA hS rfl (by decide) hn hL dL_law_432 ?_
        refine lv_aload_n hx hb dL_law_433 rfl (lv_at hl 0 rfl) ?_
        refine lv_iload hx hb dL_law_434 (lv_at hl 4 rfl) ?_
        refine lv_iconst (v := (2 : Int32)) hx hb dL_law_436 (by decide) ?_
        refine lv_iadd hx hb dL_law_437 ?_
        refine sld (j := 2) (n := n) hx hb hX hbl hbA hS rfl (by decide) hn hL dL_law_438 ?_
        refine lv_aload_n hx hb dL_law_439 rfl (lv_at hl 3 rfl) ?_
        refine ywH (ov := some (.int 2)) (st1 := [.int (2 : Int32)]) (rest := []) (w0 := (c8 0 G bX bF bS bT bV bP (bT 0) (bV 0) uX uS uT uV uP ++ oL G o fo)) (w1 := (c8 0 G bX bF bS bT bV bP (bT 0) (bV 0) uX uS uT uV uP ++ oL G o fo)) (wr := cM (gI G) (gJ G) a u) (w' := (wLaw 0 G bX bF bS bT bV bP a o fo uX uS uT uV uP u)) C (ht2_unknown_L l hL0 G bX bF bS bT bV bP o fo uX uS uT uV uP (xs (1 + 5 * n + 1)) (xs (1 + 5 * n + 2)) hq _) (vx_cwSW 4 hts (gdl_s ml_71 ml_72 ml_7 ml_73) rfl rfl rfl (by decide +kernel) ⟨Nat.le_of_ble_eq_true rfl, Nat.le_of_ble_eq_true rfl⟩) hK hA hT hP hD hS [0, 1, 2, 3, 4, 5, 6, 7, 8, 9, 10, 11, 12, 13, 14, 15, 16, 17, 18, 19, 20, 21, 22, 23, 24, 25, 26, 27, 28, 29, 30, 31, 45] [32, 33, 34, 35, 36, 37, 38, 39, 40, 41, 42, 43, 44] [13, 14, 15, 16, 17, 18, 19, 20, 21, 22, 23, 24, 25, 26, 27, 28, 29, 30, 31, 32, 33, 34, 35, 36, 37, 38, 39, 40, 41, 42, 43, 44, 0, 1, 2, 3, 4, 5, 6, 7, 8, 9, 10, 11, 12, 45] rfl rfl rfl rfl (by decide) rfl rfl rfl hl.1 rfl rfl (Nat.le_of_ble_eq_true rfl) dL_law_440 ⟨hc1, hc2⟩ (fun H locs hP hD hS => ?_)
        refine lv_istore (lv' := [(5, .int (2 : Int32)), (0, .ref b), (1, .ref (bX 0)), (2, .ref (a 0)), (3, .ref o), (4, .int (iN n))]) hx hb dL_law_443 hl (by decide) rfl (fun ls hl => ?_)
        refine lv_aload_n hx hb dL_law_445 rfl (lv_at hl 3 rfl) ?_
        refine lv_aload_n hx hb dL_law_446 rfl (lv_at hl 1 rfl) ?_
        refine lv_iload hx hb dL_law_447 (lv_at hl 5 rfl) ?_
        refine lv_iconst (v := (1 : Int32)) hx hb dL_law_449 (by decide) ?_
        refine lv_iadd hx hb dL_law_450 ?_
        refine sld (j := 1) (n := n) hx hb hX hbl hbA hS rfl (by decide) hn hL dL_law_451 ?_
        refine lv_aload_n hx hb dL_law_452 rfl (lv_at hl 1 rfl) ?_
        refine lv_iload hx hb dL_law_453 (lv_at hl 5 rfl) ?_
        refine lv_iconst (v := (2 : Int32)) hx hb dL_law_455 (by decide) ?_
        refine lv_iadd hx hb dL_law_456 ?_
        refine sld (j := 2) (n := n) hx hb hX hbl hbA hS rfl (by decide) hn hL dL_law_457 ?_
        refine yw9 (ov := (some (.int r9))) (st1 := [.int r9]) (rest := []) (w0 := (cM (gI G) (gJ G) a u)) (w1 := cM (gI G) (gJ G) a v) (wr := (c8 0 G bX bF bS bT bV bP (bT 0) (bV 0) uX uS uT uV uP ++ oL G o fo)) (w' := (wLaw 0 G bX bF bS bT bV bP a o fo uX uS uT uV uP v)) C (c9_unknown l (gD G) (gI G) (gJ G) (gC G) a u (xs (1 + 5 * n + 1)) (xs (1 + 5 * n + 2)) r9 v _ h9) (cwV 2 hts (gdl_9 ml_78 ml_79 ml_80 (mL9 m9_29) (mL9 m9_200)) rfl rfl rfl hd9_unknown ⟨Nat.le_of_ble_eq_true rfl, Nat.le_of_ble_eq_true rfl⟩) hK hA hP hD hS (va_recv hK hP (ci := 6) (q0 := 32) rfl rfl) [32, 33, 34, 35, 36, 37, 38, 39, 40, 41, 42, 43, 44] [0, 1, 2, 3, 4, 5, 6, 7, 8, 9, 10, 11, 12, 13, 14, 15, 16, 17, 18, 19, 20, 21, 22, 23, 24, 25, 26, 27, 28, 29, 30, 31, 45] [0, 1, 2, 3, 4, 5, 6, 7, 8, 9, 10, 11, 12, 13, 14, 15, 16, 17, 18, 19, 20, 21, 22, 23, 24, 25, 26, 27, 28, 29, 30, 31, 33, 34, 35, 36, 37, 38, 39, 40, 41, 42, 43, 44, 45, 32] rfl rfl rfl rfl (by decide) rfl rfl rfl hl.1 rfl rfl (Nat.le_of_ble_eq_true rfl) dL_law_458 ⟨(by show cells + 1 ≤ 601024; omega), (by show slots + 6 ≤ 7293000; omega)⟩ (fun H locs hP hD hS => ?_)
        refine lv_istore (lv' := [(6, .int r9), (5, .int (2 : Int32)), (0, .ref b), (1, .ref (bX 0)), (2, .ref (a 0)), (3, .ref o), (4, .int (iN n))]) hx hb dL_law_461 hl (by decide) rfl (fun ls hl => ?_)
        refine lv_aload_n hx hb dL_law_463 rfl (lv_at hl 4 rfl) ?_
        refine yr9 (v := .int (gi v 0)) (rest := []) (w0 := (cM (gI G) (gJ G) a v)) C (c9_thrown l (gD G) (gI G) (gJ G) (gC G) a v _ _ rfl) (cwV 0 hts (gdl_9 ml_35 ml_36 ml_37 (mL9 m9_29) (mL9 m9_22)) rfl rfl rfl hd9_thrown ⟨Nat.le_of_ble_eq_true rfl, Nat.le_of_ble_eq_true rfl⟩) hK hP hD (va_recv hK hP (ci := 6) (q0 := 32) rfl rfl) [32, 33, 34, 35, 36, 37, 38, 39, 40, 41, 42, 43, 44] rfl rfl rfl hl.1 rfl (Nat.le_of_ble_eq_true rfl) dL_law_464 ⟨(by show cells + 1 ≤ 601024; omega), (by show slots + 6 ≤ 7293000; omega)⟩ ?_
        refine lv_iload hx hb dL_law_467 (lv_at hl 1 rfl) ?_
        refine lv_icmp_eq (tgt := 474) hx hb dL_law_469 (by decide) (fun _ => ?_) (fun h8 => absurd hg h8)
        refine lv_iload hx hb dL_law_474 (lv_at hl 1 rfl) ?_
        refine lv_if_ne (tgt := 491) hx hb dL_law_476 (by decide) (fun _ => ?_) (fun h8 => absurd h8 (by decide))
        refine lv_goto (tgt := 761) hx hb dL_law_491 (by decide) ?_
        exact kk bT bV _ H locs _ hP hD hS (lv_sub hl [2, 3, 4, 5, 6] rfl)
      · replace hf := og_f he hf
        cases hf
  · obtain ⟨r, rfl⟩ : ∃ r, r = r8 := ⟨_, rfl⟩
    dsimp only [Sum.elim_inr] at hf
    have hf2 := og_p hf
    clear hf
    obtain ⟨⟨hg, hr⟩, hf⟩ := hf2
    subst hr
    cases (og_s hf)
    refine lv_aload_n hx hb dL_law_426 rfl (lv_at hl 1 rfl) ?_
    refine lv_aload_n hx hb dL_law_427 rfl (lv_at hl 0 rfl) ?_
    refine lv_iload hx hb dL_law_428 (lv_at hl 4 rfl) ?_
    refine lv_iconst (v := (1 : Int32)) hx hb dL_law_430 (by decide) ?_
    refine lv_iadd hx hb dL_law_431 ?_
    refine sld (j := 1) (n := n) hx hb hX hbl hbA hS rfl (by decide) hn hL dL_law_432 ?_
    refine lv_aload_n hx hb dL_law_433 rfl (lv_at hl 0 rfl) ?_
    refine lv_iload hx hb dL_law_434 (lv_at hl 4 rfl) ?_
    refine lv_iconst (v := (2 : Int32)) hx hb dL_law_436 (by decide) ?_
    refine lv_iadd hx hb dL_law_437 ?_
    refine sld (j := 2) (n := n) hx hb hX hbl hbA hS rfl (by decide) hn hL dL_law_438 ?_
    refine lv_aload_n hx hb dL_law_439 rfl (lv_at hl 3 rfl) ?_
    refine ywH (ov := some (.int 0)) (st1 := [.int (0 : Int32)]) (rest := []) (w0 := (c8 0 G bX bF bS bT bV bP (bT 0) (bV 0) uX uS uT uV uP ++ oL G o fo)) (w1 := (c8 0 G bX bF bS bT bV bP (bT 0) (bV 0) uX uS uT uV uP ++ oL G o (vp_updL fo 0 r.toInt64))) (wr := cM (gI G) (gJ G) a u) (w' := (wLaw 0 G bX bF bS bT bV bP a o (vp_updL fo 0 r.toInt64) uX uS uT uV uP u)) C (hr_unknown_L l G bX bF bS bT bV bP o fo uX uS uT uV uP (xs (1 + 5 * n + 1)) (xs (1 + 5 * n + 2)) r hq _) (vx_cwSW 4 hts (gdl_s ml_71 ml_72 ml_7 ml_73) rfl rfl rfl (by decide +kernel) ⟨Nat.le_of_ble_eq_true rfl, Nat.le_of_ble_eq_true rfl⟩) hK hA hT hP hD hS [0, 1, 2, 3, 4, 5, 6, 7, 8, 9, 10, 11, 12, 13, 14, 15, 16, 17, 18, 19, 20, 21, 22, 23, 24, 25, 26, 27, 28, 29, 30, 31, 45] [32, 33, 34, 35, 36, 37, 38, 39, 40, 41, 42, 43, 44] [13, 14, 15, 16, 17, 18, 19, 20, 21, 22, 23, 24, 25, 26, 27, 28, 29, 30, 31, 32, 33, 34, 35, 36, 37, 38, 39, 40, 41, 42, 43, 44, 0, 1, 2, 3, 4, 5, 6, 7, 8, 9, 10, 11, 12, 45] rfl rfl rfl rfl (by decide) rfl rfl rfl hl.1 rfl rfl (Nat.le_of_ble_eq_true rfl) dL_law_440 ⟨hc1, hc2⟩ (fun H locs hP hD hS => ?_)
    refine lv_istore (lv' := [(5, .int (0 : Int32)), (0, .ref b), (1, .ref (bX 0)), (2, .ref (a 0)), (3, .ref o), (4, .int (iN n))]) hx hb dL_law_443 hl (by decide) rfl (fun ls hl => ?_)
    refine lv_aload_n hx hb dL_law_445 rfl (lv_at hl 3 rfl) ?_
    refine lv_aload_n hx hb dL_law_446 rfl (lv_at hl 1 rfl) ?_
    refine lv_iload hx hb dL_law_447 (lv_at hl 5 rfl) ?_
    refine lv_iconst (v := (1 : Int32)) hx hb dL_law_449 (by decide) ?_
    refine lv_iadd hx hb dL_law_450 ?_
    refine sld (j := 1) (n := n) hx hb hX hbl hbA hS rfl (by decide) hn hL dL_law_451 ?_
    refine lv_aload_n hx hb dL_law_452 rfl (lv_at hl 1 rfl) ?_
    refine lv_iload hx hb dL_law_453 (lv_at hl 5 rfl) ?_
    refine lv_iconst (v := (2 : Int32)) hx hb dL_law_455 (by decide) ?_
    refine lv_iadd hx hb dL_law_456 ?_
    refine sld (j := 2) (n := n) hx hb hX hbl hbA hS rfl (by decide) hn hL dL_law_457 ?_
    refine yw9 (ov := (some (.int r))) (st1 := [.int r]) (rest := []) (w0 := (cM (gI G) (gJ G) a u)) (w1 := cM (gI G) (gJ G) a v) (wr := (c8 0 G bX bF bS bT bV bP (bT 0) (bV 0) uX uS uT uV uP ++ oL G o (vp_updL fo 0 r.toInt64))) (w' := (wLaw 0 G bX bF bS bT bV bP a o (vp_updL fo 0 r.toInt64) uX uS uT uV uP v)) C (c9_unknown l (gD G) (gI G) (gJ G) (gC G) a u (xs (1 + 5 * n + 1)) (xs (1 + 5 * n + 2)) r v _ h9) (cwV 2 hts (gdl_9 ml_78 ml_79 ml_80 (mL9 m9_29) (mL9 m9_200)) rfl rfl rfl hd9_unknown ⟨Nat.le_of_ble_eq_true rfl, Nat.le_of_ble_eq_true rfl⟩) hK hA hP hD hS (va_recv hK hP (ci := 6) (q0 := 32) rfl rfl) [32, 33, 34, 35, 36, 37, 38, 39, 40, 41, 42, 43, 44] [0, 1, 2, 3, 4, 5, 6, 7, 8, 9, 10, 11, 12, 13, 14, 15, 16, 17, 18, 19, 20, 21, 22, 23, 24, 25, 26, 27, 28, 29, 30, 31, 45] [0, 1, 2, 3, 4, 5, 6, 7, 8, 9, 10, 11, 12, 13, 14, 15, 16, 17, 18, 19, 20, 21, 22, 23, 24, 25, 26, 27, 28, 29, 30, 31, 33, 34, 35, 36, 37, 38, 39, 40, 41, 42, 43, 44, 45, 32] rfl rfl rfl rfl (by decide) rfl rfl rfl hl.1 rfl rfl (Nat.le_of_ble_eq_true rfl) dL_law_458 ⟨(by show cells + 1 ≤ 601024; omega), (by show slots + 6 ≤ 7293000; omega)⟩ (fun H locs hP hD hS => ?_)
    refine lv_istore (lv' := [(6, .int r), (5, .int (0 : Int32)), (0, .ref b), (1, .ref (bX 0)), (2, .ref (a 0)), (3, .ref o), (4, .int (iN n))]) hx hb dL_law_461 hl (by decide) rfl (fun ls hl => ?_)
    refine lv_aload_n hx hb dL_law_463 rfl (lv_at hl 4 rfl) ?_
    refine yr9 (v := .int (gi v 0)) (rest := []) (w0 := (cM (gI G) (gJ G) a v)) C (c9_thrown l (gD G) (gI G) (gJ G) (gC G) a v _ _ rfl) (cwV 0 hts (gdl_9 ml_35 ml_36 ml_37 (mL9 m9_29) (mL9 m9_22)) rfl rfl rfl hd9_thrown ⟨Nat.le_of_ble_eq_true rfl, Nat.le_of_ble_eq_true rfl⟩) hK hP hD (va_recv hK hP (ci := 6) (q0 := 32) rfl rfl) [32, 33, 34, 35, 36, 37, 38, 39, 40, 41, 42, 43, 44] rfl rfl rfl hl.1 rfl (Nat.le_of_ble_eq_true rfl) dL_law_464 ⟨(by show cells + 1 ≤ 601024; omega), (by show slots + 6 ≤ 7293000; omega)⟩ ?_
    refine lv_iload hx hb dL_law_467 (lv_at hl 1 rfl) ?_
    refine lv_icmp_eq (tgt := 474) hx hb dL_law_469 (by decide) (fun _ => ?_) (fun h8 => absurd hg h8)
    refine lv_iload hx hb dL_law_474 (lv_at hl 1 rfl) ?_
    refine lv_if_ne (tgt := 491) hx hb dL_law_476 (by decide) (fun h8 => absurd rfl h8) (fun _ => ?_)
    refine lv_aload_n hx hb dL_law_479 rfl (lv_at hl 5 rfl) ?_
    refine lv_iconst (v := (0 : Int32)) hx hb dL_law_480 (by decide) ?_
    refine va_lald hx hb hK hP 45 1 rfl rfl vi01 dL_law_481 ?_
    refine W.eq (g2 := F0 m 482 ls [.long r.toInt64]) rfl ?_
    refine lv_iload hx hb dL_law_482 (lv_at hl 0 rfl) ?_
    refine lv_i2l (v := r.toInt64) hx hb dL_law_484 rfl ?_
    refine W.lcmp hx hb dL_law_485 ?_
    refine lv_if_eq (tgt := 491) hx hb dL_law_486 (by decide) (fun _ => ?_) (fun h8 => absurd (lg_self _) h8)
    refine lv_goto (tgt := 761) hx hb dL_law_491 (by decide) ?_
    exact kk bT bV _ H locs _ hP hD hS (lv_sub hl [2, 3, 4, 5, 6] rfl)
set_option maxHeartbeats 4000000 in
set_option maxRecDepth 100000 in
theorem lw_8_L {p : Program} {l : Launch} {e : Env} {s : State} {m : MethodId} {below : List Frame} {meth : Method} {c : Code} {H : Heap} {locs : List Loc} {cells slots : Nat} {Q : State → Prop} {ls : Array Slot} {b L n : Nat} {xs : Nat → Int32} {G : Gx} {A : Nat → Prop} {bX bF bS bT bV bP a : Nat → Nat} {o : Nat} {fo : Nat → Int64} {uX uS uT uV uP u : Md} {vX vS vT vV vP v : Md}
    (C : Cx p s m #[Value.ref b] meth c cL_law 8 (Cond.initialized RL :: WL) RL ret) (hL0 : l.stackTraces = false) (hX : va_X b L xs s s.heap) (hbl : b < s.heap.size) (hbA : ¬ A b) (hL : L ≤ 2561) (hn : 6 + 5 * n ≤ L) (hK : va_K (gD G) vwCl (tyG G) s) (hA : ∀ q : Nat, s.heap.size ≤ q → A q) (hT : STL G A s s.heap) (hcs : cells + 1 ≤ 601024 ∧ slots + 6 ≤ 7293000) (hP : va_P (gD G) vwCl (wLaw 0 G bX bF bS bT bV bP a o fo uX uS uT uV uP u) H) (hD : va_D A (wLaw 0 G bX bF bS bT bV bP a o fo uX uS uT uV uP u)) (hS : va_S A s.heap H locs) (hl : lv_has ls 8 [(0, .ref b), (1, .ref (bX 0)), (2, .ref (a 0)), (3, .ref o), (4, .int (iN n))]) (hf : sL_8_L uX uS uT uV uP u (xs (1 + 5 * n + 1)) = some (vX, vS, vT, vV, vP, v))
    (kk : ∀ (bT bV : Nat → Nat) (fo : Nat → Int64) (H : Heap) (locs : List Loc) (ls : Array Slot), va_P (gD G) vwCl (wLaw 0 G bX bF bS bT bV bP a o fo vX vS vT vV vP v) H → va_D A (wLaw 0 G bX bF bS bT bV bP a o fo vX vS vT vV vP v) → va_S A s.heap H locs → lv_has ls 8 [(0, .ref b), (1, .ref (bX 0)), (2, .ref (a 0)), (3, .ref o), (4, .int (iN n))] → W p l e room_1 s m #[Value.ref b] below meth c H locs (cells + 1) (slots + 6) Q (F0 m 761 ls [])) :
    W p l e room_1 s m #[Value.ref b] below meth c H locs cells slots Q (F0 m 494 ls []) := by
  obtain ⟨hc1, hc2⟩ := hcs
  have hx := C.1.1
  have hb := C.1.2.1
  have hown := C.1.2.2.2.1
  have hts := C.1.2.2.2.2
  unfold sL_8_L at hf
  have hf2 := og_b hf
  clear hf
  obtain ⟨q8, hq, hf⟩ := hf2
  have hf2 := og_b hf
  clear hf
  obtain ⟨⟨r9, v⟩, h9, hf⟩ := hf2
  rcases q8 with e9 | r8
  · dsimp only [Sum.elim_inl] at hf
    by_cases he : e9 = 1
    · replace hf := og_t he hf
      subst he
      have hf2 := og_p hf
      clear hf
      obtain ⟨hg, hf⟩ := hf2
      cases (og_s hf)
      refine lv_aload_n hx hb dL_law_494 rfl (lv_at hl 1 rfl) ?_
      refine lv_aload_n hx hb dL_law_495 rfl (lv_at hl 0 rfl) ?_
      refine lv_iload hx hb dL_law_496 (lv_at hl 4 rfl) ?_
      refine lv_iconst (v := (1 : Int32)) hx hb dL_law_498 (by decide) ?_
      refine lv_iadd hx hb dL_law_499 ?_
      refine sld (j := 1) (n := n) hx hb hX hbl hbA hS rfl (by decide) hn hL dL_law_500 ?_
      refine lv_aload_n hx hb dL_law_501 rfl (lv_at hl 3 rfl) ?_
      refine ywH (ov := some (.int 1)) (st1 := [.int (1 : Int32)]) (rest := []) (w0 := (c8 0 G bX bF bS bT bV bP (bT 0) (bV 0) uX uS uT uV uP ++ oL G o fo)) (w1 := (c8 0 G bX bF bS bT bV bP (bT 0) (bV 0) uX uS uT uV uP ++ oL G o fo)) (wr := cM (gI G) (gJ G) a u) (w' := (wLaw 0 G bX bF bS bT bV bP a o fo uX uS uT uV uP u)) C (ht1_write_L l hL0 G bX bF bS bT bV bP o fo uX uS uT uV uP (xs (1 + 5 * n + 1)) hq _) (vx_cwSW 3 hts (gdl_s ml_81 ml_82 ml_7 ml_83) rfl rfl rfl (by decide +kernel) ⟨Nat.le_of_ble_eq_true rfl, Nat.le_of_ble_eq_true rfl⟩) hK hA hT hP hD hS [0, 1, 2, 3, 4, 5, 6, 7, 8, 9, 10, 11, 12, 13, 14, 15, 16, 17, 18, 19, 20, 21, 22, 23, 24, 25, 26, 27, 28, 29, 30, 31, 45] [32, 33, 34, 35, 36, 37, 38, 39, 40, 41, 42, 43, 44] [13, 14, 15, 16, 17, 18, 19, 20, 21, 22, 23, 24, 25, 26, 27, 28, 29, 30, 31, 32, 33, 34, 35, 36, 37, 38, 39, 40, 41, 42, 43, 44, 0, 1, 2, 3, 4, 5, 6, 7, 8, 9, 10, 11, 12, 45] rfl rfl rfl rfl (by decide) rfl rfl rfl hl.1 rfl rfl (Nat.le_of_ble_eq_true rfl) dL_law_502 ⟨hc1, hc2⟩ (fun H locs hP hD hS => ?_)
      refine lv_istore (lv' := [(5, .int (1 : Int32)), (0, .ref b), (1, .ref (bX 0)), (2, .ref (a 0)), (3, .ref o), (4, .int (iN n))]) hx hb dL_law_505 hl (by decide) rfl (fun ls hl => ?_)
      refine lv_aload_n hx hb dL_law_507 rfl (lv_at hl 3 rfl) ?_
      refine lv_aload_n hx hb dL_law_508 rfl (lv_at hl 1 rfl) ?_
      refine lv_iload hx hb dL_law_509 (lv_at hl 5 rfl) ?_
      refine lv_iconst (v := (1 : Int32)) hx hb dL_law_511 (by decide) ?_
      refine lv_iadd hx hb dL_law_512 ?_
      refine sld (j := 1) (n := n) hx hb hX hbl hbA hS rfl (by decide) hn hL dL_law_513 ?_
      refine yw9 (ov := (some (.int r9))) (st1 := [.int r9]) (rest := []) (w0 := (cM (gI G) (gJ G) a u)) (w1 := cM (gI G) (gJ G) a v) (wr := (c8 0 G bX bF bS bT bV bP (bT 0) (bV 0) uX uS uT uV uP ++ oL G o fo)) (w' := (wLaw 0 G bX bF bS bT bV bP a o fo uX uS uT uV uP v)) C (c9_write l (gD G) (gI G) (gJ G) (gC G) a u (xs (1 + 5 * n + 1)) r9 v _ h9) (cwV 1 hts (gdl_9 ml_87 ml_88 ml_89 (mL9 m9_29) (mL9 m9_248)) rfl rfl rfl hd9_write ⟨Nat.le_of_ble_eq_true rfl, Nat.le_of_ble_eq_true rfl⟩) hK hA hP hD hS (va_recv hK hP (ci := 6) (q0 := 32) rfl rfl) [32, 33, 34, 35, 36, 37, 38, 39, 40, 41, 42, 43, 44] [0, 1, 2, 3, 4, 5, 6, 7, 8, 9, 10, 11, 12, 13, 14, 15, 16, 17, 18, 19, 20, 21, 22, 23, 24, 25, 26, 27, 28, 29, 30, 31, 45] [0, 1, 2, 3, 4, 5, 6, 7, 8, 9, 10, 11, 12, 13, 14, 15, 16, 17, 18, 19, 20, 21, 22, 23, 24, 25, 26, 27, 28, 29, 30, 31, 33, 34, 35, 36, 37, 38, 39, 40, 41, 42, 43, 44, 45, 32] rfl rfl rfl rfl (by decide) rfl rfl rfl hl.1 rfl rfl (Nat.le_of_ble_eq_true rfl) dL_law_514 ⟨(by show cells + 1 ≤ 601024; omega), (by show slots + 6 ≤ 7293000; omega)⟩ (fun H locs hP hD hS => ?_)
      refine lv_istore (lv' := [(6, .int r9), (5, .int (1 : Int32)), (0, .ref b), (1, .ref (bX 0)), (2, .ref (a 0)), (3, .ref o), (4, .int (iN n))]) hx hb dL_law_517 hl (by decide) rfl (fun ls hl => ?_)
      refine lv_aload_n hx hb dL_law_519 rfl (lv_at hl 4 rfl) ?_
      refine yr9 (v := .int (gi v 0)) (rest := []) (w0 := (cM (gI G) (gJ G) a v)) C (c9_thrown l (gD G) (gI G) (gJ G) (gC G) a v _ _ rfl) (cwV 0 hts (gdl_9 ml_35 ml_36 ml_37 (mL9 m9_29) (mL9 m9_22)) rfl rfl rfl hd9_thrown ⟨Nat.le_of_ble_eq_true rfl, Nat.le_of_ble_eq_true rfl⟩) hK hP hD (va_recv hK hP (ci := 6) (q0 := 32) rfl rfl) [32, 33, 34, 35, 36, 37, 38, 39, 40, 41, 42, 43, 44] rfl rfl rfl hl.1 rfl (Nat.le_of_ble_eq_true rfl) dL_law_520 ⟨(by show cells + 1 ≤ 601024; omega), (by show slots + 6 ≤ 7293000; omega)⟩ ?_
      refine lv_iload hx hb dL_law_523 (lv_at hl 1 rfl) ?_
      refine lv_icmp_eq (tgt := 530) hx hb dL_law_525 (by decide) (fun _ => ?_) (fun h8 => absurd hg h8)
      refine lv_iload hx hb dL_law_530 (lv_at hl 1 rfl) ?_
      refine lv_if_ne (tgt := 547) hx hb dL_law_532 (by decide) (fun _ => ?_) (fun h8 => absurd h8 (by decide))
      refine lv_goto (tgt := 761) hx hb dL_law_547 (by decide) ?_
      exact kk bT bV _ H locs _ hP hD hS (lv_sub hl [2, 3, 4, 5, 6] rfl)
    · replace hf := og_f he hf
      by_cases he : e9 = 2
      · replace hf := og_t he hf
        subst he
        have hf2 := og_p hf
        clear hf
        obtain ⟨hg, hf⟩ := hf2
        cases (og_s hf)
        refine lv_aload_n hx hb dL_law_494 rfl (lv_at hl 1 rfl) ?_
        refine lv_aload_n hx hb dL_law_495 rfl (lv_at hl 0 rfl) ?_
        refine lv_iload hx hb dL_law_496 (lv_at hl 4 rfl) ?_
        refine lv_iconst (v := (1 : Int32)) hx hb dL_law_498 (by decide) ?_
        refine lv_iadd hx hb dL_law_499 ?_
        refine sld (j := 1) (n := n) hx hb hX hbl hbA hS rfl (by decide) hn hL dL_law_500 ?_
        refine lv_aload_n hx hb dL_law_501 rfl (lv_at hl 3 rfl) ?_
        refine ywH (ov := some (.int 2)) (st1 := [.int (2 : Int32)]) (rest := []) (w0 := (c8 0 G bX bF bS bT bV bP (bT 0) (bV 0) uX uS uT uV uP ++ oL G o fo)) (w1 := (c8 0 G bX bF bS bT bV bP (bT 0) (bV 0) uX uS uT uV uP ++ oL G o fo)) (wr := cM (gI G) (gJ G) a u) (w' := (wLaw 0 G bX bF bS bT bV bP a o fo uX uS uT uV uP u)) C (ht2_write_L l hL0 G bX bF bS bT bV bP o fo uX uS uT uV uP (xs (1 + 5 * n + 1)) hq _) (vx_cwSW 3 hts (gdl_s ml_81 ml_82 ml_7 ml_83) rfl rfl rfl (by decide +kernel) ⟨Nat.le_of_ble_eq_true rfl, Nat.le_of_ble_eq_true rfl⟩) hK hA hT hP hD hS [0, 1, 2, 3, 4, 5, 6, 7, 8, 9, 10, 11, 12, 13, 14, 15, 16, 17, 18, 19, 20, 21, 22, 23, 24, 25, 26, 27, 28, 29, 30, 31, 45] [32, 33, 34, 35, 36, 37, 38, 39, 40, 41, 42, 43, 44] [13, 14, 15, 16, 17, 18, 19, 20, 21, 22, 23, 24, 25, 26, 27, 28, 29, 30, 31, 32, 33, 34, 35, 36, 37, 38, 39, 40, 41, 42, 43, 44, 0, 1, 2, 3, 4, 5, 6, 7, 8, 9, 10, 11, 12, 45] rfl rfl rfl rfl (by decide) rfl rfl rfl hl.1 rfl rfl (Nat.le_of_ble_eq_true rfl) dL_law_502 ⟨hc1, hc2⟩ (fun H locs hP hD hS => ?_)
        refine lv_istore (lv' := [(5, .int (2 : Int32)), (0, .ref b), (1, .ref (bX 0)), (2, .ref (a 0)), (3, .ref o), (4, .int (iN n))]) hx hb dL_law_505 hl (by decide) rfl (fun ls hl => ?_)
        refine lv_aload_n hx hb dL_law_507 rfl (lv_at hl 3 rfl) ?_
        refine lv_aload_n hx hb dL_law_508 rfl (lv_at hl 1 rfl) ?_
        refine lv_iload hx hb dL_law_509 (lv_at hl 5 rfl) ?_
        refine lv_iconst (v := (1 : Int32)) hx hb dL_law_511 (by decide) ?_
        refine lv_iadd hx hb dL_law_512 ?_
        refine sld (j := 1) (n := n) hx hb hX hbl hbA hS rfl (by decide) hn hL dL_law_513 ?_
        refine yw9 (ov := (some (.int r9))) (st1 := [.int r9]) (rest := []) (w0 := (cM (gI G) (gJ G) a u)) (w1 := cM (gI G) (gJ G) a v) (wr := (c8 0 G bX bF bS bT bV bP (bT 0) (bV 0) uX uS uT uV uP ++ oL G o fo)) (w' := (wLaw 0 G bX bF bS bT bV bP a o fo uX uS uT uV uP v)) C (c9_write l (gD G) (gI G) (gJ G) (gC G) a u (xs (1 + 5 * n + 1)) r9 v _ h9) (cwV 1 hts (gdl_9 ml_87 ml_88 ml_89 (mL9 m9_29) (mL9 m9_248)) rfl rfl rfl hd9_write ⟨Nat.le_of_ble_eq_true rfl, Nat.le_of_ble_eq_true rfl⟩) hK hA hP hD hS (va_recv hK hP (ci := 6) (q0 := 32) rfl rfl) [32, 33, 34, 35, 36, 37, 38, 39, 40, 41, 42, 43, 44] [0, 1, 2, 3, 4, 5, 6, 7, 8, 9, 10, 11, 12, 13, 14, 15, 16, 17, 18, 19, 20, 21, 22, 23, 24, 25, 26, 27, 28, 29, 30, 31, 45] [0, 1, 2, 3, 4, 5, 6, 7, 8, 9, 10, 11, 12, 13, 14, 15, 16, 17, 18, 19, 20, 21, 22, 23, 24, 25, 26, 27, 28, 29, 30, 31, 33, 34, 35, 36, 37, 38, 39, 40, 41, 42, 43, 44, 45, 32] rfl rfl rfl rfl (by decide) rfl rfl rfl hl.1 rfl rfl (Nat.le_of_ble_eq_true rfl) dL_law_514 ⟨(by show cells + 1 ≤ 601024; omega), (by show slots + 6 ≤ 7293000; omega)⟩ (fun H locs hP hD hS => ?_)
        refine lv_istore (lv' := [(6, .int r9), (5, .int (2 : Int32)), (0, .ref b), (1, .ref (bX 0)), (2, .ref (a 0)), (3, .ref o), (4, .int (iN n))]) hx hb dL_law_517 hl (by decide) rfl (fun ls hl => ?_)
        refine lv_aload_n hx hb dL_law_519 rfl (lv_at hl 4 rfl) ?_
        refine yr9 (v := .int (gi v 0)) (rest := []) (w0 := (cM (gI G) (gJ G) a v)) C (c9_thrown l (gD G) (gI G) (gJ G) (gC G) a v _ _ rfl) (cwV 0 hts (gdl_9 ml_35 ml_36 ml_37 (mL9 m9_29) (mL9 m9_22)) rfl rfl rfl hd9_thrown ⟨Nat.le_of_ble_eq_true rfl, Nat.le_of_ble_eq_true rfl⟩) hK hP hD (va_recv hK hP (ci := 6) (q0 := 32) rfl rfl) [32, 33, 34, 35, 36, 37, 38, 39, 40, 41, 42, 43, 44] rfl rfl rfl hl.1 rfl (Nat.le_of_ble_eq_true rfl) dL_law_520 ⟨(by show cells + 1 ≤ 601024; omega), (by show slots + 6 ≤ 7293000; omega)⟩ ?_
        refine lv_iload hx hb dL_law_523 (lv_at hl 1 rfl) ?_
        refine lv_icmp_eq (tgt := 530) hx hb dL_law_525 (by decide) (fun _ => ?_) (fun h8 => absurd hg h8)
        refine lv_iload hx hb dL_law_530 (lv_at hl 1 rfl) ?_
        refine lv_if_ne (tgt := 547) hx hb dL_law_532 (by decide) (fun _ => ?_) (fun h8 => absurd h8 (by decide))
        refine lv_goto (tgt := 761) hx hb dL_law_547 (by decide) ?_
        exact kk bT bV _ H locs _ hP hD hS (lv_sub hl [2, 3, 4, 5, 6] rfl)
      · replace hf := og_f he hf
        cases hf
  · obtain ⟨r, vX, vP⟩ := r8
    dsimp only [Sum.elim_inr] at hf
    have hf2 := og_p hf
    clear hf
    obtain ⟨⟨hg, hr⟩, hf⟩ := hf2
    subst hr
    cases (og_s hf)
    refine lv_aload_n hx hb dL_law_494 rfl (lv_at hl 1 rfl) ?_
    refine lv_aload_n hx hb dL_law_495 rfl (lv_at hl 0 rfl) ?_
    refine lv_iload hx hb dL_law_496 (lv_at hl 4 rfl) ?_
    refine lv_iconst (v := (1 : Int32)) hx hb dL_law_498 (by decide) ?_
    refine lv_iadd hx hb dL_law_499 ?_
    refine sld (j := 1) (n := n) hx hb hX hbl hbA hS rfl (by decide) hn hL dL_law_500 ?_
    refine lv_aload_n hx hb dL_law_501 rfl (lv_at hl 3 rfl) ?_
    refine ywH (ov := some (.int 0)) (st1 := [.int (0 : Int32)]) (rest := []) (w0 := (c8 0 G bX bF bS bT bV bP (bT 0) (bV 0) uX uS uT uV uP ++ oL G o fo)) (w1 := (c8 0 G bX bF bS bT bV bP (bT 0) (bV 0) vX uS uT uV vP ++ oL G o (vp_updL fo 0 r.toInt64))) (wr := cM (gI G) (gJ G) a u) (w' := (wLaw 0 G bX bF bS bT bV bP a o (vp_updL fo 0 r.toInt64) vX uS uT uV vP u)) C (hr_write_L l G bX bF bS bT bV bP o fo uX uS uT uV uP (xs (1 + 5 * n + 1)) r vX vP hq _) (vx_cwSW 3 hts (gdl_s ml_81 ml_82 ml_7 ml_83) rfl rfl rfl (by decide +kernel) ⟨Nat.le_of_ble_eq_true rfl, Nat.le_of_ble_eq_true rfl⟩) hK hA hT hP hD hS [0, 1, 2, 3, 4, 5, 6, 7, 8, 9, 10, 11, 12, 13, 14, 15, 16, 17, 18, 19, 20, 21, 22, 23, 24, 25, 26, 27, 28, 29, 30, 31, 45] [32, 33, 34, 35, 36, 37, 38, 39, 40, 41, 42, 43, 44] [13, 14, 15, 16, 17, 18, 19, 20, 21, 22, 23, 24, 25, 26, 27, 28, 29, 30, 31, 32, 33, 34, 35, 36, 37, 38, 39, 40, 41, 42, 43, 44, 0, 1, 2, 3, 4, 5, 6, 7, 8, 9, 10, 11, 12, 45] rfl rfl rfl rfl (by decide) rfl rfl rfl hl.1 rfl rfl (Nat.le_of_ble_eq_true rfl) dL_law_502 ⟨hc1, hc2⟩ (fun H locs hP hD hS => ?_)
    refine lv_istore (lv' := [(5, .int (0 : Int32)), (0, .ref b), (1, .ref (bX 0)), (2, .ref (a 0)), (3, .ref o), (4, .int (iN n))]) hx hb dL_law_505 hl (by decide) rfl (fun ls hl => ?_)
    refine lv_aload_n hx hb dL_law_507 rfl (lv_at hl 3 rfl) ?_
    refine lv_aload_n hx hb dL_law_508 rfl (lv_at hl 1 rfl) ?_
    refine lv_iload hx hb dL_law_509 (lv_at hl 5 rfl) ?_
    refine lv_iconst (v := (1 : Int32)) hx hb dL_law_511 (by decide) ?_
    refine lv_iadd hx hb dL_law_512 ?_
    refine sld (j := 1) (n := n) hx hb hX hbl hbA hS rfl (by decide) hn hL dL_law_513 ?_
    refine yw9 (ov := (some (.int r))) (st1 := [.int r]) (rest := []) (w0 := (cM (gI G) (gJ G) a u)) (w1 := cM (gI G) (gJ G) a v) (wr := (c8 0 G bX bF bS bT bV bP (bT 0) (bV 0) vX uS uT uV vP ++ oL G o (vp_updL fo 0 r.toInt64))) (w' := (wLaw 0 G bX bF bS bT bV bP a o (vp_updL fo 0 r.toInt64) vX uS uT uV vP v)) C (c9_write l (gD G) (gI G) (gJ G) (gC G) a u (xs (1 + 5 * n + 1)) r v _ h9) (cwV 1 hts (gdl_9 ml_87 ml_88 ml_89 (mL9 m9_29) (mL9 m9_248)) rfl rfl rfl hd9_write ⟨Nat.le_of_ble_eq_true rfl, Nat.le_of_ble_eq_true rfl⟩) hK hA hP hD hS (va_recv hK hP (ci := 6) (q0 := 32) rfl rfl) [32, 33, 34, 35, 36, 37, 38, 39, 40, 41, 42, 43, 44] [0, 1, 2, 3, 4, 5, 6, 7, 8, 9, 10, 11, 12, 13, 14, 15, 16, 17, 18, 19, 20, 21, 22, 23, 24, 25, 26, 27, 28, 29, 30, 31, 45] [0, 1, 2, 3, 4, 5, 6, 7, 8, 9, 10, 11, 12, 13, 14, 15, 16, 17, 18, 19, 20, 21, 22, 23, 24, 25, 26, 27, 28, 29, 30, 31, 33, 34, 35, 36, 37, 38, 39, 40, 41, 42, 43, 44, 45, 32] rfl rfl rfl rfl (by decide) rfl rfl rfl hl.1 rfl rfl (Nat.le_of_ble_eq_true rfl) dL_law_514 ⟨(by show cells + 1 ≤ 601024; omega), (by show slots + 6 ≤ 7293000; omega)⟩ (fun H locs hP hD hS => ?_)
    refine lv_istore (lv' := [(6, .int r), (5, .int (0 : Int32)), (0, .ref b), (1, .ref (bX 0)), (2, .ref (a 0)), (3, .ref o), (4, .int (iN n))]) hx hb dL_law_517 hl (by decide) rfl (fun ls hl => ?_)
    refine lv_aload_n hx hb dL_law_519 rfl (lv_at hl 4 rfl) ?_
    refine yr9 (v := .int (gi v 0)) (rest := []) (w0 := (cM (gI G) (gJ G) a v)) C (c9_thrown l (gD G) (gI G) (gJ G) (gC G) a v _ _ rfl) (cwV 0 hts (gdl_9 ml_35 ml_36 ml_37 (mL9 m9_29) (mL9 m9_22)) rfl rfl rfl hd9_thrown ⟨Nat.le_of_ble_eq_true rfl, Nat.le_of_ble_eq_true rfl⟩) hK hP hD (va_recv hK hP (ci := 6) (q0 := 32) rfl rfl) [32, 33, 34, 35, 36, 37, 38, 39, 40, 41, 42, 43, 44] rfl rfl rfl hl.1 rfl (Nat.le_of_ble_eq_true rfl) dL_law_520 ⟨(by show cells + 1 ≤ 601024; omega), (by show slots + 6 ≤ 7293000; omega)⟩ ?_
    refine lv_iload hx hb dL_law_523 (lv_at hl 1 rfl) ?_
    refine lv_icmp_eq (tgt := 530) hx hb dL_law_525 (by decide) (fun _ => ?_) (fun h8 => absurd hg h8)
    refine lv_iload hx hb dL_law_530 (lv_at hl 1 rfl) ?_
    refine lv_if_ne (tgt := 547) hx hb dL_law_532 (by decide) (fun h8 => absurd rfl h8) (fun _ => ?_)
    refine lv_aload_n hx hb dL_law_535 rfl (lv_at hl 5 rfl) ?_
    refine lv_iconst (v := (0 : Int32)) hx hb dL_law_536 (by decide) ?_
    refine va_lald hx hb hK hP 45 1 rfl rfl vi01 dL_law_537 ?_
    refine W.eq (g2 := F0 m 538 ls [.long r.toInt64]) rfl ?_
    refine lv_iload hx hb dL_law_538 (lv_at hl 0 rfl) ?_
    refine lv_i2l (v := r.toInt64) hx hb dL_law_540 rfl ?_
    refine W.lcmp hx hb dL_law_541 ?_
    refine lv_if_eq (tgt := 547) hx hb dL_law_542 (by decide) (fun _ => ?_) (fun h8 => absurd (lg_self _) h8)
    refine lv_goto (tgt := 761) hx hb dL_law_547 (by decide) ?_
    exact kk bT bV _ H locs _ hP hD hS (lv_sub hl [2, 3, 4, 5, 6] rfl)
set_option maxHeartbeats 4000000 in
set_option maxRecDepth 100000 in
theorem lw_9_L {p : Program} {l : Launch} {e : Env} {s : State} {m : MethodId} {below : List Frame} {meth : Method} {c : Code} {H : Heap} {locs : List Loc} {cells slots : Nat} {Q : State → Prop} {ls : Array Slot} {b L n : Nat} {xs : Nat → Int32} {G : Gx} {A : Nat → Prop} {bX bF bS bT bV bP a : Nat → Nat} {o : Nat} {fo : Nat → Int64} {uX uS uT uV uP u : Md} {vX vS vT vV vP v : Md}
    (C : Cx p s m #[Value.ref b] meth c cL_law 8 (Cond.initialized RL :: WL) RL ret) (hL0 : l.stackTraces = false) (hX : va_X b L xs s s.heap) (hbl : b < s.heap.size) (hbA : ¬ A b) (hL : L ≤ 2561) (hn : 6 + 5 * n ≤ L) (hK : va_K (gD G) vwCl (tyG G) s) (hA : ∀ q : Nat, s.heap.size ≤ q → A q) (hT : STL G A s s.heap) (hcs : cells + 1 ≤ 601024 ∧ slots + 6 ≤ 7293000) (hP : va_P (gD G) vwCl (wLaw 0 G bX bF bS bT bV bP a o fo uX uS uT uV uP u) H) (hD : va_D A (wLaw 0 G bX bF bS bT bV bP a o fo uX uS uT uV uP u)) (hS : va_S A s.heap H locs) (hl : lv_has ls 8 [(0, .ref b), (1, .ref (bX 0)), (2, .ref (a 0)), (3, .ref o), (4, .int (iN n))]) (hf : sL_9_L uX uS uT uV uP u (xs (1 + 5 * n + 1)) (xs (1 + 5 * n + 2)) = some (vX, vS, vT, vV, vP, v))
    (kk : ∀ (bT bV : Nat → Nat) (fo : Nat → Int64) (H : Heap) (locs : List Loc) (ls : Array Slot), va_P (gD G) vwCl (wLaw 0 G bX bF bS bT bV bP a o fo vX vS vT vV vP v) H → va_D A (wLaw 0 G bX bF bS bT bV bP a o fo vX vS vT vV vP v) → va_S A s.heap H locs → lv_has ls 8 [(0, .ref b), (1, .ref (bX 0)), (2, .ref (a 0)), (3, .ref o), (4, .int (iN n))] → W p l e room_1 s m #[Value.ref b] below meth c H locs (cells + 1) (slots + 6) Q (F0 m 761 ls [])) :
    W p l e room_1 s m #[Value.ref b] below meth c H locs cells slots Q (F0 m 550 ls []) := by
  obtain ⟨hc1, hc2⟩ := hcs
  have hx := C.1.1
  have hb := C.1.2.1
  have hown := C.1.2.2.2.1
  have hts := C.1.2.2.2.2
  unfold sL_9_L at hf
  have hf2 := og_b hf
  clear hf
  obtain ⟨q8, hq, hf⟩ := hf2
  have hf2 := og_b hf
  clear hf
  obtain ⟨⟨r9, v⟩, h9, hf⟩ := hf2
  rcases q8 with e9 | r8
  · dsimp only [Sum.elim_inl] at hf
    by_cases he : e9 = 1
    · replace hf := og_t he hf
      subst he
      have hf2 := og_p hf
      clear hf
      obtain ⟨hg, hf⟩ := hf2
      cases (og_s hf)
      refine lv_aload_n hx hb dL_law_550 rfl (lv_at hl 1 rfl) ?_
      refine lv_aload_n hx hb dL_law_551 rfl (lv_at hl 0 rfl) ?_
      refine lv_iload hx hb dL_law_552 (lv_at hl 4 rfl) ?_
      refine lv_iconst (v := (1 : Int32)) hx hb dL_law_554 (by decide) ?_
      refine lv_iadd hx hb dL_law_555 ?_
      refine sld (j := 1) (n := n) hx hb hX hbl hbA hS rfl (by decide) hn hL dL_law_556 ?_
      refine lv_aload_n hx hb dL_law_557 rfl (lv_at hl 0 rfl) ?_
      refine lv_iload hx hb dL_law_558 (lv_at hl 4 rfl) ?_
      refine lv_iconst (v := (2 : Int32)) hx hb dL_law_560 (by decide) ?_
      refine lv_iadd hx hb dL_law_561 ?_
      refine sld (j := 2) (n := n) hx hb hX hbl hbA hS rfl (by decide) hn hL dL_law_562 ?_
      refine lv_aload_n hx hb dL_law_563 rfl (lv_at hl 3 rfl) ?_
      refine ywH (ov := some (.int 1)) (st1 := [.int (1 : Int32)]) (rest := []) (w0 := (c8 0 G bX bF bS bT bV bP (bT 0) (bV 0) uX uS uT uV uP ++ oL G o fo)) (w1 := (c8 0 G bX bF bS bT bV bP (bT 0) (bV 0) uX uS uT uV uP ++ oL G o fo)) (wr := cM (gI G) (gJ G) a u) (w' := (wLaw 0 G bX bF bS bT bV bP a o fo uX uS uT uV uP u)) C (ht1_object_L l hL0 G bX bF bS bT bV bP o fo uX uS uT uV uP (xs (1 + 5 * n + 1)) (xs (1 + 5 * n + 2)) hq _) (vx_cwSW 4 hts (gdl_s ml_90 ml_91 ml_7 ml_92) rfl rfl rfl (by decide +kernel) ⟨Nat.le_of_ble_eq_true rfl, Nat.le_of_ble_eq_true rfl⟩) hK hA hT hP hD hS [0, 1, 2, 3, 4, 5, 6, 7, 8, 9, 10, 11, 12, 13, 14, 15, 16, 17, 18, 19, 20, 21, 22, 23, 24, 25, 26, 27, 28, 29, 30, 31, 45] [32, 33, 34, 35, 36, 37, 38, 39, 40, 41, 42, 43, 44] [13, 14, 15, 16, 17, 18, 19, 20, 21, 22, 23, 24, 25, 26, 27, 28, 29, 30, 31, 32, 33, 34, 35, 36, 37, 38, 39, 40, 41, 42, 43, 44, 0, 1, 2, 3, 4, 5, 6, 7, 8, 9, 10, 11, 12, 45] rfl rfl rfl rfl (by decide) rfl rfl rfl hl.1 rfl rfl (Nat.le_of_ble_eq_true rfl) dL_law_564 ⟨hc1, hc2⟩ (fun H locs hP hD hS => ?_)
      refine lv_istore (lv' := [(5, .int (1 : Int32)), (0, .ref b), (1, .ref (bX 0)), (2, .ref (a 0)), (3, .ref o), (4, .int (iN n))]) hx hb dL_law_567 hl (by decide) rfl (fun ls hl => ?_)
      refine lv_aload_n hx hb dL_law_569 rfl (lv_at hl 3 rfl) ?_
      refine lv_aload_n hx hb dL_law_570 rfl (lv_at hl 1 rfl) ?_
      refine lv_iload hx hb dL_law_571 (lv_at hl 5 rfl) ?_
      refine lv_iconst (v := (1 : Int32)) hx hb dL_law_573 (by decide) ?_
      refine lv_iadd hx hb dL_law_574 ?_
      refine sld (j := 1) (n := n) hx hb hX hbl hbA hS rfl (by decide) hn hL dL_law_575 ?_
      refine lv_aload_n hx hb dL_law_576 rfl (lv_at hl 1 rfl) ?_
      refine lv_iload hx hb dL_law_577 (lv_at hl 5 rfl) ?_
      refine lv_iconst (v := (2 : Int32)) hx hb dL_law_579 (by decide) ?_
      refine lv_iadd hx hb dL_law_580 ?_
      refine sld (j := 2) (n := n) hx hb hX hbl hbA hS rfl (by decide) hn hL dL_law_581 ?_
      refine yw9 (ov := (some (.int r9))) (st1 := [.int r9]) (rest := []) (w0 := (cM (gI G) (gJ G) a u)) (w1 := cM (gI G) (gJ G) a v) (wr := (c8 0 G bX bF bS bT bV bP (bT 0) (bV 0) uX uS uT uV uP ++ oL G o fo)) (w' := (wLaw 0 G bX bF bS bT bV bP a o fo uX uS uT uV uP v)) C (c9_object l (gD G) (gI G) (gJ G) (gC G) a u (xs (1 + 5 * n + 1)) (xs (1 + 5 * n + 2)) r9 v _ h9) (cwV 2 hts (gdl_9 ml_97 ml_98 ml_99 (mL9 m9_29) (mL9 m9_201)) rfl rfl rfl hd9_object ⟨Nat.le_of_ble_eq_true rfl, Nat.le_of_ble_eq_true rfl⟩) hK hA hP hD hS (va_recv hK hP (ci := 6) (q0 := 32) rfl rfl) [32, 33, 34, 35, 36, 37, 38, 39, 40, 41, 42, 43, 44] [0, 1, 2, 3, 4, 5, 6, 7, 8, 9, 10, 11, 12, 13, 14, 15, 16, 17, 18, 19, 20, 21, 22, 23, 24, 25, 26, 27, 28, 29, 30, 31, 45] [0, 1, 2, 3, 4, 5, 6, 7, 8, 9, 10, 11, 12, 13, 14, 15, 16, 17, 18, 19, 20, 21, 22, 23, 24, 25, 26, 27, 28, 29, 30, 31, 33, 34, 35, 36, 37, 38, 39, 40, 41, 42, 43, 44, 45, 32] rfl rfl rfl rfl (by decide) rfl rfl rfl hl.1 rfl rfl (Nat.le_of_ble_eq_true rfl) dL_law_582 ⟨(by show cells + 1 ≤ 601024; omega), (by show slots + 6 ≤ 7293000; omega)⟩ (fun H locs hP hD hS => ?_)
      refine lv_istore (lv' := [(6, .int r9), (5, .int (1 : Int32)), (0, .ref b), (1, .ref (bX 0)), (2, .ref (a 0)), (3, .ref o), (4, .int (iN n))]) hx hb dL_law_585 hl (by decide) rfl (fun ls hl => ?_)
      refine lv_aload_n hx hb dL_law_587 rfl (lv_at hl 4 rfl) ?_
      refine yr9 (v := .int (gi v 0)) (rest := []) (w0 := (cM (gI G) (gJ G) a v)) C (c9_thrown l (gD G) (gI G) (gJ G) (gC G) a v _ _ rfl) (cwV 0 hts (gdl_9 ml_35 ml_36 ml_37 (mL9 m9_29) (mL9 m9_22)) rfl rfl rfl hd9_thrown ⟨Nat.le_of_ble_eq_true rfl, Nat.le_of_ble_eq_true rfl⟩) hK hP hD (va_recv hK hP (ci := 6) (q0 := 32) rfl rfl) [32, 33, 34, 35, 36, 37, 38, 39, 40, 41, 42, 43, 44] rfl rfl rfl hl.1 rfl (Nat.le_of_ble_eq_true rfl) dL_law_588 ⟨(by show cells + 1 ≤ 601024; omega), (by show slots + 6 ≤ 7293000; omega)⟩ ?_
      refine lv_iload hx hb dL_law_591 (lv_at hl 1 rfl) ?_
      refine lv_icmp_eq (tgt := 598) hx hb dL_law_593 (by decide) (fun _ => ?_) (fun h8 => absurd hg h8)
      refine lv_iload hx hb dL_law_598 (lv_at hl 1 rfl) ?_
      refine lv_if_ne (tgt := 615) hx hb dL_law_600 (by decide) (fun _ => ?_) (fun h8 => absurd h8 (by decide))
      refine lv_goto (tgt := 761) hx hb dL_law_615 (by decide) ?_
      exact kk bT bV _ H locs _ hP hD hS (lv_sub hl [2, 3, 4, 5, 6] rfl)
    · replace hf := og_f he hf
      by_cases he : e9 = 3
      · replace hf := og_t he hf
        subst he
        have hf2 := og_p hf
        clear hf
        obtain ⟨hg, hf⟩ := hf2
        cases (og_s hf)
        refine lv_aload_n hx hb dL_law_550 rfl (lv_at hl 1 rfl) ?_
        refine lv_aload_n hx hb dL_law_551 rfl (lv_at hl 0 rfl) ?_
        refine lv_iload hx hb dL_law_552 (lv_at hl 4 rfl) ?_
        refine lv_iconst (v := (1 : Int32)) hx hb dL_law_554 (by decide) ?_
        refine lv_iadd hx hb dL_law_555 ?_
        refine sld (j := 1) (n := n) hx hb hX hbl hbA hS rfl (by decide) hn hL dL_law_556 ?_
        refine lv_aload_n hx hb dL_law_557 rfl (lv_at hl 0 rfl) ?_
        refine lv_iload hx hb dL_law_558 (lv_at hl 4 rfl) ?_
        refine lv_iconst (v := (2 : Int32)) hx hb dL_law_560 (by decide) ?_
        refine lv_iadd hx hb dL_law_561 ?_
        refine sld (j := 2) (n := n) hx hb hX hbl hbA hS rfl (by decide) hn hL dL_law_562 ?_
        refine lv_aload_n hx hb dL_law_563 rfl (lv_at hl 3 rfl) ?_
        refine ywH (ov := some (.int 2)) (st1 := [.int (2 : Int32)]) (rest := []) (w0 := (c8 0 G bX bF bS bT bV bP (bT 0) (bV 0) uX uS uT uV uP ++ oL G o fo)) (w1 := (c8 0 G bX bF bS bT bV bP (bT 0) (bV 0) uX uS uT uV uP ++ oL G o fo)) (wr := cM (gI G) (gJ G) a u) (w' := (wLaw 0 G bX bF bS bT bV bP a o fo uX uS uT uV uP u)) C (ht3_object_L l hL0 G bX bF bS bT bV bP o fo uX uS uT uV uP (xs (1 + 5 * n + 1)) (xs (1 + 5 * n + 2)) hq _) (vx_cwSW 4 hts (gdl_s ml_90 ml_91 ml_7 ml_92) rfl rfl rfl (by decide +kernel) ⟨Nat.le_of_ble_eq_true rfl, Nat.le_of_ble_eq_true rfl⟩) hK hA hT hP hD hS [0, 1, 2, 3, 4, 5, 6, 7, 8, 9, 10, 11, 12, 13, 14, 15, 16, 17, 18, 19, 20, 21, 22, 23, 24, 25, 26, 27, 28, 29, 30, 31, 45] [32, 33, 34, 35, 36, 37, 38, 39, 40, 41, 42, 43, 44] [13, 14, 15, 16, 17, 18, 19, 20, 21, 22, 23, 24, 25, 26, 27, 28, 29, 30, 31, 32, 33, 34, 35, 36, 37, 38, 39, 40, 41, 42, 43, 44, 0, 1, 2, 3, 4, 5, 6, 7, 8, 9, 10, 11, 12, 45] rfl rfl rfl rfl (by decide) rfl rfl rfl hl.1 rfl rfl (Nat.le_of_ble_eq_true rfl) dL_law_564 ⟨hc1, hc2⟩ (fun H locs hP hD hS => ?_)
        refine lv_istore (lv' := [(5, .int (2 : Int32)), (0, .ref b), (1, .ref (bX 0)), (2, .ref (a 0)), (3, .ref o), (4, .int (iN n))]) hx hb dL_law_567 hl (by decide) rfl (fun ls hl => ?_)
        refine lv_aload_n hx hb dL_law_569 rfl (lv_at hl 3 rfl) ?_
        refine lv_aload_n hx hb dL_law_570 rfl (lv_at hl 1 rfl) ?_
        refine lv_iload hx hb dL_law_571 (lv_at hl 5 rfl) ?_
        refine lv_iconst (v := (1 : Int32)) hx hb dL_law_573 (by decide) ?_
        refine lv_iadd hx hb dL_law_574 ?_
        refine sld (j := 1) (n := n) hx hb hX hbl hbA hS rfl (by decide) hn hL dL_law_575 ?_
        refine lv_aload_n hx hb dL_law_576 rfl (lv_at hl 1 rfl) ?_
        refine lv_iload hx hb dL_law_577 (lv_at hl 5 rfl) ?_
        refine lv_iconst (v := (2 : Int32)) hx hb dL_law_579 (by decide) ?_
        refine lv_iadd hx hb dL_law_580 ?_
        refine sld (j := 2) (n := n) hx hb hX hbl hbA hS rfl (by decide) hn hL dL_law_581 ?_
        refine yw9 (ov := (some (.int r9))) (st1 := [.int r9]) (rest := []) (w0 := (cM (gI G) (gJ G) a u)) (w1 := cM (gI G) (gJ G) a v) (wr := (c8 0 G bX bF bS bT bV bP (bT 0) (bV 0) uX uS uT uV uP ++ oL G o fo)) (w' := (wLaw 0 G bX bF bS bT bV bP a o fo uX uS uT uV uP v)) C (c9_object l (gD G) (gI G) (gJ G) (gC G) a u (xs (1 + 5 * n + 1)) (xs (1 + 5 * n + 2)) r9 v _ h9) (cwV 2 hts (gdl_9 ml_97 ml_98 ml_99 (mL9 m9_29) (mL9 m9_201)) rfl rfl rfl hd9_object ⟨Nat.le_of_ble_eq_true rfl, Nat.le_of_ble_eq_true rfl⟩) hK hA hP hD hS (va_recv hK hP (ci := 6) (q0 := 32) rfl rfl) [32, 33, 34, 35, 36, 37, 38, 39, 40, 41, 42, 43, 44] [0, 1, 2, 3, 4, 5, 6, 7, 8, 9, 10, 11, 12, 13, 14, 15, 16, 17, 18, 19, 20, 21, 22, 23, 24, 25, 26, 27, 28, 29, 30, 31, 45] [0, 1, 2, 3, 4, 5, 6, 7, 8, 9, 10, 11, 12, 13, 14, 15, 16, 17, 18, 19, 20, 21, 22, 23, 24, 25, 26, 27, 28, 29, 30, 31, 33, 34, 35, 36, 37, 38, 39, 40, 41, 42, 43, 44, 45, 32] rfl rfl rfl rfl (by decide) rfl rfl rfl hl.1 rfl rfl (Nat.le_of_ble_eq_true rfl) dL_law_582 ⟨(by show cells + 1 ≤ 601024; omega), (by show slots + 6 ≤ 7293000; omega)⟩ (fun H locs hP hD hS => ?_)
        refine lv_istore (lv' := [(6, .int r9), (5, .int (2 : Int32)), (0, .ref b), (1, .ref (bX 0)), (2, .ref (a 0)), (3, .ref o), (4, .int (iN n))]) hx hb dL_law_585 hl (by decide) rfl (fun ls hl => ?_)
        refine lv_aload_n hx hb dL_law_587 rfl (lv_at hl 4 rfl) ?_
        refine yr9 (v := .int (gi v 0)) (rest := []) (w0 := (cM (gI G) (gJ G) a v)) C (c9_thrown l (gD G) (gI G) (gJ G) (gC G) a v _ _ rfl) (cwV 0 hts (gdl_9 ml_35 ml_36 ml_37 (mL9 m9_29) (mL9 m9_22)) rfl rfl rfl hd9_thrown ⟨Nat.le_of_ble_eq_true rfl, Nat.le_of_ble_eq_true rfl⟩) hK hP hD (va_recv hK hP (ci := 6) (q0 := 32) rfl rfl) [32, 33, 34, 35, 36, 37, 38, 39, 40, 41, 42, 43, 44] rfl rfl rfl hl.1 rfl (Nat.le_of_ble_eq_true rfl) dL_law_588 ⟨(by show cells + 1 ≤ 601024; omega), (by show slots + 6 ≤ 7293000; omega)⟩ ?_
        refine lv_iload hx hb dL_law_591 (lv_at hl 1 rfl) ?_
        refine lv_icmp_eq (tgt := 598) hx hb dL_law_593 (by decide) (fun _ => ?_) (fun h8 => absurd hg h8)
        refine lv_iload hx hb dL_law_598 (lv_at hl 1 rfl) ?_
        refine lv_if_ne (tgt := 615) hx hb dL_law_600 (by decide) (fun _ => ?_) (fun h8 => absurd h8 (by decide))
        refine lv_goto (tgt := 761) hx hb dL_law_615 (by decide) ?_
        exact kk bT bV _ H locs _ hP hD hS (lv_sub hl [2, 3, 4, 5, 6] rfl)
      · replace hf := og_f he hf
        cases hf
  · obtain ⟨r, vX, vT⟩ := r8
    dsimp only [Sum.elim_inr] at hf
    have hf2 := og_p hf
    clear hf
    obtain ⟨⟨hg, hr⟩, hf⟩ := hf2
    subst hr
    cases (og_s hf)
    refine lv_aload_n hx hb dL_law_550 rfl (lv_at hl 1 rfl) ?_
    refine lv_aload_n hx hb dL_law_551 rfl (lv_at hl 0 rfl) ?_
    refine lv_iload hx hb dL_law_552 (lv_at hl 4 rfl) ?_
    refine lv_iconst (v := (1 : Int32)) hx hb dL_law_554 (by decide) ?_
    refine lv_iadd hx hb dL_law_555 ?_
    refine sld (j := 1) (n := n) hx hb hX hbl hbA hS rfl (by decide) hn hL dL_law_556 ?_
    refine lv_aload_n hx hb dL_law_557 rfl (lv_at hl 0 rfl) ?_
    refine lv_iload hx hb dL_law_558 (lv_at hl 4 rfl) ?_
    refine lv_iconst (v := (2 : Int32)) hx hb dL_law_560 (by decide) ?_
    refine lv_iadd hx hb dL_law_561 ?_
    refine sld (j := 2) (n := n) hx hb hX hbl hbA hS rfl (by decide) hn hL dL_law_562 ?_
    refine lv_aload_n hx hb dL_law_563 rfl (lv_at hl 3 rfl) ?_
    refine ywH (ov := some (.int 0)) (st1 := [.int (0 : Int32)]) (rest := []) (w0 := (c8 0 G bX bF bS bT bV bP (bT 0) (bV 0) uX uS uT uV uP ++ oL G o fo)) (w1 := (c8 0 G bX bF bS bT bV bP (bT 0) (bV 0) vX uS vT uV uP ++ oL G o (vp_updL fo 0 r.toInt64))) (wr := cM (gI G) (gJ G) a u) (w' := (wLaw 0 G bX bF bS bT bV bP a o (vp_updL fo 0 r.toInt64) vX uS vT uV uP u)) C (hr_object_L l G bX bF bS bT bV bP o fo uX uS uT uV uP (xs (1 + 5 * n + 1)) (xs (1 + 5 * n + 2)) r vX vT hq _) (vx_cwSW 4 hts (gdl_s ml_90 ml_91 ml_7 ml_92) rfl rfl rfl (by decide +kernel) ⟨Nat.le_of_ble_eq_true rfl, Nat.le_of_ble_eq_true rfl⟩) hK hA hT hP hD hS [0, 1, 2, 3, 4, 5, 6, 7, 8, 9, 10, 11, 12, 13, 14, 15, 16, 17, 18, 19, 20, 21, 22, 23, 24, 25, 26, 27, 28, 29, 30, 31, 45] [32, 33, 34, 35, 36, 37, 38, 39, 40, 41, 42, 43, 44] [13, 14, 15, 16, 17, 18, 19, 20, 21, 22, 23, 24, 25, 26, 27, 28, 29, 30, 31, 32, 33, 34, 35, 36, 37, 38, 39, 40, 41, 42, 43, 44, 0, 1, 2, 3, 4, 5, 6, 7, 8, 9, 10, 11, 12, 45] rfl rfl rfl rfl (by decide) rfl rfl rfl hl.1 rfl rfl (Nat.le_of_ble_eq_true rfl) dL_law_564 ⟨hc1, hc2⟩ (fun H locs hP hD hS => ?_)
    refine lv_istore (lv' := [(5, .int (0 : Int32)), (0, .ref b), (1, .ref (bX 0)), (2, .ref (a 0)), (3, .ref o), (4, .int (iN n))]) hx hb dL_law_567 hl (by decide) rfl (fun ls hl => ?_)
    refine lv_aload_n hx hb dL_law_569 rfl (lv_at hl 3 rfl) ?_
    refine lv_aload_n hx hb dL_law_570 rfl (lv_at hl 1 rfl) ?_
    refine lv_iload hx hb dL_law_571 (lv_at hl 5 rfl) ?_
    refine lv_iconst (v := (1 : Int32)) hx hb dL_law_573 (by decide) ?_
    refine lv_iadd hx hb dL_law_574 ?_
    refine sld (j := 1) (n := n) hx hb hX hbl hbA hS rfl (by decide) hn hL dL_law_575 ?_
    refine lv_aload_n hx hb dL_law_576 rfl (lv_at hl 1 rfl) ?_
    refine lv_iload hx hb dL_law_577 (lv_at hl 5 rfl) ?_
    refine lv_iconst (v := (2 : Int32)) hx hb dL_law_579 (by decide) ?_
    refine lv_iadd hx hb dL_law_580 ?_
    refine sld (j := 2) (n := n) hx hb hX hbl hbA hS rfl (by decide) hn hL dL_law_581 ?_
    refine yw9 (ov := (some (.int r))) (st1 := [.int r]) (rest := []) (w0 := (cM (gI G) (gJ G) a u)) (w1 := cM (gI G) (gJ G) a v) (wr := (c8 0 G bX bF bS bT bV bP (bT 0) (bV 0) vX uS vT uV uP ++ oL G o (vp_updL fo 0 r.toInt64))) (w' := (wLaw 0 G bX bF bS bT bV bP a o (vp_updL fo 0 r.toInt64) vX uS vT uV uP v)) C (c9_object l (gD G) (gI G) (gJ G) (gC G) a u (xs (1 + 5 * n + 1)) (xs (1 + 5 * n + 2)) r v _ h9) (cwV 2 hts (gdl_9 ml_97 ml_98 ml_99 (mL9 m9_29) (mL9 m9_201)) rfl rfl rfl hd9_object ⟨Nat.le_of_ble_eq_true rfl, Nat.le_of_ble_eq_true rfl⟩) hK hA hP hD hS (va_recv hK hP (ci := 6) (q0 := 32) rfl rfl) [32, 33, 34, 35, 36, 37, 38, 39, 40, 41, 42, 43, 44] [0, 1, 2, 3, 4, 5, 6, 7, 8, 9, 10, 11, 12, 13, 14, 15, 16, 17, 18, 19, 20, 21, 22, 23, 24, 25, 26, 27, 28, 29, 30, 31, 45] [0, 1, 2, 3, 4, 5, 6, 7, 8, 9, 10, 11, 12, 13, 14, 15, 16, 17, 18, 19, 20, 21, 22, 23, 24, 25, 26, 27, 28, 29, 30, 31, 33, 34, 35, 36, 37, 38, 39, 40, 41, 42, 43, 44, 45, 32] rfl rfl rfl rfl (by decide) rfl rfl rfl hl.1 rfl rfl (Nat.le_of_ble_eq_true rfl) dL_law_582 ⟨(by show cells + 1 ≤ 601024; omega), (by show slots + 6 ≤ 7293000; omega)⟩ (fun H locs hP hD hS => ?_)
    refine lv_istore (lv' := [(6, .int r), (5, .int (0 : Int32)), (0, .ref b), (1, .ref (bX 0)), (2, .ref (a 0)), (3, .ref o), (4, .int (iN n))]) hx hb dL_law_585 hl (by decide) rfl (fun ls hl => ?_)
    refine lv_aload_n hx hb dL_law_587 rfl (lv_at hl 4 rfl) ?_
    refine yr9 (v := .int (gi v 0)) (rest := []) (w0 := (cM (gI G) (gJ G) a v)) C (c9_thrown l (gD G) (gI G) (gJ G) (gC G) a v _ _ rfl) (cwV 0 hts (gdl_9 ml_35 ml_36 ml_37 (mL9 m9_29) (mL9 m9_22)) rfl rfl rfl hd9_thrown ⟨Nat.le_of_ble_eq_true rfl, Nat.le_of_ble_eq_true rfl⟩) hK hP hD (va_recv hK hP (ci := 6) (q0 := 32) rfl rfl) [32, 33, 34, 35, 36, 37, 38, 39, 40, 41, 42, 43, 44] rfl rfl rfl hl.1 rfl (Nat.le_of_ble_eq_true rfl) dL_law_588 ⟨(by show cells + 1 ≤ 601024; omega), (by show slots + 6 ≤ 7293000; omega)⟩ ?_
    refine lv_iload hx hb dL_law_591 (lv_at hl 1 rfl) ?_
    refine lv_icmp_eq (tgt := 598) hx hb dL_law_593 (by decide) (fun _ => ?_) (fun h8 => absurd hg h8)
    refine lv_iload hx hb dL_law_598 (lv_at hl 1 rfl) ?_
    refine lv_if_ne (tgt := 615) hx hb dL_law_600 (by decide) (fun h8 => absurd rfl h8) (fun _ => ?_)
    refine lv_aload_n hx hb dL_law_603 rfl (lv_at hl 5 rfl) ?_
    refine lv_iconst (v := (0 : Int32)) hx hb dL_law_604 (by decide) ?_
    refine va_lald hx hb hK hP 45 1 rfl rfl vi01 dL_law_605 ?_
    refine W.eq (g2 := F0 m 606 ls [.long r.toInt64]) rfl ?_
    refine lv_iload hx hb dL_law_606 (lv_at hl 0 rfl) ?_
    refine lv_i2l (v := r.toInt64) hx hb dL_law_608 rfl ?_
    refine W.lcmp hx hb dL_law_609 ?_
    refine lv_if_eq (tgt := 615) hx hb dL_law_610 (by decide) (fun _ => ?_) (fun h8 => absurd (lg_self _) h8)
    refine lv_goto (tgt := 761) hx hb dL_law_615 (by decide) ?_
    exact kk bT bV _ H locs _ hP hD hS (lv_sub hl [2, 3, 4, 5, 6] rfl)
set_option maxHeartbeats 4000000 in
set_option maxRecDepth 100000 in
theorem lw_10_L {p : Program} {l : Launch} {e : Env} {s : State} {m : MethodId} {below : List Frame} {meth : Method} {c : Code} {H : Heap} {locs : List Loc} {cells slots : Nat} {Q : State → Prop} {ls : Array Slot} {b L n : Nat} {xs : Nat → Int32} {G : Gx} {A : Nat → Prop} {bX bF bS bT bV bP a : Nat → Nat} {o : Nat} {fo : Nat → Int64} {uX uS uT uV uP u : Md} {vX vS vT vV vP v : Md}
    (C : Cx p s m #[Value.ref b] meth c cL_law 8 (Cond.initialized RL :: WL) RL ret) (hL0 : l.stackTraces = false) (hX : va_X b L xs s s.heap) (hbl : b < s.heap.size) (hbA : ¬ A b) (hL : L ≤ 2561) (hn : 6 + 5 * n ≤ L) (hK : va_K (gD G) vwCl (tyG G) s) (hA : ∀ q : Nat, s.heap.size ≤ q → A q) (hT : STL G A s s.heap) (hcs : cells + 1 ≤ 601024 ∧ slots + 6 ≤ 7293000) (hP : va_P (gD G) vwCl (wLaw 0 G bX bF bS bT bV bP a o fo uX uS uT uV uP u) H) (hD : va_D A (wLaw 0 G bX bF bS bT bV bP a o fo uX uS uT uV uP u)) (hS : va_S A s.heap H locs) (hl : lv_has ls 8 [(0, .ref b), (1, .ref (bX 0)), (2, .ref (a 0)), (3, .ref o), (4, .int (iN n))]) (hf : sL_10_L uX uS uT uV uP u (xs (1 + 5 * n + 1)) (xs (1 + 5 * n + 2)) (xs (1 + 5 * n + 3)) (xs (1 + 5 * n + 4)) = some (vX, vS, vT, vV, vP, v))
    (kk : ∀ (bT bV : Nat → Nat) (fo : Nat → Int64) (H : Heap) (locs : List Loc) (ls : Array Slot), va_P (gD G) vwCl (wLaw 0 G bX bF bS bT bV bP a o fo vX vS vT vV vP v) H → va_D A (wLaw 0 G bX bF bS bT bV bP a o fo vX vS vT vV vP v) → va_S A s.heap H locs → lv_has ls 8 [(0, .ref b), (1, .ref (bX 0)), (2, .ref (a 0)), (3, .ref o), (4, .int (iN n))] → W p l e room_1 s m #[Value.ref b] below meth c H locs (cells + 1) (slots + 6) Q (F0 m 761 ls [])) :
    W p l e room_1 s m #[Value.ref b] below meth c H locs cells slots Q (F0 m 618 ls []) := by
  obtain ⟨hc1, hc2⟩ := hcs
  have hx := C.1.1
  have hb := C.1.2.1
  have hown := C.1.2.2.2.1
  have hts := C.1.2.2.2.2
  unfold sL_10_L at hf
  have hf2 := og_b hf
  clear hf
  obtain ⟨q8, hq, hf⟩ := hf2
  have hf2 := og_b hf
  clear hf
  obtain ⟨⟨r9, v⟩, h9, hf⟩ := hf2
  rcases q8 with e9 | r8
  · dsimp only [Sum.elim_inl] at hf
    by_cases he : e9 = 1
    · replace hf := og_t he hf
      subst he
      have hf2 := og_p hf
      clear hf
      obtain ⟨hg, hf⟩ := hf2
      cases (og_s hf)
      refine lv_aload_n hx hb dL_law_618 rfl (lv_at hl 1 rfl) ?_
      refine lv_aload_n hx hb dL_law_619 rfl (lv_at hl 0 rfl) ?_
      refine lv_iload hx hb dL_law_620 (lv_at hl 4 rfl) ?_
      refine lv_iconst (v := (1 : Int32)) hx hb dL_law_622 (by decide) ?_
      refine lv_iadd hx hb dL_law_623 ?_
      refine sld (j := 1) (n := n) hx hb hX hbl hbA hS rfl (by decide) hn hL dL_law_624 ?_
      refine lv_aload_n hx hb dL_law_625 rfl (lv_at hl 0 rfl) ?_
      refine lv_iload hx hb dL_law_626 (lv_at hl 4 rfl) ?_
      refine lv_iconst (v := (2 : Int32)) hx hb dL_law_628 (by decide) ?_
      refine lv_iadd hx hb dL_law_629 ?_
      refine sld (j := 2) (n := n) hx hb hX hbl hbA hS rfl (by decide) hn hL dL_law_630 ?_
      refine lv_aload_n hx hb dL_law_631 rfl (lv_at hl 0 rfl) ?_
      refine lv_iload hx hb dL_law_632 (lv_at hl 4 rfl) ?_
      refine lv_iconst (v := (3 : Int32)) hx hb dL_law_634 (by decide) ?_
      refine lv_iadd hx hb dL_law_635 ?_
      refine sld (j := 3) (n := n) hx hb hX hbl hbA hS rfl (by decide) hn hL dL_law_636 ?_
      refine lv_i2l (v := (xs (1 + 5 * n + 3)).toInt64) hx hb dL_law_637 rfl ?_
      refine lv_bipush (v := (32 : Int32)) hx hb dL_law_638 (by decide) ?_
      refine lv_lshl (v := ((xs (1 + 5 * n + 3)).toInt64 <<< ((32 : Int32).toInt64 &&& 63))) hx hb dL_law_640 rfl ?_
      refine lv_aload_n hx hb dL_law_641 rfl (lv_at hl 0 rfl) ?_
      refine lv_iload hx hb dL_law_642 (lv_at hl 4 rfl) ?_
      refine lv_iconst (v := (4 : Int32)) hx hb dL_law_644 (by decide) ?_
      refine lv_iadd hx hb dL_law_645 ?_
      refine sld (j := 4) (n := n) hx hb hX hbl hbA hS rfl (by decide) hn hL dL_law_646 ?_
      refine lv_i2l (v := (xs (1 + 5 * n + 4)).toInt64) hx hb dL_law_647 rfl ?_
      refine lv_ldc2 (v := 4294967295) hx hb hown (hts _ (List.mem_cons_of_mem _ ml_4)) dL_law_648 ?_
      refine lv_land hx hb dL_law_651 ?_
      refine lv_lor hx hb dL_law_652 ?_
      refine lv_aload_n hx hb dL_law_653 rfl (lv_at hl 3 rfl) ?_
      refine ywH (ov := some (.int 1)) (st1 := [.int (1 : Int32)]) (rest := []) (w0 := (c8 0 G bX bF bS bT bV bP (bT 0) (bV 0) uX uS uT uV uP ++ oL G o fo)) (w1 := (c8 0 G bX bF bS bT bV bP (bT 0) (bV 0) uX uS uT uV uP ++ oL G o fo)) (wr := cM (gI G) (gJ G) a u) (w' := (wLaw 0 G bX bF bS bT bV bP a o fo uX uS uT uV uP u)) C (ht1_set_L l hL0 G bX bF bS bT bV bP o fo uX uS uT uV uP (xs (1 + 5 * n + 1)) (xs (1 + 5 * n + 2)) (((xs (1 + 5 * n + 3)).toInt64 <<< ((32 : Int32).toInt64 &&& 63)) ||| ((xs (1 + 5 * n + 4)).toInt64 &&& 4294967295)) hq _) (vx_cwSW 5 hts (gdl_s ml_100 ml_101 ml_7 ml_102) rfl rfl rfl (by decide +kernel) ⟨Nat.le_of_ble_eq_true rfl, Nat.le_of_ble_eq_true rfl⟩) hK hA hT hP hD hS [0, 1, 2, 3, 4, 5, 6, 7, 8, 9, 10, 11, 12, 13, 14, 15, 16, 17, 18, 19, 20, 21, 22, 23, 24, 25, 26, 27, 28, 29, 30, 31, 45] [32, 33, 34, 35, 36, 37, 38, 39, 40, 41, 42, 43, 44] [13, 14, 15, 16, 17, 18, 19, 20, 21, 22, 23, 24, 25, 26, 27, 28, 29, 30, 31, 32, 33, 34, 35, 36, 37, 38, 39, 40, 41, 42, 43, 44, 0, 1, 2, 3, 4, 5, 6, 7, 8, 9, 10, 11, 12, 45] rfl rfl rfl rfl (by decide) rfl rfl rfl hl.1 rfl rfl (Nat.le_of_ble_eq_true rfl) dL_law_654 ⟨hc1, hc2⟩ (fun H locs hP hD hS => ?_)
      refine lv_istore (lv' := [(5, .int (1 : Int32)), (0, .ref b), (1, .ref (bX 0)), (2, .ref (a 0)), (3, .ref o), (4, .int (iN n))]) hx hb dL_law_657 hl (by decide) rfl (fun ls hl => ?_)
      refine lv_aload_n hx hb dL_law_659 rfl (lv_at hl 3 rfl) ?_
      refine lv_aload_n hx hb dL_law_660 rfl (lv_at hl 1 rfl) ?_
      refine lv_iload hx hb dL_law_661 (lv_at hl 5 rfl) ?_
      refine lv_iconst (v := (1 : Int32)) hx hb dL_law_663 (by decide) ?_
      refine lv_iadd hx hb dL_law_664 ?_
      refine sld (j := 1) (n := n) hx hb hX hbl hbA hS rfl (by decide) hn hL dL_law_665 ?_
      refine lv_aload_n hx hb dL_law_666 rfl (lv_at hl 1 rfl) ?_
      refine lv_iload hx hb dL_law_667 (lv_at hl 5 rfl) ?_
      refine lv_iconst (v := (2 : Int32)) hx hb dL_law_669 (by decide) ?_
      refine lv_iadd hx hb dL_law_670 ?_
      refine sld (j := 2) (n := n) hx hb hX hbl hbA hS rfl (by decide) hn hL dL_law_671 ?_
      refine lv_aload_n hx hb dL_law_672 rfl (lv_at hl 1 rfl) ?_
      refine lv_iload hx hb dL_law_673 (lv_at hl 5 rfl) ?_
      refine lv_iconst (v := (3 : Int32)) hx hb dL_law_675 (by decide) ?_
      refine lv_iadd hx hb dL_law_676 ?_
      refine sld (j := 3) (n := n) hx hb hX hbl hbA hS rfl (by decide) hn hL dL_law_677 ?_
      refine lv_i2l (v := (xs (1 + 5 * n + 3)).toInt64) hx hb dL_law_678 rfl ?_
      refine lv_bipush (v := (32 : Int32)) hx hb dL_law_679 (by decide) ?_
      refine lv_lshl (v := ((xs (1 + 5 * n + 3)).toInt64 <<< ((32 : Int32).toInt64 &&& 63))) hx hb dL_law_681 rfl ?_
      refine lv_aload_n hx hb dL_law_682 rfl (lv_at hl 1 rfl) ?_
      refine lv_iload hx hb dL_law_683 (lv_at hl 5 rfl) ?_
      refine lv_iconst (v := (4 : Int32)) hx hb dL_law_685 (by decide) ?_
      refine lv_iadd hx hb dL_law_686 ?_
      refine sld (j := 4) (n := n) hx hb hX hbl hbA hS rfl (by decide) hn hL dL_law_687 ?_
      refine lv_i2l (v := (xs (1 + 5 * n + 4)).toInt64) hx hb dL_law_688 rfl ?_
      refine lv_ldc2 (v := 4294967295) hx hb hown (hts _ (List.mem_cons_of_mem _ ml_4)) dL_law_689 ?_
      refine lv_land hx hb dL_law_692 ?_
      refine lv_lor hx hb dL_law_693 ?_
      refine yw9 (ov := (some (.int r9))) (st1 := [.int r9]) (rest := []) (w0 := (cM (gI G) (gJ G) a u)) (w1 := cM (gI G) (gJ G) a v) (wr := (c8 0 G bX bF bS bT bV bP (bT 0) (bV 0) uX uS uT uV uP ++ oL G o fo)) (w' := (wLaw 0 G bX bF bS bT bV bP a o fo uX uS uT uV uP v)) C (c9_set l (gD G) (gI G) (gJ G) (gC G) a u (xs (1 + 5 * n + 1)) (xs (1 + 5 * n + 2)) (((xs (1 + 5 * n + 3)).toInt64 <<< ((32 : Int32).toInt64 &&& 63)) ||| ((xs (1 + 5 * n + 4)).toInt64 &&& 4294967295)) r9 v _ h9) (cwV 3 hts (gdl_9 ml_106 ml_107 ml_108 (mL9 m9_29) (mL9 m9_204)) rfl rfl rfl hd9_set ⟨Nat.le_of_ble_eq_true rfl, Nat.le_of_ble_eq_true rfl⟩) hK hA hP hD hS (va_recv hK hP (ci := 6) (q0 := 32) rfl rfl) [32, 33, 34, 35, 36, 37, 38, 39, 40, 41, 42, 43, 44] [0, 1, 2, 3, 4, 5, 6, 7, 8, 9, 10, 11, 12, 13, 14, 15, 16, 17, 18, 19, 20, 21, 22, 23, 24, 25, 26, 27, 28, 29, 30, 31, 45] [0, 1, 2, 3, 4, 5, 6, 7, 8, 9, 10, 11, 12, 13, 14, 15, 16, 17, 18, 19, 20, 21, 22, 23, 24, 25, 26, 27, 28, 29, 30, 31, 33, 34, 35, 36, 37, 38, 39, 40, 41, 42, 43, 44, 45, 32] rfl rfl rfl rfl (by decide) rfl rfl rfl hl.1 rfl rfl (Nat.le_of_ble_eq_true rfl) dL_law_694 ⟨(by show cells + 1 ≤ 601024; omega), (by show slots + 6 ≤ 7293000; omega)⟩ (fun H locs hP hD hS => ?_)
      refine lv_istore (lv' := [(6, .int r9), (5, .int (1 : Int32)), (0, .ref b), (1, .ref (bX 0)), (2, .ref (a 0)), (3, .ref o), (4, .int (iN n))]) hx hb dL_law_697 hl (by decide) rfl (fun ls hl => ?_)
      refine lv_aload_n hx hb dL_law_699 rfl (lv_at hl 4 rfl) ?_
      refine yr9 (v := .int (gi v 0)) (rest := []) (w0 := (cM (gI G) (gJ G) a v)) C (c9_thrown l (gD G) (gI G) (gJ G) (gC G) a v _ _ rfl) (cwV 0 hts (gdl_9 ml_35 ml_36 ml_37 (mL9 m9_29) (mL9 m9_22)) rfl rfl rfl hd9_thrown ⟨Nat.le_of_ble_eq_true rfl, Nat.le_of_ble_eq_true rfl⟩) hK hP hD (va_recv hK hP (ci := 6) (q0 := 32) rfl rfl) [32, 33, 34, 35, 36, 37, 38, 39, 40, 41, 42, 43, 44] rfl rfl rfl hl.1 rfl (Nat.le_of_ble_eq_true rfl) dL_law_700 ⟨(by show cells + 1 ≤ 601024; omega), (by show slots + 6 ≤ 7293000; omega)⟩ ?_
      refine lv_iload hx hb dL_law_703 (lv_at hl 1 rfl) ?_
      refine lv_icmp_eq (tgt := 710) hx hb dL_law_705 (by decide) (fun _ => ?_) (fun h8 => absurd hg h8)
      refine lv_iload hx hb dL_law_710 (lv_at hl 1 rfl) ?_
      refine lv_if_ne (tgt := 734) hx hb dL_law_712 (by decide) (fun _ => ?_) (fun h8 => absurd h8 (by decide))
      refine lv_goto (tgt := 761) hx hb dL_law_734 (by decide) ?_
      exact kk bT bV _ H locs _ hP hD hS (lv_sub hl [2, 3, 4, 5, 6] rfl)
    · replace hf := og_f he hf
      cases hf
  · obtain ⟨r, vX, vT⟩ := r8
    dsimp only [Sum.elim_inr] at hf
    have hf2 := og_p hf
    clear hf
    obtain ⟨⟨hg, hr⟩, hf⟩ := hf2
    subst hr
    cases (og_s hf)
    by_cases hz : r = 0
    · refine lv_aload_n hx hb dL_law_618 rfl (lv_at hl 1 rfl) ?_
      refine lv_aload_n hx hb dL_law_619 rfl (lv_at hl 0 rfl) ?_
      refine lv_iload hx hb dL_law_620 (lv_at hl 4 rfl) ?_
      refine lv_iconst (v := (1 : Int32)) hx hb dL_law_622 (by decide) ?_
      refine lv_iadd hx hb dL_law_623 ?_
      refine sld (j := 1) (n := n) hx hb hX hbl hbA hS rfl (by decide) hn hL dL_law_624 ?_
      refine lv_aload_n hx hb dL_law_625 rfl (lv_at hl 0 rfl) ?_
      refine lv_iload hx hb dL_law_626 (lv_at hl 4 rfl) ?_
      refine lv_iconst (v := (2 : Int32)) hx hb dL_law_628 (by decide) ?_
      refine lv_iadd hx hb dL_law_629 ?_
      refine sld (j := 2) (n := n) hx hb hX hbl hbA hS rfl (by decide) hn hL dL_law_630 ?_
      refine lv_aload_n hx hb dL_law_631 rfl (lv_at hl 0 rfl) ?_
      refine lv_iload hx hb dL_law_632 (lv_at hl 4 rfl) ?_
      refine lv_iconst (v := (3 : Int32)) hx hb dL_law_634 (by decide) ?_
      refine lv_iadd hx hb dL_law_635 ?_
      refine sld (j := 3) (n := n) hx hb hX hbl hbA hS rfl (by decide) hn hL dL_law_636 ?_
      refine lv_i2l (v := (xs (1 + 5 * n + 3)).toInt64) hx hb dL_law_637 rfl ?_
      refine lv_bipush (v := (32 : Int32)) hx hb dL_law_638 (by decide) ?_
      refine lv_lshl (v := ((xs (1 + 5 * n + 3)).toInt64 <<< ((32 : Int32).toInt64 &&& 63))) hx hb dL_law_640 rfl ?_
      refine lv_aload_n hx hb dL_law_641 rfl (lv_at hl 0 rfl) ?_
      refine lv_iload hx hb dL_law_642 (lv_at hl 4 rfl) ?_
      refine lv_iconst (v := (4 : Int32)) hx hb dL_law_644 (by decide) ?_
      refine lv_iadd hx hb dL_law_645 ?_
      refine sld (j := 4) (n := n) hx hb hX hbl hbA hS rfl (by decide) hn hL dL_law_646 ?_
      refine lv_i2l (v := (xs (1 + 5 * n + 4)).toInt64) hx hb dL_law_647 rfl ?_
      refine lv_ldc2 (v := 4294967295) hx hb hown (hts _ (List.mem_cons_of_mem _ ml_4)) dL_law_648 ?_
      refine lv_land hx hb dL_law_651 ?_
      refine lv_lor hx hb dL_law_652 ?_
      refine lv_aload_n hx hb dL_law_653 rfl (lv_at hl 3 rfl) ?_
      refine ywH (ov := some (.int 0)) (st1 := [.int (0 : Int32)]) (rest := []) (w0 := (c8 0 G bX bF bS bT bV bP (bT 0) (bV 0) uX uS uT uV uP ++ oL G o fo)) (w1 := (c8 0 G bX bF bS bT bV bP (bT 0) (bV 0) vX uS vT uV uP ++ oL G o (vp_updL fo 0 (0 : Int64)))) (wr := cM (gI G) (gJ G) a u) (w' := (wLaw 0 G bX bF bS bT bV bP a o (vp_updL fo 0 (0 : Int64)) vX uS vT uV uP u)) C (hr_set_L0 l G bX bF bS bT bV bP o fo uX uS uT uV uP (xs (1 + 5 * n + 1)) (xs (1 + 5 * n + 2)) (((xs (1 + 5 * n + 3)).toInt64 <<< ((32 : Int32).toInt64 &&& 63)) ||| ((xs (1 + 5 * n + 4)).toInt64 &&& 4294967295)) r vX vT hz hq _) (vx_cwSW 5 hts (gdl_s ml_100 ml_101 ml_7 ml_102) rfl rfl rfl (by decide +kernel) ⟨Nat.le_of_ble_eq_true rfl, Nat.le_of_ble_eq_true rfl⟩) hK hA hT hP hD hS [0, 1, 2, 3, 4, 5, 6, 7, 8, 9, 10, 11, 12, 13, 14, 15, 16, 17, 18, 19, 20, 21, 22, 23, 24, 25, 26, 27, 28, 29, 30, 31, 45] [32, 33, 34, 35, 36, 37, 38, 39, 40, 41, 42, 43, 44] [13, 14, 15, 16, 17, 18, 19, 20, 21, 22, 23, 24, 25, 26, 27, 28, 29, 30, 31, 32, 33, 34, 35, 36, 37, 38, 39, 40, 41, 42, 43, 44, 0, 1, 2, 3, 4, 5, 6, 7, 8, 9, 10, 11, 12, 45] rfl rfl rfl rfl (by decide) rfl rfl rfl hl.1 rfl rfl (Nat.le_of_ble_eq_true rfl) dL_law_654 ⟨hc1, hc2⟩ (fun H locs hP hD hS => ?_)
      refine lv_istore (lv' := [(5, .int (0 : Int32)), (0, .ref b), (1, .ref (bX 0)), (2, .ref (a 0)), (3, .ref o), (4, .int (iN n))]) hx hb dL_law_657 hl (by decide) rfl (fun ls hl => ?_)
      refine lv_aload_n hx hb dL_law_659 rfl (lv_at hl 3 rfl) ?_
      refine lv_aload_n hx hb dL_law_660 rfl (lv_at hl 1 rfl) ?_
      refine lv_iload hx hb dL_law_661 (lv_at hl 5 rfl) ?_
      refine lv_iconst (v := (1 : Int32)) hx hb dL_law_663 (by decide) ?_
      refine lv_iadd hx hb dL_law_664 ?_
      refine sld (j := 1) (n := n) hx hb hX hbl hbA hS rfl (by decide) hn hL dL_law_665 ?_
      refine lv_aload_n hx hb dL_law_666 rfl (lv_at hl 1 rfl) ?_
      refine lv_iload hx hb dL_law_667 (lv_at hl 5 rfl) ?_
      refine lv_iconst (v := (2 : Int32)) hx hb dL_law_669 (by decide) ?_
      refine lv_iadd hx hb dL_law_670 ?_
      refine sld (j := 2) (n := n) hx hb hX hbl hbA hS rfl (by decide) hn hL dL_law_671 ?_
      refine lv_aload_n hx hb dL_law_672 rfl (lv_at hl 1 rfl) ?_
      refine lv_iload hx hb dL_law_673 (lv_at hl 5 rfl) ?_
      refine lv_iconst (v := (3 : Int32)) hx hb dL_law_675 (by decide) ?_
      refine lv_iadd hx hb dL_law_676 ?_
      refine sld (j := 3) (n := n) hx hb hX hbl hbA hS rfl (by decide) hn hL dL_law_677 ?_
      refine lv_i2l (v := (xs (1 + 5 * n + 3)).toInt64) hx hb dL_law_678 rfl ?_
      refine lv_bipush (v := (32 : Int32)) hx hb dL_law_679 (by decide) ?_
      refine lv_lshl (v := ((xs (1 + 5 * n + 3)).toInt64 <<< ((32 : Int32).toInt64 &&& 63))) hx hb dL_law_681 rfl ?_
      refine lv_aload_n hx hb dL_law_682 rfl (lv_at hl 1 rfl) ?_
      refine lv_iload hx hb dL_law_683 (lv_at hl 5 rfl) ?_
      refine lv_iconst (v := (4 : Int32)) hx hb dL_law_685 (by decide) ?_
      refine lv_iadd hx hb dL_law_686 ?_
      refine sld (j := 4) (n := n) hx hb hX hbl hbA hS rfl (by decide) hn hL dL_law_687 ?_
      refine lv_i2l (v := (xs (1 + 5 * n + 4)).toInt64) hx hb dL_law_688 rfl ?_
      refine lv_ldc2 (v := 4294967295) hx hb hown (hts _ (List.mem_cons_of_mem _ ml_4)) dL_law_689 ?_
      refine lv_land hx hb dL_law_692 ?_
      refine lv_lor hx hb dL_law_693 ?_
      refine yw9 (ov := (some (.int r))) (st1 := [.int r]) (rest := []) (w0 := (cM (gI G) (gJ G) a u)) (w1 := cM (gI G) (gJ G) a v) (wr := (c8 0 G bX bF bS bT bV bP (bT 0) (bV 0) vX uS vT uV uP ++ oL G o (vp_updL fo 0 (0 : Int64)))) (w' := (wLaw 0 G bX bF bS bT bV bP a o (vp_updL fo 0 (0 : Int64)) vX uS vT uV uP v)) C (c9_set l (gD G) (gI G) (gJ G) (gC G) a u (xs (1 + 5 * n + 1)) (xs (1 + 5 * n + 2)) (((xs (1 + 5 * n + 3)).toInt64 <<< ((32 : Int32).toInt64 &&& 63)) ||| ((xs (1 + 5 * n + 4)).toInt64 &&& 4294967295)) r v _ h9) (cwV 3 hts (gdl_9 ml_106 ml_107 ml_108 (mL9 m9_29) (mL9 m9_204)) rfl rfl rfl hd9_set ⟨Nat.le_of_ble_eq_true rfl, Nat.le_of_ble_eq_true rfl⟩) hK hA hP hD hS (va_recv hK hP (ci := 6) (q0 := 32) rfl rfl) [32, 33, 34, 35, 36, 37, 38, 39, 40, 41, 42, 43, 44] [0, 1, 2, 3, 4, 5, 6, 7, 8, 9, 10, 11, 12, 13, 14, 15, 16, 17, 18, 19, 20, 21, 22, 23, 24, 25, 26, 27, 28, 29, 30, 31, 45] [0, 1, 2, 3, 4, 5, 6, 7, 8, 9, 10, 11, 12, 13, 14, 15, 16, 17, 18, 19, 20, 21, 22, 23, 24, 25, 26, 27, 28, 29, 30, 31, 33, 34, 35, 36, 37, 38, 39, 40, 41, 42, 43, 44, 45, 32] rfl rfl rfl rfl (by decide) rfl rfl rfl hl.1 rfl rfl (Nat.le_of_ble_eq_true rfl) dL_law_694 ⟨(by show cells + 1 ≤ 601024; omega), (by show slots + 6 ≤ 7293000; omega)⟩ (fun H locs hP hD hS => ?_)
      refine lv_istore (lv' := [(6, .int r), (5, .int (0 : Int32)), (0, .ref b), (1, .ref (bX 0)), (2, .ref (a 0)), (3, .ref o), (4, .int (iN n))]) hx hb dL_law_697 hl (by decide) rfl (fun ls hl => ?_)
      refine lv_aload_n hx hb dL_law_699 rfl (lv_at hl 4 rfl) ?_
      refine yr9 (v := .int (gi v 0)) (rest := []) (w0 := (cM (gI G) (gJ G) a v)) C (c9_thrown l (gD G) (gI G) (gJ G) (gC G) a v _ _ rfl) (cwV 0 hts (gdl_9 ml_35 ml_36 ml_37 (mL9 m9_29) (mL9 m9_22)) rfl rfl rfl hd9_thrown ⟨Nat.le_of_ble_eq_true rfl, Nat.le_of_ble_eq_true rfl⟩) hK hP hD (va_recv hK hP (ci := 6) (q0 := 32) rfl rfl) [32, 33, 34, 35, 36, 37, 38, 39, 40, 41, 42, 43, 44] rfl rfl rfl hl.1 rfl (Nat.le_of_ble_eq_true rfl) dL_law_700 ⟨(by show cells + 1 ≤ 601024; omega), (by show slots + 6 ≤ 7293000; omega)⟩ ?_
      refine lv_iload hx hb dL_law_703 (lv_at hl 1 rfl) ?_
      refine lv_icmp_eq (tgt := 710) hx hb dL_law_705 (by decide) (fun _ => ?_) (fun h8 => absurd hg h8)
      refine lv_iload hx hb dL_law_710 (lv_at hl 1 rfl) ?_
      refine lv_if_ne (tgt := 734) hx hb dL_law_712 (by decide) (fun h8 => absurd rfl h8) (fun _ => ?_)
      refine lv_aload_n hx hb dL_law_715 rfl (lv_at hl 5 rfl) ?_
      refine lv_iconst (v := (0 : Int32)) hx hb dL_law_716 (by decide) ?_
      refine va_lald hx hb hK hP 45 1 rfl rfl vi01 dL_law_717 ?_
      refine W.eq (g2 := F0 m 718 ls [.long (0 : Int64)]) rfl ?_
      refine lv_iload hx hb dL_law_718 (lv_at hl 0 rfl) ?_
      refine lv_if_eq (tgt := 727) hx hb dL_law_720 (by decide) (fun _ => ?_) (fun h8 => absurd hz h8)
      refine lv_lconst (v := (0 : Int64)) hx hb dL_law_727 (by decide) ?_
      refine W.lcmp hx hb dL_law_728 ?_
      refine lv_if_eq (tgt := 734) hx hb dL_law_729 (by decide) (fun _ => ?_) (fun h8 => absurd (lg_self _) h8)
      refine lv_goto (tgt := 761) hx hb dL_law_734 (by decide) ?_
      exact kk bT bV _ H locs _ hP hD hS (lv_sub hl [2, 3, 4, 5, 6] rfl)
    · refine lv_aload_n hx hb dL_law_618 rfl (lv_at hl 1 rfl) ?_
      refine lv_aload_n hx hb dL_law_619 rfl (lv_at hl 0 rfl) ?_
      refine lv_iload hx hb dL_law_620 (lv_at hl 4 rfl) ?_
      refine lv_iconst (v := (1 : Int32)) hx hb dL_law_622 (by decide) ?_
      refine lv_iadd hx hb dL_law_623 ?_
      refine sld (j := 1) (n := n) hx hb hX hbl hbA hS rfl (by decide) hn hL dL_law_624 ?_
      refine lv_aload_n hx hb dL_law_625 rfl (lv_at hl 0 rfl) ?_
      refine lv_iload hx hb dL_law_626 (lv_at hl 4 rfl) ?_
      refine lv_iconst (v := (2 : Int32)) hx hb dL_law_628 (by decide) ?_
      refine lv_iadd hx hb dL_law_629 ?_
      refine sld (j := 2) (n := n) hx hb hX hbl hbA hS rfl (by decide) hn hL dL_law_630 ?_
      refine lv_aload_n hx hb dL_law_631 rfl (lv_at hl 0 rfl) ?_
      refine lv_iload hx hb dL_law_632 (lv_at hl 4 rfl) ?_
      refine lv_iconst (v := (3 : Int32)) hx hb dL_law_634 (by decide) ?_
      refine lv_iadd hx hb dL_law_635 ?_
      refine sld (j := 3) (n := n) hx hb hX hbl hbA hS rfl (by decide) hn hL dL_law_636 ?_
      refine lv_i2l (v := (xs (1 + 5 * n + 3)).toInt64) hx hb dL_law_637 rfl ?_
      refine lv_bipush (v := (32 : Int32)) hx hb dL_law_638 (by decide) ?_
      refine lv_lshl (v := ((xs (1 + 5 * n + 3)).toInt64 <<< ((32 : Int32).toInt64 &&& 63))) hx hb dL_law_640 rfl ?_
      refine lv_aload_n hx hb dL_law_641 rfl (lv_at hl 0 rfl) ?_
      refine lv_iload hx hb dL_law_642 (lv_at hl 4 rfl) ?_
      refine lv_iconst (v := (4 : Int32)) hx hb dL_law_644 (by decide) ?_
      refine lv_iadd hx hb dL_law_645 ?_
      refine sld (j := 4) (n := n) hx hb hX hbl hbA hS rfl (by decide) hn hL dL_law_646 ?_
      refine lv_i2l (v := (xs (1 + 5 * n + 4)).toInt64) hx hb dL_law_647 rfl ?_
      refine lv_ldc2 (v := 4294967295) hx hb hown (hts _ (List.mem_cons_of_mem _ ml_4)) dL_law_648 ?_
      refine lv_land hx hb dL_law_651 ?_
      refine lv_lor hx hb dL_law_652 ?_
      refine lv_aload_n hx hb dL_law_653 rfl (lv_at hl 3 rfl) ?_
      refine ywH (ov := some (.int 0)) (st1 := [.int (0 : Int32)]) (rest := []) (w0 := (c8 0 G bX bF bS bT bV bP (bT 0) (bV 0) uX uS uT uV uP ++ oL G o fo)) (w1 := (c8 0 G bX bF bS bT bV bP (bT 0) (bV 0) vX uS vT uV uP ++ oL G o (vp_updL fo 0 (1 : Int64)))) (wr := cM (gI G) (gJ G) a u) (w' := (wLaw 0 G bX bF bS bT bV bP a o (vp_updL fo 0 (1 : Int64)) vX uS vT uV uP u)) C (hr_set_L1 l G bX bF bS bT bV bP o fo uX uS uT uV uP (xs (1 + 5 * n + 1)) (xs (1 + 5 * n + 2)) (((xs (1 + 5 * n + 3)).toInt64 <<< ((32 : Int32).toInt64 &&& 63)) ||| ((xs (1 + 5 * n + 4)).toInt64 &&& 4294967295)) r vX vT hz hq _) (vx_cwSW 5 hts (gdl_s ml_100 ml_101 ml_7 ml_102) rfl rfl rfl (by decide +kernel) ⟨Nat.le_of_ble_eq_true rfl, Nat.le_of_ble_eq_true rfl⟩) hK hA hT hP hD hS [0, 1, 2, 3, 4, 5, 6, 7, 8, 9, 10, 11, 12, 13, 14, 15, 16, 17, 18, 19, 20, 21, 22, 23, 24, 25, 26, 27, 28, 29, 30, 31, 45] [32, 33, 34, 35, 36, 37, 38, 39, 40, 41, 42, 43, 44] [13, 14, 15, 16, 17, 18, 19, 20, 21, 22, 23, 24, 25, 26, 27, 28, 29, 30, 31, 32, 33, 34, 35, 36, 37, 38, 39, 40, 41, 42, 43, 44, 0, 1, 2, 3, 4, 5, 6, 7, 8, 9, 10, 11, 12, 45] rfl rfl rfl rfl (by decide) rfl rfl rfl hl.1 rfl rfl (Nat.le_of_ble_eq_true rfl) dL_law_654 ⟨hc1, hc2⟩ (fun H locs hP hD hS => ?_)
      refine lv_istore (lv' := [(5, .int (0 : Int32)), (0, .ref b), (1, .ref (bX 0)), (2, .ref (a 0)), (3, .ref o), (4, .int (iN n))]) hx hb dL_law_657 hl (by decide) rfl (fun ls hl => ?_)
      refine lv_aload_n hx hb dL_law_659 rfl (lv_at hl 3 rfl) ?_
      refine lv_aload_n hx hb dL_law_660 rfl (lv_at hl 1 rfl) ?_
      refine lv_iload hx hb dL_law_661 (lv_at hl 5 rfl) ?_
      refine lv_iconst (v := (1 : Int32)) hx hb dL_law_663 (by decide) ?_
      refine lv_iadd hx hb dL_law_664 ?_
      refine sld (j := 1) (n := n) hx hb hX hbl hbA hS rfl (by decide) hn hL dL_law_665 ?_
      refine lv_aload_n hx hb dL_law_666 rfl (lv_at hl 1 rfl) ?_
      refine lv_iload hx hb dL_law_667 (lv_at hl 5 rfl) ?_
      refine lv_iconst (v := (2 : Int32)) hx hb dL_law_669 (by decide) ?_
      refine lv_iadd hx hb dL_law_670 ?_
      refine sld (j := 2) (n := n) hx hb hX hbl hbA hS rfl (by decide) hn hL dL_law_671 ?_
      refine lv_aload_n hx hb dL_law_672 rfl (lv_at hl 1 rfl) ?_
      refine lv_iload hx hb dL_law_673 (lv_at hl 5 rfl) ?_
      refine lv_iconst (v := (3 : Int32)) hx hb dL_law_675 (by decide) ?_
      refine lv_iadd hx hb dL_law_676 ?_
      refine sld (j := 3) (n := n) hx hb hX hbl hbA hS rfl (by decide) hn hL dL_law_677 ?_
      refine lv_i2l (v := (xs (1 + 5 * n + 3)).toInt64) hx hb dL_law_678 rfl ?_
      refine lv_bipush (v := (32 : Int32)) hx hb dL_law_679 (by decide) ?_
      refine lv_lshl (v := ((xs (1 + 5 * n + 3)).toInt64 <<< ((32 : Int32).toInt64 &&& 63))) hx hb dL_law_681 rfl ?_
      refine lv_aload_n hx hb dL_law_682 rfl (lv_at hl 1 rfl) ?_
      refine lv_iload hx hb dL_law_683 (lv_at hl 5 rfl) ?_
      refine lv_iconst (v := (4 : Int32)) hx hb dL_law_685 (by decide) ?_
      refine lv_iadd hx hb dL_law_686 ?_
      refine sld (j := 4) (n := n) hx hb hX hbl hbA hS rfl (by decide) hn hL dL_law_687 ?_
      refine lv_i2l (v := (xs (1 + 5 * n + 4)).toInt64) hx hb dL_law_688 rfl ?_
      refine lv_ldc2 (v := 4294967295) hx hb hown (hts _ (List.mem_cons_of_mem _ ml_4)) dL_law_689 ?_
      refine lv_land hx hb dL_law_692 ?_
      refine lv_lor hx hb dL_law_693 ?_
      refine yw9 (ov := (some (.int r))) (st1 := [.int r]) (rest := []) (w0 := (cM (gI G) (gJ G) a u)) (w1 := cM (gI G) (gJ G) a v) (wr := (c8 0 G bX bF bS bT bV bP (bT 0) (bV 0) vX uS vT uV uP ++ oL G o (vp_updL fo 0 (1 : Int64)))) (w' := (wLaw 0 G bX bF bS bT bV bP a o (vp_updL fo 0 (1 : Int64)) vX uS vT uV uP v)) C (c9_set l (gD G) (gI G) (gJ G) (gC G) a u (xs (1 + 5 * n + 1)) (xs (1 + 5 * n + 2)) (((xs (1 + 5 * n + 3)).toInt64 <<< ((32 : Int32).toInt64 &&& 63)) ||| ((xs (1 + 5 * n + 4)).toInt64 &&& 4294967295)) r v _ h9) (cwV 3 hts (gdl_9 ml_106 ml_107 ml_108 (mL9 m9_29) (mL9 m9_204)) rfl rfl rfl hd9_set ⟨Nat.le_of_ble_eq_true rfl, Nat.le_of_ble_eq_true rfl⟩) hK hA hP hD hS (va_recv hK hP (ci := 6) (q0 := 32) rfl rfl) [32, 33, 34, 35, 36, 37, 38, 39, 40, 41, 42, 43, 44] [0, 1, 2, 3, 4, 5, 6, 7, 8, 9, 10, 11, 12, 13, 14, 15, 16, 17, 18, 19, 20, 21, 22, 23, 24, 25, 26, 27, 28, 29, 30, 31, 45] [0, 1, 2, 3, 4, 5, 6, 7, 8, 9, 10, 11, 12, 13, 14, 15, 16, 17, 18, 19, 20, 21, 22, 23, 24, 25, 26, 27, 28, 29, 30, 31, 33, 34, 35, 36, 37, 38, 39, 40, 41, 42, 43, 44, 45, 32] rfl rfl rfl rfl (by decide) rfl rfl rfl hl.1 rfl rfl (Nat.le_of_ble_eq_true rfl) dL_law_694 ⟨(by show cells + 1 ≤ 601024; omega), (by show slots + 6 ≤ 7293000; omega)⟩ (fun H locs hP hD hS => ?_)
      refine lv_istore (lv' := [(6, .int r), (5, .int (0 : Int32)), (0, .ref b), (1, .ref (bX 0)), (2, .ref (a 0)), (3, .ref o), (4, .int (iN n))]) hx hb dL_law_697 hl (by decide) rfl (fun ls hl => ?_)
      refine lv_aload_n hx hb dL_law_699 rfl (lv_at hl 4 rfl) ?_
      refine yr9 (v := .int (gi v 0)) (rest := []) (w0 := (cM (gI G) (gJ G) a v)) C (c9_thrown l (gD G) (gI G) (gJ G) (gC G) a v _ _ rfl) (cwV 0 hts (gdl_9 ml_35 ml_36 ml_37 (mL9 m9_29) (mL9 m9_22)) rfl rfl rfl hd9_thrown ⟨Nat.le_of_ble_eq_true rfl, Nat.le_of_ble_eq_true rfl⟩) hK hP hD (va_recv hK hP (ci := 6) (q0 := 32) rfl rfl) [32, 33, 34, 35, 36, 37, 38, 39, 40, 41, 42, 43, 44] rfl rfl rfl hl.1 rfl (Nat.le_of_ble_eq_true rfl) dL_law_700 ⟨(by show cells + 1 ≤ 601024; omega), (by show slots + 6 ≤ 7293000; omega)⟩ ?_
      refine lv_iload hx hb dL_law_703 (lv_at hl 1 rfl) ?_
      refine lv_icmp_eq (tgt := 710) hx hb dL_law_705 (by decide) (fun _ => ?_) (fun h8 => absurd hg h8)
      refine lv_iload hx hb dL_law_710 (lv_at hl 1 rfl) ?_
      refine lv_if_ne (tgt := 734) hx hb dL_law_712 (by decide) (fun h8 => absurd rfl h8) (fun _ => ?_)
      refine lv_aload_n hx hb dL_law_715 rfl (lv_at hl 5 rfl) ?_
      refine lv_iconst (v := (0 : Int32)) hx hb dL_law_716 (by decide) ?_
      refine va_lald hx hb hK hP 45 1 rfl rfl vi01 dL_law_717 ?_
      refine W.eq (g2 := F0 m 718 ls [.long (1 : Int64)]) rfl ?_
      refine lv_iload hx hb dL_law_718 (lv_at hl 0 rfl) ?_
      refine lv_if_eq (tgt := 727) hx hb dL_law_720 (by decide) (fun h8 => absurd h8 hz) (fun _ => ?_)
      refine lv_lconst (v := (1 : Int64)) hx hb dL_law_723 (by decide) ?_
      refine lv_goto (tgt := 728) hx hb dL_law_724 (by decide) ?_
      refine W.lcmp hx hb dL_law_728 ?_
      refine lv_if_eq (tgt := 734) hx hb dL_law_729 (by decide) (fun _ => ?_) (fun h8 => absurd (lg_self _) h8)
      refine lv_goto (tgt := 761) hx hb dL_law_734 (by decide) ?_
      exact kk bT bV _ H locs _ hP hD hS (lv_sub hl [2, 3, 4, 5, 6] rfl)
set_option maxHeartbeats 4000000 in
set_option maxRecDepth 100000 in
theorem lw_11_L {p : Program} {l : Launch} {e : Env} {s : State} {m : MethodId} {below : List Frame} {meth : Method} {c : Code} {H : Heap} {locs : List Loc} {cells slots : Nat} {Q : State → Prop} {ls : Array Slot} {b L n : Nat} {xs : Nat → Int32} {G : Gx} {A : Nat → Prop} {bX bF bS bT bV bP a : Nat → Nat} {o : Nat} {fo : Nat → Int64} {uX uS uT uV uP u : Md} {vX vS vT vV vP v : Md}
    (C : Cx p s m #[Value.ref b] meth c cL_law 8 (Cond.initialized RL :: WL) RL ret) (hL0 : l.stackTraces = false) (hX : va_X b L xs s s.heap) (hbl : b < s.heap.size) (hbA : ¬ A b) (hL : L ≤ 2561) (hn : 6 + 5 * n ≤ L) (hK : va_K (gD G) vwCl (tyG G) s) (hA : ∀ q : Nat, s.heap.size ≤ q → A q) (hT : STL G A s s.heap) (hcs : cells + 1 ≤ 601024 ∧ slots + 6 ≤ 7293000) (hP : va_P (gD G) vwCl (wLaw 0 G bX bF bS bT bV bP a o fo uX uS uT uV uP u) H) (hD : va_D A (wLaw 0 G bX bF bS bT bV bP a o fo uX uS uT uV uP u)) (hS : va_S A s.heap H locs) (hl : lv_has ls 8 [(0, .ref b), (1, .ref (bX 0)), (2, .ref (a 0)), (3, .ref o), (4, .int (iN n))]) (hf : sL_11_L uX uS uT uV uP u  = some (vX, vS, vT, vV, vP, v))
    (kk : ∀ (bT bV : Nat → Nat) (fo : Nat → Int64) (H : Heap) (locs : List Loc) (ls : Array Slot), va_P (gD G) vwCl (wLaw 0 G bX bF bS bT bV bP a o fo vX vS vT vV vP v) H → va_D A (wLaw 0 G bX bF bS bT bV bP a o fo vX vS vT vV vP v) → va_S A s.heap H locs → lv_has ls 8 [(0, .ref b), (1, .ref (bX 0)), (2, .ref (a 0)), (3, .ref o), (4, .int (iN n))] → W p l e room_1 s m #[Value.ref b] below meth c H locs (cells + 1) (slots + 6) Q (F0 m 761 ls [])) :
    W p l e room_1 s m #[Value.ref b] below meth c H locs cells slots Q (F0 m 737 ls []) := by
  obtain ⟨hc1, hc2⟩ := hcs
  have hx := C.1.1
  have hb := C.1.2.1
  have hown := C.1.2.2.2.1
  have hts := C.1.2.2.2.2
  unfold sL_11_L at hf
  have hf2 := og_b hf
  clear hf
  obtain ⟨r, hq, hf⟩ := hf2
  have hf2 := og_b hf
  clear hf
  obtain ⟨⟨r9, v⟩, h9, hf⟩ := hf2
  try dsimp only at hf
  have hf2 := og_p hf
  clear hf
  obtain ⟨hr, hf⟩ := hf2
  subst hr
  cases (og_s hf)
  refine lv_aload_n hx hb dL_law_737 rfl (lv_at hl 1 rfl) ?_
  refine yr8 (v := .int r) (rest := []) (w0 := (c8 0 G bX bF bS bT bV bP (bT 0) (bV 0) uX uS uT uV uP)) C (c8_depth_L l G bX bF bS bT bV bP uX uS uT uV uP r _ hq) (cwV 0 hts (gdl_v ml_109 ml_110 ml_111 (mL8 (m8 mx_32)) (mL8 (m8 mx_560))) rfl rfl rfl hd8_depth_L ⟨Nat.le_of_ble_eq_true rfl, Nat.le_of_ble_eq_true rfl⟩) hK hA hT.1 hP hD hS (va_recv hK hP (ci := 5) (q0 := 0) rfl rfl) [0, 1, 2, 3, 4, 5, 6, 7, 8, 9, 10, 11, 12, 13, 14, 15, 16, 17, 18, 19, 20, 21, 22, 23, 24, 25, 26, 27, 28, 29, 30, 31] rfl rfl rfl hl.1 rfl (Nat.le_of_ble_eq_true rfl) dL_law_738 ⟨(by show cells ≤ 601024; omega), (by show slots ≤ 7293000; omega)⟩ ?_
  refine lv_aload_n hx hb dL_law_741 rfl (lv_at hl 2 rfl) ?_
  refine yw9 (ov := (some (.int r))) (st1 := [.int r, .int r]) (rest := [.int r]) (w0 := (cM (gI G) (gJ G) a u)) (w1 := cM (gI G) (gJ G) a v) (wr := (c8 0 G bX bF bS bT bV bP (bT 0) (bV 0) uX uS uT uV uP ++ oL G o fo)) (w' := (wLaw 0 G bX bF bS bT bV bP a o fo uX uS uT uV uP v)) C (c9_depth l (gD G) (gI G) (gJ G) (gC G) a u  r v _ h9) (cwV 0 hts (gdl_9 ml_112 ml_113 ml_114 (mL9 m9_29) (mL9 m9_209)) rfl rfl rfl hd9_depth ⟨Nat.le_of_ble_eq_true rfl, Nat.le_of_ble_eq_true rfl⟩) hK hA hP hD hS (va_recv hK hP (ci := 6) (q0 := 32) rfl rfl) [32, 33, 34, 35, 36, 37, 38, 39, 40, 41, 42, 43, 44] [0, 1, 2, 3, 4, 5, 6, 7, 8, 9, 10, 11, 12, 13, 14, 15, 16, 17, 18, 19, 20, 21, 22, 23, 24, 25, 26, 27, 28, 29, 30, 31, 45] [0, 1, 2, 3, 4, 5, 6, 7, 8, 9, 10, 11, 12, 13, 14, 15, 16, 17, 18, 19, 20, 21, 22, 23, 24, 25, 26, 27, 28, 29, 30, 31, 33, 34, 35, 36, 37, 38, 39, 40, 41, 42, 43, 44, 45, 32] rfl rfl rfl rfl (by decide) rfl rfl rfl hl.1 rfl rfl (Nat.le_of_ble_eq_true rfl) dL_law_742 ⟨(by show cells ≤ 601024; omega), (by show slots ≤ 7293000; omega)⟩ (fun H locs hP hD hS => ?_)
  refine lv_icmp_eq (tgt := 761) hx hb dL_law_745 (by decide) (fun _ => ?_) (fun h8 => absurd rfl h8)
  refine W.widen (k := cells + 1) (n := slots + 6) (by omega) (by omega) ?_
  exact kk bT bV _ H locs _ hP hD hS (lv_sub hl [0, 1, 2, 3, 4] rfl)
set_option maxHeartbeats 4000000 in
set_option maxRecDepth 100000 in
theorem lw_12_L {p : Program} {l : Launch} {e : Env} {s : State} {m : MethodId} {below : List Frame} {meth : Method} {c : Code} {H : Heap} {locs : List Loc} {cells slots : Nat} {Q : State → Prop} {ls : Array Slot} {b L n : Nat} {xs : Nat → Int32} {G : Gx} {A : Nat → Prop} {bX bF bS bT bV bP a : Nat → Nat} {o : Nat} {fo : Nat → Int64} {uX uS uT uV uP u : Md} {vX vS vT vV vP v : Md}
    (C : Cx p s m #[Value.ref b] meth c cL_law 8 (Cond.initialized RL :: WL) RL ret) (hL0 : l.stackTraces = false) (hX : va_X b L xs s s.heap) (hbl : b < s.heap.size) (hbA : ¬ A b) (hL : L ≤ 2561) (hn : 6 + 5 * n ≤ L) (hK : va_K (gD G) vwCl (tyG G) s) (hA : ∀ q : Nat, s.heap.size ≤ q → A q) (hT : STL G A s s.heap) (hcs : cells + 1 ≤ 601024 ∧ slots + 6 ≤ 7293000) (hP : va_P (gD G) vwCl (wLaw 0 G bX bF bS bT bV bP a o fo uX uS uT uV uP u) H) (hD : va_D A (wLaw 0 G bX bF bS bT bV bP a o fo uX uS uT uV uP u)) (hS : va_S A s.heap H locs) (hl : lv_has ls 8 [(0, .ref b), (1, .ref (bX 0)), (2, .ref (a 0)), (3, .ref o), (4, .int (iN n))]) (hf : sL_12_L uX uS uT uV uP u  = some (vX, vS, vT, vV, vP, v))
    (kk : ∀ (bT bV : Nat → Nat) (fo : Nat → Int64) (H : Heap) (locs : List Loc) (ls : Array Slot), va_P (gD G) vwCl (wLaw 0 G bX bF bS bT bV bP a o fo vX vS vT vV vP v) H → va_D A (wLaw 0 G bX bF bS bT bV bP a o fo vX vS vT vV vP v) → va_S A s.heap H locs → lv_has ls 8 [(0, .ref b), (1, .ref (bX 0)), (2, .ref (a 0)), (3, .ref o), (4, .int (iN n))] → W p l e room_1 s m #[Value.ref b] below meth c H locs (cells + 1) (slots + 6) Q (F0 m 761 ls [])) :
    W p l e room_1 s m #[Value.ref b] below meth c H locs cells slots Q (F0 m 750 ls []) := by
  obtain ⟨hc1, hc2⟩ := hcs
  have hx := C.1.1
  have hb := C.1.2.1
  have hown := C.1.2.2.2.1
  have hts := C.1.2.2.2.2
  unfold sL_12_L at hf
  have hf2 := og_b hf
  clear hf
  obtain ⟨vS, hq, hf⟩ := hf2
  have hf2 := og_b hf
  clear hf
  obtain ⟨v, h9, hf⟩ := hf2
  try dsimp only at hf
  cases (og_s hf)
  refine lv_aload_n hx hb dL_law_750 rfl (lv_at hl 1 rfl) ?_
  refine yw8 (ov := none) (st1 := []) (rest := []) (w0 := (c8 0 G bX bF bS bT bV bP (bT 0) (bV 0) uX uS uT uV uP)) (w1 := (c8 0 G bX bF bS bT bV bP (bT 0) (bV 0) uX vS uT uV uP)) (wr := (cM (gI G) (gJ G) a u ++ oL G o fo)) (w' := (wLaw 0 G bX bF bS bT bV bP a o fo uX vS uT uV uP u)) C (c8_clear_L l G bX bF bS bT bV bP uX uS uT uV uP vS _ hq) (cwV 0 hts (gdl_v ml_115 ml_116 ml_117 (mL8 (m8 mx_32)) (mL8 (m8 mx_561))) rfl rfl rfl hd8_clear_L ⟨Nat.le_of_ble_eq_true rfl, Nat.le_of_ble_eq_true rfl⟩) hK hA hT.1 hP hD hS (va_recv hK hP (ci := 5) (q0 := 0) rfl rfl) [0, 1, 2, 3, 4, 5, 6, 7, 8, 9, 10, 11, 12, 13, 14, 15, 16, 17, 18, 19, 20, 21, 22, 23, 24, 25, 26, 27, 28, 29, 30, 31] [32, 33, 34, 35, 36, 37, 38, 39, 40, 41, 42, 43, 44, 45] [14, 15, 16, 17, 18, 19, 20, 21, 22, 23, 24, 25, 26, 27, 28, 29, 30, 31, 32, 33, 34, 35, 36, 37, 38, 39, 40, 41, 42, 43, 44, 45, 0, 1, 2, 3, 4, 5, 6, 7, 8, 9, 10, 11, 12, 13] rfl rfl rfl rfl (by decide) rfl rfl rfl hl.1 rfl rfl (Nat.le_of_ble_eq_true rfl) dL_law_751 ⟨(by show cells ≤ 601024; omega), (by show slots ≤ 7293000; omega)⟩ (fun H locs hP hD hS => ?_)
  refine lv_aload_n hx hb dL_law_754 rfl (lv_at hl 2 rfl) ?_
  refine yw9 (ov := none) (st1 := []) (rest := []) (w0 := (cM (gI G) (gJ G) a u)) (w1 := cM (gI G) (gJ G) a v) (wr := (c8 0 G bX bF bS bT bV bP (bT 0) (bV 0) uX vS uT uV uP ++ oL G o fo)) (w' := (wLaw 0 G bX bF bS bT bV bP a o fo uX vS uT uV uP v)) C (c9_clear l (gD G) (gI G) (gJ G) (gC G) a u v _ h9) (cwV 0 hts (gdl_9 ml_118 ml_119 ml_120 (mL9 m9_29) (mL9 m9_25)) rfl rfl rfl hd9_clear ⟨Nat.le_of_ble_eq_true rfl, Nat.le_of_ble_eq_true rfl⟩) hK hA hP hD hS (va_recv hK hP (ci := 6) (q0 := 32) rfl rfl) [32, 33, 34, 35, 36, 37, 38, 39, 40, 41, 42, 43, 44] [0, 1, 2, 3, 4, 5, 6, 7, 8, 9, 10, 11, 12, 13, 14, 15, 16, 17, 18, 19, 20, 21, 22, 23, 24, 25, 26, 27, 28, 29, 30, 31, 45] [0, 1, 2, 3, 4, 5, 6, 7, 8, 9, 10, 11, 12, 13, 14, 15, 16, 17, 18, 19, 20, 21, 22, 23, 24, 25, 26, 27, 28, 29, 30, 31, 33, 34, 35, 36, 37, 38, 39, 40, 41, 42, 43, 44, 45, 32] rfl rfl rfl rfl (by decide) rfl rfl rfl hl.1 rfl rfl (Nat.le_of_ble_eq_true rfl) dL_law_755 ⟨(by show cells ≤ 601024; omega), (by show slots ≤ 7293000; omega)⟩ (fun H locs hP hD hS => ?_)
  refine lv_goto (tgt := 761) hx hb dL_law_758 (by decide) ?_
  refine W.widen (k := cells + 1) (n := slots + 6) (by omega) (by omega) ?_
  exact kk bT bV _ H locs _ hP hD hS (lv_sub hl [0, 1, 2, 3, 4] rfl)
