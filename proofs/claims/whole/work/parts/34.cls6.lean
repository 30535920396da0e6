abbrev rmx_X1_putNameAndValues_B : Room := { frames := 5, cells := 0, slots := 0, locals := 107 }
noncomputable abbrev wsx_X1_putNameAndValues_B : List Cond := Cond.code yX1_putNameAndValues cX1_putNameAndValues 9 none :: WAX
theorem hdx_X1_putNameAndValues_B : yX1_putNameAndValues.cls = RX1 ∧ yX1_putNameAndValues.cls ≠ "java/lang/invoke/MethodHandle" ∧ yX1_putNameAndValues.cls ≠ "java/lang/invoke/VarHandle" ∧ (parseMethodDescriptor yX1_putNameAndValues.desc).map (fun d => d.parameters.length) = some 3 := by decide +kernel
theorem hdo_X1_putNameAndValues_B : "SchematicText$Form" ≠ "java/lang/invoke/MethodHandle" ∧ "SchematicText$Form" ≠ "java/lang/invoke/VarHandle" ∧ (parseMethodDescriptor "(LSchematicText$Tree;ILSchematicText$Page;)V").map (fun d => d.parameters.length) = some 3 := by decide +kernel
def fx_X1_putNameAndValues_B_112 (uT : Md) (k49 : Md → Int32 → (Fin 10) → Int32 → Int32 → Int32 → Option Md) (uP : Md) (x2 : Int32) (x4 : (Fin 10)) (x5 : Int32) (x6 : Int32) (x7 : Int32) : Option Md := (k49 uP x2 x4 x5 x6 (x7 + (1 : Int32)))
set_option maxHeartbeats 4000000 in
set_option maxRecDepth 100000 in
theorem wx_X1_putNameAndValues_B_112 {p : Program} {l : Launch} {e : Env} {s : State} {m : MethodId} {args : Array Value} {below : List Frame} {meth : Method} {c : Code} {G : Gx} {A : Nat → Prop} {bF : Nat → Nat} {bT : Nat → Nat} {bP : Nat → Nat} (C : Cx p s m args meth c cX1_putNameAndValues 9 wsx_X1_putNameAndValues_B RX1 none) {uT : Md} (hK : va_K (gD G) vwCl (tyG G) s) (hA : ∀ q : Nat, s.heap.size ≤ q → A q) (hT : ST G A s s.heap) {r : Md} (k49 : Md → Int32 → (Fin 10) → Int32 → Int32 → Int32 → Option Md) (ih49 : ∀ (uP : Md) (x2 : Int32) (x4 : (Fin 10)) (x5 : Int32) (x6 : Int32) (x7 : Int32), k49 uP x2 x4 x5 x6 x7 = some r → ∀ {H : Heap} {locs : List Loc}, va_P (gD G) vwCl (cF 1 bF ++ cT G bT uT ++ cP G bP uP) H → va_D A (cF 1 bF ++ cT G bT uT ++ cP G bP uP) → va_S A s.heap H locs → ∀ {ls : Array Slot}, lv_has ls 9 [(1, .ref (bT 0)), (2, .int x2), (3, .ref (bP 0)), (4, .ref (gK G (x4).val)), (5, .int x5), (6, .int x6), (7, .int x7)] → W p l e rmx_X1_putNameAndValues_B s m args below meth c H locs 0 0 (MQ below (qW none (cF 1 bF ++ cT G bT uT ++ cP G bP r) (gD G) (tyG G) A) args s 0 0 A) (F0 m 49 ls [])) : ∀ (uP : Md) (x2 : Int32) (x4 : (Fin 10)) (x5 : Int32) (x6 : Int32) (x7 : Int32), fx_X1_putNameAndValues_B_112 uT k49 uP x2 x4 x5 x6 x7 = some r → ∀ {H : Heap} {locs : List Loc}, va_P (gD G) vwCl (cF 1 bF ++ cT G bT uT ++ cP G bP uP) H → va_D A (cF 1 bF ++ cT G bT uT ++ cP G bP uP) → va_S A s.heap H locs → ∀ {ls : Array Slot}, lv_has ls 9 [(1, .ref (bT 0)), (2, .int x2), (3, .ref (bP 0)), (4, .ref (gK G (x4).val)), (5, .int x5), (6, .int x6), (7, .int x7)] → W p l e rmx_X1_putNameAndValues_B s m args below meth c H locs 0 0 (MQ below (qW none (cF 1 bF ++ cT G bT uT ++ cP G bP r) (gD G) (tyG G) A) args s 0 0 A) (F0 m 112 ls []) := by
  have hx := C.1.1
  have hb := C.1.2.1
  have hts := C.1.2.2.2.2
  have hown := C.1.2.2.2.1
  have hin7 : ∀ w ∈ wsX70, w ∈ wsx_X1_putNameAndValues_B := fun w h => List.mem_cons_of_mem _ (List.mem_append_right _ (List.mem_append_right _ (List.mem_append_right _ (List.mem_append_left _ h))))
  have hin5 : ∀ w ∈ wsX50, w ∈ wsx_X1_putNameAndValues_B := fun w h => List.mem_cons_of_mem _ (List.mem_append_right _ (List.mem_append_left _ h))
  intro uP x2 x4 x5 x6 x7 hf H locs hP hD hS ls hl
  unfold fx_X1_putNameAndValues_B_112 at hf
  refine lv_iinc (v := (x7 + (1 : Int32))) (lv' := [(7, .int (x7 + (1 : Int32))), (1, .ref (bT 0)), (2, .int x2), (3, .ref (bP 0)), (4, .ref (gK G (x4).val)), (5, .int x5), (6, .int x6)]) hx hb dX1_putNameAndValues_112 hl (k := 6) rfl rfl (by decide) rfl (fun ls hl => ?_)
  refine lv_goto (tgt := 49) hx hb dX1_putNameAndValues_115 (by decide) ?_
  exact ih49 uP x2 x4 x5 x6 (x7 + (1 : Int32)) hf hP hD hS (lv_sub hl [1, 2, 3, 4, 5, 6, 0] rfl)
def fx_X1_putNameAndValues_B_49 (uT : Md) : Nat → Md → Int32 → (Fin 10) → Int32 → Int32 → Int32 → Option Md
  | 0, _, _, _, _, _, _ => none
  | n + 1, uP, x2, x4, x5, x6, x7 => ((fx_X2_fields x4).bind fun r_11 => (if r_11 ≤ x7 then (some uP) else ((fx_X2_fieldAt x4 x7).bind fun r_14 => ((fx_X5_put uP (32 : Int32)).bind fun u_16 => ((fx_X0_isText r_14).bind fun r_18 => (if r_18 = 0 then ((fx_X7_numberOf uT x2 x6).bind fun r_21 => ((fx_X5_putNumber u_16 r_14 r_21).bind fun u_23 => (fx_X1_putNameAndValues_B_112 uT (fx_X1_putNameAndValues_B_49 uT n) u_23 x2 x4 x5 (x6 + (1 : Int32)) x7))) else ((fx_X5_putText uT u_16 x2 x5).bind fun u_25 => (fx_X1_putNameAndValues_B_112 uT (fx_X1_putNameAndValues_B_49 uT n) u_25 x2 x4 (x5 + (1 : Int32)) x6 x7))))))))
set_option maxHeartbeats 4000000 in
set_option maxRecDepth 100000 in
theorem wx_X1_putNameAndValues_B_49 {p : Program} {l : Launch} {e : Env} {s : State} {m : MethodId} {args : Array Value} {below : List Frame} {meth : Method} {c : Code} {G : Gx} {A : Nat → Prop} {bF : Nat → Nat} {bT : Nat → Nat} {bP : Nat → Nat} (C : Cx p s m args meth c cX1_putNameAndValues 9 wsx_X1_putNameAndValues_B RX1 none) {uT : Md} (hK : va_K (gD G) vwCl (tyG G) s) (hA : ∀ q : Nat, s.heap.size ≤ q → A q) (hT : ST G A s s.heap) {r : Md} : ∀ (n : Nat), ∀ (uP : Md) (x2 : Int32) (x4 : (Fin 10)) (x5 : Int32) (x6 : Int32) (x7 : Int32), fx_X1_putNameAndValues_B_49 uT n uP x2 x4 x5 x6 x7 = some r → ∀ {H : Heap} {locs : List Loc}, va_P (gD G) vwCl (cF 1 bF ++ cT G bT uT ++ cP G bP uP) H → va_D A (cF 1 bF ++ cT G bT uT ++ cP G bP uP) → va_S A s.heap H locs → ∀ {ls : Array Slot}, lv_has ls 9 [(1, .ref (bT 0)), (2, .int x2), (3, .ref (bP 0)), (4, .ref (gK G (x4).val)), (5, .int x5), (6, .int x6), (7, .int x7)] → W p l e rmx_X1_putNameAndValues_B s m args below meth c H locs 0 0 (MQ below (qW none (cF 1 bF ++ cT G bT uT ++ cP G bP r) (gD G) (tyG G) A) args s 0 0 A) (F0 m 49 ls []) := by
  have hx := C.1.1
  have hb := C.1.2.1
  have hts := C.1.2.2.2.2
  have hown := C.1.2.2.2.1
  have hin7 : ∀ w ∈ wsX70, w ∈ wsx_X1_putNameAndValues_B := fun w h => List.mem_cons_of_mem _ (List.mem_append_right _ (List.mem_append_right _ (List.mem_append_right _ (List.mem_append_left _ h))))
  have hin5 : ∀ w ∈ wsX50, w ∈ wsx_X1_putNameAndValues_B := fun w h => List.mem_cons_of_mem _ (List.mem_append_right _ (List.mem_append_left _ h))
  intro n
  induction n with
  | zero =>
    intro uP x2 x4 x5 x6 x7 hf H locs hP hD hS ls hl
    cases hf
  | succ n ih =>
    intro uP x2 x4 x5 x6 x7 hf H locs hP hD hS ls hl
    rw [fx_X1_putNameAndValues_B_49] at hf
    refine lv_iload hx hb dX1_putNameAndValues_49 (lv_at hl 6 rfl) ?_
    refine lv_aload hx hb dX1_putNameAndValues_51 (lv_at hl 3 rfl) ?_
    obtain ⟨r_11, h_10, hf⟩ := og_b hf
    try dsimp only at hf
    refine xr_V (v := .int r_11) (rest := [.int x7]) (w0 := ([])) C (cx_X2_fields l G x4 r_11 _ h_10) (cwV 0 hts gx_X1_X2_fields_69 rfl rfl rfl hdx_X2_fields ⟨Nat.le_of_ble_eq_true rfl, Nat.le_of_ble_eq_true rfl⟩) hK hA hT hP hD hS (va_recvE hT.1.2.2.2.2.1 (x4).isLt hS) [] rfl rfl rfl hl.1 rfl (Nat.le_of_ble_eq_true rfl) dX1_putNameAndValues_53 ?_
    refine lv_icmp_ge (tgt := 118) hx hb dX1_putNameAndValues_56 (by decide) (fun c_12 => ?_) (fun c_12 => ?_)
    · replace hf := og_t c_12 hf
      obtain rfl := og_s hf
      exact rw_v C hK hP hD hS dX1_putNameAndValues_118
    · replace hf := og_f c_12 hf
      refine lv_aload hx hb dX1_putNameAndValues_59 (lv_at hl 3 rfl) ?_
      refine lv_iload hx hb dX1_putNameAndValues_61 (lv_at hl 6 rfl) ?_
      obtain ⟨r_14, h_13, hf⟩ := og_b hf
      try dsimp only at hf
      refine xr_V (v := .ref (gF G (r_14).val)) (rest := []) (w0 := ([])) C (cx_X2_fieldAt l G x4 x7 r_14 _ h_13) (cwV 1 hts gx_X1_X2_fieldAt_73 rfl rfl rfl hdx_X2_fieldAt ⟨Nat.le_of_ble_eq_true rfl, Nat.le_of_ble_eq_true rfl⟩) hK hA hT hP hD hS (va_recvE hT.1.2.2.2.2.1 (x4).isLt hS) [] rfl rfl rfl hl.1 rfl (Nat.le_of_ble_eq_true rfl) dX1_putNameAndValues_63 ?_
      refine lv_astore (lv' := [(8, .ref (gF G (r_14).val)), (1, .ref (bT 0)), (2, .int x2), (3, .ref (bP 0)), (4, .ref (gK G (x4).val)), (5, .int x5), (6, .int x6), (7, .int x7)]) hx hb dX1_putNameAndValues_66 hl (by decide) rfl (fun ls hl => ?_)
      refine lv_aload_n hx hb dX1_putNameAndValues_68 rfl (lv_at hl 3 rfl) ?_
      refine lv_bipush (v := (32 : Int32)) hx hb dX1_putNameAndValues_69 (by decide) ?_
      obtain ⟨u_16, h_15, hf⟩ := og_b hf
      try dsimp only at hf
      refine xw_V (ov := none) (st1 := []) (rest := []) (w0 := (cP G bP uP)) (w1 := (cP G bP u_16)) (wr := (cF 1 bF ++ cT G bT uT)) (w' := (cF 1 bF ++ cT G bT uT ++ cP G bP u_16)) C (cx_X5_put l G bP uP (32 : Int32) u_16 _ h_15) (cwV 1 hts gx_X1_X5_put_102 rfl rfl rfl hdx_X5_put ⟨Nat.le_of_ble_eq_true rfl, Nat.le_of_ble_eq_true rfl⟩) hK hA hT hP hD hS (va_recv hK hP (ci := 2) (q0 := 14) rfl rfl) [14, 15] [0, 1, 2, 3, 4, 5, 6, 7, 8, 9, 10, 11, 12, 13] [0, 1, 2, 3, 4, 5, 6, 7, 8, 9, 10, 11, 12, 13, 14, 15] rfl rfl rfl rfl (by decide) rfl rfl rfl hl.1 rfl rfl (Nat.le_of_ble_eq_true rfl) dX1_putNameAndValues_71 (fun H locs hP hD hS => ?_)
      refine lv_aload hx hb dX1_putNameAndValues_74 (lv_at hl 0 rfl) ?_
      obtain ⟨r_18, h_17, hf⟩ := og_b hf
      try dsimp only at hf
      refine xr_V (v := .int r_18) (rest := []) (w0 := ([])) C (cx_X0_isText l G r_14 r_18 _ h_17) (cwV 0 hts gx_X1_X0_isText_80 rfl rfl rfl hdx_X0_isText ⟨Nat.le_of_ble_eq_true rfl, Nat.le_of_ble_eq_true rfl⟩) hK hA hT hP hD hS (va_recvE hT.1.1 (r_14).isLt hS) [] rfl rfl rfl hl.1 rfl (Nat.le_of_ble_eq_true rfl) dX1_putNameAndValues_76 ?_
      refine lv_if_eq (tgt := 96) hx hb dX1_putNameAndValues_79 (by decide) (fun c_19 => ?_) (fun c_19 => ?_)
      · replace hf := og_t c_19 hf
        refine lv_aload_n hx hb dX1_putNameAndValues_96 rfl (lv_at hl 3 rfl) ?_
        refine lv_aload hx hb dX1_putNameAndValues_97 (lv_at hl 0 rfl) ?_
        refine lv_aload_n hx hb dX1_putNameAndValues_99 rfl (lv_at hl 1 rfl) ?_
        refine lv_iload_n hx hb dX1_putNameAndValues_100 rfl (lv_at hl 2 rfl) ?_
        refine lv_iload hx hb dX1_putNameAndValues_101 (lv_at hl 6 rfl) ?_
        obtain ⟨r_21, h_20, hf⟩ := og_b hf
        try dsimp only at hf
        refine xr_V (v := .long r_21) (rest := [.ref (gF G (r_14).val), .ref (bP 0)]) (w0 := (cT G bT uT)) C (cx_X7_numberOf l G bT uT x2 x6 r_21 _ h_20) (cwV 2 hts gx_X1_X7_numberOf_115 rfl rfl rfl hdx_X7_numberOf ⟨Nat.le_of_ble_eq_true rfl, Nat.le_of_ble_eq_true rfl⟩) hK hA hT hP hD hS (va_recv hK hP (ci := 4) (q0 := 1) rfl rfl) [1, 2, 3, 4, 5, 6, 7, 8, 9, 10, 11, 12, 13] rfl rfl rfl hl.1 rfl (Nat.le_of_ble_eq_true rfl) dX1_putNameAndValues_103 ?_
        obtain ⟨u_23, h_22, hf⟩ := og_b hf
        try dsimp only at hf
        refine xw_V (ov := none) (st1 := []) (rest := []) (w0 := (cP G bP u_16)) (w1 := (cP G bP u_23)) (wr := (cF 1 bF ++ cT G bT uT)) (w' := (cF 1 bF ++ cT G bT uT ++ cP G bP u_23)) C (cx_X5_putNumber l G bP u_16 r_14 r_21 u_23 _ h_22) (cwV 2 hts gx_X1_X5_putNumber_108 rfl rfl rfl hdx_X5_putNumber ⟨Nat.le_of_ble_eq_true rfl, Nat.le_of_ble_eq_true rfl⟩) hK hA hT hP hD hS (va_recv hK hP (ci := 2) (q0 := 14) rfl rfl) [14, 15] [0, 1, 2, 3, 4, 5, 6, 7, 8, 9, 10, 11, 12, 13] [0, 1, 2, 3, 4, 5, 6, 7, 8, 9, 10, 11, 12, 13, 14, 15] rfl rfl rfl rfl (by decide) rfl rfl rfl hl.1 rfl rfl (Nat.le_of_ble_eq_true rfl) dX1_putNameAndValues_106 (fun H locs hP hD hS => ?_)
        refine lv_iinc (v := (x6 + (1 : Int32))) (lv' := [(6, .int (x6 + (1 : Int32))), (8, .ref (gF G (r_14).val)), (1, .ref (bT 0)), (2, .int x2), (3, .ref (bP 0)), (4, .ref (gK G (x4).val)), (5, .int x5), (7, .int x7)]) hx hb dX1_putNameAndValues_109 hl (k := 6) rfl rfl (by decide) rfl (fun ls hl => ?_)
        exact wx_X1_putNameAndValues_B_112 C hK hA hT (fx_X1_putNameAndValues_B_49 uT n) (fun _ _ _ _ _ _ h9 => ih _ _ _ _ _ _ h9) u_23 x2 x4 x5 (x6 + (1 : Int32)) x7 hf hP hD hS (lv_sub hl [2, 3, 4, 5, 6, 0, 7] rfl)
      · replace hf := og_f c_19 hf
        refine lv_aload_n hx hb dX1_putNameAndValues_82 rfl (lv_at hl 3 rfl) ?_
        refine lv_aload_n hx hb dX1_putNameAndValues_83 rfl (lv_at hl 1 rfl) ?_
        refine lv_iload_n hx hb dX1_putNameAndValues_84 rfl (lv_at hl 2 rfl) ?_
        refine lv_iload hx hb dX1_putNameAndValues_85 (lv_at hl 5 rfl) ?_
        obtain ⟨u_25, h_24, hf⟩ := og_b hf
        try dsimp only at hf
        refine xw_V (ov := none) (st1 := []) (rest := []) (w0 := (cT G bT uT ++ cP G bP u_16)) (w1 := (cT G bT uT ++ cP G bP u_25)) (wr := (cF 1 bF)) (w' := (cF 1 bF ++ cT G bT uT ++ cP G bP u_25)) C (cx_X5_putText l G bT bP uT u_16 x2 x5 u_25 _ h_24) (cwV 3 hts gx_X1_X5_putText_111 rfl rfl rfl hdx_X5_putText ⟨Nat.le_of_ble_eq_true rfl, Nat.le_of_ble_eq_true rfl⟩) hK hA hT hP hD hS (va_recv hK hP (ci := 2) (q0 := 14) rfl rfl) [1, 2, 3, 4, 5, 6, 7, 8, 9, 10, 11, 12, 13, 14, 15] [0] [0, 1, 2, 3, 4, 5, 6, 7, 8, 9, 10, 11, 12, 13, 14, 15] rfl rfl rfl rfl (by decide) rfl rfl rfl hl.1 rfl rfl (Nat.le_of_ble_eq_true rfl) dX1_putNameAndValues_87 (fun H locs hP hD hS => ?_)
        refine lv_iinc (v := (x5 + (1 : Int32))) (lv' := [(5, .int (x5 + (1 : Int32))), (8, .ref (gF G (r_14).val)), (1, .ref (bT 0)), (2, .int x2), (3, .ref (bP 0)), (4, .ref (gK G (x4).val)), (6, .int x6), (7, .int x7)]) hx hb dX1_putNameAndValues_90 hl (k := 5) rfl rfl (by decide) rfl (fun ls hl => ?_)
        refine lv_goto (tgt := 112) hx hb dX1_putNameAndValues_93 (by decide) ?_
        exact wx_X1_putNameAndValues_B_112 C hK hA hT (fx_X1_putNameAndValues_B_49 uT n) (fun _ _ _ _ _ _ h9 => ih _ _ _ _ _ _ h9) u_25 x2 x4 (x5 + (1 : Int32)) x6 x7 hf hP hD hS (lv_sub hl [2, 3, 4, 5, 0, 6, 7] rfl)
def fx_X1_putNameAndValues_B_40 (uT : Md) (uP : Md) (x2 : Int32) (x4 : (Fin 10)) : Option Md := (fx_X1_putNameAndValues_B_49 uT FU uP x2 x4 (0 : Int32) (0 : Int32) (0 : Int32))
set_option maxHeartbeats 4000000 in
set_option maxRecDepth 100000 in
theorem wx_X1_putNameAndValues_B_40 {p : Program} {l : Launch} {e : Env} {s : State} {m : MethodId} {args : Array Value} {below : List Frame} {meth : Method} {c : Code} {G : Gx} {A : Nat → Prop} {bF : Nat → Nat} {bT : Nat → Nat} {bP : Nat → Nat} (C : Cx p s m args meth c cX1_putNameAndValues 9 wsx_X1_putNameAndValues_B RX1 none) {uT : Md} (hK : va_K (gD G) vwCl (tyG G) s) (hA : ∀ q : Nat, s.heap.size ≤ q → A q) (hT : ST G A s s.heap) {r : Md} : ∀ (uP : Md) (x2 : Int32) (x4 : (Fin 10)), fx_X1_putNameAndValues_B_40 uT uP x2 x4 = some r → ∀ {H : Heap} {locs : List Loc}, va_P (gD G) vwCl (cF 1 bF ++ cT G bT uT ++ cP G bP uP) H → va_D A (cF 1 bF ++ cT G bT uT ++ cP G bP uP) → va_S A s.heap H locs → ∀ {ls : Array Slot}, lv_has ls 9 [(1, .ref (bT 0)), (2, .int x2), (3, .ref (bP 0)), (4, .ref (gK G (x4).val))] → W p l e rmx_X1_putNameAndValues_B s m args below meth c H locs 0 0 (MQ below (qW none (cF 1 bF ++ cT G bT uT ++ cP G bP r) (gD G) (tyG G) A) args s 0 0 A) (F0 m 40 ls []) := by
  have hx := C.1.1
  have hb := C.1.2.1
  have hts := C.1.2.2.2.2
  have hown := C.1.2.2.2.1
  have hin7 : ∀ w ∈ wsX70, w ∈ wsx_X1_putNameAndValues_B := fun w h => List.mem_cons_of_mem _ (List.mem_append_right _ (List.mem_append_right _ (List.mem_append_right _ (List.mem_append_left _ h))))
  have hin5 : ∀ w ∈ wsX50, w ∈ wsx_X1_putNameAndValues_B := fun w h => List.mem_cons_of_mem _ (List.mem_append_right _ (List.mem_append_left _ h))
  intro uP x2 x4 hf H locs hP hD hS ls hl
  unfold fx_X1_putNameAndValues_B_40 at hf
  refine lv_iconst (v := (0 : Int32)) hx hb dX1_putNameAndValues_40 (by decide) ?_
  refine lv_istore (lv' := [(5, .int (0 : Int32)), (1, .ref (bT 0)), (2, .int x2), (3, .ref (bP 0)), (4, .ref (gK G (x4).val))]) hx hb dX1_putNameAndValues_41 hl (by decide) rfl (fun ls hl => ?_)
  refine lv_iconst (v := (0 : Int32)) hx hb dX1_putNameAndValues_43 (by decide) ?_
  refine lv_istore (lv' := [(6, .int (0 : Int32)), (5, .int (0 : Int32)), (1, .ref (bT 0)), (2, .int x2), (3, .ref (bP 0)), (4, .ref (gK G (x4).val))]) hx hb dX1_putNameAndValues_44 hl (by decide) rfl (fun ls hl => ?_)
  refine lv_iconst (v := (0 : Int32)) hx hb dX1_putNameAndValues_46 (by decide) ?_
  refine lv_istore (lv' := [(7, .int (0 : Int32)), (6, .int (0 : Int32)), (5, .int (0 : Int32)), (1, .ref (bT 0)), (2, .int x2), (3, .ref (bP 0)), (4, .ref (gK G (x4).val))]) hx hb dX1_putNameAndValues_47 hl (by decide) rfl (fun ls hl => ?_)
  exact wx_X1_putNameAndValues_B_49 C hK hA hT FU uP x2 x4 (0 : Int32) (0 : Int32) (0 : Int32) hf hP hD hS (lv_sub hl [3, 4, 5, 6, 2, 1, 0] rfl)
def fx_X1_putNameAndValues_B (uT : Md) (uP : Md) (x2 : Int32) : Option Md := ((fx_X7_kindOf uT x2).bind fun r_2 => ((fx_X5_putTitle uP (kTitle r_2)).bind fun u_4 => (if r_2 = (0 : Fin 10) then ((fx_X5_put u_4 (32 : Int32)).bind fun u_7 => ((fx_X5_putNumber u_7 (7 : Fin 8) (3 : Int64)).bind fun u_9 => (fx_X1_putNameAndValues_B_40 uT u_9 x2 r_2))) else (fx_X1_putNameAndValues_B_40 uT u_4 x2 r_2))))
set_option maxHeartbeats 4000000 in
set_option maxRecDepth 100000 in
theorem cx_X1_putNameAndValues_B (l : Launch) (G : Gx) (bF : Nat → Nat) (bT : Nat → Nat) (bP : Nat → Nat) (uT : Md) (uP : Md) (x2 : Int32)  (vP : Md) (sz : Nat) (hf : fx_X1_putNameAndValues_B uT uP x2 = some vP) : Met l yX1_putNameAndValues wsx_X1_putNameAndValues_B rmx_X1_putNameAndValues_B (pX G (cF 1 bF ++ cT G bT uT ++ cP G bP uP) sz [.ref (bF 0), .ref (bT 0), .int x2, .ref (bP 0)]) (qW none (cF 1 bF ++ cT G bT uT ++ cP G bP vP) (gD G) (tyG G) (va_A (cF 1 bF ++ cT G bT uT ++ cP G bP uP) sz)) 0 0 (va_A (cF 1 bF ++ cT G bT uT ++ cP G bP uP) sz) := by
  refine mx_w (cc := cX1_putNameAndValues) (maxL := 9) (ret := none) (by decide) rfl (Nat.le_of_ble_eq_true rfl) ?_
  intro p e s m below meth c ls A C hl hK hA hT hP hD hS
  have hl : lv_has ls 9 [(0, .ref (bF 0)), (1, .ref (bT 0)), (2, .int x2), (3, .ref (bP 0))] := hl
  have hx := C.1.1
  have hb := C.1.2.1
  have hts := C.1.2.2.2.2
  have hown := C.1.2.2.2.1
  have hin7 : ∀ w ∈ wsX70, w ∈ wsx_X1_putNameAndValues_B := fun w h => List.mem_cons_of_mem _ (List.mem_append_right _ (List.mem_append_right _ (List.mem_append_right _ (List.mem_append_left _ h))))
  have hin5 : ∀ w ∈ wsX50, w ∈ wsx_X1_putNameAndValues_B := fun w h => List.mem_cons_of_mem _ (List.mem_append_right _ (List.mem_append_left _ h))
  unfold fx_X1_putNameAndValues_B at hf
  refine lv_aload_n hx hb dX1_putNameAndValues_0 rfl (lv_at hl 1 rfl) ?_
  refine lv_iload_n hx hb dX1_putNameAndValues_1 rfl (lv_at hl 2 rfl) ?_
  obtain ⟨r_2, h_1, hf⟩ := og_b hf
  try dsimp only at hf
  refine xr_V (v := .ref (gK G (r_2).val)) (rest := []) (w0 := (cT G bT uT)) C (cx_X7_kindOf l G bT uT x2 r_2 _ h_1) (cwV 1 hts gx_X1_X7_kindOf_36 rfl rfl rfl hdx_X7_kindOf ⟨Nat.le_of_ble_eq_true rfl, Nat.le_of_ble_eq_true rfl⟩) hK hA hT hP hD hS (va_recv hK hP (ci := 4) (q0 := 1) rfl rfl) [1, 2, 3, 4, 5, 6, 7, 8, 9, 10, 11, 12, 13] rfl rfl rfl hl.1 rfl (Nat.le_of_ble_eq_true rfl) dX1_putNameAndValues_2 ?_
  refine lv_astore (lv' := [(4, .ref (gK G (r_2).val)), (0, .ref (bF 0)), (1, .ref (bT 0)), (2, .int x2), (3, .ref (bP 0))]) hx hb dX1_putNameAndValues_5 hl (by decide) rfl (fun ls hl => ?_)
  refine lv_aload_n hx hb dX1_putNameAndValues_7 rfl (lv_at hl 4 rfl) ?_
  refine lv_aload hx hb dX1_putNameAndValues_8 (lv_at hl 0 rfl) ?_
  refine xoN (v := .ref (gS G ((kTitle r_2)).val)) (host := "SchematicText") C hT (hT.1.2.2.2.2.2.1 (r_2).val (r_2).isLt) hS (by decide +kernel) dX1_putNameAndValues_10 ?_
  obtain ⟨u_4, h_3, hf⟩ := og_b hf
  try dsimp only at hf
  refine xw_V (ov := none) (st1 := []) (rest := []) (w0 := (cP G bP uP)) (w1 := (cP G bP u_4)) (wr := (cF 1 bF ++ cT G bT uT)) (w' := (cF 1 bF ++ cT G bT uT ++ cP G bP u_4)) C (cx_X5_putTitle l G bP uP (kTitle r_2) u_4 _ h_3) (cwV 1 hts gx_X1_X5_putTitle_96 rfl rfl rfl hdx_X5_putTitle ⟨Nat.le_of_ble_eq_true rfl, Nat.le_of_ble_eq_true rfl⟩) hK hA hT hP hD hS (va_recv hK hP (ci := 2) (q0 := 14) rfl rfl) [14, 15] [0, 1, 2, 3, 4, 5, 6, 7, 8, 9, 10, 11, 12, 13] [0, 1, 2, 3, 4, 5, 6, 7, 8, 9, 10, 11, 12, 13, 14, 15] rfl rfl rfl rfl (by decide) rfl rfl rfl hl.1 rfl rfl (Nat.le_of_ble_eq_true rfl) dX1_putNameAndValues_13 (fun H locs hP hD hS => ?_)
  refine lv_aload hx hb dX1_putNameAndValues_16 (lv_at hl 0 rfl) ?_
  refine xK (i := (0 : Fin 10)) C hT hS (hts (Cond.fieldLink RX1 40 "SchematicText$Kind" "DESIGN" "LSchematicText$Kind;") (List.mem_cons_of_mem _ mx_193)) dX1_putNameAndValues_18 ?_
  refine xa_ne (i := r_2) (j := (0 : Fin 10)) (tgt := 40) C hT dX1_putNameAndValues_21 (by decide) (fun c_5 => ?_) (fun c_5 => ?_)
  · replace hf := og_f c_5 hf
    exact wx_X1_putNameAndValues_B_40 C hK hA hT u_4 x2 r_2 hf hP hD hS (lv_sub hl [2, 3, 4, 0] rfl)
  · replace hf := og_t c_5 hf
    refine lv_aload_n hx hb dX1_putNameAndValues_24 rfl (lv_at hl 4 rfl) ?_
    refine lv_bipush (v := (32 : Int32)) hx hb dX1_putNameAndValues_25 (by decide) ?_
    obtain ⟨u_7, h_6, hf⟩ := og_b hf
    try dsimp only at hf
    refine xw_V (ov := none) (st1 := []) (rest := []) (w0 := (cP G bP u_4)) (w1 := (cP G bP u_7)) (wr := (cF 1 bF ++ cT G bT uT)) (w' := (cF 1 bF ++ cT G bT uT ++ cP G bP u_7)) C (cx_X5_put l G bP u_4 (32 : Int32) u_7 _ h_6) (cwV 1 hts gx_X1_X5_put_102 rfl rfl rfl hdx_X5_put ⟨Nat.le_of_ble_eq_true rfl, Nat.le_of_ble_eq_true rfl⟩) hK hA hT hP hD hS (va_recv hK hP (ci := 2) (q0 := 14) rfl rfl) [14, 15] [0, 1, 2, 3, 4, 5, 6, 7, 8, 9, 10, 11, 12, 13] [0, 1, 2, 3, 4, 5, 6, 7, 8, 9, 10, 11, 12, 13, 14, 15] rfl rfl rfl rfl (by decide) rfl rfl rfl hl.1 rfl rfl (Nat.le_of_ble_eq_true rfl) dX1_putNameAndValues_27 (fun H locs hP hD hS => ?_)
    refine lv_aload_n hx hb dX1_putNameAndValues_30 rfl (lv_at hl 4 rfl) ?_
    refine xF (i := (7 : Fin 8)) C hT hS (hts (Cond.fieldLink RX1 52 "SchematicText$Field" "VERSION" "LSchematicText$Field;") (List.mem_cons_of_mem _ mx_194)) dX1_putNameAndValues_31 ?_
    refine lv_ldc2 (v := (3 : Int64)) hx hb hown (hts (Cond.constantLong RX1 106 (3)) (List.mem_cons_of_mem _ mx_262)) dX1_putNameAndValues_34 ?_
    obtain ⟨u_9, h_8, hf⟩ := og_b hf
    try dsimp only at hf
    refine xw_V (ov := none) (st1 := []) (rest := []) (w0 := (cP G bP u_7)) (w1 := (cP G bP u_9)) (wr := (cF 1 bF ++ cT G bT uT)) (w' := (cF 1 bF ++ cT G bT uT ++ cP G bP u_9)) C (cx_X5_putNumber l G bP u_7 (7 : Fin 8) (3 : Int64) u_9 _ h_8) (cwV 2 hts gx_X1_X5_putNumber_108 rfl rfl rfl hdx_X5_putNumber ⟨Nat.le_of_ble_eq_true rfl, Nat.le_of_ble_eq_true rfl⟩) hK hA hT hP hD hS (va_recv hK hP (ci := 2) (q0 := 14) rfl rfl) [14, 15] [0, 1, 2, 3, 4, 5, 6, 7, 8, 9, 10, 11, 12, 13] [0, 1, 2, 3, 4, 5, 6, 7, 8, 9, 10, 11, 12, 13, 14, 15] rfl rfl rfl rfl (by decide) rfl rfl rfl hl.1 rfl rfl (Nat.le_of_ble_eq_true rfl) dX1_putNameAndValues_37 (fun H locs hP hD hS => ?_)
    exact wx_X1_putNameAndValues_B_40 C hK hA hT u_9 x2 r_2 hf hP hD hS (lv_sub hl [2, 3, 4, 0] rfl)
theorem gx_X4_X7_has_91 {c0 : Cond} : GoodIn (c0 :: WAX) (wsV RX4 91 RX7 yX7_has wsx_X7_has) := gdx_v mx_437 mx_104 mx_105 mx_99 mx_106
theorem gx_X4_X5_put_94 {c0 : Cond} : GoodIn (c0 :: WAX) (wsV RX4 94 RX5 yX5_put wsx_X5_put) := gdx_v mx_438 mx_271 mx_272 mx_266 mx_273
theorem gx_X4_X5_putTimes_100 {c0 : Cond} : GoodIn (c0 :: WAX) (wsV RX4 100 RX5 yX5_putTimes wsx_X5_putTimes) := gdx_v mx_439 mx_377 mx_378 mx_266 mx_379
theorem gx_X4_X7_follower_104 {c0 : Cond} : GoodIn (c0 :: WAX) (wsV RX4 104 RX7 yX7_follower wsx_X7_follower) := gdx_v mx_440 mx_399 mx_400 mx_99 mx_401
theorem gx_X4_X5_putKept_110 {c0 : Cond} : GoodIn (c0 :: WAX) (wsV RX4 110 RX5 yX5_putKept wsx_X5_putKept) := gdx_v mx_441 mx_381 mx_382 mx_266 mx_383
theorem gx_X4_X1_putNameAndValues_B_114 {c0 : Cond} : GoodIn (c0 :: WAX) (va_wsU RX4 114 RX4 "SchematicText$Form" ⟨"SchematicText$ListForm", "putNameAndValues", "(LSchematicText$Tree;ILSchematicText$Page;)V"⟩ yX1_putNameAndValues wsx_X1_putNameAndValues_B) := gdx_u mx_442 mx_443 mx_444 mx_396 mx_318 mx_261
abbrev rmx_X4_tell_B : Room := { frames := 6, cells := 0, slots := 0, locals := 135 }
noncomputable abbrev wsx_X4_tell_B : List Cond := Cond.code yX4_tell cX4_tell 7 none :: WAX
theorem hdx_X4_tell_B : yX4_tell.cls = RX4 ∧ yX4_tell.cls ≠ "java/lang/invoke/MethodHandle" ∧ yX4_tell.cls ≠ "java/lang/invoke/VarHandle" ∧ (parseMethodDescriptor yX4_tell.desc).map (fun d => d.parameters.length) = some 2 := by decide +kernel
theorem hdo_X4_tell_B : "SchematicText$Form" ≠ "java/lang/invoke/MethodHandle" ∧ "SchematicText$Form" ≠ "java/lang/invoke/VarHandle" ∧ (parseMethodDescriptor "(LSchematicText$Tree;LSchematicText$Page;)V").map (fun d => d.parameters.length) = some 2 := by decide +kernel
def fx_X4_tell_B_103 (uT : Md) (k5 : Md → Int32 → Int32 → Option Md) (uP : Md) (x4 : Int32) (x5 : Int32) (x6 : Int32) : Option Md := ((fx_X5_putTimes uP (41 : Int32) x6).bind fun u_30 => (k5 u_30 x5 (x4 + (1 : Int32))))
set_option maxHeartbeats 4000000 in
set_option maxRecDepth 100000 in
theorem wx_X4_tell_B_103 {p : Program} {l : Launch} {e : Env} {s : State} {m : MethodId} {args : Array Value} {below : List Frame} {meth : Method} {c : Code} {G : Gx} {A : Nat → Prop} {bF : Nat → Nat} {bT : Nat → Nat} {bP : Nat → Nat} (C : Cx p s m args meth c cX4_tell 7 wsx_X4_tell_B RX4 none) {uT : Md} (hK : va_K (gD G) vwCl (tyG G) s) (hA : ∀ q : Nat, s.heap.size ≤ q → A q) (hT : ST G A s s.heap) {r : Md} (k5 : Md → Int32 → Int32 → Option Md) (ih5 : ∀ (uP : Md) (x3 : Int32) (x4 : Int32), k5 uP x3 x4 = some r → ∀ {H : Heap} {locs : List Loc}, va_P (gD G) vwCl (cF 1 bF ++ cT G bT uT ++ cP G bP uP) H → va_D A (cF 1 bF ++ cT G bT uT ++ cP G bP uP) → va_S A s.heap H locs → ∀ {ls : Array Slot}, lv_has ls 7 [(0, .ref (bF 0)), (1, .ref (bT 0)), (2, .ref (bP 0)), (3, .int x3), (4, .int x4)] → W p l e rmx_X4_tell_B s m args below meth c H locs 0 0 (MQ below (qW none (cF 1 bF ++ cT G bT uT ++ cP G bP r) (gD G) (tyG G) A) args s 0 0 A) (F0 m 5 ls [])) : ∀ (uP : Md) (x4 : Int32) (x5 : Int32) (x6 : Int32), fx_X4_tell_B_103 uT k5 uP x4 x5 x6 = some r → ∀ {H : Heap} {locs : List Loc}, va_P (gD G) vwCl (cF 1 bF ++ cT G bT uT ++ cP G bP uP) H → va_D A (cF 1 bF ++ cT G bT uT ++ cP G bP uP) → va_S A s.heap H locs → ∀ {ls : Array Slot}, lv_has ls 7 [(0, .ref (bF 0)), (1, .ref (bT 0)), (2, .ref (bP 0)), (4, .int x4), (5, .int x5), (6, .int x6)] → W p l e rmx_X4_tell_B s m args below meth c H locs 0 0 (MQ below (qW none (cF 1 bF ++ cT G bT uT ++ cP G bP r) (gD G) (tyG G) A) args s 0 0 A) (F0 m 103 ls []) := by
  have hx := C.1.1
  have hb := C.1.2.1
  have hts := C.1.2.2.2.2
  have hown := C.1.2.2.2.1
  have hin7 : ∀ w ∈ wsX70, w ∈ wsx_X4_tell_B := fun w h => List.mem_cons_of_mem _ (List.mem_append_right _ (List.mem_append_right _ (List.mem_append_right _ (List.mem_append_left _ h))))
  have hin5 : ∀ w ∈ wsX50, w ∈ wsx_X4_tell_B := fun w h => List.mem_cons_of_mem _ (List.mem_append_right _ (List.mem_append_left _ h))
  intro uP x4 x5 x6 hf H locs hP hD hS ls hl
  unfold fx_X4_tell_B_103 at hf
  refine lv_aload_n hx hb dX4_tell_103 rfl (lv_at hl 2 rfl) ?_
  refine lv_bipush (v := (41 : Int32)) hx hb dX4_tell_104 (by decide) ?_
  refine lv_iload hx hb dX4_tell_106 (lv_at hl 5 rfl) ?_
  obtain ⟨u_30, h_29, hf⟩ := og_b hf
  try dsimp only at hf
  refine xw_V (ov := none) (st1 := []) (rest := []) (w0 := (cP G bP uP)) (w1 := (cP G bP u_30)) (wr := (cF 1 bF ++ cT G bT uT)) (w' := (cF 1 bF ++ cT G bT uT ++ cP G bP u_30)) C (cx_X5_putTimes l G bP uP (41 : Int32) x6 u_30 _ h_29) (cwV 2 hts gx_X4_X5_putTimes_100 rfl rfl rfl hdx_X5_putTimes ⟨Nat.le_of_ble_eq_true rfl, Nat.le_of_ble_eq_true rfl⟩) hK hA hT hP hD hS (va_recv hK hP (ci := 2) (q0 := 14) rfl rfl) [14, 15] [0, 1, 2, 3, 4, 5, 6, 7, 8, 9, 10, 11, 12, 13] [0, 1, 2, 3, 4, 5, 6, 7, 8, 9, 10, 11, 12, 13, 14, 15] rfl rfl rfl rfl (by decide) rfl rfl rfl hl.1 rfl rfl (Nat.le_of_ble_eq_true rfl) dX4_tell_108 (fun H locs hP hD hS => ?_)
  refine lv_iload hx hb dX4_tell_111 (lv_at hl 4 rfl) ?_
  refine lv_istore_n (lv' := [(3, .int x5), (0, .ref (bF 0)), (1, .ref (bT 0)), (2, .ref (bP 0)), (4, .int x4), (5, .int x5), (6, .int x6)]) hx hb dX4_tell_113 rfl hl (by decide) rfl (fun ls hl => ?_)
  refine lv_iinc (v := (x4 + (1 : Int32))) (lv' := [(4, .int (x4 + (1 : Int32))), (3, .int x5), (0, .ref (bF 0)), (1, .ref (bT 0)), (2, .ref (bP 0)), (5, .int x5), (6, .int x6)]) hx hb dX4_tell_114 hl (k := 4) rfl rfl (by decide) rfl (fun ls hl => ?_)
  refine lv_goto (tgt := 5) hx hb dX4_tell_117 (by decide) ?_
  exact ih5 u_30 x5 (x4 + (1 : Int32)) hf hP hD hS (lv_sub hl [2, 3, 4, 1, 0] rfl)
def fx_X4_tell_B_42 (uT : Md) (k5 : Md → Int32 → Int32 → Option Md) (uP : Md) (x3 : Int32) (x4 : Int32) : Option Md := ((fx_X7_follower uT x3).bind fun r_15 => ((fx_X7_depthOf uT x3).bind fun r_17 => ((fx_X7_depthOf uT r_15).bind fun r_19 => ((fx_X7_kindOf uT x3).bind fun r_21 => (if r_21 = (9 : Fin 10) then ((fx_X5_putKept uT uP x3).bind fun u_28 => (fx_X4_tell_B_103 uT k5 u_28 x4 r_15 (r_17 - (if r_19 < (0 : Int32) then (0 : Int32) else r_19)))) else ((fx_X5_put uP (40 : Int32)).bind fun u_24 => ((fx_X1_putNameAndValues_B uT u_24 x3).bind fun u_26 => (fx_X4_tell_B_103 uT k5 u_26 x4 r_15 ((r_17 - (if r_19 < (0 : Int32) then (0 : Int32) else r_19)) + (1 : Int32))))))))))
set_option maxHeartbeats 4000000 in
set_option maxRecDepth 100000 in
theorem wx_X4_tell_B_42 {p : Program} {l : Launch} {e : Env} {s : State} {m : MethodId} {args : Array Value} {below : List Frame} {meth : Method} {c : Code} {G : Gx} {A : Nat → Prop} {bF : Nat → Nat} {bT : Nat → Nat} {bP : Nat → Nat} (C : Cx p s m args meth c cX4_tell 7 wsx_X4_tell_B RX4 none) {uT : Md} (hK : va_K (gD G) vwCl (tyG G) s) (hA : ∀ q : Nat, s.heap.size ≤ q → A q) (hT : ST G A s s.heap) {r : Md} (k5 : Md → Int32 → Int32 → Option Md) (ih5 : ∀ (uP : Md) (x3 : Int32) (x4 : Int32), k5 uP x3 x4 = some r → ∀ {H : Heap} {locs : List Loc}, va_P (gD G) vwCl (cF 1 bF ++ cT G bT uT ++ cP G bP uP) H → va_D A (cF 1 bF ++ cT G bT uT ++ cP G bP uP) → va_S A s.heap H locs → ∀ {ls : Array Slot}, lv_has ls 7 [(0, .ref (bF 0)), (1, .ref (bT 0)), (2, .ref (bP 0)), (3, .int x3), (4, .int x4)] → W p l e rmx_X4_tell_B s m args below meth c H locs 0 0 (MQ below (qW none (cF 1 bF ++ cT G bT uT ++ cP G bP r) (gD G) (tyG G) A) args s 0 0 A) (F0 m 5 ls [])) : ∀ (uP : Md) (x3 : Int32) (x4 : Int32), fx_X4_tell_B_42 uT k5 uP x3 x4 = some r → ∀ {H : Heap} {locs : List Loc}, va_P (gD G) vwCl (cF 1 bF ++ cT G bT uT ++ cP G bP uP) H → va_D A (cF 1 bF ++ cT G bT uT ++ cP G bP uP) → va_S A s.heap H locs → ∀ {ls : Array Slot}, lv_has ls 7 [(0, .ref (bF 0)), (1, .ref (bT 0)), (2, .ref (bP 0)), (3, .int x3), (4, .int x4)] → W p l e rmx_X4_tell_B s m args below meth c H locs 0 0 (MQ below (qW none (cF 1 bF ++ cT G bT uT ++ cP G bP r) (gD G) (tyG G) A) args s 0 0 A) (F0 m 42 ls []) := by
  have hx := C.1.1
  have hb := C.1.2.1
  have hts := C.1.2.2.2.2
  have hown := C.1.2.2.2.1
  have hin7 : ∀ w ∈ wsX70, w ∈ wsx_X4_tell_B := fun w h => List.mem_cons_of_mem _ (List.mem_append_right _ (List.mem_append_right _ (List.mem_append_right _ (List.mem_append_left _ h))))
  have hin5 : ∀ w ∈ wsX50, w ∈ wsx_X4_tell_B := fun w h => List.mem_cons_of_mem _ (List.mem_append_right _ (List.mem_append_left _ h))
  intro uP x3 x4 hf H locs hP hD hS ls hl
  unfold fx_X4_tell_B_42 at hf
  refine lv_aload_n hx hb dX4_tell_42 rfl (lv_at hl 1 rfl) ?_
  refine lv_iload_n hx hb dX4_tell_43 rfl (lv_at hl 3 rfl) ?_
  obtain ⟨r_15, h_14, hf⟩ := og_b hf
  try dsimp only at hf
  refine xr_V (v := .int r_15) (rest := []) (w0 := (cT G bT uT)) C (cx_X7_follower l G bT uT x3 r_15 _ h_14) (cwV 1 hts gx_X4_X7_follower_104 rfl rfl rfl hdx_X7_follower ⟨Nat.le_of_ble_eq_true rfl, Nat.le_of_ble_eq_true rfl⟩) hK hA hT hP hD hS (va_recv hK hP (ci := 4) (q0 := 1) rfl rfl) [1, 2, 3, 4, 5, 6, 7, 8, 9, 10, 11, 12, 13] rfl rfl rfl hl.1 rfl (Nat.le_of_ble_eq_true rfl) dX4_tell_44 ?_
  refine lv_istore (lv' := [(5, .int r_15), (0, .ref (bF 0)), (1, .ref (bT 0)), (2, .ref (bP 0)), (3, .int x3), (4, .int x4)]) hx hb dX4_tell_47 hl (by decide) rfl (fun ls hl => ?_)
  refine lv_aload_n hx hb dX4_tell_49 rfl (lv_at hl 2 rfl) ?_
  refine lv_iload_n hx hb dX4_tell_50 rfl (lv_at hl 4 rfl) ?_
  obtain ⟨r_17, h_16, hf⟩ := og_b hf
  try dsimp only at hf
  refine xr_V (v := .int r_17) (rest := []) (w0 := (cT G bT uT)) C (cx_X7_depthOf l G bT uT x3 r_17 _ h_16) (cwV 1 hts gx_X4_X7_depthOf_48 rfl rfl rfl hdx_X7_depthOf ⟨Nat.le_of_ble_eq_true rfl, Nat.le_of_ble_eq_true rfl⟩) hK hA hT hP hD hS (va_recv hK hP (ci := 4) (q0 := 1) rfl rfl) [1, 2, 3, 4, 5, 6, 7, 8, 9, 10, 11, 12, 13] rfl rfl rfl hl.1 rfl (Nat.le_of_ble_eq_true rfl) dX4_tell_51 ?_
  refine lv_aload_n hx hb dX4_tell_54 rfl (lv_at hl 2 rfl) ?_
  refine lv_iload hx hb dX4_tell_55 (lv_at hl 0 rfl) ?_
  obtain ⟨r_19, h_18, hf⟩ := og_b hf
  try dsimp only at hf
  refine xr_V (v := .int r_19) (rest := [.int r_17]) (w0 := (cT G bT uT)) C (cx_X7_depthOf l G bT uT r_15 r_19 _ h_18) (cwV 1 hts gx_X4_X7_depthOf_48 rfl rfl rfl hdx_X7_depthOf ⟨Nat.le_of_ble_eq_true rfl, Nat.le_of_ble_eq_true rfl⟩) hK hA hT hP hD hS (va_recv hK hP (ci := 4) (q0 := 1) rfl rfl) [1, 2, 3, 4, 5, 6, 7, 8, 9, 10, 11, 12, 13] rfl rfl rfl hl.1 rfl (Nat.le_of_ble_eq_true rfl) dX4_tell_57 ?_
  refine lv_iconst (v := (0 : Int32)) hx hb dX4_tell_60 (by decide) ?_
  refine va_mmax (rest := [.int r_17]) hx hb (C.1.2.2.1.trans hl.1.symm) hown (hts (Cond.methodLink RX4 107 Lib.Math.max.name) (List.mem_cons_of_mem _ mx_436)) (hts (Cond.static Lib.Math.max.name) (List.mem_cons_of_mem _ mx_132)) (hts (Cond.initialized "java/lang/Math") (List.mem_cons_of_mem _ mx_133)) (hts (Cond.code Lib.Math.max.name Lib.Math.max.code 2 (some .int)) (List.mem_cons_of_mem _ mx_134)) (Nat.le_of_ble_eq_true rfl) (Nat.le_of_ble_eq_true rfl) (Nat.zero_le _) (Nat.zero_le _) dX4_tell_61 ?_
  refine lv_isub hx hb dX4_tell_64 ?_
  refine lv_istore (lv' := [(6, .int (r_17 - (if r_19 < (0 : Int32) then (0 : Int32) else r_19))), (5, .int r_15), (0, .ref (bF 0)), (1, .ref (bT 0)), (2, .ref (bP 0)), (3, .int x3), (4, .int x4)]) hx hb dX4_tell_65 hl (by decide) rfl (fun ls hl => ?_)
  refine lv_aload_n hx hb dX4_tell_67 rfl (lv_at hl 3 rfl) ?_
  refine lv_iload_n hx hb dX4_tell_68 rfl (lv_at hl 5 rfl) ?_
  obtain ⟨r_21, h_20, hf⟩ := og_b hf
  try dsimp only at hf
  refine xr_V (v := .ref (gK G (r_21).val)) (rest := []) (w0 := (cT G bT uT)) C (cx_X7_kindOf l G bT uT x3 r_21 _ h_20) (cwV 1 hts gx_X4_X7_kindOf_54 rfl rfl rfl hdx_X7_kindOf ⟨Nat.le_of_ble_eq_true rfl, Nat.le_of_ble_eq_true rfl⟩) hK hA hT hP hD hS (va_recv hK hP (ci := 4) (q0 := 1) rfl rfl) [1, 2, 3, 4, 5, 6, 7, 8, 9, 10, 11, 12, 13] rfl rfl rfl hl.1 rfl (Nat.le_of_ble_eq_true rfl) dX4_tell_69 ?_
  refine xK (i := (9 : Fin 10)) C hT hS (hts (Cond.fieldLink RX4 58 "SchematicText$Kind" "UNKNOWN" "LSchematicText$Kind;") (List.mem_cons_of_mem _ mx_409)) dX4_tell_72 ?_
  refine xa_ne (i := r_21) (j := (9 : Fin 10)) (tgt := 87) C hT dX4_tell_75 (by decide) (fun c_22 => ?_) (fun c_22 => ?_)
  · replace hf := og_f c_22 hf
    refine lv_aload_n hx hb dX4_tell_87 rfl (lv_at hl 4 rfl) ?_
    refine lv_bipush (v := (40 : Int32)) hx hb dX4_tell_88 (by decide) ?_
    obtain ⟨u_24, h_23, hf⟩ := og_b hf
    try dsimp only at hf
    refine xw_V (ov := none) (st1 := []) (rest := []) (w0 := (cP G bP uP)) (w1 := (cP G bP u_24)) (wr := (cF 1 bF ++ cT G bT uT)) (w' := (cF 1 bF ++ cT G bT uT ++ cP G bP u_24)) C (cx_X5_put l G bP uP (40 : Int32) u_24 _ h_23) (cwV 1 hts gx_X4_X5_put_94 rfl rfl rfl hdx_X5_put ⟨Nat.le_of_ble_eq_true rfl, Nat.le_of_ble_eq_true rfl⟩) hK hA hT hP hD hS (va_recv hK hP (ci := 2) (q0 := 14) rfl rfl) [14, 15] [0, 1, 2, 3, 4, 5, 6, 7, 8, 9, 10, 11, 12, 13] [0, 1, 2, 3, 4, 5, 6, 7, 8, 9, 10, 11, 12, 13, 14, 15] rfl rfl rfl rfl (by decide) rfl rfl rfl hl.1 rfl rfl (Nat.le_of_ble_eq_true rfl) dX4_tell_90 (fun H locs hP hD hS => ?_)
    refine lv_aload_n hx hb dX4_tell_93 rfl (lv_at hl 2 rfl) ?_
    refine lv_aload_n hx hb dX4_tell_94 rfl (lv_at hl 3 rfl) ?_
    refine lv_iload_n hx hb dX4_tell_95 rfl (lv_at hl 5 rfl) ?_
    refine lv_aload_n hx hb dX4_tell_96 rfl (lv_at hl 4 rfl) ?_
    obtain ⟨u_26, h_25, hf⟩ := og_b hf
    try dsimp only at hf
    refine xw_U (ov := none) (st1 := []) (rest := []) (w0 := (cF 1 bF ++ cT G bT uT ++ cP G bP u_24)) (w1 := (cF 1 bF ++ cT G bT uT ++ cP G bP u_26)) (wr := ([])) (w' := (cF 1 bF ++ cT G bT uT ++ cP G bP u_26)) C (cx_X1_putNameAndValues_B l G bF bT bP uT u_24 x3 u_26 _ h_25) (va_cwU 3 hts gx_X4_X1_putNameAndValues_B_114 rfl rfl rfl rfl hdo_X1_putNameAndValues_B ⟨Nat.le_of_ble_eq_true rfl, Nat.le_of_ble_eq_true rfl⟩) hK hA hT hP hD hS (va_recv hK hP (ci := 1) (q0 := 0) rfl rfl) [0, 1, 2, 3, 4, 5, 6, 7, 8, 9, 10, 11, 12, 13, 14, 15] [] [0, 1, 2, 3, 4, 5, 6, 7, 8, 9, 10, 11, 12, 13, 14, 15] rfl rfl rfl rfl (by decide) rfl rfl rfl hl.1 rfl rfl (Nat.le_of_ble_eq_true rfl) dX4_tell_97 (fun H locs hP hD hS => ?_)
    refine lv_iinc (v := ((r_17 - (if r_19 < (0 : Int32) then (0 : Int32) else r_19)) + (1 : Int32))) (lv' := [(6, .int ((r_17 - (if r_19 < (0 : Int32) then (0 : Int32) else r_19)) + (1 : Int32))), (5, .int r_15), (0, .ref (bF 0)), (1, .ref (bT 0)), (2, .ref (bP 0)), (3, .int x3), (4, .int x4)]) hx hb dX4_tell_100 hl (k := 0) rfl rfl (by decide) rfl (fun ls hl => ?_)
    exact wx_X4_tell_B_103 C hK hA hT k5 (fun _ _ _ h9 => ih5 _ _ _ h9) u_26 x4 r_15 ((r_17 - (if r_19 < (0 : Int32) then (0 : Int32) else r_19)) + (1 : Int32)) hf hP hD hS (lv_sub hl [2, 3, 4, 6, 1, 0] rfl)
  · replace hf := og_t c_22 hf
    refine lv_aload_n hx hb dX4_tell_78 rfl (lv_at hl 4 rfl) ?_
    refine lv_aload_n hx hb dX4_tell_79 rfl (lv_at hl 3 rfl) ?_
    refine lv_iload_n hx hb dX4_tell_80 rfl (lv_at hl 5 rfl) ?_
    obtain ⟨u_28, h_27, hf⟩ := og_b hf
    try dsimp only at hf
    refine xw_V (ov := none) (st1 := []) (rest := []) (w0 := (cT G bT uT ++ cP G bP uP)) (w1 := (cT G bT uT ++ cP G bP u_28)) (wr := (cF 1 bF)) (w' := (cF 1 bF ++ cT G bT uT ++ cP G bP u_28)) C (cx_X5_putKept l G bT bP uT uP x3 u_28 _ h_27) (cwV 2 hts gx_X4_X5_putKept_110 rfl rfl rfl hdx_X5_putKept ⟨Nat.le_of_ble_eq_true rfl, Nat.le_of_ble_eq_true rfl⟩) hK hA hT hP hD hS (va_recv hK hP (ci := 2) (q0 := 14) rfl rfl) [1, 2, 3, 4, 5, 6, 7, 8, 9, 10, 11, 12, 13, 14, 15] [0] [0, 1, 2, 3, 4, 5, 6, 7, 8, 9, 10, 11, 12, 13, 14, 15] rfl rfl rfl rfl (by decide) rfl rfl rfl hl.1 rfl rfl (Nat.le_of_ble_eq_true rfl) dX4_tell_81 (fun H locs hP hD hS => ?_)
    refine lv_goto (tgt := 103) hx hb dX4_tell_84 (by decide) ?_
    exact wx_X4_tell_B_103 C hK hA hT k5 (fun _ _ _ h9 => ih5 _ _ _ h9) u_28 x4 r_15 (r_17 - (if r_19 < (0 : Int32) then (0 : Int32) else r_19)) hf hP hD hS (lv_sub hl [2, 3, 4, 6, 1, 0] rfl)
def fx_X4_tell_B_120 (uT : Md) (uP : Md) : Option Md := ((fx_X5_put uP (10 : Int32)).bind fun u_13 => (some u_13))
set_option maxHeartbeats 4000000 in
set_option maxRecDepth 100000 in
theorem wx_X4_tell_B_120 {p : Program} {l : Launch} {e : Env} {s : State} {m : MethodId} {args : Array Value} {below : List Frame} {meth : Method} {c : Code} {G : Gx} {A : Nat → Prop} {bF : Nat → Nat} {bT : Nat → Nat} {bP : Nat → Nat} (C : Cx p s m args meth c cX4_tell 7 wsx_X4_tell_B RX4 none) {uT : Md} (hK : va_K (gD G) vwCl (tyG G) s) (hA : ∀ q : Nat, s.heap.size ≤ q → A q) (hT : ST G A s s.heap) {r : Md} : ∀ (uP : Md), fx_X4_tell_B_120 uT uP = some r → ∀ {H : Heap} {locs : List Loc}, va_P (gD G) vwCl (cF 1 bF ++ cT G bT uT ++ cP G bP uP) H → va_D A (cF 1 bF ++ cT G bT uT ++ cP G bP uP) → va_S A s.heap H locs → ∀ {ls : Array Slot}, lv_has ls 7 [(2, .ref (bP 0))] → W p l e rmx_X4_tell_B s m args below meth c H locs 0 0 (MQ below (qW none (cF 1 bF ++ cT G bT uT ++ cP G bP r) (gD G) (tyG G) A) args s 0 0 A) (F0 m 120 ls []) := by
  have hx := C.1.1
  have hb := C.1.2.1
  have hts := C.1.2.2.2.2
  have hown := C.1.2.2.2.1
  have hin7 : ∀ w ∈ wsX70, w ∈ wsx_X4_tell_B := fun w h => List.mem_cons_of_mem _ (List.mem_append_right _ (List.mem_append_right _ (List.mem_append_right _ (List.mem_append_left _ h))))
  have hin5 : ∀ w ∈ wsX50, w ∈ wsx_X4_tell_B := fun w h => List.mem_cons_of_mem _ (List.mem_append_right _ (List.mem_append_left _ h))
  intro uP hf H locs hP hD hS ls hl
  unfold fx_X4_tell_B_120 at hf
  refine lv_aload_n hx hb dX4_tell_120 rfl (lv_at hl 0 rfl) ?_
  refine lv_bipush (v := (10 : Int32)) hx hb dX4_tell_121 (by decide) ?_
  obtain ⟨u_13, h_12, hf⟩ := og_b hf
  try dsimp only at hf
  refine xw_V (ov := none) (st1 := []) (rest := []) (w0 := (cP G bP uP)) (w1 := (cP G bP u_13)) (wr := (cF 1 bF ++ cT G bT uT)) (w' := (cF 1 bF ++ cT G bT uT ++ cP G bP u_13)) C (cx_X5_put l G bP uP (10 : Int32) u_13 _ h_12) (cwV 1 hts gx_X4_X5_put_94 rfl rfl rfl hdx_X5_put ⟨Nat.le_of_ble_eq_true rfl, Nat.le_of_ble_eq_true rfl⟩) hK hA hT hP hD hS (va_recv hK hP (ci := 2) (q0 := 14) rfl rfl) [14, 15] [0, 1, 2, 3, 4, 5, 6, 7, 8, 9, 10, 11, 12, 13] [0, 1, 2, 3, 4, 5, 6, 7, 8, 9, 10, 11, 12, 13, 14, 15] rfl rfl rfl rfl (by decide) rfl rfl rfl hl.1 rfl rfl (Nat.le_of_ble_eq_true rfl) dX4_tell_123 (fun H locs hP hD hS => ?_)
  obtain rfl := og_s hf
  exact rw_v C hK hP hD hS dX4_tell_126
def fx_X4_tell_B_5 (uT : Md) : Nat → Md → Int32 → Int32 → Option Md
  | 0, _, _, _ => none
  | n + 1, uP, x3, x4 => (if (200 : Int32) ≤ x4 then (fx_X4_tell_B_120 uT uP) else ((fx_X7_has uT x3).bind fun r_3 => (if r_3 = 0 then (fx_X4_tell_B_120 uT uP) else (if x3 ≤ 0 then (fx_X4_tell_B_42 uT (fx_X4_tell_B_5 uT n) uP x3 x4) else ((fx_X5_put uP (10 : Int32)).bind fun u_7 => ((fx_X7_depthOf uT x3).bind fun r_9 => ((fx_X5_putTimes u_7 (32 : Int32) r_9).bind fun u_11 => (fx_X4_tell_B_42 uT (fx_X4_tell_B_5 uT n) u_11 x3 x4))))))))
set_option maxHeartbeats 4000000 in
set_option maxRecDepth 100000 in
theorem wx_X4_tell_B_5 {p : Program} {l : Launch} {e : Env} {s : State} {m : MethodId} {args : Array Value} {below : List Frame} {meth : Method} {c : Code} {G : Gx} {A : Nat → Prop} {bF : Nat → Nat} {bT : Nat → Nat} {bP : Nat → Nat} (C : Cx p s m args meth c cX4_tell 7 wsx_X4_tell_B RX4 none) {uT : Md} (hK : va_K (gD G) vwCl (tyG G) s) (hA : ∀ q : Nat, s.heap.size ≤ q → A q) (hT : ST G A s s.heap) {r : Md} : ∀ (n : Nat), ∀ (uP : Md) (x3 : Int32) (x4 : Int32), fx_X4_tell_B_5 uT n uP x3 x4 = some r → ∀ {H : Heap} {locs : List Loc}, va_P (gD G) vwCl (cF 1 bF ++ cT G bT uT ++ cP G bP uP) H → va_D A (cF 1 bF ++ cT G bT uT ++ cP G bP uP) → va_S A s.heap H locs → ∀ {ls : Array Slot}, lv_has ls 7 [(0, .ref (bF 0)), (1, .ref (bT 0)), (2, .ref (bP 0)), (3, .int x3), (4, .int x4)] → W p l e rmx_X4_tell_B s m args below meth c H locs 0 0 (MQ below (qW none (cF 1 bF ++ cT G bT uT ++ cP G bP r) (gD G) (tyG G) A) args s 0 0 A) (F0 m 5 ls []) := by
  have hx := C.1.1
  have hb := C.1.2.1
  have hts := C.1.2.2.2.2
  have hown := C.1.2.2.2.1
  have hin7 : ∀ w ∈ wsX70, w ∈ wsx_X4_tell_B := fun w h => List.mem_cons_of_mem _ (List.mem_append_right _ (List.mem_append_right _ (List.mem_append_right _ (List.mem_append_left _ h))))
  have hin5 : ∀ w ∈ wsX50, w ∈ wsx_X4_tell_B := fun w h => List.mem_cons_of_mem _ (List.mem_append_right _ (List.mem_append_left _ h))
  intro n
  induction n with
  | zero =>
    intro uP x3 x4 hf H locs hP hD hS ls hl
    cases hf
  | succ n ih =>
    intro uP x3 x4 hf H locs hP hD hS ls hl
    rw [fx_X4_tell_B_5] at hf
    refine lv_iload hx hb dX4_tell_5 (lv_at hl 4 rfl) ?_
    refine lv_sipush (v := (200 : Int32)) hx hb dX4_tell_7 (by decide) ?_
    refine lv_icmp_ge (tgt := 120) hx hb dX4_tell_10 (by decide) (fun c_1 => ?_) (fun c_1 => ?_)
    · replace hf := og_t c_1 hf
      exact wx_X4_tell_B_120 C hK hA hT uP hf hP hD hS (lv_sub hl [2] rfl)
    · replace hf := og_f c_1 hf
      refine lv_aload_n hx hb dX4_tell_13 rfl (lv_at hl 1 rfl) ?_
      refine lv_iload_n hx hb dX4_tell_14 rfl (lv_at hl 3 rfl) ?_
      obtain ⟨r_3, h_2, hf⟩ := og_b hf
      try dsimp only at hf
      refine xr_V (v := .int r_3) (rest := []) (w0 := (cT G bT uT)) C (cx_X7_has l G bT uT x3 r_3 _ h_2) (cwV 1 hts gx_X4_X7_has_91 rfl rfl rfl hdx_X7_has ⟨Nat.le_of_ble_eq_true rfl, Nat.le_of_ble_eq_true rfl⟩) hK hA hT hP hD hS (va_recv hK hP (ci := 4) (q0 := 1) rfl rfl) [1, 2, 3, 4, 5, 6, 7, 8, 9, 10, 11, 12, 13] rfl rfl rfl hl.1 rfl (Nat.le_of_ble_eq_true rfl) dX4_tell_15 ?_
      refine lv_if_eq (tgt := 120) hx hb dX4_tell_18 (by decide) (fun c_4 => ?_) (fun c_4 => ?_)
      · replace hf := og_t c_4 hf
        exact wx_X4_tell_B_120 C hK hA hT uP hf hP hD hS (lv_sub hl [2] rfl)
      · replace hf := og_f c_4 hf
        refine lv_iload_n hx hb dX4_tell_21 rfl (lv_at hl 3 rfl) ?_
        refine lv_if_le (tgt := 42) hx hb dX4_tell_22 (by decide) (fun c_5 => ?_) (fun c_5 => ?_)
        · replace hf := og_t c_5 hf
          exact wx_X4_tell_B_42 C hK hA hT (fx_X4_tell_B_5 uT n) (fun _ _ _ h9 => ih _ _ _ h9) uP x3 x4 hf hP hD hS (lv_sub hl [0, 1, 2, 3, 4] rfl)
        · replace hf := og_f c_5 hf
          refine lv_aload_n hx hb dX4_tell_25 rfl (lv_at hl 2 rfl) ?_
          refine lv_bipush (v := (10 : Int32)) hx hb dX4_tell_26 (by decide) ?_
          obtain ⟨u_7, h_6, hf⟩ := og_b hf
          try dsimp only at hf
          refine xw_V (ov := none) (st1 := []) (rest := []) (w0 := (cP G bP uP)) (w1 := (cP G bP u_7)) (wr := (cF 1 bF ++ cT G bT uT)) (w' := (cF 1 bF ++ cT G bT uT ++ cP G bP u_7)) C (cx_X5_put l G bP uP (10 : Int32) u_7 _ h_6) (cwV 1 hts gx_X4_X5_put_94 rfl rfl rfl hdx_X5_put ⟨Nat.le_of_ble_eq_true rfl, Nat.le_of_ble_eq_true rfl⟩) hK hA hT hP hD hS (va_recv hK hP (ci := 2) (q0 := 14) rfl rfl) [14, 15] [0, 1, 2, 3, 4, 5, 6, 7, 8, 9, 10, 11, 12, 13] [0, 1, 2, 3, 4, 5, 6, 7, 8, 9, 10, 11, 12, 13, 14, 15] rfl rfl rfl rfl (by decide) rfl rfl rfl hl.1 rfl rfl (Nat.le_of_ble_eq_true rfl) dX4_tell_28 (fun H locs hP hD hS => ?_)
          refine lv_aload_n hx hb dX4_tell_31 rfl (lv_at hl 2 rfl) ?_
          refine lv_bipush (v := (32 : Int32)) hx hb dX4_tell_32 (by decide) ?_
          refine lv_aload_n hx hb dX4_tell_34 rfl (lv_at hl 1 rfl) ?_
          refine lv_iload_n hx hb dX4_tell_35 rfl (lv_at hl 3 rfl) ?_
          obtain ⟨r_9, h_8, hf⟩ := og_b hf
          try dsimp only at hf
          refine xr_V (v := .int r_9) (rest := [.int (32 : Int32), .ref (bP 0)]) (w0 := (cT G bT uT)) C (cx_X7_depthOf l G bT uT x3 r_9 _ h_8) (cwV 1 hts gx_X4_X7_depthOf_48 rfl rfl rfl hdx_X7_depthOf ⟨Nat.le_of_ble_eq_true rfl, Nat.le_of_ble_eq_true rfl⟩) hK hA hT hP hD hS (va_recv hK hP (ci := 4) (q0 := 1) rfl rfl) [1, 2, 3, 4, 5, 6, 7, 8, 9, 10, 11, 12, 13] rfl rfl rfl hl.1 rfl (Nat.le_of_ble_eq_true rfl) dX4_tell_36 ?_
          obtain ⟨u_11, h_10, hf⟩ := og_b hf
          try dsimp only at hf
          refine xw_V (ov := none) (st1 := []) (rest := []) (w0 := (cP G bP u_7)) (w1 := (cP G bP u_11)) (wr := (cF 1 bF ++ cT G bT uT)) (w' := (cF 1 bF ++ cT G bT uT ++ cP G bP u_11)) C (cx_X5_putTimes l G bP u_7 (32 : Int32) r_9 u_11 _ h_10) (cwV 2 hts gx_X4_X5_putTimes_100 rfl rfl rfl hdx_X5_putTimes ⟨Nat.le_of_ble_eq_true rfl, Nat.le_of_ble_eq_true rfl⟩) hK hA hT hP hD hS (va_recv hK hP (ci := 2) (q0 := 14) rfl rfl) [14, 15] [0, 1, 2, 3, 4, 5, 6, 7, 8, 9, 10, 11, 12, 13] [0, 1, 2, 3, 4, 5, 6, 7, 8, 9, 10, 11, 12, 13, 14, 15] rfl rfl rfl rfl (by decide) rfl rfl rfl hl.1 rfl rfl (Nat.le_of_ble_eq_true rfl) dX4_tell_39 (fun H locs hP hD hS => ?_)
          exact wx_X4_tell_B_42 C hK hA hT (fx_X4_tell_B_5 uT n) (fun _ _ _ h9 => ih _ _ _ h9) u_11 x3 x4 hf hP hD hS (lv_sub hl [0, 1, 2, 3, 4] rfl)
def fx_X4_tell_B (uT : Md) (uP : Md) : Option Md := (fx_X4_tell_B_5 uT FU uP (0 : Int32) (0 : Int32))
set_option maxHeartbeats 4000000 in
set_option maxRecDepth 100000 in
theorem cx_X4_tell_B (l : Launch) (G : Gx) (bF : Nat → Nat) (bT : Nat → Nat) (bP : Nat → Nat) (uT : Md) (uP : Md)  (vP : Md) (sz : Nat) (hf : fx_X4_tell_B uT uP = some vP) : Met l yX4_tell wsx_X4_tell_B rmx_X4_tell_B (pX G (cF 1 bF ++ cT G bT uT ++ cP G bP uP) sz [.ref (bF 0), .ref (bT 0), .ref (bP 0)]) (qW none (cF 1 bF ++ cT G bT uT ++ cP G bP vP) (gD G) (tyG G) (va_A (cF 1 bF ++ cT G bT uT ++ cP G bP uP) sz)) 0 0 (va_A (cF 1 bF ++ cT G bT uT ++ cP G bP uP) sz) := by
  refine mx_w (cc := cX4_tell) (maxL := 7) (ret := none) (by decide) rfl (Nat.le_of_ble_eq_true rfl) ?_
  intro p e s m below meth c ls A C hl hK hA hT hP hD hS
  have hl : lv_has ls 7 [(0, .ref (bF 0)), (1, .ref (bT 0)), (2, .ref (bP 0))] := hl
  have hx := C.1.1
  have hb := C.1.2.1
  have hts := C.1.2.2.2.2
  have hown := C.1.2.2.2.1
  have hin7 : ∀ w ∈ wsX70, w ∈ wsx_X4_tell_B := fun w h => List.mem_cons_of_mem _ (List.mem_append_right _ (List.mem_append_right _ (List.mem_append_right _ (List.mem_append_left _ h))))
  have hin5 : ∀ w ∈ wsX50, w ∈ wsx_X4_tell_B := fun w h => List.mem_cons_of_mem _ (List.mem_append_right _ (List.mem_append_left _ h))
  unfold fx_X4_tell_B at hf
  refine lv_iconst (v := (0 : Int32)) hx hb dX4_tell_0 (by decide) ?_
  refine lv_istore_n (lv' := [(3, .int (0 : Int32)), (0, .ref (bF 0)), (1, .ref (bT 0)), (2, .ref (bP 0))]) hx hb dX4_tell_1 rfl hl (by decide) rfl (fun ls hl => ?_)
  refine lv_iconst (v := (0 : Int32)) hx hb dX4_tell_2 (by decide) ?_
  refine lv_istore (lv' := [(4, .int (0 : Int32)), (3, .int (0 : Int32)), (0, .ref (bF 0)), (1, .ref (bT 0)), (2, .ref (bP 0))]) hx hb dX4_tell_3 hl (by decide) rfl (fun ls hl => ?_)
  exact wx_X4_tell_B_5 C hK hA hT FU uP (0 : Int32) (0 : Int32) hf hP hD hS (lv_sub hl [2, 3, 4, 1, 0] rfl)
