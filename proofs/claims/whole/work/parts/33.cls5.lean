theorem gx_X3_X3_takeLine_L_9 {c0 : Cond} : GoodIn (c0 :: WAX) (wsV RX3 9 RX3 yX3_takeLine wsx_X3_takeLine_L) := gdx_v mx_320 mx_321 mx_322 mx_200 mx_323
theorem gx_X3_X6_ended_15 {c0 : Cond} : GoodIn (c0 :: WAX) (wsV RX3 15 RX6 yX6_ended wsx_X6_ended) := gdx_v mx_370 mx_371 mx_372 mx_22 mx_373
abbrev rmx_X3_take_L : Room := { frames := 9, cells := 0, slots := 0, locals := 207 }
noncomputable abbrev wsx_X3_take_L : List Cond := Cond.code yX3_take cX3_take 5 (some .boolean) :: WAX
theorem hdx_X3_take_L : yX3_take.cls = RX3 ∧ yX3_take.cls ≠ "java/lang/invoke/MethodHandle" ∧ yX3_take.cls ≠ "java/lang/invoke/VarHandle" ∧ (parseMethodDescriptor yX3_take.desc).map (fun d => d.parameters.length) = some 2 := by decide +kernel
theorem hdo_X3_take_L : "SchematicText$Form" ≠ "java/lang/invoke/MethodHandle" ∧ "SchematicText$Form" ≠ "java/lang/invoke/VarHandle" ∧ (parseMethodDescriptor "(LSchematicText$Source;LSchematicText$Tree;)Z").map (fun d => d.parameters.length) = some 2 := by decide +kernel
def fx_X3_take_L_45 (uS : Md) (uT : Md) (x3 : Int32) : Option (Int32 × Md × Md) := (if x3 = (-1 : Int32) then (some ((0 : Int32), uS, uT)) else (some ((1 : Int32), uS, uT)))
set_option maxHeartbeats 4000000 in
set_option maxRecDepth 100000 in
theorem wx_X3_take_L_45 {p : Program} {l : Launch} {e : Env} {s : State} {m : MethodId} {args : Array Value} {below : List Frame} {meth : Method} {c : Code} {G : Gx} {A : Nat → Prop} {bF : Nat → Nat} {bS : Nat → Nat} {bT : Nat → Nat} (C : Cx p s m args meth c cX3_take 5 wsx_X3_take_L RX3 (some .boolean)) (hK : va_K (gD G) vwCl (tyG G) s) (hA : ∀ q : Nat, s.heap.size ≤ q → A q) (hT : ST G A s s.heap) {r : (Int32 × Md × Md)} : ∀ (uS : Md) (uT : Md) (x3 : Int32), fx_X3_take_L_45 uS uT x3 = some r → ∀ {H : Heap} {locs : List Loc}, va_P (gD G) vwCl (cF 0 bF ++ cS G bS uS ++ cT G bT uT) H → va_D A (cF 0 bF ++ cS G bS uS ++ cT G bT uT) → va_S A s.heap H locs → ∀ {ls : Array Slot}, lv_has ls 5 [(3, .int x3)] → W p l e rmx_X3_take_L s m args below meth c H locs 0 0 (MQ below (qW (some (.int r.1)) (cF 0 bF ++ cS G bS r.2.1 ++ cT G bT r.2.2) (gD G) (tyG G) A) args s 0 0 A) (F0 m 45 ls []) := by
  have hx := C.1.1
  have hb := C.1.2.1
  have hts := C.1.2.2.2.2
  have hown := C.1.2.2.2.1
  have hin6 : ∀ w ∈ wsX60, w ∈ wsx_X3_take_L := fun w h => List.mem_cons_of_mem _ (List.mem_append_right _ (List.mem_append_right _ (List.mem_append_left _ h)))
  have hin7 : ∀ w ∈ wsX70, w ∈ wsx_X3_take_L := fun w h => List.mem_cons_of_mem _ (List.mem_append_right _ (List.mem_append_right _ (List.mem_append_right _ (List.mem_append_left _ h))))
  intro uS uT x3 hf H locs hP hD hS ls hl
  unfold fx_X3_take_L_45 at hf
  refine lv_iload_n hx hb dX3_take_45 rfl (lv_at hl 0 rfl) ?_
  refine lv_iconst (v := (-1 : Int32)) hx hb dX3_take_46 (by decide) ?_
  refine lv_icmp_eq (tgt := 54) hx hb dX3_take_47 (by decide) (fun c_14 => ?_) (fun c_14 => ?_)
  · replace hf := og_t c_14 hf
    refine lv_iconst (v := (0 : Int32)) hx hb dX3_take_54 (by decide) ?_
    obtain rfl := og_s hf
    exact rw_z C hK hP hD hS (nz_z (Or.inl rfl)) dX3_take_55
  · replace hf := og_f c_14 hf
    refine lv_iconst (v := (1 : Int32)) hx hb dX3_take_50 (by decide) ?_
    refine lv_goto (tgt := 55) hx hb dX3_take_51 (by decide) ?_
    obtain rfl := og_s hf
    exact rw_z C hK hP hD hS (nz_z (Or.inr rfl)) dX3_take_55
def fx_X3_take_L_11 : Nat → Md → Md → Int32 → Int32 → Option (Int32 × Md × Md)
  | 0, _, _, _, _ => none
  | n + 1, uS, uT, x3, x4 => (if (4000 : Int32) ≤ x4 then (fx_X3_take_L_45 uS uT x3) else (if x3 = (-1 : Int32) then (fx_X3_take_L_45 uS uT x3) else ((fx_X6_ended uS).bind fun r_8 => (if r_8 = 0 then ((fx_X3_takeLine_L uS uT x3).bind fun p_11 => (fx_X3_take_L_11 n p_11.2.1 p_11.2.2 p_11.1 (x4 + (1 : Int32)))) else (fx_X3_take_L_45 uS uT x3)))))
set_option maxHeartbeats 4000000 in
set_option maxRecDepth 100000 in
theorem wx_X3_take_L_11 {p : Program} {l : Launch} {e : Env} {s : State} {m : MethodId} {args : Array Value} {below : List Frame} {meth : Method} {c : Code} {G : Gx} {A : Nat → Prop} {bF : Nat → Nat} {bS : Nat → Nat} {bT : Nat → Nat} (C : Cx p s m args meth c cX3_take 5 wsx_X3_take_L RX3 (some .boolean)) (hK : va_K (gD G) vwCl (tyG G) s) (hA : ∀ q : Nat, s.heap.size ≤ q → A q) (hT : ST G A s s.heap) {r : (Int32 × Md × Md)} : ∀ (n : Nat), ∀ (uS : Md) (uT : Md) (x3 : Int32) (x4 : Int32), fx_X3_take_L_11 n uS uT x3 x4 = some r → ∀ {H : Heap} {locs : List Loc}, va_P (gD G) vwCl (cF 0 bF ++ cS G bS uS ++ cT G bT uT) H → va_D A (cF 0 bF ++ cS G bS uS ++ cT G bT uT) → va_S A s.heap H locs → ∀ {ls : Array Slot}, lv_has ls 5 [(0, .ref (bF 0)), (1, .ref (bS 0)), (2, .ref (bT 0)), (3, .int x3), (4, .int x4)] → W p l e rmx_X3_take_L s m args below meth c H locs 0 0 (MQ below (qW (some (.int r.1)) (cF 0 bF ++ cS G bS r.2.1 ++ cT G bT r.2.2) (gD G) (tyG G) A) args s 0 0 A) (F0 m 11 ls []) := by
  have hx := C.1.1
  have hb := C.1.2.1
  have hts := C.1.2.2.2.2
  have hown := C.1.2.2.2.1
  have hin6 : ∀ w ∈ wsX60, w ∈ wsx_X3_take_L := fun w h => List.mem_cons_of_mem _ (List.mem_append_right _ (List.mem_append_right _ (List.mem_append_left _ h)))
  have hin7 : ∀ w ∈ wsX70, w ∈ wsx_X3_take_L := fun w h => List.mem_cons_of_mem _ (List.mem_append_right _ (List.mem_append_right _ (List.mem_append_right _ (List.mem_append_left _ h))))
  intro n
  induction n with
  | zero =>
    intro uS uT x3 x4 hf H locs hP hD hS ls hl
    cases hf
  | succ n ih =>
    intro uS uT x3 x4 hf H locs hP hD hS ls hl
    rw [fx_X3_take_L_11] at hf
    refine lv_iload hx hb dX3_take_11 (lv_at hl 4 rfl) ?_
    refine lv_sipush (v := (4000 : Int32)) hx hb dX3_take_13 (by decide) ?_
    refine lv_icmp_ge (tgt := 45) hx hb dX3_take_16 (by decide) (fun c_5 => ?_) (fun c_5 => ?_)
    · replace hf := og_t c_5 hf
      exact wx_X3_take_L_45 C hK hA hT uS uT x3 hf hP hD hS (lv_sub hl [3] rfl)
    · replace hf := og_f c_5 hf
      refine lv_iload_n hx hb dX3_take_19 rfl (lv_at hl 3 rfl) ?_
      refine lv_iconst (v := (-1 : Int32)) hx hb dX3_take_20 (by decide) ?_
      refine lv_icmp_eq (tgt := 45) hx hb dX3_take_21 (by decide) (fun c_6 => ?_) (fun c_6 => ?_)
      · replace hf := og_t c_6 hf
        exact wx_X3_take_L_45 C hK hA hT uS uT x3 hf hP hD hS (lv_sub hl [3] rfl)
      · replace hf := og_f c_6 hf
        refine lv_aload_n hx hb dX3_take_24 rfl (lv_at hl 1 rfl) ?_
        obtain ⟨r_8, h_7, hf⟩ := og_b hf
        try dsimp only at hf
        refine xr_V (v := .int r_8) (rest := []) (w0 := (cS G bS uS)) C (cx_X6_ended l G bS uS r_8 _ h_7) (cwV 0 hts gx_X3_X6_ended_15 rfl rfl rfl hdx_X6_ended ⟨Nat.le_of_ble_eq_true rfl, Nat.le_of_ble_eq_true rfl⟩) hK hA hT hP hD hS (va_recv hK hP (ci := 3) (q0 := 1) rfl rfl) [1, 2] rfl rfl rfl hl.1 rfl (Nat.le_of_ble_eq_true rfl) dX3_take_25 ?_
        refine lv_if_ne (tgt := 45) hx hb dX3_take_28 (by decide) (fun c_9 => ?_) (fun c_9 => ?_)
        · replace hf := og_f c_9 hf
          exact wx_X3_take_L_45 C hK hA hT uS uT x3 hf hP hD hS (lv_sub hl [3] rfl)
        · replace hf := og_t c_9 hf
          refine lv_aload_n hx hb dX3_take_31 rfl (lv_at hl 0 rfl) ?_
          refine lv_aload_n hx hb dX3_take_32 rfl (lv_at hl 1 rfl) ?_
          refine lv_aload_n hx hb dX3_take_33 rfl (lv_at hl 2 rfl) ?_
          refine lv_iload_n hx hb dX3_take_34 rfl (lv_at hl 3 rfl) ?_
          obtain ⟨⟨r_11, u_12, u_13⟩, h_10, hf⟩ := og_b hf
          try dsimp only at hf
          refine xw_V (ov := (some (.int r_11))) (st1 := [.int r_11]) (rest := []) (w0 := (cF 0 bF ++ cS G bS uS ++ cT G bT uT)) (w1 := (cF 0 bF ++ cS G bS u_12 ++ cT G bT u_13)) (wr := ([])) (w' := (cF 0 bF ++ cS G bS u_12 ++ cT G bT u_13)) C (cx_X3_takeLine_L l G bF bS bT uS uT x3 r_11 u_12 u_13 _ h_10) (cwV 3 hts gx_X3_X3_takeLine_L_9 rfl rfl rfl hdx_X3_takeLine_L ⟨Nat.le_of_ble_eq_true rfl, Nat.le_of_ble_eq_true rfl⟩) hK hA hT hP hD hS (va_recv hK hP (ci := 0) (q0 := 0) rfl rfl) [0, 1, 2, 3, 4, 5, 6, 7, 8, 9, 10, 11, 12, 13, 14, 15] [] [0, 1, 2, 3, 4, 5, 6, 7, 8, 9, 10, 11, 12, 13, 14, 15] rfl rfl rfl rfl (by decide) rfl rfl rfl hl.1 rfl rfl (Nat.le_of_ble_eq_true rfl) dX3_take_35 (fun H locs hP hD hS => ?_)
          refine lv_istore_n (lv' := [(3, .int r_11), (0, .ref (bF 0)), (1, .ref (bS 0)), (2, .ref (bT 0)), (4, .int x4)]) hx hb dX3_take_38 rfl hl (by decide) rfl (fun ls hl => ?_)
          refine lv_iinc (v := (x4 + (1 : Int32))) (lv' := [(4, .int (x4 + (1 : Int32))), (3, .int r_11), (0, .ref (bF 0)), (1, .ref (bS 0)), (2, .ref (bT 0))]) hx hb dX3_take_39 hl (k := 4) rfl rfl (by decide) rfl (fun ls hl => ?_)
          refine lv_goto (tgt := 11) hx hb dX3_take_42 (by decide) ?_
          exact ih u_12 u_13 r_11 (x4 + (1 : Int32)) hf hP hD hS (lv_sub hl [2, 3, 4, 1, 0] rfl)
def fx_X3_take_L (uS : Md) (uT : Md) : Option (Int32 × Md × Md) := ((fx_X3_takeLine_L uS uT (-1 : Int32)).bind fun p_2 => (fx_X3_take_L_11 FU p_2.2.1 p_2.2.2 p_2.1 (0 : Int32)))
set_option maxHeartbeats 4000000 in
set_option maxRecDepth 100000 in
theorem cx_X3_take_L (l : Launch) (G : Gx) (bF : Nat → Nat) (bS : Nat → Nat) (bT : Nat → Nat) (uS : Md) (uT : Md) (r : Int32) (vS : Md) (vT : Md) (sz : Nat) (hf : fx_X3_take_L uS uT = some (r, vS, vT)) : Met l yX3_take wsx_X3_take_L rmx_X3_take_L (pX G (cF 0 bF ++ cS G bS uS ++ cT G bT uT) sz [.ref (bF 0), .ref (bS 0), .ref (bT 0)]) (qW (some (.int r)) (cF 0 bF ++ cS G bS vS ++ cT G bT vT) (gD G) (tyG G) (va_A (cF 0 bF ++ cS G bS uS ++ cT G bT uT) sz)) 0 0 (va_A (cF 0 bF ++ cS G bS uS ++ cT G bT uT) sz) := by
  refine mx_w (cc := cX3_take) (maxL := 5) (ret := (some .boolean)) (by decide) rfl (Nat.le_of_ble_eq_true rfl) ?_
  intro p e s m below meth c ls A C hl hK hA hT hP hD hS
  have hl : lv_has ls 5 [(0, .ref (bF 0)), (1, .ref (bS 0)), (2, .ref (bT 0))] := hl
  have hx := C.1.1
  have hb := C.1.2.1
  have hts := C.1.2.2.2.2
  have hown := C.1.2.2.2.1
  have hin6 : ∀ w ∈ wsX60, w ∈ wsx_X3_take_L := fun w h => List.mem_cons_of_mem _ (List.mem_append_right _ (List.mem_append_right _ (List.mem_append_left _ h)))
  have hin7 : ∀ w ∈ wsX70, w ∈ wsx_X3_take_L := fun w h => List.mem_cons_of_mem _ (List.mem_append_right _ (List.mem_append_right _ (List.mem_append_right _ (List.mem_append_left _ h))))
  unfold fx_X3_take_L at hf
  refine lv_aload_n hx hb dX3_take_0 rfl (lv_at hl 0 rfl) ?_
  refine lv_aload_n hx hb dX3_take_1 rfl (lv_at hl 1 rfl) ?_
  refine lv_aload_n hx hb dX3_take_2 rfl (lv_at hl 2 rfl) ?_
  refine lv_iconst (v := (-1 : Int32)) hx hb dX3_take_3 (by decide) ?_
  obtain ⟨⟨r_2, u_3, u_4⟩, h_1, hf⟩ := og_b hf
  try dsimp only at hf
  refine xw_V (ov := (some (.int r_2))) (st1 := [.int r_2]) (rest := []) (w0 := (cF 0 bF ++ cS G bS uS ++ cT G bT uT)) (w1 := (cF 0 bF ++ cS G bS u_3 ++ cT G bT u_4)) (wr := ([])) (w' := (cF 0 bF ++ cS G bS u_3 ++ cT G bT u_4)) C (cx_X3_takeLine_L l G bF bS bT uS uT (-1 : Int32) r_2 u_3 u_4 _ h_1) (cwV 3 hts gx_X3_X3_takeLine_L_9 rfl rfl rfl hdx_X3_takeLine_L ⟨Nat.le_of_ble_eq_true rfl, Nat.le_of_ble_eq_true rfl⟩) hK hA hT hP hD hS (va_recv hK hP (ci := 0) (q0 := 0) rfl rfl) [0, 1, 2, 3, 4, 5, 6, 7, 8, 9, 10, 11, 12, 13, 14, 15] [] [0, 1, 2, 3, 4, 5, 6, 7, 8, 9, 10, 11, 12, 13, 14, 15] rfl rfl rfl rfl (by decide) rfl rfl rfl hl.1 rfl rfl (Nat.le_of_ble_eq_true rfl) dX3_take_4 (fun H locs hP hD hS => ?_)
  refine lv_istore_n (lv' := [(3, .int r_2), (0, .ref (bF 0)), (1, .ref (bS 0)), (2, .ref (bT 0))]) hx hb dX3_take_7 rfl hl (by decide) rfl (fun ls hl => ?_)
  refine lv_iconst (v := (0 : Int32)) hx hb dX3_take_8 (by decide) ?_
  refine lv_istore (lv' := [(4, .int (0 : Int32)), (3, .int r_2), (0, .ref (bF 0)), (1, .ref (bS 0)), (2, .ref (bT 0))]) hx hb dX3_take_9 hl (by decide) rfl (fun ls hl => ?_)
  exact wx_X3_take_L_11 C hK hA hT FU u_3 u_4 r_2 (0 : Int32) hf hP hD hS (lv_sub hl [2, 3, 4, 1, 0] rfl)
theorem gx_X1_X5_putTitle_96 {c0 : Cond} : GoodIn (c0 :: WAX) (wsV RX1 96 RX5 yX5_putTitle wsx_X5_putTitle) := gdx_v mx_263 mx_264 mx_265 mx_266 mx_267
theorem gx_X1_X5_put_102 {c0 : Cond} : GoodIn (c0 :: WAX) (wsV RX1 102 RX5 yX5_put wsx_X5_put) := gdx_v mx_277 mx_271 mx_272 mx_266 mx_273
theorem gx_X1_X5_putNumber_108 {c0 : Cond} : GoodIn (c0 :: WAX) (wsV RX1 108 RX5 yX5_putNumber wsx_X5_putNumber) := gdx_v mx_278 mx_279 mx_280 mx_266 mx_281
theorem gx_X1_X5_putText_111 {c0 : Cond} : GoodIn (c0 :: WAX) (wsV RX1 111 RX5 yX5_putText wsx_X5_putText) := gdx_v mx_296 mx_297 mx_298 mx_266 mx_299
theorem gx_X1_X7_numberOf_115 {c0 : Cond} : GoodIn (c0 :: WAX) (wsV RX1 115 RX7 yX7_numberOf wsx_X7_numberOf) := gdx_v mx_309 mx_310 mx_311 mx_99 mx_312
abbrev rmx_X1_putNameAndValues_L : Room := { frames := 5, cells := 0, slots := 0, locals := 107 }
noncomputable abbrev wsx_X1_putNameAndValues_L : List Cond := Cond.code yX1_putNameAndValues cX1_putNameAndValues 9 none :: WAX
theorem hdx_X1_putNameAndValues_L : yX1_putNameAndValues.cls = RX1 ∧ yX1_putNameAndValues.cls ≠ "java/lang/invoke/MethodHandle" ∧ yX1_putNameAndValues.cls ≠ "java/lang/invoke/VarHandle" ∧ (parseMethodDescriptor yX1_putNameAndValues.desc).map (fun d => d.parameters.length) = some 3 := by decide +kernel
theorem hdo_X1_putNameAndValues_L : "SchematicText$Form" ≠ "java/lang/invoke/MethodHandle" ∧ "SchematicText$Form" ≠ "java/lang/invoke/VarHandle" ∧ (parseMethodDescriptor "(LSchematicText$Tree;ILSchematicText$Page;)V").map (fun d => d.parameters.length) = some 3 := by decide +kernel
def fx_X1_putNameAndValues_L_112 (uT : Md) (k49 : Md → Int32 → (Fin 10) → Int32 → Int32 → Int32 → Option Md) (uP : Md) (x2 : Int32) (x4 : (Fin 10)) (x5 : Int32) (x6 : Int32) (x7 : Int32) : Option Md := (k49 uP x2 x4 x5 x6 (x7 + (1 : Int32)))
set_option maxHeartbeats 4000000 in
set_option maxRecDepth 100000 in
theorem wx_X1_putNameAndValues_L_112 {p : Program} {l : Launch} {e : Env} {s : State} {m : MethodId} {args : Array Value} {below : List Frame} {meth : Method} {c : Code} {G : Gx} {A : Nat → Prop} {bF : Nat → Nat} {bT : Nat → Nat} {bP : Nat → Nat} (C : Cx p s m args meth c cX1_putNameAndValues 9 wsx_X1_putNameAndValues_L RX1 none) {uT : Md} (hK : va_K (gD G) vwCl (tyG G) s) (hA : ∀ q : Nat, s.heap.size ≤ q → A q) (hT : ST G A s s.heap) {r : Md} (k49 : Md → Int32 → (Fin 10) → Int32 → Int32 → Int32 → Option Md) (ih49 : ∀ (uP : Md) (x2 : Int32) (x4 : (Fin 10)) (x5 : Int32) (x6 : Int32) (x7 : Int32), k49 uP x2 x4 x5 x6 x7 = some r → ∀ {H : Heap} {locs : List Loc}, va_P (gD G) vwCl (cF 0 bF ++ cT G bT uT ++ cP G bP uP) H → va_D A (cF 0 bF ++ cT G bT uT ++ cP G bP uP) → va_S A s.heap H locs → ∀ {ls : Array Slot}, lv_has ls 9 [(1, .ref (bT 0)), (2, .int x2), (3, .ref (bP 0)), (4, .ref (gK G (x4).val)), (5, .int x5), (6, .int x6), (7, .int x7)] → W p l e rmx_X1_putNameAndValues_L s m args below meth c H locs 0 0 (MQ below (qW none (cF 0 bF ++ cT G bT uT ++ cP G bP r) (gD G) (tyG G) A) args s 0 0 A) (F0 m 49 ls [])) : ∀ (uP : Md) (x2 : Int32) (x4 : (Fin 10)) (x5 : Int32) (x6 : Int32) (x7 : Int32), fx_X1_putNameAndValues_L_112 uT k49 uP x2 x4 x5 x6 x7 = some r → ∀ {H : Heap} {locs : List Loc}, va_P (gD G) vwCl (cF 0 bF ++ cT G bT uT ++ cP G bP uP) H → va_D A (cF 0 bF ++ cT G bT uT ++ cP G bP uP) → va_S A s.heap H locs → ∀ {ls : Array Slot}, lv_has ls 9 [(1, .ref (bT 0)), (2, .int x2), (3, .ref (bP 0)), (4, .ref (gK G (x4).val)), (5, .int x5), (6, .int x6), (7, .int x7)] → W p l e rmx_X1_putNameAndValues_L s m args below meth c H locs 0 0 (MQ below (qW none (cF 0 bF ++ cT G bT uT ++ cP G bP r) (gD G) (tyG G) A) args s 0 0 A) (F0 m 112 ls []) := by
  have hx := C.1.1
  have hb := C.1.2.1
  have hts := C.1.2.2.2.2
  have hown := C.1.2.2.2.1
  have hin7 : ∀ w ∈ wsX70, w ∈ wsx_X1_putNameAndValues_L := fun w h => List.mem_cons_of_mem _ (List.mem_append_right _ (List.mem_append_right _ (List.mem_append_right _ (List.mem_append_left _ h))))
  have hin5 : ∀ w ∈ wsX50, w ∈ wsx_X1_putNameAndValues_L := fun w h => List.mem_cons_of_mem _ (List.mem_append_right _ (List.mem_append_left _ h))
  intro uP x2 x4 x5 x6 x7 hf H locs hP hD hS ls hl
  unfold fx_X1_putNameAndValues_L_112 at hf
  refine lv_iinc (v := (x7 + (1 : Int32))) (lv' := [(7, .int (x7 + (1 : Int32))), (1, .ref (bT 0)), (2, .int x2), (3, .ref (bP 0)), (4, .ref (gK G (x4).val)), (5, .int x5), (6, .int x6)]) hx hb dX1_putNameAndValues_112 hl (k := 6) rfl rfl (by decide) rfl (fun ls hl => ?_)
  refine lv_goto (tgt := 49) hx hb dX1_putNameAndValues_115 (by decide) ?_
  exact ih49 uP x2 x4 x5 x6 (x7 + (1 : Int32)) hf hP hD hS (lv_sub hl [1, 2, 3, 4, 5, 6, 0] rfl)
def fx_X1_putNameAndValues_L_49 (uT : Md) : Nat → Md → Int32 → (Fin 10) → Int32 → Int32 → Int32 → Option Md
  | 0, _, _, _, _, _, _ => none
  | n + 1, uP, x2, x4, x5, x6, x7 => ((fx_X2_fields x4).bind fun r_11 => (if r_11 ≤ x7 then (some uP) else ((fx_X2_fieldAt x4 x7).bind fun r_14 => ((fx_X5_put uP (32 : Int32)).bind fun u_16 => ((fx_X0_isText r_14).bind fun r_18 => (if r_18 = 0 then ((fx_X7_numberOf uT x2 x6).bind fun r_21 => ((fx_X5_putNumber u_16 r_14 r_21).bind fun u_23 => (fx_X1_putNameAndValues_L_112 uT (fx_X1_putNameAndValues_L_49 uT n) u_23 x2 x4 x5 (x6 + (1 : Int32)) x7))) else ((fx_X5_putText uT u_16 x2 x5).bind fun u_25 => (fx_X1_putNameAndValues_L_112 uT (fx_X1_putNameAndValues_L_49 uT n) u_25 x2 x4 (x5 + (1 : Int32)) x6 x7))))))))
set_option maxHeartbeats 4000000 in
set_option maxRecDepth 100000 in
theorem wx_X1_putNameAndValues_L_49 {p : Program} {l : Launch} {e : Env} {s : State} {m : MethodId} {args : Array Value} {below : List Frame} {meth : Method} {c : Code} {G : Gx} {A : Nat → Prop} {bF : Nat → Nat} {bT : Nat → Nat} {bP : Nat → Nat} (C : Cx p s m args meth c cX1_putNameAndValues 9 wsx_X1_putNameAndValues_L RX1 none) {uT : Md} (hK : va_K (gD G) vwCl (tyG G) s) (hA : ∀ q : Nat, s.heap.size ≤ q → A q) (hT : ST G A s s.heap) {r : Md} : ∀ (n : Nat), ∀ (uP : Md) (x2 : Int32) (x4 : (Fin 10)) (x5 : Int32) (x6 : Int32) (x7 : Int32), fx_X1_putNameAndValues_L_49 uT n uP x2 x4 x5 x6 x7 = some r → ∀ {H : Heap} {locs : List Loc}, va_P (gD G) vwCl (cF 0 bF ++ cT G bT uT ++ cP G bP uP) H → va_D A (cF 0 bF ++ cT G bT uT ++ cP G bP uP) → va_S A s.heap H locs → ∀ {ls : Array Slot}, lv_has ls 9 [(1, .ref (bT 0)), (2, .int x2), (3, .ref (bP 0)), (4, .ref (gK G (x4).val)), (5, .int x5), (6, .int x6), (7, .int x7)] → W p l e rmx_X1_putNameAndValues_L s m args below meth c H locs 0 0 (MQ below (qW none (cF 0 bF ++ cT G bT uT ++ cP G bP r) (gD G) (tyG G) A) args s 0 0 A) (F0 m 49 ls []) := by
  have hx := C.1.1
  have hb := C.1.2.1
  have hts := C.1.2.2.2.2
  have hown := C.1.2.2.2.1
  have hin7 : ∀ w ∈ wsX70, w ∈ wsx_X1_putNameAndValues_L := fun w h => List.mem_cons_of_mem _ (List.mem_append_right _ (List.mem_append_right _ (List.mem_append_right _ (List.mem_append_left _ h))))
  have hin5 : ∀ w ∈ wsX50, w ∈ wsx_X1_putNameAndValues_L := fun w h => List.mem_cons_of_mem _ (List.mem_append_right _ (List.mem_append_left _ h))
  intro n
  induction n with
  | zero =>
    intro uP x2 x4 x5 x6 x7 hf H locs hP hD hS ls hl
    cases hf
  | succ n ih =>
    intro uP x2 x4 x5 x6 x7 hf H locs hP hD hS ls hl
    rw [fx_X1_putNameAndValues_L_49] at hf
    refine lv_iload hx hb dX1_putNameAndValues_49 (lv_at hl 6 rfl) ?_
    refine lv_aload hx hb dX1_putNameAndValues_51 (lv_at hl 3 rfl) ?_
    obtain ⟨r_11, h_10, hf⟩ := og_b hf
    try dsimp only at hf
    refine xr_V (v := .int r_11) (rest := [.int x7]) (w0 := ([])) C (cx_X2_fields l G x4 r_11 _ h_10) (cwV 0 hts gx_X1_X2_fields_69 rfl rfl rfl hdx_X2_fields ⟨Nat.le_of_ble_eq_true rfl, Nat.le_of_ble_eq_true rfl⟩) hK hA hT hP hD hS (va_recvE hT.1.2.2.2.2.1 (x4).isLt hS) [] rfl rfl rfl hl.1 rfl (Nat.le_of_ble_eq_true rfl) dX1_putNameAndValues_53 ?_
    refine lv_icmp_ge (tgt := 118) hx hb dX1_putNameAndValues_56 (by decide) (fun c_12 => ?_) (fun c_12 => ?_)
    · replace hf := og_t c_12 hf
      obtain rfl := og_s hf
      exact rw_v C hK hP hD hS dX1_putNameAndValues_118
    · replace hf := og_f c_12 hf
      refine lv_aload hx hb dX1_putNameAndValues_59 (lv_at hl 3 rfl) ?_
      refine lv_iload hx hb dX1_putNameAndValues_61 (lv_at hl 6 rfl) ?_
      obtain ⟨r_14, h_13, hf⟩ := og_b hf
      try dsimp only at hf
      refine xr_V (v := .ref (gF G (r_14).val)) (rest := []) (w0 := ([])) C (cx_X2_fieldAt l G x4 x7 r_14 _ h_13) (cwV 1 hts gx_X1_X2_fieldAt_73 rfl rfl rfl hdx_X2_fieldAt ⟨Nat.le_of_ble_eq_true rfl, Nat.le_of_ble_eq_true rfl⟩) hK hA hT hP hD hS (va_recvE hT.1.2.2.2.2.1 (x4).isLt hS) [] rfl rfl rfl hl.1 rfl (Nat.le_of_ble_eq_true rfl) dX1_putNameAndValues_63 ?_
      refine lv_astore (lv' := [(8, .ref (gF G (r_14).val)), (1, .ref (bT 0)), (2, .int x2), (3, .ref (bP 0)), (4, .ref (gK G (x4).val)), (5, .int x5), (6, .int x6), (7, .int x7)]) hx hb dX1_putNameAndValues_66 hl (by decide) rfl (fun ls hl => ?_)
      refine lv_aload_n hx hb dX1_putNameAndValues_68 rfl (lv_at hl 3 rfl) ?_
      refine lv_bipush (v := (32 : Int32)) hx hb dX1_putNameAndValues_69 (by decide) ?_
      obtain ⟨u_16, h_15, hf⟩ := og_b hf
      try dsimp only at hf
      refine xw_V (ov := none) (st1 := []) (rest := []) (w0 := (cP G bP uP)) (w1 := (cP G bP u_16)) (wr := (cF 0 bF ++ cT G bT uT)) (w' := (cF 0 bF ++ cT G bT uT ++ cP G bP u_16)) C (cx_X5_put l G bP uP (32 : Int32) u_16 _ h_15) (cwV 1 hts gx_X1_X5_put_102 rfl rfl rfl hdx_X5_put ⟨Nat.le_of_ble_eq_true rfl, Nat.le_of_ble_eq_true rfl⟩) hK hA hT hP hD hS (va_recv hK hP (ci := 2) (q0 := 14) rfl rfl) [14, 15] [0, 1, 2, 3, 4, 5, 6, 7, 8, 9, 10, 11, 12, 13] [0, 1, 2, 3, 4, 5, 6, 7, 8, 9, 10, 11, 12, 13, 14, 15] rfl rfl rfl rfl (by decide) rfl rfl rfl hl.1 rfl rfl (Nat.le_of_ble_eq_true rfl) dX1_putNameAndValues_71 (fun H locs hP hD hS => ?_)
      refine lv_aload hx hb dX1_putNameAndValues_74 (lv_at hl 0 rfl) ?_
      obtain ⟨r_18, h_17, hf⟩ := og_b hf
      try dsimp only at hf
      refine xr_V (v := .int r_18) (rest := []) (w0 := ([])) C (cx_X0_isText l G r_14 r_18 _ h_17) (cwV 0 hts gx_X1_X0_isText_80 rfl rfl rfl hdx_X0_isText ⟨Nat.le_of_ble_eq_true rfl, Nat.le_of_ble_eq_true rfl⟩) hK hA hT hP hD hS (va_recvE hT.1.1 (r_14).isLt hS) [] rfl rfl rfl hl.1 rfl (Nat.le_of_ble_eq_true rfl) dX1_putNameAndValues_76 ?_
      refine lv_if_eq (tgt := 96) hx hb dX1_putNameAndValues_79 (by decide) (fun c_19 => ?_) (fun c_19 => ?_)
      · replace hf := og_t c_19 hf
        refine lv_aload_n hx hb dX1_putNameAndValues_96 rfl (lv_at hl 3 rfl) ?_
        refine lv_aload hx hb dX1_putNameAndValues_97 (lv_at hl 0 rfl) ?_
        refine lv_aload_n hx hb dX1_putNameAndValues_99 rfl (lv_at hl 1 rfl) ?_
        refine lv_iload_n hx hb dX1_putNameAndValues_100 rfl (lv_at hl 2 rfl) ?_
        refine lv_iload hx hb dX1_putNameAndValues_101 (lv_at hl 6 rfl) ?_
        obtain ⟨r_21, h_20, hf⟩ := og_b hf
        try dsimp only at hf
        refine xr_V (v := .long r_21) (rest := [.ref (gF G (r_14).val), .ref (bP 0)]) (w0 := (cT G bT uT)) C (cx_X7_numberOf l G bT uT x2 x6 r_21 _ h_20) (cwV 2 hts gx_X1_X7_numberOf_115 rfl rfl rfl hdx_X7_numberOf ⟨Nat.le_of_ble_eq_true rfl, Nat.le_of_ble_eq_true rfl⟩) hK hA hT hP hD hS (va_recv hK hP (ci := 4) (q0 := 1) rfl rfl) [1, 2, 3, 4, 5, 6, 7, 8, 9, 10, 11, 12, 13] rfl rfl rfl hl.1 rfl (Nat.le_of_ble_eq_true rfl) dX1_putNameAndValues_103 ?_
        obtain ⟨u_23, h_22, hf⟩ := og_b hf
        try dsimp only at hf
        refine xw_V (ov := none) (st1 := []) (rest := []) (w0 := (cP G bP u_16)) (w1 := (cP G bP u_23)) (wr := (cF 0 bF ++ cT G bT uT)) (w' := (cF 0 bF ++ cT G bT uT ++ cP G bP u_23)) C (cx_X5_putNumber l G bP u_16 r_14 r_21 u_23 _ h_22) (cwV 2 hts gx_X1_X5_putNumber_108 rfl rfl rfl hdx_X5_putNumber ⟨Nat.le_of_ble_eq_true rfl, Nat.le_of_ble_eq_true rfl⟩) hK hA hT hP hD hS (va_recv hK hP (ci := 2) (q0 := 14) rfl rfl) [14, 15] [0, 1, 2, 3, 4, 5, 6, 7, 8, 9, 10, 11, 12, 13] [0, 1, 2, 3, 4, 5, 6, 7, 8, 9, 10, 11, 12, 13, 14, 15] rfl rfl rfl rfl (by decide) rfl rfl rfl hl.1 rfl rfl (Nat.le_of_ble_eq_true rfl) dX1_putNameAndValues_106 (fun H locs hP hD hS => ?_)
        refine lv_iinc (v := (x6 + (1 : Int32))) (lv' := [(6, .int (x6 + (1 : Int32))), (8, .ref (gF G (r_14).val)), (1, .ref (bT 0)), (2, .int x2), (3, .ref (bP 0)), (4, .ref (gK G (x4).val)), (5, .int x5), (7, .int x7)]) hx hb dX1_putNameAndValues_109 hl (k := 6) rfl rfl (by decide) rfl (fun ls hl => ?_)
        exact wx_X1_putNameAndValues_L_112 C hK hA hT (fx_X1_putNameAndValues_L_49 uT n) (fun _ _ _ _ _ _ h9 => ih _ _ _ _ _ _ h9) u_23 x2 x4 x5 (x6 + (1 : Int32)) x7 hf hP hD hS (lv_sub hl [2, 3, 4, 5, 6, 0, 7] rfl)
      · replace hf := og_f c_19 hf
        refine lv_aload_n hx hb dX1_putNameAndValues_82 rfl (lv_at hl 3 rfl) ?_
        refine lv_aload_n hx hb dX1_putNameAndValues_83 rfl (lv_at hl 1 rfl) ?_
        refine lv_iload_n hx hb dX1_putNameAndValues_84 rfl (lv_at hl 2 rfl) ?_
        refine lv_iload hx hb dX1_putNameAndValues_85 (lv_at hl 5 rfl) ?_
        obtain ⟨u_25, h_24, hf⟩ := og_b hf
        try dsimp only at hf
        refine xw_V (ov := none) (st1 := []) (rest := []) (w0 := (cT G bT uT ++ cP G bP u_16)) (w1 := (cT G bT uT ++ cP G bP u_25)) (wr := (cF 0 bF)) (w' := (cF 0 bF ++ cT G bT uT ++ cP G bP u_25)) C (cx_X5_putText l G bT bP uT u_16 x2 x5 u_25 _ h_24) (cwV 3 hts gx_X1_X5_putText_111 rfl rfl rfl hdx_X5_putText ⟨Nat.le_of_ble_eq_true rfl, Nat.le_of_ble_eq_true rfl⟩) hK hA hT hP hD hS (va_recv hK hP (ci := 2) (q0 := 14) rfl rfl) [1, 2, 3, 4, 5, 6, 7, 8, 9, 10, 11, 12, 13, 14, 15] [0] [0, 1, 2, 3, 4, 5, 6, 7, 8, 9, 10, 11, 12, 13, 14, 15] rfl rfl rfl rfl (by decide) rfl rfl rfl hl.1 rfl rfl (Nat.le_of_ble_eq_true rfl) dX1_putNameAndValues_87 (fun H locs hP hD hS => ?_)
        refine lv_iinc (v := (x5 + (1 : Int32))) (lv' := [(5, .int (x5 + (1 : Int32))), (8, .ref (gF G (r_14).val)), (1, .ref (bT 0)), (2, .int x2), (3, .ref (bP 0)), (4, .ref (gK G (x4).val)), (6, .int x6), (7, .int x7)]) hx hb dX1_putNameAndValues_90 hl (k := 5) rfl rfl (by decide) rfl (fun ls hl => ?_)
        refine lv_goto (tgt := 112) hx hb dX1_putNameAndValues_93 (by decide) ?_
        exact wx_X1_putNameAndValues_L_112 C hK hA hT (fx_X1_putNameAndValues_L_49 uT n) (fun _ _ _ _ _ _ h9 => ih _ _ _ _ _ _ h9) u_25 x2 x4 (x5 + (1 : Int32)) x6 x7 hf hP hD hS (lv_sub hl [2, 3, 4, 5, 0, 6, 7] rfl)
def fx_X1_putNameAndValues_L_40 (uT : Md) (uP : Md) (x2 : Int32) (x4 : (Fin 10)) : Option Md := (fx_X1_putNameAndValues_L_49 uT FU uP x2 x4 (0 : Int32) (0 : Int32) (0 : Int32))
set_option maxHeartbeats 4000000 in
set_option maxRecDepth 100000 in
theorem wx_X1_putNameAndValues_L_40 {p : Program} {l : Launch} {e : Env} {s : State} {m : MethodId} {args : Array Value} {below : List Frame} {meth : Method} {c : Code} {G : Gx} {A : Nat → Prop} {bF : Nat → Nat} {bT : Nat → Nat} {bP : Nat → Nat} (C : Cx p s m args meth c cX1_putNameAndValues 9 wsx_X1_putNameAndValues_L RX1 none) {uT : Md} (hK : va_K (gD G) vwCl (tyG G) s) (hA : ∀ q : Nat, s.heap.size ≤ q → A q) (hT : ST G A s s.heap) {r : Md} : ∀ (uP : Md) (x2 : Int32) (x4 : (Fin 10)), fx_X1_putNameAndValues_L_40 uT uP x2 x4 = some r → ∀ {H : Heap} {locs : List Loc}, va_P (gD G) vwCl (cF 0 bF ++ cT G bT uT ++ cP G bP uP) H → va_D A (cF 0 bF ++ cT G bT uT ++ cP G bP uP) → va_S A s.heap H locs → ∀ {ls : Array Slot}, lv_has ls 9 [(1, .ref (bT 0)), (2, .int x2), (3, .ref (bP 0)), (4, .ref (gK G (x4).val))] → W p l e rmx_X1_putNameAndValues_L s m args below meth c H locs 0 0 (MQ below (qW none (cF 0 bF ++ cT G bT uT ++ cP G bP r) (gD G) (tyG G) A) args s 0 0 A) (F0 m 40 ls []) := by
  have hx := C.1.1
  have hb := C.1.2.1
  have hts := C.1.2.2.2.2
  have hown := C.1.2.2.2.1
  have hin7 : ∀ w ∈ wsX70, w ∈ wsx_X1_putNameAndValues_L := fun w h => List.mem_cons_of_mem _ (List.mem_append_right _ (List.mem_append_right _ (List.mem_append_right _ (List.mem_append_left _ h))))
  have hin5 : ∀ w ∈ wsX50, w ∈ wsx_X1_putNameAndValues_L := fun w h => List.mem_cons_of_mem _ (List.mem_append_right _ (List.mem_append_left _ h))
  intro uP x2 x4 hf H locs hP hD hS ls hl
  unfold fx_X1_putNameAndValues_L_40 at hf
  refine lv_iconst (v := (0 : Int32)) hx hb dX1_putNameAndValues_40 (by decide) ?_
  refine lv_istore (lv' := [(5, .int (0 : Int32)), (1, .ref (bT 0)), (2, .int x2), (3, .ref (bP 0)), (4, .ref (gK G (x4).val))]) hx hb dX1_putNameAndValues_41 hl (by decide) rfl (fun ls hl => ?_)
  refine lv_iconst (v := (0 : Int32)) hx hb dX1_putNameAndValues_43 (by decide) ?_
  refine lv_istore (lv' := [(6, .int (0 : Int32)), (5, .int (0 : Int32)), (1, .ref (bT 0)), (2, .int x2), (3, .ref (bP 0)), (4, .ref (gK G (x4).val))]) hx hb dX1_putNameAndValues_44 hl (by decide) rfl (fun ls hl => ?_)
  refine lv_iconst (v := (0 : Int32)) hx hb dX1_putNameAndValues_46 (by decide) ?_
  refine lv_istore (lv' := [(7, .int (0 : Int32)), (6, .int (0 : Int32)), (5, .int (0 : Int32)), (1, .ref (bT 0)), (2, .int x2), (3, .ref (bP 0)), (4, .ref (gK G (x4).val))]) hx hb dX1_putNameAndValues_47 hl (by decide) rfl (fun ls hl => ?_)
  exact wx_X1_putNameAndValues_L_49 C hK hA hT FU uP x2 x4 (0 : Int32) (0 : Int32) (0 : Int32) hf hP hD hS (lv_sub hl [3, 4, 5, 6, 2, 1, 0] rfl)
def fx_X1_putNameAndValues_L (uT : Md) (uP : Md) (x2 : Int32) : Option Md := ((fx_X7_kindOf uT x2).bind fun r_2 => ((fx_X5_putTitle uP (kTitle r_2)).bind fun u_4 => (if r_2 = (0 : Fin 10) then ((fx_X5_put u_4 (32 : Int32)).bind fun u_7 => ((fx_X5_putNumber u_7 (7 : Fin 8) (3 : Int64)).bind fun u_9 => (fx_X1_putNameAndValues_L_40 uT u_9 x2 r_2))) else (fx_X1_putNameAndValues_L_40 uT u_4 x2 r_2))))
set_option maxHeartbeats 4000000 in
set_option maxRecDepth 100000 in
theorem cx_X1_putNameAndValues_L (l : Launch) (G : Gx) (bF : Nat → Nat) (bT : Nat → Nat) (bP : Nat → Nat) (uT : Md) (uP : Md) (x2 : Int32)  (vP : Md) (sz : Nat) (hf : fx_X1_putNameAndValues_L uT uP x2 = some vP) : Met l yX1_putNameAndValues wsx_X1_putNameAndValues_L rmx_X1_putNameAndValues_L (pX G (cF 0 bF ++ cT G bT uT ++ cP G bP uP) sz [.ref (bF 0), .ref (bT 0), .int x2, .ref (bP 0)]) (qW none (cF 0 bF ++ cT G bT uT ++ cP G bP vP) (gD G) (tyG G) (va_A (cF 0 bF ++ cT G bT uT ++ cP G bP uP) sz)) 0 0 (va_A (cF 0 bF ++ cT G bT uT ++ cP G bP uP) sz) := by
  refine mx_w (cc := cX1_putNameAndValues) (maxL := 9) (ret := none) (by decide) rfl (Nat.le_of_ble_eq_true rfl) ?_
  intro p e s m below meth c ls A C hl hK hA hT hP hD hS
  have hl : lv_has ls 9 [(0, .ref (bF 0)), (1, .ref (bT 0)), (2, .int x2), (3, .ref (bP 0))] := hl
  have hx := C.1.1
  have hb := C.1.2.1
  have hts := C.1.2.2.2.2
  have hown := C.1.2.2.2.1
  have hin7 : ∀ w ∈ wsX70, w ∈ wsx_X1_putNameAndValues_L := fun w h => List.mem_cons_of_mem _ (List.mem_append_right _ (List.mem_append_right _ (List.mem_append_right _ (List.mem_append_left _ h))))
  have hin5 : ∀ w ∈ wsX50, w ∈ wsx_X1_putNameAndValues_L := fun w h => List.mem_cons_of_mem _ (List.mem_append_right _ (List.mem_append_left _ h))
  unfold fx_X1_putNameAndValues_L at hf
  refine lv_aload_n hx hb dX1_putNameAndValues_0 rfl (lv_at hl 1 rfl) ?_
  refine lv_iload_n hx hb dX1_putNameAndValues_1 rfl (lv_at hl 2 rfl) ?_
  obtain ⟨r_2, h_1, hf⟩ := og_b hf
  try dsimp only at hf
  refine xr_V (v := .ref (gK G (r_2).val)) (rest := []) (w0 := (cT G bT uT)) C (cx_X7_kindOf l G bT uT x2 r_2 _ h_1) (cwV 1 hts gx_X1_X7_kindOf_36 rfl rfl rfl hdx_X7_kindOf ⟨Nat.le_of_ble_eq_true rfl, Nat.le_of_ble_eq_true rfl⟩) hK hA hT hP hD hS (va_recv hK hP (ci := 4) (q0 := 1) rfl rfl) [1, 2, 3, 4, 5, 6, 7, 8, 9, 10, 11, 12, 13] rfl rfl rfl hl.1 rfl (Nat.le_of_ble_eq_true rfl) dX1_putNameAndValues_2 ?_
  refine lv_astore (lv' := [(4, .ref (gK G (r_2).val)), (0, .ref (bF 0)), (1, .ref (bT 0)), (2, .int x2), (3, .ref (bP 0))]) hx hb dX1_putNameAndValues_5 hl (by decide) rfl (fun ls hl => ?_)
  refine lv_aload_n hx hb dX1_putNameAndValues_7 rfl (lv_at hl 4 rfl) ?_
  refine lv_aload hx hb dX1_putNameAndValues_8 (lv_at hl 0 rfl) ?_
  refine xoN (v := .ref (gS G ((kTitle r_2)).val)) (host := "SchematicText") C hT (hT.1.2.2.2.2.2.1 (r_2).val (r_2).isLt) hS (by decide +kernel) dX1_putNameAndValues_10 ?_
  obtain ⟨u_4, h_3, hf⟩ := og_b hf
  try dsimp only at hf
  refine xw_V (ov := none) (st1 := []) (rest := []) (w0 := (cP G bP uP)) (w1 := (cP G bP u_4)) (wr := (cF 0 bF ++ cT G bT uT)) (w' := (cF 0 bF ++ cT G bT uT ++ cP G bP u_4)) C (cx_X5_putTitle l G bP uP (kTitle r_2) u_4 _ h_3) (cwV 1 hts gx_X1_X5_putTitle_96 rfl rfl rfl hdx_X5_putTitle ⟨Nat.le_of_ble_eq_true rfl, Nat.le_of_ble_eq_true rfl⟩) hK hA hT hP hD hS (va_recv hK hP (ci := 2) (q0 := 14) rfl rfl) [14, 15] [0, 1, 2, 3, 4, 5, 6, 7, 8, 9, 10, 11, 12, 13] [0, 1, 2, 3, 4, 5, 6, 7, 8, 9, 10, 11, 12, 13, 14, 15] rfl rfl rfl rfl (by decide) rfl rfl rfl hl.1 rfl rfl (Nat.le_of_ble_eq_true rfl) dX1_putNameAndValues_13 (fun H locs hP hD hS => ?_)
  refine lv_aload hx hb dX1_putNameAndValues_16 (lv_at hl 0 rfl) ?_
  refine xK (i := (0 : Fin 10)) C hT hS (hts (Cond.fieldLink RX1 40 "SchematicText$Kind" "DESIGN" "LSchematicText$Kind;") (List.mem_cons_of_mem _ mx_193)) dX1_putNameAndValues_18 ?_
  refine xa_ne (i := r_2) (j := (0 : Fin 10)) (tgt := 40) C hT dX1_putNameAndValues_21 (by decide) (fun c_5 => ?_) (fun c_5 => ?_)
  · replace hf := og_f c_5 hf
    exact wx_X1_putNameAndValues_L_40 C hK hA hT u_4 x2 r_2 hf hP hD hS (lv_sub hl [2, 3, 4, 0] rfl)
  · replace hf := og_t c_5 hf
    refine lv_aload_n hx hb dX1_putNameAndValues_24 rfl (lv_at hl 4 rfl) ?_
    refine lv_bipush (v := (32 : Int32)) hx hb dX1_putNameAndValues_25 (by decide) ?_
    obtain ⟨u_7, h_6, hf⟩ := og_b hf
    try dsimp only at hf
    refine xw_V (ov := none) (st1 := []) (rest := []) (w0 := (cP G bP u_4)) (w1 := (cP G bP u_7)) (wr := (cF 0 bF ++ cT G bT uT)) (w' := (cF 0 bF ++ cT G bT uT ++ cP G bP u_7)) C (cx_X5_put l G bP u_4 (32 : Int32) u_7 _ h_6) (cwV 1 hts gx_X1_X5_put_102 rfl rfl rfl hdx_X5_put ⟨Nat.le_of_ble_eq_true rfl, Nat.le_of_ble_eq_true rfl⟩) hK hA hT hP hD hS (va_recv hK hP (ci := 2) (q0 := 14) rfl rfl) [14, 15] [0, 1, 2, 3, 4, 5, 6, 7, 8, 9, 10, 11, 12, 13] [0, 1, 2, 3, 4, 5, 6, 7, 8, 9, 10, 11, 12, 13, 14, 15] rfl rfl rfl rfl (by decide) rfl rfl rfl hl.1 rfl rfl (Nat.le_of_ble_eq_true rfl) dX1_putNameAndValues_27 (fun H locs hP hD hS => ?_)
    refine lv_aload_n hx hb dX1_putNameAndValues_30 rfl (lv_at hl 4 rfl) ?_
    refine xF (i := (7 : Fin 8)) C hT hS (hts (Cond.fieldLink RX1 52 "SchematicText$Field" "VERSION" "LSchematicText$Field;") (List.mem_cons_of_mem _ mx_194)) dX1_putNameAndValues_31 ?_
    refine lv_ldc2 (v := (3 : Int64)) hx hb hown (hts (Cond.constantLong RX1 106 (3)) (List.mem_cons_of_mem _ mx_262)) dX1_putNameAndValues_34 ?_
    obtain ⟨u_9, h_8, hf⟩ := og_b hf
    try dsimp only at hf
    refine xw_V (ov := none) (st1 := []) (rest := []) (w0 := (cP G bP u_7)) (w1 := (cP G bP u_9)) (wr := (cF 0 bF ++ cT G bT uT)) (w' := (cF 0 bF ++ cT G bT uT ++ cP G bP u_9)) C (cx_X5_putNumber l G bP u_7 (7 : Fin 8) (3 : Int64) u_9 _ h_8) (cwV 2 hts gx_X1_X5_putNumber_108 rfl rfl rfl hdx_X5_putNumber ⟨Nat.le_of_ble_eq_true rfl, Nat.le_of_ble_eq_true rfl⟩) hK hA hT hP hD hS (va_recv hK hP (ci := 2) (q0 := 14) rfl rfl) [14, 15] [0, 1, 2, 3, 4, 5, 6, 7, 8, 9, 10, 11, 12, 13] [0, 1, 2, 3, 4, 5, 6, 7, 8, 9, 10, 11, 12, 13, 14, 15] rfl rfl rfl rfl (by decide) rfl rfl rfl hl.1 rfl rfl (Nat.le_of_ble_eq_true rfl) dX1_putNameAndValues_37 (fun H locs hP hD hS => ?_)
    exact wx_X1_putNameAndValues_L_40 C hK hA hT u_9 x2 r_2 hf hP hD hS (lv_sub hl [2, 3, 4, 0] rfl)
theorem gx_X3_X7_has_84 {c0 : Cond} : GoodIn (c0 :: WAX) (wsV RX3 84 RX7 yX7_has wsx_X7_has) := gdx_v mx_375 mx_104 mx_105 mx_99 mx_106
theorem gx_X3_X5_putTimes_87 {c0 : Cond} : GoodIn (c0 :: WAX) (wsV RX3 87 RX5 yX5_putTimes wsx_X5_putTimes) := gdx_v mx_376 mx_377 mx_378 mx_266 mx_379
theorem gx_X3_X5_putKept_93 {c0 : Cond} : GoodIn (c0 :: WAX) (wsV RX3 93 RX5 yX5_putKept wsx_X5_putKept) := gdx_v mx_380 mx_381 mx_382 mx_266 mx_383
theorem gx_X3_X1_putNameAndValues_L_97 {c0 : Cond} : GoodIn (c0 :: WAX) (va_wsU RX3 97 RX3 "SchematicText$Form" ⟨"SchematicText$LineForm", "putNameAndValues", "(LSchematicText$Tree;ILSchematicText$Page;)V"⟩ yX1_putNameAndValues wsx_X1_putNameAndValues_L) := gdx_u mx_393 mx_394 mx_395 mx_396 mx_318 mx_261
theorem gx_X3_X5_put_101 {c0 : Cond} : GoodIn (c0 :: WAX) (wsV RX3 101 RX5 yX5_put wsx_X5_put) := gdx_v mx_397 mx_271 mx_272 mx_266 mx_273
theorem gx_X3_X7_follower_105 {c0 : Cond} : GoodIn (c0 :: WAX) (wsV RX3 105 RX7 yX7_follower wsx_X7_follower) := gdx_v mx_398 mx_399 mx_400 mx_99 mx_401
abbrev rmx_X3_tell_L : Room := { frames := 6, cells := 0, slots := 0, locals := 135 }
noncomputable abbrev wsx_X3_tell_L : List Cond := Cond.code yX3_tell cX3_tell 5 none :: WAX
theorem hdx_X3_tell_L : yX3_tell.cls = RX3 ∧ yX3_tell.cls ≠ "java/lang/invoke/MethodHandle" ∧ yX3_tell.cls ≠ "java/lang/invoke/VarHandle" ∧ (parseMethodDescriptor yX3_tell.desc).map (fun d => d.parameters.length) = some 2 := by decide +kernel
theorem hdo_X3_tell_L : "SchematicText$Form" ≠ "java/lang/invoke/MethodHandle" ∧ "SchematicText$Form" ≠ "java/lang/invoke/VarHandle" ∧ (parseMethodDescriptor "(LSchematicText$Tree;LSchematicText$Page;)V").map (fun d => d.parameters.length) = some 2 := by decide +kernel
def fx_X3_tell_L_59 (uT : Md) (k5 : Md → Int32 → Int32 → Option Md) (uP : Md) (x3 : Int32) (x4 : Int32) : Option Md := ((fx_X5_put uP (10 : Int32)).bind fun u_17 => ((fx_X7_follower uT x3).bind fun r_19 => (k5 u_17 r_19 (x4 + (1 : Int32)))))
set_option maxHeartbeats 4000000 in
set_option maxRecDepth 100000 in
theorem wx_X3_tell_L_59 {p : Program} {l : Launch} {e : Env} {s : State} {m : MethodId} {args : Array Value} {below : List Frame} {meth : Method} {c : Code} {G : Gx} {A : Nat → Prop} {bF : Nat → Nat} {bT : Nat → Nat} {bP : Nat → Nat} (C : Cx p s m args meth c cX3_tell 5 wsx_X3_tell_L RX3 none) {uT : Md} (hK : va_K (gD G) vwCl (tyG G) s) (hA : ∀ q : Nat, s.heap.size ≤ q → A q) (hT : ST G A s s.heap) {r : Md} (k5 : Md → Int32 → Int32 → Option Md) (ih5 : ∀ (uP : Md) (x3 : Int32) (x4 : Int32), k5 uP x3 x4 = some r → ∀ {H : Heap} {locs : List Loc}, va_P (gD G) vwCl (cF 0 bF ++ cT G bT uT ++ cP G bP uP) H → va_D A (cF 0 bF ++ cT G bT uT ++ cP G bP uP) → va_S A s.heap H locs → ∀ {ls : Array Slot}, lv_has ls 5 [(0, .ref (bF 0)), (1, .ref (bT 0)), (2, .ref (bP 0)), (3, .int x3), (4, .int x4)] → W p l e rmx_X3_tell_L s m args below meth c H locs 0 0 (MQ below (qW none (cF 0 bF ++ cT G bT uT ++ cP G bP r) (gD G) (tyG G) A) args s 0 0 A) (F0 m 5 ls [])) : ∀ (uP : Md) (x3 : Int32) (x4 : Int32), fx_X3_tell_L_59 uT k5 uP x3 x4 = some r → ∀ {H : Heap} {locs : List Loc}, va_P (gD G) vwCl (cF 0 bF ++ cT G bT uT ++ cP G bP uP) H → va_D A (cF 0 bF ++ cT G bT uT ++ cP G bP uP) → va_S A s.heap H locs → ∀ {ls : Array Slot}, lv_has ls 5 [(0, .ref (bF 0)), (1, .ref (bT 0)), (2, .ref (bP 0)), (3, .int x3), (4, .int x4)] → W p l e rmx_X3_tell_L s m args below meth c H locs 0 0 (MQ below (qW none (cF 0 bF ++ cT G bT uT ++ cP G bP r) (gD G) (tyG G) A) args s 0 0 A) (F0 m 59 ls []) := by
  have hx := C.1.1
  have hb := C.1.2.1
  have hts := C.1.2.2.2.2
  have hown := C.1.2.2.2.1
  have hin7 : ∀ w ∈ wsX70, w ∈ wsx_X3_tell_L := fun w h => List.mem_cons_of_mem _ (List.mem_append_right _ (List.mem_append_right _ (List.mem_append_right _ (List.mem_append_left _ h))))
  have hin5 : ∀ w ∈ wsX50, w ∈ wsx_X3_tell_L := fun w h => List.mem_cons_of_mem _ (List.mem_append_right _ (List.mem_append_left _ h))
  intro uP x3 x4 hf H locs hP hD hS ls hl
  unfold fx_X3_tell_L_59 at hf
  refine lv_aload_n hx hb dX3_tell_59 rfl (lv_at hl 2 rfl) ?_
  refine lv_bipush (v := (10 : Int32)) hx hb dX3_tell_60 (by decide) ?_
  obtain ⟨u_17, h_16, hf⟩ := og_b hf
  try dsimp only at hf
  refine xw_V (ov := none) (st1 := []) (rest := []) (w0 := (cP G bP uP)) (w1 := (cP G bP u_17)) (wr := (cF 0 bF ++ cT G bT uT)) (w' := (cF 0 bF ++ cT G bT uT ++ cP G bP u_17)) C (cx_X5_put l G bP uP (10 : Int32) u_17 _ h_16) (cwV 1 hts gx_X3_X5_put_101 rfl rfl rfl hdx_X5_put ⟨Nat.le_of_ble_eq_true rfl, Nat.le_of_ble_eq_true rfl⟩) hK hA hT hP hD hS (va_recv hK hP (ci := 2) (q0 := 14) rfl rfl) [14, 15] [0, 1, 2, 3, 4, 5, 6, 7, 8, 9, 10, 11, 12, 13] [0, 1, 2, 3, 4, 5, 6, 7, 8, 9, 10, 11, 12, 13, 14, 15] rfl rfl rfl rfl (by decide) rfl rfl rfl hl.1 rfl rfl (Nat.le_of_ble_eq_true rfl) dX3_tell_62 (fun H locs hP hD hS => ?_)
  refine lv_aload_n hx hb dX3_tell_65 rfl (lv_at hl 1 rfl) ?_
  refine lv_iload_n hx hb dX3_tell_66 rfl (lv_at hl 3 rfl) ?_
  obtain ⟨r_19, h_18, hf⟩ := og_b hf
  try dsimp only at hf
  refine xr_V (v := .int r_19) (rest := []) (w0 := (cT G bT uT)) C (cx_X7_follower l G bT uT x3 r_19 _ h_18) (cwV 1 hts gx_X3_X7_follower_105 rfl rfl rfl hdx_X7_follower ⟨Nat.le_of_ble_eq_true rfl, Nat.le_of_ble_eq_true rfl⟩) hK hA hT hP hD hS (va_recv hK hP (ci := 4) (q0 := 1) rfl rfl) [1, 2, 3, 4, 5, 6, 7, 8, 9, 10, 11, 12, 13] rfl rfl rfl hl.1 rfl (Nat.le_of_ble_eq_true rfl) dX3_tell_67 ?_
  refine lv_istore_n (lv' := [(3, .int r_19), (0, .ref (bF 0)), (1, .ref (bT 0)), (2, .ref (bP 0)), (4, .int x4)]) hx hb dX3_tell_70 rfl hl (by decide) rfl (fun ls hl => ?_)
  refine lv_iinc (v := (x4 + (1 : Int32))) (lv' := [(4, .int (x4 + (1 : Int32))), (3, .int r_19), (0, .ref (bF 0)), (1, .ref (bT 0)), (2, .ref (bP 0))]) hx hb dX3_tell_71 hl (k := 4) rfl rfl (by decide) rfl (fun ls hl => ?_)
  refine lv_goto (tgt := 5) hx hb dX3_tell_74 (by decide) ?_
  exact ih5 u_17 r_19 (x4 + (1 : Int32)) hf hP hD hS (lv_sub hl [2, 3, 4, 1, 0] rfl)
def fx_X3_tell_L_5 (uT : Md) : Nat → Md → Int32 → Int32 → Option Md
  | 0, _, _, _ => none
  | n + 1, uP, x3, x4 => (if (200 : Int32) ≤ x4 then (some uP) else ((fx_X7_has uT x3).bind fun r_3 => (if r_3 = 0 then (some uP) else ((fx_X7_depthOf uT x3).bind fun r_6 => ((fx_X5_putTimes uP (46 : Int32) r_6).bind fun u_8 => ((fx_X7_kindOf uT x3).bind fun r_10 => (if r_10 = (9 : Fin 10) then ((fx_X5_putKept uT u_8 x3).bind fun u_15 => (fx_X3_tell_L_59 uT (fx_X3_tell_L_5 uT n) u_15 x3 x4)) else ((fx_X1_putNameAndValues_L uT u_8 x3).bind fun u_13 => (fx_X3_tell_L_59 uT (fx_X3_tell_L_5 uT n) u_13 x3 x4)))))))))
set_option maxHeartbeats 4000000 in
set_option maxRecDepth 100000 in
theorem wx_X3_tell_L_5 {p : Program} {l : Launch} {e : Env} {s : State} {m : MethodId} {args : Array Value} {below : List Frame} {meth : Method} {c : Code} {G : Gx} {A : Nat → Prop} {bF : Nat → Nat} {bT : Nat → Nat} {bP : Nat → Nat} (C : Cx p s m args meth c cX3_tell 5 wsx_X3_tell_L RX3 none) {uT : Md} (hK : va_K (gD G) vwCl (tyG G) s) (hA : ∀ q : Nat, s.heap.size ≤ q → A q) (hT : ST G A s s.heap) {r : Md} : ∀ (n : Nat), ∀ (uP : Md) (x3 : Int32) (x4 : Int32), fx_X3_tell_L_5 uT n uP x3 x4 = some r → ∀ {H : Heap} {locs : List Loc}, va_P (gD G) vwCl (cF 0 bF ++ cT G bT uT ++ cP G bP uP) H → va_D A (cF 0 bF ++ cT G bT uT ++ cP G bP uP) → va_S A s.heap H locs → ∀ {ls : Array Slot}, lv_has ls 5 [(0, .ref (bF 0)), (1, .ref (bT 0)), (2, .ref (bP 0)), (3, .int x3), (4, .int x4)] → W p l e rmx_X3_tell_L s m args below meth c H locs 0 0 (MQ below (qW none (cF 0 bF ++ cT G bT uT ++ cP G bP r) (gD G) (tyG G) A) args s 0 0 A) (F0 m 5 ls []) := by
  have hx := C.1.1
  have hb := C.1.2.1
  have hts := C.1.2.2.2.2
  have hown := C.1.2.2.2.1
  have hin7 : ∀ w ∈ wsX70, w ∈ wsx_X3_tell_L := fun w h => List.mem_cons_of_mem _ (List.mem_append_right _ (List.mem_append_right _ (List.mem_append_right _ (List.mem_append_left _ h))))
  have hin5 : ∀ w ∈ wsX50, w ∈ wsx_X3_tell_L := fun w h => List.mem_cons_of_mem _ (List.mem_append_right _ (List.mem_append_left _ h))
  intro n
  induction n with
  | zero =>
    intro uP x3 x4 hf H locs hP hD hS ls hl
    cases hf
  | succ n ih =>
    intro uP x3 x4 hf H locs hP hD hS ls hl
    rw [fx_X3_tell_L_5] at hf
    refine lv_iload hx hb dX3_tell_5 (lv_at hl 4 rfl) ?_
    refine lv_sipush (v := (200 : Int32)) hx hb dX3_tell_7 (by decide) ?_
    refine lv_icmp_ge (tgt := 77) hx hb dX3_tell_10 (by decide) (fun c_1 => ?_) (fun c_1 => ?_)
    · replace hf := og_t c_1 hf
      obtain rfl := og_s hf
      exact rw_v C hK hP hD hS dX3_tell_77
    · replace hf := og_f c_1 hf
      refine lv_aload_n hx hb dX3_tell_13 rfl (lv_at hl 1 rfl) ?_
      refine lv_iload_n hx hb dX3_tell_14 rfl (lv_at hl 3 rfl) ?_
      obtain ⟨r_3, h_2, hf⟩ := og_b hf
      try dsimp only at hf
      refine xr_V (v := .int r_3) (rest := []) (w0 := (cT G bT uT)) C (cx_X7_has l G bT uT x3 r_3 _ h_2) (cwV 1 hts gx_X3_X7_has_84 rfl rfl rfl hdx_X7_has ⟨Nat.le_of_ble_eq_true rfl, Nat.le_of_ble_eq_true rfl⟩) hK hA hT hP hD hS (va_recv hK hP (ci := 4) (q0 := 1) rfl rfl) [1, 2, 3, 4, 5, 6, 7, 8, 9, 10, 11, 12, 13] rfl rfl rfl hl.1 rfl (Nat.le_of_ble_eq_true rfl) dX3_tell_15 ?_
      refine lv_if_eq (tgt := 77) hx hb dX3_tell_18 (by decide) (fun c_4 => ?_) (fun c_4 => ?_)
      · replace hf := og_t c_4 hf
        obtain rfl := og_s hf
        exact rw_v C hK hP hD hS dX3_tell_77
      · replace hf := og_f c_4 hf
        refine lv_aload_n hx hb dX3_tell_21 rfl (lv_at hl 2 rfl) ?_
        refine lv_bipush (v := (46 : Int32)) hx hb dX3_tell_22 (by decide) ?_
        refine lv_aload_n hx hb dX3_tell_24 rfl (lv_at hl 1 rfl) ?_
        refine lv_iload_n hx hb dX3_tell_25 rfl (lv_at hl 3 rfl) ?_
        obtain ⟨r_6, h_5, hf⟩ := og_b hf
        try dsimp only at hf
        refine xr_V (v := .int r_6) (rest := [.int (46 : Int32), .ref (bP 0)]) (w0 := (cT G bT uT)) C (cx_X7_depthOf l G bT uT x3 r_6 _ h_5) (cwV 1 hts gx_X3_X7_depthOf_21 rfl rfl rfl hdx_X7_depthOf ⟨Nat.le_of_ble_eq_true rfl, Nat.le_of_ble_eq_true rfl⟩) hK hA hT hP hD hS (va_recv hK hP (ci := 4) (q0 := 1) rfl rfl) [1, 2, 3, 4, 5, 6, 7, 8, 9, 10, 11, 12, 13] rfl rfl rfl hl.1 rfl (Nat.le_of_ble_eq_true rfl) dX3_tell_26 ?_
        obtain ⟨u_8, h_7, hf⟩ := og_b hf
        try dsimp only at hf
        refine xw_V (ov := none) (st1 := []) (rest := []) (w0 := (cP G bP uP)) (w1 := (cP G bP u_8)) (wr := (cF 0 bF ++ cT G bT uT)) (w' := (cF 0 bF ++ cT G bT uT ++ cP G bP u_8)) C (cx_X5_putTimes l G bP uP (46 : Int32) r_6 u_8 _ h_7) (cwV 2 hts gx_X3_X5_putTimes_87 rfl rfl rfl hdx_X5_putTimes ⟨Nat.le_of_ble_eq_true rfl, Nat.le_of_ble_eq_true rfl⟩) hK hA hT hP hD hS (va_recv hK hP (ci := 2) (q0 := 14) rfl rfl) [14, 15] [0, 1, 2, 3, 4, 5, 6, 7, 8, 9, 10, 11, 12, 13] [0, 1, 2, 3, 4, 5, 6, 7, 8, 9, 10, 11, 12, 13, 14, 15] rfl rfl rfl rfl (by decide) rfl rfl rfl hl.1 rfl rfl (Nat.le_of_ble_eq_true rfl) dX3_tell_29 (fun H locs hP hD hS => ?_)
        refine lv_aload_n hx hb dX3_tell_32 rfl (lv_at hl 1 rfl) ?_
        refine lv_iload_n hx hb dX3_tell_33 rfl (lv_at hl 3 rfl) ?_
        obtain ⟨r_10, h_9, hf⟩ := og_b hf
        try dsimp only at hf
        refine xr_V (v := .ref (gK G (r_10).val)) (rest := []) (w0 := (cT G bT uT)) C (cx_X7_kindOf l G bT uT x3 r_10 _ h_9) (cwV 1 hts gx_X3_X7_kindOf_45 rfl rfl rfl hdx_X7_kindOf ⟨Nat.le_of_ble_eq_true rfl, Nat.le_of_ble_eq_true rfl⟩) hK hA hT hP hD hS (va_recv hK hP (ci := 4) (q0 := 1) rfl rfl) [1, 2, 3, 4, 5, 6, 7, 8, 9, 10, 11, 12, 13] rfl rfl rfl hl.1 rfl (Nat.le_of_ble_eq_true rfl) dX3_tell_34 ?_
        refine xK (i := (9 : Fin 10)) C hT hS (hts (Cond.fieldLink RX3 49 "SchematicText$Kind" "UNKNOWN" "LSchematicText$Kind;") (List.mem_cons_of_mem _ mx_324)) dX3_tell_37 ?_
        refine xa_ne (i := r_10) (j := (9 : Fin 10)) (tgt := 52) C hT dX3_tell_40 (by decide) (fun c_11 => ?_) (fun c_11 => ?_)
        · replace hf := og_f c_11 hf
          refine lv_aload_n hx hb dX3_tell_52 rfl (lv_at hl 0 rfl) ?_
          refine lv_aload_n hx hb dX3_tell_53 rfl (lv_at hl 1 rfl) ?_
          refine lv_iload_n hx hb dX3_tell_54 rfl (lv_at hl 3 rfl) ?_
          refine lv_aload_n hx hb dX3_tell_55 rfl (lv_at hl 2 rfl) ?_
          obtain ⟨u_13, h_12, hf⟩ := og_b hf
          try dsimp only at hf
          refine xw_U (ov := none) (st1 := []) (rest := []) (w0 := (cF 0 bF ++ cT G bT uT ++ cP G bP u_8)) (w1 := (cF 0 bF ++ cT G bT uT ++ cP G bP u_13)) (wr := ([])) (w' := (cF 0 bF ++ cT G bT uT ++ cP G bP u_13)) C (cx_X1_putNameAndValues_L l G bF bT bP uT u_8 x3 u_13 _ h_12) (va_cwU 3 hts gx_X3_X1_putNameAndValues_L_97 rfl rfl rfl rfl hdo_X1_putNameAndValues_L ⟨Nat.le_of_ble_eq_true rfl, Nat.le_of_ble_eq_true rfl⟩) hK hA hT hP hD hS (va_recv hK hP (ci := 0) (q0 := 0) rfl rfl) [0, 1, 2, 3, 4, 5, 6, 7, 8, 9, 10, 11, 12, 13, 14, 15] [] [0, 1, 2, 3, 4, 5, 6, 7, 8, 9, 10, 11, 12, 13, 14, 15] rfl rfl rfl rfl (by decide) rfl rfl rfl hl.1 rfl rfl (Nat.le_of_ble_eq_true rfl) dX3_tell_56 (fun H locs hP hD hS => ?_)
          exact wx_X3_tell_L_59 C hK hA hT (fx_X3_tell_L_5 uT n) (fun _ _ _ h9 => ih _ _ _ h9) u_13 x3 x4 hf hP hD hS (lv_sub hl [0, 1, 2, 3, 4] rfl)
        · replace hf := og_t c_11 hf
          refine lv_aload_n hx hb dX3_tell_43 rfl (lv_at hl 2 rfl) ?_
          refine lv_aload_n hx hb dX3_tell_44 rfl (lv_at hl 1 rfl) ?_
          refine lv_iload_n hx hb dX3_tell_45 rfl (lv_at hl 3 rfl) ?_
          obtain ⟨u_15, h_14, hf⟩ := og_b hf
          try dsimp only at hf
          refine xw_V (ov := none) (st1 := []) (rest := []) (w0 := (cT G bT uT ++ cP G bP u_8)) (w1 := (cT G bT uT ++ cP G bP u_15)) (wr := (cF 0 bF)) (w' := (cF 0 bF ++ cT G bT uT ++ cP G bP u_15)) C (cx_X5_putKept l G bT bP uT u_8 x3 u_15 _ h_14) (cwV 2 hts gx_X3_X5_putKept_93 rfl rfl rfl hdx_X5_putKept ⟨Nat.le_of_ble_eq_true rfl, Nat.le_of_ble_eq_true rfl⟩) hK hA hT hP hD hS (va_recv hK hP (ci := 2) (q0 := 14) rfl rfl) [1, 2, 3, 4, 5, 6, 7, 8, 9, 10, 11, 12, 13, 14, 15] [0] [0, 1, 2, 3, 4, 5, 6, 7, 8, 9, 10, 11, 12, 13, 14, 15] rfl rfl rfl rfl (by decide) rfl rfl rfl hl.1 rfl rfl (Nat.le_of_ble_eq_true rfl) dX3_tell_46 (fun H locs hP hD hS => ?_)
          refine lv_goto (tgt := 59) hx hb dX3_tell_49 (by decide) ?_
          exact wx_X3_tell_L_59 C hK hA hT (fx_X3_tell_L_5 uT n) (fun _ _ _ h9 => ih _ _ _ h9) u_15 x3 x4 hf hP hD hS (lv_sub hl [0, 1, 2, 3, 4] rfl)
def fx_X3_tell_L (uT : Md) (uP : Md) : Option Md := (fx_X3_tell_L_5 uT FU uP (0 : Int32) (0 : Int32))
set_option maxHeartbeats 4000000 in
set_option maxRecDepth 100000 in
theorem cx_X3_tell_L (l : Launch) (G : Gx) (bF : Nat → Nat) (bT : Nat → Nat) (bP : Nat → Nat) (uT : Md) (uP : Md)  (vP : Md) (sz : Nat) (hf : fx_X3_tell_L uT uP = some vP) : Met l yX3_tell wsx_X3_tell_L rmx_X3_tell_L (pX G (cF 0 bF ++ cT G bT uT ++ cP G bP uP) sz [.ref (bF 0), .ref (bT 0), .ref (bP 0)]) (qW none (cF 0 bF ++ cT G bT uT ++ cP G bP vP) (gD G) (tyG G) (va_A (cF 0 bF ++ cT G bT uT ++ cP G bP uP) sz)) 0 0 (va_A (cF 0 bF ++ cT G bT uT ++ cP G bP uP) sz) := by
  refine mx_w (cc := cX3_tell) (maxL := 5) (ret := none) (by decide) rfl (Nat.le_of_ble_eq_true rfl) ?_
  intro p e s m below meth c ls A C hl hK hA hT hP hD hS
  have hl : lv_has ls 5 [(0, .ref (bF 0)), (1, .ref (bT 0)), (2, .ref (bP 0))] := hl
  have hx := C.1.1
  have hb := C.1.2.1
  have hts := C.1.2.2.2.2
  have hown := C.1.2.2.2.1
  have hin7 : ∀ w ∈ wsX70, w ∈ wsx_X3_tell_L := fun w h => List.mem_cons_of_mem _ (List.mem_append_right _ (List.mem_append_right _ (List.mem_append_right _ (List.mem_append_left _ h))))
  have hin5 : ∀ w ∈ wsX50, w ∈ wsx_X3_tell_L := fun w h => List.mem_cons_of_mem _ (List.mem_append_right _ (List.mem_append_left _ h))
  unfold fx_X3_tell_L at hf
  refine lv_iconst (v := (0 : Int32)) hx hb dX3_tell_0 (by decide) ?_
  refine lv_istore_n (lv' := [(3, .int (0 : Int32)), (0, .ref (bF 0)), (1, .ref (bT 0)), (2, .ref (bP 0))]) hx hb dX3_tell_1 rfl hl (by decide) rfl (fun ls hl => ?_)
  refine lv_iconst (v := (0 : Int32)) hx hb dX3_tell_2 (by decide) ?_
  refine lv_istore (lv' := [(4, .int (0 : Int32)), (3, .int (0 : Int32)), (0, .ref (bF 0)), (1, .ref (bT 0)), (2, .ref (bP 0))]) hx hb dX3_tell_3 hl (by decide) rfl (fun ls hl => ?_)
  exact wx_X3_tell_L_5 C hK hA hT FU uP (0 : Int32) (0 : Int32) hf hP hD hS (lv_sub hl [2, 3, 4, 1, 0] rfl)
abbrev rmx_X1_takeName_B : Room := { frames := 7, cells := 0, slots := 0, locals := 154 }
noncomputable abbrev wsx_X1_takeName_B : List Cond := Cond.code yX1_takeName cX1_takeName 7 (some .int) :: WAX
theorem hdx_X1_takeName_B : yX1_takeName.cls = RX1 ∧ yX1_takeName.cls ≠ "java/lang/invoke/MethodHandle" ∧ yX1_takeName.cls ≠ "java/lang/invoke/VarHandle" ∧ (parseMethodDescriptor yX1_takeName.desc).map (fun d => d.parameters.length) = some 3 := by decide +kernel
theorem hdo_X1_takeName_B : "SchematicText$Form" ≠ "java/lang/invoke/MethodHandle" ∧ "SchematicText$Form" ≠ "java/lang/invoke/VarHandle" ∧ (parseMethodDescriptor "(LSchematicText$Source;LSchematicText$Tree;I)I").map (fun d => d.parameters.length) = some 3 := by decide +kernel
def fx_X1_takeName_B_53 (uS : Md) (uT : Md) (x4 : Int32) (x6 : Int32) : Option (Int32 × Md × Md) := (if x6 = (-1 : Int32) then ((fx_X6_failAt uS x4).bind fun p_14 => (some (x6, p_14.2, uT))) else (some (x6, uS, uT)))
set_option maxHeartbeats 4000000 in
set_option maxRecDepth 100000 in
theorem wx_X1_takeName_B_53 {p : Program} {l : Launch} {e : Env} {s : State} {m : MethodId} {args : Array Value} {below : List Frame} {meth : Method} {c : Code} {G : Gx} {A : Nat → Prop} {bF : Nat → Nat} {bS : Nat → Nat} {bT : Nat → Nat} (C : Cx p s m args meth c cX1_takeName 7 wsx_X1_takeName_B RX1 (some .int)) (hK : va_K (gD G) vwCl (tyG G) s) (hA : ∀ q : Nat, s.heap.size ≤ q → A q) (hT : ST G A s s.heap) {r : (Int32 × Md × Md)} : ∀ (uS : Md) (uT : Md) (x4 : Int32) (x6 : Int32), fx_X1_takeName_B_53 uS uT x4 x6 = some r → ∀ {H : Heap} {locs : List Loc}, va_P (gD G) vwCl (cF 1 bF ++ cS G bS uS ++ cT G bT uT) H → va_D A (cF 1 bF ++ cS G bS uS ++ cT G bT uT) → va_S A s.heap H locs → ∀ {ls : Array Slot}, lv_has ls 7 [(1, .ref (bS 0)), (4, .int x4), (6, .int x6)] → W p l e rmx_X1_takeName_B s m args below meth c H locs 0 0 (MQ below (qW (some (.int r.1)) (cF 1 bF ++ cS G bS r.2.1 ++ cT G bT r.2.2) (gD G) (tyG G) A) args s 0 0 A) (F0 m 53 ls []) := by
  have hx := C.1.1
  have hb := C.1.2.1
  have hts := C.1.2.2.2.2
  have hown := C.1.2.2.2.1
  have hin6 : ∀ w ∈ wsX60, w ∈ wsx_X1_takeName_B := fun w h => List.mem_cons_of_mem _ (List.mem_append_right _ (List.mem_append_right _ (List.mem_append_left _ h)))
  have hin7 : ∀ w ∈ wsX70, w ∈ wsx_X1_takeName_B := fun w h => List.mem_cons_of_mem _ (List.mem_append_right _ (List.mem_append_right _ (List.mem_append_right _ (List.mem_append_left _ h))))
  intro uS uT x4 x6 hf H locs hP hD hS ls hl
  unfold fx_X1_takeName_B_53 at hf
  refine lv_iload hx hb dX1_takeName_53 (lv_at hl 2 rfl) ?_
  refine lv_iconst (v := (-1 : Int32)) hx hb dX1_takeName_55 (by decide) ?_
  refine lv_icmp_ne (tgt := 66) hx hb dX1_takeName_56 (by decide) (fun c_12 => ?_) (fun c_12 => ?_)
  · replace hf := og_f c_12 hf
    refine lv_iload hx hb dX1_takeName_66 (lv_at hl 2 rfl) ?_
    obtain rfl := og_s hf
    exact rw_i C hK hP hD hS dX1_takeName_68
  · replace hf := og_t c_12 hf
    refine lv_aload_n hx hb dX1_takeName_59 rfl (lv_at hl 0 rfl) ?_
    refine lv_iload hx hb dX1_takeName_60 (lv_at hl 1 rfl) ?_
    obtain ⟨⟨r_14, u_15⟩, h_13, hf⟩ := og_b hf
    try dsimp only at hf
    refine xw_V (ov := (some (.int r_14))) (st1 := [.int r_14]) (rest := []) (w0 := (cS G bS uS)) (w1 := (cS G bS u_15)) (wr := (cF 1 bF ++ cT G bT uT)) (w' := (cF 1 bF ++ cS G bS u_15 ++ cT G bT uT)) C (cx_X6_failAt l G bS uS x4 r_14 u_15 _ h_13) (cwV 1 hts gx_X1_X6_failAt_32 rfl rfl rfl hdx_X6_failAt ⟨Nat.le_of_ble_eq_true rfl, Nat.le_of_ble_eq_true rfl⟩) hK hA hT hP hD hS (va_recv hK hP (ci := 3) (q0 := 1) rfl rfl) [1, 2] [0, 3, 4, 5, 6, 7, 8, 9, 10, 11, 12, 13, 14, 15] [0, 14, 15, 1, 2, 3, 4, 5, 6, 7, 8, 9, 10, 11, 12, 13] rfl rfl rfl rfl (by decide) rfl rfl rfl hl.1 rfl rfl (Nat.le_of_ble_eq_true rfl) dX1_takeName_62 (fun H locs hP hD hS => ?_)
    refine lv_pop hx hb dX1_takeName_65 rfl ?_
    refine lv_iload hx hb dX1_takeName_66 (lv_at hl 2 rfl) ?_
    obtain rfl := og_s hf
    exact rw_i C hK hP hD hS dX1_takeName_68
def fx_X1_takeName_B (uS : Md) (uT : Md) (x3 : Int32) : Option (Int32 × Md × Md) := ((fx_X6_passLetters uS).bind fun u_2 => ((fx_X6_kindNamed u_2 (gi uS 2) (gi u_2 2)).bind fun r_4 => (if (gi u_2 2) ≤ (gi uS 2) then (fx_X1_takeName_B_53 u_2 uT (gi uS 2) (-1 : Int32)) else ((fx_X7_mayHold uT x3 r_4).bind fun r_7 => (if r_7 = 0 then (fx_X1_takeName_B_53 u_2 uT (gi uS 2) (-1 : Int32)) else ((fx_X7_grow uT x3 r_4).bind fun p_10 => (fx_X1_takeName_B_53 u_2 p_10.2 (gi uS 2) p_10.1)))))))
set_option maxHeartbeats 4000000 in
set_option maxRecDepth 100000 in
theorem cx_X1_takeName_B (l : Launch) (G : Gx) (bF : Nat → Nat) (bS : Nat → Nat) (bT : Nat → Nat) (uS : Md) (uT : Md) (x3 : Int32) (r : Int32) (vS : Md) (vT : Md) (sz : Nat) (hf : fx_X1_takeName_B uS uT x3 = some (r, vS, vT)) : Met l yX1_takeName wsx_X1_takeName_B rmx_X1_takeName_B (pX G (cF 1 bF ++ cS G bS uS ++ cT G bT uT) sz [.ref (bF 0), .ref (bS 0), .ref (bT 0), .int x3]) (qW (some (.int r)) (cF 1 bF ++ cS G bS vS ++ cT G bT vT) (gD G) (tyG G) (va_A (cF 1 bF ++ cS G bS uS ++ cT G bT uT) sz)) 0 0 (va_A (cF 1 bF ++ cS G bS uS ++ cT G bT uT) sz) := by
  refine mx_w (cc := cX1_takeName) (maxL := 7) (ret := (some .int)) (by decide) rfl (Nat.le_of_ble_eq_true rfl) ?_
  intro p e s m below meth c ls A C hl hK hA hT hP hD hS
  have hl : lv_has ls 7 [(0, .ref (bF 0)), (1, .ref (bS 0)), (2, .ref (bT 0)), (3, .int x3)] := hl
  have hx := C.1.1
  have hb := C.1.2.1
  have hts := C.1.2.2.2.2
  have hown := C.1.2.2.2.1
  have hin6 : ∀ w ∈ wsX60, w ∈ wsx_X1_takeName_B := fun w h => List.mem_cons_of_mem _ (List.mem_append_right _ (List.mem_append_right _ (List.mem_append_left _ h)))
  have hin7 : ∀ w ∈ wsX70, w ∈ wsx_X1_takeName_B := fun w h => List.mem_cons_of_mem _ (List.mem_append_right _ (List.mem_append_right _ (List.mem_append_right _ (List.mem_append_left _ h))))
  unfold fx_X1_takeName_B at hf
  refine lv_aload_n hx hb dX1_takeName_0 rfl (lv_at hl 1 rfl) ?_
  refine xgN (v := .int (gi uS 2)) (ci := 3) (K := RX6) (T := TX6) (N := 5) (host := "SchematicText") C hT hin6 hK hP 1 rfl rfl 2 (by decide) rfl (by decide +kernel) rfl dX1_takeName_1 ?_
  refine lv_istore (lv' := [(4, .int (gi uS 2)), (0, .ref (bF 0)), (1, .ref (bS 0)), (2, .ref (bT 0)), (3, .int x3)]) hx hb dX1_takeName_4 hl (by decide) rfl (fun ls hl => ?_)
  refine lv_aload_n hx hb dX1_takeName_6 rfl (lv_at hl 2 rfl) ?_
  obtain ⟨u_2, h_1, hf⟩ := og_b hf
  try dsimp only at hf
  refine xw_V (ov := none) (st1 := []) (rest := []) (w0 := (cS G bS uS)) (w1 := (cS G bS u_2)) (wr := (cF 1 bF ++ cT G bT uT)) (w' := (cF 1 bF ++ cS G bS u_2 ++ cT G bT uT)) C (cx_X6_passLetters l G bS uS u_2 _ h_1) (cwV 0 hts gx_X1_X6_passLetters_15 rfl rfl rfl hdx_X6_passLetters ⟨Nat.le_of_ble_eq_true rfl, Nat.le_of_ble_eq_true rfl⟩) hK hA hT hP hD hS (va_recv hK hP (ci := 3) (q0 := 1) rfl rfl) [1, 2] [0, 3, 4, 5, 6, 7, 8, 9, 10, 11, 12, 13, 14, 15] [0, 14, 15, 1, 2, 3, 4, 5, 6, 7, 8, 9, 10, 11, 12, 13] rfl rfl rfl rfl (by decide) rfl rfl rfl hl.1 rfl rfl (Nat.le_of_ble_eq_true rfl) dX1_takeName_7 (fun H locs hP hD hS => ?_)
  refine lv_aload_n hx hb dX1_takeName_10 rfl (lv_at hl 2 rfl) ?_
  refine lv_iload hx hb dX1_takeName_11 (lv_at hl 0 rfl) ?_
  refine lv_aload_n hx hb dX1_takeName_13 rfl (lv_at hl 2 rfl) ?_
  refine xgN (v := .int (gi u_2 2)) (ci := 3) (K := RX6) (T := TX6) (N := 5) (host := "SchematicText") C hT hin6 hK hP 1 rfl rfl 2 (by decide) rfl (by decide +kernel) rfl dX1_takeName_14 ?_
  obtain ⟨r_4, h_3, hf⟩ := og_b hf
  try dsimp only at hf
  refine xr_V (v := .ref (gK G (r_4).val)) (rest := []) (w0 := (cS G bS u_2)) C (cx_X6_kindNamed l G bS u_2 (gi uS 2) (gi u_2 2) r_4 _ h_3) (cwV 2 hts gx_X1_X6_kindNamed_18 rfl rfl rfl hdx_X6_kindNamed ⟨Nat.le_of_ble_eq_true rfl, Nat.le_of_ble_eq_true rfl⟩) hK hA hT hP hD hS (va_recv hK hP (ci := 3) (q0 := 1) rfl rfl) [1, 2] rfl rfl rfl hl.1 rfl (Nat.le_of_ble_eq_true rfl) dX1_takeName_17 ?_
  refine lv_astore (lv' := [(5, .ref (gK G (r_4).val)), (4, .int (gi uS 2)), (0, .ref (bF 0)), (1, .ref (bS 0)), (2, .ref (bT 0)), (3, .int x3)]) hx hb dX1_takeName_20 hl (by decide) rfl (fun ls hl => ?_)
  refine lv_iconst (v := (-1 : Int32)) hx hb dX1_takeName_22 (by decide) ?_
  refine lv_istore (lv' := [(6, .int (-1 : Int32)), (5, .ref (gK G (r_4).val)), (4, .int (gi uS 2)), (0, .ref (bF 0)), (1, .ref (bS 0)), (2, .ref (bT 0)), (3, .int x3)]) hx hb dX1_takeName_23 hl (by decide) rfl (fun ls hl => ?_)
  refine lv_aload_n hx hb dX1_takeName_25 rfl (lv_at hl 4 rfl) ?_
  refine xgN (v := .int (gi u_2 2)) (ci := 3) (K := RX6) (T := TX6) (N := 5) (host := "SchematicText") C hT hin6 hK hP 1 rfl rfl 2 (by decide) rfl (by decide +kernel) rfl dX1_takeName_26 ?_
  refine lv_iload hx hb dX1_takeName_29 (lv_at hl 2 rfl) ?_
  refine lv_icmp_le (tgt := 53) hx hb dX1_takeName_31 (by decide) (fun c_5 => ?_) (fun c_5 => ?_)
  · replace hf := og_t c_5 hf
    exact wx_X1_takeName_B_53 C hK hA hT u_2 uT (gi uS 2) (-1 : Int32) hf hP hD hS (lv_sub hl [4, 2, 0] rfl)
  · replace hf := og_f c_5 hf
    refine lv_aload_n hx hb dX1_takeName_34 rfl (lv_at hl 5 rfl) ?_
    refine lv_iload_n hx hb dX1_takeName_35 rfl (lv_at hl 6 rfl) ?_
    refine lv_aload hx hb dX1_takeName_36 (lv_at hl 1 rfl) ?_
    obtain ⟨r_7, h_6, hf⟩ := og_b hf
    try dsimp only at hf
    refine xr_V (v := .int r_7) (rest := []) (w0 := (cT G bT uT)) C (cx_X7_mayHold l G bT uT x3 r_4 r_7 _ h_6) (cwV 2 hts gx_X1_X7_mayHold_22 rfl rfl rfl hdx_X7_mayHold ⟨Nat.le_of_ble_eq_true rfl, Nat.le_of_ble_eq_true rfl⟩) hK hA hT hP hD hS (va_recv hK hP (ci := 4) (q0 := 3) rfl rfl) [3, 4, 5, 6, 7, 8, 9, 10, 11, 12, 13, 14, 15] rfl rfl rfl hl.1 rfl (Nat.le_of_ble_eq_true rfl) dX1_takeName_38 ?_
    refine lv_if_eq (tgt := 53) hx hb dX1_takeName_41 (by decide) (fun c_8 => ?_) (fun c_8 => ?_)
    · replace hf := og_t c_8 hf
      exact wx_X1_takeName_B_53 C hK hA hT u_2 uT (gi uS 2) (-1 : Int32) hf hP hD hS (lv_sub hl [4, 2, 0] rfl)
    · replace hf := og_f c_8 hf
      refine lv_aload_n hx hb dX1_takeName_44 rfl (lv_at hl 5 rfl) ?_
      refine lv_iload_n hx hb dX1_takeName_45 rfl (lv_at hl 6 rfl) ?_
      refine lv_aload hx hb dX1_takeName_46 (lv_at hl 1 rfl) ?_
      obtain ⟨⟨r_10, u_11⟩, h_9, hf⟩ := og_b hf
      try dsimp only at hf
      refine xw_V (ov := (some (.int r_10))) (st1 := [.int r_10]) (rest := []) (w0 := (cT G bT uT)) (w1 := (cT G bT u_11)) (wr := (cF 1 bF ++ cS G bS u_2)) (w' := (cF 1 bF ++ cS G bS u_2 ++ cT G bT u_11)) C (cx_X7_grow l G bT uT x3 r_4 r_10 u_11 _ h_9) (cwV 2 hts gx_X1_X7_grow_28 rfl rfl rfl hdx_X7_grow ⟨Nat.le_of_ble_eq_true rfl, Nat.le_of_ble_eq_true rfl⟩) hK hA hT hP hD hS (va_recv hK hP (ci := 4) (q0 := 3) rfl rfl) [3, 4, 5, 6, 7, 8, 9, 10, 11, 12, 13, 14, 15] [0, 1, 2] [0, 1, 2, 3, 4, 5, 6, 7, 8, 9, 10, 11, 12, 13, 14, 15] rfl rfl rfl rfl (by decide) rfl rfl rfl hl.1 rfl rfl (Nat.le_of_ble_eq_true rfl) dX1_takeName_48 (fun H locs hP hD hS => ?_)
      refine lv_istore (lv' := [(6, .int r_10), (5, .ref (gK G (r_4).val)), (4, .int (gi uS 2)), (0, .ref (bF 0)), (1, .ref (bS 0)), (2, .ref (bT 0)), (3, .int x3)]) hx hb dX1_takeName_51 hl (by decide) rfl (fun ls hl => ?_)
      exact wx_X1_takeName_B_53 C hK hA hT u_2 u_11 (gi uS 2) r_10 hf hP hD hS (lv_sub hl [4, 2, 0] rfl)
theorem gx_X4_X7_keptRoom_75 {c0 : Cond} : GoodIn (c0 :: WAX) (wsV RX4 75 RX7 yX7_keptRoom wsx_X7_keptRoom) := gdx_v mx_424 mx_356 mx_357 mx_99 mx_358
theorem gx_X4_X7_depthOf_48 {c0 : Cond} : GoodIn (c0 :: WAX) (wsV RX4 48 RX7 yX7_depthOf wsx_X7_depthOf) := gdx_v mx_410 mx_141 mx_142 mx_99 mx_143
theorem gx_X4_X6_mark_14 {c0 : Cond} : GoodIn (c0 :: WAX) (wsV RX4 14 RX6 yX6_mark wsx_X6_mark) := gdx_v mx_404 mx_27 mx_28 mx_22 mx_29
theorem gx_X4_X6_passQuoted_84 {c0 : Cond} : GoodIn (c0 :: WAX) (wsV RX4 84 RX6 yX6_passQuoted wsx_X6_passQuoted) := gdx_v mx_425 mx_426 mx_427 mx_22 mx_428
theorem gx_X4_X6_failAt_22 {c0 : Cond} : GoodIn (c0 :: WAX) (wsV RX4 22 RX6 yX6_failAt wsx_X6_failAt) := gdx_v mx_215 mx_188 mx_189 mx_22 mx_190
theorem gx_X4_X6_pass_32 {c0 : Cond} : GoodIn (c0 :: WAX) (wsV RX4 32 RX6 yX6_pass wsx_X6_pass) := gdx_v mx_411 mx_412 mx_413 mx_22 mx_414
theorem gx_X4_X7_keep_87 {c0 : Cond} : GoodIn (c0 :: WAX) (wsV RX4 87 RX7 yX7_keep wsx_X7_keep) := gdx_v mx_429 mx_361 mx_362 mx_99 mx_363
abbrev rmx_X4_keepList_B : Room := { frames := 3, cells := 0, slots := 0, locals := 62 }
noncomputable abbrev wsx_X4_keepList_B : List Cond := Cond.code yX4_keepList cX4_keepList 10 (some .boolean) :: WAX
theorem hdx_X4_keepList_B : yX4_keepList.cls = RX4 ∧ yX4_keepList.cls ≠ "java/lang/invoke/MethodHandle" ∧ yX4_keepList.cls ≠ "java/lang/invoke/VarHandle" ∧ (parseMethodDescriptor yX4_keepList.desc).map (fun d => d.parameters.length) = some 4 := by decide +kernel
theorem hdo_X4_keepList_B : "SchematicText$Form" ≠ "java/lang/invoke/MethodHandle" ∧ "SchematicText$Form" ≠ "java/lang/invoke/VarHandle" ∧ (parseMethodDescriptor "(LSchematicText$Source;LSchematicText$Tree;II)Z").map (fun d => d.parameters.length) = some 4 := by decide +kernel
def fx_X4_keepList_B_123 (k32 : Md → Md → Int32 → Int32 → Int32 → Int32 → Int32 → Int32 → Option (Int32 × Md × Md)) (uS : Md) (uT : Md) (x3 : Int32) (x4 : Int32) (x5 : Int32) (x6 : Int32) (x7 : Int32) (x8 : Int32) : Option (Int32 × Md × Md) := (k32 uS uT x3 x4 x5 x6 x7 (x8 + (1 : Int32)))
set_option maxHeartbeats 4000000 in
set_option maxRecDepth 100000 in
theorem wx_X4_keepList_B_123 {p : Program} {l : Launch} {e : Env} {s : State} {m : MethodId} {args : Array Value} {below : List Frame} {meth : Method} {c : Code} {G : Gx} {A : Nat → Prop} {bF : Nat → Nat} {bS : Nat → Nat} {bT : Nat → Nat} (C : Cx p s m args meth c cX4_keepList 10 wsx_X4_keepList_B RX4 (some .boolean)) (hK : va_K (gD G) vwCl (tyG G) s) (hA : ∀ q : Nat, s.heap.size ≤ q → A q) (hT : ST G A s s.heap) {r : (Int32 × Md × Md)} (k32 : Md → Md → Int32 → Int32 → Int32 → Int32 → Int32 → Int32 → Option (Int32 × Md × Md)) (ih32 : ∀ (uS : Md) (uT : Md) (x3 : Int32) (x4 : Int32) (x5 : Int32) (x6 : Int32) (x7 : Int32) (x8 : Int32), k32 uS uT x3 x4 x5 x6 x7 x8 = some r → ∀ {H : Heap} {locs : List Loc}, va_P (gD G) vwCl (cF 1 bF ++ cS G bS uS ++ cT G bT uT) H → va_D A (cF 1 bF ++ cS G bS uS ++ cT G bT uT) → va_S A s.heap H locs → ∀ {ls : Array Slot}, lv_has ls 10 [(1, .ref (bS 0)), (2, .ref (bT 0)), (3, .int x3), (4, .int x4), (5, .int x5), (6, .int x6), (7, .int x7), (8, .int x8)] → W p l e rmx_X4_keepList_B s m args below meth c H locs 0 0 (MQ below (qW (some (.int r.1)) (cF 1 bF ++ cS G bS r.2.1 ++ cT G bT r.2.2) (gD G) (tyG G) A) args s 0 0 A) (F0 m 32 ls [])) : ∀ (uS : Md) (uT : Md) (x3 : Int32) (x4 : Int32) (x5 : Int32) (x6 : Int32) (x7 : Int32) (x8 : Int32), fx_X4_keepList_B_123 k32 uS uT x3 x4 x5 x6 x7 x8 = some r → ∀ {H : Heap} {locs : List Loc}, va_P (gD G) vwCl (cF 1 bF ++ cS G bS uS ++ cT G bT uT) H → va_D A (cF 1 bF ++ cS G bS uS ++ cT G bT uT) → va_S A s.heap H locs → ∀ {ls : Array Slot}, lv_has ls 10 [(1, .ref (bS 0)), (2, .ref (bT 0)), (3, .int x3), (4, .int x4), (5, .int x5), (6, .int x6), (7, .int x7), (8, .int x8)] → W p l e rmx_X4_keepList_B s m args below meth c H locs 0 0 (MQ below (qW (some (.int r.1)) (cF 1 bF ++ cS G bS r.2.1 ++ cT G bT r.2.2) (gD G) (tyG G) A) args s 0 0 A) (F0 m 123 ls []) := by
  have hx := C.1.1
  have hb := C.1.2.1
  have hts := C.1.2.2.2.2
  have hown := C.1.2.2.2.1
  have hin6 : ∀ w ∈ wsX60, w ∈ wsx_X4_keepList_B := fun w h => List.mem_cons_of_mem _ (List.mem_append_right _ (List.mem_append_right _ (List.mem_append_left _ h)))
  have hin7 : ∀ w ∈ wsX70, w ∈ wsx_X4_keepList_B := fun w h => List.mem_cons_of_mem _ (List.mem_append_right _ (List.mem_append_right _ (List.mem_append_right _ (List.mem_append_left _ h))))
  intro uS uT x3 x4 x5 x6 x7 x8 hf H locs hP hD hS ls hl
  unfold fx_X4_keepList_B_123 at hf
  refine lv_iinc (v := (x8 + (1 : Int32))) (lv' := [(8, .int (x8 + (1 : Int32))), (1, .ref (bS 0)), (2, .ref (bT 0)), (3, .int x3), (4, .int x4), (5, .int x5), (6, .int x6), (7, .int x7)]) hx hb dX4_keepList_123 hl (k := 7) rfl rfl (by decide) rfl (fun ls hl => ?_)
  refine lv_goto (tgt := 32) hx hb dX4_keepList_126 (by decide) ?_
  exact ih32 uS uT x3 x4 x5 x6 x7 (x8 + (1 : Int32)) hf hP hD hS (lv_sub hl [1, 2, 3, 4, 5, 6, 7, 0] rfl)
def fx_X4_keepList_B_119 (k32 : Md → Md → Int32 → Int32 → Int32 → Int32 → Int32 → Int32 → Option (Int32 × Md × Md)) (uS : Md) (uT : Md) (x3 : Int32) (x4 : Int32) (x5 : Int32) (x6 : Int32) (x7 : Int32) (x8 : Int32) : Option (Int32 × Md × Md) := ((fx_X6_pass uS).bind fun u_30 => (fx_X4_keepList_B_123 k32 u_30 uT x3 x4 x5 x6 x7 x8))
set_option maxHeartbeats 4000000 in
set_option maxRecDepth 100000 in
theorem wx_X4_keepList_B_119 {p : Program} {l : Launch} {e : Env} {s : State} {m : MethodId} {args : Array Value} {below : List Frame} {meth : Method} {c : Code} {G : Gx} {A : Nat → Prop} {bF : Nat → Nat} {bS : Nat → Nat} {bT : Nat → Nat} (C : Cx p s m args meth c cX4_keepList 10 wsx_X4_keepList_B RX4 (some .boolean)) (hK : va_K (gD G) vwCl (tyG G) s) (hA : ∀ q : Nat, s.heap.size ≤ q → A q) (hT : ST G A s s.heap) {r : (Int32 × Md × Md)} (k32 : Md → Md → Int32 → Int32 → Int32 → Int32 → Int32 → Int32 → Option (Int32 × Md × Md)) (ih32 : ∀ (uS : Md) (uT : Md) (x3 : Int32) (x4 : Int32) (x5 : Int32) (x6 : Int32) (x7 : Int32) (x8 : Int32), k32 uS uT x3 x4 x5 x6 x7 x8 = some r → ∀ {H : Heap} {locs : List Loc}, va_P (gD G) vwCl (cF 1 bF ++ cS G bS uS ++ cT G bT uT) H → va_D A (cF 1 bF ++ cS G bS uS ++ cT G bT uT) → va_S A s.heap H locs → ∀ {ls : Array Slot}, lv_has ls 10 [(1, .ref (bS 0)), (2, .ref (bT 0)), (3, .int x3), (4, .int x4), (5, .int x5), (6, .int x6), (7, .int x7), (8, .int x8)] → W p l e rmx_X4_keepList_B s m args below meth c H locs 0 0 (MQ below (qW (some (.int r.1)) (cF 1 bF ++ cS G bS r.2.1 ++ cT G bT r.2.2) (gD G) (tyG G) A) args s 0 0 A) (F0 m 32 ls [])) : ∀ (uS : Md) (uT : Md) (x3 : Int32) (x4 : Int32) (x5 : Int32) (x6 : Int32) (x7 : Int32) (x8 : Int32), fx_X4_keepList_B_119 k32 uS uT x3 x4 x5 x6 x7 x8 = some r → ∀ {H : Heap} {locs : List Loc}, va_P (gD G) vwCl (cF 1 bF ++ cS G bS uS ++ cT G bT uT) H → va_D A (cF 1 bF ++ cS G bS uS ++ cT G bT uT) → va_S A s.heap H locs → ∀ {ls : Array Slot}, lv_has ls 10 [(1, .ref (bS 0)), (2, .ref (bT 0)), (3, .int x3), (4, .int x4), (5, .int x5), (6, .int x6), (7, .int x7), (8, .int x8)] → W p l e rmx_X4_keepList_B s m args below meth c H locs 0 0 (MQ below (qW (some (.int r.1)) (cF 1 bF ++ cS G bS r.2.1 ++ cT G bT r.2.2) (gD G) (tyG G) A) args s 0 0 A) (F0 m 119 ls []) := by
  have hx := C.1.1
  have hb := C.1.2.1
  have hts := C.1.2.2.2.2
  have hown := C.1.2.2.2.1
  have hin6 : ∀ w ∈ wsX60, w ∈ wsx_X4_keepList_B := fun w h => List.mem_cons_of_mem _ (List.mem_append_right _ (List.mem_append_right _ (List.mem_append_left _ h)))
  have hin7 : ∀ w ∈ wsX70, w ∈ wsx_X4_keepList_B := fun w h => List.mem_cons_of_mem _ (List.mem_append_right _ (List.mem_append_right _ (List.mem_append_right _ (List.mem_append_left _ h))))
  intro uS uT x3 x4 x5 x6 x7 x8 hf H locs hP hD hS ls hl
  unfold fx_X4_keepList_B_119 at hf
  refine lv_aload_n hx hb dX4_keepList_119 rfl (lv_at hl 0 rfl) ?_
  obtain ⟨u_30, h_29, hf⟩ := og_b hf
  try dsimp only at hf
  refine xw_V (ov := none) (st1 := []) (rest := []) (w0 := (cS G bS uS)) (w1 := (cS G bS u_30)) (wr := (cF 1 bF ++ cT G bT uT)) (w' := (cF 1 bF ++ cS G bS u_30 ++ cT G bT uT)) C (cx_X6_pass l G bS uS u_30 _ h_29) (cwV 0 hts gx_X4_X6_pass_32 rfl rfl rfl hdx_X6_pass ⟨Nat.le_of_ble_eq_true rfl, Nat.le_of_ble_eq_true rfl⟩) hK hA hT hP hD hS (va_recv hK hP (ci := 3) (q0 := 1) rfl rfl) [1, 2] [0, 3, 4, 5, 6, 7, 8, 9, 10, 11, 12, 13, 14, 15] [0, 14, 15, 1, 2, 3, 4, 5, 6, 7, 8, 9, 10, 11, 12, 13] rfl rfl rfl rfl (by decide) rfl rfl rfl hl.1 rfl rfl (Nat.le_of_ble_eq_true rfl) dX4_keepList_120 (fun H locs hP hD hS => ?_)
  exact wx_X4_keepList_B_123 C hK hA hT k32 (fun _ _ _ _ _ _ _ _ h9 => ih32 _ _ _ _ _ _ _ _ h9) u_30 uT x3 x4 x5 x6 x7 x8 hf hP hD hS (lv_sub hl [0, 1, 2, 3, 4, 5, 6, 7] rfl)
def fx_X4_keepList_B_129 (uS : Md) (uT : Md) (x3 : Int32) (x4 : Int32) (x5 : Int32) (x6 : Int32) (x7 : Int32) : Option (Int32 × Md × Md) := (if x7 ≤ x6 then ((fx_X7_keep uS uT x3 x4 (gi uS 2)).bind fun u_24 => (some ((1 : Int32), uS, u_24))) else ((fx_X6_failAt uS x5).bind fun p_26 => ((if p_26.1 = 0 ∨ p_26.1 = 1 then some (p_26.1, p_26.2, uT) else none))))
set_option maxHeartbeats 4000000 in
set_option maxRecDepth 100000 in
theorem wx_X4_keepList_B_129 {p : Program} {l : Launch} {e : Env} {s : State} {m : MethodId} {args : Array Value} {below : List Frame} {meth : Method} {c : Code} {G : Gx} {A : Nat → Prop} {bF : Nat → Nat} {bS : Nat → Nat} {bT : Nat → Nat} (C : Cx p s m args meth c cX4_keepList 10 wsx_X4_keepList_B RX4 (some .boolean)) (hK : va_K (gD G) vwCl (tyG G) s) (hA : ∀ q : Nat, s.heap.size ≤ q → A q) (hT : ST G A s s.heap) {r : (Int32 × Md × Md)} : ∀ (uS : Md) (uT : Md) (x3 : Int32) (x4 : Int32) (x5 : Int32) (x6 : Int32) (x7 : Int32), fx_X4_keepList_B_129 uS uT x3 x4 x5 x6 x7 = some r → ∀ {H : Heap} {locs : List Loc}, va_P (gD G) vwCl (cF 1 bF ++ cS G bS uS ++ cT G bT uT) H → va_D A (cF 1 bF ++ cS G bS uS ++ cT G bT uT) → va_S A s.heap H locs → ∀ {ls : Array Slot}, lv_has ls 10 [(1, .ref (bS 0)), (2, .ref (bT 0)), (3, .int x3), (4, .int x4), (5, .int x5), (6, .int x6), (7, .int x7)] → W p l e rmx_X4_keepList_B s m args below meth c H locs 0 0 (MQ below (qW (some (.int r.1)) (cF 1 bF ++ cS G bS r.2.1 ++ cT G bT r.2.2) (gD G) (tyG G) A) args s 0 0 A) (F0 m 129 ls []) := by
  have hx := C.1.1
  have hb := C.1.2.1
  have hts := C.1.2.2.2.2
  have hown := C.1.2.2.2.1
  have hin6 : ∀ w ∈ wsX60, w ∈ wsx_X4_keepList_B := fun w h => List.mem_cons_of_mem _ (List.mem_append_right _ (List.mem_append_right _ (List.mem_append_left _ h)))
  have hin7 : ∀ w ∈ wsX70, w ∈ wsx_X4_keepList_B := fun w h => List.mem_cons_of_mem _ (List.mem_append_right _ (List.mem_append_right _ (List.mem_append_right _ (List.mem_append_left _ h))))
  intro uS uT x3 x4 x5 x6 x7 hf H locs hP hD hS ls hl
  unfold fx_X4_keepList_B_129 at hf
  refine lv_iload hx hb dX4_keepList_129 (lv_at hl 6 rfl) ?_
  refine lv_iload hx hb dX4_keepList_131 (lv_at hl 5 rfl) ?_
  refine lv_icmp_le (tgt := 143) hx hb dX4_keepList_133 (by decide) (fun c_22 => ?_) (fun c_22 => ?_)
  · replace hf := og_t c_22 hf
    refine lv_aload_n hx hb dX4_keepList_143 rfl (lv_at hl 1 rfl) ?_
    refine lv_iload_n hx hb dX4_keepList_144 rfl (lv_at hl 2 rfl) ?_
    refine lv_aload_n hx hb dX4_keepList_145 rfl (lv_at hl 0 rfl) ?_
    refine lv_iload hx hb dX4_keepList_146 (lv_at hl 3 rfl) ?_
    refine lv_aload_n hx hb dX4_keepList_148 rfl (lv_at hl 0 rfl) ?_
    refine xgN (v := .int (gi uS 2)) (ci := 3) (K := RX6) (T := TX6) (N := 5) (host := "SchematicText") C hT hin6 hK hP 1 rfl rfl 2 (by decide) rfl (by decide +kernel) rfl dX4_keepList_149 ?_
    obtain ⟨u_24, h_23, hf⟩ := og_b hf
    try dsimp only at hf
    refine xw_V (ov := none) (st1 := []) (rest := []) (w0 := (cS G bS uS ++ cT G bT uT)) (w1 := (cS G bS uS ++ cT G bT u_24)) (wr := (cF 1 bF)) (w' := (cF 1 bF ++ cS G bS uS ++ cT G bT u_24)) C (cx_X7_keep l G bS bT uS uT x3 x4 (gi uS 2) u_24 _ h_23) (cwV 4 hts gx_X4_X7_keep_87 rfl rfl rfl hdx_X7_keep ⟨Nat.le_of_ble_eq_true rfl, Nat.le_of_ble_eq_true rfl⟩) hK hA hT hP hD hS (va_recv hK hP (ci := 4) (q0 := 3) rfl rfl) [1, 2, 3, 4, 5, 6, 7, 8, 9, 10, 11, 12, 13, 14, 15] [0] [0, 1, 2, 3, 4, 5, 6, 7, 8, 9, 10, 11, 12, 13, 14, 15] rfl rfl rfl rfl (by decide) rfl rfl rfl hl.1 rfl rfl (Nat.le_of_ble_eq_true rfl) dX4_keepList_152 (fun H locs hP hD hS => ?_)
    refine lv_iconst (v := (1 : Int32)) hx hb dX4_keepList_155 (by decide) ?_
    obtain rfl := og_s hf
    exact rw_z C hK hP hD hS (nz_z (Or.inr rfl)) dX4_keepList_156
  · replace hf := og_f c_22 hf
    refine lv_aload_n hx hb dX4_keepList_136 rfl (lv_at hl 0 rfl) ?_
    refine lv_iload hx hb dX4_keepList_137 (lv_at hl 4 rfl) ?_
    obtain ⟨⟨r_26, u_27⟩, h_25, hf⟩ := og_b hf
    try dsimp only at hf
    refine xw_V (ov := (some (.int r_26))) (st1 := [.int r_26]) (rest := []) (w0 := (cS G bS uS)) (w1 := (cS G bS u_27)) (wr := (cF 1 bF ++ cT G bT uT)) (w' := (cF 1 bF ++ cS G bS u_27 ++ cT G bT uT)) C (cx_X6_failAt l G bS uS x5 r_26 u_27 _ h_25) (cwV 1 hts gx_X4_X6_failAt_22 rfl rfl rfl hdx_X6_failAt ⟨Nat.le_of_ble_eq_true rfl, Nat.le_of_ble_eq_true rfl⟩) hK hA hT hP hD hS (va_recv hK hP (ci := 3) (q0 := 1) rfl rfl) [1, 2] [0, 3, 4, 5, 6, 7, 8, 9, 10, 11, 12, 13, 14, 15] [0, 14, 15, 1, 2, 3, 4, 5, 6, 7, 8, 9, 10, 11, 12, 13] rfl rfl rfl rfl (by decide) rfl rfl rfl hl.1 rfl rfl (Nat.le_of_ble_eq_true rfl) dX4_keepList_139 (fun H locs hP hD hS => ?_)
    obtain ⟨h_28, hf⟩ := og_p hf
    obtain rfl := og_s hf
    exact rw_z C hK hP hD hS (nz_z h_28) dX4_keepList_142
def fx_X4_keepList_B_32 : Nat → Md → Md → Int32 → Int32 → Int32 → Int32 → Int32 → Int32 → Option (Int32 × Md × Md)
  | 0, _, _, _, _, _, _, _, _ => none
  | n + 1, uS, uT, x3, x4, x5, x6, x7, x8 => (if (4000 : Int32) ≤ x8 then (fx_X4_keepList_B_129 uS uT x3 x4 x5 x6 x7) else (if x5 ≤ (gi uS 2) then (fx_X4_keepList_B_129 uS uT x3 x4 x5 x6 x7) else (if x7 ≤ x6 then (fx_X4_keepList_B_129 uS uT x3 x4 x5 x6 x7) else ((fx_X6_mark uS).bind fun r_9 => (if r_9 = (34 : Int32) then ((fx_X6_passQuoted uS x5).bind fun p_19 => (if p_19.1 = 0 then (some ((0 : Int32), p_19.2, uT)) else (fx_X4_keepList_B_123 (fx_X4_keepList_B_32 n) p_19.2 uT x3 x4 x5 x6 x7 x8))) else (if r_9 = (40 : Int32) then (if x7 < (100 : Int32) then (fx_X4_keepList_B_119 (fx_X4_keepList_B_32 n) uS uT x3 x4 x5 x6 (x7 + (1 : Int32)) x8) else ((fx_X6_failAt uS (gi uS 2)).bind fun p_15 => ((if p_15.1 = 0 ∨ p_15.1 = 1 then some (p_15.1, p_15.2, uT) else none)))) else (if r_9 = (41 : Int32) then (fx_X4_keepList_B_119 (fx_X4_keepList_B_32 n) uS uT x3 x4 x5 x6 (x7 + (-1 : Int32)) x8) else (fx_X4_keepList_B_119 (fx_X4_keepList_B_32 n) uS uT x3 x4 x5 x6 x7 x8))))))))
set_option maxHeartbeats 4000000 in
set_option maxRecDepth 100000 in
theorem wx_X4_keepList_B_32 {p : Program} {l : Launch} {e : Env} {s : State} {m : MethodId} {args : Array Value} {below : List Frame} {meth : Method} {c : Code} {G : Gx} {A : Nat → Prop} {bF : Nat → Nat} {bS : Nat → Nat} {bT : Nat → Nat} (C : Cx p s m args meth c cX4_keepList 10 wsx_X4_keepList_B RX4 (some .boolean)) (hK : va_K (gD G) vwCl (tyG G) s) (hA : ∀ q : Nat, s.heap.size ≤ q → A q) (hT : ST G A s s.heap) {r : (Int32 × Md × Md)} : ∀ (n : Nat), ∀ (uS : Md) (uT : Md) (x3 : Int32) (x4 : Int32) (x5 : Int32) (x6 : Int32) (x7 : Int32) (x8 : Int32), fx_X4_keepList_B_32 n uS uT x3 x4 x5 x6 x7 x8 = some r → ∀ {H : Heap} {locs : List Loc}, va_P (gD G) vwCl (cF 1 bF ++ cS G bS uS ++ cT G bT uT) H → va_D A (cF 1 bF ++ cS G bS uS ++ cT G bT uT) → va_S A s.heap H locs → ∀ {ls : Array Slot}, lv_has ls 10 [(1, .ref (bS 0)), (2, .ref (bT 0)), (3, .int x3), (4, .int x4), (5, .int x5), (6, .int x6), (7, .int x7), (8, .int x8)] → W p l e rmx_X4_keepList_B s m args below meth c H locs 0 0 (MQ below (qW (some (.int r.1)) (cF 1 bF ++ cS G bS r.2.1 ++ cT G bT r.2.2) (gD G) (tyG G) A) args s 0 0 A) (F0 m 32 ls []) := by
  have hx := C.1.1
  have hb := C.1.2.1
  have hts := C.1.2.2.2.2
  have hown := C.1.2.2.2.1
  have hin6 : ∀ w ∈ wsX60, w ∈ wsx_X4_keepList_B := fun w h => List.mem_cons_of_mem _ (List.mem_append_right _ (List.mem_append_right _ (List.mem_append_left _ h)))
  have hin7 : ∀ w ∈ wsX70, w ∈ wsx_X4_keepList_B := fun w h => List.mem_cons_of_mem _ (List.mem_append_right _ (List.mem_append_right _ (List.mem_append_right _ (List.mem_append_left _ h))))
  intro n
  induction n with
  | zero =>
    intro uS uT x3 x4 x5 x6 x7 x8 hf H locs hP hD hS ls hl
    cases hf
  | succ n ih =>
    intro uS uT x3 x4 x5 x6 x7 x8 hf H locs hP hD hS ls hl
    rw [fx_X4_keepList_B_32] at hf
    refine lv_iload hx hb dX4_keepList_32 (lv_at hl 7 rfl) ?_
    refine lv_sipush (v := (4000 : Int32)) hx hb dX4_keepList_34 (by decide) ?_
    refine lv_icmp_ge (tgt := 129) hx hb dX4_keepList_37 (by decide) (fun c_5 => ?_) (fun c_5 => ?_)
    · replace hf := og_t c_5 hf
      exact wx_X4_keepList_B_129 C hK hA hT uS uT x3 x4 x5 x6 x7 hf hP hD hS (lv_sub hl [0, 1, 2, 3, 4, 5, 6] rfl)
    · replace hf := og_f c_5 hf
      refine lv_aload_n hx hb dX4_keepList_40 rfl (lv_at hl 0 rfl) ?_
      refine xgN (v := .int (gi uS 2)) (ci := 3) (K := RX6) (T := TX6) (N := 5) (host := "SchematicText") C hT hin6 hK hP 1 rfl rfl 2 (by decide) rfl (by decide +kernel) rfl dX4_keepList_41 ?_
      refine lv_iload hx hb dX4_keepList_44 (lv_at hl 4 rfl) ?_
      refine lv_icmp_ge (tgt := 129) hx hb dX4_keepList_46 (by decide) (fun c_6 => ?_) (fun c_6 => ?_)
      · replace hf := og_t c_6 hf
        exact wx_X4_keepList_B_129 C hK hA hT uS uT x3 x4 x5 x6 x7 hf hP hD hS (lv_sub hl [0, 1, 2, 3, 4, 5, 6] rfl)
      · replace hf := og_f c_6 hf
        refine lv_iload hx hb dX4_keepList_49 (lv_at hl 6 rfl) ?_
        refine lv_iload hx hb dX4_keepList_51 (lv_at hl 5 rfl) ?_
        refine lv_icmp_le (tgt := 129) hx hb dX4_keepList_53 (by decide) (fun c_7 => ?_) (fun c_7 => ?_)
        · replace hf := og_t c_7 hf
          exact wx_X4_keepList_B_129 C hK hA hT uS uT x3 x4 x5 x6 x7 hf hP hD hS (lv_sub hl [0, 1, 2, 3, 4, 5, 6] rfl)
        · replace hf := og_f c_7 hf
          refine lv_aload_n hx hb dX4_keepList_56 rfl (lv_at hl 0 rfl) ?_
          obtain ⟨r_9, h_8, hf⟩ := og_b hf
          try dsimp only at hf
          refine xr_V (v := .int r_9) (rest := []) (w0 := (cS G bS uS)) C (cx_X6_mark l G bS uS r_9 _ h_8) (cwV 0 hts gx_X4_X6_mark_14 rfl rfl rfl hdx_X6_mark ⟨Nat.le_of_ble_eq_true rfl, Nat.le_of_ble_eq_true rfl⟩) hK hA hT hP hD hS (va_recv hK hP (ci := 3) (q0 := 1) rfl rfl) [1, 2] rfl rfl rfl hl.1 rfl (Nat.le_of_ble_eq_true rfl) dX4_keepList_57 ?_
          refine lv_istore (lv' := [(9, .int r_9), (1, .ref (bS 0)), (2, .ref (bT 0)), (3, .int x3), (4, .int x4), (5, .int x5), (6, .int x6), (7, .int x7), (8, .int x8)]) hx hb dX4_keepList_60 hl (by decide) rfl (fun ls hl => ?_)
          refine lv_iload hx hb dX4_keepList_62 (lv_at hl 0 rfl) ?_
          refine lv_bipush (v := (34 : Int32)) hx hb dX4_keepList_64 (by decide) ?_
          refine lv_icmp_ne (tgt := 80) hx hb dX4_keepList_66 (by decide) (fun c_10 => ?_) (fun c_10 => ?_)
          · replace hf := og_f c_10 hf
            refine lv_iload hx hb dX4_keepList_80 (lv_at hl 0 rfl) ?_
            refine lv_bipush (v := (40 : Int32)) hx hb dX4_keepList_82 (by decide) ?_
            refine lv_icmp_ne (tgt := 109) hx hb dX4_keepList_84 (by decide) (fun c_11 => ?_) (fun c_11 => ?_)
            · replace hf := og_f c_11 hf
              refine lv_iload hx hb dX4_keepList_109 (lv_at hl 0 rfl) ?_
              refine lv_bipush (v := (41 : Int32)) hx hb dX4_keepList_111 (by decide) ?_
              refine lv_icmp_ne (tgt := 119) hx hb dX4_keepList_113 (by decide) (fun c_12 => ?_) (fun c_12 => ?_)
              · replace hf := og_f c_12 hf
                exact wx_X4_keepList_B_119 C hK hA hT (fx_X4_keepList_B_32 n) (fun _ _ _ _ _ _ _ _ h9 => ih _ _ _ _ _ _ _ _ h9) uS uT x3 x4 x5 x6 x7 x8 hf hP hD hS (lv_sub hl [1, 2, 3, 4, 5, 6, 7, 8] rfl)
              · replace hf := og_t c_12 hf
                refine lv_iinc (v := (x7 + (-1 : Int32))) (lv' := [(7, .int (x7 + (-1 : Int32))), (9, .int r_9), (1, .ref (bS 0)), (2, .ref (bT 0)), (3, .int x3), (4, .int x4), (5, .int x5), (6, .int x6), (8, .int x8)]) hx hb dX4_keepList_116 hl (k := 7) rfl rfl (by decide) rfl (fun ls hl => ?_)
                exact wx_X4_keepList_B_119 C hK hA hT (fx_X4_keepList_B_32 n) (fun _ _ _ _ _ _ _ _ h9 => ih _ _ _ _ _ _ _ _ h9) uS uT x3 x4 x5 x6 (x7 + (-1 : Int32)) x8 hf hP hD hS (lv_sub hl [2, 3, 4, 5, 6, 7, 0, 8] rfl)
            · replace hf := og_t c_11 hf
              refine lv_iload hx hb dX4_keepList_87 (lv_at hl 7 rfl) ?_
              refine lv_bipush (v := (100 : Int32)) hx hb dX4_keepList_89 (by decide) ?_
              refine lv_icmp_lt (tgt := 103) hx hb dX4_keepList_91 (by decide) (fun c_13 => ?_) (fun c_13 => ?_)
              · replace hf := og_t c_13 hf
                refine lv_iinc (v := (x7 + (1 : Int32))) (lv' := [(7, .int (x7 + (1 : Int32))), (9, .int r_9), (1, .ref (bS 0)), (2, .ref (bT 0)), (3, .int x3), (4, .int x4), (5, .int x5), (6, .int x6), (8, .int x8)]) hx hb dX4_keepList_103 hl (k := 7) rfl rfl (by decide) rfl (fun ls hl => ?_)
                refine lv_goto (tgt := 119) hx hb dX4_keepList_106 (by decide) ?_
                exact wx_X4_keepList_B_119 C hK hA hT (fx_X4_keepList_B_32 n) (fun _ _ _ _ _ _ _ _ h9 => ih _ _ _ _ _ _ _ _ h9) uS uT x3 x4 x5 x6 (x7 + (1 : Int32)) x8 hf hP hD hS (lv_sub hl [2, 3, 4, 5, 6, 7, 0, 8] rfl)
              · replace hf := og_f c_13 hf
                refine lv_aload_n hx hb dX4_keepList_94 rfl (lv_at hl 1 rfl) ?_
                refine lv_aload_n hx hb dX4_keepList_95 rfl (lv_at hl 1 rfl) ?_
                refine xgN (v := .int (gi uS 2)) (ci := 3) (K := RX6) (T := TX6) (N := 5) (host := "SchematicText") C hT hin6 hK hP 1 rfl rfl 2 (by decide) rfl (by decide +kernel) rfl dX4_keepList_96 ?_
                obtain ⟨⟨r_15, u_16⟩, h_14, hf⟩ := og_b hf
                try dsimp only at hf
                refine xw_V (ov := (some (.int r_15))) (st1 := [.int r_15]) (rest := []) (w0 := (cS G bS uS)) (w1 := (cS G bS u_16)) (wr := (cF 1 bF ++ cT G bT uT)) (w' := (cF 1 bF ++ cS G bS u_16 ++ cT G bT uT)) C (cx_X6_failAt l G bS uS (gi uS 2) r_15 u_16 _ h_14) (cwV 1 hts gx_X4_X6_failAt_22 rfl rfl rfl hdx_X6_failAt ⟨Nat.le_of_ble_eq_true rfl, Nat.le_of_ble_eq_true rfl⟩) hK hA hT hP hD hS (va_recv hK hP (ci := 3) (q0 := 1) rfl rfl) [1, 2] [0, 3, 4, 5, 6, 7, 8, 9, 10, 11, 12, 13, 14, 15] [0, 14, 15, 1, 2, 3, 4, 5, 6, 7, 8, 9, 10, 11, 12, 13] rfl rfl rfl rfl (by decide) rfl rfl rfl hl.1 rfl rfl (Nat.le_of_ble_eq_true rfl) dX4_keepList_99 (fun H locs hP hD hS => ?_)
                obtain ⟨h_17, hf⟩ := og_p hf
                obtain rfl := og_s hf
                exact rw_z C hK hP hD hS (nz_z h_17) dX4_keepList_102
          · replace hf := og_t c_10 hf
            refine lv_aload_n hx hb dX4_keepList_69 rfl (lv_at hl 1 rfl) ?_
            refine lv_iload hx hb dX4_keepList_70 (lv_at hl 5 rfl) ?_
            obtain ⟨⟨r_19, u_20⟩, h_18, hf⟩ := og_b hf
            try dsimp only at hf
            refine xw_V (ov := (some (.int r_19))) (st1 := [.int r_19]) (rest := []) (w0 := (cS G bS uS)) (w1 := (cS G bS u_20)) (wr := (cF 1 bF ++ cT G bT uT)) (w' := (cF 1 bF ++ cS G bS u_20 ++ cT G bT uT)) C (cx_X6_passQuoted l G bS uS x5 r_19 u_20 _ h_18) (cwV 1 hts gx_X4_X6_passQuoted_84 rfl rfl rfl hdx_X6_passQuoted ⟨Nat.le_of_ble_eq_true rfl, Nat.le_of_ble_eq_true rfl⟩) hK hA hT hP hD hS (va_recv hK hP (ci := 3) (q0 := 1) rfl rfl) [1, 2] [0, 3, 4, 5, 6, 7, 8, 9, 10, 11, 12, 13, 14, 15] [0, 14, 15, 1, 2, 3, 4, 5, 6, 7, 8, 9, 10, 11, 12, 13] rfl rfl rfl rfl (by decide) rfl rfl rfl hl.1 rfl rfl (Nat.le_of_ble_eq_true rfl) dX4_keepList_72 (fun H locs hP hD hS => ?_)
            refine lv_if_ne (tgt := 123) hx hb dX4_keepList_75 (by decide) (fun c_21 => ?_) (fun c_21 => ?_)
            · replace hf := og_f c_21 hf
              exact wx_X4_keepList_B_123 C hK hA hT (fx_X4_keepList_B_32 n) (fun _ _ _ _ _ _ _ _ h9 => ih _ _ _ _ _ _ _ _ h9) u_20 uT x3 x4 x5 x6 x7 x8 hf hP hD hS (lv_sub hl [1, 2, 3, 4, 5, 6, 7, 8] rfl)
            · replace hf := og_t c_21 hf
              refine lv_iconst (v := (0 : Int32)) hx hb dX4_keepList_78 (by decide) ?_
              obtain rfl := og_s hf
              exact rw_z C hK hP hD hS (nz_z (Or.inl rfl)) dX4_keepList_79
def fx_X4_keepList_B (uS : Md) (uT : Md) (x3 : Int32) (x4 : Int32) : Option (Int32 × Md × Md) := ((fx_X7_keptRoom uT).bind fun r_2 => ((fx_X7_depthOf uT x3).bind fun r_4 => (fx_X4_keepList_B_32 FU uS uT x3 x4 (if (x4 + r_2) < (gi uS 1) then (x4 + r_2) else (gi uS 1)) r_4 (r_4 + (1 : Int32)) (0 : Int32))))
set_option maxHeartbeats 4000000 in
set_option maxRecDepth 100000 in
theorem cx_X4_keepList_B (l : Launch) (G : Gx) (bF : Nat → Nat) (bS : Nat → Nat) (bT : Nat → Nat) (uS : Md) (uT : Md) (x3 : Int32) (x4 : Int32) (r : Int32) (vS : Md) (vT : Md) (sz : Nat) (hf : fx_X4_keepList_B uS uT x3 x4 = some (r, vS, vT)) : Met l yX4_keepList wsx_X4_keepList_B rmx_X4_keepList_B (pX G (cF 1 bF ++ cS G bS uS ++ cT G bT uT) sz [.ref (bF 0), .ref (bS 0), .ref (bT 0), .int x3, .int x4]) (qW (some (.int r)) (cF 1 bF ++ cS G bS vS ++ cT G bT vT) (gD G) (tyG G) (va_A (cF 1 bF ++ cS G bS uS ++ cT G bT uT) sz)) 0 0 (va_A (cF 1 bF ++ cS G bS uS ++ cT G bT uT) sz) := by
  refine mx_w (cc := cX4_keepList) (maxL := 10) (ret := (some .boolean)) (by decide) rfl (Nat.le_of_ble_eq_true rfl) ?_
  intro p e s m below meth c ls A C hl hK hA hT hP hD hS
  have hl : lv_has ls 10 [(0, .ref (bF 0)), (1, .ref (bS 0)), (2, .ref (bT 0)), (3, .int x3), (4, .int x4)] := hl
  have hx := C.1.1
  have hb := C.1.2.1
  have hts := C.1.2.2.2.2
  have hown := C.1.2.2.2.1
  have hin6 : ∀ w ∈ wsX60, w ∈ wsx_X4_keepList_B := fun w h => List.mem_cons_of_mem _ (List.mem_append_right _ (List.mem_append_right _ (List.mem_append_left _ h)))
  have hin7 : ∀ w ∈ wsX70, w ∈ wsx_X4_keepList_B := fun w h => List.mem_cons_of_mem _ (List.mem_append_right _ (List.mem_append_right _ (List.mem_append_right _ (List.mem_append_left _ h))))
  unfold fx_X4_keepList_B at hf
  refine lv_aload_n hx hb dX4_keepList_0 rfl (lv_at hl 1 rfl) ?_
  refine xgN (v := .int (gi uS 1)) (ci := 3) (K := RX6) (T := TX6) (N := 5) (host := "SchematicText") C hT hin6 hK hP 1 rfl rfl 1 (by decide) rfl (by decide +kernel) rfl dX4_keepList_1 ?_
  refine lv_iload hx hb dX4_keepList_4 (lv_at hl 4 rfl) ?_
  refine lv_aload_n hx hb dX4_keepList_6 rfl (lv_at hl 2 rfl) ?_
  obtain ⟨r_2, h_1, hf⟩ := og_b hf
  try dsimp only at hf
  refine xr_V (v := .int r_2) (rest := [.int x4, .int (gi uS 1)]) (w0 := (cT G bT uT)) C (cx_X7_keptRoom l G bT uT r_2 _ h_1) (cwV 0 hts gx_X4_X7_keptRoom_75 rfl rfl rfl hdx_X7_keptRoom ⟨Nat.le_of_ble_eq_true rfl, Nat.le_of_ble_eq_true rfl⟩) hK hA hT hP hD hS (va_recv hK hP (ci := 4) (q0 := 3) rfl rfl) [3, 4, 5, 6, 7, 8, 9, 10, 11, 12, 13, 14, 15] rfl rfl rfl hl.1 rfl (Nat.le_of_ble_eq_true rfl) dX4_keepList_7 ?_
  refine lv_iadd hx hb dX4_keepList_10 ?_
  refine va_mmin (rest := []) hx hb (C.1.2.2.1.trans hl.1.symm) hown (hts (Cond.methodLink RX4 78 Lib.Math.min.name) (List.mem_cons_of_mem _ mx_423)) (hts (Cond.static Lib.Math.min.name) (List.mem_cons_of_mem _ mx_353)) (hts (Cond.initialized "java/lang/Math") (List.mem_cons_of_mem _ mx_133)) (hts (Cond.code Lib.Math.min.name Lib.Math.min.code 2 (some .int)) (List.mem_cons_of_mem _ mx_354)) (Nat.le_of_ble_eq_true rfl) (Nat.le_of_ble_eq_true rfl) (Nat.zero_le _) (Nat.zero_le _) dX4_keepList_11 ?_
  refine lv_istore (lv' := [(5, .int (if (x4 + r_2) < (gi uS 1) then (x4 + r_2) else (gi uS 1))), (0, .ref (bF 0)), (1, .ref (bS 0)), (2, .ref (bT 0)), (3, .int x3), (4, .int x4)]) hx hb dX4_keepList_14 hl (by decide) rfl (fun ls hl => ?_)
  refine lv_aload_n hx hb dX4_keepList_16 rfl (lv_at hl 3 rfl) ?_
  refine lv_iload_n hx hb dX4_keepList_17 rfl (lv_at hl 4 rfl) ?_
  obtain ⟨r_4, h_3, hf⟩ := og_b hf
  try dsimp only at hf
  refine xr_V (v := .int r_4) (rest := []) (w0 := (cT G bT uT)) C (cx_X7_depthOf l G bT uT x3 r_4 _ h_3) (cwV 1 hts gx_X4_X7_depthOf_48 rfl rfl rfl hdx_X7_depthOf ⟨Nat.le_of_ble_eq_true rfl, Nat.le_of_ble_eq_true rfl⟩) hK hA hT hP hD hS (va_recv hK hP (ci := 4) (q0 := 3) rfl rfl) [3, 4, 5, 6, 7, 8, 9, 10, 11, 12, 13, 14, 15] rfl rfl rfl hl.1 rfl (Nat.le_of_ble_eq_true rfl) dX4_keepList_18 ?_
  refine lv_istore (lv' := [(6, .int r_4), (5, .int (if (x4 + r_2) < (gi uS 1) then (x4 + r_2) else (gi uS 1))), (0, .ref (bF 0)), (1, .ref (bS 0)), (2, .ref (bT 0)), (3, .int x3), (4, .int x4)]) hx hb dX4_keepList_21 hl (by decide) rfl (fun ls hl => ?_)
  refine lv_iload hx hb dX4_keepList_23 (lv_at hl 0 rfl) ?_
  refine lv_iconst (v := (1 : Int32)) hx hb dX4_keepList_25 (by decide) ?_
  refine lv_iadd hx hb dX4_keepList_26 ?_
  refine lv_istore (lv' := [(7, .int (r_4 + (1 : Int32))), (6, .int r_4), (5, .int (if (x4 + r_2) < (gi uS 1) then (x4 + r_2) else (gi uS 1))), (0, .ref (bF 0)), (1, .ref (bS 0)), (2, .ref (bT 0)), (3, .int x3), (4, .int x4)]) hx hb dX4_keepList_27 hl (by decide) rfl (fun ls hl => ?_)
  refine lv_iconst (v := (0 : Int32)) hx hb dX4_keepList_29 (by decide) ?_
  refine lv_istore (lv' := [(8, .int (0 : Int32)), (7, .int (r_4 + (1 : Int32))), (6, .int r_4), (5, .int (if (x4 + r_2) < (gi uS 1) then (x4 + r_2) else (gi uS 1))), (0, .ref (bF 0)), (1, .ref (bS 0)), (2, .ref (bT 0)), (3, .int x3), (4, .int x4)]) hx hb dX4_keepList_30 hl (by decide) rfl (fun ls hl => ?_)
  exact wx_X4_keepList_B_32 C hK hA hT FU uS uT x3 x4 (if (x4 + r_2) < (gi uS 1) then (x4 + r_2) else (gi uS 1)) r_4 (r_4 + (1 : Int32)) (0 : Int32) hf hP hD hS (lv_sub hl [5, 6, 7, 8, 3, 2, 1, 0] rfl)
theorem gx_X4_X6_passBlanks_9 {c0 : Cond} : GoodIn (c0 :: WAX) (wsV RX4 9 RX6 yX6_passBlanks wsx_X6_passBlanks) := gdx_v mx_211 mx_212 mx_213 mx_22 mx_214
abbrev rmx_X4_passGap_B : Room := { frames := 2, cells := 0, slots := 0, locals := 40 }
noncomputable abbrev wsx_X4_passGap_B : List Cond := Cond.code yX4_passGap cX4_passGap 3 (some .boolean) :: WAX
theorem hdx_X4_passGap_B : yX4_passGap.cls = RX4 ∧ yX4_passGap.cls ≠ "java/lang/invoke/MethodHandle" ∧ yX4_passGap.cls ≠ "java/lang/invoke/VarHandle" ∧ (parseMethodDescriptor yX4_passGap.desc).map (fun d => d.parameters.length) = some 1 := by decide +kernel
theorem hdo_X4_passGap_B : "SchematicText$Form" ≠ "java/lang/invoke/MethodHandle" ∧ "SchematicText$Form" ≠ "java/lang/invoke/VarHandle" ∧ (parseMethodDescriptor "(LSchematicText$Source;)Z").map (fun d => d.parameters.length) = some 1 := by decide +kernel
def fx_X4_passGap_B (uS : Md) : Option (Int32 × Md) := ((fx_X6_passBlanks uS).bind fun u_2 => (if (gi uS 2) < (gi u_2 2) then (some ((1 : Int32), u_2)) else ((fx_X6_failAt u_2 (gi uS 2)).bind fun p_5 => (if p_5.1 = 0 then (some ((0 : Int32), p_5.2)) else (some ((1 : Int32), p_5.2))))))
set_option maxHeartbeats 4000000 in
set_option maxRecDepth 100000 in
theorem cx_X4_passGap_B (l : Launch) (G : Gx) (bF : Nat → Nat) (bS : Nat → Nat) (uS : Md) (r : Int32) (vS : Md) (sz : Nat) (hf : fx_X4_passGap_B uS = some (r, vS)) : Met l yX4_passGap wsx_X4_passGap_B rmx_X4_passGap_B (pX G (cF 1 bF ++ cS G bS uS) sz [.ref (bF 0), .ref (bS 0)]) (qW (some (.int r)) (cF 1 bF ++ cS G bS vS) (gD G) (tyG G) (va_A (cF 1 bF ++ cS G bS uS) sz)) 0 0 (va_A (cF 1 bF ++ cS G bS uS) sz) := by
  refine mx_w (cc := cX4_passGap) (maxL := 3) (ret := (some .boolean)) (by decide) rfl (Nat.le_of_ble_eq_true rfl) ?_
  intro p e s m below meth c ls A C hl hK hA hT hP hD hS
  have hl : lv_has ls 3 [(0, .ref (bF 0)), (1, .ref (bS 0))] := hl
  have hx := C.1.1
  have hb := C.1.2.1
  have hts := C.1.2.2.2.2
  have hown := C.1.2.2.2.1
  have hin6 : ∀ w ∈ wsX60, w ∈ wsx_X4_passGap_B := fun w h => List.mem_cons_of_mem _ (List.mem_append_right _ (List.mem_append_right _ (List.mem_append_left _ h)))
  unfold fx_X4_passGap_B at hf
  refine lv_aload_n hx hb dX4_passGap_0 rfl (lv_at hl 1 rfl) ?_
  refine xgN (v := .int (gi uS 2)) (ci := 3) (K := RX6) (T := TX6) (N := 5) (host := "SchematicText") C hT hin6 hK hP 1 rfl rfl 2 (by decide) rfl (by decide +kernel) rfl dX4_passGap_1 ?_
  refine lv_istore_n (lv' := [(2, .int (gi uS 2)), (0, .ref (bF 0)), (1, .ref (bS 0))]) hx hb dX4_passGap_4 rfl hl (by decide) rfl (fun ls hl => ?_)
  refine lv_aload_n hx hb dX4_passGap_5 rfl (lv_at hl 2 rfl) ?_
  obtain ⟨u_2, h_1, hf⟩ := og_b hf
  try dsimp only at hf
  refine xw_V (ov := none) (st1 := []) (rest := []) (w0 := (cS G bS uS)) (w1 := (cS G bS u_2)) (wr := (cF 1 bF)) (w' := (cF 1 bF ++ cS G bS u_2)) C (cx_X6_passBlanks l G bS uS u_2 _ h_1) (cwV 0 hts gx_X4_X6_passBlanks_9 rfl rfl rfl hdx_X6_passBlanks ⟨Nat.le_of_ble_eq_true rfl, Nat.le_of_ble_eq_true rfl⟩) hK hA hT hP hD hS (va_recv hK hP (ci := 3) (q0 := 1) rfl rfl) [1, 2] [0] [0, 1, 2] rfl rfl rfl rfl (by decide) rfl rfl rfl hl.1 rfl rfl (Nat.le_of_ble_eq_true rfl) dX4_passGap_6 (fun H locs hP hD hS => ?_)
  refine lv_aload_n hx hb dX4_passGap_9 rfl (lv_at hl 2 rfl) ?_
  refine xgN (v := .int (gi u_2 2)) (ci := 3) (K := RX6) (T := TX6) (N := 5) (host := "SchematicText") C hT hin6 hK hP 1 rfl rfl 2 (by decide) rfl (by decide +kernel) rfl dX4_passGap_10 ?_
  refine lv_iload_n hx hb dX4_passGap_13 rfl (lv_at hl 0 rfl) ?_
  refine lv_icmp_gt (tgt := 25) hx hb dX4_passGap_14 (by decide) (fun c_3 => ?_) (fun c_3 => ?_)
  · replace hf := og_t c_3 hf
    refine lv_iconst (v := (1 : Int32)) hx hb dX4_passGap_25 (by decide) ?_
    refine lv_goto (tgt := 30) hx hb dX4_passGap_26 (by decide) ?_
    obtain ⟨rfl, rfl⟩ := pi2 (og_s hf)
    exact rw_z C hK hP hD hS (nz_z (Or.inr rfl)) dX4_passGap_30
  · replace hf := og_f c_3 hf
    refine lv_aload_n hx hb dX4_passGap_17 rfl (lv_at hl 2 rfl) ?_
    refine lv_iload_n hx hb dX4_passGap_18 rfl (lv_at hl 0 rfl) ?_
    obtain ⟨⟨r_5, u_6⟩, h_4, hf⟩ := og_b hf
    try dsimp only at hf
    refine xw_V (ov := (some (.int r_5))) (st1 := [.int r_5]) (rest := []) (w0 := (cS G bS u_2)) (w1 := (cS G bS u_6)) (wr := (cF 1 bF)) (w' := (cF 1 bF ++ cS G bS u_6)) C (cx_X6_failAt l G bS u_2 (gi uS 2) r_5 u_6 _ h_4) (cwV 1 hts gx_X4_X6_failAt_22 rfl rfl rfl hdx_X6_failAt ⟨Nat.le_of_ble_eq_true rfl, Nat.le_of_ble_eq_true rfl⟩) hK hA hT hP hD hS (va_recv hK hP (ci := 3) (q0 := 1) rfl rfl) [1, 2] [0] [0, 1, 2] rfl rfl rfl rfl (by decide) rfl rfl rfl hl.1 rfl rfl (Nat.le_of_ble_eq_true rfl) dX4_passGap_19 (fun H locs hP hD hS => ?_)
    refine lv_if_eq (tgt := 29) hx hb dX4_passGap_22 (by decide) (fun c_7 => ?_) (fun c_7 => ?_)
    · replace hf := og_t c_7 hf
      refine lv_iconst (v := (0 : Int32)) hx hb dX4_passGap_29 (by decide) ?_
      obtain ⟨rfl, rfl⟩ := pi2 (og_s hf)
      exact rw_z C hK hP hD hS (nz_z (Or.inl rfl)) dX4_passGap_30
    · replace hf := og_f c_7 hf
      refine lv_iconst (v := (1 : Int32)) hx hb dX4_passGap_25 (by decide) ?_
      refine lv_goto (tgt := 30) hx hb dX4_passGap_26 (by decide) ?_
      obtain ⟨rfl, rfl⟩ := pi2 (og_s hf)
      exact rw_z C hK hP hD hS (nz_z (Or.inr rfl)) dX4_passGap_30
theorem gx_X1_X4_passGap_B_46 {c0 : Cond} : GoodIn (c0 :: WAX) (va_wsU RX1 46 RX4 "SchematicText$Form" ⟨"SchematicText$Form", "passGap", "(LSchematicText$Source;)Z"⟩ yX4_passGap wsx_X4_passGap_B) := gdx_u mx_196 mx_197 mx_207 mx_208 mx_209 mx_210
abbrev rmx_X1_takeValues_B : Room := { frames := 5, cells := 0, slots := 0, locals := 106 }
noncomputable abbrev wsx_X1_takeValues_B : List Cond := Cond.code yX1_takeValues cX1_takeValues 9 (some .boolean) :: WAX
theorem hdx_X1_takeValues_B : yX1_takeValues.cls = RX1 ∧ yX1_takeValues.cls ≠ "java/lang/invoke/MethodHandle" ∧ yX1_takeValues.cls ≠ "java/lang/invoke/VarHandle" ∧ (parseMethodDescriptor yX1_takeValues.desc).map (fun d => d.parameters.length) = some 3 := by decide +kernel
theorem hdo_X1_takeValues_B : "SchematicText$Form" ≠ "java/lang/invoke/MethodHandle" ∧ "SchematicText$Form" ≠ "java/lang/invoke/VarHandle" ∧ (parseMethodDescriptor "(LSchematicText$Source;LSchematicText$Tree;I)Z").map (fun d => d.parameters.length) = some 3 := by decide +kernel
def fx_X1_takeValues_B_55 (uS : Md) (uT : Md) (x5 : Int32) (y0 : Int32) : Option (Int32 × Md × Md) := ((if x5 = 0 ∨ x5 = 1 then some (x5, uS, (si uT 15 y0)) else none))
set_option maxHeartbeats 4000000 in
set_option maxRecDepth 100000 in
theorem wx_X1_takeValues_B_55 {p : Program} {l : Launch} {e : Env} {s : State} {m : MethodId} {args : Array Value} {below : List Frame} {meth : Method} {c : Code} {G : Gx} {A : Nat → Prop} {bF : Nat → Nat} {bS : Nat → Nat} {bT : Nat → Nat} (C : Cx p s m args meth c cX1_takeValues 9 wsx_X1_takeValues_B RX1 (some .boolean)) (hK : va_K (gD G) vwCl (tyG G) s) (hA : ∀ q : Nat, s.heap.size ≤ q → A q) (hT : ST G A s s.heap) {r : (Int32 × Md × Md)} : ∀ (uS : Md) (uT : Md) (x5 : Int32) (y0 : Int32), fx_X1_takeValues_B_55 uS uT x5 y0 = some r → ∀ {H : Heap} {locs : List Loc}, va_P (gD G) vwCl (cF 1 bF ++ cS G bS uS ++ cT G bT uT) H → va_D A (cF 1 bF ++ cS G bS uS ++ cT G bT uT) → va_S A s.heap H locs → ∀ {ls : Array Slot}, lv_has ls 9 [(5, .int x5)] → W p l e rmx_X1_takeValues_B s m args below meth c H locs 0 0 (MQ below (qW (some (.int r.1)) (cF 1 bF ++ cS G bS r.2.1 ++ cT G bT r.2.2) (gD G) (tyG G) A) args s 0 0 A) (F0 m 55 ls [.int y0, .ref (bT 0)]) := by
  have hx := C.1.1
  have hb := C.1.2.1
  have hts := C.1.2.2.2.2
  have hown := C.1.2.2.2.1
  have hin6 : ∀ w ∈ wsX60, w ∈ wsx_X1_takeValues_B := fun w h => List.mem_cons_of_mem _ (List.mem_append_right _ (List.mem_append_right _ (List.mem_append_left _ h)))
  have hin7 : ∀ w ∈ wsX70, w ∈ wsx_X1_takeValues_B := fun w h => List.mem_cons_of_mem _ (List.mem_append_right _ (List.mem_append_right _ (List.mem_append_right _ (List.mem_append_left _ h))))
  intro uS uT x5 y0 hf H locs hP hD hS ls hl
  unfold fx_X1_takeValues_B_55 at hf
  refine xpN (v := .int y0) (w' := (cF 1 bF ++ cS G bS uS ++ cT G bT (si uT 15 y0))) (ci := 4) (K := RX7) (T := TX7) (N := 16) (ty := .int) (host := "SchematicText") C hT hin7 tyX7 tyX7_ok nmX7 hK hP hD hS 3 rfl rfl 15 (by decide) rfl (by decide +kernel) rfl rfl rfl rfl (Nat.le_of_ble_eq_true rfl) dX1_takeValues_55 hw_F1ST_T_i15 (fun H locs hP hD hS => ?_)
  refine lv_iload hx hb dX1_takeValues_58 (lv_at hl 0 rfl) ?_
  obtain ⟨h_37, hf⟩ := og_p hf
  obtain rfl := og_s hf
  exact rw_z C hK hP hD hS (nz_z h_37) dX1_takeValues_60
def fx_X1_takeValues_B_38 (uS : Md) (uT : Md) (y0 : Int32) : Option (Int32 × Md × Md) := (if y0 = 0 then (fx_X1_takeValues_B_55 uS uT y0 (0 : Int32)) else (fx_X1_takeValues_B_55 uS uT y0 ((gl uS)).toInt32))
set_option maxHeartbeats 4000000 in
set_option maxRecDepth 100000 in
theorem wx_X1_takeValues_B_38 {p : Program} {l : Launch} {e : Env} {s : State} {m : MethodId} {args : Array Value} {below : List Frame} {meth : Method} {c : Code} {G : Gx} {A : Nat → Prop} {bF : Nat → Nat} {bS : Nat → Nat} {bT : Nat → Nat} (C : Cx p s m args meth c cX1_takeValues 9 wsx_X1_takeValues_B RX1 (some .boolean)) (hK : va_K (gD G) vwCl (tyG G) s) (hA : ∀ q : Nat, s.heap.size ≤ q → A q) (hT : ST G A s s.heap) {r : (Int32 × Md × Md)} : ∀ (uS : Md) (uT : Md) (y0 : Int32), fx_X1_takeValues_B_38 uS uT y0 = some r → ∀ {H : Heap} {locs : List Loc}, va_P (gD G) vwCl (cF 1 bF ++ cS G bS uS ++ cT G bT uT) H → va_D A (cF 1 bF ++ cS G bS uS ++ cT G bT uT) → va_S A s.heap H locs → ∀ {ls : Array Slot}, lv_has ls 9 [(1, .ref (bS 0)), (2, .ref (bT 0))] → W p l e rmx_X1_takeValues_B s m args below meth c H locs 0 0 (MQ below (qW (some (.int r.1)) (cF 1 bF ++ cS G bS r.2.1 ++ cT G bT r.2.2) (gD G) (tyG G) A) args s 0 0 A) (F0 m 38 ls [.int y0]) := by
  have hx := C.1.1
  have hb := C.1.2.1
  have hts := C.1.2.2.2.2
  have hown := C.1.2.2.2.1
  have hin6 : ∀ w ∈ wsX60, w ∈ wsx_X1_takeValues_B := fun w h => List.mem_cons_of_mem _ (List.mem_append_right _ (List.mem_append_right _ (List.mem_append_left _ h)))
  have hin7 : ∀ w ∈ wsX70, w ∈ wsx_X1_takeValues_B := fun w h => List.mem_cons_of_mem _ (List.mem_append_right _ (List.mem_append_right _ (List.mem_append_right _ (List.mem_append_left _ h))))
  intro uS uT y0 hf H locs hP hD hS ls hl
  unfold fx_X1_takeValues_B_38 at hf
  refine lv_istore (lv' := [(5, .int y0), (1, .ref (bS 0)), (2, .ref (bT 0))]) hx hb dX1_takeValues_38 hl (by decide) rfl (fun ls hl => ?_)
  refine lv_aload_n hx hb dX1_takeValues_40 rfl (lv_at hl 2 rfl) ?_
  refine lv_iload hx hb dX1_takeValues_41 (lv_at hl 0 rfl) ?_
  refine lv_if_eq (tgt := 54) hx hb dX1_takeValues_43 (by decide) (fun c_36 => ?_) (fun c_36 => ?_)
  · replace hf := og_t c_36 hf
    refine lv_iconst (v := (0 : Int32)) hx hb dX1_takeValues_54 (by decide) ?_
    exact wx_X1_takeValues_B_55 C hK hA hT uS uT y0 (0 : Int32) hf hP hD hS (lv_sub hl [0] rfl)
  · replace hf := og_f c_36 hf
    refine lv_aload_n hx hb dX1_takeValues_46 rfl (lv_at hl 1 rfl) ?_
    refine xgN (v := .long (gl uS)) (ci := 3) (K := RX6) (T := TX6) (N := 5) (host := "SchematicText") C hT hin6 hK hP 1 rfl rfl 4 (by decide) rfl (by decide +kernel) rfl dX1_takeValues_47 ?_
    refine lv_l2i (v := ((gl uS)).toInt32) hx hb dX1_takeValues_50 rfl ?_
    refine lv_goto (tgt := 55) hx hb dX1_takeValues_51 (by decide) ?_
    exact wx_X1_takeValues_B_55 C hK hA hT uS uT y0 ((gl uS)).toInt32 hf hP hD hS (lv_sub hl [0] rfl)
def fx_X1_takeValues_B_37 (uS : Md) (uT : Md) : Option (Int32 × Md × Md) := (fx_X1_takeValues_B_38 uS uT (0 : Int32))
set_option maxHeartbeats 4000000 in
set_option maxRecDepth 100000 in
theorem wx_X1_takeValues_B_37 {p : Program} {l : Launch} {e : Env} {s : State} {m : MethodId} {args : Array Value} {below : List Frame} {meth : Method} {c : Code} {G : Gx} {A : Nat → Prop} {bF : Nat → Nat} {bS : Nat → Nat} {bT : Nat → Nat} (C : Cx p s m args meth c cX1_takeValues 9 wsx_X1_takeValues_B RX1 (some .boolean)) (hK : va_K (gD G) vwCl (tyG G) s) (hA : ∀ q : Nat, s.heap.size ≤ q → A q) (hT : ST G A s s.heap) {r : (Int32 × Md × Md)} : ∀ (uS : Md) (uT : Md), fx_X1_takeValues_B_37 uS uT = some r → ∀ {H : Heap} {locs : List Loc}, va_P (gD G) vwCl (cF 1 bF ++ cS G bS uS ++ cT G bT uT) H → va_D A (cF 1 bF ++ cS G bS uS ++ cT G bT uT) → va_S A s.heap H locs → ∀ {ls : Array Slot}, lv_has ls 9 [(1, .ref (bS 0)), (2, .ref (bT 0))] → W p l e rmx_X1_takeValues_B s m args below meth c H locs 0 0 (MQ below (qW (some (.int r.1)) (cF 1 bF ++ cS G bS r.2.1 ++ cT G bT r.2.2) (gD G) (tyG G) A) args s 0 0 A) (F0 m 37 ls []) := by
  have hx := C.1.1
  have hb := C.1.2.1
  have hts := C.1.2.2.2.2
  have hown := C.1.2.2.2.1
  have hin6 : ∀ w ∈ wsX60, w ∈ wsx_X1_takeValues_B := fun w h => List.mem_cons_of_mem _ (List.mem_append_right _ (List.mem_append_right _ (List.mem_append_left _ h)))
  have hin7 : ∀ w ∈ wsX70, w ∈ wsx_X1_takeValues_B := fun w h => List.mem_cons_of_mem _ (List.mem_append_right _ (List.mem_append_right _ (List.mem_append_right _ (List.mem_append_left _ h))))
  intro uS uT hf H locs hP hD hS ls hl
  unfold fx_X1_takeValues_B_37 at hf
  refine lv_iconst (v := (0 : Int32)) hx hb dX1_takeValues_37 (by decide) ?_
  exact wx_X1_takeValues_B_38 C hK hA hT uS uT (0 : Int32) hf hP hD hS (lv_sub hl [0, 1] rfl)
def fx_X1_takeValues_B_166 (k70 : Md → Md → Int32 → (Fin 10) → Int32 → Int32 → Int32 → Option (Int32 × Md × Md)) (uS : Md) (uT : Md) (x3 : Int32) (x4 : (Fin 10)) (x5 : Int32) (x6 : Int32) (x7 : Int32) : Option (Int32 × Md × Md) := (k70 uS uT x3 x4 x5 x6 (x7 + (1 : Int32)))
set_option maxHeartbeats 4000000 in
set_option maxRecDepth 100000 in
theorem wx_X1_takeValues_B_166 {p : Program} {l : Launch} {e : Env} {s : State} {m : MethodId} {args : Array Value} {below : List Frame} {meth : Method} {c : Code} {G : Gx} {A : Nat → Prop} {bF : Nat → Nat} {bS : Nat → Nat} {bT : Nat → Nat} (C : Cx p s m args meth c cX1_takeValues 9 wsx_X1_takeValues_B RX1 (some .boolean)) (hK : va_K (gD G) vwCl (tyG G) s) (hA : ∀ q : Nat, s.heap.size ≤ q → A q) (hT : ST G A s s.heap) {r : (Int32 × Md × Md)} (k70 : Md → Md → Int32 → (Fin 10) → Int32 → Int32 → Int32 → Option (Int32 × Md × Md)) (ih70 : ∀ (uS : Md) (uT : Md) (x3 : Int32) (x4 : (Fin 10)) (x5 : Int32) (x6 : Int32) (x7 : Int32), k70 uS uT x3 x4 x5 x6 x7 = some r → ∀ {H : Heap} {locs : List Loc}, va_P (gD G) vwCl (cF 1 bF ++ cS G bS uS ++ cT G bT uT) H → va_D A (cF 1 bF ++ cS G bS uS ++ cT G bT uT) → va_S A s.heap H locs → ∀ {ls : Array Slot}, lv_has ls 9 [(0, .ref (bF 0)), (1, .ref (bS 0)), (2, .ref (bT 0)), (3, .int x3), (4, .ref (gK G (x4).val)), (5, .int x5), (6, .int x6), (7, .int x7)] → W p l e rmx_X1_takeValues_B s m args below meth c H locs 0 0 (MQ below (qW (some (.int r.1)) (cF 1 bF ++ cS G bS r.2.1 ++ cT G bT r.2.2) (gD G) (tyG G) A) args s 0 0 A) (F0 m 70 ls [])) : ∀ (uS : Md) (uT : Md) (x3 : Int32) (x4 : (Fin 10)) (x5 : Int32) (x6 : Int32) (x7 : Int32), fx_X1_takeValues_B_166 k70 uS uT x3 x4 x5 x6 x7 = some r → ∀ {H : Heap} {locs : List Loc}, va_P (gD G) vwCl (cF 1 bF ++ cS G bS uS ++ cT G bT uT) H → va_D A (cF 1 bF ++ cS G bS uS ++ cT G bT uT) → va_S A s.heap H locs → ∀ {ls : Array Slot}, lv_has ls 9 [(0, .ref (bF 0)), (1, .ref (bS 0)), (2, .ref (bT 0)), (3, .int x3), (4, .ref (gK G (x4).val)), (5, .int x5), (6, .int x6), (7, .int x7)] → W p l e rmx_X1_takeValues_B s m args below meth c H locs 0 0 (MQ below (qW (some (.int r.1)) (cF 1 bF ++ cS G bS r.2.1 ++ cT G bT r.2.2) (gD G) (tyG G) A) args s 0 0 A) (F0 m 166 ls []) := by
  have hx := C.1.1
  have hb := C.1.2.1
  have hts := C.1.2.2.2.2
  have hown := C.1.2.2.2.1
  have hin6 : ∀ w ∈ wsX60, w ∈ wsx_X1_takeValues_B := fun w h => List.mem_cons_of_mem _ (List.mem_append_right _ (List.mem_append_right _ (List.mem_append_left _ h)))
  have hin7 : ∀ w ∈ wsX70, w ∈ wsx_X1_takeValues_B := fun w h => List.mem_cons_of_mem _ (List.mem_append_right _ (List.mem_append_right _ (List.mem_append_right _ (List.mem_append_left _ h))))
  intro uS uT x3 x4 x5 x6 x7 hf H locs hP hD hS ls hl
  unfold fx_X1_takeValues_B_166 at hf
  refine lv_iinc (v := (x7 + (1 : Int32))) (lv' := [(7, .int (x7 + (1 : Int32))), (0, .ref (bF 0)), (1, .ref (bS 0)), (2, .ref (bT 0)), (3, .int x3), (4, .ref (gK G (x4).val)), (5, .int x5), (6, .int x6)]) hx hb dX1_takeValues_166 hl (k := 7) rfl rfl (by decide) rfl (fun ls hl => ?_)
  refine lv_goto (tgt := 70) hx hb dX1_takeValues_169 (by decide) ?_
  exact ih70 uS uT x3 x4 x5 x6 (x7 + (1 : Int32)) hf hP hD hS (lv_sub hl [1, 2, 3, 4, 5, 6, 7, 0] rfl)
def fx_X1_takeValues_B_70 : Nat → Md → Md → Int32 → (Fin 10) → Int32 → Int32 → Int32 → Option (Int32 × Md × Md)
  | 0, _, _, _, _, _, _, _ => none
  | n + 1, uS, uT, x3, x4, x5, x6, x7 => ((fx_X2_fields x4).bind fun r_13 => (if r_13 ≤ x7 then (some ((1 : Int32), uS, uT)) else ((fx_X2_fieldAt x4 x7).bind fun r_16 => (if (fSince r_16) ≤ (gi uT 15) then ((fx_X4_passGap_B uS).bind fun p_19 => (if p_19.1 = 0 then (some ((0 : Int32), p_19.2, uT)) else ((fx_X0_isText r_16).bind fun r_23 => (if r_23 = 0 then ((fx_X6_takeNumber p_19.2 r_16).bind fun p_26 => (if p_26.1 = 0 then (some ((0 : Int32), p_26.2, uT)) else ((fx_X7_putNumber uT x3 x6 (gl p_26.2)).bind fun u_30 => (fx_X1_takeValues_B_166 (fx_X1_takeValues_B_70 n) p_26.2 u_30 x3 x4 x5 (x6 + (1 : Int32)) x7)))) else ((fx_X6_takeText p_19.2 uT x3 x5).bind fun p_32 => (if p_32.1 = 0 then (some ((0 : Int32), p_32.2.1, p_32.2.2)) else (fx_X1_takeValues_B_166 (fx_X1_takeValues_B_70 n) p_32.2.1 p_32.2.2 x3 x4 (x5 + (1 : Int32)) x6 x7))))))) else (fx_X1_takeValues_B_166 (fx_X1_takeValues_B_70 n) uS uT x3 x4 x5 x6 x7)))))
set_option maxHeartbeats 4000000 in
set_option maxRecDepth 100000 in
theorem wx_X1_takeValues_B_70 {p : Program} {l : Launch} {e : Env} {s : State} {m : MethodId} {args : Array Value} {below : List Frame} {meth : Method} {c : Code} {G : Gx} {A : Nat → Prop} {bF : Nat → Nat} {bS : Nat → Nat} {bT : Nat → Nat} (C : Cx p s m args meth c cX1_takeValues 9 wsx_X1_takeValues_B RX1 (some .boolean)) (hK : va_K (gD G) vwCl (tyG G) s) (hA : ∀ q : Nat, s.heap.size ≤ q → A q) (hT : ST G A s s.heap) {r : (Int32 × Md × Md)} : ∀ (n : Nat), ∀ (uS : Md) (uT : Md) (x3 : Int32) (x4 : (Fin 10)) (x5 : Int32) (x6 : Int32) (x7 : Int32), fx_X1_takeValues_B_70 n uS uT x3 x4 x5 x6 x7 = some r → ∀ {H : Heap} {locs : List Loc}, va_P (gD G) vwCl (cF 1 bF ++ cS G bS uS ++ cT G bT uT) H → va_D A (cF 1 bF ++ cS G bS uS ++ cT G bT uT) → va_S A s.heap H locs → ∀ {ls : Array Slot}, lv_has ls 9 [(0, .ref (bF 0)), (1, .ref (bS 0)), (2, .ref (bT 0)), (3, .int x3), (4, .ref (gK G (x4).val)), (5, .int x5), (6, .int x6), (7, .int x7)] → W p l e rmx_X1_takeValues_B s m args below meth c H locs 0 0 (MQ below (qW (some (.int r.1)) (cF 1 bF ++ cS G bS r.2.1 ++ cT G bT r.2.2) (gD G) (tyG G) A) args s 0 0 A) (F0 m 70 ls []) := by
  have hx := C.1.1
  have hb := C.1.2.1
  have hts := C.1.2.2.2.2
  have hown := C.1.2.2.2.1
  have hin6 : ∀ w ∈ wsX60, w ∈ wsx_X1_takeValues_B := fun w h => List.mem_cons_of_mem _ (List.mem_append_right _ (List.mem_append_right _ (List.mem_append_left _ h)))
  have hin7 : ∀ w ∈ wsX70, w ∈ wsx_X1_takeValues_B := fun w h => List.mem_cons_of_mem _ (List.mem_append_right _ (List.mem_append_right _ (List.mem_append_right _ (List.mem_append_left _ h))))
  intro n
  induction n with
  | zero =>
    intro uS uT x3 x4 x5 x6 x7 hf H locs hP hD hS ls hl
    cases hf
  | succ n ih =>
    intro uS uT x3 x4 x5 x6 x7 hf H locs hP hD hS ls hl
    rw [fx_X1_takeValues_B_70] at hf
    refine lv_iload hx hb dX1_takeValues_70 (lv_at hl 7 rfl) ?_
    refine lv_aload hx hb dX1_takeValues_72 (lv_at hl 4 rfl) ?_
    obtain ⟨r_13, h_12, hf⟩ := og_b hf
    try dsimp only at hf
    refine xr_V (v := .int r_13) (rest := [.int x7]) (w0 := ([])) C (cx_X2_fields l G x4 r_13 _ h_12) (cwV 0 hts gx_X1_X2_fields_69 rfl rfl rfl hdx_X2_fields ⟨Nat.le_of_ble_eq_true rfl, Nat.le_of_ble_eq_true rfl⟩) hK hA hT hP hD hS (va_recvE hT.1.2.2.2.2.1 (x4).isLt hS) [] rfl rfl rfl hl.1 rfl (Nat.le_of_ble_eq_true rfl) dX1_takeValues_74 ?_
    refine lv_icmp_ge (tgt := 172) hx hb dX1_takeValues_77 (by decide) (fun c_14 => ?_) (fun c_14 => ?_)
    · replace hf := og_t c_14 hf
      refine lv_iconst (v := (1 : Int32)) hx hb dX1_takeValues_172 (by decide) ?_
      obtain rfl := og_s hf
      exact rw_z C hK hP hD hS (nz_z (Or.inr rfl)) dX1_takeValues_173
    · replace hf := og_f c_14 hf
      refine lv_aload hx hb dX1_takeValues_80 (lv_at hl 4 rfl) ?_
      refine lv_iload hx hb dX1_takeValues_82 (lv_at hl 7 rfl) ?_
      obtain ⟨r_16, h_15, hf⟩ := og_b hf
      try dsimp only at hf
      refine xr_V (v := .ref (gF G (r_16).val)) (rest := []) (w0 := ([])) C (cx_X2_fieldAt l G x4 x7 r_16 _ h_15) (cwV 1 hts gx_X1_X2_fieldAt_73 rfl rfl rfl hdx_X2_fieldAt ⟨Nat.le_of_ble_eq_true rfl, Nat.le_of_ble_eq_true rfl⟩) hK hA hT hP hD hS (va_recvE hT.1.2.2.2.2.1 (x4).isLt hS) [] rfl rfl rfl hl.1 rfl (Nat.le_of_ble_eq_true rfl) dX1_takeValues_84 ?_
      refine lv_astore (lv' := [(8, .ref (gF G (r_16).val)), (0, .ref (bF 0)), (1, .ref (bS 0)), (2, .ref (bT 0)), (3, .int x3), (4, .ref (gK G (x4).val)), (5, .int x5), (6, .int x6), (7, .int x7)]) hx hb dX1_takeValues_87 hl (by decide) rfl (fun ls hl => ?_)
      refine lv_aload hx hb dX1_takeValues_89 (lv_at hl 0 rfl) ?_
      refine xoN (v := .int (fSince r_16)) (host := "SchematicText") C hT ((hT.1.1.1 (r_16).val (r_16).isLt).2.2 _ (List.mem_cons_of_mem _ List.mem_cons_self)) hS (by decide +kernel) dX1_takeValues_91 ?_
      refine lv_aload_n hx hb dX1_takeValues_94 rfl (lv_at hl 3 rfl) ?_
      refine xgN (v := .int (gi uT 15)) (ci := 4) (K := RX7) (T := TX7) (N := 16) (host := "SchematicText") C hT hin7 hK hP 3 rfl rfl 15 (by decide) rfl (by decide +kernel) rfl dX1_takeValues_95 ?_
      refine lv_icmp_le (tgt := 104) hx hb dX1_takeValues_98 (by decide) (fun c_17 => ?_) (fun c_17 => ?_)
      · replace hf := og_t c_17 hf
        refine lv_aload_n hx hb dX1_takeValues_104 rfl (lv_at hl 1 rfl) ?_
        refine lv_aload_n hx hb dX1_takeValues_105 rfl (lv_at hl 2 rfl) ?_
        obtain ⟨⟨r_19, u_20⟩, h_18, hf⟩ := og_b hf
        try dsimp only at hf
        refine xw_U (ov := (some (.int r_19))) (st1 := [.int r_19]) (rest := []) (w0 := (cF 1 bF ++ cS G bS uS)) (w1 := (cF 1 bF ++ cS G bS u_20)) (wr := (cT G bT uT)) (w' := (cF 1 bF ++ cS G bS u_20 ++ cT G bT uT)) C (cx_X4_passGap_B l G bF bS uS r_19 u_20 _ h_18) (va_cwA 1 hts gx_X1_X4_passGap_B_46 rfl rfl rfl (hT.2.2.2 _ (by decide +kernel)) hdo_X4_passGap_B ⟨Nat.le_of_ble_eq_true rfl, Nat.le_of_ble_eq_true rfl⟩) hK hA hT hP hD hS (va_recv hK hP (ci := 1) (q0 := 0) rfl rfl) [0, 1, 2] [3, 4, 5, 6, 7, 8, 9, 10, 11, 12, 13, 14, 15] [13, 14, 15, 0, 1, 2, 3, 4, 5, 6, 7, 8, 9, 10, 11, 12] rfl rfl rfl rfl (by decide) rfl rfl rfl hl.1 rfl rfl (Nat.le_of_ble_eq_true rfl) dX1_takeValues_106 (fun H locs hP hD hS => ?_)
        refine lv_if_ne (tgt := 114) hx hb dX1_takeValues_109 (by decide) (fun c_21 => ?_) (fun c_21 => ?_)
        · replace hf := og_f c_21 hf
          refine lv_aload hx hb dX1_takeValues_114 (lv_at hl 0 rfl) ?_
          obtain ⟨r_23, h_22, hf⟩ := og_b hf
          try dsimp only at hf
          refine xr_V (v := .int r_23) (rest := []) (w0 := ([])) C (cx_X0_isText l G r_16 r_23 _ h_22) (cwV 0 hts gx_X1_X0_isText_80 rfl rfl rfl hdx_X0_isText ⟨Nat.le_of_ble_eq_true rfl, Nat.le_of_ble_eq_true rfl⟩) hK hA hT hP hD hS (va_recvE hT.1.1 (r_16).isLt hS) [] rfl rfl rfl hl.1 rfl (Nat.le_of_ble_eq_true rfl) dX1_takeValues_116 ?_
          refine lv_if_eq (tgt := 141) hx hb dX1_takeValues_119 (by decide) (fun c_24 => ?_) (fun c_24 => ?_)
          · replace hf := og_t c_24 hf
            refine lv_aload_n hx hb dX1_takeValues_141 rfl (lv_at hl 2 rfl) ?_
            refine lv_aload hx hb dX1_takeValues_142 (lv_at hl 0 rfl) ?_
            obtain ⟨⟨r_26, u_27⟩, h_25, hf⟩ := og_b hf
            try dsimp only at hf
            refine xw_V (ov := (some (.int r_26))) (st1 := [.int r_26]) (rest := []) (w0 := (cS G bS u_20)) (w1 := (cS G bS u_27)) (wr := (cF 1 bF ++ cT G bT uT)) (w' := (cF 1 bF ++ cS G bS u_27 ++ cT G bT uT)) C (cx_X6_takeNumber l G bS u_20 r_16 r_26 u_27 _ h_25) (cwV 1 hts gx_X1_X6_takeNumber_58 rfl rfl rfl hdx_X6_takeNumber ⟨Nat.le_of_ble_eq_true rfl, Nat.le_of_ble_eq_true rfl⟩) hK hA hT hP hD hS (va_recv hK hP (ci := 3) (q0 := 1) rfl rfl) [1, 2] [0, 3, 4, 5, 6, 7, 8, 9, 10, 11, 12, 13, 14, 15] [0, 14, 15, 1, 2, 3, 4, 5, 6, 7, 8, 9, 10, 11, 12, 13] rfl rfl rfl rfl (by decide) rfl rfl rfl hl.1 rfl rfl (Nat.le_of_ble_eq_true rfl) dX1_takeValues_144 (fun H locs hP hD hS => ?_)
            refine lv_if_ne (tgt := 152) hx hb dX1_takeValues_147 (by decide) (fun c_28 => ?_) (fun c_28 => ?_)
            · replace hf := og_f c_28 hf
              refine lv_aload_n hx hb dX1_takeValues_152 rfl (lv_at hl 3 rfl) ?_
              refine lv_iload_n hx hb dX1_takeValues_153 rfl (lv_at hl 4 rfl) ?_
              refine lv_iload hx hb dX1_takeValues_154 (lv_at hl 7 rfl) ?_
              refine lv_aload_n hx hb dX1_takeValues_156 rfl (lv_at hl 2 rfl) ?_
              refine xgN (v := .long (gl u_27)) (ci := 3) (K := RX6) (T := TX6) (N := 5) (host := "SchematicText") C hT hin6 hK hP 1 rfl rfl 4 (by decide) rfl (by decide +kernel) rfl dX1_takeValues_157 ?_
              obtain ⟨u_30, h_29, hf⟩ := og_b hf
              try dsimp only at hf
              refine xw_V (ov := none) (st1 := []) (rest := []) (w0 := (cT G bT uT)) (w1 := (cT G bT u_30)) (wr := (cF 1 bF ++ cS G bS u_27)) (w' := (cF 1 bF ++ cS G bS u_27 ++ cT G bT u_30)) C (cx_X7_putNumber l G bT uT x3 x6 (gl u_27) u_30 _ h_29) (cwV 3 hts gx_X1_X7_putNumber_88 rfl rfl rfl hdx_X7_putNumber ⟨Nat.le_of_ble_eq_true rfl, Nat.le_of_ble_eq_true rfl⟩) hK hA hT hP hD hS (va_recv hK hP (ci := 4) (q0 := 3) rfl rfl) [3, 4, 5, 6, 7, 8, 9, 10, 11, 12, 13, 14, 15] [0, 1, 2] [0, 1, 2, 3, 4, 5, 6, 7, 8, 9, 10, 11, 12, 13, 14, 15] rfl rfl rfl rfl (by decide) rfl rfl rfl hl.1 rfl rfl (Nat.le_of_ble_eq_true rfl) dX1_takeValues_160 (fun H locs hP hD hS => ?_)
              refine lv_iinc (v := (x6 + (1 : Int32))) (lv' := [(6, .int (x6 + (1 : Int32))), (8, .ref (gF G (r_16).val)), (0, .ref (bF 0)), (1, .ref (bS 0)), (2, .ref (bT 0)), (3, .int x3), (4, .ref (gK G (x4).val)), (5, .int x5), (7, .int x7)]) hx hb dX1_takeValues_163 hl (k := 7) rfl rfl (by decide) rfl (fun ls hl => ?_)
              exact wx_X1_takeValues_B_166 C hK hA hT (fx_X1_takeValues_B_70 n) (fun _ _ _ _ _ _ _ h9 => ih _ _ _ _ _ _ _ h9) u_27 u_30 x3 x4 x5 (x6 + (1 : Int32)) x7 hf hP hD hS (lv_sub hl [2, 3, 4, 5, 6, 7, 0, 8] rfl)
            · replace hf := og_t c_28 hf
              refine lv_iconst (v := (0 : Int32)) hx hb dX1_takeValues_150 (by decide) ?_
              obtain rfl := og_s hf
              exact rw_z C hK hP hD hS (nz_z (Or.inl rfl)) dX1_takeValues_151
          · replace hf := og_f c_24 hf
            refine lv_aload_n hx hb dX1_takeValues_122 rfl (lv_at hl 2 rfl) ?_
            refine lv_aload_n hx hb dX1_takeValues_123 rfl (lv_at hl 3 rfl) ?_
            refine lv_iload_n hx hb dX1_takeValues_124 rfl (lv_at hl 4 rfl) ?_
            refine lv_iload hx hb dX1_takeValues_125 (lv_at hl 6 rfl) ?_
            obtain ⟨⟨r_32, u_33, u_34⟩, h_31, hf⟩ := og_b hf
            try dsimp only at hf
            refine xw_V (ov := (some (.int r_32))) (st1 := [.int r_32]) (rest := []) (w0 := (cS G bS u_20 ++ cT G bT uT)) (w1 := (cS G bS u_33 ++ cT G bT u_34)) (wr := (cF 1 bF)) (w' := (cF 1 bF ++ cS G bS u_33 ++ cT G bT u_34)) C (cx_X6_takeText l G bS bT u_20 uT x3 x5 r_32 u_33 u_34 _ h_31) (cwV 3 hts gx_X1_X6_takeText_84 rfl rfl rfl hdx_X6_takeText ⟨Nat.le_of_ble_eq_true rfl, Nat.le_of_ble_eq_true rfl⟩) hK hA hT hP hD hS (va_recv hK hP (ci := 3) (q0 := 1) rfl rfl) [1, 2, 3, 4, 5, 6, 7, 8, 9, 10, 11, 12, 13, 14, 15] [0] [0, 1, 2, 3, 4, 5, 6, 7, 8, 9, 10, 11, 12, 13, 14, 15] rfl rfl rfl rfl (by decide) rfl rfl rfl hl.1 rfl rfl (Nat.le_of_ble_eq_true rfl) dX1_takeValues_127 (fun H locs hP hD hS => ?_)
            refine lv_if_ne (tgt := 135) hx hb dX1_takeValues_130 (by decide) (fun c_35 => ?_) (fun c_35 => ?_)
            · replace hf := og_f c_35 hf
              refine lv_iinc (v := (x5 + (1 : Int32))) (lv' := [(5, .int (x5 + (1 : Int32))), (8, .ref (gF G (r_16).val)), (0, .ref (bF 0)), (1, .ref (bS 0)), (2, .ref (bT 0)), (3, .int x3), (4, .ref (gK G (x4).val)), (6, .int x6), (7, .int x7)]) hx hb dX1_takeValues_135 hl (k := 6) rfl rfl (by decide) rfl (fun ls hl => ?_)
              refine lv_goto (tgt := 166) hx hb dX1_takeValues_138 (by decide) ?_
              exact wx_X1_takeValues_B_166 C hK hA hT (fx_X1_takeValues_B_70 n) (fun _ _ _ _ _ _ _ h9 => ih _ _ _ _ _ _ _ h9) u_33 u_34 x3 x4 (x5 + (1 : Int32)) x6 x7 hf hP hD hS (lv_sub hl [2, 3, 4, 5, 6, 0, 7, 8] rfl)
            · replace hf := og_t c_35 hf
              refine lv_iconst (v := (0 : Int32)) hx hb dX1_takeValues_133 (by decide) ?_
              obtain rfl := og_s hf
              exact rw_z C hK hP hD hS (nz_z (Or.inl rfl)) dX1_takeValues_134
        · replace hf := og_t c_21 hf
          refine lv_iconst (v := (0 : Int32)) hx hb dX1_takeValues_112 (by decide) ?_
          obtain rfl := og_s hf
          exact rw_z C hK hP hD hS (nz_z (Or.inl rfl)) dX1_takeValues_113
      · replace hf := og_f c_17 hf
        refine lv_goto (tgt := 166) hx hb dX1_takeValues_101 (by decide) ?_
        exact wx_X1_takeValues_B_166 C hK hA hT (fx_X1_takeValues_B_70 n) (fun _ _ _ _ _ _ _ h9 => ih _ _ _ _ _ _ _ h9) uS uT x3 x4 x5 x6 x7 hf hP hD hS (lv_sub hl [1, 2, 3, 4, 5, 6, 7, 8] rfl)
def fx_X1_takeValues_B (uS : Md) (uT : Md) (x3 : Int32) : Option (Int32 × Md × Md) := ((fx_X7_kindOf uT x3).bind fun r_2 => (if r_2 = (0 : Fin 10) then ((fx_X4_passGap_B uS).bind fun p_5 => (if p_5.1 = 0 then (fx_X1_takeValues_B_37 p_5.2 uT) else ((fx_X6_takeNumber p_5.2 (7 : Fin 8)).bind fun p_9 => (if p_9.1 = 0 then (fx_X1_takeValues_B_37 p_9.2 uT) else (fx_X1_takeValues_B_38 p_9.2 uT (1 : Int32)))))) else (fx_X1_takeValues_B_70 FU uS uT x3 r_2 (0 : Int32) (0 : Int32) (0 : Int32))))
set_option maxHeartbeats 4000000 in
set_option maxRecDepth 100000 in
theorem cx_X1_takeValues_B (l : Launch) (G : Gx) (bF : Nat → Nat) (bS : Nat → Nat) (bT : Nat → Nat) (uS : Md) (uT : Md) (x3 : Int32) (r : Int32) (vS : Md) (vT : Md) (sz : Nat) (hf : fx_X1_takeValues_B uS uT x3 = some (r, vS, vT)) : Met l yX1_takeValues wsx_X1_takeValues_B rmx_X1_takeValues_B (pX G (cF 1 bF ++ cS G bS uS ++ cT G bT uT) sz [.ref (bF 0), .ref (bS 0), .ref (bT 0), .int x3]) (qW (some (.int r)) (cF 1 bF ++ cS G bS vS ++ cT G bT vT) (gD G) (tyG G) (va_A (cF 1 bF ++ cS G bS uS ++ cT G bT uT) sz)) 0 0 (va_A (cF 1 bF ++ cS G bS uS ++ cT G bT uT) sz) := by
  refine mx_w (cc := cX1_takeValues) (maxL := 9) (ret := (some .boolean)) (by decide) rfl (Nat.le_of_ble_eq_true rfl) ?_
  intro p e s m below meth c ls A C hl hK hA hT hP hD hS
  have hl : lv_has ls 9 [(0, .ref (bF 0)), (1, .ref (bS 0)), (2, .ref (bT 0)), (3, .int x3)] := hl
  have hx := C.1.1
  have hb := C.1.2.1
  have hts := C.1.2.2.2.2
  have hown := C.1.2.2.2.1
  have hin6 : ∀ w ∈ wsX60, w ∈ wsx_X1_takeValues_B := fun w h => List.mem_cons_of_mem _ (List.mem_append_right _ (List.mem_append_right _ (List.mem_append_left _ h)))
  have hin7 : ∀ w ∈ wsX70, w ∈ wsx_X1_takeValues_B := fun w h => List.mem_cons_of_mem _ (List.mem_append_right _ (List.mem_append_right _ (List.mem_append_right _ (List.mem_append_left _ h))))
  unfold fx_X1_takeValues_B at hf
  refine lv_aload_n hx hb dX1_takeValues_0 rfl (lv_at hl 2 rfl) ?_
  refine lv_iload_n hx hb dX1_takeValues_1 rfl (lv_at hl 3 rfl) ?_
  obtain ⟨r_2, h_1, hf⟩ := og_b hf
  try dsimp only at hf
  refine xr_V (v := .ref (gK G (r_2).val)) (rest := []) (w0 := (cT G bT uT)) C (cx_X7_kindOf l G bT uT x3 r_2 _ h_1) (cwV 1 hts gx_X1_X7_kindOf_36 rfl rfl rfl hdx_X7_kindOf ⟨Nat.le_of_ble_eq_true rfl, Nat.le_of_ble_eq_true rfl⟩) hK hA hT hP hD hS (va_recv hK hP (ci := 4) (q0 := 3) rfl rfl) [3, 4, 5, 6, 7, 8, 9, 10, 11, 12, 13, 14, 15] rfl rfl rfl hl.1 rfl (Nat.le_of_ble_eq_true rfl) dX1_takeValues_2 ?_
  refine lv_astore (lv' := [(4, .ref (gK G (r_2).val)), (0, .ref (bF 0)), (1, .ref (bS 0)), (2, .ref (bT 0)), (3, .int x3)]) hx hb dX1_takeValues_5 hl (by decide) rfl (fun ls hl => ?_)
  refine lv_aload hx hb dX1_takeValues_7 (lv_at hl 0 rfl) ?_
  refine xK (i := (0 : Fin 10)) C hT hS (hts (Cond.fieldLink RX1 40 "SchematicText$Kind" "DESIGN" "LSchematicText$Kind;") (List.mem_cons_of_mem _ mx_193)) dX1_takeValues_9 ?_
  refine xa_ne (i := r_2) (j := (0 : Fin 10)) (tgt := 61) C hT dX1_takeValues_12 (by decide) (fun c_3 => ?_) (fun c_3 => ?_)
  · replace hf := og_f c_3 hf
    refine lv_iconst (v := (0 : Int32)) hx hb dX1_takeValues_61 (by decide) ?_
    refine lv_istore (lv' := [(5, .int (0 : Int32)), (4, .ref (gK G (r_2).val)), (0, .ref (bF 0)), (1, .ref (bS 0)), (2, .ref (bT 0)), (3, .int x3)]) hx hb dX1_takeValues_62 hl (by decide) rfl (fun ls hl => ?_)
    refine lv_iconst (v := (0 : Int32)) hx hb dX1_takeValues_64 (by decide) ?_
    refine lv_istore (lv' := [(6, .int (0 : Int32)), (5, .int (0 : Int32)), (4, .ref (gK G (r_2).val)), (0, .ref (bF 0)), (1, .ref (bS 0)), (2, .ref (bT 0)), (3, .int x3)]) hx hb dX1_takeValues_65 hl (by decide) rfl (fun ls hl => ?_)
    refine lv_iconst (v := (0 : Int32)) hx hb dX1_takeValues_67 (by decide) ?_
    refine lv_istore (lv' := [(7, .int (0 : Int32)), (6, .int (0 : Int32)), (5, .int (0 : Int32)), (4, .ref (gK G (r_2).val)), (0, .ref (bF 0)), (1, .ref (bS 0)), (2, .ref (bT 0)), (3, .int x3)]) hx hb dX1_takeValues_68 hl (by decide) rfl (fun ls hl => ?_)
    exact wx_X1_takeValues_B_70 C hK hA hT FU uS uT x3 r_2 (0 : Int32) (0 : Int32) (0 : Int32) hf hP hD hS (lv_sub hl [4, 5, 6, 7, 3, 2, 1, 0] rfl)
  · replace hf := og_t c_3 hf
    refine lv_aload_n hx hb dX1_takeValues_15 rfl (lv_at hl 1 rfl) ?_
    refine lv_aload_n hx hb dX1_takeValues_16 rfl (lv_at hl 2 rfl) ?_
    obtain ⟨⟨r_5, u_6⟩, h_4, hf⟩ := og_b hf
    try dsimp only at hf
    refine xw_U (ov := (some (.int r_5))) (st1 := [.int r_5]) (rest := []) (w0 := (cF 1 bF ++ cS G bS uS)) (w1 := (cF 1 bF ++ cS G bS u_6)) (wr := (cT G bT uT)) (w' := (cF 1 bF ++ cS G bS u_6 ++ cT G bT uT)) C (cx_X4_passGap_B l G bF bS uS r_5 u_6 _ h_4) (va_cwA 1 hts gx_X1_X4_passGap_B_46 rfl rfl rfl (hT.2.2.2 _ (by decide +kernel)) hdo_X4_passGap_B ⟨Nat.le_of_ble_eq_true rfl, Nat.le_of_ble_eq_true rfl⟩) hK hA hT hP hD hS (va_recv hK hP (ci := 1) (q0 := 0) rfl rfl) [0, 1, 2] [3, 4, 5, 6, 7, 8, 9, 10, 11, 12, 13, 14, 15] [13, 14, 15, 0, 1, 2, 3, 4, 5, 6, 7, 8, 9, 10, 11, 12] rfl rfl rfl rfl (by decide) rfl rfl rfl hl.1 rfl rfl (Nat.le_of_ble_eq_true rfl) dX1_takeValues_17 (fun H locs hP hD hS => ?_)
    refine lv_if_eq (tgt := 37) hx hb dX1_takeValues_20 (by decide) (fun c_7 => ?_) (fun c_7 => ?_)
    · replace hf := og_t c_7 hf
      exact wx_X1_takeValues_B_37 C hK hA hT u_6 uT hf hP hD hS (lv_sub hl [2, 3] rfl)
    · replace hf := og_f c_7 hf
      refine lv_aload_n hx hb dX1_takeValues_23 rfl (lv_at hl 2 rfl) ?_
      refine xF (i := (7 : Fin 8)) C hT hS (hts (Cond.fieldLink RX1 52 "SchematicText$Field" "VERSION" "LSchematicText$Field;") (List.mem_cons_of_mem _ mx_194)) dX1_takeValues_24 ?_
      obtain ⟨⟨r_9, u_10⟩, h_8, hf⟩ := og_b hf
      try dsimp only at hf
      refine xw_V (ov := (some (.int r_9))) (st1 := [.int r_9]) (rest := []) (w0 := (cS G bS u_6)) (w1 := (cS G bS u_10)) (wr := (cF 1 bF ++ cT G bT uT)) (w' := (cF 1 bF ++ cS G bS u_10 ++ cT G bT uT)) C (cx_X6_takeNumber l G bS u_6 (7 : Fin 8) r_9 u_10 _ h_8) (cwV 1 hts gx_X1_X6_takeNumber_58 rfl rfl rfl hdx_X6_takeNumber ⟨Nat.le_of_ble_eq_true rfl, Nat.le_of_ble_eq_true rfl⟩) hK hA hT hP hD hS (va_recv hK hP (ci := 3) (q0 := 1) rfl rfl) [1, 2] [0, 3, 4, 5, 6, 7, 8, 9, 10, 11, 12, 13, 14, 15] [0, 14, 15, 1, 2, 3, 4, 5, 6, 7, 8, 9, 10, 11, 12, 13] rfl rfl rfl rfl (by decide) rfl rfl rfl hl.1 rfl rfl (Nat.le_of_ble_eq_true rfl) dX1_takeValues_27 (fun H locs hP hD hS => ?_)
      refine lv_if_eq (tgt := 37) hx hb dX1_takeValues_30 (by decide) (fun c_11 => ?_) (fun c_11 => ?_)
      · replace hf := og_t c_11 hf
        exact wx_X1_takeValues_B_37 C hK hA hT u_10 uT hf hP hD hS (lv_sub hl [2, 3] rfl)
      · replace hf := og_f c_11 hf
        refine lv_iconst (v := (1 : Int32)) hx hb dX1_takeValues_33 (by decide) ?_
        refine lv_goto (tgt := 38) hx hb dX1_takeValues_34 (by decide) ?_
        exact wx_X1_takeValues_B_38 C hK hA hT u_10 uT (1 : Int32) hf hP hD hS (lv_sub hl [2, 3] rfl)
theorem gx_X4_X1_takeName_B_51 {c0 : Cond} : GoodIn (c0 :: WAX) (va_wsU RX4 51 RX4 "SchematicText$Form" ⟨"SchematicText$ListForm", "takeName", "(LSchematicText$Source;LSchematicText$Tree;I)I"⟩ yX1_takeName wsx_X1_takeName_B) := gdx_u mx_415 mx_416 mx_417 mx_342 mx_318 mx_18
theorem gx_X4_X7_kindOf_54 {c0 : Cond} : GoodIn (c0 :: WAX) (wsV RX4 54 RX7 yX7_kindOf wsx_X7_kindOf) := gdx_v mx_418 mx_108 mx_109 mx_99 mx_110
theorem gx_X4_X4_keepList_B_64 {c0 : Cond} : GoodIn (c0 :: WAX) (wsV RX4 64 RX4 yX4_keepList wsx_X4_keepList_B) := gdx_v mx_419 mx_420 mx_421 mx_209 mx_422
theorem gx_X4_X1_takeValues_B_68 {c0 : Cond} : GoodIn (c0 :: WAX) (va_wsU RX4 68 RX4 "SchematicText$Form" ⟨"SchematicText$ListForm", "takeValues", "(LSchematicText$Source;LSchematicText$Tree;I)Z"⟩ yX1_takeValues wsx_X1_takeValues_B) := gdx_u mx_430 mx_431 mx_432 mx_369 mx_318 mx_192
abbrev rmx_X4_takeList_B : Room := { frames := 8, cells := 0, slots := 0, locals := 180 }
noncomputable abbrev wsx_X4_takeList_B : List Cond := Cond.code yX4_takeList cX4_takeList 6 (some .int) :: WAX
theorem hdx_X4_takeList_B : yX4_takeList.cls = RX4 ∧ yX4_takeList.cls ≠ "java/lang/invoke/MethodHandle" ∧ yX4_takeList.cls ≠ "java/lang/invoke/VarHandle" ∧ (parseMethodDescriptor yX4_takeList.desc).map (fun d => d.parameters.length) = some 3 := by decide +kernel
theorem hdo_X4_takeList_B : "SchematicText$Form" ≠ "java/lang/invoke/MethodHandle" ∧ "SchematicText$Form" ≠ "java/lang/invoke/VarHandle" ∧ (parseMethodDescriptor "(LSchematicText$Source;LSchematicText$Tree;I)I").map (fun d => d.parameters.length) = some 3 := by decide +kernel
def fx_X4_takeList_B (uS : Md) (uT : Md) (x3 : Int32) : Option (Int32 × Md × Md) := ((fx_X7_depthOf uT x3).bind fun r_2 => (if (r_2 + (1 : Int32)) < (100 : Int32) then ((fx_X6_pass uS).bind fun u_5 => ((fx_X6_passBlanks u_5).bind fun u_7 => ((fx_X1_takeName_B u_7 uT x3).bind fun p_9 => (if p_9.1 = (-1 : Int32) then (some ((-1 : Int32), p_9.2.1, p_9.2.2)) else ((fx_X7_kindOf p_9.2.2 p_9.1).bind fun r_14 => (if r_14 = (9 : Fin 10) then ((fx_X4_keepList_B p_9.2.1 p_9.2.2 p_9.1 (gi uS 2)).bind fun p_22 => (if p_22.1 = 0 then (some ((-1 : Int32), p_22.2.1, p_22.2.2)) else (some (x3, p_22.2.1, p_22.2.2)))) else ((fx_X1_takeValues_B p_9.2.1 p_9.2.2 p_9.1).bind fun p_17 => (if p_17.1 = 0 then (some ((-1 : Int32), p_17.2.1, p_17.2.2)) else (some (p_9.1, p_17.2.1, p_17.2.2)))))))))) else ((fx_X6_failAt uS (gi uS 2)).bind fun p_27 => (some ((-1 : Int32), p_27.2, uT)))))
set_option maxHeartbeats 4000000 in
set_option maxRecDepth 100000 in
theorem cx_X4_takeList_B (l : Launch) (G : Gx) (bF : Nat → Nat) (bS : Nat → Nat) (bT : Nat → Nat) (uS : Md) (uT : Md) (x3 : Int32) (r : Int32) (vS : Md) (vT : Md) (sz : Nat) (hf : fx_X4_takeList_B uS uT x3 = some (r, vS, vT)) : Met l yX4_takeList wsx_X4_takeList_B rmx_X4_takeList_B (pX G (cF 1 bF ++ cS G bS uS ++ cT G bT uT) sz [.ref (bF 0), .ref (bS 0), .ref (bT 0), .int x3]) (qW (some (.int r)) (cF 1 bF ++ cS G bS vS ++ cT G bT vT) (gD G) (tyG G) (va_A (cF 1 bF ++ cS G bS uS ++ cT G bT uT) sz)) 0 0 (va_A (cF 1 bF ++ cS G bS uS ++ cT G bT uT) sz) := by
  refine mx_w (cc := cX4_takeList) (maxL := 6) (ret := (some .int)) (by decide) rfl (Nat.le_of_ble_eq_true rfl) ?_
  intro p e s m below meth c ls A C hl hK hA hT hP hD hS
  have hl : lv_has ls 6 [(0, .ref (bF 0)), (1, .ref (bS 0)), (2, .ref (bT 0)), (3, .int x3)] := hl
  have hx := C.1.1
  have hb := C.1.2.1
  have hts := C.1.2.2.2.2
  have hown := C.1.2.2.2.1
  have hin6 : ∀ w ∈ wsX60, w ∈ wsx_X4_takeList_B := fun w h => List.mem_cons_of_mem _ (List.mem_append_right _ (List.mem_append_right _ (List.mem_append_left _ h)))
  have hin7 : ∀ w ∈ wsX70, w ∈ wsx_X4_takeList_B := fun w h => List.mem_cons_of_mem _ (List.mem_append_right _ (List.mem_append_right _ (List.mem_append_right _ (List.mem_append_left _ h))))
  unfold fx_X4_takeList_B at hf
  refine lv_aload_n hx hb dX4_takeList_0 rfl (lv_at hl 1 rfl) ?_
  refine xgN (v := .int (gi uS 2)) (ci := 3) (K := RX6) (T := TX6) (N := 5) (host := "SchematicText") C hT hin6 hK hP 1 rfl rfl 2 (by decide) rfl (by decide +kernel) rfl dX4_takeList_1 ?_
  refine lv_istore (lv' := [(4, .int (gi uS 2)), (0, .ref (bF 0)), (1, .ref (bS 0)), (2, .ref (bT 0)), (3, .int x3)]) hx hb dX4_takeList_4 hl (by decide) rfl (fun ls hl => ?_)
  refine lv_aload_n hx hb dX4_takeList_6 rfl (lv_at hl 3 rfl) ?_
  refine lv_iload_n hx hb dX4_takeList_7 rfl (lv_at hl 4 rfl) ?_
  obtain ⟨r_2, h_1, hf⟩ := og_b hf
  try dsimp only at hf
  refine xr_V (v := .int r_2) (rest := []) (w0 := (cT G bT uT)) C (cx_X7_depthOf l G bT uT x3 r_2 _ h_1) (cwV 1 hts gx_X4_X7_depthOf_48 rfl rfl rfl hdx_X7_depthOf ⟨Nat.le_of_ble_eq_true rfl, Nat.le_of_ble_eq_true rfl⟩) hK hA hT hP hD hS (va_recv hK hP (ci := 4) (q0 := 3) rfl rfl) [3, 4, 5, 6, 7, 8, 9, 10, 11, 12, 13, 14, 15] rfl rfl rfl hl.1 rfl (Nat.le_of_ble_eq_true rfl) dX4_takeList_8 ?_
  refine lv_iconst (v := (1 : Int32)) hx hb dX4_takeList_11 (by decide) ?_
  refine lv_iadd hx hb dX4_takeList_12 ?_
  refine lv_bipush (v := (100 : Int32)) hx hb dX4_takeList_13 (by decide) ?_
  refine lv_icmp_lt (tgt := 27) hx hb dX4_takeList_15 (by decide) (fun c_3 => ?_) (fun c_3 => ?_)
  · replace hf := og_t c_3 hf
    refine lv_aload_n hx hb dX4_takeList_27 rfl (lv_at hl 2 rfl) ?_
    obtain ⟨u_5, h_4, hf⟩ := og_b hf
    try dsimp only at hf
    refine xw_V (ov := none) (st1 := []) (rest := []) (w0 := (cS G bS uS)) (w1 := (cS G bS u_5)) (wr := (cF 1 bF ++ cT G bT uT)) (w' := (cF 1 bF ++ cS G bS u_5 ++ cT G bT uT)) C (cx_X6_pass l G bS uS u_5 _ h_4) (cwV 0 hts gx_X4_X6_pass_32 rfl rfl rfl hdx_X6_pass ⟨Nat.le_of_ble_eq_true rfl, Nat.le_of_ble_eq_true rfl⟩) hK hA hT hP hD hS (va_recv hK hP (ci := 3) (q0 := 1) rfl rfl) [1, 2] [0, 3, 4, 5, 6, 7, 8, 9, 10, 11, 12, 13, 14, 15] [0, 14, 15, 1, 2, 3, 4, 5, 6, 7, 8, 9, 10, 11, 12, 13] rfl rfl rfl rfl (by decide) rfl rfl rfl hl.1 rfl rfl (Nat.le_of_ble_eq_true rfl) dX4_takeList_28 (fun H locs hP hD hS => ?_)
    refine lv_aload_n hx hb dX4_takeList_31 rfl (lv_at hl 2 rfl) ?_
    obtain ⟨u_7, h_6, hf⟩ := og_b hf
    try dsimp only at hf
    refine xw_V (ov := none) (st1 := []) (rest := []) (w0 := (cS G bS u_5)) (w1 := (cS G bS u_7)) (wr := (cF 1 bF ++ cT G bT uT)) (w' := (cF 1 bF ++ cS G bS u_7 ++ cT G bT uT)) C (cx_X6_passBlanks l G bS u_5 u_7 _ h_6) (cwV 0 hts gx_X4_X6_passBlanks_9 rfl rfl rfl hdx_X6_passBlanks ⟨Nat.le_of_ble_eq_true rfl, Nat.le_of_ble_eq_true rfl⟩) hK hA hT hP hD hS (va_recv hK hP (ci := 3) (q0 := 1) rfl rfl) [1, 2] [0, 3, 4, 5, 6, 7, 8, 9, 10, 11, 12, 13, 14, 15] [0, 14, 15, 1, 2, 3, 4, 5, 6, 7, 8, 9, 10, 11, 12, 13] rfl rfl rfl rfl (by decide) rfl rfl rfl hl.1 rfl rfl (Nat.le_of_ble_eq_true rfl) dX4_takeList_32 (fun H locs hP hD hS => ?_)
    refine lv_aload_n hx hb dX4_takeList_35 rfl (lv_at hl 1 rfl) ?_
    refine lv_aload_n hx hb dX4_takeList_36 rfl (lv_at hl 2 rfl) ?_
    refine lv_aload_n hx hb dX4_takeList_37 rfl (lv_at hl 3 rfl) ?_
    refine lv_iload_n hx hb dX4_takeList_38 rfl (lv_at hl 4 rfl) ?_
    obtain ⟨⟨r_9, u_10, u_11⟩, h_8, hf⟩ := og_b hf
    try dsimp only at hf
    refine xw_U (ov := (some (.int r_9))) (st1 := [.int r_9]) (rest := []) (w0 := (cF 1 bF ++ cS G bS u_7 ++ cT G bT uT)) (w1 := (cF 1 bF ++ cS G bS u_10 ++ cT G bT u_11)) (wr := ([])) (w' := (cF 1 bF ++ cS G bS u_10 ++ cT G bT u_11)) C (cx_X1_takeName_B l G bF bS bT u_7 uT x3 r_9 u_10 u_11 _ h_8) (va_cwU 3 hts gx_X4_X1_takeName_B_51 rfl rfl rfl rfl hdo_X1_takeName_B ⟨Nat.le_of_ble_eq_true rfl, Nat.le_of_ble_eq_true rfl⟩) hK hA hT hP hD hS (va_recv hK hP (ci := 1) (q0 := 0) rfl rfl) [0, 1, 2, 3, 4, 5, 6, 7, 8, 9, 10, 11, 12, 13, 14, 15] [] [0, 1, 2, 3, 4, 5, 6, 7, 8, 9, 10, 11, 12, 13, 14, 15] rfl rfl rfl rfl (by decide) rfl rfl rfl hl.1 rfl rfl (Nat.le_of_ble_eq_true rfl) dX4_takeList_39 (fun H locs hP hD hS => ?_)
    refine lv_istore (lv' := [(5, .int r_9), (4, .int (gi uS 2)), (0, .ref (bF 0)), (1, .ref (bS 0)), (2, .ref (bT 0)), (3, .int x3)]) hx hb dX4_takeList_42 hl (by decide) rfl (fun ls hl => ?_)
    refine lv_iload hx hb dX4_takeList_44 (lv_at hl 0 rfl) ?_
    refine lv_iconst (v := (-1 : Int32)) hx hb dX4_takeList_46 (by decide) ?_
    refine lv_icmp_ne (tgt := 52) hx hb dX4_takeList_47 (by decide) (fun c_12 => ?_) (fun c_12 => ?_)
    · replace hf := og_f c_12 hf
      refine lv_aload_n hx hb dX4_takeList_52 rfl (lv_at hl 4 rfl) ?_
      refine lv_iload hx hb dX4_takeList_53 (lv_at hl 0 rfl) ?_
      obtain ⟨r_14, h_13, hf⟩ := og_b hf
      try dsimp only at hf
      refine xr_V (v := .ref (gK G (r_14).val)) (rest := []) (w0 := (cT G bT u_11)) C (cx_X7_kindOf l G bT u_11 r_9 r_14 _ h_13) (cwV 1 hts gx_X4_X7_kindOf_54 rfl rfl rfl hdx_X7_kindOf ⟨Nat.le_of_ble_eq_true rfl, Nat.le_of_ble_eq_true rfl⟩) hK hA hT hP hD hS (va_recv hK hP (ci := 4) (q0 := 3) rfl rfl) [3, 4, 5, 6, 7, 8, 9, 10, 11, 12, 13, 14, 15] rfl rfl rfl hl.1 rfl (Nat.le_of_ble_eq_true rfl) dX4_takeList_55 ?_
      refine xK (i := (9 : Fin 10)) C hT hS (hts (Cond.fieldLink RX4 58 "SchematicText$Kind" "UNKNOWN" "LSchematicText$Kind;") (List.mem_cons_of_mem _ mx_409)) dX4_takeList_58 ?_
      refine xa_ne (i := r_14) (j := (9 : Fin 10)) (tgt := 83) C hT dX4_takeList_61 (by decide) (fun c_15 => ?_) (fun c_15 => ?_)
      · replace hf := og_f c_15 hf
        refine lv_aload_n hx hb dX4_takeList_83 rfl (lv_at hl 2 rfl) ?_
        refine lv_aload_n hx hb dX4_takeList_84 rfl (lv_at hl 3 rfl) ?_
        refine lv_aload_n hx hb dX4_takeList_85 rfl (lv_at hl 4 rfl) ?_
        refine lv_iload hx hb dX4_takeList_86 (lv_at hl 0 rfl) ?_
        obtain ⟨⟨r_17, u_18, u_19⟩, h_16, hf⟩ := og_b hf
        try dsimp only at hf
        refine xw_U (ov := (some (.int r_17))) (st1 := [.int r_17]) (rest := []) (w0 := (cF 1 bF ++ cS G bS u_10 ++ cT G bT u_11)) (w1 := (cF 1 bF ++ cS G bS u_18 ++ cT G bT u_19)) (wr := ([])) (w' := (cF 1 bF ++ cS G bS u_18 ++ cT G bT u_19)) C (cx_X1_takeValues_B l G bF bS bT u_10 u_11 r_9 r_17 u_18 u_19 _ h_16) (va_cwU 3 hts gx_X4_X1_takeValues_B_68 rfl rfl rfl rfl hdo_X1_takeValues_B ⟨Nat.le_of_ble_eq_true rfl, Nat.le_of_ble_eq_true rfl⟩) hK hA hT hP hD hS (va_recv hK hP (ci := 1) (q0 := 0) rfl rfl) [0, 1, 2, 3, 4, 5, 6, 7, 8, 9, 10, 11, 12, 13, 14, 15] [] [0, 1, 2, 3, 4, 5, 6, 7, 8, 9, 10, 11, 12, 13, 14, 15] rfl rfl rfl rfl (by decide) rfl rfl rfl hl.1 rfl rfl (Nat.le_of_ble_eq_true rfl) dX4_takeList_88 (fun H locs hP hD hS => ?_)
        refine lv_if_eq (tgt := 99) hx hb dX4_takeList_91 (by decide) (fun c_20 => ?_) (fun c_20 => ?_)
        · replace hf := og_t c_20 hf
          refine lv_iconst (v := (-1 : Int32)) hx hb dX4_takeList_99 (by decide) ?_
          obtain ⟨rfl, rfl, rfl⟩ := pi3 (og_s hf)
          exact rw_i C hK hP hD hS dX4_takeList_100
        · replace hf := og_f c_20 hf
          refine lv_iload hx hb dX4_takeList_94 (lv_at hl 0 rfl) ?_
          refine lv_goto (tgt := 100) hx hb dX4_takeList_96 (by decide) ?_
          obtain ⟨rfl, rfl, rfl⟩ := pi3 (og_s hf)
          exact rw_i C hK hP hD hS dX4_takeList_100
      · replace hf := og_t c_15 hf
        refine lv_aload_n hx hb dX4_takeList_64 rfl (lv_at hl 2 rfl) ?_
        refine lv_aload_n hx hb dX4_takeList_65 rfl (lv_at hl 3 rfl) ?_
        refine lv_aload_n hx hb dX4_takeList_66 rfl (lv_at hl 4 rfl) ?_
        refine lv_iload hx hb dX4_takeList_67 (lv_at hl 0 rfl) ?_
        refine lv_iload hx hb dX4_takeList_69 (lv_at hl 1 rfl) ?_
        obtain ⟨⟨r_22, u_23, u_24⟩, h_21, hf⟩ := og_b hf
        try dsimp only at hf
        refine xw_V (ov := (some (.int r_22))) (st1 := [.int r_22]) (rest := []) (w0 := (cF 1 bF ++ cS G bS u_10 ++ cT G bT u_11)) (w1 := (cF 1 bF ++ cS G bS u_23 ++ cT G bT u_24)) (wr := ([])) (w' := (cF 1 bF ++ cS G bS u_23 ++ cT G bT u_24)) C (cx_X4_keepList_B l G bF bS bT u_10 u_11 r_9 (gi uS 2) r_22 u_23 u_24 _ h_21) (cwV 4 hts gx_X4_X4_keepList_B_64 rfl rfl rfl hdx_X4_keepList_B ⟨Nat.le_of_ble_eq_true rfl, Nat.le_of_ble_eq_true rfl⟩) hK hA hT hP hD hS (va_recv hK hP (ci := 1) (q0 := 0) rfl rfl) [0, 1, 2, 3, 4, 5, 6, 7, 8, 9, 10, 11, 12, 13, 14, 15] [] [0, 1, 2, 3, 4, 5, 6, 7, 8, 9, 10, 11, 12, 13, 14, 15] rfl rfl rfl rfl (by decide) rfl rfl rfl hl.1 rfl rfl (Nat.le_of_ble_eq_true rfl) dX4_takeList_71 (fun H locs hP hD hS => ?_)
        refine lv_if_eq (tgt := 81) hx hb dX4_takeList_74 (by decide) (fun c_25 => ?_) (fun c_25 => ?_)
        · replace hf := og_t c_25 hf
          refine lv_iconst (v := (-1 : Int32)) hx hb dX4_takeList_81 (by decide) ?_
          obtain ⟨rfl, rfl, rfl⟩ := pi3 (og_s hf)
          exact rw_i C hK hP hD hS dX4_takeList_82
        · replace hf := og_f c_25 hf
          refine lv_iload_n hx hb dX4_takeList_77 rfl (lv_at hl 5 rfl) ?_
          refine lv_goto (tgt := 82) hx hb dX4_takeList_78 (by decide) ?_
          obtain ⟨rfl, rfl, rfl⟩ := pi3 (og_s hf)
          exact rw_i C hK hP hD hS dX4_takeList_82
    · replace hf := og_t c_12 hf
      refine lv_iconst (v := (-1 : Int32)) hx hb dX4_takeList_50 (by decide) ?_
      obtain ⟨rfl, rfl, rfl⟩ := pi3 (og_s hf)
      exact rw_i C hK hP hD hS dX4_takeList_51
  · replace hf := og_f c_3 hf
    refine lv_aload_n hx hb dX4_takeList_18 rfl (lv_at hl 2 rfl) ?_
    refine lv_iload hx hb dX4_takeList_19 (lv_at hl 0 rfl) ?_
    obtain ⟨⟨r_27, u_28⟩, h_26, hf⟩ := og_b hf
    try dsimp only at hf
    refine xw_V (ov := (some (.int r_27))) (st1 := [.int r_27]) (rest := []) (w0 := (cS G bS uS)) (w1 := (cS G bS u_28)) (wr := (cF 1 bF ++ cT G bT uT)) (w' := (cF 1 bF ++ cS G bS u_28 ++ cT G bT uT)) C (cx_X6_failAt l G bS uS (gi uS 2) r_27 u_28 _ h_26) (cwV 1 hts gx_X4_X6_failAt_22 rfl rfl rfl hdx_X6_failAt ⟨Nat.le_of_ble_eq_true rfl, Nat.le_of_ble_eq_true rfl⟩) hK hA hT hP hD hS (va_recv hK hP (ci := 3) (q0 := 1) rfl rfl) [1, 2] [0, 3, 4, 5, 6, 7, 8, 9, 10, 11, 12, 13, 14, 15] [0, 14, 15, 1, 2, 3, 4, 5, 6, 7, 8, 9, 10, 11, 12, 13] rfl rfl rfl rfl (by decide) rfl rfl rfl hl.1 rfl rfl (Nat.le_of_ble_eq_true rfl) dX4_takeList_21 (fun H locs hP hD hS => ?_)
    refine lv_pop hx hb dX4_takeList_24 rfl ?_
    refine lv_iconst (v := (-1 : Int32)) hx hb dX4_takeList_25 (by decide) ?_
    obtain ⟨rfl, rfl, rfl⟩ := pi3 (og_s hf)
    exact rw_i C hK hP hD hS dX4_takeList_26
theorem gx_X4_X4_takeList_B_26 {c0 : Cond} : GoodIn (c0 :: WAX) (wsV RX4 26 RX4 yX4_takeList wsx_X4_takeList_B) := gdx_v mx_405 mx_406 mx_407 mx_209 mx_408
theorem gx_X4_X7_parentOf_35 {c0 : Cond} : GoodIn (c0 :: WAX) (wsV RX4 35 RX7 yX7_parentOf wsx_X7_parentOf) := gdx_v mx_433 mx_336 mx_337 mx_99 mx_338
theorem gx_X4_X6_ended_44 {c0 : Cond} : GoodIn (c0 :: WAX) (wsV RX4 44 RX6 yX6_ended wsx_X6_ended) := gdx_v mx_434 mx_371 mx_372 mx_22 mx_373
abbrev rmx_X4_take_B : Room := { frames := 9, cells := 0, slots := 0, locals := 205 }
noncomputable abbrev wsx_X4_take_B : List Cond := Cond.code yX4_take cX4_take 5 (some .boolean) :: WAX
theorem hdx_X4_take_B : yX4_take.cls = RX4 ∧ yX4_take.cls ≠ "java/lang/invoke/MethodHandle" ∧ yX4_take.cls ≠ "java/lang/invoke/VarHandle" ∧ (parseMethodDescriptor yX4_take.desc).map (fun d => d.parameters.length) = some 2 := by decide +kernel
theorem hdo_X4_take_B : "SchematicText$Form" ≠ "java/lang/invoke/MethodHandle" ∧ "SchematicText$Form" ≠ "java/lang/invoke/VarHandle" ∧ (parseMethodDescriptor "(LSchematicText$Source;LSchematicText$Tree;)Z").map (fun d => d.parameters.length) = some 2 := by decide +kernel
def fx_X4_take_B_101 (k33 : Md → Md → Int32 → Int32 → Option (Int32 × Md × Md)) (uS : Md) (uT : Md) (x3 : Int32) (x4 : Int32) : Option (Int32 × Md × Md) := (k33 uS uT x3 (x4 + (1 : Int32)))
set_option maxHeartbeats 4000000 in
set_option maxRecDepth 100000 in
theorem wx_X4_take_B_101 {p : Program} {l : Launch} {e : Env} {s : State} {m : MethodId} {args : Array Value} {below : List Frame} {meth : Method} {c : Code} {G : Gx} {A : Nat → Prop} {bF : Nat → Nat} {bS : Nat → Nat} {bT : Nat → Nat} (C : Cx p s m args meth c cX4_take 5 wsx_X4_take_B RX4 (some .boolean)) (hK : va_K (gD G) vwCl (tyG G) s) (hA : ∀ q : Nat, s.heap.size ≤ q → A q) (hT : ST G A s s.heap) {r : (Int32 × Md × Md)} (k33 : Md → Md → Int32 → Int32 → Option (Int32 × Md × Md)) (ih33 : ∀ (uS : Md) (uT : Md) (x3 : Int32) (x4 : Int32), k33 uS uT x3 x4 = some r → ∀ {H : Heap} {locs : List Loc}, va_P (gD G) vwCl (cF 1 bF ++ cS G bS uS ++ cT G bT uT) H → va_D A (cF 1 bF ++ cS G bS uS ++ cT G bT uT) → va_S A s.heap H locs → ∀ {ls : Array Slot}, lv_has ls 5 [(0, .ref (bF 0)), (1, .ref (bS 0)), (2, .ref (bT 0)), (3, .int x3), (4, .int x4)] → W p l e rmx_X4_take_B s m args below meth c H locs 0 0 (MQ below (qW (some (.int r.1)) (cF 1 bF ++ cS G bS r.2.1 ++ cT G bT r.2.2) (gD G) (tyG G) A) args s 0 0 A) (F0 m 33 ls [])) : ∀ (uS : Md) (uT : Md) (x3 : Int32) (x4 : Int32), fx_X4_take_B_101 k33 uS uT x3 x4 = some r → ∀ {H : Heap} {locs : List Loc}, va_P (gD G) vwCl (cF 1 bF ++ cS G bS uS ++ cT G bT uT) H → va_D A (cF 1 bF ++ cS G bS uS ++ cT G bT uT) → va_S A s.heap H locs → ∀ {ls : Array Slot}, lv_has ls 5 [(0, .ref (bF 0)), (1, .ref (bS 0)), (2, .ref (bT 0)), (3, .int x3), (4, .int x4)] → W p l e rmx_X4_take_B s m args below meth c H locs 0 0 (MQ below (qW (some (.int r.1)) (cF 1 bF ++ cS G bS r.2.1 ++ cT G bT r.2.2) (gD G) (tyG G) A) args s 0 0 A) (F0 m 101 ls []) := by
  have hx := C.1.1
  have hb := C.1.2.1
  have hts := C.1.2.2.2.2
  have hown := C.1.2.2.2.1
  have hin6 : ∀ w ∈ wsX60, w ∈ wsx_X4_take_B := fun w h => List.mem_cons_of_mem _ (List.mem_append_right _ (List.mem_append_right _ (List.mem_append_left _ h)))
  have hin7 : ∀ w ∈ wsX70, w ∈ wsx_X4_take_B := fun w h => List.mem_cons_of_mem _ (List.mem_append_right _ (List.mem_append_right _ (List.mem_append_right _ (List.mem_append_left _ h))))
  intro uS uT x3 x4 hf H locs hP hD hS ls hl
  unfold fx_X4_take_B_101 at hf
  refine lv_iinc (v := (x4 + (1 : Int32))) (lv' := [(4, .int (x4 + (1 : Int32))), (0, .ref (bF 0)), (1, .ref (bS 0)), (2, .ref (bT 0)), (3, .int x3)]) hx hb dX4_take_101 hl (k := 4) rfl rfl (by decide) rfl (fun ls hl => ?_)
  refine lv_goto (tgt := 33) hx hb dX4_take_104 (by decide) ?_
  exact ih33 uS uT x3 (x4 + (1 : Int32)) hf hP hD hS (lv_sub hl [1, 2, 3, 4, 0] rfl)
def fx_X4_take_B_107 (uS : Md) (uT : Md) : Option (Int32 × Md × Md) := (if (gi uS 3) = (-1 : Int32) then ((fx_X6_passBlanks uS).bind fun u_38 => ((fx_X6_ended u_38).bind fun r_40 => (if r_40 = 0 then ((fx_X6_failAt u_38 (gi u_38 2)).bind fun p_43 => (if p_43.1 = 0 then (some ((0 : Int32), p_43.2, uT)) else (some ((1 : Int32), p_43.2, uT)))) else (some ((1 : Int32), u_38, uT))))) else (some ((0 : Int32), uS, uT)))
set_option maxHeartbeats 4000000 in
set_option maxRecDepth 100000 in
theorem wx_X4_take_B_107 {p : Program} {l : Launch} {e : Env} {s : State} {m : MethodId} {args : Array Value} {below : List Frame} {meth : Method} {c : Code} {G : Gx} {A : Nat → Prop} {bF : Nat → Nat} {bS : Nat → Nat} {bT : Nat → Nat} (C : Cx p s m args meth c cX4_take 5 wsx_X4_take_B RX4 (some .boolean)) (hK : va_K (gD G) vwCl (tyG G) s) (hA : ∀ q : Nat, s.heap.size ≤ q → A q) (hT : ST G A s s.heap) {r : (Int32 × Md × Md)} : ∀ (uS : Md) (uT : Md), fx_X4_take_B_107 uS uT = some r → ∀ {H : Heap} {locs : List Loc}, va_P (gD G) vwCl (cF 1 bF ++ cS G bS uS ++ cT G bT uT) H → va_D A (cF 1 bF ++ cS G bS uS ++ cT G bT uT) → va_S A s.heap H locs → ∀ {ls : Array Slot}, lv_has ls 5 [(1, .ref (bS 0))] → W p l e rmx_X4_take_B s m args below meth c H locs 0 0 (MQ below (qW (some (.int r.1)) (cF 1 bF ++ cS G bS r.2.1 ++ cT G bT r.2.2) (gD G) (tyG G) A) args s 0 0 A) (F0 m 107 ls []) := by
  have hx := C.1.1
  have hb := C.1.2.1
  have hts := C.1.2.2.2.2
  have hown := C.1.2.2.2.1
  have hin6 : ∀ w ∈ wsX60, w ∈ wsx_X4_take_B := fun w h => List.mem_cons_of_mem _ (List.mem_append_right _ (List.mem_append_right _ (List.mem_append_left _ h)))
  have hin7 : ∀ w ∈ wsX70, w ∈ wsx_X4_take_B := fun w h => List.mem_cons_of_mem _ (List.mem_append_right _ (List.mem_append_right _ (List.mem_append_right _ (List.mem_append_left _ h))))
  intro uS uT hf H locs hP hD hS ls hl
  unfold fx_X4_take_B_107 at hf
  refine lv_aload_n hx hb dX4_take_107 rfl (lv_at hl 0 rfl) ?_
  refine xgN (v := .int (gi uS 3)) (ci := 3) (K := RX6) (T := TX6) (N := 5) (host := "SchematicText") C hT hin6 hK hP 1 rfl rfl 3 (by decide) rfl (by decide +kernel) rfl dX4_take_108 ?_
  refine lv_iconst (v := (-1 : Int32)) hx hb dX4_take_111 (by decide) ?_
  refine lv_icmp_eq (tgt := 117) hx hb dX4_take_112 (by decide) (fun c_36 => ?_) (fun c_36 => ?_)
  · replace hf := og_t c_36 hf
    refine lv_aload_n hx hb dX4_take_117 rfl (lv_at hl 0 rfl) ?_
    obtain ⟨u_38, h_37, hf⟩ := og_b hf
    try dsimp only at hf
    refine xw_V (ov := none) (st1 := []) (rest := []) (w0 := (cS G bS uS)) (w1 := (cS G bS u_38)) (wr := (cF 1 bF ++ cT G bT uT)) (w' := (cF 1 bF ++ cS G bS u_38 ++ cT G bT uT)) C (cx_X6_passBlanks l G bS uS u_38 _ h_37) (cwV 0 hts gx_X4_X6_passBlanks_9 rfl rfl rfl hdx_X6_passBlanks ⟨Nat.le_of_ble_eq_true rfl, Nat.le_of_ble_eq_true rfl⟩) hK hA hT hP hD hS (va_recv hK hP (ci := 3) (q0 := 1) rfl rfl) [1, 2] [0, 3, 4, 5, 6, 7, 8, 9, 10, 11, 12, 13, 14, 15] [0, 14, 15, 1, 2, 3, 4, 5, 6, 7, 8, 9, 10, 11, 12, 13] rfl rfl rfl rfl (by decide) rfl rfl rfl hl.1 rfl rfl (Nat.le_of_ble_eq_true rfl) dX4_take_118 (fun H locs hP hD hS => ?_)
    refine lv_aload_n hx hb dX4_take_121 rfl (lv_at hl 0 rfl) ?_
    obtain ⟨r_40, h_39, hf⟩ := og_b hf
    try dsimp only at hf
    refine xr_V (v := .int r_40) (rest := []) (w0 := (cS G bS u_38)) C (cx_X6_ended l G bS u_38 r_40 _ h_39) (cwV 0 hts gx_X4_X6_ended_44 rfl rfl rfl hdx_X6_ended ⟨Nat.le_of_ble_eq_true rfl, Nat.le_of_ble_eq_true rfl⟩) hK hA hT hP hD hS (va_recv hK hP (ci := 3) (q0 := 1) rfl rfl) [1, 2] rfl rfl rfl hl.1 rfl (Nat.le_of_ble_eq_true rfl) dX4_take_122 ?_
    refine lv_if_ne (tgt := 139) hx hb dX4_take_125 (by decide) (fun c_41 => ?_) (fun c_41 => ?_)
    · replace hf := og_f c_41 hf
      refine lv_iconst (v := (1 : Int32)) hx hb dX4_take_139 (by decide) ?_
      refine lv_goto (tgt := 144) hx hb dX4_take_140 (by decide) ?_
      obtain rfl := og_s hf
      exact rw_z C hK hP hD hS (nz_z (Or.inr rfl)) dX4_take_144
    · replace hf := og_t c_41 hf
      refine lv_aload_n hx hb dX4_take_128 rfl (lv_at hl 0 rfl) ?_
      refine lv_aload_n hx hb dX4_take_129 rfl (lv_at hl 0 rfl) ?_
      refine xgN (v := .int (gi u_38 2)) (ci := 3) (K := RX6) (T := TX6) (N := 5) (host := "SchematicText") C hT hin6 hK hP 1 rfl rfl 2 (by decide) rfl (by decide +kernel) rfl dX4_take_130 ?_
      obtain ⟨⟨r_43, u_44⟩, h_42, hf⟩ := og_b hf
      try dsimp only at hf
      refine xw_V (ov := (some (.int r_43))) (st1 := [.int r_43]) (rest := []) (w0 := (cS G bS u_38)) (w1 := (cS G bS u_44)) (wr := (cF 1 bF ++ cT G bT uT)) (w' := (cF 1 bF ++ cS G bS u_44 ++ cT G bT uT)) C (cx_X6_failAt l G bS u_38 (gi u_38 2) r_43 u_44 _ h_42) (cwV 1 hts gx_X4_X6_failAt_22 rfl rfl rfl hdx_X6_failAt ⟨Nat.le_of_ble_eq_true rfl, Nat.le_of_ble_eq_true rfl⟩) hK hA hT hP hD hS (va_recv hK hP (ci := 3) (q0 := 1) rfl rfl) [1, 2] [0, 3, 4, 5, 6, 7, 8, 9, 10, 11, 12, 13, 14, 15] [0, 14, 15, 1, 2, 3, 4, 5, 6, 7, 8, 9, 10, 11, 12, 13] rfl rfl rfl rfl (by decide) rfl rfl rfl hl.1 rfl rfl (Nat.le_of_ble_eq_true rfl) dX4_take_133 (fun H locs hP hD hS => ?_)
      refine lv_if_eq (tgt := 143) hx hb dX4_take_136 (by decide) (fun c_45 => ?_) (fun c_45 => ?_)
      · replace hf := og_t c_45 hf
        refine lv_iconst (v := (0 : Int32)) hx hb dX4_take_143 (by decide) ?_
        obtain rfl := og_s hf
        exact rw_z C hK hP hD hS (nz_z (Or.inl rfl)) dX4_take_144
      · replace hf := og_f c_45 hf
        refine lv_iconst (v := (1 : Int32)) hx hb dX4_take_139 (by decide) ?_
        refine lv_goto (tgt := 144) hx hb dX4_take_140 (by decide) ?_
        obtain rfl := og_s hf
        exact rw_z C hK hP hD hS (nz_z (Or.inr rfl)) dX4_take_144
  · replace hf := og_f c_36 hf
    refine lv_iconst (v := (0 : Int32)) hx hb dX4_take_115 (by decide) ?_
    obtain rfl := og_s hf
    exact rw_z C hK hP hD hS (nz_z (Or.inl rfl)) dX4_take_116
def fx_X4_take_B_33 : Nat → Md → Md → Int32 → Int32 → Option (Int32 × Md × Md)
  | 0, _, _, _, _ => none
  | n + 1, uS, uT, x3, x4 => (if (4000 : Int32) ≤ x4 then (fx_X4_take_B_107 uS uT) else (if x3 = (-1 : Int32) then (fx_X4_take_B_107 uS uT) else ((fx_X6_passBlanks uS).bind fun u_17 => ((fx_X6_mark u_17).bind fun r_19 => (if r_19 = (41 : Int32) then ((fx_X6_pass u_17).bind fun u_33 => ((fx_X7_parentOf uT x3).bind fun r_35 => (fx_X4_take_B_101 (fx_X4_take_B_33 n) u_33 uT r_35 x4))) else ((fx_X6_mark u_17).bind fun r_22 => (if r_22 = (40 : Int32) then ((fx_X4_takeList_B u_17 uT x3).bind fun p_29 => (fx_X4_take_B_101 (fx_X4_take_B_33 n) p_29.2.1 p_29.2.2 p_29.1 x4)) else ((fx_X6_failAt u_17 (gi u_17 2)).bind fun p_25 => ((if p_25.1 = 0 ∨ p_25.1 = 1 then some (p_25.1, p_25.2, uT) else none))))))))))
set_option maxHeartbeats 4000000 in
set_option maxRecDepth 100000 in
theorem wx_X4_take_B_33 {p : Program} {l : Launch} {e : Env} {s : State} {m : MethodId} {args : Array Value} {below : List Frame} {meth : Method} {c : Code} {G : Gx} {A : Nat → Prop} {bF : Nat → Nat} {bS : Nat → Nat} {bT : Nat → Nat} (C : Cx p s m args meth c cX4_take 5 wsx_X4_take_B RX4 (some .boolean)) (hK : va_K (gD G) vwCl (tyG G) s) (hA : ∀ q : Nat, s.heap.size ≤ q → A q) (hT : ST G A s s.heap) {r : (Int32 × Md × Md)} : ∀ (n : Nat), ∀ (uS : Md) (uT : Md) (x3 : Int32) (x4 : Int32), fx_X4_take_B_33 n uS uT x3 x4 = some r → ∀ {H : Heap} {locs : List Loc}, va_P (gD G) vwCl (cF 1 bF ++ cS G bS uS ++ cT G bT uT) H → va_D A (cF 1 bF ++ cS G bS uS ++ cT G bT uT) → va_S A s.heap H locs → ∀ {ls : Array Slot}, lv_has ls 5 [(0, .ref (bF 0)), (1, .ref (bS 0)), (2, .ref (bT 0)), (3, .int x3), (4, .int x4)] → W p l e rmx_X4_take_B s m args below meth c H locs 0 0 (MQ below (qW (some (.int r.1)) (cF 1 bF ++ cS G bS r.2.1 ++ cT G bT r.2.2) (gD G) (tyG G) A) args s 0 0 A) (F0 m 33 ls []) := by
  have hx := C.1.1
  have hb := C.1.2.1
  have hts := C.1.2.2.2.2
  have hown := C.1.2.2.2.1
  have hin6 : ∀ w ∈ wsX60, w ∈ wsx_X4_take_B := fun w h => List.mem_cons_of_mem _ (List.mem_append_right _ (List.mem_append_right _ (List.mem_append_left _ h)))
  have hin7 : ∀ w ∈ wsX70, w ∈ wsx_X4_take_B := fun w h => List.mem_cons_of_mem _ (List.mem_append_right _ (List.mem_append_right _ (List.mem_append_right _ (List.mem_append_left _ h))))
  intro n
  induction n with
  | zero =>
    intro uS uT x3 x4 hf H locs hP hD hS ls hl
    cases hf
  | succ n ih =>
    intro uS uT x3 x4 hf H locs hP hD hS ls hl
    rw [fx_X4_take_B_33] at hf
    refine lv_iload hx hb dX4_take_33 (lv_at hl 4 rfl) ?_
    refine lv_sipush (v := (4000 : Int32)) hx hb dX4_take_35 (by decide) ?_
    refine lv_icmp_ge (tgt := 107) hx hb dX4_take_38 (by decide) (fun c_14 => ?_) (fun c_14 => ?_)
    · replace hf := og_t c_14 hf
      exact wx_X4_take_B_107 C hK hA hT uS uT hf hP hD hS (lv_sub hl [1] rfl)
    · replace hf := og_f c_14 hf
      refine lv_iload_n hx hb dX4_take_41 rfl (lv_at hl 3 rfl) ?_
      refine lv_iconst (v := (-1 : Int32)) hx hb dX4_take_42 (by decide) ?_
      refine lv_icmp_eq (tgt := 107) hx hb dX4_take_43 (by decide) (fun c_15 => ?_) (fun c_15 => ?_)
      · replace hf := og_t c_15 hf
        exact wx_X4_take_B_107 C hK hA hT uS uT hf hP hD hS (lv_sub hl [1] rfl)
      · replace hf := og_f c_15 hf
        refine lv_aload_n hx hb dX4_take_46 rfl (lv_at hl 1 rfl) ?_
        obtain ⟨u_17, h_16, hf⟩ := og_b hf
        try dsimp only at hf
        refine xw_V (ov := none) (st1 := []) (rest := []) (w0 := (cS G bS uS)) (w1 := (cS G bS u_17)) (wr := (cF 1 bF ++ cT G bT uT)) (w' := (cF 1 bF ++ cS G bS u_17 ++ cT G bT uT)) C (cx_X6_passBlanks l G bS uS u_17 _ h_16) (cwV 0 hts gx_X4_X6_passBlanks_9 rfl rfl rfl hdx_X6_passBlanks ⟨Nat.le_of_ble_eq_true rfl, Nat.le_of_ble_eq_true rfl⟩) hK hA hT hP hD hS (va_recv hK hP (ci := 3) (q0 := 1) rfl rfl) [1, 2] [0, 3, 4, 5, 6, 7, 8, 9, 10, 11, 12, 13, 14, 15] [0, 14, 15, 1, 2, 3, 4, 5, 6, 7, 8, 9, 10, 11, 12, 13] rfl rfl rfl rfl (by decide) rfl rfl rfl hl.1 rfl rfl (Nat.le_of_ble_eq_true rfl) dX4_take_47 (fun H locs hP hD hS => ?_)
        refine lv_aload_n hx hb dX4_take_50 rfl (lv_at hl 1 rfl) ?_
        obtain ⟨r_19, h_18, hf⟩ := og_b hf
        try dsimp only at hf
        refine xr_V (v := .int r_19) (rest := []) (w0 := (cS G bS u_17)) C (cx_X6_mark l G bS u_17 r_19 _ h_18) (cwV 0 hts gx_X4_X6_mark_14 rfl rfl rfl hdx_X6_mark ⟨Nat.le_of_ble_eq_true rfl, Nat.le_of_ble_eq_true rfl⟩) hK hA hT hP hD hS (va_recv hK hP (ci := 3) (q0 := 1) rfl rfl) [1, 2] rfl rfl rfl hl.1 rfl (Nat.le_of_ble_eq_true rfl) dX4_take_51 ?_
        refine lv_bipush (v := (41 : Int32)) hx hb dX4_take_54 (by decide) ?_
        refine lv_icmp_ne (tgt := 72) hx hb dX4_take_56 (by decide) (fun c_20 => ?_) (fun c_20 => ?_)
        · replace hf := og_f c_20 hf
          refine lv_aload_n hx hb dX4_take_72 rfl (lv_at hl 1 rfl) ?_
          obtain ⟨r_22, h_21, hf⟩ := og_b hf
          try dsimp only at hf
          refine xr_V (v := .int r_22) (rest := []) (w0 := (cS G bS u_17)) C (cx_X6_mark l G bS u_17 r_22 _ h_21) (cwV 0 hts gx_X4_X6_mark_14 rfl rfl rfl hdx_X6_mark ⟨Nat.le_of_ble_eq_true rfl, Nat.le_of_ble_eq_true rfl⟩) hK hA hT hP hD hS (va_recv hK hP (ci := 3) (q0 := 1) rfl rfl) [1, 2] rfl rfl rfl hl.1 rfl (Nat.le_of_ble_eq_true rfl) dX4_take_73 ?_
          refine lv_bipush (v := (40 : Int32)) hx hb dX4_take_76 (by decide) ?_
          refine lv_icmp_ne (tgt := 92) hx hb dX4_take_78 (by decide) (fun c_23 => ?_) (fun c_23 => ?_)
          · replace hf := og_f c_23 hf
            refine lv_aload_n hx hb dX4_take_92 rfl (lv_at hl 1 rfl) ?_
            refine lv_aload_n hx hb dX4_take_93 rfl (lv_at hl 1 rfl) ?_
            refine xgN (v := .int (gi u_17 2)) (ci := 3) (K := RX6) (T := TX6) (N := 5) (host := "SchematicText") C hT hin6 hK hP 1 rfl rfl 2 (by decide) rfl (by decide +kernel) rfl dX4_take_94 ?_
            obtain ⟨⟨r_25, u_26⟩, h_24, hf⟩ := og_b hf
            try dsimp only at hf
            refine xw_V (ov := (some (.int r_25))) (st1 := [.int r_25]) (rest := []) (w0 := (cS G bS u_17)) (w1 := (cS G bS u_26)) (wr := (cF 1 bF ++ cT G bT uT)) (w' := (cF 1 bF ++ cS G bS u_26 ++ cT G bT uT)) C (cx_X6_failAt l G bS u_17 (gi u_17 2) r_25 u_26 _ h_24) (cwV 1 hts gx_X4_X6_failAt_22 rfl rfl rfl hdx_X6_failAt ⟨Nat.le_of_ble_eq_true rfl, Nat.le_of_ble_eq_true rfl⟩) hK hA hT hP hD hS (va_recv hK hP (ci := 3) (q0 := 1) rfl rfl) [1, 2] [0, 3, 4, 5, 6, 7, 8, 9, 10, 11, 12, 13, 14, 15] [0, 14, 15, 1, 2, 3, 4, 5, 6, 7, 8, 9, 10, 11, 12, 13] rfl rfl rfl rfl (by decide) rfl rfl rfl hl.1 rfl rfl (Nat.le_of_ble_eq_true rfl) dX4_take_97 (fun H locs hP hD hS => ?_)
            obtain ⟨h_27, hf⟩ := og_p hf
            obtain rfl := og_s hf
            exact rw_z C hK hP hD hS (nz_z h_27) dX4_take_100
          · replace hf := og_t c_23 hf
            refine lv_aload_n hx hb dX4_take_81 rfl (lv_at hl 0 rfl) ?_
            refine lv_aload_n hx hb dX4_take_82 rfl (lv_at hl 1 rfl) ?_
            refine lv_aload_n hx hb dX4_take_83 rfl (lv_at hl 2 rfl) ?_
            refine lv_iload_n hx hb dX4_take_84 rfl (lv_at hl 3 rfl) ?_
            obtain ⟨⟨r_29, u_30, u_31⟩, h_28, hf⟩ := og_b hf
            try dsimp only at hf
            refine xw_V (ov := (some (.int r_29))) (st1 := [.int r_29]) (rest := []) (w0 := (cF 1 bF ++ cS G bS u_17 ++ cT G bT uT)) (w1 := (cF 1 bF ++ cS G bS u_30 ++ cT G bT u_31)) (wr := ([])) (w' := (cF 1 bF ++ cS G bS u_30 ++ cT G bT u_31)) C (cx_X4_takeList_B l G bF bS bT u_17 uT x3 r_29 u_30 u_31 _ h_28) (cwV 3 hts gx_X4_X4_takeList_B_26 rfl rfl rfl hdx_X4_takeList_B ⟨Nat.le_of_ble_eq_true rfl, Nat.le_of_ble_eq_true rfl⟩) hK hA hT hP hD hS (va_recv hK hP (ci := 1) (q0 := 0) rfl rfl) [0, 1, 2, 3, 4, 5, 6, 7, 8, 9, 10, 11, 12, 13, 14, 15] [] [0, 1, 2, 3, 4, 5, 6, 7, 8, 9, 10, 11, 12, 13, 14, 15] rfl rfl rfl rfl (by decide) rfl rfl rfl hl.1 rfl rfl (Nat.le_of_ble_eq_true rfl) dX4_take_85 (fun H locs hP hD hS => ?_)
            refine lv_istore_n (lv' := [(3, .int r_29), (0, .ref (bF 0)), (1, .ref (bS 0)), (2, .ref (bT 0)), (4, .int x4)]) hx hb dX4_take_88 rfl hl (by decide) rfl (fun ls hl => ?_)
            refine lv_goto (tgt := 101) hx hb dX4_take_89 (by decide) ?_
            exact wx_X4_take_B_101 C hK hA hT (fx_X4_take_B_33 n) (fun _ _ _ _ h9 => ih _ _ _ _ h9) u_30 u_31 r_29 x4 hf hP hD hS (lv_sub hl [1, 2, 3, 0, 4] rfl)
        · replace hf := og_t c_20 hf
          refine lv_aload_n hx hb dX4_take_59 rfl (lv_at hl 1 rfl) ?_
          obtain ⟨u_33, h_32, hf⟩ := og_b hf
          try dsimp only at hf
          refine xw_V (ov := none) (st1 := []) (rest := []) (w0 := (cS G bS u_17)) (w1 := (cS G bS u_33)) (wr := (cF 1 bF ++ cT G bT uT)) (w' := (cF 1 bF ++ cS G bS u_33 ++ cT G bT uT)) C (cx_X6_pass l G bS u_17 u_33 _ h_32) (cwV 0 hts gx_X4_X6_pass_32 rfl rfl rfl hdx_X6_pass ⟨Nat.le_of_ble_eq_true rfl, Nat.le_of_ble_eq_true rfl⟩) hK hA hT hP hD hS (va_recv hK hP (ci := 3) (q0 := 1) rfl rfl) [1, 2] [0, 3, 4, 5, 6, 7, 8, 9, 10, 11, 12, 13, 14, 15] [0, 14, 15, 1, 2, 3, 4, 5, 6, 7, 8, 9, 10, 11, 12, 13] rfl rfl rfl rfl (by decide) rfl rfl rfl hl.1 rfl rfl (Nat.le_of_ble_eq_true rfl) dX4_take_60 (fun H locs hP hD hS => ?_)
          refine lv_aload_n hx hb dX4_take_63 rfl (lv_at hl 2 rfl) ?_
          refine lv_iload_n hx hb dX4_take_64 rfl (lv_at hl 3 rfl) ?_
          obtain ⟨r_35, h_34, hf⟩ := og_b hf
          try dsimp only at hf
          refine xr_V (v := .int r_35) (rest := []) (w0 := (cT G bT uT)) C (cx_X7_parentOf l G bT uT x3 r_35 _ h_34) (cwV 1 hts gx_X4_X7_parentOf_35 rfl rfl rfl hdx_X7_parentOf ⟨Nat.le_of_ble_eq_true rfl, Nat.le_of_ble_eq_true rfl⟩) hK hA hT hP hD hS (va_recv hK hP (ci := 4) (q0 := 3) rfl rfl) [3, 4, 5, 6, 7, 8, 9, 10, 11, 12, 13, 14, 15] rfl rfl rfl hl.1 rfl (Nat.le_of_ble_eq_true rfl) dX4_take_65 ?_
          refine lv_istore_n (lv' := [(3, .int r_35), (0, .ref (bF 0)), (1, .ref (bS 0)), (2, .ref (bT 0)), (4, .int x4)]) hx hb dX4_take_68 rfl hl (by decide) rfl (fun ls hl => ?_)
          refine lv_goto (tgt := 101) hx hb dX4_take_69 (by decide) ?_
          exact wx_X4_take_B_101 C hK hA hT (fx_X4_take_B_33 n) (fun _ _ _ _ h9 => ih _ _ _ _ h9) u_33 uT r_35 x4 hf hP hD hS (lv_sub hl [1, 2, 3, 0, 4] rfl)
def fx_X4_take_B (uS : Md) (uT : Md) : Option (Int32 × Md × Md) := ((fx_X6_passBlanks uS).bind fun u_2 => ((fx_X6_mark u_2).bind fun r_4 => (if r_4 = (40 : Int32) then ((fx_X4_takeList_B u_2 uT (-1 : Int32)).bind fun p_7 => (fx_X4_take_B_33 FU p_7.2.1 p_7.2.2 p_7.1 (0 : Int32))) else ((fx_X6_failAt u_2 (gi u_2 2)).bind fun p_11 => ((if p_11.1 = 0 ∨ p_11.1 = 1 then some (p_11.1, p_11.2, uT) else none))))))
set_option maxHeartbeats 4000000 in
set_option maxRecDepth 100000 in
theorem cx_X4_take_B (l : Launch) (G : Gx) (bF : Nat → Nat) (bS : Nat → Nat) (bT : Nat → Nat) (uS : Md) (uT : Md) (r : Int32) (vS : Md) (vT : Md) (sz : Nat) (hf : fx_X4_take_B uS uT = some (r, vS, vT)) : Met l yX4_take wsx_X4_take_B rmx_X4_take_B (pX G (cF 1 bF ++ cS G bS uS ++ cT G bT uT) sz [.ref (bF 0), .ref (bS 0), .ref (bT 0)]) (qW (some (.int r)) (cF 1 bF ++ cS G bS vS ++ cT G bT vT) (gD G) (tyG G) (va_A (cF 1 bF ++ cS G bS uS ++ cT G bT uT) sz)) 0 0 (va_A (cF 1 bF ++ cS G bS uS ++ cT G bT uT) sz) := by
  refine mx_w (cc := cX4_take) (maxL := 5) (ret := (some .boolean)) (by decide) rfl (Nat.le_of_ble_eq_true rfl) ?_
  intro p e s m below meth c ls A C hl hK hA hT hP hD hS
  have hl : lv_has ls 5 [(0, .ref (bF 0)), (1, .ref (bS 0)), (2, .ref (bT 0))] := hl
  have hx := C.1.1
  have hb := C.1.2.1
  have hts := C.1.2.2.2.2
  have hown := C.1.2.2.2.1
  have hin6 : ∀ w ∈ wsX60, w ∈ wsx_X4_take_B := fun w h => List.mem_cons_of_mem _ (List.mem_append_right _ (List.mem_append_right _ (List.mem_append_left _ h)))
  have hin7 : ∀ w ∈ wsX70, w ∈ wsx_X4_take_B := fun w h => List.mem_cons_of_mem _ (List.mem_append_right _ (List.mem_append_right _ (List.mem_append_right _ (List.mem_append_left _ h))))
  unfold fx_X4_take_B at hf
  refine lv_aload_n hx hb dX4_take_0 rfl (lv_at hl 1 rfl) ?_
  obtain ⟨u_2, h_1, hf⟩ := og_b hf
  try dsimp only at hf
  refine xw_V (ov := none) (st1 := []) (rest := []) (w0 := (cS G bS uS)) (w1 := (cS G bS u_2)) (wr := (cF 1 bF ++ cT G bT uT)) (w' := (cF 1 bF ++ cS G bS u_2 ++ cT G bT uT)) C (cx_X6_passBlanks l G bS uS u_2 _ h_1) (cwV 0 hts gx_X4_X6_passBlanks_9 rfl rfl rfl hdx_X6_passBlanks ⟨Nat.le_of_ble_eq_true rfl, Nat.le_of_ble_eq_true rfl⟩) hK hA hT hP hD hS (va_recv hK hP (ci := 3) (q0 := 1) rfl rfl) [1, 2] [0, 3, 4, 5, 6, 7, 8, 9, 10, 11, 12, 13, 14, 15] [0, 14, 15, 1, 2, 3, 4, 5, 6, 7, 8, 9, 10, 11, 12, 13] rfl rfl rfl rfl (by decide) rfl rfl rfl hl.1 rfl rfl (Nat.le_of_ble_eq_true rfl) dX4_take_1 (fun H locs hP hD hS => ?_)
  refine lv_aload_n hx hb dX4_take_4 rfl (lv_at hl 1 rfl) ?_
  obtain ⟨r_4, h_3, hf⟩ := og_b hf
  try dsimp only at hf
  refine xr_V (v := .int r_4) (rest := []) (w0 := (cS G bS u_2)) C (cx_X6_mark l G bS u_2 r_4 _ h_3) (cwV 0 hts gx_X4_X6_mark_14 rfl rfl rfl hdx_X6_mark ⟨Nat.le_of_ble_eq_true rfl, Nat.le_of_ble_eq_true rfl⟩) hK hA hT hP hD hS (va_recv hK hP (ci := 3) (q0 := 1) rfl rfl) [1, 2] rfl rfl rfl hl.1 rfl (Nat.le_of_ble_eq_true rfl) dX4_take_5 ?_
  refine lv_bipush (v := (40 : Int32)) hx hb dX4_take_8 (by decide) ?_
  refine lv_icmp_eq (tgt := 22) hx hb dX4_take_10 (by decide) (fun c_5 => ?_) (fun c_5 => ?_)
  · replace hf := og_t c_5 hf
    refine lv_aload_n hx hb dX4_take_22 rfl (lv_at hl 0 rfl) ?_
    refine lv_aload_n hx hb dX4_take_23 rfl (lv_at hl 1 rfl) ?_
    refine lv_aload_n hx hb dX4_take_24 rfl (lv_at hl 2 rfl) ?_
    refine lv_iconst (v := (-1 : Int32)) hx hb dX4_take_25 (by decide) ?_
    obtain ⟨⟨r_7, u_8, u_9⟩, h_6, hf⟩ := og_b hf
    try dsimp only at hf
    refine xw_V (ov := (some (.int r_7))) (st1 := [.int r_7]) (rest := []) (w0 := (cF 1 bF ++ cS G bS u_2 ++ cT G bT uT)) (w1 := (cF 1 bF ++ cS G bS u_8 ++ cT G bT u_9)) (wr := ([])) (w' := (cF 1 bF ++ cS G bS u_8 ++ cT G bT u_9)) C (cx_X4_takeList_B l G bF bS bT u_2 uT (-1 : Int32) r_7 u_8 u_9 _ h_6) (cwV 3 hts gx_X4_X4_takeList_B_26 rfl rfl rfl hdx_X4_takeList_B ⟨Nat.le_of_ble_eq_true rfl, Nat.le_of_ble_eq_true rfl⟩) hK hA hT hP hD hS (va_recv hK hP (ci := 1) (q0 := 0) rfl rfl) [0, 1, 2, 3, 4, 5, 6, 7, 8, 9, 10, 11, 12, 13, 14, 15] [] [0, 1, 2, 3, 4, 5, 6, 7, 8, 9, 10, 11, 12, 13, 14, 15] rfl rfl rfl rfl (by decide) rfl rfl rfl hl.1 rfl rfl (Nat.le_of_ble_eq_true rfl) dX4_take_26 (fun H locs hP hD hS => ?_)
    refine lv_istore_n (lv' := [(3, .int r_7), (0, .ref (bF 0)), (1, .ref (bS 0)), (2, .ref (bT 0))]) hx hb dX4_take_29 rfl hl (by decide) rfl (fun ls hl => ?_)
    refine lv_iconst (v := (0 : Int32)) hx hb dX4_take_30 (by decide) ?_
    refine lv_istore (lv' := [(4, .int (0 : Int32)), (3, .int r_7), (0, .ref (bF 0)), (1, .ref (bS 0)), (2, .ref (bT 0))]) hx hb dX4_take_31 hl (by decide) rfl (fun ls hl => ?_)
    exact wx_X4_take_B_33 C hK hA hT FU u_8 u_9 r_7 (0 : Int32) hf hP hD hS (lv_sub hl [2, 3, 4, 1, 0] rfl)
  · replace hf := og_f c_5 hf
    refine lv_aload_n hx hb dX4_take_13 rfl (lv_at hl 1 rfl) ?_
    refine lv_aload_n hx hb dX4_take_14 rfl (lv_at hl 1 rfl) ?_
    refine xgN (v := .int (gi u_2 2)) (ci := 3) (K := RX6) (T := TX6) (N := 5) (host := "SchematicText") C hT hin6 hK hP 1 rfl rfl 2 (by decide) rfl (by decide +kernel) rfl dX4_take_15 ?_
    obtain ⟨⟨r_11, u_12⟩, h_10, hf⟩ := og_b hf
    try dsimp only at hf
    refine xw_V (ov := (some (.int r_11))) (st1 := [.int r_11]) (rest := []) (w0 := (cS G bS u_2)) (w1 := (cS G bS u_12)) (wr := (cF 1 bF ++ cT G bT uT)) (w' := (cF 1 bF ++ cS G bS u_12 ++ cT G bT uT)) C (cx_X6_failAt l G bS u_2 (gi u_2 2) r_11 u_12 _ h_10) (cwV 1 hts gx_X4_X6_failAt_22 rfl rfl rfl hdx_X6_failAt ⟨Nat.le_of_ble_eq_true rfl, Nat.le_of_ble_eq_true rfl⟩) hK hA hT hP hD hS (va_recv hK hP (ci := 3) (q0 := 1) rfl rfl) [1, 2] [0, 3, 4, 5, 6, 7, 8, 9, 10, 11, 12, 13, 14, 15] [0, 14, 15, 1, 2, 3, 4, 5, 6, 7, 8, 9, 10, 11, 12, 13] rfl rfl rfl rfl (by decide) rfl rfl rfl hl.1 rfl rfl (Nat.le_of_ble_eq_true rfl) dX4_take_18 (fun H locs hP hD hS => ?_)
    obtain ⟨h_13, hf⟩ := og_p hf
    obtain ⟨rfl, rfl, rfl⟩ := pi3 (og_s hf)
    exact rw_z C hK hP hD hS (nz_z h_13) dX4_take_21
