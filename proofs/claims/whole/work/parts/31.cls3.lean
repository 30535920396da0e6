abbrev rmx_X7_appendToText : Room := { frames := 1, cells := 0, slots := 0, locals := 22 }
noncomputable abbrev wsx_X7_appendToText : List Cond := Cond.code yX7_appendToText cX7_appendToText 6 none :: WAX
theorem hdx_X7_appendToText : yX7_appendToText.cls = RX7 ∧ yX7_appendToText.cls ≠ "java/lang/invoke/MethodHandle" ∧ yX7_appendToText.cls ≠ "java/lang/invoke/VarHandle" ∧ (parseMethodDescriptor yX7_appendToText.desc).map (fun d => d.parameters.length) = some 3 := by decide +kernel
def fx_X7_appendToText (uT : Md) (x1 : Int32) (x2 : Int32) (x3 : Int32) : Option Md := ((fx_X7_hasText uT x1 x2).bind fun r_2 => (if r_2 = 0 then (some uT) else (if ((x1 * (2 : Int32)) + x2) < 0 ∨ 400 ≤ (((x1 * (2 : Int32)) + x2)).toNatClampNeg then none else (if ((ga uT 7) (((x1 * (2 : Int32)) + x2)).toNatClampNeg) < 0 then (some uT) else (if (40 : Int32) ≤ ((ga uT 7) (((x1 * (2 : Int32)) + x2)).toNatClampNeg) then (some uT) else (if ((((x1 * (2 : Int32)) + x2) * (40 : Int32)) + ((ga uT 7) (((x1 * (2 : Int32)) + x2)).toNatClampNeg)) < 0 ∨ 16000 ≤ (((((x1 * (2 : Int32)) + x2) * (40 : Int32)) + ((ga uT 7) (((x1 * (2 : Int32)) + x2)).toNatClampNeg))).toNatClampNeg then none else (if ((x1 * (2 : Int32)) + x2) < 0 ∨ 400 ≤ (((x1 * (2 : Int32)) + x2)).toNatClampNeg then none else (some (sa (sa uT 8 (upd (ga uT 8) (((((x1 * (2 : Int32)) + x2) * (40 : Int32)) + ((ga uT 7) (((x1 * (2 : Int32)) + x2)).toNatClampNeg))).toNatClampNeg (vp_nar .char ((x3).toUInt32 % 65536).toInt32))) 7 (upd (ga uT 7) (((x1 * (2 : Int32)) + x2)).toNatClampNeg (((ga uT 7) (((x1 * (2 : Int32)) + x2)).toNatClampNeg) + (1 : Int32))))))))))))
set_option maxHeartbeats 4000000 in
set_option maxRecDepth 100000 in
theorem cx_X7_appendToText (l : Launch) (G : Gx) (bT : Nat → Nat) (uT : Md) (x1 : Int32) (x2 : Int32) (x3 : Int32)  (vT : Md) (sz : Nat) (hf : fx_X7_appendToText uT x1 x2 x3 = some vT) : Met l yX7_appendToText wsx_X7_appendToText rmx_X7_appendToText (pX G (cT G bT uT) sz [.ref (bT 0), .int x1, .int x2, .int x3]) (qW none (cT G bT vT) (gD G) (tyG G) (va_A (cT G bT uT) sz)) 0 0 (va_A (cT G bT uT) sz) := by
  refine mx_w (cc := cX7_appendToText) (maxL := 6) (ret := none) (by decide) rfl (Nat.le_of_ble_eq_true rfl) ?_
  intro p e s m below meth c ls A C hl hK hA hT hP hD hS
  have hl : lv_has ls 6 [(0, .ref (bT 0)), (1, .int x1), (2, .int x2), (3, .int x3)] := hl
  have hx := C.1.1
  have hb := C.1.2.1
  have hts := C.1.2.2.2.2
  have hown := C.1.2.2.2.1
  have hin7 : ∀ w ∈ wsX70, w ∈ wsx_X7_appendToText := fun w h => List.mem_cons_of_mem _ (List.mem_append_right _ (List.mem_append_right _ (List.mem_append_right _ (List.mem_append_left _ h))))
  unfold fx_X7_appendToText at hf
  refine lv_aload_n hx hb dX7_appendToText_0 rfl (lv_at hl 0 rfl) ?_
  refine lv_iload_n hx hb dX7_appendToText_1 rfl (lv_at hl 1 rfl) ?_
  refine lv_iload_n hx hb dX7_appendToText_2 rfl (lv_at hl 2 rfl) ?_
  obtain ⟨r_2, h_1, hf⟩ := og_b hf
  try dsimp only at hf
  refine xr_V (v := .int r_2) (rest := []) (w0 := (cT G bT uT)) C (cx_X7_hasText l G bT uT x1 x2 r_2 _ h_1) (cwV 2 hts gx_X7_X7_hasText_134 rfl rfl rfl hdx_X7_hasText ⟨Nat.le_of_ble_eq_true rfl, Nat.le_of_ble_eq_true rfl⟩) hK hA hT hP hD hS (va_recv hK hP (ci := 4) (q0 := 0) rfl rfl) [0, 1, 2, 3, 4, 5, 6, 7, 8, 9, 10, 11, 12] rfl rfl rfl hl.1 rfl (Nat.le_of_ble_eq_true rfl) dX7_appendToText_3 ?_
  refine lv_if_ne (tgt := 10) hx hb dX7_appendToText_6 (by decide) (fun c_3 => ?_) (fun c_3 => ?_)
  · replace hf := og_f c_3 hf
    refine lv_iload_n hx hb dX7_appendToText_10 rfl (lv_at hl 1 rfl) ?_
    refine lv_iconst (v := (2 : Int32)) hx hb dX7_appendToText_11 (by decide) ?_
    refine lv_imul hx hb dX7_appendToText_12 ?_
    refine lv_iload_n hx hb dX7_appendToText_13 rfl (lv_at hl 2 rfl) ?_
    refine lv_iadd hx hb dX7_appendToText_14 ?_
    refine lv_istore (lv' := [(4, .int ((x1 * (2 : Int32)) + x2)), (0, .ref (bT 0)), (1, .int x1), (2, .int x2), (3, .int x3)]) hx hb dX7_appendToText_15 hl (by decide) rfl (fun ls hl => ?_)
    refine lv_aload_n hx hb dX7_appendToText_17 rfl (lv_at hl 1 rfl) ?_
    refine xg (v := .ref (bT 8)) (ci := 4) (K := RX7) (T := TX7) (N := 16) C hin7 hK hP 0 rfl rfl 7 (by decide) rfl (hts (Cond.fieldLink RX7 34 "SchematicText$Tree" "textSizes" "[I") (List.mem_cons_of_mem _ mx_182)) rfl dX7_appendToText_18 ?_
    refine lv_iload hx hb dX7_appendToText_21 (lv_at hl 0 rfl) ?_
    obtain ⟨h_4, hf⟩ := og_n hf
    refine va_iald (f := (ga uT 7)) hx hb hK hP 8 0 rfl rfl h_4 dX7_appendToText_23 ?_
    refine lv_istore (lv' := [(5, .int ((ga uT 7) (((x1 * (2 : Int32)) + x2)).toNatClampNeg)), (4, .int ((x1 * (2 : Int32)) + x2)), (0, .ref (bT 0)), (1, .int x1), (2, .int x2), (3, .int x3)]) hx hb dX7_appendToText_24 hl (by decide) rfl (fun ls hl => ?_)
    refine lv_iload hx hb dX7_appendToText_26 (lv_at hl 0 rfl) ?_
    refine lv_if_lt (tgt := 64) hx hb dX7_appendToText_28 (by decide) (fun c_5 => ?_) (fun c_5 => ?_)
    · replace hf := og_t c_5 hf
      obtain rfl := og_s hf
      exact rw_v C hK hP hD hS dX7_appendToText_64
    · replace hf := og_f c_5 hf
      refine lv_iload hx hb dX7_appendToText_31 (lv_at hl 0 rfl) ?_
      refine lv_bipush (v := (40 : Int32)) hx hb dX7_appendToText_33 (by decide) ?_
      refine lv_icmp_ge (tgt := 64) hx hb dX7_appendToText_35 (by decide) (fun c_6 => ?_) (fun c_6 => ?_)
      · replace hf := og_t c_6 hf
        obtain rfl := og_s hf
        exact rw_v C hK hP hD hS dX7_appendToText_64
      · replace hf := og_f c_6 hf
        refine lv_aload_n hx hb dX7_appendToText_38 rfl (lv_at hl 2 rfl) ?_
        refine xg (v := .ref (bT 9)) (ci := 4) (K := RX7) (T := TX7) (N := 16) C hin7 hK hP 0 rfl rfl 8 (by decide) rfl (hts (Cond.fieldLink RX7 37 "SchematicText$Tree" "textMarks" "[C") (List.mem_cons_of_mem _ mx_259)) rfl dX7_appendToText_39 ?_
        refine lv_iload hx hb dX7_appendToText_42 (lv_at hl 1 rfl) ?_
        refine lv_bipush (v := (40 : Int32)) hx hb dX7_appendToText_44 (by decide) ?_
        refine lv_imul hx hb dX7_appendToText_46 ?_
        refine lv_iload hx hb dX7_appendToText_47 (lv_at hl 0 rfl) ?_
        refine lv_iadd hx hb dX7_appendToText_49 ?_
        refine lv_iload_n hx hb dX7_appendToText_50 rfl (lv_at hl 5 rfl) ?_
        refine lv_i2c (v := ((x3).toUInt32 % 65536).toInt32) hx hb dX7_appendToText_51 rfl ?_
        obtain ⟨h_7, hf⟩ := og_n hf
        refine xsc (f := (ga uT 8)) (w' := (cT G bT (sa uT 8 (upd (ga uT 8) (((((x1 * (2 : Int32)) + x2) * (40 : Int32)) + ((ga uT 7) (((x1 * (2 : Int32)) + x2)).toNatClampNeg))).toNatClampNeg (vp_nar .char ((x3).toUInt32 % 65536).toInt32))))) C hK hP hD hS 9 rfl h_7 dX7_appendToText_52 hw_T_T_a8 (fun H locs hP hD hS => ?_)
        refine lv_aload_n hx hb dX7_appendToText_53 rfl (lv_at hl 2 rfl) ?_
        refine xg (v := .ref (bT 8)) (ci := 4) (K := RX7) (T := TX7) (N := 16) C hin7 hK hP 0 rfl rfl 7 (by decide) rfl (hts (Cond.fieldLink RX7 34 "SchematicText$Tree" "textSizes" "[I") (List.mem_cons_of_mem _ mx_182)) rfl dX7_appendToText_54 ?_
        refine lv_iload hx hb dX7_appendToText_57 (lv_at hl 1 rfl) ?_
        refine lv_iload hx hb dX7_appendToText_59 (lv_at hl 0 rfl) ?_
        refine lv_iconst (v := (1 : Int32)) hx hb dX7_appendToText_61 (by decide) ?_
        refine lv_iadd hx hb dX7_appendToText_62 ?_
        obtain ⟨h_8, hf⟩ := og_n hf
        refine xsi (f := (ga uT 7)) (w' := (cT G bT (sa (sa uT 8 (upd (ga uT 8) (((((x1 * (2 : Int32)) + x2) * (40 : Int32)) + ((ga uT 7) (((x1 * (2 : Int32)) + x2)).toNatClampNeg))).toNatClampNeg (vp_nar .char ((x3).toUInt32 % 65536).toInt32))) 7 (upd (ga uT 7) (((x1 * (2 : Int32)) + x2)).toNatClampNeg (((ga uT 7) (((x1 * (2 : Int32)) + x2)).toNatClampNeg) + (1 : Int32)))))) C hK hP hD hS 8 rfl h_8 dX7_appendToText_63 hw_T_T_a7 (fun H locs hP hD hS => ?_)
        obtain rfl := og_s hf
        exact rw_v C hK hP hD hS dX7_appendToText_64
  · replace hf := og_t c_3 hf
    obtain rfl := og_s hf
    exact rw_v C hK hP hD hS dX7_appendToText_9
theorem gx_X6_X6_passOnly_104 {c0 : Cond} : GoodIn (c0 :: WAX) (wsV RX6 104 RX6 yX6_passOnly wsx_X6_passOnly) := gdx_v mx_246 mx_203 mx_204 mx_22 mx_205
theorem gx_X6_X6_passEscape_108 {c0 : Cond} : GoodIn (c0 :: WAX) (wsV RX6 108 RX6 yX6_passEscape wsx_X6_passEscape) := gdx_v mx_249 mx_250 mx_251 mx_22 mx_252
theorem gx_X6_X7_appendToText_111 {c0 : Cond} : GoodIn (c0 :: WAX) (wsV RX6 111 RX7 yX7_appendToText wsx_X7_appendToText) := gdx_v mx_255 mx_256 mx_257 mx_99 mx_258
abbrev rmx_X6_takeText : Room := { frames := 2, cells := 0, slots := 0, locals := 47 }
noncomputable abbrev wsx_X6_takeText : List Cond := Cond.code yX6_takeText cX6_takeText 5 (some .boolean) :: WAX
theorem hdx_X6_takeText : yX6_takeText.cls = RX6 ∧ yX6_takeText.cls ≠ "java/lang/invoke/MethodHandle" ∧ yX6_takeText.cls ≠ "java/lang/invoke/VarHandle" ∧ (parseMethodDescriptor yX6_takeText.desc).map (fun d => d.parameters.length) = some 3 := by decide +kernel
def fx_X6_takeText_60 (uS : Md) (uT : Md) : Option (Int32 × Md × Md) := ((fx_X6_failAt uS (gi uS 2)).bind fun p_26 => ((if p_26.1 = 0 ∨ p_26.1 = 1 then some (p_26.1, p_26.2, uT) else none)))
set_option maxHeartbeats 4000000 in
set_option maxRecDepth 100000 in
theorem wx_X6_takeText_60 {p : Program} {l : Launch} {e : Env} {s : State} {m : MethodId} {args : Array Value} {below : List Frame} {meth : Method} {c : Code} {G : Gx} {A : Nat → Prop} {bS : Nat → Nat} {bT : Nat → Nat} (C : Cx p s m args meth c cX6_takeText 5 wsx_X6_takeText RX6 (some .boolean)) (hK : va_K (gD G) vwCl (tyG G) s) (hA : ∀ q : Nat, s.heap.size ≤ q → A q) (hT : ST G A s s.heap) {r : (Int32 × Md × Md)} : ∀ (uS : Md) (uT : Md), fx_X6_takeText_60 uS uT = some r → ∀ {H : Heap} {locs : List Loc}, va_P (gD G) vwCl (cS G bS uS ++ cT G bT uT) H → va_D A (cS G bS uS ++ cT G bT uT) → va_S A s.heap H locs → ∀ {ls : Array Slot}, lv_has ls 5 [(0, .ref (bS 0))] → W p l e rmx_X6_takeText s m args below meth c H locs 0 0 (MQ below (qW (some (.int r.1)) (cS G bS r.2.1 ++ cT G bT r.2.2) (gD G) (tyG G) A) args s 0 0 A) (F0 m 60 ls []) := by
  have hx := C.1.1
  have hb := C.1.2.1
  have hts := C.1.2.2.2.2
  have hown := C.1.2.2.2.1
  have hin6 : ∀ w ∈ wsX60, w ∈ wsx_X6_takeText := fun w h => List.mem_cons_of_mem _ (List.mem_append_right _ (List.mem_append_right _ (List.mem_append_left _ h)))
  have hin7 : ∀ w ∈ wsX70, w ∈ wsx_X6_takeText := fun w h => List.mem_cons_of_mem _ (List.mem_append_right _ (List.mem_append_right _ (List.mem_append_right _ (List.mem_append_left _ h))))
  intro uS uT hf H locs hP hD hS ls hl
  unfold fx_X6_takeText_60 at hf
  refine lv_aload_n hx hb dX6_takeText_60 rfl (lv_at hl 0 rfl) ?_
  refine lv_aload_n hx hb dX6_takeText_61 rfl (lv_at hl 0 rfl) ?_
  refine xg (v := .int (gi uS 2)) (ci := 3) (K := RX6) (T := TX6) (N := 5) C hin6 hK hP 0 rfl rfl 2 (by decide) rfl (hts (Cond.fieldLink RX6 19 "SchematicText$Source" "at" "I") (List.mem_cons_of_mem _ mx_24)) rfl dX6_takeText_62 ?_
  obtain ⟨⟨r_26, u_27⟩, h_25, hf⟩ := og_b hf
  try dsimp only at hf
  refine xw_V (ov := (some (.int r_26))) (st1 := [.int r_26]) (rest := []) (w0 := (cS G bS uS)) (w1 := (cS G bS u_27)) (wr := (cT G bT uT)) (w' := (cS G bS u_27 ++ cT G bT uT)) C (cx_X6_failAt l G bS uS (gi uS 2) r_26 u_27 _ h_25) (cwV 1 hts gx_X6_X6_failAt_37 rfl rfl rfl hdx_X6_failAt ⟨Nat.le_of_ble_eq_true rfl, Nat.le_of_ble_eq_true rfl⟩) hK hA hT hP hD hS (va_recv hK hP (ci := 3) (q0 := 0) rfl rfl) [0, 1] [2, 3, 4, 5, 6, 7, 8, 9, 10, 11, 12, 13, 14] [13, 14, 0, 1, 2, 3, 4, 5, 6, 7, 8, 9, 10, 11, 12] rfl rfl rfl rfl (by decide) rfl rfl rfl hl.1 rfl rfl (Nat.le_of_ble_eq_true rfl) dX6_takeText_65 (fun H locs hP hD hS => ?_)
  obtain ⟨h_28, hf⟩ := og_p hf
  obtain rfl := og_s hf
  exact rw_z C hK hP hD hS (nz_z h_28) dX6_takeText_68
def fx_X6_takeText_69 (k14 : Md → Md → Int32 → Int32 → Int32 → Option (Int32 × Md × Md)) (uS : Md) (uT : Md) (x2 : Int32) (x3 : Int32) (x4 : Int32) : Option (Int32 × Md × Md) := ((fx_X6_mark uS).bind fun r_30 => ((fx_X7_appendToText uT x2 x3 r_30).bind fun u_32 => (k14 (si uS 2 ((gi uS 2) + (1 : Int32))) u_32 x2 x3 (x4 + (1 : Int32)))))
set_option maxHeartbeats 4000000 in
set_option maxRecDepth 100000 in
theorem wx_X6_takeText_69 {p : Program} {l : Launch} {e : Env} {s : State} {m : MethodId} {args : Array Value} {below : List Frame} {meth : Method} {c : Code} {G : Gx} {A : Nat → Prop} {bS : Nat → Nat} {bT : Nat → Nat} (C : Cx p s m args meth c cX6_takeText 5 wsx_X6_takeText RX6 (some .boolean)) (hK : va_K (gD G) vwCl (tyG G) s) (hA : ∀ q : Nat, s.heap.size ≤ q → A q) (hT : ST G A s s.heap) {r : (Int32 × Md × Md)} (k14 : Md → Md → Int32 → Int32 → Int32 → Option (Int32 × Md × Md)) (ih14 : ∀ (uS : Md) (uT : Md) (x2 : Int32) (x3 : Int32) (x4 : Int32), k14 uS uT x2 x3 x4 = some r → ∀ {H : Heap} {locs : List Loc}, va_P (gD G) vwCl (cS G bS uS ++ cT G bT uT) H → va_D A (cS G bS uS ++ cT G bT uT) → va_S A s.heap H locs → ∀ {ls : Array Slot}, lv_has ls 5 [(0, .ref (bS 0)), (1, .ref (bT 0)), (2, .int x2), (3, .int x3), (4, .int x4)] → W p l e rmx_X6_takeText s m args below meth c H locs 0 0 (MQ below (qW (some (.int r.1)) (cS G bS r.2.1 ++ cT G bT r.2.2) (gD G) (tyG G) A) args s 0 0 A) (F0 m 14 ls [])) : ∀ (uS : Md) (uT : Md) (x2 : Int32) (x3 : Int32) (x4 : Int32), fx_X6_takeText_69 k14 uS uT x2 x3 x4 = some r → ∀ {H : Heap} {locs : List Loc}, va_P (gD G) vwCl (cS G bS uS ++ cT G bT uT) H → va_D A (cS G bS uS ++ cT G bT uT) → va_S A s.heap H locs → ∀ {ls : Array Slot}, lv_has ls 5 [(0, .ref (bS 0)), (1, .ref (bT 0)), (2, .int x2), (3, .int x3), (4, .int x4)] → W p l e rmx_X6_takeText s m args below meth c H locs 0 0 (MQ below (qW (some (.int r.1)) (cS G bS r.2.1 ++ cT G bT r.2.2) (gD G) (tyG G) A) args s 0 0 A) (F0 m 69 ls []) := by
  have hx := C.1.1
  have hb := C.1.2.1
  have hts := C.1.2.2.2.2
  have hown := C.1.2.2.2.1
  have hin6 : ∀ w ∈ wsX60, w ∈ wsx_X6_takeText := fun w h => List.mem_cons_of_mem _ (List.mem_append_right _ (List.mem_append_right _ (List.mem_append_left _ h)))
  have hin7 : ∀ w ∈ wsX70, w ∈ wsx_X6_takeText := fun w h => List.mem_cons_of_mem _ (List.mem_append_right _ (List.mem_append_right _ (List.mem_append_right _ (List.mem_append_left _ h))))
  intro uS uT x2 x3 x4 hf H locs hP hD hS ls hl
  unfold fx_X6_takeText_69 at hf
  refine lv_aload_n hx hb dX6_takeText_69 rfl (lv_at hl 1 rfl) ?_
  refine lv_iload_n hx hb dX6_takeText_70 rfl (lv_at hl 2 rfl) ?_
  refine lv_iload_n hx hb dX6_takeText_71 rfl (lv_at hl 3 rfl) ?_
  refine lv_aload_n hx hb dX6_takeText_72 rfl (lv_at hl 0 rfl) ?_
  obtain ⟨r_30, h_29, hf⟩ := og_b hf
  try dsimp only at hf
  refine xr_V (v := .int r_30) (rest := [.int x3, .int x2, .ref (bT 0)]) (w0 := (cS G bS uS)) C (cx_X6_mark l G bS uS r_30 _ h_29) (cwV 0 hts gx_X6_X6_mark_33 rfl rfl rfl hdx_X6_mark ⟨Nat.le_of_ble_eq_true rfl, Nat.le_of_ble_eq_true rfl⟩) hK hA hT hP hD hS (va_recv hK hP (ci := 3) (q0 := 0) rfl rfl) [0, 1] rfl rfl rfl hl.1 rfl (Nat.le_of_ble_eq_true rfl) dX6_takeText_73 ?_
  obtain ⟨u_32, h_31, hf⟩ := og_b hf
  try dsimp only at hf
  refine xw_V (ov := none) (st1 := []) (rest := []) (w0 := (cT G bT uT)) (w1 := (cT G bT u_32)) (wr := (cS G bS uS)) (w' := (cS G bS uS ++ cT G bT u_32)) C (cx_X7_appendToText l G bT uT x2 x3 r_30 u_32 _ h_31) (cwV 3 hts gx_X6_X7_appendToText_111 rfl rfl rfl hdx_X7_appendToText ⟨Nat.le_of_ble_eq_true rfl, Nat.le_of_ble_eq_true rfl⟩) hK hA hT hP hD hS (va_recv hK hP (ci := 4) (q0 := 2) rfl rfl) [2, 3, 4, 5, 6, 7, 8, 9, 10, 11, 12, 13, 14] [0, 1] [0, 1, 2, 3, 4, 5, 6, 7, 8, 9, 10, 11, 12, 13, 14] rfl rfl rfl rfl (by decide) rfl rfl rfl hl.1 rfl rfl (Nat.le_of_ble_eq_true rfl) dX6_takeText_76 (fun H locs hP hD hS => ?_)
  refine lv_aload_n hx hb dX6_takeText_79 rfl (lv_at hl 0 rfl) ?_
  refine lv_dup hx hb dX6_takeText_80 rfl ?_
  refine xg (v := .int (gi uS 2)) (ci := 3) (K := RX6) (T := TX6) (N := 5) C hin6 hK hP 0 rfl rfl 2 (by decide) rfl (hts (Cond.fieldLink RX6 19 "SchematicText$Source" "at" "I") (List.mem_cons_of_mem _ mx_24)) rfl dX6_takeText_81 ?_
  refine lv_iconst (v := (1 : Int32)) hx hb dX6_takeText_84 (by decide) ?_
  refine lv_iadd hx hb dX6_takeText_85 ?_
  refine xp (v := .int ((gi uS 2) + (1 : Int32))) (w' := (cS G bS (si uS 2 ((gi uS 2) + (1 : Int32))) ++ cT G bT u_32)) (ci := 3) (K := RX6) (T := TX6) (N := 5) (ty := .int) C hin6 tyX6 tyX6_ok nmX6 hK hP hD hS 0 rfl rfl 2 (by decide) rfl (hts (Cond.fieldLink RX6 19 "SchematicText$Source" "at" "I") (List.mem_cons_of_mem _ mx_24)) rfl rfl rfl rfl (Nat.le_of_ble_eq_true rfl) dX6_takeText_86 hw_ST_S_i2 (fun H locs hP hD hS => ?_)
  refine lv_iinc (v := (x4 + (1 : Int32))) (lv' := [(4, .int (x4 + (1 : Int32))), (0, .ref (bS 0)), (1, .ref (bT 0)), (2, .int x2), (3, .int x3)]) hx hb dX6_takeText_89 hl (k := 4) rfl rfl (by decide) rfl (fun ls hl => ?_)
  refine lv_goto (tgt := 14) hx hb dX6_takeText_92 (by decide) ?_
  exact ih14 (si uS 2 ((gi uS 2) + (1 : Int32))) u_32 x2 x3 (x4 + (1 : Int32)) hf hP hD hS (lv_sub hl [1, 2, 3, 4, 0] rfl)
def fx_X6_takeText_95 (uS : Md) (uT : Md) : Option (Int32 × Md × Md) := ((fx_X6_passOnly uS (34 : Int32)).bind fun p_22 => ((if p_22.1 = 0 ∨ p_22.1 = 1 then some (p_22.1, p_22.2, uT) else none)))
set_option maxHeartbeats 4000000 in
set_option maxRecDepth 100000 in
theorem wx_X6_takeText_95 {p : Program} {l : Launch} {e : Env} {s : State} {m : MethodId} {args : Array Value} {below : List Frame} {meth : Method} {c : Code} {G : Gx} {A : Nat → Prop} {bS : Nat → Nat} {bT : Nat → Nat} (C : Cx p s m args meth c cX6_takeText 5 wsx_X6_takeText RX6 (some .boolean)) (hK : va_K (gD G) vwCl (tyG G) s) (hA : ∀ q : Nat, s.heap.size ≤ q → A q) (hT : ST G A s s.heap) {r : (Int32 × Md × Md)} : ∀ (uS : Md) (uT : Md), fx_X6_takeText_95 uS uT = some r → ∀ {H : Heap} {locs : List Loc}, va_P (gD G) vwCl (cS G bS uS ++ cT G bT uT) H → va_D A (cS G bS uS ++ cT G bT uT) → va_S A s.heap H locs → ∀ {ls : Array Slot}, lv_has ls 5 [(0, .ref (bS 0))] → W p l e rmx_X6_takeText s m args below meth c H locs 0 0 (MQ below (qW (some (.int r.1)) (cS G bS r.2.1 ++ cT G bT r.2.2) (gD G) (tyG G) A) args s 0 0 A) (F0 m 95 ls []) := by
  have hx := C.1.1
  have hb := C.1.2.1
  have hts := C.1.2.2.2.2
  have hown := C.1.2.2.2.1
  have hin6 : ∀ w ∈ wsX60, w ∈ wsx_X6_takeText := fun w h => List.mem_cons_of_mem _ (List.mem_append_right _ (List.mem_append_right _ (List.mem_append_left _ h)))
  have hin7 : ∀ w ∈ wsX70, w ∈ wsx_X6_takeText := fun w h => List.mem_cons_of_mem _ (List.mem_append_right _ (List.mem_append_right _ (List.mem_append_right _ (List.mem_append_left _ h))))
  intro uS uT hf H locs hP hD hS ls hl
  unfold fx_X6_takeText_95 at hf
  refine lv_aload_n hx hb dX6_takeText_95 rfl (lv_at hl 0 rfl) ?_
  refine lv_bipush (v := (34 : Int32)) hx hb dX6_takeText_96 (by decide) ?_
  obtain ⟨⟨r_22, u_23⟩, h_21, hf⟩ := og_b hf
  try dsimp only at hf
  refine xw_V (ov := (some (.int r_22))) (st1 := [.int r_22]) (rest := []) (w0 := (cS G bS uS)) (w1 := (cS G bS u_23)) (wr := (cT G bT uT)) (w' := (cS G bS u_23 ++ cT G bT uT)) C (cx_X6_passOnly l G bS uS (34 : Int32) r_22 u_23 _ h_21) (cwV 1 hts gx_X6_X6_passOnly_104 rfl rfl rfl hdx_X6_passOnly ⟨Nat.le_of_ble_eq_true rfl, Nat.le_of_ble_eq_true rfl⟩) hK hA hT hP hD hS (va_recv hK hP (ci := 3) (q0 := 0) rfl rfl) [0, 1] [2, 3, 4, 5, 6, 7, 8, 9, 10, 11, 12, 13, 14] [13, 14, 0, 1, 2, 3, 4, 5, 6, 7, 8, 9, 10, 11, 12] rfl rfl rfl rfl (by decide) rfl rfl rfl hl.1 rfl rfl (Nat.le_of_ble_eq_true rfl) dX6_takeText_98 (fun H locs hP hD hS => ?_)
  obtain ⟨h_24, hf⟩ := og_p hf
  obtain rfl := og_s hf
  exact rw_z C hK hP hD hS (nz_z h_24) dX6_takeText_101
def fx_X6_takeText_14 : Nat → Md → Md → Int32 → Int32 → Int32 → Option (Int32 × Md × Md)
  | 0, _, _, _, _, _ => none
  | n + 1, uS, uT, x2, x3, x4 => (if (40 : Int32) ≤ x4 then (fx_X6_takeText_95 uS uT) else ((fx_X6_mark uS).bind fun r_7 => (if r_7 = (34 : Int32) then (fx_X6_takeText_95 uS uT) else ((fx_X6_mark uS).bind fun r_10 => ((fx_X8_isTextMark r_10).bind fun r_12 => (if r_12 = 0 then (fx_X6_takeText_60 uS uT) else ((fx_X6_mark uS).bind fun r_15 => (if r_15 = (92 : Int32) then ((fx_X6_passEscape uS (gi uS 1)).bind fun p_18 => (if p_18.1 = 0 then (fx_X6_takeText_60 p_18.2 uT) else (fx_X6_takeText_69 (fx_X6_takeText_14 n) p_18.2 uT x2 x3 x4))) else (fx_X6_takeText_69 (fx_X6_takeText_14 n) uS uT x2 x3 x4)))))))))
set_option maxHeartbeats 4000000 in
set_option maxRecDepth 100000 in
theorem wx_X6_takeText_14 {p : Program} {l : Launch} {e : Env} {s : State} {m : MethodId} {args : Array Value} {below : List Frame} {meth : Method} {c : Code} {G : Gx} {A : Nat → Prop} {bS : Nat → Nat} {bT : Nat → Nat} (C : Cx p s m args meth c cX6_takeText 5 wsx_X6_takeText RX6 (some .boolean)) (hK : va_K (gD G) vwCl (tyG G) s) (hA : ∀ q : Nat, s.heap.size ≤ q → A q) (hT : ST G A s s.heap) {r : (Int32 × Md × Md)} : ∀ (n : Nat), ∀ (uS : Md) (uT : Md) (x2 : Int32) (x3 : Int32) (x4 : Int32), fx_X6_takeText_14 n uS uT x2 x3 x4 = some r → ∀ {H : Heap} {locs : List Loc}, va_P (gD G) vwCl (cS G bS uS ++ cT G bT uT) H → va_D A (cS G bS uS ++ cT G bT uT) → va_S A s.heap H locs → ∀ {ls : Array Slot}, lv_has ls 5 [(0, .ref (bS 0)), (1, .ref (bT 0)), (2, .int x2), (3, .int x3), (4, .int x4)] → W p l e rmx_X6_takeText s m args below meth c H locs 0 0 (MQ below (qW (some (.int r.1)) (cS G bS r.2.1 ++ cT G bT r.2.2) (gD G) (tyG G) A) args s 0 0 A) (F0 m 14 ls []) := by
  have hx := C.1.1
  have hb := C.1.2.1
  have hts := C.1.2.2.2.2
  have hown := C.1.2.2.2.1
  have hin6 : ∀ w ∈ wsX60, w ∈ wsx_X6_takeText := fun w h => List.mem_cons_of_mem _ (List.mem_append_right _ (List.mem_append_right _ (List.mem_append_left _ h)))
  have hin7 : ∀ w ∈ wsX70, w ∈ wsx_X6_takeText := fun w h => List.mem_cons_of_mem _ (List.mem_append_right _ (List.mem_append_right _ (List.mem_append_right _ (List.mem_append_left _ h))))
  intro n
  induction n with
  | zero =>
    intro uS uT x2 x3 x4 hf H locs hP hD hS ls hl
    cases hf
  | succ n ih =>
    intro uS uT x2 x3 x4 hf H locs hP hD hS ls hl
    rw [fx_X6_takeText_14] at hf
    refine lv_iload hx hb dX6_takeText_14 (lv_at hl 4 rfl) ?_
    refine lv_bipush (v := (40 : Int32)) hx hb dX6_takeText_16 (by decide) ?_
    refine lv_icmp_ge (tgt := 95) hx hb dX6_takeText_18 (by decide) (fun c_5 => ?_) (fun c_5 => ?_)
    · replace hf := og_t c_5 hf
      exact wx_X6_takeText_95 C hK hA hT uS uT hf hP hD hS (lv_sub hl [0] rfl)
    · replace hf := og_f c_5 hf
      refine lv_aload_n hx hb dX6_takeText_21 rfl (lv_at hl 0 rfl) ?_
      obtain ⟨r_7, h_6, hf⟩ := og_b hf
      try dsimp only at hf
      refine xr_V (v := .int r_7) (rest := []) (w0 := (cS G bS uS)) C (cx_X6_mark l G bS uS r_7 _ h_6) (cwV 0 hts gx_X6_X6_mark_33 rfl rfl rfl hdx_X6_mark ⟨Nat.le_of_ble_eq_true rfl, Nat.le_of_ble_eq_true rfl⟩) hK hA hT hP hD hS (va_recv hK hP (ci := 3) (q0 := 0) rfl rfl) [0, 1] rfl rfl rfl hl.1 rfl (Nat.le_of_ble_eq_true rfl) dX6_takeText_22 ?_
      refine lv_bipush (v := (34 : Int32)) hx hb dX6_takeText_25 (by decide) ?_
      refine lv_icmp_eq (tgt := 95) hx hb dX6_takeText_27 (by decide) (fun c_8 => ?_) (fun c_8 => ?_)
      · replace hf := og_t c_8 hf
        exact wx_X6_takeText_95 C hK hA hT uS uT hf hP hD hS (lv_sub hl [0] rfl)
      · replace hf := og_f c_8 hf
        refine lv_aload_n hx hb dX6_takeText_30 rfl (lv_at hl 0 rfl) ?_
        obtain ⟨r_10, h_9, hf⟩ := og_b hf
        try dsimp only at hf
        refine xr_V (v := .int r_10) (rest := []) (w0 := (cS G bS uS)) C (cx_X6_mark l G bS uS r_10 _ h_9) (cwV 0 hts gx_X6_X6_mark_33 rfl rfl rfl hdx_X6_mark ⟨Nat.le_of_ble_eq_true rfl, Nat.le_of_ble_eq_true rfl⟩) hK hA hT hP hD hS (va_recv hK hP (ci := 3) (q0 := 0) rfl rfl) [0, 1] rfl rfl rfl hl.1 rfl (Nat.le_of_ble_eq_true rfl) dX6_takeText_31 ?_
        obtain ⟨r_12, h_11, hf⟩ := og_b hf
        try dsimp only at hf
        refine xr_SN (v := .int r_12) (rest := []) C (cx_X8_isTextMark l G r_10 r_12 _ h_11) ⟨va_cnB 1 hts gx_X6_X8_isTextMark_29 rfl rfl rfl (hT.2.2.1 ("SchematicText$Source", 29, ⟨"SchematicText", "isTextMark", "(I)Z"⟩, "SchematicText") (by decide +kernel)) (hts (Cond.initialized RX8) (List.mem_cons_of_mem _ mx_32)) hdx_X8_isTextMark ⟨Nat.le_of_ble_eq_true rfl, Nat.le_of_ble_eq_true rfl⟩, hts (Cond.static yX8_isTextMark) (List.mem_cons_of_mem _ mx_247), trivial⟩ hK hA hT hP hD hS rfl hl.1 rfl (Nat.le_of_ble_eq_true rfl) dX6_takeText_34 ?_
        refine lv_if_eq (tgt := 60) hx hb dX6_takeText_37 (by decide) (fun c_13 => ?_) (fun c_13 => ?_)
        · replace hf := og_t c_13 hf
          exact wx_X6_takeText_60 C hK hA hT uS uT hf hP hD hS (lv_sub hl [0] rfl)
        · replace hf := og_f c_13 hf
          refine lv_aload_n hx hb dX6_takeText_40 rfl (lv_at hl 0 rfl) ?_
          obtain ⟨r_15, h_14, hf⟩ := og_b hf
          try dsimp only at hf
          refine xr_V (v := .int r_15) (rest := []) (w0 := (cS G bS uS)) C (cx_X6_mark l G bS uS r_15 _ h_14) (cwV 0 hts gx_X6_X6_mark_33 rfl rfl rfl hdx_X6_mark ⟨Nat.le_of_ble_eq_true rfl, Nat.le_of_ble_eq_true rfl⟩) hK hA hT hP hD hS (va_recv hK hP (ci := 3) (q0 := 0) rfl rfl) [0, 1] rfl rfl rfl hl.1 rfl (Nat.le_of_ble_eq_true rfl) dX6_takeText_41 ?_
          refine lv_bipush (v := (92 : Int32)) hx hb dX6_takeText_44 (by decide) ?_
          refine lv_icmp_ne (tgt := 69) hx hb dX6_takeText_46 (by decide) (fun c_16 => ?_) (fun c_16 => ?_)
          · replace hf := og_f c_16 hf
            exact wx_X6_takeText_69 C hK hA hT (fx_X6_takeText_14 n) (fun _ _ _ _ _ h9 => ih _ _ _ _ _ h9) uS uT x2 x3 x4 hf hP hD hS (lv_sub hl [0, 1, 2, 3, 4] rfl)
          · replace hf := og_t c_16 hf
            refine lv_aload_n hx hb dX6_takeText_49 rfl (lv_at hl 0 rfl) ?_
            refine lv_aload_n hx hb dX6_takeText_50 rfl (lv_at hl 0 rfl) ?_
            refine xg (v := .int (gi uS 1)) (ci := 3) (K := RX6) (T := TX6) (N := 5) C hin6 hK hP 0 rfl rfl 1 (by decide) rfl (hts (Cond.fieldLink RX6 15 "SchematicText$Source" "count" "I") (List.mem_cons_of_mem _ mx_25)) rfl dX6_takeText_51 ?_
            obtain ⟨⟨r_18, u_19⟩, h_17, hf⟩ := og_b hf
            try dsimp only at hf
            refine xw_V (ov := (some (.int r_18))) (st1 := [.int r_18]) (rest := []) (w0 := (cS G bS uS)) (w1 := (cS G bS u_19)) (wr := (cT G bT uT)) (w' := (cS G bS u_19 ++ cT G bT uT)) C (cx_X6_passEscape l G bS uS (gi uS 1) r_18 u_19 _ h_17) (cwV 1 hts gx_X6_X6_passEscape_108 rfl rfl rfl hdx_X6_passEscape ⟨Nat.le_of_ble_eq_true rfl, Nat.le_of_ble_eq_true rfl⟩) hK hA hT hP hD hS (va_recv hK hP (ci := 3) (q0 := 0) rfl rfl) [0, 1] [2, 3, 4, 5, 6, 7, 8, 9, 10, 11, 12, 13, 14] [13, 14, 0, 1, 2, 3, 4, 5, 6, 7, 8, 9, 10, 11, 12] rfl rfl rfl rfl (by decide) rfl rfl rfl hl.1 rfl rfl (Nat.le_of_ble_eq_true rfl) dX6_takeText_54 (fun H locs hP hD hS => ?_)
            refine lv_if_ne (tgt := 69) hx hb dX6_takeText_57 (by decide) (fun c_20 => ?_) (fun c_20 => ?_)
            · replace hf := og_f c_20 hf
              exact wx_X6_takeText_69 C hK hA hT (fx_X6_takeText_14 n) (fun _ _ _ _ _ h9 => ih _ _ _ _ _ h9) u_19 uT x2 x3 x4 hf hP hD hS (lv_sub hl [0, 1, 2, 3, 4] rfl)
            · replace hf := og_t c_20 hf
              exact wx_X6_takeText_60 C hK hA hT u_19 uT hf hP hD hS (lv_sub hl [0] rfl)
def fx_X6_takeText (uS : Md) (uT : Md) (x2 : Int32) (x3 : Int32) : Option (Int32 × Md × Md) := ((fx_X6_passOnly uS (34 : Int32)).bind fun p_2 => (if p_2.1 = 0 then (some ((0 : Int32), p_2.2, uT)) else (fx_X6_takeText_14 FU p_2.2 uT x2 x3 (0 : Int32))))
set_option maxHeartbeats 4000000 in
set_option maxRecDepth 100000 in
theorem cx_X6_takeText (l : Launch) (G : Gx) (bS : Nat → Nat) (bT : Nat → Nat) (uS : Md) (uT : Md) (x2 : Int32) (x3 : Int32) (r : Int32) (vS : Md) (vT : Md) (sz : Nat) (hf : fx_X6_takeText uS uT x2 x3 = some (r, vS, vT)) : Met l yX6_takeText wsx_X6_takeText rmx_X6_takeText (pX G (cS G bS uS ++ cT G bT uT) sz [.ref (bS 0), .ref (bT 0), .int x2, .int x3]) (qW (some (.int r)) (cS G bS vS ++ cT G bT vT) (gD G) (tyG G) (va_A (cS G bS uS ++ cT G bT uT) sz)) 0 0 (va_A (cS G bS uS ++ cT G bT uT) sz) := by
  refine mx_w (cc := cX6_takeText) (maxL := 5) (ret := (some .boolean)) (by decide) rfl (Nat.le_of_ble_eq_true rfl) ?_
  intro p e s m below meth c ls A C hl hK hA hT hP hD hS
  have hl : lv_has ls 5 [(0, .ref (bS 0)), (1, .ref (bT 0)), (2, .int x2), (3, .int x3)] := hl
  have hx := C.1.1
  have hb := C.1.2.1
  have hts := C.1.2.2.2.2
  have hown := C.1.2.2.2.1
  have hin6 : ∀ w ∈ wsX60, w ∈ wsx_X6_takeText := fun w h => List.mem_cons_of_mem _ (List.mem_append_right _ (List.mem_append_right _ (List.mem_append_left _ h)))
  have hin7 : ∀ w ∈ wsX70, w ∈ wsx_X6_takeText := fun w h => List.mem_cons_of_mem _ (List.mem_append_right _ (List.mem_append_right _ (List.mem_append_right _ (List.mem_append_left _ h))))
  unfold fx_X6_takeText at hf
  refine lv_aload_n hx hb dX6_takeText_0 rfl (lv_at hl 0 rfl) ?_
  refine lv_bipush (v := (34 : Int32)) hx hb dX6_takeText_1 (by decide) ?_
  obtain ⟨⟨r_2, u_3⟩, h_1, hf⟩ := og_b hf
  try dsimp only at hf
  refine xw_V (ov := (some (.int r_2))) (st1 := [.int r_2]) (rest := []) (w0 := (cS G bS uS)) (w1 := (cS G bS u_3)) (wr := (cT G bT uT)) (w' := (cS G bS u_3 ++ cT G bT uT)) C (cx_X6_passOnly l G bS uS (34 : Int32) r_2 u_3 _ h_1) (cwV 1 hts gx_X6_X6_passOnly_104 rfl rfl rfl hdx_X6_passOnly ⟨Nat.le_of_ble_eq_true rfl, Nat.le_of_ble_eq_true rfl⟩) hK hA hT hP hD hS (va_recv hK hP (ci := 3) (q0 := 0) rfl rfl) [0, 1] [2, 3, 4, 5, 6, 7, 8, 9, 10, 11, 12, 13, 14] [13, 14, 0, 1, 2, 3, 4, 5, 6, 7, 8, 9, 10, 11, 12] rfl rfl rfl rfl (by decide) rfl rfl rfl hl.1 rfl rfl (Nat.le_of_ble_eq_true rfl) dX6_takeText_3 (fun H locs hP hD hS => ?_)
  refine lv_if_ne (tgt := 11) hx hb dX6_takeText_6 (by decide) (fun c_4 => ?_) (fun c_4 => ?_)
  · replace hf := og_f c_4 hf
    refine lv_iconst (v := (0 : Int32)) hx hb dX6_takeText_11 (by decide) ?_
    refine lv_istore (lv' := [(4, .int (0 : Int32)), (0, .ref (bS 0)), (1, .ref (bT 0)), (2, .int x2), (3, .int x3)]) hx hb dX6_takeText_12 hl (by decide) rfl (fun ls hl => ?_)
    exact wx_X6_takeText_14 C hK hA hT FU u_3 uT x2 x3 (0 : Int32) hf hP hD hS (lv_sub hl [1, 2, 3, 4, 0] rfl)
  · replace hf := og_t c_4 hf
    refine lv_iconst (v := (0 : Int32)) hx hb dX6_takeText_9 (by decide) ?_
    obtain ⟨rfl, rfl, rfl⟩ := pi3 (og_s hf)
    exact rw_z C hK hP hD hS (nz_z (Or.inl rfl)) dX6_takeText_10
abbrev rmx_X6_passQuoted : Room := { frames := 2, cells := 0, slots := 0, locals := 41 }
noncomputable abbrev wsx_X6_passQuoted : List Cond := Cond.code yX6_passQuoted cX6_passQuoted 2 (some .boolean) :: WAX
theorem hdx_X6_passQuoted : yX6_passQuoted.cls = RX6 ∧ yX6_passQuoted.cls ≠ "java/lang/invoke/MethodHandle" ∧ yX6_passQuoted.cls ≠ "java/lang/invoke/VarHandle" ∧ (parseMethodDescriptor yX6_passQuoted.desc).map (fun d => d.parameters.length) = some 1 := by decide +kernel
def fx_X6_passQuoted_53 (k10 : Md → Int32 → Option (Int32 × Md)) (uS : Md) (x1 : Int32) : Option (Int32 × Md) := (k10 (si uS 2 ((gi uS 2) + (1 : Int32))) x1)
set_option maxHeartbeats 4000000 in
set_option maxRecDepth 100000 in
theorem wx_X6_passQuoted_53 {p : Program} {l : Launch} {e : Env} {s : State} {m : MethodId} {args : Array Value} {below : List Frame} {meth : Method} {c : Code} {G : Gx} {A : Nat → Prop} {bS : Nat → Nat} (C : Cx p s m args meth c cX6_passQuoted 2 wsx_X6_passQuoted RX6 (some .boolean)) (hK : va_K (gD G) vwCl (tyG G) s) (hA : ∀ q : Nat, s.heap.size ≤ q → A q) (hT : ST G A s s.heap) {r : (Int32 × Md)} (k10 : Md → Int32 → Option (Int32 × Md)) (ih10 : ∀ (uS : Md) (x1 : Int32), k10 uS x1 = some r → ∀ {H : Heap} {locs : List Loc}, va_P (gD G) vwCl (cS G bS uS) H → va_D A (cS G bS uS) → va_S A s.heap H locs → ∀ {ls : Array Slot}, lv_has ls 2 [(0, .ref (bS 0)), (1, .int x1)] → W p l e rmx_X6_passQuoted s m args below meth c H locs 0 0 (MQ below (qW (some (.int r.1)) (cS G bS r.2) (gD G) (tyG G) A) args s 0 0 A) (F0 m 10 ls [])) : ∀ (uS : Md) (x1 : Int32), fx_X6_passQuoted_53 k10 uS x1 = some r → ∀ {H : Heap} {locs : List Loc}, va_P (gD G) vwCl (cS G bS uS) H → va_D A (cS G bS uS) → va_S A s.heap H locs → ∀ {ls : Array Slot}, lv_has ls 2 [(0, .ref (bS 0)), (1, .int x1)] → W p l e rmx_X6_passQuoted s m args below meth c H locs 0 0 (MQ below (qW (some (.int r.1)) (cS G bS r.2) (gD G) (tyG G) A) args s 0 0 A) (F0 m 53 ls []) := by
  have hx := C.1.1
  have hb := C.1.2.1
  have hts := C.1.2.2.2.2
  have hown := C.1.2.2.2.1
  have hin6 : ∀ w ∈ wsX60, w ∈ wsx_X6_passQuoted := fun w h => List.mem_cons_of_mem _ (List.mem_append_right _ (List.mem_append_right _ (List.mem_append_left _ h)))
  intro uS x1 hf H locs hP hD hS ls hl
  unfold fx_X6_passQuoted_53 at hf
  refine lv_aload_n hx hb dX6_passQuoted_53 rfl (lv_at hl 0 rfl) ?_
  refine lv_dup hx hb dX6_passQuoted_54 rfl ?_
  refine xg (v := .int (gi uS 2)) (ci := 3) (K := RX6) (T := TX6) (N := 5) C hin6 hK hP 0 rfl rfl 2 (by decide) rfl (hts (Cond.fieldLink RX6 19 "SchematicText$Source" "at" "I") (List.mem_cons_of_mem _ mx_24)) rfl dX6_passQuoted_55 ?_
  refine lv_iconst (v := (1 : Int32)) hx hb dX6_passQuoted_58 (by decide) ?_
  refine lv_iadd hx hb dX6_passQuoted_59 ?_
  refine xp (v := .int ((gi uS 2) + (1 : Int32))) (w' := (cS G bS (si uS 2 ((gi uS 2) + (1 : Int32))))) (ci := 3) (K := RX6) (T := TX6) (N := 5) (ty := .int) C hin6 tyX6 tyX6_ok nmX6 hK hP hD hS 0 rfl rfl 2 (by decide) rfl (hts (Cond.fieldLink RX6 19 "SchematicText$Source" "at" "I") (List.mem_cons_of_mem _ mx_24)) rfl rfl rfl rfl (Nat.le_of_ble_eq_true rfl) dX6_passQuoted_60 hw_S_S_i2 (fun H locs hP hD hS => ?_)
  refine lv_goto (tgt := 10) hx hb dX6_passQuoted_63 (by decide) ?_
  exact ih10 (si uS 2 ((gi uS 2) + (1 : Int32))) x1 hf hP hD hS (lv_sub hl [0, 1] rfl)
def fx_X6_passQuoted_66 (uS : Md) (x1 : Int32) : Option (Int32 × Md) := (if (gi uS 2) < x1 then (some ((1 : Int32), (si uS 2 ((gi uS 2) + (1 : Int32))))) else ((fx_X6_failAt uS x1).bind fun p_18 => ((if p_18.1 = 0 ∨ p_18.1 = 1 then some (p_18.1, p_18.2) else none))))
set_option maxHeartbeats 4000000 in
set_option maxRecDepth 100000 in
theorem wx_X6_passQuoted_66 {p : Program} {l : Launch} {e : Env} {s : State} {m : MethodId} {args : Array Value} {below : List Frame} {meth : Method} {c : Code} {G : Gx} {A : Nat → Prop} {bS : Nat → Nat} (C : Cx p s m args meth c cX6_passQuoted 2 wsx_X6_passQuoted RX6 (some .boolean)) (hK : va_K (gD G) vwCl (tyG G) s) (hA : ∀ q : Nat, s.heap.size ≤ q → A q) (hT : ST G A s s.heap) {r : (Int32 × Md)} : ∀ (uS : Md) (x1 : Int32), fx_X6_passQuoted_66 uS x1 = some r → ∀ {H : Heap} {locs : List Loc}, va_P (gD G) vwCl (cS G bS uS) H → va_D A (cS G bS uS) → va_S A s.heap H locs → ∀ {ls : Array Slot}, lv_has ls 2 [(0, .ref (bS 0)), (1, .int x1)] → W p l e rmx_X6_passQuoted s m args below meth c H locs 0 0 (MQ below (qW (some (.int r.1)) (cS G bS r.2) (gD G) (tyG G) A) args s 0 0 A) (F0 m 66 ls []) := by
  have hx := C.1.1
  have hb := C.1.2.1
  have hts := C.1.2.2.2.2
  have hown := C.1.2.2.2.1
  have hin6 : ∀ w ∈ wsX60, w ∈ wsx_X6_passQuoted := fun w h => List.mem_cons_of_mem _ (List.mem_append_right _ (List.mem_append_right _ (List.mem_append_left _ h)))
  intro uS x1 hf H locs hP hD hS ls hl
  unfold fx_X6_passQuoted_66 at hf
  refine lv_aload_n hx hb dX6_passQuoted_66 rfl (lv_at hl 0 rfl) ?_
  refine xg (v := .int (gi uS 2)) (ci := 3) (K := RX6) (T := TX6) (N := 5) C hin6 hK hP 0 rfl rfl 2 (by decide) rfl (hts (Cond.fieldLink RX6 19 "SchematicText$Source" "at" "I") (List.mem_cons_of_mem _ mx_24)) rfl dX6_passQuoted_67 ?_
  refine lv_iload_n hx hb dX6_passQuoted_70 rfl (lv_at hl 1 rfl) ?_
  refine lv_icmp_lt (tgt := 80) hx hb dX6_passQuoted_71 (by decide) (fun c_16 => ?_) (fun c_16 => ?_)
  · replace hf := og_t c_16 hf
    refine lv_aload_n hx hb dX6_passQuoted_80 rfl (lv_at hl 0 rfl) ?_
    refine lv_dup hx hb dX6_passQuoted_81 rfl ?_
    refine xg (v := .int (gi uS 2)) (ci := 3) (K := RX6) (T := TX6) (N := 5) C hin6 hK hP 0 rfl rfl 2 (by decide) rfl (hts (Cond.fieldLink RX6 19 "SchematicText$Source" "at" "I") (List.mem_cons_of_mem _ mx_24)) rfl dX6_passQuoted_82 ?_
    refine lv_iconst (v := (1 : Int32)) hx hb dX6_passQuoted_85 (by decide) ?_
    refine lv_iadd hx hb dX6_passQuoted_86 ?_
    refine xp (v := .int ((gi uS 2) + (1 : Int32))) (w' := (cS G bS (si uS 2 ((gi uS 2) + (1 : Int32))))) (ci := 3) (K := RX6) (T := TX6) (N := 5) (ty := .int) C hin6 tyX6 tyX6_ok nmX6 hK hP hD hS 0 rfl rfl 2 (by decide) rfl (hts (Cond.fieldLink RX6 19 "SchematicText$Source" "at" "I") (List.mem_cons_of_mem _ mx_24)) rfl rfl rfl rfl (Nat.le_of_ble_eq_true rfl) dX6_passQuoted_87 hw_S_S_i2 (fun H locs hP hD hS => ?_)
    refine lv_iconst (v := (1 : Int32)) hx hb dX6_passQuoted_90 (by decide) ?_
    obtain rfl := og_s hf
    exact rw_z C hK hP hD hS (nz_z (Or.inr rfl)) dX6_passQuoted_91
  · replace hf := og_f c_16 hf
    refine lv_aload_n hx hb dX6_passQuoted_74 rfl (lv_at hl 0 rfl) ?_
    refine lv_iload_n hx hb dX6_passQuoted_75 rfl (lv_at hl 1 rfl) ?_
    obtain ⟨⟨r_18, u_19⟩, h_17, hf⟩ := og_b hf
    try dsimp only at hf
    refine xw_V (ov := (some (.int r_18))) (st1 := [.int r_18]) (rest := []) (w0 := (cS G bS uS)) (w1 := (cS G bS u_19)) (wr := ([])) (w' := (cS G bS u_19)) C (cx_X6_failAt l G bS uS x1 r_18 u_19 _ h_17) (cwV 1 hts gx_X6_X6_failAt_37 rfl rfl rfl hdx_X6_failAt ⟨Nat.le_of_ble_eq_true rfl, Nat.le_of_ble_eq_true rfl⟩) hK hA hT hP hD hS (va_recv hK hP (ci := 3) (q0 := 0) rfl rfl) [0, 1] [] [0, 1] rfl rfl rfl rfl (by decide) rfl rfl rfl hl.1 rfl rfl (Nat.le_of_ble_eq_true rfl) dX6_passQuoted_76 (fun H locs hP hD hS => ?_)
    obtain ⟨h_20, hf⟩ := og_p hf
    obtain rfl := og_s hf
    exact rw_z C hK hP hD hS (nz_z h_20) dX6_passQuoted_79
def fx_X6_passQuoted_10 : Nat → Md → Int32 → Option (Int32 × Md)
  | 0, _, _ => none
  | n + 1, uS, x1 => (if x1 ≤ (gi uS 2) then (fx_X6_passQuoted_66 uS x1) else ((fx_X6_mark uS).bind fun r_3 => (if r_3 = (34 : Int32) then (fx_X6_passQuoted_66 uS x1) else ((fx_X6_mark uS).bind fun r_6 => (if r_6 = (92 : Int32) then ((fx_X6_passEscape uS x1).bind fun p_9 => (if p_9.1 = 0 then ((fx_X6_failAt p_9.2 (gi p_9.2 2)).bind fun p_13 => ((if p_13.1 = 0 ∨ p_13.1 = 1 then some (p_13.1, p_13.2) else none))) else (fx_X6_passQuoted_53 (fx_X6_passQuoted_10 n) p_9.2 x1))) else (fx_X6_passQuoted_53 (fx_X6_passQuoted_10 n) uS x1))))))
set_option maxHeartbeats 4000000 in
set_option maxRecDepth 100000 in
theorem wx_X6_passQuoted_10 {p : Program} {l : Launch} {e : Env} {s : State} {m : MethodId} {args : Array Value} {below : List Frame} {meth : Method} {c : Code} {G : Gx} {A : Nat → Prop} {bS : Nat → Nat} (C : Cx p s m args meth c cX6_passQuoted 2 wsx_X6_passQuoted RX6 (some .boolean)) (hK : va_K (gD G) vwCl (tyG G) s) (hA : ∀ q : Nat, s.heap.size ≤ q → A q) (hT : ST G A s s.heap) {r : (Int32 × Md)} : ∀ (n : Nat), ∀ (uS : Md) (x1 : Int32), fx_X6_passQuoted_10 n uS x1 = some r → ∀ {H : Heap} {locs : List Loc}, va_P (gD G) vwCl (cS G bS uS) H → va_D A (cS G bS uS) → va_S A s.heap H locs → ∀ {ls : Array Slot}, lv_has ls 2 [(0, .ref (bS 0)), (1, .int x1)] → W p l e rmx_X6_passQuoted s m args below meth c H locs 0 0 (MQ below (qW (some (.int r.1)) (cS G bS r.2) (gD G) (tyG G) A) args s 0 0 A) (F0 m 10 ls []) := by
  have hx := C.1.1
  have hb := C.1.2.1
  have hts := C.1.2.2.2.2
  have hown := C.1.2.2.2.1
  have hin6 : ∀ w ∈ wsX60, w ∈ wsx_X6_passQuoted := fun w h => List.mem_cons_of_mem _ (List.mem_append_right _ (List.mem_append_right _ (List.mem_append_left _ h)))
  intro n
  induction n with
  | zero =>
    intro uS x1 hf H locs hP hD hS ls hl
    cases hf
  | succ n ih =>
    intro uS x1 hf H locs hP hD hS ls hl
    rw [fx_X6_passQuoted_10] at hf
    refine lv_aload_n hx hb dX6_passQuoted_10 rfl (lv_at hl 0 rfl) ?_
    refine xg (v := .int (gi uS 2)) (ci := 3) (K := RX6) (T := TX6) (N := 5) C hin6 hK hP 0 rfl rfl 2 (by decide) rfl (hts (Cond.fieldLink RX6 19 "SchematicText$Source" "at" "I") (List.mem_cons_of_mem _ mx_24)) rfl dX6_passQuoted_11 ?_
    refine lv_iload_n hx hb dX6_passQuoted_14 rfl (lv_at hl 1 rfl) ?_
    refine lv_icmp_ge (tgt := 66) hx hb dX6_passQuoted_15 (by decide) (fun c_1 => ?_) (fun c_1 => ?_)
    · replace hf := og_t c_1 hf
      exact wx_X6_passQuoted_66 C hK hA hT uS x1 hf hP hD hS (lv_sub hl [0, 1] rfl)
    · replace hf := og_f c_1 hf
      refine lv_aload_n hx hb dX6_passQuoted_18 rfl (lv_at hl 0 rfl) ?_
      obtain ⟨r_3, h_2, hf⟩ := og_b hf
      try dsimp only at hf
      refine xr_V (v := .int r_3) (rest := []) (w0 := (cS G bS uS)) C (cx_X6_mark l G bS uS r_3 _ h_2) (cwV 0 hts gx_X6_X6_mark_33 rfl rfl rfl hdx_X6_mark ⟨Nat.le_of_ble_eq_true rfl, Nat.le_of_ble_eq_true rfl⟩) hK hA hT hP hD hS (va_recv hK hP (ci := 3) (q0 := 0) rfl rfl) [0, 1] rfl rfl rfl hl.1 rfl (Nat.le_of_ble_eq_true rfl) dX6_passQuoted_19 ?_
      refine lv_bipush (v := (34 : Int32)) hx hb dX6_passQuoted_22 (by decide) ?_
      refine lv_icmp_eq (tgt := 66) hx hb dX6_passQuoted_24 (by decide) (fun c_4 => ?_) (fun c_4 => ?_)
      · replace hf := og_t c_4 hf
        exact wx_X6_passQuoted_66 C hK hA hT uS x1 hf hP hD hS (lv_sub hl [0, 1] rfl)
      · replace hf := og_f c_4 hf
        refine lv_aload_n hx hb dX6_passQuoted_27 rfl (lv_at hl 0 rfl) ?_
        obtain ⟨r_6, h_5, hf⟩ := og_b hf
        try dsimp only at hf
        refine xr_V (v := .int r_6) (rest := []) (w0 := (cS G bS uS)) C (cx_X6_mark l G bS uS r_6 _ h_5) (cwV 0 hts gx_X6_X6_mark_33 rfl rfl rfl hdx_X6_mark ⟨Nat.le_of_ble_eq_true rfl, Nat.le_of_ble_eq_true rfl⟩) hK hA hT hP hD hS (va_recv hK hP (ci := 3) (q0 := 0) rfl rfl) [0, 1] rfl rfl rfl hl.1 rfl (Nat.le_of_ble_eq_true rfl) dX6_passQuoted_28 ?_
        refine lv_bipush (v := (92 : Int32)) hx hb dX6_passQuoted_31 (by decide) ?_
        refine lv_icmp_ne (tgt := 53) hx hb dX6_passQuoted_33 (by decide) (fun c_7 => ?_) (fun c_7 => ?_)
        · replace hf := og_f c_7 hf
          exact wx_X6_passQuoted_53 C hK hA hT (fx_X6_passQuoted_10 n) (fun _ _ h9 => ih _ _ h9) uS x1 hf hP hD hS (lv_sub hl [0, 1] rfl)
        · replace hf := og_t c_7 hf
          refine lv_aload_n hx hb dX6_passQuoted_36 rfl (lv_at hl 0 rfl) ?_
          refine lv_iload_n hx hb dX6_passQuoted_37 rfl (lv_at hl 1 rfl) ?_
          obtain ⟨⟨r_9, u_10⟩, h_8, hf⟩ := og_b hf
          try dsimp only at hf
          refine xw_V (ov := (some (.int r_9))) (st1 := [.int r_9]) (rest := []) (w0 := (cS G bS uS)) (w1 := (cS G bS u_10)) (wr := ([])) (w' := (cS G bS u_10)) C (cx_X6_passEscape l G bS uS x1 r_9 u_10 _ h_8) (cwV 1 hts gx_X6_X6_passEscape_108 rfl rfl rfl hdx_X6_passEscape ⟨Nat.le_of_ble_eq_true rfl, Nat.le_of_ble_eq_true rfl⟩) hK hA hT hP hD hS (va_recv hK hP (ci := 3) (q0 := 0) rfl rfl) [0, 1] [] [0, 1] rfl rfl rfl rfl (by decide) rfl rfl rfl hl.1 rfl rfl (Nat.le_of_ble_eq_true rfl) dX6_passQuoted_38 (fun H locs hP hD hS => ?_)
          refine lv_if_ne (tgt := 53) hx hb dX6_passQuoted_41 (by decide) (fun c_11 => ?_) (fun c_11 => ?_)
          · replace hf := og_f c_11 hf
            exact wx_X6_passQuoted_53 C hK hA hT (fx_X6_passQuoted_10 n) (fun _ _ h9 => ih _ _ h9) u_10 x1 hf hP hD hS (lv_sub hl [0, 1] rfl)
          · replace hf := og_t c_11 hf
            refine lv_aload_n hx hb dX6_passQuoted_44 rfl (lv_at hl 0 rfl) ?_
            refine lv_aload_n hx hb dX6_passQuoted_45 rfl (lv_at hl 0 rfl) ?_
            refine xg (v := .int (gi u_10 2)) (ci := 3) (K := RX6) (T := TX6) (N := 5) C hin6 hK hP 0 rfl rfl 2 (by decide) rfl (hts (Cond.fieldLink RX6 19 "SchematicText$Source" "at" "I") (List.mem_cons_of_mem _ mx_24)) rfl dX6_passQuoted_46 ?_
            obtain ⟨⟨r_13, u_14⟩, h_12, hf⟩ := og_b hf
            try dsimp only at hf
            refine xw_V (ov := (some (.int r_13))) (st1 := [.int r_13]) (rest := []) (w0 := (cS G bS u_10)) (w1 := (cS G bS u_14)) (wr := ([])) (w' := (cS G bS u_14)) C (cx_X6_failAt l G bS u_10 (gi u_10 2) r_13 u_14 _ h_12) (cwV 1 hts gx_X6_X6_failAt_37 rfl rfl rfl hdx_X6_failAt ⟨Nat.le_of_ble_eq_true rfl, Nat.le_of_ble_eq_true rfl⟩) hK hA hT hP hD hS (va_recv hK hP (ci := 3) (q0 := 0) rfl rfl) [0, 1] [] [0, 1] rfl rfl rfl rfl (by decide) rfl rfl rfl hl.1 rfl rfl (Nat.le_of_ble_eq_true rfl) dX6_passQuoted_49 (fun H locs hP hD hS => ?_)
            obtain ⟨h_15, hf⟩ := og_p hf
            obtain rfl := og_s hf
            exact rw_z C hK hP hD hS (nz_z h_15) dX6_passQuoted_52
def fx_X6_passQuoted (uS : Md) (x1 : Int32) : Option (Int32 × Md) := (fx_X6_passQuoted_10 FU (si uS 2 ((gi uS 2) + (1 : Int32))) x1)
set_option maxHeartbeats 4000000 in
set_option maxRecDepth 100000 in
theorem cx_X6_passQuoted (l : Launch) (G : Gx) (bS : Nat → Nat) (uS : Md) (x1 : Int32) (r : Int32) (vS : Md) (sz : Nat) (hf : fx_X6_passQuoted uS x1 = some (r, vS)) : Met l yX6_passQuoted wsx_X6_passQuoted rmx_X6_passQuoted (pX G (cS G bS uS) sz [.ref (bS 0), .int x1]) (qW (some (.int r)) (cS G bS vS) (gD G) (tyG G) (va_A (cS G bS uS) sz)) 0 0 (va_A (cS G bS uS) sz) := by
  refine mx_w (cc := cX6_passQuoted) (maxL := 2) (ret := (some .boolean)) (by decide) rfl (Nat.le_of_ble_eq_true rfl) ?_
  intro p e s m below meth c ls A C hl hK hA hT hP hD hS
  have hl : lv_has ls 2 [(0, .ref (bS 0)), (1, .int x1)] := hl
  have hx := C.1.1
  have hb := C.1.2.1
  have hts := C.1.2.2.2.2
  have hown := C.1.2.2.2.1
  have hin6 : ∀ w ∈ wsX60, w ∈ wsx_X6_passQuoted := fun w h => List.mem_cons_of_mem _ (List.mem_append_right _ (List.mem_append_right _ (List.mem_append_left _ h)))
  unfold fx_X6_passQuoted at hf
  refine lv_aload_n hx hb dX6_passQuoted_0 rfl (lv_at hl 0 rfl) ?_
  refine lv_dup hx hb dX6_passQuoted_1 rfl ?_
  refine xg (v := .int (gi uS 2)) (ci := 3) (K := RX6) (T := TX6) (N := 5) C hin6 hK hP 0 rfl rfl 2 (by decide) rfl (hts (Cond.fieldLink RX6 19 "SchematicText$Source" "at" "I") (List.mem_cons_of_mem _ mx_24)) rfl dX6_passQuoted_2 ?_
  refine lv_iconst (v := (1 : Int32)) hx hb dX6_passQuoted_5 (by decide) ?_
  refine lv_iadd hx hb dX6_passQuoted_6 ?_
  refine xp (v := .int ((gi uS 2) + (1 : Int32))) (w' := (cS G bS (si uS 2 ((gi uS 2) + (1 : Int32))))) (ci := 3) (K := RX6) (T := TX6) (N := 5) (ty := .int) C hin6 tyX6 tyX6_ok nmX6 hK hP hD hS 0 rfl rfl 2 (by decide) rfl (hts (Cond.fieldLink RX6 19 "SchematicText$Source" "at" "I") (List.mem_cons_of_mem _ mx_24)) rfl rfl rfl rfl (Nat.le_of_ble_eq_true rfl) dX6_passQuoted_7 hw_S_S_i2 (fun H locs hP hD hS => ?_)
  exact wx_X6_passQuoted_10 C hK hA hT FU (si uS 2 ((gi uS 2) + (1 : Int32))) x1 hf hP hD hS (lv_sub hl [0, 1] rfl)
abbrev rmx_X7_forget : Room := { frames := 0, cells := 0, slots := 0, locals := 0 }
noncomputable abbrev wsx_X7_forget : List Cond := Cond.code yX7_forget cX7_forget 1 none :: WAX
theorem hdx_X7_forget : yX7_forget.cls = RX7 ∧ yX7_forget.cls ≠ "java/lang/invoke/MethodHandle" ∧ yX7_forget.cls ≠ "java/lang/invoke/VarHandle" ∧ (parseMethodDescriptor yX7_forget.desc).map (fun d => d.parameters.length) = some 0 := by decide +kernel
def fx_X7_forget (uT : Md) : Option Md := (some (si (si (si (si uT 12 (0 : Int32)) 13 (0 : Int32)) 14 (0 : Int32)) 15 (0 : Int32)))
set_option maxHeartbeats 4000000 in
set_option maxRecDepth 100000 in
theorem cx_X7_forget (l : Launch) (G : Gx) (bT : Nat → Nat) (uT : Md)  (vT : Md) (sz : Nat) (hf : fx_X7_forget uT = some vT) : Met l yX7_forget wsx_X7_forget rmx_X7_forget (pX G (cT G bT uT) sz [.ref (bT 0)]) (qW none (cT G bT vT) (gD G) (tyG G) (va_A (cT G bT uT) sz)) 0 0 (va_A (cT G bT uT) sz) := by
  refine mx_w (cc := cX7_forget) (maxL := 1) (ret := none) (by decide) rfl (Nat.le_of_ble_eq_true rfl) ?_
  intro p e s m below meth c ls A C hl hK hA hT hP hD hS
  have hl : lv_has ls 1 [(0, .ref (bT 0))] := hl
  have hx := C.1.1
  have hb := C.1.2.1
  have hts := C.1.2.2.2.2
  have hown := C.1.2.2.2.1
  have hin7 : ∀ w ∈ wsX70, w ∈ wsx_X7_forget := fun w h => List.mem_cons_of_mem _ (List.mem_append_right _ (List.mem_append_right _ (List.mem_append_right _ (List.mem_append_left _ h))))
  unfold fx_X7_forget at hf
  refine lv_aload_n hx hb dX7_forget_0 rfl (lv_at hl 0 rfl) ?_
  refine lv_iconst (v := (0 : Int32)) hx hb dX7_forget_1 (by decide) ?_
  refine xp (v := .int (0 : Int32)) (w' := (cT G bT (si uT 12 (0 : Int32)))) (ci := 4) (K := RX7) (T := TX7) (N := 16) (ty := .int) C hin7 tyX7 tyX7_ok nmX7 hK hP hD hS 0 rfl rfl 12 (by decide) rfl (hts (Cond.fieldLink RX7 50 "SchematicText$Tree" "keptCount" "I") (List.mem_cons_of_mem _ mx_359)) rfl rfl rfl rfl (Nat.le_of_ble_eq_true rfl) dX7_forget_2 hw_T_T_i12 (fun H locs hP hD hS => ?_)
  refine lv_aload_n hx hb dX7_forget_5 rfl (lv_at hl 0 rfl) ?_
  refine lv_iconst (v := (0 : Int32)) hx hb dX7_forget_6 (by decide) ?_
  refine xp (v := .int (0 : Int32)) (w' := (cT G bT (si (si uT 12 (0 : Int32)) 13 (0 : Int32)))) (ci := 4) (K := RX7) (T := TX7) (N := 16) (ty := .int) C hin7 tyX7 tyX7_ok nmX7 hK hP hD hS 0 rfl rfl 13 (by decide) rfl (hts (Cond.fieldLink RX7 54 "SchematicText$Tree" "count" "I") (List.mem_cons_of_mem _ mx_101)) rfl rfl rfl rfl (Nat.le_of_ble_eq_true rfl) dX7_forget_7 hw_T_T_i13 (fun H locs hP hD hS => ?_)
  refine lv_aload_n hx hb dX7_forget_10 rfl (lv_at hl 0 rfl) ?_
  refine lv_iconst (v := (0 : Int32)) hx hb dX7_forget_11 (by decide) ?_
  refine xp (v := .int (0 : Int32)) (w' := (cT G bT (si (si (si uT 12 (0 : Int32)) 13 (0 : Int32)) 14 (0 : Int32)))) (ci := 4) (K := RX7) (T := TX7) (N := 16) (ty := .int) C hin7 tyX7 tyX7_ok nmX7 hK hP hD hS 0 rfl rfl 14 (by decide) rfl (hts (Cond.fieldLink RX7 57 "SchematicText$Tree" "deepest" "I") (List.mem_cons_of_mem _ mx_130)) rfl rfl rfl rfl (Nat.le_of_ble_eq_true rfl) dX7_forget_12 hw_T_T_i14 (fun H locs hP hD hS => ?_)
  refine lv_aload_n hx hb dX7_forget_15 rfl (lv_at hl 0 rfl) ?_
  refine lv_iconst (v := (0 : Int32)) hx hb dX7_forget_16 (by decide) ?_
  refine xp (v := .int (0 : Int32)) (w' := (cT G bT (si (si (si (si uT 12 (0 : Int32)) 13 (0 : Int32)) 14 (0 : Int32)) 15 (0 : Int32)))) (ci := 4) (K := RX7) (T := TX7) (N := 16) (ty := .int) C hin7 tyX7 tyX7_ok nmX7 hK hP hD hS 0 rfl rfl 15 (by decide) rfl (hts (Cond.fieldLink RX7 60 "SchematicText$Tree" "version" "I") (List.mem_cons_of_mem _ mx_459)) rfl rfl rfl rfl (Nat.le_of_ble_eq_true rfl) dX7_forget_17 hw_T_T_i15 (fun H locs hP hD hS => ?_)
  obtain rfl := og_s hf
  exact rw_v C hK hP hD hS dX7_forget_20
theorem gx_X7_X2_numbered_67 {c0 : Cond} : GoodIn (c0 :: WAX) (va_wsS RX7 67 yX2_numbered wsx_X2_numbered) := gdx_s mx_112 mx_113 mx_114 mx_115
abbrev rmx_X7_kindOf : Room := { frames := 1, cells := 0, slots := 0, locals := 21 }
noncomputable abbrev wsx_X7_kindOf : List Cond := Cond.code yX7_kindOf cX7_kindOf 2 (some (.object "SchematicText$Kind")) :: WAX
theorem hdx_X7_kindOf : yX7_kindOf.cls = RX7 ∧ yX7_kindOf.cls ≠ "java/lang/invoke/MethodHandle" ∧ yX7_kindOf.cls ≠ "java/lang/invoke/VarHandle" ∧ (parseMethodDescriptor yX7_kindOf.desc).map (fun d => d.parameters.length) = some 1 := by decide +kernel
def fx_X7_kindOf_18 (uT : Md) (y0 : Int32) : Option (Fin 10) := ((fx_X2_numbered y0).bind fun r_6 => (some r_6))
set_option maxHeartbeats 4000000 in
set_option maxRecDepth 100000 in
theorem wx_X7_kindOf_18 {p : Program} {l : Launch} {e : Env} {s : State} {m : MethodId} {args : Array Value} {below : List Frame} {meth : Method} {c : Code} {G : Gx} {A : Nat → Prop} {bT : Nat → Nat} (C : Cx p s m args meth c cX7_kindOf 2 wsx_X7_kindOf RX7 (some (.object "SchematicText$Kind"))) {uT : Md} (hK : va_K (gD G) vwCl (tyG G) s) (hA : ∀ q : Nat, s.heap.size ≤ q → A q) (hT : ST G A s s.heap) (hP : va_P (gD G) vwCl (cT G bT uT) s.heap) (hD : va_D A (cT G bT uT)) (hS : va_S A s.heap s.heap []) {r : (Fin 10)} : ∀ (y0 : Int32), fx_X7_kindOf_18 uT y0 = some r → ∀ {ls : Array Slot}, lv_has ls 2 [] → W p l e rmx_X7_kindOf s m args below meth c s.heap [] 0 0 (MQ below (k2_QcV (.ref (gK G (r).val))) args s 0 0 (fun _ => False)) (F0 m 18 ls [.int y0]) := by
  have hx := C.1.1
  have hb := C.1.2.1
  have hts := C.1.2.2.2.2
  have hown := C.1.2.2.2.1
  have hin7 : ∀ w ∈ wsX70, w ∈ wsx_X7_kindOf := fun w h => List.mem_cons_of_mem _ (List.mem_append_right _ (List.mem_append_right _ (List.mem_append_right _ (List.mem_append_left _ h))))
  intro y0 hf ls hl
  unfold fx_X7_kindOf_18 at hf
  obtain ⟨r_6, h_5, hf⟩ := og_b hf
  try dsimp only at hf
  refine xr_S (v := .ref (gK G (r_6).val)) (rest := []) C (cx_X2_numbered l G y0 r_6 _ h_5) (va_cwS 1 hts gx_X7_X2_numbered_67 rfl rfl rfl hdx_X2_numbered ⟨Nat.le_of_ble_eq_true rfl, Nat.le_of_ble_eq_true rfl⟩) hK hA hT hP hD hS rfl hl.1 rfl (Nat.le_of_ble_eq_true rfl) dX7_kindOf_18 ?_
  obtain rfl := og_s hf
  exact rt_a C (Or.inl ⟨_, rfl⟩) dX7_kindOf_21
def fx_X7_kindOf (uT : Md) (x1 : Int32) : Option (Fin 10) := ((fx_X7_has uT x1).bind fun r_2 => (if r_2 = 0 then (fx_X7_kindOf_18 uT (-1 : Int32)) else (if x1 < 0 ∨ 200 ≤ (x1).toNatClampNeg then none else (fx_X7_kindOf_18 uT ((ga uT 0) (x1).toNatClampNeg)))))
set_option maxHeartbeats 4000000 in
set_option maxRecDepth 100000 in
theorem cx_X7_kindOf (l : Launch) (G : Gx) (bT : Nat → Nat) (uT : Md) (x1 : Int32) (r : (Fin 10)) (sz : Nat) (hf : fx_X7_kindOf uT x1 = some r) : Met l yX7_kindOf wsx_X7_kindOf rmx_X7_kindOf (pX G (cT G bT uT) sz [.ref (bT 0), .int x1]) (k2_QcV (.ref (gK G (r).val))) 0 0 (fun _ => False) := by
  refine mx_r (cc := cX7_kindOf) (maxL := 2) (ret := (some (.object "SchematicText$Kind"))) (by decide) rfl (Nat.le_of_ble_eq_true rfl) ?_
  intro p e s m below meth c ls A C hl hK hA hT hP hD hS
  have hl : lv_has ls 2 [(0, .ref (bT 0)), (1, .int x1)] := hl
  have hx := C.1.1
  have hb := C.1.2.1
  have hts := C.1.2.2.2.2
  have hown := C.1.2.2.2.1
  have hin7 : ∀ w ∈ wsX70, w ∈ wsx_X7_kindOf := fun w h => List.mem_cons_of_mem _ (List.mem_append_right _ (List.mem_append_right _ (List.mem_append_right _ (List.mem_append_left _ h))))
  unfold fx_X7_kindOf at hf
  refine lv_aload_n hx hb dX7_kindOf_0 rfl (lv_at hl 0 rfl) ?_
  refine lv_iload_n hx hb dX7_kindOf_1 rfl (lv_at hl 1 rfl) ?_
  obtain ⟨r_2, h_1, hf⟩ := og_b hf
  try dsimp only at hf
  refine xr_V (v := .int r_2) (rest := []) (w0 := (cT G bT uT)) C (cx_X7_has l G bT uT x1 r_2 _ h_1) (cwV 1 hts gx_X7_X7_has_63 rfl rfl rfl hdx_X7_has ⟨Nat.le_of_ble_eq_true rfl, Nat.le_of_ble_eq_true rfl⟩) hK hA hT hP hD hS (va_recv hK hP (ci := 4) (q0 := 0) rfl rfl) [0, 1, 2, 3, 4, 5, 6, 7, 8, 9, 10, 11, 12] rfl rfl rfl hl.1 rfl (Nat.le_of_ble_eq_true rfl) dX7_kindOf_2 ?_
  refine lv_if_eq (tgt := 17) hx hb dX7_kindOf_5 (by decide) (fun c_3 => ?_) (fun c_3 => ?_)
  · replace hf := og_t c_3 hf
    refine lv_iconst (v := (-1 : Int32)) hx hb dX7_kindOf_17 (by decide) ?_
    exact wx_X7_kindOf_18 C hK hA hT hP hD hS (-1 : Int32) hf (lv_sub hl [] rfl)
  · replace hf := og_f c_3 hf
    refine lv_aload_n hx hb dX7_kindOf_8 rfl (lv_at hl 0 rfl) ?_
    refine xg (v := .ref (bT 1)) (ci := 4) (K := RX7) (T := TX7) (N := 16) C hin7 hK hP 0 rfl rfl 0 (by decide) rfl (hts (Cond.fieldLink RX7 9 "SchematicText$Tree" "kinds" "[I") (List.mem_cons_of_mem _ mx_111)) rfl dX7_kindOf_9 ?_
    refine lv_iload_n hx hb dX7_kindOf_12 rfl (lv_at hl 1 rfl) ?_
    obtain ⟨h_4, hf⟩ := og_n hf
    refine va_iald (f := (ga uT 0)) hx hb hK hP 1 0 rfl rfl h_4 dX7_kindOf_13 ?_
    refine lv_goto (tgt := 18) hx hb dX7_kindOf_14 (by decide) ?_
    exact wx_X7_kindOf_18 C hK hA hT hP hD hS ((ga uT 0) (x1).toNatClampNeg) hf (lv_sub hl [] rfl)
abbrev rmx_X7_parentOf : Room := { frames := 1, cells := 0, slots := 0, locals := 21 }
noncomputable abbrev wsx_X7_parentOf : List Cond := Cond.code yX7_parentOf cX7_parentOf 2 (some .int) :: WAX
theorem hdx_X7_parentOf : yX7_parentOf.cls = RX7 ∧ yX7_parentOf.cls ≠ "java/lang/invoke/MethodHandle" ∧ yX7_parentOf.cls ≠ "java/lang/invoke/VarHandle" ∧ (parseMethodDescriptor yX7_parentOf.desc).map (fun d => d.parameters.length) = some 1 := by decide +kernel
def fx_X7_parentOf (uT : Md) (x1 : Int32) : Option Int32 := ((fx_X7_has uT x1).bind fun r_2 => (if r_2 = 0 then (some (-1 : Int32)) else (if x1 < 0 ∨ 200 ≤ (x1).toNatClampNeg then none else (some ((ga uT 1) (x1).toNatClampNeg)))))
set_option maxHeartbeats 4000000 in
set_option maxRecDepth 100000 in
theorem cx_X7_parentOf (l : Launch) (G : Gx) (bT : Nat → Nat) (uT : Md) (x1 : Int32) (r : Int32) (sz : Nat) (hf : fx_X7_parentOf uT x1 = some r) : Met l yX7_parentOf wsx_X7_parentOf rmx_X7_parentOf (pX G (cT G bT uT) sz [.ref (bT 0), .int x1]) (k2_QcV (.int r)) 0 0 (fun _ => False) := by
  refine mx_r (cc := cX7_parentOf) (maxL := 2) (ret := (some .int)) (by decide) rfl (Nat.le_of_ble_eq_true rfl) ?_
  intro p e s m below meth c ls A C hl hK hA hT hP hD hS
  have hl : lv_has ls 2 [(0, .ref (bT 0)), (1, .int x1)] := hl
  have hx := C.1.1
  have hb := C.1.2.1
  have hts := C.1.2.2.2.2
  have hown := C.1.2.2.2.1
  have hin7 : ∀ w ∈ wsX70, w ∈ wsx_X7_parentOf := fun w h => List.mem_cons_of_mem _ (List.mem_append_right _ (List.mem_append_right _ (List.mem_append_right _ (List.mem_append_left _ h))))
  unfold fx_X7_parentOf at hf
  refine lv_aload_n hx hb dX7_parentOf_0 rfl (lv_at hl 0 rfl) ?_
  refine lv_iload_n hx hb dX7_parentOf_1 rfl (lv_at hl 1 rfl) ?_
  obtain ⟨r_2, h_1, hf⟩ := og_b hf
  try dsimp only at hf
  refine xr_V (v := .int r_2) (rest := []) (w0 := (cT G bT uT)) C (cx_X7_has l G bT uT x1 r_2 _ h_1) (cwV 1 hts gx_X7_X7_has_63 rfl rfl rfl hdx_X7_has ⟨Nat.le_of_ble_eq_true rfl, Nat.le_of_ble_eq_true rfl⟩) hK hA hT hP hD hS (va_recv hK hP (ci := 4) (q0 := 0) rfl rfl) [0, 1, 2, 3, 4, 5, 6, 7, 8, 9, 10, 11, 12] rfl rfl rfl hl.1 rfl (Nat.le_of_ble_eq_true rfl) dX7_parentOf_2 ?_
  refine lv_if_eq (tgt := 17) hx hb dX7_parentOf_5 (by decide) (fun c_3 => ?_) (fun c_3 => ?_)
  · replace hf := og_t c_3 hf
    refine lv_iconst (v := (-1 : Int32)) hx hb dX7_parentOf_17 (by decide) ?_
    obtain rfl := og_s hf
    exact rt_i C dX7_parentOf_18
  · replace hf := og_f c_3 hf
    refine lv_aload_n hx hb dX7_parentOf_8 rfl (lv_at hl 0 rfl) ?_
    refine xg (v := .ref (bT 2)) (ci := 4) (K := RX7) (T := TX7) (N := 16) C hin7 hK hP 0 rfl rfl 1 (by decide) rfl (hts (Cond.fieldLink RX7 15 "SchematicText$Tree" "parents" "[I") (List.mem_cons_of_mem _ mx_128)) rfl dX7_parentOf_9 ?_
    refine lv_iload_n hx hb dX7_parentOf_12 rfl (lv_at hl 1 rfl) ?_
    obtain ⟨h_4, hf⟩ := og_n hf
    refine va_iald (f := (ga uT 1)) hx hb hK hP 2 0 rfl rfl h_4 dX7_parentOf_13 ?_
    refine lv_goto (tgt := 18) hx hb dX7_parentOf_14 (by decide) ?_
    obtain rfl := og_s hf
    exact rt_i C dX7_parentOf_18
abbrev rmx_X7_depthOf : Room := { frames := 1, cells := 0, slots := 0, locals := 21 }
noncomputable abbrev wsx_X7_depthOf : List Cond := Cond.code yX7_depthOf cX7_depthOf 2 (some .int) :: WAX
theorem hdx_X7_depthOf : yX7_depthOf.cls = RX7 ∧ yX7_depthOf.cls ≠ "java/lang/invoke/MethodHandle" ∧ yX7_depthOf.cls ≠ "java/lang/invoke/VarHandle" ∧ (parseMethodDescriptor yX7_depthOf.desc).map (fun d => d.parameters.length) = some 1 := by decide +kernel
def fx_X7_depthOf (uT : Md) (x1 : Int32) : Option Int32 := ((fx_X7_has uT x1).bind fun r_2 => (if r_2 = 0 then (some (-1 : Int32)) else (if x1 < 0 ∨ 200 ≤ (x1).toNatClampNeg then none else (some ((ga uT 2) (x1).toNatClampNeg)))))
set_option maxHeartbeats 4000000 in
set_option maxRecDepth 100000 in
theorem cx_X7_depthOf (l : Launch) (G : Gx) (bT : Nat → Nat) (uT : Md) (x1 : Int32) (r : Int32) (sz : Nat) (hf : fx_X7_depthOf uT x1 = some r) : Met l yX7_depthOf wsx_X7_depthOf rmx_X7_depthOf (pX G (cT G bT uT) sz [.ref (bT 0), .int x1]) (k2_QcV (.int r)) 0 0 (fun _ => False) := by
  refine mx_r (cc := cX7_depthOf) (maxL := 2) (ret := (some .int)) (by decide) rfl (Nat.le_of_ble_eq_true rfl) ?_
  intro p e s m below meth c ls A C hl hK hA hT hP hD hS
  have hl : lv_has ls 2 [(0, .ref (bT 0)), (1, .int x1)] := hl
  have hx := C.1.1
  have hb := C.1.2.1
  have hts := C.1.2.2.2.2
  have hown := C.1.2.2.2.1
  have hin7 : ∀ w ∈ wsX70, w ∈ wsx_X7_depthOf := fun w h => List.mem_cons_of_mem _ (List.mem_append_right _ (List.mem_append_right _ (List.mem_append_right _ (List.mem_append_left _ h))))
  unfold fx_X7_depthOf at hf
  refine lv_aload_n hx hb dX7_depthOf_0 rfl (lv_at hl 0 rfl) ?_
  refine lv_iload_n hx hb dX7_depthOf_1 rfl (lv_at hl 1 rfl) ?_
  obtain ⟨r_2, h_1, hf⟩ := og_b hf
  try dsimp only at hf
  refine xr_V (v := .int r_2) (rest := []) (w0 := (cT G bT uT)) C (cx_X7_has l G bT uT x1 r_2 _ h_1) (cwV 1 hts gx_X7_X7_has_63 rfl rfl rfl hdx_X7_has ⟨Nat.le_of_ble_eq_true rfl, Nat.le_of_ble_eq_true rfl⟩) hK hA hT hP hD hS (va_recv hK hP (ci := 4) (q0 := 0) rfl rfl) [0, 1, 2, 3, 4, 5, 6, 7, 8, 9, 10, 11, 12] rfl rfl rfl hl.1 rfl (Nat.le_of_ble_eq_true rfl) dX7_depthOf_2 ?_
  refine lv_if_eq (tgt := 17) hx hb dX7_depthOf_5 (by decide) (fun c_3 => ?_) (fun c_3 => ?_)
  · replace hf := og_t c_3 hf
    refine lv_iconst (v := (-1 : Int32)) hx hb dX7_depthOf_17 (by decide) ?_
    obtain rfl := og_s hf
    exact rt_i C dX7_depthOf_18
  · replace hf := og_f c_3 hf
    refine lv_aload_n hx hb dX7_depthOf_8 rfl (lv_at hl 0 rfl) ?_
    refine xg (v := .ref (bT 3)) (ci := 4) (K := RX7) (T := TX7) (N := 16) C hin7 hK hP 0 rfl rfl 2 (by decide) rfl (hts (Cond.fieldLink RX7 18 "SchematicText$Tree" "depths" "[I") (List.mem_cons_of_mem _ mx_129)) rfl dX7_depthOf_9 ?_
    refine lv_iload_n hx hb dX7_depthOf_12 rfl (lv_at hl 1 rfl) ?_
    obtain ⟨h_4, hf⟩ := og_n hf
    refine va_iald (f := (ga uT 2)) hx hb hK hP 3 0 rfl rfl h_4 dX7_depthOf_13 ?_
    refine lv_goto (tgt := 18) hx hb dX7_depthOf_14 (by decide) ?_
    obtain rfl := og_s hf
    exact rt_i C dX7_depthOf_18
theorem gx_X7_X7_kindOf_73 {c0 : Cond} : GoodIn (c0 :: WAX) (wsV RX7 73 RX7 yX7_kindOf wsx_X7_kindOf) := gdx_v mx_107 mx_108 mx_109 mx_99 mx_110
theorem gx_X7_X2_mayBeIn_76 {c0 : Cond} : GoodIn (c0 :: WAX) (wsV RX7 76 RX2 yX2_mayBeIn wsx_X2_mayBeIn) := gdx_v mx_118 mx_119 mx_120 mx_114 mx_121
abbrev rmx_X7_mayHold : Room := { frames := 2, cells := 0, slots := 0, locals := 42 }
noncomputable abbrev wsx_X7_mayHold : List Cond := Cond.code yX7_mayHold cX7_mayHold 3 (some .boolean) :: WAX
theorem hdx_X7_mayHold : yX7_mayHold.cls = RX7 ∧ yX7_mayHold.cls ≠ "java/lang/invoke/MethodHandle" ∧ yX7_mayHold.cls ≠ "java/lang/invoke/VarHandle" ∧ (parseMethodDescriptor yX7_mayHold.desc).map (fun d => d.parameters.length) = some 2 := by decide +kernel
def fx_X7_mayHold (uT : Md) (x1 : Int32) (x2 : (Fin 10)) : Option Int32 := ((fx_X7_has uT x1).bind fun r_2 => (if r_2 = 0 then (if (gi uT 13) = 0 then (if x2 = (0 : Fin 10) then (some (1 : Int32)) else (some (0 : Int32))) else (some (0 : Int32))) else ((fx_X7_kindOf uT x1).bind fun r_7 => ((fx_X2_mayBeIn x2 r_7).bind fun r_9 => ((if r_9 = 0 ∨ r_9 = 1 then some r_9 else none))))))
set_option maxHeartbeats 4000000 in
set_option maxRecDepth 100000 in
theorem cx_X7_mayHold (l : Launch) (G : Gx) (bT : Nat → Nat) (uT : Md) (x1 : Int32) (x2 : (Fin 10)) (r : Int32) (sz : Nat) (hf : fx_X7_mayHold uT x1 x2 = some r) : Met l yX7_mayHold wsx_X7_mayHold rmx_X7_mayHold (pX G (cT G bT uT) sz [.ref (bT 0), .int x1, .ref (gK G (x2).val)]) (k2_QcV (.int r)) 0 0 (fun _ => False) := by
  refine mx_r (cc := cX7_mayHold) (maxL := 3) (ret := (some .boolean)) (by decide) rfl (Nat.le_of_ble_eq_true rfl) ?_
  intro p e s m below meth c ls A C hl hK hA hT hP hD hS
  have hl : lv_has ls 3 [(0, .ref (bT 0)), (1, .int x1), (2, .ref (gK G (x2).val))] := hl
  have hx := C.1.1
  have hb := C.1.2.1
  have hts := C.1.2.2.2.2
  have hown := C.1.2.2.2.1
  have hin7 : ∀ w ∈ wsX70, w ∈ wsx_X7_mayHold := fun w h => List.mem_cons_of_mem _ (List.mem_append_right _ (List.mem_append_right _ (List.mem_append_right _ (List.mem_append_left _ h))))
  unfold fx_X7_mayHold at hf
  refine lv_aload_n hx hb dX7_mayHold_0 rfl (lv_at hl 0 rfl) ?_
  refine lv_iload_n hx hb dX7_mayHold_1 rfl (lv_at hl 1 rfl) ?_
  obtain ⟨r_2, h_1, hf⟩ := og_b hf
  try dsimp only at hf
  refine xr_V (v := .int r_2) (rest := []) (w0 := (cT G bT uT)) C (cx_X7_has l G bT uT x1 r_2 _ h_1) (cwV 1 hts gx_X7_X7_has_63 rfl rfl rfl hdx_X7_has ⟨Nat.le_of_ble_eq_true rfl, Nat.le_of_ble_eq_true rfl⟩) hK hA hT hP hD hS (va_recv hK hP (ci := 4) (q0 := 0) rfl rfl) [0, 1, 2, 3, 4, 5, 6, 7, 8, 9, 10, 11, 12] rfl rfl rfl hl.1 rfl (Nat.le_of_ble_eq_true rfl) dX7_mayHold_2 ?_
  refine lv_if_eq (tgt := 18) hx hb dX7_mayHold_5 (by decide) (fun c_3 => ?_) (fun c_3 => ?_)
  · replace hf := og_t c_3 hf
    refine lv_aload_n hx hb dX7_mayHold_18 rfl (lv_at hl 0 rfl) ?_
    refine xg (v := .int (gi uT 13)) (ci := 4) (K := RX7) (T := TX7) (N := 16) C hin7 hK hP 0 rfl rfl 13 (by decide) rfl (hts (Cond.fieldLink RX7 54 "SchematicText$Tree" "count" "I") (List.mem_cons_of_mem _ mx_101)) rfl dX7_mayHold_19 ?_
    refine lv_if_ne (tgt := 36) hx hb dX7_mayHold_22 (by decide) (fun c_4 => ?_) (fun c_4 => ?_)
    · replace hf := og_f c_4 hf
      refine lv_iconst (v := (0 : Int32)) hx hb dX7_mayHold_36 (by decide) ?_
      obtain rfl := og_s hf
      exact rt_z C (nz_z (Or.inl rfl)) dX7_mayHold_37
    · replace hf := og_t c_4 hf
      refine lv_aload_n hx hb dX7_mayHold_25 rfl (lv_at hl 2 rfl) ?_
      refine xK (i := (0 : Fin 10)) C hT hS (hts (Cond.fieldLink RX7 80 "SchematicText$Kind" "DESIGN" "LSchematicText$Kind;") (List.mem_cons_of_mem _ mx_102)) dX7_mayHold_26 ?_
      refine xa_ne (i := x2) (j := (0 : Fin 10)) (tgt := 36) C hT dX7_mayHold_29 (by decide) (fun c_5 => ?_) (fun c_5 => ?_)
      · replace hf := og_f c_5 hf
        refine lv_iconst (v := (0 : Int32)) hx hb dX7_mayHold_36 (by decide) ?_
        obtain rfl := og_s hf
        exact rt_z C (nz_z (Or.inl rfl)) dX7_mayHold_37
      · replace hf := og_t c_5 hf
        refine lv_iconst (v := (1 : Int32)) hx hb dX7_mayHold_32 (by decide) ?_
        refine lv_goto (tgt := 37) hx hb dX7_mayHold_33 (by decide) ?_
        obtain rfl := og_s hf
        exact rt_z C (nz_z (Or.inr rfl)) dX7_mayHold_37
  · replace hf := og_f c_3 hf
    refine lv_aload_n hx hb dX7_mayHold_8 rfl (lv_at hl 2 rfl) ?_
    refine lv_aload_n hx hb dX7_mayHold_9 rfl (lv_at hl 0 rfl) ?_
    refine lv_iload_n hx hb dX7_mayHold_10 rfl (lv_at hl 1 rfl) ?_
    obtain ⟨r_7, h_6, hf⟩ := og_b hf
    try dsimp only at hf
    refine xr_V (v := .ref (gK G (r_7).val)) (rest := [.ref (gK G (x2).val)]) (w0 := (cT G bT uT)) C (cx_X7_kindOf l G bT uT x1 r_7 _ h_6) (cwV 1 hts gx_X7_X7_kindOf_73 rfl rfl rfl hdx_X7_kindOf ⟨Nat.le_of_ble_eq_true rfl, Nat.le_of_ble_eq_true rfl⟩) hK hA hT hP hD hS (va_recv hK hP (ci := 4) (q0 := 0) rfl rfl) [0, 1, 2, 3, 4, 5, 6, 7, 8, 9, 10, 11, 12] rfl rfl rfl hl.1 rfl (Nat.le_of_ble_eq_true rfl) dX7_mayHold_11 ?_
    obtain ⟨r_9, h_8, hf⟩ := og_b hf
    try dsimp only at hf
    refine xr_V (v := .int r_9) (rest := []) (w0 := ([])) C (cx_X2_mayBeIn l G x2 r_7 r_9 _ h_8) (cwV 1 hts gx_X7_X2_mayBeIn_76 rfl rfl rfl hdx_X2_mayBeIn ⟨Nat.le_of_ble_eq_true rfl, Nat.le_of_ble_eq_true rfl⟩) hK hA hT hP hD hS (va_recvE hT.1.2.2.2.2.1 (x2).isLt hS) [] rfl rfl rfl hl.1 rfl (Nat.le_of_ble_eq_true rfl) dX7_mayHold_14 ?_
    obtain ⟨h_10, hf⟩ := og_p hf
    obtain rfl := og_s hf
    exact rt_z C (nz_z h_10) dX7_mayHold_17
abbrev rmx_X7_hang : Room := { frames := 1, cells := 0, slots := 0, locals := 21 }
noncomputable abbrev wsx_X7_hang : List Cond := Cond.code yX7_hang cX7_hang 4 none :: WAX
theorem hdx_X7_hang : yX7_hang.cls = RX7 ∧ yX7_hang.cls ≠ "java/lang/invoke/MethodHandle" ∧ yX7_hang.cls ≠ "java/lang/invoke/VarHandle" ∧ (parseMethodDescriptor yX7_hang.desc).map (fun d => d.parameters.length) = some 2 := by decide +kernel
def fx_X7_hang_49 (uT : Md) (x1 : Int32) (x2 : Int32) : Option Md := (if x2 < 0 ∨ 200 ≤ (x2).toNatClampNeg then none else (some (sa uT 4 (upd (ga uT 4) (x2).toNatClampNeg x1))))
set_option maxHeartbeats 4000000 in
set_option maxRecDepth 100000 in
theorem wx_X7_hang_49 {p : Program} {l : Launch} {e : Env} {s : State} {m : MethodId} {args : Array Value} {below : List Frame} {meth : Method} {c : Code} {G : Gx} {A : Nat → Prop} {bT : Nat → Nat} (C : Cx p s m args meth c cX7_hang 4 wsx_X7_hang RX7 none) (hK : va_K (gD G) vwCl (tyG G) s) (hA : ∀ q : Nat, s.heap.size ≤ q → A q) (hT : ST G A s s.heap) {r : Md} : ∀ (uT : Md) (x1 : Int32) (x2 : Int32), fx_X7_hang_49 uT x1 x2 = some r → ∀ {H : Heap} {locs : List Loc}, va_P (gD G) vwCl (cT G bT uT) H → va_D A (cT G bT uT) → va_S A s.heap H locs → ∀ {ls : Array Slot}, lv_has ls 4 [(0, .ref (bT 0)), (1, .int x1), (2, .int x2)] → W p l e rmx_X7_hang s m args below meth c H locs 0 0 (MQ below (qW none (cT G bT r) (gD G) (tyG G) A) args s 0 0 A) (F0 m 49 ls []) := by
  have hx := C.1.1
  have hb := C.1.2.1
  have hts := C.1.2.2.2.2
  have hown := C.1.2.2.2.1
  have hin7 : ∀ w ∈ wsX70, w ∈ wsx_X7_hang := fun w h => List.mem_cons_of_mem _ (List.mem_append_right _ (List.mem_append_right _ (List.mem_append_right _ (List.mem_append_left _ h))))
  intro uT x1 x2 hf H locs hP hD hS ls hl
  unfold fx_X7_hang_49 at hf
  refine lv_aload_n hx hb dX7_hang_49 rfl (lv_at hl 0 rfl) ?_
  refine xg (v := .ref (bT 5)) (ci := 4) (K := RX7) (T := TX7) (N := 16) C hin7 hK hP 0 rfl rfl 4 (by decide) rfl (hts (Cond.fieldLink RX7 24 "SchematicText$Tree" "lasts" "[I") (List.mem_cons_of_mem _ mx_136)) rfl dX7_hang_50 ?_
  refine lv_iload_n hx hb dX7_hang_53 rfl (lv_at hl 2 rfl) ?_
  refine lv_iload_n hx hb dX7_hang_54 rfl (lv_at hl 1 rfl) ?_
  obtain ⟨h_13, hf⟩ := og_n hf
  refine xsi (f := (ga uT 4)) (w' := (cT G bT (sa uT 4 (upd (ga uT 4) (x2).toNatClampNeg x1)))) C hK hP hD hS 5 rfl h_13 dX7_hang_55 hw_T_T_a4 (fun H locs hP hD hS => ?_)
  obtain rfl := og_s hf
  exact rw_v C hK hP hD hS dX7_hang_56
def fx_X7_hang (uT : Md) (x1 : Int32) (x2 : Int32) : Option Md := ((fx_X7_has uT x1).bind fun r_2 => (if r_2 = 0 then (some uT) else ((fx_X7_has uT x2).bind fun r_5 => (if r_5 = 0 then (some uT) else (if x2 < 0 ∨ 200 ≤ (x2).toNatClampNeg then none else ((fx_X7_has uT ((ga uT 4) (x2).toNatClampNeg)).bind fun r_9 => (if r_9 = 0 then (if x2 < 0 ∨ 200 ≤ (x2).toNatClampNeg then none else (fx_X7_hang_49 (sa uT 3 (upd (ga uT 3) (x2).toNatClampNeg x1)) x1 x2)) else (if ((ga uT 4) (x2).toNatClampNeg) < 0 ∨ 200 ≤ (((ga uT 4) (x2).toNatClampNeg)).toNatClampNeg then none else (fx_X7_hang_49 (sa uT 5 (upd (ga uT 5) (((ga uT 4) (x2).toNatClampNeg)).toNatClampNeg x1)) x1 x2)))))))))
set_option maxHeartbeats 4000000 in
set_option maxRecDepth 100000 in
theorem cx_X7_hang (l : Launch) (G : Gx) (bT : Nat → Nat) (uT : Md) (x1 : Int32) (x2 : Int32)  (vT : Md) (sz : Nat) (hf : fx_X7_hang uT x1 x2 = some vT) : Met l yX7_hang wsx_X7_hang rmx_X7_hang (pX G (cT G bT uT) sz [.ref (bT 0), .int x1, .int x2]) (qW none (cT G bT vT) (gD G) (tyG G) (va_A (cT G bT uT) sz)) 0 0 (va_A (cT G bT uT) sz) := by
  refine mx_w (cc := cX7_hang) (maxL := 4) (ret := none) (by decide) rfl (Nat.le_of_ble_eq_true rfl) ?_
  intro p e s m below meth c ls A C hl hK hA hT hP hD hS
  have hl : lv_has ls 4 [(0, .ref (bT 0)), (1, .int x1), (2, .int x2)] := hl
  have hx := C.1.1
  have hb := C.1.2.1
  have hts := C.1.2.2.2.2
  have hown := C.1.2.2.2.1
  have hin7 : ∀ w ∈ wsX70, w ∈ wsx_X7_hang := fun w h => List.mem_cons_of_mem _ (List.mem_append_right _ (List.mem_append_right _ (List.mem_append_right _ (List.mem_append_left _ h))))
  unfold fx_X7_hang at hf
  refine lv_aload_n hx hb dX7_hang_0 rfl (lv_at hl 0 rfl) ?_
  refine lv_iload_n hx hb dX7_hang_1 rfl (lv_at hl 1 rfl) ?_
  obtain ⟨r_2, h_1, hf⟩ := og_b hf
  try dsimp only at hf
  refine xr_V (v := .int r_2) (rest := []) (w0 := (cT G bT uT)) C (cx_X7_has l G bT uT x1 r_2 _ h_1) (cwV 1 hts gx_X7_X7_has_63 rfl rfl rfl hdx_X7_has ⟨Nat.le_of_ble_eq_true rfl, Nat.le_of_ble_eq_true rfl⟩) hK hA hT hP hD hS (va_recv hK hP (ci := 4) (q0 := 0) rfl rfl) [0, 1, 2, 3, 4, 5, 6, 7, 8, 9, 10, 11, 12] rfl rfl rfl hl.1 rfl (Nat.le_of_ble_eq_true rfl) dX7_hang_2 ?_
  refine lv_if_eq (tgt := 16) hx hb dX7_hang_5 (by decide) (fun c_3 => ?_) (fun c_3 => ?_)
  · replace hf := og_t c_3 hf
    obtain rfl := og_s hf
    exact rw_v C hK hP hD hS dX7_hang_16
  · replace hf := og_f c_3 hf
    refine lv_aload_n hx hb dX7_hang_8 rfl (lv_at hl 0 rfl) ?_
    refine lv_iload_n hx hb dX7_hang_9 rfl (lv_at hl 2 rfl) ?_
    obtain ⟨r_5, h_4, hf⟩ := og_b hf
    try dsimp only at hf
    refine xr_V (v := .int r_5) (rest := []) (w0 := (cT G bT uT)) C (cx_X7_has l G bT uT x2 r_5 _ h_4) (cwV 1 hts gx_X7_X7_has_63 rfl rfl rfl hdx_X7_has ⟨Nat.le_of_ble_eq_true rfl, Nat.le_of_ble_eq_true rfl⟩) hK hA hT hP hD hS (va_recv hK hP (ci := 4) (q0 := 0) rfl rfl) [0, 1, 2, 3, 4, 5, 6, 7, 8, 9, 10, 11, 12] rfl rfl rfl hl.1 rfl (Nat.le_of_ble_eq_true rfl) dX7_hang_10 ?_
    refine lv_if_ne (tgt := 17) hx hb dX7_hang_13 (by decide) (fun c_6 => ?_) (fun c_6 => ?_)
    · replace hf := og_f c_6 hf
      refine lv_aload_n hx hb dX7_hang_17 rfl (lv_at hl 0 rfl) ?_
      refine xg (v := .ref (bT 5)) (ci := 4) (K := RX7) (T := TX7) (N := 16) C hin7 hK hP 0 rfl rfl 4 (by decide) rfl (hts (Cond.fieldLink RX7 24 "SchematicText$Tree" "lasts" "[I") (List.mem_cons_of_mem _ mx_136)) rfl dX7_hang_18 ?_
      refine lv_iload_n hx hb dX7_hang_21 rfl (lv_at hl 2 rfl) ?_
      obtain ⟨h_7, hf⟩ := og_n hf
      refine va_iald (f := (ga uT 4)) hx hb hK hP 5 0 rfl rfl h_7 dX7_hang_22 ?_
      refine lv_istore_n (lv' := [(3, .int ((ga uT 4) (x2).toNatClampNeg)), (0, .ref (bT 0)), (1, .int x1), (2, .int x2)]) hx hb dX7_hang_23 rfl hl (by decide) rfl (fun ls hl => ?_)
      refine lv_aload_n hx hb dX7_hang_24 rfl (lv_at hl 1 rfl) ?_
      refine lv_iload_n hx hb dX7_hang_25 rfl (lv_at hl 0 rfl) ?_
      obtain ⟨r_9, h_8, hf⟩ := og_b hf
      try dsimp only at hf
      refine xr_V (v := .int r_9) (rest := []) (w0 := (cT G bT uT)) C (cx_X7_has l G bT uT ((ga uT 4) (x2).toNatClampNeg) r_9 _ h_8) (cwV 1 hts gx_X7_X7_has_63 rfl rfl rfl hdx_X7_has ⟨Nat.le_of_ble_eq_true rfl, Nat.le_of_ble_eq_true rfl⟩) hK hA hT hP hD hS (va_recv hK hP (ci := 4) (q0 := 0) rfl rfl) [0, 1, 2, 3, 4, 5, 6, 7, 8, 9, 10, 11, 12] rfl rfl rfl hl.1 rfl (Nat.le_of_ble_eq_true rfl) dX7_hang_26 ?_
      refine lv_if_eq (tgt := 42) hx hb dX7_hang_29 (by decide) (fun c_10 => ?_) (fun c_10 => ?_)
      · replace hf := og_t c_10 hf
        refine lv_aload_n hx hb dX7_hang_42 rfl (lv_at hl 1 rfl) ?_
        refine xg (v := .ref (bT 4)) (ci := 4) (K := RX7) (T := TX7) (N := 16) C hin7 hK hP 0 rfl rfl 3 (by decide) rfl (hts (Cond.fieldLink RX7 21 "SchematicText$Tree" "firsts" "[I") (List.mem_cons_of_mem _ mx_135)) rfl dX7_hang_43 ?_
        refine lv_iload_n hx hb dX7_hang_46 rfl (lv_at hl 3 rfl) ?_
        refine lv_iload_n hx hb dX7_hang_47 rfl (lv_at hl 2 rfl) ?_
        obtain ⟨h_11, hf⟩ := og_n hf
        refine xsi (f := (ga uT 3)) (w' := (cT G bT (sa uT 3 (upd (ga uT 3) (x2).toNatClampNeg x1)))) C hK hP hD hS 4 rfl h_11 dX7_hang_48 hw_T_T_a3 (fun H locs hP hD hS => ?_)
        exact wx_X7_hang_49 C hK hA hT (sa uT 3 (upd (ga uT 3) (x2).toNatClampNeg x1)) x1 x2 hf hP hD hS (lv_sub hl [1, 2, 3] rfl)
      · replace hf := og_f c_10 hf
        refine lv_aload_n hx hb dX7_hang_32 rfl (lv_at hl 1 rfl) ?_
        refine xg (v := .ref (bT 6)) (ci := 4) (K := RX7) (T := TX7) (N := 16) C hin7 hK hP 0 rfl rfl 5 (by decide) rfl (hts (Cond.fieldLink RX7 27 "SchematicText$Tree" "nexts" "[I") (List.mem_cons_of_mem _ mx_137)) rfl dX7_hang_33 ?_
        refine lv_iload_n hx hb dX7_hang_36 rfl (lv_at hl 0 rfl) ?_
        refine lv_iload_n hx hb dX7_hang_37 rfl (lv_at hl 2 rfl) ?_
        obtain ⟨h_12, hf⟩ := og_n hf
        refine xsi (f := (ga uT 5)) (w' := (cT G bT (sa uT 5 (upd (ga uT 5) (((ga uT 4) (x2).toNatClampNeg)).toNatClampNeg x1)))) C hK hP hD hS 6 rfl h_12 dX7_hang_38 hw_T_T_a5 (fun H locs hP hD hS => ?_)
        refine lv_goto (tgt := 49) hx hb dX7_hang_39 (by decide) ?_
        exact wx_X7_hang_49 C hK hA hT (sa uT 5 (upd (ga uT 5) (((ga uT 4) (x2).toNatClampNeg)).toNatClampNeg x1)) x1 x2 hf hP hD hS (lv_sub hl [1, 2, 3] rfl)
    · replace hf := og_t c_6 hf
      obtain rfl := og_s hf
      exact rw_v C hK hP hD hS dX7_hang_16
abbrev rmx_X7_hasNumber : Room := { frames := 0, cells := 0, slots := 0, locals := 0 }
noncomputable abbrev wsx_X7_hasNumber : List Cond := Cond.code yX7_hasNumber cX7_hasNumber 3 (some .boolean) :: WAX
theorem hdx_X7_hasNumber : yX7_hasNumber.cls = RX7 ∧ yX7_hasNumber.cls ≠ "java/lang/invoke/MethodHandle" ∧ yX7_hasNumber.cls ≠ "java/lang/invoke/VarHandle" ∧ (parseMethodDescriptor yX7_hasNumber.desc).map (fun d => d.parameters.length) = some 2 := by decide +kernel
def fx_X7_hasNumber (uT : Md) (x1 : Int32) (x2 : Int32) : Option Int32 := (if x1 < 0 then (some (0 : Int32)) else (if (gi uT 13) ≤ x1 then (some (0 : Int32)) else (if x2 < 0 then (some (0 : Int32)) else (if (5 : Int32) ≤ x2 then (some (0 : Int32)) else (some (1 : Int32))))))
set_option maxHeartbeats 4000000 in
set_option maxRecDepth 100000 in
theorem cx_X7_hasNumber (l : Launch) (G : Gx) (bT : Nat → Nat) (uT : Md) (x1 : Int32) (x2 : Int32) (r : Int32) (sz : Nat) (hf : fx_X7_hasNumber uT x1 x2 = some r) : Met l yX7_hasNumber wsx_X7_hasNumber rmx_X7_hasNumber (pX G (cT G bT uT) sz [.ref (bT 0), .int x1, .int x2]) (k2_QcV (.int r)) 0 0 (fun _ => False) := by
  refine mx_r (cc := cX7_hasNumber) (maxL := 3) (ret := (some .boolean)) (by decide) rfl (Nat.le_of_ble_eq_true rfl) ?_
  intro p e s m below meth c ls A C hl hK hA hT hP hD hS
  have hl : lv_has ls 3 [(0, .ref (bT 0)), (1, .int x1), (2, .int x2)] := hl
  have hx := C.1.1
  have hb := C.1.2.1
  have hts := C.1.2.2.2.2
  have hown := C.1.2.2.2.1
  have hin7 : ∀ w ∈ wsX70, w ∈ wsx_X7_hasNumber := fun w h => List.mem_cons_of_mem _ (List.mem_append_right _ (List.mem_append_right _ (List.mem_append_right _ (List.mem_append_left _ h))))
  unfold fx_X7_hasNumber at hf
  refine lv_iload_n hx hb dX7_hasNumber_0 rfl (lv_at hl 1 rfl) ?_
  refine lv_if_lt (tgt := 25) hx hb dX7_hasNumber_1 (by decide) (fun c_1 => ?_) (fun c_1 => ?_)
  · replace hf := og_t c_1 hf
    refine lv_iconst (v := (0 : Int32)) hx hb dX7_hasNumber_25 (by decide) ?_
    obtain rfl := og_s hf
    exact rt_z C (nz_z (Or.inl rfl)) dX7_hasNumber_26
  · replace hf := og_f c_1 hf
    refine lv_iload_n hx hb dX7_hasNumber_4 rfl (lv_at hl 1 rfl) ?_
    refine lv_aload_n hx hb dX7_hasNumber_5 rfl (lv_at hl 0 rfl) ?_
    refine xg (v := .int (gi uT 13)) (ci := 4) (K := RX7) (T := TX7) (N := 16) C hin7 hK hP 0 rfl rfl 13 (by decide) rfl (hts (Cond.fieldLink RX7 54 "SchematicText$Tree" "count" "I") (List.mem_cons_of_mem _ mx_101)) rfl dX7_hasNumber_6 ?_
    refine lv_icmp_ge (tgt := 25) hx hb dX7_hasNumber_9 (by decide) (fun c_2 => ?_) (fun c_2 => ?_)
    · replace hf := og_t c_2 hf
      refine lv_iconst (v := (0 : Int32)) hx hb dX7_hasNumber_25 (by decide) ?_
      obtain rfl := og_s hf
      exact rt_z C (nz_z (Or.inl rfl)) dX7_hasNumber_26
    · replace hf := og_f c_2 hf
      refine lv_iload_n hx hb dX7_hasNumber_12 rfl (lv_at hl 2 rfl) ?_
      refine lv_if_lt (tgt := 25) hx hb dX7_hasNumber_13 (by decide) (fun c_3 => ?_) (fun c_3 => ?_)
      · replace hf := og_t c_3 hf
        refine lv_iconst (v := (0 : Int32)) hx hb dX7_hasNumber_25 (by decide) ?_
        obtain rfl := og_s hf
        exact rt_z C (nz_z (Or.inl rfl)) dX7_hasNumber_26
      · replace hf := og_f c_3 hf
        refine lv_iload_n hx hb dX7_hasNumber_16 rfl (lv_at hl 2 rfl) ?_
        refine lv_iconst (v := (5 : Int32)) hx hb dX7_hasNumber_17 (by decide) ?_
        refine lv_icmp_ge (tgt := 25) hx hb dX7_hasNumber_18 (by decide) (fun c_4 => ?_) (fun c_4 => ?_)
        · replace hf := og_t c_4 hf
          refine lv_iconst (v := (0 : Int32)) hx hb dX7_hasNumber_25 (by decide) ?_
          obtain rfl := og_s hf
          exact rt_z C (nz_z (Or.inl rfl)) dX7_hasNumber_26
        · replace hf := og_f c_4 hf
          refine lv_iconst (v := (1 : Int32)) hx hb dX7_hasNumber_21 (by decide) ?_
          refine lv_goto (tgt := 26) hx hb dX7_hasNumber_22 (by decide) ?_
          obtain rfl := og_s hf
          exact rt_z C (nz_z (Or.inr rfl)) dX7_hasNumber_26
theorem gx_X7_X7_hasNumber_130 {c0 : Cond} : GoodIn (c0 :: WAX) (wsV RX7 130 RX7 yX7_hasNumber wsx_X7_hasNumber) := gdx_v mx_174 mx_175 mx_176 mx_99 mx_177
abbrev rmx_X7_putNumber : Room := { frames := 1, cells := 0, slots := 0, locals := 22 }
noncomputable abbrev wsx_X7_putNumber : List Cond := Cond.code yX7_putNumber cX7_putNumber 5 none :: WAX
theorem hdx_X7_putNumber : yX7_putNumber.cls = RX7 ∧ yX7_putNumber.cls ≠ "java/lang/invoke/MethodHandle" ∧ yX7_putNumber.cls ≠ "java/lang/invoke/VarHandle" ∧ (parseMethodDescriptor yX7_putNumber.desc).map (fun d => d.parameters.length) = some 3 := by decide +kernel
def fx_X7_putNumber (uT : Md) (x1 : Int32) (x2 : Int32) (x3 : Int64) : Option Md := ((fx_X7_hasNumber uT x1 x2).bind fun r_2 => (if r_2 = 0 then (some uT) else (if ((x1 * (5 : Int32)) + x2) < 0 ∨ 1000 ≤ (((x1 * (5 : Int32)) + x2)).toNatClampNeg then none else (some (sn uT (vp_updL (gn uT) (((x1 * (5 : Int32)) + x2)).toNatClampNeg x3))))))
set_option maxHeartbeats 4000000 in
set_option maxRecDepth 100000 in
theorem cx_X7_putNumber (l : Launch) (G : Gx) (bT : Nat → Nat) (uT : Md) (x1 : Int32) (x2 : Int32) (x3 : Int64)  (vT : Md) (sz : Nat) (hf : fx_X7_putNumber uT x1 x2 x3 = some vT) : Met l yX7_putNumber wsx_X7_putNumber rmx_X7_putNumber (pX G (cT G bT uT) sz [.ref (bT 0), .int x1, .int x2, .long x3]) (qW none (cT G bT vT) (gD G) (tyG G) (va_A (cT G bT uT) sz)) 0 0 (va_A (cT G bT uT) sz) := by
  refine mx_w (cc := cX7_putNumber) (maxL := 5) (ret := none) (by decide) rfl (Nat.le_of_ble_eq_true rfl) ?_
  intro p e s m below meth c ls A C hl hK hA hT hP hD hS
  have hl : lv_has ls 5 [(0, .ref (bT 0)), (1, .int x1), (2, .int x2), (3, .long x3)] := hl
  have hx := C.1.1
  have hb := C.1.2.1
  have hts := C.1.2.2.2.2
  have hown := C.1.2.2.2.1
  have hin7 : ∀ w ∈ wsX70, w ∈ wsx_X7_putNumber := fun w h => List.mem_cons_of_mem _ (List.mem_append_right _ (List.mem_append_right _ (List.mem_append_right _ (List.mem_append_left _ h))))
  unfold fx_X7_putNumber at hf
  refine lv_aload_n hx hb dX7_putNumber_0 rfl (lv_at hl 0 rfl) ?_
  refine lv_iload_n hx hb dX7_putNumber_1 rfl (lv_at hl 1 rfl) ?_
  refine lv_iload_n hx hb dX7_putNumber_2 rfl (lv_at hl 2 rfl) ?_
  obtain ⟨r_2, h_1, hf⟩ := og_b hf
  try dsimp only at hf
  refine xr_V (v := .int r_2) (rest := []) (w0 := (cT G bT uT)) C (cx_X7_hasNumber l G bT uT x1 x2 r_2 _ h_1) (cwV 2 hts gx_X7_X7_hasNumber_130 rfl rfl rfl hdx_X7_hasNumber ⟨Nat.le_of_ble_eq_true rfl, Nat.le_of_ble_eq_true rfl⟩) hK hA hT hP hD hS (va_recv hK hP (ci := 4) (q0 := 0) rfl rfl) [0, 1, 2, 3, 4, 5, 6, 7, 8, 9, 10, 11, 12] rfl rfl rfl hl.1 rfl (Nat.le_of_ble_eq_true rfl) dX7_putNumber_3 ?_
  refine lv_if_eq (tgt := 20) hx hb dX7_putNumber_6 (by decide) (fun c_3 => ?_) (fun c_3 => ?_)
  · replace hf := og_t c_3 hf
    obtain rfl := og_s hf
    exact rw_v C hK hP hD hS dX7_putNumber_20
  · replace hf := og_f c_3 hf
    refine lv_aload_n hx hb dX7_putNumber_9 rfl (lv_at hl 0 rfl) ?_
    refine xg (v := .ref (bT 7)) (ci := 4) (K := RX7) (T := TX7) (N := 16) C hin7 hK hP 0 rfl rfl 6 (by decide) rfl (hts (Cond.fieldLink RX7 30 "SchematicText$Tree" "numbers" "[J") (List.mem_cons_of_mem _ mx_173)) rfl dX7_putNumber_10 ?_
    refine lv_iload_n hx hb dX7_putNumber_13 rfl (lv_at hl 1 rfl) ?_
    refine lv_iconst (v := (5 : Int32)) hx hb dX7_putNumber_14 (by decide) ?_
    refine lv_imul hx hb dX7_putNumber_15 ?_
    refine lv_iload_n hx hb dX7_putNumber_16 rfl (lv_at hl 2 rfl) ?_
    refine lv_iadd hx hb dX7_putNumber_17 ?_
    refine lv_lload_n hx hb dX7_putNumber_18 rfl (lv_at hl 3 rfl) ?_
    obtain ⟨h_4, hf⟩ := og_n hf
    refine xsl (f := (gn uT)) (w' := (cT G bT (sn uT (vp_updL (gn uT) (((x1 * (5 : Int32)) + x2)).toNatClampNeg x3)))) C hK hP hD hS 7 rfl h_4 dX7_putNumber_19 hw_T_T_a6 (fun H locs hP hD hS => ?_)
    obtain rfl := og_s hf
    exact rw_v C hK hP hD hS dX7_putNumber_20
abbrev rmx_X7_emptyText : Room := { frames := 1, cells := 0, slots := 0, locals := 22 }
noncomputable abbrev wsx_X7_emptyText : List Cond := Cond.code yX7_emptyText cX7_emptyText 3 none :: WAX
theorem hdx_X7_emptyText : yX7_emptyText.cls = RX7 ∧ yX7_emptyText.cls ≠ "java/lang/invoke/MethodHandle" ∧ yX7_emptyText.cls ≠ "java/lang/invoke/VarHandle" ∧ (parseMethodDescriptor yX7_emptyText.desc).map (fun d => d.parameters.length) = some 2 := by decide +kernel
def fx_X7_emptyText (uT : Md) (x1 : Int32) (x2 : Int32) : Option Md := ((fx_X7_hasText uT x1 x2).bind fun r_2 => (if r_2 = 0 then (some uT) else (if ((x1 * (2 : Int32)) + x2) < 0 ∨ 400 ≤ (((x1 * (2 : Int32)) + x2)).toNatClampNeg then none else (some (sa uT 7 (upd (ga uT 7) (((x1 * (2 : Int32)) + x2)).toNatClampNeg (0 : Int32)))))))
set_option maxHeartbeats 4000000 in
set_option maxRecDepth 100000 in
theorem cx_X7_emptyText (l : Launch) (G : Gx) (bT : Nat → Nat) (uT : Md) (x1 : Int32) (x2 : Int32)  (vT : Md) (sz : Nat) (hf : fx_X7_emptyText uT x1 x2 = some vT) : Met l yX7_emptyText wsx_X7_emptyText rmx_X7_emptyText (pX G (cT G bT uT) sz [.ref (bT 0), .int x1, .int x2]) (qW none (cT G bT vT) (gD G) (tyG G) (va_A (cT G bT uT) sz)) 0 0 (va_A (cT G bT uT) sz) := by
  refine mx_w (cc := cX7_emptyText) (maxL := 3) (ret := none) (by decide) rfl (Nat.le_of_ble_eq_true rfl) ?_
  intro p e s m below meth c ls A C hl hK hA hT hP hD hS
  have hl : lv_has ls 3 [(0, .ref (bT 0)), (1, .int x1), (2, .int x2)] := hl
  have hx := C.1.1
  have hb := C.1.2.1
  have hts := C.1.2.2.2.2
  have hown := C.1.2.2.2.1
  have hin7 : ∀ w ∈ wsX70, w ∈ wsx_X7_emptyText := fun w h => List.mem_cons_of_mem _ (List.mem_append_right _ (List.mem_append_right _ (List.mem_append_right _ (List.mem_append_left _ h))))
  unfold fx_X7_emptyText at hf
  refine lv_aload_n hx hb dX7_emptyText_0 rfl (lv_at hl 0 rfl) ?_
  refine lv_iload_n hx hb dX7_emptyText_1 rfl (lv_at hl 1 rfl) ?_
  refine lv_iload_n hx hb dX7_emptyText_2 rfl (lv_at hl 2 rfl) ?_
  obtain ⟨r_2, h_1, hf⟩ := og_b hf
  try dsimp only at hf
  refine xr_V (v := .int r_2) (rest := []) (w0 := (cT G bT uT)) C (cx_X7_hasText l G bT uT x1 x2 r_2 _ h_1) (cwV 2 hts gx_X7_X7_hasText_134 rfl rfl rfl hdx_X7_hasText ⟨Nat.le_of_ble_eq_true rfl, Nat.le_of_ble_eq_true rfl⟩) hK hA hT hP hD hS (va_recv hK hP (ci := 4) (q0 := 0) rfl rfl) [0, 1, 2, 3, 4, 5, 6, 7, 8, 9, 10, 11, 12] rfl rfl rfl hl.1 rfl (Nat.le_of_ble_eq_true rfl) dX7_emptyText_3 ?_
  refine lv_if_eq (tgt := 20) hx hb dX7_emptyText_6 (by decide) (fun c_3 => ?_) (fun c_3 => ?_)
  · replace hf := og_t c_3 hf
    obtain rfl := og_s hf
    exact rw_v C hK hP hD hS dX7_emptyText_20
  · replace hf := og_f c_3 hf
    refine lv_aload_n hx hb dX7_emptyText_9 rfl (lv_at hl 0 rfl) ?_
    refine xg (v := .ref (bT 8)) (ci := 4) (K := RX7) (T := TX7) (N := 16) C hin7 hK hP 0 rfl rfl 7 (by decide) rfl (hts (Cond.fieldLink RX7 34 "SchematicText$Tree" "textSizes" "[I") (List.mem_cons_of_mem _ mx_182)) rfl dX7_emptyText_10 ?_
    refine lv_iload_n hx hb dX7_emptyText_13 rfl (lv_at hl 1 rfl) ?_
    refine lv_iconst (v := (2 : Int32)) hx hb dX7_emptyText_14 (by decide) ?_
    refine lv_imul hx hb dX7_emptyText_15 ?_
    refine lv_iload_n hx hb dX7_emptyText_16 rfl (lv_at hl 2 rfl) ?_
    refine lv_iadd hx hb dX7_emptyText_17 ?_
    refine lv_iconst (v := (0 : Int32)) hx hb dX7_emptyText_18 (by decide) ?_
    obtain ⟨h_4, hf⟩ := og_n hf
    refine xsi (f := (ga uT 7)) (w' := (cT G bT (sa uT 7 (upd (ga uT 7) (((x1 * (2 : Int32)) + x2)).toNatClampNeg (0 : Int32))))) C hK hP hD hS 8 rfl h_4 dX7_emptyText_19 hw_T_T_a7 (fun H locs hP hD hS => ?_)
    obtain rfl := og_s hf
    exact rw_v C hK hP hD hS dX7_emptyText_20
theorem gx_X7_X2_fields_105 {c0 : Cond} : GoodIn (c0 :: WAX) (wsV RX7 105 RX2 yX2_fields wsx_X2_fields) := gdx_v mx_152 mx_153 mx_154 mx_114 mx_155
theorem gx_X7_X2_fieldAt_109 {c0 : Cond} : GoodIn (c0 :: WAX) (wsV RX7 109 RX2 yX2_fieldAt wsx_X2_fieldAt) := gdx_v mx_158 mx_159 mx_160 mx_114 mx_161
theorem gx_X7_X0_isText_113 {c0 : Cond} : GoodIn (c0 :: WAX) (wsV RX7 113 RX0 yX0_isText wsx_X0_isText) := gdx_v mx_166 mx_167 mx_168 mx_165 mx_8
theorem gx_X7_X7_putNumber_123 {c0 : Cond} : GoodIn (c0 :: WAX) (wsV RX7 123 RX7 yX7_putNumber wsx_X7_putNumber) := gdx_v mx_169 mx_170 mx_171 mx_99 mx_172
theorem gx_X7_X7_emptyText_127 {c0 : Cond} : GoodIn (c0 :: WAX) (wsV RX7 127 RX7 yX7_emptyText wsx_X7_emptyText) := gdx_v mx_178 mx_179 mx_180 mx_99 mx_181
abbrev rmx_X7_fillAsMade : Room := { frames := 5, cells := 0, slots := 0, locals := 106 }
noncomputable abbrev wsx_X7_fillAsMade : List Cond := Cond.code yX7_fillAsMade cX7_fillAsMade 6 none :: WAX
theorem hdx_X7_fillAsMade : yX7_fillAsMade.cls = RX7 ∧ yX7_fillAsMade.cls ≠ "java/lang/invoke/MethodHandle" ∧ yX7_fillAsMade.cls ≠ "java/lang/invoke/VarHandle" ∧ (parseMethodDescriptor yX7_fillAsMade.desc).map (fun d => d.parameters.length) = some 2 := by decide +kernel
def fx_X7_fillAsMade_44 (k5 : Md → Int32 → (Fin 10) → Int32 → Int32 → Option Md) (uT : Md) (x1 : Int32) (x2 : (Fin 10)) (x3 : Int32) (x4 : Int32) : Option Md := (k5 uT x1 x2 x3 (x4 + (1 : Int32)))
set_option maxHeartbeats 4000000 in
set_option maxRecDepth 100000 in
theorem wx_X7_fillAsMade_44 {p : Program} {l : Launch} {e : Env} {s : State} {m : MethodId} {args : Array Value} {below : List Frame} {meth : Method} {c : Code} {G : Gx} {A : Nat → Prop} {bT : Nat → Nat} (C : Cx p s m args meth c cX7_fillAsMade 6 wsx_X7_fillAsMade RX7 none) (hK : va_K (gD G) vwCl (tyG G) s) (hA : ∀ q : Nat, s.heap.size ≤ q → A q) (hT : ST G A s s.heap) {r : Md} (k5 : Md → Int32 → (Fin 10) → Int32 → Int32 → Option Md) (ih5 : ∀ (uT : Md) (x1 : Int32) (x2 : (Fin 10)) (x3 : Int32) (x4 : Int32), k5 uT x1 x2 x3 x4 = some r → ∀ {H : Heap} {locs : List Loc}, va_P (gD G) vwCl (cT G bT uT) H → va_D A (cT G bT uT) → va_S A s.heap H locs → ∀ {ls : Array Slot}, lv_has ls 6 [(0, .ref (bT 0)), (1, .int x1), (2, .ref (gK G (x2).val)), (3, .int x3), (4, .int x4)] → W p l e rmx_X7_fillAsMade s m args below meth c H locs 0 0 (MQ below (qW none (cT G bT r) (gD G) (tyG G) A) args s 0 0 A) (F0 m 5 ls [])) : ∀ (uT : Md) (x1 : Int32) (x2 : (Fin 10)) (x3 : Int32) (x4 : Int32), fx_X7_fillAsMade_44 k5 uT x1 x2 x3 x4 = some r → ∀ {H : Heap} {locs : List Loc}, va_P (gD G) vwCl (cT G bT uT) H → va_D A (cT G bT uT) → va_S A s.heap H locs → ∀ {ls : Array Slot}, lv_has ls 6 [(0, .ref (bT 0)), (1, .int x1), (2, .ref (gK G (x2).val)), (3, .int x3), (4, .int x4)] → W p l e rmx_X7_fillAsMade s m args below meth c H locs 0 0 (MQ below (qW none (cT G bT r) (gD G) (tyG G) A) args s 0 0 A) (F0 m 44 ls []) := by
  have hx := C.1.1
  have hb := C.1.2.1
  have hts := C.1.2.2.2.2
  have hown := C.1.2.2.2.1
  have hin7 : ∀ w ∈ wsX70, w ∈ wsx_X7_fillAsMade := fun w h => List.mem_cons_of_mem _ (List.mem_append_right _ (List.mem_append_right _ (List.mem_append_right _ (List.mem_append_left _ h))))
  intro uT x1 x2 x3 x4 hf H locs hP hD hS ls hl
  unfold fx_X7_fillAsMade_44 at hf
  refine lv_iinc (v := (x4 + (1 : Int32))) (lv' := [(4, .int (x4 + (1 : Int32))), (0, .ref (bT 0)), (1, .int x1), (2, .ref (gK G (x2).val)), (3, .int x3)]) hx hb dX7_fillAsMade_44 hl (k := 4) rfl rfl (by decide) rfl (fun ls hl => ?_)
  refine lv_goto (tgt := 5) hx hb dX7_fillAsMade_47 (by decide) ?_
  exact ih5 uT x1 x2 x3 (x4 + (1 : Int32)) hf hP hD hS (lv_sub hl [1, 2, 3, 4, 0] rfl)
def fx_X7_fillAsMade_53 : Nat → Md → Int32 → Int32 → Option Md
  | 0, _, _, _ => none
  | n + 1, uT, x1, x4 => (if (2 : Int32) ≤ x4 then (some uT) else ((fx_X7_emptyText uT x1 x4).bind fun u_13 => (fx_X7_fillAsMade_53 n u_13 x1 (x4 + (1 : Int32)))))
set_option maxHeartbeats 4000000 in
set_option maxRecDepth 100000 in
theorem wx_X7_fillAsMade_53 {p : Program} {l : Launch} {e : Env} {s : State} {m : MethodId} {args : Array Value} {below : List Frame} {meth : Method} {c : Code} {G : Gx} {A : Nat → Prop} {bT : Nat → Nat} (C : Cx p s m args meth c cX7_fillAsMade 6 wsx_X7_fillAsMade RX7 none) (hK : va_K (gD G) vwCl (tyG G) s) (hA : ∀ q : Nat, s.heap.size ≤ q → A q) (hT : ST G A s s.heap) {r : Md} : ∀ (n : Nat), ∀ (uT : Md) (x1 : Int32) (x4 : Int32), fx_X7_fillAsMade_53 n uT x1 x4 = some r → ∀ {H : Heap} {locs : List Loc}, va_P (gD G) vwCl (cT G bT uT) H → va_D A (cT G bT uT) → va_S A s.heap H locs → ∀ {ls : Array Slot}, lv_has ls 6 [(0, .ref (bT 0)), (1, .int x1), (4, .int x4)] → W p l e rmx_X7_fillAsMade s m args below meth c H locs 0 0 (MQ below (qW none (cT G bT r) (gD G) (tyG G) A) args s 0 0 A) (F0 m 53 ls []) := by
  have hx := C.1.1
  have hb := C.1.2.1
  have hts := C.1.2.2.2.2
  have hown := C.1.2.2.2.1
  have hin7 : ∀ w ∈ wsX70, w ∈ wsx_X7_fillAsMade := fun w h => List.mem_cons_of_mem _ (List.mem_append_right _ (List.mem_append_right _ (List.mem_append_right _ (List.mem_append_left _ h))))
  intro n
  induction n with
  | zero =>
    intro uT x1 x4 hf H locs hP hD hS ls hl
    cases hf
  | succ n ih =>
    intro uT x1 x4 hf H locs hP hD hS ls hl
    rw [fx_X7_fillAsMade_53] at hf
    refine lv_iload hx hb dX7_fillAsMade_53 (lv_at hl 2 rfl) ?_
    refine lv_iconst (v := (2 : Int32)) hx hb dX7_fillAsMade_55 (by decide) ?_
    refine lv_icmp_ge (tgt := 72) hx hb dX7_fillAsMade_56 (by decide) (fun c_11 => ?_) (fun c_11 => ?_)
    · replace hf := og_t c_11 hf
      obtain rfl := og_s hf
      exact rw_v C hK hP hD hS dX7_fillAsMade_72
    · replace hf := og_f c_11 hf
      refine lv_aload_n hx hb dX7_fillAsMade_59 rfl (lv_at hl 0 rfl) ?_
      refine lv_iload_n hx hb dX7_fillAsMade_60 rfl (lv_at hl 1 rfl) ?_
      refine lv_iload hx hb dX7_fillAsMade_61 (lv_at hl 2 rfl) ?_
      obtain ⟨u_13, h_12, hf⟩ := og_b hf
      try dsimp only at hf
      refine xw_V (ov := none) (st1 := []) (rest := []) (w0 := (cT G bT uT)) (w1 := (cT G bT u_13)) (wr := ([])) (w' := (cT G bT u_13)) C (cx_X7_emptyText l G bT uT x1 x4 u_13 _ h_12) (cwV 2 hts gx_X7_X7_emptyText_127 rfl rfl rfl hdx_X7_emptyText ⟨Nat.le_of_ble_eq_true rfl, Nat.le_of_ble_eq_true rfl⟩) hK hA hT hP hD hS (va_recv hK hP (ci := 4) (q0 := 0) rfl rfl) [0, 1, 2, 3, 4, 5, 6, 7, 8, 9, 10, 11, 12] [] [0, 1, 2, 3, 4, 5, 6, 7, 8, 9, 10, 11, 12] rfl rfl rfl rfl (by decide) rfl rfl rfl hl.1 rfl rfl (Nat.le_of_ble_eq_true rfl) dX7_fillAsMade_63 (fun H locs hP hD hS => ?_)
      refine lv_iinc (v := (x4 + (1 : Int32))) (lv' := [(4, .int (x4 + (1 : Int32))), (0, .ref (bT 0)), (1, .int x1)]) hx hb dX7_fillAsMade_66 hl (k := 2) rfl rfl (by decide) rfl (fun ls hl => ?_)
      refine lv_goto (tgt := 53) hx hb dX7_fillAsMade_69 (by decide) ?_
      exact ih u_13 x1 (x4 + (1 : Int32)) hf hP hD hS (lv_sub hl [1, 2, 0] rfl)
def fx_X7_fillAsMade_5 : Nat → Md → Int32 → (Fin 10) → Int32 → Int32 → Option Md
  | 0, _, _, _, _, _ => none
  | n + 1, uT, x1, x2, x3, x4 => ((fx_X2_fields x2).bind fun r_2 => (if r_2 ≤ x4 then (fx_X7_fillAsMade_53 FU uT x1 (0 : Int32)) else ((fx_X2_fieldAt x2 x4).bind fun r_5 => ((fx_X0_isText r_5).bind fun r_7 => (if r_7 = 0 then ((fx_X7_putNumber uT x1 x3 (fMade r_5)).bind fun u_10 => (fx_X7_fillAsMade_44 (fx_X7_fillAsMade_5 n) u_10 x1 x2 (x3 + (1 : Int32)) x4)) else (fx_X7_fillAsMade_44 (fx_X7_fillAsMade_5 n) uT x1 x2 x3 x4))))))
set_option maxHeartbeats 4000000 in
set_option maxRecDepth 100000 in
theorem wx_X7_fillAsMade_5 {p : Program} {l : Launch} {e : Env} {s : State} {m : MethodId} {args : Array Value} {below : List Frame} {meth : Method} {c : Code} {G : Gx} {A : Nat → Prop} {bT : Nat → Nat} (C : Cx p s m args meth c cX7_fillAsMade 6 wsx_X7_fillAsMade RX7 none) (hK : va_K (gD G) vwCl (tyG G) s) (hA : ∀ q : Nat, s.heap.size ≤ q → A q) (hT : ST G A s s.heap) {r : Md} : ∀ (n : Nat), ∀ (uT : Md) (x1 : Int32) (x2 : (Fin 10)) (x3 : Int32) (x4 : Int32), fx_X7_fillAsMade_5 n uT x1 x2 x3 x4 = some r → ∀ {H : Heap} {locs : List Loc}, va_P (gD G) vwCl (cT G bT uT) H → va_D A (cT G bT uT) → va_S A s.heap H locs → ∀ {ls : Array Slot}, lv_has ls 6 [(0, .ref (bT 0)), (1, .int x1), (2, .ref (gK G (x2).val)), (3, .int x3), (4, .int x4)] → W p l e rmx_X7_fillAsMade s m args below meth c H locs 0 0 (MQ below (qW none (cT G bT r) (gD G) (tyG G) A) args s 0 0 A) (F0 m 5 ls []) := by
  have hx := C.1.1
  have hb := C.1.2.1
  have hts := C.1.2.2.2.2
  have hown := C.1.2.2.2.1
  have hin7 : ∀ w ∈ wsX70, w ∈ wsx_X7_fillAsMade := fun w h => List.mem_cons_of_mem _ (List.mem_append_right _ (List.mem_append_right _ (List.mem_append_right _ (List.mem_append_left _ h))))
  intro n
  induction n with
  | zero =>
    intro uT x1 x2 x3 x4 hf H locs hP hD hS ls hl
    cases hf
  | succ n ih =>
    intro uT x1 x2 x3 x4 hf H locs hP hD hS ls hl
    rw [fx_X7_fillAsMade_5] at hf
    refine lv_iload hx hb dX7_fillAsMade_5 (lv_at hl 4 rfl) ?_
    refine lv_aload_n hx hb dX7_fillAsMade_7 rfl (lv_at hl 2 rfl) ?_
    obtain ⟨r_2, h_1, hf⟩ := og_b hf
    try dsimp only at hf
    refine xr_V (v := .int r_2) (rest := [.int x4]) (w0 := ([])) C (cx_X2_fields l G x2 r_2 _ h_1) (cwV 0 hts gx_X7_X2_fields_105 rfl rfl rfl hdx_X2_fields ⟨Nat.le_of_ble_eq_true rfl, Nat.le_of_ble_eq_true rfl⟩) hK hA hT hP hD hS (va_recvE hT.1.2.2.2.2.1 (x2).isLt hS) [] rfl rfl rfl hl.1 rfl (Nat.le_of_ble_eq_true rfl) dX7_fillAsMade_8 ?_
    refine lv_icmp_ge (tgt := 50) hx hb dX7_fillAsMade_11 (by decide) (fun c_3 => ?_) (fun c_3 => ?_)
    · replace hf := og_t c_3 hf
      refine lv_iconst (v := (0 : Int32)) hx hb dX7_fillAsMade_50 (by decide) ?_
      refine lv_istore (lv' := [(4, .int (0 : Int32)), (0, .ref (bT 0)), (1, .int x1), (2, .ref (gK G (x2).val)), (3, .int x3)]) hx hb dX7_fillAsMade_51 hl (by decide) rfl (fun ls hl => ?_)
      exact wx_X7_fillAsMade_53 C hK hA hT FU uT x1 (0 : Int32) hf hP hD hS (lv_sub hl [1, 2, 0] rfl)
    · replace hf := og_f c_3 hf
      refine lv_aload_n hx hb dX7_fillAsMade_14 rfl (lv_at hl 2 rfl) ?_
      refine lv_iload hx hb dX7_fillAsMade_15 (lv_at hl 4 rfl) ?_
      obtain ⟨r_5, h_4, hf⟩ := og_b hf
      try dsimp only at hf
      refine xr_V (v := .ref (gF G (r_5).val)) (rest := []) (w0 := ([])) C (cx_X2_fieldAt l G x2 x4 r_5 _ h_4) (cwV 1 hts gx_X7_X2_fieldAt_109 rfl rfl rfl hdx_X2_fieldAt ⟨Nat.le_of_ble_eq_true rfl, Nat.le_of_ble_eq_true rfl⟩) hK hA hT hP hD hS (va_recvE hT.1.2.2.2.2.1 (x2).isLt hS) [] rfl rfl rfl hl.1 rfl (Nat.le_of_ble_eq_true rfl) dX7_fillAsMade_17 ?_
      refine lv_astore (lv' := [(5, .ref (gF G (r_5).val)), (0, .ref (bT 0)), (1, .int x1), (2, .ref (gK G (x2).val)), (3, .int x3), (4, .int x4)]) hx hb dX7_fillAsMade_20 hl (by decide) rfl (fun ls hl => ?_)
      refine lv_aload hx hb dX7_fillAsMade_22 (lv_at hl 0 rfl) ?_
      obtain ⟨r_7, h_6, hf⟩ := og_b hf
      try dsimp only at hf
      refine xr_V (v := .int r_7) (rest := []) (w0 := ([])) C (cx_X0_isText l G r_5 r_7 _ h_6) (cwV 0 hts gx_X7_X0_isText_113 rfl rfl rfl hdx_X0_isText ⟨Nat.le_of_ble_eq_true rfl, Nat.le_of_ble_eq_true rfl⟩) hK hA hT hP hD hS (va_recvE hT.1.1 (r_5).isLt hS) [] rfl rfl rfl hl.1 rfl (Nat.le_of_ble_eq_true rfl) dX7_fillAsMade_24 ?_
      refine lv_if_ne (tgt := 44) hx hb dX7_fillAsMade_27 (by decide) (fun c_8 => ?_) (fun c_8 => ?_)
      · replace hf := og_f c_8 hf
        exact wx_X7_fillAsMade_44 C hK hA hT (fx_X7_fillAsMade_5 n) (fun _ _ _ _ _ h9 => ih _ _ _ _ _ h9) uT x1 x2 x3 x4 hf hP hD hS (lv_sub hl [1, 2, 3, 4, 5] rfl)
      · replace hf := og_t c_8 hf
        refine lv_aload_n hx hb dX7_fillAsMade_30 rfl (lv_at hl 1 rfl) ?_
        refine lv_iload_n hx hb dX7_fillAsMade_31 rfl (lv_at hl 2 rfl) ?_
        refine lv_iload_n hx hb dX7_fillAsMade_32 rfl (lv_at hl 4 rfl) ?_
        refine lv_aload hx hb dX7_fillAsMade_33 (lv_at hl 0 rfl) ?_
        refine xoN (v := .long (fMade r_5)) (host := "SchematicText") C hT (hT.1.2.2.2.1 (r_5).val (r_5).isLt) hS (by decide +kernel) dX7_fillAsMade_35 ?_
        obtain ⟨u_10, h_9, hf⟩ := og_b hf
        try dsimp only at hf
        refine xw_V (ov := none) (st1 := []) (rest := []) (w0 := (cT G bT uT)) (w1 := (cT G bT u_10)) (wr := ([])) (w' := (cT G bT u_10)) C (cx_X7_putNumber l G bT uT x1 x3 (fMade r_5) u_10 _ h_9) (cwV 3 hts gx_X7_X7_putNumber_123 rfl rfl rfl hdx_X7_putNumber ⟨Nat.le_of_ble_eq_true rfl, Nat.le_of_ble_eq_true rfl⟩) hK hA hT hP hD hS (va_recv hK hP (ci := 4) (q0 := 0) rfl rfl) [0, 1, 2, 3, 4, 5, 6, 7, 8, 9, 10, 11, 12] [] [0, 1, 2, 3, 4, 5, 6, 7, 8, 9, 10, 11, 12] rfl rfl rfl rfl (by decide) rfl rfl rfl hl.1 rfl rfl (Nat.le_of_ble_eq_true rfl) dX7_fillAsMade_38 (fun H locs hP hD hS => ?_)
        refine lv_iinc (v := (x3 + (1 : Int32))) (lv' := [(3, .int (x3 + (1 : Int32))), (5, .ref (gF G (r_5).val)), (0, .ref (bT 0)), (1, .int x1), (2, .ref (gK G (x2).val)), (4, .int x4)]) hx hb dX7_fillAsMade_41 hl (k := 4) rfl rfl (by decide) rfl (fun ls hl => ?_)
        exact wx_X7_fillAsMade_44 C hK hA hT (fx_X7_fillAsMade_5 n) (fun _ _ _ _ _ h9 => ih _ _ _ _ _ h9) u_10 x1 x2 (x3 + (1 : Int32)) x4 hf hP hD hS (lv_sub hl [2, 3, 4, 0, 5] rfl)
def fx_X7_fillAsMade (uT : Md) (x1 : Int32) (x2 : (Fin 10)) : Option Md := (fx_X7_fillAsMade_5 FU uT x1 x2 (0 : Int32) (0 : Int32))
set_option maxHeartbeats 4000000 in
set_option maxRecDepth 100000 in
theorem cx_X7_fillAsMade (l : Launch) (G : Gx) (bT : Nat → Nat) (uT : Md) (x1 : Int32) (x2 : (Fin 10))  (vT : Md) (sz : Nat) (hf : fx_X7_fillAsMade uT x1 x2 = some vT) : Met l yX7_fillAsMade wsx_X7_fillAsMade rmx_X7_fillAsMade (pX G (cT G bT uT) sz [.ref (bT 0), .int x1, .ref (gK G (x2).val)]) (qW none (cT G bT vT) (gD G) (tyG G) (va_A (cT G bT uT) sz)) 0 0 (va_A (cT G bT uT) sz) := by
  refine mx_w (cc := cX7_fillAsMade) (maxL := 6) (ret := none) (by decide) rfl (Nat.le_of_ble_eq_true rfl) ?_
  intro p e s m below meth c ls A C hl hK hA hT hP hD hS
  have hl : lv_has ls 6 [(0, .ref (bT 0)), (1, .int x1), (2, .ref (gK G (x2).val))] := hl
  have hx := C.1.1
  have hb := C.1.2.1
  have hts := C.1.2.2.2.2
  have hown := C.1.2.2.2.1
  have hin7 : ∀ w ∈ wsX70, w ∈ wsx_X7_fillAsMade := fun w h => List.mem_cons_of_mem _ (List.mem_append_right _ (List.mem_append_right _ (List.mem_append_right _ (List.mem_append_left _ h))))
  unfold fx_X7_fillAsMade at hf
  refine lv_iconst (v := (0 : Int32)) hx hb dX7_fillAsMade_0 (by decide) ?_
  refine lv_istore_n (lv' := [(3, .int (0 : Int32)), (0, .ref (bT 0)), (1, .int x1), (2, .ref (gK G (x2).val))]) hx hb dX7_fillAsMade_1 rfl hl (by decide) rfl (fun ls hl => ?_)
  refine lv_iconst (v := (0 : Int32)) hx hb dX7_fillAsMade_2 (by decide) ?_
  refine lv_istore (lv' := [(4, .int (0 : Int32)), (3, .int (0 : Int32)), (0, .ref (bT 0)), (1, .int x1), (2, .ref (gK G (x2).val))]) hx hb dX7_fillAsMade_3 hl (by decide) rfl (fun ls hl => ?_)
  exact wx_X7_fillAsMade_5 C hK hA hT FU uT x1 x2 (0 : Int32) (0 : Int32) hf hP hD hS (lv_sub hl [2, 3, 4, 1, 0] rfl)
theorem gx_X7_X7_depthOf_87 {c0 : Cond} : GoodIn (c0 :: WAX) (wsV RX7 87 RX7 yX7_depthOf wsx_X7_depthOf) := gdx_v mx_140 mx_141 mx_142 mx_99 mx_143
theorem gx_X7_X7_hang_97 {c0 : Cond} : GoodIn (c0 :: WAX) (wsV RX7 97 RX7 yX7_hang wsx_X7_hang) := gdx_v mx_144 mx_145 mx_146 mx_99 mx_147
theorem gx_X7_X7_fillAsMade_101 {c0 : Cond} : GoodIn (c0 :: WAX) (wsV RX7 101 RX7 yX7_fillAsMade wsx_X7_fillAsMade) := gdx_v mx_148 mx_149 mx_150 mx_99 mx_151
abbrev rmx_X7_grow : Room := { frames := 6, cells := 0, slots := 0, locals := 131 }
noncomputable abbrev wsx_X7_grow : List Cond := Cond.code yX7_grow cX7_grow 4 (some .int) :: WAX
theorem hdx_X7_grow : yX7_grow.cls = RX7 ∧ yX7_grow.cls ≠ "java/lang/invoke/MethodHandle" ∧ yX7_grow.cls ≠ "java/lang/invoke/VarHandle" ∧ (parseMethodDescriptor yX7_grow.desc).map (fun d => d.parameters.length) = some 2 := by decide +kernel
def fx_X7_grow (uT : Md) (x1 : Int32) (x2 : (Fin 10)) : Option (Int32 × Md) := (if (gi uT 13) < 0 then (some ((-1 : Int32), uT)) else (if (gi uT 13) < (200 : Int32) then (if (gi uT 13) < 0 ∨ 200 ≤ ((gi uT 13)).toNatClampNeg then none else (if (gi uT 13) < 0 ∨ 200 ≤ ((gi uT 13)).toNatClampNeg then none else ((fx_X7_depthOf (sa (sa (si uT 13 ((gi uT 13) + (1 : Int32))) 0 (upd (ga uT 0) ((gi uT 13)).toNatClampNeg (kNum x2))) 1 (upd (ga uT 1) ((gi uT 13)).toNatClampNeg x1)) x1).bind fun r_6 => (if (gi uT 13) < 0 ∨ 200 ≤ ((gi uT 13)).toNatClampNeg then none else (if (gi uT 13) < 0 ∨ 200 ≤ ((gi uT 13)).toNatClampNeg then none else (if (gi uT 13) < 0 ∨ 200 ≤ ((gi uT 13)).toNatClampNeg then none else (if (gi uT 13) < 0 ∨ 200 ≤ ((gi uT 13)).toNatClampNeg then none else (if (gi uT 13) < 0 ∨ 200 ≤ ((gi uT 13)).toNatClampNeg then none else (if (gi uT 13) < 0 ∨ 200 ≤ ((gi uT 13)).toNatClampNeg then none else (if (gi uT 13) < 0 ∨ 200 ≤ ((gi uT 13)).toNatClampNeg then none else ((fx_X7_hang (sa (sa (sa (sa (sa (si (sa (sa (sa (si uT 13 ((gi uT 13) + (1 : Int32))) 0 (upd (ga uT 0) ((gi uT 13)).toNatClampNeg (kNum x2))) 1 (upd (ga uT 1) ((gi uT 13)).toNatClampNeg x1)) 2 (upd (ga uT 2) ((gi uT 13)).toNatClampNeg (r_6 + (1 : Int32)))) 14 (if (gi uT 14) < (((upd (ga uT 2) ((gi uT 13)).toNatClampNeg (r_6 + (1 : Int32))) ((gi uT 13)).toNatClampNeg) + (1 : Int32)) then (((upd (ga uT 2) ((gi uT 13)).toNatClampNeg (r_6 + (1 : Int32))) ((gi uT 13)).toNatClampNeg) + (1 : Int32)) else (gi uT 14))) 3 (upd (ga uT 3) ((gi uT 13)).toNatClampNeg (-1 : Int32))) 4 (upd (ga uT 4) ((gi uT 13)).toNatClampNeg (-1 : Int32))) 5 (upd (ga uT 5) ((gi uT 13)).toNatClampNeg (-1 : Int32))) 9 (upd (ga uT 9) ((gi uT 13)).toNatClampNeg (0 : Int32))) 10 (upd (ga uT 10) ((gi uT 13)).toNatClampNeg (0 : Int32))) (gi uT 13) x1).bind fun u_15 => ((fx_X7_fillAsMade u_15 (gi uT 13) x2).bind fun u_17 => (some ((gi uT 13), u_17)))))))))))))) else (some ((-1 : Int32), uT))))
set_option maxHeartbeats 4000000 in
set_option maxRecDepth 100000 in
theorem cx_X7_grow (l : Launch) (G : Gx) (bT : Nat → Nat) (uT : Md) (x1 : Int32) (x2 : (Fin 10)) (r : Int32) (vT : Md) (sz : Nat) (hf : fx_X7_grow uT x1 x2 = some (r, vT)) : Met l yX7_grow wsx_X7_grow rmx_X7_grow (pX G (cT G bT uT) sz [.ref (bT 0), .int x1, .ref (gK G (x2).val)]) (qW (some (.int r)) (cT G bT vT) (gD G) (tyG G) (va_A (cT G bT uT) sz)) 0 0 (va_A (cT G bT uT) sz) := by
  refine mx_w (cc := cX7_grow) (maxL := 4) (ret := (some .int)) (by decide) rfl (Nat.le_of_ble_eq_true rfl) ?_
  intro p e s m below meth c ls A C hl hK hA hT hP hD hS
  have hl : lv_has ls 4 [(0, .ref (bT 0)), (1, .int x1), (2, .ref (gK G (x2).val))] := hl
  have hx := C.1.1
  have hb := C.1.2.1
  have hts := C.1.2.2.2.2
  have hown := C.1.2.2.2.1
  have hin7 : ∀ w ∈ wsX70, w ∈ wsx_X7_grow := fun w h => List.mem_cons_of_mem _ (List.mem_append_right _ (List.mem_append_right _ (List.mem_append_right _ (List.mem_append_left _ h))))
  unfold fx_X7_grow at hf
  refine lv_aload_n hx hb dX7_grow_0 rfl (lv_at hl 0 rfl) ?_
  refine xg (v := .int (gi uT 13)) (ci := 4) (K := RX7) (T := TX7) (N := 16) C hin7 hK hP 0 rfl rfl 13 (by decide) rfl (hts (Cond.fieldLink RX7 54 "SchematicText$Tree" "count" "I") (List.mem_cons_of_mem _ mx_101)) rfl dX7_grow_1 ?_
  refine lv_istore_n (lv' := [(3, .int (gi uT 13)), (0, .ref (bT 0)), (1, .int x1), (2, .ref (gK G (x2).val))]) hx hb dX7_grow_4 rfl hl (by decide) rfl (fun ls hl => ?_)
  refine lv_iload_n hx hb dX7_grow_5 rfl (lv_at hl 0 rfl) ?_
  refine lv_if_lt (tgt := 16) hx hb dX7_grow_6 (by decide) (fun c_1 => ?_) (fun c_1 => ?_)
  · replace hf := og_t c_1 hf
    refine lv_iconst (v := (-1 : Int32)) hx hb dX7_grow_16 (by decide) ?_
    obtain ⟨rfl, rfl⟩ := pi2 (og_s hf)
    exact rw_i C hK hP hD hS dX7_grow_17
  · replace hf := og_f c_1 hf
    refine lv_iload_n hx hb dX7_grow_9 rfl (lv_at hl 0 rfl) ?_
    refine lv_sipush (v := (200 : Int32)) hx hb dX7_grow_10 (by decide) ?_
    refine lv_icmp_lt (tgt := 18) hx hb dX7_grow_13 (by decide) (fun c_2 => ?_) (fun c_2 => ?_)
    · replace hf := og_t c_2 hf
      refine lv_aload_n hx hb dX7_grow_18 rfl (lv_at hl 1 rfl) ?_
      refine lv_dup hx hb dX7_grow_19 rfl ?_
      refine xg (v := .int (gi uT 13)) (ci := 4) (K := RX7) (T := TX7) (N := 16) C hin7 hK hP 0 rfl rfl 13 (by decide) rfl (hts (Cond.fieldLink RX7 54 "SchematicText$Tree" "count" "I") (List.mem_cons_of_mem _ mx_101)) rfl dX7_grow_20 ?_
      refine lv_iconst (v := (1 : Int32)) hx hb dX7_grow_23 (by decide) ?_
      refine lv_iadd hx hb dX7_grow_24 ?_
      refine xp (v := .int ((gi uT 13) + (1 : Int32))) (w' := (cT G bT (si uT 13 ((gi uT 13) + (1 : Int32))))) (ci := 4) (K := RX7) (T := TX7) (N := 16) (ty := .int) C hin7 tyX7 tyX7_ok nmX7 hK hP hD hS 0 rfl rfl 13 (by decide) rfl (hts (Cond.fieldLink RX7 54 "SchematicText$Tree" "count" "I") (List.mem_cons_of_mem _ mx_101)) rfl rfl rfl rfl (Nat.le_of_ble_eq_true rfl) dX7_grow_25 hw_T_T_i13 (fun H locs hP hD hS => ?_)
      refine lv_aload_n hx hb dX7_grow_28 rfl (lv_at hl 1 rfl) ?_
      refine xg (v := .ref (bT 1)) (ci := 4) (K := RX7) (T := TX7) (N := 16) C hin7 hK hP 0 rfl rfl 0 (by decide) rfl (hts (Cond.fieldLink RX7 9 "SchematicText$Tree" "kinds" "[I") (List.mem_cons_of_mem _ mx_111)) rfl dX7_grow_29 ?_
      refine lv_iload_n hx hb dX7_grow_32 rfl (lv_at hl 0 rfl) ?_
      refine lv_aload_n hx hb dX7_grow_33 rfl (lv_at hl 3 rfl) ?_
      refine xoN (v := .int (kNum x2)) (host := "SchematicText") C hT ((hT.1.2.2.2.2.1.1 (x2).val (x2).isLt).2.2 _ List.mem_cons_self) hS (by decide +kernel) dX7_grow_34 ?_
      obtain ⟨h_3, hf⟩ := og_n hf
      refine xsi (f := (ga uT 0)) (w' := (cT G bT (sa (si uT 13 ((gi uT 13) + (1 : Int32))) 0 (upd (ga uT 0) ((gi uT 13)).toNatClampNeg (kNum x2))))) C hK hP hD hS 1 rfl h_3 dX7_grow_37 hw_T_T_a0 (fun H locs hP hD hS => ?_)
      refine lv_aload_n hx hb dX7_grow_38 rfl (lv_at hl 1 rfl) ?_
      refine xg (v := .ref (bT 2)) (ci := 4) (K := RX7) (T := TX7) (N := 16) C hin7 hK hP 0 rfl rfl 1 (by decide) rfl (hts (Cond.fieldLink RX7 15 "SchematicText$Tree" "parents" "[I") (List.mem_cons_of_mem _ mx_128)) rfl dX7_grow_39 ?_
      refine lv_iload_n hx hb dX7_grow_42 rfl (lv_at hl 0 rfl) ?_
      refine lv_iload_n hx hb dX7_grow_43 rfl (lv_at hl 2 rfl) ?_
      obtain ⟨h_4, hf⟩ := og_n hf
      refine xsi (f := (ga uT 1)) (w' := (cT G bT (sa (sa (si uT 13 ((gi uT 13) + (1 : Int32))) 0 (upd (ga uT 0) ((gi uT 13)).toNatClampNeg (kNum x2))) 1 (upd (ga uT 1) ((gi uT 13)).toNatClampNeg x1)))) C hK hP hD hS 2 rfl h_4 dX7_grow_44 hw_T_T_a1 (fun H locs hP hD hS => ?_)
      refine lv_aload_n hx hb dX7_grow_45 rfl (lv_at hl 1 rfl) ?_
      refine xg (v := .ref (bT 3)) (ci := 4) (K := RX7) (T := TX7) (N := 16) C hin7 hK hP 0 rfl rfl 2 (by decide) rfl (hts (Cond.fieldLink RX7 18 "SchematicText$Tree" "depths" "[I") (List.mem_cons_of_mem _ mx_129)) rfl dX7_grow_46 ?_
      refine lv_iload_n hx hb dX7_grow_49 rfl (lv_at hl 0 rfl) ?_
      refine lv_aload_n hx hb dX7_grow_50 rfl (lv_at hl 1 rfl) ?_
      refine lv_iload_n hx hb dX7_grow_51 rfl (lv_at hl 2 rfl) ?_
      obtain ⟨r_6, h_5, hf⟩ := og_b hf
      try dsimp only at hf
      refine xr_V (v := .int r_6) (rest := [.int (gi uT 13), .ref (bT 3)]) (w0 := (cT G bT (sa (sa (si uT 13 ((gi uT 13) + (1 : Int32))) 0 (upd (ga uT 0) ((gi uT 13)).toNatClampNeg (kNum x2))) 1 (upd (ga uT 1) ((gi uT 13)).toNatClampNeg x1)))) C (cx_X7_depthOf l G bT (sa (sa (si uT 13 ((gi uT 13) + (1 : Int32))) 0 (upd (ga uT 0) ((gi uT 13)).toNatClampNeg (kNum x2))) 1 (upd (ga uT 1) ((gi uT 13)).toNatClampNeg x1)) x1 r_6 _ h_5) (cwV 1 hts gx_X7_X7_depthOf_87 rfl rfl rfl hdx_X7_depthOf ⟨Nat.le_of_ble_eq_true rfl, Nat.le_of_ble_eq_true rfl⟩) hK hA hT hP hD hS (va_recv hK hP (ci := 4) (q0 := 0) rfl rfl) [0, 1, 2, 3, 4, 5, 6, 7, 8, 9, 10, 11, 12] rfl rfl rfl hl.1 rfl (Nat.le_of_ble_eq_true rfl) dX7_grow_52 ?_
      refine lv_iconst (v := (1 : Int32)) hx hb dX7_grow_55 (by decide) ?_
      refine lv_iadd hx hb dX7_grow_56 ?_
      obtain ⟨h_7, hf⟩ := og_n hf
      refine xsi (f := (ga uT 2)) (w' := (cT G bT (sa (sa (sa (si uT 13 ((gi uT 13) + (1 : Int32))) 0 (upd (ga uT 0) ((gi uT 13)).toNatClampNeg (kNum x2))) 1 (upd (ga uT 1) ((gi uT 13)).toNatClampNeg x1)) 2 (upd (ga uT 2) ((gi uT 13)).toNatClampNeg (r_6 + (1 : Int32)))))) C hK hP hD hS 3 rfl h_7 dX7_grow_57 hw_T_T_a2 (fun H locs hP hD hS => ?_)
      refine lv_aload_n hx hb dX7_grow_58 rfl (lv_at hl 1 rfl) ?_
      refine lv_aload_n hx hb dX7_grow_59 rfl (lv_at hl 1 rfl) ?_
      refine xg (v := .int (gi uT 14)) (ci := 4) (K := RX7) (T := TX7) (N := 16) C hin7 hK hP 0 rfl rfl 14 (by decide) rfl (hts (Cond.fieldLink RX7 57 "SchematicText$Tree" "deepest" "I") (List.mem_cons_of_mem _ mx_130)) rfl dX7_grow_60 ?_
      refine lv_aload_n hx hb dX7_grow_63 rfl (lv_at hl 1 rfl) ?_
      refine xg (v := .ref (bT 3)) (ci := 4) (K := RX7) (T := TX7) (N := 16) C hin7 hK hP 0 rfl rfl 2 (by decide) rfl (hts (Cond.fieldLink RX7 18 "SchematicText$Tree" "depths" "[I") (List.mem_cons_of_mem _ mx_129)) rfl dX7_grow_64 ?_
      refine lv_iload_n hx hb dX7_grow_67 rfl (lv_at hl 0 rfl) ?_
      obtain ⟨h_8, hf⟩ := og_n hf
      refine va_iald (f := (upd (ga uT 2) ((gi uT 13)).toNatClampNeg (r_6 + (1 : Int32)))) hx hb hK hP 3 0 rfl rfl h_8 dX7_grow_68 ?_
      refine lv_iconst (v := (1 : Int32)) hx hb dX7_grow_69 (by decide) ?_
      refine lv_iadd hx hb dX7_grow_70 ?_
      refine va_mmax (rest := [.ref (bT 0)]) hx hb (C.1.2.2.1.trans hl.1.symm) hown (hts (Cond.methodLink RX7 91 Lib.Math.max.name) (List.mem_cons_of_mem _ mx_131)) (hts (Cond.static Lib.Math.max.name) (List.mem_cons_of_mem _ mx_132)) (hts (Cond.initialized "java/lang/Math") (List.mem_cons_of_mem _ mx_133)) (hts (Cond.code Lib.Math.max.name Lib.Math.max.code 2 (some .int)) (List.mem_cons_of_mem _ mx_134)) (Nat.le_of_ble_eq_true rfl) (Nat.le_of_ble_eq_true rfl) (Nat.zero_le _) (Nat.zero_le _) dX7_grow_71 ?_
      refine xp (v := .int (if (gi uT 14) < (((upd (ga uT 2) ((gi uT 13)).toNatClampNeg (r_6 + (1 : Int32))) ((gi uT 13)).toNatClampNeg) + (1 : Int32)) then (((upd (ga uT 2) ((gi uT 13)).toNatClampNeg (r_6 + (1 : Int32))) ((gi uT 13)).toNatClampNeg) + (1 : Int32)) else (gi uT 14))) (w' := (cT G bT (si (sa (sa (sa (si uT 13 ((gi uT 13) + (1 : Int32))) 0 (upd (ga uT 0) ((gi uT 13)).toNatClampNeg (kNum x2))) 1 (upd (ga uT 1) ((gi uT 13)).toNatClampNeg x1)) 2 (upd (ga uT 2) ((gi uT 13)).toNatClampNeg (r_6 + (1 : Int32)))) 14 (if (gi uT 14) < (((upd (ga uT 2) ((gi uT 13)).toNatClampNeg (r_6 + (1 : Int32))) ((gi uT 13)).toNatClampNeg) + (1 : Int32)) then (((upd (ga uT 2) ((gi uT 13)).toNatClampNeg (r_6 + (1 : Int32))) ((gi uT 13)).toNatClampNeg) + (1 : Int32)) else (gi uT 14))))) (ci := 4) (K := RX7) (T := TX7) (N := 16) (ty := .int) C hin7 tyX7 tyX7_ok nmX7 hK hP hD hS 0 rfl rfl 14 (by decide) rfl (hts (Cond.fieldLink RX7 57 "SchematicText$Tree" "deepest" "I") (List.mem_cons_of_mem _ mx_130)) rfl rfl rfl rfl (Nat.le_of_ble_eq_true rfl) dX7_grow_74 hw_T_T_i14 (fun H locs hP hD hS => ?_)
      refine lv_aload_n hx hb dX7_grow_77 rfl (lv_at hl 1 rfl) ?_
      refine xg (v := .ref (bT 4)) (ci := 4) (K := RX7) (T := TX7) (N := 16) C hin7 hK hP 0 rfl rfl 3 (by decide) rfl (hts (Cond.fieldLink RX7 21 "SchematicText$Tree" "firsts" "[I") (List.mem_cons_of_mem _ mx_135)) rfl dX7_grow_78 ?_
      refine lv_iload_n hx hb dX7_grow_81 rfl (lv_at hl 0 rfl) ?_
      refine lv_iconst (v := (-1 : Int32)) hx hb dX7_grow_82 (by decide) ?_
      obtain ⟨h_9, hf⟩ := og_n hf
      refine xsi (f := (ga uT 3)) (w' := (cT G bT (sa (si (sa (sa (sa (si uT 13 ((gi uT 13) + (1 : Int32))) 0 (upd (ga uT 0) ((gi uT 13)).toNatClampNeg (kNum x2))) 1 (upd (ga uT 1) ((gi uT 13)).toNatClampNeg x1)) 2 (upd (ga uT 2) ((gi uT 13)).toNatClampNeg (r_6 + (1 : Int32)))) 14 (if (gi uT 14) < (((upd (ga uT 2) ((gi uT 13)).toNatClampNeg (r_6 + (1 : Int32))) ((gi uT 13)).toNatClampNeg) + (1 : Int32)) then (((upd (ga uT 2) ((gi uT 13)).toNatClampNeg (r_6 + (1 : Int32))) ((gi uT 13)).toNatClampNeg) + (1 : Int32)) else (gi uT 14))) 3 (upd (ga uT 3) ((gi uT 13)).toNatClampNeg (-1 : Int32))))) C hK hP hD hS 4 rfl h_9 dX7_grow_83 hw_T_T_a3 (fun H locs hP hD hS => ?_)
      refine lv_aload_n hx hb dX7_grow_84 rfl (lv_at hl 1 rfl) ?_
      refine xg (v := .ref (bT 5)) (ci := 4) (K := RX7) (T := TX7) (N := 16) C hin7 hK hP 0 rfl rfl 4 (by decide) rfl (hts (Cond.fieldLink RX7 24 "SchematicText$Tree" "lasts" "[I") (List.mem_cons_of_mem _ mx_136)) rfl dX7_grow_85 ?_
      refine lv_iload_n hx hb dX7_grow_88 rfl (lv_at hl 0 rfl) ?_
      refine lv_iconst (v := (-1 : Int32)) hx hb dX7_grow_89 (by decide) ?_
      obtain ⟨h_10, hf⟩ := og_n hf
      refine xsi (f := (ga uT 4)) (w' := (cT G bT (sa (sa (si (sa (sa (sa (si uT 13 ((gi uT 13) + (1 : Int32))) 0 (upd (ga uT 0) ((gi uT 13)).toNatClampNeg (kNum x2))) 1 (upd (ga uT 1) ((gi uT 13)).toNatClampNeg x1)) 2 (upd (ga uT 2) ((gi uT 13)).toNatClampNeg (r_6 + (1 : Int32)))) 14 (if (gi uT 14) < (((upd (ga uT 2) ((gi uT 13)).toNatClampNeg (r_6 + (1 : Int32))) ((gi uT 13)).toNatClampNeg) + (1 : Int32)) then (((upd (ga uT 2) ((gi uT 13)).toNatClampNeg (r_6 + (1 : Int32))) ((gi uT 13)).toNatClampNeg) + (1 : Int32)) else (gi uT 14))) 3 (upd (ga uT 3) ((gi uT 13)).toNatClampNeg (-1 : Int32))) 4 (upd (ga uT 4) ((gi uT 13)).toNatClampNeg (-1 : Int32))))) C hK hP hD hS 5 rfl h_10 dX7_grow_90 hw_T_T_a4 (fun H locs hP hD hS => ?_)
      refine lv_aload_n hx hb dX7_grow_91 rfl (lv_at hl 1 rfl) ?_
      refine xg (v := .ref (bT 6)) (ci := 4) (K := RX7) (T := TX7) (N := 16) C hin7 hK hP 0 rfl rfl 5 (by decide) rfl (hts (Cond.fieldLink RX7 27 "SchematicText$Tree" "nexts" "[I") (List.mem_cons_of_mem _ mx_137)) rfl dX7_grow_92 ?_
      refine lv_iload_n hx hb dX7_grow_95 rfl (lv_at hl 0 rfl) ?_
      refine lv_iconst (v := (-1 : Int32)) hx hb dX7_grow_96 (by decide) ?_
      obtain ⟨h_11, hf⟩ := og_n hf
      refine xsi (f := (ga uT 5)) (w' := (cT G bT (sa (sa (sa (si (sa (sa (sa (si uT 13 ((gi uT 13) + (1 : Int32))) 0 (upd (ga uT 0) ((gi uT 13)).toNatClampNeg (kNum x2))) 1 (upd (ga uT 1) ((gi uT 13)).toNatClampNeg x1)) 2 (upd (ga uT 2) ((gi uT 13)).toNatClampNeg (r_6 + (1 : Int32)))) 14 (if (gi uT 14) < (((upd (ga uT 2) ((gi uT 13)).toNatClampNeg (r_6 + (1 : Int32))) ((gi uT 13)).toNatClampNeg) + (1 : Int32)) then (((upd (ga uT 2) ((gi uT 13)).toNatClampNeg (r_6 + (1 : Int32))) ((gi uT 13)).toNatClampNeg) + (1 : Int32)) else (gi uT 14))) 3 (upd (ga uT 3) ((gi uT 13)).toNatClampNeg (-1 : Int32))) 4 (upd (ga uT 4) ((gi uT 13)).toNatClampNeg (-1 : Int32))) 5 (upd (ga uT 5) ((gi uT 13)).toNatClampNeg (-1 : Int32))))) C hK hP hD hS 6 rfl h_11 dX7_grow_97 hw_T_T_a5 (fun H locs hP hD hS => ?_)
      refine lv_aload_n hx hb dX7_grow_98 rfl (lv_at hl 1 rfl) ?_
      refine xg (v := .ref (bT 10)) (ci := 4) (K := RX7) (T := TX7) (N := 16) C hin7 hK hP 0 rfl rfl 9 (by decide) rfl (hts (Cond.fieldLink RX7 41 "SchematicText$Tree" "keptFrom" "[I") (List.mem_cons_of_mem _ mx_138)) rfl dX7_grow_99 ?_
      refine lv_iload_n hx hb dX7_grow_102 rfl (lv_at hl 0 rfl) ?_
      refine lv_iconst (v := (0 : Int32)) hx hb dX7_grow_103 (by decide) ?_
      obtain ⟨h_12, hf⟩ := og_n hf
      refine xsi (f := (ga uT 9)) (w' := (cT G bT (sa (sa (sa (sa (si (sa (sa (sa (si uT 13 ((gi uT 13) + (1 : Int32))) 0 (upd (ga uT 0) ((gi uT 13)).toNatClampNeg (kNum x2))) 1 (upd (ga uT 1) ((gi uT 13)).toNatClampNeg x1)) 2 (upd (ga uT 2) ((gi uT 13)).toNatClampNeg (r_6 + (1 : Int32)))) 14 (if (gi uT 14) < (((upd (ga uT 2) ((gi uT 13)).toNatClampNeg (r_6 + (1 : Int32))) ((gi uT 13)).toNatClampNeg) + (1 : Int32)) then (((upd (ga uT 2) ((gi uT 13)).toNatClampNeg (r_6 + (1 : Int32))) ((gi uT 13)).toNatClampNeg) + (1 : Int32)) else (gi uT 14))) 3 (upd (ga uT 3) ((gi uT 13)).toNatClampNeg (-1 : Int32))) 4 (upd (ga uT 4) ((gi uT 13)).toNatClampNeg (-1 : Int32))) 5 (upd (ga uT 5) ((gi uT 13)).toNatClampNeg (-1 : Int32))) 9 (upd (ga uT 9) ((gi uT 13)).toNatClampNeg (0 : Int32))))) C hK hP hD hS 10 rfl h_12 dX7_grow_104 hw_T_T_a9 (fun H locs hP hD hS => ?_)
      refine lv_aload_n hx hb dX7_grow_105 rfl (lv_at hl 1 rfl) ?_
      refine xg (v := .ref (bT 11)) (ci := 4) (K := RX7) (T := TX7) (N := 16) C hin7 hK hP 0 rfl rfl 10 (by decide) rfl (hts (Cond.fieldLink RX7 44 "SchematicText$Tree" "keptSizes" "[I") (List.mem_cons_of_mem _ mx_139)) rfl dX7_grow_106 ?_
      refine lv_iload_n hx hb dX7_grow_109 rfl (lv_at hl 0 rfl) ?_
      refine lv_iconst (v := (0 : Int32)) hx hb dX7_grow_110 (by decide) ?_
      obtain ⟨h_13, hf⟩ := og_n hf
      refine xsi (f := (ga uT 10)) (w' := (cT G bT (sa (sa (sa (sa (sa (si (sa (sa (sa (si uT 13 ((gi uT 13) + (1 : Int32))) 0 (upd (ga uT 0) ((gi uT 13)).toNatClampNeg (kNum x2))) 1 (upd (ga uT 1) ((gi uT 13)).toNatClampNeg x1)) 2 (upd (ga uT 2) ((gi uT 13)).toNatClampNeg (r_6 + (1 : Int32)))) 14 (if (gi uT 14) < (((upd (ga uT 2) ((gi uT 13)).toNatClampNeg (r_6 + (1 : Int32))) ((gi uT 13)).toNatClampNeg) + (1 : Int32)) then (((upd (ga uT 2) ((gi uT 13)).toNatClampNeg (r_6 + (1 : Int32))) ((gi uT 13)).toNatClampNeg) + (1 : Int32)) else (gi uT 14))) 3 (upd (ga uT 3) ((gi uT 13)).toNatClampNeg (-1 : Int32))) 4 (upd (ga uT 4) ((gi uT 13)).toNatClampNeg (-1 : Int32))) 5 (upd (ga uT 5) ((gi uT 13)).toNatClampNeg (-1 : Int32))) 9 (upd (ga uT 9) ((gi uT 13)).toNatClampNeg (0 : Int32))) 10 (upd (ga uT 10) ((gi uT 13)).toNatClampNeg (0 : Int32))))) C hK hP hD hS 11 rfl h_13 dX7_grow_111 hw_T_T_a10 (fun H locs hP hD hS => ?_)
      refine lv_aload_n hx hb dX7_grow_112 rfl (lv_at hl 1 rfl) ?_
      refine lv_iload_n hx hb dX7_grow_113 rfl (lv_at hl 0 rfl) ?_
      refine lv_iload_n hx hb dX7_grow_114 rfl (lv_at hl 2 rfl) ?_
      obtain ⟨u_15, h_14, hf⟩ := og_b hf
      try dsimp only at hf
      refine xw_V (ov := none) (st1 := []) (rest := []) (w0 := (cT G bT (sa (sa (sa (sa (sa (si (sa (sa (sa (si uT 13 ((gi uT 13) + (1 : Int32))) 0 (upd (ga uT 0) ((gi uT 13)).toNatClampNeg (kNum x2))) 1 (upd (ga uT 1) ((gi uT 13)).toNatClampNeg x1)) 2 (upd (ga uT 2) ((gi uT 13)).toNatClampNeg (r_6 + (1 : Int32)))) 14 (if (gi uT 14) < (((upd (ga uT 2) ((gi uT 13)).toNatClampNeg (r_6 + (1 : Int32))) ((gi uT 13)).toNatClampNeg) + (1 : Int32)) then (((upd (ga uT 2) ((gi uT 13)).toNatClampNeg (r_6 + (1 : Int32))) ((gi uT 13)).toNatClampNeg) + (1 : Int32)) else (gi uT 14))) 3 (upd (ga uT 3) ((gi uT 13)).toNatClampNeg (-1 : Int32))) 4 (upd (ga uT 4) ((gi uT 13)).toNatClampNeg (-1 : Int32))) 5 (upd (ga uT 5) ((gi uT 13)).toNatClampNeg (-1 : Int32))) 9 (upd (ga uT 9) ((gi uT 13)).toNatClampNeg (0 : Int32))) 10 (upd (ga uT 10) ((gi uT 13)).toNatClampNeg (0 : Int32))))) (w1 := (cT G bT u_15)) (wr := ([])) (w' := (cT G bT u_15)) C (cx_X7_hang l G bT (sa (sa (sa (sa (sa (si (sa (sa (sa (si uT 13 ((gi uT 13) + (1 : Int32))) 0 (upd (ga uT 0) ((gi uT 13)).toNatClampNeg (kNum x2))) 1 (upd (ga uT 1) ((gi uT 13)).toNatClampNeg x1)) 2 (upd (ga uT 2) ((gi uT 13)).toNatClampNeg (r_6 + (1 : Int32)))) 14 (if (gi uT 14) < (((upd (ga uT 2) ((gi uT 13)).toNatClampNeg (r_6 + (1 : Int32))) ((gi uT 13)).toNatClampNeg) + (1 : Int32)) then (((upd (ga uT 2) ((gi uT 13)).toNatClampNeg (r_6 + (1 : Int32))) ((gi uT 13)).toNatClampNeg) + (1 : Int32)) else (gi uT 14))) 3 (upd (ga uT 3) ((gi uT 13)).toNatClampNeg (-1 : Int32))) 4 (upd (ga uT 4) ((gi uT 13)).toNatClampNeg (-1 : Int32))) 5 (upd (ga uT 5) ((gi uT 13)).toNatClampNeg (-1 : Int32))) 9 (upd (ga uT 9) ((gi uT 13)).toNatClampNeg (0 : Int32))) 10 (upd (ga uT 10) ((gi uT 13)).toNatClampNeg (0 : Int32))) (gi uT 13) x1 u_15 _ h_14) (cwV 2 hts gx_X7_X7_hang_97 rfl rfl rfl hdx_X7_hang ⟨Nat.le_of_ble_eq_true rfl, Nat.le_of_ble_eq_true rfl⟩) hK hA hT hP hD hS (va_recv hK hP (ci := 4) (q0 := 0) rfl rfl) [0, 1, 2, 3, 4, 5, 6, 7, 8, 9, 10, 11, 12] [] [0, 1, 2, 3, 4, 5, 6, 7, 8, 9, 10, 11, 12] rfl rfl rfl rfl (by decide) rfl rfl rfl hl.1 rfl rfl (Nat.le_of_ble_eq_true rfl) dX7_grow_115 (fun H locs hP hD hS => ?_)
      refine lv_aload_n hx hb dX7_grow_118 rfl (lv_at hl 1 rfl) ?_
      refine lv_iload_n hx hb dX7_grow_119 rfl (lv_at hl 0 rfl) ?_
      refine lv_aload_n hx hb dX7_grow_120 rfl (lv_at hl 3 rfl) ?_
      obtain ⟨u_17, h_16, hf⟩ := og_b hf
      try dsimp only at hf
      refine xw_V (ov := none) (st1 := []) (rest := []) (w0 := (cT G bT u_15)) (w1 := (cT G bT u_17)) (wr := ([])) (w' := (cT G bT u_17)) C (cx_X7_fillAsMade l G bT u_15 (gi uT 13) x2 u_17 _ h_16) (cwV 2 hts gx_X7_X7_fillAsMade_101 rfl rfl rfl hdx_X7_fillAsMade ⟨Nat.le_of_ble_eq_true rfl, Nat.le_of_ble_eq_true rfl⟩) hK hA hT hP hD hS (va_recv hK hP (ci := 4) (q0 := 0) rfl rfl) [0, 1, 2, 3, 4, 5, 6, 7, 8, 9, 10, 11, 12] [] [0, 1, 2, 3, 4, 5, 6, 7, 8, 9, 10, 11, 12] rfl rfl rfl rfl (by decide) rfl rfl rfl hl.1 rfl rfl (Nat.le_of_ble_eq_true rfl) dX7_grow_121 (fun H locs hP hD hS => ?_)
      refine lv_iload_n hx hb dX7_grow_124 rfl (lv_at hl 0 rfl) ?_
      obtain ⟨rfl, rfl⟩ := pi2 (og_s hf)
      exact rw_i C hK hP hD hS dX7_grow_125
    · replace hf := og_f c_2 hf
      refine lv_iconst (v := (-1 : Int32)) hx hb dX7_grow_16 (by decide) ?_
      obtain ⟨rfl, rfl⟩ := pi2 (og_s hf)
      exact rw_i C hK hP hD hS dX7_grow_17
abbrev rmx_X7_follower : Room := { frames := 1, cells := 0, slots := 0, locals := 21 }
noncomputable abbrev wsx_X7_follower : List Cond := Cond.code yX7_follower cX7_follower 4 (some .int) :: WAX
theorem hdx_X7_follower : yX7_follower.cls = RX7 ∧ yX7_follower.cls ≠ "java/lang/invoke/MethodHandle" ∧ yX7_follower.cls ≠ "java/lang/invoke/VarHandle" ∧ (parseMethodDescriptor yX7_follower.desc).map (fun d => d.parameters.length) = some 1 := by decide +kernel
def fx_X7_follower_31 (uT : Md) : Nat → Int32 → Int32 → Option Int32
  | 0, _, _ => none
  | n + 1, x2, x3 => (if (200 : Int32) ≤ x3 then (some (-1 : Int32)) else ((fx_X7_has uT x2).bind fun r_9 => (if r_9 = 0 then (some (-1 : Int32)) else (if x2 < 0 ∨ 200 ≤ (x2).toNatClampNeg then none else (if ((ga uT 5) (x2).toNatClampNeg) = (-1 : Int32) then (if x2 < 0 ∨ 200 ≤ (x2).toNatClampNeg then none else (fx_X7_follower_31 uT n ((ga uT 1) (x2).toNatClampNeg) (x3 + (1 : Int32)))) else (if x2 < 0 ∨ 200 ≤ (x2).toNatClampNeg then none else (some ((ga uT 5) (x2).toNatClampNeg))))))))
set_option maxHeartbeats 4000000 in
set_option maxRecDepth 100000 in
theorem wx_X7_follower_31 {p : Program} {l : Launch} {e : Env} {s : State} {m : MethodId} {args : Array Value} {below : List Frame} {meth : Method} {c : Code} {G : Gx} {A : Nat → Prop} {bT : Nat → Nat} (C : Cx p s m args meth c cX7_follower 4 wsx_X7_follower RX7 (some .int)) {uT : Md} (hK : va_K (gD G) vwCl (tyG G) s) (hA : ∀ q : Nat, s.heap.size ≤ q → A q) (hT : ST G A s s.heap) (hP : va_P (gD G) vwCl (cT G bT uT) s.heap) (hD : va_D A (cT G bT uT)) (hS : va_S A s.heap s.heap []) {r : Int32} : ∀ (n : Nat), ∀ (x2 : Int32) (x3 : Int32), fx_X7_follower_31 uT n x2 x3 = some r → ∀ {ls : Array Slot}, lv_has ls 4 [(0, .ref (bT 0)), (2, .int x2), (3, .int x3)] → W p l e rmx_X7_follower s m args below meth c s.heap [] 0 0 (MQ below (k2_QcV (.int r)) args s 0 0 (fun _ => False)) (F0 m 31 ls []) := by
  have hx := C.1.1
  have hb := C.1.2.1
  have hts := C.1.2.2.2.2
  have hown := C.1.2.2.2.1
  have hin7 : ∀ w ∈ wsX70, w ∈ wsx_X7_follower := fun w h => List.mem_cons_of_mem _ (List.mem_append_right _ (List.mem_append_right _ (List.mem_append_right _ (List.mem_append_left _ h))))
  intro n
  induction n with
  | zero =>
    intro x2 x3 hf ls hl
    cases hf
  | succ n ih =>
    intro x2 x3 hf ls hl
    rw [fx_X7_follower_31] at hf
    refine lv_iload_n hx hb dX7_follower_31 rfl (lv_at hl 2 rfl) ?_
    refine lv_sipush (v := (200 : Int32)) hx hb dX7_follower_32 (by decide) ?_
    refine lv_icmp_ge (tgt := 76) hx hb dX7_follower_35 (by decide) (fun c_7 => ?_) (fun c_7 => ?_)
    · replace hf := og_t c_7 hf
      refine lv_iconst (v := (-1 : Int32)) hx hb dX7_follower_76 (by decide) ?_
      obtain rfl := og_s hf
      exact rt_i C dX7_follower_77
    · replace hf := og_f c_7 hf
      refine lv_aload_n hx hb dX7_follower_38 rfl (lv_at hl 0 rfl) ?_
      refine lv_iload_n hx hb dX7_follower_39 rfl (lv_at hl 1 rfl) ?_
      obtain ⟨r_9, h_8, hf⟩ := og_b hf
      try dsimp only at hf
      refine xr_V (v := .int r_9) (rest := []) (w0 := (cT G bT uT)) C (cx_X7_has l G bT uT x2 r_9 _ h_8) (cwV 1 hts gx_X7_X7_has_63 rfl rfl rfl hdx_X7_has ⟨Nat.le_of_ble_eq_true rfl, Nat.le_of_ble_eq_true rfl⟩) hK hA hT hP hD hS (va_recv hK hP (ci := 4) (q0 := 0) rfl rfl) [0, 1, 2, 3, 4, 5, 6, 7, 8, 9, 10, 11, 12] rfl rfl rfl hl.1 rfl (Nat.le_of_ble_eq_true rfl) dX7_follower_40 ?_
      refine lv_if_eq (tgt := 76) hx hb dX7_follower_43 (by decide) (fun c_10 => ?_) (fun c_10 => ?_)
      · replace hf := og_t c_10 hf
        refine lv_iconst (v := (-1 : Int32)) hx hb dX7_follower_76 (by decide) ?_
        obtain rfl := og_s hf
        exact rt_i C dX7_follower_77
      · replace hf := og_f c_10 hf
        refine lv_aload_n hx hb dX7_follower_46 rfl (lv_at hl 0 rfl) ?_
        refine xg (v := .ref (bT 6)) (ci := 4) (K := RX7) (T := TX7) (N := 16) C hin7 hK hP 0 rfl rfl 5 (by decide) rfl (hts (Cond.fieldLink RX7 27 "SchematicText$Tree" "nexts" "[I") (List.mem_cons_of_mem _ mx_137)) rfl dX7_follower_47 ?_
        refine lv_iload_n hx hb dX7_follower_50 rfl (lv_at hl 1 rfl) ?_
        obtain ⟨h_11, hf⟩ := og_n hf
        refine va_iald (f := (ga uT 5)) hx hb hK hP 6 0 rfl rfl h_11 dX7_follower_51 ?_
        refine lv_iconst (v := (-1 : Int32)) hx hb dX7_follower_52 (by decide) ?_
        refine lv_icmp_eq (tgt := 63) hx hb dX7_follower_53 (by decide) (fun c_12 => ?_) (fun c_12 => ?_)
        · replace hf := og_t c_12 hf
          refine lv_aload_n hx hb dX7_follower_63 rfl (lv_at hl 0 rfl) ?_
          refine xg (v := .ref (bT 2)) (ci := 4) (K := RX7) (T := TX7) (N := 16) C hin7 hK hP 0 rfl rfl 1 (by decide) rfl (hts (Cond.fieldLink RX7 15 "SchematicText$Tree" "parents" "[I") (List.mem_cons_of_mem _ mx_128)) rfl dX7_follower_64 ?_
          refine lv_iload_n hx hb dX7_follower_67 rfl (lv_at hl 1 rfl) ?_
          obtain ⟨h_13, hf⟩ := og_n hf
          refine va_iald (f := (ga uT 1)) hx hb hK hP 2 0 rfl rfl h_13 dX7_follower_68 ?_
          refine lv_istore_n (lv' := [(2, .int ((ga uT 1) (x2).toNatClampNeg)), (0, .ref (bT 0)), (3, .int x3)]) hx hb dX7_follower_69 rfl hl (by decide) rfl (fun ls hl => ?_)
          refine lv_iinc (v := (x3 + (1 : Int32))) (lv' := [(3, .int (x3 + (1 : Int32))), (2, .int ((ga uT 1) (x2).toNatClampNeg)), (0, .ref (bT 0))]) hx hb dX7_follower_70 hl (k := 2) rfl rfl (by decide) rfl (fun ls hl => ?_)
          refine lv_goto (tgt := 31) hx hb dX7_follower_73 (by decide) ?_
          exact ih ((ga uT 1) (x2).toNatClampNeg) (x3 + (1 : Int32)) hf (lv_sub hl [2, 1, 0] rfl)
        · replace hf := og_f c_12 hf
          refine lv_aload_n hx hb dX7_follower_56 rfl (lv_at hl 0 rfl) ?_
          refine xg (v := .ref (bT 6)) (ci := 4) (K := RX7) (T := TX7) (N := 16) C hin7 hK hP 0 rfl rfl 5 (by decide) rfl (hts (Cond.fieldLink RX7 27 "SchematicText$Tree" "nexts" "[I") (List.mem_cons_of_mem _ mx_137)) rfl dX7_follower_57 ?_
          refine lv_iload_n hx hb dX7_follower_60 rfl (lv_at hl 1 rfl) ?_
          obtain ⟨h_14, hf⟩ := og_n hf
          refine va_iald (f := (ga uT 5)) hx hb hK hP 6 0 rfl rfl h_14 dX7_follower_61 ?_
          obtain rfl := og_s hf
          exact rt_i C dX7_follower_62
def fx_X7_follower (uT : Md) (x1 : Int32) : Option Int32 := ((fx_X7_has uT x1).bind fun r_2 => (if r_2 = 0 then (some (-1 : Int32)) else (if x1 < 0 ∨ 200 ≤ (x1).toNatClampNeg then none else (if ((ga uT 3) (x1).toNatClampNeg) = (-1 : Int32) then (fx_X7_follower_31 uT FU x1 (0 : Int32)) else (if x1 < 0 ∨ 200 ≤ (x1).toNatClampNeg then none else (some ((ga uT 3) (x1).toNatClampNeg)))))))
set_option maxHeartbeats 4000000 in
set_option maxRecDepth 100000 in
theorem cx_X7_follower (l : Launch) (G : Gx) (bT : Nat → Nat) (uT : Md) (x1 : Int32) (r : Int32) (sz : Nat) (hf : fx_X7_follower uT x1 = some r) : Met l yX7_follower wsx_X7_follower rmx_X7_follower (pX G (cT G bT uT) sz [.ref (bT 0), .int x1]) (k2_QcV (.int r)) 0 0 (fun _ => False) := by
  refine mx_r (cc := cX7_follower) (maxL := 4) (ret := (some .int)) (by decide) rfl (Nat.le_of_ble_eq_true rfl) ?_
  intro p e s m below meth c ls A C hl hK hA hT hP hD hS
  have hl : lv_has ls 4 [(0, .ref (bT 0)), (1, .int x1)] := hl
  have hx := C.1.1
  have hb := C.1.2.1
  have hts := C.1.2.2.2.2
  have hown := C.1.2.2.2.1
  have hin7 : ∀ w ∈ wsX70, w ∈ wsx_X7_follower := fun w h => List.mem_cons_of_mem _ (List.mem_append_right _ (List.mem_append_right _ (List.mem_append_right _ (List.mem_append_left _ h))))
  unfold fx_X7_follower at hf
  refine lv_aload_n hx hb dX7_follower_0 rfl (lv_at hl 0 rfl) ?_
  refine lv_iload_n hx hb dX7_follower_1 rfl (lv_at hl 1 rfl) ?_
  obtain ⟨r_2, h_1, hf⟩ := og_b hf
  try dsimp only at hf
  refine xr_V (v := .int r_2) (rest := []) (w0 := (cT G bT uT)) C (cx_X7_has l G bT uT x1 r_2 _ h_1) (cwV 1 hts gx_X7_X7_has_63 rfl rfl rfl hdx_X7_has ⟨Nat.le_of_ble_eq_true rfl, Nat.le_of_ble_eq_true rfl⟩) hK hA hT hP hD hS (va_recv hK hP (ci := 4) (q0 := 0) rfl rfl) [0, 1, 2, 3, 4, 5, 6, 7, 8, 9, 10, 11, 12] rfl rfl rfl hl.1 rfl (Nat.le_of_ble_eq_true rfl) dX7_follower_2 ?_
  refine lv_if_ne (tgt := 10) hx hb dX7_follower_5 (by decide) (fun c_3 => ?_) (fun c_3 => ?_)
  · replace hf := og_f c_3 hf
    refine lv_aload_n hx hb dX7_follower_10 rfl (lv_at hl 0 rfl) ?_
    refine xg (v := .ref (bT 4)) (ci := 4) (K := RX7) (T := TX7) (N := 16) C hin7 hK hP 0 rfl rfl 3 (by decide) rfl (hts (Cond.fieldLink RX7 21 "SchematicText$Tree" "firsts" "[I") (List.mem_cons_of_mem _ mx_135)) rfl dX7_follower_11 ?_
    refine lv_iload_n hx hb dX7_follower_14 rfl (lv_at hl 1 rfl) ?_
    obtain ⟨h_4, hf⟩ := og_n hf
    refine va_iald (f := (ga uT 3)) hx hb hK hP 4 0 rfl rfl h_4 dX7_follower_15 ?_
    refine lv_iconst (v := (-1 : Int32)) hx hb dX7_follower_16 (by decide) ?_
    refine lv_icmp_eq (tgt := 27) hx hb dX7_follower_17 (by decide) (fun c_5 => ?_) (fun c_5 => ?_)
    · replace hf := og_t c_5 hf
      refine lv_iload_n hx hb dX7_follower_27 rfl (lv_at hl 1 rfl) ?_
      refine lv_istore_n (lv' := [(2, .int x1), (0, .ref (bT 0)), (1, .int x1)]) hx hb dX7_follower_28 rfl hl (by decide) rfl (fun ls hl => ?_)
      refine lv_iconst (v := (0 : Int32)) hx hb dX7_follower_29 (by decide) ?_
      refine lv_istore_n (lv' := [(3, .int (0 : Int32)), (2, .int x1), (0, .ref (bT 0)), (1, .int x1)]) hx hb dX7_follower_30 rfl hl (by decide) rfl (fun ls hl => ?_)
      exact wx_X7_follower_31 C hK hA hT hP hD hS FU x1 (0 : Int32) hf (lv_sub hl [2, 1, 0] rfl)
    · replace hf := og_f c_5 hf
      refine lv_aload_n hx hb dX7_follower_20 rfl (lv_at hl 0 rfl) ?_
      refine xg (v := .ref (bT 4)) (ci := 4) (K := RX7) (T := TX7) (N := 16) C hin7 hK hP 0 rfl rfl 3 (by decide) rfl (hts (Cond.fieldLink RX7 21 "SchematicText$Tree" "firsts" "[I") (List.mem_cons_of_mem _ mx_135)) rfl dX7_follower_21 ?_
      refine lv_iload_n hx hb dX7_follower_24 rfl (lv_at hl 1 rfl) ?_
      obtain ⟨h_6, hf⟩ := og_n hf
      refine va_iald (f := (ga uT 3)) hx hb hK hP 4 0 rfl rfl h_6 dX7_follower_25 ?_
      obtain rfl := og_s hf
      exact rt_i C dX7_follower_26
  · replace hf := og_t c_3 hf
    refine lv_iconst (v := (-1 : Int32)) hx hb dX7_follower_8 (by decide) ?_
    obtain rfl := og_s hf
    exact rt_i C dX7_follower_9
