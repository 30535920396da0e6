abbrev rmx_X7_numberOf : Room := { frames := 1, cells := 0, slots := 0, locals := 22 }
noncomputable abbrev wsx_X7_numberOf : List Cond := Cond.code yX7_numberOf cX7_numberOf 3 (some .long) :: WAX
theorem hdx_X7_numberOf : yX7_numberOf.cls = RX7 ∧ yX7_numberOf.cls ≠ "java/lang/invoke/MethodHandle" ∧ yX7_numberOf.cls ≠ "java/lang/invoke/VarHandle" ∧ (parseMethodDescriptor yX7_numberOf.desc).map (fun d => d.parameters.length) = some 2 := by decide +kernel
def fx_X7_numberOf (uT : Md) (x1 : Int32) (x2 : Int32) : Option Int64 := ((fx_X7_hasNumber uT x1 x2).bind fun r_2 => (if r_2 = 0 then (some (0 : Int64)) else (if ((x1 * (5 : Int32)) + x2) < 0 ∨ 1000 ≤ (((x1 * (5 : Int32)) + x2)).toNatClampNeg then none else (some ((gn uT) (((x1 * (5 : Int32)) + x2)).toNatClampNeg)))))
set_option maxHeartbeats 4000000 in
set_option maxRecDepth 100000 in
theorem cx_X7_numberOf (l : Launch) (G : Gx) (bT : Nat → Nat) (uT : Md) (x1 : Int32) (x2 : Int32) (r : Int64) (sz : Nat) (hf : fx_X7_numberOf uT x1 x2 = some r) : Met l yX7_numberOf wsx_X7_numberOf rmx_X7_numberOf (pX G (cT G bT uT) sz [.ref (bT 0), .int x1, .int x2]) (k2_QcV (.long r)) 0 0 (fun _ => False) := by
  refine mx_r (cc := cX7_numberOf) (maxL := 3) (ret := (some .long)) (by decide) rfl (Nat.le_of_ble_eq_true rfl) ?_
  intro p e s m below meth c ls A C hl hK hA hT hP hD hS
  have hl : lv_has ls 3 [(0, .ref (bT 0)), (1, .int x1), (2, .int x2)] := hl
  have hx := C.1.1
  have hb := C.1.2.1
  have hts := C.1.2.2.2.2
  have hown := C.1.2.2.2.1
  have hin7 : ∀ w ∈ wsX70, w ∈ wsx_X7_numberOf := fun w h => List.mem_cons_of_mem _ (List.mem_append_right _ (List.mem_append_right _ (List.mem_append_right _ (List.mem_append_left _ h))))
  unfold fx_X7_numberOf at hf
  refine lv_aload_n hx hb dX7_numberOf_0 rfl (lv_at hl 0 rfl) ?_
  refine lv_iload_n hx hb dX7_numberOf_1 rfl (lv_at hl 1 rfl) ?_
  refine lv_iload_n hx hb dX7_numberOf_2 rfl (lv_at hl 2 rfl) ?_
  obtain ⟨r_2, h_1, hf⟩ := og_b hf
  try dsimp only at hf
  refine xr_V (v := .int r_2) (rest := []) (w0 := (cT G bT uT)) C (cx_X7_hasNumber l G bT uT x1 x2 r_2 _ h_1) (cwV 2 hts gx_X7_X7_hasNumber_130 rfl rfl rfl hdx_X7_hasNumber ⟨Nat.le_of_ble_eq_true rfl, Nat.le_of_ble_eq_true rfl⟩) hK hA hT hP hD hS (va_recv hK hP (ci := 4) (q0 := 0) rfl rfl) [0, 1, 2, 3, 4, 5, 6, 7, 8, 9, 10, 11, 12] rfl rfl rfl hl.1 rfl (Nat.le_of_ble_eq_true rfl) dX7_numberOf_3 ?_
  refine lv_if_eq (tgt := 22) hx hb dX7_numberOf_6 (by decide) (fun c_3 => ?_) (fun c_3 => ?_)
  · replace hf := og_t c_3 hf
    refine lv_lconst (v := (0 : Int64)) hx hb dX7_numberOf_22 (by decide) ?_
    obtain rfl := og_s hf
    exact rt_l C dX7_numberOf_23
  · replace hf := og_f c_3 hf
    refine lv_aload_n hx hb dX7_numberOf_9 rfl (lv_at hl 0 rfl) ?_
    refine xg (v := .ref (bT 7)) (ci := 4) (K := RX7) (T := TX7) (N := 16) C hin7 hK hP 0 rfl rfl 6 (by decide) rfl (hts (Cond.fieldLink RX7 30 "SchematicText$Tree" "numbers" "[J") (List.mem_cons_of_mem _ mx_173)) rfl dX7_numberOf_10 ?_
    refine lv_iload_n hx hb dX7_numberOf_13 rfl (lv_at hl 1 rfl) ?_
    refine lv_iconst (v := (5 : Int32)) hx hb dX7_numberOf_14 (by decide) ?_
    refine lv_imul hx hb dX7_numberOf_15 ?_
    refine lv_iload_n hx hb dX7_numberOf_16 rfl (lv_at hl 2 rfl) ?_
    refine lv_iadd hx hb dX7_numberOf_17 ?_
    obtain ⟨h_4, hf⟩ := og_n hf
    refine va_lald (f := (gn uT)) hx hb hK hP 7 1 rfl rfl h_4 dX7_numberOf_18 ?_
    refine lv_goto (tgt := 23) hx hb dX7_numberOf_19 (by decide) ?_
    obtain rfl := og_s hf
    exact rt_l C dX7_numberOf_23
theorem gx_X7_X8_isTextMark_140 {c0 : Cond} : GoodIn (c0 :: WAX) wsx_X8_isTextMark := gdx_n mx_248
abbrev rmx_X7_fitsText : Room := { frames := 2, cells := 0, slots := 0, locals := 44 }
noncomputable abbrev wsx_X7_fitsText : List Cond := Cond.code yX7_fitsText cX7_fitsText 8 (some .boolean) :: WAX
theorem hdx_X7_fitsText : yX7_fitsText.cls = RX7 ∧ yX7_fitsText.cls ≠ "java/lang/invoke/MethodHandle" ∧ yX7_fitsText.cls ≠ "java/lang/invoke/VarHandle" ∧ (parseMethodDescriptor yX7_fitsText.desc).map (fun d => d.parameters.length) = some 3 := by decide +kernel
def fx_X7_fitsText_50 (uT : Md) (k7 : Int32 → Int32 → Int64 → Int32 → Int32 → Option Int32) (x1 : Int32) (x2 : Int32) (x3 : Int64) (x6 : Int32) (y0 : Int32) (y1 : Int32) : Option Int32 := (k7 x1 x2 x3 (y1 + y0) (x6 + (-8 : Int32)))
set_option maxHeartbeats 4000000 in
set_option maxRecDepth 100000 in
theorem wx_X7_fitsText_50 {p : Program} {l : Launch} {e : Env} {s : State} {m : MethodId} {args : Array Value} {below : List Frame} {meth : Method} {c : Code} {G : Gx} {A : Nat → Prop} {bT : Nat → Nat} (C : Cx p s m args meth c cX7_fitsText 8 wsx_X7_fitsText RX7 (some .boolean)) {uT : Md} (hK : va_K (gD G) vwCl (tyG G) s) (hA : ∀ q : Nat, s.heap.size ≤ q → A q) (hT : ST G A s s.heap) (hP : va_P (gD G) vwCl (cT G bT uT) s.heap) (hD : va_D A (cT G bT uT)) (hS : va_S A s.heap s.heap []) {r : Int32} (k7 : Int32 → Int32 → Int64 → Int32 → Int32 → Option Int32) (ih7 : ∀ (x1 : Int32) (x2 : Int32) (x3 : Int64) (x5 : Int32) (x6 : Int32), k7 x1 x2 x3 x5 x6 = some r → ∀ {ls : Array Slot}, lv_has ls 8 [(0, .ref (bT 0)), (1, .int x1), (2, .int x2), (3, .long x3), (5, .int x5), (6, .int x6)] → W p l e rmx_X7_fitsText s m args below meth c s.heap [] 0 0 (MQ below (k2_QcV (.int r)) args s 0 0 (fun _ => False)) (F0 m 7 ls [])) : ∀ (x1 : Int32) (x2 : Int32) (x3 : Int64) (x6 : Int32) (y0 : Int32) (y1 : Int32), fx_X7_fitsText_50 uT k7 x1 x2 x3 x6 y0 y1 = some r → ∀ {ls : Array Slot}, lv_has ls 8 [(0, .ref (bT 0)), (1, .int x1), (2, .int x2), (3, .long x3), (6, .int x6)] → W p l e rmx_X7_fitsText s m args below meth c s.heap [] 0 0 (MQ below (k2_QcV (.int r)) args s 0 0 (fun _ => False)) (F0 m 50 ls [.int y0, .int y1]) := by
  have hx := C.1.1
  have hb := C.1.2.1
  have hts := C.1.2.2.2.2
  have hown := C.1.2.2.2.1
  have hin7 : ∀ w ∈ wsX70, w ∈ wsx_X7_fitsText := fun w h => List.mem_cons_of_mem _ (List.mem_append_right _ (List.mem_append_right _ (List.mem_append_right _ (List.mem_append_left _ h))))
  intro x1 x2 x3 x6 y0 y1 hf ls hl
  unfold fx_X7_fitsText_50 at hf
  refine lv_iadd hx hb dX7_fitsText_50 ?_
  refine lv_istore (lv' := [(5, .int (y1 + y0)), (0, .ref (bT 0)), (1, .int x1), (2, .int x2), (3, .long x3), (6, .int x6)]) hx hb dX7_fitsText_51 hl (by decide) rfl (fun ls hl => ?_)
  refine lv_iinc (v := (x6 + (-8 : Int32))) (lv' := [(6, .int (x6 + (-8 : Int32))), (5, .int (y1 + y0)), (0, .ref (bT 0)), (1, .int x1), (2, .int x2), (3, .long x3)]) hx hb dX7_fitsText_53 hl (k := 5) rfl rfl (by decide) rfl (fun ls hl => ?_)
  refine lv_goto (tgt := 7) hx hb dX7_fitsText_56 (by decide) ?_
  exact ih7 x1 x2 x3 (y1 + y0) (x6 + (-8 : Int32)) hf (lv_sub hl [2, 3, 4, 5, 1, 0] rfl)
def fx_X7_fitsText_38 (uT : Md) (k7 : Int32 → Int32 → Int64 → Int32 → Int32 → Option Int32) (x1 : Int32) (x2 : Int32) (x3 : Int64) (x5 : Int32) (x6 : Int32) (x7 : Int32) : Option Int32 := (if x7 = 0 then (fx_X7_fitsText_50 uT k7 x1 x2 x3 x6 (0 : Int32) x5) else (fx_X7_fitsText_50 uT k7 x1 x2 x3 x6 (1 : Int32) x5))
set_option maxHeartbeats 4000000 in
set_option maxRecDepth 100000 in
theorem wx_X7_fitsText_38 {p : Program} {l : Launch} {e : Env} {s : State} {m : MethodId} {args : Array Value} {below : List Frame} {meth : Method} {c : Code} {G : Gx} {A : Nat → Prop} {bT : Nat → Nat} (C : Cx p s m args meth c cX7_fitsText 8 wsx_X7_fitsText RX7 (some .boolean)) {uT : Md} (hK : va_K (gD G) vwCl (tyG G) s) (hA : ∀ q : Nat, s.heap.size ≤ q → A q) (hT : ST G A s s.heap) (hP : va_P (gD G) vwCl (cT G bT uT) s.heap) (hD : va_D A (cT G bT uT)) (hS : va_S A s.heap s.heap []) {r : Int32} (k7 : Int32 → Int32 → Int64 → Int32 → Int32 → Option Int32) (ih7 : ∀ (x1 : Int32) (x2 : Int32) (x3 : Int64) (x5 : Int32) (x6 : Int32), k7 x1 x2 x3 x5 x6 = some r → ∀ {ls : Array Slot}, lv_has ls 8 [(0, .ref (bT 0)), (1, .int x1), (2, .int x2), (3, .long x3), (5, .int x5), (6, .int x6)] → W p l e rmx_X7_fitsText s m args below meth c s.heap [] 0 0 (MQ below (k2_QcV (.int r)) args s 0 0 (fun _ => False)) (F0 m 7 ls [])) : ∀ (x1 : Int32) (x2 : Int32) (x3 : Int64) (x5 : Int32) (x6 : Int32) (x7 : Int32), fx_X7_fitsText_38 uT k7 x1 x2 x3 x5 x6 x7 = some r → ∀ {ls : Array Slot}, lv_has ls 8 [(0, .ref (bT 0)), (1, .int x1), (2, .int x2), (3, .long x3), (5, .int x5), (6, .int x6), (7, .int x7)] → W p l e rmx_X7_fitsText s m args below meth c s.heap [] 0 0 (MQ below (k2_QcV (.int r)) args s 0 0 (fun _ => False)) (F0 m 38 ls []) := by
  have hx := C.1.1
  have hb := C.1.2.1
  have hts := C.1.2.2.2.2
  have hown := C.1.2.2.2.1
  have hin7 : ∀ w ∈ wsX70, w ∈ wsx_X7_fitsText := fun w h => List.mem_cons_of_mem _ (List.mem_append_right _ (List.mem_append_right _ (List.mem_append_right _ (List.mem_append_left _ h))))
  intro x1 x2 x3 x5 x6 x7 hf ls hl
  unfold fx_X7_fitsText_38 at hf
  refine lv_iload hx hb dX7_fitsText_38 (lv_at hl 4 rfl) ?_
  refine lv_iload hx hb dX7_fitsText_40 (lv_at hl 6 rfl) ?_
  refine lv_if_ne (tgt := 49) hx hb dX7_fitsText_42 (by decide) (fun c_9 => ?_) (fun c_9 => ?_)
  · replace hf := og_f c_9 hf
    refine lv_iconst (v := (1 : Int32)) hx hb dX7_fitsText_49 (by decide) ?_
    exact wx_X7_fitsText_50 C hK hA hT hP hD hS k7 (fun _ _ _ _ _ h9 => ih7 _ _ _ _ _ h9) x1 x2 x3 x6 (1 : Int32) x5 hf (lv_sub hl [0, 1, 2, 3, 5] rfl)
  · replace hf := og_t c_9 hf
    refine lv_iconst (v := (0 : Int32)) hx hb dX7_fitsText_45 (by decide) ?_
    refine lv_goto (tgt := 50) hx hb dX7_fitsText_46 (by decide) ?_
    exact wx_X7_fitsText_50 C hK hA hT hP hD hS k7 (fun _ _ _ _ _ h9 => ih7 _ _ _ _ _ h9) x1 x2 x3 x6 (0 : Int32) x5 hf (lv_sub hl [0, 1, 2, 3, 5] rfl)
def fx_X7_fitsText_7 (uT : Md) : Nat → Int32 → Int32 → Int64 → Int32 → Int32 → Option Int32
  | 0, _, _, _, _, _ => none
  | n + 1, x1, x2, x3, x5, x6 => (if x6 < 0 then ((fx_X7_textSize uT x1 x2).bind fun r_3 => (if (40 : Int32) < (r_3 + x5) then (some (0 : Int32)) else (some (1 : Int32)))) else (if ((((x3).toUInt64 >>> ((x6).toInt64.toUInt64 &&& Int64.toUInt64 63)).toInt64).toInt32 &&& (255 : Int32)) = 0 then (fx_X7_fitsText_38 uT (fx_X7_fitsText_7 uT n) x1 x2 x3 x5 x6 ((((x3).toUInt64 >>> ((x6).toInt64.toUInt64 &&& Int64.toUInt64 63)).toInt64).toInt32 &&& (255 : Int32))) else ((fx_X8_isTextMark ((((x3).toUInt64 >>> ((x6).toInt64.toUInt64 &&& Int64.toUInt64 63)).toInt64).toInt32 &&& (255 : Int32))).bind fun r_7 => (if r_7 = 0 then (some (0 : Int32)) else (fx_X7_fitsText_38 uT (fx_X7_fitsText_7 uT n) x1 x2 x3 x5 x6 ((((x3).toUInt64 >>> ((x6).toInt64.toUInt64 &&& Int64.toUInt64 63)).toInt64).toInt32 &&& (255 : Int32)))))))
set_option maxHeartbeats 4000000 in
set_option maxRecDepth 100000 in
theorem wx_X7_fitsText_7 {p : Program} {l : Launch} {e : Env} {s : State} {m : MethodId} {args : Array Value} {below : List Frame} {meth : Method} {c : Code} {G : Gx} {A : Nat → Prop} {bT : Nat → Nat} (C : Cx p s m args meth c cX7_fitsText 8 wsx_X7_fitsText RX7 (some .boolean)) {uT : Md} (hK : va_K (gD G) vwCl (tyG G) s) (hA : ∀ q : Nat, s.heap.size ≤ q → A q) (hT : ST G A s s.heap) (hP : va_P (gD G) vwCl (cT G bT uT) s.heap) (hD : va_D A (cT G bT uT)) (hS : va_S A s.heap s.heap []) {r : Int32} : ∀ (n : Nat), ∀ (x1 : Int32) (x2 : Int32) (x3 : Int64) (x5 : Int32) (x6 : Int32), fx_X7_fitsText_7 uT n x1 x2 x3 x5 x6 = some r → ∀ {ls : Array Slot}, lv_has ls 8 [(0, .ref (bT 0)), (1, .int x1), (2, .int x2), (3, .long x3), (5, .int x5), (6, .int x6)] → W p l e rmx_X7_fitsText s m args below meth c s.heap [] 0 0 (MQ below (k2_QcV (.int r)) args s 0 0 (fun _ => False)) (F0 m 7 ls []) := by
  have hx := C.1.1
  have hb := C.1.2.1
  have hts := C.1.2.2.2.2
  have hown := C.1.2.2.2.1
  have hin7 : ∀ w ∈ wsX70, w ∈ wsx_X7_fitsText := fun w h => List.mem_cons_of_mem _ (List.mem_append_right _ (List.mem_append_right _ (List.mem_append_right _ (List.mem_append_left _ h))))
  intro n
  induction n with
  | zero =>
    intro x1 x2 x3 x5 x6 hf ls hl
    cases hf
  | succ n ih =>
    intro x1 x2 x3 x5 x6 hf ls hl
    rw [fx_X7_fitsText_7] at hf
    refine lv_iload hx hb dX7_fitsText_7 (lv_at hl 5 rfl) ?_
    refine lv_if_lt (tgt := 59) hx hb dX7_fitsText_9 (by decide) (fun c_1 => ?_) (fun c_1 => ?_)
    · replace hf := og_t c_1 hf
      refine lv_aload_n hx hb dX7_fitsText_59 rfl (lv_at hl 0 rfl) ?_
      refine lv_iload_n hx hb dX7_fitsText_60 rfl (lv_at hl 1 rfl) ?_
      refine lv_iload_n hx hb dX7_fitsText_61 rfl (lv_at hl 2 rfl) ?_
      obtain ⟨r_3, h_2, hf⟩ := og_b hf
      try dsimp only at hf
      refine xr_V (v := .int r_3) (rest := []) (w0 := (cT G bT uT)) C (cx_X7_textSize l G bT uT x1 x2 r_3 _ h_2) (cwV 2 hts gx_X7_X7_textSize_137 rfl rfl rfl hdx_X7_textSize ⟨Nat.le_of_ble_eq_true rfl, Nat.le_of_ble_eq_true rfl⟩) hK hA hT hP hD hS (va_recv hK hP (ci := 4) (q0 := 0) rfl rfl) [0, 1, 2, 3, 4, 5, 6, 7, 8, 9, 10, 11, 12] rfl rfl rfl hl.1 rfl (Nat.le_of_ble_eq_true rfl) dX7_fitsText_62 ?_
      refine lv_iload hx hb dX7_fitsText_65 (lv_at hl 4 rfl) ?_
      refine lv_iadd hx hb dX7_fitsText_67 ?_
      refine lv_bipush (v := (40 : Int32)) hx hb dX7_fitsText_68 (by decide) ?_
      refine lv_icmp_gt (tgt := 77) hx hb dX7_fitsText_70 (by decide) (fun c_4 => ?_) (fun c_4 => ?_)
      · replace hf := og_t c_4 hf
        refine lv_iconst (v := (0 : Int32)) hx hb dX7_fitsText_77 (by decide) ?_
        obtain rfl := og_s hf
        exact rt_z C (nz_z (Or.inl rfl)) dX7_fitsText_78
      · replace hf := og_f c_4 hf
        refine lv_iconst (v := (1 : Int32)) hx hb dX7_fitsText_73 (by decide) ?_
        refine lv_goto (tgt := 78) hx hb dX7_fitsText_74 (by decide) ?_
        obtain rfl := og_s hf
        exact rt_z C (nz_z (Or.inr rfl)) dX7_fitsText_78
    · replace hf := og_f c_1 hf
      refine lv_lload_n hx hb dX7_fitsText_12 rfl (lv_at hl 3 rfl) ?_
      refine lv_iload hx hb dX7_fitsText_13 (lv_at hl 5 rfl) ?_
      refine lv_lushr (v := ((x3).toUInt64 >>> ((x6).toInt64.toUInt64 &&& Int64.toUInt64 63)).toInt64) hx hb dX7_fitsText_15 rfl ?_
      refine lv_l2i (v := (((x3).toUInt64 >>> ((x6).toInt64.toUInt64 &&& Int64.toUInt64 63)).toInt64).toInt32) hx hb dX7_fitsText_16 rfl ?_
      refine lv_sipush (v := (255 : Int32)) hx hb dX7_fitsText_17 (by decide) ?_
      refine lv_iand hx hb dX7_fitsText_20 ?_
      refine lv_istore (lv' := [(7, .int ((((x3).toUInt64 >>> ((x6).toInt64.toUInt64 &&& Int64.toUInt64 63)).toInt64).toInt32 &&& (255 : Int32))), (0, .ref (bT 0)), (1, .int x1), (2, .int x2), (3, .long x3), (5, .int x5), (6, .int x6)]) hx hb dX7_fitsText_21 hl (by decide) rfl (fun ls hl => ?_)
      refine lv_iload hx hb dX7_fitsText_23 (lv_at hl 0 rfl) ?_
      refine lv_if_eq (tgt := 38) hx hb dX7_fitsText_25 (by decide) (fun c_5 => ?_) (fun c_5 => ?_)
      · replace hf := og_t c_5 hf
        exact wx_X7_fitsText_38 C hK hA hT hP hD hS (fx_X7_fitsText_7 uT n) (fun _ _ _ _ _ h9 => ih _ _ _ _ _ h9) x1 x2 x3 x5 x6 ((((x3).toUInt64 >>> ((x6).toInt64.toUInt64 &&& Int64.toUInt64 63)).toInt64).toInt32 &&& (255 : Int32)) hf (lv_sub hl [1, 2, 3, 4, 5, 6, 0] rfl)
      · replace hf := og_f c_5 hf
        refine lv_iload hx hb dX7_fitsText_28 (lv_at hl 0 rfl) ?_
        obtain ⟨r_7, h_6, hf⟩ := og_b hf
        try dsimp only at hf
        refine xr_SN (v := .int r_7) (rest := []) C (cx_X8_isTextMark l G ((((x3).toUInt64 >>> ((x6).toInt64.toUInt64 &&& Int64.toUInt64 63)).toInt64).toInt32 &&& (255 : Int32)) r_7 _ h_6) ⟨va_cnB 1 hts gx_X7_X8_isTextMark_140 rfl rfl rfl (hT.2.2.1 ("SchematicText$Tree", 140, ⟨"SchematicText", "isTextMark", "(I)Z"⟩, "SchematicText") (by decide +kernel)) (hts (Cond.initialized RX8) (List.mem_cons_of_mem _ mx_32)) hdx_X8_isTextMark ⟨Nat.le_of_ble_eq_true rfl, Nat.le_of_ble_eq_true rfl⟩, hts (Cond.static yX8_isTextMark) (List.mem_cons_of_mem _ mx_247), trivial⟩ hK hA hT hP hD hS rfl hl.1 rfl (Nat.le_of_ble_eq_true rfl) dX7_fitsText_30 ?_
        refine lv_if_ne (tgt := 38) hx hb dX7_fitsText_33 (by decide) (fun c_8 => ?_) (fun c_8 => ?_)
        · replace hf := og_f c_8 hf
          exact wx_X7_fitsText_38 C hK hA hT hP hD hS (fx_X7_fitsText_7 uT n) (fun _ _ _ _ _ h9 => ih _ _ _ _ _ h9) x1 x2 x3 x5 x6 ((((x3).toUInt64 >>> ((x6).toInt64.toUInt64 &&& Int64.toUInt64 63)).toInt64).toInt32 &&& (255 : Int32)) hf (lv_sub hl [1, 2, 3, 4, 5, 6, 0] rfl)
        · replace hf := og_t c_8 hf
          refine lv_iconst (v := (0 : Int32)) hx hb dX7_fitsText_36 (by decide) ?_
          obtain rfl := og_s hf
          exact rt_z C (nz_z (Or.inl rfl)) dX7_fitsText_37
def fx_X7_fitsText (uT : Md) (x1 : Int32) (x2 : Int32) (x3 : Int64) : Option Int32 := (fx_X7_fitsText_7 uT FU x1 x2 x3 (0 : Int32) (56 : Int32))
set_option maxHeartbeats 4000000 in
set_option maxRecDepth 100000 in
theorem cx_X7_fitsText (l : Launch) (G : Gx) (bT : Nat → Nat) (uT : Md) (x1 : Int32) (x2 : Int32) (x3 : Int64) (r : Int32) (sz : Nat) (hf : fx_X7_fitsText uT x1 x2 x3 = some r) : Met l yX7_fitsText wsx_X7_fitsText rmx_X7_fitsText (pX G (cT G bT uT) sz [.ref (bT 0), .int x1, .int x2, .long x3]) (k2_QcV (.int r)) 0 0 (fun _ => False) := by
  refine mx_r (cc := cX7_fitsText) (maxL := 8) (ret := (some .boolean)) (by decide) rfl (Nat.le_of_ble_eq_true rfl) ?_
  intro p e s m below meth c ls A C hl hK hA hT hP hD hS
  have hl : lv_has ls 8 [(0, .ref (bT 0)), (1, .int x1), (2, .int x2), (3, .long x3)] := hl
  have hx := C.1.1
  have hb := C.1.2.1
  have hts := C.1.2.2.2.2
  have hown := C.1.2.2.2.1
  have hin7 : ∀ w ∈ wsX70, w ∈ wsx_X7_fitsText := fun w h => List.mem_cons_of_mem _ (List.mem_append_right _ (List.mem_append_right _ (List.mem_append_right _ (List.mem_append_left _ h))))
  unfold fx_X7_fitsText at hf
  refine lv_iconst (v := (0 : Int32)) hx hb dX7_fitsText_0 (by decide) ?_
  refine lv_istore (lv' := [(5, .int (0 : Int32)), (0, .ref (bT 0)), (1, .int x1), (2, .int x2), (3, .long x3)]) hx hb dX7_fitsText_1 hl (by decide) rfl (fun ls hl => ?_)
  refine lv_bipush (v := (56 : Int32)) hx hb dX7_fitsText_3 (by decide) ?_
  refine lv_istore (lv' := [(6, .int (56 : Int32)), (5, .int (0 : Int32)), (0, .ref (bT 0)), (1, .int x1), (2, .int x2), (3, .long x3)]) hx hb dX7_fitsText_5 hl (by decide) rfl (fun ls hl => ?_)
  exact wx_X7_fitsText_7 C hK hA hT hP hD hS FU x1 x2 x3 (0 : Int32) (56 : Int32) hf (lv_sub hl [2, 3, 4, 5, 1, 0] rfl)
theorem gx_X7_X7_appendToText_143 {c0 : Cond} : GoodIn (c0 :: WAX) (wsV RX7 143 RX7 yX7_appendToText wsx_X7_appendToText) := gdx_v mx_463 mx_256 mx_257 mx_99 mx_258
abbrev rmx_X7_extendText : Room := { frames := 2, cells := 0, slots := 0, locals := 47 }
noncomputable abbrev wsx_X7_extendText : List Cond := Cond.code yX7_extendText cX7_extendText 7 none :: WAX
theorem hdx_X7_extendText : yX7_extendText.cls = RX7 ∧ yX7_extendText.cls ≠ "java/lang/invoke/MethodHandle" ∧ yX7_extendText.cls ≠ "java/lang/invoke/VarHandle" ∧ (parseMethodDescriptor yX7_extendText.desc).map (fun d => d.parameters.length) = some 3 := by decide +kernel
def fx_X7_extendText_45 (k16 : Md → Int32 → Int32 → Int64 → Int32 → Option Md) (uT : Md) (x1 : Int32) (x2 : Int32) (x3 : Int64) (x5 : Int32) : Option Md := (k16 uT x1 x2 x3 (x5 + (-8 : Int32)))
set_option maxHeartbeats 4000000 in
set_option maxRecDepth 100000 in
theorem wx_X7_extendText_45 {p : Program} {l : Launch} {e : Env} {s : State} {m : MethodId} {args : Array Value} {below : List Frame} {meth : Method} {c : Code} {G : Gx} {A : Nat → Prop} {bT : Nat → Nat} (C : Cx p s m args meth c cX7_extendText 7 wsx_X7_extendText RX7 none) (hK : va_K (gD G) vwCl (tyG G) s) (hA : ∀ q : Nat, s.heap.size ≤ q → A q) (hT : ST G A s s.heap) {r : Md} (k16 : Md → Int32 → Int32 → Int64 → Int32 → Option Md) (ih16 : ∀ (uT : Md) (x1 : Int32) (x2 : Int32) (x3 : Int64) (x5 : Int32), k16 uT x1 x2 x3 x5 = some r → ∀ {H : Heap} {locs : List Loc}, va_P (gD G) vwCl (cT G bT uT) H → va_D A (cT G bT uT) → va_S A s.heap H locs → ∀ {ls : Array Slot}, lv_has ls 7 [(0, .ref (bT 0)), (1, .int x1), (2, .int x2), (3, .long x3), (5, .int x5)] → W p l e rmx_X7_extendText s m args below meth c H locs 0 0 (MQ below (qW none (cT G bT r) (gD G) (tyG G) A) args s 0 0 A) (F0 m 16 ls [])) : ∀ (uT : Md) (x1 : Int32) (x2 : Int32) (x3 : Int64) (x5 : Int32), fx_X7_extendText_45 k16 uT x1 x2 x3 x5 = some r → ∀ {H : Heap} {locs : List Loc}, va_P (gD G) vwCl (cT G bT uT) H → va_D A (cT G bT uT) → va_S A s.heap H locs → ∀ {ls : Array Slot}, lv_has ls 7 [(0, .ref (bT 0)), (1, .int x1), (2, .int x2), (3, .long x3), (5, .int x5)] → W p l e rmx_X7_extendText s m args below meth c H locs 0 0 (MQ below (qW none (cT G bT r) (gD G) (tyG G) A) args s 0 0 A) (F0 m 45 ls []) := by
  have hx := C.1.1
  have hb := C.1.2.1
  have hts := C.1.2.2.2.2
  have hown := C.1.2.2.2.1
  have hin7 : ∀ w ∈ wsX70, w ∈ wsx_X7_extendText := fun w h => List.mem_cons_of_mem _ (List.mem_append_right _ (List.mem_append_right _ (List.mem_append_right _ (List.mem_append_left _ h))))
  intro uT x1 x2 x3 x5 hf H locs hP hD hS ls hl
  unfold fx_X7_extendText_45 at hf
  refine lv_iinc (v := (x5 + (-8 : Int32))) (lv' := [(5, .int (x5 + (-8 : Int32))), (0, .ref (bT 0)), (1, .int x1), (2, .int x2), (3, .long x3)]) hx hb dX7_extendText_45 hl (k := 4) rfl rfl (by decide) rfl (fun ls hl => ?_)
  refine lv_goto (tgt := 16) hx hb dX7_extendText_48 (by decide) ?_
  exact ih16 uT x1 x2 x3 (x5 + (-8 : Int32)) hf hP hD hS (lv_sub hl [1, 2, 3, 4, 0] rfl)
def fx_X7_extendText_16 : Nat → Md → Int32 → Int32 → Int64 → Int32 → Option Md
  | 0, _, _, _, _, _ => none
  | n + 1, uT, x1, x2, x3, x5 => (if x5 < 0 then (some uT) else (if ((((x3).toUInt64 >>> ((x5).toInt64.toUInt64 &&& Int64.toUInt64 63)).toInt64).toInt32 &&& (255 : Int32)) = 0 then (fx_X7_extendText_45 (fx_X7_extendText_16 n) uT x1 x2 x3 x5) else ((fx_X7_appendToText uT x1 x2 ((((x3).toUInt64 >>> ((x5).toInt64.toUInt64 &&& Int64.toUInt64 63)).toInt64).toInt32 &&& (255 : Int32))).bind fun u_7 => (fx_X7_extendText_45 (fx_X7_extendText_16 n) u_7 x1 x2 x3 x5))))
set_option maxHeartbeats 4000000 in
set_option maxRecDepth 100000 in
theorem wx_X7_extendText_16 {p : Program} {l : Launch} {e : Env} {s : State} {m : MethodId} {args : Array Value} {below : List Frame} {meth : Method} {c : Code} {G : Gx} {A : Nat → Prop} {bT : Nat → Nat} (C : Cx p s m args meth c cX7_extendText 7 wsx_X7_extendText RX7 none) (hK : va_K (gD G) vwCl (tyG G) s) (hA : ∀ q : Nat, s.heap.size ≤ q → A q) (hT : ST G A s s.heap) {r : Md} : ∀ (n : Nat), ∀ (uT : Md) (x1 : Int32) (x2 : Int32) (x3 : Int64) (x5 : Int32), fx_X7_extendText_16 n uT x1 x2 x3 x5 = some r → ∀ {H : Heap} {locs : List Loc}, va_P (gD G) vwCl (cT G bT uT) H → va_D A (cT G bT uT) → va_S A s.heap H locs → ∀ {ls : Array Slot}, lv_has ls 7 [(0, .ref (bT 0)), (1, .int x1), (2, .int x2), (3, .long x3), (5, .int x5)] → W p l e rmx_X7_extendText s m args below meth c H locs 0 0 (MQ below (qW none (cT G bT r) (gD G) (tyG G) A) args s 0 0 A) (F0 m 16 ls []) := by
  have hx := C.1.1
  have hb := C.1.2.1
  have hts := C.1.2.2.2.2
  have hown := C.1.2.2.2.1
  have hin7 : ∀ w ∈ wsX70, w ∈ wsx_X7_extendText := fun w h => List.mem_cons_of_mem _ (List.mem_append_right _ (List.mem_append_right _ (List.mem_append_right _ (List.mem_append_left _ h))))
  intro n
  induction n with
  | zero =>
    intro uT x1 x2 x3 x5 hf H locs hP hD hS ls hl
    cases hf
  | succ n ih =>
    intro uT x1 x2 x3 x5 hf H locs hP hD hS ls hl
    rw [fx_X7_extendText_16] at hf
    refine lv_iload hx hb dX7_extendText_16 (lv_at hl 4 rfl) ?_
    refine lv_if_lt (tgt := 51) hx hb dX7_extendText_18 (by decide) (fun c_4 => ?_) (fun c_4 => ?_)
    · replace hf := og_t c_4 hf
      obtain rfl := og_s hf
      exact rw_v C hK hP hD hS dX7_extendText_51
    · replace hf := og_f c_4 hf
      refine lv_lload_n hx hb dX7_extendText_21 rfl (lv_at hl 3 rfl) ?_
      refine lv_iload hx hb dX7_extendText_22 (lv_at hl 4 rfl) ?_
      refine lv_lushr (v := ((x3).toUInt64 >>> ((x5).toInt64.toUInt64 &&& Int64.toUInt64 63)).toInt64) hx hb dX7_extendText_24 rfl ?_
      refine lv_l2i (v := (((x3).toUInt64 >>> ((x5).toInt64.toUInt64 &&& Int64.toUInt64 63)).toInt64).toInt32) hx hb dX7_extendText_25 rfl ?_
      refine lv_sipush (v := (255 : Int32)) hx hb dX7_extendText_26 (by decide) ?_
      refine lv_iand hx hb dX7_extendText_29 ?_
      refine lv_istore (lv' := [(6, .int ((((x3).toUInt64 >>> ((x5).toInt64.toUInt64 &&& Int64.toUInt64 63)).toInt64).toInt32 &&& (255 : Int32))), (0, .ref (bT 0)), (1, .int x1), (2, .int x2), (3, .long x3), (5, .int x5)]) hx hb dX7_extendText_30 hl (by decide) rfl (fun ls hl => ?_)
      refine lv_iload hx hb dX7_extendText_32 (lv_at hl 0 rfl) ?_
      refine lv_if_eq (tgt := 45) hx hb dX7_extendText_34 (by decide) (fun c_5 => ?_) (fun c_5 => ?_)
      · replace hf := og_t c_5 hf
        exact wx_X7_extendText_45 C hK hA hT (fx_X7_extendText_16 n) (fun _ _ _ _ _ h9 => ih _ _ _ _ _ h9) uT x1 x2 x3 x5 hf hP hD hS (lv_sub hl [1, 2, 3, 4, 5] rfl)
      · replace hf := og_f c_5 hf
        refine lv_aload_n hx hb dX7_extendText_37 rfl (lv_at hl 1 rfl) ?_
        refine lv_iload_n hx hb dX7_extendText_38 rfl (lv_at hl 2 rfl) ?_
        refine lv_iload_n hx hb dX7_extendText_39 rfl (lv_at hl 3 rfl) ?_
        refine lv_iload hx hb dX7_extendText_40 (lv_at hl 0 rfl) ?_
        obtain ⟨u_7, h_6, hf⟩ := og_b hf
        try dsimp only at hf
        refine xw_V (ov := none) (st1 := []) (rest := []) (w0 := (cT G bT uT)) (w1 := (cT G bT u_7)) (wr := ([])) (w' := (cT G bT u_7)) C (cx_X7_appendToText l G bT uT x1 x2 ((((x3).toUInt64 >>> ((x5).toInt64.toUInt64 &&& Int64.toUInt64 63)).toInt64).toInt32 &&& (255 : Int32)) u_7 _ h_6) (cwV 3 hts gx_X7_X7_appendToText_143 rfl rfl rfl hdx_X7_appendToText ⟨Nat.le_of_ble_eq_true rfl, Nat.le_of_ble_eq_true rfl⟩) hK hA hT hP hD hS (va_recv hK hP (ci := 4) (q0 := 0) rfl rfl) [0, 1, 2, 3, 4, 5, 6, 7, 8, 9, 10, 11, 12] [] [0, 1, 2, 3, 4, 5, 6, 7, 8, 9, 10, 11, 12] rfl rfl rfl rfl (by decide) rfl rfl rfl hl.1 rfl rfl (Nat.le_of_ble_eq_true rfl) dX7_extendText_42 (fun H locs hP hD hS => ?_)
        exact wx_X7_extendText_45 C hK hA hT (fx_X7_extendText_16 n) (fun _ _ _ _ _ h9 => ih _ _ _ _ _ h9) u_7 x1 x2 x3 x5 hf hP hD hS (lv_sub hl [1, 2, 3, 4, 5] rfl)
def fx_X7_extendText_12 (uT : Md) (x1 : Int32) (x2 : Int32) (x3 : Int64) : Option Md := (fx_X7_extendText_16 FU uT x1 x2 x3 (56 : Int32))
set_option maxHeartbeats 4000000 in
set_option maxRecDepth 100000 in
theorem wx_X7_extendText_12 {p : Program} {l : Launch} {e : Env} {s : State} {m : MethodId} {args : Array Value} {below : List Frame} {meth : Method} {c : Code} {G : Gx} {A : Nat → Prop} {bT : Nat → Nat} (C : Cx p s m args meth c cX7_extendText 7 wsx_X7_extendText RX7 none) (hK : va_K (gD G) vwCl (tyG G) s) (hA : ∀ q : Nat, s.heap.size ≤ q → A q) (hT : ST G A s s.heap) {r : Md} : ∀ (uT : Md) (x1 : Int32) (x2 : Int32) (x3 : Int64), fx_X7_extendText_12 uT x1 x2 x3 = some r → ∀ {H : Heap} {locs : List Loc}, va_P (gD G) vwCl (cT G bT uT) H → va_D A (cT G bT uT) → va_S A s.heap H locs → ∀ {ls : Array Slot}, lv_has ls 7 [(0, .ref (bT 0)), (1, .int x1), (2, .int x2), (3, .long x3)] → W p l e rmx_X7_extendText s m args below meth c H locs 0 0 (MQ below (qW none (cT G bT r) (gD G) (tyG G) A) args s 0 0 A) (F0 m 12 ls []) := by
  have hx := C.1.1
  have hb := C.1.2.1
  have hts := C.1.2.2.2.2
  have hown := C.1.2.2.2.1
  have hin7 : ∀ w ∈ wsX70, w ∈ wsx_X7_extendText := fun w h => List.mem_cons_of_mem _ (List.mem_append_right _ (List.mem_append_right _ (List.mem_append_right _ (List.mem_append_left _ h))))
  intro uT x1 x2 x3 hf H locs hP hD hS ls hl
  unfold fx_X7_extendText_12 at hf
  refine lv_bipush (v := (56 : Int32)) hx hb dX7_extendText_12 (by decide) ?_
  refine lv_istore (lv' := [(5, .int (56 : Int32)), (0, .ref (bT 0)), (1, .int x1), (2, .int x2), (3, .long x3)]) hx hb dX7_extendText_14 hl (by decide) rfl (fun ls hl => ?_)
  exact wx_X7_extendText_16 C hK hA hT FU uT x1 x2 x3 (56 : Int32) hf hP hD hS (lv_sub hl [1, 2, 3, 4, 0] rfl)
def fx_X7_extendText (uT : Md) (x1 : Int32) (x2 : Int32) (x3 : Int64) : Option Md := (if (lg_cmp x3 (0 : Int64)) = 0 then ((fx_X7_emptyText uT x1 x2).bind fun u_3 => (fx_X7_extendText_12 u_3 x1 x2 x3)) else (fx_X7_extendText_12 uT x1 x2 x3))
set_option maxHeartbeats 4000000 in
set_option maxRecDepth 100000 in
theorem cx_X7_extendText (l : Launch) (G : Gx) (bT : Nat → Nat) (uT : Md) (x1 : Int32) (x2 : Int32) (x3 : Int64)  (vT : Md) (sz : Nat) (hf : fx_X7_extendText uT x1 x2 x3 = some vT) : Met l yX7_extendText wsx_X7_extendText rmx_X7_extendText (pX G (cT G bT uT) sz [.ref (bT 0), .int x1, .int x2, .long x3]) (qW none (cT G bT vT) (gD G) (tyG G) (va_A (cT G bT uT) sz)) 0 0 (va_A (cT G bT uT) sz) := by
  refine mx_w (cc := cX7_extendText) (maxL := 7) (ret := none) (by decide) rfl (Nat.le_of_ble_eq_true rfl) ?_
  intro p e s m below meth c ls A C hl hK hA hT hP hD hS
  have hl : lv_has ls 7 [(0, .ref (bT 0)), (1, .int x1), (2, .int x2), (3, .long x3)] := hl
  have hx := C.1.1
  have hb := C.1.2.1
  have hts := C.1.2.2.2.2
  have hown := C.1.2.2.2.1
  have hin7 : ∀ w ∈ wsX70, w ∈ wsx_X7_extendText := fun w h => List.mem_cons_of_mem _ (List.mem_append_right _ (List.mem_append_right _ (List.mem_append_right _ (List.mem_append_left _ h))))
  unfold fx_X7_extendText at hf
  refine lv_lload_n hx hb dX7_extendText_0 rfl (lv_at hl 3 rfl) ?_
  refine lv_lconst (v := (0 : Int64)) hx hb dX7_extendText_1 (by decide) ?_
  refine W.lcmp hx hb dX7_extendText_2 ?_
  refine lv_if_ne (tgt := 12) hx hb dX7_extendText_3 (by decide) (fun c_1 => ?_) (fun c_1 => ?_)
  · replace hf := og_f c_1 hf
    exact wx_X7_extendText_12 C hK hA hT uT x1 x2 x3 hf hP hD hS (lv_sub hl [0, 1, 2, 3] rfl)
  · replace hf := og_t c_1 hf
    refine lv_aload_n hx hb dX7_extendText_6 rfl (lv_at hl 0 rfl) ?_
    refine lv_iload_n hx hb dX7_extendText_7 rfl (lv_at hl 1 rfl) ?_
    refine lv_iload_n hx hb dX7_extendText_8 rfl (lv_at hl 2 rfl) ?_
    obtain ⟨u_3, h_2, hf⟩ := og_b hf
    try dsimp only at hf
    refine xw_V (ov := none) (st1 := []) (rest := []) (w0 := (cT G bT uT)) (w1 := (cT G bT u_3)) (wr := ([])) (w' := (cT G bT u_3)) C (cx_X7_emptyText l G bT uT x1 x2 u_3 _ h_2) (cwV 2 hts gx_X7_X7_emptyText_127 rfl rfl rfl hdx_X7_emptyText ⟨Nat.le_of_ble_eq_true rfl, Nat.le_of_ble_eq_true rfl⟩) hK hA hT hP hD hS (va_recv hK hP (ci := 4) (q0 := 0) rfl rfl) [0, 1, 2, 3, 4, 5, 6, 7, 8, 9, 10, 11, 12] [] [0, 1, 2, 3, 4, 5, 6, 7, 8, 9, 10, 11, 12] rfl rfl rfl rfl (by decide) rfl rfl rfl hl.1 rfl rfl (Nat.le_of_ble_eq_true rfl) dX7_extendText_9 (fun H locs hP hD hS => ?_)
    exact wx_X7_extendText_12 C hK hA hT u_3 x1 x2 x3 hf hP hD hS (lv_sub hl [0, 1, 2, 3] rfl)
abbrev rmx_X7_keptRoom : Room := { frames := 0, cells := 0, slots := 0, locals := 0 }
noncomputable abbrev wsx_X7_keptRoom : List Cond := Cond.code yX7_keptRoom cX7_keptRoom 1 (some .int) :: WAX
theorem hdx_X7_keptRoom : yX7_keptRoom.cls = RX7 ∧ yX7_keptRoom.cls ≠ "java/lang/invoke/MethodHandle" ∧ yX7_keptRoom.cls ≠ "java/lang/invoke/VarHandle" ∧ (parseMethodDescriptor yX7_keptRoom.desc).map (fun d => d.parameters.length) = some 0 := by decide +kernel
def fx_X7_keptRoom (uT : Md) : Option Int32 := (some ((2000 : Int32) - (gi uT 12)))
set_option maxHeartbeats 4000000 in
set_option maxRecDepth 100000 in
theorem cx_X7_keptRoom (l : Launch) (G : Gx) (bT : Nat → Nat) (uT : Md) (r : Int32) (sz : Nat) (hf : fx_X7_keptRoom uT = some r) : Met l yX7_keptRoom wsx_X7_keptRoom rmx_X7_keptRoom (pX G (cT G bT uT) sz [.ref (bT 0)]) (k2_QcV (.int r)) 0 0 (fun _ => False) := by
  refine mx_r (cc := cX7_keptRoom) (maxL := 1) (ret := (some .int)) (by decide) rfl (Nat.le_of_ble_eq_true rfl) ?_
  intro p e s m below meth c ls A C hl hK hA hT hP hD hS
  have hl : lv_has ls 1 [(0, .ref (bT 0))] := hl
  have hx := C.1.1
  have hb := C.1.2.1
  have hts := C.1.2.2.2.2
  have hown := C.1.2.2.2.1
  have hin7 : ∀ w ∈ wsX70, w ∈ wsx_X7_keptRoom := fun w h => List.mem_cons_of_mem _ (List.mem_append_right _ (List.mem_append_right _ (List.mem_append_right _ (List.mem_append_left _ h))))
  unfold fx_X7_keptRoom at hf
  refine lv_sipush (v := (2000 : Int32)) hx hb dX7_keptRoom_0 (by decide) ?_
  refine lv_aload_n hx hb dX7_keptRoom_3 rfl (lv_at hl 0 rfl) ?_
  refine xg (v := .int (gi uT 12)) (ci := 4) (K := RX7) (T := TX7) (N := 16) C hin7 hK hP 0 rfl rfl 12 (by decide) rfl (hts (Cond.fieldLink RX7 50 "SchematicText$Tree" "keptCount" "I") (List.mem_cons_of_mem _ mx_359)) rfl dX7_keptRoom_4 ?_
  refine lv_isub hx hb dX7_keptRoom_7 ?_
  obtain rfl := og_s hf
  exact rt_i C dX7_keptRoom_8
theorem gx_X7_X6_markAt_147 {c0 : Cond} : GoodIn (c0 :: WAX) (wsV RX7 147 RX6 yX6_markAt wsx_X6_markAt) := gdx_v mx_365 mx_56 mx_57 mx_22 mx_58
abbrev rmx_X7_keep : Room := { frames := 1, cells := 0, slots := 0, locals := 21 }
noncomputable abbrev wsx_X7_keep : List Cond := Cond.code yX7_keep cX7_keep 6 none :: WAX
theorem hdx_X7_keep : yX7_keep.cls = RX7 ∧ yX7_keep.cls ≠ "java/lang/invoke/MethodHandle" ∧ yX7_keep.cls ≠ "java/lang/invoke/VarHandle" ∧ (parseMethodDescriptor yX7_keep.desc).map (fun d => d.parameters.length) = some 4 := by decide +kernel
def fx_X7_keep_71 (uS : Md) (uT : Md) (x1 : Int32) : Option Md := (if x1 < 0 ∨ 200 ≤ (x1).toNatClampNeg then none else (if x1 < 0 ∨ 200 ≤ (x1).toNatClampNeg then none else (some (sa uT 10 (upd (ga uT 10) (x1).toNatClampNeg ((gi uT 12) - ((ga uT 9) (x1).toNatClampNeg)))))))
set_option maxHeartbeats 4000000 in
set_option maxRecDepth 100000 in
theorem wx_X7_keep_71 {p : Program} {l : Launch} {e : Env} {s : State} {m : MethodId} {args : Array Value} {below : List Frame} {meth : Method} {c : Code} {G : Gx} {A : Nat → Prop} {bS : Nat → Nat} {bT : Nat → Nat} (C : Cx p s m args meth c cX7_keep 6 wsx_X7_keep RX7 none) {uS : Md} (hK : va_K (gD G) vwCl (tyG G) s) (hA : ∀ q : Nat, s.heap.size ≤ q → A q) (hT : ST G A s s.heap) {r : Md} : ∀ (uT : Md) (x1 : Int32), fx_X7_keep_71 uS uT x1 = some r → ∀ {H : Heap} {locs : List Loc}, va_P (gD G) vwCl (cS G bS uS ++ cT G bT uT) H → va_D A (cS G bS uS ++ cT G bT uT) → va_S A s.heap H locs → ∀ {ls : Array Slot}, lv_has ls 6 [(0, .ref (bT 0)), (1, .int x1)] → W p l e rmx_X7_keep s m args below meth c H locs 0 0 (MQ below (qW none (cS G bS uS ++ cT G bT r) (gD G) (tyG G) A) args s 0 0 A) (F0 m 71 ls []) := by
  have hx := C.1.1
  have hb := C.1.2.1
  have hts := C.1.2.2.2.2
  have hown := C.1.2.2.2.1
  have hin6 : ∀ w ∈ wsX60, w ∈ wsx_X7_keep := fun w h => List.mem_cons_of_mem _ (List.mem_append_right _ (List.mem_append_right _ (List.mem_append_left _ h)))
  have hin7 : ∀ w ∈ wsX70, w ∈ wsx_X7_keep := fun w h => List.mem_cons_of_mem _ (List.mem_append_right _ (List.mem_append_right _ (List.mem_append_right _ (List.mem_append_left _ h))))
  intro uT x1 hf H locs hP hD hS ls hl
  unfold fx_X7_keep_71 at hf
  refine lv_aload_n hx hb dX7_keep_71 rfl (lv_at hl 0 rfl) ?_
  refine xg (v := .ref (bT 11)) (ci := 4) (K := RX7) (T := TX7) (N := 16) C hin7 hK hP 2 rfl rfl 10 (by decide) rfl (hts (Cond.fieldLink RX7 44 "SchematicText$Tree" "keptSizes" "[I") (List.mem_cons_of_mem _ mx_139)) rfl dX7_keep_72 ?_
  refine lv_iload_n hx hb dX7_keep_75 rfl (lv_at hl 1 rfl) ?_
  refine lv_aload_n hx hb dX7_keep_76 rfl (lv_at hl 0 rfl) ?_
  refine xg (v := .int (gi uT 12)) (ci := 4) (K := RX7) (T := TX7) (N := 16) C hin7 hK hP 2 rfl rfl 12 (by decide) rfl (hts (Cond.fieldLink RX7 50 "SchematicText$Tree" "keptCount" "I") (List.mem_cons_of_mem _ mx_359)) rfl dX7_keep_77 ?_
  refine lv_aload_n hx hb dX7_keep_80 rfl (lv_at hl 0 rfl) ?_
  refine xg (v := .ref (bT 10)) (ci := 4) (K := RX7) (T := TX7) (N := 16) C hin7 hK hP 2 rfl rfl 9 (by decide) rfl (hts (Cond.fieldLink RX7 41 "SchematicText$Tree" "keptFrom" "[I") (List.mem_cons_of_mem _ mx_138)) rfl dX7_keep_81 ?_
  refine lv_iload_n hx hb dX7_keep_84 rfl (lv_at hl 1 rfl) ?_
  obtain ⟨h_10, hf⟩ := og_n hf
  refine va_iald (f := (ga uT 9)) hx hb hK hP 12 0 rfl rfl h_10 dX7_keep_85 ?_
  refine lv_isub hx hb dX7_keep_86 ?_
  obtain ⟨h_11, hf⟩ := og_n hf
  refine xsi (f := (ga uT 10)) (w' := (cS G bS uS ++ cT G bT (sa uT 10 (upd (ga uT 10) (x1).toNatClampNeg ((gi uT 12) - ((ga uT 9) (x1).toNatClampNeg)))))) C hK hP hD hS 13 rfl h_11 dX7_keep_87 hw_ST_T_a10 (fun H locs hP hD hS => ?_)
  obtain rfl := og_s hf
  exact rw_v C hK hP hD hS dX7_keep_88
def fx_X7_keep_22 (uS : Md) : Nat → Md → Int32 → Int32 → Int32 → Option Md
  | 0, _, _, _, _ => none
  | n + 1, uT, x1, x4, x5 => (if x4 ≤ x5 then (fx_X7_keep_71 uS uT x1) else (if (2000 : Int32) ≤ (gi uT 12) then (fx_X7_keep_71 uS uT x1) else ((fx_X6_markAt uS x5).bind fun r_8 => (if (gi uT 12) < 0 ∨ 2000 ≤ ((gi uT 12)).toNatClampNeg then none else (fx_X7_keep_22 uS n (si (sa uT 11 (upd (ga uT 11) ((gi uT 12)).toNatClampNeg (vp_nar .char ((r_8).toUInt32 % 65536).toInt32))) 12 ((gi uT 12) + (1 : Int32))) x1 x4 (x5 + (1 : Int32)))))))
set_option maxHeartbeats 4000000 in
set_option maxRecDepth 100000 in
theorem wx_X7_keep_22 {p : Program} {l : Launch} {e : Env} {s : State} {m : MethodId} {args : Array Value} {below : List Frame} {meth : Method} {c : Code} {G : Gx} {A : Nat → Prop} {bS : Nat → Nat} {bT : Nat → Nat} (C : Cx p s m args meth c cX7_keep 6 wsx_X7_keep RX7 none) {uS : Md} (hK : va_K (gD G) vwCl (tyG G) s) (hA : ∀ q : Nat, s.heap.size ≤ q → A q) (hT : ST G A s s.heap) {r : Md} : ∀ (n : Nat), ∀ (uT : Md) (x1 : Int32) (x4 : Int32) (x5 : Int32), fx_X7_keep_22 uS n uT x1 x4 x5 = some r → ∀ {H : Heap} {locs : List Loc}, va_P (gD G) vwCl (cS G bS uS ++ cT G bT uT) H → va_D A (cS G bS uS ++ cT G bT uT) → va_S A s.heap H locs → ∀ {ls : Array Slot}, lv_has ls 6 [(0, .ref (bT 0)), (1, .int x1), (2, .ref (bS 0)), (4, .int x4), (5, .int x5)] → W p l e rmx_X7_keep s m args below meth c H locs 0 0 (MQ below (qW none (cS G bS uS ++ cT G bT r) (gD G) (tyG G) A) args s 0 0 A) (F0 m 22 ls []) := by
  have hx := C.1.1
  have hb := C.1.2.1
  have hts := C.1.2.2.2.2
  have hown := C.1.2.2.2.1
  have hin6 : ∀ w ∈ wsX60, w ∈ wsx_X7_keep := fun w h => List.mem_cons_of_mem _ (List.mem_append_right _ (List.mem_append_right _ (List.mem_append_left _ h)))
  have hin7 : ∀ w ∈ wsX70, w ∈ wsx_X7_keep := fun w h => List.mem_cons_of_mem _ (List.mem_append_right _ (List.mem_append_right _ (List.mem_append_right _ (List.mem_append_left _ h))))
  intro n
  induction n with
  | zero =>
    intro uT x1 x4 x5 hf H locs hP hD hS ls hl
    cases hf
  | succ n ih =>
    intro uT x1 x4 x5 hf H locs hP hD hS ls hl
    rw [fx_X7_keep_22] at hf
    refine lv_iload hx hb dX7_keep_22 (lv_at hl 4 rfl) ?_
    refine lv_iload hx hb dX7_keep_24 (lv_at hl 3 rfl) ?_
    refine lv_icmp_ge (tgt := 71) hx hb dX7_keep_26 (by decide) (fun c_5 => ?_) (fun c_5 => ?_)
    · replace hf := og_t c_5 hf
      exact wx_X7_keep_71 C hK hA hT uT x1 hf hP hD hS (lv_sub hl [0, 1] rfl)
    · replace hf := og_f c_5 hf
      refine lv_aload_n hx hb dX7_keep_29 rfl (lv_at hl 0 rfl) ?_
      refine xg (v := .int (gi uT 12)) (ci := 4) (K := RX7) (T := TX7) (N := 16) C hin7 hK hP 2 rfl rfl 12 (by decide) rfl (hts (Cond.fieldLink RX7 50 "SchematicText$Tree" "keptCount" "I") (List.mem_cons_of_mem _ mx_359)) rfl dX7_keep_30 ?_
      refine lv_sipush (v := (2000 : Int32)) hx hb dX7_keep_33 (by decide) ?_
      refine lv_icmp_ge (tgt := 71) hx hb dX7_keep_36 (by decide) (fun c_6 => ?_) (fun c_6 => ?_)
      · replace hf := og_t c_6 hf
        exact wx_X7_keep_71 C hK hA hT uT x1 hf hP hD hS (lv_sub hl [0, 1] rfl)
      · replace hf := og_f c_6 hf
        refine lv_aload_n hx hb dX7_keep_39 rfl (lv_at hl 0 rfl) ?_
        refine xg (v := .ref (bT 12)) (ci := 4) (K := RX7) (T := TX7) (N := 16) C hin7 hK hP 2 rfl rfl 11 (by decide) rfl (hts (Cond.fieldLink RX7 47 "SchematicText$Tree" "kept" "[C") (List.mem_cons_of_mem _ mx_364)) rfl dX7_keep_40 ?_
        refine lv_aload_n hx hb dX7_keep_43 rfl (lv_at hl 0 rfl) ?_
        refine xg (v := .int (gi uT 12)) (ci := 4) (K := RX7) (T := TX7) (N := 16) C hin7 hK hP 2 rfl rfl 12 (by decide) rfl (hts (Cond.fieldLink RX7 50 "SchematicText$Tree" "keptCount" "I") (List.mem_cons_of_mem _ mx_359)) rfl dX7_keep_44 ?_
        refine lv_aload_n hx hb dX7_keep_47 rfl (lv_at hl 2 rfl) ?_
        refine lv_iload hx hb dX7_keep_48 (lv_at hl 4 rfl) ?_
        obtain ⟨r_8, h_7, hf⟩ := og_b hf
        try dsimp only at hf
        refine xr_V (v := .int r_8) (rest := [.int (gi uT 12), .ref (bT 12)]) (w0 := (cS G bS uS)) C (cx_X6_markAt l G bS uS x5 r_8 _ h_7) (cwV 1 hts gx_X7_X6_markAt_147 rfl rfl rfl hdx_X6_markAt ⟨Nat.le_of_ble_eq_true rfl, Nat.le_of_ble_eq_true rfl⟩) hK hA hT hP hD hS (va_recv hK hP (ci := 3) (q0 := 0) rfl rfl) [0, 1] rfl rfl rfl hl.1 rfl (Nat.le_of_ble_eq_true rfl) dX7_keep_50 ?_
        refine lv_i2c (v := ((r_8).toUInt32 % 65536).toInt32) hx hb dX7_keep_53 rfl ?_
        obtain ⟨h_9, hf⟩ := og_n hf
        refine xsc (f := (ga uT 11)) (w' := (cS G bS uS ++ cT G bT (sa uT 11 (upd (ga uT 11) ((gi uT 12)).toNatClampNeg (vp_nar .char ((r_8).toUInt32 % 65536).toInt32))))) C hK hP hD hS 14 rfl h_9 dX7_keep_54 hw_ST_T_a11 (fun H locs hP hD hS => ?_)
        refine lv_aload_n hx hb dX7_keep_55 rfl (lv_at hl 0 rfl) ?_
        refine lv_dup hx hb dX7_keep_56 rfl ?_
        refine xg (v := .int (gi uT 12)) (ci := 4) (K := RX7) (T := TX7) (N := 16) C hin7 hK hP 2 rfl rfl 12 (by decide) rfl (hts (Cond.fieldLink RX7 50 "SchematicText$Tree" "keptCount" "I") (List.mem_cons_of_mem _ mx_359)) rfl dX7_keep_57 ?_
        refine lv_iconst (v := (1 : Int32)) hx hb dX7_keep_60 (by decide) ?_
        refine lv_iadd hx hb dX7_keep_61 ?_
        refine xp (v := .int ((gi uT 12) + (1 : Int32))) (w' := (cS G bS uS ++ cT G bT (si (sa uT 11 (upd (ga uT 11) ((gi uT 12)).toNatClampNeg (vp_nar .char ((r_8).toUInt32 % 65536).toInt32))) 12 ((gi uT 12) + (1 : Int32))))) (ci := 4) (K := RX7) (T := TX7) (N := 16) (ty := .int) C hin7 tyX7 tyX7_ok nmX7 hK hP hD hS 2 rfl rfl 12 (by decide) rfl (hts (Cond.fieldLink RX7 50 "SchematicText$Tree" "keptCount" "I") (List.mem_cons_of_mem _ mx_359)) rfl rfl rfl rfl (Nat.le_of_ble_eq_true rfl) dX7_keep_62 hw_ST_T_i12 (fun H locs hP hD hS => ?_)
        refine lv_iinc (v := (x5 + (1 : Int32))) (lv' := [(5, .int (x5 + (1 : Int32))), (0, .ref (bT 0)), (1, .int x1), (2, .ref (bS 0)), (4, .int x4)]) hx hb dX7_keep_65 hl (k := 4) rfl rfl (by decide) rfl (fun ls hl => ?_)
        refine lv_goto (tgt := 22) hx hb dX7_keep_68 (by decide) ?_
        exact ih (si (sa uT 11 (upd (ga uT 11) ((gi uT 12)).toNatClampNeg (vp_nar .char ((r_8).toUInt32 % 65536).toInt32))) 12 ((gi uT 12) + (1 : Int32))) x1 x4 (x5 + (1 : Int32)) hf hP hD hS (lv_sub hl [1, 2, 3, 4, 0] rfl)
def fx_X7_keep (uS : Md) (uT : Md) (x1 : Int32) (x3 : Int32) (x4 : Int32) : Option Md := ((fx_X7_has uT x1).bind fun r_2 => (if r_2 = 0 then (some uT) else (if x1 < 0 ∨ 200 ≤ (x1).toNatClampNeg then none else (fx_X7_keep_22 uS FU (sa uT 9 (upd (ga uT 9) (x1).toNatClampNeg (gi uT 12))) x1 x4 x3))))
set_option maxHeartbeats 4000000 in
set_option maxRecDepth 100000 in
theorem cx_X7_keep (l : Launch) (G : Gx) (bS : Nat → Nat) (bT : Nat → Nat) (uS : Md) (uT : Md) (x1 : Int32) (x3 : Int32) (x4 : Int32)  (vT : Md) (sz : Nat) (hf : fx_X7_keep uS uT x1 x3 x4 = some vT) : Met l yX7_keep wsx_X7_keep rmx_X7_keep (pX G (cS G bS uS ++ cT G bT uT) sz [.ref (bT 0), .int x1, .ref (bS 0), .int x3, .int x4]) (qW none (cS G bS uS ++ cT G bT vT) (gD G) (tyG G) (va_A (cS G bS uS ++ cT G bT uT) sz)) 0 0 (va_A (cS G bS uS ++ cT G bT uT) sz) := by
  refine mx_w (cc := cX7_keep) (maxL := 6) (ret := none) (by decide) rfl (Nat.le_of_ble_eq_true rfl) ?_
  intro p e s m below meth c ls A C hl hK hA hT hP hD hS
  have hl : lv_has ls 6 [(0, .ref (bT 0)), (1, .int x1), (2, .ref (bS 0)), (3, .int x3), (4, .int x4)] := hl
  have hx := C.1.1
  have hb := C.1.2.1
  have hts := C.1.2.2.2.2
  have hown := C.1.2.2.2.1
  have hin6 : ∀ w ∈ wsX60, w ∈ wsx_X7_keep := fun w h => List.mem_cons_of_mem _ (List.mem_append_right _ (List.mem_append_right _ (List.mem_append_left _ h)))
  have hin7 : ∀ w ∈ wsX70, w ∈ wsx_X7_keep := fun w h => List.mem_cons_of_mem _ (List.mem_append_right _ (List.mem_append_right _ (List.mem_append_right _ (List.mem_append_left _ h))))
  unfold fx_X7_keep at hf
  refine lv_aload_n hx hb dX7_keep_0 rfl (lv_at hl 0 rfl) ?_
  refine lv_iload_n hx hb dX7_keep_1 rfl (lv_at hl 1 rfl) ?_
  obtain ⟨r_2, h_1, hf⟩ := og_b hf
  try dsimp only at hf
  refine xr_V (v := .int r_2) (rest := []) (w0 := (cT G bT uT)) C (cx_X7_has l G bT uT x1 r_2 _ h_1) (cwV 1 hts gx_X7_X7_has_63 rfl rfl rfl hdx_X7_has ⟨Nat.le_of_ble_eq_true rfl, Nat.le_of_ble_eq_true rfl⟩) hK hA hT hP hD hS (va_recv hK hP (ci := 4) (q0 := 2) rfl rfl) [2, 3, 4, 5, 6, 7, 8, 9, 10, 11, 12, 13, 14] rfl rfl rfl hl.1 rfl (Nat.le_of_ble_eq_true rfl) dX7_keep_2 ?_
  refine lv_if_ne (tgt := 9) hx hb dX7_keep_5 (by decide) (fun c_3 => ?_) (fun c_3 => ?_)
  · replace hf := og_f c_3 hf
    refine lv_aload_n hx hb dX7_keep_9 rfl (lv_at hl 0 rfl) ?_
    refine xg (v := .ref (bT 10)) (ci := 4) (K := RX7) (T := TX7) (N := 16) C hin7 hK hP 2 rfl rfl 9 (by decide) rfl (hts (Cond.fieldLink RX7 41 "SchematicText$Tree" "keptFrom" "[I") (List.mem_cons_of_mem _ mx_138)) rfl dX7_keep_10 ?_
    refine lv_iload_n hx hb dX7_keep_13 rfl (lv_at hl 1 rfl) ?_
    refine lv_aload_n hx hb dX7_keep_14 rfl (lv_at hl 0 rfl) ?_
    refine xg (v := .int (gi uT 12)) (ci := 4) (K := RX7) (T := TX7) (N := 16) C hin7 hK hP 2 rfl rfl 12 (by decide) rfl (hts (Cond.fieldLink RX7 50 "SchematicText$Tree" "keptCount" "I") (List.mem_cons_of_mem _ mx_359)) rfl dX7_keep_15 ?_
    obtain ⟨h_4, hf⟩ := og_n hf
    refine xsi (f := (ga uT 9)) (w' := (cS G bS uS ++ cT G bT (sa uT 9 (upd (ga uT 9) (x1).toNatClampNeg (gi uT 12))))) C hK hP hD hS 12 rfl h_4 dX7_keep_18 hw_ST_T_a9 (fun H locs hP hD hS => ?_)
    refine lv_iload_n hx hb dX7_keep_19 rfl (lv_at hl 3 rfl) ?_
    refine lv_istore (lv' := [(5, .int x3), (0, .ref (bT 0)), (1, .int x1), (2, .ref (bS 0)), (3, .int x3), (4, .int x4)]) hx hb dX7_keep_20 hl (by decide) rfl (fun ls hl => ?_)
    exact wx_X7_keep_22 C hK hA hT FU (sa uT 9 (upd (ga uT 9) (x1).toNatClampNeg (gi uT 12))) x1 x4 x3 hf hP hD hS (lv_sub hl [1, 2, 3, 5, 0] rfl)
  · replace hf := og_t c_3 hf
    obtain rfl := og_s hf
    exact rw_v C hK hP hD hS dX7_keep_8
theorem gx_X3_X7_depthOf_21 {c0 : Cond} : GoodIn (c0 :: WAX) (wsV RX3 21 RX7 yX7_depthOf wsx_X7_depthOf) := gdx_v mx_325 mx_141 mx_142 mx_99 mx_143
theorem gx_X3_X7_parentOf_67 {c0 : Cond} : GoodIn (c0 :: WAX) (wsV RX3 67 RX7 yX7_parentOf wsx_X7_parentOf) := gdx_v mx_335 mx_336 mx_337 mx_99 mx_338
abbrev rmx_X3_holderOf_L : Room := { frames := 2, cells := 0, slots := 0, locals := 42 }
noncomputable abbrev wsx_X3_holderOf_L : List Cond := Cond.code yX3_holderOf cX3_holderOf 6 (some .int) :: WAX
theorem hdx_X3_holderOf_L : yX3_holderOf.cls = RX3 ∧ yX3_holderOf.cls ≠ "java/lang/invoke/MethodHandle" ∧ yX3_holderOf.cls ≠ "java/lang/invoke/VarHandle" ∧ (parseMethodDescriptor yX3_holderOf.desc).map (fun d => d.parameters.length) = some 3 := by decide +kernel
theorem hdo_X3_holderOf_L : "SchematicText$Form" ≠ "java/lang/invoke/MethodHandle" ∧ "SchematicText$Form" ≠ "java/lang/invoke/VarHandle" ∧ (parseMethodDescriptor "(LSchematicText$Tree;II)I").map (fun d => d.parameters.length) = some 3 := by decide +kernel
def fx_X3_holderOf_L_6 (uT : Md) : Nat → Int32 → Int32 → Int32 → Option Int32
  | 0, _, _, _ => none
  | n + 1, x3, x4, x5 => (if (200 : Int32) ≤ x5 then (some x4) else ((fx_X7_depthOf uT x4).bind fun r_3 => (if r_3 < x3 then (some x4) else ((fx_X7_parentOf uT x4).bind fun r_6 => (fx_X3_holderOf_L_6 uT n x3 r_6 (x5 + (1 : Int32)))))))
set_option maxHeartbeats 4000000 in
set_option maxRecDepth 100000 in
theorem wx_X3_holderOf_L_6 {p : Program} {l : Launch} {e : Env} {s : State} {m : MethodId} {args : Array Value} {below : List Frame} {meth : Method} {c : Code} {G : Gx} {A : Nat → Prop} {bF : Nat → Nat} {bT : Nat → Nat} (C : Cx p s m args meth c cX3_holderOf 6 wsx_X3_holderOf_L RX3 (some .int)) {uT : Md} (hK : va_K (gD G) vwCl (tyG G) s) (hA : ∀ q : Nat, s.heap.size ≤ q → A q) (hT : ST G A s s.heap) (hP : va_P (gD G) vwCl (cF 0 bF ++ cT G bT uT) s.heap) (hD : va_D A (cF 0 bF ++ cT G bT uT)) (hS : va_S A s.heap s.heap []) {r : Int32} : ∀ (n : Nat), ∀ (x3 : Int32) (x4 : Int32) (x5 : Int32), fx_X3_holderOf_L_6 uT n x3 x4 x5 = some r → ∀ {ls : Array Slot}, lv_has ls 6 [(1, .ref (bT 0)), (3, .int x3), (4, .int x4), (5, .int x5)] → W p l e rmx_X3_holderOf_L s m args below meth c s.heap [] 0 0 (MQ below (k2_QcV (.int r)) args s 0 0 (fun _ => False)) (F0 m 6 ls []) := by
  have hx := C.1.1
  have hb := C.1.2.1
  have hts := C.1.2.2.2.2
  have hown := C.1.2.2.2.1
  have hin7 : ∀ w ∈ wsX70, w ∈ wsx_X3_holderOf_L := fun w h => List.mem_cons_of_mem _ (List.mem_append_right _ (List.mem_append_right _ (List.mem_append_right _ (List.mem_append_left _ h))))
  intro n
  induction n with
  | zero =>
    intro x3 x4 x5 hf ls hl
    cases hf
  | succ n ih =>
    intro x3 x4 x5 hf ls hl
    rw [fx_X3_holderOf_L_6] at hf
    refine lv_iload hx hb dX3_holderOf_6 (lv_at hl 3 rfl) ?_
    refine lv_sipush (v := (200 : Int32)) hx hb dX3_holderOf_8 (by decide) ?_
    refine lv_icmp_ge (tgt := 38) hx hb dX3_holderOf_11 (by decide) (fun c_1 => ?_) (fun c_1 => ?_)
    · replace hf := og_t c_1 hf
      refine lv_iload hx hb dX3_holderOf_38 (lv_at hl 2 rfl) ?_
      obtain rfl := og_s hf
      exact rt_i C dX3_holderOf_40
    · replace hf := og_f c_1 hf
      refine lv_aload_n hx hb dX3_holderOf_14 rfl (lv_at hl 0 rfl) ?_
      refine lv_iload hx hb dX3_holderOf_15 (lv_at hl 2 rfl) ?_
      obtain ⟨r_3, h_2, hf⟩ := og_b hf
      try dsimp only at hf
      refine xr_V (v := .int r_3) (rest := []) (w0 := (cT G bT uT)) C (cx_X7_depthOf l G bT uT x4 r_3 _ h_2) (cwV 1 hts gx_X3_X7_depthOf_21 rfl rfl rfl hdx_X7_depthOf ⟨Nat.le_of_ble_eq_true rfl, Nat.le_of_ble_eq_true rfl⟩) hK hA hT hP hD hS (va_recv hK hP (ci := 4) (q0 := 1) rfl rfl) [1, 2, 3, 4, 5, 6, 7, 8, 9, 10, 11, 12, 13] rfl rfl rfl hl.1 rfl (Nat.le_of_ble_eq_true rfl) dX3_holderOf_17 ?_
      refine lv_iload_n hx hb dX3_holderOf_20 rfl (lv_at hl 1 rfl) ?_
      refine lv_icmp_lt (tgt := 38) hx hb dX3_holderOf_21 (by decide) (fun c_4 => ?_) (fun c_4 => ?_)
      · replace hf := og_t c_4 hf
        refine lv_iload hx hb dX3_holderOf_38 (lv_at hl 2 rfl) ?_
        obtain rfl := og_s hf
        exact rt_i C dX3_holderOf_40
      · replace hf := og_f c_4 hf
        refine lv_aload_n hx hb dX3_holderOf_24 rfl (lv_at hl 0 rfl) ?_
        refine lv_iload hx hb dX3_holderOf_25 (lv_at hl 2 rfl) ?_
        obtain ⟨r_6, h_5, hf⟩ := og_b hf
        try dsimp only at hf
        refine xr_V (v := .int r_6) (rest := []) (w0 := (cT G bT uT)) C (cx_X7_parentOf l G bT uT x4 r_6 _ h_5) (cwV 1 hts gx_X3_X7_parentOf_67 rfl rfl rfl hdx_X7_parentOf ⟨Nat.le_of_ble_eq_true rfl, Nat.le_of_ble_eq_true rfl⟩) hK hA hT hP hD hS (va_recv hK hP (ci := 4) (q0 := 1) rfl rfl) [1, 2, 3, 4, 5, 6, 7, 8, 9, 10, 11, 12, 13] rfl rfl rfl hl.1 rfl (Nat.le_of_ble_eq_true rfl) dX3_holderOf_27 ?_
        refine lv_istore (lv' := [(4, .int r_6), (1, .ref (bT 0)), (3, .int x3), (5, .int x5)]) hx hb dX3_holderOf_30 hl (by decide) rfl (fun ls hl => ?_)
        refine lv_iinc (v := (x5 + (1 : Int32))) (lv' := [(5, .int (x5 + (1 : Int32))), (4, .int r_6), (1, .ref (bT 0)), (3, .int x3)]) hx hb dX3_holderOf_32 hl (k := 3) rfl rfl (by decide) rfl (fun ls hl => ?_)
        refine lv_goto (tgt := 6) hx hb dX3_holderOf_35 (by decide) ?_
        exact ih x3 r_6 (x5 + (1 : Int32)) hf (lv_sub hl [2, 3, 1, 0] rfl)
def fx_X3_holderOf_L (uT : Md) (x2 : Int32) (x3 : Int32) : Option Int32 := (fx_X3_holderOf_L_6 uT FU x3 x2 (0 : Int32))
set_option maxHeartbeats 4000000 in
set_option maxRecDepth 100000 in
theorem cx_X3_holderOf_L (l : Launch) (G : Gx) (bF : Nat → Nat) (bT : Nat → Nat) (uT : Md) (x2 : Int32) (x3 : Int32) (r : Int32) (sz : Nat) (hf : fx_X3_holderOf_L uT x2 x3 = some r) : Met l yX3_holderOf wsx_X3_holderOf_L rmx_X3_holderOf_L (pX G (cF 0 bF ++ cT G bT uT) sz [.ref (bF 0), .ref (bT 0), .int x2, .int x3]) (k2_QcV (.int r)) 0 0 (fun _ => False) := by
  refine mx_r (cc := cX3_holderOf) (maxL := 6) (ret := (some .int)) (by decide) rfl (Nat.le_of_ble_eq_true rfl) ?_
  intro p e s m below meth c ls A C hl hK hA hT hP hD hS
  have hl : lv_has ls 6 [(0, .ref (bF 0)), (1, .ref (bT 0)), (2, .int x2), (3, .int x3)] := hl
  have hx := C.1.1
  have hb := C.1.2.1
  have hts := C.1.2.2.2.2
  have hown := C.1.2.2.2.1
  have hin7 : ∀ w ∈ wsX70, w ∈ wsx_X3_holderOf_L := fun w h => List.mem_cons_of_mem _ (List.mem_append_right _ (List.mem_append_right _ (List.mem_append_right _ (List.mem_append_left _ h))))
  unfold fx_X3_holderOf_L at hf
  refine lv_iload_n hx hb dX3_holderOf_0 rfl (lv_at hl 2 rfl) ?_
  refine lv_istore (lv' := [(4, .int x2), (0, .ref (bF 0)), (1, .ref (bT 0)), (2, .int x2), (3, .int x3)]) hx hb dX3_holderOf_1 hl (by decide) rfl (fun ls hl => ?_)
  refine lv_iconst (v := (0 : Int32)) hx hb dX3_holderOf_3 (by decide) ?_
  refine lv_istore (lv' := [(5, .int (0 : Int32)), (4, .int x2), (0, .ref (bF 0)), (1, .ref (bT 0)), (2, .int x2), (3, .int x3)]) hx hb dX3_holderOf_4 hl (by decide) rfl (fun ls hl => ?_)
  exact wx_X3_holderOf_L_6 C hK hA hT hP hD hS FU x3 x2 (0 : Int32) hf (lv_sub hl [3, 5, 1, 0] rfl)
theorem gx_X1_X6_passLetters_15 {c0 : Cond} : GoodIn (c0 :: WAX) (wsV RX1 15 RX6 yX6_passLetters wsx_X6_passLetters) := gdx_v mx_19 mx_20 mx_21 mx_22 mx_23
theorem gx_X1_X6_kindNamed_18 {c0 : Cond} : GoodIn (c0 :: WAX) (wsV RX1 18 RX6 yX6_kindNamed wsx_X6_kindNamed) := gdx_v mx_34 mx_35 mx_36 mx_22 mx_37
theorem gx_X1_X7_mayHold_22 {c0 : Cond} : GoodIn (c0 :: WAX) (wsV RX1 22 RX7 yX7_mayHold wsx_X7_mayHold) := gdx_v mx_96 mx_97 mx_98 mx_99 mx_100
theorem gx_X1_X7_grow_28 {c0 : Cond} : GoodIn (c0 :: WAX) (wsV RX1 28 RX7 yX7_grow wsx_X7_grow) := gdx_v mx_124 mx_125 mx_126 mx_99 mx_127
theorem gx_X1_X6_failAt_32 {c0 : Cond} : GoodIn (c0 :: WAX) (wsV RX1 32 RX6 yX6_failAt wsx_X6_failAt) := gdx_v mx_187 mx_188 mx_189 mx_22 mx_190
abbrev rmx_X1_takeName_L : Room := { frames := 7, cells := 0, slots := 0, locals := 154 }
noncomputable abbrev wsx_X1_takeName_L : List Cond := Cond.code yX1_takeName cX1_takeName 7 (some .int) :: WAX
theorem hdx_X1_takeName_L : yX1_takeName.cls = RX1 ∧ yX1_takeName.cls ≠ "java/lang/invoke/MethodHandle" ∧ yX1_takeName.cls ≠ "java/lang/invoke/VarHandle" ∧ (parseMethodDescriptor yX1_takeName.desc).map (fun d => d.parameters.length) = some 3 := by decide +kernel
theorem hdo_X1_takeName_L : "SchematicText$Form" ≠ "java/lang/invoke/MethodHandle" ∧ "SchematicText$Form" ≠ "java/lang/invoke/VarHandle" ∧ (parseMethodDescriptor "(LSchematicText$Source;LSchematicText$Tree;I)I").map (fun d => d.parameters.length) = some 3 := by decide +kernel
def fx_X1_takeName_L_53 (uS : Md) (uT : Md) (x4 : Int32) (x6 : Int32) : Option (Int32 × Md × Md) := (if x6 = (-1 : Int32) then ((fx_X6_failAt uS x4).bind fun p_14 => (some (x6, p_14.2, uT))) else (some (x6, uS, uT)))
set_option maxHeartbeats 4000000 in
set_option maxRecDepth 100000 in
theorem wx_X1_takeName_L_53 {p : Program} {l : Launch} {e : Env} {s : State} {m : MethodId} {args : Array Value} {below : List Frame} {meth : Method} {c : Code} {G : Gx} {A : Nat → Prop} {bF : Nat → Nat} {bS : Nat → Nat} {bT : Nat → Nat} (C : Cx p s m args meth c cX1_takeName 7 wsx_X1_takeName_L RX1 (some .int)) (hK : va_K (gD G) vwCl (tyG G) s) (hA : ∀ q : Nat, s.heap.size ≤ q → A q) (hT : ST G A s s.heap) {r : (Int32 × Md × Md)} : ∀ (uS : Md) (uT : Md) (x4 : Int32) (x6 : Int32), fx_X1_takeName_L_53 uS uT x4 x6 = some r → ∀ {H : Heap} {locs : List Loc}, va_P (gD G) vwCl (cF 0 bF ++ cS G bS uS ++ cT G bT uT) H → va_D A (cF 0 bF ++ cS G bS uS ++ cT G bT uT) → va_S A s.heap H locs → ∀ {ls : Array Slot}, lv_has ls 7 [(1, .ref (bS 0)), (4, .int x4), (6, .int x6)] → W p l e rmx_X1_takeName_L s m args below meth c H locs 0 0 (MQ below (qW (some (.int r.1)) (cF 0 bF ++ cS G bS r.2.1 ++ cT G bT r.2.2) (gD G) (tyG G) A) args s 0 0 A) (F0 m 53 ls []) := by
  have hx := C.1.1
  have hb := C.1.2.1
  have hts := C.1.2.2.2.2
  have hown := C.1.2.2.2.1
  have hin6 : ∀ w ∈ wsX60, w ∈ wsx_X1_takeName_L := fun w h => List.mem_cons_of_mem _ (List.mem_append_right _ (List.mem_append_right _ (List.mem_append_left _ h)))
  have hin7 : ∀ w ∈ wsX70, w ∈ wsx_X1_takeName_L := fun w h => List.mem_cons_of_mem _ (List.mem_append_right _ (List.mem_append_right _ (List.mem_append_right _ (List.mem_append_left _ h))))
  intro uS uT x4 x6 hf H locs hP hD hS ls hl
  unfold fx_X1_takeName_L_53 at hf
  refine lv_iload hx hb dX1_takeName_53 (lv_at hl 2 rfl) ?_
  refine lv_iconst (v := (-1 : Int32)) hx hb dX1_takeName_55 (by decide) ?_
  refine lv_icmp_ne (tgt := 66) hx hb dX1_takeName_56 (by decide) (fun c_12 => ?_) (fun c_12 => ?_)
  · replace hf := og_f c_12 hf
    refine lv_iload hx hb dX1_takeName_66 (lv_at hl 2 rfl) ?_
    obtain rfl := og_s hf
    exact rw_i C hK hP hD hS dX1_takeName_68
  · replace hf := og_t c_12 hf
    refine lv_aload_n hx hb dX1_takeName_59 rfl (lv_at hl 0 rfl) ?_
    refine lv_iload hx hb dX1_takeName_60 (lv_at hl 1 rfl) ?_
    obtain ⟨⟨r_14, u_15⟩, h_13, hf⟩ := og_b hf
    try dsimp only at hf
    refine xw_V (ov := (some (.int r_14))) (st1 := [.int r_14]) (rest := []) (w0 := (cS G bS uS)) (w1 := (cS G bS u_15)) (wr := (cF 0 bF ++ cT G bT uT)) (w' := (cF 0 bF ++ cS G bS u_15 ++ cT G bT uT)) C (cx_X6_failAt l G bS uS x4 r_14 u_15 _ h_13) (cwV 1 hts gx_X1_X6_failAt_32 rfl rfl rfl hdx_X6_failAt ⟨Nat.le_of_ble_eq_true rfl, Nat.le_of_ble_eq_true rfl⟩) hK hA hT hP hD hS (va_recv hK hP (ci := 3) (q0 := 1) rfl rfl) [1, 2] [0, 3, 4, 5, 6, 7, 8, 9, 10, 11, 12, 13, 14, 15] [0, 14, 15, 1, 2, 3, 4, 5, 6, 7, 8, 9, 10, 11, 12, 13] rfl rfl rfl rfl (by decide) rfl rfl rfl hl.1 rfl rfl (Nat.le_of_ble_eq_true rfl) dX1_takeName_62 (fun H locs hP hD hS => ?_)
    refine lv_pop hx hb dX1_takeName_65 rfl ?_
    refine lv_iload hx hb dX1_takeName_66 (lv_at hl 2 rfl) ?_
    obtain rfl := og_s hf
    exact rw_i C hK hP hD hS dX1_takeName_68
def fx_X1_takeName_L (uS : Md) (uT : Md) (x3 : Int32) : Option (Int32 × Md × Md) := ((fx_X6_passLetters uS).bind fun u_2 => ((fx_X6_kindNamed u_2 (gi uS 2) (gi u_2 2)).bind fun r_4 => (if (gi u_2 2) ≤ (gi uS 2) then (fx_X1_takeName_L_53 u_2 uT (gi uS 2) (-1 : Int32)) else ((fx_X7_mayHold uT x3 r_4).bind fun r_7 => (if r_7 = 0 then (fx_X1_takeName_L_53 u_2 uT (gi uS 2) (-1 : Int32)) else ((fx_X7_grow uT x3 r_4).bind fun p_10 => (fx_X1_takeName_L_53 u_2 p_10.2 (gi uS 2) p_10.1)))))))
set_option maxHeartbeats 4000000 in
set_option maxRecDepth 100000 in
theorem cx_X1_takeName_L (l : Launch) (G : Gx) (bF : Nat → Nat) (bS : Nat → Nat) (bT : Nat → Nat) (uS : Md) (uT : Md) (x3 : Int32) (r : Int32) (vS : Md) (vT : Md) (sz : Nat) (hf : fx_X1_takeName_L uS uT x3 = some (r, vS, vT)) : Met l yX1_takeName wsx_X1_takeName_L rmx_X1_takeName_L (pX G (cF 0 bF ++ cS G bS uS ++ cT G bT uT) sz [.ref (bF 0), .ref (bS 0), .ref (bT 0), .int x3]) (qW (some (.int r)) (cF 0 bF ++ cS G bS vS ++ cT G bT vT) (gD G) (tyG G) (va_A (cF 0 bF ++ cS G bS uS ++ cT G bT uT) sz)) 0 0 (va_A (cF 0 bF ++ cS G bS uS ++ cT G bT uT) sz) := by
  refine mx_w (cc := cX1_takeName) (maxL := 7) (ret := (some .int)) (by decide) rfl (Nat.le_of_ble_eq_true rfl) ?_
  intro p e s m below meth c ls A C hl hK hA hT hP hD hS
  have hl : lv_has ls 7 [(0, .ref (bF 0)), (1, .ref (bS 0)), (2, .ref (bT 0)), (3, .int x3)] := hl
  have hx := C.1.1
  have hb := C.1.2.1
  have hts := C.1.2.2.2.2
  have hown := C.1.2.2.2.1
  have hin6 : ∀ w ∈ wsX60, w ∈ wsx_X1_takeName_L := fun w h => List.mem_cons_of_mem _ (List.mem_append_right _ (List.mem_append_right _ (List.mem_append_left _ h)))
  have hin7 : ∀ w ∈ wsX70, w ∈ wsx_X1_takeName_L := fun w h => List.mem_cons_of_mem _ (List.mem_append_right _ (List.mem_append_right _ (List.mem_append_right _ (List.mem_append_left _ h))))
  unfold fx_X1_takeName_L at hf
  refine lv_aload_n hx hb dX1_takeName_0 rfl (lv_at hl 1 rfl) ?_
  refine xgN (v := .int (gi uS 2)) (ci := 3) (K := RX6) (T := TX6) (N := 5) (host := "SchematicText") C hT hin6 hK hP 1 rfl rfl 2 (by decide) rfl (by decide +kernel) rfl dX1_takeName_1 ?_
  refine lv_istore (lv' := [(4, .int (gi uS 2)), (0, .ref (bF 0)), (1, .ref (bS 0)), (2, .ref (bT 0)), (3, .int x3)]) hx hb dX1_takeName_4 hl (by decide) rfl (fun ls hl => ?_)
  refine lv_aload_n hx hb dX1_takeName_6 rfl (lv_at hl 2 rfl) ?_
  obtain ⟨u_2, h_1, hf⟩ := og_b hf
  try dsimp only at hf
  refine xw_V (ov := none) (st1 := []) (rest := []) (w0 := (cS G bS uS)) (w1 := (cS G bS u_2)) (wr := (cF 0 bF ++ cT G bT uT)) (w' := (cF 0 bF ++ cS G bS u_2 ++ cT G bT uT)) C (cx_X6_passLetters l G bS uS u_2 _ h_1) (cwV 0 hts gx_X1_X6_passLetters_15 rfl rfl rfl hdx_X6_passLetters ⟨Nat.le_of_ble_eq_true rfl, Nat.le_of_ble_eq_true rfl⟩) hK hA hT hP hD hS (va_recv hK hP (ci := 3) (q0 := 1) rfl rfl) [1, 2] [0, 3, 4, 5, 6, 7, 8, 9, 10, 11, 12, 13, 14, 15] [0, 14, 15, 1, 2, 3, 4, 5, 6, 7, 8, 9, 10, 11, 12, 13] rfl rfl rfl rfl (by decide) rfl rfl rfl hl.1 rfl rfl (Nat.le_of_ble_eq_true rfl) dX1_takeName_7 (fun H locs hP hD hS => ?_)
  refine lv_aload_n hx hb dX1_takeName_10 rfl (lv_at hl 2 rfl) ?_
  refine lv_iload hx hb dX1_takeName_11 (lv_at hl 0 rfl) ?_
  refine lv_aload_n hx hb dX1_takeName_13 rfl (lv_at hl 2 rfl) ?_
  refine xgN (v := .int (gi u_2 2)) (ci := 3) (K := RX6) (T := TX6) (N := 5) (host := "SchematicText") C hT hin6 hK hP 1 rfl rfl 2 (by decide) rfl (by decide +kernel) rfl dX1_takeName_14 ?_
  obtain ⟨r_4, h_3, hf⟩ := og_b hf
  try dsimp only at hf
  refine xr_V (v := .ref (gK G (r_4).val)) (rest := []) (w0 := (cS G bS u_2)) C (cx_X6_kindNamed l G bS u_2 (gi uS 2) (gi u_2 2) r_4 _ h_3) (cwV 2 hts gx_X1_X6_kindNamed_18 rfl rfl rfl hdx_X6_kindNamed ⟨Nat.le_of_ble_eq_true rfl, Nat.le_of_ble_eq_true rfl⟩) hK hA hT hP hD hS (va_recv hK hP (ci := 3) (q0 := 1) rfl rfl) [1, 2] rfl rfl rfl hl.1 rfl (Nat.le_of_ble_eq_true rfl) dX1_takeName_17 ?_
  refine lv_astore (lv' := [(5, .ref (gK G (r_4).val)), (4, .int (gi uS 2)), (0, .ref (bF 0)), (1, .ref (bS 0)), (2, .ref (bT 0)), (3, .int x3)]) hx hb dX1_takeName_20 hl (by decide) rfl (fun ls hl => ?_)
  refine lv_iconst (v := (-1 : Int32)) hx hb dX1_takeName_22 (by decide) ?_
  refine lv_istore (lv' := [(6, .int (-1 : Int32)), (5, .ref (gK G (r_4).val)), (4, .int (gi uS 2)), (0, .ref (bF 0)), (1, .ref (bS 0)), (2, .ref (bT 0)), (3, .int x3)]) hx hb dX1_takeName_23 hl (by decide) rfl (fun ls hl => ?_)
  refine lv_aload_n hx hb dX1_takeName_25 rfl (lv_at hl 4 rfl) ?_
  refine xgN (v := .int (gi u_2 2)) (ci := 3) (K := RX6) (T := TX6) (N := 5) (host := "SchematicText") C hT hin6 hK hP 1 rfl rfl 2 (by decide) rfl (by decide +kernel) rfl dX1_takeName_26 ?_
  refine lv_iload hx hb dX1_takeName_29 (lv_at hl 2 rfl) ?_
  refine lv_icmp_le (tgt := 53) hx hb dX1_takeName_31 (by decide) (fun c_5 => ?_) (fun c_5 => ?_)
  · replace hf := og_t c_5 hf
    exact wx_X1_takeName_L_53 C hK hA hT u_2 uT (gi uS 2) (-1 : Int32) hf hP hD hS (lv_sub hl [4, 2, 0] rfl)
  · replace hf := og_f c_5 hf
    refine lv_aload_n hx hb dX1_takeName_34 rfl (lv_at hl 5 rfl) ?_
    refine lv_iload_n hx hb dX1_takeName_35 rfl (lv_at hl 6 rfl) ?_
    refine lv_aload hx hb dX1_takeName_36 (lv_at hl 1 rfl) ?_
    obtain ⟨r_7, h_6, hf⟩ := og_b hf
    try dsimp only at hf
    refine xr_V (v := .int r_7) (rest := []) (w0 := (cT G bT uT)) C (cx_X7_mayHold l G bT uT x3 r_4 r_7 _ h_6) (cwV 2 hts gx_X1_X7_mayHold_22 rfl rfl rfl hdx_X7_mayHold ⟨Nat.le_of_ble_eq_true rfl, Nat.le_of_ble_eq_true rfl⟩) hK hA hT hP hD hS (va_recv hK hP (ci := 4) (q0 := 3) rfl rfl) [3, 4, 5, 6, 7, 8, 9, 10, 11, 12, 13, 14, 15] rfl rfl rfl hl.1 rfl (Nat.le_of_ble_eq_true rfl) dX1_takeName_38 ?_
    refine lv_if_eq (tgt := 53) hx hb dX1_takeName_41 (by decide) (fun c_8 => ?_) (fun c_8 => ?_)
    · replace hf := og_t c_8 hf
      exact wx_X1_takeName_L_53 C hK hA hT u_2 uT (gi uS 2) (-1 : Int32) hf hP hD hS (lv_sub hl [4, 2, 0] rfl)
    · replace hf := og_f c_8 hf
      refine lv_aload_n hx hb dX1_takeName_44 rfl (lv_at hl 5 rfl) ?_
      refine lv_iload_n hx hb dX1_takeName_45 rfl (lv_at hl 6 rfl) ?_
      refine lv_aload hx hb dX1_takeName_46 (lv_at hl 1 rfl) ?_
      obtain ⟨⟨r_10, u_11⟩, h_9, hf⟩ := og_b hf
      try dsimp only at hf
      refine xw_V (ov := (some (.int r_10))) (st1 := [.int r_10]) (rest := []) (w0 := (cT G bT uT)) (w1 := (cT G bT u_11)) (wr := (cF 0 bF ++ cS G bS u_2)) (w' := (cF 0 bF ++ cS G bS u_2 ++ cT G bT u_11)) C (cx_X7_grow l G bT uT x3 r_4 r_10 u_11 _ h_9) (cwV 2 hts gx_X1_X7_grow_28 rfl rfl rfl hdx_X7_grow ⟨Nat.le_of_ble_eq_true rfl, Nat.le_of_ble_eq_true rfl⟩) hK hA hT hP hD hS (va_recv hK hP (ci := 4) (q0 := 3) rfl rfl) [3, 4, 5, 6, 7, 8, 9, 10, 11, 12, 13, 14, 15] [0, 1, 2] [0, 1, 2, 3, 4, 5, 6, 7, 8, 9, 10, 11, 12, 13, 14, 15] rfl rfl rfl rfl (by decide) rfl rfl rfl hl.1 rfl rfl (Nat.le_of_ble_eq_true rfl) dX1_takeName_48 (fun H locs hP hD hS => ?_)
      refine lv_istore (lv' := [(6, .int r_10), (5, .ref (gK G (r_4).val)), (4, .int (gi uS 2)), (0, .ref (bF 0)), (1, .ref (bS 0)), (2, .ref (bT 0)), (3, .int x3)]) hx hb dX1_takeName_51 hl (by decide) rfl (fun ls hl => ?_)
      exact wx_X1_takeName_L_53 C hK hA hT u_2 u_11 (gi uS 2) r_10 hf hP hD hS (lv_sub hl [4, 2, 0] rfl)
theorem gx_X3_X6_lineEnd_70 {c0 : Cond} : GoodIn (c0 :: WAX) (wsV RX3 70 RX6 yX6_lineEnd wsx_X6_lineEnd) := gdx_v mx_348 mx_349 mx_350 mx_22 mx_351
theorem gx_X3_X6_dotsFrom_31 {c0 : Cond} : GoodIn (c0 :: WAX) (wsV RX3 31 RX6 yX6_dotsFrom wsx_X6_dotsFrom) := gdx_v mx_326 mx_327 mx_328 mx_22 mx_329
theorem gx_X3_X7_keptRoom_73 {c0 : Cond} : GoodIn (c0 :: WAX) (wsV RX3 73 RX7 yX7_keptRoom wsx_X7_keptRoom) := gdx_v mx_355 mx_356 mx_357 mx_99 mx_358
theorem gx_X3_X6_failAt_34 {c0 : Cond} : GoodIn (c0 :: WAX) (wsV RX3 34 RX6 yX6_failAt wsx_X6_failAt) := gdx_v mx_330 mx_188 mx_189 mx_22 mx_190
theorem gx_X3_X7_keep_80 {c0 : Cond} : GoodIn (c0 :: WAX) (wsV RX3 80 RX7 yX7_keep wsx_X7_keep) := gdx_v mx_360 mx_361 mx_362 mx_99 mx_363
abbrev rmx_X3_keepLines_L : Room := { frames := 2, cells := 0, slots := 0, locals := 46 }
noncomputable abbrev wsx_X3_keepLines_L : List Cond := Cond.code yX3_keepLines cX3_keepLines 8 (some .boolean) :: WAX
theorem hdx_X3_keepLines_L : yX3_keepLines.cls = RX3 ∧ yX3_keepLines.cls ≠ "java/lang/invoke/MethodHandle" ∧ yX3_keepLines.cls ≠ "java/lang/invoke/VarHandle" ∧ (parseMethodDescriptor yX3_keepLines.desc).map (fun d => d.parameters.length) = some 4 := by decide +kernel
theorem hdo_X3_keepLines_L : "SchematicText$Form" ≠ "java/lang/invoke/MethodHandle" ∧ "SchematicText$Form" ≠ "java/lang/invoke/VarHandle" ∧ (parseMethodDescriptor "(LSchematicText$Source;LSchematicText$Tree;II)Z").map (fun d => d.parameters.length) = some 4 := by decide +kernel
def fx_X3_keepLines_L_55 (uS : Md) (uT : Md) (x3 : Int32) (x4 : Int32) (x6 : Int32) : Option (Int32 × Md × Md) := ((fx_X7_keptRoom uT).bind fun r_12 => (if (x6 - x4) ≤ r_12 then (if x6 < (gi uS 1) then ((fx_X7_keep uS uT x3 x4 x6).bind fun u_16 => (some ((1 : Int32), (si uS 2 (x6 + (1 : Int32))), u_16))) else ((fx_X6_failAt uS (gi uS 1)).bind fun p_18 => ((if p_18.1 = 0 ∨ p_18.1 = 1 then some (p_18.1, p_18.2, uT) else none)))) else ((fx_X7_keptRoom uT).bind fun r_22 => ((fx_X6_failAt uS (x4 + r_22)).bind fun p_24 => ((if p_24.1 = 0 ∨ p_24.1 = 1 then some (p_24.1, p_24.2, uT) else none))))))
set_option maxHeartbeats 4000000 in
set_option maxRecDepth 100000 in
theorem wx_X3_keepLines_L_55 {p : Program} {l : Launch} {e : Env} {s : State} {m : MethodId} {args : Array Value} {below : List Frame} {meth : Method} {c : Code} {G : Gx} {A : Nat → Prop} {bF : Nat → Nat} {bS : Nat → Nat} {bT : Nat → Nat} (C : Cx p s m args meth c cX3_keepLines 8 wsx_X3_keepLines_L RX3 (some .boolean)) (hK : va_K (gD G) vwCl (tyG G) s) (hA : ∀ q : Nat, s.heap.size ≤ q → A q) (hT : ST G A s s.heap) {r : (Int32 × Md × Md)} : ∀ (uS : Md) (uT : Md) (x3 : Int32) (x4 : Int32) (x6 : Int32), fx_X3_keepLines_L_55 uS uT x3 x4 x6 = some r → ∀ {H : Heap} {locs : List Loc}, va_P (gD G) vwCl (cF 0 bF ++ cS G bS uS ++ cT G bT uT) H → va_D A (cF 0 bF ++ cS G bS uS ++ cT G bT uT) → va_S A s.heap H locs → ∀ {ls : Array Slot}, lv_has ls 8 [(1, .ref (bS 0)), (2, .ref (bT 0)), (3, .int x3), (4, .int x4), (6, .int x6)] → W p l e rmx_X3_keepLines_L s m args below meth c H locs 0 0 (MQ below (qW (some (.int r.1)) (cF 0 bF ++ cS G bS r.2.1 ++ cT G bT r.2.2) (gD G) (tyG G) A) args s 0 0 A) (F0 m 55 ls []) := by
  have hx := C.1.1
  have hb := C.1.2.1
  have hts := C.1.2.2.2.2
  have hown := C.1.2.2.2.1
  have hin6 : ∀ w ∈ wsX60, w ∈ wsx_X3_keepLines_L := fun w h => List.mem_cons_of_mem _ (List.mem_append_right _ (List.mem_append_right _ (List.mem_append_left _ h)))
  have hin7 : ∀ w ∈ wsX70, w ∈ wsx_X3_keepLines_L := fun w h => List.mem_cons_of_mem _ (List.mem_append_right _ (List.mem_append_right _ (List.mem_append_right _ (List.mem_append_left _ h))))
  intro uS uT x3 x4 x6 hf H locs hP hD hS ls hl
  unfold fx_X3_keepLines_L_55 at hf
  refine lv_iload hx hb dX3_keepLines_55 (lv_at hl 4 rfl) ?_
  refine lv_iload hx hb dX3_keepLines_57 (lv_at hl 3 rfl) ?_
  refine lv_isub hx hb dX3_keepLines_59 ?_
  refine lv_aload_n hx hb dX3_keepLines_60 rfl (lv_at hl 1 rfl) ?_
  obtain ⟨r_12, h_11, hf⟩ := og_b hf
  try dsimp only at hf
  refine xr_V (v := .int r_12) (rest := [.int (x6 - x4)]) (w0 := (cT G bT uT)) C (cx_X7_keptRoom l G bT uT r_12 _ h_11) (cwV 0 hts gx_X3_X7_keptRoom_73 rfl rfl rfl hdx_X7_keptRoom ⟨Nat.le_of_ble_eq_true rfl, Nat.le_of_ble_eq_true rfl⟩) hK hA hT hP hD hS (va_recv hK hP (ci := 4) (q0 := 3) rfl rfl) [3, 4, 5, 6, 7, 8, 9, 10, 11, 12, 13, 14, 15] rfl rfl rfl hl.1 rfl (Nat.le_of_ble_eq_true rfl) dX3_keepLines_61 ?_
  refine lv_icmp_le (tgt := 79) hx hb dX3_keepLines_64 (by decide) (fun c_13 => ?_) (fun c_13 => ?_)
  · replace hf := og_t c_13 hf
    refine lv_iload hx hb dX3_keepLines_79 (lv_at hl 4 rfl) ?_
    refine lv_aload_n hx hb dX3_keepLines_81 rfl (lv_at hl 0 rfl) ?_
    refine xgN (v := .int (gi uS 1)) (ci := 3) (K := RX6) (T := TX6) (N := 5) (host := "SchematicText") C hT hin6 hK hP 1 rfl rfl 1 (by decide) rfl (by decide +kernel) rfl dX3_keepLines_82 ?_
    refine lv_icmp_lt (tgt := 97) hx hb dX3_keepLines_85 (by decide) (fun c_14 => ?_) (fun c_14 => ?_)
    · replace hf := og_t c_14 hf
      refine lv_aload_n hx hb dX3_keepLines_97 rfl (lv_at hl 1 rfl) ?_
      refine lv_iload_n hx hb dX3_keepLines_98 rfl (lv_at hl 2 rfl) ?_
      refine lv_aload_n hx hb dX3_keepLines_99 rfl (lv_at hl 0 rfl) ?_
      refine lv_iload hx hb dX3_keepLines_100 (lv_at hl 3 rfl) ?_
      refine lv_iload hx hb dX3_keepLines_102 (lv_at hl 4 rfl) ?_
      obtain ⟨u_16, h_15, hf⟩ := og_b hf
      try dsimp only at hf
      refine xw_V (ov := none) (st1 := []) (rest := []) (w0 := (cS G bS uS ++ cT G bT uT)) (w1 := (cS G bS uS ++ cT G bT u_16)) (wr := (cF 0 bF)) (w' := (cF 0 bF ++ cS G bS uS ++ cT G bT u_16)) C (cx_X7_keep l G bS bT uS uT x3 x4 x6 u_16 _ h_15) (cwV 4 hts gx_X3_X7_keep_80 rfl rfl rfl hdx_X7_keep ⟨Nat.le_of_ble_eq_true rfl, Nat.le_of_ble_eq_true rfl⟩) hK hA hT hP hD hS (va_recv hK hP (ci := 4) (q0 := 3) rfl rfl) [1, 2, 3, 4, 5, 6, 7, 8, 9, 10, 11, 12, 13, 14, 15] [0] [0, 1, 2, 3, 4, 5, 6, 7, 8, 9, 10, 11, 12, 13, 14, 15] rfl rfl rfl rfl (by decide) rfl rfl rfl hl.1 rfl rfl (Nat.le_of_ble_eq_true rfl) dX3_keepLines_104 (fun H locs hP hD hS => ?_)
      refine lv_aload_n hx hb dX3_keepLines_107 rfl (lv_at hl 0 rfl) ?_
      refine lv_iload hx hb dX3_keepLines_108 (lv_at hl 4 rfl) ?_
      refine lv_iconst (v := (1 : Int32)) hx hb dX3_keepLines_110 (by decide) ?_
      refine lv_iadd hx hb dX3_keepLines_111 ?_
      refine xpN (v := .int (x6 + (1 : Int32))) (w' := (cF 0 bF ++ cS G bS (si uS 2 (x6 + (1 : Int32))) ++ cT G bT u_16)) (ci := 3) (K := RX6) (T := TX6) (N := 5) (ty := .int) (host := "SchematicText") C hT hin6 tyX6 tyX6_ok nmX6 hK hP hD hS 1 rfl rfl 2 (by decide) rfl (by decide +kernel) rfl rfl rfl rfl (Nat.le_of_ble_eq_true rfl) dX3_keepLines_112 hw_F0ST_S_i2 (fun H locs hP hD hS => ?_)
      refine lv_iconst (v := (1 : Int32)) hx hb dX3_keepLines_115 (by decide) ?_
      obtain rfl := og_s hf
      exact rw_z C hK hP hD hS (nz_z (Or.inr rfl)) dX3_keepLines_116
    · replace hf := og_f c_14 hf
      refine lv_aload_n hx hb dX3_keepLines_88 rfl (lv_at hl 0 rfl) ?_
      refine lv_aload_n hx hb dX3_keepLines_89 rfl (lv_at hl 0 rfl) ?_
      refine xgN (v := .int (gi uS 1)) (ci := 3) (K := RX6) (T := TX6) (N := 5) (host := "SchematicText") C hT hin6 hK hP 1 rfl rfl 1 (by decide) rfl (by decide +kernel) rfl dX3_keepLines_90 ?_
      obtain ⟨⟨r_18, u_19⟩, h_17, hf⟩ := og_b hf
      try dsimp only at hf
      refine xw_V (ov := (some (.int r_18))) (st1 := [.int r_18]) (rest := []) (w0 := (cS G bS uS)) (w1 := (cS G bS u_19)) (wr := (cF 0 bF ++ cT G bT uT)) (w' := (cF 0 bF ++ cS G bS u_19 ++ cT G bT uT)) C (cx_X6_failAt l G bS uS (gi uS 1) r_18 u_19 _ h_17) (cwV 1 hts gx_X3_X6_failAt_34 rfl rfl rfl hdx_X6_failAt ⟨Nat.le_of_ble_eq_true rfl, Nat.le_of_ble_eq_true rfl⟩) hK hA hT hP hD hS (va_recv hK hP (ci := 3) (q0 := 1) rfl rfl) [1, 2] [0, 3, 4, 5, 6, 7, 8, 9, 10, 11, 12, 13, 14, 15] [0, 14, 15, 1, 2, 3, 4, 5, 6, 7, 8, 9, 10, 11, 12, 13] rfl rfl rfl rfl (by decide) rfl rfl rfl hl.1 rfl rfl (Nat.le_of_ble_eq_true rfl) dX3_keepLines_93 (fun H locs hP hD hS => ?_)
      obtain ⟨h_20, hf⟩ := og_p hf
      obtain rfl := og_s hf
      exact rw_z C hK hP hD hS (nz_z h_20) dX3_keepLines_96
  · replace hf := og_f c_13 hf
    refine lv_aload_n hx hb dX3_keepLines_67 rfl (lv_at hl 0 rfl) ?_
    refine lv_iload hx hb dX3_keepLines_68 (lv_at hl 3 rfl) ?_
    refine lv_aload_n hx hb dX3_keepLines_70 rfl (lv_at hl 1 rfl) ?_
    obtain ⟨r_22, h_21, hf⟩ := og_b hf
    try dsimp only at hf
    refine xr_V (v := .int r_22) (rest := [.int x4, .ref (bS 0)]) (w0 := (cT G bT uT)) C (cx_X7_keptRoom l G bT uT r_22 _ h_21) (cwV 0 hts gx_X3_X7_keptRoom_73 rfl rfl rfl hdx_X7_keptRoom ⟨Nat.le_of_ble_eq_true rfl, Nat.le_of_ble_eq_true rfl⟩) hK hA hT hP hD hS (va_recv hK hP (ci := 4) (q0 := 3) rfl rfl) [3, 4, 5, 6, 7, 8, 9, 10, 11, 12, 13, 14, 15] rfl rfl rfl hl.1 rfl (Nat.le_of_ble_eq_true rfl) dX3_keepLines_71 ?_
    refine lv_iadd hx hb dX3_keepLines_74 ?_
    obtain ⟨⟨r_24, u_25⟩, h_23, hf⟩ := og_b hf
    try dsimp only at hf
    refine xw_V (ov := (some (.int r_24))) (st1 := [.int r_24]) (rest := []) (w0 := (cS G bS uS)) (w1 := (cS G bS u_25)) (wr := (cF 0 bF ++ cT G bT uT)) (w' := (cF 0 bF ++ cS G bS u_25 ++ cT G bT uT)) C (cx_X6_failAt l G bS uS (x4 + r_22) r_24 u_25 _ h_23) (cwV 1 hts gx_X3_X6_failAt_34 rfl rfl rfl hdx_X6_failAt ⟨Nat.le_of_ble_eq_true rfl, Nat.le_of_ble_eq_true rfl⟩) hK hA hT hP hD hS (va_recv hK hP (ci := 3) (q0 := 1) rfl rfl) [1, 2] [0, 3, 4, 5, 6, 7, 8, 9, 10, 11, 12, 13, 14, 15] [0, 14, 15, 1, 2, 3, 4, 5, 6, 7, 8, 9, 10, 11, 12, 13] rfl rfl rfl rfl (by decide) rfl rfl rfl hl.1 rfl rfl (Nat.le_of_ble_eq_true rfl) dX3_keepLines_75 (fun H locs hP hD hS => ?_)
    obtain ⟨h_26, hf⟩ := og_p hf
    obtain rfl := og_s hf
    exact rw_z C hK hP hD hS (nz_z h_26) dX3_keepLines_78
def fx_X3_keepLines_L_18 : Nat → Md → Md → Int32 → Int32 → Int32 → Int32 → Int32 → Option (Int32 × Md × Md)
  | 0, _, _, _, _, _, _, _ => none
  | n + 1, uS, uT, x3, x4, x5, x6, x7 => (if (4000 : Int32) ≤ x7 then (fx_X3_keepLines_L_55 uS uT x3 x4 x6) else ((fx_X6_dotsFrom uS (x6 + (1 : Int32))).bind fun r_7 => (if r_7 ≤ x5 then (fx_X3_keepLines_L_55 uS uT x3 x4 x6) else ((fx_X6_lineEnd uS (x6 + (1 : Int32))).bind fun r_10 => (fx_X3_keepLines_L_18 n uS uT x3 x4 x5 r_10 (x7 + (1 : Int32)))))))
set_option maxHeartbeats 4000000 in
set_option maxRecDepth 100000 in
theorem wx_X3_keepLines_L_18 {p : Program} {l : Launch} {e : Env} {s : State} {m : MethodId} {args : Array Value} {below : List Frame} {meth : Method} {c : Code} {G : Gx} {A : Nat → Prop} {bF : Nat → Nat} {bS : Nat → Nat} {bT : Nat → Nat} (C : Cx p s m args meth c cX3_keepLines 8 wsx_X3_keepLines_L RX3 (some .boolean)) (hK : va_K (gD G) vwCl (tyG G) s) (hA : ∀ q : Nat, s.heap.size ≤ q → A q) (hT : ST G A s s.heap) {r : (Int32 × Md × Md)} : ∀ (n : Nat), ∀ (uS : Md) (uT : Md) (x3 : Int32) (x4 : Int32) (x5 : Int32) (x6 : Int32) (x7 : Int32), fx_X3_keepLines_L_18 n uS uT x3 x4 x5 x6 x7 = some r → ∀ {H : Heap} {locs : List Loc}, va_P (gD G) vwCl (cF 0 bF ++ cS G bS uS ++ cT G bT uT) H → va_D A (cF 0 bF ++ cS G bS uS ++ cT G bT uT) → va_S A s.heap H locs → ∀ {ls : Array Slot}, lv_has ls 8 [(1, .ref (bS 0)), (2, .ref (bT 0)), (3, .int x3), (4, .int x4), (5, .int x5), (6, .int x6), (7, .int x7)] → W p l e rmx_X3_keepLines_L s m args below meth c H locs 0 0 (MQ below (qW (some (.int r.1)) (cF 0 bF ++ cS G bS r.2.1 ++ cT G bT r.2.2) (gD G) (tyG G) A) args s 0 0 A) (F0 m 18 ls []) := by
  have hx := C.1.1
  have hb := C.1.2.1
  have hts := C.1.2.2.2.2
  have hown := C.1.2.2.2.1
  have hin6 : ∀ w ∈ wsX60, w ∈ wsx_X3_keepLines_L := fun w h => List.mem_cons_of_mem _ (List.mem_append_right _ (List.mem_append_right _ (List.mem_append_left _ h)))
  have hin7 : ∀ w ∈ wsX70, w ∈ wsx_X3_keepLines_L := fun w h => List.mem_cons_of_mem _ (List.mem_append_right _ (List.mem_append_right _ (List.mem_append_right _ (List.mem_append_left _ h))))
  intro n
  induction n with
  | zero =>
    intro uS uT x3 x4 x5 x6 x7 hf H locs hP hD hS ls hl
    cases hf
  | succ n ih =>
    intro uS uT x3 x4 x5 x6 x7 hf H locs hP hD hS ls hl
    rw [fx_X3_keepLines_L_18] at hf
    refine lv_iload hx hb dX3_keepLines_18 (lv_at hl 6 rfl) ?_
    refine lv_sipush (v := (4000 : Int32)) hx hb dX3_keepLines_20 (by decide) ?_
    refine lv_icmp_ge (tgt := 55) hx hb dX3_keepLines_23 (by decide) (fun c_5 => ?_) (fun c_5 => ?_)
    · replace hf := og_t c_5 hf
      exact wx_X3_keepLines_L_55 C hK hA hT uS uT x3 x4 x6 hf hP hD hS (lv_sub hl [0, 1, 2, 3, 5] rfl)
    · replace hf := og_f c_5 hf
      refine lv_aload_n hx hb dX3_keepLines_26 rfl (lv_at hl 0 rfl) ?_
      refine lv_iload hx hb dX3_keepLines_27 (lv_at hl 5 rfl) ?_
      refine lv_iconst (v := (1 : Int32)) hx hb dX3_keepLines_29 (by decide) ?_
      refine lv_iadd hx hb dX3_keepLines_30 ?_
      obtain ⟨r_7, h_6, hf⟩ := og_b hf
      try dsimp only at hf
      refine xr_V (v := .int r_7) (rest := []) (w0 := (cS G bS uS)) C (cx_X6_dotsFrom l G bS uS (x6 + (1 : Int32)) r_7 _ h_6) (cwV 1 hts gx_X3_X6_dotsFrom_31 rfl rfl rfl hdx_X6_dotsFrom ⟨Nat.le_of_ble_eq_true rfl, Nat.le_of_ble_eq_true rfl⟩) hK hA hT hP hD hS (va_recv hK hP (ci := 3) (q0 := 1) rfl rfl) [1, 2] rfl rfl rfl hl.1 rfl (Nat.le_of_ble_eq_true rfl) dX3_keepLines_31 ?_
      refine lv_iload hx hb dX3_keepLines_34 (lv_at hl 4 rfl) ?_
      refine lv_icmp_le (tgt := 55) hx hb dX3_keepLines_36 (by decide) (fun c_8 => ?_) (fun c_8 => ?_)
      · replace hf := og_t c_8 hf
        exact wx_X3_keepLines_L_55 C hK hA hT uS uT x3 x4 x6 hf hP hD hS (lv_sub hl [0, 1, 2, 3, 5] rfl)
      · replace hf := og_f c_8 hf
        refine lv_aload_n hx hb dX3_keepLines_39 rfl (lv_at hl 0 rfl) ?_
        refine lv_iload hx hb dX3_keepLines_40 (lv_at hl 5 rfl) ?_
        refine lv_iconst (v := (1 : Int32)) hx hb dX3_keepLines_42 (by decide) ?_
        refine lv_iadd hx hb dX3_keepLines_43 ?_
        obtain ⟨r_10, h_9, hf⟩ := og_b hf
        try dsimp only at hf
        refine xr_V (v := .int r_10) (rest := []) (w0 := (cS G bS uS)) C (cx_X6_lineEnd l G bS uS (x6 + (1 : Int32)) r_10 _ h_9) (cwV 1 hts gx_X3_X6_lineEnd_70 rfl rfl rfl hdx_X6_lineEnd ⟨Nat.le_of_ble_eq_true rfl, Nat.le_of_ble_eq_true rfl⟩) hK hA hT hP hD hS (va_recv hK hP (ci := 3) (q0 := 1) rfl rfl) [1, 2] rfl rfl rfl hl.1 rfl (Nat.le_of_ble_eq_true rfl) dX3_keepLines_44 ?_
        refine lv_istore (lv' := [(6, .int r_10), (1, .ref (bS 0)), (2, .ref (bT 0)), (3, .int x3), (4, .int x4), (5, .int x5), (7, .int x7)]) hx hb dX3_keepLines_47 hl (by decide) rfl (fun ls hl => ?_)
        refine lv_iinc (v := (x7 + (1 : Int32))) (lv' := [(7, .int (x7 + (1 : Int32))), (6, .int r_10), (1, .ref (bS 0)), (2, .ref (bT 0)), (3, .int x3), (4, .int x4), (5, .int x5)]) hx hb dX3_keepLines_49 hl (k := 6) rfl rfl (by decide) rfl (fun ls hl => ?_)
        refine lv_goto (tgt := 18) hx hb dX3_keepLines_52 (by decide) ?_
        exact ih uS uT x3 x4 x5 r_10 (x7 + (1 : Int32)) hf hP hD hS (lv_sub hl [2, 3, 4, 5, 6, 1, 0] rfl)
def fx_X3_keepLines_L (uS : Md) (uT : Md) (x3 : Int32) (x4 : Int32) : Option (Int32 × Md × Md) := ((fx_X7_depthOf uT x3).bind fun r_2 => ((fx_X6_lineEnd uS x4).bind fun r_4 => (fx_X3_keepLines_L_18 FU uS uT x3 x4 r_2 r_4 (0 : Int32))))
set_option maxHeartbeats 4000000 in
set_option maxRecDepth 100000 in
theorem cx_X3_keepLines_L (l : Launch) (G : Gx) (bF : Nat → Nat) (bS : Nat → Nat) (bT : Nat → Nat) (uS : Md) (uT : Md) (x3 : Int32) (x4 : Int32) (r : Int32) (vS : Md) (vT : Md) (sz : Nat) (hf : fx_X3_keepLines_L uS uT x3 x4 = some (r, vS, vT)) : Met l yX3_keepLines wsx_X3_keepLines_L rmx_X3_keepLines_L (pX G (cF 0 bF ++ cS G bS uS ++ cT G bT uT) sz [.ref (bF 0), .ref (bS 0), .ref (bT 0), .int x3, .int x4]) (qW (some (.int r)) (cF 0 bF ++ cS G bS vS ++ cT G bT vT) (gD G) (tyG G) (va_A (cF 0 bF ++ cS G bS uS ++ cT G bT uT) sz)) 0 0 (va_A (cF 0 bF ++ cS G bS uS ++ cT G bT uT) sz) := by
  refine mx_w (cc := cX3_keepLines) (maxL := 8) (ret := (some .boolean)) (by decide) rfl (Nat.le_of_ble_eq_true rfl) ?_
  intro p e s m below meth c ls A C hl hK hA hT hP hD hS
  have hl : lv_has ls 8 [(0, .ref (bF 0)), (1, .ref (bS 0)), (2, .ref (bT 0)), (3, .int x3), (4, .int x4)] := hl
  have hx := C.1.1
  have hb := C.1.2.1
  have hts := C.1.2.2.2.2
  have hown := C.1.2.2.2.1
  have hin6 : ∀ w ∈ wsX60, w ∈ wsx_X3_keepLines_L := fun w h => List.mem_cons_of_mem _ (List.mem_append_right _ (List.mem_append_right _ (List.mem_append_left _ h)))
  have hin7 : ∀ w ∈ wsX70, w ∈ wsx_X3_keepLines_L := fun w h => List.mem_cons_of_mem _ (List.mem_append_right _ (List.mem_append_right _ (List.mem_append_right _ (List.mem_append_left _ h))))
  unfold fx_X3_keepLines_L at hf
  refine lv_aload_n hx hb dX3_keepLines_0 rfl (lv_at hl 2 rfl) ?_
  refine lv_iload_n hx hb dX3_keepLines_1 rfl (lv_at hl 3 rfl) ?_
  obtain ⟨r_2, h_1, hf⟩ := og_b hf
  try dsimp only at hf
  refine xr_V (v := .int r_2) (rest := []) (w0 := (cT G bT uT)) C (cx_X7_depthOf l G bT uT x3 r_2 _ h_1) (cwV 1 hts gx_X3_X7_depthOf_21 rfl rfl rfl hdx_X7_depthOf ⟨Nat.le_of_ble_eq_true rfl, Nat.le_of_ble_eq_true rfl⟩) hK hA hT hP hD hS (va_recv hK hP (ci := 4) (q0 := 3) rfl rfl) [3, 4, 5, 6, 7, 8, 9, 10, 11, 12, 13, 14, 15] rfl rfl rfl hl.1 rfl (Nat.le_of_ble_eq_true rfl) dX3_keepLines_2 ?_
  refine lv_istore (lv' := [(5, .int r_2), (0, .ref (bF 0)), (1, .ref (bS 0)), (2, .ref (bT 0)), (3, .int x3), (4, .int x4)]) hx hb dX3_keepLines_5 hl (by decide) rfl (fun ls hl => ?_)
  refine lv_aload_n hx hb dX3_keepLines_7 rfl (lv_at hl 2 rfl) ?_
  refine lv_iload hx hb dX3_keepLines_8 (lv_at hl 5 rfl) ?_
  obtain ⟨r_4, h_3, hf⟩ := og_b hf
  try dsimp only at hf
  refine xr_V (v := .int r_4) (rest := []) (w0 := (cS G bS uS)) C (cx_X6_lineEnd l G bS uS x4 r_4 _ h_3) (cwV 1 hts gx_X3_X6_lineEnd_70 rfl rfl rfl hdx_X6_lineEnd ⟨Nat.le_of_ble_eq_true rfl, Nat.le_of_ble_eq_true rfl⟩) hK hA hT hP hD hS (va_recv hK hP (ci := 3) (q0 := 1) rfl rfl) [1, 2] rfl rfl rfl hl.1 rfl (Nat.le_of_ble_eq_true rfl) dX3_keepLines_10 ?_
  refine lv_istore (lv' := [(6, .int r_4), (5, .int r_2), (0, .ref (bF 0)), (1, .ref (bS 0)), (2, .ref (bT 0)), (3, .int x3), (4, .int x4)]) hx hb dX3_keepLines_13 hl (by decide) rfl (fun ls hl => ?_)
  refine lv_iconst (v := (0 : Int32)) hx hb dX3_keepLines_15 (by decide) ?_
  refine lv_istore (lv' := [(7, .int (0 : Int32)), (6, .int r_4), (5, .int r_2), (0, .ref (bF 0)), (1, .ref (bS 0)), (2, .ref (bT 0)), (3, .int x3), (4, .int x4)]) hx hb dX3_keepLines_16 hl (by decide) rfl (fun ls hl => ?_)
  exact wx_X3_keepLines_L_18 C hK hA hT FU uS uT x3 x4 r_2 r_4 (0 : Int32) hf hP hD hS (lv_sub hl [4, 5, 6, 7, 2, 1, 0] rfl)
theorem gx_X3_X6_passOnly_63 {c0 : Cond} : GoodIn (c0 :: WAX) (wsV RX3 63 RX6 yX6_passOnly wsx_X6_passOnly) := gdx_v mx_202 mx_203 mx_204 mx_22 mx_205
abbrev rmx_X3_passGap_L : Room := { frames := 2, cells := 0, slots := 0, locals := 42 }
noncomputable abbrev wsx_X3_passGap_L : List Cond := Cond.code yX3_passGap cX3_passGap 2 (some .boolean) :: WAX
theorem hdx_X3_passGap_L : yX3_passGap.cls = RX3 ∧ yX3_passGap.cls ≠ "java/lang/invoke/MethodHandle" ∧ yX3_passGap.cls ≠ "java/lang/invoke/VarHandle" ∧ (parseMethodDescriptor yX3_passGap.desc).map (fun d => d.parameters.length) = some 1 := by decide +kernel
theorem hdo_X3_passGap_L : "SchematicText$Form" ≠ "java/lang/invoke/MethodHandle" ∧ "SchematicText$Form" ≠ "java/lang/invoke/VarHandle" ∧ (parseMethodDescriptor "(LSchematicText$Source;)Z").map (fun d => d.parameters.length) = some 1 := by decide +kernel
def fx_X3_passGap_L (uS : Md) : Option (Int32 × Md) := ((fx_X6_passOnly uS (32 : Int32)).bind fun p_2 => ((if p_2.1 = 0 ∨ p_2.1 = 1 then some (p_2.1, p_2.2) else none)))
set_option maxHeartbeats 4000000 in
set_option maxRecDepth 100000 in
theorem cx_X3_passGap_L (l : Launch) (G : Gx) (bF : Nat → Nat) (bS : Nat → Nat) (uS : Md) (r : Int32) (vS : Md) (sz : Nat) (hf : fx_X3_passGap_L uS = some (r, vS)) : Met l yX3_passGap wsx_X3_passGap_L rmx_X3_passGap_L (pX G (cF 0 bF ++ cS G bS uS) sz [.ref (bF 0), .ref (bS 0)]) (qW (some (.int r)) (cF 0 bF ++ cS G bS vS) (gD G) (tyG G) (va_A (cF 0 bF ++ cS G bS uS) sz)) 0 0 (va_A (cF 0 bF ++ cS G bS uS) sz) := by
  refine mx_w (cc := cX3_passGap) (maxL := 2) (ret := (some .boolean)) (by decide) rfl (Nat.le_of_ble_eq_true rfl) ?_
  intro p e s m below meth c ls A C hl hK hA hT hP hD hS
  have hl : lv_has ls 2 [(0, .ref (bF 0)), (1, .ref (bS 0))] := hl
  have hx := C.1.1
  have hb := C.1.2.1
  have hts := C.1.2.2.2.2
  have hown := C.1.2.2.2.1
  have hin6 : ∀ w ∈ wsX60, w ∈ wsx_X3_passGap_L := fun w h => List.mem_cons_of_mem _ (List.mem_append_right _ (List.mem_append_right _ (List.mem_append_left _ h)))
  unfold fx_X3_passGap_L at hf
  refine lv_aload_n hx hb dX3_passGap_0 rfl (lv_at hl 1 rfl) ?_
  refine lv_bipush (v := (32 : Int32)) hx hb dX3_passGap_1 (by decide) ?_
  obtain ⟨⟨r_2, u_3⟩, h_1, hf⟩ := og_b hf
  try dsimp only at hf
  refine xw_V (ov := (some (.int r_2))) (st1 := [.int r_2]) (rest := []) (w0 := (cS G bS uS)) (w1 := (cS G bS u_3)) (wr := (cF 0 bF)) (w' := (cF 0 bF ++ cS G bS u_3)) C (cx_X6_passOnly l G bS uS (32 : Int32) r_2 u_3 _ h_1) (cwV 1 hts gx_X3_X6_passOnly_63 rfl rfl rfl hdx_X6_passOnly ⟨Nat.le_of_ble_eq_true rfl, Nat.le_of_ble_eq_true rfl⟩) hK hA hT hP hD hS (va_recv hK hP (ci := 3) (q0 := 1) rfl rfl) [1, 2] [0] [0, 1, 2] rfl rfl rfl rfl (by decide) rfl rfl rfl hl.1 rfl rfl (Nat.le_of_ble_eq_true rfl) dX3_passGap_3 (fun H locs hP hD hS => ?_)
  obtain ⟨h_4, hf⟩ := og_p hf
  obtain ⟨rfl, rfl⟩ := pi2 (og_s hf)
  exact rw_z C hK hP hD hS (nz_z h_4) dX3_passGap_6
theorem gx_X1_X7_kindOf_36 {c0 : Cond} : GoodIn (c0 :: WAX) (wsV RX1 36 RX7 yX7_kindOf wsx_X7_kindOf) := gdx_v mx_195 mx_108 mx_109 mx_99 mx_110
theorem gx_X1_X3_passGap_L_46 {c0 : Cond} : GoodIn (c0 :: WAX) (va_wsU RX1 46 RX3 "SchematicText$Form" ⟨"SchematicText$Form", "passGap", "(LSchematicText$Source;)Z"⟩ yX3_passGap wsx_X3_passGap_L) := gdx_u mx_196 mx_197 mx_198 mx_199 mx_200 mx_201
theorem gx_X1_X6_takeNumber_58 {c0 : Cond} : GoodIn (c0 :: WAX) (wsV RX1 58 RX6 yX6_takeNumber wsx_X6_takeNumber) := gdx_v mx_216 mx_217 mx_218 mx_22 mx_219
theorem gx_X1_X2_fields_69 {c0 : Cond} : GoodIn (c0 :: WAX) (wsV RX1 69 RX2 yX2_fields wsx_X2_fields) := gdx_v mx_239 mx_153 mx_154 mx_114 mx_155
theorem gx_X1_X2_fieldAt_73 {c0 : Cond} : GoodIn (c0 :: WAX) (wsV RX1 73 RX2 yX2_fieldAt wsx_X2_fieldAt) := gdx_v mx_240 mx_159 mx_160 mx_114 mx_161
theorem gx_X1_X0_isText_80 {c0 : Cond} : GoodIn (c0 :: WAX) (wsV RX1 80 RX0 yX0_isText wsx_X0_isText) := gdx_v mx_241 mx_167 mx_168 mx_165 mx_8
theorem gx_X1_X6_takeText_84 {c0 : Cond} : GoodIn (c0 :: WAX) (wsV RX1 84 RX6 yX6_takeText wsx_X6_takeText) := gdx_v mx_242 mx_243 mx_244 mx_22 mx_245
theorem gx_X1_X7_putNumber_88 {c0 : Cond} : GoodIn (c0 :: WAX) (wsV RX1 88 RX7 yX7_putNumber wsx_X7_putNumber) := gdx_v mx_260 mx_170 mx_171 mx_99 mx_172
abbrev rmx_X1_takeValues_L : Room := { frames := 5, cells := 0, slots := 0, locals := 106 }
noncomputable abbrev wsx_X1_takeValues_L : List Cond := Cond.code yX1_takeValues cX1_takeValues 9 (some .boolean) :: WAX
theorem hdx_X1_takeValues_L : yX1_takeValues.cls = RX1 ∧ yX1_takeValues.cls ≠ "java/lang/invoke/MethodHandle" ∧ yX1_takeValues.cls ≠ "java/lang/invoke/VarHandle" ∧ (parseMethodDescriptor yX1_takeValues.desc).map (fun d => d.parameters.length) = some 3 := by decide +kernel
theorem hdo_X1_takeValues_L : "SchematicText$Form" ≠ "java/lang/invoke/MethodHandle" ∧ "SchematicText$Form" ≠ "java/lang/invoke/VarHandle" ∧ (parseMethodDescriptor "(LSchematicText$Source;LSchematicText$Tree;I)Z").map (fun d => d.parameters.length) = some 3 := by decide +kernel
def fx_X1_takeValues_L_55 (uS : Md) (uT : Md) (x5 : Int32) (y0 : Int32) : Option (Int32 × Md × Md) := ((if x5 = 0 ∨ x5 = 1 then some (x5, uS, (si uT 15 y0)) else none))
set_option maxHeartbeats 4000000 in
set_option maxRecDepth 100000 in
theorem wx_X1_takeValues_L_55 {p : Program} {l : Launch} {e : Env} {s : State} {m : MethodId} {args : Array Value} {below : List Frame} {meth : Method} {c : Code} {G : Gx} {A : Nat → Prop} {bF : Nat → Nat} {bS : Nat → Nat} {bT : Nat → Nat} (C : Cx p s m args meth c cX1_takeValues 9 wsx_X1_takeValues_L RX1 (some .boolean)) (hK : va_K (gD G) vwCl (tyG G) s) (hA : ∀ q : Nat, s.heap.size ≤ q → A q) (hT : ST G A s s.heap) {r : (Int32 × Md × Md)} : ∀ (uS : Md) (uT : Md) (x5 : Int32) (y0 : Int32), fx_X1_takeValues_L_55 uS uT x5 y0 = some r → ∀ {H : Heap} {locs : List Loc}, va_P (gD G) vwCl (cF 0 bF ++ cS G bS uS ++ cT G bT uT) H → va_D A (cF 0 bF ++ cS G bS uS ++ cT G bT uT) → va_S A s.heap H locs → ∀ {ls : Array Slot}, lv_has ls 9 [(5, .int x5)] → W p l e rmx_X1_takeValues_L s m args below meth c H locs 0 0 (MQ below (qW (some (.int r.1)) (cF 0 bF ++ cS G bS r.2.1 ++ cT G bT r.2.2) (gD G) (tyG G) A) args s 0 0 A) (F0 m 55 ls [.int y0, .ref (bT 0)]) := by
  have hx := C.1.1
  have hb := C.1.2.1
  have hts := C.1.2.2.2.2
  have hown := C.1.2.2.2.1
  have hin6 : ∀ w ∈ wsX60, w ∈ wsx_X1_takeValues_L := fun w h => List.mem_cons_of_mem _ (List.mem_append_right _ (List.mem_append_right _ (List.mem_append_left _ h)))
  have hin7 : ∀ w ∈ wsX70, w ∈ wsx_X1_takeValues_L := fun w h => List.mem_cons_of_mem _ (List.mem_append_right _ (List.mem_append_right _ (List.mem_append_right _ (List.mem_append_left _ h))))
  intro uS uT x5 y0 hf H locs hP hD hS ls hl
  unfold fx_X1_takeValues_L_55 at hf
  refine xpN (v := .int y0) (w' := (cF 0 bF ++ cS G bS uS ++ cT G bT (si uT 15 y0))) (ci := 4) (K := RX7) (T := TX7) (N := 16) (ty := .int) (host := "SchematicText") C hT hin7 tyX7 tyX7_ok nmX7 hK hP hD hS 3 rfl rfl 15 (by decide) rfl (by decide +kernel) rfl rfl rfl rfl (Nat.le_of_ble_eq_true rfl) dX1_takeValues_55 hw_F0ST_T_i15 (fun H locs hP hD hS => ?_)
  refine lv_iload hx hb dX1_takeValues_58 (lv_at hl 0 rfl) ?_
  obtain ⟨h_37, hf⟩ := og_p hf
  obtain rfl := og_s hf
  exact rw_z C hK hP hD hS (nz_z h_37) dX1_takeValues_60
def fx_X1_takeValues_L_38 (uS : Md) (uT : Md) (y0 : Int32) : Option (Int32 × Md × Md) := (if y0 = 0 then (fx_X1_takeValues_L_55 uS uT y0 (0 : Int32)) else (fx_X1_takeValues_L_55 uS uT y0 ((gl uS)).toInt32))
set_option maxHeartbeats 4000000 in
set_option maxRecDepth 100000 in
theorem wx_X1_takeValues_L_38 {p : Program} {l : Launch} {e : Env} {s : State} {m : MethodId} {args : Array Value} {below : List Frame} {meth : Method} {c : Code} {G : Gx} {A : Nat → Prop} {bF : Nat → Nat} {bS : Nat → Nat} {bT : Nat → Nat} (C : Cx p s m args meth c cX1_takeValues 9 wsx_X1_takeValues_L RX1 (some .boolean)) (hK : va_K (gD G) vwCl (tyG G) s) (hA : ∀ q : Nat, s.heap.size ≤ q → A q) (hT : ST G A s s.heap) {r : (Int32 × Md × Md)} : ∀ (uS : Md) (uT : Md) (y0 : Int32), fx_X1_takeValues_L_38 uS uT y0 = some r → ∀ {H : Heap} {locs : List Loc}, va_P (gD G) vwCl (cF 0 bF ++ cS G bS uS ++ cT G bT uT) H → va_D A (cF 0 bF ++ cS G bS uS ++ cT G bT uT) → va_S A s.heap H locs → ∀ {ls : Array Slot}, lv_has ls 9 [(1, .ref (bS 0)), (2, .ref (bT 0))] → W p l e rmx_X1_takeValues_L s m args below meth c H locs 0 0 (MQ below (qW (some (.int r.1)) (cF 0 bF ++ cS G bS r.2.1 ++ cT G bT r.2.2) (gD G) (tyG G) A) args s 0 0 A) (F0 m 38 ls [.int y0]) := by
  have hx := C.1.1
  have hb := C.1.2.1
  have hts := C.1.2.2.2.2
  have hown := C.1.2.2.2.1
  have hin6 : ∀ w ∈ wsX60, w ∈ wsx_X1_takeValues_L := fun w h => List.mem_cons_of_mem _ (List.mem_append_right _ (List.mem_append_right _ (List.mem_append_left _ h)))
  have hin7 : ∀ w ∈ wsX70, w ∈ wsx_X1_takeValues_L := fun w h => List.mem_cons_of_mem _ (List.mem_append_right _ (List.mem_append_right _ (List.mem_append_right _ (List.mem_append_left _ h))))
  intro uS uT y0 hf H locs hP hD hS ls hl
  unfold fx_X1_takeValues_L_38 at hf
  refine lv_istore (lv' := [(5, .int y0), (1, .ref (bS 0)), (2, .ref (bT 0))]) hx hb dX1_takeValues_38 hl (by decide) rfl (fun ls hl => ?_)
  refine lv_aload_n hx hb dX1_takeValues_40 rfl (lv_at hl 2 rfl) ?_
  refine lv_iload hx hb dX1_takeValues_41 (lv_at hl 0 rfl) ?_
  refine lv_if_eq (tgt := 54) hx hb dX1_takeValues_43 (by decide) (fun c_36 => ?_) (fun c_36 => ?_)
  · replace hf := og_t c_36 hf
    refine lv_iconst (v := (0 : Int32)) hx hb dX1_takeValues_54 (by decide) ?_
    exact wx_X1_takeValues_L_55 C hK hA hT uS uT y0 (0 : Int32) hf hP hD hS (lv_sub hl [0] rfl)
  · replace hf := og_f c_36 hf
    refine lv_aload_n hx hb dX1_takeValues_46 rfl (lv_at hl 1 rfl) ?_
    refine xgN (v := .long (gl uS)) (ci := 3) (K := RX6) (T := TX6) (N := 5) (host := "SchematicText") C hT hin6 hK hP 1 rfl rfl 4 (by decide) rfl (by decide +kernel) rfl dX1_takeValues_47 ?_
    refine lv_l2i (v := ((gl uS)).toInt32) hx hb dX1_takeValues_50 rfl ?_
    refine lv_goto (tgt := 55) hx hb dX1_takeValues_51 (by decide) ?_
    exact wx_X1_takeValues_L_55 C hK hA hT uS uT y0 ((gl uS)).toInt32 hf hP hD hS (lv_sub hl [0] rfl)
def fx_X1_takeValues_L_37 (uS : Md) (uT : Md) : Option (Int32 × Md × Md) := (fx_X1_takeValues_L_38 uS uT (0 : Int32))
set_option maxHeartbeats 4000000 in
set_option maxRecDepth 100000 in
theorem wx_X1_takeValues_L_37 {p : Program} {l : Launch} {e : Env} {s : State} {m : MethodId} {args : Array Value} {below : List Frame} {meth : Method} {c : Code} {G : Gx} {A : Nat → Prop} {bF : Nat → Nat} {bS : Nat → Nat} {bT : Nat → Nat} (C : Cx p s m args meth c cX1_takeValues 9 wsx_X1_takeValues_L RX1 (some .boolean)) (hK : va_K (gD G) vwCl (tyG G) s) (hA : ∀ q : Nat, s.heap.size ≤ q → A q) (hT : ST G A s s.heap) {r : (Int32 × Md × Md)} : ∀ (uS : Md) (uT : Md), fx_X1_takeValues_L_37 uS uT = some r → ∀ {H : Heap} {locs : List Loc}, va_P (gD G) vwCl (cF 0 bF ++ cS G bS uS ++ cT G bT uT) H → va_D A (cF 0 bF ++ cS G bS uS ++ cT G bT uT) → va_S A s.heap H locs → ∀ {ls : Array Slot}, lv_has ls 9 [(1, .ref (bS 0)), (2, .ref (bT 0))] → W p l e rmx_X1_takeValues_L s m args below meth c H locs 0 0 (MQ below (qW (some (.int r.1)) (cF 0 bF ++ cS G bS r.2.1 ++ cT G bT r.2.2) (gD G) (tyG G) A) args s 0 0 A) (F0 m 37 ls []) := by
  have hx := C.1.1
  have hb := C.1.2.1
  have hts := C.1.2.2.2.2
  have hown := C.1.2.2.2.1
  have hin6 : ∀ w ∈ wsX60, w ∈ wsx_X1_takeValues_L := fun w h => List.mem_cons_of_mem _ (List.mem_append_right _ (List.mem_append_right _ (List.mem_append_left _ h)))
  have hin7 : ∀ w ∈ wsX70, w ∈ wsx_X1_takeValues_L := fun w h => List.mem_cons_of_mem _ (List.mem_append_right _ (List.mem_append_right _ (List.mem_append_right _ (List.mem_append_left _ h))))
  intro uS uT hf H locs hP hD hS ls hl
  unfold fx_X1_takeValues_L_37 at hf
  refine lv_iconst (v := (0 : Int32)) hx hb dX1_takeValues_37 (by decide) ?_
  exact wx_X1_takeValues_L_38 C hK hA hT uS uT (0 : Int32) hf hP hD hS (lv_sub hl [0, 1] rfl)
def fx_X1_takeValues_L_166 (k70 : Md → Md → Int32 → (Fin 10) → Int32 → Int32 → Int32 → Option (Int32 × Md × Md)) (uS : Md) (uT : Md) (x3 : Int32) (x4 : (Fin 10)) (x5 : Int32) (x6 : Int32) (x7 : Int32) : Option (Int32 × Md × Md) := (k70 uS uT x3 x4 x5 x6 (x7 + (1 : Int32)))
set_option maxHeartbeats 4000000 in
set_option maxRecDepth 100000 in
theorem wx_X1_takeValues_L_166 {p : Program} {l : Launch} {e : Env} {s : State} {m : MethodId} {args : Array Value} {below : List Frame} {meth : Method} {c : Code} {G : Gx} {A : Nat → Prop} {bF : Nat → Nat} {bS : Nat → Nat} {bT : Nat → Nat} (C : Cx p s m args meth c cX1_takeValues 9 wsx_X1_takeValues_L RX1 (some .boolean)) (hK : va_K (gD G) vwCl (tyG G) s) (hA : ∀ q : Nat, s.heap.size ≤ q → A q) (hT : ST G A s s.heap) {r : (Int32 × Md × Md)} (k70 : Md → Md → Int32 → (Fin 10) → Int32 → Int32 → Int32 → Option (Int32 × Md × Md)) (ih70 : ∀ (uS : Md) (uT : Md) (x3 : Int32) (x4 : (Fin 10)) (x5 : Int32) (x6 : Int32) (x7 : Int32), k70 uS uT x3 x4 x5 x6 x7 = some r → ∀ {H : Heap} {locs : List Loc}, va_P (gD G) vwCl (cF 0 bF ++ cS G bS uS ++ cT G bT uT) H → va_D A (cF 0 bF ++ cS G bS uS ++ cT G bT uT) → va_S A s.heap H locs → ∀ {ls : Array Slot}, lv_has ls 9 [(0, .ref (bF 0)), (1, .ref (bS 0)), (2, .ref (bT 0)), (3, .int x3), (4, .ref (gK G (x4).val)), (5, .int x5), (6, .int x6), (7, .int x7)] → W p l e rmx_X1_takeValues_L s m args below meth c H locs 0 0 (MQ below (qW (some (.int r.1)) (cF 0 bF ++ cS G bS r.2.1 ++ cT G bT r.2.2) (gD G) (tyG G) A) args s 0 0 A) (F0 m 70 ls [])) : ∀ (uS : Md) (uT : Md) (x3 : Int32) (x4 : (Fin 10)) (x5 : Int32) (x6 : Int32) (x7 : Int32), fx_X1_takeValues_L_166 k70 uS uT x3 x4 x5 x6 x7 = some r → ∀ {H : Heap} {locs : List Loc}, va_P (gD G) vwCl (cF 0 bF ++ cS G bS uS ++ cT G bT uT) H → va_D A (cF 0 bF ++ cS G bS uS ++ cT G bT uT) → va_S A s.heap H locs → ∀ {ls : Array Slot}, lv_has ls 9 [(0, .ref (bF 0)), (1, .ref (bS 0)), (2, .ref (bT 0)), (3, .int x3), (4, .ref (gK G (x4).val)), (5, .int x5), (6, .int x6), (7, .int x7)] → W p l e rmx_X1_takeValues_L s m args below meth c H locs 0 0 (MQ below (qW (some (.int r.1)) (cF 0 bF ++ cS G bS r.2.1 ++ cT G bT r.2.2) (gD G) (tyG G) A) args s 0 0 A) (F0 m 166 ls []) := by
  have hx := C.1.1
  have hb := C.1.2.1
  have hts := C.1.2.2.2.2
  have hown := C.1.2.2.2.1
  have hin6 : ∀ w ∈ wsX60, w ∈ wsx_X1_takeValues_L := fun w h => List.mem_cons_of_mem _ (List.mem_append_right _ (List.mem_append_right _ (List.mem_append_left _ h)))
  have hin7 : ∀ w ∈ wsX70, w ∈ wsx_X1_takeValues_L := fun w h => List.mem_cons_of_mem _ (List.mem_append_right _ (List.mem_append_right _ (List.mem_append_right _ (List.mem_append_left _ h))))
  intro uS uT x3 x4 x5 x6 x7 hf H locs hP hD hS ls hl
  unfold fx_X1_takeValues_L_166 at hf
  refine lv_iinc (v := (x7 + (1 : Int32))) (lv' := [(7, .int (x7 + (1 : Int32))), (0, .ref (bF 0)), (1, .ref (bS 0)), (2, .ref (bT 0)), (3, .int x3), (4, .ref (gK G (x4).val)), (5, .int x5), (6, .int x6)]) hx hb dX1_takeValues_166 hl (k := 7) rfl rfl (by decide) rfl (fun ls hl => ?_)
  refine lv_goto (tgt := 70) hx hb dX1_takeValues_169 (by decide) ?_
  exact ih70 uS uT x3 x4 x5 x6 (x7 + (1 : Int32)) hf hP hD hS (lv_sub hl [1, 2, 3, 4, 5, 6, 7, 0] rfl)
def fx_X1_takeValues_L_70 : Nat → Md → Md → Int32 → (Fin 10) → Int32 → Int32 → Int32 → Option (Int32 × Md × Md)
  | 0, _, _, _, _, _, _, _ => none
  | n + 1, uS, uT, x3, x4, x5, x6, x7 => ((fx_X2_fields x4).bind fun r_13 => (if r_13 ≤ x7 then (some ((1 : Int32), uS, uT)) else ((fx_X2_fieldAt x4 x7).bind fun r_16 => (if (fSince r_16) ≤ (gi uT 15) then ((fx_X3_passGap_L uS).bind fun p_19 => (if p_19.1 = 0 then (some ((0 : Int32), p_19.2, uT)) else ((fx_X0_isText r_16).bind fun r_23 => (if r_23 = 0 then ((fx_X6_takeNumber p_19.2 r_16).bind fun p_26 => (if p_26.1 = 0 then (some ((0 : Int32), p_26.2, uT)) else ((fx_X7_putNumber uT x3 x6 (gl p_26.2)).bind fun u_30 => (fx_X1_takeValues_L_166 (fx_X1_takeValues_L_70 n) p_26.2 u_30 x3 x4 x5 (x6 + (1 : Int32)) x7)))) else ((fx_X6_takeText p_19.2 uT x3 x5).bind fun p_32 => (if p_32.1 = 0 then (some ((0 : Int32), p_32.2.1, p_32.2.2)) else (fx_X1_takeValues_L_166 (fx_X1_takeValues_L_70 n) p_32.2.1 p_32.2.2 x3 x4 (x5 + (1 : Int32)) x6 x7))))))) else (fx_X1_takeValues_L_166 (fx_X1_takeValues_L_70 n) uS uT x3 x4 x5 x6 x7)))))
set_option maxHeartbeats 4000000 in
set_option maxRecDepth 100000 in
theorem wx_X1_takeValues_L_70 {p : Program} {l : Launch} {e : Env} {s : State} {m : MethodId} {args : Array Value} {below : List Frame} {meth : Method} {c : Code} {G : Gx} {A : Nat → Prop} {bF : Nat → Nat} {bS : Nat → Nat} {bT : Nat → Nat} (C : Cx p s m args meth c cX1_takeValues 9 wsx_X1_takeValues_L RX1 (some .boolean)) (hK : va_K (gD G) vwCl (tyG G) s) (hA : ∀ q : Nat, s.heap.size ≤ q → A q) (hT : ST G A s s.heap) {r : (Int32 × Md × Md)} : ∀ (n : Nat), ∀ (uS : Md) (uT : Md) (x3 : Int32) (x4 : (Fin 10)) (x5 : Int32) (x6 : Int32) (x7 : Int32), fx_X1_takeValues_L_70 n uS uT x3 x4 x5 x6 x7 = some r → ∀ {H : Heap} {locs : List Loc}, va_P (gD G) vwCl (cF 0 bF ++ cS G bS uS ++ cT G bT uT) H → va_D A (cF 0 bF ++ cS G bS uS ++ cT G bT uT) → va_S A s.heap H locs → ∀ {ls : Array Slot}, lv_has ls 9 [(0, .ref (bF 0)), (1, .ref (bS 0)), (2, .ref (bT 0)), (3, .int x3), (4, .ref (gK G (x4).val)), (5, .int x5), (6, .int x6), (7, .int x7)] → W p l e rmx_X1_takeValues_L s m args below meth c H locs 0 0 (MQ below (qW (some (.int r.1)) (cF 0 bF ++ cS G bS r.2.1 ++ cT G bT r.2.2) (gD G) (tyG G) A) args s 0 0 A) (F0 m 70 ls []) := by
  have hx := C.1.1
  have hb := C.1.2.1
  have hts := C.1.2.2.2.2
  have hown := C.1.2.2.2.1
  have hin6 : ∀ w ∈ wsX60, w ∈ wsx_X1_takeValues_L := fun w h => List.mem_cons_of_mem _ (List.mem_append_right _ (List.mem_append_right _ (List.mem_append_left _ h)))
  have hin7 : ∀ w ∈ wsX70, w ∈ wsx_X1_takeValues_L := fun w h => List.mem_cons_of_mem _ (List.mem_append_right _ (List.mem_append_right _ (List.mem_append_right _ (List.mem_append_left _ h))))
  intro n
  induction n with
  | zero =>
    intro uS uT x3 x4 x5 x6 x7 hf H locs hP hD hS ls hl
    cases hf
  | succ n ih =>
    intro uS uT x3 x4 x5 x6 x7 hf H locs hP hD hS ls hl
    rw [fx_X1_takeValues_L_70] at hf
    refine lv_iload hx hb dX1_takeValues_70 (lv_at hl 7 rfl) ?_
    refine lv_aload hx hb dX1_takeValues_72 (lv_at hl 4 rfl) ?_
    obtain ⟨r_13, h_12, hf⟩ := og_b hf
    try dsimp only at hf
    refine xr_V (v := .int r_13) (rest := [.int x7]) (w0 := ([])) C (cx_X2_fields l G x4 r_13 _ h_12) (cwV 0 hts gx_X1_X2_fields_69 rfl rfl rfl hdx_X2_fields ⟨Nat.le_of_ble_eq_true rfl, Nat.le_of_ble_eq_true rfl⟩) hK hA hT hP hD hS (va_recvE hT.1.2.2.2.2.1 (x4).isLt hS) [] rfl rfl rfl hl.1 rfl (Nat.le_of_ble_eq_true rfl) dX1_takeValues_74 ?_
    refine lv_icmp_ge (tgt := 172) hx hb dX1_takeValues_77 (by decide) (fun c_14 => ?_) (fun c_14 => ?_)
    · replace hf := og_t c_14 hf
      refine lv_iconst (v := (1 : Int32)) hx hb dX1_takeValues_172 (by decide) ?_
      obtain rfl := og_s hf
      exact rw_z C hK hP hD hS (nz_z (Or.inr rfl)) dX1_takeValues_173
    · replace hf := og_f c_14 hf
      refine lv_aload hx hb dX1_takeValues_80 (lv_at hl 4 rfl) ?_
      refine lv_iload hx hb dX1_takeValues_82 (lv_at hl 7 rfl) ?_
      obtain ⟨r_16, h_15, hf⟩ := og_b hf
      try dsimp only at hf
      refine xr_V (v := .ref (gF G (r_16).val)) (rest := []) (w0 := ([])) C (cx_X2_fieldAt l G x4 x7 r_16 _ h_15) (cwV 1 hts gx_X1_X2_fieldAt_73 rfl rfl rfl hdx_X2_fieldAt ⟨Nat.le_of_ble_eq_true rfl, Nat.le_of_ble_eq_true rfl⟩) hK hA hT hP hD hS (va_recvE hT.1.2.2.2.2.1 (x4).isLt hS) [] rfl rfl rfl hl.1 rfl (Nat.le_of_ble_eq_true rfl) dX1_takeValues_84 ?_
      refine lv_astore (lv' := [(8, .ref (gF G (r_16).val)), (0, .ref (bF 0)), (1, .ref (bS 0)), (2, .ref (bT 0)), (3, .int x3), (4, .ref (gK G (x4).val)), (5, .int x5), (6, .int x6), (7, .int x7)]) hx hb dX1_takeValues_87 hl (by decide) rfl (fun ls hl => ?_)
      refine lv_aload hx hb dX1_takeValues_89 (lv_at hl 0 rfl) ?_
      refine xoN (v := .int (fSince r_16)) (host := "SchematicText") C hT ((hT.1.1.1 (r_16).val (r_16).isLt).2.2 _ (List.mem_cons_of_mem _ List.mem_cons_self)) hS (by decide +kernel) dX1_takeValues_91 ?_
      refine lv_aload_n hx hb dX1_takeValues_94 rfl (lv_at hl 3 rfl) ?_
      refine xgN (v := .int (gi uT 15)) (ci := 4) (K := RX7) (T := TX7) (N := 16) (host := "SchematicText") C hT hin7 hK hP 3 rfl rfl 15 (by decide) rfl (by decide +kernel) rfl dX1_takeValues_95 ?_
      refine lv_icmp_le (tgt := 104) hx hb dX1_takeValues_98 (by decide) (fun c_17 => ?_) (fun c_17 => ?_)
      · replace hf := og_t c_17 hf
        refine lv_aload_n hx hb dX1_takeValues_104 rfl (lv_at hl 1 rfl) ?_
        refine lv_aload_n hx hb dX1_takeValues_105 rfl (lv_at hl 2 rfl) ?_
        obtain ⟨⟨r_19, u_20⟩, h_18, hf⟩ := og_b hf
        try dsimp only at hf
        refine xw_U (ov := (some (.int r_19))) (st1 := [.int r_19]) (rest := []) (w0 := (cF 0 bF ++ cS G bS uS)) (w1 := (cF 0 bF ++ cS G bS u_20)) (wr := (cT G bT uT)) (w' := (cF 0 bF ++ cS G bS u_20 ++ cT G bT uT)) C (cx_X3_passGap_L l G bF bS uS r_19 u_20 _ h_18) (va_cwA 1 hts gx_X1_X3_passGap_L_46 rfl rfl rfl (hT.2.2.2 _ (by decide +kernel)) hdo_X3_passGap_L ⟨Nat.le_of_ble_eq_true rfl, Nat.le_of_ble_eq_true rfl⟩) hK hA hT hP hD hS (va_recv hK hP (ci := 0) (q0 := 0) rfl rfl) [0, 1, 2] [3, 4, 5, 6, 7, 8, 9, 10, 11, 12, 13, 14, 15] [13, 14, 15, 0, 1, 2, 3, 4, 5, 6, 7, 8, 9, 10, 11, 12] rfl rfl rfl rfl (by decide) rfl rfl rfl hl.1 rfl rfl (Nat.le_of_ble_eq_true rfl) dX1_takeValues_106 (fun H locs hP hD hS => ?_)
        refine lv_if_ne (tgt := 114) hx hb dX1_takeValues_109 (by decide) (fun c_21 => ?_) (fun c_21 => ?_)
        · replace hf := og_f c_21 hf
          refine lv_aload hx hb dX1_takeValues_114 (lv_at hl 0 rfl) ?_
          obtain ⟨r_23, h_22, hf⟩ := og_b hf
          try dsimp only at hf
          refine xr_V (v := .int r_23) (rest := []) (w0 := ([])) C (cx_X0_isText l G r_16 r_23 _ h_22) (cwV 0 hts gx_X1_X0_isText_80 rfl rfl rfl hdx_X0_isText ⟨Nat.le_of_ble_eq_true rfl, Nat.le_of_ble_eq_true rfl⟩) hK hA hT hP hD hS (va_recvE hT.1.1 (r_16).isLt hS) [] rfl rfl rfl hl.1 rfl (Nat.le_of_ble_eq_true rfl) dX1_takeValues_116 ?_
          refine lv_if_eq (tgt := 141) hx hb dX1_takeValues_119 (by decide) (fun c_24 => ?_) (fun c_24 => ?_)
          · replace hf := og_t c_24 hf
            refine lv_aload_n hx hb dX1_takeValues_141 rfl (lv_at hl 2 rfl) ?_
            refine lv_aload hx hb dX1_takeValues_142 (lv_at hl 0 rfl) ?_
            obtain ⟨⟨r_26, u_27⟩, h_25, hf⟩ := og_b hf
            try dsimp only at hf
            refine xw_V (ov := (some (.int r_26))) (st1 := [.int r_26]) (rest := []) (w0 := (cS G bS u_20)) (w1 := (cS G bS u_27)) (wr := (cF 0 bF ++ cT G bT uT)) (w' := (cF 0 bF ++ cS G bS u_27 ++ cT G bT uT)) C (cx_X6_takeNumber l G bS u_20 r_16 r_26 u_27 _ h_25) (cwV 1 hts gx_X1_X6_takeNumber_58 rfl rfl rfl hdx_X6_takeNumber ⟨Nat.le_of_ble_eq_true rfl, Nat.le_of_ble_eq_true rfl⟩) hK hA hT hP hD hS (va_recv hK hP (ci := 3) (q0 := 1) rfl rfl) [1, 2] [0, 3, 4, 5, 6, 7, 8, 9, 10, 11, 12, 13, 14, 15] [0, 14, 15, 1, 2, 3, 4, 5, 6, 7, 8, 9, 10, 11, 12, 13] rfl rfl rfl rfl (by decide) rfl rfl rfl hl.1 rfl rfl (Nat.le_of_ble_eq_true rfl) dX1_takeValues_144 (fun H locs hP hD hS => ?_)
            refine lv_if_ne (tgt := 152) hx hb dX1_takeValues_147 (by decide) (fun c_28 => ?_) (fun c_28 => ?_)
            · replace hf := og_f c_28 hf
              refine lv_aload_n hx hb dX1_takeValues_152 rfl (lv_at hl 3 rfl) ?_
              refine lv_iload_n hx hb dX1_takeValues_153 rfl (lv_at hl 4 rfl) ?_
              refine lv_iload hx hb dX1_takeValues_154 (lv_at hl 7 rfl) ?_
              refine lv_aload_n hx hb dX1_takeValues_156 rfl (lv_at hl 2 rfl) ?_
              refine xgN (v := .long (gl u_27)) (ci := 3) (K := RX6) (T := TX6) (N := 5) (host := "SchematicText") C hT hin6 hK hP 1 rfl rfl 4 (by decide) rfl (by decide +kernel) rfl dX1_takeValues_157 ?_
              obtain ⟨u_30, h_29, hf⟩ := og_b hf
              try dsimp only at hf
              refine xw_V (ov := none) (st1 := []) (rest := []) (w0 := (cT G bT uT)) (w1 := (cT G bT u_30)) (wr := (cF 0 bF ++ cS G bS u_27)) (w' := (cF 0 bF ++ cS G bS u_27 ++ cT G bT u_30)) C (cx_X7_putNumber l G bT uT x3 x6 (gl u_27) u_30 _ h_29) (cwV 3 hts gx_X1_X7_putNumber_88 rfl rfl rfl hdx_X7_putNumber ⟨Nat.le_of_ble_eq_true rfl, Nat.le_of_ble_eq_true rfl⟩) hK hA hT hP hD hS (va_recv hK hP (ci := 4) (q0 := 3) rfl rfl) [3, 4, 5, 6, 7, 8, 9, 10, 11, 12, 13, 14, 15] [0, 1, 2] [0, 1, 2, 3, 4, 5, 6, 7, 8, 9, 10, 11, 12, 13, 14, 15] rfl rfl rfl rfl (by decide) rfl rfl rfl hl.1 rfl rfl (Nat.le_of_ble_eq_true rfl) dX1_takeValues_160 (fun H locs hP hD hS => ?_)
              refine lv_iinc (v := (x6 + (1 : Int32))) (lv' := [(6, .int (x6 + (1 : Int32))), (8, .ref (gF G (r_16).val)), (0, .ref (bF 0)), (1, .ref (bS 0)), (2, .ref (bT 0)), (3, .int x3), (4, .ref (gK G (x4).val)), (5, .int x5), (7, .int x7)]) hx hb dX1_takeValues_163 hl (k := 7) rfl rfl (by decide) rfl (fun ls hl => ?_)
              exact wx_X1_takeValues_L_166 C hK hA hT (fx_X1_takeValues_L_70 n) (fun _ _ _ _ _ _ _ h9 => ih _ _ _ _ _ _ _ h9) u_27 u_30 x3 x4 x5 (x6 + (1 : Int32)) x7 hf hP hD hS (lv_sub hl [2, 3, 4, 5, 6, 7, 0, 8] rfl)
            · replace hf := og_t c_28 hf
              refine lv_iconst (v := (0 : Int32)) hx hb dX1_takeValues_150 (by decide) ?_
              obtain rfl := og_s hf
              exact rw_z C hK hP hD hS (nz_z (Or.inl rfl)) dX1_takeValues_151
          · replace hf := og_f c_24 hf
            refine lv_aload_n hx hb dX1_takeValues_122 rfl (lv_at hl 2 rfl) ?_
            refine lv_aload_n hx hb dX1_takeValues_123 rfl (lv_at hl 3 rfl) ?_
            refine lv_iload_n hx hb dX1_takeValues_124 rfl (lv_at hl 4 rfl) ?_
            refine lv_iload hx hb dX1_takeValues_125 (lv_at hl 6 rfl) ?_
            obtain ⟨⟨r_32, u_33, u_34⟩, h_31, hf⟩ := og_b hf
            try dsimp only at hf
            refine xw_V (ov := (some (.int r_32))) (st1 := [.int r_32]) (rest := []) (w0 := (cS G bS u_20 ++ cT G bT uT)) (w1 := (cS G bS u_33 ++ cT G bT u_34)) (wr := (cF 0 bF)) (w' := (cF 0 bF ++ cS G bS u_33 ++ cT G bT u_34)) C (cx_X6_takeText l G bS bT u_20 uT x3 x5 r_32 u_33 u_34 _ h_31) (cwV 3 hts gx_X1_X6_takeText_84 rfl rfl rfl hdx_X6_takeText ⟨Nat.le_of_ble_eq_true rfl, Nat.le_of_ble_eq_true rfl⟩) hK hA hT hP hD hS (va_recv hK hP (ci := 3) (q0 := 1) rfl rfl) [1, 2, 3, 4, 5, 6, 7, 8, 9, 10, 11, 12, 13, 14, 15] [0] [0, 1, 2, 3, 4, 5, 6, 7, 8, 9, 10, 11, 12, 13, 14, 15] rfl rfl rfl rfl (by decide) rfl rfl rfl hl.1 rfl rfl (Nat.le_of_ble_eq_true rfl) dX1_takeValues_127 (fun H locs hP hD hS => ?_)
            refine lv_if_ne (tgt := 135) hx hb dX1_takeValues_130 (by decide) (fun c_35 => ?_) (fun c_35 => ?_)
            · replace hf := og_f c_35 hf
              refine lv_iinc (v := (x5 + (1 : Int32))) (lv' := [(5, .int (x5 + (1 : Int32))), (8, .ref (gF G (r_16).val)), (0, .ref (bF 0)), (1, .ref (bS 0)), (2, .ref (bT 0)), (3, .int x3), (4, .ref (gK G (x4).val)), (6, .int x6), (7, .int x7)]) hx hb dX1_takeValues_135 hl (k := 6) rfl rfl (by decide) rfl (fun ls hl => ?_)
              refine lv_goto (tgt := 166) hx hb dX1_takeValues_138 (by decide) ?_
              exact wx_X1_takeValues_L_166 C hK hA hT (fx_X1_takeValues_L_70 n) (fun _ _ _ _ _ _ _ h9 => ih _ _ _ _ _ _ _ h9) u_33 u_34 x3 x4 (x5 + (1 : Int32)) x6 x7 hf hP hD hS (lv_sub hl [2, 3, 4, 5, 6, 0, 7, 8] rfl)
            · replace hf := og_t c_35 hf
              refine lv_iconst (v := (0 : Int32)) hx hb dX1_takeValues_133 (by decide) ?_
              obtain rfl := og_s hf
              exact rw_z C hK hP hD hS (nz_z (Or.inl rfl)) dX1_takeValues_134
        · replace hf := og_t c_21 hf
          refine lv_iconst (v := (0 : Int32)) hx hb dX1_takeValues_112 (by decide) ?_
          obtain rfl := og_s hf
          exact rw_z C hK hP hD hS (nz_z (Or.inl rfl)) dX1_takeValues_113
      · replace hf := og_f c_17 hf
        refine lv_goto (tgt := 166) hx hb dX1_takeValues_101 (by decide) ?_
        exact wx_X1_takeValues_L_166 C hK hA hT (fx_X1_takeValues_L_70 n) (fun _ _ _ _ _ _ _ h9 => ih _ _ _ _ _ _ _ h9) uS uT x3 x4 x5 x6 x7 hf hP hD hS (lv_sub hl [1, 2, 3, 4, 5, 6, 7, 8] rfl)
def fx_X1_takeValues_L (uS : Md) (uT : Md) (x3 : Int32) : Option (Int32 × Md × Md) := ((fx_X7_kindOf uT x3).bind fun r_2 => (if r_2 = (0 : Fin 10) then ((fx_X3_passGap_L uS).bind fun p_5 => (if p_5.1 = 0 then (fx_X1_takeValues_L_37 p_5.2 uT) else ((fx_X6_takeNumber p_5.2 (7 : Fin 8)).bind fun p_9 => (if p_9.1 = 0 then (fx_X1_takeValues_L_37 p_9.2 uT) else (fx_X1_takeValues_L_38 p_9.2 uT (1 : Int32)))))) else (fx_X1_takeValues_L_70 FU uS uT x3 r_2 (0 : Int32) (0 : Int32) (0 : Int32))))
set_option maxHeartbeats 4000000 in
set_option maxRecDepth 100000 in
theorem cx_X1_takeValues_L (l : Launch) (G : Gx) (bF : Nat → Nat) (bS : Nat → Nat) (bT : Nat → Nat) (uS : Md) (uT : Md) (x3 : Int32) (r : Int32) (vS : Md) (vT : Md) (sz : Nat) (hf : fx_X1_takeValues_L uS uT x3 = some (r, vS, vT)) : Met l yX1_takeValues wsx_X1_takeValues_L rmx_X1_takeValues_L (pX G (cF 0 bF ++ cS G bS uS ++ cT G bT uT) sz [.ref (bF 0), .ref (bS 0), .ref (bT 0), .int x3]) (qW (some (.int r)) (cF 0 bF ++ cS G bS vS ++ cT G bT vT) (gD G) (tyG G) (va_A (cF 0 bF ++ cS G bS uS ++ cT G bT uT) sz)) 0 0 (va_A (cF 0 bF ++ cS G bS uS ++ cT G bT uT) sz) := by
  refine mx_w (cc := cX1_takeValues) (maxL := 9) (ret := (some .boolean)) (by decide) rfl (Nat.le_of_ble_eq_true rfl) ?_
  intro p e s m below meth c ls A C hl hK hA hT hP hD hS
  have hl : lv_has ls 9 [(0, .ref (bF 0)), (1, .ref (bS 0)), (2, .ref (bT 0)), (3, .int x3)] := hl
  have hx := C.1.1
  have hb := C.1.2.1
  have hts := C.1.2.2.2.2
  have hown := C.1.2.2.2.1
  have hin6 : ∀ w ∈ wsX60, w ∈ wsx_X1_takeValues_L := fun w h => List.mem_cons_of_mem _ (List.mem_append_right _ (List.mem_append_right _ (List.mem_append_left _ h)))
  have hin7 : ∀ w ∈ wsX70, w ∈ wsx_X1_takeValues_L := fun w h => List.mem_cons_of_mem _ (List.mem_append_right _ (List.mem_append_right _ (List.mem_append_right _ (List.mem_append_left _ h))))
  unfold fx_X1_takeValues_L at hf
  refine lv_aload_n hx hb dX1_takeValues_0 rfl (lv_at hl 2 rfl) ?_
  refine lv_iload_n hx hb dX1_takeValues_1 rfl (lv_at hl 3 rfl) ?_
  obtain ⟨r_2, h_1, hf⟩ := og_b hf
  try dsimp only at hf
  refine xr_V (v := .ref (gK G (r_2).val)) (rest := []) (w0 := (cT G bT uT)) C (cx_X7_kindOf l G bT uT x3 r_2 _ h_1) (cwV 1 hts gx_X1_X7_kindOf_36 rfl rfl rfl hdx_X7_kindOf ⟨Nat.le_of_ble_eq_true rfl, Nat.le_of_ble_eq_true rfl⟩) hK hA hT hP hD hS (va_recv hK hP (ci := 4) (q0 := 3) rfl rfl) [3, 4, 5, 6, 7, 8, 9, 10, 11, 12, 13, 14, 15] rfl rfl rfl hl.1 rfl (Nat.le_of_ble_eq_true rfl) dX1_takeValues_2 ?_
  refine lv_astore (lv' := [(4, .ref (gK G (r_2).val)), (0, .ref (bF 0)), (1, .ref (bS 0)), (2, .ref (bT 0)), (3, .int x3)]) hx hb dX1_takeValues_5 hl (by decide) rfl (fun ls hl => ?_)
  refine lv_aload hx hb dX1_takeValues_7 (lv_at hl 0 rfl) ?_
  refine xK (i := (0 : Fin 10)) C hT hS (hts (Cond.fieldLink RX1 40 "SchematicText$Kind" "DESIGN" "LSchematicText$Kind;") (List.mem_cons_of_mem _ mx_193)) dX1_takeValues_9 ?_
  refine xa_ne (i := r_2) (j := (0 : Fin 10)) (tgt := 61) C hT dX1_takeValues_12 (by decide) (fun c_3 => ?_) (fun c_3 => ?_)
  · replace hf := og_f c_3 hf
    refine lv_iconst (v := (0 : Int32)) hx hb dX1_takeValues_61 (by decide) ?_
    refine lv_istore (lv' := [(5, .int (0 : Int32)), (4, .ref (gK G (r_2).val)), (0, .ref (bF 0)), (1, .ref (bS 0)), (2, .ref (bT 0)), (3, .int x3)]) hx hb dX1_takeValues_62 hl (by decide) rfl (fun ls hl => ?_)
    refine lv_iconst (v := (0 : Int32)) hx hb dX1_takeValues_64 (by decide) ?_
    refine lv_istore (lv' := [(6, .int (0 : Int32)), (5, .int (0 : Int32)), (4, .ref (gK G (r_2).val)), (0, .ref (bF 0)), (1, .ref (bS 0)), (2, .ref (bT 0)), (3, .int x3)]) hx hb dX1_takeValues_65 hl (by decide) rfl (fun ls hl => ?_)
    refine lv_iconst (v := (0 : Int32)) hx hb dX1_takeValues_67 (by decide) ?_
    refine lv_istore (lv' := [(7, .int (0 : Int32)), (6, .int (0 : Int32)), (5, .int (0 : Int32)), (4, .ref (gK G (r_2).val)), (0, .ref (bF 0)), (1, .ref (bS 0)), (2, .ref (bT 0)), (3, .int x3)]) hx hb dX1_takeValues_68 hl (by decide) rfl (fun ls hl => ?_)
    exact wx_X1_takeValues_L_70 C hK hA hT FU uS uT x3 r_2 (0 : Int32) (0 : Int32) (0 : Int32) hf hP hD hS (lv_sub hl [4, 5, 6, 7, 3, 2, 1, 0] rfl)
  · replace hf := og_t c_3 hf
    refine lv_aload_n hx hb dX1_takeValues_15 rfl (lv_at hl 1 rfl) ?_
    refine lv_aload_n hx hb dX1_takeValues_16 rfl (lv_at hl 2 rfl) ?_
    obtain ⟨⟨r_5, u_6⟩, h_4, hf⟩ := og_b hf
    try dsimp only at hf
    refine xw_U (ov := (some (.int r_5))) (st1 := [.int r_5]) (rest := []) (w0 := (cF 0 bF ++ cS G bS uS)) (w1 := (cF 0 bF ++ cS G bS u_6)) (wr := (cT G bT uT)) (w' := (cF 0 bF ++ cS G bS u_6 ++ cT G bT uT)) C (cx_X3_passGap_L l G bF bS uS r_5 u_6 _ h_4) (va_cwA 1 hts gx_X1_X3_passGap_L_46 rfl rfl rfl (hT.2.2.2 _ (by decide +kernel)) hdo_X3_passGap_L ⟨Nat.le_of_ble_eq_true rfl, Nat.le_of_ble_eq_true rfl⟩) hK hA hT hP hD hS (va_recv hK hP (ci := 0) (q0 := 0) rfl rfl) [0, 1, 2] [3, 4, 5, 6, 7, 8, 9, 10, 11, 12, 13, 14, 15] [13, 14, 15, 0, 1, 2, 3, 4, 5, 6, 7, 8, 9, 10, 11, 12] rfl rfl rfl rfl (by decide) rfl rfl rfl hl.1 rfl rfl (Nat.le_of_ble_eq_true rfl) dX1_takeValues_17 (fun H locs hP hD hS => ?_)
    refine lv_if_eq (tgt := 37) hx hb dX1_takeValues_20 (by decide) (fun c_7 => ?_) (fun c_7 => ?_)
    · replace hf := og_t c_7 hf
      exact wx_X1_takeValues_L_37 C hK hA hT u_6 uT hf hP hD hS (lv_sub hl [2, 3] rfl)
    · replace hf := og_f c_7 hf
      refine lv_aload_n hx hb dX1_takeValues_23 rfl (lv_at hl 2 rfl) ?_
      refine xF (i := (7 : Fin 8)) C hT hS (hts (Cond.fieldLink RX1 52 "SchematicText$Field" "VERSION" "LSchematicText$Field;") (List.mem_cons_of_mem _ mx_194)) dX1_takeValues_24 ?_
      obtain ⟨⟨r_9, u_10⟩, h_8, hf⟩ := og_b hf
      try dsimp only at hf
      refine xw_V (ov := (some (.int r_9))) (st1 := [.int r_9]) (rest := []) (w0 := (cS G bS u_6)) (w1 := (cS G bS u_10)) (wr := (cF 0 bF ++ cT G bT uT)) (w' := (cF 0 bF ++ cS G bS u_10 ++ cT G bT uT)) C (cx_X6_takeNumber l G bS u_6 (7 : Fin 8) r_9 u_10 _ h_8) (cwV 1 hts gx_X1_X6_takeNumber_58 rfl rfl rfl hdx_X6_takeNumber ⟨Nat.le_of_ble_eq_true rfl, Nat.le_of_ble_eq_true rfl⟩) hK hA hT hP hD hS (va_recv hK hP (ci := 3) (q0 := 1) rfl rfl) [1, 2] [0, 3, 4, 5, 6, 7, 8, 9, 10, 11, 12, 13, 14, 15] [0, 14, 15, 1, 2, 3, 4, 5, 6, 7, 8, 9, 10, 11, 12, 13] rfl rfl rfl rfl (by decide) rfl rfl rfl hl.1 rfl rfl (Nat.le_of_ble_eq_true rfl) dX1_takeValues_27 (fun H locs hP hD hS => ?_)
      refine lv_if_eq (tgt := 37) hx hb dX1_takeValues_30 (by decide) (fun c_11 => ?_) (fun c_11 => ?_)
      · replace hf := og_t c_11 hf
        exact wx_X1_takeValues_L_37 C hK hA hT u_10 uT hf hP hD hS (lv_sub hl [2, 3] rfl)
      · replace hf := og_f c_11 hf
        refine lv_iconst (v := (1 : Int32)) hx hb dX1_takeValues_33 (by decide) ?_
        refine lv_goto (tgt := 38) hx hb dX1_takeValues_34 (by decide) ?_
        exact wx_X1_takeValues_L_38 C hK hA hT u_10 uT (1 : Int32) hf hP hD hS (lv_sub hl [2, 3] rfl)
theorem gx_X3_X3_holderOf_L_38 {c0 : Cond} : GoodIn (c0 :: WAX) (wsV RX3 38 RX3 yX3_holderOf wsx_X3_holderOf_L) := gdx_v mx_331 mx_332 mx_333 mx_200 mx_334
theorem gx_X3_X1_takeName_L_42 {c0 : Cond} : GoodIn (c0 :: WAX) (va_wsU RX3 42 RX3 "SchematicText$Form" ⟨"SchematicText$LineForm", "takeName", "(LSchematicText$Source;LSchematicText$Tree;I)I"⟩ yX1_takeName wsx_X1_takeName_L) := gdx_u mx_339 mx_340 mx_341 mx_342 mx_318 mx_18
theorem gx_X3_X7_kindOf_45 {c0 : Cond} : GoodIn (c0 :: WAX) (wsV RX3 45 RX7 yX7_kindOf wsx_X7_kindOf) := gdx_v mx_343 mx_108 mx_109 mx_99 mx_110
theorem gx_X3_X3_keepLines_L_55 {c0 : Cond} : GoodIn (c0 :: WAX) (wsV RX3 55 RX3 yX3_keepLines wsx_X3_keepLines_L) := gdx_v mx_344 mx_345 mx_346 mx_200 mx_347
theorem gx_X3_X1_takeValues_L_59 {c0 : Cond} : GoodIn (c0 :: WAX) (va_wsU RX3 59 RX3 "SchematicText$Form" ⟨"SchematicText$LineForm", "takeValues", "(LSchematicText$Source;LSchematicText$Tree;I)Z"⟩ yX1_takeValues wsx_X1_takeValues_L) := gdx_u mx_366 mx_367 mx_368 mx_369 mx_318 mx_192
abbrev rmx_X3_takeLine_L : Room := { frames := 8, cells := 0, slots := 0, locals := 180 }
noncomputable abbrev wsx_X3_takeLine_L : List Cond := Cond.code yX3_takeLine cX3_takeLine 8 (some .int) :: WAX
theorem hdx_X3_takeLine_L : yX3_takeLine.cls = RX3 ∧ yX3_takeLine.cls ≠ "java/lang/invoke/MethodHandle" ∧ yX3_takeLine.cls ≠ "java/lang/invoke/VarHandle" ∧ (parseMethodDescriptor yX3_takeLine.desc).map (fun d => d.parameters.length) = some 3 := by decide +kernel
theorem hdo_X3_takeLine_L : "SchematicText$Form" ≠ "java/lang/invoke/MethodHandle" ∧ "SchematicText$Form" ≠ "java/lang/invoke/VarHandle" ∧ (parseMethodDescriptor "(LSchematicText$Source;LSchematicText$Tree;I)I").map (fun d => d.parameters.length) = some 3 := by decide +kernel
def fx_X3_takeLine_L_61 (uS : Md) (uT : Md) (x3 : Int32) (x5 : Int32) (x6 : Int32) : Option (Int32 × Md × Md) := ((fx_X3_holderOf_L uT x3 x6).bind fun r_15 => ((fx_X1_takeName_L (si uS 2 (x5 + x6)) uT r_15).bind fun p_17 => (if p_17.1 = (-1 : Int32) then (some ((-1 : Int32), p_17.2.1, p_17.2.2)) else ((fx_X7_kindOf p_17.2.2 p_17.1).bind fun r_22 => (if r_22 = (9 : Fin 10) then ((fx_X3_keepLines_L p_17.2.1 p_17.2.2 p_17.1 (x5 + x6)).bind fun p_34 => (if p_34.1 = 0 then (some ((-1 : Int32), p_34.2.1, p_34.2.2)) else (some (p_17.1, p_34.2.1, p_34.2.2)))) else ((fx_X1_takeValues_L p_17.2.1 p_17.2.2 p_17.1).bind fun p_25 => (if p_25.1 = 0 then (some ((-1 : Int32), p_25.2.1, p_25.2.2)) else ((fx_X6_passOnly p_25.2.1 (10 : Int32)).bind fun p_30 => (if p_30.1 = 0 then (some ((-1 : Int32), p_30.2, p_25.2.2)) else (some (p_17.1, p_30.2, p_25.2.2)))))))))))
set_option maxHeartbeats 4000000 in
set_option maxRecDepth 100000 in
theorem wx_X3_takeLine_L_61 {p : Program} {l : Launch} {e : Env} {s : State} {m : MethodId} {args : Array Value} {below : List Frame} {meth : Method} {c : Code} {G : Gx} {A : Nat → Prop} {bF : Nat → Nat} {bS : Nat → Nat} {bT : Nat → Nat} (C : Cx p s m args meth c cX3_takeLine 8 wsx_X3_takeLine_L RX3 (some .int)) (hK : va_K (gD G) vwCl (tyG G) s) (hA : ∀ q : Nat, s.heap.size ≤ q → A q) (hT : ST G A s s.heap) {r : (Int32 × Md × Md)} : ∀ (uS : Md) (uT : Md) (x3 : Int32) (x5 : Int32) (x6 : Int32), fx_X3_takeLine_L_61 uS uT x3 x5 x6 = some r → ∀ {H : Heap} {locs : List Loc}, va_P (gD G) vwCl (cF 0 bF ++ cS G bS uS ++ cT G bT uT) H → va_D A (cF 0 bF ++ cS G bS uS ++ cT G bT uT) → va_S A s.heap H locs → ∀ {ls : Array Slot}, lv_has ls 8 [(0, .ref (bF 0)), (1, .ref (bS 0)), (2, .ref (bT 0)), (3, .int x3), (5, .int x5), (6, .int x6)] → W p l e rmx_X3_takeLine_L s m args below meth c H locs 0 0 (MQ below (qW (some (.int r.1)) (cF 0 bF ++ cS G bS r.2.1 ++ cT G bT r.2.2) (gD G) (tyG G) A) args s 0 0 A) (F0 m 61 ls []) := by
  have hx := C.1.1
  have hb := C.1.2.1
  have hts := C.1.2.2.2.2
  have hown := C.1.2.2.2.1
  have hin6 : ∀ w ∈ wsX60, w ∈ wsx_X3_takeLine_L := fun w h => List.mem_cons_of_mem _ (List.mem_append_right _ (List.mem_append_right _ (List.mem_append_left _ h)))
  have hin7 : ∀ w ∈ wsX70, w ∈ wsx_X3_takeLine_L := fun w h => List.mem_cons_of_mem _ (List.mem_append_right _ (List.mem_append_right _ (List.mem_append_right _ (List.mem_append_left _ h))))
  intro uS uT x3 x5 x6 hf H locs hP hD hS ls hl
  unfold fx_X3_takeLine_L_61 at hf
  refine lv_aload_n hx hb dX3_takeLine_61 rfl (lv_at hl 1 rfl) ?_
  refine lv_iload hx hb dX3_takeLine_62 (lv_at hl 4 rfl) ?_
  refine lv_iload hx hb dX3_takeLine_64 (lv_at hl 5 rfl) ?_
  refine lv_iadd hx hb dX3_takeLine_66 ?_
  refine xpN (v := .int (x5 + x6)) (w' := (cF 0 bF ++ cS G bS (si uS 2 (x5 + x6)) ++ cT G bT uT)) (ci := 3) (K := RX6) (T := TX6) (N := 5) (ty := .int) (host := "SchematicText") C hT hin6 tyX6 tyX6_ok nmX6 hK hP hD hS 1 rfl rfl 2 (by decide) rfl (by decide +kernel) rfl rfl rfl rfl (Nat.le_of_ble_eq_true rfl) dX3_takeLine_67 hw_F0ST_S_i2 (fun H locs hP hD hS => ?_)
  refine lv_aload_n hx hb dX3_takeLine_70 rfl (lv_at hl 0 rfl) ?_
  refine lv_aload_n hx hb dX3_takeLine_71 rfl (lv_at hl 1 rfl) ?_
  refine lv_aload_n hx hb dX3_takeLine_72 rfl (lv_at hl 2 rfl) ?_
  refine lv_aload_n hx hb dX3_takeLine_73 rfl (lv_at hl 0 rfl) ?_
  refine lv_aload_n hx hb dX3_takeLine_74 rfl (lv_at hl 2 rfl) ?_
  refine lv_iload_n hx hb dX3_takeLine_75 rfl (lv_at hl 3 rfl) ?_
  refine lv_iload hx hb dX3_takeLine_76 (lv_at hl 5 rfl) ?_
  obtain ⟨r_15, h_14, hf⟩ := og_b hf
  try dsimp only at hf
  refine xr_V (v := .int r_15) (rest := [.ref (bT 0), .ref (bS 0), .ref (bF 0)]) (w0 := (cF 0 bF ++ cT G bT uT)) C (cx_X3_holderOf_L l G bF bT uT x3 x6 r_15 _ h_14) (cwV 3 hts gx_X3_X3_holderOf_L_38 rfl rfl rfl hdx_X3_holderOf_L ⟨Nat.le_of_ble_eq_true rfl, Nat.le_of_ble_eq_true rfl⟩) hK hA hT hP hD hS (va_recv hK hP (ci := 0) (q0 := 0) rfl rfl) [0, 3, 4, 5, 6, 7, 8, 9, 10, 11, 12, 13, 14, 15] rfl rfl rfl hl.1 rfl (Nat.le_of_ble_eq_true rfl) dX3_takeLine_78 ?_
  obtain ⟨⟨r_17, u_18, u_19⟩, h_16, hf⟩ := og_b hf
  try dsimp only at hf
  refine xw_U (ov := (some (.int r_17))) (st1 := [.int r_17]) (rest := []) (w0 := (cF 0 bF ++ cS G bS (si uS 2 (x5 + x6)) ++ cT G bT uT)) (w1 := (cF 0 bF ++ cS G bS u_18 ++ cT G bT u_19)) (wr := ([])) (w' := (cF 0 bF ++ cS G bS u_18 ++ cT G bT u_19)) C (cx_X1_takeName_L l G bF bS bT (si uS 2 (x5 + x6)) uT r_15 r_17 u_18 u_19 _ h_16) (va_cwU 3 hts gx_X3_X1_takeName_L_42 rfl rfl rfl rfl hdo_X1_takeName_L ⟨Nat.le_of_ble_eq_true rfl, Nat.le_of_ble_eq_true rfl⟩) hK hA hT hP hD hS (va_recv hK hP (ci := 0) (q0 := 0) rfl rfl) [0, 1, 2, 3, 4, 5, 6, 7, 8, 9, 10, 11, 12, 13, 14, 15] [] [0, 1, 2, 3, 4, 5, 6, 7, 8, 9, 10, 11, 12, 13, 14, 15] rfl rfl rfl rfl (by decide) rfl rfl rfl hl.1 rfl rfl (Nat.le_of_ble_eq_true rfl) dX3_takeLine_81 (fun H locs hP hD hS => ?_)
  refine lv_istore (lv' := [(7, .int r_17), (0, .ref (bF 0)), (1, .ref (bS 0)), (2, .ref (bT 0)), (3, .int x3), (5, .int x5), (6, .int x6)]) hx hb dX3_takeLine_84 hl (by decide) rfl (fun ls hl => ?_)
  refine lv_iload hx hb dX3_takeLine_86 (lv_at hl 0 rfl) ?_
  refine lv_iconst (v := (-1 : Int32)) hx hb dX3_takeLine_88 (by decide) ?_
  refine lv_icmp_ne (tgt := 94) hx hb dX3_takeLine_89 (by decide) (fun c_20 => ?_) (fun c_20 => ?_)
  · replace hf := og_f c_20 hf
    refine lv_aload_n hx hb dX3_takeLine_94 rfl (lv_at hl 3 rfl) ?_
    refine lv_iload hx hb dX3_takeLine_95 (lv_at hl 0 rfl) ?_
    obtain ⟨r_22, h_21, hf⟩ := og_b hf
    try dsimp only at hf
    refine xr_V (v := .ref (gK G (r_22).val)) (rest := []) (w0 := (cT G bT u_19)) C (cx_X7_kindOf l G bT u_19 r_17 r_22 _ h_21) (cwV 1 hts gx_X3_X7_kindOf_45 rfl rfl rfl hdx_X7_kindOf ⟨Nat.le_of_ble_eq_true rfl, Nat.le_of_ble_eq_true rfl⟩) hK hA hT hP hD hS (va_recv hK hP (ci := 4) (q0 := 3) rfl rfl) [3, 4, 5, 6, 7, 8, 9, 10, 11, 12, 13, 14, 15] rfl rfl rfl hl.1 rfl (Nat.le_of_ble_eq_true rfl) dX3_takeLine_97 ?_
    refine xK (i := (9 : Fin 10)) C hT hS (hts (Cond.fieldLink RX3 49 "SchematicText$Kind" "UNKNOWN" "LSchematicText$Kind;") (List.mem_cons_of_mem _ mx_324)) dX3_takeLine_100 ?_
    refine xa_ne (i := r_22) (j := (9 : Fin 10)) (tgt := 129) C hT dX3_takeLine_103 (by decide) (fun c_23 => ?_) (fun c_23 => ?_)
    · replace hf := og_f c_23 hf
      refine lv_aload_n hx hb dX3_takeLine_129 rfl (lv_at hl 1 rfl) ?_
      refine lv_aload_n hx hb dX3_takeLine_130 rfl (lv_at hl 2 rfl) ?_
      refine lv_aload_n hx hb dX3_takeLine_131 rfl (lv_at hl 3 rfl) ?_
      refine lv_iload hx hb dX3_takeLine_132 (lv_at hl 0 rfl) ?_
      obtain ⟨⟨r_25, u_26, u_27⟩, h_24, hf⟩ := og_b hf
      try dsimp only at hf
      refine xw_U (ov := (some (.int r_25))) (st1 := [.int r_25]) (rest := []) (w0 := (cF 0 bF ++ cS G bS u_18 ++ cT G bT u_19)) (w1 := (cF 0 bF ++ cS G bS u_26 ++ cT G bT u_27)) (wr := ([])) (w' := (cF 0 bF ++ cS G bS u_26 ++ cT G bT u_27)) C (cx_X1_takeValues_L l G bF bS bT u_18 u_19 r_17 r_25 u_26 u_27 _ h_24) (va_cwU 3 hts gx_X3_X1_takeValues_L_59 rfl rfl rfl rfl hdo_X1_takeValues_L ⟨Nat.le_of_ble_eq_true rfl, Nat.le_of_ble_eq_true rfl⟩) hK hA hT hP hD hS (va_recv hK hP (ci := 0) (q0 := 0) rfl rfl) [0, 1, 2, 3, 4, 5, 6, 7, 8, 9, 10, 11, 12, 13, 14, 15] [] [0, 1, 2, 3, 4, 5, 6, 7, 8, 9, 10, 11, 12, 13, 14, 15] rfl rfl rfl rfl (by decide) rfl rfl rfl hl.1 rfl rfl (Nat.le_of_ble_eq_true rfl) dX3_takeLine_134 (fun H locs hP hD hS => ?_)
      refine lv_if_eq (tgt := 154) hx hb dX3_takeLine_137 (by decide) (fun c_28 => ?_) (fun c_28 => ?_)
      · replace hf := og_t c_28 hf
        refine lv_iconst (v := (-1 : Int32)) hx hb dX3_takeLine_154 (by decide) ?_
        obtain rfl := og_s hf
        exact rw_i C hK hP hD hS dX3_takeLine_155
      · replace hf := og_f c_28 hf
        refine lv_aload_n hx hb dX3_takeLine_140 rfl (lv_at hl 2 rfl) ?_
        refine lv_bipush (v := (10 : Int32)) hx hb dX3_takeLine_141 (by decide) ?_
        obtain ⟨⟨r_30, u_31⟩, h_29, hf⟩ := og_b hf
        try dsimp only at hf
        refine xw_V (ov := (some (.int r_30))) (st1 := [.int r_30]) (rest := []) (w0 := (cS G bS u_26)) (w1 := (cS G bS u_31)) (wr := (cF 0 bF ++ cT G bT u_27)) (w' := (cF 0 bF ++ cS G bS u_31 ++ cT G bT u_27)) C (cx_X6_passOnly l G bS u_26 (10 : Int32) r_30 u_31 _ h_29) (cwV 1 hts gx_X3_X6_passOnly_63 rfl rfl rfl hdx_X6_passOnly ⟨Nat.le_of_ble_eq_true rfl, Nat.le_of_ble_eq_true rfl⟩) hK hA hT hP hD hS (va_recv hK hP (ci := 3) (q0 := 1) rfl rfl) [1, 2] [0, 3, 4, 5, 6, 7, 8, 9, 10, 11, 12, 13, 14, 15] [0, 14, 15, 1, 2, 3, 4, 5, 6, 7, 8, 9, 10, 11, 12, 13] rfl rfl rfl rfl (by decide) rfl rfl rfl hl.1 rfl rfl (Nat.le_of_ble_eq_true rfl) dX3_takeLine_143 (fun H locs hP hD hS => ?_)
        refine lv_if_eq (tgt := 154) hx hb dX3_takeLine_146 (by decide) (fun c_32 => ?_) (fun c_32 => ?_)
        · replace hf := og_t c_32 hf
          refine lv_iconst (v := (-1 : Int32)) hx hb dX3_takeLine_154 (by decide) ?_
          obtain rfl := og_s hf
          exact rw_i C hK hP hD hS dX3_takeLine_155
        · replace hf := og_f c_32 hf
          refine lv_iload hx hb dX3_takeLine_149 (lv_at hl 0 rfl) ?_
          refine lv_goto (tgt := 155) hx hb dX3_takeLine_151 (by decide) ?_
          obtain rfl := og_s hf
          exact rw_i C hK hP hD hS dX3_takeLine_155
    · replace hf := og_t c_23 hf
      refine lv_aload_n hx hb dX3_takeLine_106 rfl (lv_at hl 1 rfl) ?_
      refine lv_aload_n hx hb dX3_takeLine_107 rfl (lv_at hl 2 rfl) ?_
      refine lv_aload_n hx hb dX3_takeLine_108 rfl (lv_at hl 3 rfl) ?_
      refine lv_iload hx hb dX3_takeLine_109 (lv_at hl 0 rfl) ?_
      refine lv_iload hx hb dX3_takeLine_111 (lv_at hl 5 rfl) ?_
      refine lv_iload hx hb dX3_takeLine_113 (lv_at hl 6 rfl) ?_
      refine lv_iadd hx hb dX3_takeLine_115 ?_
      obtain ⟨⟨r_34, u_35, u_36⟩, h_33, hf⟩ := og_b hf
      try dsimp only at hf
      refine xw_V (ov := (some (.int r_34))) (st1 := [.int r_34]) (rest := []) (w0 := (cF 0 bF ++ cS G bS u_18 ++ cT G bT u_19)) (w1 := (cF 0 bF ++ cS G bS u_35 ++ cT G bT u_36)) (wr := ([])) (w' := (cF 0 bF ++ cS G bS u_35 ++ cT G bT u_36)) C (cx_X3_keepLines_L l G bF bS bT u_18 u_19 r_17 (x5 + x6) r_34 u_35 u_36 _ h_33) (cwV 4 hts gx_X3_X3_keepLines_L_55 rfl rfl rfl hdx_X3_keepLines_L ⟨Nat.le_of_ble_eq_true rfl, Nat.le_of_ble_eq_true rfl⟩) hK hA hT hP hD hS (va_recv hK hP (ci := 0) (q0 := 0) rfl rfl) [0, 1, 2, 3, 4, 5, 6, 7, 8, 9, 10, 11, 12, 13, 14, 15] [] [0, 1, 2, 3, 4, 5, 6, 7, 8, 9, 10, 11, 12, 13, 14, 15] rfl rfl rfl rfl (by decide) rfl rfl rfl hl.1 rfl rfl (Nat.le_of_ble_eq_true rfl) dX3_takeLine_116 (fun H locs hP hD hS => ?_)
      refine lv_if_eq (tgt := 127) hx hb dX3_takeLine_119 (by decide) (fun c_37 => ?_) (fun c_37 => ?_)
      · replace hf := og_t c_37 hf
        refine lv_iconst (v := (-1 : Int32)) hx hb dX3_takeLine_127 (by decide) ?_
        obtain rfl := og_s hf
        exact rw_i C hK hP hD hS dX3_takeLine_128
      · replace hf := og_f c_37 hf
        refine lv_iload hx hb dX3_takeLine_122 (lv_at hl 0 rfl) ?_
        refine lv_goto (tgt := 128) hx hb dX3_takeLine_124 (by decide) ?_
        obtain rfl := og_s hf
        exact rw_i C hK hP hD hS dX3_takeLine_128
  · replace hf := og_t c_20 hf
    refine lv_iconst (v := (-1 : Int32)) hx hb dX3_takeLine_92 (by decide) ?_
    obtain rfl := og_s hf
    exact rw_i C hK hP hD hS dX3_takeLine_93
def fx_X3_takeLine_L (uS : Md) (uT : Md) (x3 : Int32) : Option (Int32 × Md × Md) := ((fx_X7_depthOf uT x3).bind fun r_2 => ((fx_X6_dotsFrom uS (gi uS 2)).bind fun r_4 => (if r_4 ≤ (r_2 + (1 : Int32)) then (if r_4 = 0 then (if x3 = (-1 : Int32) then (fx_X3_takeLine_L_61 uS uT x3 (gi uS 2) r_4) else ((fx_X6_failAt uS (gi uS 2)).bind fun p_9 => (some ((-1 : Int32), p_9.2, uT)))) else (fx_X3_takeLine_L_61 uS uT x3 (gi uS 2) r_4)) else ((fx_X6_failAt uS ((gi uS 2) + (r_2 + (1 : Int32)))).bind fun p_12 => (some ((-1 : Int32), p_12.2, uT))))))
set_option maxHeartbeats 4000000 in
set_option maxRecDepth 100000 in
theorem cx_X3_takeLine_L (l : Launch) (G : Gx) (bF : Nat → Nat) (bS : Nat → Nat) (bT : Nat → Nat) (uS : Md) (uT : Md) (x3 : Int32) (r : Int32) (vS : Md) (vT : Md) (sz : Nat) (hf : fx_X3_takeLine_L uS uT x3 = some (r, vS, vT)) : Met l yX3_takeLine wsx_X3_takeLine_L rmx_X3_takeLine_L (pX G (cF 0 bF ++ cS G bS uS ++ cT G bT uT) sz [.ref (bF 0), .ref (bS 0), .ref (bT 0), .int x3]) (qW (some (.int r)) (cF 0 bF ++ cS G bS vS ++ cT G bT vT) (gD G) (tyG G) (va_A (cF 0 bF ++ cS G bS uS ++ cT G bT uT) sz)) 0 0 (va_A (cF 0 bF ++ cS G bS uS ++ cT G bT uT) sz) := by
  refine mx_w (cc := cX3_takeLine) (maxL := 8) (ret := (some .int)) (by decide) rfl (Nat.le_of_ble_eq_true rfl) ?_
  intro p e s m below meth c ls A C hl hK hA hT hP hD hS
  have hl : lv_has ls 8 [(0, .ref (bF 0)), (1, .ref (bS 0)), (2, .ref (bT 0)), (3, .int x3)] := hl
  have hx := C.1.1
  have hb := C.1.2.1
  have hts := C.1.2.2.2.2
  have hown := C.1.2.2.2.1
  have hin6 : ∀ w ∈ wsX60, w ∈ wsx_X3_takeLine_L := fun w h => List.mem_cons_of_mem _ (List.mem_append_right _ (List.mem_append_right _ (List.mem_append_left _ h)))
  have hin7 : ∀ w ∈ wsX70, w ∈ wsx_X3_takeLine_L := fun w h => List.mem_cons_of_mem _ (List.mem_append_right _ (List.mem_append_right _ (List.mem_append_right _ (List.mem_append_left _ h))))
  unfold fx_X3_takeLine_L at hf
  refine lv_aload_n hx hb dX3_takeLine_0 rfl (lv_at hl 2 rfl) ?_
  refine lv_iload_n hx hb dX3_takeLine_1 rfl (lv_at hl 3 rfl) ?_
  obtain ⟨r_2, h_1, hf⟩ := og_b hf
  try dsimp only at hf
  refine xr_V (v := .int r_2) (rest := []) (w0 := (cT G bT uT)) C (cx_X7_depthOf l G bT uT x3 r_2 _ h_1) (cwV 1 hts gx_X3_X7_depthOf_21 rfl rfl rfl hdx_X7_depthOf ⟨Nat.le_of_ble_eq_true rfl, Nat.le_of_ble_eq_true rfl⟩) hK hA hT hP hD hS (va_recv hK hP (ci := 4) (q0 := 3) rfl rfl) [3, 4, 5, 6, 7, 8, 9, 10, 11, 12, 13, 14, 15] rfl rfl rfl hl.1 rfl (Nat.le_of_ble_eq_true rfl) dX3_takeLine_2 ?_
  refine lv_iconst (v := (1 : Int32)) hx hb dX3_takeLine_5 (by decide) ?_
  refine lv_iadd hx hb dX3_takeLine_6 ?_
  refine lv_istore (lv' := [(4, .int (r_2 + (1 : Int32))), (0, .ref (bF 0)), (1, .ref (bS 0)), (2, .ref (bT 0)), (3, .int x3)]) hx hb dX3_takeLine_7 hl (by decide) rfl (fun ls hl => ?_)
  refine lv_aload_n hx hb dX3_takeLine_9 rfl (lv_at hl 2 rfl) ?_
  refine xgN (v := .int (gi uS 2)) (ci := 3) (K := RX6) (T := TX6) (N := 5) (host := "SchematicText") C hT hin6 hK hP 1 rfl rfl 2 (by decide) rfl (by decide +kernel) rfl dX3_takeLine_10 ?_
  refine lv_istore (lv' := [(5, .int (gi uS 2)), (4, .int (r_2 + (1 : Int32))), (0, .ref (bF 0)), (1, .ref (bS 0)), (2, .ref (bT 0)), (3, .int x3)]) hx hb dX3_takeLine_13 hl (by decide) rfl (fun ls hl => ?_)
  refine lv_aload_n hx hb dX3_takeLine_15 rfl (lv_at hl 3 rfl) ?_
  refine lv_iload hx hb dX3_takeLine_16 (lv_at hl 0 rfl) ?_
  obtain ⟨r_4, h_3, hf⟩ := og_b hf
  try dsimp only at hf
  refine xr_V (v := .int r_4) (rest := []) (w0 := (cS G bS uS)) C (cx_X6_dotsFrom l G bS uS (gi uS 2) r_4 _ h_3) (cwV 1 hts gx_X3_X6_dotsFrom_31 rfl rfl rfl hdx_X6_dotsFrom ⟨Nat.le_of_ble_eq_true rfl, Nat.le_of_ble_eq_true rfl⟩) hK hA hT hP hD hS (va_recv hK hP (ci := 3) (q0 := 1) rfl rfl) [1, 2] rfl rfl rfl hl.1 rfl (Nat.le_of_ble_eq_true rfl) dX3_takeLine_18 ?_
  refine lv_istore (lv' := [(6, .int r_4), (5, .int (gi uS 2)), (4, .int (r_2 + (1 : Int32))), (0, .ref (bF 0)), (1, .ref (bS 0)), (2, .ref (bT 0)), (3, .int x3)]) hx hb dX3_takeLine_21 hl (by decide) rfl (fun ls hl => ?_)
  refine lv_iload hx hb dX3_takeLine_23 (lv_at hl 0 rfl) ?_
  refine lv_iload hx hb dX3_takeLine_25 (lv_at hl 2 rfl) ?_
  refine lv_icmp_le (tgt := 42) hx hb dX3_takeLine_27 (by decide) (fun c_5 => ?_) (fun c_5 => ?_)
  · replace hf := og_t c_5 hf
    refine lv_iload hx hb dX3_takeLine_42 (lv_at hl 0 rfl) ?_
    refine lv_if_ne (tgt := 61) hx hb dX3_takeLine_44 (by decide) (fun c_6 => ?_) (fun c_6 => ?_)
    · replace hf := og_f c_6 hf
      exact wx_X3_takeLine_L_61 C hK hA hT uS uT x3 (gi uS 2) r_4 hf hP hD hS (lv_sub hl [3, 4, 5, 6, 1, 0] rfl)
    · replace hf := og_t c_6 hf
      refine lv_iload_n hx hb dX3_takeLine_47 rfl (lv_at hl 6 rfl) ?_
      refine lv_iconst (v := (-1 : Int32)) hx hb dX3_takeLine_48 (by decide) ?_
      refine lv_icmp_eq (tgt := 61) hx hb dX3_takeLine_49 (by decide) (fun c_7 => ?_) (fun c_7 => ?_)
      · replace hf := og_t c_7 hf
        exact wx_X3_takeLine_L_61 C hK hA hT uS uT x3 (gi uS 2) r_4 hf hP hD hS (lv_sub hl [3, 4, 5, 6, 1, 0] rfl)
      · replace hf := og_f c_7 hf
        refine lv_aload_n hx hb dX3_takeLine_52 rfl (lv_at hl 4 rfl) ?_
        refine lv_iload hx hb dX3_takeLine_53 (lv_at hl 1 rfl) ?_
        obtain ⟨⟨r_9, u_10⟩, h_8, hf⟩ := og_b hf
        try dsimp only at hf
        refine xw_V (ov := (some (.int r_9))) (st1 := [.int r_9]) (rest := []) (w0 := (cS G bS uS)) (w1 := (cS G bS u_10)) (wr := (cF 0 bF ++ cT G bT uT)) (w' := (cF 0 bF ++ cS G bS u_10 ++ cT G bT uT)) C (cx_X6_failAt l G bS uS (gi uS 2) r_9 u_10 _ h_8) (cwV 1 hts gx_X3_X6_failAt_34 rfl rfl rfl hdx_X6_failAt ⟨Nat.le_of_ble_eq_true rfl, Nat.le_of_ble_eq_true rfl⟩) hK hA hT hP hD hS (va_recv hK hP (ci := 3) (q0 := 1) rfl rfl) [1, 2] [0, 3, 4, 5, 6, 7, 8, 9, 10, 11, 12, 13, 14, 15] [0, 14, 15, 1, 2, 3, 4, 5, 6, 7, 8, 9, 10, 11, 12, 13] rfl rfl rfl rfl (by decide) rfl rfl rfl hl.1 rfl rfl (Nat.le_of_ble_eq_true rfl) dX3_takeLine_55 (fun H locs hP hD hS => ?_)
        refine lv_pop hx hb dX3_takeLine_58 rfl ?_
        refine lv_iconst (v := (-1 : Int32)) hx hb dX3_takeLine_59 (by decide) ?_
        obtain ⟨rfl, rfl, rfl⟩ := pi3 (og_s hf)
        exact rw_i C hK hP hD hS dX3_takeLine_60
  · replace hf := og_f c_5 hf
    refine lv_aload_n hx hb dX3_takeLine_30 rfl (lv_at hl 4 rfl) ?_
    refine lv_iload hx hb dX3_takeLine_31 (lv_at hl 1 rfl) ?_
    refine lv_iload hx hb dX3_takeLine_33 (lv_at hl 2 rfl) ?_
    refine lv_iadd hx hb dX3_takeLine_35 ?_
    obtain ⟨⟨r_12, u_13⟩, h_11, hf⟩ := og_b hf
    try dsimp only at hf
    refine xw_V (ov := (some (.int r_12))) (st1 := [.int r_12]) (rest := []) (w0 := (cS G bS uS)) (w1 := (cS G bS u_13)) (wr := (cF 0 bF ++ cT G bT uT)) (w' := (cF 0 bF ++ cS G bS u_13 ++ cT G bT uT)) C (cx_X6_failAt l G bS uS ((gi uS 2) + (r_2 + (1 : Int32))) r_12 u_13 _ h_11) (cwV 1 hts gx_X3_X6_failAt_34 rfl rfl rfl hdx_X6_failAt ⟨Nat.le_of_ble_eq_true rfl, Nat.le_of_ble_eq_true rfl⟩) hK hA hT hP hD hS (va_recv hK hP (ci := 3) (q0 := 1) rfl rfl) [1, 2] [0, 3, 4, 5, 6, 7, 8, 9, 10, 11, 12, 13, 14, 15] [0, 14, 15, 1, 2, 3, 4, 5, 6, 7, 8, 9, 10, 11, 12, 13] rfl rfl rfl rfl (by decide) rfl rfl rfl hl.1 rfl rfl (Nat.le_of_ble_eq_true rfl) dX3_takeLine_36 (fun H locs hP hD hS => ?_)
    refine lv_pop hx hb dX3_takeLine_39 rfl ?_
    refine lv_iconst (v := (-1 : Int32)) hx hb dX3_takeLine_40 (by decide) ?_
    obtain ⟨rfl, rfl, rfl⟩ := pi3 (og_s hf)
    exact rw_i C hK hP hD hS dX3_takeLine_41
