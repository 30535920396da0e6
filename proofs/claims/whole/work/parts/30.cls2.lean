abbrev rmx_X8_isTextMark : Room := { frames := 0, cells := 0, slots := 0, locals := 0 }
noncomputable abbrev wsx_X8_isTextMark : List Cond := Cond.code yX8_isTextMark cX8_isTextMark 1 (some .boolean) :: WAX
theorem hdx_X8_isTextMark : yX8_isTextMark.cls ≠ "java/lang/invoke/MethodHandle" ∧ yX8_isTextMark.cls ≠ "java/lang/invoke/VarHandle" ∧ (parseMethodDescriptor yX8_isTextMark.desc).map (fun d => d.parameters.length) = some 1 := by decide +kernel
def fx_X8_isTextMark (x0 : Int32) : Option Int32 := (if x0 < (32 : Int32) then (some (0 : Int32)) else (if (126 : Int32) < x0 then (some (0 : Int32)) else (some (1 : Int32))))
set_option maxHeartbeats 4000000 in
set_option maxRecDepth 100000 in
theorem cx_X8_isTextMark (l : Launch) (G : Gx) (x0 : Int32) (r : Int32) (sz : Nat) (hf : fx_X8_isTextMark x0 = some r) : Met l yX8_isTextMark wsx_X8_isTextMark rmx_X8_isTextMark (pX G ([]) sz [.int x0]) (k2_QcV (.int r)) 0 0 (fun _ => False) := by
  refine mx_r (cc := cX8_isTextMark) (maxL := 1) (ret := (some .boolean)) (by decide) rfl (Nat.le_of_ble_eq_true rfl) ?_
  intro p e s m below meth c ls A C hl hK hA hT hP hD hS
  have hl : lv_has ls 1 [(0, .int x0)] := hl
  have hx := C.1.1
  have hb := C.1.2.1
  have hts := C.1.2.2.2.2
  have hown := C.1.2.2.2.1
  unfold fx_X8_isTextMark at hf
  refine lv_iload_n hx hb dX8_isTextMark_0 rfl (lv_at hl 0 rfl) ?_
  refine lv_bipush (v := (32 : Int32)) hx hb dX8_isTextMark_1 (by decide) ?_
  refine lv_icmp_lt (tgt := 16) hx hb dX8_isTextMark_3 (by decide) (fun c_1 => ?_) (fun c_1 => ?_)
  · replace hf := og_t c_1 hf
    refine lv_iconst (v := (0 : Int32)) hx hb dX8_isTextMark_16 (by decide) ?_
    obtain rfl := og_s hf
    exact rt_z C (nz_z (Or.inl rfl)) dX8_isTextMark_17
  · replace hf := og_f c_1 hf
    refine lv_iload_n hx hb dX8_isTextMark_6 rfl (lv_at hl 0 rfl) ?_
    refine lv_bipush (v := (126 : Int32)) hx hb dX8_isTextMark_7 (by decide) ?_
    refine lv_icmp_gt (tgt := 16) hx hb dX8_isTextMark_9 (by decide) (fun c_2 => ?_) (fun c_2 => ?_)
    · replace hf := og_t c_2 hf
      refine lv_iconst (v := (0 : Int32)) hx hb dX8_isTextMark_16 (by decide) ?_
      obtain rfl := og_s hf
      exact rt_z C (nz_z (Or.inl rfl)) dX8_isTextMark_17
    · replace hf := og_f c_2 hf
      refine lv_iconst (v := (1 : Int32)) hx hb dX8_isTextMark_12 (by decide) ?_
      refine lv_goto (tgt := 17) hx hb dX8_isTextMark_13 (by decide) ?_
      obtain rfl := og_s hf
      exact rt_z C (nz_z (Or.inr rfl)) dX8_isTextMark_17
theorem gx_X6_X8_isTextMark_29 {c0 : Cond} : GoodIn (c0 :: WAX) wsx_X8_isTextMark := gdx_n mx_248
abbrev rmx_X6_append : Room := { frames := 1, cells := 0, slots := 0, locals := 20 }
noncomputable abbrev wsx_X6_append : List Cond := Cond.code yX6_append cX6_append 2 (some .boolean) :: WAX
theorem hdx_X6_append : yX6_append.cls = RX6 ∧ yX6_append.cls ≠ "java/lang/invoke/MethodHandle" ∧ yX6_append.cls ≠ "java/lang/invoke/VarHandle" ∧ (parseMethodDescriptor yX6_append.desc).map (fun d => d.parameters.length) = some 1 := by decide +kernel
def fx_X6_append_25 (uS : Md) (x1 : Int32) : Option (Int32 × Md) := (if (gi uS 1) < 0 ∨ 4000 ≤ ((gi uS 1)).toNatClampNeg then none else (some ((1 : Int32), (si (sa uS 0 (upd (ga uS 0) ((gi uS 1)).toNatClampNeg (vp_nar .char ((x1).toUInt32 % 65536).toInt32))) 1 ((gi uS 1) + (1 : Int32))))))
set_option maxHeartbeats 4000000 in
set_option maxRecDepth 100000 in
theorem wx_X6_append_25 {p : Program} {l : Launch} {e : Env} {s : State} {m : MethodId} {args : Array Value} {below : List Frame} {meth : Method} {c : Code} {G : Gx} {A : Nat → Prop} {bS : Nat → Nat} (C : Cx p s m args meth c cX6_append 2 wsx_X6_append RX6 (some .boolean)) (hK : va_K (gD G) vwCl (tyG G) s) (hA : ∀ q : Nat, s.heap.size ≤ q → A q) (hT : ST G A s s.heap) {r : (Int32 × Md)} : ∀ (uS : Md) (x1 : Int32), fx_X6_append_25 uS x1 = some r → ∀ {H : Heap} {locs : List Loc}, va_P (gD G) vwCl (cS G bS uS) H → va_D A (cS G bS uS) → va_S A s.heap H locs → ∀ {ls : Array Slot}, lv_has ls 2 [(0, .ref (bS 0)), (1, .int x1)] → W p l e rmx_X6_append s m args below meth c H locs 0 0 (MQ below (qW (some (.int r.1)) (cS G bS r.2) (gD G) (tyG G) A) args s 0 0 A) (F0 m 25 ls []) := by
  have hx := C.1.1
  have hb := C.1.2.1
  have hts := C.1.2.2.2.2
  have hown := C.1.2.2.2.1
  have hin6 : ∀ w ∈ wsX60, w ∈ wsx_X6_append := fun w h => List.mem_cons_of_mem _ (List.mem_append_right _ (List.mem_append_right _ (List.mem_append_left _ h)))
  intro uS x1 hf H locs hP hD hS ls hl
  unfold fx_X6_append_25 at hf
  refine lv_aload_n hx hb dX6_append_25 rfl (lv_at hl 0 rfl) ?_
  refine xg (v := .ref (bS 1)) (ci := 3) (K := RX6) (T := TX6) (N := 5) C hin6 hK hP 0 rfl rfl 0 (by decide) rfl (hts (Cond.fieldLink RX6 9 "SchematicText$Source" "marks" "[C") (List.mem_cons_of_mem _ mx_30)) rfl dX6_append_26 ?_
  refine lv_aload_n hx hb dX6_append_29 rfl (lv_at hl 0 rfl) ?_
  refine xg (v := .int (gi uS 1)) (ci := 3) (K := RX6) (T := TX6) (N := 5) C hin6 hK hP 0 rfl rfl 1 (by decide) rfl (hts (Cond.fieldLink RX6 15 "SchematicText$Source" "count" "I") (List.mem_cons_of_mem _ mx_25)) rfl dX6_append_30 ?_
  refine lv_iload_n hx hb dX6_append_33 rfl (lv_at hl 1 rfl) ?_
  refine lv_i2c (v := ((x1).toUInt32 % 65536).toInt32) hx hb dX6_append_34 rfl ?_
  obtain ⟨h_6, hf⟩ := og_n hf
  refine xsc (f := (ga uS 0)) (w' := (cS G bS (sa uS 0 (upd (ga uS 0) ((gi uS 1)).toNatClampNeg (vp_nar .char ((x1).toUInt32 % 65536).toInt32))))) C hK hP hD hS 1 rfl h_6 dX6_append_35 hw_S_S_a0 (fun H locs hP hD hS => ?_)
  refine lv_aload_n hx hb dX6_append_36 rfl (lv_at hl 0 rfl) ?_
  refine lv_dup hx hb dX6_append_37 rfl ?_
  refine xg (v := .int (gi uS 1)) (ci := 3) (K := RX6) (T := TX6) (N := 5) C hin6 hK hP 0 rfl rfl 1 (by decide) rfl (hts (Cond.fieldLink RX6 15 "SchematicText$Source" "count" "I") (List.mem_cons_of_mem _ mx_25)) rfl dX6_append_38 ?_
  refine lv_iconst (v := (1 : Int32)) hx hb dX6_append_41 (by decide) ?_
  refine lv_iadd hx hb dX6_append_42 ?_
  refine xp (v := .int ((gi uS 1) + (1 : Int32))) (w' := (cS G bS (si (sa uS 0 (upd (ga uS 0) ((gi uS 1)).toNatClampNeg (vp_nar .char ((x1).toUInt32 % 65536).toInt32))) 1 ((gi uS 1) + (1 : Int32))))) (ci := 3) (K := RX6) (T := TX6) (N := 5) (ty := .int) C hin6 tyX6 tyX6_ok nmX6 hK hP hD hS 0 rfl rfl 1 (by decide) rfl (hts (Cond.fieldLink RX6 15 "SchematicText$Source" "count" "I") (List.mem_cons_of_mem _ mx_25)) rfl rfl rfl rfl (Nat.le_of_ble_eq_true rfl) dX6_append_43 hw_S_S_i1 (fun H locs hP hD hS => ?_)
  refine lv_iconst (v := (1 : Int32)) hx hb dX6_append_46 (by decide) ?_
  obtain rfl := og_s hf
  exact rw_z C hK hP hD hS (nz_z (Or.inr rfl)) dX6_append_47
def fx_X6_append (uS : Md) (x1 : Int32) : Option (Int32 × Md) := (if (4000 : Int32) ≤ (gi uS 1) then (some ((0 : Int32), uS)) else ((fx_X8_isTextMark x1).bind fun r_3 => (if r_3 = 0 then (if x1 = (10 : Int32) then (fx_X6_append_25 uS x1) else (some ((0 : Int32), uS))) else (fx_X6_append_25 uS x1))))
set_option maxHeartbeats 4000000 in
set_option maxRecDepth 100000 in
theorem cx_X6_append (l : Launch) (G : Gx) (bS : Nat → Nat) (uS : Md) (x1 : Int32) (r : Int32) (vS : Md) (sz : Nat) (hf : fx_X6_append uS x1 = some (r, vS)) : Met l yX6_append wsx_X6_append rmx_X6_append (pX G (cS G bS uS) sz [.ref (bS 0), .int x1]) (qW (some (.int r)) (cS G bS vS) (gD G) (tyG G) (va_A (cS G bS uS) sz)) 0 0 (va_A (cS G bS uS) sz) := by
  refine mx_w (cc := cX6_append) (maxL := 2) (ret := (some .boolean)) (by decide) rfl (Nat.le_of_ble_eq_true rfl) ?_
  intro p e s m below meth c ls A C hl hK hA hT hP hD hS
  have hl : lv_has ls 2 [(0, .ref (bS 0)), (1, .int x1)] := hl
  have hx := C.1.1
  have hb := C.1.2.1
  have hts := C.1.2.2.2.2
  have hown := C.1.2.2.2.1
  have hin6 : ∀ w ∈ wsX60, w ∈ wsx_X6_append := fun w h => List.mem_cons_of_mem _ (List.mem_append_right _ (List.mem_append_right _ (List.mem_append_left _ h)))
  unfold fx_X6_append at hf
  refine lv_aload_n hx hb dX6_append_0 rfl (lv_at hl 0 rfl) ?_
  refine xg (v := .int (gi uS 1)) (ci := 3) (K := RX6) (T := TX6) (N := 5) C hin6 hK hP 0 rfl rfl 1 (by decide) rfl (hts (Cond.fieldLink RX6 15 "SchematicText$Source" "count" "I") (List.mem_cons_of_mem _ mx_25)) rfl dX6_append_1 ?_
  refine lv_sipush (v := (4000 : Int32)) hx hb dX6_append_4 (by decide) ?_
  refine lv_icmp_ge (tgt := 23) hx hb dX6_append_7 (by decide) (fun c_1 => ?_) (fun c_1 => ?_)
  · replace hf := og_t c_1 hf
    refine lv_iconst (v := (0 : Int32)) hx hb dX6_append_23 (by decide) ?_
    obtain ⟨rfl, rfl⟩ := pi2 (og_s hf)
    exact rw_z C hK hP hD hS (nz_z (Or.inl rfl)) dX6_append_24
  · replace hf := og_f c_1 hf
    refine lv_iload_n hx hb dX6_append_10 rfl (lv_at hl 1 rfl) ?_
    obtain ⟨r_3, h_2, hf⟩ := og_b hf
    try dsimp only at hf
    refine xr_SN (v := .int r_3) (rest := []) C (cx_X8_isTextMark l G x1 r_3 _ h_2) ⟨va_cnB 1 hts gx_X6_X8_isTextMark_29 rfl rfl rfl (hT.2.2.1 ("SchematicText$Source", 29, ⟨"SchematicText", "isTextMark", "(I)Z"⟩, "SchematicText") (by decide +kernel)) (hts (Cond.initialized RX8) (List.mem_cons_of_mem _ mx_32)) hdx_X8_isTextMark ⟨Nat.le_of_ble_eq_true rfl, Nat.le_of_ble_eq_true rfl⟩, hts (Cond.static yX8_isTextMark) (List.mem_cons_of_mem _ mx_247), trivial⟩ hK hA hT hP hD hS rfl hl.1 rfl (Nat.le_of_ble_eq_true rfl) dX6_append_11 ?_
    refine lv_if_ne (tgt := 25) hx hb dX6_append_14 (by decide) (fun c_4 => ?_) (fun c_4 => ?_)
    · replace hf := og_f c_4 hf
      exact wx_X6_append_25 C hK hA hT uS x1 hf hP hD hS (lv_sub hl [0, 1] rfl)
    · replace hf := og_t c_4 hf
      refine lv_iload_n hx hb dX6_append_17 rfl (lv_at hl 1 rfl) ?_
      refine lv_bipush (v := (10 : Int32)) hx hb dX6_append_18 (by decide) ?_
      refine lv_icmp_eq (tgt := 25) hx hb dX6_append_20 (by decide) (fun c_5 => ?_) (fun c_5 => ?_)
      · replace hf := og_t c_5 hf
        exact wx_X6_append_25 C hK hA hT uS x1 hf hP hD hS (lv_sub hl [0, 1] rfl)
      · replace hf := og_f c_5 hf
        refine lv_iconst (v := (0 : Int32)) hx hb dX6_append_23 (by decide) ?_
        obtain ⟨rfl, rfl⟩ := pi2 (og_s hf)
        exact rw_z C hK hP hD hS (nz_z (Or.inl rfl)) dX6_append_24
abbrev rmx_X6_empty : Room := { frames := 0, cells := 0, slots := 0, locals := 0 }
noncomputable abbrev wsx_X6_empty : List Cond := Cond.code yX6_empty cX6_empty 1 none :: WAX
theorem hdx_X6_empty : yX6_empty.cls = RX6 ∧ yX6_empty.cls ≠ "java/lang/invoke/MethodHandle" ∧ yX6_empty.cls ≠ "java/lang/invoke/VarHandle" ∧ (parseMethodDescriptor yX6_empty.desc).map (fun d => d.parameters.length) = some 0 := by decide +kernel
def fx_X6_empty (uS : Md) : Option Md := (some (si uS 1 (0 : Int32)))
set_option maxHeartbeats 4000000 in
set_option maxRecDepth 100000 in
theorem cx_X6_empty (l : Launch) (G : Gx) (bS : Nat → Nat) (uS : Md)  (vS : Md) (sz : Nat) (hf : fx_X6_empty uS = some vS) : Met l yX6_empty wsx_X6_empty rmx_X6_empty (pX G (cS G bS uS) sz [.ref (bS 0)]) (qW none (cS G bS vS) (gD G) (tyG G) (va_A (cS G bS uS) sz)) 0 0 (va_A (cS G bS uS) sz) := by
  refine mx_w (cc := cX6_empty) (maxL := 1) (ret := none) (by decide) rfl (Nat.le_of_ble_eq_true rfl) ?_
  intro p e s m below meth c ls A C hl hK hA hT hP hD hS
  have hl : lv_has ls 1 [(0, .ref (bS 0))] := hl
  have hx := C.1.1
  have hb := C.1.2.1
  have hts := C.1.2.2.2.2
  have hown := C.1.2.2.2.1
  have hin6 : ∀ w ∈ wsX60, w ∈ wsx_X6_empty := fun w h => List.mem_cons_of_mem _ (List.mem_append_right _ (List.mem_append_right _ (List.mem_append_left _ h)))
  unfold fx_X6_empty at hf
  refine lv_aload_n hx hb dX6_empty_0 rfl (lv_at hl 0 rfl) ?_
  refine lv_iconst (v := (0 : Int32)) hx hb dX6_empty_1 (by decide) ?_
  refine xp (v := .int (0 : Int32)) (w' := (cS G bS (si uS 1 (0 : Int32)))) (ci := 3) (K := RX6) (T := TX6) (N := 5) (ty := .int) C hin6 tyX6 tyX6_ok nmX6 hK hP hD hS 0 rfl rfl 1 (by decide) rfl (hts (Cond.fieldLink RX6 15 "SchematicText$Source" "count" "I") (List.mem_cons_of_mem _ mx_25)) rfl rfl rfl rfl (Nat.le_of_ble_eq_true rfl) dX6_empty_2 hw_S_S_i1 (fun H locs hP hD hS => ?_)
  obtain rfl := og_s hf
  exact rw_v C hK hP hD hS dX6_empty_5
abbrev rmx_X6_rewind : Room := { frames := 0, cells := 0, slots := 0, locals := 0 }
noncomputable abbrev wsx_X6_rewind : List Cond := Cond.code yX6_rewind cX6_rewind 1 none :: WAX
theorem hdx_X6_rewind : yX6_rewind.cls = RX6 ∧ yX6_rewind.cls ≠ "java/lang/invoke/MethodHandle" ∧ yX6_rewind.cls ≠ "java/lang/invoke/VarHandle" ∧ (parseMethodDescriptor yX6_rewind.desc).map (fun d => d.parameters.length) = some 0 := by decide +kernel
def fx_X6_rewind (uS : Md) : Option Md := (some (sl (si (si uS 2 (0 : Int32)) 3 (-1 : Int32)) (0 : Int64)))
set_option maxHeartbeats 4000000 in
set_option maxRecDepth 100000 in
theorem cx_X6_rewind (l : Launch) (G : Gx) (bS : Nat → Nat) (uS : Md)  (vS : Md) (sz : Nat) (hf : fx_X6_rewind uS = some vS) : Met l yX6_rewind wsx_X6_rewind rmx_X6_rewind (pX G (cS G bS uS) sz [.ref (bS 0)]) (qW none (cS G bS vS) (gD G) (tyG G) (va_A (cS G bS uS) sz)) 0 0 (va_A (cS G bS uS) sz) := by
  refine mx_w (cc := cX6_rewind) (maxL := 1) (ret := none) (by decide) rfl (Nat.le_of_ble_eq_true rfl) ?_
  intro p e s m below meth c ls A C hl hK hA hT hP hD hS
  have hl : lv_has ls 1 [(0, .ref (bS 0))] := hl
  have hx := C.1.1
  have hb := C.1.2.1
  have hts := C.1.2.2.2.2
  have hown := C.1.2.2.2.1
  have hin6 : ∀ w ∈ wsX60, w ∈ wsx_X6_rewind := fun w h => List.mem_cons_of_mem _ (List.mem_append_right _ (List.mem_append_right _ (List.mem_append_left _ h)))
  unfold fx_X6_rewind at hf
  refine lv_aload_n hx hb dX6_rewind_0 rfl (lv_at hl 0 rfl) ?_
  refine lv_iconst (v := (0 : Int32)) hx hb dX6_rewind_1 (by decide) ?_
  refine xp (v := .int (0 : Int32)) (w' := (cS G bS (si uS 2 (0 : Int32)))) (ci := 3) (K := RX6) (T := TX6) (N := 5) (ty := .int) C hin6 tyX6 tyX6_ok nmX6 hK hP hD hS 0 rfl rfl 2 (by decide) rfl (hts (Cond.fieldLink RX6 19 "SchematicText$Source" "at" "I") (List.mem_cons_of_mem _ mx_24)) rfl rfl rfl rfl (Nat.le_of_ble_eq_true rfl) dX6_rewind_2 hw_S_S_i2 (fun H locs hP hD hS => ?_)
  refine lv_aload_n hx hb dX6_rewind_5 rfl (lv_at hl 0 rfl) ?_
  refine lv_iconst (v := (-1 : Int32)) hx hb dX6_rewind_6 (by decide) ?_
  refine xp (v := .int (-1 : Int32)) (w' := (cS G bS (si (si uS 2 (0 : Int32)) 3 (-1 : Int32)))) (ci := 3) (K := RX6) (T := TX6) (N := 5) (ty := .int) C hin6 tyX6 tyX6_ok nmX6 hK hP hD hS 0 rfl rfl 3 (by decide) rfl (hts (Cond.fieldLink RX6 22 "SchematicText$Source" "fault" "I") (List.mem_cons_of_mem _ mx_191)) rfl rfl rfl rfl (Nat.le_of_ble_eq_true rfl) dX6_rewind_7 hw_S_S_i3 (fun H locs hP hD hS => ?_)
  refine lv_aload_n hx hb dX6_rewind_10 rfl (lv_at hl 0 rfl) ?_
  refine lv_lconst (v := (0 : Int64)) hx hb dX6_rewind_11 (by decide) ?_
  refine xp (v := .long (0 : Int64)) (w' := (cS G bS (sl (si (si uS 2 (0 : Int32)) 3 (-1 : Int32)) (0 : Int64)))) (ci := 3) (K := RX6) (T := TX6) (N := 5) (ty := .long) C hin6 tyX6 tyX6_ok nmX6 hK hP hD hS 0 rfl rfl 4 (by decide) rfl (hts (Cond.fieldLink RX6 25 "SchematicText$Source" "value" "J") (List.mem_cons_of_mem _ mx_220)) rfl rfl rfl rfl (Nat.le_of_ble_eq_true rfl) dX6_rewind_12 hw_S_S_l4 (fun H locs hP hD hS => ?_)
  obtain rfl := og_s hf
  exact rw_v C hK hP hD hS dX6_rewind_15
abbrev rmx_X6_failAt : Room := { frames := 0, cells := 0, slots := 0, locals := 0 }
noncomputable abbrev wsx_X6_failAt : List Cond := Cond.code yX6_failAt cX6_failAt 2 (some .boolean) :: WAX
theorem hdx_X6_failAt : yX6_failAt.cls = RX6 ∧ yX6_failAt.cls ≠ "java/lang/invoke/MethodHandle" ∧ yX6_failAt.cls ≠ "java/lang/invoke/VarHandle" ∧ (parseMethodDescriptor yX6_failAt.desc).map (fun d => d.parameters.length) = some 1 := by decide +kernel
def fx_X6_failAt (uS : Md) (x1 : Int32) : Option (Int32 × Md) := (some ((0 : Int32), (si uS 3 x1)))
set_option maxHeartbeats 4000000 in
set_option maxRecDepth 100000 in
theorem cx_X6_failAt (l : Launch) (G : Gx) (bS : Nat → Nat) (uS : Md) (x1 : Int32) (r : Int32) (vS : Md) (sz : Nat) (hf : fx_X6_failAt uS x1 = some (r, vS)) : Met l yX6_failAt wsx_X6_failAt rmx_X6_failAt (pX G (cS G bS uS) sz [.ref (bS 0), .int x1]) (qW (some (.int r)) (cS G bS vS) (gD G) (tyG G) (va_A (cS G bS uS) sz)) 0 0 (va_A (cS G bS uS) sz) := by
  refine mx_w (cc := cX6_failAt) (maxL := 2) (ret := (some .boolean)) (by decide) rfl (Nat.le_of_ble_eq_true rfl) ?_
  intro p e s m below meth c ls A C hl hK hA hT hP hD hS
  have hl : lv_has ls 2 [(0, .ref (bS 0)), (1, .int x1)] := hl
  have hx := C.1.1
  have hb := C.1.2.1
  have hts := C.1.2.2.2.2
  have hown := C.1.2.2.2.1
  have hin6 : ∀ w ∈ wsX60, w ∈ wsx_X6_failAt := fun w h => List.mem_cons_of_mem _ (List.mem_append_right _ (List.mem_append_right _ (List.mem_append_left _ h)))
  unfold fx_X6_failAt at hf
  refine lv_aload_n hx hb dX6_failAt_0 rfl (lv_at hl 0 rfl) ?_
  refine lv_iload_n hx hb dX6_failAt_1 rfl (lv_at hl 1 rfl) ?_
  refine xp (v := .int x1) (w' := (cS G bS (si uS 3 x1))) (ci := 3) (K := RX6) (T := TX6) (N := 5) (ty := .int) C hin6 tyX6 tyX6_ok nmX6 hK hP hD hS 0 rfl rfl 3 (by decide) rfl (hts (Cond.fieldLink RX6 22 "SchematicText$Source" "fault" "I") (List.mem_cons_of_mem _ mx_191)) rfl rfl rfl rfl (Nat.le_of_ble_eq_true rfl) dX6_failAt_2 hw_S_S_i3 (fun H locs hP hD hS => ?_)
  refine lv_iconst (v := (0 : Int32)) hx hb dX6_failAt_5 (by decide) ?_
  obtain ⟨rfl, rfl⟩ := pi2 (og_s hf)
  exact rw_z C hK hP hD hS (nz_z (Or.inl rfl)) dX6_failAt_6
abbrev rmx_X6_markAt : Room := { frames := 0, cells := 0, slots := 0, locals := 0 }
noncomputable abbrev wsx_X6_markAt : List Cond := Cond.code yX6_markAt cX6_markAt 2 (some .int) :: WAX
theorem hdx_X6_markAt : yX6_markAt.cls = RX6 ∧ yX6_markAt.cls ≠ "java/lang/invoke/MethodHandle" ∧ yX6_markAt.cls ≠ "java/lang/invoke/VarHandle" ∧ (parseMethodDescriptor yX6_markAt.desc).map (fun d => d.parameters.length) = some 1 := by decide +kernel
def fx_X6_markAt (uS : Md) (x1 : Int32) : Option Int32 := (if x1 < 0 then (some (-1 : Int32)) else (if (gi uS 1) ≤ x1 then (some (-1 : Int32)) else (if x1 < 0 ∨ 4000 ≤ (x1).toNatClampNeg then none else (some ((ga uS 0) (x1).toNatClampNeg)))))
set_option maxHeartbeats 4000000 in
set_option maxRecDepth 100000 in
theorem cx_X6_markAt (l : Launch) (G : Gx) (bS : Nat → Nat) (uS : Md) (x1 : Int32) (r : Int32) (sz : Nat) (hf : fx_X6_markAt uS x1 = some r) : Met l yX6_markAt wsx_X6_markAt rmx_X6_markAt (pX G (cS G bS uS) sz [.ref (bS 0), .int x1]) (k2_QcV (.int r)) 0 0 (fun _ => False) := by
  refine mx_r (cc := cX6_markAt) (maxL := 2) (ret := (some .int)) (by decide) rfl (Nat.le_of_ble_eq_true rfl) ?_
  intro p e s m below meth c ls A C hl hK hA hT hP hD hS
  have hl : lv_has ls 2 [(0, .ref (bS 0)), (1, .int x1)] := hl
  have hx := C.1.1
  have hb := C.1.2.1
  have hts := C.1.2.2.2.2
  have hown := C.1.2.2.2.1
  have hin6 : ∀ w ∈ wsX60, w ∈ wsx_X6_markAt := fun w h => List.mem_cons_of_mem _ (List.mem_append_right _ (List.mem_append_right _ (List.mem_append_left _ h)))
  unfold fx_X6_markAt at hf
  refine lv_iload_n hx hb dX6_markAt_0 rfl (lv_at hl 1 rfl) ?_
  refine lv_if_lt (tgt := 21) hx hb dX6_markAt_1 (by decide) (fun c_1 => ?_) (fun c_1 => ?_)
  · replace hf := og_t c_1 hf
    refine lv_iconst (v := (-1 : Int32)) hx hb dX6_markAt_21 (by decide) ?_
    obtain rfl := og_s hf
    exact rt_i C dX6_markAt_22
  · replace hf := og_f c_1 hf
    refine lv_iload_n hx hb dX6_markAt_4 rfl (lv_at hl 1 rfl) ?_
    refine lv_aload_n hx hb dX6_markAt_5 rfl (lv_at hl 0 rfl) ?_
    refine xg (v := .int (gi uS 1)) (ci := 3) (K := RX6) (T := TX6) (N := 5) C hin6 hK hP 0 rfl rfl 1 (by decide) rfl (hts (Cond.fieldLink RX6 15 "SchematicText$Source" "count" "I") (List.mem_cons_of_mem _ mx_25)) rfl dX6_markAt_6 ?_
    refine lv_icmp_ge (tgt := 21) hx hb dX6_markAt_9 (by decide) (fun c_2 => ?_) (fun c_2 => ?_)
    · replace hf := og_t c_2 hf
      refine lv_iconst (v := (-1 : Int32)) hx hb dX6_markAt_21 (by decide) ?_
      obtain rfl := og_s hf
      exact rt_i C dX6_markAt_22
    · replace hf := og_f c_2 hf
      refine lv_aload_n hx hb dX6_markAt_12 rfl (lv_at hl 0 rfl) ?_
      refine xg (v := .ref (bS 1)) (ci := 3) (K := RX6) (T := TX6) (N := 5) C hin6 hK hP 0 rfl rfl 0 (by decide) rfl (hts (Cond.fieldLink RX6 9 "SchematicText$Source" "marks" "[C") (List.mem_cons_of_mem _ mx_30)) rfl dX6_markAt_13 ?_
      refine lv_iload_n hx hb dX6_markAt_16 rfl (lv_at hl 1 rfl) ?_
      obtain ⟨h_3, hf⟩ := og_n hf
      refine va_cald (f := (ga uS 0)) hx hb hK hP 1 2 rfl rfl h_3 dX6_markAt_17 ?_
      refine lv_goto (tgt := 22) hx hb dX6_markAt_18 (by decide) ?_
      obtain rfl := og_s hf
      exact rt_i C dX6_markAt_22
abbrev rmx_X6_mark : Room := { frames := 0, cells := 0, slots := 0, locals := 0 }
noncomputable abbrev wsx_X6_mark : List Cond := Cond.code yX6_mark cX6_mark 1 (some .int) :: WAX
theorem hdx_X6_mark : yX6_mark.cls = RX6 ∧ yX6_mark.cls ≠ "java/lang/invoke/MethodHandle" ∧ yX6_mark.cls ≠ "java/lang/invoke/VarHandle" ∧ (parseMethodDescriptor yX6_mark.desc).map (fun d => d.parameters.length) = some 0 := by decide +kernel
def fx_X6_mark (uS : Md) : Option Int32 := (if (gi uS 2) < 0 then (some (-1 : Int32)) else (if (gi uS 1) ≤ (gi uS 2) then (some (-1 : Int32)) else (if (gi uS 2) < 0 ∨ 4000 ≤ ((gi uS 2)).toNatClampNeg then none else (some ((ga uS 0) ((gi uS 2)).toNatClampNeg)))))
set_option maxHeartbeats 4000000 in
set_option maxRecDepth 100000 in
theorem cx_X6_mark (l : Launch) (G : Gx) (bS : Nat → Nat) (uS : Md) (r : Int32) (sz : Nat) (hf : fx_X6_mark uS = some r) : Met l yX6_mark wsx_X6_mark rmx_X6_mark (pX G (cS G bS uS) sz [.ref (bS 0)]) (k2_QcV (.int r)) 0 0 (fun _ => False) := by
  refine mx_r (cc := cX6_mark) (maxL := 1) (ret := (some .int)) (by decide) rfl (Nat.le_of_ble_eq_true rfl) ?_
  intro p e s m below meth c ls A C hl hK hA hT hP hD hS
  have hl : lv_has ls 1 [(0, .ref (bS 0))] := hl
  have hx := C.1.1
  have hb := C.1.2.1
  have hts := C.1.2.2.2.2
  have hown := C.1.2.2.2.1
  have hin6 : ∀ w ∈ wsX60, w ∈ wsx_X6_mark := fun w h => List.mem_cons_of_mem _ (List.mem_append_right _ (List.mem_append_right _ (List.mem_append_left _ h)))
  unfold fx_X6_mark at hf
  refine lv_aload_n hx hb dX6_mark_0 rfl (lv_at hl 0 rfl) ?_
  refine xg (v := .int (gi uS 2)) (ci := 3) (K := RX6) (T := TX6) (N := 5) C hin6 hK hP 0 rfl rfl 2 (by decide) rfl (hts (Cond.fieldLink RX6 19 "SchematicText$Source" "at" "I") (List.mem_cons_of_mem _ mx_24)) rfl dX6_mark_1 ?_
  refine lv_if_lt (tgt := 30) hx hb dX6_mark_4 (by decide) (fun c_1 => ?_) (fun c_1 => ?_)
  · replace hf := og_t c_1 hf
    refine lv_iconst (v := (-1 : Int32)) hx hb dX6_mark_30 (by decide) ?_
    obtain rfl := og_s hf
    exact rt_i C dX6_mark_31
  · replace hf := og_f c_1 hf
    refine lv_aload_n hx hb dX6_mark_7 rfl (lv_at hl 0 rfl) ?_
    refine xg (v := .int (gi uS 2)) (ci := 3) (K := RX6) (T := TX6) (N := 5) C hin6 hK hP 0 rfl rfl 2 (by decide) rfl (hts (Cond.fieldLink RX6 19 "SchematicText$Source" "at" "I") (List.mem_cons_of_mem _ mx_24)) rfl dX6_mark_8 ?_
    refine lv_aload_n hx hb dX6_mark_11 rfl (lv_at hl 0 rfl) ?_
    refine xg (v := .int (gi uS 1)) (ci := 3) (K := RX6) (T := TX6) (N := 5) C hin6 hK hP 0 rfl rfl 1 (by decide) rfl (hts (Cond.fieldLink RX6 15 "SchematicText$Source" "count" "I") (List.mem_cons_of_mem _ mx_25)) rfl dX6_mark_12 ?_
    refine lv_icmp_ge (tgt := 30) hx hb dX6_mark_15 (by decide) (fun c_2 => ?_) (fun c_2 => ?_)
    · replace hf := og_t c_2 hf
      refine lv_iconst (v := (-1 : Int32)) hx hb dX6_mark_30 (by decide) ?_
      obtain rfl := og_s hf
      exact rt_i C dX6_mark_31
    · replace hf := og_f c_2 hf
      refine lv_aload_n hx hb dX6_mark_18 rfl (lv_at hl 0 rfl) ?_
      refine xg (v := .ref (bS 1)) (ci := 3) (K := RX6) (T := TX6) (N := 5) C hin6 hK hP 0 rfl rfl 0 (by decide) rfl (hts (Cond.fieldLink RX6 9 "SchematicText$Source" "marks" "[C") (List.mem_cons_of_mem _ mx_30)) rfl dX6_mark_19 ?_
      refine lv_aload_n hx hb dX6_mark_22 rfl (lv_at hl 0 rfl) ?_
      refine xg (v := .int (gi uS 2)) (ci := 3) (K := RX6) (T := TX6) (N := 5) C hin6 hK hP 0 rfl rfl 2 (by decide) rfl (hts (Cond.fieldLink RX6 19 "SchematicText$Source" "at" "I") (List.mem_cons_of_mem _ mx_24)) rfl dX6_mark_23 ?_
      obtain ⟨h_3, hf⟩ := og_n hf
      refine va_cald (f := (ga uS 0)) hx hb hK hP 1 2 rfl rfl h_3 dX6_mark_26 ?_
      refine lv_goto (tgt := 31) hx hb dX6_mark_27 (by decide) ?_
      obtain rfl := og_s hf
      exact rt_i C dX6_mark_31
abbrev rmx_X6_ended : Room := { frames := 0, cells := 0, slots := 0, locals := 0 }
noncomputable abbrev wsx_X6_ended : List Cond := Cond.code yX6_ended cX6_ended 1 (some .boolean) :: WAX
theorem hdx_X6_ended : yX6_ended.cls = RX6 ∧ yX6_ended.cls ≠ "java/lang/invoke/MethodHandle" ∧ yX6_ended.cls ≠ "java/lang/invoke/VarHandle" ∧ (parseMethodDescriptor yX6_ended.desc).map (fun d => d.parameters.length) = some 0 := by decide +kernel
def fx_X6_ended (uS : Md) : Option Int32 := (if (gi uS 2) < (gi uS 1) then (some (0 : Int32)) else (some (1 : Int32)))
set_option maxHeartbeats 4000000 in
set_option maxRecDepth 100000 in
theorem cx_X6_ended (l : Launch) (G : Gx) (bS : Nat → Nat) (uS : Md) (r : Int32) (sz : Nat) (hf : fx_X6_ended uS = some r) : Met l yX6_ended wsx_X6_ended rmx_X6_ended (pX G (cS G bS uS) sz [.ref (bS 0)]) (k2_QcV (.int r)) 0 0 (fun _ => False) := by
  refine mx_r (cc := cX6_ended) (maxL := 1) (ret := (some .boolean)) (by decide) rfl (Nat.le_of_ble_eq_true rfl) ?_
  intro p e s m below meth c ls A C hl hK hA hT hP hD hS
  have hl : lv_has ls 1 [(0, .ref (bS 0))] := hl
  have hx := C.1.1
  have hb := C.1.2.1
  have hts := C.1.2.2.2.2
  have hown := C.1.2.2.2.1
  have hin6 : ∀ w ∈ wsX60, w ∈ wsx_X6_ended := fun w h => List.mem_cons_of_mem _ (List.mem_append_right _ (List.mem_append_right _ (List.mem_append_left _ h)))
  unfold fx_X6_ended at hf
  refine lv_aload_n hx hb dX6_ended_0 rfl (lv_at hl 0 rfl) ?_
  refine xg (v := .int (gi uS 2)) (ci := 3) (K := RX6) (T := TX6) (N := 5) C hin6 hK hP 0 rfl rfl 2 (by decide) rfl (hts (Cond.fieldLink RX6 19 "SchematicText$Source" "at" "I") (List.mem_cons_of_mem _ mx_24)) rfl dX6_ended_1 ?_
  refine lv_aload_n hx hb dX6_ended_4 rfl (lv_at hl 0 rfl) ?_
  refine xg (v := .int (gi uS 1)) (ci := 3) (K := RX6) (T := TX6) (N := 5) C hin6 hK hP 0 rfl rfl 1 (by decide) rfl (hts (Cond.fieldLink RX6 15 "SchematicText$Source" "count" "I") (List.mem_cons_of_mem _ mx_25)) rfl dX6_ended_5 ?_
  refine lv_icmp_lt (tgt := 15) hx hb dX6_ended_8 (by decide) (fun c_1 => ?_) (fun c_1 => ?_)
  · replace hf := og_t c_1 hf
    refine lv_iconst (v := (0 : Int32)) hx hb dX6_ended_15 (by decide) ?_
    obtain rfl := og_s hf
    exact rt_z C (nz_z (Or.inl rfl)) dX6_ended_16
  · replace hf := og_f c_1 hf
    refine lv_iconst (v := (1 : Int32)) hx hb dX6_ended_11 (by decide) ?_
    refine lv_goto (tgt := 16) hx hb dX6_ended_12 (by decide) ?_
    obtain rfl := og_s hf
    exact rt_z C (nz_z (Or.inr rfl)) dX6_ended_16
abbrev rmx_X6_pass : Room := { frames := 0, cells := 0, slots := 0, locals := 0 }
noncomputable abbrev wsx_X6_pass : List Cond := Cond.code yX6_pass cX6_pass 1 none :: WAX
theorem hdx_X6_pass : yX6_pass.cls = RX6 ∧ yX6_pass.cls ≠ "java/lang/invoke/MethodHandle" ∧ yX6_pass.cls ≠ "java/lang/invoke/VarHandle" ∧ (parseMethodDescriptor yX6_pass.desc).map (fun d => d.parameters.length) = some 0 := by decide +kernel
def fx_X6_pass (uS : Md) : Option Md := (some (si uS 2 ((gi uS 2) + (1 : Int32))))
set_option maxHeartbeats 4000000 in
set_option maxRecDepth 100000 in
theorem cx_X6_pass (l : Launch) (G : Gx) (bS : Nat → Nat) (uS : Md)  (vS : Md) (sz : Nat) (hf : fx_X6_pass uS = some vS) : Met l yX6_pass wsx_X6_pass rmx_X6_pass (pX G (cS G bS uS) sz [.ref (bS 0)]) (qW none (cS G bS vS) (gD G) (tyG G) (va_A (cS G bS uS) sz)) 0 0 (va_A (cS G bS uS) sz) := by
  refine mx_w (cc := cX6_pass) (maxL := 1) (ret := none) (by decide) rfl (Nat.le_of_ble_eq_true rfl) ?_
  intro p e s m below meth c ls A C hl hK hA hT hP hD hS
  have hl : lv_has ls 1 [(0, .ref (bS 0))] := hl
  have hx := C.1.1
  have hb := C.1.2.1
  have hts := C.1.2.2.2.2
  have hown := C.1.2.2.2.1
  have hin6 : ∀ w ∈ wsX60, w ∈ wsx_X6_pass := fun w h => List.mem_cons_of_mem _ (List.mem_append_right _ (List.mem_append_right _ (List.mem_append_left _ h)))
  unfold fx_X6_pass at hf
  refine lv_aload_n hx hb dX6_pass_0 rfl (lv_at hl 0 rfl) ?_
  refine lv_dup hx hb dX6_pass_1 rfl ?_
  refine xg (v := .int (gi uS 2)) (ci := 3) (K := RX6) (T := TX6) (N := 5) C hin6 hK hP 0 rfl rfl 2 (by decide) rfl (hts (Cond.fieldLink RX6 19 "SchematicText$Source" "at" "I") (List.mem_cons_of_mem _ mx_24)) rfl dX6_pass_2 ?_
  refine lv_iconst (v := (1 : Int32)) hx hb dX6_pass_5 (by decide) ?_
  refine lv_iadd hx hb dX6_pass_6 ?_
  refine xp (v := .int ((gi uS 2) + (1 : Int32))) (w' := (cS G bS (si uS 2 ((gi uS 2) + (1 : Int32))))) (ci := 3) (K := RX6) (T := TX6) (N := 5) (ty := .int) C hin6 tyX6 tyX6_ok nmX6 hK hP hD hS 0 rfl rfl 2 (by decide) rfl (hts (Cond.fieldLink RX6 19 "SchematicText$Source" "at" "I") (List.mem_cons_of_mem _ mx_24)) rfl rfl rfl rfl (Nat.le_of_ble_eq_true rfl) dX6_pass_7 hw_S_S_i2 (fun H locs hP hD hS => ?_)
  obtain rfl := og_s hf
  exact rw_v C hK hP hD hS dX6_pass_10
theorem gx_X6_X6_mark_33 {c0 : Cond} : GoodIn (c0 :: WAX) (wsV RX6 33 RX6 yX6_mark wsx_X6_mark) := gdx_v mx_26 mx_27 mx_28 mx_22 mx_29
theorem gx_X6_X6_failAt_37 {c0 : Cond} : GoodIn (c0 :: WAX) (wsV RX6 37 RX6 yX6_failAt wsx_X6_failAt) := gdx_v mx_206 mx_188 mx_189 mx_22 mx_190
abbrev rmx_X6_passOnly : Room := { frames := 1, cells := 0, slots := 0, locals := 21 }
noncomputable abbrev wsx_X6_passOnly : List Cond := Cond.code yX6_passOnly cX6_passOnly 2 (some .boolean) :: WAX
theorem hdx_X6_passOnly : yX6_passOnly.cls = RX6 ∧ yX6_passOnly.cls ≠ "java/lang/invoke/MethodHandle" ∧ yX6_passOnly.cls ≠ "java/lang/invoke/VarHandle" ∧ (parseMethodDescriptor yX6_passOnly.desc).map (fun d => d.parameters.length) = some 1 := by decide +kernel
def fx_X6_passOnly (uS : Md) (x1 : Int32) : Option (Int32 × Md) := ((fx_X6_mark uS).bind fun r_2 => (if r_2 = x1 then (some ((1 : Int32), (si uS 2 ((gi uS 2) + (1 : Int32))))) else ((fx_X6_failAt uS (gi uS 2)).bind fun p_5 => ((if p_5.1 = 0 ∨ p_5.1 = 1 then some (p_5.1, p_5.2) else none)))))
set_option maxHeartbeats 4000000 in
set_option maxRecDepth 100000 in
theorem cx_X6_passOnly (l : Launch) (G : Gx) (bS : Nat → Nat) (uS : Md) (x1 : Int32) (r : Int32) (vS : Md) (sz : Nat) (hf : fx_X6_passOnly uS x1 = some (r, vS)) : Met l yX6_passOnly wsx_X6_passOnly rmx_X6_passOnly (pX G (cS G bS uS) sz [.ref (bS 0), .int x1]) (qW (some (.int r)) (cS G bS vS) (gD G) (tyG G) (va_A (cS G bS uS) sz)) 0 0 (va_A (cS G bS uS) sz) := by
  refine mx_w (cc := cX6_passOnly) (maxL := 2) (ret := (some .boolean)) (by decide) rfl (Nat.le_of_ble_eq_true rfl) ?_
  intro p e s m below meth c ls A C hl hK hA hT hP hD hS
  have hl : lv_has ls 2 [(0, .ref (bS 0)), (1, .int x1)] := hl
  have hx := C.1.1
  have hb := C.1.2.1
  have hts := C.1.2.2.2.2
  have hown := C.1.2.2.2.1
  have hin6 : ∀ w ∈ wsX60, w ∈ wsx_X6_passOnly := fun w h => List.mem_cons_of_mem _ (List.mem_append_right _ (List.mem_append_right _ (List.mem_append_left _ h)))
  unfold fx_X6_passOnly at hf
  refine lv_aload_n hx hb dX6_passOnly_0 rfl (lv_at hl 0 rfl) ?_
  obtain ⟨r_2, h_1, hf⟩ := og_b hf
  try dsimp only at hf
  refine xr_V (v := .int r_2) (rest := []) (w0 := (cS G bS uS)) C (cx_X6_mark l G bS uS r_2 _ h_1) (cwV 0 hts gx_X6_X6_mark_33 rfl rfl rfl hdx_X6_mark ⟨Nat.le_of_ble_eq_true rfl, Nat.le_of_ble_eq_true rfl⟩) hK hA hT hP hD hS (va_recv hK hP (ci := 3) (q0 := 0) rfl rfl) [0, 1] rfl rfl rfl hl.1 rfl (Nat.le_of_ble_eq_true rfl) dX6_passOnly_1 ?_
  refine lv_iload_n hx hb dX6_passOnly_4 rfl (lv_at hl 1 rfl) ?_
  refine lv_icmp_eq (tgt := 17) hx hb dX6_passOnly_5 (by decide) (fun c_3 => ?_) (fun c_3 => ?_)
  · replace hf := og_t c_3 hf
    refine lv_aload_n hx hb dX6_passOnly_17 rfl (lv_at hl 0 rfl) ?_
    refine lv_dup hx hb dX6_passOnly_18 rfl ?_
    refine xg (v := .int (gi uS 2)) (ci := 3) (K := RX6) (T := TX6) (N := 5) C hin6 hK hP 0 rfl rfl 2 (by decide) rfl (hts (Cond.fieldLink RX6 19 "SchematicText$Source" "at" "I") (List.mem_cons_of_mem _ mx_24)) rfl dX6_passOnly_19 ?_
    refine lv_iconst (v := (1 : Int32)) hx hb dX6_passOnly_22 (by decide) ?_
    refine lv_iadd hx hb dX6_passOnly_23 ?_
    refine xp (v := .int ((gi uS 2) + (1 : Int32))) (w' := (cS G bS (si uS 2 ((gi uS 2) + (1 : Int32))))) (ci := 3) (K := RX6) (T := TX6) (N := 5) (ty := .int) C hin6 tyX6 tyX6_ok nmX6 hK hP hD hS 0 rfl rfl 2 (by decide) rfl (hts (Cond.fieldLink RX6 19 "SchematicText$Source" "at" "I") (List.mem_cons_of_mem _ mx_24)) rfl rfl rfl rfl (Nat.le_of_ble_eq_true rfl) dX6_passOnly_24 hw_S_S_i2 (fun H locs hP hD hS => ?_)
    refine lv_iconst (v := (1 : Int32)) hx hb dX6_passOnly_27 (by decide) ?_
    obtain ⟨rfl, rfl⟩ := pi2 (og_s hf)
    exact rw_z C hK hP hD hS (nz_z (Or.inr rfl)) dX6_passOnly_28
  · replace hf := og_f c_3 hf
    refine lv_aload_n hx hb dX6_passOnly_8 rfl (lv_at hl 0 rfl) ?_
    refine lv_aload_n hx hb dX6_passOnly_9 rfl (lv_at hl 0 rfl) ?_
    refine xg (v := .int (gi uS 2)) (ci := 3) (K := RX6) (T := TX6) (N := 5) C hin6 hK hP 0 rfl rfl 2 (by decide) rfl (hts (Cond.fieldLink RX6 19 "SchematicText$Source" "at" "I") (List.mem_cons_of_mem _ mx_24)) rfl dX6_passOnly_10 ?_
    obtain ⟨⟨r_5, u_6⟩, h_4, hf⟩ := og_b hf
    try dsimp only at hf
    refine xw_V (ov := (some (.int r_5))) (st1 := [.int r_5]) (rest := []) (w0 := (cS G bS uS)) (w1 := (cS G bS u_6)) (wr := ([])) (w' := (cS G bS u_6)) C (cx_X6_failAt l G bS uS (gi uS 2) r_5 u_6 _ h_4) (cwV 1 hts gx_X6_X6_failAt_37 rfl rfl rfl hdx_X6_failAt ⟨Nat.le_of_ble_eq_true rfl, Nat.le_of_ble_eq_true rfl⟩) hK hA hT hP hD hS (va_recv hK hP (ci := 3) (q0 := 0) rfl rfl) [0, 1] [] [0, 1] rfl rfl rfl rfl (by decide) rfl rfl rfl hl.1 rfl rfl (Nat.le_of_ble_eq_true rfl) dX6_passOnly_13 (fun H locs hP hD hS => ?_)
    obtain ⟨h_7, hf⟩ := og_p hf
    obtain ⟨rfl, rfl⟩ := pi2 (og_s hf)
    exact rw_z C hK hP hD hS (nz_z h_7) dX6_passOnly_16
abbrev rmx_X6_passBlanks : Room := { frames := 1, cells := 0, slots := 0, locals := 20 }
noncomputable abbrev wsx_X6_passBlanks : List Cond := Cond.code yX6_passBlanks cX6_passBlanks 1 none :: WAX
theorem hdx_X6_passBlanks : yX6_passBlanks.cls = RX6 ∧ yX6_passBlanks.cls ≠ "java/lang/invoke/MethodHandle" ∧ yX6_passBlanks.cls ≠ "java/lang/invoke/VarHandle" ∧ (parseMethodDescriptor yX6_passBlanks.desc).map (fun d => d.parameters.length) = some 0 := by decide +kernel
def fx_X6_passBlanks_29 (k0 : Md → Option Md) (uS : Md) : Option Md := (k0 (si uS 2 ((gi uS 2) + (1 : Int32))))
set_option maxHeartbeats 4000000 in
set_option maxRecDepth 100000 in
theorem wx_X6_passBlanks_29 {p : Program} {l : Launch} {e : Env} {s : State} {m : MethodId} {args : Array Value} {below : List Frame} {meth : Method} {c : Code} {G : Gx} {A : Nat → Prop} {bS : Nat → Nat} (C : Cx p s m args meth c cX6_passBlanks 1 wsx_X6_passBlanks RX6 none) (hK : va_K (gD G) vwCl (tyG G) s) (hA : ∀ q : Nat, s.heap.size ≤ q → A q) (hT : ST G A s s.heap) {r : Md} (k0 : Md → Option Md) (ih0 : ∀ (uS : Md), k0 uS = some r → ∀ {H : Heap} {locs : List Loc}, va_P (gD G) vwCl (cS G bS uS) H → va_D A (cS G bS uS) → va_S A s.heap H locs → ∀ {ls : Array Slot}, lv_has ls 1 [(0, .ref (bS 0))] → W p l e rmx_X6_passBlanks s m args below meth c H locs 0 0 (MQ below (qW none (cS G bS r) (gD G) (tyG G) A) args s 0 0 A) (F0 m 0 ls [])) : ∀ (uS : Md), fx_X6_passBlanks_29 k0 uS = some r → ∀ {H : Heap} {locs : List Loc}, va_P (gD G) vwCl (cS G bS uS) H → va_D A (cS G bS uS) → va_S A s.heap H locs → ∀ {ls : Array Slot}, lv_has ls 1 [(0, .ref (bS 0))] → W p l e rmx_X6_passBlanks s m args below meth c H locs 0 0 (MQ below (qW none (cS G bS r) (gD G) (tyG G) A) args s 0 0 A) (F0 m 29 ls []) := by
  have hx := C.1.1
  have hb := C.1.2.1
  have hts := C.1.2.2.2.2
  have hown := C.1.2.2.2.1
  have hin6 : ∀ w ∈ wsX60, w ∈ wsx_X6_passBlanks := fun w h => List.mem_cons_of_mem _ (List.mem_append_right _ (List.mem_append_right _ (List.mem_append_left _ h)))
  intro uS hf H locs hP hD hS ls hl
  unfold fx_X6_passBlanks_29 at hf
  refine lv_aload_n hx hb dX6_passBlanks_29 rfl (lv_at hl 0 rfl) ?_
  refine lv_dup hx hb dX6_passBlanks_30 rfl ?_
  refine xg (v := .int (gi uS 2)) (ci := 3) (K := RX6) (T := TX6) (N := 5) C hin6 hK hP 0 rfl rfl 2 (by decide) rfl (hts (Cond.fieldLink RX6 19 "SchematicText$Source" "at" "I") (List.mem_cons_of_mem _ mx_24)) rfl dX6_passBlanks_31 ?_
  refine lv_iconst (v := (1 : Int32)) hx hb dX6_passBlanks_34 (by decide) ?_
  refine lv_iadd hx hb dX6_passBlanks_35 ?_
  refine xp (v := .int ((gi uS 2) + (1 : Int32))) (w' := (cS G bS (si uS 2 ((gi uS 2) + (1 : Int32))))) (ci := 3) (K := RX6) (T := TX6) (N := 5) (ty := .int) C hin6 tyX6 tyX6_ok nmX6 hK hP hD hS 0 rfl rfl 2 (by decide) rfl (hts (Cond.fieldLink RX6 19 "SchematicText$Source" "at" "I") (List.mem_cons_of_mem _ mx_24)) rfl rfl rfl rfl (Nat.le_of_ble_eq_true rfl) dX6_passBlanks_36 hw_S_S_i2 (fun H locs hP hD hS => ?_)
  refine lv_goto (tgt := 0) hx hb dX6_passBlanks_39 (by decide) ?_
  exact ih0 (si uS 2 ((gi uS 2) + (1 : Int32))) hf hP hD hS (lv_sub hl [0] rfl)
def fx_X6_passBlanks_0 : Nat → Md → Option Md
  | 0, _ => none
  | n + 1, uS => (if (gi uS 1) ≤ (gi uS 2) then (some uS) else ((fx_X6_mark uS).bind fun r_3 => (if r_3 = (32 : Int32) then (fx_X6_passBlanks_29 (fx_X6_passBlanks_0 n) uS) else ((fx_X6_mark uS).bind fun r_6 => (if r_6 = (10 : Int32) then (fx_X6_passBlanks_29 (fx_X6_passBlanks_0 n) uS) else (some uS))))))
set_option maxHeartbeats 4000000 in
set_option maxRecDepth 100000 in
theorem wx_X6_passBlanks_0 {p : Program} {l : Launch} {e : Env} {s : State} {m : MethodId} {args : Array Value} {below : List Frame} {meth : Method} {c : Code} {G : Gx} {A : Nat → Prop} {bS : Nat → Nat} (C : Cx p s m args meth c cX6_passBlanks 1 wsx_X6_passBlanks RX6 none) (hK : va_K (gD G) vwCl (tyG G) s) (hA : ∀ q : Nat, s.heap.size ≤ q → A q) (hT : ST G A s s.heap) {r : Md} : ∀ (n : Nat), ∀ (uS : Md), fx_X6_passBlanks_0 n uS = some r → ∀ {H : Heap} {locs : List Loc}, va_P (gD G) vwCl (cS G bS uS) H → va_D A (cS G bS uS) → va_S A s.heap H locs → ∀ {ls : Array Slot}, lv_has ls 1 [(0, .ref (bS 0))] → W p l e rmx_X6_passBlanks s m args below meth c H locs 0 0 (MQ below (qW none (cS G bS r) (gD G) (tyG G) A) args s 0 0 A) (F0 m 0 ls []) := by
  have hx := C.1.1
  have hb := C.1.2.1
  have hts := C.1.2.2.2.2
  have hown := C.1.2.2.2.1
  have hin6 : ∀ w ∈ wsX60, w ∈ wsx_X6_passBlanks := fun w h => List.mem_cons_of_mem _ (List.mem_append_right _ (List.mem_append_right _ (List.mem_append_left _ h)))
  intro n
  induction n with
  | zero =>
    intro uS hf H locs hP hD hS ls hl
    cases hf
  | succ n ih =>
    intro uS hf H locs hP hD hS ls hl
    rw [fx_X6_passBlanks_0] at hf
    refine lv_aload_n hx hb dX6_passBlanks_0 rfl (lv_at hl 0 rfl) ?_
    refine xg (v := .int (gi uS 2)) (ci := 3) (K := RX6) (T := TX6) (N := 5) C hin6 hK hP 0 rfl rfl 2 (by decide) rfl (hts (Cond.fieldLink RX6 19 "SchematicText$Source" "at" "I") (List.mem_cons_of_mem _ mx_24)) rfl dX6_passBlanks_1 ?_
    refine lv_aload_n hx hb dX6_passBlanks_4 rfl (lv_at hl 0 rfl) ?_
    refine xg (v := .int (gi uS 1)) (ci := 3) (K := RX6) (T := TX6) (N := 5) C hin6 hK hP 0 rfl rfl 1 (by decide) rfl (hts (Cond.fieldLink RX6 15 "SchematicText$Source" "count" "I") (List.mem_cons_of_mem _ mx_25)) rfl dX6_passBlanks_5 ?_
    refine lv_icmp_ge (tgt := 42) hx hb dX6_passBlanks_8 (by decide) (fun c_1 => ?_) (fun c_1 => ?_)
    · replace hf := og_t c_1 hf
      obtain rfl := og_s hf
      exact rw_v C hK hP hD hS dX6_passBlanks_42
    · replace hf := og_f c_1 hf
      refine lv_aload_n hx hb dX6_passBlanks_11 rfl (lv_at hl 0 rfl) ?_
      obtain ⟨r_3, h_2, hf⟩ := og_b hf
      try dsimp only at hf
      refine xr_V (v := .int r_3) (rest := []) (w0 := (cS G bS uS)) C (cx_X6_mark l G bS uS r_3 _ h_2) (cwV 0 hts gx_X6_X6_mark_33 rfl rfl rfl hdx_X6_mark ⟨Nat.le_of_ble_eq_true rfl, Nat.le_of_ble_eq_true rfl⟩) hK hA hT hP hD hS (va_recv hK hP (ci := 3) (q0 := 0) rfl rfl) [0, 1] rfl rfl rfl hl.1 rfl (Nat.le_of_ble_eq_true rfl) dX6_passBlanks_12 ?_
      refine lv_bipush (v := (32 : Int32)) hx hb dX6_passBlanks_15 (by decide) ?_
      refine lv_icmp_eq (tgt := 29) hx hb dX6_passBlanks_17 (by decide) (fun c_4 => ?_) (fun c_4 => ?_)
      · replace hf := og_t c_4 hf
        exact wx_X6_passBlanks_29 C hK hA hT (fx_X6_passBlanks_0 n) (fun _ h9 => ih _ h9) uS hf hP hD hS (lv_sub hl [0] rfl)
      · replace hf := og_f c_4 hf
        refine lv_aload_n hx hb dX6_passBlanks_20 rfl (lv_at hl 0 rfl) ?_
        obtain ⟨r_6, h_5, hf⟩ := og_b hf
        try dsimp only at hf
        refine xr_V (v := .int r_6) (rest := []) (w0 := (cS G bS uS)) C (cx_X6_mark l G bS uS r_6 _ h_5) (cwV 0 hts gx_X6_X6_mark_33 rfl rfl rfl hdx_X6_mark ⟨Nat.le_of_ble_eq_true rfl, Nat.le_of_ble_eq_true rfl⟩) hK hA hT hP hD hS (va_recv hK hP (ci := 3) (q0 := 0) rfl rfl) [0, 1] rfl rfl rfl hl.1 rfl (Nat.le_of_ble_eq_true rfl) dX6_passBlanks_21 ?_
        refine lv_bipush (v := (10 : Int32)) hx hb dX6_passBlanks_24 (by decide) ?_
        refine lv_icmp_ne (tgt := 42) hx hb dX6_passBlanks_26 (by decide) (fun c_7 => ?_) (fun c_7 => ?_)
        · replace hf := og_f c_7 hf
          obtain rfl := og_s hf
          exact rw_v C hK hP hD hS dX6_passBlanks_42
        · replace hf := og_t c_7 hf
          exact wx_X6_passBlanks_29 C hK hA hT (fx_X6_passBlanks_0 n) (fun _ h9 => ih _ h9) uS hf hP hD hS (lv_sub hl [0] rfl)
def fx_X6_passBlanks (uS : Md) : Option Md := (fx_X6_passBlanks_0 FU uS)
set_option maxHeartbeats 4000000 in
set_option maxRecDepth 100000 in
theorem cx_X6_passBlanks (l : Launch) (G : Gx) (bS : Nat → Nat) (uS : Md)  (vS : Md) (sz : Nat) (hf : fx_X6_passBlanks uS = some vS) : Met l yX6_passBlanks wsx_X6_passBlanks rmx_X6_passBlanks (pX G (cS G bS uS) sz [.ref (bS 0)]) (qW none (cS G bS vS) (gD G) (tyG G) (va_A (cS G bS uS) sz)) 0 0 (va_A (cS G bS uS) sz) := by
  refine mx_w (cc := cX6_passBlanks) (maxL := 1) (ret := none) (by decide) rfl (Nat.le_of_ble_eq_true rfl) ?_
  intro p e s m below meth c ls A C hl hK hA hT hP hD hS
  have hl : lv_has ls 1 [(0, .ref (bS 0))] := hl
  have hx := C.1.1
  have hb := C.1.2.1
  have hts := C.1.2.2.2.2
  have hown := C.1.2.2.2.1
  have hin6 : ∀ w ∈ wsX60, w ∈ wsx_X6_passBlanks := fun w h => List.mem_cons_of_mem _ (List.mem_append_right _ (List.mem_append_right _ (List.mem_append_left _ h)))
  unfold fx_X6_passBlanks at hf
  exact wx_X6_passBlanks_0 C hK hA hT FU uS hf hP hD hS (lv_sub hl [0] rfl)
abbrev rmx_X8_isSmallLetter : Room := { frames := 0, cells := 0, slots := 0, locals := 0 }
noncomputable abbrev wsx_X8_isSmallLetter : List Cond := Cond.code yX8_isSmallLetter cX8_isSmallLetter 1 (some .boolean) :: WAX
theorem hdx_X8_isSmallLetter : yX8_isSmallLetter.cls ≠ "java/lang/invoke/MethodHandle" ∧ yX8_isSmallLetter.cls ≠ "java/lang/invoke/VarHandle" ∧ (parseMethodDescriptor yX8_isSmallLetter.desc).map (fun d => d.parameters.length) = some 1 := by decide +kernel
def fx_X8_isSmallLetter (x0 : Int32) : Option Int32 := (if x0 < (97 : Int32) then (some (0 : Int32)) else (if (122 : Int32) < x0 then (some (0 : Int32)) else (some (1 : Int32))))
set_option maxHeartbeats 4000000 in
set_option maxRecDepth 100000 in
theorem cx_X8_isSmallLetter (l : Launch) (G : Gx) (x0 : Int32) (r : Int32) (sz : Nat) (hf : fx_X8_isSmallLetter x0 = some r) : Met l yX8_isSmallLetter wsx_X8_isSmallLetter rmx_X8_isSmallLetter (pX G ([]) sz [.int x0]) (k2_QcV (.int r)) 0 0 (fun _ => False) := by
  refine mx_r (cc := cX8_isSmallLetter) (maxL := 1) (ret := (some .boolean)) (by decide) rfl (Nat.le_of_ble_eq_true rfl) ?_
  intro p e s m below meth c ls A C hl hK hA hT hP hD hS
  have hl : lv_has ls 1 [(0, .int x0)] := hl
  have hx := C.1.1
  have hb := C.1.2.1
  have hts := C.1.2.2.2.2
  have hown := C.1.2.2.2.1
  unfold fx_X8_isSmallLetter at hf
  refine lv_iload_n hx hb dX8_isSmallLetter_0 rfl (lv_at hl 0 rfl) ?_
  refine lv_bipush (v := (97 : Int32)) hx hb dX8_isSmallLetter_1 (by decide) ?_
  refine lv_icmp_lt (tgt := 16) hx hb dX8_isSmallLetter_3 (by decide) (fun c_1 => ?_) (fun c_1 => ?_)
  · replace hf := og_t c_1 hf
    refine lv_iconst (v := (0 : Int32)) hx hb dX8_isSmallLetter_16 (by decide) ?_
    obtain rfl := og_s hf
    exact rt_z C (nz_z (Or.inl rfl)) dX8_isSmallLetter_17
  · replace hf := og_f c_1 hf
    refine lv_iload_n hx hb dX8_isSmallLetter_6 rfl (lv_at hl 0 rfl) ?_
    refine lv_bipush (v := (122 : Int32)) hx hb dX8_isSmallLetter_7 (by decide) ?_
    refine lv_icmp_gt (tgt := 16) hx hb dX8_isSmallLetter_9 (by decide) (fun c_2 => ?_) (fun c_2 => ?_)
    · replace hf := og_t c_2 hf
      refine lv_iconst (v := (0 : Int32)) hx hb dX8_isSmallLetter_16 (by decide) ?_
      obtain rfl := og_s hf
      exact rt_z C (nz_z (Or.inl rfl)) dX8_isSmallLetter_17
    · replace hf := og_f c_2 hf
      refine lv_iconst (v := (1 : Int32)) hx hb dX8_isSmallLetter_12 (by decide) ?_
      refine lv_goto (tgt := 17) hx hb dX8_isSmallLetter_13 (by decide) ?_
      obtain rfl := og_s hf
      exact rt_z C (nz_z (Or.inr rfl)) dX8_isSmallLetter_17
theorem gx_X6_X8_isSmallLetter_40 {c0 : Cond} : GoodIn (c0 :: WAX) wsx_X8_isSmallLetter := gdx_n mx_33
abbrev rmx_X6_passLetters : Room := { frames := 1, cells := 0, slots := 0, locals := 20 }
noncomputable abbrev wsx_X6_passLetters : List Cond := Cond.code yX6_passLetters cX6_passLetters 1 none :: WAX
theorem hdx_X6_passLetters : yX6_passLetters.cls = RX6 ∧ yX6_passLetters.cls ≠ "java/lang/invoke/MethodHandle" ∧ yX6_passLetters.cls ≠ "java/lang/invoke/VarHandle" ∧ (parseMethodDescriptor yX6_passLetters.desc).map (fun d => d.parameters.length) = some 0 := by decide +kernel
def fx_X6_passLetters_0 : Nat → Md → Option Md
  | 0, _ => none
  | n + 1, uS => (if (gi uS 1) ≤ (gi uS 2) then (some uS) else ((fx_X6_mark uS).bind fun r_3 => ((fx_X8_isSmallLetter r_3).bind fun r_5 => (if r_5 = 0 then (some uS) else (fx_X6_passLetters_0 n (si uS 2 ((gi uS 2) + (1 : Int32))))))))
set_option maxHeartbeats 4000000 in
set_option maxRecDepth 100000 in
theorem wx_X6_passLetters_0 {p : Program} {l : Launch} {e : Env} {s : State} {m : MethodId} {args : Array Value} {below : List Frame} {meth : Method} {c : Code} {G : Gx} {A : Nat → Prop} {bS : Nat → Nat} (C : Cx p s m args meth c cX6_passLetters 1 wsx_X6_passLetters RX6 none) (hK : va_K (gD G) vwCl (tyG G) s) (hA : ∀ q : Nat, s.heap.size ≤ q → A q) (hT : ST G A s s.heap) {r : Md} : ∀ (n : Nat), ∀ (uS : Md), fx_X6_passLetters_0 n uS = some r → ∀ {H : Heap} {locs : List Loc}, va_P (gD G) vwCl (cS G bS uS) H → va_D A (cS G bS uS) → va_S A s.heap H locs → ∀ {ls : Array Slot}, lv_has ls 1 [(0, .ref (bS 0))] → W p l e rmx_X6_passLetters s m args below meth c H locs 0 0 (MQ below (qW none (cS G bS r) (gD G) (tyG G) A) args s 0 0 A) (F0 m 0 ls []) := by
  have hx := C.1.1
  have hb := C.1.2.1
  have hts := C.1.2.2.2.2
  have hown := C.1.2.2.2.1
  have hin6 : ∀ w ∈ wsX60, w ∈ wsx_X6_passLetters := fun w h => List.mem_cons_of_mem _ (List.mem_append_right _ (List.mem_append_right _ (List.mem_append_left _ h)))
  intro n
  induction n with
  | zero =>
    intro uS hf H locs hP hD hS ls hl
    cases hf
  | succ n ih =>
    intro uS hf H locs hP hD hS ls hl
    rw [fx_X6_passLetters_0] at hf
    refine lv_aload_n hx hb dX6_passLetters_0 rfl (lv_at hl 0 rfl) ?_
    refine xg (v := .int (gi uS 2)) (ci := 3) (K := RX6) (T := TX6) (N := 5) C hin6 hK hP 0 rfl rfl 2 (by decide) rfl (hts (Cond.fieldLink RX6 19 "SchematicText$Source" "at" "I") (List.mem_cons_of_mem _ mx_24)) rfl dX6_passLetters_1 ?_
    refine lv_aload_n hx hb dX6_passLetters_4 rfl (lv_at hl 0 rfl) ?_
    refine xg (v := .int (gi uS 1)) (ci := 3) (K := RX6) (T := TX6) (N := 5) C hin6 hK hP 0 rfl rfl 1 (by decide) rfl (hts (Cond.fieldLink RX6 15 "SchematicText$Source" "count" "I") (List.mem_cons_of_mem _ mx_25)) rfl dX6_passLetters_5 ?_
    refine lv_icmp_ge (tgt := 34) hx hb dX6_passLetters_8 (by decide) (fun c_1 => ?_) (fun c_1 => ?_)
    · replace hf := og_t c_1 hf
      obtain rfl := og_s hf
      exact rw_v C hK hP hD hS dX6_passLetters_34
    · replace hf := og_f c_1 hf
      refine lv_aload_n hx hb dX6_passLetters_11 rfl (lv_at hl 0 rfl) ?_
      obtain ⟨r_3, h_2, hf⟩ := og_b hf
      try dsimp only at hf
      refine xr_V (v := .int r_3) (rest := []) (w0 := (cS G bS uS)) C (cx_X6_mark l G bS uS r_3 _ h_2) (cwV 0 hts gx_X6_X6_mark_33 rfl rfl rfl hdx_X6_mark ⟨Nat.le_of_ble_eq_true rfl, Nat.le_of_ble_eq_true rfl⟩) hK hA hT hP hD hS (va_recv hK hP (ci := 3) (q0 := 0) rfl rfl) [0, 1] rfl rfl rfl hl.1 rfl (Nat.le_of_ble_eq_true rfl) dX6_passLetters_12 ?_
      obtain ⟨r_5, h_4, hf⟩ := og_b hf
      try dsimp only at hf
      refine xr_SN (v := .int r_5) (rest := []) C (cx_X8_isSmallLetter l G r_3 r_5 _ h_4) ⟨va_cnB 1 hts gx_X6_X8_isSmallLetter_40 rfl rfl rfl (hT.2.2.1 ("SchematicText$Source", 40, ⟨"SchematicText", "isSmallLetter", "(I)Z"⟩, "SchematicText") (by decide +kernel)) (hts (Cond.initialized RX8) (List.mem_cons_of_mem _ mx_32)) hdx_X8_isSmallLetter ⟨Nat.le_of_ble_eq_true rfl, Nat.le_of_ble_eq_true rfl⟩, hts (Cond.static yX8_isSmallLetter) (List.mem_cons_of_mem _ mx_31), trivial⟩ hK hA hT hP hD hS rfl hl.1 rfl (Nat.le_of_ble_eq_true rfl) dX6_passLetters_15 ?_
      refine lv_if_eq (tgt := 34) hx hb dX6_passLetters_18 (by decide) (fun c_6 => ?_) (fun c_6 => ?_)
      · replace hf := og_t c_6 hf
        obtain rfl := og_s hf
        exact rw_v C hK hP hD hS dX6_passLetters_34
      · replace hf := og_f c_6 hf
        refine lv_aload_n hx hb dX6_passLetters_21 rfl (lv_at hl 0 rfl) ?_
        refine lv_dup hx hb dX6_passLetters_22 rfl ?_
        refine xg (v := .int (gi uS 2)) (ci := 3) (K := RX6) (T := TX6) (N := 5) C hin6 hK hP 0 rfl rfl 2 (by decide) rfl (hts (Cond.fieldLink RX6 19 "SchematicText$Source" "at" "I") (List.mem_cons_of_mem _ mx_24)) rfl dX6_passLetters_23 ?_
        refine lv_iconst (v := (1 : Int32)) hx hb dX6_passLetters_26 (by decide) ?_
        refine lv_iadd hx hb dX6_passLetters_27 ?_
        refine xp (v := .int ((gi uS 2) + (1 : Int32))) (w' := (cS G bS (si uS 2 ((gi uS 2) + (1 : Int32))))) (ci := 3) (K := RX6) (T := TX6) (N := 5) (ty := .int) C hin6 tyX6 tyX6_ok nmX6 hK hP hD hS 0 rfl rfl 2 (by decide) rfl (hts (Cond.fieldLink RX6 19 "SchematicText$Source" "at" "I") (List.mem_cons_of_mem _ mx_24)) rfl rfl rfl rfl (Nat.le_of_ble_eq_true rfl) dX6_passLetters_28 hw_S_S_i2 (fun H locs hP hD hS => ?_)
        refine lv_goto (tgt := 0) hx hb dX6_passLetters_31 (by decide) ?_
        exact ih (si uS 2 ((gi uS 2) + (1 : Int32))) hf hP hD hS (lv_sub hl [0] rfl)
def fx_X6_passLetters (uS : Md) : Option Md := (fx_X6_passLetters_0 FU uS)
set_option maxHeartbeats 4000000 in
set_option maxRecDepth 100000 in
theorem cx_X6_passLetters (l : Launch) (G : Gx) (bS : Nat → Nat) (uS : Md)  (vS : Md) (sz : Nat) (hf : fx_X6_passLetters uS = some vS) : Met l yX6_passLetters wsx_X6_passLetters rmx_X6_passLetters (pX G (cS G bS uS) sz [.ref (bS 0)]) (qW none (cS G bS vS) (gD G) (tyG G) (va_A (cS G bS uS) sz)) 0 0 (va_A (cS G bS uS) sz) := by
  refine mx_w (cc := cX6_passLetters) (maxL := 1) (ret := none) (by decide) rfl (Nat.le_of_ble_eq_true rfl) ?_
  intro p e s m below meth c ls A C hl hK hA hT hP hD hS
  have hl : lv_has ls 1 [(0, .ref (bS 0))] := hl
  have hx := C.1.1
  have hb := C.1.2.1
  have hts := C.1.2.2.2.2
  have hown := C.1.2.2.2.1
  have hin6 : ∀ w ∈ wsX60, w ∈ wsx_X6_passLetters := fun w h => List.mem_cons_of_mem _ (List.mem_append_right _ (List.mem_append_right _ (List.mem_append_left _ h)))
  unfold fx_X6_passLetters at hf
  exact wx_X6_passLetters_0 C hK hA hT FU uS hf hP hD hS (lv_sub hl [0] rfl)
theorem gx_X6_X6_markAt_43 {c0 : Cond} : GoodIn (c0 :: WAX) (wsV RX6 43 RX6 yX6_markAt wsx_X6_markAt) := gdx_v mx_55 mx_56 mx_57 mx_22 mx_58
abbrev rmx_X6_dotsFrom : Room := { frames := 1, cells := 0, slots := 0, locals := 21 }
noncomputable abbrev wsx_X6_dotsFrom : List Cond := Cond.code yX6_dotsFrom cX6_dotsFrom 3 (some .int) :: WAX
theorem hdx_X6_dotsFrom : yX6_dotsFrom.cls = RX6 ∧ yX6_dotsFrom.cls ≠ "java/lang/invoke/MethodHandle" ∧ yX6_dotsFrom.cls ≠ "java/lang/invoke/VarHandle" ∧ (parseMethodDescriptor yX6_dotsFrom.desc).map (fun d => d.parameters.length) = some 1 := by decide +kernel
def fx_X6_dotsFrom_2 (uS : Md) : Nat → Int32 → Int32 → Option Int32
  | 0, _, _ => none
  | n + 1, x1, x2 => (if (gi uS 1) ≤ x2 then (some x2) else ((fx_X6_markAt uS (x1 + x2)).bind fun r_3 => (if r_3 = (46 : Int32) then (fx_X6_dotsFrom_2 uS n x1 (x2 + (1 : Int32))) else (some x2))))
set_option maxHeartbeats 4000000 in
set_option maxRecDepth 100000 in
theorem wx_X6_dotsFrom_2 {p : Program} {l : Launch} {e : Env} {s : State} {m : MethodId} {args : Array Value} {below : List Frame} {meth : Method} {c : Code} {G : Gx} {A : Nat → Prop} {bS : Nat → Nat} (C : Cx p s m args meth c cX6_dotsFrom 3 wsx_X6_dotsFrom RX6 (some .int)) {uS : Md} (hK : va_K (gD G) vwCl (tyG G) s) (hA : ∀ q : Nat, s.heap.size ≤ q → A q) (hT : ST G A s s.heap) (hP : va_P (gD G) vwCl (cS G bS uS) s.heap) (hD : va_D A (cS G bS uS)) (hS : va_S A s.heap s.heap []) {r : Int32} : ∀ (n : Nat), ∀ (x1 : Int32) (x2 : Int32), fx_X6_dotsFrom_2 uS n x1 x2 = some r → ∀ {ls : Array Slot}, lv_has ls 3 [(0, .ref (bS 0)), (1, .int x1), (2, .int x2)] → W p l e rmx_X6_dotsFrom s m args below meth c s.heap [] 0 0 (MQ below (k2_QcV (.int r)) args s 0 0 (fun _ => False)) (F0 m 2 ls []) := by
  have hx := C.1.1
  have hb := C.1.2.1
  have hts := C.1.2.2.2.2
  have hown := C.1.2.2.2.1
  have hin6 : ∀ w ∈ wsX60, w ∈ wsx_X6_dotsFrom := fun w h => List.mem_cons_of_mem _ (List.mem_append_right _ (List.mem_append_right _ (List.mem_append_left _ h)))
  intro n
  induction n with
  | zero =>
    intro x1 x2 hf ls hl
    cases hf
  | succ n ih =>
    intro x1 x2 hf ls hl
    rw [fx_X6_dotsFrom_2] at hf
    refine lv_iload_n hx hb dX6_dotsFrom_2 rfl (lv_at hl 2 rfl) ?_
    refine lv_aload_n hx hb dX6_dotsFrom_3 rfl (lv_at hl 0 rfl) ?_
    refine xg (v := .int (gi uS 1)) (ci := 3) (K := RX6) (T := TX6) (N := 5) C hin6 hK hP 0 rfl rfl 1 (by decide) rfl (hts (Cond.fieldLink RX6 15 "SchematicText$Source" "count" "I") (List.mem_cons_of_mem _ mx_25)) rfl dX6_dotsFrom_4 ?_
    refine lv_icmp_ge (tgt := 28) hx hb dX6_dotsFrom_7 (by decide) (fun c_1 => ?_) (fun c_1 => ?_)
    · replace hf := og_t c_1 hf
      refine lv_iload_n hx hb dX6_dotsFrom_28 rfl (lv_at hl 2 rfl) ?_
      obtain rfl := og_s hf
      exact rt_i C dX6_dotsFrom_29
    · replace hf := og_f c_1 hf
      refine lv_aload_n hx hb dX6_dotsFrom_10 rfl (lv_at hl 0 rfl) ?_
      refine lv_iload_n hx hb dX6_dotsFrom_11 rfl (lv_at hl 1 rfl) ?_
      refine lv_iload_n hx hb dX6_dotsFrom_12 rfl (lv_at hl 2 rfl) ?_
      refine lv_iadd hx hb dX6_dotsFrom_13 ?_
      obtain ⟨r_3, h_2, hf⟩ := og_b hf
      try dsimp only at hf
      refine xr_V (v := .int r_3) (rest := []) (w0 := (cS G bS uS)) C (cx_X6_markAt l G bS uS (x1 + x2) r_3 _ h_2) (cwV 1 hts gx_X6_X6_markAt_43 rfl rfl rfl hdx_X6_markAt ⟨Nat.le_of_ble_eq_true rfl, Nat.le_of_ble_eq_true rfl⟩) hK hA hT hP hD hS (va_recv hK hP (ci := 3) (q0 := 0) rfl rfl) [0, 1] rfl rfl rfl hl.1 rfl (Nat.le_of_ble_eq_true rfl) dX6_dotsFrom_14 ?_
      refine lv_bipush (v := (46 : Int32)) hx hb dX6_dotsFrom_17 (by decide) ?_
      refine lv_icmp_ne (tgt := 28) hx hb dX6_dotsFrom_19 (by decide) (fun c_4 => ?_) (fun c_4 => ?_)
      · replace hf := og_f c_4 hf
        refine lv_iload_n hx hb dX6_dotsFrom_28 rfl (lv_at hl 2 rfl) ?_
        obtain rfl := og_s hf
        exact rt_i C dX6_dotsFrom_29
      · replace hf := og_t c_4 hf
        refine lv_iinc (v := (x2 + (1 : Int32))) (lv' := [(2, .int (x2 + (1 : Int32))), (0, .ref (bS 0)), (1, .int x1)]) hx hb dX6_dotsFrom_22 hl (k := 2) rfl rfl (by decide) rfl (fun ls hl => ?_)
        refine lv_goto (tgt := 2) hx hb dX6_dotsFrom_25 (by decide) ?_
        exact ih x1 (x2 + (1 : Int32)) hf (lv_sub hl [1, 2, 0] rfl)
def fx_X6_dotsFrom (uS : Md) (x1 : Int32) : Option Int32 := (fx_X6_dotsFrom_2 uS FU x1 (0 : Int32))
set_option maxHeartbeats 4000000 in
set_option maxRecDepth 100000 in
theorem cx_X6_dotsFrom (l : Launch) (G : Gx) (bS : Nat → Nat) (uS : Md) (x1 : Int32) (r : Int32) (sz : Nat) (hf : fx_X6_dotsFrom uS x1 = some r) : Met l yX6_dotsFrom wsx_X6_dotsFrom rmx_X6_dotsFrom (pX G (cS G bS uS) sz [.ref (bS 0), .int x1]) (k2_QcV (.int r)) 0 0 (fun _ => False) := by
  refine mx_r (cc := cX6_dotsFrom) (maxL := 3) (ret := (some .int)) (by decide) rfl (Nat.le_of_ble_eq_true rfl) ?_
  intro p e s m below meth c ls A C hl hK hA hT hP hD hS
  have hl : lv_has ls 3 [(0, .ref (bS 0)), (1, .int x1)] := hl
  have hx := C.1.1
  have hb := C.1.2.1
  have hts := C.1.2.2.2.2
  have hown := C.1.2.2.2.1
  have hin6 : ∀ w ∈ wsX60, w ∈ wsx_X6_dotsFrom := fun w h => List.mem_cons_of_mem _ (List.mem_append_right _ (List.mem_append_right _ (List.mem_append_left _ h)))
  unfold fx_X6_dotsFrom at hf
  refine lv_iconst (v := (0 : Int32)) hx hb dX6_dotsFrom_0 (by decide) ?_
  refine lv_istore_n (lv' := [(2, .int (0 : Int32)), (0, .ref (bS 0)), (1, .int x1)]) hx hb dX6_dotsFrom_1 rfl hl (by decide) rfl (fun ls hl => ?_)
  exact wx_X6_dotsFrom_2 C hK hA hT hP hD hS FU x1 (0 : Int32) hf (lv_sub hl [1, 2, 0] rfl)
abbrev rmx_X6_lineEnd : Room := { frames := 1, cells := 0, slots := 0, locals := 21 }
noncomputable abbrev wsx_X6_lineEnd : List Cond := Cond.code yX6_lineEnd cX6_lineEnd 3 (some .int) :: WAX
theorem hdx_X6_lineEnd : yX6_lineEnd.cls = RX6 ∧ yX6_lineEnd.cls ≠ "java/lang/invoke/MethodHandle" ∧ yX6_lineEnd.cls ≠ "java/lang/invoke/VarHandle" ∧ (parseMethodDescriptor yX6_lineEnd.desc).map (fun d => d.parameters.length) = some 1 := by decide +kernel
def fx_X6_lineEnd_26 (uS : Md) (x2 : Int32) : Option Int32 := (some (if (gi uS 1) < x2 then (gi uS 1) else x2))
set_option maxHeartbeats 4000000 in
set_option maxRecDepth 100000 in
theorem wx_X6_lineEnd_26 {p : Program} {l : Launch} {e : Env} {s : State} {m : MethodId} {args : Array Value} {below : List Frame} {meth : Method} {c : Code} {G : Gx} {A : Nat → Prop} {bS : Nat → Nat} (C : Cx p s m args meth c cX6_lineEnd 3 wsx_X6_lineEnd RX6 (some .int)) {uS : Md} (hK : va_K (gD G) vwCl (tyG G) s) (hA : ∀ q : Nat, s.heap.size ≤ q → A q) (hT : ST G A s s.heap) (hP : va_P (gD G) vwCl (cS G bS uS) s.heap) (hD : va_D A (cS G bS uS)) (hS : va_S A s.heap s.heap []) {r : Int32} : ∀ (x2 : Int32), fx_X6_lineEnd_26 uS x2 = some r → ∀ {ls : Array Slot}, lv_has ls 3 [(0, .ref (bS 0)), (2, .int x2)] → W p l e rmx_X6_lineEnd s m args below meth c s.heap [] 0 0 (MQ below (k2_QcV (.int r)) args s 0 0 (fun _ => False)) (F0 m 26 ls []) := by
  have hx := C.1.1
  have hb := C.1.2.1
  have hts := C.1.2.2.2.2
  have hown := C.1.2.2.2.1
  have hin6 : ∀ w ∈ wsX60, w ∈ wsx_X6_lineEnd := fun w h => List.mem_cons_of_mem _ (List.mem_append_right _ (List.mem_append_right _ (List.mem_append_left _ h)))
  intro x2 hf ls hl
  unfold fx_X6_lineEnd_26 at hf
  refine lv_iload_n hx hb dX6_lineEnd_26 rfl (lv_at hl 1 rfl) ?_
  refine lv_aload_n hx hb dX6_lineEnd_27 rfl (lv_at hl 0 rfl) ?_
  refine xg (v := .int (gi uS 1)) (ci := 3) (K := RX6) (T := TX6) (N := 5) C hin6 hK hP 0 rfl rfl 1 (by decide) rfl (hts (Cond.fieldLink RX6 15 "SchematicText$Source" "count" "I") (List.mem_cons_of_mem _ mx_25)) rfl dX6_lineEnd_28 ?_
  refine va_mmin (rest := []) hx hb (C.1.2.2.1.trans hl.1.symm) hown (hts (Cond.methodLink RX6 47 Lib.Math.min.name) (List.mem_cons_of_mem _ mx_352)) (hts (Cond.static Lib.Math.min.name) (List.mem_cons_of_mem _ mx_353)) (hts (Cond.initialized "java/lang/Math") (List.mem_cons_of_mem _ mx_133)) (hts (Cond.code Lib.Math.min.name Lib.Math.min.code 2 (some .int)) (List.mem_cons_of_mem _ mx_354)) (Nat.le_of_ble_eq_true rfl) (Nat.le_of_ble_eq_true rfl) (Nat.zero_le _) (Nat.zero_le _) dX6_lineEnd_31 ?_
  obtain rfl := og_s hf
  exact rt_i C dX6_lineEnd_34
def fx_X6_lineEnd_2 (uS : Md) : Nat → Int32 → Option Int32
  | 0, _ => none
  | n + 1, x2 => (if (gi uS 1) ≤ x2 then (fx_X6_lineEnd_26 uS x2) else ((fx_X6_markAt uS x2).bind fun r_3 => (if r_3 = (10 : Int32) then (fx_X6_lineEnd_26 uS x2) else (fx_X6_lineEnd_2 uS n (x2 + (1 : Int32))))))
set_option maxHeartbeats 4000000 in
set_option maxRecDepth 100000 in
theorem wx_X6_lineEnd_2 {p : Program} {l : Launch} {e : Env} {s : State} {m : MethodId} {args : Array Value} {below : List Frame} {meth : Method} {c : Code} {G : Gx} {A : Nat → Prop} {bS : Nat → Nat} (C : Cx p s m args meth c cX6_lineEnd 3 wsx_X6_lineEnd RX6 (some .int)) {uS : Md} (hK : va_K (gD G) vwCl (tyG G) s) (hA : ∀ q : Nat, s.heap.size ≤ q → A q) (hT : ST G A s s.heap) (hP : va_P (gD G) vwCl (cS G bS uS) s.heap) (hD : va_D A (cS G bS uS)) (hS : va_S A s.heap s.heap []) {r : Int32} : ∀ (n : Nat), ∀ (x2 : Int32), fx_X6_lineEnd_2 uS n x2 = some r → ∀ {ls : Array Slot}, lv_has ls 3 [(0, .ref (bS 0)), (2, .int x2)] → W p l e rmx_X6_lineEnd s m args below meth c s.heap [] 0 0 (MQ below (k2_QcV (.int r)) args s 0 0 (fun _ => False)) (F0 m 2 ls []) := by
  have hx := C.1.1
  have hb := C.1.2.1
  have hts := C.1.2.2.2.2
  have hown := C.1.2.2.2.1
  have hin6 : ∀ w ∈ wsX60, w ∈ wsx_X6_lineEnd := fun w h => List.mem_cons_of_mem _ (List.mem_append_right _ (List.mem_append_right _ (List.mem_append_left _ h)))
  intro n
  induction n with
  | zero =>
    intro x2 hf ls hl
    cases hf
  | succ n ih =>
    intro x2 hf ls hl
    rw [fx_X6_lineEnd_2] at hf
    refine lv_iload_n hx hb dX6_lineEnd_2 rfl (lv_at hl 1 rfl) ?_
    refine lv_aload_n hx hb dX6_lineEnd_3 rfl (lv_at hl 0 rfl) ?_
    refine xg (v := .int (gi uS 1)) (ci := 3) (K := RX6) (T := TX6) (N := 5) C hin6 hK hP 0 rfl rfl 1 (by decide) rfl (hts (Cond.fieldLink RX6 15 "SchematicText$Source" "count" "I") (List.mem_cons_of_mem _ mx_25)) rfl dX6_lineEnd_4 ?_
    refine lv_icmp_ge (tgt := 26) hx hb dX6_lineEnd_7 (by decide) (fun c_1 => ?_) (fun c_1 => ?_)
    · replace hf := og_t c_1 hf
      exact wx_X6_lineEnd_26 C hK hA hT hP hD hS x2 hf (lv_sub hl [0, 1] rfl)
    · replace hf := og_f c_1 hf
      refine lv_aload_n hx hb dX6_lineEnd_10 rfl (lv_at hl 0 rfl) ?_
      refine lv_iload_n hx hb dX6_lineEnd_11 rfl (lv_at hl 1 rfl) ?_
      obtain ⟨r_3, h_2, hf⟩ := og_b hf
      try dsimp only at hf
      refine xr_V (v := .int r_3) (rest := []) (w0 := (cS G bS uS)) C (cx_X6_markAt l G bS uS x2 r_3 _ h_2) (cwV 1 hts gx_X6_X6_markAt_43 rfl rfl rfl hdx_X6_markAt ⟨Nat.le_of_ble_eq_true rfl, Nat.le_of_ble_eq_true rfl⟩) hK hA hT hP hD hS (va_recv hK hP (ci := 3) (q0 := 0) rfl rfl) [0, 1] rfl rfl rfl hl.1 rfl (Nat.le_of_ble_eq_true rfl) dX6_lineEnd_12 ?_
      refine lv_bipush (v := (10 : Int32)) hx hb dX6_lineEnd_15 (by decide) ?_
      refine lv_icmp_eq (tgt := 26) hx hb dX6_lineEnd_17 (by decide) (fun c_4 => ?_) (fun c_4 => ?_)
      · replace hf := og_t c_4 hf
        exact wx_X6_lineEnd_26 C hK hA hT hP hD hS x2 hf (lv_sub hl [0, 1] rfl)
      · replace hf := og_f c_4 hf
        refine lv_iinc (v := (x2 + (1 : Int32))) (lv' := [(2, .int (x2 + (1 : Int32))), (0, .ref (bS 0))]) hx hb dX6_lineEnd_20 hl (k := 1) rfl rfl (by decide) rfl (fun ls hl => ?_)
        refine lv_goto (tgt := 2) hx hb dX6_lineEnd_23 (by decide) ?_
        exact ih (x2 + (1 : Int32)) hf (lv_sub hl [1, 0] rfl)
def fx_X6_lineEnd (uS : Md) (x1 : Int32) : Option Int32 := (fx_X6_lineEnd_2 uS FU x1)
set_option maxHeartbeats 4000000 in
set_option maxRecDepth 100000 in
theorem cx_X6_lineEnd (l : Launch) (G : Gx) (bS : Nat → Nat) (uS : Md) (x1 : Int32) (r : Int32) (sz : Nat) (hf : fx_X6_lineEnd uS x1 = some r) : Met l yX6_lineEnd wsx_X6_lineEnd rmx_X6_lineEnd (pX G (cS G bS uS) sz [.ref (bS 0), .int x1]) (k2_QcV (.int r)) 0 0 (fun _ => False) := by
  refine mx_r (cc := cX6_lineEnd) (maxL := 3) (ret := (some .int)) (by decide) rfl (Nat.le_of_ble_eq_true rfl) ?_
  intro p e s m below meth c ls A C hl hK hA hT hP hD hS
  have hl : lv_has ls 3 [(0, .ref (bS 0)), (1, .int x1)] := hl
  have hx := C.1.1
  have hb := C.1.2.1
  have hts := C.1.2.2.2.2
  have hown := C.1.2.2.2.1
  have hin6 : ∀ w ∈ wsX60, w ∈ wsx_X6_lineEnd := fun w h => List.mem_cons_of_mem _ (List.mem_append_right _ (List.mem_append_right _ (List.mem_append_left _ h)))
  unfold fx_X6_lineEnd at hf
  refine lv_iload_n hx hb dX6_lineEnd_0 rfl (lv_at hl 1 rfl) ?_
  refine lv_istore_n (lv' := [(2, .int x1), (0, .ref (bS 0)), (1, .int x1)]) hx hb dX6_lineEnd_1 rfl hl (by decide) rfl (fun ls hl => ?_)
  exact wx_X6_lineEnd_2 C hK hA hT hP hD hS FU x1 hf (lv_sub hl [1, 0] rfl)
theorem gx_X6_J0_length_71 {c0 : Cond} : GoodIn (c0 :: WAX) (wsV RX6 71 RJ0 yJ0_length_8abf5 wsx_J0_length) := gdx_v mx_43 mx_44 mx_45 mx_46 mx_47
theorem gx_X6_J0_charAt_76 {c0 : Cond} : GoodIn (c0 :: WAX) (wsV RX6 76 RJ0 yJ0_charAt_5068e wsx_J0_charAt) := gdx_v mx_59 mx_60 mx_61 mx_46 mx_62
abbrev rmx_X6_reads : Room := { frames := 4, cells := 0, slots := 0, locals := 85 }
noncomputable abbrev wsx_X6_reads : List Cond := Cond.code yX6_reads cX6_reads 5 (some .boolean) :: WAX
theorem hdx_X6_reads : yX6_reads.cls = RX6 ∧ yX6_reads.cls ≠ "java/lang/invoke/MethodHandle" ∧ yX6_reads.cls ≠ "java/lang/invoke/VarHandle" ∧ (parseMethodDescriptor yX6_reads.desc).map (fun d => d.parameters.length) = some 3 := by decide +kernel
def fx_X6_reads_15 (uS : Md) : Nat → (Fin 18) → Int32 → Int32 → Option Int32
  | 0, _, _, _ => none
  | n + 1, x1, x2, x4 => ((fx_J0_length x1).bind fun r_5 => (if r_5 ≤ x4 then (some (1 : Int32)) else ((fx_X6_markAt uS (x2 + x4)).bind fun r_8 => ((fx_J0_charAt x1 x4).bind fun r_10 => (if r_8 = r_10 then (fx_X6_reads_15 uS n x1 x2 (x4 + (1 : Int32))) else (some (0 : Int32)))))))
set_option maxHeartbeats 4000000 in
set_option maxRecDepth 100000 in
theorem wx_X6_reads_15 {p : Program} {l : Launch} {e : Env} {s : State} {m : MethodId} {args : Array Value} {below : List Frame} {meth : Method} {c : Code} {G : Gx} {A : Nat → Prop} {bS : Nat → Nat} (C : Cx p s m args meth c cX6_reads 5 wsx_X6_reads RX6 (some .boolean)) {uS : Md} (hK : va_K (gD G) vwCl (tyG G) s) (hA : ∀ q : Nat, s.heap.size ≤ q → A q) (hT : ST G A s s.heap) (hP : va_P (gD G) vwCl (cS G bS uS) s.heap) (hD : va_D A (cS G bS uS)) (hS : va_S A s.heap s.heap []) {r : Int32} : ∀ (n : Nat), ∀ (x1 : (Fin 18)) (x2 : Int32) (x4 : Int32), fx_X6_reads_15 uS n x1 x2 x4 = some r → ∀ {ls : Array Slot}, lv_has ls 5 [(0, .ref (bS 0)), (1, .ref (gS G (x1).val)), (2, .int x2), (4, .int x4)] → W p l e rmx_X6_reads s m args below meth c s.heap [] 0 0 (MQ below (k2_QcV (.int r)) args s 0 0 (fun _ => False)) (F0 m 15 ls []) := by
  have hx := C.1.1
  have hb := C.1.2.1
  have hts := C.1.2.2.2.2
  have hown := C.1.2.2.2.1
  have hin6 : ∀ w ∈ wsX60, w ∈ wsx_X6_reads := fun w h => List.mem_cons_of_mem _ (List.mem_append_right _ (List.mem_append_right _ (List.mem_append_left _ h)))
  intro n
  induction n with
  | zero =>
    intro x1 x2 x4 hf ls hl
    cases hf
  | succ n ih =>
    intro x1 x2 x4 hf ls hl
    rw [fx_X6_reads_15] at hf
    refine lv_iload hx hb dX6_reads_15 (lv_at hl 3 rfl) ?_
    refine lv_aload_n hx hb dX6_reads_17 rfl (lv_at hl 1 rfl) ?_
    obtain ⟨r_5, h_4, hf⟩ := og_b hf
    try dsimp only at hf
    refine xr_V (v := .int r_5) (rest := [.int x4]) (w0 := ([])) C (cx_J0_length l G x1 r_5 _ h_4) (cwV 0 hts gx_X6_J0_length_71 rfl rfl rfl hdx_J0_length ⟨Nat.le_of_ble_eq_true rfl, Nat.le_of_ble_eq_true rfl⟩) hK hA hT hP hD hS (vk_recv hT.1.2.2.2.2.2.2.2.2.2.1 (x1).isLt hS) [] rfl rfl rfl hl.1 rfl (Nat.le_of_ble_eq_true rfl) dX6_reads_18 ?_
    refine lv_icmp_ge (tgt := 49) hx hb dX6_reads_21 (by decide) (fun c_6 => ?_) (fun c_6 => ?_)
    · replace hf := og_t c_6 hf
      refine lv_iconst (v := (1 : Int32)) hx hb dX6_reads_49 (by decide) ?_
      obtain rfl := og_s hf
      exact rt_z C (nz_z (Or.inr rfl)) dX6_reads_50
    · replace hf := og_f c_6 hf
      refine lv_aload_n hx hb dX6_reads_24 rfl (lv_at hl 0 rfl) ?_
      refine lv_iload_n hx hb dX6_reads_25 rfl (lv_at hl 2 rfl) ?_
      refine lv_iload hx hb dX6_reads_26 (lv_at hl 3 rfl) ?_
      refine lv_iadd hx hb dX6_reads_28 ?_
      obtain ⟨r_8, h_7, hf⟩ := og_b hf
      try dsimp only at hf
      refine xr_V (v := .int r_8) (rest := []) (w0 := (cS G bS uS)) C (cx_X6_markAt l G bS uS (x2 + x4) r_8 _ h_7) (cwV 1 hts gx_X6_X6_markAt_43 rfl rfl rfl hdx_X6_markAt ⟨Nat.le_of_ble_eq_true rfl, Nat.le_of_ble_eq_true rfl⟩) hK hA hT hP hD hS (va_recv hK hP (ci := 3) (q0 := 0) rfl rfl) [0, 1] rfl rfl rfl hl.1 rfl (Nat.le_of_ble_eq_true rfl) dX6_reads_29 ?_
      refine lv_aload_n hx hb dX6_reads_32 rfl (lv_at hl 1 rfl) ?_
      refine lv_iload hx hb dX6_reads_33 (lv_at hl 3 rfl) ?_
      obtain ⟨r_10, h_9, hf⟩ := og_b hf
      try dsimp only at hf
      refine xr_V (v := .int r_10) (rest := [.int r_8]) (w0 := ([])) C (cx_J0_charAt l G x1 x4 r_10 _ h_9) (cwV 1 hts gx_X6_J0_charAt_76 rfl rfl rfl hdx_J0_charAt ⟨Nat.le_of_ble_eq_true rfl, Nat.le_of_ble_eq_true rfl⟩) hK hA hT hP hD hS (vk_recv hT.1.2.2.2.2.2.2.2.2.2.1 (x1).isLt hS) [] rfl rfl rfl hl.1 rfl (Nat.le_of_ble_eq_true rfl) dX6_reads_35 ?_
      refine lv_icmp_eq (tgt := 43) hx hb dX6_reads_38 (by decide) (fun c_11 => ?_) (fun c_11 => ?_)
      · replace hf := og_t c_11 hf
        refine lv_iinc (v := (x4 + (1 : Int32))) (lv' := [(4, .int (x4 + (1 : Int32))), (0, .ref (bS 0)), (1, .ref (gS G (x1).val)), (2, .int x2)]) hx hb dX6_reads_43 hl (k := 3) rfl rfl (by decide) rfl (fun ls hl => ?_)
        refine lv_goto (tgt := 15) hx hb dX6_reads_46 (by decide) ?_
        exact ih x1 x2 (x4 + (1 : Int32)) hf (lv_sub hl [1, 2, 3, 0] rfl)
      · replace hf := og_f c_11 hf
        refine lv_iconst (v := (0 : Int32)) hx hb dX6_reads_41 (by decide) ?_
        obtain rfl := og_s hf
        exact rt_z C (nz_z (Or.inl rfl)) dX6_reads_42
def fx_X6_reads (uS : Md) (x1 : (Fin 18)) (x2 : Int32) (x3 : Int32) : Option Int32 := ((fx_J0_length x1).bind fun r_2 => (if r_2 = (x3 - x2) then (fx_X6_reads_15 uS FU x1 x2 (0 : Int32)) else (some (0 : Int32))))
set_option maxHeartbeats 4000000 in
set_option maxRecDepth 100000 in
theorem cx_X6_reads (l : Launch) (G : Gx) (bS : Nat → Nat) (uS : Md) (x1 : (Fin 18)) (x2 : Int32) (x3 : Int32) (r : Int32) (sz : Nat) (hf : fx_X6_reads uS x1 x2 x3 = some r) : Met l yX6_reads wsx_X6_reads rmx_X6_reads (pX G (cS G bS uS) sz [.ref (bS 0), .ref (gS G (x1).val), .int x2, .int x3]) (k2_QcV (.int r)) 0 0 (fun _ => False) := by
  refine mx_r (cc := cX6_reads) (maxL := 5) (ret := (some .boolean)) (by decide) rfl (Nat.le_of_ble_eq_true rfl) ?_
  intro p e s m below meth c ls A C hl hK hA hT hP hD hS
  have hl : lv_has ls 5 [(0, .ref (bS 0)), (1, .ref (gS G (x1).val)), (2, .int x2), (3, .int x3)] := hl
  have hx := C.1.1
  have hb := C.1.2.1
  have hts := C.1.2.2.2.2
  have hown := C.1.2.2.2.1
  have hin6 : ∀ w ∈ wsX60, w ∈ wsx_X6_reads := fun w h => List.mem_cons_of_mem _ (List.mem_append_right _ (List.mem_append_right _ (List.mem_append_left _ h)))
  unfold fx_X6_reads at hf
  refine lv_aload_n hx hb dX6_reads_0 rfl (lv_at hl 1 rfl) ?_
  obtain ⟨r_2, h_1, hf⟩ := og_b hf
  try dsimp only at hf
  refine xr_V (v := .int r_2) (rest := []) (w0 := ([])) C (cx_J0_length l G x1 r_2 _ h_1) (cwV 0 hts gx_X6_J0_length_71 rfl rfl rfl hdx_J0_length ⟨Nat.le_of_ble_eq_true rfl, Nat.le_of_ble_eq_true rfl⟩) hK hA hT hP hD hS (vk_recv hT.1.2.2.2.2.2.2.2.2.2.1 (x1).isLt hS) [] rfl rfl rfl hl.1 rfl (Nat.le_of_ble_eq_true rfl) dX6_reads_1 ?_
  refine lv_iload_n hx hb dX6_reads_4 rfl (lv_at hl 3 rfl) ?_
  refine lv_iload_n hx hb dX6_reads_5 rfl (lv_at hl 2 rfl) ?_
  refine lv_isub hx hb dX6_reads_6 ?_
  refine lv_icmp_eq (tgt := 12) hx hb dX6_reads_7 (by decide) (fun c_3 => ?_) (fun c_3 => ?_)
  · replace hf := og_t c_3 hf
    refine lv_iconst (v := (0 : Int32)) hx hb dX6_reads_12 (by decide) ?_
    refine lv_istore (lv' := [(4, .int (0 : Int32)), (0, .ref (bS 0)), (1, .ref (gS G (x1).val)), (2, .int x2), (3, .int x3)]) hx hb dX6_reads_13 hl (by decide) rfl (fun ls hl => ?_)
    exact wx_X6_reads_15 C hK hA hT hP hD hS FU x1 x2 (0 : Int32) hf (lv_sub hl [1, 2, 3, 0] rfl)
  · replace hf := og_f c_3 hf
    refine lv_iconst (v := (0 : Int32)) hx hb dX6_reads_10 (by decide) ?_
    obtain rfl := og_s hf
    exact rt_z C (nz_z (Or.inl rfl)) dX6_reads_11
theorem gx_X6_X6_reads_63 {c0 : Cond} : GoodIn (c0 :: WAX) (wsV RX6 63 RX6 yX6_reads wsx_X6_reads) := gdx_v mx_39 mx_40 mx_41 mx_22 mx_42
abbrev rmx_X6_kindNamed : Room := { frames := 5, cells := 0, slots := 0, locals := 109 }
noncomputable abbrev wsx_X6_kindNamed : List Cond := Cond.code yX6_kindNamed cX6_kindNamed 7 (some (.object "SchematicText$Kind")) :: WAX
theorem hdx_X6_kindNamed : yX6_kindNamed.cls = RX6 ∧ yX6_kindNamed.cls ≠ "java/lang/invoke/MethodHandle" ∧ yX6_kindNamed.cls ≠ "java/lang/invoke/VarHandle" ∧ (parseMethodDescriptor yX6_kindNamed.desc).map (fun d => d.parameters.length) = some 2 := by decide +kernel
def fx_X6_kindNamed_11 (uS : Md) : Nat → Int32 → Int32 → Int32 → Int32 → Option (Fin 10)
  | 0, _, _, _, _ => none
  | n + 1, x1, x2, x4, x5 => (if x4 ≤ x5 then (some (9 : Fin 10)) else (if x5 < 0 ∨ 10 ≤ (x5).toNatClampNeg then none else ((fx_X6_reads uS (kTitle (fk10 x5)) x1 x2).bind fun r_4 => (if r_4 = 0 then (fx_X6_kindNamed_11 uS n x1 x2 x4 (x5 + (1 : Int32))) else (some (fk10 x5))))))
set_option maxHeartbeats 4000000 in
set_option maxRecDepth 100000 in
theorem wx_X6_kindNamed_11 {p : Program} {l : Launch} {e : Env} {s : State} {m : MethodId} {args : Array Value} {below : List Frame} {meth : Method} {c : Code} {G : Gx} {A : Nat → Prop} {bS : Nat → Nat} (C : Cx p s m args meth c cX6_kindNamed 7 wsx_X6_kindNamed RX6 (some (.object "SchematicText$Kind"))) {uS : Md} (hK : va_K (gD G) vwCl (tyG G) s) (hA : ∀ q : Nat, s.heap.size ≤ q → A q) (hT : ST G A s s.heap) (hP : va_P (gD G) vwCl (cS G bS uS) s.heap) (hD : va_D A (cS G bS uS)) (hS : va_S A s.heap s.heap []) {r : (Fin 10)} : ∀ (n : Nat), ∀ (x1 : Int32) (x2 : Int32) (x4 : Int32) (x5 : Int32), fx_X6_kindNamed_11 uS n x1 x2 x4 x5 = some r → ∀ {ls : Array Slot}, lv_has ls 7 [(0, .ref (bS 0)), (1, .int x1), (2, .int x2), (3, .ref (gT G)), (4, .int x4), (5, .int x5)] → W p l e rmx_X6_kindNamed s m args below meth c s.heap [] 0 0 (MQ below (k2_QcV (.ref (gK G (r).val))) args s 0 0 (fun _ => False)) (F0 m 11 ls []) := by
  have hx := C.1.1
  have hb := C.1.2.1
  have hts := C.1.2.2.2.2
  have hown := C.1.2.2.2.1
  have hin6 : ∀ w ∈ wsX60, w ∈ wsx_X6_kindNamed := fun w h => List.mem_cons_of_mem _ (List.mem_append_right _ (List.mem_append_right _ (List.mem_append_left _ h)))
  intro n
  induction n with
  | zero =>
    intro x1 x2 x4 x5 hf ls hl
    cases hf
  | succ n ih =>
    intro x1 x2 x4 x5 hf ls hl
    rw [fx_X6_kindNamed_11] at hf
    refine lv_iload hx hb dX6_kindNamed_11 (lv_at hl 5 rfl) ?_
    refine lv_iload hx hb dX6_kindNamed_13 (lv_at hl 4 rfl) ?_
    refine lv_icmp_ge (tgt := 47) hx hb dX6_kindNamed_15 (by decide) (fun c_1 => ?_) (fun c_1 => ?_)
    · replace hf := og_t c_1 hf
      refine xK (i := (9 : Fin 10)) C hT hS (hts (Cond.fieldLink RX6 67 "SchematicText$Kind" "UNKNOWN" "LSchematicText$Kind;") (List.mem_cons_of_mem _ mx_38)) dX6_kindNamed_47 ?_
      obtain rfl := og_s hf
      exact rt_a C (Or.inl ⟨_, rfl⟩) dX6_kindNamed_50
    · replace hf := og_f c_1 hf
      refine lv_aload_n hx hb dX6_kindNamed_18 rfl (lv_at hl 3 rfl) ?_
      refine lv_iload hx hb dX6_kindNamed_19 (lv_at hl 5 rfl) ?_
      obtain ⟨h_2, hf⟩ := og_n hf
      refine xta C hT hS h_2 dX6_kindNamed_21 ?_
      refine lv_astore (lv' := [(6, .ref (gK G ((fk10 x5)).val)), (0, .ref (bS 0)), (1, .int x1), (2, .int x2), (3, .ref (gT G)), (4, .int x4), (5, .int x5)]) hx hb dX6_kindNamed_22 hl (by decide) rfl (fun ls hl => ?_)
      refine lv_aload_n hx hb dX6_kindNamed_24 rfl (lv_at hl 1 rfl) ?_
      refine lv_aload hx hb dX6_kindNamed_25 (lv_at hl 0 rfl) ?_
      refine xoN (v := .ref (gS G ((kTitle (fk10 x5))).val)) (host := "SchematicText") C hT (hT.1.2.2.2.2.2.1 ((fk10 x5)).val ((fk10 x5)).isLt) hS (by decide +kernel) dX6_kindNamed_27 ?_
      refine lv_iload_n hx hb dX6_kindNamed_30 rfl (lv_at hl 2 rfl) ?_
      refine lv_iload_n hx hb dX6_kindNamed_31 rfl (lv_at hl 3 rfl) ?_
      obtain ⟨r_4, h_3, hf⟩ := og_b hf
      try dsimp only at hf
      refine xr_V (v := .int r_4) (rest := []) (w0 := (cS G bS uS)) C (cx_X6_reads l G bS uS (kTitle (fk10 x5)) x1 x2 r_4 _ h_3) (cwV 3 hts gx_X6_X6_reads_63 rfl rfl rfl hdx_X6_reads ⟨Nat.le_of_ble_eq_true rfl, Nat.le_of_ble_eq_true rfl⟩) hK hA hT hP hD hS (va_recv hK hP (ci := 3) (q0 := 0) rfl rfl) [0, 1] rfl rfl rfl hl.1 rfl (Nat.le_of_ble_eq_true rfl) dX6_kindNamed_32 ?_
      refine lv_if_eq (tgt := 41) hx hb dX6_kindNamed_35 (by decide) (fun c_5 => ?_) (fun c_5 => ?_)
      · replace hf := og_t c_5 hf
        refine lv_iinc (v := (x5 + (1 : Int32))) (lv' := [(5, .int (x5 + (1 : Int32))), (6, .ref (gK G ((fk10 x5)).val)), (0, .ref (bS 0)), (1, .int x1), (2, .int x2), (3, .ref (gT G)), (4, .int x4)]) hx hb dX6_kindNamed_41 hl (k := 6) rfl rfl (by decide) rfl (fun ls hl => ?_)
        refine lv_goto (tgt := 11) hx hb dX6_kindNamed_44 (by decide) ?_
        exact ih x1 x2 x4 (x5 + (1 : Int32)) hf (lv_sub hl [2, 3, 4, 5, 6, 0] rfl)
      · replace hf := og_f c_5 hf
        refine lv_aload hx hb dX6_kindNamed_38 (lv_at hl 0 rfl) ?_
        obtain rfl := og_s hf
        exact rt_a C (Or.inl ⟨_, rfl⟩) dX6_kindNamed_40
def fx_X6_kindNamed (uS : Md) (x1 : Int32) (x2 : Int32) : Option (Fin 10) := (fx_X6_kindNamed_11 uS FU x1 x2 (10 : Int32) (0 : Int32))
set_option maxHeartbeats 4000000 in
set_option maxRecDepth 100000 in
theorem cx_X6_kindNamed (l : Launch) (G : Gx) (bS : Nat → Nat) (uS : Md) (x1 : Int32) (x2 : Int32) (r : (Fin 10)) (sz : Nat) (hf : fx_X6_kindNamed uS x1 x2 = some r) : Met l yX6_kindNamed wsx_X6_kindNamed rmx_X6_kindNamed (pX G (cS G bS uS) sz [.ref (bS 0), .int x1, .int x2]) (k2_QcV (.ref (gK G (r).val))) 0 0 (fun _ => False) := by
  refine mx_r (cc := cX6_kindNamed) (maxL := 7) (ret := (some (.object "SchematicText$Kind"))) (by decide) rfl (Nat.le_of_ble_eq_true rfl) ?_
  intro p e s m below meth c ls A C hl hK hA hT hP hD hS
  have hl : lv_has ls 7 [(0, .ref (bS 0)), (1, .int x1), (2, .int x2)] := hl
  have hx := C.1.1
  have hb := C.1.2.1
  have hts := C.1.2.2.2.2
  have hown := C.1.2.2.2.1
  have hin6 : ∀ w ∈ wsX60, w ∈ wsx_X6_kindNamed := fun w h => List.mem_cons_of_mem _ (List.mem_append_right _ (List.mem_append_right _ (List.mem_append_left _ h)))
  unfold fx_X6_kindNamed at hf
  refine xALLN (host := "SchematicText") C hT hS (by decide +kernel) dX6_kindNamed_0 ?_
  refine lv_astore_n (lv' := [(3, .ref (gT G)), (0, .ref (bS 0)), (1, .int x1), (2, .int x2)]) hx hb dX6_kindNamed_3 rfl hl (by decide) rfl (fun ls hl => ?_)
  refine lv_aload_n hx hb dX6_kindNamed_4 rfl (lv_at hl 0 rfl) ?_
  refine xtl C hT hS dX6_kindNamed_5 ?_
  refine lv_istore (lv' := [(4, .int (10 : Int32)), (3, .ref (gT G)), (0, .ref (bS 0)), (1, .int x1), (2, .int x2)]) hx hb dX6_kindNamed_6 hl (by decide) rfl (fun ls hl => ?_)
  refine lv_iconst (v := (0 : Int32)) hx hb dX6_kindNamed_8 (by decide) ?_
  refine lv_istore (lv' := [(5, .int (0 : Int32)), (4, .int (10 : Int32)), (3, .ref (gT G)), (0, .ref (bS 0)), (1, .int x1), (2, .int x2)]) hx hb dX6_kindNamed_9 hl (by decide) rfl (fun ls hl => ?_)
  exact wx_X6_kindNamed_11 C hK hA hT hP hD hS FU x1 x2 (10 : Int32) (0 : Int32) hf (lv_sub hl [3, 4, 5, 2, 1, 0] rfl)
abbrev rmx_X8_isDigit : Room := { frames := 0, cells := 0, slots := 0, locals := 0 }
noncomputable abbrev wsx_X8_isDigit : List Cond := Cond.code yX8_isDigit cX8_isDigit 1 (some .boolean) :: WAX
theorem hdx_X8_isDigit : yX8_isDigit.cls ≠ "java/lang/invoke/MethodHandle" ∧ yX8_isDigit.cls ≠ "java/lang/invoke/VarHandle" ∧ (parseMethodDescriptor yX8_isDigit.desc).map (fun d => d.parameters.length) = some 1 := by decide +kernel
def fx_X8_isDigit (x0 : Int32) : Option Int32 := (if x0 < (48 : Int32) then (some (0 : Int32)) else (if (57 : Int32) < x0 then (some (0 : Int32)) else (some (1 : Int32))))
set_option maxHeartbeats 4000000 in
set_option maxRecDepth 100000 in
theorem cx_X8_isDigit (l : Launch) (G : Gx) (x0 : Int32) (r : Int32) (sz : Nat) (hf : fx_X8_isDigit x0 = some r) : Met l yX8_isDigit wsx_X8_isDigit rmx_X8_isDigit (pX G ([]) sz [.int x0]) (k2_QcV (.int r)) 0 0 (fun _ => False) := by
  refine mx_r (cc := cX8_isDigit) (maxL := 1) (ret := (some .boolean)) (by decide) rfl (Nat.le_of_ble_eq_true rfl) ?_
  intro p e s m below meth c ls A C hl hK hA hT hP hD hS
  have hl : lv_has ls 1 [(0, .int x0)] := hl
  have hx := C.1.1
  have hb := C.1.2.1
  have hts := C.1.2.2.2.2
  have hown := C.1.2.2.2.1
  unfold fx_X8_isDigit at hf
  refine lv_iload_n hx hb dX8_isDigit_0 rfl (lv_at hl 0 rfl) ?_
  refine lv_bipush (v := (48 : Int32)) hx hb dX8_isDigit_1 (by decide) ?_
  refine lv_icmp_lt (tgt := 16) hx hb dX8_isDigit_3 (by decide) (fun c_1 => ?_) (fun c_1 => ?_)
  · replace hf := og_t c_1 hf
    refine lv_iconst (v := (0 : Int32)) hx hb dX8_isDigit_16 (by decide) ?_
    obtain rfl := og_s hf
    exact rt_z C (nz_z (Or.inl rfl)) dX8_isDigit_17
  · replace hf := og_f c_1 hf
    refine lv_iload_n hx hb dX8_isDigit_6 rfl (lv_at hl 0 rfl) ?_
    refine lv_bipush (v := (57 : Int32)) hx hb dX8_isDigit_7 (by decide) ?_
    refine lv_icmp_gt (tgt := 16) hx hb dX8_isDigit_9 (by decide) (fun c_2 => ?_) (fun c_2 => ?_)
    · replace hf := og_t c_2 hf
      refine lv_iconst (v := (0 : Int32)) hx hb dX8_isDigit_16 (by decide) ?_
      obtain rfl := og_s hf
      exact rt_z C (nz_z (Or.inl rfl)) dX8_isDigit_17
    · replace hf := og_f c_2 hf
      refine lv_iconst (v := (1 : Int32)) hx hb dX8_isDigit_12 (by decide) ?_
      refine lv_goto (tgt := 17) hx hb dX8_isDigit_13 (by decide) ?_
      obtain rfl := og_s hf
      exact rt_z C (nz_z (Or.inr rfl)) dX8_isDigit_17
theorem gx_X6_X8_isDigit_101 {c0 : Cond} : GoodIn (c0 :: WAX) wsx_X8_isDigit := gdx_n mx_227
abbrev rmx_X6_takeDigits : Room := { frames := 1, cells := 0, slots := 0, locals := 21 }
noncomputable abbrev wsx_X6_takeDigits : List Cond := Cond.code yX6_takeDigits cX6_takeDigits 3 (some .boolean) :: WAX
theorem hdx_X6_takeDigits : yX6_takeDigits.cls = RX6 ∧ yX6_takeDigits.cls ≠ "java/lang/invoke/MethodHandle" ∧ yX6_takeDigits.cls ≠ "java/lang/invoke/VarHandle" ∧ (parseMethodDescriptor yX6_takeDigits.desc).map (fun d => d.parameters.length) = some 1 := by decide +kernel
def fx_X6_takeDigits_88 (uS : Md) : Option (Int32 × Md) := ((fx_X6_failAt uS (gi uS 2)).bind fun p_17 => (if p_17.1 = 0 then (some ((0 : Int32), p_17.2)) else (some ((1 : Int32), p_17.2))))
set_option maxHeartbeats 4000000 in
set_option maxRecDepth 100000 in
theorem wx_X6_takeDigits_88 {p : Program} {l : Launch} {e : Env} {s : State} {m : MethodId} {args : Array Value} {below : List Frame} {meth : Method} {c : Code} {G : Gx} {A : Nat → Prop} {bS : Nat → Nat} (C : Cx p s m args meth c cX6_takeDigits 3 wsx_X6_takeDigits RX6 (some .boolean)) (hK : va_K (gD G) vwCl (tyG G) s) (hA : ∀ q : Nat, s.heap.size ≤ q → A q) (hT : ST G A s s.heap) {r : (Int32 × Md)} : ∀ (uS : Md), fx_X6_takeDigits_88 uS = some r → ∀ {H : Heap} {locs : List Loc}, va_P (gD G) vwCl (cS G bS uS) H → va_D A (cS G bS uS) → va_S A s.heap H locs → ∀ {ls : Array Slot}, lv_has ls 3 [(0, .ref (bS 0))] → W p l e rmx_X6_takeDigits s m args below meth c H locs 0 0 (MQ below (qW (some (.int r.1)) (cS G bS r.2) (gD G) (tyG G) A) args s 0 0 A) (F0 m 88 ls []) := by
  have hx := C.1.1
  have hb := C.1.2.1
  have hts := C.1.2.2.2.2
  have hown := C.1.2.2.2.1
  have hin6 : ∀ w ∈ wsX60, w ∈ wsx_X6_takeDigits := fun w h => List.mem_cons_of_mem _ (List.mem_append_right _ (List.mem_append_right _ (List.mem_append_left _ h)))
  intro uS hf H locs hP hD hS ls hl
  unfold fx_X6_takeDigits_88 at hf
  refine lv_aload_n hx hb dX6_takeDigits_88 rfl (lv_at hl 0 rfl) ?_
  refine lv_aload_n hx hb dX6_takeDigits_89 rfl (lv_at hl 0 rfl) ?_
  refine xg (v := .int (gi uS 2)) (ci := 3) (K := RX6) (T := TX6) (N := 5) C hin6 hK hP 0 rfl rfl 2 (by decide) rfl (hts (Cond.fieldLink RX6 19 "SchematicText$Source" "at" "I") (List.mem_cons_of_mem _ mx_24)) rfl dX6_takeDigits_90 ?_
  obtain ⟨⟨r_17, u_18⟩, h_16, hf⟩ := og_b hf
  try dsimp only at hf
  refine xw_V (ov := (some (.int r_17))) (st1 := [.int r_17]) (rest := []) (w0 := (cS G bS uS)) (w1 := (cS G bS u_18)) (wr := ([])) (w' := (cS G bS u_18)) C (cx_X6_failAt l G bS uS (gi uS 2) r_17 u_18 _ h_16) (cwV 1 hts gx_X6_X6_failAt_37 rfl rfl rfl hdx_X6_failAt ⟨Nat.le_of_ble_eq_true rfl, Nat.le_of_ble_eq_true rfl⟩) hK hA hT hP hD hS (va_recv hK hP (ci := 3) (q0 := 0) rfl rfl) [0, 1] [] [0, 1] rfl rfl rfl rfl (by decide) rfl rfl rfl hl.1 rfl rfl (Nat.le_of_ble_eq_true rfl) dX6_takeDigits_93 (fun H locs hP hD hS => ?_)
  refine lv_if_eq (tgt := 103) hx hb dX6_takeDigits_96 (by decide) (fun c_19 => ?_) (fun c_19 => ?_)
  · replace hf := og_t c_19 hf
    refine lv_iconst (v := (0 : Int32)) hx hb dX6_takeDigits_103 (by decide) ?_
    obtain rfl := og_s hf
    exact rw_z C hK hP hD hS (nz_z (Or.inl rfl)) dX6_takeDigits_104
  · replace hf := og_f c_19 hf
    refine lv_iconst (v := (1 : Int32)) hx hb dX6_takeDigits_99 (by decide) ?_
    refine lv_goto (tgt := 104) hx hb dX6_takeDigits_100 (by decide) ?_
    obtain rfl := og_s hf
    exact rw_z C hK hP hD hS (nz_z (Or.inr rfl)) dX6_takeDigits_104
def fx_X6_takeDigits_70 (uS : Md) (x2 : Int32) : Option (Int32 × Md) := (if (gi uS 2) ≤ x2 then (fx_X6_takeDigits_88 uS) else ((fx_X6_mark uS).bind fun r_12 => ((fx_X8_isDigit r_12).bind fun r_14 => (if r_14 = 0 then (some ((1 : Int32), uS)) else (fx_X6_takeDigits_88 uS)))))
set_option maxHeartbeats 4000000 in
set_option maxRecDepth 100000 in
theorem wx_X6_takeDigits_70 {p : Program} {l : Launch} {e : Env} {s : State} {m : MethodId} {args : Array Value} {below : List Frame} {meth : Method} {c : Code} {G : Gx} {A : Nat → Prop} {bS : Nat → Nat} (C : Cx p s m args meth c cX6_takeDigits 3 wsx_X6_takeDigits RX6 (some .boolean)) (hK : va_K (gD G) vwCl (tyG G) s) (hA : ∀ q : Nat, s.heap.size ≤ q → A q) (hT : ST G A s s.heap) {r : (Int32 × Md)} : ∀ (uS : Md) (x2 : Int32), fx_X6_takeDigits_70 uS x2 = some r → ∀ {H : Heap} {locs : List Loc}, va_P (gD G) vwCl (cS G bS uS) H → va_D A (cS G bS uS) → va_S A s.heap H locs → ∀ {ls : Array Slot}, lv_has ls 3 [(0, .ref (bS 0)), (2, .int x2)] → W p l e rmx_X6_takeDigits s m args below meth c H locs 0 0 (MQ below (qW (some (.int r.1)) (cS G bS r.2) (gD G) (tyG G) A) args s 0 0 A) (F0 m 70 ls []) := by
  have hx := C.1.1
  have hb := C.1.2.1
  have hts := C.1.2.2.2.2
  have hown := C.1.2.2.2.1
  have hin6 : ∀ w ∈ wsX60, w ∈ wsx_X6_takeDigits := fun w h => List.mem_cons_of_mem _ (List.mem_append_right _ (List.mem_append_right _ (List.mem_append_left _ h)))
  intro uS x2 hf H locs hP hD hS ls hl
  unfold fx_X6_takeDigits_70 at hf
  refine lv_aload_n hx hb dX6_takeDigits_70 rfl (lv_at hl 0 rfl) ?_
  refine xg (v := .int (gi uS 2)) (ci := 3) (K := RX6) (T := TX6) (N := 5) C hin6 hK hP 0 rfl rfl 2 (by decide) rfl (hts (Cond.fieldLink RX6 19 "SchematicText$Source" "at" "I") (List.mem_cons_of_mem _ mx_24)) rfl dX6_takeDigits_71 ?_
  refine lv_iload_n hx hb dX6_takeDigits_74 rfl (lv_at hl 1 rfl) ?_
  refine lv_icmp_le (tgt := 88) hx hb dX6_takeDigits_75 (by decide) (fun c_10 => ?_) (fun c_10 => ?_)
  · replace hf := og_t c_10 hf
    exact wx_X6_takeDigits_88 C hK hA hT uS hf hP hD hS (lv_sub hl [0] rfl)
  · replace hf := og_f c_10 hf
    refine lv_aload_n hx hb dX6_takeDigits_78 rfl (lv_at hl 0 rfl) ?_
    obtain ⟨r_12, h_11, hf⟩ := og_b hf
    try dsimp only at hf
    refine xr_V (v := .int r_12) (rest := []) (w0 := (cS G bS uS)) C (cx_X6_mark l G bS uS r_12 _ h_11) (cwV 0 hts gx_X6_X6_mark_33 rfl rfl rfl hdx_X6_mark ⟨Nat.le_of_ble_eq_true rfl, Nat.le_of_ble_eq_true rfl⟩) hK hA hT hP hD hS (va_recv hK hP (ci := 3) (q0 := 0) rfl rfl) [0, 1] rfl rfl rfl hl.1 rfl (Nat.le_of_ble_eq_true rfl) dX6_takeDigits_79 ?_
    obtain ⟨r_14, h_13, hf⟩ := og_b hf
    try dsimp only at hf
    refine xr_SN (v := .int r_14) (rest := []) C (cx_X8_isDigit l G r_12 r_14 _ h_13) ⟨va_cnB 1 hts gx_X6_X8_isDigit_101 rfl rfl rfl (hT.2.2.1 ("SchematicText$Source", 101, ⟨"SchematicText", "isDigit", "(I)Z"⟩, "SchematicText") (by decide +kernel)) (hts (Cond.initialized RX8) (List.mem_cons_of_mem _ mx_32)) hdx_X8_isDigit ⟨Nat.le_of_ble_eq_true rfl, Nat.le_of_ble_eq_true rfl⟩, hts (Cond.static yX8_isDigit) (List.mem_cons_of_mem _ mx_226), trivial⟩ hK hA hT hP hD hS rfl hl.1 rfl (Nat.le_of_ble_eq_true rfl) dX6_takeDigits_82 ?_
    refine lv_if_eq (tgt := 99) hx hb dX6_takeDigits_85 (by decide) (fun c_15 => ?_) (fun c_15 => ?_)
    · replace hf := og_t c_15 hf
      refine lv_iconst (v := (1 : Int32)) hx hb dX6_takeDigits_99 (by decide) ?_
      refine lv_goto (tgt := 104) hx hb dX6_takeDigits_100 (by decide) ?_
      obtain rfl := og_s hf
      exact rw_z C hK hP hD hS (nz_z (Or.inr rfl)) dX6_takeDigits_104
    · replace hf := og_f c_15 hf
      exact wx_X6_takeDigits_88 C hK hA hT uS hf hP hD hS (lv_sub hl [0] rfl)
def fx_X6_takeDigits_5 : Nat → Md → Int32 → Int32 → Option (Int32 × Md)
  | 0, _, _, _ => none
  | n + 1, uS, x1, x2 => (if (gi uS 1) ≤ (gi uS 2) then (fx_X6_takeDigits_70 uS x2) else (if x1 ≤ ((gi uS 2) - x2) then (fx_X6_takeDigits_70 uS x2) else ((fx_X6_mark uS).bind fun r_4 => ((fx_X8_isDigit r_4).bind fun r_6 => (if r_6 = 0 then (fx_X6_takeDigits_70 uS x2) else ((fx_X6_mark uS).bind fun r_9 => (fx_X6_takeDigits_5 n (si (sl uS (((gl uS) * (10 : Int64)) + ((r_9 - (48 : Int32))).toInt64)) 2 ((gi uS 2) + (1 : Int32))) x1 x2)))))))
set_option maxHeartbeats 4000000 in
set_option maxRecDepth 100000 in
theorem wx_X6_takeDigits_5 {p : Program} {l : Launch} {e : Env} {s : State} {m : MethodId} {args : Array Value} {below : List Frame} {meth : Method} {c : Code} {G : Gx} {A : Nat → Prop} {bS : Nat → Nat} (C : Cx p s m args meth c cX6_takeDigits 3 wsx_X6_takeDigits RX6 (some .boolean)) (hK : va_K (gD G) vwCl (tyG G) s) (hA : ∀ q : Nat, s.heap.size ≤ q → A q) (hT : ST G A s s.heap) {r : (Int32 × Md)} : ∀ (n : Nat), ∀ (uS : Md) (x1 : Int32) (x2 : Int32), fx_X6_takeDigits_5 n uS x1 x2 = some r → ∀ {H : Heap} {locs : List Loc}, va_P (gD G) vwCl (cS G bS uS) H → va_D A (cS G bS uS) → va_S A s.heap H locs → ∀ {ls : Array Slot}, lv_has ls 3 [(0, .ref (bS 0)), (1, .int x1), (2, .int x2)] → W p l e rmx_X6_takeDigits s m args below meth c H locs 0 0 (MQ below (qW (some (.int r.1)) (cS G bS r.2) (gD G) (tyG G) A) args s 0 0 A) (F0 m 5 ls []) := by
  have hx := C.1.1
  have hb := C.1.2.1
  have hts := C.1.2.2.2.2
  have hown := C.1.2.2.2.1
  have hin6 : ∀ w ∈ wsX60, w ∈ wsx_X6_takeDigits := fun w h => List.mem_cons_of_mem _ (List.mem_append_right _ (List.mem_append_right _ (List.mem_append_left _ h)))
  intro n
  induction n with
  | zero =>
    intro uS x1 x2 hf H locs hP hD hS ls hl
    cases hf
  | succ n ih =>
    intro uS x1 x2 hf H locs hP hD hS ls hl
    rw [fx_X6_takeDigits_5] at hf
    refine lv_aload_n hx hb dX6_takeDigits_5 rfl (lv_at hl 0 rfl) ?_
    refine xg (v := .int (gi uS 2)) (ci := 3) (K := RX6) (T := TX6) (N := 5) C hin6 hK hP 0 rfl rfl 2 (by decide) rfl (hts (Cond.fieldLink RX6 19 "SchematicText$Source" "at" "I") (List.mem_cons_of_mem _ mx_24)) rfl dX6_takeDigits_6 ?_
    refine lv_aload_n hx hb dX6_takeDigits_9 rfl (lv_at hl 0 rfl) ?_
    refine xg (v := .int (gi uS 1)) (ci := 3) (K := RX6) (T := TX6) (N := 5) C hin6 hK hP 0 rfl rfl 1 (by decide) rfl (hts (Cond.fieldLink RX6 15 "SchematicText$Source" "count" "I") (List.mem_cons_of_mem _ mx_25)) rfl dX6_takeDigits_10 ?_
    refine lv_icmp_ge (tgt := 70) hx hb dX6_takeDigits_13 (by decide) (fun c_1 => ?_) (fun c_1 => ?_)
    · replace hf := og_t c_1 hf
      exact wx_X6_takeDigits_70 C hK hA hT uS x2 hf hP hD hS (lv_sub hl [0, 2] rfl)
    · replace hf := og_f c_1 hf
      refine lv_aload_n hx hb dX6_takeDigits_16 rfl (lv_at hl 0 rfl) ?_
      refine xg (v := .int (gi uS 2)) (ci := 3) (K := RX6) (T := TX6) (N := 5) C hin6 hK hP 0 rfl rfl 2 (by decide) rfl (hts (Cond.fieldLink RX6 19 "SchematicText$Source" "at" "I") (List.mem_cons_of_mem _ mx_24)) rfl dX6_takeDigits_17 ?_
      refine lv_iload_n hx hb dX6_takeDigits_20 rfl (lv_at hl 2 rfl) ?_
      refine lv_isub hx hb dX6_takeDigits_21 ?_
      refine lv_iload_n hx hb dX6_takeDigits_22 rfl (lv_at hl 1 rfl) ?_
      refine lv_icmp_ge (tgt := 70) hx hb dX6_takeDigits_23 (by decide) (fun c_2 => ?_) (fun c_2 => ?_)
      · replace hf := og_t c_2 hf
        exact wx_X6_takeDigits_70 C hK hA hT uS x2 hf hP hD hS (lv_sub hl [0, 2] rfl)
      · replace hf := og_f c_2 hf
        refine lv_aload_n hx hb dX6_takeDigits_26 rfl (lv_at hl 0 rfl) ?_
        obtain ⟨r_4, h_3, hf⟩ := og_b hf
        try dsimp only at hf
        refine xr_V (v := .int r_4) (rest := []) (w0 := (cS G bS uS)) C (cx_X6_mark l G bS uS r_4 _ h_3) (cwV 0 hts gx_X6_X6_mark_33 rfl rfl rfl hdx_X6_mark ⟨Nat.le_of_ble_eq_true rfl, Nat.le_of_ble_eq_true rfl⟩) hK hA hT hP hD hS (va_recv hK hP (ci := 3) (q0 := 0) rfl rfl) [0, 1] rfl rfl rfl hl.1 rfl (Nat.le_of_ble_eq_true rfl) dX6_takeDigits_27 ?_
        obtain ⟨r_6, h_5, hf⟩ := og_b hf
        try dsimp only at hf
        refine xr_SN (v := .int r_6) (rest := []) C (cx_X8_isDigit l G r_4 r_6 _ h_5) ⟨va_cnB 1 hts gx_X6_X8_isDigit_101 rfl rfl rfl (hT.2.2.1 ("SchematicText$Source", 101, ⟨"SchematicText", "isDigit", "(I)Z"⟩, "SchematicText") (by decide +kernel)) (hts (Cond.initialized RX8) (List.mem_cons_of_mem _ mx_32)) hdx_X8_isDigit ⟨Nat.le_of_ble_eq_true rfl, Nat.le_of_ble_eq_true rfl⟩, hts (Cond.static yX8_isDigit) (List.mem_cons_of_mem _ mx_226), trivial⟩ hK hA hT hP hD hS rfl hl.1 rfl (Nat.le_of_ble_eq_true rfl) dX6_takeDigits_30 ?_
        refine lv_if_eq (tgt := 70) hx hb dX6_takeDigits_33 (by decide) (fun c_7 => ?_) (fun c_7 => ?_)
        · replace hf := og_t c_7 hf
          exact wx_X6_takeDigits_70 C hK hA hT uS x2 hf hP hD hS (lv_sub hl [0, 2] rfl)
        · replace hf := og_f c_7 hf
          refine lv_aload_n hx hb dX6_takeDigits_36 rfl (lv_at hl 0 rfl) ?_
          refine lv_aload_n hx hb dX6_takeDigits_37 rfl (lv_at hl 0 rfl) ?_
          refine xg (v := .long (gl uS)) (ci := 3) (K := RX6) (T := TX6) (N := 5) C hin6 hK hP 0 rfl rfl 4 (by decide) rfl (hts (Cond.fieldLink RX6 25 "SchematicText$Source" "value" "J") (List.mem_cons_of_mem _ mx_220)) rfl dX6_takeDigits_38 ?_
          refine lv_ldc2 (v := (10 : Int64)) hx hb hown (hts (Cond.constantLong RX6 99 (10)) (List.mem_cons_of_mem _ mx_225)) dX6_takeDigits_41 ?_
          refine lv_lmul hx hb dX6_takeDigits_44 ?_
          refine lv_aload_n hx hb dX6_takeDigits_45 rfl (lv_at hl 0 rfl) ?_
          obtain ⟨r_9, h_8, hf⟩ := og_b hf
          try dsimp only at hf
          refine xr_V (v := .int r_9) (rest := [.long ((gl uS) * (10 : Int64)), .ref (bS 0)]) (w0 := (cS G bS uS)) C (cx_X6_mark l G bS uS r_9 _ h_8) (cwV 0 hts gx_X6_X6_mark_33 rfl rfl rfl hdx_X6_mark ⟨Nat.le_of_ble_eq_true rfl, Nat.le_of_ble_eq_true rfl⟩) hK hA hT hP hD hS (va_recv hK hP (ci := 3) (q0 := 0) rfl rfl) [0, 1] rfl rfl rfl hl.1 rfl (Nat.le_of_ble_eq_true rfl) dX6_takeDigits_46 ?_
          refine lv_bipush (v := (48 : Int32)) hx hb dX6_takeDigits_49 (by decide) ?_
          refine lv_isub hx hb dX6_takeDigits_51 ?_
          refine lv_i2l (v := ((r_9 - (48 : Int32))).toInt64) hx hb dX6_takeDigits_52 rfl ?_
          refine lv_ladd hx hb dX6_takeDigits_53 ?_
          refine xp (v := .long (((gl uS) * (10 : Int64)) + ((r_9 - (48 : Int32))).toInt64)) (w' := (cS G bS (sl uS (((gl uS) * (10 : Int64)) + ((r_9 - (48 : Int32))).toInt64)))) (ci := 3) (K := RX6) (T := TX6) (N := 5) (ty := .long) C hin6 tyX6 tyX6_ok nmX6 hK hP hD hS 0 rfl rfl 4 (by decide) rfl (hts (Cond.fieldLink RX6 25 "SchematicText$Source" "value" "J") (List.mem_cons_of_mem _ mx_220)) rfl rfl rfl rfl (Nat.le_of_ble_eq_true rfl) dX6_takeDigits_54 hw_S_S_l4 (fun H locs hP hD hS => ?_)
          refine lv_aload_n hx hb dX6_takeDigits_57 rfl (lv_at hl 0 rfl) ?_
          refine lv_dup hx hb dX6_takeDigits_58 rfl ?_
          refine xg (v := .int (gi uS 2)) (ci := 3) (K := RX6) (T := TX6) (N := 5) C hin6 hK hP 0 rfl rfl 2 (by decide) rfl (hts (Cond.fieldLink RX6 19 "SchematicText$Source" "at" "I") (List.mem_cons_of_mem _ mx_24)) rfl dX6_takeDigits_59 ?_
          refine lv_iconst (v := (1 : Int32)) hx hb dX6_takeDigits_62 (by decide) ?_
          refine lv_iadd hx hb dX6_takeDigits_63 ?_
          refine xp (v := .int ((gi uS 2) + (1 : Int32))) (w' := (cS G bS (si (sl uS (((gl uS) * (10 : Int64)) + ((r_9 - (48 : Int32))).toInt64)) 2 ((gi uS 2) + (1 : Int32))))) (ci := 3) (K := RX6) (T := TX6) (N := 5) (ty := .int) C hin6 tyX6 tyX6_ok nmX6 hK hP hD hS 0 rfl rfl 2 (by decide) rfl (hts (Cond.fieldLink RX6 19 "SchematicText$Source" "at" "I") (List.mem_cons_of_mem _ mx_24)) rfl rfl rfl rfl (Nat.le_of_ble_eq_true rfl) dX6_takeDigits_64 hw_S_S_i2 (fun H locs hP hD hS => ?_)
          refine lv_goto (tgt := 5) hx hb dX6_takeDigits_67 (by decide) ?_
          exact ih (si (sl uS (((gl uS) * (10 : Int64)) + ((r_9 - (48 : Int32))).toInt64)) 2 ((gi uS 2) + (1 : Int32))) x1 x2 hf hP hD hS (lv_sub hl [0, 1, 2] rfl)
def fx_X6_takeDigits (uS : Md) (x1 : Int32) : Option (Int32 × Md) := (fx_X6_takeDigits_5 FU uS x1 (gi uS 2))
set_option maxHeartbeats 4000000 in
set_option maxRecDepth 100000 in
theorem cx_X6_takeDigits (l : Launch) (G : Gx) (bS : Nat → Nat) (uS : Md) (x1 : Int32) (r : Int32) (vS : Md) (sz : Nat) (hf : fx_X6_takeDigits uS x1 = some (r, vS)) : Met l yX6_takeDigits wsx_X6_takeDigits rmx_X6_takeDigits (pX G (cS G bS uS) sz [.ref (bS 0), .int x1]) (qW (some (.int r)) (cS G bS vS) (gD G) (tyG G) (va_A (cS G bS uS) sz)) 0 0 (va_A (cS G bS uS) sz) := by
  refine mx_w (cc := cX6_takeDigits) (maxL := 3) (ret := (some .boolean)) (by decide) rfl (Nat.le_of_ble_eq_true rfl) ?_
  intro p e s m below meth c ls A C hl hK hA hT hP hD hS
  have hl : lv_has ls 3 [(0, .ref (bS 0)), (1, .int x1)] := hl
  have hx := C.1.1
  have hb := C.1.2.1
  have hts := C.1.2.2.2.2
  have hown := C.1.2.2.2.1
  have hin6 : ∀ w ∈ wsX60, w ∈ wsx_X6_takeDigits := fun w h => List.mem_cons_of_mem _ (List.mem_append_right _ (List.mem_append_right _ (List.mem_append_left _ h)))
  unfold fx_X6_takeDigits at hf
  refine lv_aload_n hx hb dX6_takeDigits_0 rfl (lv_at hl 0 rfl) ?_
  refine xg (v := .int (gi uS 2)) (ci := 3) (K := RX6) (T := TX6) (N := 5) C hin6 hK hP 0 rfl rfl 2 (by decide) rfl (hts (Cond.fieldLink RX6 19 "SchematicText$Source" "at" "I") (List.mem_cons_of_mem _ mx_24)) rfl dX6_takeDigits_1 ?_
  refine lv_istore_n (lv' := [(2, .int (gi uS 2)), (0, .ref (bS 0)), (1, .int x1)]) hx hb dX6_takeDigits_4 rfl hl (by decide) rfl (fun ls hl => ?_)
  exact wx_X6_takeDigits_5 C hK hA hT FU uS x1 (gi uS 2) hf hP hD hS (lv_sub hl [1, 2, 0] rfl)
theorem gx_X6_X6_takeDigits_80 {c0 : Cond} : GoodIn (c0 :: WAX) (wsV RX6 80 RX6 yX6_takeDigits wsx_X6_takeDigits) := gdx_v mx_221 mx_222 mx_223 mx_22 mx_224
abbrev rmx_X6_takePointDigits : Room := { frames := 2, cells := 0, slots := 0, locals := 43 }
noncomputable abbrev wsx_X6_takePointDigits : List Cond := Cond.code yX6_takePointDigits cX6_takePointDigits 3 (some .boolean) :: WAX
theorem hdx_X6_takePointDigits : yX6_takePointDigits.cls = RX6 ∧ yX6_takePointDigits.cls ≠ "java/lang/invoke/MethodHandle" ∧ yX6_takePointDigits.cls ≠ "java/lang/invoke/VarHandle" ∧ (parseMethodDescriptor yX6_takePointDigits.desc).map (fun d => d.parameters.length) = some 0 := by decide +kernel
def fx_X6_takePointDigits_48 : Nat → Md → Int32 → Option (Int32 × Md)
  | 0, _, _ => none
  | n + 1, uS, x2 => (if (6 : Int32) ≤ x2 then (some ((1 : Int32), uS)) else (fx_X6_takePointDigits_48 n (sl uS ((gl uS) * (10 : Int64))) (x2 + (1 : Int32))))
set_option maxHeartbeats 4000000 in
set_option maxRecDepth 100000 in
theorem wx_X6_takePointDigits_48 {p : Program} {l : Launch} {e : Env} {s : State} {m : MethodId} {args : Array Value} {below : List Frame} {meth : Method} {c : Code} {G : Gx} {A : Nat → Prop} {bS : Nat → Nat} (C : Cx p s m args meth c cX6_takePointDigits 3 wsx_X6_takePointDigits RX6 (some .boolean)) (hK : va_K (gD G) vwCl (tyG G) s) (hA : ∀ q : Nat, s.heap.size ≤ q → A q) (hT : ST G A s s.heap) {r : (Int32 × Md)} : ∀ (n : Nat), ∀ (uS : Md) (x2 : Int32), fx_X6_takePointDigits_48 n uS x2 = some r → ∀ {H : Heap} {locs : List Loc}, va_P (gD G) vwCl (cS G bS uS) H → va_D A (cS G bS uS) → va_S A s.heap H locs → ∀ {ls : Array Slot}, lv_has ls 3 [(0, .ref (bS 0)), (2, .int x2)] → W p l e rmx_X6_takePointDigits s m args below meth c H locs 0 0 (MQ below (qW (some (.int r.1)) (cS G bS r.2) (gD G) (tyG G) A) args s 0 0 A) (F0 m 48 ls []) := by
  have hx := C.1.1
  have hb := C.1.2.1
  have hts := C.1.2.2.2.2
  have hown := C.1.2.2.2.1
  have hin6 : ∀ w ∈ wsX60, w ∈ wsx_X6_takePointDigits := fun w h => List.mem_cons_of_mem _ (List.mem_append_right _ (List.mem_append_right _ (List.mem_append_left _ h)))
  intro n
  induction n with
  | zero =>
    intro uS x2 hf H locs hP hD hS ls hl
    cases hf
  | succ n ih =>
    intro uS x2 hf H locs hP hD hS ls hl
    rw [fx_X6_takePointDigits_48] at hf
    refine lv_iload_n hx hb dX6_takePointDigits_48 rfl (lv_at hl 1 rfl) ?_
    refine lv_bipush (v := (6 : Int32)) hx hb dX6_takePointDigits_49 (by decide) ?_
    refine lv_icmp_ge (tgt := 72) hx hb dX6_takePointDigits_51 (by decide) (fun c_8 => ?_) (fun c_8 => ?_)
    · replace hf := og_t c_8 hf
      refine lv_iconst (v := (1 : Int32)) hx hb dX6_takePointDigits_72 (by decide) ?_
      obtain rfl := og_s hf
      exact rw_z C hK hP hD hS (nz_z (Or.inr rfl)) dX6_takePointDigits_73
    · replace hf := og_f c_8 hf
      refine lv_aload_n hx hb dX6_takePointDigits_54 rfl (lv_at hl 0 rfl) ?_
      refine lv_dup hx hb dX6_takePointDigits_55 rfl ?_
      refine xg (v := .long (gl uS)) (ci := 3) (K := RX6) (T := TX6) (N := 5) C hin6 hK hP 0 rfl rfl 4 (by decide) rfl (hts (Cond.fieldLink RX6 25 "SchematicText$Source" "value" "J") (List.mem_cons_of_mem _ mx_220)) rfl dX6_takePointDigits_56 ?_
      refine lv_ldc2 (v := (10 : Int64)) hx hb hown (hts (Cond.constantLong RX6 99 (10)) (List.mem_cons_of_mem _ mx_225)) dX6_takePointDigits_59 ?_
      refine lv_lmul hx hb dX6_takePointDigits_62 ?_
      refine xp (v := .long ((gl uS) * (10 : Int64))) (w' := (cS G bS (sl uS ((gl uS) * (10 : Int64))))) (ci := 3) (K := RX6) (T := TX6) (N := 5) (ty := .long) C hin6 tyX6 tyX6_ok nmX6 hK hP hD hS 0 rfl rfl 4 (by decide) rfl (hts (Cond.fieldLink RX6 25 "SchematicText$Source" "value" "J") (List.mem_cons_of_mem _ mx_220)) rfl rfl rfl rfl (Nat.le_of_ble_eq_true rfl) dX6_takePointDigits_63 hw_S_S_l4 (fun H locs hP hD hS => ?_)
      refine lv_iinc (v := (x2 + (1 : Int32))) (lv' := [(2, .int (x2 + (1 : Int32))), (0, .ref (bS 0))]) hx hb dX6_takePointDigits_66 hl (k := 1) rfl rfl (by decide) rfl (fun ls hl => ?_)
      refine lv_goto (tgt := 48) hx hb dX6_takePointDigits_69 (by decide) ?_
      exact ih (sl uS ((gl uS) * (10 : Int64))) (x2 + (1 : Int32)) hf hP hD hS (lv_sub hl [1, 0] rfl)
def fx_X6_takePointDigits_37 (uS : Md) (x1 : Int32) : Option (Int32 × Md) := (fx_X6_takePointDigits_48 FU uS (if ((gi uS 2) - x1) < (0 : Int32) then (0 : Int32) else ((gi uS 2) - x1)))
set_option maxHeartbeats 4000000 in
set_option maxRecDepth 100000 in
theorem wx_X6_takePointDigits_37 {p : Program} {l : Launch} {e : Env} {s : State} {m : MethodId} {args : Array Value} {below : List Frame} {meth : Method} {c : Code} {G : Gx} {A : Nat → Prop} {bS : Nat → Nat} (C : Cx p s m args meth c cX6_takePointDigits 3 wsx_X6_takePointDigits RX6 (some .boolean)) (hK : va_K (gD G) vwCl (tyG G) s) (hA : ∀ q : Nat, s.heap.size ≤ q → A q) (hT : ST G A s s.heap) {r : (Int32 × Md)} : ∀ (uS : Md) (x1 : Int32), fx_X6_takePointDigits_37 uS x1 = some r → ∀ {H : Heap} {locs : List Loc}, va_P (gD G) vwCl (cS G bS uS) H → va_D A (cS G bS uS) → va_S A s.heap H locs → ∀ {ls : Array Slot}, lv_has ls 3 [(0, .ref (bS 0)), (1, .int x1)] → W p l e rmx_X6_takePointDigits s m args below meth c H locs 0 0 (MQ below (qW (some (.int r.1)) (cS G bS r.2) (gD G) (tyG G) A) args s 0 0 A) (F0 m 37 ls []) := by
  have hx := C.1.1
  have hb := C.1.2.1
  have hts := C.1.2.2.2.2
  have hown := C.1.2.2.2.1
  have hin6 : ∀ w ∈ wsX60, w ∈ wsx_X6_takePointDigits := fun w h => List.mem_cons_of_mem _ (List.mem_append_right _ (List.mem_append_right _ (List.mem_append_left _ h)))
  intro uS x1 hf H locs hP hD hS ls hl
  unfold fx_X6_takePointDigits_37 at hf
  refine lv_aload_n hx hb dX6_takePointDigits_37 rfl (lv_at hl 0 rfl) ?_
  refine xg (v := .int (gi uS 2)) (ci := 3) (K := RX6) (T := TX6) (N := 5) C hin6 hK hP 0 rfl rfl 2 (by decide) rfl (hts (Cond.fieldLink RX6 19 "SchematicText$Source" "at" "I") (List.mem_cons_of_mem _ mx_24)) rfl dX6_takePointDigits_38 ?_
  refine lv_iload_n hx hb dX6_takePointDigits_41 rfl (lv_at hl 1 rfl) ?_
  refine lv_isub hx hb dX6_takePointDigits_42 ?_
  refine lv_iconst (v := (0 : Int32)) hx hb dX6_takePointDigits_43 (by decide) ?_
  refine va_mmax (rest := []) hx hb (C.1.2.2.1.trans hl.1.symm) hown (hts (Cond.methodLink RX6 96 Lib.Math.max.name) (List.mem_cons_of_mem _ mx_235)) (hts (Cond.static Lib.Math.max.name) (List.mem_cons_of_mem _ mx_132)) (hts (Cond.initialized "java/lang/Math") (List.mem_cons_of_mem _ mx_133)) (hts (Cond.code Lib.Math.max.name Lib.Math.max.code 2 (some .int)) (List.mem_cons_of_mem _ mx_134)) (Nat.le_of_ble_eq_true rfl) (Nat.le_of_ble_eq_true rfl) (Nat.zero_le _) (Nat.zero_le _) dX6_takePointDigits_44 ?_
  refine lv_istore_n (lv' := [(2, .int (if ((gi uS 2) - x1) < (0 : Int32) then (0 : Int32) else ((gi uS 2) - x1))), (0, .ref (bS 0)), (1, .int x1)]) hx hb dX6_takePointDigits_47 rfl hl (by decide) rfl (fun ls hl => ?_)
  exact wx_X6_takePointDigits_48 C hK hA hT FU uS (if ((gi uS 2) - x1) < (0 : Int32) then (0 : Int32) else ((gi uS 2) - x1)) hf hP hD hS (lv_sub hl [1, 0] rfl)
def fx_X6_takePointDigits (uS : Md) : Option (Int32 × Md) := ((fx_X6_mark uS).bind fun r_2 => (if r_2 = (46 : Int32) then ((fx_X6_takeDigits (si uS 2 ((gi uS 2) + (1 : Int32))) (6 : Int32)).bind fun p_5 => (if p_5.1 = 0 then (some ((0 : Int32), p_5.2)) else (fx_X6_takePointDigits_37 p_5.2 ((gi uS 2) + (1 : Int32))))) else (fx_X6_takePointDigits_37 uS ((gi uS 2) + (1 : Int32)))))
set_option maxHeartbeats 4000000 in
set_option maxRecDepth 100000 in
theorem cx_X6_takePointDigits (l : Launch) (G : Gx) (bS : Nat → Nat) (uS : Md) (r : Int32) (vS : Md) (sz : Nat) (hf : fx_X6_takePointDigits uS = some (r, vS)) : Met l yX6_takePointDigits wsx_X6_takePointDigits rmx_X6_takePointDigits (pX G (cS G bS uS) sz [.ref (bS 0)]) (qW (some (.int r)) (cS G bS vS) (gD G) (tyG G) (va_A (cS G bS uS) sz)) 0 0 (va_A (cS G bS uS) sz) := by
  refine mx_w (cc := cX6_takePointDigits) (maxL := 3) (ret := (some .boolean)) (by decide) rfl (Nat.le_of_ble_eq_true rfl) ?_
  intro p e s m below meth c ls A C hl hK hA hT hP hD hS
  have hl : lv_has ls 3 [(0, .ref (bS 0))] := hl
  have hx := C.1.1
  have hb := C.1.2.1
  have hts := C.1.2.2.2.2
  have hown := C.1.2.2.2.1
  have hin6 : ∀ w ∈ wsX60, w ∈ wsx_X6_takePointDigits := fun w h => List.mem_cons_of_mem _ (List.mem_append_right _ (List.mem_append_right _ (List.mem_append_left _ h)))
  unfold fx_X6_takePointDigits at hf
  refine lv_aload_n hx hb dX6_takePointDigits_0 rfl (lv_at hl 0 rfl) ?_
  refine xg (v := .int (gi uS 2)) (ci := 3) (K := RX6) (T := TX6) (N := 5) C hin6 hK hP 0 rfl rfl 2 (by decide) rfl (hts (Cond.fieldLink RX6 19 "SchematicText$Source" "at" "I") (List.mem_cons_of_mem _ mx_24)) rfl dX6_takePointDigits_1 ?_
  refine lv_iconst (v := (1 : Int32)) hx hb dX6_takePointDigits_4 (by decide) ?_
  refine lv_iadd hx hb dX6_takePointDigits_5 ?_
  refine lv_istore_n (lv' := [(1, .int ((gi uS 2) + (1 : Int32))), (0, .ref (bS 0))]) hx hb dX6_takePointDigits_6 rfl hl (by decide) rfl (fun ls hl => ?_)
  refine lv_aload_n hx hb dX6_takePointDigits_7 rfl (lv_at hl 1 rfl) ?_
  obtain ⟨r_2, h_1, hf⟩ := og_b hf
  try dsimp only at hf
  refine xr_V (v := .int r_2) (rest := []) (w0 := (cS G bS uS)) C (cx_X6_mark l G bS uS r_2 _ h_1) (cwV 0 hts gx_X6_X6_mark_33 rfl rfl rfl hdx_X6_mark ⟨Nat.le_of_ble_eq_true rfl, Nat.le_of_ble_eq_true rfl⟩) hK hA hT hP hD hS (va_recv hK hP (ci := 3) (q0 := 0) rfl rfl) [0, 1] rfl rfl rfl hl.1 rfl (Nat.le_of_ble_eq_true rfl) dX6_takePointDigits_8 ?_
  refine lv_bipush (v := (46 : Int32)) hx hb dX6_takePointDigits_11 (by decide) ?_
  refine lv_icmp_ne (tgt := 37) hx hb dX6_takePointDigits_13 (by decide) (fun c_3 => ?_) (fun c_3 => ?_)
  · replace hf := og_f c_3 hf
    exact wx_X6_takePointDigits_37 C hK hA hT uS ((gi uS 2) + (1 : Int32)) hf hP hD hS (lv_sub hl [1, 0] rfl)
  · replace hf := og_t c_3 hf
    refine lv_aload_n hx hb dX6_takePointDigits_16 rfl (lv_at hl 1 rfl) ?_
    refine lv_dup hx hb dX6_takePointDigits_17 rfl ?_
    refine xg (v := .int (gi uS 2)) (ci := 3) (K := RX6) (T := TX6) (N := 5) C hin6 hK hP 0 rfl rfl 2 (by decide) rfl (hts (Cond.fieldLink RX6 19 "SchematicText$Source" "at" "I") (List.mem_cons_of_mem _ mx_24)) rfl dX6_takePointDigits_18 ?_
    refine lv_iconst (v := (1 : Int32)) hx hb dX6_takePointDigits_21 (by decide) ?_
    refine lv_iadd hx hb dX6_takePointDigits_22 ?_
    refine xp (v := .int ((gi uS 2) + (1 : Int32))) (w' := (cS G bS (si uS 2 ((gi uS 2) + (1 : Int32))))) (ci := 3) (K := RX6) (T := TX6) (N := 5) (ty := .int) C hin6 tyX6 tyX6_ok nmX6 hK hP hD hS 0 rfl rfl 2 (by decide) rfl (hts (Cond.fieldLink RX6 19 "SchematicText$Source" "at" "I") (List.mem_cons_of_mem _ mx_24)) rfl rfl rfl rfl (Nat.le_of_ble_eq_true rfl) dX6_takePointDigits_23 hw_S_S_i2 (fun H locs hP hD hS => ?_)
    refine lv_aload_n hx hb dX6_takePointDigits_26 rfl (lv_at hl 1 rfl) ?_
    refine lv_bipush (v := (6 : Int32)) hx hb dX6_takePointDigits_27 (by decide) ?_
    obtain ⟨⟨r_5, u_6⟩, h_4, hf⟩ := og_b hf
    try dsimp only at hf
    refine xw_V (ov := (some (.int r_5))) (st1 := [.int r_5]) (rest := []) (w0 := (cS G bS (si uS 2 ((gi uS 2) + (1 : Int32))))) (w1 := (cS G bS u_6)) (wr := ([])) (w' := (cS G bS u_6)) C (cx_X6_takeDigits l G bS (si uS 2 ((gi uS 2) + (1 : Int32))) (6 : Int32) r_5 u_6 _ h_4) (cwV 1 hts gx_X6_X6_takeDigits_80 rfl rfl rfl hdx_X6_takeDigits ⟨Nat.le_of_ble_eq_true rfl, Nat.le_of_ble_eq_true rfl⟩) hK hA hT hP hD hS (va_recv hK hP (ci := 3) (q0 := 0) rfl rfl) [0, 1] [] [0, 1] rfl rfl rfl rfl (by decide) rfl rfl rfl hl.1 rfl rfl (Nat.le_of_ble_eq_true rfl) dX6_takePointDigits_29 (fun H locs hP hD hS => ?_)
    refine lv_if_ne (tgt := 37) hx hb dX6_takePointDigits_32 (by decide) (fun c_7 => ?_) (fun c_7 => ?_)
    · replace hf := og_f c_7 hf
      exact wx_X6_takePointDigits_37 C hK hA hT u_6 ((gi uS 2) + (1 : Int32)) hf hP hD hS (lv_sub hl [1, 0] rfl)
    · replace hf := og_t c_7 hf
      refine lv_iconst (v := (0 : Int32)) hx hb dX6_takePointDigits_35 (by decide) ?_
      obtain ⟨rfl, rfl⟩ := pi2 (og_s hf)
      exact rw_z C hK hP hD hS (nz_z (Or.inl rfl)) dX6_takePointDigits_36
theorem gx_X6_X0_isLength_83 {c0 : Cond} : GoodIn (c0 :: WAX) (wsV RX6 83 RX0 yX0_isLength wsx_X0_isLength) := gdx_v mx_228 mx_229 mx_230 mx_165 mx_10
theorem gx_X6_X6_takePointDigits_89 {c0 : Cond} : GoodIn (c0 :: WAX) (wsV RX6 89 RX6 yX6_takePointDigits wsx_X6_takePointDigits) := gdx_v mx_231 mx_232 mx_233 mx_22 mx_234
theorem gx_X6_X0_admits_92 {c0 : Cond} : GoodIn (c0 :: WAX) (wsV RX6 92 RX0 yX0_admits wsx_X0_admits) := gdx_v mx_236 mx_237 mx_238 mx_165 mx_11
abbrev rmx_X6_takeNumber : Room := { frames := 3, cells := 0, slots := 0, locals := 65 }
noncomputable abbrev wsx_X6_takeNumber : List Cond := Cond.code yX6_takeNumber cX6_takeNumber 4 (some .boolean) :: WAX
theorem hdx_X6_takeNumber : yX6_takeNumber.cls = RX6 ∧ yX6_takeNumber.cls ≠ "java/lang/invoke/MethodHandle" ∧ yX6_takeNumber.cls ≠ "java/lang/invoke/VarHandle" ∧ (parseMethodDescriptor yX6_takeNumber.desc).map (fun d => d.parameters.length) = some 1 := by decide +kernel
def fx_X6_takeNumber_78 (uS : Md) (x1 : (Fin 8)) (x2 : Int32) : Option (Int32 × Md) := ((fx_X0_admits x1 (gl uS)).bind fun r_18 => (if r_18 = 0 then ((fx_X6_failAt uS x2).bind fun p_21 => (if p_21.1 = 0 then (some ((0 : Int32), p_21.2)) else (some ((1 : Int32), p_21.2)))) else (some ((1 : Int32), uS))))
set_option maxHeartbeats 4000000 in
set_option maxRecDepth 100000 in
theorem wx_X6_takeNumber_78 {p : Program} {l : Launch} {e : Env} {s : State} {m : MethodId} {args : Array Value} {below : List Frame} {meth : Method} {c : Code} {G : Gx} {A : Nat → Prop} {bS : Nat → Nat} (C : Cx p s m args meth c cX6_takeNumber 4 wsx_X6_takeNumber RX6 (some .boolean)) (hK : va_K (gD G) vwCl (tyG G) s) (hA : ∀ q : Nat, s.heap.size ≤ q → A q) (hT : ST G A s s.heap) {r : (Int32 × Md)} : ∀ (uS : Md) (x1 : (Fin 8)) (x2 : Int32), fx_X6_takeNumber_78 uS x1 x2 = some r → ∀ {H : Heap} {locs : List Loc}, va_P (gD G) vwCl (cS G bS uS) H → va_D A (cS G bS uS) → va_S A s.heap H locs → ∀ {ls : Array Slot}, lv_has ls 4 [(0, .ref (bS 0)), (1, .ref (gF G (x1).val)), (2, .int x2)] → W p l e rmx_X6_takeNumber s m args below meth c H locs 0 0 (MQ below (qW (some (.int r.1)) (cS G bS r.2) (gD G) (tyG G) A) args s 0 0 A) (F0 m 78 ls []) := by
  have hx := C.1.1
  have hb := C.1.2.1
  have hts := C.1.2.2.2.2
  have hown := C.1.2.2.2.1
  have hin6 : ∀ w ∈ wsX60, w ∈ wsx_X6_takeNumber := fun w h => List.mem_cons_of_mem _ (List.mem_append_right _ (List.mem_append_right _ (List.mem_append_left _ h)))
  intro uS x1 x2 hf H locs hP hD hS ls hl
  unfold fx_X6_takeNumber_78 at hf
  refine lv_aload_n hx hb dX6_takeNumber_78 rfl (lv_at hl 1 rfl) ?_
  refine lv_aload_n hx hb dX6_takeNumber_79 rfl (lv_at hl 0 rfl) ?_
  refine xg (v := .long (gl uS)) (ci := 3) (K := RX6) (T := TX6) (N := 5) C hin6 hK hP 0 rfl rfl 4 (by decide) rfl (hts (Cond.fieldLink RX6 25 "SchematicText$Source" "value" "J") (List.mem_cons_of_mem _ mx_220)) rfl dX6_takeNumber_80 ?_
  obtain ⟨r_18, h_17, hf⟩ := og_b hf
  try dsimp only at hf
  refine xr_V (v := .int r_18) (rest := []) (w0 := ([])) C (cx_X0_admits l G x1 (gl uS) r_18 _ h_17) (cwV 1 hts gx_X6_X0_admits_92 rfl rfl rfl hdx_X0_admits ⟨Nat.le_of_ble_eq_true rfl, Nat.le_of_ble_eq_true rfl⟩) hK hA hT hP hD hS (va_recvE hT.1.1 (x1).isLt hS) [] rfl rfl rfl hl.1 rfl (Nat.le_of_ble_eq_true rfl) dX6_takeNumber_83 ?_
  refine lv_if_ne (tgt := 97) hx hb dX6_takeNumber_86 (by decide) (fun c_19 => ?_) (fun c_19 => ?_)
  · replace hf := og_f c_19 hf
    refine lv_iconst (v := (1 : Int32)) hx hb dX6_takeNumber_97 (by decide) ?_
    refine lv_goto (tgt := 102) hx hb dX6_takeNumber_98 (by decide) ?_
    obtain rfl := og_s hf
    exact rw_z C hK hP hD hS (nz_z (Or.inr rfl)) dX6_takeNumber_102
  · replace hf := og_t c_19 hf
    refine lv_aload_n hx hb dX6_takeNumber_89 rfl (lv_at hl 0 rfl) ?_
    refine lv_iload_n hx hb dX6_takeNumber_90 rfl (lv_at hl 2 rfl) ?_
    obtain ⟨⟨r_21, u_22⟩, h_20, hf⟩ := og_b hf
    try dsimp only at hf
    refine xw_V (ov := (some (.int r_21))) (st1 := [.int r_21]) (rest := []) (w0 := (cS G bS uS)) (w1 := (cS G bS u_22)) (wr := ([])) (w' := (cS G bS u_22)) C (cx_X6_failAt l G bS uS x2 r_21 u_22 _ h_20) (cwV 1 hts gx_X6_X6_failAt_37 rfl rfl rfl hdx_X6_failAt ⟨Nat.le_of_ble_eq_true rfl, Nat.le_of_ble_eq_true rfl⟩) hK hA hT hP hD hS (va_recv hK hP (ci := 3) (q0 := 0) rfl rfl) [0, 1] [] [0, 1] rfl rfl rfl rfl (by decide) rfl rfl rfl hl.1 rfl rfl (Nat.le_of_ble_eq_true rfl) dX6_takeNumber_91 (fun H locs hP hD hS => ?_)
    refine lv_if_eq (tgt := 101) hx hb dX6_takeNumber_94 (by decide) (fun c_23 => ?_) (fun c_23 => ?_)
    · replace hf := og_t c_23 hf
      refine lv_iconst (v := (0 : Int32)) hx hb dX6_takeNumber_101 (by decide) ?_
      obtain rfl := og_s hf
      exact rw_z C hK hP hD hS (nz_z (Or.inl rfl)) dX6_takeNumber_102
    · replace hf := og_f c_23 hf
      refine lv_iconst (v := (1 : Int32)) hx hb dX6_takeNumber_97 (by decide) ?_
      refine lv_goto (tgt := 102) hx hb dX6_takeNumber_98 (by decide) ?_
      obtain rfl := og_s hf
      exact rw_z C hK hP hD hS (nz_z (Or.inr rfl)) dX6_takeNumber_102
def fx_X6_takeNumber_65 (uS : Md) (x1 : (Fin 8)) (x2 : Int32) (x3 : Int32) : Option (Int32 × Md) := (if x3 = 0 then (fx_X6_takeNumber_78 uS x1 x2) else (fx_X6_takeNumber_78 (sl uS (-(gl uS))) x1 x2))
set_option maxHeartbeats 4000000 in
set_option maxRecDepth 100000 in
theorem wx_X6_takeNumber_65 {p : Program} {l : Launch} {e : Env} {s : State} {m : MethodId} {args : Array Value} {below : List Frame} {meth : Method} {c : Code} {G : Gx} {A : Nat → Prop} {bS : Nat → Nat} (C : Cx p s m args meth c cX6_takeNumber 4 wsx_X6_takeNumber RX6 (some .boolean)) (hK : va_K (gD G) vwCl (tyG G) s) (hA : ∀ q : Nat, s.heap.size ≤ q → A q) (hT : ST G A s s.heap) {r : (Int32 × Md)} : ∀ (uS : Md) (x1 : (Fin 8)) (x2 : Int32) (x3 : Int32), fx_X6_takeNumber_65 uS x1 x2 x3 = some r → ∀ {H : Heap} {locs : List Loc}, va_P (gD G) vwCl (cS G bS uS) H → va_D A (cS G bS uS) → va_S A s.heap H locs → ∀ {ls : Array Slot}, lv_has ls 4 [(0, .ref (bS 0)), (1, .ref (gF G (x1).val)), (2, .int x2), (3, .int x3)] → W p l e rmx_X6_takeNumber s m args below meth c H locs 0 0 (MQ below (qW (some (.int r.1)) (cS G bS r.2) (gD G) (tyG G) A) args s 0 0 A) (F0 m 65 ls []) := by
  have hx := C.1.1
  have hb := C.1.2.1
  have hts := C.1.2.2.2.2
  have hown := C.1.2.2.2.1
  have hin6 : ∀ w ∈ wsX60, w ∈ wsx_X6_takeNumber := fun w h => List.mem_cons_of_mem _ (List.mem_append_right _ (List.mem_append_right _ (List.mem_append_left _ h)))
  intro uS x1 x2 x3 hf H locs hP hD hS ls hl
  unfold fx_X6_takeNumber_65 at hf
  refine lv_iload_n hx hb dX6_takeNumber_65 rfl (lv_at hl 3 rfl) ?_
  refine lv_if_eq (tgt := 78) hx hb dX6_takeNumber_66 (by decide) (fun c_16 => ?_) (fun c_16 => ?_)
  · replace hf := og_t c_16 hf
    exact wx_X6_takeNumber_78 C hK hA hT uS x1 x2 hf hP hD hS (lv_sub hl [0, 1, 2] rfl)
  · replace hf := og_f c_16 hf
    refine lv_aload_n hx hb dX6_takeNumber_69 rfl (lv_at hl 0 rfl) ?_
    refine lv_aload_n hx hb dX6_takeNumber_70 rfl (lv_at hl 0 rfl) ?_
    refine xg (v := .long (gl uS)) (ci := 3) (K := RX6) (T := TX6) (N := 5) C hin6 hK hP 0 rfl rfl 4 (by decide) rfl (hts (Cond.fieldLink RX6 25 "SchematicText$Source" "value" "J") (List.mem_cons_of_mem _ mx_220)) rfl dX6_takeNumber_71 ?_
    refine lv_lneg hx hb dX6_takeNumber_74 ?_
    refine xp (v := .long (-(gl uS))) (w' := (cS G bS (sl uS (-(gl uS))))) (ci := 3) (K := RX6) (T := TX6) (N := 5) (ty := .long) C hin6 tyX6 tyX6_ok nmX6 hK hP hD hS 0 rfl rfl 4 (by decide) rfl (hts (Cond.fieldLink RX6 25 "SchematicText$Source" "value" "J") (List.mem_cons_of_mem _ mx_220)) rfl rfl rfl rfl (Nat.le_of_ble_eq_true rfl) dX6_takeNumber_75 hw_S_S_l4 (fun H locs hP hD hS => ?_)
    exact wx_X6_takeNumber_78 C hK hA hT (sl uS (-(gl uS))) x1 x2 hf hP hD hS (lv_sub hl [0, 1, 2] rfl)
def fx_X6_takeNumber_39 (uS : Md) (x1 : (Fin 8)) (x2 : Int32) (x3 : Int32) : Option (Int32 × Md) := ((fx_X6_takeDigits uS (4 : Int32)).bind fun p_6 => (if p_6.1 = 0 then (some ((0 : Int32), p_6.2)) else ((fx_X0_isLength x1).bind fun r_10 => (if r_10 = 0 then (fx_X6_takeNumber_65 p_6.2 x1 x2 x3) else ((fx_X6_takePointDigits p_6.2).bind fun p_13 => (if p_13.1 = 0 then (some ((0 : Int32), p_13.2)) else (fx_X6_takeNumber_65 p_13.2 x1 x2 x3)))))))
set_option maxHeartbeats 4000000 in
set_option maxRecDepth 100000 in
theorem wx_X6_takeNumber_39 {p : Program} {l : Launch} {e : Env} {s : State} {m : MethodId} {args : Array Value} {below : List Frame} {meth : Method} {c : Code} {G : Gx} {A : Nat → Prop} {bS : Nat → Nat} (C : Cx p s m args meth c cX6_takeNumber 4 wsx_X6_takeNumber RX6 (some .boolean)) (hK : va_K (gD G) vwCl (tyG G) s) (hA : ∀ q : Nat, s.heap.size ≤ q → A q) (hT : ST G A s s.heap) {r : (Int32 × Md)} : ∀ (uS : Md) (x1 : (Fin 8)) (x2 : Int32) (x3 : Int32), fx_X6_takeNumber_39 uS x1 x2 x3 = some r → ∀ {H : Heap} {locs : List Loc}, va_P (gD G) vwCl (cS G bS uS) H → va_D A (cS G bS uS) → va_S A s.heap H locs → ∀ {ls : Array Slot}, lv_has ls 4 [(0, .ref (bS 0)), (1, .ref (gF G (x1).val)), (2, .int x2), (3, .int x3)] → W p l e rmx_X6_takeNumber s m args below meth c H locs 0 0 (MQ below (qW (some (.int r.1)) (cS G bS r.2) (gD G) (tyG G) A) args s 0 0 A) (F0 m 39 ls []) := by
  have hx := C.1.1
  have hb := C.1.2.1
  have hts := C.1.2.2.2.2
  have hown := C.1.2.2.2.1
  have hin6 : ∀ w ∈ wsX60, w ∈ wsx_X6_takeNumber := fun w h => List.mem_cons_of_mem _ (List.mem_append_right _ (List.mem_append_right _ (List.mem_append_left _ h)))
  intro uS x1 x2 x3 hf H locs hP hD hS ls hl
  unfold fx_X6_takeNumber_39 at hf
  refine lv_aload_n hx hb dX6_takeNumber_39 rfl (lv_at hl 0 rfl) ?_
  refine lv_iconst (v := (4 : Int32)) hx hb dX6_takeNumber_40 (by decide) ?_
  obtain ⟨⟨r_6, u_7⟩, h_5, hf⟩ := og_b hf
  try dsimp only at hf
  refine xw_V (ov := (some (.int r_6))) (st1 := [.int r_6]) (rest := []) (w0 := (cS G bS uS)) (w1 := (cS G bS u_7)) (wr := ([])) (w' := (cS G bS u_7)) C (cx_X6_takeDigits l G bS uS (4 : Int32) r_6 u_7 _ h_5) (cwV 1 hts gx_X6_X6_takeDigits_80 rfl rfl rfl hdx_X6_takeDigits ⟨Nat.le_of_ble_eq_true rfl, Nat.le_of_ble_eq_true rfl⟩) hK hA hT hP hD hS (va_recv hK hP (ci := 3) (q0 := 0) rfl rfl) [0, 1] [] [0, 1] rfl rfl rfl rfl (by decide) rfl rfl rfl hl.1 rfl rfl (Nat.le_of_ble_eq_true rfl) dX6_takeNumber_41 (fun H locs hP hD hS => ?_)
  refine lv_if_ne (tgt := 49) hx hb dX6_takeNumber_44 (by decide) (fun c_8 => ?_) (fun c_8 => ?_)
  · replace hf := og_f c_8 hf
    refine lv_aload_n hx hb dX6_takeNumber_49 rfl (lv_at hl 1 rfl) ?_
    obtain ⟨r_10, h_9, hf⟩ := og_b hf
    try dsimp only at hf
    refine xr_V (v := .int r_10) (rest := []) (w0 := ([])) C (cx_X0_isLength l G x1 r_10 _ h_9) (cwV 0 hts gx_X6_X0_isLength_83 rfl rfl rfl hdx_X0_isLength ⟨Nat.le_of_ble_eq_true rfl, Nat.le_of_ble_eq_true rfl⟩) hK hA hT hP hD hS (va_recvE hT.1.1 (x1).isLt hS) [] rfl rfl rfl hl.1 rfl (Nat.le_of_ble_eq_true rfl) dX6_takeNumber_50 ?_
    refine lv_if_eq (tgt := 65) hx hb dX6_takeNumber_53 (by decide) (fun c_11 => ?_) (fun c_11 => ?_)
    · replace hf := og_t c_11 hf
      exact wx_X6_takeNumber_65 C hK hA hT u_7 x1 x2 x3 hf hP hD hS (lv_sub hl [0, 1, 2, 3] rfl)
    · replace hf := og_f c_11 hf
      refine lv_aload_n hx hb dX6_takeNumber_56 rfl (lv_at hl 0 rfl) ?_
      obtain ⟨⟨r_13, u_14⟩, h_12, hf⟩ := og_b hf
      try dsimp only at hf
      refine xw_V (ov := (some (.int r_13))) (st1 := [.int r_13]) (rest := []) (w0 := (cS G bS u_7)) (w1 := (cS G bS u_14)) (wr := ([])) (w' := (cS G bS u_14)) C (cx_X6_takePointDigits l G bS u_7 r_13 u_14 _ h_12) (cwV 0 hts gx_X6_X6_takePointDigits_89 rfl rfl rfl hdx_X6_takePointDigits ⟨Nat.le_of_ble_eq_true rfl, Nat.le_of_ble_eq_true rfl⟩) hK hA hT hP hD hS (va_recv hK hP (ci := 3) (q0 := 0) rfl rfl) [0, 1] [] [0, 1] rfl rfl rfl rfl (by decide) rfl rfl rfl hl.1 rfl rfl (Nat.le_of_ble_eq_true rfl) dX6_takeNumber_57 (fun H locs hP hD hS => ?_)
      refine lv_if_ne (tgt := 65) hx hb dX6_takeNumber_60 (by decide) (fun c_15 => ?_) (fun c_15 => ?_)
      · replace hf := og_f c_15 hf
        exact wx_X6_takeNumber_65 C hK hA hT u_14 x1 x2 x3 hf hP hD hS (lv_sub hl [0, 1, 2, 3] rfl)
      · replace hf := og_t c_15 hf
        refine lv_iconst (v := (0 : Int32)) hx hb dX6_takeNumber_63 (by decide) ?_
        obtain rfl := og_s hf
        exact rw_z C hK hP hD hS (nz_z (Or.inl rfl)) dX6_takeNumber_64
  · replace hf := og_t c_8 hf
    refine lv_iconst (v := (0 : Int32)) hx hb dX6_takeNumber_47 (by decide) ?_
    obtain rfl := og_s hf
    exact rw_z C hK hP hD hS (nz_z (Or.inl rfl)) dX6_takeNumber_48
def fx_X6_takeNumber_24 (uS : Md) (x1 : (Fin 8)) (x2 : Int32) (y0 : Int32) : Option (Int32 × Md) := (if y0 = 0 then (fx_X6_takeNumber_39 uS x1 x2 y0) else (fx_X6_takeNumber_39 (si uS 2 ((gi uS 2) + (1 : Int32))) x1 x2 y0))
set_option maxHeartbeats 4000000 in
set_option maxRecDepth 100000 in
theorem wx_X6_takeNumber_24 {p : Program} {l : Launch} {e : Env} {s : State} {m : MethodId} {args : Array Value} {below : List Frame} {meth : Method} {c : Code} {G : Gx} {A : Nat → Prop} {bS : Nat → Nat} (C : Cx p s m args meth c cX6_takeNumber 4 wsx_X6_takeNumber RX6 (some .boolean)) (hK : va_K (gD G) vwCl (tyG G) s) (hA : ∀ q : Nat, s.heap.size ≤ q → A q) (hT : ST G A s s.heap) {r : (Int32 × Md)} : ∀ (uS : Md) (x1 : (Fin 8)) (x2 : Int32) (y0 : Int32), fx_X6_takeNumber_24 uS x1 x2 y0 = some r → ∀ {H : Heap} {locs : List Loc}, va_P (gD G) vwCl (cS G bS uS) H → va_D A (cS G bS uS) → va_S A s.heap H locs → ∀ {ls : Array Slot}, lv_has ls 4 [(0, .ref (bS 0)), (1, .ref (gF G (x1).val)), (2, .int x2)] → W p l e rmx_X6_takeNumber s m args below meth c H locs 0 0 (MQ below (qW (some (.int r.1)) (cS G bS r.2) (gD G) (tyG G) A) args s 0 0 A) (F0 m 24 ls [.int y0]) := by
  have hx := C.1.1
  have hb := C.1.2.1
  have hts := C.1.2.2.2.2
  have hown := C.1.2.2.2.1
  have hin6 : ∀ w ∈ wsX60, w ∈ wsx_X6_takeNumber := fun w h => List.mem_cons_of_mem _ (List.mem_append_right _ (List.mem_append_right _ (List.mem_append_left _ h)))
  intro uS x1 x2 y0 hf H locs hP hD hS ls hl
  unfold fx_X6_takeNumber_24 at hf
  refine lv_istore_n (lv' := [(3, .int y0), (0, .ref (bS 0)), (1, .ref (gF G (x1).val)), (2, .int x2)]) hx hb dX6_takeNumber_24 rfl hl (by decide) rfl (fun ls hl => ?_)
  refine lv_iload_n hx hb dX6_takeNumber_25 rfl (lv_at hl 0 rfl) ?_
  refine lv_if_eq (tgt := 39) hx hb dX6_takeNumber_26 (by decide) (fun c_4 => ?_) (fun c_4 => ?_)
  · replace hf := og_t c_4 hf
    exact wx_X6_takeNumber_39 C hK hA hT uS x1 x2 y0 hf hP hD hS (lv_sub hl [1, 2, 3, 0] rfl)
  · replace hf := og_f c_4 hf
    refine lv_aload_n hx hb dX6_takeNumber_29 rfl (lv_at hl 1 rfl) ?_
    refine lv_dup hx hb dX6_takeNumber_30 rfl ?_
    refine xg (v := .int (gi uS 2)) (ci := 3) (K := RX6) (T := TX6) (N := 5) C hin6 hK hP 0 rfl rfl 2 (by decide) rfl (hts (Cond.fieldLink RX6 19 "SchematicText$Source" "at" "I") (List.mem_cons_of_mem _ mx_24)) rfl dX6_takeNumber_31 ?_
    refine lv_iconst (v := (1 : Int32)) hx hb dX6_takeNumber_34 (by decide) ?_
    refine lv_iadd hx hb dX6_takeNumber_35 ?_
    refine xp (v := .int ((gi uS 2) + (1 : Int32))) (w' := (cS G bS (si uS 2 ((gi uS 2) + (1 : Int32))))) (ci := 3) (K := RX6) (T := TX6) (N := 5) (ty := .int) C hin6 tyX6 tyX6_ok nmX6 hK hP hD hS 0 rfl rfl 2 (by decide) rfl (hts (Cond.fieldLink RX6 19 "SchematicText$Source" "at" "I") (List.mem_cons_of_mem _ mx_24)) rfl rfl rfl rfl (Nat.le_of_ble_eq_true rfl) dX6_takeNumber_36 hw_S_S_i2 (fun H locs hP hD hS => ?_)
    exact wx_X6_takeNumber_39 C hK hA hT (si uS 2 ((gi uS 2) + (1 : Int32))) x1 x2 y0 hf hP hD hS (lv_sub hl [1, 2, 3, 0] rfl)
def fx_X6_takeNumber (uS : Md) (x1 : (Fin 8)) : Option (Int32 × Md) := ((fx_X6_mark (sl uS (0 : Int64))).bind fun r_2 => (if r_2 = (45 : Int32) then (fx_X6_takeNumber_24 (sl uS (0 : Int64)) x1 (gi uS 2) (1 : Int32)) else (fx_X6_takeNumber_24 (sl uS (0 : Int64)) x1 (gi uS 2) (0 : Int32))))
set_option maxHeartbeats 4000000 in
set_option maxRecDepth 100000 in
theorem cx_X6_takeNumber (l : Launch) (G : Gx) (bS : Nat → Nat) (uS : Md) (x1 : (Fin 8)) (r : Int32) (vS : Md) (sz : Nat) (hf : fx_X6_takeNumber uS x1 = some (r, vS)) : Met l yX6_takeNumber wsx_X6_takeNumber rmx_X6_takeNumber (pX G (cS G bS uS) sz [.ref (bS 0), .ref (gF G (x1).val)]) (qW (some (.int r)) (cS G bS vS) (gD G) (tyG G) (va_A (cS G bS uS) sz)) 0 0 (va_A (cS G bS uS) sz) := by
  refine mx_w (cc := cX6_takeNumber) (maxL := 4) (ret := (some .boolean)) (by decide) rfl (Nat.le_of_ble_eq_true rfl) ?_
  intro p e s m below meth c ls A C hl hK hA hT hP hD hS
  have hl : lv_has ls 4 [(0, .ref (bS 0)), (1, .ref (gF G (x1).val))] := hl
  have hx := C.1.1
  have hb := C.1.2.1
  have hts := C.1.2.2.2.2
  have hown := C.1.2.2.2.1
  have hin6 : ∀ w ∈ wsX60, w ∈ wsx_X6_takeNumber := fun w h => List.mem_cons_of_mem _ (List.mem_append_right _ (List.mem_append_right _ (List.mem_append_left _ h)))
  unfold fx_X6_takeNumber at hf
  refine lv_aload_n hx hb dX6_takeNumber_0 rfl (lv_at hl 0 rfl) ?_
  refine xg (v := .int (gi uS 2)) (ci := 3) (K := RX6) (T := TX6) (N := 5) C hin6 hK hP 0 rfl rfl 2 (by decide) rfl (hts (Cond.fieldLink RX6 19 "SchematicText$Source" "at" "I") (List.mem_cons_of_mem _ mx_24)) rfl dX6_takeNumber_1 ?_
  refine lv_istore_n (lv' := [(2, .int (gi uS 2)), (0, .ref (bS 0)), (1, .ref (gF G (x1).val))]) hx hb dX6_takeNumber_4 rfl hl (by decide) rfl (fun ls hl => ?_)
  refine lv_aload_n hx hb dX6_takeNumber_5 rfl (lv_at hl 1 rfl) ?_
  refine lv_lconst (v := (0 : Int64)) hx hb dX6_takeNumber_6 (by decide) ?_
  refine xp (v := .long (0 : Int64)) (w' := (cS G bS (sl uS (0 : Int64)))) (ci := 3) (K := RX6) (T := TX6) (N := 5) (ty := .long) C hin6 tyX6 tyX6_ok nmX6 hK hP hD hS 0 rfl rfl 4 (by decide) rfl (hts (Cond.fieldLink RX6 25 "SchematicText$Source" "value" "J") (List.mem_cons_of_mem _ mx_220)) rfl rfl rfl rfl (Nat.le_of_ble_eq_true rfl) dX6_takeNumber_7 hw_S_S_l4 (fun H locs hP hD hS => ?_)
  refine lv_aload_n hx hb dX6_takeNumber_10 rfl (lv_at hl 1 rfl) ?_
  obtain ⟨r_2, h_1, hf⟩ := og_b hf
  try dsimp only at hf
  refine xr_V (v := .int r_2) (rest := []) (w0 := (cS G bS (sl uS (0 : Int64)))) C (cx_X6_mark l G bS (sl uS (0 : Int64)) r_2 _ h_1) (cwV 0 hts gx_X6_X6_mark_33 rfl rfl rfl hdx_X6_mark ⟨Nat.le_of_ble_eq_true rfl, Nat.le_of_ble_eq_true rfl⟩) hK hA hT hP hD hS (va_recv hK hP (ci := 3) (q0 := 0) rfl rfl) [0, 1] rfl rfl rfl hl.1 rfl (Nat.le_of_ble_eq_true rfl) dX6_takeNumber_11 ?_
  refine lv_bipush (v := (45 : Int32)) hx hb dX6_takeNumber_14 (by decide) ?_
  refine lv_icmp_ne (tgt := 23) hx hb dX6_takeNumber_16 (by decide) (fun c_3 => ?_) (fun c_3 => ?_)
  · replace hf := og_f c_3 hf
    refine lv_iconst (v := (0 : Int32)) hx hb dX6_takeNumber_23 (by decide) ?_
    exact wx_X6_takeNumber_24 C hK hA hT (sl uS (0 : Int64)) x1 (gi uS 2) (0 : Int32) hf hP hD hS (lv_sub hl [1, 2, 0] rfl)
  · replace hf := og_t c_3 hf
    refine lv_iconst (v := (1 : Int32)) hx hb dX6_takeNumber_19 (by decide) ?_
    refine lv_goto (tgt := 24) hx hb dX6_takeNumber_20 (by decide) ?_
    exact wx_X6_takeNumber_24 C hK hA hT (sl uS (0 : Int64)) x1 (gi uS 2) (1 : Int32) hf hP hD hS (lv_sub hl [1, 2, 0] rfl)
theorem gx_X6_X8_needsEscape_117 {c0 : Cond} : GoodIn (c0 :: WAX) wsx_X8_needsEscape := gdx_n mx_254
abbrev rmx_X6_passEscape : Room := { frames := 1, cells := 0, slots := 0, locals := 20 }
noncomputable abbrev wsx_X6_passEscape : List Cond := Cond.code yX6_passEscape cX6_passEscape 2 (some .boolean) :: WAX
theorem hdx_X6_passEscape : yX6_passEscape.cls = RX6 ∧ yX6_passEscape.cls ≠ "java/lang/invoke/MethodHandle" ∧ yX6_passEscape.cls ≠ "java/lang/invoke/VarHandle" ∧ (parseMethodDescriptor yX6_passEscape.desc).map (fun d => d.parameters.length) = some 1 := by decide +kernel
def fx_X6_passEscape (uS : Md) (x1 : Int32) : Option (Int32 × Md) := (if x1 ≤ ((gi uS 2) + (1 : Int32)) then (some ((0 : Int32), (si uS 2 ((gi uS 2) + (1 : Int32))))) else ((fx_X6_mark (si uS 2 ((gi uS 2) + (1 : Int32)))).bind fun r_3 => ((fx_X8_needsEscape r_3).bind fun r_5 => (if r_5 = 0 then (some ((0 : Int32), (si uS 2 ((gi uS 2) + (1 : Int32))))) else (some ((1 : Int32), (si uS 2 ((gi uS 2) + (1 : Int32)))))))))
set_option maxHeartbeats 4000000 in
set_option maxRecDepth 100000 in
theorem cx_X6_passEscape (l : Launch) (G : Gx) (bS : Nat → Nat) (uS : Md) (x1 : Int32) (r : Int32) (vS : Md) (sz : Nat) (hf : fx_X6_passEscape uS x1 = some (r, vS)) : Met l yX6_passEscape wsx_X6_passEscape rmx_X6_passEscape (pX G (cS G bS uS) sz [.ref (bS 0), .int x1]) (qW (some (.int r)) (cS G bS vS) (gD G) (tyG G) (va_A (cS G bS uS) sz)) 0 0 (va_A (cS G bS uS) sz) := by
  refine mx_w (cc := cX6_passEscape) (maxL := 2) (ret := (some .boolean)) (by decide) rfl (Nat.le_of_ble_eq_true rfl) ?_
  intro p e s m below meth c ls A C hl hK hA hT hP hD hS
  have hl : lv_has ls 2 [(0, .ref (bS 0)), (1, .int x1)] := hl
  have hx := C.1.1
  have hb := C.1.2.1
  have hts := C.1.2.2.2.2
  have hown := C.1.2.2.2.1
  have hin6 : ∀ w ∈ wsX60, w ∈ wsx_X6_passEscape := fun w h => List.mem_cons_of_mem _ (List.mem_append_right _ (List.mem_append_right _ (List.mem_append_left _ h)))
  unfold fx_X6_passEscape at hf
  refine lv_aload_n hx hb dX6_passEscape_0 rfl (lv_at hl 0 rfl) ?_
  refine lv_dup hx hb dX6_passEscape_1 rfl ?_
  refine xg (v := .int (gi uS 2)) (ci := 3) (K := RX6) (T := TX6) (N := 5) C hin6 hK hP 0 rfl rfl 2 (by decide) rfl (hts (Cond.fieldLink RX6 19 "SchematicText$Source" "at" "I") (List.mem_cons_of_mem _ mx_24)) rfl dX6_passEscape_2 ?_
  refine lv_iconst (v := (1 : Int32)) hx hb dX6_passEscape_5 (by decide) ?_
  refine lv_iadd hx hb dX6_passEscape_6 ?_
  refine xp (v := .int ((gi uS 2) + (1 : Int32))) (w' := (cS G bS (si uS 2 ((gi uS 2) + (1 : Int32))))) (ci := 3) (K := RX6) (T := TX6) (N := 5) (ty := .int) C hin6 tyX6 tyX6_ok nmX6 hK hP hD hS 0 rfl rfl 2 (by decide) rfl (hts (Cond.fieldLink RX6 19 "SchematicText$Source" "at" "I") (List.mem_cons_of_mem _ mx_24)) rfl rfl rfl rfl (Nat.le_of_ble_eq_true rfl) dX6_passEscape_7 hw_S_S_i2 (fun H locs hP hD hS => ?_)
  refine lv_aload_n hx hb dX6_passEscape_10 rfl (lv_at hl 0 rfl) ?_
  refine xg (v := .int ((gi uS 2) + (1 : Int32))) (ci := 3) (K := RX6) (T := TX6) (N := 5) C hin6 hK hP 0 rfl rfl 2 (by decide) rfl (hts (Cond.fieldLink RX6 19 "SchematicText$Source" "at" "I") (List.mem_cons_of_mem _ mx_24)) rfl dX6_passEscape_11 ?_
  refine lv_iload_n hx hb dX6_passEscape_14 rfl (lv_at hl 1 rfl) ?_
  refine lv_icmp_ge (tgt := 32) hx hb dX6_passEscape_15 (by decide) (fun c_1 => ?_) (fun c_1 => ?_)
  · replace hf := og_t c_1 hf
    refine lv_iconst (v := (0 : Int32)) hx hb dX6_passEscape_32 (by decide) ?_
    obtain ⟨rfl, rfl⟩ := pi2 (og_s hf)
    exact rw_z C hK hP hD hS (nz_z (Or.inl rfl)) dX6_passEscape_33
  · replace hf := og_f c_1 hf
    refine lv_aload_n hx hb dX6_passEscape_18 rfl (lv_at hl 0 rfl) ?_
    obtain ⟨r_3, h_2, hf⟩ := og_b hf
    try dsimp only at hf
    refine xr_V (v := .int r_3) (rest := []) (w0 := (cS G bS (si uS 2 ((gi uS 2) + (1 : Int32))))) C (cx_X6_mark l G bS (si uS 2 ((gi uS 2) + (1 : Int32))) r_3 _ h_2) (cwV 0 hts gx_X6_X6_mark_33 rfl rfl rfl hdx_X6_mark ⟨Nat.le_of_ble_eq_true rfl, Nat.le_of_ble_eq_true rfl⟩) hK hA hT hP hD hS (va_recv hK hP (ci := 3) (q0 := 0) rfl rfl) [0, 1] rfl rfl rfl hl.1 rfl (Nat.le_of_ble_eq_true rfl) dX6_passEscape_19 ?_
    obtain ⟨r_5, h_4, hf⟩ := og_b hf
    try dsimp only at hf
    refine xr_SN (v := .int r_5) (rest := []) C (cx_X8_needsEscape l G r_3 r_5 _ h_4) ⟨va_cnB 1 hts gx_X6_X8_needsEscape_117 rfl rfl rfl (hT.2.2.1 ("SchematicText$Source", 117, ⟨"SchematicText", "needsEscape", "(I)Z"⟩, "SchematicText") (by decide +kernel)) (hts (Cond.initialized RX8) (List.mem_cons_of_mem _ mx_32)) hdx_X8_needsEscape ⟨Nat.le_of_ble_eq_true rfl, Nat.le_of_ble_eq_true rfl⟩, hts (Cond.static yX8_needsEscape) (List.mem_cons_of_mem _ mx_253), trivial⟩ hK hA hT hP hD hS rfl hl.1 rfl (Nat.le_of_ble_eq_true rfl) dX6_passEscape_22 ?_
    refine lv_if_eq (tgt := 32) hx hb dX6_passEscape_25 (by decide) (fun c_6 => ?_) (fun c_6 => ?_)
    · replace hf := og_t c_6 hf
      refine lv_iconst (v := (0 : Int32)) hx hb dX6_passEscape_32 (by decide) ?_
      obtain ⟨rfl, rfl⟩ := pi2 (og_s hf)
      exact rw_z C hK hP hD hS (nz_z (Or.inl rfl)) dX6_passEscape_33
    · replace hf := og_f c_6 hf
      refine lv_iconst (v := (1 : Int32)) hx hb dX6_passEscape_28 (by decide) ?_
      refine lv_goto (tgt := 33) hx hb dX6_passEscape_29 (by decide) ?_
      obtain ⟨rfl, rfl⟩ := pi2 (og_s hf)
      exact rw_z C hK hP hD hS (nz_z (Or.inr rfl)) dX6_passEscape_33
