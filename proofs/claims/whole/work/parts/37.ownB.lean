abbrev rm8_kindOfObject_B : Room := { frames := 6, cells := 0, slots := 0, locals := 90 }
abbrev rm8t_kindOfObject_B : Room := { frames := 6, cells := 1, slots := 6, locals := 90 }
noncomputable abbrev ws8_kindOfObject_B : List Cond := Cond.code yX8_kindOfObject cX8_kindOfObject 2 (some (.object "SchematicText$Kind")) :: WA8
theorem hd8_kindOfObject_B : yX8_kindOfObject.cls = RX8 ∧ yX8_kindOfObject.cls ≠ "java/lang/invoke/MethodHandle" ∧ yX8_kindOfObject.cls ≠ "java/lang/invoke/VarHandle" ∧ (parseMethodDescriptor yX8_kindOfObject.desc).map (fun d => d.parameters.length) = some 1 := by decide +kernel
theorem g8_kindOfObject_B {c0 : Cond} : GoodIn (c0 :: WA8) (wsV RX8 70 RX8 yX8_kindOfObject ws8_kindOfObject_B) := gd8_v mx_505 mx_506 mx_507 mx_32 mx_508
def f8_kindOfObject_B (uX : Md) (uS : Md) (uT : Md) (uV : Md) (uP : Md) (x1 : Int32) : Option (Nat ⊕ (Fin 10)) := ((fx_X7_has uT x1).bind fun r_2 => (if r_2 = 0 then (some (Sum.inl 1)) else ((fx_X7_kindOf uT x1).bind fun r_5 => (some (Sum.inr r_5)))))
set_option maxHeartbeats 4000000 in
set_option maxRecDepth 100000 in
theorem c8_kindOfObject_B (l : Launch) (G : Gx) (bX bF bS bT bV bP : Nat → Nat) (uX : Md) (uS : Md) (uT : Md) (uV : Md) (uP : Md) (x1 : Int32) (r : (Fin 10)) (sz : Nat) (hf : f8_kindOfObject_B uX uS uT uV uP x1 = some (Sum.inr r)) : Met l yX8_kindOfObject ws8_kindOfObject_B rm8_kindOfObject_B (pX8 G (c8 1 G bX bF bS bT bV bP (bT 0) (bV 0) uX uS uT uV uP) sz [.ref (bX 0), .int x1]) (k2_QcV (.ref (gK G (r).val))) 0 0 (fun _ => False) := by
  refine mx8_r (cc := cX8_kindOfObject) (maxL := 2) (ret := (some (.object "SchematicText$Kind"))) (by decide) rfl (Nat.le_of_ble_eq_true rfl) ?_
  intro p e s m below meth c ls A C hl hK hA hT hP hD hS
  have hl : lv_has ls 2 [(0, .ref (bX 0)), (1, .int x1)] := hl
  have hx := C.1.1
  have hb := C.1.2.1
  have hts := C.1.2.2.2.2
  have hown := C.1.2.2.2.1
  have hin5 : ∀ w ∈ wsX50, w ∈ ws8_kindOfObject_B := fun w h => List.mem_cons_of_mem _ (m8 (List.mem_append_right _ (List.mem_append_left _ h)))
  have hin6 : ∀ w ∈ wsX60, w ∈ ws8_kindOfObject_B := fun w h => List.mem_cons_of_mem _ (m8 (List.mem_append_right _ (List.mem_append_right _ (List.mem_append_left _ h))))
  have hin7 : ∀ w ∈ wsX70, w ∈ ws8_kindOfObject_B := fun w h => List.mem_cons_of_mem _ (m8 (List.mem_append_right _ (List.mem_append_right _ (List.mem_append_right _ (List.mem_append_left _ h)))))
  have hin8 : ∀ w ∈ wsX80, w ∈ ws8_kindOfObject_B := fun w h => List.mem_cons_of_mem _ (m8 (List.mem_append_right _ (List.mem_append_right _ (List.mem_append_right _ (List.mem_append_right _ h)))))
  unfold f8_kindOfObject_B at hf
  refine lv_aload_n hx hb dX8_kindOfObject_0 rfl (lv_at hl 0 rfl) ?_
  refine xg (v := .ref (bT 0)) (ci := 5) (K := RX8) (T := TX8) (N := 6) C hin8 hK hP 0 rfl rfl 3 (by decide) rfl (hts (Cond.fieldLink RX8 36 "SchematicText" "tree" "LSchematicText$Tree;") (List.mem_cons_of_mem _ (m8 mx_479))) rfl dX8_kindOfObject_1 ?_
  refine lv_iload_n hx hb dX8_kindOfObject_4 rfl (lv_at hl 1 rfl) ?_
  obtain ⟨r_2, h_1, hf⟩ := og_b hf
  try dsimp only at hf
  refine xr_V (v := .int r_2) (rest := []) (w0 := (cT G bT uT)) C (cx_X7_has l G bT uT x1 r_2 _ h_1) (cwV 1 hts (gd8_m gx_X8_X7_has_79) rfl rfl rfl hdx_X7_has ⟨Nat.le_of_ble_eq_true rfl, Nat.le_of_ble_eq_true rfl⟩) hK hA hT.1 hP hD hS (va_recv hK hP (ci := 4) (q0 := 4) rfl rfl) [4, 5, 6, 7, 8, 9, 10, 11, 12, 13, 14, 15, 16] rfl rfl rfl hl.1 rfl (Nat.le_of_ble_eq_true rfl) dX8_kindOfObject_5 ?_
  refine lv_if_ne (tgt := 21) hx hb dX8_kindOfObject_8 (by decide) (fun c_3 => ?_) (fun c_3 => ?_)
  · replace hf := og_f c_3 hf
    refine lv_aload_n hx hb dX8_kindOfObject_21 rfl (lv_at hl 0 rfl) ?_
    refine xg (v := .ref (bT 0)) (ci := 5) (K := RX8) (T := TX8) (N := 6) C hin8 hK hP 0 rfl rfl 3 (by decide) rfl (hts (Cond.fieldLink RX8 36 "SchematicText" "tree" "LSchematicText$Tree;") (List.mem_cons_of_mem _ (m8 mx_479))) rfl dX8_kindOfObject_22 ?_
    refine lv_iload_n hx hb dX8_kindOfObject_25 rfl (lv_at hl 1 rfl) ?_
    obtain ⟨r_5, h_4, hf⟩ := og_b hf
    try dsimp only at hf
    refine xr_V (v := .ref (gK G (r_5).val)) (rest := []) (w0 := (cT G bT uT)) C (cx_X7_kindOf l G bT uT x1 r_5 _ h_4) (cwV 1 hts (gd8_m gx_X8_X7_kindOf_195) rfl rfl rfl hdx_X7_kindOf ⟨Nat.le_of_ble_eq_true rfl, Nat.le_of_ble_eq_true rfl⟩) hK hA hT.1 hP hD hS (va_recv hK hP (ci := 4) (q0 := 4) rfl rfl) [4, 5, 6, 7, 8, 9, 10, 11, 12, 13, 14, 15, 16] rfl rfl rfl hl.1 rfl (Nat.le_of_ble_eq_true rfl) dX8_kindOfObject_26 ?_
    obtain rfl := (Sum.inr.inj (og_s hf))
    exact rt_a C (Or.inl ⟨_, rfl⟩) dX8_kindOfObject_29
  · replace hf := og_t c_3 hf
    cases (og_s hf)
set_option maxHeartbeats 4000000 in
set_option maxRecDepth 100000 in
theorem t8_kindOfObject_B (l : Launch) (hL0 : l.stackTraces = false) (G : Gx) (bX bF bS bT bV bP : Nat → Nat) (uX : Md) (uS : Md) (uT : Md) (uV : Md) (uP : Md) (x1 : Int32) (ek : Nat) (sz : Nat) (hf : f8_kindOfObject_B uX uS uT uV uP x1 = some (Sum.inl ek)) : vx_Met l yX8_kindOfObject ws8_kindOfObject_B rm8t_kindOfObject_B (pX8 G (c8 1 G bX bF bS bT bV bP (bT 0) (bV 0) uX uS uT uV uP) sz [.ref (bX 0), .int x1]) Q0 (xc8 ek) 1 6 (fun _ => False) := by
  refine mx8_t (cc := cX8_kindOfObject) (maxL := 2) (ret := (some (.object "SchematicText$Kind"))) (by decide) rfl (Nat.le_of_ble_eq_true rfl) ?_
  intro p e s m below meth c ls A C hnt hl hK hA hT hP hD hS
  have hl : lv_has ls 2 [(0, .ref (bX 0)), (1, .int x1)] := hl
  have hx := C.1.1
  have hb := C.1.2.1
  have hts := C.1.2.2.2.2
  have hown := C.1.2.2.2.1
  have hin5 : ∀ w ∈ wsX50, w ∈ ws8_kindOfObject_B := fun w h => List.mem_cons_of_mem _ (m8 (List.mem_append_right _ (List.mem_append_left _ h)))
  have hin6 : ∀ w ∈ wsX60, w ∈ ws8_kindOfObject_B := fun w h => List.mem_cons_of_mem _ (m8 (List.mem_append_right _ (List.mem_append_right _ (List.mem_append_left _ h))))
  have hin7 : ∀ w ∈ wsX70, w ∈ ws8_kindOfObject_B := fun w h => List.mem_cons_of_mem _ (m8 (List.mem_append_right _ (List.mem_append_right _ (List.mem_append_right _ (List.mem_append_left _ h)))))
  have hin8 : ∀ w ∈ wsX80, w ∈ ws8_kindOfObject_B := fun w h => List.mem_cons_of_mem _ (m8 (List.mem_append_right _ (List.mem_append_right _ (List.mem_append_right _ (List.mem_append_right _ h)))))
  unfold f8_kindOfObject_B at hf
  refine lv_aload_n hx hb dX8_kindOfObject_0 rfl (lv_at hl 0 rfl) ?_
  refine xg (v := .ref (bT 0)) (ci := 5) (K := RX8) (T := TX8) (N := 6) C hin8 hK hP 0 rfl rfl 3 (by decide) rfl (hts (Cond.fieldLink RX8 36 "SchematicText" "tree" "LSchematicText$Tree;") (List.mem_cons_of_mem _ (m8 mx_479))) rfl dX8_kindOfObject_1 ?_
  refine lv_iload_n hx hb dX8_kindOfObject_4 rfl (lv_at hl 1 rfl) ?_
  obtain ⟨r_2, h_1, hf⟩ := og_b hf
  try dsimp only at hf
  refine xr_V (v := .int r_2) (rest := []) (w0 := (cT G bT uT)) C (cx_X7_has l G bT uT x1 r_2 _ h_1) (cwV 1 hts (gd8_m gx_X8_X7_has_79) rfl rfl rfl hdx_X7_has ⟨Nat.le_of_ble_eq_true rfl, Nat.le_of_ble_eq_true rfl⟩) hK hA hT.1 hP hD hS (va_recv hK hP (ci := 4) (q0 := 4) rfl rfl) [4, 5, 6, 7, 8, 9, 10, 11, 12, 13, 14, 15, 16] rfl rfl rfl hl.1 rfl (Nat.le_of_ble_eq_true rfl) dX8_kindOfObject_5 ?_
  refine lv_if_ne (tgt := 21) hx hb dX8_kindOfObject_8 (by decide) (fun c_3 => ?_) (fun c_3 => ?_)
  · replace hf := og_f c_3 hf
    refine lv_aload_n hx hb dX8_kindOfObject_21 rfl (lv_at hl 0 rfl) ?_
    refine xg (v := .ref (bT 0)) (ci := 5) (K := RX8) (T := TX8) (N := 6) C hin8 hK hP 0 rfl rfl 3 (by decide) rfl (hts (Cond.fieldLink RX8 36 "SchematicText" "tree" "LSchematicText$Tree;") (List.mem_cons_of_mem _ (m8 mx_479))) rfl dX8_kindOfObject_22 ?_
    refine lv_iload_n hx hb dX8_kindOfObject_25 rfl (lv_at hl 1 rfl) ?_
    obtain ⟨r_5, h_4, hf⟩ := og_b hf
    try dsimp only at hf
    refine xr_V (v := .ref (gK G (r_5).val)) (rest := []) (w0 := (cT G bT uT)) C (cx_X7_kindOf l G bT uT x1 r_5 _ h_4) (cwV 1 hts (gd8_m gx_X8_X7_kindOf_195) rfl rfl rfl hdx_X7_kindOf ⟨Nat.le_of_ble_eq_true rfl, Nat.le_of_ble_eq_true rfl⟩) hK hA hT.1 hP hD hS (va_recv hK hP (ci := 4) (q0 := 4) rfl rfl) [4, 5, 6, 7, 8, 9, 10, 11, 12, 13, 14, 15, 16] rfl rfl rfl hl.1 rfl (Nat.le_of_ble_eq_true rfl) dX8_kindOfObject_26 ?_
    cases (og_s hf)
  · replace hf := og_t c_3 hf
    obtain rfl := Sum.inl.inj (og_s hf)
    exact th8_1 (rest := []) (is := 84) (tx := "no such object") C hL0 hT hS hnt hl.1 (by decide +kernel) mx_509 mx_510 dX8_kindOfObject_11 dX8_kindOfObject_14 dX8_kindOfObject_15 dX8_kindOfObject_17 dX8_kindOfObject_20 (Nat.le_of_ble_eq_true rfl) (Nat.le_of_ble_eq_true rfl) (Nat.le_of_ble_eq_true rfl) (Nat.le_of_ble_eq_true rfl)
abbrev rm8_unit_B : Room := { frames := 2, cells := 0, slots := 0, locals := 41 }
noncomputable abbrev ws8_unit_B : List Cond := Cond.code yX8_unit cX8_unit 2 (some .boolean) :: WA8
theorem hd8_unit_B : yX8_unit.cls = RX8 ∧ yX8_unit.cls ≠ "java/lang/invoke/MethodHandle" ∧ yX8_unit.cls ≠ "java/lang/invoke/VarHandle" ∧ (parseMethodDescriptor yX8_unit.desc).map (fun d => d.parameters.length) = some 1 := by decide +kernel
def f8_unit_B (uX : Md) (uS : Md) (uT : Md) (uV : Md) (uP : Md) (x1 : Int32) : Option (Int32 × Md) := ((fx_X6_append uS x1).bind fun p_2 => ((if p_2.1 = 0 ∨ p_2.1 = 1 then some (p_2.1, p_2.2) else none)))
set_option maxHeartbeats 4000000 in
set_option maxRecDepth 100000 in
theorem c8_unit_B (l : Launch) (G : Gx) (bX bF bS bT bV bP : Nat → Nat) (uX : Md) (uS : Md) (uT : Md) (uV : Md) (uP : Md) (x1 : Int32) (r : Int32) (vS : Md) (sz : Nat) (hf : f8_unit_B uX uS uT uV uP x1 = some (r, vS)) : Met l yX8_unit ws8_unit_B rm8_unit_B (pX8 G (c8 1 G bX bF bS bT bV bP (bT 0) (bV 0) uX uS uT uV uP) sz [.ref (bX 0), .int x1]) (qW (some (.int r)) (c8 1 G bX bF bS bT bV bP (bT 0) (bV 0) uX vS uT uV uP) (gD G) (tyG G) (va_A (c8 1 G bX bF bS bT bV bP (bT 0) (bV 0) uX uS uT uV uP) sz)) 0 0 (va_A (c8 1 G bX bF bS bT bV bP (bT 0) (bV 0) uX uS uT uV uP) sz) := by
  refine mx8_w (cc := cX8_unit) (maxL := 2) (ret := (some .boolean)) (by decide) rfl (Nat.le_of_ble_eq_true rfl) ?_
  intro p e s m below meth c ls A C hl hK hA hT hP hD hS
  have hl : lv_has ls 2 [(0, .ref (bX 0)), (1, .int x1)] := hl
  have hx := C.1.1
  have hb := C.1.2.1
  have hts := C.1.2.2.2.2
  have hown := C.1.2.2.2.1
  have hin5 : ∀ w ∈ wsX50, w ∈ ws8_unit_B := fun w h => List.mem_cons_of_mem _ (m8 (List.mem_append_right _ (List.mem_append_left _ h)))
  have hin6 : ∀ w ∈ wsX60, w ∈ ws8_unit_B := fun w h => List.mem_cons_of_mem _ (m8 (List.mem_append_right _ (List.mem_append_right _ (List.mem_append_left _ h))))
  have hin7 : ∀ w ∈ wsX70, w ∈ ws8_unit_B := fun w h => List.mem_cons_of_mem _ (m8 (List.mem_append_right _ (List.mem_append_right _ (List.mem_append_right _ (List.mem_append_left _ h)))))
  have hin8 : ∀ w ∈ wsX80, w ∈ ws8_unit_B := fun w h => List.mem_cons_of_mem _ (m8 (List.mem_append_right _ (List.mem_append_right _ (List.mem_append_right _ (List.mem_append_right _ h)))))
  unfold f8_unit_B at hf
  refine lv_aload_n hx hb dX8_unit_0 rfl (lv_at hl 0 rfl) ?_
  refine xg (v := .ref (bS 0)) (ci := 5) (K := RX8) (T := TX8) (N := 6) C hin8 hK hP 0 rfl rfl 1 (by decide) rfl (hts (Cond.fieldLink RX8 22 "SchematicText" "source" "LSchematicText$Source;") (List.mem_cons_of_mem _ (m8 mx_473))) rfl dX8_unit_1 ?_
  refine lv_iload_n hx hb dX8_unit_4 rfl (lv_at hl 1 rfl) ?_
  obtain ⟨⟨r_2, u_3⟩, h_1, hf⟩ := og_b hf
  try dsimp only at hf
  refine xw_V (ov := (some (.int r_2))) (st1 := [.int r_2]) (rest := []) (w0 := (cS G bS uS)) (w1 := (cS G bS u_3)) (wr := ([(bX 0, .inr (5, fs8 bF bS bP (bT 0) (bV 0) uX))] ++ cF 1 bF ++ cT G bT uT ++ cT G bV uV ++ cP G bP uP)) (w' := (c8 1 G bX bF bS bT bV bP (bT 0) (bV 0) uX u_3 uT uV uP)) C (cx_X6_append l G bS uS x1 r_2 u_3 _ h_1) (cwV 1 hts (gd8_m gx_X8_X6_append_47) rfl rfl rfl hdx_X6_append ⟨Nat.le_of_ble_eq_true rfl, Nat.le_of_ble_eq_true rfl⟩) hK hA hT.1 hP hD hS (va_recv hK hP (ci := 3) (q0 := 2) rfl rfl) [2, 3] [0, 1, 4, 5, 6, 7, 8, 9, 10, 11, 12, 13, 14, 15, 16, 17, 18, 19, 20, 21, 22, 23, 24, 25, 26, 27, 28, 29, 30, 31] [0, 1, 30, 31, 2, 3, 4, 5, 6, 7, 8, 9, 10, 11, 12, 13, 14, 15, 16, 17, 18, 19, 20, 21, 22, 23, 24, 25, 26, 27, 28, 29] rfl rfl rfl rfl (by decide) rfl rfl rfl hl.1 rfl rfl (Nat.le_of_ble_eq_true rfl) dX8_unit_5 (fun H locs hP hD hS => ?_)
  obtain ⟨h_4, hf⟩ := og_p hf
  obtain ⟨rfl, rfl⟩ := pi2 (og_s hf)
  exact rw_z C hK hP hD hS (nz_z h_4) dX8_unit_8
theorem gx_X8_X4_take_B_57 {c0 : Cond} : GoodIn (c0 :: WAX) (va_wsU RX8 57 RX4 "SchematicText$Form" ⟨"SchematicText$Form", "take", "(LSchematicText$Source;LSchematicText$Tree;)Z"⟩ yX4_take wsx_X4_take_B) := gdx_u mx_498 mx_499 mx_502 mx_503 mx_209 mx_403
abbrev rm8_read_B : Room := { frames := 10, cells := 0, slots := 0, locals := 229 }
noncomputable abbrev ws8_read_B : List Cond := Cond.code yX8_read cX8_read 2 (some .int) :: WA8
theorem hd8_read_B : yX8_read.cls = RX8 ∧ yX8_read.cls ≠ "java/lang/invoke/MethodHandle" ∧ yX8_read.cls ≠ "java/lang/invoke/VarHandle" ∧ (parseMethodDescriptor yX8_read.desc).map (fun d => d.parameters.length) = some 0 := by decide +kernel
def f8_read_B (uX : Md) (uS : Md) (uT : Md) (uV : Md) (uP : Md) : Option (Int32 × Bool × Md × Md × Md × Md) := ((fx_X7_forget uV).bind fun u_2 => ((fx_X6_rewind uS).bind fun u_4 => ((fx_X4_take_B u_4 u_2).bind fun p_6 => (if p_6.1 = 0 then (some (((-1 : Int32) - (gi p_6.2.1 3)), false, uX, p_6.2.1, uT, p_6.2.2)) else (some ((gi p_6.2.2 13), true, (si uX 5 (0 : Int32)), p_6.2.1, p_6.2.2, uT))))))
set_option maxHeartbeats 4000000 in
set_option maxRecDepth 100000 in
theorem c8_read_B (l : Launch) (G : Gx) (bX bF bS bT bV bP : Nat → Nat) (uX : Md) (uS : Md) (uT : Md) (uV : Md) (uP : Md) (r : Int32) (sw : Bool) (vX : Md) (vS : Md) (vT : Md) (vV : Md) (sz : Nat) (hf : f8_read_B uX uS uT uV uP  = some (r, sw, vX, vS, vT, vV)) : Met l yX8_read ws8_read_B rm8_read_B (pX8 G (c8 1 G bX bF bS bT bV bP (bT 0) (bV 0) uX uS uT uV uP) sz [.ref (bX 0)]) (qW (some (.int r)) (c8 1 G bX bF bS (bif sw then bV else bT) (bif sw then bT else bV) bP ((bif sw then bV else bT) 0) ((bif sw then bT else bV) 0) vX vS vT vV uP) (gD G) (tyG G) (va_A (c8 1 G bX bF bS bT bV bP (bT 0) (bV 0) uX uS uT uV uP) sz)) 0 0 (va_A (c8 1 G bX bF bS bT bV bP (bT 0) (bV 0) uX uS uT uV uP) sz) := by
  refine mx8_w (cc := cX8_read) (maxL := 2) (ret := (some .int)) (by decide) rfl (Nat.le_of_ble_eq_true rfl) ?_
  intro p e s m below meth c ls A C hl hK hA hT hP hD hS
  have hl : lv_has ls 2 [(0, .ref (bX 0))] := hl
  have hx := C.1.1
  have hb := C.1.2.1
  have hts := C.1.2.2.2.2
  have hown := C.1.2.2.2.1
  have hin5 : ∀ w ∈ wsX50, w ∈ ws8_read_B := fun w h => List.mem_cons_of_mem _ (m8 (List.mem_append_right _ (List.mem_append_left _ h)))
  have hin6 : ∀ w ∈ wsX60, w ∈ ws8_read_B := fun w h => List.mem_cons_of_mem _ (m8 (List.mem_append_right _ (List.mem_append_right _ (List.mem_append_left _ h))))
  have hin7 : ∀ w ∈ wsX70, w ∈ ws8_read_B := fun w h => List.mem_cons_of_mem _ (m8 (List.mem_append_right _ (List.mem_append_right _ (List.mem_append_right _ (List.mem_append_left _ h)))))
  have hin8 : ∀ w ∈ wsX80, w ∈ ws8_read_B := fun w h => List.mem_cons_of_mem _ (m8 (List.mem_append_right _ (List.mem_append_right _ (List.mem_append_right _ (List.mem_append_right _ h)))))
  unfold f8_read_B at hf
  refine lv_aload_n hx hb dX8_read_0 rfl (lv_at hl 0 rfl) ?_
  refine xg (v := .ref (bV 0)) (ci := 5) (K := RX8) (T := TX8) (N := 6) C hin8 hK hP 0 rfl rfl 4 (by decide) rfl (hts (Cond.fieldLink RX8 40 "SchematicText" "spare" "LSchematicText$Tree;") (List.mem_cons_of_mem _ (m8 mx_480))) rfl dX8_read_1 ?_
  obtain ⟨u_2, h_1, hf⟩ := og_b hf
  try dsimp only at hf
  refine xw_V (ov := none) (st1 := []) (rest := []) (w0 := (cT G bV uV)) (w1 := (cT G bV u_2)) (wr := ([(bX 0, .inr (5, fs8 bF bS bP (bT 0) (bV 0) uX))] ++ cF 1 bF ++ cS G bS uS ++ cT G bT uT ++ cP G bP uP)) (w' := (c8 1 G bX bF bS bT bV bP (bT 0) (bV 0) uX uS uT u_2 uP)) C (cx_X7_forget l G bV uV u_2 _ h_1) (cwV 0 hts (gd8_m gx_X8_X7_forget_51) rfl rfl rfl hdx_X7_forget ⟨Nat.le_of_ble_eq_true rfl, Nat.le_of_ble_eq_true rfl⟩) hK hA hT.1 hP hD hS (va_recv hK hP (ci := 4) (q0 := 17) rfl rfl) [17, 18, 19, 20, 21, 22, 23, 24, 25, 26, 27, 28, 29] [0, 1, 2, 3, 4, 5, 6, 7, 8, 9, 10, 11, 12, 13, 14, 15, 16, 30, 31] [0, 1, 2, 3, 4, 5, 6, 7, 8, 9, 10, 11, 12, 13, 14, 15, 16, 19, 20, 21, 22, 23, 24, 25, 26, 27, 28, 29, 30, 31, 17, 18] rfl rfl rfl rfl (by decide) rfl rfl rfl hl.1 rfl rfl (Nat.le_of_ble_eq_true rfl) dX8_read_4 (fun H locs hP hD hS => ?_)
  refine lv_aload_n hx hb dX8_read_7 rfl (lv_at hl 0 rfl) ?_
  refine xg (v := .ref (bS 0)) (ci := 5) (K := RX8) (T := TX8) (N := 6) C hin8 hK hP 0 rfl rfl 1 (by decide) rfl (hts (Cond.fieldLink RX8 22 "SchematicText" "source" "LSchematicText$Source;") (List.mem_cons_of_mem _ (m8 mx_473))) rfl dX8_read_8 ?_
  obtain ⟨u_4, h_3, hf⟩ := og_b hf
  try dsimp only at hf
  refine xw_V (ov := none) (st1 := []) (rest := []) (w0 := (cS G bS uS)) (w1 := (cS G bS u_4)) (wr := ([(bX 0, .inr (5, fs8 bF bS bP (bT 0) (bV 0) uX))] ++ cF 1 bF ++ cT G bT uT ++ cT G bV u_2 ++ cP G bP uP)) (w' := (c8 1 G bX bF bS bT bV bP (bT 0) (bV 0) uX u_4 uT u_2 uP)) C (cx_X6_rewind l G bS uS u_4 _ h_3) (cwV 0 hts (gd8_m gx_X8_X6_rewind_54) rfl rfl rfl hdx_X6_rewind ⟨Nat.le_of_ble_eq_true rfl, Nat.le_of_ble_eq_true rfl⟩) hK hA hT.1 hP hD hS (va_recv hK hP (ci := 3) (q0 := 2) rfl rfl) [2, 3] [0, 1, 4, 5, 6, 7, 8, 9, 10, 11, 12, 13, 14, 15, 16, 17, 18, 19, 20, 21, 22, 23, 24, 25, 26, 27, 28, 29, 30, 31] [0, 1, 30, 31, 2, 3, 4, 5, 6, 7, 8, 9, 10, 11, 12, 13, 14, 15, 16, 17, 18, 19, 20, 21, 22, 23, 24, 25, 26, 27, 28, 29] rfl rfl rfl rfl (by decide) rfl rfl rfl hl.1 rfl rfl (Nat.le_of_ble_eq_true rfl) dX8_read_11 (fun H locs hP hD hS => ?_)
  refine lv_aload_n hx hb dX8_read_14 rfl (lv_at hl 0 rfl) ?_
  refine xg (v := .ref (bF 0)) (ci := 5) (K := RX8) (T := TX8) (N := 6) C hin8 hK hP 0 rfl rfl 0 (by decide) rfl (hts (Cond.fieldLink RX8 13 "SchematicText" "form" "LSchematicText$Form;") (List.mem_cons_of_mem _ (m8 mx_470))) rfl dX8_read_15 ?_
  refine lv_aload_n hx hb dX8_read_18 rfl (lv_at hl 0 rfl) ?_
  refine xg (v := .ref (bS 0)) (ci := 5) (K := RX8) (T := TX8) (N := 6) C hin8 hK hP 0 rfl rfl 1 (by decide) rfl (hts (Cond.fieldLink RX8 22 "SchematicText" "source" "LSchematicText$Source;") (List.mem_cons_of_mem _ (m8 mx_473))) rfl dX8_read_19 ?_
  refine lv_aload_n hx hb dX8_read_22 rfl (lv_at hl 0 rfl) ?_
  refine xg (v := .ref (bV 0)) (ci := 5) (K := RX8) (T := TX8) (N := 6) C hin8 hK hP 0 rfl rfl 4 (by decide) rfl (hts (Cond.fieldLink RX8 40 "SchematicText" "spare" "LSchematicText$Tree;") (List.mem_cons_of_mem _ (m8 mx_480))) rfl dX8_read_23 ?_
  obtain ⟨⟨r_6, u_7, u_8⟩, h_5, hf⟩ := og_b hf
  try dsimp only at hf
  refine xw_U (ov := (some (.int r_6))) (st1 := [.int r_6]) (rest := []) (w0 := (cF 1 bF ++ cS G bS u_4 ++ cT G bV u_2)) (w1 := (cF 1 bF ++ cS G bS u_7 ++ cT G bV u_8)) (wr := ([(bX 0, .inr (5, fs8 bF bS bP (bT 0) (bV 0) uX))] ++ cT G bT uT ++ cP G bP uP)) (w' := (c8 1 G bX bF bS bT bV bP (bT 0) (bV 0) uX u_7 uT u_8 uP)) C (cx_X4_take_B l G bF bS bV u_4 u_2 r_6 u_7 u_8 _ h_5) (va_cwA 2 hts (gd8_m gx_X8_X4_take_B_57) rfl rfl rfl (hT.1.2.2.2 _ (by decide +kernel)) hdo_X4_take_B ⟨Nat.le_of_ble_eq_true rfl, Nat.le_of_ble_eq_true rfl⟩) hK hA hT.1 hP hD hS (va_recv hK hP (ci := 1) (q0 := 1) rfl rfl) [1, 2, 3, 17, 18, 19, 20, 21, 22, 23, 24, 25, 26, 27, 28, 29] [0, 4, 5, 6, 7, 8, 9, 10, 11, 12, 13, 14, 15, 16, 30, 31] [0, 16, 17, 18, 1, 2, 3, 4, 5, 6, 7, 8, 9, 10, 11, 12, 13, 19, 20, 21, 22, 23, 24, 25, 26, 27, 28, 29, 30, 31, 14, 15] rfl rfl rfl rfl (by decide) rfl rfl rfl hl.1 rfl rfl (Nat.le_of_ble_eq_true rfl) dX8_read_26 (fun H locs hP hD hS => ?_)
  refine lv_if_ne (tgt := 42) hx hb dX8_read_29 (by decide) (fun c_9 => ?_) (fun c_9 => ?_)
  · replace hf := og_f c_9 hf
    refine lv_aload_n hx hb dX8_read_42 rfl (lv_at hl 0 rfl) ?_
    refine xg (v := .ref (bT 0)) (ci := 5) (K := RX8) (T := TX8) (N := 6) C hin8 hK hP 0 rfl rfl 3 (by decide) rfl (hts (Cond.fieldLink RX8 36 "SchematicText" "tree" "LSchematicText$Tree;") (List.mem_cons_of_mem _ (m8 mx_479))) rfl dX8_read_43 ?_
    refine lv_astore_n (lv' := [(1, .ref (bT 0)), (0, .ref (bX 0))]) hx hb dX8_read_46 rfl hl (by decide) rfl (fun ls hl => ?_)
    refine lv_aload_n hx hb dX8_read_47 rfl (lv_at hl 1 rfl) ?_
    refine lv_aload_n hx hb dX8_read_48 rfl (lv_at hl 1 rfl) ?_
    refine xg (v := .ref (bV 0)) (ci := 5) (K := RX8) (T := TX8) (N := 6) C hin8 hK hP 0 rfl rfl 4 (by decide) rfl (hts (Cond.fieldLink RX8 40 "SchematicText" "spare" "LSchematicText$Tree;") (List.mem_cons_of_mem _ (m8 mx_480))) rfl dX8_read_49 ?_
    refine xp (v := .ref (bV 0)) (w' := (c8 1 G bX bF bS bT bV bP (bV 0) (bV 0) uX u_7 uT u_8 uP)) (ci := 5) (K := RX8) (T := TX8) (N := 6) (ty := (.object "SchematicText$Tree")) C hin8 tyX8 tyX8_ok nmX8 hK hP hD hS 0 rfl rfl 3 (by decide) rfl (hts (Cond.fieldLink RX8 36 "SchematicText" "tree" "LSchematicText$Tree;") (List.mem_cons_of_mem _ (m8 mx_479))) rfl rfl rfl rfl (Nat.le_of_ble_eq_true rfl) dX8_read_52 hw8_t (fun H locs hP hD hS => ?_)
    refine lv_aload_n hx hb dX8_read_55 rfl (lv_at hl 1 rfl) ?_
    refine lv_aload_n hx hb dX8_read_56 rfl (lv_at hl 0 rfl) ?_
    refine xp (v := .ref (bT 0)) (w' := (c8 1 G bX bF bS bT bV bP (bV 0) (bT 0) uX u_7 uT u_8 uP)) (ci := 5) (K := RX8) (T := TX8) (N := 6) (ty := (.object "SchematicText$Tree")) C hin8 tyX8 tyX8_ok nmX8 hK hP hD hS 0 rfl rfl 4 (by decide) rfl (hts (Cond.fieldLink RX8 40 "SchematicText" "spare" "LSchematicText$Tree;") (List.mem_cons_of_mem _ (m8 mx_480))) rfl rfl rfl rfl (Nat.le_of_ble_eq_true rfl) dX8_read_57 hw8_v (fun H locs hP hD hS => ?_)
    refine lv_aload_n hx hb dX8_read_60 rfl (lv_at hl 1 rfl) ?_
    refine lv_iconst (v := (0 : Int32)) hx hb dX8_read_61 (by decide) ?_
    refine xp (v := .int (0 : Int32)) (w' := (c8 1 G bX bF bS bT bV bP (bV 0) (bT 0) (si uX 5 (0 : Int32)) u_7 uT u_8 uP)) (ci := 5) (K := RX8) (T := TX8) (N := 6) (ty := .boolean) C hin8 tyX8 tyX8_ok nmX8 hK hP hD hS 0 rfl rfl 5 (by decide) rfl (hts (Cond.fieldLink RX8 43 "SchematicText" "pageHolds" "Z") (List.mem_cons_of_mem _ (m8 mx_481))) rfl rfl (nz_z (Or.inl rfl)) (nz_f (Or.inl rfl)) (Nat.le_of_ble_eq_true rfl) dX8_read_62 hw8_h (fun H locs hP hD hS => ?_)
    refine lv_aload_n hx hb dX8_read_65 rfl (lv_at hl 1 rfl) ?_
    refine xg (v := .ref (bV 0)) (ci := 5) (K := RX8) (T := TX8) (N := 6) C hin8 hK hP 0 rfl rfl 3 (by decide) rfl (hts (Cond.fieldLink RX8 36 "SchematicText" "tree" "LSchematicText$Tree;") (List.mem_cons_of_mem _ (m8 mx_479))) rfl dX8_read_66 ?_
    refine xgN (v := .int (gi u_8 13)) (ci := 4) (K := RX7) (T := TX7) (N := 16) (host := "SchematicText") C hT.1 hin7 hK hP 17 rfl rfl 13 (by decide) rfl (by decide +kernel) rfl dX8_read_69 ?_
    obtain ⟨rfl, rfl, rfl, rfl, rfl, rfl⟩ := pi6 (og_s hf)
    replace hP := pl_P (w0 := (c8 1 G bX bF bS bV bT bP (bV 0) (bT 0) (si uX 5 (0 : Int32)) u_7 u_8 uT uP)) (isC := [0, 1, 2, 3, 17, 18, 19, 20, 21, 22, 23, 24, 25, 26, 27, 28, 29, 4, 5, 6, 7, 8, 9, 10, 11, 12, 13, 14, 15, 16, 30, 31]) hP rfl
    replace hD := hD.sub (ws' := (c8 1 G bX bF bS bV bT bP (bV 0) (bT 0) (si uX 5 (0 : Int32)) u_7 u_8 uT uP)) [0, 1, 2, 3, 17, 18, 19, 20, 21, 22, 23, 24, 25, 26, 27, 28, 29, 4, 5, 6, 7, 8, 9, 10, 11, 12, 13, 14, 15, 16, 30, 31] rfl rfl
    exact rw_i C hK hP hD hS dX8_read_72
  · replace hf := og_t c_9 hf
    refine lv_iconst (v := (-1 : Int32)) hx hb dX8_read_32 (by decide) ?_
    refine lv_aload_n hx hb dX8_read_33 rfl (lv_at hl 0 rfl) ?_
    refine xg (v := .ref (bS 0)) (ci := 5) (K := RX8) (T := TX8) (N := 6) C hin8 hK hP 0 rfl rfl 1 (by decide) rfl (hts (Cond.fieldLink RX8 22 "SchematicText" "source" "LSchematicText$Source;") (List.mem_cons_of_mem _ (m8 mx_473))) rfl dX8_read_34 ?_
    refine xgN (v := .int (gi u_7 3)) (ci := 3) (K := RX6) (T := TX6) (N := 5) (host := "SchematicText") C hT.1 hin6 hK hP 2 rfl rfl 3 (by decide) rfl (by decide +kernel) rfl dX8_read_37 ?_
    refine lv_isub hx hb dX8_read_40 ?_
    obtain ⟨rfl, rfl, rfl, rfl, rfl, rfl⟩ := pi6 (og_s hf)
    exact rw_i C hK hP hD hS dX8_read_41
abbrev rm8_kind_B : Room := { frames := 7, cells := 0, slots := 0, locals := 111 }
abbrev rm8t_kind_B : Room := { frames := 7, cells := 1, slots := 6, locals := 111 }
noncomputable abbrev ws8_kind_B : List Cond := Cond.code yX8_kind cX8_kind 2 (some .int) :: WA8
theorem hd8_kind_B : yX8_kind.cls = RX8 ∧ yX8_kind.cls ≠ "java/lang/invoke/MethodHandle" ∧ yX8_kind.cls ≠ "java/lang/invoke/VarHandle" ∧ (parseMethodDescriptor yX8_kind.desc).map (fun d => d.parameters.length) = some 1 := by decide +kernel
def f8_kind_B (uX : Md) (uS : Md) (uT : Md) (uV : Md) (uP : Md) (x1 : Int32) : Option (Nat ⊕ Int32) := ((f8_kindOfObject_B uX uS uT uV uP x1).bind fun q_1 => Sum.elim (fun e9 => some (Sum.inl e9)) (fun k_4 => (some (Sum.inr (kNum k_4)))) q_1)
set_option maxHeartbeats 4000000 in
set_option maxRecDepth 100000 in
theorem c8_kind_B (l : Launch) (G : Gx) (bX bF bS bT bV bP : Nat → Nat) (uX : Md) (uS : Md) (uT : Md) (uV : Md) (uP : Md) (x1 : Int32) (r : Int32) (sz : Nat) (hf : f8_kind_B uX uS uT uV uP x1 = some (Sum.inr r)) : Met l yX8_kind ws8_kind_B rm8_kind_B (pX8 G (c8 1 G bX bF bS bT bV bP (bT 0) (bV 0) uX uS uT uV uP) sz [.ref (bX 0), .int x1]) (k2_QcV (.int r)) 0 0 (fun _ => False) := by
  refine mx8_r (cc := cX8_kind) (maxL := 2) (ret := (some .int)) (by decide) rfl (Nat.le_of_ble_eq_true rfl) ?_
  intro p e s m below meth c ls A C hl hK hA hT hP hD hS
  have hl : lv_has ls 2 [(0, .ref (bX 0)), (1, .int x1)] := hl
  have hx := C.1.1
  have hb := C.1.2.1
  have hts := C.1.2.2.2.2
  have hown := C.1.2.2.2.1
  have hin5 : ∀ w ∈ wsX50, w ∈ ws8_kind_B := fun w h => List.mem_cons_of_mem _ (m8 (List.mem_append_right _ (List.mem_append_left _ h)))
  have hin6 : ∀ w ∈ wsX60, w ∈ ws8_kind_B := fun w h => List.mem_cons_of_mem _ (m8 (List.mem_append_right _ (List.mem_append_right _ (List.mem_append_left _ h))))
  have hin7 : ∀ w ∈ wsX70, w ∈ ws8_kind_B := fun w h => List.mem_cons_of_mem _ (m8 (List.mem_append_right _ (List.mem_append_right _ (List.mem_append_right _ (List.mem_append_left _ h)))))
  have hin8 : ∀ w ∈ wsX80, w ∈ ws8_kind_B := fun w h => List.mem_cons_of_mem _ (m8 (List.mem_append_right _ (List.mem_append_right _ (List.mem_append_right _ (List.mem_append_right _ h)))))
  unfold f8_kind_B at hf
  refine lv_aload_n hx hb dX8_kind_0 rfl (lv_at hl 0 rfl) ?_
  refine lv_iload_n hx hb dX8_kind_1 rfl (lv_at hl 1 rfl) ?_
  obtain ⟨q_1, h_2, hf⟩ := og_b hf
  rcases q_1 with e_3 | k_4
  · dsimp only [Sum.elim_inl] at hf
    cases (og_s hf)
  · dsimp only [Sum.elim_inr] at hf
    refine xr8_V (v := .ref (gK G (k_4).val)) (rest := []) (w0 := (c8 1 G bX bF bS bT bV bP (bT 0) (bV 0) uX uS uT uV uP)) C (c8_kindOfObject_B l G bX bF bS bT bV bP uX uS uT uV uP x1 k_4 _ h_2) (cwV 1 hts g8_kindOfObject_B rfl rfl rfl hd8_kindOfObject_B ⟨Nat.le_of_ble_eq_true rfl, Nat.le_of_ble_eq_true rfl⟩) hK hA hT hP hD hS (va_recv hK hP (ci := 5) (q0 := 0) rfl rfl) [0, 1, 2, 3, 4, 5, 6, 7, 8, 9, 10, 11, 12, 13, 14, 15, 16, 17, 18, 19, 20, 21, 22, 23, 24, 25, 26, 27, 28, 29, 30, 31] rfl rfl rfl hl.1 rfl (Nat.le_of_ble_eq_true rfl) dX8_kind_2 ?_
    refine xoN (v := .int (kNum k_4)) (host := "SchematicText") C hT.1 ((hT.1.1.2.2.2.2.1.1 (k_4).val (k_4).isLt).2.2 _ List.mem_cons_self) hS (by decide +kernel) dX8_kind_5 ?_
    obtain rfl := (Sum.inr.inj (og_s hf))
    exact rt_i C dX8_kind_8
set_option maxHeartbeats 4000000 in
set_option maxRecDepth 100000 in
theorem t8_kind_B (l : Launch) (hL0 : l.stackTraces = false) (G : Gx) (bX bF bS bT bV bP : Nat → Nat) (uX : Md) (uS : Md) (uT : Md) (uV : Md) (uP : Md) (x1 : Int32) (ek : Nat) (sz : Nat) (hf : f8_kind_B uX uS uT uV uP x1 = some (Sum.inl ek)) : vx_Met l yX8_kind ws8_kind_B rm8t_kind_B (pX8 G (c8 1 G bX bF bS bT bV bP (bT 0) (bV 0) uX uS uT uV uP) sz [.ref (bX 0), .int x1]) Q0 (xc8 ek) 1 6 (fun _ => False) := by
  refine mx8_t (cc := cX8_kind) (maxL := 2) (ret := (some .int)) (by decide) rfl (Nat.le_of_ble_eq_true rfl) ?_
  intro p e s m below meth c ls A C hnt hl hK hA hT hP hD hS
  have hl : lv_has ls 2 [(0, .ref (bX 0)), (1, .int x1)] := hl
  have hx := C.1.1
  have hb := C.1.2.1
  have hts := C.1.2.2.2.2
  have hown := C.1.2.2.2.1
  have hin5 : ∀ w ∈ wsX50, w ∈ ws8_kind_B := fun w h => List.mem_cons_of_mem _ (m8 (List.mem_append_right _ (List.mem_append_left _ h)))
  have hin6 : ∀ w ∈ wsX60, w ∈ ws8_kind_B := fun w h => List.mem_cons_of_mem _ (m8 (List.mem_append_right _ (List.mem_append_right _ (List.mem_append_left _ h))))
  have hin7 : ∀ w ∈ wsX70, w ∈ ws8_kind_B := fun w h => List.mem_cons_of_mem _ (m8 (List.mem_append_right _ (List.mem_append_right _ (List.mem_append_right _ (List.mem_append_left _ h)))))
  have hin8 : ∀ w ∈ wsX80, w ∈ ws8_kind_B := fun w h => List.mem_cons_of_mem _ (m8 (List.mem_append_right _ (List.mem_append_right _ (List.mem_append_right _ (List.mem_append_right _ h)))))
  unfold f8_kind_B at hf
  refine lv_aload_n hx hb dX8_kind_0 rfl (lv_at hl 0 rfl) ?_
  refine lv_iload_n hx hb dX8_kind_1 rfl (lv_at hl 1 rfl) ?_
  obtain ⟨q_1, h_2, hf⟩ := og_b hf
  rcases q_1 with e_3 | k_4
  · dsimp only [Sum.elim_inl] at hf
    obtain rfl := Sum.inl.inj (og_s hf)
    exact xt8_V (w0 := (c8 1 G bX bF bS bT bV bP (bT 0) (bV 0) uX uS uT uV uP)) (rest := []) C hnt (t8_kindOfObject_B l hL0 G bX bF bS bT bV bP uX uS uT uV uP x1 e_3 _ h_2) (cwV 1 hts g8_kindOfObject_B rfl rfl rfl hd8_kindOfObject_B ⟨Nat.le_of_ble_eq_true rfl, Nat.le_of_ble_eq_true rfl⟩) hK hA hT hP hD hS (va_recv hK hP (ci := 5) (q0 := 0) rfl rfl) [0, 1, 2, 3, 4, 5, 6, 7, 8, 9, 10, 11, 12, 13, 14, 15, 16, 17, 18, 19, 20, 21, 22, 23, 24, 25, 26, 27, 28, 29, 30, 31] rfl rfl rfl hl.1 rfl (Nat.le_of_ble_eq_true rfl) ⟨Nat.le_of_ble_eq_true rfl, Nat.le_of_ble_eq_true rfl⟩ dX8_kind_2
  · dsimp only [Sum.elim_inr] at hf
    refine xr8_V (v := .ref (gK G (k_4).val)) (rest := []) (w0 := (c8 1 G bX bF bS bT bV bP (bT 0) (bV 0) uX uS uT uV uP)) C (c8_kindOfObject_B l G bX bF bS bT bV bP uX uS uT uV uP x1 k_4 _ h_2) (cwV 1 hts g8_kindOfObject_B rfl rfl rfl hd8_kindOfObject_B ⟨Nat.le_of_ble_eq_true rfl, Nat.le_of_ble_eq_true rfl⟩) hK hA hT hP hD hS (va_recv hK hP (ci := 5) (q0 := 0) rfl rfl) [0, 1, 2, 3, 4, 5, 6, 7, 8, 9, 10, 11, 12, 13, 14, 15, 16, 17, 18, 19, 20, 21, 22, 23, 24, 25, 26, 27, 28, 29, 30, 31] rfl rfl rfl hl.1 rfl (Nat.le_of_ble_eq_true rfl) dX8_kind_2 ?_
    refine xoN (v := .int (kNum k_4)) (host := "SchematicText") C hT.1 ((hT.1.1.2.2.2.2.1.1 (k_4).val (k_4).isLt).2.2 _ List.mem_cons_self) hS (by decide +kernel) dX8_kind_5 ?_
    cases (og_s hf)
abbrev rm8_parent_B : Room := { frames := 6, cells := 0, slots := 0, locals := 90 }
abbrev rm8t_parent_B : Room := { frames := 6, cells := 1, slots := 6, locals := 90 }
noncomputable abbrev ws8_parent_B : List Cond := Cond.code yX8_parent cX8_parent 2 (some .int) :: WA8
theorem hd8_parent_B : yX8_parent.cls = RX8 ∧ yX8_parent.cls ≠ "java/lang/invoke/MethodHandle" ∧ yX8_parent.cls ≠ "java/lang/invoke/VarHandle" ∧ (parseMethodDescriptor yX8_parent.desc).map (fun d => d.parameters.length) = some 1 := by decide +kernel
def f8_parent_B (uX : Md) (uS : Md) (uT : Md) (uV : Md) (uP : Md) (x1 : Int32) : Option (Nat ⊕ Int32) := ((fx_X7_has uT x1).bind fun r_2 => (if r_2 = 0 then (some (Sum.inl 1)) else ((fx_X7_parentOf uT x1).bind fun r_5 => (some (Sum.inr r_5)))))
set_option maxHeartbeats 4000000 in
set_option maxRecDepth 100000 in
theorem c8_parent_B (l : Launch) (G : Gx) (bX bF bS bT bV bP : Nat → Nat) (uX : Md) (uS : Md) (uT : Md) (uV : Md) (uP : Md) (x1 : Int32) (r : Int32) (sz : Nat) (hf : f8_parent_B uX uS uT uV uP x1 = some (Sum.inr r)) : Met l yX8_parent ws8_parent_B rm8_parent_B (pX8 G (c8 1 G bX bF bS bT bV bP (bT 0) (bV 0) uX uS uT uV uP) sz [.ref (bX 0), .int x1]) (k2_QcV (.int r)) 0 0 (fun _ => False) := by
  refine mx8_r (cc := cX8_parent) (maxL := 2) (ret := (some .int)) (by decide) rfl (Nat.le_of_ble_eq_true rfl) ?_
  intro p e s m below meth c ls A C hl hK hA hT hP hD hS
  have hl : lv_has ls 2 [(0, .ref (bX 0)), (1, .int x1)] := hl
  have hx := C.1.1
  have hb := C.1.2.1
  have hts := C.1.2.2.2.2
  have hown := C.1.2.2.2.1
  have hin5 : ∀ w ∈ wsX50, w ∈ ws8_parent_B := fun w h => List.mem_cons_of_mem _ (m8 (List.mem_append_right _ (List.mem_append_left _ h)))
  have hin6 : ∀ w ∈ wsX60, w ∈ ws8_parent_B := fun w h => List.mem_cons_of_mem _ (m8 (List.mem_append_right _ (List.mem_append_right _ (List.mem_append_left _ h))))
  have hin7 : ∀ w ∈ wsX70, w ∈ ws8_parent_B := fun w h => List.mem_cons_of_mem _ (m8 (List.mem_append_right _ (List.mem_append_right _ (List.mem_append_right _ (List.mem_append_left _ h)))))
  have hin8 : ∀ w ∈ wsX80, w ∈ ws8_parent_B := fun w h => List.mem_cons_of_mem _ (m8 (List.mem_append_right _ (List.mem_append_right _ (List.mem_append_right _ (List.mem_append_right _ h)))))
  unfold f8_parent_B at hf
  refine lv_aload_n hx hb dX8_parent_0 rfl (lv_at hl 0 rfl) ?_
  refine xg (v := .ref (bT 0)) (ci := 5) (K := RX8) (T := TX8) (N := 6) C hin8 hK hP 0 rfl rfl 3 (by decide) rfl (hts (Cond.fieldLink RX8 36 "SchematicText" "tree" "LSchematicText$Tree;") (List.mem_cons_of_mem _ (m8 mx_479))) rfl dX8_parent_1 ?_
  refine lv_iload_n hx hb dX8_parent_4 rfl (lv_at hl 1 rfl) ?_
  obtain ⟨r_2, h_1, hf⟩ := og_b hf
  try dsimp only at hf
  refine xr_V (v := .int r_2) (rest := []) (w0 := (cT G bT uT)) C (cx_X7_has l G bT uT x1 r_2 _ h_1) (cwV 1 hts (gd8_m gx_X8_X7_has_79) rfl rfl rfl hdx_X7_has ⟨Nat.le_of_ble_eq_true rfl, Nat.le_of_ble_eq_true rfl⟩) hK hA hT.1 hP hD hS (va_recv hK hP (ci := 4) (q0 := 4) rfl rfl) [4, 5, 6, 7, 8, 9, 10, 11, 12, 13, 14, 15, 16] rfl rfl rfl hl.1 rfl (Nat.le_of_ble_eq_true rfl) dX8_parent_5 ?_
  refine lv_if_ne (tgt := 21) hx hb dX8_parent_8 (by decide) (fun c_3 => ?_) (fun c_3 => ?_)
  · replace hf := og_f c_3 hf
    refine lv_aload_n hx hb dX8_parent_21 rfl (lv_at hl 0 rfl) ?_
    refine xg (v := .ref (bT 0)) (ci := 5) (K := RX8) (T := TX8) (N := 6) C hin8 hK hP 0 rfl rfl 3 (by decide) rfl (hts (Cond.fieldLink RX8 36 "SchematicText" "tree" "LSchematicText$Tree;") (List.mem_cons_of_mem _ (m8 mx_479))) rfl dX8_parent_22 ?_
    refine lv_iload_n hx hb dX8_parent_25 rfl (lv_at hl 1 rfl) ?_
    obtain ⟨r_5, h_4, hf⟩ := og_b hf
    try dsimp only at hf
    refine xr_V (v := .int r_5) (rest := []) (w0 := (cT G bT uT)) C (cx_X7_parentOf l G bT uT x1 r_5 _ h_4) (cwV 1 hts (gd8_m gx_X8_X7_parentOf_89) rfl rfl rfl hdx_X7_parentOf ⟨Nat.le_of_ble_eq_true rfl, Nat.le_of_ble_eq_true rfl⟩) hK hA hT.1 hP hD hS (va_recv hK hP (ci := 4) (q0 := 4) rfl rfl) [4, 5, 6, 7, 8, 9, 10, 11, 12, 13, 14, 15, 16] rfl rfl rfl hl.1 rfl (Nat.le_of_ble_eq_true rfl) dX8_parent_26 ?_
    obtain rfl := (Sum.inr.inj (og_s hf))
    exact rt_i C dX8_parent_29
  · replace hf := og_t c_3 hf
    cases (og_s hf)
set_option maxHeartbeats 4000000 in
set_option maxRecDepth 100000 in
theorem t8_parent_B (l : Launch) (hL0 : l.stackTraces = false) (G : Gx) (bX bF bS bT bV bP : Nat → Nat) (uX : Md) (uS : Md) (uT : Md) (uV : Md) (uP : Md) (x1 : Int32) (ek : Nat) (sz : Nat) (hf : f8_parent_B uX uS uT uV uP x1 = some (Sum.inl ek)) : vx_Met l yX8_parent ws8_parent_B rm8t_parent_B (pX8 G (c8 1 G bX bF bS bT bV bP (bT 0) (bV 0) uX uS uT uV uP) sz [.ref (bX 0), .int x1]) Q0 (xc8 ek) 1 6 (fun _ => False) := by
  refine mx8_t (cc := cX8_parent) (maxL := 2) (ret := (some .int)) (by decide) rfl (Nat.le_of_ble_eq_true rfl) ?_
  intro p e s m below meth c ls A C hnt hl hK hA hT hP hD hS
  have hl : lv_has ls 2 [(0, .ref (bX 0)), (1, .int x1)] := hl
  have hx := C.1.1
  have hb := C.1.2.1
  have hts := C.1.2.2.2.2
  have hown := C.1.2.2.2.1
  have hin5 : ∀ w ∈ wsX50, w ∈ ws8_parent_B := fun w h => List.mem_cons_of_mem _ (m8 (List.mem_append_right _ (List.mem_append_left _ h)))
  have hin6 : ∀ w ∈ wsX60, w ∈ ws8_parent_B := fun w h => List.mem_cons_of_mem _ (m8 (List.mem_append_right _ (List.mem_append_right _ (List.mem_append_left _ h))))
  have hin7 : ∀ w ∈ wsX70, w ∈ ws8_parent_B := fun w h => List.mem_cons_of_mem _ (m8 (List.mem_append_right _ (List.mem_append_right _ (List.mem_append_right _ (List.mem_append_left _ h)))))
  have hin8 : ∀ w ∈ wsX80, w ∈ ws8_parent_B := fun w h => List.mem_cons_of_mem _ (m8 (List.mem_append_right _ (List.mem_append_right _ (List.mem_append_right _ (List.mem_append_right _ h)))))
  unfold f8_parent_B at hf
  refine lv_aload_n hx hb dX8_parent_0 rfl (lv_at hl 0 rfl) ?_
  refine xg (v := .ref (bT 0)) (ci := 5) (K := RX8) (T := TX8) (N := 6) C hin8 hK hP 0 rfl rfl 3 (by decide) rfl (hts (Cond.fieldLink RX8 36 "SchematicText" "tree" "LSchematicText$Tree;") (List.mem_cons_of_mem _ (m8 mx_479))) rfl dX8_parent_1 ?_
  refine lv_iload_n hx hb dX8_parent_4 rfl (lv_at hl 1 rfl) ?_
  obtain ⟨r_2, h_1, hf⟩ := og_b hf
  try dsimp only at hf
  refine xr_V (v := .int r_2) (rest := []) (w0 := (cT G bT uT)) C (cx_X7_has l G bT uT x1 r_2 _ h_1) (cwV 1 hts (gd8_m gx_X8_X7_has_79) rfl rfl rfl hdx_X7_has ⟨Nat.le_of_ble_eq_true rfl, Nat.le_of_ble_eq_true rfl⟩) hK hA hT.1 hP hD hS (va_recv hK hP (ci := 4) (q0 := 4) rfl rfl) [4, 5, 6, 7, 8, 9, 10, 11, 12, 13, 14, 15, 16] rfl rfl rfl hl.1 rfl (Nat.le_of_ble_eq_true rfl) dX8_parent_5 ?_
  refine lv_if_ne (tgt := 21) hx hb dX8_parent_8 (by decide) (fun c_3 => ?_) (fun c_3 => ?_)
  · replace hf := og_f c_3 hf
    refine lv_aload_n hx hb dX8_parent_21 rfl (lv_at hl 0 rfl) ?_
    refine xg (v := .ref (bT 0)) (ci := 5) (K := RX8) (T := TX8) (N := 6) C hin8 hK hP 0 rfl rfl 3 (by decide) rfl (hts (Cond.fieldLink RX8 36 "SchematicText" "tree" "LSchematicText$Tree;") (List.mem_cons_of_mem _ (m8 mx_479))) rfl dX8_parent_22 ?_
    refine lv_iload_n hx hb dX8_parent_25 rfl (lv_at hl 1 rfl) ?_
    obtain ⟨r_5, h_4, hf⟩ := og_b hf
    try dsimp only at hf
    refine xr_V (v := .int r_5) (rest := []) (w0 := (cT G bT uT)) C (cx_X7_parentOf l G bT uT x1 r_5 _ h_4) (cwV 1 hts (gd8_m gx_X8_X7_parentOf_89) rfl rfl rfl hdx_X7_parentOf ⟨Nat.le_of_ble_eq_true rfl, Nat.le_of_ble_eq_true rfl⟩) hK hA hT.1 hP hD hS (va_recv hK hP (ci := 4) (q0 := 4) rfl rfl) [4, 5, 6, 7, 8, 9, 10, 11, 12, 13, 14, 15, 16] rfl rfl rfl hl.1 rfl (Nat.le_of_ble_eq_true rfl) dX8_parent_26 ?_
    cases (og_s hf)
  · replace hf := og_t c_3 hf
    obtain rfl := Sum.inl.inj (og_s hf)
    exact th8_1 (rest := []) (is := 84) (tx := "no such object") C hL0 hT hS hnt hl.1 (by decide +kernel) mx_509 mx_510 dX8_parent_11 dX8_parent_14 dX8_parent_15 dX8_parent_17 dX8_parent_20 (Nat.le_of_ble_eq_true rfl) (Nat.le_of_ble_eq_true rfl) (Nat.le_of_ble_eq_true rfl) (Nat.le_of_ble_eq_true rfl)
abbrev rm8_number_B : Room := { frames := 7, cells := 0, slots := 0, locals := 130 }
abbrev rm8t_number_B : Room := { frames := 7, cells := 1, slots := 6, locals := 130 }
noncomputable abbrev ws8_number_B : List Cond := Cond.code yX8_number cX8_number 3 (some .long) :: WA8
theorem hd8_number_B : yX8_number.cls = RX8 ∧ yX8_number.cls ≠ "java/lang/invoke/MethodHandle" ∧ yX8_number.cls ≠ "java/lang/invoke/VarHandle" ∧ (parseMethodDescriptor yX8_number.desc).map (fun d => d.parameters.length) = some 2 := by decide +kernel
def f8_number_B (uX : Md) (uS : Md) (uT : Md) (uV : Md) (uP : Md) (x1 : Int32) (x2 : Int32) : Option (Nat ⊕ Int64) := ((f8_kindOfObject_B uX uS uT uV uP x1).bind fun q_1 => Sum.elim (fun e9 => some (Sum.inl e9)) (fun k_4 => ((fx_X2_spotOf k_4 (0 : Int32) x2).bind fun r_6 => (if r_6 = (-1 : Int32) then (some (Sum.inl 1)) else ((fx_X7_numberOf uT x1 x2).bind fun r_9 => (some (Sum.inr r_9)))))) q_1)
set_option maxHeartbeats 4000000 in
set_option maxRecDepth 100000 in
theorem c8_number_B (l : Launch) (G : Gx) (bX bF bS bT bV bP : Nat → Nat) (uX : Md) (uS : Md) (uT : Md) (uV : Md) (uP : Md) (x1 : Int32) (x2 : Int32) (r : Int64) (sz : Nat) (hf : f8_number_B uX uS uT uV uP x1 x2 = some (Sum.inr r)) : Met l yX8_number ws8_number_B rm8_number_B (pX8 G (c8 1 G bX bF bS bT bV bP (bT 0) (bV 0) uX uS uT uV uP) sz [.ref (bX 0), .int x1, .int x2]) (k2_QcV (.long r)) 0 0 (fun _ => False) := by
  refine mx8_r (cc := cX8_number) (maxL := 3) (ret := (some .long)) (by decide) rfl (Nat.le_of_ble_eq_true rfl) ?_
  intro p e s m below meth c ls A C hl hK hA hT hP hD hS
  have hl : lv_has ls 3 [(0, .ref (bX 0)), (1, .int x1), (2, .int x2)] := hl
  have hx := C.1.1
  have hb := C.1.2.1
  have hts := C.1.2.2.2.2
  have hown := C.1.2.2.2.1
  have hin5 : ∀ w ∈ wsX50, w ∈ ws8_number_B := fun w h => List.mem_cons_of_mem _ (m8 (List.mem_append_right _ (List.mem_append_left _ h)))
  have hin6 : ∀ w ∈ wsX60, w ∈ ws8_number_B := fun w h => List.mem_cons_of_mem _ (m8 (List.mem_append_right _ (List.mem_append_right _ (List.mem_append_left _ h))))
  have hin7 : ∀ w ∈ wsX70, w ∈ ws8_number_B := fun w h => List.mem_cons_of_mem _ (m8 (List.mem_append_right _ (List.mem_append_right _ (List.mem_append_right _ (List.mem_append_left _ h)))))
  have hin8 : ∀ w ∈ wsX80, w ∈ ws8_number_B := fun w h => List.mem_cons_of_mem _ (m8 (List.mem_append_right _ (List.mem_append_right _ (List.mem_append_right _ (List.mem_append_right _ h)))))
  unfold f8_number_B at hf
  refine lv_aload_n hx hb dX8_number_0 rfl (lv_at hl 0 rfl) ?_
  refine lv_iload_n hx hb dX8_number_1 rfl (lv_at hl 1 rfl) ?_
  obtain ⟨q_1, h_2, hf⟩ := og_b hf
  rcases q_1 with e_3 | k_4
  · dsimp only [Sum.elim_inl] at hf
    cases (og_s hf)
  · dsimp only [Sum.elim_inr] at hf
    refine xr8_V (v := .ref (gK G (k_4).val)) (rest := []) (w0 := (c8 1 G bX bF bS bT bV bP (bT 0) (bV 0) uX uS uT uV uP)) C (c8_kindOfObject_B l G bX bF bS bT bV bP uX uS uT uV uP x1 k_4 _ h_2) (cwV 1 hts g8_kindOfObject_B rfl rfl rfl hd8_kindOfObject_B ⟨Nat.le_of_ble_eq_true rfl, Nat.le_of_ble_eq_true rfl⟩) hK hA hT hP hD hS (va_recv hK hP (ci := 5) (q0 := 0) rfl rfl) [0, 1, 2, 3, 4, 5, 6, 7, 8, 9, 10, 11, 12, 13, 14, 15, 16, 17, 18, 19, 20, 21, 22, 23, 24, 25, 26, 27, 28, 29, 30, 31] rfl rfl rfl hl.1 rfl (Nat.le_of_ble_eq_true rfl) dX8_number_2 ?_
    refine lv_iconst (v := (0 : Int32)) hx hb dX8_number_5 (by decide) ?_
    refine lv_iload_n hx hb dX8_number_6 rfl (lv_at hl 2 rfl) ?_
    obtain ⟨r_6, h_5, hf⟩ := og_b hf
    try dsimp only at hf
    refine xr_V (v := .int r_6) (rest := []) (w0 := []) C (cx_X2_spotOf l G k_4 (0 : Int32) x2 r_6 _ h_5) (cwV 2 hts (gd8_m gx_X8_X2_spotOf_93) rfl rfl rfl hdx_X2_spotOf ⟨Nat.le_of_ble_eq_true rfl, Nat.le_of_ble_eq_true rfl⟩) hK hA hT.1 hP hD hS (va_recvE hT.1.1.2.2.2.2.1 (k_4).isLt hS) [] rfl rfl rfl hl.1 rfl (Nat.le_of_ble_eq_true rfl) dX8_number_7 ?_
    refine lv_iconst (v := (-1 : Int32)) hx hb dX8_number_10 (by decide) ?_
    refine lv_icmp_ne (tgt := 24) hx hb dX8_number_11 (by decide) (fun c_7 => ?_) (fun c_7 => ?_)
    · replace hf := og_f c_7 hf
      refine lv_aload_n hx hb dX8_number_24 rfl (lv_at hl 0 rfl) ?_
      refine xg (v := .ref (bT 0)) (ci := 5) (K := RX8) (T := TX8) (N := 6) C hin8 hK hP 0 rfl rfl 3 (by decide) rfl (hts (Cond.fieldLink RX8 36 "SchematicText" "tree" "LSchematicText$Tree;") (List.mem_cons_of_mem _ (m8 mx_479))) rfl dX8_number_25 ?_
      refine lv_iload_n hx hb dX8_number_28 rfl (lv_at hl 1 rfl) ?_
      refine lv_iload_n hx hb dX8_number_29 rfl (lv_at hl 2 rfl) ?_
      obtain ⟨r_9, h_8, hf⟩ := og_b hf
      try dsimp only at hf
      refine xr_V (v := .long r_9) (rest := []) (w0 := (cT G bT uT)) C (cx_X7_numberOf l G bT uT x1 x2 r_9 _ h_8) (cwV 2 hts (gd8_m gx_X8_X7_numberOf_99) rfl rfl rfl hdx_X7_numberOf ⟨Nat.le_of_ble_eq_true rfl, Nat.le_of_ble_eq_true rfl⟩) hK hA hT.1 hP hD hS (va_recv hK hP (ci := 4) (q0 := 4) rfl rfl) [4, 5, 6, 7, 8, 9, 10, 11, 12, 13, 14, 15, 16] rfl rfl rfl hl.1 rfl (Nat.le_of_ble_eq_true rfl) dX8_number_30 ?_
      obtain rfl := (Sum.inr.inj (og_s hf))
      exact rt_l C dX8_number_33
    · replace hf := og_t c_7 hf
      cases (og_s hf)
set_option maxHeartbeats 4000000 in
set_option maxRecDepth 100000 in
theorem t8_number_B (l : Launch) (hL0 : l.stackTraces = false) (G : Gx) (bX bF bS bT bV bP : Nat → Nat) (uX : Md) (uS : Md) (uT : Md) (uV : Md) (uP : Md) (x1 : Int32) (x2 : Int32) (ek : Nat) (sz : Nat) (hf : f8_number_B uX uS uT uV uP x1 x2 = some (Sum.inl ek)) : vx_Met l yX8_number ws8_number_B rm8t_number_B (pX8 G (c8 1 G bX bF bS bT bV bP (bT 0) (bV 0) uX uS uT uV uP) sz [.ref (bX 0), .int x1, .int x2]) Q0 (xc8 ek) 1 6 (fun _ => False) := by
  refine mx8_t (cc := cX8_number) (maxL := 3) (ret := (some .long)) (by decide) rfl (Nat.le_of_ble_eq_true rfl) ?_
  intro p e s m below meth c ls A C hnt hl hK hA hT hP hD hS
  have hl : lv_has ls 3 [(0, .ref (bX 0)), (1, .int x1), (2, .int x2)] := hl
  have hx := C.1.1
  have hb := C.1.2.1
  have hts := C.1.2.2.2.2
  have hown := C.1.2.2.2.1
  have hin5 : ∀ w ∈ wsX50, w ∈ ws8_number_B := fun w h => List.mem_cons_of_mem _ (m8 (List.mem_append_right _ (List.mem_append_left _ h)))
  have hin6 : ∀ w ∈ wsX60, w ∈ ws8_number_B := fun w h => List.mem_cons_of_mem _ (m8 (List.mem_append_right _ (List.mem_append_right _ (List.mem_append_left _ h))))
  have hin7 : ∀ w ∈ wsX70, w ∈ ws8_number_B := fun w h => List.mem_cons_of_mem _ (m8 (List.mem_append_right _ (List.mem_append_right _ (List.mem_append_right _ (List.mem_append_left _ h)))))
  have hin8 : ∀ w ∈ wsX80, w ∈ ws8_number_B := fun w h => List.mem_cons_of_mem _ (m8 (List.mem_append_right _ (List.mem_append_right _ (List.mem_append_right _ (List.mem_append_right _ h)))))
  unfold f8_number_B at hf
  refine lv_aload_n hx hb dX8_number_0 rfl (lv_at hl 0 rfl) ?_
  refine lv_iload_n hx hb dX8_number_1 rfl (lv_at hl 1 rfl) ?_
  obtain ⟨q_1, h_2, hf⟩ := og_b hf
  rcases q_1 with e_3 | k_4
  · dsimp only [Sum.elim_inl] at hf
    obtain rfl := Sum.inl.inj (og_s hf)
    exact xt8_V (w0 := (c8 1 G bX bF bS bT bV bP (bT 0) (bV 0) uX uS uT uV uP)) (rest := []) C hnt (t8_kindOfObject_B l hL0 G bX bF bS bT bV bP uX uS uT uV uP x1 e_3 _ h_2) (cwV 1 hts g8_kindOfObject_B rfl rfl rfl hd8_kindOfObject_B ⟨Nat.le_of_ble_eq_true rfl, Nat.le_of_ble_eq_true rfl⟩) hK hA hT hP hD hS (va_recv hK hP (ci := 5) (q0 := 0) rfl rfl) [0, 1, 2, 3, 4, 5, 6, 7, 8, 9, 10, 11, 12, 13, 14, 15, 16, 17, 18, 19, 20, 21, 22, 23, 24, 25, 26, 27, 28, 29, 30, 31] rfl rfl rfl hl.1 rfl (Nat.le_of_ble_eq_true rfl) ⟨Nat.le_of_ble_eq_true rfl, Nat.le_of_ble_eq_true rfl⟩ dX8_number_2
  · dsimp only [Sum.elim_inr] at hf
    refine xr8_V (v := .ref (gK G (k_4).val)) (rest := []) (w0 := (c8 1 G bX bF bS bT bV bP (bT 0) (bV 0) uX uS uT uV uP)) C (c8_kindOfObject_B l G bX bF bS bT bV bP uX uS uT uV uP x1 k_4 _ h_2) (cwV 1 hts g8_kindOfObject_B rfl rfl rfl hd8_kindOfObject_B ⟨Nat.le_of_ble_eq_true rfl, Nat.le_of_ble_eq_true rfl⟩) hK hA hT hP hD hS (va_recv hK hP (ci := 5) (q0 := 0) rfl rfl) [0, 1, 2, 3, 4, 5, 6, 7, 8, 9, 10, 11, 12, 13, 14, 15, 16, 17, 18, 19, 20, 21, 22, 23, 24, 25, 26, 27, 28, 29, 30, 31] rfl rfl rfl hl.1 rfl (Nat.le_of_ble_eq_true rfl) dX8_number_2 ?_
    refine lv_iconst (v := (0 : Int32)) hx hb dX8_number_5 (by decide) ?_
    refine lv_iload_n hx hb dX8_number_6 rfl (lv_at hl 2 rfl) ?_
    obtain ⟨r_6, h_5, hf⟩ := og_b hf
    try dsimp only at hf
    refine xr_V (v := .int r_6) (rest := []) (w0 := []) C (cx_X2_spotOf l G k_4 (0 : Int32) x2 r_6 _ h_5) (cwV 2 hts (gd8_m gx_X8_X2_spotOf_93) rfl rfl rfl hdx_X2_spotOf ⟨Nat.le_of_ble_eq_true rfl, Nat.le_of_ble_eq_true rfl⟩) hK hA hT.1 hP hD hS (va_recvE hT.1.1.2.2.2.2.1 (k_4).isLt hS) [] rfl rfl rfl hl.1 rfl (Nat.le_of_ble_eq_true rfl) dX8_number_7 ?_
    refine lv_iconst (v := (-1 : Int32)) hx hb dX8_number_10 (by decide) ?_
    refine lv_icmp_ne (tgt := 24) hx hb dX8_number_11 (by decide) (fun c_7 => ?_) (fun c_7 => ?_)
    · replace hf := og_f c_7 hf
      refine lv_aload_n hx hb dX8_number_24 rfl (lv_at hl 0 rfl) ?_
      refine xg (v := .ref (bT 0)) (ci := 5) (K := RX8) (T := TX8) (N := 6) C hin8 hK hP 0 rfl rfl 3 (by decide) rfl (hts (Cond.fieldLink RX8 36 "SchematicText" "tree" "LSchematicText$Tree;") (List.mem_cons_of_mem _ (m8 mx_479))) rfl dX8_number_25 ?_
      refine lv_iload_n hx hb dX8_number_28 rfl (lv_at hl 1 rfl) ?_
      refine lv_iload_n hx hb dX8_number_29 rfl (lv_at hl 2 rfl) ?_
      obtain ⟨r_9, h_8, hf⟩ := og_b hf
      try dsimp only at hf
      refine xr_V (v := .long r_9) (rest := []) (w0 := (cT G bT uT)) C (cx_X7_numberOf l G bT uT x1 x2 r_9 _ h_8) (cwV 2 hts (gd8_m gx_X8_X7_numberOf_99) rfl rfl rfl hdx_X7_numberOf ⟨Nat.le_of_ble_eq_true rfl, Nat.le_of_ble_eq_true rfl⟩) hK hA hT.1 hP hD hS (va_recv hK hP (ci := 4) (q0 := 4) rfl rfl) [4, 5, 6, 7, 8, 9, 10, 11, 12, 13, 14, 15, 16] rfl rfl rfl hl.1 rfl (Nat.le_of_ble_eq_true rfl) dX8_number_30 ?_
      cases (og_s hf)
    · replace hf := og_t c_7 hf
      obtain rfl := Sum.inl.inj (og_s hf)
      exact th8_1 (rest := []) (is := 97) (tx := "no such number") C hL0 hT hS hnt hl.1 (by decide +kernel) mx_509 mx_510 dX8_number_14 dX8_number_17 dX8_number_18 dX8_number_20 dX8_number_23 (Nat.le_of_ble_eq_true rfl) (Nat.le_of_ble_eq_true rfl) (Nat.le_of_ble_eq_true rfl) (Nat.le_of_ble_eq_true rfl)
abbrev rm8_text_B : Room := { frames := 7, cells := 0, slots := 0, locals := 130 }
abbrev rm8t_text_B : Room := { frames := 7, cells := 1, slots := 6, locals := 130 }
noncomputable abbrev ws8_text_B : List Cond := Cond.code yX8_text cX8_text 5 (some .int) :: WA8
theorem hd8_text_B : yX8_text.cls = RX8 ∧ yX8_text.cls ≠ "java/lang/invoke/MethodHandle" ∧ yX8_text.cls ≠ "java/lang/invoke/VarHandle" ∧ (parseMethodDescriptor yX8_text.desc).map (fun d => d.parameters.length) = some 3 := by decide +kernel
def f8_text_B_53 (uX : Md) (uS : Md) (uT : Md) (uV : Md) (uP : Md) : Option (Nat ⊕ Int32) := (some (Sum.inl 1))
set_option maxHeartbeats 4000000 in
set_option maxRecDepth 100000 in
theorem w8r_text_B_53 {p : Program} {l : Launch} {e : Env} {s : State} {m : MethodId} {args : Array Value} {below : List Frame} {meth : Method} {c : Code} {G : Gx} {A : Nat → Prop} {bX bF bS bT bV bP : Nat → Nat} (C : Cx p s m args meth c cX8_text 5 ws8_text_B RX8 (some .int)) {uX : Md} {uS : Md} {uT : Md} {uV : Md} {uP : Md} (hK : va_K (gD G) vwCl (tyG G) s) (hA : ∀ q : Nat, s.heap.size ≤ q → A q) (hT : ST8 G A s s.heap) (hP : va_P (gD G) vwCl (c8 1 G bX bF bS bT bV bP (bT 0) (bV 0) uX uS uT uV uP) s.heap) (hD : va_D A (c8 1 G bX bF bS bT bV bP (bT 0) (bV 0) uX uS uT uV uP)) (hS : va_S A s.heap s.heap []) {r : Int32} : f8_text_B_53 uX uS uT uV uP  = some (Sum.inr r) → ∀ {ls : Array Slot}, lv_has ls 5 [] → W p l e rm8_text_B s m args below meth c s.heap [] 0 0 (MQ below (k2_QcV (.int r)) args s 0 0 (fun _ => False)) (F0 m 53 ls []) := by
  have hx := C.1.1
  have hb := C.1.2.1
  have hts := C.1.2.2.2.2
  have hown := C.1.2.2.2.1
  have hin5 : ∀ w ∈ wsX50, w ∈ ws8_text_B := fun w h => List.mem_cons_of_mem _ (m8 (List.mem_append_right _ (List.mem_append_left _ h)))
  have hin6 : ∀ w ∈ wsX60, w ∈ ws8_text_B := fun w h => List.mem_cons_of_mem _ (m8 (List.mem_append_right _ (List.mem_append_right _ (List.mem_append_left _ h))))
  have hin7 : ∀ w ∈ wsX70, w ∈ ws8_text_B := fun w h => List.mem_cons_of_mem _ (m8 (List.mem_append_right _ (List.mem_append_right _ (List.mem_append_right _ (List.mem_append_left _ h)))))
  have hin8 : ∀ w ∈ wsX80, w ∈ ws8_text_B := fun w h => List.mem_cons_of_mem _ (m8 (List.mem_append_right _ (List.mem_append_right _ (List.mem_append_right _ (List.mem_append_right _ h)))))
  intro  hf ls hl
  unfold f8_text_B_53 at hf
  cases (og_s hf)
set_option maxHeartbeats 4000000 in
set_option maxRecDepth 100000 in
theorem w8t_text_B_53 {p : Program} {l : Launch} {e : Env} {s : State} {m : MethodId} {args : Array Value} {below : List Frame} {meth : Method} {c : Code} {G : Gx} {A : Nat → Prop} {bX bF bS bT bV bP : Nat → Nat} (C : Cx p s m args meth c cX8_text 5 ws8_text_B RX8 (some .int)) (hL0 : l.stackTraces = false) (hnt : ∀ x ∈ c.exceptionTable.toList, False) {uX uS uT uV uP : Md} (hK : va_K (gD G) vwCl (tyG G) s) (hA : ∀ q : Nat, s.heap.size ≤ q → A q) (hT : ST8 G A s s.heap) (hP : va_P (gD G) vwCl (c8 1 G bX bF bS bT bV bP (bT 0) (bV 0) uX uS uT uV uP) s.heap) (hD : va_D A (c8 1 G bX bF bS bT bV bP (bT 0) (bV 0) uX uS uT uV uP)) (hS : va_S A s.heap s.heap []) {ek : Nat} : f8_text_B_53 uX uS uT uV uP  = some (Sum.inl ek) → ∀ {ls : Array Slot}, lv_has ls 5 [] → W p l e rm8t_text_B s m args below meth c s.heap [] 0 0 (vx_MQ below Q0 (xc8 ek) args s 1 6 (fun _ => False)) (F0 m 53 ls []) := by
  have hx := C.1.1
  have hb := C.1.2.1
  have hts := C.1.2.2.2.2
  have hown := C.1.2.2.2.1
  have hin5 : ∀ w ∈ wsX50, w ∈ ws8_text_B := fun w h => List.mem_cons_of_mem _ (m8 (List.mem_append_right _ (List.mem_append_left _ h)))
  have hin6 : ∀ w ∈ wsX60, w ∈ ws8_text_B := fun w h => List.mem_cons_of_mem _ (m8 (List.mem_append_right _ (List.mem_append_right _ (List.mem_append_left _ h))))
  have hin7 : ∀ w ∈ wsX70, w ∈ ws8_text_B := fun w h => List.mem_cons_of_mem _ (m8 (List.mem_append_right _ (List.mem_append_right _ (List.mem_append_right _ (List.mem_append_left _ h)))))
  have hin8 : ∀ w ∈ wsX80, w ∈ ws8_text_B := fun w h => List.mem_cons_of_mem _ (m8 (List.mem_append_right _ (List.mem_append_right _ (List.mem_append_right _ (List.mem_append_right _ h)))))
  intro  hf ls hl
  unfold f8_text_B_53 at hf
  obtain rfl := Sum.inl.inj (og_s hf)
  exact th8_1 (rest := []) (is := 109) (tx := "no such character") C hL0 hT hS hnt hl.1 (by decide +kernel) mx_509 mx_510 dX8_text_53 dX8_text_56 dX8_text_57 dX8_text_59 dX8_text_62 (Nat.le_of_ble_eq_true rfl) (Nat.le_of_ble_eq_true rfl) (Nat.le_of_ble_eq_true rfl) (Nat.le_of_ble_eq_true rfl)
def f8_text_B (uX : Md) (uS : Md) (uT : Md) (uV : Md) (uP : Md) (x1 : Int32) (x2 : Int32) (x3 : Int32) : Option (Nat ⊕ Int32) := ((f8_kindOfObject_B uX uS uT uV uP x1).bind fun q_1 => Sum.elim (fun e9 => some (Sum.inl e9)) (fun k_4 => ((fx_X2_spotOf k_4 (1 : Int32) x2).bind fun r_6 => (if r_6 = (-1 : Int32) then (some (Sum.inl 1)) else ((fx_X7_textSize uT x1 x2).bind fun r_9 => (if x3 = (-1 : Int32) then (some (Sum.inr r_9)) else (if x3 < 0 then (f8_text_B_53 uX uS uT uV uP) else (if x3 < r_9 then ((fx_X7_textMark uT x1 x2 x3).bind fun r_14 => (some (Sum.inr r_14))) else (f8_text_B_53 uX uS uT uV uP)))))))) q_1)
set_option maxHeartbeats 4000000 in
set_option maxRecDepth 100000 in
theorem c8_text_B (l : Launch) (G : Gx) (bX bF bS bT bV bP : Nat → Nat) (uX : Md) (uS : Md) (uT : Md) (uV : Md) (uP : Md) (x1 : Int32) (x2 : Int32) (x3 : Int32) (r : Int32) (sz : Nat) (hf : f8_text_B uX uS uT uV uP x1 x2 x3 = some (Sum.inr r)) : Met l yX8_text ws8_text_B rm8_text_B (pX8 G (c8 1 G bX bF bS bT bV bP (bT 0) (bV 0) uX uS uT uV uP) sz [.ref (bX 0), .int x1, .int x2, .int x3]) (k2_QcV (.int r)) 0 0 (fun _ => False) := by
  refine mx8_r (cc := cX8_text) (maxL := 5) (ret := (some .int)) (by decide) rfl (Nat.le_of_ble_eq_true rfl) ?_
  intro p e s m below meth c ls A C hl hK hA hT hP hD hS
  have hl : lv_has ls 5 [(0, .ref (bX 0)), (1, .int x1), (2, .int x2), (3, .int x3)] := hl
  have hx := C.1.1
  have hb := C.1.2.1
  have hts := C.1.2.2.2.2
  have hown := C.1.2.2.2.1
  have hin5 : ∀ w ∈ wsX50, w ∈ ws8_text_B := fun w h => List.mem_cons_of_mem _ (m8 (List.mem_append_right _ (List.mem_append_left _ h)))
  have hin6 : ∀ w ∈ wsX60, w ∈ ws8_text_B := fun w h => List.mem_cons_of_mem _ (m8 (List.mem_append_right _ (List.mem_append_right _ (List.mem_append_left _ h))))
  have hin7 : ∀ w ∈ wsX70, w ∈ ws8_text_B := fun w h => List.mem_cons_of_mem _ (m8 (List.mem_append_right _ (List.mem_append_right _ (List.mem_append_right _ (List.mem_append_left _ h)))))
  have hin8 : ∀ w ∈ wsX80, w ∈ ws8_text_B := fun w h => List.mem_cons_of_mem _ (m8 (List.mem_append_right _ (List.mem_append_right _ (List.mem_append_right _ (List.mem_append_right _ h)))))
  unfold f8_text_B at hf
  refine lv_aload_n hx hb dX8_text_0 rfl (lv_at hl 0 rfl) ?_
  refine lv_iload_n hx hb dX8_text_1 rfl (lv_at hl 1 rfl) ?_
  obtain ⟨q_1, h_2, hf⟩ := og_b hf
  rcases q_1 with e_3 | k_4
  · dsimp only [Sum.elim_inl] at hf
    cases (og_s hf)
  · dsimp only [Sum.elim_inr] at hf
    refine xr8_V (v := .ref (gK G (k_4).val)) (rest := []) (w0 := (c8 1 G bX bF bS bT bV bP (bT 0) (bV 0) uX uS uT uV uP)) C (c8_kindOfObject_B l G bX bF bS bT bV bP uX uS uT uV uP x1 k_4 _ h_2) (cwV 1 hts g8_kindOfObject_B rfl rfl rfl hd8_kindOfObject_B ⟨Nat.le_of_ble_eq_true rfl, Nat.le_of_ble_eq_true rfl⟩) hK hA hT hP hD hS (va_recv hK hP (ci := 5) (q0 := 0) rfl rfl) [0, 1, 2, 3, 4, 5, 6, 7, 8, 9, 10, 11, 12, 13, 14, 15, 16, 17, 18, 19, 20, 21, 22, 23, 24, 25, 26, 27, 28, 29, 30, 31] rfl rfl rfl hl.1 rfl (Nat.le_of_ble_eq_true rfl) dX8_text_2 ?_
    refine lv_iconst (v := (1 : Int32)) hx hb dX8_text_5 (by decide) ?_
    refine lv_iload_n hx hb dX8_text_6 rfl (lv_at hl 2 rfl) ?_
    obtain ⟨r_6, h_5, hf⟩ := og_b hf
    try dsimp only at hf
    refine xr_V (v := .int r_6) (rest := []) (w0 := []) C (cx_X2_spotOf l G k_4 (1 : Int32) x2 r_6 _ h_5) (cwV 2 hts (gd8_m gx_X8_X2_spotOf_93) rfl rfl rfl hdx_X2_spotOf ⟨Nat.le_of_ble_eq_true rfl, Nat.le_of_ble_eq_true rfl⟩) hK hA hT.1 hP hD hS (va_recvE hT.1.1.2.2.2.2.1 (k_4).isLt hS) [] rfl rfl rfl hl.1 rfl (Nat.le_of_ble_eq_true rfl) dX8_text_7 ?_
    refine lv_iconst (v := (-1 : Int32)) hx hb dX8_text_10 (by decide) ?_
    refine lv_icmp_ne (tgt := 24) hx hb dX8_text_11 (by decide) (fun c_7 => ?_) (fun c_7 => ?_)
    · replace hf := og_f c_7 hf
      refine lv_aload_n hx hb dX8_text_24 rfl (lv_at hl 0 rfl) ?_
      refine xg (v := .ref (bT 0)) (ci := 5) (K := RX8) (T := TX8) (N := 6) C hin8 hK hP 0 rfl rfl 3 (by decide) rfl (hts (Cond.fieldLink RX8 36 "SchematicText" "tree" "LSchematicText$Tree;") (List.mem_cons_of_mem _ (m8 mx_479))) rfl dX8_text_25 ?_
      refine lv_iload_n hx hb dX8_text_28 rfl (lv_at hl 1 rfl) ?_
      refine lv_iload_n hx hb dX8_text_29 rfl (lv_at hl 2 rfl) ?_
      obtain ⟨r_9, h_8, hf⟩ := og_b hf
      try dsimp only at hf
      refine xr_V (v := .int r_9) (rest := []) (w0 := (cT G bT uT)) C (cx_X7_textSize l G bT uT x1 x2 r_9 _ h_8) (cwV 2 hts (gd8_m gx_X8_X7_textSize_105) rfl rfl rfl hdx_X7_textSize ⟨Nat.le_of_ble_eq_true rfl, Nat.le_of_ble_eq_true rfl⟩) hK hA hT.1 hP hD hS (va_recv hK hP (ci := 4) (q0 := 4) rfl rfl) [4, 5, 6, 7, 8, 9, 10, 11, 12, 13, 14, 15, 16] rfl rfl rfl hl.1 rfl (Nat.le_of_ble_eq_true rfl) dX8_text_30 ?_
      refine lv_istore (lv' := [(4, .int r_9), (0, .ref (bX 0)), (1, .int x1), (2, .int x2), (3, .int x3)]) hx hb dX8_text_33 hl (by decide) rfl (fun ls hl => ?_)
      refine lv_iload_n hx hb dX8_text_35 rfl (lv_at hl 4 rfl) ?_
      refine lv_iconst (v := (-1 : Int32)) hx hb dX8_text_36 (by decide) ?_
      refine lv_icmp_ne (tgt := 43) hx hb dX8_text_37 (by decide) (fun c_10 => ?_) (fun c_10 => ?_)
      · replace hf := og_f c_10 hf
        refine lv_iload_n hx hb dX8_text_43 rfl (lv_at hl 4 rfl) ?_
        refine lv_if_lt (tgt := 53) hx hb dX8_text_44 (by decide) (fun c_11 => ?_) (fun c_11 => ?_)
        · replace hf := og_t c_11 hf
          exact w8r_text_B_53 C hK hA hT hP hD hS hf (lv_sub hl [] rfl)
        · replace hf := og_f c_11 hf
          refine lv_iload_n hx hb dX8_text_47 rfl (lv_at hl 4 rfl) ?_
          refine lv_iload hx hb dX8_text_48 (lv_at hl 0 rfl) ?_
          refine lv_icmp_lt (tgt := 63) hx hb dX8_text_50 (by decide) (fun c_12 => ?_) (fun c_12 => ?_)
          · replace hf := og_t c_12 hf
            refine lv_aload_n hx hb dX8_text_63 rfl (lv_at hl 1 rfl) ?_
            refine xg (v := .ref (bT 0)) (ci := 5) (K := RX8) (T := TX8) (N := 6) C hin8 hK hP 0 rfl rfl 3 (by decide) rfl (hts (Cond.fieldLink RX8 36 "SchematicText" "tree" "LSchematicText$Tree;") (List.mem_cons_of_mem _ (m8 mx_479))) rfl dX8_text_64 ?_
            refine lv_iload_n hx hb dX8_text_67 rfl (lv_at hl 2 rfl) ?_
            refine lv_iload_n hx hb dX8_text_68 rfl (lv_at hl 3 rfl) ?_
            refine lv_iload_n hx hb dX8_text_69 rfl (lv_at hl 4 rfl) ?_
            obtain ⟨r_14, h_13, hf⟩ := og_b hf
            try dsimp only at hf
            refine xr_V (v := .int r_14) (rest := []) (w0 := (cT G bT uT)) C (cx_X7_textMark l G bT uT x1 x2 x3 r_14 _ h_13) (cwV 3 hts (gd8_m gx_X8_X7_textMark_111) rfl rfl rfl hdx_X7_textMark ⟨Nat.le_of_ble_eq_true rfl, Nat.le_of_ble_eq_true rfl⟩) hK hA hT.1 hP hD hS (va_recv hK hP (ci := 4) (q0 := 4) rfl rfl) [4, 5, 6, 7, 8, 9, 10, 11, 12, 13, 14, 15, 16] rfl rfl rfl hl.1 rfl (Nat.le_of_ble_eq_true rfl) dX8_text_70 ?_
            obtain rfl := (Sum.inr.inj (og_s hf))
            exact rt_i C dX8_text_73
          · replace hf := og_f c_12 hf
            exact w8r_text_B_53 C hK hA hT hP hD hS hf (lv_sub hl [] rfl)
      · replace hf := og_t c_10 hf
        refine lv_iload hx hb dX8_text_40 (lv_at hl 0 rfl) ?_
        obtain rfl := (Sum.inr.inj (og_s hf))
        exact rt_i C dX8_text_42
    · replace hf := og_t c_7 hf
      cases (og_s hf)
set_option maxHeartbeats 4000000 in
set_option maxRecDepth 100000 in
theorem t8_text_B (l : Launch) (hL0 : l.stackTraces = false) (G : Gx) (bX bF bS bT bV bP : Nat → Nat) (uX : Md) (uS : Md) (uT : Md) (uV : Md) (uP : Md) (x1 : Int32) (x2 : Int32) (x3 : Int32) (ek : Nat) (sz : Nat) (hf : f8_text_B uX uS uT uV uP x1 x2 x3 = some (Sum.inl ek)) : vx_Met l yX8_text ws8_text_B rm8t_text_B (pX8 G (c8 1 G bX bF bS bT bV bP (bT 0) (bV 0) uX uS uT uV uP) sz [.ref (bX 0), .int x1, .int x2, .int x3]) Q0 (xc8 ek) 1 6 (fun _ => False) := by
  refine mx8_t (cc := cX8_text) (maxL := 5) (ret := (some .int)) (by decide) rfl (Nat.le_of_ble_eq_true rfl) ?_
  intro p e s m below meth c ls A C hnt hl hK hA hT hP hD hS
  have hl : lv_has ls 5 [(0, .ref (bX 0)), (1, .int x1), (2, .int x2), (3, .int x3)] := hl
  have hx := C.1.1
  have hb := C.1.2.1
  have hts := C.1.2.2.2.2
  have hown := C.1.2.2.2.1
  have hin5 : ∀ w ∈ wsX50, w ∈ ws8_text_B := fun w h => List.mem_cons_of_mem _ (m8 (List.mem_append_right _ (List.mem_append_left _ h)))
  have hin6 : ∀ w ∈ wsX60, w ∈ ws8_text_B := fun w h => List.mem_cons_of_mem _ (m8 (List.mem_append_right _ (List.mem_append_right _ (List.mem_append_left _ h))))
  have hin7 : ∀ w ∈ wsX70, w ∈ ws8_text_B := fun w h => List.mem_cons_of_mem _ (m8 (List.mem_append_right _ (List.mem_append_right _ (List.mem_append_right _ (List.mem_append_left _ h)))))
  have hin8 : ∀ w ∈ wsX80, w ∈ ws8_text_B := fun w h => List.mem_cons_of_mem _ (m8 (List.mem_append_right _ (List.mem_append_right _ (List.mem_append_right _ (List.mem_append_right _ h)))))
  unfold f8_text_B at hf
  refine lv_aload_n hx hb dX8_text_0 rfl (lv_at hl 0 rfl) ?_
  refine lv_iload_n hx hb dX8_text_1 rfl (lv_at hl 1 rfl) ?_
  obtain ⟨q_1, h_2, hf⟩ := og_b hf
  rcases q_1 with e_3 | k_4
  · dsimp only [Sum.elim_inl] at hf
    obtain rfl := Sum.inl.inj (og_s hf)
    exact xt8_V (w0 := (c8 1 G bX bF bS bT bV bP (bT 0) (bV 0) uX uS uT uV uP)) (rest := []) C hnt (t8_kindOfObject_B l hL0 G bX bF bS bT bV bP uX uS uT uV uP x1 e_3 _ h_2) (cwV 1 hts g8_kindOfObject_B rfl rfl rfl hd8_kindOfObject_B ⟨Nat.le_of_ble_eq_true rfl, Nat.le_of_ble_eq_true rfl⟩) hK hA hT hP hD hS (va_recv hK hP (ci := 5) (q0 := 0) rfl rfl) [0, 1, 2, 3, 4, 5, 6, 7, 8, 9, 10, 11, 12, 13, 14, 15, 16, 17, 18, 19, 20, 21, 22, 23, 24, 25, 26, 27, 28, 29, 30, 31] rfl rfl rfl hl.1 rfl (Nat.le_of_ble_eq_true rfl) ⟨Nat.le_of_ble_eq_true rfl, Nat.le_of_ble_eq_true rfl⟩ dX8_text_2
  · dsimp only [Sum.elim_inr] at hf
    refine xr8_V (v := .ref (gK G (k_4).val)) (rest := []) (w0 := (c8 1 G bX bF bS bT bV bP (bT 0) (bV 0) uX uS uT uV uP)) C (c8_kindOfObject_B l G bX bF bS bT bV bP uX uS uT uV uP x1 k_4 _ h_2) (cwV 1 hts g8_kindOfObject_B rfl rfl rfl hd8_kindOfObject_B ⟨Nat.le_of_ble_eq_true rfl, Nat.le_of_ble_eq_true rfl⟩) hK hA hT hP hD hS (va_recv hK hP (ci := 5) (q0 := 0) rfl rfl) [0, 1, 2, 3, 4, 5, 6, 7, 8, 9, 10, 11, 12, 13, 14, 15, 16, 17, 18, 19, 20, 21, 22, 23, 24, 25, 26, 27, 28, 29, 30, 31] rfl rfl rfl hl.1 rfl (Nat.le_of_ble_eq_true rfl) dX8_text_2 ?_
    refine lv_iconst (v := (1 : Int32)) hx hb dX8_text_5 (by decide) ?_
    refine lv_iload_n hx hb dX8_text_6 rfl (lv_at hl 2 rfl) ?_
    obtain ⟨r_6, h_5, hf⟩ := og_b hf
    try dsimp only at hf
    refine xr_V (v := .int r_6) (rest := []) (w0 := []) C (cx_X2_spotOf l G k_4 (1 : Int32) x2 r_6 _ h_5) (cwV 2 hts (gd8_m gx_X8_X2_spotOf_93) rfl rfl rfl hdx_X2_spotOf ⟨Nat.le_of_ble_eq_true rfl, Nat.le_of_ble_eq_true rfl⟩) hK hA hT.1 hP hD hS (va_recvE hT.1.1.2.2.2.2.1 (k_4).isLt hS) [] rfl rfl rfl hl.1 rfl (Nat.le_of_ble_eq_true rfl) dX8_text_7 ?_
    refine lv_iconst (v := (-1 : Int32)) hx hb dX8_text_10 (by decide) ?_
    refine lv_icmp_ne (tgt := 24) hx hb dX8_text_11 (by decide) (fun c_7 => ?_) (fun c_7 => ?_)
    · replace hf := og_f c_7 hf
      refine lv_aload_n hx hb dX8_text_24 rfl (lv_at hl 0 rfl) ?_
      refine xg (v := .ref (bT 0)) (ci := 5) (K := RX8) (T := TX8) (N := 6) C hin8 hK hP 0 rfl rfl 3 (by decide) rfl (hts (Cond.fieldLink RX8 36 "SchematicText" "tree" "LSchematicText$Tree;") (List.mem_cons_of_mem _ (m8 mx_479))) rfl dX8_text_25 ?_
      refine lv_iload_n hx hb dX8_text_28 rfl (lv_at hl 1 rfl) ?_
      refine lv_iload_n hx hb dX8_text_29 rfl (lv_at hl 2 rfl) ?_
      obtain ⟨r_9, h_8, hf⟩ := og_b hf
      try dsimp only at hf
      refine xr_V (v := .int r_9) (rest := []) (w0 := (cT G bT uT)) C (cx_X7_textSize l G bT uT x1 x2 r_9 _ h_8) (cwV 2 hts (gd8_m gx_X8_X7_textSize_105) rfl rfl rfl hdx_X7_textSize ⟨Nat.le_of_ble_eq_true rfl, Nat.le_of_ble_eq_true rfl⟩) hK hA hT.1 hP hD hS (va_recv hK hP (ci := 4) (q0 := 4) rfl rfl) [4, 5, 6, 7, 8, 9, 10, 11, 12, 13, 14, 15, 16] rfl rfl rfl hl.1 rfl (Nat.le_of_ble_eq_true rfl) dX8_text_30 ?_
      refine lv_istore (lv' := [(4, .int r_9), (0, .ref (bX 0)), (1, .int x1), (2, .int x2), (3, .int x3)]) hx hb dX8_text_33 hl (by decide) rfl (fun ls hl => ?_)
      refine lv_iload_n hx hb dX8_text_35 rfl (lv_at hl 4 rfl) ?_
      refine lv_iconst (v := (-1 : Int32)) hx hb dX8_text_36 (by decide) ?_
      refine lv_icmp_ne (tgt := 43) hx hb dX8_text_37 (by decide) (fun c_10 => ?_) (fun c_10 => ?_)
      · replace hf := og_f c_10 hf
        refine lv_iload_n hx hb dX8_text_43 rfl (lv_at hl 4 rfl) ?_
        refine lv_if_lt (tgt := 53) hx hb dX8_text_44 (by decide) (fun c_11 => ?_) (fun c_11 => ?_)
        · replace hf := og_t c_11 hf
          exact w8t_text_B_53 C hL0 hnt hK hA hT hP hD hS hf (lv_sub hl [] rfl)
        · replace hf := og_f c_11 hf
          refine lv_iload_n hx hb dX8_text_47 rfl (lv_at hl 4 rfl) ?_
          refine lv_iload hx hb dX8_text_48 (lv_at hl 0 rfl) ?_
          refine lv_icmp_lt (tgt := 63) hx hb dX8_text_50 (by decide) (fun c_12 => ?_) (fun c_12 => ?_)
          · replace hf := og_t c_12 hf
            refine lv_aload_n hx hb dX8_text_63 rfl (lv_at hl 1 rfl) ?_
            refine xg (v := .ref (bT 0)) (ci := 5) (K := RX8) (T := TX8) (N := 6) C hin8 hK hP 0 rfl rfl 3 (by decide) rfl (hts (Cond.fieldLink RX8 36 "SchematicText" "tree" "LSchematicText$Tree;") (List.mem_cons_of_mem _ (m8 mx_479))) rfl dX8_text_64 ?_
            refine lv_iload_n hx hb dX8_text_67 rfl (lv_at hl 2 rfl) ?_
            refine lv_iload_n hx hb dX8_text_68 rfl (lv_at hl 3 rfl) ?_
            refine lv_iload_n hx hb dX8_text_69 rfl (lv_at hl 4 rfl) ?_
            obtain ⟨r_14, h_13, hf⟩ := og_b hf
            try dsimp only at hf
            refine xr_V (v := .int r_14) (rest := []) (w0 := (cT G bT uT)) C (cx_X7_textMark l G bT uT x1 x2 x3 r_14 _ h_13) (cwV 3 hts (gd8_m gx_X8_X7_textMark_111) rfl rfl rfl hdx_X7_textMark ⟨Nat.le_of_ble_eq_true rfl, Nat.le_of_ble_eq_true rfl⟩) hK hA hT.1 hP hD hS (va_recv hK hP (ci := 4) (q0 := 4) rfl rfl) [4, 5, 6, 7, 8, 9, 10, 11, 12, 13, 14, 15, 16] rfl rfl rfl hl.1 rfl (Nat.le_of_ble_eq_true rfl) dX8_text_70 ?_
            cases (og_s hf)
          · replace hf := og_f c_12 hf
            exact w8t_text_B_53 C hL0 hnt hK hA hT hP hD hS hf (lv_sub hl [] rfl)
      · replace hf := og_t c_10 hf
        refine lv_iload hx hb dX8_text_40 (lv_at hl 0 rfl) ?_
        cases (og_s hf)
    · replace hf := og_t c_7 hf
      obtain rfl := Sum.inl.inj (og_s hf)
      exact th8_1 (rest := []) (is := 103) (tx := "no such text") C hL0 hT hS hnt hl.1 (by decide +kernel) mx_509 mx_510 dX8_text_14 dX8_text_17 dX8_text_18 dX8_text_20 dX8_text_23 (Nat.le_of_ble_eq_true rfl) (Nat.le_of_ble_eq_true rfl) (Nat.le_of_ble_eq_true rfl) (Nat.le_of_ble_eq_true rfl)
abbrev rm8_version_B : Room := { frames := 0, cells := 0, slots := 0, locals := 0 }
noncomputable abbrev ws8_version_B : List Cond := Cond.code yX8_version cX8_version 1 (some .int) :: WA8
theorem hd8_version_B : yX8_version.cls = RX8 ∧ yX8_version.cls ≠ "java/lang/invoke/MethodHandle" ∧ yX8_version.cls ≠ "java/lang/invoke/VarHandle" ∧ (parseMethodDescriptor yX8_version.desc).map (fun d => d.parameters.length) = some 0 := by decide +kernel
def f8_version_B (uX : Md) (uS : Md) (uT : Md) (uV : Md) (uP : Md) : Option Int32 := (some (gi uT 15))
set_option maxHeartbeats 4000000 in
set_option maxRecDepth 100000 in
theorem c8_version_B (l : Launch) (G : Gx) (bX bF bS bT bV bP : Nat → Nat) (uX : Md) (uS : Md) (uT : Md) (uV : Md) (uP : Md) (r : Int32) (sz : Nat) (hf : f8_version_B uX uS uT uV uP  = some r) : Met l yX8_version ws8_version_B rm8_version_B (pX8 G (c8 1 G bX bF bS bT bV bP (bT 0) (bV 0) uX uS uT uV uP) sz [.ref (bX 0)]) (k2_QcV (.int r)) 0 0 (fun _ => False) := by
  refine mx8_r (cc := cX8_version) (maxL := 1) (ret := (some .int)) (by decide) rfl (Nat.le_of_ble_eq_true rfl) ?_
  intro p e s m below meth c ls A C hl hK hA hT hP hD hS
  have hl : lv_has ls 1 [(0, .ref (bX 0))] := hl
  have hx := C.1.1
  have hb := C.1.2.1
  have hts := C.1.2.2.2.2
  have hown := C.1.2.2.2.1
  have hin5 : ∀ w ∈ wsX50, w ∈ ws8_version_B := fun w h => List.mem_cons_of_mem _ (m8 (List.mem_append_right _ (List.mem_append_left _ h)))
  have hin6 : ∀ w ∈ wsX60, w ∈ ws8_version_B := fun w h => List.mem_cons_of_mem _ (m8 (List.mem_append_right _ (List.mem_append_right _ (List.mem_append_left _ h))))
  have hin7 : ∀ w ∈ wsX70, w ∈ ws8_version_B := fun w h => List.mem_cons_of_mem _ (m8 (List.mem_append_right _ (List.mem_append_right _ (List.mem_append_right _ (List.mem_append_left _ h)))))
  have hin8 : ∀ w ∈ wsX80, w ∈ ws8_version_B := fun w h => List.mem_cons_of_mem _ (m8 (List.mem_append_right _ (List.mem_append_right _ (List.mem_append_right _ (List.mem_append_right _ h)))))
  unfold f8_version_B at hf
  refine lv_aload_n hx hb dX8_version_0 rfl (lv_at hl 0 rfl) ?_
  refine xg (v := .ref (bT 0)) (ci := 5) (K := RX8) (T := TX8) (N := 6) C hin8 hK hP 0 rfl rfl 3 (by decide) rfl (hts (Cond.fieldLink RX8 36 "SchematicText" "tree" "LSchematicText$Tree;") (List.mem_cons_of_mem _ (m8 mx_479))) rfl dX8_version_1 ?_
  refine xgN (v := .int (gi uT 15)) (ci := 4) (K := RX7) (T := TX7) (N := 16) (host := "SchematicText") C hT.1 hin7 hK hP 4 rfl rfl 15 (by decide) rfl (by decide +kernel) rfl dX8_version_4 ?_
  obtain rfl := (og_s hf)
  exact rt_i C dX8_version_7
abbrev rm8_unknown_B : Room := { frames := 7, cells := 0, slots := 0, locals := 111 }
abbrev rm8t_unknown_B : Room := { frames := 7, cells := 1, slots := 6, locals := 111 }
noncomputable abbrev ws8_unknown_B : List Cond := Cond.code yX8_unknown cX8_unknown 4 (some .int) :: WA8
theorem hd8_unknown_B : yX8_unknown.cls = RX8 ∧ yX8_unknown.cls ≠ "java/lang/invoke/MethodHandle" ∧ yX8_unknown.cls ≠ "java/lang/invoke/VarHandle" ∧ (parseMethodDescriptor yX8_unknown.desc).map (fun d => d.parameters.length) = some 2 := by decide +kernel
def f8_unknown_B_46 (uX : Md) (uS : Md) (uT : Md) (uV : Md) (uP : Md) : Option (Nat ⊕ Int32) := (some (Sum.inl 1))
set_option maxHeartbeats 4000000 in
set_option maxRecDepth 100000 in
theorem w8r_unknown_B_46 {p : Program} {l : Launch} {e : Env} {s : State} {m : MethodId} {args : Array Value} {below : List Frame} {meth : Method} {c : Code} {G : Gx} {A : Nat → Prop} {bX bF bS bT bV bP : Nat → Nat} (C : Cx p s m args meth c cX8_unknown 4 ws8_unknown_B RX8 (some .int)) {uX : Md} {uS : Md} {uT : Md} {uV : Md} {uP : Md} (hK : va_K (gD G) vwCl (tyG G) s) (hA : ∀ q : Nat, s.heap.size ≤ q → A q) (hT : ST8 G A s s.heap) (hP : va_P (gD G) vwCl (c8 1 G bX bF bS bT bV bP (bT 0) (bV 0) uX uS uT uV uP) s.heap) (hD : va_D A (c8 1 G bX bF bS bT bV bP (bT 0) (bV 0) uX uS uT uV uP)) (hS : va_S A s.heap s.heap []) {r : Int32} : f8_unknown_B_46 uX uS uT uV uP  = some (Sum.inr r) → ∀ {ls : Array Slot}, lv_has ls 4 [] → W p l e rm8_unknown_B s m args below meth c s.heap [] 0 0 (MQ below (k2_QcV (.int r)) args s 0 0 (fun _ => False)) (F0 m 46 ls []) := by
  have hx := C.1.1
  have hb := C.1.2.1
  have hts := C.1.2.2.2.2
  have hown := C.1.2.2.2.1
  have hin5 : ∀ w ∈ wsX50, w ∈ ws8_unknown_B := fun w h => List.mem_cons_of_mem _ (m8 (List.mem_append_right _ (List.mem_append_left _ h)))
  have hin6 : ∀ w ∈ wsX60, w ∈ ws8_unknown_B := fun w h => List.mem_cons_of_mem _ (m8 (List.mem_append_right _ (List.mem_append_right _ (List.mem_append_left _ h))))
  have hin7 : ∀ w ∈ wsX70, w ∈ ws8_unknown_B := fun w h => List.mem_cons_of_mem _ (m8 (List.mem_append_right _ (List.mem_append_right _ (List.mem_append_right _ (List.mem_append_left _ h)))))
  have hin8 : ∀ w ∈ wsX80, w ∈ ws8_unknown_B := fun w h => List.mem_cons_of_mem _ (m8 (List.mem_append_right _ (List.mem_append_right _ (List.mem_append_right _ (List.mem_append_right _ h)))))
  intro  hf ls hl
  unfold f8_unknown_B_46 at hf
  cases (og_s hf)
set_option maxHeartbeats 4000000 in
set_option maxRecDepth 100000 in
theorem w8t_unknown_B_46 {p : Program} {l : Launch} {e : Env} {s : State} {m : MethodId} {args : Array Value} {below : List Frame} {meth : Method} {c : Code} {G : Gx} {A : Nat → Prop} {bX bF bS bT bV bP : Nat → Nat} (C : Cx p s m args meth c cX8_unknown 4 ws8_unknown_B RX8 (some .int)) (hL0 : l.stackTraces = false) (hnt : ∀ x ∈ c.exceptionTable.toList, False) {uX uS uT uV uP : Md} (hK : va_K (gD G) vwCl (tyG G) s) (hA : ∀ q : Nat, s.heap.size ≤ q → A q) (hT : ST8 G A s s.heap) (hP : va_P (gD G) vwCl (c8 1 G bX bF bS bT bV bP (bT 0) (bV 0) uX uS uT uV uP) s.heap) (hD : va_D A (c8 1 G bX bF bS bT bV bP (bT 0) (bV 0) uX uS uT uV uP)) (hS : va_S A s.heap s.heap []) {ek : Nat} : f8_unknown_B_46 uX uS uT uV uP  = some (Sum.inl ek) → ∀ {ls : Array Slot}, lv_has ls 4 [] → W p l e rm8t_unknown_B s m args below meth c s.heap [] 0 0 (vx_MQ below Q0 (xc8 ek) args s 1 6 (fun _ => False)) (F0 m 46 ls []) := by
  have hx := C.1.1
  have hb := C.1.2.1
  have hts := C.1.2.2.2.2
  have hown := C.1.2.2.2.1
  have hin5 : ∀ w ∈ wsX50, w ∈ ws8_unknown_B := fun w h => List.mem_cons_of_mem _ (m8 (List.mem_append_right _ (List.mem_append_left _ h)))
  have hin6 : ∀ w ∈ wsX60, w ∈ ws8_unknown_B := fun w h => List.mem_cons_of_mem _ (m8 (List.mem_append_right _ (List.mem_append_right _ (List.mem_append_left _ h))))
  have hin7 : ∀ w ∈ wsX70, w ∈ ws8_unknown_B := fun w h => List.mem_cons_of_mem _ (m8 (List.mem_append_right _ (List.mem_append_right _ (List.mem_append_right _ (List.mem_append_left _ h)))))
  have hin8 : ∀ w ∈ wsX80, w ∈ ws8_unknown_B := fun w h => List.mem_cons_of_mem _ (m8 (List.mem_append_right _ (List.mem_append_right _ (List.mem_append_right _ (List.mem_append_right _ h)))))
  intro  hf ls hl
  unfold f8_unknown_B_46 at hf
  obtain rfl := Sum.inl.inj (og_s hf)
  exact th8_1 (rest := []) (is := 109) (tx := "no such character") C hL0 hT hS hnt hl.1 (by decide +kernel) mx_509 mx_510 dX8_unknown_46 dX8_unknown_49 dX8_unknown_50 dX8_unknown_52 dX8_unknown_55 (Nat.le_of_ble_eq_true rfl) (Nat.le_of_ble_eq_true rfl) (Nat.le_of_ble_eq_true rfl) (Nat.le_of_ble_eq_true rfl)
def f8_unknown_B (uX : Md) (uS : Md) (uT : Md) (uV : Md) (uP : Md) (x1 : Int32) (x2 : Int32) : Option (Nat ⊕ Int32) := ((f8_kindOfObject_B uX uS uT uV uP x1).bind fun q_1 => Sum.elim (fun e9 => some (Sum.inl e9)) (fun k_4 => (if k_4 = (9 : Fin 10) then ((fx_X7_keptSizeOf uT x1).bind fun r_7 => (if x2 = (-1 : Int32) then (some (Sum.inr r_7)) else (if x2 < 0 then (f8_unknown_B_46 uX uS uT uV uP) else (if x2 < r_7 then ((fx_X7_keptMark uT x1 x2).bind fun r_12 => (some (Sum.inr r_12))) else (f8_unknown_B_46 uX uS uT uV uP))))) else (some (Sum.inl 2)))) q_1)
set_option maxHeartbeats 4000000 in
set_option maxRecDepth 100000 in
theorem c8_unknown_B (l : Launch) (G : Gx) (bX bF bS bT bV bP : Nat → Nat) (uX : Md) (uS : Md) (uT : Md) (uV : Md) (uP : Md) (x1 : Int32) (x2 : Int32) (r : Int32) (sz : Nat) (hf : f8_unknown_B uX uS uT uV uP x1 x2 = some (Sum.inr r)) : Met l yX8_unknown ws8_unknown_B rm8_unknown_B (pX8 G (c8 1 G bX bF bS bT bV bP (bT 0) (bV 0) uX uS uT uV uP) sz [.ref (bX 0), .int x1, .int x2]) (k2_QcV (.int r)) 0 0 (fun _ => False) := by
  refine mx8_r (cc := cX8_unknown) (maxL := 4) (ret := (some .int)) (by decide) rfl (Nat.le_of_ble_eq_true rfl) ?_
  intro p e s m below meth c ls A C hl hK hA hT hP hD hS
  have hl : lv_has ls 4 [(0, .ref (bX 0)), (1, .int x1), (2, .int x2)] := hl
  have hx := C.1.1
  have hb := C.1.2.1
  have hts := C.1.2.2.2.2
  have hown := C.1.2.2.2.1
  have hin5 : ∀ w ∈ wsX50, w ∈ ws8_unknown_B := fun w h => List.mem_cons_of_mem _ (m8 (List.mem_append_right _ (List.mem_append_left _ h)))
  have hin6 : ∀ w ∈ wsX60, w ∈ ws8_unknown_B := fun w h => List.mem_cons_of_mem _ (m8 (List.mem_append_right _ (List.mem_append_right _ (List.mem_append_left _ h))))
  have hin7 : ∀ w ∈ wsX70, w ∈ ws8_unknown_B := fun w h => List.mem_cons_of_mem _ (m8 (List.mem_append_right _ (List.mem_append_right _ (List.mem_append_right _ (List.mem_append_left _ h)))))
  have hin8 : ∀ w ∈ wsX80, w ∈ ws8_unknown_B := fun w h => List.mem_cons_of_mem _ (m8 (List.mem_append_right _ (List.mem_append_right _ (List.mem_append_right _ (List.mem_append_right _ h)))))
  unfold f8_unknown_B at hf
  refine lv_aload_n hx hb dX8_unknown_0 rfl (lv_at hl 0 rfl) ?_
  refine lv_iload_n hx hb dX8_unknown_1 rfl (lv_at hl 1 rfl) ?_
  obtain ⟨q_1, h_2, hf⟩ := og_b hf
  rcases q_1 with e_3 | k_4
  · dsimp only [Sum.elim_inl] at hf
    cases (og_s hf)
  · dsimp only [Sum.elim_inr] at hf
    refine xr8_V (v := .ref (gK G (k_4).val)) (rest := []) (w0 := (c8 1 G bX bF bS bT bV bP (bT 0) (bV 0) uX uS uT uV uP)) C (c8_kindOfObject_B l G bX bF bS bT bV bP uX uS uT uV uP x1 k_4 _ h_2) (cwV 1 hts g8_kindOfObject_B rfl rfl rfl hd8_kindOfObject_B ⟨Nat.le_of_ble_eq_true rfl, Nat.le_of_ble_eq_true rfl⟩) hK hA hT hP hD hS (va_recv hK hP (ci := 5) (q0 := 0) rfl rfl) [0, 1, 2, 3, 4, 5, 6, 7, 8, 9, 10, 11, 12, 13, 14, 15, 16, 17, 18, 19, 20, 21, 22, 23, 24, 25, 26, 27, 28, 29, 30, 31] rfl rfl rfl hl.1 rfl (Nat.le_of_ble_eq_true rfl) dX8_unknown_2 ?_
    refine xK (i := (9 : Fin 10)) C hT.1 hS (hts (Cond.fieldLink RX8 118 "SchematicText$Kind" "UNKNOWN" "LSchematicText$Kind;") (List.mem_cons_of_mem _ (m8 mx_527))) dX8_unknown_5 ?_
    refine xa_eq (i := k_4) (j := (9 : Fin 10)) (tgt := 21) C hT.1 dX8_unknown_8 (by decide) (fun c_5 => ?_) (fun c_5 => ?_)
    · replace hf := og_t c_5 hf
      refine lv_aload_n hx hb dX8_unknown_21 rfl (lv_at hl 0 rfl) ?_
      refine xg (v := .ref (bT 0)) (ci := 5) (K := RX8) (T := TX8) (N := 6) C hin8 hK hP 0 rfl rfl 3 (by decide) rfl (hts (Cond.fieldLink RX8 36 "SchematicText" "tree" "LSchematicText$Tree;") (List.mem_cons_of_mem _ (m8 mx_479))) rfl dX8_unknown_22 ?_
      refine lv_iload_n hx hb dX8_unknown_25 rfl (lv_at hl 1 rfl) ?_
      obtain ⟨r_7, h_6, hf⟩ := og_b hf
      try dsimp only at hf
      refine xr_V (v := .int r_7) (rest := []) (w0 := (cT G bT uT)) C (cx_X7_keptSizeOf l G bT uT x1 r_7 _ h_6) (cwV 1 hts (gd8_m gx_X8_X7_keptSizeOf_127) rfl rfl rfl hdx_X7_keptSizeOf ⟨Nat.le_of_ble_eq_true rfl, Nat.le_of_ble_eq_true rfl⟩) hK hA hT.1 hP hD hS (va_recv hK hP (ci := 4) (q0 := 4) rfl rfl) [4, 5, 6, 7, 8, 9, 10, 11, 12, 13, 14, 15, 16] rfl rfl rfl hl.1 rfl (Nat.le_of_ble_eq_true rfl) dX8_unknown_26 ?_
      refine lv_istore_n (lv' := [(3, .int r_7), (0, .ref (bX 0)), (1, .int x1), (2, .int x2)]) hx hb dX8_unknown_29 rfl hl (by decide) rfl (fun ls hl => ?_)
      refine lv_iload_n hx hb dX8_unknown_30 rfl (lv_at hl 3 rfl) ?_
      refine lv_iconst (v := (-1 : Int32)) hx hb dX8_unknown_31 (by decide) ?_
      refine lv_icmp_ne (tgt := 37) hx hb dX8_unknown_32 (by decide) (fun c_8 => ?_) (fun c_8 => ?_)
      · replace hf := og_f c_8 hf
        refine lv_iload_n hx hb dX8_unknown_37 rfl (lv_at hl 3 rfl) ?_
        refine lv_if_lt (tgt := 46) hx hb dX8_unknown_38 (by decide) (fun c_9 => ?_) (fun c_9 => ?_)
        · replace hf := og_t c_9 hf
          exact w8r_unknown_B_46 C hK hA hT hP hD hS hf (lv_sub hl [] rfl)
        · replace hf := og_f c_9 hf
          refine lv_iload_n hx hb dX8_unknown_41 rfl (lv_at hl 3 rfl) ?_
          refine lv_iload_n hx hb dX8_unknown_42 rfl (lv_at hl 0 rfl) ?_
          refine lv_icmp_lt (tgt := 56) hx hb dX8_unknown_43 (by decide) (fun c_10 => ?_) (fun c_10 => ?_)
          · replace hf := og_t c_10 hf
            refine lv_aload_n hx hb dX8_unknown_56 rfl (lv_at hl 1 rfl) ?_
            refine xg (v := .ref (bT 0)) (ci := 5) (K := RX8) (T := TX8) (N := 6) C hin8 hK hP 0 rfl rfl 3 (by decide) rfl (hts (Cond.fieldLink RX8 36 "SchematicText" "tree" "LSchematicText$Tree;") (List.mem_cons_of_mem _ (m8 mx_479))) rfl dX8_unknown_57 ?_
            refine lv_iload_n hx hb dX8_unknown_60 rfl (lv_at hl 2 rfl) ?_
            refine lv_iload_n hx hb dX8_unknown_61 rfl (lv_at hl 3 rfl) ?_
            obtain ⟨r_12, h_11, hf⟩ := og_b hf
            try dsimp only at hf
            refine xr_V (v := .int r_12) (rest := []) (w0 := (cT G bT uT)) C (cx_X7_keptMark l G bT uT x1 x2 r_12 _ h_11) (cwV 2 hts (gd8_m gx_X8_X7_keptMark_130) rfl rfl rfl hdx_X7_keptMark ⟨Nat.le_of_ble_eq_true rfl, Nat.le_of_ble_eq_true rfl⟩) hK hA hT.1 hP hD hS (va_recv hK hP (ci := 4) (q0 := 4) rfl rfl) [4, 5, 6, 7, 8, 9, 10, 11, 12, 13, 14, 15, 16] rfl rfl rfl hl.1 rfl (Nat.le_of_ble_eq_true rfl) dX8_unknown_62 ?_
            obtain rfl := (Sum.inr.inj (og_s hf))
            exact rt_i C dX8_unknown_65
          · replace hf := og_f c_10 hf
            exact w8r_unknown_B_46 C hK hA hT hP hD hS hf (lv_sub hl [] rfl)
      · replace hf := og_t c_8 hf
        refine lv_iload_n hx hb dX8_unknown_35 rfl (lv_at hl 0 rfl) ?_
        obtain rfl := (Sum.inr.inj (og_s hf))
        exact rt_i C dX8_unknown_36
    · replace hf := og_f c_5 hf
      cases (og_s hf)
set_option maxHeartbeats 4000000 in
set_option maxRecDepth 100000 in
theorem t8_unknown_B (l : Launch) (hL0 : l.stackTraces = false) (G : Gx) (bX bF bS bT bV bP : Nat → Nat) (uX : Md) (uS : Md) (uT : Md) (uV : Md) (uP : Md) (x1 : Int32) (x2 : Int32) (ek : Nat) (sz : Nat) (hf : f8_unknown_B uX uS uT uV uP x1 x2 = some (Sum.inl ek)) : vx_Met l yX8_unknown ws8_unknown_B rm8t_unknown_B (pX8 G (c8 1 G bX bF bS bT bV bP (bT 0) (bV 0) uX uS uT uV uP) sz [.ref (bX 0), .int x1, .int x2]) Q0 (xc8 ek) 1 6 (fun _ => False) := by
  refine mx8_t (cc := cX8_unknown) (maxL := 4) (ret := (some .int)) (by decide) rfl (Nat.le_of_ble_eq_true rfl) ?_
  intro p e s m below meth c ls A C hnt hl hK hA hT hP hD hS
  have hl : lv_has ls 4 [(0, .ref (bX 0)), (1, .int x1), (2, .int x2)] := hl
  have hx := C.1.1
  have hb := C.1.2.1
  have hts := C.1.2.2.2.2
  have hown := C.1.2.2.2.1
  have hin5 : ∀ w ∈ wsX50, w ∈ ws8_unknown_B := fun w h => List.mem_cons_of_mem _ (m8 (List.mem_append_right _ (List.mem_append_left _ h)))
  have hin6 : ∀ w ∈ wsX60, w ∈ ws8_unknown_B := fun w h => List.mem_cons_of_mem _ (m8 (List.mem_append_right _ (List.mem_append_right _ (List.mem_append_left _ h))))
  have hin7 : ∀ w ∈ wsX70, w ∈ ws8_unknown_B := fun w h => List.mem_cons_of_mem _ (m8 (List.mem_append_right _ (List.mem_append_right _ (List.mem_append_right _ (List.mem_append_left _ h)))))
  have hin8 : ∀ w ∈ wsX80, w ∈ ws8_unknown_B := fun w h => List.mem_cons_of_mem _ (m8 (List.mem_append_right _ (List.mem_append_right _ (List.mem_append_right _ (List.mem_append_right _ h)))))
  unfold f8_unknown_B at hf
  refine lv_aload_n hx hb dX8_unknown_0 rfl (lv_at hl 0 rfl) ?_
  refine lv_iload_n hx hb dX8_unknown_1 rfl (lv_at hl 1 rfl) ?_
  obtain ⟨q_1, h_2, hf⟩ := og_b hf
  rcases q_1 with e_3 | k_4
  · dsimp only [Sum.elim_inl] at hf
    obtain rfl := Sum.inl.inj (og_s hf)
    exact xt8_V (w0 := (c8 1 G bX bF bS bT bV bP (bT 0) (bV 0) uX uS uT uV uP)) (rest := []) C hnt (t8_kindOfObject_B l hL0 G bX bF bS bT bV bP uX uS uT uV uP x1 e_3 _ h_2) (cwV 1 hts g8_kindOfObject_B rfl rfl rfl hd8_kindOfObject_B ⟨Nat.le_of_ble_eq_true rfl, Nat.le_of_ble_eq_true rfl⟩) hK hA hT hP hD hS (va_recv hK hP (ci := 5) (q0 := 0) rfl rfl) [0, 1, 2, 3, 4, 5, 6, 7, 8, 9, 10, 11, 12, 13, 14, 15, 16, 17, 18, 19, 20, 21, 22, 23, 24, 25, 26, 27, 28, 29, 30, 31] rfl rfl rfl hl.1 rfl (Nat.le_of_ble_eq_true rfl) ⟨Nat.le_of_ble_eq_true rfl, Nat.le_of_ble_eq_true rfl⟩ dX8_unknown_2
  · dsimp only [Sum.elim_inr] at hf
    refine xr8_V (v := .ref (gK G (k_4).val)) (rest := []) (w0 := (c8 1 G bX bF bS bT bV bP (bT 0) (bV 0) uX uS uT uV uP)) C (c8_kindOfObject_B l G bX bF bS bT bV bP uX uS uT uV uP x1 k_4 _ h_2) (cwV 1 hts g8_kindOfObject_B rfl rfl rfl hd8_kindOfObject_B ⟨Nat.le_of_ble_eq_true rfl, Nat.le_of_ble_eq_true rfl⟩) hK hA hT hP hD hS (va_recv hK hP (ci := 5) (q0 := 0) rfl rfl) [0, 1, 2, 3, 4, 5, 6, 7, 8, 9, 10, 11, 12, 13, 14, 15, 16, 17, 18, 19, 20, 21, 22, 23, 24, 25, 26, 27, 28, 29, 30, 31] rfl rfl rfl hl.1 rfl (Nat.le_of_ble_eq_true rfl) dX8_unknown_2 ?_
    refine xK (i := (9 : Fin 10)) C hT.1 hS (hts (Cond.fieldLink RX8 118 "SchematicText$Kind" "UNKNOWN" "LSchematicText$Kind;") (List.mem_cons_of_mem _ (m8 mx_527))) dX8_unknown_5 ?_
    refine xa_eq (i := k_4) (j := (9 : Fin 10)) (tgt := 21) C hT.1 dX8_unknown_8 (by decide) (fun c_5 => ?_) (fun c_5 => ?_)
    · replace hf := og_t c_5 hf
      refine lv_aload_n hx hb dX8_unknown_21 rfl (lv_at hl 0 rfl) ?_
      refine xg (v := .ref (bT 0)) (ci := 5) (K := RX8) (T := TX8) (N := 6) C hin8 hK hP 0 rfl rfl 3 (by decide) rfl (hts (Cond.fieldLink RX8 36 "SchematicText" "tree" "LSchematicText$Tree;") (List.mem_cons_of_mem _ (m8 mx_479))) rfl dX8_unknown_22 ?_
      refine lv_iload_n hx hb dX8_unknown_25 rfl (lv_at hl 1 rfl) ?_
      obtain ⟨r_7, h_6, hf⟩ := og_b hf
      try dsimp only at hf
      refine xr_V (v := .int r_7) (rest := []) (w0 := (cT G bT uT)) C (cx_X7_keptSizeOf l G bT uT x1 r_7 _ h_6) (cwV 1 hts (gd8_m gx_X8_X7_keptSizeOf_127) rfl rfl rfl hdx_X7_keptSizeOf ⟨Nat.le_of_ble_eq_true rfl, Nat.le_of_ble_eq_true rfl⟩) hK hA hT.1 hP hD hS (va_recv hK hP (ci := 4) (q0 := 4) rfl rfl) [4, 5, 6, 7, 8, 9, 10, 11, 12, 13, 14, 15, 16] rfl rfl rfl hl.1 rfl (Nat.le_of_ble_eq_true rfl) dX8_unknown_26 ?_
      refine lv_istore_n (lv' := [(3, .int r_7), (0, .ref (bX 0)), (1, .int x1), (2, .int x2)]) hx hb dX8_unknown_29 rfl hl (by decide) rfl (fun ls hl => ?_)
      refine lv_iload_n hx hb dX8_unknown_30 rfl (lv_at hl 3 rfl) ?_
      refine lv_iconst (v := (-1 : Int32)) hx hb dX8_unknown_31 (by decide) ?_
      refine lv_icmp_ne (tgt := 37) hx hb dX8_unknown_32 (by decide) (fun c_8 => ?_) (fun c_8 => ?_)
      · replace hf := og_f c_8 hf
        refine lv_iload_n hx hb dX8_unknown_37 rfl (lv_at hl 3 rfl) ?_
        refine lv_if_lt (tgt := 46) hx hb dX8_unknown_38 (by decide) (fun c_9 => ?_) (fun c_9 => ?_)
        · replace hf := og_t c_9 hf
          exact w8t_unknown_B_46 C hL0 hnt hK hA hT hP hD hS hf (lv_sub hl [] rfl)
        · replace hf := og_f c_9 hf
          refine lv_iload_n hx hb dX8_unknown_41 rfl (lv_at hl 3 rfl) ?_
          refine lv_iload_n hx hb dX8_unknown_42 rfl (lv_at hl 0 rfl) ?_
          refine lv_icmp_lt (tgt := 56) hx hb dX8_unknown_43 (by decide) (fun c_10 => ?_) (fun c_10 => ?_)
          · replace hf := og_t c_10 hf
            refine lv_aload_n hx hb dX8_unknown_56 rfl (lv_at hl 1 rfl) ?_
            refine xg (v := .ref (bT 0)) (ci := 5) (K := RX8) (T := TX8) (N := 6) C hin8 hK hP 0 rfl rfl 3 (by decide) rfl (hts (Cond.fieldLink RX8 36 "SchematicText" "tree" "LSchematicText$Tree;") (List.mem_cons_of_mem _ (m8 mx_479))) rfl dX8_unknown_57 ?_
            refine lv_iload_n hx hb dX8_unknown_60 rfl (lv_at hl 2 rfl) ?_
            refine lv_iload_n hx hb dX8_unknown_61 rfl (lv_at hl 3 rfl) ?_
            obtain ⟨r_12, h_11, hf⟩ := og_b hf
            try dsimp only at hf
            refine xr_V (v := .int r_12) (rest := []) (w0 := (cT G bT uT)) C (cx_X7_keptMark l G bT uT x1 x2 r_12 _ h_11) (cwV 2 hts (gd8_m gx_X8_X7_keptMark_130) rfl rfl rfl hdx_X7_keptMark ⟨Nat.le_of_ble_eq_true rfl, Nat.le_of_ble_eq_true rfl⟩) hK hA hT.1 hP hD hS (va_recv hK hP (ci := 4) (q0 := 4) rfl rfl) [4, 5, 6, 7, 8, 9, 10, 11, 12, 13, 14, 15, 16] rfl rfl rfl hl.1 rfl (Nat.le_of_ble_eq_true rfl) dX8_unknown_62 ?_
            cases (og_s hf)
          · replace hf := og_f c_10 hf
            exact w8t_unknown_B_46 C hL0 hnt hK hA hT hP hD hS hf (lv_sub hl [] rfl)
      · replace hf := og_t c_8 hf
        refine lv_iload_n hx hb dX8_unknown_35 rfl (lv_at hl 0 rfl) ?_
        cases (og_s hf)
    · replace hf := og_f c_5 hf
      obtain rfl := Sum.inl.inj (og_s hf)
      exact th8_2 (rest := []) (is := 124) (tx := "the object is of another kind") C hL0 hT hS hnt hl.1 (by decide +kernel) mx_525 mx_526 dX8_unknown_11 dX8_unknown_14 dX8_unknown_15 dX8_unknown_17 dX8_unknown_20 (Nat.le_of_ble_eq_true rfl) (Nat.le_of_ble_eq_true rfl) (Nat.le_of_ble_eq_true rfl) (Nat.le_of_ble_eq_true rfl)
theorem gx_X8_X4_tell_B_138 {c0 : Cond} : GoodIn (c0 :: WAX) (va_wsU RX8 138 RX4 "SchematicText$Form" ⟨"SchematicText$Form", "tell", "(LSchematicText$Tree;LSchematicText$Page;)V"⟩ yX4_tell wsx_X4_tell_B) := gdx_u mx_534 mx_535 mx_538 mx_539 mx_209 mx_435
abbrev rm8_write_B : Room := { frames := 7, cells := 0, slots := 0, locals := 161 }
abbrev rm8t_write_B : Room := { frames := 7, cells := 1, slots := 6, locals := 161 }
noncomputable abbrev ws8_write_B : List Cond := Cond.code yX8_write cX8_write 2 (some .int) :: WA8
theorem hd8_write_B : yX8_write.cls = RX8 ∧ yX8_write.cls ≠ "java/lang/invoke/MethodHandle" ∧ yX8_write.cls ≠ "java/lang/invoke/VarHandle" ∧ (parseMethodDescriptor yX8_write.desc).map (fun d => d.parameters.length) = some 1 := by decide +kernel
def f8_write_B_68 (uS : Md) (uT : Md) (uV : Md) (uX : Md) (uP : Md) (x1 : Int32) : Option (Nat ⊕ (Int32 × Md × Md)) := ((fx_X5_markAt uP x1).bind fun r_9 => (some (Sum.inr (r_9, uX, uP))))
set_option maxHeartbeats 4000000 in
set_option maxRecDepth 100000 in
theorem w8r_write_B_68 {p : Program} {l : Launch} {e : Env} {s : State} {m : MethodId} {args : Array Value} {below : List Frame} {meth : Method} {c : Code} {G : Gx} {A : Nat → Prop} {bX bF bS bT bV bP : Nat → Nat} (C : Cx p s m args meth c cX8_write 2 ws8_write_B RX8 (some .int)) {uS : Md} {uT : Md} {uV : Md} (hK : va_K (gD G) vwCl (tyG G) s) (hA : ∀ q : Nat, s.heap.size ≤ q → A q) (hT : ST8 G A s s.heap) {r : (Int32 × Md × Md)} : ∀ (uX : Md) (uP : Md) (x1 : Int32), f8_write_B_68 uS uT uV uX uP x1 = some (Sum.inr r) → ∀ {H : Heap} {locs : List Loc}, va_P (gD G) vwCl (c8 1 G bX bF bS bT bV bP (bT 0) (bV 0) uX uS uT uV uP) H → va_D A (c8 1 G bX bF bS bT bV bP (bT 0) (bV 0) uX uS uT uV uP) → va_S A s.heap H locs → ∀ {ls : Array Slot}, lv_has ls 2 [(0, .ref (bX 0)), (1, .int x1)] → W p l e rm8_write_B s m args below meth c H locs 0 0 (MQ below (qW (some (.int r.1)) (c8 1 G bX bF bS bT bV bP (bT 0) (bV 0) r.2.1 uS uT uV r.2.2) (gD G) (tyG G) A) args s 0 0 A) (F0 m 68 ls []) := by
  have hx := C.1.1
  have hb := C.1.2.1
  have hts := C.1.2.2.2.2
  have hown := C.1.2.2.2.1
  have hin5 : ∀ w ∈ wsX50, w ∈ ws8_write_B := fun w h => List.mem_cons_of_mem _ (m8 (List.mem_append_right _ (List.mem_append_left _ h)))
  have hin6 : ∀ w ∈ wsX60, w ∈ ws8_write_B := fun w h => List.mem_cons_of_mem _ (m8 (List.mem_append_right _ (List.mem_append_right _ (List.mem_append_left _ h))))
  have hin7 : ∀ w ∈ wsX70, w ∈ ws8_write_B := fun w h => List.mem_cons_of_mem _ (m8 (List.mem_append_right _ (List.mem_append_right _ (List.mem_append_right _ (List.mem_append_left _ h)))))
  have hin8 : ∀ w ∈ wsX80, w ∈ ws8_write_B := fun w h => List.mem_cons_of_mem _ (m8 (List.mem_append_right _ (List.mem_append_right _ (List.mem_append_right _ (List.mem_append_right _ h)))))
  intro uX uP x1 hf H locs hP hD hS ls hl
  unfold f8_write_B_68 at hf
  refine lv_aload_n hx hb dX8_write_68 rfl (lv_at hl 0 rfl) ?_
  refine xg (v := .ref (bP 0)) (ci := 5) (K := RX8) (T := TX8) (N := 6) C hin8 hK hP 0 rfl rfl 2 (by decide) rfl (hts (Cond.fieldLink RX8 29 "SchematicText" "page" "LSchematicText$Page;") (List.mem_cons_of_mem _ (m8 mx_476))) rfl dX8_write_69 ?_
  refine lv_iload_n hx hb dX8_write_72 rfl (lv_at hl 1 rfl) ?_
  obtain ⟨r_9, h_8, hf⟩ := og_b hf
  try dsimp only at hf
  refine xr_V (v := .int r_9) (rest := []) (w0 := (cP G bP uP)) C (cx_X5_markAt l G bP uP x1 r_9 _ h_8) (cwV 1 hts (gd8_m gx_X8_X5_markAt_142) rfl rfl rfl hdx_X5_markAt ⟨Nat.le_of_ble_eq_true rfl, Nat.le_of_ble_eq_true rfl⟩) hK hA hT.1 hP hD hS (va_recv hK hP (ci := 2) (q0 := 30) rfl rfl) [30, 31] rfl rfl rfl hl.1 rfl (Nat.le_of_ble_eq_true rfl) dX8_write_73 ?_
  obtain rfl := (Sum.inr.inj (og_s hf))
  exact rw_i C hK hP hD hS dX8_write_76
theorem n8_write_B_68 (uS : Md) (uT : Md) (uV : Md) (uX : Md) (uP : Md) (x1 : Int32) (e9 : Nat) : f8_write_B_68 uS uT uV uX uP x1 ≠ some (Sum.inl e9) := by
  intro hf
  unfold f8_write_B_68 at hf
  obtain ⟨r_11, h_10, hf⟩ := og_b hf
  try dsimp only at hf
  cases (og_s hf)
set_option maxHeartbeats 4000000 in
set_option maxRecDepth 100000 in
theorem w8t_write_B_68 {p : Program} {l : Launch} {e : Env} {s : State} {m : MethodId} {args : Array Value} {below : List Frame} {meth : Method} {c : Code} {G : Gx} {A : Nat → Prop} {bX bF bS bT bV bP : Nat → Nat} (C : Cx p s m args meth c cX8_write 2 ws8_write_B RX8 (some .int)) (hL0 : l.stackTraces = false) (hnt : ∀ x ∈ c.exceptionTable.toList, False) {uX uS uT uV uP : Md} (hK : va_K (gD G) vwCl (tyG G) s) (hA : ∀ q : Nat, s.heap.size ≤ q → A q) (hT : ST8 G A s s.heap) (hP : va_P (gD G) vwCl (c8 1 G bX bF bS bT bV bP (bT 0) (bV 0) uX uS uT uV uP) s.heap) (hD : va_D A (c8 1 G bX bF bS bT bV bP (bT 0) (bV 0) uX uS uT uV uP)) (hS : va_S A s.heap s.heap []) {ek : Nat} : ∀ (x1 : Int32), f8_write_B_68 uS uT uV uX uP x1 = some (Sum.inl ek) → ∀ {ls : Array Slot}, lv_has ls 2 [(0, .ref (bX 0)), (1, .int x1)] → W p l e rm8t_write_B s m args below meth c s.heap [] 0 0 (vx_MQ below Q0 (xc8 ek) args s 1 6 (fun _ => False)) (F0 m 68 ls []) := by
  have hx := C.1.1
  have hb := C.1.2.1
  have hts := C.1.2.2.2.2
  have hown := C.1.2.2.2.1
  have hin5 : ∀ w ∈ wsX50, w ∈ ws8_write_B := fun w h => List.mem_cons_of_mem _ (m8 (List.mem_append_right _ (List.mem_append_left _ h)))
  have hin6 : ∀ w ∈ wsX60, w ∈ ws8_write_B := fun w h => List.mem_cons_of_mem _ (m8 (List.mem_append_right _ (List.mem_append_right _ (List.mem_append_left _ h))))
  have hin7 : ∀ w ∈ wsX70, w ∈ ws8_write_B := fun w h => List.mem_cons_of_mem _ (m8 (List.mem_append_right _ (List.mem_append_right _ (List.mem_append_right _ (List.mem_append_left _ h)))))
  have hin8 : ∀ w ∈ wsX80, w ∈ ws8_write_B := fun w h => List.mem_cons_of_mem _ (m8 (List.mem_append_right _ (List.mem_append_right _ (List.mem_append_right _ (List.mem_append_right _ h)))))
  intro x1 hf ls hl
  unfold f8_write_B_68 at hf
  refine lv_aload_n hx hb dX8_write_68 rfl (lv_at hl 0 rfl) ?_
  refine xg (v := .ref (bP 0)) (ci := 5) (K := RX8) (T := TX8) (N := 6) C hin8 hK hP 0 rfl rfl 2 (by decide) rfl (hts (Cond.fieldLink RX8 29 "SchematicText" "page" "LSchematicText$Page;") (List.mem_cons_of_mem _ (m8 mx_476))) rfl dX8_write_69 ?_
  refine lv_iload_n hx hb dX8_write_72 rfl (lv_at hl 1 rfl) ?_
  obtain ⟨r_9, h_8, hf⟩ := og_b hf
  try dsimp only at hf
  refine xr_V (v := .int r_9) (rest := []) (w0 := (cP G bP uP)) C (cx_X5_markAt l G bP uP x1 r_9 _ h_8) (cwV 1 hts (gd8_m gx_X8_X5_markAt_142) rfl rfl rfl hdx_X5_markAt ⟨Nat.le_of_ble_eq_true rfl, Nat.le_of_ble_eq_true rfl⟩) hK hA hT.1 hP hD hS (va_recv hK hP (ci := 2) (q0 := 30) rfl rfl) [30, 31] rfl rfl rfl hl.1 rfl (Nat.le_of_ble_eq_true rfl) dX8_write_73 ?_
  cases (og_s hf)
def f8_write_B (uX : Md) (uS : Md) (uT : Md) (uV : Md) (uP : Md) (x1 : Int32) : Option (Nat ⊕ (Int32 × Md × Md)) := (if 0 ≤ x1 then (if (gi uT 13) = 0 then (some (Sum.inl 2)) else (if (gi uX 5) = 0 then ((fx_X5_forget uP).bind fun u_5 => ((fx_X4_tell_B uT u_5).bind fun u_7 => (f8_write_B_68 uS uT uV (si uX 5 (1 : Int32)) u_7 x1))) else (f8_write_B_68 uS uT uV uX uP x1))) else (some (Sum.inl 1)))
set_option maxHeartbeats 4000000 in
set_option maxRecDepth 100000 in
theorem c8_write_B (l : Launch) (G : Gx) (bX bF bS bT bV bP : Nat → Nat) (uX : Md) (uS : Md) (uT : Md) (uV : Md) (uP : Md) (x1 : Int32) (r : Int32) (vX : Md) (vP : Md) (sz : Nat) (hf : f8_write_B uX uS uT uV uP x1 = some (Sum.inr (r, vX, vP))) : Met l yX8_write ws8_write_B rm8_write_B (pX8 G (c8 1 G bX bF bS bT bV bP (bT 0) (bV 0) uX uS uT uV uP) sz [.ref (bX 0), .int x1]) (qW (some (.int r)) (c8 1 G bX bF bS bT bV bP (bT 0) (bV 0) vX uS uT uV vP) (gD G) (tyG G) (va_A (c8 1 G bX bF bS bT bV bP (bT 0) (bV 0) uX uS uT uV uP) sz)) 0 0 (va_A (c8 1 G bX bF bS bT bV bP (bT 0) (bV 0) uX uS uT uV uP) sz) := by
  refine mx8_w (cc := cX8_write) (maxL := 2) (ret := (some .int)) (by decide) rfl (Nat.le_of_ble_eq_true rfl) ?_
  intro p e s m below meth c ls A C hl hK hA hT hP hD hS
  have hl : lv_has ls 2 [(0, .ref (bX 0)), (1, .int x1)] := hl
  have hx := C.1.1
  have hb := C.1.2.1
  have hts := C.1.2.2.2.2
  have hown := C.1.2.2.2.1
  have hin5 : ∀ w ∈ wsX50, w ∈ ws8_write_B := fun w h => List.mem_cons_of_mem _ (m8 (List.mem_append_right _ (List.mem_append_left _ h)))
  have hin6 : ∀ w ∈ wsX60, w ∈ ws8_write_B := fun w h => List.mem_cons_of_mem _ (m8 (List.mem_append_right _ (List.mem_append_right _ (List.mem_append_left _ h))))
  have hin7 : ∀ w ∈ wsX70, w ∈ ws8_write_B := fun w h => List.mem_cons_of_mem _ (m8 (List.mem_append_right _ (List.mem_append_right _ (List.mem_append_right _ (List.mem_append_left _ h)))))
  have hin8 : ∀ w ∈ wsX80, w ∈ ws8_write_B := fun w h => List.mem_cons_of_mem _ (m8 (List.mem_append_right _ (List.mem_append_right _ (List.mem_append_right _ (List.mem_append_right _ h)))))
  unfold f8_write_B at hf
  refine lv_iload_n hx hb dX8_write_0 rfl (lv_at hl 1 rfl) ?_
  refine lv_if_ge (tgt := 14) hx hb dX8_write_1 (by decide) (fun c_1 => ?_) (fun c_1 => ?_)
  · replace hf := og_t c_1 hf
    refine lv_aload_n hx hb dX8_write_14 rfl (lv_at hl 0 rfl) ?_
    refine xg (v := .ref (bT 0)) (ci := 5) (K := RX8) (T := TX8) (N := 6) C hin8 hK hP 0 rfl rfl 3 (by decide) rfl (hts (Cond.fieldLink RX8 36 "SchematicText" "tree" "LSchematicText$Tree;") (List.mem_cons_of_mem _ (m8 mx_479))) rfl dX8_write_15 ?_
    refine xgN (v := .int (gi uT 13)) (ci := 4) (K := RX7) (T := TX7) (N := 16) (host := "SchematicText") C hT.1 hin7 hK hP 4 rfl rfl 13 (by decide) rfl (by decide +kernel) rfl dX8_write_18 ?_
    refine lv_if_ne (tgt := 34) hx hb dX8_write_21 (by decide) (fun c_2 => ?_) (fun c_2 => ?_)
    · replace hf := og_f c_2 hf
      refine lv_aload_n hx hb dX8_write_34 rfl (lv_at hl 0 rfl) ?_
      refine xg (v := .int (gi uX 5)) (ci := 5) (K := RX8) (T := TX8) (N := 6) C hin8 hK hP 0 rfl rfl 5 (by decide) rfl (hts (Cond.fieldLink RX8 43 "SchematicText" "pageHolds" "Z") (List.mem_cons_of_mem _ (m8 mx_481))) rfl dX8_write_35 ?_
      refine lv_if_ne (tgt := 68) hx hb dX8_write_38 (by decide) (fun c_3 => ?_) (fun c_3 => ?_)
      · replace hf := og_f c_3 hf
        exact w8r_write_B_68 C hK hA hT uX uP x1 hf hP hD hS (lv_sub hl [0, 1] rfl)
      · replace hf := og_t c_3 hf
        refine lv_aload_n hx hb dX8_write_41 rfl (lv_at hl 0 rfl) ?_
        refine xg (v := .ref (bP 0)) (ci := 5) (K := RX8) (T := TX8) (N := 6) C hin8 hK hP 0 rfl rfl 2 (by decide) rfl (hts (Cond.fieldLink RX8 29 "SchematicText" "page" "LSchematicText$Page;") (List.mem_cons_of_mem _ (m8 mx_476))) rfl dX8_write_42 ?_
        obtain ⟨u_5, h_4, hf⟩ := og_b hf
        try dsimp only at hf
        refine xw_V (ov := none) (st1 := []) (rest := []) (w0 := (cP G bP uP)) (w1 := (cP G bP u_5)) (wr := ([(bX 0, .inr (5, fs8 bF bS bP (bT 0) (bV 0) uX))] ++ cF 1 bF ++ cS G bS uS ++ cT G bT uT ++ cT G bV uV)) (w' := (c8 1 G bX bF bS bT bV bP (bT 0) (bV 0) uX uS uT uV u_5)) C (cx_X5_forget l G bP uP u_5 _ h_4) (cwV 0 hts (gd8_m gx_X8_X5_forget_137) rfl rfl rfl hdx_X5_forget ⟨Nat.le_of_ble_eq_true rfl, Nat.le_of_ble_eq_true rfl⟩) hK hA hT.1 hP hD hS (va_recv hK hP (ci := 2) (q0 := 30) rfl rfl) [30, 31] [0, 1, 2, 3, 4, 5, 6, 7, 8, 9, 10, 11, 12, 13, 14, 15, 16, 17, 18, 19, 20, 21, 22, 23, 24, 25, 26, 27, 28, 29] [0, 1, 2, 3, 4, 5, 6, 7, 8, 9, 10, 11, 12, 13, 14, 15, 16, 17, 18, 19, 20, 21, 22, 23, 24, 25, 26, 27, 28, 29, 30, 31] rfl rfl rfl rfl (by decide) rfl rfl rfl hl.1 rfl rfl (Nat.le_of_ble_eq_true rfl) dX8_write_45 (fun H locs hP hD hS => ?_)
        refine lv_aload_n hx hb dX8_write_48 rfl (lv_at hl 0 rfl) ?_
        refine xg (v := .ref (bF 0)) (ci := 5) (K := RX8) (T := TX8) (N := 6) C hin8 hK hP 0 rfl rfl 0 (by decide) rfl (hts (Cond.fieldLink RX8 13 "SchematicText" "form" "LSchematicText$Form;") (List.mem_cons_of_mem _ (m8 mx_470))) rfl dX8_write_49 ?_
        refine lv_aload_n hx hb dX8_write_52 rfl (lv_at hl 0 rfl) ?_
        refine xg (v := .ref (bT 0)) (ci := 5) (K := RX8) (T := TX8) (N := 6) C hin8 hK hP 0 rfl rfl 3 (by decide) rfl (hts (Cond.fieldLink RX8 36 "SchematicText" "tree" "LSchematicText$Tree;") (List.mem_cons_of_mem _ (m8 mx_479))) rfl dX8_write_53 ?_
        refine lv_aload_n hx hb dX8_write_56 rfl (lv_at hl 0 rfl) ?_
        refine xg (v := .ref (bP 0)) (ci := 5) (K := RX8) (T := TX8) (N := 6) C hin8 hK hP 0 rfl rfl 2 (by decide) rfl (hts (Cond.fieldLink RX8 29 "SchematicText" "page" "LSchematicText$Page;") (List.mem_cons_of_mem _ (m8 mx_476))) rfl dX8_write_57 ?_
        obtain ⟨u_7, h_6, hf⟩ := og_b hf
        try dsimp only at hf
        refine xw_U (ov := none) (st1 := []) (rest := []) (w0 := (cF 1 bF ++ cT G bT uT ++ cP G bP u_5)) (w1 := (cF 1 bF ++ cT G bT uT ++ cP G bP u_7)) (wr := ([(bX 0, .inr (5, fs8 bF bS bP (bT 0) (bV 0) uX))] ++ cS G bS uS ++ cT G bV uV)) (w' := (c8 1 G bX bF bS bT bV bP (bT 0) (bV 0) uX uS uT uV u_7)) C (cx_X4_tell_B l G bF bT bP uT u_5 u_7 _ h_6) (va_cwA 2 hts (gd8_m gx_X8_X4_tell_B_138) rfl rfl rfl (hT.1.2.2.2 _ (by decide +kernel)) hdo_X4_tell_B ⟨Nat.le_of_ble_eq_true rfl, Nat.le_of_ble_eq_true rfl⟩) hK hA hT.1 hP hD hS (va_recv hK hP (ci := 1) (q0 := 1) rfl rfl) [1, 4, 5, 6, 7, 8, 9, 10, 11, 12, 13, 14, 15, 16, 30, 31] [0, 2, 3, 17, 18, 19, 20, 21, 22, 23, 24, 25, 26, 27, 28, 29] [0, 16, 1, 2, 17, 18, 19, 20, 21, 22, 23, 24, 25, 26, 27, 28, 29, 3, 4, 5, 6, 7, 8, 9, 10, 11, 12, 13, 14, 15, 30, 31] rfl rfl rfl rfl (by decide) rfl rfl rfl hl.1 rfl rfl (Nat.le_of_ble_eq_true rfl) dX8_write_60 (fun H locs hP hD hS => ?_)
        refine lv_aload_n hx hb dX8_write_63 rfl (lv_at hl 0 rfl) ?_
        refine lv_iconst (v := (1 : Int32)) hx hb dX8_write_64 (by decide) ?_
        refine xp (v := .int (1 : Int32)) (w' := (c8 1 G bX bF bS bT bV bP (bT 0) (bV 0) (si uX 5 (1 : Int32)) uS uT uV u_7)) (ci := 5) (K := RX8) (T := TX8) (N := 6) (ty := .boolean) C hin8 tyX8 tyX8_ok nmX8 hK hP hD hS 0 rfl rfl 5 (by decide) rfl (hts (Cond.fieldLink RX8 43 "SchematicText" "pageHolds" "Z") (List.mem_cons_of_mem _ (m8 mx_481))) rfl rfl (nz_z (Or.inr rfl)) (nz_f (Or.inr rfl)) (Nat.le_of_ble_eq_true rfl) dX8_write_65 hw8_h (fun H locs hP hD hS => ?_)
        exact w8r_write_B_68 C hK hA hT (si uX 5 (1 : Int32)) u_7 x1 hf hP hD hS (lv_sub hl [0, 1] rfl)
    · replace hf := og_t c_2 hf
      cases (og_s hf)
  · replace hf := og_f c_1 hf
    cases (og_s hf)
set_option maxHeartbeats 4000000 in
set_option maxRecDepth 100000 in
theorem t8_write_B (l : Launch) (hL0 : l.stackTraces = false) (G : Gx) (bX bF bS bT bV bP : Nat → Nat) (uX : Md) (uS : Md) (uT : Md) (uV : Md) (uP : Md) (x1 : Int32) (ek : Nat) (sz : Nat) (hf : f8_write_B uX uS uT uV uP x1 = some (Sum.inl ek)) : vx_Met l yX8_write ws8_write_B rm8t_write_B (pX8 G (c8 1 G bX bF bS bT bV bP (bT 0) (bV 0) uX uS uT uV uP) sz [.ref (bX 0), .int x1]) Q0 (xc8 ek) 1 6 (fun _ => False) := by
  refine mx8_t (cc := cX8_write) (maxL := 2) (ret := (some .int)) (by decide) rfl (Nat.le_of_ble_eq_true rfl) ?_
  intro p e s m below meth c ls A C hnt hl hK hA hT hP hD hS
  have hl : lv_has ls 2 [(0, .ref (bX 0)), (1, .int x1)] := hl
  have hx := C.1.1
  have hb := C.1.2.1
  have hts := C.1.2.2.2.2
  have hown := C.1.2.2.2.1
  have hin5 : ∀ w ∈ wsX50, w ∈ ws8_write_B := fun w h => List.mem_cons_of_mem _ (m8 (List.mem_append_right _ (List.mem_append_left _ h)))
  have hin6 : ∀ w ∈ wsX60, w ∈ ws8_write_B := fun w h => List.mem_cons_of_mem _ (m8 (List.mem_append_right _ (List.mem_append_right _ (List.mem_append_left _ h))))
  have hin7 : ∀ w ∈ wsX70, w ∈ ws8_write_B := fun w h => List.mem_cons_of_mem _ (m8 (List.mem_append_right _ (List.mem_append_right _ (List.mem_append_right _ (List.mem_append_left _ h)))))
  have hin8 : ∀ w ∈ wsX80, w ∈ ws8_write_B := fun w h => List.mem_cons_of_mem _ (m8 (List.mem_append_right _ (List.mem_append_right _ (List.mem_append_right _ (List.mem_append_right _ h)))))
  unfold f8_write_B at hf
  refine lv_iload_n hx hb dX8_write_0 rfl (lv_at hl 1 rfl) ?_
  refine lv_if_ge (tgt := 14) hx hb dX8_write_1 (by decide) (fun c_1 => ?_) (fun c_1 => ?_)
  · replace hf := og_t c_1 hf
    refine lv_aload_n hx hb dX8_write_14 rfl (lv_at hl 0 rfl) ?_
    refine xg (v := .ref (bT 0)) (ci := 5) (K := RX8) (T := TX8) (N := 6) C hin8 hK hP 0 rfl rfl 3 (by decide) rfl (hts (Cond.fieldLink RX8 36 "SchematicText" "tree" "LSchematicText$Tree;") (List.mem_cons_of_mem _ (m8 mx_479))) rfl dX8_write_15 ?_
    refine xgN (v := .int (gi uT 13)) (ci := 4) (K := RX7) (T := TX7) (N := 16) (host := "SchematicText") C hT.1 hin7 hK hP 4 rfl rfl 13 (by decide) rfl (by decide +kernel) rfl dX8_write_18 ?_
    refine lv_if_ne (tgt := 34) hx hb dX8_write_21 (by decide) (fun c_2 => ?_) (fun c_2 => ?_)
    · replace hf := og_f c_2 hf
      refine lv_aload_n hx hb dX8_write_34 rfl (lv_at hl 0 rfl) ?_
      refine xg (v := .int (gi uX 5)) (ci := 5) (K := RX8) (T := TX8) (N := 6) C hin8 hK hP 0 rfl rfl 5 (by decide) rfl (hts (Cond.fieldLink RX8 43 "SchematicText" "pageHolds" "Z") (List.mem_cons_of_mem _ (m8 mx_481))) rfl dX8_write_35 ?_
      refine lv_if_ne (tgt := 68) hx hb dX8_write_38 (by decide) (fun c_3 => ?_) (fun c_3 => ?_)
      · replace hf := og_f c_3 hf
        exact w8t_write_B_68 C hL0 hnt hK hA hT hP hD hS x1 hf (lv_sub hl [0, 1] rfl)
      · replace hf := og_t c_3 hf
        refine lv_aload_n hx hb dX8_write_41 rfl (lv_at hl 0 rfl) ?_
        refine xg (v := .ref (bP 0)) (ci := 5) (K := RX8) (T := TX8) (N := 6) C hin8 hK hP 0 rfl rfl 2 (by decide) rfl (hts (Cond.fieldLink RX8 29 "SchematicText" "page" "LSchematicText$Page;") (List.mem_cons_of_mem _ (m8 mx_476))) rfl dX8_write_42 ?_
        obtain ⟨u_5, h_4, hf⟩ := og_b hf
        try dsimp only at hf
        obtain ⟨u_7, h_6, hf⟩ := og_b hf
        try dsimp only at hf
        exact absurd hf (n8_write_B_68 uS uT uV (si uX 5 (1 : Int32)) u_7 x1 _)
    · replace hf := og_t c_2 hf
      obtain rfl := Sum.inl.inj (og_s hf)
      exact th8_2 (rest := []) (is := 135) (tx := "there are no objects") C hL0 hT hS hnt hl.1 (by decide +kernel) mx_525 mx_526 dX8_write_24 dX8_write_27 dX8_write_28 dX8_write_30 dX8_write_33 (Nat.le_of_ble_eq_true rfl) (Nat.le_of_ble_eq_true rfl) (Nat.le_of_ble_eq_true rfl) (Nat.le_of_ble_eq_true rfl)
  · replace hf := og_f c_1 hf
    obtain rfl := Sum.inl.inj (og_s hf)
    exact th8_1 (rest := []) (is := 133) (tx := "below the first character") C hL0 hT hS hnt hl.1 (by decide +kernel) mx_509 mx_510 dX8_write_4 dX8_write_7 dX8_write_8 dX8_write_10 dX8_write_13 (Nat.le_of_ble_eq_true rfl) (Nat.le_of_ble_eq_true rfl) (Nat.le_of_ble_eq_true rfl) (Nat.le_of_ble_eq_true rfl)
abbrev rm8_object_B : Room := { frames := 7, cells := 0, slots := 0, locals := 154 }
abbrev rm8t_object_B : Room := { frames := 7, cells := 1, slots := 6, locals := 154 }
noncomputable abbrev ws8_object_B : List Cond := Cond.code yX8_object cX8_object 4 (some .int) :: WA8
theorem hd8_object_B : yX8_object.cls = RX8 ∧ yX8_object.cls ≠ "java/lang/invoke/MethodHandle" ∧ yX8_object.cls ≠ "java/lang/invoke/VarHandle" ∧ (parseMethodDescriptor yX8_object.desc).map (fun d => d.parameters.length) = some 2 := by decide +kernel
def f8_object_B_46 (uS : Md) (uV : Md) (uP : Md) (uX : Md) (uT : Md) : Option (Nat ⊕ (Int32 × Md × Md)) := (some (Sum.inl 3))
set_option maxHeartbeats 4000000 in
set_option maxRecDepth 100000 in
theorem w8r_object_B_46 {p : Program} {l : Launch} {e : Env} {s : State} {m : MethodId} {args : Array Value} {below : List Frame} {meth : Method} {c : Code} {G : Gx} {A : Nat → Prop} {bX bF bS bT bV bP : Nat → Nat} (C : Cx p s m args meth c cX8_object 4 ws8_object_B RX8 (some .int)) {uS : Md} {uV : Md} {uP : Md} (hK : va_K (gD G) vwCl (tyG G) s) (hA : ∀ q : Nat, s.heap.size ≤ q → A q) (hT : ST8 G A s s.heap) {r : (Int32 × Md × Md)} : ∀ (uX : Md) (uT : Md), f8_object_B_46 uS uV uP uX uT = some (Sum.inr r) → ∀ {H : Heap} {locs : List Loc}, va_P (gD G) vwCl (c8 1 G bX bF bS bT bV bP (bT 0) (bV 0) uX uS uT uV uP) H → va_D A (c8 1 G bX bF bS bT bV bP (bT 0) (bV 0) uX uS uT uV uP) → va_S A s.heap H locs → ∀ {ls : Array Slot}, lv_has ls 4 [] → W p l e rm8_object_B s m args below meth c H locs 0 0 (MQ below (qW (some (.int r.1)) (c8 1 G bX bF bS bT bV bP (bT 0) (bV 0) r.2.1 uS r.2.2 uV uP) (gD G) (tyG G) A) args s 0 0 A) (F0 m 46 ls []) := by
  have hx := C.1.1
  have hb := C.1.2.1
  have hts := C.1.2.2.2.2
  have hown := C.1.2.2.2.1
  have hin5 : ∀ w ∈ wsX50, w ∈ ws8_object_B := fun w h => List.mem_cons_of_mem _ (m8 (List.mem_append_right _ (List.mem_append_left _ h)))
  have hin6 : ∀ w ∈ wsX60, w ∈ ws8_object_B := fun w h => List.mem_cons_of_mem _ (m8 (List.mem_append_right _ (List.mem_append_right _ (List.mem_append_left _ h))))
  have hin7 : ∀ w ∈ wsX70, w ∈ ws8_object_B := fun w h => List.mem_cons_of_mem _ (m8 (List.mem_append_right _ (List.mem_append_right _ (List.mem_append_right _ (List.mem_append_left _ h)))))
  have hin8 : ∀ w ∈ wsX80, w ∈ ws8_object_B := fun w h => List.mem_cons_of_mem _ (m8 (List.mem_append_right _ (List.mem_append_right _ (List.mem_append_right _ (List.mem_append_right _ h)))))
  intro uX uT hf H locs hP hD hS ls hl
  unfold f8_object_B_46 at hf
  cases (og_s hf)
set_option maxHeartbeats 4000000 in
set_option maxRecDepth 100000 in
theorem w8t_object_B_46 {p : Program} {l : Launch} {e : Env} {s : State} {m : MethodId} {args : Array Value} {below : List Frame} {meth : Method} {c : Code} {G : Gx} {A : Nat → Prop} {bX bF bS bT bV bP : Nat → Nat} (C : Cx p s m args meth c cX8_object 4 ws8_object_B RX8 (some .int)) (hL0 : l.stackTraces = false) (hnt : ∀ x ∈ c.exceptionTable.toList, False) {uX uS uT uV uP : Md} (hK : va_K (gD G) vwCl (tyG G) s) (hA : ∀ q : Nat, s.heap.size ≤ q → A q) (hT : ST8 G A s s.heap) (hP : va_P (gD G) vwCl (c8 1 G bX bF bS bT bV bP (bT 0) (bV 0) uX uS uT uV uP) s.heap) (hD : va_D A (c8 1 G bX bF bS bT bV bP (bT 0) (bV 0) uX uS uT uV uP)) (hS : va_S A s.heap s.heap []) {ek : Nat} : f8_object_B_46 uS uV uP uX uT = some (Sum.inl ek) → ∀ {ls : Array Slot}, lv_has ls 4 [] → W p l e rm8t_object_B s m args below meth c s.heap [] 0 0 (vx_MQ below Q0 (xc8 ek) args s 1 6 (fun _ => False)) (F0 m 46 ls []) := by
  have hx := C.1.1
  have hb := C.1.2.1
  have hts := C.1.2.2.2.2
  have hown := C.1.2.2.2.1
  have hin5 : ∀ w ∈ wsX50, w ∈ ws8_object_B := fun w h => List.mem_cons_of_mem _ (m8 (List.mem_append_right _ (List.mem_append_left _ h)))
  have hin6 : ∀ w ∈ wsX60, w ∈ ws8_object_B := fun w h => List.mem_cons_of_mem _ (m8 (List.mem_append_right _ (List.mem_append_right _ (List.mem_append_left _ h))))
  have hin7 : ∀ w ∈ wsX70, w ∈ ws8_object_B := fun w h => List.mem_cons_of_mem _ (m8 (List.mem_append_right _ (List.mem_append_right _ (List.mem_append_right _ (List.mem_append_left _ h)))))
  have hin8 : ∀ w ∈ wsX80, w ∈ ws8_object_B := fun w h => List.mem_cons_of_mem _ (m8 (List.mem_append_right _ (List.mem_append_right _ (List.mem_append_right _ (List.mem_append_right _ h)))))
  intro  hf ls hl
  unfold f8_object_B_46 at hf
  obtain rfl := Sum.inl.inj (og_s hf)
  exact th8_3 (rest := []) (is := 152) (tx := "no such kind") C hL0 hT hS hnt hl.1 (by decide +kernel) mx_544 mx_545 dX8_object_46 dX8_object_49 dX8_object_50 dX8_object_52 dX8_object_55 (Nat.le_of_ble_eq_true rfl) (Nat.le_of_ble_eq_true rfl) (Nat.le_of_ble_eq_true rfl) (Nat.le_of_ble_eq_true rfl)
def f8_object_B_26 (uS : Md) (uV : Md) (uP : Md) (uX : Md) (uT : Md) (x1 : Int32) (x2 : Int32) : Option (Nat ⊕ (Int32 × Md × Md)) := (if x2 < (kNum (0 : Fin 10)) then (f8_object_B_46 uS uV uP uX uT) else (if x2 ≤ (kNum (9 : Fin 10)) then ((fx_X2_numbered x2).bind fun r_8 => (if r_8 = (9 : Fin 10) then (some (Sum.inr ((-1 : Int32), uX, uT))) else ((fx_X7_mayHold uT x1 r_8).bind fun r_11 => (if r_11 = 0 then (some (Sum.inr ((-1 : Int32), uX, uT))) else ((fx_X7_grow uT x1 r_8).bind fun p_14 => (some (Sum.inr (p_14.1, (si uX 5 (0 : Int32)), p_14.2)))))))) else (f8_object_B_46 uS uV uP uX uT)))
set_option maxHeartbeats 4000000 in
set_option maxRecDepth 100000 in
theorem w8r_object_B_26 {p : Program} {l : Launch} {e : Env} {s : State} {m : MethodId} {args : Array Value} {below : List Frame} {meth : Method} {c : Code} {G : Gx} {A : Nat → Prop} {bX bF bS bT bV bP : Nat → Nat} (C : Cx p s m args meth c cX8_object 4 ws8_object_B RX8 (some .int)) {uS : Md} {uV : Md} {uP : Md} (hK : va_K (gD G) vwCl (tyG G) s) (hA : ∀ q : Nat, s.heap.size ≤ q → A q) (hT : ST8 G A s s.heap) {r : (Int32 × Md × Md)} : ∀ (uX : Md) (uT : Md) (x1 : Int32) (x2 : Int32), f8_object_B_26 uS uV uP uX uT x1 x2 = some (Sum.inr r) → ∀ {H : Heap} {locs : List Loc}, va_P (gD G) vwCl (c8 1 G bX bF bS bT bV bP (bT 0) (bV 0) uX uS uT uV uP) H → va_D A (c8 1 G bX bF bS bT bV bP (bT 0) (bV 0) uX uS uT uV uP) → va_S A s.heap H locs → ∀ {ls : Array Slot}, lv_has ls 4 [(0, .ref (bX 0)), (1, .int x1), (2, .int x2)] → W p l e rm8_object_B s m args below meth c H locs 0 0 (MQ below (qW (some (.int r.1)) (c8 1 G bX bF bS bT bV bP (bT 0) (bV 0) r.2.1 uS r.2.2 uV uP) (gD G) (tyG G) A) args s 0 0 A) (F0 m 26 ls []) := by
  have hx := C.1.1
  have hb := C.1.2.1
  have hts := C.1.2.2.2.2
  have hown := C.1.2.2.2.1
  have hin5 : ∀ w ∈ wsX50, w ∈ ws8_object_B := fun w h => List.mem_cons_of_mem _ (m8 (List.mem_append_right _ (List.mem_append_left _ h)))
  have hin6 : ∀ w ∈ wsX60, w ∈ ws8_object_B := fun w h => List.mem_cons_of_mem _ (m8 (List.mem_append_right _ (List.mem_append_right _ (List.mem_append_left _ h))))
  have hin7 : ∀ w ∈ wsX70, w ∈ ws8_object_B := fun w h => List.mem_cons_of_mem _ (m8 (List.mem_append_right _ (List.mem_append_right _ (List.mem_append_right _ (List.mem_append_left _ h)))))
  have hin8 : ∀ w ∈ wsX80, w ∈ ws8_object_B := fun w h => List.mem_cons_of_mem _ (m8 (List.mem_append_right _ (List.mem_append_right _ (List.mem_append_right _ (List.mem_append_right _ h)))))
  intro uX uT x1 x2 hf H locs hP hD hS ls hl
  unfold f8_object_B_26 at hf
  refine lv_iload_n hx hb dX8_object_26 rfl (lv_at hl 2 rfl) ?_
  refine xK (i := (0 : Fin 10)) C hT.1 hS (hts (Cond.fieldLink RX8 147 "SchematicText$Kind" "DESIGN" "LSchematicText$Kind;") (List.mem_cons_of_mem _ (m8 mx_546))) dX8_object_27 ?_
  refine xoN (v := .int (kNum (0 : Fin 10))) (host := "SchematicText") C hT.1 ((hT.1.1.2.2.2.2.1.1 ((0 : Fin 10)).val ((0 : Fin 10)).isLt).2.2 _ List.mem_cons_self) hS (by decide +kernel) dX8_object_30 ?_
  refine lv_icmp_lt (tgt := 46) hx hb dX8_object_33 (by decide) (fun c_5 => ?_) (fun c_5 => ?_)
  · replace hf := og_t c_5 hf
    exact w8r_object_B_46 C hK hA hT uX uT hf hP hD hS (lv_sub hl [] rfl)
  · replace hf := og_f c_5 hf
    refine lv_iload_n hx hb dX8_object_36 rfl (lv_at hl 2 rfl) ?_
    refine xK (i := (9 : Fin 10)) C hT.1 hS (hts (Cond.fieldLink RX8 118 "SchematicText$Kind" "UNKNOWN" "LSchematicText$Kind;") (List.mem_cons_of_mem _ (m8 mx_527))) dX8_object_37 ?_
    refine xoN (v := .int (kNum (9 : Fin 10))) (host := "SchematicText") C hT.1 ((hT.1.1.2.2.2.2.1.1 ((9 : Fin 10)).val ((9 : Fin 10)).isLt).2.2 _ List.mem_cons_self) hS (by decide +kernel) dX8_object_40 ?_
    refine lv_icmp_le (tgt := 56) hx hb dX8_object_43 (by decide) (fun c_6 => ?_) (fun c_6 => ?_)
    · replace hf := og_t c_6 hf
      refine lv_iload_n hx hb dX8_object_56 rfl (lv_at hl 2 rfl) ?_
      obtain ⟨r_8, h_7, hf⟩ := og_b hf
      try dsimp only at hf
      refine xr_S (v := .ref (gK G (r_8).val)) (rest := []) C (cx_X2_numbered l G x2 r_8 _ h_7) (va_cwS 1 hts (gd8_m gx_X8_X2_numbered_155) rfl rfl rfl hdx_X2_numbered ⟨Nat.le_of_ble_eq_true rfl, Nat.le_of_ble_eq_true rfl⟩) hK hA hT.1 hP hD hS rfl hl.1 rfl (Nat.le_of_ble_eq_true rfl) dX8_object_57 ?_
      refine lv_astore_n (lv' := [(3, .ref (gK G (r_8).val)), (0, .ref (bX 0)), (1, .int x1), (2, .int x2)]) hx hb dX8_object_60 rfl hl (by decide) rfl (fun ls hl => ?_)
      refine lv_aload_n hx hb dX8_object_61 rfl (lv_at hl 0 rfl) ?_
      refine xK (i := (9 : Fin 10)) C hT.1 hS (hts (Cond.fieldLink RX8 118 "SchematicText$Kind" "UNKNOWN" "LSchematicText$Kind;") (List.mem_cons_of_mem _ (m8 mx_527))) dX8_object_62 ?_
      refine xa_eq (i := r_8) (j := (9 : Fin 10)) (tgt := 80) C hT.1 dX8_object_65 (by decide) (fun c_9 => ?_) (fun c_9 => ?_)
      · replace hf := og_t c_9 hf
        refine lv_iconst (v := (-1 : Int32)) hx hb dX8_object_80 (by decide) ?_
        obtain rfl := (Sum.inr.inj (og_s hf))
        exact rw_i C hK hP hD hS dX8_object_81
      · replace hf := og_f c_9 hf
        refine lv_aload_n hx hb dX8_object_68 rfl (lv_at hl 1 rfl) ?_
        refine xg (v := .ref (bT 0)) (ci := 5) (K := RX8) (T := TX8) (N := 6) C hin8 hK hP 0 rfl rfl 3 (by decide) rfl (hts (Cond.fieldLink RX8 36 "SchematicText" "tree" "LSchematicText$Tree;") (List.mem_cons_of_mem _ (m8 mx_479))) rfl dX8_object_69 ?_
        refine lv_iload_n hx hb dX8_object_72 rfl (lv_at hl 2 rfl) ?_
        refine lv_aload_n hx hb dX8_object_73 rfl (lv_at hl 0 rfl) ?_
        obtain ⟨r_11, h_10, hf⟩ := og_b hf
        try dsimp only at hf
        refine xr_V (v := .int r_11) (rest := []) (w0 := (cT G bT uT)) C (cx_X7_mayHold l G bT uT x1 r_8 r_11 _ h_10) (cwV 2 hts (gd8_m gx_X8_X7_mayHold_158) rfl rfl rfl hdx_X7_mayHold ⟨Nat.le_of_ble_eq_true rfl, Nat.le_of_ble_eq_true rfl⟩) hK hA hT.1 hP hD hS (va_recv hK hP (ci := 4) (q0 := 4) rfl rfl) [4, 5, 6, 7, 8, 9, 10, 11, 12, 13, 14, 15, 16] rfl rfl rfl hl.1 rfl (Nat.le_of_ble_eq_true rfl) dX8_object_74 ?_
        refine lv_if_ne (tgt := 82) hx hb dX8_object_77 (by decide) (fun c_12 => ?_) (fun c_12 => ?_)
        · replace hf := og_f c_12 hf
          refine lv_aload_n hx hb dX8_object_82 rfl (lv_at hl 1 rfl) ?_
          refine lv_iconst (v := (0 : Int32)) hx hb dX8_object_83 (by decide) ?_
          refine xp (v := .int (0 : Int32)) (w' := (c8 1 G bX bF bS bT bV bP (bT 0) (bV 0) (si uX 5 (0 : Int32)) uS uT uV uP)) (ci := 5) (K := RX8) (T := TX8) (N := 6) (ty := .boolean) C hin8 tyX8 tyX8_ok nmX8 hK hP hD hS 0 rfl rfl 5 (by decide) rfl (hts (Cond.fieldLink RX8 43 "SchematicText" "pageHolds" "Z") (List.mem_cons_of_mem _ (m8 mx_481))) rfl rfl (nz_z (Or.inl rfl)) (nz_f (Or.inl rfl)) (Nat.le_of_ble_eq_true rfl) dX8_object_84 hw8_h (fun H locs hP hD hS => ?_)
          refine lv_aload_n hx hb dX8_object_87 rfl (lv_at hl 1 rfl) ?_
          refine xg (v := .ref (bT 0)) (ci := 5) (K := RX8) (T := TX8) (N := 6) C hin8 hK hP 0 rfl rfl 3 (by decide) rfl (hts (Cond.fieldLink RX8 36 "SchematicText" "tree" "LSchematicText$Tree;") (List.mem_cons_of_mem _ (m8 mx_479))) rfl dX8_object_88 ?_
          refine lv_iload_n hx hb dX8_object_91 rfl (lv_at hl 2 rfl) ?_
          refine lv_aload_n hx hb dX8_object_92 rfl (lv_at hl 0 rfl) ?_
          obtain ⟨⟨r_14, u_15⟩, h_13, hf⟩ := og_b hf
          try dsimp only at hf
          refine xw_V (ov := (some (.int r_14))) (st1 := [.int r_14]) (rest := []) (w0 := (cT G bT uT)) (w1 := (cT G bT u_15)) (wr := ([(bX 0, .inr (5, fs8 bF bS bP (bT 0) (bV 0) (si uX 5 (0 : Int32))))] ++ cF 1 bF ++ cS G bS uS ++ cT G bV uV ++ cP G bP uP)) (w' := (c8 1 G bX bF bS bT bV bP (bT 0) (bV 0) (si uX 5 (0 : Int32)) uS u_15 uV uP)) C (cx_X7_grow l G bT uT x1 r_8 r_14 u_15 _ h_13) (cwV 2 hts (gd8_m gx_X8_X7_grow_162) rfl rfl rfl hdx_X7_grow ⟨Nat.le_of_ble_eq_true rfl, Nat.le_of_ble_eq_true rfl⟩) hK hA hT.1 hP hD hS (va_recv hK hP (ci := 4) (q0 := 4) rfl rfl) [4, 5, 6, 7, 8, 9, 10, 11, 12, 13, 14, 15, 16] [0, 1, 2, 3, 17, 18, 19, 20, 21, 22, 23, 24, 25, 26, 27, 28, 29, 30, 31] [0, 1, 2, 3, 19, 20, 21, 22, 23, 24, 25, 26, 27, 28, 29, 30, 31, 4, 5, 6, 7, 8, 9, 10, 11, 12, 13, 14, 15, 16, 17, 18] rfl rfl rfl rfl (by decide) rfl rfl rfl hl.1 rfl rfl (Nat.le_of_ble_eq_true rfl) dX8_object_93 (fun H locs hP hD hS => ?_)
          obtain rfl := (Sum.inr.inj (og_s hf))
          exact rw_i C hK hP hD hS dX8_object_96
        · replace hf := og_t c_12 hf
          refine lv_iconst (v := (-1 : Int32)) hx hb dX8_object_80 (by decide) ?_
          obtain rfl := (Sum.inr.inj (og_s hf))
          exact rw_i C hK hP hD hS dX8_object_81
    · replace hf := og_f c_6 hf
      exact w8r_object_B_46 C hK hA hT uX uT hf hP hD hS (lv_sub hl [] rfl)
set_option maxHeartbeats 4000000 in
set_option maxRecDepth 100000 in
theorem w8t_object_B_26 {p : Program} {l : Launch} {e : Env} {s : State} {m : MethodId} {args : Array Value} {below : List Frame} {meth : Method} {c : Code} {G : Gx} {A : Nat → Prop} {bX bF bS bT bV bP : Nat → Nat} (C : Cx p s m args meth c cX8_object 4 ws8_object_B RX8 (some .int)) (hL0 : l.stackTraces = false) (hnt : ∀ x ∈ c.exceptionTable.toList, False) {uX uS uT uV uP : Md} (hK : va_K (gD G) vwCl (tyG G) s) (hA : ∀ q : Nat, s.heap.size ≤ q → A q) (hT : ST8 G A s s.heap) (hP : va_P (gD G) vwCl (c8 1 G bX bF bS bT bV bP (bT 0) (bV 0) uX uS uT uV uP) s.heap) (hD : va_D A (c8 1 G bX bF bS bT bV bP (bT 0) (bV 0) uX uS uT uV uP)) (hS : va_S A s.heap s.heap []) {ek : Nat} : ∀ (x1 : Int32) (x2 : Int32), f8_object_B_26 uS uV uP uX uT x1 x2 = some (Sum.inl ek) → ∀ {ls : Array Slot}, lv_has ls 4 [(0, .ref (bX 0)), (1, .int x1), (2, .int x2)] → W p l e rm8t_object_B s m args below meth c s.heap [] 0 0 (vx_MQ below Q0 (xc8 ek) args s 1 6 (fun _ => False)) (F0 m 26 ls []) := by
  have hx := C.1.1
  have hb := C.1.2.1
  have hts := C.1.2.2.2.2
  have hown := C.1.2.2.2.1
  have hin5 : ∀ w ∈ wsX50, w ∈ ws8_object_B := fun w h => List.mem_cons_of_mem _ (m8 (List.mem_append_right _ (List.mem_append_left _ h)))
  have hin6 : ∀ w ∈ wsX60, w ∈ ws8_object_B := fun w h => List.mem_cons_of_mem _ (m8 (List.mem_append_right _ (List.mem_append_right _ (List.mem_append_left _ h))))
  have hin7 : ∀ w ∈ wsX70, w ∈ ws8_object_B := fun w h => List.mem_cons_of_mem _ (m8 (List.mem_append_right _ (List.mem_append_right _ (List.mem_append_right _ (List.mem_append_left _ h)))))
  have hin8 : ∀ w ∈ wsX80, w ∈ ws8_object_B := fun w h => List.mem_cons_of_mem _ (m8 (List.mem_append_right _ (List.mem_append_right _ (List.mem_append_right _ (List.mem_append_right _ h)))))
  intro x1 x2 hf ls hl
  unfold f8_object_B_26 at hf
  refine lv_iload_n hx hb dX8_object_26 rfl (lv_at hl 2 rfl) ?_
  refine xK (i := (0 : Fin 10)) C hT.1 hS (hts (Cond.fieldLink RX8 147 "SchematicText$Kind" "DESIGN" "LSchematicText$Kind;") (List.mem_cons_of_mem _ (m8 mx_546))) dX8_object_27 ?_
  refine xoN (v := .int (kNum (0 : Fin 10))) (host := "SchematicText") C hT.1 ((hT.1.1.2.2.2.2.1.1 ((0 : Fin 10)).val ((0 : Fin 10)).isLt).2.2 _ List.mem_cons_self) hS (by decide +kernel) dX8_object_30 ?_
  refine lv_icmp_lt (tgt := 46) hx hb dX8_object_33 (by decide) (fun c_5 => ?_) (fun c_5 => ?_)
  · replace hf := og_t c_5 hf
    exact w8t_object_B_46 C hL0 hnt hK hA hT hP hD hS hf (lv_sub hl [] rfl)
  · replace hf := og_f c_5 hf
    refine lv_iload_n hx hb dX8_object_36 rfl (lv_at hl 2 rfl) ?_
    refine xK (i := (9 : Fin 10)) C hT.1 hS (hts (Cond.fieldLink RX8 118 "SchematicText$Kind" "UNKNOWN" "LSchematicText$Kind;") (List.mem_cons_of_mem _ (m8 mx_527))) dX8_object_37 ?_
    refine xoN (v := .int (kNum (9 : Fin 10))) (host := "SchematicText") C hT.1 ((hT.1.1.2.2.2.2.1.1 ((9 : Fin 10)).val ((9 : Fin 10)).isLt).2.2 _ List.mem_cons_self) hS (by decide +kernel) dX8_object_40 ?_
    refine lv_icmp_le (tgt := 56) hx hb dX8_object_43 (by decide) (fun c_6 => ?_) (fun c_6 => ?_)
    · replace hf := og_t c_6 hf
      refine lv_iload_n hx hb dX8_object_56 rfl (lv_at hl 2 rfl) ?_
      obtain ⟨r_8, h_7, hf⟩ := og_b hf
      try dsimp only at hf
      refine xr_S (v := .ref (gK G (r_8).val)) (rest := []) C (cx_X2_numbered l G x2 r_8 _ h_7) (va_cwS 1 hts (gd8_m gx_X8_X2_numbered_155) rfl rfl rfl hdx_X2_numbered ⟨Nat.le_of_ble_eq_true rfl, Nat.le_of_ble_eq_true rfl⟩) hK hA hT.1 hP hD hS rfl hl.1 rfl (Nat.le_of_ble_eq_true rfl) dX8_object_57 ?_
      refine lv_astore_n (lv' := [(3, .ref (gK G (r_8).val)), (0, .ref (bX 0)), (1, .int x1), (2, .int x2)]) hx hb dX8_object_60 rfl hl (by decide) rfl (fun ls hl => ?_)
      refine lv_aload_n hx hb dX8_object_61 rfl (lv_at hl 0 rfl) ?_
      refine xK (i := (9 : Fin 10)) C hT.1 hS (hts (Cond.fieldLink RX8 118 "SchematicText$Kind" "UNKNOWN" "LSchematicText$Kind;") (List.mem_cons_of_mem _ (m8 mx_527))) dX8_object_62 ?_
      refine xa_eq (i := r_8) (j := (9 : Fin 10)) (tgt := 80) C hT.1 dX8_object_65 (by decide) (fun c_9 => ?_) (fun c_9 => ?_)
      · replace hf := og_t c_9 hf
        refine lv_iconst (v := (-1 : Int32)) hx hb dX8_object_80 (by decide) ?_
        cases (og_s hf)
      · replace hf := og_f c_9 hf
        refine lv_aload_n hx hb dX8_object_68 rfl (lv_at hl 1 rfl) ?_
        refine xg (v := .ref (bT 0)) (ci := 5) (K := RX8) (T := TX8) (N := 6) C hin8 hK hP 0 rfl rfl 3 (by decide) rfl (hts (Cond.fieldLink RX8 36 "SchematicText" "tree" "LSchematicText$Tree;") (List.mem_cons_of_mem _ (m8 mx_479))) rfl dX8_object_69 ?_
        refine lv_iload_n hx hb dX8_object_72 rfl (lv_at hl 2 rfl) ?_
        refine lv_aload_n hx hb dX8_object_73 rfl (lv_at hl 0 rfl) ?_
        obtain ⟨r_11, h_10, hf⟩ := og_b hf
        try dsimp only at hf
        refine xr_V (v := .int r_11) (rest := []) (w0 := (cT G bT uT)) C (cx_X7_mayHold l G bT uT x1 r_8 r_11 _ h_10) (cwV 2 hts (gd8_m gx_X8_X7_mayHold_158) rfl rfl rfl hdx_X7_mayHold ⟨Nat.le_of_ble_eq_true rfl, Nat.le_of_ble_eq_true rfl⟩) hK hA hT.1 hP hD hS (va_recv hK hP (ci := 4) (q0 := 4) rfl rfl) [4, 5, 6, 7, 8, 9, 10, 11, 12, 13, 14, 15, 16] rfl rfl rfl hl.1 rfl (Nat.le_of_ble_eq_true rfl) dX8_object_74 ?_
        refine lv_if_ne (tgt := 82) hx hb dX8_object_77 (by decide) (fun c_12 => ?_) (fun c_12 => ?_)
        · replace hf := og_f c_12 hf
          refine lv_aload_n hx hb dX8_object_82 rfl (lv_at hl 1 rfl) ?_
          refine lv_iconst (v := (0 : Int32)) hx hb dX8_object_83 (by decide) ?_
          obtain ⟨⟨r_14, u_15⟩, h_13, hf⟩ := og_b hf
          try dsimp only at hf
          cases (og_s hf)
        · replace hf := og_t c_12 hf
          refine lv_iconst (v := (-1 : Int32)) hx hb dX8_object_80 (by decide) ?_
          cases (og_s hf)
    · replace hf := og_f c_6 hf
      exact w8t_object_B_46 C hL0 hnt hK hA hT hP hD hS hf (lv_sub hl [] rfl)
def f8_object_B (uX : Md) (uS : Md) (uT : Md) (uV : Md) (uP : Md) (x1 : Int32) (x2 : Int32) : Option (Nat ⊕ (Int32 × Md × Md)) := (if x1 = (-1 : Int32) then (f8_object_B_26 uS uV uP uX uT x1 x2) else ((fx_X7_has uT x1).bind fun r_3 => (if r_3 = 0 then (some (Sum.inl 1)) else (f8_object_B_26 uS uV uP uX uT x1 x2))))
set_option maxHeartbeats 4000000 in
set_option maxRecDepth 100000 in
theorem c8_object_B (l : Launch) (G : Gx) (bX bF bS bT bV bP : Nat → Nat) (uX : Md) (uS : Md) (uT : Md) (uV : Md) (uP : Md) (x1 : Int32) (x2 : Int32) (r : Int32) (vX : Md) (vT : Md) (sz : Nat) (hf : f8_object_B uX uS uT uV uP x1 x2 = some (Sum.inr (r, vX, vT))) : Met l yX8_object ws8_object_B rm8_object_B (pX8 G (c8 1 G bX bF bS bT bV bP (bT 0) (bV 0) uX uS uT uV uP) sz [.ref (bX 0), .int x1, .int x2]) (qW (some (.int r)) (c8 1 G bX bF bS bT bV bP (bT 0) (bV 0) vX uS vT uV uP) (gD G) (tyG G) (va_A (c8 1 G bX bF bS bT bV bP (bT 0) (bV 0) uX uS uT uV uP) sz)) 0 0 (va_A (c8 1 G bX bF bS bT bV bP (bT 0) (bV 0) uX uS uT uV uP) sz) := by
  refine mx8_w (cc := cX8_object) (maxL := 4) (ret := (some .int)) (by decide) rfl (Nat.le_of_ble_eq_true rfl) ?_
  intro p e s m below meth c ls A C hl hK hA hT hP hD hS
  have hl : lv_has ls 4 [(0, .ref (bX 0)), (1, .int x1), (2, .int x2)] := hl
  have hx := C.1.1
  have hb := C.1.2.1
  have hts := C.1.2.2.2.2
  have hown := C.1.2.2.2.1
  have hin5 : ∀ w ∈ wsX50, w ∈ ws8_object_B := fun w h => List.mem_cons_of_mem _ (m8 (List.mem_append_right _ (List.mem_append_left _ h)))
  have hin6 : ∀ w ∈ wsX60, w ∈ ws8_object_B := fun w h => List.mem_cons_of_mem _ (m8 (List.mem_append_right _ (List.mem_append_right _ (List.mem_append_left _ h))))
  have hin7 : ∀ w ∈ wsX70, w ∈ ws8_object_B := fun w h => List.mem_cons_of_mem _ (m8 (List.mem_append_right _ (List.mem_append_right _ (List.mem_append_right _ (List.mem_append_left _ h)))))
  have hin8 : ∀ w ∈ wsX80, w ∈ ws8_object_B := fun w h => List.mem_cons_of_mem _ (m8 (List.mem_append_right _ (List.mem_append_right _ (List.mem_append_right _ (List.mem_append_right _ h)))))
  unfold f8_object_B at hf
  refine lv_iload_n hx hb dX8_object_0 rfl (lv_at hl 1 rfl) ?_
  refine lv_iconst (v := (-1 : Int32)) hx hb dX8_object_1 (by decide) ?_
  refine lv_icmp_eq (tgt := 26) hx hb dX8_object_2 (by decide) (fun c_1 => ?_) (fun c_1 => ?_)
  · replace hf := og_t c_1 hf
    exact w8r_object_B_26 C hK hA hT uX uT x1 x2 hf hP hD hS (lv_sub hl [0, 1, 2] rfl)
  · replace hf := og_f c_1 hf
    refine lv_aload_n hx hb dX8_object_5 rfl (lv_at hl 0 rfl) ?_
    refine xg (v := .ref (bT 0)) (ci := 5) (K := RX8) (T := TX8) (N := 6) C hin8 hK hP 0 rfl rfl 3 (by decide) rfl (hts (Cond.fieldLink RX8 36 "SchematicText" "tree" "LSchematicText$Tree;") (List.mem_cons_of_mem _ (m8 mx_479))) rfl dX8_object_6 ?_
    refine lv_iload_n hx hb dX8_object_9 rfl (lv_at hl 1 rfl) ?_
    obtain ⟨r_3, h_2, hf⟩ := og_b hf
    try dsimp only at hf
    refine xr_V (v := .int r_3) (rest := []) (w0 := (cT G bT uT)) C (cx_X7_has l G bT uT x1 r_3 _ h_2) (cwV 1 hts (gd8_m gx_X8_X7_has_79) rfl rfl rfl hdx_X7_has ⟨Nat.le_of_ble_eq_true rfl, Nat.le_of_ble_eq_true rfl⟩) hK hA hT.1 hP hD hS (va_recv hK hP (ci := 4) (q0 := 4) rfl rfl) [4, 5, 6, 7, 8, 9, 10, 11, 12, 13, 14, 15, 16] rfl rfl rfl hl.1 rfl (Nat.le_of_ble_eq_true rfl) dX8_object_10 ?_
    refine lv_if_ne (tgt := 26) hx hb dX8_object_13 (by decide) (fun c_4 => ?_) (fun c_4 => ?_)
    · replace hf := og_f c_4 hf
      exact w8r_object_B_26 C hK hA hT uX uT x1 x2 hf hP hD hS (lv_sub hl [0, 1, 2] rfl)
    · replace hf := og_t c_4 hf
      cases (og_s hf)
set_option maxHeartbeats 4000000 in
set_option maxRecDepth 100000 in
theorem t8_object_B (l : Launch) (hL0 : l.stackTraces = false) (G : Gx) (bX bF bS bT bV bP : Nat → Nat) (uX : Md) (uS : Md) (uT : Md) (uV : Md) (uP : Md) (x1 : Int32) (x2 : Int32) (ek : Nat) (sz : Nat) (hf : f8_object_B uX uS uT uV uP x1 x2 = some (Sum.inl ek)) : vx_Met l yX8_object ws8_object_B rm8t_object_B (pX8 G (c8 1 G bX bF bS bT bV bP (bT 0) (bV 0) uX uS uT uV uP) sz [.ref (bX 0), .int x1, .int x2]) Q0 (xc8 ek) 1 6 (fun _ => False) := by
  refine mx8_t (cc := cX8_object) (maxL := 4) (ret := (some .int)) (by decide) rfl (Nat.le_of_ble_eq_true rfl) ?_
  intro p e s m below meth c ls A C hnt hl hK hA hT hP hD hS
  have hl : lv_has ls 4 [(0, .ref (bX 0)), (1, .int x1), (2, .int x2)] := hl
  have hx := C.1.1
  have hb := C.1.2.1
  have hts := C.1.2.2.2.2
  have hown := C.1.2.2.2.1
  have hin5 : ∀ w ∈ wsX50, w ∈ ws8_object_B := fun w h => List.mem_cons_of_mem _ (m8 (List.mem_append_right _ (List.mem_append_left _ h)))
  have hin6 : ∀ w ∈ wsX60, w ∈ ws8_object_B := fun w h => List.mem_cons_of_mem _ (m8 (List.mem_append_right _ (List.mem_append_right _ (List.mem_append_left _ h))))
  have hin7 : ∀ w ∈ wsX70, w ∈ ws8_object_B := fun w h => List.mem_cons_of_mem _ (m8 (List.mem_append_right _ (List.mem_append_right _ (List.mem_append_right _ (List.mem_append_left _ h)))))
  have hin8 : ∀ w ∈ wsX80, w ∈ ws8_object_B := fun w h => List.mem_cons_of_mem _ (m8 (List.mem_append_right _ (List.mem_append_right _ (List.mem_append_right _ (List.mem_append_right _ h)))))
  unfold f8_object_B at hf
  refine lv_iload_n hx hb dX8_object_0 rfl (lv_at hl 1 rfl) ?_
  refine lv_iconst (v := (-1 : Int32)) hx hb dX8_object_1 (by decide) ?_
  refine lv_icmp_eq (tgt := 26) hx hb dX8_object_2 (by decide) (fun c_1 => ?_) (fun c_1 => ?_)
  · replace hf := og_t c_1 hf
    exact w8t_object_B_26 C hL0 hnt hK hA hT hP hD hS x1 x2 hf (lv_sub hl [0, 1, 2] rfl)
  · replace hf := og_f c_1 hf
    refine lv_aload_n hx hb dX8_object_5 rfl (lv_at hl 0 rfl) ?_
    refine xg (v := .ref (bT 0)) (ci := 5) (K := RX8) (T := TX8) (N := 6) C hin8 hK hP 0 rfl rfl 3 (by decide) rfl (hts (Cond.fieldLink RX8 36 "SchematicText" "tree" "LSchematicText$Tree;") (List.mem_cons_of_mem _ (m8 mx_479))) rfl dX8_object_6 ?_
    refine lv_iload_n hx hb dX8_object_9 rfl (lv_at hl 1 rfl) ?_
    obtain ⟨r_3, h_2, hf⟩ := og_b hf
    try dsimp only at hf
    refine xr_V (v := .int r_3) (rest := []) (w0 := (cT G bT uT)) C (cx_X7_has l G bT uT x1 r_3 _ h_2) (cwV 1 hts (gd8_m gx_X8_X7_has_79) rfl rfl rfl hdx_X7_has ⟨Nat.le_of_ble_eq_true rfl, Nat.le_of_ble_eq_true rfl⟩) hK hA hT.1 hP hD hS (va_recv hK hP (ci := 4) (q0 := 4) rfl rfl) [4, 5, 6, 7, 8, 9, 10, 11, 12, 13, 14, 15, 16] rfl rfl rfl hl.1 rfl (Nat.le_of_ble_eq_true rfl) dX8_object_10 ?_
    refine lv_if_ne (tgt := 26) hx hb dX8_object_13 (by decide) (fun c_4 => ?_) (fun c_4 => ?_)
    · replace hf := og_f c_4 hf
      exact w8t_object_B_26 C hL0 hnt hK hA hT hP hD hS x1 x2 hf (lv_sub hl [0, 1, 2] rfl)
    · replace hf := og_t c_4 hf
      obtain rfl := Sum.inl.inj (og_s hf)
      exact th8_1 (rest := []) (is := 145) (tx := "no such parent") C hL0 hT hS hnt hl.1 (by decide +kernel) mx_509 mx_510 dX8_object_16 dX8_object_19 dX8_object_20 dX8_object_22 dX8_object_25 (Nat.le_of_ble_eq_true rfl) (Nat.le_of_ble_eq_true rfl) (Nat.le_of_ble_eq_true rfl) (Nat.le_of_ble_eq_true rfl)
abbrev rm8_set_B : Room := { frames := 7, cells := 0, slots := 0, locals := 130 }
abbrev rm8t_set_B : Room := { frames := 7, cells := 1, slots := 6, locals := 130 }
noncomputable abbrev ws8_set_B : List Cond := Cond.code yX8_set cX8_set 10 (some .boolean) :: WA8
theorem hd8_set_B : yX8_set.cls = RX8 ∧ yX8_set.cls ≠ "java/lang/invoke/MethodHandle" ∧ yX8_set.cls ≠ "java/lang/invoke/VarHandle" ∧ (parseMethodDescriptor yX8_set.desc).map (fun d => d.parameters.length) = some 3 := by decide +kernel
def f8_set_B_128 (uS : Md) (uV : Md) (uP : Md) (uX : Md) (uT : Md) : Option (Nat ⊕ (Int32 × Md × Md)) := (some (Sum.inr ((1 : Int32), (si uX 5 (0 : Int32)), uT)))
set_option maxHeartbeats 4000000 in
set_option maxRecDepth 100000 in
theorem w8r_set_B_128 {p : Program} {l : Launch} {e : Env} {s : State} {m : MethodId} {args : Array Value} {below : List Frame} {meth : Method} {c : Code} {G : Gx} {A : Nat → Prop} {bX bF bS bT bV bP : Nat → Nat} (C : Cx p s m args meth c cX8_set 10 ws8_set_B RX8 (some .boolean)) {uS : Md} {uV : Md} {uP : Md} (hK : va_K (gD G) vwCl (tyG G) s) (hA : ∀ q : Nat, s.heap.size ≤ q → A q) (hT : ST8 G A s s.heap) {r : (Int32 × Md × Md)} : ∀ (uX : Md) (uT : Md), f8_set_B_128 uS uV uP uX uT = some (Sum.inr r) → ∀ {H : Heap} {locs : List Loc}, va_P (gD G) vwCl (c8 1 G bX bF bS bT bV bP (bT 0) (bV 0) uX uS uT uV uP) H → va_D A (c8 1 G bX bF bS bT bV bP (bT 0) (bV 0) uX uS uT uV uP) → va_S A s.heap H locs → ∀ {ls : Array Slot}, lv_has ls 10 [(0, .ref (bX 0))] → W p l e rm8_set_B s m args below meth c H locs 0 0 (MQ below (qW (some (.int r.1)) (c8 1 G bX bF bS bT bV bP (bT 0) (bV 0) r.2.1 uS r.2.2 uV uP) (gD G) (tyG G) A) args s 0 0 A) (F0 m 128 ls []) := by
  have hx := C.1.1
  have hb := C.1.2.1
  have hts := C.1.2.2.2.2
  have hown := C.1.2.2.2.1
  have hin5 : ∀ w ∈ wsX50, w ∈ ws8_set_B := fun w h => List.mem_cons_of_mem _ (m8 (List.mem_append_right _ (List.mem_append_left _ h)))
  have hin6 : ∀ w ∈ wsX60, w ∈ ws8_set_B := fun w h => List.mem_cons_of_mem _ (m8 (List.mem_append_right _ (List.mem_append_right _ (List.mem_append_left _ h))))
  have hin7 : ∀ w ∈ wsX70, w ∈ ws8_set_B := fun w h => List.mem_cons_of_mem _ (m8 (List.mem_append_right _ (List.mem_append_right _ (List.mem_append_right _ (List.mem_append_left _ h)))))
  have hin8 : ∀ w ∈ wsX80, w ∈ ws8_set_B := fun w h => List.mem_cons_of_mem _ (m8 (List.mem_append_right _ (List.mem_append_right _ (List.mem_append_right _ (List.mem_append_right _ h)))))
  intro uX uT hf H locs hP hD hS ls hl
  unfold f8_set_B_128 at hf
  refine lv_aload_n hx hb dX8_set_128 rfl (lv_at hl 0 rfl) ?_
  refine lv_iconst (v := (0 : Int32)) hx hb dX8_set_129 (by decide) ?_
  refine xp (v := .int (0 : Int32)) (w' := (c8 1 G bX bF bS bT bV bP (bT 0) (bV 0) (si uX 5 (0 : Int32)) uS uT uV uP)) (ci := 5) (K := RX8) (T := TX8) (N := 6) (ty := .boolean) C hin8 tyX8 tyX8_ok nmX8 hK hP hD hS 0 rfl rfl 5 (by decide) rfl (hts (Cond.fieldLink RX8 43 "SchematicText" "pageHolds" "Z") (List.mem_cons_of_mem _ (m8 mx_481))) rfl rfl (nz_z (Or.inl rfl)) (nz_f (Or.inl rfl)) (Nat.le_of_ble_eq_true rfl) dX8_set_130 hw8_h (fun H locs hP hD hS => ?_)
  refine lv_iconst (v := (1 : Int32)) hx hb dX8_set_133 (by decide) ?_
  obtain rfl := (Sum.inr.inj (og_s hf))
  exact rw_z C hK hP hD hS (nz_z (Or.inr rfl)) dX8_set_134
theorem n8_set_B_128 (uS : Md) (uV : Md) (uP : Md) (uX : Md) (uT : Md) (e9 : Nat) : f8_set_B_128 uS uV uP uX uT ≠ some (Sum.inl e9) := by
  intro hf
  unfold f8_set_B_128 at hf
  cases (og_s hf)
def f8_set_B_89 (uS : Md) (uV : Md) (uP : Md) (uX : Md) (uT : Md) (x1 : Int32) (x3 : Int64) (x6 : Int32) (x7 : Int32) (y0 : Int32) : Option (Nat ⊕ (Int32 × Md × Md)) := (if y0 = 0 then (some (Sum.inr ((0 : Int32), uX, uT))) else (if x6 = 0 then ((fx_X7_putNumber uT x1 x7 x3).bind fun u_20 => (f8_set_B_128 uS uV uP uX u_20)) else ((fx_X7_extendText uT x1 x7 x3).bind fun u_22 => (f8_set_B_128 uS uV uP uX u_22))))
set_option maxHeartbeats 4000000 in
set_option maxRecDepth 100000 in
theorem w8r_set_B_89 {p : Program} {l : Launch} {e : Env} {s : State} {m : MethodId} {args : Array Value} {below : List Frame} {meth : Method} {c : Code} {G : Gx} {A : Nat → Prop} {bX bF bS bT bV bP : Nat → Nat} (C : Cx p s m args meth c cX8_set 10 ws8_set_B RX8 (some .boolean)) {uS : Md} {uV : Md} {uP : Md} (hK : va_K (gD G) vwCl (tyG G) s) (hA : ∀ q : Nat, s.heap.size ≤ q → A q) (hT : ST8 G A s s.heap) {r : (Int32 × Md × Md)} : ∀ (uX : Md) (uT : Md) (x1 : Int32) (x3 : Int64) (x6 : Int32) (x7 : Int32) (y0 : Int32), f8_set_B_89 uS uV uP uX uT x1 x3 x6 x7 y0 = some (Sum.inr r) → ∀ {H : Heap} {locs : List Loc}, va_P (gD G) vwCl (c8 1 G bX bF bS bT bV bP (bT 0) (bV 0) uX uS uT uV uP) H → va_D A (c8 1 G bX bF bS bT bV bP (bT 0) (bV 0) uX uS uT uV uP) → va_S A s.heap H locs → ∀ {ls : Array Slot}, lv_has ls 10 [(0, .ref (bX 0)), (1, .int x1), (3, .long x3), (6, .int x6), (7, .int x7)] → W p l e rm8_set_B s m args below meth c H locs 0 0 (MQ below (qW (some (.int r.1)) (c8 1 G bX bF bS bT bV bP (bT 0) (bV 0) r.2.1 uS r.2.2 uV uP) (gD G) (tyG G) A) args s 0 0 A) (F0 m 89 ls [.int y0]) := by
  have hx := C.1.1
  have hb := C.1.2.1
  have hts := C.1.2.2.2.2
  have hown := C.1.2.2.2.1
  have hin5 : ∀ w ∈ wsX50, w ∈ ws8_set_B := fun w h => List.mem_cons_of_mem _ (m8 (List.mem_append_right _ (List.mem_append_left _ h)))
  have hin6 : ∀ w ∈ wsX60, w ∈ ws8_set_B := fun w h => List.mem_cons_of_mem _ (m8 (List.mem_append_right _ (List.mem_append_right _ (List.mem_append_left _ h))))
  have hin7 : ∀ w ∈ wsX70, w ∈ ws8_set_B := fun w h => List.mem_cons_of_mem _ (m8 (List.mem_append_right _ (List.mem_append_right _ (List.mem_append_right _ (List.mem_append_left _ h)))))
  have hin8 : ∀ w ∈ wsX80, w ∈ ws8_set_B := fun w h => List.mem_cons_of_mem _ (m8 (List.mem_append_right _ (List.mem_append_right _ (List.mem_append_right _ (List.mem_append_right _ h)))))
  intro uX uT x1 x3 x6 x7 y0 hf H locs hP hD hS ls hl
  unfold f8_set_B_89 at hf
  refine lv_istore (lv' := [(9, .int y0), (0, .ref (bX 0)), (1, .int x1), (3, .long x3), (6, .int x6), (7, .int x7)]) hx hb dX8_set_89 hl (by decide) rfl (fun ls hl => ?_)
  refine lv_iload hx hb dX8_set_91 (lv_at hl 0 rfl) ?_
  refine lv_if_ne (tgt := 98) hx hb dX8_set_93 (by decide) (fun c_17 => ?_) (fun c_17 => ?_)
  · replace hf := og_f c_17 hf
    refine lv_iload hx hb dX8_set_98 (lv_at hl 4 rfl) ?_
    refine lv_if_eq (tgt := 117) hx hb dX8_set_100 (by decide) (fun c_18 => ?_) (fun c_18 => ?_)
    · replace hf := og_t c_18 hf
      refine lv_aload_n hx hb dX8_set_117 rfl (lv_at hl 1 rfl) ?_
      refine xg (v := .ref (bT 0)) (ci := 5) (K := RX8) (T := TX8) (N := 6) C hin8 hK hP 0 rfl rfl 3 (by decide) rfl (hts (Cond.fieldLink RX8 36 "SchematicText" "tree" "LSchematicText$Tree;") (List.mem_cons_of_mem _ (m8 mx_479))) rfl dX8_set_118 ?_
      refine lv_iload_n hx hb dX8_set_121 rfl (lv_at hl 2 rfl) ?_
      refine lv_iload hx hb dX8_set_122 (lv_at hl 5 rfl) ?_
      refine lv_lload_n hx hb dX8_set_124 rfl (lv_at hl 3 rfl) ?_
      obtain ⟨u_20, h_19, hf⟩ := og_b hf
      try dsimp only at hf
      refine xw_V (ov := none) (st1 := []) (rest := []) (w0 := (cT G bT uT)) (w1 := (cT G bT u_20)) (wr := ([(bX 0, .inr (5, fs8 bF bS bP (bT 0) (bV 0) uX))] ++ cF 1 bF ++ cS G bS uS ++ cT G bV uV ++ cP G bP uP)) (w' := (c8 1 G bX bF bS bT bV bP (bT 0) (bV 0) uX uS u_20 uV uP)) C (cx_X7_putNumber l G bT uT x1 x7 x3 u_20 _ h_19) (cwV 3 hts (gd8_m gx_X8_X7_putNumber_186) rfl rfl rfl hdx_X7_putNumber ⟨Nat.le_of_ble_eq_true rfl, Nat.le_of_ble_eq_true rfl⟩) hK hA hT.1 hP hD hS (va_recv hK hP (ci := 4) (q0 := 4) rfl rfl) [4, 5, 6, 7, 8, 9, 10, 11, 12, 13, 14, 15, 16] [0, 1, 2, 3, 17, 18, 19, 20, 21, 22, 23, 24, 25, 26, 27, 28, 29, 30, 31] [0, 1, 2, 3, 19, 20, 21, 22, 23, 24, 25, 26, 27, 28, 29, 30, 31, 4, 5, 6, 7, 8, 9, 10, 11, 12, 13, 14, 15, 16, 17, 18] rfl rfl rfl rfl (by decide) rfl rfl rfl hl.1 rfl rfl (Nat.le_of_ble_eq_true rfl) dX8_set_125 (fun H locs hP hD hS => ?_)
      exact w8r_set_B_128 C hK hA hT uX u_20 hf hP hD hS (lv_sub hl [1] rfl)
    · replace hf := og_f c_18 hf
      refine lv_aload_n hx hb dX8_set_103 rfl (lv_at hl 1 rfl) ?_
      refine xg (v := .ref (bT 0)) (ci := 5) (K := RX8) (T := TX8) (N := 6) C hin8 hK hP 0 rfl rfl 3 (by decide) rfl (hts (Cond.fieldLink RX8 36 "SchematicText" "tree" "LSchematicText$Tree;") (List.mem_cons_of_mem _ (m8 mx_479))) rfl dX8_set_104 ?_
      refine lv_iload_n hx hb dX8_set_107 rfl (lv_at hl 2 rfl) ?_
      refine lv_iload hx hb dX8_set_108 (lv_at hl 5 rfl) ?_
      refine lv_lload_n hx hb dX8_set_110 rfl (lv_at hl 3 rfl) ?_
      obtain ⟨u_22, h_21, hf⟩ := og_b hf
      try dsimp only at hf
      refine xw_V (ov := none) (st1 := []) (rest := []) (w0 := (cT G bT uT)) (w1 := (cT G bT u_22)) (wr := ([(bX 0, .inr (5, fs8 bF bS bP (bT 0) (bV 0) uX))] ++ cF 1 bF ++ cS G bS uS ++ cT G bV uV ++ cP G bP uP)) (w' := (c8 1 G bX bF bS bT bV bP (bT 0) (bV 0) uX uS u_22 uV uP)) C (cx_X7_extendText l G bT uT x1 x7 x3 u_22 _ h_21) (cwV 3 hts (gd8_m gx_X8_X7_extendText_182) rfl rfl rfl hdx_X7_extendText ⟨Nat.le_of_ble_eq_true rfl, Nat.le_of_ble_eq_true rfl⟩) hK hA hT.1 hP hD hS (va_recv hK hP (ci := 4) (q0 := 4) rfl rfl) [4, 5, 6, 7, 8, 9, 10, 11, 12, 13, 14, 15, 16] [0, 1, 2, 3, 17, 18, 19, 20, 21, 22, 23, 24, 25, 26, 27, 28, 29, 30, 31] [0, 1, 2, 3, 19, 20, 21, 22, 23, 24, 25, 26, 27, 28, 29, 30, 31, 4, 5, 6, 7, 8, 9, 10, 11, 12, 13, 14, 15, 16, 17, 18] rfl rfl rfl rfl (by decide) rfl rfl rfl hl.1 rfl rfl (Nat.le_of_ble_eq_true rfl) dX8_set_111 (fun H locs hP hD hS => ?_)
      refine lv_goto (tgt := 128) hx hb dX8_set_114 (by decide) ?_
      exact w8r_set_B_128 C hK hA hT uX u_22 hf hP hD hS (lv_sub hl [1] rfl)
  · replace hf := og_t c_17 hf
    refine lv_iconst (v := (0 : Int32)) hx hb dX8_set_96 (by decide) ?_
    obtain rfl := (Sum.inr.inj (og_s hf))
    exact rw_z C hK hP hD hS (nz_z (Or.inl rfl)) dX8_set_97
set_option maxHeartbeats 4000000 in
set_option maxRecDepth 100000 in
theorem w8t_set_B_89 {p : Program} {l : Launch} {e : Env} {s : State} {m : MethodId} {args : Array Value} {below : List Frame} {meth : Method} {c : Code} {G : Gx} {A : Nat → Prop} {bX bF bS bT bV bP : Nat → Nat} (C : Cx p s m args meth c cX8_set 10 ws8_set_B RX8 (some .boolean)) (hL0 : l.stackTraces = false) (hnt : ∀ x ∈ c.exceptionTable.toList, False) {uX uS uT uV uP : Md} (hK : va_K (gD G) vwCl (tyG G) s) (hA : ∀ q : Nat, s.heap.size ≤ q → A q) (hT : ST8 G A s s.heap) (hP : va_P (gD G) vwCl (c8 1 G bX bF bS bT bV bP (bT 0) (bV 0) uX uS uT uV uP) s.heap) (hD : va_D A (c8 1 G bX bF bS bT bV bP (bT 0) (bV 0) uX uS uT uV uP)) (hS : va_S A s.heap s.heap []) {ek : Nat} : ∀ (x1 : Int32) (x3 : Int64) (x6 : Int32) (x7 : Int32) (y0 : Int32), f8_set_B_89 uS uV uP uX uT x1 x3 x6 x7 y0 = some (Sum.inl ek) → ∀ {ls : Array Slot}, lv_has ls 10 [(0, .ref (bX 0)), (1, .int x1), (3, .long x3), (6, .int x6), (7, .int x7)] → W p l e rm8t_set_B s m args below meth c s.heap [] 0 0 (vx_MQ below Q0 (xc8 ek) args s 1 6 (fun _ => False)) (F0 m 89 ls [.int y0]) := by
  have hx := C.1.1
  have hb := C.1.2.1
  have hts := C.1.2.2.2.2
  have hown := C.1.2.2.2.1
  have hin5 : ∀ w ∈ wsX50, w ∈ ws8_set_B := fun w h => List.mem_cons_of_mem _ (m8 (List.mem_append_right _ (List.mem_append_left _ h)))
  have hin6 : ∀ w ∈ wsX60, w ∈ ws8_set_B := fun w h => List.mem_cons_of_mem _ (m8 (List.mem_append_right _ (List.mem_append_right _ (List.mem_append_left _ h))))
  have hin7 : ∀ w ∈ wsX70, w ∈ ws8_set_B := fun w h => List.mem_cons_of_mem _ (m8 (List.mem_append_right _ (List.mem_append_right _ (List.mem_append_right _ (List.mem_append_left _ h)))))
  have hin8 : ∀ w ∈ wsX80, w ∈ ws8_set_B := fun w h => List.mem_cons_of_mem _ (m8 (List.mem_append_right _ (List.mem_append_right _ (List.mem_append_right _ (List.mem_append_right _ h)))))
  intro x1 x3 x6 x7 y0 hf ls hl
  unfold f8_set_B_89 at hf
  refine lv_istore (lv' := [(9, .int y0), (0, .ref (bX 0)), (1, .int x1), (3, .long x3), (6, .int x6), (7, .int x7)]) hx hb dX8_set_89 hl (by decide) rfl (fun ls hl => ?_)
  refine lv_iload hx hb dX8_set_91 (lv_at hl 0 rfl) ?_
  refine lv_if_ne (tgt := 98) hx hb dX8_set_93 (by decide) (fun c_17 => ?_) (fun c_17 => ?_)
  · replace hf := og_f c_17 hf
    refine lv_iload hx hb dX8_set_98 (lv_at hl 4 rfl) ?_
    refine lv_if_eq (tgt := 117) hx hb dX8_set_100 (by decide) (fun c_18 => ?_) (fun c_18 => ?_)
    · replace hf := og_t c_18 hf
      refine lv_aload_n hx hb dX8_set_117 rfl (lv_at hl 1 rfl) ?_
      refine xg (v := .ref (bT 0)) (ci := 5) (K := RX8) (T := TX8) (N := 6) C hin8 hK hP 0 rfl rfl 3 (by decide) rfl (hts (Cond.fieldLink RX8 36 "SchematicText" "tree" "LSchematicText$Tree;") (List.mem_cons_of_mem _ (m8 mx_479))) rfl dX8_set_118 ?_
      refine lv_iload_n hx hb dX8_set_121 rfl (lv_at hl 2 rfl) ?_
      refine lv_iload hx hb dX8_set_122 (lv_at hl 5 rfl) ?_
      refine lv_lload_n hx hb dX8_set_124 rfl (lv_at hl 3 rfl) ?_
      obtain ⟨u_20, h_19, hf⟩ := og_b hf
      try dsimp only at hf
      exact absurd hf (n8_set_B_128 uS uV uP uX u_20 _)
    · replace hf := og_f c_18 hf
      refine lv_aload_n hx hb dX8_set_103 rfl (lv_at hl 1 rfl) ?_
      refine xg (v := .ref (bT 0)) (ci := 5) (K := RX8) (T := TX8) (N := 6) C hin8 hK hP 0 rfl rfl 3 (by decide) rfl (hts (Cond.fieldLink RX8 36 "SchematicText" "tree" "LSchematicText$Tree;") (List.mem_cons_of_mem _ (m8 mx_479))) rfl dX8_set_104 ?_
      refine lv_iload_n hx hb dX8_set_107 rfl (lv_at hl 2 rfl) ?_
      refine lv_iload hx hb dX8_set_108 (lv_at hl 5 rfl) ?_
      refine lv_lload_n hx hb dX8_set_110 rfl (lv_at hl 3 rfl) ?_
      obtain ⟨u_22, h_21, hf⟩ := og_b hf
      try dsimp only at hf
      exact absurd hf (n8_set_B_128 uS uV uP uX u_22 _)
  · replace hf := og_t c_17 hf
    refine lv_iconst (v := (0 : Int32)) hx hb dX8_set_96 (by decide) ?_
    cases (og_s hf)
def f8_set_B_30 (uS : Md) (uV : Md) (uP : Md) (uX : Md) (uT : Md) (x1 : Int32) (x3 : Int64) (x5 : (Fin 10)) (x6 : Int32) (y0 : Int32) : Option (Nat ⊕ (Int32 × Md × Md)) := ((fx_X2_spotOf x5 x6 y0).bind fun r_8 => (if r_8 = (-1 : Int32) then (some (Sum.inl 1)) else (if x6 = 0 then ((fx_X2_fieldAt x5 r_8).bind fun r_12 => ((fx_X0_admits r_12 x3).bind fun r_14 => (f8_set_B_89 uS uV uP uX uT x1 x3 x6 y0 r_14))) else ((fx_X7_fitsText uT x1 y0 x3).bind fun r_16 => (f8_set_B_89 uS uV uP uX uT x1 x3 x6 y0 r_16)))))
set_option maxHeartbeats 4000000 in
set_option maxRecDepth 100000 in
theorem w8r_set_B_30 {p : Program} {l : Launch} {e : Env} {s : State} {m : MethodId} {args : Array Value} {below : List Frame} {meth : Method} {c : Code} {G : Gx} {A : Nat → Prop} {bX bF bS bT bV bP : Nat → Nat} (C : Cx p s m args meth c cX8_set 10 ws8_set_B RX8 (some .boolean)) {uS : Md} {uV : Md} {uP : Md} (hK : va_K (gD G) vwCl (tyG G) s) (hA : ∀ q : Nat, s.heap.size ≤ q → A q) (hT : ST8 G A s s.heap) {r : (Int32 × Md × Md)} : ∀ (uX : Md) (uT : Md) (x1 : Int32) (x3 : Int64) (x5 : (Fin 10)) (x6 : Int32) (y0 : Int32), f8_set_B_30 uS uV uP uX uT x1 x3 x5 x6 y0 = some (Sum.inr r) → ∀ {H : Heap} {locs : List Loc}, va_P (gD G) vwCl (c8 1 G bX bF bS bT bV bP (bT 0) (bV 0) uX uS uT uV uP) H → va_D A (c8 1 G bX bF bS bT bV bP (bT 0) (bV 0) uX uS uT uV uP) → va_S A s.heap H locs → ∀ {ls : Array Slot}, lv_has ls 10 [(0, .ref (bX 0)), (1, .int x1), (3, .long x3), (5, .ref (gK G (x5).val)), (6, .int x6)] → W p l e rm8_set_B s m args below meth c H locs 0 0 (MQ below (qW (some (.int r.1)) (c8 1 G bX bF bS bT bV bP (bT 0) (bV 0) r.2.1 uS r.2.2 uV uP) (gD G) (tyG G) A) args s 0 0 A) (F0 m 30 ls [.int y0]) := by
  have hx := C.1.1
  have hb := C.1.2.1
  have hts := C.1.2.2.2.2
  have hown := C.1.2.2.2.1
  have hin5 : ∀ w ∈ wsX50, w ∈ ws8_set_B := fun w h => List.mem_cons_of_mem _ (m8 (List.mem_append_right _ (List.mem_append_left _ h)))
  have hin6 : ∀ w ∈ wsX60, w ∈ ws8_set_B := fun w h => List.mem_cons_of_mem _ (m8 (List.mem_append_right _ (List.mem_append_right _ (List.mem_append_left _ h))))
  have hin7 : ∀ w ∈ wsX70, w ∈ ws8_set_B := fun w h => List.mem_cons_of_mem _ (m8 (List.mem_append_right _ (List.mem_append_right _ (List.mem_append_right _ (List.mem_append_left _ h)))))
  have hin8 : ∀ w ∈ wsX80, w ∈ ws8_set_B := fun w h => List.mem_cons_of_mem _ (m8 (List.mem_append_right _ (List.mem_append_right _ (List.mem_append_right _ (List.mem_append_right _ h)))))
  intro uX uT x1 x3 x5 x6 y0 hf H locs hP hD hS ls hl
  unfold f8_set_B_30 at hf
  refine lv_istore (lv' := [(7, .int y0), (0, .ref (bX 0)), (1, .int x1), (3, .long x3), (5, .ref (gK G (x5).val)), (6, .int x6)]) hx hb dX8_set_30 hl (by decide) rfl (fun ls hl => ?_)
  refine lv_aload hx hb dX8_set_32 (lv_at hl 4 rfl) ?_
  refine lv_iload hx hb dX8_set_34 (lv_at hl 5 rfl) ?_
  refine lv_iload hx hb dX8_set_36 (lv_at hl 0 rfl) ?_
  obtain ⟨r_8, h_7, hf⟩ := og_b hf
  try dsimp only at hf
  refine xr_V (v := .int r_8) (rest := []) (w0 := []) C (cx_X2_spotOf l G x5 x6 y0 r_8 _ h_7) (cwV 2 hts (gd8_m gx_X8_X2_spotOf_93) rfl rfl rfl hdx_X2_spotOf ⟨Nat.le_of_ble_eq_true rfl, Nat.le_of_ble_eq_true rfl⟩) hK hA hT.1 hP hD hS (va_recvE hT.1.1.2.2.2.2.1 (x5).isLt hS) [] rfl rfl rfl hl.1 rfl (Nat.le_of_ble_eq_true rfl) dX8_set_38 ?_
  refine lv_istore (lv' := [(8, .int r_8), (7, .int y0), (0, .ref (bX 0)), (1, .int x1), (3, .long x3), (5, .ref (gK G (x5).val)), (6, .int x6)]) hx hb dX8_set_41 hl (by decide) rfl (fun ls hl => ?_)
  refine lv_iload hx hb dX8_set_43 (lv_at hl 0 rfl) ?_
  refine lv_iconst (v := (-1 : Int32)) hx hb dX8_set_45 (by decide) ?_
  refine lv_icmp_ne (tgt := 59) hx hb dX8_set_46 (by decide) (fun c_9 => ?_) (fun c_9 => ?_)
  · replace hf := og_f c_9 hf
    refine lv_iload hx hb dX8_set_59 (lv_at hl 6 rfl) ?_
    refine lv_if_eq (tgt := 78) hx hb dX8_set_61 (by decide) (fun c_10 => ?_) (fun c_10 => ?_)
    · replace hf := og_t c_10 hf
      refine lv_aload hx hb dX8_set_78 (lv_at hl 5 rfl) ?_
      refine lv_iload hx hb dX8_set_80 (lv_at hl 0 rfl) ?_
      obtain ⟨r_12, h_11, hf⟩ := og_b hf
      try dsimp only at hf
      refine xr_V (v := .ref (gF G (r_12).val)) (rest := []) (w0 := []) C (cx_X2_fieldAt l G x5 r_8 r_12 _ h_11) (cwV 1 hts (gd8_m gx_X8_X2_fieldAt_172) rfl rfl rfl hdx_X2_fieldAt ⟨Nat.le_of_ble_eq_true rfl, Nat.le_of_ble_eq_true rfl⟩) hK hA hT.1 hP hD hS (va_recvE hT.1.1.2.2.2.2.1 (x5).isLt hS) [] rfl rfl rfl hl.1 rfl (Nat.le_of_ble_eq_true rfl) dX8_set_82 ?_
      refine lv_lload_n hx hb dX8_set_85 rfl (lv_at hl 4 rfl) ?_
      obtain ⟨r_14, h_13, hf⟩ := og_b hf
      try dsimp only at hf
      refine xr_V (v := .int r_14) (rest := []) (w0 := []) C (cx_X0_admits l G r_12 x3 r_14 _ h_13) (cwV 1 hts (gd8_m gx_X8_X0_admits_176) rfl rfl rfl hdx_X0_admits ⟨Nat.le_of_ble_eq_true rfl, Nat.le_of_ble_eq_true rfl⟩) hK hA hT.1 hP hD hS (va_recvE hT.1.1.1 (r_12).isLt hS) [] rfl rfl rfl hl.1 rfl (Nat.le_of_ble_eq_true rfl) dX8_set_86 ?_
      exact w8r_set_B_89 C hK hA hT uX uT x1 x3 x6 y0 r_14 hf hP hD hS (lv_sub hl [2, 3, 4, 6, 1] rfl)
    · replace hf := og_f c_10 hf
      refine lv_aload_n hx hb dX8_set_64 rfl (lv_at hl 2 rfl) ?_
      refine xg (v := .ref (bT 0)) (ci := 5) (K := RX8) (T := TX8) (N := 6) C hin8 hK hP 0 rfl rfl 3 (by decide) rfl (hts (Cond.fieldLink RX8 36 "SchematicText" "tree" "LSchematicText$Tree;") (List.mem_cons_of_mem _ (m8 mx_479))) rfl dX8_set_65 ?_
      refine lv_iload_n hx hb dX8_set_68 rfl (lv_at hl 3 rfl) ?_
      refine lv_iload hx hb dX8_set_69 (lv_at hl 1 rfl) ?_
      refine lv_lload_n hx hb dX8_set_71 rfl (lv_at hl 4 rfl) ?_
      obtain ⟨r_16, h_15, hf⟩ := og_b hf
      try dsimp only at hf
      refine xr_V (v := .int r_16) (rest := []) (w0 := (cT G bT uT)) C (cx_X7_fitsText l G bT uT x1 y0 x3 r_16 _ h_15) (cwV 3 hts (gd8_m gx_X8_X7_fitsText_168) rfl rfl rfl hdx_X7_fitsText ⟨Nat.le_of_ble_eq_true rfl, Nat.le_of_ble_eq_true rfl⟩) hK hA hT.1 hP hD hS (va_recv hK hP (ci := 4) (q0 := 4) rfl rfl) [4, 5, 6, 7, 8, 9, 10, 11, 12, 13, 14, 15, 16] rfl rfl rfl hl.1 rfl (Nat.le_of_ble_eq_true rfl) dX8_set_72 ?_
      refine lv_goto (tgt := 89) hx hb dX8_set_75 (by decide) ?_
      exact w8r_set_B_89 C hK hA hT uX uT x1 x3 x6 y0 r_16 hf hP hD hS (lv_sub hl [2, 3, 4, 6, 1] rfl)
  · replace hf := og_t c_9 hf
    cases (og_s hf)
set_option maxHeartbeats 4000000 in
set_option maxRecDepth 100000 in
theorem w8t_set_B_30 {p : Program} {l : Launch} {e : Env} {s : State} {m : MethodId} {args : Array Value} {below : List Frame} {meth : Method} {c : Code} {G : Gx} {A : Nat → Prop} {bX bF bS bT bV bP : Nat → Nat} (C : Cx p s m args meth c cX8_set 10 ws8_set_B RX8 (some .boolean)) (hL0 : l.stackTraces = false) (hnt : ∀ x ∈ c.exceptionTable.toList, False) {uX uS uT uV uP : Md} (hK : va_K (gD G) vwCl (tyG G) s) (hA : ∀ q : Nat, s.heap.size ≤ q → A q) (hT : ST8 G A s s.heap) (hP : va_P (gD G) vwCl (c8 1 G bX bF bS bT bV bP (bT 0) (bV 0) uX uS uT uV uP) s.heap) (hD : va_D A (c8 1 G bX bF bS bT bV bP (bT 0) (bV 0) uX uS uT uV uP)) (hS : va_S A s.heap s.heap []) {ek : Nat} : ∀ (x1 : Int32) (x3 : Int64) (x5 : (Fin 10)) (x6 : Int32) (y0 : Int32), f8_set_B_30 uS uV uP uX uT x1 x3 x5 x6 y0 = some (Sum.inl ek) → ∀ {ls : Array Slot}, lv_has ls 10 [(0, .ref (bX 0)), (1, .int x1), (3, .long x3), (5, .ref (gK G (x5).val)), (6, .int x6)] → W p l e rm8t_set_B s m args below meth c s.heap [] 0 0 (vx_MQ below Q0 (xc8 ek) args s 1 6 (fun _ => False)) (F0 m 30 ls [.int y0]) := by
  have hx := C.1.1
  have hb := C.1.2.1
  have hts := C.1.2.2.2.2
  have hown := C.1.2.2.2.1
  have hin5 : ∀ w ∈ wsX50, w ∈ ws8_set_B := fun w h => List.mem_cons_of_mem _ (m8 (List.mem_append_right _ (List.mem_append_left _ h)))
  have hin6 : ∀ w ∈ wsX60, w ∈ ws8_set_B := fun w h => List.mem_cons_of_mem _ (m8 (List.mem_append_right _ (List.mem_append_right _ (List.mem_append_left _ h))))
  have hin7 : ∀ w ∈ wsX70, w ∈ ws8_set_B := fun w h => List.mem_cons_of_mem _ (m8 (List.mem_append_right _ (List.mem_append_right _ (List.mem_append_right _ (List.mem_append_left _ h)))))
  have hin8 : ∀ w ∈ wsX80, w ∈ ws8_set_B := fun w h => List.mem_cons_of_mem _ (m8 (List.mem_append_right _ (List.mem_append_right _ (List.mem_append_right _ (List.mem_append_right _ h)))))
  intro x1 x3 x5 x6 y0 hf ls hl
  unfold f8_set_B_30 at hf
  refine lv_istore (lv' := [(7, .int y0), (0, .ref (bX 0)), (1, .int x1), (3, .long x3), (5, .ref (gK G (x5).val)), (6, .int x6)]) hx hb dX8_set_30 hl (by decide) rfl (fun ls hl => ?_)
  refine lv_aload hx hb dX8_set_32 (lv_at hl 4 rfl) ?_
  refine lv_iload hx hb dX8_set_34 (lv_at hl 5 rfl) ?_
  refine lv_iload hx hb dX8_set_36 (lv_at hl 0 rfl) ?_
  obtain ⟨r_8, h_7, hf⟩ := og_b hf
  try dsimp only at hf
  refine xr_V (v := .int r_8) (rest := []) (w0 := []) C (cx_X2_spotOf l G x5 x6 y0 r_8 _ h_7) (cwV 2 hts (gd8_m gx_X8_X2_spotOf_93) rfl rfl rfl hdx_X2_spotOf ⟨Nat.le_of_ble_eq_true rfl, Nat.le_of_ble_eq_true rfl⟩) hK hA hT.1 hP hD hS (va_recvE hT.1.1.2.2.2.2.1 (x5).isLt hS) [] rfl rfl rfl hl.1 rfl (Nat.le_of_ble_eq_true rfl) dX8_set_38 ?_
  refine lv_istore (lv' := [(8, .int r_8), (7, .int y0), (0, .ref (bX 0)), (1, .int x1), (3, .long x3), (5, .ref (gK G (x5).val)), (6, .int x6)]) hx hb dX8_set_41 hl (by decide) rfl (fun ls hl => ?_)
  refine lv_iload hx hb dX8_set_43 (lv_at hl 0 rfl) ?_
  refine lv_iconst (v := (-1 : Int32)) hx hb dX8_set_45 (by decide) ?_
  refine lv_icmp_ne (tgt := 59) hx hb dX8_set_46 (by decide) (fun c_9 => ?_) (fun c_9 => ?_)
  · replace hf := og_f c_9 hf
    refine lv_iload hx hb dX8_set_59 (lv_at hl 6 rfl) ?_
    refine lv_if_eq (tgt := 78) hx hb dX8_set_61 (by decide) (fun c_10 => ?_) (fun c_10 => ?_)
    · replace hf := og_t c_10 hf
      refine lv_aload hx hb dX8_set_78 (lv_at hl 5 rfl) ?_
      refine lv_iload hx hb dX8_set_80 (lv_at hl 0 rfl) ?_
      obtain ⟨r_12, h_11, hf⟩ := og_b hf
      try dsimp only at hf
      refine xr_V (v := .ref (gF G (r_12).val)) (rest := []) (w0 := []) C (cx_X2_fieldAt l G x5 r_8 r_12 _ h_11) (cwV 1 hts (gd8_m gx_X8_X2_fieldAt_172) rfl rfl rfl hdx_X2_fieldAt ⟨Nat.le_of_ble_eq_true rfl, Nat.le_of_ble_eq_true rfl⟩) hK hA hT.1 hP hD hS (va_recvE hT.1.1.2.2.2.2.1 (x5).isLt hS) [] rfl rfl rfl hl.1 rfl (Nat.le_of_ble_eq_true rfl) dX8_set_82 ?_
      refine lv_lload_n hx hb dX8_set_85 rfl (lv_at hl 4 rfl) ?_
      obtain ⟨r_14, h_13, hf⟩ := og_b hf
      try dsimp only at hf
      refine xr_V (v := .int r_14) (rest := []) (w0 := []) C (cx_X0_admits l G r_12 x3 r_14 _ h_13) (cwV 1 hts (gd8_m gx_X8_X0_admits_176) rfl rfl rfl hdx_X0_admits ⟨Nat.le_of_ble_eq_true rfl, Nat.le_of_ble_eq_true rfl⟩) hK hA hT.1 hP hD hS (va_recvE hT.1.1.1 (r_12).isLt hS) [] rfl rfl rfl hl.1 rfl (Nat.le_of_ble_eq_true rfl) dX8_set_86 ?_
      exact w8t_set_B_89 C hL0 hnt hK hA hT hP hD hS x1 x3 x6 y0 r_14 hf (lv_sub hl [2, 3, 4, 6, 1] rfl)
    · replace hf := og_f c_10 hf
      refine lv_aload_n hx hb dX8_set_64 rfl (lv_at hl 2 rfl) ?_
      refine xg (v := .ref (bT 0)) (ci := 5) (K := RX8) (T := TX8) (N := 6) C hin8 hK hP 0 rfl rfl 3 (by decide) rfl (hts (Cond.fieldLink RX8 36 "SchematicText" "tree" "LSchematicText$Tree;") (List.mem_cons_of_mem _ (m8 mx_479))) rfl dX8_set_65 ?_
      refine lv_iload_n hx hb dX8_set_68 rfl (lv_at hl 3 rfl) ?_
      refine lv_iload hx hb dX8_set_69 (lv_at hl 1 rfl) ?_
      refine lv_lload_n hx hb dX8_set_71 rfl (lv_at hl 4 rfl) ?_
      obtain ⟨r_16, h_15, hf⟩ := og_b hf
      try dsimp only at hf
      refine xr_V (v := .int r_16) (rest := []) (w0 := (cT G bT uT)) C (cx_X7_fitsText l G bT uT x1 y0 x3 r_16 _ h_15) (cwV 3 hts (gd8_m gx_X8_X7_fitsText_168) rfl rfl rfl hdx_X7_fitsText ⟨Nat.le_of_ble_eq_true rfl, Nat.le_of_ble_eq_true rfl⟩) hK hA hT.1 hP hD hS (va_recv hK hP (ci := 4) (q0 := 4) rfl rfl) [4, 5, 6, 7, 8, 9, 10, 11, 12, 13, 14, 15, 16] rfl rfl rfl hl.1 rfl (Nat.le_of_ble_eq_true rfl) dX8_set_72 ?_
      refine lv_goto (tgt := 89) hx hb dX8_set_75 (by decide) ?_
      exact w8t_set_B_89 C hL0 hnt hK hA hT hP hD hS x1 x3 x6 y0 r_16 hf (lv_sub hl [2, 3, 4, 6, 1] rfl)
  · replace hf := og_t c_9 hf
    obtain rfl := Sum.inl.inj (og_s hf)
    exact th8_1 (rest := []) (is := 166) (tx := "no such field") C hL0 hT hS hnt hl.1 (by decide +kernel) mx_509 mx_510 dX8_set_49 dX8_set_52 dX8_set_53 dX8_set_55 dX8_set_58 (Nat.le_of_ble_eq_true rfl) (Nat.le_of_ble_eq_true rfl) (Nat.le_of_ble_eq_true rfl) (Nat.le_of_ble_eq_true rfl)
def f8_set_B_16 (uS : Md) (uV : Md) (uP : Md) (uX : Md) (uT : Md) (x1 : Int32) (x2 : Int32) (x3 : Int64) (x5 : (Fin 10)) (y0 : Int32) : Option (Nat ⊕ (Int32 × Md × Md)) := (if y0 = 0 then (f8_set_B_30 uS uV uP uX uT x1 x3 x5 y0 x2) else (f8_set_B_30 uS uV uP uX uT x1 x3 x5 y0 ((-1 : Int32) - x2)))
set_option maxHeartbeats 4000000 in
set_option maxRecDepth 100000 in
theorem w8r_set_B_16 {p : Program} {l : Launch} {e : Env} {s : State} {m : MethodId} {args : Array Value} {below : List Frame} {meth : Method} {c : Code} {G : Gx} {A : Nat → Prop} {bX bF bS bT bV bP : Nat → Nat} (C : Cx p s m args meth c cX8_set 10 ws8_set_B RX8 (some .boolean)) {uS : Md} {uV : Md} {uP : Md} (hK : va_K (gD G) vwCl (tyG G) s) (hA : ∀ q : Nat, s.heap.size ≤ q → A q) (hT : ST8 G A s s.heap) {r : (Int32 × Md × Md)} : ∀ (uX : Md) (uT : Md) (x1 : Int32) (x2 : Int32) (x3 : Int64) (x5 : (Fin 10)) (y0 : Int32), f8_set_B_16 uS uV uP uX uT x1 x2 x3 x5 y0 = some (Sum.inr r) → ∀ {H : Heap} {locs : List Loc}, va_P (gD G) vwCl (c8 1 G bX bF bS bT bV bP (bT 0) (bV 0) uX uS uT uV uP) H → va_D A (c8 1 G bX bF bS bT bV bP (bT 0) (bV 0) uX uS uT uV uP) → va_S A s.heap H locs → ∀ {ls : Array Slot}, lv_has ls 10 [(0, .ref (bX 0)), (1, .int x1), (2, .int x2), (3, .long x3), (5, .ref (gK G (x5).val))] → W p l e rm8_set_B s m args below meth c H locs 0 0 (MQ below (qW (some (.int r.1)) (c8 1 G bX bF bS bT bV bP (bT 0) (bV 0) r.2.1 uS r.2.2 uV uP) (gD G) (tyG G) A) args s 0 0 A) (F0 m 16 ls [.int y0]) := by
  have hx := C.1.1
  have hb := C.1.2.1
  have hts := C.1.2.2.2.2
  have hown := C.1.2.2.2.1
  have hin5 : ∀ w ∈ wsX50, w ∈ ws8_set_B := fun w h => List.mem_cons_of_mem _ (m8 (List.mem_append_right _ (List.mem_append_left _ h)))
  have hin6 : ∀ w ∈ wsX60, w ∈ ws8_set_B := fun w h => List.mem_cons_of_mem _ (m8 (List.mem_append_right _ (List.mem_append_right _ (List.mem_append_left _ h))))
  have hin7 : ∀ w ∈ wsX70, w ∈ ws8_set_B := fun w h => List.mem_cons_of_mem _ (m8 (List.mem_append_right _ (List.mem_append_right _ (List.mem_append_right _ (List.mem_append_left _ h)))))
  have hin8 : ∀ w ∈ wsX80, w ∈ ws8_set_B := fun w h => List.mem_cons_of_mem _ (m8 (List.mem_append_right _ (List.mem_append_right _ (List.mem_append_right _ (List.mem_append_right _ h)))))
  intro uX uT x1 x2 x3 x5 y0 hf H locs hP hD hS ls hl
  unfold f8_set_B_16 at hf
  refine lv_istore (lv' := [(6, .int y0), (0, .ref (bX 0)), (1, .int x1), (2, .int x2), (3, .long x3), (5, .ref (gK G (x5).val))]) hx hb dX8_set_16 hl (by decide) rfl (fun ls hl => ?_)
  refine lv_iload hx hb dX8_set_18 (lv_at hl 0 rfl) ?_
  refine lv_if_eq (tgt := 29) hx hb dX8_set_20 (by decide) (fun c_6 => ?_) (fun c_6 => ?_)
  · replace hf := og_t c_6 hf
    refine lv_iload_n hx hb dX8_set_29 rfl (lv_at hl 3 rfl) ?_
    exact w8r_set_B_30 C hK hA hT uX uT x1 x3 x5 y0 x2 hf hP hD hS (lv_sub hl [1, 2, 4, 5, 0] rfl)
  · replace hf := og_f c_6 hf
    refine lv_iconst (v := (-1 : Int32)) hx hb dX8_set_23 (by decide) ?_
    refine lv_iload_n hx hb dX8_set_24 rfl (lv_at hl 3 rfl) ?_
    refine lv_isub hx hb dX8_set_25 ?_
    refine lv_goto (tgt := 30) hx hb dX8_set_26 (by decide) ?_
    exact w8r_set_B_30 C hK hA hT uX uT x1 x3 x5 y0 ((-1 : Int32) - x2) hf hP hD hS (lv_sub hl [1, 2, 4, 5, 0] rfl)
set_option maxHeartbeats 4000000 in
set_option maxRecDepth 100000 in
theorem w8t_set_B_16 {p : Program} {l : Launch} {e : Env} {s : State} {m : MethodId} {args : Array Value} {below : List Frame} {meth : Method} {c : Code} {G : Gx} {A : Nat → Prop} {bX bF bS bT bV bP : Nat → Nat} (C : Cx p s m args meth c cX8_set 10 ws8_set_B RX8 (some .boolean)) (hL0 : l.stackTraces = false) (hnt : ∀ x ∈ c.exceptionTable.toList, False) {uX uS uT uV uP : Md} (hK : va_K (gD G) vwCl (tyG G) s) (hA : ∀ q : Nat, s.heap.size ≤ q → A q) (hT : ST8 G A s s.heap) (hP : va_P (gD G) vwCl (c8 1 G bX bF bS bT bV bP (bT 0) (bV 0) uX uS uT uV uP) s.heap) (hD : va_D A (c8 1 G bX bF bS bT bV bP (bT 0) (bV 0) uX uS uT uV uP)) (hS : va_S A s.heap s.heap []) {ek : Nat} : ∀ (x1 : Int32) (x2 : Int32) (x3 : Int64) (x5 : (Fin 10)) (y0 : Int32), f8_set_B_16 uS uV uP uX uT x1 x2 x3 x5 y0 = some (Sum.inl ek) → ∀ {ls : Array Slot}, lv_has ls 10 [(0, .ref (bX 0)), (1, .int x1), (2, .int x2), (3, .long x3), (5, .ref (gK G (x5).val))] → W p l e rm8t_set_B s m args below meth c s.heap [] 0 0 (vx_MQ below Q0 (xc8 ek) args s 1 6 (fun _ => False)) (F0 m 16 ls [.int y0]) := by
  have hx := C.1.1
  have hb := C.1.2.1
  have hts := C.1.2.2.2.2
  have hown := C.1.2.2.2.1
  have hin5 : ∀ w ∈ wsX50, w ∈ ws8_set_B := fun w h => List.mem_cons_of_mem _ (m8 (List.mem_append_right _ (List.mem_append_left _ h)))
  have hin6 : ∀ w ∈ wsX60, w ∈ ws8_set_B := fun w h => List.mem_cons_of_mem _ (m8 (List.mem_append_right _ (List.mem_append_right _ (List.mem_append_left _ h))))
  have hin7 : ∀ w ∈ wsX70, w ∈ ws8_set_B := fun w h => List.mem_cons_of_mem _ (m8 (List.mem_append_right _ (List.mem_append_right _ (List.mem_append_right _ (List.mem_append_left _ h)))))
  have hin8 : ∀ w ∈ wsX80, w ∈ ws8_set_B := fun w h => List.mem_cons_of_mem _ (m8 (List.mem_append_right _ (List.mem_append_right _ (List.mem_append_right _ (List.mem_append_right _ h)))))
  intro x1 x2 x3 x5 y0 hf ls hl
  unfold f8_set_B_16 at hf
  refine lv_istore (lv' := [(6, .int y0), (0, .ref (bX 0)), (1, .int x1), (2, .int x2), (3, .long x3), (5, .ref (gK G (x5).val))]) hx hb dX8_set_16 hl (by decide) rfl (fun ls hl => ?_)
  refine lv_iload hx hb dX8_set_18 (lv_at hl 0 rfl) ?_
  refine lv_if_eq (tgt := 29) hx hb dX8_set_20 (by decide) (fun c_6 => ?_) (fun c_6 => ?_)
  · replace hf := og_t c_6 hf
    refine lv_iload_n hx hb dX8_set_29 rfl (lv_at hl 3 rfl) ?_
    exact w8t_set_B_30 C hL0 hnt hK hA hT hP hD hS x1 x3 x5 y0 x2 hf (lv_sub hl [1, 2, 4, 5, 0] rfl)
  · replace hf := og_f c_6 hf
    refine lv_iconst (v := (-1 : Int32)) hx hb dX8_set_23 (by decide) ?_
    refine lv_iload_n hx hb dX8_set_24 rfl (lv_at hl 3 rfl) ?_
    refine lv_isub hx hb dX8_set_25 ?_
    refine lv_goto (tgt := 30) hx hb dX8_set_26 (by decide) ?_
    exact w8t_set_B_30 C hL0 hnt hK hA hT hP hD hS x1 x3 x5 y0 ((-1 : Int32) - x2) hf (lv_sub hl [1, 2, 4, 5, 0] rfl)
def f8_set_B (uX : Md) (uS : Md) (uT : Md) (uV : Md) (uP : Md) (x1 : Int32) (x2 : Int32) (x3 : Int64) : Option (Nat ⊕ (Int32 × Md × Md)) := ((f8_kindOfObject_B uX uS uT uV uP x1).bind fun q_1 => Sum.elim (fun e9 => some (Sum.inl e9)) (fun k_4 => (if 0 ≤ x2 then (f8_set_B_16 uS uV uP uX uT x1 x2 x3 k_4 (0 : Int32)) else (f8_set_B_16 uS uV uP uX uT x1 x2 x3 k_4 (1 : Int32)))) q_1)
set_option maxHeartbeats 4000000 in
set_option maxRecDepth 100000 in
theorem c8_set_B (l : Launch) (G : Gx) (bX bF bS bT bV bP : Nat → Nat) (uX : Md) (uS : Md) (uT : Md) (uV : Md) (uP : Md) (x1 : Int32) (x2 : Int32) (x3 : Int64) (r : Int32) (vX : Md) (vT : Md) (sz : Nat) (hf : f8_set_B uX uS uT uV uP x1 x2 x3 = some (Sum.inr (r, vX, vT))) : Met l yX8_set ws8_set_B rm8_set_B (pX8 G (c8 1 G bX bF bS bT bV bP (bT 0) (bV 0) uX uS uT uV uP) sz [.ref (bX 0), .int x1, .int x2, .long x3]) (qW (some (.int r)) (c8 1 G bX bF bS bT bV bP (bT 0) (bV 0) vX uS vT uV uP) (gD G) (tyG G) (va_A (c8 1 G bX bF bS bT bV bP (bT 0) (bV 0) uX uS uT uV uP) sz)) 0 0 (va_A (c8 1 G bX bF bS bT bV bP (bT 0) (bV 0) uX uS uT uV uP) sz) := by
  refine mx8_w (cc := cX8_set) (maxL := 10) (ret := (some .boolean)) (by decide) rfl (Nat.le_of_ble_eq_true rfl) ?_
  intro p e s m below meth c ls A C hl hK hA hT hP hD hS
  have hl : lv_has ls 10 [(0, .ref (bX 0)), (1, .int x1), (2, .int x2), (3, .long x3)] := hl
  have hx := C.1.1
  have hb := C.1.2.1
  have hts := C.1.2.2.2.2
  have hown := C.1.2.2.2.1
  have hin5 : ∀ w ∈ wsX50, w ∈ ws8_set_B := fun w h => List.mem_cons_of_mem _ (m8 (List.mem_append_right _ (List.mem_append_left _ h)))
  have hin6 : ∀ w ∈ wsX60, w ∈ ws8_set_B := fun w h => List.mem_cons_of_mem _ (m8 (List.mem_append_right _ (List.mem_append_right _ (List.mem_append_left _ h))))
  have hin7 : ∀ w ∈ wsX70, w ∈ ws8_set_B := fun w h => List.mem_cons_of_mem _ (m8 (List.mem_append_right _ (List.mem_append_right _ (List.mem_append_right _ (List.mem_append_left _ h)))))
  have hin8 : ∀ w ∈ wsX80, w ∈ ws8_set_B := fun w h => List.mem_cons_of_mem _ (m8 (List.mem_append_right _ (List.mem_append_right _ (List.mem_append_right _ (List.mem_append_right _ h)))))
  unfold f8_set_B at hf
  refine lv_aload_n hx hb dX8_set_0 rfl (lv_at hl 0 rfl) ?_
  refine lv_iload_n hx hb dX8_set_1 rfl (lv_at hl 1 rfl) ?_
  obtain ⟨q_1, h_2, hf⟩ := og_b hf
  rcases q_1 with e_3 | k_4
  · dsimp only [Sum.elim_inl] at hf
    cases (og_s hf)
  · dsimp only [Sum.elim_inr] at hf
    refine xr8_V (v := .ref (gK G (k_4).val)) (rest := []) (w0 := (c8 1 G bX bF bS bT bV bP (bT 0) (bV 0) uX uS uT uV uP)) C (c8_kindOfObject_B l G bX bF bS bT bV bP uX uS uT uV uP x1 k_4 _ h_2) (cwV 1 hts g8_kindOfObject_B rfl rfl rfl hd8_kindOfObject_B ⟨Nat.le_of_ble_eq_true rfl, Nat.le_of_ble_eq_true rfl⟩) hK hA hT hP hD hS (va_recv hK hP (ci := 5) (q0 := 0) rfl rfl) [0, 1, 2, 3, 4, 5, 6, 7, 8, 9, 10, 11, 12, 13, 14, 15, 16, 17, 18, 19, 20, 21, 22, 23, 24, 25, 26, 27, 28, 29, 30, 31] rfl rfl rfl hl.1 rfl (Nat.le_of_ble_eq_true rfl) dX8_set_2 ?_
    refine lv_astore (lv' := [(5, .ref (gK G (k_4).val)), (0, .ref (bX 0)), (1, .int x1), (2, .int x2), (3, .long x3)]) hx hb dX8_set_5 hl (by decide) rfl (fun ls hl => ?_)
    refine lv_iload_n hx hb dX8_set_7 rfl (lv_at hl 3 rfl) ?_
    refine lv_if_ge (tgt := 15) hx hb dX8_set_8 (by decide) (fun c_5 => ?_) (fun c_5 => ?_)
    · replace hf := og_t c_5 hf
      refine lv_iconst (v := (0 : Int32)) hx hb dX8_set_15 (by decide) ?_
      exact w8r_set_B_16 C hK hA hT uX uT x1 x2 x3 k_4 (0 : Int32) hf hP hD hS (lv_sub hl [1, 2, 3, 4, 0] rfl)
    · replace hf := og_f c_5 hf
      refine lv_iconst (v := (1 : Int32)) hx hb dX8_set_11 (by decide) ?_
      refine lv_goto (tgt := 16) hx hb dX8_set_12 (by decide) ?_
      exact w8r_set_B_16 C hK hA hT uX uT x1 x2 x3 k_4 (1 : Int32) hf hP hD hS (lv_sub hl [1, 2, 3, 4, 0] rfl)
set_option maxHeartbeats 4000000 in
set_option maxRecDepth 100000 in
theorem t8_set_B (l : Launch) (hL0 : l.stackTraces = false) (G : Gx) (bX bF bS bT bV bP : Nat → Nat) (uX : Md) (uS : Md) (uT : Md) (uV : Md) (uP : Md) (x1 : Int32) (x2 : Int32) (x3 : Int64) (ek : Nat) (sz : Nat) (hf : f8_set_B uX uS uT uV uP x1 x2 x3 = some (Sum.inl ek)) : vx_Met l yX8_set ws8_set_B rm8t_set_B (pX8 G (c8 1 G bX bF bS bT bV bP (bT 0) (bV 0) uX uS uT uV uP) sz [.ref (bX 0), .int x1, .int x2, .long x3]) Q0 (xc8 ek) 1 6 (fun _ => False) := by
  refine mx8_t (cc := cX8_set) (maxL := 10) (ret := (some .boolean)) (by decide) rfl (Nat.le_of_ble_eq_true rfl) ?_
  intro p e s m below meth c ls A C hnt hl hK hA hT hP hD hS
  have hl : lv_has ls 10 [(0, .ref (bX 0)), (1, .int x1), (2, .int x2), (3, .long x3)] := hl
  have hx := C.1.1
  have hb := C.1.2.1
  have hts := C.1.2.2.2.2
  have hown := C.1.2.2.2.1
  have hin5 : ∀ w ∈ wsX50, w ∈ ws8_set_B := fun w h => List.mem_cons_of_mem _ (m8 (List.mem_append_right _ (List.mem_append_left _ h)))
  have hin6 : ∀ w ∈ wsX60, w ∈ ws8_set_B := fun w h => List.mem_cons_of_mem _ (m8 (List.mem_append_right _ (List.mem_append_right _ (List.mem_append_left _ h))))
  have hin7 : ∀ w ∈ wsX70, w ∈ ws8_set_B := fun w h => List.mem_cons_of_mem _ (m8 (List.mem_append_right _ (List.mem_append_right _ (List.mem_append_right _ (List.mem_append_left _ h)))))
  have hin8 : ∀ w ∈ wsX80, w ∈ ws8_set_B := fun w h => List.mem_cons_of_mem _ (m8 (List.mem_append_right _ (List.mem_append_right _ (List.mem_append_right _ (List.mem_append_right _ h)))))
  unfold f8_set_B at hf
  refine lv_aload_n hx hb dX8_set_0 rfl (lv_at hl 0 rfl) ?_
  refine lv_iload_n hx hb dX8_set_1 rfl (lv_at hl 1 rfl) ?_
  obtain ⟨q_1, h_2, hf⟩ := og_b hf
  rcases q_1 with e_3 | k_4
  · dsimp only [Sum.elim_inl] at hf
    obtain rfl := Sum.inl.inj (og_s hf)
    exact xt8_V (w0 := (c8 1 G bX bF bS bT bV bP (bT 0) (bV 0) uX uS uT uV uP)) (rest := []) C hnt (t8_kindOfObject_B l hL0 G bX bF bS bT bV bP uX uS uT uV uP x1 e_3 _ h_2) (cwV 1 hts g8_kindOfObject_B rfl rfl rfl hd8_kindOfObject_B ⟨Nat.le_of_ble_eq_true rfl, Nat.le_of_ble_eq_true rfl⟩) hK hA hT hP hD hS (va_recv hK hP (ci := 5) (q0 := 0) rfl rfl) [0, 1, 2, 3, 4, 5, 6, 7, 8, 9, 10, 11, 12, 13, 14, 15, 16, 17, 18, 19, 20, 21, 22, 23, 24, 25, 26, 27, 28, 29, 30, 31] rfl rfl rfl hl.1 rfl (Nat.le_of_ble_eq_true rfl) ⟨Nat.le_of_ble_eq_true rfl, Nat.le_of_ble_eq_true rfl⟩ dX8_set_2
  · dsimp only [Sum.elim_inr] at hf
    refine xr8_V (v := .ref (gK G (k_4).val)) (rest := []) (w0 := (c8 1 G bX bF bS bT bV bP (bT 0) (bV 0) uX uS uT uV uP)) C (c8_kindOfObject_B l G bX bF bS bT bV bP uX uS uT uV uP x1 k_4 _ h_2) (cwV 1 hts g8_kindOfObject_B rfl rfl rfl hd8_kindOfObject_B ⟨Nat.le_of_ble_eq_true rfl, Nat.le_of_ble_eq_true rfl⟩) hK hA hT hP hD hS (va_recv hK hP (ci := 5) (q0 := 0) rfl rfl) [0, 1, 2, 3, 4, 5, 6, 7, 8, 9, 10, 11, 12, 13, 14, 15, 16, 17, 18, 19, 20, 21, 22, 23, 24, 25, 26, 27, 28, 29, 30, 31] rfl rfl rfl hl.1 rfl (Nat.le_of_ble_eq_true rfl) dX8_set_2 ?_
    refine lv_astore (lv' := [(5, .ref (gK G (k_4).val)), (0, .ref (bX 0)), (1, .int x1), (2, .int x2), (3, .long x3)]) hx hb dX8_set_5 hl (by decide) rfl (fun ls hl => ?_)
    refine lv_iload_n hx hb dX8_set_7 rfl (lv_at hl 3 rfl) ?_
    refine lv_if_ge (tgt := 15) hx hb dX8_set_8 (by decide) (fun c_5 => ?_) (fun c_5 => ?_)
    · replace hf := og_t c_5 hf
      refine lv_iconst (v := (0 : Int32)) hx hb dX8_set_15 (by decide) ?_
      exact w8t_set_B_16 C hL0 hnt hK hA hT hP hD hS x1 x2 x3 k_4 (0 : Int32) hf (lv_sub hl [1, 2, 3, 4, 0] rfl)
    · replace hf := og_f c_5 hf
      refine lv_iconst (v := (1 : Int32)) hx hb dX8_set_11 (by decide) ?_
      refine lv_goto (tgt := 16) hx hb dX8_set_12 (by decide) ?_
      exact w8t_set_B_16 C hL0 hnt hK hA hT hP hD hS x1 x2 x3 k_4 (1 : Int32) hf (lv_sub hl [1, 2, 3, 4, 0] rfl)
abbrev rm8_depth_B : Room := { frames := 0, cells := 0, slots := 0, locals := 0 }
noncomputable abbrev ws8_depth_B : List Cond := Cond.code yX8_depth cX8_depth 1 (some .int) :: WA8
theorem hd8_depth_B : yX8_depth.cls = RX8 ∧ yX8_depth.cls ≠ "java/lang/invoke/MethodHandle" ∧ yX8_depth.cls ≠ "java/lang/invoke/VarHandle" ∧ (parseMethodDescriptor yX8_depth.desc).map (fun d => d.parameters.length) = some 0 := by decide +kernel
def f8_depth_B (uX : Md) (uS : Md) (uT : Md) (uV : Md) (uP : Md) : Option Int32 := (some (gi uT 14))
set_option maxHeartbeats 4000000 in
set_option maxRecDepth 100000 in
theorem c8_depth_B (l : Launch) (G : Gx) (bX bF bS bT bV bP : Nat → Nat) (uX : Md) (uS : Md) (uT : Md) (uV : Md) (uP : Md) (r : Int32) (sz : Nat) (hf : f8_depth_B uX uS uT uV uP  = some r) : Met l yX8_depth ws8_depth_B rm8_depth_B (pX8 G (c8 1 G bX bF bS bT bV bP (bT 0) (bV 0) uX uS uT uV uP) sz [.ref (bX 0)]) (k2_QcV (.int r)) 0 0 (fun _ => False) := by
  refine mx8_r (cc := cX8_depth) (maxL := 1) (ret := (some .int)) (by decide) rfl (Nat.le_of_ble_eq_true rfl) ?_
  intro p e s m below meth c ls A C hl hK hA hT hP hD hS
  have hl : lv_has ls 1 [(0, .ref (bX 0))] := hl
  have hx := C.1.1
  have hb := C.1.2.1
  have hts := C.1.2.2.2.2
  have hown := C.1.2.2.2.1
  have hin5 : ∀ w ∈ wsX50, w ∈ ws8_depth_B := fun w h => List.mem_cons_of_mem _ (m8 (List.mem_append_right _ (List.mem_append_left _ h)))
  have hin6 : ∀ w ∈ wsX60, w ∈ ws8_depth_B := fun w h => List.mem_cons_of_mem _ (m8 (List.mem_append_right _ (List.mem_append_right _ (List.mem_append_left _ h))))
  have hin7 : ∀ w ∈ wsX70, w ∈ ws8_depth_B := fun w h => List.mem_cons_of_mem _ (m8 (List.mem_append_right _ (List.mem_append_right _ (List.mem_append_right _ (List.mem_append_left _ h)))))
  have hin8 : ∀ w ∈ wsX80, w ∈ ws8_depth_B := fun w h => List.mem_cons_of_mem _ (m8 (List.mem_append_right _ (List.mem_append_right _ (List.mem_append_right _ (List.mem_append_right _ h)))))
  unfold f8_depth_B at hf
  refine lv_aload_n hx hb dX8_depth_0 rfl (lv_at hl 0 rfl) ?_
  refine xg (v := .ref (bT 0)) (ci := 5) (K := RX8) (T := TX8) (N := 6) C hin8 hK hP 0 rfl rfl 3 (by decide) rfl (hts (Cond.fieldLink RX8 36 "SchematicText" "tree" "LSchematicText$Tree;") (List.mem_cons_of_mem _ (m8 mx_479))) rfl dX8_depth_1 ?_
  refine xgN (v := .int (gi uT 14)) (ci := 4) (K := RX7) (T := TX7) (N := 16) (host := "SchematicText") C hT.1 hin7 hK hP 4 rfl rfl 14 (by decide) rfl (by decide +kernel) rfl dX8_depth_4 ?_
  obtain rfl := (og_s hf)
  exact rt_i C dX8_depth_7
abbrev rm8_clear_B : Room := { frames := 1, cells := 0, slots := 0, locals := 20 }
noncomputable abbrev ws8_clear_B : List Cond := Cond.code yX8_clear cX8_clear 1 none :: WA8
theorem hd8_clear_B : yX8_clear.cls = RX8 ∧ yX8_clear.cls ≠ "java/lang/invoke/MethodHandle" ∧ yX8_clear.cls ≠ "java/lang/invoke/VarHandle" ∧ (parseMethodDescriptor yX8_clear.desc).map (fun d => d.parameters.length) = some 0 := by decide +kernel
def f8_clear_B (uX : Md) (uS : Md) (uT : Md) (uV : Md) (uP : Md) : Option Md := ((fx_X6_empty uS).bind fun u_2 => (some u_2))
set_option maxHeartbeats 4000000 in
set_option maxRecDepth 100000 in
theorem c8_clear_B (l : Launch) (G : Gx) (bX bF bS bT bV bP : Nat → Nat) (uX : Md) (uS : Md) (uT : Md) (uV : Md) (uP : Md) (vS : Md) (sz : Nat) (hf : f8_clear_B uX uS uT uV uP  = some vS) : Met l yX8_clear ws8_clear_B rm8_clear_B (pX8 G (c8 1 G bX bF bS bT bV bP (bT 0) (bV 0) uX uS uT uV uP) sz [.ref (bX 0)]) (qW none (c8 1 G bX bF bS bT bV bP (bT 0) (bV 0) uX vS uT uV uP) (gD G) (tyG G) (va_A (c8 1 G bX bF bS bT bV bP (bT 0) (bV 0) uX uS uT uV uP) sz)) 0 0 (va_A (c8 1 G bX bF bS bT bV bP (bT 0) (bV 0) uX uS uT uV uP) sz) := by
  refine mx8_w (cc := cX8_clear) (maxL := 1) (ret := none) (by decide) rfl (Nat.le_of_ble_eq_true rfl) ?_
  intro p e s m below meth c ls A C hl hK hA hT hP hD hS
  have hl : lv_has ls 1 [(0, .ref (bX 0))] := hl
  have hx := C.1.1
  have hb := C.1.2.1
  have hts := C.1.2.2.2.2
  have hown := C.1.2.2.2.1
  have hin5 : ∀ w ∈ wsX50, w ∈ ws8_clear_B := fun w h => List.mem_cons_of_mem _ (m8 (List.mem_append_right _ (List.mem_append_left _ h)))
  have hin6 : ∀ w ∈ wsX60, w ∈ ws8_clear_B := fun w h => List.mem_cons_of_mem _ (m8 (List.mem_append_right _ (List.mem_append_right _ (List.mem_append_left _ h))))
  have hin7 : ∀ w ∈ wsX70, w ∈ ws8_clear_B := fun w h => List.mem_cons_of_mem _ (m8 (List.mem_append_right _ (List.mem_append_right _ (List.mem_append_right _ (List.mem_append_left _ h)))))
  have hin8 : ∀ w ∈ wsX80, w ∈ ws8_clear_B := fun w h => List.mem_cons_of_mem _ (m8 (List.mem_append_right _ (List.mem_append_right _ (List.mem_append_right _ (List.mem_append_right _ h)))))
  unfold f8_clear_B at hf
  refine lv_aload_n hx hb dX8_clear_0 rfl (lv_at hl 0 rfl) ?_
  refine xg (v := .ref (bS 0)) (ci := 5) (K := RX8) (T := TX8) (N := 6) C hin8 hK hP 0 rfl rfl 1 (by decide) rfl (hts (Cond.fieldLink RX8 22 "SchematicText" "source" "LSchematicText$Source;") (List.mem_cons_of_mem _ (m8 mx_473))) rfl dX8_clear_1 ?_
  obtain ⟨u_2, h_1, hf⟩ := og_b hf
  try dsimp only at hf
  refine xw_V (ov := none) (st1 := []) (rest := []) (w0 := (cS G bS uS)) (w1 := (cS G bS u_2)) (wr := ([(bX 0, .inr (5, fs8 bF bS bP (bT 0) (bV 0) uX))] ++ cF 1 bF ++ cT G bT uT ++ cT G bV uV ++ cP G bP uP)) (w' := (c8 1 G bX bF bS bT bV bP (bT 0) (bV 0) uX u_2 uT uV uP)) C (cx_X6_empty l G bS uS u_2 _ h_1) (cwV 0 hts (gd8_m gx_X8_X6_empty_192) rfl rfl rfl hdx_X6_empty ⟨Nat.le_of_ble_eq_true rfl, Nat.le_of_ble_eq_true rfl⟩) hK hA hT.1 hP hD hS (va_recv hK hP (ci := 3) (q0 := 2) rfl rfl) [2, 3] [0, 1, 4, 5, 6, 7, 8, 9, 10, 11, 12, 13, 14, 15, 16, 17, 18, 19, 20, 21, 22, 23, 24, 25, 26, 27, 28, 29, 30, 31] [0, 1, 30, 31, 2, 3, 4, 5, 6, 7, 8, 9, 10, 11, 12, 13, 14, 15, 16, 17, 18, 19, 20, 21, 22, 23, 24, 25, 26, 27, 28, 29] rfl rfl rfl rfl (by decide) rfl rfl rfl hl.1 rfl rfl (Nat.le_of_ble_eq_true rfl) dX8_clear_4 (fun H locs hP hD hS => ?_)
  obtain rfl := (og_s hf)
  exact rw_v C hK hP hD hS dX8_clear_7
