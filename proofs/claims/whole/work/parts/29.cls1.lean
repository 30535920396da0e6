abbrev rmx_X0_lettered : Room := { frames := 0, cells := 0, slots := 0, locals := 0 }
noncomputable abbrev wsx_X0_lettered : List Cond := Cond.code yX0_lettered cX0_lettered 1 (some (.object "SchematicText$Field")) :: WAX
theorem hdx_X0_lettered : yX0_lettered.cls ≠ "java/lang/invoke/MethodHandle" ∧ yX0_lettered.cls ≠ "java/lang/invoke/VarHandle" ∧ (parseMethodDescriptor yX0_lettered.desc).map (fun d => d.parameters.length) = some 1 := by decide +kernel
def fx_X0_lettered (x0 : Int32) : Option (Fin 8) := (if x0 = (107 : Int32) then (some (5 : Fin 8)) else (if x0 = (108 : Int32) then (some (6 : Fin 8)) else (if x0 = (109 : Int32) then (some (6 : Fin 8)) else (if x0 = (110 : Int32) then (some (1 : Fin 8)) else (if x0 = (111 : Int32) then (some (6 : Fin 8)) else (if x0 = (112 : Int32) then (some (3 : Fin 8)) else (if x0 = (113 : Int32) then (some (6 : Fin 8)) else (if x0 = (114 : Int32) then (some (6 : Fin 8)) else (if x0 = (115 : Int32) then (some (2 : Fin 8)) else (if x0 = (116 : Int32) then (some (0 : Fin 8)) else (if x0 = (117 : Int32) then (some (4 : Fin 8)) else (some (6 : Fin 8)))))))))))))
set_option maxHeartbeats 4000000 in
set_option maxRecDepth 100000 in
theorem cx_X0_lettered (l : Launch) (G : Gx) (x0 : Int32) (r : (Fin 8)) (sz : Nat) (hf : fx_X0_lettered x0 = some r) : Met l yX0_lettered wsx_X0_lettered rmx_X0_lettered (pX G ([]) sz [.int x0]) (k2_QcV (.ref (gF G (r).val))) 0 0 (fun _ => False) := by
  refine mx_r (cc := cX0_lettered) (maxL := 1) (ret := (some (.object "SchematicText$Field"))) (by decide) rfl (Nat.le_of_ble_eq_true rfl) ?_
  intro p e s m below meth c ls A C hl hK hA hT hP hD hS
  have hl : lv_has ls 1 [(0, .int x0)] := hl
  have hx := C.1.1
  have hb := C.1.2.1
  have hts := C.1.2.2.2.2
  have hown := C.1.2.2.2.1
  unfold fx_X0_lettered at hf
  refine lv_iload_n hx hb dX0_lettered_0 rfl (lv_at hl 0 rfl) ?_
  by_cases c_1 : x0 = (107 : Int32)
  · replace hf := og_t c_1 hf
    refine lv_tableIn (tgt := 80) (off := 79) hx hb dX0_lettered_1 (by rw [c_1]; decide) (by rw [c_1]; decide) (by rw [c_1]; rfl) (by decide) ?_
    refine xF (i := (5 : Fin 8)) C hT hS (hts (Cond.fieldLink RX0 21 "SchematicText$Field" "PIN_KIND" "LSchematicText$Field;") (List.mem_cons_of_mem _ mx_6)) dX0_lettered_80 ?_
    obtain rfl := og_s hf
    exact rt_a C (Or.inl ⟨_, rfl⟩) dX0_lettered_83
  · replace hf := og_f c_1 hf
    by_cases c_2 : x0 = (108 : Int32)
    · replace hf := og_t c_2 hf
      refine lv_tableIn (tgt := 84) (off := 83) hx hb dX0_lettered_1 (by rw [c_2]; decide) (by rw [c_2]; decide) (by rw [c_2]; rfl) (by decide) ?_
      refine xF (i := (6 : Fin 8)) C hT hS (hts (Cond.fieldLink RX0 24 "SchematicText$Field" "ANGLE" "LSchematicText$Field;") (List.mem_cons_of_mem _ mx_7)) dX0_lettered_84 ?_
      obtain rfl := og_s hf
      exact rt_a C (Or.inl ⟨_, rfl⟩) dX0_lettered_87
    · replace hf := og_f c_2 hf
      by_cases c_3 : x0 = (109 : Int32)
      · replace hf := og_t c_3 hf
        refine lv_tableIn (tgt := 84) (off := 83) hx hb dX0_lettered_1 (by rw [c_3]; decide) (by rw [c_3]; decide) (by rw [c_3]; rfl) (by decide) ?_
        refine xF (i := (6 : Fin 8)) C hT hS (hts (Cond.fieldLink RX0 24 "SchematicText$Field" "ANGLE" "LSchematicText$Field;") (List.mem_cons_of_mem _ mx_7)) dX0_lettered_84 ?_
        obtain rfl := og_s hf
        exact rt_a C (Or.inl ⟨_, rfl⟩) dX0_lettered_87
      · replace hf := og_f c_3 hf
        by_cases c_4 : x0 = (110 : Int32)
        · replace hf := og_t c_4 hf
          refine lv_tableIn (tgt := 64) (off := 63) hx hb dX0_lettered_1 (by rw [c_4]; decide) (by rw [c_4]; decide) (by rw [c_4]; rfl) (by decide) ?_
          refine xF (i := (1 : Fin 8)) C hT hS (hts (Cond.fieldLink RX0 9 "SchematicText$Field" "LENGTH" "LSchematicText$Field;") (List.mem_cons_of_mem _ mx_2)) dX0_lettered_64 ?_
          obtain rfl := og_s hf
          exact rt_a C (Or.inl ⟨_, rfl⟩) dX0_lettered_67
        · replace hf := og_f c_4 hf
          by_cases c_5 : x0 = (111 : Int32)
          · replace hf := og_t c_5 hf
            refine lv_tableIn (tgt := 84) (off := 83) hx hb dX0_lettered_1 (by rw [c_5]; decide) (by rw [c_5]; decide) (by rw [c_5]; rfl) (by decide) ?_
            refine xF (i := (6 : Fin 8)) C hT hS (hts (Cond.fieldLink RX0 24 "SchematicText$Field" "ANGLE" "LSchematicText$Field;") (List.mem_cons_of_mem _ mx_7)) dX0_lettered_84 ?_
            obtain rfl := og_s hf
            exact rt_a C (Or.inl ⟨_, rfl⟩) dX0_lettered_87
          · replace hf := og_f c_5 hf
            by_cases c_6 : x0 = (112 : Int32)
            · replace hf := og_t c_6 hf
              refine lv_tableIn (tgt := 72) (off := 71) hx hb dX0_lettered_1 (by rw [c_6]; decide) (by rw [c_6]; decide) (by rw [c_6]; rfl) (by decide) ?_
              refine xF (i := (3 : Fin 8)) C hT hS (hts (Cond.fieldLink RX0 15 "SchematicText$Field" "PAGE" "LSchematicText$Field;") (List.mem_cons_of_mem _ mx_4)) dX0_lettered_72 ?_
              obtain rfl := og_s hf
              exact rt_a C (Or.inl ⟨_, rfl⟩) dX0_lettered_75
            · replace hf := og_f c_6 hf
              by_cases c_7 : x0 = (113 : Int32)
              · replace hf := og_t c_7 hf
                refine lv_tableIn (tgt := 84) (off := 83) hx hb dX0_lettered_1 (by rw [c_7]; decide) (by rw [c_7]; decide) (by rw [c_7]; rfl) (by decide) ?_
                refine xF (i := (6 : Fin 8)) C hT hS (hts (Cond.fieldLink RX0 24 "SchematicText$Field" "ANGLE" "LSchematicText$Field;") (List.mem_cons_of_mem _ mx_7)) dX0_lettered_84 ?_
                obtain rfl := og_s hf
                exact rt_a C (Or.inl ⟨_, rfl⟩) dX0_lettered_87
              · replace hf := og_f c_7 hf
                by_cases c_8 : x0 = (114 : Int32)
                · replace hf := og_t c_8 hf
                  refine lv_tableIn (tgt := 84) (off := 83) hx hb dX0_lettered_1 (by rw [c_8]; decide) (by rw [c_8]; decide) (by rw [c_8]; rfl) (by decide) ?_
                  refine xF (i := (6 : Fin 8)) C hT hS (hts (Cond.fieldLink RX0 24 "SchematicText$Field" "ANGLE" "LSchematicText$Field;") (List.mem_cons_of_mem _ mx_7)) dX0_lettered_84 ?_
                  obtain rfl := og_s hf
                  exact rt_a C (Or.inl ⟨_, rfl⟩) dX0_lettered_87
                · replace hf := og_f c_8 hf
                  by_cases c_9 : x0 = (115 : Int32)
                  · replace hf := og_t c_9 hf
                    refine lv_tableIn (tgt := 68) (off := 67) hx hb dX0_lettered_1 (by rw [c_9]; decide) (by rw [c_9]; decide) (by rw [c_9]; rfl) (by decide) ?_
                    refine xF (i := (2 : Fin 8)) C hT hS (hts (Cond.fieldLink RX0 12 "SchematicText$Field" "SIZE" "LSchematicText$Field;") (List.mem_cons_of_mem _ mx_3)) dX0_lettered_68 ?_
                    obtain rfl := og_s hf
                    exact rt_a C (Or.inl ⟨_, rfl⟩) dX0_lettered_71
                  · replace hf := og_f c_9 hf
                    by_cases c_10 : x0 = (116 : Int32)
                    · replace hf := og_t c_10 hf
                      refine lv_tableIn (tgt := 60) (off := 59) hx hb dX0_lettered_1 (by rw [c_10]; decide) (by rw [c_10]; decide) (by rw [c_10]; rfl) (by decide) ?_
                      refine xF (i := (0 : Fin 8)) C hT hS (hts (Cond.fieldLink RX0 5 "SchematicText$Field" "TEXT" "LSchematicText$Field;") (List.mem_cons_of_mem _ mx_1)) dX0_lettered_60 ?_
                      obtain rfl := og_s hf
                      exact rt_a C (Or.inl ⟨_, rfl⟩) dX0_lettered_63
                    · replace hf := og_f c_10 hf
                      by_cases c_11 : x0 = (117 : Int32)
                      · replace hf := og_t c_11 hf
                        refine lv_tableIn (tgt := 76) (off := 75) hx hb dX0_lettered_1 (by rw [c_11]; decide) (by rw [c_11]; decide) (by rw [c_11]; rfl) (by decide) ?_
                        refine xF (i := (4 : Fin 8)) C hT hS (hts (Cond.fieldLink RX0 18 "SchematicText$Field" "UNIT_NUMBER" "LSchematicText$Field;") (List.mem_cons_of_mem _ mx_5)) dX0_lettered_76 ?_
                        obtain rfl := og_s hf
                        exact rt_a C (Or.inl ⟨_, rfl⟩) dX0_lettered_79
                      · replace hf := og_f c_11 hf
                        have nc_1 := lv_neT (a := 107) c_1 rfl
                        have nc_2 := lv_neT (a := 108) c_2 rfl
                        have nc_3 := lv_neT (a := 109) c_3 rfl
                        have nc_4 := lv_neT (a := 110) c_4 rfl
                        have nc_5 := lv_neT (a := 111) c_5 rfl
                        have nc_6 := lv_neT (a := 112) c_6 rfl
                        have nc_7 := lv_neT (a := 113) c_7 rfl
                        have nc_8 := lv_neT (a := 114) c_8 rfl
                        have nc_9 := lv_neT (a := 115) c_9 rfl
                        have nc_10 := lv_neT (a := 116) c_10 rfl
                        have nc_11 := lv_neT (a := 117) c_11 rfl
                        refine lv_tableOut (tgt := 84) hx hb dX0_lettered_1 (by omega) (by decide) ?_
                        refine xF (i := (6 : Fin 8)) C hT hS (hts (Cond.fieldLink RX0 24 "SchematicText$Field" "ANGLE" "LSchematicText$Field;") (List.mem_cons_of_mem _ mx_7)) dX0_lettered_84 ?_
                        obtain rfl := og_s hf
                        exact rt_a C (Or.inl ⟨_, rfl⟩) dX0_lettered_87
abbrev rmx_X0_isText : Room := { frames := 0, cells := 0, slots := 0, locals := 0 }
noncomputable abbrev wsx_X0_isText : List Cond := Cond.code yX0_isText cX0_isText 1 (some .boolean) :: WAX
theorem hdx_X0_isText : yX0_isText.cls = RX0 ∧ yX0_isText.cls ≠ "java/lang/invoke/MethodHandle" ∧ yX0_isText.cls ≠ "java/lang/invoke/VarHandle" ∧ (parseMethodDescriptor yX0_isText.desc).map (fun d => d.parameters.length) = some 0 := by decide +kernel
def fx_X0_isText (x0 : (Fin 8)) : Option Int32 := (if (fSort x0) = 0 then (some (1 : Int32)) else (some (0 : Int32)))
set_option maxHeartbeats 4000000 in
set_option maxRecDepth 100000 in
theorem cx_X0_isText (l : Launch) (G : Gx) (x0 : (Fin 8)) (r : Int32) (sz : Nat) (hf : fx_X0_isText x0 = some r) : Met l yX0_isText wsx_X0_isText rmx_X0_isText (pX G ([]) sz [.ref (gF G (x0).val)]) (k2_QcV (.int r)) 0 0 (fun _ => False) := by
  refine mx_r (cc := cX0_isText) (maxL := 1) (ret := (some .boolean)) (by decide) rfl (Nat.le_of_ble_eq_true rfl) ?_
  intro p e s m below meth c ls A C hl hK hA hT hP hD hS
  have hl : lv_has ls 1 [(0, .ref (gF G (x0).val))] := hl
  have hx := C.1.1
  have hb := C.1.2.1
  have hts := C.1.2.2.2.2
  have hown := C.1.2.2.2.1
  unfold fx_X0_isText at hf
  refine lv_aload_n hx hb dX0_isText_0 rfl (lv_at hl 0 rfl) ?_
  refine xo (v := .int (fSort x0)) C ((hT.1.1.1 (x0).val (x0).isLt).2.2 _ List.mem_cons_self) hS (hts (Cond.fieldLink RX0 49 "SchematicText$Field" "sort" "I") (List.mem_cons_of_mem _ mx_9)) dX0_isText_1 ?_
  refine lv_if_ne (tgt := 11) hx hb dX0_isText_4 (by decide) (fun c_1 => ?_) (fun c_1 => ?_)
  · replace hf := og_f c_1 hf
    refine lv_iconst (v := (0 : Int32)) hx hb dX0_isText_11 (by decide) ?_
    obtain rfl := og_s hf
    exact rt_z C (nz_z (Or.inl rfl)) dX0_isText_12
  · replace hf := og_t c_1 hf
    refine lv_iconst (v := (1 : Int32)) hx hb dX0_isText_7 (by decide) ?_
    refine lv_goto (tgt := 12) hx hb dX0_isText_8 (by decide) ?_
    obtain rfl := og_s hf
    exact rt_z C (nz_z (Or.inr rfl)) dX0_isText_12
abbrev rmx_X0_isLength : Room := { frames := 0, cells := 0, slots := 0, locals := 0 }
noncomputable abbrev wsx_X0_isLength : List Cond := Cond.code yX0_isLength cX0_isLength 1 (some .boolean) :: WAX
theorem hdx_X0_isLength : yX0_isLength.cls = RX0 ∧ yX0_isLength.cls ≠ "java/lang/invoke/MethodHandle" ∧ yX0_isLength.cls ≠ "java/lang/invoke/VarHandle" ∧ (parseMethodDescriptor yX0_isLength.desc).map (fun d => d.parameters.length) = some 0 := by decide +kernel
def fx_X0_isLength (x0 : (Fin 8)) : Option Int32 := (if (fSort x0) = (1 : Int32) then (some (1 : Int32)) else (some (0 : Int32)))
set_option maxHeartbeats 4000000 in
set_option maxRecDepth 100000 in
theorem cx_X0_isLength (l : Launch) (G : Gx) (x0 : (Fin 8)) (r : Int32) (sz : Nat) (hf : fx_X0_isLength x0 = some r) : Met l yX0_isLength wsx_X0_isLength rmx_X0_isLength (pX G ([]) sz [.ref (gF G (x0).val)]) (k2_QcV (.int r)) 0 0 (fun _ => False) := by
  refine mx_r (cc := cX0_isLength) (maxL := 1) (ret := (some .boolean)) (by decide) rfl (Nat.le_of_ble_eq_true rfl) ?_
  intro p e s m below meth c ls A C hl hK hA hT hP hD hS
  have hl : lv_has ls 1 [(0, .ref (gF G (x0).val))] := hl
  have hx := C.1.1
  have hb := C.1.2.1
  have hts := C.1.2.2.2.2
  have hown := C.1.2.2.2.1
  unfold fx_X0_isLength at hf
  refine lv_aload_n hx hb dX0_isLength_0 rfl (lv_at hl 0 rfl) ?_
  refine xo (v := .int (fSort x0)) C ((hT.1.1.1 (x0).val (x0).isLt).2.2 _ List.mem_cons_self) hS (hts (Cond.fieldLink RX0 49 "SchematicText$Field" "sort" "I") (List.mem_cons_of_mem _ mx_9)) dX0_isLength_1 ?_
  refine lv_iconst (v := (1 : Int32)) hx hb dX0_isLength_4 (by decide) ?_
  refine lv_icmp_ne (tgt := 12) hx hb dX0_isLength_5 (by decide) (fun c_1 => ?_) (fun c_1 => ?_)
  · replace hf := og_f c_1 hf
    refine lv_iconst (v := (0 : Int32)) hx hb dX0_isLength_12 (by decide) ?_
    obtain rfl := og_s hf
    exact rt_z C (nz_z (Or.inl rfl)) dX0_isLength_13
  · replace hf := og_t c_1 hf
    refine lv_iconst (v := (1 : Int32)) hx hb dX0_isLength_8 (by decide) ?_
    refine lv_goto (tgt := 13) hx hb dX0_isLength_9 (by decide) ?_
    obtain rfl := og_s hf
    exact rt_z C (nz_z (Or.inr rfl)) dX0_isLength_13
abbrev rmx_X0_admits : Room := { frames := 0, cells := 0, slots := 0, locals := 0 }
noncomputable abbrev wsx_X0_admits : List Cond := Cond.code yX0_admits cX0_admits 3 (some .boolean) :: WAX
theorem hdx_X0_admits : yX0_admits.cls = RX0 ∧ yX0_admits.cls ≠ "java/lang/invoke/MethodHandle" ∧ yX0_admits.cls ≠ "java/lang/invoke/VarHandle" ∧ (parseMethodDescriptor yX0_admits.desc).map (fun d => d.parameters.length) = some 1 := by decide +kernel
def fx_X0_admits (x0 : (Fin 8)) (x1 : Int64) : Option Int32 := (if (lg_cmp x1 (fLow x0)) < 0 then (some (0 : Int32)) else (if 0 < (lg_cmp x1 (fHigh x0)) then (some (0 : Int32)) else (some (1 : Int32))))
set_option maxHeartbeats 4000000 in
set_option maxRecDepth 100000 in
theorem cx_X0_admits (l : Launch) (G : Gx) (x0 : (Fin 8)) (x1 : Int64) (r : Int32) (sz : Nat) (hf : fx_X0_admits x0 x1 = some r) : Met l yX0_admits wsx_X0_admits rmx_X0_admits (pX G ([]) sz [.ref (gF G (x0).val), .long x1]) (k2_QcV (.int r)) 0 0 (fun _ => False) := by
  refine mx_r (cc := cX0_admits) (maxL := 3) (ret := (some .boolean)) (by decide) rfl (Nat.le_of_ble_eq_true rfl) ?_
  intro p e s m below meth c ls A C hl hK hA hT hP hD hS
  have hl : lv_has ls 3 [(0, .ref (gF G (x0).val)), (1, .long x1)] := hl
  have hx := C.1.1
  have hb := C.1.2.1
  have hts := C.1.2.2.2.2
  have hown := C.1.2.2.2.1
  unfold fx_X0_admits at hf
  refine lv_lload_n hx hb dX0_admits_0 rfl (lv_at hl 1 rfl) ?_
  refine lv_aload_n hx hb dX0_admits_1 rfl (lv_at hl 0 rfl) ?_
  refine xo (v := .long (fLow x0)) C (hT.1.2.1 (x0).val (x0).isLt) hS (hts (Cond.fieldLink RX0 53 "SchematicText$Field" "lowest" "J") (List.mem_cons_of_mem _ mx_12)) dX0_admits_2 ?_
  refine W.lcmp hx hb dX0_admits_5 ?_
  refine lv_if_lt (tgt := 22) hx hb dX0_admits_6 (by decide) (fun c_1 => ?_) (fun c_1 => ?_)
  · replace hf := og_t c_1 hf
    refine lv_iconst (v := (0 : Int32)) hx hb dX0_admits_22 (by decide) ?_
    obtain rfl := og_s hf
    exact rt_z C (nz_z (Or.inl rfl)) dX0_admits_23
  · replace hf := og_f c_1 hf
    refine lv_lload_n hx hb dX0_admits_9 rfl (lv_at hl 1 rfl) ?_
    refine lv_aload_n hx hb dX0_admits_10 rfl (lv_at hl 0 rfl) ?_
    refine xo (v := .long (fHigh x0)) C (hT.1.2.2.1 (x0).val (x0).isLt) hS (hts (Cond.fieldLink RX0 57 "SchematicText$Field" "highest" "J") (List.mem_cons_of_mem _ mx_13)) dX0_admits_11 ?_
    refine W.lcmp hx hb dX0_admits_14 ?_
    refine lv_if_gt (tgt := 22) hx hb dX0_admits_15 (by decide) (fun c_2 => ?_) (fun c_2 => ?_)
    · replace hf := og_t c_2 hf
      refine lv_iconst (v := (0 : Int32)) hx hb dX0_admits_22 (by decide) ?_
      obtain rfl := og_s hf
      exact rt_z C (nz_z (Or.inl rfl)) dX0_admits_23
    · replace hf := og_f c_2 hf
      refine lv_iconst (v := (1 : Int32)) hx hb dX0_admits_18 (by decide) ?_
      refine lv_goto (tgt := 23) hx hb dX0_admits_19 (by decide) ?_
      obtain rfl := og_s hf
      exact rt_z C (nz_z (Or.inr rfl)) dX0_admits_23
abbrev rmx_X2_numbered : Room := { frames := 0, cells := 0, slots := 0, locals := 0 }
noncomputable abbrev wsx_X2_numbered : List Cond := Cond.code yX2_numbered cX2_numbered 1 (some (.object "SchematicText$Kind")) :: WAX
theorem hdx_X2_numbered : yX2_numbered.cls ≠ "java/lang/invoke/MethodHandle" ∧ yX2_numbered.cls ≠ "java/lang/invoke/VarHandle" ∧ (parseMethodDescriptor yX2_numbered.desc).map (fun d => d.parameters.length) = some 1 := by decide +kernel
def fx_X2_numbered_20 : Option (Fin 10) := (some (9 : Fin 10))
set_option maxHeartbeats 4000000 in
set_option maxRecDepth 100000 in
theorem wx_X2_numbered_20 {p : Program} {l : Launch} {e : Env} {s : State} {m : MethodId} {args : Array Value} {below : List Frame} {meth : Method} {c : Code} {G : Gx} {A : Nat → Prop} (C : Cx p s m args meth c cX2_numbered 1 wsx_X2_numbered RX2 (some (.object "SchematicText$Kind"))) (hK : va_K (gD G) vwCl (tyG G) s) (hA : ∀ q : Nat, s.heap.size ≤ q → A q) (hT : ST G A s s.heap) (hP : va_P (gD G) vwCl ([]) s.heap) (hD : va_D A ([])) (hS : va_S A s.heap s.heap []) {r : (Fin 10)} : fx_X2_numbered_20  = some r → ∀ {ls : Array Slot}, lv_has ls 1 [] → W p l e rmx_X2_numbered s m args below meth c s.heap [] 0 0 (MQ below (k2_QcV (.ref (gK G (r).val))) args s 0 0 (fun _ => False)) (F0 m 20 ls []) := by
  have hx := C.1.1
  have hb := C.1.2.1
  have hts := C.1.2.2.2.2
  have hown := C.1.2.2.2.1
  intro  hf ls hl
  unfold fx_X2_numbered_20 at hf
  refine xK (i := (9 : Fin 10)) C hT hS (hts (Cond.fieldLink RX2 33 "SchematicText$Kind" "UNKNOWN" "LSchematicText$Kind;") (List.mem_cons_of_mem _ mx_117)) dX2_numbered_20 ?_
  obtain rfl := og_s hf
  exact rt_a C (Or.inl ⟨_, rfl⟩) dX2_numbered_23
def fx_X2_numbered (x0 : Int32) : Option (Fin 10) := (if x0 < 0 then (fx_X2_numbered_20) else (if (10 : Int32) ≤ x0 then (fx_X2_numbered_20) else (if x0 < 0 ∨ 10 ≤ (x0).toNatClampNeg then none else (some (fk10 x0)))))
set_option maxHeartbeats 4000000 in
set_option maxRecDepth 100000 in
theorem cx_X2_numbered (l : Launch) (G : Gx) (x0 : Int32) (r : (Fin 10)) (sz : Nat) (hf : fx_X2_numbered x0 = some r) : Met l yX2_numbered wsx_X2_numbered rmx_X2_numbered (pX G ([]) sz [.int x0]) (k2_QcV (.ref (gK G (r).val))) 0 0 (fun _ => False) := by
  refine mx_r (cc := cX2_numbered) (maxL := 1) (ret := (some (.object "SchematicText$Kind"))) (by decide) rfl (Nat.le_of_ble_eq_true rfl) ?_
  intro p e s m below meth c ls A C hl hK hA hT hP hD hS
  have hl : lv_has ls 1 [(0, .int x0)] := hl
  have hx := C.1.1
  have hb := C.1.2.1
  have hts := C.1.2.2.2.2
  have hown := C.1.2.2.2.1
  unfold fx_X2_numbered at hf
  refine lv_iload_n hx hb dX2_numbered_0 rfl (lv_at hl 0 rfl) ?_
  refine lv_if_lt (tgt := 20) hx hb dX2_numbered_1 (by decide) (fun c_1 => ?_) (fun c_1 => ?_)
  · replace hf := og_t c_1 hf
    exact wx_X2_numbered_20 C hK hA hT hP hD hS hf (lv_sub hl [] rfl)
  · replace hf := og_f c_1 hf
    refine lv_iload_n hx hb dX2_numbered_4 rfl (lv_at hl 0 rfl) ?_
    refine xALL C hT hS (hts (Cond.fieldLink RX2 69 "SchematicText$Kind" "ALL" "[LSchematicText$Kind;") (List.mem_cons_of_mem _ mx_116)) dX2_numbered_5 ?_
    refine xtl C hT hS dX2_numbered_8 ?_
    refine lv_icmp_ge (tgt := 20) hx hb dX2_numbered_9 (by decide) (fun c_2 => ?_) (fun c_2 => ?_)
    · replace hf := og_t c_2 hf
      exact wx_X2_numbered_20 C hK hA hT hP hD hS hf (lv_sub hl [] rfl)
    · replace hf := og_f c_2 hf
      refine xALL C hT hS (hts (Cond.fieldLink RX2 69 "SchematicText$Kind" "ALL" "[LSchematicText$Kind;") (List.mem_cons_of_mem _ mx_116)) dX2_numbered_12 ?_
      refine lv_iload_n hx hb dX2_numbered_15 rfl (lv_at hl 0 rfl) ?_
      obtain ⟨h_3, hf⟩ := og_n hf
      refine xta C hT hS h_3 dX2_numbered_16 ?_
      refine lv_goto (tgt := 23) hx hb dX2_numbered_17 (by decide) ?_
      obtain rfl := og_s hf
      exact rt_a C (Or.inl ⟨_, rfl⟩) dX2_numbered_23
abbrev rmx_X2_mayBeIn : Room := { frames := 0, cells := 0, slots := 0, locals := 0 }
noncomputable abbrev wsx_X2_mayBeIn : List Cond := Cond.code yX2_mayBeIn cX2_mayBeIn 2 (some .boolean) :: WAX
theorem hdx_X2_mayBeIn : yX2_mayBeIn.cls = RX2 ∧ yX2_mayBeIn.cls ≠ "java/lang/invoke/MethodHandle" ∧ yX2_mayBeIn.cls ≠ "java/lang/invoke/VarHandle" ∧ (parseMethodDescriptor yX2_mayBeIn.desc).map (fun d => d.parameters.length) = some 1 := by decide +kernel
def fx_X2_mayBeIn (x0 : (Fin 10)) (x1 : (Fin 10)) : Option Int32 := (if (((kHomes x0) >>> ((kNum x1) &&& 31)) &&& (1 : Int32)) = (1 : Int32) then (some (1 : Int32)) else (some (0 : Int32)))
set_option maxHeartbeats 4000000 in
set_option maxRecDepth 100000 in
theorem cx_X2_mayBeIn (l : Launch) (G : Gx) (x0 : (Fin 10)) (x1 : (Fin 10)) (r : Int32) (sz : Nat) (hf : fx_X2_mayBeIn x0 x1 = some r) : Met l yX2_mayBeIn wsx_X2_mayBeIn rmx_X2_mayBeIn (pX G ([]) sz [.ref (gK G (x0).val), .ref (gK G (x1).val)]) (k2_QcV (.int r)) 0 0 (fun _ => False) := by
  refine mx_r (cc := cX2_mayBeIn) (maxL := 2) (ret := (some .boolean)) (by decide) rfl (Nat.le_of_ble_eq_true rfl) ?_
  intro p e s m below meth c ls A C hl hK hA hT hP hD hS
  have hl : lv_has ls 2 [(0, .ref (gK G (x0).val)), (1, .ref (gK G (x1).val))] := hl
  have hx := C.1.1
  have hb := C.1.2.1
  have hts := C.1.2.2.2.2
  have hown := C.1.2.2.2.1
  unfold fx_X2_mayBeIn at hf
  refine lv_aload_n hx hb dX2_mayBeIn_0 rfl (lv_at hl 0 rfl) ?_
  refine xo (v := .int (kHomes x0)) C ((hT.1.2.2.2.2.1.1 (x0).val (x0).isLt).2.2 _ (List.mem_cons_of_mem _ List.mem_cons_self)) hS (hts (Cond.fieldLink RX2 63 "SchematicText$Kind" "homes" "I") (List.mem_cons_of_mem _ mx_122)) dX2_mayBeIn_1 ?_
  refine lv_aload_n hx hb dX2_mayBeIn_4 rfl (lv_at hl 1 rfl) ?_
  refine xo (v := .int (kNum x1)) C ((hT.1.2.2.2.2.1.1 (x1).val (x1).isLt).2.2 _ List.mem_cons_self) hS (hts (Cond.fieldLink RX2 55 "SchematicText$Kind" "number" "I") (List.mem_cons_of_mem _ mx_123)) dX2_mayBeIn_5 ?_
  refine lv_ishr hx hb dX2_mayBeIn_8 ?_
  refine lv_iconst (v := (1 : Int32)) hx hb dX2_mayBeIn_9 (by decide) ?_
  refine lv_iand hx hb dX2_mayBeIn_10 ?_
  refine lv_iconst (v := (1 : Int32)) hx hb dX2_mayBeIn_11 (by decide) ?_
  refine lv_icmp_ne (tgt := 19) hx hb dX2_mayBeIn_12 (by decide) (fun c_1 => ?_) (fun c_1 => ?_)
  · replace hf := og_f c_1 hf
    refine lv_iconst (v := (0 : Int32)) hx hb dX2_mayBeIn_19 (by decide) ?_
    obtain rfl := og_s hf
    exact rt_z C (nz_z (Or.inl rfl)) dX2_mayBeIn_20
  · replace hf := og_t c_1 hf
    refine lv_iconst (v := (1 : Int32)) hx hb dX2_mayBeIn_15 (by decide) ?_
    refine lv_goto (tgt := 20) hx hb dX2_mayBeIn_16 (by decide) ?_
    obtain rfl := og_s hf
    exact rt_z C (nz_z (Or.inr rfl)) dX2_mayBeIn_20
theorem gx_X2_J0_length_72 {c0 : Cond} : GoodIn (c0 :: WAX) (wsV RX2 72 RJ0 yJ0_length_8abf5 wsx_J0_length) := gdx_v mx_157 mx_44 mx_45 mx_46 mx_47
abbrev rmx_X2_fields : Room := { frames := 2, cells := 0, slots := 0, locals := 40 }
noncomputable abbrev wsx_X2_fields : List Cond := Cond.code yX2_fields cX2_fields 1 (some .int) :: WAX
theorem hdx_X2_fields : yX2_fields.cls = RX2 ∧ yX2_fields.cls ≠ "java/lang/invoke/MethodHandle" ∧ yX2_fields.cls ≠ "java/lang/invoke/VarHandle" ∧ (parseMethodDescriptor yX2_fields.desc).map (fun d => d.parameters.length) = some 0 := by decide +kernel
def fx_X2_fields (x0 : (Fin 10)) : Option Int32 := ((fx_J0_length (kShape x0)).bind fun r_2 => (some r_2))
set_option maxHeartbeats 4000000 in
set_option maxRecDepth 100000 in
theorem cx_X2_fields (l : Launch) (G : Gx) (x0 : (Fin 10)) (r : Int32) (sz : Nat) (hf : fx_X2_fields x0 = some r) : Met l yX2_fields wsx_X2_fields rmx_X2_fields (pX G ([]) sz [.ref (gK G (x0).val)]) (k2_QcV (.int r)) 0 0 (fun _ => False) := by
  refine mx_r (cc := cX2_fields) (maxL := 1) (ret := (some .int)) (by decide) rfl (Nat.le_of_ble_eq_true rfl) ?_
  intro p e s m below meth c ls A C hl hK hA hT hP hD hS
  have hl : lv_has ls 1 [(0, .ref (gK G (x0).val))] := hl
  have hx := C.1.1
  have hb := C.1.2.1
  have hts := C.1.2.2.2.2
  have hown := C.1.2.2.2.1
  unfold fx_X2_fields at hf
  refine lv_aload_n hx hb dX2_fields_0 rfl (lv_at hl 0 rfl) ?_
  refine xo (v := .ref (gS G ((kShape x0)).val)) C (hT.1.2.2.2.2.2.2.1 (x0).val (x0).isLt) hS (hts (Cond.fieldLink RX2 66 "SchematicText$Kind" "shape" "Ljava/lang/String;") (List.mem_cons_of_mem _ mx_156)) dX2_fields_1 ?_
  obtain ⟨r_2, h_1, hf⟩ := og_b hf
  try dsimp only at hf
  refine xr_V (v := .int r_2) (rest := []) (w0 := ([])) C (cx_J0_length l G (kShape x0) r_2 _ h_1) (cwV 0 hts gx_X2_J0_length_72 rfl rfl rfl hdx_J0_length ⟨Nat.le_of_ble_eq_true rfl, Nat.le_of_ble_eq_true rfl⟩) hK hA hT hP hD hS (vk_recv hT.1.2.2.2.2.2.2.2.2.2.1 ((kShape x0)).isLt hS) [] rfl rfl rfl hl.1 rfl (Nat.le_of_ble_eq_true rfl) dX2_fields_4 ?_
  obtain rfl := og_s hf
  exact rt_i C dX2_fields_7
theorem gx_X2_J0_charAt_78 {c0 : Cond} : GoodIn (c0 :: WAX) (wsV RX2 78 RJ0 yJ0_charAt_5068e wsx_J0_charAt) := gdx_v mx_162 mx_60 mx_61 mx_46 mx_62
theorem gx_X2_X0_lettered_82 {c0 : Cond} : GoodIn (c0 :: WAX) (va_wsS RX2 82 yX0_lettered wsx_X0_lettered) := gdx_s mx_163 mx_164 mx_165 mx_0
abbrev rmx_X2_fieldAt : Room := { frames := 4, cells := 0, slots := 0, locals := 85 }
noncomputable abbrev wsx_X2_fieldAt : List Cond := Cond.code yX2_fieldAt cX2_fieldAt 2 (some (.object "SchematicText$Field")) :: WAX
theorem hdx_X2_fieldAt : yX2_fieldAt.cls = RX2 ∧ yX2_fieldAt.cls ≠ "java/lang/invoke/MethodHandle" ∧ yX2_fieldAt.cls ≠ "java/lang/invoke/VarHandle" ∧ (parseMethodDescriptor yX2_fieldAt.desc).map (fun d => d.parameters.length) = some 1 := by decide +kernel
def fx_X2_fieldAt_28 (y0 : Int32) : Option (Fin 8) := ((fx_X0_lettered y0).bind fun r_8 => (some r_8))
set_option maxHeartbeats 4000000 in
set_option maxRecDepth 100000 in
theorem wx_X2_fieldAt_28 {p : Program} {l : Launch} {e : Env} {s : State} {m : MethodId} {args : Array Value} {below : List Frame} {meth : Method} {c : Code} {G : Gx} {A : Nat → Prop} (C : Cx p s m args meth c cX2_fieldAt 2 wsx_X2_fieldAt RX2 (some (.object "SchematicText$Field"))) (hK : va_K (gD G) vwCl (tyG G) s) (hA : ∀ q : Nat, s.heap.size ≤ q → A q) (hT : ST G A s s.heap) (hP : va_P (gD G) vwCl ([]) s.heap) (hD : va_D A ([])) (hS : va_S A s.heap s.heap []) {r : (Fin 8)} : ∀ (y0 : Int32), fx_X2_fieldAt_28 y0 = some r → ∀ {ls : Array Slot}, lv_has ls 2 [] → W p l e rmx_X2_fieldAt s m args below meth c s.heap [] 0 0 (MQ below (k2_QcV (.ref (gF G (r).val))) args s 0 0 (fun _ => False)) (F0 m 28 ls [.int y0]) := by
  have hx := C.1.1
  have hb := C.1.2.1
  have hts := C.1.2.2.2.2
  have hown := C.1.2.2.2.1
  intro y0 hf ls hl
  unfold fx_X2_fieldAt_28 at hf
  obtain ⟨r_8, h_7, hf⟩ := og_b hf
  try dsimp only at hf
  refine xr_S (v := .ref (gF G (r_8).val)) (rest := []) C (cx_X0_lettered l G y0 r_8 _ h_7) (va_cwS 1 hts gx_X2_X0_lettered_82 rfl rfl rfl hdx_X0_lettered ⟨Nat.le_of_ble_eq_true rfl, Nat.le_of_ble_eq_true rfl⟩) hK hA hT hP hD hS rfl hl.1 rfl (Nat.le_of_ble_eq_true rfl) dX2_fieldAt_28 ?_
  obtain rfl := og_s hf
  exact rt_a C (Or.inl ⟨_, rfl⟩) dX2_fieldAt_31
def fx_X2_fieldAt_26 : Option (Fin 8) := (fx_X2_fieldAt_28 (116 : Int32))
set_option maxHeartbeats 4000000 in
set_option maxRecDepth 100000 in
theorem wx_X2_fieldAt_26 {p : Program} {l : Launch} {e : Env} {s : State} {m : MethodId} {args : Array Value} {below : List Frame} {meth : Method} {c : Code} {G : Gx} {A : Nat → Prop} (C : Cx p s m args meth c cX2_fieldAt 2 wsx_X2_fieldAt RX2 (some (.object "SchematicText$Field"))) (hK : va_K (gD G) vwCl (tyG G) s) (hA : ∀ q : Nat, s.heap.size ≤ q → A q) (hT : ST G A s s.heap) (hP : va_P (gD G) vwCl ([]) s.heap) (hD : va_D A ([])) (hS : va_S A s.heap s.heap []) {r : (Fin 8)} : fx_X2_fieldAt_26  = some r → ∀ {ls : Array Slot}, lv_has ls 2 [] → W p l e rmx_X2_fieldAt s m args below meth c s.heap [] 0 0 (MQ below (k2_QcV (.ref (gF G (r).val))) args s 0 0 (fun _ => False)) (F0 m 26 ls []) := by
  have hx := C.1.1
  have hb := C.1.2.1
  have hts := C.1.2.2.2.2
  have hown := C.1.2.2.2.1
  intro  hf ls hl
  unfold fx_X2_fieldAt_26 at hf
  refine lv_bipush (v := (116 : Int32)) hx hb dX2_fieldAt_26 (by decide) ?_
  exact wx_X2_fieldAt_28 C hK hA hT hP hD hS (116 : Int32) hf (lv_sub hl [] rfl)
def fx_X2_fieldAt (x0 : (Fin 10)) (x1 : Int32) : Option (Fin 8) := (if x1 < 0 then (fx_X2_fieldAt_26) else ((fx_J0_length (kShape x0)).bind fun r_3 => (if r_3 ≤ x1 then (fx_X2_fieldAt_26) else ((fx_J0_charAt (kShape x0) x1).bind fun r_6 => (fx_X2_fieldAt_28 r_6)))))
set_option maxHeartbeats 4000000 in
set_option maxRecDepth 100000 in
theorem cx_X2_fieldAt (l : Launch) (G : Gx) (x0 : (Fin 10)) (x1 : Int32) (r : (Fin 8)) (sz : Nat) (hf : fx_X2_fieldAt x0 x1 = some r) : Met l yX2_fieldAt wsx_X2_fieldAt rmx_X2_fieldAt (pX G ([]) sz [.ref (gK G (x0).val), .int x1]) (k2_QcV (.ref (gF G (r).val))) 0 0 (fun _ => False) := by
  refine mx_r (cc := cX2_fieldAt) (maxL := 2) (ret := (some (.object "SchematicText$Field"))) (by decide) rfl (Nat.le_of_ble_eq_true rfl) ?_
  intro p e s m below meth c ls A C hl hK hA hT hP hD hS
  have hl : lv_has ls 2 [(0, .ref (gK G (x0).val)), (1, .int x1)] := hl
  have hx := C.1.1
  have hb := C.1.2.1
  have hts := C.1.2.2.2.2
  have hown := C.1.2.2.2.1
  unfold fx_X2_fieldAt at hf
  refine lv_iload_n hx hb dX2_fieldAt_0 rfl (lv_at hl 1 rfl) ?_
  refine lv_if_lt (tgt := 26) hx hb dX2_fieldAt_1 (by decide) (fun c_1 => ?_) (fun c_1 => ?_)
  · replace hf := og_t c_1 hf
    exact wx_X2_fieldAt_26 C hK hA hT hP hD hS hf (lv_sub hl [] rfl)
  · replace hf := og_f c_1 hf
    refine lv_iload_n hx hb dX2_fieldAt_4 rfl (lv_at hl 1 rfl) ?_
    refine lv_aload_n hx hb dX2_fieldAt_5 rfl (lv_at hl 0 rfl) ?_
    refine xo (v := .ref (gS G ((kShape x0)).val)) C (hT.1.2.2.2.2.2.2.1 (x0).val (x0).isLt) hS (hts (Cond.fieldLink RX2 66 "SchematicText$Kind" "shape" "Ljava/lang/String;") (List.mem_cons_of_mem _ mx_156)) dX2_fieldAt_6 ?_
    obtain ⟨r_3, h_2, hf⟩ := og_b hf
    try dsimp only at hf
    refine xr_V (v := .int r_3) (rest := [.int x1]) (w0 := ([])) C (cx_J0_length l G (kShape x0) r_3 _ h_2) (cwV 0 hts gx_X2_J0_length_72 rfl rfl rfl hdx_J0_length ⟨Nat.le_of_ble_eq_true rfl, Nat.le_of_ble_eq_true rfl⟩) hK hA hT hP hD hS (vk_recv hT.1.2.2.2.2.2.2.2.2.2.1 ((kShape x0)).isLt hS) [] rfl rfl rfl hl.1 rfl (Nat.le_of_ble_eq_true rfl) dX2_fieldAt_9 ?_
    refine lv_icmp_ge (tgt := 26) hx hb dX2_fieldAt_12 (by decide) (fun c_4 => ?_) (fun c_4 => ?_)
    · replace hf := og_t c_4 hf
      exact wx_X2_fieldAt_26 C hK hA hT hP hD hS hf (lv_sub hl [] rfl)
    · replace hf := og_f c_4 hf
      refine lv_aload_n hx hb dX2_fieldAt_15 rfl (lv_at hl 0 rfl) ?_
      refine xo (v := .ref (gS G ((kShape x0)).val)) C (hT.1.2.2.2.2.2.2.1 (x0).val (x0).isLt) hS (hts (Cond.fieldLink RX2 66 "SchematicText$Kind" "shape" "Ljava/lang/String;") (List.mem_cons_of_mem _ mx_156)) dX2_fieldAt_16 ?_
      refine lv_iload_n hx hb dX2_fieldAt_19 rfl (lv_at hl 1 rfl) ?_
      obtain ⟨r_6, h_5, hf⟩ := og_b hf
      try dsimp only at hf
      refine xr_V (v := .int r_6) (rest := []) (w0 := ([])) C (cx_J0_charAt l G (kShape x0) x1 r_6 _ h_5) (cwV 1 hts gx_X2_J0_charAt_78 rfl rfl rfl hdx_J0_charAt ⟨Nat.le_of_ble_eq_true rfl, Nat.le_of_ble_eq_true rfl⟩) hK hA hT hP hD hS (vk_recv hT.1.2.2.2.2.2.2.2.2.2.1 ((kShape x0)).isLt hS) [] rfl rfl rfl hl.1 rfl (Nat.le_of_ble_eq_true rfl) dX2_fieldAt_20 ?_
      refine lv_goto (tgt := 28) hx hb dX2_fieldAt_23 (by decide) ?_
      exact wx_X2_fieldAt_28 C hK hA hT hP hD hS r_6 hf (lv_sub hl [] rfl)
theorem gx_X2_X2_fieldAt_88 {c0 : Cond} : GoodIn (c0 :: WAX) (wsV RX2 88 RX2 yX2_fieldAt wsx_X2_fieldAt) := gdx_v mx_314 mx_159 mx_160 mx_114 mx_161
theorem gx_X2_X0_isText_92 {c0 : Cond} : GoodIn (c0 :: WAX) (wsV RX2 92 RX0 yX0_isText wsx_X0_isText) := gdx_v mx_315 mx_167 mx_168 mx_165 mx_8
abbrev rmx_X2_spotOf : Room := { frames := 5, cells := 0, slots := 0, locals := 106 }
noncomputable abbrev wsx_X2_spotOf : List Cond := Cond.code yX2_spotOf cX2_spotOf 5 (some .int) :: WAX
theorem hdx_X2_spotOf : yX2_spotOf.cls = RX2 ∧ yX2_spotOf.cls ≠ "java/lang/invoke/MethodHandle" ∧ yX2_spotOf.cls ≠ "java/lang/invoke/VarHandle" ∧ (parseMethodDescriptor yX2_spotOf.desc).map (fun d => d.parameters.length) = some 2 := by decide +kernel
def fx_X2_spotOf_41 (k5 : (Fin 10) → Int32 → Int32 → Int32 → Int32 → Option Int32) (x0 : (Fin 10)) (x1 : Int32) (x2 : Int32) (x3 : Int32) (x4 : Int32) : Option Int32 := (k5 x0 x1 x2 x3 (x4 + (1 : Int32)))
set_option maxHeartbeats 4000000 in
set_option maxRecDepth 100000 in
theorem wx_X2_spotOf_41 {p : Program} {l : Launch} {e : Env} {s : State} {m : MethodId} {args : Array Value} {below : List Frame} {meth : Method} {c : Code} {G : Gx} {A : Nat → Prop} (C : Cx p s m args meth c cX2_spotOf 5 wsx_X2_spotOf RX2 (some .int)) (hK : va_K (gD G) vwCl (tyG G) s) (hA : ∀ q : Nat, s.heap.size ≤ q → A q) (hT : ST G A s s.heap) (hP : va_P (gD G) vwCl ([]) s.heap) (hD : va_D A ([])) (hS : va_S A s.heap s.heap []) {r : Int32} (k5 : (Fin 10) → Int32 → Int32 → Int32 → Int32 → Option Int32) (ih5 : ∀ (x0 : (Fin 10)) (x1 : Int32) (x2 : Int32) (x3 : Int32) (x4 : Int32), k5 x0 x1 x2 x3 x4 = some r → ∀ {ls : Array Slot}, lv_has ls 5 [(0, .ref (gK G (x0).val)), (1, .int x1), (2, .int x2), (3, .int x3), (4, .int x4)] → W p l e rmx_X2_spotOf s m args below meth c s.heap [] 0 0 (MQ below (k2_QcV (.int r)) args s 0 0 (fun _ => False)) (F0 m 5 ls [])) : ∀ (x0 : (Fin 10)) (x1 : Int32) (x2 : Int32) (x3 : Int32) (x4 : Int32), fx_X2_spotOf_41 k5 x0 x1 x2 x3 x4 = some r → ∀ {ls : Array Slot}, lv_has ls 5 [(0, .ref (gK G (x0).val)), (1, .int x1), (2, .int x2), (3, .int x3), (4, .int x4)] → W p l e rmx_X2_spotOf s m args below meth c s.heap [] 0 0 (MQ below (k2_QcV (.int r)) args s 0 0 (fun _ => False)) (F0 m 41 ls []) := by
  have hx := C.1.1
  have hb := C.1.2.1
  have hts := C.1.2.2.2.2
  have hown := C.1.2.2.2.1
  intro x0 x1 x2 x3 x4 hf ls hl
  unfold fx_X2_spotOf_41 at hf
  refine lv_iinc (v := (x4 + (1 : Int32))) (lv' := [(4, .int (x4 + (1 : Int32))), (0, .ref (gK G (x0).val)), (1, .int x1), (2, .int x2), (3, .int x3)]) hx hb dX2_spotOf_41 hl (k := 4) rfl rfl (by decide) rfl (fun ls hl => ?_)
  refine lv_goto (tgt := 5) hx hb dX2_spotOf_44 (by decide) ?_
  exact ih5 x0 x1 x2 x3 (x4 + (1 : Int32)) hf (lv_sub hl [1, 2, 3, 4, 0] rfl)
def fx_X2_spotOf_5 : Nat → (Fin 10) → Int32 → Int32 → Int32 → Int32 → Option Int32
  | 0, _, _, _, _, _ => none
  | n + 1, x0, x1, x2, x3, x4 => ((fx_J0_length (kShape x0)).bind fun r_2 => (if r_2 ≤ x4 then (some (-1 : Int32)) else ((fx_X2_fieldAt x0 x4).bind fun r_5 => ((fx_X0_isText r_5).bind fun r_7 => (if r_7 = x1 then (if x3 = x2 then (some x4) else (fx_X2_spotOf_41 (fx_X2_spotOf_5 n) x0 x1 x2 (x3 + (1 : Int32)) x4)) else (fx_X2_spotOf_41 (fx_X2_spotOf_5 n) x0 x1 x2 x3 x4))))))
set_option maxHeartbeats 4000000 in
set_option maxRecDepth 100000 in
theorem wx_X2_spotOf_5 {p : Program} {l : Launch} {e : Env} {s : State} {m : MethodId} {args : Array Value} {below : List Frame} {meth : Method} {c : Code} {G : Gx} {A : Nat → Prop} (C : Cx p s m args meth c cX2_spotOf 5 wsx_X2_spotOf RX2 (some .int)) (hK : va_K (gD G) vwCl (tyG G) s) (hA : ∀ q : Nat, s.heap.size ≤ q → A q) (hT : ST G A s s.heap) (hP : va_P (gD G) vwCl ([]) s.heap) (hD : va_D A ([])) (hS : va_S A s.heap s.heap []) {r : Int32} : ∀ (n : Nat), ∀ (x0 : (Fin 10)) (x1 : Int32) (x2 : Int32) (x3 : Int32) (x4 : Int32), fx_X2_spotOf_5 n x0 x1 x2 x3 x4 = some r → ∀ {ls : Array Slot}, lv_has ls 5 [(0, .ref (gK G (x0).val)), (1, .int x1), (2, .int x2), (3, .int x3), (4, .int x4)] → W p l e rmx_X2_spotOf s m args below meth c s.heap [] 0 0 (MQ below (k2_QcV (.int r)) args s 0 0 (fun _ => False)) (F0 m 5 ls []) := by
  have hx := C.1.1
  have hb := C.1.2.1
  have hts := C.1.2.2.2.2
  have hown := C.1.2.2.2.1
  intro n
  induction n with
  | zero =>
    intro x0 x1 x2 x3 x4 hf ls hl
    cases hf
  | succ n ih =>
    intro x0 x1 x2 x3 x4 hf ls hl
    rw [fx_X2_spotOf_5] at hf
    refine lv_iload hx hb dX2_spotOf_5 (lv_at hl 4 rfl) ?_
    refine lv_aload_n hx hb dX2_spotOf_7 rfl (lv_at hl 0 rfl) ?_
    refine xo (v := .ref (gS G ((kShape x0)).val)) C (hT.1.2.2.2.2.2.2.1 (x0).val (x0).isLt) hS (hts (Cond.fieldLink RX2 66 "SchematicText$Kind" "shape" "Ljava/lang/String;") (List.mem_cons_of_mem _ mx_156)) dX2_spotOf_8 ?_
    obtain ⟨r_2, h_1, hf⟩ := og_b hf
    try dsimp only at hf
    refine xr_V (v := .int r_2) (rest := [.int x4]) (w0 := ([])) C (cx_J0_length l G (kShape x0) r_2 _ h_1) (cwV 0 hts gx_X2_J0_length_72 rfl rfl rfl hdx_J0_length ⟨Nat.le_of_ble_eq_true rfl, Nat.le_of_ble_eq_true rfl⟩) hK hA hT hP hD hS (vk_recv hT.1.2.2.2.2.2.2.2.2.2.1 ((kShape x0)).isLt hS) [] rfl rfl rfl hl.1 rfl (Nat.le_of_ble_eq_true rfl) dX2_spotOf_11 ?_
    refine lv_icmp_ge (tgt := 47) hx hb dX2_spotOf_14 (by decide) (fun c_3 => ?_) (fun c_3 => ?_)
    · replace hf := og_t c_3 hf
      refine lv_iconst (v := (-1 : Int32)) hx hb dX2_spotOf_47 (by decide) ?_
      obtain rfl := og_s hf
      exact rt_i C dX2_spotOf_48
    · replace hf := og_f c_3 hf
      refine lv_aload_n hx hb dX2_spotOf_17 rfl (lv_at hl 0 rfl) ?_
      refine lv_iload hx hb dX2_spotOf_18 (lv_at hl 4 rfl) ?_
      obtain ⟨r_5, h_4, hf⟩ := og_b hf
      try dsimp only at hf
      refine xr_V (v := .ref (gF G (r_5).val)) (rest := []) (w0 := ([])) C (cx_X2_fieldAt l G x0 x4 r_5 _ h_4) (cwV 1 hts gx_X2_X2_fieldAt_88 rfl rfl rfl hdx_X2_fieldAt ⟨Nat.le_of_ble_eq_true rfl, Nat.le_of_ble_eq_true rfl⟩) hK hA hT hP hD hS (va_recvE hT.1.2.2.2.2.1 (x0).isLt hS) [] rfl rfl rfl hl.1 rfl (Nat.le_of_ble_eq_true rfl) dX2_spotOf_20 ?_
      obtain ⟨r_7, h_6, hf⟩ := og_b hf
      try dsimp only at hf
      refine xr_V (v := .int r_7) (rest := []) (w0 := ([])) C (cx_X0_isText l G r_5 r_7 _ h_6) (cwV 0 hts gx_X2_X0_isText_92 rfl rfl rfl hdx_X0_isText ⟨Nat.le_of_ble_eq_true rfl, Nat.le_of_ble_eq_true rfl⟩) hK hA hT hP hD hS (va_recvE hT.1.1 (r_5).isLt hS) [] rfl rfl rfl hl.1 rfl (Nat.le_of_ble_eq_true rfl) dX2_spotOf_23 ?_
      refine lv_iload_n hx hb dX2_spotOf_26 rfl (lv_at hl 1 rfl) ?_
      refine lv_icmp_ne (tgt := 41) hx hb dX2_spotOf_27 (by decide) (fun c_8 => ?_) (fun c_8 => ?_)
      · replace hf := og_f c_8 hf
        exact wx_X2_spotOf_41 C hK hA hT hP hD hS (fx_X2_spotOf_5 n) (fun _ _ _ _ _ h9 => ih _ _ _ _ _ h9) x0 x1 x2 x3 x4 hf (lv_sub hl [0, 1, 2, 3, 4] rfl)
      · replace hf := og_t c_8 hf
        refine lv_iload_n hx hb dX2_spotOf_30 rfl (lv_at hl 3 rfl) ?_
        refine lv_iload_n hx hb dX2_spotOf_31 rfl (lv_at hl 2 rfl) ?_
        refine lv_icmp_ne (tgt := 38) hx hb dX2_spotOf_32 (by decide) (fun c_9 => ?_) (fun c_9 => ?_)
        · replace hf := og_f c_9 hf
          refine lv_iinc (v := (x3 + (1 : Int32))) (lv' := [(3, .int (x3 + (1 : Int32))), (0, .ref (gK G (x0).val)), (1, .int x1), (2, .int x2), (4, .int x4)]) hx hb dX2_spotOf_38 hl (k := 3) rfl rfl (by decide) rfl (fun ls hl => ?_)
          exact wx_X2_spotOf_41 C hK hA hT hP hD hS (fx_X2_spotOf_5 n) (fun _ _ _ _ _ h9 => ih _ _ _ _ _ h9) x0 x1 x2 (x3 + (1 : Int32)) x4 hf (lv_sub hl [1, 2, 3, 0, 4] rfl)
        · replace hf := og_t c_9 hf
          refine lv_iload hx hb dX2_spotOf_35 (lv_at hl 4 rfl) ?_
          obtain rfl := og_s hf
          exact rt_i C dX2_spotOf_37
def fx_X2_spotOf (x0 : (Fin 10)) (x1 : Int32) (x2 : Int32) : Option Int32 := (fx_X2_spotOf_5 FU x0 x1 x2 (0 : Int32) (0 : Int32))
set_option maxHeartbeats 4000000 in
set_option maxRecDepth 100000 in
theorem cx_X2_spotOf (l : Launch) (G : Gx) (x0 : (Fin 10)) (x1 : Int32) (x2 : Int32) (r : Int32) (sz : Nat) (hf : fx_X2_spotOf x0 x1 x2 = some r) : Met l yX2_spotOf wsx_X2_spotOf rmx_X2_spotOf (pX G ([]) sz [.ref (gK G (x0).val), .int x1, .int x2]) (k2_QcV (.int r)) 0 0 (fun _ => False) := by
  refine mx_r (cc := cX2_spotOf) (maxL := 5) (ret := (some .int)) (by decide) rfl (Nat.le_of_ble_eq_true rfl) ?_
  intro p e s m below meth c ls A C hl hK hA hT hP hD hS
  have hl : lv_has ls 5 [(0, .ref (gK G (x0).val)), (1, .int x1), (2, .int x2)] := hl
  have hx := C.1.1
  have hb := C.1.2.1
  have hts := C.1.2.2.2.2
  have hown := C.1.2.2.2.1
  unfold fx_X2_spotOf at hf
  refine lv_iconst (v := (0 : Int32)) hx hb dX2_spotOf_0 (by decide) ?_
  refine lv_istore_n (lv' := [(3, .int (0 : Int32)), (0, .ref (gK G (x0).val)), (1, .int x1), (2, .int x2)]) hx hb dX2_spotOf_1 rfl hl (by decide) rfl (fun ls hl => ?_)
  refine lv_iconst (v := (0 : Int32)) hx hb dX2_spotOf_2 (by decide) ?_
  refine lv_istore (lv' := [(4, .int (0 : Int32)), (3, .int (0 : Int32)), (0, .ref (gK G (x0).val)), (1, .int x1), (2, .int x2)]) hx hb dX2_spotOf_3 hl (by decide) rfl (fun ls hl => ?_)
  exact wx_X2_spotOf_5 C hK hA hT hP hD hS FU x0 x1 x2 (0 : Int32) (0 : Int32) hf (lv_sub hl [2, 3, 4, 1, 0] rfl)
abbrev rmx_X5_forget : Room := { frames := 0, cells := 0, slots := 0, locals := 0 }
noncomputable abbrev wsx_X5_forget : List Cond := Cond.code yX5_forget cX5_forget 1 none :: WAX
theorem hdx_X5_forget : yX5_forget.cls = RX5 ∧ yX5_forget.cls ≠ "java/lang/invoke/MethodHandle" ∧ yX5_forget.cls ≠ "java/lang/invoke/VarHandle" ∧ (parseMethodDescriptor yX5_forget.desc).map (fun d => d.parameters.length) = some 0 := by decide +kernel
def fx_X5_forget (uP : Md) : Option Md := (some (si uP 1 (0 : Int32)))
set_option maxHeartbeats 4000000 in
set_option maxRecDepth 100000 in
theorem cx_X5_forget (l : Launch) (G : Gx) (bP : Nat → Nat) (uP : Md)  (vP : Md) (sz : Nat) (hf : fx_X5_forget uP = some vP) : Met l yX5_forget wsx_X5_forget rmx_X5_forget (pX G (cP G bP uP) sz [.ref (bP 0)]) (qW none (cP G bP vP) (gD G) (tyG G) (va_A (cP G bP uP) sz)) 0 0 (va_A (cP G bP uP) sz) := by
  refine mx_w (cc := cX5_forget) (maxL := 1) (ret := none) (by decide) rfl (Nat.le_of_ble_eq_true rfl) ?_
  intro p e s m below meth c ls A C hl hK hA hT hP hD hS
  have hl : lv_has ls 1 [(0, .ref (bP 0))] := hl
  have hx := C.1.1
  have hb := C.1.2.1
  have hts := C.1.2.2.2.2
  have hown := C.1.2.2.2.1
  have hin5 : ∀ w ∈ wsX50, w ∈ wsx_X5_forget := fun w h => List.mem_cons_of_mem _ (List.mem_append_right _ (List.mem_append_left _ h))
  unfold fx_X5_forget at hf
  refine lv_aload_n hx hb dX5_forget_0 rfl (lv_at hl 0 rfl) ?_
  refine lv_iconst (v := (0 : Int32)) hx hb dX5_forget_1 (by decide) ?_
  refine xp (v := .int (0 : Int32)) (w' := (cP G bP (si uP 1 (0 : Int32)))) (ci := 2) (K := RX5) (T := TX5) (N := 2) (ty := .int) C hin5 tyX5 tyX5_ok nmX5 hK hP hD hS 0 rfl rfl 1 (by decide) rfl (hts (Cond.fieldLink RX5 16 "SchematicText$Page" "count" "I") (List.mem_cons_of_mem _ mx_274)) rfl rfl rfl rfl (Nat.le_of_ble_eq_true rfl) dX5_forget_2 hw_P_P_i1 (fun H locs hP hD hS => ?_)
  obtain rfl := og_s hf
  exact rw_v C hK hP hD hS dX5_forget_5
abbrev rmx_X5_markAt : Room := { frames := 0, cells := 0, slots := 0, locals := 0 }
noncomputable abbrev wsx_X5_markAt : List Cond := Cond.code yX5_markAt cX5_markAt 2 (some .int) :: WAX
theorem hdx_X5_markAt : yX5_markAt.cls = RX5 ∧ yX5_markAt.cls ≠ "java/lang/invoke/MethodHandle" ∧ yX5_markAt.cls ≠ "java/lang/invoke/VarHandle" ∧ (parseMethodDescriptor yX5_markAt.desc).map (fun d => d.parameters.length) = some 1 := by decide +kernel
def fx_X5_markAt (uP : Md) (x1 : Int32) : Option Int32 := (if x1 < 0 then (some (-1 : Int32)) else (if (gi uP 1) ≤ x1 then (some (-1 : Int32)) else (if (60000 : Int32) ≤ x1 then (some (-1 : Int32)) else (if x1 < 0 ∨ 60000 ≤ (x1).toNatClampNeg then none else (some ((ga uP 0) (x1).toNatClampNeg))))))
set_option maxHeartbeats 4000000 in
set_option maxRecDepth 100000 in
theorem cx_X5_markAt (l : Launch) (G : Gx) (bP : Nat → Nat) (uP : Md) (x1 : Int32) (r : Int32) (sz : Nat) (hf : fx_X5_markAt uP x1 = some r) : Met l yX5_markAt wsx_X5_markAt rmx_X5_markAt (pX G (cP G bP uP) sz [.ref (bP 0), .int x1]) (k2_QcV (.int r)) 0 0 (fun _ => False) := by
  refine mx_r (cc := cX5_markAt) (maxL := 2) (ret := (some .int)) (by decide) rfl (Nat.le_of_ble_eq_true rfl) ?_
  intro p e s m below meth c ls A C hl hK hA hT hP hD hS
  have hl : lv_has ls 2 [(0, .ref (bP 0)), (1, .int x1)] := hl
  have hx := C.1.1
  have hb := C.1.2.1
  have hts := C.1.2.2.2.2
  have hown := C.1.2.2.2.1
  have hin5 : ∀ w ∈ wsX50, w ∈ wsx_X5_markAt := fun w h => List.mem_cons_of_mem _ (List.mem_append_right _ (List.mem_append_left _ h))
  unfold fx_X5_markAt at hf
  refine lv_iload_n hx hb dX5_markAt_0 rfl (lv_at hl 1 rfl) ?_
  refine lv_if_lt (tgt := 27) hx hb dX5_markAt_1 (by decide) (fun c_1 => ?_) (fun c_1 => ?_)
  · replace hf := og_t c_1 hf
    refine lv_iconst (v := (-1 : Int32)) hx hb dX5_markAt_27 (by decide) ?_
    obtain rfl := og_s hf
    exact rt_i C dX5_markAt_28
  · replace hf := og_f c_1 hf
    refine lv_iload_n hx hb dX5_markAt_4 rfl (lv_at hl 1 rfl) ?_
    refine lv_aload_n hx hb dX5_markAt_5 rfl (lv_at hl 0 rfl) ?_
    refine xg (v := .int (gi uP 1)) (ci := 2) (K := RX5) (T := TX5) (N := 2) C hin5 hK hP 0 rfl rfl 1 (by decide) rfl (hts (Cond.fieldLink RX5 16 "SchematicText$Page" "count" "I") (List.mem_cons_of_mem _ mx_274)) rfl dX5_markAt_6 ?_
    refine lv_icmp_ge (tgt := 27) hx hb dX5_markAt_9 (by decide) (fun c_2 => ?_) (fun c_2 => ?_)
    · replace hf := og_t c_2 hf
      refine lv_iconst (v := (-1 : Int32)) hx hb dX5_markAt_27 (by decide) ?_
      obtain rfl := og_s hf
      exact rt_i C dX5_markAt_28
    · replace hf := og_f c_2 hf
      refine lv_iload_n hx hb dX5_markAt_12 rfl (lv_at hl 1 rfl) ?_
      refine lv_ldc (v := (60000 : Int32)) hx hb hown (hts (Cond.constant RX5 9 (60000)) (List.mem_cons_of_mem _ mx_275)) dX5_markAt_13 ?_
      refine lv_icmp_ge (tgt := 27) hx hb dX5_markAt_15 (by decide) (fun c_3 => ?_) (fun c_3 => ?_)
      · replace hf := og_t c_3 hf
        refine lv_iconst (v := (-1 : Int32)) hx hb dX5_markAt_27 (by decide) ?_
        obtain rfl := og_s hf
        exact rt_i C dX5_markAt_28
      · replace hf := og_f c_3 hf
        refine lv_aload_n hx hb dX5_markAt_18 rfl (lv_at hl 0 rfl) ?_
        refine xg (v := .ref (bP 1)) (ci := 2) (K := RX5) (T := TX5) (N := 2) C hin5 hK hP 0 rfl rfl 0 (by decide) rfl (hts (Cond.fieldLink RX5 10 "SchematicText$Page" "marks" "[C") (List.mem_cons_of_mem _ mx_276)) rfl dX5_markAt_19 ?_
        refine lv_iload_n hx hb dX5_markAt_22 rfl (lv_at hl 1 rfl) ?_
        obtain ⟨h_4, hf⟩ := og_n hf
        refine va_cald (f := (ga uP 0)) hx hb hK hP 1 2 rfl rfl h_4 dX5_markAt_23 ?_
        refine lv_goto (tgt := 28) hx hb dX5_markAt_24 (by decide) ?_
        obtain rfl := og_s hf
        exact rt_i C dX5_markAt_28
abbrev rmx_X5_put : Room := { frames := 0, cells := 0, slots := 0, locals := 0 }
noncomputable abbrev wsx_X5_put : List Cond := Cond.code yX5_put cX5_put 2 none :: WAX
theorem hdx_X5_put : yX5_put.cls = RX5 ∧ yX5_put.cls ≠ "java/lang/invoke/MethodHandle" ∧ yX5_put.cls ≠ "java/lang/invoke/VarHandle" ∧ (parseMethodDescriptor yX5_put.desc).map (fun d => d.parameters.length) = some 1 := by decide +kernel
def fx_X5_put (uP : Md) (x1 : Int32) : Option Md := (if (gi uP 1) < 0 then (some uP) else (if (60000 : Int32) ≤ (gi uP 1) then (some uP) else (if (gi uP 1) < 0 ∨ 60000 ≤ ((gi uP 1)).toNatClampNeg then none else (some (si (sa uP 0 (upd (ga uP 0) ((gi uP 1)).toNatClampNeg (vp_nar .char ((x1).toUInt32 % 65536).toInt32))) 1 ((gi uP 1) + (1 : Int32)))))))
set_option maxHeartbeats 4000000 in
set_option maxRecDepth 100000 in
theorem cx_X5_put (l : Launch) (G : Gx) (bP : Nat → Nat) (uP : Md) (x1 : Int32)  (vP : Md) (sz : Nat) (hf : fx_X5_put uP x1 = some vP) : Met l yX5_put wsx_X5_put rmx_X5_put (pX G (cP G bP uP) sz [.ref (bP 0), .int x1]) (qW none (cP G bP vP) (gD G) (tyG G) (va_A (cP G bP uP) sz)) 0 0 (va_A (cP G bP uP) sz) := by
  refine mx_w (cc := cX5_put) (maxL := 2) (ret := none) (by decide) rfl (Nat.le_of_ble_eq_true rfl) ?_
  intro p e s m below meth c ls A C hl hK hA hT hP hD hS
  have hl : lv_has ls 2 [(0, .ref (bP 0)), (1, .int x1)] := hl
  have hx := C.1.1
  have hb := C.1.2.1
  have hts := C.1.2.2.2.2
  have hown := C.1.2.2.2.1
  have hin5 : ∀ w ∈ wsX50, w ∈ wsx_X5_put := fun w h => List.mem_cons_of_mem _ (List.mem_append_right _ (List.mem_append_left _ h))
  unfold fx_X5_put at hf
  refine lv_aload_n hx hb dX5_put_0 rfl (lv_at hl 0 rfl) ?_
  refine xg (v := .int (gi uP 1)) (ci := 2) (K := RX5) (T := TX5) (N := 2) C hin5 hK hP 0 rfl rfl 1 (by decide) rfl (hts (Cond.fieldLink RX5 16 "SchematicText$Page" "count" "I") (List.mem_cons_of_mem _ mx_274)) rfl dX5_put_1 ?_
  refine lv_if_lt (tgt := 37) hx hb dX5_put_4 (by decide) (fun c_1 => ?_) (fun c_1 => ?_)
  · replace hf := og_t c_1 hf
    obtain rfl := og_s hf
    exact rw_v C hK hP hD hS dX5_put_37
  · replace hf := og_f c_1 hf
    refine lv_aload_n hx hb dX5_put_7 rfl (lv_at hl 0 rfl) ?_
    refine xg (v := .int (gi uP 1)) (ci := 2) (K := RX5) (T := TX5) (N := 2) C hin5 hK hP 0 rfl rfl 1 (by decide) rfl (hts (Cond.fieldLink RX5 16 "SchematicText$Page" "count" "I") (List.mem_cons_of_mem _ mx_274)) rfl dX5_put_8 ?_
    refine lv_ldc (v := (60000 : Int32)) hx hb hown (hts (Cond.constant RX5 9 (60000)) (List.mem_cons_of_mem _ mx_275)) dX5_put_11 ?_
    refine lv_icmp_ge (tgt := 37) hx hb dX5_put_13 (by decide) (fun c_2 => ?_) (fun c_2 => ?_)
    · replace hf := og_t c_2 hf
      obtain rfl := og_s hf
      exact rw_v C hK hP hD hS dX5_put_37
    · replace hf := og_f c_2 hf
      refine lv_aload_n hx hb dX5_put_16 rfl (lv_at hl 0 rfl) ?_
      refine xg (v := .ref (bP 1)) (ci := 2) (K := RX5) (T := TX5) (N := 2) C hin5 hK hP 0 rfl rfl 0 (by decide) rfl (hts (Cond.fieldLink RX5 10 "SchematicText$Page" "marks" "[C") (List.mem_cons_of_mem _ mx_276)) rfl dX5_put_17 ?_
      refine lv_aload_n hx hb dX5_put_20 rfl (lv_at hl 0 rfl) ?_
      refine xg (v := .int (gi uP 1)) (ci := 2) (K := RX5) (T := TX5) (N := 2) C hin5 hK hP 0 rfl rfl 1 (by decide) rfl (hts (Cond.fieldLink RX5 16 "SchematicText$Page" "count" "I") (List.mem_cons_of_mem _ mx_274)) rfl dX5_put_21 ?_
      refine lv_iload_n hx hb dX5_put_24 rfl (lv_at hl 1 rfl) ?_
      refine lv_i2c (v := ((x1).toUInt32 % 65536).toInt32) hx hb dX5_put_25 rfl ?_
      obtain ⟨h_3, hf⟩ := og_n hf
      refine xsc (f := (ga uP 0)) (w' := (cP G bP (sa uP 0 (upd (ga uP 0) ((gi uP 1)).toNatClampNeg (vp_nar .char ((x1).toUInt32 % 65536).toInt32))))) C hK hP hD hS 1 rfl h_3 dX5_put_26 hw_P_P_a0 (fun H locs hP hD hS => ?_)
      refine lv_aload_n hx hb dX5_put_27 rfl (lv_at hl 0 rfl) ?_
      refine lv_dup hx hb dX5_put_28 rfl ?_
      refine xg (v := .int (gi uP 1)) (ci := 2) (K := RX5) (T := TX5) (N := 2) C hin5 hK hP 0 rfl rfl 1 (by decide) rfl (hts (Cond.fieldLink RX5 16 "SchematicText$Page" "count" "I") (List.mem_cons_of_mem _ mx_274)) rfl dX5_put_29 ?_
      refine lv_iconst (v := (1 : Int32)) hx hb dX5_put_32 (by decide) ?_
      refine lv_iadd hx hb dX5_put_33 ?_
      refine xp (v := .int ((gi uP 1) + (1 : Int32))) (w' := (cP G bP (si (sa uP 0 (upd (ga uP 0) ((gi uP 1)).toNatClampNeg (vp_nar .char ((x1).toUInt32 % 65536).toInt32))) 1 ((gi uP 1) + (1 : Int32))))) (ci := 2) (K := RX5) (T := TX5) (N := 2) (ty := .int) C hin5 tyX5 tyX5_ok nmX5 hK hP hD hS 0 rfl rfl 1 (by decide) rfl (hts (Cond.fieldLink RX5 16 "SchematicText$Page" "count" "I") (List.mem_cons_of_mem _ mx_274)) rfl rfl rfl rfl (Nat.le_of_ble_eq_true rfl) dX5_put_34 hw_P_P_i1 (fun H locs hP hD hS => ?_)
      obtain rfl := og_s hf
      exact rw_v C hK hP hD hS dX5_put_37
theorem gx_X5_X5_put_20 {c0 : Cond} : GoodIn (c0 :: WAX) (wsV RX5 20 RX5 yX5_put wsx_X5_put) := gdx_v mx_270 mx_271 mx_272 mx_266 mx_273
abbrev rmx_X5_putTimes : Room := { frames := 1, cells := 0, slots := 0, locals := 21 }
noncomputable abbrev wsx_X5_putTimes : List Cond := Cond.code yX5_putTimes cX5_putTimes 4 none :: WAX
theorem hdx_X5_putTimes : yX5_putTimes.cls = RX5 ∧ yX5_putTimes.cls ≠ "java/lang/invoke/MethodHandle" ∧ yX5_putTimes.cls ≠ "java/lang/invoke/VarHandle" ∧ (parseMethodDescriptor yX5_putTimes.desc).map (fun d => d.parameters.length) = some 2 := by decide +kernel
def fx_X5_putTimes_2 : Nat → Md → Int32 → Int32 → Int32 → Option Md
  | 0, _, _, _, _ => none
  | n + 1, uP, x1, x2, x3 => (if x2 ≤ x3 then (some uP) else ((fx_X5_put uP x1).bind fun u_3 => (fx_X5_putTimes_2 n u_3 x1 x2 (x3 + (1 : Int32)))))
set_option maxHeartbeats 4000000 in
set_option maxRecDepth 100000 in
theorem wx_X5_putTimes_2 {p : Program} {l : Launch} {e : Env} {s : State} {m : MethodId} {args : Array Value} {below : List Frame} {meth : Method} {c : Code} {G : Gx} {A : Nat → Prop} {bP : Nat → Nat} (C : Cx p s m args meth c cX5_putTimes 4 wsx_X5_putTimes RX5 none) (hK : va_K (gD G) vwCl (tyG G) s) (hA : ∀ q : Nat, s.heap.size ≤ q → A q) (hT : ST G A s s.heap) {r : Md} : ∀ (n : Nat), ∀ (uP : Md) (x1 : Int32) (x2 : Int32) (x3 : Int32), fx_X5_putTimes_2 n uP x1 x2 x3 = some r → ∀ {H : Heap} {locs : List Loc}, va_P (gD G) vwCl (cP G bP uP) H → va_D A (cP G bP uP) → va_S A s.heap H locs → ∀ {ls : Array Slot}, lv_has ls 4 [(0, .ref (bP 0)), (1, .int x1), (2, .int x2), (3, .int x3)] → W p l e rmx_X5_putTimes s m args below meth c H locs 0 0 (MQ below (qW none (cP G bP r) (gD G) (tyG G) A) args s 0 0 A) (F0 m 2 ls []) := by
  have hx := C.1.1
  have hb := C.1.2.1
  have hts := C.1.2.2.2.2
  have hown := C.1.2.2.2.1
  have hin5 : ∀ w ∈ wsX50, w ∈ wsx_X5_putTimes := fun w h => List.mem_cons_of_mem _ (List.mem_append_right _ (List.mem_append_left _ h))
  intro n
  induction n with
  | zero =>
    intro uP x1 x2 x3 hf H locs hP hD hS ls hl
    cases hf
  | succ n ih =>
    intro uP x1 x2 x3 hf H locs hP hD hS ls hl
    rw [fx_X5_putTimes_2] at hf
    refine lv_iload_n hx hb dX5_putTimes_2 rfl (lv_at hl 3 rfl) ?_
    refine lv_iload_n hx hb dX5_putTimes_3 rfl (lv_at hl 2 rfl) ?_
    refine lv_icmp_ge (tgt := 18) hx hb dX5_putTimes_4 (by decide) (fun c_1 => ?_) (fun c_1 => ?_)
    · replace hf := og_t c_1 hf
      obtain rfl := og_s hf
      exact rw_v C hK hP hD hS dX5_putTimes_18
    · replace hf := og_f c_1 hf
      refine lv_aload_n hx hb dX5_putTimes_7 rfl (lv_at hl 0 rfl) ?_
      refine lv_iload_n hx hb dX5_putTimes_8 rfl (lv_at hl 1 rfl) ?_
      obtain ⟨u_3, h_2, hf⟩ := og_b hf
      try dsimp only at hf
      refine xw_V (ov := none) (st1 := []) (rest := []) (w0 := (cP G bP uP)) (w1 := (cP G bP u_3)) (wr := ([])) (w' := (cP G bP u_3)) C (cx_X5_put l G bP uP x1 u_3 _ h_2) (cwV 1 hts gx_X5_X5_put_20 rfl rfl rfl hdx_X5_put ⟨Nat.le_of_ble_eq_true rfl, Nat.le_of_ble_eq_true rfl⟩) hK hA hT hP hD hS (va_recv hK hP (ci := 2) (q0 := 0) rfl rfl) [0, 1] [] [0, 1] rfl rfl rfl rfl (by decide) rfl rfl rfl hl.1 rfl rfl (Nat.le_of_ble_eq_true rfl) dX5_putTimes_9 (fun H locs hP hD hS => ?_)
      refine lv_iinc (v := (x3 + (1 : Int32))) (lv' := [(3, .int (x3 + (1 : Int32))), (0, .ref (bP 0)), (1, .int x1), (2, .int x2)]) hx hb dX5_putTimes_12 hl (k := 3) rfl rfl (by decide) rfl (fun ls hl => ?_)
      refine lv_goto (tgt := 2) hx hb dX5_putTimes_15 (by decide) ?_
      exact ih u_3 x1 x2 (x3 + (1 : Int32)) hf hP hD hS (lv_sub hl [1, 2, 3, 0] rfl)
def fx_X5_putTimes (uP : Md) (x1 : Int32) (x2 : Int32) : Option Md := (fx_X5_putTimes_2 FU uP x1 x2 (0 : Int32))
set_option maxHeartbeats 4000000 in
set_option maxRecDepth 100000 in
theorem cx_X5_putTimes (l : Launch) (G : Gx) (bP : Nat → Nat) (uP : Md) (x1 : Int32) (x2 : Int32)  (vP : Md) (sz : Nat) (hf : fx_X5_putTimes uP x1 x2 = some vP) : Met l yX5_putTimes wsx_X5_putTimes rmx_X5_putTimes (pX G (cP G bP uP) sz [.ref (bP 0), .int x1, .int x2]) (qW none (cP G bP vP) (gD G) (tyG G) (va_A (cP G bP uP) sz)) 0 0 (va_A (cP G bP uP) sz) := by
  refine mx_w (cc := cX5_putTimes) (maxL := 4) (ret := none) (by decide) rfl (Nat.le_of_ble_eq_true rfl) ?_
  intro p e s m below meth c ls A C hl hK hA hT hP hD hS
  have hl : lv_has ls 4 [(0, .ref (bP 0)), (1, .int x1), (2, .int x2)] := hl
  have hx := C.1.1
  have hb := C.1.2.1
  have hts := C.1.2.2.2.2
  have hown := C.1.2.2.2.1
  have hin5 : ∀ w ∈ wsX50, w ∈ wsx_X5_putTimes := fun w h => List.mem_cons_of_mem _ (List.mem_append_right _ (List.mem_append_left _ h))
  unfold fx_X5_putTimes at hf
  refine lv_iconst (v := (0 : Int32)) hx hb dX5_putTimes_0 (by decide) ?_
  refine lv_istore_n (lv' := [(3, .int (0 : Int32)), (0, .ref (bP 0)), (1, .int x1), (2, .int x2)]) hx hb dX5_putTimes_1 rfl hl (by decide) rfl (fun ls hl => ?_)
  exact wx_X5_putTimes_2 C hK hA hT FU uP x1 x2 (0 : Int32) hf hP hD hS (lv_sub hl [1, 2, 3, 0] rfl)
theorem gx_X5_J0_length_24 {c0 : Cond} : GoodIn (c0 :: WAX) (wsV RX5 24 RJ0 yJ0_length_8abf5 wsx_J0_length) := gdx_v mx_268 mx_44 mx_45 mx_46 mx_47
theorem gx_X5_J0_charAt_30 {c0 : Cond} : GoodIn (c0 :: WAX) (wsV RX5 30 RJ0 yJ0_charAt_5068e wsx_J0_charAt) := gdx_v mx_269 mx_60 mx_61 mx_46 mx_62
abbrev rmx_X5_putTitle : Room := { frames := 4, cells := 0, slots := 0, locals := 85 }
noncomputable abbrev wsx_X5_putTitle : List Cond := Cond.code yX5_putTitle cX5_putTitle 3 none :: WAX
theorem hdx_X5_putTitle : yX5_putTitle.cls = RX5 ∧ yX5_putTitle.cls ≠ "java/lang/invoke/MethodHandle" ∧ yX5_putTitle.cls ≠ "java/lang/invoke/VarHandle" ∧ (parseMethodDescriptor yX5_putTitle.desc).map (fun d => d.parameters.length) = some 1 := by decide +kernel
def fx_X5_putTitle_2 : Nat → Md → (Fin 18) → Int32 → Option Md
  | 0, _, _, _ => none
  | n + 1, uP, x1, x2 => ((fx_J0_length x1).bind fun r_2 => (if r_2 ≤ x2 then (some uP) else ((fx_J0_charAt x1 x2).bind fun r_5 => ((fx_X5_put uP r_5).bind fun u_7 => (fx_X5_putTitle_2 n u_7 x1 (x2 + (1 : Int32)))))))
set_option maxHeartbeats 4000000 in
set_option maxRecDepth 100000 in
theorem wx_X5_putTitle_2 {p : Program} {l : Launch} {e : Env} {s : State} {m : MethodId} {args : Array Value} {below : List Frame} {meth : Method} {c : Code} {G : Gx} {A : Nat → Prop} {bP : Nat → Nat} (C : Cx p s m args meth c cX5_putTitle 3 wsx_X5_putTitle RX5 none) (hK : va_K (gD G) vwCl (tyG G) s) (hA : ∀ q : Nat, s.heap.size ≤ q → A q) (hT : ST G A s s.heap) {r : Md} : ∀ (n : Nat), ∀ (uP : Md) (x1 : (Fin 18)) (x2 : Int32), fx_X5_putTitle_2 n uP x1 x2 = some r → ∀ {H : Heap} {locs : List Loc}, va_P (gD G) vwCl (cP G bP uP) H → va_D A (cP G bP uP) → va_S A s.heap H locs → ∀ {ls : Array Slot}, lv_has ls 3 [(0, .ref (bP 0)), (1, .ref (gS G (x1).val)), (2, .int x2)] → W p l e rmx_X5_putTitle s m args below meth c H locs 0 0 (MQ below (qW none (cP G bP r) (gD G) (tyG G) A) args s 0 0 A) (F0 m 2 ls []) := by
  have hx := C.1.1
  have hb := C.1.2.1
  have hts := C.1.2.2.2.2
  have hown := C.1.2.2.2.1
  have hin5 : ∀ w ∈ wsX50, w ∈ wsx_X5_putTitle := fun w h => List.mem_cons_of_mem _ (List.mem_append_right _ (List.mem_append_left _ h))
  intro n
  induction n with
  | zero =>
    intro uP x1 x2 hf H locs hP hD hS ls hl
    cases hf
  | succ n ih =>
    intro uP x1 x2 hf H locs hP hD hS ls hl
    rw [fx_X5_putTitle_2] at hf
    refine lv_iload_n hx hb dX5_putTitle_2 rfl (lv_at hl 2 rfl) ?_
    refine lv_aload_n hx hb dX5_putTitle_3 rfl (lv_at hl 1 rfl) ?_
    obtain ⟨r_2, h_1, hf⟩ := og_b hf
    try dsimp only at hf
    refine xr_V (v := .int r_2) (rest := [.int x2]) (w0 := ([])) C (cx_J0_length l G x1 r_2 _ h_1) (cwV 0 hts gx_X5_J0_length_24 rfl rfl rfl hdx_J0_length ⟨Nat.le_of_ble_eq_true rfl, Nat.le_of_ble_eq_true rfl⟩) hK hA hT hP hD hS (vk_recv hT.1.2.2.2.2.2.2.2.2.2.1 (x1).isLt hS) [] rfl rfl rfl hl.1 rfl (Nat.le_of_ble_eq_true rfl) dX5_putTitle_4 ?_
    refine lv_icmp_ge (tgt := 25) hx hb dX5_putTitle_7 (by decide) (fun c_3 => ?_) (fun c_3 => ?_)
    · replace hf := og_t c_3 hf
      obtain rfl := og_s hf
      exact rw_v C hK hP hD hS dX5_putTitle_25
    · replace hf := og_f c_3 hf
      refine lv_aload_n hx hb dX5_putTitle_10 rfl (lv_at hl 0 rfl) ?_
      refine lv_aload_n hx hb dX5_putTitle_11 rfl (lv_at hl 1 rfl) ?_
      refine lv_iload_n hx hb dX5_putTitle_12 rfl (lv_at hl 2 rfl) ?_
      obtain ⟨r_5, h_4, hf⟩ := og_b hf
      try dsimp only at hf
      refine xr_V (v := .int r_5) (rest := [.ref (bP 0)]) (w0 := ([])) C (cx_J0_charAt l G x1 x2 r_5 _ h_4) (cwV 1 hts gx_X5_J0_charAt_30 rfl rfl rfl hdx_J0_charAt ⟨Nat.le_of_ble_eq_true rfl, Nat.le_of_ble_eq_true rfl⟩) hK hA hT hP hD hS (vk_recv hT.1.2.2.2.2.2.2.2.2.2.1 (x1).isLt hS) [] rfl rfl rfl hl.1 rfl (Nat.le_of_ble_eq_true rfl) dX5_putTitle_13 ?_
      obtain ⟨u_7, h_6, hf⟩ := og_b hf
      try dsimp only at hf
      refine xw_V (ov := none) (st1 := []) (rest := []) (w0 := (cP G bP uP)) (w1 := (cP G bP u_7)) (wr := ([])) (w' := (cP G bP u_7)) C (cx_X5_put l G bP uP r_5 u_7 _ h_6) (cwV 1 hts gx_X5_X5_put_20 rfl rfl rfl hdx_X5_put ⟨Nat.le_of_ble_eq_true rfl, Nat.le_of_ble_eq_true rfl⟩) hK hA hT hP hD hS (va_recv hK hP (ci := 2) (q0 := 0) rfl rfl) [0, 1] [] [0, 1] rfl rfl rfl rfl (by decide) rfl rfl rfl hl.1 rfl rfl (Nat.le_of_ble_eq_true rfl) dX5_putTitle_16 (fun H locs hP hD hS => ?_)
      refine lv_iinc (v := (x2 + (1 : Int32))) (lv' := [(2, .int (x2 + (1 : Int32))), (0, .ref (bP 0)), (1, .ref (gS G (x1).val))]) hx hb dX5_putTitle_19 hl (k := 2) rfl rfl (by decide) rfl (fun ls hl => ?_)
      refine lv_goto (tgt := 2) hx hb dX5_putTitle_22 (by decide) ?_
      exact ih u_7 x1 (x2 + (1 : Int32)) hf hP hD hS (lv_sub hl [1, 2, 0] rfl)
def fx_X5_putTitle (uP : Md) (x1 : (Fin 18)) : Option Md := (fx_X5_putTitle_2 FU uP x1 (0 : Int32))
set_option maxHeartbeats 4000000 in
set_option maxRecDepth 100000 in
theorem cx_X5_putTitle (l : Launch) (G : Gx) (bP : Nat → Nat) (uP : Md) (x1 : (Fin 18))  (vP : Md) (sz : Nat) (hf : fx_X5_putTitle uP x1 = some vP) : Met l yX5_putTitle wsx_X5_putTitle rmx_X5_putTitle (pX G (cP G bP uP) sz [.ref (bP 0), .ref (gS G (x1).val)]) (qW none (cP G bP vP) (gD G) (tyG G) (va_A (cP G bP uP) sz)) 0 0 (va_A (cP G bP uP) sz) := by
  refine mx_w (cc := cX5_putTitle) (maxL := 3) (ret := none) (by decide) rfl (Nat.le_of_ble_eq_true rfl) ?_
  intro p e s m below meth c ls A C hl hK hA hT hP hD hS
  have hl : lv_has ls 3 [(0, .ref (bP 0)), (1, .ref (gS G (x1).val))] := hl
  have hx := C.1.1
  have hb := C.1.2.1
  have hts := C.1.2.2.2.2
  have hown := C.1.2.2.2.1
  have hin5 : ∀ w ∈ wsX50, w ∈ wsx_X5_putTitle := fun w h => List.mem_cons_of_mem _ (List.mem_append_right _ (List.mem_append_left _ h))
  unfold fx_X5_putTitle at hf
  refine lv_iconst (v := (0 : Int32)) hx hb dX5_putTitle_0 (by decide) ?_
  refine lv_istore_n (lv' := [(2, .int (0 : Int32)), (0, .ref (bP 0)), (1, .ref (gS G (x1).val))]) hx hb dX5_putTitle_1 rfl hl (by decide) rfl (fun ls hl => ?_)
  exact wx_X5_putTitle_2 C hK hA hT FU uP x1 (0 : Int32) hf hP hD hS (lv_sub hl [1, 2, 0] rfl)
abbrev rmx_X5_putWhole : Room := { frames := 1, cells := 0, slots := 0, locals := 21 }
noncomputable abbrev wsx_X5_putWhole : List Cond := Cond.code yX5_putWhole cX5_putWhole 5 none :: WAX
theorem hdx_X5_putWhole : yX5_putWhole.cls = RX5 ∧ yX5_putWhole.cls ≠ "java/lang/invoke/MethodHandle" ∧ yX5_putWhole.cls ≠ "java/lang/invoke/VarHandle" ∧ (parseMethodDescriptor yX5_putWhole.desc).map (fun d => d.parameters.length) = some 1 := by decide +kernel
def fx_X5_putWhole_43 (k6 : Md → Int32 → Int32 → Int32 → Option Md) (uP : Md) (x1 : Int32) (x2 : Int32) (x3 : Int32) : Option Md := (k6 uP x1 x2 (x3 / (10 : Int32)))
set_option maxHeartbeats 4000000 in
set_option maxRecDepth 100000 in
theorem wx_X5_putWhole_43 {p : Program} {l : Launch} {e : Env} {s : State} {m : MethodId} {args : Array Value} {below : List Frame} {meth : Method} {c : Code} {G : Gx} {A : Nat → Prop} {bP : Nat → Nat} (C : Cx p s m args meth c cX5_putWhole 5 wsx_X5_putWhole RX5 none) (hK : va_K (gD G) vwCl (tyG G) s) (hA : ∀ q : Nat, s.heap.size ≤ q → A q) (hT : ST G A s s.heap) {r : Md} (k6 : Md → Int32 → Int32 → Int32 → Option Md) (ih6 : ∀ (uP : Md) (x1 : Int32) (x2 : Int32) (x3 : Int32), k6 uP x1 x2 x3 = some r → ∀ {H : Heap} {locs : List Loc}, va_P (gD G) vwCl (cP G bP uP) H → va_D A (cP G bP uP) → va_S A s.heap H locs → ∀ {ls : Array Slot}, lv_has ls 5 [(0, .ref (bP 0)), (1, .int x1), (2, .int x2), (3, .int x3)] → W p l e rmx_X5_putWhole s m args below meth c H locs 0 0 (MQ below (qW none (cP G bP r) (gD G) (tyG G) A) args s 0 0 A) (F0 m 6 ls [])) : ∀ (uP : Md) (x1 : Int32) (x2 : Int32) (x3 : Int32), fx_X5_putWhole_43 k6 uP x1 x2 x3 = some r → ∀ {H : Heap} {locs : List Loc}, va_P (gD G) vwCl (cP G bP uP) H → va_D A (cP G bP uP) → va_S A s.heap H locs → ∀ {ls : Array Slot}, lv_has ls 5 [(0, .ref (bP 0)), (1, .int x1), (2, .int x2), (3, .int x3)] → W p l e rmx_X5_putWhole s m args below meth c H locs 0 0 (MQ below (qW none (cP G bP r) (gD G) (tyG G) A) args s 0 0 A) (F0 m 43 ls []) := by
  have hx := C.1.1
  have hb := C.1.2.1
  have hts := C.1.2.2.2.2
  have hown := C.1.2.2.2.1
  have hin5 : ∀ w ∈ wsX50, w ∈ wsx_X5_putWhole := fun w h => List.mem_cons_of_mem _ (List.mem_append_right _ (List.mem_append_left _ h))
  intro uP x1 x2 x3 hf H locs hP hD hS ls hl
  unfold fx_X5_putWhole_43 at hf
  refine lv_iload_n hx hb dX5_putWhole_43 rfl (lv_at hl 3 rfl) ?_
  refine lv_bipush (v := (10 : Int32)) hx hb dX5_putWhole_44 (by decide) ?_
  refine lv_idiv hx hb dX5_putWhole_46 (by decide) ?_
  refine lv_istore_n (lv' := [(3, .int (x3 / (10 : Int32))), (0, .ref (bP 0)), (1, .int x1), (2, .int x2)]) hx hb dX5_putWhole_47 rfl hl (by decide) rfl (fun ls hl => ?_)
  refine lv_goto (tgt := 6) hx hb dX5_putWhole_48 (by decide) ?_
  exact ih6 uP x1 x2 (x3 / (10 : Int32)) hf hP hD hS (lv_sub hl [1, 2, 3, 0] rfl)
def fx_X5_putWhole_32 (k6 : Md → Int32 → Int32 → Int32 → Option Md) (uP : Md) (x1 : Int32) (x3 : Int32) (x4 : Int32) : Option Md := ((fx_X5_put uP ((48 : Int32) + x4)).bind fun u_7 => (fx_X5_putWhole_43 k6 u_7 x1 (1 : Int32) x3))
set_option maxHeartbeats 4000000 in
set_option maxRecDepth 100000 in
theorem wx_X5_putWhole_32 {p : Program} {l : Launch} {e : Env} {s : State} {m : MethodId} {args : Array Value} {below : List Frame} {meth : Method} {c : Code} {G : Gx} {A : Nat → Prop} {bP : Nat → Nat} (C : Cx p s m args meth c cX5_putWhole 5 wsx_X5_putWhole RX5 none) (hK : va_K (gD G) vwCl (tyG G) s) (hA : ∀ q : Nat, s.heap.size ≤ q → A q) (hT : ST G A s s.heap) {r : Md} (k6 : Md → Int32 → Int32 → Int32 → Option Md) (ih6 : ∀ (uP : Md) (x1 : Int32) (x2 : Int32) (x3 : Int32), k6 uP x1 x2 x3 = some r → ∀ {H : Heap} {locs : List Loc}, va_P (gD G) vwCl (cP G bP uP) H → va_D A (cP G bP uP) → va_S A s.heap H locs → ∀ {ls : Array Slot}, lv_has ls 5 [(0, .ref (bP 0)), (1, .int x1), (2, .int x2), (3, .int x3)] → W p l e rmx_X5_putWhole s m args below meth c H locs 0 0 (MQ below (qW none (cP G bP r) (gD G) (tyG G) A) args s 0 0 A) (F0 m 6 ls [])) : ∀ (uP : Md) (x1 : Int32) (x3 : Int32) (x4 : Int32), fx_X5_putWhole_32 k6 uP x1 x3 x4 = some r → ∀ {H : Heap} {locs : List Loc}, va_P (gD G) vwCl (cP G bP uP) H → va_D A (cP G bP uP) → va_S A s.heap H locs → ∀ {ls : Array Slot}, lv_has ls 5 [(0, .ref (bP 0)), (1, .int x1), (3, .int x3), (4, .int x4)] → W p l e rmx_X5_putWhole s m args below meth c H locs 0 0 (MQ below (qW none (cP G bP r) (gD G) (tyG G) A) args s 0 0 A) (F0 m 32 ls []) := by
  have hx := C.1.1
  have hb := C.1.2.1
  have hts := C.1.2.2.2.2
  have hown := C.1.2.2.2.1
  have hin5 : ∀ w ∈ wsX50, w ∈ wsx_X5_putWhole := fun w h => List.mem_cons_of_mem _ (List.mem_append_right _ (List.mem_append_left _ h))
  intro uP x1 x3 x4 hf H locs hP hD hS ls hl
  unfold fx_X5_putWhole_32 at hf
  refine lv_aload_n hx hb dX5_putWhole_32 rfl (lv_at hl 0 rfl) ?_
  refine lv_bipush (v := (48 : Int32)) hx hb dX5_putWhole_33 (by decide) ?_
  refine lv_iload hx hb dX5_putWhole_35 (lv_at hl 3 rfl) ?_
  refine lv_iadd hx hb dX5_putWhole_37 ?_
  obtain ⟨u_7, h_6, hf⟩ := og_b hf
  try dsimp only at hf
  refine xw_V (ov := none) (st1 := []) (rest := []) (w0 := (cP G bP uP)) (w1 := (cP G bP u_7)) (wr := ([])) (w' := (cP G bP u_7)) C (cx_X5_put l G bP uP ((48 : Int32) + x4) u_7 _ h_6) (cwV 1 hts gx_X5_X5_put_20 rfl rfl rfl hdx_X5_put ⟨Nat.le_of_ble_eq_true rfl, Nat.le_of_ble_eq_true rfl⟩) hK hA hT hP hD hS (va_recv hK hP (ci := 2) (q0 := 0) rfl rfl) [0, 1] [] [0, 1] rfl rfl rfl rfl (by decide) rfl rfl rfl hl.1 rfl rfl (Nat.le_of_ble_eq_true rfl) dX5_putWhole_38 (fun H locs hP hD hS => ?_)
  refine lv_iconst (v := (1 : Int32)) hx hb dX5_putWhole_41 (by decide) ?_
  refine lv_istore_n (lv' := [(2, .int (1 : Int32)), (0, .ref (bP 0)), (1, .int x1), (3, .int x3), (4, .int x4)]) hx hb dX5_putWhole_42 rfl hl (by decide) rfl (fun ls hl => ?_)
  exact wx_X5_putWhole_43 C hK hA hT k6 (fun _ _ _ _ h9 => ih6 _ _ _ _ h9) u_7 x1 (1 : Int32) x3 hf hP hD hS (lv_sub hl [1, 2, 0, 3] rfl)
def fx_X5_putWhole_6 : Nat → Md → Int32 → Int32 → Int32 → Option Md
  | 0, _, _, _, _ => none
  | n + 1, uP, x1, x2, x3 => (if x3 ≤ 0 then (some uP) else (if x3 = 0 then none else (if x2 = 0 then (if 0 < ((x1 / x3) - (x1 / x3) / (10 : Int32) * (10 : Int32)) then (fx_X5_putWhole_32 (fx_X5_putWhole_6 n) uP x1 x3 ((x1 / x3) - (x1 / x3) / (10 : Int32) * (10 : Int32))) else (if x3 = (1 : Int32) then (fx_X5_putWhole_32 (fx_X5_putWhole_6 n) uP x1 x3 ((x1 / x3) - (x1 / x3) / (10 : Int32) * (10 : Int32))) else (fx_X5_putWhole_43 (fx_X5_putWhole_6 n) uP x1 x2 x3))) else (fx_X5_putWhole_32 (fx_X5_putWhole_6 n) uP x1 x3 ((x1 / x3) - (x1 / x3) / (10 : Int32) * (10 : Int32))))))
set_option maxHeartbeats 4000000 in
set_option maxRecDepth 100000 in
theorem wx_X5_putWhole_6 {p : Program} {l : Launch} {e : Env} {s : State} {m : MethodId} {args : Array Value} {below : List Frame} {meth : Method} {c : Code} {G : Gx} {A : Nat → Prop} {bP : Nat → Nat} (C : Cx p s m args meth c cX5_putWhole 5 wsx_X5_putWhole RX5 none) (hK : va_K (gD G) vwCl (tyG G) s) (hA : ∀ q : Nat, s.heap.size ≤ q → A q) (hT : ST G A s s.heap) {r : Md} : ∀ (n : Nat), ∀ (uP : Md) (x1 : Int32) (x2 : Int32) (x3 : Int32), fx_X5_putWhole_6 n uP x1 x2 x3 = some r → ∀ {H : Heap} {locs : List Loc}, va_P (gD G) vwCl (cP G bP uP) H → va_D A (cP G bP uP) → va_S A s.heap H locs → ∀ {ls : Array Slot}, lv_has ls 5 [(0, .ref (bP 0)), (1, .int x1), (2, .int x2), (3, .int x3)] → W p l e rmx_X5_putWhole s m args below meth c H locs 0 0 (MQ below (qW none (cP G bP r) (gD G) (tyG G) A) args s 0 0 A) (F0 m 6 ls []) := by
  have hx := C.1.1
  have hb := C.1.2.1
  have hts := C.1.2.2.2.2
  have hown := C.1.2.2.2.1
  have hin5 : ∀ w ∈ wsX50, w ∈ wsx_X5_putWhole := fun w h => List.mem_cons_of_mem _ (List.mem_append_right _ (List.mem_append_left _ h))
  intro n
  induction n with
  | zero =>
    intro uP x1 x2 x3 hf H locs hP hD hS ls hl
    cases hf
  | succ n ih =>
    intro uP x1 x2 x3 hf H locs hP hD hS ls hl
    rw [fx_X5_putWhole_6] at hf
    refine lv_iload_n hx hb dX5_putWhole_6 rfl (lv_at hl 3 rfl) ?_
    refine lv_if_le (tgt := 51) hx hb dX5_putWhole_7 (by decide) (fun c_1 => ?_) (fun c_1 => ?_)
    · replace hf := og_t c_1 hf
      obtain rfl := og_s hf
      exact rw_v C hK hP hD hS dX5_putWhole_51
    · replace hf := og_f c_1 hf
      refine lv_iload_n hx hb dX5_putWhole_10 rfl (lv_at hl 1 rfl) ?_
      refine lv_iload_n hx hb dX5_putWhole_11 rfl (lv_at hl 3 rfl) ?_
      obtain ⟨h_2, hf⟩ := og_n hf
      refine lv_idiv hx hb dX5_putWhole_12 h_2 ?_
      refine lv_bipush (v := (10 : Int32)) hx hb dX5_putWhole_13 (by decide) ?_
      refine lv_irem hx hb dX5_putWhole_15 (by decide) ?_
      refine lv_istore (lv' := [(4, .int ((x1 / x3) - (x1 / x3) / (10 : Int32) * (10 : Int32))), (0, .ref (bP 0)), (1, .int x1), (2, .int x2), (3, .int x3)]) hx hb dX5_putWhole_16 hl (by decide) rfl (fun ls hl => ?_)
      refine lv_iload_n hx hb dX5_putWhole_18 rfl (lv_at hl 3 rfl) ?_
      refine lv_if_ne (tgt := 32) hx hb dX5_putWhole_19 (by decide) (fun c_3 => ?_) (fun c_3 => ?_)
      · replace hf := og_f c_3 hf
        exact wx_X5_putWhole_32 C hK hA hT (fx_X5_putWhole_6 n) (fun _ _ _ _ h9 => ih _ _ _ _ h9) uP x1 x3 ((x1 / x3) - (x1 / x3) / (10 : Int32) * (10 : Int32)) hf hP hD hS (lv_sub hl [1, 2, 4, 0] rfl)
      · replace hf := og_t c_3 hf
        refine lv_iload hx hb dX5_putWhole_22 (lv_at hl 0 rfl) ?_
        refine lv_if_gt (tgt := 32) hx hb dX5_putWhole_24 (by decide) (fun c_4 => ?_) (fun c_4 => ?_)
        · replace hf := og_t c_4 hf
          exact wx_X5_putWhole_32 C hK hA hT (fx_X5_putWhole_6 n) (fun _ _ _ _ h9 => ih _ _ _ _ h9) uP x1 x3 ((x1 / x3) - (x1 / x3) / (10 : Int32) * (10 : Int32)) hf hP hD hS (lv_sub hl [1, 2, 4, 0] rfl)
        · replace hf := og_f c_4 hf
          refine lv_iload_n hx hb dX5_putWhole_27 rfl (lv_at hl 4 rfl) ?_
          refine lv_iconst (v := (1 : Int32)) hx hb dX5_putWhole_28 (by decide) ?_
          refine lv_icmp_ne (tgt := 43) hx hb dX5_putWhole_29 (by decide) (fun c_5 => ?_) (fun c_5 => ?_)
          · replace hf := og_f c_5 hf
            exact wx_X5_putWhole_43 C hK hA hT (fx_X5_putWhole_6 n) (fun _ _ _ _ h9 => ih _ _ _ _ h9) uP x1 x2 x3 hf hP hD hS (lv_sub hl [1, 2, 3, 4] rfl)
          · replace hf := og_t c_5 hf
            exact wx_X5_putWhole_32 C hK hA hT (fx_X5_putWhole_6 n) (fun _ _ _ _ h9 => ih _ _ _ _ h9) uP x1 x3 ((x1 / x3) - (x1 / x3) / (10 : Int32) * (10 : Int32)) hf hP hD hS (lv_sub hl [1, 2, 4, 0] rfl)
def fx_X5_putWhole (uP : Md) (x1 : Int32) : Option Md := (fx_X5_putWhole_6 FU uP x1 (0 : Int32) (1000 : Int32))
set_option maxHeartbeats 4000000 in
set_option maxRecDepth 100000 in
theorem cx_X5_putWhole (l : Launch) (G : Gx) (bP : Nat → Nat) (uP : Md) (x1 : Int32)  (vP : Md) (sz : Nat) (hf : fx_X5_putWhole uP x1 = some vP) : Met l yX5_putWhole wsx_X5_putWhole rmx_X5_putWhole (pX G (cP G bP uP) sz [.ref (bP 0), .int x1]) (qW none (cP G bP vP) (gD G) (tyG G) (va_A (cP G bP uP) sz)) 0 0 (va_A (cP G bP uP) sz) := by
  refine mx_w (cc := cX5_putWhole) (maxL := 5) (ret := none) (by decide) rfl (Nat.le_of_ble_eq_true rfl) ?_
  intro p e s m below meth c ls A C hl hK hA hT hP hD hS
  have hl : lv_has ls 5 [(0, .ref (bP 0)), (1, .int x1)] := hl
  have hx := C.1.1
  have hb := C.1.2.1
  have hts := C.1.2.2.2.2
  have hown := C.1.2.2.2.1
  have hin5 : ∀ w ∈ wsX50, w ∈ wsx_X5_putWhole := fun w h => List.mem_cons_of_mem _ (List.mem_append_right _ (List.mem_append_left _ h))
  unfold fx_X5_putWhole at hf
  refine lv_iconst (v := (0 : Int32)) hx hb dX5_putWhole_0 (by decide) ?_
  refine lv_istore_n (lv' := [(2, .int (0 : Int32)), (0, .ref (bP 0)), (1, .int x1)]) hx hb dX5_putWhole_1 rfl hl (by decide) rfl (fun ls hl => ?_)
  refine lv_sipush (v := (1000 : Int32)) hx hb dX5_putWhole_2 (by decide) ?_
  refine lv_istore_n (lv' := [(3, .int (1000 : Int32)), (2, .int (0 : Int32)), (0, .ref (bP 0)), (1, .int x1)]) hx hb dX5_putWhole_5 rfl hl (by decide) rfl (fun ls hl => ?_)
  exact wx_X5_putWhole_6 C hK hA hT FU uP x1 (0 : Int32) (1000 : Int32) hf hP hD hS (lv_sub hl [2, 3, 1, 0] rfl)
abbrev rmx_X5_putPoint : Room := { frames := 1, cells := 0, slots := 0, locals := 21 }
noncomputable abbrev wsx_X5_putPoint : List Cond := Cond.code yX5_putPoint cX5_putPoint 4 none :: WAX
theorem hdx_X5_putPoint : yX5_putPoint.cls = RX5 ∧ yX5_putPoint.cls ≠ "java/lang/invoke/MethodHandle" ∧ yX5_putPoint.cls ≠ "java/lang/invoke/VarHandle" ∧ (parseMethodDescriptor yX5_putPoint.desc).map (fun d => d.parameters.length) = some 1 := by decide +kernel
def fx_X5_putPoint_15 : Nat → Md → Int32 → Int32 → Option Md
  | 0, _, _, _ => none
  | n + 1, uP, x2, x3 => (if x3 ≤ 0 then (some uP) else (if x2 ≤ 0 then (some uP) else (if x3 = 0 then none else ((fx_X5_put uP ((48 : Int32) + (x2 / x3))).bind fun u_8 => (if x3 = 0 then none else (fx_X5_putPoint_15 n u_8 (x2 - x2 / x3 * x3) (x3 / (10 : Int32))))))))
set_option maxHeartbeats 4000000 in
set_option maxRecDepth 100000 in
theorem wx_X5_putPoint_15 {p : Program} {l : Launch} {e : Env} {s : State} {m : MethodId} {args : Array Value} {below : List Frame} {meth : Method} {c : Code} {G : Gx} {A : Nat → Prop} {bP : Nat → Nat} (C : Cx p s m args meth c cX5_putPoint 4 wsx_X5_putPoint RX5 none) (hK : va_K (gD G) vwCl (tyG G) s) (hA : ∀ q : Nat, s.heap.size ≤ q → A q) (hT : ST G A s s.heap) {r : Md} : ∀ (n : Nat), ∀ (uP : Md) (x2 : Int32) (x3 : Int32), fx_X5_putPoint_15 n uP x2 x3 = some r → ∀ {H : Heap} {locs : List Loc}, va_P (gD G) vwCl (cP G bP uP) H → va_D A (cP G bP uP) → va_S A s.heap H locs → ∀ {ls : Array Slot}, lv_has ls 4 [(0, .ref (bP 0)), (2, .int x2), (3, .int x3)] → W p l e rmx_X5_putPoint s m args below meth c H locs 0 0 (MQ below (qW none (cP G bP r) (gD G) (tyG G) A) args s 0 0 A) (F0 m 15 ls []) := by
  have hx := C.1.1
  have hb := C.1.2.1
  have hts := C.1.2.2.2.2
  have hown := C.1.2.2.2.1
  have hin5 : ∀ w ∈ wsX50, w ∈ wsx_X5_putPoint := fun w h => List.mem_cons_of_mem _ (List.mem_append_right _ (List.mem_append_left _ h))
  intro n
  induction n with
  | zero =>
    intro uP x2 x3 hf H locs hP hD hS ls hl
    cases hf
  | succ n ih =>
    intro uP x2 x3 hf H locs hP hD hS ls hl
    rw [fx_X5_putPoint_15] at hf
    refine lv_iload_n hx hb dX5_putPoint_15 rfl (lv_at hl 2 rfl) ?_
    refine lv_if_le (tgt := 45) hx hb dX5_putPoint_16 (by decide) (fun c_4 => ?_) (fun c_4 => ?_)
    · replace hf := og_t c_4 hf
      obtain rfl := og_s hf
      exact rw_v C hK hP hD hS dX5_putPoint_45
    · replace hf := og_f c_4 hf
      refine lv_iload_n hx hb dX5_putPoint_19 rfl (lv_at hl 1 rfl) ?_
      refine lv_if_le (tgt := 45) hx hb dX5_putPoint_20 (by decide) (fun c_5 => ?_) (fun c_5 => ?_)
      · replace hf := og_t c_5 hf
        obtain rfl := og_s hf
        exact rw_v C hK hP hD hS dX5_putPoint_45
      · replace hf := og_f c_5 hf
        refine lv_aload_n hx hb dX5_putPoint_23 rfl (lv_at hl 0 rfl) ?_
        refine lv_bipush (v := (48 : Int32)) hx hb dX5_putPoint_24 (by decide) ?_
        refine lv_iload_n hx hb dX5_putPoint_26 rfl (lv_at hl 1 rfl) ?_
        refine lv_iload_n hx hb dX5_putPoint_27 rfl (lv_at hl 2 rfl) ?_
        obtain ⟨h_6, hf⟩ := og_n hf
        refine lv_idiv hx hb dX5_putPoint_28 h_6 ?_
        refine lv_iadd hx hb dX5_putPoint_29 ?_
        obtain ⟨u_8, h_7, hf⟩ := og_b hf
        try dsimp only at hf
        refine xw_V (ov := none) (st1 := []) (rest := []) (w0 := (cP G bP uP)) (w1 := (cP G bP u_8)) (wr := ([])) (w' := (cP G bP u_8)) C (cx_X5_put l G bP uP ((48 : Int32) + (x2 / x3)) u_8 _ h_7) (cwV 1 hts gx_X5_X5_put_20 rfl rfl rfl hdx_X5_put ⟨Nat.le_of_ble_eq_true rfl, Nat.le_of_ble_eq_true rfl⟩) hK hA hT hP hD hS (va_recv hK hP (ci := 2) (q0 := 0) rfl rfl) [0, 1] [] [0, 1] rfl rfl rfl rfl (by decide) rfl rfl rfl hl.1 rfl rfl (Nat.le_of_ble_eq_true rfl) dX5_putPoint_30 (fun H locs hP hD hS => ?_)
        refine lv_iload_n hx hb dX5_putPoint_33 rfl (lv_at hl 1 rfl) ?_
        refine lv_iload_n hx hb dX5_putPoint_34 rfl (lv_at hl 2 rfl) ?_
        obtain ⟨h_9, hf⟩ := og_n hf
        refine lv_irem hx hb dX5_putPoint_35 h_9 ?_
        refine lv_istore_n (lv' := [(2, .int (x2 - x2 / x3 * x3)), (0, .ref (bP 0)), (3, .int x3)]) hx hb dX5_putPoint_36 rfl hl (by decide) rfl (fun ls hl => ?_)
        refine lv_iload_n hx hb dX5_putPoint_37 rfl (lv_at hl 2 rfl) ?_
        refine lv_bipush (v := (10 : Int32)) hx hb dX5_putPoint_38 (by decide) ?_
        refine lv_idiv hx hb dX5_putPoint_40 (by decide) ?_
        refine lv_istore_n (lv' := [(3, .int (x3 / (10 : Int32))), (2, .int (x2 - x2 / x3 * x3)), (0, .ref (bP 0))]) hx hb dX5_putPoint_41 rfl hl (by decide) rfl (fun ls hl => ?_)
        refine lv_goto (tgt := 15) hx hb dX5_putPoint_42 (by decide) ?_
        exact ih u_8 (x2 - x2 / x3 * x3) (x3 / (10 : Int32)) hf hP hD hS (lv_sub hl [2, 1, 0] rfl)
def fx_X5_putPoint_12 (uP : Md) (x2 : Int32) : Option Md := (fx_X5_putPoint_15 FU uP x2 (100000 : Int32))
set_option maxHeartbeats 4000000 in
set_option maxRecDepth 100000 in
theorem wx_X5_putPoint_12 {p : Program} {l : Launch} {e : Env} {s : State} {m : MethodId} {args : Array Value} {below : List Frame} {meth : Method} {c : Code} {G : Gx} {A : Nat → Prop} {bP : Nat → Nat} (C : Cx p s m args meth c cX5_putPoint 4 wsx_X5_putPoint RX5 none) (hK : va_K (gD G) vwCl (tyG G) s) (hA : ∀ q : Nat, s.heap.size ≤ q → A q) (hT : ST G A s s.heap) {r : Md} : ∀ (uP : Md) (x2 : Int32), fx_X5_putPoint_12 uP x2 = some r → ∀ {H : Heap} {locs : List Loc}, va_P (gD G) vwCl (cP G bP uP) H → va_D A (cP G bP uP) → va_S A s.heap H locs → ∀ {ls : Array Slot}, lv_has ls 4 [(0, .ref (bP 0)), (2, .int x2)] → W p l e rmx_X5_putPoint s m args below meth c H locs 0 0 (MQ below (qW none (cP G bP r) (gD G) (tyG G) A) args s 0 0 A) (F0 m 12 ls []) := by
  have hx := C.1.1
  have hb := C.1.2.1
  have hts := C.1.2.2.2.2
  have hown := C.1.2.2.2.1
  have hin5 : ∀ w ∈ wsX50, w ∈ wsx_X5_putPoint := fun w h => List.mem_cons_of_mem _ (List.mem_append_right _ (List.mem_append_left _ h))
  intro uP x2 hf H locs hP hD hS ls hl
  unfold fx_X5_putPoint_12 at hf
  refine lv_ldc (v := (100000 : Int32)) hx hb hown (hts (Cond.constant RX5 54 (100000)) (List.mem_cons_of_mem _ mx_295)) dX5_putPoint_12 ?_
  refine lv_istore_n (lv' := [(3, .int (100000 : Int32)), (0, .ref (bP 0)), (2, .int x2)]) hx hb dX5_putPoint_14 rfl hl (by decide) rfl (fun ls hl => ?_)
  exact wx_X5_putPoint_15 C hK hA hT FU uP x2 (100000 : Int32) hf hP hD hS (lv_sub hl [1, 2, 0] rfl)
def fx_X5_putPoint (uP : Md) (x1 : Int32) : Option Md := (if x1 ≤ 0 then (fx_X5_putPoint_12 uP x1) else ((fx_X5_put uP (46 : Int32)).bind fun u_3 => (fx_X5_putPoint_12 u_3 x1)))
set_option maxHeartbeats 4000000 in
set_option maxRecDepth 100000 in
theorem cx_X5_putPoint (l : Launch) (G : Gx) (bP : Nat → Nat) (uP : Md) (x1 : Int32)  (vP : Md) (sz : Nat) (hf : fx_X5_putPoint uP x1 = some vP) : Met l yX5_putPoint wsx_X5_putPoint rmx_X5_putPoint (pX G (cP G bP uP) sz [.ref (bP 0), .int x1]) (qW none (cP G bP vP) (gD G) (tyG G) (va_A (cP G bP uP) sz)) 0 0 (va_A (cP G bP uP) sz) := by
  refine mx_w (cc := cX5_putPoint) (maxL := 4) (ret := none) (by decide) rfl (Nat.le_of_ble_eq_true rfl) ?_
  intro p e s m below meth c ls A C hl hK hA hT hP hD hS
  have hl : lv_has ls 4 [(0, .ref (bP 0)), (1, .int x1)] := hl
  have hx := C.1.1
  have hb := C.1.2.1
  have hts := C.1.2.2.2.2
  have hown := C.1.2.2.2.1
  have hin5 : ∀ w ∈ wsX50, w ∈ wsx_X5_putPoint := fun w h => List.mem_cons_of_mem _ (List.mem_append_right _ (List.mem_append_left _ h))
  unfold fx_X5_putPoint at hf
  refine lv_iload_n hx hb dX5_putPoint_0 rfl (lv_at hl 1 rfl) ?_
  refine lv_istore_n (lv' := [(2, .int x1), (0, .ref (bP 0)), (1, .int x1)]) hx hb dX5_putPoint_1 rfl hl (by decide) rfl (fun ls hl => ?_)
  refine lv_iload_n hx hb dX5_putPoint_2 rfl (lv_at hl 0 rfl) ?_
  refine lv_if_le (tgt := 12) hx hb dX5_putPoint_3 (by decide) (fun c_1 => ?_) (fun c_1 => ?_)
  · replace hf := og_t c_1 hf
    exact wx_X5_putPoint_12 C hK hA hT uP x1 hf hP hD hS (lv_sub hl [1, 0] rfl)
  · replace hf := og_f c_1 hf
    refine lv_aload_n hx hb dX5_putPoint_6 rfl (lv_at hl 1 rfl) ?_
    refine lv_bipush (v := (46 : Int32)) hx hb dX5_putPoint_7 (by decide) ?_
    obtain ⟨u_3, h_2, hf⟩ := og_b hf
    try dsimp only at hf
    refine xw_V (ov := none) (st1 := []) (rest := []) (w0 := (cP G bP uP)) (w1 := (cP G bP u_3)) (wr := ([])) (w' := (cP G bP u_3)) C (cx_X5_put l G bP uP (46 : Int32) u_3 _ h_2) (cwV 1 hts gx_X5_X5_put_20 rfl rfl rfl hdx_X5_put ⟨Nat.le_of_ble_eq_true rfl, Nat.le_of_ble_eq_true rfl⟩) hK hA hT hP hD hS (va_recv hK hP (ci := 2) (q0 := 0) rfl rfl) [0, 1] [] [0, 1] rfl rfl rfl rfl (by decide) rfl rfl rfl hl.1 rfl rfl (Nat.le_of_ble_eq_true rfl) dX5_putPoint_9 (fun H locs hP hD hS => ?_)
    exact wx_X5_putPoint_12 C hK hA hT u_3 x1 hf hP hD hS (lv_sub hl [1, 0] rfl)
theorem gx_X5_X0_isLength_40 {c0 : Cond} : GoodIn (c0 :: WAX) (wsV RX5 40 RX0 yX0_isLength wsx_X0_isLength) := gdx_v mx_286 mx_229 mx_230 mx_165 mx_10
theorem gx_X5_X5_putWhole_48 {c0 : Cond} : GoodIn (c0 :: WAX) (wsV RX5 48 RX5 yX5_putWhole wsx_X5_putWhole) := gdx_v mx_287 mx_288 mx_289 mx_266 mx_290
theorem gx_X5_X5_putPoint_51 {c0 : Cond} : GoodIn (c0 :: WAX) (wsV RX5 51 RX5 yX5_putPoint wsx_X5_putPoint) := gdx_v mx_291 mx_292 mx_293 mx_266 mx_294
abbrev rmx_X5_putNumber : Room := { frames := 2, cells := 0, slots := 0, locals := 45 }
noncomputable abbrev wsx_X5_putNumber : List Cond := Cond.code yX5_putNumber cX5_putNumber 6 none :: WAX
theorem hdx_X5_putNumber : yX5_putNumber.cls = RX5 ∧ yX5_putNumber.cls ≠ "java/lang/invoke/MethodHandle" ∧ yX5_putNumber.cls ≠ "java/lang/invoke/VarHandle" ∧ (parseMethodDescriptor yX5_putNumber.desc).map (fun d => d.parameters.length) = some 2 := by decide +kernel
def fx_X5_putNumber_12 (uP : Md) (x1 : (Fin 8)) (x2 : Int64) : Option Md := ((fx_X0_isLength x1).bind fun r_5 => (if r_5 = 0 then ((fx_X5_putWhole uP ((if 0 < x2 then x2 else -x2)).toInt32).bind fun u_8 => (some u_8)) else ((fx_X5_putWhole uP (((if 0 < x2 then x2 else -x2) / (1000000 : Int64))).toInt32).bind fun u_10 => ((fx_X5_putPoint u_10 (((if 0 < x2 then x2 else -x2) - (if 0 < x2 then x2 else -x2) / (1000000 : Int64) * (1000000 : Int64))).toInt32).bind fun u_12 => (some u_12)))))
set_option maxHeartbeats 4000000 in
set_option maxRecDepth 100000 in
theorem wx_X5_putNumber_12 {p : Program} {l : Launch} {e : Env} {s : State} {m : MethodId} {args : Array Value} {below : List Frame} {meth : Method} {c : Code} {G : Gx} {A : Nat → Prop} {bP : Nat → Nat} (C : Cx p s m args meth c cX5_putNumber 6 wsx_X5_putNumber RX5 none) (hK : va_K (gD G) vwCl (tyG G) s) (hA : ∀ q : Nat, s.heap.size ≤ q → A q) (hT : ST G A s s.heap) {r : Md} : ∀ (uP : Md) (x1 : (Fin 8)) (x2 : Int64), fx_X5_putNumber_12 uP x1 x2 = some r → ∀ {H : Heap} {locs : List Loc}, va_P (gD G) vwCl (cP G bP uP) H → va_D A (cP G bP uP) → va_S A s.heap H locs → ∀ {ls : Array Slot}, lv_has ls 6 [(0, .ref (bP 0)), (1, .ref (gF G (x1).val)), (2, .long x2)] → W p l e rmx_X5_putNumber s m args below meth c H locs 0 0 (MQ below (qW none (cP G bP r) (gD G) (tyG G) A) args s 0 0 A) (F0 m 12 ls []) := by
  have hx := C.1.1
  have hb := C.1.2.1
  have hts := C.1.2.2.2.2
  have hown := C.1.2.2.2.1
  have hin5 : ∀ w ∈ wsX50, w ∈ wsx_X5_putNumber := fun w h => List.mem_cons_of_mem _ (List.mem_append_right _ (List.mem_append_left _ h))
  intro uP x1 x2 hf H locs hP hD hS ls hl
  unfold fx_X5_putNumber_12 at hf
  refine lv_lload_n hx hb dX5_putNumber_12 rfl (lv_at hl 2 rfl) ?_
  refine va_mabs_long (rest := []) hx hb (C.1.2.2.1.trans hl.1.symm) hown (hts (Cond.methodLink RX5 34 Lib.MathLoose.abs_long.x) (List.mem_cons_of_mem _ mx_282)) (hts (Cond.static Lib.MathLoose.abs_long.x) (List.mem_cons_of_mem _ mx_283)) (hts (Cond.initialized "java/lang/Math") (List.mem_cons_of_mem _ mx_133)) (hts (Cond.code Lib.MathLoose.abs_long.x Lib.MathLoose.abs_long.code 2 (some .long)) (List.mem_cons_of_mem _ mx_284)) (Nat.le_of_ble_eq_true rfl) (Nat.le_of_ble_eq_true rfl) (Nat.zero_le _) (Nat.zero_le _) dX5_putNumber_13 ?_
  refine lv_lstore (lv' := [(4, .long (if 0 < x2 then x2 else -x2)), (0, .ref (bP 0)), (1, .ref (gF G (x1).val)), (2, .long x2)]) hx hb dX5_putNumber_16 hl (by decide) rfl (fun ls hl => ?_)
  refine lv_aload_n hx hb dX5_putNumber_18 rfl (lv_at hl 2 rfl) ?_
  obtain ⟨r_5, h_4, hf⟩ := og_b hf
  try dsimp only at hf
  refine xr_V (v := .int r_5) (rest := []) (w0 := ([])) C (cx_X0_isLength l G x1 r_5 _ h_4) (cwV 0 hts gx_X5_X0_isLength_40 rfl rfl rfl hdx_X0_isLength ⟨Nat.le_of_ble_eq_true rfl, Nat.le_of_ble_eq_true rfl⟩) hK hA hT hP hD hS (va_recvE hT.1.1 (x1).isLt hS) [] rfl rfl rfl hl.1 rfl (Nat.le_of_ble_eq_true rfl) dX5_putNumber_19 ?_
  refine lv_if_eq (tgt := 50) hx hb dX5_putNumber_22 (by decide) (fun c_6 => ?_) (fun c_6 => ?_)
  · replace hf := og_t c_6 hf
    refine lv_aload_n hx hb dX5_putNumber_50 rfl (lv_at hl 1 rfl) ?_
    refine lv_lload hx hb dX5_putNumber_51 (lv_at hl 0 rfl) ?_
    refine lv_l2i (v := ((if 0 < x2 then x2 else -x2)).toInt32) hx hb dX5_putNumber_53 rfl ?_
    obtain ⟨u_8, h_7, hf⟩ := og_b hf
    try dsimp only at hf
    refine xw_V (ov := none) (st1 := []) (rest := []) (w0 := (cP G bP uP)) (w1 := (cP G bP u_8)) (wr := ([])) (w' := (cP G bP u_8)) C (cx_X5_putWhole l G bP uP ((if 0 < x2 then x2 else -x2)).toInt32 u_8 _ h_7) (cwV 1 hts gx_X5_X5_putWhole_48 rfl rfl rfl hdx_X5_putWhole ⟨Nat.le_of_ble_eq_true rfl, Nat.le_of_ble_eq_true rfl⟩) hK hA hT hP hD hS (va_recv hK hP (ci := 2) (q0 := 0) rfl rfl) [0, 1] [] [0, 1] rfl rfl rfl rfl (by decide) rfl rfl rfl hl.1 rfl rfl (Nat.le_of_ble_eq_true rfl) dX5_putNumber_54 (fun H locs hP hD hS => ?_)
    obtain rfl := og_s hf
    exact rw_v C hK hP hD hS dX5_putNumber_57
  · replace hf := og_f c_6 hf
    refine lv_aload_n hx hb dX5_putNumber_25 rfl (lv_at hl 1 rfl) ?_
    refine lv_lload hx hb dX5_putNumber_26 (lv_at hl 0 rfl) ?_
    refine lv_ldc2 (v := (1000000 : Int64)) hx hb hown (hts (Cond.constantLong RX5 46 (1000000)) (List.mem_cons_of_mem _ mx_285)) dX5_putNumber_28 ?_
    refine lv_ldiv hx hb dX5_putNumber_31 (by decide) ?_
    refine lv_l2i (v := (((if 0 < x2 then x2 else -x2) / (1000000 : Int64))).toInt32) hx hb dX5_putNumber_32 rfl ?_
    obtain ⟨u_10, h_9, hf⟩ := og_b hf
    try dsimp only at hf
    refine xw_V (ov := none) (st1 := []) (rest := []) (w0 := (cP G bP uP)) (w1 := (cP G bP u_10)) (wr := ([])) (w' := (cP G bP u_10)) C (cx_X5_putWhole l G bP uP (((if 0 < x2 then x2 else -x2) / (1000000 : Int64))).toInt32 u_10 _ h_9) (cwV 1 hts gx_X5_X5_putWhole_48 rfl rfl rfl hdx_X5_putWhole ⟨Nat.le_of_ble_eq_true rfl, Nat.le_of_ble_eq_true rfl⟩) hK hA hT hP hD hS (va_recv hK hP (ci := 2) (q0 := 0) rfl rfl) [0, 1] [] [0, 1] rfl rfl rfl rfl (by decide) rfl rfl rfl hl.1 rfl rfl (Nat.le_of_ble_eq_true rfl) dX5_putNumber_33 (fun H locs hP hD hS => ?_)
    refine lv_aload_n hx hb dX5_putNumber_36 rfl (lv_at hl 1 rfl) ?_
    refine lv_lload hx hb dX5_putNumber_37 (lv_at hl 0 rfl) ?_
    refine lv_ldc2 (v := (1000000 : Int64)) hx hb hown (hts (Cond.constantLong RX5 46 (1000000)) (List.mem_cons_of_mem _ mx_285)) dX5_putNumber_39 ?_
    refine lv_lrem hx hb dX5_putNumber_42 (by decide) ?_
    refine lv_l2i (v := (((if 0 < x2 then x2 else -x2) - (if 0 < x2 then x2 else -x2) / (1000000 : Int64) * (1000000 : Int64))).toInt32) hx hb dX5_putNumber_43 rfl ?_
    obtain ⟨u_12, h_11, hf⟩ := og_b hf
    try dsimp only at hf
    refine xw_V (ov := none) (st1 := []) (rest := []) (w0 := (cP G bP u_10)) (w1 := (cP G bP u_12)) (wr := ([])) (w' := (cP G bP u_12)) C (cx_X5_putPoint l G bP u_10 (((if 0 < x2 then x2 else -x2) - (if 0 < x2 then x2 else -x2) / (1000000 : Int64) * (1000000 : Int64))).toInt32 u_12 _ h_11) (cwV 1 hts gx_X5_X5_putPoint_51 rfl rfl rfl hdx_X5_putPoint ⟨Nat.le_of_ble_eq_true rfl, Nat.le_of_ble_eq_true rfl⟩) hK hA hT hP hD hS (va_recv hK hP (ci := 2) (q0 := 0) rfl rfl) [0, 1] [] [0, 1] rfl rfl rfl rfl (by decide) rfl rfl rfl hl.1 rfl rfl (Nat.le_of_ble_eq_true rfl) dX5_putNumber_44 (fun H locs hP hD hS => ?_)
    refine lv_goto (tgt := 57) hx hb dX5_putNumber_47 (by decide) ?_
    obtain rfl := og_s hf
    exact rw_v C hK hP hD hS dX5_putNumber_57
def fx_X5_putNumber (uP : Md) (x1 : (Fin 8)) (x2 : Int64) : Option Md := (if 0 ≤ (lg_cmp x2 (0 : Int64)) then (fx_X5_putNumber_12 uP x1 x2) else ((fx_X5_put uP (45 : Int32)).bind fun u_3 => (fx_X5_putNumber_12 u_3 x1 x2)))
set_option maxHeartbeats 4000000 in
set_option maxRecDepth 100000 in
theorem cx_X5_putNumber (l : Launch) (G : Gx) (bP : Nat → Nat) (uP : Md) (x1 : (Fin 8)) (x2 : Int64)  (vP : Md) (sz : Nat) (hf : fx_X5_putNumber uP x1 x2 = some vP) : Met l yX5_putNumber wsx_X5_putNumber rmx_X5_putNumber (pX G (cP G bP uP) sz [.ref (bP 0), .ref (gF G (x1).val), .long x2]) (qW none (cP G bP vP) (gD G) (tyG G) (va_A (cP G bP uP) sz)) 0 0 (va_A (cP G bP uP) sz) := by
  refine mx_w (cc := cX5_putNumber) (maxL := 6) (ret := none) (by decide) rfl (Nat.le_of_ble_eq_true rfl) ?_
  intro p e s m below meth c ls A C hl hK hA hT hP hD hS
  have hl : lv_has ls 6 [(0, .ref (bP 0)), (1, .ref (gF G (x1).val)), (2, .long x2)] := hl
  have hx := C.1.1
  have hb := C.1.2.1
  have hts := C.1.2.2.2.2
  have hown := C.1.2.2.2.1
  have hin5 : ∀ w ∈ wsX50, w ∈ wsx_X5_putNumber := fun w h => List.mem_cons_of_mem _ (List.mem_append_right _ (List.mem_append_left _ h))
  unfold fx_X5_putNumber at hf
  refine lv_lload_n hx hb dX5_putNumber_0 rfl (lv_at hl 2 rfl) ?_
  refine lv_lconst (v := (0 : Int64)) hx hb dX5_putNumber_1 (by decide) ?_
  refine W.lcmp hx hb dX5_putNumber_2 ?_
  refine lv_if_ge (tgt := 12) hx hb dX5_putNumber_3 (by decide) (fun c_1 => ?_) (fun c_1 => ?_)
  · replace hf := og_t c_1 hf
    exact wx_X5_putNumber_12 C hK hA hT uP x1 x2 hf hP hD hS (lv_sub hl [0, 1, 2] rfl)
  · replace hf := og_f c_1 hf
    refine lv_aload_n hx hb dX5_putNumber_6 rfl (lv_at hl 0 rfl) ?_
    refine lv_bipush (v := (45 : Int32)) hx hb dX5_putNumber_7 (by decide) ?_
    obtain ⟨u_3, h_2, hf⟩ := og_b hf
    try dsimp only at hf
    refine xw_V (ov := none) (st1 := []) (rest := []) (w0 := (cP G bP uP)) (w1 := (cP G bP u_3)) (wr := ([])) (w' := (cP G bP u_3)) C (cx_X5_put l G bP uP (45 : Int32) u_3 _ h_2) (cwV 1 hts gx_X5_X5_put_20 rfl rfl rfl hdx_X5_put ⟨Nat.le_of_ble_eq_true rfl, Nat.le_of_ble_eq_true rfl⟩) hK hA hT hP hD hS (va_recv hK hP (ci := 2) (q0 := 0) rfl rfl) [0, 1] [] [0, 1] rfl rfl rfl rfl (by decide) rfl rfl rfl hl.1 rfl rfl (Nat.le_of_ble_eq_true rfl) dX5_putNumber_9 (fun H locs hP hD hS => ?_)
    exact wx_X5_putNumber_12 C hK hA hT u_3 x1 x2 hf hP hD hS (lv_sub hl [0, 1, 2] rfl)
abbrev rmx_X7_hasText : Room := { frames := 0, cells := 0, slots := 0, locals := 0 }
noncomputable abbrev wsx_X7_hasText : List Cond := Cond.code yX7_hasText cX7_hasText 3 (some .boolean) :: WAX
theorem hdx_X7_hasText : yX7_hasText.cls = RX7 ∧ yX7_hasText.cls ≠ "java/lang/invoke/MethodHandle" ∧ yX7_hasText.cls ≠ "java/lang/invoke/VarHandle" ∧ (parseMethodDescriptor yX7_hasText.desc).map (fun d => d.parameters.length) = some 2 := by decide +kernel
def fx_X7_hasText (uT : Md) (x1 : Int32) (x2 : Int32) : Option Int32 := (if x1 < 0 then (some (0 : Int32)) else (if (gi uT 13) ≤ x1 then (some (0 : Int32)) else (if x2 < 0 then (some (0 : Int32)) else (if (2 : Int32) ≤ x2 then (some (0 : Int32)) else (some (1 : Int32))))))
set_option maxHeartbeats 4000000 in
set_option maxRecDepth 100000 in
theorem cx_X7_hasText (l : Launch) (G : Gx) (bT : Nat → Nat) (uT : Md) (x1 : Int32) (x2 : Int32) (r : Int32) (sz : Nat) (hf : fx_X7_hasText uT x1 x2 = some r) : Met l yX7_hasText wsx_X7_hasText rmx_X7_hasText (pX G (cT G bT uT) sz [.ref (bT 0), .int x1, .int x2]) (k2_QcV (.int r)) 0 0 (fun _ => False) := by
  refine mx_r (cc := cX7_hasText) (maxL := 3) (ret := (some .boolean)) (by decide) rfl (Nat.le_of_ble_eq_true rfl) ?_
  intro p e s m below meth c ls A C hl hK hA hT hP hD hS
  have hl : lv_has ls 3 [(0, .ref (bT 0)), (1, .int x1), (2, .int x2)] := hl
  have hx := C.1.1
  have hb := C.1.2.1
  have hts := C.1.2.2.2.2
  have hown := C.1.2.2.2.1
  have hin7 : ∀ w ∈ wsX70, w ∈ wsx_X7_hasText := fun w h => List.mem_cons_of_mem _ (List.mem_append_right _ (List.mem_append_right _ (List.mem_append_right _ (List.mem_append_left _ h))))
  unfold fx_X7_hasText at hf
  refine lv_iload_n hx hb dX7_hasText_0 rfl (lv_at hl 1 rfl) ?_
  refine lv_if_lt (tgt := 25) hx hb dX7_hasText_1 (by decide) (fun c_1 => ?_) (fun c_1 => ?_)
  · replace hf := og_t c_1 hf
    refine lv_iconst (v := (0 : Int32)) hx hb dX7_hasText_25 (by decide) ?_
    obtain rfl := og_s hf
    exact rt_z C (nz_z (Or.inl rfl)) dX7_hasText_26
  · replace hf := og_f c_1 hf
    refine lv_iload_n hx hb dX7_hasText_4 rfl (lv_at hl 1 rfl) ?_
    refine lv_aload_n hx hb dX7_hasText_5 rfl (lv_at hl 0 rfl) ?_
    refine xg (v := .int (gi uT 13)) (ci := 4) (K := RX7) (T := TX7) (N := 16) C hin7 hK hP 0 rfl rfl 13 (by decide) rfl (hts (Cond.fieldLink RX7 54 "SchematicText$Tree" "count" "I") (List.mem_cons_of_mem _ mx_101)) rfl dX7_hasText_6 ?_
    refine lv_icmp_ge (tgt := 25) hx hb dX7_hasText_9 (by decide) (fun c_2 => ?_) (fun c_2 => ?_)
    · replace hf := og_t c_2 hf
      refine lv_iconst (v := (0 : Int32)) hx hb dX7_hasText_25 (by decide) ?_
      obtain rfl := og_s hf
      exact rt_z C (nz_z (Or.inl rfl)) dX7_hasText_26
    · replace hf := og_f c_2 hf
      refine lv_iload_n hx hb dX7_hasText_12 rfl (lv_at hl 2 rfl) ?_
      refine lv_if_lt (tgt := 25) hx hb dX7_hasText_13 (by decide) (fun c_3 => ?_) (fun c_3 => ?_)
      · replace hf := og_t c_3 hf
        refine lv_iconst (v := (0 : Int32)) hx hb dX7_hasText_25 (by decide) ?_
        obtain rfl := og_s hf
        exact rt_z C (nz_z (Or.inl rfl)) dX7_hasText_26
      · replace hf := og_f c_3 hf
        refine lv_iload_n hx hb dX7_hasText_16 rfl (lv_at hl 2 rfl) ?_
        refine lv_iconst (v := (2 : Int32)) hx hb dX7_hasText_17 (by decide) ?_
        refine lv_icmp_ge (tgt := 25) hx hb dX7_hasText_18 (by decide) (fun c_4 => ?_) (fun c_4 => ?_)
        · replace hf := og_t c_4 hf
          refine lv_iconst (v := (0 : Int32)) hx hb dX7_hasText_25 (by decide) ?_
          obtain rfl := og_s hf
          exact rt_z C (nz_z (Or.inl rfl)) dX7_hasText_26
        · replace hf := og_f c_4 hf
          refine lv_iconst (v := (1 : Int32)) hx hb dX7_hasText_21 (by decide) ?_
          refine lv_goto (tgt := 26) hx hb dX7_hasText_22 (by decide) ?_
          obtain rfl := og_s hf
          exact rt_z C (nz_z (Or.inr rfl)) dX7_hasText_26
theorem gx_X7_X7_hasText_134 {c0 : Cond} : GoodIn (c0 :: WAX) (wsV RX7 134 RX7 yX7_hasText wsx_X7_hasText) := gdx_v mx_183 mx_184 mx_185 mx_99 mx_186
abbrev rmx_X7_textSize : Room := { frames := 1, cells := 0, slots := 0, locals := 22 }
noncomputable abbrev wsx_X7_textSize : List Cond := Cond.code yX7_textSize cX7_textSize 3 (some .int) :: WAX
theorem hdx_X7_textSize : yX7_textSize.cls = RX7 ∧ yX7_textSize.cls ≠ "java/lang/invoke/MethodHandle" ∧ yX7_textSize.cls ≠ "java/lang/invoke/VarHandle" ∧ (parseMethodDescriptor yX7_textSize.desc).map (fun d => d.parameters.length) = some 2 := by decide +kernel
def fx_X7_textSize (uT : Md) (x1 : Int32) (x2 : Int32) : Option Int32 := ((fx_X7_hasText uT x1 x2).bind fun r_2 => (if r_2 = 0 then (some (0 : Int32)) else (if ((x1 * (2 : Int32)) + x2) < 0 ∨ 400 ≤ (((x1 * (2 : Int32)) + x2)).toNatClampNeg then none else (some ((ga uT 7) (((x1 * (2 : Int32)) + x2)).toNatClampNeg)))))
set_option maxHeartbeats 4000000 in
set_option maxRecDepth 100000 in
theorem cx_X7_textSize (l : Launch) (G : Gx) (bT : Nat → Nat) (uT : Md) (x1 : Int32) (x2 : Int32) (r : Int32) (sz : Nat) (hf : fx_X7_textSize uT x1 x2 = some r) : Met l yX7_textSize wsx_X7_textSize rmx_X7_textSize (pX G (cT G bT uT) sz [.ref (bT 0), .int x1, .int x2]) (k2_QcV (.int r)) 0 0 (fun _ => False) := by
  refine mx_r (cc := cX7_textSize) (maxL := 3) (ret := (some .int)) (by decide) rfl (Nat.le_of_ble_eq_true rfl) ?_
  intro p e s m below meth c ls A C hl hK hA hT hP hD hS
  have hl : lv_has ls 3 [(0, .ref (bT 0)), (1, .int x1), (2, .int x2)] := hl
  have hx := C.1.1
  have hb := C.1.2.1
  have hts := C.1.2.2.2.2
  have hown := C.1.2.2.2.1
  have hin7 : ∀ w ∈ wsX70, w ∈ wsx_X7_textSize := fun w h => List.mem_cons_of_mem _ (List.mem_append_right _ (List.mem_append_right _ (List.mem_append_right _ (List.mem_append_left _ h))))
  unfold fx_X7_textSize at hf
  refine lv_aload_n hx hb dX7_textSize_0 rfl (lv_at hl 0 rfl) ?_
  refine lv_iload_n hx hb dX7_textSize_1 rfl (lv_at hl 1 rfl) ?_
  refine lv_iload_n hx hb dX7_textSize_2 rfl (lv_at hl 2 rfl) ?_
  obtain ⟨r_2, h_1, hf⟩ := og_b hf
  try dsimp only at hf
  refine xr_V (v := .int r_2) (rest := []) (w0 := (cT G bT uT)) C (cx_X7_hasText l G bT uT x1 x2 r_2 _ h_1) (cwV 2 hts gx_X7_X7_hasText_134 rfl rfl rfl hdx_X7_hasText ⟨Nat.le_of_ble_eq_true rfl, Nat.le_of_ble_eq_true rfl⟩) hK hA hT hP hD hS (va_recv hK hP (ci := 4) (q0 := 0) rfl rfl) [0, 1, 2, 3, 4, 5, 6, 7, 8, 9, 10, 11, 12] rfl rfl rfl hl.1 rfl (Nat.le_of_ble_eq_true rfl) dX7_textSize_3 ?_
  refine lv_if_eq (tgt := 22) hx hb dX7_textSize_6 (by decide) (fun c_3 => ?_) (fun c_3 => ?_)
  · replace hf := og_t c_3 hf
    refine lv_iconst (v := (0 : Int32)) hx hb dX7_textSize_22 (by decide) ?_
    obtain rfl := og_s hf
    exact rt_i C dX7_textSize_23
  · replace hf := og_f c_3 hf
    refine lv_aload_n hx hb dX7_textSize_9 rfl (lv_at hl 0 rfl) ?_
    refine xg (v := .ref (bT 8)) (ci := 4) (K := RX7) (T := TX7) (N := 16) C hin7 hK hP 0 rfl rfl 7 (by decide) rfl (hts (Cond.fieldLink RX7 34 "SchematicText$Tree" "textSizes" "[I") (List.mem_cons_of_mem _ mx_182)) rfl dX7_textSize_10 ?_
    refine lv_iload_n hx hb dX7_textSize_13 rfl (lv_at hl 1 rfl) ?_
    refine lv_iconst (v := (2 : Int32)) hx hb dX7_textSize_14 (by decide) ?_
    refine lv_imul hx hb dX7_textSize_15 ?_
    refine lv_iload_n hx hb dX7_textSize_16 rfl (lv_at hl 2 rfl) ?_
    refine lv_iadd hx hb dX7_textSize_17 ?_
    obtain ⟨h_4, hf⟩ := og_n hf
    refine va_iald (f := (ga uT 7)) hx hb hK hP 8 0 rfl rfl h_4 dX7_textSize_18 ?_
    refine lv_goto (tgt := 23) hx hb dX7_textSize_19 (by decide) ?_
    obtain rfl := og_s hf
    exact rt_i C dX7_textSize_23
theorem gx_X7_X7_textSize_137 {c0 : Cond} : GoodIn (c0 :: WAX) (wsV RX7 137 RX7 yX7_textSize wsx_X7_textSize) := gdx_v mx_308 mx_301 mx_302 mx_99 mx_303
abbrev rmx_X7_textMark : Room := { frames := 2, cells := 0, slots := 0, locals := 44 }
noncomputable abbrev wsx_X7_textMark : List Cond := Cond.code yX7_textMark cX7_textMark 4 (some .int) :: WAX
theorem hdx_X7_textMark : yX7_textMark.cls = RX7 ∧ yX7_textMark.cls ≠ "java/lang/invoke/MethodHandle" ∧ yX7_textMark.cls ≠ "java/lang/invoke/VarHandle" ∧ (parseMethodDescriptor yX7_textMark.desc).map (fun d => d.parameters.length) = some 3 := by decide +kernel
def fx_X7_textMark (uT : Md) (x1 : Int32) (x2 : Int32) (x3 : Int32) : Option Int32 := (if x3 < 0 then (some (-1 : Int32)) else (if (40 : Int32) ≤ x3 then (some (-1 : Int32)) else ((fx_X7_textSize uT x1 x2).bind fun r_4 => (if x3 < r_4 then (if ((((x1 * (2 : Int32)) + x2) * (40 : Int32)) + x3) < 0 ∨ 16000 ≤ (((((x1 * (2 : Int32)) + x2) * (40 : Int32)) + x3)).toNatClampNeg then none else (some ((ga uT 8) (((((x1 * (2 : Int32)) + x2) * (40 : Int32)) + x3)).toNatClampNeg))) else (some (-1 : Int32))))))
set_option maxHeartbeats 4000000 in
set_option maxRecDepth 100000 in
theorem cx_X7_textMark (l : Launch) (G : Gx) (bT : Nat → Nat) (uT : Md) (x1 : Int32) (x2 : Int32) (x3 : Int32) (r : Int32) (sz : Nat) (hf : fx_X7_textMark uT x1 x2 x3 = some r) : Met l yX7_textMark wsx_X7_textMark rmx_X7_textMark (pX G (cT G bT uT) sz [.ref (bT 0), .int x1, .int x2, .int x3]) (k2_QcV (.int r)) 0 0 (fun _ => False) := by
  refine mx_r (cc := cX7_textMark) (maxL := 4) (ret := (some .int)) (by decide) rfl (Nat.le_of_ble_eq_true rfl) ?_
  intro p e s m below meth c ls A C hl hK hA hT hP hD hS
  have hl : lv_has ls 4 [(0, .ref (bT 0)), (1, .int x1), (2, .int x2), (3, .int x3)] := hl
  have hx := C.1.1
  have hb := C.1.2.1
  have hts := C.1.2.2.2.2
  have hown := C.1.2.2.2.1
  have hin7 : ∀ w ∈ wsX70, w ∈ wsx_X7_textMark := fun w h => List.mem_cons_of_mem _ (List.mem_append_right _ (List.mem_append_right _ (List.mem_append_right _ (List.mem_append_left _ h))))
  unfold fx_X7_textMark at hf
  refine lv_iload_n hx hb dX7_textMark_0 rfl (lv_at hl 3 rfl) ?_
  refine lv_if_lt (tgt := 20) hx hb dX7_textMark_1 (by decide) (fun c_1 => ?_) (fun c_1 => ?_)
  · replace hf := og_t c_1 hf
    refine lv_iconst (v := (-1 : Int32)) hx hb dX7_textMark_20 (by decide) ?_
    obtain rfl := og_s hf
    exact rt_i C dX7_textMark_21
  · replace hf := og_f c_1 hf
    refine lv_iload_n hx hb dX7_textMark_4 rfl (lv_at hl 3 rfl) ?_
    refine lv_bipush (v := (40 : Int32)) hx hb dX7_textMark_5 (by decide) ?_
    refine lv_icmp_ge (tgt := 20) hx hb dX7_textMark_7 (by decide) (fun c_2 => ?_) (fun c_2 => ?_)
    · replace hf := og_t c_2 hf
      refine lv_iconst (v := (-1 : Int32)) hx hb dX7_textMark_20 (by decide) ?_
      obtain rfl := og_s hf
      exact rt_i C dX7_textMark_21
    · replace hf := og_f c_2 hf
      refine lv_iload_n hx hb dX7_textMark_10 rfl (lv_at hl 3 rfl) ?_
      refine lv_aload_n hx hb dX7_textMark_11 rfl (lv_at hl 0 rfl) ?_
      refine lv_iload_n hx hb dX7_textMark_12 rfl (lv_at hl 1 rfl) ?_
      refine lv_iload_n hx hb dX7_textMark_13 rfl (lv_at hl 2 rfl) ?_
      obtain ⟨r_4, h_3, hf⟩ := og_b hf
      try dsimp only at hf
      refine xr_V (v := .int r_4) (rest := [.int x3]) (w0 := (cT G bT uT)) C (cx_X7_textSize l G bT uT x1 x2 r_4 _ h_3) (cwV 2 hts gx_X7_X7_textSize_137 rfl rfl rfl hdx_X7_textSize ⟨Nat.le_of_ble_eq_true rfl, Nat.le_of_ble_eq_true rfl⟩) hK hA hT hP hD hS (va_recv hK hP (ci := 4) (q0 := 0) rfl rfl) [0, 1, 2, 3, 4, 5, 6, 7, 8, 9, 10, 11, 12] rfl rfl rfl hl.1 rfl (Nat.le_of_ble_eq_true rfl) dX7_textMark_14 ?_
      refine lv_icmp_lt (tgt := 22) hx hb dX7_textMark_17 (by decide) (fun c_5 => ?_) (fun c_5 => ?_)
      · replace hf := og_t c_5 hf
        refine lv_aload_n hx hb dX7_textMark_22 rfl (lv_at hl 0 rfl) ?_
        refine xg (v := .ref (bT 9)) (ci := 4) (K := RX7) (T := TX7) (N := 16) C hin7 hK hP 0 rfl rfl 8 (by decide) rfl (hts (Cond.fieldLink RX7 37 "SchematicText$Tree" "textMarks" "[C") (List.mem_cons_of_mem _ mx_259)) rfl dX7_textMark_23 ?_
        refine lv_iload_n hx hb dX7_textMark_26 rfl (lv_at hl 1 rfl) ?_
        refine lv_iconst (v := (2 : Int32)) hx hb dX7_textMark_27 (by decide) ?_
        refine lv_imul hx hb dX7_textMark_28 ?_
        refine lv_iload_n hx hb dX7_textMark_29 rfl (lv_at hl 2 rfl) ?_
        refine lv_iadd hx hb dX7_textMark_30 ?_
        refine lv_bipush (v := (40 : Int32)) hx hb dX7_textMark_31 (by decide) ?_
        refine lv_imul hx hb dX7_textMark_33 ?_
        refine lv_iload_n hx hb dX7_textMark_34 rfl (lv_at hl 3 rfl) ?_
        refine lv_iadd hx hb dX7_textMark_35 ?_
        obtain ⟨h_6, hf⟩ := og_n hf
        refine va_cald (f := (ga uT 8)) hx hb hK hP 9 2 rfl rfl h_6 dX7_textMark_36 ?_
        obtain rfl := og_s hf
        exact rt_i C dX7_textMark_37
      · replace hf := og_f c_5 hf
        refine lv_iconst (v := (-1 : Int32)) hx hb dX7_textMark_20 (by decide) ?_
        obtain rfl := og_s hf
        exact rt_i C dX7_textMark_21
abbrev rmx_X8_needsEscape : Room := { frames := 0, cells := 0, slots := 0, locals := 0 }
noncomputable abbrev wsx_X8_needsEscape : List Cond := Cond.code yX8_needsEscape cX8_needsEscape 1 (some .boolean) :: WAX
theorem hdx_X8_needsEscape : yX8_needsEscape.cls ≠ "java/lang/invoke/MethodHandle" ∧ yX8_needsEscape.cls ≠ "java/lang/invoke/VarHandle" ∧ (parseMethodDescriptor yX8_needsEscape.desc).map (fun d => d.parameters.length) = some 1 := by decide +kernel
def fx_X8_needsEscape (x0 : Int32) : Option Int32 := (if x0 = (34 : Int32) then (some (1 : Int32)) else (if x0 = (92 : Int32) then (some (1 : Int32)) else (some (0 : Int32))))
set_option maxHeartbeats 4000000 in
set_option maxRecDepth 100000 in
theorem cx_X8_needsEscape (l : Launch) (G : Gx) (x0 : Int32) (r : Int32) (sz : Nat) (hf : fx_X8_needsEscape x0 = some r) : Met l yX8_needsEscape wsx_X8_needsEscape rmx_X8_needsEscape (pX G ([]) sz [.int x0]) (k2_QcV (.int r)) 0 0 (fun _ => False) := by
  refine mx_r (cc := cX8_needsEscape) (maxL := 1) (ret := (some .boolean)) (by decide) rfl (Nat.le_of_ble_eq_true rfl) ?_
  intro p e s m below meth c ls A C hl hK hA hT hP hD hS
  have hl : lv_has ls 1 [(0, .int x0)] := hl
  have hx := C.1.1
  have hb := C.1.2.1
  have hts := C.1.2.2.2.2
  have hown := C.1.2.2.2.1
  unfold fx_X8_needsEscape at hf
  refine lv_iload_n hx hb dX8_needsEscape_0 rfl (lv_at hl 0 rfl) ?_
  refine lv_bipush (v := (34 : Int32)) hx hb dX8_needsEscape_1 (by decide) ?_
  refine lv_icmp_eq (tgt := 12) hx hb dX8_needsEscape_3 (by decide) (fun c_1 => ?_) (fun c_1 => ?_)
  · replace hf := og_t c_1 hf
    refine lv_iconst (v := (1 : Int32)) hx hb dX8_needsEscape_12 (by decide) ?_
    refine lv_goto (tgt := 17) hx hb dX8_needsEscape_13 (by decide) ?_
    obtain rfl := og_s hf
    exact rt_z C (nz_z (Or.inr rfl)) dX8_needsEscape_17
  · replace hf := og_f c_1 hf
    refine lv_iload_n hx hb dX8_needsEscape_6 rfl (lv_at hl 0 rfl) ?_
    refine lv_bipush (v := (92 : Int32)) hx hb dX8_needsEscape_7 (by decide) ?_
    refine lv_icmp_ne (tgt := 16) hx hb dX8_needsEscape_9 (by decide) (fun c_2 => ?_) (fun c_2 => ?_)
    · replace hf := og_f c_2 hf
      refine lv_iconst (v := (0 : Int32)) hx hb dX8_needsEscape_16 (by decide) ?_
      obtain rfl := og_s hf
      exact rt_z C (nz_z (Or.inl rfl)) dX8_needsEscape_17
    · replace hf := og_t c_2 hf
      refine lv_iconst (v := (1 : Int32)) hx hb dX8_needsEscape_12 (by decide) ?_
      refine lv_goto (tgt := 17) hx hb dX8_needsEscape_13 (by decide) ?_
      obtain rfl := og_s hf
      exact rt_z C (nz_z (Or.inr rfl)) dX8_needsEscape_17
theorem gx_X5_X7_textSize_55 {c0 : Cond} : GoodIn (c0 :: WAX) (wsV RX5 55 RX7 yX7_textSize wsx_X7_textSize) := gdx_v mx_300 mx_301 mx_302 mx_99 mx_303
theorem gx_X5_X7_textMark_61 {c0 : Cond} : GoodIn (c0 :: WAX) (wsV RX5 61 RX7 yX7_textMark wsx_X7_textMark) := gdx_v mx_304 mx_305 mx_306 mx_99 mx_307
theorem gx_X5_X8_needsEscape_65 {c0 : Cond} : GoodIn (c0 :: WAX) wsx_X8_needsEscape := gdx_n mx_254
abbrev rmx_X5_putText : Room := { frames := 3, cells := 0, slots := 0, locals := 67 }
noncomputable abbrev wsx_X5_putText : List Cond := Cond.code yX5_putText cX5_putText 6 none :: WAX
theorem hdx_X5_putText : yX5_putText.cls = RX5 ∧ yX5_putText.cls ≠ "java/lang/invoke/MethodHandle" ∧ yX5_putText.cls ≠ "java/lang/invoke/VarHandle" ∧ (parseMethodDescriptor yX5_putText.desc).map (fun d => d.parameters.length) = some 3 := by decide +kernel
def fx_X5_putText_44 (uT : Md) (k9 : Md → Int32 → Int32 → Int32 → Option Md) (uP : Md) (x2 : Int32) (x3 : Int32) (x4 : Int32) (x5 : Int32) : Option Md := ((fx_X5_put uP x5).bind fun u_16 => (k9 u_16 x2 x3 (x4 + (1 : Int32))))
set_option maxHeartbeats 4000000 in
set_option maxRecDepth 100000 in
theorem wx_X5_putText_44 {p : Program} {l : Launch} {e : Env} {s : State} {m : MethodId} {args : Array Value} {below : List Frame} {meth : Method} {c : Code} {G : Gx} {A : Nat → Prop} {bT : Nat → Nat} {bP : Nat → Nat} (C : Cx p s m args meth c cX5_putText 6 wsx_X5_putText RX5 none) {uT : Md} (hK : va_K (gD G) vwCl (tyG G) s) (hA : ∀ q : Nat, s.heap.size ≤ q → A q) (hT : ST G A s s.heap) {r : Md} (k9 : Md → Int32 → Int32 → Int32 → Option Md) (ih9 : ∀ (uP : Md) (x2 : Int32) (x3 : Int32) (x4 : Int32), k9 uP x2 x3 x4 = some r → ∀ {H : Heap} {locs : List Loc}, va_P (gD G) vwCl (cT G bT uT ++ cP G bP uP) H → va_D A (cT G bT uT ++ cP G bP uP) → va_S A s.heap H locs → ∀ {ls : Array Slot}, lv_has ls 6 [(0, .ref (bP 0)), (1, .ref (bT 0)), (2, .int x2), (3, .int x3), (4, .int x4)] → W p l e rmx_X5_putText s m args below meth c H locs 0 0 (MQ below (qW none (cT G bT uT ++ cP G bP r) (gD G) (tyG G) A) args s 0 0 A) (F0 m 9 ls [])) : ∀ (uP : Md) (x2 : Int32) (x3 : Int32) (x4 : Int32) (x5 : Int32), fx_X5_putText_44 uT k9 uP x2 x3 x4 x5 = some r → ∀ {H : Heap} {locs : List Loc}, va_P (gD G) vwCl (cT G bT uT ++ cP G bP uP) H → va_D A (cT G bT uT ++ cP G bP uP) → va_S A s.heap H locs → ∀ {ls : Array Slot}, lv_has ls 6 [(0, .ref (bP 0)), (1, .ref (bT 0)), (2, .int x2), (3, .int x3), (4, .int x4), (5, .int x5)] → W p l e rmx_X5_putText s m args below meth c H locs 0 0 (MQ below (qW none (cT G bT uT ++ cP G bP r) (gD G) (tyG G) A) args s 0 0 A) (F0 m 44 ls []) := by
  have hx := C.1.1
  have hb := C.1.2.1
  have hts := C.1.2.2.2.2
  have hown := C.1.2.2.2.1
  have hin7 : ∀ w ∈ wsX70, w ∈ wsx_X5_putText := fun w h => List.mem_cons_of_mem _ (List.mem_append_right _ (List.mem_append_right _ (List.mem_append_right _ (List.mem_append_left _ h))))
  have hin5 : ∀ w ∈ wsX50, w ∈ wsx_X5_putText := fun w h => List.mem_cons_of_mem _ (List.mem_append_right _ (List.mem_append_left _ h))
  intro uP x2 x3 x4 x5 hf H locs hP hD hS ls hl
  unfold fx_X5_putText_44 at hf
  refine lv_aload_n hx hb dX5_putText_44 rfl (lv_at hl 0 rfl) ?_
  refine lv_iload hx hb dX5_putText_45 (lv_at hl 5 rfl) ?_
  obtain ⟨u_16, h_15, hf⟩ := og_b hf
  try dsimp only at hf
  refine xw_V (ov := none) (st1 := []) (rest := []) (w0 := (cP G bP uP)) (w1 := (cP G bP u_16)) (wr := (cT G bT uT)) (w' := (cT G bT uT ++ cP G bP u_16)) C (cx_X5_put l G bP uP x5 u_16 _ h_15) (cwV 1 hts gx_X5_X5_put_20 rfl rfl rfl hdx_X5_put ⟨Nat.le_of_ble_eq_true rfl, Nat.le_of_ble_eq_true rfl⟩) hK hA hT hP hD hS (va_recv hK hP (ci := 2) (q0 := 13) rfl rfl) [13, 14] [0, 1, 2, 3, 4, 5, 6, 7, 8, 9, 10, 11, 12] [0, 1, 2, 3, 4, 5, 6, 7, 8, 9, 10, 11, 12, 13, 14] rfl rfl rfl rfl (by decide) rfl rfl rfl hl.1 rfl rfl (Nat.le_of_ble_eq_true rfl) dX5_putText_47 (fun H locs hP hD hS => ?_)
  refine lv_iinc (v := (x4 + (1 : Int32))) (lv' := [(4, .int (x4 + (1 : Int32))), (0, .ref (bP 0)), (1, .ref (bT 0)), (2, .int x2), (3, .int x3), (5, .int x5)]) hx hb dX5_putText_50 hl (k := 4) rfl rfl (by decide) rfl (fun ls hl => ?_)
  refine lv_goto (tgt := 9) hx hb dX5_putText_53 (by decide) ?_
  exact ih9 u_16 x2 x3 (x4 + (1 : Int32)) hf hP hD hS (lv_sub hl [1, 2, 3, 4, 0] rfl)
def fx_X5_putText_9 (uT : Md) : Nat → Md → Int32 → Int32 → Int32 → Option Md
  | 0, _, _, _, _ => none
  | n + 1, uP, x2, x3, x4 => ((fx_X7_textSize uT x2 x3).bind fun r_4 => (if r_4 ≤ x4 then ((fx_X5_put uP (34 : Int32)).bind fun u_7 => (some u_7)) else ((fx_X7_textMark uT x2 x3 x4).bind fun r_9 => ((fx_X8_needsEscape r_9).bind fun r_11 => (if r_11 = 0 then (fx_X5_putText_44 uT (fx_X5_putText_9 uT n) uP x2 x3 x4 r_9) else ((fx_X5_put uP (92 : Int32)).bind fun u_14 => (fx_X5_putText_44 uT (fx_X5_putText_9 uT n) u_14 x2 x3 x4 r_9)))))))
set_option maxHeartbeats 4000000 in
set_option maxRecDepth 100000 in
theorem wx_X5_putText_9 {p : Program} {l : Launch} {e : Env} {s : State} {m : MethodId} {args : Array Value} {below : List Frame} {meth : Method} {c : Code} {G : Gx} {A : Nat → Prop} {bT : Nat → Nat} {bP : Nat → Nat} (C : Cx p s m args meth c cX5_putText 6 wsx_X5_putText RX5 none) {uT : Md} (hK : va_K (gD G) vwCl (tyG G) s) (hA : ∀ q : Nat, s.heap.size ≤ q → A q) (hT : ST G A s s.heap) {r : Md} : ∀ (n : Nat), ∀ (uP : Md) (x2 : Int32) (x3 : Int32) (x4 : Int32), fx_X5_putText_9 uT n uP x2 x3 x4 = some r → ∀ {H : Heap} {locs : List Loc}, va_P (gD G) vwCl (cT G bT uT ++ cP G bP uP) H → va_D A (cT G bT uT ++ cP G bP uP) → va_S A s.heap H locs → ∀ {ls : Array Slot}, lv_has ls 6 [(0, .ref (bP 0)), (1, .ref (bT 0)), (2, .int x2), (3, .int x3), (4, .int x4)] → W p l e rmx_X5_putText s m args below meth c H locs 0 0 (MQ below (qW none (cT G bT uT ++ cP G bP r) (gD G) (tyG G) A) args s 0 0 A) (F0 m 9 ls []) := by
  have hx := C.1.1
  have hb := C.1.2.1
  have hts := C.1.2.2.2.2
  have hown := C.1.2.2.2.1
  have hin7 : ∀ w ∈ wsX70, w ∈ wsx_X5_putText := fun w h => List.mem_cons_of_mem _ (List.mem_append_right _ (List.mem_append_right _ (List.mem_append_right _ (List.mem_append_left _ h))))
  have hin5 : ∀ w ∈ wsX50, w ∈ wsx_X5_putText := fun w h => List.mem_cons_of_mem _ (List.mem_append_right _ (List.mem_append_left _ h))
  intro n
  induction n with
  | zero =>
    intro uP x2 x3 x4 hf H locs hP hD hS ls hl
    cases hf
  | succ n ih =>
    intro uP x2 x3 x4 hf H locs hP hD hS ls hl
    rw [fx_X5_putText_9] at hf
    refine lv_iload hx hb dX5_putText_9 (lv_at hl 4 rfl) ?_
    refine lv_aload_n hx hb dX5_putText_11 rfl (lv_at hl 1 rfl) ?_
    refine lv_iload_n hx hb dX5_putText_12 rfl (lv_at hl 2 rfl) ?_
    refine lv_iload_n hx hb dX5_putText_13 rfl (lv_at hl 3 rfl) ?_
    obtain ⟨r_4, h_3, hf⟩ := og_b hf
    try dsimp only at hf
    refine xr_V (v := .int r_4) (rest := [.int x4]) (w0 := (cT G bT uT)) C (cx_X7_textSize l G bT uT x2 x3 r_4 _ h_3) (cwV 2 hts gx_X5_X7_textSize_55 rfl rfl rfl hdx_X7_textSize ⟨Nat.le_of_ble_eq_true rfl, Nat.le_of_ble_eq_true rfl⟩) hK hA hT hP hD hS (va_recv hK hP (ci := 4) (q0 := 0) rfl rfl) [0, 1, 2, 3, 4, 5, 6, 7, 8, 9, 10, 11, 12] rfl rfl rfl hl.1 rfl (Nat.le_of_ble_eq_true rfl) dX5_putText_14 ?_
    refine lv_icmp_ge (tgt := 56) hx hb dX5_putText_17 (by decide) (fun c_5 => ?_) (fun c_5 => ?_)
    · replace hf := og_t c_5 hf
      refine lv_aload_n hx hb dX5_putText_56 rfl (lv_at hl 0 rfl) ?_
      refine lv_bipush (v := (34 : Int32)) hx hb dX5_putText_57 (by decide) ?_
      obtain ⟨u_7, h_6, hf⟩ := og_b hf
      try dsimp only at hf
      refine xw_V (ov := none) (st1 := []) (rest := []) (w0 := (cP G bP uP)) (w1 := (cP G bP u_7)) (wr := (cT G bT uT)) (w' := (cT G bT uT ++ cP G bP u_7)) C (cx_X5_put l G bP uP (34 : Int32) u_7 _ h_6) (cwV 1 hts gx_X5_X5_put_20 rfl rfl rfl hdx_X5_put ⟨Nat.le_of_ble_eq_true rfl, Nat.le_of_ble_eq_true rfl⟩) hK hA hT hP hD hS (va_recv hK hP (ci := 2) (q0 := 13) rfl rfl) [13, 14] [0, 1, 2, 3, 4, 5, 6, 7, 8, 9, 10, 11, 12] [0, 1, 2, 3, 4, 5, 6, 7, 8, 9, 10, 11, 12, 13, 14] rfl rfl rfl rfl (by decide) rfl rfl rfl hl.1 rfl rfl (Nat.le_of_ble_eq_true rfl) dX5_putText_59 (fun H locs hP hD hS => ?_)
      obtain rfl := og_s hf
      exact rw_v C hK hP hD hS dX5_putText_62
    · replace hf := og_f c_5 hf
      refine lv_aload_n hx hb dX5_putText_20 rfl (lv_at hl 1 rfl) ?_
      refine lv_iload_n hx hb dX5_putText_21 rfl (lv_at hl 2 rfl) ?_
      refine lv_iload_n hx hb dX5_putText_22 rfl (lv_at hl 3 rfl) ?_
      refine lv_iload hx hb dX5_putText_23 (lv_at hl 4 rfl) ?_
      obtain ⟨r_9, h_8, hf⟩ := og_b hf
      try dsimp only at hf
      refine xr_V (v := .int r_9) (rest := []) (w0 := (cT G bT uT)) C (cx_X7_textMark l G bT uT x2 x3 x4 r_9 _ h_8) (cwV 3 hts gx_X5_X7_textMark_61 rfl rfl rfl hdx_X7_textMark ⟨Nat.le_of_ble_eq_true rfl, Nat.le_of_ble_eq_true rfl⟩) hK hA hT hP hD hS (va_recv hK hP (ci := 4) (q0 := 0) rfl rfl) [0, 1, 2, 3, 4, 5, 6, 7, 8, 9, 10, 11, 12] rfl rfl rfl hl.1 rfl (Nat.le_of_ble_eq_true rfl) dX5_putText_25 ?_
      refine lv_istore (lv' := [(5, .int r_9), (0, .ref (bP 0)), (1, .ref (bT 0)), (2, .int x2), (3, .int x3), (4, .int x4)]) hx hb dX5_putText_28 hl (by decide) rfl (fun ls hl => ?_)
      refine lv_iload hx hb dX5_putText_30 (lv_at hl 0 rfl) ?_
      obtain ⟨r_11, h_10, hf⟩ := og_b hf
      try dsimp only at hf
      refine xr_SN (v := .int r_11) (rest := []) C (cx_X8_needsEscape l G r_9 r_11 _ h_10) ⟨va_cnB 1 hts gx_X5_X8_needsEscape_65 rfl rfl rfl (hT.2.2.1 ("SchematicText$Page", 65, ⟨"SchematicText", "needsEscape", "(I)Z"⟩, "SchematicText") (by decide +kernel)) (hts (Cond.initialized RX8) (List.mem_cons_of_mem _ mx_32)) hdx_X8_needsEscape ⟨Nat.le_of_ble_eq_true rfl, Nat.le_of_ble_eq_true rfl⟩, hts (Cond.static yX8_needsEscape) (List.mem_cons_of_mem _ mx_253), trivial⟩ hK hA hT hP hD hS rfl hl.1 rfl (Nat.le_of_ble_eq_true rfl) dX5_putText_32 ?_
      refine lv_if_eq (tgt := 44) hx hb dX5_putText_35 (by decide) (fun c_12 => ?_) (fun c_12 => ?_)
      · replace hf := og_t c_12 hf
        exact wx_X5_putText_44 C hK hA hT (fx_X5_putText_9 uT n) (fun _ _ _ _ h9 => ih _ _ _ _ h9) uP x2 x3 x4 r_9 hf hP hD hS (lv_sub hl [1, 2, 3, 4, 5, 0] rfl)
      · replace hf := og_f c_12 hf
        refine lv_aload_n hx hb dX5_putText_38 rfl (lv_at hl 1 rfl) ?_
        refine lv_bipush (v := (92 : Int32)) hx hb dX5_putText_39 (by decide) ?_
        obtain ⟨u_14, h_13, hf⟩ := og_b hf
        try dsimp only at hf
        refine xw_V (ov := none) (st1 := []) (rest := []) (w0 := (cP G bP uP)) (w1 := (cP G bP u_14)) (wr := (cT G bT uT)) (w' := (cT G bT uT ++ cP G bP u_14)) C (cx_X5_put l G bP uP (92 : Int32) u_14 _ h_13) (cwV 1 hts gx_X5_X5_put_20 rfl rfl rfl hdx_X5_put ⟨Nat.le_of_ble_eq_true rfl, Nat.le_of_ble_eq_true rfl⟩) hK hA hT hP hD hS (va_recv hK hP (ci := 2) (q0 := 13) rfl rfl) [13, 14] [0, 1, 2, 3, 4, 5, 6, 7, 8, 9, 10, 11, 12] [0, 1, 2, 3, 4, 5, 6, 7, 8, 9, 10, 11, 12, 13, 14] rfl rfl rfl rfl (by decide) rfl rfl rfl hl.1 rfl rfl (Nat.le_of_ble_eq_true rfl) dX5_putText_41 (fun H locs hP hD hS => ?_)
        exact wx_X5_putText_44 C hK hA hT (fx_X5_putText_9 uT n) (fun _ _ _ _ h9 => ih _ _ _ _ h9) u_14 x2 x3 x4 r_9 hf hP hD hS (lv_sub hl [1, 2, 3, 4, 5, 0] rfl)
def fx_X5_putText (uT : Md) (uP : Md) (x2 : Int32) (x3 : Int32) : Option Md := ((fx_X5_put uP (34 : Int32)).bind fun u_2 => (fx_X5_putText_9 uT FU u_2 x2 x3 (0 : Int32)))
set_option maxHeartbeats 4000000 in
set_option maxRecDepth 100000 in
theorem cx_X5_putText (l : Launch) (G : Gx) (bT : Nat → Nat) (bP : Nat → Nat) (uT : Md) (uP : Md) (x2 : Int32) (x3 : Int32)  (vP : Md) (sz : Nat) (hf : fx_X5_putText uT uP x2 x3 = some vP) : Met l yX5_putText wsx_X5_putText rmx_X5_putText (pX G (cT G bT uT ++ cP G bP uP) sz [.ref (bP 0), .ref (bT 0), .int x2, .int x3]) (qW none (cT G bT uT ++ cP G bP vP) (gD G) (tyG G) (va_A (cT G bT uT ++ cP G bP uP) sz)) 0 0 (va_A (cT G bT uT ++ cP G bP uP) sz) := by
  refine mx_w (cc := cX5_putText) (maxL := 6) (ret := none) (by decide) rfl (Nat.le_of_ble_eq_true rfl) ?_
  intro p e s m below meth c ls A C hl hK hA hT hP hD hS
  have hl : lv_has ls 6 [(0, .ref (bP 0)), (1, .ref (bT 0)), (2, .int x2), (3, .int x3)] := hl
  have hx := C.1.1
  have hb := C.1.2.1
  have hts := C.1.2.2.2.2
  have hown := C.1.2.2.2.1
  have hin7 : ∀ w ∈ wsX70, w ∈ wsx_X5_putText := fun w h => List.mem_cons_of_mem _ (List.mem_append_right _ (List.mem_append_right _ (List.mem_append_right _ (List.mem_append_left _ h))))
  have hin5 : ∀ w ∈ wsX50, w ∈ wsx_X5_putText := fun w h => List.mem_cons_of_mem _ (List.mem_append_right _ (List.mem_append_left _ h))
  unfold fx_X5_putText at hf
  refine lv_aload_n hx hb dX5_putText_0 rfl (lv_at hl 0 rfl) ?_
  refine lv_bipush (v := (34 : Int32)) hx hb dX5_putText_1 (by decide) ?_
  obtain ⟨u_2, h_1, hf⟩ := og_b hf
  try dsimp only at hf
  refine xw_V (ov := none) (st1 := []) (rest := []) (w0 := (cP G bP uP)) (w1 := (cP G bP u_2)) (wr := (cT G bT uT)) (w' := (cT G bT uT ++ cP G bP u_2)) C (cx_X5_put l G bP uP (34 : Int32) u_2 _ h_1) (cwV 1 hts gx_X5_X5_put_20 rfl rfl rfl hdx_X5_put ⟨Nat.le_of_ble_eq_true rfl, Nat.le_of_ble_eq_true rfl⟩) hK hA hT hP hD hS (va_recv hK hP (ci := 2) (q0 := 13) rfl rfl) [13, 14] [0, 1, 2, 3, 4, 5, 6, 7, 8, 9, 10, 11, 12] [0, 1, 2, 3, 4, 5, 6, 7, 8, 9, 10, 11, 12, 13, 14] rfl rfl rfl rfl (by decide) rfl rfl rfl hl.1 rfl rfl (Nat.le_of_ble_eq_true rfl) dX5_putText_3 (fun H locs hP hD hS => ?_)
  refine lv_iconst (v := (0 : Int32)) hx hb dX5_putText_6 (by decide) ?_
  refine lv_istore (lv' := [(4, .int (0 : Int32)), (0, .ref (bP 0)), (1, .ref (bT 0)), (2, .int x2), (3, .int x3)]) hx hb dX5_putText_7 hl (by decide) rfl (fun ls hl => ?_)
  exact wx_X5_putText_9 C hK hA hT FU u_2 x2 x3 (0 : Int32) hf hP hD hS (lv_sub hl [1, 2, 3, 4, 0] rfl)
abbrev rmx_X7_has : Room := { frames := 0, cells := 0, slots := 0, locals := 0 }
noncomputable abbrev wsx_X7_has : List Cond := Cond.code yX7_has cX7_has 2 (some .boolean) :: WAX
theorem hdx_X7_has : yX7_has.cls = RX7 ∧ yX7_has.cls ≠ "java/lang/invoke/MethodHandle" ∧ yX7_has.cls ≠ "java/lang/invoke/VarHandle" ∧ (parseMethodDescriptor yX7_has.desc).map (fun d => d.parameters.length) = some 1 := by decide +kernel
def fx_X7_has (uT : Md) (x1 : Int32) : Option Int32 := (if x1 < 0 then (some (0 : Int32)) else (if (gi uT 13) ≤ x1 then (some (0 : Int32)) else (some (1 : Int32))))
set_option maxHeartbeats 4000000 in
set_option maxRecDepth 100000 in
theorem cx_X7_has (l : Launch) (G : Gx) (bT : Nat → Nat) (uT : Md) (x1 : Int32) (r : Int32) (sz : Nat) (hf : fx_X7_has uT x1 = some r) : Met l yX7_has wsx_X7_has rmx_X7_has (pX G (cT G bT uT) sz [.ref (bT 0), .int x1]) (k2_QcV (.int r)) 0 0 (fun _ => False) := by
  refine mx_r (cc := cX7_has) (maxL := 2) (ret := (some .boolean)) (by decide) rfl (Nat.le_of_ble_eq_true rfl) ?_
  intro p e s m below meth c ls A C hl hK hA hT hP hD hS
  have hl : lv_has ls 2 [(0, .ref (bT 0)), (1, .int x1)] := hl
  have hx := C.1.1
  have hb := C.1.2.1
  have hts := C.1.2.2.2.2
  have hown := C.1.2.2.2.1
  have hin7 : ∀ w ∈ wsX70, w ∈ wsx_X7_has := fun w h => List.mem_cons_of_mem _ (List.mem_append_right _ (List.mem_append_right _ (List.mem_append_right _ (List.mem_append_left _ h))))
  unfold fx_X7_has at hf
  refine lv_iload_n hx hb dX7_has_0 rfl (lv_at hl 1 rfl) ?_
  refine lv_if_lt (tgt := 16) hx hb dX7_has_1 (by decide) (fun c_1 => ?_) (fun c_1 => ?_)
  · replace hf := og_t c_1 hf
    refine lv_iconst (v := (0 : Int32)) hx hb dX7_has_16 (by decide) ?_
    obtain rfl := og_s hf
    exact rt_z C (nz_z (Or.inl rfl)) dX7_has_17
  · replace hf := og_f c_1 hf
    refine lv_iload_n hx hb dX7_has_4 rfl (lv_at hl 1 rfl) ?_
    refine lv_aload_n hx hb dX7_has_5 rfl (lv_at hl 0 rfl) ?_
    refine xg (v := .int (gi uT 13)) (ci := 4) (K := RX7) (T := TX7) (N := 16) C hin7 hK hP 0 rfl rfl 13 (by decide) rfl (hts (Cond.fieldLink RX7 54 "SchematicText$Tree" "count" "I") (List.mem_cons_of_mem _ mx_101)) rfl dX7_has_6 ?_
    refine lv_icmp_ge (tgt := 16) hx hb dX7_has_9 (by decide) (fun c_2 => ?_) (fun c_2 => ?_)
    · replace hf := og_t c_2 hf
      refine lv_iconst (v := (0 : Int32)) hx hb dX7_has_16 (by decide) ?_
      obtain rfl := og_s hf
      exact rt_z C (nz_z (Or.inl rfl)) dX7_has_17
    · replace hf := og_f c_2 hf
      refine lv_iconst (v := (1 : Int32)) hx hb dX7_has_12 (by decide) ?_
      refine lv_goto (tgt := 17) hx hb dX7_has_13 (by decide) ?_
      obtain rfl := og_s hf
      exact rt_z C (nz_z (Or.inr rfl)) dX7_has_17
theorem gx_X7_X7_has_63 {c0 : Cond} : GoodIn (c0 :: WAX) (wsV RX7 63 RX7 yX7_has wsx_X7_has) := gdx_v mx_103 mx_104 mx_105 mx_99 mx_106
abbrev rmx_X7_keptSizeOf : Room := { frames := 1, cells := 0, slots := 0, locals := 21 }
noncomputable abbrev wsx_X7_keptSizeOf : List Cond := Cond.code yX7_keptSizeOf cX7_keptSizeOf 2 (some .int) :: WAX
theorem hdx_X7_keptSizeOf : yX7_keptSizeOf.cls = RX7 ∧ yX7_keptSizeOf.cls ≠ "java/lang/invoke/MethodHandle" ∧ yX7_keptSizeOf.cls ≠ "java/lang/invoke/VarHandle" ∧ (parseMethodDescriptor yX7_keptSizeOf.desc).map (fun d => d.parameters.length) = some 1 := by decide +kernel
def fx_X7_keptSizeOf (uT : Md) (x1 : Int32) : Option Int32 := ((fx_X7_has uT x1).bind fun r_2 => (if r_2 = 0 then (some (0 : Int32)) else (if x1 < 0 ∨ 200 ≤ (x1).toNatClampNeg then none else (some ((ga uT 10) (x1).toNatClampNeg)))))
set_option maxHeartbeats 4000000 in
set_option maxRecDepth 100000 in
theorem cx_X7_keptSizeOf (l : Launch) (G : Gx) (bT : Nat → Nat) (uT : Md) (x1 : Int32) (r : Int32) (sz : Nat) (hf : fx_X7_keptSizeOf uT x1 = some r) : Met l yX7_keptSizeOf wsx_X7_keptSizeOf rmx_X7_keptSizeOf (pX G (cT G bT uT) sz [.ref (bT 0), .int x1]) (k2_QcV (.int r)) 0 0 (fun _ => False) := by
  refine mx_r (cc := cX7_keptSizeOf) (maxL := 2) (ret := (some .int)) (by decide) rfl (Nat.le_of_ble_eq_true rfl) ?_
  intro p e s m below meth c ls A C hl hK hA hT hP hD hS
  have hl : lv_has ls 2 [(0, .ref (bT 0)), (1, .int x1)] := hl
  have hx := C.1.1
  have hb := C.1.2.1
  have hts := C.1.2.2.2.2
  have hown := C.1.2.2.2.1
  have hin7 : ∀ w ∈ wsX70, w ∈ wsx_X7_keptSizeOf := fun w h => List.mem_cons_of_mem _ (List.mem_append_right _ (List.mem_append_right _ (List.mem_append_right _ (List.mem_append_left _ h))))
  unfold fx_X7_keptSizeOf at hf
  refine lv_aload_n hx hb dX7_keptSizeOf_0 rfl (lv_at hl 0 rfl) ?_
  refine lv_iload_n hx hb dX7_keptSizeOf_1 rfl (lv_at hl 1 rfl) ?_
  obtain ⟨r_2, h_1, hf⟩ := og_b hf
  try dsimp only at hf
  refine xr_V (v := .int r_2) (rest := []) (w0 := (cT G bT uT)) C (cx_X7_has l G bT uT x1 r_2 _ h_1) (cwV 1 hts gx_X7_X7_has_63 rfl rfl rfl hdx_X7_has ⟨Nat.le_of_ble_eq_true rfl, Nat.le_of_ble_eq_true rfl⟩) hK hA hT hP hD hS (va_recv hK hP (ci := 4) (q0 := 0) rfl rfl) [0, 1, 2, 3, 4, 5, 6, 7, 8, 9, 10, 11, 12] rfl rfl rfl hl.1 rfl (Nat.le_of_ble_eq_true rfl) dX7_keptSizeOf_2 ?_
  refine lv_if_eq (tgt := 17) hx hb dX7_keptSizeOf_5 (by decide) (fun c_3 => ?_) (fun c_3 => ?_)
  · replace hf := og_t c_3 hf
    refine lv_iconst (v := (0 : Int32)) hx hb dX7_keptSizeOf_17 (by decide) ?_
    obtain rfl := og_s hf
    exact rt_i C dX7_keptSizeOf_18
  · replace hf := og_f c_3 hf
    refine lv_aload_n hx hb dX7_keptSizeOf_8 rfl (lv_at hl 0 rfl) ?_
    refine xg (v := .ref (bT 11)) (ci := 4) (K := RX7) (T := TX7) (N := 16) C hin7 hK hP 0 rfl rfl 10 (by decide) rfl (hts (Cond.fieldLink RX7 44 "SchematicText$Tree" "keptSizes" "[I") (List.mem_cons_of_mem _ mx_139)) rfl dX7_keptSizeOf_9 ?_
    refine lv_iload_n hx hb dX7_keptSizeOf_12 rfl (lv_at hl 1 rfl) ?_
    obtain ⟨h_4, hf⟩ := og_n hf
    refine va_iald (f := (ga uT 10)) hx hb hK hP 11 0 rfl rfl h_4 dX7_keptSizeOf_13 ?_
    refine lv_goto (tgt := 18) hx hb dX7_keptSizeOf_14 (by decide) ?_
    obtain rfl := og_s hf
    exact rt_i C dX7_keptSizeOf_18
theorem gx_X7_X7_keptSizeOf_152 {c0 : Cond} : GoodIn (c0 :: WAX) (wsV RX7 152 RX7 yX7_keptSizeOf wsx_X7_keptSizeOf) := gdx_v mx_392 mx_385 mx_386 mx_99 mx_387
abbrev rmx_X7_keptMark : Room := { frames := 2, cells := 0, slots := 0, locals := 42 }
noncomputable abbrev wsx_X7_keptMark : List Cond := Cond.code yX7_keptMark cX7_keptMark 4 (some .int) :: WAX
theorem hdx_X7_keptMark : yX7_keptMark.cls = RX7 ∧ yX7_keptMark.cls ≠ "java/lang/invoke/MethodHandle" ∧ yX7_keptMark.cls ≠ "java/lang/invoke/VarHandle" ∧ (parseMethodDescriptor yX7_keptMark.desc).map (fun d => d.parameters.length) = some 2 := by decide +kernel
def fx_X7_keptMark (uT : Md) (x1 : Int32) (x2 : Int32) : Option Int32 := (if x2 < 0 then (some (-1 : Int32)) else ((fx_X7_keptSizeOf uT x1).bind fun r_3 => (if x2 < r_3 then (if x1 < 0 ∨ 200 ≤ (x1).toNatClampNeg then none else (if (((ga uT 9) (x1).toNatClampNeg) + x2) < 0 then (some (-1 : Int32)) else (if (2000 : Int32) ≤ (((ga uT 9) (x1).toNatClampNeg) + x2) then (some (-1 : Int32)) else (if (((ga uT 9) (x1).toNatClampNeg) + x2) < 0 ∨ 2000 ≤ ((((ga uT 9) (x1).toNatClampNeg) + x2)).toNatClampNeg then none else (some ((ga uT 11) ((((ga uT 9) (x1).toNatClampNeg) + x2)).toNatClampNeg)))))) else (some (-1 : Int32)))))
set_option maxHeartbeats 4000000 in
set_option maxRecDepth 100000 in
theorem cx_X7_keptMark (l : Launch) (G : Gx) (bT : Nat → Nat) (uT : Md) (x1 : Int32) (x2 : Int32) (r : Int32) (sz : Nat) (hf : fx_X7_keptMark uT x1 x2 = some r) : Met l yX7_keptMark wsx_X7_keptMark rmx_X7_keptMark (pX G (cT G bT uT) sz [.ref (bT 0), .int x1, .int x2]) (k2_QcV (.int r)) 0 0 (fun _ => False) := by
  refine mx_r (cc := cX7_keptMark) (maxL := 4) (ret := (some .int)) (by decide) rfl (Nat.le_of_ble_eq_true rfl) ?_
  intro p e s m below meth c ls A C hl hK hA hT hP hD hS
  have hl : lv_has ls 4 [(0, .ref (bT 0)), (1, .int x1), (2, .int x2)] := hl
  have hx := C.1.1
  have hb := C.1.2.1
  have hts := C.1.2.2.2.2
  have hown := C.1.2.2.2.1
  have hin7 : ∀ w ∈ wsX70, w ∈ wsx_X7_keptMark := fun w h => List.mem_cons_of_mem _ (List.mem_append_right _ (List.mem_append_right _ (List.mem_append_right _ (List.mem_append_left _ h))))
  unfold fx_X7_keptMark at hf
  refine lv_iload_n hx hb dX7_keptMark_0 rfl (lv_at hl 2 rfl) ?_
  refine lv_if_lt (tgt := 13) hx hb dX7_keptMark_1 (by decide) (fun c_1 => ?_) (fun c_1 => ?_)
  · replace hf := og_t c_1 hf
    refine lv_iconst (v := (-1 : Int32)) hx hb dX7_keptMark_13 (by decide) ?_
    obtain rfl := og_s hf
    exact rt_i C dX7_keptMark_14
  · replace hf := og_f c_1 hf
    refine lv_iload_n hx hb dX7_keptMark_4 rfl (lv_at hl 2 rfl) ?_
    refine lv_aload_n hx hb dX7_keptMark_5 rfl (lv_at hl 0 rfl) ?_
    refine lv_iload_n hx hb dX7_keptMark_6 rfl (lv_at hl 1 rfl) ?_
    obtain ⟨r_3, h_2, hf⟩ := og_b hf
    try dsimp only at hf
    refine xr_V (v := .int r_3) (rest := [.int x2]) (w0 := (cT G bT uT)) C (cx_X7_keptSizeOf l G bT uT x1 r_3 _ h_2) (cwV 1 hts gx_X7_X7_keptSizeOf_152 rfl rfl rfl hdx_X7_keptSizeOf ⟨Nat.le_of_ble_eq_true rfl, Nat.le_of_ble_eq_true rfl⟩) hK hA hT hP hD hS (va_recv hK hP (ci := 4) (q0 := 0) rfl rfl) [0, 1, 2, 3, 4, 5, 6, 7, 8, 9, 10, 11, 12] rfl rfl rfl hl.1 rfl (Nat.le_of_ble_eq_true rfl) dX7_keptMark_7 ?_
    refine lv_icmp_lt (tgt := 15) hx hb dX7_keptMark_10 (by decide) (fun c_4 => ?_) (fun c_4 => ?_)
    · replace hf := og_t c_4 hf
      refine lv_aload_n hx hb dX7_keptMark_15 rfl (lv_at hl 0 rfl) ?_
      refine xg (v := .ref (bT 10)) (ci := 4) (K := RX7) (T := TX7) (N := 16) C hin7 hK hP 0 rfl rfl 9 (by decide) rfl (hts (Cond.fieldLink RX7 41 "SchematicText$Tree" "keptFrom" "[I") (List.mem_cons_of_mem _ mx_138)) rfl dX7_keptMark_16 ?_
      refine lv_iload_n hx hb dX7_keptMark_19 rfl (lv_at hl 1 rfl) ?_
      obtain ⟨h_5, hf⟩ := og_n hf
      refine va_iald (f := (ga uT 9)) hx hb hK hP 10 0 rfl rfl h_5 dX7_keptMark_20 ?_
      refine lv_iload_n hx hb dX7_keptMark_21 rfl (lv_at hl 2 rfl) ?_
      refine lv_iadd hx hb dX7_keptMark_22 ?_
      refine lv_istore_n (lv' := [(3, .int (((ga uT 9) (x1).toNatClampNeg) + x2)), (0, .ref (bT 0)), (1, .int x1), (2, .int x2)]) hx hb dX7_keptMark_23 rfl hl (by decide) rfl (fun ls hl => ?_)
      refine lv_iload_n hx hb dX7_keptMark_24 rfl (lv_at hl 0 rfl) ?_
      refine lv_if_lt (tgt := 44) hx hb dX7_keptMark_25 (by decide) (fun c_6 => ?_) (fun c_6 => ?_)
      · replace hf := og_t c_6 hf
        refine lv_iconst (v := (-1 : Int32)) hx hb dX7_keptMark_44 (by decide) ?_
        obtain rfl := og_s hf
        exact rt_i C dX7_keptMark_45
      · replace hf := og_f c_6 hf
        refine lv_iload_n hx hb dX7_keptMark_28 rfl (lv_at hl 0 rfl) ?_
        refine lv_sipush (v := (2000 : Int32)) hx hb dX7_keptMark_29 (by decide) ?_
        refine lv_icmp_ge (tgt := 44) hx hb dX7_keptMark_32 (by decide) (fun c_7 => ?_) (fun c_7 => ?_)
        · replace hf := og_t c_7 hf
          refine lv_iconst (v := (-1 : Int32)) hx hb dX7_keptMark_44 (by decide) ?_
          obtain rfl := og_s hf
          exact rt_i C dX7_keptMark_45
        · replace hf := og_f c_7 hf
          refine lv_aload_n hx hb dX7_keptMark_35 rfl (lv_at hl 1 rfl) ?_
          refine xg (v := .ref (bT 12)) (ci := 4) (K := RX7) (T := TX7) (N := 16) C hin7 hK hP 0 rfl rfl 11 (by decide) rfl (hts (Cond.fieldLink RX7 47 "SchematicText$Tree" "kept" "[C") (List.mem_cons_of_mem _ mx_364)) rfl dX7_keptMark_36 ?_
          refine lv_iload_n hx hb dX7_keptMark_39 rfl (lv_at hl 0 rfl) ?_
          obtain ⟨h_8, hf⟩ := og_n hf
          refine va_cald (f := (ga uT 11)) hx hb hK hP 12 2 rfl rfl h_8 dX7_keptMark_40 ?_
          refine lv_goto (tgt := 45) hx hb dX7_keptMark_41 (by decide) ?_
          obtain rfl := og_s hf
          exact rt_i C dX7_keptMark_45
    · replace hf := og_f c_4 hf
      refine lv_iconst (v := (-1 : Int32)) hx hb dX7_keptMark_13 (by decide) ?_
      obtain rfl := og_s hf
      exact rt_i C dX7_keptMark_14
theorem gx_X5_X7_keptSizeOf_69 {c0 : Cond} : GoodIn (c0 :: WAX) (wsV RX5 69 RX7 yX7_keptSizeOf wsx_X7_keptSizeOf) := gdx_v mx_384 mx_385 mx_386 mx_99 mx_387
theorem gx_X5_X7_keptMark_73 {c0 : Cond} : GoodIn (c0 :: WAX) (wsV RX5 73 RX7 yX7_keptMark wsx_X7_keptMark) := gdx_v mx_388 mx_389 mx_390 mx_99 mx_391
abbrev rmx_X5_putKept : Room := { frames := 3, cells := 0, slots := 0, locals := 65 }
noncomputable abbrev wsx_X5_putKept : List Cond := Cond.code yX5_putKept cX5_putKept 4 none :: WAX
theorem hdx_X5_putKept : yX5_putKept.cls = RX5 ∧ yX5_putKept.cls ≠ "java/lang/invoke/MethodHandle" ∧ yX5_putKept.cls ≠ "java/lang/invoke/VarHandle" ∧ (parseMethodDescriptor yX5_putKept.desc).map (fun d => d.parameters.length) = some 2 := by decide +kernel
def fx_X5_putKept_2 (uT : Md) : Nat → Md → Int32 → Int32 → Option Md
  | 0, _, _, _ => none
  | n + 1, uP, x2, x3 => ((fx_X7_keptSizeOf uT x2).bind fun r_2 => (if r_2 ≤ x3 then (some uP) else ((fx_X7_keptMark uT x2 x3).bind fun r_5 => ((fx_X5_put uP r_5).bind fun u_7 => (fx_X5_putKept_2 uT n u_7 x2 (x3 + (1 : Int32)))))))
set_option maxHeartbeats 4000000 in
set_option maxRecDepth 100000 in
theorem wx_X5_putKept_2 {p : Program} {l : Launch} {e : Env} {s : State} {m : MethodId} {args : Array Value} {below : List Frame} {meth : Method} {c : Code} {G : Gx} {A : Nat → Prop} {bT : Nat → Nat} {bP : Nat → Nat} (C : Cx p s m args meth c cX5_putKept 4 wsx_X5_putKept RX5 none) {uT : Md} (hK : va_K (gD G) vwCl (tyG G) s) (hA : ∀ q : Nat, s.heap.size ≤ q → A q) (hT : ST G A s s.heap) {r : Md} : ∀ (n : Nat), ∀ (uP : Md) (x2 : Int32) (x3 : Int32), fx_X5_putKept_2 uT n uP x2 x3 = some r → ∀ {H : Heap} {locs : List Loc}, va_P (gD G) vwCl (cT G bT uT ++ cP G bP uP) H → va_D A (cT G bT uT ++ cP G bP uP) → va_S A s.heap H locs → ∀ {ls : Array Slot}, lv_has ls 4 [(0, .ref (bP 0)), (1, .ref (bT 0)), (2, .int x2), (3, .int x3)] → W p l e rmx_X5_putKept s m args below meth c H locs 0 0 (MQ below (qW none (cT G bT uT ++ cP G bP r) (gD G) (tyG G) A) args s 0 0 A) (F0 m 2 ls []) := by
  have hx := C.1.1
  have hb := C.1.2.1
  have hts := C.1.2.2.2.2
  have hown := C.1.2.2.2.1
  have hin7 : ∀ w ∈ wsX70, w ∈ wsx_X5_putKept := fun w h => List.mem_cons_of_mem _ (List.mem_append_right _ (List.mem_append_right _ (List.mem_append_right _ (List.mem_append_left _ h))))
  have hin5 : ∀ w ∈ wsX50, w ∈ wsx_X5_putKept := fun w h => List.mem_cons_of_mem _ (List.mem_append_right _ (List.mem_append_left _ h))
  intro n
  induction n with
  | zero =>
    intro uP x2 x3 hf H locs hP hD hS ls hl
    cases hf
  | succ n ih =>
    intro uP x2 x3 hf H locs hP hD hS ls hl
    rw [fx_X5_putKept_2] at hf
    refine lv_iload_n hx hb dX5_putKept_2 rfl (lv_at hl 3 rfl) ?_
    refine lv_aload_n hx hb dX5_putKept_3 rfl (lv_at hl 1 rfl) ?_
    refine lv_iload_n hx hb dX5_putKept_4 rfl (lv_at hl 2 rfl) ?_
    obtain ⟨r_2, h_1, hf⟩ := og_b hf
    try dsimp only at hf
    refine xr_V (v := .int r_2) (rest := [.int x3]) (w0 := (cT G bT uT)) C (cx_X7_keptSizeOf l G bT uT x2 r_2 _ h_1) (cwV 1 hts gx_X5_X7_keptSizeOf_69 rfl rfl rfl hdx_X7_keptSizeOf ⟨Nat.le_of_ble_eq_true rfl, Nat.le_of_ble_eq_true rfl⟩) hK hA hT hP hD hS (va_recv hK hP (ci := 4) (q0 := 0) rfl rfl) [0, 1, 2, 3, 4, 5, 6, 7, 8, 9, 10, 11, 12] rfl rfl rfl hl.1 rfl (Nat.le_of_ble_eq_true rfl) dX5_putKept_5 ?_
    refine lv_icmp_ge (tgt := 27) hx hb dX5_putKept_8 (by decide) (fun c_3 => ?_) (fun c_3 => ?_)
    · replace hf := og_t c_3 hf
      obtain rfl := og_s hf
      exact rw_v C hK hP hD hS dX5_putKept_27
    · replace hf := og_f c_3 hf
      refine lv_aload_n hx hb dX5_putKept_11 rfl (lv_at hl 0 rfl) ?_
      refine lv_aload_n hx hb dX5_putKept_12 rfl (lv_at hl 1 rfl) ?_
      refine lv_iload_n hx hb dX5_putKept_13 rfl (lv_at hl 2 rfl) ?_
      refine lv_iload_n hx hb dX5_putKept_14 rfl (lv_at hl 3 rfl) ?_
      obtain ⟨r_5, h_4, hf⟩ := og_b hf
      try dsimp only at hf
      refine xr_V (v := .int r_5) (rest := [.ref (bP 0)]) (w0 := (cT G bT uT)) C (cx_X7_keptMark l G bT uT x2 x3 r_5 _ h_4) (cwV 2 hts gx_X5_X7_keptMark_73 rfl rfl rfl hdx_X7_keptMark ⟨Nat.le_of_ble_eq_true rfl, Nat.le_of_ble_eq_true rfl⟩) hK hA hT hP hD hS (va_recv hK hP (ci := 4) (q0 := 0) rfl rfl) [0, 1, 2, 3, 4, 5, 6, 7, 8, 9, 10, 11, 12] rfl rfl rfl hl.1 rfl (Nat.le_of_ble_eq_true rfl) dX5_putKept_15 ?_
      obtain ⟨u_7, h_6, hf⟩ := og_b hf
      try dsimp only at hf
      refine xw_V (ov := none) (st1 := []) (rest := []) (w0 := (cP G bP uP)) (w1 := (cP G bP u_7)) (wr := (cT G bT uT)) (w' := (cT G bT uT ++ cP G bP u_7)) C (cx_X5_put l G bP uP r_5 u_7 _ h_6) (cwV 1 hts gx_X5_X5_put_20 rfl rfl rfl hdx_X5_put ⟨Nat.le_of_ble_eq_true rfl, Nat.le_of_ble_eq_true rfl⟩) hK hA hT hP hD hS (va_recv hK hP (ci := 2) (q0 := 13) rfl rfl) [13, 14] [0, 1, 2, 3, 4, 5, 6, 7, 8, 9, 10, 11, 12] [0, 1, 2, 3, 4, 5, 6, 7, 8, 9, 10, 11, 12, 13, 14] rfl rfl rfl rfl (by decide) rfl rfl rfl hl.1 rfl rfl (Nat.le_of_ble_eq_true rfl) dX5_putKept_18 (fun H locs hP hD hS => ?_)
      refine lv_iinc (v := (x3 + (1 : Int32))) (lv' := [(3, .int (x3 + (1 : Int32))), (0, .ref (bP 0)), (1, .ref (bT 0)), (2, .int x2)]) hx hb dX5_putKept_21 hl (k := 3) rfl rfl (by decide) rfl (fun ls hl => ?_)
      refine lv_goto (tgt := 2) hx hb dX5_putKept_24 (by decide) ?_
      exact ih u_7 x2 (x3 + (1 : Int32)) hf hP hD hS (lv_sub hl [1, 2, 3, 0] rfl)
def fx_X5_putKept (uT : Md) (uP : Md) (x2 : Int32) : Option Md := (fx_X5_putKept_2 uT FU uP x2 (0 : Int32))
set_option maxHeartbeats 4000000 in
set_option maxRecDepth 100000 in
theorem cx_X5_putKept (l : Launch) (G : Gx) (bT : Nat → Nat) (bP : Nat → Nat) (uT : Md) (uP : Md) (x2 : Int32)  (vP : Md) (sz : Nat) (hf : fx_X5_putKept uT uP x2 = some vP) : Met l yX5_putKept wsx_X5_putKept rmx_X5_putKept (pX G (cT G bT uT ++ cP G bP uP) sz [.ref (bP 0), .ref (bT 0), .int x2]) (qW none (cT G bT uT ++ cP G bP vP) (gD G) (tyG G) (va_A (cT G bT uT ++ cP G bP uP) sz)) 0 0 (va_A (cT G bT uT ++ cP G bP uP) sz) := by
  refine mx_w (cc := cX5_putKept) (maxL := 4) (ret := none) (by decide) rfl (Nat.le_of_ble_eq_true rfl) ?_
  intro p e s m below meth c ls A C hl hK hA hT hP hD hS
  have hl : lv_has ls 4 [(0, .ref (bP 0)), (1, .ref (bT 0)), (2, .int x2)] := hl
  have hx := C.1.1
  have hb := C.1.2.1
  have hts := C.1.2.2.2.2
  have hown := C.1.2.2.2.1
  have hin7 : ∀ w ∈ wsX70, w ∈ wsx_X5_putKept := fun w h => List.mem_cons_of_mem _ (List.mem_append_right _ (List.mem_append_right _ (List.mem_append_right _ (List.mem_append_left _ h))))
  have hin5 : ∀ w ∈ wsX50, w ∈ wsx_X5_putKept := fun w h => List.mem_cons_of_mem _ (List.mem_append_right _ (List.mem_append_left _ h))
  unfold fx_X5_putKept at hf
  refine lv_iconst (v := (0 : Int32)) hx hb dX5_putKept_0 (by decide) ?_
  refine lv_istore_n (lv' := [(3, .int (0 : Int32)), (0, .ref (bP 0)), (1, .ref (bT 0)), (2, .int x2)]) hx hb dX5_putKept_1 rfl hl (by decide) rfl (fun ls hl => ?_)
  exact wx_X5_putKept_2 C hK hA hT FU uP x2 (0 : Int32) hf hP hD hS (lv_sub hl [1, 2, 3, 0] rfl)
